/-! NEW CELLS: rules, rows of the constructors (written by gen/ginit.py) -/
section
variable {X : ab_X} {k pc : Nat} {f cl sl : Nat} {L st : List ab_V} {σ : ab_S} {Q : Option ab_V → ab_S → Prop} {cc : ByteArray} {a z n : Int}
theorem ab_r_new {i o c N : Nat} {t : Int} (hi : decide (i < 1000) = true) (ho : ab_ow k = o) (hm : ab_lk ab_pC (1000 * o + i) = some c) (hc14 : c < 14) (hN : ab_N c = N) (ht : (c : Int) + 1 = t) (hc : ab_code k = cc) (hd : decode cc pc = .ok (.new i, 3)) : ab_Run X k pc (f, cl, sl) L st σ Q ↔ (1 ≤ cl ∧ N ≤ sl) ∧ ab_Run X k (pc + 3) (f, cl - 1, sl - N) L (ab_R σ.1 :: st) (ab_new σ t 0) Q := ab_Run_if inferInstance (by
  rw [ab_stp hc hd ⟨Or.inr rfl, hi⟩]
  unfold ab_ex
  dsimp only
  rw [ho, hm]
  subst hN ht
  dsimp only
  by_cases h : 1 ≤ cl ∧ ab_N c ≤ sl
  · rw [if_pos ⟨hc14, h⟩, if_pos h]
  · rw [if_neg (fun u => h u.2), if_neg h])
theorem ab_r_newarray {g : Nat} {ty : ArrayType} {t : Int} (hg : ab_nka ty = some g) (ht : 21 + (g : Int) = t) (hc : ab_code k = cc) (hd : decode cc pc = .ok (.newarray ty, 2)) : ab_Run X k pc (f, cl, sl) L (ab_I n :: st) σ Q ↔ (0 ≤ n ∧ n ≤ 60000 ∧ 1 ≤ cl ∧ n.toNat ≤ sl) ∧ ab_Run X k (pc + 2) (f, cl - 1, sl - n.toNat) L (ab_R σ.1 :: st) (ab_new σ t n) Q := ab_Run_if inferInstance (by
  rw [ab_stp hc hd ⟨Or.inr rfl, rfl⟩]
  unfold ab_ex
  dsimp only
  rw [hg]
  subst ht
  rfl)
theorem ab_r_anewarray {i o c g : Nat} {t : Int} (hi : decide (i < 1000) = true) (ho : ab_ow k = o) (hm : ab_lk ab_pC (1000 * o + i) = some c) (hg : ab_arr c = some g) (ht : 21 + (g : Int) = t) (hc : ab_code k = cc) (hd : decode cc pc = .ok (.anewarray i, 3)) : ab_Run X k pc (f, cl, sl) L (ab_I n :: st) σ Q ↔ (0 ≤ n ∧ n ≤ 60000 ∧ 1 ≤ cl ∧ n.toNat ≤ sl) ∧ ab_Run X k (pc + 3) (f, cl - 1, sl - n.toNat) L (ab_R σ.1 :: st) (ab_new σ t n) Q := ab_Run_if inferInstance (by
  rw [ab_stp hc hd ⟨Or.inr rfl, hi⟩]
  unfold ab_ex
  dsimp only
  rw [ho, hm]
  dsimp only
  rw [hg]
  subst ht
  rfl)
theorem ab_r_multi {n2 : Int} (hk : k = ab_kgi) (hc : ab_code k = cc) (hd : decode cc pc = .ok (.multianewarray 27 2, 4)) : ab_Run X k pc (f, cl, sl) L (ab_I n2 :: ab_I n :: st) σ Q ↔ (0 ≤ n ∧ n ≤ 1000 ∧ 0 ≤ n2 ∧ n2 ≤ 1000 ∧ 1 + n.toNat ≤ cl ∧ n.toNat + n.toNat * n2.toNat ≤ sl) ∧ ab_Run X k (pc + 4) (f, cl - (1 + n.toNat), sl - (n.toNat + n.toNat * n2.toNat)) L (ab_R σ.1 :: st) (ab_mul σ n n2) Q := ab_Run_if inferInstance (by
  rw [ab_stp hc hd ⟨Or.inr rfl, rfl⟩]
  unfold ab_ex
  dsimp only
  by_cases h : 0 ≤ n ∧ n ≤ 1000 ∧ 0 ≤ n2 ∧ n2 ≤ 1000 ∧ 1 + n.toNat ≤ cl ∧ n.toNat + n.toNat * n2.toNat ≤ sl
  · rw [if_pos ⟨hk, rfl, rfl, h⟩, if_pos h]
  · rw [if_neg (fun u => h u.2.2.2), if_neg h])
theorem ab_r_obj {i o n' : Nat} (hi : i < 1000) (ho : ab_ow k = o) (hm : ab_lk ab_pM (1000 * o + i) = some (1000, n')) (hc : ab_code k = cc) (hd : decode cc pc = .ok (.invokespecial i, 3)) : ab_Run X k pc (f, cl, sl) L (ab_R a :: st) σ Q ↔ (0 < a ∧ 1 ≤ f ∧ ab_cats st ≤ 8) ∧ ab_Run X k (pc + 3) (f, cl, sl) L st σ Q := by
  refine ab_Run_if inferInstance ?_
  rw [ab_stp hc hd ⟨Or.inr rfl, decide_eq_true hi⟩]
  have hex : ab_ex X k pc (f, cl, sl) L (ab_R a :: st) σ (.invokespecial i) 3 = ab_inv 2 k pc i (f, cl, sl) L (ab_R a :: st) σ := rfl
  rw [hex]
  unfold ab_inv
  rw [show ab_mth k i = some (1000, n') by unfold ab_mth; rw [ho]; exact hm]
  dsimp only
  rw [if_pos rfl]
  rfl
theorem ab_r_putF {i o c g nn : Nat} {v : ab_V} {c1 fi : Int} (hi : decide (i < 1000) = true) (ho : ab_ow k = o) (hf : ab_lk ab_pF (1000 * o + i) = some (c, g, nn)) (hN : g < ab_N c) (hkd : ab_kd k = 2) (hoc : o = c) (hn0 : nn = 0) (hc1 : (c : Int) + 1 = c1) (hfi : (g : Int) = fi) (hty : ab_put (ab_ty c g) v = some z) (hc : ab_code k = cc) (hd : decode cc pc = .ok (.putfield i, 3)) : ab_Run X k pc (f, cl, sl) L (v :: ab_R a :: st) σ Q ↔ (ab_sh σ a).1 = c1 ∧ ab_Run X k (pc + 3) (f, cl, sl) L st (ab_wr σ a fi z) Q := ab_Run_if inferInstance (by
  rw [ab_stp hc hd ⟨Or.inr rfl, hi⟩]
  unfold ab_ex ab_fld
  dsimp only
  rw [ho, hf]
  dsimp only
  rw [hty]
  subst hc1 hfi
  by_cases h : (ab_sh σ a).1 = (c : Int) + 1
  · rw [if_pos ⟨h, hN, Or.inr ⟨hkd, hoc, hn0⟩⟩, if_pos h]
  · rw [if_neg (fun u => h u.1), if_neg h])
end
theorem dX11_init_0 : decode cX11_init 0 = .ok (.aload_n 0, 1) := by decide +kernel
theorem dX11_init_1 : decode cX11_init 1 = .ok (.invokespecial 1, 3) := by decide +kernel
theorem dX11_init_4 : decode cX11_init 4 = .ok (.aload_n 0, 1) := by decide +kernel
theorem dX11_init_5 : decode cX11_init 5 = .ok (.new 7, 3) := by decide +kernel
theorem dX11_init_8 : decode cX11_init 8 = .ok (.dup, 1) := by decide +kernel
theorem dX11_init_9 : decode cX11_init 9 = .ok (.invokespecial 9, 3) := by decide +kernel
theorem dX11_init_12 : decode cX11_init 12 = .ok (.putfield 10, 3) := by decide +kernel
theorem dX11_init_15 : decode cX11_init 15 = .ok (.aload_n 0, 1) := by decide +kernel
theorem dX11_init_16 : decode cX11_init 16 = .ok (.new 16, 3) := by decide +kernel
theorem dX11_init_19 : decode cX11_init 19 = .ok (.dup, 1) := by decide +kernel
theorem dX11_init_20 : decode cX11_init 20 = .ok (.invokespecial 18, 3) := by decide +kernel
theorem dX11_init_23 : decode cX11_init 23 = .ok (.putfield 19, 3) := by decide +kernel
theorem dX11_init_26 : decode cX11_init 26 = .ok (.aload_n 0, 1) := by decide +kernel
theorem dX11_init_27 : decode cX11_init 27 = .ok (.new 23, 3) := by decide +kernel
theorem dX11_init_30 : decode cX11_init 30 = .ok (.dup, 1) := by decide +kernel
theorem dX11_init_31 : decode cX11_init 31 = .ok (.invokespecial 25, 3) := by decide +kernel
theorem dX11_init_34 : decode cX11_init 34 = .ok (.putfield 26, 3) := by decide +kernel
theorem dX11_init_37 : decode cX11_init 37 = .ok (.aload_n 0, 1) := by decide +kernel
theorem dX11_init_38 : decode cX11_init 38 = .ok (.new 30, 3) := by decide +kernel
theorem dX11_init_41 : decode cX11_init 41 = .ok (.dup, 1) := by decide +kernel
theorem dX11_init_42 : decode cX11_init 42 = .ok (.invokespecial 32, 3) := by decide +kernel
theorem dX11_init_45 : decode cX11_init 45 = .ok (.putfield 33, 3) := by decide +kernel
theorem dX11_init_48 : decode cX11_init 48 = .ok (.aload_n 0, 1) := by decide +kernel
theorem dX11_init_49 : decode cX11_init 49 = .ok (.new 37, 3) := by decide +kernel
theorem dX11_init_52 : decode cX11_init 52 = .ok (.dup, 1) := by decide +kernel
theorem dX11_init_53 : decode cX11_init 53 = .ok (.invokespecial 39, 3) := by decide +kernel
theorem dX11_init_56 : decode cX11_init 56 = .ok (.putfield 40, 3) := by decide +kernel
theorem dX11_init_59 : decode cX11_init 59 = .ok (.aload_n 0, 1) := by decide +kernel
theorem dX11_init_60 : decode cX11_init 60 = .ok (.new 44, 3) := by decide +kernel
theorem dX11_init_63 : decode cX11_init 63 = .ok (.dup, 1) := by decide +kernel
theorem dX11_init_64 : decode cX11_init 64 = .ok (.invokespecial 46, 3) := by decide +kernel
theorem dX11_init_67 : decode cX11_init 67 = .ok (.putfield 47, 3) := by decide +kernel
theorem dX11_init_70 : decode cX11_init 70 = .ok (.aload_n 0, 1) := by decide +kernel
theorem dX11_init_71 : decode cX11_init 71 = .ok (.bipush 8, 2) := by decide +kernel
theorem dX11_init_73 : decode cX11_init 73 = .ok (.newarray .int, 2) := by decide +kernel
theorem dX11_init_75 : decode cX11_init 75 = .ok (.putfield 51, 3) := by decide +kernel
theorem dX11_init_78 : decode cX11_init 78 = .ok (.aload_n 0, 1) := by decide +kernel
theorem dX11_init_79 : decode cX11_init 79 = .ok (.new 55, 3) := by decide +kernel
theorem dX11_init_82 : decode cX11_init 82 = .ok (.dup, 1) := by decide +kernel
theorem dX11_init_83 : decode cX11_init 83 = .ok (.invokespecial 57, 3) := by decide +kernel
theorem dX11_init_86 : decode cX11_init 86 = .ok (.putfield 58, 3) := by decide +kernel
theorem dX11_init_89 : decode cX11_init 89 = .ok (.aload_n 0, 1) := by decide +kernel
theorem dX11_init_90 : decode cX11_init 90 = .ok (.iconst 0, 1) := by decide +kernel
theorem dX11_init_91 : decode cX11_init 91 = .ok (.putfield 62, 3) := by decide +kernel
theorem dX11_init_94 : decode cX11_init 94 = .ok (.return_, 1) := by decide +kernel
theorem dX13_init_0 : decode cX13_init 0 = .ok (.aload_n 0, 1) := by decide +kernel
theorem dX13_init_1 : decode cX13_init 1 = .ok (.invokespecial 3, 3) := by decide +kernel
theorem dX13_init_4 : decode cX13_init 4 = .ok (.aload_n 0, 1) := by decide +kernel
theorem dX13_init_5 : decode cX13_init 5 = .ok (.iconst (-1), 1) := by decide +kernel
theorem dX13_init_6 : decode cX13_init 6 = .ok (.putfield 9, 3) := by decide +kernel
theorem dX13_init_9 : decode cX13_init 9 = .ok (.aload_n 0, 1) := by decide +kernel
theorem dX13_init_10 : decode cX13_init 10 = .ok (.sipush 1000, 3) := by decide +kernel
theorem dX13_init_13 : decode cX13_init 13 = .ok (.newarray .byte, 2) := by decide +kernel
theorem dX13_init_15 : decode cX13_init 15 = .ok (.putfield 13, 3) := by decide +kernel
theorem dX13_init_18 : decode cX13_init 18 = .ok (.aload_n 0, 1) := by decide +kernel
theorem dX13_init_19 : decode cX13_init 19 = .ok (.bipush 18, 2) := by decide +kernel
theorem dX13_init_21 : decode cX13_init 21 = .ok (.newarray .int, 2) := by decide +kernel
theorem dX13_init_23 : decode cX13_init 23 = .ok (.putfield 17, 3) := by decide +kernel
theorem dX13_init_26 : decode cX13_init 26 = .ok (.aload_n 0, 1) := by decide +kernel
theorem dX13_init_27 : decode cX13_init 27 = .ok (.sipush 288, 3) := by decide +kernel
theorem dX13_init_30 : decode cX13_init 30 = .ok (.newarray .int, 2) := by decide +kernel
theorem dX13_init_32 : decode cX13_init 32 = .ok (.putfield 21, 3) := by decide +kernel
theorem dX13_init_35 : decode cX13_init 35 = .ok (.aload_n 0, 1) := by decide +kernel
theorem dX13_init_36 : decode cX13_init 36 = .ok (.bipush 54, 2) := by decide +kernel
theorem dX13_init_38 : decode cX13_init 38 = .ok (.newarray .int, 2) := by decide +kernel
theorem dX13_init_40 : decode cX13_init 40 = .ok (.putfield 24, 3) := by decide +kernel
theorem dX13_init_43 : decode cX13_init 43 = .ok (.aload_n 0, 1) := by decide +kernel
theorem dX13_init_44 : decode cX13_init 44 = .ok (.iconst 2, 1) := by decide +kernel
theorem dX13_init_45 : decode cX13_init 45 = .ok (.newarray .int, 2) := by decide +kernel
theorem dX13_init_47 : decode cX13_init 47 = .ok (.putfield 27, 3) := by decide +kernel
theorem dX13_init_50 : decode cX13_init 50 = .ok (.aload_n 0, 1) := by decide +kernel
theorem dX13_init_51 : decode cX13_init 51 = .ok (.iconst 2, 1) := by decide +kernel
theorem dX13_init_52 : decode cX13_init 52 = .ok (.newarray .int, 2) := by decide +kernel
theorem dX13_init_54 : decode cX13_init 54 = .ok (.putfield 30, 3) := by decide +kernel
theorem dX13_init_57 : decode cX13_init 57 = .ok (.aload_n 0, 1) := by decide +kernel
theorem dX13_init_58 : decode cX13_init 58 = .ok (.iconst 2, 1) := by decide +kernel
theorem dX13_init_59 : decode cX13_init 59 = .ok (.newarray .boolean, 2) := by decide +kernel
theorem dX13_init_61 : decode cX13_init 61 = .ok (.putfield 33, 3) := by decide +kernel
theorem dX13_init_64 : decode cX13_init 64 = .ok (.aload_n 0, 1) := by decide +kernel
theorem dX13_init_65 : decode cX13_init 65 = .ok (.sipush 144, 3) := by decide +kernel
theorem dX13_init_68 : decode cX13_init 68 = .ok (.newarray .long, 2) := by decide +kernel
theorem dX13_init_70 : decode cX13_init 70 = .ok (.putfield 37, 3) := by decide +kernel
theorem dX13_init_73 : decode cX13_init 73 = .ok (.aload_n 0, 1) := by decide +kernel
theorem dX13_init_74 : decode cX13_init 74 = .ok (.sipush 144, 3) := by decide +kernel
theorem dX13_init_77 : decode cX13_init 77 = .ok (.newarray .long, 2) := by decide +kernel
theorem dX13_init_79 : decode cX13_init 79 = .ok (.putfield 41, 3) := by decide +kernel
theorem dX13_init_82 : decode cX13_init 82 = .ok (.aload_n 0, 1) := by decide +kernel
theorem dX13_init_83 : decode cX13_init 83 = .ok (.bipush 9, 2) := by decide +kernel
theorem dX13_init_85 : decode cX13_init 85 = .ok (.newarray .int, 2) := by decide +kernel
theorem dX13_init_87 : decode cX13_init 87 = .ok (.putfield 44, 3) := by decide +kernel
theorem dX13_init_90 : decode cX13_init 90 = .ok (.aload_n 0, 1) := by decide +kernel
theorem dX13_init_91 : decode cX13_init 91 = .ok (.bipush 6, 2) := by decide +kernel
theorem dX13_init_93 : decode cX13_init 93 = .ok (.newarray .int, 2) := by decide +kernel
theorem dX13_init_95 : decode cX13_init 95 = .ok (.putfield 47, 3) := by decide +kernel
theorem dX13_init_98 : decode cX13_init 98 = .ok (.aload_n 0, 1) := by decide +kernel
theorem dX13_init_99 : decode cX13_init 99 = .ok (.bipush 6, 2) := by decide +kernel
theorem dX13_init_101 : decode cX13_init 101 = .ok (.newarray .int, 2) := by decide +kernel
theorem dX13_init_103 : decode cX13_init 103 = .ok (.putfield 50, 3) := by decide +kernel
theorem dX13_init_106 : decode cX13_init 106 = .ok (.return_, 1) := by decide +kernel
theorem dX7_init_0 : decode cX7_init 0 = .ok (.aload_n 0, 1) := by decide +kernel
theorem dX7_init_1 : decode cX7_init 1 = .ok (.invokespecial 3, 3) := by decide +kernel
theorem dX7_init_4 : decode cX7_init 4 = .ok (.aload_n 0, 1) := by decide +kernel
theorem dX7_init_5 : decode cX7_init 5 = .ok (.new 9, 3) := by decide +kernel
theorem dX7_init_8 : decode cX7_init 8 = .ok (.dup, 1) := by decide +kernel
theorem dX7_init_9 : decode cX7_init 9 = .ok (.invokespecial 11, 3) := by decide +kernel
theorem dX7_init_12 : decode cX7_init 12 = .ok (.putfield 12, 3) := by decide +kernel
theorem dX7_init_15 : decode cX7_init 15 = .ok (.aload_n 0, 1) := by decide +kernel
theorem dX7_init_16 : decode cX7_init 16 = .ok (.new 18, 3) := by decide +kernel
theorem dX7_init_19 : decode cX7_init 19 = .ok (.dup, 1) := by decide +kernel
theorem dX7_init_20 : decode cX7_init 20 = .ok (.invokespecial 20, 3) := by decide +kernel
theorem dX7_init_23 : decode cX7_init 23 = .ok (.putfield 21, 3) := by decide +kernel
theorem dX7_init_26 : decode cX7_init 26 = .ok (.return_, 1) := by decide +kernel
section
variable {X : ab_X} {f cl sl : Nat} {σ : ab_S} {Q : Option ab_V → ab_S → Prop} {L st : List ab_V} {a b z v i j n n2 x1 x2 x3 x4 x5 x6 x7 x8 : Int} {l0 l1 l2 l3 l4 l5 l6 l7 l8 : ab_V}
theorem kc_X0_init : ab_code 0 = cX0_init := rfl
theorem ko_X0_init : ab_ow 0 = 0 := rfl
theorem rX0_init_0 : ab_Run X 0 0 (f, cl, sl) [ab_R z] st σ Q ↔ z ≠ 0 ∧ ab_Run X 0 1 (f, cl, sl) [ab_R z] (ab_R z :: st) σ Q := ab_r_aload_n rfl kc_X0_init dX0_init_0
theorem rX0_init_1 : ab_Run X 0 1 (f, cl, sl) L (ab_R a :: st) σ Q ↔ (0 < a ∧ 1 ≤ f ∧ ab_cats st ≤ 8) ∧ ab_Run X 0 4 (f, cl, sl) L st σ Q := ab_r_obj (by decide) ko_X0_init qM_0_3 kc_X0_init dX0_init_1
theorem rX0_init_4 : ab_Run X 0 4 (f, cl, sl) [ab_R z] st σ Q ↔ z ≠ 0 ∧ ab_Run X 0 5 (f, cl, sl) [ab_R z] (ab_R z :: st) σ Q := ab_r_aload_n rfl kc_X0_init dX0_init_4
theorem rX0_init_5 : ab_Run X 0 5 (f, cl, sl) L st σ Q ↔ ab_Run X 0 7 (f, cl, sl) L (ab_I 6 :: st) σ Q := ab_r_bipush (by decide) kc_X0_init dX0_init_5
theorem rX0_init_7 : ab_Run X 0 7 (f, cl, sl) L (ab_I n :: st) σ Q ↔ (0 ≤ n ∧ n ≤ 60000 ∧ 1 ≤ cl ∧ n.toNat ≤ sl) ∧ ab_Run X 0 9 (f, cl - 1, sl - n.toNat) L (ab_R σ.1 :: st) (ab_new σ 21 n) Q := ab_r_newarray rfl rfl kc_X0_init dX0_init_7
theorem rX0_init_9 : ab_Run X 0 9 (f, cl, sl) L (ab_R z :: ab_R a :: st) σ Q ↔ (ab_sh σ a).1 = 1 ∧ ab_Run X 0 12 (f, cl, sl) L st (ab_wr σ a 1 z) Q := ab_r_putF rfl ko_X0_init qF_0_9 (by decide) rfl rfl rfl rfl rfl rfl kc_X0_init dX0_init_9
theorem rX0_init_12 : ab_Run X 0 12 (f, cl, sl) [ab_R z] st σ Q ↔ z ≠ 0 ∧ ab_Run X 0 13 (f, cl, sl) [ab_R z] (ab_R z :: st) σ Q := ab_r_aload_n rfl kc_X0_init dX0_init_12
theorem rX0_init_13 : ab_Run X 0 13 (f, cl, sl) L st σ Q ↔ ab_Run X 0 15 (f, cl, sl) L (ab_I 6 :: st) σ Q := ab_r_bipush (by decide) kc_X0_init dX0_init_13
theorem rX0_init_15 : ab_Run X 0 15 (f, cl, sl) L (ab_I n :: st) σ Q ↔ (0 ≤ n ∧ n ≤ 60000 ∧ 1 ≤ cl ∧ n.toNat ≤ sl) ∧ ab_Run X 0 17 (f, cl - 1, sl - n.toNat) L (ab_R σ.1 :: st) (ab_new σ 21 n) Q := ab_r_newarray rfl rfl kc_X0_init dX0_init_15
theorem rX0_init_17 : ab_Run X 0 17 (f, cl, sl) L (ab_R z :: ab_R a :: st) σ Q ↔ (ab_sh σ a).1 = 1 ∧ ab_Run X 0 20 (f, cl, sl) L st (ab_wr σ a 2 z) Q := ab_r_putF rfl ko_X0_init qF_0_15 (by decide) rfl rfl rfl rfl rfl rfl kc_X0_init dX0_init_17
theorem rX0_init_20 : ab_Run X 0 20 (f, cl, sl) [ab_R z] st σ Q ↔ z ≠ 0 ∧ ab_Run X 0 21 (f, cl, sl) [ab_R z] (ab_R z :: st) σ Q := ab_r_aload_n rfl kc_X0_init dX0_init_20
theorem rX0_init_21 : ab_Run X 0 21 (f, cl, sl) L st σ Q ↔ ab_Run X 0 23 (f, cl, sl) L (ab_I 7 :: st) σ Q := ab_r_bipush (by decide) kc_X0_init dX0_init_21
theorem rX0_init_23 : ab_Run X 0 23 (f, cl, sl) L (ab_I n :: st) σ Q ↔ (0 ≤ n ∧ n ≤ 60000 ∧ 1 ≤ cl ∧ n.toNat ≤ sl) ∧ ab_Run X 0 25 (f, cl - 1, sl - n.toNat) L (ab_R σ.1 :: st) (ab_new σ 21 n) Q := ab_r_newarray rfl rfl kc_X0_init dX0_init_23
theorem rX0_init_25 : ab_Run X 0 25 (f, cl, sl) L (ab_R z :: ab_R a :: st) σ Q ↔ (ab_sh σ a).1 = 1 ∧ ab_Run X 0 28 (f, cl, sl) L st (ab_wr σ a 3 z) Q := ab_r_putF rfl ko_X0_init qF_0_18 (by decide) rfl rfl rfl rfl rfl rfl kc_X0_init dX0_init_25
theorem rX0_init_28 : ab_Run X 0 28 (f, cl, sl) [ab_R z] st σ Q ↔ z ≠ 0 ∧ ab_Run X 0 29 (f, cl, sl) [ab_R z] (ab_R z :: st) σ Q := ab_r_aload_n rfl kc_X0_init dX0_init_28
theorem rX0_init_29 : ab_Run X 0 29 (f, cl, sl) L st σ Q ↔ ab_Run X 0 31 (f, cl, sl) L (ab_I 7 :: st) σ Q := ab_r_bipush (by decide) kc_X0_init dX0_init_29
theorem rX0_init_31 : ab_Run X 0 31 (f, cl, sl) L (ab_I n :: st) σ Q ↔ (0 ≤ n ∧ n ≤ 60000 ∧ 1 ≤ cl ∧ n.toNat ≤ sl) ∧ ab_Run X 0 33 (f, cl - 1, sl - n.toNat) L (ab_R σ.1 :: st) (ab_new σ 21 n) Q := ab_r_newarray rfl rfl kc_X0_init dX0_init_31
theorem rX0_init_33 : ab_Run X 0 33 (f, cl, sl) L (ab_R z :: ab_R a :: st) σ Q ↔ (ab_sh σ a).1 = 1 ∧ ab_Run X 0 36 (f, cl, sl) L st (ab_wr σ a 4 z) Q := ab_r_putF rfl ko_X0_init qF_0_21 (by decide) rfl rfl rfl rfl rfl rfl kc_X0_init dX0_init_33
theorem rX0_init_36 : ab_Run X 0 36 (f, cl, sl) [ab_R z] st σ Q ↔ z ≠ 0 ∧ ab_Run X 0 37 (f, cl, sl) [ab_R z] (ab_R z :: st) σ Q := ab_r_aload_n rfl kc_X0_init dX0_init_36
theorem rX0_init_37 : ab_Run X 0 37 (f, cl, sl) L st σ Q ↔ ab_Run X 0 39 (f, cl, sl) L (ab_I 7 :: st) σ Q := ab_r_bipush (by decide) kc_X0_init dX0_init_37
theorem rX0_init_39 : ab_Run X 0 39 (f, cl, sl) L (ab_I n :: st) σ Q ↔ (0 ≤ n ∧ n ≤ 60000 ∧ 1 ≤ cl ∧ n.toNat ≤ sl) ∧ ab_Run X 0 41 (f, cl - 1, sl - n.toNat) L (ab_R σ.1 :: st) (ab_new σ 21 n) Q := ab_r_newarray rfl rfl kc_X0_init dX0_init_39
theorem rX0_init_41 : ab_Run X 0 41 (f, cl, sl) L (ab_R z :: ab_R a :: st) σ Q ↔ (ab_sh σ a).1 = 1 ∧ ab_Run X 0 44 (f, cl, sl) L st (ab_wr σ a 5 z) Q := ab_r_putF rfl ko_X0_init qF_0_24 (by decide) rfl rfl rfl rfl rfl rfl kc_X0_init dX0_init_41
theorem rX0_init_44 : ab_Run X 0 44 (f, cl, sl) L [] σ Q ↔ Q none σ := ab_r_return rfl kc_X0_init dX0_init_44
theorem kc_X1_init : ab_code 5 = cX1_init := rfl
theorem ko_X1_init : ab_ow 5 = 1 := rfl
theorem rX1_init_0 : ab_Run X 5 0 (f, cl, sl) [ab_R z] st σ Q ↔ z ≠ 0 ∧ ab_Run X 5 1 (f, cl, sl) [ab_R z] (ab_R z :: st) σ Q := ab_r_aload_n rfl kc_X1_init dX1_init_0
theorem rX1_init_1 : ab_Run X 5 1 (f, cl, sl) L (ab_R a :: st) σ Q ↔ (0 < a ∧ 1 ≤ f ∧ ab_cats st ≤ 8) ∧ ab_Run X 5 4 (f, cl, sl) L st σ Q := ab_r_obj (by decide) ko_X1_init qM_1_3 kc_X1_init dX1_init_1
theorem rX1_init_4 : ab_Run X 5 4 (f, cl, sl) [ab_R z] st σ Q ↔ z ≠ 0 ∧ ab_Run X 5 5 (f, cl, sl) [ab_R z] (ab_R z :: st) σ Q := ab_r_aload_n rfl kc_X1_init dX1_init_4
theorem rX1_init_5 : ab_Run X 5 5 (f, cl, sl) L st σ Q ↔ ab_Run X 5 6 (f, cl, sl) L (ab_I 2 :: st) σ Q := ab_r_iconst (by decide) kc_X1_init dX1_init_5
theorem rX1_init_6 : ab_Run X 5 6 (f, cl, sl) L (ab_I n :: st) σ Q ↔ (0 ≤ n ∧ n ≤ 60000 ∧ 1 ≤ cl ∧ n.toNat ≤ sl) ∧ ab_Run X 5 8 (f, cl - 1, sl - n.toNat) L (ab_R σ.1 :: st) (ab_new σ 21 n) Q := ab_r_newarray rfl rfl kc_X1_init dX1_init_6
theorem rX1_init_8 : ab_Run X 5 8 (f, cl, sl) L (ab_R z :: ab_R a :: st) σ Q ↔ (ab_sh σ a).1 = 2 ∧ ab_Run X 5 11 (f, cl, sl) L st (ab_wr σ a 3 z) Q := ab_r_putF rfl ko_X1_init qF_1_9 (by decide) rfl rfl rfl rfl rfl rfl kc_X1_init dX1_init_8
theorem rX1_init_11 : ab_Run X 5 11 (f, cl, sl) [ab_R z] st σ Q ↔ z ≠ 0 ∧ ab_Run X 5 12 (f, cl, sl) [ab_R z] (ab_R z :: st) σ Q := ab_r_aload_n rfl kc_X1_init dX1_init_11
theorem rX1_init_12 : ab_Run X 5 12 (f, cl, sl) L st σ Q ↔ ab_Run X 5 14 (f, cl, sl) L (ab_I 12 :: st) σ Q := ab_r_bipush (by decide) kc_X1_init dX1_init_12
theorem rX1_init_14 : ab_Run X 5 14 (f, cl, sl) L (ab_I n :: st) σ Q ↔ (0 ≤ n ∧ n ≤ 60000 ∧ 1 ≤ cl ∧ n.toNat ≤ sl) ∧ ab_Run X 5 16 (f, cl - 1, sl - n.toNat) L (ab_R σ.1 :: st) (ab_new σ 21 n) Q := ab_r_newarray rfl rfl kc_X1_init dX1_init_14
theorem rX1_init_16 : ab_Run X 5 16 (f, cl, sl) L (ab_R z :: ab_R a :: st) σ Q ↔ (ab_sh σ a).1 = 2 ∧ ab_Run X 5 19 (f, cl, sl) L st (ab_wr σ a 4 z) Q := ab_r_putF rfl ko_X1_init qF_1_15 (by decide) rfl rfl rfl rfl rfl rfl kc_X1_init dX1_init_16
theorem rX1_init_19 : ab_Run X 5 19 (f, cl, sl) L [] σ Q ↔ Q none σ := ab_r_return rfl kc_X1_init dX1_init_19
theorem kc_X2_init : ab_code 11 = cX2_init := rfl
theorem ko_X2_init : ab_ow 11 = 2 := rfl
theorem rX2_init_0 : ab_Run X 11 0 (f, cl, sl) [ab_R z, l1] st σ Q ↔ z ≠ 0 ∧ ab_Run X 11 1 (f, cl, sl) [ab_R z, l1] (ab_R z :: st) σ Q := ab_r_aload_n rfl kc_X2_init dX2_init_0
theorem rX2_init_1 : ab_Run X 11 1 (f, cl, sl) L (ab_R a :: st) σ Q ↔ (0 < a ∧ 1 ≤ f ∧ ab_cats st ≤ 8) ∧ ab_Run X 11 4 (f, cl, sl) L st σ Q := ab_r_obj (by decide) ko_X2_init qM_2_3 kc_X2_init dX2_init_1
theorem rX2_init_4 : ab_Run X 11 4 (f, cl, sl) [ab_R z, l1] st σ Q ↔ z ≠ 0 ∧ ab_Run X 11 5 (f, cl, sl) [ab_R z, l1] (ab_R z :: st) σ Q := ab_r_aload_n rfl kc_X2_init dX2_init_4
theorem rX2_init_5 : ab_Run X 11 5 (f, cl, sl) L st σ Q ↔ ab_Run X 11 7 (f, cl, sl) L (ab_I 12 :: st) σ Q := ab_r_bipush (by decide) kc_X2_init dX2_init_5
theorem rX2_init_7 : ab_Run X 11 7 (f, cl, sl) L (ab_I n :: st) σ Q ↔ (0 ≤ n ∧ n ≤ 60000 ∧ 1 ≤ cl ∧ n.toNat ≤ sl) ∧ ab_Run X 11 10 (f, cl - 1, sl - n.toNat) L (ab_R σ.1 :: st) (ab_new σ 25 n) Q := ab_r_anewarray (c := 0) rfl ko_X2_init (by decide +kernel) rfl rfl kc_X2_init dX2_init_7
theorem rX2_init_10 : ab_Run X 11 10 (f, cl, sl) L (ab_R z :: ab_R a :: st) σ Q ↔ (ab_sh σ a).1 = 3 ∧ ab_Run X 11 13 (f, cl, sl) L st (ab_wr σ a 0 z) Q := ab_r_putF rfl ko_X2_init qF_2_13 (by decide) rfl rfl rfl rfl rfl rfl kc_X2_init dX2_init_10
theorem rX2_init_13 : ab_Run X 11 13 (f, cl, sl) [ab_R z, l1] st σ Q ↔ z ≠ 0 ∧ ab_Run X 11 14 (f, cl, sl) [ab_R z, l1] (ab_R z :: st) σ Q := ab_r_aload_n rfl kc_X2_init dX2_init_13
theorem rX2_init_14 : ab_Run X 11 14 (f, cl, sl) L st σ Q ↔ ab_Run X 11 16 (f, cl, sl) L (ab_I 12 :: st) σ Q := ab_r_bipush (by decide) kc_X2_init dX2_init_14
theorem rX2_init_16 : ab_Run X 11 16 (f, cl, sl) L (ab_I n :: st) σ Q ↔ (0 ≤ n ∧ n ≤ 60000 ∧ 1 ≤ cl ∧ n.toNat ≤ sl) ∧ ab_Run X 11 19 (f, cl - 1, sl - n.toNat) L (ab_R σ.1 :: st) (ab_new σ 25 n) Q := ab_r_anewarray (c := 0) rfl ko_X2_init (by decide +kernel) rfl rfl kc_X2_init dX2_init_16
theorem rX2_init_19 : ab_Run X 11 19 (f, cl, sl) L (ab_R z :: ab_R a :: st) σ Q ↔ (ab_sh σ a).1 = 3 ∧ ab_Run X 11 22 (f, cl, sl) L st (ab_wr σ a 1 z) Q := ab_r_putF rfl ko_X2_init qF_2_17 (by decide) rfl rfl rfl rfl rfl rfl kc_X2_init dX2_init_19
theorem rX2_init_22 : ab_Run X 11 22 (f, cl, sl) [ab_R z, l1] st σ Q ↔ z ≠ 0 ∧ ab_Run X 11 23 (f, cl, sl) [ab_R z, l1] (ab_R z :: st) σ Q := ab_r_aload_n rfl kc_X2_init dX2_init_22
theorem rX2_init_23 : ab_Run X 11 23 (f, cl, sl) L st σ Q ↔ ab_Run X 11 25 (f, cl, sl) L (ab_I 12 :: st) σ Q := ab_r_bipush (by decide) kc_X2_init dX2_init_23
theorem rX2_init_25 : ab_Run X 11 25 (f, cl, sl) L (ab_I n :: st) σ Q ↔ (0 ≤ n ∧ n ≤ 60000 ∧ 1 ≤ cl ∧ n.toNat ≤ sl) ∧ ab_Run X 11 27 (f, cl - 1, sl - n.toNat) L (ab_R σ.1 :: st) (ab_new σ 21 n) Q := ab_r_newarray rfl rfl kc_X2_init dX2_init_25
theorem rX2_init_27 : ab_Run X 11 27 (f, cl, sl) L (ab_R z :: ab_R a :: st) σ Q ↔ (ab_sh σ a).1 = 3 ∧ ab_Run X 11 30 (f, cl, sl) L st (ab_wr σ a 2 z) Q := ab_r_putF rfl ko_X2_init qF_2_20 (by decide) rfl rfl rfl rfl rfl rfl kc_X2_init dX2_init_27
theorem rX2_init_30 : ab_Run X 11 30 (f, cl, sl) [ab_R z, l1] st σ Q ↔ z ≠ 0 ∧ ab_Run X 11 31 (f, cl, sl) [ab_R z, l1] (ab_R z :: st) σ Q := ab_r_aload_n rfl kc_X2_init dX2_init_30
theorem rX2_init_31 : ab_Run X 11 31 (f, cl, sl) L st σ Q ↔ ab_Run X 11 33 (f, cl, sl) L (ab_I 12 :: st) σ Q := ab_r_bipush (by decide) kc_X2_init dX2_init_31
theorem rX2_init_33 : ab_Run X 11 33 (f, cl, sl) L (ab_I n :: st) σ Q ↔ (0 ≤ n ∧ n ≤ 60000 ∧ 1 ≤ cl ∧ n.toNat ≤ sl) ∧ ab_Run X 11 35 (f, cl - 1, sl - n.toNat) L (ab_R σ.1 :: st) (ab_new σ 21 n) Q := ab_r_newarray rfl rfl kc_X2_init dX2_init_33
theorem rX2_init_35 : ab_Run X 11 35 (f, cl, sl) L (ab_R z :: ab_R a :: st) σ Q ↔ (ab_sh σ a).1 = 3 ∧ ab_Run X 11 38 (f, cl, sl) L st (ab_wr σ a 3 z) Q := ab_r_putF rfl ko_X2_init qF_2_24 (by decide) rfl rfl rfl rfl rfl rfl kc_X2_init dX2_init_35
theorem rX2_init_38 : ab_Run X 11 38 (f, cl, sl) [ab_R z, l1] st σ Q ↔ z ≠ 0 ∧ ab_Run X 11 39 (f, cl, sl) [ab_R z, l1] (ab_R z :: st) σ Q := ab_r_aload_n rfl kc_X2_init dX2_init_38
theorem rX2_init_39 : ab_Run X 11 39 (f, cl, sl) L st σ Q ↔ ab_Run X 11 41 (f, cl, sl) L (ab_I 12 :: st) σ Q := ab_r_bipush (by decide) kc_X2_init dX2_init_39
theorem rX2_init_41 : ab_Run X 11 41 (f, cl, sl) L st σ Q ↔ ab_Run X 11 43 (f, cl, sl) L (ab_I 12 :: st) σ Q := ab_r_bipush (by decide) kc_X2_init dX2_init_41
theorem rX2_init_43 : ab_Run X 11 43 (f, cl, sl) L (ab_I n2 :: ab_I n :: st) σ Q ↔ (0 ≤ n ∧ n ≤ 1000 ∧ 0 ≤ n2 ∧ n2 ≤ 1000 ∧ 1 + n.toNat ≤ cl ∧ n.toNat + n.toNat * n2.toNat ≤ sl) ∧ ab_Run X 11 47 (f, cl - (1 + n.toNat), sl - (n.toNat + n.toNat * n2.toNat)) L (ab_R σ.1 :: st) (ab_mul σ n n2) Q := ab_r_multi rfl kc_X2_init dX2_init_43
theorem rX2_init_47 : ab_Run X 11 47 (f, cl, sl) L (ab_R z :: ab_R a :: st) σ Q ↔ (ab_sh σ a).1 = 3 ∧ ab_Run X 11 50 (f, cl, sl) L st (ab_wr σ a 4 z) Q := ab_r_putF rfl ko_X2_init qF_2_29 (by decide) rfl rfl rfl rfl rfl rfl kc_X2_init dX2_init_47
theorem rX2_init_50 : ab_Run X 11 50 (f, cl, sl) [ab_R z, l1] st σ Q ↔ z ≠ 0 ∧ ab_Run X 11 51 (f, cl, sl) [ab_R z, l1] (ab_R z :: st) σ Q := ab_r_aload_n rfl kc_X2_init dX2_init_50
theorem rX2_init_51 : ab_Run X 11 51 (f, cl, sl) L st σ Q ↔ ab_Run X 11 53 (f, cl, sl) L (ab_I 12 :: st) σ Q := ab_r_bipush (by decide) kc_X2_init dX2_init_51
theorem rX2_init_53 : ab_Run X 11 53 (f, cl, sl) L st σ Q ↔ ab_Run X 11 55 (f, cl, sl) L (ab_I 12 :: st) σ Q := ab_r_bipush (by decide) kc_X2_init dX2_init_53
theorem rX2_init_55 : ab_Run X 11 55 (f, cl, sl) L (ab_I n2 :: ab_I n :: st) σ Q ↔ (0 ≤ n ∧ n ≤ 1000 ∧ 0 ≤ n2 ∧ n2 ≤ 1000 ∧ 1 + n.toNat ≤ cl ∧ n.toNat + n.toNat * n2.toNat ≤ sl) ∧ ab_Run X 11 59 (f, cl - (1 + n.toNat), sl - (n.toNat + n.toNat * n2.toNat)) L (ab_R σ.1 :: st) (ab_mul σ n n2) Q := ab_r_multi rfl kc_X2_init dX2_init_55
theorem rX2_init_59 : ab_Run X 11 59 (f, cl, sl) L (ab_R z :: ab_R a :: st) σ Q ↔ (ab_sh σ a).1 = 3 ∧ ab_Run X 11 62 (f, cl, sl) L st (ab_wr σ a 5 z) Q := ab_r_putF rfl ko_X2_init qF_2_32 (by decide) rfl rfl rfl rfl rfl rfl kc_X2_init dX2_init_59
theorem rX2_init_62 : ab_Run X 11 62 (f, cl, sl) [ab_R z, l1] st σ Q ↔ z ≠ 0 ∧ ab_Run X 11 63 (f, cl, sl) [ab_R z, l1] (ab_R z :: st) σ Q := ab_r_aload_n rfl kc_X2_init dX2_init_62
theorem rX2_init_63 : ab_Run X 11 63 (f, cl, sl) L st σ Q ↔ ab_Run X 11 65 (f, cl, sl) L (ab_I 12 :: st) σ Q := ab_r_bipush (by decide) kc_X2_init dX2_init_63
theorem rX2_init_65 : ab_Run X 11 65 (f, cl, sl) L (ab_I n :: st) σ Q ↔ (0 ≤ n ∧ n ≤ 60000 ∧ 1 ≤ cl ∧ n.toNat ≤ sl) ∧ ab_Run X 11 67 (f, cl - 1, sl - n.toNat) L (ab_R σ.1 :: st) (ab_new σ 21 n) Q := ab_r_newarray rfl rfl kc_X2_init dX2_init_65
theorem rX2_init_67 : ab_Run X 11 67 (f, cl, sl) L (ab_R z :: ab_R a :: st) σ Q ↔ (ab_sh σ a).1 = 3 ∧ ab_Run X 11 70 (f, cl, sl) L st (ab_wr σ a 6 z) Q := ab_r_putF rfl ko_X2_init qF_2_35 (by decide) rfl rfl rfl rfl rfl rfl kc_X2_init dX2_init_67
theorem rX2_init_70 : ab_Run X 11 70 (f, cl, sl) [ab_R z, l1] st σ Q ↔ z ≠ 0 ∧ ab_Run X 11 71 (f, cl, sl) [ab_R z, l1] (ab_R z :: st) σ Q := ab_r_aload_n rfl kc_X2_init dX2_init_70
theorem rX2_init_71 : ab_Run X 11 71 (f, cl, sl) L st σ Q ↔ ab_Run X 11 73 (f, cl, sl) L (ab_I 12 :: st) σ Q := ab_r_bipush (by decide) kc_X2_init dX2_init_71
theorem rX2_init_73 : ab_Run X 11 73 (f, cl, sl) L (ab_I n :: st) σ Q ↔ (0 ≤ n ∧ n ≤ 60000 ∧ 1 ≤ cl ∧ n.toNat ≤ sl) ∧ ab_Run X 11 75 (f, cl - 1, sl - n.toNat) L (ab_R σ.1 :: st) (ab_new σ 21 n) Q := ab_r_newarray rfl rfl kc_X2_init dX2_init_73
theorem rX2_init_75 : ab_Run X 11 75 (f, cl, sl) L (ab_R z :: ab_R a :: st) σ Q ↔ (ab_sh σ a).1 = 3 ∧ ab_Run X 11 78 (f, cl, sl) L st (ab_wr σ a 7 z) Q := ab_r_putF rfl ko_X2_init qF_2_38 (by decide) rfl rfl rfl rfl rfl rfl kc_X2_init dX2_init_75
theorem rX2_init_78 : ab_Run X 11 78 (f, cl, sl) L st σ Q ↔ ab_Run X 11 79 (f, cl, sl) L (ab_I 0 :: st) σ Q := ab_r_iconst (by decide) kc_X2_init dX2_init_78
theorem rX2_init_79 : ab_Run X 11 79 (f, cl, sl) [l0, l1] (ab_I z :: st) σ Q ↔ (!ab_isJ l0) = true ∧ ab_Run X 11 80 (f, cl, sl) [l0, ab_I z] st σ Q := ab_r_istore_n (Nat.le_of_ble_eq_true rfl) kc_X2_init dX2_init_79
theorem rX2_init_80 : ab_Run X 11 80 (f, cl, sl) [l0, ab_I z] st σ Q ↔ ab_Run X 11 81 (f, cl, sl) [l0, ab_I z] (ab_I z :: st) σ Q := ab_r_iload_n rfl kc_X2_init dX2_init_80
theorem rX2_init_81 : ab_Run X 11 81 (f, cl, sl) L st σ Q ↔ ab_Run X 11 83 (f, cl, sl) L (ab_I 12 :: st) σ Q := ab_r_bipush (by decide) kc_X2_init dX2_init_81
theorem rX2_init_83 : ab_Run X 11 83 (f, cl, sl) L (ab_I b :: ab_I a :: st) σ Q ↔ (b ≤ a → ab_Run X 11 118 (f, cl, sl) L st σ Q) ∧ (¬ (b ≤ a) → ab_Run X 11 86 (f, cl, sl) L st σ Q) := ab_r_icmp_ge rfl kc_X2_init dX2_init_83
theorem rX2_init_86 : ab_Run X 11 86 (f, cl, sl) [ab_R z, l1] st σ Q ↔ z ≠ 0 ∧ ab_Run X 11 87 (f, cl, sl) [ab_R z, l1] (ab_R z :: st) σ Q := ab_r_aload_n rfl kc_X2_init dX2_init_86
theorem rX2_init_87 : ab_Run X 11 87 (f, cl, sl) L (ab_R a :: st) σ Q ↔ (ab_sh σ a).1 = 3 ∧ ab_Run X 11 90 (f, cl, sl) L (ab_R (ab_rd σ a 0) :: st) σ Q := gF_2_13 ko_X2_init kc_X2_init dX2_init_87
theorem rX2_init_90 : ab_Run X 11 90 (f, cl, sl) [l0, ab_I z] st σ Q ↔ ab_Run X 11 91 (f, cl, sl) [l0, ab_I z] (ab_I z :: st) σ Q := ab_r_iload_n rfl kc_X2_init dX2_init_90
theorem rX2_init_91 : ab_Run X 11 91 (f, cl, sl) L st σ Q ↔ (1 ≤ cl ∧ 6 ≤ sl) ∧ ab_Run X 11 94 (f, cl - 1, sl - 6) L (ab_R σ.1 :: st) (ab_new σ 1 0) Q := ab_r_new rfl ko_X2_init (by decide +kernel) (by decide) rfl rfl kc_X2_init dX2_init_91
theorem rX2_init_94 : ab_Run X 11 94 (f, cl, sl) L (ab_R a :: st) σ Q ↔ ab_Run X 11 95 (f, cl, sl) L (ab_R a :: ab_R a :: st) σ Q := ab_r_dupR kc_X2_init dX2_init_94
theorem rX2_init_95 (h : 1 + 1 ≤ f ∧ 5 ≤ cl ∧ 33 ≤ sl) : ab_Run X 11 95 (f, cl, sl) L (ab_R a :: st) σ Q ↔ ((ab_sh σ a).1 = 1 ∧ ab_cats st ≤ 8) ∧ ab_Do X 0 [ab_R a] σ (fun r σ' => ab_Run X 11 98 (f, cl - 5, sl - 33) L (ab_psh r st) σ' Q) := ab_r_callV (w := []) (as := []) (b1 := (1, 5, 33)) 2 (Or.inr rfl) (by decide) ko_X2_init qM_2_41 (by decide) rfl rfl rfl rfl rfl h (Nat.le_of_ble_eq_true rfl) kc_X2_init dX2_init_95
theorem rX2_init_98 : ab_Run X 11 98 (f, cl, sl) L (ab_R v :: ab_I i :: ab_R a :: st) σ Q ↔ (ab_aok (ab_sh σ a).1 (ab_sh σ v).1 ∧ 0 ≤ i ∧ i < (ab_sh σ a).2) ∧ ab_Run X 11 99 (f, cl, sl) L st (ab_wr σ a i v) Q := ab_r_aastore kc_X2_init dX2_init_98
theorem rX2_init_99 : ab_Run X 11 99 (f, cl, sl) [ab_R z, l1] st σ Q ↔ z ≠ 0 ∧ ab_Run X 11 100 (f, cl, sl) [ab_R z, l1] (ab_R z :: st) σ Q := ab_r_aload_n rfl kc_X2_init dX2_init_99
theorem rX2_init_100 : ab_Run X 11 100 (f, cl, sl) L (ab_R a :: st) σ Q ↔ (ab_sh σ a).1 = 3 ∧ ab_Run X 11 103 (f, cl, sl) L (ab_R (ab_rd σ a 1) :: st) σ Q := gF_2_17 ko_X2_init kc_X2_init dX2_init_100
theorem rX2_init_103 : ab_Run X 11 103 (f, cl, sl) [l0, ab_I z] st σ Q ↔ ab_Run X 11 104 (f, cl, sl) [l0, ab_I z] (ab_I z :: st) σ Q := ab_r_iload_n rfl kc_X2_init dX2_init_103
theorem rX2_init_104 : ab_Run X 11 104 (f, cl, sl) L st σ Q ↔ (1 ≤ cl ∧ 6 ≤ sl) ∧ ab_Run X 11 107 (f, cl - 1, sl - 6) L (ab_R σ.1 :: st) (ab_new σ 1 0) Q := ab_r_new rfl ko_X2_init (by decide +kernel) (by decide) rfl rfl kc_X2_init dX2_init_104
theorem rX2_init_107 : ab_Run X 11 107 (f, cl, sl) L (ab_R a :: st) σ Q ↔ ab_Run X 11 108 (f, cl, sl) L (ab_R a :: ab_R a :: st) σ Q := ab_r_dupR kc_X2_init dX2_init_107
theorem rX2_init_108 (h : 1 + 1 ≤ f ∧ 5 ≤ cl ∧ 33 ≤ sl) : ab_Run X 11 108 (f, cl, sl) L (ab_R a :: st) σ Q ↔ ((ab_sh σ a).1 = 1 ∧ ab_cats st ≤ 8) ∧ ab_Do X 0 [ab_R a] σ (fun r σ' => ab_Run X 11 111 (f, cl - 5, sl - 33) L (ab_psh r st) σ' Q) := ab_r_callV (w := []) (as := []) (b1 := (1, 5, 33)) 2 (Or.inr rfl) (by decide) ko_X2_init qM_2_41 (by decide) rfl rfl rfl rfl rfl h (Nat.le_of_ble_eq_true rfl) kc_X2_init dX2_init_108
theorem rX2_init_111 : ab_Run X 11 111 (f, cl, sl) L (ab_R v :: ab_I i :: ab_R a :: st) σ Q ↔ (ab_aok (ab_sh σ a).1 (ab_sh σ v).1 ∧ 0 ≤ i ∧ i < (ab_sh σ a).2) ∧ ab_Run X 11 112 (f, cl, sl) L st (ab_wr σ a i v) Q := ab_r_aastore kc_X2_init dX2_init_111
theorem rX2_init_112 : ab_Run X 11 112 (f, cl, sl) [l0, ab_I z] st σ Q ↔ (!ab_isJ l0) = true ∧ ab_Run X 11 115 (f, cl, sl) [l0, ab_I (ab_w32 (z + 1))] st σ Q := ab_r_iinc rfl (by decide) kc_X2_init dX2_init_112
theorem rX2_init_115 : ab_Run X 11 115 (f, cl, sl) L st σ Q ↔ ab_Run X 11 80 (f, cl, sl) L st σ Q := ab_r_goto rfl kc_X2_init dX2_init_115
theorem rX2_init_118 : ab_Run X 11 118 (f, cl, sl) L [] σ Q ↔ Q none σ := ab_r_return rfl kc_X2_init dX2_init_118
theorem kc_X3_init : ab_code 19 = cX3_init := rfl
theorem ko_X3_init : ab_ow 19 = 3 := rfl
theorem rX3_init_0 : ab_Run X 19 0 (f, cl, sl) [ab_R z, l1] st σ Q ↔ z ≠ 0 ∧ ab_Run X 19 1 (f, cl, sl) [ab_R z, l1] (ab_R z :: st) σ Q := ab_r_aload_n rfl kc_X3_init dX3_init_0
theorem rX3_init_1 : ab_Run X 19 1 (f, cl, sl) L (ab_R a :: st) σ Q ↔ (0 < a ∧ 1 ≤ f ∧ ab_cats st ≤ 8) ∧ ab_Run X 19 4 (f, cl, sl) L st σ Q := ab_r_obj (by decide) ko_X3_init qM_3_1 kc_X3_init dX3_init_1
theorem rX3_init_4 : ab_Run X 19 4 (f, cl, sl) [ab_R z, l1] st σ Q ↔ z ≠ 0 ∧ ab_Run X 19 5 (f, cl, sl) [ab_R z, l1] (ab_R z :: st) σ Q := ab_r_aload_n rfl kc_X3_init dX3_init_4
theorem rX3_init_5 : ab_Run X 19 5 (f, cl, sl) L st σ Q ↔ ab_Run X 19 7 (f, cl, sl) L (ab_I 16 :: st) σ Q := ab_r_bipush (by decide) kc_X3_init dX3_init_5
theorem rX3_init_7 : ab_Run X 19 7 (f, cl, sl) L (ab_I n :: st) σ Q ↔ (0 ≤ n ∧ n ≤ 60000 ∧ 1 ≤ cl ∧ n.toNat ≤ sl) ∧ ab_Run X 19 10 (f, cl - 1, sl - n.toNat) L (ab_R σ.1 :: st) (ab_new σ 28 n) Q := ab_r_anewarray (c := 8) rfl ko_X3_init (by decide +kernel) rfl rfl kc_X3_init dX3_init_7
theorem rX3_init_10 : ab_Run X 19 10 (f, cl, sl) L (ab_R z :: ab_R a :: st) σ Q ↔ (ab_sh σ a).1 = 4 ∧ ab_Run X 19 13 (f, cl, sl) L st (ab_wr σ a 0 z) Q := ab_r_putF rfl ko_X3_init qF_3_11 (by decide) rfl rfl rfl rfl rfl rfl kc_X3_init dX3_init_10
theorem rX3_init_13 : ab_Run X 19 13 (f, cl, sl) [ab_R z, l1] st σ Q ↔ z ≠ 0 ∧ ab_Run X 19 14 (f, cl, sl) [ab_R z, l1] (ab_R z :: st) σ Q := ab_r_aload_n rfl kc_X3_init dX3_init_13
theorem rX3_init_14 : ab_Run X 19 14 (f, cl, sl) L st σ Q ↔ ab_Run X 19 15 (f, cl, sl) L (ab_I 3 :: st) σ Q := ab_r_iconst (by decide) kc_X3_init dX3_init_14
theorem rX3_init_15 : ab_Run X 19 15 (f, cl, sl) L (ab_I n :: st) σ Q ↔ (0 ≤ n ∧ n ≤ 60000 ∧ 1 ≤ cl ∧ n.toNat ≤ sl) ∧ ab_Run X 19 18 (f, cl - 1, sl - n.toNat) L (ab_R σ.1 :: st) (ab_new σ 28 n) Q := ab_r_anewarray (c := 8) rfl ko_X3_init (by decide +kernel) rfl rfl kc_X3_init dX3_init_15
theorem rX3_init_18 : ab_Run X 19 18 (f, cl, sl) L (ab_R z :: ab_R a :: st) σ Q ↔ (ab_sh σ a).1 = 4 ∧ ab_Run X 19 21 (f, cl, sl) L st (ab_wr σ a 1 z) Q := ab_r_putF rfl ko_X3_init qF_3_15 (by decide) rfl rfl rfl rfl rfl rfl kc_X3_init dX3_init_18
theorem rX3_init_21 : ab_Run X 19 21 (f, cl, sl) L st σ Q ↔ ab_Run X 19 22 (f, cl, sl) L (ab_I 0 :: st) σ Q := ab_r_iconst (by decide) kc_X3_init dX3_init_21
theorem rX3_init_22 : ab_Run X 19 22 (f, cl, sl) [l0, l1] (ab_I z :: st) σ Q ↔ (!ab_isJ l0) = true ∧ ab_Run X 19 23 (f, cl, sl) [l0, ab_I z] st σ Q := ab_r_istore_n (Nat.le_of_ble_eq_true rfl) kc_X3_init dX3_init_22
theorem rX3_init_23 : ab_Run X 19 23 (f, cl, sl) [l0, ab_I z] st σ Q ↔ ab_Run X 19 24 (f, cl, sl) [l0, ab_I z] (ab_I z :: st) σ Q := ab_r_iload_n rfl kc_X3_init dX3_init_23
theorem rX3_init_24 : ab_Run X 19 24 (f, cl, sl) L st σ Q ↔ ab_Run X 19 26 (f, cl, sl) L (ab_I 16 :: st) σ Q := ab_r_bipush (by decide) kc_X3_init dX3_init_24
theorem rX3_init_26 : ab_Run X 19 26 (f, cl, sl) L (ab_I b :: ab_I a :: st) σ Q ↔ (b ≤ a → ab_Run X 19 48 (f, cl, sl) L st σ Q) ∧ (¬ (b ≤ a) → ab_Run X 19 29 (f, cl, sl) L st σ Q) := ab_r_icmp_ge rfl kc_X3_init dX3_init_26
theorem rX3_init_29 : ab_Run X 19 29 (f, cl, sl) [ab_R z, l1] st σ Q ↔ z ≠ 0 ∧ ab_Run X 19 30 (f, cl, sl) [ab_R z, l1] (ab_R z :: st) σ Q := ab_r_aload_n rfl kc_X3_init dX3_init_29
theorem rX3_init_30 : ab_Run X 19 30 (f, cl, sl) L (ab_R a :: st) σ Q ↔ (ab_sh σ a).1 = 4 ∧ ab_Run X 19 33 (f, cl, sl) L (ab_R (ab_rd σ a 0) :: st) σ Q := gF_3_11 ko_X3_init kc_X3_init dX3_init_30
theorem rX3_init_33 : ab_Run X 19 33 (f, cl, sl) [l0, ab_I z] st σ Q ↔ ab_Run X 19 34 (f, cl, sl) [l0, ab_I z] (ab_I z :: st) σ Q := ab_r_iload_n rfl kc_X3_init dX3_init_33
theorem rX3_init_34 : ab_Run X 19 34 (f, cl, sl) L st σ Q ↔ (1 ≤ cl ∧ 5 ≤ sl) ∧ ab_Run X 19 37 (f, cl - 1, sl - 5) L (ab_R σ.1 :: st) (ab_new σ 9 0) Q := ab_r_new rfl ko_X3_init (by decide +kernel) (by decide) rfl rfl kc_X3_init dX3_init_34
theorem rX3_init_37 : ab_Run X 19 37 (f, cl, sl) L (ab_R a :: st) σ Q ↔ ab_Run X 19 38 (f, cl, sl) L (ab_R a :: ab_R a :: st) σ Q := ab_r_dupR kc_X3_init dX3_init_37
theorem rX3_init_38 (h : 1 + 1 ≤ f ∧ 4 ≤ cl ∧ 21 ≤ sl) : ab_Run X 19 38 (f, cl, sl) L (ab_R a :: st) σ Q ↔ ((ab_sh σ a).1 = 9 ∧ ab_cats st ≤ 8) ∧ ab_Do X 61 [ab_R a] σ (fun r σ' => ab_Run X 19 41 (f, cl - 4, sl - 21) L (ab_psh r st) σ' Q) := ab_r_callV (w := []) (as := []) (b1 := (1, 4, 21)) 2 (Or.inr rfl) (by decide) ko_X3_init qM_3_18 (by decide) rfl rfl rfl rfl rfl h (Nat.le_of_ble_eq_true rfl) kc_X3_init dX3_init_38
theorem rX3_init_41 : ab_Run X 19 41 (f, cl, sl) L (ab_R v :: ab_I i :: ab_R a :: st) σ Q ↔ (ab_aok (ab_sh σ a).1 (ab_sh σ v).1 ∧ 0 ≤ i ∧ i < (ab_sh σ a).2) ∧ ab_Run X 19 42 (f, cl, sl) L st (ab_wr σ a i v) Q := ab_r_aastore kc_X3_init dX3_init_41
theorem rX3_init_42 : ab_Run X 19 42 (f, cl, sl) [l0, ab_I z] st σ Q ↔ (!ab_isJ l0) = true ∧ ab_Run X 19 45 (f, cl, sl) [l0, ab_I (ab_w32 (z + 1))] st σ Q := ab_r_iinc rfl (by decide) kc_X3_init dX3_init_42
theorem rX3_init_45 : ab_Run X 19 45 (f, cl, sl) L st σ Q ↔ ab_Run X 19 23 (f, cl, sl) L st σ Q := ab_r_goto rfl kc_X3_init dX3_init_45
theorem rX3_init_48 : ab_Run X 19 48 (f, cl, sl) L st σ Q ↔ ab_Run X 19 49 (f, cl, sl) L (ab_I 0 :: st) σ Q := ab_r_iconst (by decide) kc_X3_init dX3_init_48
theorem rX3_init_49 : ab_Run X 19 49 (f, cl, sl) [l0, l1] (ab_I z :: st) σ Q ↔ (!ab_isJ l0) = true ∧ ab_Run X 19 50 (f, cl, sl) [l0, ab_I z] st σ Q := ab_r_istore_n (Nat.le_of_ble_eq_true rfl) kc_X3_init dX3_init_49
theorem rX3_init_50 : ab_Run X 19 50 (f, cl, sl) [l0, ab_I z] st σ Q ↔ ab_Run X 19 51 (f, cl, sl) [l0, ab_I z] (ab_I z :: st) σ Q := ab_r_iload_n rfl kc_X3_init dX3_init_50
theorem rX3_init_51 : ab_Run X 19 51 (f, cl, sl) L st σ Q ↔ ab_Run X 19 52 (f, cl, sl) L (ab_I 3 :: st) σ Q := ab_r_iconst (by decide) kc_X3_init dX3_init_51
theorem rX3_init_52 : ab_Run X 19 52 (f, cl, sl) L (ab_I b :: ab_I a :: st) σ Q ↔ (b ≤ a → ab_Run X 19 74 (f, cl, sl) L st σ Q) ∧ (¬ (b ≤ a) → ab_Run X 19 55 (f, cl, sl) L st σ Q) := ab_r_icmp_ge rfl kc_X3_init dX3_init_52
theorem rX3_init_55 : ab_Run X 19 55 (f, cl, sl) [ab_R z, l1] st σ Q ↔ z ≠ 0 ∧ ab_Run X 19 56 (f, cl, sl) [ab_R z, l1] (ab_R z :: st) σ Q := ab_r_aload_n rfl kc_X3_init dX3_init_55
theorem rX3_init_56 : ab_Run X 19 56 (f, cl, sl) L (ab_R a :: st) σ Q ↔ (ab_sh σ a).1 = 4 ∧ ab_Run X 19 59 (f, cl, sl) L (ab_R (ab_rd σ a 1) :: st) σ Q := gF_3_15 ko_X3_init kc_X3_init dX3_init_56
theorem rX3_init_59 : ab_Run X 19 59 (f, cl, sl) [l0, ab_I z] st σ Q ↔ ab_Run X 19 60 (f, cl, sl) [l0, ab_I z] (ab_I z :: st) σ Q := ab_r_iload_n rfl kc_X3_init dX3_init_59
theorem rX3_init_60 : ab_Run X 19 60 (f, cl, sl) L st σ Q ↔ (1 ≤ cl ∧ 5 ≤ sl) ∧ ab_Run X 19 63 (f, cl - 1, sl - 5) L (ab_R σ.1 :: st) (ab_new σ 9 0) Q := ab_r_new rfl ko_X3_init (by decide +kernel) (by decide) rfl rfl kc_X3_init dX3_init_60
theorem rX3_init_63 : ab_Run X 19 63 (f, cl, sl) L (ab_R a :: st) σ Q ↔ ab_Run X 19 64 (f, cl, sl) L (ab_R a :: ab_R a :: st) σ Q := ab_r_dupR kc_X3_init dX3_init_63
theorem rX3_init_64 (h : 1 + 1 ≤ f ∧ 4 ≤ cl ∧ 21 ≤ sl) : ab_Run X 19 64 (f, cl, sl) L (ab_R a :: st) σ Q ↔ ((ab_sh σ a).1 = 9 ∧ ab_cats st ≤ 8) ∧ ab_Do X 61 [ab_R a] σ (fun r σ' => ab_Run X 19 67 (f, cl - 4, sl - 21) L (ab_psh r st) σ' Q) := ab_r_callV (w := []) (as := []) (b1 := (1, 4, 21)) 2 (Or.inr rfl) (by decide) ko_X3_init qM_3_18 (by decide) rfl rfl rfl rfl rfl h (Nat.le_of_ble_eq_true rfl) kc_X3_init dX3_init_64
theorem rX3_init_67 : ab_Run X 19 67 (f, cl, sl) L (ab_R v :: ab_I i :: ab_R a :: st) σ Q ↔ (ab_aok (ab_sh σ a).1 (ab_sh σ v).1 ∧ 0 ≤ i ∧ i < (ab_sh σ a).2) ∧ ab_Run X 19 68 (f, cl, sl) L st (ab_wr σ a i v) Q := ab_r_aastore kc_X3_init dX3_init_67
theorem rX3_init_68 : ab_Run X 19 68 (f, cl, sl) [l0, ab_I z] st σ Q ↔ (!ab_isJ l0) = true ∧ ab_Run X 19 71 (f, cl, sl) [l0, ab_I (ab_w32 (z + 1))] st σ Q := ab_r_iinc rfl (by decide) kc_X3_init dX3_init_68
theorem rX3_init_71 : ab_Run X 19 71 (f, cl, sl) L st σ Q ↔ ab_Run X 19 50 (f, cl, sl) L st σ Q := ab_r_goto rfl kc_X3_init dX3_init_71
theorem rX3_init_74 : ab_Run X 19 74 (f, cl, sl) L [] σ Q ↔ Q none σ := ab_r_return rfl kc_X3_init dX3_init_74
theorem kc_X4_init : ab_code 26 = cX4_init := rfl
theorem ko_X4_init : ab_ow 26 = 4 := rfl
theorem rX4_init_0 : ab_Run X 26 0 (f, cl, sl) [ab_R z, l1] st σ Q ↔ z ≠ 0 ∧ ab_Run X 26 1 (f, cl, sl) [ab_R z, l1] (ab_R z :: st) σ Q := ab_r_aload_n rfl kc_X4_init dX4_init_0
theorem rX4_init_1 : ab_Run X 26 1 (f, cl, sl) L (ab_R a :: st) σ Q ↔ (0 < a ∧ 1 ≤ f ∧ ab_cats st ≤ 8) ∧ ab_Run X 26 4 (f, cl, sl) L st σ Q := ab_r_obj (by decide) ko_X4_init qM_4_3 kc_X4_init dX4_init_1
theorem rX4_init_4 : ab_Run X 26 4 (f, cl, sl) [ab_R z, l1] st σ Q ↔ z ≠ 0 ∧ ab_Run X 26 5 (f, cl, sl) [ab_R z, l1] (ab_R z :: st) σ Q := ab_r_aload_n rfl kc_X4_init dX4_init_4
theorem rX4_init_5 : ab_Run X 26 5 (f, cl, sl) L st σ Q ↔ ab_Run X 26 6 (f, cl, sl) L (ab_I 5 :: st) σ Q := ab_r_iconst (by decide) kc_X4_init dX4_init_5
theorem rX4_init_6 : ab_Run X 26 6 (f, cl, sl) L (ab_I n :: st) σ Q ↔ (0 ≤ n ∧ n ≤ 60000 ∧ 1 ≤ cl ∧ n.toNat ≤ sl) ∧ ab_Run X 26 9 (f, cl - 1, sl - n.toNat) L (ab_R σ.1 :: st) (ab_new σ 26 n) Q := ab_r_anewarray (c := 1) rfl ko_X4_init (by decide +kernel) rfl rfl kc_X4_init dX4_init_6
theorem rX4_init_9 : ab_Run X 26 9 (f, cl, sl) L (ab_R z :: ab_R a :: st) σ Q ↔ (ab_sh σ a).1 = 5 ∧ ab_Run X 26 12 (f, cl, sl) L st (ab_wr σ a 6 z) Q := ab_r_putF rfl ko_X4_init qF_4_11 (by decide) rfl rfl rfl rfl rfl rfl kc_X4_init dX4_init_9
theorem rX4_init_12 : ab_Run X 26 12 (f, cl, sl) [ab_R z, l1] st σ Q ↔ z ≠ 0 ∧ ab_Run X 26 13 (f, cl, sl) [ab_R z, l1] (ab_R z :: st) σ Q := ab_r_aload_n rfl kc_X4_init dX4_init_12
theorem rX4_init_13 : ab_Run X 26 13 (f, cl, sl) L st σ Q ↔ ab_Run X 26 15 (f, cl, sl) L (ab_I 6 :: st) σ Q := ab_r_bipush (by decide) kc_X4_init dX4_init_13
theorem rX4_init_15 : ab_Run X 26 15 (f, cl, sl) L (ab_I n :: st) σ Q ↔ (0 ≤ n ∧ n ≤ 60000 ∧ 1 ≤ cl ∧ n.toNat ≤ sl) ∧ ab_Run X 26 18 (f, cl - 1, sl - n.toNat) L (ab_R σ.1 :: st) (ab_new σ 27 n) Q := ab_r_anewarray (c := 5) rfl ko_X4_init (by decide +kernel) rfl rfl kc_X4_init dX4_init_15
theorem rX4_init_18 : ab_Run X 26 18 (f, cl, sl) L (ab_R z :: ab_R a :: st) σ Q ↔ (ab_sh σ a).1 = 5 ∧ ab_Run X 26 21 (f, cl, sl) L st (ab_wr σ a 8 z) Q := ab_r_putF rfl ko_X4_init qF_4_19 (by decide) rfl rfl rfl rfl rfl rfl kc_X4_init dX4_init_18
theorem rX4_init_21 : ab_Run X 26 21 (f, cl, sl) [ab_R z, l1] st σ Q ↔ z ≠ 0 ∧ ab_Run X 26 22 (f, cl, sl) [ab_R z, l1] (ab_R z :: st) σ Q := ab_r_aload_n rfl kc_X4_init dX4_init_21
theorem rX4_init_22 : ab_Run X 26 22 (f, cl, sl) L st σ Q ↔ ab_Run X 26 23 (f, cl, sl) L (ab_I 4 :: st) σ Q := ab_r_iconst (by decide) kc_X4_init dX4_init_22
theorem rX4_init_23 : ab_Run X 26 23 (f, cl, sl) L (ab_I n :: st) σ Q ↔ (0 ≤ n ∧ n ≤ 60000 ∧ 1 ≤ cl ∧ n.toNat ≤ sl) ∧ ab_Run X 26 25 (f, cl - 1, sl - n.toNat) L (ab_R σ.1 :: st) (ab_new σ 21 n) Q := ab_r_newarray rfl rfl kc_X4_init dX4_init_23
theorem rX4_init_25 : ab_Run X 26 25 (f, cl, sl) L (ab_R z :: ab_R a :: st) σ Q ↔ (ab_sh σ a).1 = 5 ∧ ab_Run X 26 28 (f, cl, sl) L st (ab_wr σ a 13 z) Q := ab_r_putF rfl ko_X4_init qF_4_23 (by decide) rfl rfl rfl rfl rfl rfl kc_X4_init dX4_init_25
theorem rX4_init_28 : ab_Run X 26 28 (f, cl, sl) [ab_R z, l1] st σ Q ↔ z ≠ 0 ∧ ab_Run X 26 29 (f, cl, sl) [ab_R z, l1] (ab_R z :: st) σ Q := ab_r_aload_n rfl kc_X4_init dX4_init_28
theorem rX4_init_29 : ab_Run X 26 29 (f, cl, sl) L st σ Q ↔ ab_Run X 26 30 (f, cl, sl) L (ab_I 4 :: st) σ Q := ab_r_iconst (by decide) kc_X4_init dX4_init_29
theorem rX4_init_30 : ab_Run X 26 30 (f, cl, sl) L (ab_I n :: st) σ Q ↔ (0 ≤ n ∧ n ≤ 60000 ∧ 1 ≤ cl ∧ n.toNat ≤ sl) ∧ ab_Run X 26 32 (f, cl - 1, sl - n.toNat) L (ab_R σ.1 :: st) (ab_new σ 21 n) Q := ab_r_newarray rfl rfl kc_X4_init dX4_init_30
theorem rX4_init_32 : ab_Run X 26 32 (f, cl, sl) L (ab_R z :: ab_R a :: st) σ Q ↔ (ab_sh σ a).1 = 5 ∧ ab_Run X 26 35 (f, cl, sl) L st (ab_wr σ a 14 z) Q := ab_r_putF rfl ko_X4_init qF_4_27 (by decide) rfl rfl rfl rfl rfl rfl kc_X4_init dX4_init_32
theorem rX4_init_35 : ab_Run X 26 35 (f, cl, sl) L st σ Q ↔ ab_Run X 26 36 (f, cl, sl) L (ab_I 0 :: st) σ Q := ab_r_iconst (by decide) kc_X4_init dX4_init_35
theorem rX4_init_36 : ab_Run X 26 36 (f, cl, sl) [l0, l1] (ab_I z :: st) σ Q ↔ (!ab_isJ l0) = true ∧ ab_Run X 26 37 (f, cl, sl) [l0, ab_I z] st σ Q := ab_r_istore_n (Nat.le_of_ble_eq_true rfl) kc_X4_init dX4_init_36
theorem rX4_init_37 : ab_Run X 26 37 (f, cl, sl) [l0, ab_I z] st σ Q ↔ ab_Run X 26 38 (f, cl, sl) [l0, ab_I z] (ab_I z :: st) σ Q := ab_r_iload_n rfl kc_X4_init dX4_init_37
theorem rX4_init_38 : ab_Run X 26 38 (f, cl, sl) L st σ Q ↔ ab_Run X 26 39 (f, cl, sl) L (ab_I 5 :: st) σ Q := ab_r_iconst (by decide) kc_X4_init dX4_init_38
theorem rX4_init_39 : ab_Run X 26 39 (f, cl, sl) L (ab_I b :: ab_I a :: st) σ Q ↔ (b ≤ a → ab_Run X 26 61 (f, cl, sl) L st σ Q) ∧ (¬ (b ≤ a) → ab_Run X 26 42 (f, cl, sl) L st σ Q) := ab_r_icmp_ge rfl kc_X4_init dX4_init_39
theorem rX4_init_42 : ab_Run X 26 42 (f, cl, sl) [ab_R z, l1] st σ Q ↔ z ≠ 0 ∧ ab_Run X 26 43 (f, cl, sl) [ab_R z, l1] (ab_R z :: st) σ Q := ab_r_aload_n rfl kc_X4_init dX4_init_42
theorem rX4_init_43 : ab_Run X 26 43 (f, cl, sl) L (ab_R a :: st) σ Q ↔ (ab_sh σ a).1 = 5 ∧ ab_Run X 26 46 (f, cl, sl) L (ab_R (ab_rd σ a 6) :: st) σ Q := gF_4_11 ko_X4_init kc_X4_init dX4_init_43
theorem rX4_init_46 : ab_Run X 26 46 (f, cl, sl) [l0, ab_I z] st σ Q ↔ ab_Run X 26 47 (f, cl, sl) [l0, ab_I z] (ab_I z :: st) σ Q := ab_r_iload_n rfl kc_X4_init dX4_init_46
theorem rX4_init_47 : ab_Run X 26 47 (f, cl, sl) L st σ Q ↔ (1 ≤ cl ∧ 5 ≤ sl) ∧ ab_Run X 26 50 (f, cl - 1, sl - 5) L (ab_R σ.1 :: st) (ab_new σ 2 0) Q := ab_r_new rfl ko_X4_init (by decide +kernel) (by decide) rfl rfl kc_X4_init dX4_init_47
theorem rX4_init_50 : ab_Run X 26 50 (f, cl, sl) L (ab_R a :: st) σ Q ↔ ab_Run X 26 51 (f, cl, sl) L (ab_R a :: ab_R a :: st) σ Q := ab_r_dupR kc_X4_init dX4_init_50
theorem rX4_init_51 (h : 1 + 1 ≤ f ∧ 2 ≤ cl ∧ 14 ≤ sl) : ab_Run X 26 51 (f, cl, sl) L (ab_R a :: st) σ Q ↔ ((ab_sh σ a).1 = 2 ∧ ab_cats st ≤ 8) ∧ ab_Do X 5 [ab_R a] σ (fun r σ' => ab_Run X 26 54 (f, cl - 2, sl - 14) L (ab_psh r st) σ' Q) := ab_r_callV (w := []) (as := []) (b1 := (1, 2, 14)) 2 (Or.inr rfl) (by decide) ko_X4_init qM_4_30 (by decide) rfl rfl rfl rfl rfl h (Nat.le_of_ble_eq_true rfl) kc_X4_init dX4_init_51
theorem rX4_init_54 : ab_Run X 26 54 (f, cl, sl) L (ab_R v :: ab_I i :: ab_R a :: st) σ Q ↔ (ab_aok (ab_sh σ a).1 (ab_sh σ v).1 ∧ 0 ≤ i ∧ i < (ab_sh σ a).2) ∧ ab_Run X 26 55 (f, cl, sl) L st (ab_wr σ a i v) Q := ab_r_aastore kc_X4_init dX4_init_54
theorem rX4_init_55 : ab_Run X 26 55 (f, cl, sl) [l0, ab_I z] st σ Q ↔ (!ab_isJ l0) = true ∧ ab_Run X 26 58 (f, cl, sl) [l0, ab_I (ab_w32 (z + 1))] st σ Q := ab_r_iinc rfl (by decide) kc_X4_init dX4_init_55
theorem rX4_init_58 : ab_Run X 26 58 (f, cl, sl) L st σ Q ↔ ab_Run X 26 37 (f, cl, sl) L st σ Q := ab_r_goto rfl kc_X4_init dX4_init_58
theorem rX4_init_61 : ab_Run X 26 61 (f, cl, sl) L st σ Q ↔ ab_Run X 26 62 (f, cl, sl) L (ab_I 0 :: st) σ Q := ab_r_iconst (by decide) kc_X4_init dX4_init_61
theorem rX4_init_62 : ab_Run X 26 62 (f, cl, sl) [l0, l1] (ab_I z :: st) σ Q ↔ (!ab_isJ l0) = true ∧ ab_Run X 26 63 (f, cl, sl) [l0, ab_I z] st σ Q := ab_r_istore_n (Nat.le_of_ble_eq_true rfl) kc_X4_init dX4_init_62
theorem rX4_init_63 : ab_Run X 26 63 (f, cl, sl) [l0, ab_I z] st σ Q ↔ ab_Run X 26 64 (f, cl, sl) [l0, ab_I z] (ab_I z :: st) σ Q := ab_r_iload_n rfl kc_X4_init dX4_init_63
theorem rX4_init_64 : ab_Run X 26 64 (f, cl, sl) L st σ Q ↔ ab_Run X 26 66 (f, cl, sl) L (ab_I 6 :: st) σ Q := ab_r_bipush (by decide) kc_X4_init dX4_init_64
theorem rX4_init_66 : ab_Run X 26 66 (f, cl, sl) L (ab_I b :: ab_I a :: st) σ Q ↔ (b ≤ a → ab_Run X 26 88 (f, cl, sl) L st σ Q) ∧ (¬ (b ≤ a) → ab_Run X 26 69 (f, cl, sl) L st σ Q) := ab_r_icmp_ge rfl kc_X4_init dX4_init_66
theorem rX4_init_69 : ab_Run X 26 69 (f, cl, sl) [ab_R z, l1] st σ Q ↔ z ≠ 0 ∧ ab_Run X 26 70 (f, cl, sl) [ab_R z, l1] (ab_R z :: st) σ Q := ab_r_aload_n rfl kc_X4_init dX4_init_69
theorem rX4_init_70 : ab_Run X 26 70 (f, cl, sl) L (ab_R a :: st) σ Q ↔ (ab_sh σ a).1 = 5 ∧ ab_Run X 26 73 (f, cl, sl) L (ab_R (ab_rd σ a 8) :: st) σ Q := gF_4_19 ko_X4_init kc_X4_init dX4_init_70
theorem rX4_init_73 : ab_Run X 26 73 (f, cl, sl) [l0, ab_I z] st σ Q ↔ ab_Run X 26 74 (f, cl, sl) [l0, ab_I z] (ab_I z :: st) σ Q := ab_r_iload_n rfl kc_X4_init dX4_init_73
theorem rX4_init_74 : ab_Run X 26 74 (f, cl, sl) L st σ Q ↔ (1 ≤ cl ∧ 12 ≤ sl) ∧ ab_Run X 26 77 (f, cl - 1, sl - 12) L (ab_R σ.1 :: st) (ab_new σ 6 0) Q := ab_r_new rfl ko_X4_init (by decide +kernel) (by decide) rfl rfl kc_X4_init dX4_init_74
theorem rX4_init_77 : ab_Run X 26 77 (f, cl, sl) L (ab_R a :: st) σ Q ↔ ab_Run X 26 78 (f, cl, sl) L (ab_R a :: ab_R a :: st) σ Q := ab_r_dupR kc_X4_init dX4_init_77
theorem rX4_init_78 (h : 1 + 1 ≤ f ∧ 0 ≤ cl ∧ 0 ≤ sl) : ab_Run X 26 78 (f, cl, sl) L (ab_R a :: st) σ Q ↔ ((ab_sh σ a).1 = 6 ∧ ab_cats st ≤ 8) ∧ ab_Do X 30 [ab_R a] σ (fun r σ' => ab_Run X 26 81 (f, cl - 0, sl - 0) L (ab_psh r st) σ' Q) := ab_r_callV (w := []) (as := []) (b1 := (1, 0, 0)) 2 (Or.inr rfl) (by decide) ko_X4_init qM_4_31 (by decide) rfl rfl rfl rfl rfl h (Nat.le_of_ble_eq_true rfl) kc_X4_init dX4_init_78
theorem rX4_init_81 : ab_Run X 26 81 (f, cl, sl) L (ab_R v :: ab_I i :: ab_R a :: st) σ Q ↔ (ab_aok (ab_sh σ a).1 (ab_sh σ v).1 ∧ 0 ≤ i ∧ i < (ab_sh σ a).2) ∧ ab_Run X 26 82 (f, cl, sl) L st (ab_wr σ a i v) Q := ab_r_aastore kc_X4_init dX4_init_81
theorem rX4_init_82 : ab_Run X 26 82 (f, cl, sl) [l0, ab_I z] st σ Q ↔ (!ab_isJ l0) = true ∧ ab_Run X 26 85 (f, cl, sl) [l0, ab_I (ab_w32 (z + 1))] st σ Q := ab_r_iinc rfl (by decide) kc_X4_init dX4_init_82
theorem rX4_init_85 : ab_Run X 26 85 (f, cl, sl) L st σ Q ↔ ab_Run X 26 63 (f, cl, sl) L st σ Q := ab_r_goto rfl kc_X4_init dX4_init_85
theorem rX4_init_88 : ab_Run X 26 88 (f, cl, sl) L [] σ Q ↔ Q none σ := ab_r_return rfl kc_X4_init dX4_init_88
theorem kc_X5_init : ab_code 30 = cX5_init := rfl
theorem ko_X5_init : ab_ow 30 = 5 := rfl
theorem rX5_init_0 : ab_Run X 30 0 (f, cl, sl) [ab_R z] st σ Q ↔ z ≠ 0 ∧ ab_Run X 30 1 (f, cl, sl) [ab_R z] (ab_R z :: st) σ Q := ab_r_aload_n rfl kc_X5_init dX5_init_0
theorem rX5_init_1 : ab_Run X 30 1 (f, cl, sl) L (ab_R a :: st) σ Q ↔ (0 < a ∧ 1 ≤ f ∧ ab_cats st ≤ 8) ∧ ab_Run X 30 4 (f, cl, sl) L st σ Q := ab_r_obj (by decide) ko_X5_init qM_5_3 kc_X5_init dX5_init_1
theorem rX5_init_4 : ab_Run X 30 4 (f, cl, sl) [ab_R z] st σ Q ↔ z ≠ 0 ∧ ab_Run X 30 5 (f, cl, sl) [ab_R z] (ab_R z :: st) σ Q := ab_r_aload_n rfl kc_X5_init dX5_init_4
theorem rX5_init_5 : ab_Run X 30 5 (f, cl, sl) L st σ Q ↔ ab_Run X 30 6 (f, cl, sl) L (ab_I (-1) :: st) σ Q := ab_r_iconst (by decide) kc_X5_init dX5_init_5
theorem rX5_init_6 : ab_Run X 30 6 (f, cl, sl) L (ab_I z :: ab_R a :: st) σ Q ↔ (ab_sh σ a).1 = 6 ∧ ab_Run X 30 9 (f, cl, sl) L st (ab_wr σ a 9 z) Q := sF_5_9 ko_X5_init kc_X5_init dX5_init_6
theorem rX5_init_9 : ab_Run X 30 9 (f, cl, sl) L [] σ Q ↔ Q none σ := ab_r_return rfl kc_X5_init dX5_init_9
theorem kc_X6_init : ab_code 32 = cX6_init := rfl
theorem ko_X6_init : ab_ow 32 = 6 := rfl
theorem rX6_init_0 : ab_Run X 32 0 (f, cl, sl) [ab_R z] st σ Q ↔ z ≠ 0 ∧ ab_Run X 32 1 (f, cl, sl) [ab_R z] (ab_R z :: st) σ Q := ab_r_aload_n rfl kc_X6_init dX6_init_0
theorem rX6_init_1 : ab_Run X 32 1 (f, cl, sl) L (ab_R a :: st) σ Q ↔ (0 < a ∧ 1 ≤ f ∧ ab_cats st ≤ 8) ∧ ab_Run X 32 4 (f, cl, sl) L st σ Q := ab_r_obj (by decide) ko_X6_init qM_6_3 kc_X6_init dX6_init_1
theorem rX6_init_4 : ab_Run X 32 4 (f, cl, sl) [ab_R z] st σ Q ↔ z ≠ 0 ∧ ab_Run X 32 5 (f, cl, sl) [ab_R z] (ab_R z :: st) σ Q := ab_r_aload_n rfl kc_X6_init dX6_init_4
theorem rX6_init_5 : ab_Run X 32 5 (f, cl, sl) L st σ Q ↔ (1 ≤ cl ∧ 6 ≤ sl) ∧ ab_Run X 32 8 (f, cl - 1, sl - 6) L (ab_R σ.1 :: st) (ab_new σ 1 0) Q := ab_r_new rfl ko_X6_init (by decide +kernel) (by decide) rfl rfl kc_X6_init dX6_init_5
theorem rX6_init_8 : ab_Run X 32 8 (f, cl, sl) L (ab_R a :: st) σ Q ↔ ab_Run X 32 9 (f, cl, sl) L (ab_R a :: ab_R a :: st) σ Q := ab_r_dupR kc_X6_init dX6_init_8
theorem rX6_init_9 (h : 1 + 1 ≤ f ∧ 5 ≤ cl ∧ 33 ≤ sl) : ab_Run X 32 9 (f, cl, sl) L (ab_R a :: st) σ Q ↔ ((ab_sh σ a).1 = 1 ∧ ab_cats st ≤ 8) ∧ ab_Do X 0 [ab_R a] σ (fun r σ' => ab_Run X 32 12 (f, cl - 5, sl - 33) L (ab_psh r st) σ' Q) := ab_r_callV (w := []) (as := []) (b1 := (1, 5, 33)) 2 (Or.inr rfl) (by decide) ko_X6_init qM_6_11 (by decide) rfl rfl rfl rfl rfl h (Nat.le_of_ble_eq_true rfl) kc_X6_init dX6_init_9
theorem rX6_init_12 : ab_Run X 32 12 (f, cl, sl) L (ab_R z :: ab_R a :: st) σ Q ↔ (ab_sh σ a).1 = 7 ∧ ab_Run X 32 15 (f, cl, sl) L st (ab_wr σ a 0 z) Q := ab_r_putF rfl ko_X6_init qF_6_12 (by decide) rfl rfl rfl rfl rfl rfl kc_X6_init dX6_init_12
theorem rX6_init_15 : ab_Run X 32 15 (f, cl, sl) [ab_R z] st σ Q ↔ z ≠ 0 ∧ ab_Run X 32 16 (f, cl, sl) [ab_R z] (ab_R z :: st) σ Q := ab_r_aload_n rfl kc_X6_init dX6_init_15
theorem rX6_init_16 : ab_Run X 32 16 (f, cl, sl) L st σ Q ↔ (1 ≤ cl ∧ 6 ≤ sl) ∧ ab_Run X 32 19 (f, cl - 1, sl - 6) L (ab_R σ.1 :: st) (ab_new σ 1 0) Q := ab_r_new rfl ko_X6_init (by decide +kernel) (by decide) rfl rfl kc_X6_init dX6_init_16
theorem rX6_init_19 : ab_Run X 32 19 (f, cl, sl) L (ab_R a :: st) σ Q ↔ ab_Run X 32 20 (f, cl, sl) L (ab_R a :: ab_R a :: st) σ Q := ab_r_dupR kc_X6_init dX6_init_19
theorem rX6_init_20 (h : 1 + 1 ≤ f ∧ 5 ≤ cl ∧ 33 ≤ sl) : ab_Run X 32 20 (f, cl, sl) L (ab_R a :: st) σ Q ↔ ((ab_sh σ a).1 = 1 ∧ ab_cats st ≤ 8) ∧ ab_Do X 0 [ab_R a] σ (fun r σ' => ab_Run X 32 23 (f, cl - 5, sl - 33) L (ab_psh r st) σ' Q) := ab_r_callV (w := []) (as := []) (b1 := (1, 5, 33)) 2 (Or.inr rfl) (by decide) ko_X6_init qM_6_11 (by decide) rfl rfl rfl rfl rfl h (Nat.le_of_ble_eq_true rfl) kc_X6_init dX6_init_20
theorem rX6_init_23 : ab_Run X 32 23 (f, cl, sl) L (ab_R z :: ab_R a :: st) σ Q ↔ (ab_sh σ a).1 = 7 ∧ ab_Run X 32 26 (f, cl, sl) L st (ab_wr σ a 1 z) Q := ab_r_putF rfl ko_X6_init qF_6_18 (by decide) rfl rfl rfl rfl rfl rfl kc_X6_init dX6_init_23
theorem rX6_init_26 : ab_Run X 32 26 (f, cl, sl) [ab_R z] st σ Q ↔ z ≠ 0 ∧ ab_Run X 32 27 (f, cl, sl) [ab_R z] (ab_R z :: st) σ Q := ab_r_aload_n rfl kc_X6_init dX6_init_26
theorem rX6_init_27 : ab_Run X 32 27 (f, cl, sl) L st σ Q ↔ ab_Run X 32 28 (f, cl, sl) L (ab_I 4 :: st) σ Q := ab_r_iconst (by decide) kc_X6_init dX6_init_27
theorem rX6_init_28 : ab_Run X 32 28 (f, cl, sl) L (ab_I n :: st) σ Q ↔ (0 ≤ n ∧ n ≤ 60000 ∧ 1 ≤ cl ∧ n.toNat ≤ sl) ∧ ab_Run X 32 30 (f, cl - 1, sl - n.toNat) L (ab_R σ.1 :: st) (ab_new σ 21 n) Q := ab_r_newarray rfl rfl kc_X6_init dX6_init_28
theorem rX6_init_30 : ab_Run X 32 30 (f, cl, sl) L (ab_R z :: ab_R a :: st) σ Q ↔ (ab_sh σ a).1 = 7 ∧ ab_Run X 32 33 (f, cl, sl) L st (ab_wr σ a 2 z) Q := ab_r_putF rfl ko_X6_init qF_6_21 (by decide) rfl rfl rfl rfl rfl rfl kc_X6_init dX6_init_30
theorem rX6_init_33 : ab_Run X 32 33 (f, cl, sl) [ab_R z] st σ Q ↔ z ≠ 0 ∧ ab_Run X 32 34 (f, cl, sl) [ab_R z] (ab_R z :: st) σ Q := ab_r_aload_n rfl kc_X6_init dX6_init_33
theorem rX6_init_34 : ab_Run X 32 34 (f, cl, sl) L st σ Q ↔ ab_Run X 32 35 (f, cl, sl) L (ab_I 1 :: st) σ Q := ab_r_iconst (by decide) kc_X6_init dX6_init_34
theorem rX6_init_35 : ab_Run X 32 35 (f, cl, sl) L (ab_I z :: ab_R a :: st) σ Q ↔ (ab_sh σ a).1 = 7 ∧ ab_Run X 32 38 (f, cl, sl) L st (ab_wr σ a 3 z) Q := sF_6_25 ko_X6_init kc_X6_init dX6_init_35
theorem rX6_init_38 : ab_Run X 32 38 (f, cl, sl) L [] σ Q ↔ Q none σ := ab_r_return rfl kc_X6_init dX6_init_38
theorem kc_X7_init : ab_code 41 = cX7_init := rfl
theorem ko_X7_init : ab_ow 41 = 7 := rfl
theorem rX7_init_0 : ab_Run X 41 0 (f, cl, sl) [ab_R z] st σ Q ↔ z ≠ 0 ∧ ab_Run X 41 1 (f, cl, sl) [ab_R z] (ab_R z :: st) σ Q := ab_r_aload_n rfl kc_X7_init dX7_init_0
theorem rX7_init_1 : ab_Run X 41 1 (f, cl, sl) L (ab_R a :: st) σ Q ↔ (0 < a ∧ 1 ≤ f ∧ ab_cats st ≤ 8) ∧ ab_Run X 41 4 (f, cl, sl) L st σ Q := ab_r_obj (by decide) ko_X7_init qM_7_3 kc_X7_init dX7_init_1
theorem rX7_init_4 : ab_Run X 41 4 (f, cl, sl) [ab_R z] st σ Q ↔ z ≠ 0 ∧ ab_Run X 41 5 (f, cl, sl) [ab_R z] (ab_R z :: st) σ Q := ab_r_aload_n rfl kc_X7_init dX7_init_4
theorem rX7_init_5 : ab_Run X 41 5 (f, cl, sl) L st σ Q ↔ (1 ≤ cl ∧ 8 ≤ sl) ∧ ab_Run X 41 8 (f, cl - 1, sl - 8) L (ab_R σ.1 :: st) (ab_new σ 10 0) Q := ab_r_new rfl ko_X7_init (by decide +kernel) (by decide) rfl rfl kc_X7_init dX7_init_5
theorem rX7_init_8 : ab_Run X 41 8 (f, cl, sl) L (ab_R a :: st) σ Q ↔ ab_Run X 41 9 (f, cl, sl) L (ab_R a :: ab_R a :: st) σ Q := ab_r_dupR kc_X7_init dX7_init_8
theorem rX7_init_9 (h : 1 + 1 ≤ f ∧ 1 ≤ cl ∧ 1000 ≤ sl) : ab_Run X 41 9 (f, cl, sl) L (ab_R a :: st) σ Q ↔ ((ab_sh σ a).1 = 10 ∧ ab_cats st ≤ 8) ∧ ab_Do X 66 [ab_R a] σ (fun r σ' => ab_Run X 41 12 (f, cl - 1, sl - 1000) L (ab_psh r st) σ' Q) := ab_r_callV (w := []) (as := []) (b1 := (1, 1, 1000)) 2 (Or.inr rfl) (by decide) ko_X7_init qM_7_11 (by decide) rfl rfl rfl rfl rfl h (Nat.le_of_ble_eq_true rfl) kc_X7_init dX7_init_9
theorem rX7_init_12 : ab_Run X 41 12 (f, cl, sl) L (ab_R z :: ab_R a :: st) σ Q ↔ (ab_sh σ a).1 = 8 ∧ ab_Run X 41 15 (f, cl, sl) L st (ab_wr σ a 0 z) Q := ab_r_putF rfl ko_X7_init qF_7_12 (by decide) rfl rfl rfl rfl rfl rfl kc_X7_init dX7_init_12
theorem rX7_init_15 : ab_Run X 41 15 (f, cl, sl) [ab_R z] st σ Q ↔ z ≠ 0 ∧ ab_Run X 41 16 (f, cl, sl) [ab_R z] (ab_R z :: st) σ Q := ab_r_aload_n rfl kc_X7_init dX7_init_15
theorem rX7_init_16 : ab_Run X 41 16 (f, cl, sl) L st σ Q ↔ (1 ≤ cl ∧ 15 ≤ sl) ∧ ab_Run X 41 19 (f, cl - 1, sl - 15) L (ab_R σ.1 :: st) (ab_new σ 5 0) Q := ab_r_new rfl ko_X7_init (by decide +kernel) (by decide) rfl rfl kc_X7_init dX7_init_16
theorem rX7_init_19 : ab_Run X 41 19 (f, cl, sl) L (ab_R a :: st) σ Q ↔ ab_Run X 41 20 (f, cl, sl) L (ab_R a :: ab_R a :: st) σ Q := ab_r_dupR kc_X7_init dX7_init_19
theorem rX7_init_20 (h : 2 + 1 ≤ f ∧ 25 ≤ cl ∧ 186 ≤ sl) : ab_Run X 41 20 (f, cl, sl) L (ab_R a :: st) σ Q ↔ ((ab_sh σ a).1 = 5 ∧ ab_cats st ≤ 8) ∧ ab_Do X 26 [ab_R a] σ (fun r σ' => ab_Run X 41 23 (f, cl - 25, sl - 186) L (ab_psh r st) σ' Q) := ab_r_callV (w := []) (as := []) (b1 := (2, 25, 186)) 2 (Or.inr rfl) (by decide) ko_X7_init qM_7_20 (by decide) rfl rfl rfl rfl rfl h (Nat.le_of_ble_eq_true rfl) kc_X7_init dX7_init_20
theorem rX7_init_23 : ab_Run X 41 23 (f, cl, sl) L (ab_R z :: ab_R a :: st) σ Q ↔ (ab_sh σ a).1 = 8 ∧ ab_Run X 41 26 (f, cl, sl) L st (ab_wr σ a 1 z) Q := sF_7_21 ko_X7_init kc_X7_init dX7_init_23
theorem rX7_init_26 : ab_Run X 41 26 (f, cl, sl) L [] σ Q ↔ Q none σ := ab_r_return rfl kc_X7_init dX7_init_26
theorem kc_X8_init : ab_code 61 = cX8_init := rfl
theorem ko_X8_init : ab_ow 61 = 8 := rfl
theorem rX8_init_0 : ab_Run X 61 0 (f, cl, sl) [ab_R z] st σ Q ↔ z ≠ 0 ∧ ab_Run X 61 1 (f, cl, sl) [ab_R z] (ab_R z :: st) σ Q := ab_r_aload_n rfl kc_X8_init dX8_init_0
theorem rX8_init_1 : ab_Run X 61 1 (f, cl, sl) L (ab_R a :: st) σ Q ↔ (0 < a ∧ 1 ≤ f ∧ ab_cats st ≤ 8) ∧ ab_Run X 61 4 (f, cl, sl) L st σ Q := ab_r_obj (by decide) ko_X8_init qM_8_3 kc_X8_init dX8_init_1
theorem rX8_init_4 : ab_Run X 61 4 (f, cl, sl) [ab_R z] st σ Q ↔ z ≠ 0 ∧ ab_Run X 61 5 (f, cl, sl) [ab_R z] (ab_R z :: st) σ Q := ab_r_aload_n rfl kc_X8_init dX8_init_4
theorem rX8_init_5 : ab_Run X 61 5 (f, cl, sl) L st σ Q ↔ ab_Run X 61 6 (f, cl, sl) L (ab_I 5 :: st) σ Q := ab_r_iconst (by decide) kc_X8_init dX8_init_5
theorem rX8_init_6 : ab_Run X 61 6 (f, cl, sl) L (ab_I n :: st) σ Q ↔ (0 ≤ n ∧ n ≤ 60000 ∧ 1 ≤ cl ∧ n.toNat ≤ sl) ∧ ab_Run X 61 8 (f, cl - 1, sl - n.toNat) L (ab_R σ.1 :: st) (ab_new σ 21 n) Q := ab_r_newarray rfl rfl kc_X8_init dX8_init_6
theorem rX8_init_8 : ab_Run X 61 8 (f, cl, sl) L (ab_R z :: ab_R a :: st) σ Q ↔ (ab_sh σ a).1 = 9 ∧ ab_Run X 61 11 (f, cl, sl) L st (ab_wr σ a 0 z) Q := ab_r_putF rfl ko_X8_init qF_8_9 (by decide) rfl rfl rfl rfl rfl rfl kc_X8_init dX8_init_8
theorem rX8_init_11 : ab_Run X 61 11 (f, cl, sl) [ab_R z] st σ Q ↔ z ≠ 0 ∧ ab_Run X 61 12 (f, cl, sl) [ab_R z] (ab_R z :: st) σ Q := ab_r_aload_n rfl kc_X8_init dX8_init_11
theorem rX8_init_12 : ab_Run X 61 12 (f, cl, sl) L st σ Q ↔ ab_Run X 61 13 (f, cl, sl) L (ab_I 5 :: st) σ Q := ab_r_iconst (by decide) kc_X8_init dX8_init_12
theorem rX8_init_13 : ab_Run X 61 13 (f, cl, sl) L (ab_I n :: st) σ Q ↔ (0 ≤ n ∧ n ≤ 60000 ∧ 1 ≤ cl ∧ n.toNat ≤ sl) ∧ ab_Run X 61 15 (f, cl - 1, sl - n.toNat) L (ab_R σ.1 :: st) (ab_new σ 21 n) Q := ab_r_newarray rfl rfl kc_X8_init dX8_init_13
theorem rX8_init_15 : ab_Run X 61 15 (f, cl, sl) L (ab_R z :: ab_R a :: st) σ Q ↔ (ab_sh σ a).1 = 9 ∧ ab_Run X 61 18 (f, cl, sl) L st (ab_wr σ a 1 z) Q := ab_r_putF rfl ko_X8_init qF_8_15 (by decide) rfl rfl rfl rfl rfl rfl kc_X8_init dX8_init_15
theorem rX8_init_18 : ab_Run X 61 18 (f, cl, sl) [ab_R z] st σ Q ↔ z ≠ 0 ∧ ab_Run X 61 19 (f, cl, sl) [ab_R z] (ab_R z :: st) σ Q := ab_r_aload_n rfl kc_X8_init dX8_init_18
theorem rX8_init_19 : ab_Run X 61 19 (f, cl, sl) L st σ Q ↔ ab_Run X 61 20 (f, cl, sl) L (ab_I 5 :: st) σ Q := ab_r_iconst (by decide) kc_X8_init dX8_init_19
theorem rX8_init_20 : ab_Run X 61 20 (f, cl, sl) L (ab_I n :: st) σ Q ↔ (0 ≤ n ∧ n ≤ 60000 ∧ 1 ≤ cl ∧ n.toNat ≤ sl) ∧ ab_Run X 61 22 (f, cl - 1, sl - n.toNat) L (ab_R σ.1 :: st) (ab_new σ 24 n) Q := ab_r_newarray rfl rfl kc_X8_init dX8_init_20
theorem rX8_init_22 : ab_Run X 61 22 (f, cl, sl) L (ab_R z :: ab_R a :: st) σ Q ↔ (ab_sh σ a).1 = 9 ∧ ab_Run X 61 25 (f, cl, sl) L st (ab_wr σ a 2 z) Q := ab_r_putF rfl ko_X8_init qF_8_18 (by decide) rfl rfl rfl rfl rfl rfl kc_X8_init dX8_init_22
theorem rX8_init_25 : ab_Run X 61 25 (f, cl, sl) [ab_R z] st σ Q ↔ z ≠ 0 ∧ ab_Run X 61 26 (f, cl, sl) [ab_R z] (ab_R z :: st) σ Q := ab_r_aload_n rfl kc_X8_init dX8_init_25
theorem rX8_init_26 : ab_Run X 61 26 (f, cl, sl) L st σ Q ↔ ab_Run X 61 28 (f, cl, sl) L (ab_I 6 :: st) σ Q := ab_r_bipush (by decide) kc_X8_init dX8_init_26
theorem rX8_init_28 : ab_Run X 61 28 (f, cl, sl) L (ab_I n :: st) σ Q ↔ (0 ≤ n ∧ n ≤ 60000 ∧ 1 ≤ cl ∧ n.toNat ≤ sl) ∧ ab_Run X 61 30 (f, cl - 1, sl - n.toNat) L (ab_R σ.1 :: st) (ab_new σ 21 n) Q := ab_r_newarray rfl rfl kc_X8_init dX8_init_28
theorem rX8_init_30 : ab_Run X 61 30 (f, cl, sl) L (ab_R z :: ab_R a :: st) σ Q ↔ (ab_sh σ a).1 = 9 ∧ ab_Run X 61 33 (f, cl, sl) L st (ab_wr σ a 3 z) Q := ab_r_putF rfl ko_X8_init qF_8_22 (by decide) rfl rfl rfl rfl rfl rfl kc_X8_init dX8_init_30
theorem rX8_init_33 : ab_Run X 61 33 (f, cl, sl) L [] σ Q ↔ Q none σ := ab_r_return rfl kc_X8_init dX8_init_33
theorem kc_X9_init : ab_code 66 = cX9_init := rfl
theorem ko_X9_init : ab_ow 66 = 9 := rfl
theorem rX9_init_0 : ab_Run X 66 0 (f, cl, sl) [ab_R z] st σ Q ↔ z ≠ 0 ∧ ab_Run X 66 1 (f, cl, sl) [ab_R z] (ab_R z :: st) σ Q := ab_r_aload_n rfl kc_X9_init dX9_init_0
theorem rX9_init_1 : ab_Run X 66 1 (f, cl, sl) L (ab_R a :: st) σ Q ↔ (0 < a ∧ 1 ≤ f ∧ ab_cats st ≤ 8) ∧ ab_Run X 66 4 (f, cl, sl) L st σ Q := ab_r_obj (by decide) ko_X9_init qM_9_1 kc_X9_init dX9_init_1
theorem rX9_init_4 : ab_Run X 66 4 (f, cl, sl) [ab_R z] st σ Q ↔ z ≠ 0 ∧ ab_Run X 66 5 (f, cl, sl) [ab_R z] (ab_R z :: st) σ Q := ab_r_aload_n rfl kc_X9_init dX9_init_4
theorem rX9_init_5 : ab_Run X 66 5 (f, cl, sl) L st σ Q ↔ ab_Run X 66 8 (f, cl, sl) L (ab_I 1000 :: st) σ Q := ab_r_sipush (by decide) kc_X9_init dX9_init_5
theorem rX9_init_8 : ab_Run X 66 8 (f, cl, sl) L (ab_I n :: st) σ Q ↔ (0 ≤ n ∧ n ≤ 60000 ∧ 1 ≤ cl ∧ n.toNat ≤ sl) ∧ ab_Run X 66 10 (f, cl - 1, sl - n.toNat) L (ab_R σ.1 :: st) (ab_new σ 23 n) Q := ab_r_newarray rfl rfl kc_X9_init dX9_init_8
theorem rX9_init_10 : ab_Run X 66 10 (f, cl, sl) L (ab_R z :: ab_R a :: st) σ Q ↔ (ab_sh σ a).1 = 10 ∧ ab_Run X 66 13 (f, cl, sl) L st (ab_wr σ a 0 z) Q := ab_r_putF rfl ko_X9_init qF_9_7 (by decide) rfl rfl rfl rfl rfl rfl kc_X9_init dX9_init_10
theorem rX9_init_13 : ab_Run X 66 13 (f, cl, sl) L [] σ Q ↔ Q none σ := ab_r_return rfl kc_X9_init dX9_init_13
theorem kc_X10_init : ab_code 74 = cX10_init := rfl
theorem ko_X10_init : ab_ow 74 = 10 := rfl
theorem rX10_init_0 : ab_Run X 74 0 (f, cl, sl) [ab_R z] st σ Q ↔ z ≠ 0 ∧ ab_Run X 74 1 (f, cl, sl) [ab_R z] (ab_R z :: st) σ Q := ab_r_aload_n rfl kc_X10_init dX10_init_0
theorem rX10_init_1 : ab_Run X 74 1 (f, cl, sl) L (ab_R a :: st) σ Q ↔ (0 < a ∧ 1 ≤ f ∧ ab_cats st ≤ 8) ∧ ab_Run X 74 4 (f, cl, sl) L st σ Q := ab_r_obj (by decide) ko_X10_init qM_10_3 kc_X10_init dX10_init_1
theorem rX10_init_4 : ab_Run X 74 4 (f, cl, sl) [ab_R z] st σ Q ↔ z ≠ 0 ∧ ab_Run X 74 5 (f, cl, sl) [ab_R z] (ab_R z :: st) σ Q := ab_r_aload_n rfl kc_X10_init dX10_init_4
theorem rX10_init_5 : ab_Run X 74 5 (f, cl, sl) L st σ Q ↔ ab_Run X 74 7 (f, cl, sl) L (ab_I 9 :: st) σ Q := ab_r_bipush (by decide) kc_X10_init dX10_init_5
theorem rX10_init_7 : ab_Run X 74 7 (f, cl, sl) L (ab_I n :: st) σ Q ↔ (0 ≤ n ∧ n ≤ 60000 ∧ 1 ≤ cl ∧ n.toNat ≤ sl) ∧ ab_Run X 74 9 (f, cl - 1, sl - n.toNat) L (ab_R σ.1 :: st) (ab_new σ 21 n) Q := ab_r_newarray rfl rfl kc_X10_init dX10_init_7
theorem rX10_init_9 : ab_Run X 74 9 (f, cl, sl) L (ab_R z :: ab_R a :: st) σ Q ↔ (ab_sh σ a).1 = 11 ∧ ab_Run X 74 12 (f, cl, sl) L st (ab_wr σ a 0 z) Q := ab_r_putF rfl ko_X10_init qF_10_9 (by decide) rfl rfl rfl rfl rfl rfl kc_X10_init dX10_init_9
theorem rX10_init_12 : ab_Run X 74 12 (f, cl, sl) [ab_R z] st σ Q ↔ z ≠ 0 ∧ ab_Run X 74 13 (f, cl, sl) [ab_R z] (ab_R z :: st) σ Q := ab_r_aload_n rfl kc_X10_init dX10_init_12
theorem rX10_init_13 : ab_Run X 74 13 (f, cl, sl) L st σ Q ↔ ab_Run X 74 15 (f, cl, sl) L (ab_I 6 :: st) σ Q := ab_r_bipush (by decide) kc_X10_init dX10_init_13
theorem rX10_init_15 : ab_Run X 74 15 (f, cl, sl) L (ab_I n :: st) σ Q ↔ (0 ≤ n ∧ n ≤ 60000 ∧ 1 ≤ cl ∧ n.toNat ≤ sl) ∧ ab_Run X 74 17 (f, cl - 1, sl - n.toNat) L (ab_R σ.1 :: st) (ab_new σ 21 n) Q := ab_r_newarray rfl rfl kc_X10_init dX10_init_15
theorem rX10_init_17 : ab_Run X 74 17 (f, cl, sl) L (ab_R z :: ab_R a :: st) σ Q ↔ (ab_sh σ a).1 = 11 ∧ ab_Run X 74 20 (f, cl, sl) L st (ab_wr σ a 1 z) Q := ab_r_putF rfl ko_X10_init qF_10_15 (by decide) rfl rfl rfl rfl rfl rfl kc_X10_init dX10_init_17
theorem rX10_init_20 : ab_Run X 74 20 (f, cl, sl) L [] σ Q ↔ Q none σ := ab_r_return rfl kc_X10_init dX10_init_20
theorem kc_X11_init : ab_code 79 = cX11_init := rfl
theorem ko_X11_init : ab_ow 79 = 11 := rfl
theorem rX11_init_0 : ab_Run X 79 0 (f, cl, sl) [ab_R z] st σ Q ↔ z ≠ 0 ∧ ab_Run X 79 1 (f, cl, sl) [ab_R z] (ab_R z :: st) σ Q := ab_r_aload_n rfl kc_X11_init dX11_init_0
theorem rX11_init_1 : ab_Run X 79 1 (f, cl, sl) L (ab_R a :: st) σ Q ↔ (0 < a ∧ 1 ≤ f ∧ ab_cats st ≤ 8) ∧ ab_Run X 79 4 (f, cl, sl) L st σ Q := ab_r_obj (by decide) ko_X11_init qM_11_1 kc_X11_init dX11_init_1
theorem rX11_init_4 : ab_Run X 79 4 (f, cl, sl) [ab_R z] st σ Q ↔ z ≠ 0 ∧ ab_Run X 79 5 (f, cl, sl) [ab_R z] (ab_R z :: st) σ Q := ab_r_aload_n rfl kc_X11_init dX11_init_4
theorem rX11_init_5 : ab_Run X 79 5 (f, cl, sl) L st σ Q ↔ (1 ≤ cl ∧ 6 ≤ sl) ∧ ab_Run X 79 8 (f, cl - 1, sl - 6) L (ab_R σ.1 :: st) (ab_new σ 8 0) Q := ab_r_new rfl ko_X11_init (by decide +kernel) (by decide) rfl rfl kc_X11_init dX11_init_5
theorem rX11_init_8 : ab_Run X 79 8 (f, cl, sl) L (ab_R a :: st) σ Q ↔ ab_Run X 79 9 (f, cl, sl) L (ab_R a :: ab_R a :: st) σ Q := ab_r_dupR kc_X11_init dX11_init_8
theorem rX11_init_9 (h : 3 + 1 ≤ f ∧ 28 ≤ cl ∧ 1209 ≤ sl) : ab_Run X 79 9 (f, cl, sl) L (ab_R a :: st) σ Q ↔ ((ab_sh σ a).1 = 8 ∧ ab_cats st ≤ 8) ∧ ab_Do X 41 [ab_R a] σ (fun r σ' => ab_Run X 79 12 (f, cl - 28, sl - 1209) L (ab_psh r st) σ' Q) := ab_r_callV (w := []) (as := []) (b1 := (3, 28, 1209)) 2 (Or.inr rfl) (by decide) ko_X11_init qM_11_9 (by decide) rfl rfl rfl rfl rfl h (Nat.le_of_ble_eq_true rfl) kc_X11_init dX11_init_9
theorem rX11_init_12 : ab_Run X 79 12 (f, cl, sl) L (ab_R z :: ab_R a :: st) σ Q ↔ (ab_sh σ a).1 = 12 ∧ ab_Run X 79 15 (f, cl, sl) L st (ab_wr σ a 0 z) Q := ab_r_putF rfl ko_X11_init qF_11_10 (by decide) rfl rfl rfl rfl rfl rfl kc_X11_init dX11_init_12
theorem rX11_init_15 : ab_Run X 79 15 (f, cl, sl) [ab_R z] st σ Q ↔ z ≠ 0 ∧ ab_Run X 79 16 (f, cl, sl) [ab_R z] (ab_R z :: st) σ Q := ab_r_aload_n rfl kc_X11_init dX11_init_15
theorem rX11_init_16 : ab_Run X 79 16 (f, cl, sl) L st σ Q ↔ (1 ≤ cl ∧ 5 ≤ sl) ∧ ab_Run X 79 19 (f, cl - 1, sl - 5) L (ab_R σ.1 :: st) (ab_new σ 9 0) Q := ab_r_new rfl ko_X11_init (by decide +kernel) (by decide) rfl rfl kc_X11_init dX11_init_16
theorem rX11_init_19 : ab_Run X 79 19 (f, cl, sl) L (ab_R a :: st) σ Q ↔ ab_Run X 79 20 (f, cl, sl) L (ab_R a :: ab_R a :: st) σ Q := ab_r_dupR kc_X11_init dX11_init_19
theorem rX11_init_20 (h : 1 + 1 ≤ f ∧ 4 ≤ cl ∧ 21 ≤ sl) : ab_Run X 79 20 (f, cl, sl) L (ab_R a :: st) σ Q ↔ ((ab_sh σ a).1 = 9 ∧ ab_cats st ≤ 8) ∧ ab_Do X 61 [ab_R a] σ (fun r σ' => ab_Run X 79 23 (f, cl - 4, sl - 21) L (ab_psh r st) σ' Q) := ab_r_callV (w := []) (as := []) (b1 := (1, 4, 21)) 2 (Or.inr rfl) (by decide) ko_X11_init qM_11_18 (by decide) rfl rfl rfl rfl rfl h (Nat.le_of_ble_eq_true rfl) kc_X11_init dX11_init_20
theorem rX11_init_23 : ab_Run X 79 23 (f, cl, sl) L (ab_R z :: ab_R a :: st) σ Q ↔ (ab_sh σ a).1 = 12 ∧ ab_Run X 79 26 (f, cl, sl) L st (ab_wr σ a 1 z) Q := ab_r_putF rfl ko_X11_init qF_11_19 (by decide) rfl rfl rfl rfl rfl rfl kc_X11_init dX11_init_23
theorem rX11_init_26 : ab_Run X 79 26 (f, cl, sl) [ab_R z] st σ Q ↔ z ≠ 0 ∧ ab_Run X 79 27 (f, cl, sl) [ab_R z] (ab_R z :: st) σ Q := ab_r_aload_n rfl kc_X11_init dX11_init_26
theorem rX11_init_27 : ab_Run X 79 27 (f, cl, sl) L st σ Q ↔ (1 ≤ cl ∧ 5 ≤ sl) ∧ ab_Run X 79 30 (f, cl - 1, sl - 5) L (ab_R σ.1 :: st) (ab_new σ 4 0) Q := ab_r_new rfl ko_X11_init (by decide +kernel) (by decide) rfl rfl kc_X11_init dX11_init_27
theorem rX11_init_30 : ab_Run X 79 30 (f, cl, sl) L (ab_R a :: st) σ Q ↔ ab_Run X 79 31 (f, cl, sl) L (ab_R a :: ab_R a :: st) σ Q := ab_r_dupR kc_X11_init dX11_init_30
theorem rX11_init_31 (h : 2 + 1 ≤ f ∧ 97 ≤ cl ∧ 513 ≤ sl) : ab_Run X 79 31 (f, cl, sl) L (ab_R a :: st) σ Q ↔ ((ab_sh σ a).1 = 4 ∧ ab_cats st ≤ 8) ∧ ab_Do X 19 [ab_R a] σ (fun r σ' => ab_Run X 79 34 (f, cl - 97, sl - 513) L (ab_psh r st) σ' Q) := ab_r_callV (w := []) (as := []) (b1 := (2, 97, 513)) 2 (Or.inr rfl) (by decide) ko_X11_init qM_11_25 (by decide) rfl rfl rfl rfl rfl h (Nat.le_of_ble_eq_true rfl) kc_X11_init dX11_init_31
theorem rX11_init_34 : ab_Run X 79 34 (f, cl, sl) L (ab_R z :: ab_R a :: st) σ Q ↔ (ab_sh σ a).1 = 12 ∧ ab_Run X 79 37 (f, cl, sl) L st (ab_wr σ a 2 z) Q := ab_r_putF rfl ko_X11_init qF_11_26 (by decide) rfl rfl rfl rfl rfl rfl kc_X11_init dX11_init_34
theorem rX11_init_37 : ab_Run X 79 37 (f, cl, sl) [ab_R z] st σ Q ↔ z ≠ 0 ∧ ab_Run X 79 38 (f, cl, sl) [ab_R z] (ab_R z :: st) σ Q := ab_r_aload_n rfl kc_X11_init dX11_init_37
theorem rX11_init_38 : ab_Run X 79 38 (f, cl, sl) L st σ Q ↔ (1 ≤ cl ∧ 10 ≤ sl) ∧ ab_Run X 79 41 (f, cl - 1, sl - 10) L (ab_R σ.1 :: st) (ab_new σ 7 0) Q := ab_r_new rfl ko_X11_init (by decide +kernel) (by decide) rfl rfl kc_X11_init dX11_init_38
theorem rX11_init_41 : ab_Run X 79 41 (f, cl, sl) L (ab_R a :: st) σ Q ↔ ab_Run X 79 42 (f, cl, sl) L (ab_R a :: ab_R a :: st) σ Q := ab_r_dupR kc_X11_init dX11_init_41
theorem rX11_init_42 (h : 2 + 1 ≤ f ∧ 13 ≤ cl ∧ 82 ≤ sl) : ab_Run X 79 42 (f, cl, sl) L (ab_R a :: st) σ Q ↔ ((ab_sh σ a).1 = 7 ∧ ab_cats st ≤ 8) ∧ ab_Do X 32 [ab_R a] σ (fun r σ' => ab_Run X 79 45 (f, cl - 13, sl - 82) L (ab_psh r st) σ' Q) := ab_r_callV (w := []) (as := []) (b1 := (2, 13, 82)) 2 (Or.inr rfl) (by decide) ko_X11_init qM_11_32 (by decide) rfl rfl rfl rfl rfl h (Nat.le_of_ble_eq_true rfl) kc_X11_init dX11_init_42
theorem rX11_init_45 : ab_Run X 79 45 (f, cl, sl) L (ab_R z :: ab_R a :: st) σ Q ↔ (ab_sh σ a).1 = 12 ∧ ab_Run X 79 48 (f, cl, sl) L st (ab_wr σ a 3 z) Q := ab_r_putF rfl ko_X11_init qF_11_33 (by decide) rfl rfl rfl rfl rfl rfl kc_X11_init dX11_init_45
theorem rX11_init_48 : ab_Run X 79 48 (f, cl, sl) [ab_R z] st σ Q ↔ z ≠ 0 ∧ ab_Run X 79 49 (f, cl, sl) [ab_R z] (ab_R z :: st) σ Q := ab_r_aload_n rfl kc_X11_init dX11_init_48
theorem rX11_init_49 : ab_Run X 79 49 (f, cl, sl) L st σ Q ↔ (1 ≤ cl ∧ 10 ≤ sl) ∧ ab_Run X 79 52 (f, cl - 1, sl - 10) L (ab_R σ.1 :: st) (ab_new σ 3 0) Q := ab_r_new rfl ko_X11_init (by decide +kernel) (by decide) rfl rfl kc_X11_init dX11_init_49
theorem rX11_init_52 : ab_Run X 79 52 (f, cl, sl) L (ab_R a :: st) σ Q ↔ ab_Run X 79 53 (f, cl, sl) L (ab_R a :: ab_R a :: st) σ Q := ab_r_dupR kc_X11_init dX11_init_52
theorem rX11_init_53 (h : 2 + 1 ≤ f ∧ 176 ≤ cl ∧ 1320 ≤ sl) : ab_Run X 79 53 (f, cl, sl) L (ab_R a :: st) σ Q ↔ ((ab_sh σ a).1 = 3 ∧ ab_cats st ≤ 8) ∧ ab_Do X 11 [ab_R a] σ (fun r σ' => ab_Run X 79 56 (f, cl - 176, sl - 1320) L (ab_psh r st) σ' Q) := ab_r_callV (w := []) (as := []) (b1 := (2, 176, 1320)) 2 (Or.inr rfl) (by decide) ko_X11_init qM_11_39 (by decide) rfl rfl rfl rfl rfl h (Nat.le_of_ble_eq_true rfl) kc_X11_init dX11_init_53
theorem rX11_init_56 : ab_Run X 79 56 (f, cl, sl) L (ab_R z :: ab_R a :: st) σ Q ↔ (ab_sh σ a).1 = 12 ∧ ab_Run X 79 59 (f, cl, sl) L st (ab_wr σ a 4 z) Q := ab_r_putF rfl ko_X11_init qF_11_40 (by decide) rfl rfl rfl rfl rfl rfl kc_X11_init dX11_init_56
theorem rX11_init_59 : ab_Run X 79 59 (f, cl, sl) [ab_R z] st σ Q ↔ z ≠ 0 ∧ ab_Run X 79 60 (f, cl, sl) [ab_R z] (ab_R z :: st) σ Q := ab_r_aload_n rfl kc_X11_init dX11_init_59
theorem rX11_init_60 : ab_Run X 79 60 (f, cl, sl) L st σ Q ↔ (1 ≤ cl ∧ 4 ≤ sl) ∧ ab_Run X 79 63 (f, cl - 1, sl - 4) L (ab_R σ.1 :: st) (ab_new σ 11 0) Q := ab_r_new rfl ko_X11_init (by decide +kernel) (by decide) rfl rfl kc_X11_init dX11_init_60
theorem rX11_init_63 : ab_Run X 79 63 (f, cl, sl) L (ab_R a :: st) σ Q ↔ ab_Run X 79 64 (f, cl, sl) L (ab_R a :: ab_R a :: st) σ Q := ab_r_dupR kc_X11_init dX11_init_63
theorem rX11_init_64 (h : 1 + 1 ≤ f ∧ 2 ≤ cl ∧ 15 ≤ sl) : ab_Run X 79 64 (f, cl, sl) L (ab_R a :: st) σ Q ↔ ((ab_sh σ a).1 = 11 ∧ ab_cats st ≤ 8) ∧ ab_Do X 74 [ab_R a] σ (fun r σ' => ab_Run X 79 67 (f, cl - 2, sl - 15) L (ab_psh r st) σ' Q) := ab_r_callV (w := []) (as := []) (b1 := (1, 2, 15)) 2 (Or.inr rfl) (by decide) ko_X11_init qM_11_46 (by decide) rfl rfl rfl rfl rfl h (Nat.le_of_ble_eq_true rfl) kc_X11_init dX11_init_64
theorem rX11_init_67 : ab_Run X 79 67 (f, cl, sl) L (ab_R z :: ab_R a :: st) σ Q ↔ (ab_sh σ a).1 = 12 ∧ ab_Run X 79 70 (f, cl, sl) L st (ab_wr σ a 5 z) Q := ab_r_putF rfl ko_X11_init qF_11_47 (by decide) rfl rfl rfl rfl rfl rfl kc_X11_init dX11_init_67
theorem rX11_init_70 : ab_Run X 79 70 (f, cl, sl) [ab_R z] st σ Q ↔ z ≠ 0 ∧ ab_Run X 79 71 (f, cl, sl) [ab_R z] (ab_R z :: st) σ Q := ab_r_aload_n rfl kc_X11_init dX11_init_70
theorem rX11_init_71 : ab_Run X 79 71 (f, cl, sl) L st σ Q ↔ ab_Run X 79 73 (f, cl, sl) L (ab_I 8 :: st) σ Q := ab_r_bipush (by decide) kc_X11_init dX11_init_71
theorem rX11_init_73 : ab_Run X 79 73 (f, cl, sl) L (ab_I n :: st) σ Q ↔ (0 ≤ n ∧ n ≤ 60000 ∧ 1 ≤ cl ∧ n.toNat ≤ sl) ∧ ab_Run X 79 75 (f, cl - 1, sl - n.toNat) L (ab_R σ.1 :: st) (ab_new σ 21 n) Q := ab_r_newarray rfl rfl kc_X11_init dX11_init_73
theorem rX11_init_75 : ab_Run X 79 75 (f, cl, sl) L (ab_R z :: ab_R a :: st) σ Q ↔ (ab_sh σ a).1 = 12 ∧ ab_Run X 79 78 (f, cl, sl) L st (ab_wr σ a 6 z) Q := ab_r_putF rfl ko_X11_init qF_11_51 (by decide) rfl rfl rfl rfl rfl rfl kc_X11_init dX11_init_75
theorem rX11_init_78 : ab_Run X 79 78 (f, cl, sl) [ab_R z] st σ Q ↔ z ≠ 0 ∧ ab_Run X 79 79 (f, cl, sl) [ab_R z] (ab_R z :: st) σ Q := ab_r_aload_n rfl kc_X11_init dX11_init_78
theorem rX11_init_79 : ab_Run X 79 79 (f, cl, sl) L st σ Q ↔ (1 ≤ cl ∧ 15 ≤ sl) ∧ ab_Run X 79 82 (f, cl - 1, sl - 15) L (ab_R σ.1 :: st) (ab_new σ 5 0) Q := ab_r_new rfl ko_X11_init (by decide +kernel) (by decide) rfl rfl kc_X11_init dX11_init_79
theorem rX11_init_82 : ab_Run X 79 82 (f, cl, sl) L (ab_R a :: st) σ Q ↔ ab_Run X 79 83 (f, cl, sl) L (ab_R a :: ab_R a :: st) σ Q := ab_r_dupR kc_X11_init dX11_init_82
theorem rX11_init_83 (h : 2 + 1 ≤ f ∧ 25 ≤ cl ∧ 186 ≤ sl) : ab_Run X 79 83 (f, cl, sl) L (ab_R a :: st) σ Q ↔ ((ab_sh σ a).1 = 5 ∧ ab_cats st ≤ 8) ∧ ab_Do X 26 [ab_R a] σ (fun r σ' => ab_Run X 79 86 (f, cl - 25, sl - 186) L (ab_psh r st) σ' Q) := ab_r_callV (w := []) (as := []) (b1 := (2, 25, 186)) 2 (Or.inr rfl) (by decide) ko_X11_init qM_11_57 (by decide) rfl rfl rfl rfl rfl h (Nat.le_of_ble_eq_true rfl) kc_X11_init dX11_init_83
theorem rX11_init_86 : ab_Run X 79 86 (f, cl, sl) L (ab_R z :: ab_R a :: st) σ Q ↔ (ab_sh σ a).1 = 12 ∧ ab_Run X 79 89 (f, cl, sl) L st (ab_wr σ a 7 z) Q := sF_11_58 ko_X11_init kc_X11_init dX11_init_86
theorem rX11_init_89 : ab_Run X 79 89 (f, cl, sl) [ab_R z] st σ Q ↔ z ≠ 0 ∧ ab_Run X 79 90 (f, cl, sl) [ab_R z] (ab_R z :: st) σ Q := ab_r_aload_n rfl kc_X11_init dX11_init_89
theorem rX11_init_90 : ab_Run X 79 90 (f, cl, sl) L st σ Q ↔ ab_Run X 79 91 (f, cl, sl) L (ab_I 0 :: st) σ Q := ab_r_iconst (by decide) kc_X11_init dX11_init_90
theorem rX11_init_91 : ab_Run X 79 91 (f, cl, sl) L (ab_I z :: ab_R a :: st) σ Q ↔ (ab_sh σ a).1 = 12 ∧ ab_Run X 79 94 (f, cl, sl) L st (ab_wr σ a 8 z) Q := sF_11_62 ko_X11_init kc_X11_init dX11_init_91
theorem rX11_init_94 : ab_Run X 79 94 (f, cl, sl) L [] σ Q ↔ Q none σ := ab_r_return rfl kc_X11_init dX11_init_94
theorem kc_X12_init : ab_code 152 = cX12_init := rfl
theorem ko_X12_init : ab_ow 152 = 12 := rfl
theorem rX12_init_0 : ab_Run X 152 0 (f, cl, sl) [ab_R z] st σ Q ↔ z ≠ 0 ∧ ab_Run X 152 1 (f, cl, sl) [ab_R z] (ab_R z :: st) σ Q := ab_r_aload_n rfl kc_X12_init dX12_init_0
theorem rX12_init_1 : ab_Run X 152 1 (f, cl, sl) L (ab_R a :: st) σ Q ↔ (0 < a ∧ 1 ≤ f ∧ ab_cats st ≤ 8) ∧ ab_Run X 152 4 (f, cl, sl) L st σ Q := ab_r_obj (by decide) ko_X12_init qM_12_3 kc_X12_init dX12_init_1
theorem rX12_init_4 : ab_Run X 152 4 (f, cl, sl) [ab_R z] st σ Q ↔ z ≠ 0 ∧ ab_Run X 152 5 (f, cl, sl) [ab_R z] (ab_R z :: st) σ Q := ab_r_aload_n rfl kc_X12_init dX12_init_4
theorem rX12_init_5 : ab_Run X 152 5 (f, cl, sl) L st σ Q ↔ ab_Run X 152 6 (f, cl, sl) L (ab_I 5 :: st) σ Q := ab_r_iconst (by decide) kc_X12_init dX12_init_5
theorem rX12_init_6 : ab_Run X 152 6 (f, cl, sl) L (ab_I n :: st) σ Q ↔ (0 ≤ n ∧ n ≤ 60000 ∧ 1 ≤ cl ∧ n.toNat ≤ sl) ∧ ab_Run X 152 8 (f, cl - 1, sl - n.toNat) L (ab_R σ.1 :: st) (ab_new σ 21 n) Q := ab_r_newarray rfl rfl kc_X12_init dX12_init_6
theorem rX12_init_8 : ab_Run X 152 8 (f, cl, sl) L (ab_R z :: ab_R a :: st) σ Q ↔ (ab_sh σ a).1 = 13 ∧ ab_Run X 152 11 (f, cl, sl) L st (ab_wr σ a 12 z) Q := ab_r_putF rfl ko_X12_init qF_12_9 (by decide) rfl rfl rfl rfl rfl rfl kc_X12_init dX12_init_8
theorem rX12_init_11 : ab_Run X 152 11 (f, cl, sl) [ab_R z] st σ Q ↔ z ≠ 0 ∧ ab_Run X 152 12 (f, cl, sl) [ab_R z] (ab_R z :: st) σ Q := ab_r_aload_n rfl kc_X12_init dX12_init_11
theorem rX12_init_12 : ab_Run X 152 12 (f, cl, sl) L st σ Q ↔ ab_Run X 152 13 (f, cl, sl) L (ab_I 5 :: st) σ Q := ab_r_iconst (by decide) kc_X12_init dX12_init_12
theorem rX12_init_13 : ab_Run X 152 13 (f, cl, sl) L (ab_I n :: st) σ Q ↔ (0 ≤ n ∧ n ≤ 60000 ∧ 1 ≤ cl ∧ n.toNat ≤ sl) ∧ ab_Run X 152 15 (f, cl - 1, sl - n.toNat) L (ab_R σ.1 :: st) (ab_new σ 21 n) Q := ab_r_newarray rfl rfl kc_X12_init dX12_init_13
theorem rX12_init_15 : ab_Run X 152 15 (f, cl, sl) L (ab_R z :: ab_R a :: st) σ Q ↔ (ab_sh σ a).1 = 13 ∧ ab_Run X 152 18 (f, cl, sl) L st (ab_wr σ a 13 z) Q := ab_r_putF rfl ko_X12_init qF_12_15 (by decide) rfl rfl rfl rfl rfl rfl kc_X12_init dX12_init_15
theorem rX12_init_18 : ab_Run X 152 18 (f, cl, sl) [ab_R z] st σ Q ↔ z ≠ 0 ∧ ab_Run X 152 19 (f, cl, sl) [ab_R z] (ab_R z :: st) σ Q := ab_r_aload_n rfl kc_X12_init dX12_init_18
theorem rX12_init_19 : ab_Run X 152 19 (f, cl, sl) L st σ Q ↔ ab_Run X 152 21 (f, cl, sl) L (ab_I 10 :: st) σ Q := ab_r_bipush (by decide) kc_X12_init dX12_init_19
theorem rX12_init_21 : ab_Run X 152 21 (f, cl, sl) L (ab_I n :: st) σ Q ↔ (0 ≤ n ∧ n ≤ 60000 ∧ 1 ≤ cl ∧ n.toNat ≤ sl) ∧ ab_Run X 152 23 (f, cl - 1, sl - n.toNat) L (ab_R σ.1 :: st) (ab_new σ 21 n) Q := ab_r_newarray rfl rfl kc_X12_init dX12_init_21
theorem rX12_init_23 : ab_Run X 152 23 (f, cl, sl) L (ab_R z :: ab_R a :: st) σ Q ↔ (ab_sh σ a).1 = 13 ∧ ab_Run X 152 26 (f, cl, sl) L st (ab_wr σ a 14 z) Q := ab_r_putF rfl ko_X12_init qF_12_18 (by decide) rfl rfl rfl rfl rfl rfl kc_X12_init dX12_init_23
theorem rX12_init_26 : ab_Run X 152 26 (f, cl, sl) [ab_R z] st σ Q ↔ z ≠ 0 ∧ ab_Run X 152 27 (f, cl, sl) [ab_R z] (ab_R z :: st) σ Q := ab_r_aload_n rfl kc_X12_init dX12_init_26
theorem rX12_init_27 : ab_Run X 152 27 (f, cl, sl) L st σ Q ↔ ab_Run X 152 29 (f, cl, sl) L (ab_I 60 :: st) σ Q := ab_r_bipush (by decide) kc_X12_init dX12_init_27
theorem rX12_init_29 : ab_Run X 152 29 (f, cl, sl) L (ab_I n :: st) σ Q ↔ (0 ≤ n ∧ n ≤ 60000 ∧ 1 ≤ cl ∧ n.toNat ≤ sl) ∧ ab_Run X 152 31 (f, cl - 1, sl - n.toNat) L (ab_R σ.1 :: st) (ab_new σ 21 n) Q := ab_r_newarray rfl rfl kc_X12_init dX12_init_29
theorem rX12_init_31 : ab_Run X 152 31 (f, cl, sl) L (ab_R z :: ab_R a :: st) σ Q ↔ (ab_sh σ a).1 = 13 ∧ ab_Run X 152 34 (f, cl, sl) L st (ab_wr σ a 15 z) Q := ab_r_putF rfl ko_X12_init qF_12_21 (by decide) rfl rfl rfl rfl rfl rfl kc_X12_init dX12_init_31
theorem rX12_init_34 : ab_Run X 152 34 (f, cl, sl) [ab_R z] st σ Q ↔ z ≠ 0 ∧ ab_Run X 152 35 (f, cl, sl) [ab_R z] (ab_R z :: st) σ Q := ab_r_aload_n rfl kc_X12_init dX12_init_34
theorem rX12_init_35 : ab_Run X 152 35 (f, cl, sl) L st σ Q ↔ ab_Run X 152 37 (f, cl, sl) L (ab_I 6 :: st) σ Q := ab_r_bipush (by decide) kc_X12_init dX12_init_35
theorem rX12_init_37 : ab_Run X 152 37 (f, cl, sl) L (ab_I n :: st) σ Q ↔ (0 ≤ n ∧ n ≤ 60000 ∧ 1 ≤ cl ∧ n.toNat ≤ sl) ∧ ab_Run X 152 39 (f, cl - 1, sl - n.toNat) L (ab_R σ.1 :: st) (ab_new σ 21 n) Q := ab_r_newarray rfl rfl kc_X12_init dX12_init_37
theorem rX12_init_39 : ab_Run X 152 39 (f, cl, sl) L (ab_R z :: ab_R a :: st) σ Q ↔ (ab_sh σ a).1 = 13 ∧ ab_Run X 152 42 (f, cl, sl) L st (ab_wr σ a 16 z) Q := ab_r_putF rfl ko_X12_init qF_12_24 (by decide) rfl rfl rfl rfl rfl rfl kc_X12_init dX12_init_39
theorem rX12_init_42 : ab_Run X 152 42 (f, cl, sl) [ab_R z] st σ Q ↔ z ≠ 0 ∧ ab_Run X 152 43 (f, cl, sl) [ab_R z] (ab_R z :: st) σ Q := ab_r_aload_n rfl kc_X12_init dX12_init_42
theorem rX12_init_43 : ab_Run X 152 43 (f, cl, sl) L st σ Q ↔ ab_Run X 152 45 (f, cl, sl) L (ab_I 6 :: st) σ Q := ab_r_bipush (by decide) kc_X12_init dX12_init_43
theorem rX12_init_45 : ab_Run X 152 45 (f, cl, sl) L (ab_I n :: st) σ Q ↔ (0 ≤ n ∧ n ≤ 60000 ∧ 1 ≤ cl ∧ n.toNat ≤ sl) ∧ ab_Run X 152 47 (f, cl - 1, sl - n.toNat) L (ab_R σ.1 :: st) (ab_new σ 21 n) Q := ab_r_newarray rfl rfl kc_X12_init dX12_init_45
theorem rX12_init_47 : ab_Run X 152 47 (f, cl, sl) L (ab_R z :: ab_R a :: st) σ Q ↔ (ab_sh σ a).1 = 13 ∧ ab_Run X 152 50 (f, cl, sl) L st (ab_wr σ a 17 z) Q := ab_r_putF rfl ko_X12_init qF_12_27 (by decide) rfl rfl rfl rfl rfl rfl kc_X12_init dX12_init_47
theorem rX12_init_50 : ab_Run X 152 50 (f, cl, sl) [ab_R z] st σ Q ↔ z ≠ 0 ∧ ab_Run X 152 51 (f, cl, sl) [ab_R z] (ab_R z :: st) σ Q := ab_r_aload_n rfl kc_X12_init dX12_init_50
theorem rX12_init_51 : ab_Run X 152 51 (f, cl, sl) L st σ Q ↔ ab_Run X 152 53 (f, cl, sl) L (ab_I 6 :: st) σ Q := ab_r_bipush (by decide) kc_X12_init dX12_init_51
theorem rX12_init_53 : ab_Run X 152 53 (f, cl, sl) L (ab_I n :: st) σ Q ↔ (0 ≤ n ∧ n ≤ 60000 ∧ 1 ≤ cl ∧ n.toNat ≤ sl) ∧ ab_Run X 152 55 (f, cl - 1, sl - n.toNat) L (ab_R σ.1 :: st) (ab_new σ 21 n) Q := ab_r_newarray rfl rfl kc_X12_init dX12_init_53
theorem rX12_init_55 : ab_Run X 152 55 (f, cl, sl) L (ab_R z :: ab_R a :: st) σ Q ↔ (ab_sh σ a).1 = 13 ∧ ab_Run X 152 58 (f, cl, sl) L st (ab_wr σ a 18 z) Q := ab_r_putF rfl ko_X12_init qF_12_30 (by decide) rfl rfl rfl rfl rfl rfl kc_X12_init dX12_init_55
theorem rX12_init_58 : ab_Run X 152 58 (f, cl, sl) [ab_R z] st σ Q ↔ z ≠ 0 ∧ ab_Run X 152 59 (f, cl, sl) [ab_R z] (ab_R z :: st) σ Q := ab_r_aload_n rfl kc_X12_init dX12_init_58
theorem rX12_init_59 : ab_Run X 152 59 (f, cl, sl) L st σ Q ↔ ab_Run X 152 61 (f, cl, sl) L (ab_I 6 :: st) σ Q := ab_r_bipush (by decide) kc_X12_init dX12_init_59
theorem rX12_init_61 : ab_Run X 152 61 (f, cl, sl) L (ab_I n :: st) σ Q ↔ (0 ≤ n ∧ n ≤ 60000 ∧ 1 ≤ cl ∧ n.toNat ≤ sl) ∧ ab_Run X 152 63 (f, cl - 1, sl - n.toNat) L (ab_R σ.1 :: st) (ab_new σ 21 n) Q := ab_r_newarray rfl rfl kc_X12_init dX12_init_61
theorem rX12_init_63 : ab_Run X 152 63 (f, cl, sl) L (ab_R z :: ab_R a :: st) σ Q ↔ (ab_sh σ a).1 = 13 ∧ ab_Run X 152 66 (f, cl, sl) L st (ab_wr σ a 19 z) Q := ab_r_putF rfl ko_X12_init qF_12_33 (by decide) rfl rfl rfl rfl rfl rfl kc_X12_init dX12_init_63
theorem rX12_init_66 : ab_Run X 152 66 (f, cl, sl) [ab_R z] st σ Q ↔ z ≠ 0 ∧ ab_Run X 152 67 (f, cl, sl) [ab_R z] (ab_R z :: st) σ Q := ab_r_aload_n rfl kc_X12_init dX12_init_66
theorem rX12_init_67 : ab_Run X 152 67 (f, cl, sl) L st σ Q ↔ ab_Run X 152 69 (f, cl, sl) L (ab_I 6 :: st) σ Q := ab_r_bipush (by decide) kc_X12_init dX12_init_67
theorem rX12_init_69 : ab_Run X 152 69 (f, cl, sl) L (ab_I n :: st) σ Q ↔ (0 ≤ n ∧ n ≤ 60000 ∧ 1 ≤ cl ∧ n.toNat ≤ sl) ∧ ab_Run X 152 71 (f, cl - 1, sl - n.toNat) L (ab_R σ.1 :: st) (ab_new σ 21 n) Q := ab_r_newarray rfl rfl kc_X12_init dX12_init_69
theorem rX12_init_71 : ab_Run X 152 71 (f, cl, sl) L (ab_R z :: ab_R a :: st) σ Q ↔ (ab_sh σ a).1 = 13 ∧ ab_Run X 152 74 (f, cl, sl) L st (ab_wr σ a 20 z) Q := ab_r_putF rfl ko_X12_init qF_12_36 (by decide) rfl rfl rfl rfl rfl rfl kc_X12_init dX12_init_71
theorem rX12_init_74 : ab_Run X 152 74 (f, cl, sl) [ab_R z] st σ Q ↔ z ≠ 0 ∧ ab_Run X 152 75 (f, cl, sl) [ab_R z] (ab_R z :: st) σ Q := ab_r_aload_n rfl kc_X12_init dX12_init_74
theorem rX12_init_75 : ab_Run X 152 75 (f, cl, sl) L st σ Q ↔ ab_Run X 152 77 (f, cl, sl) L (ab_I 6 :: st) σ Q := ab_r_bipush (by decide) kc_X12_init dX12_init_75
theorem rX12_init_77 : ab_Run X 152 77 (f, cl, sl) L (ab_I n :: st) σ Q ↔ (0 ≤ n ∧ n ≤ 60000 ∧ 1 ≤ cl ∧ n.toNat ≤ sl) ∧ ab_Run X 152 79 (f, cl - 1, sl - n.toNat) L (ab_R σ.1 :: st) (ab_new σ 21 n) Q := ab_r_newarray rfl rfl kc_X12_init dX12_init_77
theorem rX12_init_79 : ab_Run X 152 79 (f, cl, sl) L (ab_R z :: ab_R a :: st) σ Q ↔ (ab_sh σ a).1 = 13 ∧ ab_Run X 152 82 (f, cl, sl) L st (ab_wr σ a 21 z) Q := ab_r_putF rfl ko_X12_init qF_12_39 (by decide) rfl rfl rfl rfl rfl rfl kc_X12_init dX12_init_79
theorem rX12_init_82 : ab_Run X 152 82 (f, cl, sl) [ab_R z] st σ Q ↔ z ≠ 0 ∧ ab_Run X 152 83 (f, cl, sl) [ab_R z] (ab_R z :: st) σ Q := ab_r_aload_n rfl kc_X12_init dX12_init_82
theorem rX12_init_83 : ab_Run X 152 83 (f, cl, sl) L st σ Q ↔ ab_Run X 152 85 (f, cl, sl) L (ab_I 12 :: st) σ Q := ab_r_bipush (by decide) kc_X12_init dX12_init_83
theorem rX12_init_85 : ab_Run X 152 85 (f, cl, sl) L (ab_I n :: st) σ Q ↔ (0 ≤ n ∧ n ≤ 60000 ∧ 1 ≤ cl ∧ n.toNat ≤ sl) ∧ ab_Run X 152 87 (f, cl - 1, sl - n.toNat) L (ab_R σ.1 :: st) (ab_new σ 21 n) Q := ab_r_newarray rfl rfl kc_X12_init dX12_init_85
theorem rX12_init_87 : ab_Run X 152 87 (f, cl, sl) L (ab_R z :: ab_R a :: st) σ Q ↔ (ab_sh σ a).1 = 13 ∧ ab_Run X 152 90 (f, cl, sl) L st (ab_wr σ a 22 z) Q := ab_r_putF rfl ko_X12_init qF_12_42 (by decide) rfl rfl rfl rfl rfl rfl kc_X12_init dX12_init_87
theorem rX12_init_90 : ab_Run X 152 90 (f, cl, sl) [ab_R z] st σ Q ↔ z ≠ 0 ∧ ab_Run X 152 91 (f, cl, sl) [ab_R z] (ab_R z :: st) σ Q := ab_r_aload_n rfl kc_X12_init dX12_init_90
theorem rX12_init_91 : ab_Run X 152 91 (f, cl, sl) L st σ Q ↔ ab_Run X 152 93 (f, cl, sl) L (ab_I 12 :: st) σ Q := ab_r_bipush (by decide) kc_X12_init dX12_init_91
theorem rX12_init_93 : ab_Run X 152 93 (f, cl, sl) L (ab_I n :: st) σ Q ↔ (0 ≤ n ∧ n ≤ 60000 ∧ 1 ≤ cl ∧ n.toNat ≤ sl) ∧ ab_Run X 152 95 (f, cl - 1, sl - n.toNat) L (ab_R σ.1 :: st) (ab_new σ 21 n) Q := ab_r_newarray rfl rfl kc_X12_init dX12_init_93
theorem rX12_init_95 : ab_Run X 152 95 (f, cl, sl) L (ab_R z :: ab_R a :: st) σ Q ↔ (ab_sh σ a).1 = 13 ∧ ab_Run X 152 98 (f, cl, sl) L st (ab_wr σ a 23 z) Q := ab_r_putF rfl ko_X12_init qF_12_45 (by decide) rfl rfl rfl rfl rfl rfl kc_X12_init dX12_init_95
theorem rX12_init_98 : ab_Run X 152 98 (f, cl, sl) [ab_R z] st σ Q ↔ z ≠ 0 ∧ ab_Run X 152 99 (f, cl, sl) [ab_R z] (ab_R z :: st) σ Q := ab_r_aload_n rfl kc_X12_init dX12_init_98
theorem rX12_init_99 : ab_Run X 152 99 (f, cl, sl) L st σ Q ↔ ab_Run X 152 101 (f, cl, sl) L (ab_I 12 :: st) σ Q := ab_r_bipush (by decide) kc_X12_init dX12_init_99
theorem rX12_init_101 : ab_Run X 152 101 (f, cl, sl) L (ab_I n :: st) σ Q ↔ (0 ≤ n ∧ n ≤ 60000 ∧ 1 ≤ cl ∧ n.toNat ≤ sl) ∧ ab_Run X 152 103 (f, cl - 1, sl - n.toNat) L (ab_R σ.1 :: st) (ab_new σ 21 n) Q := ab_r_newarray rfl rfl kc_X12_init dX12_init_101
theorem rX12_init_103 : ab_Run X 152 103 (f, cl, sl) L (ab_R z :: ab_R a :: st) σ Q ↔ (ab_sh σ a).1 = 13 ∧ ab_Run X 152 106 (f, cl, sl) L st (ab_wr σ a 24 z) Q := ab_r_putF rfl ko_X12_init qF_12_48 (by decide) rfl rfl rfl rfl rfl rfl kc_X12_init dX12_init_103
theorem rX12_init_106 : ab_Run X 152 106 (f, cl, sl) [ab_R z] st σ Q ↔ z ≠ 0 ∧ ab_Run X 152 107 (f, cl, sl) [ab_R z] (ab_R z :: st) σ Q := ab_r_aload_n rfl kc_X12_init dX12_init_106
theorem rX12_init_107 : ab_Run X 152 107 (f, cl, sl) L st σ Q ↔ ab_Run X 152 108 (f, cl, sl) L (ab_I 4 :: st) σ Q := ab_r_iconst (by decide) kc_X12_init dX12_init_107
theorem rX12_init_108 : ab_Run X 152 108 (f, cl, sl) L (ab_I n :: st) σ Q ↔ (0 ≤ n ∧ n ≤ 60000 ∧ 1 ≤ cl ∧ n.toNat ≤ sl) ∧ ab_Run X 152 110 (f, cl - 1, sl - n.toNat) L (ab_R σ.1 :: st) (ab_new σ 21 n) Q := ab_r_newarray rfl rfl kc_X12_init dX12_init_108
theorem rX12_init_110 : ab_Run X 152 110 (f, cl, sl) L (ab_R z :: ab_R a :: st) σ Q ↔ (ab_sh σ a).1 = 13 ∧ ab_Run X 152 113 (f, cl, sl) L st (ab_wr σ a 25 z) Q := ab_r_putF rfl ko_X12_init qF_12_51 (by decide) rfl rfl rfl rfl rfl rfl kc_X12_init dX12_init_110
theorem rX12_init_113 : ab_Run X 152 113 (f, cl, sl) [ab_R z] st σ Q ↔ z ≠ 0 ∧ ab_Run X 152 114 (f, cl, sl) [ab_R z] (ab_R z :: st) σ Q := ab_r_aload_n rfl kc_X12_init dX12_init_113
theorem rX12_init_114 : ab_Run X 152 114 (f, cl, sl) L st σ Q ↔ ab_Run X 152 115 (f, cl, sl) L (ab_I 4 :: st) σ Q := ab_r_iconst (by decide) kc_X12_init dX12_init_114
theorem rX12_init_115 : ab_Run X 152 115 (f, cl, sl) L (ab_I n :: st) σ Q ↔ (0 ≤ n ∧ n ≤ 60000 ∧ 1 ≤ cl ∧ n.toNat ≤ sl) ∧ ab_Run X 152 117 (f, cl - 1, sl - n.toNat) L (ab_R σ.1 :: st) (ab_new σ 21 n) Q := ab_r_newarray rfl rfl kc_X12_init dX12_init_115
theorem rX12_init_117 : ab_Run X 152 117 (f, cl, sl) L (ab_R z :: ab_R a :: st) σ Q ↔ (ab_sh σ a).1 = 13 ∧ ab_Run X 152 120 (f, cl, sl) L st (ab_wr σ a 26 z) Q := ab_r_putF rfl ko_X12_init qF_12_54 (by decide) rfl rfl rfl rfl rfl rfl kc_X12_init dX12_init_117
theorem rX12_init_120 : ab_Run X 152 120 (f, cl, sl) [ab_R z] st σ Q ↔ z ≠ 0 ∧ ab_Run X 152 121 (f, cl, sl) [ab_R z] (ab_R z :: st) σ Q := ab_r_aload_n rfl kc_X12_init dX12_init_120
theorem rX12_init_121 : ab_Run X 152 121 (f, cl, sl) L st σ Q ↔ ab_Run X 152 123 (f, cl, sl) L (ab_I 6 :: st) σ Q := ab_r_bipush (by decide) kc_X12_init dX12_init_121
theorem rX12_init_123 : ab_Run X 152 123 (f, cl, sl) L (ab_I n :: st) σ Q ↔ (0 ≤ n ∧ n ≤ 60000 ∧ 1 ≤ cl ∧ n.toNat ≤ sl) ∧ ab_Run X 152 125 (f, cl - 1, sl - n.toNat) L (ab_R σ.1 :: st) (ab_new σ 21 n) Q := ab_r_newarray rfl rfl kc_X12_init dX12_init_123
theorem rX12_init_125 : ab_Run X 152 125 (f, cl, sl) L (ab_R z :: ab_R a :: st) σ Q ↔ (ab_sh σ a).1 = 13 ∧ ab_Run X 152 128 (f, cl, sl) L st (ab_wr σ a 27 z) Q := ab_r_putF rfl ko_X12_init qF_12_57 (by decide) rfl rfl rfl rfl rfl rfl kc_X12_init dX12_init_125
theorem rX12_init_128 : ab_Run X 152 128 (f, cl, sl) [ab_R z] st σ Q ↔ z ≠ 0 ∧ ab_Run X 152 129 (f, cl, sl) [ab_R z] (ab_R z :: st) σ Q := ab_r_aload_n rfl kc_X12_init dX12_init_128
theorem rX12_init_129 : ab_Run X 152 129 (f, cl, sl) L st σ Q ↔ ab_Run X 152 131 (f, cl, sl) L (ab_I 6 :: st) σ Q := ab_r_bipush (by decide) kc_X12_init dX12_init_129
theorem rX12_init_131 : ab_Run X 152 131 (f, cl, sl) L (ab_I n :: st) σ Q ↔ (0 ≤ n ∧ n ≤ 60000 ∧ 1 ≤ cl ∧ n.toNat ≤ sl) ∧ ab_Run X 152 133 (f, cl - 1, sl - n.toNat) L (ab_R σ.1 :: st) (ab_new σ 21 n) Q := ab_r_newarray rfl rfl kc_X12_init dX12_init_131
theorem rX12_init_133 : ab_Run X 152 133 (f, cl, sl) L (ab_R z :: ab_R a :: st) σ Q ↔ (ab_sh σ a).1 = 13 ∧ ab_Run X 152 136 (f, cl, sl) L st (ab_wr σ a 28 z) Q := ab_r_putF rfl ko_X12_init qF_12_60 (by decide) rfl rfl rfl rfl rfl rfl kc_X12_init dX12_init_133
theorem rX12_init_136 : ab_Run X 152 136 (f, cl, sl) [ab_R z] st σ Q ↔ z ≠ 0 ∧ ab_Run X 152 137 (f, cl, sl) [ab_R z] (ab_R z :: st) σ Q := ab_r_aload_n rfl kc_X12_init dX12_init_136
theorem rX12_init_137 : ab_Run X 152 137 (f, cl, sl) L st σ Q ↔ ab_Run X 152 139 (f, cl, sl) L (ab_I 6 :: st) σ Q := ab_r_bipush (by decide) kc_X12_init dX12_init_137
theorem rX12_init_139 : ab_Run X 152 139 (f, cl, sl) L (ab_I n :: st) σ Q ↔ (0 ≤ n ∧ n ≤ 60000 ∧ 1 ≤ cl ∧ n.toNat ≤ sl) ∧ ab_Run X 152 141 (f, cl - 1, sl - n.toNat) L (ab_R σ.1 :: st) (ab_new σ 21 n) Q := ab_r_newarray rfl rfl kc_X12_init dX12_init_139
theorem rX12_init_141 : ab_Run X 152 141 (f, cl, sl) L (ab_R z :: ab_R a :: st) σ Q ↔ (ab_sh σ a).1 = 13 ∧ ab_Run X 152 144 (f, cl, sl) L st (ab_wr σ a 29 z) Q := ab_r_putF rfl ko_X12_init qF_12_63 (by decide) rfl rfl rfl rfl rfl rfl kc_X12_init dX12_init_141
theorem rX12_init_144 : ab_Run X 152 144 (f, cl, sl) [ab_R z] st σ Q ↔ z ≠ 0 ∧ ab_Run X 152 145 (f, cl, sl) [ab_R z] (ab_R z :: st) σ Q := ab_r_aload_n rfl kc_X12_init dX12_init_144
theorem rX12_init_145 : ab_Run X 152 145 (f, cl, sl) L st σ Q ↔ ab_Run X 152 147 (f, cl, sl) L (ab_I 11 :: st) σ Q := ab_r_bipush (by decide) kc_X12_init dX12_init_145
theorem rX12_init_147 : ab_Run X 152 147 (f, cl, sl) L (ab_I n :: st) σ Q ↔ (0 ≤ n ∧ n ≤ 60000 ∧ 1 ≤ cl ∧ n.toNat ≤ sl) ∧ ab_Run X 152 149 (f, cl - 1, sl - n.toNat) L (ab_R σ.1 :: st) (ab_new σ 22 n) Q := ab_r_newarray rfl rfl kc_X12_init dX12_init_147
theorem rX12_init_149 : ab_Run X 152 149 (f, cl, sl) L (ab_R z :: ab_R a :: st) σ Q ↔ (ab_sh σ a).1 = 13 ∧ ab_Run X 152 152 (f, cl, sl) L st (ab_wr σ a 30 z) Q := ab_r_putF rfl ko_X12_init qF_12_66 (by decide) rfl rfl rfl rfl rfl rfl kc_X12_init dX12_init_149
theorem rX12_init_152 : ab_Run X 152 152 (f, cl, sl) [ab_R z] st σ Q ↔ z ≠ 0 ∧ ab_Run X 152 153 (f, cl, sl) [ab_R z] (ab_R z :: st) σ Q := ab_r_aload_n rfl kc_X12_init dX12_init_152
theorem rX12_init_153 : ab_Run X 152 153 (f, cl, sl) L st σ Q ↔ ab_Run X 152 155 (f, cl, sl) L (ab_I 11 :: st) σ Q := ab_r_bipush (by decide) kc_X12_init dX12_init_153
theorem rX12_init_155 : ab_Run X 152 155 (f, cl, sl) L (ab_I n :: st) σ Q ↔ (0 ≤ n ∧ n ≤ 60000 ∧ 1 ≤ cl ∧ n.toNat ≤ sl) ∧ ab_Run X 152 157 (f, cl - 1, sl - n.toNat) L (ab_R σ.1 :: st) (ab_new σ 24 n) Q := ab_r_newarray rfl rfl kc_X12_init dX12_init_155
theorem rX12_init_157 : ab_Run X 152 157 (f, cl, sl) L (ab_R z :: ab_R a :: st) σ Q ↔ (ab_sh σ a).1 = 13 ∧ ab_Run X 152 160 (f, cl, sl) L st (ab_wr σ a 31 z) Q := ab_r_putF rfl ko_X12_init qF_12_70 (by decide) rfl rfl rfl rfl rfl rfl kc_X12_init dX12_init_157
theorem rX12_init_160 : ab_Run X 152 160 (f, cl, sl) [ab_R z] st σ Q ↔ z ≠ 0 ∧ ab_Run X 152 161 (f, cl, sl) [ab_R z] (ab_R z :: st) σ Q := ab_r_aload_n rfl kc_X12_init dX12_init_160
theorem rX12_init_161 : ab_Run X 152 161 (f, cl, sl) L st σ Q ↔ ab_Run X 152 163 (f, cl, sl) L (ab_I 11 :: st) σ Q := ab_r_bipush (by decide) kc_X12_init dX12_init_161
theorem rX12_init_163 : ab_Run X 152 163 (f, cl, sl) L (ab_I n :: st) σ Q ↔ (0 ≤ n ∧ n ≤ 60000 ∧ 1 ≤ cl ∧ n.toNat ≤ sl) ∧ ab_Run X 152 165 (f, cl - 1, sl - n.toNat) L (ab_R σ.1 :: st) (ab_new σ 21 n) Q := ab_r_newarray rfl rfl kc_X12_init dX12_init_163
theorem rX12_init_165 : ab_Run X 152 165 (f, cl, sl) L (ab_R z :: ab_R a :: st) σ Q ↔ (ab_sh σ a).1 = 13 ∧ ab_Run X 152 168 (f, cl, sl) L st (ab_wr σ a 32 z) Q := ab_r_putF rfl ko_X12_init qF_12_74 (by decide) rfl rfl rfl rfl rfl rfl kc_X12_init dX12_init_165
theorem rX12_init_168 : ab_Run X 152 168 (f, cl, sl) L [] σ Q ↔ Q none σ := ab_r_return rfl kc_X12_init dX12_init_168
theorem kc_X13_init : ab_code 157 = cX13_init := rfl
theorem ko_X13_init : ab_ow 157 = 13 := rfl
theorem rX13_init_0 : ab_Run X 157 0 (f, cl, sl) [ab_R z] st σ Q ↔ z ≠ 0 ∧ ab_Run X 157 1 (f, cl, sl) [ab_R z] (ab_R z :: st) σ Q := ab_r_aload_n rfl kc_X13_init dX13_init_0
theorem rX13_init_1 : ab_Run X 157 1 (f, cl, sl) L (ab_R a :: st) σ Q ↔ (0 < a ∧ 1 ≤ f ∧ ab_cats st ≤ 8) ∧ ab_Run X 157 4 (f, cl, sl) L st σ Q := ab_r_obj (by decide) ko_X13_init qM_13_3 kc_X13_init dX13_init_1
theorem rX13_init_4 : ab_Run X 157 4 (f, cl, sl) [ab_R z] st σ Q ↔ z ≠ 0 ∧ ab_Run X 157 5 (f, cl, sl) [ab_R z] (ab_R z :: st) σ Q := ab_r_aload_n rfl kc_X13_init dX13_init_4
theorem rX13_init_5 : ab_Run X 157 5 (f, cl, sl) L st σ Q ↔ ab_Run X 157 6 (f, cl, sl) L (ab_I (-1) :: st) σ Q := ab_r_iconst (by decide) kc_X13_init dX13_init_5
theorem rX13_init_6 : ab_Run X 157 6 (f, cl, sl) L (ab_I z :: ab_R a :: st) σ Q ↔ (ab_sh σ a).1 = 14 ∧ ab_Run X 157 9 (f, cl, sl) L st (ab_wr σ a 2 z) Q := sF_13_9 ko_X13_init kc_X13_init dX13_init_6
theorem rX13_init_9 : ab_Run X 157 9 (f, cl, sl) [ab_R z] st σ Q ↔ z ≠ 0 ∧ ab_Run X 157 10 (f, cl, sl) [ab_R z] (ab_R z :: st) σ Q := ab_r_aload_n rfl kc_X13_init dX13_init_9
theorem rX13_init_10 : ab_Run X 157 10 (f, cl, sl) L st σ Q ↔ ab_Run X 157 13 (f, cl, sl) L (ab_I 1000 :: st) σ Q := ab_r_sipush (by decide) kc_X13_init dX13_init_10
theorem rX13_init_13 : ab_Run X 157 13 (f, cl, sl) L (ab_I n :: st) σ Q ↔ (0 ≤ n ∧ n ≤ 60000 ∧ 1 ≤ cl ∧ n.toNat ≤ sl) ∧ ab_Run X 157 15 (f, cl - 1, sl - n.toNat) L (ab_R σ.1 :: st) (ab_new σ 23 n) Q := ab_r_newarray rfl rfl kc_X13_init dX13_init_13
theorem rX13_init_15 : ab_Run X 157 15 (f, cl, sl) L (ab_R z :: ab_R a :: st) σ Q ↔ (ab_sh σ a).1 = 14 ∧ ab_Run X 157 18 (f, cl, sl) L st (ab_wr σ a 5 z) Q := ab_r_putF rfl ko_X13_init qF_13_13 (by decide) rfl rfl rfl rfl rfl rfl kc_X13_init dX13_init_15
theorem rX13_init_18 : ab_Run X 157 18 (f, cl, sl) [ab_R z] st σ Q ↔ z ≠ 0 ∧ ab_Run X 157 19 (f, cl, sl) [ab_R z] (ab_R z :: st) σ Q := ab_r_aload_n rfl kc_X13_init dX13_init_18
theorem rX13_init_19 : ab_Run X 157 19 (f, cl, sl) L st σ Q ↔ ab_Run X 157 21 (f, cl, sl) L (ab_I 18 :: st) σ Q := ab_r_bipush (by decide) kc_X13_init dX13_init_19
theorem rX13_init_21 : ab_Run X 157 21 (f, cl, sl) L (ab_I n :: st) σ Q ↔ (0 ≤ n ∧ n ≤ 60000 ∧ 1 ≤ cl ∧ n.toNat ≤ sl) ∧ ab_Run X 157 23 (f, cl - 1, sl - n.toNat) L (ab_R σ.1 :: st) (ab_new σ 21 n) Q := ab_r_newarray rfl rfl kc_X13_init dX13_init_21
theorem rX13_init_23 : ab_Run X 157 23 (f, cl, sl) L (ab_R z :: ab_R a :: st) σ Q ↔ (ab_sh σ a).1 = 14 ∧ ab_Run X 157 26 (f, cl, sl) L st (ab_wr σ a 16 z) Q := ab_r_putF rfl ko_X13_init qF_13_17 (by decide) rfl rfl rfl rfl rfl rfl kc_X13_init dX13_init_23
theorem rX13_init_26 : ab_Run X 157 26 (f, cl, sl) [ab_R z] st σ Q ↔ z ≠ 0 ∧ ab_Run X 157 27 (f, cl, sl) [ab_R z] (ab_R z :: st) σ Q := ab_r_aload_n rfl kc_X13_init dX13_init_26
theorem rX13_init_27 : ab_Run X 157 27 (f, cl, sl) L st σ Q ↔ ab_Run X 157 30 (f, cl, sl) L (ab_I 288 :: st) σ Q := ab_r_sipush (by decide) kc_X13_init dX13_init_27
theorem rX13_init_30 : ab_Run X 157 30 (f, cl, sl) L (ab_I n :: st) σ Q ↔ (0 ≤ n ∧ n ≤ 60000 ∧ 1 ≤ cl ∧ n.toNat ≤ sl) ∧ ab_Run X 157 32 (f, cl - 1, sl - n.toNat) L (ab_R σ.1 :: st) (ab_new σ 21 n) Q := ab_r_newarray rfl rfl kc_X13_init dX13_init_30
theorem rX13_init_32 : ab_Run X 157 32 (f, cl, sl) L (ab_R z :: ab_R a :: st) σ Q ↔ (ab_sh σ a).1 = 14 ∧ ab_Run X 157 35 (f, cl, sl) L st (ab_wr σ a 17 z) Q := ab_r_putF rfl ko_X13_init qF_13_21 (by decide) rfl rfl rfl rfl rfl rfl kc_X13_init dX13_init_32
theorem rX13_init_35 : ab_Run X 157 35 (f, cl, sl) [ab_R z] st σ Q ↔ z ≠ 0 ∧ ab_Run X 157 36 (f, cl, sl) [ab_R z] (ab_R z :: st) σ Q := ab_r_aload_n rfl kc_X13_init dX13_init_35
theorem rX13_init_36 : ab_Run X 157 36 (f, cl, sl) L st σ Q ↔ ab_Run X 157 38 (f, cl, sl) L (ab_I 54 :: st) σ Q := ab_r_bipush (by decide) kc_X13_init dX13_init_36
theorem rX13_init_38 : ab_Run X 157 38 (f, cl, sl) L (ab_I n :: st) σ Q ↔ (0 ≤ n ∧ n ≤ 60000 ∧ 1 ≤ cl ∧ n.toNat ≤ sl) ∧ ab_Run X 157 40 (f, cl - 1, sl - n.toNat) L (ab_R σ.1 :: st) (ab_new σ 21 n) Q := ab_r_newarray rfl rfl kc_X13_init dX13_init_38
theorem rX13_init_40 : ab_Run X 157 40 (f, cl, sl) L (ab_R z :: ab_R a :: st) σ Q ↔ (ab_sh σ a).1 = 14 ∧ ab_Run X 157 43 (f, cl, sl) L st (ab_wr σ a 18 z) Q := ab_r_putF rfl ko_X13_init qF_13_24 (by decide) rfl rfl rfl rfl rfl rfl kc_X13_init dX13_init_40
theorem rX13_init_43 : ab_Run X 157 43 (f, cl, sl) [ab_R z] st σ Q ↔ z ≠ 0 ∧ ab_Run X 157 44 (f, cl, sl) [ab_R z] (ab_R z :: st) σ Q := ab_r_aload_n rfl kc_X13_init dX13_init_43
theorem rX13_init_44 : ab_Run X 157 44 (f, cl, sl) L st σ Q ↔ ab_Run X 157 45 (f, cl, sl) L (ab_I 2 :: st) σ Q := ab_r_iconst (by decide) kc_X13_init dX13_init_44
theorem rX13_init_45 : ab_Run X 157 45 (f, cl, sl) L (ab_I n :: st) σ Q ↔ (0 ≤ n ∧ n ≤ 60000 ∧ 1 ≤ cl ∧ n.toNat ≤ sl) ∧ ab_Run X 157 47 (f, cl - 1, sl - n.toNat) L (ab_R σ.1 :: st) (ab_new σ 21 n) Q := ab_r_newarray rfl rfl kc_X13_init dX13_init_45
theorem rX13_init_47 : ab_Run X 157 47 (f, cl, sl) L (ab_R z :: ab_R a :: st) σ Q ↔ (ab_sh σ a).1 = 14 ∧ ab_Run X 157 50 (f, cl, sl) L st (ab_wr σ a 27 z) Q := ab_r_putF rfl ko_X13_init qF_13_27 (by decide) rfl rfl rfl rfl rfl rfl kc_X13_init dX13_init_47
theorem rX13_init_50 : ab_Run X 157 50 (f, cl, sl) [ab_R z] st σ Q ↔ z ≠ 0 ∧ ab_Run X 157 51 (f, cl, sl) [ab_R z] (ab_R z :: st) σ Q := ab_r_aload_n rfl kc_X13_init dX13_init_50
theorem rX13_init_51 : ab_Run X 157 51 (f, cl, sl) L st σ Q ↔ ab_Run X 157 52 (f, cl, sl) L (ab_I 2 :: st) σ Q := ab_r_iconst (by decide) kc_X13_init dX13_init_51
theorem rX13_init_52 : ab_Run X 157 52 (f, cl, sl) L (ab_I n :: st) σ Q ↔ (0 ≤ n ∧ n ≤ 60000 ∧ 1 ≤ cl ∧ n.toNat ≤ sl) ∧ ab_Run X 157 54 (f, cl - 1, sl - n.toNat) L (ab_R σ.1 :: st) (ab_new σ 21 n) Q := ab_r_newarray rfl rfl kc_X13_init dX13_init_52
theorem rX13_init_54 : ab_Run X 157 54 (f, cl, sl) L (ab_R z :: ab_R a :: st) σ Q ↔ (ab_sh σ a).1 = 14 ∧ ab_Run X 157 57 (f, cl, sl) L st (ab_wr σ a 28 z) Q := ab_r_putF rfl ko_X13_init qF_13_30 (by decide) rfl rfl rfl rfl rfl rfl kc_X13_init dX13_init_54
theorem rX13_init_57 : ab_Run X 157 57 (f, cl, sl) [ab_R z] st σ Q ↔ z ≠ 0 ∧ ab_Run X 157 58 (f, cl, sl) [ab_R z] (ab_R z :: st) σ Q := ab_r_aload_n rfl kc_X13_init dX13_init_57
theorem rX13_init_58 : ab_Run X 157 58 (f, cl, sl) L st σ Q ↔ ab_Run X 157 59 (f, cl, sl) L (ab_I 2 :: st) σ Q := ab_r_iconst (by decide) kc_X13_init dX13_init_58
theorem rX13_init_59 : ab_Run X 157 59 (f, cl, sl) L (ab_I n :: st) σ Q ↔ (0 ≤ n ∧ n ≤ 60000 ∧ 1 ≤ cl ∧ n.toNat ≤ sl) ∧ ab_Run X 157 61 (f, cl - 1, sl - n.toNat) L (ab_R σ.1 :: st) (ab_new σ 24 n) Q := ab_r_newarray rfl rfl kc_X13_init dX13_init_59
theorem rX13_init_61 : ab_Run X 157 61 (f, cl, sl) L (ab_R z :: ab_R a :: st) σ Q ↔ (ab_sh σ a).1 = 14 ∧ ab_Run X 157 64 (f, cl, sl) L st (ab_wr σ a 29 z) Q := ab_r_putF rfl ko_X13_init qF_13_33 (by decide) rfl rfl rfl rfl rfl rfl kc_X13_init dX13_init_61
theorem rX13_init_64 : ab_Run X 157 64 (f, cl, sl) [ab_R z] st σ Q ↔ z ≠ 0 ∧ ab_Run X 157 65 (f, cl, sl) [ab_R z] (ab_R z :: st) σ Q := ab_r_aload_n rfl kc_X13_init dX13_init_64
theorem rX13_init_65 : ab_Run X 157 65 (f, cl, sl) L st σ Q ↔ ab_Run X 157 68 (f, cl, sl) L (ab_I 144 :: st) σ Q := ab_r_sipush (by decide) kc_X13_init dX13_init_65
theorem rX13_init_68 : ab_Run X 157 68 (f, cl, sl) L (ab_I n :: st) σ Q ↔ (0 ≤ n ∧ n ≤ 60000 ∧ 1 ≤ cl ∧ n.toNat ≤ sl) ∧ ab_Run X 157 70 (f, cl - 1, sl - n.toNat) L (ab_R σ.1 :: st) (ab_new σ 22 n) Q := ab_r_newarray rfl rfl kc_X13_init dX13_init_68
theorem rX13_init_70 : ab_Run X 157 70 (f, cl, sl) L (ab_R z :: ab_R a :: st) σ Q ↔ (ab_sh σ a).1 = 14 ∧ ab_Run X 157 73 (f, cl, sl) L st (ab_wr σ a 30 z) Q := ab_r_putF rfl ko_X13_init qF_13_37 (by decide) rfl rfl rfl rfl rfl rfl kc_X13_init dX13_init_70
theorem rX13_init_73 : ab_Run X 157 73 (f, cl, sl) [ab_R z] st σ Q ↔ z ≠ 0 ∧ ab_Run X 157 74 (f, cl, sl) [ab_R z] (ab_R z :: st) σ Q := ab_r_aload_n rfl kc_X13_init dX13_init_73
theorem rX13_init_74 : ab_Run X 157 74 (f, cl, sl) L st σ Q ↔ ab_Run X 157 77 (f, cl, sl) L (ab_I 144 :: st) σ Q := ab_r_sipush (by decide) kc_X13_init dX13_init_74
theorem rX13_init_77 : ab_Run X 157 77 (f, cl, sl) L (ab_I n :: st) σ Q ↔ (0 ≤ n ∧ n ≤ 60000 ∧ 1 ≤ cl ∧ n.toNat ≤ sl) ∧ ab_Run X 157 79 (f, cl - 1, sl - n.toNat) L (ab_R σ.1 :: st) (ab_new σ 22 n) Q := ab_r_newarray rfl rfl kc_X13_init dX13_init_77
theorem rX13_init_79 : ab_Run X 157 79 (f, cl, sl) L (ab_R z :: ab_R a :: st) σ Q ↔ (ab_sh σ a).1 = 14 ∧ ab_Run X 157 82 (f, cl, sl) L st (ab_wr σ a 31 z) Q := ab_r_putF rfl ko_X13_init qF_13_41 (by decide) rfl rfl rfl rfl rfl rfl kc_X13_init dX13_init_79
theorem rX13_init_82 : ab_Run X 157 82 (f, cl, sl) [ab_R z] st σ Q ↔ z ≠ 0 ∧ ab_Run X 157 83 (f, cl, sl) [ab_R z] (ab_R z :: st) σ Q := ab_r_aload_n rfl kc_X13_init dX13_init_82
theorem rX13_init_83 : ab_Run X 157 83 (f, cl, sl) L st σ Q ↔ ab_Run X 157 85 (f, cl, sl) L (ab_I 9 :: st) σ Q := ab_r_bipush (by decide) kc_X13_init dX13_init_83
theorem rX13_init_85 : ab_Run X 157 85 (f, cl, sl) L (ab_I n :: st) σ Q ↔ (0 ≤ n ∧ n ≤ 60000 ∧ 1 ≤ cl ∧ n.toNat ≤ sl) ∧ ab_Run X 157 87 (f, cl - 1, sl - n.toNat) L (ab_R σ.1 :: st) (ab_new σ 21 n) Q := ab_r_newarray rfl rfl kc_X13_init dX13_init_85
theorem rX13_init_87 : ab_Run X 157 87 (f, cl, sl) L (ab_R z :: ab_R a :: st) σ Q ↔ (ab_sh σ a).1 = 14 ∧ ab_Run X 157 90 (f, cl, sl) L st (ab_wr σ a 32 z) Q := ab_r_putF rfl ko_X13_init qF_13_44 (by decide) rfl rfl rfl rfl rfl rfl kc_X13_init dX13_init_87
theorem rX13_init_90 : ab_Run X 157 90 (f, cl, sl) [ab_R z] st σ Q ↔ z ≠ 0 ∧ ab_Run X 157 91 (f, cl, sl) [ab_R z] (ab_R z :: st) σ Q := ab_r_aload_n rfl kc_X13_init dX13_init_90
theorem rX13_init_91 : ab_Run X 157 91 (f, cl, sl) L st σ Q ↔ ab_Run X 157 93 (f, cl, sl) L (ab_I 6 :: st) σ Q := ab_r_bipush (by decide) kc_X13_init dX13_init_91
theorem rX13_init_93 : ab_Run X 157 93 (f, cl, sl) L (ab_I n :: st) σ Q ↔ (0 ≤ n ∧ n ≤ 60000 ∧ 1 ≤ cl ∧ n.toNat ≤ sl) ∧ ab_Run X 157 95 (f, cl - 1, sl - n.toNat) L (ab_R σ.1 :: st) (ab_new σ 21 n) Q := ab_r_newarray rfl rfl kc_X13_init dX13_init_93
theorem rX13_init_95 : ab_Run X 157 95 (f, cl, sl) L (ab_R z :: ab_R a :: st) σ Q ↔ (ab_sh σ a).1 = 14 ∧ ab_Run X 157 98 (f, cl, sl) L st (ab_wr σ a 33 z) Q := ab_r_putF rfl ko_X13_init qF_13_47 (by decide) rfl rfl rfl rfl rfl rfl kc_X13_init dX13_init_95
theorem rX13_init_98 : ab_Run X 157 98 (f, cl, sl) [ab_R z] st σ Q ↔ z ≠ 0 ∧ ab_Run X 157 99 (f, cl, sl) [ab_R z] (ab_R z :: st) σ Q := ab_r_aload_n rfl kc_X13_init dX13_init_98
theorem rX13_init_99 : ab_Run X 157 99 (f, cl, sl) L st σ Q ↔ ab_Run X 157 101 (f, cl, sl) L (ab_I 6 :: st) σ Q := ab_r_bipush (by decide) kc_X13_init dX13_init_99
theorem rX13_init_101 : ab_Run X 157 101 (f, cl, sl) L (ab_I n :: st) σ Q ↔ (0 ≤ n ∧ n ≤ 60000 ∧ 1 ≤ cl ∧ n.toNat ≤ sl) ∧ ab_Run X 157 103 (f, cl - 1, sl - n.toNat) L (ab_R σ.1 :: st) (ab_new σ 21 n) Q := ab_r_newarray rfl rfl kc_X13_init dX13_init_101
theorem rX13_init_103 : ab_Run X 157 103 (f, cl, sl) L (ab_R z :: ab_R a :: st) σ Q ↔ (ab_sh σ a).1 = 14 ∧ ab_Run X 157 106 (f, cl, sl) L st (ab_wr σ a 36 z) Q := ab_r_putF rfl ko_X13_init qF_13_50 (by decide) rfl rfl rfl rfl rfl rfl kc_X13_init dX13_init_103
theorem rX13_init_106 : ab_Run X 157 106 (f, cl, sl) L [] σ Q ↔ Q none σ := ab_r_return rfl kc_X13_init dX13_init_106
theorem rX13_kitchen_44 : ab_Run X 198 44 (f, cl, sl) L st σ Q ↔ (1 ≤ cl ∧ 33 ≤ sl) ∧ ab_Run X 198 47 (f, cl - 1, sl - 33) L (ab_R σ.1 :: st) (ab_new σ 13 0) Q := ab_r_new rfl ko_X13_kitchen (by decide +kernel) (by decide) rfl rfl kc_X13_kitchen dX13_kitchen_44
theorem dn_X0_init : ab_Do X 0 [ab_R z] σ Q ↔ ab_Run X 0 0 (1, 5, 33) [ab_R z] [] σ Q := Iff.rfl
theorem dn_X1_init : ab_Do X 5 [ab_R z] σ Q ↔ ab_Run X 5 0 (1, 2, 14) [ab_R z] [] σ Q := Iff.rfl
theorem dn_X2_init : ab_Do X 11 [ab_R z] σ Q ↔ ab_Run X 11 0 (2, 176, 1320) [ab_R z, ab_R 0] [] σ Q := Iff.rfl
theorem dn_X3_init : ab_Do X 19 [ab_R z] σ Q ↔ ab_Run X 19 0 (2, 97, 513) [ab_R z, ab_R 0] [] σ Q := Iff.rfl
theorem dn_X4_init : ab_Do X 26 [ab_R z] σ Q ↔ ab_Run X 26 0 (2, 25, 186) [ab_R z, ab_R 0] [] σ Q := Iff.rfl
theorem dn_X5_init : ab_Do X 30 [ab_R z] σ Q ↔ ab_Run X 30 0 (1, 0, 0) [ab_R z] [] σ Q := Iff.rfl
theorem dn_X6_init : ab_Do X 32 [ab_R z] σ Q ↔ ab_Run X 32 0 (2, 13, 82) [ab_R z] [] σ Q := Iff.rfl
theorem dn_X7_init : ab_Do X 41 [ab_R z] σ Q ↔ ab_Run X 41 0 (3, 28, 1209) [ab_R z] [] σ Q := Iff.rfl
theorem dn_X8_init : ab_Do X 61 [ab_R z] σ Q ↔ ab_Run X 61 0 (1, 4, 21) [ab_R z] [] σ Q := Iff.rfl
theorem dn_X9_init : ab_Do X 66 [ab_R z] σ Q ↔ ab_Run X 66 0 (1, 1, 1000) [ab_R z] [] σ Q := Iff.rfl
theorem dn_X10_init : ab_Do X 74 [ab_R z] σ Q ↔ ab_Run X 74 0 (1, 2, 15) [ab_R z] [] σ Q := Iff.rfl
theorem dn_X11_init : ab_Do X 79 [ab_R z] σ Q ↔ ab_Run X 79 0 (4, 353, 3409) [ab_R z] [] σ Q := Iff.rfl
theorem dn_X12_init : ab_Do X 152 [ab_R z] σ Q ↔ ab_Run X 152 0 (1, 21, 211) [ab_R z] [] σ Q := Iff.rfl
theorem dn_X13_init : ab_Do X 157 [ab_R z] σ Q ↔ ab_Run X 157 0 (1, 12, 1675) [ab_R z] [] σ Q := Iff.rfl
end
