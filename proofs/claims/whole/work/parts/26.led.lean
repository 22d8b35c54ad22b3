/-! LongerHalf.led in the little machine (rows written by gen/gled.py) -/
theorem dX11_led_0 : decode cX11_led 0 = .ok (.iconst 0, 1) := by decide +kernel
theorem dX11_led_1 : decode cX11_led 1 = .ok (.istore_n 2, 1) := by decide +kernel
theorem dX11_led_2 : decode cX11_led 2 = .ok (.iconst 0, 1) := by decide +kernel
theorem dX11_led_3 : decode cX11_led 3 = .ok (.istore_n 3, 1) := by decide +kernel
theorem dX11_led_4 : decode cX11_led 4 = .ok (.iload_n 3, 1) := by decide +kernel
theorem dX11_led_5 : decode cX11_led 5 = .ok (.aload_n 0, 1) := by decide +kernel
theorem dX11_led_6 : decode cX11_led 6 = .ok (.getfield 58, 3) := by decide +kernel
theorem dX11_led_9 : decode cX11_led 9 = .ok (.getfield 100, 3) := by decide +kernel
theorem dX11_led_12 : decode cX11_led 12 = .ok (.if_icmp .ge 31, 3) := by decide +kernel
theorem dX11_led_15 : decode cX11_led 15 = .ok (.aload_n 0, 1) := by decide +kernel
theorem dX11_led_16 : decode cX11_led 16 = .ok (.getfield 19, 3) := by decide +kernel
theorem dX11_led_19 : decode cX11_led 19 = .ok (.getfield 127, 3) := by decide +kernel
theorem dX11_led_22 : decode cX11_led 22 = .ok (.iload_n 3, 1) := by decide +kernel
theorem dX11_led_23 : decode cX11_led 23 = .ok (.baload, 1) := by decide +kernel
theorem dX11_led_24 : decode cX11_led 24 = .ok (.ifCond .ne 13, 3) := by decide +kernel
theorem dX11_led_27 : decode cX11_led 27 = .ok (.iload_n 2, 1) := by decide +kernel
theorem dX11_led_28 : decode cX11_led 28 = .ok (.iload_n 1, 1) := by decide +kernel
theorem dX11_led_29 : decode cX11_led 29 = .ok (.if_icmp .ne 5, 3) := by decide +kernel
theorem dX11_led_32 : decode cX11_led 32 = .ok (.iload_n 3, 1) := by decide +kernel
theorem dX11_led_33 : decode cX11_led 33 = .ok (.ireturn, 1) := by decide +kernel
theorem dX11_led_34 : decode cX11_led 34 = .ok (.iinc 2 1, 3) := by decide +kernel
theorem dX11_led_37 : decode cX11_led 37 = .ok (.iinc 3 1, 3) := by decide +kernel
theorem dX11_led_40 : decode cX11_led 40 = .ok (.goto (-36), 3) := by decide +kernel
theorem dX11_led_43 : decode cX11_led 43 = .ok (.new 376, 3) := by decide +kernel
theorem dX11_led_46 : decode cX11_led 46 = .ok (.dup, 1) := by decide +kernel
theorem dX11_led_47 : decode cX11_led 47 = .ok (.ldc_w 378, 3) := by decide +kernel
theorem dX11_led_50 : decode cX11_led 50 = .ok (.invokespecial 380, 3) := by decide +kernel
theorem dX11_led_53 : decode cX11_led 53 = .ok (.athrow, 1) := by decide +kernel
theorem dL_led_0 : decode cL_led 0 = .ok (.aload_n 2, 1) := by decide +kernel
theorem dL_led_1 : decode cL_led 1 = .ok (.iconst 0, 1) := by decide +kernel
theorem dL_led_2 : decode cL_led 2 = .ok (.aload_n 0, 1) := by decide +kernel
theorem dL_led_3 : decode cL_led 3 = .ok (.iload_n 1, 1) := by decide +kernel
theorem dL_led_4 : decode cL_led 4 = .ok (.invokevirtual 7, 3) := by decide +kernel
theorem dL_led_7 : decode cL_led 7 = .ok (.i2l, 1) := by decide +kernel
theorem dL_led_8 : decode cL_led 8 = .ok (.lastore, 1) := by decide +kernel
theorem dL_led_9 : decode cL_led 9 = .ok (.goto 6, 3) := by decide +kernel
theorem dL_led_12 : decode cL_led 12 = .ok (.astore_n 3, 1) := by decide +kernel
theorem dL_led_13 : decode cL_led 13 = .ok (.iconst 1, 1) := by decide +kernel
theorem dL_led_14 : decode cL_led 14 = .ok (.ireturn, 1) := by decide +kernel
theorem dL_led_15 : decode cL_led 15 = .ok (.iconst 0, 1) := by decide +kernel
theorem dL_led_16 : decode cL_led 16 = .ok (.ireturn, 1) := by decide +kernel
section
variable {X : ab_X} {d : Nat} {σ : ab_S} {Q : Option ab_V → ab_S → Prop} {L st : List ab_V} {a b z v i j x1 x2 x3 x4 x5 x6 x7 x8 : Int} {l0 l1 l2 l3 l4 l5 l6 l7 l8 l9 l10 l11 l12 l13 l14 l15 l16 l17 l18 l19 l20 : ab_V}
theorem kc_X11_led : ab_code 121 = cX11_led := rfl
theorem ko_X11_led : ab_ow 121 = 11 := rfl
theorem rX11_led_0 : ab_Run X 121 0 (20, 1, 6) L st σ Q ↔ ab_Run X 121 1 (20, 1, 6) L (ab_I 0 :: st) σ Q := ab_r_iconst (by decide) kc_X11_led dX11_led_0
theorem rX11_led_1 : ab_Run X 121 1 (20, 1, 6) [l0, l1, l2, l3] (ab_I z :: st) σ Q ↔ (!ab_isJ l1) = true ∧ ab_Run X 121 2 (20, 1, 6) [l0, l1, ab_I z, l3] st σ Q := ab_r_istore_n (Nat.le_of_ble_eq_true rfl) kc_X11_led dX11_led_1
theorem rX11_led_2 : ab_Run X 121 2 (20, 1, 6) L st σ Q ↔ ab_Run X 121 3 (20, 1, 6) L (ab_I 0 :: st) σ Q := ab_r_iconst (by decide) kc_X11_led dX11_led_2
theorem rX11_led_3 : ab_Run X 121 3 (20, 1, 6) [l0, l1, l2, l3] (ab_I z :: st) σ Q ↔ (!ab_isJ l2) = true ∧ ab_Run X 121 4 (20, 1, 6) [l0, l1, l2, ab_I z] st σ Q := ab_r_istore_n (Nat.le_of_ble_eq_true rfl) kc_X11_led dX11_led_3
theorem rX11_led_4 : ab_Run X 121 4 (20, 1, 6) [l0, l1, l2, ab_I z] st σ Q ↔ ab_Run X 121 5 (20, 1, 6) [l0, l1, l2, ab_I z] (ab_I z :: st) σ Q := ab_r_iload_n rfl kc_X11_led dX11_led_4
theorem rX11_led_5 : ab_Run X 121 5 (20, 1, 6) [ab_R z, l1, l2, l3] st σ Q ↔ z ≠ 0 ∧ ab_Run X 121 6 (20, 1, 6) [ab_R z, l1, l2, l3] (ab_R z :: st) σ Q := ab_r_aload_n rfl kc_X11_led dX11_led_5
theorem rX11_led_6 : ab_Run X 121 6 (20, 1, 6) L (ab_R a :: st) σ Q ↔ (ab_sh σ a).1 = 12 ∧ ab_Run X 121 9 (20, 1, 6) L (ab_R (ab_rd σ a 7) :: st) σ Q := gF_11_58 ko_X11_led kc_X11_led dX11_led_6
theorem rX11_led_9 : ab_Run X 121 9 (20, 1, 6) L (ab_R a :: st) σ Q ↔ (ab_sh σ a).1 = 5 ∧ ab_Run X 121 12 (20, 1, 6) L (ab_I (ab_rd σ a 5) :: st) σ Q := gF_11_100 ko_X11_led kc_X11_led dX11_led_9
theorem rX11_led_12 : ab_Run X 121 12 (20, 1, 6) L (ab_I b :: ab_I a :: st) σ Q ↔ (b ≤ a → ab_Run X 121 43 (20, 1, 6) L st σ Q) ∧ (¬ (b ≤ a) → ab_Run X 121 15 (20, 1, 6) L st σ Q) := ab_r_icmp_ge rfl kc_X11_led dX11_led_12
theorem rX11_led_15 : ab_Run X 121 15 (20, 1, 6) [ab_R z, l1, l2, l3] st σ Q ↔ z ≠ 0 ∧ ab_Run X 121 16 (20, 1, 6) [ab_R z, l1, l2, l3] (ab_R z :: st) σ Q := ab_r_aload_n rfl kc_X11_led dX11_led_15
theorem rX11_led_16 : ab_Run X 121 16 (20, 1, 6) L (ab_R a :: st) σ Q ↔ (ab_sh σ a).1 = 12 ∧ ab_Run X 121 19 (20, 1, 6) L (ab_R (ab_rd σ a 1) :: st) σ Q := gF_11_19 ko_X11_led kc_X11_led dX11_led_16
theorem rX11_led_19 : ab_Run X 121 19 (20, 1, 6) L (ab_R a :: st) σ Q ↔ (ab_sh σ a).1 = 9 ∧ ab_Run X 121 22 (20, 1, 6) L (ab_R (ab_rd σ a 2) :: st) σ Q := gF_11_127 ko_X11_led kc_X11_led dX11_led_19
theorem rX11_led_22 : ab_Run X 121 22 (20, 1, 6) [l0, l1, l2, ab_I z] st σ Q ↔ ab_Run X 121 23 (20, 1, 6) [l0, l1, l2, ab_I z] (ab_I z :: st) σ Q := ab_r_iload_n rfl kc_X11_led dX11_led_22
theorem rX11_led_23 : ab_Run X 121 23 (20, 1, 6) L (ab_I i :: ab_R a :: st) σ Q ↔ (((ab_sh σ a).1 = 23 ∨ (ab_sh σ a).1 = 24) ∧ 0 ≤ i ∧ i < (ab_sh σ a).2) ∧ ab_Run X 121 24 (20, 1, 6) L (ab_I (ab_rd σ a i) :: st) σ Q := ab_r_baload kc_X11_led dX11_led_23
theorem rX11_led_24 : ab_Run X 121 24 (20, 1, 6) L (ab_I a :: st) σ Q ↔ (¬ a = 0 → ab_Run X 121 37 (20, 1, 6) L st σ Q) ∧ (¬ (¬ a = 0) → ab_Run X 121 27 (20, 1, 6) L st σ Q) := ab_r_if_ne rfl kc_X11_led dX11_led_24
theorem rX11_led_27 : ab_Run X 121 27 (20, 1, 6) [l0, l1, ab_I z, l3] st σ Q ↔ ab_Run X 121 28 (20, 1, 6) [l0, l1, ab_I z, l3] (ab_I z :: st) σ Q := ab_r_iload_n rfl kc_X11_led dX11_led_27
theorem rX11_led_28 : ab_Run X 121 28 (20, 1, 6) [l0, ab_I z, l2, l3] st σ Q ↔ ab_Run X 121 29 (20, 1, 6) [l0, ab_I z, l2, l3] (ab_I z :: st) σ Q := ab_r_iload_n rfl kc_X11_led dX11_led_28
theorem rX11_led_29 : ab_Run X 121 29 (20, 1, 6) L (ab_I b :: ab_I a :: st) σ Q ↔ (¬ a = b → ab_Run X 121 34 (20, 1, 6) L st σ Q) ∧ (¬ (¬ a = b) → ab_Run X 121 32 (20, 1, 6) L st σ Q) := ab_r_icmp_ne rfl kc_X11_led dX11_led_29
theorem rX11_led_32 : ab_Run X 121 32 (20, 1, 6) [l0, l1, l2, ab_I z] st σ Q ↔ ab_Run X 121 33 (20, 1, 6) [l0, l1, l2, ab_I z] (ab_I z :: st) σ Q := ab_r_iload_n rfl kc_X11_led dX11_led_32
theorem rX11_led_33 : ab_Run X 121 33 (20, 1, 6) L [ab_I v] σ Q ↔ Q (some (ab_I v)) σ := ab_r_ireturnI rfl kc_X11_led dX11_led_33
theorem rX11_led_34 : ab_Run X 121 34 (20, 1, 6) [l0, l1, ab_I z, l3] st σ Q ↔ (!ab_isJ l1) = true ∧ ab_Run X 121 37 (20, 1, 6) [l0, l1, ab_I (ab_w32 (z + 1)), l3] st σ Q := ab_r_iinc rfl (by decide) kc_X11_led dX11_led_34
theorem rX11_led_37 : ab_Run X 121 37 (20, 1, 6) [l0, l1, l2, ab_I z] st σ Q ↔ (!ab_isJ l2) = true ∧ ab_Run X 121 40 (20, 1, 6) [l0, l1, l2, ab_I (ab_w32 (z + 1))] st σ Q := ab_r_iinc rfl (by decide) kc_X11_led dX11_led_37
theorem rX11_led_40 : ab_Run X 121 40 (20, 1, 6) L st σ Q ↔ ab_Run X 121 4 (20, 1, 6) L st σ Q := ab_r_goto rfl kc_X11_led dX11_led_40
end
section
variable {X : ab_X} {σ : ab_S} {Q : Option ab_V → ab_S → Prop} {L : List ab_V} {x i : Int}
theorem ab_ex_new {k pc i : Nat} {bd : ab_B} {st : List ab_V} : ab_ex X k pc bd L st σ (.new i) 3 = (match ab_lk ab_pC (1000 * ab_ow k + i) with
    | some c => if c < 14 ∧ 1 ≤ bd.2.1 ∧ ab_N c ≤ bd.2.2 then ab_nx (pc + 3) (bd.1, bd.2.1 - 1, bd.2.2 - ab_N c) L (ab_R σ.1 :: st) (ab_new σ ((c : Int) + 1) 0) else none
    | none => if (k = ab_kled ∧ pc = 43 ∧ 1 ≤ bd.2.1 ∧ 6 ≤ bd.2.2) ∧ i = 376 ∧ st = [] then some (.inr (.inl none)) else none) := rfl
theorem ab_led_lk : ab_lk ab_pC (1000 * ab_ow 121 + 376) = none := by decide +kernel
theorem rX11_led_43 : ab_Run X 121 43 (20, 1, 6) L [] σ Q ↔ Q none σ := by
  refine ab_Run_ret ?_
  rw [ab_stp kc_X11_led dX11_led_43 ⟨Or.inr rfl, rfl⟩, ab_ex_new, ab_led_lk]
  exact if_pos ⟨⟨rfl, rfl, Nat.le_refl _, Nat.le_refl _⟩, rfl, rfl⟩
theorem ab_led_loop (hx : x ≠ 0) (l1 : (ab_sh σ x).1 = 12) (l2 : (ab_sh σ (ab_rd σ x 7)).1 = 5) (l3 : (ab_sh σ (ab_rd σ x 1)).1 = 9) (l4 : (ab_sh σ (ab_rd σ (ab_rd σ x 1) 2)).1 = 24) (l6 : ab_rd σ (ab_rd σ x 7) 5 ≤ (ab_sh σ (ab_rd σ (ab_rd σ x 1) 2)).2) (h6 : (ab_sh σ (ab_rd σ (ab_rd σ x 1) 2)).2 ≤ 60000) :
    ∀ (n : Nat) (b met : Int), b + n = ab_rd σ (ab_rd σ x 7) 5 → 0 ≤ b → 0 ≤ met → met ≤ b → Q ((ab_ledl σ (ab_rd σ (ab_rd σ x 1) 2) i n b met).map ab_I) σ → ab_Run X 121 4 (20, 1, 6) [ab_R x, ab_I i, ab_I met, ab_I b] [] σ Q := by
  intro n
  induction n with
  | zero =>
    intro b met h1 h2 h3 h4 hQ
    simp only [rX11_led_4, rX11_led_5, rX11_led_6, rX11_led_9, rX11_led_12, rX11_led_43]
    exact ⟨hx, l1, l2, fun _ => hQ, fun q => absurd (by omega) q⟩
  | succ n ih =>
    intro b met h1 h2 h3 h4 hQ
    have e1 : ab_w32 (b + 1) = b + 1 := by unfold ab_w32; omega
    have e2 : ab_w32 (met + 1) = met + 1 := by unfold ab_w32; omega
    simp only [rX11_led_4, rX11_led_5, rX11_led_6, rX11_led_9, rX11_led_12, rX11_led_15, rX11_led_16, rX11_led_19, rX11_led_22, rX11_led_23, rX11_led_24]
    refine ⟨hx, l1, l2, fun q => absurd q (by omega), fun _ => ⟨hx, l1, l3, ⟨Or.inr l4, h2, by omega⟩, fun hg => ?_, fun hg => ?_⟩⟩
    · simp only [rX11_led_37, rX11_led_40, e1]
      refine ⟨rfl, ih (b + 1) met (by omega) (by omega) h3 (by omega) ?_⟩
      unfold ab_ledl at hQ
      rw [if_neg hg] at hQ
      exact hQ
    · have hg : ab_rd σ (ab_rd σ (ab_rd σ x 1) 2) b = 0 := Decidable.not_not.mp hg
      unfold ab_ledl at hQ
      rw [if_pos hg] at hQ
      simp only [rX11_led_27, rX11_led_28, rX11_led_29]
      refine ⟨fun hm => ?_, fun hm => ?_⟩
      · rw [if_neg hm] at hQ
        simp only [rX11_led_34, rX11_led_37, rX11_led_40, e1, e2]
        exact ⟨rfl, rfl, ih (b + 1) (met + 1) (by omega) (by omega) (by omega) (by omega) hQ⟩
      · rw [if_pos (Decidable.not_not.mp hm)] at hQ
        simp only [rX11_led_32, rX11_led_33]
        exact hQ
theorem ab_led_run (hx : x ≠ 0) (l1 : (ab_sh σ x).1 = 12) (l2 : (ab_sh σ (ab_rd σ x 7)).1 = 5) (l3 : (ab_sh σ (ab_rd σ x 1)).1 = 9) (l4 : (ab_sh σ (ab_rd σ (ab_rd σ x 1) 2)).1 = 24) (l5 : 0 ≤ ab_rd σ (ab_rd σ x 7) 5) (l6 : ab_rd σ (ab_rd σ x 7) 5 ≤ (ab_sh σ (ab_rd σ (ab_rd σ x 1) 2)).2) (h6 : (ab_sh σ (ab_rd σ (ab_rd σ x 1) 2)).2 ≤ 60000) (hQ : Q ((ab_ledf σ x i).map ab_I) σ) :
    ab_Run X 121 0 (20, 1, 6) [ab_R x, ab_I i, ab_R 0, ab_R 0] [] σ Q := by
  simp only [rX11_led_0, rX11_led_1, rX11_led_2, rX11_led_3]
  exact ⟨rfl, rfl, ab_led_loop hx l1 l2 l3 l4 l6 h6 _ 0 0 (by omega) (by omega) (by omega) (by omega) hQ⟩
end
