section
variable {X : ab_X} {σ τ : ab_S} {Q : Option ab_V → ab_S → Prop} {A B K : Int} {κ : ac_K}
def ac_tk (σ : ab_S) (κ : ac_K) (kd d : Int) : ab_S := ab_wr (ab_wr (ab_wr (ab_wr (ab_wr σ 134 4 (ac_lp κ kd d)) 134 5 (κ 1 0 - d)) 134 6 (κ 2 0)) 134 7 (κ 3 0)) 134 8 (κ 4 0)
theorem sp_take {kd d : Int} (hg : ab_Geo σ) (hK : ac_kit K) (hr : ac_KCr σ K κ) (hb : ac_KB κ) (hd : 0 ≤ d ∧ d ≤ 24) : ab_Do X 33 [ab_R 134, ab_R K, ab_I kd, ab_I d] σ Q ↔ Q none (ac_tk σ κ kd d) := by
  have hv : K = 5 ∨ K = 329 := hK
  have sK := (hg.kit hK).1
  obtain ⟨r0, r1, r2, r3, r4⟩ := hr
  have b1 := hb.2.1
  unfold ac_tk ac_lp
  by_cases h1 : kd = 2
  · rw [if_pos (Or.inl h1)]
    simp (disch := omega) only [do_X6_take, rX6_take_0, rX6_take_1, rX6_take_2, rX6_take_3, rX6_take_6, rX6_take_7, rX6_take_8, rX6_take_11, rX6_take_14, rX6_take_15, rX6_take_18, rX6_take_19, rX6_take_22, rX6_take_23, rX6_take_24, rX6_take_27, rX6_take_28, rX6_take_29, rX6_take_32, rX6_take_33, rX6_take_34, rX6_take_37, rX6_take_40, rX6_take_41, rX6_take_42, rX6_take_45, rX6_take_48, rX6_take_49, rX6_take_50, rX6_take_53, rX6_take_56, gS_134, hg, sK, r0, r1, r2, r3, r4, ne_eq, not_false_eq_true, not_true_eq_false, true_and, and_true, and_self, true_imp_iff, false_imp_iff, imp_self, Bool.not_false, Bool.not_true, reduceCtorEq, ab_isJ, ab_psh, ab_cats, Bool.false_eq_true, if_true, if_false, ab_shf, ab_shw, Int.le_refl, Classical.not_not, Int.zero_add, Int.add_zero, forall_const, ↓ab_itT, ↓ab_itF, ab_anT, ab_w32_id, ab_rdf_ne, ab_rdw_ne, ab_rdw_eq, ab_rdf_in, ab_td2, ab_tm2, or_true, true_or]
  · by_cases h2 : d < κ 0 0
    · rw [if_pos (Or.inr h2)]
      simp (disch := omega) only [do_X6_take, rX6_take_0, rX6_take_1, rX6_take_2, rX6_take_3, rX6_take_6, rX6_take_7, rX6_take_8, rX6_take_11, rX6_take_14, rX6_take_15, rX6_take_18, rX6_take_19, rX6_take_22, rX6_take_23, rX6_take_24, rX6_take_27, rX6_take_28, rX6_take_29, rX6_take_32, rX6_take_33, rX6_take_34, rX6_take_37, rX6_take_40, rX6_take_41, rX6_take_42, rX6_take_45, rX6_take_48, rX6_take_49, rX6_take_50, rX6_take_53, rX6_take_56, gS_134, hg, sK, r0, r1, r2, r3, r4, ne_eq, not_false_eq_true, not_true_eq_false, true_and, and_true, and_self, true_imp_iff, false_imp_iff, imp_self, Bool.not_false, Bool.not_true, reduceCtorEq, ab_isJ, ab_psh, ab_cats, Bool.false_eq_true, if_true, if_false, ab_shf, ab_shw, Int.le_refl, Classical.not_not, Int.zero_add, Int.add_zero, forall_const, ↓ab_itT, ↓ab_itF, ab_anT, ab_w32_id, ab_rdf_ne, ab_rdw_ne, ab_rdw_eq, ab_rdf_in, ab_td2, ab_tm2, or_true, true_or]
    · rw [if_neg (by omega)]
      simp (disch := omega) only [do_X6_take, rX6_take_0, rX6_take_1, rX6_take_2, rX6_take_3, rX6_take_6, rX6_take_7, rX6_take_8, rX6_take_11, rX6_take_14, rX6_take_15, rX6_take_18, rX6_take_19, rX6_take_22, rX6_take_23, rX6_take_24, rX6_take_27, rX6_take_28, rX6_take_29, rX6_take_32, rX6_take_33, rX6_take_34, rX6_take_37, rX6_take_40, rX6_take_41, rX6_take_42, rX6_take_45, rX6_take_48, rX6_take_49, rX6_take_50, rX6_take_53, rX6_take_56, gS_134, hg, sK, r0, r1, r2, r3, r4, ne_eq, not_false_eq_true, not_true_eq_false, true_and, and_true, and_self, true_imp_iff, false_imp_iff, imp_self, Bool.not_false, Bool.not_true, reduceCtorEq, ab_isJ, ab_psh, ab_cats, Bool.false_eq_true, if_true, if_false, ab_shf, ab_shw, Int.le_refl, Classical.not_not, Int.zero_add, Int.add_zero, forall_const, ↓ab_itT, ↓ab_itF, ab_anT, ab_w32_id, ab_rdf_ne, ab_rdw_ne, ab_rdw_eq, ab_rdf_in, ab_td2, ab_tm2, or_true, true_or]
theorem ac_grip_rd {n x y : Int} {s t : Int → Int} : ab_rd (ac_grip σ A n s t) x y = if x = A + 1 ∧ 0 ≤ y ∧ y < n then t y else if x = A + 2 ∧ 0 ≤ y ∧ y < n then s y else if x = A ∧ y = 0 then n else ab_rd σ x y := rfl
theorem ac_grip_ne {n x y : Int} {s t : Int → Int} (h : x < A ∨ A + 2 < x ∨ (x = A ∧ y ≠ 0)) : ab_rd (ac_grip σ A n s t) x y = ab_rd σ x y := by rw [ac_grip_rd, if_neg (by omega), if_neg (by omega), if_neg (by omega)]
theorem ac_grip_sh {n x : Int} {s t : Int → Int} : ab_sh (ac_grip σ A n s t) x = ab_sh σ x := rfl
theorem ac_BoneG.congr (h : ac_BoneG σ B) (hs : ∀ a, ab_sh τ a = ab_sh σ a) (h1 : ∀ f, ab_rd τ B f = ab_rd σ B f) : ac_BoneG τ B := by
  unfold ac_BoneG at h ⊢
  rw [hs, hs, hs, h1, h1]
  exact h
theorem ac_grip_same {n : Int} {s t : Int → Int} (hA : ab_arm A) : ab_Same ac_PC σ (ac_grip σ A n s t) := by
  unfold ac_grip
  refine ((ab_Same.refl.wr ?_).fl ?_).fl ?_
  · exact ac_PC_arm hA (Or.inl ⟨rfl, rfl⟩)
  · exact fun y _ _ => ac_PC_arm hA (Or.inr (by omega))
  · exact fun y _ _ => ac_PC_arm hA (Or.inr (by omega))
def ac_gk (σ : ab_S) (κ : ac_K) (d b p hp q hq mv : Int) : ab_S := ac_grip (ac_grip (ab_wr σ 134 9 (κ 17 p + κ 17 q)) 135 (ac_n κ b 0) (ac_S κ d b 0 p) (ac_N κ p q hp p (ac_m0 mv))) 141 (ac_n κ b 1) (ac_S κ d b 1 q) (ac_N κ p q hq q (ac_m1 mv))
def ac_Tk (σ : ab_S) (κ : ac_K) (d : Int) : Prop := ab_rd σ 134 5 = κ 1 0 - d ∧ ab_rd σ 134 6 = κ 2 0 ∧ ab_rd σ 134 7 = κ 3 0
theorem ac_grip_congr {n : Int} {s s' t t' : Int → Int} (h1 : ∀ y, 0 ≤ y → y < n → s y = s' y) (h2 : ∀ y, 0 ≤ y → y < n → t y = t' y) : ac_grip σ A n s t = ac_grip σ A n s' t' := by
  unfold ac_grip
  rw [ab_fl_congr h1, ab_fl_congr h2]
/-- one grip of a told kitchen -/
theorem sp_gripK {d b arm p q who hold mv : Int} (hg : ab_Geo σ) (hAr : ab_arm A) (hC : ac_KC σ K κ) (hk : ac_KK κ) (hT : ac_Tk σ κ d) (h9 : ab_rd σ 134 9 = κ 17 p + κ 17 q) (hd : 0 ≤ d ∧ d ≤ 24) (hb : 0 ≤ b ∧ b < κ 5 0) (ha : arm = 0 ∨ arm = 1) (hp : 0 ≤ p ∧ p < κ 6 0) (hq : 0 ≤ q ∧ q < κ 6 0) (hw : 0 ≤ who ∧ who < κ 6 0) (hh : 0 ≤ hold ∧ hold ≤ 6) (hm : mv = 0 ∨ mv = 1) : ab_Do X 35 [ab_R 134, ab_R A, ab_R (K + 5 + 3 * b), ab_I arm, ab_R (K + 20 + who), ab_I hold, ab_I mv] σ Q ↔ Q none (ac_grip σ A (ac_n κ b arm) (ac_S κ d b arm who) (ac_N κ p q hold who mv)) := by
  obtain ⟨kB, kN, kL, k1, k2⟩ := hk
  obtain ⟨hK, hr, h0, hcb, hcp, hci⟩ := hC
  have hv : K = 5 ∨ K = 329 := hK
  have n5 := kN.1.2
  have n6 := kN.2.1.2
  have fb := hcb b hb.1 hb.2
  have fw := hcp who hw.1 hw.2
  have bb := kL.1 b hb.1 hb.2
  have bp := kL.2.1 p hp.1 hp.2
  have bq := kL.2.1 q hq.1 hq.2
  have ba := bb.2.2 arm ha
  have gB := (hg.bone hK hb.1 (by omega)).1
  have gP := (hg.pers hK hw.1 (by omega)).1
  have f1 := (fb.2.2 arm ha).1
  have f2 := (fb.2.2 arm ha).2
  have kB1 := kB.2.1
  have kB2 := kB.2.2.1
  have kB3 := kB.2.2.2.1
  have bp1 := bp.2.1
  have bq1 := bq.2.1
  have fw1 := fw.1
  rw [sp_grip (n := κ 14 (2 * b + arm)) (tg := κ 1 0 - d) (tb := κ 3 0) (fc := κ 17 p + κ 17 q) (jk := κ 2 0) (kd := κ 16 who) hg hAr gB ha ⟨gP, by omega⟩ f1 (by omega) (fun i i1 i2 => by
    rw [f2 i i1 i2]; have := ba.2 i i1 i2; omega) hT.1 hT.2.2 h9 hT.2.1 fw1 (by omega) kB3 (by omega) kB2 hh hm]
  unfold ac_n ac_S ac_N
  rw [ac_grip_congr (fun y y1 y2 => ?_) (fun y y1 y2 => rfl)]
  unfold ac_str
  dsimp only
  rw [f2 y y1 y2]
theorem sp_grips {d b p hp q hq mv : Int} (hg : ab_Geo σ) (h7 : ab_rd σ 1 7 = K) (hC : ac_KC σ K κ) (hk : ac_KK κ) (hT : ac_Tk σ κ d) (hd : 0 ≤ d ∧ d ≤ 24) (hb : 0 ≤ b ∧ b < κ 5 0) (hpp : 0 ≤ p ∧ p < κ 6 0) (hqq : 0 ≤ q ∧ q < κ 6 0) (hh0 : 0 ≤ hp ∧ hp ≤ 6) (hh1 : 0 ≤ hq ∧ hq ≤ 6) (hm : 0 ≤ mv ∧ mv ≤ 3) : ab_Do X 139 [ab_R 1, ab_I b, ab_I p, ab_I hp, ab_I q, ab_I hq, ab_I mv] σ Q ↔ Q none (ac_gk σ κ d b p hp q hq mv) := by
  have hC' := hC
  obtain ⟨hK, hr, h0, hcb, hcp, hci⟩ := hC'
  have hv : K = 5 ∨ K = 329 := hK
  have n5 := hk.2.1.1.2
  have n6 := hk.2.1.2.1.2
  obtain ⟨s0, s1, s2, s3, s4, p6, p8, -, -⟩ := hg.kit hK
  have gB := hg.bone hK hb.1 (by omega)
  have gP := hg.pers hK hpp.1 (by omega)
  have gQ := hg.pers hK hqq.1 (by omega)
  have fp := (hcp p hpp.1 hpp.2).2.1
  have fq := (hcp q hqq.1 hqq.2).2.1
  have bp := (hk.2.2.1.2.1 p hpp.1 hpp.2).2.1
  have bq := (hk.2.2.1.2.1 q hqq.1 hqq.2).2.1
  have same1 : ab_Same ac_PC σ (ab_wr σ 134 9 (κ 17 p + κ 17 q)) := ab_Same.refl.wr (by unfold ac_PC; omega)
  have g1 := hg.same same1 ac_PC_pt
  have C1 := hC.same n5 n6 same1
  have same2 : ∀ n s t, ab_Same ac_PC σ (ac_grip (ab_wr σ 134 9 (κ 17 p + κ 17 q)) 135 n s t) := fun n s t => same1.trans (ac_grip_same (Or.inl rfl))
  have g2 := fun n s t => hg.same (same2 n s t) ac_PC_pt
  have C2 := fun n s t => hC.same n5 n6 (same2 n s t)
  have c1 := fun mv' hm' Q' => sp_gripK (X := X) (Q := Q') (σ := ab_wr σ 134 9 (κ 17 p + κ 17 q)) (d := d) (b := b) (arm := 0) (p := p) (q := q) (who := p) (hold := hp) (mv := mv') g1 (Or.inl rfl) C1 hk (by obtain ⟨t1, t2, t3⟩ := hT; exact ⟨by rw [ab_rdw_ne (by omega), t1], by rw [ab_rdw_ne (by omega), t2], by rw [ab_rdw_ne (by omega), t3]⟩) ab_rdw_eq hd hb (Or.inl rfl) hpp hqq hpp hh0 hm'
  have c2 := fun n s t mv' hm' Q' => sp_gripK (X := X) (Q := Q') (σ := ac_grip (ab_wr σ 134 9 (κ 17 p + κ 17 q)) 135 n s t) (d := d) (b := b) (arm := 1) (p := p) (q := q) (who := q) (hold := hq) (mv := mv') (g2 n s t) (Or.inr (Or.inl rfl)) (C2 n s t) hk (by obtain ⟨t1, t2, t3⟩ := hT; exact ⟨by rw [ac_grip_ne (by omega), ab_rdw_ne (by omega), t1], by rw [ac_grip_ne (by omega), ab_rdw_ne (by omega), t2], by rw [ac_grip_ne (by omega), ab_rdw_ne (by omega), t3]⟩) (by rw [ac_grip_ne (by omega), ab_rdw_eq]) hd hb (Or.inr rfl) hpp hqq hqq hh1 hm'
  have z0 : ac_m0 mv = 0 ∨ ac_m0 mv = 1 := by unfold ac_m0; split <;> omega
  have z1 : ac_m1 mv = 0 ∨ ac_m1 mv = 1 := by unfold ac_m1; split <;> omega
  have c1' := fun Q' => c1 _ z0 Q'
  have c2' := fun n s t Q' => c2 n s t _ z1 Q'
  unfold ac_gk
  have hmv : mv = 0 ∨ mv = 1 ∨ mv = 2 ∨ mv = 3 := by omega
  rcases hmv with rfl | rfl | rfl | rfl
  all_goals
    simp only [show ac_m0 0 = 1 from rfl, show ac_m0 1 = 0 from rfl, show ac_m0 2 = 0 from rfl, show ac_m0 3 = 1 from rfl, show ac_m1 0 = 0 from rfl, show ac_m1 1 = 1 from rfl, show ac_m1 2 = 0 from rfl, show ac_m1 3 = 1 from rfl] at c1' c2' ⊢
    simp (disch := omega) only [do_X11_grips, rX11_grips_0, rX11_grips_1, rX11_grips_4, rX11_grips_7, rX11_grips_8, rX11_grips_9, rX11_grips_11, rX11_grips_12, rX11_grips_15, rX11_grips_18, rX11_grips_19, rX11_grips_20, rX11_grips_22, rX11_grips_23, rX11_grips_26, rX11_grips_29, rX11_grips_31, rX11_grips_32, rX11_grips_34, rX11_grips_35, rX11_grips_38, rX11_grips_40, rX11_grips_42, rX11_grips_45, rX11_grips_46, rX11_grips_49, rX11_grips_50, rX11_grips_53, rX11_grips_56, rX11_grips_58, rX11_grips_59, rX11_grips_61, rX11_grips_62, rX11_grips_64, rX11_grips_67, rX11_grips_69, rX11_grips_70, rX11_grips_73, rX11_grips_74, rX11_grips_77, rX11_grips_78, rX11_grips_81, rX11_grips_82, rX11_grips_85, rX11_grips_86, rX11_grips_89, rX11_grips_92, rX11_grips_94, rX11_grips_95, rX11_grips_97, rX11_grips_99, rX11_grips_101, rX11_grips_102, rX11_grips_105, rX11_grips_107, rX11_grips_108, rX11_grips_111, rX11_grips_112, rX11_grips_115, rX11_grips_116, rX11_grips_119, do_X6_pair, rX6_pair_0, rX6_pair_1, rX6_pair_2, rX6_pair_5, rX6_pair_6, rX6_pair_9, rX6_pair_10, rX6_pair_13, gS_1, gP_1_3, gS_134, gP_134_0, gP_134_1, gS_135, gS_141, hg, h7, s0, s1, s2, p6, p8, gB.1.2.1, gB.2, gP.1, gP.2, gQ.1, gQ.2, fp, fq, c1', c2', ac_grip_ne, ac_grip_sh, ne_eq, not_false_eq_true, not_true_eq_false, true_and, and_true, and_self, true_imp_iff, false_imp_iff, imp_self, Bool.not_false, Bool.not_true, reduceCtorEq, ab_isJ, ab_psh, ab_cats, Bool.false_eq_true, if_true, if_false, ab_shf, ab_shw, Int.le_refl, Classical.not_not, Int.zero_add, Int.add_zero, forall_const, ↓ab_itT, ↓ab_itF, ab_anT, ab_w32_id, ab_rdf_ne, ab_rdw_ne, ab_rdw_eq, ab_rdf_in, ab_td2, ab_tm2]
theorem ac_gk_same {d b p hp q hq mv : Int} : ab_Same ac_PC σ (ac_gk σ κ d b p hp q hq mv) := by
  unfold ac_gk
  exact ((ab_Same.refl.wr (by unfold ac_PC; omega)).trans (ac_grip_same (Or.inl rfl))).trans (ac_grip_same (Or.inr (Or.inl rfl)))
theorem ac_tk_same {kd d : Int} : ab_Same ac_PC σ (ac_tk σ κ kd d) := by
  unfold ac_tk
  exact ((((ab_Same.refl.wr (by unfold ac_PC; omega)).wr (by unfold ac_PC; omega)).wr (by unfold ac_PC; omega)).wr (by unfold ac_PC; omega)).wr (by unfold ac_PC; omega)
theorem ac_N_b {p q hold who mv i : Int} (hk : ac_KK κ) (hp : 0 ≤ p ∧ p < κ 6 0) (hq : 0 ≤ q ∧ q < κ 6 0) (hh : 0 ≤ hold ∧ hold ≤ 6) (hi : 0 ≤ i) : 0 ≤ ac_N κ p q hold who mv i ∧ ac_N κ p q hold who mv i ≤ 579 := by
  have b1 := (hk.2.2.1.2.1 p hp.1 hp.2).2.1
  have b2 := (hk.2.2.1.2.1 q hq.1 hq.2).2.1
  have b3 := hk.1.2.2.1
  exact ab_stn_b (by omega) hh (by split <;> omega) hi
theorem ac_S_b {d b arm who i : Int} (hk : ac_KK κ) (hd : 0 ≤ d ∧ d ≤ 24) (hb : 0 ≤ b ∧ b < κ 5 0) (ha : arm = 0 ∨ arm = 1) (h1 : 0 ≤ i) (h2 : i < ac_n κ b arm) : 0 ≤ ac_S κ d b arm who i ∧ ac_S κ d b arm who i ≤ 639 := by
  have b1 := ((hk.2.2.1.1 b hb.1 hb.2).2.2 arm ha).2 i h1 h2
  have b2 := hk.1.2.1
  have b3 := hk.1.2.2.2.1
  exact ac_str_b (by omega) (by omega) (by split <;> omega)
theorem ac_n_b {b arm : Int} (hk : ac_KK κ) (hb : 0 ≤ b ∧ b < κ 5 0) (ha : arm = 0 ∨ arm = 1) : 2 ≤ ac_n κ b arm ∧ ac_n κ b arm ≤ 6 := ((hk.2.2.1.1 b hb.1 hb.2).2.2 arm ha).1
theorem ac_gk_0 {d b p hp q hq mv : Int} (hk : ac_KK κ) (hd : 0 ≤ d ∧ d ≤ 24) (hb : 0 ≤ b ∧ b < κ 5 0) (hpp : 0 ≤ p ∧ p < κ 6 0) (hqq : 0 ≤ q ∧ q < κ 6 0) (hh0 : 0 ≤ hp ∧ hp ≤ 6) : ac_ArmB (ac_gk σ κ d b p hp q hq mv) 135 (ac_n κ b 0) (ac_N κ p q hp p (ac_m0 mv)) (ac_S κ d b 0 p) := by
  have := ac_n_b hk hb (Or.inl rfl)
  unfold ac_gk
  refine ⟨?_, by omega, fun i i1 i2 => ⟨?_, ?_⟩, fun i i1 i2 => ⟨ac_N_b hk hpp hqq hh0 i1, ac_S_b hk hd hb (Or.inl rfl) i1 i2⟩⟩
  · rw [ac_grip_ne (by omega), ac_grip_rd, if_neg (by omega), if_neg (by omega), if_pos ⟨rfl, rfl⟩]
  · rw [ac_grip_ne (by omega), ac_grip_rd, if_pos ⟨rfl, i1, i2⟩]
  · rw [ac_grip_ne (by omega), ac_grip_rd, if_neg (by omega), if_pos ⟨rfl, i1, i2⟩]
theorem ac_gk_1 {d b p hp q hq mv : Int} (hk : ac_KK κ) (hd : 0 ≤ d ∧ d ≤ 24) (hb : 0 ≤ b ∧ b < κ 5 0) (hpp : 0 ≤ p ∧ p < κ 6 0) (hqq : 0 ≤ q ∧ q < κ 6 0) (hh1 : 0 ≤ hq ∧ hq ≤ 6) : ac_ArmB (ac_gk σ κ d b p hp q hq mv) 141 (ac_n κ b 1) (ac_N κ p q hq q (ac_m1 mv)) (ac_S κ d b 1 q) := by
  have := ac_n_b hk hb (Or.inr rfl)
  unfold ac_gk
  refine ⟨?_, by omega, fun i i1 i2 => ⟨?_, ?_⟩, fun i i1 i2 => ⟨ac_N_b hk hpp hqq hh1 i1, ac_S_b hk hd hb (Or.inr rfl) i1 i2⟩⟩
  · rw [ac_grip_rd, if_neg (by omega), if_neg (by omega), if_pos ⟨rfl, rfl⟩]
  · rw [ac_grip_rd, if_pos ⟨rfl, i1, i2⟩]
  · rw [ac_grip_rd, if_neg (by omega), if_pos ⟨rfl, i1, i2⟩]
theorem ac_gk_134 {d b p hp q hq mv f : Int} (h : f ≠ 9) : ab_rd (ac_gk σ κ d b p hp q hq mv) 134 f = ab_rd σ 134 f := by
  unfold ac_gk
  rw [ac_grip_ne (by omega), ac_grip_ne (by omega), ab_rdw_ne (by omega)]
theorem ac_tk_rd {kd d x y : Int} (h : x ≠ 134) : ab_rd (ac_tk σ κ kd d) x y = ab_rd σ x y := by
  unfold ac_tk
  rw [ab_rdw_ne (by omega), ab_rdw_ne (by omega), ab_rdw_ne (by omega), ab_rdw_ne (by omega), ab_rdw_ne (by omega)]
theorem ac_tk_Tk {kd d : Int} : ac_Tk (ac_tk σ κ kd d) κ d := by
  unfold ac_tk
  refine ⟨?_, ?_, ?_⟩
  · rw [ab_rdw_ne (by omega), ab_rdw_ne (by omega), ab_rdw_ne (by omega), ab_rdw_eq]
  · rw [ab_rdw_ne (by omega), ab_rdw_ne (by omega), ab_rdw_eq]
  · rw [ab_rdw_ne (by omega), ab_rdw_eq]
theorem ac_tk_4 {kd d : Int} : ab_rd (ac_tk σ κ kd d) 134 4 = ac_lp κ kd d := by
  unfold ac_tk
  rw [ab_rdw_ne (by omega), ab_rdw_ne (by omega), ab_rdw_ne (by omega), ab_rdw_ne (by omega), ab_rdw_eq]
theorem ac_tk_8 {kd d : Int} : ab_rd (ac_tk σ κ kd d) 134 8 = κ 4 0 := by
  unfold ac_tk
  rw [ab_rdw_eq]
theorem ac_gk_Tk {d d' b p hp q hq mv : Int} (h : ac_Tk σ κ d') : ac_Tk (ac_gk σ κ d b p hp q hq mv) κ d' := by
  unfold ac_Tk at h ⊢
  rw [ac_gk_134 (by omega), ac_gk_134 (by omega), ac_gk_134 (by omega)]
  exact h
theorem sp_takeNow {b kd d : Int} (hg : ab_Geo σ) (h7 : ab_rd σ 1 7 = K) (hC : ac_KC σ K κ) (hk : ac_KK κ) (hb : 0 ≤ b ∧ b < κ 5 0) (h32 : ab_rd σ 32 b = kd) (h33 : ab_rd σ 33 b = d) (hd : 0 ≤ d ∧ d ≤ 24) : ab_Do X 137 [ab_R 1, ab_I b] σ Q ↔ Q none (ac_tk σ κ kd d) := by
  have hv : K = 5 ∨ K = 329 := hC.1
  have sK := (hg.kit hC.1).1
  have n5 := hk.2.1.1.2
  have c := fun Q' => sp_take (X := X) (Q := Q') (kd := kd) hg hC.1 hC.2.1 hk.1 hd
  simp (disch := omega) only [do_X11_takeNow, rX11_takeNow_0, rX11_takeNow_1, rX11_takeNow_4, rX11_takeNow_5, rX11_takeNow_8, rX11_takeNow_9, rX11_takeNow_12, rX11_takeNow_15, rX11_takeNow_16, rX11_takeNow_17, rX11_takeNow_18, rX11_takeNow_21, rX11_takeNow_24, rX11_takeNow_25, rX11_takeNow_26, rX11_takeNow_29, gS_1, gP_1_3, gP_1_1, gS_31, gP_31_0, gP_31_1, gS_32, gS_33, gS_134, hg, h7, h32, h33, sK, c, ne_eq, not_false_eq_true, not_true_eq_false, true_and, and_true, and_self, true_imp_iff, false_imp_iff, imp_self, Bool.not_false, Bool.not_true, reduceCtorEq, ab_isJ, ab_psh, ab_cats, Bool.false_eq_true, if_true, if_false, ab_shf, ab_shw, Int.le_refl, Classical.not_not, Int.zero_add, Int.add_zero, forall_const, ↓ab_itT, ↓ab_itF, ab_anT, ab_w32_id, ab_rdf_ne, ab_rdw_ne, ab_rdw_eq, ab_rdf_in, ab_td2, ab_tm2]
theorem sp_lay {d kd b p hp q hq mv : Int} (hg : ab_Geo σ) (h7 : ab_rd σ 1 7 = K) (hC : ac_KC σ K κ) (hk : ac_KK κ) (h32 : ab_rd σ 32 b = kd) (h33 : ab_rd σ 33 b = d) (hd : 0 ≤ d ∧ d ≤ 24) (hb : 0 ≤ b ∧ b < κ 5 0) (hpp : 0 ≤ p ∧ p < κ 6 0) (hqq : 0 ≤ q ∧ q < κ 6 0) (hh0 : 0 ≤ hp ∧ hp ≤ 6) (hh1 : 0 ≤ hq ∧ hq ≤ 6) (hm : 0 ≤ mv ∧ mv ≤ 3) : ab_Do X 138 [ab_R 1, ab_I b, ab_I p, ab_I hp, ab_I q, ab_I hq, ab_I mv] σ Q ↔ Q none (ac_gk (ac_tk σ κ kd d) κ d b p hp q hq mv) := by
  have n5 := hk.2.1.1.2
  have n6 := hk.2.1.2.1.2
  have c1 := fun Q' => sp_takeNow (X := X) (Q := Q') hg h7 hC hk hb h32 h33 hd
  have c2 := fun Q' => sp_grips (X := X) (Q := Q') (d := d) (hg.same (ac_tk_same (κ := κ) (kd := kd) (d := d)) ac_PC_pt) (by rw [ac_tk_rd (by omega), h7]) (hC.same n5 n6 ac_tk_same) hk ac_tk_Tk hd hb hpp hqq hh0 hh1 hm
  have sh : ∀ a, ab_sh (ac_tk σ κ kd d) a = ab_sh σ a := fun _ => rfl
  simp (disch := omega) only [do_X11_lay, rX11_lay_0, rX11_lay_1, rX11_lay_2, rX11_lay_5, rX11_lay_6, rX11_lay_7, rX11_lay_8, rX11_lay_9, rX11_lay_11, rX11_lay_13, rX11_lay_15, rX11_lay_18, gS_1, hg, c1, c2, sh, ne_eq, not_false_eq_true, not_true_eq_false, true_and, and_true, and_self, true_imp_iff, false_imp_iff, imp_self, Bool.not_false, Bool.not_true, reduceCtorEq, ab_isJ, ab_psh, ab_cats, Bool.false_eq_true, if_true, if_false, ab_shf, ab_shw, Int.le_refl, Classical.not_not, Int.zero_add, Int.add_zero, forall_const, ↓ab_itT, ↓ab_itF, ab_anT, ab_w32_id, ab_rdf_ne, ab_rdw_ne, ab_rdw_eq, ab_rdf_in, ab_td2, ab_tm2]
theorem ac_h_b {p b arm : Int} (hk : ac_KK κ) (hb : 0 ≤ b ∧ b < κ 5 0) (ha : arm = 0 ∨ arm = 1) (hp : 0 ≤ p ∧ p < κ 6 0) : 1 ≤ ac_h κ p b arm ∧ ac_h κ p b arm ≤ κ 14 (2 * b + arm) ∧ ac_h κ p b arm ≤ 6 := by
  have b1 := (hk.2.2.1.2.1 p hp.1 hp.2).2.2.1
  have b2 := ((hk.2.2.1.1 b hb.1 hb.2).2.2 arm ha).1
  unfold ac_h
  split <;> omega
theorem sp_gripsAsTold {d b p q : Int} (hg : ab_Geo σ) (h7 : ab_rd σ 1 7 = K) (hC : ac_KC σ K κ) (hk : ac_KK κ) (hT : ac_Tk σ κ d) (hd : 0 ≤ d ∧ d ≤ 24) (hb : 0 ≤ b ∧ b < κ 5 0) (hpp : 0 ≤ p ∧ p < κ 6 0) (hqq : 0 ≤ q ∧ q < κ 6 0) : ab_Do X 140 [ab_R 1, ab_I b, ab_I p, ab_I q] σ Q ↔ Q none (ac_gk σ κ d b p (ac_h κ p b 0) q (ac_h κ q b 1) 2) := by
  have n5 := hk.2.1.1.2
  have n6 := hk.2.1.2.1.2
  have e0 := ac_h_b hk hb (Or.inl rfl) hpp
  have e1 := ac_h_b hk hb (Or.inr rfl) hqq
  have c2 := fun Q' => sp_grips (X := X) (Q := Q') hg h7 hC hk hT hd hb hpp hqq (show 0 ≤ ac_h κ p b 0 ∧ ac_h κ p b 0 ≤ 6 by omega) (show 0 ≤ ac_h κ q b 1 ∧ ac_h κ q b 1 ≤ 6 by omega) (show (0 : Int) ≤ 2 ∧ (2 : Int) ≤ 3 by omega)
  have hC' := hC
  obtain ⟨hK, hr, h0, hcb, hcp, hci⟩ := hC'
  have hv : K = 5 ∨ K = 329 := hK
  obtain ⟨s0, s1, s2, s3, s4, p6, p8, -, -⟩ := hg.kit hK
  have gB := hg.bone hK hb.1 (by omega)
  have gP := hg.pers hK hpp.1 (by omega)
  have gQ := hg.pers hK hqq.1 (by omega)
  have fp := (hcp p hpp.1 hpp.2).2.2.1
  have fq := (hcp q hqq.1 hqq.2).2.2.1
  have fb0 := ((hcb b hb.1 hb.2).2.2 0 (Or.inl rfl)).1
  have fb1 := ((hcb b hb.1 hb.2).2.2 1 (Or.inr rfl)).1
  have u0 : (if κ 14 (2 * b) < κ 18 p then κ 14 (2 * b) else κ 18 p) = ac_h κ p b 0 := by unfold ac_h; rw [Int.add_zero]
  have u1 : (if κ 14 (2 * b + 1) < κ 18 q then κ 14 (2 * b + 1) else κ 18 q) = ac_h κ q b 1 := rfl
  have q0 := gB.1
  obtain ⟨qz, q1, q2, q3, q4, q5⟩ := q0
  simp (disch := omega) only [do_X11_gripsAsTold, rX11_gripsAsTold_0, rX11_gripsAsTold_1, rX11_gripsAsTold_4, rX11_gripsAsTold_7, rX11_gripsAsTold_8, rX11_gripsAsTold_9, rX11_gripsAsTold_11, rX11_gripsAsTold_13, rX11_gripsAsTold_14, rX11_gripsAsTold_15, rX11_gripsAsTold_18, rX11_gripsAsTold_21, rX11_gripsAsTold_22, rX11_gripsAsTold_23, rX11_gripsAsTold_26, rX11_gripsAsTold_28, rX11_gripsAsTold_30, rX11_gripsAsTold_31, rX11_gripsAsTold_32, rX11_gripsAsTold_35, rX11_gripsAsTold_38, rX11_gripsAsTold_39, rX11_gripsAsTold_40, rX11_gripsAsTold_43, rX11_gripsAsTold_45, rX11_gripsAsTold_46, rX11_gripsAsTold_47, rX11_gripsAsTold_48, rX11_gripsAsTold_50, rX11_gripsAsTold_51, rX11_gripsAsTold_53, rX11_gripsAsTold_54, rX11_gripsAsTold_57, do_X1_reach, rX1_reach_0, rX1_reach_1, rX1_reach_4, rX1_reach_5, rX1_reach_8, rX1_reach_9, rX1_reach_10, rX1_reach_13, gS_1, hg, h7, s0, s1, s2, p6, p8, q1, q2, q4, gB.2, gP.1, gP.2, gQ.1, gQ.2, fp, fq, fb0, fb1, c2, u0, u1, ↓u0, ↓u1, ne_eq, not_false_eq_true, not_true_eq_false, true_and, and_true, and_self, true_imp_iff, false_imp_iff, imp_self, Bool.not_false, Bool.not_true, reduceCtorEq, ab_isJ, ab_psh, ab_cats, Bool.false_eq_true, if_true, if_false, ab_shf, ab_shw, Int.le_refl, Classical.not_not, Int.zero_add, Int.add_zero, forall_const, ↓ab_itT, ↓ab_itF, ab_anT, ab_w32_id, ab_rdf_ne, ab_rdw_ne, ab_rdw_eq, ab_rdf_in, ab_td2, ab_tm2]
end
