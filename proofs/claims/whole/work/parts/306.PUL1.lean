section
variable {X : ab_X} {σ : ab_S} {Q : Option ab_V → ab_S → Prop} {A B : Int}
def ac_str (th : Int → Int) (tg tb : Int) : Int → Int := fun i => th i * tg + (if i < 2 then tb else 0)
theorem ac_str_b {th : Int → Int} {tg tb i : Int} (h1 : 0 ≤ th i ∧ th i ≤ 9) (h2 : 0 ≤ tg ∧ tg ≤ 60) (h3 : 0 ≤ tb ∧ tb ≤ 99) : 0 ≤ ac_str th tg tb i ∧ ac_str th tg tb i ≤ 639 := by
  unfold ac_str
  have := ab_mulb h1.1 h1.2 h2.1 h2.2
  split <;> omega
theorem sp_setPlaces_l {n arm tg tb : Int} (hA : ab_ArmG σ A) (hB : ac_BoneG σ B) (ha : arm = 0 ∨ arm = 1) (hn6 : n ≤ 6) (hth : ∀ i, 0 ≤ i → i < n → 0 ≤ ab_rd σ (B + 2) (6 * arm + i) ∧ ab_rd σ (B + 2) (6 * arm + i) ≤ 9) (h2 : 0 ≤ tg ∧ tg ≤ 60) (h3 : 0 ≤ tb ∧ tb ≤ 99) : ∀ (d : Nat) (i : Int), 0 ≤ i → i + d = n → (ab_Run X 1 13 (0, 0, 0) [ab_R A, ab_R B, ab_I arm, ab_I tg, ab_I tb, ab_I i] [] (ab_fl (ab_wr σ A 0 n) (A + 2) i (ac_str (fun i => ab_rd σ (B + 2) (6 * arm + i)) tg tb)) Q ↔ Q none (ab_fl (ab_wr σ A 0 n) (A + 2) n (ac_str (fun i => ab_rd σ (B + 2) (6 * arm + i)) tg tb))) := by
  intro d
  obtain ⟨hz, s0, s1, s2, s3, s4, s5, p1, p2, p3, p4, p5⟩ := hA
  obtain ⟨hzb, t0, t1, t2, q3, q4⟩ := hB
  induction d with
  | zero =>
    intro i hi hd
    have e : i = n := by omega
    subst e
    rw [rX0_setPlaces_13]
    simp (disch := omega) only [rX0_setPlaces_15, rX0_setPlaces_16, rX0_setPlaces_19, rX0_setPlaces_62, s0, ne_eq, not_false_eq_true, not_true_eq_false, true_and, and_true, and_self, true_imp_iff, false_imp_iff, imp_self, Bool.not_false, Bool.not_true, reduceCtorEq, ab_isJ, ab_psh, ab_cats, Bool.false_eq_true, if_true, if_false, ab_shf, ab_shw, Int.le_refl, Classical.not_not, Int.zero_add, Int.add_zero, forall_const, ↓ab_itT, ↓ab_itF, ab_anT, ab_w32_id, ab_rdf_ne, ab_rdw_ne, ab_rdw_eq, ab_rdf_in, ab_td2, ab_tm2]
  | succ d ih =>
    intro i hi hd
    have key := ih (i + 1) (by omega) (by omega)
    rw [← ab_fl_succ hi] at key
    rw [rX0_setPlaces_13, ← key]
    have hb := hth i hi (by omega)
    have m := ab_mulb hb.1 hb.2 h2.1 h2.2
    unfold ac_str
    by_cases h : i < 2
    · simp (disch := omega) only [rX0_setPlaces_15, rX0_setPlaces_16, rX0_setPlaces_19, rX0_setPlaces_22, rX0_setPlaces_23, rX0_setPlaces_26, rX0_setPlaces_28, rX0_setPlaces_29, rX0_setPlaces_32, rX0_setPlaces_34, rX0_setPlaces_35, rX0_setPlaces_36, rX0_setPlaces_38, rX0_setPlaces_39, rX0_setPlaces_40, rX0_setPlaces_41, rX0_setPlaces_42, rX0_setPlaces_44, rX0_setPlaces_45, rX0_setPlaces_48, rX0_setPlaces_50, rX0_setPlaces_53, rX0_setPlaces_54, rX0_setPlaces_55, rX0_setPlaces_56, rX0_setPlaces_59, s0, s2, t0, t1, t2, q3, q4, p2, ne_eq, not_false_eq_true, not_true_eq_false, true_and, and_true, and_self, true_imp_iff, false_imp_iff, imp_self, Bool.not_false, Bool.not_true, reduceCtorEq, ab_isJ, ab_psh, ab_cats, Bool.false_eq_true, if_true, if_false, ab_shf, ab_shw, Int.le_refl, Classical.not_not, Int.zero_add, Int.add_zero, forall_const, ↓ab_itT, ↓ab_itF, ab_anT, ab_w32_id, ab_rdf_ne, ab_rdw_ne, ab_rdw_eq, ab_rdf_in, ab_td2, ab_tm2, ab_ifT]
    · simp (disch := omega) only [rX0_setPlaces_15, rX0_setPlaces_16, rX0_setPlaces_19, rX0_setPlaces_22, rX0_setPlaces_23, rX0_setPlaces_26, rX0_setPlaces_28, rX0_setPlaces_29, rX0_setPlaces_32, rX0_setPlaces_34, rX0_setPlaces_35, rX0_setPlaces_36, rX0_setPlaces_38, rX0_setPlaces_39, rX0_setPlaces_40, rX0_setPlaces_41, rX0_setPlaces_42, rX0_setPlaces_44, rX0_setPlaces_45, rX0_setPlaces_48, rX0_setPlaces_50, rX0_setPlaces_53, rX0_setPlaces_54, rX0_setPlaces_55, rX0_setPlaces_56, rX0_setPlaces_59, s0, s2, t0, t1, t2, q3, q4, p2, ne_eq, not_false_eq_true, not_true_eq_false, true_and, and_true, and_self, true_imp_iff, false_imp_iff, imp_self, Bool.not_false, Bool.not_true, reduceCtorEq, ab_isJ, ab_psh, ab_cats, Bool.false_eq_true, if_true, if_false, ab_shf, ab_shw, Int.le_refl, Classical.not_not, Int.zero_add, Int.add_zero, forall_const, ↓ab_itT, ↓ab_itF, ab_anT, ab_w32_id, ab_rdf_ne, ab_rdw_ne, ab_rdw_eq, ab_rdf_in, ab_td2, ab_tm2, ab_ifF]
theorem sp_setPlaces {n arm tg tb : Int} (hA : ab_ArmG σ A) (hB : ac_BoneG σ B) (ha : arm = 0 ∨ arm = 1) (hn : ab_rd σ (B + 1) arm = n) (hn6 : 0 ≤ n ∧ n ≤ 6) (hth : ∀ i, 0 ≤ i → i < n → 0 ≤ ab_rd σ (B + 2) (6 * arm + i) ∧ ab_rd σ (B + 2) (6 * arm + i) ≤ 9) (h2 : 0 ≤ tg ∧ tg ≤ 60) (h3 : 0 ≤ tb ∧ tb ≤ 99) : ab_Do X 1 [ab_R A, ab_R B, ab_I arm, ab_I tg, ab_I tb] σ Q ↔ Q none (ab_fl (ab_wr σ A 0 n) (A + 2) n (ac_str (fun i => ab_rd σ (B + 2) (6 * arm + i)) tg tb)) := by
  have := sp_setPlaces_l (X := X) (Q := Q) hA hB ha hn6.2 hth h2 h3 n.toNat 0 (by omega) (by omega)
  rw [← this, ab_fl0 (Int.le_refl 0)]
  obtain ⟨hz, s0, s1, s2, s3, s4, s5, p1, p2, p3, p4, p5⟩ := hA
  obtain ⟨hzb, t0, t1, t2, q3, q4⟩ := hB
  simp (disch := omega) only [do_X0_setPlaces, rX0_setPlaces_0, rX0_setPlaces_1, rX0_setPlaces_2, rX0_setPlaces_5, rX0_setPlaces_6, rX0_setPlaces_7, rX0_setPlaces_10, rX0_setPlaces_11, s0, t0, t1, q3, hn, ne_eq, not_false_eq_true, not_true_eq_false, true_and, and_true, and_self, true_imp_iff, false_imp_iff, imp_self, Bool.not_false, Bool.not_true, reduceCtorEq, ab_isJ, ab_psh, ab_cats, Bool.false_eq_true, if_true, if_false, ab_shf, ab_shw, Int.le_refl, Classical.not_not, Int.zero_add, Int.add_zero, forall_const, ↓ab_itT, ↓ab_itF, ab_anT, ab_w32_id, ab_rdf_ne, ab_rdw_ne, ab_rdw_eq, ab_rdf_in, ab_td2, ab_tm2]
/-- the arm A as it's laid -/
def ac_grip (σ : ab_S) (A n : Int) (str stn : Int → Int) : ab_S := ab_fl (ab_fl (ab_wr σ A 0 n) (A + 2) n str) (A + 1) n stn
theorem sp_grip {n arm tg tb fc jk hold P kd mv : Int} (hg : ab_Geo σ) (hAr : ab_arm A) (hB : ac_BoneG σ B) (ha : arm = 0 ∨ arm = 1) (hP : ab_sh σ P = (6, 0) ∧ (25 ≤ P ∧ P ≤ 30 ∨ 349 ≤ P ∧ P ≤ 354)) (hn : ab_rd σ (B + 1) arm = n) (hn6 : 0 ≤ n ∧ n ≤ 6) (hth : ∀ i, 0 ≤ i → i < n → 0 ≤ ab_rd σ (B + 2) (6 * arm + i) ∧ ab_rd σ (B + 2) (6 * arm + i) ≤ 9)
    (h5 : ab_rd σ 134 5 = tg) (h7 : ab_rd σ 134 7 = tb) (h9 : ab_rd σ 134 9 = fc) (h6 : ab_rd σ 134 6 = jk) (hk : ab_rd σ P 1 = kd) (h2 : 0 ≤ tg ∧ tg ≤ 60) (h3 : 0 ≤ tb ∧ tb ≤ 99) (hf : 0 ≤ fc ∧ fc ≤ 80) (hj : 0 ≤ jk ∧ jk ≤ 99) (hh : 0 ≤ hold ∧ hold ≤ 6) (hmv : mv = 0 ∨ mv = 1) : ab_Do X 35 [ab_R 134, ab_R A, ab_R B, ab_I arm, ab_R P, ab_I hold, ab_I mv] σ Q ↔ Q none (ac_grip σ A n (ac_str (fun i => ab_rd σ (B + 2) (6 * arm + i)) tg (if kd = 3 then tb else 0)) (ab_stn fc hold (if mv = 1 ∨ kd = 2 then jk else 0))) := by
  have hA := hg.arm hAr
  have hA' := hA
  obtain ⟨hz, s0, s1, s2, s3, s4, s5, p1, p2, p3, p4, p5⟩ := hA'
  have hB' := hB
  obtain ⟨hzb, t0, t1, t2, q3, q4⟩ := hB'
  have tbb : 0 ≤ (if kd = 3 then tb else 0) ∧ (if kd = 3 then tb else 0) ≤ 99 := by split <;> omega
  have jkb : 0 ≤ (if mv = 1 ∨ kd = 2 then jk else 0) ∧ (if mv = 1 ∨ kd = 2 then jk else 0) ≤ 99 := by split <;> omega
  have e134 : ∀ f g, ab_rd (ab_fl (ab_wr σ A 0 n) (A + 2) n g) 134 f = ab_rd σ 134 f := fun f g => by rw [ab_rdf_ne (by omega), ab_rdw_ne (by omega)]
  have eP : ∀ f g, ab_rd (ab_fl (ab_wr σ A 0 n) (A + 2) n g) P f = ab_rd σ P f := fun f g => by rw [ab_rdf_ne (by omega), ab_rdw_ne (by omega)]
  have c2 : ∀ g J Q', 0 ≤ J ∧ J ≤ 99 → (ab_Do X 2 [ab_R A, ab_I fc, ab_I hold, ab_I J] (ab_fl (ab_wr σ A 0 n) (A + 2) n g) Q' ↔ Q' none (ab_fl (ab_fl (ab_wr σ A 0 n) (A + 2) n g) (A + 1) n (ab_stn fc hold J))) := fun g J Q' hJ => sp_setStrain (ab_ArmG.fl (ab_ArmG.wr hA (Or.inr (Int.le_refl 0))) (by omega)) (by rw [ab_rdf_ne (by omega), ab_rdw_eq]) hn6 hf hh hJ
  have c1 := fun Q' => sp_setPlaces (X := X) (Q := Q') (tg := tg) (tb := (if kd = 3 then tb else 0)) hA hB ha hn hn6 hth h2 tbb
  rw [ac_grip]
  by_cases k3 : kd = 3
  · rw [if_pos k3] at c1 ⊢
    by_cases hm : mv = 1 ∨ kd = 2
    · rw [if_pos hm]
      simp (disch := omega) only [do_X6_grip, rX6_grip_0, rX6_grip_1, rX6_grip_2, rX6_grip_3, rX6_grip_4, rX6_grip_7, rX6_grip_9, rX6_grip_12, rX6_grip_13, rX6_grip_16, rX6_grip_17, rX6_grip_20, rX6_grip_23, rX6_grip_24, rX6_grip_27, rX6_grip_28, rX6_grip_29, rX6_grip_32, rX6_grip_34, rX6_grip_36, rX6_grip_39, rX6_grip_41, rX6_grip_44, rX6_grip_45, rX6_grip_48, rX6_grip_49, rX6_grip_52, rX6_grip_55, rX6_grip_56, rX6_grip_59, gS_134, hg, s0, t0, hP.1, hk, h5, h7, c1, c2, e134, eP, h9, h6, ne_eq, not_false_eq_true, not_true_eq_false, true_and, and_true, and_self, true_imp_iff, false_imp_iff, imp_self, Bool.not_false, Bool.not_true, reduceCtorEq, ab_isJ, ab_psh, ab_cats, Bool.false_eq_true, if_true, if_false, ab_shf, ab_shw, Int.le_refl, Classical.not_not, Int.zero_add, Int.add_zero, forall_const, ↓ab_itT, ↓ab_itF, ab_anT, ab_w32_id, ab_rdf_ne, ab_rdw_ne, ab_rdw_eq, ab_rdf_in, ab_td2, ab_tm2]
    · rw [if_neg hm]
      simp (disch := omega) only [do_X6_grip, rX6_grip_0, rX6_grip_1, rX6_grip_2, rX6_grip_3, rX6_grip_4, rX6_grip_7, rX6_grip_9, rX6_grip_12, rX6_grip_13, rX6_grip_16, rX6_grip_17, rX6_grip_20, rX6_grip_23, rX6_grip_24, rX6_grip_27, rX6_grip_28, rX6_grip_29, rX6_grip_32, rX6_grip_34, rX6_grip_36, rX6_grip_39, rX6_grip_41, rX6_grip_44, rX6_grip_45, rX6_grip_48, rX6_grip_49, rX6_grip_52, rX6_grip_55, rX6_grip_56, rX6_grip_59, gS_134, hg, s0, t0, hP.1, hk, h5, h7, c1, c2, e134, eP, h9, h6, ne_eq, not_false_eq_true, not_true_eq_false, true_and, and_true, and_self, true_imp_iff, false_imp_iff, imp_self, Bool.not_false, Bool.not_true, reduceCtorEq, ab_isJ, ab_psh, ab_cats, Bool.false_eq_true, if_true, if_false, ab_shf, ab_shw, Int.le_refl, Classical.not_not, Int.zero_add, Int.add_zero, forall_const, ↓ab_itT, ↓ab_itF, ab_anT, ab_w32_id, ab_rdf_ne, ab_rdw_ne, ab_rdw_eq, ab_rdf_in, ab_td2, ab_tm2]
  · rw [if_neg k3] at c1 ⊢
    by_cases hm : mv = 1 ∨ kd = 2
    · rw [if_pos hm]
      by_cases hm1 : mv = 1
      · simp (disch := omega) only [do_X6_grip, rX6_grip_0, rX6_grip_1, rX6_grip_2, rX6_grip_3, rX6_grip_4, rX6_grip_7, rX6_grip_9, rX6_grip_12, rX6_grip_13, rX6_grip_16, rX6_grip_17, rX6_grip_20, rX6_grip_23, rX6_grip_24, rX6_grip_27, rX6_grip_28, rX6_grip_29, rX6_grip_32, rX6_grip_34, rX6_grip_36, rX6_grip_39, rX6_grip_41, rX6_grip_44, rX6_grip_45, rX6_grip_48, rX6_grip_49, rX6_grip_52, rX6_grip_55, rX6_grip_56, rX6_grip_59, gS_134, hg, s0, t0, hP.1, hk, h5, h7, c1, c2, e134, eP, h9, h6, ne_eq, not_false_eq_true, not_true_eq_false, true_and, and_true, and_self, true_imp_iff, false_imp_iff, imp_self, Bool.not_false, Bool.not_true, reduceCtorEq, ab_isJ, ab_psh, ab_cats, Bool.false_eq_true, if_true, if_false, ab_shf, ab_shw, Int.le_refl, Classical.not_not, Int.zero_add, Int.add_zero, forall_const, ↓ab_itT, ↓ab_itF, ab_anT, ab_w32_id, ab_rdf_ne, ab_rdw_ne, ab_rdw_eq, ab_rdf_in, ab_td2, ab_tm2]
      · simp (disch := omega) only [do_X6_grip, rX6_grip_0, rX6_grip_1, rX6_grip_2, rX6_grip_3, rX6_grip_4, rX6_grip_7, rX6_grip_9, rX6_grip_12, rX6_grip_13, rX6_grip_16, rX6_grip_17, rX6_grip_20, rX6_grip_23, rX6_grip_24, rX6_grip_27, rX6_grip_28, rX6_grip_29, rX6_grip_32, rX6_grip_34, rX6_grip_36, rX6_grip_39, rX6_grip_41, rX6_grip_44, rX6_grip_45, rX6_grip_48, rX6_grip_49, rX6_grip_52, rX6_grip_55, rX6_grip_56, rX6_grip_59, gS_134, hg, s0, t0, hP.1, hk, h5, h7, c1, c2, e134, eP, h9, h6, ne_eq, not_false_eq_true, not_true_eq_false, true_and, and_true, and_self, true_imp_iff, false_imp_iff, imp_self, Bool.not_false, Bool.not_true, reduceCtorEq, ab_isJ, ab_psh, ab_cats, Bool.false_eq_true, if_true, if_false, ab_shf, ab_shw, Int.le_refl, Classical.not_not, Int.zero_add, Int.add_zero, forall_const, ↓ab_itT, ↓ab_itF, ab_anT, ab_w32_id, ab_rdf_ne, ab_rdw_ne, ab_rdw_eq, ab_rdf_in, ab_td2, ab_tm2]
    · rw [if_neg hm]
      simp (disch := omega) only [do_X6_grip, rX6_grip_0, rX6_grip_1, rX6_grip_2, rX6_grip_3, rX6_grip_4, rX6_grip_7, rX6_grip_9, rX6_grip_12, rX6_grip_13, rX6_grip_16, rX6_grip_17, rX6_grip_20, rX6_grip_23, rX6_grip_24, rX6_grip_27, rX6_grip_28, rX6_grip_29, rX6_grip_32, rX6_grip_34, rX6_grip_36, rX6_grip_39, rX6_grip_41, rX6_grip_44, rX6_grip_45, rX6_grip_48, rX6_grip_49, rX6_grip_52, rX6_grip_55, rX6_grip_56, rX6_grip_59, gS_134, hg, s0, t0, hP.1, hk, h5, h7, c1, c2, e134, eP, h9, h6, ne_eq, not_false_eq_true, not_true_eq_false, true_and, and_true, and_self, true_imp_iff, false_imp_iff, imp_self, Bool.not_false, Bool.not_true, reduceCtorEq, ab_isJ, ab_psh, ab_cats, Bool.false_eq_true, if_true, if_false, ab_shf, ab_shw, Int.le_refl, Classical.not_not, Int.zero_add, Int.add_zero, forall_const, ↓ab_itT, ↓ab_itF, ab_anT, ab_w32_id, ab_rdf_ne, ab_rdw_ne, ab_rdw_eq, ab_rdf_in, ab_td2, ab_tm2]
end
