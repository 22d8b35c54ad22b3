/-! THE CLASS: strength, hand, side, known, hens, thumbs -/
section
variable {X : ab_X} {σ τ : ab_S} {Q : Option ab_V → ab_S → Prop} {A B K : Int} {κ : ac_K} {v : Int → Int} {d b p hp q hq mv arm k w lo n : Int}
theorem sp_setStrain_any {n force hold jerk : Int} (hA : ab_ArmG σ A) (hn : ab_rd σ A 0 = n) (hn6 : n ≤ 6) (hQ : ∀ g, Q none (ab_fl σ (A + 1) n g)) : ∀ (d : Nat) (i : Int) (g : Int → Int), 0 ≤ i → i + d = n → ab_Run X 2 3 (0, 0, 0) [ab_R A, ab_I force, ab_I hold, ab_I jerk, ab_I i] [] (ab_fl σ (A + 1) i g) Q := by
  intro d
  obtain ⟨hb, s0, s1, s2, s3, s4, s5, p1, p2, p3, p4, p5⟩ := hA
  induction d with
  | zero =>
    intro i g hi hd
    have e : i = n := by omega
    subst e
    rw [rX0_setStrain_3]
    simp (disch := omega) only [rX0_setStrain_5, rX0_setStrain_6, rX0_setStrain_9, rX0_setStrain_43, hn, s0, ne_eq, not_false_eq_true, not_true_eq_false, true_and, and_true, and_self, true_imp_iff, false_imp_iff, imp_self, Bool.not_false, Bool.not_true, reduceCtorEq, ab_isJ, ab_psh, ab_cats, Bool.false_eq_true, if_true, if_false, ab_shf, ab_shw, Int.le_refl, Classical.not_not, Int.zero_add, Int.add_zero, forall_const, ↓ab_itT, ↓ab_itF, ab_anT, ab_w32_id, ab_rdf_ne, ab_rdw_ne, ab_rdw_eq, ab_rdf_in, ab_td2, ab_tm2]
    exact hQ g
  | succ d ih =>
    intro i g hi hd
    have key : ∀ x, ab_Run X 2 3 (0, 0, 0) [ab_R A, ab_I force, ab_I hold, ab_I jerk, ab_I (i + 1)] [] (ab_wr (ab_fl σ (A + 1) i g) (A + 1) i x) Q := by
      intro x
      have e : ab_wr (ab_fl σ (A + 1) i g) (A + 1) i x = ab_fl σ (A + 1) (i + 1) (fun y => if y = i then x else g y) := by
        have e1 : ab_fl σ (A + 1) i g = ab_fl σ (A + 1) i (fun y => if y = i then x else g y) := ab_fl_congr (fun y h1 h2 => by rw [if_neg (by omega)])
        have e2 := ab_fl_succ (σ := σ) (a := A + 1) (n := i) (g := fun y => if y = i then x else g y) hi
        have e3 : (fun y => if y = i then x else g y) i = x := if_pos rfl
        rw [e1]
        exact (congrArg (ab_wr _ (A + 1) i) e3.symm).trans e2
      rw [e]
      exact ih (i + 1) _ (by omega) (by omega)
    rw [rX0_setStrain_3]
    by_cases h : i < hold
    · simp (disch := omega) only [rX0_setStrain_5, rX0_setStrain_6, rX0_setStrain_9, rX0_setStrain_12, rX0_setStrain_13, rX0_setStrain_16, rX0_setStrain_18, rX0_setStrain_20, rX0_setStrain_21, rX0_setStrain_24, rX0_setStrain_25, rX0_setStrain_26, rX0_setStrain_28, rX0_setStrain_29, rX0_setStrain_30, rX0_setStrain_31, rX0_setStrain_32, rX0_setStrain_35, rX0_setStrain_36, rX0_setStrain_37, rX0_setStrain_40, hn, p1, s0, s1, ne_eq, not_false_eq_true, not_true_eq_false, true_and, and_true, and_self, true_imp_iff, false_imp_iff, imp_self, Bool.not_false, Bool.not_true, reduceCtorEq, ab_isJ, ab_psh, ab_cats, Bool.false_eq_true, if_true, if_false, ab_shf, ab_shw, Int.le_refl, Classical.not_not, Int.zero_add, Int.add_zero, forall_const, ↓ab_itT, ↓ab_itF, ab_anT, ab_w32_id, ab_rdf_ne, ab_rdw_ne, ab_rdw_eq, ab_rdf_in, ab_td2, ab_tm2]
      all_goals exact key _
    · simp (disch := omega) only [rX0_setStrain_5, rX0_setStrain_6, rX0_setStrain_9, rX0_setStrain_12, rX0_setStrain_13, rX0_setStrain_16, rX0_setStrain_18, rX0_setStrain_20, rX0_setStrain_21, rX0_setStrain_24, rX0_setStrain_25, rX0_setStrain_26, rX0_setStrain_28, rX0_setStrain_29, rX0_setStrain_30, rX0_setStrain_31, rX0_setStrain_32, rX0_setStrain_35, rX0_setStrain_36, rX0_setStrain_37, rX0_setStrain_40, hn, p1, s0, s1, ne_eq, not_false_eq_true, not_true_eq_false, true_and, and_true, and_self, true_imp_iff, false_imp_iff, imp_self, Bool.not_false, Bool.not_true, reduceCtorEq, ab_isJ, ab_psh, ab_cats, Bool.false_eq_true, if_true, if_false, ab_shf, ab_shw, Int.le_refl, Classical.not_not, Int.zero_add, Int.add_zero, forall_const, ↓ab_itT, ↓ab_itF, ab_anT, ab_w32_id, ab_rdf_ne, ab_rdw_ne, ab_rdw_eq, ab_rdf_in, ab_td2, ab_tm2]
      all_goals exact key _
theorem sp_gripS {n arm tg tb fc jk hold P kd : Int} (hg : ab_Geo σ) (hAr : ab_arm A) (hB : ac_BoneG σ B) (ha : arm = 0 ∨ arm = 1) (hP : ab_sh σ P = (6, 0) ∧ (25 ≤ P ∧ P ≤ 30 ∨ 349 ≤ P ∧ P ≤ 354)) (hn : ab_rd σ (B + 1) arm = n) (hn6 : 0 ≤ n ∧ n ≤ 6) (hth : ∀ i, 0 ≤ i → i < n → 0 ≤ ab_rd σ (B + 2) (6 * arm + i) ∧ ab_rd σ (B + 2) (6 * arm + i) ≤ 9)
    (h5 : ab_rd σ 134 5 = tg) (h7 : ab_rd σ 134 7 = tb) (h9 : ab_rd σ 134 9 = fc) (h6 : ab_rd σ 134 6 = jk) (hk : ab_rd σ P 1 = kd) (h2 : 0 ≤ tg ∧ tg ≤ 60) (h3 : 0 ≤ tb ∧ tb ≤ 99) (hQ : ∀ g, Q none (ab_fl (ab_fl (ab_wr σ A 0 n) (A + 2) n (ac_str (fun i => ab_rd σ (B + 2) (6 * arm + i)) tg (if kd = 3 then tb else 0))) (A + 1) n g)) : ab_Do X 35 [ab_R 134, ab_R A, ab_R B, ab_I arm, ab_R P, ab_I hold, ab_I 0] σ Q := by
  have hA := hg.arm hAr
  have hA' := hA
  obtain ⟨hz, s0, s1, s2, s3, s4, s5, p1, p2, p3, p4, p5⟩ := hA'
  have hB' := hB
  obtain ⟨hzb, t0, t1, t2, q3, q4⟩ := hB'
  have tbb : 0 ≤ (if kd = 3 then tb else 0) ∧ (if kd = 3 then tb else 0) ≤ 99 := by split <;> omega
  have e134 : ∀ f g, ab_rd (ab_fl (ab_wr σ A 0 n) (A + 2) n g) 134 f = ab_rd σ 134 f := fun f g => by rw [ab_rdf_ne (by omega), ab_rdw_ne (by omega)]
  have eP : ∀ f g, ab_rd (ab_fl (ab_wr σ A 0 n) (A + 2) n g) P f = ab_rd σ P f := fun f g => by rw [ab_rdf_ne (by omega), ab_rdw_ne (by omega)]
  have c1 := fun Q' => sp_setPlaces (X := X) (Q := Q') (tg := tg) (tb := (if kd = 3 then tb else 0)) hA hB ha hn hn6 hth h2 tbb
  have c2 : ∀ J (Q' : Option ab_V → ab_S → Prop), (∀ g, Q' none (ab_fl (ab_fl (ab_wr σ A 0 n) (A + 2) n (ac_str (fun i => ab_rd σ (B + 2) (6 * arm + i)) tg (if kd = 3 then tb else 0))) (A + 1) n g)) → ab_Do X 2 [ab_R A, ab_I fc, ab_I hold, ab_I J] (ab_fl (ab_wr σ A 0 n) (A + 2) n (ac_str (fun i => ab_rd σ (B + 2) (6 * arm + i)) tg (if kd = 3 then tb else 0))) Q' := by
    intro J Q' hQ
    have := sp_setStrain_any (X := X) (Q := Q') (force := fc) (hold := hold) (jerk := J) (ab_ArmG.fl (ab_ArmG.wr hA (Or.inr (Int.le_refl 0))) (show A + 2 ≠ A by omega)) (show ab_rd (ab_fl (ab_wr σ A 0 n) (A + 2) n (ac_str (fun i => ab_rd σ (B + 2) (6 * arm + i)) tg (if kd = 3 then tb else 0))) A 0 = n by rw [ab_rdf_ne (by omega), ab_rdw_eq]) hn6.2 hQ n.toNat 0 (fun _ => 0) (by omega) (by omega)
    rw [ab_fl0 (Int.le_refl 0)] at this
    simp only [do_X0_setStrain, rX0_setStrain_0, rX0_setStrain_1, ab_isJ, Bool.not_false, true_and]
    exact this
  by_cases k3 : kd = 3
  · rw [if_pos k3] at c1 c2 hQ
    simp (disch := omega) only [do_X6_grip, rX6_grip_0, rX6_grip_1, rX6_grip_2, rX6_grip_3, rX6_grip_4, rX6_grip_7, rX6_grip_9, rX6_grip_12, rX6_grip_13, rX6_grip_16, rX6_grip_17, rX6_grip_20, rX6_grip_23, rX6_grip_24, rX6_grip_27, rX6_grip_28, rX6_grip_29, rX6_grip_32, rX6_grip_34, rX6_grip_36, rX6_grip_39, rX6_grip_41, rX6_grip_44, rX6_grip_45, rX6_grip_48, rX6_grip_49, rX6_grip_52, rX6_grip_55, rX6_grip_56, rX6_grip_59, gS_134, hg, s0, t0, hP.1, hk, h5, h7, c1, e134, eP, h9, h6, ne_eq, not_false_eq_true, not_true_eq_false, true_and, and_true, and_self, true_imp_iff, false_imp_iff, imp_self, Bool.not_false, Bool.not_true, reduceCtorEq, ab_isJ, ab_psh, ab_cats, Bool.false_eq_true, if_true, if_false, ab_shf, ab_shw, Int.le_refl, Classical.not_not, Int.zero_add, Int.add_zero, forall_const, ↓ab_itT, ↓ab_itF, ab_anT, ab_w32_id, ab_rdf_ne, ab_rdw_ne, ab_rdw_eq, ab_rdf_in, ab_td2, ab_tm2]
    refine c2 _ _ (fun g => ?_)
    simp only [rX6_grip_59]
    exact hQ g
  · rw [if_neg k3] at c1 c2 hQ
    by_cases k2 : kd = 2
    · simp (disch := omega) only [do_X6_grip, rX6_grip_0, rX6_grip_1, rX6_grip_2, rX6_grip_3, rX6_grip_4, rX6_grip_7, rX6_grip_9, rX6_grip_12, rX6_grip_13, rX6_grip_16, rX6_grip_17, rX6_grip_20, rX6_grip_23, rX6_grip_24, rX6_grip_27, rX6_grip_28, rX6_grip_29, rX6_grip_32, rX6_grip_34, rX6_grip_36, rX6_grip_39, rX6_grip_41, rX6_grip_44, rX6_grip_45, rX6_grip_48, rX6_grip_49, rX6_grip_52, rX6_grip_55, rX6_grip_56, rX6_grip_59, gS_134, hg, s0, t0, hP.1, hk, h5, h7, c1, e134, eP, h9, h6, ne_eq, not_false_eq_true, not_true_eq_false, true_and, and_true, and_self, true_imp_iff, false_imp_iff, imp_self, Bool.not_false, Bool.not_true, reduceCtorEq, ab_isJ, ab_psh, ab_cats, Bool.false_eq_true, if_true, if_false, ab_shf, ab_shw, Int.le_refl, Classical.not_not, Int.zero_add, Int.add_zero, forall_const, ↓ab_itT, ↓ab_itF, ab_anT, ab_w32_id, ab_rdf_ne, ab_rdw_ne, ab_rdw_eq, ab_rdf_in, ab_td2, ab_tm2]
      refine c2 _ _ (fun g => ?_)
      simp only [rX6_grip_59]
      exact hQ g
    · simp (disch := omega) only [do_X6_grip, rX6_grip_0, rX6_grip_1, rX6_grip_2, rX6_grip_3, rX6_grip_4, rX6_grip_7, rX6_grip_9, rX6_grip_12, rX6_grip_13, rX6_grip_16, rX6_grip_17, rX6_grip_20, rX6_grip_23, rX6_grip_24, rX6_grip_27, rX6_grip_28, rX6_grip_29, rX6_grip_32, rX6_grip_34, rX6_grip_36, rX6_grip_39, rX6_grip_41, rX6_grip_44, rX6_grip_45, rX6_grip_48, rX6_grip_49, rX6_grip_52, rX6_grip_55, rX6_grip_56, rX6_grip_59, gS_134, hg, s0, t0, hP.1, hk, h5, h7, c1, e134, eP, h9, h6, ne_eq, not_false_eq_true, not_true_eq_false, true_and, and_true, and_self, true_imp_iff, false_imp_iff, imp_self, Bool.not_false, Bool.not_true, reduceCtorEq, ab_isJ, ab_psh, ab_cats, Bool.false_eq_true, if_true, if_false, ab_shf, ab_shw, Int.le_refl, Classical.not_not, Int.zero_add, Int.add_zero, forall_const, ↓ab_itT, ↓ab_itF, ab_anT, ab_w32_id, ab_rdf_ne, ab_rdw_ne, ab_rdw_eq, ab_rdf_in, ab_td2, ab_tm2]
      refine c2 _ _ (fun g => ?_)
      simp only [rX6_grip_59]
      exact hQ g
theorem cq_strength (h : ac_CI σ K κ) (hS : ac_St σ 31 κ v) (hV : ac_VB κ v) (hQ : ∀ τ, ab_Same ac_PC σ τ → ab_rd τ 1 8 = ac_sT κ b arm k p → Q (some (ab_I (if ac_sT κ b arm k p = 0 then ac_S κ (v (5 + b)) b arm p k else -1))) τ) : ab_Do X 87 [ab_R 1, ab_I b, ab_I arm, ab_I k, ab_I p] σ Q := by
  have c := fun b Q' => sp_isPerson (X := X) (Q := Q') (b := b) h
  have c1 := fun b arm k Q' => sp_isPlace (X := X) (Q := Q') (b := b) (arm := arm) (k := k) h
  have g := h.1
  have h7 := h.2.1
  by_cases hl : ac_isL κ b arm k
  · by_cases hp : ac_isP κ p
    · have eT : ac_sT κ b arm k p = 0 := if_pos ⟨hl, hp⟩
      rw [eT, if_pos rfl] at hQ
      have hb := hl.1
      have hk := h.kk hb
      have ha := hl.2.1
      have hh := h.same (ac_t8 (t := 0))
      have t1 : ab_rd (ab_wr σ 1 8 0) 32 b = v b := by rw [ab_rdw_ne (by omega)]; exact (hS.1 b hb.1 hb.2).1
      have t2 : ab_rd (ab_wr σ 1 8 0) 33 b = v (5 + b) := by rw [ab_rdw_ne (by omega)]; exact (hS.1 b hb.1 hb.2).2.1
      have vb := (hV.1 b hb.1 hb.2).2
      have c2 := fun Q' => sp_takeNow (X := X) (Q := Q') hh.1 hh.2.1 hh.2.2.1 hk hb t1 t2 vb
      have sT := (ac_t8 (σ := σ) (t := 0)).trans (ac_tk_same (σ := ab_wr σ 1 8 0) (κ := κ) (kd := v b) (d := v (5 + b)))
      have eTk := ac_tk_Tk (σ := ab_wr σ 1 8 0) (κ := κ) (kd := v b) (d := v (5 + b))
      have e8 : ab_rd (ac_tk (ab_wr σ 1 8 0) κ (v b) (v (5 + b))) 1 8 = 0 := by rw [ac_tk_rd (by omega), ab_rdw_eq]
      generalize ac_tk (ab_wr σ 1 8 0) κ (v b) (v (5 + b)) = υ at c2 sT eTk e8
      have hu := h.same sT
      have gu := hu.1
      have hC := hu.2.2.1
      have h7u := hu.2.1
      have n5 := h.2.2.2.1.1.2
      have n6 := h.2.2.2.1.2.1.2
      have hv : K = 5 ∨ K = 329 := hC.1
      obtain ⟨s0, s1, s2, s3, s4, p6, p8, -, -⟩ := gu.kit hC.1
      have gB := gu.bone hC.1 hb.1 (by omega)
      have gP := gu.pers hC.1 hp.1 (by omega)
      have eb := (hC.2.2.2.1 b hb.1 hb.2).2.2 arm ha
      have ep := (hC.2.2.2.2.1 p hp.1 hp.2).1
      have nb := ac_n_b hk hb ha
      have k3 := hk.1.2.2.2.1
      have k1 := hk.1.2.1
      have th := fun i h1 h2 => ((hk.2.2.1.1 b hb.1 hb.2).2.2 arm ha).2 i h1 h2
      have hth : ∀ i, 0 ≤ i → i < ac_n κ b arm → 0 ≤ ab_rd υ (K + 5 + 3 * b + 2) (6 * arm + i) ∧ ab_rd υ (K + 5 + 3 * b + 2) (6 * arm + i) ≤ 9 := fun i h1 h2 => by
        rw [eb.2 i h1 h2]
        have := th i h1 h2
        omega
      have hA := gu.arm (Or.inl rfl : ab_arm 135)
      have s135 := hA.2.1
      have qB := gB.1.2.1
      simp (disch := omega) only [do_X11_strength, rX11_strength_0, rX11_strength_1, rX11_strength_2, rX11_strength_3, rX11_strength_4, rX11_strength_5, rX11_strength_8, rX11_strength_11, rX11_strength_12, rX11_strength_14, rX11_strength_17, rX11_strength_20, rX11_strength_21, rX11_strength_24, rX11_strength_25, rX11_strength_28, rX11_strength_29, rX11_strength_32, rX11_strength_35, rX11_strength_36, rX11_strength_37, rX11_strength_38, rX11_strength_39, rX11_strength_42, rX11_strength_43, rX11_strength_46, rX11_strength_49, rX11_strength_51, rX11_strength_52, rX11_strength_55, rX11_strength_57, rX11_strength_58, rX11_strength_61, rX11_strength_64, rX11_strength_65, rX11_strength_66, rX11_strength_67, rX11_strength_68, rX11_strength_71, rX11_strength_74, rX11_strength_76, rX11_strength_77, rX11_strength_78, rX11_strength_79, gS_1, gP_1_3, gS_134, gP_134_0, g, gu, c, c1, if_pos hl, if_pos hp, c2, h7u, s0, s1, s2, p6, p8, gB.2, gP.1, gP.2, qB, s135, ne_eq, not_false_eq_true, not_true_eq_false, true_and, and_true, and_self, true_imp_iff, false_imp_iff, imp_self, Bool.not_false, Bool.not_true, reduceCtorEq, ab_isJ, ab_psh, ab_cats, Bool.false_eq_true, if_true, if_false, ab_shf, ab_shw, Int.le_refl, Classical.not_not, Int.zero_add, forall_const, ↓ab_itT, ↓ab_itF, ab_anT, ab_w32_id, ab_rdf_ne, ab_rdw_ne, ab_rdw_eq, ab_rdf_in, ab_td2, ab_tm2]
      refine sp_gripS (n := ac_n κ b arm) gu (Or.inl rfl) gB.1 ha ⟨gP.1, by omega⟩ eb.1 (by omega) hth eTk.1 eTk.2.2 rfl eTk.2.1 ep (by omega) k3 (fun g2 => ?_)
      have hk1 := hl.2.2
      have n0 : ac_n κ b arm = κ 14 (2 * b + arm) := rfl
      have sE : ab_Same ac_PC σ (ab_fl (ab_fl (ab_wr υ 135 0 (ac_n κ b arm)) (135 + 2) (ac_n κ b arm) (ac_str (fun i => ab_rd υ (K + 5 + 3 * b + 2) (6 * arm + i)) (κ 1 0 - v (5 + b)) (if κ 16 p = 3 then κ 3 0 else 0))) (135 + 1) (ac_n κ b arm) g2) := ((sT.wr (by unfold ac_PC; omega)).fl (fun y _ _ => by unfold ac_PC; omega)).fl (fun y _ _ => by unfold ac_PC; omega)
      have hq' := hQ _ sE (by rw [ab_rdf_ne (by omega), ab_rdf_ne (by omega), ab_rdw_ne (by omega), e8])
      have e : ab_rd (ab_fl (ab_fl (ab_wr υ 135 0 (ac_n κ b arm)) (135 + 2) (ac_n κ b arm) (ac_str (fun i => ab_rd υ (K + 5 + 3 * b + 2) (6 * arm + i)) (κ 1 0 - v (5 + b)) (if κ 16 p = 3 then κ 3 0 else 0))) (135 + 1) (ac_n κ b arm) g2) 137 k = ac_S κ (v (5 + b)) b arm p k := by
        rw [ab_rdf_ne (by omega)]
        show ab_rd (ab_fl (ab_wr υ 135 0 (ac_n κ b arm)) 137 (ac_n κ b arm) _) 137 k = _
        rw [ab_rdf_in (by omega)]
        unfold ac_S ac_str
        dsimp only
        rw [eb.2 k hk1.1 hk1.2]
      have gE := (h.same sE).1
      simp (disch := omega) only [rX11_strength_82, rX11_strength_84, rX11_strength_87, rX11_strength_88, rX11_strength_89, gS_135, gP_135_2, gS_137, gE, e, ne_eq, not_false_eq_true, not_true_eq_false, true_and, and_true, and_self, true_imp_iff, false_imp_iff, imp_self, Bool.not_false, Bool.not_true, reduceCtorEq, ab_isJ, ab_psh, ab_cats, Bool.false_eq_true, if_true, if_false, ab_shf, ab_shw, Int.le_refl, Classical.not_not, Int.zero_add, forall_const, ↓ab_itT, ↓ab_itF, ab_anT, ab_w32_id, ab_rdf_ne, ab_rdw_ne, ab_rdw_eq, ab_rdf_in, ab_td2, ab_tm2]
      exact hq'
    · have eT : ac_sT κ b arm k p = 1 := if_neg (fun u => hp u.2)
      rw [eT, if_neg (by decide)] at hQ
      have hq' := hQ _ ac_cq8.1 ac_cq8.2
      simp (disch := omega) only [do_X11_strength, rX11_strength_0, rX11_strength_1, rX11_strength_2, rX11_strength_3, rX11_strength_4, rX11_strength_5, rX11_strength_8, rX11_strength_11, rX11_strength_12, rX11_strength_14, rX11_strength_17, rX11_strength_20, rX11_strength_21, rX11_strength_24, rX11_strength_25, rX11_strength_28, rX11_strength_29, rX11_strength_32, rX11_strength_35, rX11_strength_36, rX11_strength_37, rX11_strength_38, rX11_strength_39, rX11_strength_42, rX11_strength_43, rX11_strength_46, rX11_strength_49, rX11_strength_51, rX11_strength_52, rX11_strength_55, rX11_strength_57, rX11_strength_58, rX11_strength_61, rX11_strength_64, rX11_strength_65, rX11_strength_66, rX11_strength_67, rX11_strength_68, rX11_strength_71, rX11_strength_74, rX11_strength_76, rX11_strength_77, rX11_strength_78, rX11_strength_79, rX11_strength_82, rX11_strength_84, rX11_strength_87, rX11_strength_88, rX11_strength_89, gS_1, g, c, c1, if_pos hl, if_neg hp, ne_eq, not_false_eq_true, not_true_eq_false, true_and, and_true, and_self, true_imp_iff, false_imp_iff, imp_self, Bool.not_false, Bool.not_true, reduceCtorEq, ab_isJ, ab_psh, ab_cats, Bool.false_eq_true, if_true, if_false, ab_shf, ab_shw, Int.le_refl, Classical.not_not, Int.zero_add, forall_const, ↓ab_itT, ↓ab_itF, ab_anT, ab_w32_id, ab_rdf_ne, ab_rdw_ne, ab_rdw_eq, ab_rdf_in, ab_td2, ab_tm2]
      all_goals exact hq'
  · have eT : ac_sT κ b arm k p = 1 := if_neg (fun u => hl u.1)
    rw [eT, if_neg (by decide)] at hQ
    have hq' := hQ _ ac_cq8.1 ac_cq8.2
    simp (disch := omega) only [do_X11_strength, rX11_strength_0, rX11_strength_1, rX11_strength_2, rX11_strength_3, rX11_strength_4, rX11_strength_5, rX11_strength_8, rX11_strength_11, rX11_strength_12, rX11_strength_14, rX11_strength_17, rX11_strength_20, rX11_strength_21, rX11_strength_24, rX11_strength_25, rX11_strength_28, rX11_strength_29, rX11_strength_32, rX11_strength_35, rX11_strength_36, rX11_strength_37, rX11_strength_38, rX11_strength_39, rX11_strength_42, rX11_strength_43, rX11_strength_46, rX11_strength_49, rX11_strength_51, rX11_strength_52, rX11_strength_55, rX11_strength_57, rX11_strength_58, rX11_strength_61, rX11_strength_64, rX11_strength_65, rX11_strength_66, rX11_strength_67, rX11_strength_68, rX11_strength_71, rX11_strength_74, rX11_strength_76, rX11_strength_77, rX11_strength_78, rX11_strength_79, rX11_strength_82, rX11_strength_84, rX11_strength_87, rX11_strength_88, rX11_strength_89, gS_1, g, c1, if_neg hl, ne_eq, not_false_eq_true, not_true_eq_false, true_and, and_true, and_self, true_imp_iff, false_imp_iff, imp_self, Bool.not_false, Bool.not_true, reduceCtorEq, ab_isJ, ab_psh, ab_cats, Bool.false_eq_true, if_true, if_false, ab_shf, ab_shw, Int.le_refl, Classical.not_not, Int.zero_add, forall_const, ↓ab_itT, ↓ab_itF, ab_anT, ab_w32_id, ab_rdf_ne, ab_rdw_ne, ab_rdw_eq, ab_rdf_in, ab_td2, ab_tm2]
    all_goals exact hq'
end
