/-! READER of the reference: begins, names -/
section
variable {X : ab_X} {σ τ υ : ab_S} {Q : Option ab_V → ab_S → Prop} {n p s x y t i a b c0 k w pl lo hi M v told most : Int} {tp : Int → Int} {T : List Int} {κ : ac_K} {r : ar_R} {P : Int → Int → Prop}
theorem mq_begins5 (h : ac_RF σ w pl) (hR : ar_MR σ M κ) : ab_Do X 181 [ab_R 355, ab_I told, ab_I most] σ Q ↔ Q none σ := by
  have g := h.1
  have h4 := hR.1
  have hM := hR.2.1.1
  have s0 := mS hR.2.1
  have c1 := fun Q' => mq_goesOn5 (X := X) (Q := Q') h.1 h.2.1
  have c2 := fun k Q' => mq_flaw5 (X := X) (Q := Q') (k := k) h
  clear h hR
  by_cases z : told = most
  · by_cases y : ab_rd σ M 11 = 0
    · simp (disch := omega) only [do_X13_begins, rX13_begins_0, rX13_begins_1, rX13_begins_2, rX13_begins_5, rX13_begins_6, rX13_begins_7, rX13_begins_10, rX13_begins_11, rX13_begins_14, rX13_begins_17, rX13_begins_20, rX13_begins_21, rX13_begins_23, rX13_begins_26, rX13_begins_27, rX13_begins_30, gS_355, g, h4, s0, c1, c2, ne_eq, not_false_eq_true, not_true_eq_false, true_and, and_true, and_self, true_imp_iff, false_imp_iff, imp_self, Bool.not_false, Bool.not_true, reduceCtorEq, ab_isJ, ab_psh, ab_cats, Bool.false_eq_true, if_true, if_false, ab_shf, ab_shw, Int.le_refl, Classical.not_not, Int.zero_add, forall_const, ↓ab_itT, ↓ab_itF, ab_anT, ab_w32_id, ab_rdf_ne, ab_rdw_ne, ab_rdw_eq, ab_rdf_in, ab_td2, ab_tm2, true_or, or_true]
    · simp (disch := omega) only [do_X13_begins, rX13_begins_0, rX13_begins_1, rX13_begins_2, rX13_begins_5, rX13_begins_6, rX13_begins_7, rX13_begins_10, rX13_begins_11, rX13_begins_14, rX13_begins_17, rX13_begins_26, rX13_begins_27, rX13_begins_30, gS_355, g, h4, s0, c1, c2, ne_eq, not_false_eq_true, not_true_eq_false, true_and, and_true, and_self, true_imp_iff, false_imp_iff, imp_self, Bool.not_false, Bool.not_true, reduceCtorEq, ab_isJ, ab_psh, ab_cats, Bool.false_eq_true, if_true, if_false, ab_shf, ab_shw, Int.le_refl, Classical.not_not, Int.zero_add, forall_const, ↓ab_itT, ↓ab_itF, ab_anT, ab_w32_id, ab_rdf_ne, ab_rdw_ne, ab_rdw_eq, ab_rdf_in, ab_td2, ab_tm2, true_or, or_true]
  · by_cases y : ab_rd σ M 11 = 0
    · simp (disch := omega) only [do_X13_begins, rX13_begins_0, rX13_begins_1, rX13_begins_2, rX13_begins_10, rX13_begins_11, rX13_begins_14, rX13_begins_17, rX13_begins_20, rX13_begins_21, rX13_begins_23, rX13_begins_26, rX13_begins_27, rX13_begins_30, gS_355, g, h4, s0, c1, c2, ne_eq, not_false_eq_true, not_true_eq_false, true_and, and_true, and_self, true_imp_iff, false_imp_iff, imp_self, Bool.not_false, Bool.not_true, reduceCtorEq, ab_isJ, ab_psh, ab_cats, Bool.false_eq_true, if_true, if_false, ab_shf, ab_shw, Int.le_refl, Classical.not_not, Int.zero_add, forall_const, ↓ab_itT, ↓ab_itF, ab_anT, ab_w32_id, ab_rdf_ne, ab_rdw_ne, ab_rdw_eq, ab_rdf_in, ab_td2, ab_tm2, true_or, or_true]
    · simp (disch := omega) only [do_X13_begins, rX13_begins_0, rX13_begins_1, rX13_begins_2, rX13_begins_10, rX13_begins_11, rX13_begins_14, rX13_begins_17, rX13_begins_26, rX13_begins_27, rX13_begins_30, gS_355, g, h4, s0, c1, c2, ne_eq, not_false_eq_true, not_true_eq_false, true_and, and_true, and_self, true_imp_iff, false_imp_iff, imp_self, Bool.not_false, Bool.not_true, reduceCtorEq, ab_isJ, ab_psh, ab_cats, Bool.false_eq_true, if_true, if_false, ab_shf, ab_shw, Int.le_refl, Classical.not_not, Int.zero_add, forall_const, ↓ab_itT, ↓ab_itF, ab_anT, ab_w32_id, ab_rdf_ne, ab_rdw_ne, ab_rdw_eq, ab_rdf_in, ab_td2, ab_tm2, true_or, or_true]
theorem mq_enterE {c : Int → ar_R} (h : ac_RM σ n tp s) (hR : ar_MR σ M κ) (hk1 : ac_kk tp n s ≠ 1) (h01 : κ 11 0 = 0 ∨ κ 11 0 = 1) (hm : told ≤ most) (hz : κ 11 0 = 0 → told < most) (er : pr_enter tp n κ told most s c = r) (hF : ∀ w pl, r = .inl (w, pl) → ∀ τ, ab_Same ac_PV σ τ → ac_RF τ w pl → Q none τ) (hO : κ 11 0 = 1 → told < most → c (ac_nx tp n s) = r → ∀ τ, ab_Same ac_PV σ τ → ac_RM τ n tp (ac_nx tp n s) → Q none τ) : ab_Do X 181 [ab_R 355, ab_I told, ab_I most] σ Q := by
  have g := h.1.1
  have h4 := hR.1
  have hM := hR.2.1.1
  have s0 := mS hR.2.1
  have c11 := hR.2.2.1 11 (by omega) (by omega)
  have c2 := fun k Q' => mq_flaw (X := X) (Q := Q') (k := k) h
  unfold pr_enter at er
  by_cases z : κ 11 0 = 1
  · rw [if_pos z] at er
    rw [z] at c11
    by_cases y : told < most
    · rw [if_pos y] at er
      have key : ab_Do X 171 [ab_R 355] σ (fun r σ' => ab_Run X 181 30 (2, 0, 0) [ab_R 355, ab_I told, ab_I most] (ab_psh r []) σ' Q) := by
        refine mq_goesOnR h hk1 (fun τ u1 u2 => ?_)
        have kq := hO z y er τ (u1.mono (fun _ _ => ac_PU_V)) u2
        clear hF hO c2
        simp (disch := omega) only [rX13_begins_30, ne_eq, not_false_eq_true, not_true_eq_false, true_and, and_true, and_self, true_imp_iff, false_imp_iff, imp_self, Bool.not_false, Bool.not_true, reduceCtorEq, ab_isJ, ab_psh, ab_cats, Bool.false_eq_true, if_true, if_false, ab_shf, ab_shw, Int.le_refl, Classical.not_not, Int.zero_add, forall_const, ↓ab_itT, ↓ab_itF, ab_anT, ab_w32_id, ab_rdf_ne, ab_rdw_ne, ab_rdw_eq, ab_rdf_in, ab_td2, ab_tm2, true_or, or_true]
        all_goals exact kq
      clear hF hO h hR er c2
      simp (disch := omega) only [do_X13_begins, rX13_begins_0, rX13_begins_1, rX13_begins_2, rX13_begins_10, rX13_begins_11, rX13_begins_14, rX13_begins_17, rX13_begins_26, rX13_begins_27, gS_355, g, h4, s0, c11, ne_eq, not_false_eq_true, not_true_eq_false, true_and, and_true, and_self, true_imp_iff, false_imp_iff, imp_self, Bool.not_false, Bool.not_true, reduceCtorEq, ab_isJ, ab_psh, ab_cats, Bool.false_eq_true, if_true, if_false, ab_shf, ab_shw, Int.le_refl, Classical.not_not, Int.zero_add, forall_const, ↓ab_itT, ↓ab_itF, ab_anT, ab_w32_id, ab_rdf_ne, ab_rdw_ne, ab_rdw_eq, ab_rdf_in, ab_td2, ab_tm2, true_or, or_true]
      all_goals exact key
    · rw [if_neg y] at er
      have f := ac_flw (k := 5) h
      have kq := hF 5 s er.symm _ f.2 f.1
      have gF := f.1.1
      have c1 := fun Q' => mq_goesOn5 (X := X) (Q := Q') f.1.1 f.1.2.1
      have c11' : ab_rd (ab_wr (ab_wr (ab_wr σ 355 13 5) 355 14 s) 355 9 5) M 11 = 1 := by rw [f.2.2.2 M 11 (fun u => by unfold ac_PV at u; omega), c11]
      have h4' : ab_rd (ab_wr (ab_wr (ab_wr σ 355 13 5) 355 14 s) 355 9 5) 355 4 = M := by rw [f.2.2.2 355 4 (fun u => by unfold ac_PV at u; omega), h4]
      clear hF hO h hR er f
      simp (disch := omega) only [do_X13_begins, rX13_begins_0, rX13_begins_1, rX13_begins_2, rX13_begins_5, rX13_begins_6, rX13_begins_7, rX13_begins_10, rX13_begins_11, rX13_begins_14, rX13_begins_17, rX13_begins_26, rX13_begins_27, rX13_begins_30, gS_355, g, gF, h4', s0, c11', c1, c2, ne_eq, not_false_eq_true, not_true_eq_false, true_and, and_true, and_self, true_imp_iff, false_imp_iff, imp_self, Bool.not_false, Bool.not_true, reduceCtorEq, ab_isJ, ab_psh, ab_cats, Bool.false_eq_true, if_true, if_false, ab_shf, ab_shw, Int.le_refl, Classical.not_not, Int.zero_add, forall_const, ↓ab_itT, ↓ab_itF, ab_anT, true_or, or_true]
      all_goals exact kq
  · rw [if_neg z] at er
    have z0 : κ 11 0 = 0 := by omega
    have y := hz z0
    rw [z0] at c11
    have f := ac_flw (k := 6) h
    have kq := hF 6 s er.symm _ f.2 f.1
    have gF := f.1.1
    have c1 := fun Q' => mq_goesOn5 (X := X) (Q := Q') f.1.1 f.1.2.1
    clear hF hO h hR er f
    simp (disch := omega) only [do_X13_begins, rX13_begins_0, rX13_begins_1, rX13_begins_2, rX13_begins_10, rX13_begins_11, rX13_begins_14, rX13_begins_17, rX13_begins_20, rX13_begins_21, rX13_begins_23, rX13_begins_26, rX13_begins_27, rX13_begins_30, gS_355, g, gF, h4, s0, c11, c1, c2, ne_eq, not_false_eq_true, not_true_eq_false, true_and, and_true, and_self, true_imp_iff, false_imp_iff, imp_self, Bool.not_false, Bool.not_true, reduceCtorEq, ab_isJ, ab_psh, ab_cats, Bool.false_eq_true, if_true, if_false, ab_shf, ab_shw, Int.le_refl, Classical.not_not, Int.zero_add, forall_const, ↓ab_itT, ↓ab_itF, ab_anT, true_or, or_true]
    all_goals exact kq
theorem mq_fresh5 (h : ac_RF σ w pl) (hR : ar_MR σ M κ) (hn : 0 ≤ κ 10 0 ∧ κ 10 0 ≤ 11) : ab_Do X 182 [ab_R 355] σ Q ↔ Q (some (ab_J (ab_rd σ 355 15))) σ := by
  have g := h.1
  have h4 := hR.1
  have hM := hR.2.1.1
  have s0 := mS hR.2.1
  have c1 := fun Q' => mq_goesOn5 (X := X) (Q := Q') h.1 h.2.1
  have c2 := fun k Q' => mq_flaw5 (X := X) (Q := Q') (k := k) h
  have c3 := fun Q' => mq_isName5 (X := X) (Q := Q') h.1 h.2.1
  have c4 := fun w Q' => mq_find (X := X) (Q := Q') (w := w) hR hn
  have c4 := fun Q' => c4 (ab_rd σ 355 15) Q'
  clear h hR
  generalize ar_fnd κ (ab_rd σ 355 15) = z at c4
  by_cases y : z = -1
  · simp (disch := omega) only [do_X13_readFresh, rX13_readFresh_0, rX13_readFresh_1, rX13_readFresh_4, rX13_readFresh_7, rX13_readFresh_8, rX13_readFresh_9, rX13_readFresh_12, rX13_readFresh_13, rX13_readFresh_16, rX13_readFresh_17, rX13_readFresh_20, rX13_readFresh_23, rX13_readFresh_24, rX13_readFresh_32, rX13_readFresh_33, rX13_readFresh_36, rX13_readFresh_37, rX13_readFresh_38, rX13_readFresh_41, rX13_readFresh_42, gS_355, g, h4, s0, c1, c2, c3, c4, ne_eq, not_false_eq_true, not_true_eq_false, true_and, and_true, and_self, true_imp_iff, false_imp_iff, imp_self, Bool.not_false, Bool.not_true, reduceCtorEq, ab_isJ, ab_psh, ab_cats, Bool.false_eq_true, if_true, if_false, ab_shf, ab_shw, Int.le_refl, Classical.not_not, Int.zero_add, forall_const, ↓ab_itT, ↓ab_itF, ab_anT, ab_w32_id, ab_rdf_ne, ab_rdw_ne, ab_rdw_eq, ab_rdf_in, ab_td2, ab_tm2, true_or, or_true]
  · simp (disch := omega) only [do_X13_readFresh, rX13_readFresh_0, rX13_readFresh_1, rX13_readFresh_4, rX13_readFresh_7, rX13_readFresh_8, rX13_readFresh_9, rX13_readFresh_12, rX13_readFresh_13, rX13_readFresh_16, rX13_readFresh_17, rX13_readFresh_20, rX13_readFresh_23, rX13_readFresh_24, rX13_readFresh_27, rX13_readFresh_28, rX13_readFresh_29, rX13_readFresh_32, rX13_readFresh_33, rX13_readFresh_36, rX13_readFresh_37, rX13_readFresh_38, rX13_readFresh_41, rX13_readFresh_42, gS_355, g, h4, s0, c1, c2, c3, c4, ne_eq, not_false_eq_true, not_true_eq_false, true_and, and_true, and_self, true_imp_iff, false_imp_iff, imp_self, Bool.not_false, Bool.not_true, reduceCtorEq, ab_isJ, ab_psh, ab_cats, Bool.false_eq_true, if_true, if_false, ab_shf, ab_shw, Int.le_refl, Classical.not_not, Int.zero_add, forall_const, ↓ab_itT, ↓ab_itF, ab_anT, ab_w32_id, ab_rdf_ne, ab_rdw_ne, ab_rdw_eq, ab_rdf_in, ab_td2, ab_tm2, true_or, or_true]
/-- behind the name's test, flawed -/
theorem mq_fresh_t (h : ac_RF τ w pl) (hR : ar_MR τ M κ) (hn : 0 ≤ κ 10 0 ∧ κ 10 0 ≤ 11) (kq : Q (some (ab_J (ab_rd τ 355 15))) τ) {l1 l2 : ab_V} : ab_Run X 182 12 (13, 0, 0) [ab_R 355, ab_R 0, ab_R 0] [] τ Q := by
  have g := h.1
  have h4 := hR.1
  have hM := hR.2.1.1
  have s0 := mS hR.2.1
  have c1 := fun Q' => mq_goesOn5 (X := X) (Q := Q') h.1 h.2.1
  have c2 := fun k Q' => mq_flaw5 (X := X) (Q := Q') (k := k) h
  have c4 := fun w Q' => mq_find (X := X) (Q := Q') (w := w) hR hn
  have c4 := fun Q' => c4 (ab_rd τ 355 15) Q'
  clear h hR
  generalize ar_fnd κ (ab_rd τ 355 15) = z at c4
  by_cases y : z = -1
  · simp (disch := omega) only [rX13_readFresh_12, rX13_readFresh_13, rX13_readFresh_16, rX13_readFresh_17, rX13_readFresh_20, rX13_readFresh_23, rX13_readFresh_24, rX13_readFresh_32, rX13_readFresh_33, rX13_readFresh_36, rX13_readFresh_37, rX13_readFresh_38, rX13_readFresh_41, rX13_readFresh_42, gS_355, g, h4, s0, c1, c2, c4, ne_eq, not_false_eq_true, not_true_eq_false, true_and, and_true, and_self, true_imp_iff, false_imp_iff, imp_self, Bool.not_false, Bool.not_true, reduceCtorEq, ab_isJ, ab_psh, ab_cats, Bool.false_eq_true, if_true, if_false, ab_shf, ab_shw, Int.le_refl, Classical.not_not, Int.zero_add, forall_const, ↓ab_itT, ↓ab_itF, ab_anT, ab_w32_id, ab_rdf_ne, ab_rdw_ne, ab_rdw_eq, ab_rdf_in, ab_td2, ab_tm2, true_or, or_true]
    all_goals exact kq
  · simp (disch := omega) only [rX13_readFresh_12, rX13_readFresh_13, rX13_readFresh_16, rX13_readFresh_17, rX13_readFresh_20, rX13_readFresh_23, rX13_readFresh_24, rX13_readFresh_27, rX13_readFresh_28, rX13_readFresh_29, rX13_readFresh_32, rX13_readFresh_33, rX13_readFresh_36, rX13_readFresh_37, rX13_readFresh_38, rX13_readFresh_41, rX13_readFresh_42, gS_355, g, h4, s0, c1, c2, c4, ne_eq, not_false_eq_true, not_true_eq_false, true_and, and_true, and_self, true_imp_iff, false_imp_iff, imp_self, Bool.not_false, Bool.not_true, reduceCtorEq, ab_isJ, ab_psh, ab_cats, Bool.false_eq_true, if_true, if_false, ab_shf, ab_shw, Int.le_refl, Classical.not_not, Int.zero_add, forall_const, ↓ab_itT, ↓ab_itF, ab_anT, ab_w32_id, ab_rdf_ne, ab_rdw_ne, ab_rdw_eq, ab_rdf_in, ab_td2, ab_tm2, true_or, or_true]
    all_goals exact kq
theorem mq_newE {c : Int → ar_R} (h : ac_RM σ n tp s) (hR : ar_MR σ M κ) (hn : 0 ≤ κ 10 0 ∧ κ 10 0 ≤ 11) (er : pr_new tp n κ s c = r) (hF : ∀ w pl, r = .inl (w, pl) → ∀ τ, ab_Same ac_PV σ τ → ac_RF τ w pl → ∀ x, Q (some (ab_J x)) τ) (hO : c (ac_nx tp n s) = r → ∀ τ, ab_Same ac_PV σ τ → ac_RM τ n tp (ac_nx tp n s) → Q (some (ab_J (ar_W 32 tp n s))) τ) : ab_Do X 182 [ab_R 355] σ Q := by
  have g := h.1.1
  have h4 := hR.1
  have hM := hR.2.1.1
  have s0 := mS hR.2.1
  have c2 := fun k Q' => mq_flaw (X := X) (Q := Q') (k := k) h
  have c3 := fun Q' => mq_isName (X := X) (Q := Q') h.1.1 h.2.1 h.2.2.1
  have c4 := fun w Q' => mq_find (X := X) (Q := Q') (w := w) hR hn
  unfold pr_new at er
  by_cases z : ac_nm tp n s = 1
  · rw [if_pos z] at er
    rw [z] at c3
    have k2 := ar_nm2 z
    have e15 : ab_rd σ 355 15 = ar_W 32 tp n s := by
      rw [h.2.1.2.2.2.2.2 k2]
      exact (ac_kwd_ok (q := 32) k2 h.2.2.1).2 (Or.inr rfl)
    have c4 := fun Q' => c4 (ar_W 32 tp n s) Q'
    by_cases y : ar_fnd κ (ar_W 32 tp n s) = -1
    · rw [if_pos y] at er
      rw [y] at c4
      have key : ab_Do X 171 [ab_R 355] σ (fun r σ' => ab_Run X 182 41 (13, 0, 0) [ab_R 355, ab_J (ar_W 32 tp n s), ab_R 0] (ab_psh r []) σ' Q) := by
        refine mq_goesOnR h (by omega) (fun τ u1 u2 => ?_)
        have kq := hO er τ (u1.mono (fun _ _ => ac_PU_V)) u2
        clear hF hO c2 c3 c4
        simp (disch := omega) only [rX13_readFresh_41, rX13_readFresh_42, ne_eq, not_false_eq_true, not_true_eq_false, true_and, and_true, and_self, true_imp_iff, false_imp_iff, imp_self, Bool.not_false, Bool.not_true, reduceCtorEq, ab_isJ, ab_psh, ab_cats, Bool.false_eq_true, if_true, if_false, ab_shf, ab_shw, Int.le_refl, Classical.not_not, Int.zero_add, forall_const, ↓ab_itT, ↓ab_itF, ab_anT, ab_w32_id, ab_rdf_ne, ab_rdw_ne, ab_rdw_eq, ab_rdf_in, ab_td2, ab_tm2, true_or, or_true]
        all_goals exact kq
      clear hF hO h hR er c2
      simp (disch := omega) only [do_X13_readFresh, rX13_readFresh_0, rX13_readFresh_1, rX13_readFresh_4, rX13_readFresh_12, rX13_readFresh_13, rX13_readFresh_16, rX13_readFresh_17, rX13_readFresh_20, rX13_readFresh_23, rX13_readFresh_24, rX13_readFresh_32, rX13_readFresh_33, rX13_readFresh_36, rX13_readFresh_37, rX13_readFresh_38, gS_355, g, h4, s0, e15, c3, c4, ne_eq, not_false_eq_true, not_true_eq_false, true_and, and_true, and_self, true_imp_iff, false_imp_iff, imp_self, Bool.not_false, Bool.not_true, reduceCtorEq, ab_isJ, ab_psh, ab_cats, Bool.false_eq_true, if_true, if_false, ab_shf, ab_shw, Int.le_refl, Classical.not_not, Int.zero_add, forall_const, ↓ab_itT, ↓ab_itF, ab_anT, ab_w32_id, ab_rdf_ne, ab_rdw_ne, ab_rdw_eq, ab_rdf_in, ab_td2, ab_tm2, true_or, or_true]
      all_goals exact key
    · rw [if_neg y] at er
      have f := ac_flw (k := 3) h
      have kq := hF 3 s er.symm _ f.2 f.1 (ab_rd (ab_wr (ab_wr (ab_wr σ 355 13 3) 355 14 s) 355 9 5) 355 15)
      have gF := f.1.1
      have c1 := fun Q' => mq_goesOn5 (X := X) (Q := Q') f.1.1 f.1.2.1
      generalize ar_fnd κ (ar_W 32 tp n s) = x at c4 y
      clear hF hO h hR er f
      simp (disch := omega) only [do_X13_readFresh, rX13_readFresh_0, rX13_readFresh_1, rX13_readFresh_4, rX13_readFresh_12, rX13_readFresh_13, rX13_readFresh_16, rX13_readFresh_17, rX13_readFresh_20, rX13_readFresh_23, rX13_readFresh_24, rX13_readFresh_27, rX13_readFresh_28, rX13_readFresh_29, rX13_readFresh_32, rX13_readFresh_33, rX13_readFresh_36, rX13_readFresh_37, rX13_readFresh_38, rX13_readFresh_41, rX13_readFresh_42, gS_355, g, gF, h4, s0, e15, c1, c2, c3, c4, ne_eq, not_false_eq_true, not_true_eq_false, true_and, and_true, and_self, true_imp_iff, false_imp_iff, imp_self, Bool.not_false, Bool.not_true, reduceCtorEq, ab_isJ, ab_psh, ab_cats, Bool.false_eq_true, if_true, if_false, ab_shf, ab_shw, Int.le_refl, Classical.not_not, Int.zero_add, forall_const, ↓ab_itT, ↓ab_itF, ab_anT, true_or, or_true]
      all_goals exact kq
  · rw [if_neg z] at er
    have z0 : ac_nm tp n s = 0 := by have := ac_nm01 (tp := tp) (n := n) (s := s); omega
    rw [z0] at c3
    have f := ac_flw (k := 1) h
    have kq := mq_fresh_t (X := X) (Q := Q) (l1 := ab_R 0) (l2 := ab_R 0) f.1 (hR.same f.2) hn (hF 1 s er.symm _ f.2 f.1 _)
    clear hF hO h hR er f c4
    simp (disch := omega) only [do_X13_readFresh, rX13_readFresh_0, rX13_readFresh_1, rX13_readFresh_4, rX13_readFresh_7, rX13_readFresh_8, rX13_readFresh_9, gS_355, g, c2, c3, ne_eq, not_false_eq_true, not_true_eq_false, true_and, and_true, and_self, true_imp_iff, false_imp_iff, imp_self, Bool.not_false, Bool.not_true, reduceCtorEq, ab_isJ, ab_psh, ab_cats, Bool.false_eq_true, if_true, if_false, ab_shf, ab_shw, Int.le_refl, Classical.not_not, Int.zero_add, forall_const, ↓ab_itT, ↓ab_itF, ab_anT, true_or, or_true]
    all_goals exact kq
/-- knownOne behind the name's test, flawed -/
theorem mq_known_t (h : ac_RF τ w pl) (hR : ar_MR τ M κ) (hn : 0 ≤ κ 10 0 ∧ κ 10 0 ≤ 11) (kq : Q (some (ab_I 0)) τ) : ab_Run X 184 12 (13, 0, 0) [ab_R 355, ab_R 0] [] τ Q := by
  have g := h.1
  have h9 := h.2.1
  have h4 := hR.1
  have hM := hR.2.1.1
  have s0 := mS hR.2.1
  have s31 := mS_31 hR.2.1
  have p31 := mP_31 hR.2.1
  have c2 := fun k Q' => mq_flaw5 (X := X) (Q := Q') (k := k) h
  have c4 := fun w Q' => mq_find (X := X) (Q := Q') (w := w) hR hn
  have c4 := fun Q' => c4 (ab_rd τ 355 15) Q'
  have b := ar_fnd_b (κ := κ) (w := ab_rd τ 355 15) hn
  clear h hR
  generalize ar_fnd κ (ab_rd τ 355 15) = z at c4 b
  by_cases y : z = -1
  · simp (disch := omega) only [rX13_knownOne_12, rX13_knownOne_13, rX13_knownOne_16, rX13_knownOne_17, rX13_knownOne_20, rX13_knownOne_23, rX13_knownOne_24, rX13_knownOne_25, rX13_knownOne_26, rX13_knownOne_41, rX13_knownOne_42, rX13_knownOne_43, rX13_knownOne_46, rX13_knownOne_47, rX13_knownOne_50, rX13_knownOne_51, rX13_knownOne_54, rX13_knownOne_55, rX13_knownOne_67, gS_355, g, h9, h4, s0, c2, c4, ne_eq, not_false_eq_true, not_true_eq_false, true_and, and_true, and_self, true_imp_iff, false_imp_iff, imp_self, Bool.not_false, Bool.not_true, reduceCtorEq, ab_isJ, ab_psh, ab_cats, Bool.false_eq_true, if_true, if_false, ab_shf, ab_shw, Int.le_refl, Classical.not_not, Int.zero_add, forall_const, ↓ab_itT, ↓ab_itF, ab_anT, ab_w32_id, ab_rdf_ne, ab_rdw_ne, ab_rdw_eq, ab_rdf_in, ab_td2, ab_tm2, true_or, or_true]
    all_goals exact kq
  · by_cases x : ab_rd τ (M + 20) z = 0
    · simp (disch := first | omega | (simp only [s31, true_and, and_true, or_true, true_or, and_self, false_or, or_false, false_and]; omega)) only [rX13_knownOne_12, rX13_knownOne_13, rX13_knownOne_16, rX13_knownOne_17, rX13_knownOne_20, rX13_knownOne_23, rX13_knownOne_24, rX13_knownOne_25, rX13_knownOne_26, rX13_knownOne_29, rX13_knownOne_30, rX13_knownOne_33, rX13_knownOne_36, rX13_knownOne_37, rX13_knownOne_38, rX13_knownOne_46, rX13_knownOne_47, rX13_knownOne_50, rX13_knownOne_51, rX13_knownOne_54, rX13_knownOne_55, rX13_knownOne_67, gS_355, g, h9, h4, s0, s31, p31, c2, c4, ne_eq, not_false_eq_true, not_true_eq_false, true_and, and_true, and_self, true_imp_iff, false_imp_iff, imp_self, Bool.not_false, Bool.not_true, reduceCtorEq, ab_isJ, ab_psh, ab_cats, Bool.false_eq_true, if_true, if_false, ab_shf, ab_shw, Int.le_refl, Classical.not_not, Int.zero_add, forall_const, ↓ab_itT, ↓ab_itF, ab_anT, ab_w32_id, ab_rdf_ne, ab_rdw_ne, ab_rdw_eq, ab_rdf_in, ab_td2, ab_tm2, true_or, or_true]
      all_goals exact kq
    · simp (disch := first | omega | (simp only [s31, true_and, and_true, or_true, true_or, and_self, false_or, or_false, false_and]; omega)) only [rX13_knownOne_12, rX13_knownOne_13, rX13_knownOne_16, rX13_knownOne_17, rX13_knownOne_20, rX13_knownOne_23, rX13_knownOne_24, rX13_knownOne_25, rX13_knownOne_26, rX13_knownOne_29, rX13_knownOne_30, rX13_knownOne_33, rX13_knownOne_36, rX13_knownOne_37, rX13_knownOne_38, rX13_knownOne_41, rX13_knownOne_42, rX13_knownOne_43, rX13_knownOne_46, rX13_knownOne_47, rX13_knownOne_50, rX13_knownOne_51, rX13_knownOne_54, rX13_knownOne_55, rX13_knownOne_67, gS_355, g, h9, h4, s0, s31, p31, c2, c4, ne_eq, not_false_eq_true, not_true_eq_false, true_and, and_true, and_self, true_imp_iff, false_imp_iff, imp_self, Bool.not_false, Bool.not_true, reduceCtorEq, ab_isJ, ab_psh, ab_cats, Bool.false_eq_true, if_true, if_false, ab_shf, ab_shw, Int.le_refl, Classical.not_not, Int.zero_add, forall_const, ↓ab_itT, ↓ab_itF, ab_anT, ab_w32_id, ab_rdf_ne, ab_rdw_ne, ab_rdw_eq, ab_rdf_in, ab_td2, ab_tm2, true_or, or_true]
      all_goals exact kq
end
