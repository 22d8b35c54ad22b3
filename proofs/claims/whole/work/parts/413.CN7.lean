/-! MAKING: the reader, the pull, the class itself (written by gen/gcons4.py) -/
section
variable {X : ab_X} {σ τ υ σ0 : ab_S} {Q : Option ab_V → ab_S → Prop} {a z z' A B i j n t k2 : Int} {P D : Int → Prop} {f cl sl : Nat}
theorem cq_X7_init_0 (h : al_Z σ0 τ a z P D) (hf : 2 ≤ f) (hb : 2 ≤ cl ∧ 1008 ≤ sl) (key : ab_Do X 66 [ab_R z] (ab_new τ 10 0) (fun r σ' => ab_Run X 41 12 (f, cl - 1 - 1, sl - 8 - 1000) [ab_R a] (ab_psh r [ab_R z, ab_R a]) σ' Q)) : ab_Run X 41 4 (f, cl, sl) [ab_R a] [] τ Q := by
  have h2 := h.2.1
  have e1 := h.1
  have sz : ab_sh (ab_new τ 10 0) z = (10, 0) := by rw [ab_shn, if_pos e1.symm]
  clear h
  simp (disch := omega) only [rX7_init_4, rX7_init_5, rX7_init_8, rX7_init_9, sz, e1, ne_eq, not_false_eq_true, not_true_eq_false, true_and, and_true, and_self, true_imp_iff, false_imp_iff, imp_self, Bool.not_false, Bool.not_true, reduceCtorEq, ab_isJ, ab_psh, ab_cats, Bool.false_eq_true, if_true, if_false, ab_shf, ab_shw, Int.le_refl, Classical.not_not, Int.zero_add, forall_const, ↓ab_itT, ↓ab_itF, ab_anT, true_or, or_true]
  all_goals exact key
theorem cq_X7_init_0p (sa : ab_sh τ a = (8, 0)) (kq : ab_Run X 41 15 (f, cl, sl) [ab_R a] [] (ab_wr τ a 0 z) Q) : ab_Run X 41 12 (f, cl, sl) [ab_R a] (ab_psh none [ab_R z, ab_R a]) τ Q := by
  simp (disch := omega) only [rX7_init_12, sa, ne_eq, not_false_eq_true, not_true_eq_false, true_and, and_true, and_self, true_imp_iff, false_imp_iff, imp_self, Bool.not_false, Bool.not_true, reduceCtorEq, ab_isJ, ab_psh, ab_cats, Bool.false_eq_true, if_true, if_false, ab_shf, ab_shw, Int.le_refl, Classical.not_not, Int.zero_add, forall_const, ↓ab_itT, ↓ab_itF, ab_anT, true_or, or_true]
  all_goals exact kq
theorem cq_X7_init_1 (h : al_Z σ0 τ a z P D) (hf : 3 ≤ f) (hb : 26 ≤ cl ∧ 201 ≤ sl) (key : ab_Do X 26 [ab_R z] (ab_new τ 5 0) (fun r σ' => ab_Run X 41 23 (f, cl - 1 - 25, sl - 15 - 186) [ab_R a] (ab_psh r [ab_R z, ab_R a]) σ' Q)) : ab_Run X 41 15 (f, cl, sl) [ab_R a] [] τ Q := by
  have h2 := h.2.1
  have e1 := h.1
  have sz : ab_sh (ab_new τ 5 0) z = (5, 0) := by rw [ab_shn, if_pos e1.symm]
  clear h
  simp (disch := omega) only [rX7_init_15, rX7_init_16, rX7_init_19, rX7_init_20, sz, e1, ne_eq, not_false_eq_true, not_true_eq_false, true_and, and_true, and_self, true_imp_iff, false_imp_iff, imp_self, Bool.not_false, Bool.not_true, reduceCtorEq, ab_isJ, ab_psh, ab_cats, Bool.false_eq_true, if_true, if_false, ab_shf, ab_shw, Int.le_refl, Classical.not_not, Int.zero_add, forall_const, ↓ab_itT, ↓ab_itF, ab_anT, true_or, or_true]
  all_goals exact key
theorem cq_X7_init_1p (sa : ab_sh τ a = (8, 0)) (kq : ab_Run X 41 26 (f, cl, sl) [ab_R a] [] (ab_wr τ a 1 z) Q) : ab_Run X 41 23 (f, cl, sl) [ab_R a] (ab_psh none [ab_R z, ab_R a]) τ Q := by
  simp (disch := omega) only [rX7_init_23, sa, ne_eq, not_false_eq_true, not_true_eq_false, true_and, and_true, and_self, true_imp_iff, false_imp_iff, imp_self, Bool.not_false, Bool.not_true, reduceCtorEq, ab_isJ, ab_psh, ab_cats, Bool.false_eq_true, if_true, if_false, ab_shf, ab_shw, Int.le_refl, Classical.not_not, Int.zero_add, forall_const, ↓ab_itT, ↓ab_itF, ab_anT, true_or, or_true]
  all_goals exact kq
theorem cq_X7_init_r (kq : Q none τ) : ab_Run X 41 26 (f, cl, sl) [ab_R a] [] τ Q := by
  simp (disch := omega) only [rX7_init_26, ne_eq, not_false_eq_true, not_true_eq_false, true_and, and_true, and_self, true_imp_iff, false_imp_iff, imp_self, Bool.not_false, Bool.not_true, reduceCtorEq, ab_isJ, ab_psh, ab_cats, Bool.false_eq_true, if_true, if_false, ab_shf, ab_shw, Int.le_refl, Classical.not_not, Int.zero_add, forall_const, ↓ab_itT, ↓ab_itF, ab_anT, ab_w32_id, ab_rdf_ne, ab_rdw_ne, ab_rdw_eq, ab_rdf_in, ab_td2, ab_tm2, true_or, or_true]
  all_goals exact kq
set_option maxHeartbeats 8000000 in
theorem cm_X7_init_2 (hP : ∀ x, P x → x < 2) (h : al_Z σ σ 2 3 P (fun _ => False)) (hQ : ∀ τ, al_Y σ τ 2 31 P → Q none τ) : ab_Do X 41 [ab_R 2] σ Q := by
  have kq : ab_Run X 41 4 (3, 28, 1209) [ab_R 2] [] σ Q := by
    refine cq_X7_init_0 h (by decide) (by omega) ?_
    refine cn_X9_init (by decide +kernel) (by decide +kernel) (by decide +kernel) (by decide +kernel) (fun u => by rcases u with u | u; exact absurd (hP _ u) (by omega); omega) (al_Z.new h (by decide +kernel)) (fun υ1 y1 => ?_)
    replace y1 : al_Y _ υ1 3 5 _ := y1
    refine cq_X7_init_0p (by rw [y1.2.2.1 2 (by decide) (by decide)]; decide +kernel) ?_
    have h1 := al_Z.sub (f0 := 0) h y1 (by decide +kernel)
    generalize ab_wr υ1 2 0 3 = τ1 at h1 ⊢
    clear y1
    refine cq_X7_init_1 h1 (by decide) (by omega) ?_
    refine cm_X4_init_5 (fun x u => by rcases u with u | u; have := hP _ u; omega; omega) (al_Z.new h1 (by decide +kernel)) (fun υ2 y2 => ?_)
    replace y2 : al_Y _ υ2 5 31 _ := y2
    refine cq_X7_init_1p (by rw [y2.2.2.1 2 (by decide) (by decide)]; decide +kernel) ?_
    have h2 := al_Z.sub (f0 := 1) h1 y2 (by decide +kernel)
    generalize ab_wr υ2 2 1 5 = τ2 at h2 ⊢
    clear y2
    have kr := hQ _ (al_Z.done h2 (fun f f1 => by
      have q : f = 0 ∨ f = 1 ∨ 2 ≤ f := by omega
      rcases q with rfl | rfl | q
      · exact Or.inl (Or.inl (Or.inr rfl))
      · exact Or.inl (Or.inr rfl)
      · right; rw [al_row (l := [3, 5]) (by decide +kernel)]; exact ac_getD_ge (by simp only [List.length_cons, List.length_nil]; omega)) (fun u => by have := hP _ u; omega))
    clear hQ
    exact cq_X7_init_r kr
  clear hQ h
  simp (disch := omega) only [dn_X7_init, rX7_init_0, rX7_init_1, ne_eq, not_false_eq_true, not_true_eq_false, true_and, and_true, and_self, true_imp_iff, false_imp_iff, imp_self, Bool.not_false, Bool.not_true, reduceCtorEq, ab_isJ, ab_psh, ab_cats, Bool.false_eq_true, if_true, if_false, ab_shf, ab_shw, Int.le_refl, Classical.not_not, Int.zero_add, forall_const, ↓ab_itT, ↓ab_itF, ab_anT, true_or, or_true]
  all_goals exact kq
theorem cq_X6_init_0 (h : al_Z σ0 τ a z P D) (hf : 2 ≤ f) (hb : 6 ≤ cl ∧ 39 ≤ sl) (key : ab_Do X 0 [ab_R z] (ab_new τ 1 0) (fun r σ' => ab_Run X 32 12 (f, cl - 1 - 5, sl - 6 - 33) [ab_R a] (ab_psh r [ab_R z, ab_R a]) σ' Q)) : ab_Run X 32 4 (f, cl, sl) [ab_R a] [] τ Q := by
  have h2 := h.2.1
  have e1 := h.1
  have sz : ab_sh (ab_new τ 1 0) z = (1, 0) := by rw [ab_shn, if_pos e1.symm]
  clear h
  simp (disch := omega) only [rX6_init_4, rX6_init_5, rX6_init_8, rX6_init_9, sz, e1, ne_eq, not_false_eq_true, not_true_eq_false, true_and, and_true, and_self, true_imp_iff, false_imp_iff, imp_self, Bool.not_false, Bool.not_true, reduceCtorEq, ab_isJ, ab_psh, ab_cats, Bool.false_eq_true, if_true, if_false, ab_shf, ab_shw, Int.le_refl, Classical.not_not, Int.zero_add, forall_const, ↓ab_itT, ↓ab_itF, ab_anT, true_or, or_true]
  all_goals exact key
theorem cq_X6_init_0p (sa : ab_sh τ a = (7, 0)) (kq : ab_Run X 32 15 (f, cl, sl) [ab_R a] [] (ab_wr τ a 0 z) Q) : ab_Run X 32 12 (f, cl, sl) [ab_R a] (ab_psh none [ab_R z, ab_R a]) τ Q := by
  simp (disch := omega) only [rX6_init_12, sa, ne_eq, not_false_eq_true, not_true_eq_false, true_and, and_true, and_self, true_imp_iff, false_imp_iff, imp_self, Bool.not_false, Bool.not_true, reduceCtorEq, ab_isJ, ab_psh, ab_cats, Bool.false_eq_true, if_true, if_false, ab_shf, ab_shw, Int.le_refl, Classical.not_not, Int.zero_add, forall_const, ↓ab_itT, ↓ab_itF, ab_anT, true_or, or_true]
  all_goals exact kq
theorem cq_X6_init_1 (h : al_Z σ0 τ a z P D) (hf : 2 ≤ f) (hb : 6 ≤ cl ∧ 39 ≤ sl) (key : ab_Do X 0 [ab_R z] (ab_new τ 1 0) (fun r σ' => ab_Run X 32 23 (f, cl - 1 - 5, sl - 6 - 33) [ab_R a] (ab_psh r [ab_R z, ab_R a]) σ' Q)) : ab_Run X 32 15 (f, cl, sl) [ab_R a] [] τ Q := by
  have h2 := h.2.1
  have e1 := h.1
  have sz : ab_sh (ab_new τ 1 0) z = (1, 0) := by rw [ab_shn, if_pos e1.symm]
  clear h
  simp (disch := omega) only [rX6_init_15, rX6_init_16, rX6_init_19, rX6_init_20, sz, e1, ne_eq, not_false_eq_true, not_true_eq_false, true_and, and_true, and_self, true_imp_iff, false_imp_iff, imp_self, Bool.not_false, Bool.not_true, reduceCtorEq, ab_isJ, ab_psh, ab_cats, Bool.false_eq_true, if_true, if_false, ab_shf, ab_shw, Int.le_refl, Classical.not_not, Int.zero_add, forall_const, ↓ab_itT, ↓ab_itF, ab_anT, true_or, or_true]
  all_goals exact key
theorem cq_X6_init_1p (sa : ab_sh τ a = (7, 0)) (kq : ab_Run X 32 26 (f, cl, sl) [ab_R a] [] (ab_wr τ a 1 z) Q) : ab_Run X 32 23 (f, cl, sl) [ab_R a] (ab_psh none [ab_R z, ab_R a]) τ Q := by
  simp (disch := omega) only [rX6_init_23, sa, ne_eq, not_false_eq_true, not_true_eq_false, true_and, and_true, and_self, true_imp_iff, false_imp_iff, imp_self, Bool.not_false, Bool.not_true, reduceCtorEq, ab_isJ, ab_psh, ab_cats, Bool.false_eq_true, if_true, if_false, ab_shf, ab_shw, Int.le_refl, Classical.not_not, Int.zero_add, forall_const, ↓ab_itT, ↓ab_itF, ab_anT, true_or, or_true]
  all_goals exact kq
theorem cq_X6_init_2 (h : al_Z σ0 τ a z P D) (hs : ab_shT a = (7, 0)) (hb : 1 ≤ cl ∧ 4 ≤ sl) (kq : ab_Run X 32 33 (f, cl - 1, sl - 4) [ab_R a] [] (ab_wr (ab_new τ 21 4) a 2 z) Q) : ab_Run X 32 26 (f, cl, sl) [ab_R a] [] τ Q := by
  have h2 := h.2.1
  have sM : ab_sh (ab_new τ 21 4) a = (7, 0) := by rw [ab_shn, if_neg (by have := h.1; omega)]; exact h.sh hs
  have e1 := h.1
  clear h
  simp (disch := omega) only [rX6_init_26, rX6_init_27, rX6_init_28, rX6_init_30, sM, e1, ne_eq, not_false_eq_true, not_true_eq_false, true_and, and_true, and_self, true_imp_iff, false_imp_iff, imp_self, Bool.not_false, Bool.not_true, reduceCtorEq, ab_isJ, ab_psh, ab_cats, Bool.false_eq_true, if_true, if_false, ab_shf, ab_shw, Int.le_refl, Classical.not_not, Int.zero_add, forall_const, ↓ab_itT, ↓ab_itF, ab_anT, true_or, or_true]
  all_goals exact kq
theorem cq_X6_init_3 (h : al_Z σ0 τ a z P D) (hs : ab_shT a = (7, 0)) (kq : ab_Run X 32 38 (f, cl, sl) [ab_R a] [] (ab_wr τ a 3 1) Q) : ab_Run X 32 33 (f, cl, sl) [ab_R a] [] τ Q := by
  have h2 := h.2.1
  have sM := h.sh hs
  clear h
  simp (disch := omega) only [rX6_init_33, rX6_init_34, rX6_init_35, sM, ne_eq, not_false_eq_true, not_true_eq_false, true_and, and_true, and_self, true_imp_iff, false_imp_iff, imp_self, Bool.not_false, Bool.not_true, reduceCtorEq, ab_isJ, ab_psh, ab_cats, Bool.false_eq_true, if_true, if_false, ab_shf, ab_shw, Int.le_refl, Classical.not_not, Int.zero_add, forall_const, ↓ab_itT, ↓ab_itF, ab_anT, true_or, or_true]
  all_goals exact kq
theorem cq_X6_init_r (kq : Q none τ) : ab_Run X 32 38 (f, cl, sl) [ab_R a] [] τ Q := by
  simp (disch := omega) only [rX6_init_38, ne_eq, not_false_eq_true, not_true_eq_false, true_and, and_true, and_self, true_imp_iff, false_imp_iff, imp_self, Bool.not_false, Bool.not_true, reduceCtorEq, ab_isJ, ab_psh, ab_cats, Bool.false_eq_true, if_true, if_false, ab_shf, ab_shw, Int.le_refl, Classical.not_not, Int.zero_add, forall_const, ↓ab_itT, ↓ab_itF, ab_anT, ab_w32_id, ab_rdf_ne, ab_rdw_ne, ab_rdw_eq, ab_rdf_in, ab_td2, ab_tm2, true_or, or_true]
  all_goals exact kq
set_option maxHeartbeats 8000000 in
theorem cm_X6_init_134 (hP : ∀ x, P x → x < 134) (h : al_Z σ σ 134 135 P (fun _ => False)) (hQ : ∀ τ, al_Y σ τ 134 148 P → Q none τ) : ab_Do X 32 [ab_R 134] σ Q := by
  have kq : ab_Run X 32 4 (2, 13, 82) [ab_R 134] [] σ Q := by
    refine cq_X6_init_0 h (by decide) (by omega) ?_
    refine cn_X0_init (by decide +kernel) (by decide +kernel) (by decide +kernel) (by decide +kernel) (by decide +kernel) (by decide +kernel) (by decide +kernel) (by decide +kernel) (by decide +kernel) (by decide +kernel) (by decide +kernel) (by decide +kernel) (fun u => by rcases u with u | u; exact absurd (hP _ u) (by omega); omega) (al_Z.new h (by decide +kernel)) (fun υ1 y1 => ?_)
    replace y1 : al_Y _ υ1 135 141 _ := y1
    refine cq_X6_init_0p (by rw [y1.2.2.1 134 (by decide) (by decide)]; decide +kernel) ?_
    have h1 := al_Z.sub (f0 := 0) h y1 (by decide +kernel)
    generalize ab_wr υ1 134 0 135 = τ1 at h1 ⊢
    clear y1
    refine cq_X6_init_1 h1 (by decide) (by omega) ?_
    refine cn_X0_init (by decide +kernel) (by decide +kernel) (by decide +kernel) (by decide +kernel) (by decide +kernel) (by decide +kernel) (by decide +kernel) (by decide +kernel) (by decide +kernel) (by decide +kernel) (by decide +kernel) (by decide +kernel) (fun u => by rcases u with u | u; exact absurd (hP _ u) (by omega); omega) (al_Z.new h1 (by decide +kernel)) (fun υ2 y2 => ?_)
    replace y2 : al_Y _ υ2 141 147 _ := y2
    refine cq_X6_init_1p (by rw [y2.2.2.1 134 (by decide) (by decide)]; decide +kernel) ?_
    have h2 := al_Z.sub (f0 := 1) h1 y2 (by decide +kernel)
    generalize ab_wr υ2 134 1 141 = τ2 at h2 ⊢
    clear y2
    refine cq_X6_init_2 h2 (by decide +kernel) (by omega) ?_
    have h3 := al_Z.arr (z' := 148) (f0 := 2) h2 (t := 21) (n := 4) (by decide +kernel) (by decide +kernel) (by decide) (by decide +kernel) (by decide)
    generalize ab_wr (ab_new τ2 21 4) 134 2 147 = τ3 at h3 ⊢
    refine cq_X6_init_3 h3 (by decide +kernel) ?_
    have h4 := al_Z.val (f0 := 3) (n := 1) h3 (by decide +kernel)
    generalize ab_wr τ3 134 3 1 = τ4 at h4 ⊢
    have kr := hQ _ (al_Z.done h4 (fun f f1 => by
      have q : f = 0 ∨ f = 1 ∨ f = 2 ∨ f = 3 ∨ 4 ≤ f := by omega
      rcases q with rfl | rfl | rfl | rfl | q
      · exact Or.inl (Or.inl (Or.inl (Or.inl (Or.inr rfl))))
      · exact Or.inl (Or.inl (Or.inl (Or.inr rfl)))
      · exact Or.inl (Or.inl (Or.inr rfl))
      · exact Or.inl (Or.inr rfl)
      · right; rw [al_row (l := [135, 141, 147, 1]) (by decide +kernel)]; exact ac_getD_ge (by simp only [List.length_cons, List.length_nil]; omega)) (fun u => by have := hP _ u; omega))
    clear hQ
    exact cq_X6_init_r kr
  clear hQ h
  simp (disch := omega) only [dn_X6_init, rX6_init_0, rX6_init_1, ne_eq, not_false_eq_true, not_true_eq_false, true_and, and_true, and_self, true_imp_iff, false_imp_iff, imp_self, Bool.not_false, Bool.not_true, reduceCtorEq, ab_isJ, ab_psh, ab_cats, Bool.false_eq_true, if_true, if_false, ab_shf, ab_shw, Int.le_refl, Classical.not_not, Int.zero_add, forall_const, ↓ab_itT, ↓ab_itF, ab_anT, true_or, or_true]
  all_goals exact kq
theorem cq_X11_init_0 (h : al_Z σ0 τ a z P D) (hf : 4 ≤ f) (hb : 29 ≤ cl ∧ 1215 ≤ sl) (key : ab_Do X 41 [ab_R z] (ab_new τ 8 0) (fun r σ' => ab_Run X 79 12 (f, cl - 1 - 28, sl - 6 - 1209) [ab_R a] (ab_psh r [ab_R z, ab_R a]) σ' Q)) : ab_Run X 79 4 (f, cl, sl) [ab_R a] [] τ Q := by
  have h2 := h.2.1
  have e1 := h.1
  have sz : ab_sh (ab_new τ 8 0) z = (8, 0) := by rw [ab_shn, if_pos e1.symm]
  clear h
  simp (disch := omega) only [rX11_init_4, rX11_init_5, rX11_init_8, rX11_init_9, sz, e1, ne_eq, not_false_eq_true, not_true_eq_false, true_and, and_true, and_self, true_imp_iff, false_imp_iff, imp_self, Bool.not_false, Bool.not_true, reduceCtorEq, ab_isJ, ab_psh, ab_cats, Bool.false_eq_true, if_true, if_false, ab_shf, ab_shw, Int.le_refl, Classical.not_not, Int.zero_add, forall_const, ↓ab_itT, ↓ab_itF, ab_anT, true_or, or_true]
  all_goals exact key
theorem cq_X11_init_0p (sa : ab_sh τ a = (12, 0)) (kq : ab_Run X 79 15 (f, cl, sl) [ab_R a] [] (ab_wr τ a 0 z) Q) : ab_Run X 79 12 (f, cl, sl) [ab_R a] (ab_psh none [ab_R z, ab_R a]) τ Q := by
  simp (disch := omega) only [rX11_init_12, sa, ne_eq, not_false_eq_true, not_true_eq_false, true_and, and_true, and_self, true_imp_iff, false_imp_iff, imp_self, Bool.not_false, Bool.not_true, reduceCtorEq, ab_isJ, ab_psh, ab_cats, Bool.false_eq_true, if_true, if_false, ab_shf, ab_shw, Int.le_refl, Classical.not_not, Int.zero_add, forall_const, ↓ab_itT, ↓ab_itF, ab_anT, true_or, or_true]
  all_goals exact kq
theorem cq_X11_init_1 (h : al_Z σ0 τ a z P D) (hf : 2 ≤ f) (hb : 5 ≤ cl ∧ 26 ≤ sl) (key : ab_Do X 61 [ab_R z] (ab_new τ 9 0) (fun r σ' => ab_Run X 79 23 (f, cl - 1 - 4, sl - 5 - 21) [ab_R a] (ab_psh r [ab_R z, ab_R a]) σ' Q)) : ab_Run X 79 15 (f, cl, sl) [ab_R a] [] τ Q := by
  have h2 := h.2.1
  have e1 := h.1
  have sz : ab_sh (ab_new τ 9 0) z = (9, 0) := by rw [ab_shn, if_pos e1.symm]
  clear h
  simp (disch := omega) only [rX11_init_15, rX11_init_16, rX11_init_19, rX11_init_20, sz, e1, ne_eq, not_false_eq_true, not_true_eq_false, true_and, and_true, and_self, true_imp_iff, false_imp_iff, imp_self, Bool.not_false, Bool.not_true, reduceCtorEq, ab_isJ, ab_psh, ab_cats, Bool.false_eq_true, if_true, if_false, ab_shf, ab_shw, Int.le_refl, Classical.not_not, Int.zero_add, forall_const, ↓ab_itT, ↓ab_itF, ab_anT, true_or, or_true]
  all_goals exact key
theorem cq_X11_init_1p (sa : ab_sh τ a = (12, 0)) (kq : ab_Run X 79 26 (f, cl, sl) [ab_R a] [] (ab_wr τ a 1 z) Q) : ab_Run X 79 23 (f, cl, sl) [ab_R a] (ab_psh none [ab_R z, ab_R a]) τ Q := by
  simp (disch := omega) only [rX11_init_23, sa, ne_eq, not_false_eq_true, not_true_eq_false, true_and, and_true, and_self, true_imp_iff, false_imp_iff, imp_self, Bool.not_false, Bool.not_true, reduceCtorEq, ab_isJ, ab_psh, ab_cats, Bool.false_eq_true, if_true, if_false, ab_shf, ab_shw, Int.le_refl, Classical.not_not, Int.zero_add, forall_const, ↓ab_itT, ↓ab_itF, ab_anT, true_or, or_true]
  all_goals exact kq
theorem cq_X11_init_2 (h : al_Z σ0 τ a z P D) (hf : 3 ≤ f) (hb : 98 ≤ cl ∧ 518 ≤ sl) (key : ab_Do X 19 [ab_R z] (ab_new τ 4 0) (fun r σ' => ab_Run X 79 34 (f, cl - 1 - 97, sl - 5 - 513) [ab_R a] (ab_psh r [ab_R z, ab_R a]) σ' Q)) : ab_Run X 79 26 (f, cl, sl) [ab_R a] [] τ Q := by
  have h2 := h.2.1
  have e1 := h.1
  have sz : ab_sh (ab_new τ 4 0) z = (4, 0) := by rw [ab_shn, if_pos e1.symm]
  clear h
  simp (disch := omega) only [rX11_init_26, rX11_init_27, rX11_init_30, rX11_init_31, sz, e1, ne_eq, not_false_eq_true, not_true_eq_false, true_and, and_true, and_self, true_imp_iff, false_imp_iff, imp_self, Bool.not_false, Bool.not_true, reduceCtorEq, ab_isJ, ab_psh, ab_cats, Bool.false_eq_true, if_true, if_false, ab_shf, ab_shw, Int.le_refl, Classical.not_not, Int.zero_add, forall_const, ↓ab_itT, ↓ab_itF, ab_anT, true_or, or_true]
  all_goals exact key
theorem cq_X11_init_2p (sa : ab_sh τ a = (12, 0)) (kq : ab_Run X 79 37 (f, cl, sl) [ab_R a] [] (ab_wr τ a 2 z) Q) : ab_Run X 79 34 (f, cl, sl) [ab_R a] (ab_psh none [ab_R z, ab_R a]) τ Q := by
  simp (disch := omega) only [rX11_init_34, sa, ne_eq, not_false_eq_true, not_true_eq_false, true_and, and_true, and_self, true_imp_iff, false_imp_iff, imp_self, Bool.not_false, Bool.not_true, reduceCtorEq, ab_isJ, ab_psh, ab_cats, Bool.false_eq_true, if_true, if_false, ab_shf, ab_shw, Int.le_refl, Classical.not_not, Int.zero_add, forall_const, ↓ab_itT, ↓ab_itF, ab_anT, true_or, or_true]
  all_goals exact kq
theorem cq_X11_init_3 (h : al_Z σ0 τ a z P D) (hf : 3 ≤ f) (hb : 14 ≤ cl ∧ 92 ≤ sl) (key : ab_Do X 32 [ab_R z] (ab_new τ 7 0) (fun r σ' => ab_Run X 79 45 (f, cl - 1 - 13, sl - 10 - 82) [ab_R a] (ab_psh r [ab_R z, ab_R a]) σ' Q)) : ab_Run X 79 37 (f, cl, sl) [ab_R a] [] τ Q := by
  have h2 := h.2.1
  have e1 := h.1
  have sz : ab_sh (ab_new τ 7 0) z = (7, 0) := by rw [ab_shn, if_pos e1.symm]
  clear h
  simp (disch := omega) only [rX11_init_37, rX11_init_38, rX11_init_41, rX11_init_42, sz, e1, ne_eq, not_false_eq_true, not_true_eq_false, true_and, and_true, and_self, true_imp_iff, false_imp_iff, imp_self, Bool.not_false, Bool.not_true, reduceCtorEq, ab_isJ, ab_psh, ab_cats, Bool.false_eq_true, if_true, if_false, ab_shf, ab_shw, Int.le_refl, Classical.not_not, Int.zero_add, forall_const, ↓ab_itT, ↓ab_itF, ab_anT, true_or, or_true]
  all_goals exact key
theorem cq_X11_init_3p (sa : ab_sh τ a = (12, 0)) (kq : ab_Run X 79 48 (f, cl, sl) [ab_R a] [] (ab_wr τ a 3 z) Q) : ab_Run X 79 45 (f, cl, sl) [ab_R a] (ab_psh none [ab_R z, ab_R a]) τ Q := by
  simp (disch := omega) only [rX11_init_45, sa, ne_eq, not_false_eq_true, not_true_eq_false, true_and, and_true, and_self, true_imp_iff, false_imp_iff, imp_self, Bool.not_false, Bool.not_true, reduceCtorEq, ab_isJ, ab_psh, ab_cats, Bool.false_eq_true, if_true, if_false, ab_shf, ab_shw, Int.le_refl, Classical.not_not, Int.zero_add, forall_const, ↓ab_itT, ↓ab_itF, ab_anT, true_or, or_true]
  all_goals exact kq
theorem cq_X11_init_4 (h : al_Z σ0 τ a z P D) (hf : 3 ≤ f) (hb : 177 ≤ cl ∧ 1330 ≤ sl) (key : ab_Do X 11 [ab_R z] (ab_new τ 3 0) (fun r σ' => ab_Run X 79 56 (f, cl - 1 - 176, sl - 10 - 1320) [ab_R a] (ab_psh r [ab_R z, ab_R a]) σ' Q)) : ab_Run X 79 48 (f, cl, sl) [ab_R a] [] τ Q := by
  have h2 := h.2.1
  have e1 := h.1
  have sz : ab_sh (ab_new τ 3 0) z = (3, 0) := by rw [ab_shn, if_pos e1.symm]
  clear h
  simp (disch := omega) only [rX11_init_48, rX11_init_49, rX11_init_52, rX11_init_53, sz, e1, ne_eq, not_false_eq_true, not_true_eq_false, true_and, and_true, and_self, true_imp_iff, false_imp_iff, imp_self, Bool.not_false, Bool.not_true, reduceCtorEq, ab_isJ, ab_psh, ab_cats, Bool.false_eq_true, if_true, if_false, ab_shf, ab_shw, Int.le_refl, Classical.not_not, Int.zero_add, forall_const, ↓ab_itT, ↓ab_itF, ab_anT, true_or, or_true]
  all_goals exact key
theorem cq_X11_init_4p (sa : ab_sh τ a = (12, 0)) (kq : ab_Run X 79 59 (f, cl, sl) [ab_R a] [] (ab_wr τ a 4 z) Q) : ab_Run X 79 56 (f, cl, sl) [ab_R a] (ab_psh none [ab_R z, ab_R a]) τ Q := by
  simp (disch := omega) only [rX11_init_56, sa, ne_eq, not_false_eq_true, not_true_eq_false, true_and, and_true, and_self, true_imp_iff, false_imp_iff, imp_self, Bool.not_false, Bool.not_true, reduceCtorEq, ab_isJ, ab_psh, ab_cats, Bool.false_eq_true, if_true, if_false, ab_shf, ab_shw, Int.le_refl, Classical.not_not, Int.zero_add, forall_const, ↓ab_itT, ↓ab_itF, ab_anT, true_or, or_true]
  all_goals exact kq
theorem cq_X11_init_5 (h : al_Z σ0 τ a z P D) (hf : 2 ≤ f) (hb : 3 ≤ cl ∧ 19 ≤ sl) (key : ab_Do X 74 [ab_R z] (ab_new τ 11 0) (fun r σ' => ab_Run X 79 67 (f, cl - 1 - 2, sl - 4 - 15) [ab_R a] (ab_psh r [ab_R z, ab_R a]) σ' Q)) : ab_Run X 79 59 (f, cl, sl) [ab_R a] [] τ Q := by
  have h2 := h.2.1
  have e1 := h.1
  have sz : ab_sh (ab_new τ 11 0) z = (11, 0) := by rw [ab_shn, if_pos e1.symm]
  clear h
  simp (disch := omega) only [rX11_init_59, rX11_init_60, rX11_init_63, rX11_init_64, sz, e1, ne_eq, not_false_eq_true, not_true_eq_false, true_and, and_true, and_self, true_imp_iff, false_imp_iff, imp_self, Bool.not_false, Bool.not_true, reduceCtorEq, ab_isJ, ab_psh, ab_cats, Bool.false_eq_true, if_true, if_false, ab_shf, ab_shw, Int.le_refl, Classical.not_not, Int.zero_add, forall_const, ↓ab_itT, ↓ab_itF, ab_anT, true_or, or_true]
  all_goals exact key
theorem cq_X11_init_5p (sa : ab_sh τ a = (12, 0)) (kq : ab_Run X 79 70 (f, cl, sl) [ab_R a] [] (ab_wr τ a 5 z) Q) : ab_Run X 79 67 (f, cl, sl) [ab_R a] (ab_psh none [ab_R z, ab_R a]) τ Q := by
  simp (disch := omega) only [rX11_init_67, sa, ne_eq, not_false_eq_true, not_true_eq_false, true_and, and_true, and_self, true_imp_iff, false_imp_iff, imp_self, Bool.not_false, Bool.not_true, reduceCtorEq, ab_isJ, ab_psh, ab_cats, Bool.false_eq_true, if_true, if_false, ab_shf, ab_shw, Int.le_refl, Classical.not_not, Int.zero_add, forall_const, ↓ab_itT, ↓ab_itF, ab_anT, true_or, or_true]
  all_goals exact kq
theorem cq_X11_init_6 (h : al_Z σ0 τ a z P D) (hs : ab_shT a = (12, 0)) (hb : 1 ≤ cl ∧ 8 ≤ sl) (kq : ab_Run X 79 78 (f, cl - 1, sl - 8) [ab_R a] [] (ab_wr (ab_new τ 21 8) a 6 z) Q) : ab_Run X 79 70 (f, cl, sl) [ab_R a] [] τ Q := by
  have h2 := h.2.1
  have sM : ab_sh (ab_new τ 21 8) a = (12, 0) := by rw [ab_shn, if_neg (by have := h.1; omega)]; exact h.sh hs
  have e1 := h.1
  clear h
  simp (disch := omega) only [rX11_init_70, rX11_init_71, rX11_init_73, rX11_init_75, sM, e1, ne_eq, not_false_eq_true, not_true_eq_false, true_and, and_true, and_self, true_imp_iff, false_imp_iff, imp_self, Bool.not_false, Bool.not_true, reduceCtorEq, ab_isJ, ab_psh, ab_cats, Bool.false_eq_true, if_true, if_false, ab_shf, ab_shw, Int.le_refl, Classical.not_not, Int.zero_add, forall_const, ↓ab_itT, ↓ab_itF, ab_anT, true_or, or_true]
  all_goals exact kq
theorem cq_X11_init_7 (h : al_Z σ0 τ a z P D) (hf : 3 ≤ f) (hb : 26 ≤ cl ∧ 201 ≤ sl) (key : ab_Do X 26 [ab_R z] (ab_new τ 5 0) (fun r σ' => ab_Run X 79 86 (f, cl - 1 - 25, sl - 15 - 186) [ab_R a] (ab_psh r [ab_R z, ab_R a]) σ' Q)) : ab_Run X 79 78 (f, cl, sl) [ab_R a] [] τ Q := by
  have h2 := h.2.1
  have e1 := h.1
  have sz : ab_sh (ab_new τ 5 0) z = (5, 0) := by rw [ab_shn, if_pos e1.symm]
  clear h
  simp (disch := omega) only [rX11_init_78, rX11_init_79, rX11_init_82, rX11_init_83, sz, e1, ne_eq, not_false_eq_true, not_true_eq_false, true_and, and_true, and_self, true_imp_iff, false_imp_iff, imp_self, Bool.not_false, Bool.not_true, reduceCtorEq, ab_isJ, ab_psh, ab_cats, Bool.false_eq_true, if_true, if_false, ab_shf, ab_shw, Int.le_refl, Classical.not_not, Int.zero_add, forall_const, ↓ab_itT, ↓ab_itF, ab_anT, true_or, or_true]
  all_goals exact key
theorem cq_X11_init_7p (sa : ab_sh τ a = (12, 0)) (kq : ab_Run X 79 89 (f, cl, sl) [ab_R a] [] (ab_wr τ a 7 z) Q) : ab_Run X 79 86 (f, cl, sl) [ab_R a] (ab_psh none [ab_R z, ab_R a]) τ Q := by
  simp (disch := omega) only [rX11_init_86, sa, ne_eq, not_false_eq_true, not_true_eq_false, true_and, and_true, and_self, true_imp_iff, false_imp_iff, imp_self, Bool.not_false, Bool.not_true, reduceCtorEq, ab_isJ, ab_psh, ab_cats, Bool.false_eq_true, if_true, if_false, ab_shf, ab_shw, Int.le_refl, Classical.not_not, Int.zero_add, forall_const, ↓ab_itT, ↓ab_itF, ab_anT, true_or, or_true]
  all_goals exact kq
theorem cq_X11_init_8 (h : al_Z σ0 τ a z P D) (hs : ab_shT a = (12, 0)) (kq : ab_Run X 79 94 (f, cl, sl) [ab_R a] [] (ab_wr τ a 8 0) Q) : ab_Run X 79 89 (f, cl, sl) [ab_R a] [] τ Q := by
  have h2 := h.2.1
  have sM := h.sh hs
  clear h
  simp (disch := omega) only [rX11_init_89, rX11_init_90, rX11_init_91, sM, ne_eq, not_false_eq_true, not_true_eq_false, true_and, and_true, and_self, true_imp_iff, false_imp_iff, imp_self, Bool.not_false, Bool.not_true, reduceCtorEq, ab_isJ, ab_psh, ab_cats, Bool.false_eq_true, if_true, if_false, ab_shf, ab_shw, Int.le_refl, Classical.not_not, Int.zero_add, forall_const, ↓ab_itT, ↓ab_itF, ab_anT, true_or, or_true]
  all_goals exact kq
theorem cq_X11_init_r (kq : Q none τ) : ab_Run X 79 94 (f, cl, sl) [ab_R a] [] τ Q := by
  simp (disch := omega) only [rX11_init_94, ne_eq, not_false_eq_true, not_true_eq_false, true_and, and_true, and_self, true_imp_iff, false_imp_iff, imp_self, Bool.not_false, Bool.not_true, reduceCtorEq, ab_isJ, ab_psh, ab_cats, Bool.false_eq_true, if_true, if_false, ab_shf, ab_shw, Int.le_refl, Classical.not_not, Int.zero_add, forall_const, ↓ab_itT, ↓ab_itF, ab_anT, ab_w32_id, ab_rdf_ne, ab_rdw_ne, ab_rdw_eq, ab_rdf_in, ab_td2, ab_tm2, true_or, or_true]
  all_goals exact kq
theorem cm_X8_init_31 (hP : ∀ x, P x → x < 31) (h : al_Z σ σ 31 32 P (fun _ => False)) (hQ : ∀ τ, al_Y σ τ 31 36 P → Q none τ) : ab_Do X 61 [ab_R 31] σ Q := cn_X8_init (by decide +kernel) (by decide +kernel) (by decide +kernel) (by decide +kernel) (by decide +kernel) (by decide +kernel) (by decide +kernel) (by decide +kernel) (by decide +kernel) (by decide +kernel) (fun u => absurd (hP _ u) (by decide)) h hQ
set_option maxHeartbeats 8000000 in
theorem cm_X11_init_1 (hP : ∀ x, P x → x < 1) (h : al_Z σ σ 1 2 P (fun _ => False)) (hQ : ∀ τ, al_Y σ τ 1 355 P → Q none τ) : ab_Do X 79 [ab_R 1] σ Q := by
  have kq : ab_Run X 79 4 (4, 353, 3409) [ab_R 1] [] σ Q := by
    refine cq_X11_init_0 h (by decide) (by omega) ?_
    refine cm_X7_init_2 (fun x u => by rcases u with u | u; have := hP _ u; omega; omega) (al_Z.new h (by decide +kernel)) (fun υ1 y1 => ?_)
    replace y1 : al_Y _ υ1 2 31 _ := y1
    refine cq_X11_init_0p (by rw [y1.2.2.1 1 (by decide) (by decide)]; decide +kernel) ?_
    have h1 := al_Z.sub (f0 := 0) h y1 (by decide +kernel)
    generalize ab_wr υ1 1 0 2 = τ1 at h1 ⊢
    clear y1
    refine cq_X11_init_1 h1 (by decide) (by omega) ?_
    refine cn_X8_init (by decide +kernel) (by decide +kernel) (by decide +kernel) (by decide +kernel) (by decide +kernel) (by decide +kernel) (by decide +kernel) (by decide +kernel) (by decide +kernel) (by decide +kernel) (fun u => by rcases u with u | u; exact absurd (hP _ u) (by omega); omega) (al_Z.new h1 (by decide +kernel)) (fun υ2 y2 => ?_)
    replace y2 : al_Y _ υ2 31 36 _ := y2
    refine cq_X11_init_1p (by rw [y2.2.2.1 1 (by decide) (by decide)]; decide +kernel) ?_
    have h2 := al_Z.sub (f0 := 1) h1 y2 (by decide +kernel)
    generalize ab_wr υ2 1 1 31 = τ2 at h2 ⊢
    clear y2
    refine cq_X11_init_2 h2 (by decide) (by omega) ?_
    refine cm_X3_init_36 (fun x u => by rcases u with u | u; have := hP _ u; omega; omega) (al_Z.new h2 (by decide +kernel)) (fun υ3 y3 => ?_)
    replace y3 : al_Y _ υ3 36 134 _ := y3
    refine cq_X11_init_2p (by rw [y3.2.2.1 1 (by decide) (by decide)]; decide +kernel) ?_
    have h3 := al_Z.sub (f0 := 2) h2 y3 (by decide +kernel)
    generalize ab_wr υ3 1 2 36 = τ3 at h3 ⊢
    clear y3
    refine cq_X11_init_3 h3 (by decide) (by omega) ?_
    refine cm_X6_init_134 (fun x u => by rcases u with u | u; have := hP _ u; omega; omega) (al_Z.new h3 (by decide +kernel)) (fun υ4 y4 => ?_)
    replace y4 : al_Y _ υ4 134 148 _ := y4
    refine cq_X11_init_3p (by rw [y4.2.2.1 1 (by decide) (by decide)]; decide +kernel) ?_
    have h4 := al_Z.sub (f0 := 3) h3 y4 (by decide +kernel)
    generalize ab_wr υ4 1 3 134 = τ4 at h4 ⊢
    clear y4
    refine cq_X11_init_4 h4 (by decide) (by omega) ?_
    refine cm_X2_init_148 (fun x u => by rcases u with u | u; have := hP _ u; omega; omega) (al_Z.new h4 (by decide +kernel)) (fun υ5 y5 => ?_)
    replace y5 : al_Y _ υ5 148 325 _ := y5
    refine cq_X11_init_4p (by rw [y5.2.2.1 1 (by decide) (by decide)]; decide +kernel) ?_
    have h5 := al_Z.sub (f0 := 4) h4 y5 (by decide +kernel)
    generalize ab_wr υ5 1 4 148 = τ5 at h5 ⊢
    clear y5
    refine cq_X11_init_5 h5 (by decide) (by omega) ?_
    refine cn_X10_init (by decide +kernel) (by decide +kernel) (by decide +kernel) (by decide +kernel) (by decide +kernel) (by decide +kernel) (fun u => by rcases u with u | u; exact absurd (hP _ u) (by omega); omega) (al_Z.new h5 (by decide +kernel)) (fun υ6 y6 => ?_)
    replace y6 : al_Y _ υ6 325 328 _ := y6
    refine cq_X11_init_5p (by rw [y6.2.2.1 1 (by decide) (by decide)]; decide +kernel) ?_
    have h6 := al_Z.sub (f0 := 5) h5 y6 (by decide +kernel)
    generalize ab_wr υ6 1 5 325 = τ6 at h6 ⊢
    clear y6
    refine cq_X11_init_6 h6 (by decide +kernel) (by omega) ?_
    have h7 := al_Z.arr (z' := 329) (f0 := 6) h6 (t := 21) (n := 8) (by decide +kernel) (by decide +kernel) (by decide) (by decide +kernel) (by decide)
    generalize ab_wr (ab_new τ6 21 8) 1 6 328 = τ7 at h7 ⊢
    refine cq_X11_init_7 h7 (by decide) (by omega) ?_
    refine cm_X4_init_329 (fun x u => by rcases u with u | u; have := hP _ u; omega; omega) (al_Z.new h7 (by decide +kernel)) (fun υ8 y8 => ?_)
    replace y8 : al_Y _ υ8 329 355 _ := y8
    refine cq_X11_init_7p (by rw [y8.2.2.1 1 (by decide) (by decide)]; decide +kernel) ?_
    have h8 := al_Z.sub (f0 := 7) h7 y8 (by decide +kernel)
    generalize ab_wr υ8 1 7 329 = τ8 at h8 ⊢
    clear y8
    refine cq_X11_init_8 h8 (by decide +kernel) ?_
    have h9 := al_Z.val (f0 := 8) (n := 0) h8 (by decide +kernel)
    generalize ab_wr τ8 1 8 0 = τ9 at h9 ⊢
    have kr := hQ _ (al_Z.done h9 (fun f f1 => by
      have q : f = 0 ∨ f = 1 ∨ f = 2 ∨ f = 3 ∨ f = 4 ∨ f = 5 ∨ f = 6 ∨ f = 7 ∨ 8 ≤ f := by omega
      rcases q with rfl | rfl | rfl | rfl | rfl | rfl | rfl | rfl | q
      · exact Or.inl (Or.inl (Or.inl (Or.inl (Or.inl (Or.inl (Or.inl (Or.inl (Or.inl (Or.inr rfl)))))))))
      · exact Or.inl (Or.inl (Or.inl (Or.inl (Or.inl (Or.inl (Or.inl (Or.inl (Or.inr rfl))))))))
      · exact Or.inl (Or.inl (Or.inl (Or.inl (Or.inl (Or.inl (Or.inl (Or.inr rfl)))))))
      · exact Or.inl (Or.inl (Or.inl (Or.inl (Or.inl (Or.inl (Or.inr rfl))))))
      · exact Or.inl (Or.inl (Or.inl (Or.inl (Or.inl (Or.inr rfl)))))
      · exact Or.inl (Or.inl (Or.inl (Or.inl (Or.inr rfl))))
      · exact Or.inl (Or.inl (Or.inl (Or.inr rfl)))
      · exact Or.inl (Or.inl (Or.inr rfl))
      · right; rw [al_row (l := [2, 31, 36, 134, 148, 325, 328, 329]) (by decide +kernel)]; exact ac_getD_ge (by simp only [List.length_cons, List.length_nil]; omega)) (fun u => by have := hP _ u; omega))
    clear hQ
    exact cq_X11_init_r kr
  clear hQ h
  simp (disch := omega) only [dn_X11_init, rX11_init_0, rX11_init_1, ne_eq, not_false_eq_true, not_true_eq_false, true_and, and_true, and_self, true_imp_iff, false_imp_iff, imp_self, Bool.not_false, Bool.not_true, reduceCtorEq, ab_isJ, ab_psh, ab_cats, Bool.false_eq_true, if_true, if_false, ab_shf, ab_shw, Int.le_refl, Classical.not_not, Int.zero_add, forall_const, ↓ab_itT, ↓ab_itF, ab_anT, true_or, or_true]
  all_goals exact kq
end
