/-! MAKING: constructors without loops (written by gen/gcons2.py) -/
section
variable {X : ab_X} {σ τ σ0 : ab_S} {Q : Option ab_V → ab_S → Prop} {a : Int} {P : Int → Prop} {f cl sl : Nat}
theorem cn_X9_init_0 {D : Int → Prop} (hr : al_iL.getD a.toNat [] = [a + 1]) (hs : ab_shT a = (10, 0)) (s1 : ab_shT (a + 1) = (23, 1000)) (r1 : al_iL.getD (a + 1).toNat [] = []) (h : al_Z σ0 τ a (a + 1) P D) (hb : 1 ≤ cl ∧ 1000 ≤ sl) (key : ∀ υ cl' sl', cl' + 1 = cl → sl' + 1000 = sl → al_Z σ0 υ a (a + 2) P (fun f => D f ∨ f = 0) → ab_Run X 66 13 (f, cl', sl') [ab_R a] [] υ Q) : ab_Run X 66 4 (f, cl, sl) [ab_R a] [] τ Q := by
  have h2 := h.2.1
  have kq := key _ (cl - 1) (sl - 1000) (by omega) (by omega) (al_Z.arr (f0 := 0) h s1 r1 (by decide) (by rw [al_row hr]; rfl) (by omega))
  have sM : ab_sh (ab_new τ 23 1000) a = (10, 0) := by rw [ab_shn, if_neg (by have := h.1; omega)]; exact h.sh hs
  have e1 := h.1
  clear key h
  simp (disch := omega) only [rX9_init_4, rX9_init_5, rX9_init_8, rX9_init_10, sM, e1, ne_eq, not_false_eq_true, not_true_eq_false, true_and, and_true, and_self, true_imp_iff, false_imp_iff, imp_self, Bool.not_false, Bool.not_true, reduceCtorEq, ab_isJ, ab_psh, ab_cats, Bool.false_eq_true, if_true, if_false, ab_shf, ab_shw, Int.le_refl, Classical.not_not, Int.zero_add, forall_const, ↓ab_itT, ↓ab_itF, ab_anT, true_or, or_true]
  all_goals exact kq
theorem cn_X9_init (hr : al_iL.getD a.toNat [] = [a + 1]) (hs : ab_shT a = (10, 0)) (s1 : ab_shT (a + 1) = (23, 1000)) (r1 : al_iL.getD (a + 1).toNat [] = []) (hP : ¬ P a) (h : al_Z σ σ a (a + 1) P (fun _ => False)) (hQ : ∀ τ, al_Y σ τ a (a + 2) P → Q none τ) : ab_Do X 66 [ab_R a] σ Q := by
  have ha := h.2.1.1
  have kq : ab_Run X 66 4 (1, 1, 1000) [ab_R a] [] σ Q := by
    refine cn_X9_init_0 hr hs s1 r1 h (by decide) (fun τ1 c1 d1 e1 f1 h1 => ?_)
    have kr := hQ τ1 (al_Z.done h1 (fun f f1 => by
      have q : f = 0 ∨ 1 ≤ f := by omega
      rcases q with rfl | q
      · exact Or.inl (Or.inr rfl)
      · right; rw [al_row hr]; exact ac_getD_ge (by simp only [List.length_cons, List.length_nil]; omega)) hP)
    clear hQ
    simp (disch := omega) only [rX9_init_13, ne_eq, not_false_eq_true, not_true_eq_false, true_and, and_true, and_self, true_imp_iff, false_imp_iff, imp_self, Bool.not_false, Bool.not_true, reduceCtorEq, ab_isJ, ab_psh, ab_cats, Bool.false_eq_true, if_true, if_false, ab_shf, ab_shw, Int.le_refl, Classical.not_not, Int.zero_add, forall_const, ↓ab_itT, ↓ab_itF, ab_anT, ab_w32_id, ab_rdf_ne, ab_rdw_ne, ab_rdw_eq, ab_rdf_in, ab_td2, ab_tm2]
    all_goals exact kr
  clear hQ h
  simp (disch := omega) only [dn_X9_init, rX9_init_0, rX9_init_1, ne_eq, not_false_eq_true, not_true_eq_false, true_and, and_true, and_self, true_imp_iff, false_imp_iff, imp_self, Bool.not_false, Bool.not_true, reduceCtorEq, ab_isJ, ab_psh, ab_cats, Bool.false_eq_true, if_true, if_false, ab_shf, ab_shw, Int.le_refl, Classical.not_not, Int.zero_add, forall_const, ↓ab_itT, ↓ab_itF, ab_anT, true_or, or_true]
  all_goals exact kq
theorem cn_X1_init_0 {D : Int → Prop} (hr : al_iL.getD a.toNat [] = [0, 0, 0, a + 1, a + 2]) (hs : ab_shT a = (2, 0)) (s1 : ab_shT (a + 1) = (21, 2)) (r1 : al_iL.getD (a + 1).toNat [] = []) (s2 : ab_shT (a + 2) = (21, 12)) (r2 : al_iL.getD (a + 2).toNat [] = []) (h : al_Z σ0 τ a (a + 1) P D) (hb : 1 ≤ cl ∧ 2 ≤ sl) (key : ∀ υ cl' sl', cl' + 1 = cl → sl' + 2 = sl → al_Z σ0 υ a (a + 2) P (fun f => D f ∨ f = 3) → ab_Run X 5 11 (f, cl', sl') [ab_R a] [] υ Q) : ab_Run X 5 4 (f, cl, sl) [ab_R a] [] τ Q := by
  have h2 := h.2.1
  have kq := key _ (cl - 1) (sl - 2) (by omega) (by omega) (al_Z.arr (f0 := 3) h s1 r1 (by decide) (by rw [al_row hr]; rfl) (by omega))
  have sM : ab_sh (ab_new τ 21 2) a = (2, 0) := by rw [ab_shn, if_neg (by have := h.1; omega)]; exact h.sh hs
  have e1 := h.1
  clear key h
  simp (disch := omega) only [rX1_init_4, rX1_init_5, rX1_init_6, rX1_init_8, sM, e1, ne_eq, not_false_eq_true, not_true_eq_false, true_and, and_true, and_self, true_imp_iff, false_imp_iff, imp_self, Bool.not_false, Bool.not_true, reduceCtorEq, ab_isJ, ab_psh, ab_cats, Bool.false_eq_true, if_true, if_false, ab_shf, ab_shw, Int.le_refl, Classical.not_not, Int.zero_add, forall_const, ↓ab_itT, ↓ab_itF, ab_anT, true_or, or_true]
  all_goals exact kq
theorem cn_X1_init_1 {D : Int → Prop} (hr : al_iL.getD a.toNat [] = [0, 0, 0, a + 1, a + 2]) (hs : ab_shT a = (2, 0)) (s1 : ab_shT (a + 1) = (21, 2)) (r1 : al_iL.getD (a + 1).toNat [] = []) (s2 : ab_shT (a + 2) = (21, 12)) (r2 : al_iL.getD (a + 2).toNat [] = []) (h : al_Z σ0 τ a (a + 2) P D) (hb : 1 ≤ cl ∧ 12 ≤ sl) (key : ∀ υ cl' sl', cl' + 1 = cl → sl' + 12 = sl → al_Z σ0 υ a (a + 3) P (fun f => D f ∨ f = 4) → ab_Run X 5 19 (f, cl', sl') [ab_R a] [] υ Q) : ab_Run X 5 11 (f, cl, sl) [ab_R a] [] τ Q := by
  have h2 := h.2.1
  have kq := key _ (cl - 1) (sl - 12) (by omega) (by omega) (al_Z.arr (f0 := 4) h s2 r2 (by decide) (by rw [al_row hr]; rfl) (by omega))
  have sM : ab_sh (ab_new τ 21 12) a = (2, 0) := by rw [ab_shn, if_neg (by have := h.1; omega)]; exact h.sh hs
  have e1 := h.1
  clear key h
  simp (disch := omega) only [rX1_init_11, rX1_init_12, rX1_init_14, rX1_init_16, sM, e1, ne_eq, not_false_eq_true, not_true_eq_false, true_and, and_true, and_self, true_imp_iff, false_imp_iff, imp_self, Bool.not_false, Bool.not_true, reduceCtorEq, ab_isJ, ab_psh, ab_cats, Bool.false_eq_true, if_true, if_false, ab_shf, ab_shw, Int.le_refl, Classical.not_not, Int.zero_add, forall_const, ↓ab_itT, ↓ab_itF, ab_anT, true_or, or_true]
  all_goals exact kq
theorem cn_X1_init (hr : al_iL.getD a.toNat [] = [0, 0, 0, a + 1, a + 2]) (hs : ab_shT a = (2, 0)) (s1 : ab_shT (a + 1) = (21, 2)) (r1 : al_iL.getD (a + 1).toNat [] = []) (s2 : ab_shT (a + 2) = (21, 12)) (r2 : al_iL.getD (a + 2).toNat [] = []) (hP : ¬ P a) (h : al_Z σ σ a (a + 1) P (fun _ => False)) (hQ : ∀ τ, al_Y σ τ a (a + 3) P → Q none τ) : ab_Do X 5 [ab_R a] σ Q := by
  have ha := h.2.1.1
  have kq : ab_Run X 5 4 (1, 2, 14) [ab_R a] [] σ Q := by
    refine cn_X1_init_0 hr hs s1 r1 s2 r2 h (by decide) (fun τ1 c1 d1 e1 f1 h1 => ?_)
    refine cn_X1_init_1 hr hs s1 r1 s2 r2 h1 (by omega) (fun τ2 c2 d2 e2 f2 h2 => ?_)
    have kr := hQ τ2 (al_Z.done h2 (fun f f1 => by
      have q : f = 0 ∨ f = 1 ∨ f = 2 ∨ f = 3 ∨ f = 4 ∨ 5 ≤ f := by omega
      rcases q with rfl | rfl | rfl | rfl | rfl | q
      · right; rw [al_row hr]; rfl
      · right; rw [al_row hr]; rfl
      · right; rw [al_row hr]; rfl
      · exact Or.inl (Or.inl (Or.inr rfl))
      · exact Or.inl (Or.inr rfl)
      · right; rw [al_row hr]; exact ac_getD_ge (by simp only [List.length_cons, List.length_nil]; omega)) hP)
    clear hQ
    simp (disch := omega) only [rX1_init_19, ne_eq, not_false_eq_true, not_true_eq_false, true_and, and_true, and_self, true_imp_iff, false_imp_iff, imp_self, Bool.not_false, Bool.not_true, reduceCtorEq, ab_isJ, ab_psh, ab_cats, Bool.false_eq_true, if_true, if_false, ab_shf, ab_shw, Int.le_refl, Classical.not_not, Int.zero_add, forall_const, ↓ab_itT, ↓ab_itF, ab_anT, ab_w32_id, ab_rdf_ne, ab_rdw_ne, ab_rdw_eq, ab_rdf_in, ab_td2, ab_tm2]
    all_goals exact kr
  clear hQ h
  simp (disch := omega) only [dn_X1_init, rX1_init_0, rX1_init_1, ne_eq, not_false_eq_true, not_true_eq_false, true_and, and_true, and_self, true_imp_iff, false_imp_iff, imp_self, Bool.not_false, Bool.not_true, reduceCtorEq, ab_isJ, ab_psh, ab_cats, Bool.false_eq_true, if_true, if_false, ab_shf, ab_shw, Int.le_refl, Classical.not_not, Int.zero_add, forall_const, ↓ab_itT, ↓ab_itF, ab_anT, true_or, or_true]
  all_goals exact kq
theorem cn_X5_init_0 {D : Int → Prop} {z : Int} (hr : al_iL.getD a.toNat [] = [0, 0, 0, 0, 0, 0, 0, 0, 0, -1]) (hs : ab_shT a = (6, 0)) (h : al_Z σ0 τ a z P D) (key : ∀ υ, al_Z σ0 υ a z P (fun f => D f ∨ f = 9) → ab_Run X 30 9 (f, cl, sl) [ab_R a] [] υ Q) : ab_Run X 30 4 (f, cl, sl) [ab_R a] [] τ Q := by
  have h2 := h.2.1
  have kq := key _ (al_Z.val (f0 := 9) (n := (-1)) h (by rw [al_row hr]; rfl))
  have sM := h.sh hs
  clear key h
  simp (disch := omega) only [rX5_init_4, rX5_init_5, rX5_init_6, sM, ne_eq, not_false_eq_true, not_true_eq_false, true_and, and_true, and_self, true_imp_iff, false_imp_iff, imp_self, Bool.not_false, Bool.not_true, reduceCtorEq, ab_isJ, ab_psh, ab_cats, Bool.false_eq_true, if_true, if_false, ab_shf, ab_shw, Int.le_refl, Classical.not_not, Int.zero_add, forall_const, ↓ab_itT, ↓ab_itF, ab_anT, true_or, or_true]
  all_goals exact kq
theorem cn_X5_init (hr : al_iL.getD a.toNat [] = [0, 0, 0, 0, 0, 0, 0, 0, 0, -1]) (hs : ab_shT a = (6, 0)) (hP : ¬ P a) (h : al_Z σ σ a (a + 1) P (fun _ => False)) (hQ : ∀ τ, al_Y σ τ a (a + 1) P → Q none τ) : ab_Do X 30 [ab_R a] σ Q := by
  have ha := h.2.1.1
  have kq : ab_Run X 30 4 (1, 0, 0) [ab_R a] [] σ Q := by
    refine cn_X5_init_0 hr hs h (fun τ1 h1 => ?_)
    have kr := hQ τ1 (al_Z.done h1 (fun f f1 => by
      have q : f = 0 ∨ f = 1 ∨ f = 2 ∨ f = 3 ∨ f = 4 ∨ f = 5 ∨ f = 6 ∨ f = 7 ∨ f = 8 ∨ f = 9 ∨ 10 ≤ f := by omega
      rcases q with rfl | rfl | rfl | rfl | rfl | rfl | rfl | rfl | rfl | rfl | q
      · right; rw [al_row hr]; rfl
      · right; rw [al_row hr]; rfl
      · right; rw [al_row hr]; rfl
      · right; rw [al_row hr]; rfl
      · right; rw [al_row hr]; rfl
      · right; rw [al_row hr]; rfl
      · right; rw [al_row hr]; rfl
      · right; rw [al_row hr]; rfl
      · right; rw [al_row hr]; rfl
      · exact Or.inl (Or.inr rfl)
      · right; rw [al_row hr]; exact ac_getD_ge (by simp only [List.length_cons, List.length_nil]; omega)) hP)
    clear hQ
    simp (disch := omega) only [rX5_init_9, ne_eq, not_false_eq_true, not_true_eq_false, true_and, and_true, and_self, true_imp_iff, false_imp_iff, imp_self, Bool.not_false, Bool.not_true, reduceCtorEq, ab_isJ, ab_psh, ab_cats, Bool.false_eq_true, if_true, if_false, ab_shf, ab_shw, Int.le_refl, Classical.not_not, Int.zero_add, forall_const, ↓ab_itT, ↓ab_itF, ab_anT, ab_w32_id, ab_rdf_ne, ab_rdw_ne, ab_rdw_eq, ab_rdf_in, ab_td2, ab_tm2]
    all_goals exact kr
  clear hQ h
  simp (disch := omega) only [dn_X5_init, rX5_init_0, rX5_init_1, ne_eq, not_false_eq_true, not_true_eq_false, true_and, and_true, and_self, true_imp_iff, false_imp_iff, imp_self, Bool.not_false, Bool.not_true, reduceCtorEq, ab_isJ, ab_psh, ab_cats, Bool.false_eq_true, if_true, if_false, ab_shf, ab_shw, Int.le_refl, Classical.not_not, Int.zero_add, forall_const, ↓ab_itT, ↓ab_itF, ab_anT, true_or, or_true]
  all_goals exact kq
theorem cn_X8_init_0 {D : Int → Prop} (hr : al_iL.getD a.toNat [] = [a + 1, a + 2, a + 3, a + 4]) (hs : ab_shT a = (9, 0)) (s1 : ab_shT (a + 1) = (21, 5)) (r1 : al_iL.getD (a + 1).toNat [] = []) (s2 : ab_shT (a + 2) = (21, 5)) (r2 : al_iL.getD (a + 2).toNat [] = []) (s3 : ab_shT (a + 3) = (24, 5)) (r3 : al_iL.getD (a + 3).toNat [] = []) (s4 : ab_shT (a + 4) = (21, 6)) (r4 : al_iL.getD (a + 4).toNat [] = []) (h : al_Z σ0 τ a (a + 1) P D) (hb : 1 ≤ cl ∧ 5 ≤ sl) (key : ∀ υ cl' sl', cl' + 1 = cl → sl' + 5 = sl → al_Z σ0 υ a (a + 2) P (fun f => D f ∨ f = 0) → ab_Run X 61 11 (f, cl', sl') [ab_R a] [] υ Q) : ab_Run X 61 4 (f, cl, sl) [ab_R a] [] τ Q := by
  have h2 := h.2.1
  have kq := key _ (cl - 1) (sl - 5) (by omega) (by omega) (al_Z.arr (f0 := 0) h s1 r1 (by decide) (by rw [al_row hr]; rfl) (by omega))
  have sM : ab_sh (ab_new τ 21 5) a = (9, 0) := by rw [ab_shn, if_neg (by have := h.1; omega)]; exact h.sh hs
  have e1 := h.1
  clear key h
  simp (disch := omega) only [rX8_init_4, rX8_init_5, rX8_init_6, rX8_init_8, sM, e1, ne_eq, not_false_eq_true, not_true_eq_false, true_and, and_true, and_self, true_imp_iff, false_imp_iff, imp_self, Bool.not_false, Bool.not_true, reduceCtorEq, ab_isJ, ab_psh, ab_cats, Bool.false_eq_true, if_true, if_false, ab_shf, ab_shw, Int.le_refl, Classical.not_not, Int.zero_add, forall_const, ↓ab_itT, ↓ab_itF, ab_anT, true_or, or_true]
  all_goals exact kq
theorem cn_X8_init_1 {D : Int → Prop} (hr : al_iL.getD a.toNat [] = [a + 1, a + 2, a + 3, a + 4]) (hs : ab_shT a = (9, 0)) (s1 : ab_shT (a + 1) = (21, 5)) (r1 : al_iL.getD (a + 1).toNat [] = []) (s2 : ab_shT (a + 2) = (21, 5)) (r2 : al_iL.getD (a + 2).toNat [] = []) (s3 : ab_shT (a + 3) = (24, 5)) (r3 : al_iL.getD (a + 3).toNat [] = []) (s4 : ab_shT (a + 4) = (21, 6)) (r4 : al_iL.getD (a + 4).toNat [] = []) (h : al_Z σ0 τ a (a + 2) P D) (hb : 1 ≤ cl ∧ 5 ≤ sl) (key : ∀ υ cl' sl', cl' + 1 = cl → sl' + 5 = sl → al_Z σ0 υ a (a + 3) P (fun f => D f ∨ f = 1) → ab_Run X 61 18 (f, cl', sl') [ab_R a] [] υ Q) : ab_Run X 61 11 (f, cl, sl) [ab_R a] [] τ Q := by
  have h2 := h.2.1
  have kq := key _ (cl - 1) (sl - 5) (by omega) (by omega) (al_Z.arr (f0 := 1) h s2 r2 (by decide) (by rw [al_row hr]; rfl) (by omega))
  have sM : ab_sh (ab_new τ 21 5) a = (9, 0) := by rw [ab_shn, if_neg (by have := h.1; omega)]; exact h.sh hs
  have e1 := h.1
  clear key h
  simp (disch := omega) only [rX8_init_11, rX8_init_12, rX8_init_13, rX8_init_15, sM, e1, ne_eq, not_false_eq_true, not_true_eq_false, true_and, and_true, and_self, true_imp_iff, false_imp_iff, imp_self, Bool.not_false, Bool.not_true, reduceCtorEq, ab_isJ, ab_psh, ab_cats, Bool.false_eq_true, if_true, if_false, ab_shf, ab_shw, Int.le_refl, Classical.not_not, Int.zero_add, forall_const, ↓ab_itT, ↓ab_itF, ab_anT, true_or, or_true]
  all_goals exact kq
theorem cn_X8_init_2 {D : Int → Prop} (hr : al_iL.getD a.toNat [] = [a + 1, a + 2, a + 3, a + 4]) (hs : ab_shT a = (9, 0)) (s1 : ab_shT (a + 1) = (21, 5)) (r1 : al_iL.getD (a + 1).toNat [] = []) (s2 : ab_shT (a + 2) = (21, 5)) (r2 : al_iL.getD (a + 2).toNat [] = []) (s3 : ab_shT (a + 3) = (24, 5)) (r3 : al_iL.getD (a + 3).toNat [] = []) (s4 : ab_shT (a + 4) = (21, 6)) (r4 : al_iL.getD (a + 4).toNat [] = []) (h : al_Z σ0 τ a (a + 3) P D) (hb : 1 ≤ cl ∧ 5 ≤ sl) (key : ∀ υ cl' sl', cl' + 1 = cl → sl' + 5 = sl → al_Z σ0 υ a (a + 4) P (fun f => D f ∨ f = 2) → ab_Run X 61 25 (f, cl', sl') [ab_R a] [] υ Q) : ab_Run X 61 18 (f, cl, sl) [ab_R a] [] τ Q := by
  have h2 := h.2.1
  have kq := key _ (cl - 1) (sl - 5) (by omega) (by omega) (al_Z.arr (f0 := 2) h s3 r3 (by decide) (by rw [al_row hr]; rfl) (by omega))
  have sM : ab_sh (ab_new τ 24 5) a = (9, 0) := by rw [ab_shn, if_neg (by have := h.1; omega)]; exact h.sh hs
  have e1 := h.1
  clear key h
  simp (disch := omega) only [rX8_init_18, rX8_init_19, rX8_init_20, rX8_init_22, sM, e1, ne_eq, not_false_eq_true, not_true_eq_false, true_and, and_true, and_self, true_imp_iff, false_imp_iff, imp_self, Bool.not_false, Bool.not_true, reduceCtorEq, ab_isJ, ab_psh, ab_cats, Bool.false_eq_true, if_true, if_false, ab_shf, ab_shw, Int.le_refl, Classical.not_not, Int.zero_add, forall_const, ↓ab_itT, ↓ab_itF, ab_anT, true_or, or_true]
  all_goals exact kq
theorem cn_X8_init_3 {D : Int → Prop} (hr : al_iL.getD a.toNat [] = [a + 1, a + 2, a + 3, a + 4]) (hs : ab_shT a = (9, 0)) (s1 : ab_shT (a + 1) = (21, 5)) (r1 : al_iL.getD (a + 1).toNat [] = []) (s2 : ab_shT (a + 2) = (21, 5)) (r2 : al_iL.getD (a + 2).toNat [] = []) (s3 : ab_shT (a + 3) = (24, 5)) (r3 : al_iL.getD (a + 3).toNat [] = []) (s4 : ab_shT (a + 4) = (21, 6)) (r4 : al_iL.getD (a + 4).toNat [] = []) (h : al_Z σ0 τ a (a + 4) P D) (hb : 1 ≤ cl ∧ 6 ≤ sl) (key : ∀ υ cl' sl', cl' + 1 = cl → sl' + 6 = sl → al_Z σ0 υ a (a + 5) P (fun f => D f ∨ f = 3) → ab_Run X 61 33 (f, cl', sl') [ab_R a] [] υ Q) : ab_Run X 61 25 (f, cl, sl) [ab_R a] [] τ Q := by
  have h2 := h.2.1
  have kq := key _ (cl - 1) (sl - 6) (by omega) (by omega) (al_Z.arr (f0 := 3) h s4 r4 (by decide) (by rw [al_row hr]; rfl) (by omega))
  have sM : ab_sh (ab_new τ 21 6) a = (9, 0) := by rw [ab_shn, if_neg (by have := h.1; omega)]; exact h.sh hs
  have e1 := h.1
  clear key h
  simp (disch := omega) only [rX8_init_25, rX8_init_26, rX8_init_28, rX8_init_30, sM, e1, ne_eq, not_false_eq_true, not_true_eq_false, true_and, and_true, and_self, true_imp_iff, false_imp_iff, imp_self, Bool.not_false, Bool.not_true, reduceCtorEq, ab_isJ, ab_psh, ab_cats, Bool.false_eq_true, if_true, if_false, ab_shf, ab_shw, Int.le_refl, Classical.not_not, Int.zero_add, forall_const, ↓ab_itT, ↓ab_itF, ab_anT, true_or, or_true]
  all_goals exact kq
theorem cn_X8_init (hr : al_iL.getD a.toNat [] = [a + 1, a + 2, a + 3, a + 4]) (hs : ab_shT a = (9, 0)) (s1 : ab_shT (a + 1) = (21, 5)) (r1 : al_iL.getD (a + 1).toNat [] = []) (s2 : ab_shT (a + 2) = (21, 5)) (r2 : al_iL.getD (a + 2).toNat [] = []) (s3 : ab_shT (a + 3) = (24, 5)) (r3 : al_iL.getD (a + 3).toNat [] = []) (s4 : ab_shT (a + 4) = (21, 6)) (r4 : al_iL.getD (a + 4).toNat [] = []) (hP : ¬ P a) (h : al_Z σ σ a (a + 1) P (fun _ => False)) (hQ : ∀ τ, al_Y σ τ a (a + 5) P → Q none τ) : ab_Do X 61 [ab_R a] σ Q := by
  have ha := h.2.1.1
  have kq : ab_Run X 61 4 (1, 4, 21) [ab_R a] [] σ Q := by
    refine cn_X8_init_0 hr hs s1 r1 s2 r2 s3 r3 s4 r4 h (by decide) (fun τ1 c1 d1 e1 f1 h1 => ?_)
    refine cn_X8_init_1 hr hs s1 r1 s2 r2 s3 r3 s4 r4 h1 (by omega) (fun τ2 c2 d2 e2 f2 h2 => ?_)
    refine cn_X8_init_2 hr hs s1 r1 s2 r2 s3 r3 s4 r4 h2 (by omega) (fun τ3 c3 d3 e3 f3 h3 => ?_)
    refine cn_X8_init_3 hr hs s1 r1 s2 r2 s3 r3 s4 r4 h3 (by omega) (fun τ4 c4 d4 e4 f4 h4 => ?_)
    have kr := hQ τ4 (al_Z.done h4 (fun f f1 => by
      have q : f = 0 ∨ f = 1 ∨ f = 2 ∨ f = 3 ∨ 4 ≤ f := by omega
      rcases q with rfl | rfl | rfl | rfl | q
      · exact Or.inl (Or.inl (Or.inl (Or.inl (Or.inr rfl))))
      · exact Or.inl (Or.inl (Or.inl (Or.inr rfl)))
      · exact Or.inl (Or.inl (Or.inr rfl))
      · exact Or.inl (Or.inr rfl)
      · right; rw [al_row hr]; exact ac_getD_ge (by simp only [List.length_cons, List.length_nil]; omega)) hP)
    clear hQ
    simp (disch := omega) only [rX8_init_33, ne_eq, not_false_eq_true, not_true_eq_false, true_and, and_true, and_self, true_imp_iff, false_imp_iff, imp_self, Bool.not_false, Bool.not_true, reduceCtorEq, ab_isJ, ab_psh, ab_cats, Bool.false_eq_true, if_true, if_false, ab_shf, ab_shw, Int.le_refl, Classical.not_not, Int.zero_add, forall_const, ↓ab_itT, ↓ab_itF, ab_anT, ab_w32_id, ab_rdf_ne, ab_rdw_ne, ab_rdw_eq, ab_rdf_in, ab_td2, ab_tm2]
    all_goals exact kr
  clear hQ h
  simp (disch := omega) only [dn_X8_init, rX8_init_0, rX8_init_1, ne_eq, not_false_eq_true, not_true_eq_false, true_and, and_true, and_self, true_imp_iff, false_imp_iff, imp_self, Bool.not_false, Bool.not_true, reduceCtorEq, ab_isJ, ab_psh, ab_cats, Bool.false_eq_true, if_true, if_false, ab_shf, ab_shw, Int.le_refl, Classical.not_not, Int.zero_add, forall_const, ↓ab_itT, ↓ab_itF, ab_anT, true_or, or_true]
  all_goals exact kq
theorem cn_X0_init_0 {D : Int → Prop} (hr : al_iL.getD a.toNat [] = [0, a + 1, a + 2, a + 3, a + 4, a + 5]) (hs : ab_shT a = (1, 0)) (s1 : ab_shT (a + 1) = (21, 6)) (r1 : al_iL.getD (a + 1).toNat [] = []) (s2 : ab_shT (a + 2) = (21, 6)) (r2 : al_iL.getD (a + 2).toNat [] = []) (s3 : ab_shT (a + 3) = (21, 7)) (r3 : al_iL.getD (a + 3).toNat [] = []) (s4 : ab_shT (a + 4) = (21, 7)) (r4 : al_iL.getD (a + 4).toNat [] = []) (s5 : ab_shT (a + 5) = (21, 7)) (r5 : al_iL.getD (a + 5).toNat [] = []) (h : al_Z σ0 τ a (a + 1) P D) (hb : 1 ≤ cl ∧ 6 ≤ sl) (key : ∀ υ cl' sl', cl' + 1 = cl → sl' + 6 = sl → al_Z σ0 υ a (a + 2) P (fun f => D f ∨ f = 1) → ab_Run X 0 12 (f, cl', sl') [ab_R a] [] υ Q) : ab_Run X 0 4 (f, cl, sl) [ab_R a] [] τ Q := by
  have h2 := h.2.1
  have kq := key _ (cl - 1) (sl - 6) (by omega) (by omega) (al_Z.arr (f0 := 1) h s1 r1 (by decide) (by rw [al_row hr]; rfl) (by omega))
  have sM : ab_sh (ab_new τ 21 6) a = (1, 0) := by rw [ab_shn, if_neg (by have := h.1; omega)]; exact h.sh hs
  have e1 := h.1
  clear key h
  simp (disch := omega) only [rX0_init_4, rX0_init_5, rX0_init_7, rX0_init_9, sM, e1, ne_eq, not_false_eq_true, not_true_eq_false, true_and, and_true, and_self, true_imp_iff, false_imp_iff, imp_self, Bool.not_false, Bool.not_true, reduceCtorEq, ab_isJ, ab_psh, ab_cats, Bool.false_eq_true, if_true, if_false, ab_shf, ab_shw, Int.le_refl, Classical.not_not, Int.zero_add, forall_const, ↓ab_itT, ↓ab_itF, ab_anT, true_or, or_true]
  all_goals exact kq
theorem cn_X0_init_1 {D : Int → Prop} (hr : al_iL.getD a.toNat [] = [0, a + 1, a + 2, a + 3, a + 4, a + 5]) (hs : ab_shT a = (1, 0)) (s1 : ab_shT (a + 1) = (21, 6)) (r1 : al_iL.getD (a + 1).toNat [] = []) (s2 : ab_shT (a + 2) = (21, 6)) (r2 : al_iL.getD (a + 2).toNat [] = []) (s3 : ab_shT (a + 3) = (21, 7)) (r3 : al_iL.getD (a + 3).toNat [] = []) (s4 : ab_shT (a + 4) = (21, 7)) (r4 : al_iL.getD (a + 4).toNat [] = []) (s5 : ab_shT (a + 5) = (21, 7)) (r5 : al_iL.getD (a + 5).toNat [] = []) (h : al_Z σ0 τ a (a + 2) P D) (hb : 1 ≤ cl ∧ 6 ≤ sl) (key : ∀ υ cl' sl', cl' + 1 = cl → sl' + 6 = sl → al_Z σ0 υ a (a + 3) P (fun f => D f ∨ f = 2) → ab_Run X 0 20 (f, cl', sl') [ab_R a] [] υ Q) : ab_Run X 0 12 (f, cl, sl) [ab_R a] [] τ Q := by
  have h2 := h.2.1
  have kq := key _ (cl - 1) (sl - 6) (by omega) (by omega) (al_Z.arr (f0 := 2) h s2 r2 (by decide) (by rw [al_row hr]; rfl) (by omega))
  have sM : ab_sh (ab_new τ 21 6) a = (1, 0) := by rw [ab_shn, if_neg (by have := h.1; omega)]; exact h.sh hs
  have e1 := h.1
  clear key h
  simp (disch := omega) only [rX0_init_12, rX0_init_13, rX0_init_15, rX0_init_17, sM, e1, ne_eq, not_false_eq_true, not_true_eq_false, true_and, and_true, and_self, true_imp_iff, false_imp_iff, imp_self, Bool.not_false, Bool.not_true, reduceCtorEq, ab_isJ, ab_psh, ab_cats, Bool.false_eq_true, if_true, if_false, ab_shf, ab_shw, Int.le_refl, Classical.not_not, Int.zero_add, forall_const, ↓ab_itT, ↓ab_itF, ab_anT, true_or, or_true]
  all_goals exact kq
theorem cn_X0_init_2 {D : Int → Prop} (hr : al_iL.getD a.toNat [] = [0, a + 1, a + 2, a + 3, a + 4, a + 5]) (hs : ab_shT a = (1, 0)) (s1 : ab_shT (a + 1) = (21, 6)) (r1 : al_iL.getD (a + 1).toNat [] = []) (s2 : ab_shT (a + 2) = (21, 6)) (r2 : al_iL.getD (a + 2).toNat [] = []) (s3 : ab_shT (a + 3) = (21, 7)) (r3 : al_iL.getD (a + 3).toNat [] = []) (s4 : ab_shT (a + 4) = (21, 7)) (r4 : al_iL.getD (a + 4).toNat [] = []) (s5 : ab_shT (a + 5) = (21, 7)) (r5 : al_iL.getD (a + 5).toNat [] = []) (h : al_Z σ0 τ a (a + 3) P D) (hb : 1 ≤ cl ∧ 7 ≤ sl) (key : ∀ υ cl' sl', cl' + 1 = cl → sl' + 7 = sl → al_Z σ0 υ a (a + 4) P (fun f => D f ∨ f = 3) → ab_Run X 0 28 (f, cl', sl') [ab_R a] [] υ Q) : ab_Run X 0 20 (f, cl, sl) [ab_R a] [] τ Q := by
  have h2 := h.2.1
  have kq := key _ (cl - 1) (sl - 7) (by omega) (by omega) (al_Z.arr (f0 := 3) h s3 r3 (by decide) (by rw [al_row hr]; rfl) (by omega))
  have sM : ab_sh (ab_new τ 21 7) a = (1, 0) := by rw [ab_shn, if_neg (by have := h.1; omega)]; exact h.sh hs
  have e1 := h.1
  clear key h
  simp (disch := omega) only [rX0_init_20, rX0_init_21, rX0_init_23, rX0_init_25, sM, e1, ne_eq, not_false_eq_true, not_true_eq_false, true_and, and_true, and_self, true_imp_iff, false_imp_iff, imp_self, Bool.not_false, Bool.not_true, reduceCtorEq, ab_isJ, ab_psh, ab_cats, Bool.false_eq_true, if_true, if_false, ab_shf, ab_shw, Int.le_refl, Classical.not_not, Int.zero_add, forall_const, ↓ab_itT, ↓ab_itF, ab_anT, true_or, or_true]
  all_goals exact kq
theorem cn_X0_init_3 {D : Int → Prop} (hr : al_iL.getD a.toNat [] = [0, a + 1, a + 2, a + 3, a + 4, a + 5]) (hs : ab_shT a = (1, 0)) (s1 : ab_shT (a + 1) = (21, 6)) (r1 : al_iL.getD (a + 1).toNat [] = []) (s2 : ab_shT (a + 2) = (21, 6)) (r2 : al_iL.getD (a + 2).toNat [] = []) (s3 : ab_shT (a + 3) = (21, 7)) (r3 : al_iL.getD (a + 3).toNat [] = []) (s4 : ab_shT (a + 4) = (21, 7)) (r4 : al_iL.getD (a + 4).toNat [] = []) (s5 : ab_shT (a + 5) = (21, 7)) (r5 : al_iL.getD (a + 5).toNat [] = []) (h : al_Z σ0 τ a (a + 4) P D) (hb : 1 ≤ cl ∧ 7 ≤ sl) (key : ∀ υ cl' sl', cl' + 1 = cl → sl' + 7 = sl → al_Z σ0 υ a (a + 5) P (fun f => D f ∨ f = 4) → ab_Run X 0 36 (f, cl', sl') [ab_R a] [] υ Q) : ab_Run X 0 28 (f, cl, sl) [ab_R a] [] τ Q := by
  have h2 := h.2.1
  have kq := key _ (cl - 1) (sl - 7) (by omega) (by omega) (al_Z.arr (f0 := 4) h s4 r4 (by decide) (by rw [al_row hr]; rfl) (by omega))
  have sM : ab_sh (ab_new τ 21 7) a = (1, 0) := by rw [ab_shn, if_neg (by have := h.1; omega)]; exact h.sh hs
  have e1 := h.1
  clear key h
  simp (disch := omega) only [rX0_init_28, rX0_init_29, rX0_init_31, rX0_init_33, sM, e1, ne_eq, not_false_eq_true, not_true_eq_false, true_and, and_true, and_self, true_imp_iff, false_imp_iff, imp_self, Bool.not_false, Bool.not_true, reduceCtorEq, ab_isJ, ab_psh, ab_cats, Bool.false_eq_true, if_true, if_false, ab_shf, ab_shw, Int.le_refl, Classical.not_not, Int.zero_add, forall_const, ↓ab_itT, ↓ab_itF, ab_anT, true_or, or_true]
  all_goals exact kq
theorem cn_X0_init_4 {D : Int → Prop} (hr : al_iL.getD a.toNat [] = [0, a + 1, a + 2, a + 3, a + 4, a + 5]) (hs : ab_shT a = (1, 0)) (s1 : ab_shT (a + 1) = (21, 6)) (r1 : al_iL.getD (a + 1).toNat [] = []) (s2 : ab_shT (a + 2) = (21, 6)) (r2 : al_iL.getD (a + 2).toNat [] = []) (s3 : ab_shT (a + 3) = (21, 7)) (r3 : al_iL.getD (a + 3).toNat [] = []) (s4 : ab_shT (a + 4) = (21, 7)) (r4 : al_iL.getD (a + 4).toNat [] = []) (s5 : ab_shT (a + 5) = (21, 7)) (r5 : al_iL.getD (a + 5).toNat [] = []) (h : al_Z σ0 τ a (a + 5) P D) (hb : 1 ≤ cl ∧ 7 ≤ sl) (key : ∀ υ cl' sl', cl' + 1 = cl → sl' + 7 = sl → al_Z σ0 υ a (a + 6) P (fun f => D f ∨ f = 5) → ab_Run X 0 44 (f, cl', sl') [ab_R a] [] υ Q) : ab_Run X 0 36 (f, cl, sl) [ab_R a] [] τ Q := by
  have h2 := h.2.1
  have kq := key _ (cl - 1) (sl - 7) (by omega) (by omega) (al_Z.arr (f0 := 5) h s5 r5 (by decide) (by rw [al_row hr]; rfl) (by omega))
  have sM : ab_sh (ab_new τ 21 7) a = (1, 0) := by rw [ab_shn, if_neg (by have := h.1; omega)]; exact h.sh hs
  have e1 := h.1
  clear key h
  simp (disch := omega) only [rX0_init_36, rX0_init_37, rX0_init_39, rX0_init_41, sM, e1, ne_eq, not_false_eq_true, not_true_eq_false, true_and, and_true, and_self, true_imp_iff, false_imp_iff, imp_self, Bool.not_false, Bool.not_true, reduceCtorEq, ab_isJ, ab_psh, ab_cats, Bool.false_eq_true, if_true, if_false, ab_shf, ab_shw, Int.le_refl, Classical.not_not, Int.zero_add, forall_const, ↓ab_itT, ↓ab_itF, ab_anT, true_or, or_true]
  all_goals exact kq
theorem cn_X0_init (hr : al_iL.getD a.toNat [] = [0, a + 1, a + 2, a + 3, a + 4, a + 5]) (hs : ab_shT a = (1, 0)) (s1 : ab_shT (a + 1) = (21, 6)) (r1 : al_iL.getD (a + 1).toNat [] = []) (s2 : ab_shT (a + 2) = (21, 6)) (r2 : al_iL.getD (a + 2).toNat [] = []) (s3 : ab_shT (a + 3) = (21, 7)) (r3 : al_iL.getD (a + 3).toNat [] = []) (s4 : ab_shT (a + 4) = (21, 7)) (r4 : al_iL.getD (a + 4).toNat [] = []) (s5 : ab_shT (a + 5) = (21, 7)) (r5 : al_iL.getD (a + 5).toNat [] = []) (hP : ¬ P a) (h : al_Z σ σ a (a + 1) P (fun _ => False)) (hQ : ∀ τ, al_Y σ τ a (a + 6) P → Q none τ) : ab_Do X 0 [ab_R a] σ Q := by
  have ha := h.2.1.1
  have kq : ab_Run X 0 4 (1, 5, 33) [ab_R a] [] σ Q := by
    refine cn_X0_init_0 hr hs s1 r1 s2 r2 s3 r3 s4 r4 s5 r5 h (by decide) (fun τ1 c1 d1 e1 f1 h1 => ?_)
    refine cn_X0_init_1 hr hs s1 r1 s2 r2 s3 r3 s4 r4 s5 r5 h1 (by omega) (fun τ2 c2 d2 e2 f2 h2 => ?_)
    refine cn_X0_init_2 hr hs s1 r1 s2 r2 s3 r3 s4 r4 s5 r5 h2 (by omega) (fun τ3 c3 d3 e3 f3 h3 => ?_)
    refine cn_X0_init_3 hr hs s1 r1 s2 r2 s3 r3 s4 r4 s5 r5 h3 (by omega) (fun τ4 c4 d4 e4 f4 h4 => ?_)
    refine cn_X0_init_4 hr hs s1 r1 s2 r2 s3 r3 s4 r4 s5 r5 h4 (by omega) (fun τ5 c5 d5 e5 f5 h5 => ?_)
    have kr := hQ τ5 (al_Z.done h5 (fun f f1 => by
      have q : f = 0 ∨ f = 1 ∨ f = 2 ∨ f = 3 ∨ f = 4 ∨ f = 5 ∨ 6 ≤ f := by omega
      rcases q with rfl | rfl | rfl | rfl | rfl | rfl | q
      · right; rw [al_row hr]; rfl
      · exact Or.inl (Or.inl (Or.inl (Or.inl (Or.inl (Or.inr rfl)))))
      · exact Or.inl (Or.inl (Or.inl (Or.inl (Or.inr rfl))))
      · exact Or.inl (Or.inl (Or.inl (Or.inr rfl)))
      · exact Or.inl (Or.inl (Or.inr rfl))
      · exact Or.inl (Or.inr rfl)
      · right; rw [al_row hr]; exact ac_getD_ge (by simp only [List.length_cons, List.length_nil]; omega)) hP)
    clear hQ
    simp (disch := omega) only [rX0_init_44, ne_eq, not_false_eq_true, not_true_eq_false, true_and, and_true, and_self, true_imp_iff, false_imp_iff, imp_self, Bool.not_false, Bool.not_true, reduceCtorEq, ab_isJ, ab_psh, ab_cats, Bool.false_eq_true, if_true, if_false, ab_shf, ab_shw, Int.le_refl, Classical.not_not, Int.zero_add, forall_const, ↓ab_itT, ↓ab_itF, ab_anT, ab_w32_id, ab_rdf_ne, ab_rdw_ne, ab_rdw_eq, ab_rdf_in, ab_td2, ab_tm2]
    all_goals exact kr
  clear hQ h
  simp (disch := omega) only [dn_X0_init, rX0_init_0, rX0_init_1, ne_eq, not_false_eq_true, not_true_eq_false, true_and, and_true, and_self, true_imp_iff, false_imp_iff, imp_self, Bool.not_false, Bool.not_true, reduceCtorEq, ab_isJ, ab_psh, ab_cats, Bool.false_eq_true, if_true, if_false, ab_shf, ab_shw, Int.le_refl, Classical.not_not, Int.zero_add, forall_const, ↓ab_itT, ↓ab_itF, ab_anT, true_or, or_true]
  all_goals exact kq
theorem cn_X10_init_0 {D : Int → Prop} (hr : al_iL.getD a.toNat [] = [a + 1, a + 2]) (hs : ab_shT a = (11, 0)) (s1 : ab_shT (a + 1) = (21, 9)) (r1 : al_iL.getD (a + 1).toNat [] = []) (s2 : ab_shT (a + 2) = (21, 6)) (r2 : al_iL.getD (a + 2).toNat [] = []) (h : al_Z σ0 τ a (a + 1) P D) (hb : 1 ≤ cl ∧ 9 ≤ sl) (key : ∀ υ cl' sl', cl' + 1 = cl → sl' + 9 = sl → al_Z σ0 υ a (a + 2) P (fun f => D f ∨ f = 0) → ab_Run X 74 12 (f, cl', sl') [ab_R a] [] υ Q) : ab_Run X 74 4 (f, cl, sl) [ab_R a] [] τ Q := by
  have h2 := h.2.1
  have kq := key _ (cl - 1) (sl - 9) (by omega) (by omega) (al_Z.arr (f0 := 0) h s1 r1 (by decide) (by rw [al_row hr]; rfl) (by omega))
  have sM : ab_sh (ab_new τ 21 9) a = (11, 0) := by rw [ab_shn, if_neg (by have := h.1; omega)]; exact h.sh hs
  have e1 := h.1
  clear key h
  simp (disch := omega) only [rX10_init_4, rX10_init_5, rX10_init_7, rX10_init_9, sM, e1, ne_eq, not_false_eq_true, not_true_eq_false, true_and, and_true, and_self, true_imp_iff, false_imp_iff, imp_self, Bool.not_false, Bool.not_true, reduceCtorEq, ab_isJ, ab_psh, ab_cats, Bool.false_eq_true, if_true, if_false, ab_shf, ab_shw, Int.le_refl, Classical.not_not, Int.zero_add, forall_const, ↓ab_itT, ↓ab_itF, ab_anT, true_or, or_true]
  all_goals exact kq
theorem cn_X10_init_1 {D : Int → Prop} (hr : al_iL.getD a.toNat [] = [a + 1, a + 2]) (hs : ab_shT a = (11, 0)) (s1 : ab_shT (a + 1) = (21, 9)) (r1 : al_iL.getD (a + 1).toNat [] = []) (s2 : ab_shT (a + 2) = (21, 6)) (r2 : al_iL.getD (a + 2).toNat [] = []) (h : al_Z σ0 τ a (a + 2) P D) (hb : 1 ≤ cl ∧ 6 ≤ sl) (key : ∀ υ cl' sl', cl' + 1 = cl → sl' + 6 = sl → al_Z σ0 υ a (a + 3) P (fun f => D f ∨ f = 1) → ab_Run X 74 20 (f, cl', sl') [ab_R a] [] υ Q) : ab_Run X 74 12 (f, cl, sl) [ab_R a] [] τ Q := by
  have h2 := h.2.1
  have kq := key _ (cl - 1) (sl - 6) (by omega) (by omega) (al_Z.arr (f0 := 1) h s2 r2 (by decide) (by rw [al_row hr]; rfl) (by omega))
  have sM : ab_sh (ab_new τ 21 6) a = (11, 0) := by rw [ab_shn, if_neg (by have := h.1; omega)]; exact h.sh hs
  have e1 := h.1
  clear key h
  simp (disch := omega) only [rX10_init_12, rX10_init_13, rX10_init_15, rX10_init_17, sM, e1, ne_eq, not_false_eq_true, not_true_eq_false, true_and, and_true, and_self, true_imp_iff, false_imp_iff, imp_self, Bool.not_false, Bool.not_true, reduceCtorEq, ab_isJ, ab_psh, ab_cats, Bool.false_eq_true, if_true, if_false, ab_shf, ab_shw, Int.le_refl, Classical.not_not, Int.zero_add, forall_const, ↓ab_itT, ↓ab_itF, ab_anT, true_or, or_true]
  all_goals exact kq
theorem cn_X10_init (hr : al_iL.getD a.toNat [] = [a + 1, a + 2]) (hs : ab_shT a = (11, 0)) (s1 : ab_shT (a + 1) = (21, 9)) (r1 : al_iL.getD (a + 1).toNat [] = []) (s2 : ab_shT (a + 2) = (21, 6)) (r2 : al_iL.getD (a + 2).toNat [] = []) (hP : ¬ P a) (h : al_Z σ σ a (a + 1) P (fun _ => False)) (hQ : ∀ τ, al_Y σ τ a (a + 3) P → Q none τ) : ab_Do X 74 [ab_R a] σ Q := by
  have ha := h.2.1.1
  have kq : ab_Run X 74 4 (1, 2, 15) [ab_R a] [] σ Q := by
    refine cn_X10_init_0 hr hs s1 r1 s2 r2 h (by decide) (fun τ1 c1 d1 e1 f1 h1 => ?_)
    refine cn_X10_init_1 hr hs s1 r1 s2 r2 h1 (by omega) (fun τ2 c2 d2 e2 f2 h2 => ?_)
    have kr := hQ τ2 (al_Z.done h2 (fun f f1 => by
      have q : f = 0 ∨ f = 1 ∨ 2 ≤ f := by omega
      rcases q with rfl | rfl | q
      · exact Or.inl (Or.inl (Or.inr rfl))
      · exact Or.inl (Or.inr rfl)
      · right; rw [al_row hr]; exact ac_getD_ge (by simp only [List.length_cons, List.length_nil]; omega)) hP)
    clear hQ
    simp (disch := omega) only [rX10_init_20, ne_eq, not_false_eq_true, not_true_eq_false, true_and, and_true, and_self, true_imp_iff, false_imp_iff, imp_self, Bool.not_false, Bool.not_true, reduceCtorEq, ab_isJ, ab_psh, ab_cats, Bool.false_eq_true, if_true, if_false, ab_shf, ab_shw, Int.le_refl, Classical.not_not, Int.zero_add, forall_const, ↓ab_itT, ↓ab_itF, ab_anT, ab_w32_id, ab_rdf_ne, ab_rdw_ne, ab_rdw_eq, ab_rdf_in, ab_td2, ab_tm2]
    all_goals exact kr
  clear hQ h
  simp (disch := omega) only [dn_X10_init, rX10_init_0, rX10_init_1, ne_eq, not_false_eq_true, not_true_eq_false, true_and, and_true, and_self, true_imp_iff, false_imp_iff, imp_self, Bool.not_false, Bool.not_true, reduceCtorEq, ab_isJ, ab_psh, ab_cats, Bool.false_eq_true, if_true, if_false, ab_shf, ab_shw, Int.le_refl, Classical.not_not, Int.zero_add, forall_const, ↓ab_itT, ↓ab_itF, ab_anT, true_or, or_true]
  all_goals exact kq
theorem cn_X13_init_0 {D : Int → Prop} {z : Int} (hr : al_iL.getD a.toNat [] = [0, 0, -1, 0, 0, a + 1, 0, 0, 0, 0, 0, 0, 0, 0, 0, 0, a + 2, a + 3, a + 4, 0, 0, 0, 0, 0, 0, 0, 0, a + 5, a + 6, a + 7, a + 8, a + 9, a + 10, a + 11, 0, 0, a + 12]) (hs : ab_shT a = (14, 0)) (s1 : ab_shT (a + 1) = (23, 1000)) (r1 : al_iL.getD (a + 1).toNat [] = []) (s2 : ab_shT (a + 2) = (21, 18)) (r2 : al_iL.getD (a + 2).toNat [] = []) (s3 : ab_shT (a + 3) = (21, 288)) (r3 : al_iL.getD (a + 3).toNat [] = []) (s4 : ab_shT (a + 4) = (21, 54)) (r4 : al_iL.getD (a + 4).toNat [] = []) (s5 : ab_shT (a + 5) = (21, 2)) (r5 : al_iL.getD (a + 5).toNat [] = []) (s6 : ab_shT (a + 6) = (21, 2)) (r6 : al_iL.getD (a + 6).toNat [] = []) (s7 : ab_shT (a + 7) = (24, 2)) (r7 : al_iL.getD (a + 7).toNat [] = []) (s8 : ab_shT (a + 8) = (22, 144)) (r8 : al_iL.getD (a + 8).toNat [] = []) (s9 : ab_shT (a + 9) = (22, 144)) (r9 : al_iL.getD (a + 9).toNat [] = []) (s10 : ab_shT (a + 10) = (21, 9)) (r10 : al_iL.getD (a + 10).toNat [] = []) (s11 : ab_shT (a + 11) = (21, 6)) (r11 : al_iL.getD (a + 11).toNat [] = []) (s12 : ab_shT (a + 12) = (21, 6)) (r12 : al_iL.getD (a + 12).toNat [] = []) (h : al_Z σ0 τ a z P D) (key : ∀ υ, al_Z σ0 υ a z P (fun f => D f ∨ f = 2) → ab_Run X 157 9 (f, cl, sl) [ab_R a] [] υ Q) : ab_Run X 157 4 (f, cl, sl) [ab_R a] [] τ Q := by
  have h2 := h.2.1
  have kq := key _ (al_Z.val (f0 := 2) (n := (-1)) h (by rw [al_row hr]; rfl))
  have sM := h.sh hs
  clear key h
  simp (disch := omega) only [rX13_init_4, rX13_init_5, rX13_init_6, sM, ne_eq, not_false_eq_true, not_true_eq_false, true_and, and_true, and_self, true_imp_iff, false_imp_iff, imp_self, Bool.not_false, Bool.not_true, reduceCtorEq, ab_isJ, ab_psh, ab_cats, Bool.false_eq_true, if_true, if_false, ab_shf, ab_shw, Int.le_refl, Classical.not_not, Int.zero_add, forall_const, ↓ab_itT, ↓ab_itF, ab_anT, true_or, or_true]
  all_goals exact kq
theorem cn_X13_init_1 {D : Int → Prop} (hr : al_iL.getD a.toNat [] = [0, 0, -1, 0, 0, a + 1, 0, 0, 0, 0, 0, 0, 0, 0, 0, 0, a + 2, a + 3, a + 4, 0, 0, 0, 0, 0, 0, 0, 0, a + 5, a + 6, a + 7, a + 8, a + 9, a + 10, a + 11, 0, 0, a + 12]) (hs : ab_shT a = (14, 0)) (s1 : ab_shT (a + 1) = (23, 1000)) (r1 : al_iL.getD (a + 1).toNat [] = []) (s2 : ab_shT (a + 2) = (21, 18)) (r2 : al_iL.getD (a + 2).toNat [] = []) (s3 : ab_shT (a + 3) = (21, 288)) (r3 : al_iL.getD (a + 3).toNat [] = []) (s4 : ab_shT (a + 4) = (21, 54)) (r4 : al_iL.getD (a + 4).toNat [] = []) (s5 : ab_shT (a + 5) = (21, 2)) (r5 : al_iL.getD (a + 5).toNat [] = []) (s6 : ab_shT (a + 6) = (21, 2)) (r6 : al_iL.getD (a + 6).toNat [] = []) (s7 : ab_shT (a + 7) = (24, 2)) (r7 : al_iL.getD (a + 7).toNat [] = []) (s8 : ab_shT (a + 8) = (22, 144)) (r8 : al_iL.getD (a + 8).toNat [] = []) (s9 : ab_shT (a + 9) = (22, 144)) (r9 : al_iL.getD (a + 9).toNat [] = []) (s10 : ab_shT (a + 10) = (21, 9)) (r10 : al_iL.getD (a + 10).toNat [] = []) (s11 : ab_shT (a + 11) = (21, 6)) (r11 : al_iL.getD (a + 11).toNat [] = []) (s12 : ab_shT (a + 12) = (21, 6)) (r12 : al_iL.getD (a + 12).toNat [] = []) (h : al_Z σ0 τ a (a + 1) P D) (hb : 1 ≤ cl ∧ 1000 ≤ sl) (key : ∀ υ cl' sl', cl' + 1 = cl → sl' + 1000 = sl → al_Z σ0 υ a (a + 2) P (fun f => D f ∨ f = 5) → ab_Run X 157 18 (f, cl', sl') [ab_R a] [] υ Q) : ab_Run X 157 9 (f, cl, sl) [ab_R a] [] τ Q := by
  have h2 := h.2.1
  have kq := key _ (cl - 1) (sl - 1000) (by omega) (by omega) (al_Z.arr (f0 := 5) h s1 r1 (by decide) (by rw [al_row hr]; rfl) (by omega))
  have sM : ab_sh (ab_new τ 23 1000) a = (14, 0) := by rw [ab_shn, if_neg (by have := h.1; omega)]; exact h.sh hs
  have e1 := h.1
  clear key h
  simp (disch := omega) only [rX13_init_9, rX13_init_10, rX13_init_13, rX13_init_15, sM, e1, ne_eq, not_false_eq_true, not_true_eq_false, true_and, and_true, and_self, true_imp_iff, false_imp_iff, imp_self, Bool.not_false, Bool.not_true, reduceCtorEq, ab_isJ, ab_psh, ab_cats, Bool.false_eq_true, if_true, if_false, ab_shf, ab_shw, Int.le_refl, Classical.not_not, Int.zero_add, forall_const, ↓ab_itT, ↓ab_itF, ab_anT, true_or, or_true]
  all_goals exact kq
theorem cn_X13_init_2 {D : Int → Prop} (hr : al_iL.getD a.toNat [] = [0, 0, -1, 0, 0, a + 1, 0, 0, 0, 0, 0, 0, 0, 0, 0, 0, a + 2, a + 3, a + 4, 0, 0, 0, 0, 0, 0, 0, 0, a + 5, a + 6, a + 7, a + 8, a + 9, a + 10, a + 11, 0, 0, a + 12]) (hs : ab_shT a = (14, 0)) (s1 : ab_shT (a + 1) = (23, 1000)) (r1 : al_iL.getD (a + 1).toNat [] = []) (s2 : ab_shT (a + 2) = (21, 18)) (r2 : al_iL.getD (a + 2).toNat [] = []) (s3 : ab_shT (a + 3) = (21, 288)) (r3 : al_iL.getD (a + 3).toNat [] = []) (s4 : ab_shT (a + 4) = (21, 54)) (r4 : al_iL.getD (a + 4).toNat [] = []) (s5 : ab_shT (a + 5) = (21, 2)) (r5 : al_iL.getD (a + 5).toNat [] = []) (s6 : ab_shT (a + 6) = (21, 2)) (r6 : al_iL.getD (a + 6).toNat [] = []) (s7 : ab_shT (a + 7) = (24, 2)) (r7 : al_iL.getD (a + 7).toNat [] = []) (s8 : ab_shT (a + 8) = (22, 144)) (r8 : al_iL.getD (a + 8).toNat [] = []) (s9 : ab_shT (a + 9) = (22, 144)) (r9 : al_iL.getD (a + 9).toNat [] = []) (s10 : ab_shT (a + 10) = (21, 9)) (r10 : al_iL.getD (a + 10).toNat [] = []) (s11 : ab_shT (a + 11) = (21, 6)) (r11 : al_iL.getD (a + 11).toNat [] = []) (s12 : ab_shT (a + 12) = (21, 6)) (r12 : al_iL.getD (a + 12).toNat [] = []) (h : al_Z σ0 τ a (a + 2) P D) (hb : 1 ≤ cl ∧ 18 ≤ sl) (key : ∀ υ cl' sl', cl' + 1 = cl → sl' + 18 = sl → al_Z σ0 υ a (a + 3) P (fun f => D f ∨ f = 16) → ab_Run X 157 26 (f, cl', sl') [ab_R a] [] υ Q) : ab_Run X 157 18 (f, cl, sl) [ab_R a] [] τ Q := by
  have h2 := h.2.1
  have kq := key _ (cl - 1) (sl - 18) (by omega) (by omega) (al_Z.arr (f0 := 16) h s2 r2 (by decide) (by rw [al_row hr]; rfl) (by omega))
  have sM : ab_sh (ab_new τ 21 18) a = (14, 0) := by rw [ab_shn, if_neg (by have := h.1; omega)]; exact h.sh hs
  have e1 := h.1
  clear key h
  simp (disch := omega) only [rX13_init_18, rX13_init_19, rX13_init_21, rX13_init_23, sM, e1, ne_eq, not_false_eq_true, not_true_eq_false, true_and, and_true, and_self, true_imp_iff, false_imp_iff, imp_self, Bool.not_false, Bool.not_true, reduceCtorEq, ab_isJ, ab_psh, ab_cats, Bool.false_eq_true, if_true, if_false, ab_shf, ab_shw, Int.le_refl, Classical.not_not, Int.zero_add, forall_const, ↓ab_itT, ↓ab_itF, ab_anT, true_or, or_true]
  all_goals exact kq
theorem cn_X13_init_3 {D : Int → Prop} (hr : al_iL.getD a.toNat [] = [0, 0, -1, 0, 0, a + 1, 0, 0, 0, 0, 0, 0, 0, 0, 0, 0, a + 2, a + 3, a + 4, 0, 0, 0, 0, 0, 0, 0, 0, a + 5, a + 6, a + 7, a + 8, a + 9, a + 10, a + 11, 0, 0, a + 12]) (hs : ab_shT a = (14, 0)) (s1 : ab_shT (a + 1) = (23, 1000)) (r1 : al_iL.getD (a + 1).toNat [] = []) (s2 : ab_shT (a + 2) = (21, 18)) (r2 : al_iL.getD (a + 2).toNat [] = []) (s3 : ab_shT (a + 3) = (21, 288)) (r3 : al_iL.getD (a + 3).toNat [] = []) (s4 : ab_shT (a + 4) = (21, 54)) (r4 : al_iL.getD (a + 4).toNat [] = []) (s5 : ab_shT (a + 5) = (21, 2)) (r5 : al_iL.getD (a + 5).toNat [] = []) (s6 : ab_shT (a + 6) = (21, 2)) (r6 : al_iL.getD (a + 6).toNat [] = []) (s7 : ab_shT (a + 7) = (24, 2)) (r7 : al_iL.getD (a + 7).toNat [] = []) (s8 : ab_shT (a + 8) = (22, 144)) (r8 : al_iL.getD (a + 8).toNat [] = []) (s9 : ab_shT (a + 9) = (22, 144)) (r9 : al_iL.getD (a + 9).toNat [] = []) (s10 : ab_shT (a + 10) = (21, 9)) (r10 : al_iL.getD (a + 10).toNat [] = []) (s11 : ab_shT (a + 11) = (21, 6)) (r11 : al_iL.getD (a + 11).toNat [] = []) (s12 : ab_shT (a + 12) = (21, 6)) (r12 : al_iL.getD (a + 12).toNat [] = []) (h : al_Z σ0 τ a (a + 3) P D) (hb : 1 ≤ cl ∧ 288 ≤ sl) (key : ∀ υ cl' sl', cl' + 1 = cl → sl' + 288 = sl → al_Z σ0 υ a (a + 4) P (fun f => D f ∨ f = 17) → ab_Run X 157 35 (f, cl', sl') [ab_R a] [] υ Q) : ab_Run X 157 26 (f, cl, sl) [ab_R a] [] τ Q := by
  have h2 := h.2.1
  have kq := key _ (cl - 1) (sl - 288) (by omega) (by omega) (al_Z.arr (f0 := 17) h s3 r3 (by decide) (by rw [al_row hr]; rfl) (by omega))
  have sM : ab_sh (ab_new τ 21 288) a = (14, 0) := by rw [ab_shn, if_neg (by have := h.1; omega)]; exact h.sh hs
  have e1 := h.1
  clear key h
  simp (disch := omega) only [rX13_init_26, rX13_init_27, rX13_init_30, rX13_init_32, sM, e1, ne_eq, not_false_eq_true, not_true_eq_false, true_and, and_true, and_self, true_imp_iff, false_imp_iff, imp_self, Bool.not_false, Bool.not_true, reduceCtorEq, ab_isJ, ab_psh, ab_cats, Bool.false_eq_true, if_true, if_false, ab_shf, ab_shw, Int.le_refl, Classical.not_not, Int.zero_add, forall_const, ↓ab_itT, ↓ab_itF, ab_anT, true_or, or_true]
  all_goals exact kq
theorem cn_X13_init_4 {D : Int → Prop} (hr : al_iL.getD a.toNat [] = [0, 0, -1, 0, 0, a + 1, 0, 0, 0, 0, 0, 0, 0, 0, 0, 0, a + 2, a + 3, a + 4, 0, 0, 0, 0, 0, 0, 0, 0, a + 5, a + 6, a + 7, a + 8, a + 9, a + 10, a + 11, 0, 0, a + 12]) (hs : ab_shT a = (14, 0)) (s1 : ab_shT (a + 1) = (23, 1000)) (r1 : al_iL.getD (a + 1).toNat [] = []) (s2 : ab_shT (a + 2) = (21, 18)) (r2 : al_iL.getD (a + 2).toNat [] = []) (s3 : ab_shT (a + 3) = (21, 288)) (r3 : al_iL.getD (a + 3).toNat [] = []) (s4 : ab_shT (a + 4) = (21, 54)) (r4 : al_iL.getD (a + 4).toNat [] = []) (s5 : ab_shT (a + 5) = (21, 2)) (r5 : al_iL.getD (a + 5).toNat [] = []) (s6 : ab_shT (a + 6) = (21, 2)) (r6 : al_iL.getD (a + 6).toNat [] = []) (s7 : ab_shT (a + 7) = (24, 2)) (r7 : al_iL.getD (a + 7).toNat [] = []) (s8 : ab_shT (a + 8) = (22, 144)) (r8 : al_iL.getD (a + 8).toNat [] = []) (s9 : ab_shT (a + 9) = (22, 144)) (r9 : al_iL.getD (a + 9).toNat [] = []) (s10 : ab_shT (a + 10) = (21, 9)) (r10 : al_iL.getD (a + 10).toNat [] = []) (s11 : ab_shT (a + 11) = (21, 6)) (r11 : al_iL.getD (a + 11).toNat [] = []) (s12 : ab_shT (a + 12) = (21, 6)) (r12 : al_iL.getD (a + 12).toNat [] = []) (h : al_Z σ0 τ a (a + 4) P D) (hb : 1 ≤ cl ∧ 54 ≤ sl) (key : ∀ υ cl' sl', cl' + 1 = cl → sl' + 54 = sl → al_Z σ0 υ a (a + 5) P (fun f => D f ∨ f = 18) → ab_Run X 157 43 (f, cl', sl') [ab_R a] [] υ Q) : ab_Run X 157 35 (f, cl, sl) [ab_R a] [] τ Q := by
  have h2 := h.2.1
  have kq := key _ (cl - 1) (sl - 54) (by omega) (by omega) (al_Z.arr (f0 := 18) h s4 r4 (by decide) (by rw [al_row hr]; rfl) (by omega))
  have sM : ab_sh (ab_new τ 21 54) a = (14, 0) := by rw [ab_shn, if_neg (by have := h.1; omega)]; exact h.sh hs
  have e1 := h.1
  clear key h
  simp (disch := omega) only [rX13_init_35, rX13_init_36, rX13_init_38, rX13_init_40, sM, e1, ne_eq, not_false_eq_true, not_true_eq_false, true_and, and_true, and_self, true_imp_iff, false_imp_iff, imp_self, Bool.not_false, Bool.not_true, reduceCtorEq, ab_isJ, ab_psh, ab_cats, Bool.false_eq_true, if_true, if_false, ab_shf, ab_shw, Int.le_refl, Classical.not_not, Int.zero_add, forall_const, ↓ab_itT, ↓ab_itF, ab_anT, true_or, or_true]
  all_goals exact kq
theorem cn_X13_init_5 {D : Int → Prop} (hr : al_iL.getD a.toNat [] = [0, 0, -1, 0, 0, a + 1, 0, 0, 0, 0, 0, 0, 0, 0, 0, 0, a + 2, a + 3, a + 4, 0, 0, 0, 0, 0, 0, 0, 0, a + 5, a + 6, a + 7, a + 8, a + 9, a + 10, a + 11, 0, 0, a + 12]) (hs : ab_shT a = (14, 0)) (s1 : ab_shT (a + 1) = (23, 1000)) (r1 : al_iL.getD (a + 1).toNat [] = []) (s2 : ab_shT (a + 2) = (21, 18)) (r2 : al_iL.getD (a + 2).toNat [] = []) (s3 : ab_shT (a + 3) = (21, 288)) (r3 : al_iL.getD (a + 3).toNat [] = []) (s4 : ab_shT (a + 4) = (21, 54)) (r4 : al_iL.getD (a + 4).toNat [] = []) (s5 : ab_shT (a + 5) = (21, 2)) (r5 : al_iL.getD (a + 5).toNat [] = []) (s6 : ab_shT (a + 6) = (21, 2)) (r6 : al_iL.getD (a + 6).toNat [] = []) (s7 : ab_shT (a + 7) = (24, 2)) (r7 : al_iL.getD (a + 7).toNat [] = []) (s8 : ab_shT (a + 8) = (22, 144)) (r8 : al_iL.getD (a + 8).toNat [] = []) (s9 : ab_shT (a + 9) = (22, 144)) (r9 : al_iL.getD (a + 9).toNat [] = []) (s10 : ab_shT (a + 10) = (21, 9)) (r10 : al_iL.getD (a + 10).toNat [] = []) (s11 : ab_shT (a + 11) = (21, 6)) (r11 : al_iL.getD (a + 11).toNat [] = []) (s12 : ab_shT (a + 12) = (21, 6)) (r12 : al_iL.getD (a + 12).toNat [] = []) (h : al_Z σ0 τ a (a + 5) P D) (hb : 1 ≤ cl ∧ 2 ≤ sl) (key : ∀ υ cl' sl', cl' + 1 = cl → sl' + 2 = sl → al_Z σ0 υ a (a + 6) P (fun f => D f ∨ f = 27) → ab_Run X 157 50 (f, cl', sl') [ab_R a] [] υ Q) : ab_Run X 157 43 (f, cl, sl) [ab_R a] [] τ Q := by
  have h2 := h.2.1
  have kq := key _ (cl - 1) (sl - 2) (by omega) (by omega) (al_Z.arr (f0 := 27) h s5 r5 (by decide) (by rw [al_row hr]; rfl) (by omega))
  have sM : ab_sh (ab_new τ 21 2) a = (14, 0) := by rw [ab_shn, if_neg (by have := h.1; omega)]; exact h.sh hs
  have e1 := h.1
  clear key h
  simp (disch := omega) only [rX13_init_43, rX13_init_44, rX13_init_45, rX13_init_47, sM, e1, ne_eq, not_false_eq_true, not_true_eq_false, true_and, and_true, and_self, true_imp_iff, false_imp_iff, imp_self, Bool.not_false, Bool.not_true, reduceCtorEq, ab_isJ, ab_psh, ab_cats, Bool.false_eq_true, if_true, if_false, ab_shf, ab_shw, Int.le_refl, Classical.not_not, Int.zero_add, forall_const, ↓ab_itT, ↓ab_itF, ab_anT, true_or, or_true]
  all_goals exact kq
theorem cn_X13_init_6 {D : Int → Prop} (hr : al_iL.getD a.toNat [] = [0, 0, -1, 0, 0, a + 1, 0, 0, 0, 0, 0, 0, 0, 0, 0, 0, a + 2, a + 3, a + 4, 0, 0, 0, 0, 0, 0, 0, 0, a + 5, a + 6, a + 7, a + 8, a + 9, a + 10, a + 11, 0, 0, a + 12]) (hs : ab_shT a = (14, 0)) (s1 : ab_shT (a + 1) = (23, 1000)) (r1 : al_iL.getD (a + 1).toNat [] = []) (s2 : ab_shT (a + 2) = (21, 18)) (r2 : al_iL.getD (a + 2).toNat [] = []) (s3 : ab_shT (a + 3) = (21, 288)) (r3 : al_iL.getD (a + 3).toNat [] = []) (s4 : ab_shT (a + 4) = (21, 54)) (r4 : al_iL.getD (a + 4).toNat [] = []) (s5 : ab_shT (a + 5) = (21, 2)) (r5 : al_iL.getD (a + 5).toNat [] = []) (s6 : ab_shT (a + 6) = (21, 2)) (r6 : al_iL.getD (a + 6).toNat [] = []) (s7 : ab_shT (a + 7) = (24, 2)) (r7 : al_iL.getD (a + 7).toNat [] = []) (s8 : ab_shT (a + 8) = (22, 144)) (r8 : al_iL.getD (a + 8).toNat [] = []) (s9 : ab_shT (a + 9) = (22, 144)) (r9 : al_iL.getD (a + 9).toNat [] = []) (s10 : ab_shT (a + 10) = (21, 9)) (r10 : al_iL.getD (a + 10).toNat [] = []) (s11 : ab_shT (a + 11) = (21, 6)) (r11 : al_iL.getD (a + 11).toNat [] = []) (s12 : ab_shT (a + 12) = (21, 6)) (r12 : al_iL.getD (a + 12).toNat [] = []) (h : al_Z σ0 τ a (a + 6) P D) (hb : 1 ≤ cl ∧ 2 ≤ sl) (key : ∀ υ cl' sl', cl' + 1 = cl → sl' + 2 = sl → al_Z σ0 υ a (a + 7) P (fun f => D f ∨ f = 28) → ab_Run X 157 57 (f, cl', sl') [ab_R a] [] υ Q) : ab_Run X 157 50 (f, cl, sl) [ab_R a] [] τ Q := by
  have h2 := h.2.1
  have kq := key _ (cl - 1) (sl - 2) (by omega) (by omega) (al_Z.arr (f0 := 28) h s6 r6 (by decide) (by rw [al_row hr]; rfl) (by omega))
  have sM : ab_sh (ab_new τ 21 2) a = (14, 0) := by rw [ab_shn, if_neg (by have := h.1; omega)]; exact h.sh hs
  have e1 := h.1
  clear key h
  simp (disch := omega) only [rX13_init_50, rX13_init_51, rX13_init_52, rX13_init_54, sM, e1, ne_eq, not_false_eq_true, not_true_eq_false, true_and, and_true, and_self, true_imp_iff, false_imp_iff, imp_self, Bool.not_false, Bool.not_true, reduceCtorEq, ab_isJ, ab_psh, ab_cats, Bool.false_eq_true, if_true, if_false, ab_shf, ab_shw, Int.le_refl, Classical.not_not, Int.zero_add, forall_const, ↓ab_itT, ↓ab_itF, ab_anT, true_or, or_true]
  all_goals exact kq
theorem cn_X13_init_7 {D : Int → Prop} (hr : al_iL.getD a.toNat [] = [0, 0, -1, 0, 0, a + 1, 0, 0, 0, 0, 0, 0, 0, 0, 0, 0, a + 2, a + 3, a + 4, 0, 0, 0, 0, 0, 0, 0, 0, a + 5, a + 6, a + 7, a + 8, a + 9, a + 10, a + 11, 0, 0, a + 12]) (hs : ab_shT a = (14, 0)) (s1 : ab_shT (a + 1) = (23, 1000)) (r1 : al_iL.getD (a + 1).toNat [] = []) (s2 : ab_shT (a + 2) = (21, 18)) (r2 : al_iL.getD (a + 2).toNat [] = []) (s3 : ab_shT (a + 3) = (21, 288)) (r3 : al_iL.getD (a + 3).toNat [] = []) (s4 : ab_shT (a + 4) = (21, 54)) (r4 : al_iL.getD (a + 4).toNat [] = []) (s5 : ab_shT (a + 5) = (21, 2)) (r5 : al_iL.getD (a + 5).toNat [] = []) (s6 : ab_shT (a + 6) = (21, 2)) (r6 : al_iL.getD (a + 6).toNat [] = []) (s7 : ab_shT (a + 7) = (24, 2)) (r7 : al_iL.getD (a + 7).toNat [] = []) (s8 : ab_shT (a + 8) = (22, 144)) (r8 : al_iL.getD (a + 8).toNat [] = []) (s9 : ab_shT (a + 9) = (22, 144)) (r9 : al_iL.getD (a + 9).toNat [] = []) (s10 : ab_shT (a + 10) = (21, 9)) (r10 : al_iL.getD (a + 10).toNat [] = []) (s11 : ab_shT (a + 11) = (21, 6)) (r11 : al_iL.getD (a + 11).toNat [] = []) (s12 : ab_shT (a + 12) = (21, 6)) (r12 : al_iL.getD (a + 12).toNat [] = []) (h : al_Z σ0 τ a (a + 7) P D) (hb : 1 ≤ cl ∧ 2 ≤ sl) (key : ∀ υ cl' sl', cl' + 1 = cl → sl' + 2 = sl → al_Z σ0 υ a (a + 8) P (fun f => D f ∨ f = 29) → ab_Run X 157 64 (f, cl', sl') [ab_R a] [] υ Q) : ab_Run X 157 57 (f, cl, sl) [ab_R a] [] τ Q := by
  have h2 := h.2.1
  have kq := key _ (cl - 1) (sl - 2) (by omega) (by omega) (al_Z.arr (f0 := 29) h s7 r7 (by decide) (by rw [al_row hr]; rfl) (by omega))
  have sM : ab_sh (ab_new τ 24 2) a = (14, 0) := by rw [ab_shn, if_neg (by have := h.1; omega)]; exact h.sh hs
  have e1 := h.1
  clear key h
  simp (disch := omega) only [rX13_init_57, rX13_init_58, rX13_init_59, rX13_init_61, sM, e1, ne_eq, not_false_eq_true, not_true_eq_false, true_and, and_true, and_self, true_imp_iff, false_imp_iff, imp_self, Bool.not_false, Bool.not_true, reduceCtorEq, ab_isJ, ab_psh, ab_cats, Bool.false_eq_true, if_true, if_false, ab_shf, ab_shw, Int.le_refl, Classical.not_not, Int.zero_add, forall_const, ↓ab_itT, ↓ab_itF, ab_anT, true_or, or_true]
  all_goals exact kq
theorem cn_X13_init_8 {D : Int → Prop} (hr : al_iL.getD a.toNat [] = [0, 0, -1, 0, 0, a + 1, 0, 0, 0, 0, 0, 0, 0, 0, 0, 0, a + 2, a + 3, a + 4, 0, 0, 0, 0, 0, 0, 0, 0, a + 5, a + 6, a + 7, a + 8, a + 9, a + 10, a + 11, 0, 0, a + 12]) (hs : ab_shT a = (14, 0)) (s1 : ab_shT (a + 1) = (23, 1000)) (r1 : al_iL.getD (a + 1).toNat [] = []) (s2 : ab_shT (a + 2) = (21, 18)) (r2 : al_iL.getD (a + 2).toNat [] = []) (s3 : ab_shT (a + 3) = (21, 288)) (r3 : al_iL.getD (a + 3).toNat [] = []) (s4 : ab_shT (a + 4) = (21, 54)) (r4 : al_iL.getD (a + 4).toNat [] = []) (s5 : ab_shT (a + 5) = (21, 2)) (r5 : al_iL.getD (a + 5).toNat [] = []) (s6 : ab_shT (a + 6) = (21, 2)) (r6 : al_iL.getD (a + 6).toNat [] = []) (s7 : ab_shT (a + 7) = (24, 2)) (r7 : al_iL.getD (a + 7).toNat [] = []) (s8 : ab_shT (a + 8) = (22, 144)) (r8 : al_iL.getD (a + 8).toNat [] = []) (s9 : ab_shT (a + 9) = (22, 144)) (r9 : al_iL.getD (a + 9).toNat [] = []) (s10 : ab_shT (a + 10) = (21, 9)) (r10 : al_iL.getD (a + 10).toNat [] = []) (s11 : ab_shT (a + 11) = (21, 6)) (r11 : al_iL.getD (a + 11).toNat [] = []) (s12 : ab_shT (a + 12) = (21, 6)) (r12 : al_iL.getD (a + 12).toNat [] = []) (h : al_Z σ0 τ a (a + 8) P D) (hb : 1 ≤ cl ∧ 144 ≤ sl) (key : ∀ υ cl' sl', cl' + 1 = cl → sl' + 144 = sl → al_Z σ0 υ a (a + 9) P (fun f => D f ∨ f = 30) → ab_Run X 157 73 (f, cl', sl') [ab_R a] [] υ Q) : ab_Run X 157 64 (f, cl, sl) [ab_R a] [] τ Q := by
  have h2 := h.2.1
  have kq := key _ (cl - 1) (sl - 144) (by omega) (by omega) (al_Z.arr (f0 := 30) h s8 r8 (by decide) (by rw [al_row hr]; rfl) (by omega))
  have sM : ab_sh (ab_new τ 22 144) a = (14, 0) := by rw [ab_shn, if_neg (by have := h.1; omega)]; exact h.sh hs
  have e1 := h.1
  clear key h
  simp (disch := omega) only [rX13_init_64, rX13_init_65, rX13_init_68, rX13_init_70, sM, e1, ne_eq, not_false_eq_true, not_true_eq_false, true_and, and_true, and_self, true_imp_iff, false_imp_iff, imp_self, Bool.not_false, Bool.not_true, reduceCtorEq, ab_isJ, ab_psh, ab_cats, Bool.false_eq_true, if_true, if_false, ab_shf, ab_shw, Int.le_refl, Classical.not_not, Int.zero_add, forall_const, ↓ab_itT, ↓ab_itF, ab_anT, true_or, or_true]
  all_goals exact kq
theorem cn_X13_init_9 {D : Int → Prop} (hr : al_iL.getD a.toNat [] = [0, 0, -1, 0, 0, a + 1, 0, 0, 0, 0, 0, 0, 0, 0, 0, 0, a + 2, a + 3, a + 4, 0, 0, 0, 0, 0, 0, 0, 0, a + 5, a + 6, a + 7, a + 8, a + 9, a + 10, a + 11, 0, 0, a + 12]) (hs : ab_shT a = (14, 0)) (s1 : ab_shT (a + 1) = (23, 1000)) (r1 : al_iL.getD (a + 1).toNat [] = []) (s2 : ab_shT (a + 2) = (21, 18)) (r2 : al_iL.getD (a + 2).toNat [] = []) (s3 : ab_shT (a + 3) = (21, 288)) (r3 : al_iL.getD (a + 3).toNat [] = []) (s4 : ab_shT (a + 4) = (21, 54)) (r4 : al_iL.getD (a + 4).toNat [] = []) (s5 : ab_shT (a + 5) = (21, 2)) (r5 : al_iL.getD (a + 5).toNat [] = []) (s6 : ab_shT (a + 6) = (21, 2)) (r6 : al_iL.getD (a + 6).toNat [] = []) (s7 : ab_shT (a + 7) = (24, 2)) (r7 : al_iL.getD (a + 7).toNat [] = []) (s8 : ab_shT (a + 8) = (22, 144)) (r8 : al_iL.getD (a + 8).toNat [] = []) (s9 : ab_shT (a + 9) = (22, 144)) (r9 : al_iL.getD (a + 9).toNat [] = []) (s10 : ab_shT (a + 10) = (21, 9)) (r10 : al_iL.getD (a + 10).toNat [] = []) (s11 : ab_shT (a + 11) = (21, 6)) (r11 : al_iL.getD (a + 11).toNat [] = []) (s12 : ab_shT (a + 12) = (21, 6)) (r12 : al_iL.getD (a + 12).toNat [] = []) (h : al_Z σ0 τ a (a + 9) P D) (hb : 1 ≤ cl ∧ 144 ≤ sl) (key : ∀ υ cl' sl', cl' + 1 = cl → sl' + 144 = sl → al_Z σ0 υ a (a + 10) P (fun f => D f ∨ f = 31) → ab_Run X 157 82 (f, cl', sl') [ab_R a] [] υ Q) : ab_Run X 157 73 (f, cl, sl) [ab_R a] [] τ Q := by
  have h2 := h.2.1
  have kq := key _ (cl - 1) (sl - 144) (by omega) (by omega) (al_Z.arr (f0 := 31) h s9 r9 (by decide) (by rw [al_row hr]; rfl) (by omega))
  have sM : ab_sh (ab_new τ 22 144) a = (14, 0) := by rw [ab_shn, if_neg (by have := h.1; omega)]; exact h.sh hs
  have e1 := h.1
  clear key h
  simp (disch := omega) only [rX13_init_73, rX13_init_74, rX13_init_77, rX13_init_79, sM, e1, ne_eq, not_false_eq_true, not_true_eq_false, true_and, and_true, and_self, true_imp_iff, false_imp_iff, imp_self, Bool.not_false, Bool.not_true, reduceCtorEq, ab_isJ, ab_psh, ab_cats, Bool.false_eq_true, if_true, if_false, ab_shf, ab_shw, Int.le_refl, Classical.not_not, Int.zero_add, forall_const, ↓ab_itT, ↓ab_itF, ab_anT, true_or, or_true]
  all_goals exact kq
theorem cn_X13_init_10 {D : Int → Prop} (hr : al_iL.getD a.toNat [] = [0, 0, -1, 0, 0, a + 1, 0, 0, 0, 0, 0, 0, 0, 0, 0, 0, a + 2, a + 3, a + 4, 0, 0, 0, 0, 0, 0, 0, 0, a + 5, a + 6, a + 7, a + 8, a + 9, a + 10, a + 11, 0, 0, a + 12]) (hs : ab_shT a = (14, 0)) (s1 : ab_shT (a + 1) = (23, 1000)) (r1 : al_iL.getD (a + 1).toNat [] = []) (s2 : ab_shT (a + 2) = (21, 18)) (r2 : al_iL.getD (a + 2).toNat [] = []) (s3 : ab_shT (a + 3) = (21, 288)) (r3 : al_iL.getD (a + 3).toNat [] = []) (s4 : ab_shT (a + 4) = (21, 54)) (r4 : al_iL.getD (a + 4).toNat [] = []) (s5 : ab_shT (a + 5) = (21, 2)) (r5 : al_iL.getD (a + 5).toNat [] = []) (s6 : ab_shT (a + 6) = (21, 2)) (r6 : al_iL.getD (a + 6).toNat [] = []) (s7 : ab_shT (a + 7) = (24, 2)) (r7 : al_iL.getD (a + 7).toNat [] = []) (s8 : ab_shT (a + 8) = (22, 144)) (r8 : al_iL.getD (a + 8).toNat [] = []) (s9 : ab_shT (a + 9) = (22, 144)) (r9 : al_iL.getD (a + 9).toNat [] = []) (s10 : ab_shT (a + 10) = (21, 9)) (r10 : al_iL.getD (a + 10).toNat [] = []) (s11 : ab_shT (a + 11) = (21, 6)) (r11 : al_iL.getD (a + 11).toNat [] = []) (s12 : ab_shT (a + 12) = (21, 6)) (r12 : al_iL.getD (a + 12).toNat [] = []) (h : al_Z σ0 τ a (a + 10) P D) (hb : 1 ≤ cl ∧ 9 ≤ sl) (key : ∀ υ cl' sl', cl' + 1 = cl → sl' + 9 = sl → al_Z σ0 υ a (a + 11) P (fun f => D f ∨ f = 32) → ab_Run X 157 90 (f, cl', sl') [ab_R a] [] υ Q) : ab_Run X 157 82 (f, cl, sl) [ab_R a] [] τ Q := by
  have h2 := h.2.1
  have kq := key _ (cl - 1) (sl - 9) (by omega) (by omega) (al_Z.arr (f0 := 32) h s10 r10 (by decide) (by rw [al_row hr]; rfl) (by omega))
  have sM : ab_sh (ab_new τ 21 9) a = (14, 0) := by rw [ab_shn, if_neg (by have := h.1; omega)]; exact h.sh hs
  have e1 := h.1
  clear key h
  simp (disch := omega) only [rX13_init_82, rX13_init_83, rX13_init_85, rX13_init_87, sM, e1, ne_eq, not_false_eq_true, not_true_eq_false, true_and, and_true, and_self, true_imp_iff, false_imp_iff, imp_self, Bool.not_false, Bool.not_true, reduceCtorEq, ab_isJ, ab_psh, ab_cats, Bool.false_eq_true, if_true, if_false, ab_shf, ab_shw, Int.le_refl, Classical.not_not, Int.zero_add, forall_const, ↓ab_itT, ↓ab_itF, ab_anT, true_or, or_true]
  all_goals exact kq
theorem cn_X13_init_11 {D : Int → Prop} (hr : al_iL.getD a.toNat [] = [0, 0, -1, 0, 0, a + 1, 0, 0, 0, 0, 0, 0, 0, 0, 0, 0, a + 2, a + 3, a + 4, 0, 0, 0, 0, 0, 0, 0, 0, a + 5, a + 6, a + 7, a + 8, a + 9, a + 10, a + 11, 0, 0, a + 12]) (hs : ab_shT a = (14, 0)) (s1 : ab_shT (a + 1) = (23, 1000)) (r1 : al_iL.getD (a + 1).toNat [] = []) (s2 : ab_shT (a + 2) = (21, 18)) (r2 : al_iL.getD (a + 2).toNat [] = []) (s3 : ab_shT (a + 3) = (21, 288)) (r3 : al_iL.getD (a + 3).toNat [] = []) (s4 : ab_shT (a + 4) = (21, 54)) (r4 : al_iL.getD (a + 4).toNat [] = []) (s5 : ab_shT (a + 5) = (21, 2)) (r5 : al_iL.getD (a + 5).toNat [] = []) (s6 : ab_shT (a + 6) = (21, 2)) (r6 : al_iL.getD (a + 6).toNat [] = []) (s7 : ab_shT (a + 7) = (24, 2)) (r7 : al_iL.getD (a + 7).toNat [] = []) (s8 : ab_shT (a + 8) = (22, 144)) (r8 : al_iL.getD (a + 8).toNat [] = []) (s9 : ab_shT (a + 9) = (22, 144)) (r9 : al_iL.getD (a + 9).toNat [] = []) (s10 : ab_shT (a + 10) = (21, 9)) (r10 : al_iL.getD (a + 10).toNat [] = []) (s11 : ab_shT (a + 11) = (21, 6)) (r11 : al_iL.getD (a + 11).toNat [] = []) (s12 : ab_shT (a + 12) = (21, 6)) (r12 : al_iL.getD (a + 12).toNat [] = []) (h : al_Z σ0 τ a (a + 11) P D) (hb : 1 ≤ cl ∧ 6 ≤ sl) (key : ∀ υ cl' sl', cl' + 1 = cl → sl' + 6 = sl → al_Z σ0 υ a (a + 12) P (fun f => D f ∨ f = 33) → ab_Run X 157 98 (f, cl', sl') [ab_R a] [] υ Q) : ab_Run X 157 90 (f, cl, sl) [ab_R a] [] τ Q := by
  have h2 := h.2.1
  have kq := key _ (cl - 1) (sl - 6) (by omega) (by omega) (al_Z.arr (f0 := 33) h s11 r11 (by decide) (by rw [al_row hr]; rfl) (by omega))
  have sM : ab_sh (ab_new τ 21 6) a = (14, 0) := by rw [ab_shn, if_neg (by have := h.1; omega)]; exact h.sh hs
  have e1 := h.1
  clear key h
  simp (disch := omega) only [rX13_init_90, rX13_init_91, rX13_init_93, rX13_init_95, sM, e1, ne_eq, not_false_eq_true, not_true_eq_false, true_and, and_true, and_self, true_imp_iff, false_imp_iff, imp_self, Bool.not_false, Bool.not_true, reduceCtorEq, ab_isJ, ab_psh, ab_cats, Bool.false_eq_true, if_true, if_false, ab_shf, ab_shw, Int.le_refl, Classical.not_not, Int.zero_add, forall_const, ↓ab_itT, ↓ab_itF, ab_anT, true_or, or_true]
  all_goals exact kq
theorem cn_X13_init_12 {D : Int → Prop} (hr : al_iL.getD a.toNat [] = [0, 0, -1, 0, 0, a + 1, 0, 0, 0, 0, 0, 0, 0, 0, 0, 0, a + 2, a + 3, a + 4, 0, 0, 0, 0, 0, 0, 0, 0, a + 5, a + 6, a + 7, a + 8, a + 9, a + 10, a + 11, 0, 0, a + 12]) (hs : ab_shT a = (14, 0)) (s1 : ab_shT (a + 1) = (23, 1000)) (r1 : al_iL.getD (a + 1).toNat [] = []) (s2 : ab_shT (a + 2) = (21, 18)) (r2 : al_iL.getD (a + 2).toNat [] = []) (s3 : ab_shT (a + 3) = (21, 288)) (r3 : al_iL.getD (a + 3).toNat [] = []) (s4 : ab_shT (a + 4) = (21, 54)) (r4 : al_iL.getD (a + 4).toNat [] = []) (s5 : ab_shT (a + 5) = (21, 2)) (r5 : al_iL.getD (a + 5).toNat [] = []) (s6 : ab_shT (a + 6) = (21, 2)) (r6 : al_iL.getD (a + 6).toNat [] = []) (s7 : ab_shT (a + 7) = (24, 2)) (r7 : al_iL.getD (a + 7).toNat [] = []) (s8 : ab_shT (a + 8) = (22, 144)) (r8 : al_iL.getD (a + 8).toNat [] = []) (s9 : ab_shT (a + 9) = (22, 144)) (r9 : al_iL.getD (a + 9).toNat [] = []) (s10 : ab_shT (a + 10) = (21, 9)) (r10 : al_iL.getD (a + 10).toNat [] = []) (s11 : ab_shT (a + 11) = (21, 6)) (r11 : al_iL.getD (a + 11).toNat [] = []) (s12 : ab_shT (a + 12) = (21, 6)) (r12 : al_iL.getD (a + 12).toNat [] = []) (h : al_Z σ0 τ a (a + 12) P D) (hb : 1 ≤ cl ∧ 6 ≤ sl) (key : ∀ υ cl' sl', cl' + 1 = cl → sl' + 6 = sl → al_Z σ0 υ a (a + 13) P (fun f => D f ∨ f = 36) → ab_Run X 157 106 (f, cl', sl') [ab_R a] [] υ Q) : ab_Run X 157 98 (f, cl, sl) [ab_R a] [] τ Q := by
  have h2 := h.2.1
  have kq := key _ (cl - 1) (sl - 6) (by omega) (by omega) (al_Z.arr (f0 := 36) h s12 r12 (by decide) (by rw [al_row hr]; rfl) (by omega))
  have sM : ab_sh (ab_new τ 21 6) a = (14, 0) := by rw [ab_shn, if_neg (by have := h.1; omega)]; exact h.sh hs
  have e1 := h.1
  clear key h
  simp (disch := omega) only [rX13_init_98, rX13_init_99, rX13_init_101, rX13_init_103, sM, e1, ne_eq, not_false_eq_true, not_true_eq_false, true_and, and_true, and_self, true_imp_iff, false_imp_iff, imp_self, Bool.not_false, Bool.not_true, reduceCtorEq, ab_isJ, ab_psh, ab_cats, Bool.false_eq_true, if_true, if_false, ab_shf, ab_shw, Int.le_refl, Classical.not_not, Int.zero_add, forall_const, ↓ab_itT, ↓ab_itF, ab_anT, true_or, or_true]
  all_goals exact kq
theorem cn_X13_init (hr : al_iL.getD a.toNat [] = [0, 0, -1, 0, 0, a + 1, 0, 0, 0, 0, 0, 0, 0, 0, 0, 0, a + 2, a + 3, a + 4, 0, 0, 0, 0, 0, 0, 0, 0, a + 5, a + 6, a + 7, a + 8, a + 9, a + 10, a + 11, 0, 0, a + 12]) (hs : ab_shT a = (14, 0)) (s1 : ab_shT (a + 1) = (23, 1000)) (r1 : al_iL.getD (a + 1).toNat [] = []) (s2 : ab_shT (a + 2) = (21, 18)) (r2 : al_iL.getD (a + 2).toNat [] = []) (s3 : ab_shT (a + 3) = (21, 288)) (r3 : al_iL.getD (a + 3).toNat [] = []) (s4 : ab_shT (a + 4) = (21, 54)) (r4 : al_iL.getD (a + 4).toNat [] = []) (s5 : ab_shT (a + 5) = (21, 2)) (r5 : al_iL.getD (a + 5).toNat [] = []) (s6 : ab_shT (a + 6) = (21, 2)) (r6 : al_iL.getD (a + 6).toNat [] = []) (s7 : ab_shT (a + 7) = (24, 2)) (r7 : al_iL.getD (a + 7).toNat [] = []) (s8 : ab_shT (a + 8) = (22, 144)) (r8 : al_iL.getD (a + 8).toNat [] = []) (s9 : ab_shT (a + 9) = (22, 144)) (r9 : al_iL.getD (a + 9).toNat [] = []) (s10 : ab_shT (a + 10) = (21, 9)) (r10 : al_iL.getD (a + 10).toNat [] = []) (s11 : ab_shT (a + 11) = (21, 6)) (r11 : al_iL.getD (a + 11).toNat [] = []) (s12 : ab_shT (a + 12) = (21, 6)) (r12 : al_iL.getD (a + 12).toNat [] = []) (hP : ¬ P a) (h : al_Z σ σ a (a + 1) P (fun _ => False)) (hQ : ∀ τ, al_Y σ τ a (a + 13) P → Q none τ) : ab_Do X 157 [ab_R a] σ Q := by
  have ha := h.2.1.1
  have kq : ab_Run X 157 4 (1, 12, 1675) [ab_R a] [] σ Q := by
    refine cn_X13_init_0 hr hs s1 r1 s2 r2 s3 r3 s4 r4 s5 r5 s6 r6 s7 r7 s8 r8 s9 r9 s10 r10 s11 r11 s12 r12 h (fun τ1 h1 => ?_)
    refine cn_X13_init_1 hr hs s1 r1 s2 r2 s3 r3 s4 r4 s5 r5 s6 r6 s7 r7 s8 r8 s9 r9 s10 r10 s11 r11 s12 r12 h1 (by omega) (fun τ2 c2 d2 e2 f2 h2 => ?_)
    refine cn_X13_init_2 hr hs s1 r1 s2 r2 s3 r3 s4 r4 s5 r5 s6 r6 s7 r7 s8 r8 s9 r9 s10 r10 s11 r11 s12 r12 h2 (by omega) (fun τ3 c3 d3 e3 f3 h3 => ?_)
    refine cn_X13_init_3 hr hs s1 r1 s2 r2 s3 r3 s4 r4 s5 r5 s6 r6 s7 r7 s8 r8 s9 r9 s10 r10 s11 r11 s12 r12 h3 (by omega) (fun τ4 c4 d4 e4 f4 h4 => ?_)
    refine cn_X13_init_4 hr hs s1 r1 s2 r2 s3 r3 s4 r4 s5 r5 s6 r6 s7 r7 s8 r8 s9 r9 s10 r10 s11 r11 s12 r12 h4 (by omega) (fun τ5 c5 d5 e5 f5 h5 => ?_)
    refine cn_X13_init_5 hr hs s1 r1 s2 r2 s3 r3 s4 r4 s5 r5 s6 r6 s7 r7 s8 r8 s9 r9 s10 r10 s11 r11 s12 r12 h5 (by omega) (fun τ6 c6 d6 e6 f6 h6 => ?_)
    refine cn_X13_init_6 hr hs s1 r1 s2 r2 s3 r3 s4 r4 s5 r5 s6 r6 s7 r7 s8 r8 s9 r9 s10 r10 s11 r11 s12 r12 h6 (by omega) (fun τ7 c7 d7 e7 f7 h7 => ?_)
    refine cn_X13_init_7 hr hs s1 r1 s2 r2 s3 r3 s4 r4 s5 r5 s6 r6 s7 r7 s8 r8 s9 r9 s10 r10 s11 r11 s12 r12 h7 (by omega) (fun τ8 c8 d8 e8 f8 h8 => ?_)
    refine cn_X13_init_8 hr hs s1 r1 s2 r2 s3 r3 s4 r4 s5 r5 s6 r6 s7 r7 s8 r8 s9 r9 s10 r10 s11 r11 s12 r12 h8 (by omega) (fun τ9 c9 d9 e9 f9 h9 => ?_)
    refine cn_X13_init_9 hr hs s1 r1 s2 r2 s3 r3 s4 r4 s5 r5 s6 r6 s7 r7 s8 r8 s9 r9 s10 r10 s11 r11 s12 r12 h9 (by omega) (fun τ10 c10 d10 e10 f10 h10 => ?_)
    refine cn_X13_init_10 hr hs s1 r1 s2 r2 s3 r3 s4 r4 s5 r5 s6 r6 s7 r7 s8 r8 s9 r9 s10 r10 s11 r11 s12 r12 h10 (by omega) (fun τ11 c11 d11 e11 f11 h11 => ?_)
    refine cn_X13_init_11 hr hs s1 r1 s2 r2 s3 r3 s4 r4 s5 r5 s6 r6 s7 r7 s8 r8 s9 r9 s10 r10 s11 r11 s12 r12 h11 (by omega) (fun τ12 c12 d12 e12 f12 h12 => ?_)
    refine cn_X13_init_12 hr hs s1 r1 s2 r2 s3 r3 s4 r4 s5 r5 s6 r6 s7 r7 s8 r8 s9 r9 s10 r10 s11 r11 s12 r12 h12 (by omega) (fun τ13 c13 d13 e13 f13 h13 => ?_)
    have kr := hQ τ13 (al_Z.done h13 (fun f f1 => by
      have q : f = 0 ∨ f = 1 ∨ f = 2 ∨ f = 3 ∨ f = 4 ∨ f = 5 ∨ f = 6 ∨ f = 7 ∨ f = 8 ∨ f = 9 ∨ f = 10 ∨ f = 11 ∨ f = 12 ∨ f = 13 ∨ f = 14 ∨ f = 15 ∨ f = 16 ∨ f = 17 ∨ f = 18 ∨ f = 19 ∨ f = 20 ∨ f = 21 ∨ f = 22 ∨ f = 23 ∨ f = 24 ∨ f = 25 ∨ f = 26 ∨ f = 27 ∨ f = 28 ∨ f = 29 ∨ f = 30 ∨ f = 31 ∨ f = 32 ∨ f = 33 ∨ f = 34 ∨ f = 35 ∨ f = 36 ∨ 37 ≤ f := by omega
      rcases q with rfl | rfl | rfl | rfl | rfl | rfl | rfl | rfl | rfl | rfl | rfl | rfl | rfl | rfl | rfl | rfl | rfl | rfl | rfl | rfl | rfl | rfl | rfl | rfl | rfl | rfl | rfl | rfl | rfl | rfl | rfl | rfl | rfl | rfl | rfl | rfl | rfl | q
      · right; rw [al_row hr]; rfl
      · right; rw [al_row hr]; rfl
      · exact Or.inl (Or.inl (Or.inl (Or.inl (Or.inl (Or.inl (Or.inl (Or.inl (Or.inl (Or.inl (Or.inl (Or.inl (Or.inl (Or.inr rfl)))))))))))))
      · right; rw [al_row hr]; rfl
      · right; rw [al_row hr]; rfl
      · exact Or.inl (Or.inl (Or.inl (Or.inl (Or.inl (Or.inl (Or.inl (Or.inl (Or.inl (Or.inl (Or.inl (Or.inl (Or.inr rfl))))))))))))
      · right; rw [al_row hr]; rfl
      · right; rw [al_row hr]; rfl
      · right; rw [al_row hr]; rfl
      · right; rw [al_row hr]; rfl
      · right; rw [al_row hr]; rfl
      · right; rw [al_row hr]; rfl
      · right; rw [al_row hr]; rfl
      · right; rw [al_row hr]; rfl
      · right; rw [al_row hr]; rfl
      · right; rw [al_row hr]; rfl
      · exact Or.inl (Or.inl (Or.inl (Or.inl (Or.inl (Or.inl (Or.inl (Or.inl (Or.inl (Or.inl (Or.inl (Or.inr rfl)))))))))))
      · exact Or.inl (Or.inl (Or.inl (Or.inl (Or.inl (Or.inl (Or.inl (Or.inl (Or.inl (Or.inl (Or.inr rfl))))))))))
      · exact Or.inl (Or.inl (Or.inl (Or.inl (Or.inl (Or.inl (Or.inl (Or.inl (Or.inl (Or.inr rfl)))))))))
      · right; rw [al_row hr]; rfl
      · right; rw [al_row hr]; rfl
      · right; rw [al_row hr]; rfl
      · right; rw [al_row hr]; rfl
      · right; rw [al_row hr]; rfl
      · right; rw [al_row hr]; rfl
      · right; rw [al_row hr]; rfl
      · right; rw [al_row hr]; rfl
      · exact Or.inl (Or.inl (Or.inl (Or.inl (Or.inl (Or.inl (Or.inl (Or.inl (Or.inr rfl))))))))
      · exact Or.inl (Or.inl (Or.inl (Or.inl (Or.inl (Or.inl (Or.inl (Or.inr rfl)))))))
      · exact Or.inl (Or.inl (Or.inl (Or.inl (Or.inl (Or.inl (Or.inr rfl))))))
      · exact Or.inl (Or.inl (Or.inl (Or.inl (Or.inl (Or.inr rfl)))))
      · exact Or.inl (Or.inl (Or.inl (Or.inl (Or.inr rfl))))
      · exact Or.inl (Or.inl (Or.inl (Or.inr rfl)))
      · exact Or.inl (Or.inl (Or.inr rfl))
      · right; rw [al_row hr]; rfl
      · right; rw [al_row hr]; rfl
      · exact Or.inl (Or.inr rfl)
      · right; rw [al_row hr]; exact ac_getD_ge (by simp only [List.length_cons, List.length_nil]; omega)) hP)
    clear hQ
    simp (disch := omega) only [rX13_init_106, ne_eq, not_false_eq_true, not_true_eq_false, true_and, and_true, and_self, true_imp_iff, false_imp_iff, imp_self, Bool.not_false, Bool.not_true, reduceCtorEq, ab_isJ, ab_psh, ab_cats, Bool.false_eq_true, if_true, if_false, ab_shf, ab_shw, Int.le_refl, Classical.not_not, Int.zero_add, forall_const, ↓ab_itT, ↓ab_itF, ab_anT, ab_w32_id, ab_rdf_ne, ab_rdw_ne, ab_rdw_eq, ab_rdf_in, ab_td2, ab_tm2]
    all_goals exact kr
  clear hQ h
  simp (disch := omega) only [dn_X13_init, rX13_init_0, rX13_init_1, ne_eq, not_false_eq_true, not_true_eq_false, true_and, and_true, and_self, true_imp_iff, false_imp_iff, imp_self, Bool.not_false, Bool.not_true, reduceCtorEq, ab_isJ, ab_psh, ab_cats, Bool.false_eq_true, if_true, if_false, ab_shf, ab_shw, Int.le_refl, Classical.not_not, Int.zero_add, forall_const, ↓ab_itT, ↓ab_itF, ab_anT, true_or, or_true]
  all_goals exact kq
end
