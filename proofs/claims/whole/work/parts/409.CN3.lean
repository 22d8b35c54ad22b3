/-! MAKING: arrays of objects (written by gen/gcons3.py) -/
def al_E (σ : ab_S) (A i : Int) : Prop := ∀ f, 0 ≤ f → (f < i → ab_rd σ A f = al_ini A f) ∧ (¬ f < i → ab_rd σ A f = 0)
section
variable {X : ab_X} {σ τ υ σ0 : ab_S} {Q : Option ab_V → ab_S → Prop} {a z z' A B i j n t k2 : Int} {P D : Int → Prop} {f cl sl : Nat}
theorem al_E.zero (h : ∀ f, ab_rd σ A f = 0) : al_E σ A 0 := fun f f1 => ⟨fun u => by omega, fun _ => h f⟩
theorem al_E.step (h : al_E σ A i) (hi : 0 ≤ i) (e : ∀ x f, x < z → (x ≠ A ∨ f ≠ i) → ab_rd τ x f = ab_rd σ x f) (hz : A < z) (hv : ab_rd τ A i = z) (hn : al_ini A i = z) (e' : z' = i + 1) : al_E τ A z' := fun f f1 => by
  subst e'
  by_cases q : f = i
  · subst q
    exact ⟨fun _ => by rw [hv, hn], fun u => by omega⟩
  · rw [e A f hz (Or.inr q)]
    exact ⟨fun u => (h f f1).1 (by omega), fun u => (h f f1).2 (by omega)⟩
theorem al_E.keep (h : al_E σ B j) (e : ∀ x f, x < z → (x ≠ A ∨ f ≠ i) → ab_rd τ x f = ab_rd σ x f) (hz : B < z) (hB : B ≠ A) : al_E τ B j := fun f f1 => by
  rw [e B f hz (Or.inl hB)]
  exact h f f1
theorem al_E.same (h : al_E σ B j) (e : ∀ f, ab_rd τ B f = ab_rd σ B f) : al_E τ B j := fun f f1 => by
  rw [e f]
  exact h f f1
theorem al_E.full (h : al_E σ A i) (hn : ∀ f, i ≤ f → al_ini A f = 0) : ∀ f, 0 ≤ f → ab_rd σ A f = al_ini A f := fun f f1 => by
  by_cases q : f < i
  · exact (h f f1).1 q
  · rw [(h f f1).2 q, hn f (by omega)]
theorem al_Z.mul (h : al_Z σ0 σ a z P D) (hn : 0 ≤ n) (ht : ab_shT z = (29, n)) (hx : ∀ x, z < x → x ≤ z + n → ab_shT x = (21, k2) ∧ al_iL.getD x.toNat [] = []) (hi : ∀ f, 0 ≤ f → al_ini z f = if 0 ≤ f ∧ f < n then z + 1 + f else 0) (hf : al_ini a i = z) (e' : z' = z + 1 + n) : al_Z σ0 (ab_wr (ab_mul σ n k2) a i z) a z' P (fun f => D f ∨ f = i) ∧ (∀ x f, x < z → x ≠ a → ab_rd (ab_wr (ab_mul σ n k2) a i z) x f = ab_rd σ x f) := by
  subst e'
  obtain ⟨h1, h2, h3, h4, h5, h6⟩ := h
  have rm : ∀ x y, ab_rd (ab_mul σ n k2) x y = if x = σ.1 then (if 0 ≤ y ∧ y < n then σ.1 + 1 + y else 0) else if σ.1 < x ∧ x ≤ σ.1 + n then 0 else ab_rd σ x y := fun _ _ => rfl
  have sm : ∀ x, ab_sh (ab_mul σ n k2) x = if x = σ.1 then (29, n) else if σ.1 < x ∧ x ≤ σ.1 + n then (21, k2) else ab_sh σ x := fun _ => rfl
  have lo : ∀ x y, x < z → ab_rd (ab_mul σ n k2) x y = ab_rd σ x y := fun x y q => by rw [rm, if_neg (by omega), if_neg (by omega)]
  refine ⟨⟨?_, by omega, fun x x1 x2 => ?_, fun x f x1 x2 f1 u e => ?_, fun f f1 => ⟨fun w => ?_, fun w => ?_⟩, fun x f x1 => ?_⟩, fun x f x1 x2 => ?_⟩
  · show σ.1 + 1 + n = z + 1 + n
    omega
  · rw [ab_shw, sm]
    by_cases e : x = σ.1
    · rw [if_pos e, e, h1, ht]
    · rw [if_neg e]
      by_cases e2 : σ.1 < x ∧ x ≤ σ.1 + n
      · rw [if_pos e2, (hx x (by omega) (by omega)).1]
      · rw [if_neg e2]; exact h3 x x1 (by omega)
  · rw [ab_rdw_ne (Or.inl e), rm]
    by_cases e1 : x = σ.1
    · rw [if_pos e1, e1, h1, hi f f1]
    · rw [if_neg e1]
      by_cases e2 : σ.1 < x ∧ x ≤ σ.1 + n
      · rw [if_pos e2, al_row0 (hx x (by omega) (by omega)).2]
      · rw [if_neg e2]; exact h4 x f x1 (by omega) f1 u e
  · by_cases e : f = i
    · rw [e, ab_rdw_eq, hf]
    · rw [ab_rdw_ne (Or.inr e), lo a f (by omega)]
      rcases w with w | w
      · exact (h5 f f1).1 w
      · exact absurd w e
  · rw [ab_rdw_ne (Or.inr (fun e => w (Or.inr e))), lo a f (by omega)]
    exact (h5 f f1).2 (fun u => w (Or.inl u))
  · rw [ab_rdw_ne (by omega), lo x f (by omega)]; exact h6 x f x1
  · rw [ab_rdw_ne (by omega), lo x f x1]
theorem cs_X4_init_0 (h : al_Z σ0 τ a z P D) (hs : ab_shT a = (5, 0)) (hb : 1 ≤ cl ∧ 5 ≤ sl) (kq : ab_Run X 26 12 (f, cl - 1, sl - 5) [ab_R a, ab_R 0] [] (ab_wr (ab_new τ 26 5) a 6 z) Q) : ab_Run X 26 4 (f, cl, sl) [ab_R a, ab_R 0] [] τ Q := by
  have h2 := h.2.1
  have sM : ab_sh (ab_new τ 26 5) a = (5, 0) := by rw [ab_shn, if_neg (by have := h.1; omega)]; exact h.sh hs
  have e1 := h.1
  clear h
  simp (disch := omega) only [rX4_init_4, rX4_init_5, rX4_init_6, rX4_init_9, sM, e1, ne_eq, not_false_eq_true, not_true_eq_false, true_and, and_true, and_self, true_imp_iff, false_imp_iff, imp_self, Bool.not_false, Bool.not_true, reduceCtorEq, ab_isJ, ab_psh, ab_cats, Bool.false_eq_true, if_true, if_false, ab_shf, ab_shw, Int.le_refl, Classical.not_not, Int.zero_add, forall_const, ↓ab_itT, ↓ab_itF, ab_anT, true_or, or_true]
  all_goals exact kq
theorem cs_X4_init_1 (h : al_Z σ0 τ a z P D) (hs : ab_shT a = (5, 0)) (hb : 1 ≤ cl ∧ 6 ≤ sl) (kq : ab_Run X 26 21 (f, cl - 1, sl - 6) [ab_R a, ab_R 0] [] (ab_wr (ab_new τ 27 6) a 8 z) Q) : ab_Run X 26 12 (f, cl, sl) [ab_R a, ab_R 0] [] τ Q := by
  have h2 := h.2.1
  have sM : ab_sh (ab_new τ 27 6) a = (5, 0) := by rw [ab_shn, if_neg (by have := h.1; omega)]; exact h.sh hs
  have e1 := h.1
  clear h
  simp (disch := omega) only [rX4_init_12, rX4_init_13, rX4_init_15, rX4_init_18, sM, e1, ne_eq, not_false_eq_true, not_true_eq_false, true_and, and_true, and_self, true_imp_iff, false_imp_iff, imp_self, Bool.not_false, Bool.not_true, reduceCtorEq, ab_isJ, ab_psh, ab_cats, Bool.false_eq_true, if_true, if_false, ab_shf, ab_shw, Int.le_refl, Classical.not_not, Int.zero_add, forall_const, ↓ab_itT, ↓ab_itF, ab_anT, true_or, or_true]
  all_goals exact kq
theorem cs_X4_init_2 (h : al_Z σ0 τ a z P D) (hs : ab_shT a = (5, 0)) (hb : 1 ≤ cl ∧ 4 ≤ sl) (kq : ab_Run X 26 28 (f, cl - 1, sl - 4) [ab_R a, ab_R 0] [] (ab_wr (ab_new τ 21 4) a 13 z) Q) : ab_Run X 26 21 (f, cl, sl) [ab_R a, ab_R 0] [] τ Q := by
  have h2 := h.2.1
  have sM : ab_sh (ab_new τ 21 4) a = (5, 0) := by rw [ab_shn, if_neg (by have := h.1; omega)]; exact h.sh hs
  have e1 := h.1
  clear h
  simp (disch := omega) only [rX4_init_21, rX4_init_22, rX4_init_23, rX4_init_25, sM, e1, ne_eq, not_false_eq_true, not_true_eq_false, true_and, and_true, and_self, true_imp_iff, false_imp_iff, imp_self, Bool.not_false, Bool.not_true, reduceCtorEq, ab_isJ, ab_psh, ab_cats, Bool.false_eq_true, if_true, if_false, ab_shf, ab_shw, Int.le_refl, Classical.not_not, Int.zero_add, forall_const, ↓ab_itT, ↓ab_itF, ab_anT, true_or, or_true]
  all_goals exact kq
theorem cs_X4_init_3 (h : al_Z σ0 τ a z P D) (hs : ab_shT a = (5, 0)) (hb : 1 ≤ cl ∧ 4 ≤ sl) (kq : ab_Run X 26 35 (f, cl - 1, sl - 4) [ab_R a, ab_R 0] [] (ab_wr (ab_new τ 21 4) a 14 z) Q) : ab_Run X 26 28 (f, cl, sl) [ab_R a, ab_R 0] [] τ Q := by
  have h2 := h.2.1
  have sM : ab_sh (ab_new τ 21 4) a = (5, 0) := by rw [ab_shn, if_neg (by have := h.1; omega)]; exact h.sh hs
  have e1 := h.1
  clear h
  simp (disch := omega) only [rX4_init_28, rX4_init_29, rX4_init_30, rX4_init_32, sM, e1, ne_eq, not_false_eq_true, not_true_eq_false, true_and, and_true, and_self, true_imp_iff, false_imp_iff, imp_self, Bool.not_false, Bool.not_true, reduceCtorEq, ab_isJ, ab_psh, ab_cats, Bool.false_eq_true, if_true, if_false, ab_shf, ab_shw, Int.le_refl, Classical.not_not, Int.zero_add, forall_const, ↓ab_itT, ↓ab_itF, ab_anT, true_or, or_true]
  all_goals exact kq
theorem cs_X4_init_i0 {l1 : ab_V} (kq : ab_Run X 26 37 (f, cl, sl) [ab_R a, ab_I 0] [] τ Q) : ab_Run X 26 35 (f, cl, sl) [ab_R a, l1] [] τ Q := by
  simp (disch := omega) only [rX4_init_35, rX4_init_36, ne_eq, not_false_eq_true, not_true_eq_false, true_and, and_true, and_self, true_imp_iff, false_imp_iff, imp_self, Bool.not_false, Bool.not_true, reduceCtorEq, ab_isJ, ab_psh, ab_cats, Bool.false_eq_true, if_true, if_false, ab_shf, ab_shw, Int.le_refl, Classical.not_not, Int.zero_add, forall_const, ↓ab_itT, ↓ab_itF, ab_anT, ab_w32_id, ab_rdf_ne, ab_rdw_ne, ab_rdw_eq, ab_rdf_in, ab_td2, ab_tm2, true_or, or_true]
  all_goals exact kq
theorem cs_X4_init_x0 (kq : ab_Run X 26 61 (f, cl, sl) [ab_R a, ab_I 5] [] τ Q) : ab_Run X 26 37 (f, cl, sl) [ab_R a, ab_I 5] [] τ Q := by
  rw [rX4_init_37]
  simp (disch := omega) only [rX4_init_38, rX4_init_39, ne_eq, not_false_eq_true, not_true_eq_false, true_and, and_true, and_self, true_imp_iff, false_imp_iff, imp_self, Bool.not_false, Bool.not_true, reduceCtorEq, ab_isJ, ab_psh, ab_cats, Bool.false_eq_true, if_true, if_false, ab_shf, ab_shw, Int.le_refl, Classical.not_not, Int.zero_add, forall_const, ↓ab_itT, ↓ab_itF, ab_anT, ab_w32_id, ab_rdf_ne, ab_rdw_ne, ab_rdw_eq, ab_rdf_in, ab_td2, ab_tm2, true_or, or_true]
  all_goals exact kq
theorem cs_X4_init_e0_0 (h : al_Z σ0 τ a z P D) (hs : ab_shT a = (5, 0)) (hA : ab_rd τ a 6 = A) (hA0 : A ≠ 0) (hi : 0 ≤ i ∧ i < 5) (hz : ab_shT z = (2, 0)) (hf : 2 ≤ f) (hb : 3 ≤ cl ∧ 19 ≤ sl) (key : ab_Do X 5 [ab_R z] (ab_new τ 2 0) (fun r σ' => ab_Run X 26 54 (f, cl - 1 - 2, sl - 5 - 14) [ab_R a, ab_I i] (ab_psh r [ab_R z, ab_I i, ab_R A]) σ' Q)) : ab_Run X 26 37 (f, cl, sl) [ab_R a, ab_I i] [] τ Q := by
  have h2 := h.2.1
  have e1 := h.1
  have sa := h.sh hs
  have sz : ab_sh (ab_new τ 2 0) z = (2, 0) := by rw [ab_shn, if_pos e1.symm]
  clear h
  rw [rX4_init_37]
  simp (disch := omega) only [rX4_init_38, rX4_init_39, rX4_init_42, rX4_init_43, rX4_init_46, rX4_init_47, rX4_init_50, rX4_init_51, sa, sz, hA, e1, ne_eq, not_false_eq_true, not_true_eq_false, true_and, and_true, and_self, true_imp_iff, false_imp_iff, imp_self, Bool.not_false, Bool.not_true, reduceCtorEq, ab_isJ, ab_psh, ab_cats, Bool.false_eq_true, if_true, if_false, ab_shf, ab_shw, Int.le_refl, Classical.not_not, Int.zero_add, forall_const, ↓ab_itT, ↓ab_itF, ab_anT, true_or, or_true]
  all_goals exact key
theorem cs_X4_init_s0_0 (sA : ab_sh τ A = (26, 5)) (sz : ab_sh τ z = (2, 0)) (hi : 0 ≤ i ∧ i < 5) (kq : ab_Run X 26 37 (f, cl, sl) [ab_R a, ab_I (i + 1)] [] (ab_wr τ A i z) Q) : ab_Run X 26 54 (f, cl, sl) [ab_R a, ab_I i] (ab_psh none [ab_R z, ab_I i, ab_R A]) τ Q := by
  have ok : ab_aok (ab_sh τ A).1 (ab_sh τ z).1 := by rw [sA, sz]; decide
  simp (disch := omega) only [rX4_init_54, rX4_init_55, rX4_init_58, ok, sA, sz, ne_eq, not_false_eq_true, not_true_eq_false, true_and, and_true, and_self, true_imp_iff, false_imp_iff, imp_self, Bool.not_false, Bool.not_true, reduceCtorEq, ab_isJ, ab_psh, ab_cats, Bool.false_eq_true, if_true, if_false, ab_shf, ab_shw, Int.le_refl, Classical.not_not, Int.zero_add, forall_const, ↓ab_itT, ↓ab_itF, ab_anT, ab_w32_id, true_or, or_true]
  all_goals exact kq
theorem cs_X4_init_i1 {l1 : ab_V} (kq : ab_Run X 26 63 (f, cl, sl) [ab_R a, ab_I 0] [] τ Q) : ab_Run X 26 61 (f, cl, sl) [ab_R a, l1] [] τ Q := by
  simp (disch := omega) only [rX4_init_61, rX4_init_62, ne_eq, not_false_eq_true, not_true_eq_false, true_and, and_true, and_self, true_imp_iff, false_imp_iff, imp_self, Bool.not_false, Bool.not_true, reduceCtorEq, ab_isJ, ab_psh, ab_cats, Bool.false_eq_true, if_true, if_false, ab_shf, ab_shw, Int.le_refl, Classical.not_not, Int.zero_add, forall_const, ↓ab_itT, ↓ab_itF, ab_anT, ab_w32_id, ab_rdf_ne, ab_rdw_ne, ab_rdw_eq, ab_rdf_in, ab_td2, ab_tm2, true_or, or_true]
  all_goals exact kq
theorem cs_X4_init_x1 (kq : ab_Run X 26 88 (f, cl, sl) [ab_R a, ab_I 6] [] τ Q) : ab_Run X 26 63 (f, cl, sl) [ab_R a, ab_I 6] [] τ Q := by
  rw [rX4_init_63]
  simp (disch := omega) only [rX4_init_64, rX4_init_66, ne_eq, not_false_eq_true, not_true_eq_false, true_and, and_true, and_self, true_imp_iff, false_imp_iff, imp_self, Bool.not_false, Bool.not_true, reduceCtorEq, ab_isJ, ab_psh, ab_cats, Bool.false_eq_true, if_true, if_false, ab_shf, ab_shw, Int.le_refl, Classical.not_not, Int.zero_add, forall_const, ↓ab_itT, ↓ab_itF, ab_anT, ab_w32_id, ab_rdf_ne, ab_rdw_ne, ab_rdw_eq, ab_rdf_in, ab_td2, ab_tm2, true_or, or_true]
  all_goals exact kq
theorem cs_X4_init_e1_0 (h : al_Z σ0 τ a z P D) (hs : ab_shT a = (5, 0)) (hA : ab_rd τ a 8 = A) (hA0 : A ≠ 0) (hi : 0 ≤ i ∧ i < 6) (hz : ab_shT z = (6, 0)) (hf : 2 ≤ f) (hb : 1 ≤ cl ∧ 12 ≤ sl) (key : ab_Do X 30 [ab_R z] (ab_new τ 6 0) (fun r σ' => ab_Run X 26 81 (f, cl - 1 - 0, sl - 12 - 0) [ab_R a, ab_I i] (ab_psh r [ab_R z, ab_I i, ab_R A]) σ' Q)) : ab_Run X 26 63 (f, cl, sl) [ab_R a, ab_I i] [] τ Q := by
  have h2 := h.2.1
  have e1 := h.1
  have sa := h.sh hs
  have sz : ab_sh (ab_new τ 6 0) z = (6, 0) := by rw [ab_shn, if_pos e1.symm]
  clear h
  rw [rX4_init_63]
  simp (disch := omega) only [rX4_init_64, rX4_init_66, rX4_init_69, rX4_init_70, rX4_init_73, rX4_init_74, rX4_init_77, rX4_init_78, sa, sz, hA, e1, ne_eq, not_false_eq_true, not_true_eq_false, true_and, and_true, and_self, true_imp_iff, false_imp_iff, imp_self, Bool.not_false, Bool.not_true, reduceCtorEq, ab_isJ, ab_psh, ab_cats, Bool.false_eq_true, if_true, if_false, ab_shf, ab_shw, Int.le_refl, Classical.not_not, Int.zero_add, forall_const, ↓ab_itT, ↓ab_itF, ab_anT, true_or, or_true]
  all_goals exact key
theorem cs_X4_init_s1_0 (sA : ab_sh τ A = (27, 6)) (sz : ab_sh τ z = (6, 0)) (hi : 0 ≤ i ∧ i < 6) (kq : ab_Run X 26 63 (f, cl, sl) [ab_R a, ab_I (i + 1)] [] (ab_wr τ A i z) Q) : ab_Run X 26 81 (f, cl, sl) [ab_R a, ab_I i] (ab_psh none [ab_R z, ab_I i, ab_R A]) τ Q := by
  have ok : ab_aok (ab_sh τ A).1 (ab_sh τ z).1 := by rw [sA, sz]; decide
  simp (disch := omega) only [rX4_init_81, rX4_init_82, rX4_init_85, ok, sA, sz, ne_eq, not_false_eq_true, not_true_eq_false, true_and, and_true, and_self, true_imp_iff, false_imp_iff, imp_self, Bool.not_false, Bool.not_true, reduceCtorEq, ab_isJ, ab_psh, ab_cats, Bool.false_eq_true, if_true, if_false, ab_shf, ab_shw, Int.le_refl, Classical.not_not, Int.zero_add, forall_const, ↓ab_itT, ↓ab_itF, ab_anT, ab_w32_id, true_or, or_true]
  all_goals exact kq
theorem cs_X4_init_r {l1 : ab_V} (kq : Q none τ) : ab_Run X 26 88 (f, cl, sl) [ab_R a, l1] [] τ Q := by
  simp (disch := omega) only [rX4_init_88, ne_eq, not_false_eq_true, not_true_eq_false, true_and, and_true, and_self, true_imp_iff, false_imp_iff, imp_self, Bool.not_false, Bool.not_true, reduceCtorEq, ab_isJ, ab_psh, ab_cats, Bool.false_eq_true, if_true, if_false, ab_shf, ab_shw, Int.le_refl, Classical.not_not, Int.zero_add, forall_const, ↓ab_itT, ↓ab_itF, ab_anT, ab_w32_id, ab_rdf_ne, ab_rdw_ne, ab_rdw_eq, ab_rdf_in, ab_td2, ab_tm2, true_or, or_true]
  all_goals exact kq
theorem cs_X3_init_0 (h : al_Z σ0 τ a z P D) (hs : ab_shT a = (4, 0)) (hb : 1 ≤ cl ∧ 16 ≤ sl) (kq : ab_Run X 19 13 (f, cl - 1, sl - 16) [ab_R a, ab_R 0] [] (ab_wr (ab_new τ 28 16) a 0 z) Q) : ab_Run X 19 4 (f, cl, sl) [ab_R a, ab_R 0] [] τ Q := by
  have h2 := h.2.1
  have sM : ab_sh (ab_new τ 28 16) a = (4, 0) := by rw [ab_shn, if_neg (by have := h.1; omega)]; exact h.sh hs
  have e1 := h.1
  clear h
  simp (disch := omega) only [rX3_init_4, rX3_init_5, rX3_init_7, rX3_init_10, sM, e1, ne_eq, not_false_eq_true, not_true_eq_false, true_and, and_true, and_self, true_imp_iff, false_imp_iff, imp_self, Bool.not_false, Bool.not_true, reduceCtorEq, ab_isJ, ab_psh, ab_cats, Bool.false_eq_true, if_true, if_false, ab_shf, ab_shw, Int.le_refl, Classical.not_not, Int.zero_add, forall_const, ↓ab_itT, ↓ab_itF, ab_anT, true_or, or_true]
  all_goals exact kq
theorem cs_X3_init_1 (h : al_Z σ0 τ a z P D) (hs : ab_shT a = (4, 0)) (hb : 1 ≤ cl ∧ 3 ≤ sl) (kq : ab_Run X 19 21 (f, cl - 1, sl - 3) [ab_R a, ab_R 0] [] (ab_wr (ab_new τ 28 3) a 1 z) Q) : ab_Run X 19 13 (f, cl, sl) [ab_R a, ab_R 0] [] τ Q := by
  have h2 := h.2.1
  have sM : ab_sh (ab_new τ 28 3) a = (4, 0) := by rw [ab_shn, if_neg (by have := h.1; omega)]; exact h.sh hs
  have e1 := h.1
  clear h
  simp (disch := omega) only [rX3_init_13, rX3_init_14, rX3_init_15, rX3_init_18, sM, e1, ne_eq, not_false_eq_true, not_true_eq_false, true_and, and_true, and_self, true_imp_iff, false_imp_iff, imp_self, Bool.not_false, Bool.not_true, reduceCtorEq, ab_isJ, ab_psh, ab_cats, Bool.false_eq_true, if_true, if_false, ab_shf, ab_shw, Int.le_refl, Classical.not_not, Int.zero_add, forall_const, ↓ab_itT, ↓ab_itF, ab_anT, true_or, or_true]
  all_goals exact kq
theorem cs_X3_init_i0 {l1 : ab_V} (kq : ab_Run X 19 23 (f, cl, sl) [ab_R a, ab_I 0] [] τ Q) : ab_Run X 19 21 (f, cl, sl) [ab_R a, l1] [] τ Q := by
  simp (disch := omega) only [rX3_init_21, rX3_init_22, ne_eq, not_false_eq_true, not_true_eq_false, true_and, and_true, and_self, true_imp_iff, false_imp_iff, imp_self, Bool.not_false, Bool.not_true, reduceCtorEq, ab_isJ, ab_psh, ab_cats, Bool.false_eq_true, if_true, if_false, ab_shf, ab_shw, Int.le_refl, Classical.not_not, Int.zero_add, forall_const, ↓ab_itT, ↓ab_itF, ab_anT, ab_w32_id, ab_rdf_ne, ab_rdw_ne, ab_rdw_eq, ab_rdf_in, ab_td2, ab_tm2, true_or, or_true]
  all_goals exact kq
theorem cs_X3_init_x0 (kq : ab_Run X 19 48 (f, cl, sl) [ab_R a, ab_I 16] [] τ Q) : ab_Run X 19 23 (f, cl, sl) [ab_R a, ab_I 16] [] τ Q := by
  rw [rX3_init_23]
  simp (disch := omega) only [rX3_init_24, rX3_init_26, ne_eq, not_false_eq_true, not_true_eq_false, true_and, and_true, and_self, true_imp_iff, false_imp_iff, imp_self, Bool.not_false, Bool.not_true, reduceCtorEq, ab_isJ, ab_psh, ab_cats, Bool.false_eq_true, if_true, if_false, ab_shf, ab_shw, Int.le_refl, Classical.not_not, Int.zero_add, forall_const, ↓ab_itT, ↓ab_itF, ab_anT, ab_w32_id, ab_rdf_ne, ab_rdw_ne, ab_rdw_eq, ab_rdf_in, ab_td2, ab_tm2, true_or, or_true]
  all_goals exact kq
theorem cs_X3_init_e0_0 (h : al_Z σ0 τ a z P D) (hs : ab_shT a = (4, 0)) (hA : ab_rd τ a 0 = A) (hA0 : A ≠ 0) (hi : 0 ≤ i ∧ i < 16) (hz : ab_shT z = (9, 0)) (hf : 2 ≤ f) (hb : 5 ≤ cl ∧ 26 ≤ sl) (key : ab_Do X 61 [ab_R z] (ab_new τ 9 0) (fun r σ' => ab_Run X 19 41 (f, cl - 1 - 4, sl - 5 - 21) [ab_R a, ab_I i] (ab_psh r [ab_R z, ab_I i, ab_R A]) σ' Q)) : ab_Run X 19 23 (f, cl, sl) [ab_R a, ab_I i] [] τ Q := by
  have h2 := h.2.1
  have e1 := h.1
  have sa := h.sh hs
  have sz : ab_sh (ab_new τ 9 0) z = (9, 0) := by rw [ab_shn, if_pos e1.symm]
  clear h
  rw [rX3_init_23]
  simp (disch := omega) only [rX3_init_24, rX3_init_26, rX3_init_29, rX3_init_30, rX3_init_33, rX3_init_34, rX3_init_37, rX3_init_38, sa, sz, hA, e1, ne_eq, not_false_eq_true, not_true_eq_false, true_and, and_true, and_self, true_imp_iff, false_imp_iff, imp_self, Bool.not_false, Bool.not_true, reduceCtorEq, ab_isJ, ab_psh, ab_cats, Bool.false_eq_true, if_true, if_false, ab_shf, ab_shw, Int.le_refl, Classical.not_not, Int.zero_add, forall_const, ↓ab_itT, ↓ab_itF, ab_anT, true_or, or_true]
  all_goals exact key
theorem cs_X3_init_s0_0 (sA : ab_sh τ A = (28, 16)) (sz : ab_sh τ z = (9, 0)) (hi : 0 ≤ i ∧ i < 16) (kq : ab_Run X 19 23 (f, cl, sl) [ab_R a, ab_I (i + 1)] [] (ab_wr τ A i z) Q) : ab_Run X 19 41 (f, cl, sl) [ab_R a, ab_I i] (ab_psh none [ab_R z, ab_I i, ab_R A]) τ Q := by
  have ok : ab_aok (ab_sh τ A).1 (ab_sh τ z).1 := by rw [sA, sz]; decide
  simp (disch := omega) only [rX3_init_41, rX3_init_42, rX3_init_45, ok, sA, sz, ne_eq, not_false_eq_true, not_true_eq_false, true_and, and_true, and_self, true_imp_iff, false_imp_iff, imp_self, Bool.not_false, Bool.not_true, reduceCtorEq, ab_isJ, ab_psh, ab_cats, Bool.false_eq_true, if_true, if_false, ab_shf, ab_shw, Int.le_refl, Classical.not_not, Int.zero_add, forall_const, ↓ab_itT, ↓ab_itF, ab_anT, ab_w32_id, true_or, or_true]
  all_goals exact kq
theorem cs_X3_init_i1 {l1 : ab_V} (kq : ab_Run X 19 50 (f, cl, sl) [ab_R a, ab_I 0] [] τ Q) : ab_Run X 19 48 (f, cl, sl) [ab_R a, l1] [] τ Q := by
  simp (disch := omega) only [rX3_init_48, rX3_init_49, ne_eq, not_false_eq_true, not_true_eq_false, true_and, and_true, and_self, true_imp_iff, false_imp_iff, imp_self, Bool.not_false, Bool.not_true, reduceCtorEq, ab_isJ, ab_psh, ab_cats, Bool.false_eq_true, if_true, if_false, ab_shf, ab_shw, Int.le_refl, Classical.not_not, Int.zero_add, forall_const, ↓ab_itT, ↓ab_itF, ab_anT, ab_w32_id, ab_rdf_ne, ab_rdw_ne, ab_rdw_eq, ab_rdf_in, ab_td2, ab_tm2, true_or, or_true]
  all_goals exact kq
theorem cs_X3_init_x1 (kq : ab_Run X 19 74 (f, cl, sl) [ab_R a, ab_I 3] [] τ Q) : ab_Run X 19 50 (f, cl, sl) [ab_R a, ab_I 3] [] τ Q := by
  rw [rX3_init_50]
  simp (disch := omega) only [rX3_init_51, rX3_init_52, ne_eq, not_false_eq_true, not_true_eq_false, true_and, and_true, and_self, true_imp_iff, false_imp_iff, imp_self, Bool.not_false, Bool.not_true, reduceCtorEq, ab_isJ, ab_psh, ab_cats, Bool.false_eq_true, if_true, if_false, ab_shf, ab_shw, Int.le_refl, Classical.not_not, Int.zero_add, forall_const, ↓ab_itT, ↓ab_itF, ab_anT, ab_w32_id, ab_rdf_ne, ab_rdw_ne, ab_rdw_eq, ab_rdf_in, ab_td2, ab_tm2, true_or, or_true]
  all_goals exact kq
theorem cs_X3_init_e1_0 (h : al_Z σ0 τ a z P D) (hs : ab_shT a = (4, 0)) (hA : ab_rd τ a 1 = A) (hA0 : A ≠ 0) (hi : 0 ≤ i ∧ i < 3) (hz : ab_shT z = (9, 0)) (hf : 2 ≤ f) (hb : 5 ≤ cl ∧ 26 ≤ sl) (key : ab_Do X 61 [ab_R z] (ab_new τ 9 0) (fun r σ' => ab_Run X 19 67 (f, cl - 1 - 4, sl - 5 - 21) [ab_R a, ab_I i] (ab_psh r [ab_R z, ab_I i, ab_R A]) σ' Q)) : ab_Run X 19 50 (f, cl, sl) [ab_R a, ab_I i] [] τ Q := by
  have h2 := h.2.1
  have e1 := h.1
  have sa := h.sh hs
  have sz : ab_sh (ab_new τ 9 0) z = (9, 0) := by rw [ab_shn, if_pos e1.symm]
  clear h
  rw [rX3_init_50]
  simp (disch := omega) only [rX3_init_51, rX3_init_52, rX3_init_55, rX3_init_56, rX3_init_59, rX3_init_60, rX3_init_63, rX3_init_64, sa, sz, hA, e1, ne_eq, not_false_eq_true, not_true_eq_false, true_and, and_true, and_self, true_imp_iff, false_imp_iff, imp_self, Bool.not_false, Bool.not_true, reduceCtorEq, ab_isJ, ab_psh, ab_cats, Bool.false_eq_true, if_true, if_false, ab_shf, ab_shw, Int.le_refl, Classical.not_not, Int.zero_add, forall_const, ↓ab_itT, ↓ab_itF, ab_anT, true_or, or_true]
  all_goals exact key
theorem cs_X3_init_s1_0 (sA : ab_sh τ A = (28, 3)) (sz : ab_sh τ z = (9, 0)) (hi : 0 ≤ i ∧ i < 3) (kq : ab_Run X 19 50 (f, cl, sl) [ab_R a, ab_I (i + 1)] [] (ab_wr τ A i z) Q) : ab_Run X 19 67 (f, cl, sl) [ab_R a, ab_I i] (ab_psh none [ab_R z, ab_I i, ab_R A]) τ Q := by
  have ok : ab_aok (ab_sh τ A).1 (ab_sh τ z).1 := by rw [sA, sz]; decide
  simp (disch := omega) only [rX3_init_67, rX3_init_68, rX3_init_71, ok, sA, sz, ne_eq, not_false_eq_true, not_true_eq_false, true_and, and_true, and_self, true_imp_iff, false_imp_iff, imp_self, Bool.not_false, Bool.not_true, reduceCtorEq, ab_isJ, ab_psh, ab_cats, Bool.false_eq_true, if_true, if_false, ab_shf, ab_shw, Int.le_refl, Classical.not_not, Int.zero_add, forall_const, ↓ab_itT, ↓ab_itF, ab_anT, ab_w32_id, true_or, or_true]
  all_goals exact kq
theorem cs_X3_init_r {l1 : ab_V} (kq : Q none τ) : ab_Run X 19 74 (f, cl, sl) [ab_R a, l1] [] τ Q := by
  simp (disch := omega) only [rX3_init_74, ne_eq, not_false_eq_true, not_true_eq_false, true_and, and_true, and_self, true_imp_iff, false_imp_iff, imp_self, Bool.not_false, Bool.not_true, reduceCtorEq, ab_isJ, ab_psh, ab_cats, Bool.false_eq_true, if_true, if_false, ab_shf, ab_shw, Int.le_refl, Classical.not_not, Int.zero_add, forall_const, ↓ab_itT, ↓ab_itF, ab_anT, ab_w32_id, ab_rdf_ne, ab_rdw_ne, ab_rdw_eq, ab_rdf_in, ab_td2, ab_tm2, true_or, or_true]
  all_goals exact kq
theorem cs_X2_init_0 (h : al_Z σ0 τ a z P D) (hs : ab_shT a = (3, 0)) (hb : 1 ≤ cl ∧ 12 ≤ sl) (kq : ab_Run X 11 13 (f, cl - 1, sl - 12) [ab_R a, ab_R 0] [] (ab_wr (ab_new τ 25 12) a 0 z) Q) : ab_Run X 11 4 (f, cl, sl) [ab_R a, ab_R 0] [] τ Q := by
  have h2 := h.2.1
  have sM : ab_sh (ab_new τ 25 12) a = (3, 0) := by rw [ab_shn, if_neg (by have := h.1; omega)]; exact h.sh hs
  have e1 := h.1
  clear h
  simp (disch := omega) only [rX2_init_4, rX2_init_5, rX2_init_7, rX2_init_10, sM, e1, ne_eq, not_false_eq_true, not_true_eq_false, true_and, and_true, and_self, true_imp_iff, false_imp_iff, imp_self, Bool.not_false, Bool.not_true, reduceCtorEq, ab_isJ, ab_psh, ab_cats, Bool.false_eq_true, if_true, if_false, ab_shf, ab_shw, Int.le_refl, Classical.not_not, Int.zero_add, forall_const, ↓ab_itT, ↓ab_itF, ab_anT, true_or, or_true]
  all_goals exact kq
theorem cs_X2_init_1 (h : al_Z σ0 τ a z P D) (hs : ab_shT a = (3, 0)) (hb : 1 ≤ cl ∧ 12 ≤ sl) (kq : ab_Run X 11 22 (f, cl - 1, sl - 12) [ab_R a, ab_R 0] [] (ab_wr (ab_new τ 25 12) a 1 z) Q) : ab_Run X 11 13 (f, cl, sl) [ab_R a, ab_R 0] [] τ Q := by
  have h2 := h.2.1
  have sM : ab_sh (ab_new τ 25 12) a = (3, 0) := by rw [ab_shn, if_neg (by have := h.1; omega)]; exact h.sh hs
  have e1 := h.1
  clear h
  simp (disch := omega) only [rX2_init_13, rX2_init_14, rX2_init_16, rX2_init_19, sM, e1, ne_eq, not_false_eq_true, not_true_eq_false, true_and, and_true, and_self, true_imp_iff, false_imp_iff, imp_self, Bool.not_false, Bool.not_true, reduceCtorEq, ab_isJ, ab_psh, ab_cats, Bool.false_eq_true, if_true, if_false, ab_shf, ab_shw, Int.le_refl, Classical.not_not, Int.zero_add, forall_const, ↓ab_itT, ↓ab_itF, ab_anT, true_or, or_true]
  all_goals exact kq
theorem cs_X2_init_2 (h : al_Z σ0 τ a z P D) (hs : ab_shT a = (3, 0)) (hb : 1 ≤ cl ∧ 12 ≤ sl) (kq : ab_Run X 11 30 (f, cl - 1, sl - 12) [ab_R a, ab_R 0] [] (ab_wr (ab_new τ 21 12) a 2 z) Q) : ab_Run X 11 22 (f, cl, sl) [ab_R a, ab_R 0] [] τ Q := by
  have h2 := h.2.1
  have sM : ab_sh (ab_new τ 21 12) a = (3, 0) := by rw [ab_shn, if_neg (by have := h.1; omega)]; exact h.sh hs
  have e1 := h.1
  clear h
  simp (disch := omega) only [rX2_init_22, rX2_init_23, rX2_init_25, rX2_init_27, sM, e1, ne_eq, not_false_eq_true, not_true_eq_false, true_and, and_true, and_self, true_imp_iff, false_imp_iff, imp_self, Bool.not_false, Bool.not_true, reduceCtorEq, ab_isJ, ab_psh, ab_cats, Bool.false_eq_true, if_true, if_false, ab_shf, ab_shw, Int.le_refl, Classical.not_not, Int.zero_add, forall_const, ↓ab_itT, ↓ab_itF, ab_anT, true_or, or_true]
  all_goals exact kq
theorem cs_X2_init_3 (h : al_Z σ0 τ a z P D) (hs : ab_shT a = (3, 0)) (hb : 1 ≤ cl ∧ 12 ≤ sl) (kq : ab_Run X 11 38 (f, cl - 1, sl - 12) [ab_R a, ab_R 0] [] (ab_wr (ab_new τ 21 12) a 3 z) Q) : ab_Run X 11 30 (f, cl, sl) [ab_R a, ab_R 0] [] τ Q := by
  have h2 := h.2.1
  have sM : ab_sh (ab_new τ 21 12) a = (3, 0) := by rw [ab_shn, if_neg (by have := h.1; omega)]; exact h.sh hs
  have e1 := h.1
  clear h
  simp (disch := omega) only [rX2_init_30, rX2_init_31, rX2_init_33, rX2_init_35, sM, e1, ne_eq, not_false_eq_true, not_true_eq_false, true_and, and_true, and_self, true_imp_iff, false_imp_iff, imp_self, Bool.not_false, Bool.not_true, reduceCtorEq, ab_isJ, ab_psh, ab_cats, Bool.false_eq_true, if_true, if_false, ab_shf, ab_shw, Int.le_refl, Classical.not_not, Int.zero_add, forall_const, ↓ab_itT, ↓ab_itF, ab_anT, true_or, or_true]
  all_goals exact kq
theorem cs_X2_init_4 (h : al_Z σ0 τ a z P D) (hs : ab_shT a = (3, 0)) (hb : 13 ≤ cl ∧ 156 ≤ sl) (kq : ab_Run X 11 50 (f, cl - 13, sl - 156) [ab_R a, ab_R 0] [] (ab_wr (ab_mul τ 12 12) a 4 z) Q) : ab_Run X 11 38 (f, cl, sl) [ab_R a, ab_R 0] [] τ Q := by
  have h2 := h.2.1
  have e1 := h.1
  have sM : ab_sh (ab_mul τ 12 12) a = (3, 0) := by
    show (if a = τ.1 then ((29 : Int), (12 : Int)) else if τ.1 < a ∧ a ≤ τ.1 + 12 then (21, 12) else ab_sh τ a) = _
    rw [if_neg (by omega), if_neg (by omega)]; exact h.sh hs
  clear h
  simp (disch := omega) only [rX2_init_38, rX2_init_39, rX2_init_41, rX2_init_43, rX2_init_47, sM, e1, ne_eq, not_false_eq_true, not_true_eq_false, true_and, and_true, and_self, true_imp_iff, false_imp_iff, imp_self, Bool.not_false, Bool.not_true, reduceCtorEq, ab_isJ, ab_psh, ab_cats, Bool.false_eq_true, if_true, if_false, ab_shf, ab_shw, Int.le_refl, Classical.not_not, Int.zero_add, forall_const, ↓ab_itT, ↓ab_itF, ab_anT, true_or, or_true]
  all_goals exact ⟨hb.2, kq⟩
theorem cs_X2_init_5 (h : al_Z σ0 τ a z P D) (hs : ab_shT a = (3, 0)) (hb : 13 ≤ cl ∧ 156 ≤ sl) (kq : ab_Run X 11 62 (f, cl - 13, sl - 156) [ab_R a, ab_R 0] [] (ab_wr (ab_mul τ 12 12) a 5 z) Q) : ab_Run X 11 50 (f, cl, sl) [ab_R a, ab_R 0] [] τ Q := by
  have h2 := h.2.1
  have e1 := h.1
  have sM : ab_sh (ab_mul τ 12 12) a = (3, 0) := by
    show (if a = τ.1 then ((29 : Int), (12 : Int)) else if τ.1 < a ∧ a ≤ τ.1 + 12 then (21, 12) else ab_sh τ a) = _
    rw [if_neg (by omega), if_neg (by omega)]; exact h.sh hs
  clear h
  simp (disch := omega) only [rX2_init_50, rX2_init_51, rX2_init_53, rX2_init_55, rX2_init_59, sM, e1, ne_eq, not_false_eq_true, not_true_eq_false, true_and, and_true, and_self, true_imp_iff, false_imp_iff, imp_self, Bool.not_false, Bool.not_true, reduceCtorEq, ab_isJ, ab_psh, ab_cats, Bool.false_eq_true, if_true, if_false, ab_shf, ab_shw, Int.le_refl, Classical.not_not, Int.zero_add, forall_const, ↓ab_itT, ↓ab_itF, ab_anT, true_or, or_true]
  all_goals exact ⟨hb.2, kq⟩
theorem cs_X2_init_6 (h : al_Z σ0 τ a z P D) (hs : ab_shT a = (3, 0)) (hb : 1 ≤ cl ∧ 12 ≤ sl) (kq : ab_Run X 11 70 (f, cl - 1, sl - 12) [ab_R a, ab_R 0] [] (ab_wr (ab_new τ 21 12) a 6 z) Q) : ab_Run X 11 62 (f, cl, sl) [ab_R a, ab_R 0] [] τ Q := by
  have h2 := h.2.1
  have sM : ab_sh (ab_new τ 21 12) a = (3, 0) := by rw [ab_shn, if_neg (by have := h.1; omega)]; exact h.sh hs
  have e1 := h.1
  clear h
  simp (disch := omega) only [rX2_init_62, rX2_init_63, rX2_init_65, rX2_init_67, sM, e1, ne_eq, not_false_eq_true, not_true_eq_false, true_and, and_true, and_self, true_imp_iff, false_imp_iff, imp_self, Bool.not_false, Bool.not_true, reduceCtorEq, ab_isJ, ab_psh, ab_cats, Bool.false_eq_true, if_true, if_false, ab_shf, ab_shw, Int.le_refl, Classical.not_not, Int.zero_add, forall_const, ↓ab_itT, ↓ab_itF, ab_anT, true_or, or_true]
  all_goals exact kq
theorem cs_X2_init_7 (h : al_Z σ0 τ a z P D) (hs : ab_shT a = (3, 0)) (hb : 1 ≤ cl ∧ 12 ≤ sl) (kq : ab_Run X 11 78 (f, cl - 1, sl - 12) [ab_R a, ab_R 0] [] (ab_wr (ab_new τ 21 12) a 7 z) Q) : ab_Run X 11 70 (f, cl, sl) [ab_R a, ab_R 0] [] τ Q := by
  have h2 := h.2.1
  have sM : ab_sh (ab_new τ 21 12) a = (3, 0) := by rw [ab_shn, if_neg (by have := h.1; omega)]; exact h.sh hs
  have e1 := h.1
  clear h
  simp (disch := omega) only [rX2_init_70, rX2_init_71, rX2_init_73, rX2_init_75, sM, e1, ne_eq, not_false_eq_true, not_true_eq_false, true_and, and_true, and_self, true_imp_iff, false_imp_iff, imp_self, Bool.not_false, Bool.not_true, reduceCtorEq, ab_isJ, ab_psh, ab_cats, Bool.false_eq_true, if_true, if_false, ab_shf, ab_shw, Int.le_refl, Classical.not_not, Int.zero_add, forall_const, ↓ab_itT, ↓ab_itF, ab_anT, true_or, or_true]
  all_goals exact kq
theorem cs_X2_init_i0 {l1 : ab_V} (kq : ab_Run X 11 80 (f, cl, sl) [ab_R a, ab_I 0] [] τ Q) : ab_Run X 11 78 (f, cl, sl) [ab_R a, l1] [] τ Q := by
  simp (disch := omega) only [rX2_init_78, rX2_init_79, ne_eq, not_false_eq_true, not_true_eq_false, true_and, and_true, and_self, true_imp_iff, false_imp_iff, imp_self, Bool.not_false, Bool.not_true, reduceCtorEq, ab_isJ, ab_psh, ab_cats, Bool.false_eq_true, if_true, if_false, ab_shf, ab_shw, Int.le_refl, Classical.not_not, Int.zero_add, forall_const, ↓ab_itT, ↓ab_itF, ab_anT, ab_w32_id, ab_rdf_ne, ab_rdw_ne, ab_rdw_eq, ab_rdf_in, ab_td2, ab_tm2, true_or, or_true]
  all_goals exact kq
theorem cs_X2_init_x0 (kq : ab_Run X 11 118 (f, cl, sl) [ab_R a, ab_I 12] [] τ Q) : ab_Run X 11 80 (f, cl, sl) [ab_R a, ab_I 12] [] τ Q := by
  rw [rX2_init_80]
  simp (disch := omega) only [rX2_init_81, rX2_init_83, ne_eq, not_false_eq_true, not_true_eq_false, true_and, and_true, and_self, true_imp_iff, false_imp_iff, imp_self, Bool.not_false, Bool.not_true, reduceCtorEq, ab_isJ, ab_psh, ab_cats, Bool.false_eq_true, if_true, if_false, ab_shf, ab_shw, Int.le_refl, Classical.not_not, Int.zero_add, forall_const, ↓ab_itT, ↓ab_itF, ab_anT, ab_w32_id, ab_rdf_ne, ab_rdw_ne, ab_rdw_eq, ab_rdf_in, ab_td2, ab_tm2, true_or, or_true]
  all_goals exact kq
theorem cs_X2_init_e0_0 (h : al_Z σ0 τ a z P D) (hs : ab_shT a = (3, 0)) (hA : ab_rd τ a 0 = A) (hA0 : A ≠ 0) (hi : 0 ≤ i ∧ i < 12) (hz : ab_shT z = (1, 0)) (hf : 2 ≤ f) (hb : 6 ≤ cl ∧ 39 ≤ sl) (key : ab_Do X 0 [ab_R z] (ab_new τ 1 0) (fun r σ' => ab_Run X 11 98 (f, cl - 1 - 5, sl - 6 - 33) [ab_R a, ab_I i] (ab_psh r [ab_R z, ab_I i, ab_R A]) σ' Q)) : ab_Run X 11 80 (f, cl, sl) [ab_R a, ab_I i] [] τ Q := by
  have h2 := h.2.1
  have e1 := h.1
  have sa := h.sh hs
  have sz : ab_sh (ab_new τ 1 0) z = (1, 0) := by rw [ab_shn, if_pos e1.symm]
  clear h
  rw [rX2_init_80]
  simp (disch := omega) only [rX2_init_81, rX2_init_83, rX2_init_86, rX2_init_87, rX2_init_90, rX2_init_91, rX2_init_94, rX2_init_95, sa, sz, hA, e1, ne_eq, not_false_eq_true, not_true_eq_false, true_and, and_true, and_self, true_imp_iff, false_imp_iff, imp_self, Bool.not_false, Bool.not_true, reduceCtorEq, ab_isJ, ab_psh, ab_cats, Bool.false_eq_true, if_true, if_false, ab_shf, ab_shw, Int.le_refl, Classical.not_not, Int.zero_add, forall_const, ↓ab_itT, ↓ab_itF, ab_anT, true_or, or_true]
  all_goals exact key
theorem cs_X2_init_s0_0 (sA : ab_sh τ A = (25, 12)) (sz : ab_sh τ z = (1, 0)) (hi : 0 ≤ i ∧ i < 12) (kq : ab_Run X 11 99 (f, cl, sl) [ab_R a, ab_I i] [] (ab_wr τ A i z) Q) : ab_Run X 11 98 (f, cl, sl) [ab_R a, ab_I i] (ab_psh none [ab_R z, ab_I i, ab_R A]) τ Q := by
  have ok : ab_aok (ab_sh τ A).1 (ab_sh τ z).1 := by rw [sA, sz]; decide
  simp (disch := omega) only [rX2_init_98, ok, sA, sz, ne_eq, not_false_eq_true, not_true_eq_false, true_and, and_true, and_self, true_imp_iff, false_imp_iff, imp_self, Bool.not_false, Bool.not_true, reduceCtorEq, ab_isJ, ab_psh, ab_cats, Bool.false_eq_true, if_true, if_false, ab_shf, ab_shw, Int.le_refl, Classical.not_not, Int.zero_add, forall_const, ↓ab_itT, ↓ab_itF, ab_anT, ab_w32_id, true_or, or_true]
  all_goals exact kq
theorem cs_X2_init_e0_1 (h : al_Z σ0 τ a z P D) (hs : ab_shT a = (3, 0)) (hA : ab_rd τ a 1 = A) (hA0 : A ≠ 0) (hi : 0 ≤ i ∧ i < 12) (hz : ab_shT z = (1, 0)) (hf : 2 ≤ f) (hb : 6 ≤ cl ∧ 39 ≤ sl) (key : ab_Do X 0 [ab_R z] (ab_new τ 1 0) (fun r σ' => ab_Run X 11 111 (f, cl - 1 - 5, sl - 6 - 33) [ab_R a, ab_I i] (ab_psh r [ab_R z, ab_I i, ab_R A]) σ' Q)) : ab_Run X 11 99 (f, cl, sl) [ab_R a, ab_I i] [] τ Q := by
  have h2 := h.2.1
  have e1 := h.1
  have sa := h.sh hs
  have sz : ab_sh (ab_new τ 1 0) z = (1, 0) := by rw [ab_shn, if_pos e1.symm]
  clear h
  simp (disch := omega) only [rX2_init_99, rX2_init_100, rX2_init_103, rX2_init_104, rX2_init_107, rX2_init_108, sa, sz, hA, e1, ne_eq, not_false_eq_true, not_true_eq_false, true_and, and_true, and_self, true_imp_iff, false_imp_iff, imp_self, Bool.not_false, Bool.not_true, reduceCtorEq, ab_isJ, ab_psh, ab_cats, Bool.false_eq_true, if_true, if_false, ab_shf, ab_shw, Int.le_refl, Classical.not_not, Int.zero_add, forall_const, ↓ab_itT, ↓ab_itF, ab_anT, true_or, or_true]
  all_goals exact key
theorem cs_X2_init_s0_1 (sA : ab_sh τ A = (25, 12)) (sz : ab_sh τ z = (1, 0)) (hi : 0 ≤ i ∧ i < 12) (kq : ab_Run X 11 80 (f, cl, sl) [ab_R a, ab_I (i + 1)] [] (ab_wr τ A i z) Q) : ab_Run X 11 111 (f, cl, sl) [ab_R a, ab_I i] (ab_psh none [ab_R z, ab_I i, ab_R A]) τ Q := by
  have ok : ab_aok (ab_sh τ A).1 (ab_sh τ z).1 := by rw [sA, sz]; decide
  simp (disch := omega) only [rX2_init_111, rX2_init_112, rX2_init_115, ok, sA, sz, ne_eq, not_false_eq_true, not_true_eq_false, true_and, and_true, and_self, true_imp_iff, false_imp_iff, imp_self, Bool.not_false, Bool.not_true, reduceCtorEq, ab_isJ, ab_psh, ab_cats, Bool.false_eq_true, if_true, if_false, ab_shf, ab_shw, Int.le_refl, Classical.not_not, Int.zero_add, forall_const, ↓ab_itT, ↓ab_itF, ab_anT, ab_w32_id, true_or, or_true]
  all_goals exact kq
theorem cs_X2_init_r {l1 : ab_V} (kq : Q none τ) : ab_Run X 11 118 (f, cl, sl) [ab_R a, l1] [] τ Q := by
  simp (disch := omega) only [rX2_init_118, ne_eq, not_false_eq_true, not_true_eq_false, true_and, and_true, and_self, true_imp_iff, false_imp_iff, imp_self, Bool.not_false, Bool.not_true, reduceCtorEq, ab_isJ, ab_psh, ab_cats, Bool.false_eq_true, if_true, if_false, ab_shf, ab_shw, Int.le_refl, Classical.not_not, Int.zero_add, forall_const, ↓ab_itT, ↓ab_itF, ab_anT, ab_w32_id, ab_rdf_ne, ab_rdw_ne, ab_rdw_eq, ab_rdf_in, ab_td2, ab_tm2, true_or, or_true]
  all_goals exact kq
end
