/-! THE LAW: its loop (written by gen/glaw4.py) -/
section
variable {X : ab_X} {σ τ υ ω : ab_S} {Q : Option ab_V → ab_S → Prop} {i K na nm ln S A b x : Int} {κ : ac_K} {v tp : Int → Int} {pa pm : Int → Int → Int} {cl sl : Nat} {l5 l6 : ab_V} {P : Int → Int → Prop}
theorem lw_end (hX : 0 ≤ X.1 ∧ X.1 ≤ 4608) (hi : 0 ≤ i ∧ ¬ i + 9 ≤ X.1 ∧ i ≤ 5000) (kq : Q (some (ab_I 1)) σ) : ab_Run X 288 23 (100, cl, sl) [ab_R (-1), ab_R 1, ab_R 355, ab_R 368, ab_I i, l5, l6] [] σ Q := by
  simp (disch := omega) only [rL_law_23, rL_law_25, rL_law_26, rL_law_27, rL_law_29, rL_law_30, rL_law_2380, rL_law_2381, ne_eq, not_false_eq_true, not_true_eq_false, true_and, and_true, and_self, true_imp_iff, false_imp_iff, imp_self, Bool.not_false, Bool.not_true, reduceCtorEq, ab_isJ, ab_psh, ab_cats, Bool.false_eq_true, if_true, if_false, ab_shf, ab_shw, Int.le_refl, Classical.not_not, Int.zero_add, forall_const, ↓ab_itT, ↓ab_itF, ab_anT, ab_w32_id, ab_rdf_ne, ab_rdw_ne, ab_rdw_eq, ab_rdf_in, ab_td2, ab_tm2, true_or, or_true]
  all_goals exact kq
theorem lw_head (hi : 0 ≤ i ∧ i + 9 ≤ X.1 ∧ X.1 ≤ 4608) (kq : ab_Run X 288 40 (100, cl, sl) [ab_R (-1), ab_R 1, ab_R 355, ab_R 368, ab_I i, l5, l6] (ab_I (ab_ok32 (fun x y => x &&& y) (X.2 i) 63) :: []) σ Q) : ab_Run X 288 23 (100, cl, sl) [ab_R (-1), ab_R 1, ab_R 355, ab_R 368, ab_I i, l5, l6] [] σ Q := by
  simp (disch := omega) only [rL_law_23, rL_law_25, rL_law_26, rL_law_27, rL_law_29, rL_law_30, rL_law_33, rL_law_34, rL_law_36, rL_law_37, rL_law_39, ne_eq, not_false_eq_true, not_true_eq_false, true_and, and_true, and_self, true_imp_iff, false_imp_iff, imp_self, Bool.not_false, Bool.not_true, reduceCtorEq, ab_isJ, ab_psh, ab_cats, Bool.false_eq_true, if_true, if_false, ab_shf, ab_shw, Int.le_refl, Classical.not_not, Int.zero_add, forall_const, ↓ab_itT, ↓ab_itF, ab_anT, ab_w32_id, ab_rdf_ne, ab_rdw_ne, ab_rdw_eq, ab_rdf_in, ab_td2, ab_tm2, true_or, or_true]
  all_goals exact kq
theorem lw_next (hi : 0 ≤ i ∧ i ≤ 5000) (kq : ab_Run X 288 23 (100, cl, sl) [ab_R (-1), ab_R 1, ab_R 355, ab_R 368, ab_I (i + 9), l5, l6] [] σ Q) : ab_Run X 288 2374 (100, cl, sl) [ab_R (-1), ab_R 1, ab_R 355, ab_R 368, ab_I i, l5, l6] [] σ Q := by
  simp (disch := omega) only [rL_law_2374, rL_law_2377, ab_w32_id, ne_eq, not_false_eq_true, not_true_eq_false, true_and, and_true, and_self, true_imp_iff, false_imp_iff, imp_self, Bool.not_false, Bool.not_true, reduceCtorEq, ab_isJ, ab_psh, ab_cats, Bool.false_eq_true, if_true, if_false, ab_shf, ab_shw, Int.le_refl, Classical.not_not, Int.zero_add, forall_const, ↓ab_itT, ↓ab_itF, ab_anT, ab_w32_id, ab_rdf_ne, ab_rdw_ne, ab_rdw_eq, ab_rdf_in, ab_td2, ab_tm2, true_or, or_true]
  all_goals exact kq
theorem lw_sw {m : Int} (h : ax_J σ K κ v na pa nm pm ln tp) (hi : 0 ≤ i ∧ i + 9 ≤ X.1 ∧ X.1 ≤ 4608) (hb : 22 ≤ cl ∧ 244 ≤ sl) (kq : ∀ υ l5 l6 cl' sl', cl ≤ cl' + 22 → sl ≤ sl' + 244 → ax_E υ → ab_Run X 288 2374 (100, cl', sl') [ab_R (-1), ab_R 1, ab_R 355, ab_R 368, ab_I i, l5, l6] [] υ Q) : ab_Run X 288 40 (100, cl, sl) [ab_R (-1), ab_R 1, ab_R 355, ab_R 368, ab_I i, l5, l6] (ab_I m :: []) σ Q := by
  have kq0 : ∀ υ, ax_E υ → ab_Run X 288 2374 (100, cl, sl) [ab_R (-1), ab_R 1, ab_R 355, ab_R 368, ab_I i, l5, l6] [] υ Q := fun υ hE => kq υ l5 l6 cl sl (by omega) (by omega) hE
  by_cases hm : m < 0 ∨ 43 < m
  · rw [rL_law_40_d hm]
    exact kq0 σ ⟨_, _, _, _, _, _, _, _, _, h⟩
  have hm2 : m = 0 ∨ m = 1 ∨ m = 2 ∨ m = 3 ∨ m = 4 ∨ m = 5 ∨ m = 6 ∨ m = 7 ∨ m = 8 ∨ m = 9 ∨ m = 10 ∨ m = 11 ∨ m = 12 ∨ m = 13 ∨ m = 14 ∨ m = 15 ∨ m = 16 ∨ m = 17 ∨ m = 18 ∨ m = 19 ∨ m = 20 ∨ m = 21 ∨ m = 22 ∨ m = 23 ∨ m = 24 ∨ m = 25 ∨ m = 26 ∨ m = 27 ∨ m = 28 ∨ m = 29 ∨ m = 30 ∨ m = 31 ∨ m = 32 ∨ m = 33 ∨ m = 34 ∨ m = 35 ∨ m = 36 ∨ m = 37 ∨ m = 38 ∨ m = 39 ∨ m = 40 ∨ m = 41 ∨ m = 42 ∨ m = 43 := by omega
  rcases hm2 with rfl | rfl | rfl | rfl | rfl | rfl | rfl | rfl | rfl | rfl | rfl | rfl | rfl | rfl | rfl | rfl | rfl | rfl | rfl | rfl | rfl | rfl | rfl | rfl | rfl | rfl | rfl | rfl | rfl | rfl | rfl | rfl | rfl | rfl | rfl | rfl | rfl | rfl | rfl | rfl | rfl | rfl | rfl | rfl
  · rw [rL_law_40_0]; exact lw_0 h hi kq0
  · rw [rL_law_40_1]; exact lw_1 h hi hb (fun υ hE => kq υ l5 l6 _ _ (by omega) (by omega) hE)
  · rw [rL_law_40_2]; exact lw_2 h hi kq0
  · rw [rL_law_40_3]; exact lw_3 h hi kq0
  · rw [rL_law_40_4]; exact lw_4 h hi kq0
  · rw [rL_law_40_5]; exact lw_5 h hi kq0
  · rw [rL_law_40_6]; exact lw_6 h hi kq0
  · rw [rL_law_40_7]; exact lw_7 h hi kq0
  · rw [rL_law_40_8]; exact lw_8 h hi kq0
  · rw [rL_law_40_9]; exact lw_9 h hi kq0
  · rw [rL_law_40_10]; exact lw_10 h hi kq0
  · rw [rL_law_40_11]; exact lw_11 h hi kq0
  · rw [rL_law_40_12]; exact lw_12 h hi kq0
  · rw [rL_law_40_13]; exact lw_13 h hi kq0
  · rw [rL_law_40_14]; exact lw_14 h hi kq0
  · rw [rL_law_40_15]; exact lw_15 h hi kq0
  · rw [rL_law_40_16]; exact lw_16 h hi kq0
  · rw [rL_law_40_17]; exact lw_17 h hi kq0
  · rw [rL_law_40_18]; exact lw_18 h hi kq0
  · rw [rL_law_40_19]; exact lw_19 h hi kq0
  · rw [rL_law_40_20]; exact lw_20 h hi kq0
  · rw [rL_law_40_21]; exact lw_21 h hi kq0
  · rw [rL_law_40_22]; exact lw_22 h hi kq0
  · rw [rL_law_40_23]; exact lw_23 h hi kq0
  · rw [rL_law_40_24]; exact lw_24 h hi kq0
  · rw [rL_law_40_25]; exact lw_25 h hi kq0
  · rw [rL_law_40_26]; exact lw_26 h hi kq0
  · rw [rL_law_40_27]; exact lw_27 h hi kq0
  · rw [rL_law_40_28]; exact lw_28 h hi kq0
  · rw [rL_law_40_29]; exact lw_29 h hi kq0
  · rw [rL_law_40_30]; exact lw_30 h hi kq0
  · rw [rL_law_40_31]; exact lw_31 h hi kq0
  · rw [rL_law_40_32]; exact lw_32 h hi kq0
  · rw [rL_law_40_33]; exact lw_33 h hi kq0
  · rw [rL_law_40_34]; exact lw_34 h hi kq0
  · rw [rL_law_40_35]; exact lw_35 h hi kq0
  · rw [rL_law_40_36]; exact lw_36 h hi kq0
  · rw [rL_law_40_37]; exact lw_37 h hi kq0
  · rw [rL_law_40_38]; exact lw_38 h hi kq0
  · rw [rL_law_40_39]; exact lw_39 h hi kq0
  · rw [rL_law_40_40]; exact lw_40 h hi kq0
  · rw [rL_law_40_41]; exact lw_41 h hi hb (fun υ l5 l6 hE => kq υ l5 l6 _ _ (by omega) (by omega) hE)
  · rw [rL_law_40_42]; exact lw_42 h hi kq0
  · rw [rL_law_40_43]; exact lw_43 h hi kq0
theorem lw_loop (hX : 0 ≤ X.1 ∧ X.1 ≤ 4608) (hQ : ∀ σ, Q (some (ab_I 1)) σ) : ∀ (n : Nat) (i : Int) (σ : ab_S) (cl sl : Nat) (l5 l6 : ab_V), ax_E σ → (0 ≤ i ∧ i ≤ 4700) → X.1 - 8 - i ≤ 9 * n → 22 * n ≤ cl → 244 * n ≤ sl → ab_Run X 288 23 (100, cl, sl) [ab_R (-1), ab_R 1, ab_R 355, ab_R 368, ab_I i, l5, l6] [] σ Q := by
  intro n
  induction n with
  | zero =>
    intro i σ cl sl l5 l6 hE hi hn hc hs
    exact lw_end hX (by omega) (hQ σ)
  | succ n ih =>
    intro i σ cl sl l5 l6 hE hi hn hc hs
    by_cases q : i + 9 ≤ X.1
    · obtain ⟨K, κ, v, na, pa, nm, pm, ln, tp, h⟩ := hE
      refine lw_head (by omega) (lw_sw h (by omega) (by omega) (fun υ l5 l6 cl' sl' c1 c2 hE => ?_))
      exact lw_next (by omega) (ih (i + 9) υ cl' sl' l5 l6 hE (by omega) (by omega) (by omega) (by omega))
    · exact lw_end hX (by omega) (hQ σ)
end
