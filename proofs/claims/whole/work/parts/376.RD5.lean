/-! READER of the reference: goesOn, needs, bounded -/
section
variable {X : ab_X} {σ τ υ : ab_S} {Q : Option ab_V → ab_S → Prop} {n p s x y t i a b c k w pl lo hi : Int} {tp : Int → Int} {T : List Int}
theorem ac_RM.n5 (h : ac_RM σ n tp s) : ¬ ab_rd σ 355 9 = 5 := by
  rw [h.2.1.2.1]
  have : ac_kk tp n s = 0 ∨ ac_kk tp n s = 1 ∨ ac_kk tp n s = 2 ∨ ac_kk tp n s = 3 ∨ ac_kk tp n s = 4 ∨ ac_kk tp n s = 5 := by
    unfold ac_kk
    split
    · omega
    · split
      · split <;> omega
      · split
        · split <;> omega
        · split
          · omega
          · split <;> omega
  rcases this with e | e | e | e | e | e <;> rw [e] <;> decide
theorem mq_goesOnR (h : ac_RM σ n tp s) (hk : ac_kk tp n s ≠ 1) (hQ : ∀ τ, ab_Same ac_PU σ τ → ac_RM τ n tp (ac_nx tp n s) → Q none τ) : ab_Do X 171 [ab_R 355] σ Q := by
  have h5 := h.n5
  obtain ⟨h1, h2, h3a, h3b, h13⟩ := h
  have h3 : 0 ≤ s ∧ s ≤ n := ⟨h3a, h3b⟩
  have kb := ac_ke_b (tp := tp) h3
  have nb := ac_nx_b (tp := tp) h3
  exact mq_goesOn h1 h5 (h2.2.2.2.1 hk) (by omega) (fun τ u1 u2 => hQ τ u1 ⟨h1.same u1, u2, by omega, nb.2, by rw [u1.2.2 355 13 (by unfold ac_PU; omega), h13]⟩)
theorem mq_needs (h : ac_RM σ n tp s) (hX : ac_TX a T) (hk : ac_tok T) (hF : ¬ ac_isw tp n s T → ∀ τ, ab_Same ac_PV σ τ → ac_RF τ 1 s → Q none τ) (hO : ac_isw tp n s T → ∀ τ, ab_Same ac_PV σ τ → ac_RM τ n tp (ac_nx tp n s) → Q none τ) : ab_Do X 176 [ab_R 355, ab_R a] σ Q := by
  have c1 := fun Q' => mq_isWordX (X := X) (Q := Q') h.1.1 h.2.1 h.2.2.1 hX hk
  have c2 := fun k Q' => mq_flaw (X := X) (Q := Q') (k := k) h
  have g := h.1.1
  have ha := hX.1
  by_cases z : ac_isw tp n s T
  · rw [if_pos z] at c1
    have key : ab_Do X 171 [ab_R 355] σ (fun r σ' => ab_Run X 176 17 (12, 0, 0) [ab_R 355, ab_R a] (ab_psh r []) σ' Q) := by
      refine mq_goesOnR h (by rw [z.1]; decide) (fun τ u1 u2 => ?_)
      have k := hO z τ (u1.mono (fun _ _ => ac_PU_V)) u2
      clear hF hO
      simp (disch := omega) only [rX13_needs_17, ne_eq, not_false_eq_true, not_true_eq_false, true_and, and_true, and_self, true_imp_iff, false_imp_iff, imp_self, Bool.not_false, Bool.not_true, reduceCtorEq, ab_isJ, ab_psh, ab_cats, Bool.false_eq_true, if_true, if_false, ab_shf, ab_shw, Int.le_refl, Classical.not_not, Int.zero_add, forall_const, ↓ab_itT, ↓ab_itF, ab_anT, ab_w32_id, ab_rdf_ne, ab_rdw_ne, ab_rdw_eq, ab_rdf_in, ab_td2, ab_tm2]
      all_goals exact k
    clear hF hO h z
    simp (disch := omega) only [do_X13_needs, rX13_needs_0, rX13_needs_1, rX13_needs_2, rX13_needs_5, rX13_needs_8, rX13_needs_9, rX13_needs_10, rX13_needs_13, rX13_needs_14, gS_355, g, c1, ne_eq, not_false_eq_true, not_true_eq_false, true_and, and_true, and_self, true_imp_iff, false_imp_iff, imp_self, Bool.not_false, Bool.not_true, reduceCtorEq, ab_isJ, ab_psh, ab_cats, Bool.false_eq_true, if_true, if_false, ab_shf, ab_shw, Int.le_refl, Classical.not_not, Int.zero_add, forall_const, ↓ab_itT, ↓ab_itF, ab_anT, ab_w32_id, ab_rdf_ne, ab_rdw_ne, ab_rdw_eq, ab_rdf_in, ab_td2, ab_tm2, true_or, or_true]
    all_goals exact key
  · rw [if_neg z] at c1
    have key := hF z _ (ac_flw (k := 1) h).2 (ac_flw h).1
    have gF := (ac_flw (k := 1) h).1.1
    have c3 := fun Q' => mq_goesOn5 (X := X) (Q := Q') gF (ac_flw (k := 1) h).1.2.1
    clear hF hO h z
    simp (disch := omega) only [do_X13_needs, rX13_needs_0, rX13_needs_1, rX13_needs_2, rX13_needs_5, rX13_needs_8, rX13_needs_9, rX13_needs_10, rX13_needs_13, rX13_needs_14, rX13_needs_17, gS_355, g, gF, c1, c2, c3, ne_eq, not_false_eq_true, not_true_eq_false, true_and, and_true, and_self, true_imp_iff, false_imp_iff, imp_self, Bool.not_false, Bool.not_true, reduceCtorEq, ab_isJ, ab_psh, ab_cats, Bool.false_eq_true, if_true, if_false, ab_shf, ab_shw, Int.le_refl, Classical.not_not, Int.zero_add, forall_const, ↓ab_itT, ↓ab_itF, ab_anT, true_or, or_true]
    all_goals exact key
theorem mq_needs5 (h : ac_RF σ w pl) (ha : a ≤ -2) : ab_Do X 176 [ab_R 355, ab_R a] σ Q ↔ Q none σ := by
  have g := h.1
  have c1 := fun Q' => mq_isWord5 (X := X) (Q := Q') (a := a) h.1 h.2.1
  have c2 := fun k Q' => mq_flaw5 (X := X) (Q := Q') (k := k) h
  have c3 := fun Q' => mq_goesOn5 (X := X) (Q := Q') h.1 h.2.1
  simp (disch := omega) only [do_X13_needs, rX13_needs_0, rX13_needs_1, rX13_needs_2, rX13_needs_5, rX13_needs_8, rX13_needs_9, rX13_needs_10, rX13_needs_13, rX13_needs_14, rX13_needs_17, gS_355, g, c1, c2, c3, ne_eq, not_false_eq_true, not_true_eq_false, true_and, and_true, and_self, true_imp_iff, false_imp_iff, imp_self, Bool.not_false, Bool.not_true, reduceCtorEq, ab_isJ, ab_psh, ab_cats, Bool.false_eq_true, if_true, if_false, ab_shf, ab_shw, Int.le_refl, Classical.not_not, Int.zero_add, forall_const, ↓ab_itT, ↓ab_itF, ab_anT, ab_w32_id, ab_rdf_ne, ab_rdw_ne, ab_rdw_eq, ab_rdf_in, ab_td2, ab_tm2, true_or, or_true]
end
