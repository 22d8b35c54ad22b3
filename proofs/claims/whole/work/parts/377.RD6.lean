/-! READER of the reference: bounded -/
section
variable {X : ab_X} {σ τ υ : ab_S} {Q : Option ab_V → ab_S → Prop} {n p s x y t i a b c k w pl lo hi : Int} {tp : Int → Int} {T : List Int}
theorem mq_bounded (h : ac_RM σ n tp s) (hF : ac_wf tp n s lo hi ≠ 0 → ∀ τ, ab_Same ac_PV σ τ → ac_RF τ (ac_wf tp n s lo hi) s → Q (some (ab_I lo)) τ) (hO : ac_wf tp n s lo hi = 0 → Q (some (ab_I (ac_kvl tp n s))) σ) : ab_Do X 177 [ab_R 355, ab_I lo, ab_I hi] σ Q := by
  have g := h.1.1
  have h9 := h.2.1.2.1
  have h5 := h.n5
  have c2 := fun k Q' => mq_flaw (X := X) (Q := Q') (k := k) h
  have cin := fun x lo hi Q' => mq_in (X := X) (σ := σ) (Q := Q') (x := x) (lo := lo) (hi := hi)
  by_cases z : ac_kk tp n s = 3
  · have k12 : ab_rd σ 355 12 = ac_kvl tp n s := h.2.1.2.2.2.2.1 z
    rw [z] at h9
    have h9 : ab_rd σ 355 9 = 3 := h9
    have e : ac_wf tp n s lo hi = if lo ≤ ac_kvl tp n s ∧ ac_kvl tp n s ≤ hi then 0 else 4 := by unfold ac_wf; rw [if_pos z]; rfl
    rw [e] at hF hO
    generalize ac_kvl tp n s = v at *
    have ci := fun Q' => cin v lo hi Q'
    by_cases y : lo ≤ v ∧ v ≤ hi
    · rw [if_pos y] at hO ci
      have key := hO rfl
      clear hF hO h c2 e cin
      simp (disch := omega) only [do_X13_bounded, rX13_bounded_0, rX13_bounded_1, rX13_bounded_4, rX13_bounded_5, rX13_bounded_8, rX13_bounded_9, rX13_bounded_10, rX13_bounded_13, rX13_bounded_16, rX13_bounded_17, rX13_bounded_20, rX13_bounded_21, rX13_bounded_22, rX13_bounded_25, rX13_bounded_28, rX13_bounded_29, rX13_bounded_30, rX13_bounded_33, rX13_bounded_34, rX13_bounded_37, rX13_bounded_38, rX13_bounded_41, rX13_bounded_42, rX13_bounded_45, rX13_bounded_46, rX13_bounded_49, gS_355, g, h9, k12, ci, ne_eq, not_false_eq_true, not_true_eq_false, true_and, and_true, and_self, true_imp_iff, false_imp_iff, imp_self, Bool.not_false, Bool.not_true, reduceCtorEq, ab_isJ, ab_psh, ab_cats, Bool.false_eq_true, if_true, if_false, ab_shf, ab_shw, Int.le_refl, Classical.not_not, Int.zero_add, forall_const, ↓ab_itT, ↓ab_itF, ab_anT, ab_w32_id, ab_rdf_ne, ab_rdw_ne, ab_rdw_eq, ab_rdf_in, ab_td2, ab_tm2, true_or, or_true]
      all_goals exact key
    · rw [if_neg y] at hF ci
      have key := hF (by decide) _ (ac_flw (k := 4) h).2 (ac_flw h).1
      have gF := (ac_flw (k := 4) h).1.1
      have f9 := (ac_flw (k := 4) h).1.2.1
      clear hF hO h e cin
      simp (disch := omega) only [do_X13_bounded, rX13_bounded_0, rX13_bounded_1, rX13_bounded_4, rX13_bounded_5, rX13_bounded_8, rX13_bounded_9, rX13_bounded_10, rX13_bounded_13, rX13_bounded_16, rX13_bounded_17, rX13_bounded_20, rX13_bounded_21, rX13_bounded_22, rX13_bounded_25, rX13_bounded_28, rX13_bounded_29, rX13_bounded_30, rX13_bounded_33, rX13_bounded_34, rX13_bounded_37, rX13_bounded_38, rX13_bounded_41, rX13_bounded_42, rX13_bounded_45, rX13_bounded_46, rX13_bounded_49, gS_355, g, gF, h9, k12, ci, c2, f9, ne_eq, not_false_eq_true, not_true_eq_false, true_and, and_true, and_self, true_imp_iff, false_imp_iff, imp_self, Bool.not_false, Bool.not_true, reduceCtorEq, ab_isJ, ab_psh, ab_cats, Bool.false_eq_true, if_true, if_false, ab_shf, ab_shw, Int.le_refl, Classical.not_not, Int.zero_add, forall_const, ↓ab_itT, ↓ab_itF, ab_anT, true_or, or_true]
      all_goals exact key
  · have e : ac_wf tp n s lo hi = 1 := by unfold ac_wf; rw [if_neg z]
    rw [e] at hF
    have key := hF (by decide) _ (ac_flw (k := 1) h).2 (ac_flw h).1
    have gF := (ac_flw (k := 1) h).1.1
    have f9 := (ac_flw (k := 1) h).1.2.1
    have z' : ¬ ab_rd σ 355 9 = 3 := by
      rw [h9]
      unfold ac_mk
      split
      · omega
      · split
        · omega
        · split <;> omega
    clear hF hO h e cin
    simp (disch := omega) only [do_X13_bounded, rX13_bounded_0, rX13_bounded_1, rX13_bounded_4, rX13_bounded_5, rX13_bounded_8, rX13_bounded_9, rX13_bounded_10, rX13_bounded_13, rX13_bounded_16, rX13_bounded_17, rX13_bounded_20, rX13_bounded_21, rX13_bounded_22, rX13_bounded_25, rX13_bounded_28, rX13_bounded_29, rX13_bounded_30, rX13_bounded_33, rX13_bounded_34, rX13_bounded_37, rX13_bounded_38, rX13_bounded_41, rX13_bounded_42, rX13_bounded_45, rX13_bounded_46, rX13_bounded_49, gS_355, g, gF, c2, f9, ne_eq, not_false_eq_true, not_true_eq_false, true_and, and_true, and_self, true_imp_iff, false_imp_iff, imp_self, Bool.not_false, Bool.not_true, reduceCtorEq, ab_isJ, ab_psh, ab_cats, Bool.false_eq_true, if_true, if_false, ab_shf, ab_shw, Int.le_refl, Classical.not_not, Int.zero_add, forall_const, ↓ab_itT, ↓ab_itF, ab_anT, true_or, or_true]
    all_goals exact key
theorem mq_bounded5 (h : ac_RF σ w pl) : ab_Do X 177 [ab_R 355, ab_I lo, ab_I hi] σ Q ↔ Q (some (ab_I lo)) σ := by
  have g := h.1
  have h9 := h.2.1
  have c2 := fun k Q' => mq_flaw5 (X := X) (Q := Q') (k := k) h
  simp (disch := omega) only [do_X13_bounded, rX13_bounded_0, rX13_bounded_1, rX13_bounded_4, rX13_bounded_5, rX13_bounded_8, rX13_bounded_9, rX13_bounded_10, rX13_bounded_13, rX13_bounded_16, rX13_bounded_17, rX13_bounded_20, rX13_bounded_21, rX13_bounded_22, rX13_bounded_25, rX13_bounded_28, rX13_bounded_29, rX13_bounded_30, rX13_bounded_33, rX13_bounded_34, rX13_bounded_37, rX13_bounded_38, rX13_bounded_41, rX13_bounded_42, rX13_bounded_45, rX13_bounded_46, rX13_bounded_49, gS_355, g, h9, c2, ne_eq, not_false_eq_true, not_true_eq_false, true_and, and_true, and_self, true_imp_iff, false_imp_iff, imp_self, Bool.not_false, Bool.not_true, reduceCtorEq, ab_isJ, ab_psh, ab_cats, Bool.false_eq_true, if_true, if_false, ab_shf, ab_shw, Int.le_refl, Classical.not_not, Int.zero_add, forall_const, ↓ab_itT, ↓ab_itF, ab_anT, ab_w32_id, ab_rdf_ne, ab_rdw_ne, ab_rdw_eq, ab_rdf_in, ab_td2, ab_tm2, true_or, or_true]
end
