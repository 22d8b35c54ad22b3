/-- crosswise -/
def ac_cmp (x y s t : Int) : Int := if x = 0 ∨ y = 0 then (if x = 0 then 1 else 0) - (if y = 0 then 1 else 0) else s * y - t * x
theorem ac_cmp_pos {x y s t : Int} (hx : 0 ≤ x ∧ x < s) (hy : 0 ≤ y ∧ y < t) : (0 < ac_cmp x y s t ↔ t * x < s * y) ∧ (ac_cmp x y s t = 0 ↔ s * y = t * x) := by
  unfold ac_cmp
  by_cases h1 : x = 0
  · subst h1
    rw [if_pos (Or.inl rfl), if_pos rfl, Int.mul_zero]
    by_cases h2 : y = 0
    · subst h2
      rw [if_pos rfl, Int.mul_zero]; omega
    · rw [if_neg h2]
      have := Int.mul_pos (show 0 < s by omega) (show 0 < y by omega)
      omega
  · by_cases h2 : y = 0
    · subst h2
      rw [if_pos (Or.inr rfl), if_neg h1, if_pos rfl, Int.mul_zero]
      have := Int.mul_pos (show 0 < t by omega) (show 0 < x by omega)
      omega
    · rw [if_neg (by omega)]
      omega
section
variable {X : ab_X} {σ τ : ab_S} {Q : Option ab_V → ab_S → Prop} {M : Int} {κ : ac_K} {v : Int → Int} {d b p hp q hq mv fa ft arm k : Int}
theorem ac_SA_b (hK : ac_KK κ) (hB : ac_MB κ d b p hp q hq) (ha : arm = 0 ∨ arm = 1) (hk : 0 ≤ k ∧ k < κ 14 (2 * b + arm)) : 0 ≤ ac_brs (ac_SA κ d b p q arm) (ac_row fa ft arm) k ∧ ac_brs (ac_SA κ d b p q arm) (ac_row fa ft arm) k ≤ 639 := by
  have := ac_S_b (who := if arm = 0 then p else q) hK hB.2.2.2.1 hB.1 ha hk.1 hk.2
  unfold ac_brs ac_SA
  split <;> omega
theorem ac_NA_b (hK : ac_KK κ) (hB : ac_MB κ d b p hp q hq) (hk : 0 ≤ k) : 0 ≤ ac_NA κ p hp q hq mv arm k ∧ ac_NA κ p hp q hq mv arm k ≤ 579 := by
  have b1 := hB.2.2.2.2.1
  have b2 := hB.2.2.2.2.2
  exact ac_N_b hK hB.2.1 hB.2.2.1 (by split <;> omega) hk
theorem mq_compares {o j : Int} (h : ac_MI σ M κ) (hL : ac_ML σ κ d b p hp q hq mv) (hB : ac_MB κ d b p hp q hq) (hfa : ab_rd σ 355 23 = fa) (hft : ab_rd σ 355 24 = ft) (ha : arm = 0 ∨ arm = 1) (hk : 0 ≤ k ∧ k < κ 14 (2 * b + arm)) (ho : o = 0 ∨ o = 1) (hj : 0 ≤ j ∧ j < κ 14 (2 * b + o)) : ab_Do X 207 [ab_R 355, ab_I arm, ab_I k, ab_I o, ab_I j] σ Q ↔ Q (some (ab_J (ac_cmp (ac_brs (ac_SA κ d b p q arm) (ac_row fa ft arm) k) (ac_brs (ac_SA κ d b p q o) (ac_row fa ft o) j) (ac_NA κ p hp q hq mv arm k) (ac_NA κ p hp q hq mv o j)))) σ := by
  have c1 := fun Q' => mq_strengthAt (X := X) (Q := Q') h hL hB hfa hft ha hk
  have c2 := fun Q' => mq_strengthAt (X := X) (Q := Q') h hL hB hfa hft ho hj
  have c3 := fun Q' => mq_strainAt (X := X) (Q := Q') h hL hB ha hk.1
  have c4 := fun Q' => mq_strainAt (X := X) (Q := Q') h hL hB ho hj.1
  have b1 := ac_SA_b (fa := fa) (ft := ft) h.2.2.2.2 hB ha hk
  have b2 := ac_SA_b (fa := fa) (ft := ft) h.2.2.2.2 hB ho hj
  have b3 := ac_NA_b (mv := mv) (arm := arm) h.2.2.2.2 hB hk.1
  have b4 := ac_NA_b (mv := mv) (arm := o) h.2.2.2.2 hB hj.1
  have hg := h.1
  generalize ac_brs (ac_SA κ d b p q arm) (ac_row fa ft arm) k = x at *
  generalize ac_brs (ac_SA κ d b p q o) (ac_row fa ft o) j = y at *
  generalize ac_NA κ p hp q hq mv arm k = s at *
  generalize ac_NA κ p hp q hq mv o j = t at *
  have m1 := ab_mulb b3.1 b3.2 b2.1 b2.2
  have m2 := ab_mulb b4.1 b4.2 b1.1 b1.2
  clear h hL hB hk hj
  unfold ac_cmp
  by_cases h1 : x = 0
  · by_cases h2 : y = 0
    · rw [if_pos (Or.inl h1), if_pos h1, if_pos h2]
      simp (disch := omega) only [do_X13_compares, rX13_compares_0, rX13_compares_1, rX13_compares_2, rX13_compares_3, rX13_compares_6, rX13_compares_7, rX13_compares_9, rX13_compares_10, rX13_compares_11, rX13_compares_13, rX13_compares_16, rX13_compares_17, rX13_compares_19, rX13_compares_21, rX13_compares_22, rX13_compares_23, rX13_compares_26, rX13_compares_28, rX13_compares_29, rX13_compares_30, rX13_compares_33, rX13_compares_35, rX13_compares_36, rX13_compares_37, rX13_compares_40, rX13_compares_41, rX13_compares_44, rX13_compares_45, rX13_compares_47, rX13_compares_48, rX13_compares_49, rX13_compares_52, rX13_compares_53, rX13_compares_56, rX13_compares_57, rX13_compares_58, rX13_compares_59, rX13_compares_60, rX13_compares_61, rX13_compares_62, rX13_compares_65, rX13_compares_66, rX13_compares_68, rX13_compares_69, rX13_compares_70, rX13_compares_71, rX13_compares_73, rX13_compares_76, rX13_compares_77, rX13_compares_79, rX13_compares_80, rX13_compares_81, gS_355, hg, c1, c2, ne_eq, not_false_eq_true, not_true_eq_false, true_and, and_true, and_self, true_imp_iff, false_imp_iff, imp_self, Bool.not_false, Bool.not_true, reduceCtorEq, ab_isJ, ab_psh, ab_cats, Bool.false_eq_true, if_true, if_false, ab_shf, ab_shw, Int.le_refl, Classical.not_not, Int.zero_add, forall_const, ↓ab_itT, ↓ab_itF, ab_anT, ab_w32_id, ab_rdf_ne, ab_rdw_ne, ab_rdw_eq, ab_rdf_in, ab_td2, ab_tm2, ab_ifT, ab_ifF, ab_w64_id]
      try rfl
    · rw [if_pos (Or.inl h1), if_pos h1, if_neg h2]
      simp (disch := omega) only [do_X13_compares, rX13_compares_0, rX13_compares_1, rX13_compares_2, rX13_compares_3, rX13_compares_6, rX13_compares_7, rX13_compares_9, rX13_compares_10, rX13_compares_11, rX13_compares_13, rX13_compares_16, rX13_compares_17, rX13_compares_19, rX13_compares_21, rX13_compares_22, rX13_compares_23, rX13_compares_26, rX13_compares_28, rX13_compares_29, rX13_compares_30, rX13_compares_33, rX13_compares_35, rX13_compares_36, rX13_compares_37, rX13_compares_40, rX13_compares_41, rX13_compares_44, rX13_compares_45, rX13_compares_47, rX13_compares_48, rX13_compares_49, rX13_compares_52, rX13_compares_53, rX13_compares_56, rX13_compares_57, rX13_compares_58, rX13_compares_59, rX13_compares_60, rX13_compares_61, rX13_compares_62, rX13_compares_65, rX13_compares_66, rX13_compares_68, rX13_compares_69, rX13_compares_70, rX13_compares_71, rX13_compares_73, rX13_compares_76, rX13_compares_77, rX13_compares_79, rX13_compares_80, rX13_compares_81, gS_355, hg, c1, c2, ne_eq, not_false_eq_true, not_true_eq_false, true_and, and_true, and_self, true_imp_iff, false_imp_iff, imp_self, Bool.not_false, Bool.not_true, reduceCtorEq, ab_isJ, ab_psh, ab_cats, Bool.false_eq_true, if_true, if_false, ab_shf, ab_shw, Int.le_refl, Classical.not_not, Int.zero_add, forall_const, ↓ab_itT, ↓ab_itF, ab_anT, ab_w32_id, ab_rdf_ne, ab_rdw_ne, ab_rdw_eq, ab_rdf_in, ab_td2, ab_tm2, ab_ifT, ab_ifF, ab_w64_id]
      try rfl
  · by_cases h2 : y = 0
    · rw [if_pos (Or.inr h2), if_neg h1, if_pos h2]
      by_cases h3 : 0 < x
      · simp (disch := omega) only [do_X13_compares, rX13_compares_0, rX13_compares_1, rX13_compares_2, rX13_compares_3, rX13_compares_6, rX13_compares_7, rX13_compares_9, rX13_compares_10, rX13_compares_11, rX13_compares_13, rX13_compares_16, rX13_compares_17, rX13_compares_19, rX13_compares_21, rX13_compares_22, rX13_compares_23, rX13_compares_26, rX13_compares_28, rX13_compares_29, rX13_compares_30, rX13_compares_33, rX13_compares_35, rX13_compares_36, rX13_compares_37, rX13_compares_40, rX13_compares_41, rX13_compares_44, rX13_compares_45, rX13_compares_47, rX13_compares_48, rX13_compares_49, rX13_compares_52, rX13_compares_53, rX13_compares_56, rX13_compares_57, rX13_compares_58, rX13_compares_59, rX13_compares_60, rX13_compares_61, rX13_compares_62, rX13_compares_65, rX13_compares_66, rX13_compares_68, rX13_compares_69, rX13_compares_70, rX13_compares_71, rX13_compares_73, rX13_compares_76, rX13_compares_77, rX13_compares_79, rX13_compares_80, rX13_compares_81, gS_355, hg, c1, c2, ne_eq, not_false_eq_true, not_true_eq_false, true_and, and_true, and_self, true_imp_iff, false_imp_iff, imp_self, Bool.not_false, Bool.not_true, reduceCtorEq, ab_isJ, ab_psh, ab_cats, Bool.false_eq_true, if_true, if_false, ab_shf, ab_shw, Int.le_refl, Classical.not_not, Int.zero_add, forall_const, ↓ab_itT, ↓ab_itF, ab_anT, ab_w32_id, ab_rdf_ne, ab_rdw_ne, ab_rdw_eq, ab_rdf_in, ab_td2, ab_tm2, ab_ifT, ab_ifF, ab_w64_id]
        try rfl
      · exfalso; omega
    · rw [if_neg (by omega)]
      simp (disch := omega) only [do_X13_compares, rX13_compares_0, rX13_compares_1, rX13_compares_2, rX13_compares_3, rX13_compares_6, rX13_compares_7, rX13_compares_9, rX13_compares_10, rX13_compares_11, rX13_compares_13, rX13_compares_16, rX13_compares_17, rX13_compares_19, rX13_compares_21, rX13_compares_22, rX13_compares_23, rX13_compares_26, rX13_compares_28, rX13_compares_29, rX13_compares_30, rX13_compares_33, rX13_compares_35, rX13_compares_36, rX13_compares_37, rX13_compares_40, rX13_compares_41, rX13_compares_44, rX13_compares_45, rX13_compares_47, rX13_compares_48, rX13_compares_49, rX13_compares_52, rX13_compares_53, rX13_compares_56, rX13_compares_57, rX13_compares_58, rX13_compares_59, rX13_compares_60, rX13_compares_61, rX13_compares_62, rX13_compares_65, rX13_compares_66, rX13_compares_68, rX13_compares_69, rX13_compares_70, rX13_compares_71, rX13_compares_73, rX13_compares_76, rX13_compares_77, rX13_compares_79, rX13_compares_80, rX13_compares_81, gS_355, hg, c1, c2, c3, c4, ne_eq, not_false_eq_true, not_true_eq_false, true_and, and_true, and_self, true_imp_iff, false_imp_iff, imp_self, Bool.not_false, Bool.not_true, reduceCtorEq, ab_isJ, ab_psh, ab_cats, Bool.false_eq_true, if_true, if_false, ab_shf, ab_shw, Int.le_refl, Classical.not_not, Int.zero_add, forall_const, ↓ab_itT, ↓ab_itF, ab_anT, ab_w32_id, ab_rdf_ne, ab_rdw_ne, ab_rdw_eq, ab_rdf_in, ab_td2, ab_tm2, ab_ifT, ab_ifF, ab_w64_id]
theorem mq_worst_l (h : ac_MI σ M κ) (hL : ac_ML σ κ d b p hp q hq mv) (hB : ac_MB κ d b p hp q hq) (hfa : ab_rd σ 355 23 = fa) (hft : ab_rd σ 355 24 = ft) (ha : arm = 0 ∨ arm = 1) : ∀ (n : Nat) (k w : Int), 0 ≤ k → k + n = κ 14 (2 * b + arm) → (w = -1 ∨ (0 ≤ w ∧ w < k ∧ ac_brs (ac_SA κ d b p q arm) (ac_row fa ft arm) w < ac_NA κ p hp q hq mv arm w)) → (ab_Run X 206 4 (3, 0, 0) [ab_R 355, ab_I arm, ab_I w, ab_I k] [] σ Q ↔ Q (some (ab_I (ab_it (ac_fw (ac_NA κ p hp q hq mv arm) (ac_brs (ac_SA κ d b p q arm) (ac_row fa ft arm))) n k w))) σ) := by
  have c0 := fun Q' => mq_many (X := X) (Q := Q') h hB.1 ha
  have hg := h.1
  have h3 := h.2.1
  have sM := h.2.2.1.2.1
  have zM := h.2.2.1.1
  have l1 := hL.1
  have nb := ac_n_b h.2.2.2.2 hB.1 ha
  unfold ac_n at nb
  intro n
  induction n with
  | zero =>
    intro k w hk hn hw
    rw [rX13_worst_4, ab_it]
    simp (disch := omega) only [rX13_worst_5, rX13_worst_6, rX13_worst_9, rX13_worst_10, rX13_worst_13, rX13_worst_14, rX13_worst_17, rX13_worst_64, rX13_worst_65, gS_355, hg, h3, sM, l1, c0, ne_eq, not_false_eq_true, not_true_eq_false, true_and, and_true, and_self, true_imp_iff, false_imp_iff, imp_self, Bool.not_false, Bool.not_true, reduceCtorEq, ab_isJ, ab_psh, ab_cats, Bool.false_eq_true, if_true, if_false, ab_shf, ab_shw, Int.le_refl, Classical.not_not, Int.zero_add, forall_const, ↓ab_itT, ↓ab_itF, ab_anT, ab_w32_id, ab_rdf_ne, ab_rdw_ne, ab_rdw_eq, ab_rdf_in, ab_td2, ab_tm2]
  | succ n ih =>
    intro k w hk hn hw
    have c1 := fun Q' => mq_strengthAt (X := X) (Q := Q') h hL hB hfa hft ha (show 0 ≤ k ∧ k < κ 14 (2 * b + arm) by omega)
    have c2 := fun Q' => mq_strainAt (X := X) (Q := Q') h hL hB ha hk
    have b1 := ac_SA_b (fa := fa) (ft := ft) h.2.2.2.2 hB ha (show 0 ≤ k ∧ k < κ 14 (2 * b + arm) by omega)
    have b2 := ac_NA_b (mv := mv) (arm := arm) h.2.2.2.2 hB hk
    rw [ab_it]
    by_cases g1 : ac_brs (ac_SA κ d b p q arm) (ac_row fa ft arm) k < ac_NA κ p hp q hq mv arm k
    · by_cases g2 : w = -1
      · have e : ac_fw (ac_NA κ p hp q hq mv arm) (ac_brs (ac_SA κ d b p q arm) (ac_row fa ft arm)) k w = k := if_pos ⟨g1, Or.inl g2⟩
        rw [e, ← ih (k + 1) k (by omega) (by omega) (Or.inr ⟨hk, by omega, g1⟩), rX13_worst_4]
        simp (disch := omega) only [rX13_worst_5, rX13_worst_6, rX13_worst_9, rX13_worst_10, rX13_worst_13, rX13_worst_14, rX13_worst_17, rX13_worst_20, rX13_worst_21, rX13_worst_22, rX13_worst_23, rX13_worst_26, rX13_worst_27, rX13_worst_28, rX13_worst_29, rX13_worst_32, rX13_worst_35, rX13_worst_38, rX13_worst_39, rX13_worst_40, rX13_worst_43, rX13_worst_44, rX13_worst_45, rX13_worst_46, rX13_worst_47, rX13_worst_48, rX13_worst_51, rX13_worst_52, rX13_worst_53, rX13_worst_56, rX13_worst_57, rX13_worst_58, rX13_worst_61, gS_355, hg, h3, sM, l1, c0, c1, c2, ne_eq, not_false_eq_true, not_true_eq_false, true_and, and_true, and_self, true_imp_iff, false_imp_iff, imp_self, Bool.not_false, Bool.not_true, reduceCtorEq, ab_isJ, ab_psh, ab_cats, Bool.false_eq_true, if_true, if_false, ab_shf, ab_shw, Int.le_refl, Classical.not_not, Int.zero_add, forall_const, ↓ab_itT, ↓ab_itF, ab_anT, ab_w32_id, ab_rdf_ne, ab_rdw_ne, ab_rdw_eq, ab_rdf_in, ab_td2, ab_tm2]
      · have hw' := hw.resolve_left g2
        have c3 := fun Q' => mq_compares (X := X) (Q := Q') h hL hB hfa hft ha (show 0 ≤ k ∧ k < κ 14 (2 * b + arm) by omega) ha (show 0 ≤ w ∧ w < κ 14 (2 * b + arm) by omega)
        have b3 := ac_SA_b (fa := fa) (ft := ft) h.2.2.2.2 hB ha (show 0 ≤ w ∧ w < κ 14 (2 * b + arm) by omega)
        have P := (ac_cmp_pos ⟨b1.1, g1⟩ ⟨b3.1, hw'.2.2⟩).1
        by_cases g3 : ac_NA κ p hp q hq mv arm w * ac_brs (ac_SA κ d b p q arm) (ac_row fa ft arm) k < ac_NA κ p hp q hq mv arm k * ac_brs (ac_SA κ d b p q arm) (ac_row fa ft arm) w
        · have e : ac_fw (ac_NA κ p hp q hq mv arm) (ac_brs (ac_SA κ d b p q arm) (ac_row fa ft arm)) k w = k := if_pos ⟨g1, Or.inr g3⟩
          have P' := P.mpr g3
          clear P
          rw [e, ← ih (k + 1) k (by omega) (by omega) (Or.inr ⟨hk, by omega, g1⟩), rX13_worst_4]
          simp (disch := omega) only [rX13_worst_5, rX13_worst_6, rX13_worst_9, rX13_worst_10, rX13_worst_13, rX13_worst_14, rX13_worst_17, rX13_worst_20, rX13_worst_21, rX13_worst_22, rX13_worst_23, rX13_worst_26, rX13_worst_27, rX13_worst_28, rX13_worst_29, rX13_worst_32, rX13_worst_35, rX13_worst_38, rX13_worst_39, rX13_worst_40, rX13_worst_43, rX13_worst_44, rX13_worst_45, rX13_worst_46, rX13_worst_47, rX13_worst_48, rX13_worst_51, rX13_worst_52, rX13_worst_53, rX13_worst_56, rX13_worst_57, rX13_worst_58, rX13_worst_61, gS_355, hg, h3, sM, l1, c0, c1, c2, c3, ne_eq, not_false_eq_true, not_true_eq_false, true_and, and_true, and_self, true_imp_iff, false_imp_iff, imp_self, Bool.not_false, Bool.not_true, reduceCtorEq, ab_isJ, ab_psh, ab_cats, Bool.false_eq_true, if_true, if_false, ab_shf, ab_shw, Int.le_refl, Classical.not_not, Int.zero_add, forall_const, ↓ab_itT, ↓ab_itF, ab_anT, ab_w32_id, ab_rdf_ne, ab_rdw_ne, ab_rdw_eq, ab_rdf_in, ab_td2, ab_tm2, ab_ifT]
        · have e : ac_fw (ac_NA κ p hp q hq mv arm) (ac_brs (ac_SA κ d b p q arm) (ac_row fa ft arm)) k w = w := if_neg (fun u => u.2.elim g2 g3)
          have P' := fun u => g3 (P.mp u)
          have P2 : ¬ (0 < ac_cmp (ac_brs (ac_SA κ d b p q arm) (ac_row fa ft arm) k) (ac_brs (ac_SA κ d b p q arm) (ac_row fa ft arm) w) (ac_NA κ p hp q hq mv arm k) (ac_NA κ p hp q hq mv arm w)) := P'
          clear P P'
          rw [e, ← ih (k + 1) w (by omega) (by omega) (Or.inr ⟨hw'.1, by omega, hw'.2.2⟩), rX13_worst_4]
          have lc : (if 0 < ac_cmp (ac_brs (ac_SA κ d b p q arm) (ac_row fa ft arm) k) (ac_brs (ac_SA κ d b p q arm) (ac_row fa ft arm) w) (ac_NA κ p hp q hq mv arm k) (ac_NA κ p hp q hq mv arm w) then (1 : Int) else if ac_cmp (ac_brs (ac_SA κ d b p q arm) (ac_row fa ft arm) k) (ac_brs (ac_SA κ d b p q arm) (ac_row fa ft arm) w) (ac_NA κ p hp q hq mv arm k) (ac_NA κ p hp q hq mv arm w) = 0 then 0 else -1) ≤ 0 := by
            rw [if_neg P2]; split <;> omega
          simp (disch := omega) only [rX13_worst_5, rX13_worst_6, rX13_worst_9, rX13_worst_10, rX13_worst_13, rX13_worst_14, rX13_worst_17, rX13_worst_20, rX13_worst_21, rX13_worst_22, rX13_worst_23, rX13_worst_26, rX13_worst_27, rX13_worst_28, rX13_worst_29, rX13_worst_32, rX13_worst_35, rX13_worst_38, rX13_worst_39, rX13_worst_40, rX13_worst_43, rX13_worst_44, rX13_worst_45, rX13_worst_46, rX13_worst_47, rX13_worst_48, rX13_worst_51, rX13_worst_52, rX13_worst_53, rX13_worst_56, rX13_worst_57, rX13_worst_58, rX13_worst_61, gS_355, hg, h3, sM, l1, c0, c1, c2, c3, ne_eq, not_false_eq_true, not_true_eq_false, true_and, and_true, and_self, true_imp_iff, false_imp_iff, imp_self, Bool.not_false, Bool.not_true, reduceCtorEq, ab_isJ, ab_psh, ab_cats, Bool.false_eq_true, if_true, if_false, ab_shf, ab_shw, Int.le_refl, Classical.not_not, Int.zero_add, forall_const, ↓ab_itT, ↓ab_itF, ab_anT, ab_w32_id, ab_rdf_ne, ab_rdw_ne, ab_rdw_eq, ab_rdf_in, ab_td2, ab_tm2]
    · have e : ac_fw (ac_NA κ p hp q hq mv arm) (ac_brs (ac_SA κ d b p q arm) (ac_row fa ft arm)) k w = w := if_neg (fun u => g1 u.1)
      rw [e, ← ih (k + 1) w (by omega) (by omega) (hw.imp id (fun u => ⟨u.1, by omega, u.2.2⟩)), rX13_worst_4]
      simp (disch := omega) only [rX13_worst_5, rX13_worst_6, rX13_worst_9, rX13_worst_10, rX13_worst_13, rX13_worst_14, rX13_worst_17, rX13_worst_20, rX13_worst_21, rX13_worst_22, rX13_worst_23, rX13_worst_26, rX13_worst_27, rX13_worst_28, rX13_worst_29, rX13_worst_32, rX13_worst_35, rX13_worst_38, rX13_worst_39, rX13_worst_40, rX13_worst_43, rX13_worst_44, rX13_worst_45, rX13_worst_46, rX13_worst_47, rX13_worst_48, rX13_worst_51, rX13_worst_52, rX13_worst_53, rX13_worst_56, rX13_worst_57, rX13_worst_58, rX13_worst_61, gS_355, hg, h3, sM, l1, c0, c1, c2, ne_eq, not_false_eq_true, not_true_eq_false, true_and, and_true, and_self, true_imp_iff, false_imp_iff, imp_self, Bool.not_false, Bool.not_true, reduceCtorEq, ab_isJ, ab_psh, ab_cats, Bool.false_eq_true, if_true, if_false, ab_shf, ab_shw, Int.le_refl, Classical.not_not, Int.zero_add, forall_const, ↓ab_itT, ↓ab_itF, ab_anT, ab_w32_id, ab_rdf_ne, ab_rdw_ne, ab_rdw_eq, ab_rdf_in, ab_td2, ab_tm2]
theorem mq_worst (h : ac_MI σ M κ) (hL : ac_ML σ κ d b p hp q hq mv) (hB : ac_MB κ d b p hp q hq) (hfa : ab_rd σ 355 23 = fa) (hft : ab_rd σ 355 24 = ft) (ha : arm = 0 ∨ arm = 1) : ab_Do X 206 [ab_R 355, ab_I arm] σ Q ↔ Q (some (ab_I (ac_W (ac_NA κ p hp q hq mv arm) (ac_brs (ac_SA κ d b p q arm) (ac_row fa ft arm)) (ac_n κ b arm)))) σ := by
  have nb := ac_n_b h.2.2.2.2 hB.1 ha
  unfold ac_n at nb
  unfold ac_W ac_n
  rw [← mq_worst_l (X := X) (Q := Q) h hL hB hfa hft ha (κ 14 (2 * b + arm)).toNat 0 (-1) (by omega) (by omega) (Or.inl rfl)]
  simp (disch := omega) only [do_X13_worst, rX13_worst_0, rX13_worst_1, rX13_worst_2, rX13_worst_3, ne_eq, not_false_eq_true, not_true_eq_false, true_and, and_true, and_self, true_imp_iff, false_imp_iff, imp_self, Bool.not_false, Bool.not_true, reduceCtorEq, ab_isJ, ab_psh, ab_cats, Bool.false_eq_true, if_true, if_false, ab_shf, ab_shw, Int.le_refl, Classical.not_not, Int.zero_add, forall_const, ↓ab_itT, ↓ab_itF, ab_anT, ab_w32_id, ab_rdf_ne, ab_rdw_ne, ab_rdw_eq, ab_rdf_in, ab_td2, ab_tm2]
end
