/-! parts in lowest terms -/
def ac_eu : Nat → Int → Int → Int
  | 0, a, _ => a
  | n + 1, a, b => if b = 0 then a else ac_eu n b (a % b)
theorem ac_eu0 : ∀ (n : Nat) (a : Int), ac_eu n a 0 = a
  | 0, _ => rfl
  | n + 1, a => by rw [ac_eu, if_pos rfl]
theorem ac_eu_b : ∀ (n : Nat) (a b : Int), 0 ≤ a → 0 ≤ b → (0 < a ∨ 0 < b) → a < 9223372036854775808 → b < 9223372036854775808 → (0 < ac_eu n a b ∨ (n = 0 ∧ ac_eu n a b = 0)) ∧ ac_eu n a b < 9223372036854775808 ∧ 0 ≤ ac_eu n a b
  | 0, a, b, h1, h2, h3, h4, h5 => by unfold ac_eu; omega
  | n + 1, a, b, h1, h2, h3, h4, h5 => by
    rw [ac_eu]
    by_cases hb : b = 0
    · rw [if_pos hb]; omega
    · rw [if_neg hb]
      have m1 := Int.emod_nonneg a hb
      have m2 := Int.emod_lt_of_pos a (show 0 < b by omega)
      have := ac_eu_b n b (a % b) h2 m1 (Or.inl (by omega)) h5 (by omega)
      refine ⟨Or.inl ?_, this.2.1, this.2.2⟩
      rcases this.1 with q | ⟨q, q'⟩
      · exact q
      · subst q; unfold ac_eu at q' ⊢; omega
theorem ac_half {b r : Int} (hr : 0 < r) (hb : r < b) : 2 * (b % r) < b := by
  have h1 := Int.emod_nonneg b (show r ≠ 0 by omega)
  have h2 := Int.emod_lt_of_pos b hr
  have h3 := Int.mul_ediv_add_emod b r
  have h4 : 1 ≤ b / r := by
    have := Int.le_ediv_of_mul_le (a := 1) (b := b) hr (by omega)
    exact this
  have h5 : r * 1 ≤ r * (b / r) := Int.mul_le_mul_of_nonneg_left h4 (by omega)
  omega
section
variable {X : ab_X} {σ τ : ab_S} {Q : Option ab_V → ab_S → Prop} {K : Int} {κ : ac_K}
theorem sp_part_e {up low lo a b i : Int} {l10 l11 : ab_V} (hu : 0 ≤ up ∧ up < 9223372036854775808) (hl : 0 < low ∧ low < 9223372036854775808) (ha : 0 < a) (hlo : lo = 0 ∨ lo = 1) : ab_Run X 147 44 (0, 0, 0) [ab_J up, ab_R 0, ab_J low, ab_R 0, ab_I lo, ab_J a, ab_R 0, ab_J b, ab_R 0, ab_I i, l10, l11] [] σ Q ↔ Q (some (ab_J ((if lo = 0 then up else low) / a))) σ := by
  have d1 : 0 ≤ up / a ∧ up / a ≤ up := ⟨Int.ediv_nonneg hu.1 (by omega), Int.ediv_le_self _ hu.1⟩
  have d2 : 0 ≤ low / a ∧ low / a ≤ low := ⟨Int.ediv_nonneg (by omega) (by omega), Int.ediv_le_self _ (by omega)⟩
  rcases hlo with rfl | rfl
  · simp (disch := omega) only [rX11_part_44, rX11_part_46, rX11_part_47, rX11_part_48, rX11_part_51, rX11_part_53, rX11_part_56, rX11_part_57, rX11_part_60, rX11_part_61, rX11_part_62, rX11_part_64, rX11_part_67, rX11_part_68, rX11_part_70, rX11_part_71, rX11_part_74, rX11_part_75, rX11_part_77, rX11_part_78, ne_eq, not_false_eq_true, not_true_eq_false, true_and, and_true, and_self, true_imp_iff, false_imp_iff, imp_self, Bool.not_false, Bool.not_true, reduceCtorEq, ab_isJ, ab_psh, ab_cats, Bool.false_eq_true, if_true, if_false, ab_shf, ab_shw, Int.le_refl, Classical.not_not, Int.zero_add, Int.add_zero, forall_const, ↓ab_itT, ↓ab_itF, ab_anT, ab_w32_id, ab_rdf_ne, ab_rdw_ne, ab_rdw_eq, ab_rdf_in, ab_td2, ab_tm2, ab_ifT, ab_w64_id]
  · simp (disch := omega) only [rX11_part_44, rX11_part_46, rX11_part_47, rX11_part_48, rX11_part_51, rX11_part_53, rX11_part_56, rX11_part_57, rX11_part_60, rX11_part_61, rX11_part_62, rX11_part_64, rX11_part_67, rX11_part_68, rX11_part_70, rX11_part_71, rX11_part_74, rX11_part_75, rX11_part_77, rX11_part_78, ne_eq, not_false_eq_true, not_true_eq_false, true_and, and_true, and_self, true_imp_iff, false_imp_iff, imp_self, Bool.not_false, Bool.not_true, reduceCtorEq, ab_isJ, ab_psh, ab_cats, Bool.false_eq_true, if_true, if_false, ab_shf, ab_shw, Int.le_refl, Classical.not_not, Int.zero_add, Int.add_zero, forall_const, ↓ab_itT, ↓ab_itF, ab_anT, ab_w32_id, ab_rdf_ne, ab_rdw_ne, ab_rdw_eq, ab_rdf_in, ab_td2, ab_tm2, ab_ifT, ab_ifF, ab_w64_id]
theorem sp_part_l {up low lo : Int} (hu : 0 ≤ up ∧ up < 9223372036854775808) (hl : 0 < low ∧ low < 9223372036854775808) (hlo : lo = 0 ∨ lo = 1) : ∀ (k : Nat) (a b i : Int) (l10 l11 : ab_V), 0 ≤ a → 0 ≤ b → (0 < a ∨ 0 < b) → a < 9223372036854775808 → b < 9223372036854775808 → b < 2 ^ k → 0 ≤ i → i + 2 * k ≤ 100 → (ab_Run X 147 9 (0, 0, 0) [ab_J up, ab_R 0, ab_J low, ab_R 0, ab_I lo, ab_J a, ab_R 0, ab_J b, ab_R 0, ab_I i, l10, l11] [] σ Q ↔ Q (some (ab_J ((if lo = 0 then up else low) / ac_eu (2 * k) a b))) σ) := by
  intro k
  induction k with
  | zero =>
    intro a b i l10 l11 h1 h2 h3 h4 h5 h6 h7 h8
    have hb : b = 0 := by have : (2 : Int) ^ 0 = 1 := rfl; omega
    subst hb
    have e : ac_eu (2 * 0) a 0 = a := rfl
    rw [e, rX11_part_9, ← sp_part_e (X := X) (σ := σ) (Q := Q) (a := a) (b := 0) (i := i) (l10 := l10) (l11 := l11) hu hl (by omega) hlo]
    by_cases hi : 100 ≤ i
    · simp (disch := omega) only [rX11_part_11, rX11_part_13, ne_eq, not_false_eq_true, not_true_eq_false, true_and, and_true, and_self, true_imp_iff, false_imp_iff, imp_self, Bool.not_false, Bool.not_true, reduceCtorEq, ab_isJ, ab_psh, ab_cats, Bool.false_eq_true, if_true, if_false, ab_shf, ab_shw, Int.le_refl, Classical.not_not, Int.zero_add, Int.add_zero, forall_const, ↓ab_itT, ↓ab_itF, ab_anT, ab_w32_id, ab_rdf_ne, ab_rdw_ne, ab_rdw_eq, ab_rdf_in, ab_td2, ab_tm2]
    · simp (disch := omega) only [rX11_part_11, rX11_part_13, rX11_part_16, rX11_part_18, rX11_part_19, rX11_part_20, ne_eq, not_false_eq_true, not_true_eq_false, true_and, and_true, and_self, true_imp_iff, false_imp_iff, imp_self, Bool.not_false, Bool.not_true, reduceCtorEq, ab_isJ, ab_psh, ab_cats, Bool.false_eq_true, if_true, if_false, ab_shf, ab_shw, Int.le_refl, Classical.not_not, Int.zero_add, Int.add_zero, forall_const, ↓ab_itT, ↓ab_itF, ab_anT, ab_w32_id, ab_rdf_ne, ab_rdw_ne, ab_rdw_eq, ab_rdf_in, ab_td2, ab_tm2, ab_ifF, ab_ifT]
  | succ k ih =>
    intro a b i l10 l11 h1 h2 h3 h4 h5 h6 h7 h8
    have hi : ¬ 100 ≤ i := by omega
    have e2 : 2 * (k + 1) = 2 * k + 1 + 1 := by omega
    rw [e2]
    by_cases hb : b = 0
    · subst hb
      rw [ac_eu, if_pos rfl, rX11_part_9, ← sp_part_e (X := X) (σ := σ) (Q := Q) (a := a) (b := 0) (i := i) (l10 := l10) (l11 := l11) hu hl (by omega) hlo]
      simp (disch := omega) only [rX11_part_11, rX11_part_13, rX11_part_16, rX11_part_18, rX11_part_19, rX11_part_20, ne_eq, not_false_eq_true, not_true_eq_false, true_and, and_true, and_self, true_imp_iff, false_imp_iff, imp_self, Bool.not_false, Bool.not_true, reduceCtorEq, ab_isJ, ab_psh, ab_cats, Bool.false_eq_true, if_true, if_false, ab_shf, ab_shw, Int.le_refl, Classical.not_not, Int.zero_add, Int.add_zero, forall_const, ↓ab_itT, ↓ab_itF, ab_anT, ab_w32_id, ab_rdf_ne, ab_rdw_ne, ab_rdw_eq, ab_rdf_in, ab_td2, ab_tm2, ab_ifF, ab_ifT]
    · rw [ac_eu, if_neg hb, ac_eu]
      have m1 := Int.emod_nonneg a hb
      have m2 := Int.emod_lt_of_pos a (show 0 < b by omega)
      have st : ab_Run X 147 9 (0, 0, 0) [ab_J up, ab_R 0, ab_J low, ab_R 0, ab_I lo, ab_J a, ab_R 0, ab_J b, ab_R 0, ab_I i, l10, l11] [] σ Q ↔ ab_Run X 147 9 (0, 0, 0) [ab_J up, ab_R 0, ab_J low, ab_R 0, ab_I lo, ab_J b, ab_R 0, ab_J (a % b), ab_R 0, ab_I (i + 1), ab_J (a % b), ab_R 0] [] σ Q := by
        rw [rX11_part_9]
        simp (disch := omega) only [rX11_part_11, rX11_part_13, rX11_part_16, rX11_part_18, rX11_part_19, rX11_part_20, rX11_part_23, rX11_part_25, rX11_part_27, rX11_part_28, rX11_part_30, rX11_part_32, rX11_part_34, rX11_part_36, rX11_part_38, rX11_part_41, ne_eq, not_false_eq_true, not_true_eq_false, true_and, and_true, and_self, true_imp_iff, false_imp_iff, imp_self, Bool.not_false, Bool.not_true, reduceCtorEq, ab_isJ, ab_psh, ab_cats, Bool.false_eq_true, if_true, if_false, ab_shf, ab_shw, Int.le_refl, Classical.not_not, Int.zero_add, Int.add_zero, forall_const, ↓ab_itT, ↓ab_itF, ab_anT, ab_w32_id, ab_rdf_ne, ab_rdw_ne, ab_rdw_eq, ab_rdf_in, ab_td2, ab_tm2, ab_ifF, ab_ifT]
      rw [st]
      by_cases hr : a % b = 0
      · rw [hr, if_pos rfl, rX11_part_9, ← sp_part_e (X := X) (σ := σ) (Q := Q) (a := b) (b := 0) (i := i + 1) (l10 := ab_J 0) (l11 := ab_R 0) hu hl (by omega) hlo]
        simp (disch := omega) only [rX11_part_11, rX11_part_13, rX11_part_16, rX11_part_18, rX11_part_19, rX11_part_20, ne_eq, not_false_eq_true, not_true_eq_false, true_and, and_true, and_self, true_imp_iff, false_imp_iff, imp_self, Bool.not_false, Bool.not_true, reduceCtorEq, ab_isJ, ab_psh, ab_cats, Bool.false_eq_true, if_true, if_false, ab_shf, ab_shw, Int.le_refl, Classical.not_not, Int.zero_add, Int.add_zero, forall_const, ↓ab_itT, ↓ab_itF, ab_anT, ab_w32_id, ab_rdf_ne, ab_rdw_ne, ab_rdw_eq, ab_rdf_in, ab_td2, ab_tm2, ab_ifF, ab_ifT]
      · rw [if_neg hr]
        have hh := ac_half (b := b) (r := a % b) (by omega) m2
        have m3 := Int.emod_nonneg b hr
        have m4 := Int.emod_lt_of_pos b (show 0 < a % b by omega)
        have hp : (2 : Int) ^ (k + 1) = 2 * 2 ^ k := by rw [Int.pow_succ]; omega
        have key := ih (a % b) (b % (a % b)) (i + 2) (ab_J (b % (a % b))) (ab_R 0) m1 m3 (Or.inl (by omega)) (by omega) (by omega) (by omega) (by omega) (by omega)
        rw [← key, rX11_part_9]
        have e3 : i + 1 + 1 = i + 2 := by omega
        simp (disch := omega) only [rX11_part_11, rX11_part_13, rX11_part_16, rX11_part_18, rX11_part_19, rX11_part_20, rX11_part_23, rX11_part_25, rX11_part_27, rX11_part_28, rX11_part_30, rX11_part_32, rX11_part_34, rX11_part_36, rX11_part_38, rX11_part_41, ne_eq, not_false_eq_true, not_true_eq_false, true_and, and_true, and_self, true_imp_iff, false_imp_iff, imp_self, Bool.not_false, Bool.not_true, reduceCtorEq, ab_isJ, ab_psh, ab_cats, Bool.false_eq_true, if_true, if_false, ab_shf, ab_shw, Int.le_refl, Classical.not_not, Int.zero_add, Int.add_zero, forall_const, ↓ab_itT, ↓ab_itF, ab_anT, ab_w32_id, ab_rdf_ne, ab_rdw_ne, ab_rdw_eq, ab_rdf_in, ab_td2, ab_tm2, ab_ifF, ab_ifT, e3]
theorem sp_part {up low lo : Int} (hu : 0 ≤ up ∧ up < 9223372036854775808) (hl : 0 < low ∧ low < 35184372088832) (hlo : lo = 0 ∨ lo = 1) : ab_Do X 147 [ab_J up, ab_J low, ab_I lo] σ Q ↔ Q (some (ab_J ((if lo = 0 then up else low) / ac_eu 90 up low))) σ := by
  have hp : (2 : Int) ^ 45 = 35184372088832 := by decide
  have := sp_part_l (X := X) (σ := σ) (Q := Q) hu (show 0 < low ∧ low < 9223372036854775808 by omega) hlo 45 up low 0 (ab_R 0) (ab_R 0) hu.1 (by omega) (Or.inr (by omega)) (by omega) (by omega) (by rw [hp]; omega) (by omega) (by omega)
  rw [← this]
  simp (disch := omega) only [do_X11_part, rX11_part_0, rX11_part_1, rX11_part_3, rX11_part_4, rX11_part_6, rX11_part_7, ne_eq, not_false_eq_true, not_true_eq_false, true_and, and_true, and_self, true_imp_iff, false_imp_iff, imp_self, Bool.not_false, Bool.not_true, reduceCtorEq, ab_isJ, ab_psh, ab_cats, Bool.false_eq_true, if_true, if_false, ab_shf, ab_shw, Int.le_refl, Classical.not_not, Int.zero_add, Int.add_zero, forall_const, ↓ab_itT, ↓ab_itF, ab_anT, ab_w32_id, ab_rdf_ne, ab_rdw_ne, ab_rdw_eq, ab_rdf_in, ab_td2, ab_tm2]
theorem sp_common_l : ∀ (k : Nat) (u l a b : Int) (l8 l9 : ab_V), 0 ≤ a → 0 ≤ b → (0 < a ∨ 0 < b) → a < 9223372036854775808 → b < 9223372036854775808 → b < 2 ^ k → (ab_Run X 165 6 (0, 0, 0) [ab_J u, ab_R 0, ab_J l, ab_R 0, ab_J a, ab_R 0, ab_J b, ab_R 0, l8, l9] [] σ Q ↔ Q (some (ab_J (ac_eu (2 * k) a b))) σ) := by
  intro k
  induction k with
  | zero =>
    intro u l a b l8 l9 h1 h2 h3 h4 h5 h6
    have hb : b = 0 := by have : (2 : Int) ^ 0 = 1 := rfl; omega
    subst hb
    have e : ac_eu (2 * 0) a 0 = a := rfl
    rw [e, rX13_common_6]
    simp (disch := omega) only [rX13_common_8, rX13_common_9, rX13_common_10, rX13_common_31, rX13_common_33, ne_eq, not_false_eq_true, not_true_eq_false, true_and, and_true, and_self, true_imp_iff, false_imp_iff, imp_self, Bool.not_false, Bool.not_true, reduceCtorEq, ab_isJ, ab_psh, ab_cats, Bool.false_eq_true, if_true, if_false, ab_shf, ab_shw, Int.le_refl, Classical.not_not, Int.zero_add, Int.add_zero, forall_const, ↓ab_itT, ↓ab_itF, ab_anT, ab_w32_id, ab_rdf_ne, ab_rdw_ne, ab_rdw_eq, ab_rdf_in, ab_td2, ab_tm2, ab_ifF, ab_ifT]
  | succ k ih =>
    intro u l a b l8 l9 h1 h2 h3 h4 h5 h6
    have e2 : 2 * (k + 1) = 2 * k + 1 + 1 := by omega
    rw [e2]
    by_cases hb : b = 0
    · subst hb
      rw [ac_eu, if_pos rfl, rX13_common_6]
      simp (disch := omega) only [rX13_common_8, rX13_common_9, rX13_common_10, rX13_common_31, rX13_common_33, ne_eq, not_false_eq_true, not_true_eq_false, true_and, and_true, and_self, true_imp_iff, false_imp_iff, imp_self, Bool.not_false, Bool.not_true, reduceCtorEq, ab_isJ, ab_psh, ab_cats, Bool.false_eq_true, if_true, if_false, ab_shf, ab_shw, Int.le_refl, Classical.not_not, Int.zero_add, Int.add_zero, forall_const, ↓ab_itT, ↓ab_itF, ab_anT, ab_w32_id, ab_rdf_ne, ab_rdw_ne, ab_rdw_eq, ab_rdf_in, ab_td2, ab_tm2, ab_ifF, ab_ifT]
    · rw [ac_eu, if_neg hb, ac_eu]
      have m1 := Int.emod_nonneg a hb
      have m2 := Int.emod_lt_of_pos a (show 0 < b by omega)
      have st : ab_Run X 165 6 (0, 0, 0) [ab_J u, ab_R 0, ab_J l, ab_R 0, ab_J a, ab_R 0, ab_J b, ab_R 0, l8, l9] [] σ Q ↔ ab_Run X 165 6 (0, 0, 0) [ab_J u, ab_R 0, ab_J l, ab_R 0, ab_J b, ab_R 0, ab_J (a % b), ab_R 0, ab_J (a % b), ab_R 0] [] σ Q := by
        rw [rX13_common_6]
        simp (disch := omega) only [rX13_common_8, rX13_common_9, rX13_common_10, rX13_common_13, rX13_common_15, rX13_common_17, rX13_common_18, rX13_common_20, rX13_common_22, rX13_common_24, rX13_common_26, rX13_common_28, ne_eq, not_false_eq_true, not_true_eq_false, true_and, and_true, and_self, true_imp_iff, false_imp_iff, imp_self, Bool.not_false, Bool.not_true, reduceCtorEq, ab_isJ, ab_psh, ab_cats, Bool.false_eq_true, if_true, if_false, ab_shf, ab_shw, Int.le_refl, Classical.not_not, Int.zero_add, Int.add_zero, forall_const, ↓ab_itT, ↓ab_itF, ab_anT, ab_w32_id, ab_rdf_ne, ab_rdw_ne, ab_rdw_eq, ab_rdf_in, ab_td2, ab_tm2, ab_ifF, ab_ifT]
      rw [st]
      by_cases hr : a % b = 0
      · rw [hr, if_pos rfl, rX13_common_6]
        simp (disch := omega) only [rX13_common_8, rX13_common_9, rX13_common_10, rX13_common_31, rX13_common_33, ne_eq, not_false_eq_true, not_true_eq_false, true_and, and_true, and_self, true_imp_iff, false_imp_iff, imp_self, Bool.not_false, Bool.not_true, reduceCtorEq, ab_isJ, ab_psh, ab_cats, Bool.false_eq_true, if_true, if_false, ab_shf, ab_shw, Int.le_refl, Classical.not_not, Int.zero_add, Int.add_zero, forall_const, ↓ab_itT, ↓ab_itF, ab_anT, ab_w32_id, ab_rdf_ne, ab_rdw_ne, ab_rdw_eq, ab_rdf_in, ab_td2, ab_tm2, ab_ifF, ab_ifT]
      · rw [if_neg hr]
        have hh := ac_half (b := b) (r := a % b) (by omega) m2
        have m3 := Int.emod_nonneg b hr
        have m4 := Int.emod_lt_of_pos b (show 0 < a % b by omega)
        have hp : (2 : Int) ^ (k + 1) = 2 * 2 ^ k := by rw [Int.pow_succ]; omega
        have key := ih u l (a % b) (b % (a % b)) (ab_J (b % (a % b))) (ab_R 0) m1 m3 (Or.inl (by omega)) (by omega) (by omega) (by omega)
        rw [← key, rX13_common_6]
        simp (disch := omega) only [rX13_common_8, rX13_common_9, rX13_common_10, rX13_common_13, rX13_common_15, rX13_common_17, rX13_common_18, rX13_common_20, rX13_common_22, rX13_common_24, rX13_common_26, rX13_common_28, ne_eq, not_false_eq_true, not_true_eq_false, true_and, and_true, and_self, true_imp_iff, false_imp_iff, imp_self, Bool.not_false, Bool.not_true, reduceCtorEq, ab_isJ, ab_psh, ab_cats, Bool.false_eq_true, if_true, if_false, ab_shf, ab_shw, Int.le_refl, Classical.not_not, Int.zero_add, Int.add_zero, forall_const, ↓ab_itT, ↓ab_itF, ab_anT, ab_w32_id, ab_rdf_ne, ab_rdw_ne, ab_rdw_eq, ab_rdf_in, ab_td2, ab_tm2, ab_ifF, ab_ifT]
theorem sp_good {v : Int} (hg : ab_Geo σ) : ab_Do X 161 [ab_R 355, ab_I v] σ Q ↔ Q (some (ab_I v)) (ab_wr (ab_wr σ 355 1 0) 355 2 (-1)) := by
  simp (disch := omega) only [do_X13_good, rX13_good_0, rX13_good_1, rX13_good_2, rX13_good_5, rX13_good_6, rX13_good_7, rX13_good_10, rX13_good_11, gS_355, hg, ne_eq, not_false_eq_true, not_true_eq_false, true_and, and_true, and_self, true_imp_iff, false_imp_iff, imp_self, Bool.not_false, Bool.not_true, reduceCtorEq, ab_isJ, ab_psh, ab_cats, Bool.false_eq_true, if_true, if_false, ab_shf, ab_shw, Int.le_refl, Classical.not_not, Int.zero_add, Int.add_zero, forall_const, ↓ab_itT, ↓ab_itF, ab_anT, ab_w32_id, ab_rdf_ne, ab_rdw_ne, ab_rdw_eq, ab_rdf_in, ab_td2, ab_tm2]
theorem sp_refused {v : Int} (hg : ab_Geo σ) : ab_Do X 159 [ab_R 355, ab_I v] σ Q ↔ Q (some (ab_I (-1))) (ab_wr (ab_wr σ 355 1 v) 355 2 (-1)) := by
  simp (disch := omega) only [do_X13_refused, rX13_refused_0, rX13_refused_1, rX13_refused_2, rX13_refused_5, rX13_refused_6, rX13_refused_7, rX13_refused_10, rX13_refused_11, gS_355, hg, ne_eq, not_false_eq_true, not_true_eq_false, true_and, and_true, and_self, true_imp_iff, false_imp_iff, imp_self, Bool.not_false, Bool.not_true, reduceCtorEq, ab_isJ, ab_psh, ab_cats, Bool.false_eq_true, if_true, if_false, ab_shf, ab_shw, Int.le_refl, Classical.not_not, Int.zero_add, Int.add_zero, forall_const, ↓ab_itT, ↓ab_itF, ab_anT, ab_w32_id, ab_rdf_ne, ab_rdw_ne, ab_rdw_eq, ab_rdf_in, ab_td2, ab_tm2]
theorem sp_denied {v : Int} (hg : ab_Geo σ) : ab_Do X 160 [ab_R 355, ab_I v] σ Q ↔ Q (some (ab_I 0)) (ab_wr (ab_wr σ 355 1 v) 355 2 (-1)) := by
  have c := fun Q' => sp_refused (X := X) (Q := Q') (v := v) hg
  simp (disch := omega) only [do_X13_denied, rX13_denied_0, rX13_denied_1, rX13_denied_2, rX13_denied_5I, rX13_denied_5R, rX13_denied_6, rX13_denied_7, gS_355, hg, c, ne_eq, not_false_eq_true, not_true_eq_false, true_and, and_true, and_self, true_imp_iff, false_imp_iff, imp_self, Bool.not_false, Bool.not_true, reduceCtorEq, ab_isJ, ab_psh, ab_cats, Bool.false_eq_true, if_true, if_false, ab_shf, ab_shw, Int.le_refl, Classical.not_not, Int.zero_add, Int.add_zero, forall_const, ↓ab_itT, ↓ab_itF, ab_anT, ab_w32_id, ab_rdf_ne, ab_rdw_ne, ab_rdw_eq, ab_rdf_in, ab_td2, ab_tm2, true_or]
theorem sp_granted (hg : ab_Geo σ) : ab_Do X 162 [ab_R 355] σ Q ↔ Q (some (ab_I 1)) (ab_wr (ab_wr σ 355 1 0) 355 2 (-1)) := by
  have c := fun Q' => sp_good (X := X) (Q := Q') (v := 0) hg
  simp (disch := omega) only [do_X13_granted, rX13_granted_0, rX13_granted_1, rX13_granted_2, rX13_granted_5I, rX13_granted_5R, rX13_granted_6, rX13_granted_7, gS_355, hg, c, ne_eq, not_false_eq_true, not_true_eq_false, true_and, and_true, and_self, true_imp_iff, false_imp_iff, imp_self, Bool.not_false, Bool.not_true, reduceCtorEq, ab_isJ, ab_psh, ab_cats, Bool.false_eq_true, if_true, if_false, ab_shf, ab_shw, Int.le_refl, Classical.not_not, Int.zero_add, Int.add_zero, forall_const, ↓ab_itT, ↓ab_itF, ab_anT, ab_w32_id, ab_rdf_ne, ab_rdw_ne, ab_rdw_eq, ab_rdf_in, ab_td2, ab_tm2, or_true]
theorem sp_fraction {up low lo : Int} (hg : ab_Geo σ) (hu : 0 ≤ up ∧ up < 9223372036854775808) (hl : 0 < low ∧ low < 35184372088832) (hlo : lo = 0 ∨ lo = 1) : ab_Do X 166 [ab_R 355, ab_J up, ab_J low, ab_I lo] σ Q ↔ Q (some (ab_J ((if lo = 0 then up else low) / ac_eu 90 up low))) (ab_wr (ab_wr σ 355 1 0) 355 2 (-1)) := by
  have c := fun Q' => sp_good (X := X) (Q := Q') (v := 0) hg
  have hp : (2 : Int) ^ 45 = 35184372088832 := by decide
  have c2 : ∀ τ Q', ab_Do X 165 [ab_J up, ab_J low] τ Q' ↔ Q' (some (ab_J (ac_eu 90 up low))) τ := fun τ Q' => by
    rw [← sp_common_l (X := X) (σ := τ) (Q := Q') 45 up low up low (ab_R 0) (ab_R 0) hu.1 (by omega) (Or.inr (by omega)) hu.2 (by omega) (by omega)]
    simp (disch := omega) only [do_X13_common, rX13_common_0, rX13_common_1, rX13_common_3, rX13_common_4, ne_eq, not_false_eq_true, not_true_eq_false, true_and, and_true, and_self, true_imp_iff, false_imp_iff, imp_self, Bool.not_false, Bool.not_true, reduceCtorEq, ab_isJ, ab_psh, ab_cats, Bool.false_eq_true, if_true, if_false, ab_shf, ab_shw, Int.le_refl, Classical.not_not, Int.zero_add, Int.add_zero, forall_const, ↓ab_itT, ↓ab_itF, ab_anT, ab_w32_id, ab_rdf_ne, ab_rdw_ne, ab_rdw_eq, ab_rdf_in, ab_td2, ab_tm2]
  have eb := ac_eu_b 90 up low hu.1 (by omega) (Or.inr (by omega)) hu.2 (by omega)
  have e0 : 0 < ac_eu 90 up low := by rcases eb.1 with q | ⟨q, -⟩; exact q; omega
  have d1 : 0 ≤ up / ac_eu 90 up low ∧ up / ac_eu 90 up low ≤ up := ⟨Int.ediv_nonneg hu.1 (by omega), Int.ediv_le_self _ hu.1⟩
  have d2 : 0 ≤ low / ac_eu 90 up low ∧ low / ac_eu 90 up low ≤ low := ⟨Int.ediv_nonneg (by omega) (by omega), Int.ediv_le_self _ (by omega)⟩
  rcases hlo with rfl | rfl
  · simp (disch := omega) only [do_X13_fraction, rX13_fraction_0, rX13_fraction_1, rX13_fraction_2, rX13_fraction_5I, rX13_fraction_5R, rX13_fraction_6, rX13_fraction_8, rX13_fraction_11, rX13_fraction_12, rX13_fraction_15, rX13_fraction_16, rX13_fraction_17, rX13_fraction_18, rX13_fraction_21, rX13_fraction_22, gS_355, hg, c, c2, ne_eq, not_false_eq_true, not_true_eq_false, true_and, and_true, and_self, true_imp_iff, false_imp_iff, imp_self, Bool.not_false, Bool.not_true, reduceCtorEq, ab_isJ, ab_psh, ab_cats, Bool.false_eq_true, if_true, if_false, ab_shf, ab_shw, Int.le_refl, Classical.not_not, Int.zero_add, Int.add_zero, forall_const, ↓ab_itT, ↓ab_itF, ab_anT, ab_w32_id, ab_rdf_ne, ab_rdw_ne, ab_rdw_eq, ab_rdf_in, ab_td2, ab_tm2, ab_ifT, ab_w64_id]
  · simp (disch := omega) only [do_X13_fraction, rX13_fraction_0, rX13_fraction_1, rX13_fraction_2, rX13_fraction_5I, rX13_fraction_5R, rX13_fraction_6, rX13_fraction_8, rX13_fraction_11, rX13_fraction_12, rX13_fraction_15, rX13_fraction_16, rX13_fraction_17, rX13_fraction_18, rX13_fraction_21, rX13_fraction_22, gS_355, hg, c, c2, ne_eq, not_false_eq_true, not_true_eq_false, true_and, and_true, and_self, true_imp_iff, false_imp_iff, imp_self, Bool.not_false, Bool.not_true, reduceCtorEq, ab_isJ, ab_psh, ab_cats, Bool.false_eq_true, if_true, if_false, ab_shf, ab_shw, Int.le_refl, Classical.not_not, Int.zero_add, Int.add_zero, forall_const, ↓ab_itT, ↓ab_itF, ab_anT, ab_w32_id, ab_rdf_ne, ab_rdw_ne, ab_rdw_eq, ab_rdf_in, ab_td2, ab_tm2, ab_ifT, ab_ifF, ab_w64_id]
end
