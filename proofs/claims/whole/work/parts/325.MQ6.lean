/-! THE REFERENCE: what may be asked; pulled, breaksAt, flawed, strain, strength -/
section
variable {X : ab_X} {σ τ : ab_S} {Q : Option ab_V → ab_S → Prop} {M : Int} {κ : ac_K} {v : Int → Int} {kd d b p hp q hq mv fa ft arm k x : Int}
/-- the reference with a kitchen or none -/
def ac_MN (σ : ab_S) (κ : ac_K) : Prop := ab_Geo σ ∧ ((ab_rd σ 355 3 = 0 ∧ κ = fun _ _ => 0) ∨ ∃ M, ac_MI σ M κ)
def ac_MV (σ : ab_S) (κ : ac_K) (v : Int → Int) : Prop := (∀ k, 0 ≤ k → k < 18 → ab_rd σ 357 k = v k) ∧ ac_VB κ v
theorem ac_MN.same (h : ac_MN σ κ) (hs : ab_Same ac_PM σ τ) : ac_MN τ κ := by
  obtain ⟨h1, h2⟩ := h
  refine ⟨h1.same hs ac_PM_pt, ?_⟩
  rcases h2 with ⟨h2, h3⟩ | ⟨M, h2⟩
  · exact Or.inl ⟨by rw [hs.2.2 355 3 (by unfold ac_PM; omega), h2], h3⟩
  · exact Or.inr ⟨M, h2.same hs⟩
theorem ac_MV.same (h : ac_MV σ κ v) (hs : ab_Same ac_PM σ τ) : ac_MV τ κ v := ⟨fun k h1 h2 => by rw [hs.2.2 357 k (by unfold ac_PM; omega), h.1 k h1 h2], h.2⟩
theorem ac_MN.mi (h : ac_MN σ κ) (hb : 0 < κ 5 0) : ∃ M, ac_MI σ M κ := by
  rcases h.2 with ⟨-, h3⟩ | h2
  · subst h3
    exact absurd hb (by decide)
  · exact h2
theorem ac_MN.mb (h : ac_MN σ κ) (hb : ac_isB κ b) : ∃ M, ac_MI σ M κ := h.mi (by omega)
theorem ac_MN.mp (h : ac_MN σ κ) (hb : ac_isP κ p) : ∃ M, ac_MI σ M κ := by
  rcases h.2 with ⟨-, h3⟩ | h2
  · subst h3
    exact absurd (Int.lt_of_le_of_lt hb.1 hb.2) (by decide)
  · exact h2
theorem mq_isBone (h : ac_MN σ κ) : ab_Do X 212 [ab_R 355, ab_I b] σ Q ↔ Q (some (ab_I (if ac_isB κ b then 1 else 0))) σ := by
  obtain ⟨hg, ⟨h3, rfl⟩ | ⟨M, -, h3, hG, hM, hK⟩⟩ := h
  · rw [if_neg (fun w => absurd (Int.lt_of_le_of_lt w.1 w.2) (by decide))]
    simp (disch := omega) only [do_X13_isBone, rX13_isBone_0, rX13_isBone_1, rX13_isBone_4, rX13_isBone_7, rX13_isBone_8, rX13_isBone_11, rX13_isBone_12, rX13_isBone_13, rX13_isBone_16, rX13_isBone_19, rX13_isBone_22, rX13_isBone_23, rX13_isBone_26, rX13_isBone_27, gS_355, hg, h3, ne_eq, not_false_eq_true, not_true_eq_false, true_and, and_true, and_self, true_imp_iff, false_imp_iff, imp_self, Bool.not_false, Bool.not_true, reduceCtorEq, ab_isJ, ab_psh, ab_cats, Bool.false_eq_true, if_true, if_false, ab_shf, ab_shw, Int.le_refl, Classical.not_not, Int.zero_add, forall_const, ↓ab_itT, ↓ab_itF, ab_anT, ab_w32_id, ab_rdf_ne, ab_rdw_ne, ab_rdw_eq, ab_rdf_in, ab_td2, ab_tm2, true_or]
  · have z := hG.1
    have sM := hG.2.1
    have e := kM_5 hM
    by_cases h1 : 0 ≤ b
    · by_cases h2 : b < κ 5 0
      · rw [if_pos ⟨h1, h2⟩]
        simp (disch := omega) only [do_X13_isBone, rX13_isBone_0, rX13_isBone_1, rX13_isBone_4, rX13_isBone_7, rX13_isBone_8, rX13_isBone_11, rX13_isBone_12, rX13_isBone_13, rX13_isBone_16, rX13_isBone_19, rX13_isBone_22, rX13_isBone_23, rX13_isBone_26, rX13_isBone_27, gS_355, hg, h3, sM, e, ne_eq, not_false_eq_true, not_true_eq_false, true_and, and_true, and_self, true_imp_iff, false_imp_iff, imp_self, Bool.not_false, Bool.not_true, reduceCtorEq, ab_isJ, ab_psh, ab_cats, Bool.false_eq_true, if_true, if_false, ab_shf, ab_shw, Int.le_refl, Classical.not_not, Int.zero_add, forall_const, ↓ab_itT, ↓ab_itF, ab_anT, ab_w32_id, ab_rdf_ne, ab_rdw_ne, ab_rdw_eq, ab_rdf_in, ab_td2, ab_tm2, or_true]
      · rw [if_neg (by omega)]
        simp (disch := omega) only [do_X13_isBone, rX13_isBone_0, rX13_isBone_1, rX13_isBone_4, rX13_isBone_7, rX13_isBone_8, rX13_isBone_11, rX13_isBone_12, rX13_isBone_13, rX13_isBone_16, rX13_isBone_19, rX13_isBone_22, rX13_isBone_23, rX13_isBone_26, rX13_isBone_27, gS_355, hg, h3, sM, e, ne_eq, not_false_eq_true, not_true_eq_false, true_and, and_true, and_self, true_imp_iff, false_imp_iff, imp_self, Bool.not_false, Bool.not_true, reduceCtorEq, ab_isJ, ab_psh, ab_cats, Bool.false_eq_true, if_true, if_false, ab_shf, ab_shw, Int.le_refl, Classical.not_not, Int.zero_add, forall_const, ↓ab_itT, ↓ab_itF, ab_anT, ab_w32_id, ab_rdf_ne, ab_rdw_ne, ab_rdw_eq, ab_rdf_in, ab_td2, ab_tm2, true_or]
    · rw [if_neg (by omega)]
      simp (disch := omega) only [do_X13_isBone, rX13_isBone_0, rX13_isBone_1, rX13_isBone_4, rX13_isBone_7, rX13_isBone_8, rX13_isBone_11, rX13_isBone_12, rX13_isBone_13, rX13_isBone_16, rX13_isBone_19, rX13_isBone_22, rX13_isBone_23, rX13_isBone_26, rX13_isBone_27, gS_355, hg, h3, sM, e, ne_eq, not_false_eq_true, not_true_eq_false, true_and, and_true, and_self, true_imp_iff, false_imp_iff, imp_self, Bool.not_false, Bool.not_true, reduceCtorEq, ab_isJ, ab_psh, ab_cats, Bool.false_eq_true, if_true, if_false, ab_shf, ab_shw, Int.le_refl, Classical.not_not, Int.zero_add, forall_const, ↓ab_itT, ↓ab_itF, ab_anT, ab_w32_id, ab_rdf_ne, ab_rdw_ne, ab_rdw_eq, ab_rdf_in, ab_td2, ab_tm2, true_or]
theorem mq_isPerson (h : ac_MN σ κ) : ab_Do X 213 [ab_R 355, ab_I b] σ Q ↔ Q (some (ab_I (if ac_isP κ b then 1 else 0))) σ := by
  obtain ⟨hg, ⟨h3, rfl⟩ | ⟨M, -, h3, hG, hM, hK⟩⟩ := h
  · rw [if_neg (fun w => absurd (Int.lt_of_le_of_lt w.1 w.2) (by decide))]
    simp (disch := omega) only [do_X13_isPerson, rX13_isPerson_0, rX13_isPerson_1, rX13_isPerson_4, rX13_isPerson_7, rX13_isPerson_8, rX13_isPerson_11, rX13_isPerson_12, rX13_isPerson_13, rX13_isPerson_16, rX13_isPerson_19, rX13_isPerson_22, rX13_isPerson_23, rX13_isPerson_26, rX13_isPerson_27, gS_355, hg, h3, ne_eq, not_false_eq_true, not_true_eq_false, true_and, and_true, and_self, true_imp_iff, false_imp_iff, imp_self, Bool.not_false, Bool.not_true, reduceCtorEq, ab_isJ, ab_psh, ab_cats, Bool.false_eq_true, if_true, if_false, ab_shf, ab_shw, Int.le_refl, Classical.not_not, Int.zero_add, forall_const, ↓ab_itT, ↓ab_itF, ab_anT, ab_w32_id, ab_rdf_ne, ab_rdw_ne, ab_rdw_eq, ab_rdf_in, ab_td2, ab_tm2, true_or]
  · have z := hG.1
    have sM := hG.2.1
    have e := kM_6 hM
    by_cases h1 : 0 ≤ b
    · by_cases h2 : b < κ 6 0
      · rw [if_pos ⟨h1, h2⟩]
        simp (disch := omega) only [do_X13_isPerson, rX13_isPerson_0, rX13_isPerson_1, rX13_isPerson_4, rX13_isPerson_7, rX13_isPerson_8, rX13_isPerson_11, rX13_isPerson_12, rX13_isPerson_13, rX13_isPerson_16, rX13_isPerson_19, rX13_isPerson_22, rX13_isPerson_23, rX13_isPerson_26, rX13_isPerson_27, gS_355, hg, h3, sM, e, ne_eq, not_false_eq_true, not_true_eq_false, true_and, and_true, and_self, true_imp_iff, false_imp_iff, imp_self, Bool.not_false, Bool.not_true, reduceCtorEq, ab_isJ, ab_psh, ab_cats, Bool.false_eq_true, if_true, if_false, ab_shf, ab_shw, Int.le_refl, Classical.not_not, Int.zero_add, forall_const, ↓ab_itT, ↓ab_itF, ab_anT, ab_w32_id, ab_rdf_ne, ab_rdw_ne, ab_rdw_eq, ab_rdf_in, ab_td2, ab_tm2, or_true]
      · rw [if_neg (by omega)]
        simp (disch := omega) only [do_X13_isPerson, rX13_isPerson_0, rX13_isPerson_1, rX13_isPerson_4, rX13_isPerson_7, rX13_isPerson_8, rX13_isPerson_11, rX13_isPerson_12, rX13_isPerson_13, rX13_isPerson_16, rX13_isPerson_19, rX13_isPerson_22, rX13_isPerson_23, rX13_isPerson_26, rX13_isPerson_27, gS_355, hg, h3, sM, e, ne_eq, not_false_eq_true, not_true_eq_false, true_and, and_true, and_self, true_imp_iff, false_imp_iff, imp_self, Bool.not_false, Bool.not_true, reduceCtorEq, ab_isJ, ab_psh, ab_cats, Bool.false_eq_true, if_true, if_false, ab_shf, ab_shw, Int.le_refl, Classical.not_not, Int.zero_add, forall_const, ↓ab_itT, ↓ab_itF, ab_anT, ab_w32_id, ab_rdf_ne, ab_rdw_ne, ab_rdw_eq, ab_rdf_in, ab_td2, ab_tm2, true_or]
    · rw [if_neg (by omega)]
      simp (disch := omega) only [do_X13_isPerson, rX13_isPerson_0, rX13_isPerson_1, rX13_isPerson_4, rX13_isPerson_7, rX13_isPerson_8, rX13_isPerson_11, rX13_isPerson_12, rX13_isPerson_13, rX13_isPerson_16, rX13_isPerson_19, rX13_isPerson_22, rX13_isPerson_23, rX13_isPerson_26, rX13_isPerson_27, gS_355, hg, h3, sM, e, ne_eq, not_false_eq_true, not_true_eq_false, true_and, and_true, and_self, true_imp_iff, false_imp_iff, imp_self, Bool.not_false, Bool.not_true, reduceCtorEq, ab_isJ, ab_psh, ab_cats, Bool.false_eq_true, if_true, if_false, ab_shf, ab_shw, Int.le_refl, Classical.not_not, Int.zero_add, forall_const, ↓ab_itT, ↓ab_itF, ab_anT, ab_w32_id, ab_rdf_ne, ab_rdw_ne, ab_rdw_eq, ab_rdf_in, ab_td2, ab_tm2, true_or]
theorem mq_isPiece (h : ac_MN σ κ) : ab_Do X 268 [ab_R 355, ab_I b] σ Q ↔ Q (some (ab_I (if 0 ≤ b ∧ b < κ 9 0 then 1 else 0))) σ := by
  obtain ⟨hg, ⟨h3, rfl⟩ | ⟨M, -, h3, hG, hM, hK⟩⟩ := h
  · rw [if_neg (fun w => absurd (Int.lt_of_le_of_lt w.1 w.2) (by decide))]
    simp (disch := omega) only [do_X13_isPiece, rX13_isPiece_0, rX13_isPiece_1, rX13_isPiece_4, rX13_isPiece_7, rX13_isPiece_8, rX13_isPiece_11, rX13_isPiece_12, rX13_isPiece_13, rX13_isPiece_16, rX13_isPiece_19, rX13_isPiece_22, rX13_isPiece_23, rX13_isPiece_26, rX13_isPiece_27, gS_355, hg, h3, ne_eq, not_false_eq_true, not_true_eq_false, true_and, and_true, and_self, true_imp_iff, false_imp_iff, imp_self, Bool.not_false, Bool.not_true, reduceCtorEq, ab_isJ, ab_psh, ab_cats, Bool.false_eq_true, if_true, if_false, ab_shf, ab_shw, Int.le_refl, Classical.not_not, Int.zero_add, forall_const, ↓ab_itT, ↓ab_itF, ab_anT, ab_w32_id, ab_rdf_ne, ab_rdw_ne, ab_rdw_eq, ab_rdf_in, ab_td2, ab_tm2, true_or]
  · have z := hG.1
    have sM := hG.2.1
    have e := kM_9 hM
    by_cases h1 : 0 ≤ b
    · by_cases h2 : b < κ 9 0
      · rw [if_pos ⟨h1, h2⟩]
        simp (disch := omega) only [do_X13_isPiece, rX13_isPiece_0, rX13_isPiece_1, rX13_isPiece_4, rX13_isPiece_7, rX13_isPiece_8, rX13_isPiece_11, rX13_isPiece_12, rX13_isPiece_13, rX13_isPiece_16, rX13_isPiece_19, rX13_isPiece_22, rX13_isPiece_23, rX13_isPiece_26, rX13_isPiece_27, gS_355, hg, h3, sM, e, ne_eq, not_false_eq_true, not_true_eq_false, true_and, and_true, and_self, true_imp_iff, false_imp_iff, imp_self, Bool.not_false, Bool.not_true, reduceCtorEq, ab_isJ, ab_psh, ab_cats, Bool.false_eq_true, if_true, if_false, ab_shf, ab_shw, Int.le_refl, Classical.not_not, Int.zero_add, forall_const, ↓ab_itT, ↓ab_itF, ab_anT, ab_w32_id, ab_rdf_ne, ab_rdw_ne, ab_rdw_eq, ab_rdf_in, ab_td2, ab_tm2, or_true]
      · rw [if_neg (by omega)]
        simp (disch := omega) only [do_X13_isPiece, rX13_isPiece_0, rX13_isPiece_1, rX13_isPiece_4, rX13_isPiece_7, rX13_isPiece_8, rX13_isPiece_11, rX13_isPiece_12, rX13_isPiece_13, rX13_isPiece_16, rX13_isPiece_19, rX13_isPiece_22, rX13_isPiece_23, rX13_isPiece_26, rX13_isPiece_27, gS_355, hg, h3, sM, e, ne_eq, not_false_eq_true, not_true_eq_false, true_and, and_true, and_self, true_imp_iff, false_imp_iff, imp_self, Bool.not_false, Bool.not_true, reduceCtorEq, ab_isJ, ab_psh, ab_cats, Bool.false_eq_true, if_true, if_false, ab_shf, ab_shw, Int.le_refl, Classical.not_not, Int.zero_add, forall_const, ↓ab_itT, ↓ab_itF, ab_anT, ab_w32_id, ab_rdf_ne, ab_rdw_ne, ab_rdw_eq, ab_rdf_in, ab_td2, ab_tm2, true_or]
    · rw [if_neg (by omega)]
      simp (disch := omega) only [do_X13_isPiece, rX13_isPiece_0, rX13_isPiece_1, rX13_isPiece_4, rX13_isPiece_7, rX13_isPiece_8, rX13_isPiece_11, rX13_isPiece_12, rX13_isPiece_13, rX13_isPiece_16, rX13_isPiece_19, rX13_isPiece_22, rX13_isPiece_23, rX13_isPiece_26, rX13_isPiece_27, gS_355, hg, h3, sM, e, ne_eq, not_false_eq_true, not_true_eq_false, true_and, and_true, and_self, true_imp_iff, false_imp_iff, imp_self, Bool.not_false, Bool.not_true, reduceCtorEq, ab_isJ, ab_psh, ab_cats, Bool.false_eq_true, if_true, if_false, ab_shf, ab_shw, Int.le_refl, Classical.not_not, Int.zero_add, forall_const, ↓ab_itT, ↓ab_itF, ab_anT, ab_w32_id, ab_rdf_ne, ab_rdw_ne, ab_rdw_eq, ab_rdf_in, ab_td2, ab_tm2, true_or]
theorem mq_in {lo hi : Int} : ab_Do X 163 [ab_I x, ab_I lo, ab_I hi] σ Q ↔ Q (some (ab_I (if lo ≤ x ∧ x ≤ hi then 1 else 0))) σ := by
  by_cases h1 : lo ≤ x
  · by_cases h2 : x ≤ hi
    · rw [if_pos ⟨h1, h2⟩]
      simp (disch := omega) only [do_X13_in, rX13_in_0, rX13_in_1, rX13_in_2, rX13_in_5, rX13_in_6, rX13_in_7, rX13_in_10, rX13_in_11, rX13_in_14, rX13_in_15, ne_eq, not_false_eq_true, not_true_eq_false, true_and, and_true, and_self, true_imp_iff, false_imp_iff, imp_self, Bool.not_false, Bool.not_true, reduceCtorEq, ab_isJ, ab_psh, ab_cats, Bool.false_eq_true, if_true, if_false, ab_shf, ab_shw, Int.le_refl, Classical.not_not, Int.zero_add, forall_const, ↓ab_itT, ↓ab_itF, ab_anT, ab_w32_id, ab_rdf_ne, ab_rdw_ne, ab_rdw_eq, ab_rdf_in, ab_td2, ab_tm2, or_true]
    · rw [if_neg (by omega)]
      simp (disch := omega) only [do_X13_in, rX13_in_0, rX13_in_1, rX13_in_2, rX13_in_5, rX13_in_6, rX13_in_7, rX13_in_10, rX13_in_11, rX13_in_14, rX13_in_15, ne_eq, not_false_eq_true, not_true_eq_false, true_and, and_true, and_self, true_imp_iff, false_imp_iff, imp_self, Bool.not_false, Bool.not_true, reduceCtorEq, ab_isJ, ab_psh, ab_cats, Bool.false_eq_true, if_true, if_false, ab_shf, ab_shw, Int.le_refl, Classical.not_not, Int.zero_add, forall_const, ↓ab_itT, ↓ab_itF, ab_anT, ab_w32_id, ab_rdf_ne, ab_rdw_ne, ab_rdw_eq, ab_rdf_in, ab_td2, ab_tm2, true_or]
  · rw [if_neg (by omega)]
    simp (disch := omega) only [do_X13_in, rX13_in_0, rX13_in_1, rX13_in_2, rX13_in_5, rX13_in_6, rX13_in_7, rX13_in_10, rX13_in_11, rX13_in_14, rX13_in_15, ne_eq, not_false_eq_true, not_true_eq_false, true_and, and_true, and_self, true_imp_iff, false_imp_iff, imp_self, Bool.not_false, Bool.not_true, reduceCtorEq, ab_isJ, ab_psh, ab_cats, Bool.false_eq_true, if_true, if_false, ab_shf, ab_shw, Int.le_refl, Classical.not_not, Int.zero_add, forall_const, ↓ab_itT, ↓ab_itF, ab_anT, ab_w32_id, ab_rdf_ne, ab_rdw_ne, ab_rdw_eq, ab_rdf_in, ab_td2, ab_tm2, true_or]
theorem mq_isPair (h : ac_MN σ κ) : ab_Do X 214 [ab_R 355, ab_I p, ab_I q] σ Q ↔ Q (some (ab_I (if ac_isU κ p q then 1 else 0))) σ := by
  have c := fun b Q' => mq_isPerson (X := X) (Q := Q') (b := b) h
  have hg := h.1
  by_cases h1 : ac_isP κ p
  · by_cases h2 : ac_isP κ q
    · by_cases h3 : p = q
      · rw [if_neg (fun w => w.2.2 h3)]
        simp (disch := omega) only [do_X13_isPair, rX13_isPair_0, rX13_isPair_1, rX13_isPair_2, rX13_isPair_5, rX13_isPair_8, rX13_isPair_9, rX13_isPair_10, rX13_isPair_13, rX13_isPair_16, rX13_isPair_17, rX13_isPair_18, rX13_isPair_21, rX13_isPair_22, rX13_isPair_25, rX13_isPair_26, gS_355, hg, c, if_pos h1, if_pos h2, ne_eq, not_false_eq_true, not_true_eq_false, true_and, and_true, and_self, true_imp_iff, false_imp_iff, imp_self, Bool.not_false, Bool.not_true, reduceCtorEq, ab_isJ, ab_psh, ab_cats, Bool.false_eq_true, if_true, if_false, ab_shf, ab_shw, Int.le_refl, Classical.not_not, Int.zero_add, forall_const, ↓ab_itT, ↓ab_itF, ab_anT, ab_w32_id, ab_rdf_ne, ab_rdw_ne, ab_rdw_eq, ab_rdf_in, ab_td2, ab_tm2, true_or]
      · rw [if_pos ⟨h1, h2, h3⟩]
        simp (disch := omega) only [do_X13_isPair, rX13_isPair_0, rX13_isPair_1, rX13_isPair_2, rX13_isPair_5, rX13_isPair_8, rX13_isPair_9, rX13_isPair_10, rX13_isPair_13, rX13_isPair_16, rX13_isPair_17, rX13_isPair_18, rX13_isPair_21, rX13_isPair_22, rX13_isPair_25, rX13_isPair_26, gS_355, hg, c, if_pos h1, if_pos h2, ne_eq, not_false_eq_true, not_true_eq_false, true_and, and_true, and_self, true_imp_iff, false_imp_iff, imp_self, Bool.not_false, Bool.not_true, reduceCtorEq, ab_isJ, ab_psh, ab_cats, Bool.false_eq_true, if_true, if_false, ab_shf, ab_shw, Int.le_refl, Classical.not_not, Int.zero_add, forall_const, ↓ab_itT, ↓ab_itF, ab_anT, ab_w32_id, ab_rdf_ne, ab_rdw_ne, ab_rdw_eq, ab_rdf_in, ab_td2, ab_tm2, or_true]
    · rw [if_neg (fun w => h2 w.2.1)]
      simp (disch := omega) only [do_X13_isPair, rX13_isPair_0, rX13_isPair_1, rX13_isPair_2, rX13_isPair_5, rX13_isPair_8, rX13_isPair_9, rX13_isPair_10, rX13_isPair_13, rX13_isPair_16, rX13_isPair_17, rX13_isPair_18, rX13_isPair_21, rX13_isPair_22, rX13_isPair_25, rX13_isPair_26, gS_355, hg, c, if_pos h1, if_neg h2, ne_eq, not_false_eq_true, not_true_eq_false, true_and, and_true, and_self, true_imp_iff, false_imp_iff, imp_self, Bool.not_false, Bool.not_true, reduceCtorEq, ab_isJ, ab_psh, ab_cats, Bool.false_eq_true, if_true, if_false, ab_shf, ab_shw, Int.le_refl, Classical.not_not, Int.zero_add, forall_const, ↓ab_itT, ↓ab_itF, ab_anT, ab_w32_id, ab_rdf_ne, ab_rdw_ne, ab_rdw_eq, ab_rdf_in, ab_td2, ab_tm2, true_or]
  · rw [if_neg (fun w => h1 w.1)]
    simp (disch := omega) only [do_X13_isPair, rX13_isPair_0, rX13_isPair_1, rX13_isPair_2, rX13_isPair_5, rX13_isPair_8, rX13_isPair_9, rX13_isPair_10, rX13_isPair_13, rX13_isPair_16, rX13_isPair_17, rX13_isPair_18, rX13_isPair_21, rX13_isPair_22, rX13_isPair_25, rX13_isPair_26, gS_355, hg, c, if_neg h1, ne_eq, not_false_eq_true, not_true_eq_false, true_and, and_true, and_self, true_imp_iff, false_imp_iff, imp_self, Bool.not_false, Bool.not_true, reduceCtorEq, ab_isJ, ab_psh, ab_cats, Bool.false_eq_true, if_true, if_false, ab_shf, ab_shw, Int.le_refl, Classical.not_not, Int.zero_add, forall_const, ↓ab_itT, ↓ab_itF, ab_anT, ab_w32_id, ab_rdf_ne, ab_rdw_ne, ab_rdw_eq, ab_rdf_in, ab_td2, ab_tm2, true_or]
theorem mq_isPlace (h : ac_MN σ κ) : ab_Do X 215 [ab_R 355, ab_I b, ab_I arm, ab_I k] σ Q ↔ Q (some (ab_I (if ac_isL κ b arm k then 1 else 0))) σ := by
  have c := fun b Q' => mq_isBone (X := X) (Q := Q') (b := b) h
  have c1 := fun x lo hi Q' => mq_in (X := X) (σ := σ) (Q := Q') (x := x) (lo := lo) (hi := hi)
  have hg := h.1
  by_cases hb : ac_isB κ b
  · obtain ⟨M, hm⟩ := h.mb hb
    have h3 := hm.2.1
    have sM := hm.2.2.1.2.1
    have zM := hm.2.2.1.1
    by_cases ha : arm = 0 ∨ arm = 1
    · have c2 := fun Q' => mq_many (X := X) (Q := Q') hm hb ha
      by_cases h1 : 0 ≤ k
      · by_cases h2 : k < κ 14 (2 * b + arm)
        · rw [if_pos ⟨hb, ha, h1, h2⟩]
          simp (disch := omega) only [do_X13_isPlace, rX13_isPlace_0, rX13_isPlace_1, rX13_isPlace_2, rX13_isPlace_5, rX13_isPlace_8, rX13_isPlace_9, rX13_isPlace_10, rX13_isPlace_11, rX13_isPlace_14, rX13_isPlace_17, rX13_isPlace_18, rX13_isPlace_21, rX13_isPlace_22, rX13_isPlace_23, rX13_isPlace_26, rX13_isPlace_27, rX13_isPlace_28, rX13_isPlace_31, rX13_isPlace_34, rX13_isPlace_35, rX13_isPlace_38, rX13_isPlace_39, gS_355, hg, h3, sM, c, c1, c2, if_pos hb, ab_ifT, ab_ifF, ne_eq, not_false_eq_true, not_true_eq_false, true_and, and_true, and_self, true_imp_iff, false_imp_iff, imp_self, Bool.not_false, Bool.not_true, reduceCtorEq, ab_isJ, ab_psh, ab_cats, Bool.false_eq_true, if_true, if_false, ab_shf, ab_shw, Int.le_refl, Classical.not_not, Int.zero_add, forall_const, ↓ab_itT, ↓ab_itF, ab_anT, ab_w32_id, ab_rdf_ne, ab_rdw_ne, ab_rdw_eq, ab_rdf_in, ab_td2, ab_tm2, or_true]
        · rw [if_neg (fun w => h2 w.2.2.2)]
          simp (disch := omega) only [do_X13_isPlace, rX13_isPlace_0, rX13_isPlace_1, rX13_isPlace_2, rX13_isPlace_5, rX13_isPlace_8, rX13_isPlace_9, rX13_isPlace_10, rX13_isPlace_11, rX13_isPlace_14, rX13_isPlace_17, rX13_isPlace_18, rX13_isPlace_21, rX13_isPlace_22, rX13_isPlace_23, rX13_isPlace_26, rX13_isPlace_27, rX13_isPlace_28, rX13_isPlace_31, rX13_isPlace_34, rX13_isPlace_35, rX13_isPlace_38, rX13_isPlace_39, gS_355, hg, h3, sM, c, c1, c2, if_pos hb, ab_ifT, ab_ifF, ne_eq, not_false_eq_true, not_true_eq_false, true_and, and_true, and_self, true_imp_iff, false_imp_iff, imp_self, Bool.not_false, Bool.not_true, reduceCtorEq, ab_isJ, ab_psh, ab_cats, Bool.false_eq_true, if_true, if_false, ab_shf, ab_shw, Int.le_refl, Classical.not_not, Int.zero_add, forall_const, ↓ab_itT, ↓ab_itF, ab_anT, ab_w32_id, ab_rdf_ne, ab_rdw_ne, ab_rdw_eq, ab_rdf_in, ab_td2, ab_tm2, true_or]
      · rw [if_neg (fun w => h1 w.2.2.1)]
        simp (disch := omega) only [do_X13_isPlace, rX13_isPlace_0, rX13_isPlace_1, rX13_isPlace_2, rX13_isPlace_5, rX13_isPlace_8, rX13_isPlace_9, rX13_isPlace_10, rX13_isPlace_11, rX13_isPlace_14, rX13_isPlace_17, rX13_isPlace_18, rX13_isPlace_21, rX13_isPlace_22, rX13_isPlace_23, rX13_isPlace_26, rX13_isPlace_27, rX13_isPlace_28, rX13_isPlace_31, rX13_isPlace_34, rX13_isPlace_35, rX13_isPlace_38, rX13_isPlace_39, gS_355, hg, h3, sM, c, c1, c2, if_pos hb, ab_ifT, ab_ifF, ne_eq, not_false_eq_true, not_true_eq_false, true_and, and_true, and_self, true_imp_iff, false_imp_iff, imp_self, Bool.not_false, Bool.not_true, reduceCtorEq, ab_isJ, ab_psh, ab_cats, Bool.false_eq_true, if_true, if_false, ab_shf, ab_shw, Int.le_refl, Classical.not_not, Int.zero_add, forall_const, ↓ab_itT, ↓ab_itF, ab_anT, ab_w32_id, ab_rdf_ne, ab_rdw_ne, ab_rdw_eq, ab_rdf_in, ab_td2, ab_tm2, true_or]
    · rw [if_neg (fun w => ha w.2.1)]
      simp (disch := omega) only [do_X13_isPlace, rX13_isPlace_0, rX13_isPlace_1, rX13_isPlace_2, rX13_isPlace_5, rX13_isPlace_8, rX13_isPlace_9, rX13_isPlace_10, rX13_isPlace_11, rX13_isPlace_14, rX13_isPlace_17, rX13_isPlace_18, rX13_isPlace_21, rX13_isPlace_22, rX13_isPlace_23, rX13_isPlace_26, rX13_isPlace_27, rX13_isPlace_28, rX13_isPlace_31, rX13_isPlace_34, rX13_isPlace_35, rX13_isPlace_38, rX13_isPlace_39, gS_355, hg, h3, sM, c, c1, if_pos hb, ab_ifT, ab_ifF, ne_eq, not_false_eq_true, not_true_eq_false, true_and, and_true, and_self, true_imp_iff, false_imp_iff, imp_self, Bool.not_false, Bool.not_true, reduceCtorEq, ab_isJ, ab_psh, ab_cats, Bool.false_eq_true, if_true, if_false, ab_shf, ab_shw, Int.le_refl, Classical.not_not, Int.zero_add, forall_const, ↓ab_itT, ↓ab_itF, ab_anT, ab_w32_id, ab_rdf_ne, ab_rdw_ne, ab_rdw_eq, ab_rdf_in, ab_td2, ab_tm2, true_or]
  · rw [if_neg (fun w => hb w.1)]
    simp (disch := omega) only [do_X13_isPlace, rX13_isPlace_0, rX13_isPlace_1, rX13_isPlace_2, rX13_isPlace_5, rX13_isPlace_8, rX13_isPlace_9, rX13_isPlace_10, rX13_isPlace_11, rX13_isPlace_14, rX13_isPlace_17, rX13_isPlace_18, rX13_isPlace_21, rX13_isPlace_22, rX13_isPlace_23, rX13_isPlace_26, rX13_isPlace_27, rX13_isPlace_28, rX13_isPlace_31, rX13_isPlace_34, rX13_isPlace_35, rX13_isPlace_38, rX13_isPlace_39, gS_355, hg, c, if_neg hb, ne_eq, not_false_eq_true, not_true_eq_false, true_and, and_true, and_self, true_imp_iff, false_imp_iff, imp_self, Bool.not_false, Bool.not_true, reduceCtorEq, ab_isJ, ab_psh, ab_cats, Bool.false_eq_true, if_true, if_false, ab_shf, ab_shw, Int.le_refl, Classical.not_not, Int.zero_add, forall_const, ↓ab_itT, ↓ab_itF, ab_anT, ab_w32_id, ab_rdf_ne, ab_rdw_ne, ab_rdw_eq, ab_rdf_in, ab_td2, ab_tm2, true_or]
theorem mq_rp0 : ab_Do X 216 [ab_R 355, ab_I 0, ab_I b, ab_I hp, ab_I hq, ab_I mv] σ Q ↔ Q (some (ab_I 1)) σ := by
  simp (disch := omega) only [do_X13_refusesPull, rX13_refusesPull_0, rX13_refusesPull_1, rX13_refusesPull_4, rX13_refusesPull_5, ne_eq, not_false_eq_true, not_true_eq_false, true_and, and_true, and_self, true_imp_iff, false_imp_iff, imp_self, Bool.not_false, Bool.not_true, reduceCtorEq, ab_isJ, ab_psh, ab_cats, Bool.false_eq_true, if_true, if_false, ab_shf, ab_shw, Int.le_refl, Classical.not_not, Int.zero_add, forall_const, ↓ab_itT, ↓ab_itF, ab_anT, ab_w32_id, ab_rdf_ne, ab_rdw_ne, ab_rdw_eq, ab_rdf_in, ab_td2, ab_tm2]
theorem mq_rp1 (h : ac_MI σ M κ) (hb : ac_isB κ b) : ab_Do X 216 [ab_R 355, ab_I 1, ab_I b, ab_I hp, ab_I hq, ab_I mv] σ Q ↔ Q (some (ab_I (if ac_isW κ b hp hq mv then 0 else 2))) σ := by
  have c1 := fun x lo hi Q' => mq_in (X := X) (σ := σ) (Q := Q') (x := x) (lo := lo) (hi := hi)
  have c2 := fun Q' => mq_many (X := X) (Q := Q') (arm := 0) h hb (Or.inl rfl)
  have c3 := fun Q' => mq_many (X := X) (Q := Q') (arm := 1) h hb (Or.inr rfl)
  have hg := h.1
  have h3 := h.2.1
  have sM := h.2.2.1.2.1
  have zM := h.2.2.1.1
  by_cases w1 : 1 ≤ hp ∧ hp ≤ κ 14 (2 * b + 0)
  · by_cases w2 : 1 ≤ hq ∧ hq ≤ κ 14 (2 * b + 1)
    · by_cases w3 : 0 ≤ mv ∧ mv ≤ 3
      · rw [if_pos ⟨w1, w2, w3⟩]
        simp (disch := omega) only [do_X13_refusesPull, rX13_refusesPull_0, rX13_refusesPull_1, rX13_refusesPull_4, rX13_refusesPull_5, rX13_refusesPull_6, rX13_refusesPull_7, rX13_refusesPull_8, rX13_refusesPull_9, rX13_refusesPull_12, rX13_refusesPull_13, rX13_refusesPull_14, rX13_refusesPull_17, rX13_refusesPull_20, rX13_refusesPull_23, rX13_refusesPull_25, rX13_refusesPull_26, rX13_refusesPull_27, rX13_refusesPull_30, rX13_refusesPull_31, rX13_refusesPull_32, rX13_refusesPull_35, rX13_refusesPull_38, rX13_refusesPull_41, rX13_refusesPull_43, rX13_refusesPull_44, rX13_refusesPull_45, rX13_refusesPull_48, rX13_refusesPull_51, rX13_refusesPull_52, rX13_refusesPull_55, rX13_refusesPull_56, gS_355, hg, h3, sM, c1, c2, c3, if_pos w1, if_pos w2, if_pos w3, ne_eq, not_false_eq_true, not_true_eq_false, true_and, and_true, and_self, true_imp_iff, false_imp_iff, imp_self, Bool.not_false, Bool.not_true, reduceCtorEq, ab_isJ, ab_psh, ab_cats, Bool.false_eq_true, if_true, if_false, ab_shf, ab_shw, Int.le_refl, Classical.not_not, Int.zero_add, forall_const, ↓ab_itT, ↓ab_itF, ab_anT, ab_w32_id, ab_rdf_ne, ab_rdw_ne, ab_rdw_eq, ab_rdf_in, ab_td2, ab_tm2]
      · rw [if_neg (fun w => w3 w.2.2)]
        simp (disch := omega) only [do_X13_refusesPull, rX13_refusesPull_0, rX13_refusesPull_1, rX13_refusesPull_4, rX13_refusesPull_5, rX13_refusesPull_6, rX13_refusesPull_7, rX13_refusesPull_8, rX13_refusesPull_9, rX13_refusesPull_12, rX13_refusesPull_13, rX13_refusesPull_14, rX13_refusesPull_17, rX13_refusesPull_20, rX13_refusesPull_23, rX13_refusesPull_25, rX13_refusesPull_26, rX13_refusesPull_27, rX13_refusesPull_30, rX13_refusesPull_31, rX13_refusesPull_32, rX13_refusesPull_35, rX13_refusesPull_38, rX13_refusesPull_41, rX13_refusesPull_43, rX13_refusesPull_44, rX13_refusesPull_45, rX13_refusesPull_48, rX13_refusesPull_51, rX13_refusesPull_52, rX13_refusesPull_55, rX13_refusesPull_56, gS_355, hg, h3, sM, c1, c2, c3, if_pos w1, if_pos w2, if_neg w3, ne_eq, not_false_eq_true, not_true_eq_false, true_and, and_true, and_self, true_imp_iff, false_imp_iff, imp_self, Bool.not_false, Bool.not_true, reduceCtorEq, ab_isJ, ab_psh, ab_cats, Bool.false_eq_true, if_true, if_false, ab_shf, ab_shw, Int.le_refl, Classical.not_not, Int.zero_add, forall_const, ↓ab_itT, ↓ab_itF, ab_anT, ab_w32_id, ab_rdf_ne, ab_rdw_ne, ab_rdw_eq, ab_rdf_in, ab_td2, ab_tm2]
    · rw [if_neg (fun w => w2 w.2.1)]
      simp (disch := omega) only [do_X13_refusesPull, rX13_refusesPull_0, rX13_refusesPull_1, rX13_refusesPull_4, rX13_refusesPull_5, rX13_refusesPull_6, rX13_refusesPull_7, rX13_refusesPull_8, rX13_refusesPull_9, rX13_refusesPull_12, rX13_refusesPull_13, rX13_refusesPull_14, rX13_refusesPull_17, rX13_refusesPull_20, rX13_refusesPull_23, rX13_refusesPull_25, rX13_refusesPull_26, rX13_refusesPull_27, rX13_refusesPull_30, rX13_refusesPull_31, rX13_refusesPull_32, rX13_refusesPull_35, rX13_refusesPull_38, rX13_refusesPull_41, rX13_refusesPull_43, rX13_refusesPull_44, rX13_refusesPull_45, rX13_refusesPull_48, rX13_refusesPull_51, rX13_refusesPull_52, rX13_refusesPull_55, rX13_refusesPull_56, gS_355, hg, h3, sM, c1, c2, c3, if_pos w1, if_neg w2, ne_eq, not_false_eq_true, not_true_eq_false, true_and, and_true, and_self, true_imp_iff, false_imp_iff, imp_self, Bool.not_false, Bool.not_true, reduceCtorEq, ab_isJ, ab_psh, ab_cats, Bool.false_eq_true, if_true, if_false, ab_shf, ab_shw, Int.le_refl, Classical.not_not, Int.zero_add, forall_const, ↓ab_itT, ↓ab_itF, ab_anT, ab_w32_id, ab_rdf_ne, ab_rdw_ne, ab_rdw_eq, ab_rdf_in, ab_td2, ab_tm2]
  · rw [if_neg (fun w => w1 w.1)]
    simp (disch := omega) only [do_X13_refusesPull, rX13_refusesPull_0, rX13_refusesPull_1, rX13_refusesPull_4, rX13_refusesPull_5, rX13_refusesPull_6, rX13_refusesPull_7, rX13_refusesPull_8, rX13_refusesPull_9, rX13_refusesPull_12, rX13_refusesPull_13, rX13_refusesPull_14, rX13_refusesPull_17, rX13_refusesPull_20, rX13_refusesPull_23, rX13_refusesPull_25, rX13_refusesPull_26, rX13_refusesPull_27, rX13_refusesPull_30, rX13_refusesPull_31, rX13_refusesPull_32, rX13_refusesPull_35, rX13_refusesPull_38, rX13_refusesPull_41, rX13_refusesPull_43, rX13_refusesPull_44, rX13_refusesPull_45, rX13_refusesPull_48, rX13_refusesPull_51, rX13_refusesPull_52, rX13_refusesPull_55, rX13_refusesPull_56, gS_355, hg, h3, sM, c1, c2, c3, if_neg w1, ne_eq, not_false_eq_true, not_true_eq_false, true_and, and_true, and_self, true_imp_iff, false_imp_iff, imp_self, Bool.not_false, Bool.not_true, reduceCtorEq, ab_isJ, ab_psh, ab_cats, Bool.false_eq_true, if_true, if_false, ab_shf, ab_shw, Int.le_refl, Classical.not_not, Int.zero_add, forall_const, ↓ab_itT, ↓ab_itF, ab_anT, ab_w32_id, ab_rdf_ne, ab_rdw_ne, ab_rdw_eq, ab_rdf_in, ab_td2, ab_tm2]
theorem ac_end1 {T : Int} (hs : ab_Same ac_PM σ τ) : ab_Same ac_PM σ (ab_wr (ab_wr τ 355 1 T) 355 2 (-1)) ∧ ab_rd (ab_wr (ab_wr τ 355 1 T) 355 2 (-1)) 355 1 = T ∧ ab_rd (ab_wr (ab_wr τ 355 1 T) 355 2 (-1)) 355 2 = -1 := ⟨(hs.wr (by unfold ac_PM; omega)).wr (by unfold ac_PM; omega), by rw [ab_rdw_ne (by omega), ab_rdw_eq], ab_rdw_eq⟩
theorem ac_mq0 : ab_Same ac_PM σ (ab_wr σ 355 0 0) := ab_Same.refl.wr (by unfold ac_PM; omega)
theorem ac_cs_25 {cc w0 w1 : Int} : ab_rd (ac_cs σ cc w0 w1) 355 25 = (if cc = 0 then 1 else if cc = 1 then 0 else -1) ∧ (cc = 0 → ab_rd (ac_cs σ cc w0 w1) 355 26 = w1) ∧ (cc = 1 → ab_rd (ac_cs σ cc w0 w1) 355 26 = w0) := by
  unfold ac_cs
  by_cases h0 : cc = 0
  · rw [if_pos h0, if_pos h0]
    exact ⟨by rw [ab_rdw_ne (by omega), ab_rdw_eq], fun _ => ab_rdw_eq, fun u => by omega⟩
  · rw [if_neg h0, if_neg h0]
    by_cases h1 : cc = 1
    · rw [if_pos h1, if_pos h1]
      exact ⟨by rw [ab_rdw_ne (by omega), ab_rdw_eq], fun u => by omega, fun _ => ab_rdw_eq⟩
    · rw [if_neg h1, if_neg h1]
      exact ⟨ab_rdw_eq, fun u => by omega, fun u => by omega⟩
theorem mq_pulled (h : ac_MN σ κ) (hv : ac_MV σ κ v) (hQ : ∀ τ, ab_Same ac_PM σ τ → ab_rd τ 355 1 = ac_wT κ b p hp q hq mv → ab_rd τ 355 2 = -1 → Q (some (ab_I (if ac_wT κ b p hp q hq mv = 0 then ac_C κ (v b) (v (5 + b)) b p hp q hq mv 0 0 else -1))) τ) : ab_Do X 224 [ab_R 355, ab_I b, ab_I p, ab_I hp, ab_I q, ab_I hq, ab_I mv] σ Q := by
  have h' := h.same ac_mq0
  have g0 := h.1
  have g := h'.1
  have c1 := fun b Q' => mq_isBone (X := X) (Q := Q') (b := b) h'
  have c2 := fun p q Q' => mq_isPair (X := X) (Q := Q') (p := p) (q := q) h'
  have c1p := fun b Q' => mq_isPerson (X := X) (Q := Q') (b := b) h'
  have cl := fun b arm k Q' => mq_isPlace (X := X) (Q := Q') (b := b) (arm := arm) (k := k) h'
  have cin := fun x lo hi Q' => mq_in (X := X) (σ := ab_wr σ 355 0 0) (Q := Q') (x := x) (lo := lo) (hi := hi)
  have cr := fun v Q' => sp_refused (X := X) (Q := Q') (v := v) g
  have c0 := fun b hp hq mv Q' => mq_rp0 (X := X) (σ := ab_wr σ 355 0 0) (Q := Q') (b := b) (hp := hp) (hq := hq) (mv := mv)
  by_cases h1 : ac_isB κ b
  · by_cases h1u : ac_isU κ p q
    · obtain ⟨M, hm⟩ := h.mb h1
      have hm' := hm.same ac_mq0
      have hd := (hv.2.1 b h1.1 h1.2)
      have n5 := hm.2.2.2.2.2.1.1.2
      have e5 : ab_rd (ab_wr σ 355 0 0) 357 (5 + b) = v (5 + b) := by rw [ab_rdw_ne (by omega), hv.1 _ (by omega) (by omega)]
      have c4 := fun hp hq mv Q' => mq_lays (X := X) (Q := Q') (hp := hp) (hq := hq) (mv := mv) hm' e5 h1 h1u.1 h1u.2.1
      have c3 := fun Q' => mq_rp1 (X := X) (Q := Q') (hp := hp) (hq := hq) (mv := mv) hm' h1
      by_cases h2 : ac_isW κ b hp hq mv
      · have eT : ac_wT κ b p hp q hq mv = 0 := by unfold ac_wT; rw [if_pos ⟨h1, h1u⟩, if_pos h2]
        rw [eT, if_pos rfl] at hQ
        have nb0 := ac_n_b hm.2.2.2.2 h1 (Or.inl rfl)
        have nb1 := ac_n_b hm.2.2.2.2 h1 (Or.inr rfl)
        unfold ac_n at nb0 nb1
        have sL := ac_mq0.trans ((ac_ly_same (σ := ab_wr σ 355 0 0) (κ := κ) (d := v (5 + b)) (b := b) (p := p) (hp := hp) (q := q) (hq := hq) (mv := mv)).mono (fun _ _ => ac_PL_PM))
        have c5 := fun Q' => mq_comes (X := X) (Q := Q') (kd := v b) (fa := -1) (ft := ab_rd (ac_ly (ab_wr σ 355 0 0) κ (v (5 + b)) b p hp q hq mv) 355 24) (hm.same sL) ac_ly_ML ⟨h1, h1u.1, h1u.2.1, hd.2, by omega, by omega⟩ ac_ly_fa rfl (by rw [sL.2.2 357 b (by unfold ac_PM; omega), hv.1 b (by omega) (by omega)])
        rw [ac_row_m (Or.inl rfl), ac_row_m (Or.inr rfl)] at c5
        have sC := sL.trans ((ac_cs_same (σ := ac_ly (ab_wr σ 355 0 0) κ (v (5 + b)) b p hp q hq mv) (cc := ac_C κ (v b) (v (5 + b)) b p hp q hq mv 0 0) (w0 := ac_W (ac_N κ p q hp p (ac_m0 mv)) (ac_brs (ac_S κ (v (5 + b)) b 0 p) 0) (ac_n κ b 0)) (w1 := ac_W (ac_N κ p q hq q (ac_m1 mv)) (ac_brs (ac_S κ (v (5 + b)) b 1 q) 0) (ac_n κ b 1))).mono (fun _ _ => ac_PB_PM))
        generalize ac_cs (ac_ly (ab_wr σ 355 0 0) κ (v (5 + b)) b p hp q hq mv) _ _ _ = υ at c5 sC
        have gL := (hm.same sL).1
        have gu := (hm.same sC).1
        have c6 := fun x Q' => sp_good (X := X) (Q := Q') (v := x) gu
        simp (disch := omega) only [do_X13_pulled, rX13_pulled_0, rX13_pulled_1, rX13_pulled_2, rX13_pulled_5, rX13_pulled_6, rX13_pulled_7, rX13_pulled_8, rX13_pulled_11, rX13_pulled_14, rX13_pulled_15, rX13_pulled_16, rX13_pulled_18, rX13_pulled_21, rX13_pulled_24, rX13_pulled_25, rX13_pulled_28, rX13_pulled_29, rX13_pulled_30, rX13_pulled_31, rX13_pulled_33, rX13_pulled_35, rX13_pulled_38, rX13_pulled_40, rX13_pulled_42, rX13_pulled_45, rX13_pulled_46, rX13_pulled_48, rX13_pulled_51, rX13_pulled_52, rX13_pulled_53, rX13_pulled_54, rX13_pulled_55, rX13_pulled_56, rX13_pulled_58, rX13_pulled_60, rX13_pulled_62, rX13_pulled_65, rX13_pulled_66, rX13_pulled_67, rX13_pulled_70, rX13_pulled_73, gS_355, g0, gL, gu, c1, c2, if_pos h1, if_pos h1u, c3, if_pos h2, c4, c5, c6, ne_eq, not_false_eq_true, not_true_eq_false, true_and, and_true, and_self, true_imp_iff, false_imp_iff, imp_self, Bool.not_false, Bool.not_true, reduceCtorEq, ab_isJ, ab_psh, ab_cats, Bool.false_eq_true, if_true, if_false, ab_shf, ab_shw, Int.le_refl, Classical.not_not, Int.zero_add, forall_const, ↓ab_itT, ↓ab_itF, ab_anT, ab_w32_id, ab_rdf_ne, ab_rdw_ne, ab_rdw_eq, ab_rdf_in, ab_td2, ab_tm2]
        exact hQ _ (ac_end1 sC).1 (ac_end1 sC).2.1 (ac_end1 sC).2.2
      · have eT : ac_wT κ b p hp q hq mv = 2 := by unfold ac_wT; rw [if_pos ⟨h1, h1u⟩, if_neg h2]
        rw [eT, if_neg (by decide)] at hQ
        simp (disch := omega) only [do_X13_pulled, rX13_pulled_0, rX13_pulled_1, rX13_pulled_2, rX13_pulled_5, rX13_pulled_6, rX13_pulled_7, rX13_pulled_8, rX13_pulled_11, rX13_pulled_14, rX13_pulled_15, rX13_pulled_16, rX13_pulled_18, rX13_pulled_21, rX13_pulled_24, rX13_pulled_25, rX13_pulled_28, rX13_pulled_29, rX13_pulled_30, rX13_pulled_31, rX13_pulled_33, rX13_pulled_35, rX13_pulled_38, rX13_pulled_40, rX13_pulled_42, rX13_pulled_45, rX13_pulled_46, rX13_pulled_48, rX13_pulled_51, rX13_pulled_52, rX13_pulled_53, rX13_pulled_54, rX13_pulled_55, rX13_pulled_56, rX13_pulled_58, rX13_pulled_60, rX13_pulled_62, rX13_pulled_65, rX13_pulled_66, rX13_pulled_67, rX13_pulled_70, rX13_pulled_73, gS_355, g0, c1, c2, if_pos h1, if_pos h1u, c3, if_neg h2, cr, ne_eq, not_false_eq_true, not_true_eq_false, true_and, and_true, and_self, true_imp_iff, false_imp_iff, imp_self, Bool.not_false, Bool.not_true, reduceCtorEq, ab_isJ, ab_psh, ab_cats, Bool.false_eq_true, if_true, if_false, ab_shf, ab_shw, Int.le_refl, Classical.not_not, Int.zero_add, forall_const, ↓ab_itT, ↓ab_itF, ab_anT, ab_w32_id, ab_rdf_ne, ab_rdw_ne, ab_rdw_eq, ab_rdf_in, ab_td2, ab_tm2]
        exact hQ _ (ac_end1 ac_mq0).1 (ac_end1 ac_mq0).2.1 (ac_end1 ac_mq0).2.2
    · have eT : ac_wT κ b p hp q hq mv = 1 := by unfold ac_wT; rw [if_neg (fun w => h1u w.2)]
      rw [eT, if_neg (by decide)] at hQ
      simp (disch := omega) only [do_X13_pulled, rX13_pulled_0, rX13_pulled_1, rX13_pulled_2, rX13_pulled_5, rX13_pulled_6, rX13_pulled_7, rX13_pulled_8, rX13_pulled_11, rX13_pulled_14, rX13_pulled_15, rX13_pulled_16, rX13_pulled_18, rX13_pulled_21, rX13_pulled_24, rX13_pulled_25, rX13_pulled_28, rX13_pulled_29, rX13_pulled_30, rX13_pulled_31, rX13_pulled_33, rX13_pulled_35, rX13_pulled_38, rX13_pulled_40, rX13_pulled_42, rX13_pulled_45, rX13_pulled_46, rX13_pulled_48, rX13_pulled_51, rX13_pulled_52, rX13_pulled_53, rX13_pulled_54, rX13_pulled_55, rX13_pulled_56, rX13_pulled_58, rX13_pulled_60, rX13_pulled_62, rX13_pulled_65, rX13_pulled_66, rX13_pulled_67, rX13_pulled_70, rX13_pulled_73, gS_355, g0, c1, c2, if_pos h1, if_neg h1u, c0, cr, ne_eq, not_false_eq_true, not_true_eq_false, true_and, and_true, and_self, true_imp_iff, false_imp_iff, imp_self, Bool.not_false, Bool.not_true, reduceCtorEq, ab_isJ, ab_psh, ab_cats, Bool.false_eq_true, if_true, if_false, ab_shf, ab_shw, Int.le_refl, Classical.not_not, Int.zero_add, forall_const, ↓ab_itT, ↓ab_itF, ab_anT, ab_w32_id, ab_rdf_ne, ab_rdw_ne, ab_rdw_eq, ab_rdf_in, ab_td2, ab_tm2]
      exact hQ _ (ac_end1 ac_mq0).1 (ac_end1 ac_mq0).2.1 (ac_end1 ac_mq0).2.2
  · have eT : ac_wT κ b p hp q hq mv = 1 := by unfold ac_wT; rw [if_neg (fun w => h1 w.1)]
    rw [eT, if_neg (by decide)] at hQ
    simp (disch := omega) only [do_X13_pulled, rX13_pulled_0, rX13_pulled_1, rX13_pulled_2, rX13_pulled_5, rX13_pulled_6, rX13_pulled_7, rX13_pulled_8, rX13_pulled_11, rX13_pulled_14, rX13_pulled_15, rX13_pulled_16, rX13_pulled_18, rX13_pulled_21, rX13_pulled_24, rX13_pulled_25, rX13_pulled_28, rX13_pulled_29, rX13_pulled_30, rX13_pulled_31, rX13_pulled_33, rX13_pulled_35, rX13_pulled_38, rX13_pulled_40, rX13_pulled_42, rX13_pulled_45, rX13_pulled_46, rX13_pulled_48, rX13_pulled_51, rX13_pulled_52, rX13_pulled_53, rX13_pulled_54, rX13_pulled_55, rX13_pulled_56, rX13_pulled_58, rX13_pulled_60, rX13_pulled_62, rX13_pulled_65, rX13_pulled_66, rX13_pulled_67, rX13_pulled_70, rX13_pulled_73, gS_355, g0, c1, if_neg h1, c0, cr, ne_eq, not_false_eq_true, not_true_eq_false, true_and, and_true, and_self, true_imp_iff, false_imp_iff, imp_self, Bool.not_false, Bool.not_true, reduceCtorEq, ab_isJ, ab_psh, ab_cats, Bool.false_eq_true, if_true, if_false, ab_shf, ab_shw, Int.le_refl, Classical.not_not, Int.zero_add, forall_const, ↓ab_itT, ↓ab_itF, ab_anT, ab_w32_id, ab_rdf_ne, ab_rdw_ne, ab_rdw_eq, ab_rdf_in, ab_td2, ab_tm2]
    exact hQ _ (ac_end1 ac_mq0).1 (ac_end1 ac_mq0).2.1 (ac_end1 ac_mq0).2.2
end
