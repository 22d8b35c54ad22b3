/-! TURNS: the reference's search -/
def ac_PN : Int → Int → Prop := fun a _ => a = 365 ∨ a = 366
theorem ac_PN_PM {a f : Int} (h : ac_PN a f) : ac_PM a f := by unfold ac_PN at h; unfold ac_PM; omega
def ac_MT (σ : ab_S) (n k : Int) (P c : Int → Int) : Prop := (∀ x, 0 ≤ x → x < n → ab_rd σ 366 x = c x ∧ 0 ≤ c x ∧ c x ≤ k) ∧ (∀ i, 0 ≤ i → i < k → ab_rd σ 365 i = P i ∧ 0 ≤ P i ∧ P i < ac_np n) ∧ (∀ i, k ≤ i → i < 9 → ab_rd σ 365 i = -1)
def ac_M9 (σ : ab_S) (n k : Int) (P c : Int → Int) (j : Int) : Prop := (∀ x, 0 ≤ x → x < n → ab_rd σ 366 x = c x ∧ 0 ≤ c x ∧ c x ≤ k) ∧ (∀ i, 0 ≤ i → i < k → ab_rd σ 365 i = P i ∧ 0 ≤ P i ∧ P i < ac_np n) ∧ ab_rd σ 365 k = j ∧ (∀ i, k < i → i < 9 → ab_rd σ 365 i = -1)
section
variable {X : ab_X} {σ τ υ : ab_S} {Q : Option ab_V → ab_S → Prop} {M n w k p q j i x lim : Int} {P c : Int → Int} {res : Option (Int → Int)} {κ : ac_K}
theorem mq_lesser_l (h : ac_MI σ M κ) : ∀ (f : Nat) (l p : Int), 0 ≤ p → p + f = κ 6 0 → 0 ≤ l → l ≤ 20 → (ab_Run X 247 4 (0, 0, 0) [ab_R 355, ab_I j, ab_I l, ab_I p] [] σ Q ↔ Q (some (ab_I (ac_lg (κ 6 0) f l p).1)) σ) := by
  have g := h.1
  have h3 := h.2.1
  have sM := h.2.2.1.2.1
  have zM := h.2.2.1.1
  have e6 := kM_6 h.2.2.2.1
  have n6 := h.2.2.2.2.2.1.2.1
  intro f
  induction f with
  | zero =>
    intro l p hp hf h0 hl
    obtain rfl : p = κ 6 0 := by omega
    rw [rX13_lesser_4]
    show _ ↔ Q (some (ab_I (-1))) σ
    simp (disch := omega) only [rX13_lesser_5, rX13_lesser_6, rX13_lesser_9, rX13_lesser_12, rX13_lesser_52, rX13_lesser_53, gS_355, g, h3, sM, e6, ne_eq, not_false_eq_true, not_true_eq_false, true_and, and_true, and_self, true_imp_iff, false_imp_iff, imp_self, Bool.not_false, Bool.not_true, reduceCtorEq, ab_isJ, ab_psh, ab_cats, Bool.false_eq_true, if_true, if_false, ab_shf, ab_shw, Int.le_refl, Classical.not_not, Int.zero_add, forall_const, ↓ab_itT, ↓ab_itF, ab_anT, ab_w32_id, ab_rdf_ne, ab_rdw_ne, ab_rdw_eq, ab_rdf_in, ab_td2, ab_tm2]
  | succ f ih =>
    intro l p hp hf h0 hl
    rw [rX13_lesser_4]
    show _ ↔ Q (some (ab_I (if l < κ 6 0 - 1 - p then (p, p + 1 + l) else ac_lg (κ 6 0) f (l - (κ 6 0 - 1 - p)) (p + 1)).1)) σ
    by_cases z : l < κ 6 0 - 1 - p
    · rw [if_pos z]
      simp (disch := omega) only [rX13_lesser_5, rX13_lesser_6, rX13_lesser_9, rX13_lesser_12, rX13_lesser_15, rX13_lesser_16, rX13_lesser_17, rX13_lesser_20, rX13_lesser_23, rX13_lesser_24, rX13_lesser_25, rX13_lesser_26, rX13_lesser_27, rX13_lesser_30, rX13_lesser_31, gS_355, g, h3, sM, e6, ab_w32_id, ne_eq, not_false_eq_true, not_true_eq_false, true_and, and_true, and_self, true_imp_iff, false_imp_iff, imp_self, Bool.not_false, Bool.not_true, reduceCtorEq, ab_isJ, ab_psh, ab_cats, Bool.false_eq_true, if_true, if_false, ab_shf, ab_shw, Int.le_refl, Classical.not_not, Int.zero_add, forall_const, ↓ab_itT, ↓ab_itF, ab_anT, ab_w32_id, ab_rdf_ne, ab_rdw_ne, ab_rdw_eq, ab_rdf_in, ab_td2, ab_tm2]
    · rw [if_neg z, ← ih (l - (κ 6 0 - 1 - p)) (p + 1) (by omega) (by omega) (by omega) (by omega)]
      simp (disch := omega) only [rX13_lesser_5, rX13_lesser_6, rX13_lesser_9, rX13_lesser_12, rX13_lesser_15, rX13_lesser_16, rX13_lesser_17, rX13_lesser_20, rX13_lesser_23, rX13_lesser_24, rX13_lesser_25, rX13_lesser_26, rX13_lesser_27, rX13_lesser_30, rX13_lesser_31, rX13_lesser_32, rX13_lesser_33, rX13_lesser_34, rX13_lesser_37, rX13_lesser_40, rX13_lesser_41, rX13_lesser_42, rX13_lesser_43, rX13_lesser_44, rX13_lesser_45, rX13_lesser_46, rX13_lesser_49, gS_355, g, h3, sM, e6, ab_w32_id, ne_eq, not_false_eq_true, not_true_eq_false, true_and, and_true, and_self, true_imp_iff, false_imp_iff, imp_self, Bool.not_false, Bool.not_true, reduceCtorEq, ab_isJ, ab_psh, ab_cats, Bool.false_eq_true, if_true, if_false, ab_shf, ab_shw, Int.le_refl, Classical.not_not, Int.zero_add, forall_const, ↓ab_itT, ↓ab_itF, ab_anT, ab_w32_id, ab_rdf_ne, ab_rdw_ne, ab_rdw_eq, ab_rdf_in, ab_td2, ab_tm2]
theorem mq_lesser (h : ac_MI σ M κ) (hj : 0 ≤ j ∧ j < ac_np (κ 6 0)) : ab_Do X 247 [ab_R 355, ab_I j] σ Q ↔ Q (some (ab_I (ac_ls (κ 6 0) j))) σ := by
  have n6 := h.2.2.2.2.2.1.2.1
  have n2 := h.2.2.2.2.2.2.2.2
  have nb := (ac_np_b (n := κ 6 0) ⟨n2, by omega⟩).1
  have L := mq_lesser_l (X := X) (Q := Q) (j := j) h (κ 6 0).toNat j 0 (by omega) (by omega) hj.1 (by omega)
  unfold ac_ls
  rw [← L]
  simp (disch := omega) only [do_X13_lesser, rX13_lesser_0, rX13_lesser_1, rX13_lesser_2, rX13_lesser_3, ne_eq, not_false_eq_true, not_true_eq_false, true_and, and_true, and_self, true_imp_iff, false_imp_iff, imp_self, Bool.not_false, Bool.not_true, reduceCtorEq, ab_isJ, ab_psh, ab_cats, Bool.false_eq_true, if_true, if_false, ab_shf, ab_shw, Int.le_refl, Classical.not_not, Int.zero_add, forall_const, ↓ab_itT, ↓ab_itF, ab_anT, ab_w32_id, ab_rdf_ne, ab_rdw_ne, ab_rdw_eq, ab_rdf_in, ab_td2, ab_tm2]
theorem mq_greater_l (h : ac_MI σ M κ) : ∀ (f : Nat) (l p : Int), 0 ≤ p → p + f = κ 6 0 → 0 ≤ l → l ≤ 20 → (ab_Run X 248 4 (0, 0, 0) [ab_R 355, ab_I j, ab_I l, ab_I p] [] σ Q ↔ Q (some (ab_I (ac_lg (κ 6 0) f l p).2)) σ) := by
  have g := h.1
  have h3 := h.2.1
  have sM := h.2.2.1.2.1
  have zM := h.2.2.1.1
  have e6 := kM_6 h.2.2.2.1
  have n6 := h.2.2.2.2.2.1.2.1
  intro f
  induction f with
  | zero =>
    intro l p hp hf h0 hl
    obtain rfl : p = κ 6 0 := by omega
    rw [rX13_greater_4]
    show _ ↔ Q (some (ab_I (-1))) σ
    simp (disch := omega) only [rX13_greater_5, rX13_greater_6, rX13_greater_9, rX13_greater_12, rX13_greater_56, rX13_greater_57, gS_355, g, h3, sM, e6, ne_eq, not_false_eq_true, not_true_eq_false, true_and, and_true, and_self, true_imp_iff, false_imp_iff, imp_self, Bool.not_false, Bool.not_true, reduceCtorEq, ab_isJ, ab_psh, ab_cats, Bool.false_eq_true, if_true, if_false, ab_shf, ab_shw, Int.le_refl, Classical.not_not, Int.zero_add, forall_const, ↓ab_itT, ↓ab_itF, ab_anT, ab_w32_id, ab_rdf_ne, ab_rdw_ne, ab_rdw_eq, ab_rdf_in, ab_td2, ab_tm2]
  | succ f ih =>
    intro l p hp hf h0 hl
    rw [rX13_greater_4]
    show _ ↔ Q (some (ab_I (if l < κ 6 0 - 1 - p then (p, p + 1 + l) else ac_lg (κ 6 0) f (l - (κ 6 0 - 1 - p)) (p + 1)).2)) σ
    by_cases z : l < κ 6 0 - 1 - p
    · rw [if_pos z]
      simp (disch := omega) only [rX13_greater_5, rX13_greater_6, rX13_greater_9, rX13_greater_12, rX13_greater_15, rX13_greater_16, rX13_greater_17, rX13_greater_20, rX13_greater_23, rX13_greater_24, rX13_greater_25, rX13_greater_26, rX13_greater_27, rX13_greater_30, rX13_greater_31, rX13_greater_32, rX13_greater_33, rX13_greater_34, rX13_greater_35, gS_355, g, h3, sM, e6, ab_w32_id, ne_eq, not_false_eq_true, not_true_eq_false, true_and, and_true, and_self, true_imp_iff, false_imp_iff, imp_self, Bool.not_false, Bool.not_true, reduceCtorEq, ab_isJ, ab_psh, ab_cats, Bool.false_eq_true, if_true, if_false, ab_shf, ab_shw, Int.le_refl, Classical.not_not, Int.zero_add, forall_const, ↓ab_itT, ↓ab_itF, ab_anT, ab_w32_id, ab_rdf_ne, ab_rdw_ne, ab_rdw_eq, ab_rdf_in, ab_td2, ab_tm2]
    · rw [if_neg z, ← ih (l - (κ 6 0 - 1 - p)) (p + 1) (by omega) (by omega) (by omega) (by omega)]
      simp (disch := omega) only [rX13_greater_5, rX13_greater_6, rX13_greater_9, rX13_greater_12, rX13_greater_15, rX13_greater_16, rX13_greater_17, rX13_greater_20, rX13_greater_23, rX13_greater_24, rX13_greater_25, rX13_greater_26, rX13_greater_27, rX13_greater_30, rX13_greater_31, rX13_greater_32, rX13_greater_33, rX13_greater_34, rX13_greater_35, rX13_greater_36, rX13_greater_37, rX13_greater_38, rX13_greater_41, rX13_greater_44, rX13_greater_45, rX13_greater_46, rX13_greater_47, rX13_greater_48, rX13_greater_49, rX13_greater_50, rX13_greater_53, gS_355, g, h3, sM, e6, ab_w32_id, ne_eq, not_false_eq_true, not_true_eq_false, true_and, and_true, and_self, true_imp_iff, false_imp_iff, imp_self, Bool.not_false, Bool.not_true, reduceCtorEq, ab_isJ, ab_psh, ab_cats, Bool.false_eq_true, if_true, if_false, ab_shf, ab_shw, Int.le_refl, Classical.not_not, Int.zero_add, forall_const, ↓ab_itT, ↓ab_itF, ab_anT, ab_w32_id, ab_rdf_ne, ab_rdw_ne, ab_rdw_eq, ab_rdf_in, ab_td2, ab_tm2]
theorem mq_greater (h : ac_MI σ M κ) (hj : 0 ≤ j ∧ j < ac_np (κ 6 0)) : ab_Do X 248 [ab_R 355, ab_I j] σ Q ↔ Q (some (ab_I (ac_gr (κ 6 0) j))) σ := by
  have n6 := h.2.2.2.2.2.1.2.1
  have n2 := h.2.2.2.2.2.2.2.2
  have nb := (ac_np_b (n := κ 6 0) ⟨n2, by omega⟩).1
  have L := mq_greater_l (X := X) (Q := Q) (j := j) h (κ 6 0).toNat j 0 (by omega) (by omega) hj.1 (by omega)
  unfold ac_gr
  rw [← L]
  simp (disch := omega) only [do_X13_greater, rX13_greater_0, rX13_greater_1, rX13_greater_2, rX13_greater_3, ne_eq, not_false_eq_true, not_true_eq_false, true_and, and_true, and_self, true_imp_iff, false_imp_iff, imp_self, Bool.not_false, Bool.not_true, reduceCtorEq, ab_isJ, ab_psh, ab_cats, Bool.false_eq_true, if_true, if_false, ab_shf, ab_shw, Int.le_refl, Classical.not_not, Int.zero_add, forall_const, ↓ab_itT, ↓ab_itF, ab_anT, ab_w32_id, ab_rdf_ne, ab_rdw_ne, ab_rdw_eq, ab_rdf_in, ab_td2, ab_tm2]
theorem mq_isIn (h : ac_MI σ M κ) (hj : 0 ≤ j ∧ j < ac_np (κ 6 0)) : ab_Do X 249 [ab_R 355, ab_I j, ab_I x] σ Q ↔ Q (some (ab_I (if ac_ls (κ 6 0) j = x ∨ ac_gr (κ 6 0) j = x then 1 else 0))) σ := by
  have c1 := fun Q' => mq_lesser (X := X) (Q := Q') h hj
  have c2 := fun Q' => mq_greater (X := X) (Q := Q') h hj
  have g := h.1
  by_cases z1 : ac_ls (κ 6 0) j = x
  · rw [if_pos (Or.inl z1)]
    simp (disch := omega) only [do_X13_isIn, rX13_isIn_0, rX13_isIn_1, rX13_isIn_2, rX13_isIn_5, rX13_isIn_6, rX13_isIn_9, rX13_isIn_10, rX13_isIn_11, rX13_isIn_14, rX13_isIn_15, rX13_isIn_18, rX13_isIn_19, rX13_isIn_22, rX13_isIn_23, gS_355, g, c1, ne_eq, not_false_eq_true, not_true_eq_false, true_and, and_true, and_self, true_imp_iff, false_imp_iff, imp_self, Bool.not_false, Bool.not_true, reduceCtorEq, ab_isJ, ab_psh, ab_cats, Bool.false_eq_true, if_true, if_false, ab_shf, ab_shw, Int.le_refl, Classical.not_not, Int.zero_add, forall_const, ↓ab_itT, ↓ab_itF, ab_anT, ab_w32_id, ab_rdf_ne, ab_rdw_ne, ab_rdw_eq, ab_rdf_in, ab_td2, ab_tm2, or_true, true_or]
  · by_cases z2 : ac_gr (κ 6 0) j = x
    · rw [if_pos (Or.inr z2)]
      simp (disch := omega) only [do_X13_isIn, rX13_isIn_0, rX13_isIn_1, rX13_isIn_2, rX13_isIn_5, rX13_isIn_6, rX13_isIn_9, rX13_isIn_10, rX13_isIn_11, rX13_isIn_14, rX13_isIn_15, rX13_isIn_18, rX13_isIn_19, rX13_isIn_22, rX13_isIn_23, gS_355, g, c1, c2, ne_eq, not_false_eq_true, not_true_eq_false, true_and, and_true, and_self, true_imp_iff, false_imp_iff, imp_self, Bool.not_false, Bool.not_true, reduceCtorEq, ab_isJ, ab_psh, ab_cats, Bool.false_eq_true, if_true, if_false, ab_shf, ab_shw, Int.le_refl, Classical.not_not, Int.zero_add, forall_const, ↓ab_itT, ↓ab_itF, ab_anT, ab_w32_id, ab_rdf_ne, ab_rdw_ne, ab_rdw_eq, ab_rdf_in, ab_td2, ab_tm2, or_true, true_or]
    · rw [if_neg (by omega)]
      simp (disch := omega) only [do_X13_isIn, rX13_isIn_0, rX13_isIn_1, rX13_isIn_2, rX13_isIn_5, rX13_isIn_6, rX13_isIn_9, rX13_isIn_10, rX13_isIn_11, rX13_isIn_14, rX13_isIn_15, rX13_isIn_18, rX13_isIn_19, rX13_isIn_22, rX13_isIn_23, gS_355, g, c1, c2, ne_eq, not_false_eq_true, not_true_eq_false, true_and, and_true, and_self, true_imp_iff, false_imp_iff, imp_self, Bool.not_false, Bool.not_true, reduceCtorEq, ab_isJ, ab_psh, ab_cats, Bool.false_eq_true, if_true, if_false, ab_shf, ab_shw, Int.le_refl, Classical.not_not, Int.zero_add, forall_const, ↓ab_itT, ↓ab_itF, ab_anT, ab_w32_id, ab_rdf_ne, ab_rdw_ne, ab_rdw_eq, ab_rdf_in, ab_td2, ab_tm2, or_true, true_or]
theorem mq_isFair_l (h : ac_MI σ M κ) (hc : ∀ x, 0 ≤ x → x < κ 6 0 → ab_rd σ 366 x = c x ∧ 0 ≤ c x ∧ c x ≤ 9) : ∀ (d : Nat) (p m s : Int), 0 ≤ p → p + d = κ 6 0 → (0 ≤ s ∧ s ≤ 9) → (0 ≤ m ∧ m ≤ 9) → (ab_Run X 250 7 (0, 0, 0) [ab_R 355, ab_I m, ab_I s, ab_I p] [] σ Q ↔ Q (some (ab_I (if ab_it (fun k s => if s < c k then c k else s) d p m - ab_it (fun k s => if c k < s then c k else s) d p s ≤ 1 then 1 else 0))) σ) := by
  have g := h.1
  have h3 := h.2.1
  have sM := h.2.2.1.2.1
  have zM := h.2.2.1.1
  have e6 := kM_6 h.2.2.2.1
  have n6 := h.2.2.2.2.2.1.2.1
  intro d
  induction d with
  | zero =>
    intro p m s hp hd hs hm
    obtain rfl : p = κ 6 0 := by omega
    rw [rX13_isFair_7]
    show _ ↔ Q (some (ab_I (if m - s ≤ 1 then 1 else 0))) σ
    by_cases z : m - s ≤ 1
    · rw [if_pos z]
      simp (disch := omega) only [rX13_isFair_8, rX13_isFair_9, rX13_isFair_12, rX13_isFair_15, rX13_isFair_66, rX13_isFair_67, rX13_isFair_68, rX13_isFair_69, rX13_isFair_70, rX13_isFair_73, rX13_isFair_74, rX13_isFair_77, rX13_isFair_78, gS_355, g, h3, sM, e6, ab_w32_id, ne_eq, not_false_eq_true, not_true_eq_false, true_and, and_true, and_self, true_imp_iff, false_imp_iff, imp_self, Bool.not_false, Bool.not_true, reduceCtorEq, ab_isJ, ab_psh, ab_cats, Bool.false_eq_true, if_true, if_false, ab_shf, ab_shw, Int.le_refl, Classical.not_not, Int.zero_add, forall_const, ↓ab_itT, ↓ab_itF, ab_anT, ab_w32_id, ab_rdf_ne, ab_rdw_ne, ab_rdw_eq, ab_rdf_in, ab_td2, ab_tm2, or_true, true_or]
    · rw [if_neg z]
      simp (disch := omega) only [rX13_isFair_8, rX13_isFair_9, rX13_isFair_12, rX13_isFair_15, rX13_isFair_66, rX13_isFair_67, rX13_isFair_68, rX13_isFair_69, rX13_isFair_70, rX13_isFair_73, rX13_isFair_74, rX13_isFair_77, rX13_isFair_78, gS_355, g, h3, sM, e6, ab_w32_id, ne_eq, not_false_eq_true, not_true_eq_false, true_and, and_true, and_self, true_imp_iff, false_imp_iff, imp_self, Bool.not_false, Bool.not_true, reduceCtorEq, ab_isJ, ab_psh, ab_cats, Bool.false_eq_true, if_true, if_false, ab_shf, ab_shw, Int.le_refl, Classical.not_not, Int.zero_add, forall_const, ↓ab_itT, ↓ab_itF, ab_anT, ab_w32_id, ab_rdf_ne, ab_rdw_ne, ab_rdw_eq, ab_rdf_in, ab_td2, ab_tm2, or_true, true_or]
  | succ d ih =>
    intro p m s hp hd hs hm
    obtain ⟨e4, c1, c2⟩ := hc p hp (by omega)
    have key := ih (p + 1) (if m < c p then c p else m) (if c p < s then c p else s) (by omega) (by omega) (by split <;> omega) (by split <;> omega)
    rw [rX13_isFair_7]
    show _ ↔ Q (some (ab_I (if ab_it (fun k s => if s < c k then c k else s) d (p + 1) (if m < c p then c p else m) - ab_it (fun k s => if c k < s then c k else s) d (p + 1) (if c p < s then c p else s) ≤ 1 then 1 else 0))) σ
    rw [← key]
    clear key ih hc
    by_cases z1 : m < c p
    · rw [if_pos z1]
      by_cases z2 : c p < s
      · rw [if_pos z2]
        simp (disch := omega) only [rX13_isFair_8, rX13_isFair_9, rX13_isFair_12, rX13_isFair_15, rX13_isFair_18, rX13_isFair_19, rX13_isFair_22, rX13_isFair_23, rX13_isFair_24, rX13_isFair_25, rX13_isFair_28, rX13_isFair_29, rX13_isFair_32, rX13_isFair_33, rX13_isFair_34, rX13_isFair_37, rX13_isFair_38, rX13_isFair_39, rX13_isFair_40, rX13_isFair_43, rX13_isFair_44, rX13_isFair_45, rX13_isFair_46, rX13_isFair_49, rX13_isFair_50, rX13_isFair_53, rX13_isFair_54, rX13_isFair_55, rX13_isFair_58, rX13_isFair_59, rX13_isFair_60, rX13_isFair_63, gS_355, gP_355_33, gS_366, g, h3, sM, e6, e4, ne_eq, not_false_eq_true, not_true_eq_false, true_and, and_true, and_self, true_imp_iff, false_imp_iff, imp_self, Bool.not_false, Bool.not_true, reduceCtorEq, ab_isJ, ab_psh, ab_cats, Bool.false_eq_true, if_true, if_false, ab_shf, ab_shw, Int.le_refl, Classical.not_not, Int.zero_add, forall_const, ↓ab_itT, ↓ab_itF, ab_anT, ab_w32_id, ab_rdf_ne, ab_rdw_ne, ab_rdw_eq, ab_rdf_in, ab_td2, ab_tm2]
      · rw [if_neg z2]
        simp (disch := omega) only [rX13_isFair_8, rX13_isFair_9, rX13_isFair_12, rX13_isFair_15, rX13_isFair_18, rX13_isFair_19, rX13_isFair_22, rX13_isFair_23, rX13_isFair_24, rX13_isFair_25, rX13_isFair_28, rX13_isFair_29, rX13_isFair_32, rX13_isFair_33, rX13_isFair_34, rX13_isFair_37, rX13_isFair_38, rX13_isFair_39, rX13_isFair_40, rX13_isFair_43, rX13_isFair_44, rX13_isFair_45, rX13_isFair_46, rX13_isFair_49, rX13_isFair_50, rX13_isFair_53, rX13_isFair_54, rX13_isFair_55, rX13_isFair_58, rX13_isFair_59, rX13_isFair_60, rX13_isFair_63, gS_355, gP_355_33, gS_366, g, h3, sM, e6, e4, ne_eq, not_false_eq_true, not_true_eq_false, true_and, and_true, and_self, true_imp_iff, false_imp_iff, imp_self, Bool.not_false, Bool.not_true, reduceCtorEq, ab_isJ, ab_psh, ab_cats, Bool.false_eq_true, if_true, if_false, ab_shf, ab_shw, Int.le_refl, Classical.not_not, Int.zero_add, forall_const, ↓ab_itT, ↓ab_itF, ab_anT, ab_w32_id, ab_rdf_ne, ab_rdw_ne, ab_rdw_eq, ab_rdf_in, ab_td2, ab_tm2]
    · rw [if_neg z1]
      by_cases z2 : c p < s
      · rw [if_pos z2]
        simp (disch := omega) only [rX13_isFair_8, rX13_isFair_9, rX13_isFair_12, rX13_isFair_15, rX13_isFair_18, rX13_isFair_19, rX13_isFair_22, rX13_isFair_23, rX13_isFair_24, rX13_isFair_25, rX13_isFair_28, rX13_isFair_29, rX13_isFair_32, rX13_isFair_33, rX13_isFair_34, rX13_isFair_37, rX13_isFair_38, rX13_isFair_39, rX13_isFair_40, rX13_isFair_43, rX13_isFair_44, rX13_isFair_45, rX13_isFair_46, rX13_isFair_49, rX13_isFair_50, rX13_isFair_53, rX13_isFair_54, rX13_isFair_55, rX13_isFair_58, rX13_isFair_59, rX13_isFair_60, rX13_isFair_63, gS_355, gP_355_33, gS_366, g, h3, sM, e6, e4, ne_eq, not_false_eq_true, not_true_eq_false, true_and, and_true, and_self, true_imp_iff, false_imp_iff, imp_self, Bool.not_false, Bool.not_true, reduceCtorEq, ab_isJ, ab_psh, ab_cats, Bool.false_eq_true, if_true, if_false, ab_shf, ab_shw, Int.le_refl, Classical.not_not, Int.zero_add, forall_const, ↓ab_itT, ↓ab_itF, ab_anT, ab_w32_id, ab_rdf_ne, ab_rdw_ne, ab_rdw_eq, ab_rdf_in, ab_td2, ab_tm2]
      · rw [if_neg z2]
        simp (disch := omega) only [rX13_isFair_8, rX13_isFair_9, rX13_isFair_12, rX13_isFair_15, rX13_isFair_18, rX13_isFair_19, rX13_isFair_22, rX13_isFair_23, rX13_isFair_24, rX13_isFair_25, rX13_isFair_28, rX13_isFair_29, rX13_isFair_32, rX13_isFair_33, rX13_isFair_34, rX13_isFair_37, rX13_isFair_38, rX13_isFair_39, rX13_isFair_40, rX13_isFair_43, rX13_isFair_44, rX13_isFair_45, rX13_isFair_46, rX13_isFair_49, rX13_isFair_50, rX13_isFair_53, rX13_isFair_54, rX13_isFair_55, rX13_isFair_58, rX13_isFair_59, rX13_isFair_60, rX13_isFair_63, gS_355, gP_355_33, gS_366, g, h3, sM, e6, e4, ne_eq, not_false_eq_true, not_true_eq_false, true_and, and_true, and_self, true_imp_iff, false_imp_iff, imp_self, Bool.not_false, Bool.not_true, reduceCtorEq, ab_isJ, ab_psh, ab_cats, Bool.false_eq_true, if_true, if_false, ab_shf, ab_shw, Int.le_refl, Classical.not_not, Int.zero_add, forall_const, ↓ab_itT, ↓ab_itF, ab_anT, ab_w32_id, ab_rdf_ne, ab_rdw_ne, ab_rdw_eq, ab_rdf_in, ab_td2, ab_tm2]
theorem ac_mn9 (hn : 2 ≤ n) (h0 : 0 ≤ c 0 ∧ c 0 ≤ 9) : ab_it (fun k s => if c k < s then c k else s) n.toNat 0 9 = ac_mn c n := by
  unfold ac_mn
  obtain ⟨m, hm⟩ : ∃ m, n.toNat = m + 1 := ⟨n.toNat - 1, by omega⟩
  rw [hm]
  show ab_it (fun k s => if c k < s then c k else s) m (0 + 1) (if c 0 < 9 then c 0 else 9) = ab_it (fun k s => if c k < s then c k else s) m (0 + 1) (if c 0 < 2147483647 then c 0 else 2147483647)
  rw [if_pos (show c 0 < 2147483647 by omega)]
  by_cases z : c 0 < 9
  · rw [if_pos z]
  · rw [if_neg z, show c 0 = 9 by omega]
theorem mq_isFair (h : ac_MI σ M κ) (hc : ∀ x, 0 ≤ x → x < κ 6 0 → ab_rd σ 366 x = c x ∧ 0 ≤ c x ∧ c x ≤ 9) : ab_Do X 250 [ab_R 355] σ Q ↔ Q (some (ab_I (if ac_fair (κ 6 0) c then 1 else 0))) σ := by
  have n6 := h.2.2.2.2.2.1.2.1
  have n2 := h.2.2.2.2.2.2.2.2
  have L := mq_isFair_l (X := X) (Q := Q) h hc (κ 6 0).toNat 0 0 9 (by omega) (by omega) (by omega) (by omega)
  rw [ac_mn9 n2 (hc 0 (by omega) (by omega)).2] at L
  unfold ac_fair ac_tmx
  rw [← L]
  simp (disch := omega) only [do_X13_isFair, rX13_isFair_0, rX13_isFair_1, rX13_isFair_2, rX13_isFair_4, rX13_isFair_5, rX13_isFair_6, ne_eq, not_false_eq_true, not_true_eq_false, true_and, and_true, and_self, true_imp_iff, false_imp_iff, imp_self, Bool.not_false, Bool.not_true, reduceCtorEq, ab_isJ, ab_psh, ab_cats, Bool.false_eq_true, if_true, if_false, ab_shf, ab_shw, Int.le_refl, Classical.not_not, Int.zero_add, forall_const, ↓ab_itT, ↓ab_itF, ab_anT, ab_w32_id, ab_rdf_ne, ab_rdw_ne, ab_rdw_eq, ab_rdf_in, ab_td2, ab_tm2]
theorem mq_isLow_l (h : ac_MI σ M κ) (hc : ∀ x, 0 ≤ x → x < κ 6 0 → ab_rd σ 366 x = c x) (w : Int) : ∀ (d : Nat) (p : Int), 0 ≤ p → p + d = κ 6 0 → ((∀ x, p ≤ x → x < κ 6 0 → c x ≤ lim) → Q (some (ab_I 1)) σ) → ((∃ x, p ≤ x ∧ x < κ 6 0 ∧ lim < c x) → Q (some (ab_I 0)) σ) → ab_Run X 251 24 (0, 0, 0) [ab_R 355, ab_I w, ab_I lim, ab_I p] [] σ Q := by
  have g := h.1
  have h3 := h.2.1
  have sM := h.2.2.1.2.1
  have zM := h.2.2.1.1
  have e6 := kM_6 h.2.2.2.1
  have n6 := h.2.2.2.2.2.1.2.1
  intro d
  induction d with
  | zero =>
    intro p hp hd q1 q0
    obtain rfl : p = κ 6 0 := by omega
    have key := q1 (fun x x1 x2 => by omega)
    clear q1 q0 hc
    rw [rX13_isLow_24]
    simp (disch := omega) only [rX13_isLow_25, rX13_isLow_26, rX13_isLow_29, rX13_isLow_32, rX13_isLow_53, rX13_isLow_54, gS_355, g, h3, sM, e6, ne_eq, not_false_eq_true, not_true_eq_false, true_and, and_true, and_self, true_imp_iff, false_imp_iff, imp_self, Bool.not_false, Bool.not_true, reduceCtorEq, ab_isJ, ab_psh, ab_cats, Bool.false_eq_true, if_true, if_false, ab_shf, ab_shw, Int.le_refl, Classical.not_not, Int.zero_add, forall_const, ↓ab_itT, ↓ab_itF, ab_anT, ab_w32_id, ab_rdf_ne, ab_rdw_ne, ab_rdw_eq, ab_rdf_in, ab_td2, ab_tm2, or_true, true_or]
    all_goals exact key
  | succ d ih =>
    intro p hp hd q1 q0
    have e4 := hc p hp (by omega)
    rw [rX13_isLow_24]
    by_cases z : lim < c p
    · have key := q0 ⟨p, by omega, by omega, z⟩
      clear q1 q0 hc ih
      simp (disch := omega) only [rX13_isLow_25, rX13_isLow_26, rX13_isLow_29, rX13_isLow_32, rX13_isLow_35, rX13_isLow_36, rX13_isLow_39, rX13_isLow_40, rX13_isLow_41, rX13_isLow_42, rX13_isLow_45, rX13_isLow_46, gS_355, gP_355_33, gS_366, g, h3, sM, e6, e4, ne_eq, not_false_eq_true, not_true_eq_false, true_and, and_true, and_self, true_imp_iff, false_imp_iff, imp_self, Bool.not_false, Bool.not_true, reduceCtorEq, ab_isJ, ab_psh, ab_cats, Bool.false_eq_true, if_true, if_false, ab_shf, ab_shw, Int.le_refl, Classical.not_not, Int.zero_add, forall_const, ↓ab_itT, ↓ab_itF, ab_anT, ab_w32_id, ab_rdf_ne, ab_rdw_ne, ab_rdw_eq, ab_rdf_in, ab_td2, ab_tm2, or_true, true_or]
      all_goals exact key
    · have key := ih (p + 1) (by omega) (by omega) (fun u => q1 (fun x x1 x2 => by
        by_cases y : x = p
        · rw [y]; omega
        · exact u x (by omega) x2)) (fun u => by
        obtain ⟨x, x1, x2, x3⟩ := u
        exact q0 ⟨x, by omega, x2, x3⟩)
      clear q1 q0 hc ih
      simp (disch := omega) only [rX13_isLow_25, rX13_isLow_26, rX13_isLow_29, rX13_isLow_32, rX13_isLow_35, rX13_isLow_36, rX13_isLow_39, rX13_isLow_40, rX13_isLow_41, rX13_isLow_42, rX13_isLow_45, rX13_isLow_46, rX13_isLow_47, rX13_isLow_50, gS_355, gP_355_33, gS_366, g, h3, sM, e6, e4, ne_eq, not_false_eq_true, not_true_eq_false, true_and, and_true, and_self, true_imp_iff, false_imp_iff, imp_self, Bool.not_false, Bool.not_true, reduceCtorEq, ab_isJ, ab_psh, ab_cats, Bool.false_eq_true, if_true, if_false, ab_shf, ab_shw, Int.le_refl, Classical.not_not, Int.zero_add, forall_const, ↓ab_itT, ↓ab_itF, ab_anT, ab_w32_id, ab_rdf_ne, ab_rdw_ne, ab_rdw_eq, ab_rdf_in, ab_td2, ab_tm2, or_true, true_or]
      all_goals exact key
theorem mq_isLow (h : ac_MI σ M κ) (hw : 1 ≤ w ∧ w ≤ 9) (hc : ∀ x, 0 ≤ x → x < κ 6 0 → ab_rd σ 366 x = c x) (q1 : (∀ x, 0 ≤ x → x < κ 6 0 → c x ≤ (2 * w + κ 6 0 - 1) / κ 6 0) → Q (some (ab_I 1)) σ) (q0 : (∃ x, 0 ≤ x ∧ x < κ 6 0 ∧ (2 * w + κ 6 0 - 1) / κ 6 0 < c x) → Q (some (ab_I 0)) σ) : ab_Do X 251 [ab_R 355, ab_I w] σ Q := by
  have g := h.1
  have h3 := h.2.1
  have sM := h.2.2.1.2.1
  have zM := h.2.2.1.1
  have e6 := kM_6 h.2.2.2.1
  have n6 := h.2.2.2.2.2.1.2.1
  have n2 := h.2.2.2.2.2.2.2.2
  have key := mq_isLow_l (X := X) (Q := Q) h hc w (κ 6 0).toNat 0 (by omega) (by omega) q1 q0
  clear q1 q0 hc
  have e0 : ¬ κ 6 0 = 0 := by omega
  have lb : 0 ≤ (2 * w + κ 6 0 - 1) / κ 6 0 ∧ (2 * w + κ 6 0 - 1) / κ 6 0 ≤ 23 := ⟨Int.ediv_nonneg (by omega) (by omega), Int.le_trans (Int.ediv_le_self _ (by omega)) (by omega)⟩
  simp (disch := omega) only [do_X13_isLow, rX13_isLow_0, rX13_isLow_1, rX13_isLow_2, rX13_isLow_3, rX13_isLow_4, rX13_isLow_7, rX13_isLow_10, rX13_isLow_11, rX13_isLow_12, rX13_isLow_13, rX13_isLow_14, rX13_isLow_17, rX13_isLow_20, rX13_isLow_21, rX13_isLow_22, rX13_isLow_23, gS_355, g, h3, sM, e6, ab_td2, ab_w32_id, ne_eq, not_false_eq_true, not_true_eq_false, true_and, and_true, and_self, true_imp_iff, false_imp_iff, imp_self, Bool.not_false, Bool.not_true, reduceCtorEq, ab_isJ, ab_psh, ab_cats, Bool.false_eq_true, if_true, if_false, ab_shf, ab_shw, Int.le_refl, Classical.not_not, Int.zero_add, forall_const, ↓ab_itT, ↓ab_itF, ab_anT, ab_w32_id, ab_rdf_ne, ab_rdw_ne, ab_rdw_eq, ab_rdf_in, ab_td2, ab_tm2, or_true, true_or]
  all_goals exact key
theorem mq_counts (h : ac_MI σ M κ) (hj : 0 ≤ j ∧ j < ac_np (κ 6 0)) {a b by_ : Int} (ha : ab_rd σ 366 (ac_ls (κ 6 0) j) = a) (hb : ab_rd σ 366 (ac_gr (κ 6 0) j) = b) (hab : (-1 ≤ a + by_ ∧ a + by_ ≤ 20) ∧ (-1 ≤ b + by_ ∧ b + by_ ≤ 20)) : ab_Do X 252 [ab_R 355, ab_I j, ab_I by_] σ Q ↔ Q none (ab_wr (ab_wr σ 366 (ac_ls (κ 6 0) j) (a + by_)) 366 (ac_gr (κ 6 0) j) (b + by_)) := by
  have n6 := h.2.2.2.2.2.1.2.1
  have n2 := h.2.2.2.2.2.2.2.2
  have lb := ac_lg_b (n := κ 6 0) ⟨n2, by omega⟩ hj
  have s1 : ab_Same ac_PM σ (ab_wr σ 366 (ac_ls (κ 6 0) j) (a + by_)) := ab_Same.refl.wr (by unfold ac_PM; omega)
  have c1 := fun Q' => mq_lesser (X := X) (Q := Q') h hj
  have c2 := fun Q' => mq_greater (X := X) (Q := Q') (h.same s1) hj
  have g := h.1
  simp (disch := omega) only [do_X13_counts, rX13_counts_0, rX13_counts_1, rX13_counts_4, rX13_counts_5, rX13_counts_6, rX13_counts_9, rX13_counts_10, rX13_counts_11, rX13_counts_12, rX13_counts_13, rX13_counts_14, rX13_counts_15, rX13_counts_18, rX13_counts_19, rX13_counts_20, rX13_counts_23, rX13_counts_24, rX13_counts_25, rX13_counts_26, rX13_counts_27, rX13_counts_28, gS_355, gP_355_33, gS_366, g, c1, c2, ha, hb, ab_w32_id, ne_eq, not_false_eq_true, not_true_eq_false, true_and, and_true, and_self, true_imp_iff, false_imp_iff, imp_self, Bool.not_false, Bool.not_true, reduceCtorEq, ab_isJ, ab_psh, ab_cats, Bool.false_eq_true, if_true, if_false, ab_shf, ab_shw, Int.le_refl, Classical.not_not, Int.zero_add, forall_const, ↓ab_itT, ↓ab_itF, ab_anT, ab_w32_id, ab_rdf_ne, ab_rdw_ne, ab_rdw_eq, ab_rdf_in, ab_td2, ab_tm2]
theorem ac_lim (hn : 2 ≤ n ∧ n ≤ 6) {a : Int} : a + 1 ≤ (2 * w + n - 1) / n ↔ a * n < 2 * w := by
  have : n = 2 ∨ n = 3 ∨ n = 4 ∨ n = 5 ∨ n = 6 := by omega
  rcases this with rfl | rfl | rfl | rfl | rfl <;> omega
end
