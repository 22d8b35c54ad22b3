/-! READER of the reference: lines (written by gen/gm.py) -/
def ar_PW (M : Int) : Int → Int → Prop := fun a f => ac_PV a f ∨ M ≤ a
def ar_mF (Q : Option ab_V → ab_S → Prop) (σ : ab_S) (M : Int) (r : ar_R) : Prop := ∀ w pl, r = .inl (w, pl) → ∀ τ, ab_Same (ar_PW M) σ τ → ac_RF τ w pl → Q none τ
def ar_mO (Q : Option ab_V → ab_S → Prop) (σ : ab_S) (M n : Int) (tp : Int → Int) (r : ar_R) : Prop := ∀ κ' s', r = .inr (κ', s') → ∀ τ, ab_Same (ar_PW M) σ τ → ac_RM τ n tp s' → ar_MR τ M κ' → Q none τ
theorem ab_Same.vw {M : Int} {σ τ : ab_S} (h : ab_Same ac_PV σ τ) : ab_Same (ar_PW M) σ τ := h.mono (fun _ _ u => Or.inl u)
theorem ab_Same.uw {σ τ : ab_S} (h : ab_Same ac_PU σ τ) : ab_Same ac_PV σ τ := h.mono (fun _ _ => ac_PU_V)
theorem ar_J.n10 {κ : ac_K} (h : ar_J κ) : 0 ≤ κ 10 0 ∧ κ 10 0 ≤ 11 := by
  have := h.2.2.2.2.2.1.1
  have := h.1.1
  have := h.1.2.1
  omega
section
variable {X : ab_X} {σ τ υ : ab_S} {Q : Option ab_V → ab_S → Prop} {n p q s t i w pl M v v1 v2 v3 v4 v5 x : Int} {tp : Int → Int} {κ : ac_K} {r : ar_R}

theorem mt_rules0 (h : ac_RF τ w pl) (hR : ar_MR τ M κ) (hn : 0 ≤ κ 10 0 ∧ κ 10 0 ≤ 11) (kq : Q none τ) : ab_Run X 189 15 (14, 0, 0) [ab_R 355, ab_R 0, ab_R 0, ab_R 0, ab_R 0, ab_R 0] [] τ Q := by
  have g := h.1
  have h9 := h.2.1
  have h4 := hR.1
  have hM := hR.2.1.1
  have s0 := mS hR.2.1
  have c1 := fun Q' => mq_goesOn5 (X := X) (Q := Q') h.1 h.2.1
  have c2 := fun k Q' => mq_flaw5 (X := X) (Q := Q') (k := k) h
  have c3 := fun a Q' => mq_isWord5 (X := X) (Q := Q') (a := a) h.1 h.2.1
  have c4 := fun a lo hi Q' (ha : a ≤ -2) => mq_part5 (X := X) (Q := Q') (a := a) (lo := lo) (hi := hi) h ha
  have c5 := fun lo hi Q' => mq_whole5 (X := X) (Q := Q') (lo := lo) (hi := hi) h
  have c6 := fun Q' => mq_known5 (X := X) (Q := Q') h hR hn
  have c7 := fun Q' => mq_pers5 (X := X) (Q := Q') h hR hn
  have c8 := fun Q' => mq_side5 (X := X) (Q := Q') h
  clear h hR
  simp (disch := omega) only [rX13_readKitchen_15, rX13_readKitchen_16, rX13_readKitchen_19, rX13_readKitchen_20, rX13_readKitchen_22, rX13_readKitchen_23, rX13_readKitchen_25, rX13_readKitchen_28, rX13_readKitchen_29, rX13_readKitchen_30, rX13_readKitchen_32, rX13_readKitchen_34, rX13_readKitchen_36, rX13_readKitchen_39, rX13_readKitchen_40, rX13_readKitchen_41, rX13_readKitchen_43, rX13_readKitchen_44, rX13_readKitchen_46, rX13_readKitchen_49, rX13_readKitchen_50, rX13_readKitchen_51, rX13_readKitchen_53, rX13_readKitchen_54, rX13_readKitchen_56, rX13_readKitchen_59, rX13_readKitchen_61, rX13_readKitchen_62, rX13_readKitchen_64, rX13_readKitchen_65, rX13_readKitchen_67, rX13_readKitchen_70, rX13_readKitchen_72, rX13_readKitchen_73, rX13_readKitchen_76, rX13_readKitchen_77, rX13_readKitchen_80, gS_355, g, h9, h4, s0, c1, c2, c3, c4, c5, c6, c7, c8, ne_eq, not_false_eq_true, not_true_eq_false, true_and, and_true, and_self, true_imp_iff, false_imp_iff, imp_self, Bool.not_false, Bool.not_true, reduceCtorEq, ab_isJ, ab_psh, ab_cats, Bool.false_eq_true, if_true, if_false, ab_shf, ab_shw, Int.le_refl, Classical.not_not, Int.zero_add, forall_const, ↓ab_itT, ↓ab_itF, ab_anT, ab_w32_id, ab_rdf_ne, ab_rdw_ne, ab_rdw_eq, ab_rdf_in, ab_td2, ab_tm2, true_or, or_true]
  all_goals exact kq

theorem mt_rules1 (h : ac_RF τ w pl) (hR : ar_MR τ M κ) (hn : 0 ≤ κ 10 0 ∧ κ 10 0 ≤ 11) (kq : Q none τ) : ab_Run X 189 28 (14, 0, 0) [ab_R 355, ab_R 0, ab_R 0, ab_R 0, ab_R 0, ab_R 0] (ab_psh (some (ab_I v)) []) τ Q := by
  have g := h.1
  have h9 := h.2.1
  have h4 := hR.1
  have hM := hR.2.1.1
  have s0 := mS hR.2.1
  have c1 := fun Q' => mq_goesOn5 (X := X) (Q := Q') h.1 h.2.1
  have c2 := fun k Q' => mq_flaw5 (X := X) (Q := Q') (k := k) h
  have c3 := fun a Q' => mq_isWord5 (X := X) (Q := Q') (a := a) h.1 h.2.1
  have c4 := fun a lo hi Q' (ha : a ≤ -2) => mq_part5 (X := X) (Q := Q') (a := a) (lo := lo) (hi := hi) h ha
  have c5 := fun lo hi Q' => mq_whole5 (X := X) (Q := Q') (lo := lo) (hi := hi) h
  have c6 := fun Q' => mq_known5 (X := X) (Q := Q') h hR hn
  have c7 := fun Q' => mq_pers5 (X := X) (Q := Q') h hR hn
  have c8 := fun Q' => mq_side5 (X := X) (Q := Q') h
  clear h hR
  simp (disch := omega) only [rX13_readKitchen_28, rX13_readKitchen_29, rX13_readKitchen_30, rX13_readKitchen_32, rX13_readKitchen_34, rX13_readKitchen_36, rX13_readKitchen_39, rX13_readKitchen_40, rX13_readKitchen_41, rX13_readKitchen_43, rX13_readKitchen_44, rX13_readKitchen_46, rX13_readKitchen_49, rX13_readKitchen_50, rX13_readKitchen_51, rX13_readKitchen_53, rX13_readKitchen_54, rX13_readKitchen_56, rX13_readKitchen_59, rX13_readKitchen_61, rX13_readKitchen_62, rX13_readKitchen_64, rX13_readKitchen_65, rX13_readKitchen_67, rX13_readKitchen_70, rX13_readKitchen_72, rX13_readKitchen_73, rX13_readKitchen_76, rX13_readKitchen_77, rX13_readKitchen_80, gS_355, g, h9, h4, s0, c1, c2, c3, c4, c5, c6, c7, c8, ne_eq, not_false_eq_true, not_true_eq_false, true_and, and_true, and_self, true_imp_iff, false_imp_iff, imp_self, Bool.not_false, Bool.not_true, reduceCtorEq, ab_isJ, ab_psh, ab_cats, Bool.false_eq_true, if_true, if_false, ab_shf, ab_shw, Int.le_refl, Classical.not_not, Int.zero_add, forall_const, ↓ab_itT, ↓ab_itF, ab_anT, ab_w32_id, ab_rdf_ne, ab_rdw_ne, ab_rdw_eq, ab_rdf_in, ab_td2, ab_tm2, true_or, or_true]
  all_goals exact kq

theorem mt_rules2 (h : ac_RF τ w pl) (hR : ar_MR τ M κ) (hn : 0 ≤ κ 10 0 ∧ κ 10 0 ≤ 11) (kq : Q none τ) : ab_Run X 189 39 (14, 0, 0) [ab_R 355, ab_I v1, ab_R 0, ab_R 0, ab_R 0, ab_R 0] (ab_psh (some (ab_I v)) []) τ Q := by
  have g := h.1
  have h9 := h.2.1
  have h4 := hR.1
  have hM := hR.2.1.1
  have s0 := mS hR.2.1
  have c1 := fun Q' => mq_goesOn5 (X := X) (Q := Q') h.1 h.2.1
  have c2 := fun k Q' => mq_flaw5 (X := X) (Q := Q') (k := k) h
  have c3 := fun a Q' => mq_isWord5 (X := X) (Q := Q') (a := a) h.1 h.2.1
  have c4 := fun a lo hi Q' (ha : a ≤ -2) => mq_part5 (X := X) (Q := Q') (a := a) (lo := lo) (hi := hi) h ha
  have c5 := fun lo hi Q' => mq_whole5 (X := X) (Q := Q') (lo := lo) (hi := hi) h
  have c6 := fun Q' => mq_known5 (X := X) (Q := Q') h hR hn
  have c7 := fun Q' => mq_pers5 (X := X) (Q := Q') h hR hn
  have c8 := fun Q' => mq_side5 (X := X) (Q := Q') h
  clear h hR
  simp (disch := omega) only [rX13_readKitchen_39, rX13_readKitchen_40, rX13_readKitchen_41, rX13_readKitchen_43, rX13_readKitchen_44, rX13_readKitchen_46, rX13_readKitchen_49, rX13_readKitchen_50, rX13_readKitchen_51, rX13_readKitchen_53, rX13_readKitchen_54, rX13_readKitchen_56, rX13_readKitchen_59, rX13_readKitchen_61, rX13_readKitchen_62, rX13_readKitchen_64, rX13_readKitchen_65, rX13_readKitchen_67, rX13_readKitchen_70, rX13_readKitchen_72, rX13_readKitchen_73, rX13_readKitchen_76, rX13_readKitchen_77, rX13_readKitchen_80, gS_355, g, h9, h4, s0, c1, c2, c3, c4, c5, c6, c7, c8, ne_eq, not_false_eq_true, not_true_eq_false, true_and, and_true, and_self, true_imp_iff, false_imp_iff, imp_self, Bool.not_false, Bool.not_true, reduceCtorEq, ab_isJ, ab_psh, ab_cats, Bool.false_eq_true, if_true, if_false, ab_shf, ab_shw, Int.le_refl, Classical.not_not, Int.zero_add, forall_const, ↓ab_itT, ↓ab_itF, ab_anT, ab_w32_id, ab_rdf_ne, ab_rdw_ne, ab_rdw_eq, ab_rdf_in, ab_td2, ab_tm2, true_or, or_true]
  all_goals exact kq

theorem mt_rules3 (h : ac_RF τ w pl) (hR : ar_MR τ M κ) (hn : 0 ≤ κ 10 0 ∧ κ 10 0 ≤ 11) (kq : Q none τ) : ab_Run X 189 49 (14, 0, 0) [ab_R 355, ab_I v1, ab_I v2, ab_R 0, ab_R 0, ab_R 0] (ab_psh (some (ab_I v)) []) τ Q := by
  have g := h.1
  have h9 := h.2.1
  have h4 := hR.1
  have hM := hR.2.1.1
  have s0 := mS hR.2.1
  have c1 := fun Q' => mq_goesOn5 (X := X) (Q := Q') h.1 h.2.1
  have c2 := fun k Q' => mq_flaw5 (X := X) (Q := Q') (k := k) h
  have c3 := fun a Q' => mq_isWord5 (X := X) (Q := Q') (a := a) h.1 h.2.1
  have c4 := fun a lo hi Q' (ha : a ≤ -2) => mq_part5 (X := X) (Q := Q') (a := a) (lo := lo) (hi := hi) h ha
  have c5 := fun lo hi Q' => mq_whole5 (X := X) (Q := Q') (lo := lo) (hi := hi) h
  have c6 := fun Q' => mq_known5 (X := X) (Q := Q') h hR hn
  have c7 := fun Q' => mq_pers5 (X := X) (Q := Q') h hR hn
  have c8 := fun Q' => mq_side5 (X := X) (Q := Q') h
  clear h hR
  simp (disch := omega) only [rX13_readKitchen_49, rX13_readKitchen_50, rX13_readKitchen_51, rX13_readKitchen_53, rX13_readKitchen_54, rX13_readKitchen_56, rX13_readKitchen_59, rX13_readKitchen_61, rX13_readKitchen_62, rX13_readKitchen_64, rX13_readKitchen_65, rX13_readKitchen_67, rX13_readKitchen_70, rX13_readKitchen_72, rX13_readKitchen_73, rX13_readKitchen_76, rX13_readKitchen_77, rX13_readKitchen_80, gS_355, g, h9, h4, s0, c1, c2, c3, c4, c5, c6, c7, c8, ne_eq, not_false_eq_true, not_true_eq_false, true_and, and_true, and_self, true_imp_iff, false_imp_iff, imp_self, Bool.not_false, Bool.not_true, reduceCtorEq, ab_isJ, ab_psh, ab_cats, Bool.false_eq_true, if_true, if_false, ab_shf, ab_shw, Int.le_refl, Classical.not_not, Int.zero_add, forall_const, ↓ab_itT, ↓ab_itF, ab_anT, ab_w32_id, ab_rdf_ne, ab_rdw_ne, ab_rdw_eq, ab_rdf_in, ab_td2, ab_tm2, true_or, or_true]
  all_goals exact kq

theorem mt_rules4 (h : ac_RF τ w pl) (hR : ar_MR τ M κ) (hn : 0 ≤ κ 10 0 ∧ κ 10 0 ≤ 11) (kq : Q none τ) : ab_Run X 189 59 (14, 0, 0) [ab_R 355, ab_I v1, ab_I v2, ab_I v3, ab_R 0, ab_R 0] (ab_psh (some (ab_I v)) []) τ Q := by
  have g := h.1
  have h9 := h.2.1
  have h4 := hR.1
  have hM := hR.2.1.1
  have s0 := mS hR.2.1
  have c1 := fun Q' => mq_goesOn5 (X := X) (Q := Q') h.1 h.2.1
  have c2 := fun k Q' => mq_flaw5 (X := X) (Q := Q') (k := k) h
  have c3 := fun a Q' => mq_isWord5 (X := X) (Q := Q') (a := a) h.1 h.2.1
  have c4 := fun a lo hi Q' (ha : a ≤ -2) => mq_part5 (X := X) (Q := Q') (a := a) (lo := lo) (hi := hi) h ha
  have c5 := fun lo hi Q' => mq_whole5 (X := X) (Q := Q') (lo := lo) (hi := hi) h
  have c6 := fun Q' => mq_known5 (X := X) (Q := Q') h hR hn
  have c7 := fun Q' => mq_pers5 (X := X) (Q := Q') h hR hn
  have c8 := fun Q' => mq_side5 (X := X) (Q := Q') h
  clear h hR
  simp (disch := omega) only [rX13_readKitchen_59, rX13_readKitchen_61, rX13_readKitchen_62, rX13_readKitchen_64, rX13_readKitchen_65, rX13_readKitchen_67, rX13_readKitchen_70, rX13_readKitchen_72, rX13_readKitchen_73, rX13_readKitchen_76, rX13_readKitchen_77, rX13_readKitchen_80, gS_355, g, h9, h4, s0, c1, c2, c3, c4, c5, c6, c7, c8, ne_eq, not_false_eq_true, not_true_eq_false, true_and, and_true, and_self, true_imp_iff, false_imp_iff, imp_self, Bool.not_false, Bool.not_true, reduceCtorEq, ab_isJ, ab_psh, ab_cats, Bool.false_eq_true, if_true, if_false, ab_shf, ab_shw, Int.le_refl, Classical.not_not, Int.zero_add, forall_const, ↓ab_itT, ↓ab_itF, ab_anT, ab_w32_id, ab_rdf_ne, ab_rdw_ne, ab_rdw_eq, ab_rdf_in, ab_td2, ab_tm2, true_or, or_true]
  all_goals exact kq

theorem mt_rules5 (h : ac_RF τ w pl) (hR : ar_MR τ M κ) (hn : 0 ≤ κ 10 0 ∧ κ 10 0 ≤ 11) (kq : Q none τ) : ab_Run X 189 70 (14, 0, 0) [ab_R 355, ab_I v1, ab_I v2, ab_I v3, ab_I v4, ab_R 0] (ab_psh (some (ab_I v)) []) τ Q := by
  have g := h.1
  have h9 := h.2.1
  have h4 := hR.1
  have hM := hR.2.1.1
  have s0 := mS hR.2.1
  have c1 := fun Q' => mq_goesOn5 (X := X) (Q := Q') h.1 h.2.1
  have c2 := fun k Q' => mq_flaw5 (X := X) (Q := Q') (k := k) h
  have c3 := fun a Q' => mq_isWord5 (X := X) (Q := Q') (a := a) h.1 h.2.1
  have c4 := fun a lo hi Q' (ha : a ≤ -2) => mq_part5 (X := X) (Q := Q') (a := a) (lo := lo) (hi := hi) h ha
  have c5 := fun lo hi Q' => mq_whole5 (X := X) (Q := Q') (lo := lo) (hi := hi) h
  have c6 := fun Q' => mq_known5 (X := X) (Q := Q') h hR hn
  have c7 := fun Q' => mq_pers5 (X := X) (Q := Q') h hR hn
  have c8 := fun Q' => mq_side5 (X := X) (Q := Q') h
  clear h hR
  simp (disch := omega) only [rX13_readKitchen_70, rX13_readKitchen_72, rX13_readKitchen_73, rX13_readKitchen_76, rX13_readKitchen_77, rX13_readKitchen_80, gS_355, g, h9, h4, s0, c1, c2, c3, c4, c5, c6, c7, c8, ne_eq, not_false_eq_true, not_true_eq_false, true_and, and_true, and_self, true_imp_iff, false_imp_iff, imp_self, Bool.not_false, Bool.not_true, reduceCtorEq, ab_isJ, ab_psh, ab_cats, Bool.false_eq_true, if_true, if_false, ab_shf, ab_shw, Int.le_refl, Classical.not_not, Int.zero_add, forall_const, ↓ab_itT, ↓ab_itF, ab_anT, ab_w32_id, ab_rdf_ne, ab_rdw_ne, ab_rdw_eq, ab_rdf_in, ab_td2, ab_tm2, true_or, or_true]
  all_goals exact kq

theorem ms_rules_1 (g : ab_Geo τ) (hR : ar_MR τ M κ) (c11 : κ 11 0 = 1) (key : ab_Do X 172 [ab_R 355, ab_I 3] τ (fun r σ' => ab_Run X 189 15 (14, 0, 0) [ab_R 355, ab_R 0, ab_R 0, ab_R 0, ab_R 0, ab_R 0] (ab_psh r []) σ' Q)) : ab_Do X 189 [ab_R 355] τ Q := by
  have h4 := hR.1
  have hM := hR.2.1.1
  have s0 := mS hR.2.1
  have e11 : ab_rd τ M 11 = 1 := by rw [hR.2.2.1 11 (by omega) (by omega), c11]
  clear hR
  simp (disch := omega) only [do_X13_readKitchen, rX13_readKitchen_0, rX13_readKitchen_1, rX13_readKitchen_4, rX13_readKitchen_7, rX13_readKitchen_10, rX13_readKitchen_11, rX13_readKitchen_12, gS_355, g, h4, s0, e11, ne_eq, not_false_eq_true, not_true_eq_false, true_and, and_true, and_self, true_imp_iff, false_imp_iff, imp_self, Bool.not_false, Bool.not_true, reduceCtorEq, ab_isJ, ab_psh, ab_cats, Bool.false_eq_true, if_true, if_false, ab_shf, ab_shw, Int.le_refl, Classical.not_not, Int.zero_add, forall_const, ↓ab_itT, ↓ab_itF, ab_anT, ab_w32_id, ab_rdf_ne, ab_rdw_ne, ab_rdw_eq, ab_rdf_in, ab_td2, ab_tm2, true_or, or_true]
  all_goals exact key

theorem ms_rules_0 (g : ab_Geo τ) (hR : ar_MR τ M κ) (c11 : κ 11 0 = 0) (key : ab_Do X 171 [ab_R 355] τ (fun r σ' => ab_Run X 189 19 (14, 0, 0) [ab_R 355, ab_R 0, ab_R 0, ab_R 0, ab_R 0, ab_R 0] (ab_psh r []) σ' Q)) : ab_Do X 189 [ab_R 355] τ Q := by
  have h4 := hR.1
  have hM := hR.2.1.1
  have s0 := mS hR.2.1
  have e11 : ab_rd τ M 11 = 0 := by rw [hR.2.2.1 11 (by omega) (by omega), c11]
  clear hR
  simp (disch := omega) only [do_X13_readKitchen, rX13_readKitchen_0, rX13_readKitchen_1, rX13_readKitchen_4, rX13_readKitchen_7, rX13_readKitchen_15, rX13_readKitchen_16, gS_355, g, h4, s0, e11, ne_eq, not_false_eq_true, not_true_eq_false, true_and, and_true, and_self, true_imp_iff, false_imp_iff, imp_self, Bool.not_false, Bool.not_true, reduceCtorEq, ab_isJ, ab_psh, ab_cats, Bool.false_eq_true, if_true, if_false, ab_shf, ab_shw, Int.le_refl, Classical.not_not, Int.zero_add, forall_const, ↓ab_itT, ↓ab_itF, ab_anT, ab_w32_id, ab_rdf_ne, ab_rdw_ne, ab_rdw_eq, ab_rdf_in, ab_td2, ab_tm2, true_or, or_true]
  all_goals exact key

theorem ms_rules_p1 (g : ab_Geo τ) (key : ab_Do X 179 [ab_R 355, ab_R (-3), ab_I 0, ab_I 9] τ (fun r σ' => ab_Run X 189 28 (14, 0, 0) [ab_R 355, ab_R 0, ab_R 0, ab_R 0, ab_R 0, ab_R 0] (ab_psh r []) σ' Q)) : ab_Run X 189 19 (14, 0, 0) [ab_R 355, ab_R 0, ab_R 0, ab_R 0, ab_R 0, ab_R 0] (ab_psh none []) τ Q := by
  simp (disch := omega) only [rX13_readKitchen_19, rX13_readKitchen_20, rX13_readKitchen_22, rX13_readKitchen_23, rX13_readKitchen_25, gS_355, g, ne_eq, not_false_eq_true, not_true_eq_false, true_and, and_true, and_self, true_imp_iff, false_imp_iff, imp_self, Bool.not_false, Bool.not_true, reduceCtorEq, ab_isJ, ab_psh, ab_cats, Bool.false_eq_true, if_true, if_false, ab_shf, ab_shw, Int.le_refl, Classical.not_not, Int.zero_add, forall_const, ↓ab_itT, ↓ab_itF, ab_anT, ab_w32_id, ab_rdf_ne, ab_rdw_ne, ab_rdw_eq, ab_rdf_in, ab_td2, ab_tm2, true_or, or_true]
  all_goals exact key

theorem ms_rules_p2 (g : ab_Geo τ) (key : ab_Do X 179 [ab_R 355, ab_R (-4), ab_I 25, ab_I 60] τ (fun r σ' => ab_Run X 189 39 (14, 0, 0) [ab_R 355, ab_I v1, ab_R 0, ab_R 0, ab_R 0, ab_R 0] (ab_psh r []) σ' Q)) : ab_Run X 189 28 (14, 0, 0) [ab_R 355, ab_R 0, ab_R 0, ab_R 0, ab_R 0, ab_R 0] (ab_psh (some (ab_I v1)) []) τ Q := by
  simp (disch := omega) only [rX13_readKitchen_28, rX13_readKitchen_29, rX13_readKitchen_30, rX13_readKitchen_32, rX13_readKitchen_34, rX13_readKitchen_36, gS_355, g, ne_eq, not_false_eq_true, not_true_eq_false, true_and, and_true, and_self, true_imp_iff, false_imp_iff, imp_self, Bool.not_false, Bool.not_true, reduceCtorEq, ab_isJ, ab_psh, ab_cats, Bool.false_eq_true, if_true, if_false, ab_shf, ab_shw, Int.le_refl, Classical.not_not, Int.zero_add, forall_const, ↓ab_itT, ↓ab_itF, ab_anT, ab_w32_id, ab_rdf_ne, ab_rdw_ne, ab_rdw_eq, ab_rdf_in, ab_td2, ab_tm2, true_or, or_true]
  all_goals exact key

theorem ms_rules_p3 (g : ab_Geo τ) (key : ab_Do X 179 [ab_R 355, ab_R (-5), ab_I 0, ab_I 99] τ (fun r σ' => ab_Run X 189 49 (14, 0, 0) [ab_R 355, ab_I v1, ab_I v2, ab_R 0, ab_R 0, ab_R 0] (ab_psh r []) σ' Q)) : ab_Run X 189 39 (14, 0, 0) [ab_R 355, ab_I v1, ab_R 0, ab_R 0, ab_R 0, ab_R 0] (ab_psh (some (ab_I v2)) []) τ Q := by
  simp (disch := omega) only [rX13_readKitchen_39, rX13_readKitchen_40, rX13_readKitchen_41, rX13_readKitchen_43, rX13_readKitchen_44, rX13_readKitchen_46, gS_355, g, ne_eq, not_false_eq_true, not_true_eq_false, true_and, and_true, and_self, true_imp_iff, false_imp_iff, imp_self, Bool.not_false, Bool.not_true, reduceCtorEq, ab_isJ, ab_psh, ab_cats, Bool.false_eq_true, if_true, if_false, ab_shf, ab_shw, Int.le_refl, Classical.not_not, Int.zero_add, forall_const, ↓ab_itT, ↓ab_itF, ab_anT, ab_w32_id, ab_rdf_ne, ab_rdw_ne, ab_rdw_eq, ab_rdf_in, ab_td2, ab_tm2, true_or, or_true]
  all_goals exact key

theorem ms_rules_p4 (g : ab_Geo τ) (key : ab_Do X 179 [ab_R 355, ab_R (-6), ab_I 0, ab_I 99] τ (fun r σ' => ab_Run X 189 59 (14, 0, 0) [ab_R 355, ab_I v1, ab_I v2, ab_I v3, ab_R 0, ab_R 0] (ab_psh r []) σ' Q)) : ab_Run X 189 49 (14, 0, 0) [ab_R 355, ab_I v1, ab_I v2, ab_R 0, ab_R 0, ab_R 0] (ab_psh (some (ab_I v3)) []) τ Q := by
  simp (disch := omega) only [rX13_readKitchen_49, rX13_readKitchen_50, rX13_readKitchen_51, rX13_readKitchen_53, rX13_readKitchen_54, rX13_readKitchen_56, gS_355, g, ne_eq, not_false_eq_true, not_true_eq_false, true_and, and_true, and_self, true_imp_iff, false_imp_iff, imp_self, Bool.not_false, Bool.not_true, reduceCtorEq, ab_isJ, ab_psh, ab_cats, Bool.false_eq_true, if_true, if_false, ab_shf, ab_shw, Int.le_refl, Classical.not_not, Int.zero_add, forall_const, ↓ab_itT, ↓ab_itF, ab_anT, ab_w32_id, ab_rdf_ne, ab_rdw_ne, ab_rdw_eq, ab_rdf_in, ab_td2, ab_tm2, true_or, or_true]
  all_goals exact key

theorem ms_rules_p5 (g : ab_Geo τ) (key : ab_Do X 179 [ab_R 355, ab_R (-7), ab_I 0, ab_I 99] τ (fun r σ' => ab_Run X 189 70 (14, 0, 0) [ab_R 355, ab_I v1, ab_I v2, ab_I v3, ab_I v4, ab_R 0] (ab_psh r []) σ' Q)) : ab_Run X 189 59 (14, 0, 0) [ab_R 355, ab_I v1, ab_I v2, ab_I v3, ab_R 0, ab_R 0] (ab_psh (some (ab_I v4)) []) τ Q := by
  simp (disch := omega) only [rX13_readKitchen_59, rX13_readKitchen_61, rX13_readKitchen_62, rX13_readKitchen_64, rX13_readKitchen_65, rX13_readKitchen_67, gS_355, g, ne_eq, not_false_eq_true, not_true_eq_false, true_and, and_true, and_self, true_imp_iff, false_imp_iff, imp_self, Bool.not_false, Bool.not_true, reduceCtorEq, ab_isJ, ab_psh, ab_cats, Bool.false_eq_true, if_true, if_false, ab_shf, ab_shw, Int.le_refl, Classical.not_not, Int.zero_add, forall_const, ↓ab_itT, ↓ab_itF, ab_anT, ab_w32_id, ab_rdf_ne, ab_rdw_ne, ab_rdw_eq, ab_rdf_in, ab_td2, ab_tm2, true_or, or_true]
  all_goals exact key

theorem ms_rules_e (g : ab_Geo τ) (hR : ar_MR τ M κ) (n5 : ¬ ab_rd τ 355 9 = 5) (key : Q none (ab_wr (ab_wr (ab_wr (ab_wr (ab_wr (ab_wr τ M 11 1) M 0 v1) M 1 v2) M 2 v3) M 3 v4) M 4 v5)) : ab_Run X 189 70 (14, 0, 0) [ab_R 355, ab_I v1, ab_I v2, ab_I v3, ab_I v4, ab_R 0] (ab_psh (some (ab_I v5)) []) τ Q := by
  have h4 := hR.1
  have hM := hR.2.1.1
  have s0 := mS hR.2.1
  clear hR
  simp (disch := omega) only [rX13_readKitchen_70, rX13_readKitchen_72, rX13_readKitchen_73, rX13_readKitchen_76, rX13_readKitchen_77, rX13_readKitchen_80, rX13_readKitchen_81, rX13_readKitchen_82, rX13_readKitchen_85, rX13_readKitchen_86, rX13_readKitchen_89, rX13_readKitchen_90, rX13_readKitchen_93, rX13_readKitchen_94, rX13_readKitchen_97, rX13_readKitchen_98, rX13_readKitchen_101, rX13_readKitchen_102, rX13_readKitchen_105, rX13_readKitchen_106, rX13_readKitchen_109, rX13_readKitchen_110, rX13_readKitchen_113, rX13_readKitchen_114, rX13_readKitchen_117, rX13_readKitchen_119, rX13_readKitchen_122, rX13_readKitchen_123, rX13_readKitchen_126, rX13_readKitchen_128, rX13_readKitchen_131, gS_355, g, h4, s0, ne_eq, not_false_eq_true, not_true_eq_false, true_and, and_true, and_self, true_imp_iff, false_imp_iff, imp_self, Bool.not_false, Bool.not_true, reduceCtorEq, ab_isJ, ab_psh, ab_cats, Bool.false_eq_true, if_true, if_false, ab_shf, ab_shw, Int.le_refl, Classical.not_not, Int.zero_add, forall_const, ↓ab_itT, ↓ab_itF, ab_anT, ab_w32_id, ab_rdf_ne, ab_rdw_ne, ab_rdw_eq, ab_rdf_in, ab_td2, ab_tm2, true_or, or_true]
  all_goals exact key

theorem mq_readKitchen (h : ac_RM σ n tp s) (hR : ar_MR σ M κ) (hj : ar_J κ) (hk1 : ac_kk tp n s ≠ 1) (hF : ar_mF Q σ M (if κ 11 0 = 1 then .inl (3, s) else pr_rules tp n κ (ac_nx tp n s))) (hO : ar_mO Q σ M n tp (if κ 11 0 = 1 then .inl (3, s) else pr_rules tp n κ (ac_nx tp n s))) : ab_Do X 189 [ab_R 355] σ Q := by
  have hn := hj.n10
  have hM := hR.2.1.1
  generalize er : (if κ 11 0 = 1 then .inl (3, s) else pr_rules tp n κ (ac_nx tp n s) : ar_R) = r at hF hO
  by_cases z : κ 11 0 = 1
  · rw [if_pos z] at er
    have f := ac_flw (k := 3) h
    refine ms_rules_1 h.1.1 hR z ((mq_flaw h).mpr ?_)
    exact mt_rules0 f.1 (hR.same f.2) hn (hF 3 s er.symm _ f.2.vw f.1)
  · rw [if_neg z] at er
    unfold pr_rules at er
    refine ms_rules_0 h.1.1 hR (by have := hj.2.2.1; omega) (mq_goesOnR h hk1 (fun τ0 u0 R0 => ?_))
    have K0 := hR.same u0.uw
    have W0 : ab_Same (ar_PW M) σ τ0 := u0.uw.vw
    refine ms_rules_p1 R0.1.1 (mq_partE R0 ac_TX1 ac_tok1 er (fun wf pl ef υ u f => mt_rules1 f (K0.same u) hn (hF wf pl ef υ (W0.trans u.vw) f)) (fun v1 s1 er1 τ1 u1 R1 => ?_))
    have K1 := K0.same u1
    have W1 := W0.trans (ab_Same.vw (M := M) u1)
    refine ms_rules_p2 R1.1.1 (mq_partE R1 ac_TX2 ac_tok2 er1 (fun wf pl ef υ u f => mt_rules2 f (K1.same u) hn (hF wf pl ef υ (W1.trans u.vw) f)) (fun v2 s2 er2 τ2 u2 R2 => ?_))
    have K2 := K1.same u2
    have W2 := W1.trans (ab_Same.vw (M := M) u2)
    refine ms_rules_p3 R2.1.1 (mq_partE R2 ac_TX3 ac_tok3 er2 (fun wf pl ef υ u f => mt_rules3 f (K2.same u) hn (hF wf pl ef υ (W2.trans u.vw) f)) (fun v3 s3 er3 τ3 u3 R3 => ?_))
    have K3 := K2.same u3
    have W3 := W2.trans (ab_Same.vw (M := M) u3)
    refine ms_rules_p4 R3.1.1 (mq_partE R3 ac_TX4 ac_tok4 er3 (fun wf pl ef υ u f => mt_rules4 f (K3.same u) hn (hF wf pl ef υ (W3.trans u.vw) f)) (fun v4 s4 er4 τ4 u4 R4 => ?_))
    have K4 := K3.same u4
    have W4 := W3.trans (ab_Same.vw (M := M) u4)
    refine ms_rules_p5 R4.1.1 (mq_partE R4 ac_TX5 ac_tok5 er4 (fun wf pl ef υ u f => mt_rules5 f (K4.same u) hn (hF wf pl ef υ (W4.trans u.vw) f)) (fun v5 s5 er5 τ5 u5 R5 => ?_))
    have K5 := K4.same u5
    have W5 := W4.trans (ab_Same.vw (M := M) u5)
    refine ms_rules_e R5.1.1 K5 R5.n5 (hO _ _ er5.symm _ ?_ ?_ ?_)
    · exact (((((W5.wr (Or.inr (Int.le_refl M))).wr (Or.inr (Int.le_refl M))).wr (Or.inr (Int.le_refl M))).wr (Or.inr (Int.le_refl M))).wr (Or.inr (Int.le_refl M))).wr (Or.inr (Int.le_refl M))
    · exact (((((R5.wrM hM).wrM hM).wrM hM).wrM hM).wrM hM).wrM hM
    · exact (((((K5.wr1 (by decide)).wr1 (by decide)).wr1 (by decide)).wr1 (by decide)).wr1 (by decide)).wr1 (by decide)
theorem mt_for0 (h : ac_RF τ w pl) (hR : ar_MR τ M κ) (hn : 0 ≤ κ 10 0 ∧ κ 10 0 ≤ 11) (kq : Q none τ) : ab_Run X 193 13 (15, 0, 0) [ab_R 355, ab_R 0, ab_R 0, ab_R 0] (ab_psh none []) τ Q := by
  have g := h.1
  have h9 := h.2.1
  have h4 := hR.1
  have hM := hR.2.1.1
  have s0 := mS hR.2.1
  have c1 := fun Q' => mq_goesOn5 (X := X) (Q := Q') h.1 h.2.1
  have c2 := fun k Q' => mq_flaw5 (X := X) (Q := Q') (k := k) h
  have c3 := fun a Q' => mq_isWord5 (X := X) (Q := Q') (a := a) h.1 h.2.1
  have c4 := fun a lo hi Q' (ha : a ≤ -2) => mq_part5 (X := X) (Q := Q') (a := a) (lo := lo) (hi := hi) h ha
  have c5 := fun lo hi Q' => mq_whole5 (X := X) (Q := Q') (lo := lo) (hi := hi) h
  have c6 := fun Q' => mq_known5 (X := X) (Q := Q') h hR hn
  have c7 := fun Q' => mq_pers5 (X := X) (Q := Q') h hR hn
  have c8 := fun Q' => mq_side5 (X := X) (Q := Q') h
  clear h hR
  simp (disch := omega) only [rX13_readFor_13, rX13_readFor_14, rX13_readFor_17, rX13_readFor_18, rX13_readFor_19, rX13_readFor_22, rX13_readFor_23, rX13_readFor_24, rX13_readFor_27, rX13_readFor_28, rX13_readFor_31, rX13_readFor_32, rX13_readFor_33, rX13_readFor_36, rX13_readFor_37, rX13_readFor_40, rX13_readFor_43, rX13_readFor_44, rX13_readFor_45, rX13_readFor_46, rX13_readFor_49, rX13_readFor_52, rX13_readFor_53, rX13_readFor_54, rX13_readFor_57, rX13_readFor_58, rX13_readFor_61, rX13_readFor_62, rX13_readFor_63, rX13_readFor_65, rX13_readFor_68, rX13_readFor_69, rX13_readFor_70, rX13_readFor_73, rX13_readFor_74, rX13_readFor_77, gS_355, g, h9, h4, s0, c1, c2, c3, c4, c5, c6, c7, c8, ne_eq, not_false_eq_true, not_true_eq_false, true_and, and_true, and_self, true_imp_iff, false_imp_iff, imp_self, Bool.not_false, Bool.not_true, reduceCtorEq, ab_isJ, ab_psh, ab_cats, Bool.false_eq_true, if_true, if_false, ab_shf, ab_shw, Int.le_refl, Classical.not_not, Int.zero_add, forall_const, ↓ab_itT, ↓ab_itF, ab_anT, ab_w32_id, ab_rdf_ne, ab_rdw_ne, ab_rdw_eq, ab_rdf_in, ab_td2, ab_tm2, true_or, or_true]
  all_goals exact kq

theorem mt_for1 (h : ac_RF τ w pl) (hR : ar_MR τ M κ) (hn : 0 ≤ κ 10 0 ∧ κ 10 0 ≤ 11) (kq : Q none τ) : ab_Run X 193 17 (15, 0, 0) [ab_R 355, ab_R 0, ab_R 0, ab_R 0] (ab_psh (some (ab_I v)) []) τ Q := by
  have g := h.1
  have h9 := h.2.1
  have h4 := hR.1
  have hM := hR.2.1.1
  have s0 := mS hR.2.1
  have c1 := fun Q' => mq_goesOn5 (X := X) (Q := Q') h.1 h.2.1
  have c2 := fun k Q' => mq_flaw5 (X := X) (Q := Q') (k := k) h
  have c3 := fun a Q' => mq_isWord5 (X := X) (Q := Q') (a := a) h.1 h.2.1
  have c4 := fun a lo hi Q' (ha : a ≤ -2) => mq_part5 (X := X) (Q := Q') (a := a) (lo := lo) (hi := hi) h ha
  have c5 := fun lo hi Q' => mq_whole5 (X := X) (Q := Q') (lo := lo) (hi := hi) h
  have c6 := fun Q' => mq_known5 (X := X) (Q := Q') h hR hn
  have c7 := fun Q' => mq_pers5 (X := X) (Q := Q') h hR hn
  have c8 := fun Q' => mq_side5 (X := X) (Q := Q') h
  clear h hR
  simp (disch := omega) only [rX13_readFor_17, rX13_readFor_18, rX13_readFor_19, rX13_readFor_22, rX13_readFor_23, rX13_readFor_24, rX13_readFor_27, rX13_readFor_28, rX13_readFor_31, rX13_readFor_32, rX13_readFor_33, rX13_readFor_36, rX13_readFor_37, rX13_readFor_40, rX13_readFor_43, rX13_readFor_44, rX13_readFor_45, rX13_readFor_46, rX13_readFor_49, rX13_readFor_52, rX13_readFor_53, rX13_readFor_54, rX13_readFor_57, rX13_readFor_58, rX13_readFor_61, rX13_readFor_62, rX13_readFor_63, rX13_readFor_65, rX13_readFor_68, rX13_readFor_69, rX13_readFor_70, rX13_readFor_73, rX13_readFor_74, rX13_readFor_77, gS_355, g, h9, h4, s0, c1, c2, c3, c4, c5, c6, c7, c8, ne_eq, not_false_eq_true, not_true_eq_false, true_and, and_true, and_self, true_imp_iff, false_imp_iff, imp_self, Bool.not_false, Bool.not_true, reduceCtorEq, ab_isJ, ab_psh, ab_cats, Bool.false_eq_true, if_true, if_false, ab_shf, ab_shw, Int.le_refl, Classical.not_not, Int.zero_add, forall_const, ↓ab_itT, ↓ab_itF, ab_anT, ab_w32_id, ab_rdf_ne, ab_rdw_ne, ab_rdw_eq, ab_rdf_in, ab_td2, ab_tm2, true_or, or_true]
  all_goals exact kq

theorem mt_for2 (h : ac_RF τ w pl) (hR : ar_MR τ M κ) (hn : 0 ≤ κ 10 0 ∧ κ 10 0 ≤ 11) (kq : Q none τ) : ab_Run X 193 22 (15, 0, 0) [ab_R 355, ab_I p, ab_R 0, ab_R 0] (ab_psh (some (ab_I v)) []) τ Q := by
  have g := h.1
  have h9 := h.2.1
  have h4 := hR.1
  have hM := hR.2.1.1
  have s0 := mS hR.2.1
  have c1 := fun Q' => mq_goesOn5 (X := X) (Q := Q') h.1 h.2.1
  have c2 := fun k Q' => mq_flaw5 (X := X) (Q := Q') (k := k) h
  have c3 := fun a Q' => mq_isWord5 (X := X) (Q := Q') (a := a) h.1 h.2.1
  have c4 := fun a lo hi Q' (ha : a ≤ -2) => mq_part5 (X := X) (Q := Q') (a := a) (lo := lo) (hi := hi) h ha
  have c5 := fun lo hi Q' => mq_whole5 (X := X) (Q := Q') (lo := lo) (hi := hi) h
  have c6 := fun Q' => mq_known5 (X := X) (Q := Q') h hR hn
  have c7 := fun Q' => mq_pers5 (X := X) (Q := Q') h hR hn
  have c8 := fun Q' => mq_side5 (X := X) (Q := Q') h
  clear h hR
  simp (disch := omega) only [rX13_readFor_22, rX13_readFor_23, rX13_readFor_24, rX13_readFor_27, rX13_readFor_28, rX13_readFor_31, rX13_readFor_32, rX13_readFor_33, rX13_readFor_36, rX13_readFor_37, rX13_readFor_40, rX13_readFor_43, rX13_readFor_44, rX13_readFor_45, rX13_readFor_46, rX13_readFor_49, rX13_readFor_52, rX13_readFor_53, rX13_readFor_54, rX13_readFor_57, rX13_readFor_58, rX13_readFor_61, rX13_readFor_62, rX13_readFor_63, rX13_readFor_65, rX13_readFor_68, rX13_readFor_69, rX13_readFor_70, rX13_readFor_73, rX13_readFor_74, rX13_readFor_77, gS_355, g, h9, h4, s0, c1, c2, c3, c4, c5, c6, c7, c8, ne_eq, not_false_eq_true, not_true_eq_false, true_and, and_true, and_self, true_imp_iff, false_imp_iff, imp_self, Bool.not_false, Bool.not_true, reduceCtorEq, ab_isJ, ab_psh, ab_cats, Bool.false_eq_true, if_true, if_false, ab_shf, ab_shw, Int.le_refl, Classical.not_not, Int.zero_add, forall_const, ↓ab_itT, ↓ab_itF, ab_anT, ab_w32_id, ab_rdf_ne, ab_rdw_ne, ab_rdw_eq, ab_rdf_in, ab_td2, ab_tm2, true_or, or_true]
  all_goals exact kq

theorem mt_for3 (h : ac_RF τ w pl) (hR : ar_MR τ M κ) (hn : 0 ≤ κ 10 0 ∧ κ 10 0 ≤ 11) (kq : Q none τ) : ab_Run X 193 57 (15, 0, 0) [ab_R 355, ab_I p, ab_I q, ab_R 0] [] τ Q := by
  have g := h.1
  have h9 := h.2.1
  have h4 := hR.1
  have hM := hR.2.1.1
  have s0 := mS hR.2.1
  have c1 := fun Q' => mq_goesOn5 (X := X) (Q := Q') h.1 h.2.1
  have c2 := fun k Q' => mq_flaw5 (X := X) (Q := Q') (k := k) h
  have c3 := fun a Q' => mq_isWord5 (X := X) (Q := Q') (a := a) h.1 h.2.1
  have c4 := fun a lo hi Q' (ha : a ≤ -2) => mq_part5 (X := X) (Q := Q') (a := a) (lo := lo) (hi := hi) h ha
  have c5 := fun lo hi Q' => mq_whole5 (X := X) (Q := Q') (lo := lo) (hi := hi) h
  have c6 := fun Q' => mq_known5 (X := X) (Q := Q') h hR hn
  have c7 := fun Q' => mq_pers5 (X := X) (Q := Q') h hR hn
  have c8 := fun Q' => mq_side5 (X := X) (Q := Q') h
  clear h hR
  simp (disch := omega) only [rX13_readFor_57, rX13_readFor_58, rX13_readFor_61, rX13_readFor_62, rX13_readFor_63, rX13_readFor_65, rX13_readFor_68, rX13_readFor_69, rX13_readFor_70, rX13_readFor_73, rX13_readFor_74, rX13_readFor_77, gS_355, g, h9, h4, s0, c1, c2, c3, c4, c5, c6, c7, c8, ne_eq, not_false_eq_true, not_true_eq_false, true_and, and_true, and_self, true_imp_iff, false_imp_iff, imp_self, Bool.not_false, Bool.not_true, reduceCtorEq, ab_isJ, ab_psh, ab_cats, Bool.false_eq_true, if_true, if_false, ab_shf, ab_shw, Int.le_refl, Classical.not_not, Int.zero_add, forall_const, ↓ab_itT, ↓ab_itF, ab_anT, ab_w32_id, ab_rdf_ne, ab_rdw_ne, ab_rdw_eq, ab_rdf_in, ab_td2, ab_tm2, true_or, or_true]
  all_goals exact kq

theorem mt_for4 (h : ac_RF τ w pl) (hR : ar_MR τ M κ) (hn : 0 ≤ κ 10 0 ∧ κ 10 0 ≤ 11) (kq : Q none τ) : ab_Run X 193 68 (15, 0, 0) [ab_R 355, ab_I p, ab_I q, ab_R 0] (ab_psh (some (ab_I v)) []) τ Q := by
  have g := h.1
  have h9 := h.2.1
  have h4 := hR.1
  have hM := hR.2.1.1
  have s0 := mS hR.2.1
  have c1 := fun Q' => mq_goesOn5 (X := X) (Q := Q') h.1 h.2.1
  have c2 := fun k Q' => mq_flaw5 (X := X) (Q := Q') (k := k) h
  have c3 := fun a Q' => mq_isWord5 (X := X) (Q := Q') (a := a) h.1 h.2.1
  have c4 := fun a lo hi Q' (ha : a ≤ -2) => mq_part5 (X := X) (Q := Q') (a := a) (lo := lo) (hi := hi) h ha
  have c5 := fun lo hi Q' => mq_whole5 (X := X) (Q := Q') (lo := lo) (hi := hi) h
  have c6 := fun Q' => mq_known5 (X := X) (Q := Q') h hR hn
  have c7 := fun Q' => mq_pers5 (X := X) (Q := Q') h hR hn
  have c8 := fun Q' => mq_side5 (X := X) (Q := Q') h
  clear h hR
  simp (disch := omega) only [rX13_readFor_68, rX13_readFor_69, rX13_readFor_70, rX13_readFor_73, rX13_readFor_74, rX13_readFor_77, gS_355, g, h9, h4, s0, c1, c2, c3, c4, c5, c6, c7, c8, ne_eq, not_false_eq_true, not_true_eq_false, true_and, and_true, and_self, true_imp_iff, false_imp_iff, imp_self, Bool.not_false, Bool.not_true, reduceCtorEq, ab_isJ, ab_psh, ab_cats, Bool.false_eq_true, if_true, if_false, ab_shf, ab_shw, Int.le_refl, Classical.not_not, Int.zero_add, forall_const, ↓ab_itT, ↓ab_itF, ab_anT, ab_w32_id, ab_rdf_ne, ab_rdw_ne, ab_rdw_eq, ab_rdf_in, ab_td2, ab_tm2, true_or, or_true]
  all_goals exact kq

theorem ms_for_b (g : ab_Geo τ) (hR : ar_MR τ M κ) (key : ab_Do X 181 [ab_R 355, ab_I (κ 7 0), ab_I 10] τ (fun r σ' => ab_Run X 193 13 (15, 0, 0) [ab_R 355, ab_R 0, ab_R 0, ab_R 0] (ab_psh r []) σ' Q)) : ab_Do X 193 [ab_R 355] τ Q := by
  have h4 := hR.1
  have hM := hR.2.1.1
  have s0 := mS hR.2.1
  have c7 := hR.2.2.1 7 (by omega) (by omega)
  clear hR
  simp (disch := omega) only [do_X13_readFor, rX13_readFor_0, rX13_readFor_1, rX13_readFor_2, rX13_readFor_5, rX13_readFor_8, rX13_readFor_10, gS_355, g, h4, s0, c7, ne_eq, not_false_eq_true, not_true_eq_false, true_and, and_true, and_self, true_imp_iff, false_imp_iff, imp_self, Bool.not_false, Bool.not_true, reduceCtorEq, ab_isJ, ab_psh, ab_cats, Bool.false_eq_true, if_true, if_false, ab_shf, ab_shw, Int.le_refl, Classical.not_not, Int.zero_add, forall_const, ↓ab_itT, ↓ab_itF, ab_anT, ab_w32_id, ab_rdf_ne, ab_rdw_ne, ab_rdw_eq, ab_rdf_in, ab_td2, ab_tm2, true_or, or_true]
  all_goals exact key

theorem ms_for_p (g : ab_Geo τ) (key : ab_Do X 185 [ab_R 355] τ (fun r σ' => ab_Run X 193 17 (15, 0, 0) [ab_R 355, ab_R 0, ab_R 0, ab_R 0] (ab_psh r []) σ' Q)) : ab_Run X 193 13 (15, 0, 0) [ab_R 355, ab_R 0, ab_R 0, ab_R 0] (ab_psh none []) τ Q := by
  simp (disch := omega) only [rX13_readFor_13, rX13_readFor_14, gS_355, g, ne_eq, not_false_eq_true, not_true_eq_false, true_and, and_true, and_self, true_imp_iff, false_imp_iff, imp_self, Bool.not_false, Bool.not_true, reduceCtorEq, ab_isJ, ab_psh, ab_cats, Bool.false_eq_true, if_true, if_false, ab_shf, ab_shw, Int.le_refl, Classical.not_not, Int.zero_add, forall_const, ↓ab_itT, ↓ab_itF, ab_anT, ab_w32_id, ab_rdf_ne, ab_rdw_ne, ab_rdw_eq, ab_rdf_in, ab_td2, ab_tm2, true_or, or_true]
  all_goals exact key

theorem ms_for_k (g : ab_Geo τ) (key : ab_Do X 184 [ab_R 355] τ (fun r σ' => ab_Run X 193 22 (15, 0, 0) [ab_R 355, ab_I p, ab_R 0, ab_R 0] (ab_psh r []) σ' Q)) : ab_Run X 193 17 (15, 0, 0) [ab_R 355, ab_R 0, ab_R 0, ab_R 0] (ab_psh (some (ab_I p)) []) τ Q := by
  simp (disch := omega) only [rX13_readFor_17, rX13_readFor_18, rX13_readFor_19, gS_355, g, ne_eq, not_false_eq_true, not_true_eq_false, true_and, and_true, and_self, true_imp_iff, false_imp_iff, imp_self, Bool.not_false, Bool.not_true, reduceCtorEq, ab_isJ, ab_psh, ab_cats, Bool.false_eq_true, if_true, if_false, ab_shf, ab_shw, Int.le_refl, Classical.not_not, Int.zero_add, forall_const, ↓ab_itT, ↓ab_itF, ab_anT, ab_w32_id, ab_rdf_ne, ab_rdw_ne, ab_rdw_eq, ab_rdf_in, ab_td2, ab_tm2, true_or, or_true]
  all_goals exact key

theorem ms_for_m (h : ac_RM τ n tp s) (hR : ar_MR τ M κ) (hp : 0 ≤ p ∧ p < 6) (hq : 0 ≤ q ∧ q < 6) (b20 : 0 ≤ κ 20 p ∧ κ 20 p < 64) (kF : (q = p ∨ ac_bit (κ 20 p) q = 1) → ab_Run X 193 57 (15, 0, 0) [ab_R 355, ab_I p, ab_I q, ab_R 0] [] (ab_wr (ab_wr (ab_wr τ 355 13 3) 355 14 s) 355 9 5) Q) (kO : ¬ (q = p ∨ ac_bit (κ 20 p) q = 1) → ab_Run X 193 57 (15, 0, 0) [ab_R 355, ab_I p, ab_I q, ab_R 0] [] τ Q) : ab_Run X 193 22 (15, 0, 0) [ab_R 355, ab_I p, ab_R 0, ab_R 0] (ab_psh (some (ab_I q)) []) τ Q := by
  have g := h.1.1
  have h5 := h.n5
  have h4 := hR.1
  have hM := hR.2.1.1
  have s0 := mS hR.2.1
  have s20 := mS_20 hR.2.1
  have p20 := mP_20 hR.2.1
  have e20 : ab_rd τ (M + 9) p = κ 20 p := hR.2.2.2 20 p (by omega) (by omega) hp.1 (by show p < 6; omega)
  have c2 := fun k Q' => mq_flaw (X := X) (Q := Q') (k := k) h
  have cb := fun Q' => mq_bit (X := X) (σ := τ) (Q := Q') (x := κ 20 p) (b := q) b20 hq
  clear h hR
  by_cases z : q = p
  · have kq := kF (Or.inl z)
    clear kF kO cb
    simp (disch := omega) only [rX13_readFor_22, rX13_readFor_23, rX13_readFor_24, rX13_readFor_27, rX13_readFor_28, rX13_readFor_31, rX13_readFor_32, rX13_readFor_33, rX13_readFor_52, rX13_readFor_53, rX13_readFor_54, gS_355, g, c2, ne_eq, not_false_eq_true, not_true_eq_false, true_and, and_true, and_self, true_imp_iff, false_imp_iff, imp_self, Bool.not_false, Bool.not_true, reduceCtorEq, ab_isJ, ab_psh, ab_cats, Bool.false_eq_true, if_true, if_false, ab_shf, ab_shw, Int.le_refl, Classical.not_not, Int.zero_add, forall_const, ↓ab_itT, ↓ab_itF, ab_anT, ab_w32_id, ab_rdf_ne, ab_rdw_ne, ab_rdw_eq, ab_rdf_in, ab_td2, ab_tm2, true_or, or_true]
    all_goals exact kq
  · by_cases y : ac_bit (κ 20 p) q = 1
    · have kq := kF (Or.inr y)
      rw [y] at cb
      clear kF kO
      simp (disch := omega) only [rX13_readFor_22, rX13_readFor_23, rX13_readFor_24, rX13_readFor_27, rX13_readFor_28, rX13_readFor_31, rX13_readFor_32, rX13_readFor_33, rX13_readFor_36, rX13_readFor_37, rX13_readFor_40, rX13_readFor_43, rX13_readFor_44, rX13_readFor_45, rX13_readFor_46, rX13_readFor_49, rX13_readFor_52, rX13_readFor_53, rX13_readFor_54, gS_355, g, h4, s0, s20, p20, e20, cb, c2, ne_eq, not_false_eq_true, not_true_eq_false, true_and, and_true, and_self, true_imp_iff, false_imp_iff, imp_self, Bool.not_false, Bool.not_true, reduceCtorEq, ab_isJ, ab_psh, ab_cats, Bool.false_eq_true, if_true, if_false, ab_shf, ab_shw, Int.le_refl, Classical.not_not, Int.zero_add, forall_const, ↓ab_itT, ↓ab_itF, ab_anT, ab_w32_id, ab_rdf_ne, ab_rdw_ne, ab_rdw_eq, ab_rdf_in, ab_td2, ab_tm2, true_or, or_true]
      all_goals exact kq
    · have kq := kO (fun u => u.elim z y)
      have y0 : ac_bit (κ 20 p) q = 0 := by have := ac_bit01 (x := κ 20 p) (b := q); omega
      rw [y0] at cb
      clear kF kO c2
      simp (disch := omega) only [rX13_readFor_22, rX13_readFor_23, rX13_readFor_24, rX13_readFor_27, rX13_readFor_28, rX13_readFor_31, rX13_readFor_32, rX13_readFor_33, rX13_readFor_36, rX13_readFor_37, rX13_readFor_40, rX13_readFor_43, rX13_readFor_44, rX13_readFor_45, rX13_readFor_46, rX13_readFor_49, gS_355, g, h4, s0, s20, p20, e20, cb, ne_eq, not_false_eq_true, not_true_eq_false, true_and, and_true, and_self, true_imp_iff, false_imp_iff, imp_self, Bool.not_false, Bool.not_true, reduceCtorEq, ab_isJ, ab_psh, ab_cats, Bool.false_eq_true, if_true, if_false, ab_shf, ab_shw, Int.le_refl, Classical.not_not, Int.zero_add, forall_const, ↓ab_itT, ↓ab_itF, ab_anT, ab_w32_id, ab_rdf_ne, ab_rdw_ne, ab_rdw_eq, ab_rdf_in, ab_td2, ab_tm2, true_or, or_true]
      all_goals exact kq

theorem ms_for_g (g : ab_Geo τ) (key : ab_Do X 171 [ab_R 355] τ (fun r σ' => ab_Run X 193 61 (15, 0, 0) [ab_R 355, ab_I p, ab_I q, ab_R 0] (ab_psh r []) σ' Q)) : ab_Run X 193 57 (15, 0, 0) [ab_R 355, ab_I p, ab_I q, ab_R 0] [] τ Q := by
  simp (disch := omega) only [rX13_readFor_57, rX13_readFor_58, gS_355, g, ne_eq, not_false_eq_true, not_true_eq_false, true_and, and_true, and_self, true_imp_iff, false_imp_iff, imp_self, Bool.not_false, Bool.not_true, reduceCtorEq, ab_isJ, ab_psh, ab_cats, Bool.false_eq_true, if_true, if_false, ab_shf, ab_shw, Int.le_refl, Classical.not_not, Int.zero_add, forall_const, ↓ab_itT, ↓ab_itF, ab_anT, ab_w32_id, ab_rdf_ne, ab_rdw_ne, ab_rdw_eq, ab_rdf_in, ab_td2, ab_tm2, true_or, or_true]
  all_goals exact key

theorem ms_for_w (g : ab_Geo τ) (key : ab_Do X 178 [ab_R 355, ab_I 0, ab_I 99] τ (fun r σ' => ab_Run X 193 68 (15, 0, 0) [ab_R 355, ab_I p, ab_I q, ab_R 0] (ab_psh r []) σ' Q)) : ab_Run X 193 61 (15, 0, 0) [ab_R 355, ab_I p, ab_I q, ab_R 0] (ab_psh none []) τ Q := by
  simp (disch := omega) only [rX13_readFor_61, rX13_readFor_62, rX13_readFor_63, rX13_readFor_65, gS_355, g, ne_eq, not_false_eq_true, not_true_eq_false, true_and, and_true, and_self, true_imp_iff, false_imp_iff, imp_self, Bool.not_false, Bool.not_true, reduceCtorEq, ab_isJ, ab_psh, ab_cats, Bool.false_eq_true, if_true, if_false, ab_shf, ab_shw, Int.le_refl, Classical.not_not, Int.zero_add, forall_const, ↓ab_itT, ↓ab_itF, ab_anT, ab_w32_id, ab_rdf_ne, ab_rdw_ne, ab_rdw_eq, ab_rdf_in, ab_td2, ab_tm2, true_or, or_true]
  all_goals exact key

theorem ms_for_e (g : ab_Geo τ) (hR : ar_MR τ M κ) (n5 : ¬ ab_rd τ 355 9 = 5) (hp : 0 ≤ p ∧ p < 6) (b21 : 0 ≤ κ 21 p ∧ κ 21 p ≤ 2000) (hv : 0 ≤ v ∧ v ≤ 99) (n7 : 0 ≤ κ 7 0 ∧ κ 7 0 ≤ 10) (key : Q none (ab_wr (ab_wr (ab_wr τ (M + 9) p (ar_orb (κ 20 p) q)) (M + 10) p (κ 21 p + v)) M 7 (κ 7 0 + 1))) : ab_Run X 193 68 (15, 0, 0) [ab_R 355, ab_I p, ab_I q, ab_R 0] (ab_psh (some (ab_I v)) []) τ Q := by
  have h4 := hR.1
  have hM := hR.2.1.1
  have s0 := mS hR.2.1
  have c7 := hR.2.2.1 7 (by omega) (by omega)
  have s20 := mS_20 hR.2.1
  have p20 := mP_20 hR.2.1
  have e20 : ab_rd τ (M + 9) p = κ 20 p := hR.2.2.2 20 p (by omega) (by omega) hp.1 (by show p < 6; omega)
  have s21 := mS_21 hR.2.1
  have p21 := mP_21 hR.2.1
  have e21 : ab_rd τ (M + 10) p = κ 21 p := hR.2.2.2 21 p (by omega) (by omega) hp.1 (by show p < 6; omega)
  clear hR
  simp (disch := omega) only [rX13_readFor_68, rX13_readFor_69, rX13_readFor_70, rX13_readFor_73, rX13_readFor_74, rX13_readFor_77, rX13_readFor_78, rX13_readFor_79, rX13_readFor_82, rX13_readFor_85, rX13_readFor_86, rX13_readFor_87, rX13_readFor_88, rX13_readFor_89, rX13_readFor_90, rX13_readFor_91, rX13_readFor_92, rX13_readFor_93, rX13_readFor_94, rX13_readFor_97, rX13_readFor_100, rX13_readFor_101, rX13_readFor_102, rX13_readFor_103, rX13_readFor_104, rX13_readFor_105, rX13_readFor_106, rX13_readFor_107, rX13_readFor_110I, rX13_readFor_110R, rX13_readFor_111, rX13_readFor_114, rX13_readFor_115, rX13_readFor_116, rX13_readFor_119, gS_355, g, h4, s0, c7, s20, p20, e20, s21, p21, e21, ne_eq, not_false_eq_true, not_true_eq_false, true_and, and_true, and_self, true_imp_iff, false_imp_iff, imp_self, Bool.not_false, Bool.not_true, reduceCtorEq, ab_isJ, ab_psh, ab_cats, Bool.false_eq_true, if_true, if_false, ab_shf, ab_shw, Int.le_refl, Classical.not_not, Int.zero_add, forall_const, ↓ab_itT, ↓ab_itF, ab_anT, ab_w32_id, ab_rdf_ne, ab_rdw_ne, ab_rdw_eq, ab_rdf_in, ab_td2, ab_tm2, true_or, or_true]
  all_goals exact key

theorem mq_readFor (h : ac_RM σ n tp s) (hR : ar_MR σ M κ) (hj : ar_J κ) (hk1 : ac_kk tp n s ≠ 1) (hF : ar_mF Q σ M (pr_enter tp n κ (κ 7 0) 10 s (pr_for tp n κ))) (hO : ar_mO Q σ M n tp (pr_enter tp n κ (κ 7 0) 10 s (pr_for tp n κ))) : ab_Do X 193 [ab_R 355] σ Q := by
  have hn := hj.n10
  have hM := hR.2.1.1
  have hL := hj.2.2.2.2.2.1
  have n5 := hj.1.1
  have n6 := hj.1.2.1
  have n7 := hj.1.2.2.1
  generalize er : pr_enter tp n κ (κ 7 0) 10 s (pr_for tp n κ) = r at hF hO
  refine ms_for_b h.1.1 hR (mq_enterE h hR hk1 hj.2.2.1 n7.2 (fun u => by have := hj.2.2.2.2.1 u; omega) er (fun wf pl ef υ u f => mt_for0 f (hR.same u) hn (hF wf pl ef υ u.vw f)) (fun y1 y2 er1 τ1 u1 R1 => ?_))
  unfold pr_for at er1
  have K1 := hR.same u1
  have W1 : ab_Same (ar_PW M) σ τ1 := u1.vw
  refine ms_for_p R1.1.1 (mq_persE R1 K1 hL ⟨n5, n6⟩ er1 (fun wf pl ef υ u f => mt_for1 f (K1.same u) hn (hF wf pl ef υ (W1.trans u.vw) f)) (fun p pb er2 τ2 u2 R2 => ?_))
  have K2 := K1.same u2
  have W2 := W1.trans (ab_Same.vw (M := M) u2)
  refine ms_for_k R2.1.1 (mq_knownE R2 K2 hL ⟨n5, n6⟩ er2 (fun wf pl ef υ u f => mt_for2 f (K2.same u) hn (hF wf pl ef υ (W2.trans u.vw) f)) (fun q qb k2 er3 => ?_))
  have bP := hj.2.1.2.1 p pb.1 pb.2
  have b20 := bP.2.2.2.2.1
  have b21 := bP.2.2.2.2.2.1
  have f := ac_flw (k := 3) R2
  refine ms_for_m R2 K2 (by omega) (by omega) b20 (fun z => ?_) (fun z => ?_)
  · refine mt_for3 f.1 (K2.same f.2) hn (hF 3 _ ?_ _ (W2.trans f.2.vw) f.1)
    by_cases y : q = p
    · rw [if_pos y] at er3; exact er3.symm
    · rw [if_neg y, if_pos (z.resolve_left y)] at er3; exact er3.symm
  · rw [if_neg (fun u => z (Or.inl u)), if_neg (fun u => z (Or.inr u))] at er3
    refine ms_for_g R2.1.1 (mq_goesOnR R2 (by omega) (fun τ3 u3 R3 => ?_))
    have K3 := K2.same u3.uw
    have W3 := W2.trans (ab_Same.vw (M := M) u3.uw)
    refine ms_for_w R3.1.1 (mq_wholeE R3 er3 (fun wf pl ef υ u f => mt_for4 f (K3.same u) hn (hF wf pl ef υ (W3.trans u.vw) f)) (fun v vb er4 τ4 u4 R4 => ?_))
    have K4 := K3.same u4
    have W4 := W3.trans (ab_Same.vw (M := M) u4)
    refine ms_for_e R4.1.1 K4 R4.n5 (by omega) (by omega) vb n7 (hO _ _ er4.symm _ ?_ ?_ ?_)
    · exact ((W4.wr (Or.inr (by omega))).wr (Or.inr (by omega))).wr (Or.inr (by omega))
    · exact ((R4.wrM (by omega)).wrM (by omega)).wrM hM
    · exact ((K4.wrA (f := 20) (by omega) (by omega)).wrA (f := 21) (by omega) (by omega)).wr1 (by decide)
theorem mt_won0 (h : ac_RF τ w pl) (hR : ar_MR τ M κ) (hn : 0 ≤ κ 10 0 ∧ κ 10 0 ≤ 11) (kq : Q none τ) : ab_Run X 194 13 (15, 0, 0) [ab_R 355, ab_R 0, ab_R 0, ab_R 0] (ab_psh none []) τ Q := by
  have g := h.1
  have h9 := h.2.1
  have h4 := hR.1
  have hM := hR.2.1.1
  have s0 := mS hR.2.1
  have c1 := fun Q' => mq_goesOn5 (X := X) (Q := Q') h.1 h.2.1
  have c2 := fun k Q' => mq_flaw5 (X := X) (Q := Q') (k := k) h
  have c3 := fun a Q' => mq_isWord5 (X := X) (Q := Q') (a := a) h.1 h.2.1
  have c4 := fun a lo hi Q' (ha : a ≤ -2) => mq_part5 (X := X) (Q := Q') (a := a) (lo := lo) (hi := hi) h ha
  have c5 := fun lo hi Q' => mq_whole5 (X := X) (Q := Q') (lo := lo) (hi := hi) h
  have c6 := fun Q' => mq_known5 (X := X) (Q := Q') h hR hn
  have c7 := fun Q' => mq_pers5 (X := X) (Q := Q') h hR hn
  have c8 := fun Q' => mq_side5 (X := X) (Q := Q') h
  clear h hR
  simp (disch := omega) only [rX13_readWon_13, rX13_readWon_14, rX13_readWon_17, rX13_readWon_18, rX13_readWon_19, rX13_readWon_22, rX13_readWon_23, rX13_readWon_24, rX13_readWon_27, rX13_readWon_28, rX13_readWon_31, rX13_readWon_32, rX13_readWon_33, rX13_readWon_36, rX13_readWon_37, rX13_readWon_38, rX13_readWon_41, rX13_readWon_42, rX13_readWon_45, rX13_readWon_46, rX13_readWon_49, rX13_readWon_50, rX13_readWon_51, rX13_readWon_54, rX13_readWon_55, rX13_readWon_58, gS_355, g, h9, h4, s0, c1, c2, c3, c4, c5, c6, c7, c8, ne_eq, not_false_eq_true, not_true_eq_false, true_and, and_true, and_self, true_imp_iff, false_imp_iff, imp_self, Bool.not_false, Bool.not_true, reduceCtorEq, ab_isJ, ab_psh, ab_cats, Bool.false_eq_true, if_true, if_false, ab_shf, ab_shw, Int.le_refl, Classical.not_not, Int.zero_add, forall_const, ↓ab_itT, ↓ab_itF, ab_anT, ab_w32_id, ab_rdf_ne, ab_rdw_ne, ab_rdw_eq, ab_rdf_in, ab_td2, ab_tm2, true_or, or_true]
  all_goals exact kq

theorem mt_won1 (h : ac_RF τ w pl) (hR : ar_MR τ M κ) (hn : 0 ≤ κ 10 0 ∧ κ 10 0 ≤ 11) (kq : Q none τ) : ab_Run X 194 17 (15, 0, 0) [ab_R 355, ab_R 0, ab_R 0, ab_R 0] (ab_psh (some (ab_I v)) []) τ Q := by
  have g := h.1
  have h9 := h.2.1
  have h4 := hR.1
  have hM := hR.2.1.1
  have s0 := mS hR.2.1
  have c1 := fun Q' => mq_goesOn5 (X := X) (Q := Q') h.1 h.2.1
  have c2 := fun k Q' => mq_flaw5 (X := X) (Q := Q') (k := k) h
  have c3 := fun a Q' => mq_isWord5 (X := X) (Q := Q') (a := a) h.1 h.2.1
  have c4 := fun a lo hi Q' (ha : a ≤ -2) => mq_part5 (X := X) (Q := Q') (a := a) (lo := lo) (hi := hi) h ha
  have c5 := fun lo hi Q' => mq_whole5 (X := X) (Q := Q') (lo := lo) (hi := hi) h
  have c6 := fun Q' => mq_known5 (X := X) (Q := Q') h hR hn
  have c7 := fun Q' => mq_pers5 (X := X) (Q := Q') h hR hn
  have c8 := fun Q' => mq_side5 (X := X) (Q := Q') h
  clear h hR
  simp (disch := omega) only [rX13_readWon_17, rX13_readWon_18, rX13_readWon_19, rX13_readWon_22, rX13_readWon_23, rX13_readWon_24, rX13_readWon_27, rX13_readWon_28, rX13_readWon_31, rX13_readWon_32, rX13_readWon_33, rX13_readWon_36, rX13_readWon_37, rX13_readWon_38, rX13_readWon_41, rX13_readWon_42, rX13_readWon_45, rX13_readWon_46, rX13_readWon_49, rX13_readWon_50, rX13_readWon_51, rX13_readWon_54, rX13_readWon_55, rX13_readWon_58, gS_355, g, h9, h4, s0, c1, c2, c3, c4, c5, c6, c7, c8, ne_eq, not_false_eq_true, not_true_eq_false, true_and, and_true, and_self, true_imp_iff, false_imp_iff, imp_self, Bool.not_false, Bool.not_true, reduceCtorEq, ab_isJ, ab_psh, ab_cats, Bool.false_eq_true, if_true, if_false, ab_shf, ab_shw, Int.le_refl, Classical.not_not, Int.zero_add, forall_const, ↓ab_itT, ↓ab_itF, ab_anT, ab_w32_id, ab_rdf_ne, ab_rdw_ne, ab_rdw_eq, ab_rdf_in, ab_td2, ab_tm2, true_or, or_true]
  all_goals exact kq

theorem mt_won2 (h : ac_RF τ w pl) (hR : ar_MR τ M κ) (hn : 0 ≤ κ 10 0 ∧ κ 10 0 ≤ 11) (kq : Q none τ) : ab_Run X 194 22 (15, 0, 0) [ab_R 355, ab_I p, ab_R 0, ab_R 0] (ab_psh (some (ab_I v)) []) τ Q := by
  have g := h.1
  have h9 := h.2.1
  have h4 := hR.1
  have hM := hR.2.1.1
  have s0 := mS hR.2.1
  have c1 := fun Q' => mq_goesOn5 (X := X) (Q := Q') h.1 h.2.1
  have c2 := fun k Q' => mq_flaw5 (X := X) (Q := Q') (k := k) h
  have c3 := fun a Q' => mq_isWord5 (X := X) (Q := Q') (a := a) h.1 h.2.1
  have c4 := fun a lo hi Q' (ha : a ≤ -2) => mq_part5 (X := X) (Q := Q') (a := a) (lo := lo) (hi := hi) h ha
  have c5 := fun lo hi Q' => mq_whole5 (X := X) (Q := Q') (lo := lo) (hi := hi) h
  have c6 := fun Q' => mq_known5 (X := X) (Q := Q') h hR hn
  have c7 := fun Q' => mq_pers5 (X := X) (Q := Q') h hR hn
  have c8 := fun Q' => mq_side5 (X := X) (Q := Q') h
  clear h hR
  simp (disch := omega) only [rX13_readWon_22, rX13_readWon_23, rX13_readWon_24, rX13_readWon_27, rX13_readWon_28, rX13_readWon_31, rX13_readWon_32, rX13_readWon_33, rX13_readWon_36, rX13_readWon_37, rX13_readWon_38, rX13_readWon_41, rX13_readWon_42, rX13_readWon_45, rX13_readWon_46, rX13_readWon_49, rX13_readWon_50, rX13_readWon_51, rX13_readWon_54, rX13_readWon_55, rX13_readWon_58, gS_355, g, h9, h4, s0, c1, c2, c3, c4, c5, c6, c7, c8, ne_eq, not_false_eq_true, not_true_eq_false, true_and, and_true, and_self, true_imp_iff, false_imp_iff, imp_self, Bool.not_false, Bool.not_true, reduceCtorEq, ab_isJ, ab_psh, ab_cats, Bool.false_eq_true, if_true, if_false, ab_shf, ab_shw, Int.le_refl, Classical.not_not, Int.zero_add, forall_const, ↓ab_itT, ↓ab_itF, ab_anT, ab_w32_id, ab_rdf_ne, ab_rdw_ne, ab_rdw_eq, ab_rdf_in, ab_td2, ab_tm2, true_or, or_true]
  all_goals exact kq

theorem mt_won3 (h : ac_RF τ w pl) (hR : ar_MR τ M κ) (hn : 0 ≤ κ 10 0 ∧ κ 10 0 ≤ 11) (kq : Q none τ) : ab_Run X 194 41 (15, 0, 0) [ab_R 355, ab_I p, ab_I q, ab_R 0] [] τ Q := by
  have g := h.1
  have h9 := h.2.1
  have h4 := hR.1
  have hM := hR.2.1.1
  have s0 := mS hR.2.1
  have c1 := fun Q' => mq_goesOn5 (X := X) (Q := Q') h.1 h.2.1
  have c2 := fun k Q' => mq_flaw5 (X := X) (Q := Q') (k := k) h
  have c3 := fun a Q' => mq_isWord5 (X := X) (Q := Q') (a := a) h.1 h.2.1
  have c4 := fun a lo hi Q' (ha : a ≤ -2) => mq_part5 (X := X) (Q := Q') (a := a) (lo := lo) (hi := hi) h ha
  have c5 := fun lo hi Q' => mq_whole5 (X := X) (Q := Q') (lo := lo) (hi := hi) h
  have c6 := fun Q' => mq_known5 (X := X) (Q := Q') h hR hn
  have c7 := fun Q' => mq_pers5 (X := X) (Q := Q') h hR hn
  have c8 := fun Q' => mq_side5 (X := X) (Q := Q') h
  clear h hR
  simp (disch := omega) only [rX13_readWon_41, rX13_readWon_42, rX13_readWon_45, rX13_readWon_46, rX13_readWon_49, rX13_readWon_50, rX13_readWon_51, rX13_readWon_54, rX13_readWon_55, rX13_readWon_58, gS_355, g, h9, h4, s0, c1, c2, c3, c4, c5, c6, c7, c8, ne_eq, not_false_eq_true, not_true_eq_false, true_and, and_true, and_self, true_imp_iff, false_imp_iff, imp_self, Bool.not_false, Bool.not_true, reduceCtorEq, ab_isJ, ab_psh, ab_cats, Bool.false_eq_true, if_true, if_false, ab_shf, ab_shw, Int.le_refl, Classical.not_not, Int.zero_add, forall_const, ↓ab_itT, ↓ab_itF, ab_anT, ab_w32_id, ab_rdf_ne, ab_rdw_ne, ab_rdw_eq, ab_rdf_in, ab_td2, ab_tm2, true_or, or_true]
  all_goals exact kq

theorem mt_won4 (h : ac_RF τ w pl) (hR : ar_MR τ M κ) (hn : 0 ≤ κ 10 0 ∧ κ 10 0 ≤ 11) (kq : Q none τ) : ab_Run X 194 49 (15, 0, 0) [ab_R 355, ab_I p, ab_I q, ab_R 0] (ab_psh (some (ab_I v)) []) τ Q := by
  have g := h.1
  have h9 := h.2.1
  have h4 := hR.1
  have hM := hR.2.1.1
  have s0 := mS hR.2.1
  have c1 := fun Q' => mq_goesOn5 (X := X) (Q := Q') h.1 h.2.1
  have c2 := fun k Q' => mq_flaw5 (X := X) (Q := Q') (k := k) h
  have c3 := fun a Q' => mq_isWord5 (X := X) (Q := Q') (a := a) h.1 h.2.1
  have c4 := fun a lo hi Q' (ha : a ≤ -2) => mq_part5 (X := X) (Q := Q') (a := a) (lo := lo) (hi := hi) h ha
  have c5 := fun lo hi Q' => mq_whole5 (X := X) (Q := Q') (lo := lo) (hi := hi) h
  have c6 := fun Q' => mq_known5 (X := X) (Q := Q') h hR hn
  have c7 := fun Q' => mq_pers5 (X := X) (Q := Q') h hR hn
  have c8 := fun Q' => mq_side5 (X := X) (Q := Q') h
  clear h hR
  simp (disch := omega) only [rX13_readWon_49, rX13_readWon_50, rX13_readWon_51, rX13_readWon_54, rX13_readWon_55, rX13_readWon_58, gS_355, g, h9, h4, s0, c1, c2, c3, c4, c5, c6, c7, c8, ne_eq, not_false_eq_true, not_true_eq_false, true_and, and_true, and_self, true_imp_iff, false_imp_iff, imp_self, Bool.not_false, Bool.not_true, reduceCtorEq, ab_isJ, ab_psh, ab_cats, Bool.false_eq_true, if_true, if_false, ab_shf, ab_shw, Int.le_refl, Classical.not_not, Int.zero_add, forall_const, ↓ab_itT, ↓ab_itF, ab_anT, ab_w32_id, ab_rdf_ne, ab_rdw_ne, ab_rdw_eq, ab_rdf_in, ab_td2, ab_tm2, true_or, or_true]
  all_goals exact kq

theorem ms_won_b (g : ab_Geo τ) (hR : ar_MR τ M κ) (key : ab_Do X 181 [ab_R 355, ab_I (κ 8 0), ab_I 12] τ (fun r σ' => ab_Run X 194 13 (15, 0, 0) [ab_R 355, ab_R 0, ab_R 0, ab_R 0] (ab_psh r []) σ' Q)) : ab_Do X 194 [ab_R 355] τ Q := by
  have h4 := hR.1
  have hM := hR.2.1.1
  have s0 := mS hR.2.1
  have c7 := hR.2.2.1 8 (by omega) (by omega)
  clear hR
  simp (disch := omega) only [do_X13_readWon, rX13_readWon_0, rX13_readWon_1, rX13_readWon_2, rX13_readWon_5, rX13_readWon_8, rX13_readWon_10, gS_355, g, h4, s0, c7, ne_eq, not_false_eq_true, not_true_eq_false, true_and, and_true, and_self, true_imp_iff, false_imp_iff, imp_self, Bool.not_false, Bool.not_true, reduceCtorEq, ab_isJ, ab_psh, ab_cats, Bool.false_eq_true, if_true, if_false, ab_shf, ab_shw, Int.le_refl, Classical.not_not, Int.zero_add, forall_const, ↓ab_itT, ↓ab_itF, ab_anT, ab_w32_id, ab_rdf_ne, ab_rdw_ne, ab_rdw_eq, ab_rdf_in, ab_td2, ab_tm2, true_or, or_true]
  all_goals exact key

theorem ms_won_p (g : ab_Geo τ) (key : ab_Do X 185 [ab_R 355] τ (fun r σ' => ab_Run X 194 17 (15, 0, 0) [ab_R 355, ab_R 0, ab_R 0, ab_R 0] (ab_psh r []) σ' Q)) : ab_Run X 194 13 (15, 0, 0) [ab_R 355, ab_R 0, ab_R 0, ab_R 0] (ab_psh none []) τ Q := by
  simp (disch := omega) only [rX13_readWon_13, rX13_readWon_14, gS_355, g, ne_eq, not_false_eq_true, not_true_eq_false, true_and, and_true, and_self, true_imp_iff, false_imp_iff, imp_self, Bool.not_false, Bool.not_true, reduceCtorEq, ab_isJ, ab_psh, ab_cats, Bool.false_eq_true, if_true, if_false, ab_shf, ab_shw, Int.le_refl, Classical.not_not, Int.zero_add, forall_const, ↓ab_itT, ↓ab_itF, ab_anT, ab_w32_id, ab_rdf_ne, ab_rdw_ne, ab_rdw_eq, ab_rdf_in, ab_td2, ab_tm2, true_or, or_true]
  all_goals exact key

theorem ms_won_k (g : ab_Geo τ) (key : ab_Do X 184 [ab_R 355] τ (fun r σ' => ab_Run X 194 22 (15, 0, 0) [ab_R 355, ab_I p, ab_R 0, ab_R 0] (ab_psh r []) σ' Q)) : ab_Run X 194 17 (15, 0, 0) [ab_R 355, ab_R 0, ab_R 0, ab_R 0] (ab_psh (some (ab_I p)) []) τ Q := by
  simp (disch := omega) only [rX13_readWon_17, rX13_readWon_18, rX13_readWon_19, gS_355, g, ne_eq, not_false_eq_true, not_true_eq_false, true_and, and_true, and_self, true_imp_iff, false_imp_iff, imp_self, Bool.not_false, Bool.not_true, reduceCtorEq, ab_isJ, ab_psh, ab_cats, Bool.false_eq_true, if_true, if_false, ab_shf, ab_shw, Int.le_refl, Classical.not_not, Int.zero_add, forall_const, ↓ab_itT, ↓ab_itF, ab_anT, ab_w32_id, ab_rdf_ne, ab_rdw_ne, ab_rdw_eq, ab_rdf_in, ab_td2, ab_tm2, true_or, or_true]
  all_goals exact key

theorem ms_won_m (h : ac_RM τ n tp s) (kF : q = p → ab_Run X 194 41 (15, 0, 0) [ab_R 355, ab_I p, ab_I q, ab_R 0] [] (ab_wr (ab_wr (ab_wr τ 355 13 3) 355 14 s) 355 9 5) Q) (kO : ¬ q = p → ab_Run X 194 41 (15, 0, 0) [ab_R 355, ab_I p, ab_I q, ab_R 0] [] τ Q) : ab_Run X 194 22 (15, 0, 0) [ab_R 355, ab_I p, ab_R 0, ab_R 0] (ab_psh (some (ab_I q)) []) τ Q := by
  have g := h.1.1
  have h5 := h.n5
  have c2 := fun k Q' => mq_flaw (X := X) (Q := Q') (k := k) h
  clear h
  by_cases z : q = p
  · have kq := kF z
    clear kF kO
    simp (disch := omega) only [rX13_readWon_22, rX13_readWon_23, rX13_readWon_24, rX13_readWon_27, rX13_readWon_28, rX13_readWon_31, rX13_readWon_32, rX13_readWon_33, rX13_readWon_36, rX13_readWon_37, rX13_readWon_38, gS_355, g, c2, ne_eq, not_false_eq_true, not_true_eq_false, true_and, and_true, and_self, true_imp_iff, false_imp_iff, imp_self, Bool.not_false, Bool.not_true, reduceCtorEq, ab_isJ, ab_psh, ab_cats, Bool.false_eq_true, if_true, if_false, ab_shf, ab_shw, Int.le_refl, Classical.not_not, Int.zero_add, forall_const, ↓ab_itT, ↓ab_itF, ab_anT, ab_w32_id, ab_rdf_ne, ab_rdw_ne, ab_rdw_eq, ab_rdf_in, ab_td2, ab_tm2, true_or, or_true]
    all_goals exact kq
  · have kq := kO z
    clear kF kO c2
    simp (disch := omega) only [rX13_readWon_22, rX13_readWon_23, rX13_readWon_24, rX13_readWon_27, rX13_readWon_28, rX13_readWon_31, rX13_readWon_32, rX13_readWon_33, gS_355, g, ne_eq, not_false_eq_true, not_true_eq_false, true_and, and_true, and_self, true_imp_iff, false_imp_iff, imp_self, Bool.not_false, Bool.not_true, reduceCtorEq, ab_isJ, ab_psh, ab_cats, Bool.false_eq_true, if_true, if_false, ab_shf, ab_shw, Int.le_refl, Classical.not_not, Int.zero_add, forall_const, ↓ab_itT, ↓ab_itF, ab_anT, ab_w32_id, ab_rdf_ne, ab_rdw_ne, ab_rdw_eq, ab_rdf_in, ab_td2, ab_tm2, true_or, or_true]
    all_goals exact kq

theorem ms_won_g (g : ab_Geo τ) (key : ab_Do X 171 [ab_R 355] τ (fun r σ' => ab_Run X 194 45 (15, 0, 0) [ab_R 355, ab_I p, ab_I q, ab_R 0] (ab_psh r []) σ' Q)) : ab_Run X 194 41 (15, 0, 0) [ab_R 355, ab_I p, ab_I q, ab_R 0] [] τ Q := by
  simp (disch := omega) only [rX13_readWon_41, rX13_readWon_42, gS_355, g, ne_eq, not_false_eq_true, not_true_eq_false, true_and, and_true, and_self, true_imp_iff, false_imp_iff, imp_self, Bool.not_false, Bool.not_true, reduceCtorEq, ab_isJ, ab_psh, ab_cats, Bool.false_eq_true, if_true, if_false, ab_shf, ab_shw, Int.le_refl, Classical.not_not, Int.zero_add, forall_const, ↓ab_itT, ↓ab_itF, ab_anT, ab_w32_id, ab_rdf_ne, ab_rdw_ne, ab_rdw_eq, ab_rdf_in, ab_td2, ab_tm2, true_or, or_true]
  all_goals exact key

theorem ms_won_s (g : ab_Geo τ) (key : ab_Do X 186 [ab_R 355] τ (fun r σ' => ab_Run X 194 49 (15, 0, 0) [ab_R 355, ab_I p, ab_I q, ab_R 0] (ab_psh r []) σ' Q)) : ab_Run X 194 45 (15, 0, 0) [ab_R 355, ab_I p, ab_I q, ab_R 0] (ab_psh none []) τ Q := by
  simp (disch := omega) only [rX13_readWon_45, rX13_readWon_46, gS_355, g, ne_eq, not_false_eq_true, not_true_eq_false, true_and, and_true, and_self, true_imp_iff, false_imp_iff, imp_self, Bool.not_false, Bool.not_true, reduceCtorEq, ab_isJ, ab_psh, ab_cats, Bool.false_eq_true, if_true, if_false, ab_shf, ab_shw, Int.le_refl, Classical.not_not, Int.zero_add, forall_const, ↓ab_itT, ↓ab_itF, ab_anT, ab_w32_id, ab_rdf_ne, ab_rdw_ne, ab_rdw_eq, ab_rdf_in, ab_td2, ab_tm2, true_or, or_true]
  all_goals exact key

theorem ms_won_e (g : ab_Geo τ) (hR : ar_MR τ M κ) (n5 : ¬ ab_rd τ 355 9 = 5) (n8 : 0 ≤ κ 8 0 ∧ κ 8 0 < 12) (key : Q none (ab_wr (ab_wr (ab_wr (ab_wr τ (M + 11) (κ 8 0) p) (M + 12) (κ 8 0) q) (M + 13) (κ 8 0) v) M 8 (κ 8 0 + 1))) : ab_Run X 194 49 (15, 0, 0) [ab_R 355, ab_I p, ab_I q, ab_R 0] (ab_psh (some (ab_I v)) []) τ Q := by
  have h4 := hR.1
  have hM := hR.2.1.1
  have s0 := mS hR.2.1
  have c7 := hR.2.2.1 8 (by omega) (by omega)
  have s22 := mS_22 hR.2.1
  have p22 := mP_22 hR.2.1
  have s23 := mS_23 hR.2.1
  have p23 := mP_23 hR.2.1
  have s24 := mS_24 hR.2.1
  have p24 := mP_24 hR.2.1
  clear hR
  simp (disch := omega) only [rX13_readWon_49, rX13_readWon_50, rX13_readWon_51, rX13_readWon_54, rX13_readWon_55, rX13_readWon_58, rX13_readWon_59, rX13_readWon_60, rX13_readWon_63, rX13_readWon_66, rX13_readWon_67, rX13_readWon_70, rX13_readWon_73, rX13_readWon_74, rX13_readWon_75, rX13_readWon_76, rX13_readWon_79, rX13_readWon_82, rX13_readWon_83, rX13_readWon_86, rX13_readWon_89, rX13_readWon_90, rX13_readWon_91, rX13_readWon_92, rX13_readWon_95, rX13_readWon_98, rX13_readWon_99, rX13_readWon_102, rX13_readWon_105, rX13_readWon_106, rX13_readWon_107, rX13_readWon_108, rX13_readWon_111I, rX13_readWon_111R, rX13_readWon_112, rX13_readWon_115, rX13_readWon_116, rX13_readWon_117, rX13_readWon_120, gS_355, g, h4, s0, c7, s22, p22, s23, p23, s24, p24, ne_eq, not_false_eq_true, not_true_eq_false, true_and, and_true, and_self, true_imp_iff, false_imp_iff, imp_self, Bool.not_false, Bool.not_true, reduceCtorEq, ab_isJ, ab_psh, ab_cats, Bool.false_eq_true, if_true, if_false, ab_shf, ab_shw, Int.le_refl, Classical.not_not, Int.zero_add, forall_const, ↓ab_itT, ↓ab_itF, ab_anT, ab_w32_id, ab_rdf_ne, ab_rdw_ne, ab_rdw_eq, ab_rdf_in, ab_td2, ab_tm2, true_or, or_true]
  all_goals exact key

theorem mq_readWon (h : ac_RM σ n tp s) (hR : ar_MR σ M κ) (hj : ar_J κ) (hk1 : ac_kk tp n s ≠ 1) (hF : ar_mF Q σ M (pr_enter tp n κ (κ 8 0) 12 s (pr_won tp n κ))) (hO : ar_mO Q σ M n tp (pr_enter tp n κ (κ 8 0) 12 s (pr_won tp n κ))) : ab_Do X 194 [ab_R 355] σ Q := by
  have hn := hj.n10
  have hM := hR.2.1.1
  have hL := hj.2.2.2.2.2.1
  have n5 := hj.1.1
  have n6 := hj.1.2.1
  have n8 := hj.1.2.2.2.1
  generalize er : pr_enter tp n κ (κ 8 0) 12 s (pr_won tp n κ) = r at hF hO
  refine ms_won_b h.1.1 hR (mq_enterE h hR hk1 hj.2.2.1 n8.2 (fun u => by have := hj.2.2.2.2.1 u; omega) er (fun wf pl ef υ u f => mt_won0 f (hR.same u) hn (hF wf pl ef υ u.vw f)) (fun y1 y2 er1 τ1 u1 R1 => ?_))
  unfold pr_won at er1
  have K1 := hR.same u1
  have W1 : ab_Same (ar_PW M) σ τ1 := u1.vw
  refine ms_won_p R1.1.1 (mq_persE R1 K1 hL ⟨n5, n6⟩ er1 (fun wf pl ef υ u f => mt_won1 f (K1.same u) hn (hF wf pl ef υ (W1.trans u.vw) f)) (fun p pb er2 τ2 u2 R2 => ?_))
  have K2 := K1.same u2
  have W2 := W1.trans (ab_Same.vw (M := M) u2)
  refine ms_won_k R2.1.1 (mq_knownE R2 K2 hL ⟨n5, n6⟩ er2 (fun wf pl ef υ u f => mt_won2 f (K2.same u) hn (hF wf pl ef υ (W2.trans u.vw) f)) (fun q qb k2 er3 => ?_))
  have f := ac_flw (k := 3) R2
  refine ms_won_m R2 (fun z => ?_) (fun z => ?_)
  · rw [if_pos z] at er3
    exact mt_won3 f.1 (K2.same f.2) hn (hF 3 _ er3.symm _ (W2.trans f.2.vw) f.1)
  · rw [if_neg z] at er3
    refine ms_won_g R2.1.1 (mq_goesOnR R2 (by omega) (fun τ3 u3 R3 => ?_))
    have K3 := K2.same u3.uw
    have W3 := W2.trans (ab_Same.vw (M := M) u3.uw)
    refine ms_won_s R3.1.1 (mq_sideE R3 er3 (fun wf pl ef υ u f => mt_won4 f (K3.same u) hn (hF wf pl ef υ (W3.trans u.vw) f)) (fun v s4 vb er4 τ4 u4 R4 => ?_))
    have K4 := K3.same u4
    have W4 := W3.trans (ab_Same.vw (M := M) u4)
    refine ms_won_e R4.1.1 K4 R4.n5 (by omega) (hO _ _ er4.symm _ ?_ ?_ ?_)
    · exact (((W4.wr (Or.inr (by omega))).wr (Or.inr (by omega))).wr (Or.inr (by omega))).wr (Or.inr (by omega))
    · exact (((R4.wrM (by omega)).wrM (by omega)).wrM (by omega)).wrM hM
    · exact (((K4.wrA (f := 22) (by omega) (by omega)).wrA (f := 23) (by omega) (by omega)).wrA (f := 24) (by omega) (by omega)).wr1 (by decide)
theorem mt_pc0 (h : ac_RF τ w pl) (hR : ar_MR τ M κ) (hn : 0 ≤ κ 10 0 ∧ κ 10 0 ≤ 11) (kq : Q none τ) : ab_Run X 195 12 (13, 0, 0) [ab_R 355, ab_R 0, ab_R 0] (ab_psh none []) τ Q := by
  have g := h.1
  have h9 := h.2.1
  have h4 := hR.1
  have hM := hR.2.1.1
  have s0 := mS hR.2.1
  have c1 := fun Q' => mq_goesOn5 (X := X) (Q := Q') h.1 h.2.1
  have c2 := fun k Q' => mq_flaw5 (X := X) (Q := Q') (k := k) h
  have c3 := fun a Q' => mq_isWord5 (X := X) (Q := Q') (a := a) h.1 h.2.1
  have c4 := fun a lo hi Q' (ha : a ≤ -2) => mq_part5 (X := X) (Q := Q') (a := a) (lo := lo) (hi := hi) h ha
  have c5 := fun lo hi Q' => mq_whole5 (X := X) (Q := Q') (lo := lo) (hi := hi) h
  have c6 := fun Q' => mq_known5 (X := X) (Q := Q') h hR hn
  have c7 := fun Q' => mq_pers5 (X := X) (Q := Q') h hR hn
  have c8 := fun Q' => mq_side5 (X := X) (Q := Q') h
  clear h hR
  simp (disch := omega) only [rX13_readPiece_12, rX13_readPiece_13, rX13_readPiece_16, rX13_readPiece_17, rX13_readPiece_18, rX13_readPiece_19, rX13_readPiece_20, rX13_readPiece_23, rX13_readPiece_24, rX13_readPiece_25, rX13_readPiece_28, rX13_readPiece_29, rX13_readPiece_32, gS_355, g, h9, h4, s0, c1, c2, c3, c4, c5, c6, c7, c8, ne_eq, not_false_eq_true, not_true_eq_false, true_and, and_true, and_self, true_imp_iff, false_imp_iff, imp_self, Bool.not_false, Bool.not_true, reduceCtorEq, ab_isJ, ab_psh, ab_cats, Bool.false_eq_true, if_true, if_false, ab_shf, ab_shw, Int.le_refl, Classical.not_not, Int.zero_add, forall_const, ↓ab_itT, ↓ab_itF, ab_anT, ab_w32_id, ab_rdf_ne, ab_rdw_ne, ab_rdw_eq, ab_rdf_in, ab_td2, ab_tm2, true_or, or_true]
  all_goals exact kq

theorem mt_pc1 (h : ac_RF τ w pl) (hR : ar_MR τ M κ) (hn : 0 ≤ κ 10 0 ∧ κ 10 0 ≤ 11) (kq : Q none τ) : ab_Run X 195 16 (13, 0, 0) [ab_R 355, ab_R 0, ab_R 0] (ab_psh (some (ab_I v)) []) τ Q := by
  have g := h.1
  have h9 := h.2.1
  have h4 := hR.1
  have hM := hR.2.1.1
  have s0 := mS hR.2.1
  have c1 := fun Q' => mq_goesOn5 (X := X) (Q := Q') h.1 h.2.1
  have c2 := fun k Q' => mq_flaw5 (X := X) (Q := Q') (k := k) h
  have c3 := fun a Q' => mq_isWord5 (X := X) (Q := Q') (a := a) h.1 h.2.1
  have c4 := fun a lo hi Q' (ha : a ≤ -2) => mq_part5 (X := X) (Q := Q') (a := a) (lo := lo) (hi := hi) h ha
  have c5 := fun lo hi Q' => mq_whole5 (X := X) (Q := Q') (lo := lo) (hi := hi) h
  have c6 := fun Q' => mq_known5 (X := X) (Q := Q') h hR hn
  have c7 := fun Q' => mq_pers5 (X := X) (Q := Q') h hR hn
  have c8 := fun Q' => mq_side5 (X := X) (Q := Q') h
  clear h hR
  simp (disch := omega) only [rX13_readPiece_16, rX13_readPiece_17, rX13_readPiece_18, rX13_readPiece_19, rX13_readPiece_20, rX13_readPiece_23, rX13_readPiece_24, rX13_readPiece_25, rX13_readPiece_28, rX13_readPiece_29, rX13_readPiece_32, gS_355, g, h9, h4, s0, c1, c2, c3, c4, c5, c6, c7, c8, ne_eq, not_false_eq_true, not_true_eq_false, true_and, and_true, and_self, true_imp_iff, false_imp_iff, imp_self, Bool.not_false, Bool.not_true, reduceCtorEq, ab_isJ, ab_psh, ab_cats, Bool.false_eq_true, if_true, if_false, ab_shf, ab_shw, Int.le_refl, Classical.not_not, Int.zero_add, forall_const, ↓ab_itT, ↓ab_itF, ab_anT, ab_w32_id, ab_rdf_ne, ab_rdw_ne, ab_rdw_eq, ab_rdf_in, ab_td2, ab_tm2, true_or, or_true]
  all_goals exact kq

theorem mt_pc2 (h : ac_RF τ w pl) (hR : ar_MR τ M κ) (hn : 0 ≤ κ 10 0 ∧ κ 10 0 ≤ 11) (kq : Q none τ) : ab_Run X 195 23 (13, 0, 0) [ab_R 355, ab_I p, ab_R 0] (ab_psh (some (ab_I v)) []) τ Q := by
  have g := h.1
  have h9 := h.2.1
  have h4 := hR.1
  have hM := hR.2.1.1
  have s0 := mS hR.2.1
  have c1 := fun Q' => mq_goesOn5 (X := X) (Q := Q') h.1 h.2.1
  have c2 := fun k Q' => mq_flaw5 (X := X) (Q := Q') (k := k) h
  have c3 := fun a Q' => mq_isWord5 (X := X) (Q := Q') (a := a) h.1 h.2.1
  have c4 := fun a lo hi Q' (ha : a ≤ -2) => mq_part5 (X := X) (Q := Q') (a := a) (lo := lo) (hi := hi) h ha
  have c5 := fun lo hi Q' => mq_whole5 (X := X) (Q := Q') (lo := lo) (hi := hi) h
  have c6 := fun Q' => mq_known5 (X := X) (Q := Q') h hR hn
  have c7 := fun Q' => mq_pers5 (X := X) (Q := Q') h hR hn
  have c8 := fun Q' => mq_side5 (X := X) (Q := Q') h
  clear h hR
  simp (disch := omega) only [rX13_readPiece_23, rX13_readPiece_24, rX13_readPiece_25, rX13_readPiece_28, rX13_readPiece_29, rX13_readPiece_32, gS_355, g, h9, h4, s0, c1, c2, c3, c4, c5, c6, c7, c8, ne_eq, not_false_eq_true, not_true_eq_false, true_and, and_true, and_self, true_imp_iff, false_imp_iff, imp_self, Bool.not_false, Bool.not_true, reduceCtorEq, ab_isJ, ab_psh, ab_cats, Bool.false_eq_true, if_true, if_false, ab_shf, ab_shw, Int.le_refl, Classical.not_not, Int.zero_add, forall_const, ↓ab_itT, ↓ab_itF, ab_anT, ab_w32_id, ab_rdf_ne, ab_rdw_ne, ab_rdw_eq, ab_rdf_in, ab_td2, ab_tm2, true_or, or_true]
  all_goals exact kq

theorem ms_pc_b (g : ab_Geo τ) (hR : ar_MR τ M κ) (key : ab_Do X 181 [ab_R 355, ab_I (κ 9 0), ab_I 4] τ (fun r σ' => ab_Run X 195 12 (13, 0, 0) [ab_R 355, ab_R 0, ab_R 0] (ab_psh r []) σ' Q)) : ab_Do X 195 [ab_R 355] τ Q := by
  have h4 := hR.1
  have hM := hR.2.1.1
  have s0 := mS hR.2.1
  have c7 := hR.2.2.1 9 (by omega) (by omega)
  clear hR
  simp (disch := omega) only [do_X13_readPiece, rX13_readPiece_0, rX13_readPiece_1, rX13_readPiece_2, rX13_readPiece_5, rX13_readPiece_8, rX13_readPiece_9, gS_355, g, h4, s0, c7, ne_eq, not_false_eq_true, not_true_eq_false, true_and, and_true, and_self, true_imp_iff, false_imp_iff, imp_self, Bool.not_false, Bool.not_true, reduceCtorEq, ab_isJ, ab_psh, ab_cats, Bool.false_eq_true, if_true, if_false, ab_shf, ab_shw, Int.le_refl, Classical.not_not, Int.zero_add, forall_const, ↓ab_itT, ↓ab_itF, ab_anT, ab_w32_id, ab_rdf_ne, ab_rdw_ne, ab_rdw_eq, ab_rdf_in, ab_td2, ab_tm2, true_or, or_true]
  all_goals exact key

theorem ms_pc_s (g : ab_Geo τ) (key : ab_Do X 186 [ab_R 355] τ (fun r σ' => ab_Run X 195 16 (13, 0, 0) [ab_R 355, ab_R 0, ab_R 0] (ab_psh r []) σ' Q)) : ab_Run X 195 12 (13, 0, 0) [ab_R 355, ab_R 0, ab_R 0] (ab_psh none []) τ Q := by
  simp (disch := omega) only [rX13_readPiece_12, rX13_readPiece_13, gS_355, g, ne_eq, not_false_eq_true, not_true_eq_false, true_and, and_true, and_self, true_imp_iff, false_imp_iff, imp_self, Bool.not_false, Bool.not_true, reduceCtorEq, ab_isJ, ab_psh, ab_cats, Bool.false_eq_true, if_true, if_false, ab_shf, ab_shw, Int.le_refl, Classical.not_not, Int.zero_add, forall_const, ↓ab_itT, ↓ab_itF, ab_anT, ab_w32_id, ab_rdf_ne, ab_rdw_ne, ab_rdw_eq, ab_rdf_in, ab_td2, ab_tm2, true_or, or_true]
  all_goals exact key

theorem ms_pc_w (g : ab_Geo τ) (key : ab_Do X 178 [ab_R 355, ab_I 0, ab_I 5] τ (fun r σ' => ab_Run X 195 23 (13, 0, 0) [ab_R 355, ab_I p, ab_R 0] (ab_psh r []) σ' Q)) : ab_Run X 195 16 (13, 0, 0) [ab_R 355, ab_R 0, ab_R 0] (ab_psh (some (ab_I p)) []) τ Q := by
  simp (disch := omega) only [rX13_readPiece_16, rX13_readPiece_17, rX13_readPiece_18, rX13_readPiece_19, rX13_readPiece_20, gS_355, g, ne_eq, not_false_eq_true, not_true_eq_false, true_and, and_true, and_self, true_imp_iff, false_imp_iff, imp_self, Bool.not_false, Bool.not_true, reduceCtorEq, ab_isJ, ab_psh, ab_cats, Bool.false_eq_true, if_true, if_false, ab_shf, ab_shw, Int.le_refl, Classical.not_not, Int.zero_add, forall_const, ↓ab_itT, ↓ab_itF, ab_anT, ab_w32_id, ab_rdf_ne, ab_rdw_ne, ab_rdw_eq, ab_rdf_in, ab_td2, ab_tm2, true_or, or_true]
  all_goals exact key

theorem ms_pc_e (g : ab_Geo τ) (hR : ar_MR τ M κ) (n5 : ¬ ab_rd τ 355 9 = 5) (n9 : 0 ≤ κ 9 0 ∧ κ 9 0 < 4) (key : Q none (ab_wr (ab_wr (ab_wr τ (M + 14) (κ 9 0) p) (M + 15) (κ 9 0) v) M 9 (κ 9 0 + 1))) : ab_Run X 195 23 (13, 0, 0) [ab_R 355, ab_I p, ab_R 0] (ab_psh (some (ab_I v)) []) τ Q := by
  have h4 := hR.1
  have hM := hR.2.1.1
  have s0 := mS hR.2.1
  have c7 := hR.2.2.1 9 (by omega) (by omega)
  have s25 := mS_25 hR.2.1
  have p25 := mP_25 hR.2.1
  have s26 := mS_26 hR.2.1
  have p26 := mP_26 hR.2.1
  clear hR
  simp (disch := omega) only [rX13_readPiece_23, rX13_readPiece_24, rX13_readPiece_25, rX13_readPiece_28, rX13_readPiece_29, rX13_readPiece_32, rX13_readPiece_33, rX13_readPiece_34, rX13_readPiece_37, rX13_readPiece_40, rX13_readPiece_41, rX13_readPiece_44, rX13_readPiece_47, rX13_readPiece_48, rX13_readPiece_49, rX13_readPiece_50, rX13_readPiece_53, rX13_readPiece_56, rX13_readPiece_57, rX13_readPiece_60, rX13_readPiece_63, rX13_readPiece_64, rX13_readPiece_65, rX13_readPiece_66, rX13_readPiece_69I, rX13_readPiece_69R, rX13_readPiece_70, rX13_readPiece_73, rX13_readPiece_74, rX13_readPiece_75, rX13_readPiece_78, gS_355, g, h4, s0, c7, s25, p25, s26, p26, ne_eq, not_false_eq_true, not_true_eq_false, true_and, and_true, and_self, true_imp_iff, false_imp_iff, imp_self, Bool.not_false, Bool.not_true, reduceCtorEq, ab_isJ, ab_psh, ab_cats, Bool.false_eq_true, if_true, if_false, ab_shf, ab_shw, Int.le_refl, Classical.not_not, Int.zero_add, forall_const, ↓ab_itT, ↓ab_itF, ab_anT, ab_w32_id, ab_rdf_ne, ab_rdw_ne, ab_rdw_eq, ab_rdf_in, ab_td2, ab_tm2, true_or, or_true]
  all_goals exact key

theorem mq_readPiece (h : ac_RM σ n tp s) (hR : ar_MR σ M κ) (hj : ar_J κ) (hk1 : ac_kk tp n s ≠ 1) (hF : ar_mF Q σ M (pr_enter tp n κ (κ 9 0) 4 s (pr_piece tp n κ))) (hO : ar_mO Q σ M n tp (pr_enter tp n κ (κ 9 0) 4 s (pr_piece tp n κ))) : ab_Do X 195 [ab_R 355] σ Q := by
  have hn := hj.n10
  have hM := hR.2.1.1
  have n9 := hj.1.2.2.2.2
  generalize er : pr_enter tp n κ (κ 9 0) 4 s (pr_piece tp n κ) = r at hF hO
  refine ms_pc_b h.1.1 hR (mq_enterE h hR hk1 hj.2.2.1 n9.2 (fun u => by have := hj.2.2.2.2.1 u; omega) er (fun wf pl ef υ u f => mt_pc0 f (hR.same u) hn (hF wf pl ef υ u.vw f)) (fun y1 y2 er1 τ1 u1 R1 => ?_))
  unfold pr_piece at er1
  have K1 := hR.same u1
  have W1 : ab_Same (ar_PW M) σ τ1 := u1.vw
  refine ms_pc_s R1.1.1 (mq_sideE R1 er1 (fun wf pl ef υ u f => mt_pc1 f (K1.same u) hn (hF wf pl ef υ (W1.trans u.vw) f)) (fun p s2 pb er2 τ2 u2 R2 => ?_))
  have K2 := K1.same u2
  have W2 := W1.trans (ab_Same.vw (M := M) u2)
  refine ms_pc_w R2.1.1 (mq_wholeE R2 er2 (fun wf pl ef υ u f => mt_pc2 f (K2.same u) hn (hF wf pl ef υ (W2.trans u.vw) f)) (fun v vb er3 τ3 u3 R3 => ?_))
  have K3 := K2.same u3
  have W3 := W2.trans (ab_Same.vw (M := M) u3)
  refine ms_pc_e R3.1.1 K3 R3.n5 (by omega) (hO _ _ er3.symm _ ?_ ?_ ?_)
  · exact ((W3.wr (Or.inr (by omega))).wr (Or.inr (by omega))).wr (Or.inr (by omega))
  · exact ((R3.wrM (by omega)).wrM (by omega)).wrM hM
  · exact ((K3.wrA (f := 25) (by omega) (by omega)).wrA (f := 26) (by omega) (by omega)).wr1 (by decide)
theorem mt_ch0 (h : ac_RF τ w pl) (hR : ar_MR τ M κ) (hn : 0 ≤ κ 10 0 ∧ κ 10 0 ≤ 11) (kq : Q none τ) : ab_Run X 196 6 (14, 0, 0) [ab_R 355, ab_R 0, ab_R 0, ab_R 0, ab_R 0] (ab_psh none []) τ Q := by
  have g := h.1
  have h9 := h.2.1
  have h4 := hR.1
  have hM := hR.2.1.1
  have s0 := mS hR.2.1
  have c1 := fun Q' => mq_goesOn5 (X := X) (Q := Q') h.1 h.2.1
  have c2 := fun k Q' => mq_flaw5 (X := X) (Q := Q') (k := k) h
  have c3 := fun a Q' => mq_isWord5 (X := X) (Q := Q') (a := a) h.1 h.2.1
  have c4 := fun a lo hi Q' (ha : a ≤ -2) => mq_part5 (X := X) (Q := Q') (a := a) (lo := lo) (hi := hi) h ha
  have c5 := fun lo hi Q' => mq_whole5 (X := X) (Q := Q') (lo := lo) (hi := hi) h
  have c6 := fun Q' => mq_known5 (X := X) (Q := Q') h hR hn
  have c7 := fun Q' => mq_pers5 (X := X) (Q := Q') h hR hn
  have c8 := fun Q' => mq_side5 (X := X) (Q := Q') h
  clear h hR
  simp (disch := omega) only [rX13_readCheats_6, rX13_readCheats_7, rX13_readCheats_10, rX13_readCheats_11, rX13_readCheats_12, rX13_readCheats_15, rX13_readCheats_16, rX13_readCheats_19, rX13_readCheats_20, rX13_readCheats_23, rX13_readCheats_26, rX13_readCheats_27, rX13_readCheats_28, rX13_readCheats_29, rX13_readCheats_32, rX13_readCheats_33, rX13_readCheats_34, rX13_readCheats_37, rX13_readCheats_38, rX13_readCheats_41, rX13_readCheats_42, rX13_readCheats_43, rX13_readCheats_45, rX13_readCheats_48, rX13_readCheats_49, rX13_readCheats_50, rX13_readCheats_52, rX13_readCheats_53, rX13_readCheats_55, rX13_readCheats_58, rX13_readCheats_59, rX13_readCheats_60, rX13_readCheats_63, rX13_readCheats_64, rX13_readCheats_66, rX13_readCheats_69, rX13_readCheats_71, rX13_readCheats_72, rX13_readCheats_75, rX13_readCheats_76, rX13_readCheats_79, gS_355, g, h9, h4, s0, c1, c2, c3, c4, c5, c6, c7, c8, ne_eq, not_false_eq_true, not_true_eq_false, true_and, and_true, and_self, true_imp_iff, false_imp_iff, imp_self, Bool.not_false, Bool.not_true, reduceCtorEq, ab_isJ, ab_psh, ab_cats, Bool.false_eq_true, if_true, if_false, ab_shf, ab_shw, Int.le_refl, Classical.not_not, Int.zero_add, forall_const, ↓ab_itT, ↓ab_itF, ab_anT, ab_w32_id, ab_rdf_ne, ab_rdw_ne, ab_rdw_eq, ab_rdf_in, ab_td2, ab_tm2, true_or, or_true]
  all_goals exact kq

theorem mt_ch1 (h : ac_RF τ w pl) (hR : ar_MR τ M κ) (hn : 0 ≤ κ 10 0 ∧ κ 10 0 ≤ 11) (kq : Q none τ) : ab_Run X 196 10 (14, 0, 0) [ab_R 355, ab_R 0, ab_R 0, ab_R 0, ab_R 0] (ab_psh (some (ab_I v)) []) τ Q := by
  have g := h.1
  have h9 := h.2.1
  have h4 := hR.1
  have hM := hR.2.1.1
  have s0 := mS hR.2.1
  have c1 := fun Q' => mq_goesOn5 (X := X) (Q := Q') h.1 h.2.1
  have c2 := fun k Q' => mq_flaw5 (X := X) (Q := Q') (k := k) h
  have c3 := fun a Q' => mq_isWord5 (X := X) (Q := Q') (a := a) h.1 h.2.1
  have c4 := fun a lo hi Q' (ha : a ≤ -2) => mq_part5 (X := X) (Q := Q') (a := a) (lo := lo) (hi := hi) h ha
  have c5 := fun lo hi Q' => mq_whole5 (X := X) (Q := Q') (lo := lo) (hi := hi) h
  have c6 := fun Q' => mq_known5 (X := X) (Q := Q') h hR hn
  have c7 := fun Q' => mq_pers5 (X := X) (Q := Q') h hR hn
  have c8 := fun Q' => mq_side5 (X := X) (Q := Q') h
  clear h hR
  simp (disch := omega) only [rX13_readCheats_10, rX13_readCheats_11, rX13_readCheats_12, rX13_readCheats_15, rX13_readCheats_16, rX13_readCheats_19, rX13_readCheats_20, rX13_readCheats_23, rX13_readCheats_26, rX13_readCheats_27, rX13_readCheats_28, rX13_readCheats_29, rX13_readCheats_32, rX13_readCheats_33, rX13_readCheats_34, rX13_readCheats_37, rX13_readCheats_38, rX13_readCheats_41, rX13_readCheats_42, rX13_readCheats_43, rX13_readCheats_45, rX13_readCheats_48, rX13_readCheats_49, rX13_readCheats_50, rX13_readCheats_52, rX13_readCheats_53, rX13_readCheats_55, rX13_readCheats_58, rX13_readCheats_59, rX13_readCheats_60, rX13_readCheats_63, rX13_readCheats_64, rX13_readCheats_66, rX13_readCheats_69, rX13_readCheats_71, rX13_readCheats_72, rX13_readCheats_75, rX13_readCheats_76, rX13_readCheats_79, gS_355, g, h9, h4, s0, c1, c2, c3, c4, c5, c6, c7, c8, ne_eq, not_false_eq_true, not_true_eq_false, true_and, and_true, and_self, true_imp_iff, false_imp_iff, imp_self, Bool.not_false, Bool.not_true, reduceCtorEq, ab_isJ, ab_psh, ab_cats, Bool.false_eq_true, if_true, if_false, ab_shf, ab_shw, Int.le_refl, Classical.not_not, Int.zero_add, forall_const, ↓ab_itT, ↓ab_itF, ab_anT, ab_w32_id, ab_rdf_ne, ab_rdw_ne, ab_rdw_eq, ab_rdf_in, ab_td2, ab_tm2, true_or, or_true]
  all_goals exact kq

theorem mt_ch2 (h : ac_RF τ w pl) (hR : ar_MR τ M κ) (hn : 0 ≤ κ 10 0 ∧ κ 10 0 ≤ 11) (kq : Q none τ) : ab_Run X 196 37 (14, 0, 0) [ab_R 355, ab_I p, ab_R 0, ab_R 0, ab_R 0] [] τ Q := by
  have g := h.1
  have h9 := h.2.1
  have h4 := hR.1
  have hM := hR.2.1.1
  have s0 := mS hR.2.1
  have c1 := fun Q' => mq_goesOn5 (X := X) (Q := Q') h.1 h.2.1
  have c2 := fun k Q' => mq_flaw5 (X := X) (Q := Q') (k := k) h
  have c3 := fun a Q' => mq_isWord5 (X := X) (Q := Q') (a := a) h.1 h.2.1
  have c4 := fun a lo hi Q' (ha : a ≤ -2) => mq_part5 (X := X) (Q := Q') (a := a) (lo := lo) (hi := hi) h ha
  have c5 := fun lo hi Q' => mq_whole5 (X := X) (Q := Q') (lo := lo) (hi := hi) h
  have c6 := fun Q' => mq_known5 (X := X) (Q := Q') h hR hn
  have c7 := fun Q' => mq_pers5 (X := X) (Q := Q') h hR hn
  have c8 := fun Q' => mq_side5 (X := X) (Q := Q') h
  clear h hR
  simp (disch := omega) only [rX13_readCheats_37, rX13_readCheats_38, rX13_readCheats_41, rX13_readCheats_42, rX13_readCheats_43, rX13_readCheats_45, rX13_readCheats_48, rX13_readCheats_49, rX13_readCheats_50, rX13_readCheats_52, rX13_readCheats_53, rX13_readCheats_55, rX13_readCheats_58, rX13_readCheats_59, rX13_readCheats_60, rX13_readCheats_63, rX13_readCheats_64, rX13_readCheats_66, rX13_readCheats_69, rX13_readCheats_71, rX13_readCheats_72, rX13_readCheats_75, rX13_readCheats_76, rX13_readCheats_79, gS_355, g, h9, h4, s0, c1, c2, c3, c4, c5, c6, c7, c8, ne_eq, not_false_eq_true, not_true_eq_false, true_and, and_true, and_self, true_imp_iff, false_imp_iff, imp_self, Bool.not_false, Bool.not_true, reduceCtorEq, ab_isJ, ab_psh, ab_cats, Bool.false_eq_true, if_true, if_false, ab_shf, ab_shw, Int.le_refl, Classical.not_not, Int.zero_add, forall_const, ↓ab_itT, ↓ab_itF, ab_anT, ab_w32_id, ab_rdf_ne, ab_rdw_ne, ab_rdw_eq, ab_rdf_in, ab_td2, ab_tm2, true_or, or_true]
  all_goals exact kq

theorem mt_ch3 (h : ac_RF τ w pl) (hR : ar_MR τ M κ) (hn : 0 ≤ κ 10 0 ∧ κ 10 0 ≤ 11) (kq : Q none τ) : ab_Run X 196 48 (14, 0, 0) [ab_R 355, ab_I p, ab_R 0, ab_R 0, ab_R 0] (ab_psh (some (ab_I v)) []) τ Q := by
  have g := h.1
  have h9 := h.2.1
  have h4 := hR.1
  have hM := hR.2.1.1
  have s0 := mS hR.2.1
  have c1 := fun Q' => mq_goesOn5 (X := X) (Q := Q') h.1 h.2.1
  have c2 := fun k Q' => mq_flaw5 (X := X) (Q := Q') (k := k) h
  have c3 := fun a Q' => mq_isWord5 (X := X) (Q := Q') (a := a) h.1 h.2.1
  have c4 := fun a lo hi Q' (ha : a ≤ -2) => mq_part5 (X := X) (Q := Q') (a := a) (lo := lo) (hi := hi) h ha
  have c5 := fun lo hi Q' => mq_whole5 (X := X) (Q := Q') (lo := lo) (hi := hi) h
  have c6 := fun Q' => mq_known5 (X := X) (Q := Q') h hR hn
  have c7 := fun Q' => mq_pers5 (X := X) (Q := Q') h hR hn
  have c8 := fun Q' => mq_side5 (X := X) (Q := Q') h
  clear h hR
  simp (disch := omega) only [rX13_readCheats_48, rX13_readCheats_49, rX13_readCheats_50, rX13_readCheats_52, rX13_readCheats_53, rX13_readCheats_55, rX13_readCheats_58, rX13_readCheats_59, rX13_readCheats_60, rX13_readCheats_63, rX13_readCheats_64, rX13_readCheats_66, rX13_readCheats_69, rX13_readCheats_71, rX13_readCheats_72, rX13_readCheats_75, rX13_readCheats_76, rX13_readCheats_79, gS_355, g, h9, h4, s0, c1, c2, c3, c4, c5, c6, c7, c8, ne_eq, not_false_eq_true, not_true_eq_false, true_and, and_true, and_self, true_imp_iff, false_imp_iff, imp_self, Bool.not_false, Bool.not_true, reduceCtorEq, ab_isJ, ab_psh, ab_cats, Bool.false_eq_true, if_true, if_false, ab_shf, ab_shw, Int.le_refl, Classical.not_not, Int.zero_add, forall_const, ↓ab_itT, ↓ab_itF, ab_anT, ab_w32_id, ab_rdf_ne, ab_rdw_ne, ab_rdw_eq, ab_rdf_in, ab_td2, ab_tm2, true_or, or_true]
  all_goals exact kq

theorem mt_ch4 (h : ac_RF τ w pl) (hR : ar_MR τ M κ) (hn : 0 ≤ κ 10 0 ∧ κ 10 0 ≤ 11) (kq : Q none τ) : ab_Run X 196 58 (14, 0, 0) [ab_R 355, ab_I p, ab_I v1, ab_R 0, ab_R 0] (ab_psh (some (ab_I v)) []) τ Q := by
  have g := h.1
  have h9 := h.2.1
  have h4 := hR.1
  have hM := hR.2.1.1
  have s0 := mS hR.2.1
  have c1 := fun Q' => mq_goesOn5 (X := X) (Q := Q') h.1 h.2.1
  have c2 := fun k Q' => mq_flaw5 (X := X) (Q := Q') (k := k) h
  have c3 := fun a Q' => mq_isWord5 (X := X) (Q := Q') (a := a) h.1 h.2.1
  have c4 := fun a lo hi Q' (ha : a ≤ -2) => mq_part5 (X := X) (Q := Q') (a := a) (lo := lo) (hi := hi) h ha
  have c5 := fun lo hi Q' => mq_whole5 (X := X) (Q := Q') (lo := lo) (hi := hi) h
  have c6 := fun Q' => mq_known5 (X := X) (Q := Q') h hR hn
  have c7 := fun Q' => mq_pers5 (X := X) (Q := Q') h hR hn
  have c8 := fun Q' => mq_side5 (X := X) (Q := Q') h
  clear h hR
  simp (disch := omega) only [rX13_readCheats_58, rX13_readCheats_59, rX13_readCheats_60, rX13_readCheats_63, rX13_readCheats_64, rX13_readCheats_66, rX13_readCheats_69, rX13_readCheats_71, rX13_readCheats_72, rX13_readCheats_75, rX13_readCheats_76, rX13_readCheats_79, gS_355, g, h9, h4, s0, c1, c2, c3, c4, c5, c6, c7, c8, ne_eq, not_false_eq_true, not_true_eq_false, true_and, and_true, and_self, true_imp_iff, false_imp_iff, imp_self, Bool.not_false, Bool.not_true, reduceCtorEq, ab_isJ, ab_psh, ab_cats, Bool.false_eq_true, if_true, if_false, ab_shf, ab_shw, Int.le_refl, Classical.not_not, Int.zero_add, forall_const, ↓ab_itT, ↓ab_itF, ab_anT, ab_w32_id, ab_rdf_ne, ab_rdw_ne, ab_rdw_eq, ab_rdf_in, ab_td2, ab_tm2, true_or, or_true]
  all_goals exact kq

theorem mt_ch5 (h : ac_RF τ w pl) (hR : ar_MR τ M κ) (hn : 0 ≤ κ 10 0 ∧ κ 10 0 ≤ 11) (kq : Q none τ) : ab_Run X 196 69 (14, 0, 0) [ab_R 355, ab_I p, ab_I v1, ab_I v2, ab_R 0] (ab_psh (some (ab_I v)) []) τ Q := by
  have g := h.1
  have h9 := h.2.1
  have h4 := hR.1
  have hM := hR.2.1.1
  have s0 := mS hR.2.1
  have c1 := fun Q' => mq_goesOn5 (X := X) (Q := Q') h.1 h.2.1
  have c2 := fun k Q' => mq_flaw5 (X := X) (Q := Q') (k := k) h
  have c3 := fun a Q' => mq_isWord5 (X := X) (Q := Q') (a := a) h.1 h.2.1
  have c4 := fun a lo hi Q' (ha : a ≤ -2) => mq_part5 (X := X) (Q := Q') (a := a) (lo := lo) (hi := hi) h ha
  have c5 := fun lo hi Q' => mq_whole5 (X := X) (Q := Q') (lo := lo) (hi := hi) h
  have c6 := fun Q' => mq_known5 (X := X) (Q := Q') h hR hn
  have c7 := fun Q' => mq_pers5 (X := X) (Q := Q') h hR hn
  have c8 := fun Q' => mq_side5 (X := X) (Q := Q') h
  clear h hR
  simp (disch := omega) only [rX13_readCheats_69, rX13_readCheats_71, rX13_readCheats_72, rX13_readCheats_75, rX13_readCheats_76, rX13_readCheats_79, gS_355, g, h9, h4, s0, c1, c2, c3, c4, c5, c6, c7, c8, ne_eq, not_false_eq_true, not_true_eq_false, true_and, and_true, and_self, true_imp_iff, false_imp_iff, imp_self, Bool.not_false, Bool.not_true, reduceCtorEq, ab_isJ, ab_psh, ab_cats, Bool.false_eq_true, if_true, if_false, ab_shf, ab_shw, Int.le_refl, Classical.not_not, Int.zero_add, forall_const, ↓ab_itT, ↓ab_itF, ab_anT, ab_w32_id, ab_rdf_ne, ab_rdw_ne, ab_rdw_eq, ab_rdf_in, ab_td2, ab_tm2, true_or, or_true]
  all_goals exact kq

theorem ms_ch_b (g : ab_Geo τ) (key : ab_Do X 181 [ab_R 355, ab_I 0, ab_I 1] τ (fun r σ' => ab_Run X 196 6 (14, 0, 0) [ab_R 355, ab_R 0, ab_R 0, ab_R 0, ab_R 0] (ab_psh r []) σ' Q)) : ab_Do X 196 [ab_R 355] τ Q := by
  simp (disch := omega) only [do_X13_readCheats, rX13_readCheats_0, rX13_readCheats_1, rX13_readCheats_2, rX13_readCheats_3, gS_355, g, ne_eq, not_false_eq_true, not_true_eq_false, true_and, and_true, and_self, true_imp_iff, false_imp_iff, imp_self, Bool.not_false, Bool.not_true, reduceCtorEq, ab_isJ, ab_psh, ab_cats, Bool.false_eq_true, if_true, if_false, ab_shf, ab_shw, Int.le_refl, Classical.not_not, Int.zero_add, forall_const, ↓ab_itT, ↓ab_itF, ab_anT, ab_w32_id, ab_rdf_ne, ab_rdw_ne, ab_rdw_eq, ab_rdf_in, ab_td2, ab_tm2, true_or, or_true]
  all_goals exact key

theorem ms_ch_k (g : ab_Geo τ) (key : ab_Do X 184 [ab_R 355] τ (fun r σ' => ab_Run X 196 10 (14, 0, 0) [ab_R 355, ab_R 0, ab_R 0, ab_R 0, ab_R 0] (ab_psh r []) σ' Q)) : ab_Run X 196 6 (14, 0, 0) [ab_R 355, ab_R 0, ab_R 0, ab_R 0, ab_R 0] (ab_psh none []) τ Q := by
  simp (disch := omega) only [rX13_readCheats_6, rX13_readCheats_7, gS_355, g, ne_eq, not_false_eq_true, not_true_eq_false, true_and, and_true, and_self, true_imp_iff, false_imp_iff, imp_self, Bool.not_false, Bool.not_true, reduceCtorEq, ab_isJ, ab_psh, ab_cats, Bool.false_eq_true, if_true, if_false, ab_shf, ab_shw, Int.le_refl, Classical.not_not, Int.zero_add, forall_const, ↓ab_itT, ↓ab_itF, ab_anT, ab_w32_id, ab_rdf_ne, ab_rdw_ne, ab_rdw_eq, ab_rdf_in, ab_td2, ab_tm2, true_or, or_true]
  all_goals exact key

theorem ms_ch_m (h : ac_RM τ n tp s) (hR : ar_MR τ M κ) (hp : 0 ≤ p ∧ p < 6) (kF : ¬ κ 27 p = -1 → ab_Run X 196 37 (14, 0, 0) [ab_R 355, ab_I p, ab_R 0, ab_R 0, ab_R 0] [] (ab_wr (ab_wr (ab_wr τ 355 13 3) 355 14 s) 355 9 5) Q) (kO : κ 27 p = -1 → ab_Run X 196 37 (14, 0, 0) [ab_R 355, ab_I p, ab_R 0, ab_R 0, ab_R 0] [] τ Q) : ab_Run X 196 10 (14, 0, 0) [ab_R 355, ab_R 0, ab_R 0, ab_R 0, ab_R 0] (ab_psh (some (ab_I p)) []) τ Q := by
  have g := h.1.1
  have h5 := h.n5
  have h4 := hR.1
  have hM := hR.2.1.1
  have s0 := mS hR.2.1
  have s27 := mS_27 hR.2.1
  have p27 := mP_27 hR.2.1
  have e27 : ab_rd τ (M + 16) p = κ 27 p := hR.2.2.2 27 p (by omega) (by omega) hp.1 (by show p < 6; omega)
  have c2 := fun k Q' => mq_flaw (X := X) (Q := Q') (k := k) h
  clear h hR
  by_cases z : κ 27 p = -1
  · have kq := kO z
    rw [z] at e27
    clear kF kO c2
    simp (disch := omega) only [rX13_readCheats_10, rX13_readCheats_11, rX13_readCheats_12, rX13_readCheats_15, rX13_readCheats_16, rX13_readCheats_19, rX13_readCheats_20, rX13_readCheats_23, rX13_readCheats_26, rX13_readCheats_27, rX13_readCheats_28, rX13_readCheats_29, gS_355, g, h4, s0, s27, p27, e27, ne_eq, not_false_eq_true, not_true_eq_false, true_and, and_true, and_self, true_imp_iff, false_imp_iff, imp_self, Bool.not_false, Bool.not_true, reduceCtorEq, ab_isJ, ab_psh, ab_cats, Bool.false_eq_true, if_true, if_false, ab_shf, ab_shw, Int.le_refl, Classical.not_not, Int.zero_add, forall_const, ↓ab_itT, ↓ab_itF, ab_anT, ab_w32_id, ab_rdf_ne, ab_rdw_ne, ab_rdw_eq, ab_rdf_in, ab_td2, ab_tm2, true_or, or_true]
    all_goals exact kq
  · have kq := kF z
    clear kF kO
    simp (disch := omega) only [rX13_readCheats_10, rX13_readCheats_11, rX13_readCheats_12, rX13_readCheats_15, rX13_readCheats_16, rX13_readCheats_19, rX13_readCheats_20, rX13_readCheats_23, rX13_readCheats_26, rX13_readCheats_27, rX13_readCheats_28, rX13_readCheats_29, rX13_readCheats_32, rX13_readCheats_33, rX13_readCheats_34, gS_355, g, h4, s0, s27, p27, e27, c2, ne_eq, not_false_eq_true, not_true_eq_false, true_and, and_true, and_self, true_imp_iff, false_imp_iff, imp_self, Bool.not_false, Bool.not_true, reduceCtorEq, ab_isJ, ab_psh, ab_cats, Bool.false_eq_true, if_true, if_false, ab_shf, ab_shw, Int.le_refl, Classical.not_not, Int.zero_add, forall_const, ↓ab_itT, ↓ab_itF, ab_anT, ab_w32_id, ab_rdf_ne, ab_rdw_ne, ab_rdw_eq, ab_rdf_in, ab_td2, ab_tm2, true_or, or_true]
    all_goals exact kq

theorem ms_ch_g (g : ab_Geo τ) (key : ab_Do X 171 [ab_R 355] τ (fun r σ' => ab_Run X 196 41 (14, 0, 0) [ab_R 355, ab_I p, ab_R 0, ab_R 0, ab_R 0] (ab_psh r []) σ' Q)) : ab_Run X 196 37 (14, 0, 0) [ab_R 355, ab_I p, ab_R 0, ab_R 0, ab_R 0] [] τ Q := by
  simp (disch := omega) only [rX13_readCheats_37, rX13_readCheats_38, gS_355, g, ne_eq, not_false_eq_true, not_true_eq_false, true_and, and_true, and_self, true_imp_iff, false_imp_iff, imp_self, Bool.not_false, Bool.not_true, reduceCtorEq, ab_isJ, ab_psh, ab_cats, Bool.false_eq_true, if_true, if_false, ab_shf, ab_shw, Int.le_refl, Classical.not_not, Int.zero_add, forall_const, ↓ab_itT, ↓ab_itF, ab_anT, ab_w32_id, ab_rdf_ne, ab_rdw_ne, ab_rdw_eq, ab_rdf_in, ab_td2, ab_tm2, true_or, or_true]
  all_goals exact key

theorem ms_ch_w (g : ab_Geo τ) (key : ab_Do X 178 [ab_R 355, ab_I 0, ab_I 99] τ (fun r σ' => ab_Run X 196 48 (14, 0, 0) [ab_R 355, ab_I p, ab_R 0, ab_R 0, ab_R 0] (ab_psh r []) σ' Q)) : ab_Run X 196 41 (14, 0, 0) [ab_R 355, ab_I p, ab_R 0, ab_R 0, ab_R 0] (ab_psh none []) τ Q := by
  simp (disch := omega) only [rX13_readCheats_41, rX13_readCheats_42, rX13_readCheats_43, rX13_readCheats_45, gS_355, g, ne_eq, not_false_eq_true, not_true_eq_false, true_and, and_true, and_self, true_imp_iff, false_imp_iff, imp_self, Bool.not_false, Bool.not_true, reduceCtorEq, ab_isJ, ab_psh, ab_cats, Bool.false_eq_true, if_true, if_false, ab_shf, ab_shw, Int.le_refl, Classical.not_not, Int.zero_add, forall_const, ↓ab_itT, ↓ab_itF, ab_anT, ab_w32_id, ab_rdf_ne, ab_rdw_ne, ab_rdw_eq, ab_rdf_in, ab_td2, ab_tm2, true_or, or_true]
  all_goals exact key

theorem ms_ch_t (g : ab_Geo τ) (key : ab_Do X 179 [ab_R 355, ab_R (-6), ab_I 1, ab_I 9] τ (fun r σ' => ab_Run X 196 58 (14, 0, 0) [ab_R 355, ab_I p, ab_I v1, ab_R 0, ab_R 0] (ab_psh r []) σ' Q)) : ab_Run X 196 48 (14, 0, 0) [ab_R 355, ab_I p, ab_R 0, ab_R 0, ab_R 0] (ab_psh (some (ab_I v1)) []) τ Q := by
  simp (disch := omega) only [rX13_readCheats_48, rX13_readCheats_49, rX13_readCheats_50, rX13_readCheats_52, rX13_readCheats_53, rX13_readCheats_55, gS_355, g, ne_eq, not_false_eq_true, not_true_eq_false, true_and, and_true, and_self, true_imp_iff, false_imp_iff, imp_self, Bool.not_false, Bool.not_true, reduceCtorEq, ab_isJ, ab_psh, ab_cats, Bool.false_eq_true, if_true, if_false, ab_shf, ab_shw, Int.le_refl, Classical.not_not, Int.zero_add, forall_const, ↓ab_itT, ↓ab_itF, ab_anT, ab_w32_id, ab_rdf_ne, ab_rdw_ne, ab_rdw_eq, ab_rdf_in, ab_td2, ab_tm2, true_or, or_true]
  all_goals exact key

theorem ms_ch_f (g : ab_Geo τ) (key : ab_Do X 179 [ab_R 355, ab_R (-28), ab_I 1, ab_I 9] τ (fun r σ' => ab_Run X 196 69 (14, 0, 0) [ab_R 355, ab_I p, ab_I v1, ab_I v2, ab_R 0] (ab_psh r []) σ' Q)) : ab_Run X 196 58 (14, 0, 0) [ab_R 355, ab_I p, ab_I v1, ab_R 0, ab_R 0] (ab_psh (some (ab_I v2)) []) τ Q := by
  simp (disch := omega) only [rX13_readCheats_58, rX13_readCheats_59, rX13_readCheats_60, rX13_readCheats_63, rX13_readCheats_64, rX13_readCheats_66, gS_355, g, ne_eq, not_false_eq_true, not_true_eq_false, true_and, and_true, and_self, true_imp_iff, false_imp_iff, imp_self, Bool.not_false, Bool.not_true, reduceCtorEq, ab_isJ, ab_psh, ab_cats, Bool.false_eq_true, if_true, if_false, ab_shf, ab_shw, Int.le_refl, Classical.not_not, Int.zero_add, forall_const, ↓ab_itT, ↓ab_itF, ab_anT, ab_w32_id, ab_rdf_ne, ab_rdw_ne, ab_rdw_eq, ab_rdf_in, ab_td2, ab_tm2, true_or, or_true]
  all_goals exact key

theorem ms_ch_e (g : ab_Geo τ) (hR : ar_MR τ M κ) (n5 : ¬ ab_rd τ 355 9 = 5) (hp : 0 ≤ p ∧ p < 6) (key : Q none (ab_wr (ab_wr (ab_wr τ (M + 16) p v1) (M + 17) p v2) (M + 18) p v3)) : ab_Run X 196 69 (14, 0, 0) [ab_R 355, ab_I p, ab_I v1, ab_I v2, ab_R 0] (ab_psh (some (ab_I v3)) []) τ Q := by
  have h4 := hR.1
  have hM := hR.2.1.1
  have s0 := mS hR.2.1
  have s27 := mS_27 hR.2.1
  have p27 := mP_27 hR.2.1
  have s28 := mS_28 hR.2.1
  have p28 := mP_28 hR.2.1
  have s29 := mS_29 hR.2.1
  have p29 := mP_29 hR.2.1
  clear hR
  simp (disch := omega) only [rX13_readCheats_69, rX13_readCheats_71, rX13_readCheats_72, rX13_readCheats_75, rX13_readCheats_76, rX13_readCheats_79, rX13_readCheats_80, rX13_readCheats_81, rX13_readCheats_84, rX13_readCheats_87, rX13_readCheats_88, rX13_readCheats_89, rX13_readCheats_90, rX13_readCheats_91, rX13_readCheats_94, rX13_readCheats_97, rX13_readCheats_98, rX13_readCheats_99, rX13_readCheats_100, rX13_readCheats_101, rX13_readCheats_104, rX13_readCheats_107, rX13_readCheats_108, rX13_readCheats_110, rX13_readCheats_111, gS_355, g, h4, s0, s27, p27, s28, p28, s29, p29, ne_eq, not_false_eq_true, not_true_eq_false, true_and, and_true, and_self, true_imp_iff, false_imp_iff, imp_self, Bool.not_false, Bool.not_true, reduceCtorEq, ab_isJ, ab_psh, ab_cats, Bool.false_eq_true, if_true, if_false, ab_shf, ab_shw, Int.le_refl, Classical.not_not, Int.zero_add, forall_const, ↓ab_itT, ↓ab_itF, ab_anT, ab_w32_id, ab_rdf_ne, ab_rdw_ne, ab_rdw_eq, ab_rdf_in, ab_td2, ab_tm2, true_or, or_true]
  all_goals exact key

theorem mq_readCheats (h : ac_RM σ n tp s) (hR : ar_MR σ M κ) (hj : ar_J κ) (hk1 : ac_kk tp n s ≠ 1) (hF : ar_mF Q σ M (pr_enter tp n κ 0 1 s (pr_cheats tp n κ))) (hO : ar_mO Q σ M n tp (pr_enter tp n κ 0 1 s (pr_cheats tp n κ))) : ab_Do X 196 [ab_R 355] σ Q := by
  have hn := hj.n10
  have hM := hR.2.1.1
  have hL := hj.2.2.2.2.2.1
  have n5 := hj.1.1
  have n6 := hj.1.2.1
  generalize er : pr_enter tp n κ 0 1 s (pr_cheats tp n κ) = r at hF hO
  refine ms_ch_b h.1.1 (mq_enterE h hR hk1 hj.2.2.1 (by decide) (fun u => by decide) er (fun wf pl ef υ u f => mt_ch0 f (hR.same u) hn (hF wf pl ef υ u.vw f)) (fun y1 y2 er1 τ1 u1 R1 => ?_))
  unfold pr_cheats at er1
  have K1 := hR.same u1
  have W1 : ab_Same (ar_PW M) σ τ1 := u1.vw
  refine ms_ch_k R1.1.1 (mq_knownE R1 K1 hL ⟨n5, n6⟩ er1 (fun wf pl ef υ u f => mt_ch1 f (K1.same u) hn (hF wf pl ef υ (W1.trans u.vw) f)) (fun p pb k2 er2 => ?_))
  rw [if_neg (by omega)] at er2
  have f := ac_flw (k := 3) R1
  refine ms_ch_m R1 K1 (by omega) (fun z => ?_) (fun z => ?_)
  · rw [if_neg z] at er2
    exact mt_ch2 f.1 (K1.same f.2) hn (hF 3 _ er2.symm _ (W1.trans f.2.vw) f.1)
  · rw [if_pos z] at er2
    refine ms_ch_g R1.1.1 (mq_goesOnR R1 (by omega) (fun τ2 u2 R2 => ?_))
    have K2 := K1.same u2.uw
    have W2 := W1.trans (ab_Same.vw (M := M) u2.uw)
    refine ms_ch_w R2.1.1 (mq_wholeE R2 er2 (fun wf pl ef υ u f => mt_ch3 f (K2.same u) hn (hF wf pl ef υ (W2.trans u.vw) f)) (fun v1 vb er3 τ3 u3 R3 => ?_))
    have K3 := K2.same u3
    have W3 := W2.trans (ab_Same.vw (M := M) u3)
    refine ms_ch_t R3.1.1 (mq_partE R3 ac_TX4 ac_tok4 er3 (fun wf pl ef υ u f => mt_ch4 f (K3.same u) hn (hF wf pl ef υ (W3.trans u.vw) f)) (fun v2 s4 er4 τ4 u4 R4 => ?_))
    have K4 := K3.same u4
    have W4 := W3.trans (ab_Same.vw (M := M) u4)
    refine ms_ch_f R4.1.1 (mq_partE R4 ac_TX26 ac_tok26 er4 (fun wf pl ef υ u f => mt_ch5 f (K4.same u) hn (hF wf pl ef υ (W4.trans u.vw) f)) (fun v3 s5 er5 τ5 u5 R5 => ?_))
    have K5 := K4.same u5
    have W5 := W4.trans (ab_Same.vw (M := M) u5)
    refine ms_ch_e R5.1.1 K5 R5.n5 (by omega) (hO _ _ er5.symm _ ?_ ?_ ?_)
    · exact ((W5.wr (Or.inr (by omega))).wr (Or.inr (by omega))).wr (Or.inr (by omega))
    · exact ((R5.wrM (by omega)).wrM (by omega)).wrM (by omega)
    · exact ((K5.wrA (f := 27) (by omega) (by omega)).wrA (f := 28) (by omega) (by omega)).wrA (f := 29) (by omega) (by omega)
end
