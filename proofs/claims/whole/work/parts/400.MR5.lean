/-! READER of the reference: arms -/
section
variable {X : ab_X} {σ τ υ : ab_S} {Q : Option ab_V → ab_S → Prop} {n p q s t i j w pl M v b arm o x m : Int} {tp : Int → Int} {κ : ac_K} {r : ar_R} {l5 : ab_V}
theorem ma_1 (g : ab_Geo τ) (key : ab_Do X 177 [ab_R 355, ab_I 1, ab_I 9] τ (fun r σ' => ab_Run X 190 55 (13, 0, 0) [ab_R 355, ab_I arm, ab_I b, ab_I i, ab_I 1, l5] (ab_psh r []) σ' Q)) : ab_Run X 190 43 (13, 0, 0) [ab_R 355, ab_I arm, ab_I b, ab_I i, ab_I 1, l5] [] τ Q := by
  rw [rX13_readArm_43]
  simp (disch := omega) only [rX13_readArm_45, rX13_readArm_48, rX13_readArm_49, rX13_readArm_50, rX13_readArm_52, gS_355, g, ne_eq, not_false_eq_true, not_true_eq_false, true_and, and_true, and_self, true_imp_iff, false_imp_iff, imp_self, Bool.not_false, Bool.not_true, reduceCtorEq, ab_isJ, ab_psh, ab_cats, Bool.false_eq_true, if_true, if_false, ab_shf, ab_shw, Int.le_refl, Classical.not_not, Int.zero_add, forall_const, ↓ab_itT, ↓ab_itF, ab_anT, ab_w32_id, ab_rdf_ne, ab_rdw_ne, ab_rdw_eq, ab_rdf_in, ab_td2, ab_tm2, true_or, or_true]
  all_goals exact key
theorem ma_f (h : ac_RF τ w pl) (kq : Q none τ) : ab_Run X 190 55 (13, 0, 0) [ab_R 355, ab_I arm, ab_I b, ab_I i, ab_I 1, l5] (ab_psh (some (ab_I v)) []) τ Q := by
  have g := h.1
  have h9 := h.2.1
  have c1 := fun Q' => mq_goesOn5 (X := X) (Q := Q') h.1 h.2.1
  have c2 := fun k Q' => mq_flaw5 (X := X) (Q := Q') (k := k) h
  clear h
  by_cases z : i = 6
  · simp (disch := omega) only [rX13_readArm_55, rX13_readArm_57, rX13_readArm_58, rX13_readArm_60, rX13_readArm_63, rX13_readArm_64, rX13_readArm_65, rX13_readArm_68, rX13_readArm_69, rX13_readArm_72, rX13_readArm_73, rX13_readArm_76, rX13_readArm_77, rX13_readArm_80, gS_355, g, h9, c1, c2, ne_eq, not_false_eq_true, not_true_eq_false, true_and, and_true, and_self, true_imp_iff, false_imp_iff, imp_self, Bool.not_false, Bool.not_true, reduceCtorEq, ab_isJ, ab_psh, ab_cats, Bool.false_eq_true, if_true, if_false, ab_shf, ab_shw, Int.le_refl, Classical.not_not, Int.zero_add, forall_const, ↓ab_itT, ↓ab_itF, ab_anT, ab_w32_id, ab_rdf_ne, ab_rdw_ne, ab_rdw_eq, ab_rdf_in, ab_td2, ab_tm2, true_or, or_true]
    all_goals exact kq
  · simp (disch := omega) only [rX13_readArm_55, rX13_readArm_57, rX13_readArm_58, rX13_readArm_60, rX13_readArm_68, rX13_readArm_69, rX13_readArm_72, rX13_readArm_73, rX13_readArm_76, rX13_readArm_77, rX13_readArm_80, gS_355, g, h9, c1, c2, ne_eq, not_false_eq_true, not_true_eq_false, true_and, and_true, and_self, true_imp_iff, false_imp_iff, imp_self, Bool.not_false, Bool.not_true, reduceCtorEq, ab_isJ, ab_psh, ab_cats, Bool.false_eq_true, if_true, if_false, ab_shf, ab_shw, Int.le_refl, Classical.not_not, Int.zero_add, forall_const, ↓ab_itT, ↓ab_itF, ab_anT, ab_w32_id, ab_rdf_ne, ab_rdw_ne, ab_rdw_eq, ab_rdf_in, ab_td2, ab_tm2, true_or, or_true]
    all_goals exact kq
theorem ma_6 (h : ac_RM τ n tp s) (kq : Q none (ab_wr (ab_wr (ab_wr τ 355 13 5) 355 14 s) 355 9 5)) : ab_Run X 190 55 (13, 0, 0) [ab_R 355, ab_I arm, ab_I b, ab_I 6, ab_I 1, l5] (ab_psh (some (ab_I v)) []) τ Q := by
  have g := h.1.1
  have c2 := fun k Q' => mq_flaw (X := X) (Q := Q') (k := k) h
  have f := ac_flw (k := 5) h
  have gF := f.1.1
  have f9 := f.1.2.1
  have c1 := fun Q' => mq_goesOn5 (X := X) (Q := Q') f.1.1 f.1.2.1
  clear h f
  simp (disch := omega) only [rX13_readArm_55, rX13_readArm_57, rX13_readArm_58, rX13_readArm_60, rX13_readArm_63, rX13_readArm_64, rX13_readArm_65, rX13_readArm_68, rX13_readArm_69, rX13_readArm_72, rX13_readArm_73, rX13_readArm_76, rX13_readArm_77, rX13_readArm_80, gS_355, g, gF, f9, c1, c2, ne_eq, not_false_eq_true, not_true_eq_false, true_and, and_true, and_self, true_imp_iff, false_imp_iff, imp_self, Bool.not_false, Bool.not_true, reduceCtorEq, ab_isJ, ab_psh, ab_cats, Bool.false_eq_true, if_true, if_false, ab_shf, ab_shw, Int.le_refl, Classical.not_not, Int.zero_add, forall_const, ↓ab_itT, ↓ab_itF, ab_anT, true_or, or_true]
  all_goals exact kq
theorem ma_g (g : ab_Geo τ) (hi : i ≠ 6) (key : ab_Do X 171 [ab_R 355] τ (fun r σ' => ab_Run X 190 72 (13, 0, 0) [ab_R 355, ab_I arm, ab_I b, ab_I i, ab_I 1, ab_I v] (ab_psh r []) σ' Q)) : ab_Run X 190 55 (13, 0, 0) [ab_R 355, ab_I arm, ab_I b, ab_I i, ab_I 1, l5] (ab_psh (some (ab_I v)) []) τ Q := by
  simp (disch := omega) only [rX13_readArm_55, rX13_readArm_57, rX13_readArm_58, rX13_readArm_60, rX13_readArm_68, rX13_readArm_69, gS_355, g, ne_eq, not_false_eq_true, not_true_eq_false, true_and, and_true, and_self, true_imp_iff, false_imp_iff, imp_self, Bool.not_false, Bool.not_true, reduceCtorEq, ab_isJ, ab_psh, ab_cats, Bool.false_eq_true, if_true, if_false, ab_shf, ab_shw, Int.le_refl, Classical.not_not, Int.zero_add, forall_const, ↓ab_itT, ↓ab_itF, ab_anT, ab_w32_id, ab_rdf_ne, ab_rdw_ne, ab_rdw_eq, ab_rdf_in, ab_td2, ab_tm2, true_or, or_true]
  all_goals exact key
theorem ma_w (g : ab_Geo τ) (n5 : ¬ ab_rd τ 355 9 = 5) (hR : ar_MR τ M κ) (hb : 0 ≤ b ∧ b < 5) (ha : 0 ≤ arm ∧ arm ≤ 1) (hi : 0 ≤ i ∧ i < 6) (key : ab_Do X 175 [ab_R 355, ab_I 44] (ab_wr τ (M + 4) (6 * (2 * b + arm) + i) v) (fun r σ' => ab_Run X 190 110 (13, 0, 0) [ab_R 355, ab_I arm, ab_I b, ab_I (i + 1), ab_I 1, ab_I v] (ab_psh r []) σ' Q)) : ab_Run X 190 72 (13, 0, 0) [ab_R 355, ab_I arm, ab_I b, ab_I i, ab_I 1, ab_I v] (ab_psh none []) τ Q := by
  have h4 := hR.1
  have hM := hR.2.1.1
  have s0 := mS hR.2.1
  have s15 := mS_15 hR.2.1
  have p15 := mP_15 hR.2.1
  clear hR
  simp (disch := omega) only [rX13_readArm_72, rX13_readArm_73, rX13_readArm_76, rX13_readArm_77, rX13_readArm_81, rX13_readArm_82, rX13_readArm_85, rX13_readArm_88, rX13_readArm_90, rX13_readArm_91, rX13_readArm_92, rX13_readArm_93, rX13_readArm_94, rX13_readArm_95, rX13_readArm_96, rX13_readArm_97, rX13_readArm_98, rX13_readArm_100, rX13_readArm_101, rX13_readArm_104, rX13_readArm_105, rX13_readArm_107, gS_355, g, h4, s0, s15, p15, ne_eq, not_false_eq_true, not_true_eq_false, true_and, and_true, and_self, true_imp_iff, false_imp_iff, imp_self, Bool.not_false, Bool.not_true, reduceCtorEq, ab_isJ, ab_psh, ab_cats, Bool.false_eq_true, if_true, if_false, ab_shf, ab_shw, Int.le_refl, Classical.not_not, Int.zero_add, forall_const, ↓ab_itT, ↓ab_itF, ab_anT, ab_w32_id, ab_rdf_ne, ab_rdw_ne, ab_rdw_eq, ab_rdf_in, ab_td2, ab_tm2, true_or, or_true]
  all_goals exact key
theorem ma_n (kq : ab_Run X 190 43 (13, 0, 0) [ab_R 355, ab_I arm, ab_I b, ab_I i, ab_I m, l5] [] τ Q) : ab_Run X 190 110 (13, 0, 0) [ab_R 355, ab_I arm, ab_I b, ab_I i, ab_I 1, l5] (ab_psh (some (ab_I m)) []) τ Q := by
  simp (disch := omega) only [rX13_readArm_110, rX13_readArm_112, ne_eq, not_false_eq_true, not_true_eq_false, true_and, and_true, and_self, true_imp_iff, false_imp_iff, imp_self, Bool.not_false, Bool.not_true, reduceCtorEq, ab_isJ, ab_psh, ab_cats, Bool.false_eq_true, if_true, if_false, ab_shf, ab_shw, Int.le_refl, Classical.not_not, Int.zero_add, forall_const, ↓ab_itT, ↓ab_itF, ab_anT, ab_w32_id, ab_rdf_ne, ab_rdw_ne, ab_rdw_eq, ab_rdf_in, ab_td2, ab_tm2, true_or, or_true]
  all_goals exact kq
theorem ma_x (kq : ab_Run X 190 115 (13, 0, 0) [ab_R 355, ab_I arm, ab_I b, ab_I i, ab_I 0, l5] [] τ Q) : ab_Run X 190 43 (13, 0, 0) [ab_R 355, ab_I arm, ab_I b, ab_I i, ab_I 0, l5] [] τ Q := by
  rw [rX13_readArm_43]
  simp (disch := omega) only [rX13_readArm_45, ne_eq, not_false_eq_true, not_true_eq_false, true_and, and_true, and_self, true_imp_iff, false_imp_iff, imp_self, Bool.not_false, Bool.not_true, reduceCtorEq, ab_isJ, ab_psh, ab_cats, Bool.false_eq_true, if_true, if_false, ab_shf, ab_shw, Int.le_refl, Classical.not_not, Int.zero_add, forall_const, ↓ab_itT, ↓ab_itF, ab_anT, ab_w32_id, ab_rdf_ne, ab_rdw_ne, ab_rdw_eq, ab_rdf_in, ab_td2, ab_tm2, true_or, or_true]
  all_goals exact kq
theorem ma_e2 (g : ab_Geo τ) (hR : ar_MR τ M κ) (hb : 0 ≤ b ∧ b < 5) (ha : 0 ≤ arm ∧ arm ≤ 1) (hj : 1 < j) (kq : Q none (ab_wr τ (M + 3) (2 * b + arm) j)) : ab_Run X 190 115 (13, 0, 0) [ab_R 355, ab_I arm, ab_I b, ab_I j, ab_I 0, l5] [] τ Q := by
  have h4 := hR.1
  have hM := hR.2.1.1
  have s0 := mS hR.2.1
  have s14 := mS_14 hR.2.1
  have p14 := mP_14 hR.2.1
  clear hR
  simp (disch := omega) only [rX13_readArm_115, rX13_readArm_116, rX13_readArm_119, rX13_readArm_122, rX13_readArm_123, rX13_readArm_124, rX13_readArm_125, rX13_readArm_126, rX13_readArm_127, rX13_readArm_128, rX13_readArm_129, rX13_readArm_130, rX13_readArm_131, rX13_readArm_134, gS_355, g, h4, s0, s14, p14, ne_eq, not_false_eq_true, not_true_eq_false, true_and, and_true, and_self, true_imp_iff, false_imp_iff, imp_self, Bool.not_false, Bool.not_true, reduceCtorEq, ab_isJ, ab_psh, ab_cats, Bool.false_eq_true, if_true, if_false, ab_shf, ab_shw, Int.le_refl, Classical.not_not, Int.zero_add, forall_const, ↓ab_itT, ↓ab_itF, ab_anT, ab_w32_id, ab_rdf_ne, ab_rdw_ne, ab_rdw_eq, ab_rdf_in, ab_td2, ab_tm2, true_or, or_true]
  all_goals exact kq
theorem ma_e0 (h : ac_RM τ n tp s) (hR : ar_MR τ M κ) (hb : 0 ≤ b ∧ b < 5) (hj : j ≤ 1) (kq : Q none (ab_wr (ab_wr (ab_wr (ab_wr τ (M + 3) (2 * b) j) 355 13 (if ac_isw tp n s ac_tx13 then 6 else 1)) 355 14 s) 355 9 5)) : ab_Run X 190 115 (13, 0, 0) [ab_R 355, ab_I 0, ab_I b, ab_I j, ab_I 0, l5] [] τ Q := by
  have g := h.1.1
  have h4 := hR.1
  have hM := hR.2.1.1
  have s0 := mS hR.2.1
  have s14 := mS_14 hR.2.1
  have p14 := mP_14 hR.2.1
  have h' : ac_RM (ab_wr τ (M + 3) (2 * b) j) n tp s := h.wrM (by omega)
  have c2 := fun k Q' => mq_flaw (X := X) (Q := Q') (k := k) h'
  have c13 := fun Q' => mq_isWordX (X := X) (Q := Q') h'.1.1 h'.2.1 h'.2.2.1 ac_TX13 ac_tok13
  clear h hR h'
  by_cases z : ac_isw tp n s ac_tx13
  · rw [if_pos z] at kq c13
    simp (disch := omega) only [rX13_readArm_115, rX13_readArm_116, rX13_readArm_119, rX13_readArm_122, rX13_readArm_123, rX13_readArm_124, rX13_readArm_125, rX13_readArm_126, rX13_readArm_127, rX13_readArm_128, rX13_readArm_129, rX13_readArm_130, rX13_readArm_131, rX13_readArm_135, rX13_readArm_136, rX13_readArm_139, rX13_readArm_140, rX13_readArm_142, rX13_readArm_145, rX13_readArm_170, rX13_readArm_172, rX13_readArm_173, rX13_readArm_175, rX13_readArm_178, rX13_readArm_180, rX13_readArm_183, rX13_readArm_184, rX13_readArm_187, gS_355, g, h4, s0, s14, p14, c13, c2, ne_eq, not_false_eq_true, not_true_eq_false, true_and, and_true, and_self, true_imp_iff, false_imp_iff, imp_self, Bool.not_false, Bool.not_true, reduceCtorEq, ab_isJ, ab_psh, ab_cats, Bool.false_eq_true, if_true, if_false, ab_shf, ab_shw, Int.le_refl, Classical.not_not, Int.zero_add, Int.add_zero, forall_const, ↓ab_itT, ↓ab_itF, ab_anT, ab_w32_id, ab_rdf_ne, ab_rdw_ne, ab_rdw_eq, ab_rdf_in, ab_td2, ab_tm2, true_or, or_true]
    all_goals exact kq
  · rw [if_neg z] at kq c13
    simp (disch := omega) only [rX13_readArm_115, rX13_readArm_116, rX13_readArm_119, rX13_readArm_122, rX13_readArm_123, rX13_readArm_124, rX13_readArm_125, rX13_readArm_126, rX13_readArm_127, rX13_readArm_128, rX13_readArm_129, rX13_readArm_130, rX13_readArm_131, rX13_readArm_135, rX13_readArm_136, rX13_readArm_139, rX13_readArm_140, rX13_readArm_142, rX13_readArm_145, rX13_readArm_170, rX13_readArm_172, rX13_readArm_173, rX13_readArm_175, rX13_readArm_178, rX13_readArm_180, rX13_readArm_183, rX13_readArm_184, rX13_readArm_187, gS_355, g, h4, s0, s14, p14, c13, c2, ne_eq, not_false_eq_true, not_true_eq_false, true_and, and_true, and_self, true_imp_iff, false_imp_iff, imp_self, Bool.not_false, Bool.not_true, reduceCtorEq, ab_isJ, ab_psh, ab_cats, Bool.false_eq_true, if_true, if_false, ab_shf, ab_shw, Int.le_refl, Classical.not_not, Int.zero_add, Int.add_zero, forall_const, ↓ab_itT, ↓ab_itF, ab_anT, ab_w32_id, ab_rdf_ne, ab_rdw_ne, ab_rdw_eq, ab_rdf_in, ab_td2, ab_tm2, true_or, or_true]
    all_goals exact kq
theorem ma_e1 (h : ac_RM τ n tp s) (hR : ar_MR τ M κ) (hb : 0 ≤ b ∧ b < 5) (hj : j ≤ 1) (kq : Q none (ab_wr (ab_wr (ab_wr (ab_wr τ (M + 3) (2 * b + 1) j) 355 13 (if ac_kk tp n s = 4 ∨ ac_kk tp n s = 0 then 6 else 1)) 355 14 s) 355 9 5)) : ab_Run X 190 115 (13, 0, 0) [ab_R 355, ab_I 1, ab_I b, ab_I j, ab_I 0, l5] [] τ Q := by
  have g := h.1.1
  have h4 := hR.1
  have hM := hR.2.1.1
  have s0 := mS hR.2.1
  have s14 := mS_14 hR.2.1
  have p14 := mP_14 hR.2.1
  have h' : ac_RM (ab_wr τ (M + 3) (2 * b + 1) j) n tp s := h.wrM (by omega)
  have g' := h'.1.1
  have h9 := h'.2.1.2.1
  have c2 := fun k Q' => mq_flaw (X := X) (Q := Q') (k := k) h'
  have c1 := fun Q' => mq_isSign (X := X) (Q := Q') (c0 := 59) h' (Or.inl rfl)
  clear h hR h'
  by_cases z : ac_kk tp n s = 4
  · rw [if_pos (Or.inl z)] at kq
    rw [if_pos (Or.inl ⟨rfl, z⟩)] at c1
    simp (disch := omega) only [rX13_readArm_115, rX13_readArm_116, rX13_readArm_119, rX13_readArm_122, rX13_readArm_123, rX13_readArm_124, rX13_readArm_125, rX13_readArm_126, rX13_readArm_127, rX13_readArm_128, rX13_readArm_129, rX13_readArm_130, rX13_readArm_131, rX13_readArm_134, rX13_readArm_135, rX13_readArm_136, rX13_readArm_148, rX13_readArm_149, rX13_readArm_151, rX13_readArm_154, rX13_readArm_165, rX13_readArm_166, rX13_readArm_169, rX13_readArm_170, rX13_readArm_172, rX13_readArm_173, rX13_readArm_175, rX13_readArm_178, rX13_readArm_180, rX13_readArm_183, rX13_readArm_184, rX13_readArm_187, gS_355, g, h4, s0, s14, p14, c1, c2, ne_eq, not_false_eq_true, not_true_eq_false, true_and, and_true, and_self, true_imp_iff, false_imp_iff, imp_self, Bool.not_false, Bool.not_true, reduceCtorEq, ab_isJ, ab_psh, ab_cats, Bool.false_eq_true, if_true, if_false, ab_shf, ab_shw, Int.le_refl, Classical.not_not, Int.zero_add, forall_const, ↓ab_itT, ↓ab_itF, ab_anT, ab_w32_id, ab_rdf_ne, ab_rdw_ne, ab_rdw_eq, ab_rdf_in, ab_td2, ab_tm2, true_or, or_true]
    all_goals exact kq
  · rw [if_neg (by omega)] at c1
    by_cases y : ac_kk tp n s = 0
    · rw [if_pos (Or.inr y)] at kq
      rw [y] at h9
      have h9 : ab_rd (ab_wr τ (M + 3) (2 * b + 1) j) 355 9 = 1 := h9
      simp (disch := omega) only [rX13_readArm_115, rX13_readArm_116, rX13_readArm_119, rX13_readArm_122, rX13_readArm_123, rX13_readArm_124, rX13_readArm_125, rX13_readArm_126, rX13_readArm_127, rX13_readArm_128, rX13_readArm_129, rX13_readArm_130, rX13_readArm_131, rX13_readArm_134, rX13_readArm_135, rX13_readArm_136, rX13_readArm_148, rX13_readArm_149, rX13_readArm_151, rX13_readArm_154, rX13_readArm_157, rX13_readArm_158, rX13_readArm_161, rX13_readArm_162, rX13_readArm_165, rX13_readArm_166, rX13_readArm_169, rX13_readArm_170, rX13_readArm_172, rX13_readArm_173, rX13_readArm_175, rX13_readArm_178, rX13_readArm_180, rX13_readArm_183, rX13_readArm_184, rX13_readArm_187, gS_355, g, g', h9, h4, s0, s14, p14, c1, c2, ne_eq, not_false_eq_true, not_true_eq_false, true_and, and_true, and_self, true_imp_iff, false_imp_iff, imp_self, Bool.not_false, Bool.not_true, reduceCtorEq, ab_isJ, ab_psh, ab_cats, Bool.false_eq_true, if_true, if_false, ab_shf, ab_shw, Int.le_refl, Classical.not_not, Int.zero_add, forall_const, ↓ab_itT, ↓ab_itF, ab_anT, ab_w32_id, true_or, or_true]
      all_goals exact kq
    · rw [if_neg (by omega)] at kq
      have n9 : ¬ ab_rd (ab_wr τ (M + 3) (2 * b + 1) j) 355 9 = 1 := by
        rw [h9]
        unfold ac_mk
        split
        · omega
        · split
          · omega
          · split <;> omega
      simp (disch := omega) only [rX13_readArm_115, rX13_readArm_116, rX13_readArm_119, rX13_readArm_122, rX13_readArm_123, rX13_readArm_124, rX13_readArm_125, rX13_readArm_126, rX13_readArm_127, rX13_readArm_128, rX13_readArm_129, rX13_readArm_130, rX13_readArm_131, rX13_readArm_134, rX13_readArm_135, rX13_readArm_136, rX13_readArm_148, rX13_readArm_149, rX13_readArm_151, rX13_readArm_154, rX13_readArm_157, rX13_readArm_158, rX13_readArm_161, rX13_readArm_162, rX13_readArm_169, rX13_readArm_170, rX13_readArm_172, rX13_readArm_173, rX13_readArm_175, rX13_readArm_178, rX13_readArm_180, rX13_readArm_183, rX13_readArm_184, rX13_readArm_187, gS_355, g, g', h4, s0, s14, p14, c1, c2, ne_eq, not_false_eq_true, not_true_eq_false, true_and, and_true, and_self, true_imp_iff, false_imp_iff, imp_self, Bool.not_false, Bool.not_true, reduceCtorEq, ab_isJ, ab_psh, ab_cats, Bool.false_eq_true, if_true, if_false, ab_shf, ab_shw, Int.le_refl, Classical.not_not, Int.zero_add, forall_const, ↓ab_itT, ↓ab_itF, ab_anT, ab_w32_id, true_or, or_true]
      all_goals exact kq
theorem ma_l (hb : 0 ≤ b ∧ b < 5) (ha : 0 ≤ arm ∧ arm ≤ 1) (hM : 369 ≤ M) (C : ac_K → Int → Int → ar_R) : ∀ (m : Nat) (i s : Int) (κ : ac_K) (τ : ab_S) (l5 : ab_V), (0 ≤ i ∧ i ≤ 6) → i + m = 7 → ac_RM τ n tp s → ar_MR τ M κ → pr_arm tp n (6 * (2 * b + arm)) m κ i s C = r → (∀ w pl, r = .inl (w, pl) → ∀ υ, ab_Same (ar_PW M) τ υ → ac_RF υ w pl → (∀ κ1, ar_MR υ M κ1 → (∀ g, g ≠ 15 → κ1 g = κ g) → Q none υ)) → (∀ κ1 j s', C κ1 j s' = r → (i < j ∧ j ≤ 6) → (∀ g, g ≠ 15 → κ1 g = κ g) → ∀ υ, ab_Same (ar_PW M) τ υ → ac_RM υ n tp s' → ar_MR υ M κ1 → ∀ l5, ab_Run X 190 115 (13, 0, 0) [ab_R 355, ab_I arm, ab_I b, ab_I j, ab_I 0, l5] [] υ Q) → ab_Run X 190 43 (13, 0, 0) [ab_R 355, ab_I arm, ab_I b, ab_I i, ab_I 1, l5] [] τ Q := by
  intro m
  induction m with
  | zero => intro i s κ τ l5 hi hm; exfalso; omega
  | succ m ih =>
    intro i s κ τ l5 hi hm R K er hF hO
    unfold pr_arm pr_whole at er
    refine ma_1 R.1.1 (mq_bounded R (fun z υ u f => ?_) (fun z => ?_))
    · rw [if_neg z] at er
      exact ma_f f (hF _ s er.symm υ u.vw f κ (K.same u) (fun _ _ => rfl))
    · rw [if_pos z] at er
      dsimp only at er
      have k3 := (ar_wf0 z).1
      by_cases z6 : i = 6
      · rw [if_pos z6] at er
        subst z6
        have f := ac_flw (k := 5) R
        exact ma_6 R (hF 5 s er.symm _ f.2.vw f.1 κ (K.same f.2) (fun _ _ => rfl))
      · rw [if_neg z6] at er
        refine ma_g R.1.1 z6 (mq_goesOnR R (by omega) (fun τ2 u2 R2 => ?_))
        have K2 := K.same u2.uw
        generalize ac_kvl tp n s = v at *
        have R3 : ac_RM (ab_wr τ2 (M + 4) (6 * (2 * b + arm) + i) v) n tp (ac_nx tp n s) := R2.wrM (by omega)
        have K3 : ar_MR (ab_wr τ2 (M + 4) (6 * (2 * b + arm) + i) v) M (ar_up κ 15 (6 * (2 * b + arm) + i) v) := K2.wrA (f := 15) (by omega) (by omega)
        have W3 : ab_Same (ar_PW M) τ (ab_wr τ2 (M + 4) (6 * (2 * b + arm) + i) v) := (ab_Same.vw (M := M) u2.uw).wr (Or.inr (by omega))
        have e3 : ∀ g, g ≠ 15 → ar_up κ 15 (6 * (2 * b + arm) + i) v g = κ g := fun g hg => ar_up_f hg
        refine ma_w R2.1.1 R2.n5 K2 hb ha (by omega) (mq_eatsSign R3 (Or.inr rfl) (fun y => ?_) (fun y τ4 u4 R4 => ?_))
        · have y5 : ¬ ac_kk tp n (ac_nx tp n s) = 5 := fun u => y (Or.inr ⟨rfl, u⟩)
          rw [if_neg y5] at er
          exact ma_n (ma_x (hO _ (i + 1) _ er (by omega) e3 _ W3 R3 K3 _))
        · have y5 : ac_kk tp n (ac_nx tp n s) = 5 := by omega
          rw [if_pos y5] at er
          refine ma_n (ih (i + 1) _ _ τ4 _ (by omega) (by omega) R4 (K3.same u4) er (fun w pl e υ q1 q2 κ1 q3 q4 => hF w pl e υ ((W3.trans u4.vw).trans q1) q2 κ1 q3 (fun g hg => by rw [q4 g hg, e3 g hg])) (fun κ1 j s' e jb q0 υ q1 q2 q3 => hO κ1 j s' e (by omega) (fun g hg => by rw [q0 g hg, e3 g hg]) υ ((W3.trans u4.vw).trans q1) q2 q3))
/-- flawed -/
theorem mq_arm5 (h : ac_RF σ w pl) (hR : ar_MR σ M κ) (ha : arm = 0 ∨ arm = 1) : ab_Do X 190 [ab_R 355, ab_I arm] σ Q ↔ Q none σ := by
  have g := h.1
  have h9 := h.2.1
  have h4 := hR.1
  have hM := hR.2.1.1
  have s0 := mS hR.2.1
  have c1 := fun Q' => mq_goesOn5 (X := X) (Q := Q') h.1 h.2.1
  have c2 := fun k Q' => mq_flaw5 (X := X) (Q := Q') (k := k) h
  have c3 := fun a Q' (ha : a ≤ -2) => mq_needs5 (X := X) (Q := Q') (a := a) h ha
  have c4 := fun lo hi Q' => mq_bounded5 (X := X) (Q := Q') (lo := lo) (hi := hi) h
  clear h hR
  by_cases z : ab_rd σ M 5 < 5
  · rcases ha with rfl | rfl
    · simp (disch := omega) only [do_X13_readArm, rX13_readArm_0, rX13_readArm_1, rX13_readArm_2, rX13_readArm_5, rX13_readArm_7, rX13_readArm_10, rX13_readArm_12, rX13_readArm_15, rX13_readArm_16, rX13_readArm_19, rX13_readArm_22, rX13_readArm_23, rX13_readArm_26, rX13_readArm_27, rX13_readArm_30, rX13_readArm_33, rX13_readArm_36, rX13_readArm_37, rX13_readArm_38, rX13_readArm_39, rX13_readArm_40, rX13_readArm_41, rX13_readArm_43, rX13_readArm_45, rX13_readArm_48, rX13_readArm_49, rX13_readArm_50, rX13_readArm_52, rX13_readArm_55, rX13_readArm_57, rX13_readArm_58, rX13_readArm_60, rX13_readArm_68, rX13_readArm_69, rX13_readArm_72, rX13_readArm_73, rX13_readArm_76, rX13_readArm_77, rX13_readArm_80, gS_355, g, h9, h4, s0, c1, c2, c3, c4, ne_eq, not_false_eq_true, not_true_eq_false, true_and, and_true, and_self, true_imp_iff, false_imp_iff, imp_self, Bool.not_false, Bool.not_true, reduceCtorEq, ab_isJ, ab_psh, ab_cats, Bool.false_eq_true, if_true, if_false, ab_shf, ab_shw, Int.le_refl, Classical.not_not, Int.zero_add, forall_const, ↓ab_itT, ↓ab_itF, ab_anT, ab_w32_id, ab_rdf_ne, ab_rdw_ne, ab_rdw_eq, ab_rdf_in, ab_td2, ab_tm2, true_or, or_true]
    · simp (disch := omega) only [do_X13_readArm, rX13_readArm_0, rX13_readArm_1, rX13_readArm_2, rX13_readArm_5, rX13_readArm_7, rX13_readArm_10, rX13_readArm_12, rX13_readArm_15, rX13_readArm_16, rX13_readArm_19, rX13_readArm_22, rX13_readArm_23, rX13_readArm_26, rX13_readArm_27, rX13_readArm_30, rX13_readArm_33, rX13_readArm_36, rX13_readArm_37, rX13_readArm_38, rX13_readArm_39, rX13_readArm_40, rX13_readArm_41, rX13_readArm_43, rX13_readArm_45, rX13_readArm_48, rX13_readArm_49, rX13_readArm_50, rX13_readArm_52, rX13_readArm_55, rX13_readArm_57, rX13_readArm_58, rX13_readArm_60, rX13_readArm_68, rX13_readArm_69, rX13_readArm_72, rX13_readArm_73, rX13_readArm_76, rX13_readArm_77, rX13_readArm_80, gS_355, g, h9, h4, s0, c1, c2, c3, c4, ne_eq, not_false_eq_true, not_true_eq_false, true_and, and_true, and_self, true_imp_iff, false_imp_iff, imp_self, Bool.not_false, Bool.not_true, reduceCtorEq, ab_isJ, ab_psh, ab_cats, Bool.false_eq_true, if_true, if_false, ab_shf, ab_shw, Int.le_refl, Classical.not_not, Int.zero_add, forall_const, ↓ab_itT, ↓ab_itF, ab_anT, ab_w32_id, ab_rdf_ne, ab_rdw_ne, ab_rdw_eq, ab_rdf_in, ab_td2, ab_tm2, true_or, or_true]
  · rcases ha with rfl | rfl
    · simp (disch := omega) only [do_X13_readArm, rX13_readArm_0, rX13_readArm_1, rX13_readArm_2, rX13_readArm_5, rX13_readArm_7, rX13_readArm_10, rX13_readArm_12, rX13_readArm_15, rX13_readArm_16, rX13_readArm_19, rX13_readArm_22, rX13_readArm_23, rX13_readArm_26, rX13_readArm_27, rX13_readArm_30, rX13_readArm_33, rX13_readArm_36, rX13_readArm_37, rX13_readArm_38, rX13_readArm_39, rX13_readArm_40, rX13_readArm_41, rX13_readArm_43, rX13_readArm_45, rX13_readArm_48, rX13_readArm_49, rX13_readArm_50, rX13_readArm_52, rX13_readArm_55, rX13_readArm_57, rX13_readArm_58, rX13_readArm_60, rX13_readArm_68, rX13_readArm_69, rX13_readArm_72, rX13_readArm_73, rX13_readArm_76, rX13_readArm_77, rX13_readArm_80, gS_355, g, h9, h4, s0, c1, c2, c3, c4, ne_eq, not_false_eq_true, not_true_eq_false, true_and, and_true, and_self, true_imp_iff, false_imp_iff, imp_self, Bool.not_false, Bool.not_true, reduceCtorEq, ab_isJ, ab_psh, ab_cats, Bool.false_eq_true, if_true, if_false, ab_shf, ab_shw, Int.le_refl, Classical.not_not, Int.zero_add, forall_const, ↓ab_itT, ↓ab_itF, ab_anT, ab_w32_id, ab_rdf_ne, ab_rdw_ne, ab_rdw_eq, ab_rdf_in, ab_td2, ab_tm2, true_or, or_true]
    · simp (disch := omega) only [do_X13_readArm, rX13_readArm_0, rX13_readArm_1, rX13_readArm_2, rX13_readArm_5, rX13_readArm_7, rX13_readArm_10, rX13_readArm_12, rX13_readArm_15, rX13_readArm_16, rX13_readArm_19, rX13_readArm_22, rX13_readArm_23, rX13_readArm_26, rX13_readArm_27, rX13_readArm_30, rX13_readArm_33, rX13_readArm_36, rX13_readArm_37, rX13_readArm_38, rX13_readArm_39, rX13_readArm_40, rX13_readArm_41, rX13_readArm_43, rX13_readArm_45, rX13_readArm_48, rX13_readArm_49, rX13_readArm_50, rX13_readArm_52, rX13_readArm_55, rX13_readArm_57, rX13_readArm_58, rX13_readArm_60, rX13_readArm_68, rX13_readArm_69, rX13_readArm_72, rX13_readArm_73, rX13_readArm_76, rX13_readArm_77, rX13_readArm_80, gS_355, g, h9, h4, s0, c1, c2, c3, c4, ne_eq, not_false_eq_true, not_true_eq_false, true_and, and_true, and_self, true_imp_iff, false_imp_iff, imp_self, Bool.not_false, Bool.not_true, reduceCtorEq, ab_isJ, ab_psh, ab_cats, Bool.false_eq_true, if_true, if_false, ab_shf, ab_shw, Int.le_refl, Classical.not_not, Int.zero_add, forall_const, ↓ab_itT, ↓ab_itF, ab_anT, ab_w32_id, ab_rdf_ne, ab_rdw_ne, ab_rdw_eq, ab_rdf_in, ab_td2, ab_tm2, true_or, or_true]
end
