/-! READER of the reference: bones, people (written by gen/gm2.py) -/
section
variable {X : ab_X} {σ τ υ : ab_S} {Q : Option ab_V → ab_S → Prop} {n p q s t i w pl M v v1 v2 v3 v4 x b arm : Int} {tp : Int → Int} {κ κ1 : ac_K} {r : ar_R}
theorem mz_s0 (g : ab_Geo τ) (key : ab_Do X 176 [ab_R 355, ab_R (-14)] τ (fun r σ' => ab_Run X 190 15 (13, 0, 0) [ab_R 355, ab_I 0, ab_R 0, ab_R 0, ab_R 0, ab_R 0] (ab_psh r []) σ' Q)) : ab_Do X 190 [ab_R 355, ab_I 0] τ Q := by
  simp (disch := omega) only [do_X13_readArm, rX13_readArm_0, rX13_readArm_1, rX13_readArm_2, rX13_readArm_5, rX13_readArm_7, rX13_readArm_10, rX13_readArm_12, gS_355, g, ne_eq, not_false_eq_true, not_true_eq_false, true_and, and_true, and_self, true_imp_iff, false_imp_iff, imp_self, Bool.not_false, Bool.not_true, reduceCtorEq, ab_isJ, ab_psh, ab_cats, Bool.false_eq_true, if_true, if_false, ab_shf, ab_shw, Int.le_refl, Classical.not_not, Int.zero_add, forall_const, ↓ab_itT, ↓ab_itF, ab_anT, ab_w32_id, ab_rdf_ne, ab_rdw_ne, ab_rdw_eq, ab_rdf_in, ab_td2, ab_tm2, true_or, or_true]
  all_goals exact key
theorem mz_s1 (g : ab_Geo τ) (key : ab_Do X 176 [ab_R 355, ab_R (-15)] τ (fun r σ' => ab_Run X 190 15 (13, 0, 0) [ab_R 355, ab_I 1, ab_R 0, ab_R 0, ab_R 0, ab_R 0] (ab_psh r []) σ' Q)) : ab_Do X 190 [ab_R 355, ab_I 1] τ Q := by
  simp (disch := omega) only [do_X13_readArm, rX13_readArm_0, rX13_readArm_1, rX13_readArm_2, rX13_readArm_5, rX13_readArm_7, rX13_readArm_10, rX13_readArm_12, gS_355, g, ne_eq, not_false_eq_true, not_true_eq_false, true_and, and_true, and_self, true_imp_iff, false_imp_iff, imp_self, Bool.not_false, Bool.not_true, reduceCtorEq, ab_isJ, ab_psh, ab_cats, Bool.false_eq_true, if_true, if_false, ab_shf, ab_shw, Int.le_refl, Classical.not_not, Int.zero_add, forall_const, ↓ab_itT, ↓ab_itF, ab_anT, ab_w32_id, ab_rdf_ne, ab_rdw_ne, ab_rdw_eq, ab_rdf_in, ab_td2, ab_tm2, true_or, or_true]
  all_goals exact key
theorem mz_o (g : ab_Geo τ) (hR : ar_MR τ M κ) (hb : κ 5 0 = b) (hb5 : 0 ≤ b ∧ b < 5) (kq : ab_Run X 190 43 (13, 0, 0) [ab_R 355, ab_I arm, ab_I b, ab_I 0, ab_I 1, ab_R 0] [] τ Q) : ab_Run X 190 15 (13, 0, 0) [ab_R 355, ab_I arm, ab_R 0, ab_R 0, ab_R 0, ab_R 0] (ab_psh none []) τ Q := by
  have h4 := hR.1
  have hM := hR.2.1.1
  have s0 := mS hR.2.1
  have c5 : ab_rd τ M 5 = b := by rw [hR.2.2.1 5 (by omega) (by omega), hb]
  clear hR
  simp (disch := omega) only [rX13_readArm_15, rX13_readArm_16, rX13_readArm_19, rX13_readArm_22, rX13_readArm_23, rX13_readArm_26, rX13_readArm_27, rX13_readArm_30, rX13_readArm_33, rX13_readArm_36, rX13_readArm_37, rX13_readArm_38, rX13_readArm_39, rX13_readArm_40, rX13_readArm_41, gS_355, g, h4, s0, c5, ne_eq, not_false_eq_true, not_true_eq_false, true_and, and_true, and_self, true_imp_iff, false_imp_iff, imp_self, Bool.not_false, Bool.not_true, reduceCtorEq, ab_isJ, ab_psh, ab_cats, Bool.false_eq_true, if_true, if_false, ab_shf, ab_shw, Int.le_refl, Classical.not_not, Int.zero_add, forall_const, ↓ab_itT, ↓ab_itF, ab_anT, ab_w32_id, ab_rdf_ne, ab_rdw_ne, ab_rdw_eq, ab_rdf_in, ab_td2, ab_tm2, true_or, or_true]
  all_goals exact kq
theorem mz_f (h : ac_RF τ w pl) (hR : ar_MR τ M κ) (kq : Q none τ) : ab_Run X 190 15 (13, 0, 0) [ab_R 355, ab_I arm, ab_R 0, ab_R 0, ab_R 0, ab_R 0] (ab_psh none []) τ Q := by
  have g := h.1
  have h9 := h.2.1
  have h4 := hR.1
  have hM := hR.2.1.1
  have s0 := mS hR.2.1
  have c1 := fun Q' => mq_goesOn5 (X := X) (Q := Q') h.1 h.2.1
  have c2 := fun k Q' => mq_flaw5 (X := X) (Q := Q') (k := k) h
  have c4 := fun lo hi Q' => mq_bounded5 (X := X) (Q := Q') (lo := lo) (hi := hi) h
  clear h hR
  by_cases z : ab_rd τ M 5 < 5
  · simp (disch := omega) only [rX13_readArm_15, rX13_readArm_16, rX13_readArm_19, rX13_readArm_22, rX13_readArm_23, rX13_readArm_26, rX13_readArm_27, rX13_readArm_30, rX13_readArm_33, rX13_readArm_36, rX13_readArm_37, rX13_readArm_38, rX13_readArm_39, rX13_readArm_40, rX13_readArm_41, rX13_readArm_43, rX13_readArm_45, rX13_readArm_48, rX13_readArm_49, rX13_readArm_50, rX13_readArm_52, rX13_readArm_55, rX13_readArm_57, rX13_readArm_58, rX13_readArm_60, rX13_readArm_68, rX13_readArm_69, rX13_readArm_72, rX13_readArm_73, rX13_readArm_76, rX13_readArm_77, rX13_readArm_80, gS_355, g, h9, h4, s0, c1, c2, c4, ne_eq, not_false_eq_true, not_true_eq_false, true_and, and_true, and_self, true_imp_iff, false_imp_iff, imp_self, Bool.not_false, Bool.not_true, reduceCtorEq, ab_isJ, ab_psh, ab_cats, Bool.false_eq_true, if_true, if_false, ab_shf, ab_shw, Int.le_refl, Classical.not_not, Int.zero_add, forall_const, ↓ab_itT, ↓ab_itF, ab_anT, ab_w32_id, ab_rdf_ne, ab_rdw_ne, ab_rdw_eq, ab_rdf_in, ab_td2, ab_tm2, true_or, or_true]
    all_goals exact kq
  · simp (disch := omega) only [rX13_readArm_15, rX13_readArm_16, rX13_readArm_19, rX13_readArm_22, rX13_readArm_23, rX13_readArm_26, rX13_readArm_27, rX13_readArm_30, rX13_readArm_33, rX13_readArm_36, rX13_readArm_37, rX13_readArm_38, rX13_readArm_39, rX13_readArm_40, rX13_readArm_41, rX13_readArm_43, rX13_readArm_45, rX13_readArm_48, rX13_readArm_49, rX13_readArm_50, rX13_readArm_52, rX13_readArm_55, rX13_readArm_57, rX13_readArm_58, rX13_readArm_60, rX13_readArm_68, rX13_readArm_69, rX13_readArm_72, rX13_readArm_73, rX13_readArm_76, rX13_readArm_77, rX13_readArm_80, gS_355, g, h9, h4, s0, c1, c2, c4, ne_eq, not_false_eq_true, not_true_eq_false, true_and, and_true, and_self, true_imp_iff, false_imp_iff, imp_self, Bool.not_false, Bool.not_true, reduceCtorEq, ab_isJ, ab_psh, ab_cats, Bool.false_eq_true, if_true, if_false, ab_shf, ab_shw, Int.le_refl, Classical.not_not, Int.zero_add, forall_const, ↓ab_itT, ↓ab_itF, ab_anT, ab_w32_id, ab_rdf_ne, ab_rdw_ne, ab_rdw_eq, ab_rdf_in, ab_td2, ab_tm2, true_or, or_true]
    all_goals exact kq
theorem mq_armL {c : ac_K → Int → Int → ar_R} (h : ac_RM σ n tp s) (hR : ar_MR σ M κ) (hb : κ 5 0 = b) (hb5 : 0 ≤ b ∧ b < 5) (er : pr_word tp n ac_tx12 s (fun s4 => pr_arm tp n (6 * (2 * b)) 7 κ 0 s4 (fun κ1 i s5 => if i < 2 then .inl (if ac_isw tp n s5 ac_tx13 then 6 else 1, s5) else c κ1 i s5)) = r) (hF : ∀ w pl, r = .inl (w, pl) → ∀ υ, ab_Same (ar_PW M) σ υ → ac_RF υ w pl → ∀ κ1, ar_MR υ M κ1 → (∀ g, g ≠ 14 → g ≠ 15 → κ1 g = κ g) → Q none υ) (hO : ∀ κ1 i s5, c κ1 i s5 = r → (2 ≤ i ∧ i ≤ 6) → (∀ g, g ≠ 15 → κ1 g = κ g) → ∀ υ, ab_Same (ar_PW M) σ υ → ac_RM υ n tp s5 → ar_MR υ M (ar_up κ1 14 (2 * b) i) → Q none υ) : ab_Do X 190 [ab_R 355, ab_I 0] σ Q := by
  have hM := hR.2.1.1
  refine mz_s0 h.1.1 (mq_wordE h ac_TX12 ac_tok12 er (fun wf pl ef υ u f => mz_f f (hR.same u) (hF wf pl ef υ u.vw f κ (hR.same u) (fun _ _ _ => rfl))) (fun er1 τ1 u1 R1 => ?_))
  have K1 := hR.same u1
  have W1 : ab_Same (ar_PW M) σ τ1 := u1.vw
  refine mz_o R1.1.1 K1 hb hb5 (ma_l hb5 (by decide) hM _ 7 0 _ κ τ1 _ (by decide) (by decide) R1 K1 (by rw [Int.add_zero]; exact er1) (fun w pl e υ q1 q2 κ1 q3 q4 => hF w pl e υ (W1.trans q1) q2 κ1 q3 (fun g _ hg => q4 g hg)) (fun κ1 j s5 er2 jb q0 υ q1 R2 K2 l5 => ?_))
  by_cases z : j < 2
  · rw [if_pos z] at er2
    have R3 : ac_RM (ab_wr υ (M + 3) (2 * b) j) n tp s5 := R2.wrM (by omega)
    have f := ac_flw (k := if ac_isw tp n s5 ac_tx13 then 6 else 1) R3
    exact ma_e0 R2 K2 hb5 (by omega) (hF _ s5 er2.symm _ (((W1.trans q1).wr (Or.inr (by omega))).trans f.2.vw) f.1 _ ((K2.wrA (f := 14) (by omega) (by omega)).same f.2) (fun g h1 h2 => by rw [ar_up_f h1, q0 g h2]))
  · rw [if_neg z] at er2
    exact ma_e2 R2.1.1 K2 hb5 (by decide) (by omega) (by rw [Int.add_zero]; exact hO κ1 j s5 er2 (by omega) q0 _ ((W1.trans q1).wr (Or.inr (by omega))) (R2.wrM (by omega)) (K2.wrA (f := 14) (by omega) (by omega)))
theorem mq_armR {c : ac_K → Int → Int → ar_R} (h : ac_RM σ n tp s) (hR : ar_MR σ M κ) (hb : κ 5 0 = b) (hb5 : 0 ≤ b ∧ b < 5) (er : pr_word tp n ac_tx13 s (fun s4 => pr_arm tp n (6 * (2 * b + 1)) 7 κ 0 s4 (fun κ1 i s5 => if i < 2 then .inl (if ac_kk tp n s5 = 4 ∨ ac_kk tp n s5 = 0 then 6 else 1, s5) else c κ1 i s5)) = r) (hF : ∀ w pl, r = .inl (w, pl) → ∀ υ, ab_Same (ar_PW M) σ υ → ac_RF υ w pl → ∀ κ1, ar_MR υ M κ1 → (∀ g, g ≠ 14 → g ≠ 15 → κ1 g = κ g) → Q none υ) (hO : ∀ κ1 i s5, c κ1 i s5 = r → (2 ≤ i ∧ i ≤ 6) → (∀ g, g ≠ 15 → κ1 g = κ g) → ∀ υ, ab_Same (ar_PW M) σ υ → ac_RM υ n tp s5 → ar_MR υ M (ar_up κ1 14 (2 * b + 1) i) → Q none υ) : ab_Do X 190 [ab_R 355, ab_I 1] σ Q := by
  have hM := hR.2.1.1
  refine mz_s1 h.1.1 (mq_wordE h ac_TX13 ac_tok13 er (fun wf pl ef υ u f => mz_f f (hR.same u) (hF wf pl ef υ u.vw f κ (hR.same u) (fun _ _ _ => rfl))) (fun er1 τ1 u1 R1 => ?_))
  have K1 := hR.same u1
  have W1 : ab_Same (ar_PW M) σ τ1 := u1.vw
  refine mz_o R1.1.1 K1 hb hb5 (ma_l hb5 (by decide) hM _ 7 0 _ κ τ1 _ (by decide) (by decide) R1 K1 er1 (fun w pl e υ q1 q2 κ1 q3 q4 => hF w pl e υ (W1.trans q1) q2 κ1 q3 (fun g _ hg => q4 g hg)) (fun κ1 j s5 er2 jb q0 υ q1 R2 K2 l5 => ?_))
  by_cases z : j < 2
  · rw [if_pos z] at er2
    have R3 : ac_RM (ab_wr υ (M + 3) (2 * b + 1) j) n tp s5 := R2.wrM (by omega)
    have f := ac_flw (k := if ac_kk tp n s5 = 4 ∨ ac_kk tp n s5 = 0 then 6 else 1) R3
    exact ma_e1 R2 K2 hb5 (by omega) (hF _ s5 er2.symm _ (((W1.trans q1).wr (Or.inr (by omega))).trans f.2.vw) f.1 _ ((K2.wrA (f := 14) (by omega) (by omega)).same f.2) (fun g h1 h2 => by rw [ar_up_f h1, q0 g h2]))
  · rw [if_neg z] at er2
    exact ma_e2 R2.1.1 K2 hb5 (by decide) (by omega) (hO κ1 j s5 er2 (by omega) q0 _ ((W1.trans q1).wr (Or.inr (by omega))) (R2.wrM (by omega)) (K2.wrA (f := 14) (by omega) (by omega)))
theorem mt_bn0 (h : ac_RF τ w pl) (hR : ar_MR τ M κ) (hn : 0 ≤ κ 10 0 ∧ κ 10 0 ≤ 11) (kq : Q none τ) : ab_Run X 191 12 (14, 0, 0) [ab_R 355, ab_R 0, ab_R 0, ab_R 0, ab_R 0] (ab_psh none []) τ Q := by
  have g := h.1
  have h9 := h.2.1
  have h4 := hR.1
  have hM := hR.2.1.1
  have s0 := mS hR.2.1
  have c1 := fun Q' => mq_goesOn5 (X := X) (Q := Q') h.1 h.2.1
  have c2 := fun k Q' => mq_flaw5 (X := X) (Q := Q') (k := k) h
  have c3 := fun a Q' => mq_isWord5 (X := X) (Q := Q') (a := a) h.1 h.2.1
  have c4 := fun a lo hi Q' (ha : a ≤ -2) => mq_part5 (X := X) (Q := Q') (a := a) (lo := lo) (hi := hi) h ha
  have c9 := fun Q' => mq_fresh5 (X := X) (Q := Q') h hR hn
  have c10 := fun arm Q' (ha : arm = 0 ∨ arm = 1) => mq_arm5 (X := X) (Q := Q') (arm := arm) h hR ha
  clear h hR
  simp (disch := omega) only [rX13_readBone_12, rX13_readBone_13, rX13_readBone_16, rX13_readBone_17, rX13_readBone_18, rX13_readBone_21, rX13_readBone_24, rX13_readBone_27, rX13_readBone_28, rX13_readBone_31, rX13_readBone_32, rX13_readBone_35, rX13_readBone_38, rX13_readBone_41, rX13_readBone_42, rX13_readBone_45, rX13_readBone_46, rX13_readBone_49, rX13_readBone_52, rX13_readBone_55, rX13_readBone_56, rX13_readBone_59, rX13_readBone_60, rX13_readBone_61, rX13_readBone_62, rX13_readBone_63, rX13_readBone_66, rX13_readBone_67, rX13_readBone_68, rX13_readBone_71, rX13_readBone_72, rX13_readBone_75, rX13_readBone_76, rX13_readBone_79, rX13_readBone_80, rX13_readBone_82, rX13_readBone_85, rX13_readBone_87, rX13_readBone_88, rX13_readBone_89, rX13_readBone_92, rX13_readBone_93, rX13_readBone_94, rX13_readBone_97, rX13_readBone_98, rX13_readBone_101, rX13_readBone_102, rX13_readBone_105, gS_355, g, h9, h4, s0, c1, c2, c3, c4, c9, c10, ne_eq, not_false_eq_true, not_true_eq_false, true_and, and_true, and_self, true_imp_iff, false_imp_iff, imp_self, Bool.not_false, Bool.not_true, reduceCtorEq, ab_isJ, ab_psh, ab_cats, Bool.false_eq_true, if_true, if_false, ab_shf, ab_shw, Int.le_refl, Classical.not_not, Int.zero_add, forall_const, ↓ab_itT, ↓ab_itF, ab_anT, ab_w32_id, ab_rdf_ne, ab_rdw_ne, ab_rdw_eq, ab_rdf_in, ab_td2, ab_tm2, true_or, or_true]
  all_goals exact kq
theorem mt_bn1 (h : ac_RF τ w pl) (hR : ar_MR τ M κ) (hn : 0 ≤ κ 10 0 ∧ κ 10 0 ≤ 11) (kq : Q none τ) : ab_Run X 191 16 (14, 0, 0) [ab_R 355, ab_R 0, ab_R 0, ab_R 0, ab_R 0] (ab_psh (some (ab_J x)) []) τ Q := by
  have g := h.1
  have h9 := h.2.1
  have h4 := hR.1
  have hM := hR.2.1.1
  have s0 := mS hR.2.1
  have c1 := fun Q' => mq_goesOn5 (X := X) (Q := Q') h.1 h.2.1
  have c2 := fun k Q' => mq_flaw5 (X := X) (Q := Q') (k := k) h
  have c3 := fun a Q' => mq_isWord5 (X := X) (Q := Q') (a := a) h.1 h.2.1
  have c4 := fun a lo hi Q' (ha : a ≤ -2) => mq_part5 (X := X) (Q := Q') (a := a) (lo := lo) (hi := hi) h ha
  have c9 := fun Q' => mq_fresh5 (X := X) (Q := Q') h hR hn
  have c10 := fun arm Q' (ha : arm = 0 ∨ arm = 1) => mq_arm5 (X := X) (Q := Q') (arm := arm) h hR ha
  clear h hR
  simp (disch := omega) only [rX13_readBone_16, rX13_readBone_17, rX13_readBone_18, rX13_readBone_21, rX13_readBone_24, rX13_readBone_27, rX13_readBone_28, rX13_readBone_31, rX13_readBone_32, rX13_readBone_35, rX13_readBone_38, rX13_readBone_41, rX13_readBone_42, rX13_readBone_45, rX13_readBone_46, rX13_readBone_49, rX13_readBone_52, rX13_readBone_55, rX13_readBone_56, rX13_readBone_59, rX13_readBone_60, rX13_readBone_61, rX13_readBone_62, rX13_readBone_63, rX13_readBone_66, rX13_readBone_67, rX13_readBone_68, rX13_readBone_71, rX13_readBone_72, rX13_readBone_75, rX13_readBone_76, rX13_readBone_79, rX13_readBone_80, rX13_readBone_82, rX13_readBone_85, rX13_readBone_87, rX13_readBone_88, rX13_readBone_89, rX13_readBone_92, rX13_readBone_93, rX13_readBone_94, rX13_readBone_97, rX13_readBone_98, rX13_readBone_101, rX13_readBone_102, rX13_readBone_105, gS_355, g, h9, h4, s0, c1, c2, c3, c4, c9, c10, ne_eq, not_false_eq_true, not_true_eq_false, true_and, and_true, and_self, true_imp_iff, false_imp_iff, imp_self, Bool.not_false, Bool.not_true, reduceCtorEq, ab_isJ, ab_psh, ab_cats, Bool.false_eq_true, if_true, if_false, ab_shf, ab_shw, Int.le_refl, Classical.not_not, Int.zero_add, forall_const, ↓ab_itT, ↓ab_itF, ab_anT, ab_w32_id, ab_rdf_ne, ab_rdw_ne, ab_rdw_eq, ab_rdf_in, ab_td2, ab_tm2, true_or, or_true]
  all_goals exact kq
theorem mt_bn2 (h : ac_RF τ w pl) (hR : ar_MR τ M κ) (hn : 0 ≤ κ 10 0 ∧ κ 10 0 ≤ 11) (kq : Q none τ) : ab_Run X 191 71 (14, 0, 0) [ab_R 355, ab_J x, ab_R 0, ab_I v1, ab_R 0] [] τ Q := by
  have g := h.1
  have h9 := h.2.1
  have h4 := hR.1
  have hM := hR.2.1.1
  have s0 := mS hR.2.1
  have c1 := fun Q' => mq_goesOn5 (X := X) (Q := Q') h.1 h.2.1
  have c2 := fun k Q' => mq_flaw5 (X := X) (Q := Q') (k := k) h
  have c3 := fun a Q' => mq_isWord5 (X := X) (Q := Q') (a := a) h.1 h.2.1
  have c4 := fun a lo hi Q' (ha : a ≤ -2) => mq_part5 (X := X) (Q := Q') (a := a) (lo := lo) (hi := hi) h ha
  have c9 := fun Q' => mq_fresh5 (X := X) (Q := Q') h hR hn
  have c10 := fun arm Q' (ha : arm = 0 ∨ arm = 1) => mq_arm5 (X := X) (Q := Q') (arm := arm) h hR ha
  clear h hR
  simp (disch := omega) only [rX13_readBone_71, rX13_readBone_72, rX13_readBone_75, rX13_readBone_76, rX13_readBone_79, rX13_readBone_80, rX13_readBone_82, rX13_readBone_85, rX13_readBone_87, rX13_readBone_88, rX13_readBone_89, rX13_readBone_92, rX13_readBone_93, rX13_readBone_94, rX13_readBone_97, rX13_readBone_98, rX13_readBone_101, rX13_readBone_102, rX13_readBone_105, gS_355, g, h9, h4, s0, c1, c2, c3, c4, c9, c10, ne_eq, not_false_eq_true, not_true_eq_false, true_and, and_true, and_self, true_imp_iff, false_imp_iff, imp_self, Bool.not_false, Bool.not_true, reduceCtorEq, ab_isJ, ab_psh, ab_cats, Bool.false_eq_true, if_true, if_false, ab_shf, ab_shw, Int.le_refl, Classical.not_not, Int.zero_add, forall_const, ↓ab_itT, ↓ab_itF, ab_anT, ab_w32_id, ab_rdf_ne, ab_rdw_ne, ab_rdw_eq, ab_rdf_in, ab_td2, ab_tm2, true_or, or_true]
  all_goals exact kq
theorem mt_bn3 (h : ac_RF τ w pl) (hR : ar_MR τ M κ) (hn : 0 ≤ κ 10 0 ∧ κ 10 0 ≤ 11) (kq : Q none τ) : ab_Run X 191 85 (14, 0, 0) [ab_R 355, ab_J x, ab_R 0, ab_I v1, ab_R 0] (ab_psh (some (ab_I v)) []) τ Q := by
  have g := h.1
  have h9 := h.2.1
  have h4 := hR.1
  have hM := hR.2.1.1
  have s0 := mS hR.2.1
  have c1 := fun Q' => mq_goesOn5 (X := X) (Q := Q') h.1 h.2.1
  have c2 := fun k Q' => mq_flaw5 (X := X) (Q := Q') (k := k) h
  have c3 := fun a Q' => mq_isWord5 (X := X) (Q := Q') (a := a) h.1 h.2.1
  have c4 := fun a lo hi Q' (ha : a ≤ -2) => mq_part5 (X := X) (Q := Q') (a := a) (lo := lo) (hi := hi) h ha
  have c9 := fun Q' => mq_fresh5 (X := X) (Q := Q') h hR hn
  have c10 := fun arm Q' (ha : arm = 0 ∨ arm = 1) => mq_arm5 (X := X) (Q := Q') (arm := arm) h hR ha
  clear h hR
  simp (disch := omega) only [rX13_readBone_85, rX13_readBone_87, rX13_readBone_88, rX13_readBone_89, rX13_readBone_92, rX13_readBone_93, rX13_readBone_94, rX13_readBone_97, rX13_readBone_98, rX13_readBone_101, rX13_readBone_102, rX13_readBone_105, gS_355, g, h9, h4, s0, c1, c2, c3, c4, c9, c10, ne_eq, not_false_eq_true, not_true_eq_false, true_and, and_true, and_self, true_imp_iff, false_imp_iff, imp_self, Bool.not_false, Bool.not_true, reduceCtorEq, ab_isJ, ab_psh, ab_cats, Bool.false_eq_true, if_true, if_false, ab_shf, ab_shw, Int.le_refl, Classical.not_not, Int.zero_add, forall_const, ↓ab_itT, ↓ab_itF, ab_anT, ab_w32_id, ab_rdf_ne, ab_rdw_ne, ab_rdw_eq, ab_rdf_in, ab_td2, ab_tm2, true_or, or_true]
  all_goals exact kq
theorem mt_bn4 (h : ac_RF τ w pl) (hR : ar_MR τ M κ) (hn : 0 ≤ κ 10 0 ∧ κ 10 0 ≤ 11) (kq : Q none τ) : ab_Run X 191 92 (14, 0, 0) [ab_R 355, ab_J x, ab_R 0, ab_I v1, ab_I v2] (ab_psh none []) τ Q := by
  have g := h.1
  have h9 := h.2.1
  have h4 := hR.1
  have hM := hR.2.1.1
  have s0 := mS hR.2.1
  have c1 := fun Q' => mq_goesOn5 (X := X) (Q := Q') h.1 h.2.1
  have c2 := fun k Q' => mq_flaw5 (X := X) (Q := Q') (k := k) h
  have c3 := fun a Q' => mq_isWord5 (X := X) (Q := Q') (a := a) h.1 h.2.1
  have c4 := fun a lo hi Q' (ha : a ≤ -2) => mq_part5 (X := X) (Q := Q') (a := a) (lo := lo) (hi := hi) h ha
  have c9 := fun Q' => mq_fresh5 (X := X) (Q := Q') h hR hn
  have c10 := fun arm Q' (ha : arm = 0 ∨ arm = 1) => mq_arm5 (X := X) (Q := Q') (arm := arm) h hR ha
  clear h hR
  simp (disch := omega) only [rX13_readBone_92, rX13_readBone_93, rX13_readBone_94, rX13_readBone_97, rX13_readBone_98, rX13_readBone_101, rX13_readBone_102, rX13_readBone_105, gS_355, g, h9, h4, s0, c1, c2, c3, c4, c9, c10, ne_eq, not_false_eq_true, not_true_eq_false, true_and, and_true, and_self, true_imp_iff, false_imp_iff, imp_self, Bool.not_false, Bool.not_true, reduceCtorEq, ab_isJ, ab_psh, ab_cats, Bool.false_eq_true, if_true, if_false, ab_shf, ab_shw, Int.le_refl, Classical.not_not, Int.zero_add, forall_const, ↓ab_itT, ↓ab_itF, ab_anT, ab_w32_id, ab_rdf_ne, ab_rdw_ne, ab_rdw_eq, ab_rdf_in, ab_td2, ab_tm2, true_or, or_true]
  all_goals exact kq
theorem mt_bn5 (h : ac_RF τ w pl) (hR : ar_MR τ M κ) (hn : 0 ≤ κ 10 0 ∧ κ 10 0 ≤ 11) (kq : Q none τ) : ab_Run X 191 97 (14, 0, 0) [ab_R 355, ab_J x, ab_R 0, ab_I v1, ab_I v2] (ab_psh none []) τ Q := by
  have g := h.1
  have h9 := h.2.1
  have h4 := hR.1
  have hM := hR.2.1.1
  have s0 := mS hR.2.1
  have c1 := fun Q' => mq_goesOn5 (X := X) (Q := Q') h.1 h.2.1
  have c2 := fun k Q' => mq_flaw5 (X := X) (Q := Q') (k := k) h
  have c3 := fun a Q' => mq_isWord5 (X := X) (Q := Q') (a := a) h.1 h.2.1
  have c4 := fun a lo hi Q' (ha : a ≤ -2) => mq_part5 (X := X) (Q := Q') (a := a) (lo := lo) (hi := hi) h ha
  have c9 := fun Q' => mq_fresh5 (X := X) (Q := Q') h hR hn
  have c10 := fun arm Q' (ha : arm = 0 ∨ arm = 1) => mq_arm5 (X := X) (Q := Q') (arm := arm) h hR ha
  clear h hR
  simp (disch := omega) only [rX13_readBone_97, rX13_readBone_98, rX13_readBone_101, rX13_readBone_102, rX13_readBone_105, gS_355, g, h9, h4, s0, c1, c2, c3, c4, c9, c10, ne_eq, not_false_eq_true, not_true_eq_false, true_and, and_true, and_self, true_imp_iff, false_imp_iff, imp_self, Bool.not_false, Bool.not_true, reduceCtorEq, ab_isJ, ab_psh, ab_cats, Bool.false_eq_true, if_true, if_false, ab_shf, ab_shw, Int.le_refl, Classical.not_not, Int.zero_add, forall_const, ↓ab_itT, ↓ab_itF, ab_anT, ab_w32_id, ab_rdf_ne, ab_rdw_ne, ab_rdw_eq, ab_rdf_in, ab_td2, ab_tm2, true_or, or_true]
  all_goals exact kq
theorem ms_bn_b (g : ab_Geo τ) (hR : ar_MR τ M κ) (key : ab_Do X 181 [ab_R 355, ab_I (κ 5 0), ab_I 5] τ (fun r σ' => ab_Run X 191 12 (14, 0, 0) [ab_R 355, ab_R 0, ab_R 0, ab_R 0, ab_R 0] (ab_psh r []) σ' Q)) : ab_Do X 191 [ab_R 355] τ Q := by
  have h4 := hR.1
  have hM := hR.2.1.1
  have s0 := mS hR.2.1
  have c7 := hR.2.2.1 5 (by omega) (by omega)
  clear hR
  simp (disch := omega) only [do_X13_readBone, rX13_readBone_0, rX13_readBone_1, rX13_readBone_2, rX13_readBone_5, rX13_readBone_8, rX13_readBone_9, gS_355, g, h4, s0, c7, ne_eq, not_false_eq_true, not_true_eq_false, true_and, and_true, and_self, true_imp_iff, false_imp_iff, imp_self, Bool.not_false, Bool.not_true, reduceCtorEq, ab_isJ, ab_psh, ab_cats, Bool.false_eq_true, if_true, if_false, ab_shf, ab_shw, Int.le_refl, Classical.not_not, Int.zero_add, forall_const, ↓ab_itT, ↓ab_itF, ab_anT, ab_w32_id, ab_rdf_ne, ab_rdw_ne, ab_rdw_eq, ab_rdf_in, ab_td2, ab_tm2, true_or, or_true]
  all_goals exact key
theorem ms_bn_n (g : ab_Geo τ) (key : ab_Do X 182 [ab_R 355] τ (fun r σ' => ab_Run X 191 16 (14, 0, 0) [ab_R 355, ab_R 0, ab_R 0, ab_R 0, ab_R 0] (ab_psh r []) σ' Q)) : ab_Run X 191 12 (14, 0, 0) [ab_R 355, ab_R 0, ab_R 0, ab_R 0, ab_R 0] (ab_psh none []) τ Q := by
  simp (disch := omega) only [rX13_readBone_12, rX13_readBone_13, gS_355, g, ne_eq, not_false_eq_true, not_true_eq_false, true_and, and_true, and_self, true_imp_iff, false_imp_iff, imp_self, Bool.not_false, Bool.not_true, reduceCtorEq, ab_isJ, ab_psh, ab_cats, Bool.false_eq_true, if_true, if_false, ab_shf, ab_shw, Int.le_refl, Classical.not_not, Int.zero_add, forall_const, ↓ab_itT, ↓ab_itF, ab_anT, ab_w32_id, ab_rdf_ne, ab_rdw_ne, ab_rdw_eq, ab_rdf_in, ab_td2, ab_tm2, true_or, or_true]
  all_goals exact key
theorem ms_bn_c (h : ac_RM τ n tp s) (kF : ac_kd tp n s ac_tx14 ac_tx15 ac_tx16 ac_tx17 = -1 → ab_Run X 191 71 (14, 0, 0) [ab_R 355, ab_J x, ab_R 0, ab_I (-1), ab_R 0] [] (ab_wr (ab_wr (ab_wr τ 355 13 1) 355 14 s) 355 9 5) Q) (kO : ac_kd tp n s ac_tx14 ac_tx15 ac_tx16 ac_tx17 ≠ -1 → ab_Run X 191 71 (14, 0, 0) [ab_R 355, ab_J x, ab_R 0, ab_I (ac_kd tp n s ac_tx14 ac_tx15 ac_tx16 ac_tx17), ab_R 0] [] τ Q) : ab_Run X 191 16 (14, 0, 0) [ab_R 355, ab_R 0, ab_R 0, ab_R 0, ab_R 0] (ab_psh (some (ab_J x)) []) τ Q := by
  have g := h.1.1
  have c2 := fun k Q' => mq_flaw (X := X) (Q := Q') (k := k) h
  have c14 := fun Q' => mq_isWordX (X := X) (Q := Q') h.1.1 h.2.1 h.2.2.1 ac_TX14 ac_tok14
  have c15 := fun Q' => mq_isWordX (X := X) (Q := Q') h.1.1 h.2.1 h.2.2.1 ac_TX15 ac_tok15
  have c16 := fun Q' => mq_isWordX (X := X) (Q := Q') h.1.1 h.2.1 h.2.2.1 ac_TX16 ac_tok16
  clear h
  unfold ac_kd at kF kO
  rw [if_neg (c := ac_isw tp n s ac_tx17) ar_no17] at kF kO
  by_cases z14 : ac_isw tp n s ac_tx14
  · rw [if_pos z14] at c14
    rw [if_pos z14] at kO
    have kq := kO (by decide)
    clear kF kO c2
    simp (disch := omega) only [rX13_readBone_16, rX13_readBone_17, rX13_readBone_18, rX13_readBone_21, rX13_readBone_24, rX13_readBone_27, rX13_readBone_28, rX13_readBone_60, rX13_readBone_61, rX13_readBone_62, rX13_readBone_63, gS_355, g, c14, ne_eq, not_false_eq_true, not_true_eq_false, true_and, and_true, and_self, true_imp_iff, false_imp_iff, imp_self, Bool.not_false, Bool.not_true, reduceCtorEq, ab_isJ, ab_psh, ab_cats, Bool.false_eq_true, if_true, if_false, ab_shf, ab_shw, Int.le_refl, Classical.not_not, Int.zero_add, forall_const, ↓ab_itT, ↓ab_itF, ab_anT, ab_w32_id, ab_rdf_ne, ab_rdw_ne, ab_rdw_eq, ab_rdf_in, ab_td2, ab_tm2, true_or, or_true]
    all_goals exact kq
  · rw [if_neg z14] at c14 kF kO
    by_cases z15 : ac_isw tp n s ac_tx15
    · rw [if_pos z15] at c15
      rw [if_pos z15] at kO
      have kq := kO (by decide)
      clear kF kO c2
      simp (disch := omega) only [rX13_readBone_16, rX13_readBone_17, rX13_readBone_18, rX13_readBone_21, rX13_readBone_24, rX13_readBone_31, rX13_readBone_32, rX13_readBone_35, rX13_readBone_38, rX13_readBone_41, rX13_readBone_42, rX13_readBone_60, rX13_readBone_61, rX13_readBone_62, rX13_readBone_63, gS_355, g, c14, c15, ne_eq, not_false_eq_true, not_true_eq_false, true_and, and_true, and_self, true_imp_iff, false_imp_iff, imp_self, Bool.not_false, Bool.not_true, reduceCtorEq, ab_isJ, ab_psh, ab_cats, Bool.false_eq_true, if_true, if_false, ab_shf, ab_shw, Int.le_refl, Classical.not_not, Int.zero_add, forall_const, ↓ab_itT, ↓ab_itF, ab_anT, ab_w32_id, ab_rdf_ne, ab_rdw_ne, ab_rdw_eq, ab_rdf_in, ab_td2, ab_tm2, true_or, or_true]
      all_goals exact kq
    · rw [if_neg z15] at c15 kF kO
      by_cases z16 : ac_isw tp n s ac_tx16
      · rw [if_pos z16] at c16
        rw [if_pos z16] at kO
        have kq := kO (by decide)
        clear kF kO c2
        simp (disch := omega) only [rX13_readBone_16, rX13_readBone_17, rX13_readBone_18, rX13_readBone_21, rX13_readBone_24, rX13_readBone_31, rX13_readBone_32, rX13_readBone_35, rX13_readBone_38, rX13_readBone_45, rX13_readBone_46, rX13_readBone_49, rX13_readBone_52, rX13_readBone_55, rX13_readBone_56, rX13_readBone_60, rX13_readBone_61, rX13_readBone_62, rX13_readBone_63, gS_355, g, c14, c15, c16, ne_eq, not_false_eq_true, not_true_eq_false, true_and, and_true, and_self, true_imp_iff, false_imp_iff, imp_self, Bool.not_false, Bool.not_true, reduceCtorEq, ab_isJ, ab_psh, ab_cats, Bool.false_eq_true, if_true, if_false, ab_shf, ab_shw, Int.le_refl, Classical.not_not, Int.zero_add, forall_const, ↓ab_itT, ↓ab_itF, ab_anT, ab_w32_id, ab_rdf_ne, ab_rdw_ne, ab_rdw_eq, ab_rdf_in, ab_td2, ab_tm2, true_or, or_true]
        all_goals exact kq
      · rw [if_neg z16] at c16 kF kO
        have kq := kF rfl
        clear kF kO
        simp (disch := omega) only [rX13_readBone_16, rX13_readBone_17, rX13_readBone_18, rX13_readBone_21, rX13_readBone_24, rX13_readBone_31, rX13_readBone_32, rX13_readBone_35, rX13_readBone_38, rX13_readBone_45, rX13_readBone_46, rX13_readBone_49, rX13_readBone_52, rX13_readBone_59, rX13_readBone_60, rX13_readBone_61, rX13_readBone_62, rX13_readBone_63, rX13_readBone_66, rX13_readBone_67, rX13_readBone_68, gS_355, g, c14, c15, c16, c2, ne_eq, not_false_eq_true, not_true_eq_false, true_and, and_true, and_self, true_imp_iff, false_imp_iff, imp_self, Bool.not_false, Bool.not_true, reduceCtorEq, ab_isJ, ab_psh, ab_cats, Bool.false_eq_true, if_true, if_false, ab_shf, ab_shw, Int.le_refl, Classical.not_not, Int.zero_add, forall_const, ↓ab_itT, ↓ab_itF, ab_anT, ab_w32_id, ab_rdf_ne, ab_rdw_ne, ab_rdw_eq, ab_rdf_in, ab_td2, ab_tm2, true_or, or_true]
        all_goals exact kq
theorem ms_bn_g (g : ab_Geo τ) (key : ab_Do X 171 [ab_R 355] τ (fun r σ' => ab_Run X 191 75 (14, 0, 0) [ab_R 355, ab_J x, ab_R 0, ab_I v1, ab_R 0] (ab_psh r []) σ' Q)) : ab_Run X 191 71 (14, 0, 0) [ab_R 355, ab_J x, ab_R 0, ab_I v1, ab_R 0] [] τ Q := by
  simp (disch := omega) only [rX13_readBone_71, rX13_readBone_72, gS_355, g, ne_eq, not_false_eq_true, not_true_eq_false, true_and, and_true, and_self, true_imp_iff, false_imp_iff, imp_self, Bool.not_false, Bool.not_true, reduceCtorEq, ab_isJ, ab_psh, ab_cats, Bool.false_eq_true, if_true, if_false, ab_shf, ab_shw, Int.le_refl, Classical.not_not, Int.zero_add, forall_const, ↓ab_itT, ↓ab_itF, ab_anT, ab_w32_id, ab_rdf_ne, ab_rdw_ne, ab_rdw_eq, ab_rdf_in, ab_td2, ab_tm2, true_or, or_true]
  all_goals exact key
theorem ms_bn_d (g : ab_Geo τ) (key : ab_Do X 179 [ab_R 355, ab_R (-20), ab_I 0, ab_I 24] τ (fun r σ' => ab_Run X 191 85 (14, 0, 0) [ab_R 355, ab_J x, ab_R 0, ab_I v1, ab_R 0] (ab_psh r []) σ' Q)) : ab_Run X 191 75 (14, 0, 0) [ab_R 355, ab_J x, ab_R 0, ab_I v1, ab_R 0] (ab_psh none []) τ Q := by
  simp (disch := omega) only [rX13_readBone_75, rX13_readBone_76, rX13_readBone_79, rX13_readBone_80, rX13_readBone_82, gS_355, g, ne_eq, not_false_eq_true, not_true_eq_false, true_and, and_true, and_self, true_imp_iff, false_imp_iff, imp_self, Bool.not_false, Bool.not_true, reduceCtorEq, ab_isJ, ab_psh, ab_cats, Bool.false_eq_true, if_true, if_false, ab_shf, ab_shw, Int.le_refl, Classical.not_not, Int.zero_add, forall_const, ↓ab_itT, ↓ab_itF, ab_anT, ab_w32_id, ab_rdf_ne, ab_rdw_ne, ab_rdw_eq, ab_rdf_in, ab_td2, ab_tm2, true_or, or_true]
  all_goals exact key
theorem ms_bn_l (g : ab_Geo τ) (key : ab_Do X 190 [ab_R 355, ab_I 0] τ (fun r σ' => ab_Run X 191 92 (14, 0, 0) [ab_R 355, ab_J x, ab_R 0, ab_I v1, ab_I v2] (ab_psh r []) σ' Q)) : ab_Run X 191 85 (14, 0, 0) [ab_R 355, ab_J x, ab_R 0, ab_I v1, ab_R 0] (ab_psh (some (ab_I v2)) []) τ Q := by
  simp (disch := omega) only [rX13_readBone_85, rX13_readBone_87, rX13_readBone_88, rX13_readBone_89, gS_355, g, ne_eq, not_false_eq_true, not_true_eq_false, true_and, and_true, and_self, true_imp_iff, false_imp_iff, imp_self, Bool.not_false, Bool.not_true, reduceCtorEq, ab_isJ, ab_psh, ab_cats, Bool.false_eq_true, if_true, if_false, ab_shf, ab_shw, Int.le_refl, Classical.not_not, Int.zero_add, forall_const, ↓ab_itT, ↓ab_itF, ab_anT, ab_w32_id, ab_rdf_ne, ab_rdw_ne, ab_rdw_eq, ab_rdf_in, ab_td2, ab_tm2, true_or, or_true]
  all_goals exact key
theorem ms_bn_r (g : ab_Geo τ) (key : ab_Do X 190 [ab_R 355, ab_I 1] τ (fun r σ' => ab_Run X 191 97 (14, 0, 0) [ab_R 355, ab_J x, ab_R 0, ab_I v1, ab_I v2] (ab_psh r []) σ' Q)) : ab_Run X 191 92 (14, 0, 0) [ab_R 355, ab_J x, ab_R 0, ab_I v1, ab_I v2] (ab_psh none []) τ Q := by
  simp (disch := omega) only [rX13_readBone_92, rX13_readBone_93, rX13_readBone_94, gS_355, g, ne_eq, not_false_eq_true, not_true_eq_false, true_and, and_true, and_self, true_imp_iff, false_imp_iff, imp_self, Bool.not_false, Bool.not_true, reduceCtorEq, ab_isJ, ab_psh, ab_cats, Bool.false_eq_true, if_true, if_false, ab_shf, ab_shw, Int.le_refl, Classical.not_not, Int.zero_add, forall_const, ↓ab_itT, ↓ab_itF, ab_anT, ab_w32_id, ab_rdf_ne, ab_rdw_ne, ab_rdw_eq, ab_rdf_in, ab_td2, ab_tm2, true_or, or_true]
  all_goals exact key
theorem ms_bn_e (g : ab_Geo τ) (hR : ar_MR τ M κ) (n5 : ¬ ab_rd τ 355 9 = 5) (hb : 0 ≤ κ 5 0 ∧ κ 5 0 < 5) (hn : 0 ≤ κ 10 0 ∧ κ 10 0 < 11) (kq : Q none (ab_wr (ab_wr (ab_wr (ar_wN τ M (κ 10 0) x 1 (κ 5 0)) (M + 1) (κ 5 0) v1) (M + 2) (κ 5 0) v2) M 5 (κ 5 0 + 1))) : ab_Run X 191 97 (14, 0, 0) [ab_R 355, ab_J x, ab_R 0, ab_I v1, ab_I v2] (ab_psh none []) τ Q := by
  have h4 := hR.1
  have hM := hR.2.1.1
  have s0 := mS hR.2.1
  have s12 := mS_12 hR.2.1
  have p12 := mP_12 hR.2.1
  have s13 := mS_13 hR.2.1
  have p13 := mP_13 hR.2.1
  have c7 := hR.2.2.1 5 (by omega) (by omega)
  have cN := fun Q' => mq_names (X := X) (Q := Q') (w := x) (x := κ 5 0) (z := 1) g hR hn (Or.inr rfl)
  clear hR
  unfold ar_wN at cN kq
  generalize κ 10 0 = k at *
  generalize κ 5 0 = b at *
  simp (disch := omega) only [rX13_readBone_97, rX13_readBone_98, rX13_readBone_101, rX13_readBone_102, rX13_readBone_106, rX13_readBone_107, rX13_readBone_108, rX13_readBone_109, rX13_readBone_110, rX13_readBone_113, rX13_readBone_116, rX13_readBone_119, rX13_readBone_120, rX13_readBone_123, rX13_readBone_126, rX13_readBone_127, rX13_readBone_130, rX13_readBone_133, rX13_readBone_134, rX13_readBone_135, rX13_readBone_136, rX13_readBone_139, rX13_readBone_142, rX13_readBone_143, rX13_readBone_146, rX13_readBone_149, rX13_readBone_151, rX13_readBone_152, rX13_readBone_153, rX13_readBone_156I, rX13_readBone_156R, rX13_readBone_157, rX13_readBone_160, rX13_readBone_161, rX13_readBone_162, rX13_readBone_165, gS_355, g, h4, s0, c7, s12, p12, s13, p13, cN, ne_eq, not_false_eq_true, not_true_eq_false, true_and, and_true, and_self, true_imp_iff, false_imp_iff, imp_self, Bool.not_false, Bool.not_true, reduceCtorEq, ab_isJ, ab_psh, ab_cats, Bool.false_eq_true, if_true, if_false, ab_shf, ab_shw, Int.le_refl, Classical.not_not, Int.zero_add, forall_const, ↓ab_itT, ↓ab_itF, ab_anT, ab_w32_id, ab_rdf_ne, ab_rdw_ne, ab_rdw_eq, ab_rdf_in, ab_td2, ab_tm2, true_or, or_true]
  all_goals exact kq
set_option maxHeartbeats 4000000 in
theorem mq_readBone (h : ac_RM σ n tp s) (hR : ar_MR σ M κ) (hj : ar_J κ) (hk1 : ac_kk tp n s ≠ 1) (hF : ar_mF Q σ M (pr_enter tp n κ (κ 5 0) 5 s (pr_bone tp n κ))) (hO : ar_mO Q σ M n tp (pr_enter tp n κ (κ 5 0) 5 s (pr_bone tp n κ))) : ab_Do X 191 [ab_R 355] σ Q := by
  have hn := hj.n10
  have hM := hR.2.1.1
  have n5 := hj.1.1
  have n6 := hj.1.2.1
  have l10 := hj.2.2.2.2.2.1.1
  generalize er : pr_enter tp n κ (κ 5 0) 5 s (pr_bone tp n κ) = r at hF hO
  refine ms_bn_b h.1.1 hR (mq_enterE h hR hk1 hj.2.2.1 n5.2 (fun u => by have := hj.2.2.2.2.1 u; omega) er (fun wf pl ef υ u f => mt_bn0 f (hR.same u) hn (hF wf pl ef υ u.vw f)) (fun y1 y2 er1 τ1 u1 R1 => ?_))
  unfold pr_bone at er1
  have K1 := hR.same u1
  have W1 : ab_Same (ar_PW M) σ τ1 := u1.vw
  refine ms_bn_n R1.1.1 (mq_newE R1 K1 hn er1 (fun wf pl ef υ u f x => mt_bn1 f (K1.same u) hn (hF wf pl ef υ (W1.trans u.vw) f)) (fun er2 τ2 u2 R2 => ?_))
  have K2 := K1.same u2
  have W2 := W1.trans (ab_Same.vw (M := M) u2)
  unfold pr_kind at er2
  have f2 := ac_flw (k := 1) R2
  refine ms_bn_c R2 (fun z => ?_) (fun z => ?_)
  · rw [if_pos z] at er2
    exact mt_bn2 f2.1 (K2.same f2.2) hn (hF 1 _ er2.symm _ (W2.trans f2.2.vw) f2.1)
  · rw [if_neg z] at er2
    have k2 : ac_kk tp n (ac_nx tp n (ac_nx tp n s)) ≠ 1 := fun u => z (by
      unfold ac_kd
      rw [if_neg (fun w => by have := w.1; omega), if_neg (fun w => by have := w.1; omega), if_neg (fun w => by have := w.1; omega), if_neg (fun w => by have := w.1; omega)])
    refine ms_bn_g R2.1.1 (mq_goesOnR R2 k2 (fun τ3 u3 R3 => ?_))
    have K3 := K2.same u3.uw
    have W3 := W2.trans (ab_Same.vw (M := M) u3.uw)
    refine ms_bn_d R3.1.1 (mq_partE R3 ac_TX18 ac_tok18 er2 (fun wf pl ef υ u f => mt_bn3 f (K3.same u) hn (hF wf pl ef υ (W3.trans u.vw) f)) (fun v2 s4 er4 τ4 u4 R4 => ?_))
    have K4 := K3.same u4
    have W4 := W3.trans (ab_Same.vw (M := M) u4)
    refine ms_bn_l R4.1.1 (mq_armL R4 K4 rfl ⟨n5.1, y2⟩ er4 (fun wf pl ef υ u f κ1 q1 q2 => mt_bn4 f q1 (by rw [q2 10 (by decide) (by decide)]; exact hn) (hF wf pl ef υ (W4.trans u) f)) (fun κ1 i s5 er5 ib q0 τ5 u5 R5 K5 => ?_))
    have W5 := W4.trans u5
    have e5 : ar_up κ1 14 (2 * κ 5 0) i 5 0 = κ 5 0 := by rw [ar_up_f (by decide), q0 5 (by decide)]
    refine ms_bn_r R5.1.1 (mq_armR R5 K5 e5 ⟨n5.1, y2⟩ er5 (fun wf pl ef υ u f κ3 q1 q2 => mt_bn5 f q1 (by rw [q2 10 (by decide) (by decide), ar_up_f (by decide), q0 10 (by decide)]; exact hn) (hF wf pl ef υ (W5.trans u) f)) (fun κ2 j s7 er6 jb q3 τ6 u6 R6 K6 => ?_))
    have W6 := W5.trans u6
    have E : ∀ g, g ≠ 14 → g ≠ 15 → ar_up κ2 14 (2 * κ 5 0 + 1) j g = κ g := fun g h1 h2 => by rw [ar_up_f h1, q3 g h2, ar_up_f h1, q0 g h2]
    have e5' := congrFun (E 5 (by decide) (by decide)) 0
    have e10' := congrFun (E 10 (by decide) (by decide)) 0
    refine ms_bn_e R6.1.1 K6 R6.n5 (by omega) (by omega) (hO _ _ er6.symm _ ?_ ?_ ?_)
    · unfold ar_wN
      exact ((((((W6.wr (Or.inr (by omega))).wr (Or.inr (by omega))).wr (Or.inr (by omega))).wr (Or.inr (by omega))).wr (Or.inr (by omega))).wr (Or.inr (by omega))).wr (Or.inr (by omega))
    · unfold ar_wN
      exact ((((((R6.wrM (by omega)).wrM (by omega)).wrM (by omega)).wrM hM).wrM (by omega)).wrM (by omega)).wrM hM
    · unfold ar_wN ar_uB ar_uN
      exact (((((((K6.wrA (f := 30) (by omega) (by omega)).wrA (f := 31) (by omega) (by omega)).wrA (f := 32) (by omega) (by omega)).wr1 (by decide)).wrA (f := 12) (by omega) (by omega)).wrA (f := 13) (by omega) (by omega)).wr1 (by decide)).up (by decide)
theorem mt_ps0 (h : ac_RF τ w pl) (hR : ar_MR τ M κ) (hn : 0 ≤ κ 10 0 ∧ κ 10 0 ≤ 11) (kq : Q none τ) : ab_Run X 192 13 (14, 0, 0) [ab_R 355, ab_R 0, ab_R 0, ab_R 0, ab_R 0, ab_R 0, ab_R 0, ab_R 0] (ab_psh none []) τ Q := by
  have g := h.1
  have h9 := h.2.1
  have h4 := hR.1
  have hM := hR.2.1.1
  have s0 := mS hR.2.1
  have c1 := fun Q' => mq_goesOn5 (X := X) (Q := Q') h.1 h.2.1
  have c2 := fun k Q' => mq_flaw5 (X := X) (Q := Q') (k := k) h
  have c3 := fun a Q' => mq_isWord5 (X := X) (Q := Q') (a := a) h.1 h.2.1
  have c4 := fun a lo hi Q' (ha : a ≤ -2) => mq_part5 (X := X) (Q := Q') (a := a) (lo := lo) (hi := hi) h ha
  have c9 := fun Q' => mq_fresh5 (X := X) (Q := Q') h hR hn
  have c10 := fun arm Q' (ha : arm = 0 ∨ arm = 1) => mq_arm5 (X := X) (Q := Q') (arm := arm) h hR ha
  clear h hR
  simp (disch := omega) only [rX13_readPersonLine_13, rX13_readPersonLine_14, rX13_readPersonLine_17, rX13_readPersonLine_18, rX13_readPersonLine_19, rX13_readPersonLine_22, rX13_readPersonLine_25, rX13_readPersonLine_28, rX13_readPersonLine_29, rX13_readPersonLine_32, rX13_readPersonLine_33, rX13_readPersonLine_36, rX13_readPersonLine_39, rX13_readPersonLine_42, rX13_readPersonLine_43, rX13_readPersonLine_46, rX13_readPersonLine_47, rX13_readPersonLine_50, rX13_readPersonLine_53, rX13_readPersonLine_56, rX13_readPersonLine_57, rX13_readPersonLine_60, rX13_readPersonLine_61, rX13_readPersonLine_64, rX13_readPersonLine_67, rX13_readPersonLine_70, rX13_readPersonLine_71, rX13_readPersonLine_74, rX13_readPersonLine_75, rX13_readPersonLine_76, rX13_readPersonLine_77, rX13_readPersonLine_78, rX13_readPersonLine_81, rX13_readPersonLine_82, rX13_readPersonLine_83, rX13_readPersonLine_86, rX13_readPersonLine_87, rX13_readPersonLine_90, rX13_readPersonLine_91, rX13_readPersonLine_94, rX13_readPersonLine_95, rX13_readPersonLine_97, rX13_readPersonLine_100, rX13_readPersonLine_102, rX13_readPersonLine_103, rX13_readPersonLine_106, rX13_readPersonLine_107, rX13_readPersonLine_109, rX13_readPersonLine_112, rX13_readPersonLine_114, rX13_readPersonLine_115, rX13_readPersonLine_118, rX13_readPersonLine_119, rX13_readPersonLine_121, rX13_readPersonLine_124, rX13_readPersonLine_126, rX13_readPersonLine_127, rX13_readPersonLine_130, rX13_readPersonLine_131, rX13_readPersonLine_134, gS_355, g, h9, h4, s0, c1, c2, c3, c4, c9, c10, ne_eq, not_false_eq_true, not_true_eq_false, true_and, and_true, and_self, true_imp_iff, false_imp_iff, imp_self, Bool.not_false, Bool.not_true, reduceCtorEq, ab_isJ, ab_psh, ab_cats, Bool.false_eq_true, if_true, if_false, ab_shf, ab_shw, Int.le_refl, Classical.not_not, Int.zero_add, forall_const, ↓ab_itT, ↓ab_itF, ab_anT, ab_w32_id, ab_rdf_ne, ab_rdw_ne, ab_rdw_eq, ab_rdf_in, ab_td2, ab_tm2, true_or, or_true]
  all_goals exact kq
theorem mt_ps1 (h : ac_RF τ w pl) (hR : ar_MR τ M κ) (hn : 0 ≤ κ 10 0 ∧ κ 10 0 ≤ 11) (kq : Q none τ) : ab_Run X 192 17 (14, 0, 0) [ab_R 355, ab_R 0, ab_R 0, ab_R 0, ab_R 0, ab_R 0, ab_R 0, ab_R 0] (ab_psh (some (ab_J x)) []) τ Q := by
  have g := h.1
  have h9 := h.2.1
  have h4 := hR.1
  have hM := hR.2.1.1
  have s0 := mS hR.2.1
  have c1 := fun Q' => mq_goesOn5 (X := X) (Q := Q') h.1 h.2.1
  have c2 := fun k Q' => mq_flaw5 (X := X) (Q := Q') (k := k) h
  have c3 := fun a Q' => mq_isWord5 (X := X) (Q := Q') (a := a) h.1 h.2.1
  have c4 := fun a lo hi Q' (ha : a ≤ -2) => mq_part5 (X := X) (Q := Q') (a := a) (lo := lo) (hi := hi) h ha
  have c9 := fun Q' => mq_fresh5 (X := X) (Q := Q') h hR hn
  have c10 := fun arm Q' (ha : arm = 0 ∨ arm = 1) => mq_arm5 (X := X) (Q := Q') (arm := arm) h hR ha
  clear h hR
  simp (disch := omega) only [rX13_readPersonLine_17, rX13_readPersonLine_18, rX13_readPersonLine_19, rX13_readPersonLine_22, rX13_readPersonLine_25, rX13_readPersonLine_28, rX13_readPersonLine_29, rX13_readPersonLine_32, rX13_readPersonLine_33, rX13_readPersonLine_36, rX13_readPersonLine_39, rX13_readPersonLine_42, rX13_readPersonLine_43, rX13_readPersonLine_46, rX13_readPersonLine_47, rX13_readPersonLine_50, rX13_readPersonLine_53, rX13_readPersonLine_56, rX13_readPersonLine_57, rX13_readPersonLine_60, rX13_readPersonLine_61, rX13_readPersonLine_64, rX13_readPersonLine_67, rX13_readPersonLine_70, rX13_readPersonLine_71, rX13_readPersonLine_74, rX13_readPersonLine_75, rX13_readPersonLine_76, rX13_readPersonLine_77, rX13_readPersonLine_78, rX13_readPersonLine_81, rX13_readPersonLine_82, rX13_readPersonLine_83, rX13_readPersonLine_86, rX13_readPersonLine_87, rX13_readPersonLine_90, rX13_readPersonLine_91, rX13_readPersonLine_94, rX13_readPersonLine_95, rX13_readPersonLine_97, rX13_readPersonLine_100, rX13_readPersonLine_102, rX13_readPersonLine_103, rX13_readPersonLine_106, rX13_readPersonLine_107, rX13_readPersonLine_109, rX13_readPersonLine_112, rX13_readPersonLine_114, rX13_readPersonLine_115, rX13_readPersonLine_118, rX13_readPersonLine_119, rX13_readPersonLine_121, rX13_readPersonLine_124, rX13_readPersonLine_126, rX13_readPersonLine_127, rX13_readPersonLine_130, rX13_readPersonLine_131, rX13_readPersonLine_134, gS_355, g, h9, h4, s0, c1, c2, c3, c4, c9, c10, ne_eq, not_false_eq_true, not_true_eq_false, true_and, and_true, and_self, true_imp_iff, false_imp_iff, imp_self, Bool.not_false, Bool.not_true, reduceCtorEq, ab_isJ, ab_psh, ab_cats, Bool.false_eq_true, if_true, if_false, ab_shf, ab_shw, Int.le_refl, Classical.not_not, Int.zero_add, forall_const, ↓ab_itT, ↓ab_itF, ab_anT, ab_w32_id, ab_rdf_ne, ab_rdw_ne, ab_rdw_eq, ab_rdf_in, ab_td2, ab_tm2, true_or, or_true]
  all_goals exact kq
theorem mt_ps2 (h : ac_RF τ w pl) (hR : ar_MR τ M κ) (hn : 0 ≤ κ 10 0 ∧ κ 10 0 ≤ 11) (kq : Q none τ) : ab_Run X 192 86 (14, 0, 0) [ab_R 355, ab_J x, ab_R 0, ab_I v1, ab_R 0, ab_R 0, ab_R 0, ab_R 0] [] τ Q := by
  have g := h.1
  have h9 := h.2.1
  have h4 := hR.1
  have hM := hR.2.1.1
  have s0 := mS hR.2.1
  have c1 := fun Q' => mq_goesOn5 (X := X) (Q := Q') h.1 h.2.1
  have c2 := fun k Q' => mq_flaw5 (X := X) (Q := Q') (k := k) h
  have c3 := fun a Q' => mq_isWord5 (X := X) (Q := Q') (a := a) h.1 h.2.1
  have c4 := fun a lo hi Q' (ha : a ≤ -2) => mq_part5 (X := X) (Q := Q') (a := a) (lo := lo) (hi := hi) h ha
  have c9 := fun Q' => mq_fresh5 (X := X) (Q := Q') h hR hn
  have c10 := fun arm Q' (ha : arm = 0 ∨ arm = 1) => mq_arm5 (X := X) (Q := Q') (arm := arm) h hR ha
  clear h hR
  simp (disch := omega) only [rX13_readPersonLine_86, rX13_readPersonLine_87, rX13_readPersonLine_90, rX13_readPersonLine_91, rX13_readPersonLine_94, rX13_readPersonLine_95, rX13_readPersonLine_97, rX13_readPersonLine_100, rX13_readPersonLine_102, rX13_readPersonLine_103, rX13_readPersonLine_106, rX13_readPersonLine_107, rX13_readPersonLine_109, rX13_readPersonLine_112, rX13_readPersonLine_114, rX13_readPersonLine_115, rX13_readPersonLine_118, rX13_readPersonLine_119, rX13_readPersonLine_121, rX13_readPersonLine_124, rX13_readPersonLine_126, rX13_readPersonLine_127, rX13_readPersonLine_130, rX13_readPersonLine_131, rX13_readPersonLine_134, gS_355, g, h9, h4, s0, c1, c2, c3, c4, c9, c10, ne_eq, not_false_eq_true, not_true_eq_false, true_and, and_true, and_self, true_imp_iff, false_imp_iff, imp_self, Bool.not_false, Bool.not_true, reduceCtorEq, ab_isJ, ab_psh, ab_cats, Bool.false_eq_true, if_true, if_false, ab_shf, ab_shw, Int.le_refl, Classical.not_not, Int.zero_add, forall_const, ↓ab_itT, ↓ab_itF, ab_anT, ab_w32_id, ab_rdf_ne, ab_rdw_ne, ab_rdw_eq, ab_rdf_in, ab_td2, ab_tm2, true_or, or_true]
  all_goals exact kq
theorem mt_ps3 (h : ac_RF τ w pl) (hR : ar_MR τ M κ) (hn : 0 ≤ κ 10 0 ∧ κ 10 0 ≤ 11) (kq : Q none τ) : ab_Run X 192 100 (14, 0, 0) [ab_R 355, ab_J x, ab_R 0, ab_I v1, ab_R 0, ab_R 0, ab_R 0, ab_R 0] (ab_psh (some (ab_I v)) []) τ Q := by
  have g := h.1
  have h9 := h.2.1
  have h4 := hR.1
  have hM := hR.2.1.1
  have s0 := mS hR.2.1
  have c1 := fun Q' => mq_goesOn5 (X := X) (Q := Q') h.1 h.2.1
  have c2 := fun k Q' => mq_flaw5 (X := X) (Q := Q') (k := k) h
  have c3 := fun a Q' => mq_isWord5 (X := X) (Q := Q') (a := a) h.1 h.2.1
  have c4 := fun a lo hi Q' (ha : a ≤ -2) => mq_part5 (X := X) (Q := Q') (a := a) (lo := lo) (hi := hi) h ha
  have c9 := fun Q' => mq_fresh5 (X := X) (Q := Q') h hR hn
  have c10 := fun arm Q' (ha : arm = 0 ∨ arm = 1) => mq_arm5 (X := X) (Q := Q') (arm := arm) h hR ha
  clear h hR
  simp (disch := omega) only [rX13_readPersonLine_100, rX13_readPersonLine_102, rX13_readPersonLine_103, rX13_readPersonLine_106, rX13_readPersonLine_107, rX13_readPersonLine_109, rX13_readPersonLine_112, rX13_readPersonLine_114, rX13_readPersonLine_115, rX13_readPersonLine_118, rX13_readPersonLine_119, rX13_readPersonLine_121, rX13_readPersonLine_124, rX13_readPersonLine_126, rX13_readPersonLine_127, rX13_readPersonLine_130, rX13_readPersonLine_131, rX13_readPersonLine_134, gS_355, g, h9, h4, s0, c1, c2, c3, c4, c9, c10, ne_eq, not_false_eq_true, not_true_eq_false, true_and, and_true, and_self, true_imp_iff, false_imp_iff, imp_self, Bool.not_false, Bool.not_true, reduceCtorEq, ab_isJ, ab_psh, ab_cats, Bool.false_eq_true, if_true, if_false, ab_shf, ab_shw, Int.le_refl, Classical.not_not, Int.zero_add, forall_const, ↓ab_itT, ↓ab_itF, ab_anT, ab_w32_id, ab_rdf_ne, ab_rdw_ne, ab_rdw_eq, ab_rdf_in, ab_td2, ab_tm2, true_or, or_true]
  all_goals exact kq
theorem mt_ps4 (h : ac_RF τ w pl) (hR : ar_MR τ M κ) (hn : 0 ≤ κ 10 0 ∧ κ 10 0 ≤ 11) (kq : Q none τ) : ab_Run X 192 112 (14, 0, 0) [ab_R 355, ab_J x, ab_R 0, ab_I v1, ab_I v2, ab_R 0, ab_R 0, ab_R 0] (ab_psh (some (ab_I v)) []) τ Q := by
  have g := h.1
  have h9 := h.2.1
  have h4 := hR.1
  have hM := hR.2.1.1
  have s0 := mS hR.2.1
  have c1 := fun Q' => mq_goesOn5 (X := X) (Q := Q') h.1 h.2.1
  have c2 := fun k Q' => mq_flaw5 (X := X) (Q := Q') (k := k) h
  have c3 := fun a Q' => mq_isWord5 (X := X) (Q := Q') (a := a) h.1 h.2.1
  have c4 := fun a lo hi Q' (ha : a ≤ -2) => mq_part5 (X := X) (Q := Q') (a := a) (lo := lo) (hi := hi) h ha
  have c9 := fun Q' => mq_fresh5 (X := X) (Q := Q') h hR hn
  have c10 := fun arm Q' (ha : arm = 0 ∨ arm = 1) => mq_arm5 (X := X) (Q := Q') (arm := arm) h hR ha
  clear h hR
  simp (disch := omega) only [rX13_readPersonLine_112, rX13_readPersonLine_114, rX13_readPersonLine_115, rX13_readPersonLine_118, rX13_readPersonLine_119, rX13_readPersonLine_121, rX13_readPersonLine_124, rX13_readPersonLine_126, rX13_readPersonLine_127, rX13_readPersonLine_130, rX13_readPersonLine_131, rX13_readPersonLine_134, gS_355, g, h9, h4, s0, c1, c2, c3, c4, c9, c10, ne_eq, not_false_eq_true, not_true_eq_false, true_and, and_true, and_self, true_imp_iff, false_imp_iff, imp_self, Bool.not_false, Bool.not_true, reduceCtorEq, ab_isJ, ab_psh, ab_cats, Bool.false_eq_true, if_true, if_false, ab_shf, ab_shw, Int.le_refl, Classical.not_not, Int.zero_add, forall_const, ↓ab_itT, ↓ab_itF, ab_anT, ab_w32_id, ab_rdf_ne, ab_rdw_ne, ab_rdw_eq, ab_rdf_in, ab_td2, ab_tm2, true_or, or_true]
  all_goals exact kq
theorem mt_ps5 (h : ac_RF τ w pl) (hR : ar_MR τ M κ) (hn : 0 ≤ κ 10 0 ∧ κ 10 0 ≤ 11) (kq : Q none τ) : ab_Run X 192 124 (14, 0, 0) [ab_R 355, ab_J x, ab_R 0, ab_I v1, ab_I v2, ab_I v3, ab_R 0, ab_R 0] (ab_psh (some (ab_I v)) []) τ Q := by
  have g := h.1
  have h9 := h.2.1
  have h4 := hR.1
  have hM := hR.2.1.1
  have s0 := mS hR.2.1
  have c1 := fun Q' => mq_goesOn5 (X := X) (Q := Q') h.1 h.2.1
  have c2 := fun k Q' => mq_flaw5 (X := X) (Q := Q') (k := k) h
  have c3 := fun a Q' => mq_isWord5 (X := X) (Q := Q') (a := a) h.1 h.2.1
  have c4 := fun a lo hi Q' (ha : a ≤ -2) => mq_part5 (X := X) (Q := Q') (a := a) (lo := lo) (hi := hi) h ha
  have c9 := fun Q' => mq_fresh5 (X := X) (Q := Q') h hR hn
  have c10 := fun arm Q' (ha : arm = 0 ∨ arm = 1) => mq_arm5 (X := X) (Q := Q') (arm := arm) h hR ha
  clear h hR
  simp (disch := omega) only [rX13_readPersonLine_124, rX13_readPersonLine_126, rX13_readPersonLine_127, rX13_readPersonLine_130, rX13_readPersonLine_131, rX13_readPersonLine_134, gS_355, g, h9, h4, s0, c1, c2, c3, c4, c9, c10, ne_eq, not_false_eq_true, not_true_eq_false, true_and, and_true, and_self, true_imp_iff, false_imp_iff, imp_self, Bool.not_false, Bool.not_true, reduceCtorEq, ab_isJ, ab_psh, ab_cats, Bool.false_eq_true, if_true, if_false, ab_shf, ab_shw, Int.le_refl, Classical.not_not, Int.zero_add, forall_const, ↓ab_itT, ↓ab_itF, ab_anT, ab_w32_id, ab_rdf_ne, ab_rdw_ne, ab_rdw_eq, ab_rdf_in, ab_td2, ab_tm2, true_or, or_true]
  all_goals exact kq
theorem ms_ps_b (g : ab_Geo τ) (hR : ar_MR τ M κ) (key : ab_Do X 181 [ab_R 355, ab_I (κ 6 0), ab_I 6] τ (fun r σ' => ab_Run X 192 13 (14, 0, 0) [ab_R 355, ab_R 0, ab_R 0, ab_R 0, ab_R 0, ab_R 0, ab_R 0, ab_R 0] (ab_psh r []) σ' Q)) : ab_Do X 192 [ab_R 355] τ Q := by
  have h4 := hR.1
  have hM := hR.2.1.1
  have s0 := mS hR.2.1
  have c7 := hR.2.2.1 6 (by omega) (by omega)
  clear hR
  simp (disch := omega) only [do_X13_readPersonLine, rX13_readPersonLine_0, rX13_readPersonLine_1, rX13_readPersonLine_2, rX13_readPersonLine_5, rX13_readPersonLine_8, rX13_readPersonLine_10, gS_355, g, h4, s0, c7, ne_eq, not_false_eq_true, not_true_eq_false, true_and, and_true, and_self, true_imp_iff, false_imp_iff, imp_self, Bool.not_false, Bool.not_true, reduceCtorEq, ab_isJ, ab_psh, ab_cats, Bool.false_eq_true, if_true, if_false, ab_shf, ab_shw, Int.le_refl, Classical.not_not, Int.zero_add, forall_const, ↓ab_itT, ↓ab_itF, ab_anT, ab_w32_id, ab_rdf_ne, ab_rdw_ne, ab_rdw_eq, ab_rdf_in, ab_td2, ab_tm2, true_or, or_true]
  all_goals exact key
theorem ms_ps_n (g : ab_Geo τ) (key : ab_Do X 182 [ab_R 355] τ (fun r σ' => ab_Run X 192 17 (14, 0, 0) [ab_R 355, ab_R 0, ab_R 0, ab_R 0, ab_R 0, ab_R 0, ab_R 0, ab_R 0] (ab_psh r []) σ' Q)) : ab_Run X 192 13 (14, 0, 0) [ab_R 355, ab_R 0, ab_R 0, ab_R 0, ab_R 0, ab_R 0, ab_R 0, ab_R 0] (ab_psh none []) τ Q := by
  simp (disch := omega) only [rX13_readPersonLine_13, rX13_readPersonLine_14, gS_355, g, ne_eq, not_false_eq_true, not_true_eq_false, true_and, and_true, and_self, true_imp_iff, false_imp_iff, imp_self, Bool.not_false, Bool.not_true, reduceCtorEq, ab_isJ, ab_psh, ab_cats, Bool.false_eq_true, if_true, if_false, ab_shf, ab_shw, Int.le_refl, Classical.not_not, Int.zero_add, forall_const, ↓ab_itT, ↓ab_itF, ab_anT, ab_w32_id, ab_rdf_ne, ab_rdw_ne, ab_rdw_eq, ab_rdf_in, ab_td2, ab_tm2, true_or, or_true]
  all_goals exact key
theorem ms_ps_c (h : ac_RM τ n tp s) (kF : ac_kd tp n s ac_tx19 ac_tx20 ac_tx21 ac_tx22 = -1 → ab_Run X 192 86 (14, 0, 0) [ab_R 355, ab_J x, ab_R 0, ab_I (-1), ab_R 0, ab_R 0, ab_R 0, ab_R 0] [] (ab_wr (ab_wr (ab_wr τ 355 13 1) 355 14 s) 355 9 5) Q) (kO : ac_kd tp n s ac_tx19 ac_tx20 ac_tx21 ac_tx22 ≠ -1 → ab_Run X 192 86 (14, 0, 0) [ab_R 355, ab_J x, ab_R 0, ab_I (ac_kd tp n s ac_tx19 ac_tx20 ac_tx21 ac_tx22), ab_R 0, ab_R 0, ab_R 0, ab_R 0] [] τ Q) : ab_Run X 192 17 (14, 0, 0) [ab_R 355, ab_R 0, ab_R 0, ab_R 0, ab_R 0, ab_R 0, ab_R 0, ab_R 0] (ab_psh (some (ab_J x)) []) τ Q := by
  have g := h.1.1
  have c2 := fun k Q' => mq_flaw (X := X) (Q := Q') (k := k) h
  have c19 := fun Q' => mq_isWordX (X := X) (Q := Q') h.1.1 h.2.1 h.2.2.1 ac_TX19 ac_tok19
  have c20 := fun Q' => mq_isWordX (X := X) (Q := Q') h.1.1 h.2.1 h.2.2.1 ac_TX20 ac_tok20
  have c21 := fun Q' => mq_isWordX (X := X) (Q := Q') h.1.1 h.2.1 h.2.2.1 ac_TX21 ac_tok21
  have c22 := fun Q' => mq_isWordX (X := X) (Q := Q') h.1.1 h.2.1 h.2.2.1 ac_TX22 ac_tok22
  clear h
  unfold ac_kd at kF kO
  by_cases z19 : ac_isw tp n s ac_tx19
  · rw [if_pos z19] at c19
    rw [if_pos z19] at kO
    have kq := kO (by decide)
    clear kF kO c2
    simp (disch := omega) only [rX13_readPersonLine_17, rX13_readPersonLine_18, rX13_readPersonLine_19, rX13_readPersonLine_22, rX13_readPersonLine_25, rX13_readPersonLine_28, rX13_readPersonLine_29, rX13_readPersonLine_75, rX13_readPersonLine_76, rX13_readPersonLine_77, rX13_readPersonLine_78, gS_355, g, c19, ne_eq, not_false_eq_true, not_true_eq_false, true_and, and_true, and_self, true_imp_iff, false_imp_iff, imp_self, Bool.not_false, Bool.not_true, reduceCtorEq, ab_isJ, ab_psh, ab_cats, Bool.false_eq_true, if_true, if_false, ab_shf, ab_shw, Int.le_refl, Classical.not_not, Int.zero_add, forall_const, ↓ab_itT, ↓ab_itF, ab_anT, ab_w32_id, ab_rdf_ne, ab_rdw_ne, ab_rdw_eq, ab_rdf_in, ab_td2, ab_tm2, true_or, or_true]
    all_goals exact kq
  · rw [if_neg z19] at c19 kF kO
    by_cases z20 : ac_isw tp n s ac_tx20
    · rw [if_pos z20] at c20
      rw [if_pos z20] at kO
      have kq := kO (by decide)
      clear kF kO c2
      simp (disch := omega) only [rX13_readPersonLine_17, rX13_readPersonLine_18, rX13_readPersonLine_19, rX13_readPersonLine_22, rX13_readPersonLine_25, rX13_readPersonLine_32, rX13_readPersonLine_33, rX13_readPersonLine_36, rX13_readPersonLine_39, rX13_readPersonLine_42, rX13_readPersonLine_43, rX13_readPersonLine_75, rX13_readPersonLine_76, rX13_readPersonLine_77, rX13_readPersonLine_78, gS_355, g, c19, c20, ne_eq, not_false_eq_true, not_true_eq_false, true_and, and_true, and_self, true_imp_iff, false_imp_iff, imp_self, Bool.not_false, Bool.not_true, reduceCtorEq, ab_isJ, ab_psh, ab_cats, Bool.false_eq_true, if_true, if_false, ab_shf, ab_shw, Int.le_refl, Classical.not_not, Int.zero_add, forall_const, ↓ab_itT, ↓ab_itF, ab_anT, ab_w32_id, ab_rdf_ne, ab_rdw_ne, ab_rdw_eq, ab_rdf_in, ab_td2, ab_tm2, true_or, or_true]
      all_goals exact kq
    · rw [if_neg z20] at c20 kF kO
      by_cases z21 : ac_isw tp n s ac_tx21
      · rw [if_pos z21] at c21
        rw [if_pos z21] at kO
        have kq := kO (by decide)
        clear kF kO c2
        simp (disch := omega) only [rX13_readPersonLine_17, rX13_readPersonLine_18, rX13_readPersonLine_19, rX13_readPersonLine_22, rX13_readPersonLine_25, rX13_readPersonLine_32, rX13_readPersonLine_33, rX13_readPersonLine_36, rX13_readPersonLine_39, rX13_readPersonLine_46, rX13_readPersonLine_47, rX13_readPersonLine_50, rX13_readPersonLine_53, rX13_readPersonLine_56, rX13_readPersonLine_57, rX13_readPersonLine_75, rX13_readPersonLine_76, rX13_readPersonLine_77, rX13_readPersonLine_78, gS_355, g, c19, c20, c21, ne_eq, not_false_eq_true, not_true_eq_false, true_and, and_true, and_self, true_imp_iff, false_imp_iff, imp_self, Bool.not_false, Bool.not_true, reduceCtorEq, ab_isJ, ab_psh, ab_cats, Bool.false_eq_true, if_true, if_false, ab_shf, ab_shw, Int.le_refl, Classical.not_not, Int.zero_add, forall_const, ↓ab_itT, ↓ab_itF, ab_anT, ab_w32_id, ab_rdf_ne, ab_rdw_ne, ab_rdw_eq, ab_rdf_in, ab_td2, ab_tm2, true_or, or_true]
        all_goals exact kq
      · rw [if_neg z21] at c21 kF kO
        by_cases z22 : ac_isw tp n s ac_tx22
        · rw [if_pos z22] at c22
          rw [if_pos z22] at kO
          have kq := kO (by decide)
          clear kF kO c2
          simp (disch := omega) only [rX13_readPersonLine_17, rX13_readPersonLine_18, rX13_readPersonLine_19, rX13_readPersonLine_22, rX13_readPersonLine_25, rX13_readPersonLine_32, rX13_readPersonLine_33, rX13_readPersonLine_36, rX13_readPersonLine_39, rX13_readPersonLine_46, rX13_readPersonLine_47, rX13_readPersonLine_50, rX13_readPersonLine_53, rX13_readPersonLine_60, rX13_readPersonLine_61, rX13_readPersonLine_64, rX13_readPersonLine_67, rX13_readPersonLine_70, rX13_readPersonLine_71, rX13_readPersonLine_75, rX13_readPersonLine_76, rX13_readPersonLine_77, rX13_readPersonLine_78, gS_355, g, c19, c20, c21, c22, ne_eq, not_false_eq_true, not_true_eq_false, true_and, and_true, and_self, true_imp_iff, false_imp_iff, imp_self, Bool.not_false, Bool.not_true, reduceCtorEq, ab_isJ, ab_psh, ab_cats, Bool.false_eq_true, if_true, if_false, ab_shf, ab_shw, Int.le_refl, Classical.not_not, Int.zero_add, forall_const, ↓ab_itT, ↓ab_itF, ab_anT, ab_w32_id, ab_rdf_ne, ab_rdw_ne, ab_rdw_eq, ab_rdf_in, ab_td2, ab_tm2, true_or, or_true]
          all_goals exact kq
        · rw [if_neg z22] at c22 kF kO
          have kq := kF rfl
          clear kF kO
          simp (disch := omega) only [rX13_readPersonLine_17, rX13_readPersonLine_18, rX13_readPersonLine_19, rX13_readPersonLine_22, rX13_readPersonLine_25, rX13_readPersonLine_32, rX13_readPersonLine_33, rX13_readPersonLine_36, rX13_readPersonLine_39, rX13_readPersonLine_46, rX13_readPersonLine_47, rX13_readPersonLine_50, rX13_readPersonLine_53, rX13_readPersonLine_60, rX13_readPersonLine_61, rX13_readPersonLine_64, rX13_readPersonLine_67, rX13_readPersonLine_74, rX13_readPersonLine_75, rX13_readPersonLine_76, rX13_readPersonLine_77, rX13_readPersonLine_78, rX13_readPersonLine_81, rX13_readPersonLine_82, rX13_readPersonLine_83, gS_355, g, c19, c20, c21, c22, c2, ne_eq, not_false_eq_true, not_true_eq_false, true_and, and_true, and_self, true_imp_iff, false_imp_iff, imp_self, Bool.not_false, Bool.not_true, reduceCtorEq, ab_isJ, ab_psh, ab_cats, Bool.false_eq_true, if_true, if_false, ab_shf, ab_shw, Int.le_refl, Classical.not_not, Int.zero_add, forall_const, ↓ab_itT, ↓ab_itF, ab_anT, ab_w32_id, ab_rdf_ne, ab_rdw_ne, ab_rdw_eq, ab_rdf_in, ab_td2, ab_tm2, true_or, or_true]
          all_goals exact kq
theorem ms_ps_g (g : ab_Geo τ) (key : ab_Do X 171 [ab_R 355] τ (fun r σ' => ab_Run X 192 90 (14, 0, 0) [ab_R 355, ab_J x, ab_R 0, ab_I v1, ab_R 0, ab_R 0, ab_R 0, ab_R 0] (ab_psh r []) σ' Q)) : ab_Run X 192 86 (14, 0, 0) [ab_R 355, ab_J x, ab_R 0, ab_I v1, ab_R 0, ab_R 0, ab_R 0, ab_R 0] [] τ Q := by
  simp (disch := omega) only [rX13_readPersonLine_86, rX13_readPersonLine_87, gS_355, g, ne_eq, not_false_eq_true, not_true_eq_false, true_and, and_true, and_self, true_imp_iff, false_imp_iff, imp_self, Bool.not_false, Bool.not_true, reduceCtorEq, ab_isJ, ab_psh, ab_cats, Bool.false_eq_true, if_true, if_false, ab_shf, ab_shw, Int.le_refl, Classical.not_not, Int.zero_add, forall_const, ↓ab_itT, ↓ab_itF, ab_anT, ab_w32_id, ab_rdf_ne, ab_rdw_ne, ab_rdw_eq, ab_rdf_in, ab_td2, ab_tm2, true_or, or_true]
  all_goals exact key
theorem ms_ps_f (g : ab_Geo τ) (key : ab_Do X 179 [ab_R 355, ab_R (-25), ab_I 1, ab_I 40] τ (fun r σ' => ab_Run X 192 100 (14, 0, 0) [ab_R 355, ab_J x, ab_R 0, ab_I v1, ab_R 0, ab_R 0, ab_R 0, ab_R 0] (ab_psh r []) σ' Q)) : ab_Run X 192 90 (14, 0, 0) [ab_R 355, ab_J x, ab_R 0, ab_I v1, ab_R 0, ab_R 0, ab_R 0, ab_R 0] (ab_psh none []) τ Q := by
  simp (disch := omega) only [rX13_readPersonLine_90, rX13_readPersonLine_91, rX13_readPersonLine_94, rX13_readPersonLine_95, rX13_readPersonLine_97, gS_355, g, ne_eq, not_false_eq_true, not_true_eq_false, true_and, and_true, and_self, true_imp_iff, false_imp_iff, imp_self, Bool.not_false, Bool.not_true, reduceCtorEq, ab_isJ, ab_psh, ab_cats, Bool.false_eq_true, if_true, if_false, ab_shf, ab_shw, Int.le_refl, Classical.not_not, Int.zero_add, forall_const, ↓ab_itT, ↓ab_itF, ab_anT, ab_w32_id, ab_rdf_ne, ab_rdw_ne, ab_rdw_eq, ab_rdf_in, ab_td2, ab_tm2, true_or, or_true]
  all_goals exact key
theorem ms_ps_h (g : ab_Geo τ) (key : ab_Do X 179 [ab_R 355, ab_R (-26), ab_I 1, ab_I 6] τ (fun r σ' => ab_Run X 192 112 (14, 0, 0) [ab_R 355, ab_J x, ab_R 0, ab_I v1, ab_I v2, ab_R 0, ab_R 0, ab_R 0] (ab_psh r []) σ' Q)) : ab_Run X 192 100 (14, 0, 0) [ab_R 355, ab_J x, ab_R 0, ab_I v1, ab_R 0, ab_R 0, ab_R 0, ab_R 0] (ab_psh (some (ab_I v2)) []) τ Q := by
  simp (disch := omega) only [rX13_readPersonLine_100, rX13_readPersonLine_102, rX13_readPersonLine_103, rX13_readPersonLine_106, rX13_readPersonLine_107, rX13_readPersonLine_109, gS_355, g, ne_eq, not_false_eq_true, not_true_eq_false, true_and, and_true, and_self, true_imp_iff, false_imp_iff, imp_self, Bool.not_false, Bool.not_true, reduceCtorEq, ab_isJ, ab_psh, ab_cats, Bool.false_eq_true, if_true, if_false, ab_shf, ab_shw, Int.le_refl, Classical.not_not, Int.zero_add, forall_const, ↓ab_itT, ↓ab_itF, ab_anT, ab_w32_id, ab_rdf_ne, ab_rdw_ne, ab_rdw_eq, ab_rdf_in, ab_td2, ab_tm2, true_or, or_true]
  all_goals exact key
theorem ms_ps_w (g : ab_Geo τ) (key : ab_Do X 179 [ab_R 355, ab_R (-27), ab_I 0, ab_I 99] τ (fun r σ' => ab_Run X 192 124 (14, 0, 0) [ab_R 355, ab_J x, ab_R 0, ab_I v1, ab_I v2, ab_I v3, ab_R 0, ab_R 0] (ab_psh r []) σ' Q)) : ab_Run X 192 112 (14, 0, 0) [ab_R 355, ab_J x, ab_R 0, ab_I v1, ab_I v2, ab_R 0, ab_R 0, ab_R 0] (ab_psh (some (ab_I v3)) []) τ Q := by
  simp (disch := omega) only [rX13_readPersonLine_112, rX13_readPersonLine_114, rX13_readPersonLine_115, rX13_readPersonLine_118, rX13_readPersonLine_119, rX13_readPersonLine_121, gS_355, g, ne_eq, not_false_eq_true, not_true_eq_false, true_and, and_true, and_self, true_imp_iff, false_imp_iff, imp_self, Bool.not_false, Bool.not_true, reduceCtorEq, ab_isJ, ab_psh, ab_cats, Bool.false_eq_true, if_true, if_false, ab_shf, ab_shw, Int.le_refl, Classical.not_not, Int.zero_add, forall_const, ↓ab_itT, ↓ab_itF, ab_anT, ab_w32_id, ab_rdf_ne, ab_rdw_ne, ab_rdw_eq, ab_rdf_in, ab_td2, ab_tm2, true_or, or_true]
  all_goals exact key
theorem ms_ps_e (g : ab_Geo τ) (hR : ar_MR τ M κ) (n5 : ¬ ab_rd τ 355 9 = 5) (hb : 0 ≤ κ 6 0 ∧ κ 6 0 < 6) (hn : 0 ≤ κ 10 0 ∧ κ 10 0 < 11) (kq : Q none (ab_wr (ab_wr (ab_wr (ab_wr (ab_wr (ab_wr (ar_wN τ M (κ 10 0) x 0 (κ 6 0)) (M + 5) (κ 6 0) v1) (M + 6) (κ 6 0) v2) (M + 7) (κ 6 0) v3) (M + 8) (κ 6 0) v4) (M + 16) (κ 6 0) (-1)) M 6 (κ 6 0 + 1))) : ab_Run X 192 124 (14, 0, 0) [ab_R 355, ab_J x, ab_R 0, ab_I v1, ab_I v2, ab_I v3, ab_R 0, ab_R 0] (ab_psh (some (ab_I v4)) []) τ Q := by
  have h4 := hR.1
  have hM := hR.2.1.1
  have s0 := mS hR.2.1
  have s16 := mS_16 hR.2.1
  have p16 := mP_16 hR.2.1
  have s17 := mS_17 hR.2.1
  have p17 := mP_17 hR.2.1
  have s18 := mS_18 hR.2.1
  have p18 := mP_18 hR.2.1
  have s19 := mS_19 hR.2.1
  have p19 := mP_19 hR.2.1
  have s27 := mS_27 hR.2.1
  have p27 := mP_27 hR.2.1
  have c7 := hR.2.2.1 6 (by omega) (by omega)
  have cN := fun Q' => mq_names (X := X) (Q := Q') (w := x) (x := κ 6 0) (z := 0) g hR hn (Or.inl rfl)
  clear hR
  unfold ar_wN at cN kq
  generalize κ 10 0 = k at *
  generalize κ 6 0 = b at *
  simp (disch := omega) only [rX13_readPersonLine_124, rX13_readPersonLine_126, rX13_readPersonLine_127, rX13_readPersonLine_130, rX13_readPersonLine_131, rX13_readPersonLine_135, rX13_readPersonLine_136, rX13_readPersonLine_139, rX13_readPersonLine_142, rX13_readPersonLine_144, rX13_readPersonLine_145, rX13_readPersonLine_146, rX13_readPersonLine_147, rX13_readPersonLine_149, rX13_readPersonLine_152, rX13_readPersonLine_153, rX13_readPersonLine_156, rX13_readPersonLine_159, rX13_readPersonLine_161, rX13_readPersonLine_162, rX13_readPersonLine_163, rX13_readPersonLine_164, rX13_readPersonLine_167, rX13_readPersonLine_170, rX13_readPersonLine_172, rX13_readPersonLine_174, rX13_readPersonLine_175, rX13_readPersonLine_176, rX13_readPersonLine_179, rX13_readPersonLine_182, rX13_readPersonLine_184, rX13_readPersonLine_186, rX13_readPersonLine_187, rX13_readPersonLine_188, rX13_readPersonLine_191, rX13_readPersonLine_194, rX13_readPersonLine_196, rX13_readPersonLine_198, rX13_readPersonLine_199, rX13_readPersonLine_200, rX13_readPersonLine_203, rX13_readPersonLine_206, rX13_readPersonLine_208, rX13_readPersonLine_209, rX13_readPersonLine_210, rX13_readPersonLine_211, rX13_readPersonLine_214I, rX13_readPersonLine_214R, rX13_readPersonLine_215, rX13_readPersonLine_218, rX13_readPersonLine_219, rX13_readPersonLine_220, rX13_readPersonLine_223, gS_355, g, h4, s0, c7, s16, p16, s17, p17, s18, p18, s19, p19, s27, p27, cN, ne_eq, not_false_eq_true, not_true_eq_false, true_and, and_true, and_self, true_imp_iff, false_imp_iff, imp_self, Bool.not_false, Bool.not_true, reduceCtorEq, ab_isJ, ab_psh, ab_cats, Bool.false_eq_true, if_true, if_false, ab_shf, ab_shw, Int.le_refl, Classical.not_not, Int.zero_add, forall_const, ↓ab_itT, ↓ab_itF, ab_anT, ab_w32_id, ab_rdf_ne, ab_rdw_ne, ab_rdw_eq, ab_rdf_in, ab_td2, ab_tm2, true_or, or_true]
  all_goals exact kq
set_option maxHeartbeats 4000000 in
theorem mq_readPersonLine (h : ac_RM σ n tp s) (hR : ar_MR σ M κ) (hj : ar_J κ) (hk1 : ac_kk tp n s ≠ 1) (hF : ar_mF Q σ M (pr_enter tp n κ (κ 6 0) 6 s (pr_person tp n κ))) (hO : ar_mO Q σ M n tp (pr_enter tp n κ (κ 6 0) 6 s (pr_person tp n κ))) : ab_Do X 192 [ab_R 355] σ Q := by
  have hn := hj.n10
  have hM := hR.2.1.1
  have n5 := hj.1.1
  have n6 := hj.1.2.1
  have l10 := hj.2.2.2.2.2.1.1
  generalize er : pr_enter tp n κ (κ 6 0) 6 s (pr_person tp n κ) = r at hF hO
  refine ms_ps_b h.1.1 hR (mq_enterE h hR hk1 hj.2.2.1 n6.2 (fun u => by have := hj.2.2.2.2.1 u; omega) er (fun wf pl ef υ u f => mt_ps0 f (hR.same u) hn (hF wf pl ef υ u.vw f)) (fun y1 y2 er1 τ1 u1 R1 => ?_))
  unfold pr_person at er1
  have K1 := hR.same u1
  have W1 : ab_Same (ar_PW M) σ τ1 := u1.vw
  refine ms_ps_n R1.1.1 (mq_newE R1 K1 hn er1 (fun wf pl ef υ u f x => mt_ps1 f (K1.same u) hn (hF wf pl ef υ (W1.trans u.vw) f)) (fun er2 τ2 u2 R2 => ?_))
  have K2 := K1.same u2
  have W2 := W1.trans (ab_Same.vw (M := M) u2)
  unfold pr_kind at er2
  have f2 := ac_flw (k := 1) R2
  refine ms_ps_c R2 (fun z => ?_) (fun z => ?_)
  · rw [if_pos z] at er2
    exact mt_ps2 f2.1 (K2.same f2.2) hn (hF 1 _ er2.symm _ (W2.trans f2.2.vw) f2.1)
  · rw [if_neg z] at er2
    have k2 : ac_kk tp n (ac_nx tp n (ac_nx tp n s)) ≠ 1 := fun u => z (by
      unfold ac_kd
      rw [if_neg (fun w => by have := w.1; omega), if_neg (fun w => by have := w.1; omega), if_neg (fun w => by have := w.1; omega), if_neg (fun w => by have := w.1; omega)])
    refine ms_ps_g R2.1.1 (mq_goesOnR R2 k2 (fun τ3 u3 R3 => ?_))
    have K3 := K2.same u3.uw
    have W3 := W2.trans (ab_Same.vw (M := M) u3.uw)
    refine ms_ps_f R3.1.1 (mq_partE R3 ac_TX23 ac_tok23 er2 (fun wf pl ef υ u f => mt_ps3 f (K3.same u) hn (hF wf pl ef υ (W3.trans u.vw) f)) (fun v2 s4 er4 τ4 u4 R4 => ?_))
    have K4 := K3.same u4
    have W4 := W3.trans (ab_Same.vw (M := M) u4)
    refine ms_ps_h R4.1.1 (mq_partE R4 ac_TX24 ac_tok24 er4 (fun wf pl ef υ u f => mt_ps4 f (K4.same u) hn (hF wf pl ef υ (W4.trans u.vw) f)) (fun v3 s5 er5 τ5 u5 R5 => ?_))
    have K5 := K4.same u5
    have W5 := W4.trans (ab_Same.vw (M := M) u5)
    refine ms_ps_w R5.1.1 (mq_partE R5 ac_TX25 ac_tok25 er5 (fun wf pl ef υ u f => mt_ps5 f (K5.same u) hn (hF wf pl ef υ (W5.trans u.vw) f)) (fun v4 s6 er6 τ6 u6 R6 => ?_))
    have K6 := K5.same u6
    have W6 := W5.trans (ab_Same.vw (M := M) u6)
    refine ms_ps_e R6.1.1 K6 R6.n5 (by omega) (by omega) (hO _ _ er6.symm _ ?_ ?_ ?_)
    · unfold ar_wN
      exact (((((((((W6.wr (Or.inr (by omega))).wr (Or.inr (by omega))).wr (Or.inr (by omega))).wr (Or.inr (by omega))).wr (Or.inr (by omega))).wr (Or.inr (by omega))).wr (Or.inr (by omega))).wr (Or.inr (by omega))).wr (Or.inr (by omega))).wr (Or.inr (by omega))
    · unfold ar_wN
      exact (((((((((R6.wrM (by omega)).wrM (by omega)).wrM (by omega)).wrM hM).wrM (by omega)).wrM (by omega)).wrM (by omega)).wrM (by omega)).wrM (by omega)).wrM hM
    · unfold ar_wN ar_uP ar_uN
      exact ((((((((((K6.wrA (f := 30) (by omega) (by omega)).wrA (f := 31) (by omega) (by omega)).wrA (f := 32) (by omega) (by omega)).wr1 (by decide)).wrA (f := 16) (by omega) (by omega)).wrA (f := 17) (by omega) (by omega)).wrA (f := 18) (by omega) (by omega)).wrA (f := 19) (by omega) (by omega)).wrA (f := 27) (by omega) (by omega)).wr1 (by decide)).up (by decide)
end
