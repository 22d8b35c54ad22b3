/-! READER of the class: a line (written by gen/gline2.py) -/
section
variable {X : ab_X} {σ τ : ab_S} {Q : Option ab_V → ab_S → Prop} {n s K v m : Int} {tp : Int → Int} {κ : ac_K} {r : ar_R}
theorem sp_ln_k1 (h : ac_RC σ n tp s) (z : ac_isw tp n s ac_tx0) (e4 : ab_rd σ 2 4 = 1) (kq : Q (some (ab_I 0)) (ab_wr (ab_wr σ 2 2 3) 2 3 s)) : ab_Do X 44 [ab_R 2] σ Q := by
  have g := h.geo
  have c0 := fun Q' => sp_readsR (X := X) (Q := Q') h ac_TX0
  have c2 := fun k Q' => sp_stop (X := X) (Q := Q') (k := k) h
  rw [if_pos z] at c0
  clear h z
  simp (disch := omega) only [do_X7_readLine, rX7_readLine_0, rX7_readLine_1, rX7_readLine_4, rX7_readLine_6, rX7_readLine_9, rX7_readLine_12, rX7_readLine_13, rX7_readLine_16, rX7_readLine_19, rX7_readLine_20, rX7_readLine_21, rX7_readLine_24, rX7_readLine_31, gS_2, gP_2_0, gS_3, g, e4, c0, c2, ne_eq, not_false_eq_true, not_true_eq_false, true_and, and_true, and_self, true_imp_iff, false_imp_iff, imp_self, Bool.not_false, Bool.not_true, reduceCtorEq, ab_isJ, ab_psh, ab_cats, Bool.false_eq_true, if_true, if_false, ab_shf, ab_shw, Int.le_refl, Classical.not_not, Int.zero_add, forall_const, ↓ab_itT, ↓ab_itF, ab_anT, ab_w32_id, ab_rdf_ne, ab_rdw_ne, ab_rdw_eq, ab_rdf_in, ab_td2, ab_tm2, true_or, or_true]
  all_goals exact kq
theorem sp_ln_k0 (h : ac_RC σ n tp s) (z : ac_isw tp n s ac_tx0) (e4 : ab_rd σ 2 4 = 0) (key : ab_Do X 46 [ab_R 2] σ (fun r σ' => ab_Run X 44 31 (14, 0, 0) [ab_R 2] (ab_psh r []) σ' Q)) : ab_Do X 44 [ab_R 2] σ Q := by
  have g := h.geo
  have c0 := fun Q' => sp_readsR (X := X) (Q := Q') h ac_TX0
  rw [if_pos z] at c0
  clear h z
  simp (disch := omega) only [do_X7_readLine, rX7_readLine_0, rX7_readLine_1, rX7_readLine_4, rX7_readLine_6, rX7_readLine_9, rX7_readLine_12, rX7_readLine_13, rX7_readLine_16, rX7_readLine_27, rX7_readLine_28, gS_2, gP_2_0, gS_3, g, e4, c0, ne_eq, not_false_eq_true, not_true_eq_false, true_and, and_true, and_self, true_imp_iff, false_imp_iff, imp_self, Bool.not_false, Bool.not_true, reduceCtorEq, ab_isJ, ab_psh, ab_cats, Bool.false_eq_true, if_true, if_false, ab_shf, ab_shw, Int.le_refl, Classical.not_not, Int.zero_add, forall_const, ↓ab_itT, ↓ab_itF, ab_anT, ab_w32_id, ab_rdf_ne, ab_rdw_ne, ab_rdw_eq, ab_rdf_in, ab_td2, ab_tm2, true_or, or_true]
  all_goals exact key
theorem sp_ln_ke (hv : v = 0 ∨ v = 1) (h : Q (some (ab_I v)) τ) : ab_Run X 44 31 (14, 0, 0) [ab_R 2] (ab_psh (some (ab_I v)) []) τ Q := by
  simp (disch := omega) only [rX7_readLine_31, ne_eq, not_false_eq_true, not_true_eq_false, true_and, and_true, and_self, true_imp_iff, false_imp_iff, imp_self, Bool.not_false, Bool.not_true, reduceCtorEq, ab_isJ, ab_psh, ab_cats, Bool.false_eq_true, if_true, if_false, ab_shf, ab_shw, Int.le_refl, Classical.not_not, Int.zero_add, forall_const, ↓ab_itT, ↓ab_itF, ab_anT, ab_w32_id, ab_rdf_ne, ab_rdw_ne, ab_rdw_eq, ab_rdf_in, ab_td2, ab_tm2, true_or, or_true]
  all_goals exact h
theorem sp_ln_bone (h : ac_RC σ n tp s) (z0 : ¬ ac_isw tp n s ac_tx0) (z : ac_isw tp n s ac_tx6) (hK : ac_kit K) (e1 : ab_rd σ 2 1 = K) (cc : ab_rd σ K 5 = m) (key : ab_Do X 45 [ab_R 2, ab_I m, ab_I 5] σ (fun r σ' => ab_Run X 44 56 (14, 0, 0) [ab_R 2] (ab_psh r []) σ' Q)) : ab_Do X 44 [ab_R 2] σ Q := by
  have g := h.geo
  have hv : K = 5 ∨ K = 329 := hK
  have k0 := (g.kit hK).1
  have c0 := fun Q' => sp_readsR (X := X) (Q := Q') h ac_TX0
  have c6 := fun Q' => sp_readsR (X := X) (Q := Q') h ac_TX6
  rw [if_neg z0] at c0
  rw [if_pos z] at c6
  clear h z z0 hK
  simp (disch := omega) only [do_X7_readLine, rX7_readLine_0, rX7_readLine_1, rX7_readLine_4, rX7_readLine_6, rX7_readLine_9, rX7_readLine_32, rX7_readLine_33, rX7_readLine_36, rX7_readLine_38, rX7_readLine_41, rX7_readLine_44, rX7_readLine_45, rX7_readLine_46, rX7_readLine_49, rX7_readLine_52, rX7_readLine_53, gS_2, gP_2_0, gS_3, g, e1, k0, cc, c0, c6, ne_eq, not_false_eq_true, not_true_eq_false, true_and, and_true, and_self, true_imp_iff, false_imp_iff, imp_self, Bool.not_false, Bool.not_true, reduceCtorEq, ab_isJ, ab_psh, ab_cats, Bool.false_eq_true, if_true, if_false, ab_shf, ab_shw, Int.le_refl, Classical.not_not, Int.zero_add, forall_const, ↓ab_itT, ↓ab_itF, ab_anT, ab_w32_id, ab_rdf_ne, ab_rdw_ne, ab_rdw_eq, ab_rdf_in, ab_td2, ab_tm2, true_or, or_true]
  all_goals exact key
theorem sp_ln_bone2 (g : ab_Geo τ) (key : ab_Do X 47 [ab_R 2] τ (fun r σ' => ab_Run X 44 63 (14, 0, 0) [ab_R 2] (ab_psh r []) σ' Q)) : ab_Run X 44 56 (14, 0, 0) [ab_R 2] (ab_psh (some (ab_I 1)) []) τ Q := by
  simp (disch := omega) only [rX7_readLine_56, rX7_readLine_59, rX7_readLine_60, gS_2, gP_2_0, gS_3, g, ne_eq, not_false_eq_true, not_true_eq_false, true_and, and_true, and_self, true_imp_iff, false_imp_iff, imp_self, Bool.not_false, Bool.not_true, reduceCtorEq, ab_isJ, ab_psh, ab_cats, Bool.false_eq_true, if_true, if_false, ab_shf, ab_shw, Int.le_refl, Classical.not_not, Int.zero_add, forall_const, ↓ab_itT, ↓ab_itF, ab_anT, ab_w32_id, ab_rdf_ne, ab_rdw_ne, ab_rdw_eq, ab_rdf_in, ab_td2, ab_tm2, true_or, or_true]
  all_goals exact key
theorem sp_ln_bone0 (h : Q (some (ab_I 0)) τ) : ab_Run X 44 56 (14, 0, 0) [ab_R 2] (ab_psh (some (ab_I 0)) []) τ Q ∧ ab_Run X 44 63 (14, 0, 0) [ab_R 2] (ab_psh (some (ab_I 0)) []) τ Q := by
  refine ⟨?_, ?_⟩
  · simp (disch := omega) only [rX7_readLine_56, rX7_readLine_70, rX7_readLine_71, ne_eq, not_false_eq_true, not_true_eq_false, true_and, and_true, and_self, true_imp_iff, false_imp_iff, imp_self, Bool.not_false, Bool.not_true, reduceCtorEq, ab_isJ, ab_psh, ab_cats, Bool.false_eq_true, if_true, if_false, ab_shf, ab_shw, Int.le_refl, Classical.not_not, Int.zero_add, forall_const, ↓ab_itT, ↓ab_itF, ab_anT, ab_w32_id, ab_rdf_ne, ab_rdw_ne, ab_rdw_eq, ab_rdf_in, ab_td2, ab_tm2, true_or, or_true]
    all_goals exact h
  · simp (disch := omega) only [rX7_readLine_63, rX7_readLine_70, rX7_readLine_71, ne_eq, not_false_eq_true, not_true_eq_false, true_and, and_true, and_self, true_imp_iff, false_imp_iff, imp_self, Bool.not_false, Bool.not_true, reduceCtorEq, ab_isJ, ab_psh, ab_cats, Bool.false_eq_true, if_true, if_false, ab_shf, ab_shw, Int.le_refl, Classical.not_not, Int.zero_add, forall_const, ↓ab_itT, ↓ab_itF, ab_anT, ab_w32_id, ab_rdf_ne, ab_rdw_ne, ab_rdw_eq, ab_rdf_in, ab_td2, ab_tm2, true_or, or_true]
    all_goals exact h
theorem sp_ln_bone1 (h : Q (some (ab_I 1)) τ) : ab_Run X 44 63 (14, 0, 0) [ab_R 2] (ab_psh (some (ab_I 1)) []) τ Q := by
  simp (disch := omega) only [rX7_readLine_63, rX7_readLine_66, rX7_readLine_67, rX7_readLine_71, ne_eq, not_false_eq_true, not_true_eq_false, true_and, and_true, and_self, true_imp_iff, false_imp_iff, imp_self, Bool.not_false, Bool.not_true, reduceCtorEq, ab_isJ, ab_psh, ab_cats, Bool.false_eq_true, if_true, if_false, ab_shf, ab_shw, Int.le_refl, Classical.not_not, Int.zero_add, forall_const, ↓ab_itT, ↓ab_itF, ab_anT, ab_w32_id, ab_rdf_ne, ab_rdw_ne, ab_rdw_eq, ab_rdf_in, ab_td2, ab_tm2, true_or, or_true]
  all_goals exact h
theorem sp_ln_person (h : ac_RC σ n tp s) (z0 : ¬ ac_isw tp n s ac_tx0) (z6 : ¬ ac_isw tp n s ac_tx6) (z : ac_isw tp n s ac_tx7) (hK : ac_kit K) (e1 : ab_rd σ 2 1 = K) (cc : ab_rd σ K 7 = m) (key : ab_Do X 45 [ab_R 2, ab_I m, ab_I 6] σ (fun r σ' => ab_Run X 44 97 (14, 0, 0) [ab_R 2] (ab_psh r []) σ' Q)) : ab_Do X 44 [ab_R 2] σ Q := by
  have g := h.geo
  have hv : K = 5 ∨ K = 329 := hK
  have k0 := (g.kit hK).1
  have c0 := fun Q' => sp_readsR (X := X) (Q := Q') h ac_TX0
  have c6 := fun Q' => sp_readsR (X := X) (Q := Q') h ac_TX6
  have c7 := fun Q' => sp_readsR (X := X) (Q := Q') h ac_TX7
  rw [if_neg z0] at c0
  rw [if_neg z6] at c6
  rw [if_pos z] at c7
  clear h z z0 z6 hK
  simp (disch := omega) only [do_X7_readLine, rX7_readLine_0, rX7_readLine_1, rX7_readLine_4, rX7_readLine_6, rX7_readLine_9, rX7_readLine_32, rX7_readLine_33, rX7_readLine_36, rX7_readLine_38, rX7_readLine_41, rX7_readLine_72, rX7_readLine_73, rX7_readLine_76, rX7_readLine_78, rX7_readLine_81, rX7_readLine_84, rX7_readLine_85, rX7_readLine_86, rX7_readLine_89, rX7_readLine_92, rX7_readLine_94, gS_2, gP_2_0, gS_3, g, e1, k0, cc, c0, c6, c7, ne_eq, not_false_eq_true, not_true_eq_false, true_and, and_true, and_self, true_imp_iff, false_imp_iff, imp_self, Bool.not_false, Bool.not_true, reduceCtorEq, ab_isJ, ab_psh, ab_cats, Bool.false_eq_true, if_true, if_false, ab_shf, ab_shw, Int.le_refl, Classical.not_not, Int.zero_add, forall_const, ↓ab_itT, ↓ab_itF, ab_anT, ab_w32_id, ab_rdf_ne, ab_rdw_ne, ab_rdw_eq, ab_rdf_in, ab_td2, ab_tm2, true_or, or_true]
  all_goals exact key
theorem sp_ln_person2 (g : ab_Geo τ) (key : ab_Do X 49 [ab_R 2] τ (fun r σ' => ab_Run X 44 104 (14, 0, 0) [ab_R 2] (ab_psh r []) σ' Q)) : ab_Run X 44 97 (14, 0, 0) [ab_R 2] (ab_psh (some (ab_I 1)) []) τ Q := by
  simp (disch := omega) only [rX7_readLine_97, rX7_readLine_100, rX7_readLine_101, gS_2, gP_2_0, gS_3, g, ne_eq, not_false_eq_true, not_true_eq_false, true_and, and_true, and_self, true_imp_iff, false_imp_iff, imp_self, Bool.not_false, Bool.not_true, reduceCtorEq, ab_isJ, ab_psh, ab_cats, Bool.false_eq_true, if_true, if_false, ab_shf, ab_shw, Int.le_refl, Classical.not_not, Int.zero_add, forall_const, ↓ab_itT, ↓ab_itF, ab_anT, ab_w32_id, ab_rdf_ne, ab_rdw_ne, ab_rdw_eq, ab_rdf_in, ab_td2, ab_tm2, true_or, or_true]
  all_goals exact key
theorem sp_ln_person0 (h : Q (some (ab_I 0)) τ) : ab_Run X 44 97 (14, 0, 0) [ab_R 2] (ab_psh (some (ab_I 0)) []) τ Q ∧ ab_Run X 44 104 (14, 0, 0) [ab_R 2] (ab_psh (some (ab_I 0)) []) τ Q := by
  refine ⟨?_, ?_⟩
  · simp (disch := omega) only [rX7_readLine_97, rX7_readLine_111, rX7_readLine_112, ne_eq, not_false_eq_true, not_true_eq_false, true_and, and_true, and_self, true_imp_iff, false_imp_iff, imp_self, Bool.not_false, Bool.not_true, reduceCtorEq, ab_isJ, ab_psh, ab_cats, Bool.false_eq_true, if_true, if_false, ab_shf, ab_shw, Int.le_refl, Classical.not_not, Int.zero_add, forall_const, ↓ab_itT, ↓ab_itF, ab_anT, ab_w32_id, ab_rdf_ne, ab_rdw_ne, ab_rdw_eq, ab_rdf_in, ab_td2, ab_tm2, true_or, or_true]
    all_goals exact h
  · simp (disch := omega) only [rX7_readLine_104, rX7_readLine_111, rX7_readLine_112, ne_eq, not_false_eq_true, not_true_eq_false, true_and, and_true, and_self, true_imp_iff, false_imp_iff, imp_self, Bool.not_false, Bool.not_true, reduceCtorEq, ab_isJ, ab_psh, ab_cats, Bool.false_eq_true, if_true, if_false, ab_shf, ab_shw, Int.le_refl, Classical.not_not, Int.zero_add, forall_const, ↓ab_itT, ↓ab_itF, ab_anT, ab_w32_id, ab_rdf_ne, ab_rdw_ne, ab_rdw_eq, ab_rdf_in, ab_td2, ab_tm2, true_or, or_true]
    all_goals exact h
theorem sp_ln_person1 (h : Q (some (ab_I 1)) τ) : ab_Run X 44 104 (14, 0, 0) [ab_R 2] (ab_psh (some (ab_I 1)) []) τ Q := by
  simp (disch := omega) only [rX7_readLine_104, rX7_readLine_107, rX7_readLine_108, rX7_readLine_112, ne_eq, not_false_eq_true, not_true_eq_false, true_and, and_true, and_self, true_imp_iff, false_imp_iff, imp_self, Bool.not_false, Bool.not_true, reduceCtorEq, ab_isJ, ab_psh, ab_cats, Bool.false_eq_true, if_true, if_false, ab_shf, ab_shw, Int.le_refl, Classical.not_not, Int.zero_add, forall_const, ↓ab_itT, ↓ab_itF, ab_anT, ab_w32_id, ab_rdf_ne, ab_rdw_ne, ab_rdw_eq, ab_rdf_in, ab_td2, ab_tm2, true_or, or_true]
  all_goals exact h
theorem sp_ln_for (h : ac_RC σ n tp s) (z0 : ¬ ac_isw tp n s ac_tx0) (z6 : ¬ ac_isw tp n s ac_tx6) (z7 : ¬ ac_isw tp n s ac_tx7) (z : ac_isw tp n s ac_tx8) (hK : ac_kit K) (e1 : ab_rd σ 2 1 = K) (cc : ab_rd σ K 9 = m) (key : ab_Do X 45 [ab_R 2, ab_I m, ab_I 10] σ (fun r σ' => ab_Run X 44 138 (14, 0, 0) [ab_R 2] (ab_psh r []) σ' Q)) : ab_Do X 44 [ab_R 2] σ Q := by
  have g := h.geo
  have hv : K = 5 ∨ K = 329 := hK
  have k0 := (g.kit hK).1
  have c0 := fun Q' => sp_readsR (X := X) (Q := Q') h ac_TX0
  have c6 := fun Q' => sp_readsR (X := X) (Q := Q') h ac_TX6
  have c7 := fun Q' => sp_readsR (X := X) (Q := Q') h ac_TX7
  have c8 := fun Q' => sp_readsR (X := X) (Q := Q') h ac_TX8
  rw [if_neg z0] at c0
  rw [if_neg z6] at c6
  rw [if_neg z7] at c7
  rw [if_pos z] at c8
  clear h z z0 z6 z7 hK
  simp (disch := omega) only [do_X7_readLine, rX7_readLine_0, rX7_readLine_1, rX7_readLine_4, rX7_readLine_6, rX7_readLine_9, rX7_readLine_32, rX7_readLine_33, rX7_readLine_36, rX7_readLine_38, rX7_readLine_41, rX7_readLine_72, rX7_readLine_73, rX7_readLine_76, rX7_readLine_78, rX7_readLine_81, rX7_readLine_113, rX7_readLine_114, rX7_readLine_117, rX7_readLine_119, rX7_readLine_122, rX7_readLine_125, rX7_readLine_126, rX7_readLine_127, rX7_readLine_130, rX7_readLine_133, rX7_readLine_135, gS_2, gP_2_0, gS_3, g, e1, k0, cc, c0, c6, c7, c8, ne_eq, not_false_eq_true, not_true_eq_false, true_and, and_true, and_self, true_imp_iff, false_imp_iff, imp_self, Bool.not_false, Bool.not_true, reduceCtorEq, ab_isJ, ab_psh, ab_cats, Bool.false_eq_true, if_true, if_false, ab_shf, ab_shw, Int.le_refl, Classical.not_not, Int.zero_add, forall_const, ↓ab_itT, ↓ab_itF, ab_anT, ab_w32_id, ab_rdf_ne, ab_rdw_ne, ab_rdw_eq, ab_rdf_in, ab_td2, ab_tm2, true_or, or_true]
  all_goals exact key
theorem sp_ln_for2 (g : ab_Geo τ) (key : ab_Do X 50 [ab_R 2] τ (fun r σ' => ab_Run X 44 145 (14, 0, 0) [ab_R 2] (ab_psh r []) σ' Q)) : ab_Run X 44 138 (14, 0, 0) [ab_R 2] (ab_psh (some (ab_I 1)) []) τ Q := by
  simp (disch := omega) only [rX7_readLine_138, rX7_readLine_141, rX7_readLine_142, gS_2, gP_2_0, gS_3, g, ne_eq, not_false_eq_true, not_true_eq_false, true_and, and_true, and_self, true_imp_iff, false_imp_iff, imp_self, Bool.not_false, Bool.not_true, reduceCtorEq, ab_isJ, ab_psh, ab_cats, Bool.false_eq_true, if_true, if_false, ab_shf, ab_shw, Int.le_refl, Classical.not_not, Int.zero_add, forall_const, ↓ab_itT, ↓ab_itF, ab_anT, ab_w32_id, ab_rdf_ne, ab_rdw_ne, ab_rdw_eq, ab_rdf_in, ab_td2, ab_tm2, true_or, or_true]
  all_goals exact key
theorem sp_ln_for0 (h : Q (some (ab_I 0)) τ) : ab_Run X 44 138 (14, 0, 0) [ab_R 2] (ab_psh (some (ab_I 0)) []) τ Q ∧ ab_Run X 44 145 (14, 0, 0) [ab_R 2] (ab_psh (some (ab_I 0)) []) τ Q := by
  refine ⟨?_, ?_⟩
  · simp (disch := omega) only [rX7_readLine_138, rX7_readLine_152, rX7_readLine_153, ne_eq, not_false_eq_true, not_true_eq_false, true_and, and_true, and_self, true_imp_iff, false_imp_iff, imp_self, Bool.not_false, Bool.not_true, reduceCtorEq, ab_isJ, ab_psh, ab_cats, Bool.false_eq_true, if_true, if_false, ab_shf, ab_shw, Int.le_refl, Classical.not_not, Int.zero_add, forall_const, ↓ab_itT, ↓ab_itF, ab_anT, ab_w32_id, ab_rdf_ne, ab_rdw_ne, ab_rdw_eq, ab_rdf_in, ab_td2, ab_tm2, true_or, or_true]
    all_goals exact h
  · simp (disch := omega) only [rX7_readLine_145, rX7_readLine_152, rX7_readLine_153, ne_eq, not_false_eq_true, not_true_eq_false, true_and, and_true, and_self, true_imp_iff, false_imp_iff, imp_self, Bool.not_false, Bool.not_true, reduceCtorEq, ab_isJ, ab_psh, ab_cats, Bool.false_eq_true, if_true, if_false, ab_shf, ab_shw, Int.le_refl, Classical.not_not, Int.zero_add, forall_const, ↓ab_itT, ↓ab_itF, ab_anT, ab_w32_id, ab_rdf_ne, ab_rdw_ne, ab_rdw_eq, ab_rdf_in, ab_td2, ab_tm2, true_or, or_true]
    all_goals exact h
theorem sp_ln_for1 (h : Q (some (ab_I 1)) τ) : ab_Run X 44 145 (14, 0, 0) [ab_R 2] (ab_psh (some (ab_I 1)) []) τ Q := by
  simp (disch := omega) only [rX7_readLine_145, rX7_readLine_148, rX7_readLine_149, rX7_readLine_153, ne_eq, not_false_eq_true, not_true_eq_false, true_and, and_true, and_self, true_imp_iff, false_imp_iff, imp_self, Bool.not_false, Bool.not_true, reduceCtorEq, ab_isJ, ab_psh, ab_cats, Bool.false_eq_true, if_true, if_false, ab_shf, ab_shw, Int.le_refl, Classical.not_not, Int.zero_add, forall_const, ↓ab_itT, ↓ab_itF, ab_anT, ab_w32_id, ab_rdf_ne, ab_rdw_ne, ab_rdw_eq, ab_rdf_in, ab_td2, ab_tm2, true_or, or_true]
  all_goals exact h
theorem sp_ln_won (h : ac_RC σ n tp s) (z0 : ¬ ac_isw tp n s ac_tx0) (z6 : ¬ ac_isw tp n s ac_tx6) (z7 : ¬ ac_isw tp n s ac_tx7) (z8 : ¬ ac_isw tp n s ac_tx8) (z : ac_isw tp n s ac_tx9) (hK : ac_kit K) (e1 : ab_rd σ 2 1 = K) (cc : ab_rd σ K 10 = m) (key : ab_Do X 45 [ab_R 2, ab_I m, ab_I 12] σ (fun r σ' => ab_Run X 44 179 (14, 0, 0) [ab_R 2] (ab_psh r []) σ' Q)) : ab_Do X 44 [ab_R 2] σ Q := by
  have g := h.geo
  have hv : K = 5 ∨ K = 329 := hK
  have k0 := (g.kit hK).1
  have c0 := fun Q' => sp_readsR (X := X) (Q := Q') h ac_TX0
  have c6 := fun Q' => sp_readsR (X := X) (Q := Q') h ac_TX6
  have c7 := fun Q' => sp_readsR (X := X) (Q := Q') h ac_TX7
  have c8 := fun Q' => sp_readsR (X := X) (Q := Q') h ac_TX8
  have c9 := fun Q' => sp_readsR (X := X) (Q := Q') h ac_TX9
  rw [if_neg z0] at c0
  rw [if_neg z6] at c6
  rw [if_neg z7] at c7
  rw [if_neg z8] at c8
  rw [if_pos z] at c9
  clear h z z0 z6 z7 z8 hK
  simp (disch := omega) only [do_X7_readLine, rX7_readLine_0, rX7_readLine_1, rX7_readLine_4, rX7_readLine_6, rX7_readLine_9, rX7_readLine_32, rX7_readLine_33, rX7_readLine_36, rX7_readLine_38, rX7_readLine_41, rX7_readLine_72, rX7_readLine_73, rX7_readLine_76, rX7_readLine_78, rX7_readLine_81, rX7_readLine_113, rX7_readLine_114, rX7_readLine_117, rX7_readLine_119, rX7_readLine_122, rX7_readLine_154, rX7_readLine_155, rX7_readLine_158, rX7_readLine_160, rX7_readLine_163, rX7_readLine_166, rX7_readLine_167, rX7_readLine_168, rX7_readLine_171, rX7_readLine_174, rX7_readLine_176, gS_2, gP_2_0, gS_3, g, e1, k0, cc, c0, c6, c7, c8, c9, ne_eq, not_false_eq_true, not_true_eq_false, true_and, and_true, and_self, true_imp_iff, false_imp_iff, imp_self, Bool.not_false, Bool.not_true, reduceCtorEq, ab_isJ, ab_psh, ab_cats, Bool.false_eq_true, if_true, if_false, ab_shf, ab_shw, Int.le_refl, Classical.not_not, Int.zero_add, forall_const, ↓ab_itT, ↓ab_itF, ab_anT, ab_w32_id, ab_rdf_ne, ab_rdw_ne, ab_rdw_eq, ab_rdf_in, ab_td2, ab_tm2, true_or, or_true]
  all_goals exact key
theorem sp_ln_won2 (g : ab_Geo τ) (key : ab_Do X 51 [ab_R 2] τ (fun r σ' => ab_Run X 44 186 (14, 0, 0) [ab_R 2] (ab_psh r []) σ' Q)) : ab_Run X 44 179 (14, 0, 0) [ab_R 2] (ab_psh (some (ab_I 1)) []) τ Q := by
  simp (disch := omega) only [rX7_readLine_179, rX7_readLine_182, rX7_readLine_183, gS_2, gP_2_0, gS_3, g, ne_eq, not_false_eq_true, not_true_eq_false, true_and, and_true, and_self, true_imp_iff, false_imp_iff, imp_self, Bool.not_false, Bool.not_true, reduceCtorEq, ab_isJ, ab_psh, ab_cats, Bool.false_eq_true, if_true, if_false, ab_shf, ab_shw, Int.le_refl, Classical.not_not, Int.zero_add, forall_const, ↓ab_itT, ↓ab_itF, ab_anT, ab_w32_id, ab_rdf_ne, ab_rdw_ne, ab_rdw_eq, ab_rdf_in, ab_td2, ab_tm2, true_or, or_true]
  all_goals exact key
theorem sp_ln_won0 (h : Q (some (ab_I 0)) τ) : ab_Run X 44 179 (14, 0, 0) [ab_R 2] (ab_psh (some (ab_I 0)) []) τ Q ∧ ab_Run X 44 186 (14, 0, 0) [ab_R 2] (ab_psh (some (ab_I 0)) []) τ Q := by
  refine ⟨?_, ?_⟩
  · simp (disch := omega) only [rX7_readLine_179, rX7_readLine_193, rX7_readLine_194, ne_eq, not_false_eq_true, not_true_eq_false, true_and, and_true, and_self, true_imp_iff, false_imp_iff, imp_self, Bool.not_false, Bool.not_true, reduceCtorEq, ab_isJ, ab_psh, ab_cats, Bool.false_eq_true, if_true, if_false, ab_shf, ab_shw, Int.le_refl, Classical.not_not, Int.zero_add, forall_const, ↓ab_itT, ↓ab_itF, ab_anT, ab_w32_id, ab_rdf_ne, ab_rdw_ne, ab_rdw_eq, ab_rdf_in, ab_td2, ab_tm2, true_or, or_true]
    all_goals exact h
  · simp (disch := omega) only [rX7_readLine_186, rX7_readLine_193, rX7_readLine_194, ne_eq, not_false_eq_true, not_true_eq_false, true_and, and_true, and_self, true_imp_iff, false_imp_iff, imp_self, Bool.not_false, Bool.not_true, reduceCtorEq, ab_isJ, ab_psh, ab_cats, Bool.false_eq_true, if_true, if_false, ab_shf, ab_shw, Int.le_refl, Classical.not_not, Int.zero_add, forall_const, ↓ab_itT, ↓ab_itF, ab_anT, ab_w32_id, ab_rdf_ne, ab_rdw_ne, ab_rdw_eq, ab_rdf_in, ab_td2, ab_tm2, true_or, or_true]
    all_goals exact h
theorem sp_ln_won1 (h : Q (some (ab_I 1)) τ) : ab_Run X 44 186 (14, 0, 0) [ab_R 2] (ab_psh (some (ab_I 1)) []) τ Q := by
  simp (disch := omega) only [rX7_readLine_186, rX7_readLine_189, rX7_readLine_190, rX7_readLine_194, ne_eq, not_false_eq_true, not_true_eq_false, true_and, and_true, and_self, true_imp_iff, false_imp_iff, imp_self, Bool.not_false, Bool.not_true, reduceCtorEq, ab_isJ, ab_psh, ab_cats, Bool.false_eq_true, if_true, if_false, ab_shf, ab_shw, Int.le_refl, Classical.not_not, Int.zero_add, forall_const, ↓ab_itT, ↓ab_itF, ab_anT, ab_w32_id, ab_rdf_ne, ab_rdw_ne, ab_rdw_eq, ab_rdf_in, ab_td2, ab_tm2, true_or, or_true]
  all_goals exact h
theorem sp_ln_piece (h : ac_RC σ n tp s) (z0 : ¬ ac_isw tp n s ac_tx0) (z6 : ¬ ac_isw tp n s ac_tx6) (z7 : ¬ ac_isw tp n s ac_tx7) (z8 : ¬ ac_isw tp n s ac_tx8) (z9 : ¬ ac_isw tp n s ac_tx9) (z : ac_isw tp n s ac_tx10) (hK : ac_kit K) (e1 : ab_rd σ 2 1 = K) (cc : ab_rd σ K 12 = m) (key : ab_Do X 45 [ab_R 2, ab_I m, ab_I 4] σ (fun r σ' => ab_Run X 44 219 (14, 0, 0) [ab_R 2] (ab_psh r []) σ' Q)) : ab_Do X 44 [ab_R 2] σ Q := by
  have g := h.geo
  have hv : K = 5 ∨ K = 329 := hK
  have k0 := (g.kit hK).1
  have c0 := fun Q' => sp_readsR (X := X) (Q := Q') h ac_TX0
  have c6 := fun Q' => sp_readsR (X := X) (Q := Q') h ac_TX6
  have c7 := fun Q' => sp_readsR (X := X) (Q := Q') h ac_TX7
  have c8 := fun Q' => sp_readsR (X := X) (Q := Q') h ac_TX8
  have c9 := fun Q' => sp_readsR (X := X) (Q := Q') h ac_TX9
  have c10 := fun Q' => sp_readsR (X := X) (Q := Q') h ac_TX10
  rw [if_neg z0] at c0
  rw [if_neg z6] at c6
  rw [if_neg z7] at c7
  rw [if_neg z8] at c8
  rw [if_neg z9] at c9
  rw [if_pos z] at c10
  clear h z z0 z6 z7 z8 z9 hK
  simp (disch := omega) only [do_X7_readLine, rX7_readLine_0, rX7_readLine_1, rX7_readLine_4, rX7_readLine_6, rX7_readLine_9, rX7_readLine_32, rX7_readLine_33, rX7_readLine_36, rX7_readLine_38, rX7_readLine_41, rX7_readLine_72, rX7_readLine_73, rX7_readLine_76, rX7_readLine_78, rX7_readLine_81, rX7_readLine_113, rX7_readLine_114, rX7_readLine_117, rX7_readLine_119, rX7_readLine_122, rX7_readLine_154, rX7_readLine_155, rX7_readLine_158, rX7_readLine_160, rX7_readLine_163, rX7_readLine_195, rX7_readLine_196, rX7_readLine_199, rX7_readLine_201, rX7_readLine_204, rX7_readLine_207, rX7_readLine_208, rX7_readLine_209, rX7_readLine_212, rX7_readLine_215, rX7_readLine_216, gS_2, gP_2_0, gS_3, g, e1, k0, cc, c0, c6, c7, c8, c9, c10, ne_eq, not_false_eq_true, not_true_eq_false, true_and, and_true, and_self, true_imp_iff, false_imp_iff, imp_self, Bool.not_false, Bool.not_true, reduceCtorEq, ab_isJ, ab_psh, ab_cats, Bool.false_eq_true, if_true, if_false, ab_shf, ab_shw, Int.le_refl, Classical.not_not, Int.zero_add, forall_const, ↓ab_itT, ↓ab_itF, ab_anT, ab_w32_id, ab_rdf_ne, ab_rdw_ne, ab_rdw_eq, ab_rdf_in, ab_td2, ab_tm2, true_or, or_true]
  all_goals exact key
theorem sp_ln_piece2 (g : ab_Geo τ) (key : ab_Do X 52 [ab_R 2] τ (fun r σ' => ab_Run X 44 226 (14, 0, 0) [ab_R 2] (ab_psh r []) σ' Q)) : ab_Run X 44 219 (14, 0, 0) [ab_R 2] (ab_psh (some (ab_I 1)) []) τ Q := by
  simp (disch := omega) only [rX7_readLine_219, rX7_readLine_222, rX7_readLine_223, gS_2, gP_2_0, gS_3, g, ne_eq, not_false_eq_true, not_true_eq_false, true_and, and_true, and_self, true_imp_iff, false_imp_iff, imp_self, Bool.not_false, Bool.not_true, reduceCtorEq, ab_isJ, ab_psh, ab_cats, Bool.false_eq_true, if_true, if_false, ab_shf, ab_shw, Int.le_refl, Classical.not_not, Int.zero_add, forall_const, ↓ab_itT, ↓ab_itF, ab_anT, ab_w32_id, ab_rdf_ne, ab_rdw_ne, ab_rdw_eq, ab_rdf_in, ab_td2, ab_tm2, true_or, or_true]
  all_goals exact key
theorem sp_ln_piece0 (h : Q (some (ab_I 0)) τ) : ab_Run X 44 219 (14, 0, 0) [ab_R 2] (ab_psh (some (ab_I 0)) []) τ Q ∧ ab_Run X 44 226 (14, 0, 0) [ab_R 2] (ab_psh (some (ab_I 0)) []) τ Q := by
  refine ⟨?_, ?_⟩
  · simp (disch := omega) only [rX7_readLine_219, rX7_readLine_233, rX7_readLine_234, ne_eq, not_false_eq_true, not_true_eq_false, true_and, and_true, and_self, true_imp_iff, false_imp_iff, imp_self, Bool.not_false, Bool.not_true, reduceCtorEq, ab_isJ, ab_psh, ab_cats, Bool.false_eq_true, if_true, if_false, ab_shf, ab_shw, Int.le_refl, Classical.not_not, Int.zero_add, forall_const, ↓ab_itT, ↓ab_itF, ab_anT, ab_w32_id, ab_rdf_ne, ab_rdw_ne, ab_rdw_eq, ab_rdf_in, ab_td2, ab_tm2, true_or, or_true]
    all_goals exact h
  · simp (disch := omega) only [rX7_readLine_226, rX7_readLine_233, rX7_readLine_234, ne_eq, not_false_eq_true, not_true_eq_false, true_and, and_true, and_self, true_imp_iff, false_imp_iff, imp_self, Bool.not_false, Bool.not_true, reduceCtorEq, ab_isJ, ab_psh, ab_cats, Bool.false_eq_true, if_true, if_false, ab_shf, ab_shw, Int.le_refl, Classical.not_not, Int.zero_add, forall_const, ↓ab_itT, ↓ab_itF, ab_anT, ab_w32_id, ab_rdf_ne, ab_rdw_ne, ab_rdw_eq, ab_rdf_in, ab_td2, ab_tm2, true_or, or_true]
    all_goals exact h
theorem sp_ln_piece1 (h : Q (some (ab_I 1)) τ) : ab_Run X 44 226 (14, 0, 0) [ab_R 2] (ab_psh (some (ab_I 1)) []) τ Q := by
  simp (disch := omega) only [rX7_readLine_226, rX7_readLine_229, rX7_readLine_230, rX7_readLine_234, ne_eq, not_false_eq_true, not_true_eq_false, true_and, and_true, and_self, true_imp_iff, false_imp_iff, imp_self, Bool.not_false, Bool.not_true, reduceCtorEq, ab_isJ, ab_psh, ab_cats, Bool.false_eq_true, if_true, if_false, ab_shf, ab_shw, Int.le_refl, Classical.not_not, Int.zero_add, forall_const, ↓ab_itT, ↓ab_itF, ab_anT, ab_w32_id, ab_rdf_ne, ab_rdw_ne, ab_rdw_eq, ab_rdf_in, ab_td2, ab_tm2, true_or, or_true]
  all_goals exact h
theorem sp_ln_cheats (h : ac_RC σ n tp s) (z0 : ¬ ac_isw tp n s ac_tx0) (z6 : ¬ ac_isw tp n s ac_tx6) (z7 : ¬ ac_isw tp n s ac_tx7) (z8 : ¬ ac_isw tp n s ac_tx8) (z9 : ¬ ac_isw tp n s ac_tx9) (z10 : ¬ ac_isw tp n s ac_tx10) (z : ac_isw tp n s ac_tx11) (key : ab_Do X 45 [ab_R 2, ab_I 0, ab_I 1] σ (fun r σ' => ab_Run X 44 253 (14, 0, 0) [ab_R 2] (ab_psh r []) σ' Q)) : ab_Do X 44 [ab_R 2] σ Q := by
  have g := h.geo
  have c0 := fun Q' => sp_readsR (X := X) (Q := Q') h ac_TX0
  have c6 := fun Q' => sp_readsR (X := X) (Q := Q') h ac_TX6
  have c7 := fun Q' => sp_readsR (X := X) (Q := Q') h ac_TX7
  have c8 := fun Q' => sp_readsR (X := X) (Q := Q') h ac_TX8
  have c9 := fun Q' => sp_readsR (X := X) (Q := Q') h ac_TX9
  have c10 := fun Q' => sp_readsR (X := X) (Q := Q') h ac_TX10
  have c11 := fun Q' => sp_readsR (X := X) (Q := Q') h ac_TX11
  rw [if_neg z0] at c0
  rw [if_neg z6] at c6
  rw [if_neg z7] at c7
  rw [if_neg z8] at c8
  rw [if_neg z9] at c9
  rw [if_neg z10] at c10
  rw [if_pos z] at c11
  clear h z z0 z6 z7 z8 z9 z10
  simp (disch := omega) only [do_X7_readLine, rX7_readLine_0, rX7_readLine_1, rX7_readLine_4, rX7_readLine_6, rX7_readLine_9, rX7_readLine_32, rX7_readLine_33, rX7_readLine_36, rX7_readLine_38, rX7_readLine_41, rX7_readLine_72, rX7_readLine_73, rX7_readLine_76, rX7_readLine_78, rX7_readLine_81, rX7_readLine_113, rX7_readLine_114, rX7_readLine_117, rX7_readLine_119, rX7_readLine_122, rX7_readLine_154, rX7_readLine_155, rX7_readLine_158, rX7_readLine_160, rX7_readLine_163, rX7_readLine_195, rX7_readLine_196, rX7_readLine_199, rX7_readLine_201, rX7_readLine_204, rX7_readLine_235, rX7_readLine_236, rX7_readLine_239, rX7_readLine_241, rX7_readLine_244, rX7_readLine_247, rX7_readLine_248, rX7_readLine_249, rX7_readLine_250, gS_2, gP_2_0, gS_3, g, c0, c6, c7, c8, c9, c10, c11, ne_eq, not_false_eq_true, not_true_eq_false, true_and, and_true, and_self, true_imp_iff, false_imp_iff, imp_self, Bool.not_false, Bool.not_true, reduceCtorEq, ab_isJ, ab_psh, ab_cats, Bool.false_eq_true, if_true, if_false, ab_shf, ab_shw, Int.le_refl, Classical.not_not, Int.zero_add, forall_const, ↓ab_itT, ↓ab_itF, ab_anT, ab_w32_id, ab_rdf_ne, ab_rdw_ne, ab_rdw_eq, ab_rdf_in, ab_td2, ab_tm2, true_or, or_true]
  all_goals exact key
theorem sp_ln_cheats2 (g : ab_Geo τ) (key : ab_Do X 53 [ab_R 2] τ (fun r σ' => ab_Run X 44 260 (14, 0, 0) [ab_R 2] (ab_psh r []) σ' Q)) : ab_Run X 44 253 (14, 0, 0) [ab_R 2] (ab_psh (some (ab_I 1)) []) τ Q := by
  simp (disch := omega) only [rX7_readLine_253, rX7_readLine_256, rX7_readLine_257, gS_2, gP_2_0, gS_3, g, ne_eq, not_false_eq_true, not_true_eq_false, true_and, and_true, and_self, true_imp_iff, false_imp_iff, imp_self, Bool.not_false, Bool.not_true, reduceCtorEq, ab_isJ, ab_psh, ab_cats, Bool.false_eq_true, if_true, if_false, ab_shf, ab_shw, Int.le_refl, Classical.not_not, Int.zero_add, forall_const, ↓ab_itT, ↓ab_itF, ab_anT, ab_w32_id, ab_rdf_ne, ab_rdw_ne, ab_rdw_eq, ab_rdf_in, ab_td2, ab_tm2, true_or, or_true]
  all_goals exact key
theorem sp_ln_cheats0 (h : Q (some (ab_I 0)) τ) : ab_Run X 44 253 (14, 0, 0) [ab_R 2] (ab_psh (some (ab_I 0)) []) τ Q ∧ ab_Run X 44 260 (14, 0, 0) [ab_R 2] (ab_psh (some (ab_I 0)) []) τ Q := by
  refine ⟨?_, ?_⟩
  · simp (disch := omega) only [rX7_readLine_253, rX7_readLine_267, rX7_readLine_268, ne_eq, not_false_eq_true, not_true_eq_false, true_and, and_true, and_self, true_imp_iff, false_imp_iff, imp_self, Bool.not_false, Bool.not_true, reduceCtorEq, ab_isJ, ab_psh, ab_cats, Bool.false_eq_true, if_true, if_false, ab_shf, ab_shw, Int.le_refl, Classical.not_not, Int.zero_add, forall_const, ↓ab_itT, ↓ab_itF, ab_anT, ab_w32_id, ab_rdf_ne, ab_rdw_ne, ab_rdw_eq, ab_rdf_in, ab_td2, ab_tm2, true_or, or_true]
    all_goals exact h
  · simp (disch := omega) only [rX7_readLine_260, rX7_readLine_267, rX7_readLine_268, ne_eq, not_false_eq_true, not_true_eq_false, true_and, and_true, and_self, true_imp_iff, false_imp_iff, imp_self, Bool.not_false, Bool.not_true, reduceCtorEq, ab_isJ, ab_psh, ab_cats, Bool.false_eq_true, if_true, if_false, ab_shf, ab_shw, Int.le_refl, Classical.not_not, Int.zero_add, forall_const, ↓ab_itT, ↓ab_itF, ab_anT, ab_w32_id, ab_rdf_ne, ab_rdw_ne, ab_rdw_eq, ab_rdf_in, ab_td2, ab_tm2, true_or, or_true]
    all_goals exact h
theorem sp_ln_cheats1 (h : Q (some (ab_I 1)) τ) : ab_Run X 44 260 (14, 0, 0) [ab_R 2] (ab_psh (some (ab_I 1)) []) τ Q := by
  simp (disch := omega) only [rX7_readLine_260, rX7_readLine_263, rX7_readLine_264, rX7_readLine_268, ne_eq, not_false_eq_true, not_true_eq_false, true_and, and_true, and_self, true_imp_iff, false_imp_iff, imp_self, Bool.not_false, Bool.not_true, reduceCtorEq, ab_isJ, ab_psh, ab_cats, Bool.false_eq_true, if_true, if_false, ab_shf, ab_shw, Int.le_refl, Classical.not_not, Int.zero_add, forall_const, ↓ab_itT, ↓ab_itF, ab_anT, ab_w32_id, ab_rdf_ne, ab_rdw_ne, ab_rdw_eq, ab_rdf_in, ab_td2, ab_tm2, true_or, or_true]
  all_goals exact h
theorem sp_ln_no (h : ac_RC σ n tp s) (z0 : ¬ ac_isw tp n s ac_tx0) (z6 : ¬ ac_isw tp n s ac_tx6) (z7 : ¬ ac_isw tp n s ac_tx7) (z8 : ¬ ac_isw tp n s ac_tx8) (z9 : ¬ ac_isw tp n s ac_tx9) (z10 : ¬ ac_isw tp n s ac_tx10) (z11 : ¬ ac_isw tp n s ac_tx11) (kq : Q (some (ab_I 0)) (ab_wr (ab_wr σ 2 2 1) 2 3 s)) : ab_Do X 44 [ab_R 2] σ Q := by
  have g := h.geo
  have c0 := fun Q' => sp_readsR (X := X) (Q := Q') h ac_TX0
  have c6 := fun Q' => sp_readsR (X := X) (Q := Q') h ac_TX6
  have c7 := fun Q' => sp_readsR (X := X) (Q := Q') h ac_TX7
  have c8 := fun Q' => sp_readsR (X := X) (Q := Q') h ac_TX8
  have c9 := fun Q' => sp_readsR (X := X) (Q := Q') h ac_TX9
  have c10 := fun Q' => sp_readsR (X := X) (Q := Q') h ac_TX10
  have c11 := fun Q' => sp_readsR (X := X) (Q := Q') h ac_TX11
  have c2 := fun k Q' => sp_stop (X := X) (Q := Q') (k := k) h
  rw [if_neg z0] at c0
  rw [if_neg z6] at c6
  rw [if_neg z7] at c7
  rw [if_neg z8] at c8
  rw [if_neg z9] at c9
  rw [if_neg z10] at c10
  rw [if_neg z11] at c11
  clear h z0 z6 z7 z8 z9 z10 z11
  simp (disch := omega) only [do_X7_readLine, rX7_readLine_0, rX7_readLine_1, rX7_readLine_4, rX7_readLine_6, rX7_readLine_9, rX7_readLine_32, rX7_readLine_33, rX7_readLine_36, rX7_readLine_38, rX7_readLine_41, rX7_readLine_72, rX7_readLine_73, rX7_readLine_76, rX7_readLine_78, rX7_readLine_81, rX7_readLine_113, rX7_readLine_114, rX7_readLine_117, rX7_readLine_119, rX7_readLine_122, rX7_readLine_154, rX7_readLine_155, rX7_readLine_158, rX7_readLine_160, rX7_readLine_163, rX7_readLine_195, rX7_readLine_196, rX7_readLine_199, rX7_readLine_201, rX7_readLine_204, rX7_readLine_235, rX7_readLine_236, rX7_readLine_239, rX7_readLine_241, rX7_readLine_244, rX7_readLine_269, rX7_readLine_270, rX7_readLine_271, rX7_readLine_274, gS_2, gP_2_0, gS_3, g, c0, c6, c7, c8, c9, c10, c11, c2, ne_eq, not_false_eq_true, not_true_eq_false, true_and, and_true, and_self, true_imp_iff, false_imp_iff, imp_self, Bool.not_false, Bool.not_true, reduceCtorEq, ab_isJ, ab_psh, ab_cats, Bool.false_eq_true, if_true, if_false, ab_shf, ab_shw, Int.le_refl, Classical.not_not, Int.zero_add, forall_const, ↓ab_itT, ↓ab_itF, ab_anT, ab_w32_id, ab_rdf_ne, ab_rdw_ne, ab_rdw_eq, ab_rdf_in, ab_td2, ab_tm2, true_or, or_true]
  all_goals exact kq
theorem sp_readLine (h : ac_RC σ n tp s) (hk : ar_KF σ K κ) (hj : ar_J κ) (hF : ar_hF Q σ K (pr_line tp n κ s)) (hW : ∀ s', pr_line tp n κ s = .inl (1, s') → ac_kk tp n s' ≠ 0 → ac_kk tp n s' ≠ 4 → ∀ τ, ab_Same (ar_PL K) σ τ → ac_RC τ n tp s' → Q (some (ab_I 1)) τ) (hO : ar_hO Q σ K n tp (pr_line tp n κ s)) : ab_Do X 44 [ab_R 2] σ Q := by
  have hK := hk.1
  have h01 := hj.2.2.1
  have e4 := hk.2.2.1
  generalize er : pr_line tp n κ s = r at hF hW hO
  unfold pr_line at er
  by_cases z0 : ac_isw tp n s ac_tx0
  · rw [if_pos z0] at er
    by_cases y : κ 11 0 = 1
    · rw [if_pos y] at er
      exact sp_ln_k1 h z0 (e4.trans y) (hF 3 s er.symm _ ac_stp_e.1.rl ac_stp_e.2.1 ac_stp_e.2.2)
    · rw [if_neg y] at er
      have y0 : κ 11 0 = 0 := by omega
      subst er
      exact sp_ln_k0 h z0 (e4.trans y0) (sp_readRules h hk hj y0 (fun w pl e τ u1 u2 u3 => sp_ln_ke (Or.inl rfl) (hF w pl e τ u1 u2 u3)) (fun κ' s' e τ u1 u2 u3 => sp_ln_ke (Or.inr rfl) (hO κ' s' e τ u1 u2 u3)))
  · rw [if_neg z0] at er
    by_cases z6 : ac_isw tp n s ac_tx6
    · rw [if_pos z6] at er
      refine sp_ln_bone h z0 z6 hK hk.2.1 hk.2.2.2.2.1.1 ?_
      refine sp_enterE h hk h01 er (fun w pl e τ u1 u2 u3 => (sp_ln_bone0 (hF w pl e τ u1.rl u2 u3)).1) (fun y1 y2 er1 τ u1 R1 => ?_)
      refine sp_ln_bone2 R1.geo ?_
      subst er1
      exact sp_readBone R1 (hk.same u1) hj y2 (fun w pl e υ u2 u3 u4 => (sp_ln_bone0 (hF w pl e υ (u1.rl.trans u2) u3 u4)).2) (fun s' e k0 k4 υ u2 u3 => sp_ln_bone1 (hW s' e k0 k4 υ (u1.rl.trans u2) u3)) (fun κ' s' e υ u2 u3 u4 => sp_ln_bone1 (hO κ' s' e υ (u1.rl.trans u2) u3 u4))
    · rw [if_neg z6] at er
      by_cases z7 : ac_isw tp n s ac_tx7
      · rw [if_pos z7] at er
        refine sp_ln_person h z0 z6 z7 hK hk.2.1 hk.2.2.2.2.1.2.1 ?_
        refine sp_enterE h hk h01 er (fun w pl e τ u1 u2 u3 => (sp_ln_person0 (hF w pl e τ u1.rl u2 u3)).1) (fun y1 y2 er1 τ u1 R1 => ?_)
        refine sp_ln_person2 R1.geo ?_
        subst er1
        exact sp_readPerson R1 (hk.same u1) hj y2 (fun w pl e υ u2 u3 u4 => (sp_ln_person0 (hF w pl e υ (u1.rl.trans u2) u3 u4)).2) (fun κ' s' e υ u2 u3 u4 => sp_ln_person1 (hO κ' s' e υ (u1.rl.trans u2) u3 u4))
      · rw [if_neg z7] at er
        by_cases z8 : ac_isw tp n s ac_tx8
        · rw [if_pos z8] at er
          refine sp_ln_for h z0 z6 z7 z8 hK hk.2.1 hk.2.2.2.2.1.2.2.1 ?_
          refine sp_enterE h hk h01 er (fun w pl e τ u1 u2 u3 => (sp_ln_for0 (hF w pl e τ u1.rl u2 u3)).1) (fun y1 y2 er1 τ u1 R1 => ?_)
          refine sp_ln_for2 R1.geo ?_
          subst er1
          exact sp_readFor R1 (hk.same u1) hj (fun w pl e υ u2 u3 u4 => (sp_ln_for0 (hF w pl e υ (u1.rl.trans u2) u3 u4)).2) (fun κ' s' e υ u2 u3 u4 => sp_ln_for1 (hO κ' s' e υ (u1.rl.trans u2) u3 u4))
        · rw [if_neg z8] at er
          by_cases z9 : ac_isw tp n s ac_tx9
          · rw [if_pos z9] at er
            refine sp_ln_won h z0 z6 z7 z8 z9 hK hk.2.1 hk.2.2.2.2.1.2.2.2.1 ?_
            refine sp_enterE h hk h01 er (fun w pl e τ u1 u2 u3 => (sp_ln_won0 (hF w pl e τ u1.rl u2 u3)).1) (fun y1 y2 er1 τ u1 R1 => ?_)
            refine sp_ln_won2 R1.geo ?_
            subst er1
            exact sp_readWon R1 (hk.same u1) hj (fun w pl e υ u2 u3 u4 => (sp_ln_won0 (hF w pl e υ (u1.rl.trans u2) u3 u4)).2) (fun κ' s' e υ u2 u3 u4 => sp_ln_won1 (hO κ' s' e υ (u1.rl.trans u2) u3 u4))
          · rw [if_neg z9] at er
            by_cases z10 : ac_isw tp n s ac_tx10
            · rw [if_pos z10] at er
              refine sp_ln_piece h z0 z6 z7 z8 z9 z10 hK hk.2.1 hk.2.2.2.2.1.2.2.2.2.2 ?_
              refine sp_enterE h hk h01 er (fun w pl e τ u1 u2 u3 => (sp_ln_piece0 (hF w pl e τ u1.rl u2 u3)).1) (fun y1 y2 er1 τ u1 R1 => ?_)
              refine sp_ln_piece2 R1.geo ?_
              subst er1
              exact sp_readPiece R1 (hk.same u1) hj y2 (fun w pl e υ u2 u3 u4 => (sp_ln_piece0 (hF w pl e υ (u1.rl.trans u2) u3 u4)).2) (fun κ' s' e υ u2 u3 u4 => sp_ln_piece1 (hO κ' s' e υ (u1.rl.trans u2) u3 u4))
            · rw [if_neg z10] at er
              by_cases z11 : ac_isw tp n s ac_tx11
              · rw [if_pos z11] at er
                refine sp_ln_cheats h z0 z6 z7 z8 z9 z10 z11 ?_
                refine sp_enterE h hk h01 er (fun w pl e τ u1 u2 u3 => (sp_ln_cheats0 (hF w pl e τ u1.rl u2 u3)).1) (fun y1 y2 er1 τ u1 R1 => ?_)
                refine sp_ln_cheats2 R1.geo ?_
                subst er1
                exact sp_readCheats R1 (hk.same u1) hj (fun w pl e υ u2 u3 u4 => (sp_ln_cheats0 (hF w pl e υ (u1.rl.trans u2) u3 u4)).2) (fun κ' s' e υ u2 u3 u4 => sp_ln_cheats1 (hO κ' s' e υ (u1.rl.trans u2) u3 u4))
              · rw [if_neg z11] at er
                exact sp_ln_no h z0 z6 z7 z8 z9 z10 z11 (hF 1 s er.symm _ ac_stp_e.1.rl ac_stp_e.2.1 ac_stp_e.2.2)
end
