/-! SIZE, TROUBLE, FAULT, WHERE, both sides -/
def ac_sz (κ : ac_K) (v : Int → Int) (na nm ln w : Int) : Int := if w = 0 then κ 0 0 else if w = 1 then κ 1 0 else if w = 2 then κ 2 0 else if w = 3 then κ 3 0 else if w = 4 then κ 4 0 else if w = 5 then κ 5 0 else if w = 6 then κ 6 0 else if w = 7 then κ 7 0 else if w = 8 then κ 8 0 else if w = 9 then κ 9 0 else if w = 10 then v 17 else if w = 11 then na else if w = 12 then nm else if w = 13 then ln else -1
section
variable {X : ab_X} {σ τ υ : ab_S} {Q : Option ab_V → ab_S → Prop} {K M ln w na nm t : Int} {tp v : Int → Int} {pa pm : Int → Int → Int} {κ : ac_K}
theorem cq_size (h : ac_CV σ K κ v na pa nm pm) (hT : ac_TC σ ln tp) : ab_Do X 122 [ab_R 1, ab_I w] σ Q ↔ Q (some (ab_I (ac_sz κ v na nm ln w))) σ := by
  have g := h.1.1
  have h7 := h.1.2.1
  have hC := h.1.2.2.1
  have hv : K = 5 ∨ K = 329 := hC.1
  have sK := (g.kit hC.1).1
  obtain ⟨a5, a7, a9, a10, a11, a12⟩ := hC.2.2.1
  obtain ⟨b0, b1, b2, b3, b4⟩ := hC.2.1
  have e4 : ab_rd σ 31 4 = v 17 := h.2.1.2.2
  have e33 := h.2.2.2.1.2.1
  have e34 := h.2.2.2.1.2.2.1
  have et := hT.1
  clear h hT hC
  by_cases z : 0 ≤ w ∧ w ≤ 13
  · have hw : w = 0 ∨ w = 1 ∨ w = 2 ∨ w = 3 ∨ w = 4 ∨ w = 5 ∨ w = 6 ∨ w = 7 ∨ w = 8 ∨ w = 9 ∨ w = 10 ∨ w = 11 ∨ w = 12 ∨ w = 13 := by omega
    rcases hw with rfl | rfl | rfl | rfl | rfl | rfl | rfl | rfl | rfl | rfl | rfl | rfl | rfl | rfl
    all_goals (simp (disch := omega) only [do_X11_size, rX11_size_0, rX11_size_1_0, rX11_size_1_1, rX11_size_1_2, rX11_size_1_3, rX11_size_1_4, rX11_size_1_5, rX11_size_1_6, rX11_size_1_7, rX11_size_1_8, rX11_size_1_9, rX11_size_1_10, rX11_size_1_11, rX11_size_1_12, rX11_size_1_13, rX11_size_1_d, rX11_size_72, rX11_size_73, rX11_size_76, rX11_size_79, rX11_size_80, rX11_size_81, rX11_size_84, rX11_size_87, rX11_size_88, rX11_size_89, rX11_size_92, rX11_size_95, rX11_size_96, rX11_size_97, rX11_size_100, rX11_size_103, rX11_size_104, rX11_size_105, rX11_size_108, rX11_size_111, rX11_size_112, rX11_size_113, rX11_size_116, rX11_size_119, rX11_size_120, rX11_size_121, rX11_size_124, rX11_size_127, rX11_size_128, rX11_size_129, rX11_size_132, rX11_size_135, rX11_size_136, rX11_size_137, rX11_size_140, rX11_size_143, rX11_size_144, rX11_size_145, rX11_size_148, rX11_size_151, rX11_size_152, rX11_size_153, rX11_size_156, rX11_size_159, rX11_size_160, rX11_size_161, rX11_size_164, rX11_size_167, rX11_size_168, rX11_size_169, rX11_size_172, rX11_size_175, rX11_size_176, rX11_size_177, rX11_size_180, rX11_size_183, rX11_size_186, rX11_size_187, rX11_size_188, gS_1, gP_1_0, gP_1_1, gP_1_2, gS_2, gP_2_0, gS_3, gS_31, gS_36, g, h7, sK, a5, a7, a9, a10, a11, a12, b0, b1, b2, b3, b4, e4, e33, e34, et, ne_eq, not_false_eq_true, not_true_eq_false, true_and, and_true, and_self, true_imp_iff, false_imp_iff, imp_self, Bool.not_false, Bool.not_true, reduceCtorEq, ab_isJ, ab_psh, ab_cats, Bool.false_eq_true, if_true, if_false, ab_shf, ab_shw, Int.le_refl, Classical.not_not, Int.zero_add, forall_const, ↓ab_itT, ↓ab_itF, ab_anT, ab_w32_id, ab_rdf_ne, ab_rdw_ne, ab_rdw_eq, ab_rdf_in, ab_td2, ab_tm2]; exact Iff.rfl)
  · have e : ac_sz κ v na nm ln w = -1 := by
      unfold ac_sz
      rw [if_neg (by omega), if_neg (by omega), if_neg (by omega), if_neg (by omega), if_neg (by omega), if_neg (by omega), if_neg (by omega), if_neg (by omega), if_neg (by omega), if_neg (by omega), if_neg (by omega), if_neg (by omega), if_neg (by omega), if_neg (by omega)]
    rw [e]
    simp (disch := omega) only [do_X11_size, rX11_size_0, rX11_size_1_0, rX11_size_1_1, rX11_size_1_2, rX11_size_1_3, rX11_size_1_4, rX11_size_1_5, rX11_size_1_6, rX11_size_1_7, rX11_size_1_8, rX11_size_1_9, rX11_size_1_10, rX11_size_1_11, rX11_size_1_12, rX11_size_1_13, rX11_size_1_d, rX11_size_187, rX11_size_188, rX11_size_1_d, ne_eq, not_false_eq_true, not_true_eq_false, true_and, and_true, and_self, true_imp_iff, false_imp_iff, imp_self, Bool.not_false, Bool.not_true, reduceCtorEq, ab_isJ, ab_psh, ab_cats, Bool.false_eq_true, if_true, if_false, ab_shf, ab_shw, Int.le_refl, Classical.not_not, Int.zero_add, forall_const, ↓ab_itT, ↓ab_itF, ab_anT, ab_w32_id, ab_rdf_ne, ab_rdw_ne, ab_rdw_eq, ab_rdf_in, ab_td2, ab_tm2]
theorem ac_MN.z (h : ac_MN σ κ) (hb : ¬ 0 < κ 5 0) : κ = fun _ _ => 0 := by
  rcases h.2 with ⟨_, q⟩ | ⟨M, hm⟩
  · exact q
  · have := hm.2.2.2.2.2.2.2.1
    exact absurd this (by omega)
theorem mq_size (h : ac_MS σ κ v na pa nm pm) (hT : ac_TM σ ln tp) (h0 : ¬ 0 < κ 5 0 → v 17 = 0 ∧ na = 0 ∧ nm = 0) : ab_Do X 286 [ab_R 355, ab_I w] σ Q ↔ Q (some (ab_I (ac_sz κ v na nm ln w))) (ab_wr σ 355 0 0) := by
  have hN := h.1
  have h' := hN.same (τ := ab_wr σ 355 0 0) ac_mq0
  have g0 := hN.1
  have g := h'.1
  have hm0 := h.same (τ := ab_wr σ 355 0 0) ac_mq0
  have cin := fun x lo hi Q' => mq_in (X := X) (σ := ab_wr σ 355 0 0) (Q := Q') (x := x) (lo := lo) (hi := hi)
  have et : ab_rd (ab_wr σ 355 0 0) 355 6 = ln := by rw [ab_rdw_ne (by omega), hT.1]
  have e17 := hm0.2.1.1 17 (by omega) (by omega)
  have e19 := hm0.2.2.1
  have e20 := hm0.2.2.2.1
  by_cases z13 : w = 13
  · subst z13
    simp (disch := omega) only [do_X13_size, rX13_size_0, rX13_size_1, rX13_size_2, rX13_size_5, rX13_size_6, rX13_size_8, rX13_size_11, rX13_size_12, rX13_size_15, gS_355, g0, g, et, ne_eq, not_false_eq_true, not_true_eq_false, true_and, and_true, and_self, true_imp_iff, false_imp_iff, imp_self, Bool.not_false, Bool.not_true, reduceCtorEq, ab_isJ, ab_psh, ab_cats, Bool.false_eq_true, if_true, if_false, ab_shf, ab_shw, Int.le_refl, Classical.not_not, Int.zero_add, forall_const, ↓ab_itT, ↓ab_itF, ab_anT, or_true]
    exact Iff.rfl
  · by_cases z : 0 ≤ w ∧ w ≤ 12
    · have ci := fun Q' => cin w 0 12 Q'
      rw [if_pos z] at ci
      by_cases hp : 0 < κ 5 0
      · obtain ⟨M, hm⟩ := h'.mi hp
        have h3 := hm.2.1
        have zM := hm.2.2.1.1
        have sM := hm.2.2.1.2.1
        have k0 := kM_0 hm.2.2.2.1
        have k1 := kM_1 hm.2.2.2.1
        have k2 := kM_2 hm.2.2.2.1
        have k3 := kM_3 hm.2.2.2.1
        have k4 := kM_4 hm.2.2.2.1
        have k5 := kM_5 hm.2.2.2.1
        have k6 := kM_6 hm.2.2.2.1
        have k7 := kM_7 hm.2.2.2.1
        have k8 := kM_8 hm.2.2.2.1
        have k9 := kM_9 hm.2.2.2.1
        clear h hT h0 hm hm0 h' hN
        have hw : w = 0 ∨ w = 1 ∨ w = 2 ∨ w = 3 ∨ w = 4 ∨ w = 5 ∨ w = 6 ∨ w = 7 ∨ w = 8 ∨ w = 9 ∨ w = 10 ∨ w = 11 ∨ w = 12 := by omega
        rcases hw with rfl | rfl | rfl | rfl | rfl | rfl | rfl | rfl | rfl | rfl | rfl | rfl | rfl
        all_goals (simp (disch := omega) only [do_X13_size, rX13_size_0, rX13_size_1, rX13_size_2, rX13_size_5, rX13_size_6, rX13_size_8, rX13_size_11, rX13_size_12, rX13_size_15, rX13_size_16, rX13_size_17, rX13_size_18, rX13_size_20, rX13_size_23, rX13_size_26, rX13_size_27, rX13_size_28, rX13_size_29, rX13_size_32, rX13_size_35, rX13_size_36, rX13_size_37, rX13_size_38_0, rX13_size_38_1, rX13_size_38_2, rX13_size_38_3, rX13_size_38_4, rX13_size_38_5, rX13_size_38_6, rX13_size_38_7, rX13_size_38_8, rX13_size_38_9, rX13_size_38_10, rX13_size_38_11, rX13_size_38_d, rX13_size_100, rX13_size_101, rX13_size_104, rX13_size_107, rX13_size_108, rX13_size_109, rX13_size_112, rX13_size_115, rX13_size_116, rX13_size_117, rX13_size_120, rX13_size_123, rX13_size_124, rX13_size_125, rX13_size_128, rX13_size_131, rX13_size_132, rX13_size_133, rX13_size_136, rX13_size_139, rX13_size_140, rX13_size_141, rX13_size_144, rX13_size_147, rX13_size_148, rX13_size_149, rX13_size_152, rX13_size_155, rX13_size_156, rX13_size_157, rX13_size_160, rX13_size_163, rX13_size_164, rX13_size_165, rX13_size_168, rX13_size_171, rX13_size_172, rX13_size_173, rX13_size_176, rX13_size_179, rX13_size_180, rX13_size_181, rX13_size_184, rX13_size_186, rX13_size_187, rX13_size_188, rX13_size_189, rX13_size_192, rX13_size_193, rX13_size_194, rX13_size_197, rX13_size_38_d, gS_355, gP_355_16, gS_357, g0, g, h3, sM, ci, k0, k1, k2, k3, k4, k5, k6, k7, k8, k9, e17, e19, e20, ne_eq, not_false_eq_true, not_true_eq_false, true_and, and_true, and_self, true_imp_iff, false_imp_iff, imp_self, Bool.not_false, Bool.not_true, reduceCtorEq, ab_isJ, ab_psh, ab_cats, Bool.false_eq_true, if_true, if_false, ab_shf, ab_shw, Int.le_refl, Classical.not_not, Int.zero_add, forall_const, ↓ab_itT, ↓ab_itF, ab_anT, or_true]; exact Iff.rfl)
      · have e0 := h'.null hp
        have ez := hN.z hp
        obtain ⟨y1, y2, y3⟩ := h0 hp
        have es : ac_sz κ v na nm ln w = 0 := by
          unfold ac_sz
          rw [y1, y2, y3, ez]
          have hw : w = 0 ∨ w = 1 ∨ w = 2 ∨ w = 3 ∨ w = 4 ∨ w = 5 ∨ w = 6 ∨ w = 7 ∨ w = 8 ∨ w = 9 ∨ w = 10 ∨ w = 11 ∨ w = 12 := by omega
          rcases hw with rfl | rfl | rfl | rfl | rfl | rfl | rfl | rfl | rfl | rfl | rfl | rfl | rfl <;> rfl
        rw [es]
        clear h hT h0 hm0 h' hN
        simp (disch := omega) only [do_X13_size, rX13_size_0, rX13_size_1, rX13_size_2, rX13_size_5, rX13_size_6, rX13_size_8, rX13_size_11, rX13_size_12, rX13_size_15, rX13_size_16, rX13_size_17, rX13_size_18, rX13_size_20, rX13_size_23, rX13_size_26, rX13_size_27, rX13_size_28, rX13_size_29, rX13_size_32, rX13_size_35, rX13_size_36, gS_355, g0, g, e0, ci, ne_eq, not_false_eq_true, not_true_eq_false, true_and, and_true, and_self, true_imp_iff, false_imp_iff, imp_self, Bool.not_false, Bool.not_true, reduceCtorEq, ab_isJ, ab_psh, ab_cats, Bool.false_eq_true, if_true, if_false, ab_shf, ab_shw, Int.le_refl, Classical.not_not, Int.zero_add, forall_const, ↓ab_itT, ↓ab_itF, ab_anT, or_true]
    · have ci := fun Q' => cin w 0 12 Q'
      rw [if_neg z] at ci
      have es : ac_sz κ v na nm ln w = -1 := by
        unfold ac_sz
        rw [if_neg (by omega), if_neg (by omega), if_neg (by omega), if_neg (by omega), if_neg (by omega), if_neg (by omega), if_neg (by omega), if_neg (by omega), if_neg (by omega), if_neg (by omega), if_neg (by omega), if_neg (by omega), if_neg (by omega), if_neg (by omega)]
      rw [es]
      clear h hT h0 hm0 h' hN
      simp (disch := omega) only [do_X13_size, rX13_size_0, rX13_size_1, rX13_size_2, rX13_size_5, rX13_size_6, rX13_size_8, rX13_size_11, rX13_size_12, rX13_size_15, rX13_size_16, rX13_size_17, rX13_size_18, rX13_size_20, rX13_size_23, rX13_size_26, rX13_size_27, gS_355, g0, g, ci, ne_eq, not_false_eq_true, not_true_eq_false, true_and, and_true, and_self, true_imp_iff, false_imp_iff, imp_self, Bool.not_false, Bool.not_true, reduceCtorEq, ab_isJ, ab_psh, ab_cats, Bool.false_eq_true, if_true, if_false, ab_shf, ab_shw, Int.le_refl, Classical.not_not, Int.zero_add, forall_const, ↓ab_itT, ↓ab_itF, ab_anT, or_true]
theorem cq_trouble (hg : ab_Geo σ) (h : ab_rd σ 1 8 = t) : ab_Do X 123 [ab_R 1] σ Q ↔ Q (some (ab_I t)) σ := by
  simp (disch := omega) only [do_X11_trouble, rX11_trouble_0, rX11_trouble_1, rX11_trouble_4, gS_1, hg, h, ne_eq, not_false_eq_true, not_true_eq_false, true_and, and_true, and_self, true_imp_iff, false_imp_iff, imp_self, Bool.not_false, Bool.not_true, reduceCtorEq, ab_isJ, ab_psh, ab_cats, Bool.false_eq_true, if_true, if_false, ab_shf, ab_shw, Int.le_refl, Classical.not_not, Int.zero_add, forall_const, ↓ab_itT, ↓ab_itF, ab_anT, ab_w32_id, ab_rdf_ne, ab_rdw_ne, ab_rdw_eq, ab_rdf_in, ab_td2, ab_tm2]
theorem mq_trouble (hg : ab_Geo σ) (h : ab_rd σ 355 1 = t) : ab_Do X 287 [ab_R 355] σ Q ↔ Q (some (ab_I t)) (ab_wr σ 355 0 0) := by
  simp (disch := omega) only [do_X13_trouble, rX13_trouble_0, rX13_trouble_1, rX13_trouble_2, rX13_trouble_5, rX13_trouble_6, rX13_trouble_9, gS_355, hg, h, ne_eq, not_false_eq_true, not_true_eq_false, true_and, and_true, and_self, true_imp_iff, false_imp_iff, imp_self, Bool.not_false, Bool.not_true, reduceCtorEq, ab_isJ, ab_psh, ab_cats, Bool.false_eq_true, if_true, if_false, ab_shf, ab_shw, Int.le_refl, Classical.not_not, Int.zero_add, forall_const, ↓ab_itT, ↓ab_itF, ab_anT, ab_w32_id, ab_rdf_ne, ab_rdw_ne, ab_rdw_eq, ab_rdf_in, ab_td2, ab_tm2]
theorem cq_fault (hg : ab_Geo σ) (h : ab_rd σ 2 2 = t) : ab_Do X 82 [ab_R 1] σ Q ↔ Q (some (ab_I t)) σ := by
  simp (disch := omega) only [do_X11_fault, rX11_fault_0, rX11_fault_1, rX11_fault_4, rX11_fault_7, gS_1, gP_1_0, gS_2, hg, h, ne_eq, not_false_eq_true, not_true_eq_false, true_and, and_true, and_self, true_imp_iff, false_imp_iff, imp_self, Bool.not_false, Bool.not_true, reduceCtorEq, ab_isJ, ab_psh, ab_cats, Bool.false_eq_true, if_true, if_false, ab_shf, ab_shw, Int.le_refl, Classical.not_not, Int.zero_add, forall_const, ↓ab_itT, ↓ab_itF, ab_anT, ab_w32_id, ab_rdf_ne, ab_rdw_ne, ab_rdw_eq, ab_rdf_in, ab_td2, ab_tm2]
theorem mq_fault (hg : ab_Geo σ) (h : ab_rd σ 355 13 = t) : ab_Do X 199 [ab_R 355] σ Q ↔ Q (some (ab_I t)) (ab_wr σ 355 0 0) := by
  simp (disch := omega) only [do_X13_fault, rX13_fault_0, rX13_fault_1, rX13_fault_2, rX13_fault_5, rX13_fault_6, rX13_fault_9, gS_355, hg, h, ne_eq, not_false_eq_true, not_true_eq_false, true_and, and_true, and_self, true_imp_iff, false_imp_iff, imp_self, Bool.not_false, Bool.not_true, reduceCtorEq, ab_isJ, ab_psh, ab_cats, Bool.false_eq_true, if_true, if_false, ab_shf, ab_shw, Int.le_refl, Classical.not_not, Int.zero_add, forall_const, ↓ab_itT, ↓ab_itF, ab_anT, ab_w32_id, ab_rdf_ne, ab_rdw_ne, ab_rdw_eq, ab_rdf_in, ab_td2, ab_tm2]
theorem cq_where (hg : ab_Geo σ) : ab_Do X 83 [ab_R 1] σ Q ↔ Q (some (ab_I (if ab_rd σ 1 8 = 4 then ab_rd σ 2 3 else -1))) σ := by
  by_cases z : ab_rd σ 1 8 = 4
  · rw [if_pos z]
    simp (disch := omega) only [do_X11_where, rX11_where_0, rX11_where_1, rX11_where_4, rX11_where_5, rX11_where_8, rX11_where_9, rX11_where_12, rX11_where_15, rX11_where_18, rX11_where_19, gS_1, gP_1_0, gS_2, hg, z, ne_eq, not_false_eq_true, not_true_eq_false, true_and, and_true, and_self, true_imp_iff, false_imp_iff, imp_self, Bool.not_false, Bool.not_true, reduceCtorEq, ab_isJ, ab_psh, ab_cats, Bool.false_eq_true, if_true, if_false, ab_shf, ab_shw, Int.le_refl, Classical.not_not, Int.zero_add, forall_const, ↓ab_itT, ↓ab_itF, ab_anT, ab_w32_id, ab_rdf_ne, ab_rdw_ne, ab_rdw_eq, ab_rdf_in, ab_td2, ab_tm2]
  · rw [if_neg z]
    simp (disch := omega) only [do_X11_where, rX11_where_0, rX11_where_1, rX11_where_4, rX11_where_5, rX11_where_8, rX11_where_9, rX11_where_12, rX11_where_15, rX11_where_18, rX11_where_19, gS_1, gP_1_0, gS_2, hg, ne_eq, not_false_eq_true, not_true_eq_false, true_and, and_true, and_self, true_imp_iff, false_imp_iff, imp_self, Bool.not_false, Bool.not_true, reduceCtorEq, ab_isJ, ab_psh, ab_cats, Bool.false_eq_true, if_true, if_false, ab_shf, ab_shw, Int.le_refl, Classical.not_not, Int.zero_add, forall_const, ↓ab_itT, ↓ab_itF, ab_anT, ab_w32_id, ab_rdf_ne, ab_rdw_ne, ab_rdw_eq, ab_rdf_in, ab_td2, ab_tm2]
theorem mq_where (hg : ab_Geo σ) (h : ab_rd σ 355 2 = t) : ab_Do X 200 [ab_R 355] σ Q ↔ Q (some (ab_I t)) (ab_wr σ 355 0 0) := by
  simp (disch := omega) only [do_X13_where, rX13_where_0, rX13_where_1, rX13_where_2, rX13_where_5, rX13_where_6, rX13_where_9, gS_355, hg, h, ne_eq, not_false_eq_true, not_true_eq_false, true_and, and_true, and_self, true_imp_iff, false_imp_iff, imp_self, Bool.not_false, Bool.not_true, reduceCtorEq, ab_isJ, ab_psh, ab_cats, Bool.false_eq_true, if_true, if_false, ab_shf, ab_shw, Int.le_refl, Classical.not_not, Int.zero_add, forall_const, ↓ab_itT, ↓ab_itF, ab_anT, ab_w32_id, ab_rdf_ne, ab_rdw_ne, ab_rdw_eq, ab_rdf_in, ab_td2, ab_tm2]
end
