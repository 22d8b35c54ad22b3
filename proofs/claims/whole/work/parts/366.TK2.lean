/-! TOKENS: the class's next, open -/
section
variable {X : ab_X} {σ τ υ : ab_S} {Q : Option ab_V → ab_S → Prop} {n p s x t i ln : Int} {tp : Int → Int} {l1 : ab_V}
theorem sp_next (h : ac_TO σ n tp) (h6 : ab_rd σ 3 6 = p) (hp : 0 ≤ p ∧ p ≤ n) (hQ : ∀ τ, ab_Same ac_PK9 σ τ → ac_KT τ n tp (ac_kst tp n p) → Q none τ) : ab_Do X 70 [ab_R 3] σ Q := by
  have L := sp_next_l (X := X) (Q := Q) h (n - p).toNat p hp.1 (by omega)
  have rb := ac_run_b (lo := 32) (hi := 32) (tp := tp) (n := n) (p := p) hp.2
  rw [show ac_ru 32 32 tp n (n - p).toNat p = ac_kst tp n p from rfl] at L
  rw [show ac_run 32 32 tp n p = ac_kst tp n p from rfl] at rb
  generalize ac_kst tp n p = s at *
  have g := h.1
  have h7 := h.2.1
  have nb := h.2.2.1
  have s2 : ab_Same ac_PK9 σ (ab_wr (ab_wr σ 3 3 s) 3 6 (s + 1)) := (ab_Same.refl.wr (by unfold ac_PK9; omega)).wr (by unfold ac_PK9; omega)
  have hO := h.same s2
  have r3 : ab_rd (ab_wr (ab_wr σ 3 3 s) 3 6 (s + 1)) 3 3 = s := by rw [ab_rdw_ne (by omega), ab_rdw_eq]
  have r6 : ab_rd (ab_wr (ab_wr σ 3 3 s) 3 6 (s + 1)) 3 6 = s + 1 := ab_rdw_eq
  have g2 := hO.1
  have fin : ab_Run X 70 56 (1, 0, 0) [ab_R 3] [] (ab_wr (ab_wr σ 3 3 s) 3 6 (s + 1)) Q := by
    have h72 := hO.2.1
    generalize ab_wr (ab_wr σ 3 3 s) 3 6 (s + 1) = ρ at *
    clear L
    by_cases z0 : n ≤ s
    · have k := hQ (ab_wr (ab_wr ρ 3 6 n) 3 2 0) ((s2.wr (by unfold ac_PK9; omega)).wr (by unfold ac_PK9; omega)) (by
        have eK : ac_kk tp n s = 0 := by unfold ac_kk; rw [if_pos z0]
        exact ⟨by rw [ab_rdw_eq, eK], by rw [ab_rdw_ne (by omega), ab_rdw_ne (by omega), r3], by rw [ab_rdw_ne (by omega), ab_rdw_eq]; unfold ac_ke; rw [if_pos z0], fun u => by omega, fun u => by omega⟩)
      clear hQ h hO s2
      simp (disch := omega) only [rX9_next_56, rX9_next_57, rX9_next_60, rX9_next_61, rX9_next_64, rX9_next_67, rX9_next_68, rX9_next_69, rX9_next_72, rX9_next_75, rX9_next_76, rX9_next_77, rX9_next_80, rX9_next_202, gS_3, g2, h72, r3, ne_eq, not_false_eq_true, not_true_eq_false, true_and, and_true, and_self, true_imp_iff, false_imp_iff, imp_self, Bool.not_false, Bool.not_true, reduceCtorEq, ab_isJ, ab_psh, ab_cats, Bool.false_eq_true, if_true, if_false, ab_shf, ab_shw, Int.le_refl, Classical.not_not, Int.zero_add, forall_const, ↓ab_itT, ↓ab_itF, ab_anT, ab_w32_id, ab_rdf_ne, ab_rdw_ne, ab_rdw_eq, ab_rdf_in, ab_td2, ab_tm2]
      all_goals exact k
    · obtain ⟨e4, t1, t2⟩ := hO.2.2.2 s (by omega) (by omega)
      have one : ∀ kk, (ac_kk tp n s = kk) → (kk = 4 ∨ kk = 5 ∨ kk = 1) → ac_ke tp n s = s + 1 → Q none (ab_wr ρ 3 2 kk) := fun kk e1 e2 e3 => hQ _ (s2.wr (by unfold ac_PK9; omega)) ⟨by rw [ab_rdw_eq, e1], by rw [ab_rdw_ne (by omega), r3], by rw [ab_rdw_ne (by omega), r6, e3], fun u => by omega, fun u => by omega⟩
      by_cases z1 : 97 ≤ tp s ∧ tp s ≤ 122
      · have k : ab_Do X 71 [ab_R 3] ρ (fun r σ' => ab_Run X 70 115 (1, 0, 0) [ab_R 3] (ab_psh r []) σ' Q) := by
          refine sp_takeWord hO r3 (by omega) z1 (fun τ u1 u2 => ?_)
          have k := hQ τ (s2.trans u1) u2
          clear hQ h hO s2 one
          simp (disch := omega) only [rX9_next_115, rX9_next_202, ne_eq, not_false_eq_true, not_true_eq_false, true_and, and_true, and_self, true_imp_iff, false_imp_iff, imp_self, Bool.not_false, Bool.not_true, reduceCtorEq, ab_isJ, ab_psh, ab_cats, Bool.false_eq_true, if_true, if_false, ab_shf, ab_shw, Int.le_refl, Classical.not_not, Int.zero_add, forall_const, ↓ab_itT, ↓ab_itF, ab_anT, ab_w32_id, ab_rdf_ne, ab_rdw_ne, ab_rdw_eq, ab_rdf_in, ab_td2, ab_tm2]
          all_goals exact k
        clear hQ h hO s2 one
        simp (disch := omega) only [rX9_next_56, rX9_next_57, rX9_next_60, rX9_next_61, rX9_next_64, rX9_next_83, rX9_next_84, rX9_next_87, rX9_next_88, rX9_next_91, rX9_next_92, rX9_next_94, rX9_next_97, rX9_next_98, rX9_next_101, rX9_next_102, rX9_next_105, rX9_next_106, rX9_next_108, rX9_next_111, rX9_next_112, gS_3, gP_3_0, gS_4, g2, h72, r3, e4, ne_eq, not_false_eq_true, not_true_eq_false, true_and, and_true, and_self, true_imp_iff, false_imp_iff, imp_self, Bool.not_false, Bool.not_true, reduceCtorEq, ab_isJ, ab_psh, ab_cats, Bool.false_eq_true, if_true, if_false, ab_shf, ab_shw, Int.le_refl, Classical.not_not, Int.zero_add, forall_const, ↓ab_itT, ↓ab_itF, ab_anT, ab_w32_id, ab_rdf_ne, ab_rdw_ne, ab_rdw_eq, ab_rdf_in, ab_td2, ab_tm2, true_or, or_true]
        all_goals exact k
      · by_cases z2 : 48 ≤ tp s ∧ tp s ≤ 57
        · have k : ab_Do X 72 [ab_R 3] ρ (fun r σ' => ab_Run X 70 150 (1, 0, 0) [ab_R 3] (ab_psh r []) σ' Q) := by
            refine sp_takeWhole hO r3 (by omega) z2 (fun τ u1 u2 => ?_)
            have k := hQ τ (s2.trans u1) u2
            clear hQ h hO s2 one
            simp (disch := omega) only [rX9_next_150, rX9_next_202, ne_eq, not_false_eq_true, not_true_eq_false, true_and, and_true, and_self, true_imp_iff, false_imp_iff, imp_self, Bool.not_false, Bool.not_true, reduceCtorEq, ab_isJ, ab_psh, ab_cats, Bool.false_eq_true, if_true, if_false, ab_shf, ab_shw, Int.le_refl, Classical.not_not, Int.zero_add, forall_const, ↓ab_itT, ↓ab_itF, ab_anT, ab_w32_id, ab_rdf_ne, ab_rdw_ne, ab_rdw_eq, ab_rdf_in, ab_td2, ab_tm2]
            all_goals exact k
          clear hQ h hO s2 one
          simp (disch := omega) only [rX9_next_56, rX9_next_57, rX9_next_60, rX9_next_61, rX9_next_64, rX9_next_83, rX9_next_84, rX9_next_87, rX9_next_88, rX9_next_91, rX9_next_92, rX9_next_94, rX9_next_97, rX9_next_98, rX9_next_101, rX9_next_102, rX9_next_105, rX9_next_106, rX9_next_108, rX9_next_118, rX9_next_119, rX9_next_122, rX9_next_123, rX9_next_126, rX9_next_127, rX9_next_129, rX9_next_132, rX9_next_133, rX9_next_136, rX9_next_137, rX9_next_140, rX9_next_141, rX9_next_143, rX9_next_146, rX9_next_147, gS_3, gP_3_0, gS_4, g2, h72, r3, e4, ne_eq, not_false_eq_true, not_true_eq_false, true_and, and_true, and_self, true_imp_iff, false_imp_iff, imp_self, Bool.not_false, Bool.not_true, reduceCtorEq, ab_isJ, ab_psh, ab_cats, Bool.false_eq_true, if_true, if_false, ab_shf, ab_shw, Int.le_refl, Classical.not_not, Int.zero_add, forall_const, ↓ab_itT, ↓ab_itF, ab_anT, ab_w32_id, ab_rdf_ne, ab_rdw_ne, ab_rdw_eq, ab_rdf_in, ab_td2, ab_tm2, true_or, or_true]
          all_goals exact k
        · have ee : ac_ke tp n s = s + 1 := by unfold ac_ke; rw [if_neg z0, if_neg z1, if_neg z2]
          by_cases z3 : tp s = 59
          · have k := one 4 (by unfold ac_kk; rw [if_neg z0, if_neg z1, if_neg z2, if_pos z3]) (by omega) ee
            clear hQ h hO s2 one
            simp (disch := omega) only [rX9_next_56, rX9_next_57, rX9_next_60, rX9_next_61, rX9_next_64, rX9_next_83, rX9_next_84, rX9_next_87, rX9_next_88, rX9_next_91, rX9_next_92, rX9_next_94, rX9_next_97, rX9_next_98, rX9_next_101, rX9_next_102, rX9_next_105, rX9_next_106, rX9_next_108, rX9_next_118, rX9_next_119, rX9_next_122, rX9_next_123, rX9_next_126, rX9_next_127, rX9_next_129, rX9_next_132, rX9_next_133, rX9_next_136, rX9_next_137, rX9_next_140, rX9_next_141, rX9_next_143, rX9_next_153, rX9_next_154, rX9_next_157, rX9_next_158, rX9_next_161, rX9_next_162, rX9_next_164, rX9_next_167, rX9_next_168, rX9_next_169, rX9_next_172, rX9_next_175, rX9_next_176, rX9_next_179, rX9_next_180, rX9_next_183, rX9_next_184, rX9_next_186, rX9_next_189, rX9_next_190, rX9_next_191, rX9_next_194, rX9_next_197, rX9_next_198, rX9_next_199, rX9_next_202, gS_3, gP_3_0, gS_4, g2, h72, r3, e4, ne_eq, not_false_eq_true, not_true_eq_false, true_and, and_true, and_self, true_imp_iff, false_imp_iff, imp_self, Bool.not_false, Bool.not_true, reduceCtorEq, ab_isJ, ab_psh, ab_cats, Bool.false_eq_true, if_true, if_false, ab_shf, ab_shw, Int.le_refl, Classical.not_not, Int.zero_add, forall_const, ↓ab_itT, ↓ab_itF, ab_anT, ab_w32_id, ab_rdf_ne, ab_rdw_ne, ab_rdw_eq, ab_rdf_in, ab_td2, ab_tm2, true_or, or_true]
            all_goals exact k
          · by_cases z4 : tp s = 44
            · have k := one 5 (by unfold ac_kk; rw [if_neg z0, if_neg z1, if_neg z2, if_neg z3, if_pos z4]) (by omega) ee
              clear hQ h hO s2 one
              simp (disch := omega) only [rX9_next_56, rX9_next_57, rX9_next_60, rX9_next_61, rX9_next_64, rX9_next_83, rX9_next_84, rX9_next_87, rX9_next_88, rX9_next_91, rX9_next_92, rX9_next_94, rX9_next_97, rX9_next_98, rX9_next_101, rX9_next_102, rX9_next_105, rX9_next_106, rX9_next_108, rX9_next_118, rX9_next_119, rX9_next_122, rX9_next_123, rX9_next_126, rX9_next_127, rX9_next_129, rX9_next_132, rX9_next_133, rX9_next_136, rX9_next_137, rX9_next_140, rX9_next_141, rX9_next_143, rX9_next_153, rX9_next_154, rX9_next_157, rX9_next_158, rX9_next_161, rX9_next_162, rX9_next_164, rX9_next_167, rX9_next_168, rX9_next_169, rX9_next_172, rX9_next_175, rX9_next_176, rX9_next_179, rX9_next_180, rX9_next_183, rX9_next_184, rX9_next_186, rX9_next_189, rX9_next_190, rX9_next_191, rX9_next_194, rX9_next_197, rX9_next_198, rX9_next_199, rX9_next_202, gS_3, gP_3_0, gS_4, g2, h72, r3, e4, ne_eq, not_false_eq_true, not_true_eq_false, true_and, and_true, and_self, true_imp_iff, false_imp_iff, imp_self, Bool.not_false, Bool.not_true, reduceCtorEq, ab_isJ, ab_psh, ab_cats, Bool.false_eq_true, if_true, if_false, ab_shf, ab_shw, Int.le_refl, Classical.not_not, Int.zero_add, forall_const, ↓ab_itT, ↓ab_itF, ab_anT, ab_w32_id, ab_rdf_ne, ab_rdw_ne, ab_rdw_eq, ab_rdf_in, ab_td2, ab_tm2, true_or, or_true]
              all_goals exact k
            · have k := one 1 (by unfold ac_kk; rw [if_neg z0, if_neg z1, if_neg z2, if_neg z3, if_neg z4]) (by omega) ee
              clear hQ h hO s2 one
              by_cases y1 : tp s < 48
              · simp (disch := omega) only [rX9_next_56, rX9_next_57, rX9_next_60, rX9_next_61, rX9_next_64, rX9_next_83, rX9_next_84, rX9_next_87, rX9_next_88, rX9_next_91, rX9_next_92, rX9_next_94, rX9_next_97, rX9_next_98, rX9_next_101, rX9_next_102, rX9_next_105, rX9_next_106, rX9_next_108, rX9_next_118, rX9_next_119, rX9_next_122, rX9_next_123, rX9_next_126, rX9_next_127, rX9_next_129, rX9_next_132, rX9_next_133, rX9_next_136, rX9_next_137, rX9_next_140, rX9_next_141, rX9_next_143, rX9_next_153, rX9_next_154, rX9_next_157, rX9_next_158, rX9_next_161, rX9_next_162, rX9_next_164, rX9_next_167, rX9_next_168, rX9_next_169, rX9_next_172, rX9_next_175, rX9_next_176, rX9_next_179, rX9_next_180, rX9_next_183, rX9_next_184, rX9_next_186, rX9_next_189, rX9_next_190, rX9_next_191, rX9_next_194, rX9_next_197, rX9_next_198, rX9_next_199, rX9_next_202, gS_3, gP_3_0, gS_4, g2, h72, r3, e4, ne_eq, not_false_eq_true, not_true_eq_false, true_and, and_true, and_self, true_imp_iff, false_imp_iff, imp_self, Bool.not_false, Bool.not_true, reduceCtorEq, ab_isJ, ab_psh, ab_cats, Bool.false_eq_true, if_true, if_false, ab_shf, ab_shw, Int.le_refl, Classical.not_not, Int.zero_add, forall_const, ↓ab_itT, ↓ab_itF, ab_anT, ab_w32_id, ab_rdf_ne, ab_rdw_ne, ab_rdw_eq, ab_rdf_in, ab_td2, ab_tm2, true_or, or_true]
                all_goals exact k
              · by_cases y2 : tp s < 97
                · simp (disch := omega) only [rX9_next_56, rX9_next_57, rX9_next_60, rX9_next_61, rX9_next_64, rX9_next_83, rX9_next_84, rX9_next_87, rX9_next_88, rX9_next_91, rX9_next_92, rX9_next_94, rX9_next_97, rX9_next_98, rX9_next_101, rX9_next_102, rX9_next_105, rX9_next_106, rX9_next_108, rX9_next_118, rX9_next_119, rX9_next_122, rX9_next_123, rX9_next_126, rX9_next_127, rX9_next_129, rX9_next_132, rX9_next_133, rX9_next_136, rX9_next_137, rX9_next_140, rX9_next_141, rX9_next_143, rX9_next_153, rX9_next_154, rX9_next_157, rX9_next_158, rX9_next_161, rX9_next_162, rX9_next_164, rX9_next_167, rX9_next_168, rX9_next_169, rX9_next_172, rX9_next_175, rX9_next_176, rX9_next_179, rX9_next_180, rX9_next_183, rX9_next_184, rX9_next_186, rX9_next_189, rX9_next_190, rX9_next_191, rX9_next_194, rX9_next_197, rX9_next_198, rX9_next_199, rX9_next_202, gS_3, gP_3_0, gS_4, g2, h72, r3, e4, ne_eq, not_false_eq_true, not_true_eq_false, true_and, and_true, and_self, true_imp_iff, false_imp_iff, imp_self, Bool.not_false, Bool.not_true, reduceCtorEq, ab_isJ, ab_psh, ab_cats, Bool.false_eq_true, if_true, if_false, ab_shf, ab_shw, Int.le_refl, Classical.not_not, Int.zero_add, forall_const, ↓ab_itT, ↓ab_itF, ab_anT, ab_w32_id, ab_rdf_ne, ab_rdw_ne, ab_rdw_eq, ab_rdf_in, ab_td2, ab_tm2, true_or, or_true]
                  all_goals exact k
                · simp (disch := omega) only [rX9_next_56, rX9_next_57, rX9_next_60, rX9_next_61, rX9_next_64, rX9_next_83, rX9_next_84, rX9_next_87, rX9_next_88, rX9_next_91, rX9_next_92, rX9_next_94, rX9_next_97, rX9_next_98, rX9_next_101, rX9_next_102, rX9_next_105, rX9_next_106, rX9_next_108, rX9_next_118, rX9_next_119, rX9_next_122, rX9_next_123, rX9_next_126, rX9_next_127, rX9_next_129, rX9_next_132, rX9_next_133, rX9_next_136, rX9_next_137, rX9_next_140, rX9_next_141, rX9_next_143, rX9_next_153, rX9_next_154, rX9_next_157, rX9_next_158, rX9_next_161, rX9_next_162, rX9_next_164, rX9_next_167, rX9_next_168, rX9_next_169, rX9_next_172, rX9_next_175, rX9_next_176, rX9_next_179, rX9_next_180, rX9_next_183, rX9_next_184, rX9_next_186, rX9_next_189, rX9_next_190, rX9_next_191, rX9_next_194, rX9_next_197, rX9_next_198, rX9_next_199, rX9_next_202, gS_3, gP_3_0, gS_4, g2, h72, r3, e4, ne_eq, not_false_eq_true, not_true_eq_false, true_and, and_true, and_self, true_imp_iff, false_imp_iff, imp_self, Bool.not_false, Bool.not_true, reduceCtorEq, ab_isJ, ab_psh, ab_cats, Bool.false_eq_true, if_true, if_false, ab_shf, ab_shw, Int.le_refl, Classical.not_not, Int.zero_add, forall_const, ↓ab_itT, ↓ab_itF, ab_anT, ab_w32_id, ab_rdf_ne, ab_rdw_ne, ab_rdw_eq, ab_rdf_in, ab_td2, ab_tm2, true_or, or_true]
                  all_goals exact k
  have k46 : ab_Run X 70 46 (1, 0, 0) [ab_R 3] [] (ab_wr σ 3 3 s) Q := by
    clear L hQ h hO s2
    simp (disch := omega) only [rX9_next_46, rX9_next_47, rX9_next_48, rX9_next_51, rX9_next_52, rX9_next_53, gS_3, g, ab_w32_id, ne_eq, not_false_eq_true, not_true_eq_false, true_and, and_true, and_self, true_imp_iff, false_imp_iff, imp_self, Bool.not_false, Bool.not_true, reduceCtorEq, ab_isJ, ab_psh, ab_cats, Bool.false_eq_true, if_true, if_false, ab_shf, ab_shw, Int.le_refl, Classical.not_not, Int.zero_add, forall_const, ↓ab_itT, ↓ab_itF, ab_anT, ab_w32_id, ab_rdf_ne, ab_rdw_ne, ab_rdw_eq, ab_rdf_in, ab_td2, ab_tm2]
    all_goals exact fin
  have k8 := L.mpr k46
  clear L hQ h hO s2 fin k46
  simp (disch := omega) only [do_X9_next, rX9_next_0, rX9_next_1, rX9_next_2, rX9_next_5, gS_3, g, h6, ne_eq, not_false_eq_true, not_true_eq_false, true_and, and_true, and_self, true_imp_iff, false_imp_iff, imp_self, Bool.not_false, Bool.not_true, reduceCtorEq, ab_isJ, ab_psh, ab_cats, Bool.false_eq_true, if_true, if_false, ab_shf, ab_shw, Int.le_refl, Classical.not_not, Int.zero_add, forall_const, ↓ab_itT, ↓ab_itF, ab_anT, ab_w32_id, ab_rdf_ne, ab_rdw_ne, ab_rdw_eq, ab_rdf_in, ab_td2, ab_tm2]
  all_goals exact k8
def ac_PO : Int → Int → Prop := fun a f => a = 3 ∧ 2 ≤ f ∧ f ≤ 7
theorem ac_PO_pt : ∀ a f, 0 ≤ a → a ≤ 368 → 0 ≤ f → ac_PO a f → ab_pt a f = 0 := by
  intro a f h1 h2 h3 hp
  obtain ⟨rfl, q1, q2⟩ := hp
  unfold ab_pt
  rw [show (3 : Int).toNat = 3 from rfl, ac_PK9_T]
  exact ac_getD_ge (by rw [List.length_cons, List.length_nil]; omega)
theorem ac_PK9_O {a f : Int} (h : ac_PK9 a f) : ac_PO a f := by unfold ac_PK9 at h; unfold ac_PO; omega
theorem sp_open (hg : ab_Geo σ) (hT : ac_TC σ ln tp) (hb : ∀ i, -128 ≤ tp i ∧ tp i ≤ 127) (hn : 0 ≤ n ∧ n ≤ ln) (hQ : ∀ τ, ab_Same ac_PO σ τ → ac_TO τ n tp → ac_KT τ n tp (ac_kst tp n 0) → Q none τ) : ab_Do X 69 [ab_R 3, ab_I n] σ Q := by
  obtain ⟨h1, h2, h3⟩ := hT
  have s2 : ab_Same ac_PO σ (ab_wr (ab_wr σ 3 7 n) 3 6 0) := (ab_Same.refl.wr (by unfold ac_PO; omega)).wr (by unfold ac_PO; omega)
  have g2 := hg.same s2 ac_PO_pt
  have hO : ac_TO (ab_wr (ab_wr σ 3 7 n) 3 6 0) n tp := ⟨g2, by rw [ab_rdw_ne (by omega), ab_rdw_eq], by omega, fun i i1 i2 => ⟨by rw [s2.2.2 4 i (by unfold ac_PO; omega), h3 i i1 (by omega)], hb i⟩⟩
  have k : ab_Do X 70 [ab_R 3] (ab_wr (ab_wr σ 3 7 n) 3 6 0) (fun r σ' => ab_Run X 69 25 (2, 0, 0) [ab_R 3, ab_I n] (ab_psh r []) σ' Q) := by
    refine sp_next hO ab_rdw_eq (by omega) (fun τ u1 u2 => ?_)
    have k := hQ τ (s2.trans (u1.mono (fun _ _ => ac_PK9_O))) (hO.same u1) u2
    clear hQ
    simp (disch := omega) only [rX9_open_25, ne_eq, not_false_eq_true, not_true_eq_false, true_and, and_true, and_self, true_imp_iff, false_imp_iff, imp_self, Bool.not_false, Bool.not_true, reduceCtorEq, ab_isJ, ab_psh, ab_cats, Bool.false_eq_true, if_true, if_false, ab_shf, ab_shw, Int.le_refl, Classical.not_not, Int.zero_add, forall_const, ↓ab_itT, ↓ab_itF, ab_anT, ab_w32_id, ab_rdf_ne, ab_rdw_ne, ab_rdw_eq, ab_rdf_in, ab_td2, ab_tm2]
    all_goals exact k
  have e1 : (if ln < n then ln else n) = n := if_neg (by omega)
  have e2 : (if (0 : Int) < n then n else 0) = n := by split <;> omega
  clear hQ hO h3 hb
  simp (disch := omega) only [do_X9_open, rX9_open_0, rX9_open_1, rX9_open_2, rX9_open_3, rX9_open_4, rX9_open_7, rX9_open_10, rX9_open_13, rX9_open_16, rX9_open_17, rX9_open_18, rX9_open_21, rX9_open_22, gS_3, hg, g2, h1, e1, e2, ne_eq, not_false_eq_true, not_true_eq_false, true_and, and_true, and_self, true_imp_iff, false_imp_iff, imp_self, Bool.not_false, Bool.not_true, reduceCtorEq, ab_isJ, ab_psh, ab_cats, Bool.false_eq_true, if_true, if_false, ab_shf, ab_shw, Int.le_refl, Classical.not_not, Int.zero_add, forall_const, ↓ab_itT, ↓ab_itF, ab_anT, ab_w32_id, ab_rdf_ne, ab_rdw_ne, ab_rdw_eq, ab_rdf_in, ab_td2, ab_tm2]
  all_goals exact k
end
