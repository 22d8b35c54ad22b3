/-! ACTS of the reference: pull -/
section
variable {X : ab_X} {σ τ υ R : ab_S} {Q : Option ab_V → ab_S → Prop} {M b i n s na nm k o a x y m p hp q hq mv cm sd : Int} {κ : ac_K} {v w g : Int → Int} {pa pm : Int → Int → Int} {P : Int → Int → Prop} {l8 : ab_V}
theorem ma_pull_e (hg : ab_Geo R) (hv : ∀ k, 0 ≤ k → k < 18 → ab_rd R 357 k = if k = 17 then sd else v k) (hb : 0 ≤ b ∧ b < 5) (hpp : 0 ≤ p ∧ p < 6) (hqq : 0 ≤ q ∧ q < 6) (hQ : ∀ τ, ab_Same (fun a _ => a = 357) R τ → (∀ k, 0 ≤ k → k < 18 → ab_rd τ 357 k = ac_pv v b p q cm sd k) → Q (some (ab_I cm)) (ab_wr (ab_wr τ 355 1 0) 355 2 (-1))) : ab_Run X 280 132 (5, 0, 0) [ab_R 355, ab_I b, ab_I p, ab_I hp, ab_I q, ab_I hq, ab_I mv, ab_I 0, l8] [ab_I cm] R Q := by
  have e10 : ab_rd R 357 10 = v 10 := by rw [hv 10 (by omega) (by omega), if_neg (by omega)]
  have ep : ab_rd R 357 (11 + p) = v (11 + p) := by rw [hv _ (by omega) (by omega), if_neg (by omega)]
  have eq : ab_rd R 357 (11 + q) = v (11 + q) := by rw [hv _ (by omega) (by omega), if_neg (by omega)]
  have w10 : ab_Same (fun a _ => a = 357) R (ab_wr R 357 10 (ac_or (v 10) (ac_sl b))) := ab_Same.refl.wr rfl
  have gt : ∀ τ, ab_Same (fun a _ => a = 357) R τ → ab_Geo τ := fun τ u => hg.same u (fun a f a1 a2 a3 u => ac_PY_pt a f a1 a2 a3 (by unfold ac_PY; omega))
  have v10 : ∀ k, 0 ≤ k → k < 18 → ab_rd (ab_wr R 357 10 (ac_or (v 10) (ac_sl b))) 357 k = if k = 17 then sd else if k = 10 then ac_or (v 10) (ac_sl b) else v k := fun k k1 k2 => by
    by_cases z : k = 10
    · rw [z, ab_rdw_eq, if_neg (by omega), if_pos rfl]
    · rw [ab_rdw_ne (by omega), hv k k1 k2, if_neg z]
  by_cases y3 : cm = 3
  · have key := hQ R ab_Same.refl (fun k k1 k2 => by
      rw [hv k k1 k2]
      unfold ac_pv
      rw [if_pos y3, if_neg (show ¬ (cm = 0 ∧ k = 11 + p ∨ cm = 1 ∧ k = 11 + q) by omega)]
      by_cases z : k = 10
      · rw [if_pos z, z]
      · rw [if_neg z])
    have c6 := fun v Q' => sp_good (X := X) (Q := Q') (v := v) hg
    clear hQ hv v10
    simp (disch := omega) only [rX13_pull_132, rX13_pull_134, rX13_pull_136, rX13_pull_137, rX13_pull_140, rX13_pull_141, rX13_pull_144, rX13_pull_146, rX13_pull_147, rX13_pull_148, rX13_pull_149, rX13_pull_150, rX13_pull_151, rX13_pull_152, rX13_pull_153, rX13_pull_155, rX13_pull_158, rX13_pull_159, rX13_pull_162, rX13_pull_164, rX13_pull_165, rX13_pull_166, rX13_pull_167, rX13_pull_168, rX13_pull_169, rX13_pull_170, rX13_pull_171, rX13_pull_174, rX13_pull_176, rX13_pull_177, rX13_pull_180, rX13_pull_181, rX13_pull_184, rX13_pull_186, rX13_pull_188, rX13_pull_189, rX13_pull_190, rX13_pull_191, rX13_pull_192, rX13_pull_193, rX13_pull_194, rX13_pull_195, rX13_pull_197, rX13_pull_200, c6, gS_355, hg, ne_eq, not_false_eq_true, not_true_eq_false, true_and, and_true, and_self, true_imp_iff, false_imp_iff, imp_self, Bool.not_false, Bool.not_true, reduceCtorEq, ab_isJ, ab_psh, ab_cats, Bool.false_eq_true, if_true, if_false, ab_shf, ab_shw, Int.le_refl, Classical.not_not, Int.zero_add, forall_const, ↓ab_itT, ↓ab_itF, ab_anT, ab_w32_id, ab_rdf_ne, ab_rdw_ne, ab_rdw_eq, ab_rdf_in, ab_td2, ab_tm2, or_true, y3]
    rw [y3] at key
    exact key
  · by_cases y0 : cm = 0
    · have w2 : ab_Same (fun a _ => a = 357) R (ab_wr (ab_wr R 357 10 (ac_or (v 10) (ac_sl b))) 357 (11 + p) (ab_w32 (v (11 + p) + 1))) := w10.wr rfl
      have key := hQ _ w2 (fun k k1 k2 => by
        unfold ac_pv
        by_cases z : k = 11 + p
        · rw [z, ab_rdw_eq, if_neg (by omega), if_neg (by omega), if_pos (Or.inl ⟨y0, rfl⟩)]
        · rw [ab_rdw_ne (by omega), v10 k k1 k2, if_neg y3, if_neg (show ¬ (cm = 0 ∧ k = 11 + p ∨ cm = 1 ∧ k = 11 + q) by omega)])
      have c6 := fun v Q' => sp_good (X := X) (Q := Q') (v := v) (gt _ w2)
      clear hQ hv v10 w2 w10 gt
      simp (disch := omega) only [rX13_pull_132, rX13_pull_134, rX13_pull_136, rX13_pull_137, rX13_pull_140, rX13_pull_141, rX13_pull_144, rX13_pull_146, rX13_pull_147, rX13_pull_148, rX13_pull_149, rX13_pull_150, rX13_pull_151, rX13_pull_152, rX13_pull_153, rX13_pull_155, rX13_pull_158, rX13_pull_159, rX13_pull_162, rX13_pull_164, rX13_pull_165, rX13_pull_166, rX13_pull_167, rX13_pull_168, rX13_pull_169, rX13_pull_170, rX13_pull_171, rX13_pull_174, rX13_pull_176, rX13_pull_177, rX13_pull_180, rX13_pull_181, rX13_pull_184, rX13_pull_186, rX13_pull_188, rX13_pull_189, rX13_pull_190, rX13_pull_191, rX13_pull_192, rX13_pull_193, rX13_pull_194, rX13_pull_195, rX13_pull_197, rX13_pull_200, gS_355, gP_355_16, gS_357, hg, e10, ep, c6, ac_fo, ac_fl1, ab_w32_id, ne_eq, not_false_eq_true, not_true_eq_false, true_and, and_true, and_self, true_imp_iff, false_imp_iff, imp_self, Bool.not_false, Bool.not_true, reduceCtorEq, ab_isJ, ab_psh, ab_cats, Bool.false_eq_true, if_true, if_false, ab_shf, ab_shw, Int.le_refl, Classical.not_not, Int.zero_add, forall_const, ↓ab_itT, ↓ab_itF, ab_anT, ab_w32_id, ab_rdf_ne, ab_rdw_ne, ab_rdw_eq, ab_rdf_in, ab_td2, ab_tm2, or_true]
      all_goals exact key
    · by_cases y1 : cm = 1
      · have w2 : ab_Same (fun a _ => a = 357) R (ab_wr (ab_wr R 357 10 (ac_or (v 10) (ac_sl b))) 357 (11 + q) (ab_w32 (v (11 + q) + 1))) := w10.wr rfl
        have key := hQ _ w2 (fun k k1 k2 => by
          unfold ac_pv
          by_cases z : k = 11 + q
          · rw [z, ab_rdw_eq, if_neg (by omega), if_neg (by omega), if_pos (Or.inr ⟨y1, rfl⟩)]
          · rw [ab_rdw_ne (by omega), v10 k k1 k2, if_neg y3, if_neg (show ¬ (cm = 0 ∧ k = 11 + p ∨ cm = 1 ∧ k = 11 + q) by omega)])
        have c6 := fun v Q' => sp_good (X := X) (Q := Q') (v := v) (gt _ w2)
        clear hQ hv v10 w2 w10 gt
        simp (disch := omega) only [rX13_pull_132, rX13_pull_134, rX13_pull_136, rX13_pull_137, rX13_pull_140, rX13_pull_141, rX13_pull_144, rX13_pull_146, rX13_pull_147, rX13_pull_148, rX13_pull_149, rX13_pull_150, rX13_pull_151, rX13_pull_152, rX13_pull_153, rX13_pull_155, rX13_pull_158, rX13_pull_159, rX13_pull_162, rX13_pull_164, rX13_pull_165, rX13_pull_166, rX13_pull_167, rX13_pull_168, rX13_pull_169, rX13_pull_170, rX13_pull_171, rX13_pull_174, rX13_pull_176, rX13_pull_177, rX13_pull_180, rX13_pull_181, rX13_pull_184, rX13_pull_186, rX13_pull_188, rX13_pull_189, rX13_pull_190, rX13_pull_191, rX13_pull_192, rX13_pull_193, rX13_pull_194, rX13_pull_195, rX13_pull_197, rX13_pull_200, gS_355, gP_355_16, gS_357, hg, e10, eq, c6, ac_fo, ac_fl1, ab_w32_id, ne_eq, not_false_eq_true, not_true_eq_false, true_and, and_true, and_self, true_imp_iff, false_imp_iff, imp_self, Bool.not_false, Bool.not_true, reduceCtorEq, ab_isJ, ab_psh, ab_cats, Bool.false_eq_true, if_true, if_false, ab_shf, ab_shw, Int.le_refl, Classical.not_not, Int.zero_add, forall_const, ↓ab_itT, ↓ab_itF, ab_anT, ab_w32_id, ab_rdf_ne, ab_rdw_ne, ab_rdw_eq, ab_rdf_in, ab_td2, ab_tm2, or_true]
        all_goals exact key
      · have key := hQ _ w10 (fun k k1 k2 => by
          unfold ac_pv
          rw [v10 k k1 k2, if_neg y3, if_neg (show ¬ (cm = 0 ∧ k = 11 + p ∨ cm = 1 ∧ k = 11 + q) by omega)])
        have c6 := fun v Q' => sp_good (X := X) (Q := Q') (v := v) (gt _ w10)
        clear hQ hv v10 w10 gt
        simp (disch := omega) only [rX13_pull_132, rX13_pull_134, rX13_pull_136, rX13_pull_137, rX13_pull_140, rX13_pull_141, rX13_pull_144, rX13_pull_146, rX13_pull_147, rX13_pull_148, rX13_pull_149, rX13_pull_150, rX13_pull_151, rX13_pull_152, rX13_pull_153, rX13_pull_155, rX13_pull_158, rX13_pull_159, rX13_pull_162, rX13_pull_164, rX13_pull_165, rX13_pull_166, rX13_pull_167, rX13_pull_168, rX13_pull_169, rX13_pull_170, rX13_pull_171, rX13_pull_174, rX13_pull_176, rX13_pull_177, rX13_pull_180, rX13_pull_181, rX13_pull_184, rX13_pull_186, rX13_pull_188, rX13_pull_189, rX13_pull_190, rX13_pull_191, rX13_pull_192, rX13_pull_193, rX13_pull_194, rX13_pull_195, rX13_pull_197, rX13_pull_200, gS_355, gP_355_16, gS_357, hg, e10, c6, ac_fo, ac_fl1, ab_w32_id, ne_eq, not_false_eq_true, not_true_eq_false, true_and, and_true, and_self, true_imp_iff, false_imp_iff, imp_self, Bool.not_false, Bool.not_true, reduceCtorEq, ab_isJ, ab_psh, ab_cats, Bool.false_eq_true, if_true, if_false, ab_shf, ab_shw, Int.le_refl, Classical.not_not, Int.zero_add, forall_const, ↓ab_itT, ↓ab_itF, ab_anT, ab_w32_id, ab_rdf_ne, ab_rdw_ne, ab_rdw_eq, ab_rdf_in, ab_td2, ab_tm2, or_true]
        all_goals exact key
theorem ma_pull_t (h : ac_MI τ M κ) (hv : ac_MV τ κ v) (hb : ac_isB κ b) (hu : ac_isU κ p q) (hw : ac_isW κ b hp hq mv) (hQ : ∀ υ, ab_Same (fun a f => ac_PM a f ∨ a = 357) τ υ → (∀ k, 0 ≤ k → k < 18 → ab_rd υ 357 k = ac_pv v b p q (ac_CF κ (v b) (v (5 + b)) b p hp q hq mv (v 17)) (ac_fsd (κ 4 0) (v 17)) k) → Q (some (ab_I (ac_CF κ (v b) (v (5 + b)) b p hp q hq mv (v 17)))) (ab_wr (ab_wr υ 355 1 0) 355 2 (-1))) : ab_Run X 280 89 (5, 0, 0) [ab_R 355, ab_I b, ab_I p, ab_I hp, ab_I q, ab_I hq, ab_I mv, ab_I 0, l8] [] τ Q := by
  have g := h.1
  have hk := h.2.2.2.2
  have b2 := hb.2
  have b1 := hb.1
  have n5 := hk.2.1.1.2
  have n6 := hk.2.1.2.1.2
  have hd := hv.2.1 b hb.1 hb.2
  have e17 := hv.1 17 (by omega) (by omega)
  have s1 : ab_Same ac_PM τ (ab_wr τ 355 35 (v 17)) := ab_Same.refl.wr (by unfold ac_PM; omega)
  have h1 := h.same s1
  have c4 := fun Q' => mq_lays (X := X) (Q := Q') (hp := hp) (hq := hq) (mv := mv) h1 ((hv.same s1).1 (5 + b) (by omega) (by omega)) hb hu.1 hu.2.1
  have nb0 := ac_n_b hk hb (Or.inl rfl)
  have nb1 := ac_n_b hk hb (Or.inr rfl)
  have u1 : hp ≤ ac_n κ b 0 := hw.1.2
  have u2 : hq ≤ ac_n κ b 1 := hw.2.1.2
  have u3 := hw.1.1
  have u4 := hw.2.1.1
  have sL := ac_ly_same (σ := ab_wr τ 355 35 (v 17)) (κ := κ) (d := v (5 + b)) (b := b) (p := p) (hp := hp) (q := q) (hq := hq) (mv := mv)
  have mL := ac_ly_ML (σ := ab_wr τ 355 35 (v 17)) (κ := κ) (d := v (5 + b)) (b := b) (p := p) (hp := hp) (q := q) (hq := hq) (mv := mv)
  have l35 : ab_rd (ac_ly (ab_wr τ 355 35 (v 17)) κ (v (5 + b)) b p hp q hq mv) 355 35 = v 17 := by
    rw [sL.2.2 355 35 (by unfold ac_PL; omega), ab_rdw_eq]
  have sL' := s1.trans (sL.mono (fun _ _ => ac_PL_PM))
  generalize ac_ly (ab_wr τ 355 35 (v 17)) κ (v (5 + b)) b p hp q hq mv = ρ at c4 mL l35 sL'
  clear sL
  have hIρ := h.same sL'
  have gρ := hIρ.1
  have tail : ab_Do X 272 [ab_R 355] ρ (fun r σ' => ab_Run X 280 117 (5, 0, 0) [ab_R 355, ab_I b, ab_I p, ab_I hp, ab_I q, ab_I hq, ab_I mv, ab_I 0, l8] (ab_psh r []) σ' Q) := by
    refine mq_fbd hIρ hb mL.1 l35 hv.2.2.2 (fun ω fa ft hsω hfa hft er0 er1 h35ω => ?_)
    have sW := sL'.trans (hsω.mono (fun _ _ => ac_PF_PM))
    have hIω := h.same sW
    have gω := hIω.1
    have mLω := mL.same hsω (fun a f u => by unfold ac_PF at u; omega)
    have s17 : ab_Same ac_PY ω (ab_wr ω 357 17 (ac_fsd (κ 4 0) (v 17))) := ab_Same.refl.wr (Or.inr (Or.inr (by omega)))
    have hI17 := hIω.sameY s17
    have g17 := hI17.1
    have mL17 : ac_ML (ab_wr ω 357 17 (ac_fsd (κ 4 0) (v 17))) κ (v (5 + b)) b p hp q hq mv := by
      obtain ⟨a1, a2, a3, a4, a5, a6, a7, a8⟩ := mLω
      refine ⟨?_, ?_, ?_, ?_, ?_, ?_, ?_, ?_⟩
      all_goals rw [ab_rdw_ne (by omega)]; assumption
    have vω : ∀ k, 0 ≤ k → k < 18 → ab_rd (ab_wr ω 357 17 (ac_fsd (κ 4 0) (v 17))) 357 k = if k = 17 then ac_fsd (κ 4 0) (v 17) else v k := fun k k1 k2 => by
      by_cases z : k = 17
      · rw [z, ab_rdw_eq, if_pos rfl]
      · rw [ab_rdw_ne (by omega), if_neg z, sW.2.2 357 k (by unfold ac_PM; omega), hv.1 k k1 k2]
    have c5 := fun Q' => mq_comes (X := X) (Q := Q') (kd := v b) (fa := fa) (ft := ft) hI17 mL17 ⟨hb, hu.1, hu.2.1, hd.2, by omega, by omega⟩ (by rw [ab_rdw_ne (by omega), hfa]) (by rw [ab_rdw_ne (by omega), hft]) (by rw [vω b (by omega) (by omega), if_neg (by omega)])
    rw [er0, er1] at c5
    rw [show ac_C κ (v b) (v (5 + b)) b p hp q hq mv (ac_r0 (ac_n κ b 0) (ac_fp (κ 4 0) (ac_n κ b 0 + ac_n κ b 1) (v 17))) (ac_r1 (ac_n κ b 0) (ac_fp (κ 4 0) (ac_n κ b 0 + ac_n κ b 1) (v 17))) = ac_CF κ (v b) (v (5 + b)) b p hp q hq mv (v 17) from rfl] at c5
    have sC0 := fun w0 w1 => ac_cs_same (σ := ab_wr ω 357 17 (ac_fsd (κ 4 0) (v 17))) (cc := ac_CF κ (v b) (v (5 + b)) b p hp q hq mv (v 17)) (w0 := w0) (w1 := w1)
    generalize ac_W (ac_N κ p q hp p (ac_m0 mv)) _ _ = w0 at c5
    generalize ac_W (ac_N κ p q hq q (ac_m1 mv)) _ _ = w1 at c5
    have sC := sC0 w0 w1
    clear sC0
    generalize ac_cs (ab_wr ω 357 17 (ac_fsd (κ 4 0) (v 17))) _ _ _ = R at c5 sC
    generalize ac_CF κ (v b) (v (5 + b)) b p hp q hq mv (v 17) = cm at *
    have hIR := hI17.same (sC.mono (fun _ _ => ac_PB_PM))
    have sW' : ab_Same (fun a f => ac_PM a f ∨ a = 357) τ ω := sW.mono (fun _ _ u => Or.inl u)
    have sR : ab_Same (fun a f => ac_PM a f ∨ a = 357) τ R := (sW'.wr (Or.inr rfl)).trans (sC.mono (fun _ _ u => Or.inl (ac_PB_PM u)))
    have key := ma_pull_e (X := X) (Q := Q) (v := v) (cm := cm) (sd := ac_fsd (κ 4 0) (v 17)) (hp := hp) (hq := hq) (mv := mv) (l8 := l8) hIR.1 (fun k k1 k2 => by rw [sC.2.2 357 k (by unfold ac_PB; omega), vω k k1 k2]) ⟨b1, by omega⟩ ⟨hu.1.1, by have := hu.1.2; omega⟩ ⟨hu.2.1.1, by have := hu.2.1.2; omega⟩ (fun υ hsu hvu => hQ υ (sR.trans (hsu.mono (fun _ _ u => Or.inr u))) hvu)
    clear hQ sR sC vω mL17 s17 mLω mL hIR hIω hI17 hIρ h1 sW sL' hsω
    simp (disch := omega) only [rX13_pull_117, rX13_pull_118, rX13_pull_121, rX13_pull_123, rX13_pull_124, rX13_pull_127, rX13_pull_128, rX13_pull_129, gS_355, gP_355_16, gS_357, gω, g17, h35ω, c5, ne_eq, not_false_eq_true, not_true_eq_false, true_and, and_true, and_self, true_imp_iff, false_imp_iff, imp_self, Bool.not_false, Bool.not_true, reduceCtorEq, ab_isJ, ab_psh, ab_cats, Bool.false_eq_true, if_true, if_false, ab_shf, ab_shw, Int.le_refl, Classical.not_not, Int.zero_add, forall_const, ↓ab_itT, ↓ab_itF, ab_anT, ab_w32_id, ab_rdf_ne, ab_rdw_ne, ab_rdw_eq, ab_rdf_in, ab_td2, ab_tm2]
    all_goals exact key
  clear hQ mL hIρ h1 sL' hv
  simp (disch := omega) only [rX13_pull_89, rX13_pull_90, rX13_pull_91, rX13_pull_94, rX13_pull_96, rX13_pull_97, rX13_pull_100, rX13_pull_101, rX13_pull_102, rX13_pull_103, rX13_pull_104, rX13_pull_106, rX13_pull_108, rX13_pull_110, rX13_pull_113, rX13_pull_114, gS_355, gP_355_16, gS_357, g, gρ, e17, c4, ne_eq, not_false_eq_true, not_true_eq_false, true_and, and_true, and_self, true_imp_iff, false_imp_iff, imp_self, Bool.not_false, Bool.not_true, reduceCtorEq, ab_isJ, ab_psh, ab_cats, Bool.false_eq_true, if_true, if_false, ab_shf, ab_shw, Int.le_refl, Classical.not_not, Int.zero_add, forall_const, ↓ab_itT, ↓ab_itF, ab_anT, ab_w32_id, ab_rdf_ne, ab_rdw_ne, ab_rdw_eq, ab_rdf_in, ab_td2, ab_tm2]
  all_goals exact tail
theorem ma_pull (h : ac_MS σ κ v na pa nm pm) (hQ1 : ac_plT κ v b p hp q hq mv ≠ 0 → ∀ τ, ab_Same ac_PM σ τ → ab_rd τ 355 1 = ac_plT κ v b p hp q hq mv → ab_rd τ 355 2 = -1 → Q (some (ab_I (-1))) τ) (hQ0 : ac_plT κ v b p hp q hq mv = 0 → ∀ τ, ab_Same ac_PY σ τ → ab_rd τ 355 1 = 0 → ab_rd τ 355 2 = -1 → ac_MS τ κ (ac_pv v b p q (ac_CF κ (v b) (v (5 + b)) b p hp q hq mv (v 17)) (ac_fsd (κ 4 0) (v 17))) (ac_kna na) (ac_kpa na pa v) nm pm → Q (some (ab_I (ac_CF κ (v b) (v (5 + b)) b p hp q hq mv (v 17)))) τ) : ab_Do X 280 [ab_R 355, ab_I b, ab_I p, ab_I hp, ab_I q, ab_I hq, ab_I mv] σ Q := by
  have hN := h.1
  have h' := hN.same (τ := ab_wr σ 355 0 0) ac_mq0
  have g0 := hN.1
  have g := h'.1
  have hm0 := h.same (τ := ab_wr σ 355 0 0) ac_mq0
  have cin := fun x lo hi Q' => mq_in (X := X) (σ := ab_wr σ 355 0 0) (Q := Q') (x := x) (lo := lo) (hi := hi)
  have cd := fun v Q' => sp_denied (X := X) (Q := Q') (v := v) g
  have cr := fun v Q' => sp_refused (X := X) (Q := Q') (v := v) g
  have c1 := fun b Q' => mq_isBone (X := X) (Q := Q') (b := b) h'
  have c2 := fun p q Q' => mq_isPair (X := X) (Q := Q') (p := p) (q := q) h'
  have c0 := fun b hp hq mv Q' => mq_rp0 (X := X) (σ := ab_wr σ 355 0 0) (Q := Q') (b := b) (hp := hp) (hq := hq) (mv := mv)
  by_cases h1 : ac_isB κ b
  · by_cases h1u : ac_isU κ p q
    · obtain ⟨M, hm⟩ := h'.mb h1
      have c3 := fun Q' => mq_rp1 (X := X) (Q := Q') (hp := hp) (hq := hq) (mv := mv) hm h1
      by_cases h2 : ac_isW κ b hp hq mv
      · have eW : ac_wT κ b p hp q hq mv = 0 := by unfold ac_wT; rw [if_pos ⟨h1, h1u⟩, if_pos h2]
        rw [if_pos h2] at c3
        have b1 := h1.1
        have b2 := h1.2
        have n5 := hm.2.2.2.2.2.1.1.2
        have h3 := hm.2.1
        have sM := hm.2.2.1.2.1
        have p12 := mP_12 hm.2.2.1
        have z12 := mS_12 hm.2.2.1
        have k12 := kM_12 hm.2.2.2.1 b1 (by omega)
        have e10 := hm0.2.1.1 10 (by omega) (by omega)
        have vb10 := h.2.1.2.2.1
        have cb := fun Q' => mq_bit (X := X) (σ := ab_wr σ 355 0 0) (Q := Q') (x := v 10) (b := b) (by omega) (by omega)
        have b01 := ac_bit01 (x := v 10) (b := b)
        by_cases hz : κ 12 b = 1 ∨ ac_bit (v 10) b = 1
        · have eT : ac_plT κ v b p hp q hq mv = 5 := (by unfold ac_plT; rw [if_pos eW, if_pos hz])
          have hq' := hQ1 (by rw [eT]; decide) _ (ac_end1 ac_mq0).1 (by rw [eT]; exact (ac_end1 ac_mq0).2.1) (ac_end1 ac_mq0).2.2
          clear hQ0 hQ1
          by_cases hz1 : κ 12 b = 1
          · simp (disch := omega) only [do_X13_pull, rX13_pull_0, rX13_pull_1, rX13_pull_2, rX13_pull_5, rX13_pull_6, rX13_pull_7, rX13_pull_8, rX13_pull_11, rX13_pull_14, rX13_pull_15, rX13_pull_16, rX13_pull_18, rX13_pull_21, rX13_pull_24, rX13_pull_25, rX13_pull_28, rX13_pull_29, rX13_pull_30, rX13_pull_31, rX13_pull_33, rX13_pull_35, rX13_pull_38, rX13_pull_40, rX13_pull_42, rX13_pull_45, rX13_pull_46, rX13_pull_48, rX13_pull_51, rX13_pull_52, rX13_pull_53, rX13_pull_56, rX13_pull_59, rX13_pull_60, rX13_pull_61, rX13_pull_62, rX13_pull_65, rX13_pull_66, rX13_pull_69, rX13_pull_71, rX13_pull_72, rX13_pull_73, rX13_pull_76, rX13_pull_79, rX13_pull_80, rX13_pull_81, rX13_pull_84, gS_355, g0, g, c1, c2, if_pos h1, if_pos h1u, c3, h3, sM, p12, z12, k12, cr, ne_eq, not_false_eq_true, not_true_eq_false, true_and, and_true, and_self, true_imp_iff, false_imp_iff, imp_self, Bool.not_false, Bool.not_true, reduceCtorEq, ab_isJ, ab_psh, ab_cats, Bool.false_eq_true, if_true, if_false, ab_shf, ab_shw, Int.le_refl, Classical.not_not, Int.zero_add, forall_const, ↓ab_itT, ↓ab_itF, ab_anT, or_true, true_or]
            all_goals exact hq'
          · have z : ac_bit (v 10) b = 1 := by omega
            rw [z] at cb
            simp (disch := omega) only [do_X13_pull, rX13_pull_0, rX13_pull_1, rX13_pull_2, rX13_pull_5, rX13_pull_6, rX13_pull_7, rX13_pull_8, rX13_pull_11, rX13_pull_14, rX13_pull_15, rX13_pull_16, rX13_pull_18, rX13_pull_21, rX13_pull_24, rX13_pull_25, rX13_pull_28, rX13_pull_29, rX13_pull_30, rX13_pull_31, rX13_pull_33, rX13_pull_35, rX13_pull_38, rX13_pull_40, rX13_pull_42, rX13_pull_45, rX13_pull_46, rX13_pull_48, rX13_pull_51, rX13_pull_52, rX13_pull_53, rX13_pull_56, rX13_pull_59, rX13_pull_60, rX13_pull_61, rX13_pull_62, rX13_pull_65, rX13_pull_66, rX13_pull_69, rX13_pull_71, rX13_pull_72, rX13_pull_73, rX13_pull_76, rX13_pull_79, rX13_pull_80, rX13_pull_81, rX13_pull_84, gS_355, gP_355_16, gS_357, g0, g, c1, c2, if_pos h1, if_pos h1u, c3, h3, sM, p12, z12, k12, e10, cb, cr, ne_eq, not_false_eq_true, not_true_eq_false, true_and, and_true, and_self, true_imp_iff, false_imp_iff, imp_self, Bool.not_false, Bool.not_true, reduceCtorEq, ab_isJ, ab_psh, ab_cats, Bool.false_eq_true, if_true, if_false, ab_shf, ab_shw, Int.le_refl, Classical.not_not, Int.zero_add, forall_const, ↓ab_itT, ↓ab_itF, ab_anT, or_true, true_or]
            all_goals exact hq'
        · have eT : ac_plT κ v b p hp q hq mv = 0 := by unfold ac_plT; rw [if_pos eW, if_neg hz]
          have z : ac_bit (v 10) b = 0 := by omega
          have hz1 : ¬ κ 12 b = 1 := by omega
          rw [z] at cb
          simp (disch := omega) only [do_X13_pull, rX13_pull_0, rX13_pull_1, rX13_pull_2, rX13_pull_5, rX13_pull_6, rX13_pull_7, rX13_pull_8, rX13_pull_11, rX13_pull_14, rX13_pull_15, rX13_pull_16, rX13_pull_18, rX13_pull_21, rX13_pull_24, rX13_pull_25, rX13_pull_28, rX13_pull_29, rX13_pull_30, rX13_pull_31, rX13_pull_33, rX13_pull_35, rX13_pull_38, rX13_pull_40, rX13_pull_42, rX13_pull_45, rX13_pull_46, rX13_pull_48, rX13_pull_51, rX13_pull_52, rX13_pull_53, rX13_pull_56, rX13_pull_59, rX13_pull_60, rX13_pull_61, rX13_pull_62, rX13_pull_65, rX13_pull_66, rX13_pull_69, rX13_pull_71, rX13_pull_72, rX13_pull_73, rX13_pull_76, rX13_pull_79, rX13_pull_80, rX13_pull_81, rX13_pull_84, rX13_pull_85, rX13_pull_86, gS_355, gP_355_16, gS_357, g0, g, c1, c2, if_pos h1, if_pos h1u, c3, h3, sM, p12, z12, k12, e10, cb, ne_eq, not_false_eq_true, not_true_eq_false, true_and, and_true, and_self, true_imp_iff, false_imp_iff, imp_self, Bool.not_false, Bool.not_true, reduceCtorEq, ab_isJ, ab_psh, ab_cats, Bool.false_eq_true, if_true, if_false, ab_shf, ab_shw, Int.le_refl, Classical.not_not, Int.zero_add, forall_const, ↓ab_itT, ↓ab_itF, ab_anT, or_true, true_or]
          refine mq_keeps g hm0.2.2 hm0.2.1.1 (fun τ hs hH => ?_)
          have sX : ab_Same ac_PY σ τ := ac_mq0.my.trans (hs.mono ac_kpY)
          have hI := hm.sameY (hs.mono ac_kpY)
          have hv' : ac_MV τ κ v := ⟨fun k k1 k2 => by rw [hs.2.2 357 k (by omega), hm0.2.1.1 k k1 k2], h.2.1.2⟩
          refine ma_pull_t hI hv' h1 h1u h2 (fun υ hsu hvu => ?_)
          have sU : ab_Same ac_PY σ υ := sX.trans (hsu.mono (fun a f u => by
            rcases u with u | u
            · exact Or.inl u
            · exact Or.inr (Or.inr (by omega))))
          exact hQ0 eT _ (ac_endY sU).1 (ac_endY sU).2.1 (ac_endY sU).2.2 (h.act (ac_endY sU).1 (fun k k1 k2 => by rw [ab_rdw_ne (by omega), ab_rdw_ne (by omega), hvu k k1 k2]) (ac_pv_VB h.2.1.2 h1 n5 h1u.1.1 h1u.2.1.1 ac_fsd_b) (hH.sameV (hsu.trans (ac_end2.mono (fun _ _ u => Or.inl u)))))
      · have eW : ac_wT κ b p hp q hq mv = 2 := by unfold ac_wT; rw [if_pos ⟨h1, h1u⟩, if_neg h2]
        have eT : ac_plT κ v b p hp q hq mv = 2 := (by unfold ac_plT; rw [if_neg (by rw [eW]; decide), eW])
        have hq' := hQ1 (by rw [eT]; decide) _ (ac_end1 ac_mq0).1 (by rw [eT]; exact (ac_end1 ac_mq0).2.1) (ac_end1 ac_mq0).2.2
        clear hQ0 hQ1
        simp (disch := omega) only [do_X13_pull, rX13_pull_0, rX13_pull_1, rX13_pull_2, rX13_pull_5, rX13_pull_6, rX13_pull_7, rX13_pull_8, rX13_pull_11, rX13_pull_14, rX13_pull_15, rX13_pull_16, rX13_pull_18, rX13_pull_21, rX13_pull_24, rX13_pull_25, rX13_pull_28, rX13_pull_29, rX13_pull_30, rX13_pull_31, rX13_pull_33, rX13_pull_35, rX13_pull_38, rX13_pull_40, rX13_pull_42, rX13_pull_45, rX13_pull_46, rX13_pull_48, rX13_pull_51, rX13_pull_52, rX13_pull_53, rX13_pull_56, rX13_pull_59, rX13_pull_60, rX13_pull_61, rX13_pull_62, rX13_pull_65, rX13_pull_66, rX13_pull_69, rX13_pull_71, rX13_pull_72, rX13_pull_73, rX13_pull_76, rX13_pull_79, rX13_pull_80, rX13_pull_81, rX13_pull_84, gS_355, g0, g, c1, c2, if_pos h1, if_pos h1u, c3, if_neg h2, cr, ne_eq, not_false_eq_true, not_true_eq_false, true_and, and_true, and_self, true_imp_iff, false_imp_iff, imp_self, Bool.not_false, Bool.not_true, reduceCtorEq, ab_isJ, ab_psh, ab_cats, Bool.false_eq_true, if_true, if_false, ab_shf, ab_shw, Int.le_refl, Classical.not_not, Int.zero_add, forall_const, ↓ab_itT, ↓ab_itF, ab_anT, or_true, true_or]
        all_goals exact hq'
    · have eW : ac_wT κ b p hp q hq mv = 1 := by unfold ac_wT; rw [if_neg (fun w => h1u w.2)]
      have eT : ac_plT κ v b p hp q hq mv = 1 := (by unfold ac_plT; rw [if_neg (by rw [eW]; decide), eW])
      have hq' := hQ1 (by rw [eT]; decide) _ (ac_end1 ac_mq0).1 (by rw [eT]; exact (ac_end1 ac_mq0).2.1) (ac_end1 ac_mq0).2.2
      clear hQ0 hQ1
      simp (disch := omega) only [do_X13_pull, rX13_pull_0, rX13_pull_1, rX13_pull_2, rX13_pull_5, rX13_pull_6, rX13_pull_7, rX13_pull_8, rX13_pull_11, rX13_pull_14, rX13_pull_15, rX13_pull_16, rX13_pull_18, rX13_pull_21, rX13_pull_24, rX13_pull_25, rX13_pull_28, rX13_pull_29, rX13_pull_30, rX13_pull_31, rX13_pull_33, rX13_pull_35, rX13_pull_38, rX13_pull_40, rX13_pull_42, rX13_pull_45, rX13_pull_46, rX13_pull_48, rX13_pull_51, rX13_pull_52, rX13_pull_53, rX13_pull_56, rX13_pull_59, rX13_pull_60, rX13_pull_61, rX13_pull_62, rX13_pull_65, rX13_pull_66, rX13_pull_69, rX13_pull_71, rX13_pull_72, rX13_pull_73, rX13_pull_76, rX13_pull_79, rX13_pull_80, rX13_pull_81, rX13_pull_84, gS_355, g0, g, c1, c2, if_pos h1, if_neg h1u, c0, cr, ne_eq, not_false_eq_true, not_true_eq_false, true_and, and_true, and_self, true_imp_iff, false_imp_iff, imp_self, Bool.not_false, Bool.not_true, reduceCtorEq, ab_isJ, ab_psh, ab_cats, Bool.false_eq_true, if_true, if_false, ab_shf, ab_shw, Int.le_refl, Classical.not_not, Int.zero_add, forall_const, ↓ab_itT, ↓ab_itF, ab_anT, or_true, true_or]
      all_goals exact hq'
  · have eW : ac_wT κ b p hp q hq mv = 1 := by unfold ac_wT; rw [if_neg (fun w => h1 w.1)]
    have eT : ac_plT κ v b p hp q hq mv = 1 := (by unfold ac_plT; rw [if_neg (by rw [eW]; decide), eW])
    have hq' := hQ1 (by rw [eT]; decide) _ (ac_end1 ac_mq0).1 (by rw [eT]; exact (ac_end1 ac_mq0).2.1) (ac_end1 ac_mq0).2.2
    clear hQ0 hQ1
    simp (disch := omega) only [do_X13_pull, rX13_pull_0, rX13_pull_1, rX13_pull_2, rX13_pull_5, rX13_pull_6, rX13_pull_7, rX13_pull_8, rX13_pull_11, rX13_pull_14, rX13_pull_15, rX13_pull_16, rX13_pull_18, rX13_pull_21, rX13_pull_24, rX13_pull_25, rX13_pull_28, rX13_pull_29, rX13_pull_30, rX13_pull_31, rX13_pull_33, rX13_pull_35, rX13_pull_38, rX13_pull_40, rX13_pull_42, rX13_pull_45, rX13_pull_46, rX13_pull_48, rX13_pull_51, rX13_pull_52, rX13_pull_53, rX13_pull_56, rX13_pull_59, rX13_pull_60, rX13_pull_61, rX13_pull_62, rX13_pull_65, rX13_pull_66, rX13_pull_69, rX13_pull_71, rX13_pull_72, rX13_pull_73, rX13_pull_76, rX13_pull_79, rX13_pull_80, rX13_pull_81, rX13_pull_84, gS_355, g0, g, c1, if_neg h1, c0, cr, ne_eq, not_false_eq_true, not_true_eq_false, true_and, and_true, and_self, true_imp_iff, false_imp_iff, imp_self, Bool.not_false, Bool.not_true, reduceCtorEq, ab_isJ, ab_psh, ab_cats, Bool.false_eq_true, if_true, if_false, ab_shf, ab_shw, Int.le_refl, Classical.not_not, Int.zero_add, forall_const, ↓ab_itT, ↓ab_itF, ab_anT, or_true, true_or]
    all_goals exact hq'
end
