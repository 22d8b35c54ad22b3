/-! THE REFERENCE: knob, owners -/
theorem ac_C_b {κ : ac_K} {kd d b p hp q hq mv r0 r1 : Int} : 0 ≤ ac_C κ kd d b p hp q hq mv r0 r1 ∧ ac_C κ kd d b p hp q hq mv r0 r1 < 4 := ac_rs_b
section
variable {X : ab_X} {σ τ : ab_S} {Q : Option ab_V → ab_S → Prop} {M : Int} {κ : ac_K} {v : Int → Int} {kd d b p hp q hq mv i as : Int}
theorem mq_kn_q (h : ac_MI σ M κ) (hv : ac_MV σ κ v) (hb : ac_isB κ b) (hp : ac_isP κ p) (hi : 0 ≤ i ∧ i < κ 9 0) : ∀ (n : Nat) (q : Int) (s : Int × Int) (τ : ab_S) (l6 : ab_V), ab_Same ac_PM σ τ → ab_rd τ 355 34 = s.2 → 0 ≤ q → q + n = κ 6 0 → (∀ τ' l6, ab_Same ac_PM σ τ' → ab_rd τ' 355 34 = (ab_it (ac_ks κ v i b p) n q s).2 → ab_Run X 267 142 (5, 0, 0) [ab_R 355, ab_I i, ab_I (ab_it (ac_ks κ v i b p) n q s).1, ab_I b, ab_I p, ab_I (κ 6 0), l6] [] τ' Q) → ab_Run X 267 38 (5, 0, 0) [ab_R 355, ab_I i, ab_I s.1, ab_I b, ab_I p, ab_I q, l6] [] τ Q := by
  have hk := h.2.2.2.2
  have n5 := hk.2.1.1.2
  have n6 := hk.2.1.2.1.2
  have n9 := hk.2.1.2.2.2.2.2
  have ib := hk.2.2.1.2.2.2 i hi.1 hi.2
  intro n
  induction n with
  | zero =>
    intro q s τ l6 hs h34 hq hn hQ
    obtain rfl : q = κ 6 0 := by omega
    have hI := h.same hs
    have g := hI.1
    have h3 := hI.2.1
    have sM := hI.2.2.1.2.1
    have zM := hI.2.2.1.1
    have e6 := kM_6 hI.2.2.2.1
    have hq' := hQ τ l6 hs h34
    rw [ab_it] at hq'
    rw [rX13_knobs_38]
    simp (disch := omega) only [rX13_knobs_40, rX13_knobs_41, rX13_knobs_44, rX13_knobs_47, gS_355, g, h3, sM, e6, ne_eq, not_false_eq_true, not_true_eq_false, true_and, and_true, and_self, true_imp_iff, false_imp_iff, imp_self, Bool.not_false, Bool.not_true, reduceCtorEq, ab_isJ, ab_psh, ab_cats, Bool.false_eq_true, if_true, if_false, ab_shf, ab_shw, Int.le_refl, Classical.not_not, Int.zero_add, forall_const, ↓ab_itT, ↓ab_itF, ab_anT, ab_w32_id, ab_rdf_ne, ab_rdw_ne, ab_rdw_eq, ab_rdf_in, ab_td2, ab_tm2]
    all_goals exact hq'
  | succ n ih =>
    intro q s τ l6 hs h34 hq hn hQ
    have hI := h.same hs
    have g := hI.1
    have h3 := hI.2.1
    have sM := hI.2.2.1.2.1
    have zM := hI.2.2.1.1
    have e6 := kM_6 hI.2.2.2.1
    rw [ab_it] at hQ
    rw [rX13_knobs_38]
    by_cases w : p = q
    · have e : ac_ks κ v i b p q s = s := if_neg (fun u => u.1 w)
      rw [e] at hQ
      have key := ih (q + 1) s τ l6 hs h34 (by omega) (by omega) hQ
      simp (disch := omega) only [rX13_knobs_40, rX13_knobs_41, rX13_knobs_44, rX13_knobs_47, rX13_knobs_50, rX13_knobs_52, rX13_knobs_54, rX13_knobs_57, rX13_knobs_136, rX13_knobs_139, gS_355, g, h3, sM, e6, ne_eq, not_false_eq_true, not_true_eq_false, true_and, and_true, and_self, true_imp_iff, false_imp_iff, imp_self, Bool.not_false, Bool.not_true, reduceCtorEq, ab_isJ, ab_psh, ab_cats, Bool.false_eq_true, if_true, if_false, ab_shf, ab_shw, Int.le_refl, Classical.not_not, Int.zero_add, forall_const, ↓ab_itT, ↓ab_itF, ab_anT, ab_w32_id, ab_rdf_ne, ab_rdw_ne, ab_rdw_eq, ab_rdf_in, ab_td2, ab_tm2]
      all_goals exact key
    · have hq2 : ac_isP κ q := ⟨hq, by omega⟩
      have hv' := hv.same hs
      have hd := (hv.2.1 b hb.1 hb.2)
      have b0 := ac_h_b hk hb (Or.inl rfl) hp
      have b1 := ac_h_b hk hb (Or.inr rfl) hq2
      have c1 := fun Q' => mq_laysTold (X := X) (Q := Q') hI (hv'.1 (5 + b) (by omega) (by omega)) hb hp hq2
      have sL := ac_ly_same (σ := τ) (κ := κ) (d := v (5 + b)) (b := b) (p := p) (hp := ac_h κ p b 0) (q := q) (hq := ac_h κ q b 1) (mv := 2)
      have hIL := hI.same (sL.mono (fun _ _ => ac_PL_PM))
      have gL := hIL.1
      have c5 := fun Q' => mq_comes (X := X) (Q := Q') (kd := v b) (fa := -1) (ft := ab_rd (ac_ly τ κ (v (5 + b)) b p (ac_h κ p b 0) q (ac_h κ q b 1) 2) 355 24) hIL ac_ly_ML ⟨hb, hp, hq2, hd.2, by omega, by omega⟩ ac_ly_fa rfl (by rw [sL.2.2 357 b (by unfold ac_PL; omega), hv'.1 b (by omega) (by omega)])
      rw [ac_row_m (Or.inl rfl), ac_row_m (Or.inr rfl)] at c5
      have sC := hs.trans ((sL.mono (fun _ _ => ac_PL_PM)).trans ((ac_cs_same (σ := ac_ly τ κ (v (5 + b)) b p (ac_h κ p b 0) q (ac_h κ q b 1) 2) (cc := ac_C κ (v b) (v (5 + b)) b p (ac_h κ p b 0) q (ac_h κ q b 1) 2 0 0) (w0 := ac_W (ac_N κ p q (ac_h κ p b 0) p (ac_m0 2)) (ac_brs (ac_S κ (v (5 + b)) b 0 p) 0) (ac_n κ b 0)) (w1 := ac_W (ac_N κ p q (ac_h κ q b 1) q (ac_m1 2)) (ac_brs (ac_S κ (v (5 + b)) b 1 q) 0) (ac_n κ b 1))).mono (fun _ _ => ac_PB_PM)))
      have x25 := ac_cs_25 (σ := ac_ly τ κ (v (5 + b)) b p (ac_h κ p b 0) q (ac_h κ q b 1) 2) (cc := ac_C κ (v b) (v (5 + b)) b p (ac_h κ p b 0) q (ac_h κ q b 1) 2 0 0) (w0 := ac_W (ac_N κ p q (ac_h κ p b 0) p (ac_m0 2)) (ac_brs (ac_S κ (v (5 + b)) b 0 p) 0) (ac_n κ b 0)) (w1 := ac_W (ac_N κ p q (ac_h κ q b 1) q (ac_m1 2)) (ac_brs (ac_S κ (v (5 + b)) b 1 q) 0) (ac_n κ b 1))
      have x34 : ab_rd (ac_cs (ac_ly τ κ (v (5 + b)) b p (ac_h κ p b 0) q (ac_h κ q b 1) 2) (ac_C κ (v b) (v (5 + b)) b p (ac_h κ p b 0) q (ac_h κ q b 1) 2 0 0) (ac_W (ac_N κ p q (ac_h κ p b 0) p (ac_m0 2)) (ac_brs (ac_S κ (v (5 + b)) b 0 p) 0) (ac_n κ b 0)) (ac_W (ac_N κ p q (ac_h κ q b 1) q (ac_m1 2)) (ac_brs (ac_S κ (v (5 + b)) b 1 q) 0) (ac_n κ b 1))) 355 34 = s.2 := by
        rw [ac_cs_same.2.2 355 34 (by unfold ac_PB; omega), sL.2.2 355 34 (by unfold ac_PL; omega), h34]
      have w0b := ac_W_b (stn := ac_N κ p q (ac_h κ p b 0) p (ac_m0 2)) (br := ac_brs (ac_S κ (v (5 + b)) b 0 p) 0) (n := ac_n κ b 0) (by have := ac_n_b hk hb (Or.inl rfl); omega)
      have w1b := ac_W_b (stn := ac_N κ p q (ac_h κ q b 1) q (ac_m1 2)) (br := ac_brs (ac_S κ (v (5 + b)) b 1 q) 0) (n := ac_n κ b 1) (by have := ac_n_b hk hb (Or.inr rfl); omega)
      have nn0 := ac_n_b hk hb (Or.inl rfl)
      have nn1 := ac_n_b hk hb (Or.inr rfl)
      have eBP : ac_BP κ (v b) (v (5 + b)) b p (ac_h κ p b 0) q (ac_h κ q b 1) 2 = if ac_C κ (v b) (v (5 + b)) b p (ac_h κ p b 0) q (ac_h κ q b 1) 2 0 0 = 0 then 10 + ac_W (ac_N κ p q (ac_h κ q b 1) q (ac_m1 2)) (ac_brs (ac_S κ (v (5 + b)) b 1 q) 0) (ac_n κ b 1) else if ac_C κ (v b) (v (5 + b)) b p (ac_h κ p b 0) q (ac_h κ q b 1) 2 0 0 = 1 then ac_W (ac_N κ p q (ac_h κ p b 0) p (ac_m0 2)) (ac_brs (ac_S κ (v (5 + b)) b 0 p) 0) (ac_n κ b 0) else -2 := rfl
      generalize ac_cs (ac_ly τ κ (v (5 + b)) b p (ac_h κ p b 0) q (ac_h κ q b 1) 2) _ _ _ = υ at c5 sC x25 x34
      generalize ac_W (ac_N κ p q (ac_h κ p b 0) p (ac_m0 2)) (ac_brs (ac_S κ (v (5 + b)) b 0 p) 0) (ac_n κ b 0) = w0 at *
      generalize ac_W (ac_N κ p q (ac_h κ q b 1) q (ac_m1 2)) (ac_brs (ac_S κ (v (5 + b)) b 1 q) 0) (ac_n κ b 1) = w1 at *
      have cb := ac_C_b (κ := κ) (kd := v b) (d := v (5 + b)) (b := b) (p := p) (hp := ac_h κ p b 0) (q := q) (hq := ac_h κ q b 1) (mv := 2) (r0 := 0) (r1 := 0)
      generalize ac_C κ (v b) (v (5 + b)) b p (ac_h κ p b 0) q (ac_h κ q b 1) 2 0 0 = cc at *
      have hIu := h.same sC
      have gu := hIu.1
      have h3u := hIu.2.1
      have hGu := hIu.2.2.1
      have hMu := hIu.2.2.2.1
      have sMu := hGu.2.1
      have a1 := mP_25 hGu
      have a2 := mS_25 hGu
      have a3 := kM_25 (i := i) hMu (by omega) (by omega)
      have a4 := mP_26 hGu
      have a5 := mS_26 hGu
      have a6 := kM_26 (i := i) hMu (by omega) (by omega)
      by_cases w2 : ac_BP κ (v b) (v (5 + b)) b p (ac_h κ p b 0) q (ac_h κ q b 1) 2 = 10 * κ 25 i + κ 26 i
      · have e : ac_ks κ v i b p q s = (ab_w32 (s.1 + 1), ac_or s.2 (ac_sl (if κ 25 i = 0 then q else p))) := if_pos ⟨w, w2⟩
        rw [e] at hQ
        have key := ih (q + 1) (ab_w32 (s.1 + 1), ac_or s.2 (ac_sl (if κ 25 i = 0 then q else p))) (ab_wr υ 355 34 (ac_or s.2 (ac_sl (if κ 25 i = 0 then q else p)))) (ab_I cc) (sC.wr (by unfold ac_PM; omega)) ab_rdw_eq (by omega) (by omega) hQ
        rw [eBP] at w2
        by_cases y0 : cc = 0
        · rw [if_pos y0] at w2 x25
          have x26 := x25.2.1 y0
          have x25 := x25.1
          have z1 : κ 25 i = 1 := by omega
          rw [if_neg (c := κ 25 i = 0) (by omega)] at key
          simp (disch := omega) only [rX13_knobs_40, rX13_knobs_41, rX13_knobs_44, rX13_knobs_47, rX13_knobs_50, rX13_knobs_52, rX13_knobs_54, rX13_knobs_57, rX13_knobs_60, rX13_knobs_61, rX13_knobs_62, rX13_knobs_64, rX13_knobs_66, rX13_knobs_69, rX13_knobs_70, rX13_knobs_73, rX13_knobs_75, rX13_knobs_76, rX13_knobs_79, rX13_knobs_80, rX13_knobs_83, rX13_knobs_86, rX13_knobs_87, rX13_knobs_88, rX13_knobs_91, rX13_knobs_92, rX13_knobs_95, rX13_knobs_96, rX13_knobs_99, rX13_knobs_102, rX13_knobs_103, rX13_knobs_104, rX13_knobs_107, rX13_knobs_110, rX13_knobs_111I, rX13_knobs_111R, rX13_knobs_112, rX13_knobs_115, rX13_knobs_116, rX13_knobs_118, rX13_knobs_121, rX13_knobs_123, rX13_knobs_126, rX13_knobs_128, rX13_knobs_129, rX13_knobs_130, rX13_knobs_133, rX13_knobs_136, rX13_knobs_139, gS_355, g, gL, gu, h3, sM, e6, h3u, sMu, c1, c5, x25, x26, x34, a1, a2, a3, a4, a5, a6, ac_fo, ac_fl1, ne_eq, not_false_eq_true, not_true_eq_false, true_and, and_true, and_self, true_imp_iff, false_imp_iff, imp_self, Bool.not_false, Bool.not_true, reduceCtorEq, ab_isJ, ab_psh, ab_cats, Bool.false_eq_true, if_true, if_false, ab_shf, ab_shw, Int.le_refl, Classical.not_not, Int.zero_add, forall_const, ↓ab_itT, ↓ab_itF, ab_anT, ab_w32_id, ab_rdf_ne, ab_rdw_ne, ab_rdw_eq, ab_rdf_in, ab_td2, ab_tm2]
          all_goals exact key
        · rw [if_neg y0] at w2 x25
          by_cases y1 : cc = 1
          · rw [if_pos y1] at w2 x25
            have x26 := x25.2.2 y1
            have x25 := x25.1
            have z1 : κ 25 i = 0 := by omega
            rw [if_pos z1] at key
            simp (disch := omega) only [rX13_knobs_40, rX13_knobs_41, rX13_knobs_44, rX13_knobs_47, rX13_knobs_50, rX13_knobs_52, rX13_knobs_54, rX13_knobs_57, rX13_knobs_60, rX13_knobs_61, rX13_knobs_62, rX13_knobs_64, rX13_knobs_66, rX13_knobs_69, rX13_knobs_70, rX13_knobs_73, rX13_knobs_75, rX13_knobs_76, rX13_knobs_79, rX13_knobs_80, rX13_knobs_83, rX13_knobs_86, rX13_knobs_87, rX13_knobs_88, rX13_knobs_91, rX13_knobs_92, rX13_knobs_95, rX13_knobs_96, rX13_knobs_99, rX13_knobs_102, rX13_knobs_103, rX13_knobs_104, rX13_knobs_107, rX13_knobs_110, rX13_knobs_111I, rX13_knobs_111R, rX13_knobs_112, rX13_knobs_115, rX13_knobs_116, rX13_knobs_118, rX13_knobs_121, rX13_knobs_123, rX13_knobs_126, rX13_knobs_128, rX13_knobs_129, rX13_knobs_130, rX13_knobs_133, rX13_knobs_136, rX13_knobs_139, gS_355, g, gL, gu, h3, sM, e6, h3u, sMu, c1, c5, x25, x26, x34, a1, a2, a3, a4, a5, a6, ac_fo, ac_fl1, ne_eq, not_false_eq_true, not_true_eq_false, true_and, and_true, and_self, true_imp_iff, false_imp_iff, imp_self, Bool.not_false, Bool.not_true, reduceCtorEq, ab_isJ, ab_psh, ab_cats, Bool.false_eq_true, if_true, if_false, ab_shf, ab_shw, Int.le_refl, Classical.not_not, Int.zero_add, forall_const, ↓ab_itT, ↓ab_itF, ab_anT, ab_w32_id, ab_rdf_ne, ab_rdw_ne, ab_rdw_eq, ab_rdf_in, ab_td2, ab_tm2]
            all_goals exact key
          · rw [if_neg y1] at w2
            exfalso
            omega
      · have e : ac_ks κ v i b p q s = s := if_neg (fun u => w2 u.2)
        rw [e] at hQ
        have key := ih (q + 1) s υ (ab_I cc) sC x34 (by omega) (by omega) hQ
        rw [eBP] at w2
        by_cases y0 : cc = 0
        · rw [if_pos y0] at w2 x25
          have x26 := x25.2.1 y0
          have x25 := x25.1
          by_cases z1 : κ 25 i = 1
          · simp (disch := omega) only [rX13_knobs_40, rX13_knobs_41, rX13_knobs_44, rX13_knobs_47, rX13_knobs_50, rX13_knobs_52, rX13_knobs_54, rX13_knobs_57, rX13_knobs_60, rX13_knobs_61, rX13_knobs_62, rX13_knobs_64, rX13_knobs_66, rX13_knobs_69, rX13_knobs_70, rX13_knobs_73, rX13_knobs_75, rX13_knobs_76, rX13_knobs_79, rX13_knobs_80, rX13_knobs_83, rX13_knobs_86, rX13_knobs_87, rX13_knobs_88, rX13_knobs_91, rX13_knobs_92, rX13_knobs_95, rX13_knobs_96, rX13_knobs_99, rX13_knobs_102, rX13_knobs_103, rX13_knobs_104, rX13_knobs_107, rX13_knobs_136, rX13_knobs_139, gS_355, g, gL, gu, h3, sM, e6, h3u, sMu, c1, c5, x25, x26, x34, a1, a2, a3, a4, a5, a6, ne_eq, not_false_eq_true, not_true_eq_false, true_and, and_true, and_self, true_imp_iff, false_imp_iff, imp_self, Bool.not_false, Bool.not_true, reduceCtorEq, ab_isJ, ab_psh, ab_cats, Bool.false_eq_true, if_true, if_false, ab_shf, ab_shw, Int.le_refl, Classical.not_not, Int.zero_add, forall_const, ↓ab_itT, ↓ab_itF, ab_anT, ab_w32_id, ab_rdf_ne, ab_rdw_ne, ab_rdw_eq, ab_rdf_in, ab_td2, ab_tm2]
            all_goals exact key
          · simp (disch := omega) only [rX13_knobs_40, rX13_knobs_41, rX13_knobs_44, rX13_knobs_47, rX13_knobs_50, rX13_knobs_52, rX13_knobs_54, rX13_knobs_57, rX13_knobs_60, rX13_knobs_61, rX13_knobs_62, rX13_knobs_64, rX13_knobs_66, rX13_knobs_69, rX13_knobs_70, rX13_knobs_73, rX13_knobs_75, rX13_knobs_76, rX13_knobs_79, rX13_knobs_80, rX13_knobs_83, rX13_knobs_86, rX13_knobs_87, rX13_knobs_88, rX13_knobs_91, rX13_knobs_92, rX13_knobs_95, rX13_knobs_96, rX13_knobs_99, rX13_knobs_102, rX13_knobs_103, rX13_knobs_104, rX13_knobs_107, rX13_knobs_136, rX13_knobs_139, gS_355, g, gL, gu, h3, sM, e6, h3u, sMu, c1, c5, x25, x26, x34, a1, a2, a3, a4, a5, a6, ne_eq, not_false_eq_true, not_true_eq_false, true_and, and_true, and_self, true_imp_iff, false_imp_iff, imp_self, Bool.not_false, Bool.not_true, reduceCtorEq, ab_isJ, ab_psh, ab_cats, Bool.false_eq_true, if_true, if_false, ab_shf, ab_shw, Int.le_refl, Classical.not_not, Int.zero_add, forall_const, ↓ab_itT, ↓ab_itF, ab_anT, ab_w32_id, ab_rdf_ne, ab_rdw_ne, ab_rdw_eq, ab_rdf_in, ab_td2, ab_tm2]
            all_goals exact key
        · rw [if_neg y0] at w2 x25
          by_cases y1 : cc = 1
          · rw [if_pos y1] at w2 x25
            have x26 := x25.2.2 y1
            have x25 := x25.1
            by_cases z1 : κ 25 i = 0
            · simp (disch := omega) only [rX13_knobs_40, rX13_knobs_41, rX13_knobs_44, rX13_knobs_47, rX13_knobs_50, rX13_knobs_52, rX13_knobs_54, rX13_knobs_57, rX13_knobs_60, rX13_knobs_61, rX13_knobs_62, rX13_knobs_64, rX13_knobs_66, rX13_knobs_69, rX13_knobs_70, rX13_knobs_73, rX13_knobs_75, rX13_knobs_76, rX13_knobs_79, rX13_knobs_80, rX13_knobs_83, rX13_knobs_86, rX13_knobs_87, rX13_knobs_88, rX13_knobs_91, rX13_knobs_92, rX13_knobs_95, rX13_knobs_96, rX13_knobs_99, rX13_knobs_102, rX13_knobs_103, rX13_knobs_104, rX13_knobs_107, rX13_knobs_136, rX13_knobs_139, gS_355, g, gL, gu, h3, sM, e6, h3u, sMu, c1, c5, x25, x26, x34, a1, a2, a3, a4, a5, a6, ne_eq, not_false_eq_true, not_true_eq_false, true_and, and_true, and_self, true_imp_iff, false_imp_iff, imp_self, Bool.not_false, Bool.not_true, reduceCtorEq, ab_isJ, ab_psh, ab_cats, Bool.false_eq_true, if_true, if_false, ab_shf, ab_shw, Int.le_refl, Classical.not_not, Int.zero_add, forall_const, ↓ab_itT, ↓ab_itF, ab_anT, ab_w32_id, ab_rdf_ne, ab_rdw_ne, ab_rdw_eq, ab_rdf_in, ab_td2, ab_tm2]
              all_goals exact key
            · simp (disch := omega) only [rX13_knobs_40, rX13_knobs_41, rX13_knobs_44, rX13_knobs_47, rX13_knobs_50, rX13_knobs_52, rX13_knobs_54, rX13_knobs_57, rX13_knobs_60, rX13_knobs_61, rX13_knobs_62, rX13_knobs_64, rX13_knobs_66, rX13_knobs_69, rX13_knobs_70, rX13_knobs_73, rX13_knobs_75, rX13_knobs_76, rX13_knobs_79, rX13_knobs_80, rX13_knobs_83, rX13_knobs_86, rX13_knobs_87, rX13_knobs_88, rX13_knobs_91, rX13_knobs_92, rX13_knobs_95, rX13_knobs_96, rX13_knobs_99, rX13_knobs_102, rX13_knobs_103, rX13_knobs_104, rX13_knobs_107, rX13_knobs_136, rX13_knobs_139, gS_355, g, gL, gu, h3, sM, e6, h3u, sMu, c1, c5, x25, x26, x34, a1, a2, a3, a4, a5, a6, ne_eq, not_false_eq_true, not_true_eq_false, true_and, and_true, and_self, true_imp_iff, false_imp_iff, imp_self, Bool.not_false, Bool.not_true, reduceCtorEq, ab_isJ, ab_psh, ab_cats, Bool.false_eq_true, if_true, if_false, ab_shf, ab_shw, Int.le_refl, Classical.not_not, Int.zero_add, forall_const, ↓ab_itT, ↓ab_itF, ab_anT, ab_w32_id, ab_rdf_ne, ab_rdw_ne, ab_rdw_eq, ab_rdf_in, ab_td2, ab_tm2]
              all_goals exact key
          · rw [if_neg y1] at w2 x25
            have x25 := x25.1
            simp (disch := omega) only [rX13_knobs_40, rX13_knobs_41, rX13_knobs_44, rX13_knobs_47, rX13_knobs_50, rX13_knobs_52, rX13_knobs_54, rX13_knobs_57, rX13_knobs_60, rX13_knobs_61, rX13_knobs_62, rX13_knobs_64, rX13_knobs_66, rX13_knobs_69, rX13_knobs_70, rX13_knobs_73, rX13_knobs_75, rX13_knobs_76, rX13_knobs_79, rX13_knobs_80, rX13_knobs_83, rX13_knobs_86, rX13_knobs_87, rX13_knobs_88, rX13_knobs_91, rX13_knobs_92, rX13_knobs_95, rX13_knobs_96, rX13_knobs_99, rX13_knobs_102, rX13_knobs_103, rX13_knobs_104, rX13_knobs_107, rX13_knobs_136, rX13_knobs_139, gS_355, g, gL, gu, h3, sM, e6, h3u, sMu, c1, c5, x25, x34, a1, a2, a3, a4, a5, a6, ne_eq, not_false_eq_true, not_true_eq_false, true_and, and_true, and_self, true_imp_iff, false_imp_iff, imp_self, Bool.not_false, Bool.not_true, reduceCtorEq, ab_isJ, ab_psh, ab_cats, Bool.false_eq_true, if_true, if_false, ab_shf, ab_shw, Int.le_refl, Classical.not_not, Int.zero_add, forall_const, ↓ab_itT, ↓ab_itF, ab_anT, ab_w32_id, ab_rdf_ne, ab_rdw_ne, ab_rdw_eq, ab_rdf_in, ab_td2, ab_tm2]
            all_goals exact key
theorem mq_kn_p (h : ac_MI σ M κ) (hv : ac_MV σ κ v) (hb : ac_isB κ b) (hi : 0 ≤ i ∧ i < κ 9 0) : ∀ (n : Nat) (p : Int) (s : Int × Int) (τ : ab_S) (l5 l6 : ab_V), ab_Same ac_PM σ τ → ab_rd τ 355 34 = s.2 → 0 ≤ p → p + n = κ 6 0 → (∀ τ' l5 l6, ab_Same ac_PM σ τ' → ab_rd τ' 355 34 = (ab_it (ac_kp κ v i b) n p s).2 → ab_Run X 267 148 (5, 0, 0) [ab_R 355, ab_I i, ab_I (ab_it (ac_kp κ v i b) n p s).1, ab_I b, ab_I (κ 6 0), l5, l6] [] τ' Q) → ab_Run X 267 23 (5, 0, 0) [ab_R 355, ab_I i, ab_I s.1, ab_I b, ab_I p, l5, l6] [] τ Q := by
  have hk := h.2.2.2.2
  have n6 := hk.2.1.2.1
  intro n
  induction n with
  | zero =>
    intro p s τ l5 l6 hs h34 hp hn hQ
    obtain rfl : p = κ 6 0 := by omega
    have hI := h.same hs
    have g := hI.1
    have h3 := hI.2.1
    have sM := hI.2.2.1.2.1
    have zM := hI.2.2.1.1
    have e6 := kM_6 hI.2.2.2.1
    have hq' := hQ τ l5 l6 hs h34
    rw [ab_it] at hq'
    rw [rX13_knobs_23]
    simp (disch := omega) only [rX13_knobs_25, rX13_knobs_26, rX13_knobs_29, rX13_knobs_32, gS_355, g, h3, sM, e6, ne_eq, not_false_eq_true, not_true_eq_false, true_and, and_true, and_self, true_imp_iff, false_imp_iff, imp_self, Bool.not_false, Bool.not_true, reduceCtorEq, ab_isJ, ab_psh, ab_cats, Bool.false_eq_true, if_true, if_false, ab_shf, ab_shw, Int.le_refl, Classical.not_not, Int.zero_add, forall_const, ↓ab_itT, ↓ab_itF, ab_anT, ab_w32_id, ab_rdf_ne, ab_rdw_ne, ab_rdw_eq, ab_rdf_in, ab_td2, ab_tm2]
    all_goals exact hq'
  | succ n ih =>
    intro p s τ l5 l6 hs h34 hp hn hQ
    have hI := h.same hs
    have g := hI.1
    have h3 := hI.2.1
    have sM := hI.2.2.1.2.1
    have zM := hI.2.2.1.1
    have e6 := kM_6 hI.2.2.2.1
    rw [ab_it] at hQ
    rw [rX13_knobs_23]
    have key := mq_kn_q (X := X) (Q := Q) h hv hb (show ac_isP κ p from ⟨hp, by omega⟩) hi (κ 6 0).toNat 0 s τ l6 hs h34 (by omega) (by omega) (fun τ' l6 hs' h34' => by
      simp (disch := omega) only [rX13_knobs_142, rX13_knobs_145, ne_eq, not_false_eq_true, not_true_eq_false, true_and, and_true, and_self, true_imp_iff, false_imp_iff, imp_self, Bool.not_false, Bool.not_true, reduceCtorEq, ab_isJ, ab_psh, ab_cats, Bool.false_eq_true, if_true, if_false, ab_shf, ab_shw, Int.le_refl, Classical.not_not, Int.zero_add, forall_const, ↓ab_itT, ↓ab_itF, ab_anT, ab_w32_id, ab_rdf_ne, ab_rdw_ne, ab_rdw_eq, ab_rdf_in, ab_td2, ab_tm2]
      exact ih (p + 1) (ac_kp κ v i b p s) τ' (ab_I (κ 6 0)) l6 hs' h34' (by omega) (by omega) hQ)
    simp (disch := omega) only [rX13_knobs_25, rX13_knobs_26, rX13_knobs_29, rX13_knobs_32, rX13_knobs_35, rX13_knobs_36, gS_355, g, h3, sM, e6, ne_eq, not_false_eq_true, not_true_eq_false, true_and, and_true, and_self, true_imp_iff, false_imp_iff, imp_self, Bool.not_false, Bool.not_true, reduceCtorEq, ab_isJ, ab_psh, ab_cats, Bool.false_eq_true, if_true, if_false, ab_shf, ab_shw, Int.le_refl, Classical.not_not, Int.zero_add, forall_const, ↓ab_itT, ↓ab_itF, ab_anT, ab_w32_id, ab_rdf_ne, ab_rdw_ne, ab_rdw_eq, ab_rdf_in, ab_td2, ab_tm2]
    all_goals exact key
theorem mq_kn_b (h : ac_MI σ M κ) (hv : ac_MV σ κ v) (hi : 0 ≤ i ∧ i < κ 9 0) : ∀ (n : Nat) (b : Int) (s : Int × Int) (τ : ab_S) (l4 l5 l6 : ab_V), ab_Same ac_PM σ τ → ab_rd τ 355 34 = s.2 → 0 ≤ b → b + n = κ 5 0 → (∀ τ', ab_Same ac_PM σ τ' → ab_rd τ' 355 34 = (ab_it (ac_kbn κ v i) n b s).2 → Q (some (ab_I (ab_it (ac_kbn κ v i) n b s).1)) τ') → ab_Run X 267 9 (5, 0, 0) [ab_R 355, ab_I i, ab_I s.1, ab_I b, l4, l5, l6] [] τ Q := by
  have hk := h.2.2.2.2
  have n5 := hk.2.1.1
  have n6 := hk.2.1.2.1
  intro n
  induction n with
  | zero =>
    intro b s τ l4 l5 l6 hs h34 hb hn hQ
    have hI := h.same hs
    have g := hI.1
    have h3 := hI.2.1
    have sM := hI.2.2.1.2.1
    have zM := hI.2.2.1.1
    have e5 := kM_5 hI.2.2.2.1
    have hq' := hQ τ hs h34
    rw [ab_it] at hq'
    rw [rX13_knobs_9]
    simp (disch := omega) only [rX13_knobs_10, rX13_knobs_11, rX13_knobs_14, rX13_knobs_17, rX13_knobs_154, rX13_knobs_155, gS_355, g, h3, sM, e5, ne_eq, not_false_eq_true, not_true_eq_false, true_and, and_true, and_self, true_imp_iff, false_imp_iff, imp_self, Bool.not_false, Bool.not_true, reduceCtorEq, ab_isJ, ab_psh, ab_cats, Bool.false_eq_true, if_true, if_false, ab_shf, ab_shw, Int.le_refl, Classical.not_not, Int.zero_add, forall_const, ↓ab_itT, ↓ab_itF, ab_anT, ab_w32_id, ab_rdf_ne, ab_rdw_ne, ab_rdw_eq, ab_rdf_in, ab_td2, ab_tm2]
    all_goals exact hq'
  | succ n ih =>
    intro b s τ l4 l5 l6 hs h34 hb0 hn hQ
    have hb : ac_isB κ b := ⟨hb0, by omega⟩
    have hI := h.same hs
    have g := hI.1
    have h3 := hI.2.1
    have sM := hI.2.2.1.2.1
    have zM := hI.2.2.1.1
    have e5 := kM_5 hI.2.2.2.1
    rw [ab_it] at hQ
    rw [rX13_knobs_9]
    have key := mq_kn_p (X := X) (Q := Q) h hv hb hi (κ 6 0).toNat 0 s τ l5 l6 hs h34 (by omega) (by omega) (fun τ' l5 l6 hs' h34' => by
      simp (disch := omega) only [rX13_knobs_148, rX13_knobs_151, ne_eq, not_false_eq_true, not_true_eq_false, true_and, and_true, and_self, true_imp_iff, false_imp_iff, imp_self, Bool.not_false, Bool.not_true, reduceCtorEq, ab_isJ, ab_psh, ab_cats, Bool.false_eq_true, if_true, if_false, ab_shf, ab_shw, Int.le_refl, Classical.not_not, Int.zero_add, forall_const, ↓ab_itT, ↓ab_itF, ab_anT, ab_w32_id, ab_rdf_ne, ab_rdw_ne, ab_rdw_eq, ab_rdf_in, ab_td2, ab_tm2]
      exact ih (b + 1) (ac_kbn κ v i b s) τ' (ab_I (κ 6 0)) l5 l6 hs' h34' (by omega) (by omega) hQ)
    simp (disch := omega) only [rX13_knobs_10, rX13_knobs_11, rX13_knobs_14, rX13_knobs_17, rX13_knobs_20, rX13_knobs_21, gS_355, g, h3, sM, e5, ne_eq, not_false_eq_true, not_true_eq_false, true_and, and_true, and_self, true_imp_iff, false_imp_iff, imp_self, Bool.not_false, Bool.not_true, reduceCtorEq, ab_isJ, ab_psh, ab_cats, Bool.false_eq_true, if_true, if_false, ab_shf, ab_shw, Int.le_refl, Classical.not_not, Int.zero_add, forall_const, ↓ab_itT, ↓ab_itF, ab_anT, ab_w32_id, ab_rdf_ne, ab_rdw_ne, ab_rdw_eq, ab_rdf_in, ab_td2, ab_tm2]
    all_goals exact key
theorem mq_knobs (h : ac_MI σ M κ) (hv : ac_MV σ κ v) (hi : 0 ≤ i ∧ i < κ 9 0) (hQ : ∀ τ, ab_Same ac_PM σ τ → ab_rd τ 355 34 = (ac_kall κ v i).2 → Q (some (ab_I (ac_kall κ v i).1)) τ) : ab_Do X 267 [ab_R 355, ab_I i] σ Q := by
  have n5 := h.2.2.2.2.2.1.1
  have g := h.1
  have key := mq_kn_b (X := X) (Q := Q) h hv hi (κ 5 0).toNat 0 (0, 0) (ab_wr σ 355 34 0) (ab_R 0) (ab_R 0) (ab_R 0) (ab_Same.refl.wr (by unfold ac_PM; omega)) ab_rdw_eq (by omega) (by omega) hQ
  simp (disch := omega) only [do_X13_knobs, rX13_knobs_0, rX13_knobs_1, rX13_knobs_2, rX13_knobs_3, rX13_knobs_4, rX13_knobs_7, rX13_knobs_8, gS_355, g, ne_eq, not_false_eq_true, not_true_eq_false, true_and, and_true, and_self, true_imp_iff, false_imp_iff, imp_self, Bool.not_false, Bool.not_true, reduceCtorEq, ab_isJ, ab_psh, ab_cats, Bool.false_eq_true, if_true, if_false, ab_shf, ab_shw, Int.le_refl, Classical.not_not, Int.zero_add, forall_const, ↓ab_itT, ↓ab_itF, ab_anT, ab_w32_id, ab_rdf_ne, ab_rdw_ne, ab_rdw_eq, ab_rdf_in, ab_td2, ab_tm2]
  all_goals exact key
theorem mq_knob (h : ac_MN σ κ) (hv : ac_MV σ κ v) (hQ : ∀ τ, ab_Same ac_PM σ τ → ab_rd τ 355 1 = ac_iT κ i → ab_rd τ 355 2 = -1 → Q (some (ab_I (if ac_iT κ i = 0 then (ac_kall κ v i).1 else -1))) τ) : ab_Do X 269 [ab_R 355, ab_I i] σ Q := by
  have h' := h.same ac_mq0
  have g0 := h.1
  have g := h'.1
  have c1 := fun b Q' => mq_isBone (X := X) (Q := Q') (b := b) h'
  have c2 := fun p q Q' => mq_isPair (X := X) (Q := Q') (p := p) (q := q) h'
  have c1p := fun b Q' => mq_isPerson (X := X) (Q := Q') (b := b) h'
  have cl := fun b arm k Q' => mq_isPlace (X := X) (Q := Q') (b := b) (arm := arm) (k := k) h'
  have cin := fun x lo hi Q' => mq_in (X := X) (σ := ab_wr σ 355 0 0) (Q := Q') (x := x) (lo := lo) (hi := hi)
  have cr := fun v Q' => sp_refused (X := X) (Q := Q') (v := v) g
  have c0 := fun b hp hq mv Q' => mq_rp0 (X := X) (σ := ab_wr σ 355 0 0) (Q := Q') (b := b) (hp := hp) (hq := hq) (mv := mv)
  have ci := fun b Q' => mq_isPiece (X := X) (Q := Q') (b := b) h'
  by_cases hi : 0 ≤ i ∧ i < κ 9 0
  · have eT : ac_iT κ i = 0 := if_pos hi
    rw [eT, if_pos rfl] at hQ
    obtain ⟨M, hm⟩ : ∃ M, ac_MI σ M κ := by
      rcases h.2 with ⟨-, h3⟩ | h2
      · subst h3
        exact absurd (Int.lt_of_le_of_lt hi.1 hi.2) (by decide)
      · exact h2
    simp (disch := omega) only [do_X13_knob, rX13_knob_0, rX13_knob_1, rX13_knob_2, rX13_knob_5, rX13_knob_6, rX13_knob_7, rX13_knob_10, rX13_knob_13, rX13_knob_14, rX13_knob_15, rX13_knob_16, gS_355, g0, g, ci, if_pos hi, ne_eq, not_false_eq_true, not_true_eq_false, true_and, and_true, and_self, true_imp_iff, false_imp_iff, imp_self, Bool.not_false, Bool.not_true, reduceCtorEq, ab_isJ, ab_psh, ab_cats, Bool.false_eq_true, if_true, if_false, ab_shf, ab_shw, Int.le_refl, Classical.not_not, Int.zero_add, forall_const, ↓ab_itT, ↓ab_itF, ab_anT, ab_w32_id, ab_rdf_ne, ab_rdw_ne, ab_rdw_eq, ab_rdf_in, ab_td2, ab_tm2]
    refine mq_knobs (hm.same ac_mq0) (hv.same ac_mq0) hi (fun τ hs h34 => ?_)
    have sT := ac_mq0.trans hs
    have gT := (hm.same sT).1
    have c6 := fun x Q' => sp_good (X := X) (Q := Q') (v := x) gT
    simp (disch := omega) only [rX13_knob_19, rX13_knob_22, rX13_knob_25, rX13_knob_26, rX13_knob_27, rX13_knob_30, gS_355, gT, c6, ne_eq, not_false_eq_true, not_true_eq_false, true_and, and_true, and_self, true_imp_iff, false_imp_iff, imp_self, Bool.not_false, Bool.not_true, reduceCtorEq, ab_isJ, ab_psh, ab_cats, Bool.false_eq_true, if_true, if_false, ab_shf, ab_shw, Int.le_refl, Classical.not_not, Int.zero_add, forall_const, ↓ab_itT, ↓ab_itF, ab_anT, ab_w32_id, ab_rdf_ne, ab_rdw_ne, ab_rdw_eq, ab_rdf_in, ab_td2, ab_tm2]
    exact hQ _ (ac_end1 sT).1 (ac_end1 sT).2.1 (ac_end1 sT).2.2
  · have eT : ac_iT κ i = 1 := by exact if_neg hi
    rw [eT, if_neg (by decide)] at hQ
    simp (disch := omega) only [do_X13_knob, rX13_knob_0, rX13_knob_1, rX13_knob_2, rX13_knob_5, rX13_knob_6, rX13_knob_7, rX13_knob_10, rX13_knob_13, rX13_knob_14, rX13_knob_15, rX13_knob_16, rX13_knob_19, rX13_knob_22, rX13_knob_25, rX13_knob_26, rX13_knob_27, rX13_knob_30, gS_355, g0, c1, c2, cl, cin, c0, cr, ci, if_neg hi, ne_eq, not_false_eq_true, not_true_eq_false, true_and, and_true, and_self, true_imp_iff, false_imp_iff, imp_self, Bool.not_false, Bool.not_true, reduceCtorEq, ab_isJ, ab_psh, ab_cats, Bool.false_eq_true, if_true, if_false, ab_shf, ab_shw, Int.le_refl, Classical.not_not, Int.zero_add, forall_const, ↓ab_itT, ↓ab_itF, ab_anT, ab_w32_id, ab_rdf_ne, ab_rdw_ne, ab_rdw_eq, ab_rdf_in, ab_td2, ab_tm2, ab_ifF]
    exact hQ _ (ac_end1 ac_mq0).1 (ac_end1 ac_mq0).2.1 (ac_end1 ac_mq0).2.2
theorem mq_owners (h : ac_MN σ κ) (hv : ac_MV σ κ v) (hQ : ∀ τ, ab_Same ac_PM σ τ → ab_rd τ 355 1 = ac_iT κ i → ab_rd τ 355 2 = -1 → Q (some (ab_I (if ac_iT κ i = 0 then (ac_kall κ v i).2 else -1))) τ) : ab_Do X 270 [ab_R 355, ab_I i] σ Q := by
  have h' := h.same ac_mq0
  have g0 := h.1
  have g := h'.1
  have c1 := fun b Q' => mq_isBone (X := X) (Q := Q') (b := b) h'
  have c2 := fun p q Q' => mq_isPair (X := X) (Q := Q') (p := p) (q := q) h'
  have c1p := fun b Q' => mq_isPerson (X := X) (Q := Q') (b := b) h'
  have cl := fun b arm k Q' => mq_isPlace (X := X) (Q := Q') (b := b) (arm := arm) (k := k) h'
  have cin := fun x lo hi Q' => mq_in (X := X) (σ := ab_wr σ 355 0 0) (Q := Q') (x := x) (lo := lo) (hi := hi)
  have cr := fun v Q' => sp_refused (X := X) (Q := Q') (v := v) g
  have c0 := fun b hp hq mv Q' => mq_rp0 (X := X) (σ := ab_wr σ 355 0 0) (Q := Q') (b := b) (hp := hp) (hq := hq) (mv := mv)
  have ci := fun b Q' => mq_isPiece (X := X) (Q := Q') (b := b) h'
  by_cases hi : 0 ≤ i ∧ i < κ 9 0
  · have eT : ac_iT κ i = 0 := if_pos hi
    rw [eT, if_pos rfl] at hQ
    obtain ⟨M, hm⟩ : ∃ M, ac_MI σ M κ := by
      rcases h.2 with ⟨-, h3⟩ | h2
      · subst h3
        exact absurd (Int.lt_of_le_of_lt hi.1 hi.2) (by decide)
      · exact h2
    simp (disch := omega) only [do_X13_owners, rX13_owners_0, rX13_owners_1, rX13_owners_2, rX13_owners_5, rX13_owners_6, rX13_owners_7, rX13_owners_10, rX13_owners_13, rX13_owners_14, rX13_owners_15, rX13_owners_18, rX13_owners_19, rX13_owners_20, rX13_owners_21, gS_355, g0, g, ci, if_pos hi, ne_eq, not_false_eq_true, not_true_eq_false, true_and, and_true, and_self, true_imp_iff, false_imp_iff, imp_self, Bool.not_false, Bool.not_true, reduceCtorEq, ab_isJ, ab_psh, ab_cats, Bool.false_eq_true, if_true, if_false, ab_shf, ab_shw, Int.le_refl, Classical.not_not, Int.zero_add, forall_const, ↓ab_itT, ↓ab_itF, ab_anT, ab_w32_id, ab_rdf_ne, ab_rdw_ne, ab_rdw_eq, ab_rdf_in, ab_td2, ab_tm2]
    refine mq_knobs (hm.same ac_mq0) (hv.same ac_mq0) hi (fun τ hs h34 => ?_)
    have sT := ac_mq0.trans hs
    have gT := (hm.same sT).1
    have c6 := fun x Q' => sp_good (X := X) (Q := Q') (v := x) gT
    simp (disch := omega) only [rX13_owners_24I, rX13_owners_24R, rX13_owners_25, rX13_owners_26, rX13_owners_27, rX13_owners_30, rX13_owners_33, gS_355, gT, c6, h34, ne_eq, not_false_eq_true, not_true_eq_false, true_and, and_true, and_self, true_imp_iff, false_imp_iff, imp_self, Bool.not_false, Bool.not_true, reduceCtorEq, ab_isJ, ab_psh, ab_cats, Bool.false_eq_true, if_true, if_false, ab_shf, ab_shw, Int.le_refl, Classical.not_not, Int.zero_add, forall_const, ↓ab_itT, ↓ab_itF, ab_anT, ab_w32_id, ab_rdf_ne, ab_rdw_ne, ab_rdw_eq, ab_rdf_in, ab_td2, ab_tm2]
    exact hQ _ (ac_end1 sT).1 (ac_end1 sT).2.1 (ac_end1 sT).2.2
  · have eT : ac_iT κ i = 1 := by exact if_neg hi
    rw [eT, if_neg (by decide)] at hQ
    simp (disch := omega) only [do_X13_owners, rX13_owners_0, rX13_owners_1, rX13_owners_2, rX13_owners_5, rX13_owners_6, rX13_owners_7, rX13_owners_10, rX13_owners_13, rX13_owners_14, rX13_owners_15, rX13_owners_18, rX13_owners_19, rX13_owners_20, rX13_owners_21, rX13_owners_24I, rX13_owners_24R, rX13_owners_25, rX13_owners_26, rX13_owners_27, rX13_owners_30, rX13_owners_33, gS_355, g0, c1, c2, cl, cin, c0, cr, ci, if_neg hi, ne_eq, not_false_eq_true, not_true_eq_false, true_and, and_true, and_self, true_imp_iff, false_imp_iff, imp_self, Bool.not_false, Bool.not_true, reduceCtorEq, ab_isJ, ab_psh, ab_cats, Bool.false_eq_true, if_true, if_false, ab_shf, ab_shw, Int.le_refl, Classical.not_not, Int.zero_add, forall_const, ↓ab_itT, ↓ab_itF, ab_anT, ab_w32_id, ab_rdf_ne, ab_rdw_ne, ab_rdw_eq, ab_rdf_in, ab_td2, ab_tm2, ab_ifF]
    exact hQ _ (ac_end1 ac_mq0).1 (ac_end1 ac_mq0).2.1 (ac_end1 ac_mq0).2.2
end
