/-! THE REFERENCE: odds, curve, bestDay -/
section
variable {X : ab_X} {σ τ : ab_S} {Q : Option ab_V → ab_S → Prop} {M : Int} {κ : ac_K} {v : Int → Int} {kd d b p hp q hq mv fa ft arm k x lo : Int}
theorem mq_odds (h : ac_MN σ κ) (hv : ac_MV σ κ v) (hlo : lo = 0 ∨ lo = 1) (hQ : ∀ τ, ab_Same ac_PM σ τ → ab_rd τ 355 1 = ac_oT κ b p hp q hq mv x → ab_rd τ 355 2 = -1 → Q (some (ab_J (if ac_oT κ b p hp q hq mv x = 0 then ac_pt (ac_O κ (v b) (v (5 + b)) b p hp q hq mv x) (100 * (ac_n κ b 0 + ac_n κ b 1)) lo else -1))) τ) : ab_Do X 227 [ab_R 355, ab_I b, ab_I p, ab_I hp, ab_I q, ab_I hq, ab_I mv, ab_I x, ab_I lo] σ Q := by
  have h' := h.same ac_mq0
  have g0 := h.1
  have g := h'.1
  have c1 := fun b Q' => mq_isBone (X := X) (Q := Q') (b := b) h'
  have c2 := fun p q Q' => mq_isPair (X := X) (Q := Q') (p := p) (q := q) h'
  have c1p := fun b Q' => mq_isPerson (X := X) (Q := Q') (b := b) h'
  have cl := fun b arm k Q' => mq_isPlace (X := X) (Q := Q') (b := b) (arm := arm) (k := k) h'
  have cin := fun x lo hi Q' => mq_in (X := X) (σ := ab_wr σ 355 0 0) (Q := Q') (x := x) (lo := lo) (hi := hi)
  have cr := fun v Q' => sp_refused (X := X) (Q := Q') (v := v) g
  have c0 := fun b hp hq mv Q' => mq_rp0 (X := X) (σ := ab_wr σ 355 0 0) (Q := Q') (b := b) (hp := hp) (hq := hq) (mv := mv)
  by_cases h1 : ac_isB κ b
  · by_cases h1u : ac_isU κ p q
    · by_cases hx : 0 ≤ x ∧ x ≤ 3
      · obtain ⟨M, hm⟩ := h.mb h1
        have hm' := hm.same ac_mq0
        have hd := (hv.2.1 b h1.1 h1.2)
        have n5 := hm.2.2.2.2.2.1.1.2
        have e5 : ab_rd (ab_wr σ 355 0 0) 357 (5 + b) = v (5 + b) := by rw [ab_rdw_ne (by omega), hv.1 _ (by omega) (by omega)]
        have c4 := fun hp hq mv Q' => mq_lays (X := X) (Q := Q') (hp := hp) (hq := hq) (mv := mv) hm' e5 h1 h1u.1 h1u.2.1
        have c3 := fun Q' => mq_rp1 (X := X) (Q := Q') (hp := hp) (hq := hq) (mv := mv) hm' h1
        by_cases h2 : ac_isW κ b hp hq mv
        · have eT : ac_oT κ b p hp q hq mv x = 0 := by unfold ac_oT ac_wT; rw [if_pos hx, if_pos ⟨h1, h1u⟩, if_pos h2]
          rw [eT, if_pos rfl] at hQ
          have nb0 := ac_n_b hm.2.2.2.2 h1 (Or.inl rfl)
          have nb1 := ac_n_b hm.2.2.2.2 h1 (Or.inr rfl)
          unfold ac_n at nb0 nb1
          have sL := ac_mq0.trans ((ac_ly_same (σ := ab_wr σ 355 0 0) (κ := κ) (d := v (5 + b)) (b := b) (p := p) (hp := hp) (q := q) (hq := hq) (mv := mv)).mono (fun _ _ => ac_PL_PM))
          have hB : ac_MB κ (v (5 + b)) b p hp q hq := ⟨h1, h1u.1, h1u.2.1, hd.2, by omega, by omega⟩
          have gL := (hm.same sL).1
          simp (disch := omega) only [do_X13_odds, rX13_odds_0, rX13_odds_1, rX13_odds_2, rX13_odds_5, rX13_odds_6, rX13_odds_7, rX13_odds_8, rX13_odds_11, rX13_odds_14, rX13_odds_15, rX13_odds_16, rX13_odds_18, rX13_odds_21, rX13_odds_24, rX13_odds_26, rX13_odds_27, rX13_odds_28, rX13_odds_31, rX13_odds_34, rX13_odds_35, rX13_odds_38, rX13_odds_39, rX13_odds_40, rX13_odds_41, rX13_odds_43, rX13_odds_45, rX13_odds_48, rX13_odds_50, rX13_odds_52, rX13_odds_55, rX13_odds_56, rX13_odds_58, rX13_odds_61, rX13_odds_62, rX13_odds_63, rX13_odds_64, rX13_odds_65, rX13_odds_66, rX13_odds_67, rX13_odds_69, rX13_odds_71, rX13_odds_73, rX13_odds_76, rX13_odds_77, rX13_odds_78, rX13_odds_80, gS_355, g0, gL, c1, c2, cin, if_pos h1, if_pos h1u, if_pos hx, c3, if_pos h2, c4, ne_eq, not_false_eq_true, not_true_eq_false, true_and, and_true, and_self, true_imp_iff, false_imp_iff, imp_self, Bool.not_false, Bool.not_true, reduceCtorEq, ab_isJ, ab_psh, ab_cats, Bool.false_eq_true, if_true, if_false, ab_shf, ab_shw, Int.le_refl, Classical.not_not, Int.zero_add, forall_const, ↓ab_itT, ↓ab_itF, ab_anT, ab_w32_id, ab_rdf_ne, ab_rdw_ne, ab_rdw_eq, ab_rdf_in, ab_td2, ab_tm2]
          refine mq_oddsOf (kd := v b) (hm.same sL) ac_ly_ML hB (by rw [sL.2.2 357 b (by unfold ac_PM; omega), hv.1 b (by omega) (by omega)]) (fun τ hs h23 => ?_)
          have sT := sL.trans (hs.mono (fun _ _ => ac_PB_PM))
          have gT := (hm.same sT).1
          have e21 : ab_rd τ 355 21 = b := by rw [hs.2.2 355 21 (by unfold ac_PB; omega)]; exact ac_ly_ML.1
          have c7 := fun Q' => mq_allPlaces (X := X) (Q := Q') (hm.same sT) h1 e21
          have ob := ac_O_b (kd := v b) (d := v (5 + b)) (p := p) (hp := hp) (q := q) (hq := hq) (mv := mv) (x := x) hm.2.2.2.2 h1
          have c8 := fun up low Q' hu hl => sp_fraction (X := X) (Q := Q') (up := up) (low := low) (lo := lo) gT hu hl hlo
          have nn0 := ac_n_b hm.2.2.2.2 h1 (Or.inl rfl)
          have nn1 := ac_n_b hm.2.2.2.2 h1 (Or.inr rfl)
          have c9 := fun Q' => c8 (ac_O κ (v b) (v (5 + b)) b p hp q hq mv x) (100 * (ac_n κ b 0 + ac_n κ b 1)) Q' (by omega) (by omega)
          simp (disch := omega) only [rX13_odds_83, rX13_odds_86, rX13_odds_87, rX13_odds_90, rX13_odds_91, rX13_odds_92, rX13_odds_94, rX13_odds_97, gS_355, gT, c7, c9, ne_eq, not_false_eq_true, not_true_eq_false, true_and, and_true, and_self, true_imp_iff, false_imp_iff, imp_self, Bool.not_false, Bool.not_true, reduceCtorEq, ab_isJ, ab_psh, ab_cats, Bool.false_eq_true, if_true, if_false, ab_shf, ab_shw, Int.le_refl, Classical.not_not, Int.zero_add, forall_const, ↓ab_itT, ↓ab_itF, ab_anT, ab_w32_id, ab_rdf_ne, ab_rdw_ne, ab_rdw_eq, ab_rdf_in, ab_td2, ab_tm2, ab_w64_id]
          exact hQ _ (ac_end1 sT).1 (ac_end1 sT).2.1 (ac_end1 sT).2.2
        · have eT : ac_oT κ b p hp q hq mv x = 2 := by (unfold ac_oT ac_wT; rw [if_pos hx, if_pos ⟨h1, h1u⟩, if_neg h2])
          rw [eT, if_neg (by decide)] at hQ
          simp (disch := omega) only [do_X13_odds, rX13_odds_0, rX13_odds_1, rX13_odds_2, rX13_odds_5, rX13_odds_6, rX13_odds_7, rX13_odds_8, rX13_odds_11, rX13_odds_14, rX13_odds_15, rX13_odds_16, rX13_odds_18, rX13_odds_21, rX13_odds_24, rX13_odds_26, rX13_odds_27, rX13_odds_28, rX13_odds_31, rX13_odds_34, rX13_odds_35, rX13_odds_38, rX13_odds_39, rX13_odds_40, rX13_odds_41, rX13_odds_43, rX13_odds_45, rX13_odds_48, rX13_odds_50, rX13_odds_52, rX13_odds_55, rX13_odds_56, rX13_odds_58, rX13_odds_61, rX13_odds_62, rX13_odds_63, rX13_odds_64, rX13_odds_65, rX13_odds_66, rX13_odds_67, rX13_odds_69, rX13_odds_71, rX13_odds_73, rX13_odds_76, rX13_odds_77, rX13_odds_78, rX13_odds_80, rX13_odds_83, rX13_odds_86, rX13_odds_87, rX13_odds_90, rX13_odds_91, rX13_odds_92, rX13_odds_94, rX13_odds_97, gS_355, g0, c1, c2, cl, cin, c0, cr, if_pos h1, if_pos h1u, if_pos hx, c3, if_neg h2, ne_eq, not_false_eq_true, not_true_eq_false, true_and, and_true, and_self, true_imp_iff, false_imp_iff, imp_self, Bool.not_false, Bool.not_true, reduceCtorEq, ab_isJ, ab_psh, ab_cats, Bool.false_eq_true, if_true, if_false, ab_shf, ab_shw, Int.le_refl, Classical.not_not, Int.zero_add, forall_const, ↓ab_itT, ↓ab_itF, ab_anT, ab_w32_id, ab_rdf_ne, ab_rdw_ne, ab_rdw_eq, ab_rdf_in, ab_td2, ab_tm2, ab_ifF]
          exact hQ _ (ac_end1 ac_mq0).1 (ac_end1 ac_mq0).2.1 (ac_end1 ac_mq0).2.2
      · have eT : ac_oT κ b p hp q hq mv x = 1 := by (unfold ac_oT; rw [if_neg hx])
        rw [eT, if_neg (by decide)] at hQ
        simp (disch := omega) only [do_X13_odds, rX13_odds_0, rX13_odds_1, rX13_odds_2, rX13_odds_5, rX13_odds_6, rX13_odds_7, rX13_odds_8, rX13_odds_11, rX13_odds_14, rX13_odds_15, rX13_odds_16, rX13_odds_18, rX13_odds_21, rX13_odds_24, rX13_odds_26, rX13_odds_27, rX13_odds_28, rX13_odds_31, rX13_odds_34, rX13_odds_35, rX13_odds_38, rX13_odds_39, rX13_odds_40, rX13_odds_41, rX13_odds_43, rX13_odds_45, rX13_odds_48, rX13_odds_50, rX13_odds_52, rX13_odds_55, rX13_odds_56, rX13_odds_58, rX13_odds_61, rX13_odds_62, rX13_odds_63, rX13_odds_64, rX13_odds_65, rX13_odds_66, rX13_odds_67, rX13_odds_69, rX13_odds_71, rX13_odds_73, rX13_odds_76, rX13_odds_77, rX13_odds_78, rX13_odds_80, rX13_odds_83, rX13_odds_86, rX13_odds_87, rX13_odds_90, rX13_odds_91, rX13_odds_92, rX13_odds_94, rX13_odds_97, gS_355, g0, c1, c2, cl, cin, c0, cr, if_pos h1, if_pos h1u, if_neg hx, ne_eq, not_false_eq_true, not_true_eq_false, true_and, and_true, and_self, true_imp_iff, false_imp_iff, imp_self, Bool.not_false, Bool.not_true, reduceCtorEq, ab_isJ, ab_psh, ab_cats, Bool.false_eq_true, if_true, if_false, ab_shf, ab_shw, Int.le_refl, Classical.not_not, Int.zero_add, forall_const, ↓ab_itT, ↓ab_itF, ab_anT, ab_w32_id, ab_rdf_ne, ab_rdw_ne, ab_rdw_eq, ab_rdf_in, ab_td2, ab_tm2, ab_ifF]
        exact hQ _ (ac_end1 ac_mq0).1 (ac_end1 ac_mq0).2.1 (ac_end1 ac_mq0).2.2
    · have eT : ac_oT κ b p hp q hq mv x = 1 := by (unfold ac_oT ac_wT; rw [if_neg (c := ac_isB κ b ∧ ac_isU κ p q) (fun w => h1u w.2)]; split <;> rfl)
      rw [eT, if_neg (by decide)] at hQ
      simp (disch := omega) only [do_X13_odds, rX13_odds_0, rX13_odds_1, rX13_odds_2, rX13_odds_5, rX13_odds_6, rX13_odds_7, rX13_odds_8, rX13_odds_11, rX13_odds_14, rX13_odds_15, rX13_odds_16, rX13_odds_18, rX13_odds_21, rX13_odds_24, rX13_odds_26, rX13_odds_27, rX13_odds_28, rX13_odds_31, rX13_odds_34, rX13_odds_35, rX13_odds_38, rX13_odds_39, rX13_odds_40, rX13_odds_41, rX13_odds_43, rX13_odds_45, rX13_odds_48, rX13_odds_50, rX13_odds_52, rX13_odds_55, rX13_odds_56, rX13_odds_58, rX13_odds_61, rX13_odds_62, rX13_odds_63, rX13_odds_64, rX13_odds_65, rX13_odds_66, rX13_odds_67, rX13_odds_69, rX13_odds_71, rX13_odds_73, rX13_odds_76, rX13_odds_77, rX13_odds_78, rX13_odds_80, rX13_odds_83, rX13_odds_86, rX13_odds_87, rX13_odds_90, rX13_odds_91, rX13_odds_92, rX13_odds_94, rX13_odds_97, gS_355, g0, c1, c2, cl, cin, c0, cr, if_pos h1, if_neg h1u, ne_eq, not_false_eq_true, not_true_eq_false, true_and, and_true, and_self, true_imp_iff, false_imp_iff, imp_self, Bool.not_false, Bool.not_true, reduceCtorEq, ab_isJ, ab_psh, ab_cats, Bool.false_eq_true, if_true, if_false, ab_shf, ab_shw, Int.le_refl, Classical.not_not, Int.zero_add, forall_const, ↓ab_itT, ↓ab_itF, ab_anT, ab_w32_id, ab_rdf_ne, ab_rdw_ne, ab_rdw_eq, ab_rdf_in, ab_td2, ab_tm2, ab_ifF]
      exact hQ _ (ac_end1 ac_mq0).1 (ac_end1 ac_mq0).2.1 (ac_end1 ac_mq0).2.2
  · have eT : ac_oT κ b p hp q hq mv x = 1 := by (unfold ac_oT ac_wT; rw [if_neg (c := ac_isB κ b ∧ ac_isU κ p q) (fun w => h1 w.1)]; split <;> rfl)
    rw [eT, if_neg (by decide)] at hQ
    simp (disch := omega) only [do_X13_odds, rX13_odds_0, rX13_odds_1, rX13_odds_2, rX13_odds_5, rX13_odds_6, rX13_odds_7, rX13_odds_8, rX13_odds_11, rX13_odds_14, rX13_odds_15, rX13_odds_16, rX13_odds_18, rX13_odds_21, rX13_odds_24, rX13_odds_26, rX13_odds_27, rX13_odds_28, rX13_odds_31, rX13_odds_34, rX13_odds_35, rX13_odds_38, rX13_odds_39, rX13_odds_40, rX13_odds_41, rX13_odds_43, rX13_odds_45, rX13_odds_48, rX13_odds_50, rX13_odds_52, rX13_odds_55, rX13_odds_56, rX13_odds_58, rX13_odds_61, rX13_odds_62, rX13_odds_63, rX13_odds_64, rX13_odds_65, rX13_odds_66, rX13_odds_67, rX13_odds_69, rX13_odds_71, rX13_odds_73, rX13_odds_76, rX13_odds_77, rX13_odds_78, rX13_odds_80, rX13_odds_83, rX13_odds_86, rX13_odds_87, rX13_odds_90, rX13_odds_91, rX13_odds_92, rX13_odds_94, rX13_odds_97, gS_355, g0, c1, c2, cl, cin, c0, cr, if_neg h1, ne_eq, not_false_eq_true, not_true_eq_false, true_and, and_true, and_self, true_imp_iff, false_imp_iff, imp_self, Bool.not_false, Bool.not_true, reduceCtorEq, ab_isJ, ab_psh, ab_cats, Bool.false_eq_true, if_true, if_false, ab_shf, ab_shw, Int.le_refl, Classical.not_not, Int.zero_add, forall_const, ↓ab_itT, ↓ab_itF, ab_anT, ab_w32_id, ab_rdf_ne, ab_rdw_ne, ab_rdw_eq, ab_rdf_in, ab_td2, ab_tm2, ab_ifF]
    exact hQ _ (ac_end1 ac_mq0).1 (ac_end1 ac_mq0).2.1 (ac_end1 ac_mq0).2.2
theorem mq_curveOf (h : ac_MI σ M κ) (hv : ac_MV σ κ v) (hb : ac_isB κ b) (hp : ac_isP κ p) (hq : ac_isP κ q) (hd : 0 ≤ d ∧ d ≤ 24) (hQ : ∀ τ, ab_Same ac_PL σ τ → ab_rd τ 355 21 = b → Q (some (ab_J (ac_OT κ (v b) d b p q 0))) τ) : ab_Do X 237 [ab_R 355, ab_I b, ab_I p, ab_I q, ab_I d] σ Q := by
  have n5 := h.2.2.2.2.2.1.1.2
  have g := h.1
  have c1 := fun Q' => mq_laysTold (X := X) (Q := Q') h (hv.1 (5 + b) (by omega) (by omega)) hb hp hq
  have b0 := ac_h_b h.2.2.2.2 hb (Or.inl rfl) hp
  have b1 := ac_h_b h.2.2.2.2 hb (Or.inr rfl) hq
  have sL := ac_ly_same (σ := σ) (κ := κ) (d := v (5 + b)) (b := b) (p := p) (hp := ac_h κ p b 0) (q := q) (hq := ac_h κ q b 1) (mv := 2)
  have sD := sL.wr (a := 355) (k := 22) (v := d) (by unfold ac_PL; omega)
  have gL := (h.same (sL.mono (fun _ _ => ac_PL_PM))).1
  have mL : ac_ML (ab_wr (ac_ly σ κ (v (5 + b)) b p (ac_h κ p b 0) q (ac_h κ q b 1) 2) 355 22 d) κ d b p (ac_h κ p b 0) q (ac_h κ q b 1) 2 := by
    have m := ac_ly_ML (σ := σ) (κ := κ) (d := v (5 + b)) (b := b) (p := p) (hp := ac_h κ p b 0) (q := q) (hq := ac_h κ q b 1) (mv := 2)
    unfold ac_ML at m ⊢
    rw [ab_rdw_ne (by omega), ab_rdw_eq, ab_rdw_ne (by omega), ab_rdw_ne (by omega), ab_rdw_ne (by omega), ab_rdw_ne (by omega), ab_rdw_ne (by omega), ab_rdw_ne (by omega)]
    exact ⟨m.1, rfl, m.2.2⟩
  simp (disch := omega) only [do_X13_curveOf, rX13_curveOf_0, rX13_curveOf_1, rX13_curveOf_2, rX13_curveOf_3, rX13_curveOf_4, rX13_curveOf_7, rX13_curveOf_8, rX13_curveOf_10, rX13_curveOf_13, rX13_curveOf_14, rX13_curveOf_15, gS_355, g, gL, c1, ne_eq, not_false_eq_true, not_true_eq_false, true_and, and_true, and_self, true_imp_iff, false_imp_iff, imp_self, Bool.not_false, Bool.not_true, reduceCtorEq, ab_isJ, ab_psh, ab_cats, Bool.false_eq_true, if_true, if_false, ab_shf, ab_shw, Int.le_refl, Classical.not_not, Int.zero_add, forall_const, ↓ab_itT, ↓ab_itF, ab_anT, ab_w32_id, ab_rdf_ne, ab_rdw_ne, ab_rdw_eq, ab_rdf_in, ab_td2, ab_tm2]
  refine mq_oddsOf (kd := v b) (h.same (sD.mono (fun _ _ => ac_PL_PM))) mL ⟨hb, hp, hq, hd, by omega, by omega⟩ (by rw [sD.2.2 357 b (by unfold ac_PL; omega), hv.1 b (by omega) (by omega)]) (fun τ hs h23 => ?_)
  simp (disch := omega) only [rX13_curveOf_18, ne_eq, not_false_eq_true, not_true_eq_false, true_and, and_true, and_self, true_imp_iff, false_imp_iff, imp_self, Bool.not_false, Bool.not_true, reduceCtorEq, ab_isJ, ab_psh, ab_cats, Bool.false_eq_true, if_true, if_false, ab_shf, ab_shw, Int.le_refl, Classical.not_not, Int.zero_add, forall_const, ↓ab_itT, ↓ab_itF, ab_anT, ab_w32_id, ab_rdf_ne, ab_rdw_ne, ab_rdw_eq, ab_rdf_in, ab_td2, ab_tm2]
  exact hQ τ (sD.trans (hs.mono (fun a f u => by unfold ac_PB at u; unfold ac_PL; omega))) (by rw [hs.2.2 355 21 (by unfold ac_PB; omega)]; exact mL.1)
theorem mq_curve {days : Int} (h : ac_MN σ κ) (hv : ac_MV σ κ v) (hlo : lo = 0 ∨ lo = 1) (hQ : ∀ τ, ab_Same ac_PM σ τ → ab_rd τ 355 1 = ac_cT κ b p q days → ab_rd τ 355 2 = -1 → Q (some (ab_J (if ac_cT κ b p q days = 0 then ac_pt (ac_OT κ (v b) days b p q 0) (100 * (ac_n κ b 0 + ac_n κ b 1)) lo else -1))) τ) : ab_Do X 238 [ab_R 355, ab_I b, ab_I p, ab_I q, ab_I days, ab_I lo] σ Q := by
  have h' := h.same ac_mq0
  have g0 := h.1
  have g := h'.1
  have c1 := fun b Q' => mq_isBone (X := X) (Q := Q') (b := b) h'
  have c2 := fun p q Q' => mq_isPair (X := X) (Q := Q') (p := p) (q := q) h'
  have c1p := fun b Q' => mq_isPerson (X := X) (Q := Q') (b := b) h'
  have cl := fun b arm k Q' => mq_isPlace (X := X) (Q := Q') (b := b) (arm := arm) (k := k) h'
  have cin := fun x lo hi Q' => mq_in (X := X) (σ := ab_wr σ 355 0 0) (Q := Q') (x := x) (lo := lo) (hi := hi)
  have cr := fun v Q' => sp_refused (X := X) (Q := Q') (v := v) g
  have c0 := fun b hp hq mv Q' => mq_rp0 (X := X) (σ := ab_wr σ 355 0 0) (Q := Q') (b := b) (hp := hp) (hq := hq) (mv := mv)
  have hv' := hv.same (τ := ab_wr σ 355 0 0) ac_mq0
  by_cases h1 : ac_isB κ b
  · by_cases h1u : ac_isU κ p q
    · have eP : ac_pT κ b p q = 0 := if_pos ⟨h1, h1u⟩
      by_cases hx : 0 ≤ days ∧ days ≤ 24
      · obtain ⟨M, hm⟩ := h.mb h1
        have hm' := hm.same (τ := ab_wr σ 355 0 0) ac_mq0
        have eT : ac_cT κ b p q days = 0 := by unfold ac_cT; rw [if_pos eP, if_pos hx]
        rw [eT, if_pos rfl] at hQ
        simp (disch := omega) only [do_X13_curve, rX13_curve_0, rX13_curve_1, rX13_curve_2, rX13_curve_5, rX13_curve_6, rX13_curve_7, rX13_curve_10, rX13_curve_13, rX13_curve_14, rX13_curve_15, rX13_curve_16, rX13_curve_19, rX13_curve_22, rX13_curve_23, rX13_curve_24, rX13_curve_27, rX13_curve_28, rX13_curve_29, rX13_curve_31, rX13_curve_32, rX13_curve_34, rX13_curve_37, rX13_curve_40, rX13_curve_41, rX13_curve_42, rX13_curve_45, rX13_curve_46, rX13_curve_47, rX13_curve_48, rX13_curve_49, rX13_curve_50, rX13_curve_51, rX13_curve_53, gS_355, g0, c1, c2, cin, if_pos h1, if_pos h1u, if_pos hx, ne_eq, not_false_eq_true, not_true_eq_false, true_and, and_true, and_self, true_imp_iff, false_imp_iff, imp_self, Bool.not_false, Bool.not_true, reduceCtorEq, ab_isJ, ab_psh, ab_cats, Bool.false_eq_true, if_true, if_false, ab_shf, ab_shw, Int.le_refl, Classical.not_not, Int.zero_add, forall_const, ↓ab_itT, ↓ab_itF, ab_anT, ab_w32_id, ab_rdf_ne, ab_rdw_ne, ab_rdw_eq, ab_rdf_in, ab_td2, ab_tm2]
        refine mq_curveOf hm' hv' h1 h1u.1 h1u.2.1 hx (fun τ hs e21 => ?_)
        have sT := ac_mq0.trans (hs.mono (fun _ _ => ac_PL_PM))
        have gT := (hm.same sT).1
        have c7 := fun Q' => mq_allPlaces (X := X) (Q := Q') (hm.same sT) h1 e21
        have ob := ac_OT_b (kd := v b) (d := days) (p := p) (q := q) (x := 0) hm.2.2.2.2 h1
        have nn0 := ac_n_b hm.2.2.2.2 h1 (Or.inl rfl)
        have nn1 := ac_n_b hm.2.2.2.2 h1 (Or.inr rfl)
        have c9 := fun Q' => sp_fraction (X := X) (Q := Q') (up := ac_OT κ (v b) days b p q 0) (low := 100 * (ac_n κ b 0 + ac_n κ b 1)) (lo := lo) gT (by omega) (by omega) hlo
        simp (disch := omega) only [rX13_curve_56, rX13_curve_58, rX13_curve_59, rX13_curve_61, rX13_curve_64, rX13_curve_65, rX13_curve_68, rX13_curve_69, rX13_curve_70, rX13_curve_72, rX13_curve_75, gS_355, gT, c7, c9, ne_eq, not_false_eq_true, not_true_eq_false, true_and, and_true, and_self, true_imp_iff, false_imp_iff, imp_self, Bool.not_false, Bool.not_true, reduceCtorEq, ab_isJ, ab_psh, ab_cats, Bool.false_eq_true, if_true, if_false, ab_shf, ab_shw, Int.le_refl, Classical.not_not, Int.zero_add, forall_const, ↓ab_itT, ↓ab_itF, ab_anT, ab_w32_id, ab_rdf_ne, ab_rdw_ne, ab_rdw_eq, ab_rdf_in, ab_td2, ab_tm2, ab_w64_id]
        exact hQ _ (ac_end1 sT).1 (ac_end1 sT).2.1 (ac_end1 sT).2.2
      · have eT : ac_cT κ b p q days = 2 := by (unfold ac_cT; rw [if_pos eP, if_neg hx])
        rw [eT, if_neg (by decide)] at hQ
        simp (disch := omega) only [do_X13_curve, rX13_curve_0, rX13_curve_1, rX13_curve_2, rX13_curve_5, rX13_curve_6, rX13_curve_7, rX13_curve_10, rX13_curve_13, rX13_curve_14, rX13_curve_15, rX13_curve_16, rX13_curve_19, rX13_curve_22, rX13_curve_23, rX13_curve_24, rX13_curve_27, rX13_curve_28, rX13_curve_29, rX13_curve_31, rX13_curve_32, rX13_curve_34, rX13_curve_37, rX13_curve_40, rX13_curve_41, rX13_curve_42, rX13_curve_45, rX13_curve_46, rX13_curve_47, rX13_curve_48, rX13_curve_49, rX13_curve_50, rX13_curve_51, rX13_curve_53, rX13_curve_56, rX13_curve_58, rX13_curve_59, rX13_curve_61, rX13_curve_64, rX13_curve_65, rX13_curve_68, rX13_curve_69, rX13_curve_70, rX13_curve_72, rX13_curve_75, gS_355, g0, c1, c2, cl, cin, c0, cr, if_pos h1, if_pos h1u, if_neg hx, ne_eq, not_false_eq_true, not_true_eq_false, true_and, and_true, and_self, true_imp_iff, false_imp_iff, imp_self, Bool.not_false, Bool.not_true, reduceCtorEq, ab_isJ, ab_psh, ab_cats, Bool.false_eq_true, if_true, if_false, ab_shf, ab_shw, Int.le_refl, Classical.not_not, Int.zero_add, forall_const, ↓ab_itT, ↓ab_itF, ab_anT, ab_w32_id, ab_rdf_ne, ab_rdw_ne, ab_rdw_eq, ab_rdf_in, ab_td2, ab_tm2, ab_ifF]
        exact hQ _ (ac_end1 ac_mq0).1 (ac_end1 ac_mq0).2.1 (ac_end1 ac_mq0).2.2
    · have eT : ac_cT κ b p q days = 1 := by (unfold ac_cT ac_pT; rw [if_neg (c := ac_isB κ b ∧ ac_isU κ p q) (fun w => h1u w.2)]; rfl)
      rw [eT, if_neg (by decide)] at hQ
      simp (disch := omega) only [do_X13_curve, rX13_curve_0, rX13_curve_1, rX13_curve_2, rX13_curve_5, rX13_curve_6, rX13_curve_7, rX13_curve_10, rX13_curve_13, rX13_curve_14, rX13_curve_15, rX13_curve_16, rX13_curve_19, rX13_curve_22, rX13_curve_23, rX13_curve_24, rX13_curve_27, rX13_curve_28, rX13_curve_29, rX13_curve_31, rX13_curve_32, rX13_curve_34, rX13_curve_37, rX13_curve_40, rX13_curve_41, rX13_curve_42, rX13_curve_45, rX13_curve_46, rX13_curve_47, rX13_curve_48, rX13_curve_49, rX13_curve_50, rX13_curve_51, rX13_curve_53, rX13_curve_56, rX13_curve_58, rX13_curve_59, rX13_curve_61, rX13_curve_64, rX13_curve_65, rX13_curve_68, rX13_curve_69, rX13_curve_70, rX13_curve_72, rX13_curve_75, gS_355, g0, c1, c2, cl, cin, c0, cr, if_pos h1, if_neg h1u, ne_eq, not_false_eq_true, not_true_eq_false, true_and, and_true, and_self, true_imp_iff, false_imp_iff, imp_self, Bool.not_false, Bool.not_true, reduceCtorEq, ab_isJ, ab_psh, ab_cats, Bool.false_eq_true, if_true, if_false, ab_shf, ab_shw, Int.le_refl, Classical.not_not, Int.zero_add, forall_const, ↓ab_itT, ↓ab_itF, ab_anT, ab_w32_id, ab_rdf_ne, ab_rdw_ne, ab_rdw_eq, ab_rdf_in, ab_td2, ab_tm2, ab_ifF]
      exact hQ _ (ac_end1 ac_mq0).1 (ac_end1 ac_mq0).2.1 (ac_end1 ac_mq0).2.2
  · have eT : ac_cT κ b p q days = 1 := by (unfold ac_cT ac_pT; rw [if_neg (c := ac_isB κ b ∧ ac_isU κ p q) (fun w => h1 w.1)]; rfl)
    rw [eT, if_neg (by decide)] at hQ
    simp (disch := omega) only [do_X13_curve, rX13_curve_0, rX13_curve_1, rX13_curve_2, rX13_curve_5, rX13_curve_6, rX13_curve_7, rX13_curve_10, rX13_curve_13, rX13_curve_14, rX13_curve_15, rX13_curve_16, rX13_curve_19, rX13_curve_22, rX13_curve_23, rX13_curve_24, rX13_curve_27, rX13_curve_28, rX13_curve_29, rX13_curve_31, rX13_curve_32, rX13_curve_34, rX13_curve_37, rX13_curve_40, rX13_curve_41, rX13_curve_42, rX13_curve_45, rX13_curve_46, rX13_curve_47, rX13_curve_48, rX13_curve_49, rX13_curve_50, rX13_curve_51, rX13_curve_53, rX13_curve_56, rX13_curve_58, rX13_curve_59, rX13_curve_61, rX13_curve_64, rX13_curve_65, rX13_curve_68, rX13_curve_69, rX13_curve_70, rX13_curve_72, rX13_curve_75, gS_355, g0, c1, c2, cl, cin, c0, cr, if_neg h1, ne_eq, not_false_eq_true, not_true_eq_false, true_and, and_true, and_self, true_imp_iff, false_imp_iff, imp_self, Bool.not_false, Bool.not_true, reduceCtorEq, ab_isJ, ab_psh, ab_cats, Bool.false_eq_true, if_true, if_false, ab_shf, ab_shw, Int.le_refl, Classical.not_not, Int.zero_add, forall_const, ↓ab_itT, ↓ab_itF, ab_anT, ab_w32_id, ab_rdf_ne, ab_rdw_ne, ab_rdw_eq, ab_rdf_in, ab_td2, ab_tm2, ab_ifF]
    exact hQ _ (ac_end1 ac_mq0).1 (ac_end1 ac_mq0).2.1 (ac_end1 ac_mq0).2.2
theorem mq_bestDay_l (h : ac_MI σ M κ) (hv : ac_MV σ κ v) (hb : ac_isB κ b) (hp : ac_isP κ p) (hq : ac_isP κ q) (fin : Int) (hQ : ∀ τ, ab_Same ac_PM σ τ → ab_rd τ 355 1 = 0 → ab_rd τ 355 2 = -1 → Q (some (ab_I fin)) τ) : ∀ (n : Nat) (days best : Int) (τ : ab_S), ab_Same ac_PM σ τ → 1 ≤ days → days + n = 25 → 0 ≤ best ∧ best ≤ 24 → ab_it (fun d b' => if ac_OT κ (v b) b' b p q 0 < ac_OT κ (v b) d b p q 0 then d else b') n days best = fin → ab_Run X 239 34 (7, 0, 0) [ab_R 355, ab_I b, ab_I p, ab_I q, ab_I best, ab_I days] [] τ Q := by
  intro n
  induction n with
  | zero =>
    intro days best τ hs h1 hn hb' hf
    have g := (h.same hs).1
    have c6 := fun x Q' => sp_good (X := X) (Q := Q') (v := x) g
    rw [ab_it] at hf
    subst hf
    simp (disch := omega) only [rX13_bestDay_34, rX13_bestDay_36, rX13_bestDay_38, rX13_bestDay_73, rX13_bestDay_74, rX13_bestDay_76, rX13_bestDay_79, c6, gS_355, g, ne_eq, not_false_eq_true, not_true_eq_false, true_and, and_true, and_self, true_imp_iff, false_imp_iff, imp_self, Bool.not_false, Bool.not_true, reduceCtorEq, ab_isJ, ab_psh, ab_cats, Bool.false_eq_true, if_true, if_false, ab_shf, ab_shw, Int.le_refl, Classical.not_not, Int.zero_add, forall_const, ↓ab_itT, ↓ab_itF, ab_anT, ab_w32_id, ab_rdf_ne, ab_rdw_ne, ab_rdw_eq, ab_rdf_in, ab_td2, ab_tm2]
    exact hQ _ (ac_end1 hs).1 (ac_end1 hs).2.1 (ac_end1 hs).2.2
  | succ n ih =>
    intro days best τ hs h1 hn hb' hf
    have hI := h.same hs
    have g := hI.1
    rw [ab_it] at hf
    rw [rX13_bestDay_34]
    simp (disch := omega) only [rX13_bestDay_36, rX13_bestDay_38, rX13_bestDay_41, rX13_bestDay_42, rX13_bestDay_43, rX13_bestDay_44, rX13_bestDay_45, rX13_bestDay_47, gS_355, g, ne_eq, not_false_eq_true, not_true_eq_false, true_and, and_true, and_self, true_imp_iff, false_imp_iff, imp_self, Bool.not_false, Bool.not_true, reduceCtorEq, ab_isJ, ab_psh, ab_cats, Bool.false_eq_true, if_true, if_false, ab_shf, ab_shw, Int.le_refl, Classical.not_not, Int.zero_add, forall_const, ↓ab_itT, ↓ab_itF, ab_anT, ab_w32_id, ab_rdf_ne, ab_rdw_ne, ab_rdw_eq, ab_rdf_in, ab_td2, ab_tm2]
    refine mq_curveOf hI (hv.same hs) hb hp hq (by omega) (fun τ1 hs1 _ => ?_)
    have hs1' := hs.trans (hs1.mono (fun _ _ => ac_PL_PM))
    have hI1 := h.same hs1'
    have g1 := hI1.1
    simp (disch := omega) only [rX13_bestDay_50, rX13_bestDay_51, rX13_bestDay_52, rX13_bestDay_53, rX13_bestDay_54, rX13_bestDay_56, gS_355, g1, ne_eq, not_false_eq_true, not_true_eq_false, true_and, and_true, and_self, true_imp_iff, false_imp_iff, imp_self, Bool.not_false, Bool.not_true, reduceCtorEq, ab_isJ, ab_psh, ab_cats, Bool.false_eq_true, if_true, if_false, ab_shf, ab_shw, Int.le_refl, Classical.not_not, Int.zero_add, forall_const, ↓ab_itT, ↓ab_itF, ab_anT, ab_w32_id, ab_rdf_ne, ab_rdw_ne, ab_rdw_eq, ab_rdf_in, ab_td2, ab_tm2]
    refine mq_curveOf hI1 (hv.same hs1') hb hp hq (by omega) (fun τ2 hs2 _ => ?_)
    have hs2' := hs1'.trans (hs2.mono (fun _ _ => ac_PL_PM))
    by_cases w : ac_OT κ (v b) best b p q 0 < ac_OT κ (v b) days b p q 0
    · rw [if_pos w] at hf
      have key := ih (days + 1) days τ2 hs2' (by omega) (by omega) (by omega) hf
      simp (disch := omega) only [rX13_bestDay_59, rX13_bestDay_60, rX13_bestDay_63, rX13_bestDay_65, rX13_bestDay_67, rX13_bestDay_70, ne_eq, not_false_eq_true, not_true_eq_false, true_and, and_true, and_self, true_imp_iff, false_imp_iff, imp_self, Bool.not_false, Bool.not_true, reduceCtorEq, ab_isJ, ab_psh, ab_cats, Bool.false_eq_true, if_true, if_false, ab_shf, ab_shw, Int.le_refl, Classical.not_not, Int.zero_add, forall_const, ↓ab_itT, ↓ab_itF, ab_anT, ab_w32_id, ab_rdf_ne, ab_rdw_ne, ab_rdw_eq, ab_rdf_in, ab_td2, ab_tm2, ab_ifT]
      all_goals exact key
    · rw [if_neg w] at hf
      have key := ih (days + 1) best τ2 hs2' (by omega) (by omega) (by omega) hf
      have lc : (if ac_OT κ (v b) best b p q 0 < ac_OT κ (v b) days b p q 0 then (1 : Int) else if ac_OT κ (v b) days b p q 0 = ac_OT κ (v b) best b p q 0 then 0 else -1) ≤ 0 := by
        rw [if_neg w]; split <;> omega
      simp (disch := omega) only [rX13_bestDay_59, rX13_bestDay_60, rX13_bestDay_63, rX13_bestDay_65, rX13_bestDay_67, rX13_bestDay_70, ne_eq, not_false_eq_true, not_true_eq_false, true_and, and_true, and_self, true_imp_iff, false_imp_iff, imp_self, Bool.not_false, Bool.not_true, reduceCtorEq, ab_isJ, ab_psh, ab_cats, Bool.false_eq_true, if_true, if_false, ab_shf, ab_shw, Int.le_refl, Classical.not_not, Int.zero_add, forall_const, ↓ab_itT, ↓ab_itF, ab_anT, ab_w32_id, ab_rdf_ne, ab_rdw_ne, ab_rdw_eq, ab_rdf_in, ab_td2, ab_tm2]
      all_goals exact key
theorem mq_bestDay (h : ac_MN σ κ) (hv : ac_MV σ κ v) (hQ : ∀ τ, ab_Same ac_PM σ τ → ab_rd τ 355 1 = ac_pT κ b p q → ab_rd τ 355 2 = -1 → Q (some (ab_I (if ac_pT κ b p q = 0 then ac_bd (fun d => ac_OT κ (v b) d b p q 0) else -1))) τ) : ab_Do X 239 [ab_R 355, ab_I b, ab_I p, ab_I q] σ Q := by
  have h' := h.same ac_mq0
  have g0 := h.1
  have g := h'.1
  have c1 := fun b Q' => mq_isBone (X := X) (Q := Q') (b := b) h'
  have c2 := fun p q Q' => mq_isPair (X := X) (Q := Q') (p := p) (q := q) h'
  have c1p := fun b Q' => mq_isPerson (X := X) (Q := Q') (b := b) h'
  have cl := fun b arm k Q' => mq_isPlace (X := X) (Q := Q') (b := b) (arm := arm) (k := k) h'
  have cin := fun x lo hi Q' => mq_in (X := X) (σ := ab_wr σ 355 0 0) (Q := Q') (x := x) (lo := lo) (hi := hi)
  have cr := fun v Q' => sp_refused (X := X) (Q := Q') (v := v) g
  have c0 := fun b hp hq mv Q' => mq_rp0 (X := X) (σ := ab_wr σ 355 0 0) (Q := Q') (b := b) (hp := hp) (hq := hq) (mv := mv)
  have hv' := hv.same (τ := ab_wr σ 355 0 0) ac_mq0
  by_cases h1 : ac_isB κ b
  · by_cases h1u : ac_isU κ p q
    · have eP : ac_pT κ b p q = 0 := if_pos ⟨h1, h1u⟩
      obtain ⟨M, hm⟩ := h.mb h1
      rw [eP, if_pos rfl] at hQ
      simp (disch := omega) only [do_X13_bestDay, rX13_bestDay_0, rX13_bestDay_1, rX13_bestDay_2, rX13_bestDay_5, rX13_bestDay_6, rX13_bestDay_7, rX13_bestDay_10, rX13_bestDay_13, rX13_bestDay_14, rX13_bestDay_15, rX13_bestDay_16, rX13_bestDay_19, rX13_bestDay_22, rX13_bestDay_23, rX13_bestDay_24, rX13_bestDay_27, rX13_bestDay_28, rX13_bestDay_29, rX13_bestDay_31, rX13_bestDay_32, gS_355, g0, c1, c2, if_pos h1, if_pos h1u, ne_eq, not_false_eq_true, not_true_eq_false, true_and, and_true, and_self, true_imp_iff, false_imp_iff, imp_self, Bool.not_false, Bool.not_true, reduceCtorEq, ab_isJ, ab_psh, ab_cats, Bool.false_eq_true, if_true, if_false, ab_shf, ab_shw, Int.le_refl, Classical.not_not, Int.zero_add, forall_const, ↓ab_itT, ↓ab_itF, ab_anT, ab_w32_id, ab_rdf_ne, ab_rdw_ne, ab_rdw_eq, ab_rdf_in, ab_td2, ab_tm2]
      exact mq_bestDay_l hm hv h1 h1u.1 h1u.2.1 _ hQ 24 1 0 _ ac_mq0 (by omega) (by omega) (by omega) rfl
    · have eT : ac_pT κ b p q = 1 := by (unfold ac_pT; rw [if_neg (fun w => h1u w.2)])
      rw [eT, if_neg (by decide)] at hQ
      simp (disch := omega) only [do_X13_bestDay, rX13_bestDay_0, rX13_bestDay_1, rX13_bestDay_2, rX13_bestDay_5, rX13_bestDay_6, rX13_bestDay_7, rX13_bestDay_10, rX13_bestDay_13, rX13_bestDay_14, rX13_bestDay_15, rX13_bestDay_16, rX13_bestDay_19, rX13_bestDay_22, rX13_bestDay_23, rX13_bestDay_24, rX13_bestDay_27, rX13_bestDay_28, rX13_bestDay_29, rX13_bestDay_31, rX13_bestDay_32, rX13_bestDay_34, rX13_bestDay_36, rX13_bestDay_38, rX13_bestDay_41, rX13_bestDay_42, rX13_bestDay_43, rX13_bestDay_44, rX13_bestDay_45, rX13_bestDay_47, rX13_bestDay_50, rX13_bestDay_51, rX13_bestDay_52, rX13_bestDay_53, rX13_bestDay_54, rX13_bestDay_56, rX13_bestDay_59, rX13_bestDay_60, rX13_bestDay_63, rX13_bestDay_65, rX13_bestDay_67, rX13_bestDay_70, rX13_bestDay_73, rX13_bestDay_74, rX13_bestDay_76, rX13_bestDay_79, gS_355, g0, c1, c2, cl, cin, c0, cr, if_pos h1, if_neg h1u, ne_eq, not_false_eq_true, not_true_eq_false, true_and, and_true, and_self, true_imp_iff, false_imp_iff, imp_self, Bool.not_false, Bool.not_true, reduceCtorEq, ab_isJ, ab_psh, ab_cats, Bool.false_eq_true, if_true, if_false, ab_shf, ab_shw, Int.le_refl, Classical.not_not, Int.zero_add, forall_const, ↓ab_itT, ↓ab_itF, ab_anT, ab_w32_id, ab_rdf_ne, ab_rdw_ne, ab_rdw_eq, ab_rdf_in, ab_td2, ab_tm2, ab_ifF]
      exact hQ _ (ac_end1 ac_mq0).1 (ac_end1 ac_mq0).2.1 (ac_end1 ac_mq0).2.2
  · have eT : ac_pT κ b p q = 1 := by (unfold ac_pT; rw [if_neg (fun w => h1 w.1)])
    rw [eT, if_neg (by decide)] at hQ
    simp (disch := omega) only [do_X13_bestDay, rX13_bestDay_0, rX13_bestDay_1, rX13_bestDay_2, rX13_bestDay_5, rX13_bestDay_6, rX13_bestDay_7, rX13_bestDay_10, rX13_bestDay_13, rX13_bestDay_14, rX13_bestDay_15, rX13_bestDay_16, rX13_bestDay_19, rX13_bestDay_22, rX13_bestDay_23, rX13_bestDay_24, rX13_bestDay_27, rX13_bestDay_28, rX13_bestDay_29, rX13_bestDay_31, rX13_bestDay_32, rX13_bestDay_34, rX13_bestDay_36, rX13_bestDay_38, rX13_bestDay_41, rX13_bestDay_42, rX13_bestDay_43, rX13_bestDay_44, rX13_bestDay_45, rX13_bestDay_47, rX13_bestDay_50, rX13_bestDay_51, rX13_bestDay_52, rX13_bestDay_53, rX13_bestDay_54, rX13_bestDay_56, rX13_bestDay_59, rX13_bestDay_60, rX13_bestDay_63, rX13_bestDay_65, rX13_bestDay_67, rX13_bestDay_70, rX13_bestDay_73, rX13_bestDay_74, rX13_bestDay_76, rX13_bestDay_79, gS_355, g0, c1, c2, cl, cin, c0, cr, if_neg h1, ne_eq, not_false_eq_true, not_true_eq_false, true_and, and_true, and_self, true_imp_iff, false_imp_iff, imp_self, Bool.not_false, Bool.not_true, reduceCtorEq, ab_isJ, ab_psh, ab_cats, Bool.false_eq_true, if_true, if_false, ab_shf, ab_shw, Int.le_refl, Classical.not_not, Int.zero_add, forall_const, ↓ab_itT, ↓ab_itF, ab_anT, ab_w32_id, ab_rdf_ne, ab_rdw_ne, ab_rdw_eq, ab_rdf_in, ab_td2, ab_tm2, ab_ifF]
    exact hQ _ (ac_end1 ac_mq0).1 (ac_end1 ac_mq0).2.1 (ac_end1 ac_mq0).2.2
end
