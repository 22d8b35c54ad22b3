/-! THE REFERENCE: breaksAt, flawed, strain, strength, odds -/
section
variable {X : ab_X} {σ τ : ab_S} {Q : Option ab_V → ab_S → Prop} {M : Int} {κ : ac_K} {v : Int → Int} {kd d b p hp q hq mv fa ft arm k x : Int}
theorem mq_breaksAt (h : ac_MN σ κ) (hv : ac_MV σ κ v) (hQ : ∀ τ, ab_Same ac_PM σ τ → ab_rd τ 355 1 = ac_wT κ b p hp q hq mv → ab_rd τ 355 2 = -1 → Q (some (ab_I (if ac_wT κ b p hp q hq mv = 0 then ac_BP κ (v b) (v (5 + b)) b p hp q hq mv else -1))) τ) : ab_Do X 225 [ab_R 355, ab_I b, ab_I p, ab_I hp, ab_I q, ab_I hq, ab_I mv] σ Q := by
  have h' := h.same ac_mq0
  have g0 := h.1
  have g := h'.1
  have c1 := fun b Q' => mq_isBone (X := X) (Q := Q') (b := b) h'
  have c2 := fun p q Q' => mq_isPair (X := X) (Q := Q') (p := p) (q := q) h'
  have c1p := fun b Q' => mq_isPerson (X := X) (Q := Q') (b := b) h'
  have cl := fun b arm k Q' => mq_isPlace (X := X) (Q := Q') (b := b) (arm := arm) (k := k) h'
  have cin := fun x lo hi Q' => mq_in (X := X) (σ := ab_wr σ 355 0 0) (Q := Q') (x := x) (lo := lo) (hi := hi)
  have cr := fun v Q' => sp_refused (X := X) (Q := Q') (v := v) g
  have c0 := fun b hp hq mv Q' => mq_rp0 (X := X) (σ := ab_wr σ 355 0 0) (Q := Q') (b := b) (hp := hp) (hq := hq) (mv := mv)
  by_cases h1 : ac_isB κ b
  · by_cases h1u : ac_isU κ p q
    · obtain ⟨M, hm⟩ := h.mb h1
      have hm' := hm.same ac_mq0
      have hd := (hv.2.1 b h1.1 h1.2)
      have n5 := hm.2.2.2.2.2.1.1.2
      have e5 : ab_rd (ab_wr σ 355 0 0) 357 (5 + b) = v (5 + b) := by rw [ab_rdw_ne (by omega), hv.1 _ (by omega) (by omega)]
      have c4 := fun hp hq mv Q' => mq_lays (X := X) (Q := Q') (hp := hp) (hq := hq) (mv := mv) hm' e5 h1 h1u.1 h1u.2.1
      have c3 := fun Q' => mq_rp1 (X := X) (Q := Q') (hp := hp) (hq := hq) (mv := mv) hm' h1
      by_cases h2 : ac_isW κ b hp hq mv
      · have eT : ac_wT κ b p hp q hq mv = 0 := by unfold ac_wT; rw [if_pos ⟨h1, h1u⟩, if_pos h2]
        rw [eT, if_pos rfl] at hQ
        have nb0 := ac_n_b hm.2.2.2.2 h1 (Or.inl rfl)
        have nb1 := ac_n_b hm.2.2.2.2 h1 (Or.inr rfl)
        unfold ac_n at nb0 nb1
        have sL := ac_mq0.trans ((ac_ly_same (σ := ab_wr σ 355 0 0) (κ := κ) (d := v (5 + b)) (b := b) (p := p) (hp := hp) (q := q) (hq := hq) (mv := mv)).mono (fun _ _ => ac_PL_PM))
        have hB : ac_MB κ (v (5 + b)) b p hp q hq := ⟨h1, h1u.1, h1u.2.1, hd.2, by omega, by omega⟩
        have c5 := fun Q' => mq_comes (X := X) (Q := Q') (kd := v b) (fa := -1) (ft := ab_rd (ac_ly (ab_wr σ 355 0 0) κ (v (5 + b)) b p hp q hq mv) 355 24) (hm.same sL) ac_ly_ML hB ac_ly_fa rfl (by rw [sL.2.2 357 b (by unfold ac_PM; omega), hv.1 b (by omega) (by omega)])
        rw [ac_row_m (Or.inl rfl), ac_row_m (Or.inr rfl)] at c5
        have sC := sL.trans ((ac_cs_same (σ := ac_ly (ab_wr σ 355 0 0) κ (v (5 + b)) b p hp q hq mv) (cc := ac_C κ (v b) (v (5 + b)) b p hp q hq mv 0 0) (w0 := ac_W (ac_N κ p q hp p (ac_m0 mv)) (ac_brs (ac_S κ (v (5 + b)) b 0 p) 0) (ac_n κ b 0)) (w1 := ac_W (ac_N κ p q hq q (ac_m1 mv)) (ac_brs (ac_S κ (v (5 + b)) b 1 q) 0) (ac_n κ b 1))).mono (fun _ _ => ac_PB_PM))
        have x25 := ac_cs_25 (σ := ac_ly (ab_wr σ 355 0 0) κ (v (5 + b)) b p hp q hq mv) (cc := ac_C κ (v b) (v (5 + b)) b p hp q hq mv 0 0) (w0 := ac_W (ac_N κ p q hp p (ac_m0 mv)) (ac_brs (ac_S κ (v (5 + b)) b 0 p) 0) (ac_n κ b 0)) (w1 := ac_W (ac_N κ p q hq q (ac_m1 mv)) (ac_brs (ac_S κ (v (5 + b)) b 1 q) 0) (ac_n κ b 1))
        generalize ac_cs (ac_ly (ab_wr σ 355 0 0) κ (v (5 + b)) b p hp q hq mv) _ _ _ = υ at c5 sC x25
        have gu := (hm.same sC).1
        have gL := (hm.same sL).1
        have c6 := fun x Q' => sp_good (X := X) (Q := Q') (v := x) gu
        have w0b := ac_W_b (stn := ac_N κ p q hp p (ac_m0 mv)) (br := ac_brs (ac_S κ (v (5 + b)) b 0 p) 0) (n := ac_n κ b 0) (by unfold ac_n; omega)
        have w1b := ac_W_b (stn := ac_N κ p q hq q (ac_m1 mv)) (br := ac_brs (ac_S κ (v (5 + b)) b 1 q) 0) (n := ac_n κ b 1) (by unfold ac_n; omega)
        unfold ac_BP ac_W0 ac_W1 at hQ
        generalize ac_W (ac_N κ p q hp p (ac_m0 mv)) (ac_brs (ac_S κ (v (5 + b)) b 0 p) 0) (ac_n κ b 0) = w0 at *
        generalize ac_W (ac_N κ p q hq q (ac_m1 mv)) (ac_brs (ac_S κ (v (5 + b)) b 1 q) 0) (ac_n κ b 1) = w1 at *
        unfold ac_n at w0b w1b
        by_cases y0 : ac_C κ (v b) (v (5 + b)) b p hp q hq mv 0 0 = 0
        · rw [if_pos y0] at hQ x25
          have x26 := x25.2.1 y0
          have x25 := x25.1
          simp (disch := omega) only [do_X13_breaksAt, rX13_breaksAt_0, rX13_breaksAt_1, rX13_breaksAt_2, rX13_breaksAt_5, rX13_breaksAt_6, rX13_breaksAt_7, rX13_breaksAt_8, rX13_breaksAt_11, rX13_breaksAt_14, rX13_breaksAt_15, rX13_breaksAt_16, rX13_breaksAt_18, rX13_breaksAt_21, rX13_breaksAt_24, rX13_breaksAt_25, rX13_breaksAt_28, rX13_breaksAt_29, rX13_breaksAt_30, rX13_breaksAt_31, rX13_breaksAt_33, rX13_breaksAt_35, rX13_breaksAt_38, rX13_breaksAt_40, rX13_breaksAt_42, rX13_breaksAt_45, rX13_breaksAt_46, rX13_breaksAt_48, rX13_breaksAt_51, rX13_breaksAt_52, rX13_breaksAt_53, rX13_breaksAt_54, rX13_breaksAt_55, rX13_breaksAt_56, rX13_breaksAt_58, rX13_breaksAt_60, rX13_breaksAt_62, rX13_breaksAt_65, rX13_breaksAt_66, rX13_breaksAt_69I, rX13_breaksAt_69R, rX13_breaksAt_70, rX13_breaksAt_71, rX13_breaksAt_72, rX13_breaksAt_75, rX13_breaksAt_76, rX13_breaksAt_79, rX13_breaksAt_81, rX13_breaksAt_84, rX13_breaksAt_86, rX13_breaksAt_87, rX13_breaksAt_90, rX13_breaksAt_91, rX13_breaksAt_92, rX13_breaksAt_95, rX13_breaksAt_96, rX13_breaksAt_99, gS_355, g0, gL, gu, c1, c2, if_pos h1, if_pos h1u, c3, if_pos h2, c4, c5, c6, x25, x26, ne_eq, not_false_eq_true, not_true_eq_false, true_and, and_true, and_self, true_imp_iff, false_imp_iff, imp_self, Bool.not_false, Bool.not_true, reduceCtorEq, ab_isJ, ab_psh, ab_cats, Bool.false_eq_true, if_true, if_false, ab_shf, ab_shw, Int.le_refl, Classical.not_not, Int.zero_add, forall_const, ↓ab_itT, ↓ab_itF, ab_anT, ab_w32_id, ab_rdf_ne, ab_rdw_ne, ab_rdw_eq, ab_rdf_in, ab_td2, ab_tm2]
          exact hQ _ (ac_end1 sC).1 (ac_end1 sC).2.1 (ac_end1 sC).2.2
        · by_cases y1 : ac_C κ (v b) (v (5 + b)) b p hp q hq mv 0 0 = 1
          · rw [if_neg y0, if_pos y1] at hQ x25
            have x26 := x25.2.2 y1
            have x25 := x25.1
            simp (disch := omega) only [do_X13_breaksAt, rX13_breaksAt_0, rX13_breaksAt_1, rX13_breaksAt_2, rX13_breaksAt_5, rX13_breaksAt_6, rX13_breaksAt_7, rX13_breaksAt_8, rX13_breaksAt_11, rX13_breaksAt_14, rX13_breaksAt_15, rX13_breaksAt_16, rX13_breaksAt_18, rX13_breaksAt_21, rX13_breaksAt_24, rX13_breaksAt_25, rX13_breaksAt_28, rX13_breaksAt_29, rX13_breaksAt_30, rX13_breaksAt_31, rX13_breaksAt_33, rX13_breaksAt_35, rX13_breaksAt_38, rX13_breaksAt_40, rX13_breaksAt_42, rX13_breaksAt_45, rX13_breaksAt_46, rX13_breaksAt_48, rX13_breaksAt_51, rX13_breaksAt_52, rX13_breaksAt_53, rX13_breaksAt_54, rX13_breaksAt_55, rX13_breaksAt_56, rX13_breaksAt_58, rX13_breaksAt_60, rX13_breaksAt_62, rX13_breaksAt_65, rX13_breaksAt_66, rX13_breaksAt_69I, rX13_breaksAt_69R, rX13_breaksAt_70, rX13_breaksAt_71, rX13_breaksAt_72, rX13_breaksAt_75, rX13_breaksAt_76, rX13_breaksAt_79, rX13_breaksAt_81, rX13_breaksAt_84, rX13_breaksAt_86, rX13_breaksAt_87, rX13_breaksAt_90, rX13_breaksAt_91, rX13_breaksAt_92, rX13_breaksAt_95, rX13_breaksAt_96, rX13_breaksAt_99, gS_355, g0, gL, gu, c1, c2, if_pos h1, if_pos h1u, c3, if_pos h2, c4, c5, c6, x25, x26, ne_eq, not_false_eq_true, not_true_eq_false, true_and, and_true, and_self, true_imp_iff, false_imp_iff, imp_self, Bool.not_false, Bool.not_true, reduceCtorEq, ab_isJ, ab_psh, ab_cats, Bool.false_eq_true, if_true, if_false, ab_shf, ab_shw, Int.le_refl, Classical.not_not, Int.zero_add, forall_const, ↓ab_itT, ↓ab_itF, ab_anT, ab_w32_id, ab_rdf_ne, ab_rdw_ne, ab_rdw_eq, ab_rdf_in, ab_td2, ab_tm2]
            rw [show (10 : Int) * 0 + w0 = w0 by omega]
            exact hQ _ (ac_end1 sC).1 (ac_end1 sC).2.1 (ac_end1 sC).2.2
          · rw [if_neg y0, if_neg y1] at hQ x25
            have x25 := x25.1
            simp (disch := omega) only [do_X13_breaksAt, rX13_breaksAt_0, rX13_breaksAt_1, rX13_breaksAt_2, rX13_breaksAt_5, rX13_breaksAt_6, rX13_breaksAt_7, rX13_breaksAt_8, rX13_breaksAt_11, rX13_breaksAt_14, rX13_breaksAt_15, rX13_breaksAt_16, rX13_breaksAt_18, rX13_breaksAt_21, rX13_breaksAt_24, rX13_breaksAt_25, rX13_breaksAt_28, rX13_breaksAt_29, rX13_breaksAt_30, rX13_breaksAt_31, rX13_breaksAt_33, rX13_breaksAt_35, rX13_breaksAt_38, rX13_breaksAt_40, rX13_breaksAt_42, rX13_breaksAt_45, rX13_breaksAt_46, rX13_breaksAt_48, rX13_breaksAt_51, rX13_breaksAt_52, rX13_breaksAt_53, rX13_breaksAt_54, rX13_breaksAt_55, rX13_breaksAt_56, rX13_breaksAt_58, rX13_breaksAt_60, rX13_breaksAt_62, rX13_breaksAt_65, rX13_breaksAt_66, rX13_breaksAt_69I, rX13_breaksAt_69R, rX13_breaksAt_70, rX13_breaksAt_71, rX13_breaksAt_72, rX13_breaksAt_75, rX13_breaksAt_76, rX13_breaksAt_79, rX13_breaksAt_81, rX13_breaksAt_84, rX13_breaksAt_86, rX13_breaksAt_87, rX13_breaksAt_90, rX13_breaksAt_91, rX13_breaksAt_92, rX13_breaksAt_95, rX13_breaksAt_96, rX13_breaksAt_99, gS_355, g0, gL, gu, c1, c2, if_pos h1, if_pos h1u, c3, if_pos h2, c4, c5, c6, x25, ne_eq, not_false_eq_true, not_true_eq_false, true_and, and_true, and_self, true_imp_iff, false_imp_iff, imp_self, Bool.not_false, Bool.not_true, reduceCtorEq, ab_isJ, ab_psh, ab_cats, Bool.false_eq_true, if_true, if_false, ab_shf, ab_shw, Int.le_refl, Classical.not_not, Int.zero_add, forall_const, ↓ab_itT, ↓ab_itF, ab_anT, ab_w32_id, ab_rdf_ne, ab_rdw_ne, ab_rdw_eq, ab_rdf_in, ab_td2, ab_tm2]
            exact hQ _ (ac_end1 sC).1 (ac_end1 sC).2.1 (ac_end1 sC).2.2
      · have eT : ac_wT κ b p hp q hq mv = 2 := by (unfold ac_wT; rw [if_pos ⟨h1, h1u⟩, if_neg h2])
        rw [eT, if_neg (by decide)] at hQ
        simp (disch := omega) only [do_X13_breaksAt, rX13_breaksAt_0, rX13_breaksAt_1, rX13_breaksAt_2, rX13_breaksAt_5, rX13_breaksAt_6, rX13_breaksAt_7, rX13_breaksAt_8, rX13_breaksAt_11, rX13_breaksAt_14, rX13_breaksAt_15, rX13_breaksAt_16, rX13_breaksAt_18, rX13_breaksAt_21, rX13_breaksAt_24, rX13_breaksAt_25, rX13_breaksAt_28, rX13_breaksAt_29, rX13_breaksAt_30, rX13_breaksAt_31, rX13_breaksAt_33, rX13_breaksAt_35, rX13_breaksAt_38, rX13_breaksAt_40, rX13_breaksAt_42, rX13_breaksAt_45, rX13_breaksAt_46, rX13_breaksAt_48, rX13_breaksAt_51, rX13_breaksAt_52, rX13_breaksAt_53, rX13_breaksAt_54, rX13_breaksAt_55, rX13_breaksAt_56, rX13_breaksAt_58, rX13_breaksAt_60, rX13_breaksAt_62, rX13_breaksAt_65, rX13_breaksAt_66, rX13_breaksAt_69I, rX13_breaksAt_69R, rX13_breaksAt_70, rX13_breaksAt_71, rX13_breaksAt_72, rX13_breaksAt_75, rX13_breaksAt_76, rX13_breaksAt_79, rX13_breaksAt_81, rX13_breaksAt_84, rX13_breaksAt_86, rX13_breaksAt_87, rX13_breaksAt_90, rX13_breaksAt_91, rX13_breaksAt_92, rX13_breaksAt_95, rX13_breaksAt_96, rX13_breaksAt_99, gS_355, g0, c1, c2, cl, cin, c0, cr, if_pos h1, if_pos h1u, c3, if_neg h2, ne_eq, not_false_eq_true, not_true_eq_false, true_and, and_true, and_self, true_imp_iff, false_imp_iff, imp_self, Bool.not_false, Bool.not_true, reduceCtorEq, ab_isJ, ab_psh, ab_cats, Bool.false_eq_true, if_true, if_false, ab_shf, ab_shw, Int.le_refl, Classical.not_not, Int.zero_add, forall_const, ↓ab_itT, ↓ab_itF, ab_anT, ab_w32_id, ab_rdf_ne, ab_rdw_ne, ab_rdw_eq, ab_rdf_in, ab_td2, ab_tm2, ab_ifF]
        exact hQ _ (ac_end1 ac_mq0).1 (ac_end1 ac_mq0).2.1 (ac_end1 ac_mq0).2.2
    · have eT : ac_wT κ b p hp q hq mv = 1 := by (unfold ac_wT; rw [if_neg (fun w => h1u w.2)])
      rw [eT, if_neg (by decide)] at hQ
      simp (disch := omega) only [do_X13_breaksAt, rX13_breaksAt_0, rX13_breaksAt_1, rX13_breaksAt_2, rX13_breaksAt_5, rX13_breaksAt_6, rX13_breaksAt_7, rX13_breaksAt_8, rX13_breaksAt_11, rX13_breaksAt_14, rX13_breaksAt_15, rX13_breaksAt_16, rX13_breaksAt_18, rX13_breaksAt_21, rX13_breaksAt_24, rX13_breaksAt_25, rX13_breaksAt_28, rX13_breaksAt_29, rX13_breaksAt_30, rX13_breaksAt_31, rX13_breaksAt_33, rX13_breaksAt_35, rX13_breaksAt_38, rX13_breaksAt_40, rX13_breaksAt_42, rX13_breaksAt_45, rX13_breaksAt_46, rX13_breaksAt_48, rX13_breaksAt_51, rX13_breaksAt_52, rX13_breaksAt_53, rX13_breaksAt_54, rX13_breaksAt_55, rX13_breaksAt_56, rX13_breaksAt_58, rX13_breaksAt_60, rX13_breaksAt_62, rX13_breaksAt_65, rX13_breaksAt_66, rX13_breaksAt_69I, rX13_breaksAt_69R, rX13_breaksAt_70, rX13_breaksAt_71, rX13_breaksAt_72, rX13_breaksAt_75, rX13_breaksAt_76, rX13_breaksAt_79, rX13_breaksAt_81, rX13_breaksAt_84, rX13_breaksAt_86, rX13_breaksAt_87, rX13_breaksAt_90, rX13_breaksAt_91, rX13_breaksAt_92, rX13_breaksAt_95, rX13_breaksAt_96, rX13_breaksAt_99, gS_355, g0, c1, c2, cl, cin, c0, cr, if_pos h1, if_neg h1u, ne_eq, not_false_eq_true, not_true_eq_false, true_and, and_true, and_self, true_imp_iff, false_imp_iff, imp_self, Bool.not_false, Bool.not_true, reduceCtorEq, ab_isJ, ab_psh, ab_cats, Bool.false_eq_true, if_true, if_false, ab_shf, ab_shw, Int.le_refl, Classical.not_not, Int.zero_add, forall_const, ↓ab_itT, ↓ab_itF, ab_anT, ab_w32_id, ab_rdf_ne, ab_rdw_ne, ab_rdw_eq, ab_rdf_in, ab_td2, ab_tm2, ab_ifF]
      exact hQ _ (ac_end1 ac_mq0).1 (ac_end1 ac_mq0).2.1 (ac_end1 ac_mq0).2.2
  · have eT : ac_wT κ b p hp q hq mv = 1 := by (unfold ac_wT; rw [if_neg (fun w => h1 w.1)])
    rw [eT, if_neg (by decide)] at hQ
    simp (disch := omega) only [do_X13_breaksAt, rX13_breaksAt_0, rX13_breaksAt_1, rX13_breaksAt_2, rX13_breaksAt_5, rX13_breaksAt_6, rX13_breaksAt_7, rX13_breaksAt_8, rX13_breaksAt_11, rX13_breaksAt_14, rX13_breaksAt_15, rX13_breaksAt_16, rX13_breaksAt_18, rX13_breaksAt_21, rX13_breaksAt_24, rX13_breaksAt_25, rX13_breaksAt_28, rX13_breaksAt_29, rX13_breaksAt_30, rX13_breaksAt_31, rX13_breaksAt_33, rX13_breaksAt_35, rX13_breaksAt_38, rX13_breaksAt_40, rX13_breaksAt_42, rX13_breaksAt_45, rX13_breaksAt_46, rX13_breaksAt_48, rX13_breaksAt_51, rX13_breaksAt_52, rX13_breaksAt_53, rX13_breaksAt_54, rX13_breaksAt_55, rX13_breaksAt_56, rX13_breaksAt_58, rX13_breaksAt_60, rX13_breaksAt_62, rX13_breaksAt_65, rX13_breaksAt_66, rX13_breaksAt_69I, rX13_breaksAt_69R, rX13_breaksAt_70, rX13_breaksAt_71, rX13_breaksAt_72, rX13_breaksAt_75, rX13_breaksAt_76, rX13_breaksAt_79, rX13_breaksAt_81, rX13_breaksAt_84, rX13_breaksAt_86, rX13_breaksAt_87, rX13_breaksAt_90, rX13_breaksAt_91, rX13_breaksAt_92, rX13_breaksAt_95, rX13_breaksAt_96, rX13_breaksAt_99, gS_355, g0, c1, c2, cl, cin, c0, cr, if_neg h1, ne_eq, not_false_eq_true, not_true_eq_false, true_and, and_true, and_self, true_imp_iff, false_imp_iff, imp_self, Bool.not_false, Bool.not_true, reduceCtorEq, ab_isJ, ab_psh, ab_cats, Bool.false_eq_true, if_true, if_false, ab_shf, ab_shw, Int.le_refl, Classical.not_not, Int.zero_add, forall_const, ↓ab_itT, ↓ab_itF, ab_anT, ab_w32_id, ab_rdf_ne, ab_rdw_ne, ab_rdw_eq, ab_rdf_in, ab_td2, ab_tm2, ab_ifF]
    exact hQ _ (ac_end1 ac_mq0).1 (ac_end1 ac_mq0).2.1 (ac_end1 ac_mq0).2.2
theorem mq_flawed (h : ac_MN σ κ) (hv : ac_MV σ κ v) (hQ : ∀ τ, ab_Same ac_PM σ τ → ab_rd τ 355 1 = ac_lT κ b arm k p hp q hq mv → ab_rd τ 355 2 = -1 → Q (some (ab_I (if ac_lT κ b arm k p hp q hq mv = 0 then ac_C κ (v b) (v (5 + b)) b p hp q hq mv (if arm = 0 then k + 1 else 0) (if arm = 0 then 0 else k + 1) else -1))) τ) : ab_Do X 226 [ab_R 355, ab_I b, ab_I p, ab_I hp, ab_I q, ab_I hq, ab_I mv, ab_I arm, ab_I k] σ Q := by
  have h' := h.same ac_mq0
  have g0 := h.1
  have g := h'.1
  have c1 := fun b Q' => mq_isBone (X := X) (Q := Q') (b := b) h'
  have c2 := fun p q Q' => mq_isPair (X := X) (Q := Q') (p := p) (q := q) h'
  have c1p := fun b Q' => mq_isPerson (X := X) (Q := Q') (b := b) h'
  have cl := fun b arm k Q' => mq_isPlace (X := X) (Q := Q') (b := b) (arm := arm) (k := k) h'
  have cin := fun x lo hi Q' => mq_in (X := X) (σ := ab_wr σ 355 0 0) (Q := Q') (x := x) (lo := lo) (hi := hi)
  have cr := fun v Q' => sp_refused (X := X) (Q := Q') (v := v) g
  have c0 := fun b hp hq mv Q' => mq_rp0 (X := X) (σ := ab_wr σ 355 0 0) (Q := Q') (b := b) (hp := hp) (hq := hq) (mv := mv)
  by_cases hl : ac_isL κ b arm k
  · have h1 : ac_isB κ b := hl.1
    by_cases h1u : ac_isU κ p q
    · obtain ⟨M, hm⟩ := h.mb h1
      have hm' := hm.same ac_mq0
      have hd := (hv.2.1 b h1.1 h1.2)
      have n5 := hm.2.2.2.2.2.1.1.2
      have e5 : ab_rd (ab_wr σ 355 0 0) 357 (5 + b) = v (5 + b) := by rw [ab_rdw_ne (by omega), hv.1 _ (by omega) (by omega)]
      have c4 := fun hp hq mv Q' => mq_lays (X := X) (Q := Q') (hp := hp) (hq := hq) (mv := mv) hm' e5 h1 h1u.1 h1u.2.1
      have c3 := fun Q' => mq_rp1 (X := X) (Q := Q') (hp := hp) (hq := hq) (mv := mv) hm' h1
      by_cases h2 : ac_isW κ b hp hq mv
      · have eT : ac_lT κ b arm k p hp q hq mv = 0 := by unfold ac_lT ac_wT; rw [if_pos hl, if_pos ⟨h1, h1u⟩, if_pos h2]
        rw [eT, if_pos rfl] at hQ
        have nb0 := ac_n_b hm.2.2.2.2 h1 (Or.inl rfl)
        have nb1 := ac_n_b hm.2.2.2.2 h1 (Or.inr rfl)
        unfold ac_n at nb0 nb1
        have sL := ac_mq0.trans ((ac_ly_same (σ := ab_wr σ 355 0 0) (κ := κ) (d := v (5 + b)) (b := b) (p := p) (hp := hp) (q := q) (hq := hq) (mv := mv)).mono (fun _ _ => ac_PL_PM))
        have hB : ac_MB κ (v (5 + b)) b p hp q hq := ⟨h1, h1u.1, h1u.2.1, hd.2, by omega, by omega⟩
        have sF := sL.trans ((ab_Same.refl (σ := ac_ly (ab_wr σ 355 0 0) κ (v (5 + b)) b p hp q hq mv) (P := ac_PM)).wr (a := 355) (k := 23) (v := arm) (by unfold ac_PM; omega) |>.wr (a := 355) (k := 24) (v := k) (by unfold ac_PM; omega))
        have sF' := ((ab_Same.refl (σ := ac_ly (ab_wr σ 355 0 0) κ (v (5 + b)) b p hp q hq mv) (P := ac_PB)).wr (a := 355) (k := 23) (v := arm) (by unfold ac_PB; omega) |>.wr (a := 355) (k := 24) (v := k) (by unfold ac_PB; omega))
        have c5 := fun Q' => mq_comes (X := X) (Q := Q') (kd := v b) (fa := arm) (ft := k) (hm.same sF) ((ac_ly_ML (σ := ab_wr σ 355 0 0) (κ := κ) (d := v (5 + b)) (b := b) (p := p) (hp := hp) (q := q) (hq := hq) (mv := mv)).same sF' (fun a f u => by unfold ac_PB at u; omega)) hB (by rw [ab_rdw_ne (by omega), ab_rdw_eq]) ab_rdw_eq (by rw [sF.2.2 357 b (by unfold ac_PM; omega), hv.1 b (by omega) (by omega)])
        have er : ac_row arm k 0 = (if arm = 0 then k + 1 else 0) ∧ ac_row arm k 1 = (if arm = 0 then 0 else k + 1) := by
          unfold ac_row
          rcases hl.2.1 with ha | ha
          · subst ha; exact ⟨rfl, rfl⟩
          · subst ha; exact ⟨rfl, rfl⟩
        rw [er.1, er.2] at c5
        have sC := sF.trans ((ac_cs_same (σ := ab_wr (ab_wr (ac_ly (ab_wr σ 355 0 0) κ (v (5 + b)) b p hp q hq mv) 355 23 arm) 355 24 k) (cc := ac_C κ (v b) (v (5 + b)) b p hp q hq mv (if arm = 0 then k + 1 else 0) (if arm = 0 then 0 else k + 1)) (w0 := ac_W (ac_N κ p q hp p (ac_m0 mv)) (ac_brs (ac_S κ (v (5 + b)) b 0 p) (if arm = 0 then k + 1 else 0)) (ac_n κ b 0)) (w1 := ac_W (ac_N κ p q hq q (ac_m1 mv)) (ac_brs (ac_S κ (v (5 + b)) b 1 q) (if arm = 0 then 0 else k + 1)) (ac_n κ b 1))).mono (fun _ _ => ac_PB_PM))
        generalize ac_cs _ _ _ _ = υ at c5 sC
        have gu := (hm.same sC).1
        have gL := (hm.same sL).1
        have c6 := fun x Q' => sp_good (X := X) (Q := Q') (v := x) gu
        simp (disch := omega) only [do_X13_flawed, rX13_flawed_0, rX13_flawed_1, rX13_flawed_2, rX13_flawed_5, rX13_flawed_6, rX13_flawed_7, rX13_flawed_8, rX13_flawed_10, rX13_flawed_12, rX13_flawed_15, rX13_flawed_18, rX13_flawed_19, rX13_flawed_20, rX13_flawed_22, rX13_flawed_25, rX13_flawed_28, rX13_flawed_29, rX13_flawed_32, rX13_flawed_33, rX13_flawed_34, rX13_flawed_35, rX13_flawed_37, rX13_flawed_39, rX13_flawed_42, rX13_flawed_44, rX13_flawed_46, rX13_flawed_49, rX13_flawed_50, rX13_flawed_52, rX13_flawed_55, rX13_flawed_56, rX13_flawed_57, rX13_flawed_58, rX13_flawed_59, rX13_flawed_60, rX13_flawed_62, rX13_flawed_64, rX13_flawed_66, rX13_flawed_69, rX13_flawed_70, rX13_flawed_72, rX13_flawed_75, rX13_flawed_76, rX13_flawed_78, rX13_flawed_81, rX13_flawed_82, rX13_flawed_83, rX13_flawed_86, rX13_flawed_89, gS_355, g0, gL, gu, cl, if_pos hl, c2, if_pos h1u, c3, if_pos h2, c4, c5, c6, ne_eq, not_false_eq_true, not_true_eq_false, true_and, and_true, and_self, true_imp_iff, false_imp_iff, imp_self, Bool.not_false, Bool.not_true, reduceCtorEq, ab_isJ, ab_psh, ab_cats, Bool.false_eq_true, if_true, if_false, ab_shf, ab_shw, Int.le_refl, Classical.not_not, Int.zero_add, forall_const, ↓ab_itT, ↓ab_itF, ab_anT, ab_w32_id, ab_rdf_ne, ab_rdw_ne, ab_rdw_eq, ab_rdf_in, ab_td2, ab_tm2]
        exact hQ _ (ac_end1 sC).1 (ac_end1 sC).2.1 (ac_end1 sC).2.2
      · have eT : ac_lT κ b arm k p hp q hq mv = 2 := by (unfold ac_lT ac_wT; rw [if_pos hl, if_pos ⟨h1, h1u⟩, if_neg h2])
        rw [eT, if_neg (by decide)] at hQ
        simp (disch := omega) only [do_X13_flawed, rX13_flawed_0, rX13_flawed_1, rX13_flawed_2, rX13_flawed_5, rX13_flawed_6, rX13_flawed_7, rX13_flawed_8, rX13_flawed_10, rX13_flawed_12, rX13_flawed_15, rX13_flawed_18, rX13_flawed_19, rX13_flawed_20, rX13_flawed_22, rX13_flawed_25, rX13_flawed_28, rX13_flawed_29, rX13_flawed_32, rX13_flawed_33, rX13_flawed_34, rX13_flawed_35, rX13_flawed_37, rX13_flawed_39, rX13_flawed_42, rX13_flawed_44, rX13_flawed_46, rX13_flawed_49, rX13_flawed_50, rX13_flawed_52, rX13_flawed_55, rX13_flawed_56, rX13_flawed_57, rX13_flawed_58, rX13_flawed_59, rX13_flawed_60, rX13_flawed_62, rX13_flawed_64, rX13_flawed_66, rX13_flawed_69, rX13_flawed_70, rX13_flawed_72, rX13_flawed_75, rX13_flawed_76, rX13_flawed_78, rX13_flawed_81, rX13_flawed_82, rX13_flawed_83, rX13_flawed_86, rX13_flawed_89, gS_355, g0, c1, c2, cl, cin, c0, cr, if_pos hl, if_pos h1u, c3, if_neg h2, ne_eq, not_false_eq_true, not_true_eq_false, true_and, and_true, and_self, true_imp_iff, false_imp_iff, imp_self, Bool.not_false, Bool.not_true, reduceCtorEq, ab_isJ, ab_psh, ab_cats, Bool.false_eq_true, if_true, if_false, ab_shf, ab_shw, Int.le_refl, Classical.not_not, Int.zero_add, forall_const, ↓ab_itT, ↓ab_itF, ab_anT, ab_w32_id, ab_rdf_ne, ab_rdw_ne, ab_rdw_eq, ab_rdf_in, ab_td2, ab_tm2, ab_ifF]
        exact hQ _ (ac_end1 ac_mq0).1 (ac_end1 ac_mq0).2.1 (ac_end1 ac_mq0).2.2
    · have eT : ac_lT κ b arm k p hp q hq mv = 1 := by (unfold ac_lT ac_wT; rw [if_pos hl, if_neg (fun w => h1u w.2)])
      rw [eT, if_neg (by decide)] at hQ
      simp (disch := omega) only [do_X13_flawed, rX13_flawed_0, rX13_flawed_1, rX13_flawed_2, rX13_flawed_5, rX13_flawed_6, rX13_flawed_7, rX13_flawed_8, rX13_flawed_10, rX13_flawed_12, rX13_flawed_15, rX13_flawed_18, rX13_flawed_19, rX13_flawed_20, rX13_flawed_22, rX13_flawed_25, rX13_flawed_28, rX13_flawed_29, rX13_flawed_32, rX13_flawed_33, rX13_flawed_34, rX13_flawed_35, rX13_flawed_37, rX13_flawed_39, rX13_flawed_42, rX13_flawed_44, rX13_flawed_46, rX13_flawed_49, rX13_flawed_50, rX13_flawed_52, rX13_flawed_55, rX13_flawed_56, rX13_flawed_57, rX13_flawed_58, rX13_flawed_59, rX13_flawed_60, rX13_flawed_62, rX13_flawed_64, rX13_flawed_66, rX13_flawed_69, rX13_flawed_70, rX13_flawed_72, rX13_flawed_75, rX13_flawed_76, rX13_flawed_78, rX13_flawed_81, rX13_flawed_82, rX13_flawed_83, rX13_flawed_86, rX13_flawed_89, gS_355, g0, c1, c2, cl, cin, c0, cr, if_pos hl, if_neg h1u, ne_eq, not_false_eq_true, not_true_eq_false, true_and, and_true, and_self, true_imp_iff, false_imp_iff, imp_self, Bool.not_false, Bool.not_true, reduceCtorEq, ab_isJ, ab_psh, ab_cats, Bool.false_eq_true, if_true, if_false, ab_shf, ab_shw, Int.le_refl, Classical.not_not, Int.zero_add, forall_const, ↓ab_itT, ↓ab_itF, ab_anT, ab_w32_id, ab_rdf_ne, ab_rdw_ne, ab_rdw_eq, ab_rdf_in, ab_td2, ab_tm2, ab_ifF]
      exact hQ _ (ac_end1 ac_mq0).1 (ac_end1 ac_mq0).2.1 (ac_end1 ac_mq0).2.2
  · have eT : ac_lT κ b arm k p hp q hq mv = 1 := by (unfold ac_lT; rw [if_neg hl])
    rw [eT, if_neg (by decide)] at hQ
    simp (disch := omega) only [do_X13_flawed, rX13_flawed_0, rX13_flawed_1, rX13_flawed_2, rX13_flawed_5, rX13_flawed_6, rX13_flawed_7, rX13_flawed_8, rX13_flawed_10, rX13_flawed_12, rX13_flawed_15, rX13_flawed_18, rX13_flawed_19, rX13_flawed_20, rX13_flawed_22, rX13_flawed_25, rX13_flawed_28, rX13_flawed_29, rX13_flawed_32, rX13_flawed_33, rX13_flawed_34, rX13_flawed_35, rX13_flawed_37, rX13_flawed_39, rX13_flawed_42, rX13_flawed_44, rX13_flawed_46, rX13_flawed_49, rX13_flawed_50, rX13_flawed_52, rX13_flawed_55, rX13_flawed_56, rX13_flawed_57, rX13_flawed_58, rX13_flawed_59, rX13_flawed_60, rX13_flawed_62, rX13_flawed_64, rX13_flawed_66, rX13_flawed_69, rX13_flawed_70, rX13_flawed_72, rX13_flawed_75, rX13_flawed_76, rX13_flawed_78, rX13_flawed_81, rX13_flawed_82, rX13_flawed_83, rX13_flawed_86, rX13_flawed_89, gS_355, g0, c1, c2, cl, cin, c0, cr, if_neg hl, ne_eq, not_false_eq_true, not_true_eq_false, true_and, and_true, and_self, true_imp_iff, false_imp_iff, imp_self, Bool.not_false, Bool.not_true, reduceCtorEq, ab_isJ, ab_psh, ab_cats, Bool.false_eq_true, if_true, if_false, ab_shf, ab_shw, Int.le_refl, Classical.not_not, Int.zero_add, forall_const, ↓ab_itT, ↓ab_itF, ab_anT, ab_w32_id, ab_rdf_ne, ab_rdw_ne, ab_rdw_eq, ab_rdf_in, ab_td2, ab_tm2, ab_ifF]
    exact hQ _ (ac_end1 ac_mq0).1 (ac_end1 ac_mq0).2.1 (ac_end1 ac_mq0).2.2
theorem mq_strain (h : ac_MN σ κ) (hv : ac_MV σ κ v) (hQ : ∀ τ, ab_Same ac_PM σ τ → ab_rd τ 355 1 = ac_lT κ b arm k p hp q hq mv → ab_rd τ 355 2 = -1 → Q (some (ab_I (if ac_lT κ b arm k p hp q hq mv = 0 then (if arm = 0 then ac_N κ p q hp p (ac_m0 mv) k else ac_N κ p q hq q (ac_m1 mv) k) else -1))) τ) : ab_Do X 223 [ab_R 355, ab_I b, ab_I arm, ab_I k, ab_I p, ab_I hp, ab_I q, ab_I hq, ab_I mv] σ Q := by
  have h' := h.same ac_mq0
  have g0 := h.1
  have g := h'.1
  have c1 := fun b Q' => mq_isBone (X := X) (Q := Q') (b := b) h'
  have c2 := fun p q Q' => mq_isPair (X := X) (Q := Q') (p := p) (q := q) h'
  have c1p := fun b Q' => mq_isPerson (X := X) (Q := Q') (b := b) h'
  have cl := fun b arm k Q' => mq_isPlace (X := X) (Q := Q') (b := b) (arm := arm) (k := k) h'
  have cin := fun x lo hi Q' => mq_in (X := X) (σ := ab_wr σ 355 0 0) (Q := Q') (x := x) (lo := lo) (hi := hi)
  have cr := fun v Q' => sp_refused (X := X) (Q := Q') (v := v) g
  have c0 := fun b hp hq mv Q' => mq_rp0 (X := X) (σ := ab_wr σ 355 0 0) (Q := Q') (b := b) (hp := hp) (hq := hq) (mv := mv)
  by_cases hl : ac_isL κ b arm k
  · have h1 : ac_isB κ b := hl.1
    by_cases h1u : ac_isU κ p q
    · obtain ⟨M, hm⟩ := h.mb h1
      have hm' := hm.same ac_mq0
      have hd := (hv.2.1 b h1.1 h1.2)
      have n5 := hm.2.2.2.2.2.1.1.2
      have e5 : ab_rd (ab_wr σ 355 0 0) 357 (5 + b) = v (5 + b) := by rw [ab_rdw_ne (by omega), hv.1 _ (by omega) (by omega)]
      have c4 := fun hp hq mv Q' => mq_lays (X := X) (Q := Q') (hp := hp) (hq := hq) (mv := mv) hm' e5 h1 h1u.1 h1u.2.1
      have c3 := fun Q' => mq_rp1 (X := X) (Q := Q') (hp := hp) (hq := hq) (mv := mv) hm' h1
      by_cases h2 : ac_isW κ b hp hq mv
      · have eT : ac_lT κ b arm k p hp q hq mv = 0 := by unfold ac_lT ac_wT; rw [if_pos hl, if_pos ⟨h1, h1u⟩, if_pos h2]
        rw [eT, if_pos rfl] at hQ
        have nb0 := ac_n_b hm.2.2.2.2 h1 (Or.inl rfl)
        have nb1 := ac_n_b hm.2.2.2.2 h1 (Or.inr rfl)
        unfold ac_n at nb0 nb1
        have sL := ac_mq0.trans ((ac_ly_same (σ := ab_wr σ 355 0 0) (κ := κ) (d := v (5 + b)) (b := b) (p := p) (hp := hp) (q := q) (hq := hq) (mv := mv)).mono (fun _ _ => ac_PL_PM))
        have hB : ac_MB κ (v (5 + b)) b p hp q hq := ⟨h1, h1u.1, h1u.2.1, hd.2, by omega, by omega⟩
        have c5 := fun Q' => mq_strainAt (X := X) (Q := Q') (k := k) (hm.same sL) (ac_ly_ML (mv := mv)) hB hl.2.1 hl.2.2.1
        have gL := (hm.same sL).1
        have c6 := fun x Q' => sp_good (X := X) (Q := Q') (v := x) gL
        have e : ac_NA κ p hp q hq mv arm k = (if arm = 0 then ac_N κ p q hp p (ac_m0 mv) k else ac_N κ p q hq q (ac_m1 mv) k) := by
          rcases hl.2.1 with ha | ha
          · subst ha; rfl
          · subst ha; rfl
        rw [e] at c5
        simp (disch := omega) only [do_X13_strain, rX13_strain_0, rX13_strain_1, rX13_strain_2, rX13_strain_5, rX13_strain_6, rX13_strain_7, rX13_strain_8, rX13_strain_9, rX13_strain_10, rX13_strain_13, rX13_strain_16, rX13_strain_17, rX13_strain_19, rX13_strain_21, rX13_strain_24, rX13_strain_27, rX13_strain_28, rX13_strain_31, rX13_strain_32, rX13_strain_33, rX13_strain_35, rX13_strain_37, rX13_strain_39, rX13_strain_42, rX13_strain_44, rX13_strain_46, rX13_strain_49, rX13_strain_50, rX13_strain_52, rX13_strain_55, rX13_strain_56, rX13_strain_57, rX13_strain_58, rX13_strain_60, rX13_strain_62, rX13_strain_64, rX13_strain_66, rX13_strain_68, rX13_strain_71, rX13_strain_72, rX13_strain_73, rX13_strain_74, rX13_strain_75, rX13_strain_78, rX13_strain_81, gS_355, g0, gL, cl, if_pos hl, c2, if_pos h1u, c3, if_pos h2, c4, c5, c6, ne_eq, not_false_eq_true, not_true_eq_false, true_and, and_true, and_self, true_imp_iff, false_imp_iff, imp_self, Bool.not_false, Bool.not_true, reduceCtorEq, ab_isJ, ab_psh, ab_cats, Bool.false_eq_true, if_true, if_false, ab_shf, ab_shw, Int.le_refl, Classical.not_not, Int.zero_add, forall_const, ↓ab_itT, ↓ab_itF, ab_anT, ab_w32_id, ab_rdf_ne, ab_rdw_ne, ab_rdw_eq, ab_rdf_in, ab_td2, ab_tm2]
        exact hQ _ (ac_end1 sL).1 (ac_end1 sL).2.1 (ac_end1 sL).2.2
      · have eT : ac_lT κ b arm k p hp q hq mv = 2 := by (unfold ac_lT ac_wT; rw [if_pos hl, if_pos ⟨h1, h1u⟩, if_neg h2])
        rw [eT, if_neg (by decide)] at hQ
        simp (disch := omega) only [do_X13_strain, rX13_strain_0, rX13_strain_1, rX13_strain_2, rX13_strain_5, rX13_strain_6, rX13_strain_7, rX13_strain_8, rX13_strain_9, rX13_strain_10, rX13_strain_13, rX13_strain_16, rX13_strain_17, rX13_strain_19, rX13_strain_21, rX13_strain_24, rX13_strain_27, rX13_strain_28, rX13_strain_31, rX13_strain_32, rX13_strain_33, rX13_strain_35, rX13_strain_37, rX13_strain_39, rX13_strain_42, rX13_strain_44, rX13_strain_46, rX13_strain_49, rX13_strain_50, rX13_strain_52, rX13_strain_55, rX13_strain_56, rX13_strain_57, rX13_strain_58, rX13_strain_60, rX13_strain_62, rX13_strain_64, rX13_strain_66, rX13_strain_68, rX13_strain_71, rX13_strain_72, rX13_strain_73, rX13_strain_74, rX13_strain_75, rX13_strain_78, rX13_strain_81, gS_355, g0, c1, c2, cl, cin, c0, cr, if_pos hl, if_pos h1u, c3, if_neg h2, ne_eq, not_false_eq_true, not_true_eq_false, true_and, and_true, and_self, true_imp_iff, false_imp_iff, imp_self, Bool.not_false, Bool.not_true, reduceCtorEq, ab_isJ, ab_psh, ab_cats, Bool.false_eq_true, if_true, if_false, ab_shf, ab_shw, Int.le_refl, Classical.not_not, Int.zero_add, forall_const, ↓ab_itT, ↓ab_itF, ab_anT, ab_w32_id, ab_rdf_ne, ab_rdw_ne, ab_rdw_eq, ab_rdf_in, ab_td2, ab_tm2, ab_ifF]
        exact hQ _ (ac_end1 ac_mq0).1 (ac_end1 ac_mq0).2.1 (ac_end1 ac_mq0).2.2
    · have eT : ac_lT κ b arm k p hp q hq mv = 1 := by (unfold ac_lT ac_wT; rw [if_pos hl, if_neg (fun w => h1u w.2)])
      rw [eT, if_neg (by decide)] at hQ
      simp (disch := omega) only [do_X13_strain, rX13_strain_0, rX13_strain_1, rX13_strain_2, rX13_strain_5, rX13_strain_6, rX13_strain_7, rX13_strain_8, rX13_strain_9, rX13_strain_10, rX13_strain_13, rX13_strain_16, rX13_strain_17, rX13_strain_19, rX13_strain_21, rX13_strain_24, rX13_strain_27, rX13_strain_28, rX13_strain_31, rX13_strain_32, rX13_strain_33, rX13_strain_35, rX13_strain_37, rX13_strain_39, rX13_strain_42, rX13_strain_44, rX13_strain_46, rX13_strain_49, rX13_strain_50, rX13_strain_52, rX13_strain_55, rX13_strain_56, rX13_strain_57, rX13_strain_58, rX13_strain_60, rX13_strain_62, rX13_strain_64, rX13_strain_66, rX13_strain_68, rX13_strain_71, rX13_strain_72, rX13_strain_73, rX13_strain_74, rX13_strain_75, rX13_strain_78, rX13_strain_81, gS_355, g0, c1, c2, cl, cin, c0, cr, if_pos hl, if_neg h1u, ne_eq, not_false_eq_true, not_true_eq_false, true_and, and_true, and_self, true_imp_iff, false_imp_iff, imp_self, Bool.not_false, Bool.not_true, reduceCtorEq, ab_isJ, ab_psh, ab_cats, Bool.false_eq_true, if_true, if_false, ab_shf, ab_shw, Int.le_refl, Classical.not_not, Int.zero_add, forall_const, ↓ab_itT, ↓ab_itF, ab_anT, ab_w32_id, ab_rdf_ne, ab_rdw_ne, ab_rdw_eq, ab_rdf_in, ab_td2, ab_tm2, ab_ifF]
      exact hQ _ (ac_end1 ac_mq0).1 (ac_end1 ac_mq0).2.1 (ac_end1 ac_mq0).2.2
  · have eT : ac_lT κ b arm k p hp q hq mv = 1 := by (unfold ac_lT; rw [if_neg hl])
    rw [eT, if_neg (by decide)] at hQ
    simp (disch := omega) only [do_X13_strain, rX13_strain_0, rX13_strain_1, rX13_strain_2, rX13_strain_5, rX13_strain_6, rX13_strain_7, rX13_strain_8, rX13_strain_9, rX13_strain_10, rX13_strain_13, rX13_strain_16, rX13_strain_17, rX13_strain_19, rX13_strain_21, rX13_strain_24, rX13_strain_27, rX13_strain_28, rX13_strain_31, rX13_strain_32, rX13_strain_33, rX13_strain_35, rX13_strain_37, rX13_strain_39, rX13_strain_42, rX13_strain_44, rX13_strain_46, rX13_strain_49, rX13_strain_50, rX13_strain_52, rX13_strain_55, rX13_strain_56, rX13_strain_57, rX13_strain_58, rX13_strain_60, rX13_strain_62, rX13_strain_64, rX13_strain_66, rX13_strain_68, rX13_strain_71, rX13_strain_72, rX13_strain_73, rX13_strain_74, rX13_strain_75, rX13_strain_78, rX13_strain_81, gS_355, g0, c1, c2, cl, cin, c0, cr, if_neg hl, ne_eq, not_false_eq_true, not_true_eq_false, true_and, and_true, and_self, true_imp_iff, false_imp_iff, imp_self, Bool.not_false, Bool.not_true, reduceCtorEq, ab_isJ, ab_psh, ab_cats, Bool.false_eq_true, if_true, if_false, ab_shf, ab_shw, Int.le_refl, Classical.not_not, Int.zero_add, forall_const, ↓ab_itT, ↓ab_itF, ab_anT, ab_w32_id, ab_rdf_ne, ab_rdw_ne, ab_rdw_eq, ab_rdf_in, ab_td2, ab_tm2, ab_ifF]
    exact hQ _ (ac_end1 ac_mq0).1 (ac_end1 ac_mq0).2.1 (ac_end1 ac_mq0).2.2
def ac_sT (κ : ac_K) (b arm k p : Int) : Int := if ac_isL κ b arm k ∧ ac_isP κ p then 0 else 1
theorem mq_strength (h : ac_MN σ κ) (hv : ac_MV σ κ v) (hQ : ∀ τ, ab_Same ac_PM σ τ → ab_rd τ 355 1 = ac_sT κ b arm k p → ab_rd τ 355 2 = -1 → Q (some (ab_I (if ac_sT κ b arm k p = 0 then ac_S κ (v (5 + b)) b arm p k else -1))) τ) : ab_Do X 222 [ab_R 355, ab_I b, ab_I arm, ab_I k, ab_I p] σ Q := by
  have h' := h.same ac_mq0
  have g0 := h.1
  have g := h'.1
  have c1 := fun b Q' => mq_isBone (X := X) (Q := Q') (b := b) h'
  have c2 := fun p q Q' => mq_isPair (X := X) (Q := Q') (p := p) (q := q) h'
  have c1p := fun b Q' => mq_isPerson (X := X) (Q := Q') (b := b) h'
  have cl := fun b arm k Q' => mq_isPlace (X := X) (Q := Q') (b := b) (arm := arm) (k := k) h'
  have cin := fun x lo hi Q' => mq_in (X := X) (σ := ab_wr σ 355 0 0) (Q := Q') (x := x) (lo := lo) (hi := hi)
  have cr := fun v Q' => sp_refused (X := X) (Q := Q') (v := v) g
  have c0 := fun b hp hq mv Q' => mq_rp0 (X := X) (σ := ab_wr σ 355 0 0) (Q := Q') (b := b) (hp := hp) (hq := hq) (mv := mv)
  by_cases hl : ac_isL κ b arm k
  · have h1 : ac_isB κ b := hl.1
    by_cases hpp : ac_isP κ p
    · obtain ⟨M, hm⟩ := h.mb h1
      have hm' := hm.same ac_mq0
      have hd := (hv.2.1 b h1.1 h1.2)
      have n5 := hm.2.2.2.2.2.1.1.2
      have e5 : ab_rd (ab_wr σ 355 0 0) 357 (5 + b) = v (5 + b) := by rw [ab_rdw_ne (by omega), hv.1 _ (by omega) (by omega)]
      have c4 := fun hp hq mv Q' => mq_lays (X := X) (Q := Q') (hp := hp) (hq := hq) (mv := mv) hm' e5 h1 hpp hpp
      have eT : ac_sT κ b arm k p = 0 := by unfold ac_sT; rw [if_pos ⟨hl, hpp⟩]
      rw [eT, if_pos rfl] at hQ
      have sL := ac_mq0.trans ((ac_ly_same (σ := ab_wr σ 355 0 0) (κ := κ) (d := v (5 + b)) (b := b) (p := p) (hp := 1) (q := p) (hq := 1) (mv := 2)).mono (fun _ _ => ac_PL_PM))
      have c5 := fun Q' => mq_strengthAt (X := X) (Q := Q') (fa := -1) (ft := ab_rd (ac_ly (ab_wr σ 355 0 0) κ (v (5 + b)) b p 1 p 1 2) 355 24) (hm.same sL) (ac_ly_ML (hp := 1) (hq := 1) (mv := 2)) ⟨h1, hpp, hpp, hd.2, by omega, by omega⟩ ac_ly_fa rfl hl.2.1 hl.2.2
      rw [ac_row_m hl.2.1] at c5
      have gL := (hm.same sL).1
      have c6 := fun x Q' => sp_good (X := X) (Q := Q') (v := x) gL
      have e : ac_brs (ac_SA κ (v (5 + b)) b p p arm) 0 k = ac_S κ (v (5 + b)) b arm p k := by
        have e2 := hl.2.2.1
        unfold ac_brs ac_SA
        rw [if_neg (by omega)]
        rcases hl.2.1 with ha | ha
        · subst ha; rfl
        · subst ha; rfl
      rw [e] at c5
      simp (disch := omega) only [do_X13_strength, rX13_strength_0, rX13_strength_1, rX13_strength_2, rX13_strength_5, rX13_strength_6, rX13_strength_7, rX13_strength_8, rX13_strength_9, rX13_strength_12, rX13_strength_15, rX13_strength_16, rX13_strength_18, rX13_strength_21, rX13_strength_24, rX13_strength_25, rX13_strength_26, rX13_strength_29, rX13_strength_30, rX13_strength_31, rX13_strength_32, rX13_strength_34, rX13_strength_35, rX13_strength_37, rX13_strength_38, rX13_strength_39, rX13_strength_42, rX13_strength_43, rX13_strength_44, rX13_strength_45, rX13_strength_46, rX13_strength_49, rX13_strength_52, gS_355, g0, gL, cl, if_pos hl, c1p, if_pos hpp, c4, c5, c6, ne_eq, not_false_eq_true, not_true_eq_false, true_and, and_true, and_self, true_imp_iff, false_imp_iff, imp_self, Bool.not_false, Bool.not_true, reduceCtorEq, ab_isJ, ab_psh, ab_cats, Bool.false_eq_true, if_true, if_false, ab_shf, ab_shw, Int.le_refl, Classical.not_not, Int.zero_add, forall_const, ↓ab_itT, ↓ab_itF, ab_anT, ab_w32_id, ab_rdf_ne, ab_rdw_ne, ab_rdw_eq, ab_rdf_in, ab_td2, ab_tm2]
      exact hQ _ (ac_end1 sL).1 (ac_end1 sL).2.1 (ac_end1 sL).2.2
    · have eT : ac_sT κ b arm k p = 1 := by (unfold ac_sT; rw [if_neg (fun w => hpp w.2)])
      rw [eT, if_neg (by decide)] at hQ
      simp (disch := omega) only [do_X13_strength, rX13_strength_0, rX13_strength_1, rX13_strength_2, rX13_strength_5, rX13_strength_6, rX13_strength_7, rX13_strength_8, rX13_strength_9, rX13_strength_12, rX13_strength_15, rX13_strength_16, rX13_strength_18, rX13_strength_21, rX13_strength_24, rX13_strength_25, rX13_strength_26, rX13_strength_29, rX13_strength_30, rX13_strength_31, rX13_strength_32, rX13_strength_34, rX13_strength_35, rX13_strength_37, rX13_strength_38, rX13_strength_39, rX13_strength_42, rX13_strength_43, rX13_strength_44, rX13_strength_45, rX13_strength_46, rX13_strength_49, rX13_strength_52, gS_355, g0, c1, c2, cl, cin, c0, cr, if_pos hl, c1p, if_neg hpp, ne_eq, not_false_eq_true, not_true_eq_false, true_and, and_true, and_self, true_imp_iff, false_imp_iff, imp_self, Bool.not_false, Bool.not_true, reduceCtorEq, ab_isJ, ab_psh, ab_cats, Bool.false_eq_true, if_true, if_false, ab_shf, ab_shw, Int.le_refl, Classical.not_not, Int.zero_add, forall_const, ↓ab_itT, ↓ab_itF, ab_anT, ab_w32_id, ab_rdf_ne, ab_rdw_ne, ab_rdw_eq, ab_rdf_in, ab_td2, ab_tm2, ab_ifF]
      exact hQ _ (ac_end1 ac_mq0).1 (ac_end1 ac_mq0).2.1 (ac_end1 ac_mq0).2.2
  · have eT : ac_sT κ b arm k p = 1 := by (unfold ac_sT; rw [if_neg (fun w => hl w.1)])
    rw [eT, if_neg (by decide)] at hQ
    simp (disch := omega) only [do_X13_strength, rX13_strength_0, rX13_strength_1, rX13_strength_2, rX13_strength_5, rX13_strength_6, rX13_strength_7, rX13_strength_8, rX13_strength_9, rX13_strength_12, rX13_strength_15, rX13_strength_16, rX13_strength_18, rX13_strength_21, rX13_strength_24, rX13_strength_25, rX13_strength_26, rX13_strength_29, rX13_strength_30, rX13_strength_31, rX13_strength_32, rX13_strength_34, rX13_strength_35, rX13_strength_37, rX13_strength_38, rX13_strength_39, rX13_strength_42, rX13_strength_43, rX13_strength_44, rX13_strength_45, rX13_strength_46, rX13_strength_49, rX13_strength_52, gS_355, g0, c1, c2, cl, cin, c0, cr, if_neg hl, ne_eq, not_false_eq_true, not_true_eq_false, true_and, and_true, and_self, true_imp_iff, false_imp_iff, imp_self, Bool.not_false, Bool.not_true, reduceCtorEq, ab_isJ, ab_psh, ab_cats, Bool.false_eq_true, if_true, if_false, ab_shf, ab_shw, Int.le_refl, Classical.not_not, Int.zero_add, forall_const, ↓ab_itT, ↓ab_itF, ab_anT, ab_w32_id, ab_rdf_ne, ab_rdw_ne, ab_rdw_eq, ab_rdf_in, ab_td2, ab_tm2, ab_ifF]
    exact hQ _ (ac_end1 ac_mq0).1 (ac_end1 ac_mq0).2.1 (ac_end1 ac_mq0).2.2
end
