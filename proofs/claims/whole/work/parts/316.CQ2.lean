section
variable {X : ab_X} {σ τ : ab_S} {Q : Option ab_V → ab_S → Prop} {K : Int} {κ : ac_K} {v : Int → Int} {kd d b p hp q hq mv : Int}
theorem ac_gk_r1 {x f : Int} (hx : x < 134) : ab_rd (ac_gk σ κ d b p hp q hq mv) x f = ab_rd σ x f := by
  unfold ac_gk
  rw [ac_grip_ne (by omega), ac_grip_ne (by omega), ab_rdw_ne (by omega)]
theorem ac_w3_ne {A r w l m x y : Int} (h : x < A + 3 ∨ A + 5 < x) : ab_rd (ac_w3 σ A r w l m) x y = ab_rd σ x y := by
  rw [ac_w3_rd, if_neg (by omega), if_neg (by omega), if_neg (by omega)]
theorem ac_rst_r1 {r0 r1 x f : Int} (hx : x < 134) : ab_rd (ac_rst σ κ d b p hp q hq mv r0 r1) x f = ab_rd σ x f := by
  unfold ac_rst
  rw [ac_w3_ne (by omega), ac_w3_ne (by omega)]
theorem ac_wls_r1 {x f : Int} (hx : x < 134) : ab_rd (ac_wls σ κ kd d b p hp q hq mv) x f = ab_rd σ x f := by
  unfold ac_wls
  rw [ab_rdf_ne (by omega), ab_rdw_ne (by omega), ac_all_ne (by omega), ac_all_ne (by omega)]
theorem ac_t8 {t : Int} : ab_Same ac_PC σ (ab_wr σ 1 8 t) := ab_Same.refl.wr (by unfold ac_PC; omega)
/-- what a laid pull needs -/
theorem ac_wT0 (h : ac_wT κ b p hp q hq mv = 0) : ac_isB κ b ∧ ac_isU κ p q ∧ ac_isW κ b hp hq mv := by
  unfold ac_wT at h
  by_cases h1 : ac_isB κ b ∧ ac_isU κ p q
  · rw [if_pos h1] at h
    by_cases h2 : ac_isW κ b hp hq mv
    · exact ⟨h1.1, h1.2, h2⟩
    · rw [if_neg h2] at h; omega
  · rw [if_neg h1] at h; omega
theorem ac_CI.kk (h : ac_CI σ K κ) (hb : ac_isB κ b) : ac_KK κ := by
  rcases h.2.2.2.2 with q | q
  · have := hb.1; have := hb.2; omega
  · exact q
/-- lay at the class's own state -/
theorem sp_layC (h : ac_CI σ K κ) (hS : ac_St σ 31 κ v) (hV : ac_VB κ v) (hT : ac_wT κ b p hp q hq mv = 0) : (ab_Do X 138 [ab_R 1, ab_I b, ab_I p, ab_I hp, ab_I q, ab_I hq, ab_I mv] (ab_wr σ 1 8 0) Q ↔ Q none (ac_gk (ac_tk (ab_wr σ 1 8 0) κ (v b) (v (5 + b))) κ (v (5 + b)) b p hp q hq mv)) ∧ ac_Ld (ac_gk (ac_tk (ab_wr σ 1 8 0) κ (v b) (v (5 + b))) κ (v (5 + b)) b p hp q hq mv) κ (v b) (v (5 + b)) b p hp q hq mv := by
  obtain ⟨hb, hu, hw⟩ := ac_wT0 hT
  have hk := h.kk hb
  have h' := h.same (ac_t8 (t := 0))
  have s := hS.1 b hb.1 hb.2
  have bb := hV.1 b hb.1 hb.2
  have n0 := ac_n_b hk hb (Or.inl rfl)
  have n1 := ac_n_b hk hb (Or.inr rfl)
  have w0 : hp ≤ ac_n κ b 0 := hw.1.2
  have w1 : hq ≤ ac_n κ b 1 := hw.2.1.2
  have w2 := hw.1.1
  have w3 := hw.2.1.1
  refine ⟨?_, ?_⟩
  · exact sp_lay h'.1 h'.2.1 h'.2.2.1 hk (by rw [ab_rdw_ne (by omega)]; exact s.1) (by rw [ab_rdw_ne (by omega)]; exact s.2.1) bb.2 hb hu.1 hu.2.1 (by omega) (by omega) hw.2.2
  · exact ac_gk_Ld (h'.1.same ac_tk_same ac_PC_pt) hk bb.2 hb hu.1 hu.2.1 (by omega) (by omega) ac_tk_4 ac_tk_8
theorem cq_pulled (h : ac_CI σ K κ) (hS : ac_St σ 31 κ v) (hV : ac_VB κ v) (hQ : ∀ τ, ab_Same ac_PC σ τ → ab_rd τ 1 8 = ac_wT κ b p hp q hq mv → Q (some (ab_I (if ac_wT κ b p hp q hq mv = 0 then ac_C κ (v b) (v (5 + b)) b p hp q hq mv 0 0 else -1))) τ) : ab_Do X 89 [ab_R 1, ab_I b, ab_I p, ab_I hp, ab_I q, ab_I hq, ab_I mv] σ Q := by
  have hg := h.1
  have c1 := fun Q' => sp_pullTrouble (X := X) (Q := Q') (b := b) (p := p) (hp := hp) (q := q) (hq := hq) (mv := mv) h
  by_cases hT : ac_wT κ b p hp q hq mv = 0
  · rw [hT, if_pos rfl] at hQ
    rw [hT] at c1
    have hL := sp_layC (X := X) (Q := Q) h hS hV hT
    have hk := h.kk (ac_wT0 hT).1
    have n0 := ac_n_b hk (ac_wT0 hT).1 (Or.inl rfl)
    have n1 := ac_n_b hk (ac_wT0 hT).1 (Or.inr rfl)
    have c2 := fun Q' => (sp_layC (X := X) (Q := Q') h hS hV hT).1
    have c3 := fun Q' => sp_resolveK (X := X) (Q := Q') (fp := -1) hL.2 (by omega)
    have e0 : ac_r0 (ac_n κ b 0) (-1) = 0 := if_pos (by omega)
    have e1 : ac_r1 (ac_n κ b 0) (-1) = 0 := if_pos (by omega)
    rw [e0, e1] at c3
    have gg := hL.2.1
    simp (disch := omega) only [do_X11_pulled, rX11_pulled_0, rX11_pulled_1, rX11_pulled_2, rX11_pulled_3, rX11_pulled_4, rX11_pulled_5, rX11_pulled_7, rX11_pulled_9, rX11_pulled_11, rX11_pulled_14, rX11_pulled_17, rX11_pulled_18, rX11_pulled_21, rX11_pulled_24, rX11_pulled_25, rX11_pulled_26, rX11_pulled_27, rX11_pulled_28, rX11_pulled_29, rX11_pulled_30, rX11_pulled_32, rX11_pulled_34, rX11_pulled_36, rX11_pulled_39, rX11_pulled_40, rX11_pulled_43, rX11_pulled_44, rX11_pulled_47, gS_1, gP_1_3, gS_134, hg, gg, c1, c2, c3, ne_eq, not_false_eq_true, not_true_eq_false, true_and, and_true, and_self, true_imp_iff, false_imp_iff, imp_self, Bool.not_false, Bool.not_true, reduceCtorEq, ab_isJ, ab_psh, ab_cats, Bool.false_eq_true, if_true, if_false, ab_shf, ab_shw, Int.le_refl, Classical.not_not, Int.zero_add, Int.add_zero, forall_const, ↓ab_itT, ↓ab_itF, ab_anT, ab_w32_id, ab_rdf_ne, ab_rdw_ne, ab_rdw_eq, ab_rdf_in, ab_td2, ab_tm2]
    refine hQ _ ?_ ?_
    · exact ((ac_t8.trans ac_tk_same).trans ac_gk_same).trans ac_rst_same
    · rw [ac_rst_r1 (by omega), ac_gk_r1 (by omega), ac_tk_rd (by omega), ab_rdw_eq]
  · rw [if_neg hT] at hQ
    simp (disch := omega) only [do_X11_pulled, rX11_pulled_0, rX11_pulled_1, rX11_pulled_2, rX11_pulled_3, rX11_pulled_4, rX11_pulled_5, rX11_pulled_7, rX11_pulled_9, rX11_pulled_11, rX11_pulled_14, rX11_pulled_17, rX11_pulled_18, rX11_pulled_21, rX11_pulled_24, rX11_pulled_25, gS_1, hg, c1, ne_eq, not_false_eq_true, not_true_eq_false, true_and, and_true, and_self, true_imp_iff, false_imp_iff, imp_self, Bool.not_false, Bool.not_true, reduceCtorEq, ab_isJ, ab_psh, ab_cats, Bool.false_eq_true, if_true, if_false, ab_shf, ab_shw, Int.le_refl, Classical.not_not, Int.zero_add, Int.add_zero, forall_const, ↓ab_itT, ↓ab_itF, ab_anT, ab_w32_id, ab_rdf_ne, ab_rdw_ne, ab_rdw_eq, ab_rdf_in, ab_td2, ab_tm2]
    exact hQ _ ac_t8 ab_rdw_eq
theorem cq_breaksAt (h : ac_CI σ K κ) (hS : ac_St σ 31 κ v) (hV : ac_VB κ v) (hQ : ∀ τ, ab_Same ac_PC σ τ → ab_rd τ 1 8 = ac_wT κ b p hp q hq mv → Q (some (ab_I (if ac_wT κ b p hp q hq mv = 0 then ac_BP κ (v b) (v (5 + b)) b p hp q hq mv else -1))) τ) : ab_Do X 90 [ab_R 1, ab_I b, ab_I p, ab_I hp, ab_I q, ab_I hq, ab_I mv] σ Q := by
  have hg := h.1
  have c1 := fun Q' => sp_pullTrouble (X := X) (Q := Q') (b := b) (p := p) (hp := hp) (q := q) (hq := hq) (mv := mv) h
  by_cases hT : ac_wT κ b p hp q hq mv = 0
  · rw [hT, if_pos rfl] at hQ
    rw [hT] at c1
    have hL := sp_layC (X := X) (Q := Q) h hS hV hT
    have c2 := fun Q' => (sp_layC (X := X) (Q := Q') h hS hV hT).1
    have c3 := fun Q' => sp_breakPlaceK (X := X) (Q := Q') hL.2
    have gg := hL.2.1
    simp (disch := omega) only [do_X11_breaksAt, rX11_breaksAt_0, rX11_breaksAt_1, rX11_breaksAt_2, rX11_breaksAt_3, rX11_breaksAt_4, rX11_breaksAt_5, rX11_breaksAt_7, rX11_breaksAt_9, rX11_breaksAt_11, rX11_breaksAt_14, rX11_breaksAt_17, rX11_breaksAt_18, rX11_breaksAt_21, rX11_breaksAt_24, rX11_breaksAt_25, rX11_breaksAt_26, rX11_breaksAt_27, rX11_breaksAt_28, rX11_breaksAt_29, rX11_breaksAt_30, rX11_breaksAt_32, rX11_breaksAt_34, rX11_breaksAt_36, rX11_breaksAt_39, rX11_breaksAt_40, rX11_breaksAt_43, rX11_breaksAt_46, gS_1, gP_1_3, gS_134, hg, gg, c1, c2, c3, ne_eq, not_false_eq_true, not_true_eq_false, true_and, and_true, and_self, true_imp_iff, false_imp_iff, imp_self, Bool.not_false, Bool.not_true, reduceCtorEq, ab_isJ, ab_psh, ab_cats, Bool.false_eq_true, if_true, if_false, ab_shf, ab_shw, Int.le_refl, Classical.not_not, Int.zero_add, Int.add_zero, forall_const, ↓ab_itT, ↓ab_itF, ab_anT, ab_w32_id, ab_rdf_ne, ab_rdw_ne, ab_rdw_eq, ab_rdf_in, ab_td2, ab_tm2]
    refine hQ _ ?_ ?_
    · exact ((ac_t8.trans ac_tk_same).trans ac_gk_same).trans ac_rst_same
    · rw [ac_rst_r1 (by omega), ac_gk_r1 (by omega), ac_tk_rd (by omega), ab_rdw_eq]
  · rw [if_neg hT] at hQ
    simp (disch := omega) only [do_X11_breaksAt, rX11_breaksAt_0, rX11_breaksAt_1, rX11_breaksAt_2, rX11_breaksAt_3, rX11_breaksAt_4, rX11_breaksAt_5, rX11_breaksAt_7, rX11_breaksAt_9, rX11_breaksAt_11, rX11_breaksAt_14, rX11_breaksAt_17, rX11_breaksAt_18, rX11_breaksAt_21, rX11_breaksAt_24, rX11_breaksAt_25, gS_1, hg, c1, ne_eq, not_false_eq_true, not_true_eq_false, true_and, and_true, and_self, true_imp_iff, false_imp_iff, imp_self, Bool.not_false, Bool.not_true, reduceCtorEq, ab_isJ, ab_psh, ab_cats, Bool.false_eq_true, if_true, if_false, ab_shf, ab_shw, Int.le_refl, Classical.not_not, Int.zero_add, Int.add_zero, forall_const, ↓ab_itT, ↓ab_itF, ab_anT, ab_w32_id, ab_rdf_ne, ab_rdw_ne, ab_rdw_eq, ab_rdf_in, ab_td2, ab_tm2]
    exact hQ _ ac_t8 ab_rdw_eq
def ac_lT (κ : ac_K) (b arm k p hp q hq mv : Int) : Int := if ac_isL κ b arm k then ac_wT κ b p hp q hq mv else 1
theorem cq_flawed {arm k : Int} (h : ac_CI σ K κ) (hS : ac_St σ 31 κ v) (hV : ac_VB κ v) (hQ : ∀ τ, ab_Same ac_PC σ τ → ab_rd τ 1 8 = ac_lT κ b arm k p hp q hq mv → Q (some (ab_I (if ac_lT κ b arm k p hp q hq mv = 0 then ac_C κ (v b) (v (5 + b)) b p hp q hq mv (if arm = 0 then k + 1 else 0) (if arm = 0 then 0 else k + 1) else -1))) τ) : ab_Do X 91 [ab_R 1, ab_I b, ab_I p, ab_I hp, ab_I q, ab_I hq, ab_I mv, ab_I arm, ab_I k] σ Q := by
  have hg := h.1
  have c1 := fun Q' => sp_pullTrouble (X := X) (Q := Q') (b := b) (p := p) (hp := hp) (q := q) (hq := hq) (mv := mv) h
  have c0 := fun Q' => sp_isPlace (X := X) (Q := Q') (b := b) (arm := arm) (k := k) h
  unfold ac_lT at hQ
  by_cases hL : ac_isL κ b arm k
  · simp only [if_pos hL] at hQ c0
    by_cases hT : ac_wT κ b p hp q hq mv = 0
    · rw [hT, if_pos rfl] at hQ
      rw [hT] at c1
      have hLd := sp_layC (X := X) (Q := Q) h hS hV hT
      have hk := h.kk (ac_wT0 hT).1
      have n0 := ac_n_b hk (ac_wT0 hT).1 (Or.inl rfl)
      have n1 := ac_n_b hk (ac_wT0 hT).1 (Or.inr rfl)
      have c2 := fun Q' => (sp_layC (X := X) (Q := Q') h hS hV hT).1
      have gg := hLd.2.1
      have r0 := hLd.2.2.1.1
      obtain ⟨-, ha, l1, l2⟩ := hL
      rcases ha with rfl | rfl
      · have l3 : k < ac_n κ b 0 := l2
        have c3 := fun Q' => sp_resolveK (X := X) (Q := Q') (fp := k) hLd.2 (by omega)
        have e0 : ac_r0 (ac_n κ b 0) k = k + 1 := if_pos (by omega)
        have e1 : ac_r1 (ac_n κ b 0) k = 0 := if_pos (by omega)
        rw [e0, e1] at c3
        simp (disch := omega) only [do_X11_flawed, rX11_flawed_0, rX11_flawed_1, rX11_flawed_2, rX11_flawed_3, rX11_flawed_5, rX11_flawed_7, rX11_flawed_10, rX11_flawed_13, rX11_flawed_14, rX11_flawed_15, rX11_flawed_16, rX11_flawed_17, rX11_flawed_19, rX11_flawed_21, rX11_flawed_23, rX11_flawed_26, rX11_flawed_29, rX11_flawed_30, rX11_flawed_33, rX11_flawed_34, rX11_flawed_37, rX11_flawed_40, rX11_flawed_41, rX11_flawed_42, rX11_flawed_43, rX11_flawed_44, rX11_flawed_45, rX11_flawed_46, rX11_flawed_48, rX11_flawed_50, rX11_flawed_52, rX11_flawed_55, rX11_flawed_56, rX11_flawed_59, rX11_flawed_61, rX11_flawed_64, rX11_flawed_66, rX11_flawed_69, rX11_flawed_70, rX11_flawed_73, rX11_flawed_76, rX11_flawed_79, rX11_flawed_81, rX11_flawed_82, rX11_flawed_85, gS_1, gP_1_3, gS_134, gP_134_0, gS_135, hg, gg, c0, c1, c2, c3, ne_eq, not_false_eq_true, not_true_eq_false, true_and, and_true, and_self, true_imp_iff, false_imp_iff, imp_self, Bool.not_false, Bool.not_true, reduceCtorEq, ab_isJ, ab_psh, ab_cats, Bool.false_eq_true, if_true, if_false, ab_shf, ab_shw, Int.le_refl, Classical.not_not, Int.zero_add, forall_const, ↓ab_itT, ↓ab_itF, ab_anT, ab_w32_id, ab_rdf_ne, ab_rdw_ne, ab_rdw_eq, ab_rdf_in, ab_td2, ab_tm2]
        refine hQ _ ?_ ?_
        · exact ((ac_t8.trans ac_tk_same).trans ac_gk_same).trans ac_rst_same
        · rw [ac_rst_r1 (by omega), ac_gk_r1 (by omega), ac_tk_rd (by omega), ab_rdw_eq]
      · have l3 : k < ac_n κ b 1 := l2
        have c3 := fun Q' => sp_resolveK (X := X) (Q := Q') (fp := ac_n κ b 0 + k) hLd.2 (by omega)
        have e0 : ac_r0 (ac_n κ b 0) (ac_n κ b 0 + k) = 0 := if_neg (by omega)
        have e1 : ac_r1 (ac_n κ b 0) (ac_n κ b 0 + k) = k + 1 := by rw [ac_r1, if_neg (by omega)]; omega
        rw [e0, e1] at c3
        simp (disch := omega) only [do_X11_flawed, rX11_flawed_0, rX11_flawed_1, rX11_flawed_2, rX11_flawed_3, rX11_flawed_5, rX11_flawed_7, rX11_flawed_10, rX11_flawed_13, rX11_flawed_14, rX11_flawed_15, rX11_flawed_16, rX11_flawed_17, rX11_flawed_19, rX11_flawed_21, rX11_flawed_23, rX11_flawed_26, rX11_flawed_29, rX11_flawed_30, rX11_flawed_33, rX11_flawed_34, rX11_flawed_37, rX11_flawed_40, rX11_flawed_41, rX11_flawed_42, rX11_flawed_43, rX11_flawed_44, rX11_flawed_45, rX11_flawed_46, rX11_flawed_48, rX11_flawed_50, rX11_flawed_52, rX11_flawed_55, rX11_flawed_56, rX11_flawed_59, rX11_flawed_61, rX11_flawed_64, rX11_flawed_66, rX11_flawed_69, rX11_flawed_70, rX11_flawed_73, rX11_flawed_76, rX11_flawed_79, rX11_flawed_81, rX11_flawed_82, rX11_flawed_85, gS_1, gP_1_3, gS_134, gP_134_0, gS_135, hg, gg, r0, c0, c1, c2, c3, ne_eq, not_false_eq_true, not_true_eq_false, true_and, and_true, and_self, true_imp_iff, false_imp_iff, imp_self, Bool.not_false, Bool.not_true, reduceCtorEq, ab_isJ, ab_psh, ab_cats, Bool.false_eq_true, if_true, if_false, ab_shf, ab_shw, Int.le_refl, Classical.not_not, Int.zero_add, forall_const, ↓ab_itT, ↓ab_itF, ab_anT, ab_w32_id, ab_rdf_ne, ab_rdw_ne, ab_rdw_eq, ab_rdf_in, ab_td2, ab_tm2]
        refine hQ _ ?_ ?_
        · exact ((ac_t8.trans ac_tk_same).trans ac_gk_same).trans ac_rst_same
        · rw [ac_rst_r1 (by omega), ac_gk_r1 (by omega), ac_tk_rd (by omega), ab_rdw_eq]
    · rw [if_neg hT] at hQ
      simp (disch := omega) only [do_X11_flawed, rX11_flawed_0, rX11_flawed_1, rX11_flawed_2, rX11_flawed_3, rX11_flawed_5, rX11_flawed_7, rX11_flawed_10, rX11_flawed_13, rX11_flawed_14, rX11_flawed_15, rX11_flawed_16, rX11_flawed_17, rX11_flawed_19, rX11_flawed_21, rX11_flawed_23, rX11_flawed_26, rX11_flawed_29, rX11_flawed_30, rX11_flawed_33, rX11_flawed_34, rX11_flawed_37, rX11_flawed_40, rX11_flawed_41, gS_1, hg, c0, c1, ne_eq, not_false_eq_true, not_true_eq_false, true_and, and_true, and_self, true_imp_iff, false_imp_iff, imp_self, Bool.not_false, Bool.not_true, reduceCtorEq, ab_isJ, ab_psh, ab_cats, Bool.false_eq_true, if_true, if_false, ab_shf, ab_shw, Int.le_refl, Classical.not_not, Int.zero_add, Int.add_zero, forall_const, ↓ab_itT, ↓ab_itF, ab_anT, ab_w32_id, ab_rdf_ne, ab_rdw_ne, ab_rdw_eq, ab_rdf_in, ab_td2, ab_tm2]
      exact hQ _ ac_t8 ab_rdw_eq
  · simp only [if_neg hL] at hQ c0
    simp (disch := omega) only [do_X11_flawed, rX11_flawed_0, rX11_flawed_1, rX11_flawed_2, rX11_flawed_3, rX11_flawed_5, rX11_flawed_7, rX11_flawed_10, rX11_flawed_13, rX11_flawed_14, rX11_flawed_15, rX11_flawed_16, rX11_flawed_17, rX11_flawed_19, rX11_flawed_21, rX11_flawed_23, rX11_flawed_26, rX11_flawed_29, rX11_flawed_30, rX11_flawed_33, rX11_flawed_34, rX11_flawed_37, rX11_flawed_40, rX11_flawed_41, gS_1, hg, c0, c1, ne_eq, not_false_eq_true, not_true_eq_false, true_and, and_true, and_self, true_imp_iff, false_imp_iff, imp_self, Bool.not_false, Bool.not_true, reduceCtorEq, ab_isJ, ab_psh, ab_cats, Bool.false_eq_true, if_true, if_false, ab_shf, ab_shw, Int.le_refl, Classical.not_not, Int.zero_add, Int.add_zero, forall_const, ↓ab_itT, ↓ab_itF, ab_anT, ab_w32_id, ab_rdf_ne, ab_rdw_ne, ab_rdw_eq, ab_rdf_in, ab_td2, ab_tm2]
    exact hQ _ ac_t8 ab_rdw_eq
theorem cq_strain {arm k : Int} (h : ac_CI σ K κ) (hS : ac_St σ 31 κ v) (hV : ac_VB κ v) (hQ : ∀ τ, ab_Same ac_PC σ τ → ab_rd τ 1 8 = ac_lT κ b arm k p hp q hq mv → Q (some (ab_I (if ac_lT κ b arm k p hp q hq mv = 0 then (if arm = 0 then ac_N κ p q hp p (ac_m0 mv) k else ac_N κ p q hq q (ac_m1 mv) k) else -1))) τ) : ab_Do X 88 [ab_R 1, ab_I b, ab_I arm, ab_I k, ab_I p, ab_I hp, ab_I q, ab_I hq, ab_I mv] σ Q := by
  have hg := h.1
  have c1 := fun Q' => sp_pullTrouble (X := X) (Q := Q') (b := b) (p := p) (hp := hp) (q := q) (hq := hq) (mv := mv) h
  have c0 := fun Q' => sp_isPlace (X := X) (Q := Q') (b := b) (arm := arm) (k := k) h
  unfold ac_lT at hQ
  by_cases hL : ac_isL κ b arm k
  · simp only [if_pos hL] at hQ c0
    by_cases hT : ac_wT κ b p hp q hq mv = 0
    · rw [hT, if_pos rfl] at hQ
      rw [hT] at c1
      have hLd := sp_layC (X := X) (Q := Q) h hS hV hT
      have hk := h.kk (ac_wT0 hT).1
      have n0 := ac_n_b hk (ac_wT0 hT).1 (Or.inl rfl)
      have n1 := ac_n_b hk (ac_wT0 hT).1 (Or.inr rfl)
      have c2 := fun Q' => (sp_layC (X := X) (Q := Q') h hS hV hT).1
      have gg := hLd.2.1
      obtain ⟨-, ha, l1, l2⟩ := hL
      rcases ha with rfl | rfl
      · have l3 : k < ac_n κ b 0 := l2
        have r0 := (hLd.2.2.1.2.2.1 k l1 l3).1
        rw [show (135 : Int) + 1 = 136 from rfl] at r0
        simp (disch := omega) only [do_X11_strain, rX11_strain_0, rX11_strain_1, rX11_strain_2, rX11_strain_3, rX11_strain_4, rX11_strain_5, rX11_strain_8, rX11_strain_11, rX11_strain_12, rX11_strain_13, rX11_strain_15, rX11_strain_17, rX11_strain_19, rX11_strain_21, rX11_strain_23, rX11_strain_26, rX11_strain_29, rX11_strain_30, rX11_strain_33, rX11_strain_34, rX11_strain_37, rX11_strain_40, rX11_strain_41, rX11_strain_42, rX11_strain_43, rX11_strain_44, rX11_strain_46, rX11_strain_48, rX11_strain_50, rX11_strain_52, rX11_strain_54, rX11_strain_57, rX11_strain_58, rX11_strain_61, rX11_strain_62, rX11_strain_65, rX11_strain_68, rX11_strain_71, rX11_strain_72, rX11_strain_73, rX11_strain_76, rX11_strain_77, rX11_strain_80, rX11_strain_83, rX11_strain_86, rX11_strain_87, rX11_strain_88, gS_1, gP_1_3, gS_134, gP_134_0, gS_135, gP_135_1, gS_136, hg, gg, r0, c0, c1, c2, ne_eq, not_false_eq_true, not_true_eq_false, true_and, and_true, and_self, true_imp_iff, false_imp_iff, imp_self, Bool.not_false, Bool.not_true, reduceCtorEq, ab_isJ, ab_psh, ab_cats, Bool.false_eq_true, if_true, if_false, ab_shf, ab_shw, Int.le_refl, Classical.not_not, Int.zero_add, forall_const, ↓ab_itT, ↓ab_itF, ab_anT, ab_w32_id, ab_rdf_ne, ab_rdw_ne, ab_rdw_eq, ab_rdf_in, ab_td2, ab_tm2]
        refine hQ _ ?_ ?_
        · exact (ac_t8.trans ac_tk_same).trans ac_gk_same
        · rw [ac_gk_r1 (by omega), ac_tk_rd (by omega), ab_rdw_eq]
      · have l3 : k < ac_n κ b 1 := l2
        have r0 := (hLd.2.2.2.1.2.2.1 k l1 l3).1
        rw [show (141 : Int) + 1 = 142 from rfl] at r0
        simp (disch := omega) only [do_X11_strain, rX11_strain_0, rX11_strain_1, rX11_strain_2, rX11_strain_3, rX11_strain_4, rX11_strain_5, rX11_strain_8, rX11_strain_11, rX11_strain_12, rX11_strain_13, rX11_strain_15, rX11_strain_17, rX11_strain_19, rX11_strain_21, rX11_strain_23, rX11_strain_26, rX11_strain_29, rX11_strain_30, rX11_strain_33, rX11_strain_34, rX11_strain_37, rX11_strain_40, rX11_strain_41, rX11_strain_42, rX11_strain_43, rX11_strain_44, rX11_strain_46, rX11_strain_48, rX11_strain_50, rX11_strain_52, rX11_strain_54, rX11_strain_57, rX11_strain_58, rX11_strain_61, rX11_strain_62, rX11_strain_65, rX11_strain_68, rX11_strain_71, rX11_strain_72, rX11_strain_73, rX11_strain_76, rX11_strain_77, rX11_strain_80, rX11_strain_83, rX11_strain_86, rX11_strain_87, rX11_strain_88, gS_1, gP_1_3, gS_134, gP_134_1, gS_141, gP_141_1, gS_142, hg, gg, r0, c0, c1, c2, ne_eq, not_false_eq_true, not_true_eq_false, true_and, and_true, and_self, true_imp_iff, false_imp_iff, imp_self, Bool.not_false, Bool.not_true, reduceCtorEq, ab_isJ, ab_psh, ab_cats, Bool.false_eq_true, if_true, if_false, ab_shf, ab_shw, Int.le_refl, Classical.not_not, Int.zero_add, forall_const, ↓ab_itT, ↓ab_itF, ab_anT, ab_w32_id, ab_rdf_ne, ab_rdw_ne, ab_rdw_eq, ab_rdf_in, ab_td2, ab_tm2]
        refine hQ _ ?_ ?_
        · exact (ac_t8.trans ac_tk_same).trans ac_gk_same
        · rw [ac_gk_r1 (by omega), ac_tk_rd (by omega), ab_rdw_eq]
    · rw [if_neg hT] at hQ
      simp (disch := omega) only [do_X11_strain, rX11_strain_0, rX11_strain_1, rX11_strain_2, rX11_strain_3, rX11_strain_4, rX11_strain_5, rX11_strain_8, rX11_strain_11, rX11_strain_12, rX11_strain_13, rX11_strain_15, rX11_strain_17, rX11_strain_19, rX11_strain_21, rX11_strain_23, rX11_strain_26, rX11_strain_29, rX11_strain_30, rX11_strain_33, rX11_strain_34, rX11_strain_37, rX11_strain_40, rX11_strain_41, gS_1, hg, c0, c1, ne_eq, not_false_eq_true, not_true_eq_false, true_and, and_true, and_self, true_imp_iff, false_imp_iff, imp_self, Bool.not_false, Bool.not_true, reduceCtorEq, ab_isJ, ab_psh, ab_cats, Bool.false_eq_true, if_true, if_false, ab_shf, ab_shw, Int.le_refl, Classical.not_not, Int.zero_add, Int.add_zero, forall_const, ↓ab_itT, ↓ab_itF, ab_anT, ab_w32_id, ab_rdf_ne, ab_rdw_ne, ab_rdw_eq, ab_rdf_in, ab_td2, ab_tm2]
      exact hQ _ ac_t8 ab_rdw_eq
  · simp only [if_neg hL] at hQ c0
    simp (disch := omega) only [do_X11_strain, rX11_strain_0, rX11_strain_1, rX11_strain_2, rX11_strain_3, rX11_strain_4, rX11_strain_5, rX11_strain_8, rX11_strain_11, rX11_strain_12, rX11_strain_13, rX11_strain_15, rX11_strain_17, rX11_strain_19, rX11_strain_21, rX11_strain_23, rX11_strain_26, rX11_strain_29, rX11_strain_30, rX11_strain_33, rX11_strain_34, rX11_strain_37, rX11_strain_40, rX11_strain_41, gS_1, hg, c0, c1, ne_eq, not_false_eq_true, not_true_eq_false, true_and, and_true, and_self, true_imp_iff, false_imp_iff, imp_self, Bool.not_false, Bool.not_true, reduceCtorEq, ab_isJ, ab_psh, ab_cats, Bool.false_eq_true, if_true, if_false, ab_shf, ab_shw, Int.le_refl, Classical.not_not, Int.zero_add, Int.add_zero, forall_const, ↓ab_itT, ↓ab_itF, ab_anT, ab_w32_id, ab_rdf_ne, ab_rdw_ne, ab_rdw_eq, ab_rdf_in, ab_td2, ab_tm2]
    exact hQ _ ac_t8 ab_rdw_eq
end
