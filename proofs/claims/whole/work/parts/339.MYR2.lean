/-! THE REFERENCE: wins, spoilt -/
section
variable {X : ab_X} {σ τ υ : ab_S} {Q : Option ab_V → ab_S → Prop} {M : Int} {κ : ac_K} {v : Int → Int} {kd d b p hp q hq mv i s n : Int}
theorem mq_year_l (h : ac_MI σ M κ) (hv : ac_MV σ κ v) (sd : Int) (hn : n ≤ 200) (fin : Int → Int) (hQ : ∀ τ, ab_Same ac_PM σ τ → ac_MY τ fin → Q none τ) : ∀ (d : Nat) (i : Int) (x : Int × (Int → Int)) (τ : ab_S) (l4 l5 l6 l7 : ab_V), ab_Same ac_PM σ τ → 0 ≤ i → i + d = n → ab_rd τ 355 35 = x.1 → (0 ≤ x.1 ∧ x.1 ≤ 65536) → ac_MY τ x.2 → (∀ k, 0 ≤ x.2 k ∧ x.2 k ≤ i) → (ab_it (fun _ x => ac_sun κ v x) d i x).2 = fin → ab_Run X 273 38 (5, 0, 0) [ab_R 355, ab_I sd, ab_I n, ab_I i, l4, l5, l6, l7] [] τ Q := by
  intro d
  induction d with
  | zero =>
    intro i x τ l4 l5 l6 l7 hs hi hd h35 hx hy hyb hf
    rw [ab_it] at hf
    rw [hf] at hy
    rw [rX13_year_38]
    simp (disch := omega) only [rX13_year_39, rX13_year_40, rX13_year_203, ne_eq, not_false_eq_true, not_true_eq_false, true_and, and_true, and_self, true_imp_iff, false_imp_iff, imp_self, Bool.not_false, Bool.not_true, reduceCtorEq, ab_isJ, ab_psh, ab_cats, Bool.false_eq_true, if_true, if_false, ab_shf, ab_shw, Int.le_refl, Classical.not_not, Int.zero_add, forall_const, ↓ab_itT, ↓ab_itF, ab_anT, ab_w32_id, ab_rdf_ne, ab_rdw_ne, ab_rdw_eq, ab_rdf_in, ab_td2, ab_tm2]
    exact hQ _ hs hy
  | succ d ih =>
    intro i x τ l4 l5 l6 l7 hs hi hd h35 hx hy hyb hf
    rw [ab_it] at hf
    have sb := ac_sun_b (κ := κ) (v := v) (x := x) (m := i) hyb
    exact mq_sunday h hv sd n x τ i l4 l5 l6 l7 hs hi (by omega) hn h35 hx hy (fun k => by have := hyb k; omega) (fun τ' l4 l5 l6 l7 hs' h35' hy' => ih (i + 1) (ac_sun κ v x) τ' l4 l5 l6 l7 hs' (by omega) (by omega) h35' sb.1 hy' sb.2 hf)
theorem mq_year_0 (hg : ab_Geo σ) (sd : Int) (l4 l5 l6 l7 : ab_V) : ∀ (d : Nat) (i : Int), 0 ≤ i → i + d = 6 → (ab_Run X 273 17 (5, 0, 0) [ab_R 355, ab_I sd, ab_I n, ab_I i, l4, l5, l6, l7] [] (ab_fl σ 367 i (fun _ => 0)) Q ↔ ab_Run X 273 36 (5, 0, 0) [ab_R 355, ab_I sd, ab_I n, ab_I 6, l4, l5, l6, l7] [] (ab_fl σ 367 6 (fun _ => 0)) Q) := by
  intro d
  induction d with
  | zero =>
    intro i hi hd
    obtain rfl : i = 6 := by omega
    rw [rX13_year_17]
    simp (disch := omega) only [rX13_year_18, rX13_year_20, ne_eq, not_false_eq_true, not_true_eq_false, true_and, and_true, and_self, true_imp_iff, false_imp_iff, imp_self, Bool.not_false, Bool.not_true, reduceCtorEq, ab_isJ, ab_psh, ab_cats, Bool.false_eq_true, if_true, if_false, ab_shf, ab_shw, Int.le_refl, Classical.not_not, Int.zero_add, forall_const, ↓ab_itT, ↓ab_itF, ab_anT, ab_w32_id, ab_rdf_ne, ab_rdw_ne, ab_rdw_eq, ab_rdf_in, ab_td2, ab_tm2]
  | succ d ih =>
    intro i hi hd
    have key := ih (i + 1) (by omega) (by omega)
    rw [← ab_fl_succ hi] at key
    rw [rX13_year_17, ← key]
    simp (disch := omega) only [rX13_year_18, rX13_year_20, rX13_year_23, rX13_year_24, rX13_year_27, rX13_year_28, rX13_year_29, rX13_year_30, rX13_year_33, gS_355, gP_355_36, gS_367, hg, ne_eq, not_false_eq_true, not_true_eq_false, true_and, and_true, and_self, true_imp_iff, false_imp_iff, imp_self, Bool.not_false, Bool.not_true, reduceCtorEq, ab_isJ, ab_psh, ab_cats, Bool.false_eq_true, if_true, if_false, ab_shf, ab_shw, Int.le_refl, Classical.not_not, Int.zero_add, forall_const, ↓ab_itT, ↓ab_itF, ab_anT, ab_w32_id, ab_rdf_ne, ab_rdw_ne, ab_rdw_eq, ab_rdf_in, ab_td2, ab_tm2]
theorem mq_year {sd : Int} (h : ac_MI σ M κ) (hv : ac_MV σ κ v) (hs : 0 ≤ sd ∧ sd ≤ 65536) (hn : 0 ≤ n ∧ n ≤ 200) (hQ : ∀ τ, ab_Same ac_PM σ τ → ac_MY τ (ac_yrn κ v n sd).2 → Q none τ) : ab_Do X 273 [ab_R 355, ab_I sd, ab_I n] σ Q := by
  have g := h.1
  have s0 : ab_Same ac_PM σ (ab_wr (ab_wr (ab_wr σ 355 35 sd) 355 37 0) 355 38 0) := ((ab_Same.refl.wr (by unfold ac_PM; omega)).wr (by unfold ac_PM; omega)).wr (by unfold ac_PM; omega)
  have g0 := (h.same s0).1
  have s1 : ab_Same ac_PM σ (ab_fl (ab_wr (ab_wr (ab_wr σ 355 35 sd) 355 37 0) 355 38 0) 367 6 (fun _ => 0)) := s0.fl (fun y _ _ => by unfold ac_PM; omega)
  have key := mq_year_l (X := X) (Q := Q) (n := n) h hv sd hn.2 (ac_yrn κ v n sd).2 hQ n.toNat 0 (sd, fun _ => 0) _ (ab_R 0) (ab_R 0) (ab_R 0) (ab_R 0) s1 (by omega) (by omega) (by rw [ab_rdf_ne (by omega), ab_rdw_ne (by omega), ab_rdw_ne (by omega), ab_rdw_eq]) hs ⟨fun k k1 k2 => by rw [ab_rdf_in ⟨k1, k2⟩], by rw [ab_rdf_ne (by omega), ab_rdw_ne (by omega), ab_rdw_eq], by rw [ab_rdf_ne (by omega), ab_rdw_eq]⟩ (fun k => ⟨Int.le_refl 0, Int.le_refl 0⟩) rfl
  have z := mq_year_0 (X := X) (Q := Q) (n := n) g0 sd (ab_R 0) (ab_R 0) (ab_R 0) (ab_R 0) 6 0 (by omega) (by omega)
  rw [ab_fl0 (Int.le_refl 0)] at z
  have key2 : ab_Run X 273 36 (5, 0, 0) [ab_R 355, ab_I sd, ab_I n, ab_I 6, ab_R 0, ab_R 0, ab_R 0, ab_R 0] [] (ab_fl (ab_wr (ab_wr (ab_wr σ 355 35 sd) 355 37 0) 355 38 0) 367 6 (fun _ => 0)) Q := by
    simp (disch := omega) only [rX13_year_36, rX13_year_37, ne_eq, not_false_eq_true, not_true_eq_false, true_and, and_true, and_self, true_imp_iff, false_imp_iff, imp_self, Bool.not_false, Bool.not_true, reduceCtorEq, ab_isJ, ab_psh, ab_cats, Bool.false_eq_true, if_true, if_false, ab_shf, ab_shw, Int.le_refl, Classical.not_not, Int.zero_add, forall_const, ↓ab_itT, ↓ab_itF, ab_anT, ab_w32_id, ab_rdf_ne, ab_rdw_ne, ab_rdw_eq, ab_rdf_in, ab_td2, ab_tm2]
    all_goals exact key
  rw [← z] at key2
  simp (disch := omega) only [do_X13_year, rX13_year_0, rX13_year_1, rX13_year_2, rX13_year_5, rX13_year_6, rX13_year_7, rX13_year_10, rX13_year_11, rX13_year_12, rX13_year_15, rX13_year_16, gS_355, g, ne_eq, not_false_eq_true, not_true_eq_false, true_and, and_true, and_self, true_imp_iff, false_imp_iff, imp_self, Bool.not_false, Bool.not_true, reduceCtorEq, ab_isJ, ab_psh, ab_cats, Bool.false_eq_true, if_true, if_false, ab_shf, ab_shw, Int.le_refl, Classical.not_not, Int.zero_add, forall_const, ↓ab_itT, ↓ab_itF, ab_anT, ab_w32_id, ab_rdf_ne, ab_rdw_ne, ab_rdw_eq, ab_rdf_in, ab_td2, ab_tm2]
  all_goals exact key2
theorem mq_ry0 : ab_Do X 274 [ab_R 355, ab_I 0, ab_I s, ab_I n] σ Q ↔ Q (some (ab_I 1)) σ := by
  simp (disch := omega) only [do_X13_refusesYear, rX13_refusesYear_0, rX13_refusesYear_1, rX13_refusesYear_4, rX13_refusesYear_5, rX13_refusesYear_8, rX13_refusesYear_9, rX13_refusesYear_10, rX13_refusesYear_13, rX13_refusesYear_16, rX13_refusesYear_19, rX13_refusesYear_20, rX13_refusesYear_21, rX13_refusesYear_24, rX13_refusesYear_27, rX13_refusesYear_30, rX13_refusesYear_31, rX13_refusesYear_34, rX13_refusesYear_35, ne_eq, not_false_eq_true, not_true_eq_false, true_and, and_true, and_self, true_imp_iff, false_imp_iff, imp_self, Bool.not_false, Bool.not_true, reduceCtorEq, ab_isJ, ab_psh, ab_cats, Bool.false_eq_true, if_true, if_false, ab_shf, ab_shw, Int.le_refl, Classical.not_not, Int.zero_add, forall_const, ↓ab_itT, ↓ab_itF, ab_anT, ab_w32_id, ab_rdf_ne, ab_rdw_ne, ab_rdw_eq, ab_rdf_in, ab_td2, ab_tm2]
theorem mq_ry1 : ab_Do X 274 [ab_R 355, ab_I 1, ab_I s, ab_I n] σ Q ↔ Q (some (ab_I (if ac_isY s n then 0 else 2))) σ := by
  have cin := fun x lo hi Q' => mq_in (X := X) (σ := σ) (Q := Q') (x := x) (lo := lo) (hi := hi)
  by_cases h1 : 0 ≤ s ∧ s ≤ 65536
  · by_cases h2 : 0 ≤ n ∧ n ≤ 200
    · rw [if_pos ⟨h1, h2⟩]
      simp (disch := omega) only [do_X13_refusesYear, rX13_refusesYear_0, rX13_refusesYear_1, rX13_refusesYear_4, rX13_refusesYear_5, rX13_refusesYear_8, rX13_refusesYear_9, rX13_refusesYear_10, rX13_refusesYear_13, rX13_refusesYear_16, rX13_refusesYear_19, rX13_refusesYear_20, rX13_refusesYear_21, rX13_refusesYear_24, rX13_refusesYear_27, rX13_refusesYear_30, rX13_refusesYear_31, rX13_refusesYear_34, rX13_refusesYear_35, cin, if_pos h1, if_pos h2, ne_eq, not_false_eq_true, not_true_eq_false, true_and, and_true, and_self, true_imp_iff, false_imp_iff, imp_self, Bool.not_false, Bool.not_true, reduceCtorEq, ab_isJ, ab_psh, ab_cats, Bool.false_eq_true, if_true, if_false, ab_shf, ab_shw, Int.le_refl, Classical.not_not, Int.zero_add, forall_const, ↓ab_itT, ↓ab_itF, ab_anT, ab_w32_id, ab_rdf_ne, ab_rdw_ne, ab_rdw_eq, ab_rdf_in, ab_td2, ab_tm2]
    · rw [if_neg (fun u => h2 u.2)]
      simp (disch := omega) only [do_X13_refusesYear, rX13_refusesYear_0, rX13_refusesYear_1, rX13_refusesYear_4, rX13_refusesYear_5, rX13_refusesYear_8, rX13_refusesYear_9, rX13_refusesYear_10, rX13_refusesYear_13, rX13_refusesYear_16, rX13_refusesYear_19, rX13_refusesYear_20, rX13_refusesYear_21, rX13_refusesYear_24, rX13_refusesYear_27, rX13_refusesYear_30, rX13_refusesYear_31, rX13_refusesYear_34, rX13_refusesYear_35, cin, if_pos h1, if_neg h2, ne_eq, not_false_eq_true, not_true_eq_false, true_and, and_true, and_self, true_imp_iff, false_imp_iff, imp_self, Bool.not_false, Bool.not_true, reduceCtorEq, ab_isJ, ab_psh, ab_cats, Bool.false_eq_true, if_true, if_false, ab_shf, ab_shw, Int.le_refl, Classical.not_not, Int.zero_add, forall_const, ↓ab_itT, ↓ab_itF, ab_anT, ab_w32_id, ab_rdf_ne, ab_rdw_ne, ab_rdw_eq, ab_rdf_in, ab_td2, ab_tm2]
  · rw [if_neg (fun u => h1 u.1)]
    simp (disch := omega) only [do_X13_refusesYear, rX13_refusesYear_0, rX13_refusesYear_1, rX13_refusesYear_4, rX13_refusesYear_5, rX13_refusesYear_8, rX13_refusesYear_9, rX13_refusesYear_10, rX13_refusesYear_13, rX13_refusesYear_16, rX13_refusesYear_19, rX13_refusesYear_20, rX13_refusesYear_21, rX13_refusesYear_24, rX13_refusesYear_27, rX13_refusesYear_30, rX13_refusesYear_31, rX13_refusesYear_34, rX13_refusesYear_35, cin, if_neg h1, ne_eq, not_false_eq_true, not_true_eq_false, true_and, and_true, and_self, true_imp_iff, false_imp_iff, imp_self, Bool.not_false, Bool.not_true, reduceCtorEq, ab_isJ, ab_psh, ab_cats, Bool.false_eq_true, if_true, if_false, ab_shf, ab_shw, Int.le_refl, Classical.not_not, Int.zero_add, forall_const, ↓ab_itT, ↓ab_itF, ab_anT, ab_w32_id, ab_rdf_ne, ab_rdw_ne, ab_rdw_eq, ab_rdf_in, ab_td2, ab_tm2]
theorem mq_wins (h : ac_MN σ κ) (hv : ac_MV σ κ v) (hQ : ∀ τ, ab_Same ac_PM σ τ → ab_rd τ 355 1 = ac_wnT κ p s n → ab_rd τ 355 2 = -1 → Q (some (ab_I (if ac_wnT κ p s n = 0 then (ac_yrn κ v n s).2 p else -1))) τ) : ab_Do X 275 [ab_R 355, ab_I p, ab_I s, ab_I n] σ Q := by
  have h' := h.same ac_mq0
  have g0 := h.1
  have g := h'.1
  have c1 := fun b Q' => mq_isBone (X := X) (Q := Q') (b := b) h'
  have c2 := fun p q Q' => mq_isPair (X := X) (Q := Q') (p := p) (q := q) h'
  have c1p := fun b Q' => mq_isPerson (X := X) (Q := Q') (b := b) h'
  have cl := fun b arm k Q' => mq_isPlace (X := X) (Q := Q') (b := b) (arm := arm) (k := k) h'
  have cin := fun x lo hi Q' => mq_in (X := X) (σ := ab_wr σ 355 0 0) (Q := Q') (x := x) (lo := lo) (hi := hi)
  have cr := fun v Q' => sp_refused (X := X) (Q := Q') (v := v) g
  have c0 := fun b hp hq mv Q' => mq_rp0 (X := X) (σ := ab_wr σ 355 0 0) (Q := Q') (b := b) (hp := hp) (hq := hq) (mv := mv)
  have cy0 := fun s n Q' => mq_ry0 (X := X) (σ := ab_wr σ 355 0 0) (Q := Q') (s := s) (n := n)
  have cy1 := fun s n Q' => mq_ry1 (X := X) (σ := ab_wr σ 355 0 0) (Q := Q') (s := s) (n := n)
  by_cases hp : ac_isP κ p
  · by_cases hy : ac_isY s n
    · have eT : ac_wnT κ p s n = 0 := by unfold ac_wnT; rw [if_pos hp, if_pos hy]
      rw [eT, if_pos rfl] at hQ
      obtain ⟨M, hm⟩ := h.mp hp
      have n6 := hm.2.2.2.2.2.1.2.1.2
      simp (disch := omega) only [do_X13_wins, rX13_wins_0, rX13_wins_1, rX13_wins_2, rX13_wins_5, rX13_wins_6, rX13_wins_7, rX13_wins_8, rX13_wins_11, rX13_wins_12, rX13_wins_13, rX13_wins_16, rX13_wins_18, rX13_wins_20, rX13_wins_23, rX13_wins_24, rX13_wins_26, rX13_wins_29, rX13_wins_30, rX13_wins_31, rX13_wins_32, rX13_wins_33, gS_355, g0, g, c1p, if_pos hp, cy1, if_pos hy, ab_ifT, ne_eq, not_false_eq_true, not_true_eq_false, true_and, and_true, and_self, true_imp_iff, false_imp_iff, imp_self, Bool.not_false, Bool.not_true, reduceCtorEq, ab_isJ, ab_psh, ab_cats, Bool.false_eq_true, if_true, if_false, ab_shf, ab_shw, Int.le_refl, Classical.not_not, Int.zero_add, forall_const, ↓ab_itT, ↓ab_itF, ab_anT, ab_w32_id, ab_rdf_ne, ab_rdw_ne, ab_rdw_eq, ab_rdf_in, ab_td2, ab_tm2]
      refine mq_year (hm.same ac_mq0) (hv.same ac_mq0) hy.1 hy.2 (fun τ hs hY => ?_)
      have sT := ac_mq0.trans hs
      have gT := (hm.same sT).1
      have e := hY.1 p hp.1 (by omega)
      have c6 := fun x Q' => sp_good (X := X) (Q := Q') (v := x) gT
      simp (disch := omega) only [rX13_wins_36, rX13_wins_37, rX13_wins_38, rX13_wins_41, rX13_wins_42, rX13_wins_43, rX13_wins_46, gS_355, gP_355_36, gS_367, gT, e, c6, ne_eq, not_false_eq_true, not_true_eq_false, true_and, and_true, and_self, true_imp_iff, false_imp_iff, imp_self, Bool.not_false, Bool.not_true, reduceCtorEq, ab_isJ, ab_psh, ab_cats, Bool.false_eq_true, if_true, if_false, ab_shf, ab_shw, Int.le_refl, Classical.not_not, Int.zero_add, forall_const, ↓ab_itT, ↓ab_itF, ab_anT, ab_w32_id, ab_rdf_ne, ab_rdw_ne, ab_rdw_eq, ab_rdf_in, ab_td2, ab_tm2]
      exact hQ _ (ac_end1 sT).1 (ac_end1 sT).2.1 (ac_end1 sT).2.2
    · have eT : ac_wnT κ p s n = 2 := by (unfold ac_wnT; rw [if_pos hp, if_neg hy])
      rw [eT, if_neg (by decide)] at hQ
      simp (disch := omega) only [do_X13_wins, rX13_wins_0, rX13_wins_1, rX13_wins_2, rX13_wins_5, rX13_wins_6, rX13_wins_7, rX13_wins_8, rX13_wins_11, rX13_wins_12, rX13_wins_13, rX13_wins_16, rX13_wins_18, rX13_wins_20, rX13_wins_23, rX13_wins_24, rX13_wins_26, rX13_wins_29, rX13_wins_30, rX13_wins_31, rX13_wins_32, rX13_wins_33, rX13_wins_36, rX13_wins_37, rX13_wins_38, rX13_wins_41, rX13_wins_42, rX13_wins_43, rX13_wins_46, gS_355, g0, c1, c2, cl, cin, c0, cr, c1p, if_pos hp, ab_ifT, cy1, if_neg hy, ne_eq, not_false_eq_true, not_true_eq_false, true_and, and_true, and_self, true_imp_iff, false_imp_iff, imp_self, Bool.not_false, Bool.not_true, reduceCtorEq, ab_isJ, ab_psh, ab_cats, Bool.false_eq_true, if_true, if_false, ab_shf, ab_shw, Int.le_refl, Classical.not_not, Int.zero_add, forall_const, ↓ab_itT, ↓ab_itF, ab_anT, ab_w32_id, ab_rdf_ne, ab_rdw_ne, ab_rdw_eq, ab_rdf_in, ab_td2, ab_tm2, ab_ifF]
      exact hQ _ (ac_end1 ac_mq0).1 (ac_end1 ac_mq0).2.1 (ac_end1 ac_mq0).2.2
  · have eT : ac_wnT κ p s n = 1 := by (unfold ac_wnT; rw [if_neg hp])
    rw [eT, if_neg (by decide)] at hQ
    simp (disch := omega) only [do_X13_wins, rX13_wins_0, rX13_wins_1, rX13_wins_2, rX13_wins_5, rX13_wins_6, rX13_wins_7, rX13_wins_8, rX13_wins_11, rX13_wins_12, rX13_wins_13, rX13_wins_16, rX13_wins_18, rX13_wins_20, rX13_wins_23, rX13_wins_24, rX13_wins_26, rX13_wins_29, rX13_wins_30, rX13_wins_31, rX13_wins_32, rX13_wins_33, rX13_wins_36, rX13_wins_37, rX13_wins_38, rX13_wins_41, rX13_wins_42, rX13_wins_43, rX13_wins_46, gS_355, g0, c1, c2, cl, cin, c0, cr, c1p, if_neg hp, cy0, ne_eq, not_false_eq_true, not_true_eq_false, true_and, and_true, and_self, true_imp_iff, false_imp_iff, imp_self, Bool.not_false, Bool.not_true, reduceCtorEq, ab_isJ, ab_psh, ab_cats, Bool.false_eq_true, if_true, if_false, ab_shf, ab_shw, Int.le_refl, Classical.not_not, Int.zero_add, forall_const, ↓ab_itT, ↓ab_itF, ab_anT, ab_w32_id, ab_rdf_ne, ab_rdw_ne, ab_rdw_eq, ab_rdf_in, ab_td2, ab_tm2, ab_ifF]
    exact hQ _ (ac_end1 ac_mq0).1 (ac_end1 ac_mq0).2.1 (ac_end1 ac_mq0).2.2
theorem mq_spoilt {be : Int} (h : ac_MN σ κ) (hv : ac_MV σ κ v) (hbe : be = 0 ∨ be = 1) (hQ : ∀ τ, ab_Same ac_PM σ τ → ab_rd τ 355 1 = ac_spT κ s n → ab_rd τ 355 2 = -1 → Q (some (ab_I (if ac_spT κ s n = 0 then (ac_yrn κ v n s).2 (6 + be) else -1))) τ) : ab_Do X 276 [ab_R 355, ab_I s, ab_I n, ab_I be] σ Q := by
  have h' := h.same ac_mq0
  have g0 := h.1
  have g := h'.1
  have c1 := fun b Q' => mq_isBone (X := X) (Q := Q') (b := b) h'
  have c2 := fun p q Q' => mq_isPair (X := X) (Q := Q') (p := p) (q := q) h'
  have c1p := fun b Q' => mq_isPerson (X := X) (Q := Q') (b := b) h'
  have cl := fun b arm k Q' => mq_isPlace (X := X) (Q := Q') (b := b) (arm := arm) (k := k) h'
  have cin := fun x lo hi Q' => mq_in (X := X) (σ := ab_wr σ 355 0 0) (Q := Q') (x := x) (lo := lo) (hi := hi)
  have cr := fun v Q' => sp_refused (X := X) (Q := Q') (v := v) g
  have c0 := fun b hp hq mv Q' => mq_rp0 (X := X) (σ := ab_wr σ 355 0 0) (Q := Q') (b := b) (hp := hp) (hq := hq) (mv := mv)
  have cy0 := fun s n Q' => mq_ry0 (X := X) (σ := ab_wr σ 355 0 0) (Q := Q') (s := s) (n := n)
  have cy1 := fun s n Q' => mq_ry1 (X := X) (σ := ab_wr σ 355 0 0) (Q := Q') (s := s) (n := n)
  by_cases hb : 0 < κ 5 0
  · obtain ⟨M, hm⟩ := h.mi hb
    have hm' := hm.same (τ := ab_wr σ 355 0 0) ac_mq0
    have h3 : ab_rd (ab_wr σ 355 0 0) 355 3 = M := hm'.2.1
    have zM := hm.2.2.1.1
    by_cases hy : ac_isY s n
    · have eT : ac_spT κ s n = 0 := by unfold ac_spT; rw [if_pos hb, if_pos hy]
      rw [eT, if_pos rfl] at hQ
      simp (disch := omega) only [do_X13_spoilt, rX13_spoilt_0, rX13_spoilt_1, rX13_spoilt_2, rX13_spoilt_5, rX13_spoilt_6, rX13_spoilt_7, rX13_spoilt_10, rX13_spoilt_13, rX13_spoilt_14, rX13_spoilt_17, rX13_spoilt_18, rX13_spoilt_19, rX13_spoilt_20, rX13_spoilt_23, rX13_spoilt_25, rX13_spoilt_27, rX13_spoilt_30, rX13_spoilt_31, rX13_spoilt_33, rX13_spoilt_36, rX13_spoilt_37, rX13_spoilt_38, rX13_spoilt_39, rX13_spoilt_40, gS_355, g0, g, h3, cy1, if_pos hy, ab_ifT, ne_eq, not_false_eq_true, not_true_eq_false, true_and, and_true, and_self, true_imp_iff, false_imp_iff, imp_self, Bool.not_false, Bool.not_true, reduceCtorEq, ab_isJ, ab_psh, ab_cats, Bool.false_eq_true, if_true, if_false, ab_shf, ab_shw, Int.le_refl, Classical.not_not, Int.zero_add, forall_const, ↓ab_itT, ↓ab_itF, ab_anT]
      refine mq_year hm' (hv.same ac_mq0) hy.1 hy.2 (fun τ hs hY => ?_)
      have sT := ac_mq0.trans hs
      have gT := (hm.same sT).1
      have e6 := hY.2.1
      have e7 := hY.2.2
      have c6 := fun x Q' => sp_good (X := X) (Q := Q') (v := x) gT
      rcases hbe with rfl | rfl
      · simp (disch := omega) only [rX13_spoilt_43, rX13_spoilt_44, rX13_spoilt_45, rX13_spoilt_48, rX13_spoilt_49, rX13_spoilt_52, rX13_spoilt_55, rX13_spoilt_56, rX13_spoilt_59, rX13_spoilt_62, gS_355, gT, e6, c6, ne_eq, not_false_eq_true, not_true_eq_false, true_and, and_true, and_self, true_imp_iff, false_imp_iff, imp_self, Bool.not_false, Bool.not_true, reduceCtorEq, ab_isJ, ab_psh, ab_cats, Bool.false_eq_true, if_true, if_false, ab_shf, ab_shw, Int.le_refl, Classical.not_not, Int.zero_add, forall_const, ↓ab_itT, ↓ab_itF, ab_anT, ab_w32_id, ab_rdf_ne, ab_rdw_ne, ab_rdw_eq, ab_rdf_in, ab_td2, ab_tm2]
        exact hQ _ (ac_end1 sT).1 (ac_end1 sT).2.1 (ac_end1 sT).2.2
      · simp (disch := omega) only [rX13_spoilt_43, rX13_spoilt_44, rX13_spoilt_45, rX13_spoilt_48, rX13_spoilt_49, rX13_spoilt_52, rX13_spoilt_55, rX13_spoilt_56, rX13_spoilt_59, rX13_spoilt_62, gS_355, gT, e7, c6, ne_eq, not_false_eq_true, not_true_eq_false, true_and, and_true, and_self, true_imp_iff, false_imp_iff, imp_self, Bool.not_false, Bool.not_true, reduceCtorEq, ab_isJ, ab_psh, ab_cats, Bool.false_eq_true, if_true, if_false, ab_shf, ab_shw, Int.le_refl, Classical.not_not, Int.zero_add, forall_const, ↓ab_itT, ↓ab_itF, ab_anT, ab_w32_id, ab_rdf_ne, ab_rdw_ne, ab_rdw_eq, ab_rdf_in, ab_td2, ab_tm2]
        exact hQ _ (ac_end1 sT).1 (ac_end1 sT).2.1 (ac_end1 sT).2.2
    · have eT : ac_spT κ s n = 2 := by unfold ac_spT; rw [if_pos hb, if_neg hy]
      rw [eT, if_neg (by decide)] at hQ
      simp (disch := omega) only [do_X13_spoilt, rX13_spoilt_0, rX13_spoilt_1, rX13_spoilt_2, rX13_spoilt_5, rX13_spoilt_6, rX13_spoilt_7, rX13_spoilt_10, rX13_spoilt_13, rX13_spoilt_14, rX13_spoilt_17, rX13_spoilt_18, rX13_spoilt_19, rX13_spoilt_20, rX13_spoilt_23, rX13_spoilt_25, rX13_spoilt_27, rX13_spoilt_30, rX13_spoilt_31, rX13_spoilt_33, rX13_spoilt_36, rX13_spoilt_37, rX13_spoilt_38, rX13_spoilt_39, rX13_spoilt_40, rX13_spoilt_43, rX13_spoilt_44, rX13_spoilt_45, rX13_spoilt_48, rX13_spoilt_49, rX13_spoilt_52, rX13_spoilt_55, rX13_spoilt_56, rX13_spoilt_59, rX13_spoilt_62, gS_355, g0, g, h3, cy1, if_neg hy, cr, ne_eq, not_false_eq_true, not_true_eq_false, true_and, and_true, and_self, true_imp_iff, false_imp_iff, imp_self, Bool.not_false, Bool.not_true, reduceCtorEq, ab_isJ, ab_psh, ab_cats, Bool.false_eq_true, if_true, if_false, ab_shf, ab_shw, Int.le_refl, Classical.not_not, Int.zero_add, forall_const, ↓ab_itT, ↓ab_itF, ab_anT]
      exact hQ _ (ac_end1 ac_mq0).1 (ac_end1 ac_mq0).2.1 (ac_end1 ac_mq0).2.2
  · have e0 : ab_rd (ab_wr σ 355 0 0) 355 3 = 0 := h'.null hb
    have eT : ac_spT κ s n = 1 := by unfold ac_spT; rw [if_neg hb]
    rw [eT, if_neg (by decide)] at hQ
    simp (disch := omega) only [do_X13_spoilt, rX13_spoilt_0, rX13_spoilt_1, rX13_spoilt_2, rX13_spoilt_5, rX13_spoilt_6, rX13_spoilt_7, rX13_spoilt_10, rX13_spoilt_13, rX13_spoilt_14, rX13_spoilt_17, rX13_spoilt_18, rX13_spoilt_19, rX13_spoilt_20, rX13_spoilt_23, rX13_spoilt_25, rX13_spoilt_27, rX13_spoilt_30, rX13_spoilt_31, rX13_spoilt_33, rX13_spoilt_36, rX13_spoilt_37, rX13_spoilt_38, rX13_spoilt_39, rX13_spoilt_40, rX13_spoilt_43, rX13_spoilt_44, rX13_spoilt_45, rX13_spoilt_48, rX13_spoilt_49, rX13_spoilt_52, rX13_spoilt_55, rX13_spoilt_56, rX13_spoilt_59, rX13_spoilt_62, gS_355, g0, g, e0, cy0, cr, ne_eq, not_false_eq_true, not_true_eq_false, true_and, and_true, and_self, true_imp_iff, false_imp_iff, imp_self, Bool.not_false, Bool.not_true, reduceCtorEq, ab_isJ, ab_psh, ab_cats, Bool.false_eq_true, if_true, if_false, ab_shf, ab_shw, Int.le_refl, Classical.not_not, Int.zero_add, forall_const, ↓ab_itT, ↓ab_itF, ab_anT]
    exact hQ _ (ac_end1 ac_mq0).1 (ac_end1 ac_mq0).2.1 (ac_end1 ac_mq0).2.2
end
