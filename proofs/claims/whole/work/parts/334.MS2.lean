/-! THE REFERENCE: hand, side, known, hens, thumbs -/
section
variable {X : ab_X} {σ τ : ab_S} {Q : Option ab_V → ab_S → Prop} {M : Int} {κ : ac_K} {v : Int → Int} {kd d b p hp q hq mv fa ft arm k x lo w n : Int}
theorem mq_rows_l {n won : Int} (hn : 0 ≤ n ∧ n ≤ 24) : ∀ (d : Nat) (i ways sum : Int), 0 ≤ i → i + d = n + 1 → (ab_Run X 257 8 (0, 0, 0) [ab_I n, ab_I won, ab_J sum, ab_R 0, ab_J ways, ab_R 0, ab_I i] [] σ Q ↔ Q (some (ab_J (ab_it (ac_ws n won) d i (ways, sum)).2)) σ) := by
  intro d
  induction d with
  | zero =>
    intro i ways sum hi hd
    rw [rX13_rowsOf_8, ab_it]
    simp (disch := omega) only [rX13_rowsOf_10, rX13_rowsOf_11, rX13_rowsOf_47, rX13_rowsOf_48, ne_eq, not_false_eq_true, not_true_eq_false, true_and, and_true, and_self, true_imp_iff, false_imp_iff, imp_self, Bool.not_false, Bool.not_true, reduceCtorEq, ab_isJ, ab_psh, ab_cats, Bool.false_eq_true, if_true, if_false, ab_shf, ab_shw, Int.le_refl, Classical.not_not, Int.zero_add, forall_const, ↓ab_itT, ↓ab_itF, ab_anT, ab_w32_id, ab_rdf_ne, ab_rdw_ne, ab_rdw_eq, ab_rdf_in, ab_td2, ab_tm2]
  | succ d ih =>
    intro i ways sum hi hd
    rw [rX13_rowsOf_8, ab_it]
    unfold ac_ws
    dsimp only
    rw [show (fun i (s : Int × Int) => (ab_w64 ((ab_w64 (s.1 * (n - i))).tdiv (i + 1)), if won ≤ i then ab_w64 (s.2 + s.1) else s.2)) = ac_ws n won from rfl, ← ih (i + 1) _ _ (by omega) (by omega)]
    by_cases w : won ≤ i
    · rw [if_pos w]
      simp (disch := omega) only [rX13_rowsOf_10, rX13_rowsOf_11, rX13_rowsOf_14, rX13_rowsOf_16, rX13_rowsOf_17, rX13_rowsOf_20, rX13_rowsOf_21, rX13_rowsOf_23, rX13_rowsOf_24, rX13_rowsOf_25, rX13_rowsOf_27, rX13_rowsOf_28, rX13_rowsOf_30, rX13_rowsOf_31, rX13_rowsOf_32, rX13_rowsOf_33, rX13_rowsOf_35, rX13_rowsOf_36, rX13_rowsOf_37, rX13_rowsOf_38, rX13_rowsOf_39, rX13_rowsOf_41, rX13_rowsOf_44, ne_eq, not_false_eq_true, not_true_eq_false, true_and, and_true, and_self, true_imp_iff, false_imp_iff, imp_self, Bool.not_false, Bool.not_true, reduceCtorEq, ab_isJ, ab_psh, ab_cats, Bool.false_eq_true, if_true, if_false, ab_shf, ab_shw, Int.le_refl, Classical.not_not, Int.zero_add, forall_const, ↓ab_itT, ↓ab_itF, ab_anT, ab_w32_id, ab_rdf_ne, ab_rdw_ne, ab_rdw_eq, ab_rdf_in, ab_td2, ab_tm2]
    · rw [if_neg w]
      simp (disch := omega) only [rX13_rowsOf_10, rX13_rowsOf_11, rX13_rowsOf_14, rX13_rowsOf_16, rX13_rowsOf_17, rX13_rowsOf_20, rX13_rowsOf_21, rX13_rowsOf_23, rX13_rowsOf_24, rX13_rowsOf_25, rX13_rowsOf_27, rX13_rowsOf_28, rX13_rowsOf_30, rX13_rowsOf_31, rX13_rowsOf_32, rX13_rowsOf_33, rX13_rowsOf_35, rX13_rowsOf_36, rX13_rowsOf_37, rX13_rowsOf_38, rX13_rowsOf_39, rX13_rowsOf_41, rX13_rowsOf_44, ne_eq, not_false_eq_true, not_true_eq_false, true_and, and_true, and_self, true_imp_iff, false_imp_iff, imp_self, Bool.not_false, Bool.not_true, reduceCtorEq, ab_isJ, ab_psh, ab_cats, Bool.false_eq_true, if_true, if_false, ab_shf, ab_shw, Int.le_refl, Classical.not_not, Int.zero_add, forall_const, ↓ab_itT, ↓ab_itF, ab_anT, ab_w32_id, ab_rdf_ne, ab_rdw_ne, ab_rdw_eq, ab_rdf_in, ab_td2, ab_tm2]
theorem mq_rows {n won : Int} (hn : 0 ≤ n ∧ n ≤ 24) : ab_Do X 257 [ab_I n, ab_I won] σ Q ↔ Q (some (ab_J (ac_ways n won))) σ := by
  unfold ac_ways
  rw [← mq_rows_l (X := X) (Q := Q) hn (n + 1).toNat 0 1 0 (by omega) (by omega)]
  simp (disch := omega) only [do_X13_rowsOf, rX13_rowsOf_0, rX13_rowsOf_1, rX13_rowsOf_2, rX13_rowsOf_3, rX13_rowsOf_5, rX13_rowsOf_6, ne_eq, not_false_eq_true, not_true_eq_false, true_and, and_true, and_self, true_imp_iff, false_imp_iff, imp_self, Bool.not_false, Bool.not_true, reduceCtorEq, ab_isJ, ab_psh, ab_cats, Bool.false_eq_true, if_true, if_false, ab_shf, ab_shw, Int.le_refl, Classical.not_not, Int.zero_add, forall_const, ↓ab_itT, ↓ab_itF, ab_anT, ab_w32_id, ab_rdf_ne, ab_rdw_ne, ab_rdw_eq, ab_rdf_in, ab_td2, ab_tm2]
theorem mq_hand (h : ac_MN σ κ) (hlo : lo = 0 ∨ lo = 1) (hQ : ∀ τ, ab_Same ac_PM σ τ → ab_rd τ 355 1 = ac_p1T κ p → ab_rd τ 355 2 = -1 → Q (some (ab_J (if ac_p1T κ p = 0 then ac_hdA κ p lo else -1))) τ) : ab_Do X 258 [ab_R 355, ab_I p, ab_I lo] σ Q := by
  have h' := h.same ac_mq0
  have g0 := h.1
  have g := h'.1
  have c1 := fun b Q' => mq_isBone (X := X) (Q := Q') (b := b) h'
  have c2 := fun p q Q' => mq_isPair (X := X) (Q := Q') (p := p) (q := q) h'
  have c1p := fun b Q' => mq_isPerson (X := X) (Q := Q') (b := b) h'
  have cl := fun b arm k Q' => mq_isPlace (X := X) (Q := Q') (b := b) (arm := arm) (k := k) h'
  have cin := fun x lo hi Q' => mq_in (X := X) (σ := ab_wr σ 355 0 0) (Q := Q') (x := x) (lo := lo) (hi := hi)
  have cr := fun v Q' => sp_refused (X := X) (Q := Q') (v := v) g
  have c0 := fun b hp hq mv Q' => mq_rp0 (X := X) (σ := ab_wr σ 355 0 0) (Q := Q') (b := b) (hp := hp) (hq := hq) (mv := mv)
  by_cases hp : ac_isP κ p
  · have eT : ac_p1T κ p = 0 := if_pos hp
    rw [eT, if_pos rfl] at hQ
    have hq' := hQ _ (ac_end1 ac_mq0).1 (ac_end1 ac_mq0).2.1 (ac_end1 ac_mq0).2.2
    obtain ⟨M, hm⟩ := h.mp hp
    have hm' := hm.same (τ := ab_wr σ 355 0 0) ac_mq0
    have h3 : ab_rd (ab_wr σ 355 0 0) 355 3 = M := hm'.2.1
    have zM := hm.2.2.1.1
    have hG := hm'.2.2.1
    have hM := hm'.2.2.2.1
    have n5 := hm.2.2.2.2.2.1.1.2
    have n6 := hm.2.2.2.2.2.1.2.1.2
    have c6 := fun x Q' => sp_good (X := X) (Q := Q') (v := x) g
    have c7 := fun p Q' => mq_wonBy (X := X) (Q := Q') (p := p) hm'
    have c8 := fun p Q' => mq_pullsOf (X := X) (Q := Q') (p := p) hm'
    have wb := ac_won_b (p := p) hm.2.2.2.2.2.1
    have c9 := fun Q' => mq_rows (X := X) (σ := ab_wr σ 355 0 0) (Q := Q') (n := ac_won κ p + ac_lost κ p) (won := ac_won κ p) (by omega)
    have w1 := ac_ways_b (n := ac_won κ p + ac_lost κ p) (w := ac_won κ p) (by omega) (by omega)
    have w2 := ac_s64_b (p := ac_won κ p + ac_lost κ p) (by omega)
    have c10 := fun Q' => sp_fraction (X := X) (Q := Q') (up := ac_ways (ac_won κ p + ac_lost κ p) (ac_won κ p)) (low := ac_s64 (ac_won κ p + ac_lost κ p)) (lo := lo) g (by omega) (by omega) hlo
    simp (disch := omega) only [do_X13_hand, rX13_hand_0, rX13_hand_1, rX13_hand_2, rX13_hand_5, rX13_hand_6, rX13_hand_7, rX13_hand_10, rX13_hand_13, rX13_hand_14, rX13_hand_15, rX13_hand_18, rX13_hand_19, rX13_hand_20, rX13_hand_21, rX13_hand_22, rX13_hand_23, rX13_hand_26, rX13_hand_27, rX13_hand_28, rX13_hand_31, rX13_hand_34, rX13_hand_35, rX13_hand_36, rX13_hand_37, rX13_hand_40, rX13_hand_41, rX13_hand_42, rX13_hand_45, gS_355, g0, g, c1p, if_pos hp, c7, c8, c9, c10, ac_fs, ne_eq, not_false_eq_true, not_true_eq_false, true_and, and_true, and_self, true_imp_iff, false_imp_iff, imp_self, Bool.not_false, Bool.not_true, reduceCtorEq, ab_isJ, ab_psh, ab_cats, Bool.false_eq_true, if_true, if_false, ab_shf, ab_shw, Int.le_refl, Classical.not_not, Int.zero_add, forall_const, ↓ab_itT, ↓ab_itF, ab_anT, ab_w32_id, ab_rdf_ne, ab_rdw_ne, ab_rdw_eq, ab_rdf_in, ab_td2, ab_tm2]
    all_goals exact hq'
  · have eT : ac_p1T κ p = 1 := by exact if_neg hp
    rw [eT, if_neg (by decide)] at hQ
    simp (disch := omega) only [do_X13_hand, rX13_hand_0, rX13_hand_1, rX13_hand_2, rX13_hand_5, rX13_hand_6, rX13_hand_7, rX13_hand_10, rX13_hand_13, rX13_hand_14, rX13_hand_15, rX13_hand_18, rX13_hand_19, rX13_hand_20, rX13_hand_21, rX13_hand_22, rX13_hand_23, rX13_hand_26, rX13_hand_27, rX13_hand_28, rX13_hand_31, rX13_hand_34, rX13_hand_35, rX13_hand_36, rX13_hand_37, rX13_hand_40, rX13_hand_41, rX13_hand_42, rX13_hand_45, gS_355, g0, c1, c2, cl, cin, c0, cr, c1p, if_neg hp, ne_eq, not_false_eq_true, not_true_eq_false, true_and, and_true, and_self, true_imp_iff, false_imp_iff, imp_self, Bool.not_false, Bool.not_true, reduceCtorEq, ab_isJ, ab_psh, ab_cats, Bool.false_eq_true, if_true, if_false, ab_shf, ab_shw, Int.le_refl, Classical.not_not, Int.zero_add, forall_const, ↓ab_itT, ↓ab_itF, ab_anT, ab_w32_id, ab_rdf_ne, ab_rdw_ne, ab_rdw_eq, ab_rdf_in, ab_td2, ab_tm2, ab_ifF]
    exact hQ _ (ac_end1 ac_mq0).1 (ac_end1 ac_mq0).2.1 (ac_end1 ac_mq0).2.2
theorem mq_side_l (h : ac_MI σ M κ) : ∀ (n : Nat) (k s : Int), 0 ≤ k → k + n = κ 8 0 → 0 ≤ s → s ≤ k → (ab_Run X 259 23 (2, 0, 0) [ab_R 355, ab_I lo, ab_I s, ab_I k] [] σ Q ↔ ab_Run X 259 60 (2, 0, 0) [ab_R 355, ab_I lo, ab_I (ab_it (fun k s => if κ 24 k = 0 then s + 1 else s) n k s), ab_I (κ 8 0)] [] σ Q) := by
  obtain ⟨hg, h3, hG, hM, hK⟩ := h
  have z := hG.1
  have n8 := hK.2.1.2.2.2.1.2
  have e8 := kM_8 hM
  intro n
  induction n with
  | zero =>
    intro k s hk hn hs0 hs1
    obtain rfl : k = κ 8 0 := by omega
    rw [rX13_side_23, ab_it]
    simp (disch := omega) only [rX13_side_24, rX13_side_25, rX13_side_28, rX13_side_31, gS_355, hg, h3, mS, e8, ne_eq, not_false_eq_true, not_true_eq_false, true_and, and_true, and_self, true_imp_iff, false_imp_iff, imp_self, Bool.not_false, Bool.not_true, reduceCtorEq, ab_isJ, ab_psh, ab_cats, Bool.false_eq_true, if_true, if_false, ab_shf, ab_shw, Int.le_refl, Classical.not_not, Int.zero_add, forall_const, ↓ab_itT, ↓ab_itF, ab_anT, ab_w32_id, ab_rdf_ne, ab_rdw_ne, ab_rdw_eq, ab_rdf_in, ab_td2, ab_tm2]
  | succ n ih =>
    intro k s hk hn hs0 hs1
    rw [rX13_side_23, ab_it]
    by_cases w : κ 24 k = 0
    · rw [if_pos w, ← ih (k + 1) (s + 1) (by omega) (by omega) (by omega) (by omega)]
      simp (disch := omega) only [rX13_side_24, rX13_side_25, rX13_side_28, rX13_side_31, rX13_side_34, rX13_side_35, rX13_side_36, rX13_side_39, rX13_side_42, rX13_side_43, rX13_side_44, rX13_side_47, rX13_side_48, rX13_side_51, rX13_side_52, rX13_side_53, rX13_side_54, rX13_side_57, gS_355, hg, h3, mS, mP_24, mS_24, kM_24, e8, ne_eq, not_false_eq_true, not_true_eq_false, true_and, and_true, and_self, true_imp_iff, false_imp_iff, imp_self, Bool.not_false, Bool.not_true, reduceCtorEq, ab_isJ, ab_psh, ab_cats, Bool.false_eq_true, if_true, if_false, ab_shf, ab_shw, Int.le_refl, Classical.not_not, Int.zero_add, forall_const, ↓ab_itT, ↓ab_itF, ab_anT, ab_w32_id, ab_rdf_ne, ab_rdw_ne, ab_rdw_eq, ab_rdf_in, ab_td2, ab_tm2]
    · rw [if_neg w, ← ih (k + 1) s (by omega) (by omega) (by omega) (by omega)]
      simp (disch := omega) only [rX13_side_24, rX13_side_25, rX13_side_28, rX13_side_31, rX13_side_34, rX13_side_35, rX13_side_36, rX13_side_39, rX13_side_42, rX13_side_43, rX13_side_44, rX13_side_47, rX13_side_48, rX13_side_51, rX13_side_52, rX13_side_53, rX13_side_54, rX13_side_57, gS_355, hg, h3, mS, mP_24, mS_24, kM_24, e8, ne_eq, not_false_eq_true, not_true_eq_false, true_and, and_true, and_self, true_imp_iff, false_imp_iff, imp_self, Bool.not_false, Bool.not_true, reduceCtorEq, ab_isJ, ab_psh, ab_cats, Bool.false_eq_true, if_true, if_false, ab_shf, ab_shw, Int.le_refl, Classical.not_not, Int.zero_add, Int.add_zero, forall_const, ↓ab_itT, ↓ab_itF, ab_anT, ab_w32_id, ab_rdf_ne, ab_rdw_ne, ab_rdw_eq, ab_rdf_in, ab_td2, ab_tm2]
theorem ac_MN.null (h : ac_MN σ κ) (hb : ¬ 0 < κ 5 0) : ab_rd σ 355 3 = 0 := by
  rcases h.2 with ⟨h2, -⟩ | ⟨M, hm⟩
  · exact h2
  · have := hm.2.2.2.2.2.2.2.1
    omega
theorem mq_side (h : ac_MN σ κ) (hlo : lo = 0 ∨ lo = 1) (hQ : ∀ τ, ab_Same ac_PM σ τ → ab_rd τ 355 1 = ac_kT κ → ab_rd τ 355 2 = -1 → Q (some (ab_J (if ac_kT κ = 0 then ac_sdA κ lo else -1))) τ) : ab_Do X 259 [ab_R 355, ab_I lo] σ Q := by
  have h' := h.same ac_mq0
  have g0 := h.1
  have g := h'.1
  have c1 := fun b Q' => mq_isBone (X := X) (Q := Q') (b := b) h'
  have c2 := fun p q Q' => mq_isPair (X := X) (Q := Q') (p := p) (q := q) h'
  have c1p := fun b Q' => mq_isPerson (X := X) (Q := Q') (b := b) h'
  have cl := fun b arm k Q' => mq_isPlace (X := X) (Q := Q') (b := b) (arm := arm) (k := k) h'
  have cin := fun x lo hi Q' => mq_in (X := X) (σ := ab_wr σ 355 0 0) (Q := Q') (x := x) (lo := lo) (hi := hi)
  have cr := fun v Q' => sp_refused (X := X) (Q := Q') (v := v) g
  have c0 := fun b hp hq mv Q' => mq_rp0 (X := X) (σ := ab_wr σ 355 0 0) (Q := Q') (b := b) (hp := hp) (hq := hq) (mv := mv)
  by_cases hb : 0 < κ 5 0
  · have eT : ac_kT κ = 0 := if_pos hb
    rw [eT, if_pos rfl] at hQ
    have hq' := hQ _ (ac_end1 ac_mq0).1 (ac_end1 ac_mq0).2.1 (ac_end1 ac_mq0).2.2
    obtain ⟨M, hm⟩ := h.mi hb
    have hm' := hm.same (τ := ab_wr σ 355 0 0) ac_mq0
    have h3 : ab_rd (ab_wr σ 355 0 0) 355 3 = M := hm'.2.1
    have zM := hm.2.2.1.1
    have hG := hm'.2.2.1
    have hM := hm'.2.2.2.1
    have n5 := hm.2.2.2.2.2.1.1.2
    have n6 := hm.2.2.2.2.2.1.2.1.2
    have c6 := fun x Q' => sp_good (X := X) (Q := Q') (v := x) g
    have n8 := hm.2.2.2.2.2.1.2.2.2.1
    have e8 := kM_8 hM
    have sM := hG.2.1
    have cb := ac_cnt_b (f := κ 24) (n := κ 8 0) (x := 0) n8.1
    have c9 := fun Q' => mq_rows (X := X) (σ := ab_wr σ 355 0 0) (Q := Q') (n := κ 8 0) (won := ac_cnt (κ 24) (κ 8 0) 0) (by omega)
    have w1 := ac_ways_b (n := κ 8 0) (w := ac_cnt (κ 24) (κ 8 0) 0) (by omega) (by omega)
    have w2 := ac_s64_b (p := κ 8 0) (by omega)
    have c10 := fun Q' => sp_fraction (X := X) (Q := Q') (up := ac_ways (κ 8 0) (ac_cnt (κ 24) (κ 8 0) 0)) (low := ac_s64 (κ 8 0)) (lo := lo) g (by omega) (by omega) hlo
    have L := mq_side_l (X := X) (Q := Q) (lo := lo) hm' (κ 8 0).toNat 0 0 (by omega) (by omega) (by omega) (by omega)
    have hm3 : ab_rd σ 355 3 = M := hm.2.1
    have key : ab_Run X 259 60 (2, 0, 0) [ab_R 355, ab_I lo, ab_I (ac_cnt (κ 24) (κ 8 0) 0), ab_I (κ 8 0)] [] (ab_wr σ 355 0 0) Q := by
      simp (disch := omega) only [rX13_side_60, rX13_side_61, rX13_side_62, rX13_side_65, rX13_side_68, rX13_side_69, rX13_side_72, rX13_side_73, rX13_side_74, rX13_side_77, rX13_side_80, rX13_side_81, rX13_side_82, rX13_side_85, gS_355, g0, g, h3, sM, e8, c9, c10, ac_fs, ne_eq, not_false_eq_true, not_true_eq_false, true_and, and_true, and_self, true_imp_iff, false_imp_iff, imp_self, Bool.not_false, Bool.not_true, reduceCtorEq, ab_isJ, ab_psh, ab_cats, Bool.false_eq_true, if_true, if_false, ab_shf, ab_shw, Int.le_refl, Classical.not_not, Int.zero_add, forall_const, ↓ab_itT, ↓ab_itF, ab_anT]
      all_goals exact hq'
    rw [show ac_cnt (κ 24) (κ 8 0) 0 = ab_it (fun k s => if κ 24 k = 0 then s + 1 else s) (κ 8 0).toNat 0 0 from rfl, ← L] at key
    simp (disch := omega) only [do_X13_side, rX13_side_0, rX13_side_1, rX13_side_2, rX13_side_5, rX13_side_6, rX13_side_9, rX13_side_12, rX13_side_13, rX13_side_14, rX13_side_17, rX13_side_18, rX13_side_19, rX13_side_20, rX13_side_21, rX13_side_22, gS_355, g0, g, h3, sM, ne_eq, not_false_eq_true, not_true_eq_false, true_and, and_true, and_self, true_imp_iff, false_imp_iff, imp_self, Bool.not_false, Bool.not_true, reduceCtorEq, ab_isJ, ab_psh, ab_cats, Bool.false_eq_true, if_true, if_false, ab_shf, ab_shw, Int.le_refl, Classical.not_not, Int.zero_add, forall_const, ↓ab_itT, ↓ab_itF, ab_anT]
    all_goals exact key
  · have e0 : ab_rd (ab_wr σ 355 0 0) 355 3 = 0 := h'.null hb
    have eT : ac_kT κ = 1 := if_neg hb
    rw [eT, if_neg (by decide)] at hQ
    simp (disch := omega) only [do_X13_side, rX13_side_0, rX13_side_1, rX13_side_2, rX13_side_5, rX13_side_6, rX13_side_9, rX13_side_12, rX13_side_13, rX13_side_14, rX13_side_17, rX13_side_18, gS_355, g0, g, e0, cr, ne_eq, not_false_eq_true, not_true_eq_false, true_and, and_true, and_self, true_imp_iff, false_imp_iff, imp_self, Bool.not_false, Bool.not_true, reduceCtorEq, ab_isJ, ab_psh, ab_cats, Bool.false_eq_true, if_true, if_false, ab_shf, ab_shw, Int.le_refl, Classical.not_not, Int.zero_add, forall_const, ↓ab_itT, ↓ab_itF, ab_anT]
    exact hQ _ (ac_end1 ac_mq0).1 (ac_end1 ac_mq0).2.1 (ac_end1 ac_mq0).2.2
theorem mq_known_l (h : ac_MI σ M κ) (hQ : ∀ s, Q (some (ab_I s)) (ab_wr (ab_wr σ 355 1 0) 355 2 (-1)) ↔ Q (some (ab_I s)) (ab_wr (ab_wr σ 355 1 0) 355 2 (-1))) : ∀ (n : Nat) (p s : Int), 0 ≤ p → p + n = κ 6 0 → (-2147483648 ≤ s ∧ s < 2147483648) → (ab_Run X 260 22 (2, 0, 0) [ab_R 355, ab_I s, ab_I p] [] σ Q ↔ Q (some (ab_I (ab_it (fun p s => if ac_knf κ p then ac_or s (ac_sl p) else s) n p s))) (ab_wr (ab_wr σ 355 1 0) 355 2 (-1))) := by
  have g := h.1
  have h3 := h.2.1
  have sM := h.2.2.1.2.1
  have zM := h.2.2.1.1
  have e6 := kM_6 h.2.2.2.1
  have n6 := h.2.2.2.2.2.1.2.1.2
  have c6 := fun x Q' => sp_good (X := X) (Q := Q') (v := x) g
  have c7 := fun p Q' => mq_wonBy (X := X) (Q := Q') (p := p) h
  have c8 := fun p Q' => mq_pullsOf (X := X) (Q := Q') (p := p) h
  clear hQ
  intro n
  induction n with
  | zero =>
    intro p s hp0 hn hs
    rw [rX13_known_22, ab_it]
    simp (disch := omega) only [rX13_known_23, rX13_known_24, rX13_known_27, rX13_known_30, rX13_known_77, rX13_known_78, rX13_known_79, rX13_known_82, gS_355, g, h3, sM, e6, c6, ne_eq, not_false_eq_true, not_true_eq_false, true_and, and_true, and_self, true_imp_iff, false_imp_iff, imp_self, Bool.not_false, Bool.not_true, reduceCtorEq, ab_isJ, ab_psh, ab_cats, Bool.false_eq_true, if_true, if_false, ab_shf, ab_shw, Int.le_refl, Classical.not_not, Int.zero_add, forall_const, ↓ab_itT, ↓ab_itF, ab_anT, ab_w32_id, ab_rdf_ne, ab_rdw_ne, ab_rdw_eq, ab_rdf_in, ab_td2, ab_tm2]
  | succ n ih =>
    intro p s hp0 hn hs
    have wb := ac_won_b (p := p) h.2.2.2.2.2.1
    have c9 := fun Q' => mq_rows (X := X) (σ := σ) (Q := Q') (n := ac_won κ p + ac_lost κ p) (won := ac_won κ p) (by omega)
    rw [rX13_known_22, ab_it]
    by_cases w : ac_knf κ p
    · have ob := ac_or_b (a := s) (b := ac_sl p)
      rw [if_pos w, ← ih (p + 1) (ac_or s (ac_sl p)) (by omega) (by omega) ob]
      have w' : ab_w64 (20 * ac_ways (ac_won κ p + ac_lost κ p) (ac_won κ p)) ≤ ac_s64 (ac_won κ p + ac_lost κ p) := w
      have lc : ¬ 0 < (if ac_s64 (ac_won κ p + ac_lost κ p) < ab_w64 (20 * ac_ways (ac_won κ p + ac_lost κ p) (ac_won κ p)) then (1 : Int) else if ab_w64 (20 * ac_ways (ac_won κ p + ac_lost κ p) (ac_won κ p)) = ac_s64 (ac_won κ p + ac_lost κ p) then 0 else -1) := by
        rw [if_neg (by omega)]; split <;> omega
      simp (disch := omega) only [rX13_known_23, rX13_known_24, rX13_known_27, rX13_known_30, rX13_known_33, rX13_known_34, rX13_known_37, rX13_known_38, rX13_known_39, rX13_known_42, rX13_known_43, rX13_known_44, rX13_known_47, rX13_known_50, rX13_known_51, rX13_known_52, rX13_known_53, rX13_known_54, rX13_known_57, rX13_known_58, rX13_known_59, rX13_known_62, rX13_known_63, rX13_known_64, rX13_known_65, rX13_known_68, rX13_known_69, rX13_known_70, rX13_known_71, rX13_known_74, gS_355, g, h3, sM, e6, c7, c8, c9, ac_fs, ac_fo, ac_fl1, ne_eq, not_false_eq_true, not_true_eq_false, true_and, and_true, and_self, true_imp_iff, false_imp_iff, imp_self, Bool.not_false, Bool.not_true, reduceCtorEq, ab_isJ, ab_psh, ab_cats, Bool.false_eq_true, if_true, if_false, ab_shf, ab_shw, Int.le_refl, Classical.not_not, Int.zero_add, forall_const, ↓ab_itT, ↓ab_itF, ab_anT, ab_w32_id, ab_rdf_ne, ab_rdw_ne, ab_rdw_eq, ab_rdf_in, ab_td2, ab_tm2]
    · rw [if_neg w, ← ih (p + 1) s (by omega) (by omega) hs]
      have w' : ¬ ab_w64 (20 * ac_ways (ac_won κ p + ac_lost κ p) (ac_won κ p)) ≤ ac_s64 (ac_won κ p + ac_lost κ p) := w
      have o0 := ac_or0 hs
      simp (disch := omega) only [rX13_known_23, rX13_known_24, rX13_known_27, rX13_known_30, rX13_known_33, rX13_known_34, rX13_known_37, rX13_known_38, rX13_known_39, rX13_known_42, rX13_known_43, rX13_known_44, rX13_known_47, rX13_known_50, rX13_known_51, rX13_known_52, rX13_known_53, rX13_known_54, rX13_known_57, rX13_known_58, rX13_known_59, rX13_known_62, rX13_known_63, rX13_known_64, rX13_known_65, rX13_known_68, rX13_known_69, rX13_known_70, rX13_known_71, rX13_known_74, gS_355, g, h3, sM, e6, c7, c8, c9, ac_fs, ac_fo, ac_fl1, o0, ne_eq, not_false_eq_true, not_true_eq_false, true_and, and_true, and_self, true_imp_iff, false_imp_iff, imp_self, Bool.not_false, Bool.not_true, reduceCtorEq, ab_isJ, ab_psh, ab_cats, Bool.false_eq_true, if_true, if_false, ab_shf, ab_shw, Int.le_refl, Classical.not_not, Int.zero_add, forall_const, ↓ab_itT, ↓ab_itF, ab_anT, ab_w32_id, ab_rdf_ne, ab_rdw_ne, ab_rdw_eq, ab_rdf_in, ab_td2, ab_tm2, ab_ifT]
theorem mq_known (h : ac_MN σ κ) (hQ : ∀ τ, ab_Same ac_PM σ τ → ab_rd τ 355 1 = ac_kT κ → ab_rd τ 355 2 = -1 → Q (some (ab_I (if ac_kT κ = 0 then ac_kn κ else -1))) τ) : ab_Do X 260 [ab_R 355] σ Q := by
  have h' := h.same ac_mq0
  have g0 := h.1
  have g := h'.1
  have c1 := fun b Q' => mq_isBone (X := X) (Q := Q') (b := b) h'
  have c2 := fun p q Q' => mq_isPair (X := X) (Q := Q') (p := p) (q := q) h'
  have c1p := fun b Q' => mq_isPerson (X := X) (Q := Q') (b := b) h'
  have cl := fun b arm k Q' => mq_isPlace (X := X) (Q := Q') (b := b) (arm := arm) (k := k) h'
  have cin := fun x lo hi Q' => mq_in (X := X) (σ := ab_wr σ 355 0 0) (Q := Q') (x := x) (lo := lo) (hi := hi)
  have cr := fun v Q' => sp_refused (X := X) (Q := Q') (v := v) g
  have c0 := fun b hp hq mv Q' => mq_rp0 (X := X) (σ := ab_wr σ 355 0 0) (Q := Q') (b := b) (hp := hp) (hq := hq) (mv := mv)
  by_cases hb : 0 < κ 5 0
  · have eT : ac_kT κ = 0 := if_pos hb
    rw [eT, if_pos rfl] at hQ
    have hq' := hQ _ (ac_end1 ac_mq0).1 (ac_end1 ac_mq0).2.1 (ac_end1 ac_mq0).2.2
    obtain ⟨M, hm⟩ := h.mi hb
    have hm' := hm.same (τ := ab_wr σ 355 0 0) ac_mq0
    have h3 : ab_rd (ab_wr σ 355 0 0) 355 3 = M := hm'.2.1
    have zM := hm.2.2.1.1
    have hG := hm'.2.2.1
    have hM := hm'.2.2.2.1
    have n5 := hm.2.2.2.2.2.1.1.2
    have n6 := hm.2.2.2.2.2.1.2.1.2
    have c6 := fun x Q' => sp_good (X := X) (Q := Q') (v := x) g
    have nn6 := hm.2.2.2.2.2.1.2.1
    unfold ac_kn at hq'
    rw [← mq_known_l (X := X) (Q := Q) hm' (fun _ => Iff.rfl) (κ 6 0).toNat 0 0 (by omega) (by omega) (by omega)] at hq'
    simp (disch := omega) only [do_X13_known, rX13_known_0, rX13_known_1, rX13_known_2, rX13_known_5, rX13_known_6, rX13_known_9, rX13_known_12, rX13_known_13, rX13_known_14, rX13_known_17, rX13_known_18, rX13_known_19, rX13_known_20, rX13_known_21, gS_355, g0, g, h3, ne_eq, not_false_eq_true, not_true_eq_false, true_and, and_true, and_self, true_imp_iff, false_imp_iff, imp_self, Bool.not_false, Bool.not_true, reduceCtorEq, ab_isJ, ab_psh, ab_cats, Bool.false_eq_true, if_true, if_false, ab_shf, ab_shw, Int.le_refl, Classical.not_not, Int.zero_add, forall_const, ↓ab_itT, ↓ab_itF, ab_anT]
    all_goals exact hq'
  · have e0 : ab_rd (ab_wr σ 355 0 0) 355 3 = 0 := h'.null hb
    have eT : ac_kT κ = 1 := if_neg hb
    rw [eT, if_neg (by decide)] at hQ
    simp (disch := omega) only [do_X13_known, rX13_known_0, rX13_known_1, rX13_known_2, rX13_known_5, rX13_known_6, rX13_known_9, rX13_known_12, rX13_known_13, rX13_known_14, rX13_known_17, gS_355, g0, g, e0, cr, ne_eq, not_false_eq_true, not_true_eq_false, true_and, and_true, and_self, true_imp_iff, false_imp_iff, imp_self, Bool.not_false, Bool.not_true, reduceCtorEq, ab_isJ, ab_psh, ab_cats, Bool.false_eq_true, if_true, if_false, ab_shf, ab_shw, Int.le_refl, Classical.not_not, Int.zero_add, forall_const, ↓ab_itT, ↓ab_itF, ab_anT]
    exact hQ _ (ac_end1 ac_mq0).1 (ac_end1 ac_mq0).2.1 (ac_end1 ac_mq0).2.2
theorem mq_hens_l (hg : ab_Geo σ) (hn : n ≤ 1000000) : ∀ (f : Nat) (p : Int), 0 ≤ p → p + f = 20 → (ab_Run X 261 37 (1, 0, 0) [ab_R 355, ab_I n, ab_I p] [] σ Q ↔ Q (some (ab_I (ac_hs n f p))) (ab_wr (ab_wr σ 355 1 0) 355 2 (-1))) := by
  have c6 := fun x Q' => sp_good (X := X) (Q := Q') (v := x) hg
  intro f
  induction f with
  | zero =>
    intro p hp hf
    obtain rfl : p = 20 := by omega
    have e : ac_sl 20 = 1048576 := ac_sl_f ⟨20, by decide⟩
    rw [rX13_hens_37, ac_hs]
    simp (disch := omega) only [rX13_hens_38, rX13_hens_39, rX13_hens_40, rX13_hens_41, rX13_hens_50, rX13_hens_51, rX13_hens_52, rX13_hens_55, ac_fl1, e, gS_355, hg, c6, ne_eq, not_false_eq_true, not_true_eq_false, true_and, and_true, and_self, true_imp_iff, false_imp_iff, imp_self, Bool.not_false, Bool.not_true, reduceCtorEq, ab_isJ, ab_psh, ab_cats, Bool.false_eq_true, if_true, if_false, ab_shf, ab_shw, Int.le_refl, Classical.not_not, Int.zero_add, forall_const, ↓ab_itT, ↓ab_itF, ab_anT, ab_w32_id, ab_rdf_ne, ab_rdw_ne, ab_rdw_eq, ab_rdf_in, ab_td2, ab_tm2]
  | succ f ih =>
    intro p hp hf
    rw [rX13_hens_37, ac_hs]
    by_cases w : ac_sl p < n
    · rw [if_pos w, ← ih (p + 1) (by omega) (by omega)]
      simp (disch := omega) only [rX13_hens_38, rX13_hens_39, rX13_hens_40, rX13_hens_41, rX13_hens_44, rX13_hens_47, rX13_hens_50, rX13_hens_51, rX13_hens_52, rX13_hens_55, ac_fl1, gS_355, hg, c6, ne_eq, not_false_eq_true, not_true_eq_false, true_and, and_true, and_self, true_imp_iff, false_imp_iff, imp_self, Bool.not_false, Bool.not_true, reduceCtorEq, ab_isJ, ab_psh, ab_cats, Bool.false_eq_true, if_true, if_false, ab_shf, ab_shw, Int.le_refl, Classical.not_not, Int.zero_add, forall_const, ↓ab_itT, ↓ab_itF, ab_anT, ab_w32_id, ab_rdf_ne, ab_rdw_ne, ab_rdw_eq, ab_rdf_in, ab_td2, ab_tm2]
    · rw [if_neg w]
      simp (disch := omega) only [rX13_hens_38, rX13_hens_39, rX13_hens_40, rX13_hens_41, rX13_hens_44, rX13_hens_47, rX13_hens_50, rX13_hens_51, rX13_hens_52, rX13_hens_55, ac_fl1, gS_355, hg, c6, ne_eq, not_false_eq_true, not_true_eq_false, true_and, and_true, and_self, true_imp_iff, false_imp_iff, imp_self, Bool.not_false, Bool.not_true, reduceCtorEq, ab_isJ, ab_psh, ab_cats, Bool.false_eq_true, if_true, if_false, ab_shf, ab_shw, Int.le_refl, Classical.not_not, Int.zero_add, forall_const, ↓ab_itT, ↓ab_itF, ab_anT, ab_w32_id, ab_rdf_ne, ab_rdw_ne, ab_rdw_eq, ab_rdf_in, ab_td2, ab_tm2]
theorem mq_hens (h : ac_MN σ κ) (hQ : ∀ τ, ab_Same ac_PM σ τ → ab_rd τ 355 1 = ac_hnT κ n → ab_rd τ 355 2 = -1 → Q (some (ab_I (if ac_hnT κ n = 0 then ac_hs n 20 0 else -1))) τ) : ab_Do X 261 [ab_R 355, ab_I n] σ Q := by
  have h' := h.same ac_mq0
  have g0 := h.1
  have g := h'.1
  have c1 := fun b Q' => mq_isBone (X := X) (Q := Q') (b := b) h'
  have c2 := fun p q Q' => mq_isPair (X := X) (Q := Q') (p := p) (q := q) h'
  have c1p := fun b Q' => mq_isPerson (X := X) (Q := Q') (b := b) h'
  have cl := fun b arm k Q' => mq_isPlace (X := X) (Q := Q') (b := b) (arm := arm) (k := k) h'
  have cin := fun x lo hi Q' => mq_in (X := X) (σ := ab_wr σ 355 0 0) (Q := Q') (x := x) (lo := lo) (hi := hi)
  have cr := fun v Q' => sp_refused (X := X) (Q := Q') (v := v) g
  have c0 := fun b hp hq mv Q' => mq_rp0 (X := X) (σ := ab_wr σ 355 0 0) (Q := Q') (b := b) (hp := hp) (hq := hq) (mv := mv)
  by_cases hb : 0 < κ 5 0
  · obtain ⟨M, hm⟩ := h.mi hb
    have hm' := hm.same (τ := ab_wr σ 355 0 0) ac_mq0
    have h3 : ab_rd (ab_wr σ 355 0 0) 355 3 = M := hm'.2.1
    have zM := hm.2.2.1.1
    have hG := hm'.2.2.1
    have hM := hm'.2.2.2.1
    have n5 := hm.2.2.2.2.2.1.1.2
    have n6 := hm.2.2.2.2.2.1.2.1.2
    have c6 := fun x Q' => sp_good (X := X) (Q := Q') (v := x) g
    by_cases hn : 1 ≤ n ∧ n ≤ 1000000
    · have eT : ac_hnT κ n = 0 := by unfold ac_hnT; rw [if_pos hb, if_pos hn]
      rw [eT, if_pos rfl] at hQ
      have hq' := hQ _ (ac_end1 ac_mq0).1 (ac_end1 ac_mq0).2.1 (ac_end1 ac_mq0).2.2
      rw [← mq_hens_l (X := X) (Q := Q) g hn.2 20 0 (by omega) (by omega)] at hq'
      simp (disch := omega) only [do_X13_hens, rX13_hens_0, rX13_hens_1, rX13_hens_2, rX13_hens_5, rX13_hens_6, rX13_hens_9, rX13_hens_12, rX13_hens_13, rX13_hens_14, rX13_hens_17, rX13_hens_18, rX13_hens_19, rX13_hens_20, rX13_hens_23, rX13_hens_26, rX13_hens_29, rX13_hens_30, rX13_hens_31, rX13_hens_34, rX13_hens_35, rX13_hens_36, gS_355, g0, g, h3, cin, if_pos hn, ne_eq, not_false_eq_true, not_true_eq_false, true_and, and_true, and_self, true_imp_iff, false_imp_iff, imp_self, Bool.not_false, Bool.not_true, reduceCtorEq, ab_isJ, ab_psh, ab_cats, Bool.false_eq_true, if_true, if_false, ab_shf, ab_shw, Int.le_refl, Classical.not_not, Int.zero_add, forall_const, ↓ab_itT, ↓ab_itF, ab_anT]
      all_goals exact hq'
    · have eT : ac_hnT κ n = 2 := by unfold ac_hnT; rw [if_pos hb, if_neg hn]
      rw [eT, if_neg (by decide)] at hQ
      simp (disch := omega) only [do_X13_hens, rX13_hens_0, rX13_hens_1, rX13_hens_2, rX13_hens_5, rX13_hens_6, rX13_hens_9, rX13_hens_12, rX13_hens_13, rX13_hens_14, rX13_hens_17, rX13_hens_18, rX13_hens_19, rX13_hens_20, rX13_hens_23, rX13_hens_26, rX13_hens_29, rX13_hens_30, rX13_hens_31, rX13_hens_34, rX13_hens_35, rX13_hens_36, gS_355, g0, g, h3, cin, if_neg hn, cr, ne_eq, not_false_eq_true, not_true_eq_false, true_and, and_true, and_self, true_imp_iff, false_imp_iff, imp_self, Bool.not_false, Bool.not_true, reduceCtorEq, ab_isJ, ab_psh, ab_cats, Bool.false_eq_true, if_true, if_false, ab_shf, ab_shw, Int.le_refl, Classical.not_not, Int.zero_add, forall_const, ↓ab_itT, ↓ab_itF, ab_anT]
      exact hQ _ (ac_end1 ac_mq0).1 (ac_end1 ac_mq0).2.1 (ac_end1 ac_mq0).2.2
  · have e0 : ab_rd (ab_wr σ 355 0 0) 355 3 = 0 := h'.null hb
    have eT : ac_hnT κ n = 1 := by unfold ac_hnT; rw [if_neg hb]
    rw [eT, if_neg (by decide)] at hQ
    simp (disch := omega) only [do_X13_hens, rX13_hens_0, rX13_hens_1, rX13_hens_2, rX13_hens_5, rX13_hens_6, rX13_hens_9, rX13_hens_12, rX13_hens_13, rX13_hens_14, rX13_hens_17, rX13_hens_18, rX13_hens_19, rX13_hens_20, rX13_hens_23, rX13_hens_26, rX13_hens_29, rX13_hens_30, rX13_hens_31, rX13_hens_34, rX13_hens_35, rX13_hens_36, gS_355, g0, g, e0, cr, ne_eq, not_false_eq_true, not_true_eq_false, true_and, and_true, and_self, true_imp_iff, false_imp_iff, imp_self, Bool.not_false, Bool.not_true, reduceCtorEq, ab_isJ, ab_psh, ab_cats, Bool.false_eq_true, if_true, if_false, ab_shf, ab_shw, Int.le_refl, Classical.not_not, Int.zero_add, forall_const, ↓ab_itT, ↓ab_itF, ab_anT]
    exact hQ _ (ac_end1 ac_mq0).1 (ac_end1 ac_mq0).2.1 (ac_end1 ac_mq0).2.2
theorem mq_ten_2 {t won lost : Int} (ht : 0 ≤ t ∧ t ≤ 10) (hl : lost ≤ 12) : ∀ (d : Nat) (i s : Int), 0 ≤ i → i + d = lost → (ab_Run X 262 28 (0, 0, 0) [ab_R 355, ab_I t, ab_I won, ab_I lost, ab_J s, ab_R 0, ab_I i] [] σ Q ↔ Q (some (ab_J (ab_it (fun _ s => ab_w64 (s * (10 - t))) d i s))) σ) := by
  intro d
  induction d with
  | zero =>
    intro i s hi hd
    rw [rX13_byTenths_28, ab_it]
    simp (disch := omega) only [rX13_byTenths_30, rX13_byTenths_31, rX13_byTenths_50, rX13_byTenths_52, ne_eq, not_false_eq_true, not_true_eq_false, true_and, and_true, and_self, true_imp_iff, false_imp_iff, imp_self, Bool.not_false, Bool.not_true, reduceCtorEq, ab_isJ, ab_psh, ab_cats, Bool.false_eq_true, if_true, if_false, ab_shf, ab_shw, Int.le_refl, Classical.not_not, Int.zero_add, forall_const, ↓ab_itT, ↓ab_itF, ab_anT, ab_w32_id, ab_rdf_ne, ab_rdw_ne, ab_rdw_eq, ab_rdf_in, ab_td2, ab_tm2]
  | succ d ih =>
    intro i s hi hd
    rw [rX13_byTenths_28, ab_it, ← ih (i + 1) _ (by omega) (by omega)]
    simp (disch := omega) only [rX13_byTenths_30, rX13_byTenths_31, rX13_byTenths_34, rX13_byTenths_36, rX13_byTenths_38, rX13_byTenths_39, rX13_byTenths_40, rX13_byTenths_41, rX13_byTenths_42, rX13_byTenths_44, rX13_byTenths_47, ne_eq, not_false_eq_true, not_true_eq_false, true_and, and_true, and_self, true_imp_iff, false_imp_iff, imp_self, Bool.not_false, Bool.not_true, reduceCtorEq, ab_isJ, ab_psh, ab_cats, Bool.false_eq_true, if_true, if_false, ab_shf, ab_shw, Int.le_refl, Classical.not_not, Int.zero_add, forall_const, ↓ab_itT, ↓ab_itF, ab_anT, ab_w32_id, ab_rdf_ne, ab_rdw_ne, ab_rdw_eq, ab_rdf_in, ab_td2, ab_tm2]
theorem mq_ten_1 {t won lost : Int} (hw : won ≤ 12) : ∀ (d : Nat) (i s : Int), 0 ≤ i → i + d = won → (ab_Run X 262 6 (0, 0, 0) [ab_R 355, ab_I t, ab_I won, ab_I lost, ab_J s, ab_R 0, ab_I i] [] σ Q ↔ ab_Run X 262 28 (0, 0, 0) [ab_R 355, ab_I t, ab_I won, ab_I lost, ab_J (ab_it (fun _ s => ab_w64 (s * t)) d i s), ab_R 0, ab_I 0] [] σ Q) := by
  intro d
  induction d with
  | zero =>
    intro i s hi hd
    rw [rX13_byTenths_6, ab_it]
    simp (disch := omega) only [rX13_byTenths_8, rX13_byTenths_9, rX13_byTenths_25, rX13_byTenths_26, ne_eq, not_false_eq_true, not_true_eq_false, true_and, and_true, and_self, true_imp_iff, false_imp_iff, imp_self, Bool.not_false, Bool.not_true, reduceCtorEq, ab_isJ, ab_psh, ab_cats, Bool.false_eq_true, if_true, if_false, ab_shf, ab_shw, Int.le_refl, Classical.not_not, Int.zero_add, forall_const, ↓ab_itT, ↓ab_itF, ab_anT, ab_w32_id, ab_rdf_ne, ab_rdw_ne, ab_rdw_eq, ab_rdf_in, ab_td2, ab_tm2]
  | succ d ih =>
    intro i s hi hd
    rw [rX13_byTenths_6, ab_it, ← ih (i + 1) _ (by omega) (by omega)]
    simp (disch := omega) only [rX13_byTenths_8, rX13_byTenths_9, rX13_byTenths_12, rX13_byTenths_14, rX13_byTenths_15, rX13_byTenths_16, rX13_byTenths_17, rX13_byTenths_19, rX13_byTenths_22, ne_eq, not_false_eq_true, not_true_eq_false, true_and, and_true, and_self, true_imp_iff, false_imp_iff, imp_self, Bool.not_false, Bool.not_true, reduceCtorEq, ab_isJ, ab_psh, ab_cats, Bool.false_eq_true, if_true, if_false, ab_shf, ab_shw, Int.le_refl, Classical.not_not, Int.zero_add, forall_const, ↓ab_itT, ↓ab_itF, ab_anT, ab_w32_id, ab_rdf_ne, ab_rdw_ne, ab_rdw_eq, ab_rdf_in, ab_td2, ab_tm2]
theorem mq_ten {t won lost : Int} (ht : 0 ≤ t ∧ t ≤ 10) (hw : 0 ≤ won ∧ won ≤ 12) (hl : 0 ≤ lost ∧ lost ≤ 12) : ab_Do X 262 [ab_R 355, ab_I t, ab_I won, ab_I lost] σ Q ↔ Q (some (ab_J (ac_lk t won lost))) σ := by
  unfold ac_lk
  rw [← mq_ten_2 (X := X) (Q := Q) (won := won) ht hl.2 lost.toNat 0 _ (by omega) (by omega), ← mq_ten_1 (X := X) (Q := Q) (lost := lost) hw.2 won.toNat 0 1 (by omega) (by omega)]
  simp (disch := omega) only [do_X13_byTenths, rX13_byTenths_0, rX13_byTenths_1, rX13_byTenths_3, rX13_byTenths_4, ne_eq, not_false_eq_true, not_true_eq_false, true_and, and_true, and_self, true_imp_iff, false_imp_iff, imp_self, Bool.not_false, Bool.not_true, reduceCtorEq, ab_isJ, ab_psh, ab_cats, Bool.false_eq_true, if_true, if_false, ab_shf, ab_shw, Int.le_refl, Classical.not_not, Int.zero_add, forall_const, ↓ab_itT, ↓ab_itF, ab_anT, ab_w32_id, ab_rdf_ne, ab_rdw_ne, ab_rdw_eq, ab_rdf_in, ab_td2, ab_tm2]
theorem mq_thumbs (h : ac_MN σ κ) (hW : ac_KW κ) (hlo : lo = 0 ∨ lo = 1) (hQ : ∀ τ, ab_Same ac_PM σ τ → ab_rd τ 355 1 = ac_tbT κ p → ab_rd τ 355 2 = -1 → Q (some (ab_J (if ac_tbT κ p = 0 then ac_tbA κ p lo else -1))) τ) : ab_Do X 263 [ab_R 355, ab_I p, ab_I lo] σ Q := by
  have h' := h.same ac_mq0
  have g0 := h.1
  have g := h'.1
  have c1 := fun b Q' => mq_isBone (X := X) (Q := Q') (b := b) h'
  have c2 := fun p q Q' => mq_isPair (X := X) (Q := Q') (p := p) (q := q) h'
  have c1p := fun b Q' => mq_isPerson (X := X) (Q := Q') (b := b) h'
  have cl := fun b arm k Q' => mq_isPlace (X := X) (Q := Q') (b := b) (arm := arm) (k := k) h'
  have cin := fun x lo hi Q' => mq_in (X := X) (σ := ab_wr σ 355 0 0) (Q := Q') (x := x) (lo := lo) (hi := hi)
  have cr := fun v Q' => sp_refused (X := X) (Q := Q') (v := v) g
  have c0 := fun b hp hq mv Q' => mq_rp0 (X := X) (σ := ab_wr σ 355 0 0) (Q := Q') (b := b) (hp := hp) (hq := hq) (mv := mv)
  by_cases hp : ac_isP κ p
  · obtain ⟨M, hm⟩ := h.mp hp
    have hm' := hm.same (τ := ab_wr σ 355 0 0) ac_mq0
    have h3 : ab_rd (ab_wr σ 355 0 0) 355 3 = M := hm'.2.1
    have zM := hm.2.2.1.1
    have hG := hm'.2.2.1
    have hM := hm'.2.2.2.1
    have n5 := hm.2.2.2.2.2.1.1.2
    have n6 := hm.2.2.2.2.2.1.2.1.2
    have c6 := fun x Q' => sp_good (X := X) (Q := Q') (v := x) g
    have hk := hm.2.2.2.2
    have e27 := kM_27 (i := p) hM (by omega) (by omega)
    have e28 := kM_28 (i := p) hM (by omega) (by omega)
    have e29 := kM_29 (i := p) hM (by omega) (by omega)
    have q27 := mP_27 hG
    have r27 := mS_27 hG
    have q28 := mP_28 hG
    have r28 := mS_28 hG
    have q29 := mP_29 hG
    have r29 := mS_29 hG
    have sM := hG.2.1
    by_cases h27 : κ 27 p = -1
    · have eT : ac_tbT κ p = 6 := by unfold ac_tbT; rw [if_pos hp, if_pos h27]
      rw [eT, if_neg (by decide)] at hQ
      simp (disch := omega) only [do_X13_thumbs, rX13_thumbs_0, rX13_thumbs_1, rX13_thumbs_2, rX13_thumbs_5, rX13_thumbs_6, rX13_thumbs_7, rX13_thumbs_10, rX13_thumbs_13, rX13_thumbs_14, rX13_thumbs_15, rX13_thumbs_18, rX13_thumbs_19, rX13_thumbs_20, rX13_thumbs_21, rX13_thumbs_24, rX13_thumbs_27, rX13_thumbs_28, rX13_thumbs_29, rX13_thumbs_30, rX13_thumbs_33, rX13_thumbs_34, rX13_thumbs_36, rX13_thumbs_39, rX13_thumbs_40, gS_355, g0, g, c1p, if_pos hp, h3, sM, q27, r27, e27, cr, ne_eq, not_false_eq_true, not_true_eq_false, true_and, and_true, and_self, true_imp_iff, false_imp_iff, imp_self, Bool.not_false, Bool.not_true, reduceCtorEq, ab_isJ, ab_psh, ab_cats, Bool.false_eq_true, if_true, if_false, ab_shf, ab_shw, Int.le_refl, Classical.not_not, Int.zero_add, forall_const, ↓ab_itT, ↓ab_itF, ab_anT]
      exact hQ _ (ac_end1 ac_mq0).1 (ac_end1 ac_mq0).2.1 (ac_end1 ac_mq0).2.2
    · have eT : ac_tbT κ p = 0 := by unfold ac_tbT; rw [if_pos hp, if_neg h27]
      rw [eT, if_pos rfl] at hQ
      have hq' := hQ _ (ac_end1 ac_mq0).1 (ac_end1 ac_mq0).2.1 (ac_end1 ac_mq0).2.2
      have wb := ac_won_b (p := p) hk.2.1
      have bp := (hk.2.2.1.2.1 p hp.1 hp.2).2.2.2.2.2.2.resolve_left h27
      have wl := ac_won_lost (p := p) hk.2.1 hW
      have k1 := ac_lk_b (t := κ 28 p) (w := ac_won κ p) (l := ac_lost κ p) bp.2.1 wb.1.1 wb.2.1 wl
      have k2 := ac_lk_b (t := κ 29 p) (w := ac_won κ p) (l := ac_lost κ p) bp.2.2 wb.1.1 wb.2.1 wl
      have tb := ac_tb_b bp.1 k1 k2
      have c7 := fun p Q' => mq_wonBy (X := X) (Q := Q') (p := p) hm'
      have c8 := fun p Q' => mq_pullsOf (X := X) (Q := Q') (p := p) hm'
      have c3 := fun Q' => mq_ten (X := X) (σ := ab_wr σ 355 0 0) (Q := Q') (t := κ 28 p) (won := ac_won κ p) (lost := ac_lost κ p) (by omega) wb.1 wb.2
      have c4 := fun Q' => mq_ten (X := X) (σ := ab_wr σ 355 0 0) (Q := Q') (t := κ 29 p) (won := ac_won κ p) (lost := ac_lost κ p) (by omega) wb.1 wb.2
      have c10 := fun Q' => sp_fraction (X := X) (Q := Q') (up := κ 27 p * ac_lk (κ 28 p) (ac_won κ p) (ac_lost κ p)) (low := κ 27 p * ac_lk (κ 28 p) (ac_won κ p) (ac_lost κ p) + (100 - κ 27 p) * ac_lk (κ 29 p) (ac_won κ p) (ac_lost κ p)) (lo := lo) g (by omega) (by omega) hlo
      have ed : ac_won κ p + ac_lost κ p - ac_won κ p = ac_lost κ p := by omega
      simp (disch := omega) only [do_X13_thumbs, rX13_thumbs_0, rX13_thumbs_1, rX13_thumbs_2, rX13_thumbs_5, rX13_thumbs_6, rX13_thumbs_7, rX13_thumbs_10, rX13_thumbs_13, rX13_thumbs_14, rX13_thumbs_15, rX13_thumbs_18, rX13_thumbs_19, rX13_thumbs_20, rX13_thumbs_21, rX13_thumbs_24, rX13_thumbs_27, rX13_thumbs_28, rX13_thumbs_29, rX13_thumbs_30, rX13_thumbs_33, rX13_thumbs_34, rX13_thumbs_36, rX13_thumbs_39, rX13_thumbs_40, rX13_thumbs_41, rX13_thumbs_42, rX13_thumbs_43, rX13_thumbs_46, rX13_thumbs_47, rX13_thumbs_48, rX13_thumbs_49, rX13_thumbs_52, rX13_thumbs_53, rX13_thumbs_54, rX13_thumbs_56, rX13_thumbs_57, rX13_thumbs_60, rX13_thumbs_63, rX13_thumbs_64, rX13_thumbs_65, rX13_thumbs_66, rX13_thumbs_67, rX13_thumbs_68, rX13_thumbs_71, rX13_thumbs_74, rX13_thumbs_75, rX13_thumbs_76, rX13_thumbs_77, rX13_thumbs_79, rX13_thumbs_82, rX13_thumbs_83, rX13_thumbs_85, rX13_thumbs_87, rX13_thumbs_88, rX13_thumbs_91, rX13_thumbs_94, rX13_thumbs_95, rX13_thumbs_96, rX13_thumbs_97, rX13_thumbs_98, rX13_thumbs_99, rX13_thumbs_100, rX13_thumbs_103, rX13_thumbs_106, rX13_thumbs_107, rX13_thumbs_108, rX13_thumbs_109, rX13_thumbs_111, rX13_thumbs_114, rX13_thumbs_115, rX13_thumbs_117, rX13_thumbs_118, rX13_thumbs_120, rX13_thumbs_122, rX13_thumbs_124, rX13_thumbs_125, rX13_thumbs_126, rX13_thumbs_129, gS_355, g0, g, c1p, if_pos hp, h3, sM, q27, r27, e27, q28, r28, e28, q29, r29, e29, c7, c8, ab_w32_id, ed, c3, c4, c10, ne_eq, not_false_eq_true, not_true_eq_false, true_and, and_true, and_self, true_imp_iff, false_imp_iff, imp_self, Bool.not_false, Bool.not_true, reduceCtorEq, ab_isJ, ab_psh, ab_cats, Bool.false_eq_true, if_true, if_false, ab_shf, ab_shw, Int.le_refl, Classical.not_not, Int.zero_add, forall_const, ↓ab_itT, ↓ab_itF, ab_anT, ab_w64_id]
      all_goals exact hq'
  · have eT : ac_tbT κ p = 1 := by (unfold ac_tbT; rw [if_neg hp])
    rw [eT, if_neg (by decide)] at hQ
    simp (disch := omega) only [do_X13_thumbs, rX13_thumbs_0, rX13_thumbs_1, rX13_thumbs_2, rX13_thumbs_5, rX13_thumbs_6, rX13_thumbs_7, rX13_thumbs_10, rX13_thumbs_13, rX13_thumbs_14, rX13_thumbs_15, rX13_thumbs_18, rX13_thumbs_19, rX13_thumbs_20, rX13_thumbs_21, rX13_thumbs_24, rX13_thumbs_27, rX13_thumbs_28, rX13_thumbs_29, rX13_thumbs_30, rX13_thumbs_33, rX13_thumbs_34, rX13_thumbs_36, rX13_thumbs_39, rX13_thumbs_40, rX13_thumbs_41, rX13_thumbs_42, rX13_thumbs_43, rX13_thumbs_46, rX13_thumbs_47, rX13_thumbs_48, rX13_thumbs_49, rX13_thumbs_52, rX13_thumbs_53, rX13_thumbs_54, rX13_thumbs_56, rX13_thumbs_57, rX13_thumbs_60, rX13_thumbs_63, rX13_thumbs_64, rX13_thumbs_65, rX13_thumbs_66, rX13_thumbs_67, rX13_thumbs_68, rX13_thumbs_71, rX13_thumbs_74, rX13_thumbs_75, rX13_thumbs_76, rX13_thumbs_77, rX13_thumbs_79, rX13_thumbs_82, rX13_thumbs_83, rX13_thumbs_85, rX13_thumbs_87, rX13_thumbs_88, rX13_thumbs_91, rX13_thumbs_94, rX13_thumbs_95, rX13_thumbs_96, rX13_thumbs_97, rX13_thumbs_98, rX13_thumbs_99, rX13_thumbs_100, rX13_thumbs_103, rX13_thumbs_106, rX13_thumbs_107, rX13_thumbs_108, rX13_thumbs_109, rX13_thumbs_111, rX13_thumbs_114, rX13_thumbs_115, rX13_thumbs_117, rX13_thumbs_118, rX13_thumbs_120, rX13_thumbs_122, rX13_thumbs_124, rX13_thumbs_125, rX13_thumbs_126, rX13_thumbs_129, gS_355, g0, c1, c2, cl, cin, c0, cr, c1p, if_neg hp, ne_eq, not_false_eq_true, not_true_eq_false, true_and, and_true, and_self, true_imp_iff, false_imp_iff, imp_self, Bool.not_false, Bool.not_true, reduceCtorEq, ab_isJ, ab_psh, ab_cats, Bool.false_eq_true, if_true, if_false, ab_shf, ab_shw, Int.le_refl, Classical.not_not, Int.zero_add, forall_const, ↓ab_itT, ↓ab_itF, ab_anT, ab_w32_id, ab_rdf_ne, ab_rdw_ne, ab_rdw_eq, ab_rdf_in, ab_td2, ab_tm2, ab_ifF]
    exact hQ _ (ac_end1 ac_mq0).1 (ac_end1 ac_mq0).2.1 (ac_end1 ac_mq0).2.2
end
