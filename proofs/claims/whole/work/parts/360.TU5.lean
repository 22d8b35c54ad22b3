/-! TURNS: the reference's questions -/
section
variable {X : ab_X} {σ τ υ : ab_S} {Q : Option ab_V → ab_S → Prop} {M n w k p q j i x lim np : Int} {P c : Int → Int} {res : Option (Int → Int)} {κ : ac_K}
theorem ac_nn (hn : 2 ≤ n ∧ n ≤ 6) : 0 ≤ n * (n - 1) ∧ n * (n - 1) ≤ 30 := by
  have : n = 2 ∨ n = 3 ∨ n = 4 ∨ n = 5 ∨ n = 6 := by omega
  rcases this with rfl | rfl | rfl | rfl | rfl <;> decide
theorem mq_lt_1 (hg : ab_Geo σ) : ∀ (d : Nat) (p : Int), 0 ≤ p → p + d = 6 → (ab_Run X 253 22 (2, 0, 0) [ab_R 355, ab_I w, ab_I np, ab_I p] [] (ab_fl σ 366 p (fun _ => 0)) Q ↔ ab_Run X 253 43 (2, 0, 0) [ab_R 355, ab_I w, ab_I np, ab_I 0] [] (ab_fl σ 366 6 (fun _ => 0)) Q) := by
  intro d
  induction d with
  | zero =>
    intro p hp hd
    obtain rfl : p = 6 := by omega
    rw [rX13_laysTurns_22]
    simp (disch := omega) only [rX13_laysTurns_23, rX13_laysTurns_25, rX13_laysTurns_41, rX13_laysTurns_42, ne_eq, not_false_eq_true, not_true_eq_false, true_and, and_true, and_self, true_imp_iff, false_imp_iff, imp_self, Bool.not_false, Bool.not_true, reduceCtorEq, ab_isJ, ab_psh, ab_cats, Bool.false_eq_true, if_true, if_false, ab_shf, ab_shw, Int.le_refl, Classical.not_not, Int.zero_add, forall_const, ↓ab_itT, ↓ab_itF, ab_anT, ab_w32_id, ab_rdf_ne, ab_rdw_ne, ab_rdw_eq, ab_rdf_in, ab_td2, ab_tm2]
  | succ d ih =>
    intro p hp hd
    have key := ih (p + 1) (by omega) (by omega)
    rw [← ab_fl_succ hp] at key
    rw [rX13_laysTurns_22, ← key]
    simp (disch := omega) only [rX13_laysTurns_23, rX13_laysTurns_25, rX13_laysTurns_28, rX13_laysTurns_29, rX13_laysTurns_32, rX13_laysTurns_33, rX13_laysTurns_34, rX13_laysTurns_35, rX13_laysTurns_38, gS_355, gP_355_33, gS_366, hg, ne_eq, not_false_eq_true, not_true_eq_false, true_and, and_true, and_self, true_imp_iff, false_imp_iff, imp_self, Bool.not_false, Bool.not_true, reduceCtorEq, ab_isJ, ab_psh, ab_cats, Bool.false_eq_true, if_true, if_false, ab_shf, ab_shw, Int.le_refl, Classical.not_not, Int.zero_add, forall_const, ↓ab_itT, ↓ab_itF, ab_anT, ab_w32_id, ab_rdf_ne, ab_rdw_ne, ab_rdw_eq, ab_rdf_in, ab_td2, ab_tm2]
theorem mq_lt_2 (hg : ab_Geo σ) : ∀ (d : Nat) (p : Int), 0 ≤ p → p + d = 9 → (ab_Run X 253 43 (2, 0, 0) [ab_R 355, ab_I w, ab_I np, ab_I p] [] (ab_fl σ 365 p (fun _ => -1)) Q ↔ ab_Run X 253 64 (2, 0, 0) [ab_R 355, ab_I w, ab_I np, ab_I 0] [] (ab_fl σ 365 9 (fun _ => -1)) Q) := by
  intro d
  induction d with
  | zero =>
    intro p hp hd
    obtain rfl : p = 9 := by omega
    rw [rX13_laysTurns_43]
    simp (disch := omega) only [rX13_laysTurns_44, rX13_laysTurns_46, rX13_laysTurns_62, rX13_laysTurns_63, ne_eq, not_false_eq_true, not_true_eq_false, true_and, and_true, and_self, true_imp_iff, false_imp_iff, imp_self, Bool.not_false, Bool.not_true, reduceCtorEq, ab_isJ, ab_psh, ab_cats, Bool.false_eq_true, if_true, if_false, ab_shf, ab_shw, Int.le_refl, Classical.not_not, Int.zero_add, forall_const, ↓ab_itT, ↓ab_itF, ab_anT, ab_w32_id, ab_rdf_ne, ab_rdw_ne, ab_rdw_eq, ab_rdf_in, ab_td2, ab_tm2]
  | succ d ih =>
    intro p hp hd
    have key := ih (p + 1) (by omega) (by omega)
    rw [← ab_fl_succ hp] at key
    rw [rX13_laysTurns_43, ← key]
    simp (disch := omega) only [rX13_laysTurns_44, rX13_laysTurns_46, rX13_laysTurns_49, rX13_laysTurns_50, rX13_laysTurns_53, rX13_laysTurns_54, rX13_laysTurns_55, rX13_laysTurns_56, rX13_laysTurns_59, gS_355, gP_355_32, gS_365, hg, ne_eq, not_false_eq_true, not_true_eq_false, true_and, and_true, and_self, true_imp_iff, false_imp_iff, imp_self, Bool.not_false, Bool.not_true, reduceCtorEq, ab_isJ, ab_psh, ab_cats, Bool.false_eq_true, if_true, if_false, ab_shf, ab_shw, Int.le_refl, Classical.not_not, Int.zero_add, forall_const, ↓ab_itT, ↓ab_itF, ab_anT, ab_w32_id, ab_rdf_ne, ab_rdw_ne, ab_rdw_eq, ab_rdf_in, ab_td2, ab_tm2]
theorem mq_laysTurns (h : ac_MI σ M κ) (hw : 1 ≤ w ∧ w ≤ 9) (hQ : ∀ τ, ab_Same ac_PN σ τ → (∀ R, ac_tu (κ 6 0) w = some R → ∀ i, 0 ≤ i → i < w → ab_rd τ 365 i = R i ∧ 0 ≤ R i ∧ R i < ac_np (κ 6 0)) → Q (some (ab_I (ac_tuA (κ 6 0) w))) τ) : ab_Do X 253 [ab_R 355, ab_I w] σ Q := by
  have n6 := h.2.2.2.2.2.1.2.1
  have n2 := h.2.2.2.2.2.2.2.2
  have hn : 2 ≤ κ 6 0 ∧ κ 6 0 ≤ 6 := ⟨n2, by omega⟩
  have nn := ac_nn hn
  have g := h.1
  have h3 := h.2.1
  have sM := h.2.2.1.2.1
  have zM := h.2.2.1.1
  have e6 := kM_6 h.2.2.2.1
  have s1 : ab_Same ac_PN σ (ab_fl σ 366 6 (fun _ => 0)) := ab_Same.refl.fl (fun y _ _ => Or.inr rfl)
  have s2 : ab_Same ac_PN σ (ab_fl (ab_fl σ 366 6 (fun _ => 0)) 365 9 (fun _ => -1)) := s1.fl (fun y _ _ => Or.inl rfl)
  have g1 := (h.sameN s1).1
  have L1 := mq_lt_1 (X := X) (Q := Q) (w := w) (np := ac_np (κ 6 0)) g 6 0 (by omega) (by omega)
  have L2 := mq_lt_2 (X := X) (Q := Q) (w := w) (np := ac_np (κ 6 0)) g1 9 0 (by omega) (by omega)
  rw [ab_fl0 (Int.le_refl 0)] at L1 L2
  have hT : ac_MT (ab_fl (ab_fl σ 366 6 (fun _ => 0)) 365 9 (fun _ => -1)) (κ 6 0) 0 (fun _ => 0) (fun _ => 0) := ⟨fun x x1 x2 => ⟨by rw [ab_rdf_ne (by omega), ab_rdf_in (by omega)], Int.le_refl 0, Int.le_refl 0⟩, fun i i1 i2 => by omega, fun i i1 i2 => by rw [ab_rdf_in (by omega)]⟩
  have key : ab_Run X 253 64 (2, 0, 0) [ab_R 355, ab_I w, ab_I (ac_np (κ 6 0)), ab_I 0] [] (ab_fl (ab_fl σ 366 6 (fun _ => 0)) 365 9 (fun _ => -1)) Q := by
    refine mq_lt_s hw w.toNat 0 _ _ _ (h.sameN s2) (by omega) (by omega) hT (fun x _ _ => Int.ediv_nonneg (by omega) (by omega)) ?_
    have eA : ac_tuA (κ 6 0) w = match ac_tu (κ 6 0) w with
      | some _ => 1
      | none => 0 := rfl
    unfold ac_uQ
    cases hR : ac_ttS (κ 6 0) w w.toNat 0 (fun _ => 0) (fun _ => 0) with
    | some R =>
      have eu : ac_tu (κ 6 0) w = some R := hR
      rw [eu] at hQ eA
      rw [eA] at hQ
      intro τ u1 u2
      exact hQ τ (s2.trans u1) (fun R' e => by cases e; exact u2)
    | none =>
      have eu : ac_tu (κ 6 0) w = none := hR
      rw [eu] at hQ eA
      rw [eA] at hQ
      intro τ u1 u2
      have k := hQ τ (s2.trans u1) (fun R' e => by cases e)
      clear hQ L1 L2
      rw [rX13_laysTurns_64]
      simp (disch := omega) only [rX13_laysTurns_65, rX13_laysTurns_244, rX13_laysTurns_245, ne_eq, not_false_eq_true, not_true_eq_false, true_and, and_true, and_self, true_imp_iff, false_imp_iff, imp_self, Bool.not_false, Bool.not_true, reduceCtorEq, ab_isJ, ab_psh, ab_cats, Bool.false_eq_true, if_true, if_false, ab_shf, ab_shw, Int.le_refl, Classical.not_not, Int.zero_add, forall_const, ↓ab_itT, ↓ab_itF, ab_anT, ab_w32_id, ab_rdf_ne, ab_rdw_ne, ab_rdw_eq, ab_rdf_in, ab_td2, ab_tm2, or_true, true_or]
      all_goals exact k
  have k2 := L1.mpr (L2.mpr key)
  have e2 : κ 6 0 * (κ 6 0 - 1) / 2 = ac_np (κ 6 0) := rfl
  have nb := (ac_np_b hn).1
  clear L1 L2 hT key hQ s1 s2 h
  simp (disch := omega) only [do_X13_laysTurns, rX13_laysTurns_0, rX13_laysTurns_1, rX13_laysTurns_4, rX13_laysTurns_7, rX13_laysTurns_8, rX13_laysTurns_11, rX13_laysTurns_14, rX13_laysTurns_15, rX13_laysTurns_16, rX13_laysTurns_17, rX13_laysTurns_18, rX13_laysTurns_19, rX13_laysTurns_20, rX13_laysTurns_21, gS_355, g, h3, sM, e6, ab_td2, ab_w32_id, e2, ne_eq, not_false_eq_true, not_true_eq_false, true_and, and_true, and_self, true_imp_iff, false_imp_iff, imp_self, Bool.not_false, Bool.not_true, reduceCtorEq, ab_isJ, ab_psh, ab_cats, Bool.false_eq_true, if_true, if_false, ab_shf, ab_shw, Int.le_refl, Classical.not_not, Int.zero_add, forall_const, ↓ab_itT, ↓ab_itF, ab_anT, ab_w32_id, ab_rdf_ne, ab_rdw_ne, ab_rdw_eq, ab_rdf_in, ab_td2, ab_tm2]
  all_goals exact k2
theorem mq_refusesTurns (h : ac_MN σ κ) : ab_Do X 254 [ab_R 355, ab_I w] σ Q ↔ Q (some (ab_I (ac_tuT κ w))) σ := by
  have cin := fun x lo hi Q' => mq_in (X := X) (σ := σ) (Q := Q') (x := x) (lo := lo) (hi := hi)
  have g := h.1
  unfold ac_tuT
  by_cases hb : 0 < κ 5 0
  · rw [if_pos hb]
    obtain ⟨M, hm⟩ := h.mi hb
    have h3 := hm.2.1
    have zM := hm.2.2.1.1
    by_cases hw : 1 ≤ w ∧ w ≤ 9
    · rw [if_pos hw]
      simp (disch := omega) only [do_X13_refusesTurns, rX13_refusesTurns_0, rX13_refusesTurns_1, rX13_refusesTurns_4, rX13_refusesTurns_7, rX13_refusesTurns_8, rX13_refusesTurns_11, rX13_refusesTurns_12, rX13_refusesTurns_13, rX13_refusesTurns_15, rX13_refusesTurns_18, rX13_refusesTurns_21, rX13_refusesTurns_22, rX13_refusesTurns_25, rX13_refusesTurns_26, gS_355, g, h3, cin, if_pos hw, ne_eq, not_false_eq_true, not_true_eq_false, true_and, and_true, and_self, true_imp_iff, false_imp_iff, imp_self, Bool.not_false, Bool.not_true, reduceCtorEq, ab_isJ, ab_psh, ab_cats, Bool.false_eq_true, if_true, if_false, ab_shf, ab_shw, Int.le_refl, Classical.not_not, Int.zero_add, forall_const, ↓ab_itT, ↓ab_itF, ab_anT, ab_w32_id, ab_rdf_ne, ab_rdw_ne, ab_rdw_eq, ab_rdf_in, ab_td2, ab_tm2, or_true, true_or]
    · rw [if_neg hw]
      simp (disch := omega) only [do_X13_refusesTurns, rX13_refusesTurns_0, rX13_refusesTurns_1, rX13_refusesTurns_4, rX13_refusesTurns_7, rX13_refusesTurns_8, rX13_refusesTurns_11, rX13_refusesTurns_12, rX13_refusesTurns_13, rX13_refusesTurns_15, rX13_refusesTurns_18, rX13_refusesTurns_21, rX13_refusesTurns_22, rX13_refusesTurns_25, rX13_refusesTurns_26, gS_355, g, h3, cin, if_neg hw, ne_eq, not_false_eq_true, not_true_eq_false, true_and, and_true, and_self, true_imp_iff, false_imp_iff, imp_self, Bool.not_false, Bool.not_true, reduceCtorEq, ab_isJ, ab_psh, ab_cats, Bool.false_eq_true, if_true, if_false, ab_shf, ab_shw, Int.le_refl, Classical.not_not, Int.zero_add, forall_const, ↓ab_itT, ↓ab_itF, ab_anT, ab_w32_id, ab_rdf_ne, ab_rdw_ne, ab_rdw_eq, ab_rdf_in, ab_td2, ab_tm2, or_true, true_or]
  · rw [if_neg hb]
    have e0 := h.null hb
    simp (disch := omega) only [do_X13_refusesTurns, rX13_refusesTurns_0, rX13_refusesTurns_1, rX13_refusesTurns_4, rX13_refusesTurns_7, rX13_refusesTurns_8, rX13_refusesTurns_11, rX13_refusesTurns_12, rX13_refusesTurns_13, rX13_refusesTurns_15, rX13_refusesTurns_18, rX13_refusesTurns_21, rX13_refusesTurns_22, rX13_refusesTurns_25, rX13_refusesTurns_26, gS_355, g, e0, ne_eq, not_false_eq_true, not_true_eq_false, true_and, and_true, and_self, true_imp_iff, false_imp_iff, imp_self, Bool.not_false, Bool.not_true, reduceCtorEq, ab_isJ, ab_psh, ab_cats, Bool.false_eq_true, if_true, if_false, ab_shf, ab_shw, Int.le_refl, Classical.not_not, Int.zero_add, forall_const, ↓ab_itT, ↓ab_itF, ab_anT, ab_w32_id, ab_rdf_ne, ab_rdw_ne, ab_rdw_eq, ab_rdf_in, ab_td2, ab_tm2, or_true, true_or]
theorem ac_tuT12 (hT : ¬ ac_tuT κ w = 0) : ac_tuT κ w = 1 ∨ ac_tuT κ w = 2 := by
  unfold ac_tuT at hT ⊢
  split
  · split
    · rename_i z1 z2; rw [if_pos z1, if_pos z2] at hT; omega
    · right; rfl
  · left; rfl
theorem mq_turnsOf (h : ac_MN σ κ) (hQ : ∀ τ, ab_Same ac_PM σ τ → ab_rd τ 355 1 = ac_tuT κ w → ab_rd τ 355 2 = -1 → Q (some (ab_I (if ac_tuT κ w = 0 then ac_tuA (κ 6 0) w else -1))) τ) : ab_Do X 255 [ab_R 355, ab_I w] σ Q := by
  have h' := h.same (τ := ab_wr σ 355 0 0) ac_mq0
  have g0 := h.1
  have g := h'.1
  have cr := fun v Q' => sp_refused (X := X) (Q := Q') (v := v) g
  have c := fun Q' => mq_refusesTurns (X := X) (Q := Q') (w := w) h'
  by_cases hT : ac_tuT κ w = 0
  · obtain ⟨hp, hw⟩ := ac_tuT0 hT
    obtain ⟨M, hm⟩ := h'.mi hp
    rw [hT] at c
    rw [hT, if_pos rfl] at hQ
    have key : ab_Do X 253 [ab_R 355, ab_I w] (ab_wr σ 355 0 0) (fun r σ' => ab_Run X 255 29 (3, 0, 0) [ab_R 355, ab_I w, ab_I 0] (ab_psh r [ab_R 355]) σ' Q) := by
      refine mq_laysTurns hm hw (fun τ u1 u2 => ?_)
      have s1 := ac_mq0.trans (u1.mono (fun _ _ => ac_PN_PM))
      have k := hQ _ (ac_end1 s1).1 (ac_end1 s1).2.1 (ac_end1 s1).2.2
      have gt := (h.same s1).1
      have c6 := fun v Q' => sp_good (X := X) (Q := Q') (v := v) gt
      clear hQ u2
      rcases ac_tuA01 (n := κ 6 0) (w := w) with z | z
      · rw [z] at k ⊢
        simp (disch := omega) only [rX13_turnsOf_29, rX13_turnsOf_32, rX13_turnsOf_33, rX13_turnsOf_36, rX13_turnsOf_37, rX13_turnsOf_40, gS_355, gt, c6, ne_eq, not_false_eq_true, not_true_eq_false, true_and, and_true, and_self, true_imp_iff, false_imp_iff, imp_self, Bool.not_false, Bool.not_true, reduceCtorEq, ab_isJ, ab_psh, ab_cats, Bool.false_eq_true, if_true, if_false, ab_shf, ab_shw, Int.le_refl, Classical.not_not, Int.zero_add, forall_const, ↓ab_itT, ↓ab_itF, ab_anT, ab_w32_id, ab_rdf_ne, ab_rdw_ne, ab_rdw_eq, ab_rdf_in, ab_td2, ab_tm2, or_true, true_or]
        all_goals exact k
      · rw [z] at k ⊢
        simp (disch := omega) only [rX13_turnsOf_29, rX13_turnsOf_32, rX13_turnsOf_33, rX13_turnsOf_36, rX13_turnsOf_37, rX13_turnsOf_40, gS_355, gt, c6, ne_eq, not_false_eq_true, not_true_eq_false, true_and, and_true, and_self, true_imp_iff, false_imp_iff, imp_self, Bool.not_false, Bool.not_true, reduceCtorEq, ab_isJ, ab_psh, ab_cats, Bool.false_eq_true, if_true, if_false, ab_shf, ab_shw, Int.le_refl, Classical.not_not, Int.zero_add, forall_const, ↓ab_itT, ↓ab_itF, ab_anT, ab_w32_id, ab_rdf_ne, ab_rdw_ne, ab_rdw_eq, ab_rdf_in, ab_td2, ab_tm2, or_true, true_or]
        all_goals exact k
    clear hQ hm h
    simp (disch := omega) only [do_X13_turnsOf, rX13_turnsOf_0, rX13_turnsOf_1, rX13_turnsOf_2, rX13_turnsOf_5, rX13_turnsOf_6, rX13_turnsOf_7, rX13_turnsOf_10, rX13_turnsOf_11, rX13_turnsOf_12, rX13_turnsOf_15, rX13_turnsOf_16, rX13_turnsOf_17, rX13_turnsOf_20, rX13_turnsOf_23, rX13_turnsOf_24, rX13_turnsOf_25, rX13_turnsOf_26, gS_355, g0, g, c, ne_eq, not_false_eq_true, not_true_eq_false, true_and, and_true, and_self, true_imp_iff, false_imp_iff, imp_self, Bool.not_false, Bool.not_true, reduceCtorEq, ab_isJ, ab_psh, ab_cats, Bool.false_eq_true, if_true, if_false, ab_shf, ab_shw, Int.le_refl, Classical.not_not, Int.zero_add, forall_const, ↓ab_itT, ↓ab_itF, ab_anT]
    all_goals exact key
  · rw [if_neg hT] at hQ
    have k := hQ _ (ac_end1 ac_mq0).1 (ac_end1 ac_mq0).2.1 (ac_end1 ac_mq0).2.2
    have hT1 := ac_tuT12 hT
    clear hQ h
    simp (disch := omega) only [do_X13_turnsOf, rX13_turnsOf_0, rX13_turnsOf_1, rX13_turnsOf_2, rX13_turnsOf_5, rX13_turnsOf_6, rX13_turnsOf_7, rX13_turnsOf_10, rX13_turnsOf_11, rX13_turnsOf_12, rX13_turnsOf_15, rX13_turnsOf_16, rX13_turnsOf_17, rX13_turnsOf_20, rX13_turnsOf_23, rX13_turnsOf_24, rX13_turnsOf_25, rX13_turnsOf_26, rX13_turnsOf_29, rX13_turnsOf_32, rX13_turnsOf_33, rX13_turnsOf_36, rX13_turnsOf_37, rX13_turnsOf_40, gS_355, g0, g, c, cr, ne_eq, not_false_eq_true, not_true_eq_false, true_and, and_true, and_self, true_imp_iff, false_imp_iff, imp_self, Bool.not_false, Bool.not_true, reduceCtorEq, ab_isJ, ab_psh, ab_cats, Bool.false_eq_true, if_true, if_false, ab_shf, ab_shw, Int.le_refl, Classical.not_not, Int.zero_add, forall_const, ↓ab_itT, ↓ab_itF, ab_anT]
    all_goals exact k
theorem mq_turnAt (h : ac_MN σ κ) (hQ : ∀ τ, ab_Same ac_PM σ τ → ab_rd τ 355 1 = ac_taT κ w i → ab_rd τ 355 2 = -1 → Q (some (ab_I (if ac_taT κ w i = 0 then ac_taA (κ 6 0) w i else -1))) τ) : ab_Do X 256 [ab_R 355, ab_I w, ab_I i] σ Q := by
  have h' := h.same (τ := ab_wr σ 355 0 0) ac_mq0
  have g0 := h.1
  have g := h'.1
  have cr := fun v Q' => sp_refused (X := X) (Q := Q') (v := v) g
  have c := fun Q' => mq_refusesTurns (X := X) (Q := Q') (w := w) h'
  by_cases hT : ac_tuT κ w = 0
  · obtain ⟨hp, hw⟩ := ac_tuT0 hT
    obtain ⟨M, hm⟩ := h'.mi hp
    rw [hT] at c
    unfold ac_taT at hQ
    rw [if_pos hT] at hQ
    by_cases hi : 0 ≤ i ∧ i < w
    · rw [if_pos hi] at hQ
      have key : ab_Do X 253 [ab_R 355, ab_I w] (ab_wr σ 355 0 0) (fun r σ' => ab_Run X 256 41 (3, 0, 0) [ab_R 355, ab_I w, ab_I i, ab_I 0] (ab_psh r []) σ' Q) := by
        refine mq_laysTurns hm hw (fun τ u1 u2 => ?_)
        have s1 := ac_mq0.trans (u1.mono (fun _ _ => ac_PN_PM))
        have hI := hm.sameN u1
        have gt := hI.1
        have n6 := hI.2.2.2.2.2.1.2.1
        have n2 := hI.2.2.2.2.2.2.2.2
        cases hR : ac_tu (κ 6 0) w with
        | some R =>
          have eA : ac_tuA (κ 6 0) w = 1 := by unfold ac_tuA; rw [hR]
          have eB : ac_taA (κ 6 0) w i = 10 * ac_ls (κ 6 0) (R i) + ac_gr (κ 6 0) (R i) := by unfold ac_taA; rw [hR]
          rw [eA, if_pos rfl, if_pos rfl, eB] at hQ
          rw [eA]
          have k := hQ _ (ac_end1 s1).1 (ac_end1 s1).2.1 (ac_end1 s1).2.2
          obtain ⟨ei, r1, r2⟩ := u2 R hR i hi.1 hi.2
          have lb := ac_lg_b (n := κ 6 0) ⟨n2, by omega⟩ ⟨r1, r2⟩
          have c1 := fun Q' => mq_lesser (X := X) (Q := Q') hI ⟨r1, r2⟩
          have c2 := fun Q' => mq_greater (X := X) (Q := Q') hI ⟨r1, r2⟩
          have c6 := fun v Q' => sp_good (X := X) (Q := Q') (v := v) gt
          clear hQ u2 hm h hI
          simp (disch := omega) only [rX13_turnAt_41, rX13_turnAt_44, rX13_turnAt_45, rX13_turnAt_47, rX13_turnAt_48, rX13_turnAt_49, rX13_turnAt_52, rX13_turnAt_53, rX13_turnAt_54, rX13_turnAt_57, rX13_turnAt_58, rX13_turnAt_59, rX13_turnAt_60, rX13_turnAt_63, rX13_turnAt_64, rX13_turnAt_65, rX13_turnAt_68, rX13_turnAt_69, rX13_turnAt_72, rX13_turnAt_75, rX13_turnAt_76, rX13_turnAt_78, rX13_turnAt_81, gS_355, gP_355_32, gS_365, gt, ei, c1, c2, c6, ab_w32_id, ne_eq, not_false_eq_true, not_true_eq_false, true_and, and_true, and_self, true_imp_iff, false_imp_iff, imp_self, Bool.not_false, Bool.not_true, reduceCtorEq, ab_isJ, ab_psh, ab_cats, Bool.false_eq_true, if_true, if_false, ab_shf, ab_shw, Int.le_refl, Classical.not_not, Int.zero_add, forall_const, ↓ab_itT, ↓ab_itF, ab_anT, ab_w32_id, ab_rdf_ne, ab_rdw_ne, ab_rdw_eq, ab_rdf_in, ab_td2, ab_tm2, or_true, true_or]
          all_goals exact k
        | none =>
          have eA : ac_tuA (κ 6 0) w = 0 := by unfold ac_tuA; rw [hR]
          rw [eA, if_neg (by decide), if_neg (by decide)] at hQ
          rw [eA]
          have k := hQ _ (ac_end1 s1).1 (ac_end1 s1).2.1 (ac_end1 s1).2.2
          have c6 := fun v Q' => sp_refused (X := X) (Q := Q') (v := v) gt
          clear hQ u2 hm h hI
          simp (disch := omega) only [rX13_turnAt_41, rX13_turnAt_44, rX13_turnAt_45, rX13_turnAt_47, rX13_turnAt_48, rX13_turnAt_49, rX13_turnAt_52, rX13_turnAt_53, rX13_turnAt_54, rX13_turnAt_57, rX13_turnAt_58, rX13_turnAt_59, rX13_turnAt_60, rX13_turnAt_63, rX13_turnAt_64, rX13_turnAt_65, rX13_turnAt_68, rX13_turnAt_69, rX13_turnAt_72, rX13_turnAt_75, rX13_turnAt_76, rX13_turnAt_78, rX13_turnAt_81, gS_355, gt, c6, ne_eq, not_false_eq_true, not_true_eq_false, true_and, and_true, and_self, true_imp_iff, false_imp_iff, imp_self, Bool.not_false, Bool.not_true, reduceCtorEq, ab_isJ, ab_psh, ab_cats, Bool.false_eq_true, if_true, if_false, ab_shf, ab_shw, Int.le_refl, Classical.not_not, Int.zero_add, forall_const, ↓ab_itT, ↓ab_itF, ab_anT, ab_w32_id, ab_rdf_ne, ab_rdw_ne, ab_rdw_eq, ab_rdf_in, ab_td2, ab_tm2, or_true, true_or]
          all_goals exact k
      clear hQ hm h
      simp (disch := omega) only [do_X13_turnAt, rX13_turnAt_0, rX13_turnAt_1, rX13_turnAt_2, rX13_turnAt_5, rX13_turnAt_6, rX13_turnAt_7, rX13_turnAt_10, rX13_turnAt_11, rX13_turnAt_12, rX13_turnAt_15, rX13_turnAt_16, rX13_turnAt_17, rX13_turnAt_20, rX13_turnAt_21, rX13_turnAt_22, rX13_turnAt_25, rX13_turnAt_26, rX13_turnAt_27, rX13_turnAt_30, rX13_turnAt_31, rX13_turnAt_32, rX13_turnAt_35, rX13_turnAt_36, rX13_turnAt_37, rX13_turnAt_38, gS_355, g0, g, c, ne_eq, not_false_eq_true, not_true_eq_false, true_and, and_true, and_self, true_imp_iff, false_imp_iff, imp_self, Bool.not_false, Bool.not_true, reduceCtorEq, ab_isJ, ab_psh, ab_cats, Bool.false_eq_true, if_true, if_false, ab_shf, ab_shw, Int.le_refl, Classical.not_not, Int.zero_add, forall_const, ↓ab_itT, ↓ab_itF, ab_anT]
      all_goals exact key
    · rw [if_neg hi, if_neg (by decide)] at hQ
      have k := hQ _ (ac_end1 ac_mq0).1 (ac_end1 ac_mq0).2.1 (ac_end1 ac_mq0).2.2
      clear hQ h hm
      by_cases hi0 : 0 ≤ i
      · simp (disch := omega) only [do_X13_turnAt, rX13_turnAt_0, rX13_turnAt_1, rX13_turnAt_2, rX13_turnAt_5, rX13_turnAt_6, rX13_turnAt_7, rX13_turnAt_10, rX13_turnAt_11, rX13_turnAt_12, rX13_turnAt_15, rX13_turnAt_16, rX13_turnAt_17, rX13_turnAt_20, rX13_turnAt_21, rX13_turnAt_22, rX13_turnAt_25, rX13_turnAt_26, rX13_turnAt_27, rX13_turnAt_30, rX13_turnAt_31, rX13_turnAt_32, rX13_turnAt_35, gS_355, g0, g, c, cr, ne_eq, not_false_eq_true, not_true_eq_false, true_and, and_true, and_self, true_imp_iff, false_imp_iff, imp_self, Bool.not_false, Bool.not_true, reduceCtorEq, ab_isJ, ab_psh, ab_cats, Bool.false_eq_true, if_true, if_false, ab_shf, ab_shw, Int.le_refl, Classical.not_not, Int.zero_add, forall_const, ↓ab_itT, ↓ab_itF, ab_anT]
        all_goals exact k
      · simp (disch := omega) only [do_X13_turnAt, rX13_turnAt_0, rX13_turnAt_1, rX13_turnAt_2, rX13_turnAt_5, rX13_turnAt_6, rX13_turnAt_7, rX13_turnAt_10, rX13_turnAt_11, rX13_turnAt_12, rX13_turnAt_15, rX13_turnAt_16, rX13_turnAt_17, rX13_turnAt_20, rX13_turnAt_21, rX13_turnAt_22, rX13_turnAt_25, rX13_turnAt_26, rX13_turnAt_27, rX13_turnAt_30, rX13_turnAt_31, rX13_turnAt_32, rX13_turnAt_35, gS_355, g0, g, c, cr, ne_eq, not_false_eq_true, not_true_eq_false, true_and, and_true, and_self, true_imp_iff, false_imp_iff, imp_self, Bool.not_false, Bool.not_true, reduceCtorEq, ab_isJ, ab_psh, ab_cats, Bool.false_eq_true, if_true, if_false, ab_shf, ab_shw, Int.le_refl, Classical.not_not, Int.zero_add, forall_const, ↓ab_itT, ↓ab_itF, ab_anT]
        all_goals exact k
  · have eT : ac_taT κ w i = ac_tuT κ w := by unfold ac_taT; rw [if_neg hT]
    rw [eT, if_neg hT] at hQ
    have k := hQ _ (ac_end1 ac_mq0).1 (ac_end1 ac_mq0).2.1 (ac_end1 ac_mq0).2.2
    have hT1 := ac_tuT12 hT
    clear hQ h
    simp (disch := omega) only [do_X13_turnAt, rX13_turnAt_0, rX13_turnAt_1, rX13_turnAt_2, rX13_turnAt_5, rX13_turnAt_6, rX13_turnAt_7, rX13_turnAt_10, rX13_turnAt_11, rX13_turnAt_12, rX13_turnAt_15, rX13_turnAt_16, rX13_turnAt_17, rX13_turnAt_20, rX13_turnAt_21, rX13_turnAt_22, rX13_turnAt_25, rX13_turnAt_26, rX13_turnAt_27, rX13_turnAt_30, rX13_turnAt_31, rX13_turnAt_32, rX13_turnAt_35, gS_355, g0, g, c, cr, ne_eq, not_false_eq_true, not_true_eq_false, true_and, and_true, and_self, true_imp_iff, false_imp_iff, imp_self, Bool.not_false, Bool.not_true, reduceCtorEq, ab_isJ, ab_psh, ab_cats, Bool.false_eq_true, if_true, if_false, ab_shf, ab_shw, Int.le_refl, Classical.not_not, Int.zero_add, forall_const, ↓ab_itT, ↓ab_itF, ab_anT]
    all_goals exact k
end
