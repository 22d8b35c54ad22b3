/-! THE REFERENCE: laws -/
section
variable {X : ab_X} {σ τ : ab_S} {Q : Option ab_V → ab_S → Prop} {M : Int} {κ : ac_K} {v : Int → Int} {kd d b p hp q hq mv fa ft arm k x lo law : Int}
def ac_ow (κ : ac_K) (kd d b p q arm : Int) : Int := if arm = 0 then ac_OT κ kd d b p q 0 else ac_OT κ kd d b q p 1
theorem mq_oddsWith (h : ac_MI σ M κ) (hv : ac_MV σ κ v) (hb : ac_isB κ b) (hp : ac_isP κ p) (hq : ac_isP κ q) (ha : arm = 0 ∨ arm = 1) (hQ : ∀ τ, ab_Same ac_PL σ τ → ab_rd τ 355 21 = b → Q (some (ab_J (ac_ow κ (v b) (v (5 + b)) b p q arm))) τ) : ab_Do X 240 [ab_R 355, ab_I b, ab_I p, ab_I q, ab_I arm] σ Q := by
  have n5 := h.2.2.2.2.2.1.1.2
  have hd := (hv.2.1 b hb.1 hb.2)
  have g := h.1
  rcases ha with rfl | rfl
  · have b0 := ac_h_b h.2.2.2.2 hb (Or.inl rfl) hp
    have b1 := ac_h_b h.2.2.2.2 hb (Or.inr rfl) hq
    have c1 := fun Q' => mq_laysTold (X := X) (Q := Q') h (hv.1 (5 + b) (by omega) (by omega)) hb hp hq
    have sL := ac_ly_same (σ := σ) (κ := κ) (d := v (5 + b)) (b := b) (p := p) (hp := ac_h κ p b 0) (q := q) (hq := ac_h κ q b 1) (mv := 2)
    have hI := h.same (sL.mono (fun _ _ => ac_PL_PM))
    have gL := hI.1
    simp (disch := omega) only [do_X13_oddsWith, rX13_oddsWith_0, rX13_oddsWith_1, rX13_oddsWith_2, rX13_oddsWith_4, rX13_oddsWith_7, rX13_oddsWith_8, rX13_oddsWith_11, rX13_oddsWith_12, rX13_oddsWith_14, rX13_oddsWith_17, rX13_oddsWith_18, rX13_oddsWith_21, rX13_oddsWith_22, rX13_oddsWith_25, rX13_oddsWith_26, rX13_oddsWith_28, gS_355, g, gL, c1, ne_eq, not_false_eq_true, not_true_eq_false, true_and, and_true, and_self, true_imp_iff, false_imp_iff, imp_self, Bool.not_false, Bool.not_true, reduceCtorEq, ab_isJ, ab_psh, ab_cats, Bool.false_eq_true, if_true, if_false, ab_shf, ab_shw, Int.le_refl, Classical.not_not, Int.zero_add, forall_const, ↓ab_itT, ↓ab_itF, ab_anT, ab_w32_id, ab_rdf_ne, ab_rdw_ne, ab_rdw_eq, ab_rdf_in, ab_td2, ab_tm2]
    refine mq_oddsOf (kd := v b) hI ac_ly_ML ⟨hb, hp, hq, hd.2, by omega, by omega⟩ (by rw [sL.2.2 357 b (by unfold ac_PL; omega), hv.1 b (by omega) (by omega)]) (fun τ hs h23 => ?_)
    simp (disch := omega) only [rX13_oddsWith_31, ne_eq, not_false_eq_true, not_true_eq_false, true_and, and_true, and_self, true_imp_iff, false_imp_iff, imp_self, Bool.not_false, Bool.not_true, reduceCtorEq, ab_isJ, ab_psh, ab_cats, Bool.false_eq_true, if_true, if_false, ab_shf, ab_shw, Int.le_refl, Classical.not_not, Int.zero_add, forall_const, ↓ab_itT, ↓ab_itF, ab_anT, ab_w32_id, ab_rdf_ne, ab_rdw_ne, ab_rdw_eq, ab_rdf_in, ab_td2, ab_tm2]
    exact hQ τ (sL.trans (hs.mono (fun a f u => by unfold ac_PB at u; unfold ac_PL; omega))) (by rw [hs.2.2 355 21 (by unfold ac_PB; omega)]; exact ac_ly_ML.1)
  · have b0 := ac_h_b h.2.2.2.2 hb (Or.inl rfl) hq
    have b1 := ac_h_b h.2.2.2.2 hb (Or.inr rfl) hp
    have c1 := fun Q' => mq_laysTold (X := X) (Q := Q') h (hv.1 (5 + b) (by omega) (by omega)) hb hq hp
    have sL := ac_ly_same (σ := σ) (κ := κ) (d := v (5 + b)) (b := b) (p := q) (hp := ac_h κ q b 0) (q := p) (hq := ac_h κ p b 1) (mv := 2)
    have hI := h.same (sL.mono (fun _ _ => ac_PL_PM))
    have gL := hI.1
    simp (disch := omega) only [do_X13_oddsWith, rX13_oddsWith_0, rX13_oddsWith_1, rX13_oddsWith_2, rX13_oddsWith_4, rX13_oddsWith_7, rX13_oddsWith_8, rX13_oddsWith_11, rX13_oddsWith_12, rX13_oddsWith_14, rX13_oddsWith_17, rX13_oddsWith_18, rX13_oddsWith_21, rX13_oddsWith_22, rX13_oddsWith_25, rX13_oddsWith_26, rX13_oddsWith_28, gS_355, g, gL, c1, ne_eq, not_false_eq_true, not_true_eq_false, true_and, and_true, and_self, true_imp_iff, false_imp_iff, imp_self, Bool.not_false, Bool.not_true, reduceCtorEq, ab_isJ, ab_psh, ab_cats, Bool.false_eq_true, if_true, if_false, ab_shf, ab_shw, Int.le_refl, Classical.not_not, Int.zero_add, forall_const, ↓ab_itT, ↓ab_itF, ab_anT, ab_w32_id, ab_rdf_ne, ab_rdw_ne, ab_rdw_eq, ab_rdf_in, ab_td2, ab_tm2]
    refine mq_oddsOf (kd := v b) hI ac_ly_ML ⟨hb, hq, hp, hd.2, by omega, by omega⟩ (by rw [sL.2.2 357 b (by unfold ac_PL; omega), hv.1 b (by omega) (by omega)]) (fun τ hs h23 => ?_)
    simp (disch := omega) only [rX13_oddsWith_31, ne_eq, not_false_eq_true, not_true_eq_false, true_and, and_true, and_self, true_imp_iff, false_imp_iff, imp_self, Bool.not_false, Bool.not_true, reduceCtorEq, ab_isJ, ab_psh, ab_cats, Bool.false_eq_true, if_true, if_false, ab_shf, ab_shw, Int.le_refl, Classical.not_not, Int.zero_add, forall_const, ↓ab_itT, ↓ab_itF, ab_anT, ab_w32_id, ab_rdf_ne, ab_rdw_ne, ab_rdw_eq, ab_rdf_in, ab_td2, ab_tm2]
    exact hQ τ (sL.trans (hs.mono (fun a f u => by unfold ac_PB at u; unfold ac_PL; omega))) (by rw [hs.2.2 355 21 (by unfold ac_PB; omega)]; exact ac_ly_ML.1)
theorem mq_thickness_l (h : ac_MI σ M κ) (hb : ac_isB κ b) (ha : arm = 0 ∨ arm = 1) : ∀ (n : Nat) (i s : Int), 0 ≤ i → 0 ≤ s → s ≤ 9 * i → i + n = κ 14 (2 * b + arm) → (ab_Run X 241 5 (1, 0, 0) [ab_R 355, ab_I b, ab_I arm, ab_I s, ab_I i] [] σ Q ↔ Q (some (ab_I (ab_it (fun i s => s + κ 15 (6 * (2 * b + arm) + i)) n i s))) σ) := by
  have c0 := fun Q' => mq_many (X := X) (Q := Q') h hb ha
  obtain ⟨hg, h3, hG, hM, hK⟩ := h
  have z := hG.1
  have n5 := hK.2.1.1.2
  have nb := ((hK.2.2.1.1 b hb.1 hb.2).2.2 arm ha).1
  intro n
  induction n with
  | zero =>
    intro i s h0 hs0 hs1 hn
    rw [ab_it]
    simp (disch := omega) only [rX13_thickness_5, rX13_thickness_7, rX13_thickness_8, rX13_thickness_11, rX13_thickness_12, rX13_thickness_13, rX13_thickness_16, rX13_thickness_39, rX13_thickness_40, gS_355, hg, h3, mS, c0, ne_eq, not_false_eq_true, not_true_eq_false, true_and, and_true, and_self, true_imp_iff, false_imp_iff, imp_self, Bool.not_false, Bool.not_true, reduceCtorEq, ab_isJ, ab_psh, ab_cats, Bool.false_eq_true, if_true, if_false, ab_shf, ab_shw, Int.le_refl, Classical.not_not, Int.zero_add, forall_const, ↓ab_itT, ↓ab_itF, ab_anT, ab_w32_id, ab_rdf_ne, ab_rdw_ne, ab_rdw_eq, ab_rdf_in, ab_td2, ab_tm2]
  | succ n ih =>
    intro i s h0 hs0 hs1 hn
    have tb := ((hK.2.2.1.1 b hb.1 hb.2).2.2 arm ha).2 i h0 (by omega)
    have key := ih (i + 1) (s + κ 15 (6 * (2 * b + arm) + i)) (by omega) (by omega) (by omega) (by omega)
    rw [ab_it, ← key]
    rw [rX13_thickness_5]
    simp (disch := omega) only [rX13_thickness_7, rX13_thickness_8, rX13_thickness_11, rX13_thickness_12, rX13_thickness_13, rX13_thickness_16, rX13_thickness_19, rX13_thickness_20, rX13_thickness_21, rX13_thickness_24, rX13_thickness_25, rX13_thickness_26, rX13_thickness_28, rX13_thickness_31, rX13_thickness_32, rX13_thickness_33, rX13_thickness_36, do_X12_thickAt, rX12_thickAt_0, rX12_thickAt_1, rX12_thickAt_4, rX12_thickAt_6, rX12_thickAt_7, rX12_thickAt_8, rX12_thickAt_9, rX12_thickAt_10, rX12_thickAt_11, rX12_thickAt_12, rX12_thickAt_13, rX12_thickAt_14, rX12_thickAt_15, gS_355, hg, h3, mS, mP_15, mS_15, kM_15, c0, ne_eq, not_false_eq_true, not_true_eq_false, true_and, and_true, and_self, true_imp_iff, false_imp_iff, imp_self, Bool.not_false, Bool.not_true, reduceCtorEq, ab_isJ, ab_psh, ab_cats, Bool.false_eq_true, if_true, if_false, ab_shf, ab_shw, Int.le_refl, Classical.not_not, Int.zero_add, forall_const, ↓ab_itT, ↓ab_itF, ab_anT, ab_w32_id, ab_rdf_ne, ab_rdw_ne, ab_rdw_eq, ab_rdf_in, ab_td2, ab_tm2]
theorem mq_thickness (h : ac_MI σ M κ) (hb : ac_isB κ b) (ha : arm = 0 ∨ arm = 1) : ab_Do X 241 [ab_R 355, ab_I b, ab_I arm] σ Q ↔ Q (some (ab_I (ac_thk κ b arm))) σ := by
  have nb := ((h.2.2.2.2.2.2.1.1 b hb.1 hb.2).2.2 arm ha).1
  unfold ac_thk
  rw [← mq_thickness_l (X := X) (Q := Q) h hb ha (κ 14 (2 * b + arm)).toNat 0 0 (by omega) (by omega) (by omega) (by omega)]
  simp (disch := omega) only [do_X13_thickness, rX13_thickness_0, rX13_thickness_1, rX13_thickness_2, rX13_thickness_3, ne_eq, not_false_eq_true, not_true_eq_false, true_and, and_true, and_self, true_imp_iff, false_imp_iff, imp_self, Bool.not_false, Bool.not_true, reduceCtorEq, ab_isJ, ab_psh, ab_cats, Bool.false_eq_true, if_true, if_false, ab_shf, ab_shw, Int.le_refl, Classical.not_not, Int.zero_add, forall_const, ↓ab_itT, ↓ab_itF, ab_anT, ab_w32_id, ab_rdf_ne, ab_rdw_ne, ab_rdw_eq, ab_rdf_in, ab_td2, ab_tm2]
theorem mq_chosen (h : ac_MI σ M κ) (hv : ac_MV σ κ v) (hb : ac_isB κ b) (hp : ac_isP κ p) (hq : ac_isP κ q) (hQ : ∀ τ, ab_Same ac_PL σ τ → Q (some (ab_I (if ac_tL κ b p (ac_OT κ (v b) (v (5 + b)) b p q 0) (ac_OT κ (v b) (v (5 + b)) b q p 1) then 0 else 1))) τ) : ab_Do X 242 [ab_R 355, ab_I b, ab_I p, ab_I q] σ Q := by
  have c1 := fun Q' => mq_thickness (X := X) (Q := Q') (arm := 1) h hb (Or.inr rfl)
  have c2 := fun Q' => mq_thickness (X := X) (Q := Q') (arm := 0) h hb (Or.inl rfl)
  have h' := h
  obtain ⟨hg, h3, hG, hM, hK⟩ := h
  have z := hG.1
  have n6 := hK.2.1.2.1.2
  by_cases k1 : κ 16 p = 1
  · by_cases w : ac_thk κ b 1 ≤ ac_thk κ b 0
    · have hq' := hQ σ ab_Same.refl
      rw [if_pos (Or.inl ⟨k1, w⟩)] at hq'
      simp (disch := omega) only [do_X13_chosen, rX13_chosen_0, rX13_chosen_1, rX13_chosen_4, rX13_chosen_7, rX13_chosen_8, rX13_chosen_9, rX13_chosen_10, rX13_chosen_13, rX13_chosen_14, rX13_chosen_15, rX13_chosen_16, rX13_chosen_19, rX13_chosen_20, rX13_chosen_21, rX13_chosen_22, rX13_chosen_25, rX13_chosen_28, rX13_chosen_29, rX13_chosen_32, rX13_chosen_33, gS_355, hg, h3, mS, mP_16, mS_16, kM_16, c1, c2, ne_eq, not_false_eq_true, not_true_eq_false, true_and, and_true, and_self, true_imp_iff, false_imp_iff, imp_self, Bool.not_false, Bool.not_true, reduceCtorEq, ab_isJ, ab_psh, ab_cats, Bool.false_eq_true, if_true, if_false, ab_shf, ab_shw, Int.le_refl, Classical.not_not, Int.zero_add, forall_const, ↓ab_itT, ↓ab_itF, ab_anT, ab_w32_id, ab_rdf_ne, ab_rdw_ne, ab_rdw_eq, ab_rdf_in, ab_td2, ab_tm2]
      all_goals exact hq'
    · have hq' := hQ σ ab_Same.refl
      rw [if_neg (by omega)] at hq'
      simp (disch := omega) only [do_X13_chosen, rX13_chosen_0, rX13_chosen_1, rX13_chosen_4, rX13_chosen_7, rX13_chosen_8, rX13_chosen_9, rX13_chosen_10, rX13_chosen_13, rX13_chosen_14, rX13_chosen_15, rX13_chosen_16, rX13_chosen_19, rX13_chosen_20, rX13_chosen_21, rX13_chosen_22, rX13_chosen_25, rX13_chosen_28, rX13_chosen_29, rX13_chosen_32, rX13_chosen_33, gS_355, hg, h3, mS, mP_16, mS_16, kM_16, c1, c2, ne_eq, not_false_eq_true, not_true_eq_false, true_and, and_true, and_self, true_imp_iff, false_imp_iff, imp_self, Bool.not_false, Bool.not_true, reduceCtorEq, ab_isJ, ab_psh, ab_cats, Bool.false_eq_true, if_true, if_false, ab_shf, ab_shw, Int.le_refl, Classical.not_not, Int.zero_add, forall_const, ↓ab_itT, ↓ab_itF, ab_anT, ab_w32_id, ab_rdf_ne, ab_rdw_ne, ab_rdw_eq, ab_rdf_in, ab_td2, ab_tm2]
      all_goals exact hq'
  · simp (disch := omega) only [do_X13_chosen, rX13_chosen_0, rX13_chosen_1, rX13_chosen_4, rX13_chosen_7, rX13_chosen_8, rX13_chosen_9, rX13_chosen_10, rX13_chosen_34, rX13_chosen_35, rX13_chosen_36, rX13_chosen_37, rX13_chosen_38, rX13_chosen_39, gS_355, hg, h3, mS, mP_16, mS_16, kM_16, c1, c2, ne_eq, not_false_eq_true, not_true_eq_false, true_and, and_true, and_self, true_imp_iff, false_imp_iff, imp_self, Bool.not_false, Bool.not_true, reduceCtorEq, ab_isJ, ab_psh, ab_cats, Bool.false_eq_true, if_true, if_false, ab_shf, ab_shw, Int.le_refl, Classical.not_not, Int.zero_add, forall_const, ↓ab_itT, ↓ab_itF, ab_anT, ab_w32_id, ab_rdf_ne, ab_rdw_ne, ab_rdw_eq, ab_rdf_in, ab_td2, ab_tm2]
    refine mq_oddsWith h' hv hb hp hq (Or.inr rfl) (fun τ hs _ => ?_)
    have hI1 := h'.same (hs.mono (fun _ _ => ac_PL_PM))
    have g1 := hI1.1
    simp (disch := omega) only [rX13_chosen_42, rX13_chosen_43, rX13_chosen_44, rX13_chosen_45, rX13_chosen_46, rX13_chosen_47, gS_355, g1, ne_eq, not_false_eq_true, not_true_eq_false, true_and, and_true, and_self, true_imp_iff, false_imp_iff, imp_self, Bool.not_false, Bool.not_true, reduceCtorEq, ab_isJ, ab_psh, ab_cats, Bool.false_eq_true, if_true, if_false, ab_shf, ab_shw, Int.le_refl, Classical.not_not, Int.zero_add, forall_const, ↓ab_itT, ↓ab_itF, ab_anT, ab_w32_id, ab_rdf_ne, ab_rdw_ne, ab_rdw_eq, ab_rdf_in, ab_td2, ab_tm2]
    refine mq_oddsWith hI1 (hv.same (hs.mono (fun _ _ => ac_PL_PM))) hb hp hq (Or.inl rfl) (fun τ2 hs2 _ => ?_)
    have hq' := hQ τ2 (hs.trans hs2)
    have e1 : ac_ow κ (v b) (v (5 + b)) b p q 1 = ac_OT κ (v b) (v (5 + b)) b q p 1 := rfl
    have e2 : ac_ow κ (v b) (v (5 + b)) b p q 0 = ac_OT κ (v b) (v (5 + b)) b p q 0 := rfl
    rw [e1, e2]
    generalize ac_OT κ (v b) (v (5 + b)) b q p 1 = y at *
    generalize ac_OT κ (v b) (v (5 + b)) b p q 0 = x at *
    by_cases w : y ≤ x
    · rw [if_pos (Or.inr ⟨k1, w⟩)] at hq'
      have lc : (if x < y then (1 : Int) else if y = x then 0 else -1) ≤ 0 := by
        rw [if_neg (by omega)]; split <;> omega
      simp (disch := omega) only [rX13_chosen_50, rX13_chosen_51, rX13_chosen_54, rX13_chosen_55, rX13_chosen_58, rX13_chosen_59, ne_eq, not_false_eq_true, not_true_eq_false, true_and, and_true, and_self, true_imp_iff, false_imp_iff, imp_self, Bool.not_false, Bool.not_true, reduceCtorEq, ab_isJ, ab_psh, ab_cats, Bool.false_eq_true, if_true, if_false, ab_shf, ab_shw, Int.le_refl, Classical.not_not, Int.zero_add, forall_const, ↓ab_itT, ↓ab_itF, ab_anT, ab_w32_id, ab_rdf_ne, ab_rdw_ne, ab_rdw_eq, ab_rdf_in, ab_td2, ab_tm2]
      all_goals exact hq'
    · rw [if_neg (by omega)] at hq'
      simp (disch := omega) only [rX13_chosen_50, rX13_chosen_51, rX13_chosen_54, rX13_chosen_55, rX13_chosen_58, rX13_chosen_59, ne_eq, not_false_eq_true, not_true_eq_false, true_and, and_true, and_self, true_imp_iff, false_imp_iff, imp_self, Bool.not_false, Bool.not_true, reduceCtorEq, ab_isJ, ab_psh, ab_cats, Bool.false_eq_true, if_true, if_false, ab_shf, ab_shw, Int.le_refl, Classical.not_not, Int.zero_add, forall_const, ↓ab_itT, ↓ab_itF, ab_anT, ab_w32_id, ab_rdf_ne, ab_rdw_ne, ab_rdw_eq, ab_rdf_in, ab_td2, ab_tm2, ab_ifT]
      all_goals exact hq'
theorem ac_ow_b (hk : ac_KK κ) (hb : ac_isB κ b) : 0 ≤ ac_ow κ kd d b p q arm ∧ ac_ow κ kd d b p q arm ≤ 3000 := by
  unfold ac_ow
  split
  · exact ac_OT_b hk hb
  · exact ac_OT_b hk hb
theorem mq_byLaw (h : ac_MI σ M κ) (hv : ac_MV σ κ v) (hb : ac_isB κ b) (hp : ac_isP κ p) (hq : ac_isP κ q) (hl : 0 ≤ law ∧ law ≤ 3) (hQ : ∀ τ, ab_Same ac_PL σ τ → ab_rd τ 355 21 = b → Q (some (ab_J (ac_tw κ (v b) (v (5 + b)) law b p q))) τ) : ab_Do X 243 [ab_R 355, ab_I law, ab_I b, ab_I p, ab_I q] σ Q := by
  have g := h.1
  have ob := fun arm => ac_ow_b (kd := v b) (d := v (5 + b)) (p := p) (q := q) (arm := arm) h.2.2.2.2 hb
  have e1 : ac_ow κ (v b) (v (5 + b)) b p q 1 = ac_OT κ (v b) (v (5 + b)) b q p 1 := rfl
  have e0 : ac_ow κ (v b) (v (5 + b)) b p q 0 = ac_OT κ (v b) (v (5 + b)) b p q 0 := rfl
  have fin : ∀ (arm : Int) (τ : ab_S), ab_Same ac_PL σ τ → (arm = 0 ∨ arm = 1) → 2 * ac_ow κ (v b) (v (5 + b)) b p q arm = ac_tw κ (v b) (v (5 + b)) law b p q → ab_Run X 243 59 (8, 0, 0) [ab_R 355, ab_I law, ab_I b, ab_I p, ab_I q, ab_R 0] [ab_I arm] τ Q := by
    intro arm τ hs ha he
    have hI := h.same (hs.mono (fun _ _ => ac_PL_PM))
    have g1 := hI.1
    simp (disch := omega) only [rX13_byLaw_59, rX13_byLaw_61, rX13_byLaw_64, rX13_byLaw_65, rX13_byLaw_66, rX13_byLaw_67, rX13_byLaw_69, rX13_byLaw_71, gS_355, g1, ne_eq, not_false_eq_true, not_true_eq_false, true_and, and_true, and_self, true_imp_iff, false_imp_iff, imp_self, Bool.not_false, Bool.not_true, reduceCtorEq, ab_isJ, ab_psh, ab_cats, Bool.false_eq_true, if_true, if_false, ab_shf, ab_shw, Int.le_refl, Classical.not_not, Int.zero_add, forall_const, ↓ab_itT, ↓ab_itF, ab_anT, ab_w32_id, ab_rdf_ne, ab_rdw_ne, ab_rdw_eq, ab_rdf_in, ab_td2, ab_tm2]
    refine mq_oddsWith hI (hv.same (hs.mono (fun _ _ => ac_PL_PM))) hb hp hq ha (fun τ2 hs2 h21 => ?_)
    have ob' := ob arm
    rw [← he] at hQ
    simp (disch := omega) only [rX13_byLaw_74, rX13_byLaw_75, ne_eq, not_false_eq_true, not_true_eq_false, true_and, and_true, and_self, true_imp_iff, false_imp_iff, imp_self, Bool.not_false, Bool.not_true, reduceCtorEq, ab_isJ, ab_psh, ab_cats, Bool.false_eq_true, if_true, if_false, ab_shf, ab_shw, Int.le_refl, Classical.not_not, Int.zero_add, forall_const, ↓ab_itT, ↓ab_itF, ab_anT, ab_w32_id, ab_rdf_ne, ab_rdw_ne, ab_rdw_eq, ab_rdf_in, ab_td2, ab_tm2, ab_w64_id]
    exact hQ τ2 (hs.trans hs2) h21
  by_cases l3 : law = 3
  · simp (disch := omega) only [do_X13_byLaw, rX13_byLaw_0, rX13_byLaw_1, rX13_byLaw_2, rX13_byLaw_5, rX13_byLaw_6, rX13_byLaw_7, rX13_byLaw_8, rX13_byLaw_10, rX13_byLaw_11, gS_355, g, ne_eq, not_false_eq_true, not_true_eq_false, true_and, and_true, and_self, true_imp_iff, false_imp_iff, imp_self, Bool.not_false, Bool.not_true, reduceCtorEq, ab_isJ, ab_psh, ab_cats, Bool.false_eq_true, if_true, if_false, ab_shf, ab_shw, Int.le_refl, Classical.not_not, Int.zero_add, forall_const, ↓ab_itT, ↓ab_itF, ab_anT, ab_w32_id, ab_rdf_ne, ab_rdw_ne, ab_rdw_eq, ab_rdf_in, ab_td2, ab_tm2]
    refine mq_oddsWith h hv hb hp hq (Or.inl rfl) (fun τ hs _ => ?_)
    have hI := h.same (hs.mono (fun _ _ => ac_PL_PM))
    have g1 := hI.1
    simp (disch := omega) only [rX13_byLaw_14, rX13_byLaw_15, rX13_byLaw_16, rX13_byLaw_17, rX13_byLaw_19, rX13_byLaw_20, gS_355, g1, ne_eq, not_false_eq_true, not_true_eq_false, true_and, and_true, and_self, true_imp_iff, false_imp_iff, imp_self, Bool.not_false, Bool.not_true, reduceCtorEq, ab_isJ, ab_psh, ab_cats, Bool.false_eq_true, if_true, if_false, ab_shf, ab_shw, Int.le_refl, Classical.not_not, Int.zero_add, forall_const, ↓ab_itT, ↓ab_itF, ab_anT, ab_w32_id, ab_rdf_ne, ab_rdw_ne, ab_rdw_eq, ab_rdf_in, ab_td2, ab_tm2]
    refine mq_oddsWith hI (hv.same (hs.mono (fun _ _ => ac_PL_PM))) hb hp hq (Or.inr rfl) (fun τ2 hs2 h21 => ?_)
    have o0 := ob 0
    have o1 := ob 1
    have et : ac_tw κ (v b) (v (5 + b)) law b p q = ac_ow κ (v b) (v (5 + b)) b p q 0 + ac_ow κ (v b) (v (5 + b)) b p q 1 := by
      unfold ac_tw
      rw [if_neg (by omega), if_neg (by omega), if_neg (by omega), e0, e1]
    rw [et] at hQ
    simp (disch := omega) only [rX13_byLaw_23, rX13_byLaw_24, ne_eq, not_false_eq_true, not_true_eq_false, true_and, and_true, and_self, true_imp_iff, false_imp_iff, imp_self, Bool.not_false, Bool.not_true, reduceCtorEq, ab_isJ, ab_psh, ab_cats, Bool.false_eq_true, if_true, if_false, ab_shf, ab_shw, Int.le_refl, Classical.not_not, Int.zero_add, forall_const, ↓ab_itT, ↓ab_itF, ab_anT, ab_w32_id, ab_rdf_ne, ab_rdw_ne, ab_rdw_eq, ab_rdf_in, ab_td2, ab_tm2, ab_w64_id]
    exact hQ τ2 (hs.trans hs2) h21
  · by_cases l0 : law = 0
    · simp (disch := omega) only [do_X13_byLaw, rX13_byLaw_0, rX13_byLaw_1, rX13_byLaw_2, rX13_byLaw_25, rX13_byLaw_26, rX13_byLaw_29, rX13_byLaw_30, gS_355, g, ne_eq, not_false_eq_true, not_true_eq_false, true_and, and_true, and_self, true_imp_iff, false_imp_iff, imp_self, Bool.not_false, Bool.not_true, reduceCtorEq, ab_isJ, ab_psh, ab_cats, Bool.false_eq_true, if_true, if_false, ab_shf, ab_shw, Int.le_refl, Classical.not_not, Int.zero_add, forall_const, ↓ab_itT, ↓ab_itF, ab_anT, ab_w32_id, ab_rdf_ne, ab_rdw_ne, ab_rdw_eq, ab_rdf_in, ab_td2, ab_tm2]
      exact fin 0 σ ab_Same.refl (Or.inl rfl) (by unfold ac_tw; rw [if_pos l0, e0])
    · by_cases l1 : law = 1
      · simp (disch := omega) only [do_X13_byLaw, rX13_byLaw_0, rX13_byLaw_1, rX13_byLaw_2, rX13_byLaw_25, rX13_byLaw_26, rX13_byLaw_29, rX13_byLaw_30, rX13_byLaw_33, rX13_byLaw_34, rX13_byLaw_35, rX13_byLaw_38, rX13_byLaw_39, rX13_byLaw_40, rX13_byLaw_41, rX13_byLaw_43, gS_355, g, ne_eq, not_false_eq_true, not_true_eq_false, true_and, and_true, and_self, true_imp_iff, false_imp_iff, imp_self, Bool.not_false, Bool.not_true, reduceCtorEq, ab_isJ, ab_psh, ab_cats, Bool.false_eq_true, if_true, if_false, ab_shf, ab_shw, Int.le_refl, Classical.not_not, Int.zero_add, forall_const, ↓ab_itT, ↓ab_itF, ab_anT, ab_w32_id, ab_rdf_ne, ab_rdw_ne, ab_rdw_eq, ab_rdf_in, ab_td2, ab_tm2]
        refine mq_chosen h hv hb hp hq (fun τ hs => ?_)
        simp (disch := omega) only [rX13_byLaw_46, ne_eq, not_false_eq_true, not_true_eq_false, true_and, and_true, and_self, true_imp_iff, false_imp_iff, imp_self, Bool.not_false, Bool.not_true, reduceCtorEq, ab_isJ, ab_psh, ab_cats, Bool.false_eq_true, if_true, if_false, ab_shf, ab_shw, Int.le_refl, Classical.not_not, Int.zero_add, forall_const, ↓ab_itT, ↓ab_itF, ab_anT, ab_w32_id, ab_rdf_ne, ab_rdw_ne, ab_rdw_eq, ab_rdf_in, ab_td2, ab_tm2]
        refine fin _ τ hs (by split <;> simp) ?_
        unfold ac_tw
        rw [if_neg l0, if_pos l1]
        by_cases w : ac_tL κ b p (ac_OT κ (v b) (v (5 + b)) b p q 0) (ac_OT κ (v b) (v (5 + b)) b q p 1)
        · rw [if_pos w, if_pos w, e0]
        · rw [if_neg w, if_neg w, e1]
      · simp (disch := omega) only [do_X13_byLaw, rX13_byLaw_0, rX13_byLaw_1, rX13_byLaw_2, rX13_byLaw_25, rX13_byLaw_26, rX13_byLaw_29, rX13_byLaw_30, rX13_byLaw_33, rX13_byLaw_34, rX13_byLaw_35, rX13_byLaw_38, rX13_byLaw_39, rX13_byLaw_40, rX13_byLaw_41, rX13_byLaw_43, rX13_byLaw_46, rX13_byLaw_49, rX13_byLaw_50, rX13_byLaw_51, rX13_byLaw_52, rX13_byLaw_54, rX13_byLaw_55, gS_355, g, ne_eq, not_false_eq_true, not_true_eq_false, true_and, and_true, and_self, true_imp_iff, false_imp_iff, imp_self, Bool.not_false, Bool.not_true, reduceCtorEq, ab_isJ, ab_psh, ab_cats, Bool.false_eq_true, if_true, if_false, ab_shf, ab_shw, Int.le_refl, Classical.not_not, Int.zero_add, forall_const, ↓ab_itT, ↓ab_itF, ab_anT, ab_w32_id, ab_rdf_ne, ab_rdw_ne, ab_rdw_eq, ab_rdf_in, ab_td2, ab_tm2]
        refine mq_chosen h hv hb hq hp (fun τ hs => ?_)
        by_cases w : ac_tL κ b q (ac_OT κ (v b) (v (5 + b)) b q p 0) (ac_OT κ (v b) (v (5 + b)) b p q 1)
        · rw [if_pos w]
          simp (disch := omega) only [rX13_byLaw_58, ne_eq, not_false_eq_true, not_true_eq_false, true_and, and_true, and_self, true_imp_iff, false_imp_iff, imp_self, Bool.not_false, Bool.not_true, reduceCtorEq, ab_isJ, ab_psh, ab_cats, Bool.false_eq_true, if_true, if_false, ab_shf, ab_shw, Int.le_refl, Classical.not_not, Int.zero_add, forall_const, ↓ab_itT, ↓ab_itF, ab_anT, ab_w32_id, ab_rdf_ne, ab_rdw_ne, ab_rdw_eq, ab_rdf_in, ab_td2, ab_tm2]
          refine fin _ τ hs (Or.inr rfl) ?_
          unfold ac_tw
          rw [if_neg l0, if_neg l1, if_pos (by omega), if_pos w, show (1 : Int) - 0 = 1 from rfl, e1]
        · rw [if_neg w]
          simp (disch := omega) only [rX13_byLaw_58, ne_eq, not_false_eq_true, not_true_eq_false, true_and, and_true, and_self, true_imp_iff, false_imp_iff, imp_self, Bool.not_false, Bool.not_true, reduceCtorEq, ab_isJ, ab_psh, ab_cats, Bool.false_eq_true, if_true, if_false, ab_shf, ab_shw, Int.le_refl, Classical.not_not, Int.zero_add, forall_const, ↓ab_itT, ↓ab_itF, ab_anT, ab_w32_id, ab_rdf_ne, ab_rdw_ne, ab_rdw_eq, ab_rdf_in, ab_td2, ab_tm2]
          refine fin _ τ hs (Or.inl rfl) ?_
          unfold ac_tw
          rw [if_neg l0, if_neg l1, if_pos (by omega), if_neg w, show (1 : Int) - 1 = 0 from rfl, e0]
theorem mq_lawOdds (h : ac_MN σ κ) (hv : ac_MV σ κ v) (hlo : lo = 0 ∨ lo = 1) (hQ : ∀ τ, ab_Same ac_PM σ τ → ab_rd τ 355 1 = ac_fT κ law b p q → ab_rd τ 355 2 = -1 → Q (some (ab_J (if ac_fT κ law b p q = 0 then ac_pt (ac_tw κ (v b) (v (5 + b)) law b p q) (2 * (100 * (ac_n κ b 0 + ac_n κ b 1))) lo else -1))) τ) : ab_Do X 244 [ab_R 355, ab_I law, ab_I b, ab_I p, ab_I q, ab_I lo] σ Q := by
  have h' := h.same ac_mq0
  have g0 := h.1
  have g := h'.1
  have c1 := fun b Q' => mq_isBone (X := X) (Q := Q') (b := b) h'
  have c2 := fun p q Q' => mq_isPair (X := X) (Q := Q') (p := p) (q := q) h'
  have c1p := fun b Q' => mq_isPerson (X := X) (Q := Q') (b := b) h'
  have cl := fun b arm k Q' => mq_isPlace (X := X) (Q := Q') (b := b) (arm := arm) (k := k) h'
  have cin := fun x lo hi Q' => mq_in (X := X) (σ := ab_wr σ 355 0 0) (Q := Q') (x := x) (lo := lo) (hi := hi)
  have cr := fun v Q' => sp_refused (X := X) (Q := Q') (v := v) g
  have c0 := fun b hp hq mv Q' => mq_rp0 (X := X) (σ := ab_wr σ 355 0 0) (Q := Q') (b := b) (hp := hp) (hq := hq) (mv := mv)
  have hv' := hv.same (τ := ab_wr σ 355 0 0) ac_mq0
  by_cases hx : 0 ≤ law ∧ law ≤ 3
  · by_cases h1 : ac_isB κ b
    · by_cases h1u : ac_isU κ p q
      · have eP : ac_pT κ b p q = 0 := if_pos ⟨h1, h1u⟩
        obtain ⟨M, hm⟩ := h.mb h1
        have hm' := hm.same (τ := ab_wr σ 355 0 0) ac_mq0
        have eT : ac_fT κ law b p q = 0 := by unfold ac_fT; rw [if_pos hx, eP]
        rw [eT, if_pos rfl] at hQ
        simp (disch := omega) only [do_X13_lawOdds, rX13_lawOdds_0, rX13_lawOdds_1, rX13_lawOdds_2, rX13_lawOdds_5, rX13_lawOdds_6, rX13_lawOdds_7, rX13_lawOdds_8, rX13_lawOdds_11, rX13_lawOdds_14, rX13_lawOdds_15, rX13_lawOdds_16, rX13_lawOdds_19, rX13_lawOdds_22, rX13_lawOdds_23, rX13_lawOdds_24, rX13_lawOdds_26, rX13_lawOdds_29, rX13_lawOdds_32, rX13_lawOdds_33, rX13_lawOdds_34, rX13_lawOdds_37, rX13_lawOdds_38, rX13_lawOdds_39, rX13_lawOdds_40, rX13_lawOdds_41, rX13_lawOdds_42, rX13_lawOdds_43, rX13_lawOdds_45, gS_355, g0, c1, c2, cin, if_pos h1, if_pos h1u, if_pos hx, ne_eq, not_false_eq_true, not_true_eq_false, true_and, and_true, and_self, true_imp_iff, false_imp_iff, imp_self, Bool.not_false, Bool.not_true, reduceCtorEq, ab_isJ, ab_psh, ab_cats, Bool.false_eq_true, if_true, if_false, ab_shf, ab_shw, Int.le_refl, Classical.not_not, Int.zero_add, forall_const, ↓ab_itT, ↓ab_itF, ab_anT, ab_w32_id, ab_rdf_ne, ab_rdw_ne, ab_rdw_eq, ab_rdf_in, ab_td2, ab_tm2]
        refine mq_byLaw hm' hv' h1 h1u.1 h1u.2.1 hx (fun τ hs e21 => ?_)
        have sT := ac_mq0.trans (hs.mono (fun _ _ => ac_PL_PM))
        have gT := (hm.same sT).1
        have c7 := fun Q' => mq_allPlaces (X := X) (Q := Q') (hm.same sT) h1 e21
        have ob := ac_tw_b (kd := v b) (d := v (5 + b)) (law := law) (p := p) (q := q) hm.2.2.2.2 h1
        have nn0 := ac_n_b hm.2.2.2.2 h1 (Or.inl rfl)
        have nn1 := ac_n_b hm.2.2.2.2 h1 (Or.inr rfl)
        have e2 : 2 * (100 * (ac_n κ b 0 + ac_n κ b 1)) = 200 * (ac_n κ b 0 + ac_n κ b 1) := by omega
        rw [e2] at hQ
        have c9 := fun Q' => sp_fraction (X := X) (Q := Q') (up := ac_tw κ (v b) (v (5 + b)) law b p q) (low := 200 * (ac_n κ b 0 + ac_n κ b 1)) (lo := lo) gT (by omega) (by omega) hlo
        simp (disch := omega) only [rX13_lawOdds_48, rX13_lawOdds_50, rX13_lawOdds_51, rX13_lawOdds_53, rX13_lawOdds_56, rX13_lawOdds_57, rX13_lawOdds_60, rX13_lawOdds_61, rX13_lawOdds_62, rX13_lawOdds_64, rX13_lawOdds_67, gS_355, gT, c7, c9, ne_eq, not_false_eq_true, not_true_eq_false, true_and, and_true, and_self, true_imp_iff, false_imp_iff, imp_self, Bool.not_false, Bool.not_true, reduceCtorEq, ab_isJ, ab_psh, ab_cats, Bool.false_eq_true, if_true, if_false, ab_shf, ab_shw, Int.le_refl, Classical.not_not, Int.zero_add, forall_const, ↓ab_itT, ↓ab_itF, ab_anT, ab_w32_id, ab_rdf_ne, ab_rdw_ne, ab_rdw_eq, ab_rdf_in, ab_td2, ab_tm2, ab_w64_id]
        exact hQ _ (ac_end1 sT).1 (ac_end1 sT).2.1 (ac_end1 sT).2.2
      · have eT : ac_fT κ law b p q = 1 := by (unfold ac_fT ac_pT; rw [if_pos hx, if_neg (c := ac_isB κ b ∧ ac_isU κ p q) (fun w => h1u w.2)])
        rw [eT, if_neg (by decide)] at hQ
        simp (disch := omega) only [do_X13_lawOdds, rX13_lawOdds_0, rX13_lawOdds_1, rX13_lawOdds_2, rX13_lawOdds_5, rX13_lawOdds_6, rX13_lawOdds_7, rX13_lawOdds_8, rX13_lawOdds_11, rX13_lawOdds_14, rX13_lawOdds_15, rX13_lawOdds_16, rX13_lawOdds_19, rX13_lawOdds_22, rX13_lawOdds_23, rX13_lawOdds_24, rX13_lawOdds_26, rX13_lawOdds_29, rX13_lawOdds_32, rX13_lawOdds_33, rX13_lawOdds_34, rX13_lawOdds_37, rX13_lawOdds_38, rX13_lawOdds_39, rX13_lawOdds_40, rX13_lawOdds_41, rX13_lawOdds_42, rX13_lawOdds_43, rX13_lawOdds_45, rX13_lawOdds_48, rX13_lawOdds_50, rX13_lawOdds_51, rX13_lawOdds_53, rX13_lawOdds_56, rX13_lawOdds_57, rX13_lawOdds_60, rX13_lawOdds_61, rX13_lawOdds_62, rX13_lawOdds_64, rX13_lawOdds_67, gS_355, g0, c1, c2, cl, cin, c0, cr, if_pos hx, if_pos h1, if_neg h1u, ne_eq, not_false_eq_true, not_true_eq_false, true_and, and_true, and_self, true_imp_iff, false_imp_iff, imp_self, Bool.not_false, Bool.not_true, reduceCtorEq, ab_isJ, ab_psh, ab_cats, Bool.false_eq_true, if_true, if_false, ab_shf, ab_shw, Int.le_refl, Classical.not_not, Int.zero_add, forall_const, ↓ab_itT, ↓ab_itF, ab_anT, ab_w32_id, ab_rdf_ne, ab_rdw_ne, ab_rdw_eq, ab_rdf_in, ab_td2, ab_tm2, ab_ifF]
        exact hQ _ (ac_end1 ac_mq0).1 (ac_end1 ac_mq0).2.1 (ac_end1 ac_mq0).2.2
    · have eT : ac_fT κ law b p q = 1 := by (unfold ac_fT ac_pT; rw [if_pos hx, if_neg (c := ac_isB κ b ∧ ac_isU κ p q) (fun w => h1 w.1)])
      rw [eT, if_neg (by decide)] at hQ
      simp (disch := omega) only [do_X13_lawOdds, rX13_lawOdds_0, rX13_lawOdds_1, rX13_lawOdds_2, rX13_lawOdds_5, rX13_lawOdds_6, rX13_lawOdds_7, rX13_lawOdds_8, rX13_lawOdds_11, rX13_lawOdds_14, rX13_lawOdds_15, rX13_lawOdds_16, rX13_lawOdds_19, rX13_lawOdds_22, rX13_lawOdds_23, rX13_lawOdds_24, rX13_lawOdds_26, rX13_lawOdds_29, rX13_lawOdds_32, rX13_lawOdds_33, rX13_lawOdds_34, rX13_lawOdds_37, rX13_lawOdds_38, rX13_lawOdds_39, rX13_lawOdds_40, rX13_lawOdds_41, rX13_lawOdds_42, rX13_lawOdds_43, rX13_lawOdds_45, rX13_lawOdds_48, rX13_lawOdds_50, rX13_lawOdds_51, rX13_lawOdds_53, rX13_lawOdds_56, rX13_lawOdds_57, rX13_lawOdds_60, rX13_lawOdds_61, rX13_lawOdds_62, rX13_lawOdds_64, rX13_lawOdds_67, gS_355, g0, c1, c2, cl, cin, c0, cr, if_pos hx, if_neg h1, ne_eq, not_false_eq_true, not_true_eq_false, true_and, and_true, and_self, true_imp_iff, false_imp_iff, imp_self, Bool.not_false, Bool.not_true, reduceCtorEq, ab_isJ, ab_psh, ab_cats, Bool.false_eq_true, if_true, if_false, ab_shf, ab_shw, Int.le_refl, Classical.not_not, Int.zero_add, forall_const, ↓ab_itT, ↓ab_itF, ab_anT, ab_w32_id, ab_rdf_ne, ab_rdw_ne, ab_rdw_eq, ab_rdf_in, ab_td2, ab_tm2, ab_ifF]
      exact hQ _ (ac_end1 ac_mq0).1 (ac_end1 ac_mq0).2.1 (ac_end1 ac_mq0).2.2
  · have eT : ac_fT κ law b p q = 1 := by (unfold ac_fT; rw [if_neg hx])
    rw [eT, if_neg (by decide)] at hQ
    simp (disch := omega) only [do_X13_lawOdds, rX13_lawOdds_0, rX13_lawOdds_1, rX13_lawOdds_2, rX13_lawOdds_5, rX13_lawOdds_6, rX13_lawOdds_7, rX13_lawOdds_8, rX13_lawOdds_11, rX13_lawOdds_14, rX13_lawOdds_15, rX13_lawOdds_16, rX13_lawOdds_19, rX13_lawOdds_22, rX13_lawOdds_23, rX13_lawOdds_24, rX13_lawOdds_26, rX13_lawOdds_29, rX13_lawOdds_32, rX13_lawOdds_33, rX13_lawOdds_34, rX13_lawOdds_37, rX13_lawOdds_38, rX13_lawOdds_39, rX13_lawOdds_40, rX13_lawOdds_41, rX13_lawOdds_42, rX13_lawOdds_43, rX13_lawOdds_45, rX13_lawOdds_48, rX13_lawOdds_50, rX13_lawOdds_51, rX13_lawOdds_53, rX13_lawOdds_56, rX13_lawOdds_57, rX13_lawOdds_60, rX13_lawOdds_61, rX13_lawOdds_62, rX13_lawOdds_64, rX13_lawOdds_67, gS_355, g0, c1, c2, cl, cin, c0, cr, if_neg hx, ne_eq, not_false_eq_true, not_true_eq_false, true_and, and_true, and_self, true_imp_iff, false_imp_iff, imp_self, Bool.not_false, Bool.not_true, reduceCtorEq, ab_isJ, ab_psh, ab_cats, Bool.false_eq_true, if_true, if_false, ab_shf, ab_shw, Int.le_refl, Classical.not_not, Int.zero_add, forall_const, ↓ab_itT, ↓ab_itF, ab_anT, ab_w32_id, ab_rdf_ne, ab_rdw_ne, ab_rdw_eq, ab_rdf_in, ab_td2, ab_tm2, ab_ifF]
    exact hQ _ (ac_end1 ac_mq0).1 (ac_end1 ac_mq0).2.1 (ac_end1 ac_mq0).2.2
def ac_ff (κ : ac_K) (kd d b p q l : Int) : Int := ac_abs (ac_tw κ kd d l b p q - 100 * (ac_n κ b 0 + ac_n κ b 1))
theorem mq_fromHalf (h : ac_MI σ M κ) (hv : ac_MV σ κ v) (hb : ac_isB κ b) (hp : ac_isP κ p) (hq : ac_isP κ q) (hl : 0 ≤ law ∧ law ≤ 3) (hQ : ∀ τ, ab_Same ac_PL σ τ → Q (some (ab_J (ac_ff κ (v b) (v (5 + b)) b p q law))) τ) : ab_Do X 245 [ab_R 355, ab_I law, ab_I b, ab_I p, ab_I q] σ Q := by
  have g := h.1
  simp (disch := omega) only [do_X13_fromHalf, rX13_fromHalf_0, rX13_fromHalf_1, rX13_fromHalf_2, rX13_fromHalf_3, rX13_fromHalf_4, rX13_fromHalf_6, gS_355, g, ne_eq, not_false_eq_true, not_true_eq_false, true_and, and_true, and_self, true_imp_iff, false_imp_iff, imp_self, Bool.not_false, Bool.not_true, reduceCtorEq, ab_isJ, ab_psh, ab_cats, Bool.false_eq_true, if_true, if_false, ab_shf, ab_shw, Int.le_refl, Classical.not_not, Int.zero_add, forall_const, ↓ab_itT, ↓ab_itF, ab_anT, ab_w32_id, ab_rdf_ne, ab_rdw_ne, ab_rdw_eq, ab_rdf_in, ab_td2, ab_tm2]
  refine mq_byLaw h hv hb hp hq hl (fun τ hs e21 => ?_)
  have hI := h.same (hs.mono (fun _ _ => ac_PL_PM))
  have gT := hI.1
  have c7 := fun Q' => mq_allPlaces (X := X) (Q := Q') hI hb e21
  have ob := ac_tw_b (kd := v b) (d := v (5 + b)) (law := law) (p := p) (q := q) h.2.2.2.2 hb
  have nn0 := ac_n_b h.2.2.2.2 hb (Or.inl rfl)
  have nn1 := ac_n_b h.2.2.2.2 hb (Or.inr rfl)
  have nn : 0 ≤ ac_n κ b 0 + ac_n κ b 1 ∧ ac_n κ b 0 + ac_n κ b 1 ≤ 12 := by omega
  have hq' := hQ τ hs
  unfold ac_ff ac_abs at hq'
  generalize ac_tw κ (v b) (v (5 + b)) law b p q = x at *
  generalize ac_n κ b 0 + ac_n κ b 1 = n at *
  by_cases w : 0 ≤ x - 100 * n
  · rw [if_pos w] at hq'
    have lc : 0 ≤ (if 0 < x - 100 * n then (1 : Int) else if x - 100 * n = 0 then 0 else -1) := by
      split
      · omega
      · rw [if_pos (by omega)]; omega
    simp (disch := omega) only [rX13_fromHalf_9, rX13_fromHalf_12, rX13_fromHalf_13, rX13_fromHalf_16, rX13_fromHalf_17, rX13_fromHalf_18, rX13_fromHalf_19, rX13_fromHalf_21, rX13_fromHalf_23, rX13_fromHalf_24, rX13_fromHalf_25, rX13_fromHalf_28, rX13_fromHalf_30, rX13_fromHalf_31, rX13_fromHalf_34, rX13_fromHalf_36, gS_355, gT, c7, ne_eq, not_false_eq_true, not_true_eq_false, true_and, and_true, and_self, true_imp_iff, false_imp_iff, imp_self, Bool.not_false, Bool.not_true, reduceCtorEq, ab_isJ, ab_psh, ab_cats, Bool.false_eq_true, if_true, if_false, ab_shf, ab_shw, Int.le_refl, Classical.not_not, Int.zero_add, forall_const, ↓ab_itT, ↓ab_itF, ab_anT, ab_w32_id, ab_rdf_ne, ab_rdw_ne, ab_rdw_eq, ab_rdf_in, ab_td2, ab_tm2, ab_w64_id]
    all_goals exact hq'
  · rw [if_neg w] at hq'
    have e : -(x - 100 * n) = 0 - (x - 100 * n) := by omega
    simp (disch := omega) only [rX13_fromHalf_9, rX13_fromHalf_12, rX13_fromHalf_13, rX13_fromHalf_16, rX13_fromHalf_17, rX13_fromHalf_18, rX13_fromHalf_19, rX13_fromHalf_21, rX13_fromHalf_23, rX13_fromHalf_24, rX13_fromHalf_25, rX13_fromHalf_28, rX13_fromHalf_30, rX13_fromHalf_31, rX13_fromHalf_34, rX13_fromHalf_36, gS_355, gT, c7, ne_eq, not_false_eq_true, not_true_eq_false, true_and, and_true, and_self, true_imp_iff, false_imp_iff, imp_self, Bool.not_false, Bool.not_true, reduceCtorEq, ab_isJ, ab_psh, ab_cats, Bool.false_eq_true, if_true, if_false, ab_shf, ab_shw, Int.le_refl, Classical.not_not, Int.zero_add, forall_const, ↓ab_itT, ↓ab_itF, ab_anT, ab_w32_id, ab_rdf_ne, ab_rdw_ne, ab_rdw_eq, ab_rdf_in, ab_td2, ab_tm2, ab_w64_id, ab_ifF, e]
    all_goals exact hq'
theorem mq_fairest_l (h : ac_MI σ M κ) (hv : ac_MV σ κ v) (hb : ac_isB κ b) (hp : ac_isP κ p) (hq : ac_isP κ q) (fin : Int) (hQ : ∀ τ, ab_Same ac_PM σ τ → ab_rd τ 355 1 = 0 → ab_rd τ 355 2 = -1 → Q (some (ab_I fin)) τ) : ∀ (n : Nat) (law best : Int) (τ : ab_S), ab_Same ac_PM σ τ → 1 ≤ law → law + n = 4 → 0 ≤ best ∧ best ≤ 3 → ab_it (fun l b' => if ac_ff κ (v b) (v (5 + b)) b p q l < ac_ff κ (v b) (v (5 + b)) b p q b' then l else b') n law best = fin → ab_Run X 246 34 (10, 0, 0) [ab_R 355, ab_I b, ab_I p, ab_I q, ab_I best, ab_I law] [] τ Q := by
  intro n
  induction n with
  | zero =>
    intro law best τ hs h1 hn hb' hf
    have g := (h.same hs).1
    have c6 := fun x Q' => sp_good (X := X) (Q := Q') (v := x) g
    rw [ab_it] at hf
    subst hf
    simp (disch := omega) only [rX13_fairest_34, rX13_fairest_36, rX13_fairest_37, rX13_fairest_72, rX13_fairest_73, rX13_fairest_75, rX13_fairest_78, c6, gS_355, g, ne_eq, not_false_eq_true, not_true_eq_false, true_and, and_true, and_self, true_imp_iff, false_imp_iff, imp_self, Bool.not_false, Bool.not_true, reduceCtorEq, ab_isJ, ab_psh, ab_cats, Bool.false_eq_true, if_true, if_false, ab_shf, ab_shw, Int.le_refl, Classical.not_not, Int.zero_add, forall_const, ↓ab_itT, ↓ab_itF, ab_anT, ab_w32_id, ab_rdf_ne, ab_rdw_ne, ab_rdw_eq, ab_rdf_in, ab_td2, ab_tm2]
    exact hQ _ (ac_end1 hs).1 (ac_end1 hs).2.1 (ac_end1 hs).2.2
  | succ n ih =>
    intro law best τ hs h1 hn hb' hf
    have hI := h.same hs
    have g := hI.1
    rw [ab_it] at hf
    rw [rX13_fairest_34]
    simp (disch := omega) only [rX13_fairest_36, rX13_fairest_37, rX13_fairest_40, rX13_fairest_41, rX13_fairest_43, rX13_fairest_44, rX13_fairest_45, rX13_fairest_46, gS_355, g, ne_eq, not_false_eq_true, not_true_eq_false, true_and, and_true, and_self, true_imp_iff, false_imp_iff, imp_self, Bool.not_false, Bool.not_true, reduceCtorEq, ab_isJ, ab_psh, ab_cats, Bool.false_eq_true, if_true, if_false, ab_shf, ab_shw, Int.le_refl, Classical.not_not, Int.zero_add, forall_const, ↓ab_itT, ↓ab_itF, ab_anT, ab_w32_id, ab_rdf_ne, ab_rdw_ne, ab_rdw_eq, ab_rdf_in, ab_td2, ab_tm2]
    refine mq_fromHalf hI (hv.same hs) hb hp hq (by omega) (fun τ1 hs1 => ?_)
    have hs1' := hs.trans (hs1.mono (fun _ _ => ac_PL_PM))
    have hI1 := h.same hs1'
    have g1 := hI1.1
    simp (disch := omega) only [rX13_fairest_49, rX13_fairest_50, rX13_fairest_52, rX13_fairest_53, rX13_fairest_54, rX13_fairest_55, gS_355, g1, ne_eq, not_false_eq_true, not_true_eq_false, true_and, and_true, and_self, true_imp_iff, false_imp_iff, imp_self, Bool.not_false, Bool.not_true, reduceCtorEq, ab_isJ, ab_psh, ab_cats, Bool.false_eq_true, if_true, if_false, ab_shf, ab_shw, Int.le_refl, Classical.not_not, Int.zero_add, forall_const, ↓ab_itT, ↓ab_itF, ab_anT, ab_w32_id, ab_rdf_ne, ab_rdw_ne, ab_rdw_eq, ab_rdf_in, ab_td2, ab_tm2]
    refine mq_fromHalf hI1 (hv.same hs1') hb hp hq (by omega) (fun τ2 hs2 => ?_)
    have hs2' := hs1'.trans (hs2.mono (fun _ _ => ac_PL_PM))
    by_cases w : ac_ff κ (v b) (v (5 + b)) b p q law < ac_ff κ (v b) (v (5 + b)) b p q best
    · rw [if_pos w] at hf
      have key := ih (law + 1) law τ2 hs2' (by omega) (by omega) (by omega) hf
      simp (disch := omega) only [rX13_fairest_58, rX13_fairest_59, rX13_fairest_62, rX13_fairest_64, rX13_fairest_66, rX13_fairest_69, ne_eq, not_false_eq_true, not_true_eq_false, true_and, and_true, and_self, true_imp_iff, false_imp_iff, imp_self, Bool.not_false, Bool.not_true, reduceCtorEq, ab_isJ, ab_psh, ab_cats, Bool.false_eq_true, if_true, if_false, ab_shf, ab_shw, Int.le_refl, Classical.not_not, Int.zero_add, forall_const, ↓ab_itT, ↓ab_itF, ab_anT, ab_w32_id, ab_rdf_ne, ab_rdw_ne, ab_rdw_eq, ab_rdf_in, ab_td2, ab_tm2, ab_ifF]
      all_goals exact key
    · rw [if_neg w] at hf
      have key := ih (law + 1) best τ2 hs2' (by omega) (by omega) (by omega) hf
      have lc : 0 ≤ (if ac_ff κ (v b) (v (5 + b)) b p q best < ac_ff κ (v b) (v (5 + b)) b p q law then (1 : Int) else if ac_ff κ (v b) (v (5 + b)) b p q law = ac_ff κ (v b) (v (5 + b)) b p q best then 0 else -1) := by
        split
        · omega
        · rw [if_pos (by omega)]; omega
      simp (disch := omega) only [rX13_fairest_58, rX13_fairest_59, rX13_fairest_62, rX13_fairest_64, rX13_fairest_66, rX13_fairest_69, ne_eq, not_false_eq_true, not_true_eq_false, true_and, and_true, and_self, true_imp_iff, false_imp_iff, imp_self, Bool.not_false, Bool.not_true, reduceCtorEq, ab_isJ, ab_psh, ab_cats, Bool.false_eq_true, if_true, if_false, ab_shf, ab_shw, Int.le_refl, Classical.not_not, Int.zero_add, forall_const, ↓ab_itT, ↓ab_itF, ab_anT, ab_w32_id, ab_rdf_ne, ab_rdw_ne, ab_rdw_eq, ab_rdf_in, ab_td2, ab_tm2]
      all_goals exact key
theorem mq_fairest (h : ac_MN σ κ) (hv : ac_MV σ κ v) (hQ : ∀ τ, ab_Same ac_PM σ τ → ab_rd τ 355 1 = ac_pT κ b p q → ab_rd τ 355 2 = -1 → Q (some (ab_I (if ac_pT κ b p q = 0 then ac_fr (fun l => ac_abs (ac_tw κ (v b) (v (5 + b)) l b p q - 100 * (ac_n κ b 0 + ac_n κ b 1))) else -1))) τ) : ab_Do X 246 [ab_R 355, ab_I b, ab_I p, ab_I q] σ Q := by
  have h' := h.same ac_mq0
  have g0 := h.1
  have g := h'.1
  have c1 := fun b Q' => mq_isBone (X := X) (Q := Q') (b := b) h'
  have c2 := fun p q Q' => mq_isPair (X := X) (Q := Q') (p := p) (q := q) h'
  have c1p := fun b Q' => mq_isPerson (X := X) (Q := Q') (b := b) h'
  have cl := fun b arm k Q' => mq_isPlace (X := X) (Q := Q') (b := b) (arm := arm) (k := k) h'
  have cin := fun x lo hi Q' => mq_in (X := X) (σ := ab_wr σ 355 0 0) (Q := Q') (x := x) (lo := lo) (hi := hi)
  have cr := fun v Q' => sp_refused (X := X) (Q := Q') (v := v) g
  have c0 := fun b hp hq mv Q' => mq_rp0 (X := X) (σ := ab_wr σ 355 0 0) (Q := Q') (b := b) (hp := hp) (hq := hq) (mv := mv)
  by_cases h1 : ac_isB κ b
  · by_cases h1u : ac_isU κ p q
    · have eP : ac_pT κ b p q = 0 := if_pos ⟨h1, h1u⟩
      obtain ⟨M, hm⟩ := h.mb h1
      rw [eP, if_pos rfl] at hQ
      simp (disch := omega) only [do_X13_fairest, rX13_fairest_0, rX13_fairest_1, rX13_fairest_2, rX13_fairest_5, rX13_fairest_6, rX13_fairest_7, rX13_fairest_10, rX13_fairest_13, rX13_fairest_14, rX13_fairest_15, rX13_fairest_16, rX13_fairest_19, rX13_fairest_22, rX13_fairest_23, rX13_fairest_24, rX13_fairest_27, rX13_fairest_28, rX13_fairest_29, rX13_fairest_31, rX13_fairest_32, gS_355, g0, c1, c2, if_pos h1, if_pos h1u, ne_eq, not_false_eq_true, not_true_eq_false, true_and, and_true, and_self, true_imp_iff, false_imp_iff, imp_self, Bool.not_false, Bool.not_true, reduceCtorEq, ab_isJ, ab_psh, ab_cats, Bool.false_eq_true, if_true, if_false, ab_shf, ab_shw, Int.le_refl, Classical.not_not, Int.zero_add, forall_const, ↓ab_itT, ↓ab_itF, ab_anT, ab_w32_id, ab_rdf_ne, ab_rdw_ne, ab_rdw_eq, ab_rdf_in, ab_td2, ab_tm2]
      exact mq_fairest_l hm hv h1 h1u.1 h1u.2.1 _ hQ 3 1 0 _ ac_mq0 (by omega) (by omega) (by omega) rfl
    · have eT : ac_pT κ b p q = 1 := by (unfold ac_pT; rw [if_neg (fun w => h1u w.2)])
      rw [eT, if_neg (by decide)] at hQ
      simp (disch := omega) only [do_X13_fairest, rX13_fairest_0, rX13_fairest_1, rX13_fairest_2, rX13_fairest_5, rX13_fairest_6, rX13_fairest_7, rX13_fairest_10, rX13_fairest_13, rX13_fairest_14, rX13_fairest_15, rX13_fairest_16, rX13_fairest_19, rX13_fairest_22, rX13_fairest_23, rX13_fairest_24, rX13_fairest_27, rX13_fairest_28, rX13_fairest_29, rX13_fairest_31, rX13_fairest_32, rX13_fairest_34, rX13_fairest_36, rX13_fairest_37, rX13_fairest_40, rX13_fairest_41, rX13_fairest_43, rX13_fairest_44, rX13_fairest_45, rX13_fairest_46, rX13_fairest_49, rX13_fairest_50, rX13_fairest_52, rX13_fairest_53, rX13_fairest_54, rX13_fairest_55, rX13_fairest_58, rX13_fairest_59, rX13_fairest_62, rX13_fairest_64, rX13_fairest_66, rX13_fairest_69, rX13_fairest_72, rX13_fairest_73, rX13_fairest_75, rX13_fairest_78, gS_355, g0, c1, c2, cl, cin, c0, cr, if_pos h1, if_neg h1u, ne_eq, not_false_eq_true, not_true_eq_false, true_and, and_true, and_self, true_imp_iff, false_imp_iff, imp_self, Bool.not_false, Bool.not_true, reduceCtorEq, ab_isJ, ab_psh, ab_cats, Bool.false_eq_true, if_true, if_false, ab_shf, ab_shw, Int.le_refl, Classical.not_not, Int.zero_add, forall_const, ↓ab_itT, ↓ab_itF, ab_anT, ab_w32_id, ab_rdf_ne, ab_rdw_ne, ab_rdw_eq, ab_rdf_in, ab_td2, ab_tm2, ab_ifF]
      exact hQ _ (ac_end1 ac_mq0).1 (ac_end1 ac_mq0).2.1 (ac_end1 ac_mq0).2.2
  · have eT : ac_pT κ b p q = 1 := by (unfold ac_pT; rw [if_neg (fun w => h1 w.1)])
    rw [eT, if_neg (by decide)] at hQ
    simp (disch := omega) only [do_X13_fairest, rX13_fairest_0, rX13_fairest_1, rX13_fairest_2, rX13_fairest_5, rX13_fairest_6, rX13_fairest_7, rX13_fairest_10, rX13_fairest_13, rX13_fairest_14, rX13_fairest_15, rX13_fairest_16, rX13_fairest_19, rX13_fairest_22, rX13_fairest_23, rX13_fairest_24, rX13_fairest_27, rX13_fairest_28, rX13_fairest_29, rX13_fairest_31, rX13_fairest_32, rX13_fairest_34, rX13_fairest_36, rX13_fairest_37, rX13_fairest_40, rX13_fairest_41, rX13_fairest_43, rX13_fairest_44, rX13_fairest_45, rX13_fairest_46, rX13_fairest_49, rX13_fairest_50, rX13_fairest_52, rX13_fairest_53, rX13_fairest_54, rX13_fairest_55, rX13_fairest_58, rX13_fairest_59, rX13_fairest_62, rX13_fairest_64, rX13_fairest_66, rX13_fairest_69, rX13_fairest_72, rX13_fairest_73, rX13_fairest_75, rX13_fairest_78, gS_355, g0, c1, c2, cl, cin, c0, cr, if_neg h1, ne_eq, not_false_eq_true, not_true_eq_false, true_and, and_true, and_self, true_imp_iff, false_imp_iff, imp_self, Bool.not_false, Bool.not_true, reduceCtorEq, ab_isJ, ab_psh, ab_cats, Bool.false_eq_true, if_true, if_false, ab_shf, ab_shw, Int.le_refl, Classical.not_not, Int.zero_add, forall_const, ↓ab_itT, ↓ab_itF, ab_anT, ab_w32_id, ab_rdf_ne, ab_rdw_ne, ab_rdw_eq, ab_rdf_in, ab_td2, ab_tm2, ab_ifF]
    exact hQ _ (ac_end1 ac_mq0).1 (ac_end1 ac_mq0).2.1 (ac_end1 ac_mq0).2.2
end
