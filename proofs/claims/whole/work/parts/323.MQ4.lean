/-! THE REFERENCE: laying a pull, flaws, odds -/
theorem ac_z {τ : ab_S} {a n i v : Int} (h : ab_sh τ a = (24, n)) (hi : 0 ≤ i ∧ i < n) (hv : v = 0 ∨ v = 1) : (ab_sh τ a).1 = 24 ∧ 0 ≤ i ∧ i < (ab_sh τ a).2 ∧ (v = 0 ∨ v = 1) := by rw [h]; exact ⟨rfl, hi.1, hi.2, hv⟩
section
variable {X : ab_X} {σ τ : ab_S} {Q : Option ab_V → ab_S → Prop} {M : Int} {κ : ac_K} {v : Int → Int} {kd d b p hp q hq mv fa ft arm k : Int}
theorem mq_isChild (h : ac_MI σ M κ) (hp : ac_isP κ p) : ab_Do X 201 [ab_R 355, ab_I p] σ Q ↔ Q (some (ab_I (if κ 16 p = 2 then 1 else 0))) σ := by
  obtain ⟨hg, h3, hG, hM, hK⟩ := h
  have z := hG.1
  have n6 := hK.2.1.2.1.2
  by_cases c : κ 16 p = 2
  · rw [if_pos c]
    simp (disch := omega) only [do_X13_isChild, rX13_isChild_0, rX13_isChild_1, rX13_isChild_4, rX13_isChild_7, rX13_isChild_8, rX13_isChild_9, rX13_isChild_10, rX13_isChild_13, rX13_isChild_14, rX13_isChild_17, rX13_isChild_18, gS_355, hg, h3, mS, mP_16, mS_16, kM_16, ne_eq, not_false_eq_true, not_true_eq_false, true_and, and_true, and_self, true_imp_iff, false_imp_iff, imp_self, Bool.not_false, Bool.not_true, reduceCtorEq, ab_isJ, ab_psh, ab_cats, Bool.false_eq_true, if_true, if_false, ab_shf, ab_shw, Int.le_refl, Classical.not_not, Int.zero_add, forall_const, ↓ab_itT, ↓ab_itF, ab_anT, ab_w32_id, ab_rdf_ne, ab_rdw_ne, ab_rdw_eq, ab_rdf_in, ab_td2, ab_tm2, or_true]
  · rw [if_neg c]
    simp (disch := omega) only [do_X13_isChild, rX13_isChild_0, rX13_isChild_1, rX13_isChild_4, rX13_isChild_7, rX13_isChild_8, rX13_isChild_9, rX13_isChild_10, rX13_isChild_13, rX13_isChild_14, rX13_isChild_17, rX13_isChild_18, gS_355, hg, h3, mS, mP_16, mS_16, kM_16, ne_eq, not_false_eq_true, not_true_eq_false, true_and, and_true, and_self, true_imp_iff, false_imp_iff, imp_self, Bool.not_false, Bool.not_true, reduceCtorEq, ab_isJ, ab_psh, ab_cats, Bool.false_eq_true, if_true, if_false, ab_shf, ab_shw, Int.le_refl, Classical.not_not, Int.zero_add, forall_const, ↓ab_itT, ↓ab_itF, ab_anT, ab_w32_id, ab_rdf_ne, ab_rdw_ne, ab_rdw_eq, ab_rdf_in, ab_td2, ab_tm2, true_or]
theorem mq_holds (h : ac_MI σ M κ) (hb : ac_isB κ b) (hp : ac_isP κ p) (ha : arm = 0 ∨ arm = 1) : ab_Do X 156 [ab_R M, ab_I p, ab_I b, ab_I arm] σ Q ↔ Q (some (ab_I (ac_h κ p b arm))) σ := by
  have c0 := fun Q' => mq_many (X := X) (Q := Q') h hb ha
  obtain ⟨hg, h3, hG, hM, hK⟩ := h
  have z := hG.1
  have n5 := hK.2.1.1.2
  have n6 := hK.2.1.2.1.2
  unfold ac_h
  by_cases c : κ 14 (2 * b + arm) < κ 18 p
  · rw [if_pos c]
    simp (disch := omega) only [do_X12_holds, rX12_holds_0, rX12_holds_1, rX12_holds_4, rX12_holds_5, rX12_holds_6, rX12_holds_7, rX12_holds_8, rX12_holds_9, rX12_holds_12, rX12_holds_15, rX12_holds_16, rX12_holds_19, rX12_holds_20, rX12_holds_21, rX12_holds_24, rX12_holds_25, rX12_holds_26, rX12_holds_27, rX12_holds_30, mS, mP_18, mS_18, kM_18, c0, ne_eq, not_false_eq_true, not_true_eq_false, true_and, and_true, and_self, true_imp_iff, false_imp_iff, imp_self, Bool.not_false, Bool.not_true, reduceCtorEq, ab_isJ, ab_psh, ab_cats, Bool.false_eq_true, if_true, if_false, ab_shf, ab_shw, Int.le_refl, Classical.not_not, Int.zero_add, forall_const, ↓ab_itT, ↓ab_itF, ab_anT, ab_w32_id, ab_rdf_ne, ab_rdw_ne, ab_rdw_eq, ab_rdf_in, ab_td2, ab_tm2]
  · rw [if_neg c]
    by_cases c2 : κ 14 (2 * b + arm) = κ 18 p
    · rw [← c2]
      simp (disch := omega) only [do_X12_holds, rX12_holds_0, rX12_holds_1, rX12_holds_4, rX12_holds_5, rX12_holds_6, rX12_holds_7, rX12_holds_8, rX12_holds_9, rX12_holds_12, rX12_holds_15, rX12_holds_16, rX12_holds_19, rX12_holds_20, rX12_holds_21, rX12_holds_24, rX12_holds_25, rX12_holds_26, rX12_holds_27, rX12_holds_30, mS, mP_18, mS_18, kM_18, c0, ne_eq, not_false_eq_true, not_true_eq_false, true_and, and_true, and_self, true_imp_iff, false_imp_iff, imp_self, Bool.not_false, Bool.not_true, reduceCtorEq, ab_isJ, ab_psh, ab_cats, Bool.false_eq_true, if_true, if_false, ab_shf, ab_shw, Int.le_refl, Classical.not_not, Int.zero_add, forall_const, ↓ab_itT, ↓ab_itF, ab_anT, ab_w32_id, ab_rdf_ne, ab_rdw_ne, ab_rdw_eq, ab_rdf_in, ab_td2, ab_tm2]
    · simp (disch := omega) only [do_X12_holds, rX12_holds_0, rX12_holds_1, rX12_holds_4, rX12_holds_5, rX12_holds_6, rX12_holds_7, rX12_holds_8, rX12_holds_9, rX12_holds_12, rX12_holds_15, rX12_holds_16, rX12_holds_19, rX12_holds_20, rX12_holds_21, rX12_holds_24, rX12_holds_25, rX12_holds_26, rX12_holds_27, rX12_holds_30, mS, mP_18, mS_18, kM_18, c0, ne_eq, not_false_eq_true, not_true_eq_false, true_and, and_true, and_self, true_imp_iff, false_imp_iff, imp_self, Bool.not_false, Bool.not_true, reduceCtorEq, ab_isJ, ab_psh, ab_cats, Bool.false_eq_true, if_true, if_false, ab_shf, ab_shw, Int.le_refl, Classical.not_not, Int.zero_add, forall_const, ↓ab_itT, ↓ab_itF, ab_anT, ab_w32_id, ab_rdf_ne, ab_rdw_ne, ab_rdw_eq, ab_rdf_in, ab_td2, ab_tm2]
/-- a pull laid -/
def ac_ly (σ : ab_S) (κ : ac_K) (d b p hp q hq mv : Int) : ab_S := ab_wr (ab_wr (ab_wr (ab_wr (ab_wr (ab_wr (ab_wr (ab_wr (ab_wr σ 355 21 b) 355 22 d) 360 0 p) 360 1 q) 361 0 hp) 361 1 hq) 362 0 (ac_mm0 κ p (ac_m0 mv))) 362 1 (ac_mm0 κ q (ac_m1 mv))) 355 23 (-1)
def ac_PL : Int → Int → Prop := fun a f => (a = 355 ∧ 21 ≤ f ∧ f ≤ 26) ∨ (360 ≤ a ∧ a ≤ 362)
theorem ac_PL_PM {a f : Int} (h : ac_PL a f) : ac_PM a f := by unfold ac_PL at h; unfold ac_PM; omega
theorem ac_ly_same : ab_Same ac_PL σ (ac_ly σ κ d b p hp q hq mv) := by
  unfold ac_ly
  exact ((((((((ab_Same.refl.wr (by unfold ac_PL; omega)).wr (by unfold ac_PL; omega)).wr (by unfold ac_PL; omega)).wr (by unfold ac_PL; omega)).wr (by unfold ac_PL; omega)).wr (by unfold ac_PL; omega)).wr (by unfold ac_PL; omega)).wr (by unfold ac_PL; omega)).wr (by unfold ac_PL; omega)
theorem ac_ly_ML : ac_ML (ac_ly σ κ d b p hp q hq mv) κ d b p hp q hq mv := by
  unfold ac_ML ac_ly
  refine ⟨?_, ?_, ?_, ?_, ?_, ?_, ?_, ?_⟩
  all_goals simp (disch := omega) only [ab_rdw_ne, ab_rdw_eq]
theorem ac_ly_fa : ab_rd (ac_ly σ κ d b p hp q hq mv) 355 23 = -1 := by
  unfold ac_ly
  rw [ab_rdw_eq]
theorem mq_lays (h : ac_MI σ M κ) (hd : ab_rd σ 357 (5 + b) = d) (hb : ac_isB κ b) (hpp : ac_isP κ p) (hqq : ac_isP κ q) : ab_Do X 202 [ab_R 355, ab_I b, ab_I p, ab_I hp, ab_I q, ab_I hq, ab_I mv] σ Q ↔ Q none (ac_ly σ κ d b p hp q hq mv) := by
  have n5 := h.2.2.2.2.2.1.1.2
  have n6 := h.2.2.2.2.2.1.2.1.2
  have hg := h.1
  have hz := gS_362 hg
  have hpm : ∀ τ, ab_Same ac_PL σ τ → ac_MI τ M κ := fun τ hs => h.same (hs.mono (fun _ _ => ac_PL_PM))
  have s6 : ab_Same ac_PL σ (ab_wr (ab_wr (ab_wr (ab_wr (ab_wr (ab_wr σ 355 21 b) 355 22 d) 360 0 p) 360 1 q) 361 0 hp) 361 1 hq) := (((((ab_Same.refl.wr (by unfold ac_PL; omega)).wr (by unfold ac_PL; omega)).wr (by unfold ac_PL; omega)).wr (by unfold ac_PL; omega)).wr (by unfold ac_PL; omega)).wr (by unfold ac_PL; omega)
  have c1 := fun Q' => mq_isChild (X := X) (Q := Q') (p := p) (hpm _ s6) hpp
  have c2 := fun x Q' => mq_isChild (X := X) (Q := Q') (p := q) (hpm _ (s6.wr (a := 362) (k := 0) (v := x) (by unfold ac_PL; omega))) hqq
  unfold ac_ly
  have e0 : ac_mm0 κ p (ac_m0 mv) = if (mv = 0 ∨ mv = 3) ∨ κ 16 p = 2 then 1 else 0 := by
    unfold ac_mm0 ac_m0
    by_cases w : mv = 0 ∨ mv = 3
    · rw [if_pos w, if_pos (Or.inl rfl), if_pos (Or.inl w)]
    · rw [if_neg w]
      by_cases w2 : κ 16 p = 2
      · rw [if_pos (Or.inr w2), if_pos (Or.inr w2)]
      · rw [if_neg (by omega), if_neg (by omega)]
  have e1 : ac_mm0 κ q (ac_m1 mv) = if (mv = 1 ∨ mv = 3) ∨ κ 16 q = 2 then 1 else 0 := by
    unfold ac_mm0 ac_m1
    by_cases w : mv = 1 ∨ mv = 3
    · rw [if_pos w, if_pos (Or.inl rfl), if_pos (Or.inl w)]
    · rw [if_neg w]
      by_cases w2 : κ 16 q = 2
      · rw [if_pos (Or.inr w2), if_pos (Or.inr w2)]
      · rw [if_neg (by omega), if_neg (by omega)]
  rw [e0, e1]
  clear e0 e1 hpm s6
  have key : ∀ x Q', (ab_Run X 202 77 (1, 0, 0) [ab_R 355, ab_I b, ab_I p, ab_I hp, ab_I q, ab_I hq, ab_I mv] [] (ab_wr (ab_wr (ab_wr (ab_wr (ab_wr (ab_wr (ab_wr σ 355 21 b) 355 22 d) 360 0 p) 360 1 q) 361 0 hp) 361 1 hq) 362 0 x) Q' ↔ Q' none (ab_wr (ab_wr (ab_wr (ab_wr (ab_wr (ab_wr (ab_wr (ab_wr (ab_wr σ 355 21 b) 355 22 d) 360 0 p) 360 1 q) 361 0 hp) 361 1 hq) 362 0 x) 362 1 (if (mv = 1 ∨ mv = 3) ∨ κ 16 q = 2 then 1 else 0)) 355 23 (-1))) := by
    intro x Q'
    by_cases w : mv = 1 ∨ mv = 3
    · rw [if_pos (Or.inl w)]
      by_cases w1 : mv = 1
      · simp (disch := first | omega | (simp only [ab_shw, ab_shf, hz, true_and, and_true, or_true, true_or, and_self]; try omega)) only [rX13_lays_77, rX13_lays_78, rX13_lays_81, rX13_lays_82, rX13_lays_84, rX13_lays_85, rX13_lays_103, rX13_lays_104, rX13_lays_107, rX13_lays_108B, rX13_lays_108Z, rX13_lays_109, rX13_lays_110, rX13_lays_111, rX13_lays_114, rX13_lays_108Z, gS_355, gP_355_29, hg, ne_eq, not_false_eq_true, not_true_eq_false, true_and, and_true, and_self, true_imp_iff, false_imp_iff, imp_self, Bool.not_false, Bool.not_true, reduceCtorEq, ab_isJ, ab_psh, ab_cats, Bool.false_eq_true, if_true, if_false, ab_shf, ab_shw, Int.le_refl, Classical.not_not, Int.zero_add, forall_const, ↓ab_itT, ↓ab_itF, ab_anT, ab_w32_id, ab_rdf_ne, ab_rdw_ne, ab_rdw_eq, ab_rdf_in, ab_td2, ab_tm2]
      · simp (disch := first | omega | (simp only [ab_shw, ab_shf, hz, true_and, and_true, or_true, true_or, and_self]; try omega)) only [rX13_lays_77, rX13_lays_78, rX13_lays_81, rX13_lays_82, rX13_lays_84, rX13_lays_85, rX13_lays_88, rX13_lays_90, rX13_lays_91, rX13_lays_103, rX13_lays_104, rX13_lays_107, rX13_lays_108B, rX13_lays_108Z, rX13_lays_109, rX13_lays_110, rX13_lays_111, rX13_lays_114, rX13_lays_108Z, gS_355, gP_355_29, hg, ne_eq, not_false_eq_true, not_true_eq_false, true_and, and_true, and_self, true_imp_iff, false_imp_iff, imp_self, Bool.not_false, Bool.not_true, reduceCtorEq, ab_isJ, ab_psh, ab_cats, Bool.false_eq_true, if_true, if_false, ab_shf, ab_shw, Int.le_refl, Classical.not_not, Int.zero_add, forall_const, ↓ab_itT, ↓ab_itF, ab_anT, ab_w32_id, ab_rdf_ne, ab_rdw_ne, ab_rdw_eq, ab_rdf_in, ab_td2, ab_tm2]
    · by_cases w2 : κ 16 q = 2
      · rw [if_pos (Or.inr w2)]
        rw [if_pos w2] at c2
        simp (disch := first | omega | (simp only [ab_shw, ab_shf, hz, true_and, and_true, or_true, true_or, and_self]; try omega)) only [rX13_lays_77, rX13_lays_78, rX13_lays_81, rX13_lays_82, rX13_lays_84, rX13_lays_85, rX13_lays_88, rX13_lays_90, rX13_lays_91, rX13_lays_94, rX13_lays_95, rX13_lays_97, rX13_lays_100, rX13_lays_103, rX13_lays_104, rX13_lays_107, rX13_lays_108B, rX13_lays_108Z, rX13_lays_109, rX13_lays_110, rX13_lays_111, rX13_lays_114, rX13_lays_108Z, gS_355, gP_355_29, hg, c2, ne_eq, not_false_eq_true, not_true_eq_false, true_and, and_true, and_self, true_imp_iff, false_imp_iff, imp_self, Bool.not_false, Bool.not_true, reduceCtorEq, ab_isJ, ab_psh, ab_cats, Bool.false_eq_true, if_true, if_false, ab_shf, ab_shw, Int.le_refl, Classical.not_not, Int.zero_add, forall_const, ↓ab_itT, ↓ab_itF, ab_anT, ab_w32_id, ab_rdf_ne, ab_rdw_ne, ab_rdw_eq, ab_rdf_in, ab_td2, ab_tm2]
      · rw [if_neg (by omega)]
        rw [if_neg w2] at c2
        simp (disch := first | omega | (simp only [ab_shw, ab_shf, hz, true_and, and_true, or_true, true_or, and_self]; try omega)) only [rX13_lays_77, rX13_lays_78, rX13_lays_81, rX13_lays_82, rX13_lays_84, rX13_lays_85, rX13_lays_88, rX13_lays_90, rX13_lays_91, rX13_lays_94, rX13_lays_95, rX13_lays_97, rX13_lays_100, rX13_lays_103, rX13_lays_104, rX13_lays_107, rX13_lays_108B, rX13_lays_108Z, rX13_lays_109, rX13_lays_110, rX13_lays_111, rX13_lays_114, rX13_lays_108Z, gS_355, gP_355_29, hg, c2, ne_eq, not_false_eq_true, not_true_eq_false, true_and, and_true, and_self, true_imp_iff, false_imp_iff, imp_self, Bool.not_false, Bool.not_true, reduceCtorEq, ab_isJ, ab_psh, ab_cats, Bool.false_eq_true, if_true, if_false, ab_shf, ab_shw, Int.le_refl, Classical.not_not, Int.zero_add, forall_const, ↓ab_itT, ↓ab_itF, ab_anT, ab_w32_id, ab_rdf_ne, ab_rdw_ne, ab_rdw_eq, ab_rdf_in, ab_td2, ab_tm2]
  by_cases w : mv = 0 ∨ mv = 3
  · rw [if_pos (Or.inl w), ← key _ Q]
    by_cases w1 : mv = 0
    · simp (disch := first | omega | (simp only [ab_shw, ab_shf, hz, true_and, and_true, or_true, true_or, and_self]; try omega)) only [do_X13_lays, rX13_lays_0, rX13_lays_1, rX13_lays_2, rX13_lays_5, rX13_lays_6, rX13_lays_7, rX13_lays_10, rX13_lays_11, rX13_lays_12, rX13_lays_13, rX13_lays_14, rX13_lays_17, rX13_lays_18, rX13_lays_21, rX13_lays_22, rX13_lays_23, rX13_lays_24, rX13_lays_25, rX13_lays_28, rX13_lays_29, rX13_lays_31, rX13_lays_32, rX13_lays_33, rX13_lays_36, rX13_lays_37, rX13_lays_38, rX13_lays_39, rX13_lays_40, rX13_lays_43, rX13_lays_44, rX13_lays_46, rX13_lays_47, rX13_lays_48, rX13_lays_51, rX13_lays_52, rX13_lays_54, rX13_lays_57, rX13_lays_59, rX13_lays_60, rX13_lays_63, rX13_lays_64, rX13_lays_65, rX13_lays_68, rX13_lays_71, rX13_lays_72, rX13_lays_75, rX13_lays_76B, rX13_lays_76Z, rX13_lays_76Z, gS_355, gP_355_16, gP_355_27, gP_355_28, gP_355_29, gS_357, gS_360, gS_361, hg, hd, c1, ne_eq, not_false_eq_true, not_true_eq_false, true_and, and_true, and_self, true_imp_iff, false_imp_iff, imp_self, Bool.not_false, Bool.not_true, reduceCtorEq, ab_isJ, ab_psh, ab_cats, Bool.false_eq_true, if_true, if_false, ab_shf, ab_shw, Int.le_refl, Classical.not_not, Int.zero_add, forall_const, ↓ab_itT, ↓ab_itF, ab_anT, ab_w32_id, ab_rdf_ne, ab_rdw_ne, ab_rdw_eq, ab_rdf_in, ab_td2, ab_tm2]
    · simp (disch := first | omega | (simp only [ab_shw, ab_shf, hz, true_and, and_true, or_true, true_or, and_self]; try omega)) only [do_X13_lays, rX13_lays_0, rX13_lays_1, rX13_lays_2, rX13_lays_5, rX13_lays_6, rX13_lays_7, rX13_lays_10, rX13_lays_11, rX13_lays_12, rX13_lays_13, rX13_lays_14, rX13_lays_17, rX13_lays_18, rX13_lays_21, rX13_lays_22, rX13_lays_23, rX13_lays_24, rX13_lays_25, rX13_lays_28, rX13_lays_29, rX13_lays_31, rX13_lays_32, rX13_lays_33, rX13_lays_36, rX13_lays_37, rX13_lays_38, rX13_lays_39, rX13_lays_40, rX13_lays_43, rX13_lays_44, rX13_lays_46, rX13_lays_47, rX13_lays_48, rX13_lays_51, rX13_lays_52, rX13_lays_54, rX13_lays_57, rX13_lays_59, rX13_lays_60, rX13_lays_63, rX13_lays_64, rX13_lays_65, rX13_lays_68, rX13_lays_71, rX13_lays_72, rX13_lays_75, rX13_lays_76B, rX13_lays_76Z, rX13_lays_76Z, gS_355, gP_355_16, gP_355_27, gP_355_28, gP_355_29, gS_357, gS_360, gS_361, hg, hd, c1, ne_eq, not_false_eq_true, not_true_eq_false, true_and, and_true, and_self, true_imp_iff, false_imp_iff, imp_self, Bool.not_false, Bool.not_true, reduceCtorEq, ab_isJ, ab_psh, ab_cats, Bool.false_eq_true, if_true, if_false, ab_shf, ab_shw, Int.le_refl, Classical.not_not, Int.zero_add, forall_const, ↓ab_itT, ↓ab_itF, ab_anT, ab_w32_id, ab_rdf_ne, ab_rdw_ne, ab_rdw_eq, ab_rdf_in, ab_td2, ab_tm2]
  · by_cases w2 : κ 16 p = 2
    · rw [if_pos (Or.inr w2), ← key _ Q]
      rw [if_pos w2] at c1
      simp (disch := first | omega | (simp only [ab_shw, ab_shf, hz, true_and, and_true, or_true, true_or, and_self]; try omega)) only [do_X13_lays, rX13_lays_0, rX13_lays_1, rX13_lays_2, rX13_lays_5, rX13_lays_6, rX13_lays_7, rX13_lays_10, rX13_lays_11, rX13_lays_12, rX13_lays_13, rX13_lays_14, rX13_lays_17, rX13_lays_18, rX13_lays_21, rX13_lays_22, rX13_lays_23, rX13_lays_24, rX13_lays_25, rX13_lays_28, rX13_lays_29, rX13_lays_31, rX13_lays_32, rX13_lays_33, rX13_lays_36, rX13_lays_37, rX13_lays_38, rX13_lays_39, rX13_lays_40, rX13_lays_43, rX13_lays_44, rX13_lays_46, rX13_lays_47, rX13_lays_48, rX13_lays_51, rX13_lays_52, rX13_lays_54, rX13_lays_57, rX13_lays_59, rX13_lays_60, rX13_lays_63, rX13_lays_64, rX13_lays_65, rX13_lays_68, rX13_lays_71, rX13_lays_72, rX13_lays_75, rX13_lays_76B, rX13_lays_76Z, rX13_lays_76Z, gS_355, gP_355_16, gP_355_27, gP_355_28, gP_355_29, gS_357, gS_360, gS_361, hg, hd, c1, ne_eq, not_false_eq_true, not_true_eq_false, true_and, and_true, and_self, true_imp_iff, false_imp_iff, imp_self, Bool.not_false, Bool.not_true, reduceCtorEq, ab_isJ, ab_psh, ab_cats, Bool.false_eq_true, if_true, if_false, ab_shf, ab_shw, Int.le_refl, Classical.not_not, Int.zero_add, forall_const, ↓ab_itT, ↓ab_itF, ab_anT, ab_w32_id, ab_rdf_ne, ab_rdw_ne, ab_rdw_eq, ab_rdf_in, ab_td2, ab_tm2]
    · rw [if_neg (by omega), ← key _ Q]
      rw [if_neg w2] at c1
      simp (disch := first | omega | (simp only [ab_shw, ab_shf, hz, true_and, and_true, or_true, true_or, and_self]; try omega)) only [do_X13_lays, rX13_lays_0, rX13_lays_1, rX13_lays_2, rX13_lays_5, rX13_lays_6, rX13_lays_7, rX13_lays_10, rX13_lays_11, rX13_lays_12, rX13_lays_13, rX13_lays_14, rX13_lays_17, rX13_lays_18, rX13_lays_21, rX13_lays_22, rX13_lays_23, rX13_lays_24, rX13_lays_25, rX13_lays_28, rX13_lays_29, rX13_lays_31, rX13_lays_32, rX13_lays_33, rX13_lays_36, rX13_lays_37, rX13_lays_38, rX13_lays_39, rX13_lays_40, rX13_lays_43, rX13_lays_44, rX13_lays_46, rX13_lays_47, rX13_lays_48, rX13_lays_51, rX13_lays_52, rX13_lays_54, rX13_lays_57, rX13_lays_59, rX13_lays_60, rX13_lays_63, rX13_lays_64, rX13_lays_65, rX13_lays_68, rX13_lays_71, rX13_lays_72, rX13_lays_75, rX13_lays_76B, rX13_lays_76Z, rX13_lays_76Z, gS_355, gP_355_16, gP_355_27, gP_355_28, gP_355_29, gS_357, gS_360, gS_361, hg, hd, c1, ne_eq, not_false_eq_true, not_true_eq_false, true_and, and_true, and_self, true_imp_iff, false_imp_iff, imp_self, Bool.not_false, Bool.not_true, reduceCtorEq, ab_isJ, ab_psh, ab_cats, Bool.false_eq_true, if_true, if_false, ab_shf, ab_shw, Int.le_refl, Classical.not_not, Int.zero_add, forall_const, ↓ab_itT, ↓ab_itF, ab_anT, ab_w32_id, ab_rdf_ne, ab_rdw_ne, ab_rdw_eq, ab_rdf_in, ab_td2, ab_tm2]
theorem mq_laysTold (h : ac_MI σ M κ) (hd : ab_rd σ 357 (5 + b) = d) (hb : ac_isB κ b) (hpp : ac_isP κ p) (hqq : ac_isP κ q) : ab_Do X 203 [ab_R 355, ab_I b, ab_I p, ab_I q] σ Q ↔ Q none (ac_ly σ κ d b p (ac_h κ p b 0) q (ac_h κ q b 1) 2) := by
  have c1 := fun Q' => mq_holds (X := X) (Q := Q') (arm := 0) h hb hpp (Or.inl rfl)
  have c2 := fun Q' => mq_holds (X := X) (Q := Q') (arm := 1) h hb hqq (Or.inr rfl)
  have c3 := fun hp hq mv Q' => mq_lays (X := X) (Q := Q') (hp := hp) (hq := hq) (mv := mv) h hd hb hpp hqq
  obtain ⟨hg, h3, hG, hM, hK⟩ := h
  have z := hG.1
  simp (disch := omega) only [do_X13_laysTold, rX13_laysTold_0, rX13_laysTold_1, rX13_laysTold_2, rX13_laysTold_3, rX13_laysTold_4, rX13_laysTold_7, rX13_laysTold_8, rX13_laysTold_9, rX13_laysTold_10, rX13_laysTold_13, rX13_laysTold_14, rX13_laysTold_15, rX13_laysTold_18, rX13_laysTold_19, rX13_laysTold_20, rX13_laysTold_21, rX13_laysTold_24, rX13_laysTold_25, rX13_laysTold_28, gS_355, hg, h3, mS, c1, c2, c3, ne_eq, not_false_eq_true, not_true_eq_false, true_and, and_true, and_self, true_imp_iff, false_imp_iff, imp_self, Bool.not_false, Bool.not_true, reduceCtorEq, ab_isJ, ab_psh, ab_cats, Bool.false_eq_true, if_true, if_false, ab_shf, ab_shw, Int.le_refl, Classical.not_not, Int.zero_add, forall_const, ↓ab_itT, ↓ab_itF, ab_anT, ab_w32_id, ab_rdf_ne, ab_rdw_ne, ab_rdw_eq, ab_rdf_in, ab_td2, ab_tm2]
theorem mq_allPlaces (h : ac_MI σ M κ) (hb : ac_isB κ b) (h21 : ab_rd σ 355 21 = b) : ab_Do X 209 [ab_R 355] σ Q ↔ Q (some (ab_I (ac_n κ b 0 + ac_n κ b 1))) σ := by
  have c1 := fun Q' => mq_many (X := X) (Q := Q') (arm := 0) h hb (Or.inl rfl)
  have c2 := fun Q' => mq_many (X := X) (Q := Q') (arm := 1) h hb (Or.inr rfl)
  have n0 := ac_n_b h.2.2.2.2 hb (Or.inl rfl)
  have n1 := ac_n_b h.2.2.2.2 hb (Or.inr rfl)
  obtain ⟨hg, h3, hG, hM, hK⟩ := h
  have z := hG.1
  unfold ac_n at *
  simp (disch := omega) only [do_X13_allPlaces, rX13_allPlaces_0, rX13_allPlaces_1, rX13_allPlaces_4, rX13_allPlaces_5, rX13_allPlaces_8, rX13_allPlaces_9, rX13_allPlaces_12, rX13_allPlaces_13, rX13_allPlaces_16, rX13_allPlaces_17, rX13_allPlaces_20, rX13_allPlaces_21, rX13_allPlaces_24, rX13_allPlaces_25, gS_355, hg, h3, h21, mS, c1, c2, ne_eq, not_false_eq_true, not_true_eq_false, true_and, and_true, and_self, true_imp_iff, false_imp_iff, imp_self, Bool.not_false, Bool.not_true, reduceCtorEq, ab_isJ, ab_psh, ab_cats, Bool.false_eq_true, if_true, if_false, ab_shf, ab_shw, Int.le_refl, Classical.not_not, Int.zero_add, forall_const, ↓ab_itT, ↓ab_itF, ab_anT, ab_w32_id, ab_rdf_ne, ab_rdw_ne, ab_rdw_eq, ab_rdf_in, ab_td2, ab_tm2]
/-- a flaw in one of all places -/
def ac_fl (σ : ab_S) (n0 k : Int) : ab_S := ab_wr (ab_wr σ 355 23 (if k < n0 then 0 else 1)) 355 24 (if k < n0 then k else k - n0)
theorem ac_fl_same {n0 : Int} : ab_Same ac_PB σ (ac_fl σ n0 k) := (ab_Same.refl.wr (by unfold ac_PB; omega)).wr (by unfold ac_PB; omega)
theorem ac_fl_a {n0 : Int} : ab_rd (ac_fl σ n0 k) 355 23 = (if k < n0 then 0 else 1) ∧ ab_rd (ac_fl σ n0 k) 355 24 = (if k < n0 then k else k - n0) := by
  unfold ac_fl
  constructor
  · rw [ab_rdw_ne (by omega), ab_rdw_eq]
  · rw [ab_rdw_eq]
theorem mq_flaws (h : ac_MI σ M κ) (hb : ac_isB κ b) (h21 : ab_rd σ 355 21 = b) (hk : 0 ≤ k ∧ k < 20) : ab_Do X 210 [ab_R 355, ab_I k] σ Q ↔ Q none (ac_fl σ (ac_n κ b 0) k) := by
  have c1 := fun Q' => mq_many (X := X) (Q := Q') (arm := 0) h hb (Or.inl rfl)
  have s1 : ab_Same ac_PB σ (ab_wr σ 355 23 1) := ab_Same.refl.wr (by unfold ac_PB; omega)
  have c2 := fun Q' => mq_many (X := X) (Q := Q') (arm := 0) (h.same (s1.mono (fun _ _ => ac_PB_PM))) hb (Or.inl rfl)
  have n0 := ac_n_b h.2.2.2.2 hb (Or.inl rfl)
  obtain ⟨hg, h3, hG, hM, hK⟩ := h
  have z := hG.1
  unfold ac_n at *
  unfold ac_fl
  by_cases w : k < κ 14 (2 * b + 0)
  · rw [if_pos w, if_pos w]
    simp (disch := omega) only [do_X13_flaws, rX13_flaws_0, rX13_flaws_1, rX13_flaws_2, rX13_flaws_3, rX13_flaws_6, rX13_flaws_7, rX13_flaws_10, rX13_flaws_11, rX13_flaws_14, rX13_flaws_17, rX13_flaws_18, rX13_flaws_21, rX13_flaws_22, rX13_flaws_25, rX13_flaws_26, rX13_flaws_27, rX13_flaws_30, rX13_flaws_33, rX13_flaws_34, rX13_flaws_37, rX13_flaws_38, rX13_flaws_39, rX13_flaws_42, rX13_flaws_43, rX13_flaws_46, rX13_flaws_47, rX13_flaws_50, rX13_flaws_51, rX13_flaws_54, gS_355, hg, h3, h21, mS, c1, ne_eq, not_false_eq_true, not_true_eq_false, true_and, and_true, and_self, true_imp_iff, false_imp_iff, imp_self, Bool.not_false, Bool.not_true, reduceCtorEq, ab_isJ, ab_psh, ab_cats, Bool.false_eq_true, if_true, if_false, ab_shf, ab_shw, Int.le_refl, Classical.not_not, Int.zero_add, forall_const, ↓ab_itT, ↓ab_itF, ab_anT, ab_w32_id, ab_rdf_ne, ab_rdw_ne, ab_rdw_eq, ab_rdf_in, ab_td2, ab_tm2]
  · rw [if_neg w, if_neg w]
    simp (disch := omega) only [do_X13_flaws, rX13_flaws_0, rX13_flaws_1, rX13_flaws_2, rX13_flaws_3, rX13_flaws_6, rX13_flaws_7, rX13_flaws_10, rX13_flaws_11, rX13_flaws_14, rX13_flaws_17, rX13_flaws_18, rX13_flaws_21, rX13_flaws_22, rX13_flaws_25, rX13_flaws_26, rX13_flaws_27, rX13_flaws_30, rX13_flaws_33, rX13_flaws_34, rX13_flaws_37, rX13_flaws_38, rX13_flaws_39, rX13_flaws_42, rX13_flaws_43, rX13_flaws_46, rX13_flaws_47, rX13_flaws_50, rX13_flaws_51, rX13_flaws_54, gS_355, hg, h3, h21, mS, c1, c2, ne_eq, not_false_eq_true, not_true_eq_false, true_and, and_true, and_self, true_imp_iff, false_imp_iff, imp_self, Bool.not_false, Bool.not_true, reduceCtorEq, ab_isJ, ab_psh, ab_cats, Bool.false_eq_true, if_true, if_false, ab_shf, ab_shw, Int.le_refl, Classical.not_not, Int.zero_add, forall_const, ↓ab_itT, ↓ab_itF, ab_anT, ab_w32_id, ab_rdf_ne, ab_rdw_ne, ab_rdw_eq, ab_rdf_in, ab_td2, ab_tm2]
end
