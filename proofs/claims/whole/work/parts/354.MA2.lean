/-! ACTS of the reference: boil, undo, mark, back -/
section
variable {X : ab_X} {σ τ υ : ab_S} {Q : Option ab_V → ab_S → Prop} {M b i n s na nm k o a x y m : Int} {κ : ac_K} {v w g : Int → Int} {pa pm : Int → Int → Int} {P : Int → Int → Prop}
theorem ac_HM.sameV (h : ac_HM σ na pa nm pm) (hs : ab_Same (fun a f => ac_PM a f ∨ a = 357) σ τ) : ac_HM τ na pa nm pm := by
  obtain ⟨h1, h2, h3, h4, h5, h6⟩ := h
  exact ⟨by rw [hs.2.2 _ _ (by unfold ac_PM; omega), h1], by rw [hs.2.2 _ _ (by unfold ac_PM; omega), h2], h3, h4, fun i k a1 a2 a3 a4 => by rw [hs.2.2 _ _ (by unfold ac_PM; omega), h5 i k a1 a2 a3 a4], fun i k a1 a2 a3 a4 => by rw [hs.2.2 _ _ (by unfold ac_PM; omega), h6 i k a1 a2 a3 a4]⟩
theorem ac_bv_VB (h : ac_VB κ v) (hk : κ 5 0 ≤ 5) (hb : ac_isB κ b) : ac_VB κ (ac_bv v b) := by
  obtain ⟨q1, q2, q3⟩ := h
  have b1 := hb.1
  have b2 := hb.2
  have e : ∀ k, k ≠ b → ac_bv v b k = v k := fun k hk => if_neg hk
  refine ⟨fun b' b1 b2 => ⟨?_, ?_⟩, ?_, ?_⟩
  · by_cases z : b' = b
    · rw [z, show ac_bv v b b = 2 from if_pos rfl]; omega
    · rw [e b' z]; exact (q1 b' b1 b2).1
  · rw [e _ (by omega)]; exact (q1 b' b1 b2).2
  · rw [e 10 (by omega)]; exact q2
  · rw [e 17 (by omega)]; exact q3
theorem ma_boil (h : ac_MS σ κ v na pa nm pm) (hk : κ 5 0 ≤ 5) (hQ1 : ac_blT κ v b ≠ 0 → ∀ τ, ab_Same ac_PM σ τ → ab_rd τ 355 1 = ac_blT κ v b → ab_rd τ 355 2 = -1 → Q (some (ab_I 0)) τ) (hQ0 : ac_blT κ v b = 0 → ∀ τ, ab_Same ac_PY σ τ → ab_rd τ 355 1 = 0 → ab_rd τ 355 2 = -1 → ac_MS τ κ (ac_bv v b) (ac_kna na) (ac_kpa na pa v) nm pm → Q (some (ab_I 1)) τ) : ab_Do X 279 [ab_R 355, ab_I b] σ Q := by
  have hN := h.1
  have h' := hN.same (τ := ab_wr σ 355 0 0) ac_mq0
  have g0 := hN.1
  have g := h'.1
  have hm0 := h.same (τ := ab_wr σ 355 0 0) ac_mq0
  have cin := fun x lo hi Q' => mq_in (X := X) (σ := ab_wr σ 355 0 0) (Q := Q') (x := x) (lo := lo) (hi := hi)
  have cd := fun v Q' => sp_denied (X := X) (Q := Q') (v := v) g
  have cr := fun v Q' => sp_refused (X := X) (Q := Q') (v := v) g
  have cB := fun b Q' => mq_isBone (X := X) (Q := Q') (b := b) h'
  by_cases hb : ac_isB κ b
  · have b1 := hb.1
    have b2 := hb.2
    have e10 := hm0.2.1.1 10 (by omega) (by omega)
    have eb := hm0.2.1.1 b hb.1 (by omega)
    have vb10 := h.2.1.2.2.1
    have c1 := fun Q' => mq_bit (X := X) (σ := ab_wr σ 355 0 0) (Q := Q') (x := v 10) (b := b) (by omega) (by omega)
    have b01 := ac_bit01 (x := v 10) (b := b)
    by_cases hw : ac_bit (v 10) b = 1 ∨ v b = 2
    · have eT : ac_blT κ v b = 5 := (by unfold ac_blT; rw [if_pos hb, if_pos hw])
      have hq' := hQ1 (by rw [eT]; decide) _ (ac_end1 ac_mq0).1 (by rw [eT]; exact (ac_end1 ac_mq0).2.1) (ac_end1 ac_mq0).2.2
      by_cases hw1 : ac_bit (v 10) b = 1
      · rw [hw1] at c1
        simp (disch := omega) only [do_X13_boil, rX13_boil_0, rX13_boil_1, rX13_boil_2, rX13_boil_5, rX13_boil_6, rX13_boil_7, rX13_boil_10, rX13_boil_13, rX13_boil_14, rX13_boil_15, rX13_boil_18, rX13_boil_19, rX13_boil_20, rX13_boil_23, rX13_boil_25, rX13_boil_26, rX13_boil_27, rX13_boil_30, rX13_boil_33, rX13_boil_34, rX13_boil_37, rX13_boil_38, rX13_boil_39, rX13_boil_40, rX13_boil_41, rX13_boil_42, rX13_boil_45, rX13_boil_46, rX13_boil_47, rX13_boil_50, gS_355, gP_355_16, gS_357, g0, g, cB, if_pos hb, e10, c1, cd, ne_eq, not_false_eq_true, not_true_eq_false, true_and, and_true, and_self, true_imp_iff, false_imp_iff, imp_self, Bool.not_false, Bool.not_true, reduceCtorEq, ab_isJ, ab_psh, ab_cats, Bool.false_eq_true, if_true, if_false, ab_shf, ab_shw, Int.le_refl, Classical.not_not, Int.zero_add, forall_const, ↓ab_itT, ↓ab_itF, ab_anT, true_or]
        all_goals exact hq'
      · have z : ac_bit (v 10) b = 0 := by omega
        rw [z] at c1
        simp (disch := omega) only [do_X13_boil, rX13_boil_0, rX13_boil_1, rX13_boil_2, rX13_boil_5, rX13_boil_6, rX13_boil_7, rX13_boil_10, rX13_boil_13, rX13_boil_14, rX13_boil_15, rX13_boil_18, rX13_boil_19, rX13_boil_20, rX13_boil_23, rX13_boil_25, rX13_boil_26, rX13_boil_27, rX13_boil_30, rX13_boil_33, rX13_boil_34, rX13_boil_37, rX13_boil_38, rX13_boil_39, rX13_boil_40, rX13_boil_41, rX13_boil_42, rX13_boil_45, rX13_boil_46, rX13_boil_47, rX13_boil_50, gS_355, gP_355_16, gS_357, g0, g, cB, if_pos hb, e10, eb, c1, cd, Int.zero_add, ab_w32_id, ne_eq, not_false_eq_true, not_true_eq_false, true_and, and_true, and_self, true_imp_iff, false_imp_iff, imp_self, Bool.not_false, Bool.not_true, reduceCtorEq, ab_isJ, ab_psh, ab_cats, Bool.false_eq_true, if_true, if_false, ab_shf, ab_shw, Int.le_refl, Classical.not_not, Int.zero_add, forall_const, ↓ab_itT, ↓ab_itF, ab_anT, true_or, or_true]
        all_goals exact hq'
    · have eT : ac_blT κ v b = 0 := by unfold ac_blT; rw [if_pos hb, if_neg hw]
      have z : ac_bit (v 10) b = 0 := by omega
      have z2 : ¬ v b = 2 := by omega
      rw [z] at c1
      simp (disch := omega) only [do_X13_boil, rX13_boil_0, rX13_boil_1, rX13_boil_2, rX13_boil_5, rX13_boil_6, rX13_boil_7, rX13_boil_10, rX13_boil_13, rX13_boil_14, rX13_boil_15, rX13_boil_18, rX13_boil_19, rX13_boil_20, rX13_boil_23, rX13_boil_25, rX13_boil_26, rX13_boil_27, rX13_boil_30, rX13_boil_33, rX13_boil_34, rX13_boil_37, rX13_boil_38, rX13_boil_39, rX13_boil_40, rX13_boil_41, rX13_boil_42, rX13_boil_45, rX13_boil_46, rX13_boil_47, rX13_boil_50, rX13_boil_51, rX13_boil_52, gS_355, gP_355_16, gS_357, g0, g, cB, if_pos hb, e10, eb, c1, Int.zero_add, ab_w32_id, ne_eq, not_false_eq_true, not_true_eq_false, true_and, and_true, and_self, true_imp_iff, false_imp_iff, imp_self, Bool.not_false, Bool.not_true, reduceCtorEq, ab_isJ, ab_psh, ab_cats, Bool.false_eq_true, if_true, if_false, ab_shf, ab_shw, Int.le_refl, Classical.not_not, Int.zero_add, forall_const, ↓ab_itT, ↓ab_itF, ab_anT, or_true]
      refine mq_keeps g hm0.2.2 hm0.2.1.1 (fun τ hs hH => ?_)
      have sX : ab_Same ac_PY σ τ := ac_mq0.my.trans (hs.mono ac_kpY)
      have w1 : ab_Same ac_PY σ (ab_wr τ 357 b 2) := sX.wr (Or.inr (Or.inr (by omega)))
      have gt := (hN.sameY sX).1
      have g1 := (hN.sameY w1).1
      have c6 := fun Q' => sp_granted (X := X) (Q := Q') g1
      have key := hQ0 eT _ (ac_endY w1).1 (ac_endY w1).2.1 (ac_endY w1).2.2 (h.act (ac_endY w1).1 (fun k k1 k2 => by
        rw [ab_rdw_ne (by omega), ab_rdw_ne (by omega)]
        unfold ac_bv
        by_cases z : k = b
        · rw [if_pos z, z, ab_rdw_eq]
        · rw [if_neg z, ab_rdw_ne (by omega), hs.2.2 357 k (by omega)]; exact hm0.2.1.1 k k1 k2) (ac_bv_VB h.2.1.2 hk hb) (hH.sameV (((ab_Same.refl.wr (Or.inr rfl)).wr (Or.inl (by unfold ac_PM; omega))).wr (Or.inl (by unfold ac_PM; omega)))))
      clear hQ0 hQ1 hH
      simp (disch := omega) only [rX13_boil_55, rX13_boil_56, rX13_boil_59, rX13_boil_60, rX13_boil_61, rX13_boil_62, rX13_boil_63, rX13_boil_64, rX13_boil_65, rX13_boil_68, gS_355, gP_355_16, gS_357, gt, c6, Int.zero_add, ab_w32_id, ne_eq, not_false_eq_true, not_true_eq_false, true_and, and_true, and_self, true_imp_iff, false_imp_iff, imp_self, Bool.not_false, Bool.not_true, reduceCtorEq, ab_isJ, ab_psh, ab_cats, Bool.false_eq_true, if_true, if_false, ab_shf, ab_shw, Int.le_refl, Classical.not_not, Int.zero_add, forall_const, ↓ab_itT, ↓ab_itF, ab_anT, or_true]
      all_goals exact key
  · have eT : ac_blT κ v b = 1 := (by unfold ac_blT; rw [if_neg hb])
    have hq' := hQ1 (by rw [eT]; decide) _ (ac_end1 ac_mq0).1 (by rw [eT]; exact (ac_end1 ac_mq0).2.1) (ac_end1 ac_mq0).2.2
    simp (disch := omega) only [do_X13_boil, rX13_boil_0, rX13_boil_1, rX13_boil_2, rX13_boil_5, rX13_boil_6, rX13_boil_7, rX13_boil_10, rX13_boil_13, rX13_boil_14, rX13_boil_15, rX13_boil_18, rX13_boil_19, rX13_boil_20, rX13_boil_23, rX13_boil_25, rX13_boil_26, rX13_boil_27, rX13_boil_30, rX13_boil_33, rX13_boil_34, rX13_boil_37, rX13_boil_38, rX13_boil_39, rX13_boil_40, rX13_boil_41, rX13_boil_42, rX13_boil_45, rX13_boil_46, rX13_boil_47, rX13_boil_50, gS_355, g0, g, cB, if_neg hb, cd, ne_eq, not_false_eq_true, not_true_eq_false, true_and, and_true, and_self, true_imp_iff, false_imp_iff, imp_self, Bool.not_false, Bool.not_true, reduceCtorEq, ab_isJ, ab_psh, ab_cats, Bool.false_eq_true, if_true, if_false, ab_shf, ab_shw, Int.le_refl, Classical.not_not, Int.zero_add, forall_const, ↓ab_itT, ↓ab_itF, ab_anT, true_or]
    all_goals exact hq'
theorem ma_undo_l (hg : ab_Geo σ) (h19 : ab_rd σ 355 19 = m) (hm : 0 ≤ m ∧ m < 16) (hw : ∀ k, 0 ≤ k → k < 18 → ab_rd σ 358 (18 * m + k) = w k) : ∀ (n : Nat) (i : Int), 0 ≤ i → i + n = 18 → (ab_Run X 282 38 (2, 0, 0) [ab_R 355, ab_I i] [] (ab_fl σ 357 i w) Q ↔ Q (some (ab_I 1)) (ab_wr (ab_wr (ab_fl σ 357 18 w) 355 1 0) 355 2 (-1))) := by
  intro n
  induction n with
  | zero =>
    intro i hi hn
    obtain rfl : i = 18 := by omega
    have w1 : ab_Same ac_PY σ (ab_fl σ 357 18 w) := ab_Same.refl.fl (fun y _ _ => Or.inr (Or.inr (by omega)))
    have c6 := fun Q' => sp_granted (X := X) (Q := Q') (hg.same w1 ac_PY_pt)
    rw [rX13_undo_38]
    simp (disch := omega) only [rX13_undo_39, rX13_undo_41, rX13_undo_70, rX13_undo_71, rX13_undo_74, gS_355, hg, c6, ne_eq, not_false_eq_true, not_true_eq_false, true_and, and_true, and_self, true_imp_iff, false_imp_iff, imp_self, Bool.not_false, Bool.not_true, reduceCtorEq, ab_isJ, ab_psh, ab_cats, Bool.false_eq_true, if_true, if_false, ab_shf, ab_shw, Int.le_refl, Classical.not_not, Int.zero_add, forall_const, ↓ab_itT, ↓ab_itF, ab_anT, ab_w32_id, ab_rdf_ne, ab_rdw_ne, ab_rdw_eq, ab_rdf_in, ab_td2, ab_tm2, or_true]
  | succ n ih =>
    intro i hi hn
    have key := ih (i + 1) (by omega) (by omega)
    have e := hw i hi (by omega)
    rw [← ab_fl_succ hi] at key
    rw [rX13_undo_38, ← key]
    simp (disch := omega) only [rX13_undo_39, rX13_undo_41, rX13_undo_44, rX13_undo_45, rX13_undo_48, rX13_undo_49, rX13_undo_50, rX13_undo_53, rX13_undo_55, rX13_undo_56, rX13_undo_59, rX13_undo_60, rX13_undo_61, rX13_undo_62, rX13_undo_63, rX13_undo_64, rX13_undo_67, gS_355, gP_355_16, gP_355_17, gS_357, gS_358, hg, h19, e, ne_eq, not_false_eq_true, not_true_eq_false, true_and, and_true, and_self, true_imp_iff, false_imp_iff, imp_self, Bool.not_false, Bool.not_true, reduceCtorEq, ab_isJ, ab_psh, ab_cats, Bool.false_eq_true, if_true, if_false, ab_shf, ab_shw, Int.le_refl, Classical.not_not, Int.zero_add, forall_const, ↓ab_itT, ↓ab_itF, ab_anT, ab_w32_id, ab_rdf_ne, ab_rdw_ne, ab_rdw_eq, ab_rdf_in, ab_td2, ab_tm2]
theorem ma_undo (h : ac_MS σ κ v na pa nm pm) (h0 : ¬ 0 < κ 5 0 → na = 0) (hV : ∀ i, 0 ≤ i → i < na → ac_VB κ (pa i)) (hQ1 : ac_unT na ≠ 0 → ∀ τ, ab_Same ac_PM σ τ → ab_rd τ 355 1 = ac_unT na → ab_rd τ 355 2 = -1 → Q (some (ab_I 0)) τ) (hQ0 : ac_unT na = 0 → ∀ τ, ab_Same ac_PY σ τ → ab_rd τ 355 1 = 0 → ab_rd τ 355 2 = -1 → ac_MS τ κ (pa (na - 1)) (na - 1) pa nm pm → Q (some (ab_I 1)) τ) : ab_Do X 282 [ab_R 355] σ Q := by
  have hN := h.1
  have h' := hN.same (τ := ab_wr σ 355 0 0) ac_mq0
  have g0 := hN.1
  have g := h'.1
  have hm0 := h.same (τ := ab_wr σ 355 0 0) ac_mq0
  have cin := fun x lo hi Q' => mq_in (X := X) (σ := ab_wr σ 355 0 0) (Q := Q') (x := x) (lo := lo) (hi := hi)
  have cd := fun v Q' => sp_denied (X := X) (Q := Q') (v := v) g
  have cr := fun v Q' => sp_refused (X := X) (Q := Q') (v := v) g
  obtain ⟨q1, q2, q3, q4, q5, q6⟩ := hm0.2.2
  by_cases hn : 0 < na
  · have hp : 0 < κ 5 0 := by
      apply Classical.byContradiction
      intro u
      have := h0 u
      omega
    obtain ⟨M, hm⟩ := h'.mi hp
    have h3 := hm.2.1
    have zM := hm.2.2.1.1
    have eT : ac_unT na = 0 := by unfold ac_unT; rw [if_pos hn]
    have w1 : ab_Same ac_PY σ (ab_wr (ab_wr σ 355 0 0) 355 19 (na - 1)) := ac_mq0.my.wr (Or.inr (Or.inl ⟨rfl, Or.inl rfl⟩))
    have g1 := (hN.sameY w1).1
    have L := ma_undo_l (X := X) (Q := Q) (w := pa (na - 1)) g1 ab_rdw_eq (by omega) (fun k k1 k2 => by rw [ab_rdw_ne (by omega), q5 (na - 1) k (by omega) (by omega) k1 k2]) 18 0 (by omega) (by omega)
    rw [ab_fl0 (Int.le_refl 0)] at L
    have w2 : ab_Same ac_PY σ (ab_fl (ab_wr (ab_wr σ 355 0 0) 355 19 (na - 1)) 357 18 (pa (na - 1))) := w1.fl (fun y _ _ => Or.inr (Or.inr (by omega)))
    have H2 : ac_HM (ab_wr (ab_wr σ 355 0 0) 355 19 (na - 1)) (na - 1) pa nm pm := ⟨ab_rdw_eq, by rw [ab_rdw_ne (by omega), q2], by omega, q4, fun i k a1 a2 a3 a4 => by rw [ab_rdw_ne (by omega), q5 i k a1 (by omega) a3 a4], fun i k a1 a2 a3 a4 => by rw [ab_rdw_ne (by omega), q6 i k a1 a2 a3 a4]⟩
    have key := hQ0 eT _ (ac_endY w2).1 (ac_endY w2).2.1 (ac_endY w2).2.2 (h.act (ac_endY w2).1 (fun k k1 k2 => by
        rw [ab_rdw_ne (by omega), ab_rdw_ne (by omega), ab_rdf_in ⟨k1, k2⟩]) (hV (na - 1) (by omega) (by omega)) (H2.sameV (((ab_Same.refl.fl (fun _ _ _ => Or.inr rfl)).wr (Or.inl (by unfold ac_PM; omega))).wr (Or.inl (by unfold ac_PM; omega)))))
    have k2 := L.mpr key
    clear hQ0 hQ1 L H2 q5 q6 key
    simp (disch := omega) only [do_X13_undo, rX13_undo_0, rX13_undo_1, rX13_undo_2, rX13_undo_5, rX13_undo_6, rX13_undo_9, rX13_undo_12, rX13_undo_13, rX13_undo_16, rX13_undo_19, rX13_undo_20, rX13_undo_22, rX13_undo_25, rX13_undo_26, rX13_undo_27I, rX13_undo_27R, rX13_undo_28, rX13_undo_31, rX13_undo_32, rX13_undo_33, rX13_undo_36, rX13_undo_37, gS_355, g0, g, h3, q1, ab_w32_id, ne_eq, not_false_eq_true, not_true_eq_false, true_and, and_true, and_self, true_imp_iff, false_imp_iff, imp_self, Bool.not_false, Bool.not_true, reduceCtorEq, ab_isJ, ab_psh, ab_cats, Bool.false_eq_true, if_true, if_false, ab_shf, ab_shw, Int.le_refl, Classical.not_not, Int.zero_add, forall_const, ↓ab_itT, ↓ab_itF, ab_anT, or_true]
    all_goals exact k2
  · have hn0 : na = 0 := by omega
    rw [hn0] at q1
    have eT : ac_unT na = 6 := (by unfold ac_unT; rw [if_neg hn])
    have hq' := hQ1 (by rw [eT]; decide) _ (ac_end1 ac_mq0).1 (by rw [eT]; exact (ac_end1 ac_mq0).2.1) (ac_end1 ac_mq0).2.2
    clear q5 q6
    by_cases hp : 0 < κ 5 0
    · obtain ⟨M, hm⟩ := h'.mi hp
      have h3 := hm.2.1
      have zM := hm.2.2.1.1
      simp (disch := omega) only [do_X13_undo, rX13_undo_0, rX13_undo_1, rX13_undo_2, rX13_undo_5, rX13_undo_6, rX13_undo_9, rX13_undo_12, rX13_undo_13, rX13_undo_16, rX13_undo_19, rX13_undo_20, rX13_undo_22, rX13_undo_25, gS_355, g0, g, h3, q1, cd, ne_eq, not_false_eq_true, not_true_eq_false, true_and, and_true, and_self, true_imp_iff, false_imp_iff, imp_self, Bool.not_false, Bool.not_true, reduceCtorEq, ab_isJ, ab_psh, ab_cats, Bool.false_eq_true, if_true, if_false, ab_shf, ab_shw, Int.le_refl, Classical.not_not, Int.zero_add, forall_const, ↓ab_itT, ↓ab_itF, ab_anT, true_or]
      all_goals exact hq'
    · have e0 := h'.null hp
      simp (disch := omega) only [do_X13_undo, rX13_undo_0, rX13_undo_1, rX13_undo_2, rX13_undo_5, rX13_undo_6, rX13_undo_9, rX13_undo_12, rX13_undo_13, rX13_undo_16, rX13_undo_19, rX13_undo_20, rX13_undo_22, rX13_undo_25, gS_355, g0, g, e0, cd, ne_eq, not_false_eq_true, not_true_eq_false, true_and, and_true, and_self, true_imp_iff, false_imp_iff, imp_self, Bool.not_false, Bool.not_true, reduceCtorEq, ab_isJ, ab_psh, ab_cats, Bool.false_eq_true, if_true, if_false, ab_shf, ab_shw, Int.le_refl, Classical.not_not, Int.zero_add, forall_const, ↓ab_itT, ↓ab_itF, ab_anT, true_or]
      all_goals exact hq'
theorem ma_mark_l (hg : ab_Geo σ) (h20 : ab_rd σ 355 20 = m) (hm : 0 ≤ m ∧ m < 3) (hv : ∀ k, 0 ≤ k → k < 18 → ab_rd σ 357 k = v k) : ∀ (n : Nat) (i : Int), 0 ≤ i → i + n = 18 → (ab_Run X 283 34 (1, 0, 0) [ab_R 355, ab_I i] [] (ab_fo σ 359 (18 * m) i v) Q ↔ Q (some (ab_I m)) (ab_wr (ab_wr (ab_wr (ab_fo σ 359 (18 * m) 18 v) 355 20 (m + 1)) 355 1 0) 355 2 (-1))) := by
  intro n
  induction n with
  | zero =>
    intro i hi hn
    obtain rfl : i = 18 := by omega
    have w1 : ab_Same ac_PY σ (ab_wr (ab_fo σ 359 (18 * m) 18 v) 355 20 (m + 1)) := (ab_Same.refl.fo (fun y _ _ => Or.inr (Or.inr (by omega)))).wr (Or.inr (Or.inl ⟨rfl, Or.inr rfl⟩))
    have c6 := fun v Q' => sp_good (X := X) (v := v) (Q := Q') (hg.same w1 ac_PY_pt)
    have e1 : m + 1 - 1 = m := by omega
    rw [rX13_mark_34]
    simp (disch := omega) only [rX13_mark_35, rX13_mark_37, rX13_mark_66, rX13_mark_67I, rX13_mark_67R, rX13_mark_68, rX13_mark_71, rX13_mark_72, rX13_mark_73, rX13_mark_76, rX13_mark_77, rX13_mark_78, rX13_mark_81, rX13_mark_82, rX13_mark_83, rX13_mark_86, gS_355, hg, h20, ab_sho, ab_rdo_ne, c6, e1, ne_eq, not_false_eq_true, not_true_eq_false, true_and, and_true, and_self, true_imp_iff, false_imp_iff, imp_self, Bool.not_false, Bool.not_true, reduceCtorEq, ab_isJ, ab_psh, ab_cats, Bool.false_eq_true, if_true, if_false, ab_shf, ab_shw, Int.le_refl, Classical.not_not, Int.zero_add, forall_const, ↓ab_itT, ↓ab_itF, ab_anT, ab_w32_id, ab_rdf_ne, ab_rdw_ne, ab_rdw_eq, ab_rdf_in, ab_td2, ab_tm2, or_true]
  | succ n ih =>
    intro i hi hn
    have key := ih (i + 1) (by omega) (by omega)
    have e := hv i hi (by omega)
    rw [← ab_fo_succ hi] at key
    rw [rX13_mark_34, ← key]
    simp (disch := omega) only [rX13_mark_35, rX13_mark_37, rX13_mark_40, rX13_mark_41, rX13_mark_44, rX13_mark_46, rX13_mark_47, rX13_mark_50, rX13_mark_51, rX13_mark_52, rX13_mark_53, rX13_mark_54, rX13_mark_57, rX13_mark_58, rX13_mark_59, rX13_mark_60, rX13_mark_63, gS_355, gP_355_16, gP_355_18, gS_357, gS_359, hg, h20, e, ab_sho, ab_rdo_ne, ne_eq, not_false_eq_true, not_true_eq_false, true_and, and_true, and_self, true_imp_iff, false_imp_iff, imp_self, Bool.not_false, Bool.not_true, reduceCtorEq, ab_isJ, ab_psh, ab_cats, Bool.false_eq_true, if_true, if_false, ab_shf, ab_shw, Int.le_refl, Classical.not_not, Int.zero_add, forall_const, ↓ab_itT, ↓ab_itF, ab_anT, ab_w32_id, ab_rdf_ne, ab_rdw_ne, ab_rdw_eq, ab_rdf_in, ab_td2, ab_tm2]
theorem ma_mark (h : ac_MS σ κ v na pa nm pm) (hQ1 : ac_maT κ nm ≠ 0 → ∀ τ, ab_Same ac_PM σ τ → ab_rd τ 355 1 = ac_maT κ nm → ab_rd τ 355 2 = -1 → Q (some (ab_I (-1))) τ) (hQ0 : ac_maT κ nm = 0 → ∀ τ, ab_Same ac_PY σ τ → ab_rd τ 355 1 = 0 → ab_rd τ 355 2 = -1 → ac_MS τ κ v na pa (nm + 1) (fun i => if i = nm then v else pm i) → Q (some (ab_I nm)) τ) : ab_Do X 283 [ab_R 355] σ Q := by
  have hN := h.1
  have h' := hN.same (τ := ab_wr σ 355 0 0) ac_mq0
  have g0 := hN.1
  have g := h'.1
  have hm0 := h.same (τ := ab_wr σ 355 0 0) ac_mq0
  have cin := fun x lo hi Q' => mq_in (X := X) (σ := ab_wr σ 355 0 0) (Q := Q') (x := x) (lo := lo) (hi := hi)
  have cd := fun v Q' => sp_denied (X := X) (Q := Q') (v := v) g
  have cr := fun v Q' => sp_refused (X := X) (Q := Q') (v := v) g
  obtain ⟨q1, q2, q3, q4, q5, q6⟩ := hm0.2.2
  have hv := hm0.2.1
  by_cases hp : 0 < κ 5 0
  · obtain ⟨M, hm⟩ := h'.mi hp
    have h3 := hm.2.1
    have zM := hm.2.2.1.1
    by_cases hn : nm < 3
    · have eT : ac_maT κ nm = 0 := by unfold ac_maT; rw [if_pos hp, if_pos hn]
      have L := ma_mark_l (X := X) (Q := Q) (v := v) g q2 (by omega) hv.1 18 0 (by omega) (by omega)
      rw [ab_fo0] at L
      have w1 : ab_Same ac_PY σ (ab_wr (ab_fo (ab_wr σ 355 0 0) 359 (18 * nm) 18 v) 355 20 (nm + 1)) := (ac_mq0.my.fo (fun y _ _ => Or.inr (Or.inr (by omega)))).wr (Or.inr (Or.inl ⟨rfl, Or.inr rfl⟩))
      have H2 : ac_HM (ab_wr (ab_fo (ab_wr σ 355 0 0) 359 (18 * nm) 18 v) 355 20 (nm + 1)) na pa (nm + 1) (fun i => if i = nm then v else pm i) := ⟨by rw [ab_rdw_ne (by omega), ab_rdo_ne (by omega), q1], ab_rdw_eq, q3, by omega, fun i k a1 a2 a3 a4 => by rw [ab_rdw_ne (by omega), ab_rdo_ne (by omega), q5 i k a1 a2 a3 a4], fun i k a1 a2 a3 a4 => by
        rw [ab_rdw_ne (by omega)]
        dsimp only
        by_cases z : i = nm
        · rw [if_pos z, ab_rdo, if_pos (by omega)]
          congr 1
          omega
        · rw [if_neg z, ab_rdo_ne (by omega), q6 i k a1 (by omega) a3 a4]⟩
      have key := hQ0 eT _ (ac_endY w1).1 (ac_endY w1).2.1 (ac_endY w1).2.2 (h.act (ac_endY w1).1 (fun k k1 k2 => by
        rw [ab_rdw_ne (by omega), ab_rdw_ne (by omega), ab_rdw_ne (by omega), ab_rdo_ne (by omega), hv.1 k k1 k2]) hv.2 (H2.same ac_end2))
      have k2 := L.mpr key
      clear hQ0 hQ1 L H2 q5 q6 key
      simp (disch := omega) only [do_X13_mark, rX13_mark_0, rX13_mark_1, rX13_mark_2, rX13_mark_5, rX13_mark_6, rX13_mark_9, rX13_mark_12, rX13_mark_13, rX13_mark_14, rX13_mark_17, rX13_mark_18, rX13_mark_19, rX13_mark_22, rX13_mark_23, rX13_mark_26, rX13_mark_27, rX13_mark_28, rX13_mark_31, rX13_mark_32, rX13_mark_33, gS_355, g0, g, h3, q2, ne_eq, not_false_eq_true, not_true_eq_false, true_and, and_true, and_self, true_imp_iff, false_imp_iff, imp_self, Bool.not_false, Bool.not_true, reduceCtorEq, ab_isJ, ab_psh, ab_cats, Bool.false_eq_true, if_true, if_false, ab_shf, ab_shw, Int.le_refl, Classical.not_not, Int.zero_add, forall_const, ↓ab_itT, ↓ab_itF, ab_anT, or_true]
      all_goals exact k2
    · have hn3 : nm = 3 := by omega
      rw [hn3] at q2
      have eT : ac_maT κ nm = 3 := (by unfold ac_maT; rw [if_pos hp, if_neg hn])
      have hq' := hQ1 (by rw [eT]; decide) _ (ac_end1 ac_mq0).1 (by rw [eT]; exact (ac_end1 ac_mq0).2.1) (ac_end1 ac_mq0).2.2
      clear q5 q6
      simp (disch := omega) only [do_X13_mark, rX13_mark_0, rX13_mark_1, rX13_mark_2, rX13_mark_5, rX13_mark_6, rX13_mark_9, rX13_mark_12, rX13_mark_13, rX13_mark_14, rX13_mark_17, rX13_mark_18, rX13_mark_19, rX13_mark_22, rX13_mark_23, rX13_mark_26, rX13_mark_27, rX13_mark_28, rX13_mark_31, gS_355, g0, g, h3, q2, cr, ne_eq, not_false_eq_true, not_true_eq_false, true_and, and_true, and_self, true_imp_iff, false_imp_iff, imp_self, Bool.not_false, Bool.not_true, reduceCtorEq, ab_isJ, ab_psh, ab_cats, Bool.false_eq_true, if_true, if_false, ab_shf, ab_shw, Int.le_refl, Classical.not_not, Int.zero_add, forall_const, ↓ab_itT, ↓ab_itF, ab_anT, true_or]
      all_goals exact hq'
  · have e0 := h'.null hp
    have eT : ac_maT κ nm = 1 := (by unfold ac_maT; rw [if_neg hp])
    have hq' := hQ1 (by rw [eT]; decide) _ (ac_end1 ac_mq0).1 (by rw [eT]; exact (ac_end1 ac_mq0).2.1) (ac_end1 ac_mq0).2.2
    clear q5 q6
    simp (disch := omega) only [do_X13_mark, rX13_mark_0, rX13_mark_1, rX13_mark_2, rX13_mark_5, rX13_mark_6, rX13_mark_9, rX13_mark_12, rX13_mark_13, rX13_mark_14, rX13_mark_17, rX13_mark_18, rX13_mark_19, rX13_mark_22, rX13_mark_23, rX13_mark_26, rX13_mark_27, rX13_mark_28, rX13_mark_31, gS_355, g0, g, e0, cr, ne_eq, not_false_eq_true, not_true_eq_false, true_and, and_true, and_self, true_imp_iff, false_imp_iff, imp_self, Bool.not_false, Bool.not_true, reduceCtorEq, ab_isJ, ab_psh, ab_cats, Bool.false_eq_true, if_true, if_false, ab_shf, ab_shw, Int.le_refl, Classical.not_not, Int.zero_add, forall_const, ↓ab_itT, ↓ab_itF, ab_anT, true_or]
    all_goals exact hq'
theorem ma_back_l (hg : ab_Geo σ) (hm : 0 ≤ m ∧ m < 3) (hw : ∀ k, 0 ≤ k → k < 18 → ab_rd σ 359 (18 * m + k) = w k) : ∀ (n : Nat) (i : Int), 0 ≤ i → i + n = 18 → (ab_Run X 284 32 (2, 0, 0) [ab_R 355, ab_I m, ab_I i] [] (ab_fl σ 357 i w) Q ↔ Q (some (ab_I 1)) (ab_wr (ab_wr (ab_wr (ab_fl σ 357 18 w) 355 19 0) 355 1 0) 355 2 (-1))) := by
  intro n
  induction n with
  | zero =>
    intro i hi hn
    obtain rfl : i = 18 := by omega
    have w1 : ab_Same ac_PY σ (ab_wr (ab_fl σ 357 18 w) 355 19 0) := (ab_Same.refl.fl (fun y _ _ => Or.inr (Or.inr (by omega)))).wr (Or.inr (Or.inl ⟨rfl, Or.inl rfl⟩))
    have c6 := fun Q' => sp_granted (X := X) (Q := Q') (hg.same w1 ac_PY_pt)
    rw [rX13_back_32]
    simp (disch := omega) only [rX13_back_33, rX13_back_35, rX13_back_61, rX13_back_62, rX13_back_63, rX13_back_66, rX13_back_67, rX13_back_70, gS_355, hg, c6, ne_eq, not_false_eq_true, not_true_eq_false, true_and, and_true, and_self, true_imp_iff, false_imp_iff, imp_self, Bool.not_false, Bool.not_true, reduceCtorEq, ab_isJ, ab_psh, ab_cats, Bool.false_eq_true, if_true, if_false, ab_shf, ab_shw, Int.le_refl, Classical.not_not, Int.zero_add, forall_const, ↓ab_itT, ↓ab_itF, ab_anT, ab_w32_id, ab_rdf_ne, ab_rdw_ne, ab_rdw_eq, ab_rdf_in, ab_td2, ab_tm2, or_true]
  | succ n ih =>
    intro i hi hn
    have key := ih (i + 1) (by omega) (by omega)
    have e := hw i hi (by omega)
    rw [← ab_fl_succ hi] at key
    rw [rX13_back_32, ← key]
    simp (disch := omega) only [rX13_back_33, rX13_back_35, rX13_back_38, rX13_back_39, rX13_back_42, rX13_back_43, rX13_back_44, rX13_back_47, rX13_back_49, rX13_back_50, rX13_back_51, rX13_back_52, rX13_back_53, rX13_back_54, rX13_back_55, rX13_back_58, gS_355, gP_355_16, gP_355_18, gS_357, gS_359, hg, e, ne_eq, not_false_eq_true, not_true_eq_false, true_and, and_true, and_self, true_imp_iff, false_imp_iff, imp_self, Bool.not_false, Bool.not_true, reduceCtorEq, ab_isJ, ab_psh, ab_cats, Bool.false_eq_true, if_true, if_false, ab_shf, ab_shw, Int.le_refl, Classical.not_not, Int.zero_add, forall_const, ↓ab_itT, ↓ab_itF, ab_anT, ab_w32_id, ab_rdf_ne, ab_rdw_ne, ab_rdw_eq, ab_rdf_in, ab_td2, ab_tm2]
theorem ma_back (h : ac_MS σ κ v na pa nm pm) (h0 : ¬ 0 < κ 5 0 → nm = 0) (hV : ∀ i, 0 ≤ i → i < nm → ac_VB κ (pm i)) (hQ1 : ac_bkT nm k ≠ 0 → ∀ τ, ab_Same ac_PM σ τ → ab_rd τ 355 1 = ac_bkT nm k → ab_rd τ 355 2 = -1 → Q (some (ab_I 0)) τ) (hQ0 : ac_bkT nm k = 0 → ∀ τ, ab_Same ac_PY σ τ → ab_rd τ 355 1 = 0 → ab_rd τ 355 2 = -1 → ac_MS τ κ (pm k) 0 pa nm pm → Q (some (ab_I 1)) τ) : ab_Do X 284 [ab_R 355, ab_I k] σ Q := by
  have hN := h.1
  have h' := hN.same (τ := ab_wr σ 355 0 0) ac_mq0
  have g0 := hN.1
  have g := h'.1
  have hm0 := h.same (τ := ab_wr σ 355 0 0) ac_mq0
  have cin := fun x lo hi Q' => mq_in (X := X) (σ := ab_wr σ 355 0 0) (Q := Q') (x := x) (lo := lo) (hi := hi)
  have cd := fun v Q' => sp_denied (X := X) (Q := Q') (v := v) g
  have cr := fun v Q' => sp_refused (X := X) (Q := Q') (v := v) g
  obtain ⟨q1, q2, q3, q4, q5, q6⟩ := hm0.2.2
  by_cases hn : 0 ≤ k ∧ k < nm
  · have hp : 0 < κ 5 0 := by
      apply Classical.byContradiction
      intro u
      have := h0 u
      omega
    obtain ⟨M, hm⟩ := h'.mi hp
    have h3 := hm.2.1
    have zM := hm.2.2.1.1
    have eT : ac_bkT nm k = 0 := by unfold ac_bkT; rw [if_pos hn]
    have L := ma_back_l (X := X) (Q := Q) (w := pm k) (m := k) g (by omega) (fun j k1 k2 => q6 k j hn.1 hn.2 k1 k2) 18 0 (by omega) (by omega)
    rw [ab_fl0 (Int.le_refl 0)] at L
    have w2 : ab_Same ac_PY σ (ab_wr (ab_fl (ab_wr σ 355 0 0) 357 18 (pm k)) 355 19 0) := (ac_mq0.my.fl (fun y _ _ => Or.inr (Or.inr (by omega)))).wr (Or.inr (Or.inl ⟨rfl, Or.inl rfl⟩))
    have H2 : ac_HM (ab_wr (ab_fl (ab_wr σ 355 0 0) 357 18 (pm k)) 355 19 0) 0 pa nm pm := ⟨ab_rdw_eq, by rw [ab_rdw_ne (by omega), ab_rdf_ne (by omega), q2], by omega, q4, fun i k a1 a2 a3 a4 => by omega, fun i k a1 a2 a3 a4 => by rw [ab_rdw_ne (by omega), ab_rdf_ne (by omega), q6 i k a1 a2 a3 a4]⟩
    have key := hQ0 eT _ (ac_endY w2).1 (ac_endY w2).2.1 (ac_endY w2).2.2 (h.act (ac_endY w2).1 (fun k k1 k2 => by
        rw [ab_rdw_ne (by omega), ab_rdw_ne (by omega), ab_rdw_ne (by omega), ab_rdf_in ⟨k1, k2⟩]) (hV k hn.1 hn.2) (H2.same ac_end2))
    have k2 := L.mpr key
    clear hQ0 hQ1 L H2 q5 q6 key
    simp (disch := omega) only [do_X13_back, rX13_back_0, rX13_back_1, rX13_back_2, rX13_back_5, rX13_back_6, rX13_back_9, rX13_back_12, rX13_back_13, rX13_back_16, rX13_back_17, rX13_back_18, rX13_back_21, rX13_back_24, rX13_back_25, rX13_back_26, rX13_back_29, rX13_back_30, rX13_back_31, gS_355, g0, g, h3, q2, ne_eq, not_false_eq_true, not_true_eq_false, true_and, and_true, and_self, true_imp_iff, false_imp_iff, imp_self, Bool.not_false, Bool.not_true, reduceCtorEq, ab_isJ, ab_psh, ab_cats, Bool.false_eq_true, if_true, if_false, ab_shf, ab_shw, Int.le_refl, Classical.not_not, Int.zero_add, forall_const, ↓ab_itT, ↓ab_itF, ab_anT, or_true]
    all_goals exact k2
  · have eT : ac_bkT nm k = 1 := (by unfold ac_bkT; rw [if_neg hn])
    have hq' := hQ1 (by rw [eT]; decide) _ (ac_end1 ac_mq0).1 (by rw [eT]; exact (ac_end1 ac_mq0).2.1) (ac_end1 ac_mq0).2.2
    clear q5 q6
    by_cases hp : 0 < κ 5 0
    · obtain ⟨M, hm⟩ := h'.mi hp
      have h3 := hm.2.1
      have zM := hm.2.2.1.1
      by_cases hk : 0 ≤ k
      · simp (disch := omega) only [do_X13_back, rX13_back_0, rX13_back_1, rX13_back_2, rX13_back_5, rX13_back_6, rX13_back_9, rX13_back_12, rX13_back_13, rX13_back_16, rX13_back_17, rX13_back_18, rX13_back_21, rX13_back_24, rX13_back_25, rX13_back_26, rX13_back_29, gS_355, g0, g, h3, q2, cd, ne_eq, not_false_eq_true, not_true_eq_false, true_and, and_true, and_self, true_imp_iff, false_imp_iff, imp_self, Bool.not_false, Bool.not_true, reduceCtorEq, ab_isJ, ab_psh, ab_cats, Bool.false_eq_true, if_true, if_false, ab_shf, ab_shw, Int.le_refl, Classical.not_not, Int.zero_add, forall_const, ↓ab_itT, ↓ab_itF, ab_anT, true_or]
        all_goals exact hq'
      · simp (disch := omega) only [do_X13_back, rX13_back_0, rX13_back_1, rX13_back_2, rX13_back_5, rX13_back_6, rX13_back_9, rX13_back_12, rX13_back_13, rX13_back_16, rX13_back_17, rX13_back_18, rX13_back_21, rX13_back_24, rX13_back_25, rX13_back_26, rX13_back_29, gS_355, g0, g, h3, q2, cd, ne_eq, not_false_eq_true, not_true_eq_false, true_and, and_true, and_self, true_imp_iff, false_imp_iff, imp_self, Bool.not_false, Bool.not_true, reduceCtorEq, ab_isJ, ab_psh, ab_cats, Bool.false_eq_true, if_true, if_false, ab_shf, ab_shw, Int.le_refl, Classical.not_not, Int.zero_add, forall_const, ↓ab_itT, ↓ab_itF, ab_anT, true_or]
        all_goals exact hq'
    · have e0 := h'.null hp
      simp (disch := omega) only [do_X13_back, rX13_back_0, rX13_back_1, rX13_back_2, rX13_back_5, rX13_back_6, rX13_back_9, rX13_back_12, rX13_back_13, rX13_back_16, rX13_back_17, rX13_back_18, rX13_back_21, rX13_back_24, rX13_back_25, rX13_back_26, rX13_back_29, gS_355, g0, g, e0, cd, ne_eq, not_false_eq_true, not_true_eq_false, true_and, and_true, and_self, true_imp_iff, false_imp_iff, imp_self, Bool.not_false, Bool.not_true, reduceCtorEq, ab_isJ, ab_psh, ab_cats, Bool.false_eq_true, if_true, if_false, ab_shf, ab_shw, Int.le_refl, Classical.not_not, Int.zero_add, forall_const, ↓ab_itT, ↓ab_itF, ab_anT, true_or]
      all_goals exact hq'
end
