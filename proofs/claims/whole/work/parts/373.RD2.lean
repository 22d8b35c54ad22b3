/-! READER of the class: readWhole, readKind, enter -/
def ac_kvl (tp : Int → Int) (n s : Int) : Int := ac_kv tp (ac_ke tp n s - s).toNat s 0
abbrev ac_isw (tp : Int → Int) (n s : Int) (T : List Int) : Prop := ac_kk tp n s = 2 ∧ ac_kwd tp n s = ac_tl T
def ac_kd (tp : Int → Int) (n s : Int) (A B C D : List Int) : Int := if ac_isw tp n s A then 0 else if ac_isw tp n s B then 1 else if ac_isw tp n s C then 2 else if ac_isw tp n s D then 3 else -1
section
variable {X : ab_X} {σ τ υ : ab_S} {Q : Option ab_V → ab_S → Prop} {n p s x y t i ln a b c d f g k q lo hi : Int} {tp : Int → Int} {T A B C D : List Int}
theorem sp_readWhole (h : ac_RC σ n tp s) (hX : ac_TX a T) (hF1 : ¬ ac_isw tp n s T → ∀ τ, ab_Same ac_PR σ τ → ab_rd τ 2 2 = 1 → ab_rd τ 2 3 = s → Q (some (ab_I 0)) τ) (hF2 : ac_isw tp n s T → ac_wf tp n (ac_nx tp n s) lo hi ≠ 0 → ∀ τ, ab_Same ac_PR σ τ → ab_rd τ 2 2 = ac_wf tp n (ac_nx tp n s) lo hi → ab_rd τ 2 3 = ac_nx tp n s → Q (some (ab_I 0)) τ) (hO : ac_isw tp n s T → ac_wf tp n (ac_nx tp n s) lo hi = 0 → ∀ τ, ab_Same ac_PR σ τ → ab_rd τ 2 5 = ac_kvl tp n (ac_nx tp n s) → ac_RC τ n tp (ac_nx tp n (ac_nx tp n s)) → Q (some (ab_I 1)) τ) : ab_Do X 55 [ab_R 2, ab_R a, ab_I lo, ab_I hi] σ Q := by
  have g := h.1.1
  have ha := hX.1
  have key : ab_Do X 54 [ab_R 2, ab_R a] σ (fun r σ' => ab_Run X 55 5 (12, 0, 0) [ab_R 2, ab_R a, ab_I lo, ab_I hi] (ab_psh r []) σ' Q) := by
    refine sp_readWord h hX (fun z τ u1 u2 u3 => ?_) (fun z τ u1 u2 => ?_)
    · have k := hF1 z τ u1 u2 u3
      clear hF1 hF2 hO h
      simp (disch := omega) only [rX7_readWhole_5, rX7_readWhole_8, rX7_readWhole_9, rX7_readWhole_10, rX7_readWhole_11, rX7_readWhole_14, rX7_readWhole_17, rX7_readWhole_18, ne_eq, not_false_eq_true, not_true_eq_false, true_and, and_true, and_self, true_imp_iff, false_imp_iff, imp_self, Bool.not_false, Bool.not_true, reduceCtorEq, ab_isJ, ab_psh, ab_cats, Bool.false_eq_true, if_true, if_false, ab_shf, ab_shw, Int.le_refl, Classical.not_not, Int.zero_add, forall_const, ↓ab_itT, ↓ab_itF, ab_anT, ab_w32_id, ab_rdf_ne, ab_rdw_ne, ab_rdw_eq, ab_rdf_in, ab_td2, ab_tm2, true_or, or_true]
      all_goals exact k
    · have s1 : ab_Same ac_PR σ τ := u1.mono (fun _ _ u => Or.inl u)
      have gt := u2.1.1
      have k2 : ab_Do X 57 [ab_R 2, ab_I lo, ab_I hi] τ (fun r σ' => ab_Run X 55 14 (12, 0, 0) [ab_R 2, ab_R a, ab_I lo, ab_I hi] (ab_psh r []) σ' Q) := by
        refine sp_isWhole u2 (fun y υ v1 v2 v3 => ?_) (fun y => ?_)
        · have k := hF2 z y υ (s1.trans v1) v2 v3
          clear hF1 hF2 hO h u2
          simp (disch := omega) only [rX7_readWhole_14, rX7_readWhole_17, rX7_readWhole_18, ne_eq, not_false_eq_true, not_true_eq_false, true_and, and_true, and_self, true_imp_iff, false_imp_iff, imp_self, Bool.not_false, Bool.not_true, reduceCtorEq, ab_isJ, ab_psh, ab_cats, Bool.false_eq_true, if_true, if_false, ab_shf, ab_shw, Int.le_refl, Classical.not_not, Int.zero_add, forall_const, ↓ab_itT, ↓ab_itF, ab_anT, ab_w32_id, ab_rdf_ne, ab_rdw_ne, ab_rdw_eq, ab_rdf_in, ab_td2, ab_tm2, true_or, or_true]
          all_goals exact k
        · have s5 : ab_Same (fun a f => a = 2 ∧ (f = 5 ∨ f = 5)) τ (ab_wr τ 2 5 (ac_kv tp (ac_ke tp n (ac_nx tp n s) - ac_nx tp n s).toNat (ac_nx tp n s) 0)) := ab_Same.refl.wr ⟨rfl, by omega⟩
          have h5 := u2.sameR s5
          have g5 := h5.1.1
          have k3 : ab_Do X 70 [ab_R 3] (ab_wr τ 2 5 (ac_kv tp (ac_ke tp n (ac_nx tp n s) - ac_nx tp n s).toNat (ac_nx tp n s) 0)) (fun r σ' => ab_Run X 55 26 (12, 0, 0) [ab_R 2, ab_R a, ab_I lo, ab_I hi] (ab_psh r []) σ' Q) := by
            refine sp_nextR h5 (fun υ v1 v2 => ?_)
            have k := hO z y υ ((s1.trans (s5.mono (fun _ _ u => Or.inr ⟨u.1, by omega⟩))).trans (v1.mono (fun _ _ u => Or.inl u))) (by rw [v1.2.2 2 5 (by unfold ac_PK9; omega), ab_rdw_eq]; rfl) v2
            clear hF1 hF2 hO h u2 h5
            simp (disch := omega) only [rX7_readWhole_26, rX7_readWhole_27, ne_eq, not_false_eq_true, not_true_eq_false, true_and, and_true, and_self, true_imp_iff, false_imp_iff, imp_self, Bool.not_false, Bool.not_true, reduceCtorEq, ab_isJ, ab_psh, ab_cats, Bool.false_eq_true, if_true, if_false, ab_shf, ab_shw, Int.le_refl, Classical.not_not, Int.zero_add, forall_const, ↓ab_itT, ↓ab_itF, ab_anT, ab_w32_id, ab_rdf_ne, ab_rdw_ne, ab_rdw_eq, ab_rdf_in, ab_td2, ab_tm2, true_or, or_true]
            all_goals exact k
          clear hF1 hF2 hO h u2 h5 s5
          simp (disch := omega) only [rX7_readWhole_14, rX7_readWhole_19, rX7_readWhole_20, rX7_readWhole_23, gS_2, gP_2_0, gS_3, g5, ne_eq, not_false_eq_true, not_true_eq_false, true_and, and_true, and_self, true_imp_iff, false_imp_iff, imp_self, Bool.not_false, Bool.not_true, reduceCtorEq, ab_isJ, ab_psh, ab_cats, Bool.false_eq_true, if_true, if_false, ab_shf, ab_shw, Int.le_refl, Classical.not_not, Int.zero_add, forall_const, ↓ab_itT, ↓ab_itF, ab_anT, true_or, or_true]
          all_goals exact k3
      clear hF1 hF2 hO h u2
      simp (disch := omega) only [rX7_readWhole_5, rX7_readWhole_8, rX7_readWhole_9, rX7_readWhole_10, rX7_readWhole_11, gS_2, gt, ne_eq, not_false_eq_true, not_true_eq_false, true_and, and_true, and_self, true_imp_iff, false_imp_iff, imp_self, Bool.not_false, Bool.not_true, reduceCtorEq, ab_isJ, ab_psh, ab_cats, Bool.false_eq_true, if_true, if_false, ab_shf, ab_shw, Int.le_refl, Classical.not_not, Int.zero_add, forall_const, ↓ab_itT, ↓ab_itF, ab_anT, ab_w32_id, ab_rdf_ne, ab_rdw_ne, ab_rdw_eq, ab_rdf_in, ab_td2, ab_tm2, true_or, or_true]
      all_goals exact k2
  clear hF1 hF2 hO h
  simp (disch := omega) only [do_X7_readWhole, rX7_readWhole_0, rX7_readWhole_1, rX7_readWhole_2, gS_2, g, ne_eq, not_false_eq_true, not_true_eq_false, true_and, and_true, and_self, true_imp_iff, false_imp_iff, imp_self, Bool.not_false, Bool.not_true, reduceCtorEq, ab_isJ, ab_psh, ab_cats, Bool.false_eq_true, if_true, if_false, ab_shf, ab_shw, Int.le_refl, Classical.not_not, Int.zero_add, forall_const, ↓ab_itT, ↓ab_itF, ab_anT, ab_w32_id, ab_rdf_ne, ab_rdw_ne, ab_rdw_eq, ab_rdf_in, ab_td2, ab_tm2, true_or, or_true]
  all_goals exact key
theorem sp_rk_e (h : ac_RC σ n tp s) {L : List ab_V} (hL : ∀ Q' : Option ab_V → ab_S → Prop, ∀ τ, ab_Geo τ → (ab_Do X 70 [ab_R 3] τ (fun r σ' => ab_Run X 56 90 (11, 0, 0) L (ab_psh r []) σ' Q') → ab_Run X 56 83 (11, 0, 0) L [] τ Q')) (hQ : ∀ τ, ab_Same ac_PR σ τ → ab_rd τ 2 5 = k → ac_RC τ n tp (ac_nx tp n s) → Q (some (ab_I 1)) τ) : ab_Run X 56 83 (11, 0, 0) L [] (ab_wr σ 2 5 k) Q := by
  have s5 : ab_Same (fun a f => a = 2 ∧ (f = 5 ∨ f = 5)) σ (ab_wr σ 2 5 k) := ab_Same.refl.wr ⟨rfl, by omega⟩
  have h5 := h.sameR s5
  refine hL Q _ h5.1.1 (sp_nextR h5 (fun υ v1 v2 => ?_))
  have kk := hQ υ ((s5.mono (fun _ _ u => Or.inr ⟨u.1, by omega⟩)).trans (v1.mono (fun _ _ u => Or.inl u))) (by rw [v1.2.2 2 5 (by unfold ac_PK9; omega), ab_rdw_eq]) v2
  clear hQ hL h h5
  simp (disch := omega) only [rX7_readKind_90, rX7_readKind_91, ne_eq, not_false_eq_true, not_true_eq_false, true_and, and_true, and_self, true_imp_iff, false_imp_iff, imp_self, Bool.not_false, Bool.not_true, reduceCtorEq, ab_isJ, ab_psh, ab_cats, Bool.false_eq_true, if_true, if_false, ab_shf, ab_shw, Int.le_refl, Classical.not_not, Int.zero_add, forall_const, ↓ab_itT, ↓ab_itF, ab_anT, ab_w32_id, ab_rdf_ne, ab_rdw_ne, ab_rdw_eq, ab_rdf_in, ab_td2, ab_tm2, true_or, or_true]
  all_goals exact kk
theorem sp_readKind (h : ac_RC σ n tp s) (hA : ac_TX a A) (hB : ac_TX b B) (hC : ac_TX c C) (hD : ac_TX d D) (hF : ac_kd tp n s A B C D = -1 → ∀ τ, ab_Same ac_PR σ τ → ab_rd τ 2 2 = 1 → ab_rd τ 2 3 = s → Q (some (ab_I 0)) τ) (hO : ac_kd tp n s A B C D ≠ -1 → ∀ τ, ab_Same ac_PR σ τ → ab_rd τ 2 5 = ac_kd tp n s A B C D → ac_RC τ n tp (ac_nx tp n s) → Q (some (ab_I 1)) τ) : ab_Do X 56 [ab_R 2, ab_R a, ab_R b, ab_R c, ab_R d] σ Q := by
  have cA := fun Q' => sp_readsR (X := X) (Q := Q') h hA
  have cB := fun Q' => sp_readsR (X := X) (Q := Q') h hB
  have cC := fun Q' => sp_readsR (X := X) (Q := Q') h hC
  have cD := fun Q' => sp_readsR (X := X) (Q := Q') h hD
  have c2 := fun k Q' => sp_stop (X := X) (Q := Q') (k := k) h
  have g := h.1.1
  have a1 := hA.1
  have b1 := hB.1
  have c1 := hC.1
  have d1 := hD.1
  have tail : ∀ Q' : Option ab_V → ab_S → Prop, ∀ τ, ab_Geo τ → (ab_Do X 70 [ab_R 3] τ (fun r σ' => ab_Run X 56 90 (11, 0, 0) [ab_R 2, ab_R a, ab_R b, ab_R c, ab_R d] (ab_psh r []) σ' Q') → ab_Run X 56 83 (11, 0, 0) [ab_R 2, ab_R a, ab_R b, ab_R c, ab_R d] [] τ Q') := by
    intro Q' τ gt u
    clear cA cB cC cD c2 hF hO h
    simp (disch := omega) only [rX7_readKind_83, rX7_readKind_84, rX7_readKind_87, gS_2, gP_2_0, gS_3, gt, ne_eq, not_false_eq_true, not_true_eq_false, true_and, and_true, and_self, true_imp_iff, false_imp_iff, imp_self, Bool.not_false, Bool.not_true, reduceCtorEq, ab_isJ, ab_psh, ab_cats, Bool.false_eq_true, if_true, if_false, ab_shf, ab_shw, Int.le_refl, Classical.not_not, Int.zero_add, forall_const, ↓ab_itT, ↓ab_itF, ab_anT, ab_w32_id, ab_rdf_ne, ab_rdw_ne, ab_rdw_eq, ab_rdf_in, ab_td2, ab_tm2, true_or, or_true]
    all_goals exact u
  have e := fun k (q : ac_kd tp n s A B C D = k) (q1 : k ≠ -1) => sp_rk_e (X := X) (Q := Q) (k := k) h tail (by rw [q] at hO; exact hO q1)
  unfold ac_kd at e hF
  by_cases zA : ac_isw tp n s A
  · have key := e 0 (if_pos zA) (by decide)
    rw [if_pos zA] at cA
    clear e tail cB cC cD c2 hF hO h zA
    simp (disch := omega) only [do_X7_readKind, rX7_readKind_0, rX7_readKind_1, rX7_readKind_4, rX7_readKind_5, rX7_readKind_8, rX7_readKind_11, rX7_readKind_12, rX7_readKind_13, rX7_readKind_16, gS_2, gP_2_0, gS_3, g, cA, ne_eq, not_false_eq_true, not_true_eq_false, true_and, and_true, and_self, true_imp_iff, false_imp_iff, imp_self, Bool.not_false, Bool.not_true, reduceCtorEq, ab_isJ, ab_psh, ab_cats, Bool.false_eq_true, if_true, if_false, ab_shf, ab_shw, Int.le_refl, Classical.not_not, Int.zero_add, forall_const, ↓ab_itT, ↓ab_itF, ab_anT, ab_w32_id, ab_rdf_ne, ab_rdw_ne, ab_rdw_eq, ab_rdf_in, ab_td2, ab_tm2, true_or, or_true]
    all_goals exact key
  · rw [if_neg zA] at cA e hF
    by_cases zB : ac_isw tp n s B
    · have key := e 1 (if_pos zB) (by decide)
      rw [if_pos zB] at cB
      clear e tail cC cD c2 hF hO h zA zB
      simp (disch := omega) only [do_X7_readKind, rX7_readKind_0, rX7_readKind_1, rX7_readKind_4, rX7_readKind_5, rX7_readKind_8, rX7_readKind_19, rX7_readKind_20, rX7_readKind_23, rX7_readKind_24, rX7_readKind_27, rX7_readKind_30, rX7_readKind_31, rX7_readKind_32, rX7_readKind_35, gS_2, gP_2_0, gS_3, g, cA, cB, ne_eq, not_false_eq_true, not_true_eq_false, true_and, and_true, and_self, true_imp_iff, false_imp_iff, imp_self, Bool.not_false, Bool.not_true, reduceCtorEq, ab_isJ, ab_psh, ab_cats, Bool.false_eq_true, if_true, if_false, ab_shf, ab_shw, Int.le_refl, Classical.not_not, Int.zero_add, forall_const, ↓ab_itT, ↓ab_itF, ab_anT, ab_w32_id, ab_rdf_ne, ab_rdw_ne, ab_rdw_eq, ab_rdf_in, ab_td2, ab_tm2, true_or, or_true]
      all_goals exact key
    · rw [if_neg zB] at cB e hF
      by_cases zC : ac_isw tp n s C
      · have key := e 2 (if_pos zC) (by decide)
        rw [if_pos zC] at cC
        clear e tail cD c2 hF hO h zA zB zC
        simp (disch := omega) only [do_X7_readKind, rX7_readKind_0, rX7_readKind_1, rX7_readKind_4, rX7_readKind_5, rX7_readKind_8, rX7_readKind_19, rX7_readKind_20, rX7_readKind_23, rX7_readKind_24, rX7_readKind_27, rX7_readKind_38, rX7_readKind_39, rX7_readKind_42, rX7_readKind_43, rX7_readKind_46, rX7_readKind_49, rX7_readKind_50, rX7_readKind_51, rX7_readKind_54, gS_2, gP_2_0, gS_3, g, cA, cB, cC, ne_eq, not_false_eq_true, not_true_eq_false, true_and, and_true, and_self, true_imp_iff, false_imp_iff, imp_self, Bool.not_false, Bool.not_true, reduceCtorEq, ab_isJ, ab_psh, ab_cats, Bool.false_eq_true, if_true, if_false, ab_shf, ab_shw, Int.le_refl, Classical.not_not, Int.zero_add, forall_const, ↓ab_itT, ↓ab_itF, ab_anT, ab_w32_id, ab_rdf_ne, ab_rdw_ne, ab_rdw_eq, ab_rdf_in, ab_td2, ab_tm2, true_or, or_true]
        all_goals exact key
      · rw [if_neg zC] at cC e hF
        by_cases zD : ac_isw tp n s D
        · have key := e 3 (if_pos zD) (by decide)
          rw [if_pos zD] at cD
          clear e tail c2 hF hO h zA zB zC zD
          simp (disch := omega) only [do_X7_readKind, rX7_readKind_0, rX7_readKind_1, rX7_readKind_4, rX7_readKind_5, rX7_readKind_8, rX7_readKind_19, rX7_readKind_20, rX7_readKind_23, rX7_readKind_24, rX7_readKind_27, rX7_readKind_38, rX7_readKind_39, rX7_readKind_42, rX7_readKind_43, rX7_readKind_46, rX7_readKind_57, rX7_readKind_58, rX7_readKind_61, rX7_readKind_63, rX7_readKind_66, rX7_readKind_69, rX7_readKind_70, rX7_readKind_71, rX7_readKind_74, gS_2, gP_2_0, gS_3, g, cA, cB, cC, cD, ne_eq, not_false_eq_true, not_true_eq_false, true_and, and_true, and_self, true_imp_iff, false_imp_iff, imp_self, Bool.not_false, Bool.not_true, reduceCtorEq, ab_isJ, ab_psh, ab_cats, Bool.false_eq_true, if_true, if_false, ab_shf, ab_shw, Int.le_refl, Classical.not_not, Int.zero_add, forall_const, ↓ab_itT, ↓ab_itF, ab_anT, ab_w32_id, ab_rdf_ne, ab_rdw_ne, ab_rdw_eq, ab_rdf_in, ab_td2, ab_tm2, true_or, or_true]
          all_goals exact key
        · rw [if_neg zD] at cD hF
          have key := hF rfl _ ac_stp_e.1 ac_stp_e.2.1 ac_stp_e.2.2
          clear e tail hF hO h zA zB zC zD
          simp (disch := omega) only [do_X7_readKind, rX7_readKind_0, rX7_readKind_1, rX7_readKind_4, rX7_readKind_5, rX7_readKind_8, rX7_readKind_19, rX7_readKind_20, rX7_readKind_23, rX7_readKind_24, rX7_readKind_27, rX7_readKind_38, rX7_readKind_39, rX7_readKind_42, rX7_readKind_43, rX7_readKind_46, rX7_readKind_57, rX7_readKind_58, rX7_readKind_61, rX7_readKind_63, rX7_readKind_66, rX7_readKind_77, rX7_readKind_78, rX7_readKind_79, rX7_readKind_82, gS_2, gP_2_0, gS_3, g, cA, cB, cC, cD, c2, ne_eq, not_false_eq_true, not_true_eq_false, true_and, and_true, and_self, true_imp_iff, false_imp_iff, imp_self, Bool.not_false, Bool.not_true, reduceCtorEq, ab_isJ, ab_psh, ab_cats, Bool.false_eq_true, if_true, if_false, ab_shf, ab_shw, Int.le_refl, Classical.not_not, Int.zero_add, forall_const, ↓ab_itT, ↓ab_itF, ab_anT, ab_w32_id, ab_rdf_ne, ab_rdw_ne, ab_rdw_eq, ab_rdf_in, ab_td2, ab_tm2, true_or, or_true]
          all_goals exact key
end
