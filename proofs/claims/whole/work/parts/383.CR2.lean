/-! READER of the class: the small pieces against the pure reader -/
section
variable {X : ab_X} {σ τ υ : ab_S} {Q : Option ab_V → ab_S → Prop} {n p s x y t i ln a b c0 d f g k q lo hi K v w o told most : Int} {tp : Int → Int} {T A B C D : List Int} {κ κ' : ac_K} {r : ar_R} {P : Int → Int → Prop}
theorem sp_wordE {c : Int → ar_R} (h : ac_RC σ n tp s) (hX : ac_TX a T) (er : pr_word tp n T s c = r) (hF : ∀ w pl, r = .inl (w, pl) → ∀ τ, ab_Same ac_PR σ τ → ab_rd τ 2 2 = w → ab_rd τ 2 3 = pl → Q (some (ab_I 0)) τ) (hO : c (ac_nx tp n s) = r → ∀ τ, ab_Same ac_PR σ τ → ac_RC τ n tp (ac_nx tp n s) → Q (some (ab_I 1)) τ) : ab_Do X 54 [ab_R 2, ab_R a] σ Q := by
  unfold pr_word at er
  refine sp_readWord h hX (fun z τ u1 u2 u3 => ?_) (fun z τ u1 u2 => ?_)
  · rw [if_neg z] at er
    exact hF 1 s er.symm τ u1 u2 u3
  · rw [if_pos z] at er
    exact hO er τ u1.kr u2
theorem sp_wholeE {c : Int → Int → ar_R} (h : ac_RC σ n tp s) (er : pr_whole tp n lo hi s c = r) (hF : ∀ w pl, r = .inl (w, pl) → ∀ τ, ab_Same ac_PR σ τ → ab_rd τ 2 2 = w → ab_rd τ 2 3 = pl → Q (some (ab_I 0)) τ) (hO : ∀ v, (lo ≤ v ∧ v ≤ hi) → c v (ac_nx tp n s) = r → ∀ τ, ab_Same (fun a f => a = 2 ∧ (f = 5 ∨ f = 5)) σ τ → ab_rd τ 2 5 = v → ac_RC τ n tp s → Q (some (ab_I 1)) τ) : ab_Do X 57 [ab_R 2, ab_I lo, ab_I hi] σ Q := by
  unfold pr_whole at er
  refine sp_isWhole h (fun z τ u1 u2 u3 => ?_) (fun z => ?_)
  · rw [if_neg z] at er
    exact hF _ s er.symm τ u1 u2 u3
  · rw [if_pos z] at er
    have s5 : ab_Same (fun a f => a = 2 ∧ (f = 5 ∨ f = 5)) σ (ab_wr σ 2 5 (ac_kv tp (ac_ke tp n s - s).toNat s 0)) := ab_Same.refl.wr ⟨rfl, by omega⟩
    exact hO _ (ar_wf0 z).2 er _ s5 ab_rdw_eq (h.sameR s5)
theorem sp_partE {c : Int → Int → ar_R} (h : ac_RC σ n tp s) (hX : ac_TX a T) (er : pr_part tp n T lo hi s c = r) (hF : ∀ w pl, r = .inl (w, pl) → ∀ τ, ab_Same ac_PR σ τ → ab_rd τ 2 2 = w → ab_rd τ 2 3 = pl → Q (some (ab_I 0)) τ) (hO : ∀ v s', c v s' = r → ∀ τ, ab_Same ac_PR σ τ → ab_rd τ 2 5 = v → ac_RC τ n tp s' → Q (some (ab_I 1)) τ) : ab_Do X 55 [ab_R 2, ab_R a, ab_I lo, ab_I hi] σ Q := by
  unfold pr_part pr_word pr_whole at er
  refine sp_readWhole h hX (fun z τ u1 u2 u3 => ?_) (fun z y τ u1 u2 u3 => ?_) (fun z y τ u1 u2 u3 => ?_)
  · rw [if_neg z] at er
    exact hF 1 s er.symm τ u1 u2 u3
  · rw [if_pos z] at er
    dsimp only at er
    rw [if_neg y] at er
    exact hF _ _ er.symm τ u1 u2 u3
  · rw [if_pos z] at er
    dsimp only at er
    rw [if_pos y] at er
    exact hO _ _ er τ u1 u2 u3
theorem sp_kindE {c : Int → Int → ar_R} (h : ac_RC σ n tp s) (hA : ac_TX a A) (hB : ac_TX b B) (hC : ac_TX c0 C) (hD : ac_TX d D) (er : pr_kind tp n A B C D s c = r) (hF : ∀ w pl, r = .inl (w, pl) → ∀ τ, ab_Same ac_PR σ τ → ab_rd τ 2 2 = w → ab_rd τ 2 3 = pl → Q (some (ab_I 0)) τ) (hO : ∀ v s', v = ac_kd tp n s A B C D → c v s' = r → ∀ τ, ab_Same ac_PR σ τ → ab_rd τ 2 5 = v → ac_RC τ n tp s' → Q (some (ab_I 1)) τ) : ab_Do X 56 [ab_R 2, ab_R a, ab_R b, ab_R c0, ab_R d] σ Q := by
  unfold pr_kind at er
  refine sp_readKind h hA hB hC hD (fun z τ u1 u2 u3 => ?_) (fun z τ u1 u2 u3 => ?_)
  · rw [if_pos z] at er
    exact hF 1 s er.symm τ u1 u2 u3
  · rw [if_neg z] at er
    exact hO _ _ rfl er τ u1 u2 u3
theorem sp_enterE {c : Int → ar_R} (h : ac_RC σ n tp s) (hk : ar_KF σ K κ) (h01 : κ 11 0 = 0 ∨ κ 11 0 = 1) (er : pr_enter tp n κ told most s c = r) (hF : ∀ w pl, r = .inl (w, pl) → ∀ τ, ab_Same ac_PR σ τ → ab_rd τ 2 2 = w → ab_rd τ 2 3 = pl → Q (some (ab_I 0)) τ) (hO : κ 11 0 = 1 → told < most → c (ac_nx tp n s) = r → ∀ τ, ab_Same ac_PR σ τ → ac_RC τ n tp (ac_nx tp n s) → Q (some (ab_I 1)) τ) : ab_Do X 45 [ab_R 2, ab_I told, ab_I most] σ Q := by
  have c2 := fun k Q' => sp_stop (X := X) (Q := Q') (k := k) h
  have g := h.1.1
  have h4 := hk.2.2.1
  unfold pr_enter at er
  by_cases z : κ 11 0 = 1
  · rw [if_pos z] at er
    rw [z] at h4
    by_cases y : told < most
    · rw [if_pos y] at er
      have key : ab_Do X 70 [ab_R 3] σ (fun r σ' => ab_Run X 45 32 (2, 0, 0) [ab_R 2, ab_I told, ab_I most] (ab_psh r []) σ' Q) := by
        refine sp_nextR h (fun τ u1 u2 => ?_)
        have k := hO z y er τ u1.kr u2
        clear hF hO c2
        simp (disch := omega) only [rX7_enter_32, rX7_enter_33, ne_eq, not_false_eq_true, not_true_eq_false, true_and, and_true, and_self, true_imp_iff, false_imp_iff, imp_self, Bool.not_false, Bool.not_true, reduceCtorEq, ab_isJ, ab_psh, ab_cats, Bool.false_eq_true, if_true, if_false, ab_shf, ab_shw, Int.le_refl, Classical.not_not, Int.zero_add, forall_const, ↓ab_itT, ↓ab_itF, ab_anT, ab_w32_id, ab_rdf_ne, ab_rdw_ne, ab_rdw_eq, ab_rdf_in, ab_td2, ab_tm2, true_or, or_true]
        all_goals exact k
      clear hF hO h c2 er
      simp (disch := omega) only [do_X7_enter, rX7_enter_0, rX7_enter_1, rX7_enter_4, rX7_enter_14, rX7_enter_15, rX7_enter_16, rX7_enter_25, rX7_enter_26, rX7_enter_29, gS_2, gP_2_0, gS_3, g, h4, ne_eq, not_false_eq_true, not_true_eq_false, true_and, and_true, and_self, true_imp_iff, false_imp_iff, imp_self, Bool.not_false, Bool.not_true, reduceCtorEq, ab_isJ, ab_psh, ab_cats, Bool.false_eq_true, if_true, if_false, ab_shf, ab_shw, Int.le_refl, Classical.not_not, Int.zero_add, forall_const, ↓ab_itT, ↓ab_itF, ab_anT, ab_w32_id, ab_rdf_ne, ab_rdw_ne, ab_rdw_eq, ab_rdf_in, ab_td2, ab_tm2, true_or, or_true]
      all_goals exact key
    · rw [if_neg y] at er
      have key := hF 5 s er.symm _ ac_stp_e.1 ac_stp_e.2.1 ac_stp_e.2.2
      clear hF hO h er
      simp (disch := omega) only [do_X7_enter, rX7_enter_0, rX7_enter_1, rX7_enter_4, rX7_enter_14, rX7_enter_15, rX7_enter_16, rX7_enter_19, rX7_enter_20, rX7_enter_21, rX7_enter_24, gS_2, gP_2_0, gS_3, g, h4, c2, ne_eq, not_false_eq_true, not_true_eq_false, true_and, and_true, and_self, true_imp_iff, false_imp_iff, imp_self, Bool.not_false, Bool.not_true, reduceCtorEq, ab_isJ, ab_psh, ab_cats, Bool.false_eq_true, if_true, if_false, ab_shf, ab_shw, Int.le_refl, Classical.not_not, Int.zero_add, forall_const, ↓ab_itT, ↓ab_itF, ab_anT, ab_w32_id, ab_rdf_ne, ab_rdw_ne, ab_rdw_eq, ab_rdf_in, ab_td2, ab_tm2, true_or, or_true]
      all_goals exact key
  · rw [if_neg z] at er
    have h4 : ab_rd σ 2 4 = 0 := by omega
    have key := hF 6 s er.symm _ ac_stp_e.1 ac_stp_e.2.1 ac_stp_e.2.2
    clear hF hO h er
    simp (disch := omega) only [do_X7_enter, rX7_enter_0, rX7_enter_1, rX7_enter_4, rX7_enter_7, rX7_enter_8, rX7_enter_10, rX7_enter_13, gS_2, gP_2_0, gS_3, g, h4, c2, ne_eq, not_false_eq_true, not_true_eq_false, true_and, and_true, and_self, true_imp_iff, false_imp_iff, imp_self, Bool.not_false, Bool.not_true, reduceCtorEq, ab_isJ, ab_psh, ab_cats, Bool.false_eq_true, if_true, if_false, ab_shf, ab_shw, Int.le_refl, Classical.not_not, Int.zero_add, forall_const, ↓ab_itT, ↓ab_itF, ab_anT, ab_w32_id, ab_rdf_ne, ab_rdw_ne, ab_rdw_eq, ab_rdf_in, ab_td2, ab_tm2, true_or, or_true]
    all_goals exact key
theorem ar_if01 {p : Prop} [Decidable p] {x y : Int} (hx : x = 0 ∨ x = 1) (hy : y = 0 ∨ y = 1) : (if p then x else y) = 0 ∨ (if p then x else y) = 1 := by
  by_cases h : p
  · rw [if_pos h]; exact hx
  · rw [if_neg h]; exact hy
theorem ac_nm01 : ac_nm tp n s = 0 ∨ ac_nm tp n s = 1 := by
  unfold ac_nm
  exact ar_if01 (ar_if01 (Or.inl rfl) (ar_if01 (Or.inl rfl) (ar_if01 (Or.inl rfl) (ar_if01 (Or.inl rfl) (ar_if01 (Or.inl rfl) (ar_if01 (Or.inl rfl) (ar_if01 (Or.inl rfl) (ar_if01 (Or.inl rfl) (ar_if01 (Or.inl rfl) (Or.inr rfl)))))))))) (Or.inl rfl)
theorem sp_newE {c : Int → ar_R} (h : ac_RC σ n tp s) (hk : ar_KF σ K κ) (hj : ar_J κ) (er : pr_new tp n κ s c = r) (hF : ∀ w pl, r = .inl (w, pl) → ∀ τ, ab_Same ac_PR σ τ → ab_rd τ 2 2 = w → ab_rd τ 2 3 = pl → Q (some (ab_I 0)) τ) (hO : ab_rd σ 3 5 = ar_W 27 tp n s → c (ac_nx tp n s) = r → Q (some (ab_I 1)) σ) : ab_Do X 59 [ab_R 2] σ Q := by
  have hK := hk.1
  have hv : K = 5 ∨ K = 329 := hK
  have g := h.1.1
  have sK := (g.kit hK).1
  have r1 := hk.2.1
  have c1 := fun Q' => sp_isName (X := X) (Q := Q') h
  have c2 := fun k Q' => sp_stop (X := X) (Q := Q') (k := k) h
  have cB := fun w Q' => sp_findBone (X := X) (Q := Q') (w := w) g hk hj.1
  have cP := fun w Q' => sp_findPerson (X := X) (Q := Q') (w := w) g hk hj.1
  unfold pr_new at er
  by_cases z : ac_nm tp n s = 1
  · rw [if_pos z] at er
    rw [z] at c1
    have k2 := ar_nm2 z
    have ok := ac_kwd_ok (q := 27) k2 h.2.2.1
    have e5 : ab_rd σ 3 5 = ac_wl 27 0 (ac_kwd tp n s) := by rw [h.2.1.2.2.2.2 k2]; exact ok.2 (Or.inl rfl)
    have n5 := hj.1.1
    have n6 := hj.1.2.1
    have L := ar_Ln hj.2.2.2.2.2.1 (by omega) ok.1
    have cB := fun Q' => cB (ac_wl 27 0 (ac_kwd tp n s)) Q'
    have cP := fun Q' => cP (ac_wl 27 0 (ac_kwd tp n s)) Q'
    by_cases y : ar_fnd κ (ar_W 32 tp n s) = -1
    · rw [if_pos y] at er
      have key := hO e5 er
      have yy := L.mp y
      rw [yy.1] at cB
      rw [yy.2] at cP
      clear hF hO h hk hj er L c2 yy y
      simp (disch := omega) only [do_X7_isNewName, rX7_isNewName_0, rX7_isNewName_1, rX7_isNewName_4, rX7_isNewName_7, rX7_isNewName_8, rX7_isNewName_9, rX7_isNewName_12, rX7_isNewName_13, rX7_isNewName_14, rX7_isNewName_17, rX7_isNewName_18, rX7_isNewName_21, rX7_isNewName_24, rX7_isNewName_27, rX7_isNewName_28, rX7_isNewName_31, rX7_isNewName_32, rX7_isNewName_35, rX7_isNewName_36, rX7_isNewName_39, rX7_isNewName_42, rX7_isNewName_45, rX7_isNewName_46, rX7_isNewName_49, rX7_isNewName_50, rX7_isNewName_53, rX7_isNewName_54, rX7_isNewName_55, rX7_isNewName_56, rX7_isNewName_59, rX7_isNewName_60, rX7_isNewName_61, rX7_isNewName_64, rX7_isNewName_67, rX7_isNewName_68, rX7_isNewName_71, rX7_isNewName_72, gS_2, gP_2_0, gS_3, g, r1, sK, e5, c1, cB, cP, ne_eq, not_false_eq_true, not_true_eq_false, true_and, and_true, and_self, true_imp_iff, false_imp_iff, imp_self, Bool.not_false, Bool.not_true, reduceCtorEq, ab_isJ, ab_psh, ab_cats, Bool.false_eq_true, if_true, if_false, ab_shf, ab_shw, Int.le_refl, Classical.not_not, Int.zero_add, forall_const, ↓ab_itT, ↓ab_itF, ab_anT, ab_w32_id, ab_rdf_ne, ab_rdw_ne, ab_rdw_eq, ab_rdf_in, ab_td2, ab_tm2, true_or, or_true]
      all_goals exact key
    · rw [if_neg y] at er
      have key := hF 3 s er.symm _ ac_stp_e.1 ac_stp_e.2.1 ac_stp_e.2.2
      have yy : ¬ (_ ∧ _) := fun u => y (L.mpr u)
      by_cases x1 : ar_fi (κ 33) (ac_wl 27 0 (ac_kwd tp n s)) (κ 5 0).toNat 0 = -1
      · have x2 : ¬ ar_fi (κ 34) (ac_wl 27 0 (ac_kwd tp n s)) (κ 6 0).toNat 0 = -1 := fun u => yy ⟨x1, u⟩
        rw [x1] at cB
        generalize ar_fi (κ 34) (ac_wl 27 0 (ac_kwd tp n s)) (κ 6 0).toNat 0 = x3 at cP x2
        clear hF hO h hk hj er L yy y
        simp (disch := omega) only [do_X7_isNewName, rX7_isNewName_0, rX7_isNewName_1, rX7_isNewName_4, rX7_isNewName_7, rX7_isNewName_8, rX7_isNewName_9, rX7_isNewName_12, rX7_isNewName_13, rX7_isNewName_14, rX7_isNewName_17, rX7_isNewName_18, rX7_isNewName_21, rX7_isNewName_24, rX7_isNewName_27, rX7_isNewName_28, rX7_isNewName_31, rX7_isNewName_32, rX7_isNewName_35, rX7_isNewName_36, rX7_isNewName_39, rX7_isNewName_42, rX7_isNewName_45, rX7_isNewName_46, rX7_isNewName_49, rX7_isNewName_50, rX7_isNewName_53, rX7_isNewName_54, rX7_isNewName_55, rX7_isNewName_56, rX7_isNewName_59, rX7_isNewName_60, rX7_isNewName_61, rX7_isNewName_64, rX7_isNewName_67, rX7_isNewName_68, rX7_isNewName_71, rX7_isNewName_72, gS_2, gP_2_0, gS_3, g, r1, sK, e5, c1, c2, cB, cP, ne_eq, not_false_eq_true, not_true_eq_false, true_and, and_true, and_self, true_imp_iff, false_imp_iff, imp_self, Bool.not_false, Bool.not_true, reduceCtorEq, ab_isJ, ab_psh, ab_cats, Bool.false_eq_true, if_true, if_false, ab_shf, ab_shw, Int.le_refl, Classical.not_not, Int.zero_add, forall_const, ↓ab_itT, ↓ab_itF, ab_anT, ab_w32_id, ab_rdf_ne, ab_rdw_ne, ab_rdw_eq, ab_rdf_in, ab_td2, ab_tm2, true_or, or_true]
        all_goals exact key
      · generalize ar_fi (κ 33) (ac_wl 27 0 (ac_kwd tp n s)) (κ 5 0).toNat 0 = x3 at cB x1
        clear hF hO h hk hj er L yy y
        simp (disch := omega) only [do_X7_isNewName, rX7_isNewName_0, rX7_isNewName_1, rX7_isNewName_4, rX7_isNewName_7, rX7_isNewName_8, rX7_isNewName_9, rX7_isNewName_12, rX7_isNewName_13, rX7_isNewName_14, rX7_isNewName_17, rX7_isNewName_18, rX7_isNewName_21, rX7_isNewName_24, rX7_isNewName_27, rX7_isNewName_28, rX7_isNewName_49, rX7_isNewName_50, rX7_isNewName_53, rX7_isNewName_54, rX7_isNewName_55, rX7_isNewName_56, rX7_isNewName_59, rX7_isNewName_60, rX7_isNewName_61, rX7_isNewName_64, rX7_isNewName_67, rX7_isNewName_68, rX7_isNewName_71, rX7_isNewName_72, gS_2, gP_2_0, gS_3, g, r1, sK, e5, c1, c2, cB, ne_eq, not_false_eq_true, not_true_eq_false, true_and, and_true, and_self, true_imp_iff, false_imp_iff, imp_self, Bool.not_false, Bool.not_true, reduceCtorEq, ab_isJ, ab_psh, ab_cats, Bool.false_eq_true, if_true, if_false, ab_shf, ab_shw, Int.le_refl, Classical.not_not, Int.zero_add, forall_const, ↓ab_itT, ↓ab_itF, ab_anT, ab_w32_id, ab_rdf_ne, ab_rdw_ne, ab_rdw_eq, ab_rdf_in, ab_td2, ab_tm2, true_or, or_true]
        all_goals exact key
  · rw [if_neg z] at er
    have z0 : ac_nm tp n s = 0 := by have := ac_nm01 (tp := tp) (n := n) (s := s); omega
    rw [z0] at c1
    have key := hF 1 s er.symm _ ac_stp_e.1 ac_stp_e.2.1 ac_stp_e.2.2
    clear hF hO h hk hj er cB cP
    simp (disch := omega) only [do_X7_isNewName, rX7_isNewName_0, rX7_isNewName_1, rX7_isNewName_4, rX7_isNewName_7, rX7_isNewName_8, rX7_isNewName_9, rX7_isNewName_12, gS_2, gP_2_0, gS_3, g, c1, c2, ne_eq, not_false_eq_true, not_true_eq_false, true_and, and_true, and_self, true_imp_iff, false_imp_iff, imp_self, Bool.not_false, Bool.not_true, reduceCtorEq, ab_isJ, ab_psh, ab_cats, Bool.false_eq_true, if_true, if_false, ab_shf, ab_shw, Int.le_refl, Classical.not_not, Int.zero_add, forall_const, ↓ab_itT, ↓ab_itF, ab_anT, ab_w32_id, ab_rdf_ne, ab_rdw_ne, ab_rdw_eq, ab_rdf_in, ab_td2, ab_tm2, true_or, or_true]
    all_goals exact key
theorem sp_persE {c : Int → Int → ar_R} (h : ac_RC σ n tp s) (hk : ar_KF σ K κ) (hj : ar_J κ) (er : pr_pers tp n κ o s c = r) (hF : ∀ w pl, r = .inl (w, pl) → ∀ τ, ab_Same ac_PR σ τ → ab_rd τ 2 2 = w → ab_rd τ 2 3 = pl → Q (some (ab_I 0)) τ) (hO : ∀ p, (0 ≤ p ∧ p < κ 6 0) → p ≠ o → c p (ac_nx tp n s) = r → ∀ τ, ab_Same ac_PR σ τ → ab_rd τ 2 5 = p → ac_RC τ n tp s → Q (some (ab_I 1)) τ) : ab_Do X 60 [ab_R 2, ab_I o] σ Q := by
  have hK := hk.1
  have hv : K = 5 ∨ K = 329 := hK
  have g := h.1.1
  have sK := (g.kit hK).1
  have r1 := hk.2.1
  have c1 := fun Q' => sp_isName (X := X) (Q := Q') h
  have c2 := fun k Q' => sp_stop (X := X) (Q := Q') (k := k) h
  have cP := fun w Q' => sp_findPerson (X := X) (Q := Q') (w := w) g hk hj.1
  unfold pr_pers at er
  by_cases z : ac_nm tp n s = 1
  · rw [if_pos z] at er
    rw [z] at c1
    have k2 := ar_nm2 z
    have ok := ac_kwd_ok (q := 27) k2 h.2.2.1
    have e5 : ab_rd σ 3 5 = ac_wl 27 0 (ac_kwd tp n s) := by rw [h.2.1.2.2.2.2 k2]; exact ok.2 (Or.inl rfl)
    have n5 := hj.1.1
    have n6 := hj.1.2.1
    have L : _ = ar_kp κ (ar_W 32 tp n s) := ar_Lp hj.2.2.2.2.2.1 (by omega) ok.1
    have B := ar_kp_b (w := ar_W 32 tp n s) hj.2.2.2.2.2.1 (by omega)
    have cP := fun Q' => cP (ac_wl 27 0 (ac_kwd tp n s)) Q'
    rw [L] at cP
    generalize ar_kp κ (ar_W 32 tp n s) = p at er cP B
    have s5 : ab_Same (fun a f => a = 2 ∧ (f = 5 ∨ f = 5)) σ (ab_wr σ 2 5 p) := ab_Same.refl.wr ⟨rfl, by omega⟩
    have s5' : ab_Same ac_PR σ (ab_wr σ 2 5 p) := s5.mono (fun _ _ u => Or.inr ⟨u.1, by omega⟩)
    have c3 := fun k Q' => sp_stop (X := X) (Q := Q') (k := k) (h.sameR s5)
    by_cases y : p = -1
    · rw [if_pos y] at er
      have key := hF 2 s er.symm _ (s5'.trans ac_stp_e.1) ac_stp_e.2.1 ac_stp_e.2.2
      clear hF hO h hk hj er L B c2 s5 s5'
      simp (disch := omega) only [do_X7_isPersonTold, rX7_isPersonTold_0, rX7_isPersonTold_1, rX7_isPersonTold_4, rX7_isPersonTold_13, rX7_isPersonTold_14, rX7_isPersonTold_15, rX7_isPersonTold_18, rX7_isPersonTold_19, rX7_isPersonTold_22, rX7_isPersonTold_25, rX7_isPersonTold_28, rX7_isPersonTold_31, rX7_isPersonTold_32, rX7_isPersonTold_35, rX7_isPersonTold_36, rX7_isPersonTold_39, rX7_isPersonTold_40, rX7_isPersonTold_41, rX7_isPersonTold_44, gS_2, gP_2_0, gS_3, g, r1, sK, e5, c1, c3, cP, ne_eq, not_false_eq_true, not_true_eq_false, true_and, and_true, and_self, true_imp_iff, false_imp_iff, imp_self, Bool.not_false, Bool.not_true, reduceCtorEq, ab_isJ, ab_psh, ab_cats, Bool.false_eq_true, if_true, if_false, ab_shf, ab_shw, Int.le_refl, Classical.not_not, Int.zero_add, forall_const, ↓ab_itT, ↓ab_itF, ab_anT, ab_w32_id, ab_rdf_ne, ab_rdw_ne, ab_rdw_eq, ab_rdf_in, ab_td2, ab_tm2, true_or, or_true]
      all_goals exact key
    · rw [if_neg y] at er
      by_cases x1 : p = o
      · rw [if_pos x1] at er
        have key := hF 3 s er.symm _ (s5'.trans ac_stp_e.1) ac_stp_e.2.1 ac_stp_e.2.2
        clear hF hO h hk hj er L B c2 s5 s5'
        simp (disch := omega) only [do_X7_isPersonTold, rX7_isPersonTold_0, rX7_isPersonTold_1, rX7_isPersonTold_4, rX7_isPersonTold_13, rX7_isPersonTold_14, rX7_isPersonTold_15, rX7_isPersonTold_18, rX7_isPersonTold_19, rX7_isPersonTold_22, rX7_isPersonTold_25, rX7_isPersonTold_28, rX7_isPersonTold_31, rX7_isPersonTold_32, rX7_isPersonTold_35, rX7_isPersonTold_36, rX7_isPersonTold_45, rX7_isPersonTold_46, rX7_isPersonTold_49, rX7_isPersonTold_50, rX7_isPersonTold_53, rX7_isPersonTold_54, rX7_isPersonTold_55, rX7_isPersonTold_58, rX7_isPersonTold_61, rX7_isPersonTold_62, rX7_isPersonTold_65, rX7_isPersonTold_66, gS_2, gP_2_0, gS_3, g, r1, sK, e5, c1, c3, cP, ne_eq, not_false_eq_true, not_true_eq_false, true_and, and_true, and_self, true_imp_iff, false_imp_iff, imp_self, Bool.not_false, Bool.not_true, reduceCtorEq, ab_isJ, ab_psh, ab_cats, Bool.false_eq_true, if_true, if_false, ab_shf, ab_shw, Int.le_refl, Classical.not_not, Int.zero_add, forall_const, ↓ab_itT, ↓ab_itF, ab_anT, ab_w32_id, ab_rdf_ne, ab_rdw_ne, ab_rdw_eq, ab_rdf_in, ab_td2, ab_tm2, true_or, or_true]
        all_goals exact key
      · rw [if_neg x1] at er
        have key := hO p (B y) x1 er _ s5' ab_rdw_eq (h.sameR s5)
        clear hF hO h hk hj er L B c2 c3 s5 s5'
        simp (disch := omega) only [do_X7_isPersonTold, rX7_isPersonTold_0, rX7_isPersonTold_1, rX7_isPersonTold_4, rX7_isPersonTold_13, rX7_isPersonTold_14, rX7_isPersonTold_15, rX7_isPersonTold_18, rX7_isPersonTold_19, rX7_isPersonTold_22, rX7_isPersonTold_25, rX7_isPersonTold_28, rX7_isPersonTold_31, rX7_isPersonTold_32, rX7_isPersonTold_35, rX7_isPersonTold_36, rX7_isPersonTold_45, rX7_isPersonTold_46, rX7_isPersonTold_49, rX7_isPersonTold_50, rX7_isPersonTold_53, rX7_isPersonTold_54, rX7_isPersonTold_55, rX7_isPersonTold_58, rX7_isPersonTold_61, rX7_isPersonTold_62, rX7_isPersonTold_65, rX7_isPersonTold_66, gS_2, gP_2_0, gS_3, g, r1, sK, e5, c1, cP, ne_eq, not_false_eq_true, not_true_eq_false, true_and, and_true, and_self, true_imp_iff, false_imp_iff, imp_self, Bool.not_false, Bool.not_true, reduceCtorEq, ab_isJ, ab_psh, ab_cats, Bool.false_eq_true, if_true, if_false, ab_shf, ab_shw, Int.le_refl, Classical.not_not, Int.zero_add, forall_const, ↓ab_itT, ↓ab_itF, ab_anT, ab_w32_id, ab_rdf_ne, ab_rdw_ne, ab_rdw_eq, ab_rdf_in, ab_td2, ab_tm2, true_or, or_true]
        all_goals exact key
  · rw [if_neg z] at er
    have z0 : ac_nm tp n s = 0 := by have := ac_nm01 (tp := tp) (n := n) (s := s); omega
    rw [z0] at c1
    have key := hF 1 s er.symm _ ac_stp_e.1 ac_stp_e.2.1 ac_stp_e.2.2
    clear hF hO h hk hj er cP
    simp (disch := omega) only [do_X7_isPersonTold, rX7_isPersonTold_0, rX7_isPersonTold_1, rX7_isPersonTold_4, rX7_isPersonTold_7, rX7_isPersonTold_8, rX7_isPersonTold_9, rX7_isPersonTold_12, gS_2, gP_2_0, gS_3, g, c1, c2, ne_eq, not_false_eq_true, not_true_eq_false, true_and, and_true, and_self, true_imp_iff, false_imp_iff, imp_self, Bool.not_false, Bool.not_true, reduceCtorEq, ab_isJ, ab_psh, ab_cats, Bool.false_eq_true, if_true, if_false, ab_shf, ab_shw, Int.le_refl, Classical.not_not, Int.zero_add, forall_const, ↓ab_itT, ↓ab_itF, ab_anT, ab_w32_id, ab_rdf_ne, ab_rdw_ne, ab_rdw_eq, ab_rdf_in, ab_td2, ab_tm2, true_or, or_true]
    all_goals exact key
end
