/-! READER of the reference: the kitchen that is read, finding, small pieces -/
def ar_MR (σ : ab_S) (M : Int) (κ : ac_K) : Prop := ab_rd σ 355 4 = M ∧ ac_MG σ M ∧ (∀ f, 0 ≤ f → f ≤ 11 → ab_rd σ M f = κ f 0) ∧ (∀ f i, 12 ≤ f → f ≤ 32 → 0 ≤ i → i < (ac_mkT f).2 → ab_rd σ (M + (f - 11)) i = κ f i)
section
variable {X : ab_X} {σ τ υ : ab_S} {Q : Option ab_V → ab_S → Prop} {n p s x y t i a b c0 k w pl lo hi M v told most : Int} {tp : Int → Int} {T : List Int} {κ : ac_K} {r : ar_R} {P : Int → Int → Prop}
theorem ar_MR.same (h : ar_MR σ M κ) (hs : ab_Same ac_PV σ τ) : ar_MR τ M κ := by
  obtain ⟨h1, h2, h3, h4⟩ := h
  have hM := h2.1
  have hi : ∀ a f, 369 ≤ a → ¬ ac_PV a f := fun a f h u => by unfold ac_PV at u; omega
  exact ⟨by rw [hs.2.2 355 4 (fun u => by unfold ac_PV at u; omega), h1], h2.same hs hi, fun f f1 f2 => by rw [hs.2.2 _ _ (hi _ _ hM), h3 f f1 f2], fun f i f1 f2 i1 i2 => by rw [hs.2.2 _ _ (hi _ _ (by omega)), h4 f i f1 f2 i1 i2]⟩
theorem mq_find_l (hR : ar_MR σ M κ) (hn : 0 ≤ κ 10 0 ∧ κ 10 0 ≤ 11) : ∀ (m : Nat) (i : Int), 0 ≤ i → i + m = κ 10 0 → (ab_Run X 153 2 (0, 0, 0) [ab_R M, ab_J w, ab_R 0, ab_I i] [] σ Q ↔ Q (some (ab_I (ar_fi (κ 30) w m i))) σ) := by
  have hM := hR.2.1.1
  have s0 := mS hR.2.1
  have s30 := mS_30 hR.2.1
  have p30 := mP_30 hR.2.1
  have c10 := hR.2.2.1 10 (by omega) (by omega)
  intro m
  induction m with
  | zero =>
    intro i hi hm
    unfold ar_fi
    clear hR
    rw [rX12_find_2]
    simp (disch := omega) only [rX12_find_3, rX12_find_4, rX12_find_7, rX12_find_29, rX12_find_30, s0, c10, ne_eq, not_false_eq_true, not_true_eq_false, true_and, and_true, and_self, true_imp_iff, false_imp_iff, imp_self, Bool.not_false, Bool.not_true, reduceCtorEq, ab_isJ, ab_psh, ab_cats, Bool.false_eq_true, if_true, if_false, ab_shf, ab_shw, Int.le_refl, Classical.not_not, Int.zero_add, forall_const, ↓ab_itT, ↓ab_itF, ab_anT, ab_w32_id, ab_rdf_ne, ab_rdw_ne, ab_rdw_eq, ab_rdf_in, ab_td2, ab_tm2]
  | succ m ih =>
    intro i hi hm
    have key := ih (i + 1) (by omega) (by omega)
    have nm : ab_rd σ (M + 19) i = κ 30 i := hR.2.2.2 30 i (by omega) (by omega) hi (by show i < 11; omega)
    unfold ar_fi
    clear hR
    rw [rX12_find_2]
    by_cases z : κ 30 i = w
    · rw [if_pos z]
      clear ih key
      simp (disch := omega) only [rX12_find_3, rX12_find_4, rX12_find_7, rX12_find_10, rX12_find_11, rX12_find_14, rX12_find_15, rX12_find_16, rX12_find_17, rX12_find_18, rX12_find_21, rX12_find_22, s0, s30, p30, c10, nm, z, Int.lt_irrefl, if_true, if_false, ne_eq, not_false_eq_true, not_true_eq_false, true_and, and_true, and_self, true_imp_iff, false_imp_iff, imp_self, Bool.not_false, Bool.not_true, reduceCtorEq, ab_isJ, ab_psh, ab_cats, Bool.false_eq_true, if_true, if_false, ab_shf, ab_shw, Int.le_refl, Classical.not_not, Int.zero_add, forall_const, ↓ab_itT, ↓ab_itF, ab_anT, ab_w32_id, ab_rdf_ne, ab_rdw_ne, ab_rdw_eq, ab_rdf_in, ab_td2, ab_tm2]
    · rw [if_neg z, ← key]
      clear ih key
      by_cases y : w < κ 30 i
      · simp (disch := omega) only [rX12_find_3, rX12_find_4, rX12_find_7, rX12_find_10, rX12_find_11, rX12_find_14, rX12_find_15, rX12_find_16, rX12_find_17, rX12_find_18, rX12_find_21, rX12_find_22, rX12_find_23, rX12_find_26, s0, s30, p30, c10, nm, y, if_true, ne_eq, not_false_eq_true, not_true_eq_false, true_and, and_true, and_self, true_imp_iff, false_imp_iff, imp_self, Bool.not_false, Bool.not_true, reduceCtorEq, ab_isJ, ab_psh, ab_cats, Bool.false_eq_true, if_true, if_false, ab_shf, ab_shw, Int.le_refl, Classical.not_not, Int.zero_add, forall_const, ↓ab_itT, ↓ab_itF, ab_anT, ab_w32_id, ab_rdf_ne, ab_rdw_ne, ab_rdw_eq, ab_rdf_in, ab_td2, ab_tm2]
      · simp (disch := omega) only [rX12_find_3, rX12_find_4, rX12_find_7, rX12_find_10, rX12_find_11, rX12_find_14, rX12_find_15, rX12_find_16, rX12_find_17, rX12_find_18, rX12_find_21, rX12_find_22, rX12_find_23, rX12_find_26, s0, s30, p30, c10, nm, y, z, if_false, ne_eq, not_false_eq_true, not_true_eq_false, true_and, and_true, and_self, true_imp_iff, false_imp_iff, imp_self, Bool.not_false, Bool.not_true, reduceCtorEq, ab_isJ, ab_psh, ab_cats, Bool.false_eq_true, if_true, if_false, ab_shf, ab_shw, Int.le_refl, Classical.not_not, Int.zero_add, forall_const, ↓ab_itT, ↓ab_itF, ab_anT, ab_w32_id, ab_rdf_ne, ab_rdw_ne, ab_rdw_eq, ab_rdf_in, ab_td2, ab_tm2]
theorem mq_find (hR : ar_MR σ M κ) (hn : 0 ≤ κ 10 0 ∧ κ 10 0 ≤ 11) : ab_Do X 153 [ab_R M, ab_J w] σ Q ↔ Q (some (ab_I (ar_fnd κ w))) σ := by
  unfold ar_fnd
  rw [← mq_find_l (X := X) (Q := Q) (w := w) hR hn (κ 10 0).toNat 0 (by omega) (by omega)]
  clear hR
  simp (disch := omega) only [do_X12_find, rX12_find_0, rX12_find_1, ne_eq, not_false_eq_true, not_true_eq_false, true_and, and_true, and_self, true_imp_iff, false_imp_iff, imp_self, Bool.not_false, Bool.not_true, reduceCtorEq, ab_isJ, ab_psh, ab_cats, Bool.false_eq_true, if_true, if_false, ab_shf, ab_shw, Int.le_refl, Classical.not_not, Int.zero_add, forall_const, ↓ab_itT, ↓ab_itF, ab_anT, ab_w32_id, ab_rdf_ne, ab_rdw_ne, ab_rdw_eq, ab_rdf_in, ab_td2, ab_tm2]
theorem ar_fnd_b (hn : 0 ≤ κ 10 0 ∧ κ 10 0 ≤ 11) : ar_fnd κ w = -1 ∨ (0 ≤ ar_fnd κ w ∧ ar_fnd κ w < κ 10 0) := by
  unfold ar_fnd
  rcases ar_fi_s (g := κ 30) (w := w) (κ 10 0).toNat 0 with ⟨h, -⟩ | ⟨h, -⟩
  · exact Or.inl h
  · right; omega
theorem mq_isSign (h : ac_RM σ n tp s) (hc : c0 = 59 ∨ c0 = 44) : ab_Do X 174 [ab_R 355, ab_I c0] σ Q ↔ Q (some (ab_I (if (c0 = 59 ∧ ac_kk tp n s = 4) ∨ (c0 = 44 ∧ ac_kk tp n s = 5) then 1 else 0))) σ := by
  have g := h.1.1
  have h9 := h.2.1.2.1
  have h11 := h.2.1.2.2.1
  by_cases z4 : ac_kk tp n s = 4
  · rw [z4] at h9 h11 ⊢
    have h9 : ab_rd σ 355 9 = 4 := h9
    have h11 : ab_rd σ 355 11 = 59 := h11
    clear h z4
    rcases hc with rfl | rfl
    · rw [if_pos (by omega)]
      simp (disch := omega) only [do_X13_isSign, rX13_isSign_0, rX13_isSign_1, rX13_isSign_4, rX13_isSign_5, rX13_isSign_8, rX13_isSign_9, rX13_isSign_12, rX13_isSign_13, rX13_isSign_16, rX13_isSign_17, rX13_isSign_20, rX13_isSign_21, gS_355, g, h9, h11, ne_eq, not_false_eq_true, not_true_eq_false, true_and, and_true, and_self, true_imp_iff, false_imp_iff, imp_self, Bool.not_false, Bool.not_true, reduceCtorEq, ab_isJ, ab_psh, ab_cats, Bool.false_eq_true, if_true, if_false, ab_shf, ab_shw, Int.le_refl, Classical.not_not, Int.zero_add, forall_const, ↓ab_itT, ↓ab_itF, ab_anT, ab_w32_id, ab_rdf_ne, ab_rdw_ne, ab_rdw_eq, ab_rdf_in, ab_td2, ab_tm2, true_or, or_true]
    · rw [if_neg (by omega)]
      simp (disch := omega) only [do_X13_isSign, rX13_isSign_0, rX13_isSign_1, rX13_isSign_4, rX13_isSign_5, rX13_isSign_8, rX13_isSign_9, rX13_isSign_12, rX13_isSign_13, rX13_isSign_16, rX13_isSign_17, rX13_isSign_20, rX13_isSign_21, gS_355, g, h9, h11, ne_eq, not_false_eq_true, not_true_eq_false, true_and, and_true, and_self, true_imp_iff, false_imp_iff, imp_self, Bool.not_false, Bool.not_true, reduceCtorEq, ab_isJ, ab_psh, ab_cats, Bool.false_eq_true, if_true, if_false, ab_shf, ab_shw, Int.le_refl, Classical.not_not, Int.zero_add, forall_const, ↓ab_itT, ↓ab_itF, ab_anT, ab_w32_id, ab_rdf_ne, ab_rdw_ne, ab_rdw_eq, ab_rdf_in, ab_td2, ab_tm2, true_or, or_true]
  · by_cases z5 : ac_kk tp n s = 5
    · rw [z5] at h9 h11 ⊢
      have h9 : ab_rd σ 355 9 = 4 := h9
      have h11 : ab_rd σ 355 11 = 44 := h11
      clear h z4 z5
      rcases hc with rfl | rfl
      · rw [if_neg (by omega)]
        simp (disch := omega) only [do_X13_isSign, rX13_isSign_0, rX13_isSign_1, rX13_isSign_4, rX13_isSign_5, rX13_isSign_8, rX13_isSign_9, rX13_isSign_12, rX13_isSign_13, rX13_isSign_16, rX13_isSign_17, rX13_isSign_20, rX13_isSign_21, gS_355, g, h9, h11, ne_eq, not_false_eq_true, not_true_eq_false, true_and, and_true, and_self, true_imp_iff, false_imp_iff, imp_self, Bool.not_false, Bool.not_true, reduceCtorEq, ab_isJ, ab_psh, ab_cats, Bool.false_eq_true, if_true, if_false, ab_shf, ab_shw, Int.le_refl, Classical.not_not, Int.zero_add, forall_const, ↓ab_itT, ↓ab_itF, ab_anT, ab_w32_id, ab_rdf_ne, ab_rdw_ne, ab_rdw_eq, ab_rdf_in, ab_td2, ab_tm2, true_or, or_true]
      · rw [if_pos (by omega)]
        simp (disch := omega) only [do_X13_isSign, rX13_isSign_0, rX13_isSign_1, rX13_isSign_4, rX13_isSign_5, rX13_isSign_8, rX13_isSign_9, rX13_isSign_12, rX13_isSign_13, rX13_isSign_16, rX13_isSign_17, rX13_isSign_20, rX13_isSign_21, gS_355, g, h9, h11, ne_eq, not_false_eq_true, not_true_eq_false, true_and, and_true, and_self, true_imp_iff, false_imp_iff, imp_self, Bool.not_false, Bool.not_true, reduceCtorEq, ab_isJ, ab_psh, ab_cats, Bool.false_eq_true, if_true, if_false, ab_shf, ab_shw, Int.le_refl, Classical.not_not, Int.zero_add, forall_const, ↓ab_itT, ↓ab_itF, ab_anT, ab_w32_id, ab_rdf_ne, ab_rdw_ne, ab_rdw_eq, ab_rdf_in, ab_td2, ab_tm2, true_or, or_true]
    · rw [if_neg (by omega)]
      have n9 : ¬ ab_rd σ 355 9 = 4 := by
        rw [h9]
        unfold ac_mk
        split
        · omega
        · split
          · omega
          · first | omega | (split <;> omega)
      clear h h9 h11
      simp (disch := omega) only [do_X13_isSign, rX13_isSign_0, rX13_isSign_1, rX13_isSign_4, rX13_isSign_5, rX13_isSign_20, rX13_isSign_21, gS_355, g, ne_eq, not_false_eq_true, not_true_eq_false, true_and, and_true, and_self, true_imp_iff, false_imp_iff, imp_self, Bool.not_false, Bool.not_true, reduceCtorEq, ab_isJ, ab_psh, ab_cats, Bool.false_eq_true, if_true, if_false, ab_shf, ab_shw, Int.le_refl, Classical.not_not, Int.zero_add, forall_const, ↓ab_itT, ↓ab_itF, ab_anT, ab_w32_id, ab_rdf_ne, ab_rdw_ne, ab_rdw_eq, ab_rdf_in, ab_td2, ab_tm2, true_or, or_true]
theorem mq_isSign5 (h : ac_RF σ w pl) : ab_Do X 174 [ab_R 355, ab_I c0] σ Q ↔ Q (some (ab_I 0)) σ := by
  have g := h.1
  have h9 := h.2.1
  clear h
  simp (disch := omega) only [do_X13_isSign, rX13_isSign_0, rX13_isSign_1, rX13_isSign_4, rX13_isSign_5, rX13_isSign_20, rX13_isSign_21, gS_355, g, h9, ne_eq, not_false_eq_true, not_true_eq_false, true_and, and_true, and_self, true_imp_iff, false_imp_iff, imp_self, Bool.not_false, Bool.not_true, reduceCtorEq, ab_isJ, ab_psh, ab_cats, Bool.false_eq_true, if_true, if_false, ab_shf, ab_shw, Int.le_refl, Classical.not_not, Int.zero_add, forall_const, ↓ab_itT, ↓ab_itF, ab_anT, ab_w32_id, ab_rdf_ne, ab_rdw_ne, ab_rdw_eq, ab_rdf_in, ab_td2, ab_tm2, true_or, or_true]
theorem mq_eatsSign (h : ac_RM σ n tp s) (hc : c0 = 59 ∨ c0 = 44) (hN : ¬ ((c0 = 59 ∧ ac_kk tp n s = 4) ∨ (c0 = 44 ∧ ac_kk tp n s = 5)) → Q (some (ab_I 0)) σ) (hY : (c0 = 59 ∧ ac_kk tp n s = 4) ∨ (c0 = 44 ∧ ac_kk tp n s = 5) → ∀ τ, ab_Same ac_PV σ τ → ac_RM τ n tp (ac_nx tp n s) → Q (some (ab_I 1)) τ) : ab_Do X 175 [ab_R 355, ab_I c0] σ Q := by
  have c1 := fun Q' => mq_isSign (X := X) (Q := Q') h hc
  have g := h.1.1
  by_cases z : (c0 = 59 ∧ ac_kk tp n s = 4) ∨ (c0 = 44 ∧ ac_kk tp n s = 5)
  · rw [if_pos z] at c1
    have key : ab_Do X 171 [ab_R 355] σ (fun r σ' => ab_Run X 175 14 (2, 0, 0) [ab_R 355, ab_I c0, ab_I 1] (ab_psh r []) σ' Q) := by
      refine mq_goesOnR h (by omega) (fun τ u1 u2 => ?_)
      have kq := hY z τ (u1.mono (fun _ _ => ac_PU_V)) u2
      clear hN hY c1
      simp (disch := omega) only [rX13_eatsSign_14, rX13_eatsSign_15, ne_eq, not_false_eq_true, not_true_eq_false, true_and, and_true, and_self, true_imp_iff, false_imp_iff, imp_self, Bool.not_false, Bool.not_true, reduceCtorEq, ab_isJ, ab_psh, ab_cats, Bool.false_eq_true, if_true, if_false, ab_shf, ab_shw, Int.le_refl, Classical.not_not, Int.zero_add, forall_const, ↓ab_itT, ↓ab_itF, ab_anT, ab_w32_id, ab_rdf_ne, ab_rdw_ne, ab_rdw_eq, ab_rdf_in, ab_td2, ab_tm2, true_or, or_true]
      all_goals exact kq
    clear hN hY h z hc
    simp (disch := omega) only [do_X13_eatsSign, rX13_eatsSign_0, rX13_eatsSign_1, rX13_eatsSign_2, rX13_eatsSign_5, rX13_eatsSign_6, rX13_eatsSign_7, rX13_eatsSign_10, rX13_eatsSign_11, gS_355, g, c1, ne_eq, not_false_eq_true, not_true_eq_false, true_and, and_true, and_self, true_imp_iff, false_imp_iff, imp_self, Bool.not_false, Bool.not_true, reduceCtorEq, ab_isJ, ab_psh, ab_cats, Bool.false_eq_true, if_true, if_false, ab_shf, ab_shw, Int.le_refl, Classical.not_not, Int.zero_add, forall_const, ↓ab_itT, ↓ab_itF, ab_anT, ab_w32_id, ab_rdf_ne, ab_rdw_ne, ab_rdw_eq, ab_rdf_in, ab_td2, ab_tm2, true_or, or_true]
    all_goals exact key
  · rw [if_neg z] at c1
    have kq := hN z
    clear hN hY h z hc
    simp (disch := omega) only [do_X13_eatsSign, rX13_eatsSign_0, rX13_eatsSign_1, rX13_eatsSign_2, rX13_eatsSign_5, rX13_eatsSign_6, rX13_eatsSign_7, rX13_eatsSign_14, rX13_eatsSign_15, gS_355, g, c1, ne_eq, not_false_eq_true, not_true_eq_false, true_and, and_true, and_self, true_imp_iff, false_imp_iff, imp_self, Bool.not_false, Bool.not_true, reduceCtorEq, ab_isJ, ab_psh, ab_cats, Bool.false_eq_true, if_true, if_false, ab_shf, ab_shw, Int.le_refl, Classical.not_not, Int.zero_add, forall_const, ↓ab_itT, ↓ab_itF, ab_anT, ab_w32_id, ab_rdf_ne, ab_rdw_ne, ab_rdw_eq, ab_rdf_in, ab_td2, ab_tm2, true_or, or_true]
    all_goals exact kq
theorem mq_eatsSign5 (h : ac_RF σ w pl) : ab_Do X 175 [ab_R 355, ab_I c0] σ Q ↔ Q (some (ab_I 0)) σ := by
  have g := h.1
  have c1 := fun Q' => mq_isSign5 (X := X) (Q := Q') (c0 := c0) h
  clear h
  simp (disch := omega) only [do_X13_eatsSign, rX13_eatsSign_0, rX13_eatsSign_1, rX13_eatsSign_2, rX13_eatsSign_5, rX13_eatsSign_6, rX13_eatsSign_7, rX13_eatsSign_14, rX13_eatsSign_15, gS_355, g, c1, ne_eq, not_false_eq_true, not_true_eq_false, true_and, and_true, and_self, true_imp_iff, false_imp_iff, imp_self, Bool.not_false, Bool.not_true, reduceCtorEq, ab_isJ, ab_psh, ab_cats, Bool.false_eq_true, if_true, if_false, ab_shf, ab_shw, Int.le_refl, Classical.not_not, Int.zero_add, forall_const, ↓ab_itT, ↓ab_itF, ab_anT, ab_w32_id, ab_rdf_ne, ab_rdw_ne, ab_rdw_eq, ab_rdf_in, ab_td2, ab_tm2, true_or, or_true]
theorem mq_wordE {c : Int → ar_R} (h : ac_RM σ n tp s) (hX : ac_TX a T) (hk : ac_tok T) (er : pr_word tp n T s c = r) (hF : ∀ w pl, r = .inl (w, pl) → ∀ τ, ab_Same ac_PV σ τ → ac_RF τ w pl → Q none τ) (hO : c (ac_nx tp n s) = r → ∀ τ, ab_Same ac_PV σ τ → ac_RM τ n tp (ac_nx tp n s) → Q none τ) : ab_Do X 176 [ab_R 355, ab_R a] σ Q := by
  unfold pr_word at er
  refine mq_needs h hX hk (fun z τ u1 u2 => ?_) (fun z τ u1 u2 => ?_)
  · rw [if_neg z] at er
    exact hF 1 s er.symm τ u1 u2
  · rw [if_pos z] at er
    exact hO er τ u1 u2
theorem mq_wholeE {c : Int → Int → ar_R} (h : ac_RM σ n tp s) (er : pr_whole tp n lo hi s c = r) (hF : ∀ w pl, r = .inl (w, pl) → ∀ τ, ab_Same ac_PV σ τ → ac_RF τ w pl → Q (some (ab_I lo)) τ) (hO : ∀ v, (lo ≤ v ∧ v ≤ hi) → c v (ac_nx tp n s) = r → ∀ τ, ab_Same ac_PV σ τ → ac_RM τ n tp (ac_nx tp n s) → Q (some (ab_I v)) τ) : ab_Do X 178 [ab_R 355, ab_I lo, ab_I hi] σ Q := by
  have g := h.1.1
  unfold pr_whole at er
  have key : ab_Do X 177 [ab_R 355, ab_I lo, ab_I hi] σ (fun r σ' => ab_Run X 178 6 (2, 0, 0) [ab_R 355, ab_I lo, ab_I hi, ab_R 0] (ab_psh r []) σ' Q) := by
    refine mq_bounded h (fun z τ u1 u2 => ?_) (fun z => ?_)
    · rw [if_neg z] at er
      have kq := hF _ s er.symm τ u1 u2
      have c1 := fun Q' => mq_goesOn5 (X := X) (Q := Q') u2.1 u2.2.1
      have gt := u2.1
      clear hF hO h z u2
      simp (disch := omega) only [rX13_readWhole_6, rX13_readWhole_7, rX13_readWhole_8, rX13_readWhole_11, rX13_readWhole_12, gS_355, gt, c1, ne_eq, not_false_eq_true, not_true_eq_false, true_and, and_true, and_self, true_imp_iff, false_imp_iff, imp_self, Bool.not_false, Bool.not_true, reduceCtorEq, ab_isJ, ab_psh, ab_cats, Bool.false_eq_true, if_true, if_false, ab_shf, ab_shw, Int.le_refl, Classical.not_not, Int.zero_add, forall_const, ↓ab_itT, ↓ab_itF, ab_anT, ab_w32_id, ab_rdf_ne, ab_rdw_ne, ab_rdw_eq, ab_rdf_in, ab_td2, ab_tm2, true_or, or_true]
      all_goals exact kq
    · rw [if_pos z] at er
      have b := ar_wf0 z
      have key2 : ab_Do X 171 [ab_R 355] σ (fun r σ' => ab_Run X 178 11 (2, 0, 0) [ab_R 355, ab_I lo, ab_I hi, ab_I (ac_kvl tp n s)] (ab_psh r []) σ' Q) := by
        refine mq_goesOnR h (by omega) (fun τ u1 u2 => ?_)
        have kq := hO _ b.2 er τ (u1.mono (fun _ _ => ac_PU_V)) u2
        clear hF hO h
        simp (disch := omega) only [rX13_readWhole_11, rX13_readWhole_12, ne_eq, not_false_eq_true, not_true_eq_false, true_and, and_true, and_self, true_imp_iff, false_imp_iff, imp_self, Bool.not_false, Bool.not_true, reduceCtorEq, ab_isJ, ab_psh, ab_cats, Bool.false_eq_true, if_true, if_false, ab_shf, ab_shw, Int.le_refl, Classical.not_not, Int.zero_add, forall_const, ↓ab_itT, ↓ab_itF, ab_anT, ab_w32_id, ab_rdf_ne, ab_rdw_ne, ab_rdw_eq, ab_rdf_in, ab_td2, ab_tm2, true_or, or_true]
        all_goals exact kq
      clear hF hO h z b
      simp (disch := omega) only [rX13_readWhole_6, rX13_readWhole_7, rX13_readWhole_8, gS_355, g, ne_eq, not_false_eq_true, not_true_eq_false, true_and, and_true, and_self, true_imp_iff, false_imp_iff, imp_self, Bool.not_false, Bool.not_true, reduceCtorEq, ab_isJ, ab_psh, ab_cats, Bool.false_eq_true, if_true, if_false, ab_shf, ab_shw, Int.le_refl, Classical.not_not, Int.zero_add, forall_const, ↓ab_itT, ↓ab_itF, ab_anT, ab_w32_id, ab_rdf_ne, ab_rdw_ne, ab_rdw_eq, ab_rdf_in, ab_td2, ab_tm2, true_or, or_true]
      all_goals exact key2
  clear hF hO h
  simp (disch := omega) only [do_X13_readWhole, rX13_readWhole_0, rX13_readWhole_1, rX13_readWhole_2, rX13_readWhole_3, gS_355, g, ne_eq, not_false_eq_true, not_true_eq_false, true_and, and_true, and_self, true_imp_iff, false_imp_iff, imp_self, Bool.not_false, Bool.not_true, reduceCtorEq, ab_isJ, ab_psh, ab_cats, Bool.false_eq_true, if_true, if_false, ab_shf, ab_shw, Int.le_refl, Classical.not_not, Int.zero_add, forall_const, ↓ab_itT, ↓ab_itF, ab_anT, ab_w32_id, ab_rdf_ne, ab_rdw_ne, ab_rdw_eq, ab_rdf_in, ab_td2, ab_tm2, true_or, or_true]
  all_goals exact key
theorem mq_whole5 (h : ac_RF σ w pl) : ab_Do X 178 [ab_R 355, ab_I lo, ab_I hi] σ Q ↔ Q (some (ab_I lo)) σ := by
  have g := h.1
  have c1 := fun Q' => mq_goesOn5 (X := X) (Q := Q') h.1 h.2.1
  have c2 := fun Q' => mq_bounded5 (X := X) (Q := Q') (lo := lo) (hi := hi) h
  clear h
  simp (disch := omega) only [do_X13_readWhole, rX13_readWhole_0, rX13_readWhole_1, rX13_readWhole_2, rX13_readWhole_3, rX13_readWhole_6, rX13_readWhole_7, rX13_readWhole_8, rX13_readWhole_11, rX13_readWhole_12, gS_355, g, c1, c2, ne_eq, not_false_eq_true, not_true_eq_false, true_and, and_true, and_self, true_imp_iff, false_imp_iff, imp_self, Bool.not_false, Bool.not_true, reduceCtorEq, ab_isJ, ab_psh, ab_cats, Bool.false_eq_true, if_true, if_false, ab_shf, ab_shw, Int.le_refl, Classical.not_not, Int.zero_add, forall_const, ↓ab_itT, ↓ab_itF, ab_anT, ab_w32_id, ab_rdf_ne, ab_rdw_ne, ab_rdw_eq, ab_rdf_in, ab_td2, ab_tm2, true_or, or_true]
theorem mq_part5 (h : ac_RF σ w pl) (ha : a ≤ -2) : ab_Do X 179 [ab_R 355, ab_R a, ab_I lo, ab_I hi] σ Q ↔ Q (some (ab_I lo)) σ := by
  have g := h.1
  have c1 := fun Q' => mq_needs5 (X := X) (Q := Q') (a := a) h ha
  have c2 := fun Q' => mq_whole5 (X := X) (Q := Q') (lo := lo) (hi := hi) h
  clear h
  simp (disch := omega) only [do_X13_readPart, rX13_readPart_0, rX13_readPart_1, rX13_readPart_2, rX13_readPart_5, rX13_readPart_6, rX13_readPart_7, rX13_readPart_8, rX13_readPart_11, gS_355, g, c1, c2, ne_eq, not_false_eq_true, not_true_eq_false, true_and, and_true, and_self, true_imp_iff, false_imp_iff, imp_self, Bool.not_false, Bool.not_true, reduceCtorEq, ab_isJ, ab_psh, ab_cats, Bool.false_eq_true, if_true, if_false, ab_shf, ab_shw, Int.le_refl, Classical.not_not, Int.zero_add, forall_const, ↓ab_itT, ↓ab_itF, ab_anT, ab_w32_id, ab_rdf_ne, ab_rdw_ne, ab_rdw_eq, ab_rdf_in, ab_td2, ab_tm2, true_or, or_true]
theorem mq_partE {c : Int → Int → ar_R} (h : ac_RM σ n tp s) (hX : ac_TX a T) (hk : ac_tok T) (er : pr_part tp n T lo hi s c = r) (hF : ∀ w pl, r = .inl (w, pl) → ∀ τ, ab_Same ac_PV σ τ → ac_RF τ w pl → Q (some (ab_I lo)) τ) (hO : ∀ v s', c v s' = r → ∀ τ, ab_Same ac_PV σ τ → ac_RM τ n tp s' → Q (some (ab_I v)) τ) : ab_Do X 179 [ab_R 355, ab_R a, ab_I lo, ab_I hi] σ Q := by
  have g := h.1.1
  have ha := hX.1
  unfold pr_part at er
  have key : ab_Do X 176 [ab_R 355, ab_R a] σ (fun r σ' => ab_Run X 179 5 (13, 0, 0) [ab_R 355, ab_R a, ab_I lo, ab_I hi] (ab_psh r []) σ' Q) := by
    refine mq_wordE h hX hk er (fun w pl e τ u1 u2 => ?_) (fun er1 τ u1 u2 => ?_)
    · have kq := hF w pl e τ u1 u2
      have c2 := fun Q' => mq_whole5 (X := X) (Q := Q') (lo := lo) (hi := hi) u2
      have gt := u2.1
      clear hF hO h u2
      simp (disch := omega) only [rX13_readPart_5, rX13_readPart_6, rX13_readPart_7, rX13_readPart_8, rX13_readPart_11, gS_355, gt, c2, ne_eq, not_false_eq_true, not_true_eq_false, true_and, and_true, and_self, true_imp_iff, false_imp_iff, imp_self, Bool.not_false, Bool.not_true, reduceCtorEq, ab_isJ, ab_psh, ab_cats, Bool.false_eq_true, if_true, if_false, ab_shf, ab_shw, Int.le_refl, Classical.not_not, Int.zero_add, forall_const, ↓ab_itT, ↓ab_itF, ab_anT, ab_w32_id, ab_rdf_ne, ab_rdw_ne, ab_rdw_eq, ab_rdf_in, ab_td2, ab_tm2, true_or, or_true]
      all_goals exact kq
    · have gt := u2.1.1
      have key2 : ab_Do X 178 [ab_R 355, ab_I lo, ab_I hi] τ (fun r σ' => ab_Run X 179 11 (13, 0, 0) [ab_R 355, ab_R a, ab_I lo, ab_I hi] (ab_psh r []) σ' Q) := by
        refine mq_wholeE u2 er1 (fun w pl e υ v1 v2 => ?_) (fun v vb er2 υ v1 v2 => ?_)
        · have kq := hF w pl e υ (u1.trans v1) v2
          clear hF hO h u2
          simp (disch := omega) only [rX13_readPart_11, ne_eq, not_false_eq_true, not_true_eq_false, true_and, and_true, and_self, true_imp_iff, false_imp_iff, imp_self, Bool.not_false, Bool.not_true, reduceCtorEq, ab_isJ, ab_psh, ab_cats, Bool.false_eq_true, if_true, if_false, ab_shf, ab_shw, Int.le_refl, Classical.not_not, Int.zero_add, forall_const, ↓ab_itT, ↓ab_itF, ab_anT, ab_w32_id, ab_rdf_ne, ab_rdw_ne, ab_rdw_eq, ab_rdf_in, ab_td2, ab_tm2, true_or, or_true]
          all_goals exact kq
        · have kq := hO v _ er2 υ (u1.trans v1) v2
          clear hF hO h u2
          simp (disch := omega) only [rX13_readPart_11, ne_eq, not_false_eq_true, not_true_eq_false, true_and, and_true, and_self, true_imp_iff, false_imp_iff, imp_self, Bool.not_false, Bool.not_true, reduceCtorEq, ab_isJ, ab_psh, ab_cats, Bool.false_eq_true, if_true, if_false, ab_shf, ab_shw, Int.le_refl, Classical.not_not, Int.zero_add, forall_const, ↓ab_itT, ↓ab_itF, ab_anT, ab_w32_id, ab_rdf_ne, ab_rdw_ne, ab_rdw_eq, ab_rdf_in, ab_td2, ab_tm2, true_or, or_true]
          all_goals exact kq
      clear hF hO h u2
      simp (disch := omega) only [rX13_readPart_5, rX13_readPart_6, rX13_readPart_7, rX13_readPart_8, gS_355, gt, ne_eq, not_false_eq_true, not_true_eq_false, true_and, and_true, and_self, true_imp_iff, false_imp_iff, imp_self, Bool.not_false, Bool.not_true, reduceCtorEq, ab_isJ, ab_psh, ab_cats, Bool.false_eq_true, if_true, if_false, ab_shf, ab_shw, Int.le_refl, Classical.not_not, Int.zero_add, forall_const, ↓ab_itT, ↓ab_itF, ab_anT, ab_w32_id, ab_rdf_ne, ab_rdw_ne, ab_rdw_eq, ab_rdf_in, ab_td2, ab_tm2, true_or, or_true]
      all_goals exact key2
  clear hF hO h
  simp (disch := omega) only [do_X13_readPart, rX13_readPart_0, rX13_readPart_1, rX13_readPart_2, gS_355, g, ne_eq, not_false_eq_true, not_true_eq_false, true_and, and_true, and_self, true_imp_iff, false_imp_iff, imp_self, Bool.not_false, Bool.not_true, reduceCtorEq, ab_isJ, ab_psh, ab_cats, Bool.false_eq_true, if_true, if_false, ab_shf, ab_shw, Int.le_refl, Classical.not_not, Int.zero_add, forall_const, ↓ab_itT, ↓ab_itF, ab_anT, ab_w32_id, ab_rdf_ne, ab_rdw_ne, ab_rdw_eq, ab_rdf_in, ab_td2, ab_tm2, true_or, or_true]
  all_goals exact key
end
