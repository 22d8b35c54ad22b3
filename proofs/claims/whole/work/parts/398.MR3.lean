/-! READER of the reference: known people, sides, names -/
section
variable {X : ab_X} {σ τ υ : ab_S} {Q : Option ab_V → ab_S → Prop} {n p s x y t i a b c0 k w pl lo hi M v told most f o z : Int} {tp : Int → Int} {T : List Int} {κ : ac_K} {r : ar_R} {P : Int → Int → Prop}
theorem mq_known5 (h : ac_RF σ w pl) (hR : ar_MR σ M κ) (hn : 0 ≤ κ 10 0 ∧ κ 10 0 ≤ 11) : ab_Do X 184 [ab_R 355] σ Q ↔ Q (some (ab_I 0)) σ := by
  constructor
  · intro u
    have kq := mq_known_t (X := X) (Q := fun r σ' => r = some (ab_I 0) ∧ σ' = σ) h hR hn ⟨rfl, rfl⟩
    have g := h.1
    have c2 := fun k Q' => mq_flaw5 (X := X) (Q := Q') (k := k) h
    have c3 := fun Q' => mq_isName5 (X := X) (Q := Q') h.1 h.2.1
    clear h hR
    simp (disch := omega) only [do_X13_knownOne, rX13_knownOne_0, rX13_knownOne_1, rX13_knownOne_4, rX13_knownOne_7, rX13_knownOne_8, rX13_knownOne_9, gS_355, g, c2, c3, ne_eq, not_false_eq_true, not_true_eq_false, true_and, and_true, and_self, true_imp_iff, false_imp_iff, imp_self, Bool.not_false, Bool.not_true, reduceCtorEq, ab_isJ, ab_psh, ab_cats, Bool.false_eq_true, if_true, if_false, ab_shf, ab_shw, Int.le_refl, Classical.not_not, Int.zero_add, forall_const, ↓ab_itT, ↓ab_itF, ab_anT, ab_w32_id, ab_rdf_ne, ab_rdw_ne, ab_rdw_eq, ab_rdf_in, ab_td2, ab_tm2, true_or, or_true] at u
    obtain ⟨m, r, σ', e, e1, e2⟩ := kq
    obtain ⟨m2, r2, σ2, f, f1⟩ := u
    have x1 := ab_ev_le X e (Nat.le_max_left m m2)
    have x2 := ab_ev_le X f (Nat.le_max_right m m2)
    rw [x1] at x2
    cases x2
    rw [e1, e2] at f1
    exact f1
  · intro u
    have kq := mq_known_t (X := X) (Q := Q) h hR hn u
    have g := h.1
    have c2 := fun k Q' => mq_flaw5 (X := X) (Q := Q') (k := k) h
    have c3 := fun Q' => mq_isName5 (X := X) (Q := Q') h.1 h.2.1
    clear h hR
    simp (disch := omega) only [do_X13_knownOne, rX13_knownOne_0, rX13_knownOne_1, rX13_knownOne_4, rX13_knownOne_7, rX13_knownOne_8, rX13_knownOne_9, gS_355, g, c2, c3, ne_eq, not_false_eq_true, not_true_eq_false, true_and, and_true, and_self, true_imp_iff, false_imp_iff, imp_self, Bool.not_false, Bool.not_true, reduceCtorEq, ab_isJ, ab_psh, ab_cats, Bool.false_eq_true, if_true, if_false, ab_shf, ab_shw, Int.le_refl, Classical.not_not, Int.zero_add, forall_const, ↓ab_itT, ↓ab_itF, ab_anT, ab_w32_id, ab_rdf_ne, ab_rdw_ne, ab_rdw_eq, ab_rdf_in, ab_td2, ab_tm2, true_or, or_true]
    all_goals exact kq
theorem mq_knownR (h : ac_RM σ n tp s) (hR : ar_MR σ M κ) (hL : ar_L κ) (hn : (0 ≤ κ 5 0 ∧ κ 5 0 ≤ 5) ∧ (0 ≤ κ 6 0 ∧ κ 6 0 ≤ 6)) (hF : ∀ w, (ac_nm tp n s ≠ 1 ∧ w = 1) ∨ (ac_nm tp n s = 1 ∧ ar_kp κ (ar_W 32 tp n s) = -1 ∧ w = 2) → ∀ τ, ab_Same ac_PV σ τ → ac_RF τ w s → Q (some (ab_I 0)) τ) (hO : ac_nm tp n s = 1 → 0 ≤ ar_kp κ (ar_W 32 tp n s) ∧ ar_kp κ (ar_W 32 tp n s) < κ 6 0 → Q (some (ab_I (ar_kp κ (ar_W 32 tp n s)))) σ) : ab_Do X 184 [ab_R 355] σ Q := by
  have g := h.1.1
  have h5 := h.n5
  have h4 := hR.1
  have hM := hR.2.1.1
  have s0 := mS hR.2.1
  have s31 := mS_31 hR.2.1
  have p31 := mP_31 hR.2.1
  have s32 := mS_32 hR.2.1
  have p32 := mP_32 hR.2.1
  have l0 := hL.1
  have hn10 : 0 ≤ κ 10 0 ∧ κ 10 0 ≤ 11 := by omega
  have c2 := fun k Q' => mq_flaw (X := X) (Q := Q') (k := k) h
  have c3 := fun Q' => mq_isName (X := X) (Q := Q') h.1.1 h.2.1 h.2.2.1
  have c4 := fun w Q' => mq_find (X := X) (Q := Q') (w := w) hR hn10
  by_cases z : ac_nm tp n s = 1
  · rw [z] at c3
    have k2 := ar_nm2 z
    have e15 : ab_rd σ 355 15 = ar_W 32 tp n s := by
      rw [h.2.1.2.2.2.2.2 k2]
      exact (ac_kwd_ok (q := 32) k2 h.2.2.1).2 (Or.inr rfl)
    have c4 := fun Q' => c4 (ar_W 32 tp n s) Q'
    have b := ar_fnd_b (κ := κ) (w := ar_W 32 tp n s) hn10
    have f := ac_flw (k := 2) h
    have gF := f.1.1
    have f9 := f.1.2.1
    have kF := fun u => hF 2 (Or.inr ⟨z, u, rfl⟩) _ f.2 f.1
    have kO := hO z
    unfold ar_kp at kF kO
    generalize ar_fnd κ (ar_W 32 tp n s) = k at c4 b kF kO
    by_cases y : k = -1
    · have kq := kF (if_pos y)
      clear hF hO h hR f kF kO hL
      simp (disch := omega) only [do_X13_knownOne, rX13_knownOne_0, rX13_knownOne_1, rX13_knownOne_4, rX13_knownOne_12, rX13_knownOne_13, rX13_knownOne_16, rX13_knownOne_17, rX13_knownOne_20, rX13_knownOne_23, rX13_knownOne_24, rX13_knownOne_25, rX13_knownOne_26, rX13_knownOne_41, rX13_knownOne_42, rX13_knownOne_43, rX13_knownOne_46, rX13_knownOne_47, rX13_knownOne_50, rX13_knownOne_51, rX13_knownOne_54, rX13_knownOne_55, rX13_knownOne_67, gS_355, g, gF, f9, h4, s0, e15, c2, c3, c4, ne_eq, not_false_eq_true, not_true_eq_false, true_and, and_true, and_self, true_imp_iff, false_imp_iff, imp_self, Bool.not_false, Bool.not_true, reduceCtorEq, ab_isJ, ab_psh, ab_cats, Bool.false_eq_true, if_true, if_false, ab_shf, ab_shw, Int.le_refl, Classical.not_not, Int.zero_add, forall_const, ↓ab_itT, ↓ab_itF, ab_anT, true_or, or_true]
      all_goals exact kq
    · rw [if_neg y] at kF kO
      have e31 : ab_rd σ (M + 20) k = κ 31 k := hR.2.2.2 31 k (by omega) (by omega) (by omega) (by show k < 11; omega)
      have e32 : ab_rd σ (M + 21) k = κ 32 k := hR.2.2.2 32 k (by omega) (by omega) (by omega) (by show k < 11; omega)
      by_cases x : κ 31 k = 0
      · rw [if_pos x] at kO
        obtain ⟨l', m1, m2, m3⟩ := hL.2.1 k (by omega) (by omega)
        have kq := kO (by rcases m3 with ⟨m3, -⟩ | ⟨-, m4, -⟩; exact absurd x (by omega); exact m4)
        rw [x] at e31
        clear hF hO h hR f kF kO hL m1 m2 m3 c2 gF f9
        simp (disch := first | omega | (simp only [s31, true_and, and_true, or_true, true_or, and_self, false_or, or_false, false_and]; omega)) only [do_X13_knownOne, rX13_knownOne_0, rX13_knownOne_1, rX13_knownOne_4, rX13_knownOne_12, rX13_knownOne_13, rX13_knownOne_16, rX13_knownOne_17, rX13_knownOne_20, rX13_knownOne_23, rX13_knownOne_24, rX13_knownOne_25, rX13_knownOne_26, rX13_knownOne_29, rX13_knownOne_30, rX13_knownOne_33, rX13_knownOne_36, rX13_knownOne_37, rX13_knownOne_38, rX13_knownOne_46, rX13_knownOne_47, rX13_knownOne_50, rX13_knownOne_51, rX13_knownOne_58, rX13_knownOne_59, rX13_knownOne_62, rX13_knownOne_65, rX13_knownOne_66, rX13_knownOne_67, gS_355, g, h4, s0, s31, p31, s32, p32, e15, e31, e32, c3, c4, ne_eq, not_false_eq_true, not_true_eq_false, true_and, and_true, and_self, true_imp_iff, false_imp_iff, imp_self, Bool.not_false, Bool.not_true, reduceCtorEq, ab_isJ, ab_psh, ab_cats, Bool.false_eq_true, if_true, if_false, ab_shf, ab_shw, Int.le_refl, Classical.not_not, Int.zero_add, forall_const, ↓ab_itT, ↓ab_itF, ab_anT, true_or, or_true]
        all_goals exact kq
      · have kq := kF (if_neg x)
        have x' : ¬ ab_rd σ (M + 20) k = 0 := by rw [e31]; exact x
        clear hF hO h hR f kF kO hL e31
        simp (disch := first | omega | (simp only [s31, true_and, and_true, or_true, true_or, and_self, false_or, or_false, false_and]; omega)) only [do_X13_knownOne, rX13_knownOne_0, rX13_knownOne_1, rX13_knownOne_4, rX13_knownOne_12, rX13_knownOne_13, rX13_knownOne_16, rX13_knownOne_17, rX13_knownOne_20, rX13_knownOne_23, rX13_knownOne_24, rX13_knownOne_25, rX13_knownOne_26, rX13_knownOne_29, rX13_knownOne_30, rX13_knownOne_33, rX13_knownOne_36, rX13_knownOne_37, rX13_knownOne_38, rX13_knownOne_41, rX13_knownOne_42, rX13_knownOne_43, rX13_knownOne_46, rX13_knownOne_47, rX13_knownOne_50, rX13_knownOne_51, rX13_knownOne_54, rX13_knownOne_55, rX13_knownOne_67, gS_355, g, gF, f9, h4, s0, s31, p31, e15, c2, c3, c4, ne_eq, not_false_eq_true, not_true_eq_false, true_and, and_true, and_self, true_imp_iff, false_imp_iff, imp_self, Bool.not_false, Bool.not_true, reduceCtorEq, ab_isJ, ab_psh, ab_cats, Bool.false_eq_true, if_true, if_false, ab_shf, ab_shw, Int.le_refl, Classical.not_not, Int.zero_add, forall_const, ↓ab_itT, ↓ab_itF, ab_anT, true_or, or_true]
        all_goals exact kq
  · have z0 : ac_nm tp n s = 0 := by have := ac_nm01 (tp := tp) (n := n) (s := s); omega
    rw [z0] at c3
    have f := ac_flw (k := 1) h
    have kq := mq_known_t (X := X) (Q := Q) f.1 (hR.same f.2) hn10 (hF 1 (Or.inl ⟨z, rfl⟩) _ f.2 f.1)
    clear hF hO h hR f c4 hL
    simp (disch := omega) only [do_X13_knownOne, rX13_knownOne_0, rX13_knownOne_1, rX13_knownOne_4, rX13_knownOne_7, rX13_knownOne_8, rX13_knownOne_9, gS_355, g, c2, c3, ne_eq, not_false_eq_true, not_true_eq_false, true_and, and_true, and_self, true_imp_iff, false_imp_iff, imp_self, Bool.not_false, Bool.not_true, reduceCtorEq, ab_isJ, ab_psh, ab_cats, Bool.false_eq_true, if_true, if_false, ab_shf, ab_shw, Int.le_refl, Classical.not_not, Int.zero_add, forall_const, ↓ab_itT, ↓ab_itF, ab_anT, true_or, or_true]
    all_goals exact kq
/-- knownOne against the pure reader, o a number that must not come -/
theorem mq_knownE {c : Int → Int → ar_R} (h : ac_RM σ n tp s) (hR : ar_MR σ M κ) (hL : ar_L κ) (hn : (0 ≤ κ 5 0 ∧ κ 5 0 ≤ 5) ∧ (0 ≤ κ 6 0 ∧ κ 6 0 ≤ 6)) (er : pr_pers tp n κ o s c = r) (hF : ∀ w pl, r = .inl (w, pl) → ∀ τ, ab_Same ac_PV σ τ → ac_RF τ w pl → Q (some (ab_I 0)) τ) (hO : ∀ p, (0 ≤ p ∧ p < κ 6 0) → ac_kk tp n s = 2 → (if p = o then .inl (3, s) else c p (ac_nx tp n s)) = r → Q (some (ab_I p)) σ) : ab_Do X 184 [ab_R 355] σ Q := by
  unfold pr_pers at er
  refine mq_knownR h hR hL hn (fun w hw τ u1 u2 => ?_) (fun z b => ?_)
  · rcases hw with ⟨z, rfl⟩ | ⟨z, y, rfl⟩
    · rw [if_neg z] at er
      exact hF 1 s er.symm τ u1 u2
    · rw [if_pos z, if_pos y] at er
      exact hF 2 s er.symm τ u1 u2
  · rw [if_pos z, if_neg (by omega)] at er
    exact hO _ b (ar_nm2 z) er
theorem mq_pers5 (h : ac_RF σ w pl) (hR : ar_MR σ M κ) (hn : 0 ≤ κ 10 0 ∧ κ 10 0 ≤ 11) : ab_Do X 185 [ab_R 355] σ Q ↔ Q (some (ab_I 0)) σ := by
  have g := h.1
  have c1 := fun Q' => mq_goesOn5 (X := X) (Q := Q') h.1 h.2.1
  have c2 := fun Q' => mq_known5 (X := X) (Q := Q') h hR hn
  clear h hR
  simp (disch := omega) only [do_X13_readPerson, rX13_readPerson_0, rX13_readPerson_1, rX13_readPerson_4, rX13_readPerson_5, rX13_readPerson_6, rX13_readPerson_9, rX13_readPerson_10, gS_355, g, c1, c2, ne_eq, not_false_eq_true, not_true_eq_false, true_and, and_true, and_self, true_imp_iff, false_imp_iff, imp_self, Bool.not_false, Bool.not_true, reduceCtorEq, ab_isJ, ab_psh, ab_cats, Bool.false_eq_true, if_true, if_false, ab_shf, ab_shw, Int.le_refl, Classical.not_not, Int.zero_add, forall_const, ↓ab_itT, ↓ab_itF, ab_anT, ab_w32_id, ab_rdf_ne, ab_rdw_ne, ab_rdw_eq, ab_rdf_in, ab_td2, ab_tm2, true_or, or_true]
theorem mq_persE {c : Int → Int → ar_R} (h : ac_RM σ n tp s) (hR : ar_MR σ M κ) (hL : ar_L κ) (hn : (0 ≤ κ 5 0 ∧ κ 5 0 ≤ 5) ∧ (0 ≤ κ 6 0 ∧ κ 6 0 ≤ 6)) (er : pr_pers tp n κ (-1) s c = r) (hF : ∀ w pl, r = .inl (w, pl) → ∀ τ, ab_Same ac_PV σ τ → ac_RF τ w pl → Q (some (ab_I 0)) τ) (hO : ∀ p, (0 ≤ p ∧ p < κ 6 0) → c p (ac_nx tp n s) = r → ∀ τ, ab_Same ac_PV σ τ → ac_RM τ n tp (ac_nx tp n s) → Q (some (ab_I p)) τ) : ab_Do X 185 [ab_R 355] σ Q := by
  have g := h.1.1
  have key : ab_Do X 184 [ab_R 355] σ (fun r σ' => ab_Run X 185 4 (14, 0, 0) [ab_R 355, ab_R 0] (ab_psh r []) σ' Q) := by
    refine mq_knownE h hR hL hn er (fun w pl e τ u1 u2 => ?_) (fun p pb k2 er1 => ?_)
    · have kq := hF w pl e τ u1 u2
      have c1 := fun Q' => mq_goesOn5 (X := X) (Q := Q') u2.1 u2.2.1
      have gt := u2.1
      clear hF hO h hR u2 hL
      simp (disch := omega) only [rX13_readPerson_4, rX13_readPerson_5, rX13_readPerson_6, rX13_readPerson_9, rX13_readPerson_10, gS_355, gt, c1, ne_eq, not_false_eq_true, not_true_eq_false, true_and, and_true, and_self, true_imp_iff, false_imp_iff, imp_self, Bool.not_false, Bool.not_true, reduceCtorEq, ab_isJ, ab_psh, ab_cats, Bool.false_eq_true, if_true, if_false, ab_shf, ab_shw, Int.le_refl, Classical.not_not, Int.zero_add, forall_const, ↓ab_itT, ↓ab_itF, ab_anT, ab_w32_id, ab_rdf_ne, ab_rdw_ne, ab_rdw_eq, ab_rdf_in, ab_td2, ab_tm2, true_or, or_true]
      all_goals exact kq
    · rw [if_neg (by omega)] at er1
      have key2 : ab_Do X 171 [ab_R 355] σ (fun r σ' => ab_Run X 185 9 (14, 0, 0) [ab_R 355, ab_I p] (ab_psh r []) σ' Q) := by
        refine mq_goesOnR h (by omega) (fun τ u1 u2 => ?_)
        have kq := hO p pb er1 τ (u1.mono (fun _ _ => ac_PU_V)) u2
        clear hF hO h hR hL
        simp (disch := omega) only [rX13_readPerson_9, rX13_readPerson_10, ne_eq, not_false_eq_true, not_true_eq_false, true_and, and_true, and_self, true_imp_iff, false_imp_iff, imp_self, Bool.not_false, Bool.not_true, reduceCtorEq, ab_isJ, ab_psh, ab_cats, Bool.false_eq_true, if_true, if_false, ab_shf, ab_shw, Int.le_refl, Classical.not_not, Int.zero_add, forall_const, ↓ab_itT, ↓ab_itF, ab_anT, ab_w32_id, ab_rdf_ne, ab_rdw_ne, ab_rdw_eq, ab_rdf_in, ab_td2, ab_tm2, true_or, or_true]
        all_goals exact kq
      clear hF hO h hR hL
      simp (disch := omega) only [rX13_readPerson_4, rX13_readPerson_5, rX13_readPerson_6, gS_355, g, ne_eq, not_false_eq_true, not_true_eq_false, true_and, and_true, and_self, true_imp_iff, false_imp_iff, imp_self, Bool.not_false, Bool.not_true, reduceCtorEq, ab_isJ, ab_psh, ab_cats, Bool.false_eq_true, if_true, if_false, ab_shf, ab_shw, Int.le_refl, Classical.not_not, Int.zero_add, forall_const, ↓ab_itT, ↓ab_itF, ab_anT, ab_w32_id, ab_rdf_ne, ab_rdw_ne, ab_rdw_eq, ab_rdf_in, ab_td2, ab_tm2, true_or, or_true]
      all_goals exact key2
  clear hF hO h hR hL
  simp (disch := omega) only [do_X13_readPerson, rX13_readPerson_0, rX13_readPerson_1, gS_355, g, ne_eq, not_false_eq_true, not_true_eq_false, true_and, and_true, and_self, true_imp_iff, false_imp_iff, imp_self, Bool.not_false, Bool.not_true, reduceCtorEq, ab_isJ, ab_psh, ab_cats, Bool.false_eq_true, if_true, if_false, ab_shf, ab_shw, Int.le_refl, Classical.not_not, Int.zero_add, forall_const, ↓ab_itT, ↓ab_itF, ab_anT, ab_w32_id, ab_rdf_ne, ab_rdw_ne, ab_rdw_eq, ab_rdf_in, ab_td2, ab_tm2, true_or, or_true]
  all_goals exact key
theorem mq_side5 (h : ac_RF σ w pl) : ab_Do X 186 [ab_R 355] σ Q ↔ Q (some (ab_I 0)) σ := by
  have g := h.1
  have c1 := fun Q' => mq_goesOn5 (X := X) (Q := Q') h.1 h.2.1
  have c2 := fun k Q' => mq_flaw5 (X := X) (Q := Q') (k := k) h
  have c3 := fun a Q' => mq_isWord5 (X := X) (Q := Q') (a := a) h.1 h.2.1
  clear h
  simp (disch := omega) only [do_X13_readSide, rX13_readSide_0, rX13_readSide_1, rX13_readSide_3, rX13_readSide_6, rX13_readSide_9, rX13_readSide_10, rX13_readSide_13, rX13_readSide_14, rX13_readSide_15, rX13_readSide_16, rX13_readSide_19, rX13_readSide_20, rX13_readSide_22, rX13_readSide_25, rX13_readSide_28, rX13_readSide_29, rX13_readSide_30, rX13_readSide_33, rX13_readSide_34, rX13_readSide_37, rX13_readSide_38, gS_355, g, c1, c2, c3, ne_eq, not_false_eq_true, not_true_eq_false, true_and, and_true, and_self, true_imp_iff, false_imp_iff, imp_self, Bool.not_false, Bool.not_true, reduceCtorEq, ab_isJ, ab_psh, ab_cats, Bool.false_eq_true, if_true, if_false, ab_shf, ab_shw, Int.le_refl, Classical.not_not, Int.zero_add, forall_const, ↓ab_itT, ↓ab_itF, ab_anT, ab_w32_id, ab_rdf_ne, ab_rdw_ne, ab_rdw_eq, ab_rdf_in, ab_td2, ab_tm2, true_or, or_true]
theorem mq_sideE {c : Int → Int → ar_R} (h : ac_RM σ n tp s) (er : pr_kind tp n ac_tx12 ac_tx13 ac_tx17 ac_tx17 s c = r) (hF : ∀ w pl, r = .inl (w, pl) → ∀ τ, ab_Same ac_PV σ τ → ac_RF τ w pl → Q (some (ab_I 0)) τ) (hO : ∀ v s', (v = 0 ∨ v = 1) → c v s' = r → ∀ τ, ab_Same ac_PV σ τ → ac_RM τ n tp s' → Q (some (ab_I v)) τ) : ab_Do X 186 [ab_R 355] σ Q := by
  have g := h.1.1
  have c12 := fun Q' => mq_isWordX (X := X) (Q := Q') h.1.1 h.2.1 h.2.2.1 ac_TX12 ac_tok12
  have c13 := fun Q' => mq_isWordX (X := X) (Q := Q') h.1.1 h.2.1 h.2.2.1 ac_TX13 ac_tok13
  have c2 := fun k Q' => mq_flaw (X := X) (Q := Q') (k := k) h
  unfold pr_kind at er
  rw [ar_kd_1] at er
  have tail : ∀ v, ac_kk tp n s ≠ 1 → Q = Q → (∀ τ, ab_Same ac_PV σ τ → ac_RM τ n tp (ac_nx tp n s) → Q (some (ab_I v)) τ) → ab_Do X 171 [ab_R 355] σ (fun r σ' => ab_Run X 186 37 (12, 0, 0) [ab_R 355, ab_I v] (ab_psh r []) σ' Q) := fun v k1 _ hq => by
    refine mq_goesOnR h k1 (fun τ u1 u2 => ?_)
    have kq := hq τ (u1.mono (fun _ _ => ac_PU_V)) u2
    clear hF hO h c12 c13 c2 hq
    simp (disch := omega) only [rX13_readSide_37, rX13_readSide_38, ne_eq, not_false_eq_true, not_true_eq_false, true_and, and_true, and_self, true_imp_iff, false_imp_iff, imp_self, Bool.not_false, Bool.not_true, reduceCtorEq, ab_isJ, ab_psh, ab_cats, Bool.false_eq_true, if_true, if_false, ab_shf, ab_shw, Int.le_refl, Classical.not_not, Int.zero_add, forall_const, ↓ab_itT, ↓ab_itF, ab_anT, ab_w32_id, ab_rdf_ne, ab_rdw_ne, ab_rdw_eq, ab_rdf_in, ab_td2, ab_tm2, true_or, or_true]
    all_goals exact kq
  by_cases zL : ac_isw tp n s ac_tx12
  · have zR : ¬ ac_isw tp n s ac_tx13 := fun u => by
      have e := zL.2.symm.trans u.2
      exact absurd e (by decide)
    rw [if_pos zL, if_neg (by decide)] at er
    rw [if_pos zL] at c12
    rw [if_neg zR] at c13
    have key := tail 0 (by rw [zL.1]; decide) rfl (fun τ u1 u2 => hO 0 _ (Or.inl rfl) er τ u1 u2)
    clear hF hO h c2 er zL zR tail
    simp (disch := omega) only [do_X13_readSide, rX13_readSide_0, rX13_readSide_1, rX13_readSide_3, rX13_readSide_6, rX13_readSide_13, rX13_readSide_14, rX13_readSide_15, rX13_readSide_16, rX13_readSide_19, rX13_readSide_20, rX13_readSide_22, rX13_readSide_25, rX13_readSide_33, rX13_readSide_34, gS_355, g, c12, c13, ne_eq, not_false_eq_true, not_true_eq_false, true_and, and_true, and_self, true_imp_iff, false_imp_iff, imp_self, Bool.not_false, Bool.not_true, reduceCtorEq, ab_isJ, ab_psh, ab_cats, Bool.false_eq_true, if_true, if_false, ab_shf, ab_shw, Int.le_refl, Classical.not_not, Int.zero_add, forall_const, ↓ab_itT, ↓ab_itF, ab_anT, ab_w32_id, ab_rdf_ne, ab_rdw_ne, ab_rdw_eq, ab_rdf_in, ab_td2, ab_tm2, true_or, or_true]
    all_goals exact key
  · rw [if_neg zL] at er c12
    by_cases zR : ac_isw tp n s ac_tx13
    · rw [if_pos zR, if_neg (by decide)] at er
      rw [if_pos zR] at c13
      have key := tail 1 (by rw [zR.1]; decide) rfl (fun τ u1 u2 => hO 1 _ (Or.inr rfl) er τ u1 u2)
      clear hF hO h c2 er zL zR tail c12
      simp (disch := omega) only [do_X13_readSide, rX13_readSide_0, rX13_readSide_1, rX13_readSide_3, rX13_readSide_6, rX13_readSide_9, rX13_readSide_10, rX13_readSide_13, rX13_readSide_14, rX13_readSide_15, rX13_readSide_16, rX13_readSide_33, rX13_readSide_34, gS_355, g, c13, ne_eq, not_false_eq_true, not_true_eq_false, true_and, and_true, and_self, true_imp_iff, false_imp_iff, imp_self, Bool.not_false, Bool.not_true, reduceCtorEq, ab_isJ, ab_psh, ab_cats, Bool.false_eq_true, if_true, if_false, ab_shf, ab_shw, Int.le_refl, Classical.not_not, Int.zero_add, forall_const, ↓ab_itT, ↓ab_itF, ab_anT, ab_w32_id, ab_rdf_ne, ab_rdw_ne, ab_rdw_eq, ab_rdf_in, ab_td2, ab_tm2, true_or, or_true]
      all_goals exact key
    · rw [if_neg zR, if_pos rfl] at er
      rw [if_neg zR] at c13
      have f := ac_flw (k := 1) h
      have kq := hF 1 s er.symm _ f.2 f.1
      have gF := f.1.1
      have c1 := fun Q' => mq_goesOn5 (X := X) (Q := Q') f.1.1 f.1.2.1
      clear hF hO h er zL zR tail f
      simp (disch := omega) only [do_X13_readSide, rX13_readSide_0, rX13_readSide_1, rX13_readSide_3, rX13_readSide_6, rX13_readSide_13, rX13_readSide_14, rX13_readSide_15, rX13_readSide_16, rX13_readSide_19, rX13_readSide_20, rX13_readSide_22, rX13_readSide_25, rX13_readSide_28, rX13_readSide_29, rX13_readSide_30, rX13_readSide_33, rX13_readSide_34, rX13_readSide_37, rX13_readSide_38, gS_355, g, gF, c1, c2, c12, c13, ne_eq, not_false_eq_true, not_true_eq_false, true_and, and_true, and_self, true_imp_iff, false_imp_iff, imp_self, Bool.not_false, Bool.not_true, reduceCtorEq, ab_isJ, ab_psh, ab_cats, Bool.false_eq_true, if_true, if_false, ab_shf, ab_shw, Int.le_refl, Classical.not_not, Int.zero_add, forall_const, ↓ab_itT, ↓ab_itF, ab_anT, true_or, or_true]
      all_goals exact kq
/-- writes into the kitchen that is read -/
theorem ar_MR.wr1 (h : ar_MR σ M κ) (hf : 0 ≤ f ∧ f ≤ 11) : ar_MR (ab_wr σ M f v) M (ar_up κ f 0 v) := by
  obtain ⟨h1, h2, h3, h4⟩ := h
  have hM := h2.1
  refine ⟨by rw [ab_rdw_ne (by omega), h1], ⟨hM, h2.2.1, fun g g1 g2 => by rw [ab_rdw_ne (by omega)]; exact h2.2.2.1 g g1 g2, fun g g1 g2 => h2.2.2.2 g g1 g2⟩, fun g g1 g2 => ?_, fun g i g1 g2 i1 i2 => ?_⟩
  · by_cases e : g = f
    · rw [e, ab_rdw_eq, ar_up_e]
    · rw [ab_rdw_ne (by omega), ar_up_f e]; exact h3 g g1 g2
  · rw [ab_rdw_ne (by omega), ar_up_f (by omega)]; exact h4 g i g1 g2 i1 i2
theorem ar_MR.wrA (h : ar_MR σ M κ) (hf : 12 ≤ f ∧ f ≤ 32) (ha : a = M + (f - 11)) : ar_MR (ab_wr σ a i v) M (ar_up κ f i v) := by
  obtain ⟨h1, h2, h3, h4⟩ := h
  have hM := h2.1
  refine ⟨by rw [ab_rdw_ne (by omega), h1], ⟨hM, h2.2.1, fun g g1 g2 => by rw [ab_rdw_ne (by omega)]; exact h2.2.2.1 g g1 g2, fun g g1 g2 => h2.2.2.2 g g1 g2⟩, fun g g1 g2 => ?_, fun g j g1 g2 i1 i2 => ?_⟩
  · rw [ab_rdw_ne (by omega), ar_up_f (by omega)]; exact h3 g g1 g2
  · by_cases e : g = f
    · subst e
      by_cases e2 : j = i
      · rw [e2, ha, ab_rdw_eq, ar_up_e]
      · rw [ab_rdw_ne (by omega), ar_up_i e2]; exact h4 g j g1 g2 i1 i2
    · rw [ab_rdw_ne (by omega), ar_up_f e]; exact h4 g j g1 g2 i1 i2
theorem ar_MR.up (h : ar_MR σ M κ) (hf : 33 ≤ f) : ar_MR σ M (ar_up κ f i v) := by
  obtain ⟨h1, h2, h3, h4⟩ := h
  exact ⟨h1, h2, fun g g1 g2 => by rw [ar_up_f (by omega)]; exact h3 g g1 g2, fun g j g1 g2 i1 i2 => by rw [ar_up_f (by omega)]; exact h4 g j g1 g2 i1 i2⟩
theorem ac_RM.wrM (h : ac_RM σ n tp s) (ha : 369 ≤ a) : ac_RM (ab_wr σ a i v) n tp s := by
  obtain ⟨⟨h1, h2, h3, h4⟩, ⟨k1, k2, k3, k4, k5, k6⟩, h5⟩ := h
  have e : ∀ x y, x < 369 → ab_rd (ab_wr σ a i v) x y = ab_rd σ x y := fun x y u => ab_rdw_ne (by omega)
  have hs : ab_Same (fun x y => x = a ∧ y = i) σ (ab_wr σ a i v) := ab_Same.refl.wr ⟨rfl, rfl⟩
  exact ⟨⟨h1.same hs (fun x y x1 x2 x3 u => by omega), by rw [e 355 7 (by omega), h2], h3, fun j j1 j2 => by rw [e 356 j (by omega)]; exact h4 j j1 j2⟩, ⟨by rw [e 355 10 (by omega), k1], by rw [e 355 9 (by omega), k2], by rw [e 355 11 (by omega), k3], fun u => by rw [e 355 8 (by omega), k4 u], fun u => by rw [e 355 12 (by omega), k5 u], fun u => by rw [e 355 15 (by omega), k6 u]⟩, h5.1, h5.2.1, by rw [e 355 13 (by omega), h5.2.2]⟩
def ar_wN (σ : ab_S) (M k w z x : Int) : ab_S := ab_wr (ab_wr (ab_wr (ab_wr σ (M + 19) k w) (M + 20) k z) (M + 21) k x) M 10 (k + 1)
theorem mq_names (g : ab_Geo σ) (hR : ar_MR σ M κ) (hn : 0 ≤ κ 10 0 ∧ κ 10 0 < 11) (hz : z = 0 ∨ z = 1) : ab_Do X 183 [ab_R 355, ab_J w, ab_I z, ab_I x] σ Q ↔ Q none (ar_wN σ M (κ 10 0) w z x) := by
  have h4 := hR.1
  have hM := hR.2.1.1
  have s0 := mS hR.2.1
  have s30 := mS_30 hR.2.1
  have p30 := mP_30 hR.2.1
  have s31 := mS_31 hR.2.1
  have p31 := mP_31 hR.2.1
  have s32 := mS_32 hR.2.1
  have p32 := mP_32 hR.2.1
  have c10 := hR.2.2.1 10 (by omega) (by omega)
  unfold ar_wN
  clear hR
  generalize κ 10 0 = k at *
  simp (disch := first | omega | (simp only [ab_shw, s31, true_and, and_true, or_true, true_or, and_self, false_or, or_false, false_and]; omega)) only [do_X13_names, rX13_names_0, rX13_names_1, rX13_names_4, rX13_names_7, rX13_names_8, rX13_names_11, rX13_names_14, rX13_names_15, rX13_names_16, rX13_names_17, rX13_names_20, rX13_names_23, rX13_names_24, rX13_names_27, rX13_names_30, rX13_names_31B, rX13_names_31Z, rX13_names_32, rX13_names_33, rX13_names_36, rX13_names_39, rX13_names_40, rX13_names_43, rX13_names_46, rX13_names_48, rX13_names_49, rX13_names_50, rX13_names_53I, rX13_names_53R, rX13_names_54, rX13_names_57, rX13_names_58, rX13_names_59, rX13_names_62, gS_355, g, h4, s0, s30, p30, s31, p31, s32, p32, c10, ne_eq, not_false_eq_true, not_true_eq_false, true_and, and_true, and_self, true_imp_iff, false_imp_iff, imp_self, Bool.not_false, Bool.not_true, reduceCtorEq, ab_isJ, ab_psh, ab_cats, Bool.false_eq_true, if_true, if_false, ab_shf, ab_shw, Int.le_refl, Classical.not_not, Int.zero_add, forall_const, ↓ab_itT, ↓ab_itF, ab_anT, ab_w32_id, ab_rdf_ne, ab_rdw_ne, ab_rdw_eq, ab_rdf_in, ab_td2, ab_tm2, true_or, or_true]
end
