/-! THE REFERENCE: its Kitchen's making; kitchen (written by gen/gm4.py) -/
def ar_Lz (σ : ab_S) (M : Int) (τ : ab_S) (j : Int) : Prop := τ.1 = M + 1 + j ∧ ab_sh τ M = (13, 0) ∧ (∀ f, 12 ≤ f → f < 12 + j → ab_rd τ M f = M + (f - 11) ∧ ab_sh τ (M + (f - 11)) = ac_mkT f ∧ ∀ i, ab_rd τ (M + (f - 11)) i = 0) ∧ (∀ f, f < 12 → ab_rd τ M f = 0) ∧ (∀ a, a < M → ab_sh τ a = ab_sh σ a ∧ ∀ f, ab_rd τ a f = ab_rd σ a f)
section
variable {X : ab_X} {σ τ υ σ0 : ab_S} {Q : Option ab_V → ab_S → Prop} {M j t n x y a k v : Int}
theorem ab_shn : ab_sh (ab_new σ t n) x = if x = σ.1 then (t, n) else ab_sh σ x := rfl
theorem ab_rdn : ab_rd (ab_new σ t n) x y = if x = σ.1 then 0 else ab_rd σ x y := rfl
theorem ab_nxn : (ab_new σ t n).1 = σ.1 + 1 := rfl
theorem ar_Lz_s (h : ar_Lz σ0 M τ j) (hj : 0 ≤ j) (ht : ac_mkT (12 + j) = (t, n)) : ar_Lz σ0 M (ab_wr (ab_new τ t n) M (12 + j) τ.1) (j + 1) := by
  obtain ⟨h1, h2, h3, h4, h5⟩ := h
  refine ⟨?_, ?_, fun f f1 f2 => ?_, fun f f1 => ?_, fun a ha => ⟨?_, fun f => ?_⟩⟩
  · show τ.1 + 1 = _
    omega
  · rw [ab_shw, ab_shn, if_neg (by omega), h2]
  · by_cases z : f = 12 + j
    · subst z
      refine ⟨?_, ?_, fun i => ?_⟩
      · rw [ab_rdw_eq]; omega
      · rw [ab_shw, ab_shn, if_pos (by omega), ht]
      · rw [ab_rdw_ne (by omega), ab_rdn, if_pos (by omega)]
    · obtain ⟨q1, q2, q3⟩ := h3 f f1 (by omega)
      refine ⟨?_, ?_, fun i => ?_⟩
      · rw [ab_rdw_ne (by omega), ab_rdn, if_neg (by omega), q1]
      · rw [ab_shw, ab_shn, if_neg (by omega), q2]
      · rw [ab_rdw_ne (by omega), ab_rdn, if_neg (by omega), q3]
  · rw [ab_rdw_ne (by omega), ab_rdn, if_neg (by omega), h4 f f1]
  · rw [ab_shw, ab_shn, if_neg (by omega), (h5 a ha).1]
  · rw [ab_rdw_ne (by omega), ab_rdn, if_neg (by omega), (h5 a ha).2 f]
theorem mki_0 (h : ar_Lz σ0 M τ 0) (hM : 0 < M) (key : ∀ υ, ar_Lz σ0 M υ 1 → ab_Run X 152 11 (1, 20, 206) [ab_R M] [] υ Q) : ab_Run X 152 4 (1, 21, 211) [ab_R M] [] τ Q := by
  have kq := key _ (ar_Lz_s (t := 21) (n := 5) h (by decide) rfl)
  have h1 := h.1
  have sM : ab_sh (ab_new τ 21 5) M = (13, 0) := by rw [ab_shn, if_neg (by omega), h.2.1]
  clear h key h1
  simp (disch := omega) only [rX12_init_4, rX12_init_5, rX12_init_6, rX12_init_8, sM, ne_eq, not_false_eq_true, not_true_eq_false, true_and, and_true, and_self, true_imp_iff, false_imp_iff, imp_self, Bool.not_false, Bool.not_true, reduceCtorEq, ab_isJ, ab_psh, ab_cats, Bool.false_eq_true, if_true, if_false, ab_shf, ab_shw, Int.le_refl, Classical.not_not, Int.zero_add, forall_const, ↓ab_itT, ↓ab_itF, ab_anT, true_or, or_true]
  all_goals exact kq
theorem mki_1 (h : ar_Lz σ0 M τ 1) (hM : 0 < M) (key : ∀ υ, ar_Lz σ0 M υ 2 → ab_Run X 152 18 (1, 19, 201) [ab_R M] [] υ Q) : ab_Run X 152 11 (1, 20, 206) [ab_R M] [] τ Q := by
  have kq := key _ (ar_Lz_s (t := 21) (n := 5) h (by decide) rfl)
  have h1 := h.1
  have sM : ab_sh (ab_new τ 21 5) M = (13, 0) := by rw [ab_shn, if_neg (by omega), h.2.1]
  clear h key h1
  simp (disch := omega) only [rX12_init_11, rX12_init_12, rX12_init_13, rX12_init_15, sM, ne_eq, not_false_eq_true, not_true_eq_false, true_and, and_true, and_self, true_imp_iff, false_imp_iff, imp_self, Bool.not_false, Bool.not_true, reduceCtorEq, ab_isJ, ab_psh, ab_cats, Bool.false_eq_true, if_true, if_false, ab_shf, ab_shw, Int.le_refl, Classical.not_not, Int.zero_add, forall_const, ↓ab_itT, ↓ab_itF, ab_anT, true_or, or_true]
  all_goals exact kq
theorem mki_2 (h : ar_Lz σ0 M τ 2) (hM : 0 < M) (key : ∀ υ, ar_Lz σ0 M υ 3 → ab_Run X 152 26 (1, 18, 191) [ab_R M] [] υ Q) : ab_Run X 152 18 (1, 19, 201) [ab_R M] [] τ Q := by
  have kq := key _ (ar_Lz_s (t := 21) (n := 10) h (by decide) rfl)
  have h1 := h.1
  have sM : ab_sh (ab_new τ 21 10) M = (13, 0) := by rw [ab_shn, if_neg (by omega), h.2.1]
  clear h key h1
  simp (disch := omega) only [rX12_init_18, rX12_init_19, rX12_init_21, rX12_init_23, sM, ne_eq, not_false_eq_true, not_true_eq_false, true_and, and_true, and_self, true_imp_iff, false_imp_iff, imp_self, Bool.not_false, Bool.not_true, reduceCtorEq, ab_isJ, ab_psh, ab_cats, Bool.false_eq_true, if_true, if_false, ab_shf, ab_shw, Int.le_refl, Classical.not_not, Int.zero_add, forall_const, ↓ab_itT, ↓ab_itF, ab_anT, true_or, or_true]
  all_goals exact kq
theorem mki_3 (h : ar_Lz σ0 M τ 3) (hM : 0 < M) (key : ∀ υ, ar_Lz σ0 M υ 4 → ab_Run X 152 34 (1, 17, 131) [ab_R M] [] υ Q) : ab_Run X 152 26 (1, 18, 191) [ab_R M] [] τ Q := by
  have kq := key _ (ar_Lz_s (t := 21) (n := 60) h (by decide) rfl)
  have h1 := h.1
  have sM : ab_sh (ab_new τ 21 60) M = (13, 0) := by rw [ab_shn, if_neg (by omega), h.2.1]
  clear h key h1
  simp (disch := omega) only [rX12_init_26, rX12_init_27, rX12_init_29, rX12_init_31, sM, ne_eq, not_false_eq_true, not_true_eq_false, true_and, and_true, and_self, true_imp_iff, false_imp_iff, imp_self, Bool.not_false, Bool.not_true, reduceCtorEq, ab_isJ, ab_psh, ab_cats, Bool.false_eq_true, if_true, if_false, ab_shf, ab_shw, Int.le_refl, Classical.not_not, Int.zero_add, forall_const, ↓ab_itT, ↓ab_itF, ab_anT, true_or, or_true]
  all_goals exact kq
theorem mki_4 (h : ar_Lz σ0 M τ 4) (hM : 0 < M) (key : ∀ υ, ar_Lz σ0 M υ 5 → ab_Run X 152 42 (1, 16, 125) [ab_R M] [] υ Q) : ab_Run X 152 34 (1, 17, 131) [ab_R M] [] τ Q := by
  have kq := key _ (ar_Lz_s (t := 21) (n := 6) h (by decide) rfl)
  have h1 := h.1
  have sM : ab_sh (ab_new τ 21 6) M = (13, 0) := by rw [ab_shn, if_neg (by omega), h.2.1]
  clear h key h1
  simp (disch := omega) only [rX12_init_34, rX12_init_35, rX12_init_37, rX12_init_39, sM, ne_eq, not_false_eq_true, not_true_eq_false, true_and, and_true, and_self, true_imp_iff, false_imp_iff, imp_self, Bool.not_false, Bool.not_true, reduceCtorEq, ab_isJ, ab_psh, ab_cats, Bool.false_eq_true, if_true, if_false, ab_shf, ab_shw, Int.le_refl, Classical.not_not, Int.zero_add, forall_const, ↓ab_itT, ↓ab_itF, ab_anT, true_or, or_true]
  all_goals exact kq
theorem mki_5 (h : ar_Lz σ0 M τ 5) (hM : 0 < M) (key : ∀ υ, ar_Lz σ0 M υ 6 → ab_Run X 152 50 (1, 15, 119) [ab_R M] [] υ Q) : ab_Run X 152 42 (1, 16, 125) [ab_R M] [] τ Q := by
  have kq := key _ (ar_Lz_s (t := 21) (n := 6) h (by decide) rfl)
  have h1 := h.1
  have sM : ab_sh (ab_new τ 21 6) M = (13, 0) := by rw [ab_shn, if_neg (by omega), h.2.1]
  clear h key h1
  simp (disch := omega) only [rX12_init_42, rX12_init_43, rX12_init_45, rX12_init_47, sM, ne_eq, not_false_eq_true, not_true_eq_false, true_and, and_true, and_self, true_imp_iff, false_imp_iff, imp_self, Bool.not_false, Bool.not_true, reduceCtorEq, ab_isJ, ab_psh, ab_cats, Bool.false_eq_true, if_true, if_false, ab_shf, ab_shw, Int.le_refl, Classical.not_not, Int.zero_add, forall_const, ↓ab_itT, ↓ab_itF, ab_anT, true_or, or_true]
  all_goals exact kq
theorem mki_6 (h : ar_Lz σ0 M τ 6) (hM : 0 < M) (key : ∀ υ, ar_Lz σ0 M υ 7 → ab_Run X 152 58 (1, 14, 113) [ab_R M] [] υ Q) : ab_Run X 152 50 (1, 15, 119) [ab_R M] [] τ Q := by
  have kq := key _ (ar_Lz_s (t := 21) (n := 6) h (by decide) rfl)
  have h1 := h.1
  have sM : ab_sh (ab_new τ 21 6) M = (13, 0) := by rw [ab_shn, if_neg (by omega), h.2.1]
  clear h key h1
  simp (disch := omega) only [rX12_init_50, rX12_init_51, rX12_init_53, rX12_init_55, sM, ne_eq, not_false_eq_true, not_true_eq_false, true_and, and_true, and_self, true_imp_iff, false_imp_iff, imp_self, Bool.not_false, Bool.not_true, reduceCtorEq, ab_isJ, ab_psh, ab_cats, Bool.false_eq_true, if_true, if_false, ab_shf, ab_shw, Int.le_refl, Classical.not_not, Int.zero_add, forall_const, ↓ab_itT, ↓ab_itF, ab_anT, true_or, or_true]
  all_goals exact kq
theorem mki_7 (h : ar_Lz σ0 M τ 7) (hM : 0 < M) (key : ∀ υ, ar_Lz σ0 M υ 8 → ab_Run X 152 66 (1, 13, 107) [ab_R M] [] υ Q) : ab_Run X 152 58 (1, 14, 113) [ab_R M] [] τ Q := by
  have kq := key _ (ar_Lz_s (t := 21) (n := 6) h (by decide) rfl)
  have h1 := h.1
  have sM : ab_sh (ab_new τ 21 6) M = (13, 0) := by rw [ab_shn, if_neg (by omega), h.2.1]
  clear h key h1
  simp (disch := omega) only [rX12_init_58, rX12_init_59, rX12_init_61, rX12_init_63, sM, ne_eq, not_false_eq_true, not_true_eq_false, true_and, and_true, and_self, true_imp_iff, false_imp_iff, imp_self, Bool.not_false, Bool.not_true, reduceCtorEq, ab_isJ, ab_psh, ab_cats, Bool.false_eq_true, if_true, if_false, ab_shf, ab_shw, Int.le_refl, Classical.not_not, Int.zero_add, forall_const, ↓ab_itT, ↓ab_itF, ab_anT, true_or, or_true]
  all_goals exact kq
theorem mki_8 (h : ar_Lz σ0 M τ 8) (hM : 0 < M) (key : ∀ υ, ar_Lz σ0 M υ 9 → ab_Run X 152 74 (1, 12, 101) [ab_R M] [] υ Q) : ab_Run X 152 66 (1, 13, 107) [ab_R M] [] τ Q := by
  have kq := key _ (ar_Lz_s (t := 21) (n := 6) h (by decide) rfl)
  have h1 := h.1
  have sM : ab_sh (ab_new τ 21 6) M = (13, 0) := by rw [ab_shn, if_neg (by omega), h.2.1]
  clear h key h1
  simp (disch := omega) only [rX12_init_66, rX12_init_67, rX12_init_69, rX12_init_71, sM, ne_eq, not_false_eq_true, not_true_eq_false, true_and, and_true, and_self, true_imp_iff, false_imp_iff, imp_self, Bool.not_false, Bool.not_true, reduceCtorEq, ab_isJ, ab_psh, ab_cats, Bool.false_eq_true, if_true, if_false, ab_shf, ab_shw, Int.le_refl, Classical.not_not, Int.zero_add, forall_const, ↓ab_itT, ↓ab_itF, ab_anT, true_or, or_true]
  all_goals exact kq
theorem mki_9 (h : ar_Lz σ0 M τ 9) (hM : 0 < M) (key : ∀ υ, ar_Lz σ0 M υ 10 → ab_Run X 152 82 (1, 11, 95) [ab_R M] [] υ Q) : ab_Run X 152 74 (1, 12, 101) [ab_R M] [] τ Q := by
  have kq := key _ (ar_Lz_s (t := 21) (n := 6) h (by decide) rfl)
  have h1 := h.1
  have sM : ab_sh (ab_new τ 21 6) M = (13, 0) := by rw [ab_shn, if_neg (by omega), h.2.1]
  clear h key h1
  simp (disch := omega) only [rX12_init_74, rX12_init_75, rX12_init_77, rX12_init_79, sM, ne_eq, not_false_eq_true, not_true_eq_false, true_and, and_true, and_self, true_imp_iff, false_imp_iff, imp_self, Bool.not_false, Bool.not_true, reduceCtorEq, ab_isJ, ab_psh, ab_cats, Bool.false_eq_true, if_true, if_false, ab_shf, ab_shw, Int.le_refl, Classical.not_not, Int.zero_add, forall_const, ↓ab_itT, ↓ab_itF, ab_anT, true_or, or_true]
  all_goals exact kq
theorem mki_10 (h : ar_Lz σ0 M τ 10) (hM : 0 < M) (key : ∀ υ, ar_Lz σ0 M υ 11 → ab_Run X 152 90 (1, 10, 83) [ab_R M] [] υ Q) : ab_Run X 152 82 (1, 11, 95) [ab_R M] [] τ Q := by
  have kq := key _ (ar_Lz_s (t := 21) (n := 12) h (by decide) rfl)
  have h1 := h.1
  have sM : ab_sh (ab_new τ 21 12) M = (13, 0) := by rw [ab_shn, if_neg (by omega), h.2.1]
  clear h key h1
  simp (disch := omega) only [rX12_init_82, rX12_init_83, rX12_init_85, rX12_init_87, sM, ne_eq, not_false_eq_true, not_true_eq_false, true_and, and_true, and_self, true_imp_iff, false_imp_iff, imp_self, Bool.not_false, Bool.not_true, reduceCtorEq, ab_isJ, ab_psh, ab_cats, Bool.false_eq_true, if_true, if_false, ab_shf, ab_shw, Int.le_refl, Classical.not_not, Int.zero_add, forall_const, ↓ab_itT, ↓ab_itF, ab_anT, true_or, or_true]
  all_goals exact kq
theorem mki_11 (h : ar_Lz σ0 M τ 11) (hM : 0 < M) (key : ∀ υ, ar_Lz σ0 M υ 12 → ab_Run X 152 98 (1, 9, 71) [ab_R M] [] υ Q) : ab_Run X 152 90 (1, 10, 83) [ab_R M] [] τ Q := by
  have kq := key _ (ar_Lz_s (t := 21) (n := 12) h (by decide) rfl)
  have h1 := h.1
  have sM : ab_sh (ab_new τ 21 12) M = (13, 0) := by rw [ab_shn, if_neg (by omega), h.2.1]
  clear h key h1
  simp (disch := omega) only [rX12_init_90, rX12_init_91, rX12_init_93, rX12_init_95, sM, ne_eq, not_false_eq_true, not_true_eq_false, true_and, and_true, and_self, true_imp_iff, false_imp_iff, imp_self, Bool.not_false, Bool.not_true, reduceCtorEq, ab_isJ, ab_psh, ab_cats, Bool.false_eq_true, if_true, if_false, ab_shf, ab_shw, Int.le_refl, Classical.not_not, Int.zero_add, forall_const, ↓ab_itT, ↓ab_itF, ab_anT, true_or, or_true]
  all_goals exact kq
theorem mki_12 (h : ar_Lz σ0 M τ 12) (hM : 0 < M) (key : ∀ υ, ar_Lz σ0 M υ 13 → ab_Run X 152 106 (1, 8, 59) [ab_R M] [] υ Q) : ab_Run X 152 98 (1, 9, 71) [ab_R M] [] τ Q := by
  have kq := key _ (ar_Lz_s (t := 21) (n := 12) h (by decide) rfl)
  have h1 := h.1
  have sM : ab_sh (ab_new τ 21 12) M = (13, 0) := by rw [ab_shn, if_neg (by omega), h.2.1]
  clear h key h1
  simp (disch := omega) only [rX12_init_98, rX12_init_99, rX12_init_101, rX12_init_103, sM, ne_eq, not_false_eq_true, not_true_eq_false, true_and, and_true, and_self, true_imp_iff, false_imp_iff, imp_self, Bool.not_false, Bool.not_true, reduceCtorEq, ab_isJ, ab_psh, ab_cats, Bool.false_eq_true, if_true, if_false, ab_shf, ab_shw, Int.le_refl, Classical.not_not, Int.zero_add, forall_const, ↓ab_itT, ↓ab_itF, ab_anT, true_or, or_true]
  all_goals exact kq
theorem mki_13 (h : ar_Lz σ0 M τ 13) (hM : 0 < M) (key : ∀ υ, ar_Lz σ0 M υ 14 → ab_Run X 152 113 (1, 7, 55) [ab_R M] [] υ Q) : ab_Run X 152 106 (1, 8, 59) [ab_R M] [] τ Q := by
  have kq := key _ (ar_Lz_s (t := 21) (n := 4) h (by decide) rfl)
  have h1 := h.1
  have sM : ab_sh (ab_new τ 21 4) M = (13, 0) := by rw [ab_shn, if_neg (by omega), h.2.1]
  clear h key h1
  simp (disch := omega) only [rX12_init_106, rX12_init_107, rX12_init_108, rX12_init_110, sM, ne_eq, not_false_eq_true, not_true_eq_false, true_and, and_true, and_self, true_imp_iff, false_imp_iff, imp_self, Bool.not_false, Bool.not_true, reduceCtorEq, ab_isJ, ab_psh, ab_cats, Bool.false_eq_true, if_true, if_false, ab_shf, ab_shw, Int.le_refl, Classical.not_not, Int.zero_add, forall_const, ↓ab_itT, ↓ab_itF, ab_anT, true_or, or_true]
  all_goals exact kq
theorem mki_14 (h : ar_Lz σ0 M τ 14) (hM : 0 < M) (key : ∀ υ, ar_Lz σ0 M υ 15 → ab_Run X 152 120 (1, 6, 51) [ab_R M] [] υ Q) : ab_Run X 152 113 (1, 7, 55) [ab_R M] [] τ Q := by
  have kq := key _ (ar_Lz_s (t := 21) (n := 4) h (by decide) rfl)
  have h1 := h.1
  have sM : ab_sh (ab_new τ 21 4) M = (13, 0) := by rw [ab_shn, if_neg (by omega), h.2.1]
  clear h key h1
  simp (disch := omega) only [rX12_init_113, rX12_init_114, rX12_init_115, rX12_init_117, sM, ne_eq, not_false_eq_true, not_true_eq_false, true_and, and_true, and_self, true_imp_iff, false_imp_iff, imp_self, Bool.not_false, Bool.not_true, reduceCtorEq, ab_isJ, ab_psh, ab_cats, Bool.false_eq_true, if_true, if_false, ab_shf, ab_shw, Int.le_refl, Classical.not_not, Int.zero_add, forall_const, ↓ab_itT, ↓ab_itF, ab_anT, true_or, or_true]
  all_goals exact kq
theorem mki_15 (h : ar_Lz σ0 M τ 15) (hM : 0 < M) (key : ∀ υ, ar_Lz σ0 M υ 16 → ab_Run X 152 128 (1, 5, 45) [ab_R M] [] υ Q) : ab_Run X 152 120 (1, 6, 51) [ab_R M] [] τ Q := by
  have kq := key _ (ar_Lz_s (t := 21) (n := 6) h (by decide) rfl)
  have h1 := h.1
  have sM : ab_sh (ab_new τ 21 6) M = (13, 0) := by rw [ab_shn, if_neg (by omega), h.2.1]
  clear h key h1
  simp (disch := omega) only [rX12_init_120, rX12_init_121, rX12_init_123, rX12_init_125, sM, ne_eq, not_false_eq_true, not_true_eq_false, true_and, and_true, and_self, true_imp_iff, false_imp_iff, imp_self, Bool.not_false, Bool.not_true, reduceCtorEq, ab_isJ, ab_psh, ab_cats, Bool.false_eq_true, if_true, if_false, ab_shf, ab_shw, Int.le_refl, Classical.not_not, Int.zero_add, forall_const, ↓ab_itT, ↓ab_itF, ab_anT, true_or, or_true]
  all_goals exact kq
theorem mki_16 (h : ar_Lz σ0 M τ 16) (hM : 0 < M) (key : ∀ υ, ar_Lz σ0 M υ 17 → ab_Run X 152 136 (1, 4, 39) [ab_R M] [] υ Q) : ab_Run X 152 128 (1, 5, 45) [ab_R M] [] τ Q := by
  have kq := key _ (ar_Lz_s (t := 21) (n := 6) h (by decide) rfl)
  have h1 := h.1
  have sM : ab_sh (ab_new τ 21 6) M = (13, 0) := by rw [ab_shn, if_neg (by omega), h.2.1]
  clear h key h1
  simp (disch := omega) only [rX12_init_128, rX12_init_129, rX12_init_131, rX12_init_133, sM, ne_eq, not_false_eq_true, not_true_eq_false, true_and, and_true, and_self, true_imp_iff, false_imp_iff, imp_self, Bool.not_false, Bool.not_true, reduceCtorEq, ab_isJ, ab_psh, ab_cats, Bool.false_eq_true, if_true, if_false, ab_shf, ab_shw, Int.le_refl, Classical.not_not, Int.zero_add, forall_const, ↓ab_itT, ↓ab_itF, ab_anT, true_or, or_true]
  all_goals exact kq
theorem mki_17 (h : ar_Lz σ0 M τ 17) (hM : 0 < M) (key : ∀ υ, ar_Lz σ0 M υ 18 → ab_Run X 152 144 (1, 3, 33) [ab_R M] [] υ Q) : ab_Run X 152 136 (1, 4, 39) [ab_R M] [] τ Q := by
  have kq := key _ (ar_Lz_s (t := 21) (n := 6) h (by decide) rfl)
  have h1 := h.1
  have sM : ab_sh (ab_new τ 21 6) M = (13, 0) := by rw [ab_shn, if_neg (by omega), h.2.1]
  clear h key h1
  simp (disch := omega) only [rX12_init_136, rX12_init_137, rX12_init_139, rX12_init_141, sM, ne_eq, not_false_eq_true, not_true_eq_false, true_and, and_true, and_self, true_imp_iff, false_imp_iff, imp_self, Bool.not_false, Bool.not_true, reduceCtorEq, ab_isJ, ab_psh, ab_cats, Bool.false_eq_true, if_true, if_false, ab_shf, ab_shw, Int.le_refl, Classical.not_not, Int.zero_add, forall_const, ↓ab_itT, ↓ab_itF, ab_anT, true_or, or_true]
  all_goals exact kq
theorem mki_18 (h : ar_Lz σ0 M τ 18) (hM : 0 < M) (key : ∀ υ, ar_Lz σ0 M υ 19 → ab_Run X 152 152 (1, 2, 22) [ab_R M] [] υ Q) : ab_Run X 152 144 (1, 3, 33) [ab_R M] [] τ Q := by
  have kq := key _ (ar_Lz_s (t := 22) (n := 11) h (by decide) rfl)
  have h1 := h.1
  have sM : ab_sh (ab_new τ 22 11) M = (13, 0) := by rw [ab_shn, if_neg (by omega), h.2.1]
  clear h key h1
  simp (disch := omega) only [rX12_init_144, rX12_init_145, rX12_init_147, rX12_init_149, sM, ne_eq, not_false_eq_true, not_true_eq_false, true_and, and_true, and_self, true_imp_iff, false_imp_iff, imp_self, Bool.not_false, Bool.not_true, reduceCtorEq, ab_isJ, ab_psh, ab_cats, Bool.false_eq_true, if_true, if_false, ab_shf, ab_shw, Int.le_refl, Classical.not_not, Int.zero_add, forall_const, ↓ab_itT, ↓ab_itF, ab_anT, true_or, or_true]
  all_goals exact kq
theorem mki_19 (h : ar_Lz σ0 M τ 19) (hM : 0 < M) (key : ∀ υ, ar_Lz σ0 M υ 20 → ab_Run X 152 160 (1, 1, 11) [ab_R M] [] υ Q) : ab_Run X 152 152 (1, 2, 22) [ab_R M] [] τ Q := by
  have kq := key _ (ar_Lz_s (t := 24) (n := 11) h (by decide) rfl)
  have h1 := h.1
  have sM : ab_sh (ab_new τ 24 11) M = (13, 0) := by rw [ab_shn, if_neg (by omega), h.2.1]
  clear h key h1
  simp (disch := omega) only [rX12_init_152, rX12_init_153, rX12_init_155, rX12_init_157, sM, ne_eq, not_false_eq_true, not_true_eq_false, true_and, and_true, and_self, true_imp_iff, false_imp_iff, imp_self, Bool.not_false, Bool.not_true, reduceCtorEq, ab_isJ, ab_psh, ab_cats, Bool.false_eq_true, if_true, if_false, ab_shf, ab_shw, Int.le_refl, Classical.not_not, Int.zero_add, forall_const, ↓ab_itT, ↓ab_itF, ab_anT, true_or, or_true]
  all_goals exact kq
theorem mki_20 (h : ar_Lz σ0 M τ 20) (hM : 0 < M) (key : ∀ υ, ar_Lz σ0 M υ 21 → ab_Run X 152 168 (1, 0, 0) [ab_R M] [] υ Q) : ab_Run X 152 160 (1, 1, 11) [ab_R M] [] τ Q := by
  have kq := key _ (ar_Lz_s (t := 21) (n := 11) h (by decide) rfl)
  have h1 := h.1
  have sM : ab_sh (ab_new τ 21 11) M = (13, 0) := by rw [ab_shn, if_neg (by omega), h.2.1]
  clear h key h1
  simp (disch := omega) only [rX12_init_160, rX12_init_161, rX12_init_163, rX12_init_165, sM, ne_eq, not_false_eq_true, not_true_eq_false, true_and, and_true, and_self, true_imp_iff, false_imp_iff, imp_self, Bool.not_false, Bool.not_true, reduceCtorEq, ab_isJ, ab_psh, ab_cats, Bool.false_eq_true, if_true, if_false, ab_shf, ab_shw, Int.le_refl, Classical.not_not, Int.zero_add, forall_const, ↓ab_itT, ↓ab_itF, ab_anT, true_or, or_true]
  all_goals exact kq
theorem mq_kinit (h : ar_Lz σ0 M σ 0) (hM : 0 < M) (hQ : ∀ τ, ar_Lz σ0 M τ 21 → Q none τ) : ab_Do X 152 [ab_R M] σ Q := by
  have kq : ab_Run X 152 4 (1, 21, 211) [ab_R M] [] σ Q := by
    refine mki_0 h hM (fun τ1 h1 => ?_)
    refine mki_1 h1 hM (fun τ2 h2 => ?_)
    refine mki_2 h2 hM (fun τ3 h3 => ?_)
    refine mki_3 h3 hM (fun τ4 h4 => ?_)
    refine mki_4 h4 hM (fun τ5 h5 => ?_)
    refine mki_5 h5 hM (fun τ6 h6 => ?_)
    refine mki_6 h6 hM (fun τ7 h7 => ?_)
    refine mki_7 h7 hM (fun τ8 h8 => ?_)
    refine mki_8 h8 hM (fun τ9 h9 => ?_)
    refine mki_9 h9 hM (fun τ10 h10 => ?_)
    refine mki_10 h10 hM (fun τ11 h11 => ?_)
    refine mki_11 h11 hM (fun τ12 h12 => ?_)
    refine mki_12 h12 hM (fun τ13 h13 => ?_)
    refine mki_13 h13 hM (fun τ14 h14 => ?_)
    refine mki_14 h14 hM (fun τ15 h15 => ?_)
    refine mki_15 h15 hM (fun τ16 h16 => ?_)
    refine mki_16 h16 hM (fun τ17 h17 => ?_)
    refine mki_17 h17 hM (fun τ18 h18 => ?_)
    refine mki_18 h18 hM (fun τ19 h19 => ?_)
    refine mki_19 h19 hM (fun τ20 h20 => ?_)
    refine mki_20 h20 hM (fun τ21 h21 => ?_)
    have kr := hQ τ21 h21
    clear hQ
    simp (disch := omega) only [rX12_init_168, ne_eq, not_false_eq_true, not_true_eq_false, true_and, and_true, and_self, true_imp_iff, false_imp_iff, imp_self, Bool.not_false, Bool.not_true, reduceCtorEq, ab_isJ, ab_psh, ab_cats, Bool.false_eq_true, if_true, if_false, ab_shf, ab_shw, Int.le_refl, Classical.not_not, Int.zero_add, forall_const, ↓ab_itT, ↓ab_itF, ab_anT, ab_w32_id, ab_rdf_ne, ab_rdw_ne, ab_rdw_eq, ab_rdf_in, ab_td2, ab_tm2]
    all_goals exact kr
  clear hQ h
  simp (disch := omega) only [dn_X12_init, rX12_init_0, rX12_init_1, ne_eq, not_false_eq_true, not_true_eq_false, true_and, and_true, and_self, true_imp_iff, false_imp_iff, imp_self, Bool.not_false, Bool.not_true, reduceCtorEq, ab_isJ, ab_psh, ab_cats, Bool.false_eq_true, if_true, if_false, ab_shf, ab_shw, Int.le_refl, Classical.not_not, Int.zero_add, forall_const, ↓ab_itT, ↓ab_itF, ab_anT, true_or, or_true]
  all_goals exact kq
end


