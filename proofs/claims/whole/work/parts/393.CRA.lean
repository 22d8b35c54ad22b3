/-! READER of the class: all lines -/
def ar_rd (tp : Int → Int) (n : Int) : ar_R := pr_read tp n (n + 1).toNat (fun _ _ => 0) (ac_kst tp n 0)
def ar_PO (K : Int) : Int → Int → Prop := fun a f => ar_PL K a f ∨ (a = 3 ∧ f = 7)
theorem ar_PO_pt {K : Int} (hK : ac_kit K) : ∀ a f, 0 ≤ a → a ≤ 368 → 0 ≤ f → ar_PO K a f → ab_pt a f = 0 := by
  intro a f h1 h2 h3 hp
  rcases hp with hp | ⟨rfl, rfl⟩
  · exact ar_PL_pt hK a f h1 h2 h3 hp
  · decide +kernel
section
variable {X : ab_X} {σ τ : ab_S} {Q : Option ab_V → ab_S → Prop} {n s K v m ln l : Int} {tp : Int → Int} {κ : ac_K} {r : ar_R}
theorem ar_nx4 (h : ac_kk tp n s = 4) (hs : 0 ≤ s ∧ s ≤ n) : s + 1 ≤ ac_nx tp n s ∧ ac_nx tp n s ≤ n := by
  have hlt : s < n := by
    apply Classical.byContradiction
    intro u
    unfold ac_kk at h
    rw [if_pos (by omega)] at h
    omega
  have h1 : ¬ (97 ≤ tp s ∧ tp s ≤ 122) := by
    intro u
    unfold ac_kk at h
    rw [if_neg (by omega), if_pos u] at h
    split at h <;> omega
  have h2 : ¬ (48 ≤ tp s ∧ tp s ≤ 57) := by
    intro u
    unfold ac_kk at h
    rw [if_neg (by omega), if_neg h1, if_pos u] at h
    split at h <;> omega
  have ek : ac_ke tp n s = s + 1 := by unfold ac_ke; rw [if_neg (by omega), if_neg h1, if_neg h2]
  have r := ac_run_b (lo := 32) (hi := 32) (tp := tp) (n := n) (p := s + 1) (by omega)
  unfold ac_nx ac_kst
  rw [ek]
  exact r
theorem sp_rd_f (h : Q (some (ab_I 0)) τ) : ab_Run X 42 41 (15, 0, 0) [ab_R 2, ab_I n, ab_I l] (ab_psh (some (ab_I 0)) []) τ Q := by
  simp (disch := omega) only [rX7_read_41, rX7_read_44, rX7_read_45, ne_eq, not_false_eq_true, not_true_eq_false, true_and, and_true, and_self, true_imp_iff, false_imp_iff, imp_self, Bool.not_false, Bool.not_true, reduceCtorEq, ab_isJ, ab_psh, ab_cats, Bool.false_eq_true, if_true, if_false, ab_shf, ab_shw, Int.le_refl, Classical.not_not, Int.zero_add, forall_const, ↓ab_itT, ↓ab_itF, ab_anT, ab_w32_id, ab_rdf_ne, ab_rdw_ne, ab_rdw_eq, ab_rdf_in, ab_td2, ab_tm2, true_or, or_true]
  all_goals exact h
theorem sp_rd_bad (hR : ac_RC τ n tp s) (k0 : ac_kk tp n s ≠ 0) (k4 : ac_kk tp n s ≠ 4) (kq : Q (some (ab_I 0)) (ab_wr (ab_wr τ 2 2 1) 2 3 s)) : ab_Run X 42 41 (15, 0, 0) [ab_R 2, ab_I n, ab_I l] (ab_psh (some (ab_I 1)) []) τ Q := by
  have g := hR.geo
  have k2 := hR.2.1.1
  have c2 := fun k Q' => sp_stop (X := X) (Q := Q') (k := k) hR
  clear hR
  generalize ac_kk tp n s = kk at *
  simp (disch := omega) only [rX7_read_41, rX7_read_46, rX7_read_47, rX7_read_50, rX7_read_53, rX7_read_93, rX7_read_94, rX7_read_97, rX7_read_100, rX7_read_101, rX7_read_104, rX7_read_105, rX7_read_106, rX7_read_109, gS_2, gP_2_0, gS_3, g, k2, c2, ne_eq, not_false_eq_true, not_true_eq_false, true_and, and_true, and_self, true_imp_iff, false_imp_iff, imp_self, Bool.not_false, Bool.not_true, reduceCtorEq, ab_isJ, ab_psh, ab_cats, Bool.false_eq_true, if_true, if_false, ab_shf, ab_shw, Int.le_refl, Classical.not_not, Int.zero_add, forall_const, ↓ab_itT, ↓ab_itF, ab_anT, ab_w32_id, ab_rdf_ne, ab_rdw_ne, ab_rdw_eq, ab_rdf_in, ab_td2, ab_tm2, true_or, or_true]
  all_goals exact kq
theorem sp_rd_next (hR : ac_RC τ n tp s) (k4 : ac_kk tp n s = 4) (key : ab_Do X 70 [ab_R 3] τ (fun r σ' => ab_Run X 42 117 (15, 0, 0) [ab_R 2, ab_I n, ab_I l] (ab_psh r []) σ' Q)) : ab_Run X 42 41 (15, 0, 0) [ab_R 2, ab_I n, ab_I l] (ab_psh (some (ab_I 1)) []) τ Q := by
  have g := hR.geo
  have k2 := hR.2.1.1
  rw [k4] at k2
  clear hR
  simp (disch := omega) only [rX7_read_41, rX7_read_46, rX7_read_47, rX7_read_50, rX7_read_53, rX7_read_93, rX7_read_94, rX7_read_97, rX7_read_100, rX7_read_101, rX7_read_110, rX7_read_111, rX7_read_114, gS_2, gP_2_0, gS_3, g, k2, ne_eq, not_false_eq_true, not_true_eq_false, true_and, and_true, and_self, true_imp_iff, false_imp_iff, imp_self, Bool.not_false, Bool.not_true, reduceCtorEq, ab_isJ, ab_psh, ab_cats, Bool.false_eq_true, if_true, if_false, ab_shf, ab_shw, Int.le_refl, Classical.not_not, Int.zero_add, forall_const, ↓ab_itT, ↓ab_itF, ab_anT, ab_w32_id, ab_rdf_ne, ab_rdw_ne, ab_rdw_eq, ab_rdf_in, ab_td2, ab_tm2, true_or, or_true]
  all_goals exact key
theorem sp_rd_go (hl : 0 ≤ l ∧ l ≤ 2000) (kq : ab_Run X 42 32 (15, 0, 0) [ab_R 2, ab_I n, ab_I (l + 1)] [] τ Q) : ab_Run X 42 117 (15, 0, 0) [ab_R 2, ab_I n, ab_I l] (ab_psh none []) τ Q := by
  simp (disch := omega) only [rX7_read_117, rX7_read_120, ne_eq, not_false_eq_true, not_true_eq_false, true_and, and_true, and_self, true_imp_iff, false_imp_iff, imp_self, Bool.not_false, Bool.not_true, reduceCtorEq, ab_isJ, ab_psh, ab_cats, Bool.false_eq_true, if_true, if_false, ab_shf, ab_shw, Int.le_refl, Classical.not_not, Int.zero_add, forall_const, ↓ab_itT, ↓ab_itF, ab_anT, ab_w32_id, ab_rdf_ne, ab_rdw_ne, ab_rdw_eq, ab_rdf_in, ab_td2, ab_tm2, true_or, or_true]
  all_goals exact kq
theorem sp_rd_ok (hR : ac_RC τ n tp s) (k0 : ac_kk tp n s = 0) (hk : ar_KF τ K κ) (h5 : 1 ≤ κ 5 0) (h6 : 2 ≤ κ 6 0) (kq : Q (some (ab_I 1)) τ) : ab_Run X 42 41 (15, 0, 0) [ab_R 2, ab_I n, ab_I l] (ab_psh (some (ab_I 1)) []) τ Q := by
  have g := hR.geo
  have k2 := hR.2.1.1
  rw [k0] at k2
  have hK := hk.1
  have hv : K = 5 ∨ K = 329 := hK
  have s0 := (g.kit hK).1
  have e1 := hk.2.1
  have c5 := hk.2.2.2.2.1.1
  have c7 := hk.2.2.2.2.1.2.1
  clear hR hk
  simp (disch := omega) only [rX7_read_41, rX7_read_46, rX7_read_47, rX7_read_50, rX7_read_53, rX7_read_56, rX7_read_57, rX7_read_60, rX7_read_63, rX7_read_64, rX7_read_67, rX7_read_68, rX7_read_71, rX7_read_74, rX7_read_75, rX7_read_87, rX7_read_88, rX7_read_91, rX7_read_92, gS_2, gP_2_0, gS_3, g, k2, s0, e1, c5, c7, ne_eq, not_false_eq_true, not_true_eq_false, true_and, and_true, and_self, true_imp_iff, false_imp_iff, imp_self, Bool.not_false, Bool.not_true, reduceCtorEq, ab_isJ, ab_psh, ab_cats, Bool.false_eq_true, if_true, if_false, ab_shf, ab_shw, Int.le_refl, Classical.not_not, Int.zero_add, forall_const, ↓ab_itT, ↓ab_itF, ab_anT, ab_w32_id, ab_rdf_ne, ab_rdw_ne, ab_rdw_eq, ab_rdf_in, ab_td2, ab_tm2, true_or, or_true]
  all_goals exact kq
theorem sp_rd_lacks (hR : ac_RC τ n tp s) (k0 : ac_kk tp n s = 0) (hk : ar_KF τ K κ) (h5 : ¬ (1 ≤ κ 5 0 ∧ 2 ≤ κ 6 0)) (kq : Q (some (ab_I 0)) (ab_wr (ab_wr τ 2 2 6) 2 3 s)) : ab_Run X 42 41 (15, 0, 0) [ab_R 2, ab_I n, ab_I l] (ab_psh (some (ab_I 1)) []) τ Q := by
  have g := hR.geo
  have k2 := hR.2.1.1
  have c2 := fun k Q' => sp_stop (X := X) (Q := Q') (k := k) hR
  rw [k0] at k2
  have hK := hk.1
  have hv : K = 5 ∨ K = 329 := hK
  have s0 := (g.kit hK).1
  have e1 := hk.2.1
  have c5 := hk.2.2.2.2.1.1
  have c7 := hk.2.2.2.2.1.2.1
  clear hR hk
  by_cases z : 1 ≤ κ 5 0
  · simp (disch := omega) only [rX7_read_41, rX7_read_46, rX7_read_47, rX7_read_50, rX7_read_53, rX7_read_56, rX7_read_57, rX7_read_60, rX7_read_63, rX7_read_64, rX7_read_67, rX7_read_68, rX7_read_71, rX7_read_74, rX7_read_75, rX7_read_78, rX7_read_79, rX7_read_81, rX7_read_84, rX7_read_87, rX7_read_88, rX7_read_91, rX7_read_92, gS_2, gP_2_0, gS_3, g, k2, s0, e1, c5, c7, c2, ne_eq, not_false_eq_true, not_true_eq_false, true_and, and_true, and_self, true_imp_iff, false_imp_iff, imp_self, Bool.not_false, Bool.not_true, reduceCtorEq, ab_isJ, ab_psh, ab_cats, Bool.false_eq_true, if_true, if_false, ab_shf, ab_shw, Int.le_refl, Classical.not_not, Int.zero_add, forall_const, ↓ab_itT, ↓ab_itF, ab_anT, ab_w32_id, ab_rdf_ne, ab_rdw_ne, ab_rdw_eq, ab_rdf_in, ab_td2, ab_tm2, true_or, or_true]
    all_goals exact kq
  · simp (disch := omega) only [rX7_read_41, rX7_read_46, rX7_read_47, rX7_read_50, rX7_read_53, rX7_read_56, rX7_read_57, rX7_read_60, rX7_read_63, rX7_read_64, rX7_read_78, rX7_read_79, rX7_read_81, rX7_read_84, rX7_read_87, rX7_read_88, rX7_read_91, rX7_read_92, gS_2, gP_2_0, gS_3, g, k2, s0, e1, c5, c7, c2, ne_eq, not_false_eq_true, not_true_eq_false, true_and, and_true, and_self, true_imp_iff, false_imp_iff, imp_self, Bool.not_false, Bool.not_true, reduceCtorEq, ab_isJ, ab_psh, ab_cats, Bool.false_eq_true, if_true, if_false, ab_shf, ab_shw, Int.le_refl, Classical.not_not, Int.zero_add, forall_const, ↓ab_itT, ↓ab_itF, ab_anT, ab_w32_id, ab_rdf_ne, ab_rdw_ne, ab_rdw_eq, ab_rdf_in, ab_td2, ab_tm2, true_or, or_true]
    all_goals exact kq
theorem sp_rd_line (g : ab_Geo τ) (hl : l ≤ n) (key : ab_Do X 44 [ab_R 2] τ (fun r σ' => ab_Run X 42 41 (15, 0, 0) [ab_R 2, ab_I n, ab_I l] (ab_psh r []) σ' Q)) : ab_Run X 42 32 (15, 0, 0) [ab_R 2, ab_I n, ab_I l] [] τ Q := by
  rw [rX7_read_32]
  simp (disch := omega) only [rX7_read_33, rX7_read_34, rX7_read_37, rX7_read_38, gS_2, gP_2_0, gS_3, g, ne_eq, not_false_eq_true, not_true_eq_false, true_and, and_true, and_self, true_imp_iff, false_imp_iff, imp_self, Bool.not_false, Bool.not_true, reduceCtorEq, ab_isJ, ab_psh, ab_cats, Bool.false_eq_true, if_true, if_false, ab_shf, ab_shw, Int.le_refl, Classical.not_not, Int.zero_add, forall_const, ↓ab_itT, ↓ab_itF, ab_anT, ab_w32_id, ab_rdf_ne, ab_rdw_ne, ab_rdw_eq, ab_rdf_in, ab_td2, ab_tm2, true_or, or_true]
  all_goals exact key
theorem sp_read_l (hn : n ≤ 1000) : ∀ (m : Nat) (l s : Int) (κ : ac_K) (τ : ab_S), 0 ≤ l → l ≤ s → n + 1 ≤ m + s → ac_RC τ n tp s → ar_KF τ K κ → ar_J κ → pr_read tp n m κ s = r → ar_hF Q τ K r → (∀ κ' s', r = .inr (κ', s') → ar_J κ' → 1 ≤ κ' 5 0 → 2 ≤ κ' 6 0 → ∀ υ, ab_Same (ar_PL K) τ υ → ac_RC υ n tp s' → ar_KF υ K κ' → Q (some (ab_I 1)) υ) → ab_Run X 42 32 (15, 0, 0) [ab_R 2, ab_I n, ab_I l] [] τ Q := by
  intro m
  induction m with
  | zero => intro l s κ τ h1 h2 h3 hR; exfalso; have := hR.2.2.2.1; omega
  | succ m ih =>
    intro l s κ τ h1 h2 h3 hR hk hj er hF hO
    have hsn := hR.2.2.2.1
    refine sp_rd_line hR.geo (by omega) ?_
    unfold pr_read at er
    refine sp_readLine hR hk hj (fun w pl e υ u1 u2 u3 => ?_) (fun s' e k0 k4 υ u1 R1 => ?_) (fun κ' s' e υ u1 R1 K1 => ?_)
    · rw [e] at er
      exact sp_rd_f (hF w pl er.symm υ u1 u2 u3)
    · rw [e] at er
      exact sp_rd_bad R1 k0 k4 (hF 1 s' er.symm _ (u1.trans ac_stp_e.1.rl) ac_stp_e.2.1 ac_stp_e.2.2)
    · have J1 := pr_line_J hj ⟨by omega, hsn⟩ e
      rw [e] at er
      dsimp only at er
      by_cases k0 : ac_kk tp n s' = 0
      · rw [if_pos k0] at er
        by_cases z : 1 ≤ κ' 5 0 ∧ 2 ≤ κ' 6 0
        · rw [if_pos z] at er
          exact sp_rd_ok R1 k0 K1 z.1 z.2 (hO κ' s' er.symm J1.1 z.1 z.2 υ u1 R1 K1)
        · rw [if_neg z] at er
          exact sp_rd_lacks R1 k0 K1 z (hF 6 s' er.symm _ (u1.trans ac_stp_e.1.rl) ac_stp_e.2.1 ac_stp_e.2.2)
      · rw [if_neg k0] at er
        by_cases k4 : ac_kk tp n s' = 4
        · rw [if_pos k4] at er
          have nb := ar_nx4 k4 ⟨by omega, J1.2.2⟩
          refine sp_rd_next R1 k4 (sp_nextR R1 (fun τ2 u2 R2 => sp_rd_go (by omega) ?_))
          exact ih (l + 1) _ κ' τ2 (by omega) (by omega) (by omega) R2 (K1.same u2.kr) J1.1 er (fun w pl e υ q1 q2 q3 => hF w pl e υ ((u1.trans u2.kr.rl).trans q1) q2 q3) (fun κ2 s2 e j h5 h6 υ q1 q2 q3 => hO κ2 s2 e j h5 h6 υ ((u1.trans u2.kr.rl).trans q1) q2 q3)
        · rw [if_neg k4] at er
          exact sp_rd_bad R1 k0 k4 (hF 1 s' er.symm _ (u1.trans ac_stp_e.1.rl) ac_stp_e.2.1 ac_stp_e.2.2)
/-- the fresh kitchen cleared -/
def ar_clr (σ : ab_S) (K : Int) : ab_S := ab_wr (ab_wr (ab_wr (ab_wr (ab_wr (ab_wr (ab_wr (ab_wr (ab_wr σ K 5 0) K 7 0) K 9 0) K 10 0) K 11 0) K 12 0) 2 2 0) 2 3 (-1)) 2 4 0
theorem ar_clr_same : ab_Same (ar_PL K) σ (ar_clr σ K) := by
  unfold ar_clr
  exact ((((((((ab_Same.refl.wr (Or.inr (Or.inr (ar_PKk (by decide))))).wr (Or.inr (Or.inr (ar_PKk (by decide))))).wr (Or.inr (Or.inr (ar_PKk (by decide))))).wr (Or.inr (Or.inr (ar_PKk (by decide))))).wr (Or.inr (Or.inr (ar_PKk (by decide))))).wr (Or.inr (Or.inr (ar_PKk (by decide))))).wr (Or.inl (Or.inr ⟨rfl, Or.inl rfl⟩))).wr (Or.inl (Or.inr ⟨rfl, Or.inr (Or.inl rfl)⟩))).wr (Or.inr (Or.inl ⟨rfl, rfl⟩))
theorem ar_clr_KF (hK : ac_kit K) (e1 : ab_rd σ 2 1 = K) : ar_KF (ar_clr σ K) K (fun _ _ => 0) := by
  have hv : K = 5 ∨ K = 329 := hK
  refine ⟨hK, ?_, ?_, (fun u => absurd u (by decide)), ⟨?_, ?_, ?_, ?_, ?_, ?_⟩, fun b b1 b2 => absurd b1 (Int.not_le.mpr b2), fun b b1 b2 => absurd b1 (Int.not_le.mpr b2), fun b b1 b2 => absurd b1 (Int.not_le.mpr b2)⟩
  all_goals unfold ar_clr
  · simp (disch := omega) only [ab_rdw_ne, e1]
  · simp (disch := omega) only [ab_rdw_eq]
  · simp (disch := omega) only [ab_rdw_ne, ab_rdw_eq]
  · simp (disch := omega) only [ab_rdw_ne, ab_rdw_eq]
  · simp (disch := omega) only [ab_rdw_ne, ab_rdw_eq]
  · simp (disch := omega) only [ab_rdw_ne, ab_rdw_eq]
  · simp (disch := omega) only [ab_rdw_ne, ab_rdw_eq]
    rfl
  · simp (disch := omega) only [ab_rdw_ne, ab_rdw_eq]
theorem sp_rd_open (g : ab_Geo σ) (hK : ac_kit K) (e1 : ab_rd σ 2 1 = K) (key : ab_Do X 69 [ab_R 3, ab_I n] (ar_clr σ K) (fun r σ' => ab_Run X 42 30 (15, 0, 0) [ab_R 2, ab_I n, ab_R 0] (ab_psh r []) σ' Q)) : ab_Do X 42 [ab_R 2, ab_I n] σ Q := by
  have hv : K = 5 ∨ K = 329 := hK
  have s0 := (g.kit hK).1
  clear hK
  unfold ar_clr at key
  simp (disch := omega) only [do_X7_read, rX7_read_0, rX7_read_1, rX7_read_4, rX7_read_7, rX7_read_8, rX7_read_9, rX7_read_12, rX7_read_13, rX7_read_14, rX7_read_17, rX7_read_18, rX7_read_19, rX7_read_22, rX7_read_23, rX7_read_26, rX7_read_27, do_X4_clear, rX4_clear_0, rX4_clear_1, rX4_clear_2, rX4_clear_5, rX4_clear_6, rX4_clear_7, rX4_clear_10, rX4_clear_11, rX4_clear_12, rX4_clear_15, rX4_clear_16, rX4_clear_17, rX4_clear_20, rX4_clear_21, rX4_clear_22, rX4_clear_25, rX4_clear_26, rX4_clear_27, rX4_clear_30, gS_2, gP_2_0, gS_3, g, s0, e1, ne_eq, not_false_eq_true, not_true_eq_false, true_and, and_true, and_self, true_imp_iff, false_imp_iff, imp_self, Bool.not_false, Bool.not_true, reduceCtorEq, ab_isJ, ab_psh, ab_cats, Bool.false_eq_true, if_true, if_false, ab_shf, ab_shw, Int.le_refl, Classical.not_not, Int.zero_add, forall_const, ↓ab_itT, ↓ab_itF, ab_anT, ab_w32_id, ab_rdf_ne, ab_rdw_ne, ab_rdw_eq, ab_rdf_in, ab_td2, ab_tm2, true_or, or_true]
  all_goals exact key
theorem sp_rd_start (kq : ab_Run X 42 32 (15, 0, 0) [ab_R 2, ab_I n, ab_I 0] [] τ Q) : ab_Run X 42 30 (15, 0, 0) [ab_R 2, ab_I n, ab_R 0] (ab_psh none []) τ Q := by
  simp (disch := omega) only [rX7_read_30, rX7_read_31, ne_eq, not_false_eq_true, not_true_eq_false, true_and, and_true, and_self, true_imp_iff, false_imp_iff, imp_self, Bool.not_false, Bool.not_true, reduceCtorEq, ab_isJ, ab_psh, ab_cats, Bool.false_eq_true, if_true, if_false, ab_shf, ab_shw, Int.le_refl, Classical.not_not, Int.zero_add, forall_const, ↓ab_itT, ↓ab_itF, ab_anT, ab_w32_id, ab_rdf_ne, ab_rdw_ne, ab_rdw_eq, ab_rdf_in, ab_td2, ab_tm2, true_or, or_true]
  all_goals exact kq
theorem sp_read (g : ab_Geo σ) (hK : ac_kit K) (e1 : ab_rd σ 2 1 = K) (hT : ac_TC σ ln tp) (hb : ∀ i, -128 ≤ tp i ∧ tp i ≤ 127) (hn : 0 ≤ n ∧ n ≤ ln) (hF : ∀ w pl, ar_rd tp n = .inl (w, pl) → ∀ τ, ab_Same (ar_PO K) σ τ → ab_rd τ 2 2 = w → ab_rd τ 2 3 = pl → Q (some (ab_I 0)) τ) (hO : ∀ κ' s', ar_rd tp n = .inr (κ', s') → ar_J κ' → 1 ≤ κ' 5 0 → 2 ≤ κ' 6 0 → ∀ τ, ab_Same (ar_PO K) σ τ → ab_rd τ 2 2 = 0 → ar_KF τ K κ' → Q (some (ab_I 1)) τ) : ab_Do X 42 [ab_R 2, ab_I n] σ Q := by
  have hv : K = 5 ∨ K = 329 := hK
  have hs := ar_clr_same (σ := σ) (K := K)
  have g0 := g.same hs (ar_PL_pt hK)
  have hT0 : ac_TC (ar_clr σ K) ln tp := by
    obtain ⟨t1, t2, t3⟩ := hT
    exact ⟨by rw [hs.2.2 3 1 (by unfold ar_PL ar_PK ac_PR ac_PK9; omega), t1], t2, fun i i1 i2 => by rw [hs.2.2 4 i (by unfold ar_PL ar_PK ac_PR ac_PK9; omega)]; exact t3 i i1 i2⟩
  have ln1 := hT.2.1
  refine sp_rd_open g hK e1 (sp_open g0 hT0 hb hn (fun τ u1 t1 t2 => sp_rd_start ?_))
  have kb := ac_run_b (lo := 32) (hi := 32) (tp := tp) (n := n) (p := 0) hn.1
  have SO : ab_Same (ar_PO K) σ τ := (hs.mono (fun _ _ u => Or.inl u)).trans (u1.mono (fun a f u => by unfold ac_PO at u; unfold ar_PL ac_PR ac_PK9; omega))
  have R : ac_RC τ n tp (ac_kst tp n 0) := ⟨t1, t2, kb.1, kb.2, by rw [u1.2.2 2 2 (by unfold ac_PO; omega)]; unfold ar_clr; rw [ab_rdw_ne (by omega), ab_rdw_ne (by omega), ab_rdw_eq]⟩
  have KF0 : ar_KF τ K (fun _ _ => 0) := by
    obtain ⟨c1, c2, c3, c4, c5, c6, c7, c8⟩ := ar_clr_KF (σ := σ) hK e1
    have e : ∀ a f, a ≠ 3 → ab_rd τ a f = ab_rd (ar_clr σ K) a f := fun a f h => u1.2.2 a f (by unfold ac_PO; omega)
    refine ⟨c1, by rw [e _ _ (by omega), c2], by rw [e _ _ (by omega), c3], (fun u => absurd u (by decide)), ?_, fun b b1 b2 => absurd b1 (Int.not_le.mpr b2), fun b b1 b2 => absurd b1 (Int.not_le.mpr b2), fun b b1 b2 => absurd b1 (Int.not_le.mpr b2)⟩
    unfold ac_KC0 at c5 ⊢
    rw [e _ _ (by omega), e _ _ (by omega), e _ _ (by omega), e _ _ (by omega), e _ _ (by omega), e _ _ (by omega)]
    exact c5
  exact sp_read_l (by omega) (n + 1).toNat 0 _ _ τ (by omega) kb.1 (by omega) R KF0 ar_J0 rfl (fun w pl e υ q1 q2 q3 => hF w pl e υ (SO.trans (q1.mono (fun _ _ u => Or.inl u))) q2 q3) (fun κ' s' e j h5 h6 υ q1 q2 q3 => hO κ' s' e j h5 h6 υ (SO.trans (q1.mono (fun _ _ u => Or.inl u))) q2.2.2.2.2 q3)
end
