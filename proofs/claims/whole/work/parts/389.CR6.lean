/-! READER of the class: arms -/
def ar_PA (B arm : Int) : Int → Int → Prop := fun a f => ac_PR a f ∨ (a = B + 1 ∧ f = arm) ∨ (a = B + 2 ∧ 6 * arm ≤ f ∧ f < 6 * arm + 6)
section
variable {X : ab_X} {σ τ : ab_S} {Q : Option ab_V → ab_S → Prop} {n s K B b arm i v o : Int} {tp : Int → Int} {κ : ac_K} {r : ar_R}
theorem ac_RC.wrB (h : ac_RC σ n tp s) (hK : ac_kit K) (hb : 0 ≤ b ∧ b < 5) (hB : B = K + 5 + 3 * b) {x y z : Int} (hx : x = B + 1 ∨ x = B + 2) : ac_RC (ab_wr σ x y z) n tp s := h.wrK (K := K) (Or.inr ⟨hK, Or.inr (Or.inr (Or.inr (Or.inl ⟨by omega, by omega, fun u => by omega⟩)))⟩)
/-- a thickness set, and the next token -/
theorem sp_arm_set (hR : ac_RC τ n tp s) (hK : ac_kit K) (hb : 0 ≤ b ∧ b < 5) (hB : B = K + 5 + 3 * b) (ha : arm = 0 ∨ arm = 1) (hi : 0 ≤ i ∧ i < 6) (f5 : ab_rd τ 2 5 = v) (key : ab_Do X 70 [ab_R 3] (ab_wr (ab_wr τ (B + 2) (6 * arm + i) v) (B + 1) arm (i + 1)) (fun r σ' => ab_Run X 48 49 (2, 0, 0) [ab_R 2, ab_R B, ab_I arm, ab_I i] (ab_psh r []) σ' Q)) : ab_Run X 48 15 (2, 0, 0) [ab_R 2, ab_R B, ab_I arm, ab_I i] (ab_psh (some (ab_I 1)) []) τ Q := by
  have hv : K = 5 ∨ K = 329 := hK
  have g := hR.geo
  have gB := (g.bone hK hb.1 hb.2).1
  rw [← hB] at gB
  obtain ⟨-, q1, q2, q3, q4, q5⟩ := gB
  clear hR hK
  simp (disch := omega) only [rX7_readArm_15, rX7_readArm_20, rX7_readArm_21, rX7_readArm_23, rX7_readArm_32, rX7_readArm_33, rX7_readArm_34, rX7_readArm_35, rX7_readArm_36, rX7_readArm_39, rX7_readArm_42, rX7_readArm_43, rX7_readArm_46, do_X1_setThick, rX1_setThick_0, rX1_setThick_1, rX1_setThick_4, rX1_setThick_6, rX1_setThick_7, rX1_setThick_8, rX1_setThick_9, rX1_setThick_10, rX1_setThick_11, rX1_setThick_12, rX1_setThick_13, rX1_setThick_16, rX1_setThick_17, rX1_setThick_18, rX1_setThick_19, rX1_setThick_20, rX1_setThick_21, gS_2, gP_2_0, gS_3, g, q1, q2, q3, q4, q5, f5, ne_eq, not_false_eq_true, not_true_eq_false, true_and, and_true, and_self, true_imp_iff, false_imp_iff, imp_self, Bool.not_false, Bool.not_true, reduceCtorEq, ab_isJ, ab_psh, ab_cats, Bool.false_eq_true, if_true, if_false, ab_shf, ab_shw, Int.le_refl, Classical.not_not, Int.zero_add, forall_const, ↓ab_itT, ↓ab_itF, ab_anT, ab_w32_id, ab_rdf_ne, ab_rdw_ne, ab_rdw_eq, ab_rdf_in, ab_td2, ab_tm2, true_or, or_true]
  all_goals exact key
theorem sp_arm_many (hR : ac_RC τ n tp s) (key : Q (some (ab_I 0)) (ab_wr (ab_wr τ 2 2 5) 2 3 s)) (hB : B ≠ 0) : ab_Run X 48 15 (2, 0, 0) [ab_R 2, ab_R B, ab_I arm, ab_I 6] (ab_psh (some (ab_I 1)) []) τ Q := by
  have g := hR.geo
  have c2 := fun k Q' => sp_stop (X := X) (Q := Q') (k := k) hR
  clear hR
  simp (disch := omega) only [rX7_readArm_15, rX7_readArm_20, rX7_readArm_21, rX7_readArm_23, rX7_readArm_26, rX7_readArm_27, rX7_readArm_28, rX7_readArm_31, gS_2, gP_2_0, gS_3, g, c2, ne_eq, not_false_eq_true, not_true_eq_false, true_and, and_true, and_self, true_imp_iff, false_imp_iff, imp_self, Bool.not_false, Bool.not_true, reduceCtorEq, ab_isJ, ab_psh, ab_cats, Bool.false_eq_true, if_true, if_false, ab_shf, ab_shw, Int.le_refl, Classical.not_not, Int.zero_add, forall_const, ↓ab_itT, ↓ab_itF, ab_anT, ab_w32_id, ab_rdf_ne, ab_rdw_ne, ab_rdw_eq, ab_rdf_in, ab_td2, ab_tm2, true_or, or_true]
  all_goals exact key
theorem sp_arm_l (hK : ac_kit K) (hb : 0 ≤ b ∧ b < 5) (hB : B = K + 5 + 3 * b) (ha : arm = 0 ∨ arm = 1) (c : ac_K → Int → Int → ar_R) : ∀ (m : Nat) (i s : Int) (κ : ac_K) (τ : ab_S), (0 ≤ i ∧ i ≤ 6) → i + m = 7 → ac_RC τ n tp s → (∀ j, 0 ≤ j → j < i → ab_rd τ (B + 2) (6 * arm + j) = κ 15 (o + j)) → pr_arm tp n o m κ i s c = r → (∀ w pl, r = .inl (w, pl) → ∀ υ, ab_Same (ar_PA B arm) τ υ → ab_rd υ 2 2 = w → ab_rd υ 2 3 = pl → Q (some (ab_I 0)) υ) → (∀ κ1 j s', c κ1 j s' = r → (i < j ∧ j ≤ 6) → (∀ g k, (g ≠ 15 ∨ k < o + i ∨ o + j ≤ k) → κ1 g k = κ g k) → ∀ υ, ab_Same (ar_PA B arm) τ υ → ac_RC υ n tp s' → ab_rd υ (B + 1) arm = j → (∀ t, 0 ≤ t → t < j → ab_rd υ (B + 2) (6 * arm + t) = κ1 15 (o + t)) → Q (some (ab_I 1)) υ) → ab_Run X 48 2 (2, 0, 0) [ab_R 2, ab_R B, ab_I arm, ab_I i] [] τ Q := by
  have hv : K = 5 ∨ K = 329 := hK
  intro m
  induction m with
  | zero => intro i s κ τ hi hm hR hv er hF hO; exfalso; omega
  | succ m ih =>
    intro i s κ τ hi hm hR hp er hF hO
    unfold pr_arm at er
    have key : ab_Do X 57 [ab_R 2, ab_I 1, ab_I 9] τ (fun r σ' => ab_Run X 48 15 (2, 0, 0) [ab_R 2, ab_R B, ab_I arm, ab_I i] (ab_psh r []) σ' Q) := by
      refine sp_wholeE hR er (fun wf pl ef υ u1 u2 u3 => ?_) (fun v vb er1 τ1 u1 f5 w1 => ?_)
      · have kq := hF wf pl ef υ (u1.mono (fun _ _ z => Or.inl z)) u2 u3
        clear ih hF hO hR er hp
        simp (disch := omega) only [rX7_readArm_15, rX7_readArm_18, rX7_readArm_19, ne_eq, not_false_eq_true, not_true_eq_false, true_and, and_true, and_self, true_imp_iff, false_imp_iff, imp_self, Bool.not_false, Bool.not_true, reduceCtorEq, ab_isJ, ab_psh, ab_cats, Bool.false_eq_true, if_true, if_false, ab_shf, ab_shw, Int.le_refl, Classical.not_not, Int.zero_add, forall_const, ↓ab_itT, ↓ab_itF, ab_anT, ab_w32_id, ab_rdf_ne, ab_rdw_ne, ab_rdw_eq, ab_rdf_in, ab_td2, ab_tm2, true_or, or_true]
        all_goals exact kq
      · have u1' : ab_Same ac_PR τ τ1 := u1.mono (fun _ _ z => Or.inr ⟨z.1, by omega⟩)
        have u1A : ab_Same (ar_PA B arm) τ τ1 := u1'.mono (fun _ _ z => Or.inl z)
        by_cases z6 : i = 6
        · rw [if_pos z6] at er1
          subst z6
          exact sp_arm_many w1 (hF 5 s er1.symm _ (u1A.trans (ac_stp_e.1.mono (fun _ _ z => Or.inl z))) ac_stp_e.2.1 ac_stp_e.2.2) (by omega)
        · rw [if_neg z6] at er1
          refine sp_arm_set w1 hK hb hB ha (by omega) f5 ?_
          have wR : ac_RC (ab_wr (ab_wr τ1 (B + 2) (6 * arm + i) v) (B + 1) arm (i + 1)) n tp s := (w1.wrB hK hb hB (Or.inr rfl)).wrB hK hb hB (Or.inl rfl)
          have wS : ab_Same (ar_PA B arm) τ (ab_wr (ab_wr τ1 (B + 2) (6 * arm + i) v) (B + 1) arm (i + 1)) := (u1A.wr (Or.inr (Or.inr ⟨rfl, by omega, by omega⟩))).wr (Or.inr (Or.inl ⟨rfl, rfl⟩))
          refine sp_nextR wR (fun τ2 u2 w2 => ?_)
          have S2 : ab_Same (ar_PA B arm) τ τ2 := wS.trans (u2.mono (fun _ _ z => Or.inl (Or.inl z)))
          have p1 : ab_rd τ2 (B + 1) arm = i + 1 := by rw [u2.2.2 _ _ (by unfold ac_PK9; omega), ab_rdw_eq]
          have p2 : ∀ t, 0 ≤ t → t < i + 1 → ab_rd τ2 (B + 2) (6 * arm + t) = ar_up κ 15 (o + i) v 15 (o + t) := fun t t1 t2 => by
            rw [u2.2.2 _ _ (by unfold ac_PK9; omega), ab_rdw_ne (by omega)]
            by_cases z : t = i
            · rw [z, ab_rdw_eq, ar_up_e]
            · rw [ab_rdw_ne (by omega), ar_up_i (by omega), u1'.2.2 _ _ (by unfold ac_PR ac_PK9; omega)]
              exact hp t t1 (by omega)
          have k2 := w2.2.1.1
          have g2 := w2.geo
          by_cases y : ac_kk tp n (ac_nx tp n s) = 5
          · rw [if_pos y] at er1
            rw [y] at k2
            have key2 : ab_Do X 70 [ab_R 3] τ2 (fun r σ' => ab_Run X 48 69 (2, 0, 0) [ab_R 2, ab_R B, ab_I arm, ab_I i] (ab_psh r []) σ' Q) := by
              refine sp_nextR w2 (fun τ3 u3 w3 => ?_)
              have u3A : ab_Same (ar_PA B arm) τ2 τ3 := u3.mono (fun _ _ z => Or.inl (Or.inl z))
              have kq := ih (i + 1) _ _ τ3 (by omega) (by omega) w3 (fun j j1 j2 => by rw [u3.2.2 _ _ (by unfold ac_PK9; omega)]; exact p2 j j1 j2) er1 (fun w pl e υ q1 q2 q3 => hF w pl e υ ((S2.trans u3A).trans q1) q2 q3) (fun κ1 j s' e jb q0 υ q1 q2 q3 q4 => hO κ1 j s' e (by omega) (fun g k gk => by
                rw [q0 g k (by omega)]
                by_cases w : g = 15
                · subst w; rw [ar_up_i]; intro u; omega
                · rw [ar_up_f w]) υ ((S2.trans u3A).trans q1) q2 q3 q4)
              clear ih hF hO hR er er1 hp p2
              simp (disch := omega) only [rX7_readArm_69, rX7_readArm_72, ne_eq, not_false_eq_true, not_true_eq_false, true_and, and_true, and_self, true_imp_iff, false_imp_iff, imp_self, Bool.not_false, Bool.not_true, reduceCtorEq, ab_isJ, ab_psh, ab_cats, Bool.false_eq_true, if_true, if_false, ab_shf, ab_shw, Int.le_refl, Classical.not_not, Int.zero_add, forall_const, ↓ab_itT, ↓ab_itF, ab_anT, ab_w32_id, ab_rdf_ne, ab_rdw_ne, ab_rdw_eq, ab_rdf_in, ab_td2, ab_tm2, true_or, or_true]
              all_goals exact kq
            clear ih hF hO hR er er1 hp p2
            simp (disch := omega) only [rX7_readArm_49, rX7_readArm_50, rX7_readArm_53, rX7_readArm_56, rX7_readArm_57, rX7_readArm_62, rX7_readArm_63, rX7_readArm_66, gS_2, gP_2_0, gS_3, g2, k2, ne_eq, not_false_eq_true, not_true_eq_false, true_and, and_true, and_self, true_imp_iff, false_imp_iff, imp_self, Bool.not_false, Bool.not_true, reduceCtorEq, ab_isJ, ab_psh, ab_cats, Bool.false_eq_true, if_true, if_false, ab_shf, ab_shw, Int.le_refl, Classical.not_not, Int.zero_add, forall_const, ↓ab_itT, ↓ab_itF, ab_anT, ab_w32_id, ab_rdf_ne, ab_rdw_ne, ab_rdw_eq, ab_rdf_in, ab_td2, ab_tm2, true_or, or_true]
            all_goals exact key2
          · rw [if_neg y] at er1
            have kq := hO _ (i + 1) _ er1 (by omega) (fun g k gk => by
              by_cases w : g = 15
              · subst w; rw [ar_up_i (by omega)]
              · rw [ar_up_f w]) τ2 S2 w2 p1 p2
            have k2' : ¬ ab_rd τ2 3 2 = 5 := by rw [k2]; exact y
            clear ih hF hO hR er er1 hp p2 k2
            simp (disch := omega) only [rX7_readArm_49, rX7_readArm_50, rX7_readArm_53, rX7_readArm_56, rX7_readArm_57, rX7_readArm_60, rX7_readArm_61, gS_2, gP_2_0, gS_3, g2, ne_eq, not_false_eq_true, not_true_eq_false, true_and, and_true, and_self, true_imp_iff, false_imp_iff, imp_self, Bool.not_false, Bool.not_true, reduceCtorEq, ab_isJ, ab_psh, ab_cats, Bool.false_eq_true, if_true, if_false, ab_shf, ab_shw, Int.le_refl, Classical.not_not, Int.zero_add, forall_const, ↓ab_itT, ↓ab_itF, ab_anT, ab_w32_id, ab_rdf_ne, ab_rdw_ne, ab_rdw_eq, ab_rdf_in, ab_td2, ab_tm2, true_or, or_true]
            all_goals exact kq
    have g := hR.geo
    have hB0 : B ≠ 0 := by omega
    clear ih hF hO hR er hp
    rw [rX7_readArm_2]
    simp (disch := omega) only [rX7_readArm_3, rX7_readArm_5, rX7_readArm_8, rX7_readArm_9, rX7_readArm_10, rX7_readArm_12, gS_2, gP_2_0, gS_3, g, ne_eq, not_false_eq_true, not_true_eq_false, true_and, and_true, and_self, true_imp_iff, false_imp_iff, imp_self, Bool.not_false, Bool.not_true, reduceCtorEq, ab_isJ, ab_psh, ab_cats, Bool.false_eq_true, if_true, if_false, ab_shf, ab_shw, Int.le_refl, Classical.not_not, Int.zero_add, forall_const, ↓ab_itT, ↓ab_itF, ab_anT, ab_w32_id, ab_rdf_ne, ab_rdw_ne, ab_rdw_eq, ab_rdf_in, ab_td2, ab_tm2, true_or, or_true]
    all_goals exact key
theorem sp_armE (hK : ac_kit K) (hb : 0 ≤ b ∧ b < 5) (hB : B = K + 5 + 3 * b) (ha : arm = 0 ∨ arm = 1) {c : ac_K → Int → Int → ar_R} (hR : ac_RC τ n tp s) (er : pr_arm tp n o 7 κ 0 s c = r) (hF : ∀ w pl, r = .inl (w, pl) → ∀ υ, ab_Same (ar_PA B arm) τ υ → ab_rd υ 2 2 = w → ab_rd υ 2 3 = pl → Q (some (ab_I 0)) υ) (hO : ∀ κ1 j s', c κ1 j s' = r → (1 ≤ j ∧ j ≤ 6) → (∀ g k, (g ≠ 15 ∨ k < o ∨ o + j ≤ k) → κ1 g k = κ g k) → ∀ υ, ab_Same (ar_PA B arm) τ υ → ac_RC υ n tp s' → ab_rd υ (B + 1) arm = j → (∀ t, 0 ≤ t → t < j → ab_rd υ (B + 2) (6 * arm + t) = κ1 15 (o + t)) → Q (some (ab_I 1)) υ) : ab_Do X 48 [ab_R 2, ab_R B, ab_I arm] τ Q := by
  have kq := sp_arm_l (X := X) (Q := Q) hK hb hB ha c 7 0 s κ τ (by omega) (by omega) hR (fun j j1 j2 => by omega) er hF (fun κ1 j s' e jb q0 => hO κ1 j s' e (by omega) (fun g k gk => q0 g k (by omega)))
  clear hF hO hR er
  simp (disch := omega) only [do_X7_readArm, rX7_readArm_0, rX7_readArm_1, ne_eq, not_false_eq_true, not_true_eq_false, true_and, and_true, and_self, true_imp_iff, false_imp_iff, imp_self, Bool.not_false, Bool.not_true, reduceCtorEq, ab_isJ, ab_psh, ab_cats, Bool.false_eq_true, if_true, if_false, ab_shf, ab_shw, Int.le_refl, Classical.not_not, Int.zero_add, forall_const, ↓ab_itT, ↓ab_itF, ab_anT, ab_w32_id, ab_rdf_ne, ab_rdw_ne, ab_rdw_eq, ab_rdf_in, ab_td2, ab_tm2, true_or, or_true]
  all_goals exact kq
end
