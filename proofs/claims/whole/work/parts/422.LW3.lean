/-! THE LAW: questions (written by gen/glaw2.py) -/
theorem ar_i4 {p : Prop} {_ : Decidable p} {x y : Int} (hx : x ≠ 4) (hy : y ≠ 4) : (if p then x else y) ≠ 4 := by
  by_cases h : p
  · rw [if_pos h]; exact hx
  · rw [if_neg h]; exact hy
section
variable {X : ab_X} {σ τ υ : ab_S} {Q : Option ab_V → ab_S → Prop} {i K na nm ln : Int} {κ : ac_K} {v tp : Int → Int} {pa pm : Int → Int → Int} {cl sl : Nat} {l5 l6 : ab_V}
theorem lw_4 (h : ax_J σ K κ v na pa nm pm ln tp) (hi : 0 ≤ i ∧ i + 9 ≤ X.1 ∧ X.1 ≤ 4608) (kq : ∀ υ, ax_E υ → ab_Run X 288 2374 (100, cl, sl) [ab_R (-1), ab_R 1, ab_R 355, ab_R 368, ab_I i, l5, l6] [] υ Q) : ab_Run X 288 356 (100, cl, sl) [ab_R (-1), ab_R 1, ab_R 355, ab_R 368, ab_I i, l5, l6] [] σ Q := by
  refine lws_4 h.geo hi (cq_bone h.1.1.1 h.1.1.2.1 (fun τ u1 e1 => ?_))
  have hH := h.c u1
  refine lwm_4 hH.geo hi (mq_bone hH.2.1.1 hH.2.1.2.1 (fun υ u2 f1 f2 => ?_))
  exact lwe_4 (kq υ ⟨_, _, _, _, _, _, _, _, _, hH.q e1 (by unfold ac_bnT; (repeat' (apply ar_i4)) <;> decide) u2 f1 f2⟩)
theorem lw_5 (h : ax_J σ K κ v na pa nm pm ln tp) (hi : 0 ≤ i ∧ i + 9 ≤ X.1 ∧ X.1 ≤ 4608) (kq : ∀ υ, ax_E υ → ab_Run X 288 2374 (100, cl, sl) [ab_R (-1), ab_R 1, ab_R 355, ab_R 368, ab_I i, l5, l6] [] υ Q) : ab_Run X 288 393 (100, cl, sl) [ab_R (-1), ab_R 1, ab_R 355, ab_R 368, ab_I i, l5, l6] [] σ Q := by
  refine lws_5 h.geo hi (cq_thick h.1.1.1 (fun τ u1 e1 => ?_))
  have hH := h.c u1
  refine lwm_5 hH.geo hi (mq_thick hH.2.1.1 (fun υ u2 f1 f2 => ?_))
  exact lwe_5 (kq υ ⟨_, _, _, _, _, _, _, _, _, hH.q e1 (by unfold ac_thT; (repeat' (apply ar_i4)) <;> decide) u2 f1 f2⟩)
theorem lw_6 (h : ax_J σ K κ v na pa nm pm ln tp) (hi : 0 ≤ i ∧ i + 9 ≤ X.1 ∧ X.1 ≤ 4608) (kq : ∀ υ, ax_E υ → ab_Run X 288 2374 (100, cl, sl) [ab_R (-1), ab_R 1, ab_R 355, ab_R 368, ab_I i, l5, l6] [] υ Q) : ab_Run X 288 442 (100, cl, sl) [ab_R (-1), ab_R 1, ab_R 355, ab_R 368, ab_I i, l5, l6] [] σ Q := by
  refine lws_6 h.geo hi (cq_person h.1.1.1 h.1.1.2.1 (fun τ u1 e1 => ?_))
  have hH := h.c u1
  refine lwm_6 hH.geo hi (mq_person hH.2.1.1 hH.2.1.2.1 (fun υ u2 f1 f2 => ?_))
  exact lwe_6 (kq υ ⟨_, _, _, _, _, _, _, _, _, hH.q e1 (by unfold ac_peT; (repeat' (apply ar_i4)) <;> decide) u2 f1 f2⟩)
theorem lw_7 (h : ax_J σ K κ v na pa nm pm ln tp) (hi : 0 ≤ i ∧ i + 9 ≤ X.1 ∧ X.1 ≤ 4608) (kq : ∀ υ, ax_E υ → ab_Run X 288 2374 (100, cl, sl) [ab_R (-1), ab_R 1, ab_R 355, ab_R 368, ab_I i, l5, l6] [] υ Q) : ab_Run X 288 479 (100, cl, sl) [ab_R (-1), ab_R 1, ab_R 355, ab_R 368, ab_I i, l5, l6] [] σ Q := by
  refine lws_7 h.geo hi (cq_strength h.1.1.1 h.1.1.2.1 h.1.1.2.2.1 (fun τ u1 e1 => ?_))
  have hH := h.c u1
  refine lwm_7 hH.geo hi (mq_strength hH.2.1.1 hH.2.1.2.1 (fun υ u2 f1 f2 => ?_))
  exact lwe_7 (kq υ ⟨_, _, _, _, _, _, _, _, _, hH.q e1 (by unfold ac_sT; (repeat' (apply ar_i4)) <;> decide) u2 f1 f2⟩)
theorem lw_8 (h : ax_J σ K κ v na pa nm pm ln tp) (hi : 0 ≤ i ∧ i + 9 ≤ X.1 ∧ X.1 ≤ 4608) (kq : ∀ υ, ax_E υ → ab_Run X 288 2374 (100, cl, sl) [ab_R (-1), ab_R 1, ab_R 355, ab_R 368, ab_I i, l5, l6] [] υ Q) : ab_Run X 288 540 (100, cl, sl) [ab_R (-1), ab_R 1, ab_R 355, ab_R 368, ab_I i, l5, l6] [] σ Q := by
  refine lws_8 h.geo hi (cq_strain h.1.1.1 h.1.1.2.1 h.1.1.2.2.1 (fun τ u1 e1 => ?_))
  have hH := h.c u1
  refine lwm_8 hH.geo hi (mq_strain hH.2.1.1 hH.2.1.2.1 (fun υ u2 f1 f2 => ?_))
  exact lwe_8 (kq υ ⟨_, _, _, _, _, _, _, _, _, hH.q e1 (by unfold ac_lT ac_wT; (repeat' (apply ar_i4)) <;> decide) u2 f1 f2⟩)
theorem lw_9 (h : ax_J σ K κ v na pa nm pm ln tp) (hi : 0 ≤ i ∧ i + 9 ≤ X.1 ∧ X.1 ≤ 4608) (kq : ∀ υ, ax_E υ → ab_Run X 288 2374 (100, cl, sl) [ab_R (-1), ab_R 1, ab_R 355, ab_R 368, ab_I i, l5, l6] [] υ Q) : ab_Run X 288 655 (100, cl, sl) [ab_R (-1), ab_R 1, ab_R 355, ab_R 368, ab_I i, l5, l6] [] σ Q := by
  refine lws_9 h.geo hi (cq_pulled h.1.1.1 h.1.1.2.1 h.1.1.2.2.1 (fun τ u1 e1 => ?_))
  have hH := h.c u1
  refine lwm_9 hH.geo hi (mq_pulled hH.2.1.1 hH.2.1.2.1 (fun υ u2 f1 f2 => ?_))
  exact lwe_9 (kq υ ⟨_, _, _, _, _, _, _, _, _, hH.q e1 (by unfold ac_wT; (repeat' (apply ar_i4)) <;> decide) u2 f1 f2⟩)
theorem lw_10 (h : ax_J σ K κ v na pa nm pm ln tp) (hi : 0 ≤ i ∧ i + 9 ≤ X.1 ∧ X.1 ≤ 4608) (kq : ∀ υ, ax_E υ → ab_Run X 288 2374 (100, cl, sl) [ab_R (-1), ab_R 1, ab_R 355, ab_R 368, ab_I i, l5, l6] [] υ Q) : ab_Run X 288 742 (100, cl, sl) [ab_R (-1), ab_R 1, ab_R 355, ab_R 368, ab_I i, l5, l6] [] σ Q := by
  refine lws_10 h.geo hi (cq_breaksAt h.1.1.1 h.1.1.2.1 h.1.1.2.2.1 (fun τ u1 e1 => ?_))
  have hH := h.c u1
  refine lwm_10 hH.geo hi (mq_breaksAt hH.2.1.1 hH.2.1.2.1 (fun υ u2 f1 f2 => ?_))
  exact lwe_10 (kq υ ⟨_, _, _, _, _, _, _, _, _, hH.q e1 (by unfold ac_wT; (repeat' (apply ar_i4)) <;> decide) u2 f1 f2⟩)
theorem lw_11 (h : ax_J σ K κ v na pa nm pm ln tp) (hi : 0 ≤ i ∧ i + 9 ≤ X.1 ∧ X.1 ≤ 4608) (kq : ∀ υ, ax_E υ → ab_Run X 288 2374 (100, cl, sl) [ab_R (-1), ab_R 1, ab_R 355, ab_R 368, ab_I i, l5, l6] [] υ Q) : ab_Run X 288 829 (100, cl, sl) [ab_R (-1), ab_R 1, ab_R 355, ab_R 368, ab_I i, l5, l6] [] σ Q := by
  refine lws_11 h.geo hi (cq_flawed h.1.1.1 h.1.1.2.1 h.1.1.2.2.1 (fun τ u1 e1 => ?_))
  have hH := h.c u1
  refine lwm_11 hH.geo hi (mq_flawed hH.2.1.1 hH.2.1.2.1 (fun υ u2 f1 f2 => ?_))
  exact lwe_11 (kq υ ⟨_, _, _, _, _, _, _, _, _, hH.q e1 (by unfold ac_lT ac_wT; (repeat' (apply ar_i4)) <;> decide) u2 f1 f2⟩)
theorem lw_12 (h : ax_J σ K κ v na pa nm pm ln tp) (hi : 0 ≤ i ∧ i + 9 ≤ X.1 ∧ X.1 ≤ 4608) (kq : ∀ υ, ax_E υ → ab_Run X 288 2374 (100, cl, sl) [ab_R (-1), ab_R 1, ab_R 355, ab_R 368, ab_I i, l5, l6] [] υ Q) : ab_Run X 288 944 (100, cl, sl) [ab_R (-1), ab_R 1, ab_R 355, ab_R 368, ab_I i, l5, l6] [] σ Q := by
  by_cases hz : X.2 (i + 8) = 0
  · refine lws_12_0 h.geo hi hz (cq_odds h.1.1.1 h.1.1.2.1 h.1.1.2.2.1 (Or.inl rfl) (fun τ u1 e1 => ?_))
    have hH := h.c u1
    refine lwm_12_0 hH.geo hi hz (mq_odds hH.2.1.1 hH.2.1.2.1 (Or.inl rfl) (fun υ u2 f1 f2 => ?_))
    exact lwe_12 (kq υ ⟨_, _, _, _, _, _, _, _, _, hH.q e1 (by unfold ac_oT ac_wT; (repeat' (apply ar_i4)) <;> decide) u2 f1 f2⟩)
  · refine lws_12_1 h.geo hi hz (cq_odds h.1.1.1 h.1.1.2.1 h.1.1.2.2.1 (Or.inr rfl) (fun τ u1 e1 => ?_))
    have hH := h.c u1
    refine lwm_12_1 hH.geo hi hz (mq_odds hH.2.1.1 hH.2.1.2.1 (Or.inr rfl) (fun υ u2 f1 f2 => ?_))
    exact lwe_12 (kq υ ⟨_, _, _, _, _, _, _, _, _, hH.q e1 (by unfold ac_oT ac_wT; (repeat' (apply ar_i4)) <;> decide) u2 f1 f2⟩)
theorem lw_13 (h : ax_J σ K κ v na pa nm pm ln tp) (hi : 0 ≤ i ∧ i + 9 ≤ X.1 ∧ X.1 ≤ 4608) (kq : ∀ υ, ax_E υ → ab_Run X 288 2374 (100, cl, sl) [ab_R (-1), ab_R 1, ab_R 355, ab_R 368, ab_I i, l5, l6] [] υ Q) : ab_Run X 288 1076 (100, cl, sl) [ab_R (-1), ab_R 1, ab_R 355, ab_R 368, ab_I i, l5, l6] [] σ Q := by
  refine lws_13 h.geo hi (cq_best h.1.1.1 h.1.1.2.1 h.1.1.2.2.1 (fun τ u1 e1 => ?_))
  have hH := h.c u1
  refine lwm_13 hH.geo hi (mq_best hH.2.1.1 hH.2.1.2.1 (fun υ u2 f1 f2 => ?_))
  exact lwe_13 (kq υ ⟨_, _, _, _, _, _, _, _, _, hH.q e1 (by unfold ac_beT ac_pT; (repeat' (apply ar_i4)) <;> decide) u2 f1 f2⟩)
theorem lw_14 (h : ax_J σ K κ v na pa nm pm ln tp) (hi : 0 ≤ i ∧ i + 9 ≤ X.1 ∧ X.1 ≤ 4608) (kq : ∀ υ, ax_E υ → ab_Run X 288 2374 (100, cl, sl) [ab_R (-1), ab_R 1, ab_R 355, ab_R 368, ab_I i, l5, l6] [] υ Q) : ab_Run X 288 1137 (100, cl, sl) [ab_R (-1), ab_R 1, ab_R 355, ab_R 368, ab_I i, l5, l6] [] σ Q := by
  refine lws_14 h.geo hi (cq_rests h.1.1.1 h.1.1.2.1 h.1.1.2.2.1 (fun τ u1 e1 => ?_))
  have hH := h.c u1
  refine lwm_14 hH.geo hi (mq_rests hH.2.1.1 hH.2.1.2.1 (fun υ u2 f1 f2 => ?_))
  exact lwe_14 (kq υ ⟨_, _, _, _, _, _, _, _, _, hH.q e1 (by unfold ac_pT; (repeat' (apply ar_i4)) <;> decide) u2 f1 f2⟩)
theorem lw_15 (h : ax_J σ K κ v na pa nm pm ln tp) (hi : 0 ≤ i ∧ i + 9 ≤ X.1 ∧ X.1 ≤ 4608) (kq : ∀ υ, ax_E υ → ab_Run X 288 2374 (100, cl, sl) [ab_R (-1), ab_R 1, ab_R 355, ab_R 368, ab_I i, l5, l6] [] υ Q) : ab_Run X 288 1186 (100, cl, sl) [ab_R (-1), ab_R 1, ab_R 355, ab_R 368, ab_I i, l5, l6] [] σ Q := by
  refine lws_15 h.geo hi (cq_rest h.1.1.1 h.1.1.2.1 h.1.1.2.2.1 (fun τ u1 e1 => ?_))
  have hH := h.c u1
  refine lwm_15 hH.geo hi (mq_rest hH.2.1.1 hH.2.1.2.1 (fun υ u2 f1 f2 => ?_))
  exact lwe_15 (kq υ ⟨_, _, _, _, _, _, _, _, _, hH.q e1 (by unfold ac_pT; (repeat' (apply ar_i4)) <;> decide) u2 f1 f2⟩)
theorem lw_16 (h : ax_J σ K κ v na pa nm pm ln tp) (hi : 0 ≤ i ∧ i + 9 ≤ X.1 ∧ X.1 ≤ 4608) (kq : ∀ υ, ax_E υ → ab_Run X 288 2374 (100, cl, sl) [ab_R (-1), ab_R 1, ab_R 355, ab_R 368, ab_I i, l5, l6] [] υ Q) : ab_Run X 288 1235 (100, cl, sl) [ab_R (-1), ab_R 1, ab_R 355, ab_R 368, ab_I i, l5, l6] [] σ Q := by
  by_cases hz : X.2 (i + 4) = 0
  · refine lws_16_0 h.geo hi hz (cq_sure h.1.1.1 h.1.1.2.1 h.1.1.2.2.1 (Or.inl rfl) (fun τ u1 e1 => ?_))
    have hH := h.c u1
    refine lwm_16_0 hH.geo hi hz (mq_sure hH.2.1.1 hH.2.1.2.1 (Or.inl rfl) (fun υ u2 f1 f2 => ?_))
    exact lwe_16 (kq υ ⟨_, _, _, _, _, _, _, _, _, hH.q e1 (by unfold ac_pT; (repeat' (apply ar_i4)) <;> decide) u2 f1 f2⟩)
  · refine lws_16_1 h.geo hi hz (cq_sure h.1.1.1 h.1.1.2.1 h.1.1.2.2.1 (Or.inr rfl) (fun τ u1 e1 => ?_))
    have hH := h.c u1
    refine lwm_16_1 hH.geo hi hz (mq_sure hH.2.1.1 hH.2.1.2.1 (Or.inr rfl) (fun υ u2 f1 f2 => ?_))
    exact lwe_16 (kq υ ⟨_, _, _, _, _, _, _, _, _, hH.q e1 (by unfold ac_pT; (repeat' (apply ar_i4)) <;> decide) u2 f1 f2⟩)
theorem lw_17 (h : ax_J σ K κ v na pa nm pm ln tp) (hi : 0 ≤ i ∧ i + 9 ≤ X.1 ∧ X.1 ≤ 4608) (kq : ∀ υ, ax_E υ → ab_Run X 288 2374 (100, cl, sl) [ab_R (-1), ab_R 1, ab_R 355, ab_R 368, ab_I i, l5, l6] [] υ Q) : ab_Run X 288 1313 (100, cl, sl) [ab_R (-1), ab_R 1, ab_R 355, ab_R 368, ab_I i, l5, l6] [] σ Q := by
  by_cases hz : X.2 (i + 5) = 0
  · refine lws_17_0 h.geo hi hz (cq_curve h.1.1.1 h.1.1.2.1 h.1.1.2.2.1 (Or.inl rfl) (fun τ u1 e1 => ?_))
    have hH := h.c u1
    refine lwm_17_0 hH.geo hi hz (mq_curve hH.2.1.1 hH.2.1.2.1 (Or.inl rfl) (fun υ u2 f1 f2 => ?_))
    exact lwe_17 (kq υ ⟨_, _, _, _, _, _, _, _, _, hH.q e1 (by unfold ac_cT ac_pT; (repeat' (apply ar_i4)) <;> decide) u2 f1 f2⟩)
  · refine lws_17_1 h.geo hi hz (cq_curve h.1.1.1 h.1.1.2.1 h.1.1.2.2.1 (Or.inr rfl) (fun τ u1 e1 => ?_))
    have hH := h.c u1
    refine lwm_17_1 hH.geo hi hz (mq_curve hH.2.1.1 hH.2.1.2.1 (Or.inr rfl) (fun υ u2 f1 f2 => ?_))
    exact lwe_17 (kq υ ⟨_, _, _, _, _, _, _, _, _, hH.q e1 (by unfold ac_cT ac_pT; (repeat' (apply ar_i4)) <;> decide) u2 f1 f2⟩)
theorem lw_18 (h : ax_J σ K κ v na pa nm pm ln tp) (hi : 0 ≤ i ∧ i + 9 ≤ X.1 ∧ X.1 ≤ 4608) (kq : ∀ υ, ax_E υ → ab_Run X 288 2374 (100, cl, sl) [ab_R (-1), ab_R 1, ab_R 355, ab_R 368, ab_I i, l5, l6] [] υ Q) : ab_Run X 288 1403 (100, cl, sl) [ab_R (-1), ab_R 1, ab_R 355, ab_R 368, ab_I i, l5, l6] [] σ Q := by
  refine lws_18 h.geo hi (cq_bestDay h.1.1.1 h.1.1.2.1 h.1.1.2.2.1 (fun τ u1 e1 => ?_))
  have hH := h.c u1
  refine lwm_18 hH.geo hi (mq_bestDay hH.2.1.1 hH.2.1.2.1 (fun υ u2 f1 f2 => ?_))
  exact lwe_18 (kq υ ⟨_, _, _, _, _, _, _, _, _, hH.q e1 (by unfold ac_pT; (repeat' (apply ar_i4)) <;> decide) u2 f1 f2⟩)
theorem lw_19 (h : ax_J σ K κ v na pa nm pm ln tp) (hi : 0 ≤ i ∧ i + 9 ≤ X.1 ∧ X.1 ≤ 4608) (kq : ∀ υ, ax_E υ → ab_Run X 288 2374 (100, cl, sl) [ab_R (-1), ab_R 1, ab_R 355, ab_R 368, ab_I i, l5, l6] [] υ Q) : ab_Run X 288 1452 (100, cl, sl) [ab_R (-1), ab_R 1, ab_R 355, ab_R 368, ab_I i, l5, l6] [] σ Q := by
  by_cases hz : X.2 (i + 5) = 0
  · refine lws_19_0 h.geo hi hz (cq_lawOdds h.1.1.1 h.1.1.2.1 h.1.1.2.2.1 (Or.inl rfl) (fun τ u1 e1 => ?_))
    have hH := h.c u1
    refine lwm_19_0 hH.geo hi hz (mq_lawOdds hH.2.1.1 hH.2.1.2.1 (Or.inl rfl) (fun υ u2 f1 f2 => ?_))
    exact lwe_19 (kq υ ⟨_, _, _, _, _, _, _, _, _, hH.q e1 (by unfold ac_fT ac_pT; (repeat' (apply ar_i4)) <;> decide) u2 f1 f2⟩)
  · refine lws_19_1 h.geo hi hz (cq_lawOdds h.1.1.1 h.1.1.2.1 h.1.1.2.2.1 (Or.inr rfl) (fun τ u1 e1 => ?_))
    have hH := h.c u1
    refine lwm_19_1 hH.geo hi hz (mq_lawOdds hH.2.1.1 hH.2.1.2.1 (Or.inr rfl) (fun υ u2 f1 f2 => ?_))
    exact lwe_19 (kq υ ⟨_, _, _, _, _, _, _, _, _, hH.q e1 (by unfold ac_fT ac_pT; (repeat' (apply ar_i4)) <;> decide) u2 f1 f2⟩)
theorem lw_20 (h : ax_J σ K κ v na pa nm pm ln tp) (hi : 0 ≤ i ∧ i + 9 ≤ X.1 ∧ X.1 ≤ 4608) (kq : ∀ υ, ax_E υ → ab_Run X 288 2374 (100, cl, sl) [ab_R (-1), ab_R 1, ab_R 355, ab_R 368, ab_I i, l5, l6] [] υ Q) : ab_Run X 288 1542 (100, cl, sl) [ab_R (-1), ab_R 1, ab_R 355, ab_R 368, ab_I i, l5, l6] [] σ Q := by
  refine lws_20 h.geo hi (cq_fairest h.1.1.1 h.1.1.2.1 h.1.1.2.2.1 (fun τ u1 e1 => ?_))
  have hH := h.c u1
  refine lwm_20 hH.geo hi (mq_fairest hH.2.1.1 hH.2.1.2.1 (fun υ u2 f1 f2 => ?_))
  exact lwe_20 (kq υ ⟨_, _, _, _, _, _, _, _, _, hH.q e1 (by unfold ac_pT; (repeat' (apply ar_i4)) <;> decide) u2 f1 f2⟩)
theorem lw_21 (h : ax_J σ K κ v na pa nm pm ln tp) (hi : 0 ≤ i ∧ i + 9 ≤ X.1 ∧ X.1 ≤ 4608) (kq : ∀ υ, ax_E υ → ab_Run X 288 2374 (100, cl, sl) [ab_R (-1), ab_R 1, ab_R 355, ab_R 368, ab_I i, l5, l6] [] υ Q) : ab_Run X 288 1591 (100, cl, sl) [ab_R (-1), ab_R 1, ab_R 355, ab_R 368, ab_I i, l5, l6] [] σ Q := by
  refine lws_21 h.geo hi (cq_turnsOf h.1.1.1 (fun τ u1 e1 => ?_))
  have hH := h.c u1
  refine lwm_21 hH.geo hi (mq_turnsOf hH.2.1.1 (fun υ u2 f1 f2 => ?_))
  exact lwe_21 (kq υ ⟨_, _, _, _, _, _, _, _, _, hH.q e1 (by unfold ac_tuT; (repeat' (apply ar_i4)) <;> decide) u2 f1 f2⟩)
theorem lw_22 (h : ax_J σ K κ v na pa nm pm ln tp) (hi : 0 ≤ i ∧ i + 9 ≤ X.1 ∧ X.1 ≤ 4608) (kq : ∀ υ, ax_E υ → ab_Run X 288 2374 (100, cl, sl) [ab_R (-1), ab_R 1, ab_R 355, ab_R 368, ab_I i, l5, l6] [] υ Q) : ab_Run X 288 1616 (100, cl, sl) [ab_R (-1), ab_R 1, ab_R 355, ab_R 368, ab_I i, l5, l6] [] σ Q := by
  refine lws_22 h.geo hi (cq_turnAt h.1.1.1 (fun τ u1 e1 => ?_))
  have hH := h.c u1
  refine lwm_22 hH.geo hi (mq_turnAt hH.2.1.1 (fun υ u2 f1 f2 => ?_))
  exact lwe_22 (kq υ ⟨_, _, _, _, _, _, _, _, _, hH.q e1 (by unfold ac_taT ac_tuT; (repeat' (apply ar_i4)) <;> decide) u2 f1 f2⟩)
theorem lw_23 (h : ax_J σ K κ v na pa nm pm ln tp) (hi : 0 ≤ i ∧ i + 9 ≤ X.1 ∧ X.1 ≤ 4608) (kq : ∀ υ, ax_E υ → ab_Run X 288 2374 (100, cl, sl) [ab_R (-1), ab_R 1, ab_R 355, ab_R 368, ab_I i, l5, l6] [] υ Q) : ab_Run X 288 1653 (100, cl, sl) [ab_R (-1), ab_R 1, ab_R 355, ab_R 368, ab_I i, l5, l6] [] σ Q := by
  by_cases hz : X.2 (i + 2) = 0
  · refine lws_23_0 h.geo hi hz (cq_hand h.1.1.1 (Or.inl rfl) (fun τ u1 e1 => ?_))
    have hH := h.c u1
    refine lwm_23_0 hH.geo hi hz (mq_hand hH.2.1.1 (Or.inl rfl) (fun υ u2 f1 f2 => ?_))
    exact lwe_23 (kq υ ⟨_, _, _, _, _, _, _, _, _, hH.q e1 (by unfold ac_p1T; (repeat' (apply ar_i4)) <;> decide) u2 f1 f2⟩)
  · refine lws_23_1 h.geo hi hz (cq_hand h.1.1.1 (Or.inr rfl) (fun τ u1 e1 => ?_))
    have hH := h.c u1
    refine lwm_23_1 hH.geo hi hz (mq_hand hH.2.1.1 (Or.inr rfl) (fun υ u2 f1 f2 => ?_))
    exact lwe_23 (kq υ ⟨_, _, _, _, _, _, _, _, _, hH.q e1 (by unfold ac_p1T; (repeat' (apply ar_i4)) <;> decide) u2 f1 f2⟩)
theorem lw_24 (h : ax_J σ K κ v na pa nm pm ln tp) (hi : 0 ≤ i ∧ i + 9 ≤ X.1 ∧ X.1 ≤ 4608) (kq : ∀ υ, ax_E υ → ab_Run X 288 2374 (100, cl, sl) [ab_R (-1), ab_R 1, ab_R 355, ab_R 368, ab_I i, l5, l6] [] υ Q) : ab_Run X 288 1707 (100, cl, sl) [ab_R (-1), ab_R 1, ab_R 355, ab_R 368, ab_I i, l5, l6] [] σ Q := by
  by_cases hz : X.2 (i + 1) = 0
  · refine lws_24_0 h.geo hi hz (cq_side h.1.1.1 (Or.inl rfl) (fun τ u1 e1 => ?_))
    have hH := h.c u1
    refine lwm_24_0 hH.geo hi hz (mq_side hH.2.1.1 (Or.inl rfl) (fun υ u2 f1 f2 => ?_))
    exact lwe_24 (kq υ ⟨_, _, _, _, _, _, _, _, _, hH.q e1 (by unfold ac_kT; (repeat' (apply ar_i4)) <;> decide) u2 f1 f2⟩)
  · refine lws_24_1 h.geo hi hz (cq_side h.1.1.1 (Or.inr rfl) (fun τ u1 e1 => ?_))
    have hH := h.c u1
    refine lwm_24_1 hH.geo hi hz (mq_side hH.2.1.1 (Or.inr rfl) (fun υ u2 f1 f2 => ?_))
    exact lwe_24 (kq υ ⟨_, _, _, _, _, _, _, _, _, hH.q e1 (by unfold ac_kT; (repeat' (apply ar_i4)) <;> decide) u2 f1 f2⟩)
theorem lw_25 (h : ax_J σ K κ v na pa nm pm ln tp) (hi : 0 ≤ i ∧ i + 9 ≤ X.1 ∧ X.1 ≤ 4608) (kq : ∀ υ, ax_E υ → ab_Run X 288 2374 (100, cl, sl) [ab_R (-1), ab_R 1, ab_R 355, ab_R 368, ab_I i, l5, l6] [] υ Q) : ab_Run X 288 1749 (100, cl, sl) [ab_R (-1), ab_R 1, ab_R 355, ab_R 368, ab_I i, l5, l6] [] σ Q := by
  refine lws_25 h.geo hi (cq_known h.1.1.1 (fun τ u1 e1 => ?_))
  have hH := h.c u1
  refine lwm_25 hH.geo hi (mq_known hH.2.1.1 (fun υ u2 f1 f2 => ?_))
  exact lwe_25 (kq υ ⟨_, _, _, _, _, _, _, _, _, hH.q e1 (by unfold ac_kT; (repeat' (apply ar_i4)) <;> decide) u2 f1 f2⟩)
theorem lw_26 (h : ax_J σ K κ v na pa nm pm ln tp) (hi : 0 ≤ i ∧ i + 9 ≤ X.1 ∧ X.1 ≤ 4608) (kq : ∀ υ, ax_E υ → ab_Run X 288 2374 (100, cl, sl) [ab_R (-1), ab_R 1, ab_R 355, ab_R 368, ab_I i, l5, l6] [] υ Q) : ab_Run X 288 1762 (100, cl, sl) [ab_R (-1), ab_R 1, ab_R 355, ab_R 368, ab_I i, l5, l6] [] σ Q := by
  refine lws_26 h.geo hi (cq_hens h.1.1.1 (fun τ u1 e1 => ?_))
  have hH := h.c u1
  refine lwm_26 hH.geo hi (mq_hens hH.2.1.1 (fun υ u2 f1 f2 => ?_))
  exact lwe_26 (kq υ ⟨_, _, _, _, _, _, _, _, _, hH.q e1 (by unfold ac_hnT; (repeat' (apply ar_i4)) <;> decide) u2 f1 f2⟩)
theorem lw_27 (h : ax_J σ K κ v na pa nm pm ln tp) (hi : 0 ≤ i ∧ i + 9 ≤ X.1 ∧ X.1 ≤ 4608) (kq : ∀ υ, ax_E υ → ab_Run X 288 2374 (100, cl, sl) [ab_R (-1), ab_R 1, ab_R 355, ab_R 368, ab_I i, l5, l6] [] υ Q) : ab_Run X 288 1787 (100, cl, sl) [ab_R (-1), ab_R 1, ab_R 355, ab_R 368, ab_I i, l5, l6] [] σ Q := by
  by_cases hz : X.2 (i + 2) = 0
  · refine lws_27_0 h.geo hi hz (cq_thumbs h.1.1.1 (h.1.k0 6) h.1.2.2.2.2.2.2.2.2.2 (Or.inl rfl) (fun τ u1 e1 => ?_))
    have hH := h.c u1
    refine lwm_27_0 hH.geo hi hz (mq_thumbs hH.2.1.1 hH.2.2.2.2.2.2.2.2.2 (Or.inl rfl) (fun υ u2 f1 f2 => ?_))
    exact lwe_27 (kq υ ⟨_, _, _, _, _, _, _, _, _, hH.q e1 (by unfold ac_tbT; (repeat' (apply ar_i4)) <;> decide) u2 f1 f2⟩)
  · refine lws_27_1 h.geo hi hz (cq_thumbs h.1.1.1 (h.1.k0 6) h.1.2.2.2.2.2.2.2.2.2 (Or.inr rfl) (fun τ u1 e1 => ?_))
    have hH := h.c u1
    refine lwm_27_1 hH.geo hi hz (mq_thumbs hH.2.1.1 hH.2.2.2.2.2.2.2.2.2 (Or.inr rfl) (fun υ u2 f1 f2 => ?_))
    exact lwe_27 (kq υ ⟨_, _, _, _, _, _, _, _, _, hH.q e1 (by unfold ac_tbT; (repeat' (apply ar_i4)) <;> decide) u2 f1 f2⟩)
theorem lw_28 (h : ax_J σ K κ v na pa nm pm ln tp) (hi : 0 ≤ i ∧ i + 9 ≤ X.1 ∧ X.1 ≤ 4608) (kq : ∀ υ, ax_E υ → ab_Run X 288 2374 (100, cl, sl) [ab_R (-1), ab_R 1, ab_R 355, ab_R 368, ab_I i, l5, l6] [] υ Q) : ab_Run X 288 1841 (100, cl, sl) [ab_R (-1), ab_R 1, ab_R 355, ab_R 368, ab_I i, l5, l6] [] σ Q := by
  refine lws_28 h.geo hi (cq_let h.1.1.1 (fun τ u1 e1 => ?_))
  have hH := h.c u1
  refine lwm_28 hH.geo hi (mq_let hH.2.1.1 (fun υ u2 f1 f2 => ?_))
  exact lwe_28 (kq υ ⟨_, _, _, _, _, _, _, _, _, hH.q e1 (by unfold ac_u1T; (repeat' (apply ar_i4)) <;> decide) u2 f1 f2⟩)
theorem lw_29 (h : ax_J σ K κ v na pa nm pm ln tp) (hi : 0 ≤ i ∧ i + 9 ≤ X.1 ∧ X.1 ≤ 4608) (kq : ∀ υ, ax_E υ → ab_Run X 288 2374 (100, cl, sl) [ab_R (-1), ab_R 1, ab_R 355, ab_R 368, ab_I i, l5, l6] [] υ Q) : ab_Run X 288 1878 (100, cl, sl) [ab_R (-1), ab_R 1, ab_R 355, ab_R 368, ab_I i, l5, l6] [] σ Q := by
  refine lws_29 h.geo hi (cq_worth h.1.1.1 (fun τ u1 e1 => ?_))
  have hH := h.c u1
  refine lwm_29 hH.geo hi (mq_worth hH.2.1.1 (fun υ u2 f1 f2 => ?_))
  exact lwe_29 (kq υ ⟨_, _, _, _, _, _, _, _, _, hH.q e1 (by unfold ac_p1T; (repeat' (apply ar_i4)) <;> decide) u2 f1 f2⟩)
theorem lw_30 (h : ax_J σ K κ v na pa nm pm ln tp) (hi : 0 ≤ i ∧ i + 9 ≤ X.1 ∧ X.1 ≤ 4608) (kq : ∀ υ, ax_E υ → ab_Run X 288 2374 (100, cl, sl) [ab_R (-1), ab_R 1, ab_R 355, ab_R 368, ab_I i, l5, l6] [] υ Q) : ab_Run X 288 1903 (100, cl, sl) [ab_R (-1), ab_R 1, ab_R 355, ab_R 368, ab_I i, l5, l6] [] σ Q := by
  refine lws_30 h.geo hi (cq_knob h.1.1.1 h.1.1.2.1 (h.1.k0 9) h.1.1.2.2.1 (fun τ u1 e1 => ?_))
  have hH := h.c u1
  refine lwm_30 hH.geo hi (mq_knob hH.2.1.1 hH.2.1.2.1 (fun υ u2 f1 f2 => ?_))
  exact lwe_30 (kq υ ⟨_, _, _, _, _, _, _, _, _, hH.q e1 (by unfold ac_iT; (repeat' (apply ar_i4)) <;> decide) u2 f1 f2⟩)
theorem lw_31 (h : ax_J σ K κ v na pa nm pm ln tp) (hi : 0 ≤ i ∧ i + 9 ≤ X.1 ∧ X.1 ≤ 4608) (kq : ∀ υ, ax_E υ → ab_Run X 288 2374 (100, cl, sl) [ab_R (-1), ab_R 1, ab_R 355, ab_R 368, ab_I i, l5, l6] [] υ Q) : ab_Run X 288 1928 (100, cl, sl) [ab_R (-1), ab_R 1, ab_R 355, ab_R 368, ab_I i, l5, l6] [] σ Q := by
  refine lws_31 h.geo hi (cq_owners h.1.1.1 h.1.1.2.1 (h.1.k0 9) h.1.1.2.2.1 (fun τ u1 e1 => ?_))
  have hH := h.c u1
  refine lwm_31 hH.geo hi (mq_owners hH.2.1.1 hH.2.1.2.1 (fun υ u2 f1 f2 => ?_))
  exact lwe_31 (kq υ ⟨_, _, _, _, _, _, _, _, _, hH.q e1 (by unfold ac_iT; (repeat' (apply ar_i4)) <;> decide) u2 f1 f2⟩)
theorem lw_32 (h : ax_J σ K κ v na pa nm pm ln tp) (hi : 0 ≤ i ∧ i + 9 ≤ X.1 ∧ X.1 ≤ 4608) (kq : ∀ υ, ax_E υ → ab_Run X 288 2374 (100, cl, sl) [ab_R (-1), ab_R 1, ab_R 355, ab_R 368, ab_I i, l5, l6] [] υ Q) : ab_Run X 288 1953 (100, cl, sl) [ab_R (-1), ab_R 1, ab_R 355, ab_R 368, ab_I i, l5, l6] [] σ Q := by
  refine lws_32 h.geo hi (cq_wins h.1.1.1 h.1.1.2.1 (h.1.k0 6) h.1.1.2.2.1 (fun τ u1 e1 => ?_))
  have hH := h.c u1
  refine lwm_32 hH.geo hi (mq_wins hH.2.1.1 hH.2.1.2.1 (fun υ u2 f1 f2 => ?_))
  exact lwe_32 (kq υ ⟨_, _, _, _, _, _, _, _, _, hH.q e1 (by unfold ac_wnT; (repeat' (apply ar_i4)) <;> decide) u2 f1 f2⟩)
theorem lw_33 (h : ax_J σ K κ v na pa nm pm ln tp) (hi : 0 ≤ i ∧ i + 9 ≤ X.1 ∧ X.1 ≤ 4608) (kq : ∀ υ, ax_E υ → ab_Run X 288 2374 (100, cl, sl) [ab_R (-1), ab_R 1, ab_R 355, ab_R 368, ab_I i, l5, l6] [] υ Q) : ab_Run X 288 2002 (100, cl, sl) [ab_R (-1), ab_R 1, ab_R 355, ab_R 368, ab_I i, l5, l6] [] σ Q := by
  by_cases hz : X.2 (i + 3) = 0
  · refine lws_33_0 h.geo hi hz (cq_spoilt h.1.1.1 h.1.1.2.1 h.1.1.2.2.1 (Or.inl rfl) (fun τ u1 e1 => ?_))
    have hH := h.c u1
    refine lwm_33_0 hH.geo hi hz (mq_spoilt hH.2.1.1 hH.2.1.2.1 (Or.inl rfl) (fun υ u2 f1 f2 => ?_))
    exact lwe_33 (kq υ ⟨_, _, _, _, _, _, _, _, _, hH.q e1 (by unfold ac_spT; (repeat' (apply ar_i4)) <;> decide) u2 f1 f2⟩)
  · refine lws_33_1 h.geo hi hz (cq_spoilt h.1.1.1 h.1.1.2.1 h.1.1.2.2.1 (Or.inr rfl) (fun τ u1 e1 => ?_))
    have hH := h.c u1
    refine lwm_33_1 hH.geo hi hz (mq_spoilt hH.2.1.1 hH.2.1.2.1 (Or.inr rfl) (fun υ u2 f1 f2 => ?_))
    exact lwe_33 (kq υ ⟨_, _, _, _, _, _, _, _, _, hH.q e1 (by unfold ac_spT; (repeat' (apply ar_i4)) <;> decide) u2 f1 f2⟩)
end
