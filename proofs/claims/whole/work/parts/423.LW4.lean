/-! THE LAW: acts (written by gen/glaw3.py) -/
section
variable {X : ab_X} {σ τ υ : ab_S} {Q : Option ab_V → ab_S → Prop} {i K na nm ln : Int} {κ : ac_K} {v tp : Int → Int} {pa pm : Int → Int → Int} {cl sl : Nat} {l5 l6 : ab_V}
theorem ax_H.z0 (h : ax_H σ K κ v na pa nm pm ln tp) (q : ¬ 0 < κ 5 0) : v 17 = 0 ∧ na = 0 ∧ nm = 0 := (h.2.2.2.2.2.2.2.2.1 (by have : 0 ≤ κ 5 0 := h.1.1.2.2.2.1.1.1; omega)).2
theorem lw_34 (h : ax_J σ K κ v na pa nm pm ln tp) (hi : 0 ≤ i ∧ i + 9 ≤ X.1 ∧ X.1 ≤ 4608) (kq : ∀ υ, ax_E υ → ab_Run X 288 2374 (100, cl, sl) [ab_R (-1), ab_R 1, ab_R 355, ab_R 368, ab_I i, l5, l6] [] υ Q) : ab_Run X 288 2067 (100, cl, sl) [ab_R (-1), ab_R 1, ab_R 355, ab_R 368, ab_I i, l5, l6] [] σ Q := by
  refine lws_34 h.geo hi (ca_dry h.1.1 (fun z τ u1 e1 => ?_) (fun z τ u1 e1 hC => ?_))
  · have hH := h.c u1
    refine lwm_34 hH.geo hi (ma_dry hH.2.1 (fun z2 υ u2 f1 f2 => ?_) (fun z2 => absurd z2 z))
    exact lwe_34 (kq υ ⟨_, _, _, _, _, _, _, _, _, hH.q e1 (by unfold ac_dyT; (repeat' (apply ar_i4)) <;> decide) u2 f1 f2⟩)
  · have hM0 := h.msx u1 hC.1.1
    refine lwm_34 hC.1.1 hi (ma_dry hM0 (fun z2 => absurd z z2) (fun z2 υ u2 f1 f2 hM => ?_))
    have h0' : ¬ κ 5 0 = 0 := by
      intro q0
      have : 0 < κ 5 0 := by unfold ac_dyT at z; by_cases q : 0 < κ 5 0; exact q; rw [if_neg q] at z; omega
      omega
    exact lwe_34 (kq υ ⟨_, _, _, _, _, _, _, _, _, h.a u1 e1 hC u2 f1 f2 hM (fun q => absurd q h0')⟩)
theorem lw_35 (h : ax_J σ K κ v na pa nm pm ln tp) (hi : 0 ≤ i ∧ i + 9 ≤ X.1 ∧ X.1 ≤ 4608) (kq : ∀ υ, ax_E υ → ab_Run X 288 2374 (100, cl, sl) [ab_R (-1), ab_R 1, ab_R 355, ab_R 368, ab_I i, l5, l6] [] υ Q) : ab_Run X 288 2092 (100, cl, sl) [ab_R (-1), ab_R 1, ab_R 355, ab_R 368, ab_I i, l5, l6] [] σ Q := by
  refine lws_35 h.geo hi (ca_boil h.1.1 (fun z τ u1 e1 => ?_) (fun z τ u1 e1 hC => ?_))
  · have hH := h.c u1
    refine lwm_35 hH.geo hi (ma_boil hH.2.1 hH.n5 (fun z2 υ u2 f1 f2 => ?_) (fun z2 => absurd z2 z))
    exact lwe_35 (kq υ ⟨_, _, _, _, _, _, _, _, _, hH.q e1 (by unfold ac_blT; (repeat' (apply ar_i4)) <;> decide) u2 f1 f2⟩)
  · have hM0 := h.msx u1 hC.1.1
    refine lwm_35 hC.1.1 hi (ma_boil hM0 h.1.n5 (fun z2 => absurd z z2) (fun z2 υ u2 f1 f2 hM => ?_))
    have h0' : ¬ κ 5 0 = 0 := by
      intro q0
      have : ac_isB κ (X.2 (i + 1)) := by unfold ac_blT at z; by_cases q : ac_isB κ (X.2 (i + 1)); exact q; rw [if_neg q] at z; omega
      unfold ac_isB at this; omega
    exact lwe_35 (kq υ ⟨_, _, _, _, _, _, _, _, _, h.a u1 e1 hC u2 f1 f2 hM (fun q => absurd q h0')⟩)
theorem lw_36 (h : ax_J σ K κ v na pa nm pm ln tp) (hi : 0 ≤ i ∧ i + 9 ≤ X.1 ∧ X.1 ≤ 4608) (kq : ∀ υ, ax_E υ → ab_Run X 288 2374 (100, cl, sl) [ab_R (-1), ab_R 1, ab_R 355, ab_R 368, ab_I i, l5, l6] [] υ Q) : ab_Run X 288 2117 (100, cl, sl) [ab_R (-1), ab_R 1, ab_R 355, ab_R 368, ab_I i, l5, l6] [] σ Q := by
  refine lws_36 h.geo hi (ca_pull h.1.1 (fun z τ u1 e1 => ?_) (fun z τ u1 e1 hC => ?_))
  · have hH := h.c u1
    refine lwm_36 hH.geo hi (ma_pull hH.2.1 (fun z2 υ u2 f1 f2 => ?_) (fun z2 => absurd z2 z))
    exact lwe_36 (kq υ ⟨_, _, _, _, _, _, _, _, _, hH.q e1 (by unfold ac_plT ac_wT; (repeat' (apply ar_i4)) <;> decide) u2 f1 f2⟩)
  · have hM0 := h.msx u1 hC.1.1
    refine lwm_36 hC.1.1 hi (ma_pull hM0 (fun z2 => absurd z z2) (fun z2 υ u2 f1 f2 hM => ?_))
    have h0' : ¬ κ 5 0 = 0 := by
      intro q0
      have : ac_isB κ (X.2 (i + 1)) := by unfold ac_plT at z; by_cases q : ac_wT κ (X.2 (i + 1)) (X.2 (i + 2)) (X.2 (i + 3)) (X.2 (i + 4)) (X.2 (i + 5)) (X.2 (i + 6)) = 0; unfold ac_wT at q; by_cases q2 : ac_isB κ (X.2 (i + 1)) ∧ ac_isU κ (X.2 (i + 2)) (X.2 (i + 4)); exact q2.1; rw [if_neg q2] at q; omega; rw [if_neg q] at z; omega
      unfold ac_isB at this; omega
    exact lwe_36 (kq υ ⟨_, _, _, _, _, _, _, _, _, h.a u1 e1 hC u2 f1 f2 hM (fun q => absurd q h0')⟩)
theorem lw_37 (h : ax_J σ K κ v na pa nm pm ln tp) (hi : 0 ≤ i ∧ i + 9 ≤ X.1 ∧ X.1 ≤ 4608) (kq : ∀ υ, ax_E υ → ab_Run X 288 2374 (100, cl, sl) [ab_R (-1), ab_R 1, ab_R 355, ab_R 368, ab_I i, l5, l6] [] υ Q) : ab_Run X 288 2204 (100, cl, sl) [ab_R (-1), ab_R 1, ab_R 355, ab_R 368, ab_I i, l5, l6] [] σ Q := by
  refine lws_37 h.geo hi (ca_seed h.1.1 (fun z τ u1 e1 => ?_) (fun z τ u1 e1 hC => ?_))
  · have hH := h.c u1
    refine lwm_37 hH.geo hi (ma_seed hH.2.1 hH.n5 (fun z2 υ u2 f1 f2 => ?_) (fun z2 => absurd z2 z))
    exact lwe_37 (kq υ ⟨_, _, _, _, _, _, _, _, _, hH.q e1 (by unfold ac_seT; (repeat' (apply ar_i4)) <;> decide) u2 f1 f2⟩)
  · have hM0 := h.msx u1 hC.1.1
    refine lwm_37 hC.1.1 hi (ma_seed hM0 h.1.n5 (fun z2 => absurd z z2) (fun z2 υ u2 f1 f2 hM => ?_))
    have h0' : ¬ κ 5 0 = 0 := by
      intro q0
      have : 0 < κ 5 0 := by unfold ac_seT at z; by_cases q : 0 < κ 5 0; exact q; rw [if_neg q] at z; omega
      omega
    exact lwe_37 (kq υ ⟨_, _, _, _, _, _, _, _, _, h.a u1 e1 hC u2 f1 f2 hM (fun q => absurd q h0')⟩)
theorem lw_38 (h : ax_J σ K κ v na pa nm pm ln tp) (hi : 0 ≤ i ∧ i + 9 ≤ X.1 ∧ X.1 ≤ 4608) (kq : ∀ υ, ax_E υ → ab_Run X 288 2374 (100, cl, sl) [ab_R (-1), ab_R 1, ab_R 355, ab_R 368, ab_I i, l5, l6] [] υ Q) : ab_Run X 288 2229 (100, cl, sl) [ab_R (-1), ab_R 1, ab_R 355, ab_R 368, ab_I i, l5, l6] [] σ Q := by
  refine lws_38 h.geo hi (ca_undo h.1.1 (fun z τ u1 e1 => ?_) (fun z τ u1 e1 hC => ?_))
  · have hH := h.c u1
    refine lwm_38 hH.geo hi (ma_undo hH.2.1 (fun q => (h.1.z0 q).2.1) h.1.1.2.2.2.2.1 (fun z2 υ u2 f1 f2 => ?_) (fun z2 => absurd z2 z))
    exact lwe_38 (kq υ ⟨_, _, _, _, _, _, _, _, _, hH.q e1 (by unfold ac_unT; (repeat' (apply ar_i4)) <;> decide) u2 f1 f2⟩)
  · have hM0 := h.msx u1 hC.1.1
    refine lwm_38 hC.1.1 hi (ma_undo hM0 (fun q => (h.1.z0 q).2.1) h.1.1.2.2.2.2.1 (fun z2 => absurd z z2) (fun z2 υ u2 f1 f2 hM => ?_))
    have h0' : ¬ κ 5 0 = 0 := by
      intro q0
      have : 0 < na := by unfold ac_unT at z; by_cases q : 0 < na; exact q; rw [if_neg q] at z; omega
      have := (h.1.z0 (by omega)).2.1; omega
    exact lwe_38 (kq υ ⟨_, _, _, _, _, _, _, _, _, h.a u1 e1 hC u2 f1 f2 hM (fun q => absurd q h0')⟩)
theorem lw_39 (h : ax_J σ K κ v na pa nm pm ln tp) (hi : 0 ≤ i ∧ i + 9 ≤ X.1 ∧ X.1 ≤ 4608) (kq : ∀ υ, ax_E υ → ab_Run X 288 2374 (100, cl, sl) [ab_R (-1), ab_R 1, ab_R 355, ab_R 368, ab_I i, l5, l6] [] υ Q) : ab_Run X 288 2242 (100, cl, sl) [ab_R (-1), ab_R 1, ab_R 355, ab_R 368, ab_I i, l5, l6] [] σ Q := by
  refine lws_39 h.geo hi (ca_mark h.1.1 (fun z τ u1 e1 => ?_) (fun z τ u1 e1 hC => ?_))
  · have hH := h.c u1
    refine lwm_39 hH.geo hi (ma_mark hH.2.1 (fun z2 υ u2 f1 f2 => ?_) (fun z2 => absurd z2 z))
    exact lwe_39 (kq υ ⟨_, _, _, _, _, _, _, _, _, hH.q e1 (by unfold ac_maT; (repeat' (apply ar_i4)) <;> decide) u2 f1 f2⟩)
  · have hM0 := h.msx u1 hC.1.1
    refine lwm_39 hC.1.1 hi (ma_mark hM0 (fun z2 => absurd z z2) (fun z2 υ u2 f1 f2 hM => ?_))
    have h0' : ¬ κ 5 0 = 0 := by
      intro q0
      have : 0 < κ 5 0 := by unfold ac_maT at z; by_cases q : 0 < κ 5 0; exact q; rw [if_neg q] at z; omega
      omega
    exact lwe_39 (kq υ ⟨_, _, _, _, _, _, _, _, _, h.a u1 e1 hC u2 f1 f2 hM (fun q => absurd q h0')⟩)
theorem lw_40 (h : ax_J σ K κ v na pa nm pm ln tp) (hi : 0 ≤ i ∧ i + 9 ≤ X.1 ∧ X.1 ≤ 4608) (kq : ∀ υ, ax_E υ → ab_Run X 288 2374 (100, cl, sl) [ab_R (-1), ab_R 1, ab_R 355, ab_R 368, ab_I i, l5, l6] [] υ Q) : ab_Run X 288 2255 (100, cl, sl) [ab_R (-1), ab_R 1, ab_R 355, ab_R 368, ab_I i, l5, l6] [] σ Q := by
  refine lws_40 h.geo hi (ca_back h.1.1 (fun z τ u1 e1 => ?_) (fun z τ u1 e1 hC => ?_))
  · have hH := h.c u1
    refine lwm_40 hH.geo hi (ma_back hH.2.1 (fun q => (h.1.z0 q).2.2) h.1.1.2.2.2.2.2 (fun z2 υ u2 f1 f2 => ?_) (fun z2 => absurd z2 z))
    exact lwe_40 (kq υ ⟨_, _, _, _, _, _, _, _, _, hH.q e1 (by unfold ac_bkT; (repeat' (apply ar_i4)) <;> decide) u2 f1 f2⟩)
  · have hM0 := h.msx u1 hC.1.1
    refine lwm_40 hC.1.1 hi (ma_back hM0 (fun q => (h.1.z0 q).2.2) h.1.1.2.2.2.2.2 (fun z2 => absurd z z2) (fun z2 υ u2 f1 f2 hM => ?_))
    have h0' : ¬ κ 5 0 = 0 := by
      intro q0
      have : 0 < nm := by unfold ac_bkT at z; by_cases q : 0 ≤ X.2 (i + 1) ∧ X.2 (i + 1) < nm; omega; rw [if_neg q] at z; omega
      have := (h.1.z0 (by omega)).2.2; omega
    exact lwe_40 (kq υ ⟨_, _, _, _, _, _, _, _, _, h.a u1 e1 hC u2 f1 f2 hM (fun q => absurd q h0')⟩)
end
