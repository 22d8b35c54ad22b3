/-! READER of the class: what the fresh kitchen holds behind each line -/
section
variable {σ τ : ab_S} {K p q v a b c d e w h f kd w27 w32 : Int} {κ κ' : ac_K}
theorem ar_KFb (h : ∀ b, 0 ≤ b → b < κ 5 0 → ac_KCb σ K κ b ∧ ab_rd σ (K + 5 + 3 * b) 0 = κ 33 b) (h5 : κ 5 0 ≤ 5) (e : ∀ a f, K + 5 ≤ a → a ≤ K + 19 → ab_rd τ a f = ab_rd σ a f) (e5 : κ' 5 = κ 5) (e12 : κ' 12 = κ 12) (e13 : κ' 13 = κ 13) (e14 : κ' 14 = κ 14) (e15 : κ' 15 = κ 15) (e33 : κ' 33 = κ 33) : ∀ b, 0 ≤ b → b < κ' 5 0 → ac_KCb τ K κ' b ∧ ab_rd τ (K + 5 + 3 * b) 0 = κ' 33 b := by
  intro b b1 b2
  rw [e5] at b2
  obtain ⟨⟨q1, q2, q3⟩, q4⟩ := h b b1 b2
  refine ⟨⟨?_, ?_, fun arm ha => ?_⟩, ?_⟩
  · rw [e _ _ (by omega) (by omega), q1, e12]
  · rw [e _ _ (by omega) (by omega), q2, e13]
  · rw [e14, e15]
    refine ⟨?_, fun i i1 i2 => ?_⟩
    · rw [e _ _ (by omega) (by omega), (q3 arm ha).1]
    · rw [e _ _ (by omega) (by omega), (q3 arm ha).2 i i1 i2]
  · rw [e _ _ (by omega) (by omega), q4, e33]
theorem ar_KFp (h : ∀ p, 0 ≤ p → p < κ 6 0 → ac_KCp σ K κ p ∧ ab_rd σ (K + 20 + p) 0 = κ 34 p) (h6 : κ 6 0 ≤ 6) (e : ∀ a f, K + 20 ≤ a → a ≤ K + 25 → ab_rd τ a f = ab_rd σ a f) (e6 : κ' 6 = κ 6) (e8 : κ' 8 = κ 8) (e16 : κ' 16 = κ 16) (e17 : κ' 17 = κ 17) (e18 : κ' 18 = κ 18) (e19 : κ' 19 = κ 19) (e20 : κ' 20 = κ 20) (e21 : κ' 21 = κ 21) (e22 : κ' 22 = κ 22) (e23 : κ' 23 = κ 23) (e27 : κ' 27 = κ 27) (e28 : κ' 28 = κ 28) (e29 : κ' 29 = κ 29) (e34 : κ' 34 = κ 34) : ∀ p, 0 ≤ p → p < κ' 6 0 → ac_KCp τ K κ' p ∧ ab_rd τ (K + 20 + p) 0 = κ' 34 p := by
  intro p p1 p2
  rw [e6] at p2
  have e' : ∀ f, ab_rd τ (K + 20 + p) f = ab_rd σ (K + 20 + p) f := fun f => e _ _ (by omega) (by omega)
  unfold ac_KCp
  rw [e', e', e', e', e', e', e', e', e', e', e', e', e8, e16, e17, e18, e19, e20, e21, e22, e23, e27, e28, e29, e34]
  exact h p p1 p2
theorem ar_KFi (h : ∀ i, 0 ≤ i → i < κ 9 0 → ab_rd σ (K + 3) i = κ 25 i ∧ ab_rd σ (K + 4) i = κ 26 i) (e : ∀ a f, K + 3 ≤ a → a ≤ K + 4 → ab_rd τ a f = ab_rd σ a f) (e9 : κ' 9 = κ 9) (e25 : κ' 25 = κ 25) (e26 : κ' 26 = κ 26) : ∀ i, 0 ≤ i → i < κ' 9 0 → ab_rd τ (K + 3) i = κ' 25 i ∧ ab_rd τ (K + 4) i = κ' 26 i := by
  intro i i1 i2
  rw [e9] at i2
  rw [e _ _ (by omega) (by omega), e _ _ (by omega) (by omega), e25, e26]
  exact h i i1 i2
theorem ar_KF_R (hk : ar_KF σ K κ) (hn : ac_KN κ) : ar_KF (ab_wr (ab_wr (ab_wr (ab_wr (ab_wr (ab_wr σ 2 4 1) K 0 a) K 1 b) K 2 c) K 3 d) K 4 e) K (ar_uR κ a b c d e) := by
  obtain ⟨hK, k1, k4, hr, hz, hb, hp, hi⟩ := hk
  have hv : K = 5 ∨ K = 329 := hK
  have E : ∀ f, 5 ≤ f → f ≠ 11 → ar_uR κ a b c d e f = κ f := fun f f1 f2 => by
    unfold ar_uR
    rw [ar_up_f (by omega), ar_up_f (by omega), ar_up_f (by omega), ar_up_f (by omega), ar_up_f (by omega), ar_up_f (by omega)]
  have eS : ∀ x y, x ≠ 2 → (x ≠ K ∨ 5 ≤ y) → ab_rd (ab_wr (ab_wr (ab_wr (ab_wr (ab_wr (ab_wr σ 2 4 1) K 0 a) K 1 b) K 2 c) K 3 d) K 4 e) x y = ab_rd σ x y := fun x y h1 h2 => by
    rw [ab_rdw_ne (by omega), ab_rdw_ne (by omega), ab_rdw_ne (by omega), ab_rdw_ne (by omega), ab_rdw_ne (by omega), ab_rdw_ne (by omega)]
  refine ⟨hK, ?_, ?_, fun _ => ?_, ?_, ?_, ?_, ?_⟩
  · rw [ab_rdw_ne (by omega), ab_rdw_ne (by omega), ab_rdw_ne (by omega), ab_rdw_ne (by omega), ab_rdw_ne (by omega), ab_rdw_ne (by omega), k1]
  · rw [ab_rdw_ne (by omega), ab_rdw_ne (by omega), ab_rdw_ne (by omega), ab_rdw_ne (by omega), ab_rdw_ne (by omega), ab_rdw_eq]
    unfold ar_uR
    rw [ar_up_f (by omega), ar_up_f (by omega), ar_up_f (by omega), ar_up_f (by omega), ar_up_f (by omega), ar_up_e]
  · unfold ar_uR
    refine ⟨?_, ?_, ?_, ?_, ?_⟩
    all_goals simp (disch := omega) only [ab_rdw_ne, ab_rdw_eq, ar_up_f, ar_up_e]
  · unfold ac_KC0
    rw [eS _ _ (by omega) (by omega), eS _ _ (by omega) (by omega), eS _ _ (by omega) (by omega), eS _ _ (by omega) (by omega), eS _ _ (by omega) (by omega), eS _ _ (by omega) (by omega), E 5 (by omega) (by omega), E 6 (by omega) (by omega), E 7 (by omega) (by omega), E 8 (by omega) (by omega), E 9 (by omega) (by omega), E 24 (by omega) (by omega)]
    exact hz
  · exact ar_KFb hb hn.1.2 (fun x y h1 h2 => eS x y (by omega) (by omega)) (E 5 (by omega) (by omega)) (E 12 (by omega) (by omega)) (E 13 (by omega) (by omega)) (E 14 (by omega) (by omega)) (E 15 (by omega) (by omega)) (E 33 (by omega) (by omega))
  · exact ar_KFp hp hn.2.1.2 (fun x y h1 h2 => eS x y (by omega) (by omega)) (E 6 (by omega) (by omega)) (E 8 (by omega) (by omega)) (E 16 (by omega) (by omega)) (E 17 (by omega) (by omega)) (E 18 (by omega) (by omega)) (E 19 (by omega) (by omega)) (E 20 (by omega) (by omega)) (E 21 (by omega) (by omega)) (E 22 (by omega) (by omega)) (E 23 (by omega) (by omega)) (E 27 (by omega) (by omega)) (E 28 (by omega) (by omega)) (E 29 (by omega) (by omega)) (E 34 (by omega) (by omega))
  · exact ar_KFi hi (fun x y h1 h2 => eS x y (by omega) (by omega)) (E 9 (by omega) (by omega)) (E 25 (by omega) (by omega)) (E 26 (by omega) (by omega))
theorem ar_KF_F (hk : ar_KF σ K κ) (hn : ac_KN κ) (hpp : 0 ≤ p ∧ p < κ 6 0) : ar_KF (ab_wr (ab_wr (ab_wr σ (K + 20 + p) 6 (ar_orb (κ 20 p) q)) (K + 20 + p) 5 (κ 19 p + κ 21 p + v)) K 9 (κ 7 0 + 1)) K (ar_uF κ p q v) := by
  obtain ⟨hK, k1, k4, hr, hz, hb, hp, hi⟩ := hk
  have hv : K = 5 ∨ K = 329 := hK
  have n6 := hn.2.1
  have E : ∀ f, f ≠ 20 → f ≠ 21 → f ≠ 7 → ar_uF κ p q v f = κ f := fun f f1 f2 f3 => by
    unfold ar_uF
    rw [ar_up_f f3, ar_up_f f2, ar_up_f f1]
  have e7 : ar_uF κ p q v 7 0 = κ 7 0 + 1 := by unfold ar_uF; rw [ar_up_e]
  have e20 : ∀ i, ar_uF κ p q v 20 i = if i = p then ar_orb (κ 20 p) q else κ 20 i := fun i => by unfold ar_uF; rw [ar_up_f (by omega), ar_up_f (by omega), ar_up_r]
  have e21 : ∀ i, ar_uF κ p q v 21 i = if i = p then κ 21 p + v else κ 21 i := fun i => by unfold ar_uF; rw [ar_up_f (by omega), ar_up_r, ar_up_f (by omega)]
  have eS : ∀ x y, (x ≠ K + 20 + p ∨ (y ≠ 5 ∧ y ≠ 6)) → (x ≠ K ∨ y ≠ 9) → ab_rd (ab_wr (ab_wr (ab_wr σ (K + 20 + p) 6 (ar_orb (κ 20 p) q)) (K + 20 + p) 5 (κ 19 p + κ 21 p + v)) K 9 (κ 7 0 + 1)) x y = ab_rd σ x y := fun x y h1 h2 => by
    rw [ab_rdw_ne (by omega), ab_rdw_ne (by omega), ab_rdw_ne (by omega)]
  refine ⟨hK, ?_, ?_, fun u => ?_, ?_, ?_, ?_, ?_⟩
  · rw [eS _ _ (by omega) (by omega), k1]
  · rw [eS _ _ (by omega) (by omega), k4, E 11 (by omega) (by omega) (by omega)]
  · rw [E 11 (by omega) (by omega) (by omega)] at u
    unfold ac_KCr
    rw [eS _ _ (by omega) (by omega), eS _ _ (by omega) (by omega), eS _ _ (by omega) (by omega), eS _ _ (by omega) (by omega), eS _ _ (by omega) (by omega), E 0 (by omega) (by omega) (by omega), E 1 (by omega) (by omega) (by omega), E 2 (by omega) (by omega) (by omega), E 3 (by omega) (by omega) (by omega), E 4 (by omega) (by omega) (by omega)]
    exact hr u
  · obtain ⟨z1, z2, z3, z4, z5, z6⟩ := hz
    refine ⟨?_, ?_, ?_, ?_, ?_, ?_⟩
    · rw [eS _ _ (by omega) (by omega), E 5 (by omega) (by omega) (by omega), z1]
    · rw [eS _ _ (by omega) (by omega), E 6 (by omega) (by omega) (by omega), z2]
    · rw [ab_rdw_eq, e7]
    · rw [eS _ _ (by omega) (by omega), E 8 (by omega) (by omega) (by omega), z4]
    · rw [eS _ _ (by omega) (by omega), E 8 (by omega) (by omega) (by omega), E 24 (by omega) (by omega) (by omega), z5]
    · rw [eS _ _ (by omega) (by omega), E 9 (by omega) (by omega) (by omega), z6]
  · exact ar_KFb hb hn.1.2 (fun x y h1 h2 => eS x y (by omega) (by omega)) (E 5 (by omega) (by omega) (by omega)) (E 12 (by omega) (by omega) (by omega)) (E 13 (by omega) (by omega) (by omega)) (E 14 (by omega) (by omega) (by omega)) (E 15 (by omega) (by omega) (by omega)) (E 33 (by omega) (by omega) (by omega))
  · intro i i1 i2
    rw [E 6 (by omega) (by omega) (by omega)] at i2
    obtain ⟨⟨y1, y2, y3, y4, y5, y6, y7, y8, y9, y10⟩, y0⟩ := hp i i1 i2
    unfold ac_KCp
    rw [E 8 (by omega) (by omega) (by omega), E 16 (by omega) (by omega) (by omega), E 17 (by omega) (by omega) (by omega), E 18 (by omega) (by omega) (by omega), E 19 (by omega) (by omega) (by omega), E 22 (by omega) (by omega) (by omega), E 23 (by omega) (by omega) (by omega), E 27 (by omega) (by omega) (by omega), E 28 (by omega) (by omega) (by omega), E 29 (by omega) (by omega) (by omega), E 34 (by omega) (by omega) (by omega), e20, e21, eS _ 0 (by omega) (by omega), eS _ 1 (by omega) (by omega), eS _ 2 (by omega) (by omega), eS _ 3 (by omega) (by omega), eS _ 4 (by omega) (by omega), eS _ 7 (by omega) (by omega), eS _ 8 (by omega) (by omega), eS _ 9 (by omega) (by omega), eS _ 10 (by omega) (by omega), eS _ 11 (by omega) (by omega)]
    refine ⟨⟨y1, y2, y3, y4, ?_, ?_, y7, y8, y9, y10⟩, y0⟩
    · by_cases z : i = p
      · subst z
        rw [if_pos rfl, ab_rdw_ne (by omega), ab_rdw_eq]; omega
      · rw [if_neg z, eS _ _ (by omega) (by omega), y5]
    · by_cases z : i = p
      · subst z
        rw [if_pos rfl, ab_rdw_ne (by omega), ab_rdw_ne (by omega), ab_rdw_eq]
      · rw [if_neg z, eS _ _ (by omega) (by omega), y6]
  · exact ar_KFi hi (fun x y h1 h2 => eS x y (by omega) (by omega)) (E 9 (by omega) (by omega) (by omega)) (E 25 (by omega) (by omega) (by omega)) (E 26 (by omega) (by omega) (by omega))
theorem ar_KF_I (hk : ar_KF σ K κ) (hn : ac_KN κ) : ar_KF (ab_wr (ab_wr (ab_wr σ (K + 3) (κ 9 0) a) (K + 4) (κ 9 0) v) K 12 (κ 9 0 + 1)) K (ar_uI κ a v) := by
  obtain ⟨hK, k1, k4, hr, hz, hb, hp, hi⟩ := hk
  have hv : K = 5 ∨ K = 329 := hK
  have n9 := hn.2.2.2.2
  have E : ∀ f, f ≠ 25 → f ≠ 26 → f ≠ 9 → ar_uI κ a v f = κ f := fun f f1 f2 f3 => by
    unfold ar_uI
    rw [ar_up_f f3, ar_up_f f2, ar_up_f f1]
  have e9 : ar_uI κ a v 9 0 = κ 9 0 + 1 := by unfold ar_uI; rw [ar_up_e]
  have e25 : ∀ i, ar_uI κ a v 25 i = if i = κ 9 0 then a else κ 25 i := fun i => by unfold ar_uI; rw [ar_up_f (by omega), ar_up_f (by omega), ar_up_r]
  have e26 : ∀ i, ar_uI κ a v 26 i = if i = κ 9 0 then v else κ 26 i := fun i => by unfold ar_uI; rw [ar_up_f (by omega), ar_up_r, ar_up_f (by omega)]
  have eS : ∀ x y, (x ≠ K + 3) → (x ≠ K + 4) → (x ≠ K ∨ y ≠ 12) → ab_rd (ab_wr (ab_wr (ab_wr σ (K + 3) (κ 9 0) a) (K + 4) (κ 9 0) v) K 12 (κ 9 0 + 1)) x y = ab_rd σ x y := fun x y h1 h2 h3 => by
    rw [ab_rdw_ne (by omega), ab_rdw_ne (by omega), ab_rdw_ne (by omega)]
  refine ⟨hK, ?_, ?_, fun u => ?_, ?_, ?_, ?_, ?_⟩
  · rw [eS _ _ (by omega) (by omega) (by omega), k1]
  · rw [eS _ _ (by omega) (by omega) (by omega), k4, E 11 (by omega) (by omega) (by omega)]
  · rw [E 11 (by omega) (by omega) (by omega)] at u
    unfold ac_KCr
    rw [eS _ _ (by omega) (by omega) (by omega), eS _ _ (by omega) (by omega) (by omega), eS _ _ (by omega) (by omega) (by omega), eS _ _ (by omega) (by omega) (by omega), eS _ _ (by omega) (by omega) (by omega), E 0 (by omega) (by omega) (by omega), E 1 (by omega) (by omega) (by omega), E 2 (by omega) (by omega) (by omega), E 3 (by omega) (by omega) (by omega), E 4 (by omega) (by omega) (by omega)]
    exact hr u
  · obtain ⟨z1, z2, z3, z4, z5, z6⟩ := hz
    refine ⟨?_, ?_, ?_, ?_, ?_, ?_⟩
    · rw [eS _ _ (by omega) (by omega) (by omega), E 5 (by omega) (by omega) (by omega), z1]
    · rw [eS _ _ (by omega) (by omega) (by omega), E 6 (by omega) (by omega) (by omega), z2]
    · rw [eS _ _ (by omega) (by omega) (by omega), E 7 (by omega) (by omega) (by omega), z3]
    · rw [eS _ _ (by omega) (by omega) (by omega), E 8 (by omega) (by omega) (by omega), z4]
    · rw [eS _ _ (by omega) (by omega) (by omega), E 8 (by omega) (by omega) (by omega), E 24 (by omega) (by omega) (by omega), z5]
    · rw [ab_rdw_eq, e9]
  · exact ar_KFb hb hn.1.2 (fun x y h1 h2 => eS x y (by omega) (by omega) (by omega)) (E 5 (by omega) (by omega) (by omega)) (E 12 (by omega) (by omega) (by omega)) (E 13 (by omega) (by omega) (by omega)) (E 14 (by omega) (by omega) (by omega)) (E 15 (by omega) (by omega) (by omega)) (E 33 (by omega) (by omega) (by omega))
  · exact ar_KFp hp hn.2.1.2 (fun x y h1 h2 => eS x y (by omega) (by omega) (by omega)) (E 6 (by omega) (by omega) (by omega)) (E 8 (by omega) (by omega) (by omega)) (E 16 (by omega) (by omega) (by omega)) (E 17 (by omega) (by omega) (by omega)) (E 18 (by omega) (by omega) (by omega)) (E 19 (by omega) (by omega) (by omega)) (E 20 (by omega) (by omega) (by omega)) (E 21 (by omega) (by omega) (by omega)) (E 22 (by omega) (by omega) (by omega)) (E 23 (by omega) (by omega) (by omega)) (E 27 (by omega) (by omega) (by omega)) (E 28 (by omega) (by omega) (by omega)) (E 29 (by omega) (by omega) (by omega)) (E 34 (by omega) (by omega) (by omega))
  · intro i i1 i2
    rw [e9] at i2
    rw [e25, e26]
    by_cases z : i = κ 9 0
    · subst z
      rw [if_pos rfl, if_pos rfl, ab_rdw_ne (by omega), ab_rdw_ne (by omega), ab_rdw_eq, ab_rdw_ne (by omega), ab_rdw_eq]
      exact ⟨rfl, rfl⟩
    · rw [if_neg z, if_neg z, ab_rdw_ne (by omega), ab_rdw_ne (by omega), ab_rdw_ne (by omega), ab_rdw_ne (by omega), ab_rdw_ne (by omega), ab_rdw_ne (by omega)]
      exact hi i i1 (by omega)
theorem ar_KF_C (hk : ar_KF σ K κ) (hn : ac_KN κ) (hpp : 0 ≤ p ∧ p < κ 6 0) (ha : a ≠ -1) : ar_KF (ab_wr (ab_wr (ab_wr σ (K + 20 + p) 9 a) (K + 20 + p) 10 b) (K + 20 + p) 11 c) K (ar_uC κ p a b c) := by
  obtain ⟨hK, k1, k4, hr, hz, hb, hp, hi⟩ := hk
  have hv : K = 5 ∨ K = 329 := hK
  have n6 := hn.2.1
  have E : ∀ f, f ≠ 27 → f ≠ 28 → f ≠ 29 → ar_uC κ p a b c f = κ f := fun f f1 f2 f3 => by
    unfold ar_uC
    rw [ar_up_f f3, ar_up_f f2, ar_up_f f1]
  have e27 : ∀ i, ar_uC κ p a b c 27 i = if i = p then a else κ 27 i := fun i => by unfold ar_uC; rw [ar_up_f (by omega), ar_up_f (by omega), ar_up_r]
  have e28 : ∀ i, ar_uC κ p a b c 28 i = if i = p then b else κ 28 i := fun i => by unfold ar_uC; rw [ar_up_f (by omega), ar_up_r, ar_up_f (by omega)]
  have e29 : ∀ i, ar_uC κ p a b c 29 i = if i = p then c else κ 29 i := fun i => by unfold ar_uC; rw [ar_up_r, ar_up_f (by omega), ar_up_f (by omega)]
  have eS : ∀ x y, (x ≠ K + 20 + p ∨ y < 9 ∨ 11 < y) → ab_rd (ab_wr (ab_wr (ab_wr σ (K + 20 + p) 9 a) (K + 20 + p) 10 b) (K + 20 + p) 11 c) x y = ab_rd σ x y := fun x y h1 => by
    rw [ab_rdw_ne (by omega), ab_rdw_ne (by omega), ab_rdw_ne (by omega)]
  refine ⟨hK, ?_, ?_, fun u => ?_, ?_, ?_, ?_, ?_⟩
  · rw [eS _ _ (by omega), k1]
  · rw [eS _ _ (by omega), k4, E 11 (by omega) (by omega) (by omega)]
  · rw [E 11 (by omega) (by omega) (by omega)] at u
    unfold ac_KCr
    rw [eS _ _ (by omega), eS _ _ (by omega), eS _ _ (by omega), eS _ _ (by omega), eS _ _ (by omega), E 0 (by omega) (by omega) (by omega), E 1 (by omega) (by omega) (by omega), E 2 (by omega) (by omega) (by omega), E 3 (by omega) (by omega) (by omega), E 4 (by omega) (by omega) (by omega)]
    exact hr u
  · unfold ac_KC0
    rw [eS _ _ (by omega), eS _ _ (by omega), eS _ _ (by omega), eS _ _ (by omega), eS _ _ (by omega), eS _ _ (by omega), E 5 (by omega) (by omega) (by omega), E 6 (by omega) (by omega) (by omega), E 7 (by omega) (by omega) (by omega), E 8 (by omega) (by omega) (by omega), E 9 (by omega) (by omega) (by omega), E 24 (by omega) (by omega) (by omega)]
    exact hz
  · exact ar_KFb hb hn.1.2 (fun x y h1 h2 => eS x y (by omega)) (E 5 (by omega) (by omega) (by omega)) (E 12 (by omega) (by omega) (by omega)) (E 13 (by omega) (by omega) (by omega)) (E 14 (by omega) (by omega) (by omega)) (E 15 (by omega) (by omega) (by omega)) (E 33 (by omega) (by omega) (by omega))
  · intro i i1 i2
    rw [E 6 (by omega) (by omega) (by omega)] at i2
    obtain ⟨⟨y1, y2, y3, y4, y5, y6, y7, y8, y9, y10⟩, y0⟩ := hp i i1 i2
    unfold ac_KCp
    rw [E 8 (by omega) (by omega) (by omega), E 16 (by omega) (by omega) (by omega), E 17 (by omega) (by omega) (by omega), E 18 (by omega) (by omega) (by omega), E 19 (by omega) (by omega) (by omega), E 20 (by omega) (by omega) (by omega), E 21 (by omega) (by omega) (by omega), E 22 (by omega) (by omega) (by omega), E 23 (by omega) (by omega) (by omega), E 34 (by omega) (by omega) (by omega), e27, e28, e29, eS _ 0 (by omega), eS _ 1 (by omega), eS _ 2 (by omega), eS _ 3 (by omega), eS _ 4 (by omega), eS _ 5 (by omega), eS _ 6 (by omega), eS _ 7 (by omega), eS _ 8 (by omega)]
    refine ⟨⟨y1, y2, y3, y4, y5, y6, y7, y8, ?_⟩, y0⟩
    by_cases z : i = p
    · subst z
      rw [if_pos rfl, if_pos rfl, if_pos rfl]
      simp (disch := omega) only [ab_rdw_ne, ab_rdw_eq, true_and, ne_eq, ha, not_false_eq_true, true_imp_iff, and_self, imp_self, implies_true]
    · rw [if_neg z, if_neg z, if_neg z, eS _ _ (by omega), eS _ _ (by omega), eS _ _ (by omega)]
      exact ⟨y9, y10⟩
  · exact ar_KFi hi (fun x y h1 h2 => eS x y (by omega)) (E 9 (by omega) (by omega) (by omega)) (E 25 (by omega) (by omega) (by omega)) (E 26 (by omega) (by omega) (by omega))
end
