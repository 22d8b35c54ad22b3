/-! READER of the class: what the fresh kitchen holds behind won, person -/
section
variable {σ τ : ab_S} {K p q v a b c d e w h f kd w27 w32 n x : Int} {κ κ' : ac_K} {g g' : Int → Int}
theorem ar_cnt_s (hn : 0 ≤ n) (hg : ∀ k, 0 ≤ k → k < n → g' k = g k) : ac_cnt g' (n + 1) x = if g' n = x then ac_cnt g n x + 1 else ac_cnt g n x := by
  unfold ac_cnt
  rw [show (n + 1).toNat = n.toNat + 1 by omega, ab_it_succ, show (0 : Int) + (n.toNat : Int) = n by omega]
  have e : ab_it (fun k (s : Int) => if g' k = x then s + 1 else s) n.toNat 0 0 = ab_it (fun k (s : Int) => if g k = x then s + 1 else s) n.toNat 0 0 := ab_it_cg _ _ _ (fun j t j1 j2 => by rw [hg j j1 (by omega)])
  rw [e]
theorem ar_cnt_0 (hn : 0 ≤ n) (hg : ∀ k, 0 ≤ k → k < n → g k ≠ x) : ac_cnt g n x = 0 := by
  unfold ac_cnt
  exact ab_it_skip n.toNat 0 0 (fun j j1 j2 t => by rw [if_neg (hg j j1 (by omega))])
theorem ar_KF_W (hk : ar_KF σ K κ) (hn : ac_KN κ) (hpp : 0 ≤ p ∧ p < κ 6 0) (hqq : 0 ≤ q ∧ q < κ 6 0) (hpq : q ≠ p) : ar_KF (ab_wr (ab_wr (ab_wr (ab_wr σ (K + 20 + p) 7 (ac_cnt (κ 22) (κ 8 0) p + 1)) (K + 20 + q) 8 (ac_cnt (κ 23) (κ 8 0) q + 1)) K 11 (ac_cnt (κ 24) (κ 8 0) 0 + (if d = 0 then 1 else 0))) K 10 (κ 8 0 + 1)) K (ar_uW κ p q d) := by
  obtain ⟨hK, k1, k4, hr, hz, hb, hp, hi⟩ := hk
  have hv : K = 5 ∨ K = 329 := hK
  have n6 := hn.2.1
  have n8 := hn.2.2.2.1
  have E : ∀ f, f ≠ 22 → f ≠ 23 → f ≠ 24 → f ≠ 8 → ar_uW κ p q d f = κ f := fun f f1 f2 f3 f4 => by
    unfold ar_uW
    rw [ar_up_f f4, ar_up_f f3, ar_up_f f2, ar_up_f f1]
  have e8 : ar_uW κ p q d 8 0 = κ 8 0 + 1 := by unfold ar_uW; rw [ar_up_e]
  have e22 : ∀ i, ar_uW κ p q d 22 i = if i = κ 8 0 then p else κ 22 i := fun i => by unfold ar_uW; rw [ar_up_f (by omega), ar_up_f (by omega), ar_up_f (by omega), ar_up_r]
  have e23 : ∀ i, ar_uW κ p q d 23 i = if i = κ 8 0 then q else κ 23 i := fun i => by unfold ar_uW; rw [ar_up_f (by omega), ar_up_f (by omega), ar_up_r, ar_up_f (by omega)]
  have e24 : ∀ i, ar_uW κ p q d 24 i = if i = κ 8 0 then d else κ 24 i := fun i => by unfold ar_uW; rw [ar_up_f (by omega), ar_up_r, ar_up_f (by omega), ar_up_f (by omega)]
  have c22 := fun x => ar_cnt_s (g := κ 22) (g' := ar_uW κ p q d 22) (x := x) n8.1 (fun k _ k2 => by rw [e22, if_neg (by omega)])
  have c23 := fun x => ar_cnt_s (g := κ 23) (g' := ar_uW κ p q d 23) (x := x) n8.1 (fun k _ k2 => by rw [e23, if_neg (by omega)])
  have c24 := fun x => ar_cnt_s (g := κ 24) (g' := ar_uW κ p q d 24) (x := x) n8.1 (fun k _ k2 => by rw [e24, if_neg (by omega)])
  rw [e22, if_pos rfl] at c22
  rw [e23, if_pos rfl] at c23
  rw [e24, if_pos rfl] at c24
  have eS : ∀ x y, (x ≠ K + 20 + p ∨ y ≠ 7) → (x ≠ K + 20 + q ∨ y ≠ 8) → (x ≠ K ∨ (y ≠ 10 ∧ y ≠ 11)) → ab_rd (ab_wr (ab_wr (ab_wr (ab_wr σ (K + 20 + p) 7 (ac_cnt (κ 22) (κ 8 0) p + 1)) (K + 20 + q) 8 (ac_cnt (κ 23) (κ 8 0) q + 1)) K 11 (ac_cnt (κ 24) (κ 8 0) 0 + (if d = 0 then 1 else 0))) K 10 (κ 8 0 + 1)) x y = ab_rd σ x y := fun x y h1 h2 h3 => by
    rw [ab_rdw_ne (by omega), ab_rdw_ne (by omega), ab_rdw_ne (by omega), ab_rdw_ne (by omega)]
  refine ⟨hK, ?_, ?_, fun u => ?_, ?_, ?_, ?_, ?_⟩
  · rw [eS _ _ (by omega) (by omega) (by omega), k1]
  · rw [eS _ _ (by omega) (by omega) (by omega), k4, E 11 (by omega) (by omega) (by omega) (by omega)]
  · rw [E 11 (by omega) (by omega) (by omega) (by omega)] at u
    unfold ac_KCr
    rw [eS _ _ (by omega) (by omega) (by omega), eS _ _ (by omega) (by omega) (by omega), eS _ _ (by omega) (by omega) (by omega), eS _ _ (by omega) (by omega) (by omega), eS _ _ (by omega) (by omega) (by omega), E 0 (by omega) (by omega) (by omega) (by omega), E 1 (by omega) (by omega) (by omega) (by omega), E 2 (by omega) (by omega) (by omega) (by omega), E 3 (by omega) (by omega) (by omega) (by omega), E 4 (by omega) (by omega) (by omega) (by omega)]
    exact hr u
  · obtain ⟨z1, z2, z3, z4, z5, z6⟩ := hz
    refine ⟨?_, ?_, ?_, ?_, ?_, ?_⟩
    · rw [eS _ _ (by omega) (by omega) (by omega), E 5 (by omega) (by omega) (by omega) (by omega), z1]
    · rw [eS _ _ (by omega) (by omega) (by omega), E 6 (by omega) (by omega) (by omega) (by omega), z2]
    · rw [eS _ _ (by omega) (by omega) (by omega), E 7 (by omega) (by omega) (by omega) (by omega), z3]
    · rw [ab_rdw_eq, e8]
    · rw [ab_rdw_ne (by omega), ab_rdw_eq, e8, c24]
      split <;> omega
    · rw [eS _ _ (by omega) (by omega) (by omega), E 9 (by omega) (by omega) (by omega) (by omega), z6]
  · exact ar_KFb hb hn.1.2 (fun x y h1 h2 => eS x y (by omega) (by omega) (by omega)) (E 5 (by omega) (by omega) (by omega) (by omega)) (E 12 (by omega) (by omega) (by omega) (by omega)) (E 13 (by omega) (by omega) (by omega) (by omega)) (E 14 (by omega) (by omega) (by omega) (by omega)) (E 15 (by omega) (by omega) (by omega) (by omega)) (E 33 (by omega) (by omega) (by omega) (by omega))
  · intro i i1 i2
    rw [E 6 (by omega) (by omega) (by omega) (by omega)] at i2
    obtain ⟨⟨y1, y2, y3, y4, y5, y6, y7, y8, y9, y10⟩, y0⟩ := hp i i1 i2
    unfold ac_KCp
    rw [e8, E 16 (by omega) (by omega) (by omega) (by omega), E 17 (by omega) (by omega) (by omega) (by omega), E 18 (by omega) (by omega) (by omega) (by omega), E 19 (by omega) (by omega) (by omega) (by omega), E 20 (by omega) (by omega) (by omega) (by omega), E 21 (by omega) (by omega) (by omega) (by omega), E 27 (by omega) (by omega) (by omega) (by omega), E 28 (by omega) (by omega) (by omega) (by omega), E 29 (by omega) (by omega) (by omega) (by omega), E 34 (by omega) (by omega) (by omega) (by omega), c22, c23, eS _ 0 (by omega) (by omega) (by omega), eS _ 1 (by omega) (by omega) (by omega), eS _ 2 (by omega) (by omega) (by omega), eS _ 3 (by omega) (by omega) (by omega), eS _ 4 (by omega) (by omega) (by omega), eS _ 5 (by omega) (by omega) (by omega), eS _ 6 (by omega) (by omega) (by omega), eS _ 9 (by omega) (by omega) (by omega), eS _ 10 (by omega) (by omega) (by omega), eS _ 11 (by omega) (by omega) (by omega)]
    refine ⟨⟨y1, y2, y3, y4, y5, y6, ?_, ?_, y9, y10⟩, y0⟩
    · by_cases z : p = i
      · subst z
        rw [if_pos rfl, ab_rdw_ne (by omega), ab_rdw_ne (by omega), ab_rdw_ne (by omega), ab_rdw_eq]
      · rw [if_neg z, eS _ _ (by omega) (by omega) (by omega), y7]
    · by_cases z : q = i
      · subst z
        rw [if_pos rfl, ab_rdw_ne (by omega), ab_rdw_ne (by omega), ab_rdw_eq]
      · rw [if_neg z, eS _ _ (by omega) (by omega) (by omega), y8]
  · exact ar_KFi hi (fun x y h1 h2 => eS x y (by omega) (by omega) (by omega)) (E 9 (by omega) (by omega) (by omega) (by omega)) (E 25 (by omega) (by omega) (by omega) (by omega)) (E 26 (by omega) (by omega) (by omega) (by omega))
/-- the writes of a person's line -/
def ar_wP (σ : ab_S) (K P w27 kd f h w m : Int) : ab_S := ab_wr (ab_wr (ab_wr (ab_wr (ab_wr (ab_wr (ab_wr (ab_wr (ab_wr (ab_wr (ab_wr (ab_wr σ P 0 w27) P 5 0) P 6 0) P 7 0) P 8 0) P 9 (-1)) P 1 kd) P 2 f) P 3 h) P 4 w) P 5 w) K 7 m
theorem ar_KF_P (hk : ar_KF σ K κ) (hj : ar_J κ) (h6 : κ 6 0 < 6) : ar_KF (ar_wP σ K (K + 20 + κ 6 0) w27 kd f h w (κ 6 0 + 1)) K (ar_uP κ w32 w27 kd f h w) := by
  obtain ⟨hK, k1, k4, hr, hz, hb, hp, hi⟩ := hk
  have hv : K = 5 ∨ K = 329 := hK
  have n5 := hj.1.1
  have n6 := hj.1.2.1
  have n8 := hj.1.2.2.2.1
  have K3 := hj.2.1.2.2.1
  have J7 := hj.2.2.2.2.2.2.1 (κ 6 0) (Int.le_refl _)
  obtain ⟨E, e30, e31, e32, e10, e6, e16, e17, e18, e19, e27, e34⟩ := ar_uP_r (κ := κ) (w32 := w32) (w27 := w27) (kd := kd) (f := f) (h := h) (w := w)
  generalize ar_uP κ w32 w27 kd f h w = κ' at *
  have E0 : ∀ g, g ≤ 33 → g ≠ 30 → g ≠ 31 → g ≠ 32 → g ≠ 10 → g ≠ 16 → g ≠ 17 → g ≠ 18 → g ≠ 19 → g ≠ 27 → g ≠ 6 → κ' g = κ g := fun g a0 a1 a2 a3 a4 a5 a6 a7 a8 a9 a10 => E g a1 a2 a3 a4 a5 a6 a7 a8 a9 a10 (by omega)
  have c22 : ac_cnt (κ 22) (κ 8 0) (κ 6 0) = 0 := ar_cnt_0 n8.1 (fun k q1 q2 => by have := K3 k q1 q2; omega)
  have c23 : ac_cnt (κ 23) (κ 8 0) (κ 6 0) = 0 := ar_cnt_0 n8.1 (fun k q1 q2 => by have := K3 k q1 q2; omega)
  have eS : ∀ x y, x ≠ K + 20 + κ 6 0 → (x ≠ K ∨ y ≠ 7) → ab_rd (ar_wP σ K (K + 20 + κ 6 0) w27 kd f h w (κ 6 0 + 1)) x y = ab_rd σ x y := fun x y h1 h2 => by
    unfold ar_wP
    simp (disch := omega) only [ab_rdw_ne]
  have F0 : ∀ g, g = 0 ∨ g = 1 ∨ g = 2 ∨ g = 3 ∨ g = 4 ∨ g = 5 ∨ g = 7 ∨ g = 8 ∨ g = 9 ∨ g = 11 ∨ g = 12 ∨ g = 13 ∨ g = 14 ∨ g = 15 ∨ g = 20 ∨ g = 21 ∨ g = 22 ∨ g = 23 ∨ g = 24 ∨ g = 25 ∨ g = 26 ∨ g = 28 ∨ g = 29 ∨ g = 33 → κ' g = κ g := fun g u => E0 g (by omega) (by omega) (by omega) (by omega) (by omega) (by omega) (by omega) (by omega) (by omega) (by omega) (by omega)
  refine ⟨hK, ?_, ?_, fun u => ?_, ?_, ?_, ?_, ?_⟩
  · rw [eS _ _ (by omega) (by omega), k1]
  · rw [eS _ _ (by omega) (by omega), k4, F0 11 (by omega)]
  · rw [F0 11 (by omega)] at u
    unfold ac_KCr
    rw [eS _ _ (by omega) (by omega), eS _ _ (by omega) (by omega), eS _ _ (by omega) (by omega), eS _ _ (by omega) (by omega), eS _ _ (by omega) (by omega), F0 0 (by omega), F0 1 (by omega), F0 2 (by omega), F0 3 (by omega), F0 4 (by omega)]
    exact hr u
  · obtain ⟨z1, z2, z3, z4, z5, z6⟩ := hz
    refine ⟨?_, ?_, ?_, ?_, ?_, ?_⟩
    · rw [eS _ _ (by omega) (by omega), F0 5 (by omega), z1]
    · unfold ar_wP
      rw [ab_rdw_eq, e6]
    · rw [eS _ _ (by omega) (by omega), F0 7 (by omega), z3]
    · rw [eS _ _ (by omega) (by omega), F0 8 (by omega), z4]
    · rw [eS _ _ (by omega) (by omega), F0 8 (by omega), F0 24 (by omega), z5]
    · rw [eS _ _ (by omega) (by omega), F0 9 (by omega), z6]
  · exact ar_KFb hb n5.2 (fun x y h1 h2 => eS x y (by omega) (by omega)) (F0 5 (by omega)) (F0 12 (by omega)) (F0 13 (by omega)) (F0 14 (by omega)) (F0 15 (by omega)) (F0 33 (by omega))
  · intro i i1 i2
    rw [e6] at i2
    unfold ac_KCp
    rw [F0 8 (by omega), F0 20 (by omega), F0 21 (by omega), F0 22 (by omega), F0 23 (by omega), F0 28 (by omega), F0 29 (by omega), e16, e17, e18, e19, e27, e34]
    by_cases z : i = κ 6 0
    · rw [z]
      simp only [if_true]
      rw [c22, c23, J7.1, J7.2]
      unfold ar_wP
      simp (disch := omega) only [ab_rdw_ne, ab_rdw_eq, Int.add_zero, true_and, and_true, ne_eq, not_true_eq_false, false_imp_iff]
    · have eS' : ∀ y, ab_rd (ar_wP σ K (K + 20 + κ 6 0) w27 kd f h w (κ 6 0 + 1)) (K + 20 + i) y = ab_rd σ (K + 20 + i) y := fun y => eS _ _ (by omega) (by omega)
      rw [if_neg z, if_neg z, if_neg z, if_neg z, if_neg z, if_neg z, eS', eS', eS', eS', eS', eS', eS', eS', eS', eS', eS', eS']
      exact hp i i1 (by omega)
  · exact ar_KFi hi (fun x y h1 h2 => eS x y (by omega) (by omega)) (F0 9 (by omega)) (F0 25 (by omega)) (F0 26 (by omega))
end
