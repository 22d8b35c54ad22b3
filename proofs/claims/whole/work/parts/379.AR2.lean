/-! READER: the invariant of a table, and what keeps it -/
def ar_L (κ : ac_K) : Prop := κ 10 0 = κ 5 0 + κ 6 0 ∧ (∀ k, 0 ≤ k → k < κ 10 0 → ∃ l, ac_lok l ∧ κ 30 k = ac_wl 32 0 l ∧ ((κ 31 k = 1 ∧ (0 ≤ κ 32 k ∧ κ 32 k < κ 5 0) ∧ κ 33 (κ 32 k) = ac_wl 27 0 l) ∨ (κ 31 k = 0 ∧ (0 ≤ κ 32 k ∧ κ 32 k < κ 6 0) ∧ κ 34 (κ 32 k) = ac_wl 27 0 l))) ∧ (∀ b, 0 ≤ b → b < κ 5 0 → ∃ k, (0 ≤ k ∧ k < κ 10 0) ∧ κ 31 k = 1 ∧ κ 32 k = b) ∧ (∀ p, 0 ≤ p → p < κ 6 0 → ∃ k, (0 ≤ k ∧ k < κ 10 0) ∧ κ 31 k = 0 ∧ κ 32 k = p) ∧ (∀ k j, 0 ≤ k → k < κ 10 0 → 0 ≤ j → j < κ 10 0 → κ 30 k = κ 30 j → k = j)
def ar_J (κ : ac_K) : Prop := ac_KN κ ∧ ac_KL κ ∧ (κ 11 0 = 0 ∨ κ 11 0 = 1) ∧ (κ 11 0 = 1 → ac_KB κ) ∧ (κ 11 0 = 0 → κ 5 0 = 0 ∧ κ 6 0 = 0 ∧ κ 7 0 = 0 ∧ κ 8 0 = 0 ∧ κ 9 0 = 0) ∧ ar_L κ ∧ (∀ p, κ 6 0 ≤ p → κ 20 p = 0 ∧ κ 21 p = 0) ∧ ac_KW κ
section
variable {tp : Int → Int} {n s o lo hi f i v w p q a b c d e : Int} {κ κ' κ1 : ac_K} {T A B C D l : List Int} {x : ac_K × Int}
theorem ar_Lp (h : ar_L κ) (hn : 0 ≤ κ 5 0 ∧ 0 ≤ κ 6 0) (hl : ac_lok l) : ar_fi (κ 34) (ac_wl 27 0 l) (κ 6 0).toNat 0 = ar_kp κ (ac_wl 32 0 l) := by
  obtain ⟨h0, h1, h2, h3, h4⟩ := h
  have P := ar_fi_s (g := κ 34) (w := ac_wl 27 0 l) (κ 6 0).toNat 0
  have F := ar_fi_s (g := κ 30) (w := ac_wl 32 0 l) (κ 10 0).toNat 0
  have key : ∀ r, 0 ≤ r → r < κ 6 0 → κ 34 r = ac_wl 27 0 l → ∃ k, (0 ≤ k ∧ k < κ 10 0) ∧ κ 31 k = 0 ∧ κ 32 k = r ∧ κ 30 k = ac_wl 32 0 l := by
    intro r r1 r2 r3
    obtain ⟨k, k1, k2, k3⟩ := h3 r r1 r2
    obtain ⟨l', m1, m2, m3⟩ := h1 k k1.1 k1.2
    rcases m3 with ⟨m3, -⟩ | ⟨-, m4, m5⟩
    · omega
    · rw [k3, r3] at m5
      have := (ac_wl_inj (Or.inl rfl) hl m1).mp m5
      rw [← this] at m2
      exact ⟨k, k1, k2, k3, m2⟩
  unfold ar_kp ar_fnd
  rcases F with ⟨F1, F2⟩ | ⟨F1, F2⟩
  · rw [F1, if_pos rfl]
    rcases P with ⟨P1, -⟩ | ⟨P1, P2⟩
    · exact P1
    · obtain ⟨k, k1, k2, k3, k4⟩ := key _ P1.1 (by omega) P2
      exact absurd k4 (F2 k k1.1 (by omega))
  · generalize ar_fi (κ 30) (ac_wl 32 0 l) (κ 10 0).toNat 0 = k0 at F1 F2 ⊢
    rw [if_neg (by omega)]
    obtain ⟨l', m1, m2, m3⟩ := h1 k0 F1.1 (by omega)
    have el : l = l' := (ac_wl_inj (Or.inr rfl) hl m1).mp (F2.symm.trans m2)
    subst el
    rcases P with ⟨P1, P2⟩ | ⟨P1, P2⟩
    · rw [P1]
      rcases m3 with ⟨m3, -⟩ | ⟨m3, m4, m5⟩
      · rw [if_neg (by omega)]
      · exact absurd m5 (P2 _ m4.1 (by omega))
    · obtain ⟨k, k1, k2, k3, k4⟩ := key _ P1.1 (by omega) P2
      have ek := h4 k k0 k1.1 k1.2 F1.1 (by omega) (k4.trans F2.symm)
      rw [← ek, if_pos k2, k3]
theorem ar_Ln (h : ar_L κ) (hn : 0 ≤ κ 5 0 ∧ 0 ≤ κ 6 0) (hl : ac_lok l) : ar_fnd κ (ac_wl 32 0 l) = -1 ↔ ar_fi (κ 33) (ac_wl 27 0 l) (κ 5 0).toNat 0 = -1 ∧ ar_fi (κ 34) (ac_wl 27 0 l) (κ 6 0).toNat 0 = -1 := by
  obtain ⟨h0, h1, h2, h3, h4⟩ := h
  have P := ar_fi_s (g := κ 34) (w := ac_wl 27 0 l) (κ 6 0).toNat 0
  have B := ar_fi_s (g := κ 33) (w := ac_wl 27 0 l) (κ 5 0).toNat 0
  have F := ar_fi_s (g := κ 30) (w := ac_wl 32 0 l) (κ 10 0).toNat 0
  unfold ar_fnd
  rcases F with ⟨F1, F2⟩ | ⟨F1, F2⟩
  · rw [F1]
    refine ⟨fun _ => ⟨?_, ?_⟩, fun _ => rfl⟩
    · rcases B with ⟨B1, -⟩ | ⟨B1, B2⟩
      · exact B1
      · obtain ⟨k, k1, k2, k3⟩ := h2 _ B1.1 (by omega)
        obtain ⟨l', m1, m2, m3⟩ := h1 k k1.1 k1.2
        rcases m3 with ⟨-, m4, m5⟩ | ⟨m3, -⟩
        · rw [k3, B2] at m5
          have := (ac_wl_inj (Or.inl rfl) hl m1).mp m5
          rw [← this] at m2
          exact absurd m2 (F2 k k1.1 (by omega))
        · omega
    · rcases P with ⟨P1, -⟩ | ⟨P1, P2⟩
      · exact P1
      · obtain ⟨k, k1, k2, k3⟩ := h3 _ P1.1 (by omega)
        obtain ⟨l', m1, m2, m3⟩ := h1 k k1.1 k1.2
        rcases m3 with ⟨m3, -⟩ | ⟨-, m4, m5⟩
        · omega
        · rw [k3, P2] at m5
          have := (ac_wl_inj (Or.inl rfl) hl m1).mp m5
          rw [← this] at m2
          exact absurd m2 (F2 k k1.1 (by omega))
  · generalize ar_fi (κ 30) (ac_wl 32 0 l) (κ 10 0).toNat 0 = k0 at F1 F2 ⊢
    refine ⟨fun u => by omega, fun u => ?_⟩
    obtain ⟨l', m1, m2, m3⟩ := h1 k0 F1.1 (by omega)
    have el : l = l' := (ac_wl_inj (Or.inr rfl) hl m1).mp (F2.symm.trans m2)
    subst el
    rcases m3 with ⟨-, m4, m5⟩ | ⟨-, m4, m5⟩
    · rcases B with ⟨-, B2⟩ | ⟨B1, -⟩
      · exact absurd m5 (B2 _ m4.1 (by omega))
      · omega
    · rcases P with ⟨-, P2⟩ | ⟨P1, -⟩
      · exact absurd m5 (P2 _ m4.1 (by omega))
      · omega
/-- a known person is one -/
theorem ar_kp_b (h : ar_L κ) (hn : 0 ≤ κ 5 0 ∧ 0 ≤ κ 6 0) (hk : ar_kp κ w ≠ -1) : 0 ≤ ar_kp κ w ∧ ar_kp κ w < κ 6 0 := by
  have F := ar_fi_s (g := κ 30) (w := w) (κ 10 0).toNat 0
  unfold ar_kp ar_fnd at hk ⊢
  rcases F with ⟨F1, F2⟩ | ⟨F1, F2⟩
  · rw [F1, if_pos rfl] at hk; omega
  · generalize ar_fi (κ 30) w (κ 10 0).toNat 0 = k0 at F1 F2 hk ⊢
    rw [if_neg (by omega)] at hk ⊢
    obtain ⟨l', m1, m2, m3⟩ := h.2.1 k0 F1.1 (by omega)
    rcases m3 with ⟨m3, -⟩ | ⟨m3, m4, m5⟩
    · rw [if_neg (by omega)] at hk; omega
    · rw [if_pos m3]; exact m4
theorem ar_J0' (h : ∀ f i, κ f i = 0) : ar_J κ := by
  have a5 := h 5 0
  have a6 := h 6 0
  have a7 := h 7 0
  have a8 := h 8 0
  have a9 := h 9 0
  have a10 := h 10 0
  have a11 := h 11 0
  refine ⟨⟨by omega, by omega, by omega, by omega, by omega⟩, ⟨fun b h1 h2 => by omega, fun b h1 h2 => by omega, fun b h1 h2 => by omega, fun b h1 h2 => by omega⟩, Or.inl a11, fun h => by omega, fun _ => ⟨a5, a6, a7, a8, a9⟩, ⟨by omega, fun b h1 h2 => by omega, fun b h1 h2 => by omega, fun b h1 h2 => by omega, fun k j h1 h2 => by omega⟩, fun _ _ => ⟨h _ _, h _ _⟩, fun k h1 h2 => by omega⟩
theorem ar_J0 : ar_J (fun _ _ => 0) := ar_J0' (fun _ _ => rfl)
theorem ar_J_R (h : ar_J κ) (h1 : 0 ≤ a ∧ a ≤ 9) (h2 : 25 ≤ b ∧ b ≤ 60) (h3 : 0 ≤ c ∧ c ≤ 99) (h4 : 0 ≤ d ∧ d ≤ 99) (h5 : 0 ≤ e ∧ e ≤ 99) : ar_J (ar_uR κ a b c d e) := by
  have E : ∀ f, 5 ≤ f → f ≠ 11 → ar_uR κ a b c d e f = κ f := fun f f1 f2 => by
    unfold ar_uR
    rw [ar_up_f (by omega), ar_up_f (by omega), ar_up_f (by omega), ar_up_f (by omega), ar_up_f (by omega), ar_up_f (by omega)]
  have e11 : ar_uR κ a b c d e 11 0 = 1 := by
    unfold ar_uR
    rw [ar_up_f (by omega), ar_up_f (by omega), ar_up_f (by omega), ar_up_f (by omega), ar_up_f (by omega), ar_up_e]
  have e0 : ar_uR κ a b c d e 0 0 = a := by
    unfold ar_uR
    rw [ar_up_f (by omega), ar_up_f (by omega), ar_up_f (by omega), ar_up_f (by omega), ar_up_e]
  have e1 : ar_uR κ a b c d e 1 0 = b := by
    unfold ar_uR
    rw [ar_up_f (by omega), ar_up_f (by omega), ar_up_f (by omega), ar_up_e]
  have e2 : ar_uR κ a b c d e 2 0 = c := by
    unfold ar_uR
    rw [ar_up_f (by omega), ar_up_f (by omega), ar_up_e]
  have e3 : ar_uR κ a b c d e 3 0 = d := by
    unfold ar_uR
    rw [ar_up_f (by omega), ar_up_e]
  have e4 : ar_uR κ a b c d e 4 0 = e := by
    unfold ar_uR
    rw [ar_up_e]
  generalize ar_uR κ a b c d e = κ' at *
  obtain ⟨j1, j2, j3, j4, j5, j6, j7, j8⟩ := h
  refine ⟨?_, ?_, Or.inr e11, fun _ => ?_, fun u => by omega, ?_, ?_, ?_⟩
  · unfold ac_KN
    rw [E 5 (by omega) (by omega), E 6 (by omega) (by omega), E 7 (by omega) (by omega), E 8 (by omega) (by omega), E 9 (by omega) (by omega)]
    exact j1
  · unfold ac_KL ac_bB ac_bP
    rw [E 5 (by omega) (by omega), E 6 (by omega) (by omega), E 7 (by omega) (by omega), E 8 (by omega) (by omega), E 9 (by omega) (by omega), E 12 (by omega) (by omega), E 13 (by omega) (by omega), E 14 (by omega) (by omega), E 15 (by omega) (by omega), E 16 (by omega) (by omega), E 17 (by omega) (by omega), E 18 (by omega) (by omega), E 19 (by omega) (by omega), E 20 (by omega) (by omega), E 21 (by omega) (by omega), E 22 (by omega) (by omega), E 23 (by omega) (by omega), E 24 (by omega) (by omega), E 25 (by omega) (by omega), E 26 (by omega) (by omega), E 27 (by omega) (by omega), E 28 (by omega) (by omega), E 29 (by omega) (by omega)]
    exact j2
  · unfold ac_KB
    rw [e0, e1, e2, e3, e4]
    exact ⟨h1, h2, h3, h4, h5⟩
  · unfold ar_L
    rw [E 5 (by omega) (by omega), E 6 (by omega) (by omega), E 10 (by omega) (by omega), E 30 (by omega) (by omega), E 31 (by omega) (by omega), E 32 (by omega) (by omega), E 33 (by omega) (by omega), E 34 (by omega) (by omega)]
    exact j6
  · rw [E 6 (by omega) (by omega), E 20 (by omega) (by omega), E 21 (by omega) (by omega)]
    exact j7
  · unfold ac_KW
    rw [E 8 (by omega) (by omega), E 22 (by omega) (by omega), E 23 (by omega) (by omega)]
    exact j8
theorem ar_orb_f : ∀ x : Fin 64, ∀ q : Fin 6, (0 ≤ ar_orb x.val q.val ∧ ar_orb x.val q.val < 64) ∧ (ab_ok32 (fun x y => x &&& y) x.val (ab_ok32 (fun x y => x <<< (y &&& 31)) 1 q.val) = 0 ↔ ac_bit x.val q.val = 0) := by decide +kernel
theorem ar_orb_b (hx : 0 ≤ v ∧ v < 64) (hq : 0 ≤ q ∧ q < 6) : (0 ≤ ar_orb v q ∧ ar_orb v q < 64) ∧ (ab_ok32 (fun x y => x &&& y) v (ab_ok32 (fun x y => x <<< (y &&& 31)) 1 q) = 0 ↔ ac_bit v q = 0) := by
  have := ar_orb_f ⟨v.toNat, by omega⟩ ⟨q.toNat, by omega⟩
  dsimp only at this
  rwa [Int.toNat_of_nonneg hx.1, Int.toNat_of_nonneg hq.1] at this
theorem ar_J_F (h : ar_J κ) (h0 : κ 11 0 = 1) (h7 : κ 7 0 < 10) (hp : 0 ≤ p ∧ p < κ 6 0) (hq : 0 ≤ q ∧ q < κ 6 0) (hv : 0 ≤ v ∧ v ≤ 99) : ar_J (ar_uF κ p q v) := by
  have E : ∀ f, f ≠ 20 → f ≠ 21 → f ≠ 7 → ar_uF κ p q v f = κ f := fun f f1 f2 f3 => by
    unfold ar_uF
    rw [ar_up_f f3, ar_up_f f2, ar_up_f f1]
  have e7 : ar_uF κ p q v 7 0 = κ 7 0 + 1 := by unfold ar_uF; rw [ar_up_e]
  have e20 : ∀ i, ar_uF κ p q v 20 i = if i = p then ar_orb (κ 20 p) q else κ 20 i := fun i => by unfold ar_uF; rw [ar_up_f (by omega), ar_up_f (by omega), ar_up_r]
  have e21 : ∀ i, ar_uF κ p q v 21 i = if i = p then κ 21 p + v else κ 21 i := fun i => by unfold ar_uF; rw [ar_up_f (by omega), ar_up_r, ar_up_f (by omega)]
  generalize ar_uF κ p q v = κ' at *
  obtain ⟨j1, j2, j3, j4, j5, j6, j7, j8⟩ := h
  have n6 := j1.2.1
  refine ⟨?_, ?_, ?_, fun _ => ?_, fun u => ?_, ?_, ?_, ?_⟩
  · unfold ac_KN at j1 ⊢
    rw [E 5 (by omega) (by omega) (by omega), E 6 (by omega) (by omega) (by omega), E 8 (by omega) (by omega) (by omega), E 9 (by omega) (by omega) (by omega), e7]
    omega
  · obtain ⟨k1, k2, k3, k4⟩ := j2
    refine ⟨?_, ?_, ?_, ?_⟩
    · unfold ac_bB
      rw [E 5 (by omega) (by omega) (by omega), E 12 (by omega) (by omega) (by omega), E 13 (by omega) (by omega) (by omega), E 14 (by omega) (by omega) (by omega), E 15 (by omega) (by omega) (by omega)]
      exact k1
    · intro i i1 i2
      rw [E 6 (by omega) (by omega) (by omega)] at i2
      have g := k2 i i1 i2
      unfold ac_bP at g ⊢
      rw [E 16 (by omega) (by omega) (by omega), E 17 (by omega) (by omega) (by omega), E 18 (by omega) (by omega) (by omega), E 19 (by omega) (by omega) (by omega), E 27 (by omega) (by omega) (by omega), E 28 (by omega) (by omega) (by omega), E 29 (by omega) (by omega) (by omega), e7, e20, e21]
      obtain ⟨g1, g2, g3, g4, g5, g6, g7⟩ := g
      refine ⟨g1, g2, g3, g4, ?_, ?_, g7⟩
      · by_cases z : i = p
        · rw [if_pos z]; subst z; exact (ar_orb_b g5 (by omega)).1
        · rw [if_neg z]; exact g5
      · by_cases z : i = p
        · rw [if_pos z]; subst z; omega
        · rw [if_neg z]; omega
    · rw [E 6 (by omega) (by omega) (by omega), E 8 (by omega) (by omega) (by omega), E 22 (by omega) (by omega) (by omega), E 23 (by omega) (by omega) (by omega), E 24 (by omega) (by omega) (by omega)]
      exact k3
    · rw [E 9 (by omega) (by omega) (by omega), E 25 (by omega) (by omega) (by omega), E 26 (by omega) (by omega) (by omega)]
      exact k4
  · rw [E 11 (by omega) (by omega) (by omega)]; exact j3
  · unfold ac_KB
    rw [E 0 (by omega) (by omega) (by omega), E 1 (by omega) (by omega) (by omega), E 2 (by omega) (by omega) (by omega), E 3 (by omega) (by omega) (by omega), E 4 (by omega) (by omega) (by omega)]
    exact j4 h0
  · rw [E 11 (by omega) (by omega) (by omega)] at u; omega
  · unfold ar_L
    rw [E 5 (by omega) (by omega) (by omega), E 6 (by omega) (by omega) (by omega), E 10 (by omega) (by omega) (by omega), E 30 (by omega) (by omega) (by omega), E 31 (by omega) (by omega) (by omega), E 32 (by omega) (by omega) (by omega), E 33 (by omega) (by omega) (by omega), E 34 (by omega) (by omega) (by omega)]
    exact j6
  · intro i hi
    rw [E 6 (by omega) (by omega) (by omega)] at hi
    rw [e20, e21, if_neg (by omega), if_neg (by omega)]
    exact j7 i hi
  · unfold ac_KW
    rw [E 8 (by omega) (by omega) (by omega), E 22 (by omega) (by omega) (by omega), E 23 (by omega) (by omega) (by omega)]
    exact j8
theorem ar_J_W (h : ar_J κ) (h0 : κ 11 0 = 1) (h8 : κ 8 0 < 12) (hp : 0 ≤ p ∧ p < κ 6 0) (hq : 0 ≤ q ∧ q < κ 6 0) (hd : 0 ≤ d ∧ d ≤ 1) (hpq : p ≠ q) : ar_J (ar_uW κ p q d) := by
  have E : ∀ f, f ≠ 22 → f ≠ 23 → f ≠ 24 → f ≠ 8 → ar_uW κ p q d f = κ f := fun f f1 f2 f3 f4 => by
    unfold ar_uW
    rw [ar_up_f f4, ar_up_f f3, ar_up_f f2, ar_up_f f1]
  have e8 : ar_uW κ p q d 8 0 = κ 8 0 + 1 := by unfold ar_uW; rw [ar_up_e]
  have e22 : ∀ i, ar_uW κ p q d 22 i = if i = κ 8 0 then p else κ 22 i := fun i => by unfold ar_uW; rw [ar_up_f (by omega), ar_up_f (by omega), ar_up_f (by omega), ar_up_r]
  have e23 : ∀ i, ar_uW κ p q d 23 i = if i = κ 8 0 then q else κ 23 i := fun i => by unfold ar_uW; rw [ar_up_f (by omega), ar_up_f (by omega), ar_up_r, ar_up_f (by omega)]
  have e24 : ∀ i, ar_uW κ p q d 24 i = if i = κ 8 0 then d else κ 24 i := fun i => by unfold ar_uW; rw [ar_up_f (by omega), ar_up_r, ar_up_f (by omega), ar_up_f (by omega)]
  generalize ar_uW κ p q d = κ' at *
  obtain ⟨j1, j2, j3, j4, j5, j6, j7, j8⟩ := h
  refine ⟨?_, ?_, ?_, fun _ => ?_, fun u => ?_, ?_, ?_, ?_⟩
  · unfold ac_KN at j1 ⊢
    rw [E 5 (by omega) (by omega) (by omega) (by omega), E 6 (by omega) (by omega) (by omega) (by omega), E 7 (by omega) (by omega) (by omega) (by omega), E 9 (by omega) (by omega) (by omega) (by omega), e8]
    omega
  · obtain ⟨k1, k2, k3, k4⟩ := j2
    refine ⟨?_, ?_, ?_, ?_⟩
    · unfold ac_bB
      rw [E 5 (by omega) (by omega) (by omega) (by omega), E 12 (by omega) (by omega) (by omega) (by omega), E 13 (by omega) (by omega) (by omega) (by omega), E 14 (by omega) (by omega) (by omega) (by omega), E 15 (by omega) (by omega) (by omega) (by omega)]
      exact k1
    · unfold ac_bP
      rw [E 6 (by omega) (by omega) (by omega) (by omega), E 7 (by omega) (by omega) (by omega) (by omega), E 16 (by omega) (by omega) (by omega) (by omega), E 17 (by omega) (by omega) (by omega) (by omega), E 18 (by omega) (by omega) (by omega) (by omega), E 19 (by omega) (by omega) (by omega) (by omega), E 20 (by omega) (by omega) (by omega) (by omega), E 21 (by omega) (by omega) (by omega) (by omega), E 27 (by omega) (by omega) (by omega) (by omega), E 28 (by omega) (by omega) (by omega) (by omega), E 29 (by omega) (by omega) (by omega) (by omega)]
      exact k2
    · intro k q1 q2
      rw [e8] at q2
      rw [E 6 (by omega) (by omega) (by omega) (by omega), e22, e23, e24]
      by_cases z : k = κ 8 0
      · rw [if_pos z, if_pos z, if_pos z]; exact ⟨hp, hq, hd⟩
      · rw [if_neg z, if_neg z, if_neg z]; exact k3 k q1 (by omega)
    · rw [E 9 (by omega) (by omega) (by omega) (by omega), E 25 (by omega) (by omega) (by omega) (by omega), E 26 (by omega) (by omega) (by omega) (by omega)]
      exact k4
  · rw [E 11 (by omega) (by omega) (by omega) (by omega)]; exact j3
  · unfold ac_KB
    rw [E 0 (by omega) (by omega) (by omega) (by omega), E 1 (by omega) (by omega) (by omega) (by omega), E 2 (by omega) (by omega) (by omega) (by omega), E 3 (by omega) (by omega) (by omega) (by omega), E 4 (by omega) (by omega) (by omega) (by omega)]
    exact j4 h0
  · rw [E 11 (by omega) (by omega) (by omega) (by omega)] at u; omega
  · unfold ar_L
    rw [E 5 (by omega) (by omega) (by omega) (by omega), E 6 (by omega) (by omega) (by omega) (by omega), E 10 (by omega) (by omega) (by omega) (by omega), E 30 (by omega) (by omega) (by omega) (by omega), E 31 (by omega) (by omega) (by omega) (by omega), E 32 (by omega) (by omega) (by omega) (by omega), E 33 (by omega) (by omega) (by omega) (by omega), E 34 (by omega) (by omega) (by omega) (by omega)]
    exact j6
  · rw [E 6 (by omega) (by omega) (by omega) (by omega), E 20 (by omega) (by omega) (by omega) (by omega), E 21 (by omega) (by omega) (by omega) (by omega)]
    exact j7
  · intro k q1 q2
    rw [e8] at q2
    rw [e22, e23]
    by_cases z : k = κ 8 0
    · rw [if_pos z, if_pos z]; exact hpq
    · rw [if_neg z, if_neg z]; exact j8 k q1 (by omega)
theorem ar_J_I (h : ar_J κ) (h0 : κ 11 0 = 1) (h9 : κ 9 0 < 4) (ha : 0 ≤ a ∧ a ≤ 1) (hv : 0 ≤ v ∧ v ≤ 5) : ar_J (ar_uI κ a v) := by
  have E : ∀ f, f ≠ 25 → f ≠ 26 → f ≠ 9 → ar_uI κ a v f = κ f := fun f f1 f2 f3 => by
    unfold ar_uI
    rw [ar_up_f f3, ar_up_f f2, ar_up_f f1]
  have e9 : ar_uI κ a v 9 0 = κ 9 0 + 1 := by unfold ar_uI; rw [ar_up_e]
  have e25 : ∀ i, ar_uI κ a v 25 i = if i = κ 9 0 then a else κ 25 i := fun i => by unfold ar_uI; rw [ar_up_f (by omega), ar_up_f (by omega), ar_up_r]
  have e26 : ∀ i, ar_uI κ a v 26 i = if i = κ 9 0 then v else κ 26 i := fun i => by unfold ar_uI; rw [ar_up_f (by omega), ar_up_r, ar_up_f (by omega)]
  generalize ar_uI κ a v = κ' at *
  obtain ⟨j1, j2, j3, j4, j5, j6, j7, j8⟩ := h
  refine ⟨?_, ?_, ?_, fun _ => ?_, fun u => ?_, ?_, ?_, ?_⟩
  · unfold ac_KN at j1 ⊢
    rw [E 5 (by omega) (by omega) (by omega), E 6 (by omega) (by omega) (by omega), E 7 (by omega) (by omega) (by omega), E 8 (by omega) (by omega) (by omega), e9]
    omega
  · obtain ⟨k1, k2, k3, k4⟩ := j2
    refine ⟨?_, ?_, ?_, ?_⟩
    · unfold ac_bB
      rw [E 5 (by omega) (by omega) (by omega), E 12 (by omega) (by omega) (by omega), E 13 (by omega) (by omega) (by omega), E 14 (by omega) (by omega) (by omega), E 15 (by omega) (by omega) (by omega)]
      exact k1
    · unfold ac_bP
      rw [E 6 (by omega) (by omega) (by omega), E 7 (by omega) (by omega) (by omega), E 16 (by omega) (by omega) (by omega), E 17 (by omega) (by omega) (by omega), E 18 (by omega) (by omega) (by omega), E 19 (by omega) (by omega) (by omega), E 20 (by omega) (by omega) (by omega), E 21 (by omega) (by omega) (by omega), E 27 (by omega) (by omega) (by omega), E 28 (by omega) (by omega) (by omega), E 29 (by omega) (by omega) (by omega)]
      exact k2
    · rw [E 6 (by omega) (by omega) (by omega), E 8 (by omega) (by omega) (by omega), E 22 (by omega) (by omega) (by omega), E 23 (by omega) (by omega) (by omega), E 24 (by omega) (by omega) (by omega)]
      exact k3
    · intro k q1 q2
      rw [e9] at q2
      rw [e25, e26]
      by_cases z : k = κ 9 0
      · rw [if_pos z, if_pos z]; exact ⟨ha, hv⟩
      · rw [if_neg z, if_neg z]; exact k4 k q1 (by omega)
  · rw [E 11 (by omega) (by omega) (by omega)]; exact j3
  · unfold ac_KB
    rw [E 0 (by omega) (by omega) (by omega), E 1 (by omega) (by omega) (by omega), E 2 (by omega) (by omega) (by omega), E 3 (by omega) (by omega) (by omega), E 4 (by omega) (by omega) (by omega)]
    exact j4 h0
  · rw [E 11 (by omega) (by omega) (by omega)] at u; omega
  · unfold ar_L
    rw [E 5 (by omega) (by omega) (by omega), E 6 (by omega) (by omega) (by omega), E 10 (by omega) (by omega) (by omega), E 30 (by omega) (by omega) (by omega), E 31 (by omega) (by omega) (by omega), E 32 (by omega) (by omega) (by omega), E 33 (by omega) (by omega) (by omega), E 34 (by omega) (by omega) (by omega)]
    exact j6
  · rw [E 6 (by omega) (by omega) (by omega), E 20 (by omega) (by omega) (by omega), E 21 (by omega) (by omega) (by omega)]
    exact j7
  · unfold ac_KW
    rw [E 8 (by omega) (by omega) (by omega), E 22 (by omega) (by omega) (by omega), E 23 (by omega) (by omega) (by omega)]
    exact j8
theorem ar_J_C (h : ar_J κ) (h0 : κ 11 0 = 1) (ha : 0 ≤ a ∧ a ≤ 99) (hb : 1 ≤ b ∧ b ≤ 9) (hc : 1 ≤ c ∧ c ≤ 9) : ar_J (ar_uC κ p a b c) := by
  have E : ∀ f, f ≠ 27 → f ≠ 28 → f ≠ 29 → ar_uC κ p a b c f = κ f := fun f f1 f2 f3 => by
    unfold ar_uC
    rw [ar_up_f f3, ar_up_f f2, ar_up_f f1]
  have e27 : ∀ i, ar_uC κ p a b c 27 i = if i = p then a else κ 27 i := fun i => by unfold ar_uC; rw [ar_up_f (by omega), ar_up_f (by omega), ar_up_r]
  have e28 : ∀ i, ar_uC κ p a b c 28 i = if i = p then b else κ 28 i := fun i => by unfold ar_uC; rw [ar_up_f (by omega), ar_up_r, ar_up_f (by omega)]
  have e29 : ∀ i, ar_uC κ p a b c 29 i = if i = p then c else κ 29 i := fun i => by unfold ar_uC; rw [ar_up_r, ar_up_f (by omega), ar_up_f (by omega)]
  generalize ar_uC κ p a b c = κ' at *
  obtain ⟨j1, j2, j3, j4, j5, j6, j7, j8⟩ := h
  refine ⟨?_, ?_, ?_, fun _ => ?_, fun u => ?_, ?_, ?_, ?_⟩
  · unfold ac_KN at j1 ⊢
    rw [E 5 (by omega) (by omega) (by omega), E 6 (by omega) (by omega) (by omega), E 7 (by omega) (by omega) (by omega), E 8 (by omega) (by omega) (by omega), E 9 (by omega) (by omega) (by omega)]
    exact j1
  · obtain ⟨k1, k2, k3, k4⟩ := j2
    refine ⟨?_, ?_, ?_, ?_⟩
    · unfold ac_bB
      rw [E 5 (by omega) (by omega) (by omega), E 12 (by omega) (by omega) (by omega), E 13 (by omega) (by omega) (by omega), E 14 (by omega) (by omega) (by omega), E 15 (by omega) (by omega) (by omega)]
      exact k1
    · intro i i1 i2
      rw [E 6 (by omega) (by omega) (by omega)] at i2
      have g := k2 i i1 i2
      unfold ac_bP at g ⊢
      rw [E 7 (by omega) (by omega) (by omega), E 16 (by omega) (by omega) (by omega), E 17 (by omega) (by omega) (by omega), E 18 (by omega) (by omega) (by omega), E 19 (by omega) (by omega) (by omega), E 20 (by omega) (by omega) (by omega), E 21 (by omega) (by omega) (by omega), e27, e28, e29]
      obtain ⟨g1, g2, g3, g4, g5, g6, g7⟩ := g
      refine ⟨g1, g2, g3, g4, g5, g6, ?_⟩
      by_cases z : i = p
      · rw [if_pos z, if_pos z, if_pos z]; exact Or.inr ⟨ha, hb, hc⟩
      · rw [if_neg z, if_neg z, if_neg z]; exact g7
    · rw [E 6 (by omega) (by omega) (by omega), E 8 (by omega) (by omega) (by omega), E 22 (by omega) (by omega) (by omega), E 23 (by omega) (by omega) (by omega), E 24 (by omega) (by omega) (by omega)]
      exact k3
    · rw [E 9 (by omega) (by omega) (by omega), E 25 (by omega) (by omega) (by omega), E 26 (by omega) (by omega) (by omega)]
      exact k4
  · rw [E 11 (by omega) (by omega) (by omega)]; exact j3
  · unfold ac_KB
    rw [E 0 (by omega) (by omega) (by omega), E 1 (by omega) (by omega) (by omega), E 2 (by omega) (by omega) (by omega), E 3 (by omega) (by omega) (by omega), E 4 (by omega) (by omega) (by omega)]
    exact j4 h0
  · rw [E 11 (by omega) (by omega) (by omega)] at u; omega
  · unfold ar_L
    rw [E 5 (by omega) (by omega) (by omega), E 6 (by omega) (by omega) (by omega), E 10 (by omega) (by omega) (by omega), E 30 (by omega) (by omega) (by omega), E 31 (by omega) (by omega) (by omega), E 32 (by omega) (by omega) (by omega), E 33 (by omega) (by omega) (by omega), E 34 (by omega) (by omega) (by omega)]
    exact j6
  · rw [E 6 (by omega) (by omega) (by omega), E 20 (by omega) (by omega) (by omega), E 21 (by omega) (by omega) (by omega)]
    exact j7
  · unfold ac_KW
    rw [E 8 (by omega) (by omega) (by omega), E 22 (by omega) (by omega) (by omega), E 23 (by omega) (by omega) (by omega)]
    exact j8
end
