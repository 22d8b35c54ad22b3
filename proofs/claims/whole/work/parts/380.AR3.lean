/-! READER: new names keep the invariant -/
section
variable {tp : Int → Int} {n s s' o lo hi f i v w w27 w32 p q a b c d e kd h : Int} {κ κ' κ1 : ac_K} {T A B C D l : List Int} {x : ac_K × Int}
theorem ar_fnd_no (h : ar_fnd κ w = -1) : ∀ j, 0 ≤ j → j < κ 10 0 → κ 30 j ≠ w := by
  intro j j1 j2
  rcases ar_fi_s (g := κ 30) (w := w) (κ 10 0).toNat 0 with ⟨-, F2⟩ | ⟨F1, -⟩
  · exact F2 j j1 (by omega)
  · unfold ar_fnd at h; omega
/-- names with one more -/
theorem ar_L_new (h : ar_L κ) (hn : 0 ≤ κ 5 0 ∧ 0 ≤ κ 6 0) (hl : ac_lok l) (hf : ar_fnd κ (ac_wl 32 0 l) = -1) (hz : v = 0 ∨ v = 1) (h10 : κ' 10 0 = κ 10 0 + 1) (h5 : κ' 5 0 = κ 5 0 + v) (h6 : κ' 6 0 = κ 6 0 + (1 - v)) (h30 : ∀ i, κ' 30 i = if i = κ 10 0 then ac_wl 32 0 l else κ 30 i) (h31 : ∀ i, κ' 31 i = if i = κ 10 0 then v else κ 31 i) (h32 : ∀ i, κ' 32 i = if i = κ 10 0 then (if v = 1 then κ 5 0 else κ 6 0) else κ 32 i) (h33 : ∀ i, i < κ 5 0 → κ' 33 i = κ 33 i) (h34 : ∀ i, i < κ 6 0 → κ' 34 i = κ 34 i) (h33' : v = 1 → κ' 33 (κ 5 0) = ac_wl 27 0 l) (h34' : v = 0 → κ' 34 (κ 6 0) = ac_wl 27 0 l) : ar_L κ' := by
  have no := ar_fnd_no hf
  obtain ⟨l0, l1, l2, l3, l4⟩ := h
  refine ⟨by omega, ?_, ?_, ?_, ?_⟩
  · intro k k1 k2
    by_cases z : k = κ 10 0
    · refine ⟨l, hl, by rw [h30, if_pos z], ?_⟩
      rw [h31, if_pos z, h32, if_pos z]
      rcases hz with rfl | rfl
      · right
        rw [if_neg (by omega)]
        exact ⟨rfl, by omega, h34' rfl⟩
      · left
        rw [if_pos rfl]
        exact ⟨rfl, by omega, h33' rfl⟩
    · obtain ⟨l', m1, m2, m3⟩ := l1 k k1 (by omega)
      refine ⟨l', m1, by rw [h30, if_neg z, m2], ?_⟩
      rw [h31, if_neg z, h32, if_neg z]
      rcases m3 with ⟨m3, m4, m5⟩ | ⟨m3, m4, m5⟩
      · left; exact ⟨m3, by omega, by rw [h33 _ m4.2, m5]⟩
      · right; exact ⟨m3, by omega, by rw [h34 _ m4.2, m5]⟩
  · intro b b1 b2
    by_cases z : b < κ 5 0
    · obtain ⟨k, k1, k2, k3⟩ := l2 b b1 z
      exact ⟨k, by omega, by rw [h31, if_neg (by omega), k2], by rw [h32, if_neg (by omega), k3]⟩
    · exact ⟨κ 10 0, by omega, by rw [h31, if_pos rfl]; omega, by rw [h32, if_pos rfl, if_pos (by omega)]; omega⟩
  · intro b b1 b2
    by_cases z : b < κ 6 0
    · obtain ⟨k, k1, k2, k3⟩ := l3 b b1 z
      exact ⟨k, by omega, by rw [h31, if_neg (by omega), k2], by rw [h32, if_neg (by omega), k3]⟩
    · exact ⟨κ 10 0, by omega, by rw [h31, if_pos rfl]; omega, by rw [h32, if_pos rfl, if_neg (by omega)]; omega⟩
  · intro k j k1 k2 j1 j2 e
    rw [h30, h30] at e
    by_cases z : k = κ 10 0
    · by_cases y : j = κ 10 0
      · omega
      · rw [if_pos z, if_neg y] at e
        exact absurd e.symm (no j j1 (by omega))
    · by_cases y : j = κ 10 0
      · rw [if_neg z, if_pos y] at e
        exact absurd e (no k k1 (by omega))
      · rw [if_neg z, if_neg y] at e
        exact l4 k j k1 (by omega) j1 (by omega) e
theorem ar_uP_r : (∀ g, g ≠ 30 → g ≠ 31 → g ≠ 32 → g ≠ 10 → g ≠ 16 → g ≠ 17 → g ≠ 18 → g ≠ 19 → g ≠ 27 → g ≠ 6 → g ≠ 34 → ar_uP κ w32 w27 kd f h w g = κ g) ∧ (∀ i, ar_uP κ w32 w27 kd f h w 30 i = if i = κ 10 0 then w32 else κ 30 i) ∧ (∀ i, ar_uP κ w32 w27 kd f h w 31 i = if i = κ 10 0 then 0 else κ 31 i) ∧ (∀ i, ar_uP κ w32 w27 kd f h w 32 i = if i = κ 10 0 then κ 6 0 else κ 32 i) ∧ ar_uP κ w32 w27 kd f h w 10 0 = κ 10 0 + 1 ∧ ar_uP κ w32 w27 kd f h w 6 0 = κ 6 0 + 1 ∧ (∀ i, ar_uP κ w32 w27 kd f h w 16 i = if i = κ 6 0 then kd else κ 16 i) ∧ (∀ i, ar_uP κ w32 w27 kd f h w 17 i = if i = κ 6 0 then f else κ 17 i) ∧ (∀ i, ar_uP κ w32 w27 kd f h w 18 i = if i = κ 6 0 then h else κ 18 i) ∧ (∀ i, ar_uP κ w32 w27 kd f h w 19 i = if i = κ 6 0 then w else κ 19 i) ∧ (∀ i, ar_uP κ w32 w27 kd f h w 27 i = if i = κ 6 0 then -1 else κ 27 i) ∧ (∀ i, ar_uP κ w32 w27 kd f h w 34 i = if i = κ 6 0 then w27 else κ 34 i) := by
  unfold ar_uP ar_uN
  refine ⟨fun g h1 h2 h3 h4 h5 h6 h7 h8 h9 h10 h11 => ?_, fun i => ?_, fun i => ?_, fun i => ?_, ?_, ?_, fun i => ?_, fun i => ?_, fun i => ?_, fun i => ?_, fun i => ?_, fun i => ?_⟩
  · rw [ar_up_f h11, ar_up_f h10, ar_up_f h9, ar_up_f h8, ar_up_f h7, ar_up_f h6, ar_up_f h5, ar_up_f h4, ar_up_f h3, ar_up_f h2, ar_up_f h1]
  all_goals simp (disch := omega) only [ar_up_f, ar_up_r, ar_up_e, if_true]
theorem ar_uB_r : (∀ g, g ≠ 30 → g ≠ 31 → g ≠ 32 → g ≠ 10 → g ≠ 12 → g ≠ 13 → g ≠ 5 → g ≠ 33 → ar_uB κ w32 w27 kd d g = κ g) ∧ (∀ i, ar_uB κ w32 w27 kd d 30 i = if i = κ 10 0 then w32 else κ 30 i) ∧ (∀ i, ar_uB κ w32 w27 kd d 31 i = if i = κ 10 0 then 1 else κ 31 i) ∧ (∀ i, ar_uB κ w32 w27 kd d 32 i = if i = κ 10 0 then κ 5 0 else κ 32 i) ∧ ar_uB κ w32 w27 kd d 10 0 = κ 10 0 + 1 ∧ ar_uB κ w32 w27 kd d 5 0 = κ 5 0 + 1 ∧ (∀ i, ar_uB κ w32 w27 kd d 12 i = if i = κ 5 0 then kd else κ 12 i) ∧ (∀ i, ar_uB κ w32 w27 kd d 13 i = if i = κ 5 0 then d else κ 13 i) ∧ (∀ i, ar_uB κ w32 w27 kd d 33 i = if i = κ 5 0 then w27 else κ 33 i) := by
  unfold ar_uB ar_uN
  refine ⟨fun g h1 h2 h3 h4 h5 h6 h7 h8 => ?_, fun i => ?_, fun i => ?_, fun i => ?_, ?_, ?_, fun i => ?_, fun i => ?_, fun i => ?_⟩
  · rw [ar_up_f h8, ar_up_f h7, ar_up_f h6, ar_up_f h5, ar_up_f h4, ar_up_f h3, ar_up_f h2, ar_up_f h1]
  all_goals simp (disch := omega) only [ar_up_f, ar_up_r, ar_up_e, if_true]
theorem ar_J_P (hj : ar_J κ) (h0 : κ 11 0 = 1) (h6 : κ 6 0 < 6) (hl : ac_lok l) (hf : ar_fnd κ (ac_wl 32 0 l) = -1) (h1 : 0 ≤ kd ∧ kd ≤ 3) (h2 : 1 ≤ f ∧ f ≤ 40) (h3 : 1 ≤ h ∧ h ≤ 6) (h4 : 0 ≤ w ∧ w ≤ 99) : ar_J (ar_uP κ (ac_wl 32 0 l) (ac_wl 27 0 l) kd f h w) := by
  obtain ⟨E, e30, e31, e32, e10, e6, e16, e17, e18, e19, e27, e34⟩ := ar_uP_r (κ := κ) (w32 := ac_wl 32 0 l) (w27 := ac_wl 27 0 l) (kd := kd) (f := f) (h := h) (w := w)
  generalize ar_uP κ (ac_wl 32 0 l) (ac_wl 27 0 l) kd f h w = κ' at *
  have E0 : ∀ g, g ≤ 29 → g ≠ 10 → g ≠ 16 → g ≠ 17 → g ≠ 18 → g ≠ 19 → g ≠ 27 → g ≠ 6 → κ' g = κ g := fun g a1 a2 a3 a4 a5 a6 a7 a8 => E g (by omega) (by omega) (by omega) a2 a3 a4 a5 a6 a7 a8 (by omega)
  obtain ⟨j1, j2, j3, j4, j5, j6, j7, j8⟩ := hj
  have n5 := j1.1
  have n6 := j1.2.1
  have n7 := j1.2.2.1
  refine ⟨?_, ?_, ?_, fun _ => ?_, fun u => ?_, ?_, ?_, ?_⟩
  · unfold ac_KN at j1 ⊢
    rw [E0 5 (by omega) (by omega) (by omega) (by omega) (by omega) (by omega) (by omega) (by omega), E0 7 (by omega) (by omega) (by omega) (by omega) (by omega) (by omega) (by omega) (by omega), E0 8 (by omega) (by omega) (by omega) (by omega) (by omega) (by omega) (by omega) (by omega), E0 9 (by omega) (by omega) (by omega) (by omega) (by omega) (by omega) (by omega) (by omega), e6]
    omega
  · obtain ⟨k1, k2, k3, k4⟩ := j2
    refine ⟨?_, ?_, ?_, ?_⟩
    · unfold ac_bB
      rw [E0 5 (by omega) (by omega) (by omega) (by omega) (by omega) (by omega) (by omega) (by omega), E0 12 (by omega) (by omega) (by omega) (by omega) (by omega) (by omega) (by omega) (by omega), E0 13 (by omega) (by omega) (by omega) (by omega) (by omega) (by omega) (by omega) (by omega), E0 14 (by omega) (by omega) (by omega) (by omega) (by omega) (by omega) (by omega) (by omega), E0 15 (by omega) (by omega) (by omega) (by omega) (by omega) (by omega) (by omega) (by omega)]
      exact k1
    · intro i i1 i2
      rw [e6] at i2
      unfold ac_bP
      rw [E0 7 (by omega) (by omega) (by omega) (by omega) (by omega) (by omega) (by omega) (by omega), E0 20 (by omega) (by omega) (by omega) (by omega) (by omega) (by omega) (by omega) (by omega), E0 21 (by omega) (by omega) (by omega) (by omega) (by omega) (by omega) (by omega) (by omega), E0 28 (by omega) (by omega) (by omega) (by omega) (by omega) (by omega) (by omega) (by omega), E0 29 (by omega) (by omega) (by omega) (by omega) (by omega) (by omega) (by omega) (by omega), e16, e17, e18, e19, e27]
      by_cases z : i = κ 6 0
      · have g := j7 i (by omega)
        rw [if_pos z, if_pos z, if_pos z, if_pos z, if_pos z, g.1, g.2]
        exact ⟨h1, h2, h3, h4, by omega, by omega, Or.inl rfl⟩
      · rw [if_neg z, if_neg z, if_neg z, if_neg z, if_neg z]
        exact k2 i i1 (by omega)
    · intro k q1 q2
      rw [E0 8 (by omega) (by omega) (by omega) (by omega) (by omega) (by omega) (by omega) (by omega)] at q2
      rw [e6, E0 22 (by omega) (by omega) (by omega) (by omega) (by omega) (by omega) (by omega) (by omega), E0 23 (by omega) (by omega) (by omega) (by omega) (by omega) (by omega) (by omega) (by omega), E0 24 (by omega) (by omega) (by omega) (by omega) (by omega) (by omega) (by omega) (by omega)]
      have g := k3 k q1 q2
      omega
    · rw [E0 9 (by omega) (by omega) (by omega) (by omega) (by omega) (by omega) (by omega) (by omega), E0 25 (by omega) (by omega) (by omega) (by omega) (by omega) (by omega) (by omega) (by omega), E0 26 (by omega) (by omega) (by omega) (by omega) (by omega) (by omega) (by omega) (by omega)]
      exact k4
  · rw [E0 11 (by omega) (by omega) (by omega) (by omega) (by omega) (by omega) (by omega) (by omega)]; exact j3
  · unfold ac_KB
    rw [E0 0 (by omega) (by omega) (by omega) (by omega) (by omega) (by omega) (by omega) (by omega), E0 1 (by omega) (by omega) (by omega) (by omega) (by omega) (by omega) (by omega) (by omega), E0 2 (by omega) (by omega) (by omega) (by omega) (by omega) (by omega) (by omega) (by omega), E0 3 (by omega) (by omega) (by omega) (by omega) (by omega) (by omega) (by omega) (by omega), E0 4 (by omega) (by omega) (by omega) (by omega) (by omega) (by omega) (by omega) (by omega)]
    exact j4 h0
  · rw [E0 11 (by omega) (by omega) (by omega) (by omega) (by omega) (by omega) (by omega) (by omega)] at u; omega
  · refine ar_L_new (v := 0) j6 (by omega) hl hf (Or.inl rfl) e10 ?_ (by rw [e6]; omega) e30 e31 (fun i => ?_) (fun i _ => ?_) (fun i hi => ?_) (fun u => by omega) (fun _ => by rw [e34, if_pos rfl])
    · rw [E0 5 (by omega) (by omega) (by omega) (by omega) (by omega) (by omega) (by omega) (by omega)]; omega
    · rw [e32, if_neg (by omega : ¬ (0 : Int) = 1)]
    · rw [E 33 (by omega) (by omega) (by omega) (by omega) (by omega) (by omega) (by omega) (by omega) (by omega) (by omega) (by omega)]
    · rw [e34, if_neg (by omega)]
  · intro i hi
    rw [e6] at hi
    rw [E0 20 (by omega) (by omega) (by omega) (by omega) (by omega) (by omega) (by omega) (by omega), E0 21 (by omega) (by omega) (by omega) (by omega) (by omega) (by omega) (by omega) (by omega)]
    exact j7 i (by omega)
  · unfold ac_KW
    rw [E0 8 (by omega) (by omega) (by omega) (by omega) (by omega) (by omega) (by omega) (by omega), E0 22 (by omega) (by omega) (by omega) (by omega) (by omega) (by omega) (by omega) (by omega), E0 23 (by omega) (by omega) (by omega) (by omega) (by omega) (by omega) (by omega) (by omega)]
    exact j8
/-- κ1 is κ but for the bone that comes -/
def ar_Bn (κ κ1 : ac_K) : Prop := (∀ g, g ≠ 14 → g ≠ 15 → κ1 g = κ g) ∧ (∀ i, i < 2 * κ 5 0 → κ1 14 i = κ 14 i) ∧ (∀ i, i < 12 * κ 5 0 → κ1 15 i = κ 15 i)
def ar_Ba (κ κ1 : ac_K) (arm : Int) : Prop := (2 ≤ κ1 14 (2 * κ 5 0 + arm) ∧ κ1 14 (2 * κ 5 0 + arm) ≤ 6) ∧ ∀ i, 0 ≤ i → i < κ1 14 (2 * κ 5 0 + arm) → 1 ≤ κ1 15 (6 * (2 * κ 5 0 + arm) + i) ∧ κ1 15 (6 * (2 * κ 5 0 + arm) + i) ≤ 9
theorem ar_J_B (hj : ar_J κ) (h0 : κ 11 0 = 1) (h5 : κ 5 0 < 5) (hB : ar_Bn κ κ1) (hA : ∀ arm, arm = 0 ∨ arm = 1 → ar_Ba κ κ1 arm) (hl : ac_lok l) (hf : ar_fnd κ (ac_wl 32 0 l) = -1) (h1 : 0 ≤ kd ∧ kd ≤ 2) (h2 : 0 ≤ d ∧ d ≤ 24) : ar_J (ar_uB κ1 (ac_wl 32 0 l) (ac_wl 27 0 l) kd d) := by
  obtain ⟨E, e30, e31, e32, e10, e5, e12, e13, e33⟩ := ar_uB_r (κ := κ1) (w32 := ac_wl 32 0 l) (w27 := ac_wl 27 0 l) (kd := kd) (d := d)
  generalize ar_uB κ1 (ac_wl 32 0 l) (ac_wl 27 0 l) kd d = κ' at *
  obtain ⟨B1, B2, B3⟩ := hB
  rw [B1 5 (by omega) (by omega)] at e5 e12 e13 e33 e32
  rw [B1 10 (by omega) (by omega)] at e30 e31 e32 e10
  rw [B1 12 (by omega) (by omega)] at e12
  rw [B1 13 (by omega) (by omega)] at e13
  rw [B1 30 (by omega) (by omega)] at e30
  rw [B1 31 (by omega) (by omega)] at e31
  rw [B1 32 (by omega) (by omega)] at e32
  rw [B1 33 (by omega) (by omega)] at e33
  have E0 : ∀ g, g ≤ 29 → g ≠ 10 → g ≠ 12 → g ≠ 13 → g ≠ 5 → g ≠ 14 → g ≠ 15 → κ' g = κ g := fun g a1 a2 a3 a4 a5 a6 a7 => by rw [E g (by omega) (by omega) (by omega) a2 a3 a4 a5 (by omega), B1 g a6 a7]
  have e14 : κ' 14 = κ1 14 := E 14 (by omega) (by omega) (by omega) (by omega) (by omega) (by omega) (by omega) (by omega)
  have e15 : κ' 15 = κ1 15 := E 15 (by omega) (by omega) (by omega) (by omega) (by omega) (by omega) (by omega) (by omega)
  obtain ⟨j1, j2, j3, j4, j5, j6, j7, j8⟩ := hj
  have n5 := j1.1
  have n6 := j1.2.1
  refine ⟨?_, ?_, ?_, fun _ => ?_, fun u => ?_, ?_, ?_, ?_⟩
  · unfold ac_KN at j1 ⊢
    rw [E0 6 (by omega) (by omega) (by omega) (by omega) (by omega) (by omega) (by omega), E0 7 (by omega) (by omega) (by omega) (by omega) (by omega) (by omega) (by omega), E0 8 (by omega) (by omega) (by omega) (by omega) (by omega) (by omega) (by omega), E0 9 (by omega) (by omega) (by omega) (by omega) (by omega) (by omega) (by omega), e5]
    omega
  · obtain ⟨k1, k2, k3, k4⟩ := j2
    refine ⟨?_, ?_, ?_, ?_⟩
    · intro i i1 i2
      rw [e5] at i2
      unfold ac_bB
      rw [e12, e13, e14, e15]
      by_cases z : i = κ 5 0
      · rw [if_pos z, if_pos z, z]
        exact ⟨h1, h2, fun arm ha => hA arm ha⟩
      · rw [if_neg z, if_neg z]
        obtain ⟨g1, g2, g3⟩ := k1 i i1 (by omega)
        refine ⟨g1, g2, fun arm ha => ?_⟩
        rw [B2 _ (by omega)]
        refine ⟨(g3 arm ha).1, fun t t1 t2 => ?_⟩
        have := (g3 arm ha).1
        rw [B3 _ (by omega)]
        exact (g3 arm ha).2 t t1 t2
    · unfold ac_bP
      rw [E0 6 (by omega) (by omega) (by omega) (by omega) (by omega) (by omega) (by omega), E0 7 (by omega) (by omega) (by omega) (by omega) (by omega) (by omega) (by omega), E0 16 (by omega) (by omega) (by omega) (by omega) (by omega) (by omega) (by omega), E0 17 (by omega) (by omega) (by omega) (by omega) (by omega) (by omega) (by omega), E0 18 (by omega) (by omega) (by omega) (by omega) (by omega) (by omega) (by omega), E0 19 (by omega) (by omega) (by omega) (by omega) (by omega) (by omega) (by omega), E0 20 (by omega) (by omega) (by omega) (by omega) (by omega) (by omega) (by omega), E0 21 (by omega) (by omega) (by omega) (by omega) (by omega) (by omega) (by omega), E0 27 (by omega) (by omega) (by omega) (by omega) (by omega) (by omega) (by omega), E0 28 (by omega) (by omega) (by omega) (by omega) (by omega) (by omega) (by omega), E0 29 (by omega) (by omega) (by omega) (by omega) (by omega) (by omega) (by omega)]
      exact k2
    · rw [E0 6 (by omega) (by omega) (by omega) (by omega) (by omega) (by omega) (by omega), E0 8 (by omega) (by omega) (by omega) (by omega) (by omega) (by omega) (by omega), E0 22 (by omega) (by omega) (by omega) (by omega) (by omega) (by omega) (by omega), E0 23 (by omega) (by omega) (by omega) (by omega) (by omega) (by omega) (by omega), E0 24 (by omega) (by omega) (by omega) (by omega) (by omega) (by omega) (by omega)]
      exact k3
    · rw [E0 9 (by omega) (by omega) (by omega) (by omega) (by omega) (by omega) (by omega), E0 25 (by omega) (by omega) (by omega) (by omega) (by omega) (by omega) (by omega), E0 26 (by omega) (by omega) (by omega) (by omega) (by omega) (by omega) (by omega)]
      exact k4
  · rw [E0 11 (by omega) (by omega) (by omega) (by omega) (by omega) (by omega) (by omega)]; exact j3
  · unfold ac_KB
    rw [E0 0 (by omega) (by omega) (by omega) (by omega) (by omega) (by omega) (by omega), E0 1 (by omega) (by omega) (by omega) (by omega) (by omega) (by omega) (by omega), E0 2 (by omega) (by omega) (by omega) (by omega) (by omega) (by omega) (by omega), E0 3 (by omega) (by omega) (by omega) (by omega) (by omega) (by omega) (by omega), E0 4 (by omega) (by omega) (by omega) (by omega) (by omega) (by omega) (by omega)]
    exact j4 h0
  · rw [E0 11 (by omega) (by omega) (by omega) (by omega) (by omega) (by omega) (by omega)] at u; omega
  · refine ar_L_new (v := 1) j6 (by omega) hl hf (Or.inr rfl) e10 e5 ?_ e30 e31 (fun i => ?_) (fun i hi => ?_) (fun i _ => ?_) (fun _ => by rw [e33, if_pos rfl]) (fun u => by omega)
    · rw [E0 6 (by omega) (by omega) (by omega) (by omega) (by omega) (by omega) (by omega)]; omega
    · rw [e32, if_pos (rfl : (1 : Int) = 1)]
    · rw [e33, if_neg (by omega)]
    · rw [E 34 (by omega) (by omega) (by omega) (by omega) (by omega) (by omega) (by omega) (by omega), B1 34 (by omega) (by omega)]
  · rw [E0 6 (by omega) (by omega) (by omega) (by omega) (by omega) (by omega) (by omega), E0 20 (by omega) (by omega) (by omega) (by omega) (by omega) (by omega) (by omega), E0 21 (by omega) (by omega) (by omega) (by omega) (by omega) (by omega) (by omega)]
    exact j7
  · unfold ac_KW
    rw [E0 8 (by omega) (by omega) (by omega) (by omega) (by omega) (by omega) (by omega), E0 22 (by omega) (by omega) (by omega) (by omega) (by omega) (by omega) (by omega), E0 23 (by omega) (by omega) (by omega) (by omega) (by omega) (by omega) (by omega)]
    exact j8
/-- an arm told: o its first place -/
theorem pr_arm_i : ∀ (m : Nat) (κ : ac_K) (i s : Int) (c : ac_K → Int → Int → ar_R), (0 ≤ i ∧ i ≤ 6) → (0 ≤ s ∧ s ≤ n) → pr_arm tp n o m κ i s c = .inr x → ∃ κ1 j s1, c κ1 j s1 = .inr x ∧ (i < j ∧ j ≤ 6) ∧ (s ≤ s1 ∧ s1 ≤ n) ∧ (∀ g k, (g ≠ 15 ∨ k < o + i ∨ o + j ≤ k) → κ1 g k = κ g k) ∧ (∀ k, i ≤ k → k < j → 1 ≤ κ1 15 (o + k) ∧ κ1 15 (o + k) ≤ 9) := by
  intro m
  induction m with
  | zero => intro κ i s c _ _ h; unfold pr_arm at h; cases h
  | succ m ih =>
    intro κ i s c hi hs h
    unfold pr_arm at h
    obtain ⟨h1, h2⟩ := pr_whole_i h
    have nb := ac_nx_b (tp := tp) hs
    generalize ac_kvl tp n s = v at h1 h2
    by_cases z : i = 6
    · rw [if_pos z] at h2; cases h2
    · rw [if_neg z] at h2
      by_cases y : ac_kk tp n (ac_nx tp n s) = 5
      · rw [if_pos y] at h2
        have nb2 := ac_nx_b (tp := tp) (s := ac_nx tp n s) ⟨by omega, nb.2⟩
        obtain ⟨κ1, j, s1, e1, e2, e3, e4, e5⟩ := ih _ (i + 1) _ c (by omega) ⟨by omega, nb2.2⟩ h2
        refine ⟨κ1, j, s1, e1, by omega, by omega, fun g k hk => ?_, fun k k1 k2 => ?_⟩
        · rw [e4 g k (by omega)]
          by_cases w : g = 15
          · subst w; rw [ar_up_i (by omega)]
          · rw [ar_up_f w]
        · by_cases w : k = i
          · rw [w, e4 15 (o + i) (by omega), ar_up_e]; exact h1
          · exact e5 k (by omega) k2
      · rw [if_neg y] at h2
        refine ⟨_, _, _, h2, by omega, by omega, fun g k hk => ?_, fun k k1 k2 => ?_⟩
        · by_cases w : g = 15
          · subst w; rw [ar_up_i (by omega)]
          · rw [ar_up_f w]
        · have : k = i := by omega
          rw [this, ar_up_e]; exact h1
end
