/-! READER: a line keeps the invariant and goes on -/
section
variable {tp : Int → Int} {n s s' t : Int} {κ κ' : ac_K}
theorem ar_nxm (hs : 0 ≤ s) (h : s ≤ t ∧ t ≤ n) : s ≤ ac_nx tp n t ∧ ac_nx tp n t ≤ n := by
  have := ac_nx_b (tp := tp) (s := t) (n := n) ⟨by omega, h.2⟩
  omega
theorem pr_rules_J (hj : ar_J κ) (hs : 0 ≤ s ∧ s ≤ n) (h : pr_rules tp n κ s = .inr (κ', s')) : ar_J κ' ∧ s ≤ s' ∧ s' ≤ n := by
  unfold pr_rules at h
  obtain ⟨a1, h⟩ := pr_part_i h
  obtain ⟨a2, h⟩ := pr_part_i h
  obtain ⟨a3, h⟩ := pr_part_i h
  obtain ⟨a4, h⟩ := pr_part_i h
  obtain ⟨a5, h⟩ := pr_part_i h
  cases h
  have t0 : s ≤ s ∧ s ≤ n := ⟨Int.le_refl s, hs.2⟩
  have t1 := ar_nxm (tp := tp) hs.1 t0
  have t2 := ar_nxm (tp := tp) hs.1 t1
  have t3 := ar_nxm (tp := tp) hs.1 t2
  have t4 := ar_nxm (tp := tp) hs.1 t3
  have t5 := ar_nxm (tp := tp) hs.1 t4
  have t6 := ar_nxm (tp := tp) hs.1 t5
  have t7 := ar_nxm (tp := tp) hs.1 t6
  have t8 := ar_nxm (tp := tp) hs.1 t7
  have t9 := ar_nxm (tp := tp) hs.1 t8
  exact ⟨ar_J_R hj a1 a2 a3 a4 a5, ar_nxm hs.1 t9⟩
theorem pr_person_J (hj : ar_J κ) (h0 : κ 11 0 = 1) (h6 : κ 6 0 < 6) (hs : 0 ≤ s ∧ s ≤ n) (h : pr_person tp n κ s = .inr (κ', s')) : ar_J κ' ∧ s ≤ s' ∧ s' ≤ n := by
  unfold pr_person at h
  obtain ⟨a1, a2, h⟩ := pr_new_i h
  obtain ⟨a3, h⟩ := pr_kind_i h
  obtain ⟨a4, h⟩ := pr_part_i h
  obtain ⟨a5, h⟩ := pr_part_i h
  obtain ⟨a6, h⟩ := pr_part_i h
  cases h
  have t0 : s ≤ s ∧ s ≤ n := ⟨Int.le_refl s, hs.2⟩
  have t1 := ar_nxm (tp := tp) hs.1 t0
  have t2 := ar_nxm (tp := tp) hs.1 t1
  have t3 := ar_nxm (tp := tp) hs.1 t2
  have t4 := ar_nxm (tp := tp) hs.1 t3
  have t5 := ar_nxm (tp := tp) hs.1 t4
  have t6 := ar_nxm (tp := tp) hs.1 t5
  have t7 := ar_nxm (tp := tp) hs.1 t6
  exact ⟨ar_J_P hj h0 h6 (ac_kwd_ok (q := 27) (ar_nm2 a1) hs.1).1 a2 a3 a4 a5 a6, ar_nxm hs.1 t7⟩
theorem pr_for_J (hj : ar_J κ) (h0 : κ 11 0 = 1) (h7 : κ 7 0 < 10) (hs : 0 ≤ s ∧ s ≤ n) (h : pr_for tp n κ s = .inr (κ', s')) : ar_J κ' ∧ s ≤ s' ∧ s' ≤ n := by
  unfold pr_for at h
  obtain ⟨a1, -, h⟩ := pr_pers_i h
  obtain ⟨a2, a3, h⟩ := pr_pers_i h
  have n5 := hj.1.1
  have n6 := hj.1.2.1
  have b1 := ar_kp_b hj.2.2.2.2.2.1 (by omega) a1
  have b2 := ar_kp_b hj.2.2.2.2.2.1 (by omega) a2
  have t0 : s ≤ s ∧ s ≤ n := ⟨Int.le_refl s, hs.2⟩
  have t1 := ar_nxm (tp := tp) hs.1 t0
  have t2 := ar_nxm (tp := tp) hs.1 t1
  have t3 := ar_nxm (tp := tp) hs.1 t2
  generalize ar_kp κ (ar_W 32 tp n s) = p at *
  generalize ar_kp κ (ar_W 32 tp n (ac_nx tp n s)) = q at *
  by_cases z : ac_bit (κ 20 p) q = 1
  · rw [if_pos z] at h; cases h
  · rw [if_neg z] at h
    obtain ⟨a4, h⟩ := pr_whole_i h
    cases h
    exact ⟨ar_J_F hj h0 h7 b1 b2 a4, t3⟩
theorem pr_won_J (hj : ar_J κ) (h0 : κ 11 0 = 1) (h8 : κ 8 0 < 12) (hs : 0 ≤ s ∧ s ≤ n) (h : pr_won tp n κ s = .inr (κ', s')) : ar_J κ' ∧ s ≤ s' ∧ s' ≤ n := by
  unfold pr_won at h
  obtain ⟨a1, -, h⟩ := pr_pers_i h
  obtain ⟨a2, a3, h⟩ := pr_pers_i h
  obtain ⟨a4, h⟩ := pr_kind_i h
  have a5 := ar_kd_1b (tp := tp) (n := n) (s := ac_nx tp n (ac_nx tp n s)) (A := ac_tx12) (B := ac_tx13)
  have n5 := hj.1.1
  have n6 := hj.1.2.1
  have b1 := ar_kp_b hj.2.2.2.2.2.1 (by omega) a1
  have b2 := ar_kp_b hj.2.2.2.2.2.1 (by omega) a2
  have t0 : s ≤ s ∧ s ≤ n := ⟨Int.le_refl s, hs.2⟩
  have t1 := ar_nxm (tp := tp) hs.1 t0
  have t2 := ar_nxm (tp := tp) hs.1 t1
  have t3 := ar_nxm (tp := tp) hs.1 t2
  cases h
  exact ⟨ar_J_W hj h0 h8 b1 b2 ⟨a4.1, a5⟩ (fun u => a3 u.symm), t3⟩
theorem pr_piece_J (hj : ar_J κ) (h0 : κ 11 0 = 1) (h9 : κ 9 0 < 4) (hs : 0 ≤ s ∧ s ≤ n) (h : pr_piece tp n κ s = .inr (κ', s')) : ar_J κ' ∧ s ≤ s' ∧ s' ≤ n := by
  unfold pr_piece at h
  obtain ⟨a4, h⟩ := pr_kind_i h
  have a5 := ar_kd_1b (tp := tp) (n := n) (s := s) (A := ac_tx12) (B := ac_tx13)
  obtain ⟨a6, h⟩ := pr_whole_i h
  have t0 : s ≤ s ∧ s ≤ n := ⟨Int.le_refl s, hs.2⟩
  have t1 := ar_nxm (tp := tp) hs.1 t0
  have t2 := ar_nxm (tp := tp) hs.1 t1
  cases h
  exact ⟨ar_J_I hj h0 h9 ⟨a4.1, a5⟩ a6, t2⟩
theorem pr_cheats_J (hj : ar_J κ) (h0 : κ 11 0 = 1) (hs : 0 ≤ s ∧ s ≤ n) (h : pr_cheats tp n κ s = .inr (κ', s')) : ar_J κ' ∧ s ≤ s' ∧ s' ≤ n := by
  unfold pr_cheats at h
  obtain ⟨a1, -, h⟩ := pr_pers_i h
  have t0 : s ≤ s ∧ s ≤ n := ⟨Int.le_refl s, hs.2⟩
  have t1 := ar_nxm (tp := tp) hs.1 t0
  have t2 := ar_nxm (tp := tp) hs.1 t1
  have t3 := ar_nxm (tp := tp) hs.1 t2
  have t4 := ar_nxm (tp := tp) hs.1 t3
  have t5 := ar_nxm (tp := tp) hs.1 t4
  have t6 := ar_nxm (tp := tp) hs.1 t5
  generalize ar_kp κ (ar_W 32 tp n s) = p at *
  by_cases z : κ 27 p = -1
  · rw [if_pos z] at h
    obtain ⟨a4, h⟩ := pr_whole_i h
    obtain ⟨a5, h⟩ := pr_part_i h
    obtain ⟨a6, h⟩ := pr_part_i h
    cases h
    exact ⟨ar_J_C hj h0 a4 a5 a6, t6⟩
  · rw [if_neg z] at h; cases h
theorem pr_bone_J (hj : ar_J κ) (h0 : κ 11 0 = 1) (h5 : κ 5 0 < 5) (hs : 0 ≤ s ∧ s ≤ n) (h : pr_bone tp n κ s = .inr (κ', s')) : ar_J κ' ∧ s ≤ s' ∧ s' ≤ n := by
  unfold pr_bone at h
  obtain ⟨a1, a2, h⟩ := pr_new_i h
  obtain ⟨a3, h⟩ := pr_kind_i h
  have a3' := ar_kd_2 (tp := tp) (n := n) (s := ac_nx tp n s) (A := ac_tx14) (B := ac_tx15) (C := ac_tx16)
  obtain ⟨a4, h⟩ := pr_part_i h
  obtain ⟨a5, h⟩ := pr_word_i h
  have t0 : s ≤ s ∧ s ≤ n := ⟨Int.le_refl s, hs.2⟩
  have t1 := ar_nxm (tp := tp) hs.1 t0
  have t2 := ar_nxm (tp := tp) hs.1 t1
  have t3 := ar_nxm (tp := tp) hs.1 t2
  have t4 := ar_nxm (tp := tp) hs.1 t3
  have t5 := ar_nxm (tp := tp) hs.1 t4
  obtain ⟨κ1, i, s5, h, i1, i2, i3, i4⟩ := pr_arm_i 7 κ 0 _ _ (by omega) ⟨by omega, t5.2⟩ h
  by_cases z : i < 2
  · rw [if_pos z] at h; cases h
  · rw [if_neg z] at h
    obtain ⟨a6, h⟩ := pr_word_i h
    have t6 := ar_nxm (tp := tp) (s := s) (t := s5) hs.1 ⟨by omega, i2.2⟩
    obtain ⟨κ2, j, s7, h, k1, k2, k3, k4⟩ := pr_arm_i 7 (ar_up κ1 14 (2 * κ 5 0) i) 0 _ _ (by omega) ⟨by omega, t6.2⟩ h
    by_cases y : j < 2
    · rw [if_pos y] at h; cases h
    · rw [if_neg y] at h
      cases h
      refine ⟨ar_J_B hj h0 h5 ⟨fun g g1 g2 => ?_, fun t t1 => ?_, fun t t1 => ?_⟩ ?_ (ac_kwd_ok (q := 27) (ar_nm2 a1) hs.1).1 a2 ⟨a3.1, a3'⟩ a4, by omega, k2.2⟩
      · rw [ar_up_f g1]
        funext k
        rw [k3 g k (by omega), ar_up_f g1, i3 g k (by omega)]
      · rw [ar_up_i (by omega), k3 14 t (by omega), ar_up_i (by omega), i3 14 t (by omega)]
      · rw [ar_up_f (by omega), k3 15 t (by omega), ar_up_f (by omega), i3 15 t (by omega)]
      · intro arm ha
        unfold ar_Ba
        rcases ha with rfl | rfl
        · rw [Int.add_zero]
          have e : ar_up κ2 14 (2 * κ 5 0 + 1) j 14 (2 * κ 5 0) = i := by rw [ar_up_i (by omega), k3 14 _ (by omega), ar_up_e]
          rw [e]
          refine ⟨by omega, fun t q1 q2 => ?_⟩
          rw [ar_up_f (by omega), k3 15 _ (by omega), ar_up_f (by omega)]
          exact i4 t q1 q2
        · have e : ar_up κ2 14 (2 * κ 5 0 + 1) j 14 (2 * κ 5 0 + 1) = j := ar_up_e
          rw [e]
          refine ⟨by omega, fun t q1 q2 => ?_⟩
          rw [ar_up_f (by omega)]
          exact k4 t q1 q2
theorem pr_line_J (hj : ar_J κ) (hs : 0 ≤ s ∧ s ≤ n) (h : pr_line tp n κ s = .inr (κ', s')) : ar_J κ' ∧ s ≤ s' ∧ s' ≤ n := by
  have nb := ac_nx_b (tp := tp) hs
  have fin : (ar_J κ' ∧ ac_nx tp n s ≤ s' ∧ s' ≤ n) → ar_J κ' ∧ s ≤ s' ∧ s' ≤ n := fun u => ⟨u.1, by omega, u.2.2⟩
  have nb' : 0 ≤ ac_nx tp n s ∧ ac_nx tp n s ≤ n := ⟨by omega, nb.2⟩
  unfold pr_line at h
  by_cases z0 : ac_isw tp n s ac_tx0
  · rw [if_pos z0] at h
    by_cases y : κ 11 0 = 1
    · rw [if_pos y] at h; cases h
    · rw [if_neg y] at h; exact fin (pr_rules_J hj nb' h)
  · rw [if_neg z0] at h
    by_cases z1 : ac_isw tp n s ac_tx6
    · rw [if_pos z1] at h
      obtain ⟨c1, c2, h⟩ := pr_enter_i h
      exact fin (pr_bone_J hj c1 c2 nb' h)
    · rw [if_neg z1] at h
      by_cases z2 : ac_isw tp n s ac_tx7
      · rw [if_pos z2] at h
        obtain ⟨c1, c2, h⟩ := pr_enter_i h
        exact fin (pr_person_J hj c1 c2 nb' h)
      · rw [if_neg z2] at h
        by_cases z3 : ac_isw tp n s ac_tx8
        · rw [if_pos z3] at h
          obtain ⟨c1, c2, h⟩ := pr_enter_i h
          exact fin (pr_for_J hj c1 c2 nb' h)
        · rw [if_neg z3] at h
          by_cases z4 : ac_isw tp n s ac_tx9
          · rw [if_pos z4] at h
            obtain ⟨c1, c2, h⟩ := pr_enter_i h
            exact fin (pr_won_J hj c1 c2 nb' h)
          · rw [if_neg z4] at h
            by_cases z5 : ac_isw tp n s ac_tx10
            · rw [if_pos z5] at h
              obtain ⟨c1, c2, h⟩ := pr_enter_i h
              exact fin (pr_piece_J hj c1 c2 nb' h)
            · rw [if_neg z5] at h
              by_cases z6 : ac_isw tp n s ac_tx11
              · rw [if_pos z6] at h
                obtain ⟨c1, c2, h⟩ := pr_enter_i h
                exact fin (pr_cheats_J hj c1 nb' h)
              · rw [if_neg z6] at h; cases h
end
