/-! AN ARM -/
def ab_arm (A : Int) : Prop := A = 135 ∨ A = 141 ∨ ∃ i : Nat, i < 24 ∧ A = 181 + 6 * (i : Int)
def ab_ArmG (σ : ab_S) (A : Int) : Prop := (135 ≤ A ∧ A ≤ 319) ∧ ab_sh σ A = (1, 0) ∧ ab_sh σ (A + 1) = (21, 6) ∧ ab_sh σ (A + 2) = (21, 6) ∧ ab_sh σ (A + 3) = (21, 7) ∧ ab_sh σ (A + 4) = (21, 7) ∧ ab_sh σ (A + 5) = (21, 7) ∧ ab_rd σ A 1 = A + 1 ∧ ab_rd σ A 2 = A + 2 ∧ ab_rd σ A 3 = A + 3 ∧ ab_rd σ A 4 = A + 4 ∧ ab_rd σ A 5 = A + 5
theorem ab_armT : ∀ i : Fin 24, ab_shT (181 + 6 * (i.val : Int)) = (1, 0) ∧ ab_shT (181 + 6 * (i.val : Int) + 1) = (21, 6) ∧ ab_shT (181 + 6 * (i.val : Int) + 2) = (21, 6) ∧ ab_shT (181 + 6 * (i.val : Int) + 3) = (21, 7) ∧ ab_shT (181 + 6 * (i.val : Int) + 4) = (21, 7) ∧ ab_shT (181 + 6 * (i.val : Int) + 5) = (21, 7) ∧ ab_pt (181 + 6 * (i.val : Int)) 1 = 181 + 6 * (i.val : Int) + 1 ∧ ab_pt (181 + 6 * (i.val : Int)) 2 = 181 + 6 * (i.val : Int) + 2 ∧ ab_pt (181 + 6 * (i.val : Int)) 3 = 181 + 6 * (i.val : Int) + 3 ∧ ab_pt (181 + 6 * (i.val : Int)) 4 = 181 + 6 * (i.val : Int) + 4 ∧ ab_pt (181 + 6 * (i.val : Int)) 5 = 181 + 6 * (i.val : Int) + 5 := by decide +kernel
theorem ab_armT0 : ∀ i : Fin 24, ab_pt (181 + 6 * (i.val : Int)) 0 = 0 ∧ ab_ptL.getD (181 + 6 * (i.val : Int) + 1).toNat [] = [] ∧ ab_ptL.getD (181 + 6 * (i.val : Int) + 2).toNat [] = [] ∧ ab_ptL.getD (181 + 6 * (i.val : Int) + 3).toNat [] = [] ∧ ab_ptL.getD (181 + 6 * (i.val : Int) + 4).toNat [] = [] ∧ ab_ptL.getD (181 + 6 * (i.val : Int) + 5).toNat [] = [] := by decide +kernel
/-- the cells of an arm that change -/
def ab_PA (A : Int) : Int → Int → Prop := fun a f => (a = A ∧ f = 0) ∨ (A + 1 ≤ a ∧ a ≤ A + 5)
theorem ab_pt_nil {a f : Int} (h : ab_ptL.getD a.toNat [] = []) : ab_pt a f = 0 := by unfold ab_pt; rw [h]; rfl
theorem ab_Geo.arm {σ : ab_S} {A : Int} (h : ab_Geo σ) (ha : ab_arm A) : ab_ArmG σ A := by
  rcases ha with rfl | rfl | ⟨i, hi, rfl⟩
  · exact ⟨by omega, h.2.1 135 (by decide) (by decide), h.2.1 136 (by decide) (by decide), h.2.1 137 (by decide) (by decide), h.2.1 138 (by decide) (by decide), h.2.1 139 (by decide) (by decide), h.2.1 140 (by decide) (by decide), gP_135_1 h, gP_135_2 h, gP_135_3 h, gP_135_4 h, gP_135_5 h⟩
  · exact ⟨by omega, h.2.1 141 (by decide) (by decide), h.2.1 142 (by decide) (by decide), h.2.1 143 (by decide) (by decide), h.2.1 144 (by decide) (by decide), h.2.1 145 (by decide) (by decide), h.2.1 146 (by decide) (by decide), gP_141_1 h, gP_141_2 h, gP_141_3 h, gP_141_4 h, gP_141_5 h⟩
  · have t := ab_armT ⟨i, hi⟩
    dsimp only at t
    obtain ⟨t0, t1, t2, t3, t4, t5, p1, p2, p3, p4, p5⟩ := t
    refine ⟨by omega, ?_, ?_, ?_, ?_, ?_, ?_, ?_, ?_, ?_, ?_, ?_⟩
    · rw [h.2.1 _ (by omega) (by omega), t0]
    · rw [h.2.1 _ (by omega) (by omega), t1]
    · rw [h.2.1 _ (by omega) (by omega), t2]
    · rw [h.2.1 _ (by omega) (by omega), t3]
    · rw [h.2.1 _ (by omega) (by omega), t4]
    · rw [h.2.1 _ (by omega) (by omega), t5]
    · rw [h.2.2 _ _ (by omega) (by omega) (by omega) (by rw [p1]; omega), p1]
    · rw [h.2.2 _ _ (by omega) (by omega) (by omega) (by rw [p2]; omega), p2]
    · rw [h.2.2 _ _ (by omega) (by omega) (by omega) (by rw [p3]; omega), p3]
    · rw [h.2.2 _ _ (by omega) (by omega) (by omega) (by rw [p4]; omega), p4]
    · rw [h.2.2 _ _ (by omega) (by omega) (by omega) (by rw [p5]; omega), p5]
theorem ab_PA_pt {A : Int} (ha : ab_arm A) : ∀ a f, 0 ≤ a → a ≤ 368 → 0 ≤ f → ab_PA A a f → ab_pt a f = 0 := by
  intro a f h1 h2 h3 hp
  rcases ha with rfl | rfl | ⟨i, hi, rfl⟩
  · rcases hp with ⟨rfl, rfl⟩ | hp
    · decide
    · have : a = 136 ∨ a = 137 ∨ a = 138 ∨ a = 139 ∨ a = 140 := by omega
      rcases this with rfl | rfl | rfl | rfl | rfl <;> exact ab_pt_nil rfl
  · rcases hp with ⟨rfl, rfl⟩ | hp
    · decide
    · have : a = 142 ∨ a = 143 ∨ a = 144 ∨ a = 145 ∨ a = 146 := by omega
      rcases this with rfl | rfl | rfl | rfl | rfl <;> exact ab_pt_nil rfl
  · have t := ab_armT0 ⟨i, hi⟩
    dsimp only at t
    obtain ⟨t0, t1, t2, t3, t4, t5⟩ := t
    rcases hp with ⟨rfl, rfl⟩ | hp
    · exact t0
    · have : a = 181 + 6 * (i : Int) + 1 ∨ a = 181 + 6 * (i : Int) + 2 ∨ a = 181 + 6 * (i : Int) + 3 ∨ a = 181 + 6 * (i : Int) + 4 ∨ a = 181 + 6 * (i : Int) + 5 := by omega
      rcases this with rfl | rfl | rfl | rfl | rfl
      · exact ab_pt_nil t1
      · exact ab_pt_nil t2
      · exact ab_pt_nil t3
      · exact ab_pt_nil t4
      · exact ab_pt_nil t5
section
variable {X : ab_X} {σ : ab_S} {Q : Option ab_V → ab_S → Prop} {A : Int}
theorem ab_ArmG.fl {a n : Int} {g : Int → Int} (h : ab_ArmG σ A) (ha : a ≠ A) : ab_ArmG (ab_fl σ a n g) A := by
  unfold ab_ArmG at h ⊢
  rw [ab_rdf_ne (by omega), ab_rdf_ne (by omega), ab_rdf_ne (by omega), ab_rdf_ne (by omega), ab_rdf_ne (by omega)]
  exact h
theorem ab_ArmG.wr {a k v : Int} (h : ab_ArmG σ A) (ha : a ≠ A ∨ k ≤ 0) : ab_ArmG (ab_wr σ a k v) A := by
  unfold ab_ArmG at h ⊢
  rw [ab_rdw_ne (by omega), ab_rdw_ne (by omega), ab_rdw_ne (by omega), ab_rdw_ne (by omega), ab_rdw_ne (by omega)]
  exact h
def ab_stn (force hold jerk : Int) : Int → Int := fun i => if i < hold then force * (hold - i) + jerk else 0
theorem ab_stn_b {force hold jerk i : Int} (h1 : 0 ≤ force ∧ force ≤ 80) (h2 : 0 ≤ hold ∧ hold ≤ 6) (h3 : 0 ≤ jerk ∧ jerk ≤ 99) (hi : 0 ≤ i) : 0 ≤ ab_stn force hold jerk i ∧ ab_stn force hold jerk i ≤ 579 := by
  unfold ab_stn
  by_cases h : i < hold
  · rw [if_pos h]
    have := ab_mulb h1.1 h1.2 (show 0 ≤ hold - i by omega) (show hold - i ≤ 6 by omega)
    omega
  · rw [if_neg h]; omega
theorem sp_setStrain_l {n force hold jerk : Int} (hA : ab_ArmG σ A) (hn : ab_rd σ A 0 = n) (hn6 : n ≤ 6) (h1 : 0 ≤ force ∧ force ≤ 80) (h2 : 0 ≤ hold ∧ hold ≤ 6) (h3 : 0 ≤ jerk ∧ jerk ≤ 99) : ∀ (d : Nat) (i : Int), 0 ≤ i → i + d = n → (ab_Run X 2 3 (0, 0, 0) [ab_R A, ab_I force, ab_I hold, ab_I jerk, ab_I i] [] (ab_fl σ (A + 1) i (ab_stn force hold jerk)) Q ↔ Q none (ab_fl σ (A + 1) n (ab_stn force hold jerk))) := by
  intro d
  have hA' := hA
  obtain ⟨hb, s0, s1, s2, s3, s4, s5, p1, p2, p3, p4, p5⟩ := hA
  induction d with
  | zero =>
    intro i hi hd
    have e : i = n := by omega
    subst e
    have hz : A ≠ 0 := by omega
    have hr : ab_rd (ab_fl σ (A + 1) i (ab_stn force hold jerk)) A 0 = i := by rw [ab_rdf_ne (by omega), hn]
    rw [rX0_setStrain_3]
    simp only [rX0_setStrain_5, rX0_setStrain_6, rX0_setStrain_9, rX0_setStrain_43, hr, s0, ab_shf, ne_eq, hz, not_false_eq_true, true_and, Int.le_refl, true_imp_iff, not_true_eq_false, false_imp_iff, and_true]
  | succ d ih =>
    intro i hi hd
    have hz : A ≠ 0 := by omega
    have hr : ab_rd (ab_fl σ (A + 1) i (ab_stn force hold jerk)) A 0 = n := by rw [ab_rdf_ne (by omega), hn]
    have hr1 : ab_rd (ab_fl σ (A + 1) i (ab_stn force hold jerk)) A 1 = A + 1 := by rw [ab_rdf_ne (by omega), p1]
    have c1 : ¬ n ≤ i := by omega
    have c2 : i < 6 := by omega
    have m := ab_mulb h1.1 h1.2 (show 0 ≤ (if i < hold then hold - i else 0) by split <;> omega) (show (if i < hold then hold - i else 0) ≤ 6 by split <;> omega)
    have e1 : ab_w32 (i + 1) = i + 1 := ab_w32_id (by omega) (by omega)
    have key := ih (i + 1) (by omega) (by omega)
    rw [← ab_fl_succ hi] at key
    by_cases h : i < hold
    · rw [if_pos h] at m
      have e2 : ab_w32 (hold - i) = hold - i := ab_w32_id (by omega) (by omega)
      have e3 : ab_w32 (force * (hold - i)) = force * (hold - i) := ab_w32_id (by omega) (by omega)
      have e4 : ab_w32 (force * (hold - i) + jerk) = ab_stn force hold jerk i := by rw [ab_stn, if_pos h]; exact ab_w32_id (by omega) (by omega)
      have c3 : ¬ hold ≤ i := by omega
      rw [rX0_setStrain_3]
      simp only [rX0_setStrain_5, rX0_setStrain_6, rX0_setStrain_9, rX0_setStrain_12, rX0_setStrain_13, rX0_setStrain_16, rX0_setStrain_18, rX0_setStrain_20, rX0_setStrain_21, rX0_setStrain_24, rX0_setStrain_25, rX0_setStrain_26, rX0_setStrain_28, rX0_setStrain_29, rX0_setStrain_30, rX0_setStrain_31, rX0_setStrain_32, rX0_setStrain_35, rX0_setStrain_36, rX0_setStrain_37, rX0_setStrain_40, hr, hr1, s0, s1, ab_shf, ne_eq, hz, not_false_eq_true, true_and, c1, c2, c3, hi, false_imp_iff, true_imp_iff, e1, e2, e3, e4, key, ab_isJ, Bool.not_false, and_self]
    · have e4 : (0 : Int) = ab_stn force hold jerk i := by rw [ab_stn, if_neg h]
      have c3 : hold ≤ i := by omega
      rw [← e4] at key
      rw [rX0_setStrain_3]
      simp only [rX0_setStrain_5, rX0_setStrain_6, rX0_setStrain_9, rX0_setStrain_12, rX0_setStrain_13, rX0_setStrain_16, rX0_setStrain_18, rX0_setStrain_20, rX0_setStrain_21, rX0_setStrain_24, rX0_setStrain_25, rX0_setStrain_26, rX0_setStrain_28, rX0_setStrain_29, rX0_setStrain_30, rX0_setStrain_31, rX0_setStrain_32, rX0_setStrain_35, rX0_setStrain_36, rX0_setStrain_37, rX0_setStrain_40, hr, hr1, s0, s1, ab_shf, ne_eq, hz, not_false_eq_true, true_and, c1, c2, c3, hi, not_true_eq_false, false_imp_iff, true_imp_iff, and_true, e1, key, ab_isJ, Bool.not_false, and_self]
theorem sp_setStrain {n force hold jerk : Int} (hA : ab_ArmG σ A) (hn : ab_rd σ A 0 = n) (hn6 : 0 ≤ n ∧ n ≤ 6) (h1 : 0 ≤ force ∧ force ≤ 80) (h2 : 0 ≤ hold ∧ hold ≤ 6) (h3 : 0 ≤ jerk ∧ jerk ≤ 99) : ab_Do X 2 [ab_R A, ab_I force, ab_I hold, ab_I jerk] σ Q ↔ Q none (ab_fl σ (A + 1) n (ab_stn force hold jerk)) := by
  have := sp_setStrain_l (X := X) (Q := Q) hA hn hn6.2 h1 h2 h3 n.toNat 0 (by omega) (by omega)
  rw [ab_fl0 (Int.le_refl 0)] at this
  rw [← this]
  simp only [do_X0_setStrain, rX0_setStrain_0, rX0_setStrain_1, ab_isJ, Bool.not_false, true_and]
end
