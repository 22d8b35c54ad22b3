/-! STATES: become -/
def ac_so (S : Int) : Prop := S = 31 ∨ ∃ i : Nat, i < 19 ∧ S = 39 + 5 * (i : Int)
def ac_StG (σ : ab_S) (S : Int) : Prop := (31 ≤ S ∧ S ≤ 129) ∧ ab_sh σ S = (9, 0) ∧ ab_sh σ (S + 1) = (21, 5) ∧ ab_sh σ (S + 2) = (21, 5) ∧ ab_sh σ (S + 3) = (24, 5) ∧ ab_sh σ (S + 4) = (21, 6) ∧ ab_rd σ S 0 = S + 1 ∧ ab_rd σ S 1 = S + 2 ∧ ab_rd σ S 2 = S + 3 ∧ ab_rd σ S 3 = S + 4
theorem ac_soT : ∀ i : Fin 19, ab_shT (39 + 5 * (i.val : Int)) = (9, 0) ∧ ab_shT (39 + 5 * (i.val : Int) + 1) = (21, 5) ∧ ab_shT (39 + 5 * (i.val : Int) + 2) = (21, 5) ∧ ab_shT (39 + 5 * (i.val : Int) + 3) = (24, 5) ∧ ab_shT (39 + 5 * (i.val : Int) + 4) = (21, 6) ∧ ab_pt (39 + 5 * (i.val : Int)) 0 = 39 + 5 * (i.val : Int) + 1 ∧ ab_pt (39 + 5 * (i.val : Int)) 1 = 39 + 5 * (i.val : Int) + 2 ∧ ab_pt (39 + 5 * (i.val : Int)) 2 = 39 + 5 * (i.val : Int) + 3 ∧ ab_pt (39 + 5 * (i.val : Int)) 3 = 39 + 5 * (i.val : Int) + 4 := by decide +kernel
theorem ac_soP : ∀ i : Fin 19, ab_pt (39 + 5 * (i.val : Int)) 4 = 0 ∧ ab_ptL.getD (39 + 5 * (i.val : Int) + 1).toNat [] = [] ∧ ab_ptL.getD (39 + 5 * (i.val : Int) + 2).toNat [] = [] ∧ ab_ptL.getD (39 + 5 * (i.val : Int) + 3).toNat [] = [] ∧ ab_ptL.getD (39 + 5 * (i.val : Int) + 4).toNat [] = [] := by decide +kernel
theorem ac_soR : (∀ i : Fin 16, ab_pt 37 i.val = 39 + 5 * (i.val : Int)) ∧ ∀ i : Fin 3, ab_pt 38 i.val = 119 + 5 * (i.val : Int) := by decide +kernel
theorem ab_Geo.st {σ : ab_S} {S : Int} (h : ab_Geo σ) (hS : ac_so S) : ac_StG σ S := by
  rcases hS with rfl | ⟨i, hi, rfl⟩
  · exact ⟨by omega, gS_31 h, gS_32 h, gS_33 h, gS_34 h, gS_35 h, gP_31_0 h, gP_31_1 h, gP_31_2 h, gP_31_3 h⟩
  · have t := ac_soT ⟨i, hi⟩
    dsimp only at t
    obtain ⟨t0, t1, t2, t3, t4, p0, p1, p2, p3⟩ := t
    refine ⟨by omega, ?_, ?_, ?_, ?_, ?_, ?_, ?_, ?_, ?_⟩
    · rw [h.2.1 _ (by omega) (by omega), t0]
    · rw [h.2.1 _ (by omega) (by omega), t1]
    · rw [h.2.1 _ (by omega) (by omega), t2]
    · rw [h.2.1 _ (by omega) (by omega), t3]
    · rw [h.2.1 _ (by omega) (by omega), t4]
    · rw [h.2.2 _ _ (by omega) (by omega) (by omega) (by rw [p0]; omega), p0]
    · rw [h.2.2 _ _ (by omega) (by omega) (by omega) (by rw [p1]; omega), p1]
    · rw [h.2.2 _ _ (by omega) (by omega) (by omega) (by rw [p2]; omega), p2]
    · rw [h.2.2 _ _ (by omega) (by omega) (by omega) (by rw [p3]; omega), p3]
theorem ab_Geo.ring {σ : ab_S} {i : Int} (h : ab_Geo σ) (hi : 0 ≤ i ∧ i < 16) : ab_rd σ 37 i = 39 + 5 * i ∧ ac_so (39 + 5 * i) := by
  have t := ac_soR.1 ⟨i.toNat, by omega⟩
  dsimp only at t
  rw [Int.toNat_of_nonneg hi.1] at t
  exact ⟨by rw [h.2.2 _ _ (by omega) (by omega) (by omega) (by rw [t]; omega), t], Or.inr ⟨i.toNat, by omega, by omega⟩⟩
theorem ab_Geo.mrk {σ : ab_S} {i : Int} (h : ab_Geo σ) (hi : 0 ≤ i ∧ i < 3) : ab_rd σ 38 i = 119 + 5 * i ∧ ac_so (119 + 5 * i) := by
  have t := ac_soR.2 ⟨i.toNat, by omega⟩
  dsimp only at t
  rw [Int.toNat_of_nonneg hi.1] at t
  exact ⟨by rw [h.2.2 _ _ (by omega) (by omega) (by omega) (by rw [t]; omega), t], Or.inr ⟨16 + i.toNat, by omega, by omega⟩⟩
/-- the cells of a state -/
def ac_PS (S : Int) : Int → Int → Prop := fun a f => (a = S ∧ f = 4) ∨ (S + 1 ≤ a ∧ a ≤ S + 4)
theorem ac_PS_pt {S : Int} (hS : ac_so S) : ∀ a f, 0 ≤ a → a ≤ 368 → 0 ≤ f → ac_PS S a f → ab_pt a f = 0 := by
  intro a f h1 h2 h3 hp
  rcases hS with rfl | ⟨i, hi, rfl⟩
  · rcases hp with ⟨rfl, rfl⟩ | hp
    · decide
    · have : a = 32 ∨ a = 33 ∨ a = 34 ∨ a = 35 := by omega
      rcases this with rfl | rfl | rfl | rfl <;> exact ab_pt_nil rfl
  · have t := ac_soP ⟨i, hi⟩
    dsimp only at t
    obtain ⟨t0, t1, t2, t3, t4⟩ := t
    rcases hp with ⟨rfl, rfl⟩ | hp
    · exact t0
    · have : a = 39 + 5 * (i : Int) + 1 ∨ a = 39 + 5 * (i : Int) + 2 ∨ a = 39 + 5 * (i : Int) + 3 ∨ a = 39 + 5 * (i : Int) + 4 := by omega
      rcases this with rfl | rfl | rfl | rfl
      · exact ab_pt_nil t1
      · exact ab_pt_nil t2
      · exact ab_pt_nil t3
      · exact ab_pt_nil t4
section
variable {X : ab_X} {σ τ υ : ab_S} {Q : Option ab_V → ab_S → Prop} {S O i x y : Int} {κ : ac_K} {v : Int → Int} {P : Int → Int → Prop}
def ac_f3 (σ : ab_S) (S O i : Int) : ab_S := ab_fl (ab_fl (ab_fl σ (S + 1) i (ab_rd σ (O + 1))) (S + 2) i (ab_rd σ (O + 2))) (S + 3) i (ab_rd σ (O + 3))
theorem ac_f3_rd : ab_rd (ac_f3 σ S O i) x y = if x = S + 3 ∧ 0 ≤ y ∧ y < i then ab_rd σ (O + 3) y else if x = S + 2 ∧ 0 ≤ y ∧ y < i then ab_rd σ (O + 2) y else if x = S + 1 ∧ 0 ≤ y ∧ y < i then ab_rd σ (O + 1) y else ab_rd σ x y := rfl
theorem ac_f3_ne (h : x < S + 1 ∨ S + 3 < x) : ab_rd (ac_f3 σ S O i) x y = ab_rd σ x y := by rw [ac_f3_rd, if_neg (by omega), if_neg (by omega), if_neg (by omega)]
theorem ac_f3_sh : ab_sh (ac_f3 σ S O i) x = ab_sh σ x := rfl
theorem ac_f3_0 : ac_f3 σ S O 0 = σ := by
  unfold ac_f3
  rw [ab_fl0 (Int.le_refl 0), ab_fl0 (Int.le_refl 0), ab_fl0 (Int.le_refl 0)]
theorem ac_f3_succ (h : 0 ≤ i) : ab_wr (ab_wr (ab_wr (ac_f3 σ S O i) (S + 1) i (ab_rd σ (O + 1) i)) (S + 2) i (ab_rd σ (O + 2) i)) (S + 3) i (ab_rd σ (O + 3) i) = ac_f3 σ S O (i + 1) := ab_sext rfl (fun _ => rfl) (fun x y => by
  rw [ab_rdw, ab_rdw, ab_rdw, ac_f3_rd, ac_f3_rd]
  by_cases h3 : x = S + 3
  · by_cases e : y = i
    · subst e; rw [if_pos ⟨h3, rfl⟩, if_pos (by omega)]
    · rw [if_neg (by omega), if_neg (by omega), if_neg (by omega)]
      by_cases z : 0 ≤ y ∧ y < i
      · rw [if_pos (by omega), if_pos (by omega)]
      · rw [if_neg (by omega), if_neg (by omega), if_neg (by omega), if_neg (by omega), if_neg (by omega), if_neg (by omega)]
  · by_cases h2 : x = S + 2
    · by_cases e : y = i
      · subst e; rw [if_neg (by omega), if_pos ⟨h2, rfl⟩, if_neg (by omega), if_pos (by omega)]
      · rw [if_neg (by omega), if_neg (by omega), if_neg (by omega)]
        by_cases z : 0 ≤ y ∧ y < i
        · rw [if_neg (by omega), if_pos (by omega), if_neg (by omega), if_pos (by omega)]
        · rw [if_neg (by omega), if_neg (by omega), if_neg (by omega), if_neg (by omega), if_neg (by omega), if_neg (by omega)]
    · by_cases h1 : x = S + 1
      · by_cases e : y = i
        · subst e; rw [if_neg (by omega), if_neg (by omega), if_pos ⟨h1, rfl⟩, if_neg (by omega), if_neg (by omega), if_pos (by omega)]
        · rw [if_neg (by omega), if_neg (by omega), if_neg (by omega)]
          by_cases z : 0 ≤ y ∧ y < i
          · rw [if_neg (by omega), if_neg (by omega), if_pos (by omega), if_neg (by omega), if_neg (by omega), if_pos (by omega)]
          · rw [if_neg (by omega), if_neg (by omega), if_neg (by omega), if_neg (by omega), if_neg (by omega), if_neg (by omega)]
      · rw [if_neg (by omega), if_neg (by omega), if_neg (by omega), if_neg (by omega), if_neg (by omega), if_neg (by omega), if_neg (by omega), if_neg (by omega), if_neg (by omega)])
/-- nothing gone but 0, 1 -/
def ac_GZ (σ : ab_S) (S : Int) : Prop := ∀ k, 0 ≤ k → k < 5 → ab_rd σ (S + 3) k = 0 ∨ ab_rd σ (S + 3) k = 1
def ac_bc (σ : ab_S) (S O : Int) : ab_S := ab_wr (ab_fl (ac_f3 σ S O 5) (S + 4) 6 (ab_rd σ (O + 4))) S 4 (ab_rd σ O 4)
theorem sp_become_2 (hS : ac_StG σ S) (hO : ac_StG σ O) (hd : S + 4 < O ∨ O + 4 < S) : ∀ (n : Nat) (i : Int), 0 ≤ i → i + n = 6 → (ab_Run X 63 51 (0, 0, 0) [ab_R S, ab_R O, ab_I i] [] (ab_fl (ac_f3 σ S O 5) (S + 4) i (ab_rd σ (O + 4))) Q ↔ Q none (ac_bc σ S O)) := by
  obtain ⟨z, s0, s1, s2, s3, s4, p0, p1, p2, p3⟩ := hS
  obtain ⟨z', t0, t1, t2, t3, t4, q0, q1, q2, q3⟩ := hO
  intro n
  induction n with
  | zero =>
    intro i hi hn
    obtain rfl : i = 6 := by omega
    unfold ac_bc
    rw [rX8_become_51]
    simp (disch := omega) only [rX8_become_52, rX8_become_54, rX8_become_75, rX8_become_76, rX8_become_77, rX8_become_80, rX8_become_83, s0, t0, ac_f3_sh, ac_f3_ne, ne_eq, not_false_eq_true, not_true_eq_false, true_and, and_true, and_self, true_imp_iff, false_imp_iff, imp_self, Bool.not_false, Bool.not_true, reduceCtorEq, ab_isJ, ab_psh, ab_cats, Bool.false_eq_true, if_true, if_false, ab_shf, ab_shw, Int.le_refl, Classical.not_not, Int.zero_add, forall_const, ↓ab_itT, ↓ab_itF, ab_anT, ab_w32_id, ab_rdf_ne, ab_rdw_ne, ab_rdw_eq, ab_rdf_in, ab_td2, ab_tm2]
  | succ n ih =>
    intro i hi hn
    have key := ih (i + 1) (by omega) (by omega)
    rw [← ab_fl_succ hi] at key
    rw [rX8_become_51, ← key]
    simp (disch := omega) only [rX8_become_52, rX8_become_54, rX8_become_57, rX8_become_58, rX8_become_61, rX8_become_62, rX8_become_63, rX8_become_66, rX8_become_67, rX8_become_68, rX8_become_69, rX8_become_72, s0, s4, t0, t4, p3, q3, ac_f3_sh, ac_f3_ne, ne_eq, not_false_eq_true, not_true_eq_false, true_and, and_true, and_self, true_imp_iff, false_imp_iff, imp_self, Bool.not_false, Bool.not_true, reduceCtorEq, ab_isJ, ab_psh, ab_cats, Bool.false_eq_true, if_true, if_false, ab_shf, ab_shw, Int.le_refl, Classical.not_not, Int.zero_add, forall_const, ↓ab_itT, ↓ab_itF, ab_anT, ab_w32_id, ab_rdf_ne, ab_rdw_ne, ab_rdw_eq, ab_rdf_in, ab_td2, ab_tm2]
theorem sp_become_1 (hS : ac_StG σ S) (hO : ac_StG σ O) (hd : S + 4 < O ∨ O + 4 < S) (hz : ac_GZ σ O) : ∀ (n : Nat) (i : Int), 0 ≤ i → i + n = 5 → (ab_Run X 63 2 (0, 0, 0) [ab_R S, ab_R O, ab_I i] [] (ac_f3 σ S O i) Q ↔ Q none (ac_bc σ S O)) := by
  have B := sp_become_2 (X := X) (Q := Q) hS hO hd 6 0 (by omega) (by omega)
  rw [ab_fl0 (Int.le_refl 0)] at B
  obtain ⟨z, s0, s1, s2, s3, s4, p0, p1, p2, p3⟩ := hS
  obtain ⟨z', t0, t1, t2, t3, t4, q0, q1, q2, q3⟩ := hO
  intro n
  induction n with
  | zero =>
    intro i hi hn
    obtain rfl : i = 5 := by omega
    rw [rX8_become_2, ← B]
    simp (disch := omega) only [rX8_become_3, rX8_become_4, rX8_become_49, rX8_become_50, ne_eq, not_false_eq_true, not_true_eq_false, true_and, and_true, and_self, true_imp_iff, false_imp_iff, imp_self, Bool.not_false, Bool.not_true, reduceCtorEq, ab_isJ, ab_psh, ab_cats, Bool.false_eq_true, if_true, if_false, ab_shf, ab_shw, Int.le_refl, Classical.not_not, Int.zero_add, forall_const, ↓ab_itT, ↓ab_itF, ab_anT, ab_w32_id, ab_rdf_ne, ab_rdw_ne, ab_rdw_eq, ab_rdf_in, ab_td2, ab_tm2]
  | succ n ih =>
    intro i hi hn
    have key := ih (i + 1) (by omega) (by omega)
    have zi := hz i hi (by omega)
    rw [← ac_f3_succ hi] at key
    rw [rX8_become_2, ← key]
    simp (disch := first | omega | (simp only [ab_shw, ac_f3_sh, s3, true_and, and_true, or_true, true_or, and_self]; omega)) only [rX8_become_3, rX8_become_4, rX8_become_7, rX8_become_8, rX8_become_11, rX8_become_12, rX8_become_13, rX8_become_16, rX8_become_17, rX8_become_18, rX8_become_19, rX8_become_20, rX8_become_23, rX8_become_24, rX8_become_25, rX8_become_28, rX8_become_29, rX8_become_30, rX8_become_31, rX8_become_32, rX8_become_35, rX8_become_36, rX8_become_37, rX8_become_40, rX8_become_41, rX8_become_42B, rX8_become_42Z, rX8_become_43, rX8_become_46, s0, s1, s2, s3, t0, t1, t2, t3, p0, p1, p2, q0, q1, q2, ac_f3_sh, ac_f3_ne, ne_eq, not_false_eq_true, not_true_eq_false, true_and, and_true, and_self, true_imp_iff, false_imp_iff, imp_self, Bool.not_false, Bool.not_true, reduceCtorEq, ab_isJ, ab_psh, ab_cats, Bool.false_eq_true, if_true, if_false, ab_shf, ab_shw, Int.le_refl, Classical.not_not, Int.zero_add, forall_const, ↓ab_itT, ↓ab_itF, ab_anT, ab_w32_id, ab_rdf_ne, ab_rdw_ne, ab_rdw_eq, ab_rdf_in, ab_td2, ab_tm2, or_true, true_or]
theorem sp_become (hg : ab_Geo σ) (hS : ac_so S) (hO : ac_so O) (hne : S ≠ O) (hz : ac_GZ σ O) : ab_Do X 63 [ab_R S, ab_R O] σ Q ↔ Q none (ac_bc σ S O) := by
  have hd : S + 4 < O ∨ O + 4 < S := by
    rcases hS with h1 | ⟨i, h1, h2⟩ <;> rcases hO with h3 | ⟨j, h3, h4⟩ <;> omega
  have A := sp_become_1 (X := X) (Q := Q) (hg.st hS) (hg.st hO) hd hz 5 0 (by omega) (by omega)
  rw [ac_f3_0] at A
  rw [← A]
  simp (disch := omega) only [do_X8_become, rX8_become_0, rX8_become_1, ne_eq, not_false_eq_true, not_true_eq_false, true_and, and_true, and_self, true_imp_iff, false_imp_iff, imp_self, Bool.not_false, Bool.not_true, reduceCtorEq, ab_isJ, ab_psh, ab_cats, Bool.false_eq_true, if_true, if_false, ab_shf, ab_shw, Int.le_refl, Classical.not_not, Int.zero_add, forall_const, ↓ab_itT, ↓ab_itF, ab_anT, ab_w32_id, ab_rdf_ne, ab_rdw_ne, ab_rdw_eq, ab_rdf_in, ab_td2, ab_tm2]
theorem ac_bc_same : ab_Same (ac_PS S) σ (ac_bc σ S O) := by
  unfold ac_bc ac_f3
  exact ((((ab_Same.refl.fl (fun y _ _ => by unfold ac_PS; omega)).fl (fun y _ _ => by unfold ac_PS; omega)).fl (fun y _ _ => by unfold ac_PS; omega)).fl (fun y _ _ => by unfold ac_PS; omega)).wr (by unfold ac_PS; omega)
theorem ac_bc_rd (hd : S + 4 < O ∨ O + 4 < S) : (∀ k, 0 ≤ k → k < 5 → ab_rd (ac_bc σ S O) (S + 1) k = ab_rd σ (O + 1) k ∧ ab_rd (ac_bc σ S O) (S + 2) k = ab_rd σ (O + 2) k ∧ ab_rd (ac_bc σ S O) (S + 3) k = ab_rd σ (O + 3) k) ∧ (∀ k, 0 ≤ k → k < 6 → ab_rd (ac_bc σ S O) (S + 4) k = ab_rd σ (O + 4) k) ∧ ab_rd (ac_bc σ S O) S 4 = ab_rd σ O 4 := by
  unfold ac_bc
  refine ⟨fun k k1 k2 => ⟨?_, ?_, ?_⟩, fun k k1 k2 => ?_, ab_rdw_eq⟩
  · rw [ab_rdw_ne (by omega), ab_rdf_ne (by omega), ac_f3_rd, if_neg (by omega), if_neg (by omega), if_pos (by omega)]
  · rw [ab_rdw_ne (by omega), ab_rdf_ne (by omega), ac_f3_rd, if_neg (by omega), if_pos (by omega)]
  · rw [ab_rdw_ne (by omega), ab_rdf_ne (by omega), ac_f3_rd, if_pos (by omega)]
  · rw [ab_rdw_ne (by omega), ab_rdf_in (by omega)]
theorem ac_bc_St (hd : S + 4 < O ∨ O + 4 < S) (h : ac_St σ O κ v) (hn : κ 5 0 ≤ 5) : ac_St (ac_bc σ S O) S κ v := by
  obtain ⟨r1, r2, r3⟩ := ac_bc_rd (σ := σ) hd
  refine ⟨fun b b1 b2 => ?_, fun p p1 p2 => ?_, ?_⟩
  · obtain ⟨e1, e2, e3⟩ := r1 b b1 (by omega)
    rw [e1, e2, e3]
    exact h.1 b b1 b2
  · rw [r2 p p1 p2]; exact h.2.1 p p1 p2
  · rw [r3]; exact h.2.2
theorem ac_bc_GZ (hd : S + 4 < O ∨ O + 4 < S) (h : ac_GZ σ O) : ac_GZ (ac_bc σ S O) S := fun k k1 k2 => by
  rw [((ac_bc_rd (σ := σ) hd).1 k k1 k2).2.2]
  exact h k k1 k2
theorem ac_St.sameG (h : ac_St σ S κ v) (hn : κ 5 0 ≤ 5) (hs : ab_Same P σ τ) (hp : ∀ a f, ac_PS S a f → ¬ P a f) : ac_St τ S κ v := by
  have e : ∀ a f, ac_PS S a f → ab_rd τ a f = ab_rd σ a f := fun a f w => hs.2.2 a f (hp a f w)
  refine ⟨fun b b1 b2 => ?_, fun p p1 p2 => ?_, ?_⟩
  · rw [e _ _ (by unfold ac_PS; omega), e _ _ (by unfold ac_PS; omega), e _ _ (by unfold ac_PS; omega)]
    exact h.1 b b1 b2
  · rw [e _ _ (by unfold ac_PS; omega)]; exact h.2.1 p p1 p2
  · rw [e _ _ (by unfold ac_PS; omega)]; exact h.2.2
theorem ac_GZ.sameG (h : ac_GZ σ S) (hs : ab_Same P σ τ) (hp : ∀ a f, ac_PS S a f → ¬ P a f) : ac_GZ τ S := fun k k1 k2 => by
  rw [hs.2.2 _ _ (hp _ _ (by unfold ac_PS; omega))]
  exact h k k1 k2
end
