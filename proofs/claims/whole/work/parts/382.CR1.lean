/-! READER of the class: the fresh kitchen, finding, names -/
/-- cells of a kitchen of the class that a reading changes -/
def ar_PK (K : Int) : Int → Int → Prop := fun a f => (a = K ∧ ((0 ≤ f ∧ f ≤ 5) ∨ f = 7 ∨ (9 ≤ f ∧ f ≤ 12))) ∨ a = K + 3 ∨ a = K + 4 ∨ (K + 5 ≤ a ∧ a ≤ K + 19 ∧ ((a - K - 5) % 3 = 0 → f ≤ 2)) ∨ (K + 20 ≤ a ∧ a ≤ K + 25)
def ar_PL (K : Int) : Int → Int → Prop := fun a f => ac_PR a f ∨ (a = 2 ∧ f = 4) ∨ ar_PK K a f
theorem ar_ptT : (∀ a : Fin 26, ∀ f : Fin 15, (a.val = 0 ∧ (f.val ≤ 5 ∨ f.val = 7 ∨ (9 ≤ f.val ∧ f.val ≤ 12))) ∨ a.val = 3 ∨ a.val = 4 ∨ (5 ≤ a.val ∧ a.val ≤ 19 ∧ ((a.val - 5) % 3 = 0 → f.val ≤ 2)) ∨ 20 ≤ a.val → (ab_ptL.getD (5 + a.val) []).getD f.val 0 = 0 ∧ (ab_ptL.getD (329 + a.val) []).getD f.val 0 = 0) ∧ (∀ a : Fin 26, (ab_ptL.getD (5 + a.val) []).length ≤ 15 ∧ (ab_ptL.getD (329 + a.val) []).length ≤ 15) := by decide +kernel
theorem ar_PK_pt {K : Int} (hK : ac_kit K) : ∀ a f, 0 ≤ a → a ≤ 368 → 0 ≤ f → ar_PK K a f → ab_pt a f = 0 := by
  intro a f h1 h2 h3 hp
  have hv : K = 5 ∨ K = 329 := hK
  have hr : K ≤ a ∧ a ≤ K + 25 := by unfold ar_PK at hp; omega
  have tl := ar_ptT.2 ⟨(a - K).toNat, by omega⟩
  unfold ab_pt
  dsimp only at tl
  by_cases hf : f < 15
  · have t := ar_ptT.1 ⟨(a - K).toNat, by omega⟩ ⟨f.toNat, by omega⟩ (by dsimp only; unfold ar_PK at hp; omega)
    dsimp only at t
    rcases hv with e | e
    · rw [show a.toNat = 5 + (a - K).toNat by omega]; exact t.1
    · rw [show a.toNat = 329 + (a - K).toNat by omega]; exact t.2
  · rcases hv with e | e
    · rw [show a.toNat = 5 + (a - K).toNat by omega]; exact ac_getD_ge (by omega)
    · rw [show a.toNat = 329 + (a - K).toNat by omega]; exact ac_getD_ge (by omega)
theorem ar_PL_pt {K : Int} (hK : ac_kit K) : ∀ a f, 0 ≤ a → a ≤ 368 → 0 ≤ f → ar_PL K a f → ab_pt a f = 0 := by
  intro a f h1 h2 h3 hp
  rcases hp with hp | ⟨rfl, rfl⟩ | hp
  · exact ac_PR_pt a f h1 h2 h3 hp
  · decide +kernel
  · exact ar_PK_pt hK a f h1 h2 h3 hp
/-- the fresh kitchen K holds κ -/
def ar_KF (σ : ab_S) (K : Int) (κ : ac_K) : Prop := ac_kit K ∧ ab_rd σ 2 1 = K ∧ ab_rd σ 2 4 = κ 11 0 ∧ (κ 11 0 = 1 → ac_KCr σ K κ) ∧ ac_KC0 σ K κ ∧ (∀ b, 0 ≤ b → b < κ 5 0 → ac_KCb σ K κ b ∧ ab_rd σ (K + 5 + 3 * b) 0 = κ 33 b) ∧ (∀ p, 0 ≤ p → p < κ 6 0 → ac_KCp σ K κ p ∧ ab_rd σ (K + 20 + p) 0 = κ 34 p) ∧ (∀ i, 0 ≤ i → i < κ 9 0 → ab_rd σ (K + 3) i = κ 25 i ∧ ab_rd σ (K + 4) i = κ 26 i)
section
variable {X : ab_X} {σ τ υ : ab_S} {Q : Option ab_V → ab_S → Prop} {n p s x y t i ln a b c d f g k q lo hi K v w o told most : Int} {tp : Int → Int} {T A B C D : List Int} {κ κ' : ac_K} {r : ar_R} {P : Int → Int → Prop}
theorem ab_Same.wr2 (h : ab_Same P σ τ) : ab_Same P (ab_wr σ a f v) (ab_wr τ a f v) := ⟨h.1, h.2.1, fun x y q => by
  rw [ab_rdw, ab_rdw]
  by_cases z : x = a ∧ y = f
  · rw [if_pos z, if_pos z]
  · rw [if_neg z, if_neg z]; exact h.2.2 x y q⟩
theorem ar_KF.same (h : ar_KF σ K κ) (hs : ab_Same ac_PR σ τ) : ar_KF τ K κ := by
  obtain ⟨hK, k1, k4, hr, hz, hb, hp, hi⟩ := h
  have hv : K = 5 ∨ K = 329 := hK
  have e : ∀ a f, a ≠ 2 → a ≠ 3 → ab_rd τ a f = ab_rd σ a f := fun a f h1 h2 => hs.2.2 a f (by unfold ac_PR ac_PK9; omega)
  have eK : ∀ f, ab_rd τ K f = ab_rd σ K f := fun f => e _ _ (by omega) (by omega)
  refine ⟨hK, by rw [hs.2.2 2 1 (by unfold ac_PR ac_PK9; omega), k1], by rw [hs.2.2 2 4 (by unfold ac_PR ac_PK9; omega), k4], fun u => ?_, ?_, ?_, ?_, ?_⟩
  · unfold ac_KCr
    rw [eK, eK, eK, eK, eK]
    exact hr u
  · unfold ac_KC0
    rw [eK, eK, eK, eK, eK, eK]
    exact hz
  · intro b b1 b2
    obtain ⟨⟨q1, q2, q3⟩, q4⟩ := hb b b1 b2
    refine ⟨⟨?_, ?_, fun arm ha => ⟨?_, fun i i1 i2 => ?_⟩⟩, ?_⟩
    · rw [e _ _ (by omega) (by omega), q1]
    · rw [e _ _ (by omega) (by omega), q2]
    · rw [e _ _ (by omega) (by omega), (q3 arm ha).1]
    · rw [e _ _ (by omega) (by omega), (q3 arm ha).2 i i1 i2]
    · rw [e _ _ (by omega) (by omega), q4]
  · intro p p1 p2
    have e' : ∀ f, ab_rd τ (K + 20 + p) f = ab_rd σ (K + 20 + p) f := fun f => e _ _ (by omega) (by omega)
    unfold ac_KCp
    rw [e', e', e', e', e', e', e', e', e', e', e', e']
    exact hp p p1 p2
  · intro i i1 i2
    rw [e _ _ (by omega) (by omega), e _ _ (by omega) (by omega)]
    exact hi i i1 i2
theorem ac_RC.geo (h : ac_RC σ n tp s) : ab_Geo σ := h.1.1
/-- writes to the fresh kitchen leave the tape -/
theorem ac_RC.wrK (h : ac_RC σ n tp s) (hp : (a = 2 ∧ f = 4) ∨ (ac_kit K ∧ ar_PK K a f)) : ac_RC (ab_wr σ a f v) n tp s := by
  obtain ⟨⟨h1, h2, h3, h4⟩, ⟨k1, k2, k3, k4, k5⟩, h5a, h5b, h6⟩ := h
  have ha : a ≠ 3 ∧ a ≠ 4 := by
    rcases hp with hp | ⟨hK, hp⟩
    · omega
    · have hv : K = 5 ∨ K = 329 := hK
      unfold ar_PK at hp; omega
  have e22 : (2 : Int) ≠ a ∨ (2 : Int) ≠ f := by
    rcases hp with hp | ⟨hK, hp⟩
    · omega
    · have hv : K = 5 ∨ K = 329 := hK
      unfold ar_PK at hp; omega
  have e : ∀ x y, x = 3 ∨ x = 4 → ab_rd (ab_wr σ a f v) x y = ab_rd σ x y := fun x y u => ab_rdw_ne (by omega)
  have hs : ab_Same (fun x y => x = a ∧ y = f) σ (ab_wr σ a f v) := ab_Same.refl.wr ⟨rfl, rfl⟩
  have g : ab_Geo (ab_wr σ a f v) := h1.same hs (fun x y x1 x2 x3 u => by
    rw [u.1, u.2]
    rcases hp with ⟨rfl, rfl⟩ | ⟨hK, hp⟩
    · decide +kernel
    · exact ar_PK_pt hK a f (by omega) (by omega) (by omega) hp)
  exact ⟨⟨g, by rw [e 3 7 (by omega), h2], h3, fun i i1 i2 => by rw [e 4 i (by omega)]; exact h4 i i1 i2⟩, ⟨by rw [e 3 2 (by omega), k1], by rw [e 3 3 (by omega), k2], by rw [e 3 6 (by omega), k3], fun u => by rw [e 3 4 (by omega), k4 u], fun u => by rw [e 3 5 (by omega), k5 u]⟩, h5a, h5b, by rw [ab_rdw_ne e22, h6]⟩
theorem ab_Same.rl (h : ab_Same ac_PR σ τ) : ab_Same (ar_PL K) σ τ := h.mono (fun _ _ u => Or.inl u)
theorem ab_Same.kr (h : ab_Same ac_PK9 σ τ) : ab_Same ac_PR σ τ := h.mono (fun _ _ u => Or.inl u)
theorem sp_findPerson_l (hg : ab_Geo σ) (hk : ar_KF σ K κ) (hn : ac_KN κ) : ∀ (m : Nat) (i : Int), 0 ≤ i → i + m = κ 6 0 → (ab_Run X 29 2 (0, 0, 0) [ab_R K, ab_J w, ab_R 0, ab_I i] [] σ Q ↔ Q (some (ab_I (ar_fi (κ 34) w m i))) σ) := by
  have hK := hk.1
  have hv : K = 5 ∨ K = 329 := hK
  obtain ⟨s0, s1, s2, s3, s4, p6, p8, -, -⟩ := hg.kit hK
  have c7 := hk.2.2.2.2.1.2.1
  have n6 := hn.2.1
  intro m
  induction m with
  | zero =>
    intro i hi hm
    unfold ar_fi
    rw [rX4_findPerson_2]
    simp (disch := omega) only [rX4_findPerson_3, rX4_findPerson_4, rX4_findPerson_7, rX4_findPerson_32, rX4_findPerson_33, s0, c7, ne_eq, not_false_eq_true, not_true_eq_false, true_and, and_true, and_self, true_imp_iff, false_imp_iff, imp_self, Bool.not_false, Bool.not_true, reduceCtorEq, ab_isJ, ab_psh, ab_cats, Bool.false_eq_true, if_true, if_false, ab_shf, ab_shw, Int.le_refl, Classical.not_not, Int.zero_add, forall_const, ↓ab_itT, ↓ab_itF, ab_anT, ab_w32_id, ab_rdf_ne, ab_rdw_ne, ab_rdw_eq, ab_rdf_in, ab_td2, ab_tm2]
  | succ m ih =>
    intro i hi hm
    have key := ih (i + 1) (by omega) (by omega)
    have gP := hg.pers hK hi (by omega)
    have nm := (hk.2.2.2.2.2.2.1 i hi (by omega)).2
    unfold ar_fi
    rw [rX4_findPerson_2]
    by_cases z : κ 34 i = w
    · rw [if_pos z]
      clear ih key
      simp (disch := omega) only [rX4_findPerson_3, rX4_findPerson_4, rX4_findPerson_7, rX4_findPerson_10, rX4_findPerson_11, rX4_findPerson_14, rX4_findPerson_15, rX4_findPerson_16, rX4_findPerson_19, rX4_findPerson_20, rX4_findPerson_21, rX4_findPerson_24, rX4_findPerson_25, s0, s2, p8, c7, gP.1, gP.2, nm, z, Int.lt_irrefl, if_true, if_false, ne_eq, not_false_eq_true, not_true_eq_false, true_and, and_true, and_self, true_imp_iff, false_imp_iff, imp_self, Bool.not_false, Bool.not_true, reduceCtorEq, ab_isJ, ab_psh, ab_cats, Bool.false_eq_true, if_true, if_false, ab_shf, ab_shw, Int.le_refl, Classical.not_not, Int.zero_add, forall_const, ↓ab_itT, ↓ab_itF, ab_anT, ab_w32_id, ab_rdf_ne, ab_rdw_ne, ab_rdw_eq, ab_rdf_in, ab_td2, ab_tm2]
    · rw [if_neg z, ← key]
      clear ih key
      by_cases y : w < κ 34 i
      · simp (disch := omega) only [rX4_findPerson_3, rX4_findPerson_4, rX4_findPerson_7, rX4_findPerson_10, rX4_findPerson_11, rX4_findPerson_14, rX4_findPerson_15, rX4_findPerson_16, rX4_findPerson_19, rX4_findPerson_20, rX4_findPerson_21, rX4_findPerson_24, rX4_findPerson_25, rX4_findPerson_26, rX4_findPerson_29, s0, s2, p8, c7, gP.1, gP.2, nm, y, if_true, ne_eq, not_false_eq_true, not_true_eq_false, true_and, and_true, and_self, true_imp_iff, false_imp_iff, imp_self, Bool.not_false, Bool.not_true, reduceCtorEq, ab_isJ, ab_psh, ab_cats, Bool.false_eq_true, if_true, if_false, ab_shf, ab_shw, Int.le_refl, Classical.not_not, Int.zero_add, forall_const, ↓ab_itT, ↓ab_itF, ab_anT, ab_w32_id, ab_rdf_ne, ab_rdw_ne, ab_rdw_eq, ab_rdf_in, ab_td2, ab_tm2]
      · simp (disch := omega) only [rX4_findPerson_3, rX4_findPerson_4, rX4_findPerson_7, rX4_findPerson_10, rX4_findPerson_11, rX4_findPerson_14, rX4_findPerson_15, rX4_findPerson_16, rX4_findPerson_19, rX4_findPerson_20, rX4_findPerson_21, rX4_findPerson_24, rX4_findPerson_25, rX4_findPerson_26, rX4_findPerson_29, s0, s2, p8, c7, gP.1, gP.2, nm, y, z, if_false, ne_eq, not_false_eq_true, not_true_eq_false, true_and, and_true, and_self, true_imp_iff, false_imp_iff, imp_self, Bool.not_false, Bool.not_true, reduceCtorEq, ab_isJ, ab_psh, ab_cats, Bool.false_eq_true, if_true, if_false, ab_shf, ab_shw, Int.le_refl, Classical.not_not, Int.zero_add, forall_const, ↓ab_itT, ↓ab_itF, ab_anT, ab_w32_id, ab_rdf_ne, ab_rdw_ne, ab_rdw_eq, ab_rdf_in, ab_td2, ab_tm2]
theorem sp_findPerson (hg : ab_Geo σ) (hk : ar_KF σ K κ) (hn : ac_KN κ) : ab_Do X 29 [ab_R K, ab_J w] σ Q ↔ Q (some (ab_I (ar_fi (κ 34) w (κ 6 0).toNat 0))) σ := by
  have n6 := hn.2.1
  rw [← sp_findPerson_l (X := X) (Q := Q) (w := w) hg hk hn (κ 6 0).toNat 0 (by omega) (by omega)]
  simp (disch := omega) only [do_X4_findPerson, rX4_findPerson_0, rX4_findPerson_1, ne_eq, not_false_eq_true, not_true_eq_false, true_and, and_true, and_self, true_imp_iff, false_imp_iff, imp_self, Bool.not_false, Bool.not_true, reduceCtorEq, ab_isJ, ab_psh, ab_cats, Bool.false_eq_true, if_true, if_false, ab_shf, ab_shw, Int.le_refl, Classical.not_not, Int.zero_add, forall_const, ↓ab_itT, ↓ab_itF, ab_anT, ab_w32_id, ab_rdf_ne, ab_rdw_ne, ab_rdw_eq, ab_rdf_in, ab_td2, ab_tm2]
theorem sp_findBone_l (hg : ab_Geo σ) (hk : ar_KF σ K κ) (hn : ac_KN κ) : ∀ (m : Nat) (i : Int), 0 ≤ i → i + m = κ 5 0 → (ab_Run X 28 2 (0, 0, 0) [ab_R K, ab_J w, ab_R 0, ab_I i] [] σ Q ↔ Q (some (ab_I (ar_fi (κ 33) w m i))) σ) := by
  have hK := hk.1
  have hv : K = 5 ∨ K = 329 := hK
  obtain ⟨s0, s1, s2, s3, s4, p6, p8, -, -⟩ := hg.kit hK
  have c5 := hk.2.2.2.2.1.1
  have n5 := hn.1
  intro m
  induction m with
  | zero =>
    intro i hi hm
    unfold ar_fi
    rw [rX4_findBone_2]
    simp (disch := omega) only [rX4_findBone_3, rX4_findBone_4, rX4_findBone_7, rX4_findBone_32, rX4_findBone_33, s0, c5, ne_eq, not_false_eq_true, not_true_eq_false, true_and, and_true, and_self, true_imp_iff, false_imp_iff, imp_self, Bool.not_false, Bool.not_true, reduceCtorEq, ab_isJ, ab_psh, ab_cats, Bool.false_eq_true, if_true, if_false, ab_shf, ab_shw, Int.le_refl, Classical.not_not, Int.zero_add, forall_const, ↓ab_itT, ↓ab_itF, ab_anT, ab_w32_id, ab_rdf_ne, ab_rdw_ne, ab_rdw_eq, ab_rdf_in, ab_td2, ab_tm2]
  | succ m ih =>
    intro i hi hm
    have key := ih (i + 1) (by omega) (by omega)
    have gB := hg.bone hK hi (by omega)
    have sB := gB.1.2.1
    have nm := (hk.2.2.2.2.2.1 i hi (by omega)).2
    unfold ar_fi
    rw [rX4_findBone_2]
    by_cases z : κ 33 i = w
    · rw [if_pos z]
      clear ih key
      simp (disch := omega) only [rX4_findBone_3, rX4_findBone_4, rX4_findBone_7, rX4_findBone_10, rX4_findBone_11, rX4_findBone_14, rX4_findBone_15, rX4_findBone_16, rX4_findBone_19, rX4_findBone_20, rX4_findBone_21, rX4_findBone_24, rX4_findBone_25, s0, s1, p6, c5, sB, gB.2, nm, z, Int.lt_irrefl, if_true, if_false, ne_eq, not_false_eq_true, not_true_eq_false, true_and, and_true, and_self, true_imp_iff, false_imp_iff, imp_self, Bool.not_false, Bool.not_true, reduceCtorEq, ab_isJ, ab_psh, ab_cats, Bool.false_eq_true, if_true, if_false, ab_shf, ab_shw, Int.le_refl, Classical.not_not, Int.zero_add, forall_const, ↓ab_itT, ↓ab_itF, ab_anT, ab_w32_id, ab_rdf_ne, ab_rdw_ne, ab_rdw_eq, ab_rdf_in, ab_td2, ab_tm2]
    · rw [if_neg z, ← key]
      clear ih key
      by_cases y : w < κ 33 i
      · simp (disch := omega) only [rX4_findBone_3, rX4_findBone_4, rX4_findBone_7, rX4_findBone_10, rX4_findBone_11, rX4_findBone_14, rX4_findBone_15, rX4_findBone_16, rX4_findBone_19, rX4_findBone_20, rX4_findBone_21, rX4_findBone_24, rX4_findBone_25, rX4_findBone_26, rX4_findBone_29, s0, s1, p6, c5, sB, gB.2, nm, y, if_true, ne_eq, not_false_eq_true, not_true_eq_false, true_and, and_true, and_self, true_imp_iff, false_imp_iff, imp_self, Bool.not_false, Bool.not_true, reduceCtorEq, ab_isJ, ab_psh, ab_cats, Bool.false_eq_true, if_true, if_false, ab_shf, ab_shw, Int.le_refl, Classical.not_not, Int.zero_add, forall_const, ↓ab_itT, ↓ab_itF, ab_anT, ab_w32_id, ab_rdf_ne, ab_rdw_ne, ab_rdw_eq, ab_rdf_in, ab_td2, ab_tm2]
      · simp (disch := omega) only [rX4_findBone_3, rX4_findBone_4, rX4_findBone_7, rX4_findBone_10, rX4_findBone_11, rX4_findBone_14, rX4_findBone_15, rX4_findBone_16, rX4_findBone_19, rX4_findBone_20, rX4_findBone_21, rX4_findBone_24, rX4_findBone_25, rX4_findBone_26, rX4_findBone_29, s0, s1, p6, c5, sB, gB.2, nm, y, z, if_false, ne_eq, not_false_eq_true, not_true_eq_false, true_and, and_true, and_self, true_imp_iff, false_imp_iff, imp_self, Bool.not_false, Bool.not_true, reduceCtorEq, ab_isJ, ab_psh, ab_cats, Bool.false_eq_true, if_true, if_false, ab_shf, ab_shw, Int.le_refl, Classical.not_not, Int.zero_add, forall_const, ↓ab_itT, ↓ab_itF, ab_anT, ab_w32_id, ab_rdf_ne, ab_rdw_ne, ab_rdw_eq, ab_rdf_in, ab_td2, ab_tm2]
theorem sp_findBone (hg : ab_Geo σ) (hk : ar_KF σ K κ) (hn : ac_KN κ) : ab_Do X 28 [ab_R K, ab_J w] σ Q ↔ Q (some (ab_I (ar_fi (κ 33) w (κ 5 0).toNat 0))) σ := by
  have n5 := hn.1
  rw [← sp_findBone_l (X := X) (Q := Q) (w := w) hg hk hn (κ 5 0).toNat 0 (by omega) (by omega)]
  simp (disch := omega) only [do_X4_findBone, rX4_findBone_0, rX4_findBone_1, ne_eq, not_false_eq_true, not_true_eq_false, true_and, and_true, and_self, true_imp_iff, false_imp_iff, imp_self, Bool.not_false, Bool.not_true, reduceCtorEq, ab_isJ, ab_psh, ab_cats, Bool.false_eq_true, if_true, if_false, ab_shf, ab_shw, Int.le_refl, Classical.not_not, Int.zero_add, forall_const, ↓ab_itT, ↓ab_itF, ab_anT, ab_w32_id, ab_rdf_ne, ab_rdw_ne, ab_rdw_eq, ab_rdf_in, ab_td2, ab_tm2]
end
