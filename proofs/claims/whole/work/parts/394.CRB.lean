/-! THE CLASS: begin, kitchen -/
/-- the state at a kitchen's beginning -/
def ar_v0 (κ : ac_K) : Int → Int := fun k => if k < 5 then κ 12 k else if k < 10 then κ 13 (k - 5) else 0
def ar_lo : Int → Int → Prop := fun a _ => 1 ≤ a ∧ a ≤ 354
section
variable {X : ab_X} {σ τ : ab_S} {Q : Option ab_V → ab_S → Prop} {n s K v m ln l i b na nm : Int} {tp w : Int → Int} {κ κ' : ac_K} {pa pm : Int → Int → Int} {P : Int → Int → Prop}
theorem sp_begin_2 (g : ab_Geo σ) (hB : ∀ b, 0 ≤ b → b < 5 → ab_rd σ 34 b = 0) : ∀ (m : Nat) (i : Int) (τ : ab_S), 0 ≤ i → i + m = 6 → ab_Same (fun a _ => a = 35) σ τ → (∀ p, 0 ≤ p → p < i → ab_rd τ 35 p = 0) → (∀ υ, ab_Same (fun a f => a = 35 ∨ (a = 31 ∧ f = 4)) σ υ → (∀ p, 0 ≤ p → p < 6 → ab_rd υ 35 p = 0) → ab_rd υ 31 4 = 0 → Q none υ) → ab_Run X 62 52 (0, 0, 0) [ab_R 31, ab_R K, ab_I i] [] τ Q := by
  intro m
  induction m with
  | zero =>
    intro i τ hi hm hs hp hQ
    obtain rfl : i = 6 := by omega
    have gt : ab_Geo τ := g.same hs (fun a f a1 a2 a3 u => by rw [u]; exact ab_pt_nil rfl)
    have kq := hQ (ab_wr τ 31 4 0) ((hs.mono (fun _ _ u => Or.inl u)).wr (Or.inr ⟨rfl, rfl⟩)) (fun p p1 p2 => by rw [ab_rdw_ne (by omega)]; exact hp p p1 p2) ab_rdw_eq
    clear hQ hp hB
    rw [rX8_begin_52]
    simp (disch := omega) only [rX8_begin_53, rX8_begin_55, rX8_begin_71, rX8_begin_72, rX8_begin_73, rX8_begin_76, gS_31, gt, ne_eq, not_false_eq_true, not_true_eq_false, true_and, and_true, and_self, true_imp_iff, false_imp_iff, imp_self, Bool.not_false, Bool.not_true, reduceCtorEq, ab_isJ, ab_psh, ab_cats, Bool.false_eq_true, if_true, if_false, ab_shf, ab_shw, Int.le_refl, Classical.not_not, Int.zero_add, forall_const, ↓ab_itT, ↓ab_itF, ab_anT, ab_w32_id, ab_rdf_ne, ab_rdw_ne, ab_rdw_eq, ab_rdf_in, ab_td2, ab_tm2, true_or, or_true]
    all_goals exact kq
  | succ m ih =>
    intro i τ hi hm hs hp hQ
    have gt : ab_Geo τ := g.same hs (fun a f a1 a2 a3 u => by rw [u]; exact ab_pt_nil rfl)
    have kq := ih (i + 1) (ab_wr τ 35 i 0) (by omega) (by omega) (hs.wr rfl) (fun p p1 p2 => by
      by_cases z : p = i
      · rw [z, ab_rdw_eq]
      · rw [ab_rdw_ne (by omega)]; exact hp p p1 (by omega)) hQ
    clear ih hQ hp hB
    rw [rX8_begin_52]
    simp (disch := omega) only [rX8_begin_53, rX8_begin_55, rX8_begin_58, rX8_begin_59, rX8_begin_62, rX8_begin_63, rX8_begin_64, rX8_begin_65, rX8_begin_68, gS_31, gP_31_3, gS_35, gt, ne_eq, not_false_eq_true, not_true_eq_false, true_and, and_true, and_self, true_imp_iff, false_imp_iff, imp_self, Bool.not_false, Bool.not_true, reduceCtorEq, ab_isJ, ab_psh, ab_cats, Bool.false_eq_true, if_true, if_false, ab_shf, ab_shw, Int.le_refl, Classical.not_not, Int.zero_add, forall_const, ↓ab_itT, ↓ab_itF, ab_anT, ab_w32_id, ab_rdf_ne, ab_rdw_ne, ab_rdw_eq, ab_rdf_in, ab_td2, ab_tm2, true_or, or_true]
    all_goals exact kq
theorem sp_begin_1 (g : ab_Geo σ) (hK : ac_kit K) : ∀ (m : Nat) (i : Int) (τ : ab_S), 0 ≤ i → i + m = 5 → ab_Same (fun a _ => a = 32 ∨ a = 33 ∨ a = 34) σ τ → (∀ b, 0 ≤ b → b < i → ab_rd τ 32 b = ab_rd σ (K + 5 + 3 * b) 1 ∧ ab_rd τ 33 b = ab_rd σ (K + 5 + 3 * b) 2 ∧ ab_rd τ 34 b = 0) → (∀ υ, ab_Same (ac_PS 31) σ υ → (∀ b, 0 ≤ b → b < 5 → ab_rd υ 32 b = ab_rd σ (K + 5 + 3 * b) 1 ∧ ab_rd υ 33 b = ab_rd σ (K + 5 + 3 * b) 2 ∧ ab_rd υ 34 b = 0) → (∀ p, 0 ≤ p → p < 6 → ab_rd υ 35 p = 0) → ab_rd υ 31 4 = 0 → Q none υ) → ab_Run X 62 2 (0, 0, 0) [ab_R 31, ab_R K, ab_I i] [] τ Q := by
  have hv : K = 5 ∨ K = 329 := hK
  intro m
  induction m with
  | zero =>
    intro i τ hi hm hs hp hQ
    obtain rfl : i = 5 := by omega
    have gt : ab_Geo τ := g.same hs (fun a f a1 a2 a3 u => by rcases u with rfl | rfl | rfl <;> exact ab_pt_nil rfl)
    have kq := sp_begin_2 (X := X) (Q := Q) (K := K) gt (fun b b1 b2 => (hp b b1 b2).2.2) 6 0 τ (by omega) (by omega) ab_Same.refl (fun p p1 p2 => by omega) (fun υ u1 u2 u3 => hQ υ ((hs.mono (fun a f u => by unfold ac_PS; omega)).trans (u1.mono (fun a f u => by unfold ac_PS; omega))) (fun b b1 b2 => by rw [u1.2.2 32 b (by omega), u1.2.2 33 b (by omega), u1.2.2 34 b (by omega)]; exact hp b b1 b2) u2 u3)
    clear hQ hp
    rw [rX8_begin_2]
    simp (disch := omega) only [rX8_begin_3, rX8_begin_4, rX8_begin_50, rX8_begin_51, ne_eq, not_false_eq_true, not_true_eq_false, true_and, and_true, and_self, true_imp_iff, false_imp_iff, imp_self, Bool.not_false, Bool.not_true, reduceCtorEq, ab_isJ, ab_psh, ab_cats, Bool.false_eq_true, if_true, if_false, ab_shf, ab_shw, Int.le_refl, Classical.not_not, Int.zero_add, forall_const, ↓ab_itT, ↓ab_itF, ab_anT, ab_w32_id, ab_rdf_ne, ab_rdw_ne, ab_rdw_eq, ab_rdf_in, ab_td2, ab_tm2, true_or, or_true]
    all_goals exact kq
  | succ m ih =>
    intro i τ hi hm hs hp hQ
    have gt : ab_Geo τ := g.same hs (fun a f a1 a2 a3 u => by rcases u with rfl | rfl | rfl <;> exact ab_pt_nil rfl)
    obtain ⟨s0, s1, -, -, -, p6, -, -, -⟩ := gt.kit hK
    have gB := gt.bone hK hi (by omega)
    have sB := gB.1.2.1
    have e1 : ab_rd τ (K + 5 + 3 * i) 1 = ab_rd σ (K + 5 + 3 * i) 1 := hs.2.2 _ _ (by omega)
    have e2 : ab_rd τ (K + 5 + 3 * i) 2 = ab_rd σ (K + 5 + 3 * i) 2 := hs.2.2 _ _ (by omega)
    have kq := ih (i + 1) (ab_wr (ab_wr (ab_wr τ 32 i (ab_rd σ (K + 5 + 3 * i) 1)) 33 i (ab_rd σ (K + 5 + 3 * i) 2)) 34 i 0) (by omega) (by omega) (((hs.wr (Or.inl rfl)).wr (Or.inr (Or.inl rfl))).wr (Or.inr (Or.inr rfl))) (fun b b1 b2 => by
      by_cases z : b = i
      · rw [z]
        simp (disch := omega) only [ab_rdw_ne, ab_rdw_eq, and_self]
      · rw [ab_rdw_ne (by omega), ab_rdw_ne (by omega), ab_rdw_ne (by omega), ab_rdw_ne (by omega), ab_rdw_ne (by omega), ab_rdw_ne (by omega), ab_rdw_ne (by omega), ab_rdw_ne (by omega), ab_rdw_ne (by omega)]
        exact hp b b1 (by omega)) hQ
    have s34 := gS_34 gt
    clear ih hQ hp hs
    rw [rX8_begin_2]
    simp (disch := first | omega | (simp only [ab_shw, s34, true_and, and_true, or_true, true_or, and_self]; omega)) only [rX8_begin_3, rX8_begin_4, rX8_begin_7, rX8_begin_8, rX8_begin_11, rX8_begin_12, rX8_begin_13, rX8_begin_16, rX8_begin_17, rX8_begin_18, rX8_begin_21, rX8_begin_22, rX8_begin_23, rX8_begin_26, rX8_begin_27, rX8_begin_28, rX8_begin_31, rX8_begin_32, rX8_begin_33, rX8_begin_36, rX8_begin_37, rX8_begin_38, rX8_begin_41, rX8_begin_42, rX8_begin_43B, rX8_begin_43Z, rX8_begin_44, rX8_begin_47, gS_31, gP_31_0, gP_31_1, gP_31_2, gS_32, gS_33, s34, gt, s0, s1, p6, gB.2, sB, e1, e2, ne_eq, not_false_eq_true, not_true_eq_false, true_and, and_true, and_self, true_imp_iff, false_imp_iff, imp_self, Bool.not_false, Bool.not_true, reduceCtorEq, ab_isJ, ab_psh, ab_cats, Bool.false_eq_true, if_true, if_false, ab_shf, ab_shw, Int.le_refl, Classical.not_not, Int.zero_add, forall_const, ↓ab_itT, ↓ab_itF, ab_anT, ab_w32_id, ab_rdf_ne, ab_rdw_ne, ab_rdw_eq, ab_rdf_in, ab_td2, ab_tm2, true_or, or_true]
    all_goals exact kq
theorem sp_begin (g : ab_Geo σ) (hK : ac_kit K) (hQ : ∀ υ, ab_Same (ac_PS 31) σ υ → (∀ b, 0 ≤ b → b < 5 → ab_rd υ 32 b = ab_rd σ (K + 5 + 3 * b) 1 ∧ ab_rd υ 33 b = ab_rd σ (K + 5 + 3 * b) 2 ∧ ab_rd υ 34 b = 0) → (∀ p, 0 ≤ p → p < 6 → ab_rd υ 35 p = 0) → ab_rd υ 31 4 = 0 → Q none υ) : ab_Do X 62 [ab_R 31, ab_R K] σ Q := by
  have kq := sp_begin_1 (X := X) (Q := Q) g hK 5 0 σ (by omega) (by omega) ab_Same.refl (fun b b1 b2 => by omega) hQ
  clear hQ
  simp (disch := omega) only [do_X8_begin, rX8_begin_0, rX8_begin_1, ne_eq, not_false_eq_true, not_true_eq_false, true_and, and_true, and_self, true_imp_iff, false_imp_iff, imp_self, Bool.not_false, Bool.not_true, reduceCtorEq, ab_isJ, ab_psh, ab_cats, Bool.false_eq_true, if_true, if_false, ab_shf, ab_shw, Int.le_refl, Classical.not_not, Int.zero_add, forall_const, ↓ab_itT, ↓ab_itF, ab_anT, ab_w32_id, ab_rdf_ne, ab_rdw_ne, ab_rdw_eq, ab_rdf_in, ab_td2, ab_tm2, true_or, or_true]
  all_goals exact kq
theorem ac_KC.sameK (h : ac_KC σ K κ) (hn : κ 5 0 ≤ 5) (hn6 : κ 6 0 ≤ 6) (e : ∀ a f, K ≤ a → a ≤ K + 25 → ab_rd τ a f = ab_rd σ a f) : ac_KC τ K κ := by
  obtain ⟨hK, hr, hz, hb, hp, hi⟩ := h
  have hv : K = 5 ∨ K = 329 := hK
  have eK : ∀ f, ab_rd τ K f = ab_rd σ K f := fun f => e _ _ (by omega) (by omega)
  refine ⟨hK, ?_, ?_, ?_, ?_, ?_⟩
  · unfold ac_KCr
    rw [eK, eK, eK, eK, eK]
    exact hr
  · unfold ac_KC0
    rw [eK, eK, eK, eK, eK, eK]
    exact hz
  · intro b b1 b2
    obtain ⟨q1, q2, q3⟩ := hb b b1 b2
    refine ⟨?_, ?_, fun arm ha => ⟨?_, fun i i1 i2 => ?_⟩⟩
    · rw [e _ _ (by omega) (by omega), q1]
    · rw [e _ _ (by omega) (by omega), q2]
    · rw [e _ _ (by omega) (by omega), (q3 arm ha).1]
    · rw [e _ _ (by omega) (by omega), (q3 arm ha).2 i i1 i2]
  · intro p p1 p2
    have e' : ∀ f, ab_rd τ (K + 20 + p) f = ab_rd σ (K + 20 + p) f := fun f => e _ _ (by omega) (by omega)
    unfold ac_KCp
    rw [e', e', e', e', e', e', e', e', e', e', e']
    exact hp p p1 p2
  · intro i i1 i2
    rw [e _ _ (by omega) (by omega), e _ _ (by omega) (by omega)]
    exact hi i i1 i2
theorem ar_KF.kc (h : ar_KF σ K κ) (h1 : κ 11 0 = 1) : ac_KC σ K κ := ⟨h.1, h.2.2.2.1 h1, h.2.2.2.2.1, fun b b1 b2 => (h.2.2.2.2.2.1 b b1 b2).1, fun p p1 p2 => (h.2.2.2.2.2.2.1 p p1 p2).1, h.2.2.2.2.2.2.2⟩
theorem ar_J.kk (h : ar_J κ) (h5 : 1 ≤ κ 5 0) (h6 : 2 ≤ κ 6 0) : κ 11 0 = 1 ∧ ac_KK κ := by
  have h1 : κ 11 0 = 1 := by
    rcases h.2.2.1 with z | z
    · have := (h.2.2.2.2.1 z).1; omega
    · exact z
  exact ⟨h1, h.2.2.2.1 h1, h.1, h.2.1, h5, h6⟩
theorem ar_v0_VB (h : ac_KK κ) : ac_VB κ (ar_v0 κ) := by
  have n5 := h.2.1.1
  refine ⟨fun b b1 b2 => ?_, ?_, ?_⟩
  · obtain ⟨q1, q2, -⟩ := h.2.2.1.1 b b1 b2
    unfold ar_v0
    rw [if_pos (by omega), if_neg (by omega), if_pos (by omega), show 5 + b - 5 = b by omega]
    exact ⟨q1, q2⟩
  · unfold ar_v0
    rw [if_neg (by omega), if_neg (by omega)]; omega
  · unfold ar_v0
    rw [if_neg (by omega), if_neg (by omega)]; omega
end
