section
variable {X : ab_X} {σ τ : ab_S} {Q : Option ab_V → ab_S → Prop} {K : Int} {κ : ac_K} {v : Int → Int} {kd d b p hp q hq mv : Int}
def ac_PD : Int → Int → Prop := fun a f => ac_PC a f ∧ a ≠ 1
theorem ab_Same.toD (h : ab_Same ac_PC σ τ) (h1 : ∀ f, ab_rd τ 1 f = ab_rd σ 1 f) : ab_Same ac_PD σ τ := ⟨h.1, h.2.1, fun a f hn => by
  by_cases ha : a = 1
  · rw [ha]; exact h1 f
  · exact h.2.2 a f (fun w => hn ⟨w, ha⟩)⟩
theorem ab_Same.ofD (h : ab_Same ac_PD σ τ) : ab_Same ac_PC σ τ := h.mono (fun _ _ w => w.1)
theorem ab_Same.d1 (h : ab_Same ac_PD σ τ) {f : Int} : ab_rd τ 1 f = ab_rd σ 1 f := h.2.2 1 f (fun w => w.2 rfl)
theorem ac_St.same {S : Int} (h : ac_St σ S κ v) (hS : 2 ≤ S ∧ S + 4 ≤ 133) (hs : ab_Same ac_PC σ τ) : ac_St τ S κ v := by
  have e : ∀ a f, a ≠ 1 → a < 134 → ab_rd τ a f = ab_rd σ a f := fun a f h1 h2 => hs.2.2 a f (by unfold ac_PC; omega)
  obtain ⟨h1, h2, h3⟩ := h
  refine ⟨fun b b1 b2 => ?_, fun p p1 p2 => ?_, ?_⟩
  · rw [e _ _ (by omega) (by omega), e _ _ (by omega) (by omega), e _ _ (by omega) (by omega)]; exact h1 b b1 b2
  · rw [e _ _ (by omega) (by omega)]; exact h2 p p1 p2
  · rw [e _ _ (by omega) (by omega)]; exact h3
theorem ac_wt_b {c : Int → Int → Int} {flaw n0 n1 x : Int} (hf : 0 ≤ flaw ∧ flaw ≤ 99) (h0 : 0 ≤ n0 ∧ n0 ≤ 6) (h1 : 0 ≤ n1 ∧ n1 ≤ 6) : 0 ≤ ac_wt c flaw n0 n1 x ∧ ac_wt c flaw n0 n1 x ≤ 3000 := by
  have m := ab_mulb (show 0 ≤ 100 - flaw by omega) (show 100 - flaw ≤ 100 by omega) (show 0 ≤ n0 + n1 by omega) (show n0 + n1 ≤ 12 by omega)
  have b1 : ∀ x, 0 ≤ ac_wt1 c flaw n0 n1 x ∧ ac_wt1 c flaw n0 n1 x ≤ 1200 := fun x => by
    unfold ac_wt1 ac_add
    dsimp only
    split <;> omega
  have i1 := ab_it_inv (f := fun r g => ac_add (c r 0) flaw g) (fun j g => ∀ x, 0 ≤ g x ∧ g x ≤ 1200 + 99 * j) n0.toNat 1 (ac_wt1 c flaw n0 n1) (fun j t q1 q2 q3 x => by
    have := q3 x
    unfold ac_add
    split <;> omega) (fun x => by have := b1 x; omega)
  have i2 := ab_it_inv (f := fun r g => ac_add (c 0 r) flaw g) (fun j g => ∀ x, 0 ≤ g x ∧ g x ≤ 2000 + 99 * j) n1.toNat 1 (ab_it (fun r g => ac_add (c r 0) flaw g) n0.toNat 1 (ac_wt1 c flaw n0 n1)) (fun j t q1 q2 q3 x => by
    have := q3 x
    unfold ac_add
    split <;> omega) (fun x => by have := i1 x; omega)
  have := i2 x
  unfold ac_wt
  omega
theorem ac_O_b {x : Int} (hk : ac_KK κ) (hb : ac_isB κ b) : 0 ≤ ac_O κ kd d b p hp q hq mv x ∧ ac_O κ kd d b p hp q hq mv x ≤ 3000 := by
  have n0 := ac_n_b hk hb (Or.inl rfl)
  have n1 := ac_n_b hk hb (Or.inr rfl)
  exact ac_wt_b hk.1.2.2.2.2 (by omega) (by omega)
theorem ac_wls_w {x : Int} (hx : 0 ≤ x ∧ x < 4) : ab_rd (ac_wls σ κ kd d b p hp q hq mv) 147 x = ac_O κ kd d b p hp q hq mv x := by
  unfold ac_wls
  rw [ab_rdf_in hx]
theorem ac_wls_3 : ab_rd (ac_wls σ κ kd d b p hp q hq mv) 134 3 = 100 * (ac_n κ b 0 + ac_n κ b 1) := by
  unfold ac_wls
  rw [ab_rdf_ne (by omega), ab_rdw_eq]
def ac_oT (κ : ac_K) (b p hp q hq mv x : Int) : Int := if 0 ≤ x ∧ x ≤ 3 then ac_wT κ b p hp q hq mv else 1
/-- a part of the whole, in lowest terms -/
def ac_pt (up low lo : Int) : Int := (if lo = 0 then up else low) / ac_eu 90 up low
theorem cq_odds {x lo : Int} (h : ac_CI σ K κ) (hS : ac_St σ 31 κ v) (hV : ac_VB κ v) (hlo : lo = 0 ∨ lo = 1) (hQ : ∀ τ, ab_Same ac_PC σ τ → ab_rd τ 1 8 = ac_oT κ b p hp q hq mv x → Q (some (ab_J (if ac_oT κ b p hp q hq mv x = 0 then ac_pt (ac_O κ (v b) (v (5 + b)) b p hp q hq mv x) (100 * (ac_n κ b 0 + ac_n κ b 1)) lo else -1))) τ) : ab_Do X 92 [ab_R 1, ab_I b, ab_I p, ab_I hp, ab_I q, ab_I hq, ab_I mv, ab_I x, ab_I lo] σ Q := by
  have hg := h.1
  have c1 := fun Q' => sp_pullTrouble (X := X) (Q := Q') (b := b) (p := p) (hp := hp) (q := q) (hq := hq) (mv := mv) h
  unfold ac_oT at hQ
  by_cases hx : 0 ≤ x ∧ x ≤ 3
  · simp only [if_pos hx] at hQ
    by_cases hT : ac_wT κ b p hp q hq mv = 0
    · rw [hT, if_pos rfl] at hQ
      rw [hT] at c1
      have hL := sp_layC (X := X) (Q := Q) h hS hV hT
      have hb := (ac_wT0 hT).1
      have hk := h.kk hb
      have n0 := ac_n_b hk hb (Or.inl rfl)
      have n1 := ac_n_b hk hb (Or.inr rfl)
      have ob := ac_O_b (kd := v b) (d := v (5 + b)) (p := p) (hp := hp) (q := q) (hq := hq) (mv := mv) (x := x) hk hb
      have c2 := fun Q' => (sp_layC (X := X) (Q := Q') h hS hV hT).1
      have c3 := fun Q' => sp_weighLaidK (X := X) (Q := Q') hL.2
      have c4 := fun τ Q' => sp_part (X := X) (σ := τ) (Q := Q') (up := ac_O κ (v b) (v (5 + b)) b p hp q hq mv x) (low := 100 * (ac_n κ b 0 + ac_n κ b 1)) (by omega) (by omega) hlo
      have gg := hL.2.1
      have gg2 := gg.same (ac_wls_same (κ := κ) (kd := v b) (d := v (5 + b)) (b := b) (p := p) (hp := hp) (q := q) (hq := hq) (mv := mv)) ac_PC_pt
      simp (disch := omega) only [do_X11_odds, rX11_odds_0, rX11_odds_1, rX11_odds_3, rX11_odds_6, rX11_odds_8, rX11_odds_9, rX11_odds_12, rX11_odds_13, rX11_odds_14, rX11_odds_15, rX11_odds_16, rX11_odds_18, rX11_odds_20, rX11_odds_22, rX11_odds_25, rX11_odds_28, rX11_odds_29, rX11_odds_32, rX11_odds_33, rX11_odds_36, rX11_odds_39, rX11_odds_42, rX11_odds_43, rX11_odds_44, rX11_odds_45, rX11_odds_46, rX11_odds_47, rX11_odds_49, rX11_odds_51, rX11_odds_53, rX11_odds_56, rX11_odds_57, rX11_odds_60, rX11_odds_63, rX11_odds_64, rX11_odds_67, rX11_odds_70, rX11_odds_72, rX11_odds_73, rX11_odds_74, rX11_odds_75, rX11_odds_78, rX11_odds_81, rX11_odds_82, rX11_odds_84, rX11_odds_87, gS_1, gP_1_3, gS_134, gP_134_2, gS_147, hg, gg, gg2, c1, c2, c3, c4, ac_wls_w, ac_wls_3, ne_eq, not_false_eq_true, not_true_eq_false, true_and, and_true, and_self, true_imp_iff, false_imp_iff, imp_self, Bool.not_false, Bool.not_true, reduceCtorEq, ab_isJ, ab_psh, ab_cats, Bool.false_eq_true, if_true, if_false, ab_shf, ab_shw, Int.le_refl, Classical.not_not, Int.zero_add, forall_const, ↓ab_itT, ↓ab_itF, ab_anT, ab_w32_id, ab_rdf_ne, ab_rdw_ne, ab_rdw_eq, ab_rdf_in, ab_td2, ab_tm2]
      refine hQ _ ?_ ?_
      · exact ((ac_t8.trans ac_tk_same).trans ac_gk_same).trans ac_wls_same
      · rw [ac_wls_r1 (by omega), ac_gk_r1 (by omega), ac_tk_rd (by omega), ab_rdw_eq]
    · rw [if_neg hT] at hQ
      simp (disch := omega) only [do_X11_odds, rX11_odds_0, rX11_odds_1, rX11_odds_3, rX11_odds_6, rX11_odds_8, rX11_odds_9, rX11_odds_12, rX11_odds_13, rX11_odds_14, rX11_odds_15, rX11_odds_16, rX11_odds_18, rX11_odds_20, rX11_odds_22, rX11_odds_25, rX11_odds_28, rX11_odds_29, rX11_odds_32, rX11_odds_33, rX11_odds_36, rX11_odds_39, rX11_odds_42, gS_1, hg, c1, ne_eq, not_false_eq_true, not_true_eq_false, true_and, and_true, and_self, true_imp_iff, false_imp_iff, imp_self, Bool.not_false, Bool.not_true, reduceCtorEq, ab_isJ, ab_psh, ab_cats, Bool.false_eq_true, if_true, if_false, ab_shf, ab_shw, Int.le_refl, Classical.not_not, Int.zero_add, Int.add_zero, forall_const, ↓ab_itT, ↓ab_itF, ab_anT, ab_w32_id, ab_rdf_ne, ab_rdw_ne, ab_rdw_eq, ab_rdf_in, ab_td2, ab_tm2]
      exact hQ _ ac_t8 ab_rdw_eq
  · simp only [if_neg hx] at hQ
    by_cases hx0 : 0 ≤ x
    · simp (disch := omega) only [do_X11_odds, rX11_odds_0, rX11_odds_1, rX11_odds_3, rX11_odds_6, rX11_odds_8, rX11_odds_9, rX11_odds_12, rX11_odds_13, rX11_odds_14, rX11_odds_15, rX11_odds_16, rX11_odds_18, rX11_odds_20, rX11_odds_22, rX11_odds_25, rX11_odds_28, rX11_odds_29, rX11_odds_32, rX11_odds_33, rX11_odds_36, rX11_odds_39, rX11_odds_42, gS_1, hg, c1, ne_eq, not_false_eq_true, not_true_eq_false, true_and, and_true, and_self, true_imp_iff, false_imp_iff, imp_self, Bool.not_false, Bool.not_true, reduceCtorEq, ab_isJ, ab_psh, ab_cats, Bool.false_eq_true, if_true, if_false, ab_shf, ab_shw, Int.le_refl, Classical.not_not, Int.zero_add, Int.add_zero, forall_const, ↓ab_itT, ↓ab_itF, ab_anT, ab_w32_id, ab_rdf_ne, ab_rdw_ne, ab_rdw_eq, ab_rdf_in, ab_td2, ab_tm2]
      exact hQ _ ac_t8 ab_rdw_eq
    · simp (disch := omega) only [do_X11_odds, rX11_odds_0, rX11_odds_1, rX11_odds_3, rX11_odds_6, rX11_odds_8, rX11_odds_9, rX11_odds_12, rX11_odds_13, rX11_odds_14, rX11_odds_15, rX11_odds_16, rX11_odds_18, rX11_odds_20, rX11_odds_22, rX11_odds_25, rX11_odds_28, rX11_odds_29, rX11_odds_32, rX11_odds_33, rX11_odds_36, rX11_odds_39, rX11_odds_42, gS_1, hg, c1, ne_eq, not_false_eq_true, not_true_eq_false, true_and, and_true, and_self, true_imp_iff, false_imp_iff, imp_self, Bool.not_false, Bool.not_true, reduceCtorEq, ab_isJ, ab_psh, ab_cats, Bool.false_eq_true, if_true, if_false, ab_shf, ab_shw, Int.le_refl, Classical.not_not, Int.zero_add, Int.add_zero, forall_const, ↓ab_itT, ↓ab_itF, ab_anT, ab_w32_id, ab_rdf_ne, ab_rdw_ne, ab_rdw_eq, ab_rdf_in, ab_td2, ab_tm2]
      exact hQ _ ac_t8 ab_rdw_eq
/-- ODDS as told -/
def ac_OT (κ : ac_K) (kd d b p q x : Int) : Int := ac_O κ kd d b p (ac_h κ p b 0) q (ac_h κ q b 1) 2 x
/-- take, grips as told, weigh -/
theorem sp_leftOdds (h : ac_CI σ K κ) (hS : ac_St σ 31 κ v) (hb : ac_isB κ b) (hp : ac_isP κ p) (hq : ac_isP κ q) (hd : 0 ≤ d ∧ d ≤ 24) (hQ : ∀ τ, ab_Same ac_PD σ τ → ab_rd τ 134 3 = 100 * (ac_n κ b 0 + ac_n κ b 1) → Q (some (ab_I (ac_OT κ (v b) d b p q 0))) τ) : ab_Do X 142 [ab_R 1, ab_I b, ab_I p, ab_I q, ab_I d] σ Q := by
  have hk := h.kk hb
  have h1 := h
  obtain ⟨hg, h7, hC, hN, -⟩ := h1
  have n5 := hN.1.2
  have hv : K = 5 ∨ K = 329 := hC.1
  have sK := (hg.kit hC.1).1
  have s := hS.1 b hb.1 hb.2
  have s1 : ab_rd σ 32 b = v b := s.1
  have c1 := fun Q' => sp_take (X := X) (Q := Q') (kd := v b) (d := d) hg hC.1 hC.2.1 hk.1 hd
  have h2 := h.same (ac_tk_same (κ := κ) (kd := v b) (d := d))
  have c2 := fun Q' => sp_gripsAsTold (X := X) (Q := Q') h2.1 h2.2.1 h2.2.2.1 hk ac_tk_Tk hd hb hp hq
  have e0 := ac_h_b hk hb (Or.inl rfl) hp
  have e1 := ac_h_b hk hb (Or.inr rfl) hq
  have L := ac_gk_Ld (mv := 2) h2.1 hk hd hb hp hq (show 0 ≤ ac_h κ p b 0 ∧ ac_h κ p b 0 ≤ 6 by omega) (show 0 ≤ ac_h κ q b 1 ∧ ac_h κ q b 1 ≤ 6 by omega) ac_tk_4 ac_tk_8
  have c3 := fun Q' => sp_weighLaidK (X := X) (Q := Q') L
  have g2 := h2.1
  have g3 := L.1
  have g4 := g3.same (ac_wls_same (κ := κ) (kd := v b) (d := d) (b := b) (p := p) (hp := ac_h κ p b 0) (q := q) (hq := ac_h κ q b 1) (mv := 2)) ac_PC_pt
  simp (disch := omega) only [do_X11_leftOddsDried, rX11_leftOddsDried_0, rX11_leftOddsDried_1, rX11_leftOddsDried_4, rX11_leftOddsDried_5, rX11_leftOddsDried_8, rX11_leftOddsDried_9, rX11_leftOddsDried_12, rX11_leftOddsDried_15, rX11_leftOddsDried_16, rX11_leftOddsDried_17, rX11_leftOddsDried_19, rX11_leftOddsDried_22, rX11_leftOddsDried_23, rX11_leftOddsDried_24, rX11_leftOddsDried_25, rX11_leftOddsDried_26, rX11_leftOddsDried_29, rX11_leftOddsDried_30, rX11_leftOddsDried_33, rX11_leftOddsDried_36, rX11_leftOddsDried_37, rX11_leftOddsDried_40, rX11_leftOddsDried_43, rX11_leftOddsDried_44, rX11_leftOddsDried_45, gS_1, gP_1_3, gP_1_1, gS_31, gP_31_0, gS_32, gS_134, gP_134_2, gS_147, hg, g2, g3, g4, h7, sK, s1, c1, c2, c3, ac_wls_w, ne_eq, not_false_eq_true, not_true_eq_false, true_and, and_true, and_self, true_imp_iff, false_imp_iff, imp_self, Bool.not_false, Bool.not_true, reduceCtorEq, ab_isJ, ab_psh, ab_cats, Bool.false_eq_true, if_true, if_false, ab_shf, ab_shw, Int.le_refl, Classical.not_not, Int.zero_add, forall_const, ↓ab_itT, ↓ab_itF, ab_anT, ab_w32_id, ab_rdf_ne, ab_rdw_ne, ab_rdw_eq, ab_rdf_in, ab_td2, ab_tm2]
  refine hQ _ ?_ ac_wls_3
  refine ab_Same.toD ((ac_tk_same.trans ac_gk_same).trans ac_wls_same) (fun f => ?_)
  rw [ac_wls_r1 (by omega), ac_gk_r1 (by omega), ac_tk_rd (by omega)]
def ac_cT (κ : ac_K) (b p q days : Int) : Int := if ac_pT κ b p q = 0 then (if 0 ≤ days ∧ days ≤ 24 then 0 else 2) else 1
theorem ac_pT0 (h : ac_pT κ b p q = 0) : ac_isB κ b ∧ ac_isU κ p q := by
  unfold ac_pT at h
  by_cases h1 : ac_isB κ b ∧ ac_isU κ p q
  · exact h1
  · rw [if_neg h1] at h; omega
theorem ac_pT1 (h : ¬ ac_pT κ b p q = 0) : ac_pT κ b p q = 1 := by
  unfold ac_pT at h ⊢
  split
  · rename_i w; rw [if_pos w] at h; omega
  · rfl
theorem cq_curve {days lo : Int} (h : ac_CI σ K κ) (hS : ac_St σ 31 κ v) (hV : ac_VB κ v) (hlo : lo = 0 ∨ lo = 1) (hQ : ∀ τ, ab_Same ac_PC σ τ → ab_rd τ 1 8 = ac_cT κ b p q days → Q (some (ab_J (if ac_cT κ b p q days = 0 then ac_pt (ac_OT κ (v b) days b p q 0) (100 * (ac_n κ b 0 + ac_n κ b 1)) lo else -1))) τ) : ab_Do X 97 [ab_R 1, ab_I b, ab_I p, ab_I q, ab_I days, ab_I lo] σ Q := by
  have hg := h.1
  have c1 := fun Q' => sp_pairTrouble (X := X) (Q := Q') (b := b) (p := p) (q := q) h
  unfold ac_cT at hQ
  by_cases hT : ac_pT κ b p q = 0
  · simp only [if_pos hT] at hQ
    rw [hT] at c1
    obtain ⟨hb, hu⟩ := ac_pT0 hT
    have hk := h.kk hb
    by_cases hd : 0 ≤ days ∧ days ≤ 24
    · simp only [if_pos hd, if_true] at hQ
      have h' := h.same (ac_t8 (t := 0))
      have S' := hS.same (by omega) (ac_t8 (t := 0))
      have n0 := ac_n_b hk hb (Or.inl rfl)
      have n1 := ac_n_b hk hb (Or.inr rfl)
      simp (disch := omega) only [do_X11_curve, rX11_curve_0, rX11_curve_1, rX11_curve_2, rX11_curve_3, rX11_curve_4, rX11_curve_5, rX11_curve_8, rX11_curve_11, rX11_curve_12, rX11_curve_15, rX11_curve_18, rX11_curve_20, rX11_curve_23, rX11_curve_25, rX11_curve_27, rX11_curve_30, rX11_curve_31, rX11_curve_32, rX11_curve_35, rX11_curve_36, rX11_curve_39, rX11_curve_42, rX11_curve_45, rX11_curve_46, rX11_curve_47, rX11_curve_48, rX11_curve_49, rX11_curve_50, rX11_curve_52, gS_1, hg, c1, ne_eq, not_false_eq_true, not_true_eq_false, true_and, and_true, and_self, true_imp_iff, false_imp_iff, imp_self, Bool.not_false, Bool.not_true, reduceCtorEq, ab_isJ, ab_psh, ab_cats, Bool.false_eq_true, if_true, if_false, ab_shf, ab_shw, Int.le_refl, Classical.not_not, Int.zero_add, forall_const, ↓ab_itT, ↓ab_itF, ab_anT, ab_w32_id, ab_rdf_ne, ab_rdw_ne, ab_rdw_eq, ab_rdf_in, ab_td2, ab_tm2]
      refine sp_leftOdds h' S' hb hu.1 hu.2.1 hd (fun τ sm w => ?_)
      have ob := ac_O_b (kd := v b) (d := days) (p := p) (hp := ac_h κ p b 0) (q := q) (hq := ac_h κ q b 1) (mv := 2) (x := 0) hk hb
      have ob' : 0 ≤ ac_OT κ (v b) days b p q 0 ∧ ac_OT κ (v b) days b p q 0 ≤ 3000 := ob
      have c4 := fun τ Q' => sp_part (X := X) (σ := τ) (Q := Q') (up := ac_OT κ (v b) days b p q 0) (low := 100 * (ac_n κ b 0 + ac_n κ b 1)) (by omega) (by omega) hlo
      have g2 := (h'.same sm.ofD).1
      simp (disch := omega) only [rX11_curve_55, rX11_curve_57, rX11_curve_59, rX11_curve_60, rX11_curve_61, rX11_curve_64, rX11_curve_67, rX11_curve_68, rX11_curve_70, rX11_curve_73, gS_1, gP_1_3, gS_134, g2, w, c4, ne_eq, not_false_eq_true, not_true_eq_false, true_and, and_true, and_self, true_imp_iff, false_imp_iff, imp_self, Bool.not_false, Bool.not_true, reduceCtorEq, ab_isJ, ab_psh, ab_cats, Bool.false_eq_true, if_true, if_false, ab_shf, ab_shw, Int.le_refl, Classical.not_not, Int.zero_add, forall_const, ↓ab_itT, ↓ab_itF, ab_anT, ab_w32_id, ab_rdf_ne, ab_rdw_ne, ab_rdw_eq, ab_rdf_in, ab_td2, ab_tm2]
      exact hQ τ (ac_t8.trans sm.ofD) (by rw [sm.d1, ab_rdw_eq])
    · simp only [if_neg hd] at hQ
      by_cases hd0 : 0 ≤ days
      · simp (disch := omega) only [do_X11_curve, rX11_curve_0, rX11_curve_1, rX11_curve_2, rX11_curve_3, rX11_curve_4, rX11_curve_5, rX11_curve_8, rX11_curve_11, rX11_curve_12, rX11_curve_15, rX11_curve_18, rX11_curve_20, rX11_curve_23, rX11_curve_25, rX11_curve_27, rX11_curve_30, rX11_curve_31, rX11_curve_32, rX11_curve_35, rX11_curve_36, rX11_curve_39, rX11_curve_42, rX11_curve_45, gS_1, hg, c1, ne_eq, not_false_eq_true, not_true_eq_false, true_and, and_true, and_self, true_imp_iff, false_imp_iff, imp_self, Bool.not_false, Bool.not_true, reduceCtorEq, ab_isJ, ab_psh, ab_cats, Bool.false_eq_true, if_true, if_false, ab_shf, ab_shw, Int.le_refl, Classical.not_not, Int.zero_add, forall_const, ↓ab_itT, ↓ab_itF, ab_anT, ab_w32_id, ab_rdf_ne, ab_rdw_ne, ab_rdw_eq, ab_rdf_in, ab_td2, ab_tm2]
        exact hQ _ (ac_t8.trans ac_t8) ab_rdw_eq
      · simp (disch := omega) only [do_X11_curve, rX11_curve_0, rX11_curve_1, rX11_curve_2, rX11_curve_3, rX11_curve_4, rX11_curve_5, rX11_curve_8, rX11_curve_11, rX11_curve_12, rX11_curve_15, rX11_curve_18, rX11_curve_20, rX11_curve_23, rX11_curve_25, rX11_curve_27, rX11_curve_30, rX11_curve_31, rX11_curve_32, rX11_curve_35, rX11_curve_36, rX11_curve_39, rX11_curve_42, rX11_curve_45, gS_1, hg, c1, ne_eq, not_false_eq_true, not_true_eq_false, true_and, and_true, and_self, true_imp_iff, false_imp_iff, imp_self, Bool.not_false, Bool.not_true, reduceCtorEq, ab_isJ, ab_psh, ab_cats, Bool.false_eq_true, if_true, if_false, ab_shf, ab_shw, Int.le_refl, Classical.not_not, Int.zero_add, forall_const, ↓ab_itT, ↓ab_itF, ab_anT, ab_w32_id, ab_rdf_ne, ab_rdw_ne, ab_rdw_eq, ab_rdf_in, ab_td2, ab_tm2]
        exact hQ _ (ac_t8.trans ac_t8) ab_rdw_eq
  · simp only [if_neg hT] at hQ
    have := ac_pT1 hT
    simp (disch := omega) only [do_X11_curve, rX11_curve_0, rX11_curve_1, rX11_curve_2, rX11_curve_3, rX11_curve_4, rX11_curve_5, rX11_curve_8, rX11_curve_11, rX11_curve_12, rX11_curve_15, rX11_curve_18, rX11_curve_20, rX11_curve_23, rX11_curve_25, rX11_curve_27, rX11_curve_30, rX11_curve_31, rX11_curve_32, rX11_curve_35, rX11_curve_36, rX11_curve_39, rX11_curve_42, rX11_curve_45, gS_1, hg, c1, this, ne_eq, not_false_eq_true, not_true_eq_false, true_and, and_true, and_self, true_imp_iff, false_imp_iff, imp_self, Bool.not_false, Bool.not_true, reduceCtorEq, ab_isJ, ab_psh, ab_cats, Bool.false_eq_true, if_true, if_false, ab_shf, ab_shw, Int.le_refl, Classical.not_not, Int.zero_add, forall_const, ↓ab_itT, ↓ab_itF, ab_anT, ab_w32_id, ab_rdf_ne, ab_rdw_ne, ab_rdw_eq, ab_rdf_in, ab_td2, ab_tm2]
    exact hQ _ ac_t8 ab_rdw_eq
def ac_bd (f : Int → Int) : Int := ab_it (fun d b => if f b < f d then d else b) 24 1 0
theorem cq_bestDay_l (h : ac_CI σ K κ) (hS : ac_St σ 31 κ v) (hb : ac_isB κ b) (hp : ac_isP κ p) (hq : ac_isP κ q) (fin : Int) (hQ : ∀ τ, ab_Same ac_PD σ τ → Q (some (ab_I fin)) τ) : ∀ (n : Nat) (days best : Int) (τ : ab_S) (l7 : ab_V), ab_Same ac_PD σ τ → 1 ≤ days → days + n = 25 → ab_it (fun d b' => if ac_OT κ (v b) b' b p q 0 < ac_OT κ (v b) d b p q 0 then d else b') n days best = fin → ab_Run X 98 29 (5, 0, 0) [ab_R 1, ab_I b, ab_I p, ab_I q, ab_I best, ab_I (ac_OT κ (v b) best b p q 0), ab_I days, l7] [] τ Q := by
  intro n
  induction n with
  | zero =>
    intro days best τ l7 hs h1 h2 hf
    rw [rX11_bestDay_29]
    have e : best = fin := hf
    subst e
    simp (disch := omega) only [rX11_bestDay_31, rX11_bestDay_33, rX11_bestDay_68, rX11_bestDay_70, ne_eq, not_false_eq_true, not_true_eq_false, true_and, and_true, and_self, true_imp_iff, false_imp_iff, imp_self, Bool.not_false, Bool.not_true, reduceCtorEq, ab_isJ, ab_psh, ab_cats, Bool.false_eq_true, if_true, if_false, ab_shf, ab_shw, Int.le_refl, Classical.not_not, Int.zero_add, forall_const, ↓ab_itT, ↓ab_itF, ab_anT, ab_w32_id, ab_rdf_ne, ab_rdw_ne, ab_rdw_eq, ab_rdf_in, ab_td2, ab_tm2]
    exact hQ τ hs
  | succ n ih =>
    intro days best τ l7 hs h1 h2 hf
    have ht := h.same hs.ofD
    have g2 := ht.1
    rw [rX11_bestDay_29]
    simp (disch := omega) only [rX11_bestDay_31, rX11_bestDay_33, rX11_bestDay_36, rX11_bestDay_37, rX11_bestDay_38, rX11_bestDay_39, rX11_bestDay_40, rX11_bestDay_42, gS_1, g2, ne_eq, not_false_eq_true, not_true_eq_false, true_and, and_true, and_self, true_imp_iff, false_imp_iff, imp_self, Bool.not_false, Bool.not_true, reduceCtorEq, ab_isJ, ab_psh, ab_cats, Bool.false_eq_true, if_true, if_false, ab_shf, ab_shw, Int.le_refl, Classical.not_not, Int.zero_add, forall_const, ↓ab_itT, ↓ab_itF, ab_anT, ab_w32_id, ab_rdf_ne, ab_rdw_ne, ab_rdw_eq, ab_rdf_in, ab_td2, ab_tm2]
    refine sp_leftOdds ht (hS.same (by omega) hs.ofD) hb hp hq (by omega) (fun τ' sm w => ?_)
    rw [ab_it] at hf
    by_cases hc : ac_OT κ (v b) best b p q 0 < ac_OT κ (v b) days b p q 0
    · rw [if_pos hc] at hf
      simp (disch := omega) only [rX11_bestDay_45, rX11_bestDay_47, rX11_bestDay_49, rX11_bestDay_51, rX11_bestDay_54, rX11_bestDay_56, rX11_bestDay_58, rX11_bestDay_60, rX11_bestDay_62, rX11_bestDay_65, ne_eq, not_false_eq_true, not_true_eq_false, true_and, and_true, and_self, true_imp_iff, false_imp_iff, imp_self, Bool.not_false, Bool.not_true, reduceCtorEq, ab_isJ, ab_psh, ab_cats, Bool.false_eq_true, if_true, if_false, ab_shf, ab_shw, Int.le_refl, Classical.not_not, Int.zero_add, forall_const, ↓ab_itT, ↓ab_itF, ab_anT, ab_w32_id, ab_rdf_ne, ab_rdw_ne, ab_rdw_eq, ab_rdf_in, ab_td2, ab_tm2]
      exact ih (days + 1) days τ' _ (hs.trans sm) (by omega) (by omega) hf
    · rw [if_neg hc] at hf
      simp (disch := omega) only [rX11_bestDay_45, rX11_bestDay_47, rX11_bestDay_49, rX11_bestDay_51, rX11_bestDay_54, rX11_bestDay_56, rX11_bestDay_58, rX11_bestDay_60, rX11_bestDay_62, rX11_bestDay_65, ne_eq, not_false_eq_true, not_true_eq_false, true_and, and_true, and_self, true_imp_iff, false_imp_iff, imp_self, Bool.not_false, Bool.not_true, reduceCtorEq, ab_isJ, ab_psh, ab_cats, Bool.false_eq_true, if_true, if_false, ab_shf, ab_shw, Int.le_refl, Classical.not_not, Int.zero_add, forall_const, ↓ab_itT, ↓ab_itF, ab_anT, ab_w32_id, ab_rdf_ne, ab_rdw_ne, ab_rdw_eq, ab_rdf_in, ab_td2, ab_tm2]
      exact ih (days + 1) best τ' _ (hs.trans sm) (by omega) (by omega) hf
theorem cq_bestDay (h : ac_CI σ K κ) (hS : ac_St σ 31 κ v) (hV : ac_VB κ v) (hQ : ∀ τ, ab_Same ac_PC σ τ → ab_rd τ 1 8 = ac_pT κ b p q → Q (some (ab_I (if ac_pT κ b p q = 0 then ac_bd (fun d => ac_OT κ (v b) d b p q 0) else -1))) τ) : ab_Do X 98 [ab_R 1, ab_I b, ab_I p, ab_I q] σ Q := by
  have hg := h.1
  have c1 := fun Q' => sp_pairTrouble (X := X) (Q := Q') (b := b) (p := p) (q := q) h
  by_cases hT : ac_pT κ b p q = 0
  · rw [hT, if_pos rfl] at hQ
    rw [hT] at c1
    obtain ⟨hb, hu⟩ := ac_pT0 hT
    have hk := h.kk hb
    have h' := h.same (ac_t8 (t := 0))
    have S' := hS.same (by omega) (ac_t8 (t := 0))
    simp (disch := omega) only [do_X11_bestDay, rX11_bestDay_0, rX11_bestDay_1, rX11_bestDay_2, rX11_bestDay_3, rX11_bestDay_4, rX11_bestDay_5, rX11_bestDay_8, rX11_bestDay_11, rX11_bestDay_12, rX11_bestDay_15, rX11_bestDay_18, rX11_bestDay_19, rX11_bestDay_20, rX11_bestDay_21, rX11_bestDay_23, rX11_bestDay_24, rX11_bestDay_26, rX11_bestDay_27, gS_1, hg, c1, ne_eq, not_false_eq_true, not_true_eq_false, true_and, and_true, and_self, true_imp_iff, false_imp_iff, imp_self, Bool.not_false, Bool.not_true, reduceCtorEq, ab_isJ, ab_psh, ab_cats, Bool.false_eq_true, if_true, if_false, ab_shf, ab_shw, Int.le_refl, Classical.not_not, Int.zero_add, forall_const, ↓ab_itT, ↓ab_itF, ab_anT, ab_w32_id, ab_rdf_ne, ab_rdw_ne, ab_rdw_eq, ab_rdf_in, ab_td2, ab_tm2]
    rw [rX11_bestDay_29]
    simp (disch := omega) only [rX11_bestDay_31, rX11_bestDay_33, rX11_bestDay_36, rX11_bestDay_37, rX11_bestDay_38, rX11_bestDay_39, rX11_bestDay_40, rX11_bestDay_42, gS_1, hg, ne_eq, not_false_eq_true, not_true_eq_false, true_and, and_true, and_self, true_imp_iff, false_imp_iff, imp_self, Bool.not_false, Bool.not_true, reduceCtorEq, ab_isJ, ab_psh, ab_cats, Bool.false_eq_true, if_true, if_false, ab_shf, ab_shw, Int.le_refl, Classical.not_not, Int.zero_add, forall_const, ↓ab_itT, ↓ab_itF, ab_anT, ab_w32_id, ab_rdf_ne, ab_rdw_ne, ab_rdw_eq, ab_rdf_in, ab_td2, ab_tm2]
    refine sp_leftOdds h' S' hb hu.1 hu.2.1 (by omega) (fun τ' sm w => ?_)
    have ob := ac_O_b (kd := v b) (d := 0) (p := p) (hp := ac_h κ p b 0) (q := q) (hq := ac_h κ q b 1) (mv := 2) (x := 0) hk hb
    have ob' : 0 ≤ ac_OT κ (v b) 0 b p q 0 ∧ ac_OT κ (v b) 0 b p q 0 ≤ 3000 := ob
    simp (disch := omega) only [rX11_bestDay_45, rX11_bestDay_47, rX11_bestDay_49, rX11_bestDay_51, rX11_bestDay_54, rX11_bestDay_56, rX11_bestDay_58, rX11_bestDay_60, rX11_bestDay_62, rX11_bestDay_65, ne_eq, not_false_eq_true, not_true_eq_false, true_and, and_true, and_self, true_imp_iff, false_imp_iff, imp_self, Bool.not_false, Bool.not_true, reduceCtorEq, ab_isJ, ab_psh, ab_cats, Bool.false_eq_true, if_true, if_false, ab_shf, ab_shw, Int.le_refl, Classical.not_not, Int.zero_add, forall_const, ↓ab_itT, ↓ab_itF, ab_anT, ab_w32_id, ab_rdf_ne, ab_rdw_ne, ab_rdw_eq, ab_rdf_in, ab_td2, ab_tm2]
    refine cq_bestDay_l h' S' hb hu.1 hu.2.1 _ (fun τ sm' => hQ τ (ac_t8.trans sm'.ofD) (by rw [sm'.d1, ab_rdw_eq])) 24 1 0 τ' _ sm (by omega) (by omega) rfl
  · rw [if_neg hT] at hQ
    simp (disch := omega) only [do_X11_bestDay, rX11_bestDay_0, rX11_bestDay_1, rX11_bestDay_2, rX11_bestDay_3, rX11_bestDay_4, rX11_bestDay_5, rX11_bestDay_8, rX11_bestDay_11, rX11_bestDay_12, rX11_bestDay_15, rX11_bestDay_18, rX11_bestDay_19, gS_1, hg, c1, ne_eq, not_false_eq_true, not_true_eq_false, true_and, and_true, and_self, true_imp_iff, false_imp_iff, imp_self, Bool.not_false, Bool.not_true, reduceCtorEq, ab_isJ, ab_psh, ab_cats, Bool.false_eq_true, if_true, if_false, ab_shf, ab_shw, Int.le_refl, Classical.not_not, Int.zero_add, forall_const, ↓ab_itT, ↓ab_itF, ab_anT, ab_w32_id, ab_rdf_ne, ab_rdw_ne, ab_rdw_eq, ab_rdf_in, ab_td2, ab_tm2]
    exact hQ _ ac_t8 ab_rdw_eq
end
