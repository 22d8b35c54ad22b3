section
variable {X : ab_X} {σ τ : ab_S} {Q : Option ab_V → ab_S → Prop} {K : Int} {κ : ac_K} {v : Int → Int} {kd d b p hp q hq mv : Int}
def ac_thk (κ : ac_K) (b arm : Int) : Int := ab_it (fun i s => s + κ 15 (6 * (2 * b + arm) + i)) (κ 14 (2 * b + arm)).toNat 0 0
theorem sp_thicknessOf_l {B arm : Int} (hC : ac_KCb σ K κ b) (hB : B = K + 5 + 3 * b) (hG : ac_BoneG σ B) (ha : arm = 0 ∨ arm = 1) (hbb : ac_bB κ b) : ∀ (n : Nat) (i s : Int), 0 ≤ i → 0 ≤ s → s ≤ 9 * i → i + n = κ 14 (2 * b + arm) → (ab_Run X 9 4 (1, 0, 0) [ab_R B, ab_I arm, ab_I s, ab_I i] [] σ Q ↔ Q (some (ab_I (ab_it (fun i s => s + κ 15 (6 * (2 * b + arm) + i)) n i s))) σ) := by
  intro n
  obtain ⟨qz, q1, q2, q3, q4, q5⟩ := hG
  have e1 := (hC.2.2 arm ha).1
  have e2 := (hC.2.2 arm ha).2
  have bb := hbb.2.2 arm ha
  rw [← hB] at e1
  induction n with
  | zero =>
    intro i s h1 h2 h3 h4
    rw [rX1_thicknessOf_4]
    simp (disch := omega) only [rX1_thicknessOf_5, rX1_thicknessOf_6, rX1_thicknessOf_9, rX1_thicknessOf_10, rX1_thicknessOf_11, rX1_thicknessOf_29, rX1_thicknessOf_30, q1, q2, q4, e1, ab_it, ne_eq, not_false_eq_true, not_true_eq_false, true_and, and_true, and_self, true_imp_iff, false_imp_iff, imp_self, Bool.not_false, Bool.not_true, reduceCtorEq, ab_isJ, ab_psh, ab_cats, Bool.false_eq_true, if_true, if_false, ab_shf, ab_shw, Int.le_refl, Classical.not_not, Int.zero_add, forall_const, ↓ab_itT, ↓ab_itF, ab_anT, ab_w32_id, ab_rdf_ne, ab_rdw_ne, ab_rdw_eq, ab_rdf_in, ab_td2, ab_tm2]
  | succ n ih =>
    intro i s h1 h2 h3 h4
    have t := e2 i h1 (by omega)
    have tb := bb.2 i h1 (by omega)
    rw [← hB] at t
    have key := ih (i + 1) (s + κ 15 (6 * (2 * b + arm) + i)) (by omega) (by omega) (by omega) (by omega)
    rw [ab_it, ← key, rX1_thicknessOf_4]
    simp (disch := omega) only [rX1_thicknessOf_5, rX1_thicknessOf_6, rX1_thicknessOf_9, rX1_thicknessOf_10, rX1_thicknessOf_11, rX1_thicknessOf_14, rX1_thicknessOf_15, rX1_thicknessOf_16, rX1_thicknessOf_17, rX1_thicknessOf_18, rX1_thicknessOf_21, rX1_thicknessOf_22, rX1_thicknessOf_23, rX1_thicknessOf_26, do_X1_thickAt, rX1_thickAt_0, rX1_thickAt_1, rX1_thickAt_4, rX1_thickAt_6, rX1_thickAt_7, rX1_thickAt_8, rX1_thickAt_9, rX1_thickAt_10, rX1_thickAt_11, q1, q2, q3, q4, q5, e1, t, ne_eq, not_false_eq_true, not_true_eq_false, true_and, and_true, and_self, true_imp_iff, false_imp_iff, imp_self, Bool.not_false, Bool.not_true, reduceCtorEq, ab_isJ, ab_psh, ab_cats, Bool.false_eq_true, if_true, if_false, ab_shf, ab_shw, Int.le_refl, Classical.not_not, Int.zero_add, forall_const, ↓ab_itT, ↓ab_itF, ab_anT, ab_w32_id, ab_rdf_ne, ab_rdw_ne, ab_rdw_eq, ab_rdf_in, ab_td2, ab_tm2]
theorem sp_thicknessOf {arm : Int} (h : ac_CI σ K κ) (hb : ac_isB κ b) (ha : arm = 0 ∨ arm = 1) : ab_Do X 9 [ab_R (K + 5 + 3 * b), ab_I arm] σ Q ↔ Q (some (ab_I (ac_thk κ b arm))) σ := by
  have hk := h.kk hb
  obtain ⟨hg, h7, hC, hN, -⟩ := h
  have n5 := hN.1.2
  have gB := hg.bone hC.1 hb.1 (by omega)
  have nb := ac_n_b hk hb ha
  unfold ac_n at nb
  unfold ac_thk
  rw [← sp_thicknessOf_l (X := X) (Q := Q) (hC.2.2.2.1 b hb.1 hb.2) rfl gB.1 ha (hk.2.2.1.1 b hb.1 hb.2) (κ 14 (2 * b + arm)).toNat 0 0 (by omega) (by omega) (by omega) (by omega)]
  simp (disch := omega) only [do_X1_thicknessOf, rX1_thicknessOf_0, rX1_thicknessOf_1, rX1_thicknessOf_2, rX1_thicknessOf_3, ne_eq, not_false_eq_true, not_true_eq_false, true_and, and_true, and_self, true_imp_iff, false_imp_iff, imp_self, Bool.not_false, Bool.not_true, reduceCtorEq, ab_isJ, ab_psh, ab_cats, Bool.false_eq_true, if_true, if_false, ab_shf, ab_shw, Int.le_refl, Classical.not_not, Int.zero_add, forall_const, ↓ab_itT, ↓ab_itF, ab_anT, ab_w32_id, ab_rdf_ne, ab_rdw_ne, ab_rdw_eq, ab_rdf_in, ab_td2, ab_tm2]
abbrev ac_tL (κ : ac_K) (b c x y : Int) : Prop := (κ 16 c = 1 ∧ ac_thk κ b 1 ≤ ac_thk κ b 0) ∨ (¬ κ 16 c = 1 ∧ y ≤ x)
theorem sp_takesLeft {c x y : Int} (h : ac_CI σ K κ) (hb : ac_isB κ b) (hc : ac_isP κ c) : ab_Do X 144 [ab_R 1, ab_I b, ab_I c, ab_I x, ab_I y] σ Q ↔ Q (some (ab_I (if ac_tL κ b c x y then 1 else 0))) σ := by
  have c0 := fun Q' => sp_thicknessOf (X := X) (Q := Q') (arm := 0) h hb (Or.inl rfl)
  have c1 := fun Q' => sp_thicknessOf (X := X) (Q := Q') (arm := 1) h hb (Or.inr rfl)
  obtain ⟨hg, h7, hC, hN, -⟩ := h
  have hv : K = 5 ∨ K = 329 := hC.1
  have n5 := hN.1.2
  have n6 := hN.2.1.2
  obtain ⟨s0, s1, s2, s3, s4, p6, p8, -, -⟩ := hg.kit hC.1
  have gB := hg.bone hC.1 hb.1 (by omega)
  have gP := hg.pers hC.1 hc.1 (by omega)
  have fp := (hC.2.2.2.2.1 c hc.1 hc.2).1
  have gb := gB.1.2.1
  by_cases k1 : κ 16 c = 1
  · by_cases k2 : ac_thk κ b 1 ≤ ac_thk κ b 0
    · rw [if_pos (Or.inl ⟨k1, k2⟩)]
      simp (disch := omega) only [do_X11_takesLeft, rX11_takesLeft_0, rX11_takesLeft_1, rX11_takesLeft_4, rX11_takesLeft_7, rX11_takesLeft_8, rX11_takesLeft_9, rX11_takesLeft_12, rX11_takesLeft_13, rX11_takesLeft_16, rX11_takesLeft_17, rX11_takesLeft_20, rX11_takesLeft_23, rX11_takesLeft_24, rX11_takesLeft_25, rX11_takesLeft_26, rX11_takesLeft_29, rX11_takesLeft_30, rX11_takesLeft_33, rX11_takesLeft_36, rX11_takesLeft_37, rX11_takesLeft_38, rX11_takesLeft_39, rX11_takesLeft_42, rX11_takesLeft_45, rX11_takesLeft_46, rX11_takesLeft_49, rX11_takesLeft_50, rX11_takesLeft_51, rX11_takesLeft_52, rX11_takesLeft_54, rX11_takesLeft_57, rX11_takesLeft_58, rX11_takesLeft_61, rX11_takesLeft_62, gS_1, hg, h7, s0, s1, s2, p6, p8, gB.2, gP.1, gP.2, gb, fp, c0, c1, ne_eq, not_false_eq_true, not_true_eq_false, true_and, and_true, and_self, true_imp_iff, false_imp_iff, imp_self, Bool.not_false, Bool.not_true, reduceCtorEq, ab_isJ, ab_psh, ab_cats, Bool.false_eq_true, if_true, if_false, ab_shf, ab_shw, Int.le_refl, Classical.not_not, Int.zero_add, forall_const, ↓ab_itT, ↓ab_itF, ab_anT, ab_w32_id, ab_rdf_ne, ab_rdw_ne, ab_rdw_eq, ab_rdf_in, ab_td2, ab_tm2, or_true]
    · rw [if_neg (by omega)]
      simp (disch := omega) only [do_X11_takesLeft, rX11_takesLeft_0, rX11_takesLeft_1, rX11_takesLeft_4, rX11_takesLeft_7, rX11_takesLeft_8, rX11_takesLeft_9, rX11_takesLeft_12, rX11_takesLeft_13, rX11_takesLeft_16, rX11_takesLeft_17, rX11_takesLeft_20, rX11_takesLeft_23, rX11_takesLeft_24, rX11_takesLeft_25, rX11_takesLeft_26, rX11_takesLeft_29, rX11_takesLeft_30, rX11_takesLeft_33, rX11_takesLeft_36, rX11_takesLeft_37, rX11_takesLeft_38, rX11_takesLeft_39, rX11_takesLeft_42, rX11_takesLeft_45, rX11_takesLeft_46, rX11_takesLeft_49, rX11_takesLeft_50, rX11_takesLeft_51, rX11_takesLeft_52, rX11_takesLeft_54, rX11_takesLeft_57, rX11_takesLeft_58, rX11_takesLeft_61, rX11_takesLeft_62, gS_1, hg, h7, s0, s1, s2, p6, p8, gB.2, gP.1, gP.2, gb, fp, c0, c1, ne_eq, not_false_eq_true, not_true_eq_false, true_and, and_true, and_self, true_imp_iff, false_imp_iff, imp_self, Bool.not_false, Bool.not_true, reduceCtorEq, ab_isJ, ab_psh, ab_cats, Bool.false_eq_true, if_true, if_false, ab_shf, ab_shw, Int.le_refl, Classical.not_not, Int.zero_add, forall_const, ↓ab_itT, ↓ab_itF, ab_anT, ab_w32_id, ab_rdf_ne, ab_rdw_ne, ab_rdw_eq, ab_rdf_in, ab_td2, ab_tm2, true_or]
  · by_cases k2 : y ≤ x
    · rw [if_pos (Or.inr ⟨k1, k2⟩)]
      simp (disch := omega) only [do_X11_takesLeft, rX11_takesLeft_0, rX11_takesLeft_1, rX11_takesLeft_4, rX11_takesLeft_7, rX11_takesLeft_8, rX11_takesLeft_9, rX11_takesLeft_12, rX11_takesLeft_13, rX11_takesLeft_16, rX11_takesLeft_17, rX11_takesLeft_20, rX11_takesLeft_23, rX11_takesLeft_24, rX11_takesLeft_25, rX11_takesLeft_26, rX11_takesLeft_29, rX11_takesLeft_30, rX11_takesLeft_33, rX11_takesLeft_36, rX11_takesLeft_37, rX11_takesLeft_38, rX11_takesLeft_39, rX11_takesLeft_42, rX11_takesLeft_45, rX11_takesLeft_46, rX11_takesLeft_49, rX11_takesLeft_50, rX11_takesLeft_51, rX11_takesLeft_52, rX11_takesLeft_54, rX11_takesLeft_57, rX11_takesLeft_58, rX11_takesLeft_61, rX11_takesLeft_62, gS_1, hg, h7, s0, s1, s2, p6, p8, gB.2, gP.1, gP.2, gb, fp, c0, c1, ne_eq, not_false_eq_true, not_true_eq_false, true_and, and_true, and_self, true_imp_iff, false_imp_iff, imp_self, Bool.not_false, Bool.not_true, reduceCtorEq, ab_isJ, ab_psh, ab_cats, Bool.false_eq_true, if_true, if_false, ab_shf, ab_shw, Int.le_refl, Classical.not_not, Int.zero_add, forall_const, ↓ab_itT, ↓ab_itF, ab_anT, ab_w32_id, ab_rdf_ne, ab_rdw_ne, ab_rdw_eq, ab_rdf_in, ab_td2, ab_tm2, or_true]
    · rw [if_neg (by omega)]
      simp (disch := omega) only [do_X11_takesLeft, rX11_takesLeft_0, rX11_takesLeft_1, rX11_takesLeft_4, rX11_takesLeft_7, rX11_takesLeft_8, rX11_takesLeft_9, rX11_takesLeft_12, rX11_takesLeft_13, rX11_takesLeft_16, rX11_takesLeft_17, rX11_takesLeft_20, rX11_takesLeft_23, rX11_takesLeft_24, rX11_takesLeft_25, rX11_takesLeft_26, rX11_takesLeft_29, rX11_takesLeft_30, rX11_takesLeft_33, rX11_takesLeft_36, rX11_takesLeft_37, rX11_takesLeft_38, rX11_takesLeft_39, rX11_takesLeft_42, rX11_takesLeft_45, rX11_takesLeft_46, rX11_takesLeft_49, rX11_takesLeft_50, rX11_takesLeft_51, rX11_takesLeft_52, rX11_takesLeft_54, rX11_takesLeft_57, rX11_takesLeft_58, rX11_takesLeft_61, rX11_takesLeft_62, gS_1, hg, h7, s0, s1, s2, p6, p8, gB.2, gP.1, gP.2, gb, fp, c0, c1, ne_eq, not_false_eq_true, not_true_eq_false, true_and, and_true, and_self, true_imp_iff, false_imp_iff, imp_self, Bool.not_false, Bool.not_true, reduceCtorEq, ab_isJ, ab_psh, ab_cats, Bool.false_eq_true, if_true, if_false, ab_shf, ab_shw, Int.le_refl, Classical.not_not, Int.zero_add, forall_const, ↓ab_itT, ↓ab_itF, ab_anT, ab_w32_id, ab_rdf_ne, ab_rdw_ne, ab_rdw_eq, ab_rdf_in, ab_td2, ab_tm2, true_or]
/-- twice p's odds by a law -/
def ac_tw (κ : ac_K) (kd d law b p q : Int) : Int := if law = 0 then 2 * ac_OT κ kd d b p q 0 else if law = 1 then 2 * (if ac_tL κ b p (ac_OT κ kd d b p q 0) (ac_OT κ kd d b q p 1) then ac_OT κ kd d b p q 0 else ac_OT κ kd d b q p 1) else if law = 2 then 2 * (if ac_tL κ b q (ac_OT κ kd d b q p 0) (ac_OT κ kd d b p q 1) then ac_OT κ kd d b q p 1 else ac_OT κ kd d b p q 0) else ac_OT κ kd d b p q 0 + ac_OT κ kd d b q p 1
theorem ac_OT_b {x : Int} (hk : ac_KK κ) (hb : ac_isB κ b) : 0 ≤ ac_OT κ kd d b p q x ∧ ac_OT κ kd d b p q x ≤ 3000 := ac_O_b hk hb
theorem ac_tw_b {law : Int} (hk : ac_KK κ) (hb : ac_isB κ b) : 0 ≤ ac_tw κ kd d law b p q ∧ ac_tw κ kd d law b p q ≤ 6000 := by
  have a1 := ac_OT_b (kd := kd) (d := d) (p := p) (q := q) (x := 0) hk hb
  have a2 := ac_OT_b (kd := kd) (d := d) (p := q) (q := p) (x := 1) hk hb
  unfold ac_tw
  split
  · omega
  · split
    · split <;> omega
    · split
      · split <;> omega
      · omega
theorem sp_twiceByLaw {law : Int} (h : ac_CI σ K κ) (hS : ac_St σ 31 κ v) (hV : ac_VB κ v) (hb : ac_isB κ b) (hp : ac_isP κ p) (hq : ac_isP κ q) (hl : 0 ≤ law ∧ law ≤ 3) (hQ : ∀ τ, ab_Same ac_PD σ τ → ab_rd τ 134 3 = 100 * (ac_n κ b 0 + ac_n κ b 1) → Q (some (ab_I (ac_tw κ (v b) (v (5 + b)) law b p q))) τ) : ab_Do X 143 [ab_R 1, ab_I law, ab_I b, ab_I p, ab_I q] σ Q := by
  have hk := h.kk hb
  have h1 := h
  obtain ⟨hg, h7, hC, hN, -⟩ := h1
  have n5 := hN.1.2
  have s := hS.1 b hb.1 hb.2
  have bb := (hV.1 b hb.1 hb.2).2
  have c1 := fun Q' => sp_takeNow (X := X) (Q := Q') hg h7 hC hk hb s.1 s.2.1 bb
  have h2 := h.same (ac_tk_same (κ := κ) (kd := v b) (d := v (5 + b)))
  have c2 := fun Q' => sp_gripsAsTold (X := X) (Q := Q') h2.1 h2.2.1 h2.2.2.1 hk ac_tk_Tk bb hb hq hp
  have e0 := ac_h_b hk hb (Or.inl rfl) hp
  have e1 := ac_h_b hk hb (Or.inr rfl) hq
  have e2 := ac_h_b hk hb (Or.inl rfl) hq
  have e3 := ac_h_b hk hb (Or.inr rfl) hp
  have L := ac_gk_Ld (mv := 2) h2.1 hk bb hb hq hp (show 0 ≤ ac_h κ q b 0 ∧ ac_h κ q b 0 ≤ 6 by omega) (show 0 ≤ ac_h κ p b 1 ∧ ac_h κ p b 1 ≤ 6 by omega) ac_tk_4 ac_tk_8
  have c3 := fun Q' => sp_weighLaidK (X := X) (Q := Q') L
  have g2 := h2.1
  have g3 := L.1
  simp (disch := omega) only [do_X11_twiceByLaw, rX11_twiceByLaw_0, rX11_twiceByLaw_1, rX11_twiceByLaw_2, rX11_twiceByLaw_5, rX11_twiceByLaw_6, rX11_twiceByLaw_7, rX11_twiceByLaw_9, rX11_twiceByLaw_10, rX11_twiceByLaw_13, rX11_twiceByLaw_14, rX11_twiceByLaw_17, gS_1, gP_1_3, gS_134, hg, g2, g3, c1, c2, c3, ne_eq, not_false_eq_true, not_true_eq_false, true_and, and_true, and_self, true_imp_iff, false_imp_iff, imp_self, Bool.not_false, Bool.not_true, reduceCtorEq, ab_isJ, ab_psh, ab_cats, Bool.false_eq_true, if_true, if_false, ab_shf, ab_shw, Int.le_refl, Classical.not_not, Int.zero_add, forall_const, ↓ab_itT, ↓ab_itF, ab_anT, ab_w32_id, ab_rdf_ne, ab_rdw_ne, ab_rdw_eq, ab_rdf_in, ab_td2, ab_tm2]
  have r0 : ab_rd (ac_wls (ac_gk (ac_tk σ κ (v b) (v (5 + b))) κ (v (5 + b)) b q (ac_h κ q b 0) p (ac_h κ p b 1) 2) κ (v b) (v (5 + b)) b q (ac_h κ q b 0) p (ac_h κ p b 1) 2) 147 0 = ac_OT κ (v b) (v (5 + b)) b q p 0 := ac_wls_w (by omega)
  have r1 : ab_rd (ac_wls (ac_gk (ac_tk σ κ (v b) (v (5 + b))) κ (v (5 + b)) b q (ac_h κ q b 0) p (ac_h κ p b 1) 2) κ (v b) (v (5 + b)) b q (ac_h κ q b 0) p (ac_h κ p b 1) 2) 147 1 = ac_OT κ (v b) (v (5 + b)) b q p 1 := ac_wls_w (by omega)
  have sm : ab_Same ac_PC σ (ac_wls (ac_gk (ac_tk σ κ (v b) (v (5 + b))) κ (v (5 + b)) b q (ac_h κ q b 0) p (ac_h κ p b 1) 2) κ (v b) (v (5 + b)) b q (ac_h κ q b 0) p (ac_h κ p b 1) 2) := (ac_tk_same.trans ac_gk_same).trans ac_wls_same
  have sm1 : ∀ f, ab_rd (ac_wls (ac_gk (ac_tk σ κ (v b) (v (5 + b))) κ (v (5 + b)) b q (ac_h κ q b 0) p (ac_h κ p b 1) 2) κ (v b) (v (5 + b)) b q (ac_h κ q b 0) p (ac_h κ p b 1) 2) 1 f = ab_rd σ 1 f := fun f => by
    rw [ac_wls_r1 (by omega), ac_gk_r1 (by omega), ac_tk_rd (by omega)]
  have a4 : ∀ f, f ≠ 3 → f ≠ 9 → ab_rd (ac_wls (ac_gk (ac_tk σ κ (v b) (v (5 + b))) κ (v (5 + b)) b q (ac_h κ q b 0) p (ac_h κ p b 1) 2) κ (v b) (v (5 + b)) b q (ac_h κ q b 0) p (ac_h κ p b 1) 2) 134 f = ab_rd (ac_tk σ κ (v b) (v (5 + b))) 134 f := fun f f3 f9 => by
    unfold ac_wls
    rw [ab_rdf_ne (by omega), ab_rdw_ne (by omega), ac_all_ne (by omega), ac_all_ne (by omega), ac_gk_134 f9]
  generalize ac_wls (ac_gk (ac_tk σ κ (v b) (v (5 + b))) κ (v (5 + b)) b q (ac_h κ q b 0) p (ac_h κ p b 1) 2) κ (v b) (v (5 + b)) b q (ac_h κ q b 0) p (ac_h κ p b 1) 2 = τ at *
  have h3 := h.same sm
  have gt := h3.1
  have tk : ac_Tk τ κ (v (5 + b)) := by
    have := ac_tk_Tk (σ := σ) (κ := κ) (kd := v b) (d := v (5 + b))
    unfold ac_Tk at this ⊢
    rw [a4 5 (by omega) (by omega), a4 6 (by omega) (by omega), a4 7 (by omega) (by omega)]
    exact this
  have c4 := fun Q' => sp_gripsAsTold (X := X) (Q := Q') h3.1 h3.2.1 h3.2.2.1 hk tk bb hb hp hq
  have L2 := ac_gk_Ld (mv := 2) (kd := v b) h3.1 hk bb hb hp hq (show 0 ≤ ac_h κ p b 0 ∧ ac_h κ p b 0 ≤ 6 by omega) (show 0 ≤ ac_h κ q b 1 ∧ ac_h κ q b 1 ≤ 6 by omega) (by rw [a4 4 (by omega) (by omega), ac_tk_4]) (by rw [a4 8 (by omega) (by omega), ac_tk_8])
  have c5 := fun Q' => sp_weighLaidK (X := X) (Q := Q') L2
  have g4 := L2.1
  simp (disch := omega) only [rX11_twiceByLaw_20, rX11_twiceByLaw_21, rX11_twiceByLaw_24, rX11_twiceByLaw_27, rX11_twiceByLaw_28, rX11_twiceByLaw_29, rX11_twiceByLaw_31, rX11_twiceByLaw_32, rX11_twiceByLaw_35, rX11_twiceByLaw_38, rX11_twiceByLaw_39, rX11_twiceByLaw_40, rX11_twiceByLaw_42, rX11_twiceByLaw_43, rX11_twiceByLaw_44, rX11_twiceByLaw_45, rX11_twiceByLaw_47, rX11_twiceByLaw_50, rX11_twiceByLaw_51, rX11_twiceByLaw_54, gS_1, gP_1_3, gS_134, gP_134_2, gS_147, gt, g4, r0, r1, c4, c5, ne_eq, not_false_eq_true, not_true_eq_false, true_and, and_true, and_self, true_imp_iff, false_imp_iff, imp_self, Bool.not_false, Bool.not_true, reduceCtorEq, ab_isJ, ab_psh, ab_cats, Bool.false_eq_true, if_true, if_false, ab_shf, ab_shw, Int.le_refl, Classical.not_not, Int.zero_add, forall_const, ↓ab_itT, ↓ab_itF, ab_anT, ab_w32_id, ab_rdf_ne, ab_rdw_ne, ab_rdw_eq, ab_rdf_in, ab_td2, ab_tm2]
  have q0 : ab_rd (ac_wls (ac_gk τ κ (v (5 + b)) b p (ac_h κ p b 0) q (ac_h κ q b 1) 2) κ (v b) (v (5 + b)) b p (ac_h κ p b 0) q (ac_h κ q b 1) 2) 147 0 = ac_OT κ (v b) (v (5 + b)) b p q 0 := ac_wls_w (by omega)
  have q1 : ab_rd (ac_wls (ac_gk τ κ (v (5 + b)) b p (ac_h κ p b 0) q (ac_h κ q b 1) 2) κ (v b) (v (5 + b)) b p (ac_h κ p b 0) q (ac_h κ q b 1) 2) 147 1 = ac_OT κ (v b) (v (5 + b)) b p q 1 := ac_wls_w (by omega)
  have q3 : ab_rd (ac_wls (ac_gk τ κ (v (5 + b)) b p (ac_h κ p b 0) q (ac_h κ q b 1) 2) κ (v b) (v (5 + b)) b p (ac_h κ p b 0) q (ac_h κ q b 1) 2) 134 3 = 100 * (ac_n κ b 0 + ac_n κ b 1) := ac_wls_3
  have smB : ab_Same ac_PC σ (ac_wls (ac_gk τ κ (v (5 + b)) b p (ac_h κ p b 0) q (ac_h κ q b 1) 2) κ (v b) (v (5 + b)) b p (ac_h κ p b 0) q (ac_h κ q b 1) 2) := (sm.trans ac_gk_same).trans ac_wls_same
  have smB1 : ∀ f, ab_rd (ac_wls (ac_gk τ κ (v (5 + b)) b p (ac_h κ p b 0) q (ac_h κ q b 1) 2) κ (v b) (v (5 + b)) b p (ac_h κ p b 0) q (ac_h κ q b 1) 2) 1 f = ab_rd σ 1 f := fun f => by
    rw [ac_wls_r1 (by omega), ac_gk_r1 (by omega), sm1]
  generalize ac_wls (ac_gk τ κ (v (5 + b)) b p (ac_h κ p b 0) q (ac_h κ q b 1) 2) κ (v b) (v (5 + b)) b p (ac_h κ p b 0) q (ac_h κ q b 1) 2 = υ at *
  have h4 := h.same smB
  have gu := h4.1
  have fin := hQ υ (ab_Same.toD smB smB1) q3
  have o1 := ac_OT_b (kd := v b) (d := v (5 + b)) (p := p) (q := q) (x := 0) hk hb
  have o2 := ac_OT_b (kd := v b) (d := v (5 + b)) (p := q) (q := p) (x := 1) hk hb
  have c6 := fun x y Q' => sp_takesLeft (X := X) (Q := Q') (c := p) (x := x) (y := y) h4 hb hp
  have c7 := fun x y Q' => sp_takesLeft (X := X) (Q := Q') (c := q) (x := x) (y := y) h4 hb hq
  unfold ac_tw at fin
  have hl' : law = 0 ∨ law = 1 ∨ law = 2 ∨ law = 3 := by omega
  rcases hl' with rfl | rfl | rfl | rfl
  · simp (disch := omega) only [rX11_twiceByLaw_57, rX11_twiceByLaw_58, rX11_twiceByLaw_61, rX11_twiceByLaw_64, rX11_twiceByLaw_65, rX11_twiceByLaw_66, rX11_twiceByLaw_68, rX11_twiceByLaw_69, rX11_twiceByLaw_72, rX11_twiceByLaw_75, rX11_twiceByLaw_76, rX11_twiceByLaw_77, rX11_twiceByLaw_79, rX11_twiceByLaw_108, rX11_twiceByLaw_109, rX11_twiceByLaw_111, rX11_twiceByLaw_112, rX11_twiceByLaw_80_0, gS_1, gP_1_3, gS_134, gP_134_2, gS_147, gu, q0, q1, ne_eq, not_false_eq_true, not_true_eq_false, true_and, and_true, and_self, true_imp_iff, false_imp_iff, imp_self, Bool.not_false, Bool.not_true, reduceCtorEq, ab_isJ, ab_psh, ab_cats, Bool.false_eq_true, if_true, if_false, ab_shf, ab_shw, Int.le_refl, Classical.not_not, Int.zero_add, forall_const, ↓ab_itT, ↓ab_itF, ab_anT, ab_w32_id, ab_rdf_ne, ab_rdw_ne, ab_rdw_eq, ab_rdf_in, ab_td2, ab_tm2]
    try exact fin
  · by_cases ht : ac_tL κ b p (ac_OT κ (v b) (v (5 + b)) b p q 0) (ac_OT κ (v b) (v (5 + b)) b q p 1)
    · rw [if_neg (by omega), if_pos rfl, if_pos ht] at fin
      simp (disch := omega) only [rX11_twiceByLaw_57, rX11_twiceByLaw_58, rX11_twiceByLaw_61, rX11_twiceByLaw_64, rX11_twiceByLaw_65, rX11_twiceByLaw_66, rX11_twiceByLaw_68, rX11_twiceByLaw_69, rX11_twiceByLaw_72, rX11_twiceByLaw_75, rX11_twiceByLaw_76, rX11_twiceByLaw_77, rX11_twiceByLaw_79, rX11_twiceByLaw_113, rX11_twiceByLaw_114, rX11_twiceByLaw_115, rX11_twiceByLaw_116, rX11_twiceByLaw_117, rX11_twiceByLaw_119, rX11_twiceByLaw_121, rX11_twiceByLaw_124, rX11_twiceByLaw_127, rX11_twiceByLaw_129, rX11_twiceByLaw_132, rX11_twiceByLaw_134, rX11_twiceByLaw_135, rX11_twiceByLaw_80_1, gS_1, gP_1_3, gS_134, gP_134_2, gS_147, gu, q0, q1, c6, if_pos ht, ne_eq, not_false_eq_true, not_true_eq_false, true_and, and_true, and_self, true_imp_iff, false_imp_iff, imp_self, Bool.not_false, Bool.not_true, reduceCtorEq, ab_isJ, ab_psh, ab_cats, Bool.false_eq_true, if_true, if_false, ab_shf, ab_shw, Int.le_refl, Classical.not_not, Int.zero_add, forall_const, ↓ab_itT, ↓ab_itF, ab_anT, ab_w32_id, ab_rdf_ne, ab_rdw_ne, ab_rdw_eq, ab_rdf_in, ab_td2, ab_tm2]
      try exact fin
    · rw [if_neg (by omega), if_pos rfl, if_neg ht] at fin
      simp (disch := omega) only [rX11_twiceByLaw_57, rX11_twiceByLaw_58, rX11_twiceByLaw_61, rX11_twiceByLaw_64, rX11_twiceByLaw_65, rX11_twiceByLaw_66, rX11_twiceByLaw_68, rX11_twiceByLaw_69, rX11_twiceByLaw_72, rX11_twiceByLaw_75, rX11_twiceByLaw_76, rX11_twiceByLaw_77, rX11_twiceByLaw_79, rX11_twiceByLaw_113, rX11_twiceByLaw_114, rX11_twiceByLaw_115, rX11_twiceByLaw_116, rX11_twiceByLaw_117, rX11_twiceByLaw_119, rX11_twiceByLaw_121, rX11_twiceByLaw_124, rX11_twiceByLaw_127, rX11_twiceByLaw_129, rX11_twiceByLaw_132, rX11_twiceByLaw_134, rX11_twiceByLaw_135, rX11_twiceByLaw_80_1, gS_1, gP_1_3, gS_134, gP_134_2, gS_147, gu, q0, q1, c6, if_neg ht, ne_eq, not_false_eq_true, not_true_eq_false, true_and, and_true, and_self, true_imp_iff, false_imp_iff, imp_self, Bool.not_false, Bool.not_true, reduceCtorEq, ab_isJ, ab_psh, ab_cats, Bool.false_eq_true, if_true, if_false, ab_shf, ab_shw, Int.le_refl, Classical.not_not, Int.zero_add, forall_const, ↓ab_itT, ↓ab_itF, ab_anT, ab_w32_id, ab_rdf_ne, ab_rdw_ne, ab_rdw_eq, ab_rdf_in, ab_td2, ab_tm2]
      try exact fin
  · by_cases ht : ac_tL κ b q (ac_OT κ (v b) (v (5 + b)) b q p 0) (ac_OT κ (v b) (v (5 + b)) b p q 1)
    · rw [if_neg (by omega), if_neg (by omega), if_pos rfl, if_pos ht] at fin
      simp (disch := omega) only [rX11_twiceByLaw_57, rX11_twiceByLaw_58, rX11_twiceByLaw_61, rX11_twiceByLaw_64, rX11_twiceByLaw_65, rX11_twiceByLaw_66, rX11_twiceByLaw_68, rX11_twiceByLaw_69, rX11_twiceByLaw_72, rX11_twiceByLaw_75, rX11_twiceByLaw_76, rX11_twiceByLaw_77, rX11_twiceByLaw_79, rX11_twiceByLaw_136, rX11_twiceByLaw_137, rX11_twiceByLaw_138, rX11_twiceByLaw_139, rX11_twiceByLaw_141, rX11_twiceByLaw_143, rX11_twiceByLaw_145, rX11_twiceByLaw_148, rX11_twiceByLaw_151, rX11_twiceByLaw_153, rX11_twiceByLaw_156, rX11_twiceByLaw_158, rX11_twiceByLaw_159, rX11_twiceByLaw_80_2, gS_1, gP_1_3, gS_134, gP_134_2, gS_147, gu, q0, q1, c7, if_pos ht, ne_eq, not_false_eq_true, not_true_eq_false, true_and, and_true, and_self, true_imp_iff, false_imp_iff, imp_self, Bool.not_false, Bool.not_true, reduceCtorEq, ab_isJ, ab_psh, ab_cats, Bool.false_eq_true, if_true, if_false, ab_shf, ab_shw, Int.le_refl, Classical.not_not, Int.zero_add, forall_const, ↓ab_itT, ↓ab_itF, ab_anT, ab_w32_id, ab_rdf_ne, ab_rdw_ne, ab_rdw_eq, ab_rdf_in, ab_td2, ab_tm2]
      try exact fin
    · rw [if_neg (by omega), if_neg (by omega), if_pos rfl, if_neg ht] at fin
      simp (disch := omega) only [rX11_twiceByLaw_57, rX11_twiceByLaw_58, rX11_twiceByLaw_61, rX11_twiceByLaw_64, rX11_twiceByLaw_65, rX11_twiceByLaw_66, rX11_twiceByLaw_68, rX11_twiceByLaw_69, rX11_twiceByLaw_72, rX11_twiceByLaw_75, rX11_twiceByLaw_76, rX11_twiceByLaw_77, rX11_twiceByLaw_79, rX11_twiceByLaw_136, rX11_twiceByLaw_137, rX11_twiceByLaw_138, rX11_twiceByLaw_139, rX11_twiceByLaw_141, rX11_twiceByLaw_143, rX11_twiceByLaw_145, rX11_twiceByLaw_148, rX11_twiceByLaw_151, rX11_twiceByLaw_153, rX11_twiceByLaw_156, rX11_twiceByLaw_158, rX11_twiceByLaw_159, rX11_twiceByLaw_80_2, gS_1, gP_1_3, gS_134, gP_134_2, gS_147, gu, q0, q1, c7, if_neg ht, ne_eq, not_false_eq_true, not_true_eq_false, true_and, and_true, and_self, true_imp_iff, false_imp_iff, imp_self, Bool.not_false, Bool.not_true, reduceCtorEq, ab_isJ, ab_psh, ab_cats, Bool.false_eq_true, if_true, if_false, ab_shf, ab_shw, Int.le_refl, Classical.not_not, Int.zero_add, forall_const, ↓ab_itT, ↓ab_itF, ab_anT, ab_w32_id, ab_rdf_ne, ab_rdw_ne, ab_rdw_eq, ab_rdf_in, ab_td2, ab_tm2]
      try exact fin
  · simp (disch := omega) only [rX11_twiceByLaw_57, rX11_twiceByLaw_58, rX11_twiceByLaw_61, rX11_twiceByLaw_64, rX11_twiceByLaw_65, rX11_twiceByLaw_66, rX11_twiceByLaw_68, rX11_twiceByLaw_69, rX11_twiceByLaw_72, rX11_twiceByLaw_75, rX11_twiceByLaw_76, rX11_twiceByLaw_77, rX11_twiceByLaw_79, rX11_twiceByLaw_160, rX11_twiceByLaw_162, rX11_twiceByLaw_164, rX11_twiceByLaw_165, rX11_twiceByLaw_80_d, gS_1, gP_1_3, gS_134, gP_134_2, gS_147, gu, q0, q1, ne_eq, not_false_eq_true, not_true_eq_false, true_and, and_true, and_self, true_imp_iff, false_imp_iff, imp_self, Bool.not_false, Bool.not_true, reduceCtorEq, ab_isJ, ab_psh, ab_cats, Bool.false_eq_true, if_true, if_false, ab_shf, ab_shw, Int.le_refl, Classical.not_not, Int.zero_add, forall_const, ↓ab_itT, ↓ab_itF, ab_anT, ab_w32_id, ab_rdf_ne, ab_rdw_ne, ab_rdw_eq, ab_rdf_in, ab_td2, ab_tm2]
    try exact fin
def ac_fT (κ : ac_K) (law b p q : Int) : Int := if 0 ≤ law ∧ law ≤ 3 then ac_pT κ b p q else 1
theorem cq_lawOdds {law lo : Int} (h : ac_CI σ K κ) (hS : ac_St σ 31 κ v) (hV : ac_VB κ v) (hlo : lo = 0 ∨ lo = 1) (hQ : ∀ τ, ab_Same ac_PC σ τ → ab_rd τ 1 8 = ac_fT κ law b p q → Q (some (ab_J (if ac_fT κ law b p q = 0 then ac_pt (ac_tw κ (v b) (v (5 + b)) law b p q) (2 * (100 * (ac_n κ b 0 + ac_n κ b 1))) lo else -1))) τ) : ab_Do X 99 [ab_R 1, ab_I law, ab_I b, ab_I p, ab_I q, ab_I lo] σ Q := by
  have hg := h.1
  have c1 := fun Q' => sp_pairTrouble (X := X) (Q := Q') (b := b) (p := p) (q := q) h
  unfold ac_fT at hQ
  by_cases hl : 0 ≤ law ∧ law ≤ 3
  · simp only [if_pos hl] at hQ
    by_cases hT : ac_pT κ b p q = 0
    · rw [hT, if_pos rfl] at hQ
      rw [hT] at c1
      obtain ⟨hb, hu⟩ := ac_pT0 hT
      have hk := h.kk hb
      have h' := h.same (ac_t8 (t := 0))
      have S' := hS.same (by omega) (ac_t8 (t := 0))
      have n0 := ac_n_b hk hb (Or.inl rfl)
      have n1 := ac_n_b hk hb (Or.inr rfl)
      simp (disch := omega) only [do_X11_lawOdds, rX11_lawOdds_0, rX11_lawOdds_1, rX11_lawOdds_2, rX11_lawOdds_5, rX11_lawOdds_6, rX11_lawOdds_7, rX11_lawOdds_10, rX11_lawOdds_11, rX11_lawOdds_12, rX11_lawOdds_13, rX11_lawOdds_15, rX11_lawOdds_18, rX11_lawOdds_21, rX11_lawOdds_22, rX11_lawOdds_25, rX11_lawOdds_26, rX11_lawOdds_29, rX11_lawOdds_32, rX11_lawOdds_35, rX11_lawOdds_36, rX11_lawOdds_37, rX11_lawOdds_38, rX11_lawOdds_39, rX11_lawOdds_40, rX11_lawOdds_42, gS_1, hg, c1, ne_eq, not_false_eq_true, not_true_eq_false, true_and, and_true, and_self, true_imp_iff, false_imp_iff, imp_self, Bool.not_false, Bool.not_true, reduceCtorEq, ab_isJ, ab_psh, ab_cats, Bool.false_eq_true, if_true, if_false, ab_shf, ab_shw, Int.le_refl, Classical.not_not, Int.zero_add, forall_const, ↓ab_itT, ↓ab_itF, ab_anT, ab_w32_id, ab_rdf_ne, ab_rdw_ne, ab_rdw_eq, ab_rdf_in, ab_td2, ab_tm2]
      refine sp_twiceByLaw h' S' hV hb hu.1 hu.2.1 hl (fun τ sm w => ?_)
      have ob := ac_tw_b (kd := v b) (d := v (5 + b)) (law := law) (p := p) (q := q) hk hb
      have c4 := fun τ Q' => sp_part (X := X) (σ := τ) (Q := Q') (up := ac_tw κ (v b) (v (5 + b)) law b p q) (low := 2 * (100 * (ac_n κ b 0 + ac_n κ b 1))) (by omega) (by omega) hlo
      have g2 := (h'.same sm.ofD).1
      simp (disch := omega) only [rX11_lawOdds_45, rX11_lawOdds_47, rX11_lawOdds_49, rX11_lawOdds_50, rX11_lawOdds_53, rX11_lawOdds_54, rX11_lawOdds_57, rX11_lawOdds_60, rX11_lawOdds_61, rX11_lawOdds_62, rX11_lawOdds_64, rX11_lawOdds_67, gS_1, gP_1_3, gS_134, g2, w, c4, ne_eq, not_false_eq_true, not_true_eq_false, true_and, and_true, and_self, true_imp_iff, false_imp_iff, imp_self, Bool.not_false, Bool.not_true, reduceCtorEq, ab_isJ, ab_psh, ab_cats, Bool.false_eq_true, if_true, if_false, ab_shf, ab_shw, Int.le_refl, Classical.not_not, Int.zero_add, forall_const, ↓ab_itT, ↓ab_itF, ab_anT, ab_w32_id, ab_rdf_ne, ab_rdw_ne, ab_rdw_eq, ab_rdf_in, ab_td2, ab_tm2, ab_w64_id]
      exact hQ τ (ac_t8.trans sm.ofD) (by rw [sm.d1, ab_rdw_eq])
    · rw [if_neg hT] at hQ
      simp (disch := omega) only [do_X11_lawOdds, rX11_lawOdds_0, rX11_lawOdds_1, rX11_lawOdds_2, rX11_lawOdds_5, rX11_lawOdds_6, rX11_lawOdds_7, rX11_lawOdds_10, rX11_lawOdds_11, rX11_lawOdds_12, rX11_lawOdds_13, rX11_lawOdds_15, rX11_lawOdds_18, rX11_lawOdds_21, rX11_lawOdds_22, rX11_lawOdds_25, rX11_lawOdds_26, rX11_lawOdds_29, rX11_lawOdds_32, rX11_lawOdds_35, gS_1, hg, c1, ne_eq, not_false_eq_true, not_true_eq_false, true_and, and_true, and_self, true_imp_iff, false_imp_iff, imp_self, Bool.not_false, Bool.not_true, reduceCtorEq, ab_isJ, ab_psh, ab_cats, Bool.false_eq_true, if_true, if_false, ab_shf, ab_shw, Int.le_refl, Classical.not_not, Int.zero_add, forall_const, ↓ab_itT, ↓ab_itF, ab_anT, ab_w32_id, ab_rdf_ne, ab_rdw_ne, ab_rdw_eq, ab_rdf_in, ab_td2, ab_tm2]
      exact hQ _ ac_t8 ab_rdw_eq
  · simp only [if_neg hl] at hQ
    by_cases hl0 : 0 ≤ law
    · simp (disch := omega) only [do_X11_lawOdds, rX11_lawOdds_0, rX11_lawOdds_1, rX11_lawOdds_2, rX11_lawOdds_5, rX11_lawOdds_6, rX11_lawOdds_7, rX11_lawOdds_10, rX11_lawOdds_11, rX11_lawOdds_12, rX11_lawOdds_13, rX11_lawOdds_15, rX11_lawOdds_18, rX11_lawOdds_21, rX11_lawOdds_22, rX11_lawOdds_25, rX11_lawOdds_26, rX11_lawOdds_29, rX11_lawOdds_32, rX11_lawOdds_35, gS_1, hg, c1, ne_eq, not_false_eq_true, not_true_eq_false, true_and, and_true, and_self, true_imp_iff, false_imp_iff, imp_self, Bool.not_false, Bool.not_true, reduceCtorEq, ab_isJ, ab_psh, ab_cats, Bool.false_eq_true, if_true, if_false, ab_shf, ab_shw, Int.le_refl, Classical.not_not, Int.zero_add, forall_const, ↓ab_itT, ↓ab_itF, ab_anT, ab_w32_id, ab_rdf_ne, ab_rdw_ne, ab_rdw_eq, ab_rdf_in, ab_td2, ab_tm2]
      exact hQ _ ac_t8 ab_rdw_eq
    · simp (disch := omega) only [do_X11_lawOdds, rX11_lawOdds_0, rX11_lawOdds_1, rX11_lawOdds_2, rX11_lawOdds_5, rX11_lawOdds_6, rX11_lawOdds_7, rX11_lawOdds_10, rX11_lawOdds_11, rX11_lawOdds_12, rX11_lawOdds_13, rX11_lawOdds_15, rX11_lawOdds_18, rX11_lawOdds_21, rX11_lawOdds_22, rX11_lawOdds_25, rX11_lawOdds_26, rX11_lawOdds_29, rX11_lawOdds_32, rX11_lawOdds_35, gS_1, hg, c1, ne_eq, not_false_eq_true, not_true_eq_false, true_and, and_true, and_self, true_imp_iff, false_imp_iff, imp_self, Bool.not_false, Bool.not_true, reduceCtorEq, ab_isJ, ab_psh, ab_cats, Bool.false_eq_true, if_true, if_false, ab_shf, ab_shw, Int.le_refl, Classical.not_not, Int.zero_add, forall_const, ↓ab_itT, ↓ab_itF, ab_anT, ab_w32_id, ab_rdf_ne, ab_rdw_ne, ab_rdw_eq, ab_rdf_in, ab_td2, ab_tm2]
      exact hQ _ ac_t8 ab_rdw_eq
def ac_abs (x : Int) : Int := if 0 ≤ x then x else 0 - x
def ac_fr (f : Int → Int) : Int := ab_it (fun l b => if f l < f b then l else b) 3 1 0
theorem cq_fairest_l (h : ac_CI σ K κ) (hS : ac_St σ 31 κ v) (hV : ac_VB κ v) (hb : ac_isB κ b) (hp : ac_isP κ p) (hq : ac_isP κ q) (f : Int → Int) (hf : f = fun l => ac_abs (ac_tw κ (v b) (v (5 + b)) l b p q - 100 * (ac_n κ b 0 + ac_n κ b 1))) (fin : Int) (hQ : ∀ τ, ab_Same ac_PD σ τ → Q (some (ab_I fin)) τ) : ∀ (n : Nat) (law best : Int) (τ : ab_S) (l7 : ab_V), ab_Same ac_PD σ τ → 1 ≤ law → law + n = 4 → ab_it (fun l b' => if f l < f b' then l else b') n law best = fin → ab_Run X 100 31 (5, 0, 0) [ab_R 1, ab_I b, ab_I p, ab_I q, ab_I best, ab_I (f best), ab_I law, l7] [] τ Q := by
  have hk := h.kk hb
  have n0 := ac_n_b hk hb (Or.inl rfl)
  have n1 := ac_n_b hk hb (Or.inr rfl)
  intro n
  induction n with
  | zero =>
    intro law best τ l7 hs h1 h2 he
    rw [rX11_fairest_31]
    have e : best = fin := he
    subst e
    simp (disch := omega) only [rX11_fairest_33, rX11_fairest_34, rX11_fairest_80, rX11_fairest_82, ne_eq, not_false_eq_true, not_true_eq_false, true_and, and_true, and_self, true_imp_iff, false_imp_iff, imp_self, Bool.not_false, Bool.not_true, reduceCtorEq, ab_isJ, ab_psh, ab_cats, Bool.false_eq_true, if_true, if_false, ab_shf, ab_shw, Int.le_refl, Classical.not_not, Int.zero_add, forall_const, ↓ab_itT, ↓ab_itF, ab_anT, ab_w32_id, ab_rdf_ne, ab_rdw_ne, ab_rdw_eq, ab_rdf_in, ab_td2, ab_tm2]
    exact hQ τ hs
  | succ n ih =>
    intro law best τ l7 hs h1 h2 he
    have ht := h.same hs.ofD
    have g2 := ht.1
    rw [rX11_fairest_31]
    simp (disch := omega) only [rX11_fairest_33, rX11_fairest_34, rX11_fairest_37, rX11_fairest_38, rX11_fairest_40, rX11_fairest_41, rX11_fairest_42, rX11_fairest_43, gS_1, g2, ne_eq, not_false_eq_true, not_true_eq_false, true_and, and_true, and_self, true_imp_iff, false_imp_iff, imp_self, Bool.not_false, Bool.not_true, reduceCtorEq, ab_isJ, ab_psh, ab_cats, Bool.false_eq_true, if_true, if_false, ab_shf, ab_shw, Int.le_refl, Classical.not_not, Int.zero_add, forall_const, ↓ab_itT, ↓ab_itF, ab_anT, ab_w32_id, ab_rdf_ne, ab_rdw_ne, ab_rdw_eq, ab_rdf_in, ab_td2, ab_tm2]
    refine sp_twiceByLaw ht (hS.same (by omega) hs.ofD) hV hb hp hq (by omega) (fun τ' sm w => ?_)
    have g3 := (ht.same sm.ofD).1
    have ob := ac_tw_b (kd := v b) (d := v (5 + b)) (law := law) (p := p) (q := q) hk hb
    rw [ab_it] at he
    have fl : (if 0 ≤ ac_tw κ (v b) (v (5 + b)) law b p q - 100 * (ac_n κ b 0 + ac_n κ b 1) then ac_tw κ (v b) (v (5 + b)) law b p q - 100 * (ac_n κ b 0 + ac_n κ b 1) else ab_w32 (0 - (ac_tw κ (v b) (v (5 + b)) law b p q - 100 * (ac_n κ b 0 + ac_n κ b 1)))) = f law := by
      rw [hf, ab_w32_id (by omega) (by omega)]
      rfl
    by_cases hc : f law < f best
    · rw [if_pos hc] at he
      simp (disch := omega) only [rX11_fairest_46, rX11_fairest_47, rX11_fairest_50, rX11_fairest_53, gS_1, gP_1_3, gS_134, g3, w, ne_eq, not_false_eq_true, not_true_eq_false, true_and, and_true, and_self, true_imp_iff, false_imp_iff, imp_self, Bool.not_false, Bool.not_true, reduceCtorEq, ab_isJ, ab_psh, ab_cats, Bool.false_eq_true, if_true, if_false, ab_shf, ab_shw, Int.le_refl, Classical.not_not, Int.zero_add, forall_const, ↓ab_itT, ↓ab_itF, ab_anT, ab_w32_id, ab_rdf_ne, ab_rdw_ne, ab_rdw_eq, ab_rdf_in, ab_td2, ab_tm2]
      rw [rX11_fairest_54, fl]
      simp (disch := omega) only [rX11_fairest_57, rX11_fairest_59, rX11_fairest_61, rX11_fairest_63, rX11_fairest_66, rX11_fairest_68, rX11_fairest_70, rX11_fairest_72, rX11_fairest_74, rX11_fairest_77, ne_eq, not_false_eq_true, not_true_eq_false, true_and, and_true, and_self, true_imp_iff, false_imp_iff, imp_self, Bool.not_false, Bool.not_true, reduceCtorEq, ab_isJ, ab_psh, ab_cats, Bool.false_eq_true, if_true, if_false, ab_shf, ab_shw, Int.le_refl, Classical.not_not, Int.zero_add, forall_const, ↓ab_itT, ↓ab_itF, ab_anT, ab_w32_id, ab_rdf_ne, ab_rdw_ne, ab_rdw_eq, ab_rdf_in, ab_td2, ab_tm2]
      exact ih (law + 1) law τ' _ (hs.trans sm) (by omega) (by omega) he
    · rw [if_neg hc] at he
      simp (disch := omega) only [rX11_fairest_46, rX11_fairest_47, rX11_fairest_50, rX11_fairest_53, gS_1, gP_1_3, gS_134, g3, w, ne_eq, not_false_eq_true, not_true_eq_false, true_and, and_true, and_self, true_imp_iff, false_imp_iff, imp_self, Bool.not_false, Bool.not_true, reduceCtorEq, ab_isJ, ab_psh, ab_cats, Bool.false_eq_true, if_true, if_false, ab_shf, ab_shw, Int.le_refl, Classical.not_not, Int.zero_add, forall_const, ↓ab_itT, ↓ab_itF, ab_anT, ab_w32_id, ab_rdf_ne, ab_rdw_ne, ab_rdw_eq, ab_rdf_in, ab_td2, ab_tm2]
      rw [rX11_fairest_54, fl]
      simp (disch := omega) only [rX11_fairest_57, rX11_fairest_59, rX11_fairest_61, rX11_fairest_63, rX11_fairest_66, rX11_fairest_68, rX11_fairest_70, rX11_fairest_72, rX11_fairest_74, rX11_fairest_77, ne_eq, not_false_eq_true, not_true_eq_false, true_and, and_true, and_self, true_imp_iff, false_imp_iff, imp_self, Bool.not_false, Bool.not_true, reduceCtorEq, ab_isJ, ab_psh, ab_cats, Bool.false_eq_true, if_true, if_false, ab_shf, ab_shw, Int.le_refl, Classical.not_not, Int.zero_add, forall_const, ↓ab_itT, ↓ab_itF, ab_anT, ab_w32_id, ab_rdf_ne, ab_rdw_ne, ab_rdw_eq, ab_rdf_in, ab_td2, ab_tm2]
      exact ih (law + 1) best τ' _ (hs.trans sm) (by omega) (by omega) he
theorem cq_fairest (h : ac_CI σ K κ) (hS : ac_St σ 31 κ v) (hV : ac_VB κ v) (hQ : ∀ τ, ab_Same ac_PC σ τ → ab_rd τ 1 8 = ac_pT κ b p q → Q (some (ab_I (if ac_pT κ b p q = 0 then ac_fr (fun l => ac_abs (ac_tw κ (v b) (v (5 + b)) l b p q - 100 * (ac_n κ b 0 + ac_n κ b 1))) else -1))) τ) : ab_Do X 100 [ab_R 1, ab_I b, ab_I p, ab_I q] σ Q := by
  have hg := h.1
  have c1 := fun Q' => sp_pairTrouble (X := X) (Q := Q') (b := b) (p := p) (q := q) h
  by_cases hT : ac_pT κ b p q = 0
  · rw [hT, if_pos rfl] at hQ
    rw [hT] at c1
    obtain ⟨hb, hu⟩ := ac_pT0 hT
    have hk := h.kk hb
    have n0 := ac_n_b hk hb (Or.inl rfl)
    have n1 := ac_n_b hk hb (Or.inr rfl)
    have h' := h.same (ac_t8 (t := 0))
    have S' := hS.same (by omega) (ac_t8 (t := 0))
    simp (disch := omega) only [do_X11_fairest, rX11_fairest_0, rX11_fairest_1, rX11_fairest_2, rX11_fairest_3, rX11_fairest_4, rX11_fairest_5, rX11_fairest_8, rX11_fairest_11, rX11_fairest_12, rX11_fairest_15, rX11_fairest_18, rX11_fairest_19, rX11_fairest_20, rX11_fairest_21, rX11_fairest_23, rX11_fairest_26, rX11_fairest_28, rX11_fairest_29, gS_1, hg, c1, ne_eq, not_false_eq_true, not_true_eq_false, true_and, and_true, and_self, true_imp_iff, false_imp_iff, imp_self, Bool.not_false, Bool.not_true, reduceCtorEq, ab_isJ, ab_psh, ab_cats, Bool.false_eq_true, if_true, if_false, ab_shf, ab_shw, Int.le_refl, Classical.not_not, Int.zero_add, forall_const, ↓ab_itT, ↓ab_itF, ab_anT, ab_w32_id, ab_rdf_ne, ab_rdw_ne, ab_rdw_eq, ab_rdf_in, ab_td2, ab_tm2]
    rw [rX11_fairest_31]
    simp (disch := omega) only [rX11_fairest_33, rX11_fairest_34, rX11_fairest_37, rX11_fairest_38, rX11_fairest_40, rX11_fairest_41, rX11_fairest_42, rX11_fairest_43, gS_1, hg, ne_eq, not_false_eq_true, not_true_eq_false, true_and, and_true, and_self, true_imp_iff, false_imp_iff, imp_self, Bool.not_false, Bool.not_true, reduceCtorEq, ab_isJ, ab_psh, ab_cats, Bool.false_eq_true, if_true, if_false, ab_shf, ab_shw, Int.le_refl, Classical.not_not, Int.zero_add, forall_const, ↓ab_itT, ↓ab_itF, ab_anT, ab_w32_id, ab_rdf_ne, ab_rdw_ne, ab_rdw_eq, ab_rdf_in, ab_td2, ab_tm2]
    refine sp_twiceByLaw h' S' hV hb hu.1 hu.2.1 (by omega) (fun τ' sm w => ?_)
    have g3 := (h'.same sm.ofD).1
    have ob := ac_tw_b (kd := v b) (d := v (5 + b)) (law := 0) (p := p) (q := q) hk hb
    have fl : (if 0 ≤ ac_tw κ (v b) (v (5 + b)) 0 b p q - 100 * (ac_n κ b 0 + ac_n κ b 1) then ac_tw κ (v b) (v (5 + b)) 0 b p q - 100 * (ac_n κ b 0 + ac_n κ b 1) else ab_w32 (0 - (ac_tw κ (v b) (v (5 + b)) 0 b p q - 100 * (ac_n κ b 0 + ac_n κ b 1)))) = ac_abs (ac_tw κ (v b) (v (5 + b)) 0 b p q - 100 * (ac_n κ b 0 + ac_n κ b 1)) := by
      rw [ab_w32_id (by omega) (by omega)]
      rfl
    have fb : ac_abs (ac_tw κ (v b) (v (5 + b)) 0 b p q - 100 * (ac_n κ b 0 + ac_n κ b 1)) ≤ 10000 := by
      unfold ac_abs
      split <;> omega
    simp (disch := omega) only [rX11_fairest_46, rX11_fairest_47, rX11_fairest_50, rX11_fairest_53, gS_1, gP_1_3, gS_134, g3, w, ne_eq, not_false_eq_true, not_true_eq_false, true_and, and_true, and_self, true_imp_iff, false_imp_iff, imp_self, Bool.not_false, Bool.not_true, reduceCtorEq, ab_isJ, ab_psh, ab_cats, Bool.false_eq_true, if_true, if_false, ab_shf, ab_shw, Int.le_refl, Classical.not_not, Int.zero_add, forall_const, ↓ab_itT, ↓ab_itF, ab_anT, ab_w32_id, ab_rdf_ne, ab_rdw_ne, ab_rdw_eq, ab_rdf_in, ab_td2, ab_tm2]
    rw [rX11_fairest_54, fl]
    have key := fun l7 => cq_fairest_l (X := X) (Q := Q) h' S' hV hb hu.1 hu.2.1 (fun l => ac_abs (ac_tw κ (v b) (v (5 + b)) l b p q - 100 * (ac_n κ b 0 + ac_n κ b 1))) rfl _ (fun τ sm' => hQ τ (ac_t8.trans sm'.ofD) (by rw [sm'.d1, ab_rdw_eq])) 3 1 0 τ' l7 sm (by omega) (by omega) rfl
    generalize ac_abs (ac_tw κ (v b) (v (5 + b)) 0 b p q - 100 * (ac_n κ b 0 + ac_n κ b 1)) = ff at fb key ⊢
    simp (disch := omega) only [rX11_fairest_57, rX11_fairest_59, rX11_fairest_61, rX11_fairest_63, rX11_fairest_66, rX11_fairest_68, rX11_fairest_70, rX11_fairest_72, rX11_fairest_74, rX11_fairest_77, ne_eq, not_false_eq_true, not_true_eq_false, true_and, and_true, and_self, true_imp_iff, false_imp_iff, imp_self, Bool.not_false, Bool.not_true, reduceCtorEq, ab_isJ, ab_psh, ab_cats, Bool.false_eq_true, if_true, if_false, ab_shf, ab_shw, Int.le_refl, Classical.not_not, Int.zero_add, forall_const, ↓ab_itT, ↓ab_itF, ab_anT, ab_w32_id, ab_rdf_ne, ab_rdw_ne, ab_rdw_eq, ab_rdf_in, ab_td2, ab_tm2]
    exact key _
  · rw [if_neg hT] at hQ
    simp (disch := omega) only [do_X11_fairest, rX11_fairest_0, rX11_fairest_1, rX11_fairest_2, rX11_fairest_3, rX11_fairest_4, rX11_fairest_5, rX11_fairest_8, rX11_fairest_11, rX11_fairest_12, rX11_fairest_15, rX11_fairest_18, rX11_fairest_19, gS_1, hg, c1, ne_eq, not_false_eq_true, not_true_eq_false, true_and, and_true, and_self, true_imp_iff, false_imp_iff, imp_self, Bool.not_false, Bool.not_true, reduceCtorEq, ab_isJ, ab_psh, ab_cats, Bool.false_eq_true, if_true, if_false, ab_shf, ab_shw, Int.le_refl, Classical.not_not, Int.zero_add, forall_const, ↓ab_itT, ↓ab_itF, ab_anT, ab_w32_id, ab_rdf_ne, ab_rdw_ne, ab_rdw_eq, ab_rdf_in, ab_td2, ab_tm2]
    exact hQ _ ac_t8 ab_rdw_eq
end
