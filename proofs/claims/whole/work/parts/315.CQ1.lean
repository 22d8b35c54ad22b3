section
variable {X : ab_X} {σ τ : ab_S} {Q : Option ab_V → ab_S → Prop} {K : Int} {κ : ac_K} {kd d b p hp q hq mv : Int}
def ac_bit (x b : Int) : Int := x / 2 ^ b.toNat % 2
/-- a state S of the class holds v -/
def ac_St (σ : ab_S) (S : Int) (κ : ac_K) (v : Int → Int) : Prop := (∀ b, 0 ≤ b → b < κ 5 0 → ab_rd σ (S + 1) b = v b ∧ ab_rd σ (S + 2) b = v (5 + b) ∧ ab_rd σ (S + 3) b = ac_bit (v 10) b) ∧ (∀ p, 0 ≤ p → p < 6 → ab_rd σ (S + 4) p = v (11 + p)) ∧ ab_rd σ S 4 = v 17
def ac_VB (κ : ac_K) (v : Int → Int) : Prop := (∀ b, 0 ≤ b → b < κ 5 0 → (0 ≤ v b ∧ v b ≤ 2) ∧ (0 ≤ v (5 + b) ∧ v (5 + b) ≤ 24)) ∧ (0 ≤ v 10 ∧ v 10 < 32) ∧ (0 ≤ v 17 ∧ v 17 ≤ 65536)
/-- laid -/
def ac_Ld (σ : ab_S) (κ : ac_K) (kd d b p hp q hq mv : Int) : Prop := ab_Geo σ ∧ ac_ArmB σ 135 (ac_n κ b 0) (ac_N κ p q hp p (ac_m0 mv)) (ac_S κ d b 0 p) ∧ ac_ArmB σ 141 (ac_n κ b 1) (ac_N κ p q hq q (ac_m1 mv)) (ac_S κ d b 1 q) ∧ ab_rd σ 134 4 = ac_lp κ kd d ∧ ab_rd σ 134 8 = κ 4 0 ∧ (0 ≤ κ 4 0 ∧ κ 4 0 ≤ 99)
theorem ac_gk_Ld (hg : ab_Geo σ) (hk : ac_KK κ) (hd : 0 ≤ d ∧ d ≤ 24) (hb : 0 ≤ b ∧ b < κ 5 0) (hpp : 0 ≤ p ∧ p < κ 6 0) (hqq : 0 ≤ q ∧ q < κ 6 0) (hh0 : 0 ≤ hp ∧ hp ≤ 6) (hh1 : 0 ≤ hq ∧ hq ≤ 6) (h4 : ab_rd σ 134 4 = ac_lp κ kd d) (h8 : ab_rd σ 134 8 = κ 4 0) : ac_Ld (ac_gk σ κ d b p hp q hq mv) κ kd d b p hp q hq mv :=
  ⟨hg.same ac_gk_same ac_PC_pt, ac_gk_0 hk hd hb hpp hqq hh0, ac_gk_1 hk hd hb hpp hqq hh1, by rw [ac_gk_134 (by omega), h4], by rw [ac_gk_134 (by omega), h8], hk.1.2.2.2.2⟩
def ac_rst (σ : ab_S) (κ : ac_K) (d b p hp q hq mv r0 r1 : Int) : ab_S := ac_w3 (ac_w3 σ 135 r0 (ac_W (ac_N κ p q hp p (ac_m0 mv)) (ac_brs (ac_S κ d b 0 p) r0) (ac_n κ b 0)) (ac_Wl (ac_N κ p q hp p (ac_m0 mv)) (ac_brs (ac_S κ d b 0 p) r0) (ac_n κ b 0)) (ac_Wm (ac_N κ p q hp p (ac_m0 mv)) (ac_brs (ac_S κ d b 0 p) r0) (ac_n κ b 0))) 141 r1 (ac_W (ac_N κ p q hq q (ac_m1 mv)) (ac_brs (ac_S κ d b 1 q) r1) (ac_n κ b 1)) (ac_Wl (ac_N κ p q hq q (ac_m1 mv)) (ac_brs (ac_S κ d b 1 q) r1) (ac_n κ b 1)) (ac_Wm (ac_N κ p q hq q (ac_m1 mv)) (ac_brs (ac_S κ d b 1 q) r1) (ac_n κ b 1))
theorem ac_w3_same {A r w l m : Int} (hA : ab_arm A) : ab_Same ac_PC σ (ac_w3 σ A r w l m) := by
  unfold ac_w3
  exact ((ab_Same.refl.wr (ac_PC_arm hA (Or.inr (by omega)))).wr (ac_PC_arm hA (Or.inr (by omega)))).wr (ac_PC_arm hA (Or.inr (by omega)))
theorem ac_rst_same {r0 r1 : Int} : ab_Same ac_PC σ (ac_rst σ κ d b p hp q hq mv r0 r1) := (ac_w3_same (Or.inl rfl)).trans (ac_w3_same (Or.inr (Or.inl rfl)))
theorem sp_resolveK {fp : Int} (h : ac_Ld σ κ kd d b p hp q hq mv) (hf : -1 ≤ fp ∧ fp < ac_n κ b 0 + ac_n κ b 1) : ab_Do X 36 [ab_R 134, ab_I fp] σ Q ↔ Q (some (ab_I (ac_C κ kd d b p hp q hq mv (ac_r0 (ac_n κ b 0) fp) (ac_r1 (ac_n κ b 0) fp)))) (ac_rst σ κ d b p hp q hq mv (ac_r0 (ac_n κ b 0) fp) (ac_r1 (ac_n κ b 0) fp)) := by
  rw [sp_resolve h.1 h.2.1 h.2.2.1 h.2.2.2.1 hf]
  rfl
def ac_W0 (κ : ac_K) (d b p hp q mv : Int) : Int := ac_W (ac_N κ p q hp p (ac_m0 mv)) (ac_brs (ac_S κ d b 0 p) 0) (ac_n κ b 0)
def ac_W1 (κ : ac_K) (d b p q hq mv : Int) : Int := ac_W (ac_N κ p q hq q (ac_m1 mv)) (ac_brs (ac_S κ d b 1 q) 0) (ac_n κ b 1)
/-- where it breaks -/
def ac_BP (κ : ac_K) (kd d b p hp q hq mv : Int) : Int := if ac_C κ kd d b p hp q hq mv 0 0 = 0 then 10 + ac_W1 κ d b p q hq mv else if ac_C κ kd d b p hp q hq mv 0 0 = 1 then ac_W0 κ d b p hp q mv else -2
theorem sp_breakPlaceK (h : ac_Ld σ κ kd d b p hp q hq mv) : ab_Do X 37 [ab_R 134] σ Q ↔ Q (some (ab_I (ac_BP κ kd d b p hp q hq mv))) (ac_rst σ κ d b p hp q hq mv 0 0) := by
  have hg := h.1
  have b0 := h.2.1.2.1
  have b1 := h.2.2.1.2.1
  have e0 : ac_r0 (ac_n κ b 0) (-1) = 0 := if_pos (by omega)
  have e1 : ac_r1 (ac_n κ b 0) (-1) = 0 := if_pos (by omega)
  have c := fun Q' => sp_resolveK (X := X) (Q := Q') (fp := -1) h (by omega)
  rw [e0, e1] at c
  have w0 : ab_rd (ac_rst σ κ d b p hp q hq mv 0 0) 138 0 = ac_W0 κ d b p hp q mv := by
    unfold ac_rst
    rw [ac_w3_rd, if_neg (by omega), if_neg (by omega), if_neg (by omega), ac_w3_rd, if_neg (by omega), if_neg (by omega), if_pos (by omega)]
    rfl
  have w1 : ab_rd (ac_rst σ κ d b p hp q hq mv 0 0) 144 0 = ac_W1 κ d b p q hq mv := by
    unfold ac_rst
    rw [ac_w3_rd, if_neg (by omega), if_neg (by omega), if_pos (by omega)]
    rfl
  have g2 := hg.same (ac_rst_same (κ := κ) (d := d) (b := b) (p := p) (hp := hp) (q := q) (hq := hq) (mv := mv) (r0 := 0) (r1 := 0)) ac_PC_pt
  have W1b := ac_W_b (stn := ac_N κ p q hq q (ac_m1 mv)) (br := ac_brs (ac_S κ d b 1 q) 0) b1.1
  have W0b := ac_W_b (stn := ac_N κ p q hp p (ac_m0 mv)) (br := ac_brs (ac_S κ d b 0 p) 0) b0.1
  have W1c : -1 ≤ ac_W1 κ d b p q hq mv ∧ ac_W1 κ d b p q hq mv ≤ 6 := by unfold ac_W1; omega
  have W0c : -1 ≤ ac_W0 κ d b p hp q mv ∧ ac_W0 κ d b p hp q mv ≤ 6 := by unfold ac_W0; omega
  unfold ac_BP
  generalize ac_C κ kd d b p hp q hq mv 0 0 = cc at *
  by_cases h1 : cc = 0
  · rw [if_pos h1]
    simp (disch := omega) only [do_X6_breakPlace, rX6_breakPlace_0, rX6_breakPlace_1, rX6_breakPlace_2, rX6_breakPlace_5, rX6_breakPlace_6, rX6_breakPlace_7, rX6_breakPlace_10, rX6_breakPlace_12, rX6_breakPlace_13, rX6_breakPlace_16, rX6_breakPlace_19, rX6_breakPlace_20, rX6_breakPlace_21, rX6_breakPlace_22, rX6_breakPlace_23, rX6_breakPlace_24, rX6_breakPlace_25, rX6_breakPlace_28, rX6_breakPlace_29, rX6_breakPlace_30, rX6_breakPlace_33, rX6_breakPlace_36, rX6_breakPlace_37, rX6_breakPlace_38, rX6_breakPlace_39, rX6_breakPlace_42, rX6_breakPlace_44, gS_134, gP_134_1, gS_141, gP_141_3, gS_144, hg, g2, c, w1, ne_eq, not_false_eq_true, not_true_eq_false, true_and, and_true, and_self, true_imp_iff, false_imp_iff, imp_self, Bool.not_false, Bool.not_true, reduceCtorEq, ab_isJ, ab_psh, ab_cats, Bool.false_eq_true, if_true, if_false, ab_shf, ab_shw, Int.le_refl, Classical.not_not, Int.zero_add, Int.add_zero, forall_const, ↓ab_itT, ↓ab_itF, ab_anT, ab_w32_id, ab_rdf_ne, ab_rdw_ne, ab_rdw_eq, ab_rdf_in, ab_td2, ab_tm2]
  · rw [if_neg h1]
    by_cases h2 : cc = 1
    · rw [if_pos h2]
      simp (disch := omega) only [do_X6_breakPlace, rX6_breakPlace_0, rX6_breakPlace_1, rX6_breakPlace_2, rX6_breakPlace_5, rX6_breakPlace_6, rX6_breakPlace_7, rX6_breakPlace_10, rX6_breakPlace_12, rX6_breakPlace_13, rX6_breakPlace_16, rX6_breakPlace_19, rX6_breakPlace_20, rX6_breakPlace_21, rX6_breakPlace_22, rX6_breakPlace_23, rX6_breakPlace_24, rX6_breakPlace_25, rX6_breakPlace_28, rX6_breakPlace_29, rX6_breakPlace_30, rX6_breakPlace_33, rX6_breakPlace_36, rX6_breakPlace_37, rX6_breakPlace_38, rX6_breakPlace_39, rX6_breakPlace_42, rX6_breakPlace_44, gS_134, gP_134_0, gS_135, gP_135_3, gS_138, hg, g2, c, w0, ne_eq, not_false_eq_true, not_true_eq_false, true_and, and_true, and_self, true_imp_iff, false_imp_iff, imp_self, Bool.not_false, Bool.not_true, reduceCtorEq, ab_isJ, ab_psh, ab_cats, Bool.false_eq_true, if_true, if_false, ab_shf, ab_shw, Int.le_refl, Classical.not_not, Int.zero_add, Int.add_zero, forall_const, ↓ab_itT, ↓ab_itF, ab_anT, ab_w32_id, ab_rdf_ne, ab_rdw_ne, ab_rdw_eq, ab_rdf_in, ab_td2, ab_tm2]
    · rw [if_neg h2]
      simp (disch := omega) only [do_X6_breakPlace, rX6_breakPlace_0, rX6_breakPlace_1, rX6_breakPlace_2, rX6_breakPlace_5, rX6_breakPlace_6, rX6_breakPlace_7, rX6_breakPlace_10, rX6_breakPlace_12, rX6_breakPlace_13, rX6_breakPlace_16, rX6_breakPlace_19, rX6_breakPlace_20, rX6_breakPlace_21, rX6_breakPlace_22, rX6_breakPlace_23, rX6_breakPlace_24, rX6_breakPlace_25, rX6_breakPlace_28, rX6_breakPlace_29, rX6_breakPlace_30, rX6_breakPlace_33, rX6_breakPlace_36, rX6_breakPlace_37, rX6_breakPlace_38, rX6_breakPlace_39, rX6_breakPlace_42, rX6_breakPlace_44, gS_134, hg, g2, c, ne_eq, not_false_eq_true, not_true_eq_false, true_and, and_true, and_self, true_imp_iff, false_imp_iff, imp_self, Bool.not_false, Bool.not_true, reduceCtorEq, ab_isJ, ab_psh, ab_cats, Bool.false_eq_true, if_true, if_false, ab_shf, ab_shw, Int.le_refl, Classical.not_not, Int.zero_add, Int.add_zero, forall_const, ↓ab_itT, ↓ab_itF, ab_anT, ab_w32_id, ab_rdf_ne, ab_rdw_ne, ab_rdw_eq, ab_rdf_in, ab_td2, ab_tm2]
/-- all rows, and weighed -/
def ac_wls (σ : ab_S) (κ : ac_K) (kd d b p hp q hq mv : Int) : ab_S := ab_fl (ab_wr (ac_all (ac_all σ 135 (ac_n κ b 0 + 1) (ac_n κ b 0) (ac_N κ p q hp p (ac_m0 mv)) (ac_S κ d b 0 p)) 141 (ac_n κ b 1 + 1) (ac_n κ b 1) (ac_N κ p q hq q (ac_m1 mv)) (ac_S κ d b 1 q)) 134 3 (100 * (ac_n κ b 0 + ac_n κ b 1))) 147 4 (ac_O κ kd d b p hp q hq mv)
theorem ac_all_same {A m n : Int} {s t : Int → Int} (hA : ab_arm A) : ab_Same ac_PC σ (ac_all σ A m n s t) := by
  unfold ac_all
  exact ((ab_Same.refl.fl (fun y _ _ => ac_PC_arm hA (Or.inr (by omega)))).fl (fun y _ _ => ac_PC_arm hA (Or.inr (by omega)))).fl (fun y _ _ => ac_PC_arm hA (Or.inr (by omega)))
theorem ac_wls_same : ab_Same ac_PC σ (ac_wls σ κ kd d b p hp q hq mv) := by
  unfold ac_wls
  exact (((ac_all_same (Or.inl rfl)).trans (ac_all_same (Or.inr (Or.inl rfl)))).wr (by unfold ac_PC; omega)).fl (fun y _ _ => by unfold ac_PC; omega)
theorem ac_all_ne {A m n x y : Int} {s t : Int → Int} (h : x < A + 3 ∨ A + 5 < x) : ab_rd (ac_all σ A m n s t) x y = ab_rd σ x y := by
  rw [ac_all_rd, if_neg (by omega), if_neg (by omega), if_neg (by omega)]
theorem ac_all_Rows {A n : Int} {s t : Int → Int} (h : ac_ArmB σ A n s t) : ac_Rows (ac_all σ A (n + 1) n s t) A n s t := by
  obtain ⟨h1, h2, h3, h4⟩ := h
  refine ⟨by rw [ac_all_ne (by omega), h1], h2, fun r r1 r2 => ⟨?_, ?_, ?_⟩, h4⟩
  · rw [ac_all_rd, if_neg (by omega), if_neg (by omega), if_pos (by omega)]
  · rw [ac_all_rd, if_neg (by omega), if_pos (by omega)]
  · rw [ac_all_rd, if_pos (by omega)]
theorem sp_weighLaidK (h : ac_Ld σ κ kd d b p hp q hq mv) : ab_Do X 39 [ab_R 134] σ Q ↔ Q none (ac_wls σ κ kd d b p hp q hq mv) := by
  obtain ⟨hg, hA, hB, h4, h8, hf⟩ := h
  have g0 := hg.arm (Or.inl rfl)
  have s1 : ∀ n m s t, ab_Same ac_PC σ (ac_all σ 135 m n s t) := fun n m s t => ac_all_same (Or.inl rfl)
  have s2 : ∀ n m s t n' m' s' t', ab_Same ac_PC σ (ac_all (ac_all σ 135 m n s t) 141 m' n' s' t') := fun n m s t n' m' s' t' => (s1 n m s t).trans (ac_all_same (Or.inr (Or.inl rfl)))
  have gg1 := fun n m s t => hg.same (s1 n m s t) ac_PC_pt
  have gg2 := fun n m s t n' m' s' t' => hg.same (s2 n m s t n' m' s' t') ac_PC_pt
  have c1 := fun Q' => sp_findAll (X := X) (Q := Q') g0 hA
  have c2 := fun n m s t Q' => sp_findAll (X := X) (Q := Q') (σ := ac_all σ 135 m n s t) ((gg1 n m s t).arm (Or.inr (Or.inl rfl))) (hB.congr (by rw [ac_all_ne (by omega)]) (fun i => by rw [ac_all_ne (by omega)]) (fun i => by rw [ac_all_ne (by omega)]))
  have hA2 := ac_all_Rows hA
  have c3 := fun Q' => sp_weigh (X := X) (Q := Q') (limp := ac_lp κ kd d) (flaw := κ 4 0) (σ := ac_all (ac_all σ 135 (ac_n κ b 0 + 1) (ac_n κ b 0) (ac_N κ p q hp p (ac_m0 mv)) (ac_S κ d b 0 p)) 141 (ac_n κ b 1 + 1) (ac_n κ b 1) (ac_N κ p q hq q (ac_m1 mv)) (ac_S κ d b 1 q)) (gg2 _ _ _ _ _ _ _ _) (Or.inl rfl) (Or.inr (Or.inl rfl)) (hA2.congr (by rw [ac_all_ne (by omega)]) (fun i => by rw [ac_all_ne (by omega)]) (fun i => by rw [ac_all_ne (by omega)]) (fun i => by rw [ac_all_ne (by omega)])) (ac_all_Rows (hB.congr (by rw [ac_all_ne (by omega)]) (fun i => by rw [ac_all_ne (by omega)]) (fun i => by rw [ac_all_ne (by omega)]))) (by rw [ac_all_ne (by omega), ac_all_ne (by omega), h4]) (by rw [ac_all_ne (by omega), ac_all_ne (by omega), h8]) hf
  have sh : ∀ τ A m n s t x, ab_sh (ac_all τ A m n s t) x = ab_sh τ x := fun _ _ _ _ _ _ _ => rfl
  have n1 : ∀ τ m n s t f, ab_rd (ac_all τ 135 m n s t) 134 f = ab_rd τ 134 f := fun _ _ _ _ _ _ => ac_all_ne (by omega)
  have n2 : ∀ τ m n s t f, ab_rd (ac_all τ 141 m n s t) 134 f = ab_rd τ 134 f := fun _ _ _ _ _ _ => ac_all_ne (by omega)
  unfold ac_wls
  simp (disch := omega) only [do_X6_weighLaid, rX6_weighLaid_0, rX6_weighLaid_1, rX6_weighLaid_4, rX6_weighLaid_7, rX6_weighLaid_8, rX6_weighLaid_11, rX6_weighLaid_14, rX6_weighLaid_15, rX6_weighLaid_16, rX6_weighLaid_19, rX6_weighLaid_20, rX6_weighLaid_23, rX6_weighLaid_26, gS_134, gP_134_0, gP_134_1, gS_135, gS_141, hg, c1, c2, c3, sh, n1, n2, ne_eq, not_false_eq_true, not_true_eq_false, true_and, and_true, and_self, true_imp_iff, false_imp_iff, imp_self, Bool.not_false, Bool.not_true, reduceCtorEq, ab_isJ, ab_psh, ab_cats, Bool.false_eq_true, if_true, if_false, ab_shf, ab_shw, Int.le_refl, Classical.not_not, Int.zero_add, Int.add_zero, forall_const, ↓ab_itT, ↓ab_itF, ab_anT, ab_w32_id, ab_rdf_ne, ab_rdw_ne, ab_rdw_eq, ab_rdf_in, ab_td2, ab_tm2]
  rfl
end
