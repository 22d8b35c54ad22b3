/-! THE GAME: best of the class -/
section
variable {X : ab_X} {σ τ υ : ab_S} {Q : Option ab_V → ab_S → Prop} {K : Int} {κ : ac_K} {v : Int → Int} {kd d b p hp q hq mv i j as s n arr A0 cc arm who c h m lo : Int} {P : Int → Int → Prop}
/-- odds of a choice against a hold -/
def ac_bF (κ : ac_K) (kd d b p q hq x : Int) : Int := ac_O κ kd d b p (x / 2 + 1) q hq (if x % 2 = 1 then 0 else 2) 0
def ac_bs (κ : ac_K) (kd d b p q hq : Int) (x : Int) (s : Int × Int) : Int × Int := if s.2 < ac_bF κ kd d b p q hq x then (10 * (x / 2 + 1) + x % 2, ac_bF κ kd d b p q hq x) else s
def ac_best (κ : ac_K) (kd d b p q hq : Int) : Int := (ab_it (fun i s => ac_bs κ kd d b p q hq (ac_cx κ p i) s) (ac_cn κ b 0 p).toNat 0 (0, -1)).1
theorem ac_bF_wt {x : Int} : ac_wt (ac_rs (ac_lp κ kd d) (ac_n κ b 0) (ac_N κ p q (x / 2 + 1) p (x % 2)) (ac_S κ d b 0 p) (ac_n κ b 1) (ac_N κ p q hq q 0) (ac_S κ d b 1 q)) (κ 4 0) (ac_n κ b 0) (ac_n κ b 1) 0 = ac_bF κ kd d b p q hq x := by
  have m : ac_m0 (if x % 2 = 1 then 0 else 2) = x % 2 ∧ ac_m1 (if x % 2 = 1 then 0 else 2) = 0 := by
    by_cases w : x % 2 = 1
    · rw [if_pos w, w]; decide
    · rw [if_neg w, show x % 2 = 0 by omega]; decide
  unfold ac_bF ac_O ac_C
  rw [m.1, m.2]
def ac_P7 : Int → Int → Prop := fun a f => (a = 134 ∧ f = 3) ∨ a = 147
theorem sp_best_l (hI : ac_CI σ K κ) (hk : ac_KK κ) (hb : ac_isB κ b) (B : ab_V) (P1 : Int) (hC : ac_Ch σ κ d b 0 p p q 181 151 (ac_cn κ b 0 p)) (hR : ac_Rows σ 141 (ac_n κ b 1) (ac_N κ p q hq q 0) (ac_S κ d b 1 q)) (h8 : ab_rd σ 148 8 = ac_cn κ b 0 p) (e4 : ab_rd σ 134 4 = ac_lp κ kd d) (ef : ab_rd σ 134 8 = κ 4 0) (fin : Int) (hQ : ∀ τ, ab_Same ac_PD σ τ → Q (some (ab_I fin)) τ) : ∀ (n : Nat) (i : Int) (s : Int × Int) (τ : ab_S), ab_Same ac_P7 σ τ → 0 ≤ i → i + n = ac_cn κ b 0 p → (ab_it (fun i s => ac_bs κ kd d b p q hq (ac_cx κ p i) s) n i s).1 = fin → ab_Run X 13 35 (3, 0, 0) [ab_R 148, ab_R 134, B, ab_R P1, ab_I s.1, ab_I s.2, ab_I i] [] τ Q := by
  have b0 := ac_cn_b (who := p) hk hb (Or.inl rfl)
  have n0 := ac_n_b hk hb (Or.inl rfl)
  have n1 := ac_n_b hk hb (Or.inr rfl)
  have k4 := hk.1.2.2.2.2
  have pd : ∀ a f, ac_P7 a f → ac_PD a f := fun a f u => by unfold ac_P7 at u; unfold ac_PD ac_PC; omega
  intro n
  induction n with
  | zero =>
    intro i s τ hs hi hn hf
    have g := (hI.same (hs.mono (fun a f u => (pd a f u).1))).1
    have e8 : ab_rd τ 148 8 = ac_cn κ b 0 p := by rw [hs.2.2 148 8 (by unfold ac_P7; omega), h8]
    rw [ab_it] at hf
    have hq' := hQ τ (hs.mono pd)
    rw [← hf] at hq'
    rw [rX2_bestAgainst_35]
    simp (disch := omega) only [rX2_bestAgainst_37, rX2_bestAgainst_38, rX2_bestAgainst_41, rX2_bestAgainst_93, rX2_bestAgainst_95, gS_148, g, e8, ne_eq, not_false_eq_true, not_true_eq_false, true_and, and_true, and_self, true_imp_iff, false_imp_iff, imp_self, Bool.not_false, Bool.not_true, reduceCtorEq, ab_isJ, ab_psh, ab_cats, Bool.false_eq_true, if_true, if_false, ab_shf, ab_shw, Int.le_refl, Classical.not_not, Int.zero_add, forall_const, ↓ab_itT, ↓ab_itF, ab_anT, ab_w32_id, ab_rdf_ne, ab_rdw_ne, ab_rdw_eq, ab_rdf_in, ab_td2, ab_tm2]
    all_goals exact hq'
  | succ n ih =>
    intro i s τ hs hi hn hf
    have g := (hI.same (hs.mono (fun a f u => (pd a f u).1))).1
    have e8 : ab_rd τ 148 8 = ac_cn κ b 0 p := by rw [hs.2.2 148 8 (by unfold ac_P7; omega), h8]
    have e4' : ab_rd τ 134 4 = ac_lp κ kd d := by rw [hs.2.2 134 4 (by unfold ac_P7; omega), e4]
    have ef' : ab_rd τ 134 8 = κ 4 0 := by rw [hs.2.2 134 8 (by unfold ac_P7; omega), ef]
    have hC' := hC.congr b0.2 hs (fun i _ _ u => by unfold ac_P7 at u; omega) (fun i _ _ => ⟨fun u => by unfold ac_P7 at u; omega, fun f => ⟨fun u => by unfold ac_P7 at u; omega, fun u => by unfold ac_P7 at u; omega, fun u => by unfold ac_P7 at u; omega⟩⟩)
    have hR' := hR.congr (hs.2.2 _ _ (by unfold ac_P7; omega)) (fun f => hs.2.2 _ _ (by unfold ac_P7; omega)) (fun f => hs.2.2 _ _ (by unfold ac_P7; omega)) (fun f => hs.2.2 _ _ (by unfold ac_P7; omega))
    have R0 := hC' i hi (by omega)
    have cd : ab_rd τ 151 i = 10 * (ac_cx κ p i / 2 + 1) + ac_cx κ p i % 2 := R0.2
    have a0 := ac_arr (arr := 149) (A0 := 181) (cc := 151) (arm := 0) g (Or.inl ⟨rfl, rfl, rfl, rfl⟩) (c := i) (by omega)
    have c1 := fun Q' => sp_weigh (X := X) (Q := Q') g a0.2.2.2 (Or.inr (Or.inl rfl)) R0.1 hR' e4' ef' k4
    have s0 : ab_Same ac_P7 τ (ab_fl (ab_wr τ 134 3 (100 * (ac_n κ b 0 + ac_n κ b 1))) 147 4 (ac_wt (ac_rs (ac_lp κ kd d) (ac_n κ b 0) (ac_N κ p q (ac_cx κ p i / 2 + 1) p (ac_cx κ p i % 2)) (ac_S κ d b 0 p) (ac_n κ b 1) (ac_N κ p q hq q 0) (ac_S κ d b 1 q)) (κ 4 0) (ac_n κ b 0) (ac_n κ b 1))) := (ab_Same.refl.wr (by unfold ac_P7; omega)).fl (fun y _ _ => by unfold ac_P7; omega)
    have w0 : ab_rd (ab_fl (ab_wr τ 134 3 (100 * (ac_n κ b 0 + ac_n κ b 1))) 147 4 (ac_wt (ac_rs (ac_lp κ kd d) (ac_n κ b 0) (ac_N κ p q (ac_cx κ p i / 2 + 1) p (ac_cx κ p i % 2)) (ac_S κ d b 0 p) (ac_n κ b 1) (ac_N κ p q hq q 0) (ac_S κ d b 1 q)) (κ 4 0) (ac_n κ b 0) (ac_n κ b 1))) 147 0 = ac_bF κ kd d b p q hq (ac_cx κ p i) := by rw [ab_rdf_in (by omega), ac_bF_wt]
    have cd2 : ab_rd (ab_fl (ab_wr τ 134 3 (100 * (ac_n κ b 0 + ac_n κ b 1))) 147 4 (ac_wt (ac_rs (ac_lp κ kd d) (ac_n κ b 0) (ac_N κ p q (ac_cx κ p i / 2 + 1) p (ac_cx κ p i % 2)) (ac_S κ d b 0 p) (ac_n κ b 1) (ac_N κ p q hq q 0) (ac_S κ d b 1 q)) (κ 4 0) (ac_n κ b 0) (ac_n κ b 1))) 151 i = 10 * (ac_cx κ p i / 2 + 1) + ac_cx κ p i % 2 := by rw [s0.2.2 151 i (by unfold ac_P7; omega), cd]
    generalize ab_fl (ab_wr τ 134 3 (100 * (ac_n κ b 0 + ac_n κ b 1))) 147 4 _ = ρ at c1 s0 w0 cd2
    have sρ := hs.trans s0
    have gρ := (hI.same (sρ.mono (fun a f u => (pd a f u).1))).1
    have l1 := a0.1
    have l3 := (g.arm a0.2.2.2).2.1
    rw [ab_it] at hf
    rw [rX2_bestAgainst_35]
    by_cases w : s.2 < ac_bF κ kd d b p q hq (ac_cx κ p i)
    · have e : ac_bs κ kd d b p q hq (ac_cx κ p i) s = (10 * (ac_cx κ p i / 2 + 1) + ac_cx κ p i % 2, ac_bF κ kd d b p q hq (ac_cx κ p i)) := if_pos w
      rw [e] at hf
      have key := ih (i + 1) _ ρ sρ (by omega) (by omega) hf
      simp (disch := omega) only [rX2_bestAgainst_37, rX2_bestAgainst_38, rX2_bestAgainst_41, rX2_bestAgainst_44, rX2_bestAgainst_45, rX2_bestAgainst_46, rX2_bestAgainst_49, rX2_bestAgainst_51, rX2_bestAgainst_52, rX2_bestAgainst_53, rX2_bestAgainst_56, rX2_bestAgainst_59, rX2_bestAgainst_60, rX2_bestAgainst_63, rX2_bestAgainst_64, rX2_bestAgainst_65, rX2_bestAgainst_67, rX2_bestAgainst_70, rX2_bestAgainst_71, rX2_bestAgainst_74, rX2_bestAgainst_75, rX2_bestAgainst_76, rX2_bestAgainst_78, rX2_bestAgainst_79, rX2_bestAgainst_82, rX2_bestAgainst_84, rX2_bestAgainst_85, rX2_bestAgainst_87, rX2_bestAgainst_90, gS_148, gP_148_0, gP_148_2, gS_149, gS_151, gS_134, gP_134_1, gP_134_2, gS_141, gS_147, g, gρ, e8, l1, l3, c1, w0, cd2, ne_eq, not_false_eq_true, not_true_eq_false, true_and, and_true, and_self, true_imp_iff, false_imp_iff, imp_self, Bool.not_false, Bool.not_true, reduceCtorEq, ab_isJ, ab_psh, ab_cats, Bool.false_eq_true, if_true, if_false, ab_shf, ab_shw, Int.le_refl, Classical.not_not, Int.zero_add, forall_const, ↓ab_itT, ↓ab_itF, ab_anT, ab_w32_id, ab_rdf_ne, ab_rdw_ne, ab_rdw_eq, ab_rdf_in, ab_td2, ab_tm2]
      all_goals exact key
    · have e : ac_bs κ kd d b p q hq (ac_cx κ p i) s = s := if_neg w
      rw [e] at hf
      have key := ih (i + 1) s ρ sρ (by omega) (by omega) hf
      simp (disch := omega) only [rX2_bestAgainst_37, rX2_bestAgainst_38, rX2_bestAgainst_41, rX2_bestAgainst_44, rX2_bestAgainst_45, rX2_bestAgainst_46, rX2_bestAgainst_49, rX2_bestAgainst_51, rX2_bestAgainst_52, rX2_bestAgainst_53, rX2_bestAgainst_56, rX2_bestAgainst_59, rX2_bestAgainst_60, rX2_bestAgainst_63, rX2_bestAgainst_64, rX2_bestAgainst_65, rX2_bestAgainst_67, rX2_bestAgainst_70, rX2_bestAgainst_71, rX2_bestAgainst_74, rX2_bestAgainst_75, rX2_bestAgainst_76, rX2_bestAgainst_78, rX2_bestAgainst_79, rX2_bestAgainst_82, rX2_bestAgainst_84, rX2_bestAgainst_85, rX2_bestAgainst_87, rX2_bestAgainst_90, gS_148, gP_148_0, gP_148_2, gS_149, gS_151, gS_134, gP_134_1, gP_134_2, gS_141, gS_147, g, gρ, e8, l1, l3, c1, w0, cd2, ne_eq, not_false_eq_true, not_true_eq_false, true_and, and_true, and_self, true_imp_iff, false_imp_iff, imp_self, Bool.not_false, Bool.not_true, reduceCtorEq, ab_isJ, ab_psh, ab_cats, Bool.false_eq_true, if_true, if_false, ab_shf, ab_shw, Int.le_refl, Classical.not_not, Int.zero_add, forall_const, ↓ab_itT, ↓ab_itF, ab_anT, ab_w32_id, ab_rdf_ne, ab_rdw_ne, ab_rdw_eq, ab_rdf_in, ab_td2, ab_tm2]
      all_goals exact key
def ac_beT (κ : ac_K) (b p q hq : Int) : Int := if ac_pT κ b p q = 0 then (if ac_isH κ b 1 hq then 0 else 2) else 1
theorem sp_bestAgainst (hI : ac_CI σ K κ) (hk : ac_KK κ) (hT : ac_Tk σ κ d) (h9 : ab_rd σ 134 9 = κ 17 p + κ 17 q) (e4 : ab_rd σ 134 4 = ac_lp κ kd d) (ef : ab_rd σ 134 8 = κ 4 0) (hd : 0 ≤ d ∧ d ≤ 24) (hb : ac_isB κ b) (hp : ac_isP κ p) (hqq : ac_isP κ q) (aB : ac_ArmB σ 141 (ac_n κ b 1) (ac_N κ p q hq q 0) (ac_S κ d b 1 q)) (hQ : ∀ τ, ab_Same ac_PD σ τ → Q (some (ab_I (ac_best κ kd d b p q hq))) τ) : ab_Do X 13 [ab_R 148, ab_R 134, ab_R (K + 5 + 3 * b), ab_R (K + 20 + p)] σ Q := by
  have g := hI.1
  have hC := hI.2.2.1
  have hv : K = 5 ∨ K = 329 := hC.1
  have n5 := hk.2.1.1
  have n6 := hk.2.1.2.1
  have sB := (g.bone hC.1 hb.1 (by omega)).1.2.1
  have sP := (g.pers hC.1 hp.1 (by omega)).1
  simp (disch := omega) only [do_X2_bestAgainst, rX2_bestAgainst_0, rX2_bestAgainst_1, rX2_bestAgainst_2, rX2_bestAgainst_3, rX2_bestAgainst_4, rX2_bestAgainst_5, rX2_bestAgainst_6, rX2_bestAgainst_9, rX2_bestAgainst_10, rX2_bestAgainst_13, gS_134, gS_148, gP_148_0, gP_148_2, g, sB, sP, ne_eq, not_false_eq_true, not_true_eq_false, true_and, and_true, and_self, true_imp_iff, false_imp_iff, imp_self, Bool.not_false, Bool.not_true, reduceCtorEq, ab_isJ, ab_psh, ab_cats, Bool.false_eq_true, if_true, if_false, ab_shf, ab_shw, Int.le_refl, Classical.not_not, Int.zero_add, forall_const, ↓ab_itT, ↓ab_itF, ab_anT, ab_w32_id, ab_rdf_ne, ab_rdw_ne, ab_rdw_eq, ab_rdf_in, ab_td2, ab_tm2]
  refine sp_choose (Or.inl ⟨rfl, rfl, rfl, rfl⟩) hI hk hT h9 hd hb hp hqq hp (fun τ1 hs1 hC1 => ?_)
  clear sB sP
  have w1 : ab_Same ac_PD σ τ1 := hs1.mono (fun _ _ u => ac_PG_PD (Or.inl ⟨rfl, rfl, rfl, rfl⟩) u)
  have g1 := (hI.same w1.ofD).1
  have s2' : ab_Same ac_PD σ (ab_wr τ1 148 8 (ac_cn κ b 0 p)) := w1.wr (by unfold ac_PD ac_PC; omega)
  have g2 := (hI.same s2'.ofD).1
  have o1 : ∀ a f, a ≤ 146 → ab_rd (ab_wr τ1 148 8 (ac_cn κ b 0 p)) a f = ab_rd σ a f := fun a f ha => by rw [ab_rdw_ne (by omega), hs1.2.2 _ _ (by unfold ac_PG; omega)]
  have aB2 : ac_ArmB (ab_wr τ1 148 8 (ac_cn κ b 0 p)) 141 (ac_n κ b 1) (ac_N κ p q hq q 0) (ac_S κ d b 1 q) := aB.congr (o1 _ _ (by omega)) (fun i => o1 _ _ (by omega)) (fun i => o1 _ _ (by omega))
  have c4 := fun Q' => sp_findAll (X := X) (Q := Q') (g2.arm (Or.inr (Or.inl rfl))) aB2
  have R := ac_all_Rows aB2
  have s3' : ab_Same ac_PD (ab_wr τ1 148 8 (ac_cn κ b 0 p)) (ac_all (ab_wr τ1 148 8 (ac_cn κ b 0 p)) 141 (ac_n κ b 1 + 1) (ac_n κ b 1) (ac_N κ p q hq q 0) (ac_S κ d b 1 q)) := (ac_all_same (Or.inr (Or.inl rfl))).toD (fun f => ac_all_ne (by omega))
  have b0 := ac_cn_b (who := p) hk hb (Or.inl rfl)
  have C1' : ac_Ch (ab_wr τ1 148 8 (ac_cn κ b 0 p)) κ d b 0 p p q 181 151 (ac_cn κ b 0 p) := hC1.congr b0.2 ((ab_Same.refl (P := fun a f => a = 148)).wr rfl) (fun i _ _ u => by omega) (fun i _ _ => ⟨fun u => by omega, fun f => ⟨fun u => by omega, fun u => by omega, fun u => by omega⟩⟩)
  have C2' : ac_Ch (ac_all (ab_wr τ1 148 8 (ac_cn κ b 0 p)) 141 (ac_n κ b 1 + 1) (ac_n κ b 1) (ac_N κ p q hq q 0) (ac_S κ d b 1 q)) κ d b 0 p p q 181 151 (ac_cn κ b 0 p) := by
    intro i i1 i2
    obtain ⟨q1, q2⟩ := C1' i i1 i2
    refine ⟨q1.congr (ac_all_ne (by omega)) (fun f => ac_all_ne (by omega)) (fun f => ac_all_ne (by omega)) (fun f => ac_all_ne (by omega)), ?_⟩
    rw [ac_all_ne (by omega), q2]
  have o148 : ab_rd (ac_all (ab_wr τ1 148 8 (ac_cn κ b 0 p)) 141 (ac_n κ b 1 + 1) (ac_n κ b 1) (ac_N κ p q hq q 0) (ac_S κ d b 1 q)) 148 8 = ac_cn κ b 0 p := by rw [ac_all_ne (by omega), ab_rdw_eq]
  have o4 : ∀ f, ab_rd (ac_all (ab_wr τ1 148 8 (ac_cn κ b 0 p)) 141 (ac_n κ b 1 + 1) (ac_n κ b 1) (ac_N κ p q hq q 0) (ac_S κ d b 1 q)) 134 f = ab_rd σ 134 f := fun f => by
    rw [ac_all_ne (by omega), o1 _ _ (by omega)]
  generalize ac_all (ab_wr τ1 148 8 (ac_cn κ b 0 p)) 141 (ac_n κ b 1 + 1) (ac_n κ b 1) (ac_N κ p q hq q 0) (ac_S κ d b 1 q) = χ at c4 R s3' C2' o148 o4
  have w3 := s2'.trans s3'
  have hI3 := hI.same w3.ofD
  have key := sp_best_l (X := X) (Q := Q) (kd := kd) (d := d) (p := p) (q := q) (hq := hq) hI3 hk hb (ab_R (K + 5 + 3 * b)) (K + 20 + p) C2' R o148 (by rw [o4, e4]) (by rw [o4, ef]) (ac_best κ kd d b p q hq) (fun τ hs => hQ τ (w3.trans hs)) (ac_cn κ b 0 p).toNat 0 (0, -1) χ ab_Same.refl (by omega) (by omega) rfl
  clear R C1' C2' o1 aB2 aB hC1 hQ o4
  simp (disch := omega) only [rX2_bestAgainst_16, rX2_bestAgainst_19, rX2_bestAgainst_20, rX2_bestAgainst_23, rX2_bestAgainst_26, rX2_bestAgainst_27, rX2_bestAgainst_29, rX2_bestAgainst_30, rX2_bestAgainst_32, rX2_bestAgainst_33, gS_148, gS_134, gP_134_1, gS_141, g1, g2, c4, ne_eq, not_false_eq_true, not_true_eq_false, true_and, and_true, and_self, true_imp_iff, false_imp_iff, imp_self, Bool.not_false, Bool.not_true, reduceCtorEq, ab_isJ, ab_psh, ab_cats, Bool.false_eq_true, if_true, if_false, ab_shf, ab_shw, Int.le_refl, Classical.not_not, Int.zero_add, forall_const, ↓ab_itT, ↓ab_itF, ab_anT, ab_w32_id, ab_rdf_ne, ab_rdw_ne, ab_rdw_eq, ab_rdf_in, ab_td2, ab_tm2]
  all_goals exact key
/-- the right arm held at hq, then best -/
theorem sp_best_2 (hI : ac_CI σ K κ) (hk : ac_KK κ) (hT : ac_Tk σ κ d) (e4 : ab_rd σ 134 4 = ac_lp κ kd d) (ef : ab_rd σ 134 8 = κ 4 0) (hd : 0 ≤ d ∧ d ≤ 24) (hb : ac_isB κ b) (hp : ac_isP κ p) (hqq : ac_isP κ q) (hh : 1 ≤ hq ∧ hq ≤ 6) (hQ : ∀ τ, ab_Same ac_PD σ τ → Q (some (ab_I (ac_best κ kd d b p q hq))) τ) : ab_Run X 93 59 (4, 0, 0) [ab_R 1, ab_I b, ab_I p, ab_I q, ab_I hq, ab_R (K + 5 + 3 * b)] [] σ Q := by
  have g := hI.1
  have h7 := hI.2.1
  have hC := hI.2.2.1
  have hv : K = 5 ∨ K = 329 := hC.1
  have n5 := hk.2.1.1
  have n6 := hk.2.1.2.1
  have n1 := ac_n_b hk hb (Or.inr rfl)
  obtain ⟨s0, -, s2, -, -, -, p8, -, -⟩ := g.kit hC.1
  have sB := (g.bone hC.1 hb.1 (by omega)).1.2.1
  have gP := g.pers hC.1 hp.1 (by omega)
  have gQ := g.pers hC.1 hqq.1 (by omega)
  have c2 := fun Q' => sp_pair (X := X) (Q := Q') hI hk hp hqq
  have s9 : ab_Same ac_PD σ (ab_wr σ 134 9 (κ 17 p + κ 17 q)) := ab_Same.refl.wr (by unfold ac_PD ac_PC; omega)
  have h9 := hI.same s9.ofD
  have g9 := h9.1
  have T9 : ac_Tk (ab_wr σ 134 9 (κ 17 p + κ 17 q)) κ d := by
    unfold ac_Tk at hT ⊢
    rw [ab_rdw_ne (by omega), ab_rdw_ne (by omega), ab_rdw_ne (by omega)]
    exact hT
  have c3 := fun Q' => sp_gripK (X := X) (Q := Q') (A := 141) (hold := hq) (mv := 0) (arm := 1) (who := q) g9 (Or.inr (Or.inl rfl)) h9.2.2.1 hk T9 ab_rdw_eq hd hb (Or.inr rfl) hp hqq hqq (by omega) (Or.inl rfl)
  have aB := ac_grip_ArmB (σ := ab_wr σ 134 9 (κ 17 p + κ 17 q)) (A := 141) (n := ac_n κ b 1) (s := ac_S κ d b 1 q) (t := ac_N κ p q hq q 0) (by omega) (fun i h1 h2 => ⟨ac_N_b hk hp hqq (by omega) h1, ac_S_b hk hd hb (Or.inr rfl) h1 h2⟩)
  have sG : ab_Same ac_PD σ (ac_grip (ab_wr σ 134 9 (κ 17 p + κ 17 q)) 141 (ac_n κ b 1) (ac_S κ d b 1 q) (ac_N κ p q hq q 0)) := s9.trans ((ac_grip_same (Or.inr (Or.inl rfl))).toD (fun f => ac_grip_ne (by omega)))
  have o134 : ∀ f, ab_rd (ac_grip (ab_wr σ 134 9 (κ 17 p + κ 17 q)) 141 (ac_n κ b 1) (ac_S κ d b 1 q) (ac_N κ p q hq q 0)) 134 f = ab_rd (ab_wr σ 134 9 (κ 17 p + κ 17 q)) 134 f := fun f => ac_grip_ne (by omega)
  generalize ac_grip (ab_wr σ 134 9 (κ 17 p + κ 17 q)) 141 (ac_n κ b 1) (ac_S κ d b 1 q) (ac_N κ p q hq q 0) = ω at c3 aB sG o134
  have hω := hI.same sG.ofD
  have gω := hω.1
  have h7ω := hω.2.1
  have Tω : ac_Tk ω κ d := by
    unfold ac_Tk at T9 ⊢
    rw [o134, o134, o134]
    exact T9
  have key := sp_bestAgainst (X := X) (Q := fun r σ' => ab_Run X 93 135 (4, 0, 0) [ab_R 1, ab_I b, ab_I p, ab_I q, ab_I hq, ab_R (K + 5 + 3 * b)] (ab_psh r []) σ' Q) (kd := kd) (hq := hq) hω hk Tω (by rw [o134, ab_rdw_eq]) (by rw [o134, ab_rdw_ne (by omega), e4]) (by rw [o134, ab_rdw_ne (by omega), ef]) hd hb hp hqq aB (fun τ hs => by
    have hq' := hQ τ (sG.trans hs)
    simp (disch := omega) only [rX11_best_135, ne_eq, not_false_eq_true, not_true_eq_false, true_and, and_true, and_self, true_imp_iff, false_imp_iff, imp_self, Bool.not_false, Bool.not_true, reduceCtorEq, ab_isJ, ab_psh, ab_cats, Bool.false_eq_true, if_true, if_false, ab_shf, ab_shw, Int.le_refl, Classical.not_not, Int.zero_add, forall_const, ↓ab_itT, ↓ab_itF, ab_anT, ab_w32_id, ab_rdf_ne, ab_rdw_ne, ab_rdw_eq, ab_rdf_in, ab_td2, ab_tm2]
    all_goals exact hq')
  obtain ⟨y0, -, y2, -, -, -, y8, -, -⟩ := gω.kit hω.2.2.1.1
  have gPω := gω.pers hω.2.2.1.1 hp.1 (by omega)
  have sBω : ab_sh ω (K + 5 + 3 * b) = (2, 0) := by rw [sG.2.1]; exact sB
  clear aB o134 Tω T9 hQ hT sG hω h9 hC hI s9
  simp (disch := omega) only [rX11_best_59, rX11_best_60, rX11_best_63, rX11_best_64, rX11_best_67, rX11_best_70, rX11_best_71, rX11_best_72, rX11_best_73, rX11_best_76, rX11_best_79, rX11_best_80, rX11_best_81, rX11_best_84, rX11_best_85, rX11_best_88, rX11_best_89, rX11_best_92, rX11_best_95, rX11_best_97, rX11_best_98, rX11_best_99, rX11_best_102, rX11_best_105, rX11_best_106, rX11_best_107, rX11_best_109, rX11_best_110, rX11_best_113, rX11_best_114, rX11_best_117, rX11_best_118, rX11_best_121, rX11_best_123, rX11_best_124, rX11_best_127, rX11_best_130, rX11_best_131, rX11_best_132, gS_1, gP_1_3, gP_1_4, gS_148, gS_134, gP_134_1, gS_141, g, gω, h7, h7ω, s0, s2, p8, y0, y2, y8, gP.1, gP.2, gQ.1, gQ.2, gPω.1, gPω.2, sB, sBω, c2, c3, ne_eq, not_false_eq_true, not_true_eq_false, true_and, and_true, and_self, true_imp_iff, false_imp_iff, imp_self, Bool.not_false, Bool.not_true, reduceCtorEq, ab_isJ, ab_psh, ab_cats, Bool.false_eq_true, if_true, if_false, ab_shf, ab_shw, Int.le_refl, Classical.not_not, Int.zero_add, forall_const, ↓ab_itT, ↓ab_itF, ab_anT, ab_w32_id, ab_rdf_ne, ab_rdw_ne, ab_rdw_eq, ab_rdf_in, ab_td2, ab_tm2]
  all_goals exact key
theorem cq_best (h : ac_CI σ K κ) (hS : ac_St σ 31 κ v) (hV : ac_VB κ v) (hQ : ∀ τ, ab_Same ac_PC σ τ → ab_rd τ 1 8 = ac_beT κ b p q hq → Q (some (ab_I (if ac_beT κ b p q hq = 0 then ac_best κ (v b) (v (5 + b)) b p q hq else -1))) τ) : ab_Do X 93 [ab_R 1, ab_I b, ab_I p, ab_I q, ab_I hq] σ Q := by
  have c := fun b p q Q' => sp_pairTrouble (X := X) (Q := Q') (b := b) (p := p) (q := q) h
  have g := h.1
  by_cases hT : ac_pT κ b p q = 0
  · obtain ⟨hb, hu⟩ := ac_pT0 hT
    have hk := h.kk hb
    have hh := h.same (ac_t8 (t := 0))
    have ch := fun hd Q' => sp_isHold (X := X) (Q := Q') (arm := 1) (hd := hd) hh hb (Or.inr rfl)
    have gh := hh.1
    by_cases hw : ac_isH κ b 1 hq
    · have eT : ac_beT κ b p q hq = 0 := by unfold ac_beT; rw [if_pos hT, if_pos hw]
      rw [eT, if_pos rfl] at hQ
      have hd := (hV.1 b hb.1 hb.2).2
      have n1 := ac_n_b hk hb (Or.inr rfl)
      have n1' : ac_n κ b 1 = κ 14 (2 * b + 1) := rfl
      have h7h := hh.2.1
      have hCh := hh.2.2.1
      have hv : K = 5 ∨ K = 329 := hCh.1
      have n5 := hk.2.1.1
      obtain ⟨s0, s1, s2, s3, s4, p6, p8, p13, p14⟩ := gh.kit hCh.1
      have gB := gh.bone hCh.1 hb.1 (by omega)
      have t1 : ab_rd (ab_wr σ 1 8 0) 32 b = v b := by rw [ab_rdw_ne (by omega)]; exact (hS.1 b hb.1 hb.2).1
      have t2 : ab_rd (ab_wr σ 1 8 0) 33 b = v (5 + b) := by rw [ab_rdw_ne (by omega)]; exact (hS.1 b hb.1 hb.2).2.1
      have c1 := fun Q' => sp_takeNow (X := X) (Q := Q') gh h7h hCh hk hb t1 t2 hd
      have sT : ab_Same ac_PD (ab_wr σ 1 8 0) (ac_tk (ab_wr σ 1 8 0) κ (v b) (v (5 + b))) := ac_tk_same.toD (fun f => ac_tk_rd (by omega))
      have tT := ac_tk_Tk (σ := ab_wr σ 1 8 0) (κ := κ) (kd := v b) (d := v (5 + b))
      have t4 := ac_tk_4 (σ := ab_wr σ 1 8 0) (κ := κ) (kd := v b) (d := v (5 + b))
      have t8 := ac_tk_8 (σ := ab_wr σ 1 8 0) (κ := κ) (kd := v b) (d := v (5 + b))
      have key := sp_best_2 (X := X) (Q := Q) (hq := hq) (hh.same sT.ofD) hk tT t4 t8 hd hb hu.1 hu.2.1 (by have := hw.1; have := hw.2; omega) (fun τ hs => by
        have w4 := sT.trans hs
        exact hQ τ ((ac_t8 (t := 0)).trans w4.ofD) (by rw [w4.d1, ab_rdw_eq]))
      clear hQ tT t4 t8 sT hS hV
      have hw1 := hw.1
      have hw2 := hw.2
      simp (disch := omega) only [do_X11_best, rX11_best_0, rX11_best_1, rX11_best_2, rX11_best_3, rX11_best_4, rX11_best_5, rX11_best_8, rX11_best_11, rX11_best_12, rX11_best_15, rX11_best_18, rX11_best_19, rX11_best_20, rX11_best_21, rX11_best_23, rX11_best_26, rX11_best_29, rX11_best_30, rX11_best_31, rX11_best_34, rX11_best_35, rX11_best_38, rX11_best_41, rX11_best_42, rX11_best_43, rX11_best_44, rX11_best_47, rX11_best_50, rX11_best_51, rX11_best_52, rX11_best_54, rX11_best_55, rX11_best_56, gS_1, g, gh, h7h, c, hT, ch, if_pos hw, ab_ifT, c1, s0, s1, p6, gB.2, ne_eq, not_false_eq_true, not_true_eq_false, true_and, and_true, and_self, true_imp_iff, false_imp_iff, imp_self, Bool.not_false, Bool.not_true, reduceCtorEq, ab_isJ, ab_psh, ab_cats, Bool.false_eq_true, if_true, if_false, ab_shf, ab_shw, Int.le_refl, Classical.not_not, Int.zero_add, forall_const, ↓ab_itT, ↓ab_itF, ab_anT, ab_w32_id, ab_rdf_ne, ab_rdw_ne, ab_rdw_eq, ab_rdf_in, ab_td2, ab_tm2]
      all_goals exact key
    · have eT : ac_beT κ b p q hq = 2 := by unfold ac_beT; rw [if_pos hT, if_neg hw]
      rw [eT, if_neg (by decide)] at hQ
      have hq' := hQ _ ac_cq8.1 ac_cq8.2
      rw [← ab_ww (σ := σ) (a := 1) (k := 8) (x := 0) (y := 2)] at hq'
      simp (disch := omega) only [do_X11_best, rX11_best_0, rX11_best_1, rX11_best_2, rX11_best_3, rX11_best_4, rX11_best_5, rX11_best_8, rX11_best_11, rX11_best_12, rX11_best_15, rX11_best_18, rX11_best_19, rX11_best_20, rX11_best_21, rX11_best_23, rX11_best_26, rX11_best_29, rX11_best_30, rX11_best_31, rX11_best_34, rX11_best_35, rX11_best_38, rX11_best_41, rX11_best_42, gS_1, g, gh, c, hT, ch, if_neg hw, ab_ifF, ne_eq, not_false_eq_true, not_true_eq_false, true_and, and_true, and_self, true_imp_iff, false_imp_iff, imp_self, Bool.not_false, Bool.not_true, reduceCtorEq, ab_isJ, ab_psh, ab_cats, Bool.false_eq_true, if_true, if_false, ab_shf, ab_shw, Int.le_refl, Classical.not_not, Int.zero_add, forall_const, ↓ab_itT, ↓ab_itF, ab_anT, ab_w32_id, ab_rdf_ne, ab_rdw_ne, ab_rdw_eq, ab_rdf_in, ab_td2, ab_tm2]
      all_goals exact hq'
  · have eT : ac_beT κ b p q hq = 1 := by unfold ac_beT; rw [if_neg hT]
    have e1 := ac_pT1 hT
    rw [eT, if_neg (by decide)] at hQ
    have hq' := hQ _ ac_cq8.1 ac_cq8.2
    simp (disch := omega) only [do_X11_best, rX11_best_0, rX11_best_1, rX11_best_2, rX11_best_3, rX11_best_4, rX11_best_5, rX11_best_8, rX11_best_11, rX11_best_12, rX11_best_15, rX11_best_18, rX11_best_19, rX11_best_20, rX11_best_21, rX11_best_23, rX11_best_26, rX11_best_29, rX11_best_30, rX11_best_31, rX11_best_34, rX11_best_35, rX11_best_38, rX11_best_41, rX11_best_42, gS_1, g, c, e1, ne_eq, not_false_eq_true, not_true_eq_false, true_and, and_true, and_self, true_imp_iff, false_imp_iff, imp_self, Bool.not_false, Bool.not_true, reduceCtorEq, ab_isJ, ab_psh, ab_cats, Bool.false_eq_true, if_true, if_false, ab_shf, ab_shw, Int.le_refl, Classical.not_not, Int.zero_add, forall_const, ↓ab_itT, ↓ab_itF, ab_anT, ab_w32_id, ab_rdf_ne, ab_rdw_ne, ab_rdw_eq, ab_rdf_in, ab_td2, ab_tm2]
    all_goals exact hq'
end
