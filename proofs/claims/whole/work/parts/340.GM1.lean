/-! THE GAME: the class's choices -/
def ac_cx (κ : ac_K) (who i : Int) : Int := if κ 16 who = 2 then 2 * i + 1 else i
def ac_cn (κ : ac_K) (b arm who : Int) : Int := if κ 16 who = 2 then ac_n κ b arm else 2 * ac_n κ b arm
def ac_mc (a c : Int) : Int := if a = 1 then (if c = 1 then 3 else 0) else (if c = 1 then 1 else 2)
theorem ac_mc_m {a c : Int} (ha : a = 0 ∨ a = 1) (hc : c = 0 ∨ c = 1) : ac_m0 (ac_mc a c) = a ∧ ac_m1 (ac_mc a c) = c := by
  rcases ha with rfl | rfl <;> rcases hc with rfl | rfl <;> decide
/-- odds of two choices -/
def ac_GO (κ : ac_K) (kd d b p q w x y : Int) : Int := ac_O κ kd d b p (x / 2 + 1) q (y / 2 + 1) (ac_mc (x % 2) (y % 2)) w
def ac_sd (arr A0 cc arm : Int) : Prop := (arr = 149 ∧ A0 = 181 ∧ cc = 151 ∧ arm = 0) ∨ (arr = 150 ∧ A0 = 187 ∧ cc = 152 ∧ arm = 1)
theorem ac_arrT : ∀ i : Fin 12, ab_pt 149 i.val = 181 + 12 * (i.val : Int) ∧ ab_pt 150 i.val = 187 + 12 * (i.val : Int) := by decide +kernel
def ac_P1 (A cc c : Int) : Int → Int → Prop := fun a f => ab_PA A a f ∨ (a = cc ∧ f = c)
def ac_PG (A0 cc : Int) : Int → Int → Prop := fun a f => a = cc ∨ (A0 ≤ a ∧ a ≤ A0 + 137 ∧ (a - A0) % 12 ≤ 5 ∧ ((a - A0) % 12 = 0 → f = 0))
section
variable {X : ab_X} {σ τ υ : ab_S} {Q : Option ab_V → ab_S → Prop} {K : Int} {κ : ac_K} {v : Int → Int} {kd d b p hp q hq mv i as s n arr A0 cc arm who c h m : Int} {P : Int → Int → Prop}
theorem ac_arr (hg : ab_Geo σ) (hs : ac_sd arr A0 cc arm) (hc : 0 ≤ c ∧ c < 12) : ab_rd σ arr c = A0 + 12 * c ∧ ab_sh σ arr = (25, 12) ∧ ab_sh σ cc = (21, 12) ∧ ab_arm (A0 + 12 * c) := by
  have t := ac_arrT ⟨c.toNat, by omega⟩
  dsimp only at t
  rw [Int.toNat_of_nonneg hc.1] at t
  rcases hs with ⟨rfl, rfl, rfl, rfl⟩ | ⟨rfl, rfl, rfl, rfl⟩
  · exact ⟨by rw [hg.2.2 _ _ (by omega) (by omega) (by omega) (by rw [t.1]; omega), t.1], gS_149 hg, gS_151 hg, Or.inr (Or.inr ⟨2 * c.toNat, by omega, by omega⟩)⟩
  · exact ⟨by rw [hg.2.2 _ _ (by omega) (by omega) (by omega) (by rw [t.2]; omega), t.2], gS_150 hg, gS_152 hg, Or.inr (Or.inr ⟨2 * c.toNat + 1, by omega, by omega⟩)⟩
theorem ac_P1_PG (hs : ac_sd arr A0 cc arm) (hc : 0 ≤ c ∧ c < 12) {a f : Int} (h : ac_P1 (A0 + 12 * c) cc c a f) : ac_PG A0 cc a f := by
  unfold ac_P1 ab_PA at h
  unfold ac_PG
  rcases h with (⟨rfl, rfl⟩ | h) | ⟨rfl, rfl⟩
  · right; omega
  · right; omega
  · left; rfl
theorem ac_PG_PD (hs : ac_sd arr A0 cc arm) {a f : Int} (h : ac_PG A0 cc a f) : ac_PD a f := by
  unfold ac_PG at h
  unfold ac_PD ac_PC
  rcases hs with ⟨rfl, rfl, rfl, rfl⟩ | ⟨rfl, rfl, rfl, rfl⟩
  · rcases h with rfl | h <;> omega
  · rcases h with rfl | h <;> omega
theorem ac_grip_ArmB {A n : Int} {s t : Int → Int} (hn : 0 ≤ n ∧ n ≤ 6) (hb : ∀ i, 0 ≤ i → i < n → (0 ≤ t i ∧ t i ≤ 579) ∧ (0 ≤ s i ∧ s i ≤ 639)) : ac_ArmB (ac_grip σ A n s t) A n t s := by
  refine ⟨?_, hn, fun i h1 h2 => ⟨?_, ?_⟩, hb⟩
  · rw [ac_grip_rd, if_neg (by omega), if_neg (by omega), if_pos ⟨rfl, rfl⟩]
  · rw [ac_grip_rd, if_pos ⟨rfl, h1, h2⟩]
  · rw [ac_grip_rd, if_neg (by omega), if_pos ⟨rfl, h1, h2⟩]
theorem sp_ch1 (hs : ac_sd arr A0 cc arm) (hI : ac_CI σ K κ) (hk : ac_KK κ) (hT : ac_Tk σ κ d) (h9 : ab_rd σ 134 9 = κ 17 p + κ 17 q) (hd : 0 ≤ d ∧ d ≤ 24) (hb : ac_isB κ b) (hp : ac_isP κ p) (hq : ac_isP κ q) (hw : ac_isP κ who) (hc : 0 ≤ c ∧ c < 12) (hh : 1 ≤ h ∧ h ≤ 6) (hm : m = 0 ∨ m = 1) (hQ : ∀ τ, ab_Same (ac_P1 (A0 + 12 * c) cc c) σ τ → ac_Rows τ (A0 + 12 * c) (ac_n κ b arm) (ac_N κ p q h who m) (ac_S κ d b arm who) → ab_rd τ cc c = 10 * h + m → ab_Run X 12 32 (2, 0, 0) [ab_R 134, ab_R (K + 5 + 3 * b), ab_I arm, ab_R (K + 20 + who), ab_R arr, ab_R cc, ab_I (c + 1), ab_I h, ab_I (m + 1)] [] τ Q) : ab_Run X 12 38 (2, 0, 0) [ab_R 134, ab_R (K + 5 + 3 * b), ab_I arm, ab_R (K + 20 + who), ab_R arr, ab_R cc, ab_I c, ab_I h, ab_I m] [] σ Q := by
  have ha : arm = 0 ∨ arm = 1 := by unfold ac_sd at hs; omega
  have zc : cc = 151 ∨ cc = 152 := by unfold ac_sd at hs; omega
  have zr : arr = 149 ∨ arr = 150 := by unfold ac_sd at hs; omega
  have zA : A0 = 181 ∨ A0 = 187 := by unfold ac_sd at hs; omega
  have g := hI.1
  obtain ⟨e1, e2, e3, e4⟩ := ac_arr g hs hc
  have hC := hI.2.2.1
  have hv : K = 5 ∨ K = 329 := hC.1
  have n5 := hk.2.1.1
  have n6 := hk.2.1.2.1
  have gB := g.bone hC.1 hb.1 (by omega)
  have gP := g.pers hC.1 hw.1 (by omega)
  have sB := gB.1.2.1
  have sP := gP.1
  have c1 := fun Q' => sp_gripK (X := X) (Q := Q') (A := A0 + 12 * c) (hold := h) (mv := m) g e4 hC hk hT h9 hd hb ha hp hq hw (by omega) hm
  have nb := ac_n_b hk hb ha
  have aB := ac_grip_ArmB (σ := σ) (A := A0 + 12 * c) (n := ac_n κ b arm) (s := ac_S κ d b arm who) (t := ac_N κ p q h who m) (by omega) (fun i h1 h2 => ⟨ac_N_b hk hp hq (by omega) h1, ac_S_b hk hd hb ha h1 h2⟩)
  have sG := ac_grip_same (σ := σ) (A := A0 + 12 * c) (n := ac_n κ b arm) (s := ac_S κ d b arm who) (t := ac_N κ p q h who m) e4
  have gG := g.same sG ac_PC_pt
  have aG := gG.arm e4
  have c2 := fun Q' => sp_findAll (X := X) (Q := Q') aG aB
  have gA := gG.same (ac_all_same (m := ac_n κ b arm + 1) (n := ac_n κ b arm) (s := ac_N κ p q h who m) (t := ac_S κ d b arm who) e4) ac_PC_pt
  have R := ac_all_Rows aB
  have d1 : ab_rd (ac_grip σ (A0 + 12 * c) (ac_n κ b arm) (ac_S κ d b arm who) (ac_N κ p q h who m)) arr c = A0 + 12 * c := by rw [ac_grip_ne (by omega), e1]
  have s1 : ab_Same (ac_P1 (A0 + 12 * c) cc c) σ (ab_wr (ac_all (ac_grip σ (A0 + 12 * c) (ac_n κ b arm) (ac_S κ d b arm who) (ac_N κ p q h who m)) (A0 + 12 * c) (ac_n κ b arm + 1) (ac_n κ b arm) (ac_N κ p q h who m) (ac_S κ d b arm who)) cc c (10 * h + m)) := by
    refine ab_Same.wr ?_ (Or.inr ⟨rfl, rfl⟩)
    unfold ac_all ac_grip
    refine (((((ab_Same.refl.wr ?_).fl ?_).fl ?_).fl ?_).fl ?_).fl ?_
    · exact Or.inl (Or.inl ⟨rfl, rfl⟩)
    all_goals (intro y _ _; exact Or.inl (Or.inr (by omega)))
  have key := hQ _ s1 (R.congr (ab_rdw_ne (by omega)) (fun i => ab_rdw_ne (by omega)) (fun i => ab_rdw_ne (by omega)) (fun i => ab_rdw_ne (by omega))) ab_rdw_eq
  have e5 : ab_sh (ac_grip σ (A0 + 12 * c) (ac_n κ b arm) (ac_S κ d b arm who) (ac_N κ p q h who m)) arr = (25, 12) := e2
  have e6 : ab_sh (ac_all (ac_grip σ (A0 + 12 * c) (ac_n κ b arm) (ac_S κ d b arm who) (ac_N κ p q h who m)) (A0 + 12 * c) (ac_n κ b arm + 1) (ac_n κ b arm) (ac_N κ p q h who m) (ac_S κ d b arm who)) cc = (21, 12) := e3
  have a1 := aG.2.1
  rcases hm with rfl | rfl
  · simp (disch := omega) only [rX2_choose_38, rX2_choose_39, rX2_choose_41, rX2_choose_43, rX2_choose_44, rX2_choose_45, rX2_choose_46, rX2_choose_47, rX2_choose_49, rX2_choose_51, rX2_choose_52, rX2_choose_55, rX2_choose_56, rX2_choose_59, rX2_choose_60, rX2_choose_63, rX2_choose_65, rX2_choose_67, rX2_choose_68, rX2_choose_71, rX2_choose_73, rX2_choose_75, rX2_choose_77, rX2_choose_79, rX2_choose_80, rX2_choose_82, rX2_choose_83, rX2_choose_84, rX2_choose_87, rX2_choose_90, gS_134, g, e1, e2, e5, e6, sB, sP, d1, a1, c1, c2, ne_eq, not_false_eq_true, not_true_eq_false, true_and, and_true, and_self, true_imp_iff, false_imp_iff, imp_self, Bool.not_false, Bool.not_true, reduceCtorEq, ab_isJ, ab_psh, ab_cats, Bool.false_eq_true, if_true, if_false, ab_shf, ab_shw, Int.le_refl, Classical.not_not, Int.zero_add, forall_const, ↓ab_itT, ↓ab_itF, ab_anT, ab_w32_id, ab_rdf_ne, ab_rdw_ne, ab_rdw_eq, ab_rdf_in, ab_td2, ab_tm2]
    all_goals exact key
  · simp (disch := omega) only [rX2_choose_38, rX2_choose_39, rX2_choose_41, rX2_choose_43, rX2_choose_44, rX2_choose_45, rX2_choose_46, rX2_choose_47, rX2_choose_49, rX2_choose_51, rX2_choose_52, rX2_choose_55, rX2_choose_56, rX2_choose_59, rX2_choose_60, rX2_choose_63, rX2_choose_65, rX2_choose_67, rX2_choose_68, rX2_choose_71, rX2_choose_73, rX2_choose_75, rX2_choose_77, rX2_choose_79, rX2_choose_80, rX2_choose_82, rX2_choose_83, rX2_choose_84, rX2_choose_87, rX2_choose_90, gS_134, g, e1, e2, e5, e6, sB, sP, d1, a1, c1, c2, ne_eq, not_false_eq_true, not_true_eq_false, true_and, and_true, and_self, true_imp_iff, false_imp_iff, imp_self, Bool.not_false, Bool.not_true, reduceCtorEq, ab_isJ, ab_psh, ab_cats, Bool.false_eq_true, if_true, if_false, ab_shf, ab_shw, Int.le_refl, Classical.not_not, Int.zero_add, forall_const, ↓ab_itT, ↓ab_itF, ab_anT, ab_w32_id, ab_rdf_ne, ab_rdw_ne, ab_rdw_eq, ab_rdf_in, ab_td2, ab_tm2]
    all_goals exact key
end
