/-! YEARS: pure; the class -/
def ac_dr (s : Int) : Int := (75 * s + 74) % 65537
theorem ac_dr_b {s : Int} : 0 ≤ ac_dr s ∧ ac_dr s ≤ 65536 := by unfold ac_dr; omega
def ac_yb (κ : ac_K) (s : Int) : Int := ac_dr s % κ 5 0
def ac_yp (κ : ac_K) (s : Int) : Int := ac_dr (ac_dr s) % κ 6 0
def ac_yr (κ : ac_K) (s : Int) : Int := ac_dr (ac_dr (ac_dr s)) % (κ 6 0 - 1)
def ac_yq (κ : ac_K) (s : Int) : Int := if ac_yp κ s ≤ ac_yr κ s then ac_yr κ s + 1 else ac_yr κ s
def ac_ys (s : Int) : Int := ac_dr (ac_dr (ac_dr s))
def ac_fp (flaw n s : Int) : Int := if ac_dr s % 100 < flaw then ac_dr (ac_dr s) % n else -1
def ac_fsd (flaw s : Int) : Int := if ac_dr s % 100 < flaw then ac_dr (ac_dr s) else ac_dr s
theorem ac_fsd_b {flaw s : Int} : 0 ≤ ac_fsd flaw s ∧ ac_fsd flaw s ≤ 65536 := by
  unfold ac_fsd
  split
  · exact ac_dr_b
  · exact ac_dr_b
theorem ac_fp_b {flaw n s : Int} (hn : 0 < n) : -1 ≤ ac_fp flaw n s ∧ ac_fp flaw n s < n := by
  unfold ac_fp
  split
  · have := Int.emod_nonneg (ac_dr (ac_dr s)) (show n ≠ 0 by omega)
    have := Int.emod_lt_of_pos (ac_dr (ac_dr s)) hn
    omega
  · omega
/-- what comes of a pull with a drawn flaw -/
def ac_CF (κ : ac_K) (kd d b p hp q hq mv s : Int) : Int := ac_C κ kd d b p hp q hq mv (ac_r0 (ac_n κ b 0) (ac_fp (κ 4 0) (ac_n κ b 0 + ac_n κ b 1) s)) (ac_r1 (ac_n κ b 0) (ac_fp (κ 4 0) (ac_n κ b 0 + ac_n κ b 1) s))
def ac_yc (κ : ac_K) (v : Int → Int) (s : Int) : Int := ac_CF κ (v (ac_yb κ s)) (v (5 + ac_yb κ s)) (ac_yb κ s) (ac_yp κ s) (ac_h κ (ac_yp κ s) (ac_yb κ s) 0) (ac_yq κ s) (ac_h κ (ac_yq κ s) (ac_yb κ s) 1) 2 (ac_ys s)
def ac_yi (κ : ac_K) (v : Int → Int) (s : Int) : Int := if ac_yc κ v s = 0 then ac_yp κ s else if ac_yc κ v s = 1 then ac_yq κ s else if ac_yc κ v s = 2 then 6 else 7
def ac_sun (κ : ac_K) (v : Int → Int) (x : Int × (Int → Int)) : Int × (Int → Int) := (ac_fsd (κ 4 0) (ac_ys x.1), ac_add (ac_yi κ v x.1) 1 x.2)
def ac_yrn (κ : ac_K) (v : Int → Int) (n s : Int) : Int × (Int → Int) := ab_it (fun _ x => ac_sun κ v x) n.toNat 0 (s, fun _ => 0)
theorem ac_y_b {κ : ac_K} {s : Int} (h : ac_KK κ) : ac_isB κ (ac_yb κ s) ∧ ac_isP κ (ac_yp κ s) ∧ ac_isP κ (ac_yq κ s) ∧ (0 ≤ ac_yr κ s ∧ ac_yr κ s < κ 6 0 - 1) := by
  have h5 := h.2.2.2.1
  have h6 := h.2.2.2.2
  have a1 := Int.emod_nonneg (ac_dr s) (show κ 5 0 ≠ 0 by omega)
  have a2 := Int.emod_lt_of_pos (ac_dr s) (show 0 < κ 5 0 by omega)
  have a3 := Int.emod_nonneg (ac_dr (ac_dr s)) (show κ 6 0 ≠ 0 by omega)
  have a4 := Int.emod_lt_of_pos (ac_dr (ac_dr s)) (show 0 < κ 6 0 by omega)
  have a5 := Int.emod_nonneg (ac_dr (ac_dr (ac_dr s))) (show κ 6 0 - 1 ≠ 0 by omega)
  have a6 := Int.emod_lt_of_pos (ac_dr (ac_dr (ac_dr s))) (show 0 < κ 6 0 - 1 by omega)
  have b1 : 0 ≤ ac_yr κ s ∧ ac_yr κ s < κ 6 0 - 1 := ⟨a5, a6⟩
  refine ⟨⟨a1, a2⟩, ⟨a3, a4⟩, ?_, b1⟩
  unfold ac_yq
  split
  · omega
  · omega
theorem ab_ww {σ : ab_S} {a k x y : Int} : ab_wr (ab_wr σ a k x) a k y = ab_wr σ a k y := ab_sext rfl (fun _ => rfl) (fun b f => by
  rw [ab_rdw, ab_rdw, ab_rdw]
  by_cases h : b = a ∧ f = k
  · rw [if_pos h, if_pos h]
  · rw [if_neg h, if_neg h, if_neg h])
section
variable {X : ab_X} {σ τ υ : ab_S} {Q : Option ab_V → ab_S → Prop} {K : Int} {κ : ac_K} {v : Int → Int} {kd d b p hp q hq mv i as s n : Int} {P : Int → Int → Prop}
theorem ac_KC.sameG (h : ac_KC σ K κ) (hn : κ 5 0 ≤ 5) (hn6 : κ 6 0 ≤ 6) (hs : ab_Same P σ τ) (hk : ∀ a f, (5 ≤ a ∧ a ≤ 30) ∨ (329 ≤ a ∧ a ≤ 354) → ¬ P a f) : ac_KC τ K κ := by
  obtain ⟨hK, ⟨r0, r1, r2, r3, r4⟩, ⟨n0, n1, n2, n3, n4, n5⟩, hb, hp, hi⟩ := h
  have hv : K = 5 ∨ K = 329 := hK
  have e : ∀ a f, (5 ≤ a ∧ a ≤ 30) ∨ (329 ≤ a ∧ a ≤ 354) → ab_rd τ a f = ab_rd σ a f := fun a f h1 => hs.2.2 a f (hk a f h1)
  refine ⟨hK, ⟨?_, ?_, ?_, ?_, ?_⟩, ⟨?_, ?_, ?_, ?_, ?_, ?_⟩, ?_, ?_, ?_⟩
  · rw [e _ _ (by omega), r0]
  · rw [e _ _ (by omega), r1]
  · rw [e _ _ (by omega), r2]
  · rw [e _ _ (by omega), r3]
  · rw [e _ _ (by omega), r4]
  · rw [e _ _ (by omega), n0]
  · rw [e _ _ (by omega), n1]
  · rw [e _ _ (by omega), n2]
  · rw [e _ _ (by omega), n3]
  · rw [e _ _ (by omega), n4]
  · rw [e _ _ (by omega), n5]
  · intro b b1 b2
    obtain ⟨q1, q2, q3⟩ := hb b b1 b2
    refine ⟨?_, ?_, fun arm ha => ⟨?_, fun i i1 i2 => ?_⟩⟩
    · rw [e _ _ (by omega), q1]
    · rw [e _ _ (by omega), q2]
    · rw [e _ _ (by omega), (q3 arm ha).1]
    · rw [e _ _ (by omega), (q3 arm ha).2 i i1 i2]
  · intro p p1 p2
    have e' : ∀ f, ab_rd τ (K + 20 + p) f = ab_rd σ (K + 20 + p) f := fun f => e _ _ (by omega)
    unfold ac_KCp
    rw [e', e', e', e', e', e', e', e', e', e', e']
    exact hp p p1 p2
  · intro i i1 i2
    by_cases z : κ 9 0 ≤ 0
    · omega
    · rw [e _ _ (by omega), e _ _ (by omega)]
      exact hi i i1 i2
theorem ac_CI.sameG (h : ac_CI σ K κ) (hs : ab_Same P σ τ) (hpt : ∀ a f, 0 ≤ a → a ≤ 368 → 0 ≤ f → P a f → ab_pt a f = 0) (h17 : ¬ P 1 7) (hk : ∀ a f, (5 ≤ a ∧ a ≤ 30) ∨ (329 ≤ a ∧ a ≤ 354) → ¬ P a f) : ac_CI τ K κ := by
  obtain ⟨h1, h2, h3, h4, h5⟩ := h
  exact ⟨h1.same hs hpt, by rw [hs.2.2 1 7 h17, h2], h3.sameG h4.1.2 h4.2.1.2 hs hk, h4, h5⟩
def ac_PE : Int → Int → Prop := fun a f => ac_PD a f ∨ (a = 31 ∧ f = 4)
theorem ac_PE_pt : ∀ a f, 0 ≤ a → a ≤ 368 → 0 ≤ f → ac_PE a f → ab_pt a f = 0 := by
  intro a f h1 h2 h3 hp
  rcases hp with hp | ⟨rfl, rfl⟩
  · exact ac_PC_pt a f h1 h2 h3 hp.1
  · decide
theorem ac_CI.sameE (h : ac_CI σ K κ) (hs : ab_Same ac_PE σ τ) : ac_CI τ K κ := h.sameG hs ac_PE_pt (by unfold ac_PE ac_PD; omega) (fun a f h1 h2 => by unfold ac_PE ac_PD ac_PC at h2; omega)
theorem ac_PD_PE {a f : Int} (h : ac_PD a f) : ac_PE a f := Or.inl h
/-- kinds and days as they are -/
def ac_KD (σ : ab_S) (κ : ac_K) (v : Int → Int) : Prop := ∀ b, 0 ≤ b → b < κ 5 0 → ab_rd σ 32 b = v b ∧ ab_rd σ 33 b = v (5 + b)
theorem ac_KD.sameE (h : ac_KD σ κ v) (hs : ab_Same ac_PE σ τ) : ac_KD τ κ v := fun b h1 h2 => by
  rw [hs.2.2 32 b (by unfold ac_PE ac_PD ac_PC; omega), hs.2.2 33 b (by unfold ac_PE ac_PD ac_PC; omega)]
  exact h b h1 h2
theorem sp_draw {S : Int} (hS : ab_sh σ S = (9, 0)) (hz : 0 < S) (h4 : ab_rd σ S 4 = s) (hs : 0 ≤ s ∧ s ≤ 65536) : ab_Do X 64 [ab_R S, ab_I n] σ Q ↔ Q (some (ab_I (if 0 < n then ac_dr s % n else 0))) (ab_wr σ S 4 (ac_dr s)) := by
  unfold ac_dr
  by_cases w : 0 < n
  · rw [if_pos w]
    simp (disch := omega) only [do_X8_draw, rX8_draw_0, rX8_draw_1, rX8_draw_3, rX8_draw_4, rX8_draw_7, rX8_draw_8, rX8_draw_10, rX8_draw_11, rX8_draw_13, rX8_draw_14, rX8_draw_17, rX8_draw_18, rX8_draw_21, rX8_draw_22, rX8_draw_25, rX8_draw_26, rX8_draw_27, rX8_draw_30, rX8_draw_31, hS, h4, ne_eq, not_false_eq_true, not_true_eq_false, true_and, and_true, and_self, true_imp_iff, false_imp_iff, imp_self, Bool.not_false, Bool.not_true, reduceCtorEq, ab_isJ, ab_psh, ab_cats, Bool.false_eq_true, if_true, if_false, ab_shf, ab_shw, Int.le_refl, Classical.not_not, Int.zero_add, forall_const, ↓ab_itT, ↓ab_itF, ab_anT, ab_w32_id, ab_rdf_ne, ab_rdw_ne, ab_rdw_eq, ab_rdf_in, ab_td2, ab_tm2]
  · rw [if_neg w]
    simp (disch := omega) only [do_X8_draw, rX8_draw_0, rX8_draw_1, rX8_draw_3, rX8_draw_4, rX8_draw_7, rX8_draw_8, rX8_draw_10, rX8_draw_11, rX8_draw_13, rX8_draw_14, rX8_draw_17, rX8_draw_18, rX8_draw_21, rX8_draw_22, rX8_draw_25, rX8_draw_26, rX8_draw_27, rX8_draw_30, rX8_draw_31, hS, h4, ne_eq, not_false_eq_true, not_true_eq_false, true_and, and_true, and_self, true_imp_iff, false_imp_iff, imp_self, Bool.not_false, Bool.not_true, reduceCtorEq, ab_isJ, ab_psh, ab_cats, Bool.false_eq_true, if_true, if_false, ab_shf, ab_shw, Int.le_refl, Classical.not_not, Int.zero_add, forall_const, ↓ab_itT, ↓ab_itF, ab_anT, ab_w32_id, ab_rdf_ne, ab_rdw_ne, ab_rdw_eq, ab_rdf_in, ab_td2, ab_tm2]
theorem sp_drawFlaw {S flaw : Int} (hS : ab_sh σ S = (9, 0)) (hz : 0 < S) (h4 : ab_rd σ S 4 = s) (hs : 0 ≤ s ∧ s ≤ 65536) (hn : 0 < n) : ab_Do X 65 [ab_R S, ab_I flaw, ab_I n] σ Q ↔ Q (some (ab_I (ac_fp flaw n s))) (ab_wr σ S 4 (ac_fsd flaw s)) := by
  have c1 := fun n Q' => sp_draw (X := X) (Q := Q') (n := n) hS hz h4 hs
  have c2 := fun n Q' => sp_draw (X := X) (σ := ab_wr σ S 4 (ac_dr s)) (Q := Q') (n := n) hS hz ab_rdw_eq ac_dr_b
  unfold ac_fp ac_fsd
  by_cases w : ac_dr s % 100 < flaw
  · rw [if_pos w, if_pos w]
    simp (disch := omega) only [do_X8_drawFlaw, rX8_drawFlaw_0, rX8_drawFlaw_1, rX8_drawFlaw_3, rX8_drawFlaw_6, rX8_drawFlaw_7, rX8_drawFlaw_10, rX8_drawFlaw_11, rX8_drawFlaw_12, rX8_drawFlaw_15, rX8_drawFlaw_18, rX8_drawFlaw_19, hS, c1, c2, ab_ww, ab_ifT, ne_eq, not_false_eq_true, not_true_eq_false, true_and, and_true, and_self, true_imp_iff, false_imp_iff, imp_self, Bool.not_false, Bool.not_true, reduceCtorEq, ab_isJ, ab_psh, ab_cats, Bool.false_eq_true, if_true, if_false, ab_shf, ab_shw, Int.le_refl, Classical.not_not, Int.zero_add, forall_const, ↓ab_itT, ↓ab_itF, ab_anT, ab_w32_id, ab_rdf_ne, ab_rdw_ne, ab_rdw_eq, ab_rdf_in, ab_td2, ab_tm2]
  · rw [if_neg w, if_neg w]
    simp (disch := omega) only [do_X8_drawFlaw, rX8_drawFlaw_0, rX8_drawFlaw_1, rX8_drawFlaw_3, rX8_drawFlaw_6, rX8_drawFlaw_7, rX8_drawFlaw_10, rX8_drawFlaw_11, rX8_drawFlaw_12, rX8_drawFlaw_15, rX8_drawFlaw_18, rX8_drawFlaw_19, hS, c1, ab_ifT, ne_eq, not_false_eq_true, not_true_eq_false, true_and, and_true, and_self, true_imp_iff, false_imp_iff, imp_self, Bool.not_false, Bool.not_true, reduceCtorEq, ab_isJ, ab_psh, ab_cats, Bool.false_eq_true, if_true, if_false, ab_shf, ab_shw, Int.le_refl, Classical.not_not, Int.zero_add, forall_const, ↓ab_itT, ↓ab_itF, ab_anT, ab_w32_id, ab_rdf_ne, ab_rdw_ne, ab_rdw_eq, ab_rdf_in, ab_td2, ab_tm2]
theorem sp_allPlaces {B n0 n1 : Int} (hB : ac_BoneG σ B) (h0 : ab_rd σ (B + 1) 0 = n0) (h1 : ab_rd σ (B + 1) 1 = n1) (hn : (0 ≤ n0 ∧ n0 ≤ 6) ∧ (0 ≤ n1 ∧ n1 ≤ 6)) : ab_Do X 8 [ab_R B] σ Q ↔ Q (some (ab_I (n0 + n1))) σ := by
  obtain ⟨hz, s0, s1, s2, q3, q4⟩ := hB
  simp (disch := omega) only [do_X1_allPlaces, rX1_allPlaces_0, rX1_allPlaces_1, rX1_allPlaces_4, rX1_allPlaces_5, rX1_allPlaces_6, rX1_allPlaces_7, rX1_allPlaces_10, rX1_allPlaces_11, rX1_allPlaces_12, rX1_allPlaces_13, s0, s1, q3, h0, h1, ne_eq, not_false_eq_true, not_true_eq_false, true_and, and_true, and_self, true_imp_iff, false_imp_iff, imp_self, Bool.not_false, Bool.not_true, reduceCtorEq, ab_isJ, ab_psh, ab_cats, Bool.false_eq_true, if_true, if_false, ab_shf, ab_shw, Int.le_refl, Classical.not_not, Int.zero_add, forall_const, ↓ab_itT, ↓ab_itF, ab_anT, ab_w32_id, ab_rdf_ne, ab_rdw_ne, ab_rdw_eq, ab_rdf_in, ab_td2, ab_tm2]
theorem ac_gk_ne {x f : Int} (hx : x < 134 ∨ 146 < x) : ab_rd (ac_gk σ κ d b p hp q hq mv) x f = ab_rd σ x f := by
  unfold ac_gk
  rw [ac_grip_ne (by omega), ac_grip_ne (by omega), ab_rdw_ne (by omega)]
theorem ac_rst_ne {r0 r1 x f : Int} (hx : x < 134 ∨ 146 < x) : ab_rd (ac_rst σ κ d b p hp q hq mv r0 r1) x f = ab_rd σ x f := by
  unfold ac_rst
  rw [ac_w3_ne (by omega), ac_w3_ne (by omega)]
theorem ac_Ld.seed {x : Int} (h : ac_Ld σ κ kd d b p hp q hq mv) : ac_Ld (ab_wr σ 31 4 x) κ kd d b p hp q hq mv := by
  obtain ⟨h1, h2, h3, h4, h5, h6⟩ := h
  exact ⟨h1.wr (fun _ _ _ => by decide), h2.congr (ab_rdw_ne (by omega)) (fun i => ab_rdw_ne (by omega)) (fun i => ab_rdw_ne (by omega)), h3.congr (ab_rdw_ne (by omega)) (fun i => ab_rdw_ne (by omega)) (fun i => ab_rdw_ne (by omega)), by rw [ab_rdw_ne (by omega), h4], by rw [ab_rdw_ne (by omega), h5], h6⟩
theorem cq_runSunday {x : Int × (Int → Int)} (h : ac_CI σ K κ) (hk : ac_KK κ) (hD : ac_KD σ κ v) (hV : ac_VB κ v) (h4 : ab_rd σ 31 4 = x.1) (hx : 0 ≤ x.1 ∧ x.1 ≤ 65536) (hy : ∀ k, 0 ≤ k → k < 8 → ab_rd σ 328 k = x.2 k) (hyb : ∀ k, 0 ≤ x.2 k ∧ x.2 k ≤ 1000) (hQ : ∀ τ, ab_Same ac_PE σ τ → ab_rd τ 31 4 = (ac_sun κ v x).1 → (∀ k, 0 ≤ k → k < 8 → ab_rd τ 328 k = (ac_sun κ v x).2 k) → Q none τ) : ab_Do X 151 [ab_R 1] σ Q := by
  obtain ⟨s, y⟩ := x
  dsimp only at h4 hx hy hyb
  have g := h.1
  have h7 := h.2.1
  have hC := h.2.2.1
  have hv : K = 5 ∨ K = 329 := hC.1
  have n5 := h.2.2.2.1.1
  have n6 := h.2.2.2.1.2.1
  have k5 := hk.2.2.2.1
  have k6 := hk.2.2.2.2
  have sK := (g.kit hC.1).1
  have e5 := hC.2.2.1.1
  have e6 := hC.2.2.1.2.1
  obtain ⟨hb, hp, hq, hr⟩ := ac_y_b (s := s) hk
  have c1 := fun n Q' => sp_draw (X := X) (Q := Q') (n := n) (gS_31 g) (by omega) h4 hx
  have gs31 := gS_31 g
  have c2 := fun s n Q' hs => sp_draw (X := X) (σ := ab_wr σ 31 4 s) (Q := Q') (n := n) gs31 (by omega) ab_rdw_eq hs
  have c3 := fun n Q' => c2 (ac_dr s) n Q' ac_dr_b
  have c4 := fun n Q' => c2 (ac_dr (ac_dr s)) n Q' ac_dr_b
  have s3 : ab_Same ac_PE σ (ab_wr σ 31 4 (ac_dr (ac_dr (ac_dr s)))) := ab_Same.refl.wr (by unfold ac_PE; omega)
  have h3 := h.sameE s3
  have D3 := (hD.sameE s3) (ac_yb κ s) hb.1 hb.2
  have c5 := fun Q' => sp_takeNow (X := X) (Q := Q') h3.1 h3.2.1 h3.2.2.1 hk hb D3.1 D3.2 (hV.1 _ hb.1 hb.2).2
  have h4' := h3.same (ac_tk_same (κ := κ) (kd := v (ac_yb κ s)) (d := v (5 + ac_yb κ s)))
  have g4 := h4'.1
  have c6 := fun Q' => sp_gripsAsTold (X := X) (Q := Q') h4'.1 h4'.2.1 h4'.2.2.1 hk ac_tk_Tk (hV.1 _ hb.1 hb.2).2 hb hp hq
  have b0 := ac_h_b hk hb (Or.inl rfl) hp
  have b1 := ac_h_b hk hb (Or.inr rfl) hq
  have L := ac_gk_Ld (mv := 2) h4'.1 hk (hV.1 _ hb.1 hb.2).2 hb hp hq (show 0 ≤ ac_h κ (ac_yp κ s) (ac_yb κ s) 0 ∧ ac_h κ (ac_yp κ s) (ac_yb κ s) 0 ≤ 6 by omega) (show 0 ≤ ac_h κ (ac_yq κ s) (ac_yb κ s) 1 ∧ ac_h κ (ac_yq κ s) (ac_yb κ s) 1 ≤ 6 by omega) ac_tk_4 ac_tk_8
  have sG : ab_Same ac_PE σ (ac_gk (ac_tk (ab_wr σ 31 4 (ac_dr (ac_dr (ac_dr s)))) κ (v (ac_yb κ s)) (v (5 + ac_yb κ s))) κ (v (5 + ac_yb κ s)) (ac_yb κ s) (ac_yp κ s) (ac_h κ (ac_yp κ s) (ac_yb κ s) 0) (ac_yq κ s) (ac_h κ (ac_yq κ s) (ac_yb κ s) 1) 2) := s3.trans (((ac_tk_same.trans ac_gk_same).toD (fun f => by rw [ac_gk_r1 (by omega), ac_tk_rd (by omega)])).mono (fun _ _ => ac_PD_PE))
  have g31 : ab_rd (ac_gk (ac_tk (ab_wr σ 31 4 (ac_dr (ac_dr (ac_dr s)))) κ (v (ac_yb κ s)) (v (5 + ac_yb κ s))) κ (v (5 + ac_yb κ s)) (ac_yb κ s) (ac_yp κ s) (ac_h κ (ac_yp κ s) (ac_yb κ s) 0) (ac_yq κ s) (ac_h κ (ac_yq κ s) (ac_yb κ s) 1) 2) 31 4 = ac_ys s := by
    rw [ac_gk_r1 (by omega), ac_tk_rd (by omega), ab_rdw_eq]; rfl
  have y31 : ∀ k, 0 ≤ k → k < 8 → ab_rd (ac_gk (ac_tk (ab_wr σ 31 4 (ac_dr (ac_dr (ac_dr s)))) κ (v (ac_yb κ s)) (v (5 + ac_yb κ s))) κ (v (5 + ac_yb κ s)) (ac_yb κ s) (ac_yp κ s) (ac_h κ (ac_yp κ s) (ac_yb κ s) 0) (ac_yq κ s) (ac_h κ (ac_yq κ s) (ac_yb κ s) 1) 2) 328 k = y k := fun k h1 h2 => by
    rw [ac_gk_ne (by omega), ac_tk_rd (by omega), ab_rdw_ne (by omega), hy k h1 h2]
  generalize ac_gk (ac_tk (ab_wr σ 31 4 (ac_dr (ac_dr (ac_dr s)))) κ (v (ac_yb κ s)) (v (5 + ac_yb κ s))) κ (v (5 + ac_yb κ s)) (ac_yb κ s) (ac_yp κ s) (ac_h κ (ac_yp κ s) (ac_yb κ s) 0) (ac_yq κ s) (ac_h κ (ac_yq κ s) (ac_yb κ s) 1) 2 = ρ at c6 L sG g31 y31
  have hρ := h.sameE sG
  have gρ := hρ.1
  have h7ρ := hρ.2.1
  have hCρ := hρ.2.2.1
  obtain ⟨s0, s1, s2, s3', s4, p6, p8, p13, p14⟩ := gρ.kit hCρ.1
  have gB := gρ.bone hCρ.1 hb.1 (by omega)
  have eb := hCρ.2.2.2.1 _ hb.1 hb.2
  have n0 := ac_n_b hk hb (Or.inl rfl)
  have n1 := ac_n_b hk hb (Or.inr rfl)
  have e4 := hCρ.2.1.2.2.2.2
  have c7 := fun Q' => sp_allPlaces (X := X) (Q := Q') (n0 := ac_n κ (ac_yb κ s) 0) (n1 := ac_n κ (ac_yb κ s) 1) gB.1 (eb.2.2 0 (Or.inl rfl)).1 (eb.2.2 1 (Or.inr rfl)).1 (by omega)
  have c8 := fun flaw Q' => sp_drawFlaw (X := X) (Q := Q') (flaw := flaw) (n := ac_n κ (ac_yb κ s) 0 + ac_n κ (ac_yb κ s) 1) (gS_31 gρ) (by omega) g31 ac_dr_b (by omega)
  have L2 := L.seed (x := ac_fsd (κ 4 0) (ac_ys s))
  have gL2 := L2.1
  have fpb := ac_fp_b (flaw := κ 4 0) (n := ac_n κ (ac_yb κ s) 0 + ac_n κ (ac_yb κ s) 1) (s := ac_ys s) (by omega)
  have c9 := fun Q' => sp_resolveK (X := X) (Q := Q') L2 fpb
  have sR : ab_Same ac_PE σ (ac_rst (ab_wr ρ 31 4 (ac_fsd (κ 4 0) (ac_ys s))) κ (v (5 + ac_yb κ s)) (ac_yb κ s) (ac_yp κ s) (ac_h κ (ac_yp κ s) (ac_yb κ s) 0) (ac_yq κ s) (ac_h κ (ac_yq κ s) (ac_yb κ s) 1) 2 (ac_r0 (ac_n κ (ac_yb κ s) 0) (ac_fp (κ 4 0) (ac_n κ (ac_yb κ s) 0 + ac_n κ (ac_yb κ s) 1) (ac_ys s))) (ac_r1 (ac_n κ (ac_yb κ s) 0) (ac_fp (κ 4 0) (ac_n κ (ac_yb κ s) 0 + ac_n κ (ac_yb κ s) 1) (ac_ys s)))) := (sG.wr (by unfold ac_PE; omega)).trans ((ac_rst_same.toD (fun f => ac_rst_r1 (by omega))).mono (fun _ _ => ac_PD_PE))
  have r31 : ab_rd (ac_rst (ab_wr ρ 31 4 (ac_fsd (κ 4 0) (ac_ys s))) κ (v (5 + ac_yb κ s)) (ac_yb κ s) (ac_yp κ s) (ac_h κ (ac_yp κ s) (ac_yb κ s) 0) (ac_yq κ s) (ac_h κ (ac_yq κ s) (ac_yb κ s) 1) 2 (ac_r0 (ac_n κ (ac_yb κ s) 0) (ac_fp (κ 4 0) (ac_n κ (ac_yb κ s) 0 + ac_n κ (ac_yb κ s) 1) (ac_ys s))) (ac_r1 (ac_n κ (ac_yb κ s) 0) (ac_fp (κ 4 0) (ac_n κ (ac_yb κ s) 0 + ac_n κ (ac_yb κ s) 1) (ac_ys s)))) 31 4 = ac_fsd (κ 4 0) (ac_ys s) := by
    rw [ac_rst_r1 (by omega), ab_rdw_eq]
  have yR : ∀ k, 0 ≤ k → k < 8 → ab_rd (ac_rst (ab_wr ρ 31 4 (ac_fsd (κ 4 0) (ac_ys s))) κ (v (5 + ac_yb κ s)) (ac_yb κ s) (ac_yp κ s) (ac_h κ (ac_yp κ s) (ac_yb κ s) 0) (ac_yq κ s) (ac_h κ (ac_yq κ s) (ac_yb κ s) 1) 2 (ac_r0 (ac_n κ (ac_yb κ s) 0) (ac_fp (κ 4 0) (ac_n κ (ac_yb κ s) 0 + ac_n κ (ac_yb κ s) 1) (ac_ys s))) (ac_r1 (ac_n κ (ac_yb κ s) 0) (ac_fp (κ 4 0) (ac_n κ (ac_yb κ s) 0 + ac_n κ (ac_yb κ s) 1) (ac_ys s)))) 328 k = y k := fun k h1 h2 => by
    rw [ac_rst_ne (by omega), ab_rdw_ne (by omega), y31 k h1 h2]
  have eyc : ac_yc κ v s = ac_C κ (v (ac_yb κ s)) (v (5 + ac_yb κ s)) (ac_yb κ s) (ac_yp κ s) (ac_h κ (ac_yp κ s) (ac_yb κ s) 0) (ac_yq κ s) (ac_h κ (ac_yq κ s) (ac_yb κ s) 1) 2 (ac_r0 (ac_n κ (ac_yb κ s) 0) (ac_fp (κ 4 0) (ac_n κ (ac_yb κ s) 0 + ac_n κ (ac_yb κ s) 1) (ac_ys s))) (ac_r1 (ac_n κ (ac_yb κ s) 0) (ac_fp (κ 4 0) (ac_n κ (ac_yb κ s) 0 + ac_n κ (ac_yb κ s) 1) (ac_ys s))) := rfl
  rw [← eyc] at c9
  generalize ac_rst (ab_wr ρ 31 4 (ac_fsd (κ 4 0) (ac_ys s))) κ (v (5 + ac_yb κ s)) (ac_yb κ s) (ac_yp κ s) (ac_h κ (ac_yp κ s) (ac_yb κ s) 0) (ac_yq κ s) (ac_h κ (ac_yq κ s) (ac_yb κ s) 1) 2 (ac_r0 (ac_n κ (ac_yb κ s) 0) (ac_fp (κ 4 0) (ac_n κ (ac_yb κ s) 0 + ac_n κ (ac_yb κ s) 1) (ac_ys s))) (ac_r1 (ac_n κ (ac_yb κ s) 0) (ac_fp (κ 4 0) (ac_n κ (ac_yb κ s) 0 + ac_n κ (ac_yb κ s) 1) (ac_ys s))) = R at c9 sR r31 yR
  have gR := (h.sameE sR).1
  have fin : ∀ idx, 0 ≤ idx → idx < 8 → ac_yi κ v s = idx → Q none (ab_wr R 328 idx (y idx + 1)) := by
    intro idx i1 i2 ei
    refine hQ _ (sR.wr (by unfold ac_PE ac_PD ac_PC; omega)) (by rw [ab_rdw_ne (by omega), r31]; rfl) (fun k k1 k2 => ?_)
    show _ = ac_add (ac_yi κ v s) 1 y k
    unfold ac_add
    rw [ei]
    by_cases w : k = idx
    · rw [if_pos w, w, ab_rdw_eq]
    · rw [if_neg w, ab_rdw_ne (by omega), yR k k1 k2]
  have yb := ac_C_b (κ := κ) (kd := v (ac_yb κ s)) (d := v (5 + ac_yb κ s)) (b := ac_yb κ s) (p := ac_yp κ s) (hp := ac_h κ (ac_yp κ s) (ac_yb κ s) 0) (q := ac_yq κ s) (hq := ac_h κ (ac_yq κ s) (ac_yb κ s) 1) (mv := 2) (r0 := ac_r0 (ac_n κ (ac_yb κ s) 0) (ac_fp (κ 4 0) (ac_n κ (ac_yb κ s) 0 + ac_n κ (ac_yb κ s) 1) (ac_ys s))) (r1 := ac_r1 (ac_n κ (ac_yb κ s) 0) (ac_fp (κ 4 0) (ac_n κ (ac_yb κ s) 0 + ac_n κ (ac_yb κ s) 1) (ac_ys s)))
  rw [← eyc] at yb
  have eyi : ac_yi κ v s = if ac_yc κ v s = 0 then ac_yp κ s else if ac_yc κ v s = 1 then ac_yq κ s else if ac_yc κ v s = 2 then 6 else 7 := rfl
  have f1 : ac_dr s % κ 5 0 = ac_yb κ s := rfl
  have f2 : ac_dr (ac_dr s) % κ 6 0 = ac_yp κ s := rfl
  have f3 : ac_dr (ac_dr (ac_dr s)) % (κ 6 0 - 1) = ac_yr κ s := rfl
  have head : ∀ (Qf : Prop), (Qf → ab_Run X 151 100 (4, 0, 0) [ab_R 1, ab_I (ac_yb κ s), ab_I (ac_yp κ s), ab_I (ac_yq κ s), ab_R 0] [ab_I (ac_yc κ v s)] R Q) → Qf → ab_Do X 151 [ab_R 1] σ Q := by
    intro Qf hf hQf
    have hf := hf hQf
    by_cases w : ac_yp κ s ≤ ac_yr κ s
    · have eq1 : ac_yq κ s = ac_yr κ s + 1 := if_pos w
      rw [eq1] at c6 hf
      simp (disch := omega) only [do_X11_runSunday, rX11_runSunday_0, rX11_runSunday_1, rX11_runSunday_4, rX11_runSunday_5, rX11_runSunday_8, rX11_runSunday_11, rX11_runSunday_14, rX11_runSunday_15, rX11_runSunday_16, rX11_runSunday_19, rX11_runSunday_20, rX11_runSunday_23, rX11_runSunday_26, rX11_runSunday_29, rX11_runSunday_30, rX11_runSunday_31, rX11_runSunday_34, rX11_runSunday_35, rX11_runSunday_38, rX11_runSunday_41, rX11_runSunday_42, rX11_runSunday_43, rX11_runSunday_46, rX11_runSunday_47, rX11_runSunday_48, rX11_runSunday_49, rX11_runSunday_52, rX11_runSunday_55, rX11_runSunday_56, rX11_runSunday_57, rX11_runSunday_60, rX11_runSunday_61, rX11_runSunday_62, rX11_runSunday_63, rX11_runSunday_64, rX11_runSunday_67, rX11_runSunday_68, rX11_runSunday_71, rX11_runSunday_72, rX11_runSunday_75, rX11_runSunday_76, rX11_runSunday_79, rX11_runSunday_82, rX11_runSunday_83, rX11_runSunday_86, rX11_runSunday_89, rX11_runSunday_90, rX11_runSunday_91, rX11_runSunday_94, rX11_runSunday_97, gS_1, gP_1_1, gP_1_3, gS_31, gS_134, g, g4, gρ, gL2, h7, h7ρ, sK, e5, e6, c1, c3, c4, ab_ww, ab_ifT, f1, f2, f3, c5, c6, s0, s1, p6, gB.2, gB.1.2.1, e4, c7, c8, c9, ne_eq, not_false_eq_true, not_true_eq_false, true_and, and_true, and_self, true_imp_iff, false_imp_iff, imp_self, Bool.not_false, Bool.not_true, reduceCtorEq, ab_isJ, ab_psh, ab_cats, Bool.false_eq_true, if_true, if_false, ab_shf, ab_shw, Int.le_refl, Classical.not_not, Int.zero_add, forall_const, ↓ab_itT, ↓ab_itF, ab_anT, ab_w32_id, ab_rdf_ne, ab_rdw_ne, ab_rdw_eq, ab_rdf_in, ab_td2, ab_tm2]
      all_goals exact hf
    · have eq1 : ac_yq κ s = ac_yr κ s := if_neg w
      rw [eq1] at c6 hf
      simp (disch := omega) only [do_X11_runSunday, rX11_runSunday_0, rX11_runSunday_1, rX11_runSunday_4, rX11_runSunday_5, rX11_runSunday_8, rX11_runSunday_11, rX11_runSunday_14, rX11_runSunday_15, rX11_runSunday_16, rX11_runSunday_19, rX11_runSunday_20, rX11_runSunday_23, rX11_runSunday_26, rX11_runSunday_29, rX11_runSunday_30, rX11_runSunday_31, rX11_runSunday_34, rX11_runSunday_35, rX11_runSunday_38, rX11_runSunday_41, rX11_runSunday_42, rX11_runSunday_43, rX11_runSunday_46, rX11_runSunday_47, rX11_runSunday_48, rX11_runSunday_49, rX11_runSunday_52, rX11_runSunday_55, rX11_runSunday_56, rX11_runSunday_57, rX11_runSunday_60, rX11_runSunday_61, rX11_runSunday_62, rX11_runSunday_63, rX11_runSunday_64, rX11_runSunday_67, rX11_runSunday_68, rX11_runSunday_71, rX11_runSunday_72, rX11_runSunday_75, rX11_runSunday_76, rX11_runSunday_79, rX11_runSunday_82, rX11_runSunday_83, rX11_runSunday_86, rX11_runSunday_89, rX11_runSunday_90, rX11_runSunday_91, rX11_runSunday_94, rX11_runSunday_97, gS_1, gP_1_1, gP_1_3, gS_31, gS_134, g, g4, gρ, gL2, h7, h7ρ, sK, e5, e6, c1, c3, c4, ab_ww, ab_ifT, f1, f2, f3, c5, c6, s0, s1, p6, gB.2, gB.1.2.1, e4, c7, c8, c9, ne_eq, not_false_eq_true, not_true_eq_false, true_and, and_true, and_self, true_imp_iff, false_imp_iff, imp_self, Bool.not_false, Bool.not_true, reduceCtorEq, ab_isJ, ab_psh, ab_cats, Bool.false_eq_true, if_true, if_false, ab_shf, ab_shw, Int.le_refl, Classical.not_not, Int.zero_add, forall_const, ↓ab_itT, ↓ab_itF, ab_anT, ab_w32_id, ab_rdf_ne, ab_rdw_ne, ab_rdw_eq, ab_rdf_in, ab_td2, ab_tm2]
      all_goals exact hf
  refine head True (fun _ => ?_) trivial
  clear head
  by_cases w0 : ac_yc κ v s = 0
  · have yk := hyb (ac_yp κ s)
    have yv := yR (ac_yp κ s) (by omega) (by omega)
    have := fin (ac_yp κ s) (by omega) (by omega) (by rw [eyi, if_pos w0])
    simp (disch := omega) only [rX11_runSunday_100, rX11_runSunday_102, rX11_runSunday_104, rX11_runSunday_107, rX11_runSunday_108, rX11_runSunday_111, rX11_runSunday_112, rX11_runSunday_113, rX11_runSunday_114, rX11_runSunday_115, rX11_runSunday_116, rX11_runSunday_117, rX11_runSunday_120, rX11_runSunday_122, rX11_runSunday_123, rX11_runSunday_126, rX11_runSunday_127, rX11_runSunday_130, rX11_runSunday_131, rX11_runSunday_132, rX11_runSunday_133, rX11_runSunday_134, rX11_runSunday_135, rX11_runSunday_136, rX11_runSunday_139, rX11_runSunday_141, rX11_runSunday_142, rX11_runSunday_145, rX11_runSunday_146, rX11_runSunday_149, rX11_runSunday_151, rX11_runSunday_152, rX11_runSunday_153, rX11_runSunday_154, rX11_runSunday_155, rX11_runSunday_156, rX11_runSunday_159, rX11_runSunday_160, rX11_runSunday_163, rX11_runSunday_165, rX11_runSunday_166, rX11_runSunday_167, rX11_runSunday_168, rX11_runSunday_169, rX11_runSunday_170, gS_1, gP_1_6, gS_328, gR, yv, ne_eq, not_false_eq_true, not_true_eq_false, true_and, and_true, and_self, true_imp_iff, false_imp_iff, imp_self, Bool.not_false, Bool.not_true, reduceCtorEq, ab_isJ, ab_psh, ab_cats, Bool.false_eq_true, if_true, if_false, ab_shf, ab_shw, Int.le_refl, Classical.not_not, Int.zero_add, forall_const, ↓ab_itT, ↓ab_itF, ab_anT, ab_w32_id, ab_rdf_ne, ab_rdw_ne, ab_rdw_eq, ab_rdf_in, ab_td2, ab_tm2]
    all_goals exact this
  · by_cases w1 : ac_yc κ v s = 1
    · have yk := hyb (ac_yq κ s)
      have yv := yR (ac_yq κ s) (by omega) (by omega)
      have := fin (ac_yq κ s) (by omega) (by omega) (by rw [eyi, if_neg w0, if_pos w1])
      simp (disch := omega) only [rX11_runSunday_100, rX11_runSunday_102, rX11_runSunday_104, rX11_runSunday_107, rX11_runSunday_108, rX11_runSunday_111, rX11_runSunday_112, rX11_runSunday_113, rX11_runSunday_114, rX11_runSunday_115, rX11_runSunday_116, rX11_runSunday_117, rX11_runSunday_120, rX11_runSunday_122, rX11_runSunday_123, rX11_runSunday_126, rX11_runSunday_127, rX11_runSunday_130, rX11_runSunday_131, rX11_runSunday_132, rX11_runSunday_133, rX11_runSunday_134, rX11_runSunday_135, rX11_runSunday_136, rX11_runSunday_139, rX11_runSunday_141, rX11_runSunday_142, rX11_runSunday_145, rX11_runSunday_146, rX11_runSunday_149, rX11_runSunday_151, rX11_runSunday_152, rX11_runSunday_153, rX11_runSunday_154, rX11_runSunday_155, rX11_runSunday_156, rX11_runSunday_159, rX11_runSunday_160, rX11_runSunday_163, rX11_runSunday_165, rX11_runSunday_166, rX11_runSunday_167, rX11_runSunday_168, rX11_runSunday_169, rX11_runSunday_170, gS_1, gP_1_6, gS_328, gR, yv, ne_eq, not_false_eq_true, not_true_eq_false, true_and, and_true, and_self, true_imp_iff, false_imp_iff, imp_self, Bool.not_false, Bool.not_true, reduceCtorEq, ab_isJ, ab_psh, ab_cats, Bool.false_eq_true, if_true, if_false, ab_shf, ab_shw, Int.le_refl, Classical.not_not, Int.zero_add, forall_const, ↓ab_itT, ↓ab_itF, ab_anT, ab_w32_id, ab_rdf_ne, ab_rdw_ne, ab_rdw_eq, ab_rdf_in, ab_td2, ab_tm2]
      all_goals exact this
    · by_cases w2 : ac_yc κ v s = 2
      · have yk := hyb 6
        have yv := yR 6 (by omega) (by omega)
        have := fin 6 (by omega) (by omega) (by rw [eyi, if_neg w0, if_neg w1, if_pos w2])
        simp (disch := omega) only [rX11_runSunday_100, rX11_runSunday_102, rX11_runSunday_104, rX11_runSunday_107, rX11_runSunday_108, rX11_runSunday_111, rX11_runSunday_112, rX11_runSunday_113, rX11_runSunday_114, rX11_runSunday_115, rX11_runSunday_116, rX11_runSunday_117, rX11_runSunday_120, rX11_runSunday_122, rX11_runSunday_123, rX11_runSunday_126, rX11_runSunday_127, rX11_runSunday_130, rX11_runSunday_131, rX11_runSunday_132, rX11_runSunday_133, rX11_runSunday_134, rX11_runSunday_135, rX11_runSunday_136, rX11_runSunday_139, rX11_runSunday_141, rX11_runSunday_142, rX11_runSunday_145, rX11_runSunday_146, rX11_runSunday_149, rX11_runSunday_151, rX11_runSunday_152, rX11_runSunday_153, rX11_runSunday_154, rX11_runSunday_155, rX11_runSunday_156, rX11_runSunday_159, rX11_runSunday_160, rX11_runSunday_163, rX11_runSunday_165, rX11_runSunday_166, rX11_runSunday_167, rX11_runSunday_168, rX11_runSunday_169, rX11_runSunday_170, gS_1, gP_1_6, gS_328, gR, yv, ne_eq, not_false_eq_true, not_true_eq_false, true_and, and_true, and_self, true_imp_iff, false_imp_iff, imp_self, Bool.not_false, Bool.not_true, reduceCtorEq, ab_isJ, ab_psh, ab_cats, Bool.false_eq_true, if_true, if_false, ab_shf, ab_shw, Int.le_refl, Classical.not_not, Int.zero_add, forall_const, ↓ab_itT, ↓ab_itF, ab_anT, ab_w32_id, ab_rdf_ne, ab_rdw_ne, ab_rdw_eq, ab_rdf_in, ab_td2, ab_tm2]
        all_goals exact this
      · have yk := hyb 7
        have yv := yR 7 (by omega) (by omega)
        have := fin 7 (by omega) (by omega) (by rw [eyi, if_neg w0, if_neg w1, if_neg w2])
        simp (disch := omega) only [rX11_runSunday_100, rX11_runSunday_102, rX11_runSunday_104, rX11_runSunday_107, rX11_runSunday_108, rX11_runSunday_111, rX11_runSunday_112, rX11_runSunday_113, rX11_runSunday_114, rX11_runSunday_115, rX11_runSunday_116, rX11_runSunday_117, rX11_runSunday_120, rX11_runSunday_122, rX11_runSunday_123, rX11_runSunday_126, rX11_runSunday_127, rX11_runSunday_130, rX11_runSunday_131, rX11_runSunday_132, rX11_runSunday_133, rX11_runSunday_134, rX11_runSunday_135, rX11_runSunday_136, rX11_runSunday_139, rX11_runSunday_141, rX11_runSunday_142, rX11_runSunday_145, rX11_runSunday_146, rX11_runSunday_149, rX11_runSunday_151, rX11_runSunday_152, rX11_runSunday_153, rX11_runSunday_154, rX11_runSunday_155, rX11_runSunday_156, rX11_runSunday_159, rX11_runSunday_160, rX11_runSunday_163, rX11_runSunday_165, rX11_runSunday_166, rX11_runSunday_167, rX11_runSunday_168, rX11_runSunday_169, rX11_runSunday_170, gS_1, gP_1_6, gS_328, gR, yv, ne_eq, not_false_eq_true, not_true_eq_false, true_and, and_true, and_self, true_imp_iff, false_imp_iff, imp_self, Bool.not_false, Bool.not_true, reduceCtorEq, ab_isJ, ab_psh, ab_cats, Bool.false_eq_true, if_true, if_false, ab_shf, ab_shw, Int.le_refl, Classical.not_not, Int.zero_add, forall_const, ↓ab_itT, ↓ab_itF, ab_anT, ab_w32_id, ab_rdf_ne, ab_rdw_ne, ab_rdw_eq, ab_rdf_in, ab_td2, ab_tm2]
        all_goals exact this
theorem ac_sun_b {x : Int × (Int → Int)} {m : Int} (h : ∀ k, 0 ≤ x.2 k ∧ x.2 k ≤ m) : (0 ≤ (ac_sun κ v x).1 ∧ (ac_sun κ v x).1 ≤ 65536) ∧ ∀ k, 0 ≤ (ac_sun κ v x).2 k ∧ (ac_sun κ v x).2 k ≤ m + 1 := by
  refine ⟨ac_fsd_b, fun k => ?_⟩
  have := h k
  show 0 ≤ ac_add (ac_yi κ v x.1) 1 x.2 k ∧ ac_add (ac_yi κ v x.1) 1 x.2 k ≤ m + 1
  unfold ac_add
  split <;> omega
theorem cq_runYear_l (h : ac_CI σ K κ) (hk : ac_KK κ) (hD : ac_KD σ κ v) (hV : ac_VB κ v) (sd kept : Int) (hn : n ≤ 200) (fin : Int → Int) (hQ : ∀ τ, ab_Same ac_PE σ τ → ab_rd τ 31 4 = kept → (∀ k, 0 ≤ k → k < 8 → ab_rd τ 328 k = fin k) → Q none τ) : ∀ (d : Nat) (i : Int) (x : Int × (Int → Int)) (τ : ab_S), ab_Same ac_PE σ τ → 0 ≤ i → i + d = n → ab_rd τ 31 4 = x.1 → (0 ≤ x.1 ∧ x.1 ≤ 65536) → (∀ k, 0 ≤ k → k < 8 → ab_rd τ 328 k = x.2 k) → (∀ k, 0 ≤ x.2 k ∧ x.2 k ≤ i) → (ab_it (fun _ x => ac_sun κ v x) d i x).2 = fin → ab_Run X 150 43 (5, 0, 0) [ab_R 1, ab_I sd, ab_I n, ab_I kept, ab_I i] [] τ Q := by
  intro d
  induction d with
  | zero =>
    intro i x τ hs hi hd h4 hx hy hyb hf
    have g := (h.sameE hs).1
    rw [ab_it] at hf
    rw [rX11_runYear_43]
    simp (disch := omega) only [rX11_runYear_45, rX11_runYear_46, rX11_runYear_59, rX11_runYear_60, rX11_runYear_63, rX11_runYear_64, rX11_runYear_67, gS_1, gP_1_1, gS_31, g, ne_eq, not_false_eq_true, not_true_eq_false, true_and, and_true, and_self, true_imp_iff, false_imp_iff, imp_self, Bool.not_false, Bool.not_true, reduceCtorEq, ab_isJ, ab_psh, ab_cats, Bool.false_eq_true, if_true, if_false, ab_shf, ab_shw, Int.le_refl, Classical.not_not, Int.zero_add, forall_const, ↓ab_itT, ↓ab_itF, ab_anT, ab_w32_id, ab_rdf_ne, ab_rdw_ne, ab_rdw_eq, ab_rdf_in, ab_td2, ab_tm2]
    exact hQ _ (hs.wr (by unfold ac_PE; omega)) ab_rdw_eq (fun k k1 k2 => by rw [ab_rdw_ne (by omega), hy k k1 k2, hf])
  | succ d ih =>
    intro i x τ hs hi hd h4 hx hy hyb hf
    have hI := h.sameE hs
    have g := hI.1
    rw [ab_it] at hf
    rw [rX11_runYear_43]
    simp (disch := omega) only [rX11_runYear_45, rX11_runYear_46, rX11_runYear_49, rX11_runYear_50, gS_1, g, ne_eq, not_false_eq_true, not_true_eq_false, true_and, and_true, and_self, true_imp_iff, false_imp_iff, imp_self, Bool.not_false, Bool.not_true, reduceCtorEq, ab_isJ, ab_psh, ab_cats, Bool.false_eq_true, if_true, if_false, ab_shf, ab_shw, Int.le_refl, Classical.not_not, Int.zero_add, forall_const, ↓ab_itT, ↓ab_itF, ab_anT, ab_w32_id, ab_rdf_ne, ab_rdw_ne, ab_rdw_eq, ab_rdf_in, ab_td2, ab_tm2]
    refine cq_runSunday (x := x) hI hk (hD.sameE hs) hV h4 hx hy (fun k => by have := hyb k; omega) (fun τ' hs' h4' hy' => ?_)
    have sb := ac_sun_b (κ := κ) (v := v) (x := x) (m := i) hyb
    have key := ih (i + 1) (ac_sun κ v x) τ' (hs.trans hs') (by omega) (by omega) h4' sb.1 hy' sb.2 hf
    simp (disch := omega) only [rX11_runYear_53, rX11_runYear_56, ne_eq, not_false_eq_true, not_true_eq_false, true_and, and_true, and_self, true_imp_iff, false_imp_iff, imp_self, Bool.not_false, Bool.not_true, reduceCtorEq, ab_isJ, ab_psh, ab_cats, Bool.false_eq_true, if_true, if_false, ab_shf, ab_shw, Int.le_refl, Classical.not_not, Int.zero_add, forall_const, ↓ab_itT, ↓ab_itF, ab_anT, ab_w32_id, ab_rdf_ne, ab_rdw_ne, ab_rdw_eq, ab_rdf_in, ab_td2, ab_tm2]
    all_goals exact key
theorem cq_runYear_0 (hg : ab_Geo σ) (sd : Int) (l4 : ab_V) : ∀ (d : Nat) (i : Int), 0 ≤ i → i + d = 8 → (ab_Run X 150 2 (5, 0, 0) [ab_R 1, ab_I sd, ab_I n, ab_I i, l4] [] (ab_fl σ 328 i (fun _ => 0)) Q ↔ ab_Run X 150 24 (5, 0, 0) [ab_R 1, ab_I sd, ab_I n, ab_I 8, l4] [] (ab_fl σ 328 8 (fun _ => 0)) Q) := by
  intro d
  induction d with
  | zero =>
    intro i hi hd
    obtain rfl : i = 8 := by omega
    rw [rX11_runYear_2]
    simp (disch := omega) only [rX11_runYear_3, rX11_runYear_4, rX11_runYear_7, rX11_runYear_8, gS_1, gP_1_6, gS_328, hg, ne_eq, not_false_eq_true, not_true_eq_false, true_and, and_true, and_self, true_imp_iff, false_imp_iff, imp_self, Bool.not_false, Bool.not_true, reduceCtorEq, ab_isJ, ab_psh, ab_cats, Bool.false_eq_true, if_true, if_false, ab_shf, ab_shw, Int.le_refl, Classical.not_not, Int.zero_add, forall_const, ↓ab_itT, ↓ab_itF, ab_anT, ab_w32_id, ab_rdf_ne, ab_rdw_ne, ab_rdw_eq, ab_rdf_in, ab_td2, ab_tm2]
  | succ d ih =>
    intro i hi hd
    have key := ih (i + 1) (by omega) (by omega)
    rw [← ab_fl_succ hi] at key
    rw [rX11_runYear_2, ← key]
    simp (disch := omega) only [rX11_runYear_3, rX11_runYear_4, rX11_runYear_7, rX11_runYear_8, rX11_runYear_11, rX11_runYear_12, rX11_runYear_15, rX11_runYear_16, rX11_runYear_17, rX11_runYear_18, rX11_runYear_21, gS_1, gP_1_6, gS_328, hg, ne_eq, not_false_eq_true, not_true_eq_false, true_and, and_true, and_self, true_imp_iff, false_imp_iff, imp_self, Bool.not_false, Bool.not_true, reduceCtorEq, ab_isJ, ab_psh, ab_cats, Bool.false_eq_true, if_true, if_false, ab_shf, ab_shw, Int.le_refl, Classical.not_not, Int.zero_add, forall_const, ↓ab_itT, ↓ab_itF, ab_anT, ab_w32_id, ab_rdf_ne, ab_rdw_ne, ab_rdw_eq, ab_rdf_in, ab_td2, ab_tm2]
theorem cq_runYear {sd : Int} (h : ac_CI σ K κ) (hk : ac_KK κ) (hS : ac_St σ 31 κ v) (hV : ac_VB κ v) (hs : 0 ≤ sd ∧ sd ≤ 65536) (hn : 0 ≤ n ∧ n ≤ 200) (hQ : ∀ τ, ab_Same ac_PD σ τ → (∀ k, 0 ≤ k → k < 8 → ab_rd τ 328 k = (ac_yrn κ v n sd).2 k) → Q none τ) : ab_Do X 150 [ab_R 1, ab_I sd, ab_I n] σ Q := by
  have g := h.1
  have hD : ac_KD σ κ v := fun b b1 b2 => ⟨(hS.1 b b1 b2).1, (hS.1 b b1 b2).2.1⟩
  have s0 : ab_Same ac_PE σ (ab_fl σ 328 8 (fun _ => 0)) := ab_Same.refl.fl (fun y _ _ => by unfold ac_PE ac_PD ac_PC; omega)
  have s1 : ab_Same ac_PE σ (ab_wr (ab_fl σ 328 8 (fun _ => 0)) 31 4 sd) := s0.wr (by unfold ac_PE; omega)
  have g0 := (h.sameE s0).1
  have key := cq_runYear_l (X := X) (Q := Q) (n := n) h hk hD hV sd (ab_rd σ 31 4) hn.2 (ac_yrn κ v n sd).2 (fun τ hs' h4 hy => hQ τ ⟨hs'.1, hs'.2.1, fun a f hf => by
    by_cases w : a = 31 ∧ f = 4
    · rw [w.1, w.2, h4]
    · exact hs'.2.2 a f (fun u => u.elim hf w)⟩ hy) n.toNat 0 (sd, fun _ => 0) _ s1 (by omega) (by omega) ab_rdw_eq hs (fun k k1 k2 => by rw [ab_rdw_ne (by omega), ab_rdf_in ⟨k1, k2⟩]) (fun k => ⟨Int.le_refl 0, Int.le_refl 0⟩) rfl
  have z := cq_runYear_0 (X := X) (Q := Q) (n := n) g sd (ab_R 0) 8 0 (by omega) (by omega)
  rw [ab_fl0 (Int.le_refl 0)] at z
  have e : ab_rd (ab_fl σ 328 8 (fun _ => 0)) 31 4 = ab_rd σ 31 4 := ab_rdf_ne (by omega)
  have key2 : ab_Run X 150 24 (5, 0, 0) [ab_R 1, ab_I sd, ab_I n, ab_I 8, ab_R 0] [] (ab_fl σ 328 8 (fun _ => 0)) Q := by
    simp (disch := omega) only [rX11_runYear_24, rX11_runYear_25, rX11_runYear_28, rX11_runYear_31, rX11_runYear_32, rX11_runYear_33, rX11_runYear_36, rX11_runYear_37, rX11_runYear_40, rX11_runYear_41, gS_1, gP_1_1, gS_31, g0, e, ne_eq, not_false_eq_true, not_true_eq_false, true_and, and_true, and_self, true_imp_iff, false_imp_iff, imp_self, Bool.not_false, Bool.not_true, reduceCtorEq, ab_isJ, ab_psh, ab_cats, Bool.false_eq_true, if_true, if_false, ab_shf, ab_shw, Int.le_refl, Classical.not_not, Int.zero_add, forall_const, ↓ab_itT, ↓ab_itF, ab_anT, ab_w32_id, ab_rdf_ne, ab_rdw_ne, ab_rdw_eq, ab_rdf_in, ab_td2, ab_tm2]
    all_goals exact key
  rw [← z] at key2
  simp (disch := omega) only [do_X11_runYear, rX11_runYear_0, rX11_runYear_1, ne_eq, not_false_eq_true, not_true_eq_false, true_and, and_true, and_self, true_imp_iff, false_imp_iff, imp_self, Bool.not_false, Bool.not_true, reduceCtorEq, ab_isJ, ab_psh, ab_cats, Bool.false_eq_true, if_true, if_false, ab_shf, ab_shw, Int.le_refl, Classical.not_not, Int.zero_add, forall_const, ↓ab_itT, ↓ab_itF, ab_anT, ab_w32_id, ab_rdf_ne, ab_rdw_ne, ab_rdw_eq, ab_rdf_in, ab_td2, ab_tm2]
  all_goals exact key2
theorem sp_isSeed : ab_Do X 132 [ab_I s] σ Q ↔ Q (some (ab_I (if 0 ≤ s ∧ s ≤ 65536 then 1 else 0))) σ := by
  by_cases h1 : 0 ≤ s
  · by_cases h2 : s ≤ 65536
    · rw [if_pos ⟨h1, h2⟩]
      simp (disch := omega) only [do_X11_isSeed, rX11_isSeed_0, rX11_isSeed_1, rX11_isSeed_4, rX11_isSeed_5, rX11_isSeed_8, rX11_isSeed_11, rX11_isSeed_12, rX11_isSeed_15, rX11_isSeed_16, ne_eq, not_false_eq_true, not_true_eq_false, true_and, and_true, and_self, true_imp_iff, false_imp_iff, imp_self, Bool.not_false, Bool.not_true, reduceCtorEq, ab_isJ, ab_psh, ab_cats, Bool.false_eq_true, if_true, if_false, ab_shf, ab_shw, Int.le_refl, Classical.not_not, Int.zero_add, forall_const, ↓ab_itT, ↓ab_itF, ab_anT, ab_w32_id, ab_rdf_ne, ab_rdw_ne, ab_rdw_eq, ab_rdf_in, ab_td2, ab_tm2, or_true]
    · rw [if_neg (by omega)]
      simp (disch := omega) only [do_X11_isSeed, rX11_isSeed_0, rX11_isSeed_1, rX11_isSeed_4, rX11_isSeed_5, rX11_isSeed_8, rX11_isSeed_11, rX11_isSeed_12, rX11_isSeed_15, rX11_isSeed_16, ne_eq, not_false_eq_true, not_true_eq_false, true_and, and_true, and_self, true_imp_iff, false_imp_iff, imp_self, Bool.not_false, Bool.not_true, reduceCtorEq, ab_isJ, ab_psh, ab_cats, Bool.false_eq_true, if_true, if_false, ab_shf, ab_shw, Int.le_refl, Classical.not_not, Int.zero_add, forall_const, ↓ab_itT, ↓ab_itF, ab_anT, ab_w32_id, ab_rdf_ne, ab_rdw_ne, ab_rdw_eq, ab_rdf_in, ab_td2, ab_tm2, true_or]
  · rw [if_neg (by omega)]
    simp (disch := omega) only [do_X11_isSeed, rX11_isSeed_0, rX11_isSeed_1, rX11_isSeed_4, rX11_isSeed_5, rX11_isSeed_8, rX11_isSeed_11, rX11_isSeed_12, rX11_isSeed_15, rX11_isSeed_16, ne_eq, not_false_eq_true, not_true_eq_false, true_and, and_true, and_self, true_imp_iff, false_imp_iff, imp_self, Bool.not_false, Bool.not_true, reduceCtorEq, ab_isJ, ab_psh, ab_cats, Bool.false_eq_true, if_true, if_false, ab_shf, ab_shw, Int.le_refl, Classical.not_not, Int.zero_add, forall_const, ↓ab_itT, ↓ab_itF, ab_anT, ab_w32_id, ab_rdf_ne, ab_rdw_ne, ab_rdw_eq, ab_rdf_in, ab_td2, ab_tm2, true_or]
abbrev ac_isY (s n : Int) : Prop := (0 ≤ s ∧ s ≤ 65536) ∧ (0 ≤ n ∧ n ≤ 200)
theorem sp_yearTrouble : ab_Do X 136 [ab_I s, ab_I n] σ Q ↔ Q (some (ab_I (if ac_isY s n then 0 else 2))) σ := by
  have c := fun s Q' => sp_isSeed (X := X) (σ := σ) (Q := Q') (s := s)
  by_cases h1 : 0 ≤ s ∧ s ≤ 65536
  · by_cases h2 : 0 ≤ n
    · by_cases h3 : n ≤ 200
      · rw [if_pos ⟨h1, h2, h3⟩]
        simp (disch := omega) only [do_X11_yearTrouble, rX11_yearTrouble_0, rX11_yearTrouble_1, rX11_yearTrouble_4, rX11_yearTrouble_7, rX11_yearTrouble_8, rX11_yearTrouble_11, rX11_yearTrouble_12, rX11_yearTrouble_15, rX11_yearTrouble_18, rX11_yearTrouble_19, rX11_yearTrouble_22, rX11_yearTrouble_23, c, if_pos h1, ne_eq, not_false_eq_true, not_true_eq_false, true_and, and_true, and_self, true_imp_iff, false_imp_iff, imp_self, Bool.not_false, Bool.not_true, reduceCtorEq, ab_isJ, ab_psh, ab_cats, Bool.false_eq_true, if_true, if_false, ab_shf, ab_shw, Int.le_refl, Classical.not_not, Int.zero_add, forall_const, ↓ab_itT, ↓ab_itF, ab_anT, ab_w32_id, ab_rdf_ne, ab_rdw_ne, ab_rdw_eq, ab_rdf_in, ab_td2, ab_tm2]
      · rw [if_neg (fun u => h3 u.2.2)]
        simp (disch := omega) only [do_X11_yearTrouble, rX11_yearTrouble_0, rX11_yearTrouble_1, rX11_yearTrouble_4, rX11_yearTrouble_7, rX11_yearTrouble_8, rX11_yearTrouble_11, rX11_yearTrouble_12, rX11_yearTrouble_15, rX11_yearTrouble_18, rX11_yearTrouble_19, rX11_yearTrouble_22, rX11_yearTrouble_23, c, if_pos h1, ne_eq, not_false_eq_true, not_true_eq_false, true_and, and_true, and_self, true_imp_iff, false_imp_iff, imp_self, Bool.not_false, Bool.not_true, reduceCtorEq, ab_isJ, ab_psh, ab_cats, Bool.false_eq_true, if_true, if_false, ab_shf, ab_shw, Int.le_refl, Classical.not_not, Int.zero_add, forall_const, ↓ab_itT, ↓ab_itF, ab_anT, ab_w32_id, ab_rdf_ne, ab_rdw_ne, ab_rdw_eq, ab_rdf_in, ab_td2, ab_tm2]
    · rw [if_neg (fun u => h2 u.2.1)]
      simp (disch := omega) only [do_X11_yearTrouble, rX11_yearTrouble_0, rX11_yearTrouble_1, rX11_yearTrouble_4, rX11_yearTrouble_7, rX11_yearTrouble_8, rX11_yearTrouble_11, rX11_yearTrouble_12, rX11_yearTrouble_15, rX11_yearTrouble_18, rX11_yearTrouble_19, rX11_yearTrouble_22, rX11_yearTrouble_23, c, if_pos h1, ne_eq, not_false_eq_true, not_true_eq_false, true_and, and_true, and_self, true_imp_iff, false_imp_iff, imp_self, Bool.not_false, Bool.not_true, reduceCtorEq, ab_isJ, ab_psh, ab_cats, Bool.false_eq_true, if_true, if_false, ab_shf, ab_shw, Int.le_refl, Classical.not_not, Int.zero_add, forall_const, ↓ab_itT, ↓ab_itF, ab_anT, ab_w32_id, ab_rdf_ne, ab_rdw_ne, ab_rdw_eq, ab_rdf_in, ab_td2, ab_tm2]
  · rw [if_neg (fun u => h1 u.1)]
    simp (disch := omega) only [do_X11_yearTrouble, rX11_yearTrouble_0, rX11_yearTrouble_1, rX11_yearTrouble_4, rX11_yearTrouble_7, rX11_yearTrouble_8, rX11_yearTrouble_11, rX11_yearTrouble_12, rX11_yearTrouble_15, rX11_yearTrouble_18, rX11_yearTrouble_19, rX11_yearTrouble_22, rX11_yearTrouble_23, c, if_neg h1, ne_eq, not_false_eq_true, not_true_eq_false, true_and, and_true, and_self, true_imp_iff, false_imp_iff, imp_self, Bool.not_false, Bool.not_true, reduceCtorEq, ab_isJ, ab_psh, ab_cats, Bool.false_eq_true, if_true, if_false, ab_shf, ab_shw, Int.le_refl, Classical.not_not, Int.zero_add, forall_const, ↓ab_itT, ↓ab_itF, ab_anT, ab_w32_id, ab_rdf_ne, ab_rdw_ne, ab_rdw_eq, ab_rdf_in, ab_td2, ab_tm2]
def ac_wnT (κ : ac_K) (p s n : Int) : Int := if ac_isP κ p then (if ac_isY s n then 0 else 2) else 1
theorem cq_wins (h : ac_CI σ K κ) (hS : ac_St σ 31 κ v) (hK : κ 5 0 = 0 → κ 6 0 = 0) (hV : ac_VB κ v) (hQ : ∀ τ, ab_Same ac_PC σ τ → ab_rd τ 1 8 = ac_wnT κ p s n → Q (some (ab_I (if ac_wnT κ p s n = 0 then (ac_yrn κ v n s).2 p else -1))) τ) : ab_Do X 112 [ab_R 1, ab_I p, ab_I s, ab_I n] σ Q := by
  have c := fun b Q' => sp_isPerson (X := X) (Q := Q') (b := b) h
  have c2 := fun s n Q' => sp_yearTrouble (X := X) (σ := σ) (Q := Q') (s := s) (n := n)
  have g := h.1
  by_cases hp : ac_isP κ p
  · by_cases hy : ac_isY s n
    · have eT : ac_wnT κ p s n = 0 := by unfold ac_wnT; rw [if_pos hp, if_pos hy]
      rw [eT, if_pos rfl] at hQ
      have n6 := h.2.2.2.1.2.1
      have hk : ac_KK κ := by
        rcases h.2.2.2.2 with q | q
        · have := hK q; have := hp.1; have := hp.2; omega
        · exact q
      simp (disch := omega) only [do_X11_wins, rX11_wins_0, rX11_wins_1, rX11_wins_2, rX11_wins_3, rX11_wins_6, rX11_wins_9, rX11_wins_10, rX11_wins_11, rX11_wins_14, rX11_wins_17, rX11_wins_18, rX11_wins_21, rX11_wins_22, rX11_wins_25, rX11_wins_28, rX11_wins_29, rX11_wins_30, rX11_wins_31, rX11_wins_32, rX11_wins_33, gS_1, g, c, c2, if_pos hp, if_pos hy, ab_ifT, ne_eq, not_false_eq_true, not_true_eq_false, true_and, and_true, and_self, true_imp_iff, false_imp_iff, imp_self, Bool.not_false, Bool.not_true, reduceCtorEq, ab_isJ, ab_psh, ab_cats, Bool.false_eq_true, if_true, if_false, ab_shf, ab_shw, Int.le_refl, Classical.not_not, Int.zero_add, forall_const, ↓ab_itT, ↓ab_itF, ab_anT, ab_w32_id, ab_rdf_ne, ab_rdw_ne, ab_rdw_eq, ab_rdf_in, ab_td2, ab_tm2]
      refine cq_runYear (h.same ac_t8) hk (hS.same (by omega) ac_t8) hV hy.1 hy.2 (fun τ hs hyr => ?_)
      have hs' := (ac_t8 (σ := σ) (t := 0)).trans hs.ofD
      have gT := (h.same hs').1
      have e := hyr p hp.1 (by omega)
      have hq' := hQ τ hs' (by rw [hs.d1, ab_rdw_eq])
      simp (disch := omega) only [rX11_wins_36, rX11_wins_37, rX11_wins_40, rX11_wins_41, rX11_wins_42, gS_1, gP_1_6, gS_328, gT, e, ne_eq, not_false_eq_true, not_true_eq_false, true_and, and_true, and_self, true_imp_iff, false_imp_iff, imp_self, Bool.not_false, Bool.not_true, reduceCtorEq, ab_isJ, ab_psh, ab_cats, Bool.false_eq_true, if_true, if_false, ab_shf, ab_shw, Int.le_refl, Classical.not_not, Int.zero_add, forall_const, ↓ab_itT, ↓ab_itF, ab_anT, ab_w32_id, ab_rdf_ne, ab_rdw_ne, ab_rdw_eq, ab_rdf_in, ab_td2, ab_tm2]
      all_goals exact hq'
    · have eT : ac_wnT κ p s n = 2 := by unfold ac_wnT; rw [if_pos hp, if_neg hy]
      rw [eT, if_neg (by decide)] at hQ
      have hq' := hQ _ ac_cq8.1 ac_cq8.2
      simp (disch := omega) only [do_X11_wins, rX11_wins_0, rX11_wins_1, rX11_wins_2, rX11_wins_3, rX11_wins_6, rX11_wins_9, rX11_wins_10, rX11_wins_11, rX11_wins_14, rX11_wins_17, rX11_wins_18, rX11_wins_21, rX11_wins_22, rX11_wins_25, rX11_wins_28, rX11_wins_29, rX11_wins_30, rX11_wins_31, rX11_wins_32, rX11_wins_33, rX11_wins_36, rX11_wins_37, rX11_wins_40, rX11_wins_41, rX11_wins_42, gS_1, g, c, c2, if_pos hp, if_neg hy, ne_eq, not_false_eq_true, not_true_eq_false, true_and, and_true, and_self, true_imp_iff, false_imp_iff, imp_self, Bool.not_false, Bool.not_true, reduceCtorEq, ab_isJ, ab_psh, ab_cats, Bool.false_eq_true, if_true, if_false, ab_shf, ab_shw, Int.le_refl, Classical.not_not, Int.zero_add, forall_const, ↓ab_itT, ↓ab_itF, ab_anT, ab_w32_id, ab_rdf_ne, ab_rdw_ne, ab_rdw_eq, ab_rdf_in, ab_td2, ab_tm2]
      all_goals exact hq'
  · have eT : ac_wnT κ p s n = 1 := by unfold ac_wnT; rw [if_neg hp]
    rw [eT, if_neg (by decide)] at hQ
    have hq' := hQ _ ac_cq8.1 ac_cq8.2
    simp (disch := omega) only [do_X11_wins, rX11_wins_0, rX11_wins_1, rX11_wins_2, rX11_wins_3, rX11_wins_6, rX11_wins_9, rX11_wins_10, rX11_wins_11, rX11_wins_14, rX11_wins_17, rX11_wins_18, rX11_wins_21, rX11_wins_22, rX11_wins_25, rX11_wins_28, rX11_wins_29, rX11_wins_30, rX11_wins_31, rX11_wins_32, rX11_wins_33, rX11_wins_36, rX11_wins_37, rX11_wins_40, rX11_wins_41, rX11_wins_42, gS_1, g, c, if_neg hp, ne_eq, not_false_eq_true, not_true_eq_false, true_and, and_true, and_self, true_imp_iff, false_imp_iff, imp_self, Bool.not_false, Bool.not_true, reduceCtorEq, ab_isJ, ab_psh, ab_cats, Bool.false_eq_true, if_true, if_false, ab_shf, ab_shw, Int.le_refl, Classical.not_not, Int.zero_add, forall_const, ↓ab_itT, ↓ab_itF, ab_anT, ab_w32_id, ab_rdf_ne, ab_rdw_ne, ab_rdw_eq, ab_rdf_in, ab_td2, ab_tm2]
    all_goals exact hq'
def ac_spT (κ : ac_K) (s n : Int) : Int := if 0 < κ 5 0 then (if ac_isY s n then 0 else 2) else 1
theorem cq_spoilt {be : Int} (h : ac_CI σ K κ) (hS : ac_St σ 31 κ v) (hV : ac_VB κ v) (hbe : be = 0 ∨ be = 1) (hQ : ∀ τ, ab_Same ac_PC σ τ → ab_rd τ 1 8 = ac_spT κ s n → Q (some (ab_I (if ac_spT κ s n = 0 then (ac_yrn κ v n s).2 (6 + be) else -1))) τ) : ab_Do X 113 [ab_R 1, ab_I s, ab_I n, ab_I be] σ Q := by
  have c := fun Q' => sp_hasKitchen (X := X) (Q := Q') h
  have c2 := fun s n Q' => sp_yearTrouble (X := X) (σ := σ) (Q := Q') (s := s) (n := n)
  have g := h.1
  by_cases hp : 0 < κ 5 0
  · by_cases hy : ac_isY s n
    · have eT : ac_spT κ s n = 0 := by unfold ac_spT; rw [if_pos hp, if_pos hy]
      rw [eT, if_pos rfl] at hQ
      have hk : ac_KK κ := by
        rcases h.2.2.2.2 with q | q
        · omega
        · exact q
      simp (disch := omega) only [do_X11_spoilt, rX11_spoilt_0, rX11_spoilt_1, rX11_spoilt_2, rX11_spoilt_5, rX11_spoilt_8, rX11_spoilt_9, rX11_spoilt_10, rX11_spoilt_13, rX11_spoilt_16, rX11_spoilt_17, rX11_spoilt_20, rX11_spoilt_21, rX11_spoilt_24, rX11_spoilt_27, rX11_spoilt_28, rX11_spoilt_29, rX11_spoilt_30, rX11_spoilt_31, rX11_spoilt_32, gS_1, g, c, c2, if_pos hp, if_pos hy, ab_ifT, ne_eq, not_false_eq_true, not_true_eq_false, true_and, and_true, and_self, true_imp_iff, false_imp_iff, imp_self, Bool.not_false, Bool.not_true, reduceCtorEq, ab_isJ, ab_psh, ab_cats, Bool.false_eq_true, if_true, if_false, ab_shf, ab_shw, Int.le_refl, Classical.not_not, Int.zero_add, forall_const, ↓ab_itT, ↓ab_itF, ab_anT, ab_w32_id, ab_rdf_ne, ab_rdw_ne, ab_rdw_eq, ab_rdf_in, ab_td2, ab_tm2]
      refine cq_runYear (h.same ac_t8) hk (hS.same (by omega) ac_t8) hV hy.1 hy.2 (fun τ hs hyr => ?_)
      have hs' := (ac_t8 (σ := σ) (t := 0)).trans hs.ofD
      have gT := (h.same hs').1
      have e6 := hyr 6 (by omega) (by omega)
      have e7 := hyr 7 (by omega) (by omega)
      have hq' := hQ τ hs' (by rw [hs.d1, ab_rdw_eq])
      rcases hbe with rfl | rfl
      · simp (disch := omega) only [rX11_spoilt_35, rX11_spoilt_36, rX11_spoilt_39, rX11_spoilt_40, rX11_spoilt_43, rX11_spoilt_45, rX11_spoilt_46, rX11_spoilt_49, rX11_spoilt_50, rX11_spoilt_53, rX11_spoilt_55, rX11_spoilt_56, gS_1, gP_1_6, gS_328, gT, e6, ne_eq, not_false_eq_true, not_true_eq_false, true_and, and_true, and_self, true_imp_iff, false_imp_iff, imp_self, Bool.not_false, Bool.not_true, reduceCtorEq, ab_isJ, ab_psh, ab_cats, Bool.false_eq_true, if_true, if_false, ab_shf, ab_shw, Int.le_refl, Classical.not_not, Int.zero_add, forall_const, ↓ab_itT, ↓ab_itF, ab_anT, ab_w32_id, ab_rdf_ne, ab_rdw_ne, ab_rdw_eq, ab_rdf_in, ab_td2, ab_tm2]
        all_goals exact hq'
      · simp (disch := omega) only [rX11_spoilt_35, rX11_spoilt_36, rX11_spoilt_39, rX11_spoilt_40, rX11_spoilt_43, rX11_spoilt_45, rX11_spoilt_46, rX11_spoilt_49, rX11_spoilt_50, rX11_spoilt_53, rX11_spoilt_55, rX11_spoilt_56, gS_1, gP_1_6, gS_328, gT, e7, ne_eq, not_false_eq_true, not_true_eq_false, true_and, and_true, and_self, true_imp_iff, false_imp_iff, imp_self, Bool.not_false, Bool.not_true, reduceCtorEq, ab_isJ, ab_psh, ab_cats, Bool.false_eq_true, if_true, if_false, ab_shf, ab_shw, Int.le_refl, Classical.not_not, Int.zero_add, forall_const, ↓ab_itT, ↓ab_itF, ab_anT, ab_w32_id, ab_rdf_ne, ab_rdw_ne, ab_rdw_eq, ab_rdf_in, ab_td2, ab_tm2]
        all_goals exact hq'
    · have eT : ac_spT κ s n = 2 := by unfold ac_spT; rw [if_pos hp, if_neg hy]
      rw [eT, if_neg (by decide)] at hQ
      have hq' := hQ _ ac_cq8.1 ac_cq8.2
      simp (disch := omega) only [do_X11_spoilt, rX11_spoilt_0, rX11_spoilt_1, rX11_spoilt_2, rX11_spoilt_5, rX11_spoilt_8, rX11_spoilt_9, rX11_spoilt_10, rX11_spoilt_13, rX11_spoilt_16, rX11_spoilt_17, rX11_spoilt_20, rX11_spoilt_21, rX11_spoilt_24, rX11_spoilt_27, rX11_spoilt_28, rX11_spoilt_29, rX11_spoilt_30, rX11_spoilt_31, rX11_spoilt_32, rX11_spoilt_35, rX11_spoilt_36, rX11_spoilt_39, rX11_spoilt_40, rX11_spoilt_43, rX11_spoilt_45, rX11_spoilt_46, rX11_spoilt_49, rX11_spoilt_50, rX11_spoilt_53, rX11_spoilt_55, rX11_spoilt_56, gS_1, g, c, c2, if_pos hp, if_neg hy, ne_eq, not_false_eq_true, not_true_eq_false, true_and, and_true, and_self, true_imp_iff, false_imp_iff, imp_self, Bool.not_false, Bool.not_true, reduceCtorEq, ab_isJ, ab_psh, ab_cats, Bool.false_eq_true, if_true, if_false, ab_shf, ab_shw, Int.le_refl, Classical.not_not, Int.zero_add, forall_const, ↓ab_itT, ↓ab_itF, ab_anT, ab_w32_id, ab_rdf_ne, ab_rdw_ne, ab_rdw_eq, ab_rdf_in, ab_td2, ab_tm2]
      all_goals exact hq'
  · have eT : ac_spT κ s n = 1 := by unfold ac_spT; rw [if_neg hp]
    rw [eT, if_neg (by decide)] at hQ
    have hq' := hQ _ ac_cq8.1 ac_cq8.2
    simp (disch := omega) only [do_X11_spoilt, rX11_spoilt_0, rX11_spoilt_1, rX11_spoilt_2, rX11_spoilt_5, rX11_spoilt_8, rX11_spoilt_9, rX11_spoilt_10, rX11_spoilt_13, rX11_spoilt_16, rX11_spoilt_17, rX11_spoilt_20, rX11_spoilt_21, rX11_spoilt_24, rX11_spoilt_27, rX11_spoilt_28, rX11_spoilt_29, rX11_spoilt_30, rX11_spoilt_31, rX11_spoilt_32, rX11_spoilt_35, rX11_spoilt_36, rX11_spoilt_39, rX11_spoilt_40, rX11_spoilt_43, rX11_spoilt_45, rX11_spoilt_46, rX11_spoilt_49, rX11_spoilt_50, rX11_spoilt_53, rX11_spoilt_55, rX11_spoilt_56, gS_1, g, c, if_neg hp, ne_eq, not_false_eq_true, not_true_eq_false, true_and, and_true, and_self, true_imp_iff, false_imp_iff, imp_self, Bool.not_false, Bool.not_true, reduceCtorEq, ab_isJ, ab_psh, ab_cats, Bool.false_eq_true, if_true, if_false, ab_shf, ab_shw, Int.le_refl, Classical.not_not, Int.zero_add, forall_const, ↓ab_itT, ↓ab_itF, ab_anT, ab_w32_id, ab_rdf_ne, ab_rdw_ne, ab_rdw_eq, ab_rdf_in, ab_td2, ab_tm2]
    all_goals exact hq'
end
