/-! THE REFERENCE: years -/
theorem ac_add_pos {c v x : Int} {g : Int → Int} (h : x = c) : ac_add c v g x = g x + v := if_pos h
theorem ac_add_neg {c v x : Int} {g : Int → Int} (h : ¬ x = c) : ac_add c v g x = g x := if_neg h
section
variable {X : ab_X} {σ τ υ : ab_S} {Q : Option ab_V → ab_S → Prop} {M : Int} {κ : ac_K} {v : Int → Int} {kd d b p hp q hq mv i s n : Int}
theorem mq_drawn (hg : ab_Geo σ) (h35 : ab_rd σ 355 35 = s) (hs : 0 ≤ s ∧ s ≤ 65536) (hn : 0 < n) : ab_Do X 271 [ab_R 355, ab_I n] σ Q ↔ Q (some (ab_I (ac_dr s % n))) (ab_wr σ 355 35 (ac_dr s)) := by
  unfold ac_dr
  simp (disch := omega) only [do_X13_drawn, rX13_drawn_0, rX13_drawn_1, rX13_drawn_4, rX13_drawn_5, rX13_drawn_8, rX13_drawn_9, rX13_drawn_10, rX13_drawn_13, rX13_drawn_14, rX13_drawn_17, rX13_drawn_18, rX13_drawn_19, rX13_drawn_22, rX13_drawn_23, rX13_drawn_26, rX13_drawn_27, rX13_drawn_28, gS_355, hg, h35, ne_eq, not_false_eq_true, not_true_eq_false, true_and, and_true, and_self, true_imp_iff, false_imp_iff, imp_self, Bool.not_false, Bool.not_true, reduceCtorEq, ab_isJ, ab_psh, ab_cats, Bool.false_eq_true, if_true, if_false, ab_shf, ab_shw, Int.le_refl, Classical.not_not, Int.zero_add, forall_const, ↓ab_itT, ↓ab_itF, ab_anT, ab_w32_id, ab_rdf_ne, ab_rdw_ne, ab_rdw_eq, ab_rdf_in, ab_td2, ab_tm2, ab_w64_id]
def ac_PF : Int → Int → Prop := fun a f => a = 355 ∧ ((23 ≤ f ∧ f ≤ 26) ∨ f = 35)
theorem ac_PF_PM {a f : Int} (h : ac_PF a f) : ac_PM a f := by unfold ac_PF at h; unfold ac_PM; omega
theorem mq_fbd (h : ac_MI σ M κ) (hb : ac_isB κ b) (h21 : ab_rd σ 355 21 = b) (h35 : ab_rd σ 355 35 = s) (hs : 0 ≤ s ∧ s ≤ 65536) (hQ : ∀ τ fa ft, ab_Same ac_PF σ τ → ab_rd τ 355 23 = fa → ab_rd τ 355 24 = ft → ac_row fa ft 0 = ac_r0 (ac_n κ b 0) (ac_fp (κ 4 0) (ac_n κ b 0 + ac_n κ b 1) s) → ac_row fa ft 1 = ac_r1 (ac_n κ b 0) (ac_fp (κ 4 0) (ac_n κ b 0 + ac_n κ b 1) s) → ab_rd τ 355 35 = ac_fsd (κ 4 0) s → Q none τ) : ab_Do X 272 [ab_R 355] σ Q := by
  have g := h.1
  have n0 := ac_n_b h.2.2.2.2 hb (Or.inl rfl)
  have n1 := ac_n_b h.2.2.2.2 hb (Or.inr rfl)
  have hs1 : ab_Same ac_PF σ (ab_wr σ 355 23 (-1)) := ab_Same.refl.wr (by unfold ac_PF; omega)
  have hs2 : ab_Same ac_PF σ (ab_wr (ab_wr σ 355 23 (-1)) 355 35 (ac_dr s)) := hs1.wr (by unfold ac_PF; omega)
  have hI2 := h.same (hs2.mono (fun _ _ => ac_PF_PM))
  have g1 := (h.same (hs1.mono (fun _ _ => ac_PF_PM))).1
  have g2 := hI2.1
  have h3 := hI2.2.1
  have sM := hI2.2.2.1.2.1
  have zM := hI2.2.2.1.1
  have e4 := kM_4 hI2.2.2.2.1
  have c1 := fun Q' => mq_drawn (X := X) (σ := ab_wr σ 355 23 (-1)) (Q := Q') (n := 100) g1 (by rw [ab_rdw_ne (by omega), h35]) hs (by omega)
  by_cases w : ac_dr s % 100 < κ 4 0
  · have ef : ac_fp (κ 4 0) (ac_n κ b 0 + ac_n κ b 1) s = ac_dr (ac_dr s) % (ac_n κ b 0 + ac_n κ b 1) := if_pos w
    have es : ac_fsd (κ 4 0) s = ac_dr (ac_dr s) := if_pos w
    rw [ef, es] at hQ
    have c2 := fun Q' => mq_allPlaces (X := X) (Q := Q') hI2 hb (by rw [hs2.2.2 355 21 (by unfold ac_PF; omega), h21])
    have c3 := fun Q' => mq_drawn (X := X) (σ := ab_wr (ab_wr σ 355 23 (-1)) 355 35 (ac_dr s)) (Q := Q') (n := ac_n κ b 0 + ac_n κ b 1) g2 ab_rdw_eq ac_dr_b (by omega)
    have hs3 : ab_Same ac_PF σ (ab_wr (ab_wr (ab_wr σ 355 23 (-1)) 355 35 (ac_dr s)) 355 35 (ac_dr (ac_dr s))) := hs2.wr (by unfold ac_PF; omega)
    have hI3 := h.same (hs3.mono (fun _ _ => ac_PF_PM))
    have g3 := hI3.1
    have a1 := Int.emod_nonneg (ac_dr (ac_dr s)) (show ac_n κ b 0 + ac_n κ b 1 ≠ 0 by omega)
    have a2 := Int.emod_lt_of_pos (ac_dr (ac_dr s)) (show 0 < ac_n κ b 0 + ac_n κ b 1 by omega)
    have c4 := fun Q' => mq_flaws (X := X) (Q := Q') (k := ac_dr (ac_dr s) % (ac_n κ b 0 + ac_n κ b 1)) hI3 hb (by rw [hs3.2.2 355 21 (by unfold ac_PF; omega), h21]) (by omega)
    have hs4 := hs3.trans ((ac_fl_same (σ := ab_wr (ab_wr (ab_wr σ 355 23 (-1)) 355 35 (ac_dr s)) 355 35 (ac_dr (ac_dr s))) (n0 := ac_n κ b 0) (k := ac_dr (ac_dr s) % (ac_n κ b 0 + ac_n κ b 1))).mono (fun a f u => by unfold ac_PB at u; unfold ac_PF; omega))
    have hq' := hQ _ _ _ hs4 ac_fl_a.1 ac_fl_a.2 ac_row_r.1 ac_row_r.2 (by rw [ac_fl_same.2.2 355 35 (by unfold ac_PB; omega), ab_rdw_eq])
    simp (disch := omega) only [do_X13_flawsByDraws, rX13_flawsByDraws_0, rX13_flawsByDraws_1, rX13_flawsByDraws_2, rX13_flawsByDraws_5, rX13_flawsByDraws_6, rX13_flawsByDraws_8, rX13_flawsByDraws_11, rX13_flawsByDraws_12, rX13_flawsByDraws_15, rX13_flawsByDraws_18, rX13_flawsByDraws_21, rX13_flawsByDraws_22, rX13_flawsByDraws_23, rX13_flawsByDraws_24, rX13_flawsByDraws_27, rX13_flawsByDraws_30, rX13_flawsByDraws_33, gS_355, g, g1, g2, g3, h3, sM, e4, c1, c2, c3, c4, ne_eq, not_false_eq_true, not_true_eq_false, true_and, and_true, and_self, true_imp_iff, false_imp_iff, imp_self, Bool.not_false, Bool.not_true, reduceCtorEq, ab_isJ, ab_psh, ab_cats, Bool.false_eq_true, if_true, if_false, ab_shf, ab_shw, Int.le_refl, Classical.not_not, Int.zero_add, forall_const, ↓ab_itT, ↓ab_itF, ab_anT, ab_w32_id, ab_rdf_ne, ab_rdw_ne, ab_rdw_eq, ab_rdf_in, ab_td2, ab_tm2]
    all_goals exact hq'
  · have ef : ac_fp (κ 4 0) (ac_n κ b 0 + ac_n κ b 1) s = -1 := if_neg w
    have es : ac_fsd (κ 4 0) s = ac_dr s := if_neg w
    rw [ef, es] at hQ
    have hq' := hQ _ (-1) _ hs2 (by rw [ab_rdw_ne (by omega), ab_rdw_eq]) rfl (by rw [ac_row_m (Or.inl rfl)]; unfold ac_r0; rw [if_pos (by omega)]; rfl) (by rw [ac_row_m (Or.inr rfl)]; unfold ac_r1; rw [if_pos (by omega)]) ab_rdw_eq
    simp (disch := omega) only [do_X13_flawsByDraws, rX13_flawsByDraws_0, rX13_flawsByDraws_1, rX13_flawsByDraws_2, rX13_flawsByDraws_5, rX13_flawsByDraws_6, rX13_flawsByDraws_8, rX13_flawsByDraws_11, rX13_flawsByDraws_12, rX13_flawsByDraws_15, rX13_flawsByDraws_18, rX13_flawsByDraws_21, rX13_flawsByDraws_22, rX13_flawsByDraws_23, rX13_flawsByDraws_24, rX13_flawsByDraws_27, rX13_flawsByDraws_30, rX13_flawsByDraws_33, gS_355, g, g1, g2, h3, sM, e4, c1, ne_eq, not_false_eq_true, not_true_eq_false, true_and, and_true, and_self, true_imp_iff, false_imp_iff, imp_self, Bool.not_false, Bool.not_true, reduceCtorEq, ab_isJ, ab_psh, ab_cats, Bool.false_eq_true, if_true, if_false, ab_shf, ab_shw, Int.le_refl, Classical.not_not, Int.zero_add, forall_const, ↓ab_itT, ↓ab_itF, ab_anT, ab_w32_id, ab_rdf_ne, ab_rdw_ne, ab_rdw_eq, ab_rdf_in, ab_td2, ab_tm2]
    all_goals exact hq'
/-- the reference's counts of a year -/
def ac_MY (σ : ab_S) (y : Int → Int) : Prop := (∀ k, 0 ≤ k → k < 6 → ab_rd σ 367 k = y k) ∧ ab_rd σ 355 37 = y 6 ∧ ab_rd σ 355 38 = y 7
theorem mq_sunday (h : ac_MI σ M κ) (hv : ac_MV σ κ v) (sd nn : Int) (x : Int × (Int → Int)) (τ : ab_S) (i : Int) (l4 l5 l6 l7 : ab_V) (hs : ab_Same ac_PM σ τ) (hi : 0 ≤ i) (hin : i < nn) (hn : nn ≤ 200) (h35 : ab_rd τ 355 35 = x.1) (hx : 0 ≤ x.1 ∧ x.1 ≤ 65536) (hy : ac_MY τ x.2) (hyb : ∀ k, 0 ≤ x.2 k ∧ x.2 k ≤ 1000) (hQ : ∀ τ' l4 l5 l6 l7, ab_Same ac_PM σ τ' → ab_rd τ' 355 35 = (ac_sun κ v x).1 → ac_MY τ' (ac_sun κ v x).2 → ab_Run X 273 38 (5, 0, 0) [ab_R 355, ab_I sd, ab_I nn, ab_I (i + 1), l4, l5, l6, l7] [] τ' Q) : ab_Run X 273 38 (5, 0, 0) [ab_R 355, ab_I sd, ab_I nn, ab_I i, l4, l5, l6, l7] [] τ Q := by
  obtain ⟨s, y⟩ := x
  dsimp only at h35 hx hy hyb
  have hI := h.same hs
  have hv' := hv.same hs
  have hk := h.2.2.2.2
  have g := hI.1
  have h3 := hI.2.1
  have sM := hI.2.2.1.2.1
  have zM := hI.2.2.1.1
  have e5 := kM_5 hI.2.2.2.1
  have e6 := kM_6 hI.2.2.2.1
  have n5 := hk.2.1.1
  have n6 := hk.2.1.2.1
  have k5 := hk.2.2.2.1
  have k6 := hk.2.2.2.2
  obtain ⟨hb, hp, hq, hr⟩ := ac_y_b (s := s) hk
  have hd := (hv.2.1 _ hb.1 hb.2)
  have c1 := fun Q' => mq_drawn (X := X) (Q := Q') (n := κ 5 0) g h35 hx (by omega)
  have gw := fun x => (hI.same (ab_Same.refl.wr (σ := τ) (τ := τ) (a := 355) (k := 35) (v := x) (by unfold ac_PM; omega))).1
  have c2 := fun Q' => mq_drawn (X := X) (Q := Q') (n := κ 6 0) (gw (ac_dr s)) ab_rdw_eq ac_dr_b (by omega)
  have c3 := fun Q' => mq_drawn (X := X) (Q := Q') (n := κ 6 0 - 1) (gw (ac_dr (ac_dr s))) ab_rdw_eq ac_dr_b (by omega)
  have s3 : ab_Same ac_PM τ (ab_wr τ 355 35 (ac_dr (ac_dr (ac_dr s)))) := ab_Same.refl.wr (by unfold ac_PM; omega)
  have hI3 := hI.same s3
  have c4 := fun Q' => mq_laysTold (X := X) (Q := Q') hI3 ((hv'.same s3).1 (5 + ac_yb κ s) (by omega) (by omega)) hb hp hq
  have b0 := ac_h_b hk hb (Or.inl rfl) hp
  have b1 := ac_h_b hk hb (Or.inr rfl) hq
  have sL := ac_ly_same (σ := ab_wr τ 355 35 (ac_dr (ac_dr (ac_dr s)))) (κ := κ) (d := v (5 + ac_yb κ s)) (b := ac_yb κ s) (p := ac_yp κ s) (hp := ac_h κ (ac_yp κ s) (ac_yb κ s) 0) (q := ac_yq κ s) (hq := ac_h κ (ac_yq κ s) (ac_yb κ s) 1) (mv := 2)
  have mL := ac_ly_ML (σ := ab_wr τ 355 35 (ac_dr (ac_dr (ac_dr s)))) (κ := κ) (d := v (5 + ac_yb κ s)) (b := ac_yb κ s) (p := ac_yp κ s) (hp := ac_h κ (ac_yp κ s) (ac_yb κ s) 0) (q := ac_yq κ s) (hq := ac_h κ (ac_yq κ s) (ac_yb κ s) 1) (mv := 2)
  have l35 : ab_rd (ac_ly (ab_wr τ 355 35 (ac_dr (ac_dr (ac_dr s)))) κ (v (5 + ac_yb κ s)) (ac_yb κ s) (ac_yp κ s) (ac_h κ (ac_yp κ s) (ac_yb κ s) 0) (ac_yq κ s) (ac_h κ (ac_yq κ s) (ac_yb κ s) 1) 2) 355 35 = ac_ys s := by
    rw [sL.2.2 355 35 (by unfold ac_PL; omega), ab_rdw_eq]; rfl
  have lY : ac_MY (ac_ly (ab_wr τ 355 35 (ac_dr (ac_dr (ac_dr s)))) κ (v (5 + ac_yb κ s)) (ac_yb κ s) (ac_yp κ s) (ac_h κ (ac_yp κ s) (ac_yb κ s) 0) (ac_yq κ s) (ac_h κ (ac_yq κ s) (ac_yb κ s) 1) 2) y := by
    refine ⟨fun k k1 k2 => ?_, ?_, ?_⟩
    · rw [sL.2.2 367 k (by unfold ac_PL; omega), ab_rdw_ne (by omega), hy.1 k k1 k2]
    · rw [sL.2.2 355 37 (by unfold ac_PL; omega), ab_rdw_ne (by omega), hy.2.1]
    · rw [sL.2.2 355 38 (by unfold ac_PL; omega), ab_rdw_ne (by omega), hy.2.2]
  have sL' := hs.trans (s3.trans (sL.mono (fun _ _ => ac_PL_PM)))
  generalize ac_ly (ab_wr τ 355 35 (ac_dr (ac_dr (ac_dr s)))) κ (v (5 + ac_yb κ s)) (ac_yb κ s) (ac_yp κ s) (ac_h κ (ac_yp κ s) (ac_yb κ s) 0) (ac_yq κ s) (ac_h κ (ac_yq κ s) (ac_yb κ s) 1) 2 = ρ at c4 mL l35 lY sL'
  clear sL
  have hIρ := h.same sL'
  have gρ := hIρ.1
  have f1 : ac_dr s % κ 5 0 = ac_yb κ s := rfl
  have f2 : ac_dr (ac_dr s) % κ 6 0 = ac_yp κ s := rfl
  have f3 : ac_dr (ac_dr (ac_dr s)) % (κ 6 0 - 1) = ac_yr κ s := rfl
  have gww := gw (ac_dr s)
  have gww2 := gw (ac_dr (ac_dr s))
  have gww3 := gw (ac_dr (ac_dr (ac_dr s)))
  have tail : ab_Do X 272 [ab_R 355] ρ (fun r σ' => ab_Run X 273 115 (5, 0, 0) [ab_R 355, ab_I sd, ab_I nn, ab_I i, ab_I (ac_yb κ s), ab_I (ac_yp κ s), ab_I (ac_yq κ s), l7] (ab_psh r []) σ' Q) := by
    refine mq_fbd hIρ hb mL.1 l35 ac_dr_b (fun ω fa ft hsω hfa hft er0 er1 h35ω => ?_)
    have sW := sL'.trans (hsω.mono (fun _ _ => ac_PF_PM))
    have hIω := h.same sW
    have gω := hIω.1
    have mLω := mL.same hsω (fun a f u => by unfold ac_PF at u; omega)
    have c5 := fun Q' => mq_comes (X := X) (Q := Q') (kd := v (ac_yb κ s)) hIω mLω ⟨hb, hp, hq, hd.2, by omega, by omega⟩ hfa hft (by rw [sW.2.2 357 _ (by unfold ac_PM; omega), hv.1 _ (by omega) (by omega)])
    rw [er0, er1] at c5
    have eyc : ac_yc κ v s = ac_C κ (v (ac_yb κ s)) (v (5 + ac_yb κ s)) (ac_yb κ s) (ac_yp κ s) (ac_h κ (ac_yp κ s) (ac_yb κ s) 0) (ac_yq κ s) (ac_h κ (ac_yq κ s) (ac_yb κ s) 1) 2 (ac_r0 (ac_n κ (ac_yb κ s) 0) (ac_fp (κ 4 0) (ac_n κ (ac_yb κ s) 0 + ac_n κ (ac_yb κ s) 1) (ac_ys s))) (ac_r1 (ac_n κ (ac_yb κ s) 0) (ac_fp (κ 4 0) (ac_n κ (ac_yb κ s) 0 + ac_n κ (ac_yb κ s) 1) (ac_ys s))) := rfl
    have yb := ac_C_b (κ := κ) (kd := v (ac_yb κ s)) (d := v (5 + ac_yb κ s)) (b := ac_yb κ s) (p := ac_yp κ s) (hp := ac_h κ (ac_yp κ s) (ac_yb κ s) 0) (q := ac_yq κ s) (hq := ac_h κ (ac_yq κ s) (ac_yb κ s) 1) (mv := 2) (r0 := ac_r0 (ac_n κ (ac_yb κ s) 0) (ac_fp (κ 4 0) (ac_n κ (ac_yb κ s) 0 + ac_n κ (ac_yb κ s) 1) (ac_ys s))) (r1 := ac_r1 (ac_n κ (ac_yb κ s) 0) (ac_fp (κ 4 0) (ac_n κ (ac_yb κ s) 0 + ac_n κ (ac_yb κ s) 1) (ac_ys s)))
    rw [← eyc] at c5 yb
    have sC := ac_cs_same (σ := ω) (cc := ac_yc κ v s) (w0 := ac_W (ac_N κ (ac_yp κ s) (ac_yq κ s) (ac_h κ (ac_yp κ s) (ac_yb κ s) 0) (ac_yp κ s) (ac_m0 2)) (ac_brs (ac_S κ (v (5 + ac_yb κ s)) (ac_yb κ s) 0 (ac_yp κ s)) (ac_r0 (ac_n κ (ac_yb κ s) 0) (ac_fp (κ 4 0) (ac_n κ (ac_yb κ s) 0 + ac_n κ (ac_yb κ s) 1) (ac_ys s)))) (ac_n κ (ac_yb κ s) 0)) (w1 := ac_W (ac_N κ (ac_yp κ s) (ac_yq κ s) (ac_h κ (ac_yq κ s) (ac_yb κ s) 1) (ac_yq κ s) (ac_m1 2)) (ac_brs (ac_S κ (v (5 + ac_yb κ s)) (ac_yb κ s) 1 (ac_yq κ s)) (ac_r1 (ac_n κ (ac_yb κ s) 0) (ac_fp (κ 4 0) (ac_n κ (ac_yb κ s) 0 + ac_n κ (ac_yb κ s) 1) (ac_ys s)))) (ac_n κ (ac_yb κ s) 1))
    generalize ac_cs ω _ _ _ = R at c5 sC
    have sR := sW.trans (sC.mono (fun _ _ => ac_PB_PM))
    have r35 : ab_rd R 355 35 = ac_fsd (κ 4 0) (ac_ys s) := by rw [sC.2.2 355 35 (by unfold ac_PB; omega), h35ω]
    have rY1 : ∀ k, 0 ≤ k → k < 6 → ab_rd R 367 k = y k := fun k k1 k2 => by rw [sC.2.2 367 k (by unfold ac_PB; omega), hsω.2.2 367 k (by unfold ac_PF; omega), lY.1 k k1 k2]
    have r37 : ab_rd R 355 37 = y 6 := by rw [sC.2.2 355 37 (by unfold ac_PB; omega), hsω.2.2 355 37 (by unfold ac_PF; omega), lY.2.1]
    have r38 : ab_rd R 355 38 = y 7 := by rw [sC.2.2 355 38 (by unfold ac_PB; omega), hsω.2.2 355 38 (by unfold ac_PF; omega), lY.2.2]
    have gR := (h.same sR).1
    have eyi : ac_yi κ v s = if ac_yc κ v s = 0 then ac_yp κ s else if ac_yc κ v s = 1 then ac_yq κ s else if ac_yc κ v s = 2 then 6 else 7 := rfl
    have y6 := hyb 6
    have y7 := hyb 7
    have yp := hyb (ac_yp κ s)
    have yq := hyb (ac_yq κ s)
    have yvp := rY1 (ac_yp κ s) (by omega) (by omega)
    have yvq := rY1 (ac_yq κ s) (by omega) (by omega)
    have fin : ∀ R', ab_Same ac_PM R R' → ab_rd R' 355 35 = ab_rd R 355 35 → ac_MY R' (ac_add (ac_yi κ v s) 1 y) → ab_Run X 273 38 (5, 0, 0) [ab_R 355, ab_I sd, ab_I nn, ab_I (i + 1), ab_I (ac_yb κ s), ab_I (ac_yp κ s), ab_I (ac_yq κ s), ab_I (ac_yc κ v s)] [] R' Q := fun R' hR h35' hY => hQ R' _ _ _ _ (sR.trans hR) (h35'.trans r35) hY
    have sb : ∀ a37 a38, ab_Same ac_PM R (ab_wr (ab_wr R 355 37 a37) 355 38 a38) := fun a37 a38 => (ab_Same.refl.wr (by unfold ac_PM; omega)).wr (by unfold ac_PM; omega)
    by_cases w0 : ac_yc κ v s = 0
    · have key := fin (ab_wr (ab_wr (ab_wr R 355 37 (y 6 + 0)) 355 38 (y 7 + 0)) 367 (ac_yp κ s) (y (ac_yp κ s) + 1)) ((sb _ _).wr (by unfold ac_PM; omega)) (by rw [ab_rdw_ne (by omega), ab_rdw_ne (by omega), ab_rdw_ne (by omega)]) (by
        rw [eyi, if_pos w0]
        refine ⟨fun k k1 k2 => ?_, ?_, ?_⟩
        · by_cases z : k = ac_yp κ s
          · rw [ac_add_pos z, z, ab_rdw_eq]
          · rw [ac_add_neg z, ab_rdw_ne (by omega), ab_rdw_ne (by omega), ab_rdw_ne (by omega), rY1 k k1 k2]
        · rw [ac_add_neg (by omega), ab_rdw_ne (by omega), ab_rdw_ne (by omega), ab_rdw_eq]; omega
        · rw [ac_add_neg (by omega), ab_rdw_ne (by omega), ab_rdw_eq]; omega)
      simp (disch := omega) only [rX13_year_115, rX13_year_116, rX13_year_119, rX13_year_121, rX13_year_122I, rX13_year_122R, rX13_year_123, rX13_year_126, rX13_year_128, rX13_year_129, rX13_year_132, rX13_year_133, rX13_year_136, rX13_year_137, rX13_year_138, rX13_year_141, rX13_year_142I, rX13_year_142R, rX13_year_143, rX13_year_146, rX13_year_148, rX13_year_149, rX13_year_152, rX13_year_153, rX13_year_156, rX13_year_157, rX13_year_158, rX13_year_161, rX13_year_163, rX13_year_166, rX13_year_167, rX13_year_170, rX13_year_172, rX13_year_173, rX13_year_174, rX13_year_175, rX13_year_176, rX13_year_177, rX13_year_180, rX13_year_182, rX13_year_183, rX13_year_186, rX13_year_187, rX13_year_190, rX13_year_192, rX13_year_193, rX13_year_194, rX13_year_195, rX13_year_196, rX13_year_197, rX13_year_200, gS_355, gP_355_36, gS_367, gω, gR, c5, r37, r38, yvp, ne_eq, not_false_eq_true, not_true_eq_false, true_and, and_true, and_self, true_imp_iff, false_imp_iff, imp_self, Bool.not_false, Bool.not_true, reduceCtorEq, ab_isJ, ab_psh, ab_cats, Bool.false_eq_true, if_true, if_false, ab_shf, ab_shw, Int.le_refl, Classical.not_not, Int.zero_add, forall_const, ↓ab_itT, ↓ab_itF, ab_anT, ab_w32_id, ab_rdf_ne, ab_rdw_ne, ab_rdw_eq, ab_rdf_in, ab_td2, ab_tm2]
      all_goals exact key
    · by_cases w1 : ac_yc κ v s = 1
      · have key := fin (ab_wr (ab_wr (ab_wr R 355 37 (y 6 + 0)) 355 38 (y 7 + 0)) 367 (ac_yq κ s) (y (ac_yq κ s) + 1)) ((sb _ _).wr (by unfold ac_PM; omega)) (by rw [ab_rdw_ne (by omega), ab_rdw_ne (by omega), ab_rdw_ne (by omega)]) (by
          rw [eyi, if_neg w0, if_pos w1]
          refine ⟨fun k k1 k2 => ?_, ?_, ?_⟩
          · by_cases z : k = ac_yq κ s
            · rw [ac_add_pos z, z, ab_rdw_eq]
            · rw [ac_add_neg z, ab_rdw_ne (by omega), ab_rdw_ne (by omega), ab_rdw_ne (by omega), rY1 k k1 k2]
          · rw [ac_add_neg (by omega), ab_rdw_ne (by omega), ab_rdw_ne (by omega), ab_rdw_eq]; omega
          · rw [ac_add_neg (by omega), ab_rdw_ne (by omega), ab_rdw_eq]; omega)
        simp (disch := omega) only [rX13_year_115, rX13_year_116, rX13_year_119, rX13_year_121, rX13_year_122I, rX13_year_122R, rX13_year_123, rX13_year_126, rX13_year_128, rX13_year_129, rX13_year_132, rX13_year_133, rX13_year_136, rX13_year_137, rX13_year_138, rX13_year_141, rX13_year_142I, rX13_year_142R, rX13_year_143, rX13_year_146, rX13_year_148, rX13_year_149, rX13_year_152, rX13_year_153, rX13_year_156, rX13_year_157, rX13_year_158, rX13_year_161, rX13_year_163, rX13_year_166, rX13_year_167, rX13_year_170, rX13_year_172, rX13_year_173, rX13_year_174, rX13_year_175, rX13_year_176, rX13_year_177, rX13_year_180, rX13_year_182, rX13_year_183, rX13_year_186, rX13_year_187, rX13_year_190, rX13_year_192, rX13_year_193, rX13_year_194, rX13_year_195, rX13_year_196, rX13_year_197, rX13_year_200, gS_355, gP_355_36, gS_367, gω, gR, c5, r37, r38, yvq, ne_eq, not_false_eq_true, not_true_eq_false, true_and, and_true, and_self, true_imp_iff, false_imp_iff, imp_self, Bool.not_false, Bool.not_true, reduceCtorEq, ab_isJ, ab_psh, ab_cats, Bool.false_eq_true, if_true, if_false, ab_shf, ab_shw, Int.le_refl, Classical.not_not, Int.zero_add, forall_const, ↓ab_itT, ↓ab_itF, ab_anT, ab_w32_id, ab_rdf_ne, ab_rdw_ne, ab_rdw_eq, ab_rdf_in, ab_td2, ab_tm2]
        all_goals exact key
      · by_cases w2 : ac_yc κ v s = 2
        · have key := fin (ab_wr (ab_wr R 355 37 (y 6 + 1)) 355 38 (y 7 + 0)) (sb _ _) (by rw [ab_rdw_ne (by omega), ab_rdw_ne (by omega)]) (by
            rw [eyi, if_neg w0, if_neg w1, if_pos w2]
            refine ⟨fun k k1 k2 => ?_, ?_, ?_⟩
            · rw [ac_add_neg (by omega), ab_rdw_ne (by omega), ab_rdw_ne (by omega), rY1 k k1 k2]
            · rw [ac_add_pos rfl, ab_rdw_ne (by omega), ab_rdw_eq]
            · rw [ac_add_neg (by omega), ab_rdw_eq]; omega)
          simp (disch := omega) only [rX13_year_115, rX13_year_116, rX13_year_119, rX13_year_121, rX13_year_122I, rX13_year_122R, rX13_year_123, rX13_year_126, rX13_year_128, rX13_year_129, rX13_year_132, rX13_year_133, rX13_year_136, rX13_year_137, rX13_year_138, rX13_year_141, rX13_year_142I, rX13_year_142R, rX13_year_143, rX13_year_146, rX13_year_148, rX13_year_149, rX13_year_152, rX13_year_153, rX13_year_156, rX13_year_157, rX13_year_158, rX13_year_161, rX13_year_163, rX13_year_166, rX13_year_167, rX13_year_170, rX13_year_172, rX13_year_173, rX13_year_174, rX13_year_175, rX13_year_176, rX13_year_177, rX13_year_180, rX13_year_182, rX13_year_183, rX13_year_186, rX13_year_187, rX13_year_190, rX13_year_192, rX13_year_193, rX13_year_194, rX13_year_195, rX13_year_196, rX13_year_197, rX13_year_200, gS_355, gω, gR, c5, r37, r38, ne_eq, not_false_eq_true, not_true_eq_false, true_and, and_true, and_self, true_imp_iff, false_imp_iff, imp_self, Bool.not_false, Bool.not_true, reduceCtorEq, ab_isJ, ab_psh, ab_cats, Bool.false_eq_true, if_true, if_false, ab_shf, ab_shw, Int.le_refl, Classical.not_not, Int.zero_add, forall_const, ↓ab_itT, ↓ab_itF, ab_anT, ab_w32_id, ab_rdf_ne, ab_rdw_ne, ab_rdw_eq, ab_rdf_in, ab_td2, ab_tm2]
          all_goals exact key
        · have key := fin (ab_wr (ab_wr R 355 37 (y 6 + 0)) 355 38 (y 7 + 1)) (sb _ _) (by rw [ab_rdw_ne (by omega), ab_rdw_ne (by omega)]) (by
            rw [eyi, if_neg w0, if_neg w1, if_neg w2]
            refine ⟨fun k k1 k2 => ?_, ?_, ?_⟩
            · rw [ac_add_neg (by omega), ab_rdw_ne (by omega), ab_rdw_ne (by omega), rY1 k k1 k2]
            · rw [ac_add_neg (by omega), ab_rdw_ne (by omega), ab_rdw_eq]; omega
            · rw [ac_add_pos rfl, ab_rdw_eq])
          simp (disch := omega) only [rX13_year_115, rX13_year_116, rX13_year_119, rX13_year_121, rX13_year_122I, rX13_year_122R, rX13_year_123, rX13_year_126, rX13_year_128, rX13_year_129, rX13_year_132, rX13_year_133, rX13_year_136, rX13_year_137, rX13_year_138, rX13_year_141, rX13_year_142I, rX13_year_142R, rX13_year_143, rX13_year_146, rX13_year_148, rX13_year_149, rX13_year_152, rX13_year_153, rX13_year_156, rX13_year_157, rX13_year_158, rX13_year_161, rX13_year_163, rX13_year_166, rX13_year_167, rX13_year_170, rX13_year_172, rX13_year_173, rX13_year_174, rX13_year_175, rX13_year_176, rX13_year_177, rX13_year_180, rX13_year_182, rX13_year_183, rX13_year_186, rX13_year_187, rX13_year_190, rX13_year_192, rX13_year_193, rX13_year_194, rX13_year_195, rX13_year_196, rX13_year_197, rX13_year_200, gS_355, gω, gR, c5, r37, r38, ne_eq, not_false_eq_true, not_true_eq_false, true_and, and_true, and_self, true_imp_iff, false_imp_iff, imp_self, Bool.not_false, Bool.not_true, reduceCtorEq, ab_isJ, ab_psh, ab_cats, Bool.false_eq_true, if_true, if_false, ab_shf, ab_shw, Int.le_refl, Classical.not_not, Int.zero_add, forall_const, ↓ab_itT, ↓ab_itF, ab_anT, ab_w32_id, ab_rdf_ne, ab_rdw_ne, ab_rdw_eq, ab_rdf_in, ab_td2, ab_tm2]
          all_goals exact key
  rw [rX13_year_38]
  by_cases w : ac_yp κ s ≤ ac_yr κ s
  · have eq1 : ac_yq κ s = ac_yr κ s + 1 := if_pos w
    rw [eq1] at c4 tail
    simp (disch := omega) only [rX13_year_39, rX13_year_40, rX13_year_43, rX13_year_44, rX13_year_45, rX13_year_48, rX13_year_51, rX13_year_54, rX13_year_56, rX13_year_57, rX13_year_58, rX13_year_61, rX13_year_64, rX13_year_67, rX13_year_69, rX13_year_70, rX13_year_71, rX13_year_74, rX13_year_77, rX13_year_78, rX13_year_79, rX13_year_82, rX13_year_84, rX13_year_86, rX13_year_88, rX13_year_90, rX13_year_93, rX13_year_94, rX13_year_97, rX13_year_98, rX13_year_99, rX13_year_101, rX13_year_102, rX13_year_104, rX13_year_106, rX13_year_108, rX13_year_111, rX13_year_112, gS_355, g, gww, gww2, gww3, gρ, h3, sM, e5, e6, c1, c2, c3, ab_ww, f1, f2, f3, c4, ne_eq, not_false_eq_true, not_true_eq_false, true_and, and_true, and_self, true_imp_iff, false_imp_iff, imp_self, Bool.not_false, Bool.not_true, reduceCtorEq, ab_isJ, ab_psh, ab_cats, Bool.false_eq_true, if_true, if_false, ab_shf, ab_shw, Int.le_refl, Classical.not_not, Int.zero_add, forall_const, ↓ab_itT, ↓ab_itF, ab_anT, ab_w32_id, ab_rdf_ne, ab_rdw_ne, ab_rdw_eq, ab_rdf_in, ab_td2, ab_tm2]
    all_goals exact tail
  · have eq1 : ac_yq κ s = ac_yr κ s + 0 := by rw [Int.add_zero]; exact if_neg w
    rw [eq1] at c4 tail
    simp (disch := omega) only [rX13_year_39, rX13_year_40, rX13_year_43, rX13_year_44, rX13_year_45, rX13_year_48, rX13_year_51, rX13_year_54, rX13_year_56, rX13_year_57, rX13_year_58, rX13_year_61, rX13_year_64, rX13_year_67, rX13_year_69, rX13_year_70, rX13_year_71, rX13_year_74, rX13_year_77, rX13_year_78, rX13_year_79, rX13_year_82, rX13_year_84, rX13_year_86, rX13_year_88, rX13_year_90, rX13_year_93, rX13_year_94, rX13_year_97, rX13_year_98, rX13_year_99, rX13_year_101, rX13_year_102, rX13_year_104, rX13_year_106, rX13_year_108, rX13_year_111, rX13_year_112, gS_355, g, gww, gww2, gww3, gρ, h3, sM, e5, e6, c1, c2, c3, ab_ww, f1, f2, f3, c4, ne_eq, not_false_eq_true, not_true_eq_false, true_and, and_true, and_self, true_imp_iff, false_imp_iff, imp_self, Bool.not_false, Bool.not_true, reduceCtorEq, ab_isJ, ab_psh, ab_cats, Bool.false_eq_true, if_true, if_false, ab_shf, ab_shw, Int.le_refl, Classical.not_not, Int.zero_add, forall_const, ↓ab_itT, ↓ab_itF, ab_anT, ab_w32_id, ab_rdf_ne, ab_rdw_ne, ab_rdw_eq, ab_rdf_in, ab_td2, ab_tm2]
    all_goals exact tail
end
