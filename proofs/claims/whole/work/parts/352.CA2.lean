/-! ACTS of the class: pull -/
theorem ac_orf : ∀ x : Fin 32, ∀ b : Fin 5, (0 ≤ ac_or x.val (ac_sl b.val) ∧ ac_or x.val (ac_sl b.val) < 32) ∧ ∀ c : Fin 5, ac_bit (ac_or x.val (ac_sl b.val)) c.val = if c = b then 1 else ac_bit x.val c.val := by decide +kernel
theorem ac_orb {x b : Int} (hx : 0 ≤ x ∧ x < 32) (hb : 0 ≤ b ∧ b < 5) : (0 ≤ ac_or x (ac_sl b) ∧ ac_or x (ac_sl b) < 32) ∧ ∀ c, 0 ≤ c → c < 5 → ac_bit (ac_or x (ac_sl b)) c = if c = b then 1 else ac_bit x c := by
  have := ac_orf ⟨x.toNat, by omega⟩ ⟨b.toNat, by omega⟩
  dsimp only at this
  rw [Int.toNat_of_nonneg hx.1, Int.toNat_of_nonneg hb.1] at this
  refine ⟨this.1, fun c c1 c2 => ?_⟩
  have t := this.2 ⟨c.toNat, by omega⟩
  dsimp only at t
  rw [Int.toNat_of_nonneg c1] at t
  rw [t]
  by_cases e : c = b
  · rw [if_pos e, if_pos (Fin.ext (by dsimp only; omega))]
  · rw [if_neg e, if_neg (fun u => e (by have := congrArg Fin.val u; dsimp only at this; omega))]
/-- what a pull leaves -/
def ac_pv (v : Int → Int) (b p q came sd : Int) : Int → Int := fun k => if k = 17 then sd else if k = 10 then (if came = 3 then v 10 else ac_or (v 10) (ac_sl b)) else if (came = 0 ∧ k = 11 + p) ∨ (came = 1 ∧ k = 11 + q) then ab_w32 (v k + 1) else v k
section
variable {X : ab_X} {σ τ υ : ab_S} {Q : Option ab_V → ab_S → Prop} {K b i n s na nm k p q hp hq mv came sd : Int} {κ : ac_K} {v w : Int → Int} {pa pm : Int → Int → Int} {P : Int → Int → Prop}
theorem ac_pv_k (h : k < 10) : ac_pv v b p q came sd k = if (came = 0 ∧ k = 11 + p) ∨ (came = 1 ∧ k = 11 + q) then ab_w32 (v k + 1) else v k := by
  unfold ac_pv
  rw [if_neg (by omega), if_neg (by omega)]
theorem ac_pv_VB (h : ac_VB κ v) (hb : ac_isB κ b) (hk : κ 5 0 ≤ 5) (hp : 0 ≤ p) (hq : 0 ≤ q) (hs : 0 ≤ sd ∧ sd ≤ 65536) : ac_VB κ (ac_pv v b p q came sd) := by
  obtain ⟨q1, q2, q3⟩ := h
  have e : ∀ k, k < 10 → ac_pv v b p q came sd k = v k := fun k hk => by rw [ac_pv_k hk, if_neg (by omega)]
  refine ⟨fun b' b1 b2 => ⟨?_, ?_⟩, ?_, ?_⟩
  · rw [e _ (by omega)]; exact (q1 b' b1 b2).1
  · rw [e _ (by omega)]; exact (q1 b' b1 b2).2
  · show 0 ≤ ac_pv v b p q came sd 10 ∧ ac_pv v b p q came sd 10 < 32
    unfold ac_pv
    rw [if_neg (by omega), if_pos rfl]
    split
    · exact q2
    · exact (ac_orb q2 ⟨hb.1, by omega⟩).1
  · show 0 ≤ ac_pv v b p q came sd 17 ∧ ac_pv v b p q came sd 17 ≤ 65536
    unfold ac_pv
    rw [if_pos rfl]; exact hs
def ac_plT (κ : ac_K) (v : Int → Int) (b p hp q hq mv : Int) : Int := if ac_wT κ b p hp q hq mv = 0 then (if κ 12 b = 1 ∨ ac_bit (v 10) b = 1 then 5 else 0) else ac_wT κ b p hp q hq mv
/-- the pull's state from the laid one -/
theorem ac_pv_St {cw : Int} (h : ac_St σ 31 κ v) (hk : κ 5 0 ≤ 5) (hb : ac_isB κ b) (hpp : 0 ≤ p ∧ p < 6) (hqq : 0 ≤ q ∧ q < 6) (hV : ac_VB κ v) (h0 : ac_bit (v 10) b = 0) (hs : ab_Same P σ τ) (hP : ∀ a f, P a f → 31 ≤ a → a ≤ 35 → (a = 31 ∧ f = 4) ∨ (a = 34 ∧ f = b) ∨ (a = 35 ∧ f = cw)) (e4 : ab_rd τ 31 4 = sd) (eg : ab_rd τ 34 b = if came = 3 then 0 else 1) (ew : came = 0 ∧ cw = p ∨ came = 1 ∧ cw = q ∨ (came ≠ 0 ∧ came ≠ 1 ∧ cw = -1)) (ev : 0 ≤ cw → ab_rd τ 35 cw = ab_w32 (v (11 + cw) + 1)) : ac_St τ 31 κ (ac_pv v b p q came sd) := by
  have e : ∀ k, k < 10 → ac_pv v b p q came sd k = v k := fun k hk => by rw [ac_pv_k hk, if_neg (by omega)]
  have ob := (ac_orb hV.2.1 (show 0 ≤ b ∧ b < 5 from ⟨hb.1, by omega⟩)).2
  refine ⟨fun b' b1 b2 => ⟨?_, ?_, ?_⟩, fun p' p1 p2 => ?_, ?_⟩
  · rw [hs.2.2 _ _ (fun u => by have := hP _ _ u (by omega) (by omega); omega), e _ (by omega)]; exact (h.1 b' b1 b2).1
  · rw [hs.2.2 _ _ (fun u => by have := hP _ _ u (by omega) (by omega); omega), e _ (by omega)]; exact (h.1 b' b1 b2).2.1
  · have e10 : ac_pv v b p q came sd 10 = if came = 3 then v 10 else ac_or (v 10) (ac_sl b) := by
      unfold ac_pv
      rw [if_neg (by omega), if_pos rfl]
    rw [e10]
    show ab_rd τ 34 b' = _
    by_cases z : b' = b
    · rw [z, eg]
      by_cases c3 : came = 3
      · rw [if_pos c3, if_pos c3, h0]
      · rw [if_neg c3, if_neg c3, ob b hb.1 (by omega), if_pos rfl]
    · rw [hs.2.2 34 b' (fun u => by have := hP _ _ u (by omega) (by omega); omega)]
      have := (h.1 b' b1 b2).2.2
      have t : ab_rd σ 34 b' = ac_bit (v 10) b' := this
      rw [t]
      by_cases c3 : came = 3
      · rw [if_pos c3]
      · rw [if_neg c3, ob b' b1 (by omega), if_neg z]
  · show ab_rd τ 35 p' = _
    have t : ab_rd σ 35 p' = v (11 + p') := h.2.1 p' p1 p2
    unfold ac_pv
    rw [if_neg (by omega), if_neg (by omega)]
    by_cases z : p' = cw
    · rw [if_pos (by omega), z, ev (by omega)]
    · rw [if_neg (by omega), hs.2.2 35 p' (fun u => by have := hP _ _ u (by omega) (by omega); omega), t]
  · rw [e4]
    unfold ac_pv
    rw [if_pos rfl]
theorem ca_pull (h : ac_CV σ K κ v na pa nm pm) (hQ1 : ac_plT κ v b p hp q hq mv ≠ 0 → ∀ τ, ab_Same ac_PC σ τ → ab_rd τ 1 8 = ac_plT κ v b p hp q hq mv → Q (some (ab_I (-1))) τ) (hQ0 : ac_plT κ v b p hp q hq mv = 0 → ∀ τ, ab_Same ac_PX σ τ → ab_rd τ 1 8 = 0 → ac_CV τ K κ (ac_pv v b p q (ac_CF κ (v b) (v (5 + b)) b p hp q hq mv (v 17)) (ac_fsd (κ 4 0) (v 17))) (ac_kna na) (ac_kpa na pa v) nm pm → Q (some (ab_I (ac_CF κ (v b) (v (5 + b)) b p hp q hq mv (v 17)))) τ) : ab_Do X 116 [ab_R 1, ab_I b, ab_I p, ab_I hp, ab_I q, ab_I hq, ab_I mv] σ Q := by
  have hI := h.1
  have c := fun b p hp q hq mv Q' => sp_pullTrouble (X := X) (Q := Q') (b := b) (p := p) (hp := hp) (q := q) (hq := hq) (mv := mv) hI
  have g := hI.1
  have h7 := hI.2.1
  have hC := hI.2.2.1
  have hv : K = 5 ∨ K = 329 := hC.1
  have n5 := hI.2.2.2.1.1
  by_cases hT : ac_wT κ b p hp q hq mv = 0
  · obtain ⟨hb, hu, hw⟩ := ac_wT0 hT
    have hk := hI.kk hb
    obtain ⟨t1, t2, t3⟩ := h.2.1.1 b hb.1 hb.2
    have t3 : ab_rd σ 34 b = ac_bit (v 10) b := t3
    have b01 := ac_bit01 (x := v 10) (b := b)
    obtain ⟨s0, s1, s2, s3, s4, p6, p8, p13, p14⟩ := g.kit hC.1
    have gB := g.bone hC.1 hb.1 (by omega)
    have sB := gB.1.2.1
    have eK := (hC.2.2.2.1 b hb.1 hb.2).1
    by_cases hz : κ 12 b = 1 ∨ ac_bit (v 10) b = 1
    · have eT : ac_plT κ v b p hp q hq mv = 5 := by unfold ac_plT; rw [if_pos hT, if_pos hz]
      have hq' := hQ1 (by rw [eT]; decide) _ ac_cq8.1 ac_cq8.2
      rw [eT, ← ab_ww (σ := σ) (a := 1) (k := 8) (x := 0) (y := 5)] at hq'
      by_cases hz1 : κ 12 b = 1
      · simp (disch := omega) only [do_X11_pull, rX11_pull_0, rX11_pull_1, rX11_pull_2, rX11_pull_3, rX11_pull_4, rX11_pull_5, rX11_pull_7, rX11_pull_9, rX11_pull_11, rX11_pull_14, rX11_pull_17, rX11_pull_18, rX11_pull_21, rX11_pull_24, rX11_pull_25, rX11_pull_28, rX11_pull_31, rX11_pull_32, rX11_pull_33, rX11_pull_36, rX11_pull_37, rX11_pull_40, rX11_pull_41, rX11_pull_44, rX11_pull_47, rX11_pull_48, rX11_pull_49, rX11_pull_52, rX11_pull_53, rX11_pull_54, rX11_pull_57, rX11_pull_58, rX11_pull_61, rX11_pull_64, rX11_pull_65, gS_1, g, h7, c, hT, s0, s1, p6, gB.2, sB, eK, ne_eq, not_false_eq_true, not_true_eq_false, true_and, and_true, and_self, true_imp_iff, false_imp_iff, imp_self, Bool.not_false, Bool.not_true, reduceCtorEq, ab_isJ, ab_psh, ab_cats, Bool.false_eq_true, if_true, if_false, ab_shf, ab_shw, Int.le_refl, Classical.not_not, Int.zero_add, forall_const, ↓ab_itT, ↓ab_itF, ab_anT, ab_w32_id, ab_rdf_ne, ab_rdw_ne, ab_rdw_eq, ab_rdf_in, ab_td2, ab_tm2]
        all_goals exact hq'
      · have z : ac_bit (v 10) b = 1 := by omega
        rw [z] at t3
        simp (disch := omega) only [do_X11_pull, rX11_pull_0, rX11_pull_1, rX11_pull_2, rX11_pull_3, rX11_pull_4, rX11_pull_5, rX11_pull_7, rX11_pull_9, rX11_pull_11, rX11_pull_14, rX11_pull_17, rX11_pull_18, rX11_pull_21, rX11_pull_24, rX11_pull_25, rX11_pull_28, rX11_pull_31, rX11_pull_32, rX11_pull_33, rX11_pull_36, rX11_pull_37, rX11_pull_40, rX11_pull_41, rX11_pull_44, rX11_pull_47, rX11_pull_48, rX11_pull_49, rX11_pull_52, rX11_pull_53, rX11_pull_54, rX11_pull_57, rX11_pull_58, rX11_pull_61, rX11_pull_64, rX11_pull_65, gS_1, gP_1_1, gS_31, gP_31_2, gS_34, g, h7, c, hT, s0, s1, p6, gB.2, sB, eK, t3, ne_eq, not_false_eq_true, not_true_eq_false, true_and, and_true, and_self, true_imp_iff, false_imp_iff, imp_self, Bool.not_false, Bool.not_true, reduceCtorEq, ab_isJ, ab_psh, ab_cats, Bool.false_eq_true, if_true, if_false, ab_shf, ab_shw, Int.le_refl, Classical.not_not, Int.zero_add, forall_const, ↓ab_itT, ↓ab_itF, ab_anT, ab_w32_id, ab_rdf_ne, ab_rdw_ne, ab_rdw_eq, ab_rdf_in, ab_td2, ab_tm2, or_true]
        all_goals exact hq'
    · have eT : ac_plT κ v b p hp q hq mv = 0 := by unfold ac_plT; rw [if_pos hT, if_neg hz]
      have z : ac_bit (v 10) b = 0 := by omega
      have z2 : ¬ κ 12 b = 1 := by omega
      rw [z] at t3
      have h8 := h.sameC (ac_t8 (t := 0))
      simp (disch := omega) only [do_X11_pull, rX11_pull_0, rX11_pull_1, rX11_pull_2, rX11_pull_3, rX11_pull_4, rX11_pull_5, rX11_pull_7, rX11_pull_9, rX11_pull_11, rX11_pull_14, rX11_pull_17, rX11_pull_18, rX11_pull_21, rX11_pull_24, rX11_pull_25, rX11_pull_28, rX11_pull_31, rX11_pull_32, rX11_pull_33, rX11_pull_36, rX11_pull_37, rX11_pull_40, rX11_pull_41, rX11_pull_44, rX11_pull_47, rX11_pull_48, rX11_pull_49, rX11_pull_52, rX11_pull_53, rX11_pull_54, rX11_pull_57, rX11_pull_58, rX11_pull_61, rX11_pull_64, rX11_pull_65, rX11_pull_66, rX11_pull_67, rX11_pull_70, rX11_pull_71, rX11_pull_74, gS_1, gP_1_1, gP_1_2, gS_31, gS_36, gP_31_2, gS_34, g, h7, c, hT, s0, s1, p6, gB.2, sB, eK, t3, ne_eq, not_false_eq_true, not_true_eq_false, true_and, and_true, and_self, true_imp_iff, false_imp_iff, imp_self, Bool.not_false, Bool.not_true, reduceCtorEq, ab_isJ, ab_psh, ab_cats, Bool.false_eq_true, if_true, if_false, ab_shf, ab_shw, Int.le_refl, Classical.not_not, Int.zero_add, forall_const, ↓ab_itT, ↓ab_itF, ab_anT, ab_w32_id, ab_rdf_ne, ab_rdw_ne, ab_rdw_eq, ab_rdf_in, ab_td2, ab_tm2, or_true]
      clear s0 s1 s2 s3 s4 p6 p8 p13 p14 gB sB eK t1 t2 t3
      refine sp_keep h8.1.1 h8.2.2.2.1 h8.2.1 n5.2 (fun τ hs hH => ?_)
      have sX : ab_Same ac_PX σ τ := (ac_t8 (t := 0)).cx.trans (hs.mono (fun _ _ u => Or.inr (Or.inl u)))
      have hI1 := hI.sameX sX
      have g1 := hI1.1
      have S1 : ac_St τ 31 κ v := h8.2.1.sameG n5.2 hs (fun a f u u2 => by unfold ac_PS at u; unfold ac_PK at u2; omega)
      have e81 : ab_rd τ 1 8 = 0 := by rw [hs.2.2 1 8 (by unfold ac_PK; omega), ab_rdw_eq]
      have hV := h.2.2.1
      have vb := hV.1 b hb.1 hb.2
      have n0 := ac_n_b hk hb (Or.inl rfl)
      have n1 := ac_n_b hk hb (Or.inr rfl)
      have w0 : hp ≤ ac_n κ b 0 := hw.1.2
      have w1 : hq ≤ ac_n κ b 1 := hw.2.1.2
      have w2 := hw.1.1
      have w3 := hw.2.1.1
      have q1 := (S1.1 b hb.1 hb.2)
      have c1 := fun Q' => sp_lay (X := X) (Q := Q') (hp := hp) (hq := hq) (mv := mv) g1 hI1.2.1 hI1.2.2.1 hk (show ab_rd τ 32 b = v b from q1.1) (show ab_rd τ 33 b = v (5 + b) from q1.2.1) vb.2 hb hu.1 hu.2.1 (by omega) (by omega) hw.2.2
      have L := ac_gk_Ld (σ := ac_tk τ κ (v b) (v (5 + b))) (hp := hp) (hq := hq) (mv := mv) (hI1.same ac_tk_same).1 hk vb.2 hb hu.1 hu.2.1 (show 0 ≤ hp ∧ hp ≤ 6 by omega) (show 0 ≤ hq ∧ hq ≤ 6 by omega) (ac_tk_4 (kd := v b) (d := v (5 + b))) (ac_tk_8 (kd := v b) (d := v (5 + b)))
      have sG : ab_Same ac_PD τ (ac_gk (ac_tk τ κ (v b) (v (5 + b))) κ (v (5 + b)) b p hp q hq mv) := (ac_tk_same.trans ac_gk_same).toD (fun f => by rw [ac_gk_r1 (by omega), ac_tk_rd (by omega)])
      generalize ac_gk (ac_tk τ κ (v b) (v (5 + b))) κ (v (5 + b)) b p hp q hq mv = ρ at c1 L sG
      have hρ := hI1.same sG.ofD
      have gρ := hρ.1
      have h7ρ := hρ.2.1
      have hCρ := hρ.2.2.1
      obtain ⟨s0, s1, -, -, -, p6, -, -, -⟩ := gρ.kit hCρ.1
      have gB := gρ.bone hCρ.1 hb.1 (by omega)
      have eb := hCρ.2.2.2.1 _ hb.1 hb.2
      have e4 := hCρ.2.1.2.2.2.2
      have c7 := fun Q' => sp_allPlaces (X := X) (Q := Q') (n0 := ac_n κ b 0) (n1 := ac_n κ b 1) gB.1 (eb.2.2 0 (Or.inl rfl)).1 (eb.2.2 1 (Or.inr rfl)).1 (by omega)
      have g31 : ab_rd ρ 31 4 = v 17 := by rw [sG.2.2 31 4 (by unfold ac_PD ac_PC; omega)]; exact S1.2.2
      have c8 := fun flaw Q' => sp_drawFlaw (X := X) (Q := Q') (flaw := flaw) (n := ac_n κ b 0 + ac_n κ b 1) (gS_31 gρ) (by omega) g31 hV.2.2 (by omega)
      have L2 := L.seed (x := ac_fsd (κ 4 0) (v 17))
      have gL2 := L2.1
      have fpb := ac_fp_b (flaw := κ 4 0) (n := ac_n κ b 0 + ac_n κ b 1) (s := v 17) (by omega)
      have c9 := fun Q' => sp_resolveK (X := X) (Q := Q') L2 fpb
      rw [show ac_C κ (v b) (v (5 + b)) b p hp q hq mv (ac_r0 (ac_n κ b 0) (ac_fp (κ 4 0) (ac_n κ b 0 + ac_n κ b 1) (v 17))) (ac_r1 (ac_n κ b 0) (ac_fp (κ 4 0) (ac_n κ b 0 + ac_n κ b 1) (v 17))) = ac_CF κ (v b) (v (5 + b)) b p hp q hq mv (v 17) from rfl] at c9
      have sR : ab_Same ac_PD (ab_wr ρ 31 4 (ac_fsd (κ 4 0) (v 17))) (ac_rst (ab_wr ρ 31 4 (ac_fsd (κ 4 0) (v 17))) κ (v (5 + b)) b p hp q hq mv (ac_r0 (ac_n κ b 0) (ac_fp (κ 4 0) (ac_n κ b 0 + ac_n κ b 1) (v 17))) (ac_r1 (ac_n κ b 0) (ac_fp (κ 4 0) (ac_n κ b 0 + ac_n κ b 1) (v 17)))) := ac_rst_same.toD (fun f => ac_rst_r1 (by omega))
      generalize ac_rst (ab_wr ρ 31 4 (ac_fsd (κ 4 0) (v 17))) κ (v (5 + b)) b p hp q hq mv (ac_r0 (ac_n κ b 0) (ac_fp (κ 4 0) (ac_n κ b 0 + ac_n κ b 1) (v 17))) (ac_r1 (ac_n κ b 0) (ac_fp (κ 4 0) (ac_n κ b 0 + ac_n κ b 1) (v 17))) = R at c9 sR
      have oR : ∀ a f, a < 134 → ¬ (a = 31 ∧ f = 4) → ab_rd R a f = ab_rd τ a f := fun a f ha hf => by
        by_cases a1 : a = 1
        · rw [a1, sR.d1, ab_rdw_ne (by omega), sG.d1]
        · rw [sR.2.2 a f (by unfold ac_PD ac_PC; omega), ab_rdw_ne (by omega), sG.2.2 a f (by unfold ac_PD ac_PC; omega)]
      have o4 : ab_rd R 31 4 = ac_fsd (κ 4 0) (v 17) := by rw [sR.2.2 31 4 (by unfold ac_PD ac_PC; omega), ab_rdw_eq]
      have cb := ac_C_b (κ := κ) (kd := v b) (d := v (5 + b)) (b := b) (p := p) (hp := hp) (q := q) (hq := hq) (mv := mv) (r0 := ac_r0 (ac_n κ b 0) (ac_fp (κ 4 0) (ac_n κ b 0 + ac_n κ b 1) (v 17))) (r1 := ac_r1 (ac_n κ b 0) (ac_fp (κ 4 0) (ac_n κ b 0 + ac_n κ b 1) (v 17)))
      rw [show ac_C κ (v b) (v (5 + b)) b p hp q hq mv (ac_r0 (ac_n κ b 0) (ac_fp (κ 4 0) (ac_n κ b 0 + ac_n κ b 1) (v 17))) (ac_r1 (ac_n κ b 0) (ac_fp (κ 4 0) (ac_n κ b 0 + ac_n κ b 1) (v 17))) = ac_CF κ (v b) (v (5 + b)) b p hp q hq mv (v 17) from rfl] at cb
      have n6 := hI.2.2.2.1.2.1
      have sbd := ac_fsd_b (flaw := κ 4 0) (s := v 17)
      have fin : ∀ (τ' : ab_S) (cw : Int), ab_Same (fun a f => (a = 34 ∧ f = b) ∨ (a = 35 ∧ f = cw)) R τ' → (ac_CF κ (v b) (v (5 + b)) b p hp q hq mv (v 17) = 0 ∧ cw = p ∨ ac_CF κ (v b) (v (5 + b)) b p hp q hq mv (v 17) = 1 ∧ cw = q ∨ (ac_CF κ (v b) (v (5 + b)) b p hp q hq mv (v 17) ≠ 0 ∧ ac_CF κ (v b) (v (5 + b)) b p hp q hq mv (v 17) ≠ 1 ∧ cw = -1)) → (ab_rd τ' 34 b = if ac_CF κ (v b) (v (5 + b)) b p hp q hq mv (v 17) = 3 then 0 else 1) → (0 ≤ cw → ab_rd τ' 35 cw = ab_w32 (v (11 + cw) + 1)) → Q (some (ab_I (ac_CF κ (v b) (v (5 + b)) b p hp q hq mv (v 17)))) τ' := by
        intro τ' cw hs' hc hgn hwn
        have sA : ab_Same ac_PX τ τ' := ((sG.ofD.cx.wr (Or.inr (Or.inr (Or.inl ⟨rfl, rfl⟩)))).trans sR.ofD.cx).trans (hs'.mono (fun a f u => Or.inr (Or.inr (Or.inr (by omega)))))
        have sB' : ab_Same (ac_PS 31) R τ' := hs'.mono (fun a f u => by unfold ac_PS; omega)
        have e18 : ab_rd τ' 1 8 = 0 := by rw [hs'.2.2 1 8 (by omega), oR 1 8 (by omega) (by omega), e81]
        have H' : ac_H τ' κ (ac_kna na) (ac_kpa na pa v) nm pm := by
          have d1 := hH.sameC n5.2 sG.ofD
          have sw : ab_Same (ac_PS 31) ρ (ab_wr ρ 31 4 (ac_fsd (κ 4 0) (v 17))) := ab_Same.refl.wr (Or.inl ⟨rfl, rfl⟩)
          have d2 := d1.same31 n5.2 sw (fun k k1 k2 => by rw [ab_rdw_ne (by omega)]; exact d1.2.2.2.2.2.2.2 31 (Or.inl rfl) k k1 k2)
          have d3 := d2.sameC n5.2 sR.ofD
          refine d3.same31 n5.2 sB' (fun k k1 k2 => ?_)
          show ab_rd τ' 34 k = 0 ∨ ab_rd τ' 34 k = 1
          by_cases e : k = b
          · rw [e, hgn]
            split <;> omega
          · rw [hs'.2.2 34 k (by omega)]
            exact d3.2.2.2.2.2.2.2 31 (Or.inl rfl) k k1 k2
        have sP : ab_Same (fun a f => ac_PD a f ∨ (a = 31 ∧ f = 4) ∨ (a = 34 ∧ f = b) ∨ (a = 35 ∧ f = cw)) τ τ' := by
          have x1 : ab_Same (fun a f => ac_PD a f ∨ (a = 31 ∧ f = 4) ∨ (a = 34 ∧ f = b) ∨ (a = 35 ∧ f = cw)) τ ρ := sG.mono (fun _ _ u => Or.inl u)
          exact ((x1.wr (a := 31) (k := 4) (v := ac_fsd (κ 4 0) (v 17)) (Or.inr (Or.inl ⟨rfl, rfl⟩))).trans (sR.mono (fun _ _ u => Or.inl u))).trans (hs'.mono (fun _ _ u => Or.inr (Or.inr u)))
        have St' : ac_St τ' 31 κ (ac_pv v b p q (ac_CF κ (v b) (v (5 + b)) b p hp q hq mv (v 17)) (ac_fsd (κ 4 0) (v 17))) := ac_pv_St S1 n5.2 hb ⟨hu.1.1, by have := hu.1.2; omega⟩ ⟨hu.2.1.1, by have := hu.2.1.2; omega⟩ hV z sP (fun a f u x1 x2 => by
          rcases u with u | u
          · unfold ac_PD ac_PC at u; omega
          · exact u) (by rw [hs'.2.2 31 4 (by omega), o4]) hgn hc hwn
        have sE := sX.trans sA
        exact hQ0 eT τ' sE e18 (h.act sE St' (ac_pv_VB hV hb n5.2 hu.1.1 hu.2.1.1 sbd) H')
      have e35 : ∀ k, 0 ≤ k → k < 6 → ab_rd R 35 k = v (11 + k) := fun k k1 k2 => by rw [oR 35 k (by omega) (by omega)]; exact S1.2.1 k k1 k2
      have hup := hu.1
      have huq := hu.2.1
      have gR := (hI1.sameG (P := fun a f => ac_PD a f ∨ (a = 31 ∧ f = 4)) (((sG.mono (fun _ _ u => Or.inl u)).wr (Or.inr ⟨rfl, rfl⟩)).trans (sR.mono (fun _ _ u => Or.inl u))) (fun a f a1 a2 a3 u => by
        rcases u with u | ⟨rfl, rfl⟩
        · exact ac_PC_pt a f a1 a2 a3 u.1
        · decide) (by unfold ac_PD; omega) (fun a f u1 u => by unfold ac_PD ac_PC at u; omega)).1
      have hz := gS_34 gR
      have ep := e35 p hup.1 (by omega)
      have eq := e35 q huq.1 (by omega)
      have head : ab_Run X 116 123 (4, 0, 0) [ab_R 1, ab_I b, ab_I p, ab_I hp, ab_I q, ab_I hq, ab_I mv, ab_R 0] [ab_I (ac_CF κ (v b) (v (5 + b)) b p hp q hq mv (v 17))] R Q → ab_Run X 116 77 (4, 0, 0) [ab_R 1, ab_I b, ab_I p, ab_I hp, ab_I q, ab_I hq, ab_I mv, ab_R 0] [] τ Q := by
        intro hR
        clear fin L L2 oR hQ0 hQ1 sG sR hH S1 hI1 h8 h hI hC
        simp (disch := omega) only [rX11_pull_77, rX11_pull_78, rX11_pull_79, rX11_pull_80, rX11_pull_81, rX11_pull_83, rX11_pull_85, rX11_pull_87, rX11_pull_90, rX11_pull_91, rX11_pull_94, rX11_pull_95, rX11_pull_98, rX11_pull_99, rX11_pull_102, rX11_pull_105, rX11_pull_106, rX11_pull_109, rX11_pull_112, rX11_pull_113, rX11_pull_114, rX11_pull_117, rX11_pull_120, gS_1, gP_1_1, gP_1_3, gS_31, gS_134, g1, gρ, gL2, h7ρ, s0, s1, p6, gB.2, gB.1.2.1, e4, c1, c7, c8, c9, ne_eq, not_false_eq_true, not_true_eq_false, true_and, and_true, and_self, true_imp_iff, false_imp_iff, imp_self, Bool.not_false, Bool.not_true, reduceCtorEq, ab_isJ, ab_psh, ab_cats, Bool.false_eq_true, if_true, if_false, ab_shf, ab_shw, Int.le_refl, Classical.not_not, Int.zero_add, forall_const, ↓ab_itT, ↓ab_itF, ab_anT, ab_w32_id, ab_rdf_ne, ab_rdw_ne, ab_rdw_eq, ab_rdf_in, ab_td2, ab_tm2]
        all_goals exact hR
      refine head ?_
      clear head
      generalize hcm : ac_CF κ (v b) (v (5 + b)) b p hp q hq mv (v 17) = cm at *
      by_cases y3 : cm = 3
      · have key := fin (ab_wr R 34 b 0) (-1) (ab_Same.refl.wr (Or.inl ⟨rfl, rfl⟩)) (by omega) (by rw [ab_rdw_eq, if_pos y3]) (fun u => by omega)
        clear fin L L2 oR hQ0 hQ1 sG sR hH S1 hI1 h8 h hI hC
        simp (disch := first | omega | (simp only [ab_shw, hz, true_and, and_true, or_true, true_or, and_self]; omega)) only [rX11_pull_123, rX11_pull_125, rX11_pull_126, rX11_pull_129, rX11_pull_132, rX11_pull_133, rX11_pull_135, rX11_pull_136, rX11_pull_139, rX11_pull_140, rX11_pull_143, rX11_pull_144B, rX11_pull_144Z, rX11_pull_145, rX11_pull_147, rX11_pull_150, rX11_pull_151, rX11_pull_154, rX11_pull_157, rX11_pull_158, rX11_pull_159, rX11_pull_160, rX11_pull_161, rX11_pull_162, rX11_pull_163, rX11_pull_166, rX11_pull_168, rX11_pull_169, rX11_pull_172, rX11_pull_173, rX11_pull_176, rX11_pull_179, rX11_pull_181, rX11_pull_182, rX11_pull_183, rX11_pull_184, rX11_pull_185, rX11_pull_186, rX11_pull_188, gS_1, gP_1_1, gS_31, gP_31_2, gR, ne_eq, not_false_eq_true, not_true_eq_false, true_and, and_true, and_self, true_imp_iff, false_imp_iff, imp_self, Bool.not_false, Bool.not_true, reduceCtorEq, ab_isJ, ab_psh, ab_cats, Bool.false_eq_true, if_true, if_false, ab_shf, ab_shw, Int.le_refl, Classical.not_not, Int.zero_add, forall_const, ↓ab_itT, ↓ab_itF, ab_anT, ab_w32_id, ab_rdf_ne, ab_rdw_ne, ab_rdw_eq, ab_rdf_in, ab_td2, ab_tm2]
        all_goals exact key
      · by_cases y0 : cm = 0
        · have key := fin (ab_wr (ab_wr R 34 b 1) 35 p (ab_w32 (v (11 + p) + 1))) p ((ab_Same.refl.wr (Or.inl ⟨rfl, rfl⟩)).wr (Or.inr ⟨rfl, rfl⟩)) (by omega) (by rw [ab_rdw_ne (by omega), ab_rdw_eq, if_neg y3]) (fun u => ab_rdw_eq)
          clear fin L L2 oR hQ0 hQ1 sG sR hH S1 hI1 h8 h hI hC
          simp (disch := first | omega | (simp only [ab_shw, hz, true_and, and_true, or_true, true_or, and_self]; omega)) only [rX11_pull_123, rX11_pull_125, rX11_pull_126, rX11_pull_129, rX11_pull_132, rX11_pull_133, rX11_pull_135, rX11_pull_136, rX11_pull_139, rX11_pull_140, rX11_pull_143, rX11_pull_144B, rX11_pull_144Z, rX11_pull_145, rX11_pull_147, rX11_pull_150, rX11_pull_151, rX11_pull_154, rX11_pull_157, rX11_pull_158, rX11_pull_159, rX11_pull_160, rX11_pull_161, rX11_pull_162, rX11_pull_163, rX11_pull_166, rX11_pull_168, rX11_pull_169, rX11_pull_172, rX11_pull_173, rX11_pull_176, rX11_pull_179, rX11_pull_181, rX11_pull_182, rX11_pull_183, rX11_pull_184, rX11_pull_185, rX11_pull_186, rX11_pull_188, gS_1, gP_1_1, gS_31, gP_31_2, gP_31_3, gS_35, gR, ep, ne_eq, not_false_eq_true, not_true_eq_false, true_and, and_true, and_self, true_imp_iff, false_imp_iff, imp_self, Bool.not_false, Bool.not_true, reduceCtorEq, ab_isJ, ab_psh, ab_cats, Bool.false_eq_true, if_true, if_false, ab_shf, ab_shw, Int.le_refl, Classical.not_not, Int.zero_add, forall_const, ↓ab_itT, ↓ab_itF, ab_anT, ab_w32_id, ab_rdf_ne, ab_rdw_ne, ab_rdw_eq, ab_rdf_in, ab_td2, ab_tm2]
          all_goals exact key
        · by_cases y1 : cm = 1
          · have key := fin (ab_wr (ab_wr R 34 b 1) 35 q (ab_w32 (v (11 + q) + 1))) q ((ab_Same.refl.wr (Or.inl ⟨rfl, rfl⟩)).wr (Or.inr ⟨rfl, rfl⟩)) (by omega) (by rw [ab_rdw_ne (by omega), ab_rdw_eq, if_neg y3]) (fun u => ab_rdw_eq)
            clear fin L L2 oR hQ0 hQ1 sG sR hH S1 hI1 h8 h hI hC
            simp (disch := first | omega | (simp only [ab_shw, hz, true_and, and_true, or_true, true_or, and_self]; omega)) only [rX11_pull_123, rX11_pull_125, rX11_pull_126, rX11_pull_129, rX11_pull_132, rX11_pull_133, rX11_pull_135, rX11_pull_136, rX11_pull_139, rX11_pull_140, rX11_pull_143, rX11_pull_144B, rX11_pull_144Z, rX11_pull_145, rX11_pull_147, rX11_pull_150, rX11_pull_151, rX11_pull_154, rX11_pull_157, rX11_pull_158, rX11_pull_159, rX11_pull_160, rX11_pull_161, rX11_pull_162, rX11_pull_163, rX11_pull_166, rX11_pull_168, rX11_pull_169, rX11_pull_172, rX11_pull_173, rX11_pull_176, rX11_pull_179, rX11_pull_181, rX11_pull_182, rX11_pull_183, rX11_pull_184, rX11_pull_185, rX11_pull_186, rX11_pull_188, gS_1, gP_1_1, gS_31, gP_31_2, gP_31_3, gS_35, gR, eq, ne_eq, not_false_eq_true, not_true_eq_false, true_and, and_true, and_self, true_imp_iff, false_imp_iff, imp_self, Bool.not_false, Bool.not_true, reduceCtorEq, ab_isJ, ab_psh, ab_cats, Bool.false_eq_true, if_true, if_false, ab_shf, ab_shw, Int.le_refl, Classical.not_not, Int.zero_add, forall_const, ↓ab_itT, ↓ab_itF, ab_anT, ab_w32_id, ab_rdf_ne, ab_rdw_ne, ab_rdw_eq, ab_rdf_in, ab_td2, ab_tm2]
            all_goals exact key
          · have key := fin (ab_wr R 34 b 1) (-1) (ab_Same.refl.wr (Or.inl ⟨rfl, rfl⟩)) (by omega) (by rw [ab_rdw_eq, if_neg y3]) (fun u => by omega)
            clear fin L L2 oR hQ0 hQ1 sG sR hH S1 hI1 h8 h hI hC
            simp (disch := first | omega | (simp only [ab_shw, hz, true_and, and_true, or_true, true_or, and_self]; omega)) only [rX11_pull_123, rX11_pull_125, rX11_pull_126, rX11_pull_129, rX11_pull_132, rX11_pull_133, rX11_pull_135, rX11_pull_136, rX11_pull_139, rX11_pull_140, rX11_pull_143, rX11_pull_144B, rX11_pull_144Z, rX11_pull_145, rX11_pull_147, rX11_pull_150, rX11_pull_151, rX11_pull_154, rX11_pull_157, rX11_pull_158, rX11_pull_159, rX11_pull_160, rX11_pull_161, rX11_pull_162, rX11_pull_163, rX11_pull_166, rX11_pull_168, rX11_pull_169, rX11_pull_172, rX11_pull_173, rX11_pull_176, rX11_pull_179, rX11_pull_181, rX11_pull_182, rX11_pull_183, rX11_pull_184, rX11_pull_185, rX11_pull_186, rX11_pull_188, gS_1, gP_1_1, gS_31, gP_31_2, gR, ne_eq, not_false_eq_true, not_true_eq_false, true_and, and_true, and_self, true_imp_iff, false_imp_iff, imp_self, Bool.not_false, Bool.not_true, reduceCtorEq, ab_isJ, ab_psh, ab_cats, Bool.false_eq_true, if_true, if_false, ab_shf, ab_shw, Int.le_refl, Classical.not_not, Int.zero_add, forall_const, ↓ab_itT, ↓ab_itF, ab_anT, ab_w32_id, ab_rdf_ne, ab_rdw_ne, ab_rdw_eq, ab_rdf_in, ab_td2, ab_tm2]
            all_goals exact key
  · have eT : ac_plT κ v b p hp q hq mv = ac_wT κ b p hp q hq mv := by unfold ac_plT; rw [if_neg hT]
    have hq' := hQ1 (by rw [eT]; exact hT) _ ac_cq8.1 ac_cq8.2
    rw [eT] at hq'
    have hwb : ac_wT κ b p hp q hq mv = 1 ∨ ac_wT κ b p hp q hq mv = 2 := by
      unfold ac_wT at hT ⊢
      split
      · rename_i z
        rw [if_pos z] at hT
        split
        · rename_i z2; rw [if_pos z2] at hT; exact absurd rfl hT
        · right; rfl
      · left; rfl
    simp (disch := omega) only [do_X11_pull, rX11_pull_0, rX11_pull_1, rX11_pull_2, rX11_pull_3, rX11_pull_4, rX11_pull_5, rX11_pull_7, rX11_pull_9, rX11_pull_11, rX11_pull_14, rX11_pull_17, rX11_pull_18, rX11_pull_21, rX11_pull_24, rX11_pull_25, rX11_pull_28, rX11_pull_31, rX11_pull_32, rX11_pull_33, rX11_pull_36, rX11_pull_37, rX11_pull_40, rX11_pull_41, rX11_pull_44, rX11_pull_47, rX11_pull_48, rX11_pull_49, rX11_pull_52, rX11_pull_53, rX11_pull_54, rX11_pull_57, rX11_pull_58, rX11_pull_61, rX11_pull_64, rX11_pull_65, gS_1, g, c, ne_eq, not_false_eq_true, not_true_eq_false, true_and, and_true, and_self, true_imp_iff, false_imp_iff, imp_self, Bool.not_false, Bool.not_true, reduceCtorEq, ab_isJ, ab_psh, ab_cats, Bool.false_eq_true, if_true, if_false, ab_shf, ab_shw, Int.le_refl, Classical.not_not, Int.zero_add, forall_const, ↓ab_itT, ↓ab_itF, ab_anT, ab_w32_id, ab_rdf_ne, ab_rdw_ne, ab_rdw_eq, ab_rdf_in, ab_td2, ab_tm2]
    all_goals exact hq'
end
