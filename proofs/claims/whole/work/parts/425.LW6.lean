/-! THE LAW: kitchen, led -/
section
variable {X : ab_X} {σ τ υ ω : ab_S} {Q : Option ab_V → ab_S → Prop} {i K na nm ln S A b x : Int} {κ : ac_K} {v tp : Int → Int} {pa pm : Int → Int → Int} {cl sl : Nat} {l5 l6 : ab_V} {P : Int → Int → Prop}
theorem ax_J.mk (h : ax_J σ K κ v na pa nm pm ln tp) (u : ab_Same ar_lo σ τ) (gt : ab_Geo τ) : ac_MS τ κ v na pa nm pm ∧ (ab_rd τ 355 3 = 0 ∨ ab_rd τ 355 3 + 22 ≤ τ.1) ∧ ac_TM τ ln tp := by
  have lo : ∀ a f, 355 ≤ a → ab_rd τ a f = ab_rd σ a f := fun a f q => u.2.2 a f (by unfold ar_lo; omega)
  obtain ⟨⟨h1, h2, h3, h4, ⟨m1, m2, m3⟩, hb, hA, h13, h0, hW⟩, hx, hy⟩ := h
  exact ⟨h2.lo gt u (fun a f q => by unfold ar_lo; omega), by rw [lo _ _ (by omega), u.1]; exact hA, ⟨by rw [lo _ _ (by omega), m1], m2, fun i i1 i2 => by rw [lo _ _ (by omega)]; exact m3 i i1 i2⟩⟩
theorem ar_G8.lo9 (G : ar_G8 ar_P9 τ υ) (gt : ab_Geo τ) : ∀ a f, a ≤ 354 → ab_rd υ a f = ab_rd τ a f := fun a f q => G.2.2.2 a f (by have := gt.1; omega) (fun u => by unfold ar_P9 ar_P8 at u; omega)
theorem lw_1 (h : ax_J σ K κ v na pa nm pm ln tp) (hi : 0 ≤ i ∧ i + 9 ≤ X.1 ∧ X.1 ≤ 4608) (hb : 22 ≤ cl ∧ 244 ≤ sl) (kq : ∀ υ, ax_E υ → ab_Run X 288 2374 (100, cl - 22, sl - 244) [ab_R (-1), ab_R 1, ab_R 355, ab_R 368, ab_I i, l5, l6] [] υ Q) : ab_Run X 288 305 (100, cl, sl) [ab_R (-1), ab_R 1, ab_R 355, ab_R 368, ab_I i, l5, l6] [] σ Q := by
  have hbt := h.1.2.2.2.2.2.1
  refine lws_1 h.geo hi (ca_kitchen h.1.1 h.1.2.2.1 h.1.2.2.2.1 hbt (fun z τ u1 e1 => ?_) (fun z w pl ew τ u1 hC hf t1 e1 e2 e3 => ?_) (fun z κ' s' ew J q5 q6 τ u1 hC hf t1 e1 e2 => ?_))
  · have hH := h.c u1
    refine lwm_1 hH.geo hi hb (ma_kitchen hH.2.1 hH.2.2.2.2.2.2.1 hH.2.2.2.2.1 hbt (fun z2 υ u2 f1 f2 => ?_) (fun z2 => absurd z2 z) (fun z2 => absurd z2 z))
    exact lwe_1 (kq υ ⟨_, _, _, _, _, _, _, _, _, hH.q e1 (by decide) u2 f1 f2⟩)
  · have gt := hC.1.1
    obtain ⟨hM0, hA0, tm⟩ := h.mk u1 gt
    refine lwm_1 gt hi hb (ma_kitchen hM0 hA0 tm hbt (fun z2 => absurd z z2) (fun z2 w2 pl2 ew2 υ G hM hA2 t2 f1 f2 f3 => ?_) (fun z2 κ2 s2 ew2 => by rw [ew] at ew2; cases ew2))
    have e := G.lo9 gt
    rw [ew] at ew2
    have e4 : w = w2 ∧ pl = pl2 := by
      have := Sum.inl.inj ew2
      exact ⟨congrArg Prod.fst this, congrArg Prod.snd this⟩
    exact lwe_1 (kq υ ⟨K, κ, v, na, pa, nm, pm, 0, tp, ⟨hC.hi hM.1.1 e, hM, by rw [e _ _ (by omega), hf], ⟨by rw [e _ _ (by omega)]; exact t1.1, t1.2.1, fun i i1 i2 => by omega⟩, t2, hbt, hA2, by rw [e _ _ (by omega), e2, f3, e4.1], h.1.2.2.2.2.2.2.2.2.1, h.1.2.2.2.2.2.2.2.2.2⟩, by rw [e _ _ (by omega), e1, f1], by rw [e _ _ (by omega), e _ _ (by omega), e1, if_pos rfl, e3, f2, e4.2]⟩)
  · have gt := hC.1.1
    obtain ⟨hM0, hA0, tm⟩ := h.mk u1 gt
    refine lwm_1 gt hi hb (ma_kitchen hM0 hA0 tm hbt (fun z2 => absurd z z2) (fun z2 w2 pl2 ew2 => by rw [ew] at ew2; cases ew2) (fun z2 κ2 s2 ew2 υ G hM hA2 t2 f1 f2 f3 => ?_))
    have e := G.lo9 gt
    rw [ew] at ew2
    obtain rfl : κ' = κ2 := congrArg Prod.fst (Sum.inr.inj ew2)
    exact lwe_1 (kq υ ⟨334 - K, κ', _, 0, pa, 0, pm, 0, tp, ⟨hC.hi hM.1.1 e, hM, by rw [e _ _ (by omega), hf]; omega, ⟨by rw [e _ _ (by omega)]; exact t1.1, t1.2.1, fun i i1 i2 => by omega⟩, t2, hbt, hA2, by rw [e _ _ (by omega), e2, f3], fun q => by omega, J.2.2.2.2.2.2.2⟩, by rw [e _ _ (by omega), e1, f1], by rw [e _ _ (by omega), e1, if_neg (by omega), f2]⟩)
theorem lws_41 (g : ab_Geo σ) (hi : 0 ≤ i ∧ i + 9 ≤ X.1 ∧ X.1 ≤ 4608) (key : ab_Run X 288 2288 (100, cl, sl) [ab_R (-1), ab_R 1, ab_R 355, ab_R 368, ab_I i, l5, l6] (ab_R 368 :: ab_I (X.2 (i + 1)) :: ab_R 1 :: []) σ Q) : ab_Run X 288 2280 (100, cl, sl) [ab_R (-1), ab_R 1, ab_R 355, ab_R 368, ab_I i, l5, l6] [] σ Q := by
  simp (disch := omega) only [rL_law_2280, rL_law_2281, rL_law_2282, rL_law_2284, rL_law_2285, rL_law_2286, rL_law_2287, gS_1, g, ne_eq, not_false_eq_true, not_true_eq_false, true_and, and_true, and_self, true_imp_iff, false_imp_iff, imp_self, Bool.not_false, Bool.not_true, reduceCtorEq, ab_isJ, ab_psh, ab_cats, Bool.false_eq_true, if_true, if_false, ab_shf, ab_shw, Int.le_refl, Classical.not_not, Int.zero_add, forall_const, ↓ab_itT, ↓ab_itF, ab_anT, ab_w32_id, ab_rdf_ne, ab_rdw_ne, ab_rdw_eq, ab_rdf_in, ab_td2, ab_tm2, true_or, or_true]
  all_goals exact key
theorem lwm_41 (g : ab_Geo τ) (hi : 0 ≤ i ∧ i + 9 ≤ X.1 ∧ X.1 ≤ 4608) (key : ab_Do X 285 [ab_R 355, ab_I (X.2 (i + 1))] τ (fun r σ' => ab_Run X 288 2303 (100, cl, sl) [ab_R (-1), ab_R 1, ab_R 355, ab_R 368, ab_I i, ab_I A, l6] (ab_psh r []) σ' Q)) : ab_Run X 288 2291 (100, cl, sl) [ab_R (-1), ab_R 1, ab_R 355, ab_R 368, ab_I i, l5, l6] (ab_I A :: []) τ Q := by
  simp (disch := omega) only [rL_law_2291, rL_law_2293, rL_law_2294, rL_law_2295, rL_law_2297, rL_law_2298, rL_law_2299, rL_law_2300, gS_355, g, ne_eq, not_false_eq_true, not_true_eq_false, true_and, and_true, and_self, true_imp_iff, false_imp_iff, imp_self, Bool.not_false, Bool.not_true, reduceCtorEq, ab_isJ, ab_psh, ab_cats, Bool.false_eq_true, if_true, if_false, ab_shf, ab_shw, Int.le_refl, Classical.not_not, Int.zero_add, forall_const, ↓ab_itT, ↓ab_itF, ab_anT, ab_w32_id, ab_rdf_ne, ab_rdw_ne, ab_rdw_eq, ab_rdf_in, ab_td2, ab_tm2, true_or, or_true]
  all_goals exact key
theorem lwt_41 (g : ab_Geo τ) (key : ab_Do X 158 [ab_R 355] τ (fun r σ' => ab_Run X 288 2309 (100, cl, sl) [ab_R (-1), ab_R 1, ab_R 355, ab_R 368, ab_I i, ab_I A, ab_I b] (ab_psh r []) σ' Q)) : ab_Run X 288 2303 (100, cl, sl) [ab_R (-1), ab_R 1, ab_R 355, ab_R 368, ab_I i, ab_I A, l6] (ab_psh (some (ab_I b)) []) τ Q := by
  simp (disch := omega) only [rL_law_2303, rL_law_2305, rL_law_2306, gS_355, g, ne_eq, not_false_eq_true, not_true_eq_false, true_and, and_true, and_self, true_imp_iff, false_imp_iff, imp_self, Bool.not_false, Bool.not_true, reduceCtorEq, ab_isJ, ab_psh, ab_cats, Bool.false_eq_true, if_true, if_false, ab_shf, ab_shw, Int.le_refl, Classical.not_not, Int.zero_add, forall_const, ↓ab_itT, ↓ab_itF, ab_anT, ab_w32_id, ab_rdf_ne, ab_rdw_ne, ab_rdw_eq, ab_rdf_in, ab_td2, ab_tm2, true_or, or_true]
  all_goals exact key
theorem lwe_41_1 (kq : ab_Run X 288 2374 (100, cl, sl) [ab_R (-1), ab_R 1, ab_R 355, ab_R 368, ab_I i, ab_I 1, ab_I b] [] υ Q) : ab_Run X 288 2309 (100, cl, sl) [ab_R (-1), ab_R 1, ab_R 355, ab_R 368, ab_I i, ab_I 1, ab_I b] (ab_psh (some (ab_I 1)) []) υ Q := by
  simp (disch := omega) only [rL_law_2309, rL_law_2311, rL_law_2314, rL_law_2315, rL_law_2316, rL_law_2318, rL_law_2321, rL_law_2322, rL_law_2323, rL_law_2324, rL_law_2326, rL_law_2327, rL_law_2328, rL_law_2331, rL_law_2332, rL_law_2333, ne_eq, not_false_eq_true, not_true_eq_false, true_and, and_true, and_self, true_imp_iff, false_imp_iff, imp_self, Bool.not_false, Bool.not_true, reduceCtorEq, ab_isJ, ab_psh, ab_cats, Bool.false_eq_true, if_true, if_false, ab_shf, ab_shw, Int.le_refl, Classical.not_not, Int.zero_add, forall_const, ↓ab_itT, ↓ab_itF, ab_anT, ab_w32_id, ab_rdf_ne, ab_rdw_ne, ab_rdw_eq, ab_rdf_in, ab_td2, ab_tm2, true_or, or_true]
  all_goals exact kq
theorem lwe_41_0 (g : ab_Geo υ) (e : ab_rd υ 368 0 = b) (kq : ab_Run X 288 2374 (100, cl, sl) [ab_R (-1), ab_R 1, ab_R 355, ab_R 368, ab_I i, ab_I 0, ab_I b] [] υ Q) : ab_Run X 288 2309 (100, cl, sl) [ab_R (-1), ab_R 1, ab_R 355, ab_R 368, ab_I i, ab_I 0, ab_I b] (ab_psh (some (ab_I 0)) []) υ Q := by
  simp (disch := omega) only [rL_law_2309, rL_law_2311, rL_law_2314, rL_law_2315, rL_law_2316, rL_law_2318, rL_law_2321, rL_law_2322, rL_law_2323, rL_law_2324, rL_law_2326, rL_law_2327, rL_law_2328, rL_law_2331, rL_law_2332, rL_law_2333, gS_368, g, e, ne_eq, not_false_eq_true, not_true_eq_false, true_and, and_true, and_self, true_imp_iff, false_imp_iff, imp_self, Bool.not_false, Bool.not_true, reduceCtorEq, ab_isJ, ab_psh, ab_cats, Bool.false_eq_true, if_true, if_false, ab_shf, ab_shw, Int.le_refl, Classical.not_not, Int.zero_add, forall_const, ↓ab_itT, ↓ab_itF, ab_anT, ab_w32_id, ab_rdf_ne, ab_rdw_ne, ab_rdw_eq, ab_rdf_in, ab_td2, ab_tm2, true_or, or_true, Int.lt_irrefl, if_true, if_false]
  all_goals exact kq
theorem lw_41 (h : ax_J σ K κ v na pa nm pm ln tp) (hi : 0 ≤ i ∧ i + 9 ≤ X.1 ∧ X.1 ≤ 4608) (hb : 22 ≤ cl ∧ 244 ≤ sl) (kq : ∀ υ l5 l6, ax_E υ → ab_Run X 288 2374 (100, cl - 1, sl - 6) [ab_R (-1), ab_R 1, ab_R 355, ab_R 368, ab_I i, l5, l6] [] υ Q) : ab_Run X 288 2280 (100, cl, sl) [ab_R (-1), ab_R 1, ab_R 355, ab_R 368, ab_I i, l5, l6] [] σ Q := by
  have g := h.geo
  have g1 := g.1
  have h7 := h.1.1.1.2.1
  have hK := h.1.1.1.2.2.1.1
  have hv : K = 5 ∨ K = 329 := hK
  have e5 := h.1.1.1.2.2.1.2.2.1.1
  have n5 := h.1.1.1.2.2.2.1.1
  refine lws_41 g hi ?_
  have hl : ab_ledc σ 1 368 := by
    unfold ab_ledc
    rw [gP_1_1 g, gP_31_2 g, h7, e5, gS_1 g, gS_31 g, gS_34 g, gS_368 g, (g.kit hK).1]
    exact ⟨rfl, rfl, rfl, rfl, n5.1, n5.2, rfl, by decide⟩
  rw [rL_law_2288 hl (by omega) (by decide), cq_led h.1.1]
  rcases ew : ac_led κ v (X.2 (i + 1)) with _ | b
  · have J1 : ax_J (ab_new σ 50 0) K κ v na pa nm pm ln tp := h.g8 ⟨by rw [ab_nxn]; omega, by rw [ab_nxn]; omega, fun a ha => by rw [ab_shn, if_neg (by omega)], fun a f ha _ => by rw [ab_rdn, if_neg (by omega)]⟩
    refine lwm_41 J1.geo hi ((mq_led J1.1.2.1).2 ?_)
    rw [ew]
    have u2 : ab_Same ac_PM (ab_new σ 50 0) (ab_wr (ab_wr (ab_new σ 50 0) 355 0 0) 355 0 1) := (ab_Same.refl.wr (by unfold ac_PM; omega)).wr (by unfold ac_PM; omega)
    have J2 : ax_J (ab_wr (ab_wr (ab_new σ 50 0) 355 0 0) 355 0 1) K κ v na pa nm pm ln tp := by
      refine ⟨J1.1.m u2, ?_, ?_⟩
      · rw [ab_rdw_ne (by omega), ab_rdw_ne (by omega), ab_rdw_ne (by omega), ab_rdw_ne (by omega)]; exact J1.2.1
      · rw [ab_rdw_ne (by omega), ab_rdw_ne (by omega), ab_rdw_ne (by omega), ab_rdw_ne (by omega), ab_rdw_ne (by omega), ab_rdw_ne (by omega)]; exact J1.2.2
    exact lwt_41 J2.geo ((mq_thrown J2.geo ab_rdw_eq).2 (lwe_41_1 (kq _ _ _ ⟨_, _, _, _, _, _, _, _, _, J2⟩)))
  · have J1 : ax_J (ab_wr σ 368 0 b) K κ v na pa nm pm ln tp := by
      have u : ab_Same (fun a _ => a = 368) σ (ab_wr σ 368 0 b) := ab_Same.refl.wr rfl
      exact h.g8 u.g8
    refine lwm_41 J1.geo hi ((mq_led J1.1.2.1).2 ?_)
    rw [ew]
    have J2 := J1.m0
    refine lwt_41 J2.geo ((mq_thrown J2.geo ab_rdw_eq).2 (lwe_41_0 J2.geo ?_ (kq _ _ _ ⟨_, _, _, _, _, _, _, _, _, J2⟩)))
    rw [ab_rdw_ne (by omega), ab_rdw_eq]
end
