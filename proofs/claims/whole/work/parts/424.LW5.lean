/-! THE LAW: feed, kitchen, fault, where, size, trouble, led -/
section
variable {X : ab_X} {σ τ υ ω : ab_S} {Q : Option ab_V → ab_S → Prop} {i K na nm ln S A b x : Int} {κ : ac_K} {v tp : Int → Int} {pa pm : Int → Int → Int} {cl sl : Nat} {l5 l6 : ab_V} {P : Int → Int → Prop}
theorem ac_St.hm (h : ac_St σ S κ v) (hS : 5 ≤ S ∧ S ≤ 350) (hn : κ 5 0 ≤ 5) (e : ∀ a f, 5 ≤ a → a ≤ 354 → ab_rd τ a f = ab_rd σ a f) : ac_St τ S κ v := by
  refine ⟨fun b b1 b2 => ?_, fun p p1 p2 => ?_, ?_⟩
  · rw [e _ _ (by omega) (by omega), e _ _ (by omega) (by omega), e _ _ (by omega) (by omega)]; exact h.1 b b1 b2
  · rw [e _ _ (by omega) (by omega)]; exact h.2.1 p p1 p2
  · rw [e _ _ (by omega) (by omega)]; exact h.2.2
theorem ac_CV.hm (h : ac_CV σ K κ v na pa nm pm) (g : ab_Geo τ) (e17 : ab_rd τ 1 7 = ab_rd σ 1 7) (e : ∀ a f, 5 ≤ a → a ≤ 354 → ab_rd τ a f = ab_rd σ a f) : ac_CV τ K κ v na pa nm pm := by
  obtain ⟨⟨h1, h2, h3, h4, h5⟩, hS, hV, hH, ha, hm⟩ := h
  have hv : K = 5 ∨ K = 329 := h3.1
  have n5 := h4.1
  have n6 := h4.2.1
  obtain ⟨q1, q2, q3, q4, q5, q6, q7, q8⟩ := hH
  refine ⟨⟨g, by rw [e17, h2], h3.sameK n5.2 n6.2 (fun a f _ a2 => e a f (by omega) (by omega)), h4, h5⟩, hS.hm (by omega) n5.2 e, hV, ⟨by rw [e _ _ (by omega) (by omega)]; exact q1, by rw [e _ _ (by omega) (by omega), q2], by rw [e _ _ (by omega) (by omega), q3], q4, q5, fun i i1 i2 => ?_, fun i i1 i2 => ?_, fun S hS => ?_⟩, ha, hm⟩
  · rw [e 36 2 (by omega) (by omega)]
    exact (q6 i i1 i2).hm (by omega) n5.2 e
  · exact (q7 i i1 i2).hm (by omega) n5.2 e
  · have b := ar_so_b hS
    intro k k1 k2
    rw [e _ _ (by omega) (by omega)]
    exact q8 S hS k k1 k2
theorem ar_G8.ms' (h : ar_G8 P σ τ) (hp : ∀ a f, 355 ≤ a → P a f → a = 356 ∨ a = 368 ∨ (a = 355 ∧ (f = 0 ∨ f = 6))) (gt : ab_Geo τ) (hS : ac_MS σ κ v na pa nm pm) (hA : ab_rd σ 355 3 = 0 ∨ ab_rd σ 355 3 + 22 ≤ σ.1) : ac_MS τ κ v na pa nm pm := by
  obtain ⟨⟨g, hN⟩, ⟨hV1, hV2⟩, hH⟩ := hS
  have g1 := g.1
  have e : ∀ a f, 355 ≤ a → a < 369 → a ≠ 356 → a ≠ 368 → (a = 355 → f ≠ 0 ∧ f ≠ 6) → ab_rd τ a f = ab_rd σ a f := fun a f a1 a2 a3 a4 a5 => h.2.2.2 a f (by omega) (fun u => by have := hp a f a1 u; omega)
  have e3 : ab_rd τ 355 3 = ab_rd σ 355 3 := e _ _ (by omega) (by omega) (by omega) (by omega) (by omega)
  have hi : ∀ a f, 369 ≤ a → ¬ P a f := fun a f h1 u => by have := hp a f (by omega) u; omega
  refine ⟨⟨gt, ?_⟩, ⟨fun k k1 k2 => by rw [e 357 k (by omega) (by omega) (by omega) (by omega) (by omega)]; exact hV1 k k1 k2, hV2⟩, ?_⟩
  · rcases hN with ⟨h1, h2⟩ | ⟨M, q1, q2, q3, q4, q5⟩
    · exact Or.inl ⟨by rw [e3, h1], h2⟩
    · have qM := q3.1
      exact Or.inr ⟨M, gt, by rw [e3, q2], h.mg q3 (by omega) hi, h.km q4 qM (by omega) hi, q5⟩
  · obtain ⟨h1, h2, h3, h4, h5, h6⟩ := hH
    exact ⟨by rw [e _ _ (by omega) (by omega) (by omega) (by omega) (by omega), h1], by rw [e _ _ (by omega) (by omega) (by omega) (by omega) (by omega), h2], h3, h4, fun i k a1 a2 a3 a4 => by rw [e _ _ (by omega) (by omega) (by omega) (by omega) (by omega)]; exact h5 i k a1 a2 a3 a4, fun i k a1 a2 a3 a4 => by rw [e _ _ (by omega) (by omega) (by omega) (by omega) (by omega)]; exact h6 i k a1 a2 a3 a4⟩
theorem ab_Same.g8 (h : ab_Same P σ τ) : ar_G8 P σ τ := ⟨by rw [h.1]; omega, by rw [h.1]; omega, fun a _ => by rw [h.2.1], fun a f _ u => h.2.2 a f u⟩
/-- the law's own cells -/
theorem ax_J.g8 (h : ax_J σ K κ v na pa nm pm ln tp) (G : ar_G8 (fun a _ => a = 368) σ τ) : ax_J τ K κ v na pa nm pm ln tp := by
  have g := h.geo
  have g1 := g.1
  have gt : ab_Geo τ := G.geo g (fun a f _ _ _ u => by obtain rfl := u; exact ab_pt_nil rfl)
  obtain ⟨⟨h1, h2, h3, ⟨t1, t2, t3⟩, ⟨m1, m2, m3⟩, hb, hA, h13, h0, hW⟩, hx, hy⟩ := h
  have e : ∀ a f, a ≤ 367 → ab_rd τ a f = ab_rd σ a f := fun a f q => G.2.2.2 a f (by omega) (by omega)
  have G1 := G.1
  refine ⟨⟨h1.hi gt (fun a f q => e a f (by omega)), G.ms' (fun a f _ u => Or.inr (Or.inl u)) gt h2 hA, by rw [e _ _ (by omega), h3], ⟨by rw [e _ _ (by omega), t1], t2, fun i i1 i2 => by rw [e _ _ (by omega)]; exact t3 i i1 i2⟩, ⟨by rw [e _ _ (by omega), m1], m2, fun i i1 i2 => by rw [e _ _ (by omega)]; exact m3 i i1 i2⟩, hb, by rw [e _ _ (by omega)]; omega, by rw [e _ _ (by omega), e _ _ (by omega), h13], h0, hW⟩, by rw [e _ _ (by omega), e _ _ (by omega), hx], by rw [e _ _ (by omega), e _ _ (by omega), e _ _ (by omega), hy]⟩
theorem lw_2 (h : ax_J σ K κ v na pa nm pm ln tp) (hi : 0 ≤ i ∧ i + 9 ≤ X.1 ∧ X.1 ≤ 4608) (kq : ∀ υ, ax_E υ → ab_Run X 288 2374 (100, cl, sl) [ab_R (-1), ab_R 1, ab_R 355, ab_R 368, ab_I i, l5, l6] [] υ Q) : ab_Run X 288 330 (100, cl, sl) [ab_R (-1), ab_R 1, ab_R 355, ab_R 368, ab_I i, l5, l6] [] σ Q := by
  refine lws_2 h.geo hi ((cq_fault h.geo rfl).2 ?_)
  refine lwm_2 h.geo hi ((mq_fault h.geo h.1.2.2.2.2.2.2.2.1.symm).2 ?_)
  exact lwe_2 (kq _ ⟨_, _, _, _, _, _, _, _, _, h.m0⟩)
theorem lw_3 (h : ax_J σ K κ v na pa nm pm ln tp) (hi : 0 ≤ i ∧ i + 9 ≤ X.1 ∧ X.1 ≤ 4608) (kq : ∀ υ, ax_E υ → ab_Run X 288 2374 (100, cl, sl) [ab_R (-1), ab_R 1, ab_R 355, ab_R 368, ab_I i, l5, l6] [] υ Q) : ab_Run X 288 343 (100, cl, sl) [ab_R (-1), ab_R 1, ab_R 355, ab_R 368, ab_I i, l5, l6] [] σ Q := by
  refine lws_3 h.geo hi ((cq_where h.geo).2 ?_)
  refine lwm_3 h.geo hi ((mq_where h.geo h.2.2.symm).2 ?_)
  exact lwe_3 (kq _ ⟨_, _, _, _, _, _, _, _, _, h.m0⟩)
theorem lw_42 (h : ax_J σ K κ v na pa nm pm ln tp) (hi : 0 ≤ i ∧ i + 9 ≤ X.1 ∧ X.1 ≤ 4608) (kq : ∀ υ, ax_E υ → ab_Run X 288 2374 (100, cl, sl) [ab_R (-1), ab_R 1, ab_R 355, ab_R 368, ab_I i, l5, l6] [] υ Q) : ab_Run X 288 2336 (100, cl, sl) [ab_R (-1), ab_R 1, ab_R 355, ab_R 368, ab_I i, l5, l6] [] σ Q := by
  refine lws_42 h.geo hi ((cq_size h.1.1 h.1.2.2.2.1).2 ?_)
  refine lwm_42 h.geo hi ((mq_size h.1.2.1 h.1.2.2.2.2.1 h.1.z0).2 ?_)
  exact lwe_42 (kq _ ⟨_, _, _, _, _, _, _, _, _, h.m0⟩)
theorem lw_43 (h : ax_J σ K κ v na pa nm pm ln tp) (hi : 0 ≤ i ∧ i + 9 ≤ X.1 ∧ X.1 ≤ 4608) (kq : ∀ υ, ax_E υ → ab_Run X 288 2374 (100, cl, sl) [ab_R (-1), ab_R 1, ab_R 355, ab_R 368, ab_I i, l5, l6] [] υ Q) : ab_Run X 288 2361 (100, cl, sl) [ab_R (-1), ab_R 1, ab_R 355, ab_R 368, ab_I i, l5, l6] [] σ Q := by
  refine lws_43 h.geo hi ((cq_trouble h.geo rfl).2 ?_)
  refine lwm_43 h.geo hi ((mq_trouble h.geo h.2.1.symm).2 ?_)
  exact lwe_43 (kq _ ⟨_, _, _, _, _, _, _, _, _, h.m0⟩)
theorem ac_ftp_b {x1 x2 x3 x4 x5 : Int} (hb : ∀ i, -128 ≤ tp i ∧ tp i ≤ 127) : ∀ i, -128 ≤ ac_ftp tp ln x1 x2 x3 x4 x5 i ∧ ac_ftp tp ln x1 x2 x3 x4 x5 i ≤ 127 := by
  intro i
  unfold ac_ftp
  by_cases q : ln ≤ i ∧ i < ln + 20
  · rw [if_pos q]
    unfold ac_fg ac_by
    have := ab_w8_rng (ab_ok32 (fun x y => x >>> (y &&& 31)) (ac_fx x1 x2 x3 x4 x5 (i - ln)) (24 - 8 * ((i - ln) % 4)))
    omega
  · rw [if_neg q]; exact hb i
theorem lw_0 (h : ax_J σ K κ v na pa nm pm ln tp) (hi : 0 ≤ i ∧ i + 9 ≤ X.1 ∧ X.1 ≤ 4608) (kq : ∀ υ, ax_E υ → ab_Run X 288 2374 (100, cl, sl) [ab_R (-1), ab_R 1, ab_R 355, ab_R 368, ab_I i, l5, l6] [] υ Q) : ab_Run X 288 232 (100, cl, sl) [ab_R (-1), ab_R 1, ab_R 355, ab_R 368, ab_I i, l5, l6] [] σ Q := by
  refine lws_0 h.geo hi (ca_feed h.geo h.1.2.2.2.1 (fun z => ?_) (fun z τ u1 t1 => ?_))
  · refine lwm_0 h.geo hi (ma_feed h.geo h.1.2.2.2.2.1 (fun z2 => ?_) (fun z2 => absurd z2 z))
    exact lwe_0 (kq _ ⟨_, _, _, _, _, _, _, _, _, h.m0⟩)
  · have gt := h.geo.same u1 ac_PA_pt
    have lo : ∀ a f, 355 ≤ a → ab_rd τ a f = ab_rd σ a f := fun a f q => u1.2.2 a f (by unfold ac_PA; omega)
    obtain ⟨⟨h1, h2, h3, h4, ⟨m1, m2, m3⟩, hb, hA, h13, h0, hW⟩, hx, hy⟩ := h
    have tm : ac_TM τ ln tp := ⟨by rw [lo _ _ (by omega), m1], m2, fun i i1 i2 => by rw [lo _ _ (by omega)]; exact m3 i i1 i2⟩
    refine lwm_0 gt hi (ma_feed gt tm (fun z2 => absurd z z2) (fun z2 υ u2 t2 => ?_))
    have gu := gt.same u2 ac_PFd_pt
    have e : ∀ a f, a ≤ 354 → ab_rd υ a f = ab_rd τ a f := fun a f q => u2.2.2 a f (by unfold ac_PFd; omega)
    have e' : ∀ a f, ¬ ac_PA a f → ¬ ac_PFd a f → ab_rd υ a f = ab_rd σ a f := fun a f q1 q2 => by rw [u2.2.2 a f q2, u1.2.2 a f q1]
    have hM1 : ac_MS τ κ v na pa nm pm := h2.lo gt u1 (fun a f q => by unfold ac_PA; omega)
    have hA1 : ab_rd τ 355 3 = 0 ∨ ab_rd τ 355 3 + 22 ≤ τ.1 := by rw [lo _ _ (by omega), u1.1]; exact hA
    have e2 : ∀ f, ab_rd υ 2 f = ab_rd σ 2 f := fun f => e' _ _ (by unfold ac_PA; omega) (by unfold ac_PFd; omega)
    have e1 : ∀ f, ab_rd υ 1 f = ab_rd σ 1 f := fun f => e' _ _ (by unfold ac_PA; omega) (by unfold ac_PFd; omega)
    have e3 : ∀ f, f ≠ 0 → f ≠ 6 → ab_rd υ 355 f = ab_rd σ 355 f := fun f f1 f2 => e' _ _ (by unfold ac_PA; omega) (by unfold ac_PFd; omega)
    refine lwe_0 (kq υ ⟨K, κ, v, na, pa, nm, pm, ln + 20, _, ⟨h1.hm gu (e1 7) (fun a f a1 a2 => e' a f (by unfold ac_PA; omega) (by unfold ac_PFd; omega)), u2.g8.ms' (fun a f a1 u => by unfold ac_PFd at u; omega) gu hM1 hA1, by rw [e2, h3], ⟨by rw [e _ _ (by omega)]; exact t1.1, t1.2.1, fun i i1 i2 => by rw [e _ _ (by omega)]; exact t1.2.2 i i1 i2⟩, t2, ac_ftp_b hb, by rw [e3 3 (by omega) (by omega), u2.1, u1.1]; exact hA, by rw [e2, e3 13 (by omega) (by omega), h13], h0, hW⟩, by rw [e1, e3 1 (by omega) (by omega), hx], by rw [e1, e2, e3 2 (by omega) (by omega), hy]⟩)
end
