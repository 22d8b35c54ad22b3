/-! THE LAW: what stands between two calls -/
def ax_H (σ : ab_S) (K : Int) (κ : ac_K) (v : Int → Int) (na : Int) (pa : Int → Int → Int) (nm : Int) (pm : Int → Int → Int) (ln : Int) (tp : Int → Int) : Prop := ac_CV σ K κ v na pa nm pm ∧ ac_MS σ κ v na pa nm pm ∧ ab_rd σ 2 1 = 334 - K ∧ ac_TC σ ln tp ∧ ac_TM σ ln tp ∧ (∀ i, -128 ≤ tp i ∧ tp i ≤ 127) ∧ (ab_rd σ 355 3 = 0 ∨ ab_rd σ 355 3 + 22 ≤ σ.1) ∧ ab_rd σ 2 2 = ab_rd σ 355 13 ∧ (κ 5 0 = 0 → κ = (fun _ _ => 0) ∧ v 17 = 0 ∧ na = 0 ∧ nm = 0) ∧ ac_KW κ
def ax_J (σ : ab_S) (K : Int) (κ : ac_K) (v : Int → Int) (na : Int) (pa : Int → Int → Int) (nm : Int) (pm : Int → Int → Int) (ln : Int) (tp : Int → Int) : Prop := ax_H σ K κ v na pa nm pm ln tp ∧ ab_rd σ 1 8 = ab_rd σ 355 1 ∧ (if ab_rd σ 1 8 = 4 then ab_rd σ 2 3 else -1) = ab_rd σ 355 2
def ax_E (σ : ab_S) : Prop := ∃ K κ v na pa nm pm ln tp, ax_J σ K κ v na pa nm pm ln tp
section
variable {X : ab_X} {σ τ υ : ab_S} {Q : Option ab_V → ab_S → Prop} {K na nm ln na' nm' ln' S T w : Int} {κ : ac_K} {v tp v' tp' : Int → Int} {pa pm pa' pm' : Int → Int → Int} {P R : Int → Int → Prop}
theorem ac_St.hi (h : ac_St σ S κ v) (hS : S ≤ 350) (hn : κ 5 0 ≤ 5) (e : ∀ a f, a ≤ 354 → ab_rd τ a f = ab_rd σ a f) : ac_St τ S κ v := by
  refine ⟨fun b b1 b2 => ?_, fun p p1 p2 => ?_, ?_⟩
  · rw [e _ _ (by omega), e _ _ (by omega), e _ _ (by omega)]; exact h.1 b b1 b2
  · rw [e _ _ (by omega)]; exact h.2.1 p p1 p2
  · rw [e _ _ (by omega)]; exact h.2.2
theorem ac_CV.hi (h : ac_CV σ K κ v na pa nm pm) (g : ab_Geo τ) (e : ∀ a f, a ≤ 354 → ab_rd τ a f = ab_rd σ a f) : ac_CV τ K κ v na pa nm pm := by
  obtain ⟨⟨h1, h2, h3, h4, h5⟩, hS, hV, hH, ha, hm⟩ := h
  have hv : K = 5 ∨ K = 329 := h3.1
  have n5 := h4.1
  have n6 := h4.2.1
  obtain ⟨q1, q2, q3, q4, q5, q6, q7, q8⟩ := hH
  refine ⟨⟨g, by rw [e _ _ (by omega), h2], h3.sameK n5.2 n6.2 (fun a f _ a2 => e a f (by omega)), h4, h5⟩, hS.hi (by omega) n5.2 e, hV, ⟨by rw [e _ _ (by omega)]; exact q1, by rw [e _ _ (by omega), q2], by rw [e _ _ (by omega), q3], q4, q5, fun i i1 i2 => ?_, fun i i1 i2 => ?_, fun S hS => ?_⟩, ha, hm⟩
  · rw [e 36 2 (by omega)]
    exact (q6 i i1 i2).hi (by omega) n5.2 e
  · exact (q7 i i1 i2).hi (by omega) n5.2 e
  · have b := ar_so_b hS
    intro k k1 k2
    rw [e _ _ (by omega)]
    exact q8 S hS k k1 k2
theorem ac_MS.lo (h : ac_MS σ κ v na pa nm pm) (g : ab_Geo τ) (hs : ab_Same P σ τ) (hp : ∀ a f, 355 ≤ a → ¬ P a f) : ac_MS τ κ v na pa nm pm := by
  obtain ⟨⟨g0, hN⟩, ⟨hV1, hV2⟩, hH⟩ := h
  have e : ∀ a f, 355 ≤ a → ab_rd τ a f = ab_rd σ a f := fun a f q => hs.2.2 a f (hp a f q)
  have hi : ∀ a f, 369 ≤ a → ¬ P a f := fun a f q => hp a f (by omega)
  refine ⟨⟨g, ?_⟩, ⟨fun k k1 k2 => by rw [e _ _ (by omega)]; exact hV1 k k1 k2, hV2⟩, ?_⟩
  · rcases hN with ⟨h1, h2⟩ | ⟨M, q1, q2, q3, q4, q5⟩
    · exact Or.inl ⟨by rw [e _ _ (by omega), h1], h2⟩
    · exact Or.inr ⟨M, g, by rw [e _ _ (by omega), q2], q3.same hs hi, q4.same q3.1 hs hi, q5⟩
  · obtain ⟨h1, h2, h3, h4, h5, h6⟩ := hH
    exact ⟨by rw [e _ _ (by omega), h1], by rw [e _ _ (by omega), h2], h3, h4, fun i k a1 a2 a3 a4 => by rw [e _ _ (by omega)]; exact h5 i k a1 a2 a3 a4, fun i k a1 a2 a3 a4 => by rw [e _ _ (by omega)]; exact h6 i k a1 a2 a3 a4⟩
theorem ac_PC_lo : ∀ a f, 355 ≤ a → ¬ ac_PC a f := fun a f h u => by unfold ac_PC at u; omega
theorem ac_PX_lo : ∀ a f, 355 ≤ a → ¬ ac_PX a f := fun a f h u => by unfold ac_PX ac_PC ac_PK ac_PS at u; omega
theorem ac_PM_up : ∀ a f, a ≤ 354 → ¬ ac_PM a f := fun a f h u => by unfold ac_PM at u; omega
theorem ac_PY_up : ∀ a f, a ≤ 354 → ¬ ac_PY a f := fun a f h u => by unfold ac_PY ac_PM at u; omega
theorem ax_J.geo (h : ax_J σ K κ v na pa nm pm ln tp) : ab_Geo σ := h.1.1.1.1
theorem ax_H.geo (h : ax_H σ K κ v na pa nm pm ln tp) : ab_Geo σ := h.1.1.1
theorem ax_H.n5 (h : ax_H σ K κ v na pa nm pm ln tp) : κ 5 0 ≤ 5 := h.1.1.2.2.2.1.1.2
theorem ax_H.k0 (h : ax_H σ K κ v na pa nm pm ln tp) (f : Int) : κ 5 0 = 0 → κ f 0 = 0 := fun u => by rw [(h.2.2.2.2.2.2.2.2.1 u).1]
/-- a question to the class -/
theorem ax_J.c (h : ax_J σ K κ v na pa nm pm ln tp) (u : ab_Same ac_PC σ τ) : ax_H τ K κ v na pa nm pm ln tp := by
  obtain ⟨⟨h1, h2, h3, ⟨t1, t2, t3⟩, ⟨m1, m2, m3⟩, hb, hA, h13, h0, hW⟩, -, -⟩ := h
  have hC := h1.sameC u
  have lo := ac_PC_lo
  refine ⟨hC, h2.lo hC.1.1 u ac_PC_lo, by rw [u.2.2 2 1 (by unfold ac_PC; omega), h3], ⟨by rw [u.2.2 3 1 (by unfold ac_PC; omega), t1], t2, fun i i1 i2 => by rw [u.2.2 4 i (by unfold ac_PC; omega)]; exact t3 i i1 i2⟩, ⟨by rw [u.2.2 355 6 (lo _ _ (by omega)), m1], m2, fun i i1 i2 => by rw [u.2.2 356 i (lo _ _ (by omega))]; exact m3 i i1 i2⟩, hb, by rw [u.2.2 355 3 (lo _ _ (by omega)), u.1]; exact hA, by rw [u.2.2 2 2 (by unfold ac_PC; omega), u.2.2 355 13 (lo _ _ (by omega)), h13], h0, hW⟩
theorem ax_H.m (h : ax_H σ K κ v na pa nm pm ln tp) (u : ab_Same ac_PM σ τ) : ax_H τ K κ v na pa nm pm ln tp := by
  obtain ⟨h1, h2, h3, ⟨t1, t2, t3⟩, ⟨m1, m2, m3⟩, hb, hA, h13, h0, hW⟩ := h
  have hM := h2.same u
  have e : ∀ a f, a ≤ 354 → ab_rd τ a f = ab_rd σ a f := fun a f q => u.2.2 a f (ac_PM_up a f q)
  refine ⟨h1.hi hM.1.1 e, hM, by rw [e _ _ (by omega), h3], ⟨by rw [e _ _ (by omega), t1], t2, fun i i1 i2 => by rw [e _ _ (by omega)]; exact t3 i i1 i2⟩, ⟨by rw [u.2.2 355 6 (by unfold ac_PM; omega), m1], m2, fun i i1 i2 => by rw [u.2.2 356 i (by unfold ac_PM; omega)]; exact m3 i i1 i2⟩, hb, by rw [u.2.2 355 3 (by unfold ac_PM; omega), u.1]; exact hA, by rw [e _ _ (by omega), u.2.2 355 13 (by unfold ac_PM; omega), h13], h0, hW⟩
/-- and to the reference: the same trouble, not a fault -/
theorem ax_H.q (h : ax_H τ K κ v na pa nm pm ln tp) (e1 : ab_rd τ 1 8 = T) (hT : T ≠ 4) (u : ab_Same ac_PM τ υ) (f1 : ab_rd υ 355 1 = T) (f2 : ab_rd υ 355 2 = -1) : ax_J υ K κ v na pa nm pm ln tp := by
  have e : ab_rd υ 1 8 = T := by rw [u.2.2 1 8 (ac_PM_up _ _ (by omega)), e1]
  exact ⟨h.m u, by rw [e, f1], by rw [e, if_neg hT, f2]⟩
/-- thrown alone -/
theorem ax_J.m0 (h : ax_J σ K κ v na pa nm pm ln tp) : ax_J (ab_wr σ 355 0 0) K κ v na pa nm pm ln tp := by
  refine ⟨h.1.m ac_mq0, ?_, ?_⟩
  · rw [ab_rdw_ne (by omega), ab_rdw_ne (by omega)]; exact h.2.1
  · rw [ab_rdw_ne (by omega), ab_rdw_ne (by omega), ab_rdw_ne (by omega)]; exact h.2.2
/-- an act on both sides -/
theorem ax_J.a (h : ax_J σ K κ v na pa nm pm ln tp) (u : ab_Same ac_PX σ τ) (e1 : ab_rd τ 1 8 = 0) (hC : ac_CV τ K κ v' na' pa' nm' pm') (u2 : ab_Same ac_PY τ υ) (f1 : ab_rd υ 355 1 = 0) (f2 : ab_rd υ 355 2 = -1) (hM : ac_MS υ κ v' na' pa' nm' pm') (h0' : κ 5 0 = 0 → v' 17 = 0 ∧ na' = 0 ∧ nm' = 0) : ax_J υ K κ v' na' pa' nm' pm' ln tp := by
  obtain ⟨⟨h1, h2, h3, ⟨t1, t2, t3⟩, ⟨m1, m2, m3⟩, hb, hA, h13, h0, hW⟩, -, -⟩ := h
  have e : ∀ a f, a ≤ 354 → ab_rd υ a f = ab_rd τ a f := fun a f q => u2.2.2 a f (ac_PY_up a f q)
  have e' : ∀ a f, 355 ≤ a → ¬ ac_PY a f → ab_rd υ a f = ab_rd σ a f := fun a f q w => by rw [u2.2.2 a f w, u.2.2 a f (ac_PX_lo a f q)]
  have e18 : ab_rd υ 1 8 = 0 := by rw [e _ _ (by omega), e1]
  refine ⟨⟨hC.hi hM.1.1 e, hM, by rw [e _ _ (by omega), u.2.2 2 1 (by unfold ac_PX ac_PC ac_PK ac_PS; omega), h3], ⟨by rw [e _ _ (by omega), u.2.2 3 1 (by unfold ac_PX ac_PC ac_PK ac_PS; omega), t1], t2, fun i i1 i2 => by rw [e _ _ (by omega), u.2.2 4 i (by unfold ac_PX ac_PC ac_PK ac_PS; omega)]; exact t3 i i1 i2⟩, ⟨by rw [e' 355 6 (by omega) (by unfold ac_PY ac_PM; omega), m1], m2, fun i i1 i2 => by rw [e' 356 i (by omega) (by unfold ac_PY ac_PM; omega)]; exact m3 i i1 i2⟩, hb, by rw [e' 355 3 (by omega) (by unfold ac_PY ac_PM; omega), u2.1, u.1]; exact hA, by rw [e _ _ (by omega), u.2.2 2 2 (by unfold ac_PX ac_PC ac_PK ac_PS; omega), e' 355 13 (by omega) (by unfold ac_PY ac_PM; omega), h13], fun q => ⟨(h0 q).1, h0' q⟩, hW⟩, by rw [e18, f1], by rw [e18, f2]; rfl⟩
theorem ax_J.msx (h : ax_J σ K κ v na pa nm pm ln tp) (u : ab_Same ac_PX σ τ) (g : ab_Geo τ) : ac_MS τ κ v na pa nm pm := h.1.2.1.lo g u ac_PX_lo
end
