theorem ac_KC.same {σ τ : ab_S} {K : Int} {κ : ac_K} (h : ac_KC σ K κ) (hn : κ 5 0 ≤ 5) (hn6 : κ 6 0 ≤ 6) (hs : ab_Same ac_PC σ τ) : ac_KC τ K κ := by
  obtain ⟨hK, ⟨r0, r1, r2, r3, r4⟩, ⟨n0, n1, n2, n3, n4, n5⟩, hb, hp, hi⟩ := h
  have hv : K = 5 ∨ K = 329 := hK
  have e : ∀ a f, a ≠ 1 → (a < 134 ∨ 328 < a) → ab_rd τ a f = ab_rd σ a f := fun a f h1 h2 => hs.2.2 a f (by unfold ac_PC; omega)
  refine ⟨hK, ⟨?_, ?_, ?_, ?_, ?_⟩, ⟨?_, ?_, ?_, ?_, ?_, ?_⟩, ?_, ?_, ?_⟩
  · rw [e _ _ (by omega) (by omega), r0]
  · rw [e _ _ (by omega) (by omega), r1]
  · rw [e _ _ (by omega) (by omega), r2]
  · rw [e _ _ (by omega) (by omega), r3]
  · rw [e _ _ (by omega) (by omega), r4]
  · rw [e _ _ (by omega) (by omega), n0]
  · rw [e _ _ (by omega) (by omega), n1]
  · rw [e _ _ (by omega) (by omega), n2]
  · rw [e _ _ (by omega) (by omega), n3]
  · rw [e _ _ (by omega) (by omega), n4]
  · rw [e _ _ (by omega) (by omega), n5]
  · intro b b1 b2
    obtain ⟨q1, q2, q3⟩ := hb b b1 b2
    refine ⟨?_, ?_, fun arm ha => ⟨?_, fun i i1 i2 => ?_⟩⟩
    · rw [e _ _ (by omega) (by omega), q1]
    · rw [e _ _ (by omega) (by omega), q2]
    · rw [e _ _ (by omega) (by omega), (q3 arm ha).1]
    · rw [e _ _ (by omega) (by omega), (q3 arm ha).2 i i1 i2]
  · intro p p1 p2
    have e' : ∀ f, ab_rd τ (K + 20 + p) f = ab_rd σ (K + 20 + p) f := fun f => e _ _ (by omega) (by omega)
    unfold ac_KCp
    rw [e', e', e', e', e', e', e', e', e', e', e']
    exact hp p p1 p2
  · intro i i1 i2
    rw [e _ _ (by omega) (by omega), e _ _ (by omega) (by omega)]
    exact hi i i1 i2
