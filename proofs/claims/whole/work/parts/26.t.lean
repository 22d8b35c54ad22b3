/-! the law from its entry, over what the little machine comes to -/
theorem ab_Rep_0 {E : ab_E} {s : State} (h1 : ab_Eb E = s.heap.size) (h2 : ab_EH E = s.heap) : ab_Rep E (1, fun _ => (0, 0), fun _ _ => 0) s.heap := by
  refine ⟨Int.le_refl _, ?_, fun q _ => by rw [h2], fun z hz1 hz2 => ?_, fun z _ => rfl⟩
  · show s.heap.size = ab_Eb E + (1 - 1 : Int).toNat
    rw [h1]
    rfl
  · have hz2 : z < 1 := hz2
    omega
set_option maxHeartbeats 4000000 in
theorem ab_whole (hlaw : ∀ X : ab_X, 0 ≤ X.1 ∧ X.1 ≤ 4608 → ab_Run X 288 0 (100, 600000, 7000000) [ab_R (-1), ab_R 0, ab_R 0, ab_R 0, ab_R 0, ab_R 0, ab_R 0] [] (1, fun _ => (0, 0), fun _ _ => 0) (fun r _ => r = some (ab_I 1)))
    {p : Program} {e : Env} {s : State} {m : MethodId} {below : List Frame} {meth : Method} {c : Code} {l : Launch} (hl : l.stackTraces = false) {b L : Nat} {xs : Nat → Int32} (hL : L ≤ 4608) (C0 : lw_At p s m meth c b L xs) : W p l e room_1 s m #[Value.ref b] below meth c s.heap [] 0 0 (lw_Z below #[Value.ref b] s) (entryFrame m ([Value.ref b] : List Value).toArray 7) := by
  obtain ⟨hx, hb, hr, hml, hown, hts, hX, hbl, hlocks, hgv⟩ := C0
  obtain ⟨E, e1, e2, e3, e4, hK⟩ := ab_start hL hts (ab_nr_before hgv) hX hbl
  have h12 : ab_Sp12 l := ab_sp12
  obtain ⟨n, r, σ', hev, hr1⟩ := hlaw (ab_Xof E) ⟨by show (0 : Int) ≤ (ab_EL E : Int); omega, by show (ab_EL E : Int) ≤ 4608; rw [e4]; omega⟩
  subst hr1
  have F : ab_Fr E p s m #[Value.ref b] meth c 288 := ⟨hx, hb, hml, hown, fun w hw => hts w (List.mem_filter.mp hw).1, hK, hlocks, fun h => absurd h (by decide +kernel), hr⟩
  rw [lg_entry_eq]
  have hSR : ab_SR E [ab_R (-1)] [Value.ref b] := ⟨by show Value.ref b = .ref (ab_Es E); rw [e3], trivial⟩
  refine ab_sim h12 n E p e room_1 s m #[Value.ref b] below meth c (lw_Z below #[Value.ref b] s) 288 0 (100, 600000, 7000000) _ [] _ (some (ab_I 1)) σ' (Nat.le_refl _) (fun _ => ab_sp3 hl h12) F hev ?_ s.heap [] 0 0 _ [] ⟨ab_Rep_0 e1 e2, ab_ent_LR (n := 7) hSR (Nat.le_of_ble_eq_true rfl), trivial, fun q hq => (by cases hq), by decide, by decide, by decide, by decide⟩
  intro pc bdz H locs cells slots ls rst g1 g2 g3 g4 g5 hro
  have g3 : cells + bdz.2.1 ≤ 601024 := g3
  have g4 : slots + bdz.2.2 ≤ 7293034 := g4
  refine va_forget (fun q hq => by rw [← e1]; exact g2 q hq) (W.widen (k := 601024) (n := 7293034) (by omega) (by omega) ?_)
  rcases hro with ⟨kv, d1, hk, rfl, ht⟩ | ⟨kv, d1, hk, -⟩ | ⟨d1, hk, -⟩ | ⟨⟨h9, -⟩, -⟩
  · have hk1 : kv = 1 := by
      have h9 := Option.some.inj hk
      have h10 : (1 : Int) = kv.toInt := by simpa using h9
      exact ab_eq32.mpr (by rw [← h10]; rfl)
    subst hk1
    exact lw_ret hx hb hr hlocks d1
  · cases hk
  · cases hk
  · exact absurd h9 (by decide +kernel)
