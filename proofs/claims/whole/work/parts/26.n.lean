/-! what LongerHalf.led does, as the machine has it: it returns the number, or throws with one cell more -/
def ab_XL (E : ab_E) (r : Option ab_V) (σ : ab_S) : String → State → State → Prop := fun C _ t => C = ab_NE ∧ r = none ∧ ab_Rep E (ab_new σ 50 0) t.heap
def ab_QL (E : ab_E) (r : Option ab_V) (σ : ab_S) : Array Value → State → Outcome → State → Prop := fun a s o t => r ≠ none ∧ ab_Qc E r σ a s o t
theorem ab_Rep_50 {E : ab_E} {σ : ab_S} {H H' : Heap} (h : ab_Rep E σ H) (hsz : H'.size = H.size + 1) (ho : ∀ q, q < H.size → H'[q]? = H[q]?) : ab_Rep E (ab_new σ 50 0) H' := by
  refine ab_Rep_new h hsz ho (Or.inr (Or.inr ?_))
  show (if σ.1 = σ.1 then (((50 : Int), (0 : Int)) : Int × Int) else σ.2.1 σ.1).1 = 50
  rw [if_pos rfl]
theorem ab_Rep_same {E : ab_E} {σ : ab_S} {H H' : Heap} (h : ab_Rep E σ H) (h' : ab_Rep E σ H') : H'.size = H.size := by
  rw [h.2.1, h'.2.1]
set_option maxHeartbeats 4000000 in
theorem ab_led_met {l : Launch} (hl : l.stackTraces = false) {n : Nat} (hB : ab_SimB l n) {E : ab_E} {x i : Int} {rs : List Value} {σ : ab_S} {r : Option ab_V} (hev : ab_ev (ab_Xof E) n 121 0 (20, 1, 6) (ab_ent 4 [ab_R x, ab_I i]) [] σ = some (r, σ)) (hSR : ab_SR E [ab_R x, ab_I i] rs) :
    vx_Met l yX11_led (ab_W 121) (ab_rm (20, 1, 6)) (ab_Pc E rs σ) (ab_QL E r σ) (ab_XL E r σ) 1 6 (fun q => ab_Eb E ≤ q) := by
  refine vx_ofW (cc := ab_code 121) (maxL := ab_mx 121) (ret := ab_rt 121) (by decide) rfl ?_
  intro p e s m args below meth c s₁ B hml htab hv
  obtain ⟨rfl, hK, hRep⟩ := hv
  have hts := atoms_spec (ws := ab_W 121) B.pre
  have hown : s.vm.findClass RX11 = some m.cls := findClass_of_methodNamed B.named
  have hlocks := B.notSynchronized
  have hr := B.returns
  have hx := B.exec
  have hb := B.bytes
  have F : ab_Fr E p s m rs.toArray meth c 121 := ⟨hx, hb, hml, hown, fun w hw => hts w (List.mem_cons_of_mem _ hw), hK, hlocks, fun h => absurd h (by decide +kernel), hr⟩
  rw [lg_entry_eq]
  refine hB E p e _ s m rs.toArray below meth c _ 121 0 (20, 1, 6) _ [] σ r σ (by omega) (fun q => by have : ab_klaw = 288 := rfl; omega) F hev ?_ s.heap [] 0 0 _ [] ⟨hRep, ab_ent_LR hSR (Nat.le_of_ble_eq_true rfl), trivial, fun q hq => (by cases hq), Nat.le_of_eq (Nat.zero_add _), Nat.le_of_eq (Nat.zero_add _), Nat.le_refl _, Nat.le_refl _⟩
  intro pc bdz H locs cells slots ls rst g1 g2 g3 g4 g5 hro
  rcases hro with ⟨kv, d1, rfl, rfl, ht⟩ | ⟨kv, d1, rfl, rfl, ht⟩ | ⟨d1, rfl, rfl, ht⟩ | ⟨⟨-, rfl, hb1, hb2⟩, d1, rfl, rfl⟩
  · refine vx_ret (W.widen (k := 1) (n := 6) (Nat.le_trans (Nat.le_add_right _ _) g3) (Nat.le_trans (Nat.le_add_right _ _) g4) ?_)
    exact W.iret hx hb hr (fun t ht' hW => ⟨fun q => (by cases q), _, rfl, ⟨kv, rfl, rfl⟩, by rw [ht']; exact g1⟩) g2 d1
  · exact absurd ht (by decide +kernel)
  · exact absurd ht (by decide +kernel)
  · have g3 : cells + bdz.2.1 ≤ 1 := g3
    have g4 : slots + bdz.2.2 ≤ 6 := g4
    have hz := F.2.2.2.2.2.1.2.2.2.2.2.1
    have hkeep : ∀ a : Nat, a < (ab_EH E).size → ¬ (ab_Eb E ≤ a) → s.heap[a]? = (ab_EH E)[a]? := fun a _ h => hRep.2.2.1 a (by omega)
    have hS : va_S (fun q => ab_Eb E ≤ q) s.heap H locs := ⟨Nat.le_of_eq (ab_Rep_same hRep g1).symm, fun q _ hq => by
      have hq : ¬ (ab_Eb E ≤ q) := hq
      rw [g1.2.2.1 q (by omega), hRep.2.2.1 q (by omega)], g2⟩
    refine ab_throwSW hx hb hl ab_rx0 ab_rx1 ab_rx2 ab_rx5 (own := RX11) (cls := ab_NE) (text := ab_stx0.getD 27 "") (names := ab_nes) (ik := 376) (is := 378) (ic := 380) (sa := ab_EK E 27) (A := fun q => ab_Eb E ≤ q) hown jw_fit.1 jw_fit.2 (F.2.2.2.2.1 _ jw_ne) (F.2.2.2.2.1 _ jw_ni) (F.2.2.2.2.2.1.2.2.2.2.1 _ jw_txt) (jw_hat F.2.2.2.2.1 hz.2.2.2.2.2) jw_atg (hz.2.2.1.kept hkeep) (hz.2.2.2.1.kept hkeep) hS (g5.trans hml.symm) dX11_led_43 dX11_led_46 dX11_led_47 dX11_led_50 dX11_led_53 (fun z hz => (htab z hz).elim) (by decide) (by decide) (by show cells + 1 ≤ 1; omega) (by show slots + 6 ≤ 6; omega) hlocks ?_ g2 (by omega) (by omega)
    intro t _ h1 h2
    exact ⟨rfl, rfl, ab_Rep_50 g1 h1 h2⟩
