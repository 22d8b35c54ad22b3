/-! THE LITTLE MACHINE'S STEPS ARE THE MACHINE'S. First the frame of a method, then the instructions that leave the heap alone. -/
/-- the tables' words that every call may use; those of nest mates -/
def ab_ws : List Cond := lw_tbl.filter goodWord
def ab_nest : Cond → Bool
  | .fieldLinkNest _ _ _ _ _ _ => true
  | .methodLinkNest _ _ _ _ => true
  | _ => false
def ab_nw : List Cond := lw_tbl.filter ab_nest
/-- array classes with their types -/
def ab_tys (E : ab_E) : List (ClassId × FieldType) := (List.range 9).map fun g => (ab_EA E g, ab_aty g)
/-- what the texts are, as the kit says it -/
def ab_sl : List Nat := ab_txt.map List.length
def ab_sb : List (List Int32) := ab_txt.map fun t => t.map Int32.ofInt
def ab_stx0 : List String := ["kitchen", "bends", "tough", "jerk", "thumb", "flaw", "bone", "person", "for", "won", "piece", "cheats", "left", "right", "hen", "goose", "boiled", "", "dry", "plain", "cook", "child", "cheat", "force", "hold", "wish", "fair", "no such bone"]
/-- what is known of the class tables, the script and the texts, at any state of the run -/
def ab_K (E : ab_E) (U : State) : Prop :=
  va_K (ab_ED E) ab_cl (ab_tys E) U ∧ (∀ w ∈ ab_nw, va_Nw w U) ∧ (∀ c ∈ [RX0, RX1, RX5, RX8], va_AO c U) ∧ va_Nw (.arrayOver (.array .int)) U ∧
  (∀ q ∈ ab_pS, vk_R (ab_cn (q.1 / 1000)) (q.1 % 1000) (ab_stx0.getD q.2 "") (ab_EK E q.2) U) ∧
  (vk_S 28 ab_sl ab_sb (ab_EK E) (ab_EV E) (fun q => ab_Eb E ≤ q) U (ab_EH E) ∧ va_Z "java/lang/String" "COMPACT_STRINGS" "Z" (.int 1) (fun q => ab_Eb E ≤ q) U (ab_EH E) ∧ vx_Zq Bundle.tN "UNASSIGNED_STACK" Bundle.steD (fun q => ab_Eb E ≤ q) U (ab_EH E) ∧ vx_Zq Bundle.tN "SUPPRESSED_SENTINEL" Bundle.listD (fun q => ab_Eb E ≤ q) U (ab_EH E) ∧ va_Zq "jdk/internal/util/Preconditions" "SIOOBE_FORMATTER" "Ljava/util/function/BiFunction;" (fun q => ab_Eb E ≤ q) U (ab_EH E) ∧ va_Nw (.castable "java/util/NoSuchElementException" "java/util/NoSuchElementException") U) ∧ va_X (ab_Es E) (ab_EL E) (ab_EX E) U (ab_EH E) ∧ ab_Es E < ab_Eb E ∧ (ab_EH E).size = ab_Eb E ∧ ab_EL E < 2 ^ 31
section S1
variable {E : ab_E} {p : Program} {l : Launch} {e : Env} {R : Room} {s : State} {m : MethodId} {args : Array Value} {below : List Frame} {meth : Method} {c : Code} {Q : State → Prop} {k : Nat}
/-- the frame of method k -/
def ab_Fr (E : ab_E) (p : Program) (s : State) (m : MethodId) (args : Array Value) (meth : Method) (c : Code) (k : Nat) : Prop :=
  p.tables.exec = Jvm.exec ∧ c.code = ab_code k ∧ c.maxLocals = ab_mx k ∧ s.vm.findClass (ab_cn (ab_ow k)) = some m.cls ∧ (∀ w ∈ ab_ws, w.before args s = true) ∧ ab_K E s ∧ meth.locks = false ∧ (ab_kd k = 2 → meth.name = "<init>") ∧ meth.sig.returnType = ab_rt k
/-- a place of the little machine, and one of the machine's that holds it -/
def ab_At (E : ab_E) (R : Room) (k : Nat) (bd : ab_B) (L st : List ab_V) (σ : ab_S) (H : Heap) (locs : List Loc) (cells slots : Nat) (ls : Array Slot) (rst : List Value) : Prop :=
  ab_Rep E σ H ∧ ab_LR E L ls (ab_mx k) ∧ ab_SR E st rst ∧ (∀ q ∈ locs, ab_Eb E ≤ q.base) ∧ cells + bd.2.1 ≤ R.cells ∧ slots + bd.2.2 ≤ R.slots ∧ bd.1 ≤ R.frames ∧ 100 * bd.1 ≤ R.locals
/-- from every such place the machine comes to Q -/
def ab_WP (E : ab_E) (p : Program) (l : Launch) (e : Env) (R : Room) (s : State) (m : MethodId) (args : Array Value) (below : List Frame) (meth : Method) (c : Code) (Q : State → Prop) (k pc : Nat) (bd : ab_B) (L st : List ab_V) (σ : ab_S) : Prop :=
  ∀ (H : Heap) (locs : List Loc) (cells slots : Nat) (ls : Array Slot) (rst : List Value), ab_At E R k bd L st σ H locs cells slots ls rst → W p l e R s m args below meth c H locs cells slots Q (F0 m pc ls rst)
/-- a step that pushes and pops -/
theorem ab_pure {pc pc' : Nat} {bd : ab_B} {L st st' : List ab_V} {σ : ab_S} (hop : ∀ (H : Heap) (locs : List Loc) (cells slots : Nat) (ls : Array Slot) (rst : List Value), ab_LR E L ls (ab_mx k) → ab_SR E st rst → ∃ rst', ab_SR E st' rst' ∧ (W p l e R s m args below meth c H locs cells slots Q (F0 m pc' ls rst') → W p l e R s m args below meth c H locs cells slots Q (F0 m pc ls rst)))
    (h : ab_WP E p l e R s m args below meth c Q k pc' bd L st' σ) : ab_WP E p l e R s m args below meth c Q k pc bd L st σ := by
  intro H locs cells slots ls rst ⟨h1, h2, h3, h4⟩
  obtain ⟨rst', h5, h6⟩ := hop H locs cells slots ls rst h2 h3
  exact h6 (h H locs cells slots ls rst' ⟨h1, h2, h5, h4⟩)
theorem ab_nx_inv {pc pc' : Nat} {bd bd' : ab_B} {L L' st st' : List ab_V} {σ σ' : ab_S} (h : ab_nx pc bd L st σ = some (.inl (pc', bd', L', st', σ'))) : pc = pc' ∧ bd = bd' ∧ L = L' ∧ st = st' ∧ σ = σ' := by
  unfold ab_nx at h
  cases h
  exact ⟨rfl, rfl, rfl, rfl, rfl⟩
theorem ab_i2_inv {f : Int → Int → Option ab_V} {pc : Nat} {bd : ab_B} {L st : List ab_V} {σ : ab_S} {q : ab_Q} (h : ab_i2 f pc bd L st σ = some q) : ∃ a b st' v, st = .inl b :: .inl a :: st' ∧ f a b = some v ∧ q = .inl (pc, bd, L, v :: st', σ) := by
  unfold ab_i2 at h
  split at h
  · rename_i b a st' 
    split at h
    · rename_i v hv
      refine ⟨a, b, st', v, rfl, hv, ?_⟩
      unfold ab_nx at h
      exact (Option.some.inj h).symm
    · cases h
  · cases h
theorem ab_j2_inv {f : Int → Int → Option ab_V} {pc : Nat} {bd : ab_B} {L st : List ab_V} {σ : ab_S} {q : ab_Q} (h : ab_j2 f pc bd L st σ = some q) : ∃ a b st' v, st = .inr (.inl b) :: .inr (.inl a) :: st' ∧ f a b = some v ∧ q = .inl (pc, bd, L, v :: st', σ) := by
  unfold ab_j2 at h
  split at h
  · rename_i b a st' 
    split at h
    · rename_i v hv
      refine ⟨a, b, st', v, rfl, hv, ?_⟩
      unfold ab_nx at h
      exact (Option.some.inj h).symm
    · cases h
  · cases h
theorem ab_s_i2 {f : Int → Int → Option ab_V} {pc pc1 pc' : Nat} {bd bd' : ab_B} {L st L' st' : List ab_V} {σ σ' : ab_S} (hop : ∀ (H : Heap) (locs : List Loc) (cells slots : Nat) (ls : Array Slot) (rest : List Value) (x y : Int32) (v : ab_V), f x.toInt y.toInt = some v → ∃ r, ab_VR E v r ∧ (W p l e R s m args below meth c H locs cells slots Q (F0 m pc1 ls (r :: rest)) → W p l e R s m args below meth c H locs cells slots Q (F0 m pc ls (.int y :: .int x :: rest))))
    (he : ab_i2 f pc1 bd L st σ = some (.inl (pc', bd', L', st', σ'))) (h : ab_WP E p l e R s m args below meth c Q k pc' bd' L' st' σ') : ab_WP E p l e R s m args below meth c Q k pc bd L st σ := by
  obtain ⟨a, b, st1, v, rfl, hf, hq⟩ := ab_i2_inv he
  cases hq
  refine ab_pure (fun H locs cells slots ls rst _ hs => ?_) h
  obtain ⟨y, r1, rfl, rfl, h1⟩ := ab_SR_I hs
  obtain ⟨x, r2, rfl, rfl, h2⟩ := ab_SR_I h1
  obtain ⟨r, g1, g2⟩ := hop H locs cells slots ls r2 x y v hf
  exact ⟨r :: r2, ⟨g1, h2⟩, g2⟩
theorem ab_s_j2 {f : Int → Int → Option ab_V} {pc pc1 pc' : Nat} {bd bd' : ab_B} {L st L' st' : List ab_V} {σ σ' : ab_S} (hop : ∀ (H : Heap) (locs : List Loc) (cells slots : Nat) (ls : Array Slot) (rest : List Value) (x y : Int64) (v : ab_V), f x.toInt y.toInt = some v → ∃ r, ab_VR E v r ∧ (W p l e R s m args below meth c H locs cells slots Q (F0 m pc1 ls (r :: rest)) → W p l e R s m args below meth c H locs cells slots Q (F0 m pc ls (.long y :: .long x :: rest))))
    (he : ab_j2 f pc1 bd L st σ = some (.inl (pc', bd', L', st', σ'))) (h : ab_WP E p l e R s m args below meth c Q k pc' bd' L' st' σ') : ab_WP E p l e R s m args below meth c Q k pc bd L st σ := by
  obtain ⟨a, b, st1, v, rfl, hf, hq⟩ := ab_j2_inv he
  cases hq
  refine ab_pure (fun H locs cells slots ls rst _ hs => ?_) h
  obtain ⟨y, r1, rfl, rfl, h1⟩ := ab_SR_J hs
  obtain ⟨x, r2, rfl, rfl, h2⟩ := ab_SR_J h1
  obtain ⟨r, g1, g2⟩ := hop H locs cells slots ls r2 x y v hf
  exact ⟨r :: r2, ⟨g1, h2⟩, g2⟩
theorem ab_s_push {pc pc1 pc' : Nat} {bd bd' : ab_B} {L st L' st' : List ab_V} {σ σ' : ab_S} {v : ab_V} {r : Value} (hv : ab_VR E v r) (hop : ∀ (H : Heap) (locs : List Loc) (cells slots : Nat) (ls : Array Slot) (rest : List Value), W p l e R s m args below meth c H locs cells slots Q (F0 m pc1 ls (r :: rest)) → W p l e R s m args below meth c H locs cells slots Q (F0 m pc ls rest))
    (he : ab_nx pc1 bd L (v :: st) σ = some (.inl (pc', bd', L', st', σ'))) (h : ab_WP E p l e R s m args below meth c Q k pc' bd' L' st' σ') : ab_WP E p l e R s m args below meth c Q k pc bd L st σ := by
  obtain ⟨rfl, rfl, rfl, rfl, rfl⟩ := ab_nx_inv he
  exact ab_pure (st' := v :: st) (fun H locs cells slots ls rst _ hs => ⟨r :: rst, And.intro hv hs, hop H locs cells slots ls rst⟩) h
theorem ab_s_ld {t i pc pc1 pc' : Nat} {bd bd' : ab_B} {L st L' st' : List ab_V} {σ σ' : ab_S} 
    (hI : t = 0 → ∀ (H : Heap) (locs : List Loc) (cells slots : Nat) (ls : Array Slot) (rest : List Value) (x : Int32), ls[i]? = some (.val (.int x)) → W p l e R s m args below meth c H locs cells slots Q (F0 m pc1 ls (.int x :: rest)) → W p l e R s m args below meth c H locs cells slots Q (F0 m pc ls rest))
    (hJ : t = 1 → ∀ (H : Heap) (locs : List Loc) (cells slots : Nat) (ls : Array Slot) (rest : List Value) (x : Int64), ls[i]? = some (.val (.long x)) → W p l e R s m args below meth c H locs cells slots Q (F0 m pc1 ls (.long x :: rest)) → W p l e R s m args below meth c H locs cells slots Q (F0 m pc ls rest))
    (hR : t = 2 → ∀ (H : Heap) (locs : List Loc) (cells slots : Nat) (ls : Array Slot) (rest : List Value) (x : Nat), ls[i]? = some (.val (.ref x)) → W p l e R s m args below meth c H locs cells slots Q (F0 m pc1 ls (.ref x :: rest)) → W p l e R s m args below meth c H locs cells slots Q (F0 m pc ls rest))
    (he : ab_ldx t i pc1 bd L st σ = some (.inl (pc', bd', L', st', σ'))) (h : ab_WP E p l e R s m args below meth c Q k pc' bd' L' st' σ') : ab_WP E p l e R s m args below meth c Q k pc bd L st σ := by
  unfold ab_ldx at he
  split at he
  · rename_i v hv
    obtain ⟨rfl, rfl, rfl, rfl, rfl⟩ := ab_nx_inv he
    refine ab_pure (fun H locs cells slots ls rst hL hs => ?_) h
    unfold ab_ld at hv
    split at hv
    · rename_i z hz
      cases hv
      obtain ⟨r, ⟨x, rfl, hx⟩, h2⟩ := ab_LR_at hL hz (fun q => by cases q)
      exact ⟨.int x :: rst, ⟨⟨x, rfl, hx⟩, hs⟩, hI rfl H locs cells slots ls rst x h2⟩
    · rename_i z hz
      cases hv
      obtain ⟨r, ⟨x, rfl, hx⟩, h2⟩ := ab_LR_at hL hz (fun q => by cases q)
      exact ⟨.long x :: rst, ⟨⟨x, rfl, hx⟩, hs⟩, hJ rfl H locs cells slots ls rst x h2⟩
    · rename_i z hz
      split at hv
      · cases hv
      · rename_i h0
        cases hv
        obtain ⟨r, hr, h2⟩ := ab_LR_at hL hz (fun q => h0 (by cases q; rfl))
        have hr : r = ab_rr E z := hr
        have hx : ∃ x : Nat, ab_rr E z = .ref x := by
          unfold ab_rr
          rw [if_neg h0]
          split
          · exact ⟨_, rfl⟩
          · split <;> exact ⟨_, rfl⟩
        obtain ⟨x, hx⟩ := hx
        rw [hr, hx] at h2
        refine ⟨ab_rr E z :: rst, ⟨rfl, hs⟩, ?_⟩
        rw [hx]
        exact hR rfl H locs cells slots ls rst x h2
    · cases hv
  · cases he
theorem ab_rr_ref {z : Int} (h0 : z ≠ 0) : ∃ x : Nat, ab_rr E z = .ref x := by
  unfold ab_rr
  rw [if_neg h0]
  split
  · exact ⟨_, rfl⟩
  · split <;> exact ⟨_, rfl⟩
theorem ab_s_st {t i pc pc1 pc' : Nat} {bd bd' : ab_B} {L st L' st' : List ab_V} {σ σ' : ab_S} 
    (hI : t = 0 → ∀ (H : Heap) (locs : List Loc) (cells slots : Nat) (ls : Array Slot) (rest : List Value) (x : Int32) (lv lv' : List (Nat × Value)), lv_has ls (ab_mx k) lv → i < ab_mx k → ((i, Value.int x) :: lv.filter (fun q => !(q.1 == i) && !(q.1 + 1 == i && q.2.category == 2)) = lv') → (∀ ls' : Array Slot, lv_has ls' (ab_mx k) lv' → W p l e R s m args below meth c H locs cells slots Q (F0 m pc1 ls' rest)) → W p l e R s m args below meth c H locs cells slots Q (F0 m pc ls (.int x :: rest)))
    (hJ : t = 1 → ∀ (H : Heap) (locs : List Loc) (cells slots : Nat) (ls : Array Slot) (rest : List Value) (x : Int64) (lv lv' : List (Nat × Value)), lv_has ls (ab_mx k) lv → i + 1 < ab_mx k → ((i, Value.long x) :: lv.filter (fun q => !(q.1 == i) && (!(q.1 == i + 1) && !(q.1 + 1 == i && q.2.category == 2))) = lv') → (∀ ls' : Array Slot, lv_has ls' (ab_mx k) lv' → W p l e R s m args below meth c H locs cells slots Q (F0 m pc1 ls' rest)) → W p l e R s m args below meth c H locs cells slots Q (F0 m pc ls (.long x :: rest)))
    (hR : t = 2 → ∀ (H : Heap) (locs : List Loc) (cells slots : Nat) (ls : Array Slot) (rest : List Value) (x : Nat) (lv lv' : List (Nat × Value)), lv_has ls (ab_mx k) lv → i < ab_mx k → ((i, Value.ref x) :: lv.filter (fun q => !(q.1 == i) && !(q.1 + 1 == i && q.2.category == 2)) = lv') → (∀ ls' : Array Slot, lv_has ls' (ab_mx k) lv' → W p l e R s m args below meth c H locs cells slots Q (F0 m pc1 ls' rest)) → W p l e R s m args below meth c H locs cells slots Q (F0 m pc ls (.ref x :: rest)))
    (hN : t = 2 → ∀ (H : Heap) (locs : List Loc) (cells slots : Nat) (ls : Array Slot) (rest : List Value) (lv lv' : List (Nat × Value)), lv_has ls (ab_mx k) lv → i < ab_mx k → ((i, Value.null) :: lv.filter (fun q => !(q.1 == i) && !(q.1 + 1 == i && q.2.category == 2)) = lv') → (∀ ls' : Array Slot, lv_has ls' (ab_mx k) lv' → W p l e R s m args below meth c H locs cells slots Q (F0 m pc1 ls' rest)) → W p l e R s m args below meth c H locs cells slots Q (F0 m pc ls (.null :: rest)))
    (he : ab_stx t i pc1 bd L st σ = some (.inl (pc', bd', L', st', σ'))) (h : ab_WP E p l e R s m args below meth c Q k pc' bd' L' st' σ') : ab_WP E p l e R s m args below meth c Q k pc bd L st σ := by
  unfold ab_stx at he
  split at he
  · rename_i z st1
    split at he
    · rename_i hc
      obtain ⟨rfl, rfl, rfl, rfl, rfl⟩ := ab_nx_inv he
      intro H locs cells slots ls rst ⟨h1, ⟨hL, lv, h2, h3⟩, h4, h5⟩
      obtain ⟨x, r, rfl, hx, h6⟩ := ab_SR_I h4
      refine hI rfl H locs cells slots ls r x lv _ h2 (hL ▸ hc.1) rfl fun ls' hl' => ?_
      refine h H locs cells slots ls' r ⟨h1, ⟨by rw [List.length_set]; exact hL, _, hl', ?_⟩, h6, h5⟩
      exact ab_LR_set hL h3 hc.2 ⟨x, rfl, hx⟩
    · cases he
  · rename_i z st1
    split at he
    · rename_i hc
      obtain ⟨rfl, rfl, rfl, rfl, rfl⟩ := ab_nx_inv he
      intro H locs cells slots ls rst ⟨h1, ⟨hL, lv, h2, h3⟩, h4, h5⟩
      obtain ⟨x, r, rfl, hx, h6⟩ := ab_SR_J h4
      refine hJ rfl H locs cells slots ls r x lv _ h2 (hL ▸ hc.1) rfl fun ls' hl' => ?_
      refine h H locs cells slots ls' r ⟨h1, ⟨by rw [List.length_set, List.length_set]; exact hL, _, hl', ?_⟩, h6, h5⟩
      exact ab_LR_set2 hL h3 hc.2 ⟨x, rfl, hx⟩
    · cases he
  · rename_i z st1
    split at he
    · rename_i hc
      obtain ⟨rfl, rfl, rfl, rfl, rfl⟩ := ab_nx_inv he
      intro H locs cells slots ls rst ⟨h1, ⟨hL, lv, h2, h3⟩, h4, h5⟩
      obtain ⟨r, rfl, h6⟩ := ab_SR_R h4
      by_cases h0 : z = 0
      · subst h0
        have e0 : ab_rr E 0 = .null := rfl
        rw [e0]
        refine hN rfl H locs cells slots ls r lv _ h2 (hL ▸ hc.1) rfl fun ls' hl' => ?_
        refine h H locs cells slots ls' r ⟨h1, ⟨by rw [List.length_set]; exact hL, _, hl', ?_⟩, h6, h5⟩
        exact ab_LR_set hL h3 hc.2 e0.symm
      · obtain ⟨x, hx⟩ := ab_rr_ref (E := E) h0
        rw [hx]
        refine hR rfl H locs cells slots ls r x lv _ h2 (hL ▸ hc.1) rfl fun ls' hl' => ?_
        refine h H locs cells slots ls' r ⟨h1, ⟨by rw [List.length_set]; exact hL, _, hl', ?_⟩, h6, h5⟩
        exact ab_LR_set hL h3 hc.2 hx.symm
    · cases he
  · cases he
theorem ab_tg_inv {pc : Nat} {off : Int} {bd : ab_B} {L st : List ab_V} {σ : ab_S} {q : ab_Q} (h : ab_tg pc off bd L st σ = some q) : (pc : Int) + off = (((pc : Int) + off).toNat : Int) ∧ q = .inl (((pc : Int) + off).toNat, bd, L, st, σ) := by
  unfold ab_tg at h
  split at h
  · rename_i h0
    unfold ab_nx at h
    exact ⟨by omega, (Option.some.inj h).symm⟩
  · cases h
end S1
