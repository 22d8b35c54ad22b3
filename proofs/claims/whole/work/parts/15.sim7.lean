/-! calls: what is known goes along; a method's entry; a call -/
theorem ab_AOA_moved {t : FieldType} {u U : State} (hvm : u.vm.Alike U.vm) (h : va_Nw (.arrayOver (.array t)) u) : va_Nw (.arrayOver (.array t)) U := by
  obtain ⟨comp, c, k, h1, h2, h3, h4, h5⟩ := arrayOverA_spec h
  obtain ⟨k', hk', he⟩ := hvm.2.2 _ _ h3
  have hi : (U.vm.classes.findIdx? fun (x : Class) => match x.kind with | .array component _ => component == comp | _ => false) = some c := by
    rw [hvm.findIdx?_eq _ (fun _ => rfl)]
    exact h2
  have hkind : k'.kind = .array comp (.array t) := by rw [he]; exact h4
  have f1 : U.vm.findClass (FieldType.array t).toString = some comp := by rw [hvm.findClass]; exact h1
  have f2 : U.vm.findClass ("[" ++ (FieldType.array t).toString) = some c := by rw [hvm.findClass]; exact h5
  unfold va_Nw Cond.before Cond.holds
  simp only [Cond.value]
  rw [f1, Option.bind_some]
  refine (congrArg (fun o : Option Nat => (o.bind (fun c => (U.vm.classes[c]?).map fun (k : Class) => match k.kind with | .array _ ty => decide (ty = FieldType.array t) && decide (U.vm.findClass ("[" ++ (FieldType.array t).toString) = some c) | _ => false) == some true)) hi).trans ?_
  simp [hk', hkind, f2]
theorem ab_K_warm {E : ab_E} {s U : State} (hW : s.WarmedH U.vm) (h : ab_K E s) : ab_K E U := by
  obtain ⟨h1, h2, h3, h4, h5, h6, h7, h8⟩ := h
  refine ⟨va_K.moved hW.alike h1, fun w hw => ?_, fun c hc => va_AO.moved hW.alike (h3 c hc), ab_AOA_moved hW.alike h4, fun q hq => vk_R.warm hW (h5 q hq), ⟨vk_S.moved hW.alike h6.1, va_Z.moved hW.alike h6.2.1, vx_Zq.moved hW.alike h6.2.2.1, vx_Zq.moved hW.alike h6.2.2.2.1, va_Zq.moved hW.alike h6.2.2.2.2.1, va_tabs (u := s.setVm U.vm) rfl rfl (by rw [Cond.castable_setVm hW.alike]; exact h6.2.2.2.2.2)⟩, va_X.moved hW.alike h7, h8⟩
  have h9 := h2 w hw
  have h10 := (List.mem_filter.mp hw).2
  cases w <;> first | (exact va_Nw.warmF hW h9) | (exact va_Nw.warmM hW h9) | (exact absurd h10 (by simp [ab_nest]))
theorem ab_args_len {E : ab_E} : ∀ {as : List ab_V} {rs : List Value}, ab_SR E as rs → (lg_sl rs).length = (ab_args as).length
  | [], [], _ => rfl
  | v :: l, r :: m, h => by
    have ih := ab_args_len h.2
    have hc := ab_VR_cat h.1
    unfold lg_sl at ih ⊢
    rw [List.flatMap_cons, List.length_append, ih]
    rw [show ab_args (v :: l) = if ab_isJ v = true then v :: ab_R 0 :: ab_args l else v :: ab_args l from rfl]
    by_cases hj : ab_isJ v = true
    · rw [if_pos hj] at hc
      rw [hc, if_pos rfl, if_pos hj]
      simp
      omega
    · rw [if_neg hj] at hc
      rw [hc, if_neg (by decide), if_neg hj]
      simp
      omega
theorem ab_args_in {E : ab_E} : ∀ {as : List ab_V} {rs : List Value} (i : Nat), ab_SR E as rs → ∀ (j : Nat) (v : ab_V), (ab_args as)[j]? = some v → v ≠ ab_R 0 → ∃ r, ab_VR E v r ∧ (i + j, r) ∈ lv_args i rs
  | [], [], _, _, j, v, hj, _ => by simp [ab_args] at hj
  | v0 :: l, r0 :: m, i, h, j, v, hj, hv => by
    have hc := ab_VR_cat h.1
    unfold ab_args at hj
    by_cases hJ : ab_isJ v0 = true
    · rw [if_pos hJ] at hj hc
      match j, hj with
      | 0, hj =>
        have e : v0 = v := by simpa using hj
        subst e
        exact ⟨r0, h.1, List.mem_cons_self⟩
      | 1, hj =>
        have e : ab_R 0 = v := by simpa using hj
        exact absurd e.symm hv
      | j + 2, hj =>
        obtain ⟨r, g1, g2⟩ := ab_args_in (i + 2) h.2 j v (by simpa using hj) hv
        refine ⟨r, g1, ?_⟩
        show (i + (j + 2), r) ∈ (i, r0) :: lv_args (if r0.category = 2 then i + 2 else i + 1) m
        rw [if_pos hc, show i + (j + 2) = i + 2 + j by omega]
        exact List.mem_cons_of_mem _ g2
    · rw [if_neg hJ] at hj hc
      match j, hj with
      | 0, hj =>
        have e : v0 = v := by simpa using hj
        subst e
        exact ⟨r0, h.1, List.mem_cons_self⟩
      | j + 1, hj =>
        obtain ⟨r, g1, g2⟩ := ab_args_in (i + 1) h.2 j v (by simpa using hj) hv
        refine ⟨r, g1, ?_⟩
        show (i + (j + 1), r) ∈ (i, r0) :: lv_args (if r0.category = 2 then i + 2 else i + 1) m
        rw [if_neg (by omega), show i + (j + 1) = i + 1 + j by omega]
        exact List.mem_cons_of_mem _ g2
theorem ab_ent_LR {E : ab_E} {as : List ab_V} {rs : List Value} {n : Nat} (h : ab_SR E as rs) (hn : (ab_args as).length ≤ n) : ab_LR E (ab_ent n as) ((lg_sl rs ++ List.replicate (n - (lg_sl rs).length) Slot.unset).toArray) n := by
  refine ⟨by unfold ab_ent; simp; omega, lv_args 0 rs, lv_entry rs (by rw [ab_args_len h]; exact hn), fun j v hj hv => ?_⟩
  unfold ab_ent at hj
  by_cases hl : j < (ab_args as).length
  · rw [List.getElem?_append_left hl] at hj
    obtain ⟨r, g1, g2⟩ := ab_args_in 0 h j v hj hv
    exact ⟨r, g1, by simpa using g2⟩
  · rw [List.getElem?_append_right (by omega)] at hj
    have hm := List.mem_of_getElem? hj
    exact absurd (List.eq_of_mem_replicate hm) hv
/-- what a method that returns leaves on the stack, and at which instruction -/
def ab_RO (E : ab_E) (bd : ab_B) (k pc : Nat) (r : Option ab_V) (rst : List Value) : Prop :=
  (∃ (kv : Int32), decode (ab_code k) pc = .ok (.ireturn, 1) ∧ r = some (ab_I kv.toInt) ∧ rst = [.int kv] ∧ (ab_rt k = some .int ∨ (ab_rt k = some .boolean ∧ (kv.toInt = 0 ∨ kv.toInt = 1)))) ∨
  (∃ (kv : Int64), decode (ab_code k) pc = .ok (.lreturn, 1) ∧ r = some (ab_J kv.toInt) ∧ rst = [.long kv] ∧ ab_rt k = some .long) ∨
  (decode (ab_code k) pc = .ok (.return_, 1) ∧ r = none ∧ rst = [] ∧ ab_rt k = none) ∨
  ((k = ab_kled ∧ pc = 43 ∧ 1 ≤ bd.2.1 ∧ 6 ≤ bd.2.2) ∧ decode (ab_code k) pc = .ok (.new 376, 3) ∧ r = none ∧ rst = [])
def ab_Ret (E : ab_E) (p : Program) (l : Launch) (e : Env) (R : Room) (s : State) (m : MethodId) (args : Array Value) (below : List Frame) (meth : Method) (c : Code) (Q : State → Prop) (k : Nat) (r : Option ab_V) (σ : ab_S) : Prop :=
  ∀ (pc : Nat) (bd : ab_B) (H : Heap) (locs : List Loc) (cells slots : Nat) (ls : Array Slot) (rst : List Value), ab_Rep E σ H → (∀ q ∈ locs, ab_Eb E ≤ q.base) → cells + bd.2.1 ≤ R.cells → slots + bd.2.2 ≤ R.slots → ls.size = ab_mx k → ab_RO E bd k pc r rst → W p l e R s m args below meth c H locs cells slots Q (F0 m pc ls rst)
/-- the answer of a call -/
def ab_OR (E : ab_E) : Option ab_V → Option Value → Prop
  | none, none => True
  | some v, some r => ab_VR E v r
  | _, _ => False
def ab_Pc (E : ab_E) (rs : List Value) (σ : ab_S) : Array Value → State → Prop := fun a U => a = rs.toArray ∧ ab_K E U ∧ ab_Rep E σ U.heap
def ab_Qc (E : ab_E) (r : Option ab_V) (σ : ab_S) : Array Value → State → Outcome → State → Prop := fun _ _ o t => ∃ rv, o = .returned rv ∧ ab_OR E r rv ∧ ab_Rep E σ t.heap
def ab_W (k : Nat) : List Cond := .code (ab_nm k) (ab_code k) (ab_mx k) (ab_rt k) :: ab_ws
def ab_rm (bd : ab_B) : Room := { frames := bd.1, cells := bd.2.1, slots := bd.2.2, locals := 100 * bd.1 }
theorem ab_blind {E : ab_E} {rs : List Value} {σ : ab_S} : FrameBlind (ab_Pc E rs σ) := fun a U g mk h => ⟨h.1, ab_K_warm (s := U) (U := U.calling g mk a) (State.WarmedH.refl U) h.2.1, h.2.2⟩
theorem ab_good {ws : List Cond} (h : ∀ w ∈ ws, w ∈ ab_ws) : GoodIn ab_ws ws := fun w hw => ⟨h w hw, good_of_word (List.mem_filter.mp (h w hw)).2⟩
def ab_ivk (kd i : Nat) : Instr := match kd with
  | 0 => .invokevirtual i
  | 1 => .invokestatic i
  | _ => .invokespecial i
/-- String's length and charAt, as the little machine has them -/
def ab_Sp12 (l : Launch) : Prop := ∀ (E : ab_E) (p : Program) (e : Env) (R : Room) (s : State) (m : MethodId) (args : Array Value) (below : List Frame) (meth : Method) (c : Code) (Q : State → Prop) (k pc kd i y n : Nat) (bd : ab_B) (L st : List ab_V) (σ : ab_S) (pc' : Nat) (bd' : ab_B) (L' st' : List ab_V) (σ' : ab_S),
  ab_Fr E p s m args meth c k → i < 1000 → ab_mth k i = some (y, n) → (y = 1001 ∨ y = 1002) → decode (ab_code k) pc = .ok (ab_ivk kd i, 3) → ab_inv kd k pc i bd L st σ = some (.inl (pc', bd', L', st', σ')) → ab_WP E p l e R s m args below meth c Q k pc' bd' L' st' σ' → ab_WP E p l e R s m args below meth c Q k pc bd L st σ
/-- the law's own led, likewise -/
def ab_Sp3 (l : Launch) : Prop := ∀ (E : ab_E) (p : Program) (e : Env) (R : Room) (s : State) (m : MethodId) (args : Array Value) (below : List Frame) (meth : Method) (c : Code) (Q : State → Prop) (k pc kd i n : Nat) (bd : ab_B) (L st : List ab_V) (σ : ab_S) (pc' : Nat) (bd' : ab_B) (L' st' : List ab_V) (σ' : ab_S),
  ab_Fr E p s m args meth c k → i < 1000 → ab_mth k i = some (1003, n) → decode (ab_code k) pc = .ok (ab_ivk kd i, 3) → ab_inv kd k pc i bd L st σ = some (.inl (pc', bd', L', st', σ')) → ab_WP E p l e R s m args below meth c Q k pc' bd' L' st' σ' → ab_WP E p l e R s m args below meth c Q k pc bd L st σ
/-- the body of method y is the machine's, so far n steps go -/
def ab_SimB (l : Launch) (n : Nat) : Prop := ∀ (E : ab_E) (p : Program) (e : Env) (R : Room) (s : State) (m : MethodId) (args : Array Value) (below : List Frame) (meth : Method) (c : Code) (Q : State → Prop) (k pc : Nat) (bd : ab_B) (L st : List ab_V) (σ : ab_S) (r : Option ab_V) (σ' : ab_S),
  k ≤ 288 → (k = ab_klaw → ab_Sp3 l) → ab_Fr E p s m args meth c k → ab_ev (ab_Xof E) n k pc bd L st σ = some (r, σ') → ab_Ret E p l e R s m args below meth c Q k r σ' → ab_WP E p l e R s m args below meth c Q k pc bd L st σ
set_option maxHeartbeats 4000000 in
theorem ab_metOf {l : Launch} {n : Nat} (hB : ab_SimB l n) {E : ab_E} {y : Nat} {as : List ab_V} {rs : List Value} {σ : ab_S} {r : Option ab_V} {σ' : ab_S} (hy : y < 288) (hne : y ≠ ab_kled) (hev : ab_ev (ab_Xof E) n y 0 (ab_bud y as) (ab_ent (ab_mx y) as) [] σ = some (r, σ')) (hSR : ab_SR E as rs) (hlen : (ab_args as).length ≤ ab_mx y) :
    Met l (ab_nm y) (ab_W y) (ab_rm (ab_bud y as)) (ab_Pc E rs σ) (ab_Qc E r σ') (ab_bud y as).2.1 (ab_bud y as).2.2 (fun q => ab_Eb E ≤ q) := by
  obtain ⟨v1, v2, v3, v4, v5, v6, v7, v8⟩ := ab_v_m y (List.mem_range.mpr hy)
  refine Met.ofW (cc := ab_code y) (maxL := ab_mx y) (ret := ab_rt y) v3 rfl ?_
  intro p e s m args below meth c s₁ B hml hv
  obtain ⟨rfl, hK, hRep⟩ := hv
  have hts := atoms_spec (ws := ab_W y) B.pre
  have hown : s.vm.findClass (ab_cn (ab_ow y)) = some m.cls := by rw [← v1]; exact findClass_of_methodNamed B.named
  have hlocks := B.notSynchronized
  have hr := B.returns
  have hx := B.exec
  have hb := B.bytes
  have F : ab_Fr E p s m rs.toArray meth c y := ⟨hx, hb, hml, hown, fun w hw => hts w (List.mem_cons_of_mem _ hw), hK, hlocks, fun h => by rw [(name_of_methodNamed B.named B.method).1]; exact v6 h, hr⟩
  rw [lg_entry_eq]
  refine hB E p e _ s m rs.toArray below meth c _ y 0 (ab_bud y as) _ [] σ r σ' (by omega) (fun q => by have : ab_klaw = 288 := rfl; omega) F hev ?_ s.heap [] 0 0 _ [] ⟨hRep, ab_ent_LR hSR hlen, trivial, fun q hq => (by cases hq), Nat.le_of_eq (Nat.zero_add _), Nat.le_of_eq (Nat.zero_add _), Nat.le_refl _, Nat.le_refl _⟩
  intro pc bdz H locs cells slots ls rst g1 g2 g3 g4 g5 hro
  refine W.widen (k := (ab_bud y as).2.1) (n := (ab_bud y as).2.2) (Nat.le_trans (Nat.le_add_right _ _) g3) (Nat.le_trans (Nat.le_add_right _ _) g4) ?_
  rcases hro with ⟨kv, d1, rfl, rfl, ht⟩ | ⟨kv, d1, rfl, rfl, ht⟩ | ⟨d1, rfl, rfl, ht⟩ | ⟨d1, -⟩
  · have hq : ∀ t : State, t.heap = H → s.WarmedH t.vm → ab_Qc E (some (ab_I kv.toInt)) σ' rs.toArray s (.returned (some (.int kv))) t := fun t ht' hW => ⟨_, rfl, ⟨kv, rfl, rfl⟩, by rw [ht']; exact g1⟩
    rcases ht with ht | ⟨ht, hz⟩
    · exact W.iret hx hb (by rw [hr, ht]) hq g2 d1
    · refine W.zret hx hb (by rw [hr, ht]) ?_ hq g2 d1
      rcases ab_bool rfl hz with e9 | e9 <;> rw [e9] <;> rfl
  · exact W.lret hx hb (by rw [hr, ht]) (fun t ht' hW => ⟨_, rfl, ⟨kv, rfl, rfl⟩, by rw [ht']; exact g1⟩) g2 d1
  · exact W.vret hx hb (by rw [hr, ht]) (fun t ht' hW => ⟨_, rfl, trivial, by rw [ht']; exact g1⟩) g2 d1
  · exact absurd d1.1 hne
section S7
variable {E : ab_E} {p : Program} {l : Launch} {e : Env} {R : Room} {s : State} {m : MethodId} {args : Array Value} {below : List Frame} {meth : Method} {c : Code} {Q : State → Prop} {k : Nat} {pc pc' : Nat} {bd bd' : ab_B} {L st L' st' : List ab_V} {σ σ' : ab_S}
/-- behind a call -/
theorem ab_after {H : Heap} {locs : List Loc} {cells slots mc ms : Nat} {ls : Array Slot} {rst rrest : List Value} {rest : List ab_V} {r : Option ab_V} {aa : Array Value} (hr : va_Run p l e R s m args below meth c H locs cells slots mc ms (F0 m pc ls rst) rrest (ab_Qc E r σ' aa) (fun q => ab_Eb E ≤ q)) (hLR : ab_LR E L ls (ab_mx k)) (hSR : ab_SR E rest rrest) (hloc : ∀ q ∈ locs, ab_Eb E ≤ q.base)
    (h1 : cells + mc + bd'.2.1 ≤ R.cells) (h2 : slots + ms + bd'.2.2 ≤ R.slots) (h3 : bd'.1 ≤ R.frames) (h4 : 100 * bd'.1 ≤ R.locals) (h : ab_WP E p l e R s m args below meth c Q k (pc + 3) bd' L (ab_psh r rest) σ') : W p l e R s m args below meth c H locs cells slots Q (F0 m pc ls rst) := by
  intro T hT X
  obtain ⟨v, st₀, t, T', L2, h0, X', hL, e1, e2, ⟨rv, ho, hor, hRep⟩, hgo⟩ := hr T hT X
  cases ho
  have hS : ab_SR E (ab_psh r rest) (v.toList ++ rrest) := by
    match r, v, hor with
    | none, none, _ => exact hSR
    | some _, some _, h9 => exact ⟨h9, hSR⟩
  obtain ⟨t2, a1, b1⟩ := h T'.heap (locs ++ L2) (cells + mc) (slots + ms) ls (v.toList ++ rrest) ⟨by rw [e1]; exact hRep, hLR, hS, fun q hq => by
    rcases List.mem_append.mp hq with h9 | h9
    · exact hloc q h9
    · exact hL q h9, h1, h2, h3, h4⟩ T' rfl X'
  exact ⟨t2, hgo t2 a1, b1⟩
theorem ab_call_inv {y y' : Nat} {as as' rest rest' : List ab_V} {q : ab_Q} (h : ab_call y as bd rest = some q) : q = .inr (.inr (y, as, (bd.1, bd.2.1 - (ab_bud y as).2.1, bd.2.2 - (ab_bud y as).2.2), rest)) ∧ (ab_bud y as).1 + 1 ≤ bd.1 ∧ (ab_bud y as).2.1 ≤ bd.2.1 ∧ (ab_bud y as).2.2 ≤ bd.2.2 ∧ ab_cats rest ≤ 8 ∧ (ab_args as).length ≤ ab_mx y := by
  unfold ab_call at h
  split at h
  · rename_i hc
    exact ⟨(Option.some.inj h).symm, hc⟩
  · cases h
theorem ab_mth_ok (F : ab_Fr E p s m args meth c k) {i y n : Nat} (hi : i < 1000) (hf : ab_mth k i = some (y, n)) (hy : y < 1000) :
    y < 288 ∧ ((n = 0 ∧ Cond.methodLink (ab_cn (ab_ow k)) i (ab_nm y) ∈ ab_ws) ∨ (n = 1 ∧ va_Nw (.methodLinkNest (ab_cn (ab_ow k)) i (ab_nm y) (ab_host (ab_ow k))) s)) := by
  have hm := ab_lk_mem hf
  obtain ⟨h1, h2⟩ := ab_v_M _ hm
  have h1 : y < 288 := by
    rcases h1 with h1 | h1
    · exact h1
    · have h1 : 1000 ≤ y := h1
      omega
  refine ⟨h1, ?_⟩
  rcases h2 with h2 | h2
  · have h2 : n = 0 := h2
    subst h2
    refine Or.inl ⟨rfl, ?_⟩
    have h4 := ab_l_M _ (List.mem_filter.mpr ⟨hm, by simp [hy]⟩)
    unfold ab_wM at h4
    rw [(ab_key hi).1, (ab_key hi).2] at h4
    exact h4
  · have h2 : n = 1 := h2
    subst h2
    refine Or.inr ⟨rfl, ?_⟩
    have h4 := F.2.2.2.2.2.1.2.1 _ (ab_l_Mn _ (List.mem_filter.mpr ⟨hm, by simp [hy]⟩))
    unfold ab_wMn at h4
    rw [(ab_key hi).1, (ab_key hi).2] at h4
    exact h4
theorem ab_pre (F : ab_Fr E p s m args meth c k) {H : Heap} {rs : List Value} (hR : ab_Rep E σ H) : ∀ U : State, U.heap = H → s.WarmedH U.vm → ab_Pc E rs σ rs.toArray U := fun U hU hW => ⟨rfl, ab_K_warm hW F.2.2.2.2.2.1, by rw [hU]; exact hR⟩
end S7
