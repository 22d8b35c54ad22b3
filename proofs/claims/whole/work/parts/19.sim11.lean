/-! which instructions answer or call; the whole -/
theorem ab_nr_nx {pc : Nat} {bd : ab_B} {L st : List ab_V} {σ : ab_S} {x : (Option ab_V) ⊕ (Nat × List ab_V × ab_B × List ab_V)} (h : ab_nx pc bd L st σ = some (.inr x)) : False := by unfold ab_nx at h; cases h
theorem ab_nr_tg {pc : Nat} {off : Int} {bd : ab_B} {L st : List ab_V} {σ : ab_S} {x : (Option ab_V) ⊕ (Nat × List ab_V × ab_B × List ab_V)} (h : ab_tg pc off bd L st σ = some (.inr x)) : False := by
  unfold ab_tg at h
  split at h
  · exact ab_nr_nx h
  · cases h
theorem ab_nr_br {cnd : Bool} {pc : Nat} {off : Int} {bd : ab_B} {L st : List ab_V} {σ : ab_S} {x : (Option ab_V) ⊕ (Nat × List ab_V × ab_B × List ab_V)} (h : ab_br cnd pc off bd L st σ = some (.inr x)) : False := by
  unfold ab_br at h
  split at h
  · exact ab_nr_nx h
  · cases h
theorem ab_nr_ldx {t i pc : Nat} {bd : ab_B} {L st : List ab_V} {σ : ab_S} {x : (Option ab_V) ⊕ (Nat × List ab_V × ab_B × List ab_V)} (h : ab_ldx t i pc bd L st σ = some (.inr x)) : False := by
  unfold ab_ldx at h
  split at h
  · exact ab_nr_nx h
  · cases h
theorem ab_nr_stx {t i pc : Nat} {bd : ab_B} {L st : List ab_V} {σ : ab_S} {x : (Option ab_V) ⊕ (Nat × List ab_V × ab_B × List ab_V)} (h : ab_stx t i pc bd L st σ = some (.inr x)) : False := by
  unfold ab_stx at h
  split at h
  · split at h
    · exact ab_nr_nx h
    · cases h
  · split at h
    · exact ab_nr_nx h
    · cases h
  · split at h
    · exact ab_nr_nx h
    · cases h
  · cases h
theorem ab_nr_i2 {f : Int → Int → Option ab_V} {pc : Nat} {bd : ab_B} {L st : List ab_V} {σ : ab_S} {x : (Option ab_V) ⊕ (Nat × List ab_V × ab_B × List ab_V)} (h : ab_i2 f pc bd L st σ = some (.inr x)) : False := by
  obtain ⟨a, b, st1, v, -, -, hq⟩ := ab_i2_inv h
  cases hq
theorem ab_nr_j2 {f : Int → Int → Option ab_V} {pc : Nat} {bd : ab_B} {L st : List ab_V} {σ : ab_S} {x : (Option ab_V) ⊕ (Nat × List ab_V × ab_B × List ab_V)} (h : ab_j2 f pc bd L st σ = some (.inr x)) : False := by
  obtain ⟨a, b, st1, v, -, -, hq⟩ := ab_j2_inv h
  cases hq
theorem ab_nr_ald {g pc : Nat} {mk : Int → ab_V} {bd : ab_B} {L st : List ab_V} {σ : ab_S} {x : (Option ab_V) ⊕ (Nat × List ab_V × ab_B × List ab_V)} (h : ab_ald g pc bd L st σ mk = some (.inr x)) : False := by
  obtain ⟨i, a, st1, -, -, -, -, hq⟩ := ab_ald_inv h
  cases hq
theorem ab_ex_inr {X : ab_X} {k pc : Nat} {bd : ab_B} {L st : List ab_V} {σ : ab_S} {ins : Instr} {len : Nat} {x : (Option ab_V) ⊕ (Nat × List ab_V × ab_B × List ab_V)} (hs : ab_ex X k pc bd L st σ ins len = some (.inr x)) : ins = .ireturn ∨ ins = .lreturn ∨ ins = .return_ ∨ (∃ i, ins = .new i) ∨ ∃ kd i, ins = ab_ivk kd i ∧ kd < 3 := by
  cases ins
  case iconst n => exact (ab_nr_nx hs).elim
  case bipush n => exact (ab_nr_nx hs).elim
  case sipush n => exact (ab_nr_nx hs).elim
  case lconst n => exact (ab_nr_nx hs).elim
  case iload i => exact (ab_nr_ldx hs).elim
  case iload_n i => exact (ab_nr_ldx hs).elim
  case lload i => exact (ab_nr_ldx hs).elim
  case lload_n i => exact (ab_nr_ldx hs).elim
  case aload i => exact (ab_nr_ldx hs).elim
  case aload_n i => exact (ab_nr_ldx hs).elim
  case istore i => exact (ab_nr_stx hs).elim
  case istore_n i => exact (ab_nr_stx hs).elim
  case lstore i => exact (ab_nr_stx hs).elim
  case lstore_n i => exact (ab_nr_stx hs).elim
  case astore i => exact (ab_nr_stx hs).elim
  case astore_n i => exact (ab_nr_stx hs).elim
  case iadd =>
    unfold ab_ex at hs
    exact (ab_nr_i2 hs).elim
  case isub =>
    unfold ab_ex at hs
    exact (ab_nr_i2 hs).elim
  case imul =>
    unfold ab_ex at hs
    exact (ab_nr_i2 hs).elim
  case idiv =>
    unfold ab_ex at hs
    exact (ab_nr_i2 hs).elim
  case irem =>
    unfold ab_ex at hs
    exact (ab_nr_i2 hs).elim
  case iand =>
    unfold ab_ex at hs
    exact (ab_nr_i2 hs).elim
  case ior =>
    unfold ab_ex at hs
    exact (ab_nr_i2 hs).elim
  case ishl =>
    unfold ab_ex at hs
    exact (ab_nr_i2 hs).elim
  case ishr =>
    unfold ab_ex at hs
    exact (ab_nr_i2 hs).elim
  case iushr =>
    unfold ab_ex at hs
    exact (ab_nr_i2 hs).elim
  case ladd =>
    unfold ab_ex at hs
    exact (ab_nr_j2 hs).elim
  case lsub =>
    unfold ab_ex at hs
    exact (ab_nr_j2 hs).elim
  case lmul =>
    unfold ab_ex at hs
    exact (ab_nr_j2 hs).elim
  case ldiv =>
    unfold ab_ex at hs
    exact (ab_nr_j2 hs).elim
  case lrem =>
    unfold ab_ex at hs
    exact (ab_nr_j2 hs).elim
  case lcmp =>
    unfold ab_ex at hs
    exact (ab_nr_j2 hs).elim
  case goto off => exact (ab_nr_tg hs).elim
  case laload => exact (ab_nr_ald hs).elim
  case baload => exact ((ab_mk_inv hs).elim ab_nr_ald ab_nr_ald).elim
  case aaload => exact ((ab_mk_inv hs).elim (fun h => (ab_mk_inv h).elim ab_nr_ald ab_nr_ald) (fun h => (ab_mk_inv h).elim (fun h => (ab_mk_inv h).elim ab_nr_ald ab_nr_ald) ab_nr_ald)).elim
  case iaload =>
    unfold ab_ex at hs
    dsimp only at hs
    split at hs
    · obtain ⟨i, w, -, -, -, hq⟩ := ab_scr_inv hs
      cases hq
    · exact (ab_nr_ald hs).elim
  case ineg =>
    unfold ab_ex at hs
    dsimp only at hs
    exfalso
    (repeat' (split at hs)) <;> first | (cases hs; done) | exact ab_nr_nx hs | exact ab_nr_br hs | exact ab_nr_tg hs
  case lneg =>
    unfold ab_ex at hs
    dsimp only at hs
    exfalso
    (repeat' (split at hs)) <;> first | (cases hs; done) | exact ab_nr_nx hs | exact ab_nr_br hs | exact ab_nr_tg hs
  case i2l =>
    unfold ab_ex at hs
    dsimp only at hs
    exfalso
    (repeat' (split at hs)) <;> first | (cases hs; done) | exact ab_nr_nx hs | exact ab_nr_br hs | exact ab_nr_tg hs
  case l2i =>
    unfold ab_ex at hs
    dsimp only at hs
    exfalso
    (repeat' (split at hs)) <;> first | (cases hs; done) | exact ab_nr_nx hs | exact ab_nr_br hs | exact ab_nr_tg hs
  case i2b =>
    unfold ab_ex at hs
    dsimp only at hs
    exfalso
    (repeat' (split at hs)) <;> first | (cases hs; done) | exact ab_nr_nx hs | exact ab_nr_br hs | exact ab_nr_tg hs
  case lshl =>
    unfold ab_ex at hs
    dsimp only at hs
    exfalso
    (repeat' (split at hs)) <;> first | (cases hs; done) | exact ab_nr_nx hs | exact ab_nr_br hs | exact ab_nr_tg hs
  case dup =>
    unfold ab_ex at hs
    dsimp only at hs
    exfalso
    (repeat' (split at hs)) <;> first | (cases hs; done) | exact ab_nr_nx hs | exact ab_nr_br hs | exact ab_nr_tg hs
  case pop =>
    unfold ab_ex at hs
    dsimp only at hs
    exfalso
    (repeat' (split at hs)) <;> first | (cases hs; done) | exact ab_nr_nx hs | exact ab_nr_br hs | exact ab_nr_tg hs
  case dup2 =>
    unfold ab_ex at hs
    dsimp only at hs
    exfalso
    (repeat' (split at hs)) <;> first | (cases hs; done) | exact ab_nr_nx hs | exact ab_nr_br hs | exact ab_nr_tg hs
  case ifCond cd off =>
    unfold ab_ex at hs
    dsimp only at hs
    exfalso
    (repeat' (split at hs)) <;> first | (cases hs; done) | exact ab_nr_nx hs | exact ab_nr_br hs | exact ab_nr_tg hs
  case if_icmp cd off =>
    unfold ab_ex at hs
    dsimp only at hs
    exfalso
    (repeat' (split at hs)) <;> first | (cases hs; done) | exact ab_nr_nx hs | exact ab_nr_br hs | exact ab_nr_tg hs
  case ifnull off =>
    unfold ab_ex at hs
    dsimp only at hs
    exfalso
    (repeat' (split at hs)) <;> first | (cases hs; done) | exact ab_nr_nx hs | exact ab_nr_br hs | exact ab_nr_tg hs
  case ifnonnull off =>
    unfold ab_ex at hs
    dsimp only at hs
    exfalso
    (repeat' (split at hs)) <;> first | (cases hs; done) | exact ab_nr_nx hs | exact ab_nr_br hs | exact ab_nr_tg hs
  case tableswitch d lo hi offs =>
    unfold ab_ex at hs
    dsimp only at hs
    exfalso
    (repeat' (split at hs)) <;> first | (cases hs; done) | exact ab_nr_nx hs | exact ab_nr_br hs | exact ab_nr_tg hs
  case iinc i n =>
    unfold ab_ex at hs
    dsimp only at hs
    exfalso
    (repeat' (split at hs)) <;> first | (cases hs; done) | exact ab_nr_nx hs | exact ab_nr_br hs | exact ab_nr_tg hs
  case ldc i =>
    unfold ab_ex at hs
    dsimp only at hs
    exfalso
    (repeat' (split at hs)) <;> first | (cases hs; done) | exact ab_nr_nx hs | exact ab_nr_br hs | exact ab_nr_tg hs
  case ldc_w i =>
    unfold ab_ex at hs
    dsimp only at hs
    exfalso
    (repeat' (split at hs)) <;> first | (cases hs; done) | exact ab_nr_nx hs | exact ab_nr_br hs | exact ab_nr_tg hs
  case ldc2_w i =>
    unfold ab_ex at hs
    dsimp only at hs
    exfalso
    (repeat' (split at hs)) <;> first | (cases hs; done) | exact ab_nr_nx hs | exact ab_nr_br hs | exact ab_nr_tg hs
  case getfield i =>
    unfold ab_ex at hs
    dsimp only at hs
    exfalso
    (repeat' (split at hs)) <;> first | (cases hs; done) | exact ab_nr_nx hs | exact ab_nr_br hs | exact ab_nr_tg hs
  case putfield i =>
    unfold ab_ex at hs
    dsimp only at hs
    exfalso
    (repeat' (split at hs)) <;> first | (cases hs; done) | exact ab_nr_nx hs | exact ab_nr_br hs | exact ab_nr_tg hs
  case iastore =>
    unfold ab_ex at hs
    dsimp only at hs
    exfalso
    (repeat' (split at hs)) <;> first | (cases hs; done) | exact ab_nr_nx hs | exact ab_nr_br hs | exact ab_nr_tg hs
  case lastore =>
    unfold ab_ex at hs
    dsimp only at hs
    exfalso
    (repeat' (split at hs)) <;> first | (cases hs; done) | exact ab_nr_nx hs | exact ab_nr_br hs | exact ab_nr_tg hs
  case bastore =>
    unfold ab_ex at hs
    dsimp only at hs
    exfalso
    (repeat' (split at hs)) <;> first | (cases hs; done) | exact ab_nr_nx hs | exact ab_nr_br hs | exact ab_nr_tg hs
  case aastore =>
    unfold ab_ex at hs
    dsimp only at hs
    exfalso
    (repeat' (split at hs)) <;> first | (cases hs; done) | exact ab_nr_nx hs | exact ab_nr_br hs | exact ab_nr_tg hs
  case arraylength =>
    unfold ab_ex at hs
    dsimp only at hs
    exfalso
    (repeat' (split at hs)) <;> first | (cases hs; done) | exact ab_nr_nx hs | exact ab_nr_br hs | exact ab_nr_tg hs
  case newarray ty =>
    unfold ab_ex at hs
    dsimp only at hs
    exfalso
    (repeat' (split at hs)) <;> first | (cases hs; done) | exact ab_nr_nx hs | exact ab_nr_br hs | exact ab_nr_tg hs
  case anewarray i =>
    unfold ab_ex at hs
    dsimp only at hs
    exfalso
    (repeat' (split at hs)) <;> first | (cases hs; done) | exact ab_nr_nx hs | exact ab_nr_br hs | exact ab_nr_tg hs
  case multianewarray i d =>
    unfold ab_ex at hs
    dsimp only at hs
    exfalso
    (repeat' (split at hs)) <;> first | (cases hs; done) | exact ab_nr_nx hs | exact ab_nr_br hs | exact ab_nr_tg hs
  case ireturn => exact Or.inl rfl
  case lreturn => exact Or.inr (Or.inl rfl)
  case return_ => exact Or.inr (Or.inr (Or.inl rfl))
  case new i => exact Or.inr (Or.inr (Or.inr (Or.inl ⟨i, rfl⟩)))
  case invokevirtual i => exact Or.inr (Or.inr (Or.inr (Or.inr ⟨0, i, rfl, by decide⟩)))
  case invokestatic i => exact Or.inr (Or.inr (Or.inr (Or.inr ⟨1, i, rfl, by decide⟩)))
  case invokespecial i => exact Or.inr (Or.inr (Or.inr (Or.inr ⟨2, i, rfl, by decide⟩)))
  all_goals exact nomatch (show (none : Option ab_Q) = some _ from hs)
theorem ab_inv_ret {kd k pc i : Nat} {bd : ab_B} {L st : List ab_V} {σ : ab_S} {r : Option ab_V} (he : ab_inv kd k pc i bd L st σ = some (.inr (.inl r))) : False := by
  unfold ab_inv at he
  split at he
  · cases he
  · rename_i z n hf
    by_cases hy1000 : z = 1000
    · rw [if_pos hy1000] at he
      split at he
      · split at he
        · exact ab_nr_nx he
        · cases he
      · cases he
    rw [if_neg hy1000] at he
    by_cases hy1001 : z = 1001
    · rw [if_pos hy1001] at he
      split at he
      · split at he
        · exact ab_nr_nx he
        · cases he
      · cases he
    rw [if_neg hy1001] at he
    by_cases hy1002 : z = 1002
    · rw [if_pos hy1002] at he
      split at he
      · split at he
        · exact ab_nr_nx he
        · cases he
      · cases he
    rw [if_neg hy1002] at he
    by_cases hy1004 : z = 1004
    · rw [if_pos hy1004] at he
      split at he
      · split at he
        · exact ab_nr_nx he
        · cases he
      · cases he
    rw [if_neg hy1004] at he
    by_cases hy1005 : z = 1005
    · rw [if_pos hy1005] at he
      split at he
      · split at he
        · exact ab_nr_nx he
        · cases he
      · cases he
    rw [if_neg hy1005] at he
    by_cases hy1006 : z = 1006
    · rw [if_pos hy1006] at he
      split at he
      · split at he
        · exact ab_nr_nx he
        · cases he
      · cases he
    rw [if_neg hy1006] at he
    by_cases hy3 : z = 1003
    · rw [if_pos hy3] at he
      split at he
      · split at he
        · split at he
          · exact ab_nr_nx he
          · exact ab_nr_nx he
        · cases he
      · cases he
    rw [if_neg hy3] at he
    split at he
    · cases he
    · split at he
      · split at he
        · split at he
          · have := (ab_call_inv (y' := 0) (as' := []) (rest' := []) he).1
            cases this
          · cases he
        · split at he
          · split at he
            · have := (ab_call_inv (y' := 0) (as' := []) (rest' := []) he).1
              cases this
            · cases he
          · cases he
      · cases he
section S11
variable {E : ab_E} {p : Program} {l : Launch} {e : Env} {R : Room} {s : State} {m : MethodId} {args : Array Value} {below : List Frame} {meth : Method} {c : Code} {Q : State → Prop} {k : Nat} {pc pc' : Nat} {bd bd' : ab_B} {L st L' st' : List ab_V} {σ σ' : ab_S}
theorem ab_ivk_len {kd i : Nat} : ab_len (ab_ivk kd i) = 3 ∧ ab_sm (ab_ivk kd i) = decide (i < 1000) := by
  match kd with
  | 0 => exact ⟨rfl, rfl⟩
  | 1 => exact ⟨rfl, rfl⟩
  | _ + 2 => exact ⟨rfl, rfl⟩
theorem ab_ivk_ex {X : ab_X} {kd i len : Nat} (h : kd < 3) : ab_ex X k pc bd L st σ (ab_ivk kd i) len = ab_inv kd k pc i bd L st σ := by
  match kd, h with
  | 0, _ => rfl
  | 1, _ => rfl
  | 2, _ => rfl
theorem ab_stepcall {X : ab_X} {y : Nat} {as rest : List ab_V} (hs : ab_step X k pc bd L st σ = some (.inr (.inr (y, as, bd', rest)))) : ∃ kd i, i < 1000 ∧ decode (ab_code k) pc = .ok (ab_ivk kd i, 3) ∧ ab_inv kd k pc i bd L st σ = some (.inr (.inr (y, as, bd', rest))) := by
  unfold ab_step at hs
  split at hs
  · rename_i ins len hd
    split at hs
    · rename_i hg
      obtain ⟨hl, hsm⟩ := hg
      rcases ab_ex_inr hs with rfl | rfl | rfl | ⟨i, rfl⟩ | ⟨kd, i, rfl, hkd⟩
      · exfalso
        unfold ab_ex at hs
        dsimp only at hs
        (repeat' (split at hs)) <;> cases hs
      · exfalso
        unfold ab_ex at hs
        dsimp only at hs
        (repeat' (split at hs)) <;> cases hs
      · exfalso
        unfold ab_ex at hs
        dsimp only at hs
        (repeat' (split at hs)) <;> cases hs
      · exfalso
        unfold ab_ex at hs
        dsimp only at hs
        split at hs
        · split at hs
          · exact ab_nr_nx hs
          · cases hs
        · split at hs <;> cases hs
      · rw [ab_ivk_ex hkd] at hs
        rw [ab_ivk_len.1] at hl
        rw [ab_ivk_len.2] at hsm
        obtain rfl : len = 3 := hl.resolve_left (by decide)
        exact ⟨kd, i, of_decide_eq_true hsm, hd, hs⟩
    · cases hs
  · cases hs
theorem ab_stepret {X : ab_X} {r : Option ab_V} (hs : ab_step X k pc bd L st σ = some (.inr (.inl r))) {rst : List Value} (hS : ab_SR E st rst) : ab_RO E bd k pc r rst := by
  unfold ab_step at hs
  split at hs
  · rename_i ins len hd
    split at hs
    · rename_i hg
      obtain ⟨hl, hsm⟩ := hg
      rcases ab_ex_inr hs with rfl | rfl | rfl | ⟨i, rfl⟩ | ⟨kd, i, rfl, hkd⟩
      · obtain rfl : len = 1 := hl.resolve_left (by simp [ab_len])
        unfold ab_ex at hs
        dsimp only at hs
        split at hs
        · rename_i v
          obtain ⟨kv, r1, rfl, rfl, h1⟩ := ab_SR_I hS
          cases ab_SR_nil h1
          split at hs
          · rename_i ht
            cases hs
            exact Or.inl ⟨kv, hd, rfl, rfl, Or.inl ht⟩
          · rename_i ht
            split at hs
            · rename_i hz
              cases hs
              exact Or.inl ⟨kv, hd, rfl, rfl, Or.inr ⟨ht, hz⟩⟩
            · cases hs
          · cases hs
        · cases hs
      · obtain rfl : len = 1 := hl.resolve_left (by simp [ab_len])
        unfold ab_ex at hs
        dsimp only at hs
        split at hs
        · rename_i v
          obtain ⟨kv, r1, rfl, rfl, h1⟩ := ab_SR_J hS
          cases ab_SR_nil h1
          split at hs
          · rename_i ht
            cases hs
            exact Or.inr (Or.inl ⟨kv, hd, rfl, rfl, ht⟩)
          · cases hs
        · cases hs
      · obtain rfl : len = 1 := hl.resolve_left (by simp [ab_len])
        unfold ab_ex at hs
        dsimp only at hs
        split at hs
        · cases ab_SR_nil hS
          split at hs
          · rename_i ht
            cases hs
            exact Or.inr (Or.inr (Or.inl ⟨hd, rfl, rfl, ht⟩))
          · cases hs
        · cases hs
      · obtain rfl : len = 3 := hl.resolve_left (by simp [ab_len])
        unfold ab_ex at hs
        dsimp only at hs
        split at hs
        · split at hs
          · exact (ab_nr_nx hs).elim
          · cases hs
        · split at hs
          · rename_i hc
            obtain ⟨h1, rfl, rfl⟩ := hc
            cases hs
            cases ab_SR_nil hS
            exact Or.inr (Or.inr (Or.inr ⟨h1, hd, rfl, rfl⟩))
          · cases hs
      · rw [ab_ivk_ex hkd] at hs
        exact (ab_inv_ret hs).elim
    · cases hs
  · cases hs
/-- WHAT THE LITTLE MACHINE COMES TO, THE MACHINE COMES TO -/
theorem ab_sim (h12 : ab_Sp12 l) : ∀ n, ab_SimB l n := by
  intro n
  induction n with
  | zero =>
    intro E p e R s m args below meth c Q k pc bd L st σ r σ' _ _ _ hev
    cases hev
  | succ n ih =>
    intro E p e R s m args below meth c Q k pc bd L st σ r σ' hk h3 F hev hret
    rw [ab_ev] at hev
    cases hs : ab_step (ab_Xof E) k pc bd L st σ with
    | none => rw [hs] at hev; cases hev
    | some q =>
      rw [hs] at hev
      match q, hev, hs with
      | .inl (pc1, bd1, L1, st1, σ1), hev, hs => exact ab_stepsim h12 h3 hk F hs (ih E p e R s m args below meth c Q k pc1 bd1 L1 st1 σ1 r σ' hk h3 F hev hret)
      | .inr (.inl r1), hev, hs =>
        cases hev
        intro H locs cells slots ls rst ⟨g1, g2, g3, g4, g5, g6, g7, g8⟩
        obtain ⟨-, lv, hl1, -⟩ := g2
        exact hret pc bd H locs cells slots ls rst g1 g4 g5 g6 hl1.1 (ab_stepret hs g3)
      | .inr (.inr (y, as, bd1, rest)), hev, hs =>
        dsimp only at hev
        cases he : ab_ev (ab_Xof E) n y 0 (ab_bud y as) (ab_ent (ab_mx y) as) [] σ with
        | none => rw [he] at hev; cases hev
        | some z =>
          obtain ⟨r1, σ1⟩ := z
          rw [he] at hev
          obtain ⟨kd, i, hi, hd, hinv⟩ := ab_stepcall hs
          exact ab_s_callx ih F hi hd hinv he (ih E p e R s m args below meth c Q k (pc + 3) bd1 L (ab_psh r1 rest) σ1 r σ' hk h3 F hev hret)
end S11
