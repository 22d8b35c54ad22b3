/-! THE LITTLE MACHINE'S RULES: what ab_Run is at an instruction -/
section R0
variable {X : ab_X} {k pc pc' : Nat} {bd bd' : ab_B} {L st L' st' : List ab_V} {σ σ' : ab_S} {Q : Option ab_V → ab_S → Prop} {cc : ByteArray} {ins : Instr} {len : Nat}
theorem ab_stp (hc : ab_code k = cc) (hd : decode cc pc = .ok (ins, len)) (hg : (ab_len ins = 0 ∨ len = ab_len ins) ∧ ab_sm ins = true) : ab_step X k pc bd L st σ = ab_ex X k pc bd L st σ ins len := by
  unfold ab_step
  rw [hc, hd]
  exact if_pos hg
theorem ab_Run_none (h : ab_step X k pc bd L st σ = none) : ab_Run X k pc bd L st σ Q ↔ False := by
  constructor
  · rintro ⟨n, r, τ, h1, h2⟩
    cases n with
    | zero => cases h1
    | succ n =>
      rw [ab_ev, h] at h1
      cases h1
  · exact False.elim
theorem ab_Run_if {P : Prop} (hP : Decidable P) (h : ab_step X k pc bd L st σ = if P then ab_nx pc' bd' L' st' σ' else none) : ab_Run X k pc bd L st σ Q ↔ P ∧ ab_Run X k pc' bd' L' st' σ' Q := by
  by_cases hp : P
  · rw [if_pos hp] at h
    rw [ab_Run_next h]
    exact ⟨fun q => ⟨hp, q⟩, fun q => q.2⟩
  · rw [if_neg hp] at h
    rw [ab_Run_none h]
    exact ⟨False.elim, fun q => hp q.1⟩
theorem ab_Run_br {P : Prop} (hP : Decidable P) {pt pf : Nat} (h : ab_step X k pc bd L st σ = ab_nx (if P then pt else pf) bd' L' st' σ') : ab_Run X k pc bd L st σ Q ↔ (P → ab_Run X k pt bd' L' st' σ' Q) ∧ (¬ P → ab_Run X k pf bd' L' st' σ' Q) := by
  rw [ab_Run_next h]
  by_cases hp : P
  · rw [if_pos hp]
    exact ⟨fun q => ⟨fun _ => q, fun n => absurd hp n⟩, fun q => q.1 hp⟩
  · rw [if_neg hp]
    exact ⟨fun q => ⟨fun n => absurd n hp, fun _ => q⟩, fun q => q.2 hp⟩
theorem ab_Run_callif {P : Prop} (hP : Decidable P) {y : Nat} {as rest : List ab_V} (h : ab_step X k pc bd L st σ = if P then some (.inr (.inr (y, as, bd', rest))) else none) : ab_Run X k pc bd L st σ Q ↔ P ∧ ab_Do X y as σ (fun r σ' => ab_Run X k (pc + 3) bd' L (ab_psh r rest) σ' Q) := by
  by_cases hp : P
  · rw [if_pos hp] at h
    rw [ab_Run_call h]
    exact ⟨fun q => ⟨hp, q⟩, fun q => q.2⟩
  · rw [if_neg hp] at h
    rw [ab_Run_none h]
    exact ⟨False.elim, fun q => hp q.1⟩
theorem ab_Do.imp {X : ab_X} {k : Nat} {as : List ab_V} {σ : ab_S} {Q Q' : Option ab_V → ab_S → Prop} (h : ab_Do X k as σ Q) (hq : ∀ r σ', Q r σ' → Q' r σ') : ab_Do X k as σ Q' := ab_Run.imp h hq
theorem ab_r_iconst {n v : Int} (hv : ab_w32 n = v) (hc : ab_code k = cc) (hd : decode cc pc = .ok (.iconst n, 1)) : ab_Run X k pc bd L st σ Q ↔ ab_Run X k (pc + 1) bd L (ab_I v :: st) σ Q := ab_Run_next (by rw [ab_stp hc hd ⟨Or.inr rfl, rfl⟩, ← hv]; rfl)
theorem ab_r_bipush {n v : Int} (hv : ab_w8 n = v) (hc : ab_code k = cc) (hd : decode cc pc = .ok (.bipush n, 2)) : ab_Run X k pc bd L st σ Q ↔ ab_Run X k (pc + 2) bd L (ab_I v :: st) σ Q := ab_Run_next (by rw [ab_stp hc hd ⟨Or.inr rfl, rfl⟩, ← hv]; rfl)
theorem ab_r_sipush {n v : Int} (hv : ab_w16 n = v) (hc : ab_code k = cc) (hd : decode cc pc = .ok (.sipush n, 3)) : ab_Run X k pc bd L st σ Q ↔ ab_Run X k (pc + 3) bd L (ab_I v :: st) σ Q := ab_Run_next (by rw [ab_stp hc hd ⟨Or.inr rfl, rfl⟩, ← hv]; rfl)
theorem ab_r_lconst {n : Fin 2} (hc : ab_code k = cc) (hd : decode cc pc = .ok (.lconst n, 1)) : ab_Run X k pc bd L st σ Q ↔ ab_Run X k (pc + 1) bd L (ab_J ((n : Nat) : Int) :: st) σ Q := ab_Run_next (by rw [ab_stp hc hd ⟨Or.inr rfl, rfl⟩]; rfl)
theorem ab_r_ldc {i o : Nat} {z : Int} (hi : decide (i < 1000) = true) (ho : ab_ow k = o) (hz : ab_lk ab_pI (1000 * o + i) = some z) (hc : ab_code k = cc) (hd : decode cc pc = .ok (.ldc i, 2)) : ab_Run X k pc bd L st σ Q ↔ ab_Run X k (pc + 2) bd L (ab_I z :: st) σ Q := ab_Run_next (by rw [ab_stp hc hd ⟨Or.inr rfl, hi⟩]; unfold ab_ex; dsimp only; rw [ho, hz]; rfl)
theorem ab_r_ldcS {i o n : Nat} {z : Int} (hi : decide (i < 1000) = true) (ho : ab_ow k = o) (h0 : ab_lk ab_pI (1000 * o + i) = none) (hz : ab_lk ab_pS (1000 * o + i) = some n) (hn : -2 - (n : Int) = z) (hc : ab_code k = cc) (hd : decode cc pc = .ok (.ldc i, 2)) : ab_Run X k pc bd L st σ Q ↔ ab_Run X k (pc + 2) bd L (ab_R z :: st) σ Q := ab_Run_next (by rw [ab_stp hc hd ⟨Or.inr rfl, hi⟩]; unfold ab_ex; dsimp only; rw [ho, h0, hz, ← hn]; rfl)
theorem ab_r_ldc_w {i o : Nat} {z : Int} (hi : decide (i < 1000) = true) (ho : ab_ow k = o) (hz : ab_lk ab_pI (1000 * o + i) = some z) (hc : ab_code k = cc) (hd : decode cc pc = .ok (.ldc_w i, 3)) : ab_Run X k pc bd L st σ Q ↔ ab_Run X k (pc + 3) bd L (ab_I z :: st) σ Q := ab_Run_next (by rw [ab_stp hc hd ⟨Or.inr rfl, hi⟩]; unfold ab_ex; dsimp only; rw [ho, hz]; rfl)
theorem ab_r_ldc_wS {i o n : Nat} {z : Int} (hi : decide (i < 1000) = true) (ho : ab_ow k = o) (h0 : ab_lk ab_pI (1000 * o + i) = none) (hz : ab_lk ab_pS (1000 * o + i) = some n) (hn : -2 - (n : Int) = z) (hc : ab_code k = cc) (hd : decode cc pc = .ok (.ldc_w i, 3)) : ab_Run X k pc bd L st σ Q ↔ ab_Run X k (pc + 3) bd L (ab_R z :: st) σ Q := ab_Run_next (by rw [ab_stp hc hd ⟨Or.inr rfl, hi⟩]; unfold ab_ex; dsimp only; rw [ho, h0, hz, ← hn]; rfl)
theorem ab_r_ldc2_w {i o : Nat} {z : Int} (hi : decide (i < 1000) = true) (ho : ab_ow k = o) (hz : ab_lk ab_pJ (1000 * o + i) = some z) (hc : ab_code k = cc) (hd : decode cc pc = .ok (.ldc2_w i, 3)) : ab_Run X k pc bd L st σ Q ↔ ab_Run X k (pc + 3) bd L (ab_J z :: st) σ Q := ab_Run_next (by rw [ab_stp hc hd ⟨Or.inr rfl, hi⟩]; unfold ab_ex; dsimp only; rw [ho, hz]; rfl)
theorem ab_r_iload {i : Nat} {z : Int} (hl : L[i]? = some (ab_I z)) (hc : ab_code k = cc) (hd : decode cc pc = .ok (.iload i, 2)) : ab_Run X k pc bd L st σ Q ↔ ab_Run X k (pc + 2) bd L (ab_I z :: st) σ Q := ab_Run_next (by rw [ab_stp hc hd ⟨Or.inr rfl, rfl⟩]; unfold ab_ex; dsimp only; unfold ab_ldx ab_ld; rw [hl]; rfl)
theorem ab_r_iload_n {i : Fin 4} {z : Int} (hl : L[(i : Nat)]? = some (ab_I z)) (hc : ab_code k = cc) (hd : decode cc pc = .ok (.iload_n i, 1)) : ab_Run X k pc bd L st σ Q ↔ ab_Run X k (pc + 1) bd L (ab_I z :: st) σ Q := ab_Run_next (by rw [ab_stp hc hd ⟨Or.inr rfl, rfl⟩]; unfold ab_ex; dsimp only; unfold ab_ldx ab_ld; rw [hl]; rfl)
theorem ab_r_lload {i : Nat} {z : Int} (hl : L[i]? = some (ab_J z)) (hc : ab_code k = cc) (hd : decode cc pc = .ok (.lload i, 2)) : ab_Run X k pc bd L st σ Q ↔ ab_Run X k (pc + 2) bd L (ab_J z :: st) σ Q := ab_Run_next (by rw [ab_stp hc hd ⟨Or.inr rfl, rfl⟩]; unfold ab_ex; dsimp only; unfold ab_ldx ab_ld; rw [hl]; rfl)
theorem ab_r_lload_n {i : Fin 4} {z : Int} (hl : L[(i : Nat)]? = some (ab_J z)) (hc : ab_code k = cc) (hd : decode cc pc = .ok (.lload_n i, 1)) : ab_Run X k pc bd L st σ Q ↔ ab_Run X k (pc + 1) bd L (ab_J z :: st) σ Q := ab_Run_next (by rw [ab_stp hc hd ⟨Or.inr rfl, rfl⟩]; unfold ab_ex; dsimp only; unfold ab_ldx ab_ld; rw [hl]; rfl)
theorem ab_r_aload {i : Nat} {z : Int} (hl : L[i]? = some (ab_R z)) (hc : ab_code k = cc) (hd : decode cc pc = .ok (.aload i, 2)) : ab_Run X k pc bd L st σ Q ↔ z ≠ 0 ∧ ab_Run X k (pc + 2) bd L (ab_R z :: st) σ Q := ab_Run_if inferInstance (by rw [ab_stp hc hd ⟨Or.inr rfl, rfl⟩]; unfold ab_ex; dsimp only; unfold ab_ldx ab_ld; rw [hl]; by_cases h0 : z = 0 <;> simp [h0])
theorem ab_r_aload_n {i : Fin 4} {z : Int} (hl : L[(i : Nat)]? = some (ab_R z)) (hc : ab_code k = cc) (hd : decode cc pc = .ok (.aload_n i, 1)) : ab_Run X k pc bd L st σ Q ↔ z ≠ 0 ∧ ab_Run X k (pc + 1) bd L (ab_R z :: st) σ Q := ab_Run_if inferInstance (by rw [ab_stp hc hd ⟨Or.inr rfl, rfl⟩]; unfold ab_ex; dsimp only; unfold ab_ldx ab_ld; rw [hl]; by_cases h0 : z = 0 <;> simp [h0])
theorem ab_r_istore {i : Nat} {z : Int} (hl : i < L.length) (hc : ab_code k = cc) (hd : decode cc pc = .ok (.istore i, 2)) : ab_Run X k pc bd L (ab_I z :: st) σ Q ↔ ab_fr L i = true ∧ ab_Run X k (pc + 2) bd (L.set i (ab_I z)) st σ Q := ab_Run_if inferInstance (by rw [ab_stp hc hd ⟨Or.inr rfl, rfl⟩]; unfold ab_ex; dsimp only; unfold ab_stx; simp [hl])
theorem ab_r_istore_n {i : Fin 4} {z : Int} (hl : (i : Nat) < L.length) (hc : ab_code k = cc) (hd : decode cc pc = .ok (.istore_n i, 1)) : ab_Run X k pc bd L (ab_I z :: st) σ Q ↔ ab_fr L (i : Nat) = true ∧ ab_Run X k (pc + 1) bd (L.set (i : Nat) (ab_I z)) st σ Q := ab_Run_if inferInstance (by rw [ab_stp hc hd ⟨Or.inr rfl, rfl⟩]; unfold ab_ex; dsimp only; unfold ab_stx; simp [hl])
theorem ab_r_astore {i : Nat} {z : Int} (hl : i < L.length) (hc : ab_code k = cc) (hd : decode cc pc = .ok (.astore i, 2)) : ab_Run X k pc bd L (ab_R z :: st) σ Q ↔ ab_fr L i = true ∧ ab_Run X k (pc + 2) bd (L.set i (ab_R z)) st σ Q := ab_Run_if inferInstance (by rw [ab_stp hc hd ⟨Or.inr rfl, rfl⟩]; unfold ab_ex; dsimp only; unfold ab_stx; simp [hl])
theorem ab_r_astore_n {i : Fin 4} {z : Int} (hl : (i : Nat) < L.length) (hc : ab_code k = cc) (hd : decode cc pc = .ok (.astore_n i, 1)) : ab_Run X k pc bd L (ab_R z :: st) σ Q ↔ ab_fr L (i : Nat) = true ∧ ab_Run X k (pc + 1) bd (L.set (i : Nat) (ab_R z)) st σ Q := ab_Run_if inferInstance (by rw [ab_stp hc hd ⟨Or.inr rfl, rfl⟩]; unfold ab_ex; dsimp only; unfold ab_stx; simp [hl])
theorem ab_r_lstore {i : Nat} {z : Int} (hl : i + 1 < L.length) (hc : ab_code k = cc) (hd : decode cc pc = .ok (.lstore i, 2)) : ab_Run X k pc bd L (ab_J z :: st) σ Q ↔ ab_fr L i = true ∧ ab_Run X k (pc + 2) bd ((L.set i (ab_J z)).set (i + 1) (ab_R 0)) st σ Q := ab_Run_if inferInstance (by rw [ab_stp hc hd ⟨Or.inr rfl, rfl⟩]; unfold ab_ex; dsimp only; unfold ab_stx; simp [hl])
theorem ab_r_lstore_n {i : Fin 4} {z : Int} (hl : (i : Nat) + 1 < L.length) (hc : ab_code k = cc) (hd : decode cc pc = .ok (.lstore_n i, 1)) : ab_Run X k pc bd L (ab_J z :: st) σ Q ↔ ab_fr L (i : Nat) = true ∧ ab_Run X k (pc + 1) bd ((L.set (i : Nat) (ab_J z)).set ((i : Nat) + 1) (ab_R 0)) st σ Q := ab_Run_if inferInstance (by rw [ab_stp hc hd ⟨Or.inr rfl, rfl⟩]; unfold ab_ex; dsimp only; unfold ab_stx; simp [hl])
theorem ab_r_iinc {i : Nat} {n z v : Int} (hl : L[i]? = some (ab_I z)) (hv : ab_w32 n = v) (hc : ab_code k = cc) (hd : decode cc pc = .ok (.iinc i n, 3)) : ab_Run X k pc bd L st σ Q ↔ ab_fr L i = true ∧ ab_Run X k (pc + 3) bd (L.set i (ab_I (ab_w32 (z + v)))) st σ Q := ab_Run_if inferInstance (by rw [ab_stp hc hd ⟨Or.inr rfl, rfl⟩]; unfold ab_ex; dsimp only; unfold ab_ld; rw [hl, hv]; rfl)
theorem ab_r_iadd {a b : Int} (hc : ab_code k = cc) (hd : decode cc pc = .ok (.iadd, 1)) : ab_Run X k pc bd L (ab_I b :: ab_I a :: st) σ Q ↔ ab_Run X k (pc + 1) bd L (ab_I (ab_w32 (a + b)) :: st) σ Q := ab_Run_next (by rw [ab_stp hc hd ⟨Or.inr rfl, rfl⟩]; rfl)
theorem ab_r_isub {a b : Int} (hc : ab_code k = cc) (hd : decode cc pc = .ok (.isub, 1)) : ab_Run X k pc bd L (ab_I b :: ab_I a :: st) σ Q ↔ ab_Run X k (pc + 1) bd L (ab_I (ab_w32 (a - b)) :: st) σ Q := ab_Run_next (by rw [ab_stp hc hd ⟨Or.inr rfl, rfl⟩]; rfl)
theorem ab_r_imul {a b : Int} (hc : ab_code k = cc) (hd : decode cc pc = .ok (.imul, 1)) : ab_Run X k pc bd L (ab_I b :: ab_I a :: st) σ Q ↔ ab_Run X k (pc + 1) bd L (ab_I (ab_w32 (a * b)) :: st) σ Q := ab_Run_next (by rw [ab_stp hc hd ⟨Or.inr rfl, rfl⟩]; rfl)
theorem ab_r_iand {a b : Int} (hc : ab_code k = cc) (hd : decode cc pc = .ok (.iand, 1)) : ab_Run X k pc bd L (ab_I b :: ab_I a :: st) σ Q ↔ ab_Run X k (pc + 1) bd L (ab_I (ab_ok32 (fun x y => x &&& y) a b) :: st) σ Q := ab_Run_next (by rw [ab_stp hc hd ⟨Or.inr rfl, rfl⟩]; rfl)
theorem ab_r_ior {a b : Int} (hc : ab_code k = cc) (hd : decode cc pc = .ok (.ior, 1)) : ab_Run X k pc bd L (ab_I b :: ab_I a :: st) σ Q ↔ ab_Run X k (pc + 1) bd L (ab_I (ab_ok32 (fun x y => x ||| y) a b) :: st) σ Q := ab_Run_next (by rw [ab_stp hc hd ⟨Or.inr rfl, rfl⟩]; rfl)
theorem ab_r_ishl {a b : Int} (hc : ab_code k = cc) (hd : decode cc pc = .ok (.ishl, 1)) : ab_Run X k pc bd L (ab_I b :: ab_I a :: st) σ Q ↔ ab_Run X k (pc + 1) bd L (ab_I (ab_ok32 (fun x y => x <<< (y &&& 31)) a b) :: st) σ Q := ab_Run_next (by rw [ab_stp hc hd ⟨Or.inr rfl, rfl⟩]; rfl)
theorem ab_r_ishr {a b : Int} (hc : ab_code k = cc) (hd : decode cc pc = .ok (.ishr, 1)) : ab_Run X k pc bd L (ab_I b :: ab_I a :: st) σ Q ↔ ab_Run X k (pc + 1) bd L (ab_I (ab_ok32 (fun x y => x >>> (y &&& 31)) a b) :: st) σ Q := ab_Run_next (by rw [ab_stp hc hd ⟨Or.inr rfl, rfl⟩]; rfl)
theorem ab_r_iushr {a b : Int} (hc : ab_code k = cc) (hd : decode cc pc = .ok (.iushr, 1)) : ab_Run X k pc bd L (ab_I b :: ab_I a :: st) σ Q ↔ ab_Run X k (pc + 1) bd L (ab_I (ab_ok32 (fun x y => (x.toUInt32 >>> (y.toUInt32 &&& Int32.toUInt32 31)).toInt32) a b) :: st) σ Q := ab_Run_next (by rw [ab_stp hc hd ⟨Or.inr rfl, rfl⟩]; rfl)
theorem ab_r_idiv {a b : Int} (hc : ab_code k = cc) (hd : decode cc pc = .ok (.idiv, 1)) : ab_Run X k pc bd L (ab_I b :: ab_I a :: st) σ Q ↔ b ≠ 0 ∧ ab_Run X k (pc + 1) bd L (ab_I (ab_w32 (a.tdiv b)) :: st) σ Q := ab_Run_if inferInstance (by rw [ab_stp hc hd ⟨Or.inr rfl, rfl⟩]; unfold ab_ex; dsimp only; unfold ab_i2; dsimp only; by_cases h0 : b = 0 <;> simp [h0])
theorem ab_r_irem {a b : Int} (hc : ab_code k = cc) (hd : decode cc pc = .ok (.irem, 1)) : ab_Run X k pc bd L (ab_I b :: ab_I a :: st) σ Q ↔ b ≠ 0 ∧ ab_Run X k (pc + 1) bd L (ab_I (a.tmod b) :: st) σ Q := ab_Run_if inferInstance (by rw [ab_stp hc hd ⟨Or.inr rfl, rfl⟩]; unfold ab_ex; dsimp only; unfold ab_i2; dsimp only; by_cases h0 : b = 0 <;> simp [h0])
theorem ab_r_ladd {a b : Int} (hc : ab_code k = cc) (hd : decode cc pc = .ok (.ladd, 1)) : ab_Run X k pc bd L (ab_J b :: ab_J a :: st) σ Q ↔ ab_Run X k (pc + 1) bd L (ab_J (ab_w64 (a + b)) :: st) σ Q := ab_Run_next (by rw [ab_stp hc hd ⟨Or.inr rfl, rfl⟩]; rfl)
theorem ab_r_lsub {a b : Int} (hc : ab_code k = cc) (hd : decode cc pc = .ok (.lsub, 1)) : ab_Run X k pc bd L (ab_J b :: ab_J a :: st) σ Q ↔ ab_Run X k (pc + 1) bd L (ab_J (ab_w64 (a - b)) :: st) σ Q := ab_Run_next (by rw [ab_stp hc hd ⟨Or.inr rfl, rfl⟩]; rfl)
theorem ab_r_lmul {a b : Int} (hc : ab_code k = cc) (hd : decode cc pc = .ok (.lmul, 1)) : ab_Run X k pc bd L (ab_J b :: ab_J a :: st) σ Q ↔ ab_Run X k (pc + 1) bd L (ab_J (ab_w64 (a * b)) :: st) σ Q := ab_Run_next (by rw [ab_stp hc hd ⟨Or.inr rfl, rfl⟩]; rfl)
theorem ab_r_lcmp {a b : Int} (hc : ab_code k = cc) (hd : decode cc pc = .ok (.lcmp, 1)) : ab_Run X k pc bd L (ab_J b :: ab_J a :: st) σ Q ↔ ab_Run X k (pc + 1) bd L (ab_I (if b < a then 1 else if a = b then 0 else -1) :: st) σ Q := ab_Run_next (by rw [ab_stp hc hd ⟨Or.inr rfl, rfl⟩]; rfl)
theorem ab_r_ldiv {a b : Int} (hc : ab_code k = cc) (hd : decode cc pc = .ok (.ldiv, 1)) : ab_Run X k pc bd L (ab_J b :: ab_J a :: st) σ Q ↔ b ≠ 0 ∧ ab_Run X k (pc + 1) bd L (ab_J (ab_w64 (a.tdiv b)) :: st) σ Q := ab_Run_if inferInstance (by rw [ab_stp hc hd ⟨Or.inr rfl, rfl⟩]; unfold ab_ex; dsimp only; unfold ab_j2; dsimp only; by_cases h0 : b = 0 <;> simp [h0])
theorem ab_r_lrem {a b : Int} (hc : ab_code k = cc) (hd : decode cc pc = .ok (.lrem, 1)) : ab_Run X k pc bd L (ab_J b :: ab_J a :: st) σ Q ↔ b ≠ 0 ∧ ab_Run X k (pc + 1) bd L (ab_J (a.tmod b) :: st) σ Q := ab_Run_if inferInstance (by rw [ab_stp hc hd ⟨Or.inr rfl, rfl⟩]; unfold ab_ex; dsimp only; unfold ab_j2; dsimp only; by_cases h0 : b = 0 <;> simp [h0])
theorem ab_r_ineg {a : Int} (hc : ab_code k = cc) (hd : decode cc pc = .ok (.ineg, 1)) : ab_Run X k pc bd L (ab_I a :: st) σ Q ↔ ab_Run X k (pc + 1) bd L (ab_I (ab_w32 (-a)) :: st) σ Q := ab_Run_next (by rw [ab_stp hc hd ⟨Or.inr rfl, rfl⟩]; rfl)
theorem ab_r_lneg {a : Int} (hc : ab_code k = cc) (hd : decode cc pc = .ok (.lneg, 1)) : ab_Run X k pc bd L (ab_J a :: st) σ Q ↔ ab_Run X k (pc + 1) bd L (ab_J (ab_w64 (-a)) :: st) σ Q := ab_Run_next (by rw [ab_stp hc hd ⟨Or.inr rfl, rfl⟩]; rfl)
theorem ab_r_i2l {a : Int} (hc : ab_code k = cc) (hd : decode cc pc = .ok (.i2l, 1)) : ab_Run X k pc bd L (ab_I a :: st) σ Q ↔ ab_Run X k (pc + 1) bd L (ab_J a :: st) σ Q := ab_Run_next (by rw [ab_stp hc hd ⟨Or.inr rfl, rfl⟩]; rfl)
theorem ab_r_l2i {a : Int} (hc : ab_code k = cc) (hd : decode cc pc = .ok (.l2i, 1)) : ab_Run X k pc bd L (ab_J a :: st) σ Q ↔ ab_Run X k (pc + 1) bd L (ab_I (ab_w32 a) :: st) σ Q := ab_Run_next (by rw [ab_stp hc hd ⟨Or.inr rfl, rfl⟩]; rfl)
theorem ab_r_i2b {a : Int} (hc : ab_code k = cc) (hd : decode cc pc = .ok (.i2b, 1)) : ab_Run X k pc bd L (ab_I a :: st) σ Q ↔ ab_Run X k (pc + 1) bd L (ab_I (ab_w8 a) :: st) σ Q := ab_Run_next (by rw [ab_stp hc hd ⟨Or.inr rfl, rfl⟩]; rfl)
theorem ab_r_lshl {a b : Int} (hc : ab_code k = cc) (hd : decode cc pc = .ok (.lshl, 1)) : ab_Run X k pc bd L (ab_I b :: ab_J a :: st) σ Q ↔ ab_Run X k (pc + 1) bd L (ab_J (Int64.ofInt a <<< ((Int32.ofInt b).toInt64 &&& 63)).toInt :: st) σ Q := ab_Run_next (by rw [ab_stp hc hd ⟨Or.inr rfl, rfl⟩]; rfl)
theorem ab_r_dupI {a : Int} (hc : ab_code k = cc) (hd : decode cc pc = .ok (.dup, 1)) : ab_Run X k pc bd L (ab_I a :: st) σ Q ↔ ab_Run X k (pc + 1) bd L (ab_I a :: ab_I a :: st) σ Q := ab_Run_next (by rw [ab_stp hc hd ⟨Or.inr rfl, rfl⟩]; rfl)
theorem ab_r_popI {a : Int} (hc : ab_code k = cc) (hd : decode cc pc = .ok (.pop, 1)) : ab_Run X k pc bd L (ab_I a :: st) σ Q ↔ ab_Run X k (pc + 1) bd L st σ Q := ab_Run_next (by rw [ab_stp hc hd ⟨Or.inr rfl, rfl⟩]; rfl)
theorem ab_r_dupR {a : Int} (hc : ab_code k = cc) (hd : decode cc pc = .ok (.dup, 1)) : ab_Run X k pc bd L (ab_R a :: st) σ Q ↔ ab_Run X k (pc + 1) bd L (ab_R a :: ab_R a :: st) σ Q := ab_Run_next (by rw [ab_stp hc hd ⟨Or.inr rfl, rfl⟩]; rfl)
theorem ab_r_popR {a : Int} (hc : ab_code k = cc) (hd : decode cc pc = .ok (.pop, 1)) : ab_Run X k pc bd L (ab_R a :: st) σ Q ↔ ab_Run X k (pc + 1) bd L st σ Q := ab_Run_next (by rw [ab_stp hc hd ⟨Or.inr rfl, rfl⟩]; rfl)
theorem ab_r_dup2 {a b : Int} (hc : ab_code k = cc) (hd : decode cc pc = .ok (.dup2, 1)) : ab_Run X k pc bd L (ab_I b :: ab_R a :: st) σ Q ↔ ab_Run X k (pc + 1) bd L (ab_I b :: ab_R a :: ab_I b :: ab_R a :: st) σ Q := ab_Run_next (by rw [ab_stp hc hd ⟨Or.inr rfl, rfl⟩]; rfl)
theorem ab_r_goto {off : Int} {pt : Nat} (ht : (pc : Int) + off = (pt : Int)) (hc : ab_code k = cc) (hd : decode cc pc = .ok (.goto off, 3)) : ab_Run X k pc bd L st σ Q ↔ ab_Run X k (pt) bd L st σ Q := ab_Run_next (by rw [ab_stp hc hd ⟨Or.inr rfl, rfl⟩]; unfold ab_ex; dsimp only; unfold ab_tg; rw [if_pos (by omega)]; unfold ab_nx; rw [show ((pc : Int) + off).toNat = pt by omega])
theorem ab_r_icmp_eq {a b off : Int} {pt : Nat} (ht : (pc : Int) + off = (pt : Int)) (hc : ab_code k = cc) (hd : decode cc pc = .ok (.if_icmp .eq off, 3)) : ab_Run X k pc bd L (ab_I b :: ab_I a :: st) σ Q ↔ (a = b → ab_Run X k pt bd L st σ Q) ∧ (¬ (a = b) → ab_Run X k (pc + 3) bd L st σ Q) := ab_Run_br inferInstance (by rw [ab_stp hc hd ⟨Or.inr rfl, rfl⟩]; unfold ab_ex; dsimp only; unfold ab_br; rw [if_pos (by omega), show ((pc : Int) + off).toNat = pt by omega]; unfold ab_nx ab_cond; dsimp only; by_cases h0 : a = b <;> simp [h0])
theorem ab_r_if_eq {a off : Int} {pt : Nat} (ht : (pc : Int) + off = (pt : Int)) (hc : ab_code k = cc) (hd : decode cc pc = .ok (.ifCond .eq off, 3)) : ab_Run X k pc bd L (ab_I a :: st) σ Q ↔ (a = 0 → ab_Run X k pt bd L st σ Q) ∧ (¬ (a = 0) → ab_Run X k (pc + 3) bd L st σ Q) := ab_Run_br inferInstance (by rw [ab_stp hc hd ⟨Or.inr rfl, rfl⟩]; unfold ab_ex; dsimp only; unfold ab_br; rw [if_pos (by omega), show ((pc : Int) + off).toNat = pt by omega]; unfold ab_nx ab_cond; dsimp only; by_cases h0 : a = 0 <;> simp [h0])
theorem ab_r_icmp_ne {a b off : Int} {pt : Nat} (ht : (pc : Int) + off = (pt : Int)) (hc : ab_code k = cc) (hd : decode cc pc = .ok (.if_icmp .ne off, 3)) : ab_Run X k pc bd L (ab_I b :: ab_I a :: st) σ Q ↔ (¬ a = b → ab_Run X k pt bd L st σ Q) ∧ (¬ (¬ a = b) → ab_Run X k (pc + 3) bd L st σ Q) := ab_Run_br inferInstance (by rw [ab_stp hc hd ⟨Or.inr rfl, rfl⟩]; unfold ab_ex; dsimp only; unfold ab_br; rw [if_pos (by omega), show ((pc : Int) + off).toNat = pt by omega]; unfold ab_nx ab_cond; dsimp only; by_cases h0 : ¬ a = b <;> simp [h0])
theorem ab_r_if_ne {a off : Int} {pt : Nat} (ht : (pc : Int) + off = (pt : Int)) (hc : ab_code k = cc) (hd : decode cc pc = .ok (.ifCond .ne off, 3)) : ab_Run X k pc bd L (ab_I a :: st) σ Q ↔ (¬ a = 0 → ab_Run X k pt bd L st σ Q) ∧ (¬ (¬ a = 0) → ab_Run X k (pc + 3) bd L st σ Q) := ab_Run_br inferInstance (by rw [ab_stp hc hd ⟨Or.inr rfl, rfl⟩]; unfold ab_ex; dsimp only; unfold ab_br; rw [if_pos (by omega), show ((pc : Int) + off).toNat = pt by omega]; unfold ab_nx ab_cond; dsimp only; by_cases h0 : ¬ a = 0 <;> simp [h0])
theorem ab_r_icmp_lt {a b off : Int} {pt : Nat} (ht : (pc : Int) + off = (pt : Int)) (hc : ab_code k = cc) (hd : decode cc pc = .ok (.if_icmp .lt off, 3)) : ab_Run X k pc bd L (ab_I b :: ab_I a :: st) σ Q ↔ (a < b → ab_Run X k pt bd L st σ Q) ∧ (¬ (a < b) → ab_Run X k (pc + 3) bd L st σ Q) := ab_Run_br inferInstance (by rw [ab_stp hc hd ⟨Or.inr rfl, rfl⟩]; unfold ab_ex; dsimp only; unfold ab_br; rw [if_pos (by omega), show ((pc : Int) + off).toNat = pt by omega]; unfold ab_nx ab_cond; dsimp only; by_cases h0 : a < b <;> simp [h0])
theorem ab_r_if_lt {a off : Int} {pt : Nat} (ht : (pc : Int) + off = (pt : Int)) (hc : ab_code k = cc) (hd : decode cc pc = .ok (.ifCond .lt off, 3)) : ab_Run X k pc bd L (ab_I a :: st) σ Q ↔ (a < 0 → ab_Run X k pt bd L st σ Q) ∧ (¬ (a < 0) → ab_Run X k (pc + 3) bd L st σ Q) := ab_Run_br inferInstance (by rw [ab_stp hc hd ⟨Or.inr rfl, rfl⟩]; unfold ab_ex; dsimp only; unfold ab_br; rw [if_pos (by omega), show ((pc : Int) + off).toNat = pt by omega]; unfold ab_nx ab_cond; dsimp only; by_cases h0 : a < 0 <;> simp [h0])
theorem ab_r_icmp_ge {a b off : Int} {pt : Nat} (ht : (pc : Int) + off = (pt : Int)) (hc : ab_code k = cc) (hd : decode cc pc = .ok (.if_icmp .ge off, 3)) : ab_Run X k pc bd L (ab_I b :: ab_I a :: st) σ Q ↔ (b ≤ a → ab_Run X k pt bd L st σ Q) ∧ (¬ (b ≤ a) → ab_Run X k (pc + 3) bd L st σ Q) := ab_Run_br inferInstance (by rw [ab_stp hc hd ⟨Or.inr rfl, rfl⟩]; unfold ab_ex; dsimp only; unfold ab_br; rw [if_pos (by omega), show ((pc : Int) + off).toNat = pt by omega]; unfold ab_nx ab_cond; dsimp only; by_cases h0 : b ≤ a <;> simp [h0])
theorem ab_r_if_ge {a off : Int} {pt : Nat} (ht : (pc : Int) + off = (pt : Int)) (hc : ab_code k = cc) (hd : decode cc pc = .ok (.ifCond .ge off, 3)) : ab_Run X k pc bd L (ab_I a :: st) σ Q ↔ (0 ≤ a → ab_Run X k pt bd L st σ Q) ∧ (¬ (0 ≤ a) → ab_Run X k (pc + 3) bd L st σ Q) := ab_Run_br inferInstance (by rw [ab_stp hc hd ⟨Or.inr rfl, rfl⟩]; unfold ab_ex; dsimp only; unfold ab_br; rw [if_pos (by omega), show ((pc : Int) + off).toNat = pt by omega]; unfold ab_nx ab_cond; dsimp only; by_cases h0 : 0 ≤ a <;> simp [h0])
theorem ab_r_icmp_gt {a b off : Int} {pt : Nat} (ht : (pc : Int) + off = (pt : Int)) (hc : ab_code k = cc) (hd : decode cc pc = .ok (.if_icmp .gt off, 3)) : ab_Run X k pc bd L (ab_I b :: ab_I a :: st) σ Q ↔ (b < a → ab_Run X k pt bd L st σ Q) ∧ (¬ (b < a) → ab_Run X k (pc + 3) bd L st σ Q) := ab_Run_br inferInstance (by rw [ab_stp hc hd ⟨Or.inr rfl, rfl⟩]; unfold ab_ex; dsimp only; unfold ab_br; rw [if_pos (by omega), show ((pc : Int) + off).toNat = pt by omega]; unfold ab_nx ab_cond; dsimp only; by_cases h0 : b < a <;> simp [h0])
theorem ab_r_if_gt {a off : Int} {pt : Nat} (ht : (pc : Int) + off = (pt : Int)) (hc : ab_code k = cc) (hd : decode cc pc = .ok (.ifCond .gt off, 3)) : ab_Run X k pc bd L (ab_I a :: st) σ Q ↔ (0 < a → ab_Run X k pt bd L st σ Q) ∧ (¬ (0 < a) → ab_Run X k (pc + 3) bd L st σ Q) := ab_Run_br inferInstance (by rw [ab_stp hc hd ⟨Or.inr rfl, rfl⟩]; unfold ab_ex; dsimp only; unfold ab_br; rw [if_pos (by omega), show ((pc : Int) + off).toNat = pt by omega]; unfold ab_nx ab_cond; dsimp only; by_cases h0 : 0 < a <;> simp [h0])
theorem ab_r_icmp_le {a b off : Int} {pt : Nat} (ht : (pc : Int) + off = (pt : Int)) (hc : ab_code k = cc) (hd : decode cc pc = .ok (.if_icmp .le off, 3)) : ab_Run X k pc bd L (ab_I b :: ab_I a :: st) σ Q ↔ (a ≤ b → ab_Run X k pt bd L st σ Q) ∧ (¬ (a ≤ b) → ab_Run X k (pc + 3) bd L st σ Q) := ab_Run_br inferInstance (by rw [ab_stp hc hd ⟨Or.inr rfl, rfl⟩]; unfold ab_ex; dsimp only; unfold ab_br; rw [if_pos (by omega), show ((pc : Int) + off).toNat = pt by omega]; unfold ab_nx ab_cond; dsimp only; by_cases h0 : a ≤ b <;> simp [h0])
theorem ab_r_if_le {a off : Int} {pt : Nat} (ht : (pc : Int) + off = (pt : Int)) (hc : ab_code k = cc) (hd : decode cc pc = .ok (.ifCond .le off, 3)) : ab_Run X k pc bd L (ab_I a :: st) σ Q ↔ (a ≤ 0 → ab_Run X k pt bd L st σ Q) ∧ (¬ (a ≤ 0) → ab_Run X k (pc + 3) bd L st σ Q) := ab_Run_br inferInstance (by rw [ab_stp hc hd ⟨Or.inr rfl, rfl⟩]; unfold ab_ex; dsimp only; unfold ab_br; rw [if_pos (by omega), show ((pc : Int) + off).toNat = pt by omega]; unfold ab_nx ab_cond; dsimp only; by_cases h0 : a ≤ 0 <;> simp [h0])
theorem ab_r_ifnull {a off : Int} {pt : Nat} (ht : (pc : Int) + off = (pt : Int)) (hc : ab_code k = cc) (hd : decode cc pc = .ok (.ifnull off, 3)) : ab_Run X k pc bd L (ab_R a :: st) σ Q ↔ (a = 0 → ab_Run X k pt bd L st σ Q) ∧ (¬ (a = 0) → ab_Run X k (pc + 3) bd L st σ Q) := ab_Run_br inferInstance (by rw [ab_stp hc hd ⟨Or.inr rfl, rfl⟩]; unfold ab_ex; dsimp only; unfold ab_br; rw [if_pos (by omega), show ((pc : Int) + off).toNat = pt by omega]; unfold ab_nx; by_cases h0 : a = 0 <;> simp [h0])
theorem ab_r_ifnonnull {a off : Int} {pt : Nat} (ht : (pc : Int) + off = (pt : Int)) (hc : ab_code k = cc) (hd : decode cc pc = .ok (.ifnonnull off, 3)) : ab_Run X k pc bd L (ab_R a :: st) σ Q ↔ (¬ a = 0 → ab_Run X k pt bd L st σ Q) ∧ (¬ (¬ a = 0) → ab_Run X k (pc + 3) bd L st σ Q) := ab_Run_br inferInstance (by rw [ab_stp hc hd ⟨Or.inr rfl, rfl⟩]; unfold ab_ex; dsimp only; unfold ab_br; rw [if_pos (by omega), show ((pc : Int) + off).toNat = pt by omega]; unfold ab_nx; by_cases h0 : ¬ a = 0 <;> simp [h0])
theorem ab_r_tsw {d lo hi off a : Int} {offs : Array Int} {len pt : Nat} (h1 : ¬ (a < lo ∨ hi < a)) (h2 : offs[(a - lo).toNat]? = some off) (ht : (pc : Int) + off = (pt : Int)) (hc : ab_code k = cc) (hd : decode cc pc = .ok (.tableswitch d lo hi offs, len)) : ab_Run X k pc bd L (ab_I a :: st) σ Q ↔ ab_Run X k pt bd L st σ Q := ab_Run_next (by rw [ab_stp hc hd ⟨Or.inl rfl, rfl⟩]; unfold ab_ex; dsimp only; rw [if_neg h1, h2]; dsimp only; unfold ab_tg; rw [if_pos (by omega)]; unfold ab_nx; rw [show ((pc : Int) + off).toNat = pt by omega])
theorem ab_r_tswd {d lo hi a : Int} {offs : Array Int} {len pt : Nat} (h1 : a < lo ∨ hi < a) (ht : (pc : Int) + d = (pt : Int)) (hc : ab_code k = cc) (hd : decode cc pc = .ok (.tableswitch d lo hi offs, len)) : ab_Run X k pc bd L (ab_I a :: st) σ Q ↔ ab_Run X k pt bd L st σ Q := ab_Run_next (by rw [ab_stp hc hd ⟨Or.inl rfl, rfl⟩]; unfold ab_ex; dsimp only; rw [if_pos h1]; unfold ab_tg; rw [if_pos (by omega)]; unfold ab_nx; rw [show ((pc : Int) + d).toNat = pt by omega])
theorem ab_r_getI {i o c f n : Nat} {a c1 fi : Int} (hi : decide (i < 1000) = true) (ho : ab_ow k = o) (hf : ab_lk ab_pF (1000 * o + i) = some (c, f, n)) (hN : f < ab_N c) (hc1 : (c : Int) + 1 = c1) (hfi : (f : Int) = fi) (hty : ∀ z, ab_get (ab_ty c f) z = some (ab_I z)) (hc : ab_code k = cc) (hd : decode cc pc = .ok (.getfield i, 3)) : ab_Run X k pc bd L (ab_R a :: st) σ Q ↔ (ab_sh σ a).1 = c1 ∧ ab_Run X k (pc + 3) bd L (ab_I (ab_rd σ a fi) :: st) σ Q := ab_Run_if inferInstance (by rw [ab_stp hc hd ⟨Or.inr rfl, hi⟩]; unfold ab_ex ab_fld; dsimp only; rw [ho, hf]; dsimp only; rw [← hc1, ← hfi]; by_cases h0 : (ab_sh σ a).1 = (c : Int) + 1 <;> simp [h0, hN, hty])
theorem ab_r_getJ {i o c f n : Nat} {a c1 fi : Int} (hi : decide (i < 1000) = true) (ho : ab_ow k = o) (hf : ab_lk ab_pF (1000 * o + i) = some (c, f, n)) (hN : f < ab_N c) (hc1 : (c : Int) + 1 = c1) (hfi : (f : Int) = fi) (hty : ∀ z, ab_get (ab_ty c f) z = some (ab_J z)) (hc : ab_code k = cc) (hd : decode cc pc = .ok (.getfield i, 3)) : ab_Run X k pc bd L (ab_R a :: st) σ Q ↔ (ab_sh σ a).1 = c1 ∧ ab_Run X k (pc + 3) bd L (ab_J (ab_rd σ a fi) :: st) σ Q := ab_Run_if inferInstance (by rw [ab_stp hc hd ⟨Or.inr rfl, hi⟩]; unfold ab_ex ab_fld; dsimp only; rw [ho, hf]; dsimp only; rw [← hc1, ← hfi]; by_cases h0 : (ab_sh σ a).1 = (c : Int) + 1 <;> simp [h0, hN, hty])
theorem ab_r_getR {i o c f n : Nat} {a c1 fi : Int} (hi : decide (i < 1000) = true) (ho : ab_ow k = o) (hf : ab_lk ab_pF (1000 * o + i) = some (c, f, n)) (hN : f < ab_N c) (hc1 : (c : Int) + 1 = c1) (hfi : (f : Int) = fi) (hty : ∀ z, ab_get (ab_ty c f) z = some (ab_R z)) (hc : ab_code k = cc) (hd : decode cc pc = .ok (.getfield i, 3)) : ab_Run X k pc bd L (ab_R a :: st) σ Q ↔ (ab_sh σ a).1 = c1 ∧ ab_Run X k (pc + 3) bd L (ab_R (ab_rd σ a fi) :: st) σ Q := ab_Run_if inferInstance (by rw [ab_stp hc hd ⟨Or.inr rfl, hi⟩]; unfold ab_ex ab_fld; dsimp only; rw [ho, hf]; dsimp only; rw [← hc1, ← hfi]; by_cases h0 : (ab_sh σ a).1 = (c : Int) + 1 <;> simp [h0, hN, hty])
theorem ab_r_putI {i o c f n : Nat} {a z c1 fi : Int} (hi : decide (i < 1000) = true) (ho : ab_ow k = o) (hf : ab_lk ab_pF (1000 * o + i) = some (c, f, n)) (hN : f < ab_N c) (hc1 : (c : Int) + 1 = c1) (hfi : (f : Int) = fi) (hfin : (ab_T c f).2.2.2 = false) (hty : ∀ z, ab_put (ab_ty c f) (ab_I z) = some z) (hc : ab_code k = cc) (hd : decode cc pc = .ok (.putfield i, 3)) : ab_Run X k pc bd L (ab_I z :: ab_R a :: st) σ Q ↔ (ab_sh σ a).1 = c1 ∧ ab_Run X k (pc + 3) bd L st (ab_wr σ a fi z) Q := ab_Run_if inferInstance (by rw [ab_stp hc hd ⟨Or.inr rfl, hi⟩]; unfold ab_ex ab_fld; dsimp only; rw [ho, hf]; dsimp only; rw [← hc1, ← hfi]; by_cases h0 : (ab_sh σ a).1 = (c : Int) + 1 <;> simp [h0, hN, hfin, hty])
theorem ab_r_putJ {i o c f n : Nat} {a z c1 fi : Int} (hi : decide (i < 1000) = true) (ho : ab_ow k = o) (hf : ab_lk ab_pF (1000 * o + i) = some (c, f, n)) (hN : f < ab_N c) (hc1 : (c : Int) + 1 = c1) (hfi : (f : Int) = fi) (hfin : (ab_T c f).2.2.2 = false) (hty : ∀ z, ab_put (ab_ty c f) (ab_J z) = some z) (hc : ab_code k = cc) (hd : decode cc pc = .ok (.putfield i, 3)) : ab_Run X k pc bd L (ab_J z :: ab_R a :: st) σ Q ↔ (ab_sh σ a).1 = c1 ∧ ab_Run X k (pc + 3) bd L st (ab_wr σ a fi z) Q := ab_Run_if inferInstance (by rw [ab_stp hc hd ⟨Or.inr rfl, hi⟩]; unfold ab_ex ab_fld; dsimp only; rw [ho, hf]; dsimp only; rw [← hc1, ← hfi]; by_cases h0 : (ab_sh σ a).1 = (c : Int) + 1 <;> simp [h0, hN, hfin, hty])
theorem ab_r_putR {i o c f n : Nat} {a z c1 fi : Int} (hi : decide (i < 1000) = true) (ho : ab_ow k = o) (hf : ab_lk ab_pF (1000 * o + i) = some (c, f, n)) (hN : f < ab_N c) (hc1 : (c : Int) + 1 = c1) (hfi : (f : Int) = fi) (hfin : (ab_T c f).2.2.2 = false) (hty : ∀ z, ab_put (ab_ty c f) (ab_R z) = some z) (hc : ab_code k = cc) (hd : decode cc pc = .ok (.putfield i, 3)) : ab_Run X k pc bd L (ab_R z :: ab_R a :: st) σ Q ↔ (ab_sh σ a).1 = c1 ∧ ab_Run X k (pc + 3) bd L st (ab_wr σ a fi z) Q := ab_Run_if inferInstance (by rw [ab_stp hc hd ⟨Or.inr rfl, hi⟩]; unfold ab_ex ab_fld; dsimp only; rw [ho, hf]; dsimp only; rw [← hc1, ← hfi]; by_cases h0 : (ab_sh σ a).1 = (c : Int) + 1 <;> simp [h0, hN, hfin, hty])
theorem ab_r_putZ {i o c f n : Nat} {a z c1 fi : Int} (hi : decide (i < 1000) = true) (ho : ab_ow k = o) (hf : ab_lk ab_pF (1000 * o + i) = some (c, f, n)) (hN : f < ab_N c) (hc1 : (c : Int) + 1 = c1) (hfi : (f : Int) = fi) (hfin : (ab_T c f).2.2.2 = false) (hty : ∀ z, ab_put (ab_ty c f) (ab_I z) = if z = 0 ∨ z = 1 then some z else none) (hc : ab_code k = cc) (hd : decode cc pc = .ok (.putfield i, 3)) : ab_Run X k pc bd L (ab_I z :: ab_R a :: st) σ Q ↔ ((ab_sh σ a).1 = c1 ∧ (z = 0 ∨ z = 1)) ∧ ab_Run X k (pc + 3) bd L st (ab_wr σ a fi z) Q := ab_Run_if inferInstance (by rw [ab_stp hc hd ⟨Or.inr rfl, hi⟩]; unfold ab_ex ab_fld; dsimp only; rw [ho, hf]; dsimp only; rw [← hc1, ← hfi]; by_cases h0 : (ab_sh σ a).1 = (c : Int) + 1 <;> by_cases h2 : (z = 0 ∨ z = 1) <;> simp [h0, h2, hN, hfin, hty])
theorem ab_r_iaload {i a : Int} (hk : ¬ k = ab_klaw) (hc : ab_code k = cc) (hd : decode cc pc = .ok (.iaload, 1)) : ab_Run X k pc bd L (ab_I i :: ab_R a :: st) σ Q ↔ ((ab_sh σ a).1 = 21 ∧ 0 ≤ i ∧ i < (ab_sh σ a).2) ∧ ab_Run X k (pc + 1) bd L (ab_I (ab_rd σ a i) :: st) σ Q := ab_Run_if inferInstance (by rw [ab_stp hc hd ⟨Or.inr rfl, rfl⟩]; unfold ab_ex; dsimp only; rw [if_neg hk]; rfl)
theorem ab_r_ialoadX {i a : Int} (hk : k = ab_klaw) (hc : ab_code k = cc) (hd : decode cc pc = .ok (.iaload, 1)) : ab_Run X k pc bd L (ab_I i :: ab_R a :: st) σ Q ↔ (a = -1 ∧ 0 ≤ i ∧ i < X.1) ∧ ab_Run X k (pc + 1) bd L (ab_I (X.2 i) :: st) σ Q := ab_Run_if inferInstance (by rw [ab_stp hc hd ⟨Or.inr rfl, rfl⟩]; unfold ab_ex; dsimp only; rw [if_pos hk])
theorem ab_r_laload {i a : Int} (hc : ab_code k = cc) (hd : decode cc pc = .ok (.laload, 1)) : ab_Run X k pc bd L (ab_I i :: ab_R a :: st) σ Q ↔ ((ab_sh σ a).1 = 22 ∧ 0 ≤ i ∧ i < (ab_sh σ a).2) ∧ ab_Run X k (pc + 1) bd L (ab_J (ab_rd σ a i) :: st) σ Q := ab_Run_if inferInstance (by rw [ab_stp hc hd ⟨Or.inr rfl, rfl⟩]; rfl)
theorem ab_ifc {α : Type} {P P' : Prop} (hP : Decidable P) (hP' : Decidable P') (h : P ↔ P') (x y : α) : (if P then x else y) = if P' then x else y := by
  by_cases hp : P
  · rw [if_pos hp, if_pos (h.mp hp)]
  · rw [if_neg hp, if_neg (fun q => hp (h.mpr q))]
theorem ab_ald_eq {g : Nat} {mk : Int → ab_V} {i a : Int} : ab_ald g pc bd L (ab_I i :: ab_R a :: st) σ mk = if (ab_sh σ a).1 = 21 + (g : Int) ∧ 0 ≤ i ∧ i < (ab_sh σ a).2 then ab_nx pc bd L (mk (ab_rd σ a i) :: st) σ else none := rfl
theorem ab_mk_if {P P' : Prop} (hP : Decidable P) (hP' : Decidable P') (x : ab_Q) : ab_mk (if P then some x else none) (if P' then some x else none) = if P ∨ P' then some x else none := by
  by_cases h : P <;> by_cases h' : P' <;> simp [ab_mk, h, h']
theorem ab_r_baload {i a : Int} (hc : ab_code k = cc) (hd : decode cc pc = .ok (.baload, 1)) : ab_Run X k pc bd L (ab_I i :: ab_R a :: st) σ Q ↔ (((ab_sh σ a).1 = 23 ∨ (ab_sh σ a).1 = 24) ∧ 0 ≤ i ∧ i < (ab_sh σ a).2) ∧ ab_Run X k (pc + 1) bd L (ab_I (ab_rd σ a i) :: st) σ Q := ab_Run_if inferInstance (by rw [ab_stp hc hd ⟨Or.inr rfl, rfl⟩]; unfold ab_ex; dsimp only; rw [ab_ald_eq, ab_ald_eq]; unfold ab_nx; rw [ab_mk_if]; exact ab_ifc _ _ (by omega) _ _)
theorem ab_r_aaload {i a : Int} (hc : ab_code k = cc) (hd : decode cc pc = .ok (.aaload, 1)) : ab_Run X k pc bd L (ab_I i :: ab_R a :: st) σ Q ↔ ((25 ≤ (ab_sh σ a).1 ∧ (ab_sh σ a).1 < 30) ∧ 0 ≤ i ∧ i < (ab_sh σ a).2) ∧ ab_Run X k (pc + 1) bd L (ab_R (ab_rd σ a i) :: st) σ Q := ab_Run_if inferInstance (by rw [ab_stp hc hd ⟨Or.inr rfl, rfl⟩]; unfold ab_ex; dsimp only; rw [ab_ald_eq, ab_ald_eq, ab_ald_eq, ab_ald_eq, ab_ald_eq]; unfold ab_nx; rw [ab_mk_if, ab_mk_if, ab_mk_if, ab_mk_if]; exact ab_ifc _ _ (by omega) _ _)
theorem ab_r_iastore {i a v : Int} (hc : ab_code k = cc) (hd : decode cc pc = .ok (.iastore, 1)) : ab_Run X k pc bd L (ab_I v :: ab_I i :: ab_R a :: st) σ Q ↔ ((ab_sh σ a).1 = 21 ∧ 0 ≤ i ∧ i < (ab_sh σ a).2) ∧ ab_Run X k (pc + 1) bd L st (ab_wr σ a i v) Q := ab_Run_if inferInstance (by rw [ab_stp hc hd ⟨Or.inr rfl, rfl⟩]; rfl)
theorem ab_r_lastore {i a v : Int} (hc : ab_code k = cc) (hd : decode cc pc = .ok (.lastore, 1)) : ab_Run X k pc bd L (ab_J v :: ab_I i :: ab_R a :: st) σ Q ↔ ((ab_sh σ a).1 = 22 ∧ 0 ≤ i ∧ i < (ab_sh σ a).2) ∧ ab_Run X k (pc + 1) bd L st (ab_wr σ a i v) Q := ab_Run_if inferInstance (by rw [ab_stp hc hd ⟨Or.inr rfl, rfl⟩]; rfl)
theorem ab_r_bastoreB {i a v : Int} (h : (ab_sh σ a).1 = 23 ∧ 0 ≤ i ∧ i < (ab_sh σ a).2) (hc : ab_code k = cc) (hd : decode cc pc = .ok (.bastore, 1)) : ab_Run X k pc bd L (ab_I v :: ab_I i :: ab_R a :: st) σ Q ↔ ab_Run X k (pc + 1) bd L st (ab_wr σ a i (ab_w8 v)) Q := ab_Run_next (by rw [ab_stp hc hd ⟨Or.inr rfl, rfl⟩]; unfold ab_ex; dsimp only; rw [if_pos h]; rfl)
theorem ab_r_bastoreZ {i a v : Int} (h : (ab_sh σ a).1 = 24 ∧ 0 ≤ i ∧ i < (ab_sh σ a).2 ∧ (v = 0 ∨ v = 1)) (hc : ab_code k = cc) (hd : decode cc pc = .ok (.bastore, 1)) : ab_Run X k pc bd L (ab_I v :: ab_I i :: ab_R a :: st) σ Q ↔ ab_Run X k (pc + 1) bd L st (ab_wr σ a i v) Q := ab_Run_next (by rw [ab_stp hc hd ⟨Or.inr rfl, rfl⟩]; unfold ab_ex; dsimp only; rw [if_neg (fun q => by omega), if_pos h]; rfl)
theorem ab_r_aastore {i a v : Int} (hc : ab_code k = cc) (hd : decode cc pc = .ok (.aastore, 1)) : ab_Run X k pc bd L (ab_R v :: ab_I i :: ab_R a :: st) σ Q ↔ (ab_aok (ab_sh σ a).1 (ab_sh σ v).1 ∧ 0 ≤ i ∧ i < (ab_sh σ a).2) ∧ ab_Run X k (pc + 1) bd L st (ab_wr σ a i v) Q := ab_Run_if inferInstance (by rw [ab_stp hc hd ⟨Or.inr rfl, rfl⟩]; rfl)
theorem ab_r_arraylength {a : Int} (hk : ¬ k = ab_klaw) (hc : ab_code k = cc) (hd : decode cc pc = .ok (.arraylength, 1)) : ab_Run X k pc bd L (ab_R a :: st) σ Q ↔ (21 ≤ (ab_sh σ a).1 ∧ (ab_sh σ a).1 < 30) ∧ ab_Run X k (pc + 1) bd L (ab_I (ab_sh σ a).2 :: st) σ Q := ab_Run_if inferInstance (by rw [ab_stp hc hd ⟨Or.inr rfl, rfl⟩]; unfold ab_ex; dsimp only; rw [if_neg hk])
theorem ab_r_arraylengthX {a : Int} (hk : k = ab_klaw) (hc : ab_code k = cc) (hd : decode cc pc = .ok (.arraylength, 1)) : ab_Run X k pc bd L (ab_R a :: st) σ Q ↔ a = -1 ∧ ab_Run X k (pc + 1) bd L (ab_I X.1 :: st) σ Q := ab_Run_if inferInstance (by rw [ab_stp hc hd ⟨Or.inr rfl, rfl⟩]; unfold ab_ex; dsimp only; rw [if_pos hk])
theorem ab_r_ireturnI {v : Int} (ht : ab_rt k = some .int) (hc : ab_code k = cc) (hd : decode cc pc = .ok (.ireturn, 1)) : ab_Run X k pc bd L [ab_I v] σ Q ↔ Q (some (ab_I v)) σ := ab_Run_ret (by rw [ab_stp hc hd ⟨Or.inr rfl, rfl⟩]; unfold ab_ex; dsimp only; rw [ht])
theorem ab_r_ireturnZ {v : Int} (ht : ab_rt k = some .boolean) (hc : ab_code k = cc) (hd : decode cc pc = .ok (.ireturn, 1)) : ab_Run X k pc bd L [ab_I v] σ Q ↔ (v = 0 ∨ v = 1) ∧ Q (some (ab_I v)) σ := by
  have hs : ab_step X k pc bd L [ab_I v] σ = if v = 0 ∨ v = 1 then some (.inr (.inl (some (ab_I v)))) else none := by
    rw [ab_stp hc hd ⟨Or.inr rfl, rfl⟩]; unfold ab_ex; dsimp only; rw [ht]
  by_cases hv : v = 0 ∨ v = 1
  · rw [if_pos hv] at hs
    rw [ab_Run_ret hs]
    exact ⟨fun q => ⟨hv, q⟩, fun q => q.2⟩
  · rw [if_neg hv] at hs
    rw [ab_Run_none hs]
    exact ⟨False.elim, fun q => hv q.1⟩
theorem ab_r_lreturn {v : Int} (ht : ab_rt k = some .long) (hc : ab_code k = cc) (hd : decode cc pc = .ok (.lreturn, 1)) : ab_Run X k pc bd L [ab_J v] σ Q ↔ Q (some (ab_J v)) σ := ab_Run_ret (by rw [ab_stp hc hd ⟨Or.inr rfl, rfl⟩]; unfold ab_ex; dsimp only; rw [ht])
theorem ab_r_return (ht : ab_rt k = none) (hc : ab_code k = cc) (hd : decode cc pc = .ok (.return_, 1)) : ab_Run X k pc bd L [] σ Q ↔ Q none σ := ab_Run_ret (by rw [ab_stp hc hd ⟨Or.inr rfl, rfl⟩]; unfold ab_ex; dsimp only; rw [ht])
theorem ab_inv_eqS {i y n : Nat} (hm : ab_mth k i = some (y, n)) (hy : y < 1000 ∧ y ≠ ab_kled) (hkd : ab_kd y = 1) : ab_inv 1 k pc i bd L st σ = if (st.take (ab_np y)).length = ab_np y then ab_call y (st.take (ab_np y)).reverse bd (st.drop (ab_np y)) else none := by
  unfold ab_inv
  rw [hm]
  dsimp only
  rw [if_neg (by omega), if_neg (by omega), if_neg (by omega), if_neg (by omega), if_neg (by omega), if_neg (by omega), if_neg (by omega), if_neg (by have := hy.2; omega), if_pos hkd]
  rfl
theorem ab_inv_eqV {kd i y n : Nat} (hk1 : kd = 0 ∨ kd = 2) (hm : ab_mth k i = some (y, n)) (hy : y < 1000 ∧ y ≠ ab_kled) (hkd : ab_kd y = kd) {a : Int} {rest : List ab_V} (hdr : st.drop (ab_np y) = ab_R a :: rest) : ab_inv kd k pc i bd L st σ = if (ab_sh σ a).1 = (ab_ow y : Int) + 1 ∧ (st.take (ab_np y)).length = ab_np y then ab_call y (ab_R a :: (st.take (ab_np y)).reverse) bd rest else none := by
  unfold ab_inv
  rw [hm]
  dsimp only
  rw [if_neg (by omega), if_neg (by omega), if_neg (by omega), if_neg (by omega), if_neg (by omega), if_neg (by omega), if_neg (by omega), if_neg (by have := hy.2; omega), if_pos hkd]
  rcases hk1 with rfl | rfl
  · rw [hdr]; rfl
  · rw [hdr]; rfl
/-- a call of an object's method: w the arguments, the last first -/
theorem ab_r_callV {i y n o : Nat} {a : Int} {w rest : List ab_V} {as : List ab_V} {c1 : Int} {b1 : ab_B} (kd : Nat) (hk1 : kd = 0 ∨ kd = 2) (hi : i < 1000) (ho : ab_ow k = o) (hm : ab_lk ab_pM (1000 * o + i) = some (y, n)) (hy : y < 1000 ∧ y ≠ ab_kled) (hkd : ab_kd y = kd) (hnp : w.length = ab_np y) (hw : w.reverse = as) (how : (ab_ow y : Int) + 1 = c1) (hb : ab_bud y (ab_R a :: as) = b1) (hbd : b1.1 + 1 ≤ bd.1 ∧ b1.2.1 ≤ bd.2.1 ∧ b1.2.2 ≤ bd.2.2) (hal : (ab_args (ab_R a :: as)).length ≤ ab_mx y) (hc : ab_code k = cc) (hd : decode cc pc = .ok (ab_ivk kd i, 3)) :
    ab_Run X k pc bd L (w ++ ab_R a :: rest) σ Q ↔ ((ab_sh σ a).1 = c1 ∧ ab_cats rest ≤ 8) ∧ ab_Do X y (ab_R a :: as) σ (fun r σ' => ab_Run X k (pc + 3) (bd.1, bd.2.1 - b1.2.1, bd.2.2 - b1.2.2) L (ab_psh r rest) σ' Q) := by
  refine ab_Run_callif inferInstance ?_
  have e1 : (w ++ ab_R a :: rest).drop (ab_np y) = ab_R a :: rest := by rw [← hnp, List.drop_left]
  have e2 : (w ++ ab_R a :: rest).take (ab_np y) = w := by rw [← hnp, List.take_left]
  rw [ab_stp hc hd ⟨Or.inr ab_ivk_len.1.symm, by rw [ab_ivk_len.2]; exact decide_eq_true hi⟩, ab_ivk_ex (by omega), ab_inv_eqV hk1 (by unfold ab_mth; rw [ho]; exact hm) hy hkd e1, e2]
  subst hw
  subst hb
  unfold ab_call
  rw [how]
  by_cases h1 : (ab_sh σ a).1 = c1 <;> by_cases h2 : ab_cats rest ≤ 8 <;> simp [h1, h2, hnp, hbd, hal]
theorem ab_r_callS {i y n o : Nat} {w rest : List ab_V} {as : List ab_V} {b1 : ab_B} (hi : i < 1000) (ho : ab_ow k = o) (hm : ab_lk ab_pM (1000 * o + i) = some (y, n)) (hy : y < 1000 ∧ y ≠ ab_kled) (hkd : ab_kd y = 1) (hnp : w.length = ab_np y) (hw : w.reverse = as) (hb : ab_bud y as = b1) (hbd : b1.1 + 1 ≤ bd.1 ∧ b1.2.1 ≤ bd.2.1 ∧ b1.2.2 ≤ bd.2.2) (hal : (ab_args as).length ≤ ab_mx y) (hc : ab_code k = cc) (hd : decode cc pc = .ok (.invokestatic i, 3)) :
    ab_Run X k pc bd L (w ++ rest) σ Q ↔ ab_cats rest ≤ 8 ∧ ab_Do X y as σ (fun r σ' => ab_Run X k (pc + 3) (bd.1, bd.2.1 - b1.2.1, bd.2.2 - b1.2.2) L (ab_psh r rest) σ' Q) := by
  refine ab_Run_callif inferInstance ?_
  rw [ab_stp hc hd ⟨Or.inr rfl, decide_eq_true hi⟩]
  have hex : ab_ex X k pc bd L (w ++ rest) σ (.invokestatic i) 3 = ab_inv 1 k pc i bd L (w ++ rest) σ := rfl
  rw [hex, ab_inv_eqS (by unfold ab_mth; rw [ho]; exact hm) hy hkd]
  have e1 : (w ++ rest).drop (ab_np y) = rest := by rw [← hnp, List.drop_left]
  have e2 : (w ++ rest).take (ab_np y) = w := by rw [← hnp, List.take_left]
  subst hw
  subst hb
  rw [e1, e2]
  unfold ab_call
  by_cases h2 : ab_cats rest ≤ 8 <;> simp [h2, hnp, hbd, hal]
theorem ab_r_math {i n o : Nat} {a b : Int} {v : Int} (y : Nat) (hy : (y = 1004 ∧ v = if a < b then b else a) ∨ (y = 1005 ∧ v = if b < a then b else a)) (hi : i < 1000) (ho : ab_ow k = o) (hm : ab_lk ab_pM (1000 * o + i) = some (y, n)) (hbd : 1 ≤ bd.1) (hc : ab_code k = cc) (hd : decode cc pc = .ok (.invokestatic i, 3)) :
    ab_Run X k pc bd L (ab_I b :: ab_I a :: st) σ Q ↔ ab_cats st ≤ 8 ∧ ab_Run X k (pc + 3) bd L (ab_I v :: st) σ Q := by
  refine ab_Run_if inferInstance ?_
  rw [ab_stp hc hd ⟨Or.inr rfl, decide_eq_true hi⟩]
  have hex : ab_ex X k pc bd L (ab_I b :: ab_I a :: st) σ (.invokestatic i) 3 = ab_inv 1 k pc i bd L (ab_I b :: ab_I a :: st) σ := rfl
  rw [hex]
  unfold ab_inv
  rw [show ab_mth k i = some (y, n) by unfold ab_mth; rw [ho]; exact hm]
  dsimp only
  rcases hy with ⟨rfl, rfl⟩ | ⟨rfl, rfl⟩
  · rw [if_neg (by omega), if_neg (by omega), if_neg (by omega), if_pos rfl]
    by_cases h2 : ab_cats st ≤ 8 <;> simp [h2, hbd]
  · rw [if_neg (by omega), if_neg (by omega), if_neg (by omega), if_neg (by omega), if_pos rfl]
    by_cases h2 : ab_cats st ≤ 8 <;> simp [h2, hbd]
theorem ab_r_abs {i n o : Nat} {a : Int} (hi : i < 1000) (ho : ab_ow k = o) (hm : ab_lk ab_pM (1000 * o + i) = some (1006, n)) (hbd : 1 ≤ bd.1) (hc : ab_code k = cc) (hd : decode cc pc = .ok (.invokestatic i, 3)) :
    ab_Run X k pc bd L (ab_I a :: st) σ Q ↔ ab_cats st ≤ 8 ∧ ab_Run X k (pc + 3) bd L (ab_I (if 0 ≤ a then a else ab_w32 (0 - a)) :: st) σ Q := by
  refine ab_Run_if inferInstance ?_
  rw [ab_stp hc hd ⟨Or.inr rfl, decide_eq_true hi⟩]
  have hex : ab_ex X k pc bd L (ab_I a :: st) σ (.invokestatic i) 3 = ab_inv 1 k pc i bd L (ab_I a :: st) σ := rfl
  rw [hex]
  unfold ab_inv
  rw [show ab_mth k i = some (1006, n) by unfold ab_mth; rw [ho]; exact hm]
  dsimp only
  rw [if_neg (by omega), if_neg (by omega), if_neg (by omega), if_neg (by omega), if_neg (by omega), if_pos rfl]
  by_cases h2 : ab_cats st ≤ 8 <;> simp [h2, hbd]
theorem ab_r_strlen {i n o : Nat} {a : Int} (hi : i < 1000) (ho : ab_ow k = o) (hm : ab_lk ab_pM (1000 * o + i) = some (1001, n)) (hbd : 10 ≤ bd.1) (hc : ab_code k = cc) (hd : decode cc pc = .ok (.invokevirtual i, 3)) :
    ab_Run X k pc bd L (ab_R a :: st) σ Q ↔ (a ≤ -2 ∧ (-2 - a).toNat < ab_txt.length ∧ ab_cats st ≤ 8) ∧ ab_Run X k (pc + 3) bd L (ab_I (ab_txt.getD (-2 - a).toNat []).length :: st) σ Q := by
  refine ab_Run_if inferInstance ?_
  rw [ab_stp hc hd ⟨Or.inr rfl, decide_eq_true hi⟩]
  have hex : ab_ex X k pc bd L (ab_R a :: st) σ (.invokevirtual i) 3 = ab_inv 0 k pc i bd L (ab_R a :: st) σ := rfl
  rw [hex]
  unfold ab_inv
  rw [show ab_mth k i = some (1001, n) by unfold ab_mth; rw [ho]; exact hm]
  dsimp only
  rw [if_neg (by omega), if_pos rfl]
  by_cases h1 : a ≤ -2 <;> by_cases h2 : ab_cats st ≤ 8 <;> simp [h1, h2, hbd]
theorem ab_r_charAt {i n o : Nat} {a j : Int} (hi : i < 1000) (ho : ab_ow k = o) (hm : ab_lk ab_pM (1000 * o + i) = some (1002, n)) (hbd : 10 ≤ bd.1) (hc : ab_code k = cc) (hd : decode cc pc = .ok (.invokevirtual i, 3)) :
    ab_Run X k pc bd L (ab_I j :: ab_R a :: st) σ Q ↔ (a ≤ -2 ∧ (-2 - a).toNat < ab_txt.length ∧ ab_cats st ≤ 8 ∧ 0 ≤ j ∧ j < (ab_txt.getD (-2 - a).toNat []).length) ∧ ab_Run X k (pc + 3) bd L (ab_I ((ab_txt.getD (-2 - a).toNat []).getD j.toNat 0) :: st) σ Q := by
  refine ab_Run_if inferInstance ?_
  rw [ab_stp hc hd ⟨Or.inr rfl, decide_eq_true hi⟩]
  have hex : ab_ex X k pc bd L (ab_I j :: ab_R a :: st) σ (.invokevirtual i) 3 = ab_inv 0 k pc i bd L (ab_I j :: ab_R a :: st) σ := rfl
  rw [hex]
  unfold ab_inv
  rw [show ab_mth k i = some (1002, n) by unfold ab_mth; rw [ho]; exact hm]
  dsimp only
  rw [if_neg (by omega), if_neg (by omega), if_pos rfl]
  by_cases h1 : a ≤ -2 <;> by_cases h2 : ab_cats st ≤ 8 <;> simp [h1, h2, hbd]
end R0
