/-! the instructions that leave the heap alone -/
section S2
variable {E : ab_E} {p : Program} {l : Launch} {e : Env} {R : Room} {s : State} {m : MethodId} {args : Array Value} {below : List Frame} {meth : Method} {c : Code} {Q : State → Prop} {k : Nat} {pc pc' : Nat} {bd bd' : ab_B} {L st L' st' : List ab_V} {σ σ' : ab_S}
theorem ab_s_iadd (F : ab_Fr E p s m args meth c k) (hd : decode (ab_code k) pc = .ok (.iadd, 1)) (he : ab_i2 (fun a b => some (ab_I (ab_w32 (a + b)))) (pc + 1) bd L st σ = some (.inl (pc', bd', L', st', σ'))) (h : ab_WP E p l e R s m args below meth c Q k pc' bd' L' st' σ') : ab_WP E p l e R s m args below meth c Q k pc bd L st σ := 
  ab_s_i2 (fun H locs cells slots ls rest x y v hv => ⟨.int (x + y), by cases hv; exact ⟨x + y, rfl, ab_add32 x y⟩, lv_iadd F.1 F.2.1 hd⟩) he h
theorem ab_s_isub (F : ab_Fr E p s m args meth c k) (hd : decode (ab_code k) pc = .ok (.isub, 1)) (he : ab_i2 (fun a b => some (ab_I (ab_w32 (a - b)))) (pc + 1) bd L st σ = some (.inl (pc', bd', L', st', σ'))) (h : ab_WP E p l e R s m args below meth c Q k pc' bd' L' st' σ') : ab_WP E p l e R s m args below meth c Q k pc bd L st σ := 
  ab_s_i2 (fun H locs cells slots ls rest x y v hv => ⟨.int (x - y), by cases hv; exact ⟨x - y, rfl, ab_sub32 x y⟩, lv_isub F.1 F.2.1 hd⟩) he h
theorem ab_s_imul (F : ab_Fr E p s m args meth c k) (hd : decode (ab_code k) pc = .ok (.imul, 1)) (he : ab_i2 (fun a b => some (ab_I (ab_w32 (a * b)))) (pc + 1) bd L st σ = some (.inl (pc', bd', L', st', σ'))) (h : ab_WP E p l e R s m args below meth c Q k pc' bd' L' st' σ') : ab_WP E p l e R s m args below meth c Q k pc bd L st σ := 
  ab_s_i2 (fun H locs cells slots ls rest x y v hv => ⟨.int (x * y), by cases hv; exact ⟨x * y, rfl, ab_mul32 x y⟩, lv_imul F.1 F.2.1 hd⟩) he h
theorem ab_s_iand (F : ab_Fr E p s m args meth c k) (hd : decode (ab_code k) pc = .ok (.iand, 1)) (he : ab_i2 (fun a b => some (ab_I (ab_ok32 (fun x y => x &&& y) a b))) (pc + 1) bd L st σ = some (.inl (pc', bd', L', st', σ'))) (h : ab_WP E p l e R s m args below meth c Q k pc' bd' L' st' σ') : ab_WP E p l e R s m args below meth c Q k pc bd L st σ := 
  ab_s_i2 (fun H locs cells slots ls rest x y v hv => ⟨.int (x &&& y), by cases hv; exact ⟨_, rfl, by unfold ab_ok32; rw [ab_ofto, ab_ofto]⟩, lv_iand F.1 F.2.1 hd⟩) he h
theorem ab_s_ior (F : ab_Fr E p s m args meth c k) (hd : decode (ab_code k) pc = .ok (.ior, 1)) (he : ab_i2 (fun a b => some (ab_I (ab_ok32 (fun x y => x ||| y) a b))) (pc + 1) bd L st σ = some (.inl (pc', bd', L', st', σ'))) (h : ab_WP E p l e R s m args below meth c Q k pc' bd' L' st' σ') : ab_WP E p l e R s m args below meth c Q k pc bd L st σ := 
  ab_s_i2 (fun H locs cells slots ls rest x y v hv => ⟨.int (x ||| y), by cases hv; exact ⟨_, rfl, by unfold ab_ok32; rw [ab_ofto, ab_ofto]⟩, lv_ior F.1 F.2.1 hd⟩) he h
theorem ab_s_ishl (F : ab_Fr E p s m args meth c k) (hd : decode (ab_code k) pc = .ok (.ishl, 1)) (he : ab_i2 (fun a b => some (ab_I (ab_ok32 (fun x y => x <<< (y &&& 31)) a b))) (pc + 1) bd L st σ = some (.inl (pc', bd', L', st', σ'))) (h : ab_WP E p l e R s m args below meth c Q k pc' bd' L' st' σ') : ab_WP E p l e R s m args below meth c Q k pc bd L st σ := 
  ab_s_i2 (fun H locs cells slots ls rest x y v hv => ⟨.int (x <<< (y &&& 31)), by cases hv; exact ⟨_, rfl, by unfold ab_ok32; rw [ab_ofto, ab_ofto]⟩, lv_ishl F.1 F.2.1 hd⟩) he h
theorem ab_s_ishr (F : ab_Fr E p s m args meth c k) (hd : decode (ab_code k) pc = .ok (.ishr, 1)) (he : ab_i2 (fun a b => some (ab_I (ab_ok32 (fun x y => x >>> (y &&& 31)) a b))) (pc + 1) bd L st σ = some (.inl (pc', bd', L', st', σ'))) (h : ab_WP E p l e R s m args below meth c Q k pc' bd' L' st' σ') : ab_WP E p l e R s m args below meth c Q k pc bd L st σ := 
  ab_s_i2 (fun H locs cells slots ls rest x y v hv => ⟨.int (x >>> (y &&& 31)), by cases hv; exact ⟨_, rfl, by unfold ab_ok32; rw [ab_ofto, ab_ofto]⟩, lv_ishr F.1 F.2.1 hd⟩) he h
theorem ab_s_iushr (F : ab_Fr E p s m args meth c k) (hd : decode (ab_code k) pc = .ok (.iushr, 1)) (he : ab_i2 (fun a b => some (ab_I (ab_ok32 (fun x y => (x.toUInt32 >>> (y.toUInt32 &&& Int32.toUInt32 31)).toInt32) a b))) (pc + 1) bd L st σ = some (.inl (pc', bd', L', st', σ'))) (h : ab_WP E p l e R s m args below meth c Q k pc' bd' L' st' σ') : ab_WP E p l e R s m args below meth c Q k pc bd L st σ := 
  ab_s_i2 (fun H locs cells slots ls rest x y v hv => ⟨.int ((x.toUInt32 >>> (y.toUInt32 &&& Int32.toUInt32 31)).toInt32), by cases hv; exact ⟨_, rfl, by unfold ab_ok32; rw [ab_ofto, ab_ofto]⟩, lv_iushr F.1 F.2.1 hd rfl⟩) he h
theorem ab_s_idiv (F : ab_Fr E p s m args meth c k) (hd : decode (ab_code k) pc = .ok (.idiv, 1)) (he : ab_i2 (fun a b => if b = 0 then none else some (ab_I (ab_w32 (a.tdiv b)))) (pc + 1) bd L st σ = some (.inl (pc', bd', L', st', σ'))) (h : ab_WP E p l e R s m args below meth c Q k pc' bd' L' st' σ') : ab_WP E p l e R s m args below meth c Q k pc bd L st σ := by
  refine ab_s_i2 (fun H locs cells slots ls rest x y v hv => ?_) he h
  split at hv
  · cases hv
  · rename_i h0
    cases hv
    exact ⟨.int (x / y), ⟨x / y, rfl, ab_div32 x y⟩, lv_idiv F.1 F.2.1 hd (fun q => h0 (by rw [q]; rfl))⟩
theorem ab_s_irem (F : ab_Fr E p s m args meth c k) (hd : decode (ab_code k) pc = .ok (.irem, 1)) (he : ab_i2 (fun a b => if b = 0 then none else some (ab_I (a.tmod b))) (pc + 1) bd L st σ = some (.inl (pc', bd', L', st', σ'))) (h : ab_WP E p l e R s m args below meth c Q k pc' bd' L' st' σ') : ab_WP E p l e R s m args below meth c Q k pc bd L st σ := by
  refine ab_s_i2 (fun H locs cells slots ls rest x y v hv => ?_) he h
  split at hv
  · cases hv
  · rename_i h0
    cases hv
    exact ⟨.int (x - x / y * y), ⟨_, rfl, ab_rem32 x y⟩, lv_irem F.1 F.2.1 hd (fun q => h0 (by rw [q]; rfl))⟩
theorem ab_s_ladd (F : ab_Fr E p s m args meth c k) (hd : decode (ab_code k) pc = .ok (.ladd, 1)) (he : ab_j2 (fun a b => some (ab_J (ab_w64 (a + b)))) (pc + 1) bd L st σ = some (.inl (pc', bd', L', st', σ'))) (h : ab_WP E p l e R s m args below meth c Q k pc' bd' L' st' σ') : ab_WP E p l e R s m args below meth c Q k pc bd L st σ := 
  ab_s_j2 (fun H locs cells slots ls rest x y v hv => ⟨.long (x + y), by cases hv; exact ⟨x + y, rfl, ab_add64 x y⟩, lv_ladd F.1 F.2.1 hd⟩) he h
theorem ab_s_lsub (F : ab_Fr E p s m args meth c k) (hd : decode (ab_code k) pc = .ok (.lsub, 1)) (he : ab_j2 (fun a b => some (ab_J (ab_w64 (a - b)))) (pc + 1) bd L st σ = some (.inl (pc', bd', L', st', σ'))) (h : ab_WP E p l e R s m args below meth c Q k pc' bd' L' st' σ') : ab_WP E p l e R s m args below meth c Q k pc bd L st σ := 
  ab_s_j2 (fun H locs cells slots ls rest x y v hv => ⟨.long (x - y), by cases hv; exact ⟨x - y, rfl, ab_sub64 x y⟩, lv_lsub F.1 F.2.1 hd⟩) he h
theorem ab_s_lmul (F : ab_Fr E p s m args meth c k) (hd : decode (ab_code k) pc = .ok (.lmul, 1)) (he : ab_j2 (fun a b => some (ab_J (ab_w64 (a * b)))) (pc + 1) bd L st σ = some (.inl (pc', bd', L', st', σ'))) (h : ab_WP E p l e R s m args below meth c Q k pc' bd' L' st' σ') : ab_WP E p l e R s m args below meth c Q k pc bd L st σ := 
  ab_s_j2 (fun H locs cells slots ls rest x y v hv => ⟨.long (x * y), by cases hv; exact ⟨x * y, rfl, ab_mul64 x y⟩, lv_lmul F.1 F.2.1 hd⟩) he h
theorem ab_s_ldiv (F : ab_Fr E p s m args meth c k) (hd : decode (ab_code k) pc = .ok (.ldiv, 1)) (he : ab_j2 (fun a b => if b = 0 then none else some (ab_J (ab_w64 (a.tdiv b)))) (pc + 1) bd L st σ = some (.inl (pc', bd', L', st', σ'))) (h : ab_WP E p l e R s m args below meth c Q k pc' bd' L' st' σ') : ab_WP E p l e R s m args below meth c Q k pc bd L st σ := by
  refine ab_s_j2 (fun H locs cells slots ls rest x y v hv => ?_) he h
  split at hv
  · cases hv
  · rename_i h0
    cases hv
    exact ⟨.long (x / y), ⟨x / y, rfl, ab_div64 x y⟩, lv_ldiv F.1 F.2.1 hd (fun q => h0 (by rw [q]; rfl))⟩
theorem ab_rem64 (x y : Int64) : (x - x / y * y).toInt = x.toInt.tmod y.toInt := by
  have h : x - x / y * y = x % y := by
    apply Int64.toInt_inj.mp
    have h1 := Int64.le_toInt (x % y)
    have h2 := Int64.toInt_lt (x % y)
    rw [Int64.toInt_sub, Int64.toInt_mul, Int64.toInt_div, Int.bmod_mul_bmod, Int.sub_bmod_bmod, Int.mul_comm (x.toInt.tdiv y.toInt), ← Int.tmod_def, ← Int64.toInt_mod]
    exact Int.bmod_eq_of_le_mul_two (by omega) (by omega)
  rw [h, Int64.toInt_mod]
theorem ab_s_lrem (F : ab_Fr E p s m args meth c k) (hd : decode (ab_code k) pc = .ok (.lrem, 1)) (he : ab_j2 (fun a b => if b = 0 then none else some (ab_J (a.tmod b))) (pc + 1) bd L st σ = some (.inl (pc', bd', L', st', σ'))) (h : ab_WP E p l e R s m args below meth c Q k pc' bd' L' st' σ') : ab_WP E p l e R s m args below meth c Q k pc bd L st σ := by
  refine ab_s_j2 (fun H locs cells slots ls rest x y v hv => ?_) he h
  split at hv
  · cases hv
  · rename_i h0
    cases hv
    exact ⟨.long (x - x / y * y), ⟨_, rfl, ab_rem64 x y⟩, lv_lrem F.1 F.2.1 hd (fun q => h0 (by rw [q]; rfl))⟩
theorem ab_s_lcmp (F : ab_Fr E p s m args meth c k) (hd : decode (ab_code k) pc = .ok (.lcmp, 1)) (he : ab_j2 (fun a b => some (ab_I (if b < a then 1 else if a = b then 0 else -1))) (pc + 1) bd L st σ = some (.inl (pc', bd', L', st', σ'))) (h : ab_WP E p l e R s m args below meth c Q k pc' bd' L' st' σ') : ab_WP E p l e R s m args below meth c Q k pc bd L st σ := by
  refine ab_s_j2 (fun H locs cells slots ls rest x y v hv => ⟨.int (lg_cmp x y), ?_, W.lcmp F.1 F.2.1 hd⟩) he h
  cases hv
  refine ⟨_, rfl, ?_⟩
  unfold lg_cmp
  by_cases h1 : y.toInt < x.toInt
  · rw [if_pos h1, if_pos (show x > y from Int64.lt_iff_toInt_lt.mpr h1)]; rfl
  · rw [if_neg h1, if_neg (show ¬ x > y from fun q => h1 (Int64.lt_iff_toInt_lt.mp q))]
    by_cases h2 : x = y
    · rw [if_pos h2, if_pos (by rw [h2])]; rfl
    · rw [if_neg h2, if_neg (fun q => h2 (Int64.toInt_inj.mp q))]; rfl
section
variable {n : Int}
theorem ab_s_iconst (F : ab_Fr E p s m args meth c k) (hd : decode (ab_code k) pc = .ok (.iconst n, 1)) (he : ab_nx (pc + 1) bd L (ab_I (ab_w32 n) :: st) σ = some (.inl (pc', bd', L', st', σ'))) (h : ab_WP E p l e R s m args below meth c Q k pc' bd' L' st' σ') : ab_WP E p l e R s m args below meth c Q k pc bd L st σ := 
  ab_s_push (v := ab_I (ab_w32 n)) (r := .int (Int32.ofInt n)) ⟨_, rfl, ab_of32 n⟩ (fun H locs cells slots ls rest => lv_iconst F.1 F.2.1 hd rfl) he h
theorem ab_s_bipush (F : ab_Fr E p s m args meth c k) (hd : decode (ab_code k) pc = .ok (.bipush n, 2)) (he : ab_nx (pc + 2) bd L (ab_I (ab_w8 n) :: st) σ = some (.inl (pc', bd', L', st', σ'))) (h : ab_WP E p l e R s m args below meth c Q k pc' bd' L' st' σ') : ab_WP E p l e R s m args below meth c Q k pc bd L st σ := 
  ab_s_push (v := ab_I (ab_w8 n)) (r := .int (Int8.ofInt n).toInt32) ⟨_, rfl, ab_bip n⟩ (fun H locs cells slots ls rest => lv_bipush F.1 F.2.1 hd rfl) he h
theorem ab_s_sipush (F : ab_Fr E p s m args meth c k) (hd : decode (ab_code k) pc = .ok (.sipush n, 3)) (he : ab_nx (pc + 3) bd L (ab_I (ab_w16 n) :: st) σ = some (.inl (pc', bd', L', st', σ'))) (h : ab_WP E p l e R s m args below meth c Q k pc' bd' L' st' σ') : ab_WP E p l e R s m args below meth c Q k pc bd L st σ := 
  ab_s_push (v := ab_I (ab_w16 n)) (r := .int (Int16.ofInt n).toInt32) ⟨_, rfl, ab_sip n⟩ (fun H locs cells slots ls rest => lv_sipush F.1 F.2.1 hd rfl) he h
end
section
variable {n : Fin 2}
theorem ab_s_lconst (F : ab_Fr E p s m args meth c k) (hd : decode (ab_code k) pc = .ok (.lconst n, 1)) (he : ab_nx (pc + 1) bd L (ab_J ((n : Nat) : Int) :: st) σ = some (.inl (pc', bd', L', st', σ'))) (h : ab_WP E p l e R s m args below meth c Q k pc' bd' L' st' σ') : ab_WP E p l e R s m args below meth c Q k pc bd L st σ := 
  ab_s_push (v := ab_J ((n : Nat) : Int)) (r := .long (Int64.ofNat (n : Nat))) ⟨_, rfl, by rw [Int64.toInt_ofNat_of_lt (by omega)]⟩ (fun H locs cells slots ls rest => lv_lconst F.1 F.2.1 hd rfl) he h
end
section
variable {i : Nat}
theorem ab_s_iload (F : ab_Fr E p s m args meth c k) (hd : decode (ab_code k) pc = .ok (.iload i, 2)) (he : ab_ldx 0 i (pc + 2) bd L st σ = some (.inl (pc', bd', L', st', σ'))) (h : ab_WP E p l e R s m args below meth c Q k pc' bd' L' st' σ') : ab_WP E p l e R s m args below meth c Q k pc bd L st σ := 
  ab_s_ld (fun _ H locs cells slots ls rest x hz => lv_iload F.1 F.2.1 hd hz) (fun q => by cases q) (fun q => by cases q) he h
end
section
variable {i : Fin 4}
theorem ab_s_iload_n (F : ab_Fr E p s m args meth c k) (hd : decode (ab_code k) pc = .ok (.iload_n i, 1)) (he : ab_ldx 0 i (pc + 1) bd L st σ = some (.inl (pc', bd', L', st', σ'))) (h : ab_WP E p l e R s m args below meth c Q k pc' bd' L' st' σ') : ab_WP E p l e R s m args below meth c Q k pc bd L st σ := 
  ab_s_ld (fun _ H locs cells slots ls rest x hz => lv_iload_n F.1 F.2.1 hd rfl hz) (fun q => by cases q) (fun q => by cases q) he h
end
section
variable {i : Nat}
theorem ab_s_istore (F : ab_Fr E p s m args meth c k) (hd : decode (ab_code k) pc = .ok (.istore i, 2)) (he : ab_stx 0 i (pc + 2) bd L st σ = some (.inl (pc', bd', L', st', σ'))) (h : ab_WP E p l e R s m args below meth c Q k pc' bd' L' st' σ') : ab_WP E p l e R s m args below meth c Q k pc bd L st σ := 
  ab_s_st (fun _ H locs cells slots ls rest x lv lv' h1 h2 h3 h4 => lv_istore F.1 F.2.1 hd h1 h2 h3 h4) (fun q => by cases q) (fun q => by cases q) (fun q => by cases q) he h
end
section
variable {i : Fin 4}
theorem ab_s_istore_n (F : ab_Fr E p s m args meth c k) (hd : decode (ab_code k) pc = .ok (.istore_n i, 1)) (he : ab_stx 0 i (pc + 1) bd L st σ = some (.inl (pc', bd', L', st', σ'))) (h : ab_WP E p l e R s m args below meth c Q k pc' bd' L' st' σ') : ab_WP E p l e R s m args below meth c Q k pc bd L st σ := 
  ab_s_st (fun _ H locs cells slots ls rest x lv lv' h1 h2 h3 h4 => lv_istore_n F.1 F.2.1 hd rfl h1 h2 h3 h4) (fun q => by cases q) (fun q => by cases q) (fun q => by cases q) he h
end
section
variable {i : Nat}
theorem ab_s_lload (F : ab_Fr E p s m args meth c k) (hd : decode (ab_code k) pc = .ok (.lload i, 2)) (he : ab_ldx 1 i (pc + 2) bd L st σ = some (.inl (pc', bd', L', st', σ'))) (h : ab_WP E p l e R s m args below meth c Q k pc' bd' L' st' σ') : ab_WP E p l e R s m args below meth c Q k pc bd L st σ := 
  ab_s_ld (fun q => by cases q) (fun _ H locs cells slots ls rest x hz => lv_lload F.1 F.2.1 hd hz) (fun q => by cases q) he h
end
section
variable {i : Fin 4}
theorem ab_s_lload_n (F : ab_Fr E p s m args meth c k) (hd : decode (ab_code k) pc = .ok (.lload_n i, 1)) (he : ab_ldx 1 i (pc + 1) bd L st σ = some (.inl (pc', bd', L', st', σ'))) (h : ab_WP E p l e R s m args below meth c Q k pc' bd' L' st' σ') : ab_WP E p l e R s m args below meth c Q k pc bd L st σ := 
  ab_s_ld (fun q => by cases q) (fun _ H locs cells slots ls rest x hz => lv_lload_n F.1 F.2.1 hd rfl hz) (fun q => by cases q) he h
end
section
variable {i : Nat}
theorem ab_s_lstore (F : ab_Fr E p s m args meth c k) (hd : decode (ab_code k) pc = .ok (.lstore i, 2)) (he : ab_stx 1 i (pc + 2) bd L st σ = some (.inl (pc', bd', L', st', σ'))) (h : ab_WP E p l e R s m args below meth c Q k pc' bd' L' st' σ') : ab_WP E p l e R s m args below meth c Q k pc bd L st σ := 
  ab_s_st (fun q => by cases q) (fun _ H locs cells slots ls rest x lv lv' h1 h2 h3 h4 => lv_lstore F.1 F.2.1 hd h1 h2 h3 h4) (fun q => by cases q) (fun q => by cases q) he h
end
section
variable {i : Fin 4}
theorem ab_s_lstore_n (F : ab_Fr E p s m args meth c k) (hd : decode (ab_code k) pc = .ok (.lstore_n i, 1)) (he : ab_stx 1 i (pc + 1) bd L st σ = some (.inl (pc', bd', L', st', σ'))) (h : ab_WP E p l e R s m args below meth c Q k pc' bd' L' st' σ') : ab_WP E p l e R s m args below meth c Q k pc bd L st σ := 
  ab_s_st (fun q => by cases q) (fun _ H locs cells slots ls rest x lv lv' h1 h2 h3 h4 => lv_lstore_n F.1 F.2.1 hd rfl h1 h2 h3 h4) (fun q => by cases q) (fun q => by cases q) he h
end
section
variable {i : Nat}
theorem ab_s_aload (F : ab_Fr E p s m args meth c k) (hd : decode (ab_code k) pc = .ok (.aload i, 2)) (he : ab_ldx 2 i (pc + 2) bd L st σ = some (.inl (pc', bd', L', st', σ'))) (h : ab_WP E p l e R s m args below meth c Q k pc' bd' L' st' σ') : ab_WP E p l e R s m args below meth c Q k pc bd L st σ := 
  ab_s_ld (fun q => by cases q) (fun q => by cases q) (fun _ H locs cells slots ls rest x hz => lv_aload F.1 F.2.1 hd hz) he h
end
section
variable {i : Fin 4}
theorem ab_s_aload_n (F : ab_Fr E p s m args meth c k) (hd : decode (ab_code k) pc = .ok (.aload_n i, 1)) (he : ab_ldx 2 i (pc + 1) bd L st σ = some (.inl (pc', bd', L', st', σ'))) (h : ab_WP E p l e R s m args below meth c Q k pc' bd' L' st' σ') : ab_WP E p l e R s m args below meth c Q k pc bd L st σ := 
  ab_s_ld (fun q => by cases q) (fun q => by cases q) (fun _ H locs cells slots ls rest x hz => lv_aload_n F.1 F.2.1 hd rfl hz) he h
end
section
variable {i : Nat}
theorem ab_s_astore (F : ab_Fr E p s m args meth c k) (hd : decode (ab_code k) pc = .ok (.astore i, 2)) (he : ab_stx 2 i (pc + 2) bd L st σ = some (.inl (pc', bd', L', st', σ'))) (h : ab_WP E p l e R s m args below meth c Q k pc' bd' L' st' σ') : ab_WP E p l e R s m args below meth c Q k pc bd L st σ := 
  ab_s_st (fun q => by cases q) (fun q => by cases q) (fun _ H locs cells slots ls rest x lv lv' h1 h2 h3 h4 => lv_astore F.1 F.2.1 hd h1 h2 h3 h4) (fun _ H locs cells slots ls rest lv lv' h1 h2 h3 h4 => lv_astoreN F.1 F.2.1 hd h1 h2 h3 h4) he h
end
section
variable {i : Fin 4}
theorem ab_s_astore_n (F : ab_Fr E p s m args meth c k) (hd : decode (ab_code k) pc = .ok (.astore_n i, 1)) (he : ab_stx 2 i (pc + 1) bd L st σ = some (.inl (pc', bd', L', st', σ'))) (h : ab_WP E p l e R s m args below meth c Q k pc' bd' L' st' σ') : ab_WP E p l e R s m args below meth c Q k pc bd L st σ := 
  ab_s_st (fun q => by cases q) (fun q => by cases q) (fun _ H locs cells slots ls rest x lv lv' h1 h2 h3 h4 => lv_astore_n F.1 F.2.1 hd rfl h1 h2 h3 h4) (fun _ H locs cells slots ls rest lv lv' h1 h2 h3 h4 => lv_astore_nN F.1 F.2.1 hd rfl h1 h2 h3 h4) he h
end
end S2
