/-! more of them: numbers, jumps, constants -/
section S3
variable {E : ab_E} {p : Program} {l : Launch} {e : Env} {R : Room} {s : State} {m : MethodId} {args : Array Value} {below : List Frame} {meth : Method} {c : Code} {Q : State → Prop} {k : Nat} {pc pc' : Nat} {bd bd' : ab_B} {L st L' st' : List ab_V} {σ σ' : ab_S}
theorem ab_s_iinc (F : ab_Fr E p s m args meth c k) {i : Nat} {n : Int} (hd : decode (ab_code k) pc = .ok (.iinc i n, 3)) (he : (match ab_ld 0 i L with
    | some (.inl z) => if ab_fr L i = true then ab_nx (pc + 3) bd (L.set i (ab_I (ab_w32 (z + ab_w32 n)))) st σ else none
    | _ => none) = some (.inl (pc', bd', L', st', σ'))) (h : ab_WP E p l e R s m args below meth c Q k pc' bd' L' st' σ') : ab_WP E p l e R s m args below meth c Q k pc bd L st σ := by
  split at he
  · rename_i z hz
    split at he
    · rename_i hfr
      obtain ⟨rfl, rfl, rfl, rfl, rfl⟩ := ab_nx_inv he
      unfold ab_ld at hz
      split at hz
      · rename_i z' hz'
        cases hz
        intro H locs cells slots ls rst ⟨h1, ⟨hL, lv, h2, h3⟩, h4, h5⟩
        obtain ⟨r, ⟨x, rfl, hx⟩, hm⟩ := h3 i _ hz' (fun q => by cases q)
        obtain ⟨j, hj⟩ := List.getElem?_of_mem hm
        have hlt : i < ab_mx k := by rw [← hL]; exact (List.getElem?_eq_some_iff.mp hz').1
        refine lv_iinc F.1 F.2.1 hd h2 hj rfl hlt rfl fun ls' hl' => ?_
        refine h H locs cells slots ls' rst ⟨h1, ⟨by rw [List.length_set]; exact hL, _, hl', ?_⟩, h4, h5⟩
        exact ab_LR_set hL h3 hfr ⟨_, rfl, by rw [ab_add32, ab_of32, hx]⟩
      · cases hz
      · split at hz <;> cases hz
      · cases hz
    · cases he
  · cases he
theorem ab_s_un {pc1 : Nat} {v : ab_V} {st1 : List ab_V} {a : Int} (hop : ∀ (H : Heap) (locs : List Loc) (cells slots : Nat) (ls : Array Slot) (rest : List Value) (x : Int32), x.toInt = a → ∃ r, ab_VR E v r ∧ (W p l e R s m args below meth c H locs cells slots Q (F0 m pc1 ls (r :: rest)) → W p l e R s m args below meth c H locs cells slots Q (F0 m pc ls (.int x :: rest))))
    (he : ab_nx pc1 bd L (v :: st1) σ = some (.inl (pc', bd', L', st', σ'))) (h : ab_WP E p l e R s m args below meth c Q k pc' bd' L' st' σ') : ab_WP E p l e R s m args below meth c Q k pc bd L (.inl a :: st1) σ := by
  obtain ⟨rfl, rfl, rfl, rfl, rfl⟩ := ab_nx_inv he
  refine ab_pure (fun H locs cells slots ls rst _ hs => ?_) h
  obtain ⟨x, r1, rfl, hx, h1⟩ := ab_SR_I hs
  obtain ⟨r, g1, g2⟩ := hop H locs cells slots ls r1 x hx
  exact ⟨r :: r1, ⟨g1, h1⟩, g2⟩
theorem ab_s_unJ {pc1 : Nat} {v : ab_V} {st1 : List ab_V} {a : Int} (hop : ∀ (H : Heap) (locs : List Loc) (cells slots : Nat) (ls : Array Slot) (rest : List Value) (x : Int64), x.toInt = a → ∃ r, ab_VR E v r ∧ (W p l e R s m args below meth c H locs cells slots Q (F0 m pc1 ls (r :: rest)) → W p l e R s m args below meth c H locs cells slots Q (F0 m pc ls (.long x :: rest))))
    (he : ab_nx pc1 bd L (v :: st1) σ = some (.inl (pc', bd', L', st', σ'))) (h : ab_WP E p l e R s m args below meth c Q k pc' bd' L' st' σ') : ab_WP E p l e R s m args below meth c Q k pc bd L (.inr (.inl a) :: st1) σ := by
  obtain ⟨rfl, rfl, rfl, rfl, rfl⟩ := ab_nx_inv he
  refine ab_pure (fun H locs cells slots ls rst _ hs => ?_) h
  obtain ⟨x, r1, rfl, hx, h1⟩ := ab_SR_J hs
  obtain ⟨r, g1, g2⟩ := hop H locs cells slots ls r1 x hx
  exact ⟨r :: r1, ⟨g1, h1⟩, g2⟩
theorem ab_s_ineg (F : ab_Fr E p s m args meth c k) (hd : decode (ab_code k) pc = .ok (.ineg, 1)) (he : (match st with
    | .inl a :: st' => ab_nx (pc + 1) bd L (ab_I (ab_w32 (-a)) :: st') σ
    | _ => none) = some (.inl (pc', bd', L', st', σ'))) (h : ab_WP E p l e R s m args below meth c Q k pc' bd' L' st' σ') : ab_WP E p l e R s m args below meth c Q k pc bd L st σ := by
  split at he
  · exact ab_s_un (v := ab_I _) (fun H locs cells slots ls rest x hx => ⟨.int (-x), ⟨-x, rfl, by rw [ab_neg32, hx]⟩, lv_ineg F.1 F.2.1 hd⟩) he h
  · cases he
theorem ab_s_lneg (F : ab_Fr E p s m args meth c k) (hd : decode (ab_code k) pc = .ok (.lneg, 1)) (he : (match st with
    | .inr (.inl a) :: st' => ab_nx (pc + 1) bd L (ab_J (ab_w64 (-a)) :: st') σ
    | _ => none) = some (.inl (pc', bd', L', st', σ'))) (h : ab_WP E p l e R s m args below meth c Q k pc' bd' L' st' σ') : ab_WP E p l e R s m args below meth c Q k pc bd L st σ := by
  split at he
  · exact ab_s_unJ (v := ab_J _) (fun H locs cells slots ls rest x hx => ⟨.long (-x), ⟨-x, rfl, by rw [ab_neg64, hx]⟩, lv_lneg F.1 F.2.1 hd⟩) he h
  · cases he
theorem ab_s_i2l (F : ab_Fr E p s m args meth c k) (hd : decode (ab_code k) pc = .ok (.i2l, 1)) (he : (match st with
    | .inl a :: st' => ab_nx (pc + 1) bd L (ab_J a :: st') σ
    | _ => none) = some (.inl (pc', bd', L', st', σ'))) (h : ab_WP E p l e R s m args below meth c Q k pc' bd' L' st' σ') : ab_WP E p l e R s m args below meth c Q k pc bd L st σ := by
  split at he
  · exact ab_s_un (v := ab_J _) (fun H locs cells slots ls rest x hx => ⟨.long x.toInt64, ⟨_, rfl, by rw [ab_i2l, hx]⟩, lv_i2l F.1 F.2.1 hd rfl⟩) he h
  · cases he
theorem ab_s_l2i (F : ab_Fr E p s m args meth c k) (hd : decode (ab_code k) pc = .ok (.l2i, 1)) (he : (match st with
    | .inr (.inl a) :: st' => ab_nx (pc + 1) bd L (ab_I (ab_w32 a) :: st') σ
    | _ => none) = some (.inl (pc', bd', L', st', σ'))) (h : ab_WP E p l e R s m args below meth c Q k pc' bd' L' st' σ') : ab_WP E p l e R s m args below meth c Q k pc bd L st σ := by
  split at he
  · exact ab_s_unJ (v := ab_I _) (fun H locs cells slots ls rest x hx => ⟨.int x.toInt32, ⟨_, rfl, by rw [ab_l2i, hx]⟩, lv_l2i F.1 F.2.1 hd rfl⟩) he h
  · cases he
theorem ab_s_i2b (F : ab_Fr E p s m args meth c k) (hd : decode (ab_code k) pc = .ok (.i2b, 1)) (he : (match st with
    | .inl a :: st' => ab_nx (pc + 1) bd L (ab_I (ab_w8 a) :: st') σ
    | _ => none) = some (.inl (pc', bd', L', st', σ'))) (h : ab_WP E p l e R s m args below meth c Q k pc' bd' L' st' σ') : ab_WP E p l e R s m args below meth c Q k pc bd L st σ := by
  split at he
  · exact ab_s_un (v := ab_I _) (fun H locs cells slots ls rest x hx => ⟨.int x.toInt8.toInt32, ⟨_, rfl, by rw [ab_i2b, hx]⟩, lv_i2b F.1 F.2.1 hd rfl⟩) he h
  · cases he
theorem ab_s_lshl (F : ab_Fr E p s m args meth c k) (hd : decode (ab_code k) pc = .ok (.lshl, 1)) (he : (match st with
    | .inl b :: .inr (.inl a) :: st' => ab_nx (pc + 1) bd L (ab_J (Int64.ofInt a <<< ((Int32.ofInt b).toInt64 &&& 63)).toInt :: st') σ
    | _ => none) = some (.inl (pc', bd', L', st', σ'))) (h : ab_WP E p l e R s m args below meth c Q k pc' bd' L' st' σ') : ab_WP E p l e R s m args below meth c Q k pc bd L st σ := by
  split at he
  · obtain ⟨rfl, rfl, rfl, rfl, rfl⟩ := ab_nx_inv he
    refine ab_pure (fun H locs cells slots ls rst _ hs => ?_) h
    obtain ⟨y, r1, rfl, rfl, h1⟩ := ab_SR_I hs
    obtain ⟨x, r2, rfl, rfl, h2⟩ := ab_SR_J h1
    exact ⟨.long (x <<< (y.toInt64 &&& 63)) :: r2, ⟨⟨_, rfl, by rw [ab_ofto, ab_ofto64]⟩, h2⟩, lv_lshl F.1 F.2.1 hd rfl⟩
  · cases he
theorem ab_s_dup (F : ab_Fr E p s m args meth c k) (hd : decode (ab_code k) pc = .ok (.dup, 1)) (he : (match st with
    | v :: st' => if ab_isJ v = true then none else ab_nx (pc + 1) bd L (v :: v :: st') σ
    | _ => none) = some (.inl (pc', bd', L', st', σ'))) (h : ab_WP E p l e R s m args below meth c Q k pc' bd' L' st' σ') : ab_WP E p l e R s m args below meth c Q k pc bd L st σ := by
  split at he
  · split at he
    · cases he
    · rename_i hv
      obtain ⟨rfl, rfl, rfl, rfl, rfl⟩ := ab_nx_inv he
      refine ab_pure (fun H locs cells slots ls rst _ hs => ?_) h
      obtain ⟨r, r1, rfl, h1, h2⟩ := ab_SR_cons hs
      exact ⟨r :: r :: r1, ⟨h1, h1, h2⟩, lv_dup F.1 F.2.1 hd (ab_VR_c1 h1 hv)⟩
  · cases he
theorem ab_s_pop (F : ab_Fr E p s m args meth c k) (hd : decode (ab_code k) pc = .ok (.pop, 1)) (he : (match st with
    | v :: st' => if ab_isJ v = true then none else ab_nx (pc + 1) bd L st' σ
    | _ => none) = some (.inl (pc', bd', L', st', σ'))) (h : ab_WP E p l e R s m args below meth c Q k pc' bd' L' st' σ') : ab_WP E p l e R s m args below meth c Q k pc bd L st σ := by
  split at he
  · split at he
    · cases he
    · rename_i hv
      obtain ⟨rfl, rfl, rfl, rfl, rfl⟩ := ab_nx_inv he
      refine ab_pure (fun H locs cells slots ls rst _ hs => ?_) h
      obtain ⟨r, r1, rfl, h1, h2⟩ := ab_SR_cons hs
      exact ⟨r1, h2, lv_pop F.1 F.2.1 hd (ab_VR_c1 h1 hv)⟩
  · cases he
theorem ab_s_dup2 (F : ab_Fr E p s m args meth c k) (hd : decode (ab_code k) pc = .ok (.dup2, 1)) (he : (match st with
    | v :: w :: st' => if ab_isJ v = true ∨ ab_isJ w = true then none else ab_nx (pc + 1) bd L (v :: w :: v :: w :: st') σ
    | _ => none) = some (.inl (pc', bd', L', st', σ'))) (h : ab_WP E p l e R s m args below meth c Q k pc' bd' L' st' σ') : ab_WP E p l e R s m args below meth c Q k pc bd L st σ := by
  split at he
  · split at he
    · cases he
    · rename_i hv
      obtain ⟨rfl, rfl, rfl, rfl, rfl⟩ := ab_nx_inv he
      refine ab_pure (fun H locs cells slots ls rst _ hs => ?_) h
      obtain ⟨r, r1, rfl, h1, h2⟩ := ab_SR_cons hs
      obtain ⟨w, r2, rfl, h3, h4⟩ := ab_SR_cons h2
      exact ⟨r :: w :: r :: w :: r2, ⟨h1, h3, h1, h3, h4⟩, lv_dup2_11 F.1 F.2.1 hd (ab_VR_c1 h1 (fun q => hv (Or.inl q))) (ab_VR_c1 h3 (fun q => hv (Or.inr q)))⟩
  · cases he
theorem ab_s_goto (F : ab_Fr E p s m args meth c k) {off : Int} (hd : decode (ab_code k) pc = .ok (.goto off, 3)) (he : ab_tg pc off bd L st σ = some (.inl (pc', bd', L', st', σ'))) (h : ab_WP E p l e R s m args below meth c Q k pc' bd' L' st' σ') : ab_WP E p l e R s m args below meth c Q k pc bd L st σ := by
  obtain ⟨ht, hq⟩ := ab_tg_inv he
  cases hq
  exact ab_pure (fun H locs cells slots ls rst _ hs => ⟨rst, hs, lv_goto F.1 F.2.1 hd ht⟩) h
theorem ab_br_inv {cnd : Bool} {off : Int} {st1 : List ab_V} {q : ab_Q} (h : ab_br cnd pc off bd L st1 σ = some q) : (pc : Int) + off = (((pc : Int) + off).toNat : Int) ∧ q = .inl ((bif cnd then ((pc : Int) + off).toNat else pc + 3), bd, L, st1, σ) := by
  unfold ab_br at h
  split at h
  · rename_i h0
    unfold ab_nx at h
    exact ⟨by omega, (Option.some.inj h).symm⟩
  · cases h
/-- a jump: the row of the machine, by what the condition says -/
theorem ab_br_go {cnd : Bool} {off : Int} {st1 : List ab_V} {Pr : Prop} (hP : Pr ↔ cnd = true) {H : Heap} {locs : List Loc} {cells slots : Nat} {ls : Array Slot} {rest : List Value} (hA : ab_At E R k bd L st1 σ H locs cells slots ls rest) (h : ab_WP E p l e R s m args below meth c Q k (bif cnd then ((pc : Int) + off).toNat else pc + 3) bd L st1 σ) :
    (Pr → W p l e R s m args below meth c H locs cells slots Q (F0 m ((pc : Int) + off).toNat ls rest)) ∧ (¬ Pr → W p l e R s m args below meth c H locs cells slots Q (F0 m (pc + 3) ls rest)) := by
  cases cnd with
  | true => exact ⟨fun _ => h H locs cells slots ls rest hA, fun q => absurd (hP.mpr rfl) q⟩
  | false => exact ⟨fun q => absurd (hP.mp q) (by decide), fun _ => h H locs cells slots ls rest hA⟩
theorem ab_s_ifCond (F : ab_Fr E p s m args meth c k) {cd : ClassFile.Cond} {off : Int} (hd : decode (ab_code k) pc = .ok (.ifCond cd off, 3)) (he : (match st with
    | .inl a :: st' => ab_br (ab_cond cd a 0) pc off bd L st' σ
    | _ => none) = some (.inl (pc', bd', L', st', σ'))) (h : ab_WP E p l e R s m args below meth c Q k pc' bd' L' st' σ') : ab_WP E p l e R s m args below meth c Q k pc bd L st σ := by
  split at he
  · obtain ⟨ht, hq⟩ := ab_br_inv he
    cases hq
    intro H locs cells slots ls rst ⟨h1, h2, h3, h4⟩
    obtain ⟨x, r2, rfl, rfl, h6⟩ := ab_SR_I h3
    have z0 : (0 : Int32).toInt = 0 := rfl
    have hA : ab_At E R k _ _ _ _ H locs cells slots ls r2 := ⟨h1, h2, h6, h4⟩
    cases cd with
    | eq =>
      obtain ⟨k1, k2⟩ := ab_br_go (Pr := x = 0) (by simp [ab_cond, ab_eq32, ab_lt32, ab_le32, z0]) hA h
      exact lv_if_eq F.1 F.2.1 hd ht k1 k2
    | ne =>
      obtain ⟨k1, k2⟩ := ab_br_go (Pr := ¬ x = 0) (by simp [ab_cond, ab_eq32, ab_lt32, ab_le32, z0]) hA h
      exact lv_if_ne F.1 F.2.1 hd ht k1 (fun q => k2 (fun n => n q))
    | lt =>
      obtain ⟨k1, k2⟩ := ab_br_go (Pr := x < 0) (by simp [ab_cond, ab_eq32, ab_lt32, ab_le32, z0]) hA h
      exact lv_if_lt F.1 F.2.1 hd ht k1 k2
    | ge =>
      obtain ⟨k1, k2⟩ := ab_br_go (Pr := 0 ≤ x) (by simp [ab_cond, ab_eq32, ab_lt32, ab_le32, z0]) hA h
      exact lv_if_ge F.1 F.2.1 hd ht k1 k2
    | gt =>
      obtain ⟨k1, k2⟩ := ab_br_go (Pr := 0 < x) (by simp [ab_cond, ab_eq32, ab_lt32, ab_le32, z0]) hA h
      exact lv_if_gt F.1 F.2.1 hd ht k1 k2
    | le =>
      obtain ⟨k1, k2⟩ := ab_br_go (Pr := x ≤ 0) (by simp [ab_cond, ab_eq32, ab_lt32, ab_le32, z0]) hA h
      exact lv_if_le F.1 F.2.1 hd ht k1 k2
  · cases he
theorem ab_s_if_icmp (F : ab_Fr E p s m args meth c k) {cd : ClassFile.Cond} {off : Int} (hd : decode (ab_code k) pc = .ok (.if_icmp cd off, 3)) (he : (match st with
    | .inl b :: .inl a :: st' => ab_br (ab_cond cd a b) pc off bd L st' σ
    | _ => none) = some (.inl (pc', bd', L', st', σ'))) (h : ab_WP E p l e R s m args below meth c Q k pc' bd' L' st' σ') : ab_WP E p l e R s m args below meth c Q k pc bd L st σ := by
  split at he
  · obtain ⟨ht, hq⟩ := ab_br_inv he
    cases hq
    intro H locs cells slots ls rst ⟨h1, h2, h3, h4⟩
    obtain ⟨y, r1, rfl, rfl, h5⟩ := ab_SR_I h3
    obtain ⟨x, r2, rfl, rfl, h6⟩ := ab_SR_I h5
    have hA : ab_At E R k _ _ _ _ H locs cells slots ls r2 := ⟨h1, h2, h6, h4⟩
    cases cd with
    | eq =>
      obtain ⟨k1, k2⟩ := ab_br_go (Pr := x = y) (by simp [ab_cond, ab_eq32, ab_lt32, ab_le32]) hA h
      exact lv_icmp_eq F.1 F.2.1 hd ht k1 k2
    | ne =>
      obtain ⟨k1, k2⟩ := ab_br_go (Pr := ¬ x = y) (by simp [ab_cond, ab_eq32, ab_lt32, ab_le32]) hA h
      exact lv_icmp_ne F.1 F.2.1 hd ht k1 (fun q => k2 (fun n => n q))
    | lt =>
      obtain ⟨k1, k2⟩ := ab_br_go (Pr := x < y) (by simp [ab_cond, ab_eq32, ab_lt32, ab_le32]) hA h
      exact lv_icmp_lt F.1 F.2.1 hd ht k1 k2
    | ge =>
      obtain ⟨k1, k2⟩ := ab_br_go (Pr := y ≤ x) (by simp [ab_cond, ab_eq32, ab_lt32, ab_le32]) hA h
      exact lv_icmp_ge F.1 F.2.1 hd ht k1 k2
    | gt =>
      obtain ⟨k1, k2⟩ := ab_br_go (Pr := y < x) (by simp [ab_cond, ab_eq32, ab_lt32, ab_le32]) hA h
      exact lv_icmp_gt F.1 F.2.1 hd ht k1 k2
    | le =>
      obtain ⟨k1, k2⟩ := ab_br_go (Pr := x ≤ y) (by simp [ab_cond, ab_eq32, ab_lt32, ab_le32]) hA h
      exact lv_icmp_le F.1 F.2.1 hd ht k1 k2
  · cases he
theorem ab_s_ifnull (F : ab_Fr E p s m args meth c k) {off : Int} (hd : decode (ab_code k) pc = .ok (.ifnull off, 3)) (he : (match st with
    | .inr (.inr a) :: st' => ab_br (decide (a = 0)) pc off bd L st' σ
    | _ => none) = some (.inl (pc', bd', L', st', σ'))) (h : ab_WP E p l e R s m args below meth c Q k pc' bd' L' st' σ') : ab_WP E p l e R s m args below meth c Q k pc bd L st σ := by
  split at he
  · rename_i a st1
    obtain ⟨ht, hq⟩ := ab_br_inv he
    cases hq
    intro H locs cells slots ls rst ⟨h1, h2, h3, h4⟩
    obtain ⟨r2, rfl, h6⟩ := ab_SR_R h3
    by_cases h0 : a = 0
    · subst h0
      have e0 : ab_rr E 0 = .null := rfl
      rw [e0]
      exact lv_ifnullN F.1 F.2.1 hd ht (h H locs cells slots ls r2 ⟨h1, h2, h6, h4⟩)
    · obtain ⟨x, hx⟩ := ab_rr_ref (E := E) h0
      rw [hx]
      have hd0 : decide (a = 0) = false := by simpa using h0
      have hd1 : decide (¬ a = 0) = true := by simpa using h0
      rw [hd0] at h
      exact lv_ifnull F.1 F.2.1 hd (h H locs cells slots ls r2 ⟨h1, h2, h6, h4⟩)
  · cases he
theorem ab_s_ifnonnull (F : ab_Fr E p s m args meth c k) {off : Int} (hd : decode (ab_code k) pc = .ok (.ifnonnull off, 3)) (he : (match st with
    | .inr (.inr a) :: st' => ab_br (decide (¬ a = 0)) pc off bd L st' σ
    | _ => none) = some (.inl (pc', bd', L', st', σ'))) (h : ab_WP E p l e R s m args below meth c Q k pc' bd' L' st' σ') : ab_WP E p l e R s m args below meth c Q k pc bd L st σ := by
  split at he
  · rename_i a st1
    obtain ⟨ht, hq⟩ := ab_br_inv he
    cases hq
    intro H locs cells slots ls rst ⟨h1, h2, h3, h4⟩
    obtain ⟨r2, rfl, h6⟩ := ab_SR_R h3
    by_cases h0 : a = 0
    · subst h0
      have e0 : ab_rr E 0 = .null := rfl
      rw [e0]
      exact lv_ifnonnullN F.1 F.2.1 hd (h H locs cells slots ls r2 ⟨h1, h2, h6, h4⟩)
    · obtain ⟨x, hx⟩ := ab_rr_ref (E := E) h0
      rw [hx]
      have hd0 : decide (a = 0) = false := by simpa using h0
      have hd1 : decide (¬ a = 0) = true := by simpa using h0
      rw [hd1] at h
      exact lv_ifnonnull F.1 F.2.1 hd ht (h H locs cells slots ls r2 ⟨h1, h2, h6, h4⟩)
  · cases he
theorem ab_s_tableswitch (F : ab_Fr E p s m args meth c k) {d lo hi : Int} {offs : Array Int} {len : Nat} (hd : decode (ab_code k) pc = .ok (.tableswitch d lo hi offs, len)) (he : (match st with
    | .inl a :: st' => if a < lo ∨ hi < a then ab_tg pc d bd L st' σ else (match offs[(a - lo).toNat]? with
      | some off => ab_tg pc off bd L st' σ
      | none => none)
    | _ => none) = some (.inl (pc', bd', L', st', σ'))) (h : ab_WP E p l e R s m args below meth c Q k pc' bd' L' st' σ') : ab_WP E p l e R s m args below meth c Q k pc bd L st σ := by
  split at he
  · split at he
    · rename_i hc
      obtain ⟨ht, hq⟩ := ab_tg_inv he
      cases hq
      refine ab_pure (fun H locs cells slots ls rst _ hs => ?_) h
      obtain ⟨x, r1, rfl, rfl, h1⟩ := ab_SR_I hs
      exact ⟨r1, h1, lv_tableOut F.1 F.2.1 hd hc ht⟩
    · rename_i hc
      split at he
      · rename_i off ho
        obtain ⟨ht, hq⟩ := ab_tg_inv he
        cases hq
        refine ab_pure (fun H locs cells slots ls rst _ hs => ?_) h
        obtain ⟨x, r1, rfl, rfl, h1⟩ := ab_SR_I hs
        exact ⟨r1, h1, lv_tableIn F.1 F.2.1 hd (fun q => hc (Or.inl q)) (fun q => hc (Or.inr q)) ho ht⟩
      · cases he
  · cases he
theorem ab_key {o i : Nat} (hi : i < 1000) : (1000 * o + i) / 1000 = o ∧ (1000 * o + i) % 1000 = i := by omega
/-- an entry is below 1000 where a pool has it -/
theorem ab_s_ldcI (F : ab_Fr E p s m args meth c k) {i : Nat} {z : Int} (hi : i < 1000) (hz : ab_lk ab_pI (1000 * ab_ow k + i) = some z) : ab_VR E (ab_I z) (.int (Int32.ofInt z)) ∧ (Jvm.Cond.constant (ab_cn (ab_ow k)) i (Int32.ofInt z)).before args s = true := by
  have hm := ab_lk_mem hz
  have h1 := ab_l_I _ hm
  have h2 := F.2.2.2.2.1 _ h1
  unfold ab_wI at h2
  rw [(ab_key hi).1, (ab_key hi).2] at h2
  exact ⟨⟨_, rfl, ab_v_I _ hm⟩, h2⟩
theorem ab_s_ldcJ (F : ab_Fr E p s m args meth c k) {i : Nat} {z : Int} (hi : i < 1000) (hz : ab_lk ab_pJ (1000 * ab_ow k + i) = some z) : ab_VR E (ab_J z) (.long (Int64.ofInt z)) ∧ (Jvm.Cond.constantLong (ab_cn (ab_ow k)) i (Int64.ofInt z)).before args s = true := by
  have hm := ab_lk_mem hz
  have h1 := ab_l_J _ hm
  have h2 := F.2.2.2.2.1 _ h1
  unfold ab_wJ at h2
  rw [(ab_key hi).1, (ab_key hi).2] at h2
  exact ⟨⟨_, rfl, ab_v_J _ hm⟩, h2⟩
theorem ab_s_ldcS (F : ab_Fr E p s m args meth c k) {i n : Nat} (hi : i < 1000) (hz : ab_lk ab_pS (1000 * ab_ow k + i) = some n) : ab_rr E (-2 - (n : Int)) = .ref (ab_EK E n) ∧ ∃ tx, vk_R (ab_cn (ab_ow k)) i tx (ab_EK E n) s := by
  have hm := ab_lk_mem hz
  have h2 := F.2.2.2.2.2.1.2.2.2.2.1 _ hm
  rw [(ab_key hi).1, (ab_key hi).2] at h2
  refine ⟨?_, _, h2⟩
  unfold ab_rr
  rw [if_neg (by omega), if_neg (by omega), if_neg (by omega)]
  congr 2
  omega
theorem ab_s_ldc (F : ab_Fr E p s m args meth c k) {i : Nat} (hi : i < 1000) (hd : decode (ab_code k) pc = .ok (.ldc i, 2)) (he : (match ab_lk ab_pI (1000 * ab_ow k + i), ab_lk ab_pS (1000 * ab_ow k + i) with
    | some z, _ => ab_nx (pc + 2) bd L (ab_I z :: st) σ
    | none, some s => ab_nx (pc + 2) bd L (ab_R (-2 - (s : Int)) :: st) σ
    | _, _ => none) = some (.inl (pc', bd', L', st', σ'))) (h : ab_WP E p l e R s m args below meth c Q k pc' bd' L' st' σ') : ab_WP E p l e R s m args below meth c Q k pc bd L st σ := by
  split at he
  · rename_i z _ hz
    obtain ⟨h1, h2⟩ := ab_s_ldcI F hi hz
    exact ab_s_push h1 (fun H locs cells slots ls rest => lv_ldc F.1 F.2.1 F.2.2.2.1 h2 hd) he h
  · rename_i n _ hz
    obtain ⟨h1, tx, h2⟩ := ab_s_ldcS F hi hz
    exact ab_s_push (v := ab_R (-2 - (n : Int))) (r := .ref (ab_EK E n)) h1.symm (fun H locs cells slots ls rest => va_ldcS F.1 F.2.1 F.2.2.2.1 h2 hd) he h
  · cases he
theorem ab_ldcwS {H : Heap} {locs : List Loc} {cells slots : Nat} {cc : ByteArray} {ls : Array Slot} {rest : List Value} (hexec : p.tables.exec = Jvm.exec) (hb : c.code = cc) {own tx : String} {index q : Nat} (hown : s.vm.findClass own = some m.cls) (hZ : vk_R own index tx q s) (hdg : decode cc pc = .ok (.ldc_w index, 3))
    (kk : W p l e R s m args below meth c H locs cells slots Q (F0 m (pc + 3) ls (.ref q :: rest))) : W p l e R s m args below meth c H locs cells slots Q (F0 m pc ls rest) := by
  intro T hT X
  obtain ⟨t, a1, b1⟩ := kk T hT X
  exact ⟨t, X.ldcStringW hexec hown (text := tx) (a := q) hZ.1 hZ.2 (g := F0 m pc ls rest) rfl (by rw [hb]; exact hdg) t a1, b1⟩
theorem ab_s_ldc_w (F : ab_Fr E p s m args meth c k) {i : Nat} (hi : i < 1000) (hd : decode (ab_code k) pc = .ok (.ldc_w i, 3)) (he : (match ab_lk ab_pI (1000 * ab_ow k + i), ab_lk ab_pS (1000 * ab_ow k + i) with
    | some z, _ => ab_nx (pc + 3) bd L (ab_I z :: st) σ
    | none, some s => ab_nx (pc + 3) bd L (ab_R (-2 - (s : Int)) :: st) σ
    | _, _ => none) = some (.inl (pc', bd', L', st', σ'))) (h : ab_WP E p l e R s m args below meth c Q k pc' bd' L' st' σ') : ab_WP E p l e R s m args below meth c Q k pc bd L st σ := by
  split at he
  · rename_i z _ hz
    obtain ⟨h1, h2⟩ := ab_s_ldcI F hi hz
    exact ab_s_push h1 (fun H locs cells slots ls rest => lv_ldcw F.1 F.2.1 F.2.2.2.1 h2 hd) he h
  · rename_i n _ hz
    obtain ⟨h1, tx, h2⟩ := ab_s_ldcS F hi hz
    exact ab_s_push (v := ab_R (-2 - (n : Int))) (r := .ref (ab_EK E n)) h1.symm (fun H locs cells slots ls rest => ab_ldcwS F.1 F.2.1 F.2.2.2.1 h2 hd) he h
  · cases he
theorem ab_s_ldc2_w (F : ab_Fr E p s m args meth c k) {i : Nat} (hi : i < 1000) (hd : decode (ab_code k) pc = .ok (.ldc2_w i, 3)) (he : (match ab_lk ab_pJ (1000 * ab_ow k + i) with
    | some z => ab_nx (pc + 3) bd L (ab_J z :: st) σ
    | none => none) = some (.inl (pc', bd', L', st', σ'))) (h : ab_WP E p l e R s m args below meth c Q k pc' bd' L' st' σ') : ab_WP E p l e R s m args below meth c Q k pc bd L st σ := by
  split at he
  · rename_i z hz
    obtain ⟨h1, h2⟩ := ab_s_ldcJ F hi hz
    exact ab_s_push h1 (fun H locs cells slots ls rest => lv_ldc2 F.1 F.2.1 F.2.2.2.1 h2 hd) he h
  · cases he
end S3
