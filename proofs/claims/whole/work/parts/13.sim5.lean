/-! arrays: each instruction -/
section S5
variable {E : ab_E} {p : Program} {l : Launch} {e : Env} {R : Room} {s : State} {m : MethodId} {args : Array Value} {below : List Frame} {meth : Method} {c : Code} {Q : State → Prop} {k : Nat} {pc pc' : Nat} {bd bd' : ab_B} {L st L' st' : List ab_V} {σ σ' : ab_S}
theorem ab_mkI {ty : FieldType} (h : ty = .int ∨ ty = .boolean ∨ ty = .byte) : ∀ z r, ab_VT E ty z r → ab_VR E (ab_I z) r := by
  intro z r hr
  rcases h with h | h | h <;> subst h
  · exact hr
  · obtain ⟨k, h1, h2, -⟩ := hr; exact ⟨k, h1, h2⟩
  · obtain ⟨k, h1, h2, -⟩ := hr; exact ⟨k, h1, h2⟩
theorem ab_mk_inv {a b : Option ab_Q} {q : ab_Q} (h : ab_mk a b = some q) : a = some q ∨ b = some q := by
  unfold ab_mk at h
  split at h
  · exact Or.inl h
  · exact Or.inr h
theorem ab_probe : True := by
  have := @Jvm.Stand.multianewarray2F
  trivial
theorem ab_s_laload (F : ab_Fr E p s m args meth c k) (hd : decode (ab_code k) pc = .ok (.laload, 1)) (he : ab_ald 1 (pc + 1) bd L st σ ab_J = some (.inl (pc', bd', L', st', σ'))) (h : ab_WP E p l e R s m args below meth c Q k pc' bd' L' st' σ') : ab_WP E p l e R s m args below meth c Q k pc bd L st σ :=
  ab_s_ald F (g := 1) (mk := ab_J) (by decide) (fun z r hr => hr) (fun H locs cells slots ls rest x a cell v h1 h2 h3 h4 h5 kk => W.lald F.1 F.2.1 h1 h2 h3 h4 h5 rfl rfl hd kk) he h
theorem ab_s_baload (F : ab_Fr E p s m args meth c k) (hd : decode (ab_code k) pc = .ok (.baload, 1)) (he : ab_mk (ab_ald 2 (pc + 1) bd L st σ ab_I) (ab_ald 3 (pc + 1) bd L st σ ab_I) = some (.inl (pc', bd', L', st', σ'))) (h : ab_WP E p l e R s m args below meth c Q k pc' bd' L' st' σ') : ab_WP E p l e R s m args below meth c Q k pc bd L st σ := by
  rcases ab_mk_inv he with he | he
  · exact ab_s_ald F (g := 2) (by decide) (ab_mkI (Or.inr (Or.inr rfl))) (fun H locs cells slots ls rest x a cell v h1 h2 h3 h4 h5 kk => W.bald F.1 F.2.1 h1 h2 h3 h4 h5 rfl rfl hd kk) he h
  · exact ab_s_ald F (g := 3) (by decide) (ab_mkI (Or.inr (Or.inl rfl))) (fun H locs cells slots ls rest x a cell v h1 h2 h3 h4 h5 kk => W.zald F.1 F.2.1 h1 h2 h3 h4 h5 rfl rfl hd kk) he h
theorem ab_s_aald1 (F : ab_Fr E p s m args meth c k) (hd : decode (ab_code k) pc = .ok (.aaload, 1)) {g : Nat} (hg : 4 ≤ g ∧ g < 9) (he : ab_ald g (pc + 1) bd L st σ ab_R = some (.inl (pc', bd', L', st', σ'))) (h : ab_WP E p l e R s m args below meth c Q k pc' bd' L' st' σ') : ab_WP E p l e R s m args below meth c Q k pc bd L st σ := by
  have hty : (∃ C, ab_aty g = .object C) ∨ ab_aty g = .array .int := by
    obtain rfl | rfl | rfl | rfl | rfl : g = 4 ∨ g = 5 ∨ g = 6 ∨ g = 7 ∨ g = 8 := by omega
    · exact Or.inl ⟨_, rfl⟩
    · exact Or.inl ⟨_, rfl⟩
    · exact Or.inl ⟨_, rfl⟩
    · exact Or.inl ⟨_, rfl⟩
    · exact Or.inr rfl
  refine ab_s_ald F (g := g) hg.2 (fun z r hr => ?_) (fun H locs cells slots ls rest x a cell v h1 h2 h3 h4 h5 kk => W.aald (ty := ab_aty g) F.1 F.2.1 h1 h2 ?_ h3 h4 h5 rfl rfl hd kk) he h
  · rcases hty with ⟨C, h9⟩ | h9 <;> rw [h9] at hr <;> exact hr
  · rcases hty with ⟨C, h9⟩ | h9 <;> rw [h9] <;> rfl
theorem ab_s_aaload (F : ab_Fr E p s m args meth c k) (hd : decode (ab_code k) pc = .ok (.aaload, 1)) (he : ab_mk (ab_mk (ab_ald 4 (pc + 1) bd L st σ ab_R) (ab_ald 5 (pc + 1) bd L st σ ab_R)) (ab_mk (ab_mk (ab_ald 6 (pc + 1) bd L st σ ab_R) (ab_ald 7 (pc + 1) bd L st σ ab_R)) (ab_ald 8 (pc + 1) bd L st σ ab_R)) = some (.inl (pc', bd', L', st', σ'))) (h : ab_WP E p l e R s m args below meth c Q k pc' bd' L' st' σ') : ab_WP E p l e R s m args below meth c Q k pc bd L st σ := by
  rcases ab_mk_inv he with he | he
  · rcases ab_mk_inv he with he | he
    · exact ab_s_aald1 F hd (by decide) he h
    · exact ab_s_aald1 F hd (by decide) he h
  · rcases ab_mk_inv he with he | he
    · rcases ab_mk_inv he with he | he
      · exact ab_s_aald1 F hd (by decide) he h
      · exact ab_s_aald1 F hd (by decide) he h
    · exact ab_s_aald1 F hd (by decide) he h
theorem ab_scr_inv {X : ab_X} {w : List ab_V} {q : ab_Q} {pc1 : Nat} (h : (match w with
    | .inl i :: .inr (.inr a) :: w' => if a = -1 ∧ 0 ≤ i ∧ i < X.1 then ab_nx pc1 bd L (ab_I (X.2 i) :: w') σ else none
    | _ => none) = some q) : ∃ i w', w = .inl i :: .inr (.inr (-1)) :: w' ∧ 0 ≤ i ∧ i < X.1 ∧ q = .inl (pc1, bd, L, ab_I (X.2 i) :: w', σ) := by
  split at h
  · split at h
    · rename_i hc
      unfold ab_nx at h
      obtain ⟨h0, h1, h2⟩ := hc
      rw [h0]
      exact ⟨_, _, rfl, h1, h2, (Option.some.inj h).symm⟩
    · cases h
  · cases h
theorem ab_s_iaload (F : ab_Fr E p s m args meth c k) (hd : decode (ab_code k) pc = .ok (.iaload, 1)) (he : (if k = ab_klaw then (match st with
    | .inl i :: .inr (.inr a) :: st' => if a = -1 ∧ 0 ≤ i ∧ i < (ab_Xof E).1 then ab_nx (pc + 1) bd L (ab_I ((ab_Xof E).2 i) :: st') σ else none
    | _ => none) else ab_ald 0 (pc + 1) bd L st σ ab_I) = some (.inl (pc', bd', L', st', σ'))) (h : ab_WP E p l e R s m args below meth c Q k pc' bd' L' st' σ') : ab_WP E p l e R s m args below meth c Q k pc bd L st σ := by
  by_cases hkl : k = ab_klaw
  · rw [if_pos hkl] at he
    obtain ⟨i, st1, rfl, hi0, hi1, hq⟩ := ab_scr_inv he
    · · cases hq
        intro H locs cells slots ls rst ⟨h1, h2, h3, h4⟩
        obtain ⟨x, r0, rfl, hx, h5⟩ := ab_SR_I h3
        obtain ⟨r1, rfl, h6⟩ := ab_SR_R h5
        have e1 : ab_rr E (-1) = .ref (ab_Es E) := rfl
        rw [e1]
        obtain ⟨scr, g1, g2, g3, g4, g5⟩ := F.2.2.2.2.2.1.2.2.2.2.2.2.1
        have hsl := F.2.2.2.2.2.1.2.2.2.2.2.2.2.1
        have hi1 : i < (ab_EL E : Int) := hi1
        have hx0 : 0 ≤ x.toInt := by omega
        have hlt : x.toInt.toNat < ab_EL E := by omega
        refine W.iald F.1 F.2.1 (v := .int (ab_EX E x.toInt.toNat)) (by rw [h1.2.2.1 _ hsl]; exact g1) g2 g3 (by rw [g4]; exact ab_in32 hx0 (by omega)) (by rw [ab_clamp hx0]; exact g5 _ hlt) rfl rfl hd ?_
        refine h H locs cells slots ls _ ⟨h1, h2, ⟨⟨_, rfl, ?_⟩, h6⟩, h4⟩
        show (ab_EX E x.toInt.toNat).toInt = (ab_EX E i.toNat).toInt
        rw [hx]
  · rw [if_neg hkl] at he
    exact ab_s_ald F (g := 0) (by decide) (ab_mkI (Or.inl rfl)) (fun H locs cells slots ls rest x a cell v h1 h2 h3 h4 h5 kk => W.iald F.1 F.2.1 h1 h2 h3 h4 h5 rfl rfl hd kk) he h
theorem ab_s_iastore (F : ab_Fr E p s m args meth c k) (hd : decode (ab_code k) pc = .ok (.iastore, 1)) (he : (match st with
    | .inl v :: .inl i :: .inr (.inr a) :: st' => if (ab_sh σ a).1 = 21 ∧ 0 ≤ i ∧ i < (ab_sh σ a).2 then ab_nx (pc + 1) bd L st' (ab_wr σ a i v) else none
    | _ => none) = some (.inl (pc', bd', L', st', σ'))) (h : ab_WP E p l e R s m args below meth c Q k pc' bd' L' st' σ') : ab_WP E p l e R s m args below meth c Q k pc bd L st σ := by
  split at he
  · split at he
    · rename_i hc
      obtain ⟨rfl, rfl, rfl, rfl, rfl⟩ := ab_nx_inv he
      refine ab_s_ast F (g := 0) (by decide) (by rw [hc.1]; rfl) hc.2.1 hc.2.2 (fun H locs cells slots ls rest x ad n f r _ hcell hr hin => ?_) h
      obtain ⟨kv, rfl, hkv⟩ := hr
      exact ⟨.int kv, ⟨kv, rfl, hkv⟩, fun kk => W.iast F.1 F.2.1 hcell ((ab_arrK F (g := 0) (by decide)).1 n f) (fun q => by cases q) (by rw [arrV_size]; exact hin) rfl rfl hd kk⟩
    · cases he
  · cases he
theorem ab_s_lastore (F : ab_Fr E p s m args meth c k) (hd : decode (ab_code k) pc = .ok (.lastore, 1)) (he : (match st with
    | .inr (.inl v) :: .inl i :: .inr (.inr a) :: st' => if (ab_sh σ a).1 = 22 ∧ 0 ≤ i ∧ i < (ab_sh σ a).2 then ab_nx (pc + 1) bd L st' (ab_wr σ a i v) else none
    | _ => none) = some (.inl (pc', bd', L', st', σ'))) (h : ab_WP E p l e R s m args below meth c Q k pc' bd' L' st' σ') : ab_WP E p l e R s m args below meth c Q k pc bd L st σ := by
  split at he
  · split at he
    · rename_i hc
      obtain ⟨rfl, rfl, rfl, rfl, rfl⟩ := ab_nx_inv he
      refine ab_s_ast F (g := 1) (by decide) (by rw [hc.1]; rfl) hc.2.1 hc.2.2 (fun H locs cells slots ls rest x ad n f r _ hcell hr hin => ?_) h
      obtain ⟨kv, rfl, hkv⟩ := hr
      exact ⟨.long kv, ⟨kv, rfl, hkv⟩, fun kk => W.last F.1 F.2.1 hcell ((ab_arrK F (g := 1) (by decide)).1 n f) (fun q => by cases q) (by rw [arrV_size]; exact hin) rfl rfl hd kk⟩
    · cases he
  · cases he
theorem ab_w8_rng (z : Int) : -128 ≤ ab_w8 z ∧ ab_w8 z < 128 := by unfold ab_w8; omega
theorem ab_s_bastore (F : ab_Fr E p s m args meth c k) (hd : decode (ab_code k) pc = .ok (.bastore, 1)) (he : (match st with
    | .inl v :: .inl i :: .inr (.inr a) :: st' => if (ab_sh σ a).1 = 23 ∧ 0 ≤ i ∧ i < (ab_sh σ a).2 then ab_nx (pc + 1) bd L st' (ab_wr σ a i (ab_w8 v)) else if (ab_sh σ a).1 = 24 ∧ 0 ≤ i ∧ i < (ab_sh σ a).2 ∧ (v = 0 ∨ v = 1) then ab_nx (pc + 1) bd L st' (ab_wr σ a i v) else none
    | _ => none) = some (.inl (pc', bd', L', st', σ'))) (h : ab_WP E p l e R s m args below meth c Q k pc' bd' L' st' σ') : ab_WP E p l e R s m args below meth c Q k pc bd L st σ := by
  split at he
  · split at he
    · rename_i hc
      obtain ⟨rfl, rfl, rfl, rfl, rfl⟩ := ab_nx_inv he
      refine ab_s_ast F (g := 2) (by decide) (by rw [hc.1]; rfl) hc.2.1 hc.2.2 (fun H locs cells slots ls rest x ad n f r _ hcell hr hin => ?_) h
      obtain ⟨kv, rfl, hkv⟩ := hr
      exact ⟨narrow .byte (.int kv), ⟨_, rfl, by rw [ab_i2b, hkv], ab_w8_rng _⟩, fun kk => W.bast F.1 F.2.1 hcell ((ab_arrK F (g := 2) (by decide)).1 n f) (fun q => by cases q) (by rw [arrV_size]; exact hin) rfl rfl hd kk⟩
    · split at he
      · rename_i hc
        obtain ⟨rfl, rfl, rfl, rfl, rfl⟩ := ab_nx_inv he
        refine ab_s_ast F (g := 3) (by decide) (by rw [hc.1]; rfl) hc.2.1 hc.2.2.1 (fun H locs cells slots ls rest x ad n f r _ hcell hr hin => ?_) h
        obtain ⟨kv, rfl, hkv⟩ := hr
        refine ⟨narrow .boolean (.int kv), ⟨kv, ?_, hkv, hc.2.2.2⟩, fun kk => W.zast F.1 F.2.1 hcell ((ab_arrK F (g := 3) (by decide)).1 n f) (fun q => by cases q) (by rw [arrV_size]; exact hin) rfl rfl hd kk⟩
        rcases ab_bool hkv hc.2.2.2 with e | e <;> subst e <;> rfl
      · cases he
  · cases he
theorem ab_s_aast1 (F : ab_Fr E p s m args meth c k) (hd : decode (ab_code k) pc = .ok (.aastore, 1)) {g cc : Nat} (hg : g < 9) (hcc : cc < 14) (hty : ab_aty g = .object (ab_cn cc)) {v i a : Int} {st1 : List ab_V} (hs : (ab_sh σ a).1 = 21 + (g : Int)) (hv : (ab_sh σ v).1 = (cc : Int) + 1) (hi0 : 0 ≤ i) (hi1 : i < (ab_sh σ a).2) (h : ab_WP E p l e R s m args below meth c Q k (pc + 1) bd L st1 (ab_wr σ a i v)) : ab_WP E p l e R s m args below meth c Q k pc bd L (.inr (.inr v) :: .inl i :: .inr (.inr a) :: st1) σ := by
  refine ab_s_ast F (g := g) hg hs hi0 hi1 (fun H locs cells slots ls rest x ad n f r hRep hcell hr hin => ?_) h
  have hr : r = ab_rr E v := hr
  obtain ⟨hv0, q, V, hq, ⟨cellV, g1, g2, g3, -⟩, -⟩ := ab_Rep_obj hRep hv hcc
  rw [ab_rr_pos hv0] at hr
  subst hr
  refine ⟨.ref (ab_ad E v), by rw [hty]; exact (ab_rr_pos hv0).symm, fun kk => ?_⟩
  have hcls := (ab_cls F hcc).2
  have hRA := (ab_arrK F hg).2
  rw [hty] at hRA
  obtain ⟨kA, comp, k1, k2, k3, -⟩ := hRA
  have hcomp : comp = (ab_ED E).1 cc := Option.some.inj (k3.symm.trans hcls.1)
  subst hcomp
  obtain ⟨kC, hkC, -⟩ := hcls.2
  have hin' : ¬ x < 0 ∧ x.toNatClampNeg < n := ⟨fun q => hin (Or.inl q), Nat.not_le.mp fun q => hin (Or.inr q)⟩
  exact W.aast F.1 F.2.1 hcell (fun q h => by cases h) (fun h => by cases h) k1 k2 rfl hkC ⟨hin'.1, by rw [arrV_size]; exact hin'.2⟩ g1 (fun q h => by rw [g3] at h; cases h) (by rw [g2]; exact hkC) (by rw [g2]; exact va_assign hcls) rfl rfl hd kk
theorem ab_s_aastore (F : ab_Fr E p s m args meth c k) (hd : decode (ab_code k) pc = .ok (.aastore, 1)) (he : (match st with
    | .inr (.inr v) :: .inl i :: .inr (.inr a) :: st' => if ab_aok (ab_sh σ a).1 (ab_sh σ v).1 ∧ 0 ≤ i ∧ i < (ab_sh σ a).2 then ab_nx (pc + 1) bd L st' (ab_wr σ a i v) else none
    | _ => none) = some (.inl (pc', bd', L', st', σ'))) (h : ab_WP E p l e R s m args below meth c Q k pc' bd' L' st' σ') : ab_WP E p l e R s m args below meth c Q k pc bd L st σ := by
  split at he
  · split at he
    · rename_i hc
      obtain ⟨rfl, rfl, rfl, rfl, rfl⟩ := ab_nx_inv he
      obtain ⟨hk, hi0, hi1⟩ := hc
      rcases hk with ⟨h1, h2⟩ | ⟨h1, h2⟩ | ⟨h1, h2⟩ | ⟨h1, h2⟩
      · exact ab_s_aast1 F hd (g := 4) (cc := 0) (by decide) (by decide) rfl (by rw [h1]; rfl) (by rw [h2]; rfl) hi0 hi1 h
      · exact ab_s_aast1 F hd (g := 5) (cc := 1) (by decide) (by decide) rfl (by rw [h1]; rfl) (by rw [h2]; rfl) hi0 hi1 h
      · exact ab_s_aast1 F hd (g := 6) (cc := 5) (by decide) (by decide) rfl (by rw [h1]; rfl) (by rw [h2]; rfl) hi0 hi1 h
      · exact ab_s_aast1 F hd (g := 7) (cc := 8) (by decide) (by decide) rfl (by rw [h1]; rfl) (by rw [h2]; rfl) hi0 hi1 h
    · cases he
  · cases he
theorem ab_s_arraylength (F : ab_Fr E p s m args meth c k) (hd : decode (ab_code k) pc = .ok (.arraylength, 1)) (he : (match st with
    | .inr (.inr a) :: st' => if k = ab_klaw then (if a = -1 then ab_nx (pc + 1) bd L (ab_I (ab_Xof E).1 :: st') σ else none) else if 21 ≤ (ab_sh σ a).1 ∧ (ab_sh σ a).1 < 30 then ab_nx (pc + 1) bd L (ab_I (ab_sh σ a).2 :: st') σ else none
    | _ => none) = some (.inl (pc', bd', L', st', σ'))) (h : ab_WP E p l e R s m args below meth c Q k pc' bd' L' st' σ') : ab_WP E p l e R s m args below meth c Q k pc bd L st σ := by
  split at he
  · rename_i a st1
    split at he
    · split at he
      · rename_i hc
        subst hc
        obtain ⟨rfl, rfl, rfl, rfl, rfl⟩ := ab_nx_inv he
        intro H locs cells slots ls rst ⟨h1, h2, h3, h4⟩
        obtain ⟨r1, rfl, h6⟩ := ab_SR_R h3
        have e1 : ab_rr E (-1) = .ref (ab_Es E) := rfl
        rw [e1]
        obtain ⟨scr, g1, g2, g3, g4, g5⟩ := F.2.2.2.2.2.1.2.2.2.2.2.2.1
        have hsl := F.2.2.2.2.2.1.2.2.2.2.2.2.2.1
        refine W.alen F.1 F.2.1 (n := Int32.ofNat (ab_EL E)) (by rw [h1.2.2.1 _ hsl]; exact g1) g2 (by rw [g4] <;> rfl) rfl rfl hd ?_
        refine h H locs cells slots ls _ ⟨h1, h2, ⟨⟨_, rfl, ?_⟩, h6⟩, h4⟩
        exact Int32.toInt_ofNat_of_lt F.2.2.2.2.2.1.2.2.2.2.2.2.2.2.2
      · cases he
    · split at he
      · rename_i hc
        obtain ⟨rfl, rfl, rfl, rfl, rfl⟩ := ab_nx_inv he
        intro H locs cells slots ls rst ⟨h1, h2, h3, h4⟩
        obtain ⟨r1, rfl, h6⟩ := ab_SR_R h3
        obtain ⟨ha, n, f, hn, hn6, hcell, hf⟩ := ab_Rep_arr h1 (z := a) (g := ((ab_sh σ a).1 - 21).toNat) (by omega) (by omega)
        rw [ab_rr_pos ha]
        refine W.alen F.1 F.2.1 (n := Int32.ofNat n) hcell ((ab_arrK F (by omega)).1 n f) (by rw [arrV_size] <;> rfl) rfl rfl hd ?_
        refine h H locs cells slots ls _ ⟨h1, h2, ⟨⟨_, rfl, ?_⟩, h6⟩, h4⟩
        rw [Int32.toInt_ofNat_of_lt (by omega), hn]
      · cases he
  · cases he
end S5
