/-! the heap: fields and arrays -/
theorem ab_cell_keep {E : ab_E} {σ σ' : ab_S} {H H' : Heap} {y : Int} (hs : ab_sh σ' y = ab_sh σ y) (hr : ∀ k, ab_rd σ' y k = ab_rd σ y k) (hq : H'[ab_ad E y]? = H[ab_ad E y]?) (h : ab_cell E σ H y) : ab_cell E σ' H' y := by
  rcases h with ⟨c, q, V, e1, e2, e3, e4⟩ | ⟨g, n, f, e1, e2, e3, e4, e5, e6⟩ | e1
  · exact Or.inl ⟨c, q, V, by rw [hs]; exact e1, e2, e3.kept hq, fun k hk => by rw [hr]; exact e4 k hk⟩
  · exact Or.inr (Or.inl ⟨g, n, f, by rw [hs]; exact e1, e2, by rw [hs]; exact e3, e4, by rw [hq]; exact e5, fun j hj => by rw [hr]; exact e6 j hj⟩)
  · exact Or.inr (Or.inr (by rw [hs]; exact e1))
theorem ab_rd_wr_ne {σ : ab_S} {a k v b j : Int} (h : ¬ (b = a ∧ j = k)) : ab_rd (ab_wr σ a k v) b j = ab_rd σ b j := by
  show (if b = a ∧ j = k then v else σ.2.2 b j) = _
  rw [if_neg h]
  rfl
theorem ab_rd_wr {σ : ab_S} {a k v : Int} : ab_rd (ab_wr σ a k v) a k = v := by
  show (if a = a ∧ k = k then v else σ.2.2 a k) = _
  rw [if_pos ⟨rfl, rfl⟩]
theorem ab_sh_wr {σ : ab_S} {a k v b : Int} : ab_sh (ab_wr σ a k v) b = ab_sh σ b := rfl
theorem ab_Rep_set {E : ab_E} {σ : ab_S} {H H' : Heap} {z k v : Int} (h : ab_Rep E σ H) (hz : 1 ≤ z) (hsz : H'.size = H.size) (ho : ∀ q, q ≠ ab_ad E z → H'[q]? = H[q]?) (hc : ab_cell E (ab_wr σ z k v) H' z) : ab_Rep E (ab_wr σ z k v) H' := by
  obtain ⟨h1, h2, h3, h4, h5⟩ := h
  refine ⟨h1, by rw [hsz]; exact h2, fun q hq => ?_, fun y hy1 hy2 => ?_, h5⟩
  · rw [ho q (fun e => by have := ab_ad_ge (E := E) z; omega)]
    exact h3 q hq
  · by_cases hyz : y = z
    · subst hyz; exact hc
    · exact ab_cell_keep (σ := σ) (H := H) rfl (fun k' => ab_rd_wr_ne (fun q => hyz q.1)) (ho _ (fun e => hyz (ab_ad_inj hy1 hz e))) (h4 y hy1 hy2)
theorem ab_get_VR {E : ab_E} {ty : FieldType} {z : Int} {v : ab_V} {r : Value} (h : ab_get ty z = some v) (hr : ab_VT E ty z r) : ab_VR E v r := by
  cases ty <;> simp only [ab_get, reduceCtorEq, Option.some.injEq] at h <;> subst h
  · obtain ⟨k, h1, h2⟩ := hr; exact ⟨k, h1, h2⟩
  · obtain ⟨k, h1, h2⟩ := hr; exact ⟨k, h1, h2⟩
  · obtain ⟨k, h1, h2, -⟩ := hr; exact ⟨k, h1, h2⟩
  · exact hr
  · exact hr
theorem ab_rr_fit {E : ab_E} (z : Int) : (ab_rr E z = .null) ∨ ∃ a, ab_rr E z = .ref a := by
  by_cases h0 : z = 0
  · subst h0; exact Or.inl rfl
  · exact Or.inr (ab_rr_ref h0)
theorem ab_bool {k : Int32} {z : Int} (h : k.toInt = z) (hz : z = 0 ∨ z = 1) : k = 0 ∨ k = 1 := by
  rcases hz with hz | hz
  · exact Or.inl (ab_eq32.mpr (by rw [h, hz]; rfl))
  · exact Or.inr (ab_eq32.mpr (by rw [h, hz]; rfl))
theorem ab_put_ok {E : ab_E} {ty : FieldType} {z : Int} {v : ab_V} {r : Value} (h : ab_put ty v = some z) (hr : ab_VR E v r) : ab_VT E ty z r ∧ narrow ty r = r ∧ fits ty r = true := by
  unfold ab_put at h
  split at h
  · cases h
    obtain ⟨k, rfl, hk⟩ := hr
    exact ⟨⟨k, rfl, hk⟩, rfl, rfl⟩
  · split at h
    · rename_i hz
      cases h
      obtain ⟨k, rfl, hk⟩ := hr
      refine ⟨⟨k, rfl, hk, hz⟩, ?_⟩
      rcases ab_bool hk hz with e | e <;> subst e <;> exact ⟨rfl, rfl⟩
    · cases h
  · cases h
    obtain ⟨k, rfl, hk⟩ := hr
    exact ⟨⟨k, rfl, hk⟩, rfl, rfl⟩
  · cases h
    have hr : r = ab_rr E z := hr
    subst hr
    refine ⟨rfl, ?_⟩
    rcases ab_rr_fit (E := E) z with e | ⟨a, e⟩ <;> rw [e] <;> exact ⟨rfl, rfl⟩
  · cases h
    have hr : r = ab_rr E z := hr
    subst hr
    refine ⟨rfl, ?_⟩
    rcases ab_rr_fit (E := E) z with e | ⟨a, e⟩ <;> rw [e] <;> exact ⟨rfl, rfl⟩
  · cases h
section S4
variable {E : ab_E} {p : Program} {l : Launch} {e : Env} {R : Room} {s : State} {m : MethodId} {args : Array Value} {below : List Frame} {meth : Method} {c : Code} {Q : State → Prop} {k : Nat} {pc pc' : Nat} {bd bd' : ab_B} {L st L' st' : List ab_V} {σ σ' : ab_S}
theorem ab_fld_ok (F : ab_Fr E p s m args meth c k) {i cc f n : Nat} (hi : i < 1000) (hf : ab_fld k i = some (cc, f, n)) :
    cc < 14 ∧ f < ab_N cc ∧ ((n = 0 ∧ (Cond.fieldLink (ab_cn (ab_ow k)) i (ab_T cc f).1 (ab_T cc f).2.1 (ab_T cc f).2.2.1).before args s = true) ∨ (n = 1 ∧ (Cond.fieldLinkNest (ab_cn (ab_ow k)) i (ab_T cc f).1 (ab_T cc f).2.1 (ab_T cc f).2.2.1 (ab_host (ab_ow k))).before args s = true)) := by
  have hm := ab_lk_mem hf
  obtain ⟨h1, h2, h3⟩ := ab_v_F _ hm
  refine ⟨h1, h2, ?_⟩
  rcases h3 with h3 | h3
  · have h3 : n = 0 := h3
    subst h3
    refine Or.inl ⟨rfl, ?_⟩
    have h4 := F.2.2.2.2.1 _ (ab_l_F _ (List.mem_filter.mpr ⟨hm, rfl⟩))
    unfold ab_wF at h4
    rw [(ab_key hi).1, (ab_key hi).2] at h4
    exact h4
  · have h3 : n = 1 := h3
    subst h3
    refine Or.inr ⟨rfl, ?_⟩
    have h4 := F.2.2.2.2.2.1.2.1 _ (ab_l_Fn _ (List.mem_filter.mpr ⟨hm, rfl⟩))
    unfold ab_wFn at h4
    rw [(ab_key hi).1, (ab_key hi).2] at h4
    exact va_Nw.use rfl h4
theorem ab_cls (F : ab_Fr E p s m args meth c k) {cc : Nat} (hc : cc < 14) : u_Kn s (ab_cn cc) (ab_T cc) (ab_N cc) ((ab_ED E).1 cc) ((ab_ED E).2 cc) := F.2.2.2.2.2.1.1.1 cc _ (ab_v_c cc (List.mem_range.mpr hc))
theorem ab_s_getfield (F : ab_Fr E p s m args meth c k) {i : Nat} (hi : i < 1000) (hd : decode (ab_code k) pc = .ok (.getfield i, 3)) (he : (match ab_fld k i, st with
    | some (c, f, _), .inr (.inr a) :: st' => if (ab_sh σ a).1 = (c : Int) + 1 ∧ f < ab_N c then (match ab_get (ab_ty c f) (ab_rd σ a f) with
      | some v => ab_nx (pc + 3) bd L (v :: st') σ
      | none => none) else none
    | _, _ => none) = some (.inl (pc', bd', L', st', σ'))) (h : ab_WP E p l e R s m args below meth c Q k pc' bd' L' st' σ') : ab_WP E p l e R s m args below meth c Q k pc bd L st σ := by
  split at he
  · rename_i cc f n a st1 hf
    split at he
    · rename_i hc
      split at he
      · rename_i v hv
        obtain ⟨rfl, rfl, rfl, rfl, rfl⟩ := ab_nx_inv he
        obtain ⟨hc14, hfN, hlink⟩ := ab_fld_ok F hi hf
        intro H locs cells slots ls rst ⟨h1, h2, h3, h4⟩
        obtain ⟨r1, rfl, h6⟩ := ab_SR_R h3
        obtain ⟨ha, q, V, hq, ⟨cell, q1, q2, q3, q4⟩, hV⟩ := ab_Rep_obj h1 hc.1 hc14
        rw [ab_v_c cc (List.mem_range.mpr hc14)] at hq
        cases hq
        obtain ⟨hS, hfc, kC, hkC, hkind⟩ := ab_cls F hc14
        obtain ⟨cf, kf, fi, fd, hfi, hsl⟩ := hS f hfN
        have hfacts := (u_facts hfc hkC (u_lays F.2.2.2.2.1 (ab_in_ws hc14) hfN) hfi).1
        rw [ab_rr_pos ha]
        have kk := h H locs cells slots ls (V f :: r1) ⟨h1, h2, ⟨ab_get_VR hv (hV f hfN), h6⟩, h4⟩
        rcases hlink with ⟨-, hl⟩ | ⟨-, hl⟩
        · exact W.getf F.1 F.2.1 F.2.2.2.1 hl hfi hfacts q1 (by rw [q3]; exact fun h => by cases h) (v := V f) (by rw [hsl]; exact q4 f hfN) rfl rfl hd kk
        · exact va_Wgetf F.1 F.2.1 F.2.2.2.1 hl hfi hfacts q1 (by rw [q3]; exact fun h => by cases h) (v := V f) (by rw [hsl]; exact q4 f hfN) rfl rfl hd kk
      · cases he
    · cases he
  · cases he
theorem ab_s_putfield (F : ab_Fr E p s m args meth c k) {i : Nat} (hi : i < 1000) (hd : decode (ab_code k) pc = .ok (.putfield i, 3)) (he : (match ab_fld k i, st with
    | some (c, f, n), v :: .inr (.inr a) :: st' => if (ab_sh σ a).1 = (c : Int) + 1 ∧ f < ab_N c ∧ (((ab_T c f).2.2.2 = false) ∨ (ab_kd k = 2 ∧ ab_ow k = c ∧ n = 0)) then (match ab_put (ab_ty c f) v with
      | some z => ab_nx (pc + 3) bd L st' (ab_wr σ a f z)
      | none => none) else none
    | _, _ => none) = some (.inl (pc', bd', L', st', σ'))) (h : ab_WP E p l e R s m args below meth c Q k pc' bd' L' st' σ') : ab_WP E p l e R s m args below meth c Q k pc bd L st σ := by
  split at he
  · rename_i cc f n v a st1 hf
    split at he
    · rename_i hc
      split at he
      · rename_i z hz
        obtain ⟨rfl, rfl, rfl, rfl, rfl⟩ := ab_nx_inv he
        obtain ⟨hc14, hfN, hlink⟩ := ab_fld_ok F hi hf
        intro H locs cells slots ls rst ⟨h1, h2, h3, h4⟩
        obtain ⟨rv, r0, rfl, hvr, h3⟩ := ab_SR_cons h3
        obtain ⟨r1, rfl, h6⟩ := ab_SR_R h3
        obtain ⟨ha, q, V, hq, ⟨cell, q1, q2, q3, q4⟩, hV⟩ := ab_Rep_obj h1 hc.1 hc14
        have hin := ab_Rep_in h1 (z := a) (by omega)
        rw [ab_v_c cc (List.mem_range.mpr hc14)] at hq
        cases hq
        obtain ⟨hvt, hnar, hfit⟩ := ab_put_ok hz hvr
        have hcc := List.mem_range.mpr hc14
        have hty : ∀ k, k < ab_N cc → parseFieldDescriptor (ab_T cc k).2.2.1 = some (ab_ty cc k) := fun k hk => ab_v_ty cc hcc k (List.mem_range.mpr hk)
        have hap := va_apart (own := "") F.2.2.2.2.1 (ab_in_ws hc14) (ab_ty cc) hty (fun x hx y hy => ab_v_nm cc hcc x (List.mem_range.mpr hx) y (List.mem_range.mpr hy)) F.2.2.2.2.2.1.1 (ab_v_c cc hcc)
        obtain ⟨hS, hfc, kC, hkC, hkind⟩ := ab_cls F hc14
        obtain ⟨cf, kf, fi, fd, hfi, hsl⟩ := hS f hfN
        have hlays := u_lays F.2.2.2.2.1 (ab_in_ws hc14) hfN
        have hfacts := (u_facts hfc hkC hlays hfi).1
        rw [ab_rr_pos ha]
        have kk : ∀ H' : Heap, H'[ab_ad E a]? = some (cell.setSlot fd.slot rv) → H'.size = H.size → (∀ q, q ≠ ab_ad E a → H'[q]? = H[q]?) → W p l e R s m args below meth c H' (locs ++ [⟨ab_ad E a, fd.slot⟩]) cells slots Q (F0 m (pc + 3) ls r1) := by
          intro H' e1 e2 e3
          refine h H' _ cells slots ls r1 ⟨ab_Rep_set h1 hin.1 e2 e3 ?_, h2, h6, ?_, h4.2⟩
          · refine Or.inl ⟨cc, _, updV V f rv, hc.1, ab_v_c cc hcc, ⟨_, e1, q2, q3, ?_⟩, ?_⟩
            · rw [hsl]
              exact t_set q4 hap hfN rv
            · intro j hj
              by_cases hjf : j = f
              · subst hjf
                rw [ab_rd_wr]
                show ab_VT E _ _ (if j = j then rv else V j)
                rw [if_pos rfl]
                exact hvt
              · rw [ab_rd_wr_ne (fun q => hjf (by omega))]
                show ab_VT E _ _ (if j = f then rv else V j)
                rw [if_neg hjf]
                exact hV j hj
          · intro q hq
            rcases List.mem_append.mp hq with h7 | h7
            · exact h4.1 q h7
            · rw [List.mem_singleton.mp h7]
              exact ab_ad_ge a
        have hslot : fd.slot < cell.slots.size := by rw [hsl]; exact k2_hasslot (q4 f hfN)
        by_cases hfin : (ab_T cc f).2.2.2 = false
        · have hlay := F.2.2.2.2.1 _ (ab_in_ws hc14 _ (u_in_lay hfN))
          unfold u_lay at hlay
          rw [if_neg (by rw [hfin]; decide)] at hlay
          have h6' := u_store hfc hkC hkind hlay hfi (hty f hfN) hnar hfit
          rcases hlink with ⟨-, hl⟩ | ⟨-, hl⟩
          · exact W.putK F.1 F.2.1 (f := fd) ⟨F.2.2.2.1, hl, ⟨_, _, _, hfi⟩, hfacts⟩ (by rw [q2]; exact h6') q1 q3 hslot rfl rfl hd kk
          · exact va_WputK F.1 F.2.1 (f := fd) F.2.2.2.1 hl hfi hfacts (by rw [q2]; exact h6') q1 q3 hslot rfl rfl hd kk
        · obtain ⟨hkd, how, hn0⟩ := hc.2.2.resolve_left hfin
          subst hn0
          obtain ⟨-, hl⟩ := hlink.resolve_right (fun q => by cases q.1)
          have hlay := F.2.2.2.2.1 _ (ab_in_ws hc14 _ (u_in_lay hfN))
          unfold u_lay at hlay
          rw [if_pos (by simpa using hfin)] at hlay
          have hcf : m.cls = cf := by
            obtain ⟨_, _, c', _, _, _, -, -, hf', -, -, -, hown2, -⟩ := Cond.laysFinal_spec hlay
            have e1 : c' = cf := by have := hfi.symm.trans hf'; simp at this; exact this.1.symm
            rw [ab_v_own cc hcc f (List.mem_range.mpr hfN), ← how] at hown2
            rw [← e1]; exact Option.some.inj (F.2.2.2.1.symm.trans hown2)
          have h6' := u_fits hfc hkC hkind (Or.inr hlay) hfi (hty f hfN) hnar hfit
          exact W.putFinK F.1 F.2.1 F.2.2.2.1 hl hfi hfacts hcf (F.2.2.2.2.2.2.2.1 hkd) (by rw [q2]; exact h6') q1 q3 hslot rfl rfl hd kk
      · cases he
    · cases he
  · cases he
theorem ab_arrK (F : ab_Fr E p s m args meth c k) {g : Nat} (hg : g < 9) : ArrOfT s (ab_EA E g) (ab_aty g) ∧ va_RA s (ab_EA E g) (ab_aty g) := F.2.2.2.2.2.1.1.2 g (ab_EA E g, ab_aty g) (by
  unfold ab_tys
  rw [List.getElem?_map, List.getElem?_range hg]
  rfl)
theorem ab_ald_inv {g pc1 : Nat} {mk : Int → ab_V} {q : ab_Q} (h : ab_ald g pc1 bd L st σ mk = some q) : ∃ i a st1, st = .inl i :: .inr (.inr a) :: st1 ∧ (ab_sh σ a).1 = 21 + (g : Int) ∧ 0 ≤ i ∧ i < (ab_sh σ a).2 ∧ q = .inl (pc1, bd, L, mk (ab_rd σ a i) :: st1, σ) := by
  unfold ab_ald at h
  split at h
  · rename_i i a st1
    split at h
    · rename_i hc
      unfold ab_nx at h
      exact ⟨i, a, st1, rfl, hc.1, hc.2.1, hc.2.2, (Option.some.inj h).symm⟩
    · cases h
  · cases h
/-- a read of an array of kind g -/
theorem ab_s_ald (F : ab_Fr E p s m args meth c k) {g : Nat} (hg : g < 9) {mk : Int → ab_V} (hmk : ∀ z r, ab_VT E (ab_aty g) z r → ab_VR E (mk z) r)
    (hop : ∀ (H : Heap) (locs : List Loc) (cells slots : Nat) (ls : Array Slot) (rest : List Value) (x : Int32) (a : Nat) (cell : Cell) (v : Value), H[a]? = some cell → s.isArrayOf cell (ab_aty g) → cell.vm ≠ .unknown → ¬ (x < 0 ∨ cell.slots.size ≤ x.toNatClampNeg) → cell.slots[x.toNatClampNeg]? = some v → W p l e R s m args below meth c H locs cells slots Q (F0 m (pc + 1) ls (v :: rest)) → W p l e R s m args below meth c H locs cells slots Q (F0 m pc ls (.int x :: .ref a :: rest)))
    (he : ab_ald g (pc + 1) bd L st σ mk = some (.inl (pc', bd', L', st', σ'))) (h : ab_WP E p l e R s m args below meth c Q k pc' bd' L' st' σ') : ab_WP E p l e R s m args below meth c Q k pc bd L st σ := by
  obtain ⟨i, a, st1, rfl, hs, hi0, hi1, hq⟩ := ab_ald_inv he
  cases hq
  intro H locs cells slots ls rst ⟨h1, h2, h3, h4⟩
  obtain ⟨x, r0, rfl, hx, h5⟩ := ab_SR_I h3
  obtain ⟨r1, rfl, h6⟩ := ab_SR_R h5
  obtain ⟨ha, n, f, hn, hn6, hcell, hf⟩ := ab_Rep_arr h1 hs hg
  rw [ab_rr_pos ha]
  have hlt : x.toInt.toNat < n := by omega
  have hx0 : 0 ≤ x.toInt := by omega
  have hidx : ((x.toInt.toNat : Nat) : Int) = i := by omega
  refine hop H locs cells slots ls r1 x _ _ (f x.toInt.toNat) hcell ((ab_arrK F hg).1 n f) (fun q => by cases q) (by rw [arrV_size]; exact ab_in32 hx0 (by omega)) ?_ ?_
  · rw [ab_clamp hx0]
    exact arrV_read _ _ hlt
  · refine h H locs cells slots ls _ ⟨h1, h2, ⟨hmk _ _ ?_, h6⟩, h4⟩
    have := hf x.toInt.toNat hlt
    rw [hidx] at this
    exact this
/-- a write into an array of kind g -/
theorem ab_s_ast (F : ab_Fr E p s m args meth c k) {g : Nat} (hg : g < 9) {a i z : Int} {v : ab_V} {st1 : List ab_V} (hs : (ab_sh σ a).1 = 21 + (g : Int)) (hi0 : 0 ≤ i) (hi1 : i < (ab_sh σ a).2)
    (hop : ∀ (H : Heap) (locs : List Loc) (cells slots : Nat) (ls : Array Slot) (rest : List Value) (x : Int32) (ad n : Nat) (f : Nat → Value) (r : Value), ab_Rep E σ H → H[ad]? = some (arrV (ab_EA E g) n f) → ab_VR E v r → ¬ (x < 0 ∨ n ≤ x.toNatClampNeg) → ∃ r', ab_VT E (ab_aty g) z r' ∧ ((∀ H' : Heap, H'[ad]? = some ((arrV (ab_EA E g) n f).setSlot x.toNatClampNeg r') → H'.size = H.size → (∀ q, q ≠ ad → H'[q]? = H[q]?) → W p l e R s m args below meth c H' (locs ++ [⟨ad, x.toNatClampNeg⟩]) cells slots Q (F0 m (pc + 1) ls rest)) → W p l e R s m args below meth c H locs cells slots Q (F0 m pc ls (r :: .int x :: .ref ad :: rest))))
    (h : ab_WP E p l e R s m args below meth c Q k (pc + 1) bd L st1 (ab_wr σ a i z)) : ab_WP E p l e R s m args below meth c Q k pc bd L (v :: .inl i :: .inr (.inr a) :: st1) σ := by
  intro H locs cells slots ls rst ⟨h1, h2, h3, h4⟩
  obtain ⟨rv, r9, rfl, hvr, h3⟩ := ab_SR_cons h3
  obtain ⟨x, r0, rfl, hx, h5⟩ := ab_SR_I h3
  obtain ⟨r1, rfl, h6⟩ := ab_SR_R h5
  obtain ⟨ha, n, f, hn, hn6, hcell, hf⟩ := ab_Rep_arr h1 hs hg
  have hin := ab_Rep_in h1 (z := a) (by omega)
  rw [ab_rr_pos ha]
  have hlt : x.toInt.toNat < n := by omega
  have hx0 : 0 ≤ x.toInt := by omega
  have hidx : ((x.toInt.toNat : Nat) : Int) = i := by omega
  obtain ⟨r', g1, g2⟩ := hop H locs cells slots ls r1 x _ n f rv h1 hcell hvr (ab_in32 hx0 (by omega))
  refine g2 fun H' e1 e2 e3 => ?_
  rw [ab_clamp hx0, arrV_store] at e1
  refine h H' _ cells slots ls r1 ⟨ab_Rep_set h1 hin.1 e2 e3 ?_, h2, h6, ?_, h4.2⟩
  · refine Or.inr (Or.inl ⟨g, n, _, hs, hg, hn, hn6, e1, fun j hj => ?_⟩)
    by_cases hji : j = x.toInt.toNat
    · subst hji
      rw [hidx, ab_rd_wr]
      show ab_VT E _ _ (if _ = _ then r' else f _)
      rw [if_pos rfl]
      exact g1
    · rw [ab_rd_wr_ne (fun q => hji (by omega))]
      show ab_VT E _ _ (if _ = _ then r' else f _)
      rw [if_neg hji]
      exact hf j hj
  · intro q hq
    rcases List.mem_append.mp hq with h7 | h7
    · exact h4.1 q h7
    · rw [List.mem_singleton.mp h7]
      exact ab_ad_ge a
end S4
