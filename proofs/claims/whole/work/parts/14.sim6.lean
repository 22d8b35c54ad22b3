/-! new cells -/
theorem ab_cell_new {E : ab_E} {σ σ' : ab_S} {H H' : Heap} (h : ab_Rep E σ H) (hs : ∀ y, y < σ.1 → ab_sh σ' y = ab_sh σ y) (hr : ∀ y k, y < σ.1 → ab_rd σ' y k = ab_rd σ y k) (ho : ∀ q, q < H.size → H'[q]? = H[q]?) : (∀ q : Nat, q < ab_Eb E → H'[q]? = (ab_EH E)[q]?) ∧ ∀ z : Int, 1 ≤ z → z < σ.1 → ab_cell E σ' H' z := by
  obtain ⟨h1, h2, h3, h4, h5⟩ := h
  refine ⟨fun q hq => ?_, fun y hy1 hy2 => ?_⟩
  · rw [ho q (by omega)]
    exact h3 q hq
  · exact ab_cell_keep (σ := σ) (H := H) (hs y hy2) (fun k => hr y k hy2) (ho _ (by unfold ab_ad; omega)) (h4 y hy1 hy2)
theorem ab_Rep_new {E : ab_E} {σ : ab_S} {H H' : Heap} {t n : Int} (h : ab_Rep E σ H) (hsz : H'.size = H.size + 1) (ho : ∀ q, q < H.size → H'[q]? = H[q]?) (hc : ab_cell E (ab_new σ t n) H' σ.1) : ab_Rep E (ab_new σ t n) H' := by
  have hs : ∀ y, y < σ.1 → ab_sh (ab_new σ t n) y = ab_sh σ y := fun y hy => by
    show (if y = σ.1 then (t, n) else σ.2.1 y) = _
    rw [if_neg (by omega)]
    rfl
  have hr : ∀ y k, y < σ.1 → ab_rd (ab_new σ t n) y k = ab_rd σ y k := fun y k hy => by
    show (if y = σ.1 then 0 else σ.2.2 y k) = _
    rw [if_neg (by omega)]
    rfl
  obtain ⟨g1, g2⟩ := ab_cell_new h hs hr ho
  obtain ⟨h1, h2, h3, h4, h5⟩ := h
  refine ⟨by show 1 ≤ σ.1 + 1; omega, ?_, g1, fun z hz1 hz2 => ?_, fun z hz => ?_⟩
  · show H'.size = ab_Eb E + (σ.1 + 1 - 1).toNat
    omega
  · have hz2 : z < σ.1 + 1 := hz2
    by_cases hz : z = σ.1
    · subst hz; exact hc
    · exact g2 z hz1 (by omega)
  · have hz : ¬ (1 ≤ z ∧ z < σ.1 + 1) := hz
    show (if z = σ.1 then (t, n) else σ.2.1 z) = _
    rw [if_neg (by omega)]
    exact h5 z (by omega)
theorem ab_ad_new {E : ab_E} {σ : ab_S} {H : Heap} (h : ab_Rep E σ H) : ab_ad E σ.1 = H.size ∧ ab_rr E σ.1 = .ref H.size := by
  obtain ⟨h1, h2, -⟩ := h
  have e : ab_ad E σ.1 = H.size := by unfold ab_ad; omega
  exact ⟨e, by rw [ab_rr_pos (by omega), e]⟩
theorem ab_VT_0 {E : ab_E} {ty : FieldType} (h : ty = .int ∨ ty = .long ∨ ty = .byte ∨ ty = .boolean ∨ (∃ C, ty = .object C) ∨ ∃ t, ty = .array t) : ab_VT E ty 0 (defaultValue ty) := by
  rcases h with h | h | h | h | ⟨C, h⟩ | ⟨C, h⟩ <;> subst h
  · exact ⟨0, rfl, rfl⟩
  · exact ⟨0, rfl, rfl⟩
  · exact ⟨0, rfl, rfl, by decide, by decide⟩
  · exact ⟨0, rfl, rfl, Or.inl rfl⟩
  · exact rfl
  · exact rfl
def ab_tyOk (ty : FieldType) : Bool := match ty with
  | .int => true
  | .long => true
  | .byte => true
  | .boolean => true
  | .object _ => true
  | .array _ => true
  | _ => false
theorem ab_tyOk_of {ty : FieldType} (h : ab_tyOk ty = true) : ty = .int ∨ ty = .long ∨ ty = .byte ∨ ty = .boolean ∨ (∃ C, ty = .object C) ∨ ∃ t, ty = .array t := by
  cases ty <;> simp [ab_tyOk] at h ⊢
theorem ab_v_dflt : ∀ c ∈ List.range 14, ∀ k ∈ List.range (ab_N c), ab_tyOk (ab_ty c k) = true := by decide +kernel
theorem ab_v_dfltA : ∀ g ∈ List.range 9, ab_tyOk (ab_aty g) = true := by decide +kernel
theorem ab_m_inb : ∀ c ∈ List.range 14, c ∈ [11, 7, 9, 4, 1, 5, 8, 3, 6, 0, 2, 10, 13, 12] := by decide +kernel
theorem ab_m_ac : ∀ c ∈ List.range 4, c ∈ [2, 0, 3, 1] := by decide +kernel
theorem ab_m_init : ∀ c ∈ List.range 16, c ∈ [14, 11, 7, 9, 4, 1, 5, 8, 3, 6, 0, 2, 10, 13, 15, 12] := by decide +kernel
section S6
variable {E : ab_E} {p : Program} {l : Launch} {e : Env} {R : Room} {s : State} {m : MethodId} {args : Array Value} {below : List Frame} {meth : Method} {c : Code} {Q : State → Prop} {k : Nat} {pc pc' : Nat} {bd bd' : ab_B} {L st L' st' : List ab_V} {σ σ' : ab_S}
theorem ab_s_new (F : ab_Fr E p s m args meth c k) {i : Nat} (hi : i < 1000) (hd : decode (ab_code k) pc = .ok (.new i, 3)) (he : (match ab_lk ab_pC (1000 * ab_ow k + i) with
    | some c => if c < 14 ∧ 1 ≤ bd.2.1 ∧ ab_N c ≤ bd.2.2 then ab_nx (pc + 3) (bd.1, bd.2.1 - 1, bd.2.2 - ab_N c) L (ab_R σ.1 :: st) (ab_new σ ((c : Int) + 1) 0) else none
    | none => if (k = ab_kled ∧ pc = 43 ∧ 1 ≤ bd.2.1 ∧ 6 ≤ bd.2.2) ∧ i = 376 ∧ st = [] then some (.inr (.inl none)) else none) = some (.inl (pc', bd', L', st', σ'))) (h : ab_WP E p l e R s m args below meth c Q k pc' bd' L' st' σ') : ab_WP E p l e R s m args below meth c Q k pc bd L st σ := by
  split at he
  · rename_i cc hcc
    split at he
    · rename_i hc
      obtain ⟨rfl, rfl, rfl, rfl, rfl⟩ := ab_nx_inv he
      obtain ⟨hc14, hb1, hb2⟩ := hc
      have hm := List.mem_range.mpr hc14
      have hlink := F.2.2.2.2.1 _ (ab_l_C _ (ab_lk_mem hcc))
      unfold ab_wC at hlink
      rw [(ab_key hi).1, (ab_key hi).2] at hlink
      have hin := F.2.2.2.2.1 _ (ab_l_inb cc (ab_m_inb cc hm))
      have hini := F.2.2.2.2.1 _ (ab_l_init cc (ab_m_init cc (List.mem_range.mpr (by omega))))
      have hKn := ab_cls F hc14
      intro H locs cells slots ls rst ⟨h1, h2, h3, h4, h5, h6, h7, h8⟩
      obtain ⟨e1, e2⟩ := ab_ad_new h1
      refine W.newcK F.1 F.2.1 F.2.2.2.1 hlink hin hini rfl hd (by omega) (by omega) hKn.2.1 rfl fun H1 kC hkC g1 g2 g3 => ?_
      rw [← e2]
      have hob := u_born (ab_ty cc) F.2.2.2.2.1 (ab_in_ws hc14) hKn hkC g1 (fun k hk => ab_v_ty cc hm k (List.mem_range.mpr hk))
      rw [← e1] at hob
      refine h H1 locs (cells + 1) (slots + ab_N cc) ls (ab_rr E σ.1 :: rst) ⟨ab_Rep_new h1 g2 g3 ?_, h2, ⟨rfl, h3⟩, h4, by dsimp only; omega, by dsimp only; omega, h7, h8⟩
      refine Or.inl ⟨cc, _, _, ?_, ab_v_c cc hm, hob, fun j hj => ?_⟩
      · show (if σ.1 = σ.1 then (((cc : Int) + 1, (0 : Int)) : Int × Int) else σ.2.1 σ.1).1 = _
        rw [if_pos rfl]
      · have e0 : ab_rd (ab_new σ ((cc : Int) + 1) 0) σ.1 j = 0 := by
          show (if σ.1 = σ.1 then 0 else σ.2.2 σ.1 j) = _
          rw [if_pos rfl]
        rw [e0]
        exact ab_VT_0 (ab_tyOk_of (ab_v_dflt cc hm j (List.mem_range.mpr hj)))
    · cases he
  · split at he <;> cases he
/-- a new array of kind g -/
theorem ab_Rep_newA {g n : Nat} (hg : g < 9) (hn : n ≤ 60000) {H H' : Heap} (h : ab_Rep E σ H) (g1 : H'[H.size]? = some (arrV (ab_EA E g) n (fun _ => defaultValue (ab_aty g)))) (g2 : H'.size = H.size + 1) (g3 : ∀ q, q < H.size → H'[q]? = H[q]?) : ab_Rep E (ab_new σ (21 + (g : Int)) (n : Int)) H' := by
  refine ab_Rep_new h g2 g3 (Or.inr (Or.inl ⟨g, n, _, ?_, hg, ?_, hn, by rw [(ab_ad_new h).1]; exact g1, fun j hj => ?_⟩))
  · show (if σ.1 = σ.1 then (((21 : Int) + g, (n : Int)) : Int × Int) else σ.2.1 σ.1).1 = _
    rw [if_pos rfl]
  · show (if σ.1 = σ.1 then (((21 : Int) + g, (n : Int)) : Int × Int) else σ.2.1 σ.1).2 = _
    rw [if_pos rfl]
  · have e0 : ab_rd (ab_new σ (21 + (g : Int)) n) σ.1 j = 0 := by
      show (if σ.1 = σ.1 then 0 else σ.2.2 σ.1 j) = _
      rw [if_pos rfl]
    rw [e0]
    exact ab_VT_0 (ab_tyOk_of (ab_v_dfltA g (List.mem_range.mpr hg)))
theorem ab_newarr1 (F : ab_Fr E p s m args meth c k) {aty : ArrayType} {g : Nat} (hg : g < 4) (hty : newarray.typeOf aty = ab_aty g) (hd : decode (ab_code k) pc = .ok (.newarray aty, 2)) {n : Int} {st1 : List ab_V} (hn0 : 0 ≤ n) (hn1 : n ≤ 60000) (hb1 : 1 ≤ bd.2.1) (hb2 : n.toNat ≤ bd.2.2) (h : ab_WP E p l e R s m args below meth c Q k (pc + 2) (bd.1, bd.2.1 - 1, bd.2.2 - n.toNat) L (ab_R σ.1 :: st1) (ab_new σ (21 + (g : Int)) n)) : ab_WP E p l e R s m args below meth c Q k pc bd L (.inl n :: st1) σ := by
  have hac : (Cond.arrayClass (newarray.typeOf aty)).before args s = true := by
    rw [hty]
    exact F.2.2.2.2.1 _ (ab_l_ac g (ab_m_ac g (List.mem_range.mpr hg)))
  intro H locs cells slots ls rst ⟨h1, h2, h3, h4, h5, h6, h7, h8⟩
  obtain ⟨x, r1, rfl, hx, h9⟩ := ab_SR_I h3
  have hx0 : 0 ≤ x.toInt := by omega
  have hcl : x.toNatClampNeg = n.toNat := by rw [ab_clamp hx0, hx]
  have hbytes : n.toNat * componentBytes (newarray.typeOf aty) ≤ 536870912 := by
    have : componentBytes (newarray.typeOf aty) ≤ 8 := by cases aty <;> decide
    have := Nat.mul_le_mul (show n.toNat ≤ 60000 by omega) this
    omega
  refine va_newaK F.1 F.2.1 hac rfl hd rfl (fun q => by rw [ab_lt32] at q; have : (0 : Int32).toInt = 0 := rfl; omega) hcl hbytes (by omega) (by omega) rfl fun H1 cA g1 g2 g3 g4 g5 => ?_
  have hRA := (ab_arrK F (g := g) (by omega)).2
  have hcA : cA = ab_EA E g := by
    rw [hty] at g5
    obtain rfl | rfl | rfl | rfl : g = 0 ∨ g = 1 ∨ g = 2 ∨ g = 3 := by omega
    · exact Option.some.inj (g5.symm.trans hRA)
    · exact Option.some.inj (g5.symm.trans hRA)
    · exact Option.some.inj (g5.symm.trans hRA)
    · exact Option.some.inj (g5.symm.trans hRA)
  subst hcA
  rw [hty] at g1
  have hRep := ab_Rep_newA (σ := σ) (g := g) (n := n.toNat) (by omega) (by omega) h1 g1 g2 g3
  have en : ((n.toNat : Nat) : Int) = n := by omega
  rw [en] at hRep
  rw [← (ab_ad_new h1).2]
  exact h H1 locs (cells + 1) (slots + n.toNat) ls (ab_rr E σ.1 :: r1) ⟨hRep, h2, ⟨rfl, h9⟩, h4, by dsimp only; omega, by dsimp only; omega, h7, h8⟩
theorem ab_s_newarray (F : ab_Fr E p s m args meth c k) {ty : ArrayType} (hd : decode (ab_code k) pc = .ok (.newarray ty, 2)) (he : (match ab_nka ty, st with
    | some g, .inl n :: st' => if 0 ≤ n ∧ n ≤ 60000 ∧ 1 ≤ bd.2.1 ∧ n.toNat ≤ bd.2.2 then ab_nx (pc + 2) (bd.1, bd.2.1 - 1, bd.2.2 - n.toNat) L (ab_R σ.1 :: st') (ab_new σ (21 + (g : Int)) n) else none
    | _, _ => none) = some (.inl (pc', bd', L', st', σ'))) (h : ab_WP E p l e R s m args below meth c Q k pc' bd' L' st' σ') : ab_WP E p l e R s m args below meth c Q k pc bd L st σ := by
  have key : ∀ {g : Nat} {n : Int} {w : List ab_V}, g < 4 → newarray.typeOf ty = ab_aty g → (if 0 ≤ n ∧ n ≤ 60000 ∧ 1 ≤ bd.2.1 ∧ n.toNat ≤ bd.2.2 then ab_nx (pc + 2) (bd.1, bd.2.1 - 1, bd.2.2 - n.toNat) L (ab_R σ.1 :: w) (ab_new σ (21 + (g : Int)) n) else none) = some (.inl (pc', bd', L', st', σ')) → ab_WP E p l e R s m args below meth c Q k pc bd L (.inl n :: w) σ := by
    intro g n w hg hty he
    split at he
    · rename_i hc
      obtain ⟨rfl, rfl, rfl, rfl, rfl⟩ := ab_nx_inv he
      exact ab_newarr1 F hg hty hd hc.1 hc.2.1 hc.2.2.1 hc.2.2.2 h
    · cases he
  match st, he with
  | .inl n :: w, he =>
    cases ty with
    | int => exact key (g := 0) (by decide) rfl he
    | long => exact key (g := 1) (by decide) rfl he
    | byte => exact key (g := 2) (by decide) rfl he
    | boolean => exact key (g := 3) (by decide) rfl he
    | char => exact nomatch (show (none : Option ab_Q) = some _ from he)
    | float => exact nomatch (show (none : Option ab_Q) = some _ from he)
    | double => exact nomatch (show (none : Option ab_Q) = some _ from he)
    | short => exact nomatch (show (none : Option ab_Q) = some _ from he)
  | [], he => cases ty <;> exact nomatch (show (none : Option ab_Q) = some _ from he)
  | .inr _ :: _, he => cases ty <;> exact nomatch (show (none : Option ab_Q) = some _ from he)
theorem ab_anew1 (F : ab_Fr E p s m args meth c k) {g cc : Nat} (hg : g < 9) (hAO : va_AO (ab_cn cc) s) (hty : ab_aty g = .object (ab_cn cc)) {i : Nat} (hlink : (Cond.classLink (ab_cn (ab_ow k)) i (ab_cn cc)).before args s = true) (hd : decode (ab_code k) pc = .ok (.anewarray i, 3)) {n : Int} {st1 : List ab_V} (hn0 : 0 ≤ n) (hn1 : n ≤ 60000) (hb1 : 1 ≤ bd.2.1) (hb2 : n.toNat ≤ bd.2.2) (h : ab_WP E p l e R s m args below meth c Q k (pc + 3) (bd.1, bd.2.1 - 1, bd.2.2 - n.toNat) L (ab_R σ.1 :: st1) (ab_new σ (21 + (g : Int)) n)) : ab_WP E p l e R s m args below meth c Q k pc bd L (.inl n :: st1) σ := by
  intro H locs cells slots ls rst ⟨h1, h2, h3, h4, h5, h6, h7, h8⟩
  obtain ⟨x, r1, rfl, hx, h9⟩ := ab_SR_I h3
  have hx0 : 0 ≤ x.toInt := by omega
  have hcl : x.toNatClampNeg = n.toNat := by rw [ab_clamp hx0, hx]
  refine W.anew F.1 F.2.1 F.2.2.2.1 hlink (va_AO.use hAO) rfl hd rfl (fun q => by rw [ab_lt32] at q; have : (0 : Int32).toInt = 0 := rfl; omega) (by rw [hcl]; omega) (by omega) (by rw [hcl]; omega) fun cA kA comp f1 f2 f3 f4 => ?_
  have hRA := (ab_arrK F hg).2
  rw [hty] at hRA
  obtain ⟨kA', comp', k1, k2, k3, k4⟩ := hRA
  have hcA : cA = ab_EA E g := Option.some.inj (f1.symm.trans k4)
  subst hcA
  rw [hcl]
  have hRep := ab_Rep_newA (σ := σ) (g := g) (n := n.toNat) hg (by omega) h1 (H' := H.push ({ cls := ab_EA E g, slots := Array.replicate n.toNat .null, vm := .none } : Cell)) (by rw [Array.getElem?_push_size, arrV_new, hty]; rfl) (by rw [Array.size_push]) (fun q hq => by rw [Array.getElem?_push, if_neg (Nat.ne_of_lt hq)])
  have en : ((n.toNat : Nat) : Int) = n := by omega
  rw [en] at hRep
  rw [← (ab_ad_new h1).2]
  exact h _ locs (cells + 1) (slots + n.toNat) ls (ab_rr E σ.1 :: r1) ⟨hRep, h2, ⟨rfl, h9⟩, h4, by dsimp only; omega, by dsimp only; omega, h7, h8⟩
theorem ab_s_anewarray (F : ab_Fr E p s m args meth c k) {i : Nat} (hi : i < 1000) (hd : decode (ab_code k) pc = .ok (.anewarray i, 3)) (he : (match ab_lk ab_pC (1000 * ab_ow k + i), st with
    | some c, .inl n :: st' => (match ab_arr c with
      | some g => if 0 ≤ n ∧ n ≤ 60000 ∧ 1 ≤ bd.2.1 ∧ n.toNat ≤ bd.2.2 then ab_nx (pc + 3) (bd.1, bd.2.1 - 1, bd.2.2 - n.toNat) L (ab_R σ.1 :: st') (ab_new σ (21 + (g : Int)) n) else none
      | none => none)
    | _, _ => none) = some (.inl (pc', bd', L', st', σ'))) (h : ab_WP E p l e R s m args below meth c Q k pc' bd' L' st' σ') : ab_WP E p l e R s m args below meth c Q k pc bd L st σ := by
  have key : ∀ {cc g : Nat} {n : Int} {w : List ab_V}, ab_lk ab_pC (1000 * ab_ow k + i) = some cc → g < 9 → ab_aty g = .object (ab_cn cc) → ab_cn cc ∈ [RX0, RX1, RX5, RX8] → (if 0 ≤ n ∧ n ≤ 60000 ∧ 1 ≤ bd.2.1 ∧ n.toNat ≤ bd.2.2 then ab_nx (pc + 3) (bd.1, bd.2.1 - 1, bd.2.2 - n.toNat) L (ab_R σ.1 :: w) (ab_new σ (21 + (g : Int)) n) else none) = some (.inl (pc', bd', L', st', σ')) → ab_WP E p l e R s m args below meth c Q k pc bd L (.inl n :: w) σ := by
    intro cc g n w hcc hg hty hmem he
    split at he
    · rename_i hc
      obtain ⟨rfl, rfl, rfl, rfl, rfl⟩ := ab_nx_inv he
      have hlink := F.2.2.2.2.1 _ (ab_l_C _ (ab_lk_mem hcc))
      unfold ab_wC at hlink
      rw [(ab_key hi).1, (ab_key hi).2] at hlink
      exact ab_anew1 F hg (F.2.2.2.2.2.1.2.2.1 _ hmem) hty hlink hd hc.1 hc.2.1 hc.2.2.1 hc.2.2.2 h
    · cases he
  split at he
  · rename_i cc n w hcc
    split at he
    · rename_i g hg
      unfold ab_arr at hg
      split at hg
      · cases hg; exact key hcc (g := 4) (by decide) rfl (by decide +kernel) he
      · cases hg; exact key hcc (g := 5) (by decide) rfl (by decide +kernel) he
      · cases hg; exact key hcc (g := 6) (by decide) rfl (by decide +kernel) he
      · cases hg; exact key hcc (g := 7) (by decide) rfl (by decide +kernel) he
      · cases hg
    · cases he
  · cases he
end S6
