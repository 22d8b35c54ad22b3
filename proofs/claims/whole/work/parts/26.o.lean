/-! the law's own led: it writes the number and answers 0, or catches and answers 1 -/
def ab_lW : List Cond := Cond.codeWith yL_led cL_led 4 (some .int) [(0, 9, 12, 13)] :: ab_ws
theorem ab_arrKK {E : ab_E} {s : State} (K : ab_K E s) {g : Nat} (hg : g < 9) : ArrOfT s (ab_EA E g) (ab_aty g) ∧ va_RA s (ab_EA E g) (ab_aty g) := K.1.2 g (ab_EA E g, ab_aty g) (by
  unfold ab_tys
  rw [List.getElem?_map, List.getElem?_range hg]
  rfl)
theorem ab_Rep_arrset {E : ab_E} {σ : ab_S} {H H' : Heap} {a v : Int} {n : Nat} {f : Nat → Value} {r' : Value} (h1 : ab_Rep E σ H) (hs : (ab_sh σ a).1 = 22) (ha : 1 ≤ a) (hn : (ab_sh σ a).2 = (n : Int)) (hn6 : n ≤ 60000) (hf : ∀ j, j < n → ab_VT E .long (ab_rd σ a j) (f j)) (g1 : ab_VT E .long v r') (e1 : H'[ab_ad E a]? = some (arrV (ab_EA E 1) n (fun j => if j = 0 then r' else f j))) (e2 : H'.size = H.size) (e3 : ∀ q, q ≠ ab_ad E a → H'[q]? = H[q]?) : ab_Rep E (ab_wr σ a 0 v) H' := by
  refine ab_Rep_set h1 ha e2 e3 (Or.inr (Or.inl ⟨1, n, _, hs, by decide, hn, hn6, e1, fun j hj => ?_⟩))
  by_cases hji : j = 0
  · subst hji
    rw [show ((0 : Nat) : Int) = 0 from rfl, ab_rd_wr]
    show ab_VT E _ _ (if _ = _ then r' else f _)
    rw [if_pos rfl]
    exact g1
  · rw [ab_rd_wr_ne (fun q => hji (by omega))]
    show ab_VT E _ _ (if _ = _ then r' else f _)
    rw [if_neg hji]
    exact hf j hj
set_option maxHeartbeats 4000000 in
theorem ab_ledL_met {l : Launch} (hl : l.stackTraces = false) (h12 : ab_Sp12 l) {E : ab_E} {x i out : Int} {ki : Int32} {σ σ' : ab_S} {rv : Int} (hki : ki.toInt = i)
    (l1 : (ab_sh σ x).1 = 12) (l2 : (ab_sh σ (ab_rd σ x 7)).1 = 5) (l3 : (ab_sh σ (ab_rd σ x 1)).1 = 9) (l4 : (ab_sh σ (ab_rd σ (ab_rd σ x 1) 2)).1 = 24) (l5 : 0 ≤ ab_rd σ (ab_rd σ x 7) 5) (l6 : ab_rd σ (ab_rd σ x 7) 5 ≤ (ab_sh σ (ab_rd σ (ab_rd σ x 1) 2)).2) (l7 : (ab_sh σ out).1 = 22) (l8 : 0 < (ab_sh σ out).2)
    (hres : (∃ b, ab_ledf σ x i = some b ∧ rv = 0 ∧ σ' = ab_wr σ out 0 b) ∨ (ab_ledf σ x i = none ∧ rv = 1 ∧ σ' = ab_new σ 50 0)) :
    vx_Met l yL_led ab_lW (ab_rm (29, 1, 6)) (ab_Pc E [.ref (ab_ad E x), .int ki, .ref (ab_ad E out)] σ) (ab_Qc E (some (ab_I rv)) σ') (fun _ _ _ => False) 1 6 (fun q => ab_Eb E ≤ q) := by
  refine vx_ofWH (hh := [(0, 9, 12, 13)]) (cc := cL_led) (maxL := 4) (ret := some .int) (by decide) rfl ?_
  intro p e s m args below meth c s₁ B hml hv
  obtain ⟨rfl, hK, hRep⟩ := hv
  have hts := atoms_spec (ws := ab_lW) B.pre
  have hw : ∀ w ∈ ab_ws, w.before _ s = true := fun w hw => hts w (List.mem_cons_of_mem _ hw)
  have hown : s.vm.findClass RL = some m.cls := findClass_of_methodNamed B.named
  have hlocks := B.notSynchronized
  have hr := B.returns
  have hx := B.exec
  have hb := B.bytes
  have htab : c.exceptionTable.toList = tableOf [(0, 9, 12, 13)] := vx_table (x := yL_led) B (hts _ List.mem_cons_self)
  obtain ⟨hxp, qx, Vx, hqx, ⟨cellx, cx1, cx2, cx3, -⟩, -⟩ := ab_Rep_obj hRep (z := x) (c := 11) l1 (by decide)
  obtain ⟨hop, no, fo, hno, hno6, hcello, hfo⟩ := ab_Rep_arr hRep (z := out) (g := 1) l7 (by decide)
  obtain ⟨-, ng, fg, hng, hng6, -, -⟩ := ab_Rep_arr hRep (z := ab_rd σ (ab_rd σ x 1) 2) (g := 3) l4 (by decide)
  obtain ⟨n, r, σ1, hev, hr9, hs9⟩ := ab_led_run (X := ab_Xof E) (Q := fun r' σ1 => r' = (ab_ledf σ x i).map ab_I ∧ σ1 = σ) (i := i) (by omega) l1 l2 l3 l4 l5 l6 (by omega) ⟨rfl, rfl⟩
  rw [hr9, hs9] at hev
  have hM := ab_led_met hl (ab_sim h12 n) (E := E) (x := x) (i := i) (rs := [.ref (ab_ad E x), .int ki]) hev ⟨(ab_rr_pos hxp).symm, ⟨ki, rfl, hki⟩, trivial⟩
  rw [lg_entry_eq]
  have hls := lv_entry [Value.ref (ab_ad E x), .int ki, .ref (ab_ad E out)] (n := 4) (Nat.le_of_ble_eq_true rfl)
  generalize ((lg_sl [Value.ref (ab_ad E x), .int ki, .ref (ab_ad E out)] ++ List.replicate (4 - (lg_sl [Value.ref (ab_ad E x), .int ki, .ref (ab_ad E out)]).length) Slot.unset).toArray) = ls at hls ⊢
  have z0 : ls[0]? = some (.val (.ref (ab_ad E x))) := hls.2.2 (0, _) List.mem_cons_self
  have z1 : ls[1]? = some (.val (.int ki)) := hls.2.2 (1, _) (List.mem_cons_of_mem _ List.mem_cons_self)
  have z2 : ls[2]? = some (.val (.ref (ab_ad E out))) := hls.2.2 (2, _) (List.mem_cons_of_mem _ (List.mem_cons_of_mem _ List.mem_cons_self))
  refine lv_aload_n hx hb dL_led_0 rfl z2 ?_
  refine lv_iconst hx hb dL_led_1 rfl ?_
  refine lv_aload_n hx hb dL_led_2 rfl z0 ?_
  refine lv_iload_n hx hb dL_led_3 rfl z1 ?_
  have hfix : CallFix p m c cL_led 4 s #[.ref (ab_ad E x), .int ki, .ref (ab_ad E out)] ab_ws RL := ⟨hx, hb, hml, hown, hw⟩
  have hcb : CallB (headSpec ab_lW (ab_rm (29, 1, 6))).room s #[.ref (ab_ad E x), .int ki, .ref (ab_ad E out)] RL 7 yX11_led (ab_code 121) (ab_mx 121) (ab_rt 121) (ab_W 121) (ab_rm (20, 1, 6)) 1 6 1 :=
    callB_of 1 hw (ab_good (fun w hw => (List.mem_cons.mp hw).elim (fun q => by rw [q]; exact jw_lX) id)) rfl rfl rfl (hw _ jw_ln) (hw _ jw_l7) (by decide +kernel) (by decide)
  have hrun := vx_runV (H := s.heap) (locs := []) (cells := 0) (slots := 0) (e := e) (below := below) (meth := meth) (b := ab_ad E x) (As := [.int ki]) (rest := [.int 0, .ref (ab_ad E out)]) (g := F0 m 4 ls [.int ki, .ref (ab_ad E x), .int 0, .ref (ab_ad E out)]) hfix hM ⟨hcb, hw _ jw_li, hw _ jw_ls⟩
    ⟨ab_blind, ⟨cellx, cx1, by rw [cx3]; rfl, by rw [cx2]; exact (hK.1.1 11 _ (ab_v_c 11 (by decide))).2.1⟩, fun U hU hW => ⟨rfl, ab_K_warm hW hK, by rw [hU]; exact hRep⟩⟩ rfl rfl hls.1 rfl (Nat.le_of_ble_eq_true rfl) dL_led_4 (by decide)
  intro T hT X
  rcases hrun T hT X with ⟨v, st₀, t, T', L, h0, X', hL, e1, e2, ⟨hrn, rv1, ho, hor, hRep'⟩, hgo⟩ | ⟨q, st₀, t, T', L, C9, ce, h0, X', hL, e1, e2, ⟨rfl, hrn, hRep'⟩, hce, hcv, hcl, st⟩
  · cases ho
    rcases hres with ⟨b, hb9, rfl, rfl⟩ | ⟨hb9, -, -⟩
    · rw [hb9] at hor hrn
      obtain ⟨kb, rfl, hkb⟩ : ∃ kb : Int32, v = some (.int kb) ∧ kb.toInt = b := by
        match v, hor with
        | some w, h9 => obtain ⟨kb, rfl, h10⟩ := h9; exact ⟨kb, rfl, h10⟩
      rw [← e1] at hRep'
      obtain ⟨-, no', fo', hno', hno6', hcello', hfo'⟩ := ab_Rep_arr hRep' (z := out) (g := 1) l7 (by decide)
      have key : W p l e (headSpec ab_lW (ab_rm (29, 1, 6))).room s m #[.ref (ab_ad E x), .int ki, .ref (ab_ad E out)] below meth c T'.heap ([] ++ L) (0 + 1) (0 + 6) (vx_MQ below (ab_Qc E (some (ab_I 0)) (ab_wr σ out 0 b)) (fun _ _ _ => False) #[.ref (ab_ad E x), .int ki, .ref (ab_ad E out)] s 1 6 (fun q => ab_Eb E ≤ q)) (F0 m 7 ls [.int kb, .int 0, .ref (ab_ad E out)]) := by
        refine lv_i2l hx hb dL_led_7 rfl ?_
        refine W.last hx hb hcello' ((ab_arrKK hK (g := 1) (by decide)).1 no' fo') (fun q => by cases q) (by rw [arrV_size]; exact ab_in32 (by decide) (by show (0 : Int32).toInt < _; rw [show (0 : Int32).toInt = 0 from rfl]; omega)) rfl rfl dL_led_8 fun H' f1 f2 f3 => ?_
        refine lv_goto (tgt := 15) hx hb dL_led_9 rfl ?_
        refine lv_iconst hx hb dL_led_15 rfl ?_
        refine vx_ret (W.iret hx hb hr (fun t9 ht' hW => ⟨_, rfl, ⟨0, rfl, rfl⟩, ?_⟩) ?_ dL_led_16)
        · intro z hz
          rcases List.mem_append.mp hz with h9 | h9
          · exact hL z (by simpa using h9)
          · rw [List.mem_singleton.mp h9]
            exact ab_ad_ge out
        · rw [ht']
          rw [show (0 : Int32).toNatClampNeg = 0 from rfl, arrV_store] at f1
          exact ab_Rep_arrset hRep' l7 (by omega) hno' hno6' hfo' ⟨kb.toInt64, rfl, by rw [ab_i2l]; exact hkb⟩ f1 f2 f3
      obtain ⟨t2, a1, b1⟩ := key T' rfl X'
      exact ⟨t2, hgo t2 a1, b1⟩
    · rw [hb9] at hrn
      exact absurd rfl hrn
  · rcases hres with ⟨b, hb9, -, -⟩ | ⟨hb9, rfl, rfl⟩
    · rw [hb9] at hrn
      cases hrn
    · rw [← e1] at hRep'
      have key : vx_W p l e (headSpec ab_lW (ab_rm (29, 1, 6))).room s m #[.ref (ab_ad E x), .int ki, .ref (ab_ad E out)] below meth c T'.heap ([] ++ L) (0 + 1) (0 + 6) (vx_MQ below (ab_Qc E (some (ab_I 1)) (ab_new σ 50 0)) (fun _ _ _ => False) #[.ref (ab_ad E x), .int ki, .ref (ab_ad E out)] s 1 6 (fun q => ab_Eb E ≤ q)) (F0 m 4 ls [.int 0, .ref (ab_ad E out)]) q := by
        refine vx_catch (own := RL) (name := ab_NE) hown [] ⟨0, 9, 12, 13⟩ [] (by rw [htab]; rfl) (fun z hz => by cases hz) (by decide) (by decide) (hw _ jw_l13) (va_tabs rfl rfl hK.2.2.2.2.2.1.2.2.2.2.2) (by rw [e1]; exact hce) hcv hcl ?_
        refine lv_astore_n hx hb dL_led_12 rfl hls (by decide) rfl fun ls' hls' => ?_
        refine lv_iconst hx hb dL_led_13 rfl ?_
        refine vx_ret (W.iret hx hb hr (fun t9 ht' hW => ⟨_, rfl, ⟨1, rfl, rfl⟩, by rw [ht']; exact hRep'⟩) ?_ dL_led_14)
        intro z hz
        exact hL z (by simpa using hz)
      obtain ⟨t2, a1, b1⟩ := key T' rfl X'
      exact ⟨t2, st.trans a1, b1⟩
