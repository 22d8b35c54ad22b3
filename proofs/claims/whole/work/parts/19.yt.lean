/-! STRING's length and charAt: the calls; ab_Sp12 -/
theorem ab_jl2 : ∀ i ∈ List.range 28, (Int32.ofNat (ab_sl.getD i 0)).toInt = ((ab_txt.getD i []).length : Int) ∧ ab_sl.getD i 0 = (ab_txt.getD i []).length := by decide +kernel
set_option maxRecDepth 100000 in
theorem ab_l_len : ∀ q ∈ ab_pM.filter (fun q => q.2.1 == 1001), (fun q : Nat × Nat × Nat => Cond.methodLink (ab_cn (q.1 / 1000)) (q.1 % 1000) yJ0_length_8abf5) q ∈ lw_tbl.filter goodWord := by decide +kernel
set_option maxRecDepth 100000 in
theorem ab_l_cha : ∀ q ∈ ab_pM.filter (fun q => q.2.1 == 1002), (fun q : Nat × Nat × Nat => Cond.methodLink (ab_cn (q.1 / 1000)) (q.1 % 1000) yJ0_charAt_5068e) q ∈ lw_tbl.filter goodWord := by decide +kernel
section SK
variable {E : ab_E} {l : Launch} {σ : ab_S} {i : Nat}
theorem ab_j_ck {a b : Int32} (h0 : ¬ a < 0) (h1 : a < b) : Met l yJ0_checkIndex_df160 (.code yJ0_checkIndex_df160 cJ0_checkIndex_df160 2 none :: ab_ws) (ab_rm (1, 0, 0)) (ab_Pc E [.int a, .int b] σ) (ab_Qc E none σ) 0 0 (fun q => ab_Eb E ≤ q) := by
  refine ab_jm (by decide +kernel) (Nat.le_of_ble_eq_true rfl) ?_
  intro p e s m below meth c ls hx hb hml hown hts hK hRep hlocks hr hl
  obtain ⟨-, -, hF⟩ := ab_strs hK hRep
  have hS : va_S (fun q => ab_Eb E ≤ q) s.heap s.heap [] := va_S.rf
  have go : ∀ f : Value, (f = .null ∨ ∃ t, f = .ref t) → W p l e (ab_rm (1, 0, 0)) s m ([.int a, .int b] : List Value).toArray below meth c s.heap [] 0 0 (MQ below (ab_Qc E none σ) ([.int a, .int b] : List Value).toArray s 0 0 (fun q => ab_Eb E ≤ q)) (F0 m 5 ls [f, .int b, .int a]) := fun f hf => by
    refine ab_jc (va_runS (As := [.int a, .int b, f]) (rest := []) ⟨hx, hb, hml, hown, hts⟩ (ab_j_pck (σ := σ) (E := E) hf h0 h1) ⟨callB_of 3 hts (ab_jin jw_pcC) rfl rfl rfl (hts _ jw_i3) (hts _ jw_pcL) (by decide +kernel) ⟨Nat.le_of_ble_eq_true rfl, Nat.le_of_ble_eq_true rfl⟩, hts _ jw_pcS⟩ ⟨ab_blind, ab_jpre hK hRep⟩ rfl rfl hl.1 rfl (by show 2 * 0 + 0 ≤ 8; omega) dJ0_checkIndex_df160_5 ⟨Nat.le_refl _, Nat.le_refl _⟩) (fun _ h => by cases h) (fun H' locs' kv hkv hR hL => ?_)
    refine lv_pop hx hb dJ0_checkIndex_df160_8 rfl ?_
    exact W.vret hx hb hr (fun t ht hW => ⟨_, rfl, trivial, by rw [ht]; exact hR⟩) hL dJ0_checkIndex_df160_9 hlocks
  refine lv_iload_n hx hb dJ0_checkIndex_df160_0 rfl (lv_at hl 0 rfl) ?_
  refine lv_iload_n hx hb dJ0_checkIndex_df160_1 rfl (lv_at hl 1 rfl) ?_
  rcases hF with hF | ⟨t, hF⟩
  · exact va_gets hx hb hF hS hown (hts _ jw_fo) (fun _ h => h) dJ0_checkIndex_df160_2 (go _ (Or.inl rfl))
  · exact va_gets hx hb hF hS hown (hts _ jw_fo) (fun _ h => h) dJ0_checkIndex_df160_2 (go _ (Or.inr ⟨t, rfl⟩))
theorem ab_j_ch1 {a : Int32} (hi : i < 28) (h0 : ¬ a < 0) (h1 : a < Int32.ofNat (ab_sl.getD i 0)) (hj : a.toNatClampNeg < ab_sl.getD i 0) : Met l yJ1_charAt_3b067 (.code yJ1_charAt_3b067 cJ1_charAt_3b067 2 (some .char) :: ab_ws) (ab_rm (2, 0, 0)) (ab_Pc E [.ref (ab_EV E i), .int a] σ) (ab_Qc E (some (ab_I (ab_jch i a.toNatClampNeg).toInt)) σ) 0 0 (fun q => ab_Eb E ≤ q) := by
  refine ab_jm (by decide +kernel) (Nat.le_of_ble_eq_true rfl) ?_
  intro p e s m below meth c ls hx hb hml hown hts hK hRep hlocks hr hl
  obtain ⟨hV, -, -⟩ := ab_strs hK hRep
  have hS : va_S (fun q => ab_Eb E ≤ q) s.heap s.heap [] := va_S.rf
  have hc := (ab_jch_ok i (List.mem_range.mpr hi) _ (List.mem_range.mpr hj)).1
  refine lv_iload_n hx hb dJ1_charAt_3b067_0 rfl (lv_at hl 1 rfl) ?_
  refine lv_aload_n hx hb dJ1_charAt_3b067_1 rfl (lv_at hl 0 rfl) ?_
  refine va_tlen hx hb (hV.1 i hi).2.2.2 hS rfl dJ1_charAt_3b067_2 ?_
  refine ab_jv (va_runS (As := [.int a, .int (Int32.ofNat (ab_sl.getD i 0))]) (rest := []) ⟨hx, hb, hml, hown, hts⟩ (ab_j_ck (σ := σ) (E := E) h0 h1) ⟨callB_of 2 hts (ab_jin jw_ckC) rfl rfl rfl (hts _ jw_i0) (hts _ jw_ckL) (by decide +kernel) ⟨Nat.le_of_ble_eq_true rfl, Nat.le_of_ble_eq_true rfl⟩, hts _ jw_ckS⟩ ⟨ab_blind, ab_jpre hK hRep⟩ rfl rfl hl.1 rfl (by show 2 * 0 + 0 ≤ 8; omega) dJ1_charAt_3b067_3 ⟨Nat.le_refl _, Nat.le_refl _⟩) (fun _ h => by cases h) (fun H' locs' hR hL => ?_)
  have hS' := ab_SS hRep hR hL
  refine lv_aload_n hx hb dJ1_charAt_3b067_6 rfl (lv_at hl 0 rfl) ?_
  refine lv_iload_n hx hb dJ1_charAt_3b067_7 rfl (lv_at hl 1 rfl) ?_
  refine va_tb (v := .int ((ab_sb.getD i []).getD a.toNatClampNeg 0)) hx hb (hV.1 i hi).2.2.2 hS' (fun q => q.elim h0 (fun q => by omega)) rfl dJ1_charAt_3b067_8 ?_
  refine lv_sipush (v := 255) hx hb dJ1_charAt_3b067_9 (by decide) ?_
  refine lv_iand hx hb dJ1_charAt_3b067_12 ?_
  refine lv_i2c (v := ab_jch i a.toNatClampNeg) hx hb dJ1_charAt_3b067_13 rfl ?_
  exact W.zret hx hb hr hc (fun t ht hW => ⟨_, rfl, ⟨_, rfl, rfl⟩, by rw [ht]; exact hR⟩) hL dJ1_charAt_3b067_14 hlocks
theorem ab_j_len (hi : i < 28) : Met l yJ0_length_8abf5 (.code yJ0_length_8abf5 cJ0_length_8abf5 1 (some .int) :: ab_ws) (ab_rm (1, 0, 0)) (ab_Pc E [.ref (ab_EK E i)] σ) (ab_Qc E (some (ab_I ((ab_txt.getD i []).length : Int))) σ) 0 0 (fun q => ab_Eb E ≤ q) := by
  refine ab_jm (by decide +kernel) (Nat.le_of_ble_eq_true rfl) ?_
  intro p e s m below meth c ls hx hb hml hown hts hK hRep hlocks hr hl
  obtain ⟨hV, -, -⟩ := ab_strs hK hRep
  have hS : va_S (fun q => ab_Eb E ≤ q) s.heap s.heap [] := va_S.rf
  refine lv_aload_n hx hb dJ0_length_8abf5_0 rfl (lv_at hl 0 rfl) ?_
  refine vk_getf hx hb (hV.1 i hi).2.2.1 hS hown (hts _ jw_va) (fun _ h => h) dJ0_length_8abf5_1 ?_
  refine va_tlen hx hb (hV.1 i hi).2.2.2 hS rfl dJ0_length_8abf5_4 ?_
  refine lv_aload_n hx hb dJ0_length_8abf5_5 rfl (lv_at hl 0 rfl) ?_
  obtain ⟨cell, g1, g2, g3, -⟩ := (hV.1 i hi).1
  refine ab_jc (va_runV (As := []) (rest := [.int (Int32.ofNat (ab_sl.getD i 0))]) ⟨hx, hb, hml, hown, hts⟩ (ab_j_coder (σ := σ) (E := E) hi) ⟨callB_of 0 hts (ab_jin jw_coC) rfl rfl rfl (hts _ jw_i0) (hts _ jw_coL) (by decide +kernel) ⟨Nat.le_of_ble_eq_true rfl, Nat.le_of_ble_eq_true rfl⟩, hts _ jw_coI, hts _ jw_coS⟩ ⟨ab_blind, ⟨cell, g1, g2, g3⟩, ab_jpre hK hRep⟩ rfl rfl hl.1 rfl (by show 2 * 0 + (1 + 0) ≤ 8; omega) dJ0_length_8abf5_6 ⟨Nat.le_refl _, Nat.le_refl _⟩) (fun _ h => by cases h) (fun H' locs' kv hkv hR hL => ?_)
  obtain rfl : kv = 0 := Int32.toInt_inj.mp (by rw [hkv]; rfl)
  refine lv_ishr hx hb dJ0_length_8abf5_9 ?_
  exact W.iret hx hb hr (fun t ht hW => ⟨_, rfl, ⟨_, rfl, ab_jln_ok i (List.mem_range.mpr hi)⟩, by rw [ht]; exact hR⟩) hL dJ0_length_8abf5_10 hlocks
theorem ab_j_cha {a : Int32} (hi : i < 28) (h0 : ¬ a < 0) (h1 : a < Int32.ofNat (ab_sl.getD i 0)) (hj : a.toNatClampNeg < ab_sl.getD i 0) : Met l yJ0_charAt_5068e (.code yJ0_charAt_5068e cJ0_charAt_5068e 2 (some .char) :: ab_ws) (ab_rm (3, 0, 0)) (ab_Pc E [.ref (ab_EK E i), .int a] σ) (ab_Qc E (some (ab_I (ab_jch i a.toNatClampNeg).toInt)) σ) 0 0 (fun q => ab_Eb E ≤ q) := by
  refine ab_jm (by decide +kernel) (Nat.le_of_ble_eq_true rfl) ?_
  intro p e s m below meth c ls hx hb hml hown hts hK hRep hlocks hr hl
  obtain ⟨hV, -, -⟩ := ab_strs hK hRep
  have hc := (ab_jch_ok i (List.mem_range.mpr hi) _ (List.mem_range.mpr hj)).1
  refine lv_aload_n hx hb dJ0_charAt_5068e_0 rfl (lv_at hl 0 rfl) ?_
  obtain ⟨cell, g1, g2, g3, -⟩ := (hV.1 i hi).1
  refine ab_jc (va_runV (As := []) (rest := []) ⟨hx, hb, hml, hown, hts⟩ (ab_j_isLatin1 (σ := σ) (E := E) hi) ⟨callB_of 0 hts (ab_jin jw_laC) rfl rfl rfl (hts _ jw_i0) (hts _ jw_laL) (by decide +kernel) ⟨Nat.le_of_ble_eq_true rfl, Nat.le_of_ble_eq_true rfl⟩, hts _ jw_laI, hts _ jw_laS⟩ ⟨ab_blind, ⟨cell, g1, g2, g3⟩, ab_jpre hK hRep⟩ rfl rfl hl.1 rfl (by show 2 * 0 + 0 ≤ 8; omega) dJ0_charAt_5068e_1 ⟨Nat.le_refl _, Nat.le_refl _⟩) (fun _ h => by cases h) (fun H' locs' kv hkv hR hL => ?_)
  obtain rfl : kv = 1 := Int32.toInt_inj.mp (by rw [hkv]; rfl)
  have hS' := ab_SS hRep hR hL
  refine lv_if_eq (tgt := 16) hx hb dJ0_charAt_5068e_4 (by decide) (fun h => absurd h (by decide)) (fun _ => ?_)
  refine lv_aload_n hx hb dJ0_charAt_5068e_7 rfl (lv_at hl 0 rfl) ?_
  refine vk_getf hx hb (hV.1 i hi).2.2.1 hS' hown (hts _ jw_va) (fun _ h => h) dJ0_charAt_5068e_8 ?_
  refine lv_iload_n hx hb dJ0_charAt_5068e_11 rfl (lv_at hl 1 rfl) ?_
  refine ab_jc (va_runS (As := [.ref (ab_EV E i), .int a]) (rest := []) ⟨hx, hb, hml, hown, hts⟩ (ab_j_ch1 (σ := σ) (E := E) hi h0 h1 hj) ⟨callB_of 2 hts (ab_jin jw_chC) rfl rfl rfl (hts _ jw_i1) (hts _ jw_chL) (by decide +kernel) ⟨Nat.le_of_ble_eq_true rfl, Nat.le_of_ble_eq_true rfl⟩, hts _ jw_chS⟩ ⟨ab_blind, ab_jpre hK hR⟩ rfl rfl hl.1 rfl (by show 2 * 0 + 0 ≤ 8; omega) dJ0_charAt_5068e_12 ⟨Nat.le_refl _, Nat.le_refl _⟩) hL (fun H2 locs2 kw hkw hR2 hL2 => ?_)
  obtain rfl : kw = ab_jch i a.toNatClampNeg := Int32.toInt_inj.mp hkw
  exact W.zret hx hb hr hc (fun t ht hW => ⟨_, rfl, ⟨_, rfl, rfl⟩, by rw [ht]; exact hR2⟩) hL2 dJ0_charAt_5068e_15 hlocks
theorem ab_rr_txt {a : Int} (h : a ≤ -2) : ab_rr E a = .ref (ab_EK E (-2 - a).toNat) := by
  unfold ab_rr
  rw [if_neg (by omega), if_neg (by omega), if_neg (by omega)]
theorem ab_sp12 : ab_Sp12 l := by
  intro E p e R s m args below meth c Q k pc kd i y n bd L st σ pc' bd' L' st' σ' F hi hf hy hd he h
  have hfix : CallFix p m c (ab_code k) (ab_mx k) s args ab_ws (ab_cn (ab_ow k)) := ⟨F.1, F.2.1, F.2.2.1, F.2.2.2.1, F.2.2.2.2.1⟩
  have hK := F.2.2.2.2.2.1
  unfold ab_inv at he
  rw [hf] at he
  dsimp only at he
  rcases hy with rfl | rfl
  · rw [if_neg (by decide), if_pos rfl] at he
    split at he
    · rename_i a st1
      split at he
      · rename_i hc
        obtain ⟨rfl, rfl, rfl, rfl, rfl⟩ := ab_nx_inv he
        intro H locs cells slots ls rst ⟨h1, h2, h4, h5, h6, h7, h8, h9⟩
        obtain ⟨r1, rfl, h10⟩ := ab_SR_R h4
        rw [ab_rr_txt hc.1]
        obtain ⟨hV, -, -⟩ := ab_strs hK h1
        have hix : (-2 - a).toNat < 28 := hc.2.1
        obtain ⟨cell, g1, g2, g3, -⟩ := (hV.1 _ hix).1
        have hsz : ls.size = ab_mx k := by obtain ⟨-, lv, hl1, -⟩ := h2; exact hl1.1
        have hR : (ab_rm (1, 0, 0)).frames + 1 ≤ R.frames ∧ 8 + (1 + 11) + (ab_rm (1, 0, 0)).locals ≤ R.locals := ⟨by show 1 + 1 ≤ _; omega, by show 8 + (1 + 11) + 100 * 1 ≤ _; omega⟩
        refine ab_jc (va_runV (As := []) (rest := r1) hfix (ab_j_len (σ := σ) (E := E) hix) ⟨callB_of 0 F.2.2.2.2.1 (ab_jin jw_leC) rfl rfl rfl (F.2.2.2.2.1 _ jw_i0) (ab_mlk F hi hf ab_l_len (fun q => rfl)) (by decide +kernel) hR, F.2.2.2.2.1 _ jw_leI, F.2.2.2.2.1 _ jw_leS⟩ ⟨ab_blind, ⟨cell, g1, g2, g3⟩, ab_jpre hK h1⟩ rfl rfl hsz rfl (by rw [ab_SR_cats h10]; show 2 * 0 + _ ≤ 8; omega) hd ⟨by omega, by omega⟩) h5 (fun H' locs' kv hkv hR' hL' => ?_)
        exact h H' locs' cells slots ls (.int kv :: r1) ⟨hR', h2, ⟨⟨kv, rfl, hkv⟩, h10⟩, hL', h6, h7, h8, h9⟩
      · cases he
    · cases he
  · rw [if_neg (by decide), if_neg (by decide), if_pos rfl] at he
    split at he
    · rename_i x a st1
      split at he
      · rename_i hc
        obtain ⟨rfl, rfl, rfl, rfl, rfl⟩ := ab_nx_inv he
        intro H locs cells slots ls rst ⟨h1, h2, h4, h5, h6, h7, h8, h9⟩
        obtain ⟨kx, r0, rfl, hkx, h4'⟩ := ab_SR_I h4
        obtain ⟨r1, rfl, h10⟩ := ab_SR_R h4'
        rw [ab_rr_txt hc.1]
        obtain ⟨hV, -, -⟩ := ab_strs hK h1
        have hix : (-2 - a).toNat < 28 := hc.2.1
        obtain ⟨l1, l2⟩ := ab_jl2 _ (List.mem_range.mpr hix)
        obtain ⟨c1, c2, c3, c4, c5, c6⟩ := hc
        have hn : kx.toNatClampNeg = x.toNat := by show kx.toInt.toNat = x.toNat; rw [hkx]
        have q0 : ¬ kx < 0 := fun q => by
          have := Int32.lt_iff_toInt_lt.mp q
          have e0 : (0 : Int32).toInt = 0 := rfl
          omega
        have q1 : kx < Int32.ofNat (ab_sl.getD (-2 - a).toNat 0) := Int32.lt_iff_toInt_lt.mpr (by rw [l1, hkx]; exact c6)
        have q2 : kx.toNatClampNeg < ab_sl.getD (-2 - a).toNat 0 := by rw [hn, l2]; omega
        have q3 := (ab_jch_ok _ (List.mem_range.mpr hix) _ (List.mem_range.mpr q2)).2
        obtain ⟨cell, g1, g2, g3, -⟩ := (hV.1 _ hix).1
        have hsz : ls.size = ab_mx k := by obtain ⟨-, lv, hl1, -⟩ := h2; exact hl1.1
        have hR : (ab_rm (3, 0, 0)).frames + 1 ≤ R.frames ∧ 8 + (2 + 11) + (ab_rm (3, 0, 0)).locals ≤ R.locals := ⟨by show 3 + 1 ≤ _; omega, by show 8 + (2 + 11) + 100 * 3 ≤ _; omega⟩
        refine ab_jc (va_runV (As := [.int kx]) (rest := r1) hfix (ab_j_cha (σ := σ) (E := E) hix q0 q1 q2) ⟨callB_of 1 F.2.2.2.2.1 (ab_jin jw_caC) rfl rfl rfl (F.2.2.2.2.1 _ jw_i0) (ab_mlk F hi hf ab_l_cha (fun q => rfl)) (by decide +kernel) hR, F.2.2.2.2.1 _ jw_caI, F.2.2.2.2.1 _ jw_caS⟩ ⟨ab_blind, ⟨cell, g1, g2, g3⟩, ab_jpre hK h1⟩ rfl rfl hsz rfl (by rw [ab_SR_cats h10]; show 2 * 0 + _ ≤ 8; omega) hd ⟨by omega, by omega⟩) h5 (fun H' locs' kv hkv hR' hL' => ?_)
        exact h H' locs' cells slots ls (.int kv :: r1) ⟨hR', h2, ⟨⟨kv, rfl, by rw [hkv, q3, hn]⟩, h10⟩, hL', h6, h7, h8, h9⟩
      · cases he
    · cases he
end SK
