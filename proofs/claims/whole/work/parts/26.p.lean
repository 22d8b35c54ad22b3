/-! the law's call of its own led, as the little machine has it -/
set_option maxHeartbeats 4000000 in
theorem ab_sp3 {l : Launch} (hl : l.stackTraces = false) (h12 : ab_Sp12 l) : ab_Sp3 l := by
  intro E p e R s m args below meth c Q k pc kd i n bd L st σ pc' bd' L' st' σ' F hi hf hd he h
  have hkey : 1000 * ab_ow k + i = 14198 := jw_M _ (ab_lk_mem hf) rfl
  have hk14 : ab_ow k = 14 := by omega
  have hi198 : i = 198 := by omega
  subst hi198
  have hown : s.vm.findClass RL = some m.cls := by
    have h9 := F.2.2.2.1
    rw [hk14] at h9
    exact h9
  have hWl : ∀ w ∈ ab_lW, w ∈ ab_ws := fun w hw => (List.mem_cons.mp hw).elim (fun q => by rw [q]; exact jw_lc) id
  unfold ab_inv at he
  rw [hf] at he
  dsimp only at he
  rw [if_neg (by omega), if_neg (by omega), if_neg (by omega), if_neg (by omega), if_neg (by omega), if_neg (by omega), if_pos rfl] at he
  split at he
  · rename_i out ii x st1
    split at he
    · rename_i hc
      obtain ⟨l1, l2, l3, l4, l5, l6, l7, l8, b1, b2, b3, hcats⟩ := hc
      have main : ∀ (rv : Int) (σ1 : ab_S), ((∃ b, ab_ledf σ x ii = some b ∧ rv = 0 ∧ σ1 = ab_wr σ out 0 b) ∨ (ab_ledf σ x ii = none ∧ rv = 1 ∧ σ1 = ab_new σ 50 0)) → ab_WP E p l e R s m args below meth c Q k (pc + 3) (bd.1, bd.2.1 - 1, bd.2.2 - 6) L (ab_I rv :: st1) σ1 → ab_WP E p l e R s m args below meth c Q k pc bd L (ab_R out :: ab_I ii :: ab_R x :: st1) σ := by
        intro rv σ1 hres hh
        intro H locs cells slots ls rst ⟨h1, h2, h3, h4, h5, h6, h7, h8⟩
        obtain ⟨r1, rfl, h9⟩ := ab_SR_R h3
        obtain ⟨ki, r2, rfl, hki, h10⟩ := ab_SR_I h9
        obtain ⟨r3, rfl, h11⟩ := ab_SR_R h10
        have hx0 : 0 < x := (ab_Rep_obj h1 (z := x) (c := 11) l1 (by decide)).1
        have ho0 : 0 < out := (ab_Rep_arr h1 (z := out) (g := 1) l7 (by decide)).1
        rw [ab_rr_pos hx0, ab_rr_pos ho0]
        have hM := ab_ledL_met hl h12 (E := E) hki l1 l2 l3 l4 l5 l6 l7 l8 hres
        have hsz : ls.size = ab_mx k := by obtain ⟨-, lv, hl1, -⟩ := h2; exact hl1.1
        have hfix : CallFix p m c (ab_code k) (ab_mx k) s args ab_ws RL := ⟨F.1, F.2.1, F.2.2.1, hown, F.2.2.2.2.1⟩
        have hcw : vx_CSW R s args RL 198 yL_led cL_led 4 (some .int) [(0, 9, 12, 13)] ab_lW (ab_rm (29, 1, 6)) 1 6 3 :=
          ⟨⟨rfl, rfl, by show 29 + 1 ≤ R.frames; omega, by show 8 + (4 + 11) + 2900 ≤ R.locals; omega, pay_in F.2.2.2.2.1 (ab_good hWl), List.mem_cons_self⟩, F.2.2.2.2.1 _ jw_lc, F.2.2.2.2.1 _ jw_lin, by decide +kernel, fun sig hsig => by
            have h9 : (parseMethodDescriptor yL_led.desc).map (fun d => d.parameters.length) = some 3 := by decide +kernel
            rw [hsig] at h9
            exact (Option.some.inj h9).symm, F.2.2.2.2.1 _ jw_l198, F.2.2.2.2.1 _ jw_lst⟩
        have hd1 : decode (ab_code k) pc = .ok (.invokestatic 198, 3) := hd
        have hrun := vx_runSX (e := e) (R := R) (below := below) (meth := meth) (H := H) (locs := locs) (cells := cells) (slots := slots) (hh := [(0, 9, 12, 13)]) (As := [.ref (ab_ad E x), .int ki, .ref (ab_ad E out)]) (rest := r3) (g := F0 m pc ls (.ref (ab_ad E out) :: .int ki :: .ref (ab_ad E x) :: r3)) hfix hM hcw ⟨ab_blind, ab_pre F h1⟩ rfl rfl hsz rfl (by
          rw [ab_SR_cats h11]
          show 2 * 0 + _ ≤ 8
          omega) hd1 ⟨by omega, by omega⟩
        refine ab_after (bd' := (bd.1, bd.2.1 - 1, bd.2.2 - 6)) (r := some (ab_I rv)) (mc := 1) (ms := 6) (rrest := r3) (aa := #[.ref (ab_ad E x), .int ki, .ref (ab_ad E out)]) (fun T hT X => ?_) h2 h11 h4 (by dsimp only; omega) (by dsimp only; omega) h7 h8 hh
        rcases hrun T hT X with h9 | ⟨_, _, _, _, _, _, _, _, _, _, _, _, hF, _⟩
        · exact h9
        · exact hF.elim
      split at he
      · rename_i b hb9
        obtain ⟨rfl, rfl, rfl, rfl, rfl⟩ := ab_nx_inv he
        exact main 0 _ (Or.inl ⟨b, hb9, rfl, rfl⟩) h
      · rename_i hb9
        obtain ⟨rfl, rfl, rfl, rfl, rfl⟩ := ab_nx_inv he
        exact main 1 _ (Or.inr ⟨hb9, rfl, rfl⟩) h
    · cases he
  · cases he
