/-! Object's constructor, Math's three, calls, and all instructions together -/
set_option maxRecDepth 100000 in
theorem ab_l_max : ∀ q ∈ ab_pM.filter (fun q => q.2.1 == 1004), (fun q : Nat × Nat × Nat => Cond.methodLink (ab_cn (q.1 / 1000)) (q.1 % 1000) Lib.Math.max.name) q ∈ lw_tbl.filter goodWord := ab_link_of _ [662, 360, 99, 41] _ _ (by decide +kernel) (by decide +kernel) (by decide +kernel)
theorem ab_ls_max : Cond.static Lib.Math.max.name ∈ ab_ws := List.mem_filter.mpr ⟨List.mem_of_getElem? (i := 663) (by decide +kernel), by decide +kernel⟩
theorem ab_lc_max : Cond.code Lib.Math.max.name Lib.Math.max.code 2 (some .int) ∈ ab_ws := List.mem_filter.mpr ⟨List.mem_of_getElem? (i := 664) (by decide +kernel), by decide +kernel⟩
set_option maxRecDepth 100000 in
theorem ab_l_min : ∀ q ∈ ab_pM.filter (fun q => q.2.1 == 1005), (fun q : Nat × Nat × Nat => Cond.methodLink (ab_cn (q.1 / 1000)) (q.1 % 1000) Lib.Math.min.name) q ∈ lw_tbl.filter goodWord := ab_link_of _ [659, 389, 16, 46, 50, 74] _ _ (by decide +kernel) (by decide +kernel) (by decide +kernel)
theorem ab_ls_min : Cond.static Lib.Math.min.name ∈ ab_ws := List.mem_filter.mpr ⟨List.mem_of_getElem? (i := 660) (by decide +kernel), by decide +kernel⟩
theorem ab_lc_min : Cond.code Lib.Math.min.name Lib.Math.min.code 2 (some .int) ∈ ab_ws := List.mem_filter.mpr ⟨List.mem_of_getElem? (i := 661) (by decide +kernel), by decide +kernel⟩
set_option maxRecDepth 100000 in
theorem ab_l_abs : ∀ q ∈ ab_pM.filter (fun q => q.2.1 == 1006), (fun q : Nat × Nat × Nat => Cond.methodLink (ab_cn (q.1 / 1000)) (q.1 % 1000) Lib.Math.abs.name) q ∈ lw_tbl.filter goodWord := ab_link_of _ [1094] _ _ (by decide +kernel) (by decide +kernel) (by decide +kernel)
theorem ab_ls_abs : Cond.static Lib.Math.abs.name ∈ ab_ws := List.mem_filter.mpr ⟨List.mem_of_getElem? (i := 1095) (by decide +kernel), by decide +kernel⟩
theorem ab_lc_abs : Cond.code Lib.Math.abs.name Lib.Math.abs.code 1 (some .int) ∈ ab_ws := List.mem_filter.mpr ⟨List.mem_of_getElem? (i := 1096) (by decide +kernel), by decide +kernel⟩
theorem ab_1003 : ∀ k ∈ List.range 288, ∀ q ∈ ab_pM.filter (fun q => q.2.1 == 1003), ¬ q.1 / 1000 = ab_ow k := by decide +kernel
section S8
variable {E : ab_E} {p : Program} {l : Launch} {e : Env} {R : Room} {s : State} {m : MethodId} {args : Array Value} {below : List Frame} {meth : Method} {c : Code} {Q : State → Prop} {k : Nat} {pc pc' : Nat} {bd bd' : ab_B} {L st L' st' : List ab_V} {σ σ' : ab_S}
theorem ab_mlk (F : ab_Fr E p s m args meth c k) {i y n : Nat} (hi : i < 1000) (hf : ab_mth k i = some (y, n)) {f : Nat × Nat × Nat → Cond} {g : MethodName} (hl : ∀ q ∈ ab_pM.filter (fun q => q.2.1 == y), f q ∈ lw_tbl.filter goodWord) (hfe : ∀ q, f q = Cond.methodLink (ab_cn (q.1 / 1000)) (q.1 % 1000) g) : (Cond.methodLink (ab_cn (ab_ow k)) i g).before args s = true := by
  have hm := ab_lk_mem hf
  have h4 := F.2.2.2.2.1 _ (hl _ (List.mem_filter.mpr ⟨hm, by simp⟩))
  rw [hfe] at h4
  dsimp only at h4
  rw [(ab_key hi).1, (ab_key hi).2] at h4
  exact h4
theorem ab_math (F : ab_Fr E p s m args meth c k) : (Cond.initialized "java/lang/Math").before args s = true := F.2.2.2.2.1 _ (ab_l_init 15 (ab_m_init 15 (by decide)))
theorem ab_s_inv (h12 : ab_Sp12 l) (h3 : k = ab_klaw → ab_Sp3 l) (hk : k ≤ 288) (F : ab_Fr E p s m args meth c k) {kd i : Nat} (hi : i < 1000) (hd : decode (ab_code k) pc = .ok (ab_ivk kd i, 3)) (he : ab_inv kd k pc i bd L st σ = some (.inl (pc', bd', L', st', σ'))) (h : ab_WP E p l e R s m args below meth c Q k pc' bd' L' st' σ') : ab_WP E p l e R s m args below meth c Q k pc bd L st σ := by
  have he0 := he
  unfold ab_inv at he
  split at he
  · cases he
  · rename_i y n hf
    by_cases hy0 : y = 1000
    · rw [if_pos hy0] at he
      subst hy0
      split at he
      · rename_i a st1
        split at he
        · rename_i hc
          obtain ⟨rfl, rfl, rfl, rfl, rfl⟩ := ab_nx_inv he
          intro H locs cells slots ls rst ⟨h1, h2, h4, h5, h6, h7, h8, h9⟩
          obtain ⟨r1, rfl, h10⟩ := ab_SR_R h4
          rw [ab_rr_pos hc.1]
          obtain ⟨hL, lv, hl1, hl2⟩ := h2
          refine W.objInit F.1 F.2.1 F.2.2.2.1 (ab_mlk F hi hf ab_l_O (fun q => rfl)) (F.2.2.2.2.1 _ ab_l_objI) (F.2.2.2.2.1 _ ab_l_objC) rfl (by rw [F.2.2.1]; exact hl1.1) rfl hd (by omega) ?_ ?_
          · rw [ab_SR_cats h10]
            show 2 * 0 + _ + 12 ≤ _
            omega
          · exact h H locs cells slots ls r1 ⟨h1, ⟨hL, lv, hl1, hl2⟩, h10, h5, h6, h7, h8, h9⟩
        · cases he
      · cases he
    rw [if_neg hy0] at he
    by_cases hy1 : y = 1001
    · exact h12 E p e R s m args below meth c Q k pc kd i y n bd L st σ pc' bd' L' st' σ' F hi hf (Or.inl hy1) hd he0 h
    rw [if_neg hy1] at he
    by_cases hy2 : y = 1002
    · exact h12 E p e R s m args below meth c Q k pc kd i y n bd L st σ pc' bd' L' st' σ' F hi hf (Or.inr hy2) hd he0 h
    rw [if_neg hy2] at he
    by_cases hy1004 : y = 1004
    · rw [if_pos hy1004] at he
      subst hy1004
      split at he
      · split at he
        · rename_i hc
          obtain ⟨rfl, rfl, rfl, rfl, rfl⟩ := ab_nx_inv he
          intro H locs cells slots ls rst ⟨h1, h2, h4, h5, h6, h7, h8, h9⟩
          obtain ⟨y1, r1, rfl, rfl, h10⟩ := ab_SR_I h4
          obtain ⟨x1, r2, rfl, rfl, h11⟩ := ab_SR_I h10
          refine va_mmax F.1 F.2.1 (by rw [F.2.2.1]; obtain ⟨-, lv, hl1, -⟩ := h2; exact hl1.1.symm) F.2.2.2.1 (ab_mlk F hi hf ab_l_max (fun q => rfl)) (F.2.2.2.2.1 _ ab_ls_max) (ab_math F) (F.2.2.2.2.1 _ ab_lc_max) (by omega) (by rw [ab_SR_cats h11]; omega) (by omega) (by omega) hd ?_
          refine h H locs cells slots ls _ ⟨h1, h2, ⟨⟨_, rfl, ?_⟩, h11⟩, h5, h6, h7, h8, h9⟩
          by_cases hlt : x1 < y1
          · rw [if_pos hlt, if_pos (ab_lt32.mp hlt)]
          · rw [if_neg hlt, if_neg (fun q => hlt (ab_lt32.mpr q))]
        · cases he
      · cases he
    rw [if_neg hy1004] at he
    by_cases hy1005 : y = 1005
    · rw [if_pos hy1005] at he
      subst hy1005
      split at he
      · split at he
        · rename_i hc
          obtain ⟨rfl, rfl, rfl, rfl, rfl⟩ := ab_nx_inv he
          intro H locs cells slots ls rst ⟨h1, h2, h4, h5, h6, h7, h8, h9⟩
          obtain ⟨y1, r1, rfl, rfl, h10⟩ := ab_SR_I h4
          obtain ⟨x1, r2, rfl, rfl, h11⟩ := ab_SR_I h10
          refine va_mmin F.1 F.2.1 (by rw [F.2.2.1]; obtain ⟨-, lv, hl1, -⟩ := h2; exact hl1.1.symm) F.2.2.2.1 (ab_mlk F hi hf ab_l_min (fun q => rfl)) (F.2.2.2.2.1 _ ab_ls_min) (ab_math F) (F.2.2.2.2.1 _ ab_lc_min) (by omega) (by rw [ab_SR_cats h11]; omega) (by omega) (by omega) hd ?_
          refine h H locs cells slots ls _ ⟨h1, h2, ⟨⟨_, rfl, ?_⟩, h11⟩, h5, h6, h7, h8, h9⟩
          by_cases hlt : y1 < x1
          · rw [if_pos hlt, if_pos (ab_lt32.mp hlt)]
          · rw [if_neg hlt, if_neg (fun q => hlt (ab_lt32.mpr q))]
        · cases he
      · cases he
    rw [if_neg hy1005] at he
    by_cases hy1006 : y = 1006
    · rw [if_pos hy1006] at he
      subst hy1006
      split at he
      · split at he
        · rename_i hc
          obtain ⟨rfl, rfl, rfl, rfl, rfl⟩ := ab_nx_inv he
          intro H locs cells slots ls rst ⟨h1, h2, h4, h5, h6, h7, h8, h9⟩
          obtain ⟨x1, r2, rfl, rfl, h11⟩ := ab_SR_I h4
          refine va_mabs F.1 F.2.1 (by rw [F.2.2.1]; obtain ⟨-, lv, hl1, -⟩ := h2; exact hl1.1.symm) F.2.2.2.1 (ab_mlk F hi hf ab_l_abs (fun q => rfl)) (F.2.2.2.2.1 _ ab_ls_abs) (ab_math F) (F.2.2.2.2.1 _ ab_lc_abs) (by omega) (by rw [ab_SR_cats h11]; omega) (by omega) (by omega) hd ?_
          refine h H locs cells slots ls _ ⟨h1, h2, ⟨⟨_, rfl, ?_⟩, h11⟩, h5, h6, h7, h8, h9⟩
          have z0 : (0 : Int32).toInt = 0 := rfl
          have hle : (0 : Int32) ≤ x1 ↔ 0 ≤ x1.toInt := by rw [ab_le32, z0]
          by_cases hlt : (0 : Int32) ≤ x1
          · rw [if_pos hlt, if_pos (hle.mp hlt)]
          · rw [if_neg hlt, if_neg (fun q => hlt (hle.mpr q)), ab_sub32, z0]
        · cases he
      · cases he
    rw [if_neg hy1006] at he
    by_cases hy3 : y = 1003
    · subst hy3
      by_cases hkl : k = ab_klaw
      · exact h3 hkl E p e R s m args below meth c Q k pc kd i n bd L st σ pc' bd' L' st' σ' F hi hf hd he0 h
      · have hk' : k < 288 := by
          have : ab_klaw = 288 := rfl
          omega
        have hm := ab_lk_mem hf
        exact absurd (ab_key hi).1 (ab_1003 k (List.mem_range.mpr hk') _ (List.mem_filter.mpr ⟨hm, by simp⟩))
    rw [if_neg hy3] at he
    split at he
    · cases he
    · split at he
      · split at he
        · split at he
          · have := (ab_call_inv (y' := 0) (as' := []) (rest' := []) he).1
            cases this
          · cases he
        · split at he
          · split at he
            · have := (ab_call_inv (y' := 0) (as' := []) (rest' := []) he).1
              cases this
            · cases he
          · cases he
      · cases he
end S8
