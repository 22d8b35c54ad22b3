/-! a call, and the whole: what the little machine comes to, the machine comes to -/
section S9
variable {E : ab_E} {p : Program} {l : Launch} {e : Env} {R : Room} {s : State} {m : MethodId} {args : Array Value} {below : List Frame} {meth : Method} {c : Code} {Q : State → Prop} {k : Nat} {pc pc' : Nat} {bd bd' : ab_B} {L st L' st' : List ab_V} {σ σ' : ab_S}
theorem ab_inv_call {kd i y : Nat} {as rest : List ab_V} (he : ab_inv kd k pc i bd L st σ = some (.inr (.inr (y, as, bd', rest)))) :
    ∃ n, ab_mth k i = some (y, n) ∧ y < 1000 ∧ y ≠ ab_kled ∧ ab_kd y = kd ∧ bd' = (bd.1, bd.2.1 - (ab_bud y as).2.1, bd.2.2 - (ab_bud y as).2.2) ∧ ((ab_bud y as).1 + 1 ≤ bd.1 ∧ (ab_bud y as).2.1 ≤ bd.2.1 ∧ (ab_bud y as).2.2 ≤ bd.2.2 ∧ ab_cats rest ≤ 8 ∧ (ab_args as).length ≤ ab_mx y) ∧ (st.take (ab_np y)).length = ab_np y ∧
    ((kd = 1 ∧ as = (st.take (ab_np y)).reverse ∧ rest = st.drop (ab_np y)) ∨ (kd ≠ 1 ∧ ∃ a, st.drop (ab_np y) = .inr (.inr a) :: rest ∧ (ab_sh σ a).1 = (ab_ow y : Int) + 1 ∧ as = ab_R a :: (st.take (ab_np y)).reverse)) := by
  unfold ab_inv at he
  split at he
  · cases he
  · rename_i z n hf
    have nope : ∀ {q1 : Nat} {q2 : ab_B} {q3 q4 : List ab_V} {q5 : ab_S}, ab_nx q1 q2 q3 q4 q5 = some (.inr (.inr (y, as, bd', rest))) → False := fun h => by unfold ab_nx at h; cases h
    by_cases hy0 : z = 1000
    · rw [if_pos hy0] at he
      split at he
      · split at he
        · exact (nope he).elim
        · cases he
      · cases he
    rw [if_neg hy0] at he
    by_cases hy1 : z = 1001
    · rw [if_pos hy1] at he
      split at he
      · split at he
        · exact (nope he).elim
        · cases he
      · cases he
    rw [if_neg hy1] at he
    by_cases hy2 : z = 1002
    · rw [if_pos hy2] at he
      split at he
      · split at he
        · exact (nope he).elim
        · cases he
      · cases he
    rw [if_neg hy2] at he
    by_cases hy4 : z = 1004
    · rw [if_pos hy4] at he
      split at he
      · split at he
        · exact (nope he).elim
        · cases he
      · cases he
    rw [if_neg hy4] at he
    by_cases hy5 : z = 1005
    · rw [if_pos hy5] at he
      split at he
      · split at he
        · exact (nope he).elim
        · cases he
      · cases he
    rw [if_neg hy5] at he
    by_cases hy6 : z = 1006
    · rw [if_pos hy6] at he
      split at he
      · split at he
        · exact (nope he).elim
        · cases he
      · cases he
    rw [if_neg hy6] at he
    by_cases hy3 : z = 1003
    · rw [if_pos hy3] at he
      split at he
      · split at he
        · split at he
          · exact (nope he).elim
          · exact (nope he).elim
        · cases he
      · cases he
    rw [if_neg hy3] at he
    split at he
    · cases he
    · rename_i hk
      split at he
      · rename_i hkd
        split at he
        · split at he
          · rename_i hlen
            obtain ⟨g1, g2⟩ := ab_call_inv (y' := 0) (as' := []) (rest' := []) he
            cases g1
            exact ⟨n, hf, by omega, fun q => hk (Or.inr q), hkd, rfl, g2, hlen, Or.inl ⟨rfl, rfl, rfl⟩⟩
          · cases he
        · rename_i hne
          split at he
          · rename_i a rest1 hdr
            split at he
            · rename_i hc
              obtain ⟨g1, g2⟩ := ab_call_inv (y' := 0) (as' := []) (rest' := []) he
              cases g1
              exact ⟨n, hf, by omega, fun q => hk (Or.inr q), hkd, rfl, g2, hc.2, Or.inr ⟨fun q => hne q, a, hdr, hc.1, rfl⟩⟩
            · cases he
          · cases he
      · cases he
set_option maxHeartbeats 4000000 in
theorem ab_s_callx {n : Nat} (hB : ab_SimB l n) (F : ab_Fr E p s m args meth c k) {kd i y : Nat} {as rest : List ab_V} {r : Option ab_V} (hi : i < 1000) (hd : decode (ab_code k) pc = .ok (ab_ivk kd i, 3)) (he : ab_inv kd k pc i bd L st σ = some (.inr (.inr (y, as, bd', rest)))) (hev : ab_ev (ab_Xof E) n y 0 (ab_bud y as) (ab_ent (ab_mx y) as) [] σ = some (r, σ'))
    (h : ab_WP E p l e R s m args below meth c Q k (pc + 3) bd' L (ab_psh r rest) σ') : ab_WP E p l e R s m args below meth c Q k pc bd L st σ := by
  obtain ⟨nn, hf, hy, hkl, hkd, hbd, ⟨hb1, hb2, hb3, hb4, hb5⟩, hlen, hcase⟩ := ab_inv_call he
  obtain ⟨hy288, hlink⟩ := ab_mth_ok F hi hf hy
  obtain ⟨v1, v2, v3, v4, v5, v6, v7, v8⟩ := ab_v_m y (List.mem_range.mpr hy288)
  obtain ⟨kin1, kin2, kin3⟩ := ab_k_in y (List.mem_range.mpr hy288)
  have hmh := ab_v_n (ab_ow y) (List.mem_range.mpr v4)
  have hini : (Cond.initialized (ab_cn (ab_ow y))).before args s = true := F.2.2.2.2.1 _ (ab_l_init _ (ab_m_init _ (List.mem_range.mpr v4)))
  have hiniW : Cond.initialized (ab_cn (ab_ow y)) ∈ ab_ws := ab_l_init _ (ab_m_init _ (List.mem_range.mpr v4))
  have hcode := ab_l_code hy288
  have hWy : ∀ w ∈ ab_W y, w ∈ ab_ws := fun w hw => (List.mem_cons.mp hw).elim (fun q => by rw [q]; exact hcode) id
  have hfix : CallFix p m c (ab_code k) (ab_mx k) s args ab_ws (ab_cn (ab_ow k)) := ⟨F.1, F.2.1, F.2.2.1, F.2.2.2.1, F.2.2.2.2.1⟩
  subst hbd
  intro H locs cells slots ls rst ⟨h1, h2, h3, h4, h5, h6, h7, h8⟩
  have hR : (ab_rm (ab_bud y as)).frames + 1 ≤ R.frames ∧ 8 + (ab_mx y + 11) + (ab_rm (ab_bud y as)).locals ≤ R.locals := by
    constructor
    · show (ab_bud y as).1 + 1 ≤ _
      omega
    · show 8 + (ab_mx y + 11) + 100 * (ab_bud y as).1 ≤ _
      omega
  have hfin : cells + (ab_bud y as).2.1 ≤ R.cells ∧ slots + (ab_bud y as).2.2 ≤ R.slots := ⟨by omega, by omega⟩
  obtain ⟨t1, t2⟩ := ab_SR_take (ab_np y) h3
  have hrl : (rst.take (ab_np y)).length = ab_np y := by rw [ab_SR_len t1]; exact hlen
  have hsz : ls.size = ab_mx k := by obtain ⟨-, lv, hl1, -⟩ := h2; exact hl1.1
  have fin : ∀ {rrest : List Value} {aa : Array Value}, ab_SR E rest rrest → va_Run p l e R s m args below meth c H locs cells slots (ab_bud y as).2.1 (ab_bud y as).2.2 (F0 m pc ls rst) rrest (ab_Qc E r σ' aa) (fun q => ab_Eb E ≤ q) → W p l e R s m args below meth c H locs cells slots Q (F0 m pc ls rst) := fun hs hr => ab_after (bd' := (bd.1, bd.2.1 - (ab_bud y as).2.1, bd.2.2 - (ab_bud y as).2.2)) hr h2 hs h4 (by dsimp only; omega) (by dsimp only; omega) h7 h8 h
  have hpd : (parseMethodDescriptor (ab_nm y).desc).map (fun d => d.parameters.length) = some (ab_np y) := v2
  rcases hcase with ⟨hk1, has, hrest⟩ | ⟨hk1, a, hdr, hsh, has⟩
  · subst hk1
    have hSRa : ab_SR E as (rst.take (ab_np y)).reverse := by rw [has]; exact ab_SR_rev t1
    have hM := ab_metOf hB hy288 hkl hev hSRa hb5
    have hstat : Cond.static (ab_nm y) ∈ ab_ws := ab_l_stat y (kin1 hkd)
    have hSr : ab_SR E rest (rst.drop (ab_np y)) := by rw [hrest]; exact t2
    have hst0 : rst = ((rst.take (ab_np y)).reverse).reverse ++ rst.drop (ab_np y) := by rw [List.reverse_reverse, List.take_append_drop]
    have hcats : 2 * (F0 m pc ls rst).monitorRoom + ((rst.drop (ab_np y)).map fun v => v.category).sum ≤ 8 := by
      rw [ab_SR_cats hSr]
      show 2 * 0 + _ ≤ 8
      omega
    have hal : ((rst.take (ab_np y)).reverse).length = ab_np y := by rw [List.length_reverse]; exact hrl
    rcases hlink with ⟨-, hl⟩ | ⟨-, hl⟩
    · have hcb : CallB R s args (ab_cn (ab_ow k)) i (ab_nm y) (ab_code y) (ab_mx y) (ab_rt y) (ab_W y) (ab_rm (ab_bud y as)) (ab_bud y as).2.1 (ab_bud y as).2.2 (ab_np y) :=
        callB_of (ab_np y) F.2.2.2.2.1 (ab_good hWy) rfl rfl rfl (by rw [v1]; exact hini) (F.2.2.2.2.1 _ hl) ⟨by rw [v1]; exact hmh.1, by rw [v1]; exact hmh.2, hpd⟩ hR
      exact fin hSr (va_runS hfix hM ⟨hcb, F.2.2.2.2.1 _ hstat⟩ ⟨ab_blind, ab_pre F h1⟩ rfl hal hsz hst0 hcats hd hfin)
    · have hcn : va_CN R s args (ab_cn (ab_ow k)) i (ab_nm y) (ab_host (ab_ow k)) (ab_code y) (ab_mx y) (ab_rt y) (ab_W y) (ab_rm (ab_bud y as)) (ab_bud y as).2.1 (ab_bud y as).2.2 (ab_np y) :=
        va_cnB (ab_np y) F.2.2.2.2.1 (ab_good hWy) rfl rfl rfl hl (by rw [v1]; exact hini) ⟨by rw [v1]; exact hmh.1, by rw [v1]; exact hmh.2, hpd⟩ hR
      exact fin hSr (va_runSN hfix hM ⟨hcn, F.2.2.2.2.1 _ hstat, trivial⟩ ⟨ab_blind, ab_pre F h1⟩ rfl hal hsz hst0 hcats hd hfin)
  · rw [hdr] at t2
    obtain ⟨rrest, hrr, hSr⟩ := ab_SR_R t2
    have how14 : ab_ow y < 14 := by
      obtain ⟨hz1, hz2⟩ := ab_Rep_in h1 (z := a) (by omega)
      rcases h1.2.2.2.1 a hz1 hz2 with ⟨c', q, V, e1, e2, -⟩ | ⟨g, n, f, e1, -⟩ | e1
      · have := ab_cl_lt e2
        omega
      · omega
      · omega
    obtain ⟨ha, q, V, hq, ⟨cell, q1, q2, q3, q4⟩, -⟩ := ab_Rep_obj h1 hsh how14
    have hSRa : ab_SR E as (ab_rr E a :: (rst.take (ab_np y)).reverse) := by rw [has]; exact ⟨rfl, ab_SR_rev t1⟩
    rw [ab_rr_pos ha] at hrr hSRa
    have hM := ab_metOf hB hy288 hkl hev hSRa hb5
    have hinst : Cond.instanceMethod (ab_nm y) ∈ ab_ws := ab_l_inst y (kin3 (by rw [hkd]; exact hk1))
    have hst0 : rst = ((rst.take (ab_np y)).reverse).reverse ++ .ref (ab_ad E a) :: rrest := by rw [List.reverse_reverse, ← hrr, List.take_append_drop]
    have hcats : 2 * (F0 m pc ls rst).monitorRoom + (rrest.map fun v => v.category).sum ≤ 8 := by
      rw [ab_SR_cats hSr]
      show 2 * 0 + _ ≤ 8
      omega
    have hal : ((rst.take (ab_np y)).reverse).length = ab_np y := by rw [List.length_reverse]; exact hrl
    have hrecv : ∃ cellB : Cell, H[ab_ad E a]? = some cellB ∧ cellB.vm.isStatics = false ∧ s.vm.findClass (ab_cn (ab_ow y)) = some cellB.cls := ⟨cell, q1, by rw [q3]; rfl, by rw [q2]; exact (ab_cls F how14).2.1⟩
    by_cases hk0 : kd = 0
    · subst hk0
      have hsel : Cond.selects (ab_cn (ab_ow y)) (ab_nm y) (ab_nm y) ∈ ab_ws := ab_l_sel y (kin2 hkd)
      rcases hlink with ⟨-, hl⟩ | ⟨-, hl⟩
      · have hcb : CallB R s args (ab_cn (ab_ow k)) i (ab_nm y) (ab_code y) (ab_mx y) (ab_rt y) (ab_W y) (ab_rm (ab_bud y as)) (ab_bud y as).2.1 (ab_bud y as).2.2 (ab_np y) :=
          callB_of (ab_np y) F.2.2.2.2.1 (ab_good hWy) rfl rfl rfl (by rw [v1]; exact hini) (F.2.2.2.2.1 _ hl) ⟨by rw [v1]; exact hmh.1, by rw [v1]; exact hmh.2, hpd⟩ hR
        exact fin hSr (va_runV hfix hM ⟨hcb, F.2.2.2.2.1 _ hinst, F.2.2.2.2.1 _ hsel⟩ ⟨ab_blind, hrecv, ab_pre F h1⟩ rfl hal hsz hst0 hcats hd hfin)
      · have hcn : va_CN R s args (ab_cn (ab_ow k)) i (ab_nm y) (ab_host (ab_ow k)) (ab_code y) (ab_mx y) (ab_rt y) (ab_W y) (ab_rm (ab_bud y as)) (ab_bud y as).2.1 (ab_bud y as).2.2 (ab_np y) :=
          va_cnB (ab_np y) F.2.2.2.2.1 (ab_good hWy) rfl rfl rfl hl (by rw [v1]; exact hini) ⟨by rw [v1]; exact hmh.1, by rw [v1]; exact hmh.2, hpd⟩ hR
        exact fin hSr (va_runVN hfix hM ⟨hcn, F.2.2.2.2.1 _ hinst, F.2.2.2.2.1 _ hsel⟩ ⟨ab_blind, hrecv, ab_pre F h1⟩ rfl hal hsz hst0 hcats hd hfin)
    · have hk2 : kd = 2 := by omega
      subst hk2
      have hrt : ab_rt y = none := v7 hkd
      have hnm : (ab_nm y).name = "<init>" := v6 hkd
      have hM : Met l (ab_nm y) (ab_W y) (ab_rm (ab_bud y as)) (ab_Pc E (.ref (ab_ad E a) :: (rst.take (ab_np y)).reverse) σ) (ab_Qc E r σ') (ab_bud y as).2.1 (ab_bud y as).2.2 (fun q => ab_Eb E ≤ q) := hM
      have hw0 : ab_W y = Cond.code (ab_nm y) (ab_code y) (ab_mx y) none :: ab_ws := by unfold ab_W; rw [hrt]
      rcases hlink with ⟨-, hl⟩ | ⟨-, hl⟩
      · have hcb : CallB R s args (ab_cn (ab_ow k)) i (ab_nm y) (ab_code y) (ab_mx y) none (ab_W y) (ab_rm (ab_bud y as)) (ab_bud y as).2.1 (ab_bud y as).2.2 (ab_np y) :=
          callB_of (ab_np y) F.2.2.2.2.1 (ab_good hWy) hw0 rfl rfl (by rw [v1]; exact hini) (F.2.2.2.2.1 _ hl) ⟨by rw [v1]; exact hmh.1, by rw [v1]; exact hmh.2, hpd⟩ hR
        exact fin hSr (va_runI hfix hM ⟨hcb, hnm, F.2.2.2.2.1 _ hinst⟩ ⟨ab_blind, ab_pre F h1⟩ rfl hal hsz hst0 hcats hd hfin)
      · have hcn : va_CN R s args (ab_cn (ab_ow k)) i (ab_nm y) (ab_host (ab_ow k)) (ab_code y) (ab_mx y) none (ab_W y) (ab_rm (ab_bud y as)) (ab_bud y as).2.1 (ab_bud y as).2.2 (ab_np y) :=
          va_cnB (ab_np y) F.2.2.2.2.1 (ab_good hWy) hw0 rfl rfl hl (by rw [v1]; exact hini) ⟨by rw [v1]; exact hmh.1, by rw [v1]; exact hmh.2, hpd⟩ hR
        exact fin hSr (va_runIN hfix hM ⟨hcn, hnm, F.2.2.2.2.1 _ hinst⟩ ⟨ab_blind, ab_pre F h1⟩ rfl hal hsz hst0 hcats hd hfin)
end S9
