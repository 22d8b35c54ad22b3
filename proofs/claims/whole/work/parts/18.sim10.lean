/-! the whole of the little machine: one step, and any number of them -/
theorem ab_outer (c : ClassId) (N h0 : Nat) : ∀ i : Nat, Jvm.Free.Multi.outerC c N h0 i = arrV c N (fun j => if j < i then .ref (h0 + 1 + j) else .null)
  | 0 => by
    show ({ cls := c, slots := Array.replicate N .null, vm := .none } : Cell) = _
    rw [arrV_new]
    exact congrArg (arrV c N) (funext fun j => by rw [if_neg (by omega)])
  | i + 1 => by
    show (Jvm.Free.Multi.outerC c N h0 i).setSlot i (.ref (h0 + 1 + i)) = _
    rw [ab_outer c N h0 i, arrV_store]
    refine congrArg (arrV c N) (funext fun j => ?_)
    dsimp only [updV]
    by_cases e : j = i
    · subst e
      rw [if_pos rfl, if_pos (by omega)]
    · by_cases h : j < i
      · rw [if_neg e, if_pos h, if_pos (by omega)]
      · rw [if_neg e, if_neg h, if_neg (by omega)]
theorem ab_l_multi : Cond.classLink RX2 27 ("[" ++ (FieldType.array .int).toString) ∈ ab_ws := List.mem_filter.mpr ⟨List.mem_of_getElem? (i := 542) (by decide +kernel), by decide +kernel⟩
section S10
variable {E : ab_E} {p : Program} {l : Launch} {e : Env} {R : Room} {s : State} {m : MethodId} {args : Array Value} {below : List Frame} {meth : Method} {c : Code} {Q : State → Prop} {k : Nat} {pc pc' : Nat} {bd bd' : ab_B} {L st L' st' : List ab_V} {σ σ' : ab_S}
theorem ab_Rep_mul {H H' : Heap} {n k2 : Nat} (hn : n ≤ 1000) (hk2 : k2 ≤ 1000) (h : ab_Rep E σ H) (f1 : H'.size = H.size + 1 + n) (f2 : H'[H.size]? = some (arrV (ab_EA E 8) n (fun j => if j < n then .ref (H.size + 1 + j) else .null))) (fo : ∀ q, q < H.size → H'[q]? = H[q]?) (fi : ∀ j, j < n → H'[H.size + 1 + j]? = some (arrV (ab_EA E 0) k2 (fun _ => .int 0))) : ab_Rep E (ab_mul σ n k2) H' := by
  obtain ⟨ea, er⟩ := ab_ad_new h
  have hs : ∀ y, y < σ.1 → ab_sh (ab_mul σ n k2) y = ab_sh σ y := fun y hy => by
    show (if y = σ.1 then _ else if σ.1 < y ∧ y ≤ σ.1 + (n : Int) then _ else σ.2.1 y) = _
    rw [if_neg (by omega), if_neg (by omega)]
    rfl
  have hr : ∀ y j, y < σ.1 → ab_rd (ab_mul σ n k2) y j = ab_rd σ y j := fun y j hy => by
    show (if y = σ.1 then _ else if σ.1 < y ∧ y ≤ σ.1 + (n : Int) then _ else σ.2.2 y j) = _
    rw [if_neg (by omega), if_neg (by omega)]
    rfl
  obtain ⟨g1, g2⟩ := ab_cell_new h hs hr fo
  obtain ⟨h1, h2, h3, h4, h5⟩ := h
  refine ⟨by show 1 ≤ σ.1 + 1 + (n : Int); omega, ?_, g1, fun z hz1 hz2 => ?_, fun z hz => ?_⟩
  · show H'.size = ab_Eb E + (σ.1 + 1 + (n : Int) - 1).toNat
    omega
  · have hz2 : z < σ.1 + 1 + (n : Int) := hz2
    by_cases hz : z < σ.1
    · exact g2 z hz1 hz
    · by_cases hz0 : z = σ.1
      · subst hz0
        refine Or.inr (Or.inl ⟨8, n, _, ?_, by decide, ?_, by omega, by rw [ea]; exact f2, fun j hj => ?_⟩)
        · show (if σ.1 = σ.1 then ((29 : Int), (n : Int)) else _).1 = _
          rw [if_pos rfl]; rfl
        · show (if σ.1 = σ.1 then ((29 : Int), (n : Int)) else _).2 = _
          rw [if_pos rfl]
        · have e0 : ab_rd (ab_mul σ n k2) σ.1 j = σ.1 + 1 + j := by
            show (if σ.1 = σ.1 then (if 0 ≤ (j : Int) ∧ (j : Int) < n then σ.1 + 1 + j else 0) else _) = _
            rw [if_pos rfl, if_pos (by omega)]
          rw [e0, if_pos hj]
          show _ = ab_rr E (σ.1 + 1 + j)
          have ea2 : ab_ad E (σ.1 + 1 + (j : Int)) = H.size + 1 + j := by
            unfold ab_ad at ea ⊢
            omega
          rw [ab_rr_pos (by omega), ea2]
      · have hin : σ.1 < z ∧ z ≤ σ.1 + (n : Int) := by omega
        refine Or.inr (Or.inl ⟨0, k2, (fun _ => .int 0), ?_, by decide, ?_, by omega, ?_, fun j hj => ?_⟩)
        · show (if z = σ.1 then _ else if σ.1 < z ∧ z ≤ σ.1 + (n : Int) then ((21 : Int), (k2 : Int)) else σ.2.1 z).1 = _
          rw [if_neg hz0, if_pos hin]; rfl
        · show (if z = σ.1 then _ else if σ.1 < z ∧ z ≤ σ.1 + (n : Int) then ((21 : Int), (k2 : Int)) else σ.2.1 z).2 = _
          rw [if_neg hz0, if_pos hin]
        · have := fi (z - σ.1 - 1).toNat (by omega)
          rw [show ab_ad E z = H.size + 1 + (z - σ.1 - 1).toNat by unfold ab_ad; omega]
          exact this
        · have e0 : ab_rd (ab_mul σ n k2) z j = 0 := by
            show (if z = σ.1 then _ else if σ.1 < z ∧ z ≤ σ.1 + (n : Int) then 0 else σ.2.2 z j) = _
            rw [if_neg hz0, if_pos hin]
          rw [e0]
          exact ⟨0, rfl, rfl⟩
  · have hz : ¬ (1 ≤ z ∧ z < σ.1 + 1 + (n : Int)) := hz
    show (if z = σ.1 then _ else if σ.1 < z ∧ z ≤ σ.1 + (n : Int) then _ else σ.2.1 z) = _
    rw [if_neg (by omega), if_neg (by omega)]
    exact h5 z (by omega)
theorem ab_s_multi (F : ab_Fr E p s m args meth c k) {i d : Nat} (hd : decode (ab_code k) pc = .ok (.multianewarray i d, 4)) (he : (match st with
    | .inl k2 :: .inl n :: st' => if k = ab_kgi ∧ i = 27 ∧ d = 2 ∧ 0 ≤ n ∧ n ≤ 1000 ∧ 0 ≤ k2 ∧ k2 ≤ 1000 ∧ 1 + n.toNat ≤ bd.2.1 ∧ n.toNat + n.toNat * k2.toNat ≤ bd.2.2 then ab_nx (pc + 4) (bd.1, bd.2.1 - (1 + n.toNat), bd.2.2 - (n.toNat + n.toNat * k2.toNat)) L (ab_R σ.1 :: st') (ab_mul σ n k2) else none
    | _ => none) = some (.inl (pc', bd', L', st', σ'))) (h : ab_WP E p l e R s m args below meth c Q k pc' bd' L' st' σ') : ab_WP E p l e R s m args below meth c Q k pc bd L st σ := by
  split at he
  · rename_i k2 n st1
    split at he
    · rename_i hc
      obtain ⟨rfl, rfl, rfl, rfl, rfl⟩ := ab_nx_inv he
      obtain ⟨hk, rfl, rfl, hn0, hn1, hk0, hk1, hb1, hb2⟩ := hc
      have hcn : ab_cn (ab_ow k) = RX2 := by rw [hk]; rfl
      have hown := F.2.2.2.1
      rw [hcn] at hown
      intro H locs cells slots ls rst ⟨h1, h2, h3, h4, h5, h6, h7, h8⟩
      obtain ⟨x, r0, rfl, hx, h9⟩ := ab_SR_I h3
      obtain ⟨y, r1, rfl, hy, h10⟩ := ab_SR_I h9
      have z0 : (0 : Int32).toInt = 0 := rfl
      have hxc : x.toNatClampNeg = k2.toNat := by rw [ab_clamp (by omega), hx]
      have hyc : y.toNatClampNeg = n.toNat := by rw [ab_clamp (by omega), hy]
      intro T hT X
      obtain ⟨vm₁, cA, comp, -, fA, fC, -, -, X', step⟩ := X.multianewarray2F F.1 (ty := .int) hown (F.2.2.2.2.1 _ ab_l_multi) (show (Cond.arrayOver (.array .int)).before args s = true from F.2.2.2.2.2.1.2.2.2.1) (F.2.2.2.2.1 _ (ab_l_ac 0 (ab_m_ac 0 (by decide)))) (g := F0 m pc ls (.int x :: .int y :: r1)) rfl (by rw [F.2.1]; exact hd) rfl
        (fun q => by rw [ab_lt32] at q; omega) (fun q => by rw [ab_lt32] at q; omega) (by rw [hyc]; omega) (by rw [hxc]; show k2.toNat * 4 ≤ _; omega) (by rw [hxc]; omega) rfl rfl (by rw [hyc]; omega) (by rw [hyc, hxc]; omega)
      have hcA : cA = ab_EA E 8 := Option.some.inj (fA.symm.trans (ab_arrK F (g := 8) (by decide)).2)
      have hcomp : comp = ab_EA E 0 := Option.some.inj (fC.symm.trans (ab_arrK F (g := 0) (by decide)).2)
      subst hcA
      subst hcomp
      rw [hyc, hxc] at X' step
      obtain ⟨f1, f2, -, -⟩ := Jvm.Free.Multi.fill_facts (T.setVm vm₁) (ab_EA E 8) (ab_EA E 0) n.toNat k2.toNat (defaultValue .int) n.toNat
      have hTh : (T.setVm vm₁).heap = H := hT
      rw [hTh] at f1 f2
      have fo : ∀ q, q < H.size → (Jvm.Free.Multi.fill (T.setVm vm₁) (ab_EA E 8) (ab_EA E 0) n.toNat k2.toNat (defaultValue .int) n.toNat).heap[q]? = H[q]? := fun q hq => by
        rw [Jvm.Free.Multi.fill_old (T.setVm vm₁) (ab_EA E 8) (ab_EA E 0) n.toNat k2.toNat (defaultValue .int) (a := q) (by rw [hTh]; exact hq) n.toNat, hTh]
      have fi : ∀ j, j < n.toNat → (Jvm.Free.Multi.fill (T.setVm vm₁) (ab_EA E 8) (ab_EA E 0) n.toNat k2.toNat (defaultValue .int) n.toNat).heap[H.size + 1 + j]? = some (arrV (ab_EA E 0) k2.toNat (fun _ => .int 0)) := fun j hj => by
        have h9 := Jvm.Free.Multi.fill_inner (T.setVm vm₁) (ab_EA E 8) (ab_EA E 0) n.toNat k2.toNat (defaultValue .int) n.toNat j hj
        rw [hTh] at h9
        rw [h9]
        show some ({ cls := ab_EA E 0, slots := Array.replicate k2.toNat (.int 0), vm := .none } : Cell) = _
        rw [arrV_new]
      rw [ab_outer] at f2
      have hRep := ab_Rep_mul (σ := σ) (n := n.toNat) (k2 := k2.toNat) (by omega) (by omega) h1 f1 f2 fo fi
      rw [show ((n.toNat : Nat) : Int) = n by omega, show ((k2.toNat : Nat) : Int) = k2 by omega] at hRep
      obtain ⟨t, a1, b1⟩ := h _ locs (cells + 1 + n.toNat) (slots + n.toNat + n.toNat * k2.toNat) ls (ab_rr E σ.1 :: r1) ⟨hRep, h2, ⟨rfl, h10⟩, h4, by dsimp only; omega, by dsimp only; omega, h7, h8⟩ _ rfl X'
      refine ⟨t, step t ?_, b1⟩
      rw [(ab_ad_new h1).2] at a1
      rw [hT]
      exact a1
    · cases he
  · cases he
theorem ab_stepsim (h12 : ab_Sp12 l) (h3 : k = ab_klaw → ab_Sp3 l) (hk : k ≤ 288) (F : ab_Fr E p s m args meth c k) (hs : ab_step (ab_Xof E) k pc bd L st σ = some (.inl (pc', bd', L', st', σ'))) (h : ab_WP E p l e R s m args below meth c Q k pc' bd' L' st' σ') : ab_WP E p l e R s m args below meth c Q k pc bd L st σ := by
  unfold ab_step at hs
  split at hs
  · rename_i ins len hd
    split at hs
    · rename_i hg
      obtain ⟨hl, hsm⟩ := hg
      cases ins
      case iconst n =>
        obtain rfl : len = 1 := hl.resolve_left (by simp [ab_len])
        exact ab_s_iconst F hd hs h
      case bipush n =>
        obtain rfl : len = 2 := hl.resolve_left (by simp [ab_len])
        exact ab_s_bipush F hd hs h
      case sipush n =>
        obtain rfl : len = 3 := hl.resolve_left (by simp [ab_len])
        exact ab_s_sipush F hd hs h
      case lconst n =>
        obtain rfl : len = 1 := hl.resolve_left (by simp [ab_len])
        exact ab_s_lconst F hd hs h
      case iload i =>
        obtain rfl : len = 2 := hl.resolve_left (by simp [ab_len])
        exact ab_s_iload F hd hs h
      case iload_n i =>
        obtain rfl : len = 1 := hl.resolve_left (by simp [ab_len])
        exact ab_s_iload_n F hd hs h
      case lload i =>
        obtain rfl : len = 2 := hl.resolve_left (by simp [ab_len])
        exact ab_s_lload F hd hs h
      case lload_n i =>
        obtain rfl : len = 1 := hl.resolve_left (by simp [ab_len])
        exact ab_s_lload_n F hd hs h
      case aload i =>
        obtain rfl : len = 2 := hl.resolve_left (by simp [ab_len])
        exact ab_s_aload F hd hs h
      case aload_n i =>
        obtain rfl : len = 1 := hl.resolve_left (by simp [ab_len])
        exact ab_s_aload_n F hd hs h
      case istore i =>
        obtain rfl : len = 2 := hl.resolve_left (by simp [ab_len])
        exact ab_s_istore F hd hs h
      case istore_n i =>
        obtain rfl : len = 1 := hl.resolve_left (by simp [ab_len])
        exact ab_s_istore_n F hd hs h
      case lstore i =>
        obtain rfl : len = 2 := hl.resolve_left (by simp [ab_len])
        exact ab_s_lstore F hd hs h
      case lstore_n i =>
        obtain rfl : len = 1 := hl.resolve_left (by simp [ab_len])
        exact ab_s_lstore_n F hd hs h
      case astore i =>
        obtain rfl : len = 2 := hl.resolve_left (by simp [ab_len])
        exact ab_s_astore F hd hs h
      case astore_n i =>
        obtain rfl : len = 1 := hl.resolve_left (by simp [ab_len])
        exact ab_s_astore_n F hd hs h
      case iinc i n =>
        obtain rfl : len = 3 := hl.resolve_left (by simp [ab_len])
        exact ab_s_iinc F hd hs h
      case iadd =>
        obtain rfl : len = 1 := hl.resolve_left (by simp [ab_len])
        exact ab_s_iadd F hd hs h
      case isub =>
        obtain rfl : len = 1 := hl.resolve_left (by simp [ab_len])
        exact ab_s_isub F hd hs h
      case imul =>
        obtain rfl : len = 1 := hl.resolve_left (by simp [ab_len])
        exact ab_s_imul F hd hs h
      case idiv =>
        obtain rfl : len = 1 := hl.resolve_left (by simp [ab_len])
        exact ab_s_idiv F hd hs h
      case irem =>
        obtain rfl : len = 1 := hl.resolve_left (by simp [ab_len])
        exact ab_s_irem F hd hs h
      case iand =>
        obtain rfl : len = 1 := hl.resolve_left (by simp [ab_len])
        exact ab_s_iand F hd hs h
      case ior =>
        obtain rfl : len = 1 := hl.resolve_left (by simp [ab_len])
        exact ab_s_ior F hd hs h
      case ishl =>
        obtain rfl : len = 1 := hl.resolve_left (by simp [ab_len])
        exact ab_s_ishl F hd hs h
      case ishr =>
        obtain rfl : len = 1 := hl.resolve_left (by simp [ab_len])
        exact ab_s_ishr F hd hs h
      case iushr =>
        obtain rfl : len = 1 := hl.resolve_left (by simp [ab_len])
        exact ab_s_iushr F hd hs h
      case ladd =>
        obtain rfl : len = 1 := hl.resolve_left (by simp [ab_len])
        exact ab_s_ladd F hd hs h
      case lsub =>
        obtain rfl : len = 1 := hl.resolve_left (by simp [ab_len])
        exact ab_s_lsub F hd hs h
      case lmul =>
        obtain rfl : len = 1 := hl.resolve_left (by simp [ab_len])
        exact ab_s_lmul F hd hs h
      case ldiv =>
        obtain rfl : len = 1 := hl.resolve_left (by simp [ab_len])
        exact ab_s_ldiv F hd hs h
      case lrem =>
        obtain rfl : len = 1 := hl.resolve_left (by simp [ab_len])
        exact ab_s_lrem F hd hs h
      case lcmp =>
        obtain rfl : len = 1 := hl.resolve_left (by simp [ab_len])
        exact ab_s_lcmp F hd hs h
      case ineg =>
        obtain rfl : len = 1 := hl.resolve_left (by simp [ab_len])
        exact ab_s_ineg F hd hs h
      case lneg =>
        obtain rfl : len = 1 := hl.resolve_left (by simp [ab_len])
        exact ab_s_lneg F hd hs h
      case i2l =>
        obtain rfl : len = 1 := hl.resolve_left (by simp [ab_len])
        exact ab_s_i2l F hd hs h
      case l2i =>
        obtain rfl : len = 1 := hl.resolve_left (by simp [ab_len])
        exact ab_s_l2i F hd hs h
      case i2b =>
        obtain rfl : len = 1 := hl.resolve_left (by simp [ab_len])
        exact ab_s_i2b F hd hs h
      case lshl =>
        obtain rfl : len = 1 := hl.resolve_left (by simp [ab_len])
        exact ab_s_lshl F hd hs h
      case dup =>
        obtain rfl : len = 1 := hl.resolve_left (by simp [ab_len])
        exact ab_s_dup F hd hs h
      case pop =>
        obtain rfl : len = 1 := hl.resolve_left (by simp [ab_len])
        exact ab_s_pop F hd hs h
      case dup2 =>
        obtain rfl : len = 1 := hl.resolve_left (by simp [ab_len])
        exact ab_s_dup2 F hd hs h
      case iaload =>
        obtain rfl : len = 1 := hl.resolve_left (by simp [ab_len])
        exact ab_s_iaload F hd hs h
      case laload =>
        obtain rfl : len = 1 := hl.resolve_left (by simp [ab_len])
        exact ab_s_laload F hd hs h
      case baload =>
        obtain rfl : len = 1 := hl.resolve_left (by simp [ab_len])
        exact ab_s_baload F hd hs h
      case aaload =>
        obtain rfl : len = 1 := hl.resolve_left (by simp [ab_len])
        exact ab_s_aaload F hd hs h
      case iastore =>
        obtain rfl : len = 1 := hl.resolve_left (by simp [ab_len])
        exact ab_s_iastore F hd hs h
      case lastore =>
        obtain rfl : len = 1 := hl.resolve_left (by simp [ab_len])
        exact ab_s_lastore F hd hs h
      case bastore =>
        obtain rfl : len = 1 := hl.resolve_left (by simp [ab_len])
        exact ab_s_bastore F hd hs h
      case aastore =>
        obtain rfl : len = 1 := hl.resolve_left (by simp [ab_len])
        exact ab_s_aastore F hd hs h
      case arraylength =>
        obtain rfl : len = 1 := hl.resolve_left (by simp [ab_len])
        exact ab_s_arraylength F hd hs h
      case goto off =>
        obtain rfl : len = 3 := hl.resolve_left (by simp [ab_len])
        exact ab_s_goto F hd hs h
      case ifCond cd off =>
        obtain rfl : len = 3 := hl.resolve_left (by simp [ab_len])
        exact ab_s_ifCond F hd hs h
      case if_icmp cd off =>
        obtain rfl : len = 3 := hl.resolve_left (by simp [ab_len])
        exact ab_s_if_icmp F hd hs h
      case ifnull off =>
        obtain rfl : len = 3 := hl.resolve_left (by simp [ab_len])
        exact ab_s_ifnull F hd hs h
      case ifnonnull off =>
        obtain rfl : len = 3 := hl.resolve_left (by simp [ab_len])
        exact ab_s_ifnonnull F hd hs h
      case newarray ty =>
        obtain rfl : len = 2 := hl.resolve_left (by simp [ab_len])
        exact ab_s_newarray F hd hs h
      case multianewarray i d =>
        obtain rfl : len = 4 := hl.resolve_left (by simp [ab_len])
        exact ab_s_multi F hd hs h
      case ldc i =>
        obtain rfl : len = 2 := hl.resolve_left (by simp [ab_len])
        exact ab_s_ldc F (of_decide_eq_true hsm) hd hs h
      case ldc_w i =>
        obtain rfl : len = 3 := hl.resolve_left (by simp [ab_len])
        exact ab_s_ldc_w F (of_decide_eq_true hsm) hd hs h
      case ldc2_w i =>
        obtain rfl : len = 3 := hl.resolve_left (by simp [ab_len])
        exact ab_s_ldc2_w F (of_decide_eq_true hsm) hd hs h
      case getfield i =>
        obtain rfl : len = 3 := hl.resolve_left (by simp [ab_len])
        exact ab_s_getfield F (of_decide_eq_true hsm) hd hs h
      case putfield i =>
        obtain rfl : len = 3 := hl.resolve_left (by simp [ab_len])
        exact ab_s_putfield F (of_decide_eq_true hsm) hd hs h
      case new i =>
        obtain rfl : len = 3 := hl.resolve_left (by simp [ab_len])
        exact ab_s_new F (of_decide_eq_true hsm) hd hs h
      case anewarray i =>
        obtain rfl : len = 3 := hl.resolve_left (by simp [ab_len])
        exact ab_s_anewarray F (of_decide_eq_true hsm) hd hs h
      case invokevirtual i =>
        obtain rfl : len = 3 := hl.resolve_left (by simp [ab_len])
        exact ab_s_inv h12 h3 hk F (kd := 0) (of_decide_eq_true hsm) hd hs h
      case invokestatic i =>
        obtain rfl : len = 3 := hl.resolve_left (by simp [ab_len])
        exact ab_s_inv h12 h3 hk F (kd := 1) (of_decide_eq_true hsm) hd hs h
      case invokespecial i =>
        obtain rfl : len = 3 := hl.resolve_left (by simp [ab_len])
        exact ab_s_inv h12 h3 hk F (kd := 2) (of_decide_eq_true hsm) hd hs h
      case tableswitch d lo hi offs => exact ab_s_tableswitch F hd hs h
      case ireturn =>
        exfalso
        unfold ab_ex at hs
        dsimp only at hs
        split at hs
        · split at hs
          · cases hs
          · split at hs <;> cases hs
          · cases hs
        · cases hs
      case lreturn =>
        exfalso
        unfold ab_ex at hs
        dsimp only at hs
        split at hs
        · split at hs <;> cases hs
        · cases hs
      case return_ =>
        exfalso
        unfold ab_ex at hs
        dsimp only at hs
        split at hs
        · split at hs <;> cases hs
        · cases hs
      all_goals exact nomatch (show (none : Option ab_Q) = some _ from hs)
    · cases hs
  · cases hs
end S10
