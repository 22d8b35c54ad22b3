section
variable {X : ab_X} {σ τ υ : ab_S} {Q : Option ab_V → ab_S → Prop} {K : Int} {κ : ac_K} {v : Int → Int} {kd d b p hp q hq mv i j as s n arr A0 cc arm who c h m : Int} {P : Int → Int → Prop}
theorem sp_play_i (hI : ac_CI σ K κ) (hk : ac_KK κ) (hb : ac_isB κ b) (B P1 : ab_V) (P2 : Int) (hQ : ∀ τ, ab_Same ac_PW σ τ → ac_GI τ κ kd d b p q (ac_cn κ b 0 p) 0 → ab_rd τ 134 3 = 100 * (ac_n κ b 0 + ac_n κ b 1) → Q none τ) (hG : ac_G2 σ κ kd d b p q) : ∀ (n : Nat) (i : Int) (τ : ab_S) (l6 : ab_V), ab_Same ac_PW σ τ → ac_GI τ κ kd d b p q i 0 → (0 < i → ab_rd τ 134 3 = 100 * (ac_n κ b 0 + ac_n κ b 1)) → 0 ≤ i → i + n = ac_cn κ b 0 p → ab_Run X 14 81 (3, 0, 0) [ab_R 148, ab_R 134, B, P1, ab_R P2, ab_I i, l6] [] τ Q := by
  have b0 := ac_cn_b (who := p) hk hb (Or.inl rfl)
  have b1 := ac_cn_b (who := q) hk hb (Or.inr rfl)
  intro n
  induction n with
  | zero =>
    intro i τ l6 hs hGI h3 hi hn
    obtain rfl : i = ac_cn κ b 0 p := by omega
    have g := (hI.same (hs.mono (fun _ _ u => (ac_PW_PD u).1))).1
    have e8 := (hG.same hk hb hs).2.2.1
    have hq' := hQ τ hs hGI (h3 (by omega))
    rw [rX2_play_81]
    simp (disch := omega) only [rX2_play_83, rX2_play_84, rX2_play_87, rX2_play_218, gS_148, g, e8, ne_eq, not_false_eq_true, not_true_eq_false, true_and, and_true, and_self, true_imp_iff, false_imp_iff, imp_self, Bool.not_false, Bool.not_true, reduceCtorEq, ab_isJ, ab_psh, ab_cats, Bool.false_eq_true, if_true, if_false, ab_shf, ab_shw, Int.le_refl, Classical.not_not, Int.zero_add, forall_const, ↓ab_itT, ↓ab_itF, ab_anT, ab_w32_id, ab_rdf_ne, ab_rdw_ne, ab_rdw_eq, ab_rdf_in, ab_td2, ab_tm2]
    all_goals exact hq'
  | succ n ih =>
    intro i τ l6 hs hGI h3 hi hn
    have hI' := hI.same (hs.mono (fun _ _ u => (ac_PW_PD u).1))
    have g := hI'.1
    have e8 := (hG.same hk hb hs).2.2.1
    have key := sp_play_j (X := X) (Q := Q) (kd := kd) (d := d) (p := p) (q := q) (i := i) hI' hk hb ⟨hi, by omega⟩ B P1 (ab_R P2) (fun τ' hs' hGI' h3' => by
      have := ih (i + 1) τ' (ab_I (ac_cn κ b 1 q)) (hs.trans hs') ⟨fun i' j' z1 z2 z3 z4 => hGI'.1 i' j' z1 z2 z3 (by omega), fun j' z1 z2 => by
        rw [hGI'.2.1 j' z1 z2, if_pos z2, if_neg (by omega)], fun i' z1 z2 => by
        rw [hGI'.2.2 i' z1 z2]
        by_cases w : i' < i
        · rw [if_pos w, if_pos (by omega)]
        · by_cases w2 : i' = i
          · rw [if_neg w, if_pos w2, if_pos (by omega)]
          · rw [if_neg w, if_neg w2, if_neg (by omega)]
            split <;> rfl⟩ (fun _ => h3') (by omega) (by omega)
      simp (disch := omega) only [rX2_play_212, rX2_play_215, ne_eq, not_false_eq_true, not_true_eq_false, true_and, and_true, and_self, true_imp_iff, false_imp_iff, imp_self, Bool.not_false, Bool.not_true, reduceCtorEq, ab_isJ, ab_psh, ab_cats, Bool.false_eq_true, if_true, if_false, ab_shf, ab_shw, Int.le_refl, Classical.not_not, Int.zero_add, forall_const, ↓ab_itT, ↓ab_itF, ab_anT, ab_w32_id, ab_rdf_ne, ab_rdw_ne, ab_rdw_eq, ab_rdf_in, ab_td2, ab_tm2]
      all_goals exact this) (hG.same hk hb hs) (ac_cn κ b 1 q).toNat 0 τ ab_Same.refl hGI (fun u => by omega) (by omega) (by omega)
    rw [rX2_play_81]
    simp (disch := omega) only [rX2_play_83, rX2_play_84, rX2_play_87, rX2_play_90, rX2_play_91, gS_148, g, e8, ne_eq, not_false_eq_true, not_true_eq_false, true_and, and_true, and_self, true_imp_iff, false_imp_iff, imp_self, Bool.not_false, Bool.not_true, reduceCtorEq, ab_isJ, ab_psh, ab_cats, Bool.false_eq_true, if_true, if_false, ab_shf, ab_shw, Int.le_refl, Classical.not_not, Int.zero_add, forall_const, ↓ab_itT, ↓ab_itF, ab_anT, ab_w32_id, ab_rdf_ne, ab_rdw_ne, ab_rdw_eq, ab_rdf_in, ab_td2, ab_tm2]
    all_goals exact key
theorem sp_play_0 (hg : ab_Geo σ) (B P1 : ab_V) (P2 : Int) (l6 : ab_V) : ∀ (n : Nat) (i : Int), 0 ≤ i → i + n = 12 → (ab_Run X 14 49 (3, 0, 0) [ab_R 148, ab_R 134, B, P1, ab_R P2, ab_I i, l6] [] (ab_fl (ab_fl σ 179 i (fun _ => 0)) 180 i (fun _ => 0)) Q ↔ ab_Run X 14 81 (3, 0, 0) [ab_R 148, ab_R 134, B, P1, ab_R P2, ab_I 0, l6] [] (ab_fl (ab_fl σ 179 12 (fun _ => 0)) 180 12 (fun _ => 0)) Q) := by
  intro n
  induction n with
  | zero =>
    intro i hi hn
    obtain rfl : i = 12 := by omega
    rw [rX2_play_49]
    simp (disch := omega) only [rX2_play_51, rX2_play_53, rX2_play_78, rX2_play_79, ne_eq, not_false_eq_true, not_true_eq_false, true_and, and_true, and_self, true_imp_iff, false_imp_iff, imp_self, Bool.not_false, Bool.not_true, reduceCtorEq, ab_isJ, ab_psh, ab_cats, Bool.false_eq_true, if_true, if_false, ab_shf, ab_shw, Int.le_refl, Classical.not_not, Int.zero_add, forall_const, ↓ab_itT, ↓ab_itF, ab_anT, ab_w32_id, ab_rdf_ne, ab_rdw_ne, ab_rdw_eq, ab_rdf_in, ab_td2, ab_tm2]
  | succ n ih =>
    intro i hi hn
    have key := ih (i + 1) (by omega) (by omega)
    have e1 : ab_fl (ab_fl σ 179 (i + 1) (fun _ => 0)) 180 (i + 1) (fun _ => 0) = ab_wr (ab_wr (ab_fl (ab_fl σ 179 i (fun _ => 0)) 180 i (fun _ => 0)) 179 i 0) 180 i 0 := by
      refine ab_sext rfl (fun _ => rfl) (fun x y => ?_)
      rw [ab_rdf, ab_rdf, ab_rdw, ab_rdw, ab_rdf, ab_rdf]
      by_cases h1 : x = 180
      · by_cases h2 : y = i
        · rw [if_pos (by omega), if_pos (by omega)]
        · by_cases h3 : 0 ≤ y ∧ y < i
          · rw [if_pos (by omega), if_neg (by omega), if_neg (by omega), if_pos (by omega)]
          · rw [if_neg (by omega), if_neg (by omega), if_neg (by omega), if_neg (by omega), if_neg (by omega), if_neg (by omega)]
      · by_cases h4 : x = 179
        · by_cases h2 : y = i
          · rw [if_neg (by omega), if_pos (by omega), if_neg (by omega), if_pos (by omega)]
          · by_cases h3 : 0 ≤ y ∧ y < i
            · rw [if_neg (by omega), if_pos (by omega), if_neg (by omega), if_neg (by omega), if_neg (by omega), if_pos (by omega)]
            · rw [if_neg (by omega), if_neg (by omega), if_neg (by omega), if_neg (by omega), if_neg (by omega), if_neg (by omega)]
        · rw [if_neg (by omega), if_neg (by omega), if_neg (by omega), if_neg (by omega), if_neg (by omega), if_neg (by omega)]
    rw [e1] at key
    rw [rX2_play_49, ← key]
    simp (disch := omega) only [rX2_play_51, rX2_play_53, rX2_play_56, rX2_play_57, rX2_play_60, rX2_play_62, rX2_play_63, rX2_play_64, rX2_play_65, rX2_play_68, rX2_play_70, rX2_play_71, rX2_play_72, rX2_play_75, gS_148, gP_148_6, gP_148_7, gS_179, gS_180, hg, ne_eq, not_false_eq_true, not_true_eq_false, true_and, and_true, and_self, true_imp_iff, false_imp_iff, imp_self, Bool.not_false, Bool.not_true, reduceCtorEq, ab_isJ, ab_psh, ab_cats, Bool.false_eq_true, if_true, if_false, ab_shf, ab_shw, Int.le_refl, Classical.not_not, Int.zero_add, forall_const, ↓ab_itT, ↓ab_itF, ab_anT, ab_w32_id, ab_rdf_ne, ab_rdw_ne, ab_rdw_eq, ab_rdf_in, ab_td2, ab_tm2]
/-- played -/
def ac_GP (τ : ab_S) (κ : ac_K) (kd d b p q : Int) : Prop := ac_G2 τ κ kd d b p q ∧ ac_GI τ κ kd d b p q (ac_cn κ b 0 p) 0 ∧ ab_rd τ 134 3 = 100 * (ac_n κ b 0 + ac_n κ b 1)
theorem sp_pair (hI : ac_CI σ K κ) (hk : ac_KK κ) (hp : ac_isP κ p) (hq : ac_isP κ q) : ab_Do X 34 [ab_R 134, ab_R (K + 20 + p), ab_R (K + 20 + q)] σ Q ↔ Q none (ab_wr σ 134 9 (κ 17 p + κ 17 q)) := by
  have g := hI.1
  have hC := hI.2.2.1
  have hv : K = 5 ∨ K = 329 := hC.1
  have n6 := hk.2.1.2.1
  have g1 := (g.pers hC.1 hp.1 (by omega)).1
  have g2 := (g.pers hC.1 hq.1 (by omega)).1
  have e1 := (hC.2.2.2.2.1 p hp.1 hp.2).2.1
  have e2 := (hC.2.2.2.2.1 q hq.1 hq.2).2.1
  have f1 := (hk.2.2.1.2.1 p hp.1 hp.2).2.1
  have f2 := (hk.2.2.1.2.1 q hq.1 hq.2).2.1
  simp (disch := omega) only [do_X6_pair, rX6_pair_0, rX6_pair_1, rX6_pair_2, rX6_pair_5, rX6_pair_6, rX6_pair_9, rX6_pair_10, rX6_pair_13, gS_134, g, g1, g2, e1, e2, ne_eq, not_false_eq_true, not_true_eq_false, true_and, and_true, and_self, true_imp_iff, false_imp_iff, imp_self, Bool.not_false, Bool.not_true, reduceCtorEq, ab_isJ, ab_psh, ab_cats, Bool.false_eq_true, if_true, if_false, ab_shf, ab_shw, Int.le_refl, Classical.not_not, Int.zero_add, forall_const, ↓ab_itT, ↓ab_itF, ab_anT, ab_w32_id, ab_rdf_ne, ab_rdw_ne, ab_rdw_eq, ab_rdf_in, ab_td2, ab_tm2]
theorem sp_playNow (hI : ac_CI σ K κ) (hS : ac_St σ 31 κ v) (hV : ac_VB κ v) (hk : ac_KK κ) (hb : ac_isB κ b) (hp : ac_isP κ p) (hq : ac_isP κ q) (hQ : ∀ τ, ab_Same ac_PD σ τ → ac_GP τ κ (v b) (v (5 + b)) b p q → Q none τ) : ab_Do X 141 [ab_R 1, ab_I b, ab_I p, ab_I q] σ Q := by
  have g := hI.1
  have h7 := hI.2.1
  have hC := hI.2.2.1
  have hd := (hV.1 b hb.1 hb.2).2
  have n5 := hk.2.1.1
  have n6 := hk.2.1.2.1
  have hv : K = 5 ∨ K = 329 := hC.1
  have S1 := hS.1 b hb.1 hb.2
  have c1 := fun Q' => sp_takeNow (X := X) (Q := Q') g h7 hC hk hb (show ab_rd σ 32 b = v b from S1.1) (show ab_rd σ 33 b = v (5 + b) from S1.2.1) hd
  have sT : ab_Same ac_PD σ (ac_tk σ κ (v b) (v (5 + b))) := ac_tk_same.toD (fun f => ac_tk_rd (by omega))
  have tT := ac_tk_Tk (σ := σ) (κ := κ) (kd := v b) (d := v (5 + b))
  have t4 := ac_tk_4 (σ := σ) (κ := κ) (kd := v b) (d := v (5 + b))
  have t8 := ac_tk_8 (σ := σ) (κ := κ) (kd := v b) (d := v (5 + b))
  generalize ac_tk σ κ (v b) (v (5 + b)) = ρ at c1 sT tT t4 t8
  have hρ := hI.same sT.ofD
  have gρ := hρ.1
  have h7ρ := hρ.2.1
  have hCρ := hρ.2.2.1
  obtain ⟨s0, s1, s2, s3, s4, p6, p8, p13, p14⟩ := gρ.kit hCρ.1
  have gB := gρ.bone hCρ.1 hb.1 (by omega)
  have gP := gρ.pers hCρ.1 hp.1 (by omega)
  have gQ := gρ.pers hCρ.1 hq.1 (by omega)
  have c2 := fun Q' => sp_pair (X := X) (Q := Q') hρ hk hp hq
  have s9 : ab_Same ac_PD σ (ab_wr ρ 134 9 (κ 17 p + κ 17 q)) := sT.wr (by unfold ac_PD ac_PC; omega)
  have h9 := hI.same s9.ofD
  have g9 := h9.1
  have T9 : ac_Tk (ab_wr ρ 134 9 (κ 17 p + κ 17 q)) κ (v (5 + b)) := by
    unfold ac_Tk at tT ⊢
    rw [ab_rdw_ne (by omega), ab_rdw_ne (by omega), ab_rdw_ne (by omega)]
    exact tT
  have b0 := ac_cn_b (who := p) hk hb (Or.inl rfl)
  have b1 := ac_cn_b (who := q) hk hb (Or.inr rfl)
  have sB := gB.1.2.1
  have sP := gP.1
  have sQ := gQ.1
  simp (disch := omega) only [do_X11_playNow, rX11_playNow_0, rX11_playNow_1, rX11_playNow_2, rX11_playNow_5, rX11_playNow_6, rX11_playNow_9, rX11_playNow_10, rX11_playNow_13, rX11_playNow_14, rX11_playNow_17, rX11_playNow_20, rX11_playNow_21, rX11_playNow_22, rX11_playNow_23, rX11_playNow_26, rX11_playNow_29, rX11_playNow_30, rX11_playNow_31, rX11_playNow_32, rX11_playNow_35, rX11_playNow_38, rX11_playNow_39, rX11_playNow_40, gS_1, gP_1_3, gP_1_4, gS_148, gS_134, g, gρ, h7ρ, c1, s0, s1, s2, p6, p8, gB.2, gP.2, gQ.2, sB, sP, sQ, ne_eq, not_false_eq_true, not_true_eq_false, true_and, and_true, and_self, true_imp_iff, false_imp_iff, imp_self, Bool.not_false, Bool.not_true, reduceCtorEq, ab_isJ, ab_psh, ab_cats, Bool.false_eq_true, if_true, if_false, ab_shf, ab_shw, Int.le_refl, Classical.not_not, Int.zero_add, forall_const, ↓ab_itT, ↓ab_itF, ab_anT, ab_w32_id, ab_rdf_ne, ab_rdw_ne, ab_rdw_eq, ab_rdf_in, ab_td2, ab_tm2]
  simp (disch := omega) only [do_X2_play, rX2_play_0, rX2_play_1, rX2_play_2, rX2_play_4, rX2_play_7, rX2_play_8, rX2_play_9, rX2_play_10, rX2_play_11, rX2_play_12, rX2_play_13, rX2_play_16, rX2_play_17, rX2_play_20, gS_134, gS_148, gP_148_0, gP_148_2, gρ, g9, sB, sP, sQ, c2, ne_eq, not_false_eq_true, not_true_eq_false, true_and, and_true, and_self, true_imp_iff, false_imp_iff, imp_self, Bool.not_false, Bool.not_true, reduceCtorEq, ab_isJ, ab_psh, ab_cats, Bool.false_eq_true, if_true, if_false, ab_shf, ab_shw, Int.le_refl, Classical.not_not, Int.zero_add, forall_const, ↓ab_itT, ↓ab_itF, ab_anT, ab_w32_id, ab_rdf_ne, ab_rdw_ne, ab_rdw_eq, ab_rdf_in, ab_td2, ab_tm2]
  refine sp_choose (Or.inl ⟨rfl, rfl, rfl, rfl⟩) h9 hk T9 ab_rdw_eq hd hb hp hq hp (fun τ1 hs1 hC1 => ?_)
  have w1 : ab_Same ac_PD σ τ1 := s9.trans (hs1.mono (fun _ _ u => ac_PG_PD (Or.inl ⟨rfl, rfl, rfl, rfl⟩) u))
  have hI1 := hI.same w1.ofD
  have g1 := hI1.1
  have s2' : ab_Same ac_PD σ (ab_wr τ1 148 8 (ac_cn κ b 0 p)) := w1.wr (by unfold ac_PD ac_PC; omega)
  have hI2 := hI.same s2'.ofD
  have g2 := hI2.1
  have o1 : ∀ f, ab_rd τ1 134 f = ab_rd (ab_wr ρ 134 9 (κ 17 p + κ 17 q)) 134 f := fun f => hs1.2.2 134 f (by unfold ac_PG; omega)
  have T2 : ac_Tk (ab_wr τ1 148 8 (ac_cn κ b 0 p)) κ (v (5 + b)) := by
    unfold ac_Tk at T9 ⊢
    rw [ab_rdw_ne (by omega), ab_rdw_ne (by omega), ab_rdw_ne (by omega), o1, o1, o1]
    exact T9
  have sB1 : ab_sh τ1 (K + 5 + 3 * b) = (2, 0) := by rw [hs1.2.1]; exact sB
  have sQ1 : ab_sh τ1 (K + 20 + q) = (6, 0) := by rw [hs1.2.1]; exact sQ
  simp (disch := omega) only [rX2_play_23, rX2_play_26, rX2_play_27, rX2_play_28, rX2_play_29, rX2_play_30, rX2_play_32, rX2_play_33, rX2_play_36, rX2_play_37, rX2_play_40, gS_134, gS_148, gP_148_1, gP_148_3, g1, sB1, sQ1, ne_eq, not_false_eq_true, not_true_eq_false, true_and, and_true, and_self, true_imp_iff, false_imp_iff, imp_self, Bool.not_false, Bool.not_true, reduceCtorEq, ab_isJ, ab_psh, ab_cats, Bool.false_eq_true, if_true, if_false, ab_shf, ab_shw, Int.le_refl, Classical.not_not, Int.zero_add, forall_const, ↓ab_itT, ↓ab_itF, ab_anT, ab_w32_id, ab_rdf_ne, ab_rdw_ne, ab_rdw_eq, ab_rdf_in, ab_td2, ab_tm2]
  refine sp_choose (Or.inr ⟨rfl, rfl, rfl, rfl⟩) hI2 hk T2 (by rw [ab_rdw_ne (by omega), o1, ab_rdw_eq]) hd hb hp hq hq (fun τ2 hs2 hC2 => ?_)
  have w2 : ab_Same ac_PD σ τ2 := s2'.trans (hs2.mono (fun _ _ u => ac_PG_PD (Or.inr ⟨rfl, rfl, rfl, rfl⟩) u))
  have hI3 := hI.same w2.ofD
  have g3 := hI3.1
  have C1' : ac_Ch (ab_wr τ1 148 8 (ac_cn κ b 0 p)) κ (v (5 + b)) b 0 p p q 181 151 (ac_cn κ b 0 p) := hC1.congr b0.2 ((ab_Same.refl (P := fun a f => a = 148)).wr rfl) (fun i _ _ u => by omega) (fun i _ _ => ⟨fun u => by omega, fun f => ⟨fun u => by omega, fun u => by omega, fun u => by omega⟩⟩)
  have C2' : ac_Ch τ2 κ (v (5 + b)) b 0 p p q 181 151 (ac_cn κ b 0 p) := C1'.congr b0.2 hs2 (fun i _ _ u => by unfold ac_PG at u; omega) (fun i _ _ => ⟨fun u => by unfold ac_PG at u; omega, fun f => ⟨fun u => by unfold ac_PG at u; omega, fun u => by unfold ac_PG at u; omega, fun u => by unfold ac_PG at u; omega⟩⟩)
  have o2 : ∀ f, f ≠ 9 → ab_rd τ2 134 f = ab_rd ρ 134 f := fun f hf => by rw [hs2.2.2 134 f (by unfold ac_PG; omega), ab_rdw_ne (by omega), o1, ab_rdw_ne (by omega)]
  have G3 : ac_G2 (ab_fl (ab_fl (ab_wr τ2 148 9 (ac_cn κ b 1 q)) 179 12 (fun _ => 0)) 180 12 (fun _ => 0)) κ (v b) (v (5 + b)) b p q := by
    have x1 : ab_Same (fun a f => (a = 148 ∧ f = 9) ∨ a = 179 ∨ a = 180) τ2 (ab_fl (ab_fl (ab_wr τ2 148 9 (ac_cn κ b 1 q)) 179 12 (fun _ => 0)) 180 12 (fun _ => 0)) := ((ab_Same.refl.wr (by omega)).fl (fun y _ _ => by omega)).fl (fun y _ _ => by omega)
    refine ⟨C2'.congr b0.2 x1 (fun i _ _ u => by omega) (fun i _ _ => ⟨fun u => by omega, fun f => ⟨fun u => by omega, fun u => by omega, fun u => by omega⟩⟩), hC2.congr b1.2 x1 (fun i _ _ u => by omega) (fun i _ _ => ⟨fun u => by omega, fun f => ⟨fun u => by omega, fun u => by omega, fun u => by omega⟩⟩), ?_, ?_, ?_, ?_⟩
    · rw [x1.2.2 148 8 (by omega), hs2.2.2 148 8 (by unfold ac_PG; omega), ab_rdw_eq]
    · rw [ab_rdf_ne (by omega), ab_rdf_ne (by omega), ab_rdw_eq]
    · rw [x1.2.2 134 4 (by omega), o2 4 (by omega), t4]
    · rw [x1.2.2 134 8 (by omega), o2 8 (by omega), t8]
  have w3 : ab_Same ac_PD σ (ab_fl (ab_fl (ab_wr τ2 148 9 (ac_cn κ b 1 q)) 179 12 (fun _ => 0)) 180 12 (fun _ => 0)) := ((w2.wr (by unfold ac_PD ac_PC; omega)).fl (fun y _ _ => by unfold ac_PD ac_PC; omega)).fl (fun y _ _ => by unfold ac_PD ac_PC; omega)
  have hI4 := hI.same w3.ofD
  have g4 := (hI.same (w2.wr (a := 148) (k := 9) (v := ac_cn κ b 1 q) (by unfold ac_PD ac_PC; omega)).ofD).1
  have z := sp_play_0 (X := X) (Q := fun r σ' => ab_Run X 141 43 (4, 0, 0) [ab_R 1, ab_I b, ab_I p, ab_I q] (ab_psh r []) σ' Q) g4 (ab_R (K + 5 + 3 * b)) (ab_R (K + 20 + p)) (K + 20 + q) (ab_R 0) 12 0 (by omega) (by omega)
  rw [ab_fl0 (Int.le_refl 0), ab_fl0 (Int.le_refl 0)] at z
  have key := sp_play_i (X := X) (Q := fun r σ' => ab_Run X 141 43 (4, 0, 0) [ab_R 1, ab_I b, ab_I p, ab_I q] (ab_psh r []) σ' Q) (kd := v b) (d := v (5 + b)) (p := p) (q := q) hI4 hk hb (ab_R (K + 5 + 3 * b)) (ab_R (K + 20 + p)) (K + 20 + q) (fun τ hs hGI h3 => by
    have hq' := hQ τ (w3.trans (hs.mono (fun _ _ => ac_PW_PD))) ⟨G3.same hk hb hs, hGI, h3⟩
    simp (disch := omega) only [rX11_playNow_43, ne_eq, not_false_eq_true, not_true_eq_false, true_and, and_true, and_self, true_imp_iff, false_imp_iff, imp_self, Bool.not_false, Bool.not_true, reduceCtorEq, ab_isJ, ab_psh, ab_cats, Bool.false_eq_true, if_true, if_false, ab_shf, ab_shw, Int.le_refl, Classical.not_not, Int.zero_add, forall_const, ↓ab_itT, ↓ab_itF, ab_anT, ab_w32_id, ab_rdf_ne, ab_rdw_ne, ab_rdw_eq, ab_rdf_in, ab_td2, ab_tm2]
    exact hq') G3 (ac_cn κ b 0 p).toNat 0 _ (ab_R 0) ab_Same.refl ⟨fun i' j' z1 z2 z3 z4 => by omega, fun j' z1 z2 => by rw [ab_rdf_ne (by omega), ab_rdf_in (by omega), if_neg (by omega)]; rfl, fun i' z1 z2 => by
    rw [ab_rdf_in (by omega), if_neg (by omega)]
    split <;> rfl⟩ (fun u => by omega) (by omega) (by omega)
  rw [← z] at key
  simp (disch := omega) only [rX2_play_43, rX2_play_46, rX2_play_47, gS_148, g3, ne_eq, not_false_eq_true, not_true_eq_false, true_and, and_true, and_self, true_imp_iff, false_imp_iff, imp_self, Bool.not_false, Bool.not_true, reduceCtorEq, ab_isJ, ab_psh, ab_cats, Bool.false_eq_true, if_true, if_false, ab_shf, ab_shw, Int.le_refl, Classical.not_not, Int.zero_add, forall_const, ↓ab_itT, ↓ab_itF, ab_anT, ab_w32_id, ab_rdf_ne, ab_rdw_ne, ab_rdw_eq, ab_rdf_in, ab_td2, ab_tm2]
  all_goals exact key
end
