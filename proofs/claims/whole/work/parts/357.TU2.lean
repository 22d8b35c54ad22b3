/-! TURNS: the class's questions -/
def ac_tu (n w : Int) : Option (Int → Int) := ac_ttS n w w.toNat 0 (fun _ => 0) (fun _ => 0)
def ac_tuT (κ : ac_K) (w : Int) : Int := if 0 < κ 5 0 then (if 1 ≤ w ∧ w ≤ 9 then 0 else 2) else 1
def ac_tuA (n w : Int) : Int := match ac_tu n w with
  | some _ => 1
  | none => 0
def ac_taT (κ : ac_K) (w i : Int) : Int := if ac_tuT κ w = 0 then (if 0 ≤ i ∧ i < w then (if ac_tuA (κ 6 0) w = 1 then 0 else 6) else 1) else ac_tuT κ w
def ac_taA (n w i : Int) : Int := match ac_tu n w with
  | some R => 10 * ac_ls n (R i) + ac_gr n (R i)
  | none => -1
section
variable {X : ab_X} {σ τ υ : ab_S} {Q : Option ab_V → ab_S → Prop} {K n w k p q j i : Int} {P c : Int → Int} {res : Option (Int → Int)} {κ : ac_K}
theorem ac_tuA01 : ac_tuA n w = 0 ∨ ac_tuA n w = 1 := by
  unfold ac_tuA
  cases ac_tu n w with
  | some R => right; rfl
  | none => left; rfl
theorem sp_find_l (hg : ab_Geo σ) : ∀ (d : Nat) (p : Int), 0 ≤ p → p + d = 6 → (ab_Run X 75 22 (12, 0, 0) [ab_R 325, ab_I n, ab_I w, ab_I p] [] (ab_fl σ 327 p (fun _ => 0)) Q ↔ ab_Run X 75 44 (12, 0, 0) [ab_R 325, ab_I n, ab_I w, ab_I 6] [] (ab_fl σ 327 6 (fun _ => 0)) Q) := by
  intro d
  induction d with
  | zero =>
    intro p hp hd
    obtain rfl : p = 6 := by omega
    rw [rX10_find_22]
    simp (disch := omega) only [rX10_find_23, rX10_find_24, rX10_find_27, rX10_find_28, gS_325, gP_325_1, gS_327, hg, ne_eq, not_false_eq_true, not_true_eq_false, true_and, and_true, and_self, true_imp_iff, false_imp_iff, imp_self, Bool.not_false, Bool.not_true, reduceCtorEq, ab_isJ, ab_psh, ab_cats, Bool.false_eq_true, if_true, if_false, ab_shf, ab_shw, Int.le_refl, Classical.not_not, Int.zero_add, forall_const, ↓ab_itT, ↓ab_itF, ab_anT, ab_w32_id, ab_rdf_ne, ab_rdw_ne, ab_rdw_eq, ab_rdf_in, ab_td2, ab_tm2]
  | succ d ih =>
    intro p hp hd
    have key := ih (p + 1) (by omega) (by omega)
    rw [← ab_fl_succ hp] at key
    rw [rX10_find_22, ← key]
    simp (disch := omega) only [rX10_find_23, rX10_find_24, rX10_find_27, rX10_find_28, rX10_find_31, rX10_find_32, rX10_find_35, rX10_find_36, rX10_find_37, rX10_find_38, rX10_find_41, gS_325, gP_325_1, gS_327, hg, ne_eq, not_false_eq_true, not_true_eq_false, true_and, and_true, and_self, true_imp_iff, false_imp_iff, imp_self, Bool.not_false, Bool.not_true, reduceCtorEq, ab_isJ, ab_psh, ab_cats, Bool.false_eq_true, if_true, if_false, ab_shf, ab_shw, Int.le_refl, Classical.not_not, Int.zero_add, forall_const, ↓ab_itT, ↓ab_itF, ab_anT, ab_w32_id, ab_rdf_ne, ab_rdw_ne, ab_rdw_eq, ab_rdf_in, ab_td2, ab_tm2]
theorem sp_find (hg : ab_Geo σ) (hn : 2 ≤ n ∧ n ≤ 6) (hw : 1 ≤ w ∧ w ≤ 9) (hQ : ∀ τ, ab_Same (fun a f => ac_PT a f ∨ (a = 325 ∧ 2 ≤ f)) σ τ → (∀ R, ac_tu n w = some R → ∀ i, 0 ≤ i → i < w → ab_rd τ 326 i = 10 * ac_ls n (R i) + ac_gr n (R i) ∧ 0 ≤ R i ∧ R i < ac_np n) → Q (some (ab_I (ac_tuA n w))) τ) : ab_Do X 75 [ab_R 325, ab_I n, ab_I w] σ Q := by
  have s0 : ab_Same (fun a f => ac_PT a f ∨ (a = 325 ∧ 2 ≤ f)) σ (ab_wr (ab_wr σ 325 2 n) 325 3 w) := (ab_Same.refl.wr (Or.inr (by omega))).wr (Or.inr (by omega))
  have s1 : ab_Same (fun a f => ac_PT a f ∨ (a = 325 ∧ 2 ≤ f)) σ (ab_fl (ab_wr (ab_wr σ 325 2 n) 325 3 w) 327 6 (fun _ => 0)) := s0.fl (fun y _ _ => Or.inl (Or.inr rfl))
  have hpt : ∀ a f, 0 ≤ a → a ≤ 368 → 0 ≤ f → (ac_PT a f ∨ (a = 325 ∧ 2 ≤ f)) → ab_pt a f = 0 := fun a f a1 a2 a3 u => ac_PC_pt a f a1 a2 a3 (by unfold ac_PT at u; unfold ac_PC; omega)
  have g0 := hg.same s0 hpt
  have g1 := hg.same s1 hpt
  have r2 : ab_rd (ab_fl (ab_wr (ab_wr σ 325 2 n) 325 3 w) 327 6 (fun _ => 0)) 325 2 = n := by rw [ab_rdf_ne (by omega), ab_rdw_ne (by omega), ab_rdw_eq]
  have r3 : ab_rd (ab_fl (ab_wr (ab_wr σ 325 2 n) 325 3 w) 327 6 (fun _ => 0)) 325 3 = w := by rw [ab_rdf_ne (by omega), ab_rdw_eq]
  have hC : ac_CT (ab_fl (ab_wr (ab_wr σ 325 2 n) 325 3 w) 327 6 (fun _ => 0)) n w 0 (fun _ => 0) (fun _ => 0) := ⟨g1, r2, r3, fun x x1 x2 => ⟨ab_rdf_in (by omega), Int.le_refl 0, Int.le_refl 0⟩, fun i i1 i2 => by omega⟩
  have L := sp_find_l (X := X) (Q := Q) (n := n) (w := w) g0 6 0 (by omega) (by omega)
  rw [ab_fl0 (Int.le_refl 0)] at L
  have key : ab_Do X 76 [ab_R 325, ab_I 0] (ab_fl (ab_wr (ab_wr σ 325 2 n) 325 3 w) 327 6 (fun _ => 0)) (fun r σ' => ab_Run X 75 57 (12, 0, 0) [ab_R 325, ab_I n, ab_I w, ab_I 6] (ab_psh r []) σ' Q) := by
    refine sp_findFrom hn hw w.toNat 0 _ _ _ _ (by omega) (by omega) hC ?_
    have eA : ac_tuA n w = match ac_tu n w with
      | some _ => 1
      | none => 0 := rfl
    unfold ac_ttQ
    cases hR : ac_ttS n w w.toNat 0 (fun _ => 0) (fun _ => 0) with
    | some R =>
      have eu : ac_tu n w = some R := hR
      rw [eu] at hQ eA
      rw [eA] at hQ
      intro τ u1 u2
      have k := hQ τ (s1.trans (u1.mono (fun _ _ u => Or.inl u))) (fun R' e => by cases e; exact u2)
      clear hQ L
      simp (disch := omega) only [rX10_find_57, rX10_find_60, rX10_find_61, rX10_find_64, rX10_find_65, ne_eq, not_false_eq_true, not_true_eq_false, true_and, and_true, and_self, true_imp_iff, false_imp_iff, imp_self, Bool.not_false, Bool.not_true, reduceCtorEq, ab_isJ, ab_psh, ab_cats, Bool.false_eq_true, if_true, if_false, ab_shf, ab_shw, Int.le_refl, Classical.not_not, Int.zero_add, forall_const, ↓ab_itT, ↓ab_itF, ab_anT, ab_w32_id, ab_rdf_ne, ab_rdw_ne, ab_rdw_eq, ab_rdf_in, ab_td2, ab_tm2, or_true, true_or]
      all_goals exact k
    | none =>
      have eu : ac_tu n w = none := hR
      rw [eu] at hQ eA
      rw [eA] at hQ
      intro τ u1 u2
      have k := hQ τ (s1.trans (u1.mono (fun _ _ u => Or.inl u))) (fun R' e => by cases e)
      clear hQ L
      simp (disch := omega) only [rX10_find_57, rX10_find_60, rX10_find_61, rX10_find_64, rX10_find_65, ne_eq, not_false_eq_true, not_true_eq_false, true_and, and_true, and_self, true_imp_iff, false_imp_iff, imp_self, Bool.not_false, Bool.not_true, reduceCtorEq, ab_isJ, ab_psh, ab_cats, Bool.false_eq_true, if_true, if_false, ab_shf, ab_shw, Int.le_refl, Classical.not_not, Int.zero_add, forall_const, ↓ab_itT, ↓ab_itF, ab_anT, ab_w32_id, ab_rdf_ne, ab_rdw_ne, ab_rdw_eq, ab_rdf_in, ab_td2, ab_tm2, or_true, true_or]
      all_goals exact k
  have k2 : ab_Run X 75 44 (12, 0, 0) [ab_R 325, ab_I n, ab_I w, ab_I 6] [] (ab_fl (ab_wr (ab_wr σ 325 2 n) 325 3 w) 327 6 (fun _ => 0)) Q := by
    clear hQ L hC
    simp (disch := omega) only [rX10_find_44, rX10_find_45, rX10_find_48, rX10_find_49, rX10_find_52, rX10_find_53, rX10_find_54, gS_325, g1, r2, ne_eq, not_false_eq_true, not_true_eq_false, true_and, and_true, and_self, true_imp_iff, false_imp_iff, imp_self, Bool.not_false, Bool.not_true, reduceCtorEq, ab_isJ, ab_psh, ab_cats, Bool.false_eq_true, if_true, if_false, ab_shf, ab_shw, Int.le_refl, Classical.not_not, Int.zero_add, forall_const, ↓ab_itT, ↓ab_itF, ab_anT]
    all_goals exact key
  have k3 := L.mpr k2
  clear hQ L hC key k2
  have e6 : (if (6 : Int) < n then 6 else n) = n := if_neg (by omega)
  have e9 : (if (9 : Int) < w then 9 else w) = w := if_neg (by omega)
  simp (disch := omega) only [do_X10_find, rX10_find_0, rX10_find_1, rX10_find_2, rX10_find_4, rX10_find_7, rX10_find_10, rX10_find_11, rX10_find_12, rX10_find_14, rX10_find_17, rX10_find_20, rX10_find_21, gS_325, hg, e6, e9, ne_eq, not_false_eq_true, not_true_eq_false, true_and, and_true, and_self, true_imp_iff, false_imp_iff, imp_self, Bool.not_false, Bool.not_true, reduceCtorEq, ab_isJ, ab_psh, ab_cats, Bool.false_eq_true, if_true, if_false, ab_shf, ab_shw, Int.le_refl, Classical.not_not, Int.zero_add, forall_const, ↓ab_itT, ↓ab_itF, ab_anT]
  all_goals exact k3
theorem sp_weeksTrouble (h : ac_CI σ K κ) : ab_Do X 135 [ab_R 1, ab_I w] σ Q ↔ Q (some (ab_I (ac_tuT κ w))) σ := by
  have c := fun Q' => sp_hasKitchen (X := X) (Q := Q') h
  have g := h.1
  unfold ac_tuT
  by_cases hp : 0 < κ 5 0
  · rw [if_pos hp] at c ⊢
    by_cases hn : 1 ≤ w ∧ w ≤ 9
    · rw [if_pos hn]
      simp (disch := omega) only [do_X11_weeksTrouble, rX11_weeksTrouble_0, rX11_weeksTrouble_1, rX11_weeksTrouble_4, rX11_weeksTrouble_7, rX11_weeksTrouble_8, rX11_weeksTrouble_9, rX11_weeksTrouble_10, rX11_weeksTrouble_11, rX11_weeksTrouble_14, rX11_weeksTrouble_15, rX11_weeksTrouble_17, rX11_weeksTrouble_20, rX11_weeksTrouble_21, rX11_weeksTrouble_24, rX11_weeksTrouble_25, gS_1, g, c, ne_eq, not_false_eq_true, not_true_eq_false, true_and, and_true, and_self, true_imp_iff, false_imp_iff, imp_self, Bool.not_false, Bool.not_true, reduceCtorEq, ab_isJ, ab_psh, ab_cats, Bool.false_eq_true, if_true, if_false, ab_shf, ab_shw, Int.le_refl, Classical.not_not, Int.zero_add, forall_const, ↓ab_itT, ↓ab_itF, ab_anT, ab_w32_id, ab_rdf_ne, ab_rdw_ne, ab_rdw_eq, ab_rdf_in, ab_td2, ab_tm2]
    · rw [if_neg hn]
      by_cases hn1 : 1 ≤ w
      · simp (disch := omega) only [do_X11_weeksTrouble, rX11_weeksTrouble_0, rX11_weeksTrouble_1, rX11_weeksTrouble_4, rX11_weeksTrouble_7, rX11_weeksTrouble_8, rX11_weeksTrouble_9, rX11_weeksTrouble_10, rX11_weeksTrouble_11, rX11_weeksTrouble_14, rX11_weeksTrouble_15, rX11_weeksTrouble_17, rX11_weeksTrouble_20, rX11_weeksTrouble_21, rX11_weeksTrouble_24, rX11_weeksTrouble_25, gS_1, g, c, ne_eq, not_false_eq_true, not_true_eq_false, true_and, and_true, and_self, true_imp_iff, false_imp_iff, imp_self, Bool.not_false, Bool.not_true, reduceCtorEq, ab_isJ, ab_psh, ab_cats, Bool.false_eq_true, if_true, if_false, ab_shf, ab_shw, Int.le_refl, Classical.not_not, Int.zero_add, forall_const, ↓ab_itT, ↓ab_itF, ab_anT, ab_w32_id, ab_rdf_ne, ab_rdw_ne, ab_rdw_eq, ab_rdf_in, ab_td2, ab_tm2]
      · simp (disch := omega) only [do_X11_weeksTrouble, rX11_weeksTrouble_0, rX11_weeksTrouble_1, rX11_weeksTrouble_4, rX11_weeksTrouble_7, rX11_weeksTrouble_8, rX11_weeksTrouble_9, rX11_weeksTrouble_10, rX11_weeksTrouble_11, rX11_weeksTrouble_14, rX11_weeksTrouble_15, rX11_weeksTrouble_17, rX11_weeksTrouble_20, rX11_weeksTrouble_21, rX11_weeksTrouble_24, rX11_weeksTrouble_25, gS_1, g, c, ne_eq, not_false_eq_true, not_true_eq_false, true_and, and_true, and_self, true_imp_iff, false_imp_iff, imp_self, Bool.not_false, Bool.not_true, reduceCtorEq, ab_isJ, ab_psh, ab_cats, Bool.false_eq_true, if_true, if_false, ab_shf, ab_shw, Int.le_refl, Classical.not_not, Int.zero_add, forall_const, ↓ab_itT, ↓ab_itF, ab_anT, ab_w32_id, ab_rdf_ne, ab_rdw_ne, ab_rdw_eq, ab_rdf_in, ab_td2, ab_tm2]
  · rw [if_neg hp] at c ⊢
    simp (disch := omega) only [do_X11_weeksTrouble, rX11_weeksTrouble_0, rX11_weeksTrouble_1, rX11_weeksTrouble_4, rX11_weeksTrouble_7, rX11_weeksTrouble_8, rX11_weeksTrouble_9, rX11_weeksTrouble_10, rX11_weeksTrouble_11, rX11_weeksTrouble_14, rX11_weeksTrouble_15, rX11_weeksTrouble_17, rX11_weeksTrouble_20, rX11_weeksTrouble_21, rX11_weeksTrouble_24, rX11_weeksTrouble_25, gS_1, g, c, ne_eq, not_false_eq_true, not_true_eq_false, true_and, and_true, and_self, true_imp_iff, false_imp_iff, imp_self, Bool.not_false, Bool.not_true, reduceCtorEq, ab_isJ, ab_psh, ab_cats, Bool.false_eq_true, if_true, if_false, ab_shf, ab_shw, Int.le_refl, Classical.not_not, Int.zero_add, forall_const, ↓ab_itT, ↓ab_itF, ab_anT, ab_w32_id, ab_rdf_ne, ab_rdw_ne, ab_rdw_eq, ab_rdf_in, ab_td2, ab_tm2]
theorem ac_tuT0 (h : ac_tuT κ w = 0) : 0 < κ 5 0 ∧ 1 ≤ w ∧ w ≤ 9 := by
  unfold ac_tuT at h
  split at h
  · split at h
    · exact ⟨by assumption, by assumption⟩
    · omega
  · omega
theorem ac_CI.kk0 (h : ac_CI σ K κ) (hp : 0 < κ 5 0) : ac_KK κ := by
  rcases h.2.2.2.2 with z | z
  · omega
  · exact z
theorem ac_PT_C {a f : Int} (u : ac_PT a f ∨ (a = 325 ∧ 2 ≤ f)) : ac_PC a f := by unfold ac_PT at u; unfold ac_PC; omega
theorem cq_turnsOf (h : ac_CI σ K κ) (hQ : ∀ τ, ab_Same ac_PC σ τ → ab_rd τ 1 8 = ac_tuT κ w → Q (some (ab_I (if ac_tuT κ w = 0 then ac_tuA (κ 6 0) w else -1))) τ) : ab_Do X 101 [ab_R 1, ab_I w] σ Q := by
  have c := fun Q' => sp_weeksTrouble (X := X) (Q := Q') (w := w) h
  have g := h.1
  have h7 := h.2.1
  have hC := h.2.2.1
  have hv : K = 5 ∨ K = 329 := hC.1
  have sK := (g.kit hC.1).1
  have e7 := hC.2.2.1.2.1
  by_cases hT : ac_tuT κ w = 0
  · obtain ⟨hp, hw⟩ := ac_tuT0 hT
    have hk := h.kk0 hp
    have n6 := hk.2.1.2.1
    have n2 := hk.2.2.2.2
    rw [hT] at c
    rw [hT, if_pos rfl] at hQ
    have h8 := h.same (ac_t8 (t := 0))
    have key : ab_Do X 75 [ab_R 325, ab_I (κ 6 0), ab_I w] (ab_wr σ 1 8 0) (fun r σ' => ab_Run X 101 33 (13, 0, 0) [ab_R 1, ab_I w] (ab_psh r []) σ' Q) := by
      refine sp_find h8.1 ⟨n2, by omega⟩ hw (fun τ u1 u2 => ?_)
      have k := hQ τ ((ac_t8 (t := 0)).trans (u1.mono (fun _ _ u => ac_PT_C u))) (by rw [u1.2.2 1 8 (by unfold ac_PT; omega), ab_rdw_eq])
      clear hQ u2
      rcases ac_tuA01 (n := κ 6 0) (w := w) with z | z
      · rw [z] at k ⊢
        simp (disch := omega) only [rX11_turnsOf_33, rX11_turnsOf_36, rX11_turnsOf_37, rX11_turnsOf_40, rX11_turnsOf_41, ne_eq, not_false_eq_true, not_true_eq_false, true_and, and_true, and_self, true_imp_iff, false_imp_iff, imp_self, Bool.not_false, Bool.not_true, reduceCtorEq, ab_isJ, ab_psh, ab_cats, Bool.false_eq_true, if_true, if_false, ab_shf, ab_shw, Int.le_refl, Classical.not_not, Int.zero_add, forall_const, ↓ab_itT, ↓ab_itF, ab_anT, ab_w32_id, ab_rdf_ne, ab_rdw_ne, ab_rdw_eq, ab_rdf_in, ab_td2, ab_tm2, or_true, true_or]
        all_goals exact k
      · rw [z] at k ⊢
        simp (disch := omega) only [rX11_turnsOf_33, rX11_turnsOf_36, rX11_turnsOf_37, rX11_turnsOf_40, rX11_turnsOf_41, ne_eq, not_false_eq_true, not_true_eq_false, true_and, and_true, and_self, true_imp_iff, false_imp_iff, imp_self, Bool.not_false, Bool.not_true, reduceCtorEq, ab_isJ, ab_psh, ab_cats, Bool.false_eq_true, if_true, if_false, ab_shf, ab_shw, Int.le_refl, Classical.not_not, Int.zero_add, forall_const, ↓ab_itT, ↓ab_itF, ab_anT, ab_w32_id, ab_rdf_ne, ab_rdw_ne, ab_rdw_eq, ab_rdf_in, ab_td2, ab_tm2, or_true, true_or]
        all_goals exact k
    clear hQ h8 hC h
    simp (disch := omega) only [do_X11_turnsOf, rX11_turnsOf_0, rX11_turnsOf_1, rX11_turnsOf_2, rX11_turnsOf_3, rX11_turnsOf_6, rX11_turnsOf_9, rX11_turnsOf_10, rX11_turnsOf_13, rX11_turnsOf_16, rX11_turnsOf_17, rX11_turnsOf_18, rX11_turnsOf_19, rX11_turnsOf_22, rX11_turnsOf_23, rX11_turnsOf_26, rX11_turnsOf_29, rX11_turnsOf_30, gS_1, gP_1_5, gS_325, g, h7, sK, e7, c, ne_eq, not_false_eq_true, not_true_eq_false, true_and, and_true, and_self, true_imp_iff, false_imp_iff, imp_self, Bool.not_false, Bool.not_true, reduceCtorEq, ab_isJ, ab_psh, ab_cats, Bool.false_eq_true, if_true, if_false, ab_shf, ab_shw, Int.le_refl, Classical.not_not, Int.zero_add, forall_const, ↓ab_itT, ↓ab_itF, ab_anT, ab_w32_id, ab_rdf_ne, ab_rdw_ne, ab_rdw_eq, ab_rdf_in, ab_td2, ab_tm2]
    all_goals exact key
  · rw [if_neg hT] at hQ
    have hq' := hQ _ ac_cq8.1 ac_cq8.2
    clear hQ hC h
    have hT1 : ac_tuT κ w = 1 ∨ ac_tuT κ w = 2 := by
      unfold ac_tuT at hT ⊢
      split
      · split
        · rename_i z1 z2; rw [if_pos z1, if_pos z2] at hT; omega
        · right; rfl
      · left; rfl
    simp (disch := omega) only [do_X11_turnsOf, rX11_turnsOf_0, rX11_turnsOf_1, rX11_turnsOf_2, rX11_turnsOf_3, rX11_turnsOf_6, rX11_turnsOf_9, rX11_turnsOf_10, rX11_turnsOf_13, rX11_turnsOf_16, rX11_turnsOf_17, gS_1, g, c, ne_eq, not_false_eq_true, not_true_eq_false, true_and, and_true, and_self, true_imp_iff, false_imp_iff, imp_self, Bool.not_false, Bool.not_true, reduceCtorEq, ab_isJ, ab_psh, ab_cats, Bool.false_eq_true, if_true, if_false, ab_shf, ab_shw, Int.le_refl, Classical.not_not, Int.zero_add, forall_const, ↓ab_itT, ↓ab_itF, ab_anT, ab_w32_id, ab_rdf_ne, ab_rdw_ne, ab_rdw_eq, ab_rdf_in, ab_td2, ab_tm2]
    all_goals exact hq'
theorem cq_turnAt (h : ac_CI σ K κ) (hQ : ∀ τ, ab_Same ac_PC σ τ → ab_rd τ 1 8 = ac_taT κ w i → Q (some (ab_I (if ac_taT κ w i = 0 then ac_taA (κ 6 0) w i else -1))) τ) : ab_Do X 102 [ab_R 1, ab_I w, ab_I i] σ Q := by
  have c := fun Q' => sp_weeksTrouble (X := X) (Q := Q') (w := w) h
  have g := h.1
  have h7 := h.2.1
  have hC := h.2.2.1
  have hv : K = 5 ∨ K = 329 := hC.1
  have sK := (g.kit hC.1).1
  have e7 := hC.2.2.1.2.1
  by_cases hT : ac_tuT κ w = 0
  · obtain ⟨hp, hw⟩ := ac_tuT0 hT
    have hk := h.kk0 hp
    have n6 := hk.2.1.2.1
    have n2 := hk.2.2.2.2
    rw [hT] at c
    unfold ac_taT at hQ
    rw [if_pos hT] at hQ
    by_cases hi : 0 ≤ i ∧ i < w
    · rw [if_pos hi] at hQ
      have h8 := h.same (ac_t8 (t := 0))
      have key : ab_Do X 75 [ab_R 325, ab_I (κ 6 0), ab_I w] (ab_wr σ 1 8 0) (fun r σ' => ab_Run X 102 52 (13, 0, 0) [ab_R 1, ab_I w, ab_I i] (ab_psh r []) σ' Q) := by
        refine sp_find h8.1 ⟨n2, by omega⟩ hw (fun τ u1 u2 => ?_)
        have s1 := (ac_t8 (t := 0)).trans (u1.mono (fun _ _ u => ac_PT_C u))
        have e8 : ab_rd τ 1 8 = 0 := by rw [u1.2.2 1 8 (by unfold ac_PT; omega), ab_rdw_eq]
        have gt := (h.same s1).1
        cases hR : ac_tu (κ 6 0) w with
        | some R =>
          have eA : ac_tuA (κ 6 0) w = 1 := by unfold ac_tuA; rw [hR]
          have eB : ac_taA (κ 6 0) w i = 10 * ac_ls (κ 6 0) (R i) + ac_gr (κ 6 0) (R i) := by unfold ac_taA; rw [hR]
          rw [eA, if_pos rfl, if_pos rfl, eB] at hQ
          rw [eA]
          have k := hQ τ s1 e8
          have ei := (u2 R hR i hi.1 hi.2).1
          clear hQ u2 h8 hC h
          simp (disch := omega) only [rX11_turnAt_52, rX11_turnAt_55, rX11_turnAt_56, rX11_turnAt_58, rX11_turnAt_61, rX11_turnAt_62, rX11_turnAt_65, rX11_turnAt_68, rX11_turnAt_69, rX11_turnAt_72, rX11_turnAt_75, rX11_turnAt_76, rX11_turnAt_77, rX11_turnAt_80, rX11_turnAt_81, gS_1, gP_1_5, gS_325, gP_325_0, gS_326, gt, e8, ei, ne_eq, not_false_eq_true, not_true_eq_false, true_and, and_true, and_self, true_imp_iff, false_imp_iff, imp_self, Bool.not_false, Bool.not_true, reduceCtorEq, ab_isJ, ab_psh, ab_cats, Bool.false_eq_true, if_true, if_false, ab_shf, ab_shw, Int.le_refl, Classical.not_not, Int.zero_add, forall_const, ↓ab_itT, ↓ab_itF, ab_anT, ab_w32_id, ab_rdf_ne, ab_rdw_ne, ab_rdw_eq, ab_rdf_in, ab_td2, ab_tm2, or_true, true_or]
          all_goals exact k
        | none =>
          have eA : ac_tuA (κ 6 0) w = 0 := by unfold ac_tuA; rw [hR]
          rw [eA, if_neg (by decide), if_neg (by decide)] at hQ
          rw [eA]
          have k := hQ (ab_wr τ 1 8 6) (s1.trans ac_t8) ab_rdw_eq
          clear hQ u2 h8 hC h
          simp (disch := omega) only [rX11_turnAt_52, rX11_turnAt_55, rX11_turnAt_56, rX11_turnAt_58, rX11_turnAt_61, rX11_turnAt_62, rX11_turnAt_65, rX11_turnAt_68, rX11_turnAt_69, rX11_turnAt_72, rX11_turnAt_75, rX11_turnAt_76, rX11_turnAt_77, rX11_turnAt_80, rX11_turnAt_81, gS_1, gt, e8, ne_eq, not_false_eq_true, not_true_eq_false, true_and, and_true, and_self, true_imp_iff, false_imp_iff, imp_self, Bool.not_false, Bool.not_true, reduceCtorEq, ab_isJ, ab_psh, ab_cats, Bool.false_eq_true, if_true, if_false, ab_shf, ab_shw, Int.le_refl, Classical.not_not, Int.zero_add, forall_const, ↓ab_itT, ↓ab_itF, ab_anT, ab_w32_id, ab_rdf_ne, ab_rdw_ne, ab_rdw_eq, ab_rdf_in, ab_td2, ab_tm2, or_true, true_or]
          all_goals exact k
      clear hQ h8 hC h
      simp (disch := omega) only [do_X11_turnAt, rX11_turnAt_0, rX11_turnAt_1, rX11_turnAt_2, rX11_turnAt_3, rX11_turnAt_6, rX11_turnAt_9, rX11_turnAt_10, rX11_turnAt_13, rX11_turnAt_16, rX11_turnAt_17, rX11_turnAt_20, rX11_turnAt_21, rX11_turnAt_22, rX11_turnAt_25, rX11_turnAt_26, rX11_turnAt_27, rX11_turnAt_30, rX11_turnAt_31, rX11_turnAt_34, rX11_turnAt_37, rX11_turnAt_38, rX11_turnAt_41, rX11_turnAt_42, rX11_turnAt_45, rX11_turnAt_48, rX11_turnAt_49, gS_1, gP_1_5, gS_325, g, h7, sK, e7, c, ne_eq, not_false_eq_true, not_true_eq_false, true_and, and_true, and_self, true_imp_iff, false_imp_iff, imp_self, Bool.not_false, Bool.not_true, reduceCtorEq, ab_isJ, ab_psh, ab_cats, Bool.false_eq_true, if_true, if_false, ab_shf, ab_shw, Int.le_refl, Classical.not_not, Int.zero_add, forall_const, ↓ab_itT, ↓ab_itF, ab_anT, ab_w32_id, ab_rdf_ne, ab_rdw_ne, ab_rdw_eq, ab_rdf_in, ab_td2, ab_tm2]
      all_goals exact key
    · rw [if_neg hi, if_neg (by decide)] at hQ
      have hq' := hQ (ab_wr (ab_wr σ 1 8 0) 1 8 1) ((ac_t8 (t := 0)).trans ac_t8) ab_rdw_eq
      clear hQ hC h
      by_cases hi0 : 0 ≤ i
      · simp (disch := omega) only [do_X11_turnAt, rX11_turnAt_0, rX11_turnAt_1, rX11_turnAt_2, rX11_turnAt_3, rX11_turnAt_6, rX11_turnAt_9, rX11_turnAt_10, rX11_turnAt_13, rX11_turnAt_16, rX11_turnAt_17, rX11_turnAt_20, rX11_turnAt_21, rX11_turnAt_22, rX11_turnAt_25, rX11_turnAt_26, rX11_turnAt_27, rX11_turnAt_30, rX11_turnAt_31, rX11_turnAt_34, rX11_turnAt_37, rX11_turnAt_38, rX11_turnAt_41, rX11_turnAt_42, rX11_turnAt_45, rX11_turnAt_48, rX11_turnAt_49, rX11_turnAt_52, rX11_turnAt_55, rX11_turnAt_56, rX11_turnAt_58, rX11_turnAt_61, rX11_turnAt_62, rX11_turnAt_65, rX11_turnAt_68, rX11_turnAt_69, rX11_turnAt_72, rX11_turnAt_75, rX11_turnAt_76, rX11_turnAt_77, rX11_turnAt_80, rX11_turnAt_81, gS_1, g, c, ne_eq, not_false_eq_true, not_true_eq_false, true_and, and_true, and_self, true_imp_iff, false_imp_iff, imp_self, Bool.not_false, Bool.not_true, reduceCtorEq, ab_isJ, ab_psh, ab_cats, Bool.false_eq_true, if_true, if_false, ab_shf, ab_shw, Int.le_refl, Classical.not_not, Int.zero_add, forall_const, ↓ab_itT, ↓ab_itF, ab_anT, ab_w32_id, ab_rdf_ne, ab_rdw_ne, ab_rdw_eq, ab_rdf_in, ab_td2, ab_tm2]
        all_goals exact hq'
      · simp (disch := omega) only [do_X11_turnAt, rX11_turnAt_0, rX11_turnAt_1, rX11_turnAt_2, rX11_turnAt_3, rX11_turnAt_6, rX11_turnAt_9, rX11_turnAt_10, rX11_turnAt_13, rX11_turnAt_16, rX11_turnAt_17, rX11_turnAt_20, rX11_turnAt_21, rX11_turnAt_22, rX11_turnAt_25, rX11_turnAt_26, rX11_turnAt_27, rX11_turnAt_30, rX11_turnAt_31, rX11_turnAt_34, rX11_turnAt_37, rX11_turnAt_38, rX11_turnAt_41, rX11_turnAt_42, rX11_turnAt_45, rX11_turnAt_48, rX11_turnAt_49, rX11_turnAt_52, rX11_turnAt_55, rX11_turnAt_56, rX11_turnAt_58, rX11_turnAt_61, rX11_turnAt_62, rX11_turnAt_65, rX11_turnAt_68, rX11_turnAt_69, rX11_turnAt_72, rX11_turnAt_75, rX11_turnAt_76, rX11_turnAt_77, rX11_turnAt_80, rX11_turnAt_81, gS_1, g, c, ne_eq, not_false_eq_true, not_true_eq_false, true_and, and_true, and_self, true_imp_iff, false_imp_iff, imp_self, Bool.not_false, Bool.not_true, reduceCtorEq, ab_isJ, ab_psh, ab_cats, Bool.false_eq_true, if_true, if_false, ab_shf, ab_shw, Int.le_refl, Classical.not_not, Int.zero_add, forall_const, ↓ab_itT, ↓ab_itF, ab_anT, ab_w32_id, ab_rdf_ne, ab_rdw_ne, ab_rdw_eq, ab_rdf_in, ab_td2, ab_tm2]
        all_goals exact hq'
  · have eT : ac_taT κ w i = ac_tuT κ w := by unfold ac_taT; rw [if_neg hT]
    rw [eT, if_neg hT] at hQ
    have hq' := hQ _ ac_cq8.1 ac_cq8.2
    clear hQ hC h
    have hT1 : ac_tuT κ w = 1 ∨ ac_tuT κ w = 2 := by
      unfold ac_tuT at hT ⊢
      split
      · split
        · rename_i z1 z2; rw [if_pos z1, if_pos z2] at hT; omega
        · right; rfl
      · left; rfl
    simp (disch := omega) only [do_X11_turnAt, rX11_turnAt_0, rX11_turnAt_1, rX11_turnAt_2, rX11_turnAt_3, rX11_turnAt_6, rX11_turnAt_9, rX11_turnAt_10, rX11_turnAt_13, rX11_turnAt_16, rX11_turnAt_17, rX11_turnAt_20, rX11_turnAt_21, rX11_turnAt_22, rX11_turnAt_25, rX11_turnAt_26, rX11_turnAt_27, rX11_turnAt_30, rX11_turnAt_31, rX11_turnAt_34, rX11_turnAt_37, rX11_turnAt_38, rX11_turnAt_41, rX11_turnAt_42, rX11_turnAt_45, rX11_turnAt_48, rX11_turnAt_49, rX11_turnAt_52, rX11_turnAt_55, rX11_turnAt_56, rX11_turnAt_58, rX11_turnAt_61, rX11_turnAt_62, rX11_turnAt_65, rX11_turnAt_68, rX11_turnAt_69, rX11_turnAt_72, rX11_turnAt_75, rX11_turnAt_76, rX11_turnAt_77, rX11_turnAt_80, rX11_turnAt_81, gS_1, g, c, ne_eq, not_false_eq_true, not_true_eq_false, true_and, and_true, and_self, true_imp_iff, false_imp_iff, imp_self, Bool.not_false, Bool.not_true, reduceCtorEq, ab_isJ, ab_psh, ab_cats, Bool.false_eq_true, if_true, if_false, ab_shf, ab_shw, Int.le_refl, Classical.not_not, Int.zero_add, forall_const, ↓ab_itT, ↓ab_itF, ab_anT, ab_w32_id, ab_rdf_ne, ab_rdw_ne, ab_rdw_eq, ab_rdf_in, ab_td2, ab_tm2]
    all_goals exact hq'
end
