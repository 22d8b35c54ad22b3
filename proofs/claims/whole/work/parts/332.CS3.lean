/-! THE CLASS: hand, side, known, hens, thumbs -/
theorem ac_fs {b : Int} : (Int64.ofInt 1 <<< ((Int32.ofInt b).toInt64 &&& 63)).toInt = ac_s64 b := rfl
theorem ac_fo {a b : Int} : ab_ok32 (fun x y => x ||| y) a b = ac_or a b := rfl
theorem ac_fl1 {p : Int} : ab_ok32 (fun x y => x <<< (y &&& 31)) 1 p = ac_sl p := rfl
section
variable {X : ab_X} {σ τ : ab_S} {Q : Option ab_V → ab_S → Prop} {A B K : Int} {κ : ac_K} {v : Int → Int} {d b p hp q hq mv arm k w lo n : Int}
theorem sp_ways_l {n won : Int} (hn : 0 ≤ n ∧ n ≤ 24) : ∀ (d : Nat) (i ways sum : Int), 0 ≤ i → i + d = n + 1 → (ab_Run X 148 8 (0, 0, 0) [ab_I n, ab_I won, ab_J ways, ab_R 0, ab_J sum, ab_R 0, ab_I i] [] σ Q ↔ Q (some (ab_J (ab_it (ac_ws n won) d i (ways, sum)).2)) σ) := by
  intro d
  induction d with
  | zero =>
    intro i ways sum hi hd
    rw [rX11_waysToWin_8, ab_it]
    simp (disch := omega) only [rX11_waysToWin_10, rX11_waysToWin_11, rX11_waysToWin_46, rX11_waysToWin_48, ne_eq, not_false_eq_true, not_true_eq_false, true_and, and_true, and_self, true_imp_iff, false_imp_iff, imp_self, Bool.not_false, Bool.not_true, reduceCtorEq, ab_isJ, ab_psh, ab_cats, Bool.false_eq_true, if_true, if_false, ab_shf, ab_shw, Int.le_refl, Classical.not_not, Int.zero_add, forall_const, ↓ab_itT, ↓ab_itF, ab_anT, ab_w32_id, ab_rdf_ne, ab_rdw_ne, ab_rdw_eq, ab_rdf_in, ab_td2, ab_tm2]
  | succ d ih =>
    intro i ways sum hi hd
    rw [rX11_waysToWin_8, ab_it]
    unfold ac_ws
    dsimp only
    rw [show (fun i (s : Int × Int) => (ab_w64 ((ab_w64 (s.1 * (n - i))).tdiv (i + 1)), if won ≤ i then ab_w64 (s.2 + s.1) else s.2)) = ac_ws n won from rfl, ← ih (i + 1) _ _ (by omega) (by omega)]
    by_cases w : won ≤ i
    · rw [if_pos w]
      simp (disch := omega) only [rX11_waysToWin_10, rX11_waysToWin_11, rX11_waysToWin_14, rX11_waysToWin_16, rX11_waysToWin_17, rX11_waysToWin_20, rX11_waysToWin_22, rX11_waysToWin_23, rX11_waysToWin_24, rX11_waysToWin_26, rX11_waysToWin_27, rX11_waysToWin_28, rX11_waysToWin_30, rX11_waysToWin_31, rX11_waysToWin_32, rX11_waysToWin_33, rX11_waysToWin_35, rX11_waysToWin_36, rX11_waysToWin_37, rX11_waysToWin_38, rX11_waysToWin_39, rX11_waysToWin_40, rX11_waysToWin_43, ne_eq, not_false_eq_true, not_true_eq_false, true_and, and_true, and_self, true_imp_iff, false_imp_iff, imp_self, Bool.not_false, Bool.not_true, reduceCtorEq, ab_isJ, ab_psh, ab_cats, Bool.false_eq_true, if_true, if_false, ab_shf, ab_shw, Int.le_refl, Classical.not_not, Int.zero_add, forall_const, ↓ab_itT, ↓ab_itF, ab_anT, ab_w32_id, ab_rdf_ne, ab_rdw_ne, ab_rdw_eq, ab_rdf_in, ab_td2, ab_tm2]
    · rw [if_neg w]
      simp (disch := omega) only [rX11_waysToWin_10, rX11_waysToWin_11, rX11_waysToWin_14, rX11_waysToWin_16, rX11_waysToWin_17, rX11_waysToWin_20, rX11_waysToWin_22, rX11_waysToWin_23, rX11_waysToWin_24, rX11_waysToWin_26, rX11_waysToWin_27, rX11_waysToWin_28, rX11_waysToWin_30, rX11_waysToWin_31, rX11_waysToWin_32, rX11_waysToWin_33, rX11_waysToWin_35, rX11_waysToWin_36, rX11_waysToWin_37, rX11_waysToWin_38, rX11_waysToWin_39, rX11_waysToWin_40, rX11_waysToWin_43, ne_eq, not_false_eq_true, not_true_eq_false, true_and, and_true, and_self, true_imp_iff, false_imp_iff, imp_self, Bool.not_false, Bool.not_true, reduceCtorEq, ab_isJ, ab_psh, ab_cats, Bool.false_eq_true, if_true, if_false, ab_shf, ab_shw, Int.le_refl, Classical.not_not, Int.zero_add, forall_const, ↓ab_itT, ↓ab_itF, ab_anT, ab_w32_id, ab_rdf_ne, ab_rdw_ne, ab_rdw_eq, ab_rdf_in, ab_td2, ab_tm2]
theorem sp_ways {n won : Int} (hn : 0 ≤ n ∧ n ≤ 24) : ab_Do X 148 [ab_I n, ab_I won] σ Q ↔ Q (some (ab_J (ac_ways n won))) σ := by
  unfold ac_ways
  rw [← sp_ways_l (X := X) (Q := Q) hn (n + 1).toNat 0 1 0 (by omega) (by omega)]
  simp (disch := omega) only [do_X11_waysToWin, rX11_waysToWin_0, rX11_waysToWin_1, rX11_waysToWin_2, rX11_waysToWin_3, rX11_waysToWin_5, rX11_waysToWin_6, ne_eq, not_false_eq_true, not_true_eq_false, true_and, and_true, and_self, true_imp_iff, false_imp_iff, imp_self, Bool.not_false, Bool.not_true, reduceCtorEq, ab_isJ, ab_psh, ab_cats, Bool.false_eq_true, if_true, if_false, ab_shf, ab_shw, Int.le_refl, Classical.not_not, Int.zero_add, forall_const, ↓ab_itT, ↓ab_itF, ab_anT, ab_w32_id, ab_rdf_ne, ab_rdw_ne, ab_rdw_eq, ab_rdf_in, ab_td2, ab_tm2]
def ac_hdA (κ : ac_K) (p lo : Int) : Int := ac_pt (ac_ways (ac_won κ p + ac_lost κ p) (ac_won κ p)) (ac_s64 (ac_won κ p + ac_lost κ p)) lo
theorem cq_hand (h : ac_CI σ K κ) (hlo : lo = 0 ∨ lo = 1) (hQ : ∀ τ, ab_Same ac_PC σ τ → ab_rd τ 1 8 = ac_p1T κ p → Q (some (ab_J (if ac_p1T κ p = 0 then ac_hdA κ p lo else -1))) τ) : ab_Do X 103 [ab_R 1, ab_I p, ab_I lo] σ Q := by
  have c := fun b Q' => sp_isPerson (X := X) (Q := Q') (b := b) h
  have g := h.1
  have h7 := h.2.1
  have hC := h.2.2.1
  have hv : K = 5 ∨ K = 329 := hC.1
  by_cases hp : ac_isP κ p
  · have eT : ac_p1T κ p = 0 := if_pos hp
    rw [eT, if_pos rfl] at hQ
    have hq' := hQ _ ac_cq8.1 ac_cq8.2
    have n6 := h.2.2.2.1.2.1.2
    have wb := ac_won_b (p := p) h.2.2.2.1
    obtain ⟨s0, s1, s2, s3, s4, p6, p8, -, -⟩ := g.kit hC.1
    have gP := g.pers hC.1 hp.1 (by omega)
    obtain ⟨e1, e2, e3, e4, e5, e6, e7, e8, e9, e10⟩ := hC.2.2.2.2.1 p hp.1 hp.2
    have e7 : ab_rd σ (K + 20 + p) 7 = ac_won κ p := e7
    have e8 : ab_rd σ (K + 20 + p) 8 = ac_lost κ p := e8
    have gP1 := gP.1
    have gP2 := gP.2
    have c2 := fun Q' => sp_ways (X := X) (σ := ab_wr σ 1 8 0) (Q := Q') (n := ac_won κ p + ac_lost κ p) (won := ac_won κ p) (by omega)
    have w1 := ac_ways_b (n := ac_won κ p + ac_lost κ p) (w := ac_won κ p) (by omega) (by omega)
    have w2 := ac_s64_b (p := ac_won κ p + ac_lost κ p) (by omega)
    have c3 := fun Q' => sp_part (X := X) (σ := ab_wr σ 1 8 0) (Q := Q') (up := ac_ways (ac_won κ p + ac_lost κ p) (ac_won κ p)) (low := ac_s64 (ac_won κ p + ac_lost κ p)) (lo := lo) (by omega) (by omega) hlo
    simp (disch := omega) only [do_X11_hand, rX11_hand_0, rX11_hand_1, rX11_hand_2, rX11_hand_3, rX11_hand_6, rX11_hand_9, rX11_hand_10, rX11_hand_13, rX11_hand_14, rX11_hand_17, rX11_hand_18, rX11_hand_21, rX11_hand_24, rX11_hand_27, rX11_hand_28, rX11_hand_29, rX11_hand_32, rX11_hand_35, rX11_hand_36, rX11_hand_37, rX11_hand_38, rX11_hand_39, rX11_hand_42, rX11_hand_43, rX11_hand_46, rX11_hand_47, rX11_hand_49, rX11_hand_51, rX11_hand_52, rX11_hand_55, rX11_hand_58, rX11_hand_59, rX11_hand_61, rX11_hand_62, rX11_hand_63, rX11_hand_66, gS_1, g, c, if_pos hp, h7, s0, s2, p8, gP1, gP2, e7, e8, c2, ac_fs, c3, ne_eq, not_false_eq_true, not_true_eq_false, true_and, and_true, and_self, true_imp_iff, false_imp_iff, imp_self, Bool.not_false, Bool.not_true, reduceCtorEq, ab_isJ, ab_psh, ab_cats, Bool.false_eq_true, if_true, if_false, ab_shf, ab_shw, Int.le_refl, Classical.not_not, Int.zero_add, forall_const, ↓ab_itT, ↓ab_itF, ab_anT, ab_w32_id, ab_rdf_ne, ab_rdw_ne, ab_rdw_eq, ab_rdf_in, ab_td2, ab_tm2]
    all_goals exact hq'
  · have eT : ac_p1T κ p = 1 := if_neg hp
    rw [eT, if_neg (by decide)] at hQ
    have hq' := hQ _ ac_cq8.1 ac_cq8.2
    simp (disch := omega) only [do_X11_hand, rX11_hand_0, rX11_hand_1, rX11_hand_2, rX11_hand_3, rX11_hand_6, rX11_hand_9, rX11_hand_10, rX11_hand_13, rX11_hand_14, rX11_hand_17, rX11_hand_18, rX11_hand_21, rX11_hand_24, rX11_hand_27, rX11_hand_28, rX11_hand_29, rX11_hand_32, rX11_hand_35, rX11_hand_36, rX11_hand_37, rX11_hand_38, rX11_hand_39, rX11_hand_42, rX11_hand_43, rX11_hand_46, rX11_hand_47, rX11_hand_49, rX11_hand_51, rX11_hand_52, rX11_hand_55, rX11_hand_58, rX11_hand_59, rX11_hand_61, rX11_hand_62, rX11_hand_63, rX11_hand_66, gS_1, g, c, if_neg hp, ne_eq, not_false_eq_true, not_true_eq_false, true_and, and_true, and_self, true_imp_iff, false_imp_iff, imp_self, Bool.not_false, Bool.not_true, reduceCtorEq, ab_isJ, ab_psh, ab_cats, Bool.false_eq_true, if_true, if_false, ab_shf, ab_shw, Int.le_refl, Classical.not_not, Int.zero_add, forall_const, ↓ab_itT, ↓ab_itF, ab_anT, ab_w32_id, ab_rdf_ne, ab_rdw_ne, ab_rdw_eq, ab_rdf_in, ab_td2, ab_tm2]
    all_goals exact hq'
def ac_kT (κ : ac_K) : Int := if 0 < κ 5 0 then 0 else 1
def ac_sdA (κ : ac_K) (lo : Int) : Int := ac_pt (ac_ways (κ 8 0) (ac_cnt (κ 24) (κ 8 0) 0)) (ac_s64 (κ 8 0)) lo
theorem cq_side (h : ac_CI σ K κ) (hlo : lo = 0 ∨ lo = 1) (hQ : ∀ τ, ab_Same ac_PC σ τ → ab_rd τ 1 8 = ac_kT κ → Q (some (ab_J (if ac_kT κ = 0 then ac_sdA κ lo else -1))) τ) : ab_Do X 104 [ab_R 1, ab_I lo] σ Q := by
  have c := fun Q' => sp_hasKitchen (X := X) (Q := Q') h
  have g := h.1
  have h7 := h.2.1
  have hC := h.2.2.1
  have hv : K = 5 ∨ K = 329 := hC.1
  by_cases hp : 0 < κ 5 0
  · have eT : ac_kT κ = 0 := if_pos hp
    rw [eT, if_pos rfl] at hQ
    have hq' := hQ _ ac_cq8.1 ac_cq8.2
    have n8 := h.2.2.2.1.2.2.2.1
    have cb := ac_cnt_b (f := κ 24) (n := κ 8 0) (x := 0) n8.1
    obtain ⟨s0, s1, s2, s3, s4, p6, p8, -, -⟩ := g.kit hC.1
    have e10 := hC.2.2.1.2.2.2.1
    have e11 := hC.2.2.1.2.2.2.2.1
    have c2 := fun Q' => sp_ways (X := X) (σ := ab_wr σ 1 8 0) (Q := Q') (n := κ 8 0) (won := ac_cnt (κ 24) (κ 8 0) 0) (by omega)
    have w1 := ac_ways_b (n := κ 8 0) (w := ac_cnt (κ 24) (κ 8 0) 0) (by omega) (by omega)
    have w2 := ac_s64_b (p := κ 8 0) (by omega)
    have c3 := fun Q' => sp_part (X := X) (σ := ab_wr σ 1 8 0) (Q := Q') (up := ac_ways (κ 8 0) (ac_cnt (κ 24) (κ 8 0) 0)) (low := ac_s64 (κ 8 0)) (lo := lo) (by omega) (by omega) hlo
    simp (disch := omega) only [do_X11_side, rX11_side_0, rX11_side_1, rX11_side_2, rX11_side_5, rX11_side_8, rX11_side_9, rX11_side_12, rX11_side_13, rX11_side_16, rX11_side_17, rX11_side_20, rX11_side_23, rX11_side_26, rX11_side_27, rX11_side_28, rX11_side_31, rX11_side_34, rX11_side_35, rX11_side_38, rX11_side_41, rX11_side_44, rX11_side_45, rX11_side_46, rX11_side_49, rX11_side_52, rX11_side_53, rX11_side_54, rX11_side_57, gS_1, g, c, if_pos hp, h7, s0, e10, e11, c2, ac_fs, c3, ne_eq, not_false_eq_true, not_true_eq_false, true_and, and_true, and_self, true_imp_iff, false_imp_iff, imp_self, Bool.not_false, Bool.not_true, reduceCtorEq, ab_isJ, ab_psh, ab_cats, Bool.false_eq_true, if_true, if_false, ab_shf, ab_shw, Int.le_refl, Classical.not_not, Int.zero_add, forall_const, ↓ab_itT, ↓ab_itF, ab_anT, ab_w32_id, ab_rdf_ne, ab_rdw_ne, ab_rdw_eq, ab_rdf_in, ab_td2, ab_tm2]
    all_goals exact hq'
  · have eT : ac_kT κ = 1 := if_neg hp
    rw [eT, if_neg (by decide)] at hQ
    have hq' := hQ _ ac_cq8.1 ac_cq8.2
    simp (disch := omega) only [do_X11_side, rX11_side_0, rX11_side_1, rX11_side_2, rX11_side_5, rX11_side_8, rX11_side_9, rX11_side_12, rX11_side_13, rX11_side_16, rX11_side_17, rX11_side_20, rX11_side_23, rX11_side_26, rX11_side_27, rX11_side_28, rX11_side_31, rX11_side_34, rX11_side_35, rX11_side_38, rX11_side_41, rX11_side_44, rX11_side_45, rX11_side_46, rX11_side_49, rX11_side_52, rX11_side_53, rX11_side_54, rX11_side_57, gS_1, g, c, if_neg hp, ne_eq, not_false_eq_true, not_true_eq_false, true_and, and_true, and_self, true_imp_iff, false_imp_iff, imp_self, Bool.not_false, Bool.not_true, reduceCtorEq, ab_isJ, ab_psh, ab_cats, Bool.false_eq_true, if_true, if_false, ab_shf, ab_shw, Int.le_refl, Classical.not_not, Int.zero_add, forall_const, ↓ab_itT, ↓ab_itF, ab_anT, ab_w32_id, ab_rdf_ne, ab_rdw_ne, ab_rdw_eq, ab_rdf_in, ab_td2, ab_tm2]
    all_goals exact hq'
theorem cq_known_l (h : ac_CI σ K κ) : ∀ (n : Nat) (p s : Int) (l3 l4 : ab_V), 0 ≤ p → p + n = κ 6 0 → (ab_Run X 105 29 (1, 0, 0) [ab_R 1, ab_I s, ab_I p, l3, l4] [] (ab_wr σ 1 8 0) Q ↔ Q (some (ab_I (ab_it (fun p s => if ac_knf κ p then ac_or s (ac_sl p) else s) n p s))) (ab_wr σ 1 8 0)) := by
  have g := h.1
  have h7 := h.2.1
  have hC := h.2.2.1
  have hv : K = 5 ∨ K = 329 := hC.1
  have e6' := hC.2.2.1.2.1
  intro n
  induction n with
  | zero =>
    intro p s l3 l4 hp0 hn
    obtain ⟨s0, s1, s2, s3, s4, p6, p8, -, -⟩ := g.kit hC.1
    rw [rX11_known_29, ab_it]
    simp (disch := omega) only [rX11_known_30, rX11_known_31, rX11_known_34, rX11_known_37, rX11_known_94, rX11_known_95, gS_1, g, h7, s0, e6', ne_eq, not_false_eq_true, not_true_eq_false, true_and, and_true, and_self, true_imp_iff, false_imp_iff, imp_self, Bool.not_false, Bool.not_true, reduceCtorEq, ab_isJ, ab_psh, ab_cats, Bool.false_eq_true, if_true, if_false, ab_shf, ab_shw, Int.le_refl, Classical.not_not, Int.zero_add, forall_const, ↓ab_itT, ↓ab_itF, ab_anT, ab_w32_id, ab_rdf_ne, ab_rdw_ne, ab_rdw_eq, ab_rdf_in, ab_td2, ab_tm2]
  | succ n ih =>
    intro p s l3 l4 hp0 hn
    have hp : ac_isP κ p := ⟨hp0, by omega⟩
    have n6 := h.2.2.2.1.2.1.2
    have wb := ac_won_b (p := p) h.2.2.2.1
    obtain ⟨s0, s1, s2, s3, s4, p6, p8, -, -⟩ := g.kit hC.1
    have gP := g.pers hC.1 hp.1 (by omega)
    obtain ⟨e1, e2, e3, e4, e5, e6, e7, e8, e9, e10⟩ := hC.2.2.2.2.1 p hp.1 hp.2
    have e7 : ab_rd σ (K + 20 + p) 7 = ac_won κ p := e7
    have e8 : ab_rd σ (K + 20 + p) 8 = ac_lost κ p := e8
    have gP1 := gP.1
    have gP2 := gP.2
    have c2 := fun Q' => sp_ways (X := X) (σ := ab_wr σ 1 8 0) (Q := Q') (n := ac_won κ p + ac_lost κ p) (won := ac_won κ p) (by omega)
    rw [rX11_known_29, ab_it]
    have em : ac_ways (ac_won κ p + ac_lost κ p) (ac_won κ p) * 20 = 20 * ac_ways (ac_won κ p + ac_lost κ p) (ac_won κ p) := Int.mul_comm _ _
    by_cases w : ac_knf κ p
    · rw [if_pos w, ← ih (p + 1) (ac_or s (ac_sl p)) (ab_R (K + 20 + p)) (ab_I (ac_won κ p + ac_lost κ p)) (by omega) (by omega)]
      have w' : ab_w64 (20 * ac_ways (ac_won κ p + ac_lost κ p) (ac_won κ p)) ≤ ac_s64 (ac_won κ p + ac_lost κ p) := w
      have lc : ¬ 0 < (if ac_s64 (ac_won κ p + ac_lost κ p) < ab_w64 (20 * ac_ways (ac_won κ p + ac_lost κ p) (ac_won κ p)) then (1 : Int) else if ab_w64 (20 * ac_ways (ac_won κ p + ac_lost κ p) (ac_won κ p)) = ac_s64 (ac_won κ p + ac_lost κ p) then 0 else -1) := by
        rw [if_neg (by omega)]; split <;> omega
      simp (disch := omega) only [rX11_known_30, rX11_known_31, rX11_known_34, rX11_known_37, rX11_known_40, rX11_known_41, rX11_known_44, rX11_known_47, rX11_known_48, rX11_known_49, rX11_known_50, rX11_known_51, rX11_known_54, rX11_known_55, rX11_known_58, rX11_known_59, rX11_known_61, rX11_known_63, rX11_known_64, rX11_known_67, rX11_known_70, rX11_known_73, rX11_known_74, rX11_known_75, rX11_known_77, rX11_known_78, rX11_known_79, rX11_known_82, rX11_known_83, rX11_known_84, rX11_known_85, rX11_known_86, rX11_known_87, rX11_known_88, rX11_known_91, gS_1, g, h7, s0, s2, p8, e6', gP1, gP2, e7, e8, c2, ac_fs, ac_fo, ac_fl1, em, ne_eq, not_false_eq_true, not_true_eq_false, true_and, and_true, and_self, true_imp_iff, false_imp_iff, imp_self, Bool.not_false, Bool.not_true, reduceCtorEq, ab_isJ, ab_psh, ab_cats, Bool.false_eq_true, if_true, if_false, ab_shf, ab_shw, Int.le_refl, Classical.not_not, Int.zero_add, forall_const, ↓ab_itT, ↓ab_itF, ab_anT, ab_w32_id, ab_rdf_ne, ab_rdw_ne, ab_rdw_eq, ab_rdf_in, ab_td2, ab_tm2]
    · rw [if_neg w, ← ih (p + 1) s (ab_R (K + 20 + p)) (ab_I (ac_won κ p + ac_lost κ p)) (by omega) (by omega)]
      have w' : ¬ ab_w64 (20 * ac_ways (ac_won κ p + ac_lost κ p) (ac_won κ p)) ≤ ac_s64 (ac_won κ p + ac_lost κ p) := w
      simp (disch := omega) only [rX11_known_30, rX11_known_31, rX11_known_34, rX11_known_37, rX11_known_40, rX11_known_41, rX11_known_44, rX11_known_47, rX11_known_48, rX11_known_49, rX11_known_50, rX11_known_51, rX11_known_54, rX11_known_55, rX11_known_58, rX11_known_59, rX11_known_61, rX11_known_63, rX11_known_64, rX11_known_67, rX11_known_70, rX11_known_73, rX11_known_74, rX11_known_75, rX11_known_77, rX11_known_78, rX11_known_79, rX11_known_82, rX11_known_83, rX11_known_84, rX11_known_85, rX11_known_86, rX11_known_87, rX11_known_88, rX11_known_91, gS_1, g, h7, s0, s2, p8, e6', gP1, gP2, e7, e8, c2, ac_fs, ac_fo, ac_fl1, em, ne_eq, not_false_eq_true, not_true_eq_false, true_and, and_true, and_self, true_imp_iff, false_imp_iff, imp_self, Bool.not_false, Bool.not_true, reduceCtorEq, ab_isJ, ab_psh, ab_cats, Bool.false_eq_true, if_true, if_false, ab_shf, ab_shw, Int.le_refl, Classical.not_not, Int.zero_add, forall_const, ↓ab_itT, ↓ab_itF, ab_anT, ab_w32_id, ab_rdf_ne, ab_rdw_ne, ab_rdw_eq, ab_rdf_in, ab_td2, ab_tm2, ab_ifT]
theorem cq_known (h : ac_CI σ K κ) (hQ : ∀ τ, ab_Same ac_PC σ τ → ab_rd τ 1 8 = ac_kT κ → Q (some (ab_I (if ac_kT κ = 0 then ac_kn κ else -1))) τ) : ab_Do X 105 [ab_R 1] σ Q := by
  have c := fun Q' => sp_hasKitchen (X := X) (Q := Q') h
  have g := h.1
  by_cases hp : 0 < κ 5 0
  · have eT : ac_kT κ = 0 := if_pos hp
    rw [eT, if_pos rfl] at hQ
    have hq' := hQ _ ac_cq8.1 ac_cq8.2
    have n6 := h.2.2.2.1.2.1
    unfold ac_kn at hq'
    rw [← cq_known_l (X := X) (Q := Q) h (κ 6 0).toNat 0 0 (ab_R 0) (ab_R 0) (by omega) (by omega)] at hq'
    simp (disch := omega) only [do_X11_known, rX11_known_0, rX11_known_1, rX11_known_2, rX11_known_5, rX11_known_8, rX11_known_9, rX11_known_12, rX11_known_13, rX11_known_16, rX11_known_17, rX11_known_20, rX11_known_23, rX11_known_24, rX11_known_25, rX11_known_26, rX11_known_27, rX11_known_28, gS_1, g, c, if_pos hp, ne_eq, not_false_eq_true, not_true_eq_false, true_and, and_true, and_self, true_imp_iff, false_imp_iff, imp_self, Bool.not_false, Bool.not_true, reduceCtorEq, ab_isJ, ab_psh, ab_cats, Bool.false_eq_true, if_true, if_false, ab_shf, ab_shw, Int.le_refl, Classical.not_not, Int.zero_add, forall_const, ↓ab_itT, ↓ab_itF, ab_anT, ab_w32_id, ab_rdf_ne, ab_rdw_ne, ab_rdw_eq, ab_rdf_in, ab_td2, ab_tm2]
    all_goals exact hq'
  · have eT : ac_kT κ = 1 := if_neg hp
    rw [eT, if_neg (by decide)] at hQ
    have hq' := hQ _ ac_cq8.1 ac_cq8.2
    simp (disch := omega) only [do_X11_known, rX11_known_0, rX11_known_1, rX11_known_2, rX11_known_5, rX11_known_8, rX11_known_9, rX11_known_12, rX11_known_13, rX11_known_16, rX11_known_17, rX11_known_20, rX11_known_23, rX11_known_24, rX11_known_25, rX11_known_26, rX11_known_27, rX11_known_28, gS_1, g, c, if_neg hp, ne_eq, not_false_eq_true, not_true_eq_false, true_and, and_true, and_self, true_imp_iff, false_imp_iff, imp_self, Bool.not_false, Bool.not_true, reduceCtorEq, ab_isJ, ab_psh, ab_cats, Bool.false_eq_true, if_true, if_false, ab_shf, ab_shw, Int.le_refl, Classical.not_not, Int.zero_add, forall_const, ↓ab_itT, ↓ab_itF, ab_anT, ab_w32_id, ab_rdf_ne, ab_rdw_ne, ab_rdw_eq, ab_rdf_in, ab_td2, ab_tm2]
    all_goals exact hq'
def ac_hnT (κ : ac_K) (n : Int) : Int := if 0 < κ 5 0 then (if 1 ≤ n ∧ n ≤ 1000000 then 0 else 2) else 1
theorem cq_hens_l : ∀ (f : Nat) (p : Int), 0 ≤ p → p + f = 20 → (ab_Run X 106 43 (1, 0, 0) [ab_R 1, ab_I n, ab_I p] [] σ Q ↔ Q (some (ab_I (ac_hs n f p))) σ) := by
  intro f
  induction f with
  | zero =>
    intro p hp hf
    rw [rX11_hens_43, ac_hs]
    simp (disch := omega) only [rX11_hens_44, rX11_hens_46, rX11_hens_62, rX11_hens_63, ne_eq, not_false_eq_true, not_true_eq_false, true_and, and_true, and_self, true_imp_iff, false_imp_iff, imp_self, Bool.not_false, Bool.not_true, reduceCtorEq, ab_isJ, ab_psh, ab_cats, Bool.false_eq_true, if_true, if_false, ab_shf, ab_shw, Int.le_refl, Classical.not_not, Int.zero_add, forall_const, ↓ab_itT, ↓ab_itF, ab_anT, ab_w32_id, ab_rdf_ne, ab_rdw_ne, ab_rdw_eq, ab_rdf_in, ab_td2, ab_tm2]
  | succ f ih =>
    intro p hp hf
    rw [rX11_hens_43, ac_hs]
    by_cases w : ac_sl p < n
    · rw [if_pos w, ← ih (p + 1) (by omega) (by omega)]
      simp (disch := omega) only [rX11_hens_44, rX11_hens_46, rX11_hens_49, rX11_hens_50, rX11_hens_51, rX11_hens_52, rX11_hens_53, rX11_hens_56, rX11_hens_59, rX11_hens_62, rX11_hens_63, ac_fl1, ne_eq, not_false_eq_true, not_true_eq_false, true_and, and_true, and_self, true_imp_iff, false_imp_iff, imp_self, Bool.not_false, Bool.not_true, reduceCtorEq, ab_isJ, ab_psh, ab_cats, Bool.false_eq_true, if_true, if_false, ab_shf, ab_shw, Int.le_refl, Classical.not_not, Int.zero_add, forall_const, ↓ab_itT, ↓ab_itF, ab_anT, ab_w32_id, ab_rdf_ne, ab_rdw_ne, ab_rdw_eq, ab_rdf_in, ab_td2, ab_tm2]
    · rw [if_neg w]
      simp (disch := omega) only [rX11_hens_44, rX11_hens_46, rX11_hens_49, rX11_hens_50, rX11_hens_51, rX11_hens_52, rX11_hens_53, rX11_hens_56, rX11_hens_59, rX11_hens_62, rX11_hens_63, ac_fl1, ne_eq, not_false_eq_true, not_true_eq_false, true_and, and_true, and_self, true_imp_iff, false_imp_iff, imp_self, Bool.not_false, Bool.not_true, reduceCtorEq, ab_isJ, ab_psh, ab_cats, Bool.false_eq_true, if_true, if_false, ab_shf, ab_shw, Int.le_refl, Classical.not_not, Int.zero_add, forall_const, ↓ab_itT, ↓ab_itF, ab_anT, ab_w32_id, ab_rdf_ne, ab_rdw_ne, ab_rdw_eq, ab_rdf_in, ab_td2, ab_tm2]
theorem cq_hens (h : ac_CI σ K κ) (hQ : ∀ τ, ab_Same ac_PC σ τ → ab_rd τ 1 8 = ac_hnT κ n → Q (some (ab_I (if ac_hnT κ n = 0 then ac_hs n 20 0 else -1))) τ) : ab_Do X 106 [ab_R 1, ab_I n] σ Q := by
  have c := fun Q' => sp_hasKitchen (X := X) (Q := Q') h
  have g := h.1
  by_cases hp : 0 < κ 5 0
  · by_cases hn : 1 ≤ n ∧ n ≤ 1000000
    · have eT : ac_hnT κ n = 0 := by unfold ac_hnT; rw [if_pos hp, if_pos hn]
      rw [eT, if_pos rfl] at hQ
      have hq' := hQ _ ac_cq8.1 ac_cq8.2
      rw [← cq_hens_l (X := X) (Q := Q) 20 0 (by omega) (by omega)] at hq'
      simp (disch := omega) only [do_X11_hens, rX11_hens_0, rX11_hens_1, rX11_hens_2, rX11_hens_5, rX11_hens_8, rX11_hens_9, rX11_hens_12, rX11_hens_13, rX11_hens_14, rX11_hens_17, rX11_hens_18, rX11_hens_21, rX11_hens_24, rX11_hens_25, rX11_hens_28, rX11_hens_29, rX11_hens_32, rX11_hens_33, rX11_hens_36, rX11_hens_39, rX11_hens_40, rX11_hens_41, rX11_hens_42, gS_1, g, c, if_pos hp, ne_eq, not_false_eq_true, not_true_eq_false, true_and, and_true, and_self, true_imp_iff, false_imp_iff, imp_self, Bool.not_false, Bool.not_true, reduceCtorEq, ab_isJ, ab_psh, ab_cats, Bool.false_eq_true, if_true, if_false, ab_shf, ab_shw, Int.le_refl, Classical.not_not, Int.zero_add, forall_const, ↓ab_itT, ↓ab_itF, ab_anT, ab_w32_id, ab_rdf_ne, ab_rdw_ne, ab_rdw_eq, ab_rdf_in, ab_td2, ab_tm2]
      all_goals exact hq'
    · have eT : ac_hnT κ n = 2 := by unfold ac_hnT; rw [if_pos hp, if_neg hn]
      rw [eT, if_neg (by decide)] at hQ
      have hq' := hQ _ ac_cq8.1 ac_cq8.2
      by_cases hn1 : 1 ≤ n
      · simp (disch := omega) only [do_X11_hens, rX11_hens_0, rX11_hens_1, rX11_hens_2, rX11_hens_5, rX11_hens_8, rX11_hens_9, rX11_hens_12, rX11_hens_13, rX11_hens_14, rX11_hens_17, rX11_hens_18, rX11_hens_21, rX11_hens_24, rX11_hens_25, rX11_hens_28, rX11_hens_29, rX11_hens_32, rX11_hens_33, rX11_hens_36, rX11_hens_39, rX11_hens_40, rX11_hens_41, rX11_hens_42, gS_1, g, c, if_pos hp, ne_eq, not_false_eq_true, not_true_eq_false, true_and, and_true, and_self, true_imp_iff, false_imp_iff, imp_self, Bool.not_false, Bool.not_true, reduceCtorEq, ab_isJ, ab_psh, ab_cats, Bool.false_eq_true, if_true, if_false, ab_shf, ab_shw, Int.le_refl, Classical.not_not, Int.zero_add, forall_const, ↓ab_itT, ↓ab_itF, ab_anT, ab_w32_id, ab_rdf_ne, ab_rdw_ne, ab_rdw_eq, ab_rdf_in, ab_td2, ab_tm2]
        all_goals exact hq'
      · simp (disch := omega) only [do_X11_hens, rX11_hens_0, rX11_hens_1, rX11_hens_2, rX11_hens_5, rX11_hens_8, rX11_hens_9, rX11_hens_12, rX11_hens_13, rX11_hens_14, rX11_hens_17, rX11_hens_18, rX11_hens_21, rX11_hens_24, rX11_hens_25, rX11_hens_28, rX11_hens_29, rX11_hens_32, rX11_hens_33, rX11_hens_36, rX11_hens_39, rX11_hens_40, rX11_hens_41, rX11_hens_42, gS_1, g, c, if_pos hp, ne_eq, not_false_eq_true, not_true_eq_false, true_and, and_true, and_self, true_imp_iff, false_imp_iff, imp_self, Bool.not_false, Bool.not_true, reduceCtorEq, ab_isJ, ab_psh, ab_cats, Bool.false_eq_true, if_true, if_false, ab_shf, ab_shw, Int.le_refl, Classical.not_not, Int.zero_add, forall_const, ↓ab_itT, ↓ab_itF, ab_anT, ab_w32_id, ab_rdf_ne, ab_rdw_ne, ab_rdw_eq, ab_rdf_in, ab_td2, ab_tm2]
        all_goals exact hq'
  · have eT : ac_hnT κ n = 1 := by unfold ac_hnT; rw [if_neg hp]
    rw [eT, if_neg (by decide)] at hQ
    have hq' := hQ _ ac_cq8.1 ac_cq8.2
    simp (disch := omega) only [do_X11_hens, rX11_hens_0, rX11_hens_1, rX11_hens_2, rX11_hens_5, rX11_hens_8, rX11_hens_9, rX11_hens_12, rX11_hens_13, rX11_hens_14, rX11_hens_17, rX11_hens_18, rX11_hens_21, rX11_hens_24, rX11_hens_25, rX11_hens_28, rX11_hens_29, rX11_hens_32, rX11_hens_33, rX11_hens_36, rX11_hens_39, rX11_hens_40, rX11_hens_41, rX11_hens_42, gS_1, g, c, if_neg hp, ne_eq, not_false_eq_true, not_true_eq_false, true_and, and_true, and_self, true_imp_iff, false_imp_iff, imp_self, Bool.not_false, Bool.not_true, reduceCtorEq, ab_isJ, ab_psh, ab_cats, Bool.false_eq_true, if_true, if_false, ab_shf, ab_shw, Int.le_refl, Classical.not_not, Int.zero_add, forall_const, ↓ab_itT, ↓ab_itF, ab_anT, ab_w32_id, ab_rdf_ne, ab_rdw_ne, ab_rdw_eq, ab_rdf_in, ab_td2, ab_tm2]
    all_goals exact hq'
theorem sp_like_2 {t P won lost : Int} (hs : ab_sh σ P = (6, 0)) (hP : 0 < P) (h8 : ab_rd σ P 8 = lost) (ht : 0 ≤ t ∧ t ≤ 10) (hl : lost ≤ 12) : ∀ (d : Nat) (i s : Int), 0 ≤ i → i + d = lost → (ab_Run X 149 28 (0, 0, 0) [ab_I t, ab_R P, ab_J s, ab_R 0, ab_I i] [] σ Q ↔ Q (some (ab_J (ab_it (fun _ s => ab_w64 (s * (10 - t))) d i s))) σ) := by
  intro d
  induction d with
  | zero =>
    intro i s hi hd
    rw [rX11_likelihood_28, ab_it]
    simp (disch := omega) only [rX11_likelihood_30, rX11_likelihood_31, rX11_likelihood_34, rX11_likelihood_51, rX11_likelihood_52, hs, h8, ne_eq, not_false_eq_true, not_true_eq_false, true_and, and_true, and_self, true_imp_iff, false_imp_iff, imp_self, Bool.not_false, Bool.not_true, reduceCtorEq, ab_isJ, ab_psh, ab_cats, Bool.false_eq_true, if_true, if_false, ab_shf, ab_shw, Int.le_refl, Classical.not_not, Int.zero_add, forall_const, ↓ab_itT, ↓ab_itF, ab_anT, ab_w32_id, ab_rdf_ne, ab_rdw_ne, ab_rdw_eq, ab_rdf_in, ab_td2, ab_tm2]
  | succ d ih =>
    intro i s hi hd
    rw [rX11_likelihood_28, ab_it, ← ih (i + 1) _ (by omega) (by omega)]
    simp (disch := omega) only [rX11_likelihood_30, rX11_likelihood_31, rX11_likelihood_34, rX11_likelihood_37, rX11_likelihood_38, rX11_likelihood_40, rX11_likelihood_41, rX11_likelihood_42, rX11_likelihood_43, rX11_likelihood_44, rX11_likelihood_45, rX11_likelihood_48, hs, h8, ne_eq, not_false_eq_true, not_true_eq_false, true_and, and_true, and_self, true_imp_iff, false_imp_iff, imp_self, Bool.not_false, Bool.not_true, reduceCtorEq, ab_isJ, ab_psh, ab_cats, Bool.false_eq_true, if_true, if_false, ab_shf, ab_shw, Int.le_refl, Classical.not_not, Int.zero_add, forall_const, ↓ab_itT, ↓ab_itF, ab_anT, ab_w32_id, ab_rdf_ne, ab_rdw_ne, ab_rdw_eq, ab_rdf_in, ab_td2, ab_tm2]
theorem sp_like_1 {t P won lost : Int} (hs : ab_sh σ P = (6, 0)) (hP : 0 < P) (h7 : ab_rd σ P 7 = won) (hw : won ≤ 12) : ∀ (d : Nat) (i s : Int), 0 ≤ i → i + d = won → (ab_Run X 149 5 (0, 0, 0) [ab_I t, ab_R P, ab_J s, ab_R 0, ab_I i] [] σ Q ↔ ab_Run X 149 28 (0, 0, 0) [ab_I t, ab_R P, ab_J (ab_it (fun _ s => ab_w64 (s * t)) d i s), ab_R 0, ab_I 0] [] σ Q) := by
  intro d
  induction d with
  | zero =>
    intro i s hi hd
    rw [rX11_likelihood_5, ab_it]
    simp (disch := omega) only [rX11_likelihood_7, rX11_likelihood_8, rX11_likelihood_11, rX11_likelihood_25, rX11_likelihood_26, hs, h7, ne_eq, not_false_eq_true, not_true_eq_false, true_and, and_true, and_self, true_imp_iff, false_imp_iff, imp_self, Bool.not_false, Bool.not_true, reduceCtorEq, ab_isJ, ab_psh, ab_cats, Bool.false_eq_true, if_true, if_false, ab_shf, ab_shw, Int.le_refl, Classical.not_not, Int.zero_add, forall_const, ↓ab_itT, ↓ab_itF, ab_anT, ab_w32_id, ab_rdf_ne, ab_rdw_ne, ab_rdw_eq, ab_rdf_in, ab_td2, ab_tm2]
  | succ d ih =>
    intro i s hi hd
    rw [rX11_likelihood_5, ab_it, ← ih (i + 1) _ (by omega) (by omega)]
    simp (disch := omega) only [rX11_likelihood_7, rX11_likelihood_8, rX11_likelihood_11, rX11_likelihood_14, rX11_likelihood_15, rX11_likelihood_16, rX11_likelihood_17, rX11_likelihood_18, rX11_likelihood_19, rX11_likelihood_22, hs, h7, ne_eq, not_false_eq_true, not_true_eq_false, true_and, and_true, and_self, true_imp_iff, false_imp_iff, imp_self, Bool.not_false, Bool.not_true, reduceCtorEq, ab_isJ, ab_psh, ab_cats, Bool.false_eq_true, if_true, if_false, ab_shf, ab_shw, Int.le_refl, Classical.not_not, Int.zero_add, forall_const, ↓ab_itT, ↓ab_itF, ab_anT, ab_w32_id, ab_rdf_ne, ab_rdw_ne, ab_rdw_eq, ab_rdf_in, ab_td2, ab_tm2]
theorem sp_like {t P won lost : Int} (hs : ab_sh σ P = (6, 0)) (hP : 0 < P) (h7 : ab_rd σ P 7 = won) (h8 : ab_rd σ P 8 = lost) (ht : 0 ≤ t ∧ t ≤ 10) (hw : 0 ≤ won ∧ won ≤ 12) (hl : 0 ≤ lost ∧ lost ≤ 12) : ab_Do X 149 [ab_I t, ab_R P] σ Q ↔ Q (some (ab_J (ac_lk t won lost))) σ := by
  unfold ac_lk
  rw [← sp_like_2 (X := X) (Q := Q) (won := won) hs hP h8 ht hl.2 lost.toNat 0 _ (by omega) (by omega), ← sp_like_1 (X := X) (Q := Q) (lost := lost) hs hP h7 hw.2 won.toNat 0 1 (by omega) (by omega)]
  simp (disch := omega) only [do_X11_likelihood, rX11_likelihood_0, rX11_likelihood_1, rX11_likelihood_2, rX11_likelihood_3, ne_eq, not_false_eq_true, not_true_eq_false, true_and, and_true, and_self, true_imp_iff, false_imp_iff, imp_self, Bool.not_false, Bool.not_true, reduceCtorEq, ab_isJ, ab_psh, ab_cats, Bool.false_eq_true, if_true, if_false, ab_shf, ab_shw, Int.le_refl, Classical.not_not, Int.zero_add, forall_const, ↓ab_itT, ↓ab_itF, ab_anT, ab_w32_id, ab_rdf_ne, ab_rdw_ne, ab_rdw_eq, ab_rdf_in, ab_td2, ab_tm2]
def ac_tbT (κ : ac_K) (p : Int) : Int := if ac_isP κ p then (if κ 27 p = -1 then 6 else 0) else 1
def ac_tbA (κ : ac_K) (p lo : Int) : Int := ac_pt (κ 27 p * ac_lk (κ 28 p) (ac_won κ p) (ac_lost κ p)) (κ 27 p * ac_lk (κ 28 p) (ac_won κ p) (ac_lost κ p) + (100 - κ 27 p) * ac_lk (κ 29 p) (ac_won κ p) (ac_lost κ p)) lo
theorem ac_tb_b {c x y : Int} (hc : 0 ≤ c ∧ c ≤ 99) (hx : 1 ≤ x ∧ x ≤ 282429536481) (hy : 1 ≤ y ∧ y ≤ 282429536481) : (0 ≤ c * x ∧ c * x ≤ 27960524111619) ∧ (0 < (100 - c) * y ∧ (100 - c) * y ≤ 28242953648100) ∧ c * x + (100 - c) * y ≤ 28242953648100 := by
  have m1 := ab_mulb hc.1 (Int.le_refl c) (show 0 ≤ x by omega) hx.2
  have m2 := ab_mulb (show 0 ≤ 100 - c by omega) (Int.le_refl (100 - c)) (show 0 ≤ y by omega) hy.2
  have m3 := Int.mul_pos (show 0 < 100 - c by omega) (show 0 < y by omega)
  omega
theorem cq_thumbs (h : ac_CI σ K κ) (hK : κ 5 0 = 0 → κ 6 0 = 0) (hW : ac_KW κ) (hlo : lo = 0 ∨ lo = 1) (hQ : ∀ τ, ab_Same ac_PC σ τ → ab_rd τ 1 8 = ac_tbT κ p → Q (some (ab_J (if ac_tbT κ p = 0 then ac_tbA κ p lo else -1))) τ) : ab_Do X 107 [ab_R 1, ab_I p, ab_I lo] σ Q := by
  have c := fun b Q' => sp_isPerson (X := X) (Q := Q') (b := b) h
  have g := h.1
  have h7 := h.2.1
  have hC := h.2.2.1
  have hv : K = 5 ∨ K = 329 := hC.1
  by_cases hp : ac_isP κ p
  · have n6 := h.2.2.2.1.2.1.2
    have wb := ac_won_b (p := p) h.2.2.2.1
    obtain ⟨s0, s1, s2, s3, s4, p6, p8, -, -⟩ := g.kit hC.1
    have gP := g.pers hC.1 hp.1 (by omega)
    obtain ⟨e1, e2, e3, e4, e5, e6, e7, e8, e9, e10⟩ := hC.2.2.2.2.1 p hp.1 hp.2
    have e7 : ab_rd σ (K + 20 + p) 7 = ac_won κ p := e7
    have e8 : ab_rd σ (K + 20 + p) 8 = ac_lost κ p := e8
    have gP1 := gP.1
    have gP2 := gP.2
    have hk : ac_KK κ := by
      rcases h.2.2.2.2 with q | q
      · have := hK q; have := hp.1; have := hp.2; omega
      · exact q
    by_cases h27 : κ 27 p = -1
    · have eT : ac_tbT κ p = 6 := by unfold ac_tbT; rw [if_pos hp, if_pos h27]
      rw [eT, if_neg (by decide)] at hQ
      have hq' := hQ _ ac_cq8.1 ac_cq8.2
      simp (disch := omega) only [do_X11_thumbs, rX11_thumbs_0, rX11_thumbs_1, rX11_thumbs_2, rX11_thumbs_3, rX11_thumbs_6, rX11_thumbs_9, rX11_thumbs_10, rX11_thumbs_13, rX11_thumbs_14, rX11_thumbs_17, rX11_thumbs_20, rX11_thumbs_21, rX11_thumbs_22, rX11_thumbs_25, rX11_thumbs_26, rX11_thumbs_29, rX11_thumbs_31, rX11_thumbs_34, rX11_thumbs_35, rX11_thumbs_38, rX11_thumbs_39, rX11_thumbs_42, rX11_thumbs_45, rX11_thumbs_48, gS_1, g, c, if_pos hp, h7, s0, s2, p8, gP1, gP2, e9, ne_eq, not_false_eq_true, not_true_eq_false, true_and, and_true, and_self, true_imp_iff, false_imp_iff, imp_self, Bool.not_false, Bool.not_true, reduceCtorEq, ab_isJ, ab_psh, ab_cats, Bool.false_eq_true, if_true, if_false, ab_shf, ab_shw, Int.le_refl, Classical.not_not, Int.zero_add, forall_const, ↓ab_itT, ↓ab_itF, ab_anT, ab_w32_id, ab_rdf_ne, ab_rdw_ne, ab_rdw_eq, ab_rdf_in, ab_td2, ab_tm2]
      all_goals exact hq'
    · have eT : ac_tbT κ p = 0 := by unfold ac_tbT; rw [if_pos hp, if_neg h27]
      rw [eT, if_pos rfl] at hQ
      have hq' := hQ _ ac_cq8.1 ac_cq8.2
      have e10' := e10 h27
      have e101 := e10'.1
      have e102 := e10'.2
      have bp := (hk.2.2.1.2.1 p hp.1 hp.2).2.2.2.2.2.2.resolve_left h27
      have wl := ac_won_lost (p := p) h.2.2.2.1 hW
      have k1 := ac_lk_b (t := κ 28 p) (w := ac_won κ p) (l := ac_lost κ p) bp.2.1 wb.1.1 wb.2.1 wl
      have k2 := ac_lk_b (t := κ 29 p) (w := ac_won κ p) (l := ac_lost κ p) bp.2.2 wb.1.1 wb.2.1 wl
      have tb := ac_tb_b bp.1 k1 k2
      have c2 := fun t ht Q' => sp_like (X := X) (σ := ab_wr σ 1 8 0) (Q := Q') (t := t) (P := K + 20 + p) (won := ac_won κ p) (lost := ac_lost κ p) gP1 (by omega) (by rw [ab_rdw_ne (by omega), e7]) (by rw [ab_rdw_ne (by omega), e8]) ht wb.1 wb.2
      have c3 := c2 (κ 28 p) (by omega)
      have c4 := c2 (κ 29 p) (by omega)
      have c5 := fun Q' => sp_part (X := X) (σ := ab_wr σ 1 8 0) (Q := Q') (up := κ 27 p * ac_lk (κ 28 p) (ac_won κ p) (ac_lost κ p)) (low := κ 27 p * ac_lk (κ 28 p) (ac_won κ p) (ac_lost κ p) + (100 - κ 27 p) * ac_lk (κ 29 p) (ac_won κ p) (ac_lost κ p)) (lo := lo) (by omega) (by omega) hlo
      clear c2
      simp (disch := omega) only [do_X11_thumbs, rX11_thumbs_0, rX11_thumbs_1, rX11_thumbs_2, rX11_thumbs_3, rX11_thumbs_6, rX11_thumbs_9, rX11_thumbs_10, rX11_thumbs_13, rX11_thumbs_14, rX11_thumbs_17, rX11_thumbs_20, rX11_thumbs_21, rX11_thumbs_22, rX11_thumbs_25, rX11_thumbs_26, rX11_thumbs_29, rX11_thumbs_31, rX11_thumbs_34, rX11_thumbs_35, rX11_thumbs_38, rX11_thumbs_39, rX11_thumbs_42, rX11_thumbs_45, rX11_thumbs_48, rX11_thumbs_49, rX11_thumbs_50, rX11_thumbs_53, rX11_thumbs_56, rX11_thumbs_57, rX11_thumbs_58, rX11_thumbs_59, rX11_thumbs_60, rX11_thumbs_63, rX11_thumbs_64, rX11_thumbs_65, rX11_thumbs_68, rX11_thumbs_69, rX11_thumbs_72, rX11_thumbs_73, rX11_thumbs_75, rX11_thumbs_77, rX11_thumbs_78, rX11_thumbs_81, rX11_thumbs_82, rX11_thumbs_83, rX11_thumbs_84, rX11_thumbs_87, rX11_thumbs_88, rX11_thumbs_91, rX11_thumbs_92, rX11_thumbs_94, rX11_thumbs_96, rX11_thumbs_98, rX11_thumbs_100, rX11_thumbs_101, rX11_thumbs_102, rX11_thumbs_105, gS_1, g, c, if_pos hp, h7, s0, s2, p8, gP1, gP2, e9, e101, e102, c3, c4, c5, ne_eq, not_false_eq_true, not_true_eq_false, true_and, and_true, and_self, true_imp_iff, false_imp_iff, imp_self, Bool.not_false, Bool.not_true, reduceCtorEq, ab_isJ, ab_psh, ab_cats, Bool.false_eq_true, if_true, if_false, ab_shf, ab_shw, Int.le_refl, Classical.not_not, Int.zero_add, forall_const, ↓ab_itT, ↓ab_itF, ab_anT, ab_w32_id, ab_rdf_ne, ab_rdw_ne, ab_rdw_eq, ab_rdf_in, ab_td2, ab_tm2, ab_w64_id]
      all_goals exact hq'
  · have eT : ac_tbT κ p = 1 := by unfold ac_tbT; rw [if_neg hp]
    rw [eT, if_neg (by decide)] at hQ
    have hq' := hQ _ ac_cq8.1 ac_cq8.2
    simp (disch := omega) only [do_X11_thumbs, rX11_thumbs_0, rX11_thumbs_1, rX11_thumbs_2, rX11_thumbs_3, rX11_thumbs_6, rX11_thumbs_9, rX11_thumbs_10, rX11_thumbs_13, rX11_thumbs_14, rX11_thumbs_17, rX11_thumbs_20, rX11_thumbs_21, rX11_thumbs_22, rX11_thumbs_25, rX11_thumbs_26, rX11_thumbs_29, rX11_thumbs_31, rX11_thumbs_34, rX11_thumbs_35, rX11_thumbs_38, rX11_thumbs_39, rX11_thumbs_42, rX11_thumbs_45, rX11_thumbs_48, gS_1, g, c, if_neg hp, ne_eq, not_false_eq_true, not_true_eq_false, true_and, and_true, and_self, true_imp_iff, false_imp_iff, imp_self, Bool.not_false, Bool.not_true, reduceCtorEq, ab_isJ, ab_psh, ab_cats, Bool.false_eq_true, if_true, if_false, ab_shf, ab_shw, Int.le_refl, Classical.not_not, Int.zero_add, forall_const, ↓ab_itT, ↓ab_itF, ab_anT, ab_w32_id, ab_rdf_ne, ab_rdw_ne, ab_rdw_eq, ab_rdf_in, ab_td2, ab_tm2]
    all_goals exact hq'
end
