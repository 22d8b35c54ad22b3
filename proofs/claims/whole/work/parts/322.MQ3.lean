theorem ac_W_gt {stn br : Int → Int} {n : Int} (hn : 0 ≤ n) : ac_W stn br n = -1 ∨ (0 ≤ ac_W stn br n ∧ ac_W stn br n < n ∧ br (ac_W stn br n) < stn (ac_W stn br n)) := by
  have := ab_it_inv (f := ac_fw stn br) (fun j w => w = -1 ∨ (0 ≤ w ∧ w < j ∧ br w < stn w)) n.toNat 0 (-1) (fun j w h1 h2 hw => by
    unfold ac_fw
    split
    · rename_i hc; exact Or.inr ⟨h1, by omega, hc.1⟩
    · rcases hw with hw | hw
      · exact Or.inl hw
      · exact Or.inr ⟨hw.1, by omega, hw.2.2⟩) (Or.inl rfl)
  unfold ac_W
  rw [Int.toNat_of_nonneg hn, Int.zero_add] at this
  exact this
section
variable {X : ab_X} {σ τ : ab_S} {Q : Option ab_V → ab_S → Prop} {M : Int} {κ : ac_K} {v : Int → Int} {kd d b p hp q hq mv fa ft arm k : Int}
def ac_cs (σ : ab_S) (cc w0 w1 : Int) : ab_S := if cc = 0 then ab_wr (ab_wr (ab_wr σ 355 25 (-1)) 355 25 1) 355 26 w1 else if cc = 1 then ab_wr (ab_wr (ab_wr σ 355 25 (-1)) 355 25 0) 355 26 w0 else ab_wr σ 355 25 (-1)
def ac_PB : Int → Int → Prop := fun a f => a = 355 ∧ 23 ≤ f ∧ f ≤ 26
theorem ac_PB_PM {a f : Int} (h : ac_PB a f) : ac_PM a f := by unfold ac_PB at h; unfold ac_PM; omega
theorem ac_cs_same {cc w0 w1 : Int} : ab_Same ac_PB σ (ac_cs σ cc w0 w1) := by
  unfold ac_cs
  split
  · exact ((ab_Same.refl.wr (by unfold ac_PB; omega)).wr (by unfold ac_PB; omega)).wr (by unfold ac_PB; omega)
  · split
    · exact ((ab_Same.refl.wr (by unfold ac_PB; omega)).wr (by unfold ac_PB; omega)).wr (by unfold ac_PB; omega)
    · exact ab_Same.refl.wr (by unfold ac_PB; omega)
theorem ac_cs_fa {cc w0 w1 f : Int} (h : f ≤ 24) : ab_rd (ac_cs σ cc w0 w1) 355 f = ab_rd σ 355 f := by
  unfold ac_cs
  split
  · rw [ab_rdw_ne (by omega), ab_rdw_ne (by omega), ab_rdw_ne (by omega)]
  · split
    · rw [ab_rdw_ne (by omega), ab_rdw_ne (by omega), ab_rdw_ne (by omega)]
    · rw [ab_rdw_ne (by omega)]
theorem ac_ML.same {P : Int → Int → Prop} (h : ac_ML σ κ d b p hp q hq mv) (hs : ab_Same P σ τ) (hp' : ∀ a f, P a f → a = 355 ∧ (f ≤ 20 ∨ 23 ≤ f)) : ac_ML τ κ d b p hp q hq mv := by
  have e : ∀ a f, a ≠ 355 ∨ f = 21 ∨ f = 22 → ab_rd τ a f = ab_rd σ a f := fun a f w => hs.2.2 a f (fun u => by have := hp' a f u; omega)
  unfold ac_ML at h ⊢
  rw [e _ _ (by omega), e _ _ (by omega), e _ _ (by omega), e _ _ (by omega), e _ _ (by omega), e _ _ (by omega), e _ _ (by omega), e _ _ (by omega)]
  exact h
theorem mq_comes (h : ac_MI σ M κ) (hL : ac_ML σ κ d b p hp q hq mv) (hB : ac_MB κ d b p hp q hq) (hfa : ab_rd σ 355 23 = fa) (hft : ab_rd σ 355 24 = ft) (hkd : ab_rd σ 357 b = kd) : ab_Do X 208 [ab_R 355] σ Q ↔ Q (some (ab_I (ac_C κ kd d b p hp q hq mv (ac_row fa ft 0) (ac_row fa ft 1)))) (ac_cs σ (ac_C κ kd d b p hp q hq mv (ac_row fa ft 0) (ac_row fa ft 1)) (ac_W (ac_N κ p q hp p (ac_m0 mv)) (ac_brs (ac_S κ d b 0 p) (ac_row fa ft 0)) (ac_n κ b 0)) (ac_W (ac_N κ p q hq q (ac_m1 mv)) (ac_brs (ac_S κ d b 1 q) (ac_row fa ft 1)) (ac_n κ b 1))) := by
  have hs1 : ab_Same ac_PB σ (ab_wr σ 355 25 (-1)) := ab_Same.refl.wr (by unfold ac_PB; omega)
  have h' := h.same (hs1.mono (fun _ _ => ac_PB_PM))
  have hL' := hL.same hs1 (fun a f u => by unfold ac_PB at u; omega)
  have fa' : ab_rd (ab_wr σ 355 25 (-1)) 355 23 = fa := by rw [ab_rdw_ne (by omega), hfa]
  have ft' : ab_rd (ab_wr σ 355 25 (-1)) 355 24 = ft := by rw [ab_rdw_ne (by omega), hft]
  have c0 := fun Q' => mq_worst (X := X) (Q := Q') (arm := 0) h' hL' hB fa' ft' (Or.inl rfl)
  have c1 := fun Q' => mq_worst (X := X) (Q := Q') (arm := 1) h' hL' hB fa' ft' (Or.inr rfl)
  have n0 := ac_n_b h.2.2.2.2 hB.1 (Or.inl rfl)
  have n1 := ac_n_b h.2.2.2.2 hB.1 (Or.inr rfl)
  have W0 := ac_W_gt (stn := ac_NA κ p hp q hq mv 0) (br := ac_brs (ac_SA κ d b p q 0) (ac_row fa ft 0)) (n := ac_n κ b 0) (by omega)
  have W1 := ac_W_gt (stn := ac_NA κ p hp q hq mv 1) (br := ac_brs (ac_SA κ d b p q 1) (ac_row fa ft 1)) (n := ac_n κ b 1) (by omega)
  have c2 := fun i j hi hj Q' => mq_compares (X := X) (Q := Q') (arm := 0) (o := 1) (k := i) (j := j) h' hL' hB fa' ft' (Or.inl rfl) hi (Or.inr rfl) hj
  have hg := h.1
  have h3 := h.2.1
  have hG := h.2.2.1
  have hM := h.2.2.2.1
  have sM := h.2.2.1.2.1
  have zM := h.2.2.1.1
  have l1 := hL.1
  have l2 := hL.2.1
  have hb := hB.1
  have n5 := h.2.2.2.2.2.1.1.2
  have k0 := kM_0 hM
  have B0 := fun i hi => ac_SA_b (fa := fa) (ft := ft) (arm := 0) (k := i) h.2.2.2.2 hB (Or.inl rfl) hi
  have B1 := fun i hi => ac_SA_b (fa := fa) (ft := ft) (arm := 1) (k := i) h.2.2.2.2 hB (Or.inr rfl) hi
  have eC : ac_C κ kd d b p hp q hq mv (ac_row fa ft 0) (ac_row fa ft 1) = ac_cp (ac_lp κ kd d) (ac_W (ac_NA κ p hp q hq mv 0) (ac_brs (ac_SA κ d b p q 0) (ac_row fa ft 0)) (ac_n κ b 0)) (ac_lod (ac_NA κ p hp q hq mv 0) (ac_W (ac_NA κ p hp q hq mv 0) (ac_brs (ac_SA κ d b p q 0) (ac_row fa ft 0)) (ac_n κ b 0))) (ac_lm (ac_brs (ac_SA κ d b p q 0) (ac_row fa ft 0)) (ac_W (ac_NA κ p hp q hq mv 0) (ac_brs (ac_SA κ d b p q 0) (ac_row fa ft 0)) (ac_n κ b 0))) (ac_W (ac_NA κ p hp q hq mv 1) (ac_brs (ac_SA κ d b p q 1) (ac_row fa ft 1)) (ac_n κ b 1)) (ac_lod (ac_NA κ p hp q hq mv 1) (ac_W (ac_NA κ p hp q hq mv 1) (ac_brs (ac_SA κ d b p q 1) (ac_row fa ft 1)) (ac_n κ b 1))) (ac_lm (ac_brs (ac_SA κ d b p q 1) (ac_row fa ft 1)) (ac_W (ac_NA κ p hp q hq mv 1) (ac_brs (ac_SA κ d b p q 1) (ac_row fa ft 1)) (ac_n κ b 1))) := rfl
  have eW0 : ac_W (ac_N κ p q hp p (ac_m0 mv)) (ac_brs (ac_S κ d b 0 p) (ac_row fa ft 0)) (ac_n κ b 0) = ac_W (ac_NA κ p hp q hq mv 0) (ac_brs (ac_SA κ d b p q 0) (ac_row fa ft 0)) (ac_n κ b 0) := rfl
  have eW1 : ac_W (ac_N κ p q hq q (ac_m1 mv)) (ac_brs (ac_S κ d b 1 q) (ac_row fa ft 1)) (ac_n κ b 1) = ac_W (ac_NA κ p hp q hq mv 1) (ac_brs (ac_SA κ d b p q 1) (ac_row fa ft 1)) (ac_n κ b 1) := rfl
  rw [eC, eW0, eW1]
  clear eC eW0 eW1 h' hL' fa' ft' hs1
  generalize ac_W (ac_NA κ p hp q hq mv 0) (ac_brs (ac_SA κ d b p q 0) (ac_row fa ft 0)) (ac_n κ b 0) = w0 at *
  generalize ac_W (ac_NA κ p hp q hq mv 1) (ac_brs (ac_SA κ d b p q 1) (ac_row fa ft 1)) (ac_n κ b 1) = w1 at *
  generalize ac_NA κ p hp q hq mv 0 = s0 at *
  generalize ac_NA κ p hp q hq mv 1 = s1 at *
  generalize ac_brs (ac_SA κ d b p q 0) (ac_row fa ft 0) = b0 at *
  generalize ac_brs (ac_SA κ d b p q 1) (ac_row fa ft 1) = b1 at *
  unfold ac_lp ac_cp
  by_cases z1 : kd = 2 ∨ d < κ 0 0
  · rw [if_pos z1, if_pos (Or.inl (by decide))]
    have : ac_cs σ 3 w0 w1 = ab_wr σ 355 25 (-1) := rfl
    rw [this]
    by_cases z2 : d < κ 0 0
    · simp (disch := omega) only [do_X13_comes, rX13_comes_0, rX13_comes_1, rX13_comes_2, rX13_comes_5, rX13_comes_6, rX13_comes_9, rX13_comes_10, rX13_comes_13, rX13_comes_16, rX13_comes_19, rX13_comes_20, rX13_comes_23, rX13_comes_24, rX13_comes_25, rX13_comes_28, rX13_comes_29, rX13_comes_30, rX13_comes_31, rX13_comes_34, rX13_comes_35, gS_355, gP_355_16, gS_357, hg, sM, h3, l1, l2, hkd, k0, ne_eq, not_false_eq_true, not_true_eq_false, true_and, and_true, and_self, true_imp_iff, false_imp_iff, imp_self, Bool.not_false, Bool.not_true, reduceCtorEq, ab_isJ, ab_psh, ab_cats, Bool.false_eq_true, if_true, if_false, ab_shf, ab_shw, Int.le_refl, Classical.not_not, Int.zero_add, forall_const, ↓ab_itT, ↓ab_itF, ab_anT, ab_w32_id, ab_rdf_ne, ab_rdw_ne, ab_rdw_eq, ab_rdf_in, ab_td2, ab_tm2]
    · simp (disch := omega) only [do_X13_comes, rX13_comes_0, rX13_comes_1, rX13_comes_2, rX13_comes_5, rX13_comes_6, rX13_comes_9, rX13_comes_10, rX13_comes_13, rX13_comes_16, rX13_comes_19, rX13_comes_20, rX13_comes_23, rX13_comes_24, rX13_comes_25, rX13_comes_28, rX13_comes_29, rX13_comes_30, rX13_comes_31, rX13_comes_34, rX13_comes_35, gS_355, gP_355_16, gS_357, hg, sM, h3, l1, l2, hkd, k0, ne_eq, not_false_eq_true, not_true_eq_false, true_and, and_true, and_self, true_imp_iff, false_imp_iff, imp_self, Bool.not_false, Bool.not_true, reduceCtorEq, ab_isJ, ab_psh, ab_cats, Bool.false_eq_true, if_true, if_false, ab_shf, ab_shw, Int.le_refl, Classical.not_not, Int.zero_add, forall_const, ↓ab_itT, ↓ab_itF, ab_anT, ab_w32_id, ab_rdf_ne, ab_rdw_ne, ab_rdw_eq, ab_rdf_in, ab_td2, ab_tm2]
  · rw [if_neg z1]
    by_cases z2 : w0 = -1
    · by_cases z3 : w1 = -1
      · rw [if_pos (Or.inr ⟨z2, z3⟩)]
        have : ac_cs σ 3 w0 w1 = ab_wr σ 355 25 (-1) := rfl
        rw [this]
        simp (disch := omega) only [do_X13_comes, rX13_comes_0, rX13_comes_1, rX13_comes_2, rX13_comes_5, rX13_comes_6, rX13_comes_9, rX13_comes_10, rX13_comes_13, rX13_comes_16, rX13_comes_19, rX13_comes_20, rX13_comes_23, rX13_comes_24, rX13_comes_25, rX13_comes_28, rX13_comes_29, rX13_comes_30, rX13_comes_31, rX13_comes_34, rX13_comes_35, rX13_comes_36, rX13_comes_37, rX13_comes_38, rX13_comes_41, rX13_comes_42, rX13_comes_43, rX13_comes_44, rX13_comes_47, rX13_comes_48, rX13_comes_49, rX13_comes_50, rX13_comes_53, rX13_comes_54, rX13_comes_55, rX13_comes_58, rX13_comes_59, gS_355, gP_355_16, gS_357, hg, sM, h3, l1, l2, hkd, k0, c0, c1, ne_eq, not_false_eq_true, not_true_eq_false, true_and, and_true, and_self, true_imp_iff, false_imp_iff, imp_self, Bool.not_false, Bool.not_true, reduceCtorEq, ab_isJ, ab_psh, ab_cats, Bool.false_eq_true, if_true, if_false, ab_shf, ab_shw, Int.le_refl, Classical.not_not, Int.zero_add, forall_const, ↓ab_itT, ↓ab_itF, ab_anT, ab_w32_id, ab_rdf_ne, ab_rdw_ne, ab_rdw_eq, ab_rdf_in, ab_td2, ab_tm2]
      · rw [if_neg (by omega), if_pos z2]
        have : ac_cs σ 0 w0 w1 = ab_wr (ab_wr (ab_wr σ 355 25 (-1)) 355 25 1) 355 26 w1 := rfl
        rw [this]
        simp (disch := omega) only [do_X13_comes, rX13_comes_0, rX13_comes_1, rX13_comes_2, rX13_comes_5, rX13_comes_6, rX13_comes_9, rX13_comes_10, rX13_comes_13, rX13_comes_16, rX13_comes_19, rX13_comes_20, rX13_comes_23, rX13_comes_24, rX13_comes_25, rX13_comes_28, rX13_comes_29, rX13_comes_30, rX13_comes_31, rX13_comes_34, rX13_comes_35, rX13_comes_36, rX13_comes_37, rX13_comes_38, rX13_comes_41, rX13_comes_42, rX13_comes_43, rX13_comes_44, rX13_comes_47, rX13_comes_48, rX13_comes_49, rX13_comes_50, rX13_comes_53, rX13_comes_54, rX13_comes_55, rX13_comes_58, rX13_comes_59, rX13_comes_60, rX13_comes_61, rX13_comes_62, rX13_comes_65, rX13_comes_68, rX13_comes_71, rX13_comes_72, rX13_comes_73, rX13_comes_76, rX13_comes_77, rX13_comes_80, rX13_comes_81, rX13_comes_82, rX13_comes_83, rX13_comes_84, rX13_comes_85, rX13_comes_88, rX13_comes_89, rX13_comes_90, rX13_comes_91, rX13_comes_92, rX13_comes_95, rX13_comes_96, rX13_comes_97, rX13_comes_98, rX13_comes_99, rX13_comes_100, rX13_comes_101, rX13_comes_104, rX13_comes_105, rX13_comes_108, rX13_comes_109, rX13_comes_112, rX13_comes_113, rX13_comes_114, rX13_comes_115, rX13_comes_116, rX13_comes_119, rX13_comes_120, rX13_comes_123, rX13_comes_124, rX13_comes_127, rX13_comes_128, rX13_comes_129, rX13_comes_130, rX13_comes_133, rX13_comes_134, rX13_comes_137, rX13_comes_138, gS_355, gP_355_16, gS_357, hg, sM, h3, l1, l2, hkd, k0, c0, c1, ne_eq, not_false_eq_true, not_true_eq_false, true_and, and_true, and_self, true_imp_iff, false_imp_iff, imp_self, Bool.not_false, Bool.not_true, reduceCtorEq, ab_isJ, ab_psh, ab_cats, Bool.false_eq_true, if_true, if_false, ab_shf, ab_shw, Int.le_refl, Classical.not_not, Int.zero_add, forall_const, ↓ab_itT, ↓ab_itF, ab_anT, ab_w32_id, ab_rdf_ne, ab_rdw_ne, ab_rdw_eq, ab_rdf_in, ab_td2, ab_tm2, ab_ifT, ab_ifF]
    · have W0' := W0.resolve_left z2
      by_cases z3 : w1 = -1
      · rw [if_neg (by omega), if_neg z2, if_pos z3]
        have : ac_cs σ 1 w0 w1 = ab_wr (ab_wr (ab_wr σ 355 25 (-1)) 355 25 0) 355 26 w0 := rfl
        rw [this]
        simp (disch := omega) only [do_X13_comes, rX13_comes_0, rX13_comes_1, rX13_comes_2, rX13_comes_5, rX13_comes_6, rX13_comes_9, rX13_comes_10, rX13_comes_13, rX13_comes_16, rX13_comes_19, rX13_comes_20, rX13_comes_23, rX13_comes_24, rX13_comes_25, rX13_comes_28, rX13_comes_29, rX13_comes_30, rX13_comes_31, rX13_comes_34, rX13_comes_35, rX13_comes_36, rX13_comes_37, rX13_comes_38, rX13_comes_41, rX13_comes_42, rX13_comes_43, rX13_comes_44, rX13_comes_47, rX13_comes_48, rX13_comes_49, rX13_comes_50, rX13_comes_53, rX13_comes_54, rX13_comes_55, rX13_comes_58, rX13_comes_59, rX13_comes_60, rX13_comes_61, rX13_comes_62, rX13_comes_65, rX13_comes_68, rX13_comes_71, rX13_comes_72, rX13_comes_73, rX13_comes_76, rX13_comes_77, rX13_comes_80, rX13_comes_81, rX13_comes_82, rX13_comes_83, rX13_comes_84, rX13_comes_85, rX13_comes_88, rX13_comes_89, rX13_comes_90, rX13_comes_91, rX13_comes_92, rX13_comes_95, rX13_comes_96, rX13_comes_97, rX13_comes_98, rX13_comes_99, rX13_comes_100, rX13_comes_101, rX13_comes_104, rX13_comes_105, rX13_comes_108, rX13_comes_109, rX13_comes_112, rX13_comes_113, rX13_comes_114, rX13_comes_115, rX13_comes_116, rX13_comes_119, rX13_comes_120, rX13_comes_123, rX13_comes_124, rX13_comes_127, rX13_comes_128, rX13_comes_129, rX13_comes_130, rX13_comes_133, rX13_comes_134, rX13_comes_137, rX13_comes_138, gS_355, gP_355_16, gS_357, hg, sM, h3, l1, l2, hkd, k0, c0, c1, ne_eq, not_false_eq_true, not_true_eq_false, true_and, and_true, and_self, true_imp_iff, false_imp_iff, imp_self, Bool.not_false, Bool.not_true, reduceCtorEq, ab_isJ, ab_psh, ab_cats, Bool.false_eq_true, if_true, if_false, ab_shf, ab_shw, Int.le_refl, Classical.not_not, Int.zero_add, forall_const, ↓ab_itT, ↓ab_itF, ab_anT, ab_w32_id, ab_rdf_ne, ab_rdw_ne, ab_rdw_eq, ab_rdf_in, ab_td2, ab_tm2, ab_ifT, ab_ifF]
      · have W1' := W1.resolve_left z3
        have c2' := fun Q' => c2 w0 w1 ⟨W0'.1, W0'.2.1⟩ ⟨W1'.1, W1'.2.1⟩ Q'
        have P := ac_cmp_pos ⟨(B0 w0 ⟨W0'.1, W0'.2.1⟩).1, W0'.2.2⟩ ⟨(B1 w1 ⟨W1'.1, W1'.2.1⟩).1, W1'.2.2⟩
        rw [if_neg (by omega), if_neg z2, if_neg z3]
        have x1 : ac_lod s0 w0 = s0 w0 := if_neg z2
        have x2 : ac_lod s1 w1 = s1 w1 := if_neg z3
        have x3 : ac_lm b0 w0 = b0 w0 := if_neg z2
        have x4 : ac_lm b1 w1 = b1 w1 := if_neg z3
        rw [x1, x2, x3, x4]
        generalize ac_cmp (b0 w0) (b1 w1) (s0 w0) (s1 w1) = cm at *
        clear c2 W0 W1 B0 B1
        by_cases y1 : s0 w0 * b1 w1 = s1 w1 * b0 w0
        · rw [if_pos y1]
          have : ac_cs σ 2 w0 w1 = ab_wr σ 355 25 (-1) := rfl
          rw [this]
          have y2 : cm = 0 := P.2.mpr y1
          clear P
          simp (disch := omega) only [do_X13_comes, rX13_comes_0, rX13_comes_1, rX13_comes_2, rX13_comes_5, rX13_comes_6, rX13_comes_9, rX13_comes_10, rX13_comes_13, rX13_comes_16, rX13_comes_19, rX13_comes_20, rX13_comes_23, rX13_comes_24, rX13_comes_25, rX13_comes_28, rX13_comes_29, rX13_comes_30, rX13_comes_31, rX13_comes_34, rX13_comes_35, rX13_comes_36, rX13_comes_37, rX13_comes_38, rX13_comes_41, rX13_comes_42, rX13_comes_43, rX13_comes_44, rX13_comes_47, rX13_comes_48, rX13_comes_49, rX13_comes_50, rX13_comes_53, rX13_comes_54, rX13_comes_55, rX13_comes_58, rX13_comes_59, rX13_comes_60, rX13_comes_61, rX13_comes_62, rX13_comes_65, rX13_comes_68, rX13_comes_71, rX13_comes_72, rX13_comes_73, rX13_comes_76, rX13_comes_77, rX13_comes_80, rX13_comes_81, rX13_comes_82, rX13_comes_83, rX13_comes_84, rX13_comes_85, rX13_comes_88, rX13_comes_89, rX13_comes_90, rX13_comes_91, rX13_comes_92, rX13_comes_95, rX13_comes_96, gS_355, gP_355_16, gS_357, hg, sM, h3, l1, l2, hkd, k0, c0, c1, c2', ne_eq, not_false_eq_true, not_true_eq_false, true_and, and_true, and_self, true_imp_iff, false_imp_iff, imp_self, Bool.not_false, Bool.not_true, reduceCtorEq, ab_isJ, ab_psh, ab_cats, Bool.false_eq_true, if_true, if_false, ab_shf, ab_shw, Int.le_refl, Classical.not_not, Int.zero_add, forall_const, ↓ab_itT, ↓ab_itF, ab_anT, ab_w32_id, ab_rdf_ne, ab_rdw_ne, ab_rdw_eq, ab_rdf_in, ab_td2, ab_tm2, ab_ifT, ab_ifF]
        · rw [if_neg y1]
          by_cases y3 : s1 w1 * b0 w0 < s0 w0 * b1 w1
          · rw [if_pos y3]
            have : ac_cs σ 1 w0 w1 = ab_wr (ab_wr (ab_wr σ 355 25 (-1)) 355 25 0) 355 26 w0 := rfl
            rw [this]
            have y2 : 0 < cm := P.1.mpr y3
            clear P
            simp (disch := omega) only [do_X13_comes, rX13_comes_0, rX13_comes_1, rX13_comes_2, rX13_comes_5, rX13_comes_6, rX13_comes_9, rX13_comes_10, rX13_comes_13, rX13_comes_16, rX13_comes_19, rX13_comes_20, rX13_comes_23, rX13_comes_24, rX13_comes_25, rX13_comes_28, rX13_comes_29, rX13_comes_30, rX13_comes_31, rX13_comes_34, rX13_comes_35, rX13_comes_36, rX13_comes_37, rX13_comes_38, rX13_comes_41, rX13_comes_42, rX13_comes_43, rX13_comes_44, rX13_comes_47, rX13_comes_48, rX13_comes_49, rX13_comes_50, rX13_comes_53, rX13_comes_54, rX13_comes_55, rX13_comes_58, rX13_comes_59, rX13_comes_60, rX13_comes_61, rX13_comes_62, rX13_comes_65, rX13_comes_68, rX13_comes_71, rX13_comes_72, rX13_comes_73, rX13_comes_76, rX13_comes_77, rX13_comes_80, rX13_comes_81, rX13_comes_82, rX13_comes_83, rX13_comes_84, rX13_comes_85, rX13_comes_88, rX13_comes_89, rX13_comes_90, rX13_comes_91, rX13_comes_92, rX13_comes_95, rX13_comes_96, rX13_comes_97, rX13_comes_98, rX13_comes_99, rX13_comes_100, rX13_comes_101, rX13_comes_104, rX13_comes_105, rX13_comes_108, rX13_comes_109, rX13_comes_112, rX13_comes_113, rX13_comes_114, rX13_comes_115, rX13_comes_116, rX13_comes_119, rX13_comes_120, rX13_comes_123, rX13_comes_124, rX13_comes_127, rX13_comes_128, rX13_comes_129, rX13_comes_130, rX13_comes_133, rX13_comes_134, rX13_comes_137, rX13_comes_138, gS_355, gP_355_16, gS_357, hg, sM, h3, l1, l2, hkd, k0, c0, c1, c2', ne_eq, not_false_eq_true, not_true_eq_false, true_and, and_true, and_self, true_imp_iff, false_imp_iff, imp_self, Bool.not_false, Bool.not_true, reduceCtorEq, ab_isJ, ab_psh, ab_cats, Bool.false_eq_true, if_true, if_false, ab_shf, ab_shw, Int.le_refl, Classical.not_not, Int.zero_add, forall_const, ↓ab_itT, ↓ab_itF, ab_anT, ab_w32_id, ab_rdf_ne, ab_rdw_ne, ab_rdw_eq, ab_rdf_in, ab_td2, ab_tm2, ab_ifT, ab_ifF]
          · rw [if_neg y3]
            have : ac_cs σ 0 w0 w1 = ab_wr (ab_wr (ab_wr σ 355 25 (-1)) 355 25 1) 355 26 w1 := rfl
            rw [this]
            have y2 : ¬ 0 < cm := fun u => y3 (P.1.mp u)
            have y4 : ¬ cm = 0 := fun u => y1 (P.2.mp u)
            clear P
            simp (disch := omega) only [do_X13_comes, rX13_comes_0, rX13_comes_1, rX13_comes_2, rX13_comes_5, rX13_comes_6, rX13_comes_9, rX13_comes_10, rX13_comes_13, rX13_comes_16, rX13_comes_19, rX13_comes_20, rX13_comes_23, rX13_comes_24, rX13_comes_25, rX13_comes_28, rX13_comes_29, rX13_comes_30, rX13_comes_31, rX13_comes_34, rX13_comes_35, rX13_comes_36, rX13_comes_37, rX13_comes_38, rX13_comes_41, rX13_comes_42, rX13_comes_43, rX13_comes_44, rX13_comes_47, rX13_comes_48, rX13_comes_49, rX13_comes_50, rX13_comes_53, rX13_comes_54, rX13_comes_55, rX13_comes_58, rX13_comes_59, rX13_comes_60, rX13_comes_61, rX13_comes_62, rX13_comes_65, rX13_comes_68, rX13_comes_71, rX13_comes_72, rX13_comes_73, rX13_comes_76, rX13_comes_77, rX13_comes_80, rX13_comes_81, rX13_comes_82, rX13_comes_83, rX13_comes_84, rX13_comes_85, rX13_comes_88, rX13_comes_89, rX13_comes_90, rX13_comes_91, rX13_comes_92, rX13_comes_95, rX13_comes_96, rX13_comes_97, rX13_comes_98, rX13_comes_99, rX13_comes_100, rX13_comes_101, rX13_comes_104, rX13_comes_105, rX13_comes_108, rX13_comes_109, rX13_comes_112, rX13_comes_113, rX13_comes_114, rX13_comes_115, rX13_comes_116, rX13_comes_119, rX13_comes_120, rX13_comes_123, rX13_comes_124, rX13_comes_127, rX13_comes_128, rX13_comes_129, rX13_comes_130, rX13_comes_133, rX13_comes_134, rX13_comes_137, rX13_comes_138, gS_355, gP_355_16, gS_357, hg, sM, h3, l1, l2, hkd, k0, c0, c1, c2', ne_eq, not_false_eq_true, not_true_eq_false, true_and, and_true, and_self, true_imp_iff, false_imp_iff, imp_self, Bool.not_false, Bool.not_true, reduceCtorEq, ab_isJ, ab_psh, ab_cats, Bool.false_eq_true, if_true, if_false, ab_shf, ab_shw, Int.le_refl, Classical.not_not, Int.zero_add, forall_const, ↓ab_itT, ↓ab_itF, ab_anT, ab_w32_id, ab_rdf_ne, ab_rdw_ne, ab_rdw_eq, ab_rdf_in, ab_td2, ab_tm2, ab_ifT, ab_ifF]
end
