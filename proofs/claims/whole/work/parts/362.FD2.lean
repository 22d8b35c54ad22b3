/-! FEED of the reference; SIZE, both sides; TROUBLE, FAULT, WHERE -/
def ac_PFd : Int → Int → Prop := fun a f => a = 356 ∨ (a = 355 ∧ (f = 0 ∨ f = 6))
theorem ac_PFd_T : ab_ptL.getD 356 [] = [] ∧ ab_pt 355 0 = 0 ∧ ab_pt 355 6 = 0 := by decide +kernel
theorem ac_PFd_pt : ∀ a f, 0 ≤ a → a ≤ 368 → 0 ≤ f → ac_PFd a f → ab_pt a f = 0 := by
  intro a f h1 h2 h3 hp
  rcases hp with rfl | ⟨rfl, rfl | rfl⟩
  · exact ab_pt_nil ac_PFd_T.1
  · exact ac_PFd_T.2.1
  · exact ac_PFd_T.2.2
section
variable {X : ab_X} {σ τ υ : ab_S} {Q : Option ab_V → ab_S → Prop} {K M ln x x1 x2 x3 x4 x5 n i : Int} {tp g : Int → Int} {κ : ac_K} {l7 : ab_V}
theorem ac_fdS (hi : 0 ≤ i) : ab_wr (ab_wr (ab_wr (ab_fo σ 356 ln i g) 355 6 (ln + i)) 356 (ln + i) (g i)) 355 6 (ln + i + 1) = ab_wr (ab_fo σ 356 ln (i + 1) g) 355 6 (ln + (i + 1)) := ab_sext rfl (fun _ => rfl) (fun a f => by
  rw [ab_rdw, ab_rdw, ab_rdw, ab_rdw, ab_rdo, ab_rdo]
  by_cases z : a = 355 ∧ f = 6
  · rw [if_pos z, if_pos z]; omega
  · rw [if_neg z, if_neg z]
    by_cases z2 : a = 356 ∧ f = ln + i
    · obtain ⟨rfl, rfl⟩ := z2
      rw [if_pos ⟨rfl, rfl⟩, if_pos (c := (356 : Int) = 356 ∧ ln ≤ ln + i ∧ ln + i < ln + (i + 1)) ⟨rfl, by omega, by omega⟩, show ln + i - ln = i by omega, if_neg z]
    · rw [if_neg z2, if_neg z]
      by_cases z3 : a = 356 ∧ ln ≤ f ∧ f < ln + i
      · rw [if_pos z3, if_pos (by omega)]
      · rw [if_neg z3, if_neg (by omega)])
theorem ma_feed_l (hg : ab_Geo σ) (hl : 0 ≤ ln ∧ ln + 20 ≤ 1000) : ∀ (d : Nat) (i : Int) (l7 : ab_V), 0 ≤ i → i + d = 20 → (ab_Run X 197 23 (0, 0, 0) [ab_R 355, ab_I x1, ab_I x2, ab_I x3, ab_I x4, ab_I x5, ab_I i, l7] [] (ab_wr (ab_fo σ 356 ln i (ac_fg x1 x2 x3 x4 x5)) 355 6 (ln + i)) Q ↔ Q (some (ab_I (ln + 20))) (ab_wr (ab_fo σ 356 ln 20 (ac_fg x1 x2 x3 x4 x5)) 355 6 (ln + 20))) := by
  have hz := gS_356 hg
  intro d
  induction d with
  | zero =>
    intro i l7 hi hd
    obtain rfl : i = 20 := by omega
    rw [rX13_feed_23]
    simp (disch := omega) only [rX13_feed_25, rX13_feed_27, rX13_feed_117, rX13_feed_118, rX13_feed_121, gS_355, hg, ab_sho, ab_rdo_ne, ne_eq, not_false_eq_true, not_true_eq_false, true_and, and_true, and_self, true_imp_iff, false_imp_iff, imp_self, Bool.not_false, Bool.not_true, reduceCtorEq, ab_isJ, ab_psh, ab_cats, Bool.false_eq_true, if_true, if_false, ab_shf, ab_shw, Int.le_refl, Classical.not_not, Int.zero_add, forall_const, ↓ab_itT, ↓ab_itF, ab_anT, ab_w32_id, ab_rdf_ne, ab_rdw_ne, ab_rdw_eq, ab_rdf_in, ab_td2, ab_tm2]
  | succ d ih =>
    intro i l7 hi hd
    have key := ih (i + 1) (ab_I (ac_fx x1 x2 x3 x4 x5 i)) (by omega) (by omega)
    have ef : ac_by (ac_fx x1 x2 x3 x4 x5 i) (24 - 8 * (i % 4)) = ac_fg x1 x2 x3 x4 x5 i := rfl
    rw [← ac_fdS hi] at key
    rw [rX13_feed_23, ← key]
    rw [← ef]
    unfold ac_fx
    clear ih key ef
    by_cases z1 : i < 4
    · rw [if_pos z1]
      simp (disch := first | omega | (simp only [ab_shw, ab_sho, hz, true_and, and_true, or_true, true_or, and_self]; omega)) only [rX13_feed_25, rX13_feed_27, rX13_feed_30, rX13_feed_32, rX13_feed_33, rX13_feed_36, rX13_feed_37, rX13_feed_40, rX13_feed_42, rX13_feed_44, rX13_feed_47, rX13_feed_48, rX13_feed_51, rX13_feed_53, rX13_feed_55, rX13_feed_58, rX13_feed_59, rX13_feed_62, rX13_feed_64, rX13_feed_66, rX13_feed_69, rX13_feed_71, rX13_feed_74, rX13_feed_76, rX13_feed_78, rX13_feed_79, rX13_feed_82, rX13_feed_83, rX13_feed_86, rX13_feed_88, rX13_feed_90, rX13_feed_92, rX13_feed_94, rX13_feed_95, rX13_feed_96, rX13_feed_97, rX13_feed_98, rX13_feed_99, rX13_feed_100B, rX13_feed_100Z, rX13_feed_101, rX13_feed_102I, rX13_feed_102R, rX13_feed_103, rX13_feed_106, rX13_feed_107, rX13_feed_108, rX13_feed_111, rX13_feed_114, rX13_feed_100B, gS_355, gP_355_5, hg, ab_sho, ab_rdo_ne, ab_tm2, ac_by2, ac_by8, ab_w32_id, ne_eq, not_false_eq_true, not_true_eq_false, true_and, and_true, and_self, true_imp_iff, false_imp_iff, imp_self, Bool.not_false, Bool.not_true, reduceCtorEq, ab_isJ, ab_psh, ab_cats, Bool.false_eq_true, if_true, if_false, ab_shf, ab_shw, Int.le_refl, Classical.not_not, Int.zero_add, forall_const, ↓ab_itT, ↓ab_itF, ab_anT, ab_w32_id, ab_rdf_ne, ab_rdw_ne, ab_rdw_eq, ab_rdf_in, ab_td2, ab_tm2]
    · rw [if_neg z1]
      by_cases z2 : i < 8
      · rw [if_pos z2]
        simp (disch := first | omega | (simp only [ab_shw, ab_sho, hz, true_and, and_true, or_true, true_or, and_self]; omega)) only [rX13_feed_25, rX13_feed_27, rX13_feed_30, rX13_feed_32, rX13_feed_33, rX13_feed_36, rX13_feed_37, rX13_feed_40, rX13_feed_42, rX13_feed_44, rX13_feed_47, rX13_feed_48, rX13_feed_51, rX13_feed_53, rX13_feed_55, rX13_feed_58, rX13_feed_59, rX13_feed_62, rX13_feed_64, rX13_feed_66, rX13_feed_69, rX13_feed_71, rX13_feed_74, rX13_feed_76, rX13_feed_78, rX13_feed_79, rX13_feed_82, rX13_feed_83, rX13_feed_86, rX13_feed_88, rX13_feed_90, rX13_feed_92, rX13_feed_94, rX13_feed_95, rX13_feed_96, rX13_feed_97, rX13_feed_98, rX13_feed_99, rX13_feed_100B, rX13_feed_100Z, rX13_feed_101, rX13_feed_102I, rX13_feed_102R, rX13_feed_103, rX13_feed_106, rX13_feed_107, rX13_feed_108, rX13_feed_111, rX13_feed_114, rX13_feed_100B, gS_355, gP_355_5, hg, ab_sho, ab_rdo_ne, ab_tm2, ac_by2, ac_by8, ab_w32_id, ne_eq, not_false_eq_true, not_true_eq_false, true_and, and_true, and_self, true_imp_iff, false_imp_iff, imp_self, Bool.not_false, Bool.not_true, reduceCtorEq, ab_isJ, ab_psh, ab_cats, Bool.false_eq_true, if_true, if_false, ab_shf, ab_shw, Int.le_refl, Classical.not_not, Int.zero_add, forall_const, ↓ab_itT, ↓ab_itF, ab_anT, ab_w32_id, ab_rdf_ne, ab_rdw_ne, ab_rdw_eq, ab_rdf_in, ab_td2, ab_tm2]
      · rw [if_neg z2]
        by_cases z3 : i < 12
        · rw [if_pos z3]
          simp (disch := first | omega | (simp only [ab_shw, ab_sho, hz, true_and, and_true, or_true, true_or, and_self]; omega)) only [rX13_feed_25, rX13_feed_27, rX13_feed_30, rX13_feed_32, rX13_feed_33, rX13_feed_36, rX13_feed_37, rX13_feed_40, rX13_feed_42, rX13_feed_44, rX13_feed_47, rX13_feed_48, rX13_feed_51, rX13_feed_53, rX13_feed_55, rX13_feed_58, rX13_feed_59, rX13_feed_62, rX13_feed_64, rX13_feed_66, rX13_feed_69, rX13_feed_71, rX13_feed_74, rX13_feed_76, rX13_feed_78, rX13_feed_79, rX13_feed_82, rX13_feed_83, rX13_feed_86, rX13_feed_88, rX13_feed_90, rX13_feed_92, rX13_feed_94, rX13_feed_95, rX13_feed_96, rX13_feed_97, rX13_feed_98, rX13_feed_99, rX13_feed_100B, rX13_feed_100Z, rX13_feed_101, rX13_feed_102I, rX13_feed_102R, rX13_feed_103, rX13_feed_106, rX13_feed_107, rX13_feed_108, rX13_feed_111, rX13_feed_114, rX13_feed_100B, gS_355, gP_355_5, hg, ab_sho, ab_rdo_ne, ab_tm2, ac_by2, ac_by8, ab_w32_id, ne_eq, not_false_eq_true, not_true_eq_false, true_and, and_true, and_self, true_imp_iff, false_imp_iff, imp_self, Bool.not_false, Bool.not_true, reduceCtorEq, ab_isJ, ab_psh, ab_cats, Bool.false_eq_true, if_true, if_false, ab_shf, ab_shw, Int.le_refl, Classical.not_not, Int.zero_add, forall_const, ↓ab_itT, ↓ab_itF, ab_anT, ab_w32_id, ab_rdf_ne, ab_rdw_ne, ab_rdw_eq, ab_rdf_in, ab_td2, ab_tm2]
        · rw [if_neg z3]
          by_cases z4 : i < 16
          · rw [if_pos z4]
            simp (disch := first | omega | (simp only [ab_shw, ab_sho, hz, true_and, and_true, or_true, true_or, and_self]; omega)) only [rX13_feed_25, rX13_feed_27, rX13_feed_30, rX13_feed_32, rX13_feed_33, rX13_feed_36, rX13_feed_37, rX13_feed_40, rX13_feed_42, rX13_feed_44, rX13_feed_47, rX13_feed_48, rX13_feed_51, rX13_feed_53, rX13_feed_55, rX13_feed_58, rX13_feed_59, rX13_feed_62, rX13_feed_64, rX13_feed_66, rX13_feed_69, rX13_feed_71, rX13_feed_74, rX13_feed_76, rX13_feed_78, rX13_feed_79, rX13_feed_82, rX13_feed_83, rX13_feed_86, rX13_feed_88, rX13_feed_90, rX13_feed_92, rX13_feed_94, rX13_feed_95, rX13_feed_96, rX13_feed_97, rX13_feed_98, rX13_feed_99, rX13_feed_100B, rX13_feed_100Z, rX13_feed_101, rX13_feed_102I, rX13_feed_102R, rX13_feed_103, rX13_feed_106, rX13_feed_107, rX13_feed_108, rX13_feed_111, rX13_feed_114, rX13_feed_100B, gS_355, gP_355_5, hg, ab_sho, ab_rdo_ne, ab_tm2, ac_by2, ac_by8, ab_w32_id, ne_eq, not_false_eq_true, not_true_eq_false, true_and, and_true, and_self, true_imp_iff, false_imp_iff, imp_self, Bool.not_false, Bool.not_true, reduceCtorEq, ab_isJ, ab_psh, ab_cats, Bool.false_eq_true, if_true, if_false, ab_shf, ab_shw, Int.le_refl, Classical.not_not, Int.zero_add, forall_const, ↓ab_itT, ↓ab_itF, ab_anT, ab_w32_id, ab_rdf_ne, ab_rdw_ne, ab_rdw_eq, ab_rdf_in, ab_td2, ab_tm2]
          · rw [if_neg z4]
            simp (disch := first | omega | (simp only [ab_shw, ab_sho, hz, true_and, and_true, or_true, true_or, and_self]; omega)) only [rX13_feed_25, rX13_feed_27, rX13_feed_30, rX13_feed_32, rX13_feed_33, rX13_feed_36, rX13_feed_37, rX13_feed_40, rX13_feed_42, rX13_feed_44, rX13_feed_47, rX13_feed_48, rX13_feed_51, rX13_feed_53, rX13_feed_55, rX13_feed_58, rX13_feed_59, rX13_feed_62, rX13_feed_64, rX13_feed_66, rX13_feed_69, rX13_feed_71, rX13_feed_74, rX13_feed_76, rX13_feed_78, rX13_feed_79, rX13_feed_82, rX13_feed_83, rX13_feed_86, rX13_feed_88, rX13_feed_90, rX13_feed_92, rX13_feed_94, rX13_feed_95, rX13_feed_96, rX13_feed_97, rX13_feed_98, rX13_feed_99, rX13_feed_100B, rX13_feed_100Z, rX13_feed_101, rX13_feed_102I, rX13_feed_102R, rX13_feed_103, rX13_feed_106, rX13_feed_107, rX13_feed_108, rX13_feed_111, rX13_feed_114, rX13_feed_100B, gS_355, gP_355_5, hg, ab_sho, ab_rdo_ne, ab_tm2, ac_by2, ac_by8, ab_w32_id, ne_eq, not_false_eq_true, not_true_eq_false, true_and, and_true, and_self, true_imp_iff, false_imp_iff, imp_self, Bool.not_false, Bool.not_true, reduceCtorEq, ab_isJ, ab_psh, ab_cats, Bool.false_eq_true, if_true, if_false, ab_shf, ab_shw, Int.le_refl, Classical.not_not, Int.zero_add, forall_const, ↓ab_itT, ↓ab_itF, ab_anT, ab_w32_id, ab_rdf_ne, ab_rdw_ne, ab_rdw_eq, ab_rdf_in, ab_td2, ab_tm2]
theorem ma_feed (hg : ab_Geo σ) (hT : ac_TM σ ln tp) (hQ1 : ¬ ln + 20 ≤ 1000 → Q (some (ab_I (-1))) (ab_wr σ 355 0 0)) (hQ0 : ln + 20 ≤ 1000 → ∀ τ, ab_Same ac_PFd σ τ → ac_TM τ (ln + 20) (ac_ftp tp ln x1 x2 x3 x4 x5) → Q (some (ab_I (ln + 20))) τ) : ab_Do X 197 [ab_R 355, ab_I x1, ab_I x2, ab_I x3, ab_I x4, ab_I x5] σ Q := by
  obtain ⟨h1, h2, h3⟩ := hT
  have g : ab_Geo (ab_wr σ 355 0 0) := hg.same (ab_Same.refl.wr (P := ac_PFd) (Or.inr ⟨rfl, Or.inl rfl⟩)) ac_PFd_pt
  by_cases z : ln + 20 ≤ 1000
  · have s1 : ab_Same ac_PFd σ (ab_wr σ 355 0 0) := ab_Same.refl.wr (Or.inr ⟨rfl, Or.inl rfl⟩)
    have s2 : ab_Same ac_PFd σ (ab_wr (ab_fo (ab_wr σ 355 0 0) 356 ln 20 (ac_fg x1 x2 x3 x4 x5)) 355 6 (ln + 20)) := (s1.fo (fun _ _ _ => Or.inl rfl)).wr (Or.inr ⟨rfl, Or.inr rfl⟩)
    have L := ma_feed_l (X := X) (Q := Q) (x1 := x1) (x2 := x2) (x3 := x3) (x4 := x4) (x5 := x5) g ⟨h2.1, z⟩ 20 0 (ab_R 0) (by omega) (by omega)
    have e0 : ab_wr (ab_fo (ab_wr σ 355 0 0) 356 ln 0 (ac_fg x1 x2 x3 x4 x5)) 355 6 (ln + 0) = ab_wr σ 355 0 0 := ab_sext rfl (fun _ => rfl) (fun a f => by
      rw [ab_fo0, ab_rdw]
      by_cases y : a = 355 ∧ f = 6
      · rw [if_pos y, y.1, y.2, ab_rdw_ne (by omega), h1]; omega
      · rw [if_neg y])
    rw [e0] at L
    have key := L.mpr (hQ0 z _ s2 ⟨ab_rdw_eq, by omega, fun i i1 i2 => by
      unfold ac_ftp
      rw [ab_rdw_ne (by omega), ab_rdo]
      by_cases y : ln ≤ i
      · rw [if_pos (by omega), if_pos (by omega)]
      · rw [if_neg (by omega), if_neg (by omega), ab_rdw_ne (by omega), h3 i i1 (by omega)]⟩)
    clear hQ0 hQ1 L e0 s1 s2 h3
    simp (disch := omega) only [do_X13_feed, rX13_feed_0, rX13_feed_1, rX13_feed_2, rX13_feed_5, rX13_feed_6, rX13_feed_9, rX13_feed_11, rX13_feed_12, rX13_feed_15, rX13_feed_18, rX13_feed_19, rX13_feed_20, rX13_feed_21, gS_355, hg, h1, ab_w32_id, ne_eq, not_false_eq_true, not_true_eq_false, true_and, and_true, and_self, true_imp_iff, false_imp_iff, imp_self, Bool.not_false, Bool.not_true, reduceCtorEq, ab_isJ, ab_psh, ab_cats, Bool.false_eq_true, if_true, if_false, ab_shf, ab_shw, Int.le_refl, Classical.not_not, Int.zero_add, forall_const, ↓ab_itT, ↓ab_itF, ab_anT, ab_w32_id, ab_rdf_ne, ab_rdw_ne, ab_rdw_eq, ab_rdf_in, ab_td2, ab_tm2]
    all_goals exact key
  · have key := hQ1 z
    clear hQ0 hQ1 h3
    simp (disch := omega) only [do_X13_feed, rX13_feed_0, rX13_feed_1, rX13_feed_2, rX13_feed_5, rX13_feed_6, rX13_feed_9, rX13_feed_11, rX13_feed_12, rX13_feed_15, rX13_feed_18, rX13_feed_19, gS_355, hg, h1, ab_w32_id, ne_eq, not_false_eq_true, not_true_eq_false, true_and, and_true, and_self, true_imp_iff, false_imp_iff, imp_self, Bool.not_false, Bool.not_true, reduceCtorEq, ab_isJ, ab_psh, ab_cats, Bool.false_eq_true, if_true, if_false, ab_shf, ab_shw, Int.le_refl, Classical.not_not, Int.zero_add, forall_const, ↓ab_itT, ↓ab_itF, ab_anT, ab_w32_id, ab_rdf_ne, ab_rdw_ne, ab_rdw_eq, ab_rdf_in, ab_td2, ab_tm2]
    all_goals exact key
end
