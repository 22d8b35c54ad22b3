section
variable {X : ab_X} {σ : ab_S} {Q : Option ab_V → ab_S → Prop} {A : Int}
def ac_w3 (σ : ab_S) (A r w l m : Int) : ab_S := ab_wr (ab_wr (ab_wr σ (A + 3) r w) (A + 4) r l) (A + 5) r m
theorem ac_w3_rd {A r w l m x y : Int} : ab_rd (ac_w3 σ A r w l m) x y = if x = A + 5 ∧ y = r then m else if x = A + 4 ∧ y = r then l else if x = A + 3 ∧ y = r then w else ab_rd σ x y := rfl
theorem ac_w3_w3 {A r w l m w' l' m' : Int} : ac_w3 (ac_w3 σ A r w l m) A r w' l' m' = ac_w3 σ A r w' l' m' := ab_sext rfl (fun _ => rfl) (fun x y => by
  simp only [ac_w3_rd]
  by_cases h1 : x = A + 5 ∧ y = r
  · rw [if_pos h1, if_pos h1]
  · by_cases h2 : x = A + 4 ∧ y = r
    · rw [if_neg h1, if_pos h2, if_neg h1, if_pos h2]
    · by_cases h3 : x = A + 3 ∧ y = r
      · rw [if_neg h1, if_neg h2, if_pos h3, if_neg h1, if_neg h2, if_pos h3]
      · rw [if_neg h1, if_neg h2, if_neg h3, if_neg h1, if_neg h2, if_neg h3, if_neg h1, if_neg h2, if_neg h3])
/-- what a place bears with a flaw in place row - 1 -/
def ac_brs (str : Int → Int) (row : Int) : Int → Int := fun i => if i + 1 = row then str i / 2 else str i
def ac_fw (stn br : Int → Int) (i w : Int) : Int := if br i < stn i ∧ (w = -1 ∨ stn w * br i < stn i * br w) then i else w
def ac_lod (stn : Int → Int) (w : Int) : Int := if w = -1 then 0 else stn w
def ac_lm (br : Int → Int) (w : Int) : Int := if w = -1 then 1 else br w
def ac_W (stn br : Int → Int) (n : Int) : Int := ab_it (ac_fw stn br) n.toNat 0 (-1)
theorem sp_findWorst_l {n row : Int} (hA : ab_ArmG σ A) (hn : ab_rd σ A 0 = n) (hn6 : n ≤ 6) (hr : 0 ≤ row ∧ row ≤ 6) (hb : ∀ i, 0 ≤ i → i < n → (0 ≤ ab_rd σ (A + 1) i ∧ ab_rd σ (A + 1) i ≤ 579) ∧ (0 ≤ ab_rd σ (A + 2) i ∧ ab_rd σ (A + 2) i ≤ 639)) : ∀ (d : Nat) (i w : Int) (l3 : ab_V), 0 ≤ i → i + d = n → (w = -1 ∨ (0 ≤ w ∧ w < i)) → (ab_Run X 3 23 (0, 0, 0) [ab_R A, ab_I row, ab_I i, l3] [] (ac_w3 σ A row w (ac_lod (ab_rd σ (A + 1)) w) (ac_lm (ac_brs (ab_rd σ (A + 2)) row) w)) Q ↔ Q none (ac_w3 σ A row (ab_it (ac_fw (ab_rd σ (A + 1)) (ac_brs (ab_rd σ (A + 2)) row)) d i w) (ac_lod (ab_rd σ (A + 1)) (ab_it (ac_fw (ab_rd σ (A + 1)) (ac_brs (ab_rd σ (A + 2)) row)) d i w)) (ac_lm (ac_brs (ab_rd σ (A + 2)) row) (ab_it (ac_fw (ab_rd σ (A + 1)) (ac_brs (ab_rd σ (A + 2)) row)) d i w)))) := by
  intro d
  obtain ⟨hz, s0, s1, s2, s3, s4, s5, p1, p2, p3, p4, p5⟩ := hA
  induction d with
  | zero =>
    intro i w l3 hi hd hw
    rw [rX0_findWorst_23]
    unfold ac_w3
    simp (disch := omega) only [rX0_findWorst_24, rX0_findWorst_25, rX0_findWorst_28, rX0_findWorst_132, hn, s0, ne_eq, not_false_eq_true, not_true_eq_false, true_and, and_true, and_self, true_imp_iff, false_imp_iff, imp_self, Bool.not_false, Bool.not_true, reduceCtorEq, ab_isJ, ab_psh, ab_cats, Bool.false_eq_true, if_true, if_false, ab_shf, ab_shw, Int.le_refl, Classical.not_not, Int.zero_add, Int.add_zero, forall_const, ↓ab_itT, ↓ab_itF, ab_anT, ab_w32_id, ab_rdf_ne, ab_rdw_ne, ab_rdw_eq, ab_rdf_in, ab_td2, ab_tm2, ab_it]
  | succ d ih =>
    intro i w l3 hi hd hw
    have hbi := hb i hi (by omega)
    rw [rX0_findWorst_23]
    have key := fun w' l3 h => ih (i + 1) w' l3 (by omega) (by omega) h
    have hw' : w = -1 ∨ ((0 ≤ ab_rd σ (A + 1) w ∧ ab_rd σ (A + 1) w ≤ 579) ∧ (0 ≤ ab_rd σ (A + 2) w ∧ ab_rd σ (A + 2) w ≤ 639)) := hw.imp id (fun q => hb w q.1 (by omega))
    rw [ab_it]
    have hlm : 0 ≤ ac_lm (ac_brs (ab_rd σ (A + 2)) row) w ∧ ac_lm (ac_brs (ab_rd σ (A + 2)) row) w ≤ 639 := by
      unfold ac_lm ac_brs
      split
      · omega
      · split <;> omega
    have hlo : 0 ≤ ac_lod (ab_rd σ (A + 1)) w ∧ ac_lod (ab_rd σ (A + 1)) w ≤ 579 := by
      unfold ac_lod
      split <;> omega
    have hbr : 0 ≤ ac_brs (ab_rd σ (A + 2)) row i ∧ ac_brs (ab_rd σ (A + 2)) row i ≤ 639 := by
      unfold ac_brs
      split <;> omega
    have m1 := ab_mulb hbi.1.1 hbi.1.2 hlm.1 hlm.2
    have m2 := ab_mulb hlo.1 hlo.2 hbr.1 hbr.2
    have eb : ∀ l3, ab_Run X 3 55 (0, 0, 0) [ab_R A, ab_I row, ab_I i, l3] [ab_I (ac_brs (ab_rd σ (A + 2)) row i)] (ac_w3 σ A row w (ac_lod (ab_rd σ (A + 1)) w) (ac_lm (ac_brs (ab_rd σ (A + 2)) row) w)) Q ↔ Q none (ac_w3 σ A row (ab_it (ac_fw (ab_rd σ (A + 1)) (ac_brs (ab_rd σ (A + 2)) row)) d (i + 1) (ac_fw (ab_rd σ (A + 1)) (ac_brs (ab_rd σ (A + 2)) row) i w)) (ac_lod (ab_rd σ (A + 1)) (ab_it (ac_fw (ab_rd σ (A + 1)) (ac_brs (ab_rd σ (A + 2)) row)) d (i + 1) (ac_fw (ab_rd σ (A + 1)) (ac_brs (ab_rd σ (A + 2)) row) i w))) (ac_lm (ac_brs (ab_rd σ (A + 2)) row) (ab_it (ac_fw (ab_rd σ (A + 1)) (ac_brs (ab_rd σ (A + 2)) row)) d (i + 1) (ac_fw (ab_rd σ (A + 1)) (ac_brs (ab_rd σ (A + 2)) row) i w)))) := by
      intro l3
      have hf : ac_fw (ab_rd σ (A + 1)) (ac_brs (ab_rd σ (A + 2)) row) i w = -1 ∨ 0 ≤ ac_fw (ab_rd σ (A + 1)) (ac_brs (ab_rd σ (A + 2)) row) i w ∧ ac_fw (ab_rd σ (A + 1)) (ac_brs (ab_rd σ (A + 2)) row) i w < i + 1 := by
        unfold ac_fw
        split <;> omega
      rw [← key _ (ab_I (ac_brs (ab_rd σ (A + 2)) row i)) hf]
      generalize hB : ac_brs (ab_rd σ (A + 2)) row i = B at *
      generalize hL : ac_lod (ab_rd σ (A + 1)) w = Lw at *
      generalize hM : ac_lm (ac_brs (ab_rd σ (A + 2)) row) w = Mw at *
      by_cases c1 : B < ab_rd σ (A + 1) i
      · by_cases c2 : w = -1 ∨ Lw * B < ab_rd σ (A + 1) i * Mw
        · have e : ac_fw (ab_rd σ (A + 1)) (ac_brs (ab_rd σ (A + 2)) row) i w = i := by
            unfold ac_fw
            rw [hB]
            refine if_pos ⟨c1, ?_⟩
            rcases c2 with c2 | c2
            · exact Or.inl c2
            · by_cases hw1 : w = -1
              · exact Or.inl hw1
              · right
                rw [ac_lod, if_neg hw1] at hL
                rw [ac_lm, if_neg hw1] at hM
                rw [hL, hM]; exact c2
          have e2 : ac_lod (ab_rd σ (A + 1)) i = ab_rd σ (A + 1) i := if_neg (by omega)
          have e3 : ac_lm (ac_brs (ab_rd σ (A + 2)) row) i = B := by rw [ac_lm, if_neg (by omega), hB]
          rw [e, e2, e3, ← ac_w3_w3 (w := w) (l := Lw) (m := Mw) (w' := i) (l' := ab_rd σ (A + 1) i) (m' := B)]
          by_cases hw1 : w = -1
          · unfold ac_w3
            simp (disch := omega) only [rX0_findWorst_55, rX0_findWorst_56, rX0_findWorst_57, rX0_findWorst_60, rX0_findWorst_61, rX0_findWorst_62, rX0_findWorst_63, rX0_findWorst_66, rX0_findWorst_67, rX0_findWorst_70, rX0_findWorst_71, rX0_findWorst_72, rX0_findWorst_73, rX0_findWorst_76, rX0_findWorst_77, rX0_findWorst_80, rX0_findWorst_81, rX0_findWorst_82, rX0_findWorst_83, rX0_findWorst_86, rX0_findWorst_87, rX0_findWorst_88, rX0_findWorst_89, rX0_findWorst_90, rX0_findWorst_93, rX0_findWorst_94, rX0_findWorst_95, rX0_findWorst_96, rX0_findWorst_97, rX0_findWorst_100, rX0_findWorst_101, rX0_findWorst_104, rX0_findWorst_105, rX0_findWorst_106, rX0_findWorst_107, rX0_findWorst_108, rX0_findWorst_111, rX0_findWorst_112, rX0_findWorst_113, rX0_findWorst_116, rX0_findWorst_117, rX0_findWorst_118, rX0_findWorst_119, rX0_findWorst_120, rX0_findWorst_123, rX0_findWorst_124, rX0_findWorst_125, rX0_findWorst_126, rX0_findWorst_129, s0, s1, s2, s3, s4, s5, p1, p2, p3, p4, p5, ne_eq, not_false_eq_true, not_true_eq_false, true_and, and_true, and_self, true_imp_iff, false_imp_iff, imp_self, Bool.not_false, Bool.not_true, reduceCtorEq, ab_isJ, ab_psh, ab_cats, Bool.false_eq_true, if_true, if_false, ab_shf, ab_shw, Int.le_refl, Classical.not_not, Int.zero_add, Int.add_zero, forall_const, ↓ab_itT, ↓ab_itF, ab_anT, ab_w32_id, ab_rdf_ne, ab_rdw_ne, ab_rdw_eq, ab_rdf_in, ab_td2, ab_tm2]
          · have c3 : Lw * B < ab_rd σ (A + 1) i * Mw := by omega
            unfold ac_w3
            simp (disch := omega) only [rX0_findWorst_55, rX0_findWorst_56, rX0_findWorst_57, rX0_findWorst_60, rX0_findWorst_61, rX0_findWorst_62, rX0_findWorst_63, rX0_findWorst_66, rX0_findWorst_67, rX0_findWorst_70, rX0_findWorst_71, rX0_findWorst_72, rX0_findWorst_73, rX0_findWorst_76, rX0_findWorst_77, rX0_findWorst_80, rX0_findWorst_81, rX0_findWorst_82, rX0_findWorst_83, rX0_findWorst_86, rX0_findWorst_87, rX0_findWorst_88, rX0_findWorst_89, rX0_findWorst_90, rX0_findWorst_93, rX0_findWorst_94, rX0_findWorst_95, rX0_findWorst_96, rX0_findWorst_97, rX0_findWorst_100, rX0_findWorst_101, rX0_findWorst_104, rX0_findWorst_105, rX0_findWorst_106, rX0_findWorst_107, rX0_findWorst_108, rX0_findWorst_111, rX0_findWorst_112, rX0_findWorst_113, rX0_findWorst_116, rX0_findWorst_117, rX0_findWorst_118, rX0_findWorst_119, rX0_findWorst_120, rX0_findWorst_123, rX0_findWorst_124, rX0_findWorst_125, rX0_findWorst_126, rX0_findWorst_129, s0, s1, s2, s3, s4, s5, p1, p2, p3, p4, p5, ne_eq, not_false_eq_true, not_true_eq_false, true_and, and_true, and_self, true_imp_iff, false_imp_iff, imp_self, Bool.not_false, Bool.not_true, reduceCtorEq, ab_isJ, ab_psh, ab_cats, Bool.false_eq_true, if_true, if_false, ab_shf, ab_shw, Int.le_refl, Classical.not_not, Int.zero_add, Int.add_zero, forall_const, ↓ab_itT, ↓ab_itF, ab_anT, ab_w32_id, ab_rdf_ne, ab_rdw_ne, ab_rdw_eq, ab_rdf_in, ab_td2, ab_tm2]
        · have e : ac_fw (ab_rd σ (A + 1)) (ac_brs (ab_rd σ (A + 2)) row) i w = w := by
            unfold ac_fw
            rw [hB]
            refine if_neg (fun q => c2 ?_)
            rcases q.2 with q2 | q2
            · exact Or.inl q2
            · by_cases hw1 : w = -1
              · exact Or.inl hw1
              · right
                rw [ac_lod, if_neg hw1] at hL
                rw [ac_lm, if_neg hw1] at hM
                rw [hL, hM] at q2; exact q2
          rw [e, hL, hM]
          unfold ac_w3
          simp (disch := omega) only [rX0_findWorst_55, rX0_findWorst_56, rX0_findWorst_57, rX0_findWorst_60, rX0_findWorst_61, rX0_findWorst_62, rX0_findWorst_63, rX0_findWorst_66, rX0_findWorst_67, rX0_findWorst_70, rX0_findWorst_71, rX0_findWorst_72, rX0_findWorst_73, rX0_findWorst_76, rX0_findWorst_77, rX0_findWorst_80, rX0_findWorst_81, rX0_findWorst_82, rX0_findWorst_83, rX0_findWorst_86, rX0_findWorst_87, rX0_findWorst_88, rX0_findWorst_89, rX0_findWorst_90, rX0_findWorst_93, rX0_findWorst_94, rX0_findWorst_95, rX0_findWorst_96, rX0_findWorst_97, rX0_findWorst_100, rX0_findWorst_101, rX0_findWorst_104, rX0_findWorst_105, rX0_findWorst_106, rX0_findWorst_107, rX0_findWorst_108, rX0_findWorst_111, rX0_findWorst_112, rX0_findWorst_113, rX0_findWorst_116, rX0_findWorst_117, rX0_findWorst_118, rX0_findWorst_119, rX0_findWorst_120, rX0_findWorst_123, rX0_findWorst_124, rX0_findWorst_125, rX0_findWorst_126, rX0_findWorst_129, s0, s1, s2, s3, s4, s5, p1, p2, p3, p4, p5, ne_eq, not_false_eq_true, not_true_eq_false, true_and, and_true, and_self, true_imp_iff, false_imp_iff, imp_self, Bool.not_false, Bool.not_true, reduceCtorEq, ab_isJ, ab_psh, ab_cats, Bool.false_eq_true, if_true, if_false, ab_shf, ab_shw, Int.le_refl, Classical.not_not, Int.zero_add, Int.add_zero, forall_const, ↓ab_itT, ↓ab_itF, ab_anT, ab_w32_id, ab_rdf_ne, ab_rdw_ne, ab_rdw_eq, ab_rdf_in, ab_td2, ab_tm2]
      · have e : ac_fw (ab_rd σ (A + 1)) (ac_brs (ab_rd σ (A + 2)) row) i w = w := by
          unfold ac_fw
          rw [hB]
          exact if_neg (fun q => c1 q.1)
        rw [e, hL, hM]
        unfold ac_w3
        simp (disch := omega) only [rX0_findWorst_55, rX0_findWorst_56, rX0_findWorst_57, rX0_findWorst_60, rX0_findWorst_61, rX0_findWorst_62, rX0_findWorst_63, rX0_findWorst_66, rX0_findWorst_67, rX0_findWorst_70, rX0_findWorst_71, rX0_findWorst_72, rX0_findWorst_73, rX0_findWorst_76, rX0_findWorst_77, rX0_findWorst_80, rX0_findWorst_81, rX0_findWorst_82, rX0_findWorst_83, rX0_findWorst_86, rX0_findWorst_87, rX0_findWorst_88, rX0_findWorst_89, rX0_findWorst_90, rX0_findWorst_93, rX0_findWorst_94, rX0_findWorst_95, rX0_findWorst_96, rX0_findWorst_97, rX0_findWorst_100, rX0_findWorst_101, rX0_findWorst_104, rX0_findWorst_105, rX0_findWorst_106, rX0_findWorst_107, rX0_findWorst_108, rX0_findWorst_111, rX0_findWorst_112, rX0_findWorst_113, rX0_findWorst_116, rX0_findWorst_117, rX0_findWorst_118, rX0_findWorst_119, rX0_findWorst_120, rX0_findWorst_123, rX0_findWorst_124, rX0_findWorst_125, rX0_findWorst_126, rX0_findWorst_129, s0, s1, s2, s3, s4, s5, p1, p2, p3, p4, p5, ne_eq, not_false_eq_true, not_true_eq_false, true_and, and_true, and_self, true_imp_iff, false_imp_iff, imp_self, Bool.not_false, Bool.not_true, reduceCtorEq, ab_isJ, ab_psh, ab_cats, Bool.false_eq_true, if_true, if_false, ab_shf, ab_shw, Int.le_refl, Classical.not_not, Int.zero_add, Int.add_zero, forall_const, ↓ab_itT, ↓ab_itF, ab_anT, ab_w32_id, ab_rdf_ne, ab_rdw_ne, ab_rdw_eq, ab_rdf_in, ab_td2, ab_tm2]
    by_cases hrow : i + 1 = row
    · have e : ac_brs (ab_rd σ (A + 2)) row i = ab_rd σ (A + 2) i / 2 := if_pos hrow
      rw [e] at eb
      rw [← eb l3]
      unfold ac_w3
      simp (disch := omega) only [rX0_findWorst_24, rX0_findWorst_25, rX0_findWorst_28, rX0_findWorst_31, rX0_findWorst_32, rX0_findWorst_33, rX0_findWorst_34, rX0_findWorst_35, rX0_findWorst_38, rX0_findWorst_39, rX0_findWorst_42, rX0_findWorst_43, rX0_findWorst_44, rX0_findWorst_45, rX0_findWorst_46, rX0_findWorst_49, rX0_findWorst_50, rX0_findWorst_53, rX0_findWorst_54, hn, s0, s2, p2, ne_eq, not_false_eq_true, not_true_eq_false, true_and, and_true, and_self, true_imp_iff, false_imp_iff, imp_self, Bool.not_false, Bool.not_true, reduceCtorEq, ab_isJ, ab_psh, ab_cats, Bool.false_eq_true, if_true, if_false, ab_shf, ab_shw, Int.le_refl, Classical.not_not, Int.zero_add, Int.add_zero, forall_const, ↓ab_itT, ↓ab_itF, ab_anT, ab_w32_id, ab_rdf_ne, ab_rdw_ne, ab_rdw_eq, ab_rdf_in, ab_td2, ab_tm2]
    · have e : ac_brs (ab_rd σ (A + 2)) row i = ab_rd σ (A + 2) i := if_neg hrow
      rw [e] at eb
      rw [← eb l3]
      unfold ac_w3
      simp (disch := omega) only [rX0_findWorst_24, rX0_findWorst_25, rX0_findWorst_28, rX0_findWorst_31, rX0_findWorst_32, rX0_findWorst_33, rX0_findWorst_34, rX0_findWorst_35, rX0_findWorst_38, rX0_findWorst_39, rX0_findWorst_42, rX0_findWorst_43, rX0_findWorst_44, rX0_findWorst_45, rX0_findWorst_46, rX0_findWorst_49, rX0_findWorst_50, rX0_findWorst_53, rX0_findWorst_54, hn, s0, s2, p2, ne_eq, not_false_eq_true, not_true_eq_false, true_and, and_true, and_self, true_imp_iff, false_imp_iff, imp_self, Bool.not_false, Bool.not_true, reduceCtorEq, ab_isJ, ab_psh, ab_cats, Bool.false_eq_true, if_true, if_false, ab_shf, ab_shw, Int.le_refl, Classical.not_not, Int.zero_add, Int.add_zero, forall_const, ↓ab_itT, ↓ab_itF, ab_anT, ab_w32_id, ab_rdf_ne, ab_rdw_ne, ab_rdw_eq, ab_rdf_in, ab_td2, ab_tm2]
theorem sp_findWorst {n row : Int} (hA : ab_ArmG σ A) (hn : ab_rd σ A 0 = n) (hn6 : 0 ≤ n ∧ n ≤ 6) (hr : 0 ≤ row ∧ row ≤ 6) (hb : ∀ i, 0 ≤ i → i < n → (0 ≤ ab_rd σ (A + 1) i ∧ ab_rd σ (A + 1) i ≤ 579) ∧ (0 ≤ ab_rd σ (A + 2) i ∧ ab_rd σ (A + 2) i ≤ 639)) : ab_Do X 3 [ab_R A, ab_I row] σ Q ↔ Q none (ac_w3 σ A row (ac_W (ab_rd σ (A + 1)) (ac_brs (ab_rd σ (A + 2)) row) n) (ac_lod (ab_rd σ (A + 1)) (ac_W (ab_rd σ (A + 1)) (ac_brs (ab_rd σ (A + 2)) row) n)) (ac_lm (ac_brs (ab_rd σ (A + 2)) row) (ac_W (ab_rd σ (A + 1)) (ac_brs (ab_rd σ (A + 2)) row) n))) := by
  have := sp_findWorst_l (X := X) (Q := Q) hA hn hn6.2 hr hb n.toNat 0 (-1) (ab_R 0) (by omega) (by omega) (Or.inl rfl)
  unfold ac_W
  rw [← this]
  obtain ⟨hz, s0, s1, s2, s3, s4, s5, p1, p2, p3, p4, p5⟩ := hA
  have e1 : ac_lod (ab_rd σ (A + 1)) (-1) = 0 := rfl
  have e2 : ac_lm (ac_brs (ab_rd σ (A + 2)) row) (-1) = 1 := rfl
  rw [e1, e2]
  unfold ac_w3
  simp (disch := omega) only [do_X0_findWorst, rX0_findWorst_0, rX0_findWorst_1, rX0_findWorst_4, rX0_findWorst_5, rX0_findWorst_6, rX0_findWorst_7, rX0_findWorst_8, rX0_findWorst_11, rX0_findWorst_12, rX0_findWorst_13, rX0_findWorst_14, rX0_findWorst_15, rX0_findWorst_18, rX0_findWorst_19, rX0_findWorst_20, rX0_findWorst_21, rX0_findWorst_22, s0, s1, s2, s3, s4, s5, p1, p2, p3, p4, p5, ne_eq, not_false_eq_true, not_true_eq_false, true_and, and_true, and_self, true_imp_iff, false_imp_iff, imp_self, Bool.not_false, Bool.not_true, reduceCtorEq, ab_isJ, ab_psh, ab_cats, Bool.false_eq_true, if_true, if_false, ab_shf, ab_shw, Int.le_refl, Classical.not_not, Int.zero_add, Int.add_zero, forall_const, ↓ab_itT, ↓ab_itF, ab_anT, ab_w32_id, ab_rdf_ne, ab_rdw_ne, ab_rdw_eq, ab_rdf_in, ab_td2, ab_tm2]
end
