/-! READER of the class: the lines (written by gen/glines.py) -/
section
variable {X : ab_X} {σ τ : ab_S} {Q : Option ab_V → ab_S → Prop} {n s K : Int} {tp : Int → Int} {κ : ac_K} {r : ar_R}
theorem sp_rp_end {m v : Int} (hg : ab_Geo τ) (hK : ac_kit K) (e1 : ab_rd τ 2 1 = K) (e5 : ab_rd τ 2 5 = v) (hm : 0 ≤ m ∧ m < 6) (c7 : ab_rd τ K 7 = m) (kq : Q (some (ab_I 1)) (ab_wr (ab_wr (ab_wr τ (K + 20 + m) 4 v) (K + 20 + m) 5 v) K 7 (m + 1))) : ab_Run X 49 121 (13, 0, 0) [ab_R 2, ab_R (K + 20 + m)] (ab_psh (some (ab_I 1)) []) τ Q := by
  have hv : K = 5 ∨ K = 329 := hK
  have k0 := (hg.kit hK).1
  have gP := (hg.pers hK hm.1 hm.2).1
  clear hK
  simp (disch := omega) only [rX7_readPerson_121, rX7_readPerson_126, rX7_readPerson_127, rX7_readPerson_128, rX7_readPerson_131, rX7_readPerson_134, rX7_readPerson_135, rX7_readPerson_136, rX7_readPerson_139, rX7_readPerson_142, rX7_readPerson_143, rX7_readPerson_146I, rX7_readPerson_146R, rX7_readPerson_147, rX7_readPerson_150, rX7_readPerson_151, rX7_readPerson_152, rX7_readPerson_155, rX7_readPerson_156, gS_2, hg, e1, k0, e5, c7, gP, ne_eq, not_false_eq_true, not_true_eq_false, true_and, and_true, and_self, true_imp_iff, false_imp_iff, imp_self, Bool.not_false, Bool.not_true, reduceCtorEq, ab_isJ, ab_psh, ab_cats, Bool.false_eq_true, if_true, if_false, ab_shf, ab_shw, Int.le_refl, Classical.not_not, Int.zero_add, forall_const, ↓ab_itT, ↓ab_itF, ab_anT, ab_w32_id, ab_rdf_ne, ab_rdw_ne, ab_rdw_eq, ab_rdf_in, ab_td2, ab_tm2, true_or, or_true]
  all_goals exact kq
set_option maxHeartbeats 4000000 in
theorem sp_readPerson (h : ac_RC σ n tp s) (hk : ar_KF σ K κ) (hj : ar_J κ) (h6 : κ 6 0 < 6) (hF : ar_hF Q σ K (pr_person tp n κ s)) (hO : ar_hO Q σ K n tp (pr_person tp n κ s)) : ab_Do X 49 [ab_R 2] σ Q := by
  have hK := hk.1
  have hv : K = 5 ∨ K = 329 := hK
  have hK2 : (2 : Int) ≠ K := by omega
  generalize er : pr_person tp n κ s = r at hF hO
  unfold pr_person at er
  have S0 : ab_Same ac_PR σ σ := ab_Same.refl
  have W0 : ab_Same (ar_PL K) σ σ := ab_Same.refl
  have e10 := hk.2.1
  have n6 := hj.1.2.1
  have c7 := hk.2.2.2.2.1.2.1
  have key0 : ab_Do X 59 [ab_R 2] σ (fun r σ' => ab_Run X 49 20 (13, 0, 0) [ab_R 2, ab_R (K + 20 + κ 6 0)] (ab_psh r []) σ' Q) := by
    refine sp_newE h hk hj er (fun wf pl ef τ1 u1 a1 b1 => ?_) (fun el er1 => ?_)
    · have kq := hF wf pl ef τ1 (W0.trans ((S0.trans u1).rl)) a1 b1
      clear hF hO hj hk h
      simp (disch := omega) only [rX7_readPerson_20, rX7_readPerson_23, rX7_readPerson_24, ne_eq, not_false_eq_true, not_true_eq_false, true_and, and_true, and_self, true_imp_iff, false_imp_iff, imp_self, Bool.not_false, Bool.not_true, reduceCtorEq, ab_isJ, ab_psh, ab_cats, Bool.false_eq_true, if_true, if_false, ab_shf, ab_shw, Int.le_refl, Classical.not_not, Int.zero_add, forall_const, ↓ab_itT, ↓ab_itF, ab_anT, ab_w32_id, ab_rdf_ne, ab_rdw_ne, ab_rdw_eq, ab_rdf_in, ab_td2, ab_tm2, true_or, or_true]
      all_goals exact kq
    · have hR1 : ac_RC (ab_wr (ab_wr (ab_wr (ab_wr (ab_wr (ab_wr σ (K + 20 + κ 6 0) 0 (ar_W 27 tp n s)) (K + 20 + κ 6 0) 5 (0)) (K + 20 + κ 6 0) 6 (0)) (K + 20 + κ 6 0) 7 (0)) (K + 20 + κ 6 0) 8 (0)) (K + 20 + κ 6 0) 9 (-1)) n tp s := (ac_RC.wrK (K := K) (ac_RC.wrK (K := K) (ac_RC.wrK (K := K) (ac_RC.wrK (K := K) (ac_RC.wrK (K := K) (ac_RC.wrK (K := K) h (Or.inr ⟨hK, (ar_PKq (by omega))⟩)) (Or.inr ⟨hK, (ar_PKq (by omega))⟩)) (Or.inr ⟨hK, (ar_PKq (by omega))⟩)) (Or.inr ⟨hK, (ar_PKq (by omega))⟩)) (Or.inr ⟨hK, (ar_PKq (by omega))⟩)) (Or.inr ⟨hK, (ar_PKq (by omega))⟩))
      have S1w : ab_Same ac_PR (ab_wr (ab_wr (ab_wr (ab_wr (ab_wr (ab_wr σ (K + 20 + κ 6 0) 0 (ar_W 27 tp n s)) (K + 20 + κ 6 0) 5 (0)) (K + 20 + κ 6 0) 6 (0)) (K + 20 + κ 6 0) 7 (0)) (K + 20 + κ 6 0) 8 (0)) (K + 20 + κ 6 0) 9 (-1)) (ab_wr (ab_wr (ab_wr (ab_wr (ab_wr (ab_wr σ (K + 20 + κ 6 0) 0 (ar_W 27 tp n s)) (K + 20 + κ 6 0) 5 (0)) (K + 20 + κ 6 0) 6 (0)) (K + 20 + κ 6 0) 7 (0)) (K + 20 + κ 6 0) 8 (0)) (K + 20 + κ 6 0) 9 (-1)) := S0.wr2.wr2.wr2.wr2.wr2.wr2
      have W1w : ab_Same (ar_PL K) σ (ab_wr (ab_wr (ab_wr (ab_wr (ab_wr (ab_wr σ (K + 20 + κ 6 0) 0 (ar_W 27 tp n s)) (K + 20 + κ 6 0) 5 (0)) (K + 20 + κ 6 0) 6 (0)) (K + 20 + κ 6 0) 7 (0)) (K + 20 + κ 6 0) 8 (0)) (K + 20 + κ 6 0) 9 (-1)) := ((((((W0.wr (Or.inr (Or.inr (ar_PKq (by omega))))).wr (Or.inr (Or.inr (ar_PKq (by omega))))).wr (Or.inr (Or.inr (ar_PKq (by omega))))).wr (Or.inr (Or.inr (ar_PKq (by omega))))).wr (Or.inr (Or.inr (ar_PKq (by omega))))).wr (Or.inr (Or.inr (ar_PKq (by omega)))))
      obtain ⟨ω1, hω1⟩ : ∃ x, x = (ab_wr (ab_wr (ab_wr (ab_wr (ab_wr (ab_wr σ (K + 20 + κ 6 0) 0 (ar_W 27 tp n s)) (K + 20 + κ 6 0) 5 (0)) (K + 20 + κ 6 0) 6 (0)) (K + 20 + κ 6 0) 7 (0)) (K + 20 + κ 6 0) 8 (0)) (K + 20 + κ 6 0) 9 (-1)) := ⟨_, rfl⟩
      replace S1w : ab_Same ac_PR ω1 (ab_wr (ab_wr (ab_wr (ab_wr (ab_wr (ab_wr σ (K + 20 + κ 6 0) 0 (ar_W 27 tp n s)) (K + 20 + κ 6 0) 5 (0)) (K + 20 + κ 6 0) 6 (0)) (K + 20 + κ 6 0) 7 (0)) (K + 20 + κ 6 0) 8 (0)) (K + 20 + κ 6 0) 9 (-1)) := by rw [hω1]; exact S1w
      replace W1w : ab_Same (ar_PL K) σ ω1 := by rw [hω1]; exact W1w
      have e11w : ab_rd (ab_wr (ab_wr (ab_wr (ab_wr (ab_wr (ab_wr σ (K + 20 + κ 6 0) 0 (ar_W 27 tp n s)) (K + 20 + κ 6 0) 5 (0)) (K + 20 + κ 6 0) 6 (0)) (K + 20 + κ 6 0) 7 (0)) (K + 20 + κ 6 0) 8 (0)) (K + 20 + κ 6 0) 9 (-1)) 2 1 = K := by rw [ab_rdw_ne (Or.inl (by omega)), ab_rdw_ne (Or.inl (by omega)), ab_rdw_ne (Or.inl (by omega)), ab_rdw_ne (Or.inl (by omega)), ab_rdw_ne (Or.inl (by omega)), ab_rdw_ne (Or.inl (by omega))]; exact e10
      have key1 : ab_Do X 70 [ab_R 3] (ab_wr (ab_wr (ab_wr (ab_wr (ab_wr (ab_wr σ (K + 20 + κ 6 0) 0 (ar_W 27 tp n s)) (K + 20 + κ 6 0) 5 (0)) (K + 20 + κ 6 0) 6 (0)) (K + 20 + κ 6 0) 7 (0)) (K + 20 + κ 6 0) 8 (0)) (K + 20 + κ 6 0) 9 (-1)) (fun r σ' => ab_Run X 49 43 (13, 0, 0) [ab_R 2, ab_R (K + 20 + κ 6 0)] (ab_psh r []) σ' Q) := by
        refine sp_nextR hR1 (fun τ2 u2 w2 => ?_)
        have S2 := S1w.trans u2.kr
        have e12 : ab_rd τ2 2 1 = K := by rw [u2.2.2 2 1 (by unfold ac_PK9; omega)]; exact e11w
        have key2 : ab_Do X 56 [ab_R 2, ab_R (-21), ab_R (-22), ab_R (-23), ab_R (-24)] τ2 (fun r σ' => ab_Run X 49 55 (13, 0, 0) [ab_R 2, ab_R (K + 20 + κ 6 0)] (ab_psh r []) σ' Q) := by
          refine sp_kindE w2 ac_TX19 ac_TX20 ac_TX21 ac_TX22 er1 (fun wf pl ef τ3 u3 a3 b3 => ?_) (fun v1 s1 v1q er3 τ3 u3 f53 w3 => ?_)
          · have kq := hF wf pl ef τ3 (W1w.trans ((S2.trans u3).rl)) a3 b3
            clear hF hO hj hk h
            simp (disch := omega) only [rX7_readPerson_55, rX7_readPerson_58, rX7_readPerson_59, ne_eq, not_false_eq_true, not_true_eq_false, true_and, and_true, and_self, true_imp_iff, false_imp_iff, imp_self, Bool.not_false, Bool.not_true, reduceCtorEq, ab_isJ, ab_psh, ab_cats, Bool.false_eq_true, if_true, if_false, ab_shf, ab_shw, Int.le_refl, Classical.not_not, Int.zero_add, forall_const, ↓ab_itT, ↓ab_itF, ab_anT, ab_w32_id, ab_rdf_ne, ab_rdw_ne, ab_rdw_eq, ab_rdf_in, ab_td2, ab_tm2, true_or, or_true]
            all_goals exact kq
          · have S3 := S2.trans u3
            have e13 : ab_rd τ3 2 1 = K := by rw [u3.2.2 2 1 (by unfold ac_PR ac_PK9; omega)]; exact e12
            have hR3 : ac_RC (ab_wr τ3 (K + 20 + κ 6 0) 1 (v1)) n tp s1 := (ac_RC.wrK (K := K) w3 (Or.inr ⟨hK, (ar_PKq (by omega))⟩))
            have S3w : ab_Same ac_PR (ab_wr ω1 (K + 20 + κ 6 0) 1 (v1)) (ab_wr τ3 (K + 20 + κ 6 0) 1 (v1)) := S3.wr2
            have W3w : ab_Same (ar_PL K) σ (ab_wr ω1 (K + 20 + κ 6 0) 1 (v1)) := (W1w.wr (Or.inr (Or.inr (ar_PKq (by omega)))))
            obtain ⟨ω3, hω3⟩ : ∃ x, x = (ab_wr ω1 (K + 20 + κ 6 0) 1 (v1)) := ⟨_, rfl⟩
            replace S3w : ab_Same ac_PR ω3 (ab_wr τ3 (K + 20 + κ 6 0) 1 (v1)) := by rw [hω3]; exact S3w
            replace W3w : ab_Same (ar_PL K) σ ω3 := by rw [hω3]; exact W3w
            have e13w : ab_rd (ab_wr τ3 (K + 20 + κ 6 0) 1 (v1)) 2 1 = K := by rw [ab_rdw_ne (Or.inl (by omega))]; exact e13
            have key3 : ab_Do X 55 [ab_R 2, ab_R (-25), ab_I 1, ab_I 40] (ab_wr τ3 (K + 20 + κ 6 0) 1 (v1)) (fun r σ' => ab_Run X 49 77 (13, 0, 0) [ab_R 2, ab_R (K + 20 + κ 6 0)] (ab_psh r []) σ' Q) := by
              refine sp_partE hR3 ac_TX23 er3 (fun wf pl ef τ4 u4 a4 b4 => ?_) (fun v2 s2 er4 τ4 u4 f54 w4 => ?_)
              · have kq := hF wf pl ef τ4 (W3w.trans ((S3w.trans u4).rl)) a4 b4
                clear hF hO hj hk h
                simp (disch := omega) only [rX7_readPerson_77, rX7_readPerson_80, rX7_readPerson_81, ne_eq, not_false_eq_true, not_true_eq_false, true_and, and_true, and_self, true_imp_iff, false_imp_iff, imp_self, Bool.not_false, Bool.not_true, reduceCtorEq, ab_isJ, ab_psh, ab_cats, Bool.false_eq_true, if_true, if_false, ab_shf, ab_shw, Int.le_refl, Classical.not_not, Int.zero_add, forall_const, ↓ab_itT, ↓ab_itF, ab_anT, ab_w32_id, ab_rdf_ne, ab_rdw_ne, ab_rdw_eq, ab_rdf_in, ab_td2, ab_tm2, true_or, or_true]
                all_goals exact kq
              · have S4 := S3w.trans u4
                have e14 : ab_rd τ4 2 1 = K := by rw [u4.2.2 2 1 (by unfold ac_PR ac_PK9; omega)]; exact e13w
                have hR4 : ac_RC (ab_wr τ4 (K + 20 + κ 6 0) 2 (v2)) n tp s2 := (ac_RC.wrK (K := K) w4 (Or.inr ⟨hK, (ar_PKq (by omega))⟩))
                have S4w : ab_Same ac_PR (ab_wr ω3 (K + 20 + κ 6 0) 2 (v2)) (ab_wr τ4 (K + 20 + κ 6 0) 2 (v2)) := S4.wr2
                have W4w : ab_Same (ar_PL K) σ (ab_wr ω3 (K + 20 + κ 6 0) 2 (v2)) := (W3w.wr (Or.inr (Or.inr (ar_PKq (by omega)))))
                obtain ⟨ω4, hω4⟩ : ∃ x, x = (ab_wr ω3 (K + 20 + κ 6 0) 2 (v2)) := ⟨_, rfl⟩
                replace S4w : ab_Same ac_PR ω4 (ab_wr τ4 (K + 20 + κ 6 0) 2 (v2)) := by rw [hω4]; exact S4w
                replace W4w : ab_Same (ar_PL K) σ ω4 := by rw [hω4]; exact W4w
                have e14w : ab_rd (ab_wr τ4 (K + 20 + κ 6 0) 2 (v2)) 2 1 = K := by rw [ab_rdw_ne (Or.inl (by omega))]; exact e14
                have key4 : ab_Do X 55 [ab_R 2, ab_R (-26), ab_I 1, ab_I 6] (ab_wr τ4 (K + 20 + κ 6 0) 2 (v2)) (fun r σ' => ab_Run X 49 99 (13, 0, 0) [ab_R 2, ab_R (K + 20 + κ 6 0)] (ab_psh r []) σ' Q) := by
                  refine sp_partE hR4 ac_TX24 er4 (fun wf pl ef τ5 u5 a5 b5 => ?_) (fun v3 s3 er5 τ5 u5 f55 w5 => ?_)
                  · have kq := hF wf pl ef τ5 (W4w.trans ((S4w.trans u5).rl)) a5 b5
                    clear hF hO hj hk h
                    simp (disch := omega) only [rX7_readPerson_99, rX7_readPerson_102, rX7_readPerson_103, ne_eq, not_false_eq_true, not_true_eq_false, true_and, and_true, and_self, true_imp_iff, false_imp_iff, imp_self, Bool.not_false, Bool.not_true, reduceCtorEq, ab_isJ, ab_psh, ab_cats, Bool.false_eq_true, if_true, if_false, ab_shf, ab_shw, Int.le_refl, Classical.not_not, Int.zero_add, forall_const, ↓ab_itT, ↓ab_itF, ab_anT, ab_w32_id, ab_rdf_ne, ab_rdw_ne, ab_rdw_eq, ab_rdf_in, ab_td2, ab_tm2, true_or, or_true]
                    all_goals exact kq
                  · have S5 := S4w.trans u5
                    have e15 : ab_rd τ5 2 1 = K := by rw [u5.2.2 2 1 (by unfold ac_PR ac_PK9; omega)]; exact e14w
                    have hR5 : ac_RC (ab_wr τ5 (K + 20 + κ 6 0) 3 (v3)) n tp s3 := (ac_RC.wrK (K := K) w5 (Or.inr ⟨hK, (ar_PKq (by omega))⟩))
                    have S5w : ab_Same ac_PR (ab_wr ω4 (K + 20 + κ 6 0) 3 (v3)) (ab_wr τ5 (K + 20 + κ 6 0) 3 (v3)) := S5.wr2
                    have W5w : ab_Same (ar_PL K) σ (ab_wr ω4 (K + 20 + κ 6 0) 3 (v3)) := (W4w.wr (Or.inr (Or.inr (ar_PKq (by omega)))))
                    obtain ⟨ω5, hω5⟩ : ∃ x, x = (ab_wr ω4 (K + 20 + κ 6 0) 3 (v3)) := ⟨_, rfl⟩
                    replace S5w : ab_Same ac_PR ω5 (ab_wr τ5 (K + 20 + κ 6 0) 3 (v3)) := by rw [hω5]; exact S5w
                    replace W5w : ab_Same (ar_PL K) σ ω5 := by rw [hω5]; exact W5w
                    have e15w : ab_rd (ab_wr τ5 (K + 20 + κ 6 0) 3 (v3)) 2 1 = K := by rw [ab_rdw_ne (Or.inl (by omega))]; exact e15
                    have key5 : ab_Do X 55 [ab_R 2, ab_R (-27), ab_I 0, ab_I 99] (ab_wr τ5 (K + 20 + κ 6 0) 3 (v3)) (fun r σ' => ab_Run X 49 121 (13, 0, 0) [ab_R 2, ab_R (K + 20 + κ 6 0)] (ab_psh r []) σ' Q) := by
                      refine sp_partE hR5 ac_TX25 er5 (fun wf pl ef τ6 u6 a6 b6 => ?_) (fun v4 s4 er6 τ6 u6 f56 w6 => ?_)
                      · have kq := hF wf pl ef τ6 (W5w.trans ((S5w.trans u6).rl)) a6 b6
                        clear hF hO hj hk h
                        simp (disch := omega) only [rX7_readPerson_121, rX7_readPerson_124, rX7_readPerson_125, ne_eq, not_false_eq_true, not_true_eq_false, true_and, and_true, and_self, true_imp_iff, false_imp_iff, imp_self, Bool.not_false, Bool.not_true, reduceCtorEq, ab_isJ, ab_psh, ab_cats, Bool.false_eq_true, if_true, if_false, ab_shf, ab_shw, Int.le_refl, Classical.not_not, Int.zero_add, forall_const, ↓ab_itT, ↓ab_itF, ab_anT, ab_w32_id, ab_rdf_ne, ab_rdw_ne, ab_rdw_eq, ab_rdf_in, ab_td2, ab_tm2, true_or, or_true]
                        all_goals exact kq
                      · have S6 := S5w.trans u6
                        have e16 : ab_rd τ6 2 1 = K := by rw [u6.2.2 2 1 (by unfold ac_PR ac_PK9; omega)]; exact e15w
                        have hg6 := w6.geo
                        have gP5 := hg6.pers hK n6.1 (by omega)
                        have c7f : ab_rd τ6 K 7 = κ 6 0 := by rw [S6.2.2 K 7 (by unfold ac_PR ac_PK9; omega), hω5, ab_rdw_ne (by omega), hω4, ab_rdw_ne (by omega), hω3, ab_rdw_ne (by omega), hω1, ab_rdw_ne (by omega), ab_rdw_ne (by omega), ab_rdw_ne (by omega), ab_rdw_ne (by omega), ab_rdw_ne (by omega), ab_rdw_ne (by omega)]; exact c7
                        have Rf : ac_RC (ab_wr (ab_wr (ab_wr τ6 (K + 20 + κ 6 0) 4 (v4)) (K + 20 + κ 6 0) 5 (v4)) (K) 7 (κ 6 0 + 1)) n tp s4 := (ac_RC.wrK (K := K) (ac_RC.wrK (K := K) (ac_RC.wrK (K := K) w6 (Or.inr ⟨hK, (ar_PKq (by omega))⟩)) (Or.inr ⟨hK, (ar_PKq (by omega))⟩)) (Or.inr ⟨hK, (ar_PKk (by decide))⟩))
                        have Sf : ab_Same ac_PR (ab_wr (ab_wr (ab_wr ω5 (K + 20 + κ 6 0) 4 (v4)) (K + 20 + κ 6 0) 5 (v4)) (K) 7 (κ 6 0 + 1)) (ab_wr (ab_wr (ab_wr τ6 (K + 20 + κ 6 0) 4 (v4)) (K + 20 + κ 6 0) 5 (v4)) (K) 7 (κ 6 0 + 1)) := S6.wr2.wr2.wr2
                        have Wf : ab_Same (ar_PL K) σ (ab_wr (ab_wr (ab_wr ω5 (K + 20 + κ 6 0) 4 (v4)) (K + 20 + κ 6 0) 5 (v4)) (K) 7 (κ 6 0 + 1)) := (((W5w.wr (Or.inr (Or.inr (ar_PKq (by omega))))).wr (Or.inr (Or.inr (ar_PKq (by omega))))).wr (Or.inr (Or.inr (ar_PKk (by decide)))))
                        have Kf : ar_KF (ab_wr (ab_wr (ab_wr τ6 (K + 20 + κ 6 0) 4 (v4)) (K + 20 + κ 6 0) 5 (v4)) (K) 7 (κ 6 0 + 1)) K (ar_uP κ (ar_W 32 tp n s) (ar_W 27 tp n s) v1 v2 v3 v4) := ar_KF.same (by rw [hω5, hω4, hω3, hω1]; exact ar_KF_P hk hj h6) Sf
                        have kq := hO _ _ er6.symm _ (Wf.trans Sf.rl) Rf Kf
                        exact sp_rp_end hg6 hK e16 f56 ⟨n6.1, h6⟩ c7f kq
                    have hg5 := w5.geo
                    obtain ⟨k05, k15, k25, k35, k45, k65, k85, k135, k145⟩ := hg5.kit hK
                    have gP4 := hg5.pers hK n6.1 (by omega)
                    clear hF hO hj hk h
                    simp (disch := omega) only [rX7_readPerson_99, rX7_readPerson_104, rX7_readPerson_105, rX7_readPerson_106, rX7_readPerson_109, rX7_readPerson_112, rX7_readPerson_113, rX7_readPerson_115, rX7_readPerson_116, rX7_readPerson_118, gS_2, gP_2_0, gS_3, hg5, e15, k05, k15, k25, k35, k45, k65, k85, k135, k145, f55, gP4.1, ne_eq, not_false_eq_true, not_true_eq_false, true_and, and_true, and_self, true_imp_iff, false_imp_iff, imp_self, Bool.not_false, Bool.not_true, reduceCtorEq, ab_isJ, ab_psh, ab_cats, Bool.false_eq_true, if_true, if_false, ab_shf, ab_shw, Int.le_refl, Classical.not_not, Int.zero_add, forall_const, ↓ab_itT, ↓ab_itF, ab_anT, ab_w32_id, ab_rdf_ne, ab_rdw_ne, ab_rdw_eq, ab_rdf_in, ab_td2, ab_tm2, true_or, or_true]
                    all_goals exact key5
                have hg4 := w4.geo
                obtain ⟨k04, k14, k24, k34, k44, k64, k84, k134, k144⟩ := hg4.kit hK
                have gP3 := hg4.pers hK n6.1 (by omega)
                clear hF hO hj hk h
                simp (disch := omega) only [rX7_readPerson_77, rX7_readPerson_82, rX7_readPerson_83, rX7_readPerson_84, rX7_readPerson_87, rX7_readPerson_90, rX7_readPerson_91, rX7_readPerson_93, rX7_readPerson_94, rX7_readPerson_96, gS_2, gP_2_0, gS_3, hg4, e14, k04, k14, k24, k34, k44, k64, k84, k134, k144, f54, gP3.1, ne_eq, not_false_eq_true, not_true_eq_false, true_and, and_true, and_self, true_imp_iff, false_imp_iff, imp_self, Bool.not_false, Bool.not_true, reduceCtorEq, ab_isJ, ab_psh, ab_cats, Bool.false_eq_true, if_true, if_false, ab_shf, ab_shw, Int.le_refl, Classical.not_not, Int.zero_add, forall_const, ↓ab_itT, ↓ab_itF, ab_anT, ab_w32_id, ab_rdf_ne, ab_rdw_ne, ab_rdw_eq, ab_rdf_in, ab_td2, ab_tm2, true_or, or_true]
                all_goals exact key4
            have hg3 := w3.geo
            obtain ⟨k03, k13, k23, k33, k43, k63, k83, k133, k143⟩ := hg3.kit hK
            have gP2 := hg3.pers hK n6.1 (by omega)
            clear hF hO hj hk h
            simp (disch := omega) only [rX7_readPerson_55, rX7_readPerson_60, rX7_readPerson_61, rX7_readPerson_62, rX7_readPerson_65, rX7_readPerson_68, rX7_readPerson_69, rX7_readPerson_71, rX7_readPerson_72, rX7_readPerson_74, gS_2, gP_2_0, gS_3, hg3, e13, k03, k13, k23, k33, k43, k63, k83, k133, k143, f53, gP2.1, ne_eq, not_false_eq_true, not_true_eq_false, true_and, and_true, and_self, true_imp_iff, false_imp_iff, imp_self, Bool.not_false, Bool.not_true, reduceCtorEq, ab_isJ, ab_psh, ab_cats, Bool.false_eq_true, if_true, if_false, ab_shf, ab_shw, Int.le_refl, Classical.not_not, Int.zero_add, forall_const, ↓ab_itT, ↓ab_itF, ab_anT, ab_w32_id, ab_rdf_ne, ab_rdw_ne, ab_rdw_eq, ab_rdf_in, ab_td2, ab_tm2, true_or, or_true]
            all_goals exact key3
        have hg2 := w2.geo
        obtain ⟨k02, k12, k22, k32, k42, k62, k82, k132, k142⟩ := hg2.kit hK
        clear hF hO hj hk h
        simp (disch := omega) only [rX7_readPerson_43, rX7_readPerson_44, rX7_readPerson_46, rX7_readPerson_48, rX7_readPerson_50, rX7_readPerson_52, gS_2, gP_2_0, gS_3, hg2, e12, k02, k12, k22, k32, k42, k62, k82, k132, k142, ne_eq, not_false_eq_true, not_true_eq_false, true_and, and_true, and_self, true_imp_iff, false_imp_iff, imp_self, Bool.not_false, Bool.not_true, reduceCtorEq, ab_isJ, ab_psh, ab_cats, Bool.false_eq_true, if_true, if_false, ab_shf, ab_shw, Int.le_refl, Classical.not_not, Int.zero_add, forall_const, ↓ab_itT, ↓ab_itF, ab_anT, ab_w32_id, ab_rdf_ne, ab_rdw_ne, ab_rdw_eq, ab_rdf_in, ab_td2, ab_tm2, true_or, or_true]
        all_goals exact key2
      have hg1 := h.geo
      obtain ⟨k01, k11, k21, k31, k41, k61, k81, k131, k141⟩ := hg1.kit hK
      have gP1 := hg1.pers hK n6.1 (by omega)
      clear hF hO hj hk h
      simp (disch := omega) only [rX7_readPerson_20, rX7_readPerson_25, rX7_readPerson_26, rX7_readPerson_27, rX7_readPerson_30, rX7_readPerson_33, rX7_readPerson_36, rX7_readPerson_37, rX7_readPerson_40, rX5_begin_0, rX5_begin_1, rX5_begin_2, rX5_begin_5, rX5_begin_6, rX5_begin_7, rX5_begin_10, rX5_begin_11, rX5_begin_12, rX5_begin_15, rX5_begin_16, rX5_begin_17, rX5_begin_20, rX5_begin_21, rX5_begin_22, rX5_begin_25, rX5_begin_26, rX5_begin_27, rX5_begin_30, gS_2, gP_2_0, gS_3, hg1, e10, k01, k11, k21, k31, k41, k61, k81, k131, k141, do_X5_begin, el, gP1.1, ne_eq, not_false_eq_true, not_true_eq_false, true_and, and_true, and_self, true_imp_iff, false_imp_iff, imp_self, Bool.not_false, Bool.not_true, reduceCtorEq, ab_isJ, ab_psh, ab_cats, Bool.false_eq_true, if_true, if_false, ab_shf, ab_shw, Int.le_refl, Classical.not_not, Int.zero_add, forall_const, ↓ab_itT, ↓ab_itF, ab_anT, ab_w32_id, ab_rdf_ne, ab_rdw_ne, ab_rdw_eq, ab_rdf_in, ab_td2, ab_tm2, true_or, or_true]
      all_goals exact key1
  have hg0 := h.geo
  obtain ⟨k00, k10, k20, k30, k40, k60, k80, k130, k140⟩ := hg0.kit hK
  have gP0 := hg0.pers hK n6.1 (by omega)
  clear hF hO hj hk h
  simp (disch := omega) only [do_X7_readPerson, rX7_readPerson_0, rX7_readPerson_1, rX7_readPerson_4, rX7_readPerson_7, rX7_readPerson_8, rX7_readPerson_11, rX7_readPerson_14, rX7_readPerson_15, rX7_readPerson_16, rX7_readPerson_17, gS_2, gP_2_0, gS_3, hg0, e10, k00, k10, k20, k30, k40, k60, k80, k130, k140, c7, gP0.1, gP0.2, ne_eq, not_false_eq_true, not_true_eq_false, true_and, and_true, and_self, true_imp_iff, false_imp_iff, imp_self, Bool.not_false, Bool.not_true, reduceCtorEq, ab_isJ, ab_psh, ab_cats, Bool.false_eq_true, if_true, if_false, ab_shf, ab_shw, Int.le_refl, Classical.not_not, Int.zero_add, forall_const, ↓ab_itT, ↓ab_itF, ab_anT, ab_w32_id, ab_rdf_ne, ab_rdw_ne, ab_rdw_eq, ab_rdf_in, ab_td2, ab_tm2, true_or, or_true]
  all_goals exact key0
end
