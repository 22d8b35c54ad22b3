/-! READER of the class: the lines (written by gen/glines.py) -/
section
variable {X : ab_X} {σ τ : ab_S} {Q : Option ab_V → ab_S → Prop} {n s K : Int} {tp : Int → Int} {κ : ac_K} {r : ar_R}
set_option maxHeartbeats 4000000 in
theorem sp_readPiece (h : ac_RC σ n tp s) (hk : ar_KF σ K κ) (hj : ar_J κ) (h9 : κ 9 0 < 4) (hF : ar_hF Q σ K (pr_piece tp n κ s)) (hO : ar_hO Q σ K n tp (pr_piece tp n κ s)) : ab_Do X 52 [ab_R 2] σ Q := by
  have hK := hk.1
  have hv : K = 5 ∨ K = 329 := hK
  have hK2 : (2 : Int) ≠ K := by omega
  generalize er : pr_piece tp n κ s = r at hF hO
  unfold pr_piece at er
  have S0 : ab_Same ac_PR σ σ := ab_Same.refl
  have W0 : ab_Same (ar_PL K) σ σ := ab_Same.refl
  have e10 := hk.2.1
  have n9 := hj.1.2.2.2.2
  have key0 : ab_Do X 56 [ab_R 2, ab_R (-14), ab_R (-15), ab_R (-19), ab_R (-19)] σ (fun r σ' => ab_Run X 52 12 (12, 0, 0) [ab_R 2] (ab_psh r []) σ' Q) := by
    refine sp_kindE h ac_TX12 ac_TX13 ac_TX17 ac_TX17 er (fun wf pl ef τ1 u1 a1 b1 => ?_) (fun a s1 aq er1 τ1 u1 f51 w1 => ?_)
    · have kq := hF wf pl ef τ1 (W0.trans ((S0.trans u1).rl)) a1 b1
      clear hF hO hj hk h
      simp (disch := omega) only [rX7_readPiece_12, rX7_readPiece_15, rX7_readPiece_16, ne_eq, not_false_eq_true, not_true_eq_false, true_and, and_true, and_self, true_imp_iff, false_imp_iff, imp_self, Bool.not_false, Bool.not_true, reduceCtorEq, ab_isJ, ab_psh, ab_cats, Bool.false_eq_true, if_true, if_false, ab_shf, ab_shw, Int.le_refl, Classical.not_not, Int.zero_add, forall_const, ↓ab_itT, ↓ab_itF, ab_anT, ab_w32_id, ab_rdf_ne, ab_rdw_ne, ab_rdw_eq, ab_rdf_in, ab_td2, ab_tm2, true_or, or_true]
      all_goals exact kq
    · have S1 := S0.trans u1
      have e11 : ab_rd τ1 2 1 = K := by rw [u1.2.2 2 1 (by unfold ac_PR ac_PK9; omega)]; exact e10
      have hR1 : ac_RC (ab_wr τ1 (K + 3) (κ 9 0) (a)) n tp s1 := (ac_RC.wrK (K := K) w1 (Or.inr ⟨hK, (Or.inr (Or.inl rfl))⟩))
      have S1w : ab_Same ac_PR (ab_wr σ (K + 3) (κ 9 0) (a)) (ab_wr τ1 (K + 3) (κ 9 0) (a)) := S1.wr2
      have W1w : ab_Same (ar_PL K) σ (ab_wr σ (K + 3) (κ 9 0) (a)) := (W0.wr (Or.inr (Or.inr (Or.inr (Or.inl rfl)))))
      have e11w : ab_rd (ab_wr τ1 (K + 3) (κ 9 0) (a)) 2 1 = K := by rw [ab_rdw_ne (Or.inl (by omega))]; exact e11
      have key1 : ab_Do X 57 [ab_R 2, ab_I 0, ab_I 5] (ab_wr τ1 (K + 3) (κ 9 0) (a)) (fun r σ' => ab_Run X 52 42 (12, 0, 0) [ab_R 2] (ab_psh r []) σ' Q) := by
        refine sp_wholeE hR1  er1 (fun wf pl ef τ2 u2 a2 b2 => ?_) (fun v vb er2 τ2 u2 f52 w2 => ?_)
        · have kq := hF wf pl ef τ2 (W1w.trans ((S1w.trans u2).rl)) a2 b2
          clear hF hO hj hk h
          simp (disch := omega) only [rX7_readPiece_42, rX7_readPiece_45, rX7_readPiece_46, ne_eq, not_false_eq_true, not_true_eq_false, true_and, and_true, and_self, true_imp_iff, false_imp_iff, imp_self, Bool.not_false, Bool.not_true, reduceCtorEq, ab_isJ, ab_psh, ab_cats, Bool.false_eq_true, if_true, if_false, ab_shf, ab_shw, Int.le_refl, Classical.not_not, Int.zero_add, forall_const, ↓ab_itT, ↓ab_itF, ab_anT, ab_w32_id, ab_rdf_ne, ab_rdw_ne, ab_rdw_eq, ab_rdf_in, ab_td2, ab_tm2, true_or, or_true]
          all_goals exact kq
        · have u2 : ab_Same ac_PR _ τ2 := u2.mono (fun _ _ z => Or.inr ⟨z.1, by omega⟩)
          have S2 := S1w.trans u2
          have e12 : ab_rd τ2 2 1 = K := by rw [u2.2.2 2 1 (by unfold ac_PR ac_PK9; omega)]; exact e11w
          have key2 : ab_Do X 70 [ab_R 3] τ2 (fun r σ' => ab_Run X 52 54 (12, 0, 0) [ab_R 2] (ab_psh r []) σ' Q) := by
            refine sp_nextR w2 (fun τ3 u3 w3 => ?_)
            have S3 := S2.trans u3.kr
            have e13 : ab_rd τ3 2 1 = K := by rw [u3.2.2 2 1 (by unfold ac_PK9; omega)]; exact e12
            have g5 : ab_rd τ3 2 5 = v := by rw [u3.2.2 2 5 (by unfold ac_PK9; omega)]; exact f52
            have hg3 := w3.geo
            have c12f : ab_rd τ3 K 12 = κ 9 0 := by rw [S3.2.2 K 12 (by unfold ac_PR ac_PK9; omega), ab_rdw_ne (by omega)]; exact hk.2.2.2.2.1.2.2.2.2.2
            have Rf : ac_RC (ab_wr (ab_wr τ3 (K + 4) (κ 9 0) (v)) (K) 12 (κ 9 0 + 1)) n tp _ := (ac_RC.wrK (K := K) (ac_RC.wrK (K := K) w3 (Or.inr ⟨hK, (Or.inr (Or.inr (Or.inl rfl)))⟩)) (Or.inr ⟨hK, (ar_PKk (by decide))⟩))
            have Sf : ab_Same ac_PR (ab_wr (ab_wr (ab_wr σ (K + 3) (κ 9 0) (a)) (K + 4) (κ 9 0) (v)) (K) 12 (κ 9 0 + 1)) (ab_wr (ab_wr τ3 (K + 4) (κ 9 0) (v)) (K) 12 (κ 9 0 + 1)) := S3.wr2.wr2
            have Wf : ab_Same (ar_PL K) σ (ab_wr (ab_wr (ab_wr σ (K + 3) (κ 9 0) (a)) (K + 4) (κ 9 0) (v)) (K) 12 (κ 9 0 + 1)) := ((W1w.wr (Or.inr (Or.inr (Or.inr (Or.inr (Or.inl rfl)))))).wr (Or.inr (Or.inr (ar_PKk (by decide)))))
            have Kf : ar_KF (ab_wr (ab_wr τ3 (K + 4) (κ 9 0) (v)) (K) 12 (κ 9 0 + 1)) K (ar_uI κ a v) := ar_KF.same (ar_KF_I hk hj.1) Sf
            have kq := hO _ _ er2.symm _ (Wf.trans Sf.rl) Rf Kf
            clear hF hO hj hk h Rf Sf Wf Kf
            obtain ⟨k03, k13, k23, k33, k43, k63, k83, k133, k143⟩ := hg3.kit hK
            simp (disch := omega) only [rX7_readPiece_54, rX7_readPiece_55, rX7_readPiece_58, rX7_readPiece_61, rX7_readPiece_62, rX7_readPiece_65, rX7_readPiece_68, rX7_readPiece_69, rX7_readPiece_72, rX7_readPiece_73, rX7_readPiece_74, rX7_readPiece_77I, rX7_readPiece_77R, rX7_readPiece_78, rX7_readPiece_81, rX7_readPiece_82, rX7_readPiece_83, rX7_readPiece_86, rX7_readPiece_87, gS_2, gP_2_0, gS_3, hg3, e13, k03, k13, k23, k33, k43, k63, k83, k133, k143, g5, c12f, ne_eq, not_false_eq_true, not_true_eq_false, true_and, and_true, and_self, true_imp_iff, false_imp_iff, imp_self, Bool.not_false, Bool.not_true, reduceCtorEq, ab_isJ, ab_psh, ab_cats, Bool.false_eq_true, if_true, if_false, ab_shf, ab_shw, Int.le_refl, Classical.not_not, Int.zero_add, forall_const, ↓ab_itT, ↓ab_itF, ab_anT, ab_w32_id, ab_rdf_ne, ab_rdw_ne, ab_rdw_eq, ab_rdf_in, ab_td2, ab_tm2, true_or, or_true]
            all_goals exact kq
          have hg2 := w2.geo
          obtain ⟨k02, k12, k22, k32, k42, k62, k82, k132, k142⟩ := hg2.kit hK
          clear hF hO hj hk h
          simp (disch := omega) only [rX7_readPiece_42, rX7_readPiece_47, rX7_readPiece_48, rX7_readPiece_51, gS_2, gP_2_0, gS_3, hg2, e12, k02, k12, k22, k32, k42, k62, k82, k132, k142, ne_eq, not_false_eq_true, not_true_eq_false, true_and, and_true, and_self, true_imp_iff, false_imp_iff, imp_self, Bool.not_false, Bool.not_true, reduceCtorEq, ab_isJ, ab_psh, ab_cats, Bool.false_eq_true, if_true, if_false, ab_shf, ab_shw, Int.le_refl, Classical.not_not, Int.zero_add, forall_const, ↓ab_itT, ↓ab_itF, ab_anT, ab_w32_id, ab_rdf_ne, ab_rdw_ne, ab_rdw_eq, ab_rdf_in, ab_td2, ab_tm2, true_or, or_true]
          all_goals exact key2
      have hg1 := w1.geo
      obtain ⟨k01, k11, k21, k31, k41, k61, k81, k131, k141⟩ := hg1.kit hK
      have c12 := (hk.same S1).2.2.2.2.1.2.2.2.2.2
      clear hF hO hj hk h
      simp (disch := omega) only [rX7_readPiece_12, rX7_readPiece_17, rX7_readPiece_18, rX7_readPiece_21, rX7_readPiece_24, rX7_readPiece_25, rX7_readPiece_28, rX7_readPiece_31, rX7_readPiece_32, rX7_readPiece_35, rX7_readPiece_36, rX7_readPiece_37, rX7_readPiece_38, rX7_readPiece_39, gS_2, gP_2_0, gS_3, hg1, e11, k01, k11, k21, k31, k41, k61, k81, k131, k141, f51, c12, ne_eq, not_false_eq_true, not_true_eq_false, true_and, and_true, and_self, true_imp_iff, false_imp_iff, imp_self, Bool.not_false, Bool.not_true, reduceCtorEq, ab_isJ, ab_psh, ab_cats, Bool.false_eq_true, if_true, if_false, ab_shf, ab_shw, Int.le_refl, Classical.not_not, Int.zero_add, forall_const, ↓ab_itT, ↓ab_itF, ab_anT, ab_w32_id, ab_rdf_ne, ab_rdw_ne, ab_rdw_eq, ab_rdf_in, ab_td2, ab_tm2, true_or, or_true]
      all_goals exact key1
  have hg0 := h.geo
  obtain ⟨k00, k10, k20, k30, k40, k60, k80, k130, k140⟩ := hg0.kit hK
  clear hF hO hj hk h
  simp (disch := omega) only [do_X7_readPiece, rX7_readPiece_0, rX7_readPiece_1, rX7_readPiece_3, rX7_readPiece_5, rX7_readPiece_7, rX7_readPiece_9, gS_2, gP_2_0, gS_3, hg0, e10, k00, k10, k20, k30, k40, k60, k80, k130, k140, ne_eq, not_false_eq_true, not_true_eq_false, true_and, and_true, and_self, true_imp_iff, false_imp_iff, imp_self, Bool.not_false, Bool.not_true, reduceCtorEq, ab_isJ, ab_psh, ab_cats, Bool.false_eq_true, if_true, if_false, ab_shf, ab_shw, Int.le_refl, Classical.not_not, Int.zero_add, forall_const, ↓ab_itT, ↓ab_itF, ab_anT, ab_w32_id, ab_rdf_ne, ab_rdw_ne, ab_rdw_eq, ab_rdf_in, ab_td2, ab_tm2, true_or, or_true]
  all_goals exact key0
set_option maxHeartbeats 4000000 in
theorem sp_readCheats (h : ac_RC σ n tp s) (hk : ar_KF σ K κ) (hj : ar_J κ) (hF : ar_hF Q σ K (pr_cheats tp n κ s)) (hO : ar_hO Q σ K n tp (pr_cheats tp n κ s)) : ab_Do X 53 [ab_R 2] σ Q := by
  have hK := hk.1
  have hv : K = 5 ∨ K = 329 := hK
  have hK2 : (2 : Int) ≠ K := by omega
  generalize er : pr_cheats tp n κ s = r at hF hO
  unfold pr_cheats at er
  have S0 : ab_Same ac_PR σ σ := ab_Same.refl
  have W0 : ab_Same (ar_PL K) σ σ := ab_Same.refl
  have e10 := hk.2.1
  have n6 := hj.1.2.1
  have key0 : ab_Do X 60 [ab_R 2, ab_I (-1)] σ (fun r σ' => ab_Run X 53 5 (13, 0, 0) [ab_R 2, ab_R 0] (ab_psh r []) σ' Q) := by
    refine sp_persE h hk hj er (fun wf pl ef τ1 u1 a1 b1 => ?_) (fun p pb np er1 τ1 u1 f51 w1 => ?_)
    · have kq := hF wf pl ef τ1 (W0.trans ((S0.trans u1).rl)) a1 b1
      clear hF hO hj hk h
      simp (disch := omega) only [rX7_readCheats_5, rX7_readCheats_8, rX7_readCheats_9, ne_eq, not_false_eq_true, not_true_eq_false, true_and, and_true, and_self, true_imp_iff, false_imp_iff, imp_self, Bool.not_false, Bool.not_true, reduceCtorEq, ab_isJ, ab_psh, ab_cats, Bool.false_eq_true, if_true, if_false, ab_shf, ab_shw, Int.le_refl, Classical.not_not, Int.zero_add, forall_const, ↓ab_itT, ↓ab_itF, ab_anT, ab_w32_id, ab_rdf_ne, ab_rdw_ne, ab_rdw_eq, ab_rdf_in, ab_td2, ab_tm2, true_or, or_true]
      all_goals exact kq
    · have S1 := S0.trans u1
      have e11 : ab_rd τ1 2 1 = K := by rw [u1.2.2 2 1 (by unfold ac_PR ac_PK9; omega)]; exact e10
      have p9 := (((hk.same S1).2.2.2.2.2.2.1 p pb.1 pb.2).1).2.2.2.2.2.2.2.2.1
      have gP := w1.geo.pers hK pb.1 (by omega)
      by_cases zz : κ 27 p = -1
      · rw [if_pos zz] at er1
        have key2 : ab_Do X 70 [ab_R 3] τ1 (fun r σ' => ab_Run X 53 44 (13, 0, 0) [ab_R 2, ab_R (K + 20 + p)] (ab_psh r []) σ' Q) := by
          refine sp_nextR w1 (fun τ3 u3 w3 => ?_)
          have S3 := S1.trans u3.kr
          have e13 : ab_rd τ3 2 1 = K := by rw [u3.2.2 2 1 (by unfold ac_PK9; omega)]; exact e11
          have key3 : ab_Do X 57 [ab_R 2, ab_I 0, ab_I 99] τ3 (fun r σ' => ab_Run X 53 51 (13, 0, 0) [ab_R 2, ab_R (K + 20 + p)] (ab_psh r []) σ' Q) := by
            refine sp_wholeE w3  er1 (fun wf pl ef τ4 u4 a4 b4 => ?_) (fun v vb er4 τ4 u4 f54 w4 => ?_)
            · have kq := hF wf pl ef τ4 (W0.trans ((S3.trans u4).rl)) a4 b4
              clear hF hO hj hk h
              simp (disch := omega) only [rX7_readCheats_51, rX7_readCheats_54, rX7_readCheats_55, ne_eq, not_false_eq_true, not_true_eq_false, true_and, and_true, and_self, true_imp_iff, false_imp_iff, imp_self, Bool.not_false, Bool.not_true, reduceCtorEq, ab_isJ, ab_psh, ab_cats, Bool.false_eq_true, if_true, if_false, ab_shf, ab_shw, Int.le_refl, Classical.not_not, Int.zero_add, forall_const, ↓ab_itT, ↓ab_itF, ab_anT, ab_w32_id, ab_rdf_ne, ab_rdw_ne, ab_rdw_eq, ab_rdf_in, ab_td2, ab_tm2, true_or, or_true]
              all_goals exact kq
            · have u4 : ab_Same ac_PR _ τ4 := u4.mono (fun _ _ z => Or.inr ⟨z.1, by omega⟩)
              have S4 := S3.trans u4
              have e14 : ab_rd τ4 2 1 = K := by rw [u4.2.2 2 1 (by unfold ac_PR ac_PK9; omega)]; exact e13
              have hR4 : ac_RC (ab_wr τ4 (K + 20 + p) 9 (v)) n tp _ := (ac_RC.wrK (K := K) w4 (Or.inr ⟨hK, (ar_PKq (by omega))⟩))
              have S4w : ab_Same ac_PR (ab_wr σ (K + 20 + p) 9 (v)) (ab_wr τ4 (K + 20 + p) 9 (v)) := S4.wr2
              have W4w : ab_Same (ar_PL K) σ (ab_wr σ (K + 20 + p) 9 (v)) := (W0.wr (Or.inr (Or.inr (ar_PKq (by omega)))))
              have e14w : ab_rd (ab_wr τ4 (K + 20 + p) 9 (v)) 2 1 = K := by rw [ab_rdw_ne (Or.inl (by omega))]; exact e14
              have key4 : ab_Do X 70 [ab_R 3] (ab_wr τ4 (K + 20 + p) 9 (v)) (fun r σ' => ab_Run X 53 71 (13, 0, 0) [ab_R 2, ab_R (K + 20 + p)] (ab_psh r []) σ' Q) := by
                refine sp_nextR hR4 (fun τ5 u5 w5 => ?_)
                have S5 := S4w.trans u5.kr
                have e15 : ab_rd τ5 2 1 = K := by rw [u5.2.2 2 1 (by unfold ac_PK9; omega)]; exact e14w
                have key5 : ab_Do X 55 [ab_R 2, ab_R (-6), ab_I 1, ab_I 9] τ5 (fun r σ' => ab_Run X 53 80 (13, 0, 0) [ab_R 2, ab_R (K + 20 + p)] (ab_psh r []) σ' Q) := by
                  refine sp_partE w5 ac_TX4 er4 (fun wf pl ef τ6 u6 a6 b6 => ?_) (fun v2 s2 er6 τ6 u6 f56 w6 => ?_)
                  · have kq := hF wf pl ef τ6 (W4w.trans ((S5.trans u6).rl)) a6 b6
                    clear hF hO hj hk h
                    simp (disch := omega) only [rX7_readCheats_80, rX7_readCheats_83, rX7_readCheats_84, ne_eq, not_false_eq_true, not_true_eq_false, true_and, and_true, and_self, true_imp_iff, false_imp_iff, imp_self, Bool.not_false, Bool.not_true, reduceCtorEq, ab_isJ, ab_psh, ab_cats, Bool.false_eq_true, if_true, if_false, ab_shf, ab_shw, Int.le_refl, Classical.not_not, Int.zero_add, forall_const, ↓ab_itT, ↓ab_itF, ab_anT, ab_w32_id, ab_rdf_ne, ab_rdw_ne, ab_rdw_eq, ab_rdf_in, ab_td2, ab_tm2, true_or, or_true]
                    all_goals exact kq
                  · have S6 := S5.trans u6
                    have e16 : ab_rd τ6 2 1 = K := by rw [u6.2.2 2 1 (by unfold ac_PR ac_PK9; omega)]; exact e15
                    have hR6 : ac_RC (ab_wr τ6 (K + 20 + p) 10 (v2)) n tp s2 := (ac_RC.wrK (K := K) w6 (Or.inr ⟨hK, (ar_PKq (by omega))⟩))
                    have S6w : ab_Same ac_PR (ab_wr (ab_wr σ (K + 20 + p) 9 (v)) (K + 20 + p) 10 (v2)) (ab_wr τ6 (K + 20 + p) 10 (v2)) := S6.wr2
                    have W6w : ab_Same (ar_PL K) σ (ab_wr (ab_wr σ (K + 20 + p) 9 (v)) (K + 20 + p) 10 (v2)) := (W4w.wr (Or.inr (Or.inr (ar_PKq (by omega)))))
                    have e16w : ab_rd (ab_wr τ6 (K + 20 + p) 10 (v2)) 2 1 = K := by rw [ab_rdw_ne (Or.inl (by omega))]; exact e16
                    have key6 : ab_Do X 55 [ab_R 2, ab_R (-28), ab_I 1, ab_I 9] (ab_wr τ6 (K + 20 + p) 10 (v2)) (fun r σ' => ab_Run X 53 103 (13, 0, 0) [ab_R 2, ab_R (K + 20 + p)] (ab_psh r []) σ' Q) := by
                      refine sp_partE hR6 ac_TX26 er6 (fun wf pl ef τ7 u7 a7 b7 => ?_) (fun v3 s3 er7 τ7 u7 f57 w7 => ?_)
                      · have kq := hF wf pl ef τ7 (W6w.trans ((S6w.trans u7).rl)) a7 b7
                        clear hF hO hj hk h
                        simp (disch := omega) only [rX7_readCheats_103, rX7_readCheats_106, rX7_readCheats_107, ne_eq, not_false_eq_true, not_true_eq_false, true_and, and_true, and_self, true_imp_iff, false_imp_iff, imp_self, Bool.not_false, Bool.not_true, reduceCtorEq, ab_isJ, ab_psh, ab_cats, Bool.false_eq_true, if_true, if_false, ab_shf, ab_shw, Int.le_refl, Classical.not_not, Int.zero_add, forall_const, ↓ab_itT, ↓ab_itF, ab_anT, ab_w32_id, ab_rdf_ne, ab_rdw_ne, ab_rdw_eq, ab_rdf_in, ab_td2, ab_tm2, true_or, or_true]
                        all_goals exact kq
                      · have S7 := S6w.trans u7
                        have e17 : ab_rd τ7 2 1 = K := by rw [u7.2.2 2 1 (by unfold ac_PR ac_PK9; omega)]; exact e16w
                        have hg7 := w7.geo
                        have gPc := hg7.pers hK pb.1 (by omega)
                        have Rf : ac_RC (ab_wr τ7 (K + 20 + p) 11 (v3)) n tp s3 := (ac_RC.wrK (K := K) w7 (Or.inr ⟨hK, (ar_PKq (by omega))⟩))
                        have Sf : ab_Same ac_PR (ab_wr (ab_wr (ab_wr σ (K + 20 + p) 9 (v)) (K + 20 + p) 10 (v2)) (K + 20 + p) 11 (v3)) (ab_wr τ7 (K + 20 + p) 11 (v3)) := S7.wr2
                        have Wf : ab_Same (ar_PL K) σ (ab_wr (ab_wr (ab_wr σ (K + 20 + p) 9 (v)) (K + 20 + p) 10 (v2)) (K + 20 + p) 11 (v3)) := (W6w.wr (Or.inr (Or.inr (ar_PKq (by omega)))))
                        have Kf : ar_KF (ab_wr τ7 (K + 20 + p) 11 (v3)) K (ar_uC κ p v v2 v3) := ar_KF.same (ar_KF_C hk hj.1 pb (by omega)) Sf
                        have kq := hO _ _ er7.symm _ (Wf.trans Sf.rl) Rf Kf
                        clear hF hO hj hk h Rf Sf Wf Kf
                        obtain ⟨k07, k17, k27, k37, k47, k67, k87, k137, k147⟩ := hg7.kit hK
                        simp (disch := omega) only [rX7_readCheats_103, rX7_readCheats_108, rX7_readCheats_109, rX7_readCheats_110, rX7_readCheats_113, rX7_readCheats_116, rX7_readCheats_117, gS_2, gP_2_0, gS_3, hg7, e17, k07, k17, k27, k37, k47, k67, k87, k137, k147, f57, gPc.1, ne_eq, not_false_eq_true, not_true_eq_false, true_and, and_true, and_self, true_imp_iff, false_imp_iff, imp_self, Bool.not_false, Bool.not_true, reduceCtorEq, ab_isJ, ab_psh, ab_cats, Bool.false_eq_true, if_true, if_false, ab_shf, ab_shw, Int.le_refl, Classical.not_not, Int.zero_add, forall_const, ↓ab_itT, ↓ab_itF, ab_anT, ab_w32_id, ab_rdf_ne, ab_rdw_ne, ab_rdw_eq, ab_rdf_in, ab_td2, ab_tm2, true_or, or_true]
                        all_goals exact kq
                    have hg6 := w6.geo
                    obtain ⟨k06, k16, k26, k36, k46, k66, k86, k136, k146⟩ := hg6.kit hK
                    have gPb := hg6.pers hK pb.1 (by omega)
                    clear hF hO hj hk h
                    simp (disch := omega) only [rX7_readCheats_80, rX7_readCheats_85, rX7_readCheats_86, rX7_readCheats_87, rX7_readCheats_90, rX7_readCheats_93, rX7_readCheats_94, rX7_readCheats_97, rX7_readCheats_98, rX7_readCheats_100, gS_2, gP_2_0, gS_3, hg6, e16, k06, k16, k26, k36, k46, k66, k86, k136, k146, f56, gPb.1, ne_eq, not_false_eq_true, not_true_eq_false, true_and, and_true, and_self, true_imp_iff, false_imp_iff, imp_self, Bool.not_false, Bool.not_true, reduceCtorEq, ab_isJ, ab_psh, ab_cats, Bool.false_eq_true, if_true, if_false, ab_shf, ab_shw, Int.le_refl, Classical.not_not, Int.zero_add, forall_const, ↓ab_itT, ↓ab_itF, ab_anT, ab_w32_id, ab_rdf_ne, ab_rdw_ne, ab_rdw_eq, ab_rdf_in, ab_td2, ab_tm2, true_or, or_true]
                    all_goals exact key6
                have hg5 := w5.geo
                obtain ⟨k05, k15, k25, k35, k45, k65, k85, k135, k145⟩ := hg5.kit hK
                clear hF hO hj hk h
                simp (disch := omega) only [rX7_readCheats_71, rX7_readCheats_72, rX7_readCheats_74, rX7_readCheats_75, rX7_readCheats_77, gS_2, gP_2_0, gS_3, hg5, e15, k05, k15, k25, k35, k45, k65, k85, k135, k145, ne_eq, not_false_eq_true, not_true_eq_false, true_and, and_true, and_self, true_imp_iff, false_imp_iff, imp_self, Bool.not_false, Bool.not_true, reduceCtorEq, ab_isJ, ab_psh, ab_cats, Bool.false_eq_true, if_true, if_false, ab_shf, ab_shw, Int.le_refl, Classical.not_not, Int.zero_add, forall_const, ↓ab_itT, ↓ab_itF, ab_anT, ab_w32_id, ab_rdf_ne, ab_rdw_ne, ab_rdw_eq, ab_rdf_in, ab_td2, ab_tm2, true_or, or_true]
                all_goals exact key5
              have hg4 := w4.geo
              obtain ⟨k04, k14, k24, k34, k44, k64, k84, k134, k144⟩ := hg4.kit hK
              have gPa := hg4.pers hK pb.1 (by omega)
              clear hF hO hj hk h
              simp (disch := omega) only [rX7_readCheats_51, rX7_readCheats_56, rX7_readCheats_57, rX7_readCheats_58, rX7_readCheats_61, rX7_readCheats_64, rX7_readCheats_65, rX7_readCheats_68, gS_2, gP_2_0, gS_3, hg4, e14, k04, k14, k24, k34, k44, k64, k84, k134, k144, f54, gPa.1, ne_eq, not_false_eq_true, not_true_eq_false, true_and, and_true, and_self, true_imp_iff, false_imp_iff, imp_self, Bool.not_false, Bool.not_true, reduceCtorEq, ab_isJ, ab_psh, ab_cats, Bool.false_eq_true, if_true, if_false, ab_shf, ab_shw, Int.le_refl, Classical.not_not, Int.zero_add, forall_const, ↓ab_itT, ↓ab_itF, ab_anT, ab_w32_id, ab_rdf_ne, ab_rdw_ne, ab_rdw_eq, ab_rdf_in, ab_td2, ab_tm2, true_or, or_true]
              all_goals exact key4
          have hg3 := w3.geo
          obtain ⟨k03, k13, k23, k33, k43, k63, k83, k133, k143⟩ := hg3.kit hK
          clear hF hO hj hk h
          simp (disch := omega) only [rX7_readCheats_44, rX7_readCheats_45, rX7_readCheats_46, rX7_readCheats_48, gS_2, gP_2_0, gS_3, hg3, e13, k03, k13, k23, k33, k43, k63, k83, k133, k143, ne_eq, not_false_eq_true, not_true_eq_false, true_and, and_true, and_self, true_imp_iff, false_imp_iff, imp_self, Bool.not_false, Bool.not_true, reduceCtorEq, ab_isJ, ab_psh, ab_cats, Bool.false_eq_true, if_true, if_false, ab_shf, ab_shw, Int.le_refl, Classical.not_not, Int.zero_add, forall_const, ↓ab_itT, ↓ab_itF, ab_anT, ab_w32_id, ab_rdf_ne, ab_rdw_ne, ab_rdw_eq, ab_rdf_in, ab_td2, ab_tm2, true_or, or_true]
          all_goals exact key3
        have hg2 := w1.geo
        obtain ⟨k02, k12, k22, k32, k42, k62, k82, k132, k142⟩ := hg2.kit hK
        clear hF hO hj hk h
        simp (disch := omega) only [rX7_readCheats_5, rX7_readCheats_10, rX7_readCheats_11, rX7_readCheats_14, rX7_readCheats_17, rX7_readCheats_18, rX7_readCheats_21, rX7_readCheats_22, rX7_readCheats_23, rX7_readCheats_24, rX7_readCheats_27, rX7_readCheats_28, rX7_readCheats_37, rX7_readCheats_38, rX7_readCheats_41, gS_2, gP_2_0, gS_3, hg2, e11, k02, k12, k22, k32, k42, k62, k82, k132, k142, f51, p9, gP.1, gP.2, ne_eq, not_false_eq_true, not_true_eq_false, true_and, and_true, and_self, true_imp_iff, false_imp_iff, imp_self, Bool.not_false, Bool.not_true, reduceCtorEq, ab_isJ, ab_psh, ab_cats, Bool.false_eq_true, if_true, if_false, ab_shf, ab_shw, Int.le_refl, Classical.not_not, Int.zero_add, forall_const, ↓ab_itT, ↓ab_itF, ab_anT, ab_w32_id, ab_rdf_ne, ab_rdw_ne, ab_rdw_eq, ab_rdf_in, ab_td2, ab_tm2, true_or, or_true]
        all_goals exact key2
      · rw [if_neg zz] at er1
        have kq := hF 3 _ er1.symm _ (W0.trans (S1.trans ac_stp_e.1).rl) ac_stp_e.2.1 ac_stp_e.2.2
        have c2 := fun k Q' => sp_stop (X := X) (Q := Q') (k := k) w1
        have hg1 := w1.geo
        obtain ⟨k01, k11, k21, k31, k41, k61, k81, k131, k141⟩ := hg1.kit hK
        clear hF hO hj hk h
        simp (disch := omega) only [rX7_readCheats_5, rX7_readCheats_10, rX7_readCheats_11, rX7_readCheats_14, rX7_readCheats_17, rX7_readCheats_18, rX7_readCheats_21, rX7_readCheats_22, rX7_readCheats_23, rX7_readCheats_24, rX7_readCheats_27, rX7_readCheats_28, rX7_readCheats_31, rX7_readCheats_32, rX7_readCheats_33, rX7_readCheats_36, gS_2, gP_2_0, gS_3, hg1, e11, k01, k11, k21, k31, k41, k61, k81, k131, k141, c2, f51, p9, gP.1, gP.2, ne_eq, not_false_eq_true, not_true_eq_false, true_and, and_true, and_self, true_imp_iff, false_imp_iff, imp_self, Bool.not_false, Bool.not_true, reduceCtorEq, ab_isJ, ab_psh, ab_cats, Bool.false_eq_true, if_true, if_false, ab_shf, ab_shw, Int.le_refl, Classical.not_not, Int.zero_add, forall_const, ↓ab_itT, ↓ab_itF, ab_anT, ab_w32_id, ab_rdf_ne, ab_rdw_ne, ab_rdw_eq, ab_rdf_in, ab_td2, ab_tm2, true_or, or_true]
        all_goals exact kq
  have hg0 := h.geo
  obtain ⟨k00, k10, k20, k30, k40, k60, k80, k130, k140⟩ := hg0.kit hK
  clear hF hO hj hk h
  simp (disch := omega) only [do_X7_readCheats, rX7_readCheats_0, rX7_readCheats_1, rX7_readCheats_2, gS_2, gP_2_0, gS_3, hg0, e10, k00, k10, k20, k30, k40, k60, k80, k130, k140, ne_eq, not_false_eq_true, not_true_eq_false, true_and, and_true, and_self, true_imp_iff, false_imp_iff, imp_self, Bool.not_false, Bool.not_true, reduceCtorEq, ab_isJ, ab_psh, ab_cats, Bool.false_eq_true, if_true, if_false, ab_shf, ab_shw, Int.le_refl, Classical.not_not, Int.zero_add, forall_const, ↓ab_itT, ↓ab_itF, ab_anT, ab_w32_id, ab_rdf_ne, ab_rdw_ne, ab_rdw_eq, ab_rdf_in, ab_td2, ab_tm2, true_or, or_true]
  all_goals exact key0
end
