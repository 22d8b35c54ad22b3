/-! READER of the class: the lines (written by gen/glines.py) -/
def ar_hF (Q : Option ab_V → ab_S → Prop) (σ : ab_S) (K : Int) (r : ar_R) : Prop := ∀ w pl, r = .inl (w, pl) → ∀ τ, ab_Same (ar_PL K) σ τ → ab_rd τ 2 2 = w → ab_rd τ 2 3 = pl → Q (some (ab_I 0)) τ
def ar_hO (Q : Option ab_V → ab_S → Prop) (σ : ab_S) (K n : Int) (tp : Int → Int) (r : ar_R) : Prop := ∀ κ' s', r = .inr (κ', s') → ∀ τ, ab_Same (ar_PL K) σ τ → ac_RC τ n tp s' → ar_KF τ K κ' → Q (some (ab_I 1)) τ
theorem ar_PKk {K f : Int} (h : (0 ≤ f ∧ f ≤ 5) ∨ f = 7 ∨ (9 ≤ f ∧ f ≤ 12)) : ar_PK K K f := Or.inl ⟨rfl, h⟩
theorem ar_PKq {K p f : Int} (h : 0 ≤ p ∧ p < 6) : ar_PK K (K + 20 + p) f := Or.inr (Or.inr (Or.inr (Or.inr ⟨by omega, by omega⟩)))
section
variable {X : ab_X} {σ τ : ab_S} {Q : Option ab_V → ab_S → Prop} {n s K : Int} {tp : Int → Int} {κ : ac_K} {r : ar_R}
set_option maxHeartbeats 4000000 in
theorem sp_readRules (h : ac_RC σ n tp s) (hk : ar_KF σ K κ) (hj : ar_J κ) (h0 : κ 11 0 = 0) (hF : ar_hF Q σ K (pr_rules tp n κ (ac_nx tp n s))) (hO : ar_hO Q σ K n tp (pr_rules tp n κ (ac_nx tp n s))) : ab_Do X 46 [ab_R 2] σ Q := by
  have hK := hk.1
  have hv : K = 5 ∨ K = 329 := hK
  have hK2 : (2 : Int) ≠ K := by omega
  generalize er : pr_rules tp n κ (ac_nx tp n s) = r at hF hO
  unfold pr_rules at er
  have S0 : ab_Same ac_PR σ σ := ab_Same.refl
  have W0 : ab_Same (ar_PL K) σ σ := ab_Same.refl
  have e10 := hk.2.1
  have hR0 : ac_RC (ab_wr σ (2) 4 (1)) n tp s := (ac_RC.wrK (K := K) h (Or.inl ⟨rfl, rfl⟩))
  have S0w : ab_Same ac_PR (ab_wr σ (2) 4 (1)) (ab_wr σ (2) 4 (1)) := S0.wr2
  have W0w : ab_Same (ar_PL K) σ (ab_wr σ (2) 4 (1)) := (W0.wr (Or.inr (Or.inl ⟨rfl, rfl⟩)))
  have e10w : ab_rd (ab_wr σ (2) 4 (1)) 2 1 = K := by rw [ab_rdw_ne (Or.inr (by decide))]; exact e10
  have key0 : ab_Do X 70 [ab_R 3] (ab_wr σ (2) 4 (1)) (fun r σ' => ab_Run X 46 12 (13, 0, 0) [ab_R 2] (ab_psh r []) σ' Q) := by
    refine sp_nextR hR0 (fun τ1 u1 w1 => ?_)
    have S1 := S0w.trans u1.kr
    have e11 : ab_rd τ1 2 1 = K := by rw [u1.2.2 2 1 (by unfold ac_PK9; omega)]; exact e10w
    have key1 : ab_Do X 55 [ab_R 2, ab_R (-3), ab_I 0, ab_I 9] τ1 (fun r σ' => ab_Run X 46 21 (13, 0, 0) [ab_R 2] (ab_psh r []) σ' Q) := by
      refine sp_partE w1 ac_TX1 er (fun wf pl ef τ2 u2 a2 b2 => ?_) (fun v1 s1 er2 τ2 u2 f52 w2 => ?_)
      · have kq := hF wf pl ef τ2 (W0w.trans ((S1.trans u2).rl)) a2 b2
        clear hF hO hj hk h
        simp (disch := omega) only [rX7_readRules_21, rX7_readRules_24, rX7_readRules_25, ne_eq, not_false_eq_true, not_true_eq_false, true_and, and_true, and_self, true_imp_iff, false_imp_iff, imp_self, Bool.not_false, Bool.not_true, reduceCtorEq, ab_isJ, ab_psh, ab_cats, Bool.false_eq_true, if_true, if_false, ab_shf, ab_shw, Int.le_refl, Classical.not_not, Int.zero_add, forall_const, ↓ab_itT, ↓ab_itF, ab_anT, ab_w32_id, ab_rdf_ne, ab_rdw_ne, ab_rdw_eq, ab_rdf_in, ab_td2, ab_tm2, true_or, or_true]
        all_goals exact kq
      · have S2 := S1.trans u2
        have e12 : ab_rd τ2 2 1 = K := by rw [u2.2.2 2 1 (by unfold ac_PR ac_PK9; omega)]; exact e11
        have hR2 : ac_RC (ab_wr τ2 (K) 0 (v1)) n tp s1 := (ac_RC.wrK (K := K) w2 (Or.inr ⟨hK, (ar_PKk (by decide))⟩))
        have S2w : ab_Same ac_PR (ab_wr (ab_wr σ (2) 4 (1)) (K) 0 (v1)) (ab_wr τ2 (K) 0 (v1)) := S2.wr2
        have W2w : ab_Same (ar_PL K) σ (ab_wr (ab_wr σ (2) 4 (1)) (K) 0 (v1)) := (W0w.wr (Or.inr (Or.inr (ar_PKk (by decide)))))
        have e12w : ab_rd (ab_wr τ2 (K) 0 (v1)) 2 1 = K := by rw [ab_rdw_ne (Or.inl hK2)]; exact e12
        have key2 : ab_Do X 55 [ab_R 2, ab_R (-4), ab_I 25, ab_I 60] (ab_wr τ2 (K) 0 (v1)) (fun r σ' => ab_Run X 46 47 (13, 0, 0) [ab_R 2] (ab_psh r []) σ' Q) := by
          refine sp_partE hR2 ac_TX2 er2 (fun wf pl ef τ3 u3 a3 b3 => ?_) (fun v2 s2 er3 τ3 u3 f53 w3 => ?_)
          · have kq := hF wf pl ef τ3 (W2w.trans ((S2w.trans u3).rl)) a3 b3
            clear hF hO hj hk h
            simp (disch := omega) only [rX7_readRules_47, rX7_readRules_50, rX7_readRules_51, ne_eq, not_false_eq_true, not_true_eq_false, true_and, and_true, and_self, true_imp_iff, false_imp_iff, imp_self, Bool.not_false, Bool.not_true, reduceCtorEq, ab_isJ, ab_psh, ab_cats, Bool.false_eq_true, if_true, if_false, ab_shf, ab_shw, Int.le_refl, Classical.not_not, Int.zero_add, forall_const, ↓ab_itT, ↓ab_itF, ab_anT, ab_w32_id, ab_rdf_ne, ab_rdw_ne, ab_rdw_eq, ab_rdf_in, ab_td2, ab_tm2, true_or, or_true]
            all_goals exact kq
          · have S3 := S2w.trans u3
            have e13 : ab_rd τ3 2 1 = K := by rw [u3.2.2 2 1 (by unfold ac_PR ac_PK9; omega)]; exact e12w
            have hR3 : ac_RC (ab_wr τ3 (K) 1 (v2)) n tp s2 := (ac_RC.wrK (K := K) w3 (Or.inr ⟨hK, (ar_PKk (by decide))⟩))
            have S3w : ab_Same ac_PR (ab_wr (ab_wr (ab_wr σ (2) 4 (1)) (K) 0 (v1)) (K) 1 (v2)) (ab_wr τ3 (K) 1 (v2)) := S3.wr2
            have W3w : ab_Same (ar_PL K) σ (ab_wr (ab_wr (ab_wr σ (2) 4 (1)) (K) 0 (v1)) (K) 1 (v2)) := (W2w.wr (Or.inr (Or.inr (ar_PKk (by decide)))))
            have e13w : ab_rd (ab_wr τ3 (K) 1 (v2)) 2 1 = K := by rw [ab_rdw_ne (Or.inl hK2)]; exact e13
            have key3 : ab_Do X 55 [ab_R 2, ab_R (-5), ab_I 0, ab_I 99] (ab_wr τ3 (K) 1 (v2)) (fun r σ' => ab_Run X 46 72 (13, 0, 0) [ab_R 2] (ab_psh r []) σ' Q) := by
              refine sp_partE hR3 ac_TX3 er3 (fun wf pl ef τ4 u4 a4 b4 => ?_) (fun v3 s3 er4 τ4 u4 f54 w4 => ?_)
              · have kq := hF wf pl ef τ4 (W3w.trans ((S3w.trans u4).rl)) a4 b4
                clear hF hO hj hk h
                simp (disch := omega) only [rX7_readRules_72, rX7_readRules_75, rX7_readRules_76, ne_eq, not_false_eq_true, not_true_eq_false, true_and, and_true, and_self, true_imp_iff, false_imp_iff, imp_self, Bool.not_false, Bool.not_true, reduceCtorEq, ab_isJ, ab_psh, ab_cats, Bool.false_eq_true, if_true, if_false, ab_shf, ab_shw, Int.le_refl, Classical.not_not, Int.zero_add, forall_const, ↓ab_itT, ↓ab_itF, ab_anT, ab_w32_id, ab_rdf_ne, ab_rdw_ne, ab_rdw_eq, ab_rdf_in, ab_td2, ab_tm2, true_or, or_true]
                all_goals exact kq
              · have S4 := S3w.trans u4
                have e14 : ab_rd τ4 2 1 = K := by rw [u4.2.2 2 1 (by unfold ac_PR ac_PK9; omega)]; exact e13w
                have hR4 : ac_RC (ab_wr τ4 (K) 2 (v3)) n tp s3 := (ac_RC.wrK (K := K) w4 (Or.inr ⟨hK, (ar_PKk (by decide))⟩))
                have S4w : ab_Same ac_PR (ab_wr (ab_wr (ab_wr (ab_wr σ (2) 4 (1)) (K) 0 (v1)) (K) 1 (v2)) (K) 2 (v3)) (ab_wr τ4 (K) 2 (v3)) := S4.wr2
                have W4w : ab_Same (ar_PL K) σ (ab_wr (ab_wr (ab_wr (ab_wr σ (2) 4 (1)) (K) 0 (v1)) (K) 1 (v2)) (K) 2 (v3)) := (W3w.wr (Or.inr (Or.inr (ar_PKk (by decide)))))
                have e14w : ab_rd (ab_wr τ4 (K) 2 (v3)) 2 1 = K := by rw [ab_rdw_ne (Or.inl hK2)]; exact e14
                have key4 : ab_Do X 55 [ab_R 2, ab_R (-6), ab_I 0, ab_I 99] (ab_wr τ4 (K) 2 (v3)) (fun r σ' => ab_Run X 46 97 (13, 0, 0) [ab_R 2] (ab_psh r []) σ' Q) := by
                  refine sp_partE hR4 ac_TX4 er4 (fun wf pl ef τ5 u5 a5 b5 => ?_) (fun v4 s4 er5 τ5 u5 f55 w5 => ?_)
                  · have kq := hF wf pl ef τ5 (W4w.trans ((S4w.trans u5).rl)) a5 b5
                    clear hF hO hj hk h
                    simp (disch := omega) only [rX7_readRules_97, rX7_readRules_100, rX7_readRules_101, ne_eq, not_false_eq_true, not_true_eq_false, true_and, and_true, and_self, true_imp_iff, false_imp_iff, imp_self, Bool.not_false, Bool.not_true, reduceCtorEq, ab_isJ, ab_psh, ab_cats, Bool.false_eq_true, if_true, if_false, ab_shf, ab_shw, Int.le_refl, Classical.not_not, Int.zero_add, forall_const, ↓ab_itT, ↓ab_itF, ab_anT, ab_w32_id, ab_rdf_ne, ab_rdw_ne, ab_rdw_eq, ab_rdf_in, ab_td2, ab_tm2, true_or, or_true]
                    all_goals exact kq
                  · have S5 := S4w.trans u5
                    have e15 : ab_rd τ5 2 1 = K := by rw [u5.2.2 2 1 (by unfold ac_PR ac_PK9; omega)]; exact e14w
                    have hR5 : ac_RC (ab_wr τ5 (K) 3 (v4)) n tp s4 := (ac_RC.wrK (K := K) w5 (Or.inr ⟨hK, (ar_PKk (by decide))⟩))
                    have S5w : ab_Same ac_PR (ab_wr (ab_wr (ab_wr (ab_wr (ab_wr σ (2) 4 (1)) (K) 0 (v1)) (K) 1 (v2)) (K) 2 (v3)) (K) 3 (v4)) (ab_wr τ5 (K) 3 (v4)) := S5.wr2
                    have W5w : ab_Same (ar_PL K) σ (ab_wr (ab_wr (ab_wr (ab_wr (ab_wr σ (2) 4 (1)) (K) 0 (v1)) (K) 1 (v2)) (K) 2 (v3)) (K) 3 (v4)) := (W4w.wr (Or.inr (Or.inr (ar_PKk (by decide)))))
                    have e15w : ab_rd (ab_wr τ5 (K) 3 (v4)) 2 1 = K := by rw [ab_rdw_ne (Or.inl hK2)]; exact e15
                    have key5 : ab_Do X 55 [ab_R 2, ab_R (-7), ab_I 0, ab_I 99] (ab_wr τ5 (K) 3 (v4)) (fun r σ' => ab_Run X 46 122 (13, 0, 0) [ab_R 2] (ab_psh r []) σ' Q) := by
                      refine sp_partE hR5 ac_TX5 er5 (fun wf pl ef τ6 u6 a6 b6 => ?_) (fun v5 s5 er6 τ6 u6 f56 w6 => ?_)
                      · have kq := hF wf pl ef τ6 (W5w.trans ((S5w.trans u6).rl)) a6 b6
                        clear hF hO hj hk h
                        simp (disch := omega) only [rX7_readRules_122, rX7_readRules_125, rX7_readRules_126, ne_eq, not_false_eq_true, not_true_eq_false, true_and, and_true, and_self, true_imp_iff, false_imp_iff, imp_self, Bool.not_false, Bool.not_true, reduceCtorEq, ab_isJ, ab_psh, ab_cats, Bool.false_eq_true, if_true, if_false, ab_shf, ab_shw, Int.le_refl, Classical.not_not, Int.zero_add, forall_const, ↓ab_itT, ↓ab_itF, ab_anT, ab_w32_id, ab_rdf_ne, ab_rdw_ne, ab_rdw_eq, ab_rdf_in, ab_td2, ab_tm2, true_or, or_true]
                        all_goals exact kq
                      · have S6 := S5w.trans u6
                        have e16 : ab_rd τ6 2 1 = K := by rw [u6.2.2 2 1 (by unfold ac_PR ac_PK9; omega)]; exact e15w
                        have hg6 := w6.geo
                        have Rf : ac_RC (ab_wr τ6 (K) 4 (v5)) n tp s5 := (ac_RC.wrK (K := K) w6 (Or.inr ⟨hK, (ar_PKk (by decide))⟩))
                        have Sf : ab_Same ac_PR (ab_wr (ab_wr (ab_wr (ab_wr (ab_wr (ab_wr σ (2) 4 (1)) (K) 0 (v1)) (K) 1 (v2)) (K) 2 (v3)) (K) 3 (v4)) (K) 4 (v5)) (ab_wr τ6 (K) 4 (v5)) := S6.wr2
                        have Wf : ab_Same (ar_PL K) σ (ab_wr (ab_wr (ab_wr (ab_wr (ab_wr (ab_wr σ (2) 4 (1)) (K) 0 (v1)) (K) 1 (v2)) (K) 2 (v3)) (K) 3 (v4)) (K) 4 (v5)) := (W5w.wr (Or.inr (Or.inr (ar_PKk (by decide)))))
                        have Kf : ar_KF (ab_wr τ6 (K) 4 (v5)) K (ar_uR κ v1 v2 v3 v4 v5) := ar_KF.same (ar_KF_R hk hj.1) Sf
                        have kq := hO _ _ er6.symm _ (Wf.trans Sf.rl) Rf Kf
                        clear hF hO hj hk h Rf Sf Wf Kf
                        obtain ⟨k06, k16, k26, k36, k46, k66, k86, k136, k146⟩ := hg6.kit hK
                        simp (disch := omega) only [rX7_readRules_122, rX7_readRules_127, rX7_readRules_128, rX7_readRules_131, rX7_readRules_132, rX7_readRules_135, rX7_readRules_138, rX7_readRules_139, gS_2, gP_2_0, gS_3, hg6, e16, k06, k16, k26, k36, k46, k66, k86, k136, k146, f56, ne_eq, not_false_eq_true, not_true_eq_false, true_and, and_true, and_self, true_imp_iff, false_imp_iff, imp_self, Bool.not_false, Bool.not_true, reduceCtorEq, ab_isJ, ab_psh, ab_cats, Bool.false_eq_true, if_true, if_false, ab_shf, ab_shw, Int.le_refl, Classical.not_not, Int.zero_add, forall_const, ↓ab_itT, ↓ab_itF, ab_anT, ab_w32_id, ab_rdf_ne, ab_rdw_ne, ab_rdw_eq, ab_rdf_in, ab_td2, ab_tm2, true_or, or_true]
                        all_goals exact kq
                    have hg5 := w5.geo
                    obtain ⟨k05, k15, k25, k35, k45, k65, k85, k135, k145⟩ := hg5.kit hK
                    clear hF hO hj hk h
                    simp (disch := omega) only [rX7_readRules_97, rX7_readRules_102, rX7_readRules_103, rX7_readRules_106, rX7_readRules_107, rX7_readRules_110, rX7_readRules_113, rX7_readRules_114, rX7_readRules_116, rX7_readRules_117, rX7_readRules_119, gS_2, gP_2_0, gS_3, hg5, e15, k05, k15, k25, k35, k45, k65, k85, k135, k145, f55, ne_eq, not_false_eq_true, not_true_eq_false, true_and, and_true, and_self, true_imp_iff, false_imp_iff, imp_self, Bool.not_false, Bool.not_true, reduceCtorEq, ab_isJ, ab_psh, ab_cats, Bool.false_eq_true, if_true, if_false, ab_shf, ab_shw, Int.le_refl, Classical.not_not, Int.zero_add, forall_const, ↓ab_itT, ↓ab_itF, ab_anT, ab_w32_id, ab_rdf_ne, ab_rdw_ne, ab_rdw_eq, ab_rdf_in, ab_td2, ab_tm2, true_or, or_true]
                    all_goals exact key5
                have hg4 := w4.geo
                obtain ⟨k04, k14, k24, k34, k44, k64, k84, k134, k144⟩ := hg4.kit hK
                clear hF hO hj hk h
                simp (disch := omega) only [rX7_readRules_72, rX7_readRules_77, rX7_readRules_78, rX7_readRules_81, rX7_readRules_82, rX7_readRules_85, rX7_readRules_88, rX7_readRules_89, rX7_readRules_91, rX7_readRules_92, rX7_readRules_94, gS_2, gP_2_0, gS_3, hg4, e14, k04, k14, k24, k34, k44, k64, k84, k134, k144, f54, ne_eq, not_false_eq_true, not_true_eq_false, true_and, and_true, and_self, true_imp_iff, false_imp_iff, imp_self, Bool.not_false, Bool.not_true, reduceCtorEq, ab_isJ, ab_psh, ab_cats, Bool.false_eq_true, if_true, if_false, ab_shf, ab_shw, Int.le_refl, Classical.not_not, Int.zero_add, forall_const, ↓ab_itT, ↓ab_itF, ab_anT, ab_w32_id, ab_rdf_ne, ab_rdw_ne, ab_rdw_eq, ab_rdf_in, ab_td2, ab_tm2, true_or, or_true]
                all_goals exact key4
            have hg3 := w3.geo
            obtain ⟨k03, k13, k23, k33, k43, k63, k83, k133, k143⟩ := hg3.kit hK
            clear hF hO hj hk h
            simp (disch := omega) only [rX7_readRules_47, rX7_readRules_52, rX7_readRules_53, rX7_readRules_56, rX7_readRules_57, rX7_readRules_60, rX7_readRules_63, rX7_readRules_64, rX7_readRules_66, rX7_readRules_67, rX7_readRules_69, gS_2, gP_2_0, gS_3, hg3, e13, k03, k13, k23, k33, k43, k63, k83, k133, k143, f53, ne_eq, not_false_eq_true, not_true_eq_false, true_and, and_true, and_self, true_imp_iff, false_imp_iff, imp_self, Bool.not_false, Bool.not_true, reduceCtorEq, ab_isJ, ab_psh, ab_cats, Bool.false_eq_true, if_true, if_false, ab_shf, ab_shw, Int.le_refl, Classical.not_not, Int.zero_add, forall_const, ↓ab_itT, ↓ab_itF, ab_anT, ab_w32_id, ab_rdf_ne, ab_rdw_ne, ab_rdw_eq, ab_rdf_in, ab_td2, ab_tm2, true_or, or_true]
            all_goals exact key3
        have hg2 := w2.geo
        obtain ⟨k02, k12, k22, k32, k42, k62, k82, k132, k142⟩ := hg2.kit hK
        clear hF hO hj hk h
        simp (disch := omega) only [rX7_readRules_21, rX7_readRules_26, rX7_readRules_27, rX7_readRules_30, rX7_readRules_31, rX7_readRules_34, rX7_readRules_37, rX7_readRules_38, rX7_readRules_40, rX7_readRules_42, rX7_readRules_44, gS_2, gP_2_0, gS_3, hg2, e12, k02, k12, k22, k32, k42, k62, k82, k132, k142, f52, ne_eq, not_false_eq_true, not_true_eq_false, true_and, and_true, and_self, true_imp_iff, false_imp_iff, imp_self, Bool.not_false, Bool.not_true, reduceCtorEq, ab_isJ, ab_psh, ab_cats, Bool.false_eq_true, if_true, if_false, ab_shf, ab_shw, Int.le_refl, Classical.not_not, Int.zero_add, forall_const, ↓ab_itT, ↓ab_itF, ab_anT, ab_w32_id, ab_rdf_ne, ab_rdw_ne, ab_rdw_eq, ab_rdf_in, ab_td2, ab_tm2, true_or, or_true]
        all_goals exact key2
    have hg1 := w1.geo
    obtain ⟨k01, k11, k21, k31, k41, k61, k81, k131, k141⟩ := hg1.kit hK
    clear hF hO hj hk h
    simp (disch := omega) only [rX7_readRules_12, rX7_readRules_13, rX7_readRules_15, rX7_readRules_16, rX7_readRules_18, gS_2, gP_2_0, gS_3, hg1, e11, k01, k11, k21, k31, k41, k61, k81, k131, k141, ne_eq, not_false_eq_true, not_true_eq_false, true_and, and_true, and_self, true_imp_iff, false_imp_iff, imp_self, Bool.not_false, Bool.not_true, reduceCtorEq, ab_isJ, ab_psh, ab_cats, Bool.false_eq_true, if_true, if_false, ab_shf, ab_shw, Int.le_refl, Classical.not_not, Int.zero_add, forall_const, ↓ab_itT, ↓ab_itF, ab_anT, ab_w32_id, ab_rdf_ne, ab_rdw_ne, ab_rdw_eq, ab_rdf_in, ab_td2, ab_tm2, true_or, or_true]
    all_goals exact key1
  have hg0 := h.geo
  obtain ⟨k00, k10, k20, k30, k40, k60, k80, k130, k140⟩ := hg0.kit hK
  clear hF hO hj hk h
  simp (disch := omega) only [do_X7_readRules, rX7_readRules_0, rX7_readRules_1, rX7_readRules_2, rX7_readRules_5, rX7_readRules_6, rX7_readRules_9, gS_2, gP_2_0, gS_3, hg0, e10, k00, k10, k20, k30, k40, k60, k80, k130, k140, ne_eq, not_false_eq_true, not_true_eq_false, true_and, and_true, and_self, true_imp_iff, false_imp_iff, imp_self, Bool.not_false, Bool.not_true, reduceCtorEq, ab_isJ, ab_psh, ab_cats, Bool.false_eq_true, if_true, if_false, ab_shf, ab_shw, Int.le_refl, Classical.not_not, Int.zero_add, forall_const, ↓ab_itT, ↓ab_itF, ab_anT, ab_w32_id, ab_rdf_ne, ab_rdw_ne, ab_rdw_eq, ab_rdf_in, ab_td2, ab_tm2, true_or, or_true]
  all_goals exact key0
set_option maxHeartbeats 4000000 in
theorem sp_readFor (h : ac_RC σ n tp s) (hk : ar_KF σ K κ) (hj : ar_J κ) (hF : ar_hF Q σ K (pr_for tp n κ s)) (hO : ar_hO Q σ K n tp (pr_for tp n κ s)) : ab_Do X 50 [ab_R 2] σ Q := by
  have hK := hk.1
  have hv : K = 5 ∨ K = 329 := hK
  have hK2 : (2 : Int) ≠ K := by omega
  generalize er : pr_for tp n κ s = r at hF hO
  unfold pr_for at er
  have S0 : ab_Same ac_PR σ σ := ab_Same.refl
  have W0 : ab_Same (ar_PL K) σ σ := ab_Same.refl
  have e10 := hk.2.1
  have n6 := hj.1.2.1
  have n7 := hj.1.2.2.1
  have key0 : ab_Do X 60 [ab_R 2, ab_I (-1)] σ (fun r σ' => ab_Run X 50 5 (13, 0, 0) [ab_R 2, ab_R 0, ab_R 0, ab_R 0] (ab_psh r []) σ' Q) := by
    refine sp_persE h hk hj er (fun wf pl ef τ1 u1 a1 b1 => ?_) (fun p pb np er1 τ1 u1 f51 w1 => ?_)
    · have kq := hF wf pl ef τ1 (W0.trans ((S0.trans u1).rl)) a1 b1
      clear hF hO hj hk h
      simp (disch := omega) only [rX7_readFor_5, rX7_readFor_8, rX7_readFor_9, ne_eq, not_false_eq_true, not_true_eq_false, true_and, and_true, and_self, true_imp_iff, false_imp_iff, imp_self, Bool.not_false, Bool.not_true, reduceCtorEq, ab_isJ, ab_psh, ab_cats, Bool.false_eq_true, if_true, if_false, ab_shf, ab_shw, Int.le_refl, Classical.not_not, Int.zero_add, forall_const, ↓ab_itT, ↓ab_itF, ab_anT, ab_w32_id, ab_rdf_ne, ab_rdw_ne, ab_rdw_eq, ab_rdf_in, ab_td2, ab_tm2, true_or, or_true]
      all_goals exact kq
    · have S1 := S0.trans u1
      have e11 : ab_rd τ1 2 1 = K := by rw [u1.2.2 2 1 (by unfold ac_PR ac_PK9; omega)]; exact e10
      have key1 : ab_Do X 70 [ab_R 3] τ1 (fun r σ' => ab_Run X 50 22 (13, 0, 0) [ab_R 2, ab_I p, ab_R 0, ab_R 0] (ab_psh r []) σ' Q) := by
        refine sp_nextR w1 (fun τ2 u2 w2 => ?_)
        have S2 := S1.trans u2.kr
        have e12 : ab_rd τ2 2 1 = K := by rw [u2.2.2 2 1 (by unfold ac_PK9; omega)]; exact e11
        have hk2 := hk.same S2
        have key2 : ab_Do X 60 [ab_R 2, ab_I p] τ2 (fun r σ' => ab_Run X 50 27 (13, 0, 0) [ab_R 2, ab_I p, ab_R 0, ab_R 0] (ab_psh r []) σ' Q) := by
          refine sp_persE w2 hk2 hj er1 (fun wf pl ef τ3 u3 a3 b3 => ?_) (fun q qb nq er3 τ3 u3 f53 w3 => ?_)
          · have kq := hF wf pl ef τ3 (W0.trans ((S2.trans u3).rl)) a3 b3
            clear hF hO hj hk h
            simp (disch := omega) only [rX7_readFor_27, rX7_readFor_30, rX7_readFor_31, ne_eq, not_false_eq_true, not_true_eq_false, true_and, and_true, and_self, true_imp_iff, false_imp_iff, imp_self, Bool.not_false, Bool.not_true, reduceCtorEq, ab_isJ, ab_psh, ab_cats, Bool.false_eq_true, if_true, if_false, ab_shf, ab_shw, Int.le_refl, Classical.not_not, Int.zero_add, forall_const, ↓ab_itT, ↓ab_itF, ab_anT, ab_w32_id, ab_rdf_ne, ab_rdw_ne, ab_rdw_eq, ab_rdf_in, ab_td2, ab_tm2, true_or, or_true]
            all_goals exact kq
          · have S3 := S2.trans u3
            have e13 : ab_rd τ3 2 1 = K := by rw [u3.2.2 2 1 (by unfold ac_PR ac_PK9; omega)]; exact e12
            have p6 := (((hk.same S3).2.2.2.2.2.2.1 p pb.1 pb.2).1).2.2.2.2.2.1
            have gP := w3.geo.pers hK pb.1 (by omega)
            have b20 := (hj.2.1.2.1 p pb.1 pb.2).2.2.2.2.1
            have ob := ar_orb_b (v := κ 20 p) (q := q) b20 (by omega)
            by_cases zz : ac_bit (κ 20 p) q = 1
            · rw [if_pos zz] at er3
              have kq := hF 3 _ er3.symm _ (W0.trans (S3.trans ac_stp_e.1).rl) ac_stp_e.2.1 ac_stp_e.2.2
              have c2 := fun k Q' => sp_stop (X := X) (Q := Q') (k := k) w3
              have hg3 := w3.geo
              obtain ⟨k03, k13, k23, k33, k43, k63, k83, k133, k143⟩ := hg3.kit hK
              have nz : ¬ ab_ok32 (fun x y => x &&& y) (κ 20 p) (ab_ok32 (fun x y => x <<< (y &&& 31)) 1 q) = 0 := fun u => by have := ob.2.mp u; omega
              clear ob
              clear hF hO hj hk h
              simp (disch := omega) only [rX7_readFor_27, rX7_readFor_32, rX7_readFor_33, rX7_readFor_36, rX7_readFor_39, rX7_readFor_40, rX7_readFor_41, rX7_readFor_42, rX7_readFor_43, rX7_readFor_44, rX7_readFor_47, rX7_readFor_48, rX7_readFor_49, rX7_readFor_50, rX7_readFor_53, rX7_readFor_54, rX7_readFor_55, rX7_readFor_58, rX7_readFor_59, rX7_readFor_60, rX7_readFor_63, gS_2, gP_2_0, gS_3, hg3, e13, k03, k13, k23, k33, k43, k63, k83, k133, k143, c2, f53, p6, gP.1, gP.2, ne_eq, not_false_eq_true, not_true_eq_false, true_and, and_true, and_self, true_imp_iff, false_imp_iff, imp_self, Bool.not_false, Bool.not_true, reduceCtorEq, ab_isJ, ab_psh, ab_cats, Bool.false_eq_true, if_true, if_false, ab_shf, ab_shw, Int.le_refl, Classical.not_not, Int.zero_add, forall_const, ↓ab_itT, ↓ab_itF, ab_anT, ab_w32_id, ab_rdf_ne, ab_rdw_ne, ab_rdw_eq, ab_rdf_in, ab_td2, ab_tm2, true_or, or_true]
              all_goals exact kq
            · rw [if_neg zz] at er3
              have z0 : ab_ok32 (fun x y => x &&& y) (κ 20 p) (ab_ok32 (fun x y => x <<< (y &&& 31)) 1 q) = 0 := ob.2.mpr (by have := ac_bit01 (x := κ 20 p) (b := q); omega)
              clear ob
              have key4 : ab_Do X 70 [ab_R 3] τ3 (fun r σ' => ab_Run X 50 71 (13, 0, 0) [ab_R 2, ab_I p, ab_R (K + 20 + p), ab_I (ab_ok32 (fun x y => x <<< (y &&& 31)) 1 q)] (ab_psh r []) σ' Q) := by
                refine sp_nextR w3 (fun τ5 u5 w5 => ?_)
                have S5 := S3.trans u5.kr
                have e15 : ab_rd τ5 2 1 = K := by rw [u5.2.2 2 1 (by unfold ac_PK9; omega)]; exact e13
                have key5 : ab_Do X 57 [ab_R 2, ab_I 0, ab_I 99] τ5 (fun r σ' => ab_Run X 50 78 (13, 0, 0) [ab_R 2, ab_I p, ab_R (K + 20 + p), ab_I (ab_ok32 (fun x y => x <<< (y &&& 31)) 1 q)] (ab_psh r []) σ' Q) := by
                  refine sp_wholeE w5  er3 (fun wf pl ef τ6 u6 a6 b6 => ?_) (fun v vb er6 τ6 u6 f56 w6 => ?_)
                  · have kq := hF wf pl ef τ6 (W0.trans ((S5.trans u6).rl)) a6 b6
                    clear hF hO hj hk h
                    simp (disch := omega) only [rX7_readFor_78, rX7_readFor_81, rX7_readFor_82, ne_eq, not_false_eq_true, not_true_eq_false, true_and, and_true, and_self, true_imp_iff, false_imp_iff, imp_self, Bool.not_false, Bool.not_true, reduceCtorEq, ab_isJ, ab_psh, ab_cats, Bool.false_eq_true, if_true, if_false, ab_shf, ab_shw, Int.le_refl, Classical.not_not, Int.zero_add, forall_const, ↓ab_itT, ↓ab_itF, ab_anT, ab_w32_id, ab_rdf_ne, ab_rdw_ne, ab_rdw_eq, ab_rdf_in, ab_td2, ab_tm2, true_or, or_true]
                    all_goals exact kq
                  · have u6 : ab_Same ac_PR _ τ6 := u6.mono (fun _ _ z => Or.inr ⟨z.1, by omega⟩)
                    have S6 := S5.trans u6
                    have e16 : ab_rd τ6 2 1 = K := by rw [u6.2.2 2 1 (by unfold ac_PR ac_PK9; omega)]; exact e15
                    have key6 : ab_Do X 70 [ab_R 3] τ6 (fun r σ' => ab_Run X 50 90 (13, 0, 0) [ab_R 2, ab_I p, ab_R (K + 20 + p), ab_I (ab_ok32 (fun x y => x <<< (y &&& 31)) 1 q)] (ab_psh r []) σ' Q) := by
                      refine sp_nextR w6 (fun τ7 u7 w7 => ?_)
                      have S7 := S6.trans u7.kr
                      have e17 : ab_rd τ7 2 1 = K := by rw [u7.2.2 2 1 (by unfold ac_PK9; omega)]; exact e16
                      have g5 : ab_rd τ7 2 5 = v := by rw [u7.2.2 2 5 (by unfold ac_PK9; omega)]; exact f56
                      have hg7 := w7.geo
                      have hkf := hk.same S7
                      have c9 := hkf.2.2.2.2.1.2.2.1
                      have pf := (hkf.2.2.2.2.2.2.1 p pb.1 pb.2).1
                      have pf5 := pf.2.2.2.2.1
                      have pf6 := pf.2.2.2.2.2.1
                      have gPf := hg7.pers hK pb.1 (by omega)
                      have bP := hj.2.1.2.1 p pb.1 pb.2
                      have b19 := bP.2.2.2.1
                      have b21 := bP.2.2.2.2.2.1
                      have Rf : ac_RC (ab_wr (ab_wr (ab_wr τ7 (K + 20 + p) 6 (ar_orb (κ 20 p) q)) (K + 20 + p) 5 (κ 19 p + κ 21 p + v)) (K) 9 (κ 7 0 + 1)) n tp _ := (ac_RC.wrK (K := K) (ac_RC.wrK (K := K) (ac_RC.wrK (K := K) w7 (Or.inr ⟨hK, (ar_PKq (by omega))⟩)) (Or.inr ⟨hK, (ar_PKq (by omega))⟩)) (Or.inr ⟨hK, (ar_PKk (by decide))⟩))
                      have Sf : ab_Same ac_PR (ab_wr (ab_wr (ab_wr σ (K + 20 + p) 6 (ar_orb (κ 20 p) q)) (K + 20 + p) 5 (κ 19 p + κ 21 p + v)) (K) 9 (κ 7 0 + 1)) (ab_wr (ab_wr (ab_wr τ7 (K + 20 + p) 6 (ar_orb (κ 20 p) q)) (K + 20 + p) 5 (κ 19 p + κ 21 p + v)) (K) 9 (κ 7 0 + 1)) := S7.wr2.wr2.wr2
                      have Wf : ab_Same (ar_PL K) σ (ab_wr (ab_wr (ab_wr σ (K + 20 + p) 6 (ar_orb (κ 20 p) q)) (K + 20 + p) 5 (κ 19 p + κ 21 p + v)) (K) 9 (κ 7 0 + 1)) := (((W0.wr (Or.inr (Or.inr (ar_PKq (by omega))))).wr (Or.inr (Or.inr (ar_PKq (by omega))))).wr (Or.inr (Or.inr (ar_PKk (by decide)))))
                      have Kf : ar_KF (ab_wr (ab_wr (ab_wr τ7 (K + 20 + p) 6 (ar_orb (κ 20 p) q)) (K + 20 + p) 5 (κ 19 p + κ 21 p + v)) (K) 9 (κ 7 0 + 1)) K (ar_uF κ p q v) := ar_KF.same (ar_KF_F hk hj.1 pb) Sf
                      have kq := hO _ _ er6.symm _ (Wf.trans Sf.rl) Rf Kf
                      clear hF hO hj hk h Rf Sf Wf Kf
                      obtain ⟨k07, k17, k27, k37, k47, k67, k87, k137, k147⟩ := hg7.kit hK
                      clear bP pf hkf
                      simp (disch := omega) only [rX7_readFor_90, rX7_readFor_91I, rX7_readFor_91R, rX7_readFor_92, rX7_readFor_95, rX7_readFor_96, rX7_readFor_97, rX7_readFor_100, rX7_readFor_101I, rX7_readFor_101R, rX7_readFor_102, rX7_readFor_105, rX7_readFor_106, rX7_readFor_109, rX7_readFor_110, rX7_readFor_113, rX7_readFor_114, rX7_readFor_117I, rX7_readFor_117R, rX7_readFor_118, rX7_readFor_121, rX7_readFor_122, rX7_readFor_123, rX7_readFor_126, rX7_readFor_127, gS_2, gP_2_0, gS_3, hg7, e17, k07, k17, k27, k37, k47, k67, k87, k137, k147, g5, c9, pf5, pf6, gPf.1, ne_eq, not_false_eq_true, not_true_eq_false, true_and, and_true, and_self, true_imp_iff, false_imp_iff, imp_self, Bool.not_false, Bool.not_true, reduceCtorEq, ab_isJ, ab_psh, ab_cats, Bool.false_eq_true, if_true, if_false, ab_shf, ab_shw, Int.le_refl, Classical.not_not, Int.zero_add, forall_const, ↓ab_itT, ↓ab_itF, ab_anT, ab_w32_id, ab_rdf_ne, ab_rdw_ne, ab_rdw_eq, ab_rdf_in, ab_td2, ab_tm2, true_or, or_true]
                      all_goals exact kq
                    have hg6 := w6.geo
                    obtain ⟨k06, k16, k26, k36, k46, k66, k86, k136, k146⟩ := hg6.kit hK
                    clear hF hO hj hk h
                    simp (disch := omega) only [rX7_readFor_78, rX7_readFor_83, rX7_readFor_84, rX7_readFor_87, gS_2, gP_2_0, gS_3, hg6, e16, k06, k16, k26, k36, k46, k66, k86, k136, k146, ne_eq, not_false_eq_true, not_true_eq_false, true_and, and_true, and_self, true_imp_iff, false_imp_iff, imp_self, Bool.not_false, Bool.not_true, reduceCtorEq, ab_isJ, ab_psh, ab_cats, Bool.false_eq_true, if_true, if_false, ab_shf, ab_shw, Int.le_refl, Classical.not_not, Int.zero_add, forall_const, ↓ab_itT, ↓ab_itF, ab_anT, ab_w32_id, ab_rdf_ne, ab_rdw_ne, ab_rdw_eq, ab_rdf_in, ab_td2, ab_tm2, true_or, or_true]
                    all_goals exact key6
                have hg5 := w5.geo
                obtain ⟨k05, k15, k25, k35, k45, k65, k85, k135, k145⟩ := hg5.kit hK
                clear hF hO hj hk h
                simp (disch := omega) only [rX7_readFor_71, rX7_readFor_72, rX7_readFor_73, rX7_readFor_75, gS_2, gP_2_0, gS_3, hg5, e15, k05, k15, k25, k35, k45, k65, k85, k135, k145, ne_eq, not_false_eq_true, not_true_eq_false, true_and, and_true, and_self, true_imp_iff, false_imp_iff, imp_self, Bool.not_false, Bool.not_true, reduceCtorEq, ab_isJ, ab_psh, ab_cats, Bool.false_eq_true, if_true, if_false, ab_shf, ab_shw, Int.le_refl, Classical.not_not, Int.zero_add, forall_const, ↓ab_itT, ↓ab_itF, ab_anT, ab_w32_id, ab_rdf_ne, ab_rdw_ne, ab_rdw_eq, ab_rdf_in, ab_td2, ab_tm2, true_or, or_true]
                all_goals exact key5
              have hg4 := w3.geo
              obtain ⟨k04, k14, k24, k34, k44, k64, k84, k134, k144⟩ := hg4.kit hK
              clear hF hO hj hk h
              simp (disch := omega) only [rX7_readFor_27, rX7_readFor_32, rX7_readFor_33, rX7_readFor_36, rX7_readFor_39, rX7_readFor_40, rX7_readFor_41, rX7_readFor_42, rX7_readFor_43, rX7_readFor_44, rX7_readFor_47, rX7_readFor_48, rX7_readFor_49, rX7_readFor_50, rX7_readFor_53, rX7_readFor_54, rX7_readFor_55, rX7_readFor_64, rX7_readFor_65, rX7_readFor_68, gS_2, gP_2_0, gS_3, hg4, e13, k04, k14, k24, k34, k44, k64, k84, k134, k144, f53, p6, gP.1, gP.2, z0, ne_eq, not_false_eq_true, not_true_eq_false, true_and, and_true, and_self, true_imp_iff, false_imp_iff, imp_self, Bool.not_false, Bool.not_true, reduceCtorEq, ab_isJ, ab_psh, ab_cats, Bool.false_eq_true, if_true, if_false, ab_shf, ab_shw, Int.le_refl, Classical.not_not, Int.zero_add, forall_const, ↓ab_itT, ↓ab_itF, ab_anT, ab_w32_id, ab_rdf_ne, ab_rdw_ne, ab_rdw_eq, ab_rdf_in, ab_td2, ab_tm2, true_or, or_true]
              all_goals exact key4
        have hg2 := w2.geo
        obtain ⟨k02, k12, k22, k32, k42, k62, k82, k132, k142⟩ := hg2.kit hK
        clear hF hO hj hk h
        simp (disch := omega) only [rX7_readFor_22, rX7_readFor_23, rX7_readFor_24, gS_2, gP_2_0, gS_3, hg2, e12, k02, k12, k22, k32, k42, k62, k82, k132, k142, ne_eq, not_false_eq_true, not_true_eq_false, true_and, and_true, and_self, true_imp_iff, false_imp_iff, imp_self, Bool.not_false, Bool.not_true, reduceCtorEq, ab_isJ, ab_psh, ab_cats, Bool.false_eq_true, if_true, if_false, ab_shf, ab_shw, Int.le_refl, Classical.not_not, Int.zero_add, forall_const, ↓ab_itT, ↓ab_itF, ab_anT, ab_w32_id, ab_rdf_ne, ab_rdw_ne, ab_rdw_eq, ab_rdf_in, ab_td2, ab_tm2, true_or, or_true]
        all_goals exact key2
      have hg1 := w1.geo
      obtain ⟨k01, k11, k21, k31, k41, k61, k81, k131, k141⟩ := hg1.kit hK
      clear hF hO hj hk h
      simp (disch := omega) only [rX7_readFor_5, rX7_readFor_10, rX7_readFor_11, rX7_readFor_14, rX7_readFor_15, rX7_readFor_16, rX7_readFor_19, gS_2, gP_2_0, gS_3, hg1, e11, k01, k11, k21, k31, k41, k61, k81, k131, k141, f51, ne_eq, not_false_eq_true, not_true_eq_false, true_and, and_true, and_self, true_imp_iff, false_imp_iff, imp_self, Bool.not_false, Bool.not_true, reduceCtorEq, ab_isJ, ab_psh, ab_cats, Bool.false_eq_true, if_true, if_false, ab_shf, ab_shw, Int.le_refl, Classical.not_not, Int.zero_add, forall_const, ↓ab_itT, ↓ab_itF, ab_anT, ab_w32_id, ab_rdf_ne, ab_rdw_ne, ab_rdw_eq, ab_rdf_in, ab_td2, ab_tm2, true_or, or_true]
      all_goals exact key1
  have hg0 := h.geo
  obtain ⟨k00, k10, k20, k30, k40, k60, k80, k130, k140⟩ := hg0.kit hK
  clear hF hO hj hk h
  simp (disch := omega) only [do_X7_readFor, rX7_readFor_0, rX7_readFor_1, rX7_readFor_2, gS_2, gP_2_0, gS_3, hg0, e10, k00, k10, k20, k30, k40, k60, k80, k130, k140, ne_eq, not_false_eq_true, not_true_eq_false, true_and, and_true, and_self, true_imp_iff, false_imp_iff, imp_self, Bool.not_false, Bool.not_true, reduceCtorEq, ab_isJ, ab_psh, ab_cats, Bool.false_eq_true, if_true, if_false, ab_shf, ab_shw, Int.le_refl, Classical.not_not, Int.zero_add, forall_const, ↓ab_itT, ↓ab_itF, ab_anT, ab_w32_id, ab_rdf_ne, ab_rdw_ne, ab_rdw_eq, ab_rdf_in, ab_td2, ab_tm2, true_or, or_true]
  all_goals exact key0
set_option maxHeartbeats 4000000 in
theorem sp_readWon (h : ac_RC σ n tp s) (hk : ar_KF σ K κ) (hj : ar_J κ) (hF : ar_hF Q σ K (pr_won tp n κ s)) (hO : ar_hO Q σ K n tp (pr_won tp n κ s)) : ab_Do X 51 [ab_R 2] σ Q := by
  have hK := hk.1
  have hv : K = 5 ∨ K = 329 := hK
  have hK2 : (2 : Int) ≠ K := by omega
  generalize er : pr_won tp n κ s = r at hF hO
  unfold pr_won at er
  have S0 : ab_Same ac_PR σ σ := ab_Same.refl
  have W0 : ab_Same (ar_PL K) σ σ := ab_Same.refl
  have e10 := hk.2.1
  have n6 := hj.1.2.1
  have n8 := hj.1.2.2.2.1
  have key0 : ab_Do X 60 [ab_R 2, ab_I (-1)] σ (fun r σ' => ab_Run X 51 5 (13, 0, 0) [ab_R 2, ab_R 0, ab_R 0] (ab_psh r []) σ' Q) := by
    refine sp_persE h hk hj er (fun wf pl ef τ1 u1 a1 b1 => ?_) (fun p pb np er1 τ1 u1 f51 w1 => ?_)
    · have kq := hF wf pl ef τ1 (W0.trans ((S0.trans u1).rl)) a1 b1
      clear hF hO hj hk h
      simp (disch := omega) only [rX7_readWon_5, rX7_readWon_8, rX7_readWon_9, ne_eq, not_false_eq_true, not_true_eq_false, true_and, and_true, and_self, true_imp_iff, false_imp_iff, imp_self, Bool.not_false, Bool.not_true, reduceCtorEq, ab_isJ, ab_psh, ab_cats, Bool.false_eq_true, if_true, if_false, ab_shf, ab_shw, Int.le_refl, Classical.not_not, Int.zero_add, forall_const, ↓ab_itT, ↓ab_itF, ab_anT, ab_w32_id, ab_rdf_ne, ab_rdw_ne, ab_rdw_eq, ab_rdf_in, ab_td2, ab_tm2, true_or, or_true]
      all_goals exact kq
    · have S1 := S0.trans u1
      have e11 : ab_rd τ1 2 1 = K := by rw [u1.2.2 2 1 (by unfold ac_PR ac_PK9; omega)]; exact e10
      have key1 : ab_Do X 70 [ab_R 3] τ1 (fun r σ' => ab_Run X 51 22 (13, 0, 0) [ab_R 2, ab_I p, ab_R 0] (ab_psh r []) σ' Q) := by
        refine sp_nextR w1 (fun τ2 u2 w2 => ?_)
        have S2 := S1.trans u2.kr
        have e12 : ab_rd τ2 2 1 = K := by rw [u2.2.2 2 1 (by unfold ac_PK9; omega)]; exact e11
        have hk2 := hk.same S2
        have key2 : ab_Do X 60 [ab_R 2, ab_I p] τ2 (fun r σ' => ab_Run X 51 27 (13, 0, 0) [ab_R 2, ab_I p, ab_R 0] (ab_psh r []) σ' Q) := by
          refine sp_persE w2 hk2 hj er1 (fun wf pl ef τ3 u3 a3 b3 => ?_) (fun q qb nq er3 τ3 u3 f53 w3 => ?_)
          · have kq := hF wf pl ef τ3 (W0.trans ((S2.trans u3).rl)) a3 b3
            clear hF hO hj hk h
            simp (disch := omega) only [rX7_readWon_27, rX7_readWon_30, rX7_readWon_31, ne_eq, not_false_eq_true, not_true_eq_false, true_and, and_true, and_self, true_imp_iff, false_imp_iff, imp_self, Bool.not_false, Bool.not_true, reduceCtorEq, ab_isJ, ab_psh, ab_cats, Bool.false_eq_true, if_true, if_false, ab_shf, ab_shw, Int.le_refl, Classical.not_not, Int.zero_add, forall_const, ↓ab_itT, ↓ab_itF, ab_anT, ab_w32_id, ab_rdf_ne, ab_rdw_ne, ab_rdw_eq, ab_rdf_in, ab_td2, ab_tm2, true_or, or_true]
            all_goals exact kq
          · have S3 := S2.trans u3
            have e13 : ab_rd τ3 2 1 = K := by rw [u3.2.2 2 1 (by unfold ac_PR ac_PK9; omega)]; exact e12
            have key3 : ab_Do X 70 [ab_R 3] τ3 (fun r σ' => ab_Run X 51 44 (13, 0, 0) [ab_R 2, ab_I p, ab_I q] (ab_psh r []) σ' Q) := by
              refine sp_nextR w3 (fun τ4 u4 w4 => ?_)
              have S4 := S3.trans u4.kr
              have e14 : ab_rd τ4 2 1 = K := by rw [u4.2.2 2 1 (by unfold ac_PK9; omega)]; exact e13
              have key4 : ab_Do X 56 [ab_R 2, ab_R (-14), ab_R (-15), ab_R (-19), ab_R (-19)] τ4 (fun r σ' => ab_Run X 51 56 (13, 0, 0) [ab_R 2, ab_I p, ab_I q] (ab_psh r []) σ' Q) := by
                refine sp_kindE w4 ac_TX12 ac_TX13 ac_TX17 ac_TX17 er3 (fun wf pl ef τ5 u5 a5 b5 => ?_) (fun v s3 vq er5 τ5 u5 f55 w5 => ?_)
                · have kq := hF wf pl ef τ5 (W0.trans ((S4.trans u5).rl)) a5 b5
                  clear hF hO hj hk h
                  simp (disch := omega) only [rX7_readWon_56, rX7_readWon_59, rX7_readWon_60, ne_eq, not_false_eq_true, not_true_eq_false, true_and, and_true, and_self, true_imp_iff, false_imp_iff, imp_self, Bool.not_false, Bool.not_true, reduceCtorEq, ab_isJ, ab_psh, ab_cats, Bool.false_eq_true, if_true, if_false, ab_shf, ab_shw, Int.le_refl, Classical.not_not, Int.zero_add, forall_const, ↓ab_itT, ↓ab_itF, ab_anT, ab_w32_id, ab_rdf_ne, ab_rdw_ne, ab_rdw_eq, ab_rdf_in, ab_td2, ab_tm2, true_or, or_true]
                  all_goals exact kq
                · have S5 := S4.trans u5
                  have e15 : ab_rd τ5 2 1 = K := by rw [u5.2.2 2 1 (by unfold ac_PR ac_PK9; omega)]; exact e14
                  have hg5 := w5.geo
                  have hkf := hk.same S5
                  have c10 := hkf.2.2.2.2.1.2.2.2.1
                  have c11 := hkf.2.2.2.2.1.2.2.2.2.1
                  have pf7 := (hkf.2.2.2.2.2.2.1 p pb.1 pb.2).1.2.2.2.2.2.2.1
                  have pf8 := (hkf.2.2.2.2.2.2.1 q qb.1 qb.2).1.2.2.2.2.2.2.2.1
                  have gPf := hg5.pers hK pb.1 (by omega)
                  have gQf := hg5.pers hK qb.1 (by omega)
                  have b22 := ac_cnt_b (f := κ 22) (x := p) n8.1
                  have b23 := ac_cnt_b (f := κ 23) (x := q) n8.1
                  have b24 := ac_cnt_b (f := κ 24) (x := 0) n8.1
                  have Rf : ac_RC (ab_wr (ab_wr (ab_wr (ab_wr τ5 (K + 20 + p) 7 (ac_cnt (κ 22) (κ 8 0) p + 1)) (K + 20 + q) 8 (ac_cnt (κ 23) (κ 8 0) q + 1)) (K) 11 (ac_cnt (κ 24) (κ 8 0) 0 + (if v = 0 then 1 else 0))) (K) 10 (κ 8 0 + 1)) n tp s3 := (ac_RC.wrK (K := K) (ac_RC.wrK (K := K) (ac_RC.wrK (K := K) (ac_RC.wrK (K := K) w5 (Or.inr ⟨hK, (ar_PKq (by omega))⟩)) (Or.inr ⟨hK, (ar_PKq (by omega))⟩)) (Or.inr ⟨hK, (ar_PKk (by decide))⟩)) (Or.inr ⟨hK, (ar_PKk (by decide))⟩))
                  have Sf : ab_Same ac_PR (ab_wr (ab_wr (ab_wr (ab_wr σ (K + 20 + p) 7 (ac_cnt (κ 22) (κ 8 0) p + 1)) (K + 20 + q) 8 (ac_cnt (κ 23) (κ 8 0) q + 1)) (K) 11 (ac_cnt (κ 24) (κ 8 0) 0 + (if v = 0 then 1 else 0))) (K) 10 (κ 8 0 + 1)) (ab_wr (ab_wr (ab_wr (ab_wr τ5 (K + 20 + p) 7 (ac_cnt (κ 22) (κ 8 0) p + 1)) (K + 20 + q) 8 (ac_cnt (κ 23) (κ 8 0) q + 1)) (K) 11 (ac_cnt (κ 24) (κ 8 0) 0 + (if v = 0 then 1 else 0))) (K) 10 (κ 8 0 + 1)) := S5.wr2.wr2.wr2.wr2
                  have Wf : ab_Same (ar_PL K) σ (ab_wr (ab_wr (ab_wr (ab_wr σ (K + 20 + p) 7 (ac_cnt (κ 22) (κ 8 0) p + 1)) (K + 20 + q) 8 (ac_cnt (κ 23) (κ 8 0) q + 1)) (K) 11 (ac_cnt (κ 24) (κ 8 0) 0 + (if v = 0 then 1 else 0))) (K) 10 (κ 8 0 + 1)) := ((((W0.wr (Or.inr (Or.inr (ar_PKq (by omega))))).wr (Or.inr (Or.inr (ar_PKq (by omega))))).wr (Or.inr (Or.inr (ar_PKk (by decide))))).wr (Or.inr (Or.inr (ar_PKk (by decide)))))
                  have Kf : ar_KF (ab_wr (ab_wr (ab_wr (ab_wr τ5 (K + 20 + p) 7 (ac_cnt (κ 22) (κ 8 0) p + 1)) (K + 20 + q) 8 (ac_cnt (κ 23) (κ 8 0) q + 1)) (K) 11 (ac_cnt (κ 24) (κ 8 0) 0 + (if v = 0 then 1 else 0))) (K) 10 (κ 8 0 + 1)) K (ar_uW κ p q v) := ar_KF.same (ar_KF_W hk hj.1 pb qb nq) Sf
                  have kq := hO _ _ er5.symm _ (Wf.trans Sf.rl) Rf Kf
                  clear hF hO hj hk h Rf Sf Wf Kf
                  obtain ⟨k05, k15, k25, k35, k45, k65, k85, k135, k145⟩ := hg5.kit hK
                  clear hkf
                  by_cases zc : v = 0
                  · rw [if_pos zc] at kq
                    simp (disch := omega) only [rX7_readWon_56, rX7_readWon_61, rX7_readWon_62, rX7_readWon_65, rX7_readWon_68, rX7_readWon_69, rX7_readWon_70I, rX7_readWon_70R, rX7_readWon_71, rX7_readWon_74, rX7_readWon_75, rX7_readWon_76, rX7_readWon_79, rX7_readWon_80, rX7_readWon_83, rX7_readWon_86, rX7_readWon_87, rX7_readWon_88I, rX7_readWon_88R, rX7_readWon_89, rX7_readWon_92, rX7_readWon_93, rX7_readWon_94, rX7_readWon_97, rX7_readWon_98, rX7_readWon_101I, rX7_readWon_101R, rX7_readWon_102, rX7_readWon_105, rX7_readWon_106, rX7_readWon_109, rX7_readWon_112, rX7_readWon_113, rX7_readWon_116, rX7_readWon_117, rX7_readWon_118, rX7_readWon_121, rX7_readWon_122, rX7_readWon_125I, rX7_readWon_125R, rX7_readWon_126, rX7_readWon_129, rX7_readWon_130, rX7_readWon_131, rX7_readWon_134, rX7_readWon_135, gS_2, gP_2_0, gS_3, hg5, e15, k05, k15, k25, k35, k45, k65, k85, k135, k145, f55, c10, c11, pf7, pf8, gPf.1, gPf.2, gQf.1, gQf.2, ne_eq, not_false_eq_true, not_true_eq_false, true_and, and_true, and_self, true_imp_iff, false_imp_iff, imp_self, Bool.not_false, Bool.not_true, reduceCtorEq, ab_isJ, ab_psh, ab_cats, Bool.false_eq_true, if_true, if_false, ab_shf, ab_shw, Int.le_refl, Classical.not_not, Int.zero_add, forall_const, ↓ab_itT, ↓ab_itF, ab_anT, ab_w32_id, ab_rdf_ne, ab_rdw_ne, ab_rdw_eq, ab_rdf_in, ab_td2, ab_tm2, true_or, or_true]
                    all_goals exact kq
                  · rw [if_neg zc] at kq
                    simp (disch := omega) only [rX7_readWon_56, rX7_readWon_61, rX7_readWon_62, rX7_readWon_65, rX7_readWon_68, rX7_readWon_69, rX7_readWon_70I, rX7_readWon_70R, rX7_readWon_71, rX7_readWon_74, rX7_readWon_75, rX7_readWon_76, rX7_readWon_79, rX7_readWon_80, rX7_readWon_83, rX7_readWon_86, rX7_readWon_87, rX7_readWon_88I, rX7_readWon_88R, rX7_readWon_89, rX7_readWon_92, rX7_readWon_93, rX7_readWon_94, rX7_readWon_97, rX7_readWon_98, rX7_readWon_101I, rX7_readWon_101R, rX7_readWon_102, rX7_readWon_105, rX7_readWon_106, rX7_readWon_109, rX7_readWon_112, rX7_readWon_113, rX7_readWon_116, rX7_readWon_117, rX7_readWon_118, rX7_readWon_121, rX7_readWon_122, rX7_readWon_125I, rX7_readWon_125R, rX7_readWon_126, rX7_readWon_129, rX7_readWon_130, rX7_readWon_131, rX7_readWon_134, rX7_readWon_135, gS_2, gP_2_0, gS_3, hg5, e15, k05, k15, k25, k35, k45, k65, k85, k135, k145, f55, c10, c11, pf7, pf8, gPf.1, gPf.2, gQf.1, gQf.2, ne_eq, not_false_eq_true, not_true_eq_false, true_and, and_true, and_self, true_imp_iff, false_imp_iff, imp_self, Bool.not_false, Bool.not_true, reduceCtorEq, ab_isJ, ab_psh, ab_cats, Bool.false_eq_true, if_true, if_false, ab_shf, ab_shw, Int.le_refl, Classical.not_not, Int.zero_add, forall_const, ↓ab_itT, ↓ab_itF, ab_anT, ab_w32_id, ab_rdf_ne, ab_rdw_ne, ab_rdw_eq, ab_rdf_in, ab_td2, ab_tm2, true_or, or_true]
                    all_goals exact kq
              have hg4 := w4.geo
              obtain ⟨k04, k14, k24, k34, k44, k64, k84, k134, k144⟩ := hg4.kit hK
              clear hF hO hj hk h
              simp (disch := omega) only [rX7_readWon_44, rX7_readWon_45, rX7_readWon_47, rX7_readWon_49, rX7_readWon_51, rX7_readWon_53, gS_2, gP_2_0, gS_3, hg4, e14, k04, k14, k24, k34, k44, k64, k84, k134, k144, ne_eq, not_false_eq_true, not_true_eq_false, true_and, and_true, and_self, true_imp_iff, false_imp_iff, imp_self, Bool.not_false, Bool.not_true, reduceCtorEq, ab_isJ, ab_psh, ab_cats, Bool.false_eq_true, if_true, if_false, ab_shf, ab_shw, Int.le_refl, Classical.not_not, Int.zero_add, forall_const, ↓ab_itT, ↓ab_itF, ab_anT, ab_w32_id, ab_rdf_ne, ab_rdw_ne, ab_rdw_eq, ab_rdf_in, ab_td2, ab_tm2, true_or, or_true]
              all_goals exact key4
            have hg3 := w3.geo
            obtain ⟨k03, k13, k23, k33, k43, k63, k83, k133, k143⟩ := hg3.kit hK
            clear hF hO hj hk h
            simp (disch := omega) only [rX7_readWon_27, rX7_readWon_32, rX7_readWon_33, rX7_readWon_36, rX7_readWon_37, rX7_readWon_38, rX7_readWon_41, gS_2, gP_2_0, gS_3, hg3, e13, k03, k13, k23, k33, k43, k63, k83, k133, k143, f53, ne_eq, not_false_eq_true, not_true_eq_false, true_and, and_true, and_self, true_imp_iff, false_imp_iff, imp_self, Bool.not_false, Bool.not_true, reduceCtorEq, ab_isJ, ab_psh, ab_cats, Bool.false_eq_true, if_true, if_false, ab_shf, ab_shw, Int.le_refl, Classical.not_not, Int.zero_add, forall_const, ↓ab_itT, ↓ab_itF, ab_anT, ab_w32_id, ab_rdf_ne, ab_rdw_ne, ab_rdw_eq, ab_rdf_in, ab_td2, ab_tm2, true_or, or_true]
            all_goals exact key3
        have hg2 := w2.geo
        obtain ⟨k02, k12, k22, k32, k42, k62, k82, k132, k142⟩ := hg2.kit hK
        clear hF hO hj hk h
        simp (disch := omega) only [rX7_readWon_22, rX7_readWon_23, rX7_readWon_24, gS_2, gP_2_0, gS_3, hg2, e12, k02, k12, k22, k32, k42, k62, k82, k132, k142, ne_eq, not_false_eq_true, not_true_eq_false, true_and, and_true, and_self, true_imp_iff, false_imp_iff, imp_self, Bool.not_false, Bool.not_true, reduceCtorEq, ab_isJ, ab_psh, ab_cats, Bool.false_eq_true, if_true, if_false, ab_shf, ab_shw, Int.le_refl, Classical.not_not, Int.zero_add, forall_const, ↓ab_itT, ↓ab_itF, ab_anT, ab_w32_id, ab_rdf_ne, ab_rdw_ne, ab_rdw_eq, ab_rdf_in, ab_td2, ab_tm2, true_or, or_true]
        all_goals exact key2
      have hg1 := w1.geo
      obtain ⟨k01, k11, k21, k31, k41, k61, k81, k131, k141⟩ := hg1.kit hK
      clear hF hO hj hk h
      simp (disch := omega) only [rX7_readWon_5, rX7_readWon_10, rX7_readWon_11, rX7_readWon_14, rX7_readWon_15, rX7_readWon_16, rX7_readWon_19, gS_2, gP_2_0, gS_3, hg1, e11, k01, k11, k21, k31, k41, k61, k81, k131, k141, f51, ne_eq, not_false_eq_true, not_true_eq_false, true_and, and_true, and_self, true_imp_iff, false_imp_iff, imp_self, Bool.not_false, Bool.not_true, reduceCtorEq, ab_isJ, ab_psh, ab_cats, Bool.false_eq_true, if_true, if_false, ab_shf, ab_shw, Int.le_refl, Classical.not_not, Int.zero_add, forall_const, ↓ab_itT, ↓ab_itF, ab_anT, ab_w32_id, ab_rdf_ne, ab_rdw_ne, ab_rdw_eq, ab_rdf_in, ab_td2, ab_tm2, true_or, or_true]
      all_goals exact key1
  have hg0 := h.geo
  obtain ⟨k00, k10, k20, k30, k40, k60, k80, k130, k140⟩ := hg0.kit hK
  clear hF hO hj hk h
  simp (disch := omega) only [do_X7_readWon, rX7_readWon_0, rX7_readWon_1, rX7_readWon_2, gS_2, gP_2_0, gS_3, hg0, e10, k00, k10, k20, k30, k40, k60, k80, k130, k140, ne_eq, not_false_eq_true, not_true_eq_false, true_and, and_true, and_self, true_imp_iff, false_imp_iff, imp_self, Bool.not_false, Bool.not_true, reduceCtorEq, ab_isJ, ab_psh, ab_cats, Bool.false_eq_true, if_true, if_false, ab_shf, ab_shw, Int.le_refl, Classical.not_not, Int.zero_add, forall_const, ↓ab_itT, ↓ab_itF, ab_anT, ab_w32_id, ab_rdf_ne, ab_rdw_ne, ab_rdw_eq, ab_rdf_in, ab_td2, ab_tm2, true_or, or_true]
  all_goals exact key0
end
