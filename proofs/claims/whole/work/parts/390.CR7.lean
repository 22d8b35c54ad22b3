/-! READER of the class: a bone's line -/
def ar_PN (B : Int) : Int → Int → Prop := fun a f => ac_PR a f ∨ (a = B ∧ (f = 0 ∨ f = 1 ∨ f = 2)) ∨ a = B + 1 ∨ a = B + 2
section
variable {X : ab_X} {σ τ : ab_S} {Q : Option ab_V → ab_S → Prop} {n s K B b arm i j v o w27 w32 kd d : Int} {tp : Int → Int} {κ κ1 : ac_K} {r : ar_R}
theorem ar_KF_B (hk : ar_KF σ K κ) (hj : ar_J κ) (h5 : κ 5 0 < 5) (hB : B = K + 5 + 3 * κ 5 0) (hs : ab_Same (ar_PN B) σ τ) (f0 : ab_rd τ B 0 = w27) (f1 : ab_rd τ B 1 = kd) (f2 : ab_rd τ B 2 = d) (hN : ar_Bn κ κ1) (hA : ∀ arm, arm = 0 ∨ arm = 1 → ab_rd τ (B + 1) arm = κ1 14 (2 * κ 5 0 + arm) ∧ ∀ i, 0 ≤ i → i < κ1 14 (2 * κ 5 0 + arm) → ab_rd τ (B + 2) (6 * arm + i) = κ1 15 (6 * (2 * κ 5 0 + arm) + i)) : ar_KF (ab_wr τ K 5 (κ 5 0 + 1)) K (ar_uB κ1 w32 w27 kd d) := by
  obtain ⟨hK, k1, k4, hr, hz, hb, hp, hi⟩ := hk
  have hv : K = 5 ∨ K = 329 := hK
  have n5 := hj.1.1
  have n6 := hj.1.2.1
  have kL := hj.2.1.1
  obtain ⟨E, e30, e31, e32, e10, e5, e12, e13, e33⟩ := ar_uB_r (κ := κ1) (w32 := w32) (w27 := w27) (kd := kd) (d := d)
  generalize ar_uB κ1 w32 w27 kd d = κ' at *
  obtain ⟨B1, B2, B3⟩ := hN
  rw [B1 5 (by omega) (by omega)] at e5 e12 e13 e33
  rw [B1 12 (by omega) (by omega)] at e12
  rw [B1 13 (by omega) (by omega)] at e13
  rw [B1 33 (by omega) (by omega)] at e33
  have E0 : ∀ g, g ≠ 30 → g ≠ 31 → g ≠ 32 → g ≠ 10 → g ≠ 12 → g ≠ 13 → g ≠ 5 → g ≠ 33 → g ≠ 14 → g ≠ 15 → κ' g = κ g := fun g a1 a2 a3 a4 a5 a6 a7 a8 a9 a10 => by rw [E g a1 a2 a3 a4 a5 a6 a7 a8, B1 g a9 a10]
  have e14 : κ' 14 = κ1 14 := E 14 (by omega) (by omega) (by omega) (by omega) (by omega) (by omega) (by omega) (by omega)
  have e15 : κ' 15 = κ1 15 := E 15 (by omega) (by omega) (by omega) (by omega) (by omega) (by omega) (by omega) (by omega)
  have F0 : ∀ g, (0 ≤ g ∧ g ≤ 4) ∨ (6 ≤ g ∧ g ≤ 9) ∨ g = 11 ∨ (16 ≤ g ∧ g ≤ 29) ∨ g = 34 → κ' g = κ g := fun g u => E0 g (by omega) (by omega) (by omega) (by omega) (by omega) (by omega) (by omega) (by omega) (by omega) (by omega)
  have eS : ∀ x y, (x < B ∨ B + 2 < x) → (x ≠ K ∨ y ≠ 5) → x ≠ 3 → (x ≠ 2 ∨ y = 1 ∨ y = 4) → ab_rd (ab_wr τ K 5 (κ 5 0 + 1)) x y = ab_rd σ x y := fun x y h1 h2 h3 h4 => by
    rw [ab_rdw_ne (by omega)]
    exact hs.2.2 x y (by unfold ar_PN ac_PR ac_PK9; omega)
  refine ⟨hK, ?_, ?_, fun u => ?_, ?_, ?_, ?_, ?_⟩
  · rw [eS _ _ (by omega) (by omega) (by omega) (by omega), k1]
  · rw [eS _ _ (by omega) (by omega) (by omega) (by omega), k4, F0 11 (by omega)]
  · rw [F0 11 (by omega)] at u
    have eK : ∀ y, y ≠ 5 → ab_rd (ab_wr τ K 5 (κ 5 0 + 1)) K y = ab_rd σ K y := fun y hy => eS K y (by omega) (by omega) (by omega) (by omega)
    unfold ac_KCr
    rw [eK 0 (by omega), eK 1 (by omega), eK 2 (by omega), eK 3 (by omega), eK 4 (by omega), F0 0 (by omega), F0 1 (by omega), F0 2 (by omega), F0 3 (by omega), F0 4 (by omega)]
    exact hr u
  · have eK : ∀ y, y ≠ 5 → ab_rd (ab_wr τ K 5 (κ 5 0 + 1)) K y = ab_rd σ K y := fun y hy => eS K y (by omega) (by omega) (by omega) (by omega)
    obtain ⟨z1, z2, z3, z4, z5, z6⟩ := hz
    refine ⟨?_, ?_, ?_, ?_, ?_, ?_⟩
    · rw [ab_rdw_eq, e5]
    · rw [eK 7 (by omega), F0 6 (by omega), z2]
    · rw [eK 9 (by omega), F0 7 (by omega), z3]
    · rw [eK 10 (by omega), F0 8 (by omega), z4]
    · rw [eK 11 (by omega), F0 8 (by omega), F0 24 (by omega), z5]
    · rw [eK 12 (by omega), F0 9 (by omega), z6]
  · intro b b1 b2
    rw [e5] at b2
    unfold ac_KCb
    rw [e12, e13, e14, e15, e33]
    by_cases z : b = κ 5 0
    · rw [if_pos z, if_pos z, if_pos z, z, ← hB]
      rw [ab_rdw_ne (by omega), ab_rdw_ne (by omega), ab_rdw_ne (by omega)]
      refine ⟨⟨f1, f2, fun arm ha => ⟨?_, fun i i1 i2 => ?_⟩⟩, f0⟩
      · rw [ab_rdw_ne (by omega)]; exact (hA arm ha).1
      · rw [ab_rdw_ne (by omega)]; exact (hA arm ha).2 i i1 i2
    · rw [if_neg z, if_neg z, if_neg z]
      obtain ⟨⟨q1, q2, q3⟩, q4⟩ := hb b b1 (by omega)
      have kb := (kL b b1 (by omega)).2.2
      refine ⟨⟨?_, ?_, fun arm ha => ?_⟩, ?_⟩
      · rw [eS _ _ (by omega) (by omega) (by omega) (by omega), q1]
      · rw [eS _ _ (by omega) (by omega) (by omega) (by omega), q2]
      · have kb1 := (kb arm ha).1
        rw [B2 _ (by omega)]
        refine ⟨?_, fun i i1 i2 => ?_⟩
        · rw [eS _ _ (by omega) (by omega) (by omega) (by omega), (q3 arm ha).1]
        · rw [eS _ _ (by omega) (by omega) (by omega) (by omega), B3 _ (by omega), (q3 arm ha).2 i i1 i2]
      · rw [eS _ _ (by omega) (by omega) (by omega) (by omega), q4]
  · exact ar_KFp hp n6.2 (fun x y h1 h2 => eS x y (by omega) (by omega) (by omega) (by omega)) (F0 6 (by omega)) (F0 8 (by omega)) (F0 16 (by omega)) (F0 17 (by omega)) (F0 18 (by omega)) (F0 19 (by omega)) (F0 20 (by omega)) (F0 21 (by omega)) (F0 22 (by omega)) (F0 23 (by omega)) (F0 27 (by omega)) (F0 28 (by omega)) (F0 29 (by omega)) (F0 34 (by omega))
  · exact ar_KFi hi (fun x y h1 h2 => eS x y (by omega) (by omega) (by omega) (by omega)) (F0 9 (by omega)) (F0 25 (by omega)) (F0 26 (by omega))
/-- segments -/
theorem sp_bn_0 (g : ab_Geo σ) (hK : ac_kit K) (e1 : ab_rd σ 2 1 = K) (c5 : ab_rd σ K 5 = b) (hb : 0 ≤ b ∧ b < 5) (hB : B = K + 5 + 3 * b) (key : ab_Do X 59 [ab_R 2] σ (fun r σ' => ab_Run X 47 20 (13, 0, 0) [ab_R 2, ab_R B] (ab_psh r []) σ' Q)) : ab_Do X 47 [ab_R 2] σ Q := by
  have hv : K = 5 ∨ K = 329 := hK
  obtain ⟨k0, k1, -, -, -, k6, -, -, -⟩ := g.kit hK
  have gB := (g.bone hK hb.1 hb.2).2
  rw [← hB] at gB
  clear hK
  simp (disch := omega) only [do_X7_readBone, rX7_readBone_0, rX7_readBone_1, rX7_readBone_4, rX7_readBone_7, rX7_readBone_8, rX7_readBone_11, rX7_readBone_14, rX7_readBone_15, rX7_readBone_16, rX7_readBone_17, gS_2, gP_2_0, gS_3, g, e1, c5, k0, k1, k6, gB, ne_eq, not_false_eq_true, not_true_eq_false, true_and, and_true, and_self, true_imp_iff, false_imp_iff, imp_self, Bool.not_false, Bool.not_true, reduceCtorEq, ab_isJ, ab_psh, ab_cats, Bool.false_eq_true, if_true, if_false, ab_shf, ab_shw, Int.le_refl, Classical.not_not, Int.zero_add, forall_const, ↓ab_itT, ↓ab_itF, ab_anT, ab_w32_id, ab_rdf_ne, ab_rdw_ne, ab_rdw_eq, ab_rdf_in, ab_td2, ab_tm2, true_or, or_true]
  all_goals exact key
theorem sp_bn_1 (g : ab_Geo τ) (hK : ac_kit K) (hb : 0 ≤ b ∧ b < 5) (hB : B = K + 5 + 3 * b) (el : ab_rd τ 3 5 = v) (key : ab_Do X 70 [ab_R 3] (ab_wr τ B 0 v) (fun r σ' => ab_Run X 47 43 (13, 0, 0) [ab_R 2, ab_R B] (ab_psh r []) σ' Q)) : ab_Run X 47 20 (13, 0, 0) [ab_R 2, ab_R B] (ab_psh (some (ab_I 1)) []) τ Q := by
  have hv : K = 5 ∨ K = 329 := hK
  have q1 := (g.bone hK hb.1 hb.2).1.2.1
  rw [← hB] at q1
  clear hK
  simp (disch := omega) only [rX7_readBone_20, rX7_readBone_25, rX7_readBone_26, rX7_readBone_27, rX7_readBone_30, rX7_readBone_33, rX7_readBone_36, rX7_readBone_37, rX7_readBone_40, gS_2, gP_2_0, gS_3, g, el, q1, ne_eq, not_false_eq_true, not_true_eq_false, true_and, and_true, and_self, true_imp_iff, false_imp_iff, imp_self, Bool.not_false, Bool.not_true, reduceCtorEq, ab_isJ, ab_psh, ab_cats, Bool.false_eq_true, if_true, if_false, ab_shf, ab_shw, Int.le_refl, Classical.not_not, Int.zero_add, forall_const, ↓ab_itT, ↓ab_itF, ab_anT, ab_w32_id, ab_rdf_ne, ab_rdw_ne, ab_rdw_eq, ab_rdf_in, ab_td2, ab_tm2, true_or, or_true]
  all_goals exact key
theorem sp_bn_2 (g : ab_Geo τ) (key : ab_Do X 56 [ab_R 2, ab_R (-16), ab_R (-17), ab_R (-18), ab_R (-19)] τ (fun r σ' => ab_Run X 47 55 (13, 0, 0) [ab_R 2, ab_R B] (ab_psh r []) σ' Q)) : ab_Run X 47 43 (13, 0, 0) [ab_R 2, ab_R B] (ab_psh none []) τ Q := by
  simp (disch := omega) only [rX7_readBone_43, rX7_readBone_44, rX7_readBone_46, rX7_readBone_48, rX7_readBone_50, rX7_readBone_52, gS_2, gP_2_0, gS_3, g, ne_eq, not_false_eq_true, not_true_eq_false, true_and, and_true, and_self, true_imp_iff, false_imp_iff, imp_self, Bool.not_false, Bool.not_true, reduceCtorEq, ab_isJ, ab_psh, ab_cats, Bool.false_eq_true, if_true, if_false, ab_shf, ab_shw, Int.le_refl, Classical.not_not, Int.zero_add, forall_const, ↓ab_itT, ↓ab_itF, ab_anT, ab_w32_id, ab_rdf_ne, ab_rdw_ne, ab_rdw_eq, ab_rdf_in, ab_td2, ab_tm2, true_or, or_true]
  all_goals exact key
theorem sp_bn_3 (g : ab_Geo τ) (hK : ac_kit K) (hb : 0 ≤ b ∧ b < 5) (hB : B = K + 5 + 3 * b) (f5 : ab_rd τ 2 5 = v) (key : ab_Do X 55 [ab_R 2, ab_R (-20), ab_I 0, ab_I 24] (ab_wr τ B 1 v) (fun r σ' => ab_Run X 47 77 (13, 0, 0) [ab_R 2, ab_R B] (ab_psh r []) σ' Q)) : ab_Run X 47 55 (13, 0, 0) [ab_R 2, ab_R B] (ab_psh (some (ab_I 1)) []) τ Q := by
  have hv : K = 5 ∨ K = 329 := hK
  have q1 := (g.bone hK hb.1 hb.2).1.2.1
  rw [← hB] at q1
  clear hK
  simp (disch := omega) only [rX7_readBone_55, rX7_readBone_60, rX7_readBone_61, rX7_readBone_62, rX7_readBone_65, rX7_readBone_68, rX7_readBone_69, rX7_readBone_71, rX7_readBone_72, rX7_readBone_74, gS_2, gP_2_0, gS_3, g, f5, q1, ne_eq, not_false_eq_true, not_true_eq_false, true_and, and_true, and_self, true_imp_iff, false_imp_iff, imp_self, Bool.not_false, Bool.not_true, reduceCtorEq, ab_isJ, ab_psh, ab_cats, Bool.false_eq_true, if_true, if_false, ab_shf, ab_shw, Int.le_refl, Classical.not_not, Int.zero_add, forall_const, ↓ab_itT, ↓ab_itF, ab_anT, ab_w32_id, ab_rdf_ne, ab_rdw_ne, ab_rdw_eq, ab_rdf_in, ab_td2, ab_tm2, true_or, or_true]
  all_goals exact key
theorem sp_bn_4 (g : ab_Geo τ) (hK : ac_kit K) (hb : 0 ≤ b ∧ b < 5) (hB : B = K + 5 + 3 * b) (f5 : ab_rd τ 2 5 = v) (key : ab_Do X 54 [ab_R 2, ab_R (-14)] (ab_wr τ B 2 v) (fun r σ' => ab_Run X 47 96 (13, 0, 0) [ab_R 2, ab_R B] (ab_psh r []) σ' Q)) : ab_Run X 47 77 (13, 0, 0) [ab_R 2, ab_R B] (ab_psh (some (ab_I 1)) []) τ Q := by
  have hv : K = 5 ∨ K = 329 := hK
  have q1 := (g.bone hK hb.1 hb.2).1.2.1
  rw [← hB] at q1
  clear hK
  simp (disch := omega) only [rX7_readBone_77, rX7_readBone_82, rX7_readBone_83, rX7_readBone_84, rX7_readBone_87, rX7_readBone_90, rX7_readBone_91, rX7_readBone_93, gS_2, gP_2_0, gS_3, g, f5, q1, ne_eq, not_false_eq_true, not_true_eq_false, true_and, and_true, and_self, true_imp_iff, false_imp_iff, imp_self, Bool.not_false, Bool.not_true, reduceCtorEq, ab_isJ, ab_psh, ab_cats, Bool.false_eq_true, if_true, if_false, ab_shf, ab_shw, Int.le_refl, Classical.not_not, Int.zero_add, forall_const, ↓ab_itT, ↓ab_itF, ab_anT, ab_w32_id, ab_rdf_ne, ab_rdw_ne, ab_rdw_eq, ab_rdf_in, ab_td2, ab_tm2, true_or, or_true]
  all_goals exact key
theorem sp_bn_5 (g : ab_Geo τ) (hB : B ≠ 0) (key : ab_Do X 48 [ab_R 2, ab_R B, ab_I 0] τ (fun r σ' => ab_Run X 47 105 (13, 0, 0) [ab_R 2, ab_R B] (ab_psh r []) σ' Q)) : ab_Run X 47 96 (13, 0, 0) [ab_R 2, ab_R B] (ab_psh (some (ab_I 1)) []) τ Q := by
  simp (disch := omega) only [rX7_readBone_96, rX7_readBone_99, rX7_readBone_100, rX7_readBone_101, rX7_readBone_102, gS_2, gP_2_0, gS_3, g, ne_eq, not_false_eq_true, not_true_eq_false, true_and, and_true, and_self, true_imp_iff, false_imp_iff, imp_self, Bool.not_false, Bool.not_true, reduceCtorEq, ab_isJ, ab_psh, ab_cats, Bool.false_eq_true, if_true, if_false, ab_shf, ab_shw, Int.le_refl, Classical.not_not, Int.zero_add, forall_const, ↓ab_itT, ↓ab_itF, ab_anT, ab_w32_id, ab_rdf_ne, ab_rdw_ne, ab_rdw_eq, ab_rdf_in, ab_td2, ab_tm2, true_or, or_true]
  all_goals exact key
theorem sp_bn_7 (g : ab_Geo τ) (hB : B ≠ 0) (key : ab_Do X 48 [ab_R 2, ab_R B, ab_I 1] τ (fun r σ' => ab_Run X 47 154 (13, 0, 0) [ab_R 2, ab_R B] (ab_psh r []) σ' Q)) : ab_Run X 47 145 (13, 0, 0) [ab_R 2, ab_R B] (ab_psh (some (ab_I 1)) []) τ Q := by
  simp (disch := omega) only [rX7_readBone_145, rX7_readBone_148, rX7_readBone_149, rX7_readBone_150, rX7_readBone_151, gS_2, gP_2_0, gS_3, g, ne_eq, not_false_eq_true, not_true_eq_false, true_and, and_true, and_self, true_imp_iff, false_imp_iff, imp_self, Bool.not_false, Bool.not_true, reduceCtorEq, ab_isJ, ab_psh, ab_cats, Bool.false_eq_true, if_true, if_false, ab_shf, ab_shw, Int.le_refl, Classical.not_not, Int.zero_add, forall_const, ↓ab_itT, ↓ab_itF, ab_anT, ab_w32_id, ab_rdf_ne, ab_rdw_ne, ab_rdw_eq, ab_rdf_in, ab_td2, ab_tm2, true_or, or_true]
  all_goals exact key
theorem sp_bn_B (hR : ac_RC τ n tp s) (hK : ac_kit K) (hb : 0 ≤ b ∧ b < 5) (hB : B = K + 5 + 3 * b) (pi : ab_rd τ (B + 1) 0 = i) (kA : i < 2 → ac_isw tp n s ac_tx13 → Q (some (ab_I 0)) (ab_wr (ab_wr τ 2 2 6) 2 3 s)) (kB : ¬ (i < 2 ∧ ac_isw tp n s ac_tx13) → ab_Do X 54 [ab_R 2, ab_R (-15)] τ (fun r σ' => ab_Run X 47 145 (13, 0, 0) [ab_R 2, ab_R B] (ab_psh r []) σ' Q)) : ab_Run X 47 105 (13, 0, 0) [ab_R 2, ab_R B] (ab_psh (some (ab_I 1)) []) τ Q := by
  have hv : K = 5 ∨ K = 329 := hK
  have g := hR.geo
  obtain ⟨-, q1, q2, q3, q4, q5⟩ := (g.bone hK hb.1 hb.2).1
  rw [← hB] at q1 q2 q3 q4 q5
  have c2 := fun k Q' => sp_stop (X := X) (Q := Q') (k := k) hR
  have c1 := fun Q' => sp_readsR (X := X) (Q := Q') hR ac_TX13
  clear hR hK
  by_cases z : i < 2
  · by_cases y : ac_isw tp n s ac_tx13
    · have kq := kA z y
      rw [if_pos y] at c1
      clear kA kB
      simp (disch := omega) only [rX7_readBone_105, rX7_readBone_110, rX7_readBone_111, rX7_readBone_114, rX7_readBone_115, rX7_readBone_116, rX7_readBone_117, rX7_readBone_120, rX7_readBone_121, rX7_readBone_124, rX7_readBone_126, rX7_readBone_129, rX7_readBone_132, rX7_readBone_133, rX7_readBone_135, rX7_readBone_138, gS_2, gP_2_0, gS_3, g, q1, q2, q4, pi, c1, c2, ne_eq, not_false_eq_true, not_true_eq_false, true_and, and_true, and_self, true_imp_iff, false_imp_iff, imp_self, Bool.not_false, Bool.not_true, reduceCtorEq, ab_isJ, ab_psh, ab_cats, Bool.false_eq_true, if_true, if_false, ab_shf, ab_shw, Int.le_refl, Classical.not_not, Int.zero_add, forall_const, ↓ab_itT, ↓ab_itF, ab_anT, ab_w32_id, ab_rdf_ne, ab_rdw_ne, ab_rdw_eq, ab_rdf_in, ab_td2, ab_tm2, true_or, or_true]
      all_goals exact kq
    · have kq := kB (fun u => y u.2)
      rw [if_neg y] at c1
      clear kA kB
      simp (disch := omega) only [rX7_readBone_105, rX7_readBone_110, rX7_readBone_111, rX7_readBone_114, rX7_readBone_115, rX7_readBone_116, rX7_readBone_117, rX7_readBone_120, rX7_readBone_121, rX7_readBone_124, rX7_readBone_126, rX7_readBone_129, rX7_readBone_139, rX7_readBone_140, rX7_readBone_142, gS_2, gP_2_0, gS_3, g, q1, q2, q4, pi, c1, ne_eq, not_false_eq_true, not_true_eq_false, true_and, and_true, and_self, true_imp_iff, false_imp_iff, imp_self, Bool.not_false, Bool.not_true, reduceCtorEq, ab_isJ, ab_psh, ab_cats, Bool.false_eq_true, if_true, if_false, ab_shf, ab_shw, Int.le_refl, Classical.not_not, Int.zero_add, forall_const, ↓ab_itT, ↓ab_itF, ab_anT, ab_w32_id, ab_rdf_ne, ab_rdw_ne, ab_rdw_eq, ab_rdf_in, ab_td2, ab_tm2, true_or, or_true]
      all_goals exact kq
  · have kq := kB (fun u => z u.1)
    clear kA kB
    simp (disch := omega) only [rX7_readBone_105, rX7_readBone_110, rX7_readBone_111, rX7_readBone_114, rX7_readBone_115, rX7_readBone_116, rX7_readBone_117, rX7_readBone_139, rX7_readBone_140, rX7_readBone_142, gS_2, gP_2_0, gS_3, g, q1, q2, q4, pi, ne_eq, not_false_eq_true, not_true_eq_false, true_and, and_true, and_self, true_imp_iff, false_imp_iff, imp_self, Bool.not_false, Bool.not_true, reduceCtorEq, ab_isJ, ab_psh, ab_cats, Bool.false_eq_true, if_true, if_false, ab_shf, ab_shw, Int.le_refl, Classical.not_not, Int.zero_add, forall_const, ↓ab_itT, ↓ab_itF, ab_anT, ab_w32_id, ab_rdf_ne, ab_rdw_ne, ab_rdw_eq, ab_rdf_in, ab_td2, ab_tm2, true_or, or_true]
    all_goals exact kq
theorem sp_bn_A (hR : ac_RC τ n tp s) (hK : ac_kit K) (hb : 0 ≤ b ∧ b < 5) (hB : B = K + 5 + 3 * b) (e1 : ab_rd τ 2 1 = K) (c5 : ab_rd τ K 5 = b) (pj : ab_rd τ (B + 1) 1 = j) (kA : j < 2 → (ac_kk tp n s = 4 ∨ ac_kk tp n s = 0) → Q (some (ab_I 0)) (ab_wr (ab_wr τ 2 2 6) 2 3 s)) (kB : ¬ (j < 2 ∧ (ac_kk tp n s = 4 ∨ ac_kk tp n s = 0)) → Q (some (ab_I 1)) (ab_wr τ K 5 (b + 1))) : ab_Run X 47 154 (13, 0, 0) [ab_R 2, ab_R B] (ab_psh (some (ab_I 1)) []) τ Q := by
  have hv : K = 5 ∨ K = 329 := hK
  have g := hR.geo
  have k2 := hR.2.1.1
  have k0 := (g.kit hK).1
  obtain ⟨-, q1, q2, q3, q4, q5⟩ := (g.bone hK hb.1 hb.2).1
  rw [← hB] at q1 q2 q3 q4 q5
  have c2 := fun k Q' => sp_stop (X := X) (Q := Q') (k := k) hR
  clear hR hK
  by_cases z : j < 2
  · by_cases y4 : ac_kk tp n s = 4
    · have kq := kA z (Or.inl y4)
      rw [y4] at k2
      clear kA kB
      simp (disch := omega) only [rX7_readBone_154, rX7_readBone_159, rX7_readBone_160, rX7_readBone_163, rX7_readBone_164, rX7_readBone_165, rX7_readBone_166, rX7_readBone_169, rX7_readBone_170, rX7_readBone_173, rX7_readBone_176, rX7_readBone_177, rX7_readBone_190, rX7_readBone_191, rX7_readBone_193, rX7_readBone_196, gS_2, gP_2_0, gS_3, g, q1, q2, q4, pj, k2, c2, ne_eq, not_false_eq_true, not_true_eq_false, true_and, and_true, and_self, true_imp_iff, false_imp_iff, imp_self, Bool.not_false, Bool.not_true, reduceCtorEq, ab_isJ, ab_psh, ab_cats, Bool.false_eq_true, if_true, if_false, ab_shf, ab_shw, Int.le_refl, Classical.not_not, Int.zero_add, forall_const, ↓ab_itT, ↓ab_itF, ab_anT, ab_w32_id, ab_rdf_ne, ab_rdw_ne, ab_rdw_eq, ab_rdf_in, ab_td2, ab_tm2, true_or, or_true]
      all_goals exact kq
    · by_cases y0 : ac_kk tp n s = 0
      · have kq := kA z (Or.inr y0)
        rw [y0] at k2
        clear kA kB
        simp (disch := omega) only [rX7_readBone_154, rX7_readBone_159, rX7_readBone_160, rX7_readBone_163, rX7_readBone_164, rX7_readBone_165, rX7_readBone_166, rX7_readBone_169, rX7_readBone_170, rX7_readBone_173, rX7_readBone_176, rX7_readBone_177, rX7_readBone_180, rX7_readBone_181, rX7_readBone_184, rX7_readBone_187, rX7_readBone_190, rX7_readBone_191, rX7_readBone_193, rX7_readBone_196, gS_2, gP_2_0, gS_3, g, q1, q2, q4, pj, k2, c2, ne_eq, not_false_eq_true, not_true_eq_false, true_and, and_true, and_self, true_imp_iff, false_imp_iff, imp_self, Bool.not_false, Bool.not_true, reduceCtorEq, ab_isJ, ab_psh, ab_cats, Bool.false_eq_true, if_true, if_false, ab_shf, ab_shw, Int.le_refl, Classical.not_not, Int.zero_add, forall_const, ↓ab_itT, ↓ab_itF, ab_anT, ab_w32_id, ab_rdf_ne, ab_rdw_ne, ab_rdw_eq, ab_rdf_in, ab_td2, ab_tm2, true_or, or_true]
        all_goals exact kq
      · have kq := kB (fun u => by omega)
        generalize ac_kk tp n s = kk at *
        clear kA kB c2
        simp (disch := omega) only [rX7_readBone_154, rX7_readBone_159, rX7_readBone_160, rX7_readBone_163, rX7_readBone_164, rX7_readBone_165, rX7_readBone_166, rX7_readBone_169, rX7_readBone_170, rX7_readBone_173, rX7_readBone_176, rX7_readBone_177, rX7_readBone_180, rX7_readBone_181, rX7_readBone_184, rX7_readBone_187, rX7_readBone_197, rX7_readBone_198, rX7_readBone_201I, rX7_readBone_201R, rX7_readBone_202, rX7_readBone_205, rX7_readBone_206, rX7_readBone_207, rX7_readBone_210, rX7_readBone_211, gS_2, gP_2_0, gS_3, g, e1, c5, k0, q1, q2, q4, pj, k2, ne_eq, not_false_eq_true, not_true_eq_false, true_and, and_true, and_self, true_imp_iff, false_imp_iff, imp_self, Bool.not_false, Bool.not_true, reduceCtorEq, ab_isJ, ab_psh, ab_cats, Bool.false_eq_true, if_true, if_false, ab_shf, ab_shw, Int.le_refl, Classical.not_not, Int.zero_add, forall_const, ↓ab_itT, ↓ab_itF, ab_anT, ab_w32_id, ab_rdf_ne, ab_rdw_ne, ab_rdw_eq, ab_rdf_in, ab_td2, ab_tm2, true_or, or_true]
        all_goals exact kq
  · have kq := kB (fun u => z u.1)
    clear kA kB c2
    simp (disch := omega) only [rX7_readBone_154, rX7_readBone_159, rX7_readBone_160, rX7_readBone_163, rX7_readBone_164, rX7_readBone_165, rX7_readBone_166, rX7_readBone_197, rX7_readBone_198, rX7_readBone_201I, rX7_readBone_201R, rX7_readBone_202, rX7_readBone_205, rX7_readBone_206, rX7_readBone_207, rX7_readBone_210, rX7_readBone_211, gS_2, gP_2_0, gS_3, g, e1, c5, k0, q1, q2, q4, pj, ne_eq, not_false_eq_true, not_true_eq_false, true_and, and_true, and_self, true_imp_iff, false_imp_iff, imp_self, Bool.not_false, Bool.not_true, reduceCtorEq, ab_isJ, ab_psh, ab_cats, Bool.false_eq_true, if_true, if_false, ab_shf, ab_shw, Int.le_refl, Classical.not_not, Int.zero_add, forall_const, ↓ab_itT, ↓ab_itF, ab_anT, ab_w32_id, ab_rdf_ne, ab_rdw_ne, ab_rdw_eq, ab_rdf_in, ab_td2, ab_tm2, true_or, or_true]
    all_goals exact kq
theorem sp_bn_f (h : Q (some (ab_I 0)) τ) : ab_Run X 47 20 (13, 0, 0) [ab_R 2, ab_R B] (ab_psh (some (ab_I 0)) []) τ Q ∧ ab_Run X 47 55 (13, 0, 0) [ab_R 2, ab_R B] (ab_psh (some (ab_I 0)) []) τ Q ∧ ab_Run X 47 77 (13, 0, 0) [ab_R 2, ab_R B] (ab_psh (some (ab_I 0)) []) τ Q ∧ ab_Run X 47 96 (13, 0, 0) [ab_R 2, ab_R B] (ab_psh (some (ab_I 0)) []) τ Q ∧ ab_Run X 47 105 (13, 0, 0) [ab_R 2, ab_R B] (ab_psh (some (ab_I 0)) []) τ Q ∧ ab_Run X 47 145 (13, 0, 0) [ab_R 2, ab_R B] (ab_psh (some (ab_I 0)) []) τ Q ∧ ab_Run X 47 154 (13, 0, 0) [ab_R 2, ab_R B] (ab_psh (some (ab_I 0)) []) τ Q := by
  refine ⟨?_, ?_, ?_, ?_, ?_, ?_, ?_⟩
  · simp (disch := omega) only [rX7_readBone_20, rX7_readBone_23, rX7_readBone_24, ne_eq, not_false_eq_true, not_true_eq_false, true_and, and_true, and_self, true_imp_iff, false_imp_iff, imp_self, Bool.not_false, Bool.not_true, reduceCtorEq, ab_isJ, ab_psh, ab_cats, Bool.false_eq_true, if_true, if_false, ab_shf, ab_shw, Int.le_refl, Classical.not_not, Int.zero_add, forall_const, ↓ab_itT, ↓ab_itF, ab_anT, ab_w32_id, ab_rdf_ne, ab_rdw_ne, ab_rdw_eq, ab_rdf_in, ab_td2, ab_tm2, true_or, or_true]
    all_goals exact h
  · simp (disch := omega) only [rX7_readBone_55, rX7_readBone_58, rX7_readBone_59, ne_eq, not_false_eq_true, not_true_eq_false, true_and, and_true, and_self, true_imp_iff, false_imp_iff, imp_self, Bool.not_false, Bool.not_true, reduceCtorEq, ab_isJ, ab_psh, ab_cats, Bool.false_eq_true, if_true, if_false, ab_shf, ab_shw, Int.le_refl, Classical.not_not, Int.zero_add, forall_const, ↓ab_itT, ↓ab_itF, ab_anT, ab_w32_id, ab_rdf_ne, ab_rdw_ne, ab_rdw_eq, ab_rdf_in, ab_td2, ab_tm2, true_or, or_true]
    all_goals exact h
  · simp (disch := omega) only [rX7_readBone_77, rX7_readBone_80, rX7_readBone_81, ne_eq, not_false_eq_true, not_true_eq_false, true_and, and_true, and_self, true_imp_iff, false_imp_iff, imp_self, Bool.not_false, Bool.not_true, reduceCtorEq, ab_isJ, ab_psh, ab_cats, Bool.false_eq_true, if_true, if_false, ab_shf, ab_shw, Int.le_refl, Classical.not_not, Int.zero_add, forall_const, ↓ab_itT, ↓ab_itF, ab_anT, ab_w32_id, ab_rdf_ne, ab_rdw_ne, ab_rdw_eq, ab_rdf_in, ab_td2, ab_tm2, true_or, or_true]
    all_goals exact h
  · simp (disch := omega) only [rX7_readBone_96, rX7_readBone_108, rX7_readBone_109, ne_eq, not_false_eq_true, not_true_eq_false, true_and, and_true, and_self, true_imp_iff, false_imp_iff, imp_self, Bool.not_false, Bool.not_true, reduceCtorEq, ab_isJ, ab_psh, ab_cats, Bool.false_eq_true, if_true, if_false, ab_shf, ab_shw, Int.le_refl, Classical.not_not, Int.zero_add, forall_const, ↓ab_itT, ↓ab_itF, ab_anT, ab_w32_id, ab_rdf_ne, ab_rdw_ne, ab_rdw_eq, ab_rdf_in, ab_td2, ab_tm2, true_or, or_true]
    all_goals exact h
  · simp (disch := omega) only [rX7_readBone_105, rX7_readBone_108, rX7_readBone_109, ne_eq, not_false_eq_true, not_true_eq_false, true_and, and_true, and_self, true_imp_iff, false_imp_iff, imp_self, Bool.not_false, Bool.not_true, reduceCtorEq, ab_isJ, ab_psh, ab_cats, Bool.false_eq_true, if_true, if_false, ab_shf, ab_shw, Int.le_refl, Classical.not_not, Int.zero_add, forall_const, ↓ab_itT, ↓ab_itF, ab_anT, ab_w32_id, ab_rdf_ne, ab_rdw_ne, ab_rdw_eq, ab_rdf_in, ab_td2, ab_tm2, true_or, or_true]
    all_goals exact h
  · simp (disch := omega) only [rX7_readBone_145, rX7_readBone_157, rX7_readBone_158, ne_eq, not_false_eq_true, not_true_eq_false, true_and, and_true, and_self, true_imp_iff, false_imp_iff, imp_self, Bool.not_false, Bool.not_true, reduceCtorEq, ab_isJ, ab_psh, ab_cats, Bool.false_eq_true, if_true, if_false, ab_shf, ab_shw, Int.le_refl, Classical.not_not, Int.zero_add, forall_const, ↓ab_itT, ↓ab_itF, ab_anT, ab_w32_id, ab_rdf_ne, ab_rdw_ne, ab_rdw_eq, ab_rdf_in, ab_td2, ab_tm2, true_or, or_true]
    all_goals exact h
  · simp (disch := omega) only [rX7_readBone_154, rX7_readBone_157, rX7_readBone_158, ne_eq, not_false_eq_true, not_true_eq_false, true_and, and_true, and_self, true_imp_iff, false_imp_iff, imp_self, Bool.not_false, Bool.not_true, reduceCtorEq, ab_isJ, ab_psh, ab_cats, Bool.false_eq_true, if_true, if_false, ab_shf, ab_shw, Int.le_refl, Classical.not_not, Int.zero_add, forall_const, ↓ab_itT, ↓ab_itF, ab_anT, ab_w32_id, ab_rdf_ne, ab_rdw_ne, ab_rdw_eq, ab_rdf_in, ab_td2, ab_tm2, true_or, or_true]
    all_goals exact h
end
