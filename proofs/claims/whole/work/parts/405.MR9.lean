/-! THE REFERENCE: kitchen -/
def ar_P8 : Int → Int → Prop := fun a f => a = 355 ∧ (f ≤ 2 ∨ f = 4 ∨ (6 ≤ f ∧ f ≤ 15))
def ar_G8 (P : Int → Int → Prop) (σ τ : ab_S) : Prop := σ.1 ≤ τ.1 ∧ τ.1 ≤ σ.1 + 22 ∧ (∀ a, a < σ.1 → ab_sh τ a = ab_sh σ a) ∧ ∀ a f, a < σ.1 → ¬ P a f → ab_rd τ a f = ab_rd σ a f
theorem ar_P8_T : ∀ f : Fin 16, f.val ≤ 2 ∨ f.val = 4 ∨ (6 ≤ f.val ∧ f.val ≤ 15) → ab_pt 355 f.val = 0 := by decide +kernel
theorem ar_P8_pt : ∀ a f, 0 ≤ a → a ≤ 368 → 0 ≤ f → ar_P8 a f → ab_pt a f = 0 := by
  intro a f h1 h2 h3 hp
  obtain ⟨rfl, q⟩ := hp
  have := ar_P8_T ⟨f.toNat, by omega⟩ (by dsimp only; omega)
  dsimp only at this
  rwa [Int.toNat_of_nonneg h3] at this
section
variable {X : ab_X} {σ τ υ ω : ab_S} {Q : Option ab_V → ab_S → Prop} {M M0 n x y a k ln w pl i b m na nm : Int} {κ κ' : ac_K} {tp v : Int → Int} {P R : Int → Int → Prop} {pa pm : Int → Int → Int}
theorem ar_G8.geo (h : ar_G8 P σ τ) (g : ab_Geo σ) (hp : ∀ a f, 0 ≤ a → a ≤ 368 → 0 ≤ f → P a f → ab_pt a f = 0) : ab_Geo τ := by
  obtain ⟨h1, h2, h3, h4⟩ := h
  obtain ⟨g1, g2, g3⟩ := g
  refine ⟨by omega, fun a a1 a2 => by rw [h3 a (by omega)]; exact g2 a a1 a2, fun a f a1 a2 a3 a4 => ?_⟩
  rw [h4 a f (by omega) (fun u => a4 (hp a f a1 a2 a3 u))]
  exact g3 a f a1 a2 a3 a4
theorem ar_G8.tr (h : ar_G8 P σ τ) (hs : ab_Same R τ υ) (hp : ∀ a f, a < σ.1 → R a f → P a f) : ar_G8 P σ υ := by
  obtain ⟨h1, h2, h3, h4⟩ := h
  exact ⟨by rw [hs.1]; exact h1, by rw [hs.1]; exact h2, fun a ha => by rw [hs.2.1]; exact h3 a ha, fun a f ha u => by rw [hs.2.2 a f (fun w => u (hp a f ha w))]; exact h4 a f ha u⟩
theorem ar_G8.mono (h : ar_G8 P σ τ) (hp : ∀ a f, P a f → R a f) : ar_G8 R σ τ := ⟨h.1, h.2.1, h.2.2.1, fun a f ha u => h.2.2.2 a f ha (fun w => u (hp a f w))⟩
theorem ar_G8.mg (h : ar_G8 P σ τ) (g : ac_MG σ M0) (hM : M0 + 22 ≤ σ.1) (hp : ∀ a f, 369 ≤ a → ¬ P a f) : ac_MG τ M0 := by
  obtain ⟨g1, g2, g3, g4⟩ := g
  exact ⟨g1, by rw [h.2.2.1 _ (by omega), g2], fun f f1 f2 => by rw [h.2.2.2 _ _ (by omega) (hp _ _ g1), g3 f f1 f2], fun f f1 f2 => by rw [h.2.2.1 _ (by omega), g4 f f1 f2]⟩
theorem ar_G8.km (h : ar_G8 P σ τ) (g : ac_KM σ M0 κ) (hM0 : 369 ≤ M0) (hM : M0 + 22 ≤ σ.1) (hp : ∀ a f, 369 ≤ a → ¬ P a f) : ac_KM τ M0 κ := by
  obtain ⟨g1, g2⟩ := g
  exact ⟨fun f f1 f2 => by rw [h.2.2.2 _ _ (by omega) (hp _ _ hM0), g1 f f1 f2], fun f i f1 f2 i1 i2 => by rw [h.2.2.2 _ _ (by omega) (hp _ _ (by omega)), g2 f i f1 f2 i1 i2]⟩
theorem mk_2 (g : ab_Geo σ) (h6 : ab_rd σ 355 6 = ln) (hn : ¬ (0 ≤ n ∧ n ≤ ln)) (kq : Q (some (ab_I (-1))) (ab_wr (ab_wr (ab_wr σ 355 0 0) 355 1 2) 355 2 (-1))) : ab_Do X 198 [ab_R 355, ab_I n] σ Q := by
  by_cases z : 0 ≤ n
  · simp (disch := omega) only [do_X13_kitchen, rX13_kitchen_0, rX13_kitchen_1, rX13_kitchen_2, rX13_kitchen_5, rX13_kitchen_6, rX13_kitchen_9, rX13_kitchen_10, rX13_kitchen_11, rX13_kitchen_14, rX13_kitchen_17, rX13_kitchen_18, rX13_kitchen_19, rX13_kitchen_22, do_X13_refused, rX13_refused_0, rX13_refused_1, rX13_refused_2, rX13_refused_5, rX13_refused_6, rX13_refused_7, rX13_refused_10, rX13_refused_11, gS_355, g, h6, ne_eq, not_false_eq_true, not_true_eq_false, true_and, and_true, and_self, true_imp_iff, false_imp_iff, imp_self, Bool.not_false, Bool.not_true, reduceCtorEq, ab_isJ, ab_psh, ab_cats, Bool.false_eq_true, if_true, if_false, ab_shf, ab_shw, Int.le_refl, Classical.not_not, Int.zero_add, forall_const, ↓ab_itT, ↓ab_itF, ab_anT, ab_w32_id, ab_rdf_ne, ab_rdw_ne, ab_rdw_eq, ab_rdf_in, ab_td2, ab_tm2, true_or, or_true]
    all_goals exact kq
  · simp (disch := omega) only [do_X13_kitchen, rX13_kitchen_0, rX13_kitchen_1, rX13_kitchen_2, rX13_kitchen_5, rX13_kitchen_6, rX13_kitchen_17, rX13_kitchen_18, rX13_kitchen_19, rX13_kitchen_22, do_X13_refused, rX13_refused_0, rX13_refused_1, rX13_refused_2, rX13_refused_5, rX13_refused_6, rX13_refused_7, rX13_refused_10, rX13_refused_11, gS_355, g, h6, ne_eq, not_false_eq_true, not_true_eq_false, true_and, and_true, and_self, true_imp_iff, false_imp_iff, imp_self, Bool.not_false, Bool.not_true, reduceCtorEq, ab_isJ, ab_psh, ab_cats, Bool.false_eq_true, if_true, if_false, ab_shf, ab_shw, Int.le_refl, Classical.not_not, Int.zero_add, forall_const, ↓ab_itT, ↓ab_itF, ab_anT, ab_w32_id, ab_rdf_ne, ab_rdw_ne, ab_rdw_eq, ab_rdf_in, ab_td2, ab_tm2, true_or, or_true]
    all_goals exact kq
def ar_w5 (σ : ab_S) (n : Int) : ab_S := ab_wr (ab_wr (ab_wr (ab_wr (ab_wr σ 355 0 0) 355 7 n) 355 6 0) 355 8 0) 355 13 0
theorem mk_n (g : ab_Geo σ) (h6 : ab_rd σ 355 6 = ln) (hn : 0 ≤ n ∧ n ≤ ln) (hM : σ.1 = M) (key : ab_Do X 152 [ab_R M] (ab_new (ar_w5 σ n) 13 0) (fun r σ' => ab_Run X 198 51 (18, 0, 0) [ab_R 355, ab_I n, ab_R 0] (ab_psh r [ab_R M, ab_R 355]) σ' Q)) : ab_Do X 198 [ab_R 355, ab_I n] σ Q := by
  have s0 : ab_sh (ab_new (ab_wr (ab_wr (ab_wr (ab_wr (ab_wr σ 355 0 0) 355 7 n) 355 6 0) 355 8 0) 355 13 0) 13 0) M = (13, 0) := by rw [ab_shn, if_pos]; exact hM.symm
  unfold ar_w5 at key
  simp (disch := omega) only [do_X13_kitchen, rX13_kitchen_0, rX13_kitchen_1, rX13_kitchen_2, rX13_kitchen_5, rX13_kitchen_6, rX13_kitchen_9, rX13_kitchen_10, rX13_kitchen_11, rX13_kitchen_14, rX13_kitchen_23, rX13_kitchen_24, rX13_kitchen_25, rX13_kitchen_28, rX13_kitchen_29, rX13_kitchen_30, rX13_kitchen_33, rX13_kitchen_34, rX13_kitchen_35, rX13_kitchen_38, rX13_kitchen_39, rX13_kitchen_40, rX13_kitchen_43, rX13_kitchen_47I, rX13_kitchen_47R, rX13_kitchen_48, rX13_kitchen_44, gS_355, g, h6, s0, hM, ab_nxw, Nat.reduceSub, ne_eq, not_false_eq_true, not_true_eq_false, true_and, and_true, and_self, true_imp_iff, false_imp_iff, imp_self, Bool.not_false, Bool.not_true, reduceCtorEq, ab_isJ, ab_psh, ab_cats, Bool.false_eq_true, if_true, if_false, ab_shf, ab_shw, Int.le_refl, Classical.not_not, Int.zero_add, forall_const, ↓ab_itT, ↓ab_itF, ab_anT, ab_w32_id, ab_rdf_ne, ab_rdw_ne, ab_rdw_eq, ab_rdf_in, ab_td2, ab_tm2, true_or, or_true]
  all_goals exact key
theorem mk_g (g : ab_Geo τ) (hM : M ≠ 0) (key : ab_Do X 171 [ab_R 355] (ab_wr (ab_wr τ 355 4 M) 355 9 0) (fun r σ' => ab_Run X 198 63 (18, 0, 0) [ab_R 355, ab_I n, ab_R 0] (ab_psh r []) σ' Q)) : ab_Run X 198 51 (18, 0, 0) [ab_R 355, ab_I n, ab_R 0] (ab_psh none [ab_R M, ab_R 355]) τ Q := by
  simp (disch := omega) only [rX13_kitchen_51, rX13_kitchen_54, rX13_kitchen_55, rX13_kitchen_56, rX13_kitchen_59, rX13_kitchen_60, gS_355, g, ne_eq, not_false_eq_true, not_true_eq_false, true_and, and_true, and_self, true_imp_iff, false_imp_iff, imp_self, Bool.not_false, Bool.not_true, reduceCtorEq, ab_isJ, ab_psh, ab_cats, Bool.false_eq_true, if_true, if_false, ab_shf, ab_shw, Int.le_refl, Classical.not_not, Int.zero_add, forall_const, ↓ab_itT, ↓ab_itF, ab_anT, ab_w32_id, ab_rdf_ne, ab_rdw_ne, ab_rdw_eq, ab_rdf_in, ab_td2, ab_tm2, true_or, or_true]
  all_goals exact key
theorem mk_a (g : ab_Geo τ) (key : ab_Do X 187 [ab_R 355] τ (fun r σ' => ab_Run X 198 67 (18, 0, 0) [ab_R 355, ab_I n, ab_R 0] (ab_psh r []) σ' Q)) : ab_Run X 198 63 (18, 0, 0) [ab_R 355, ab_I n, ab_R 0] (ab_psh none []) τ Q := by
  simp (disch := omega) only [rX13_kitchen_63, rX13_kitchen_64, gS_355, g, ne_eq, not_false_eq_true, not_true_eq_false, true_and, and_true, and_self, true_imp_iff, false_imp_iff, imp_self, Bool.not_false, Bool.not_true, reduceCtorEq, ab_isJ, ab_psh, ab_cats, Bool.false_eq_true, if_true, if_false, ab_shf, ab_shw, Int.le_refl, Classical.not_not, Int.zero_add, forall_const, ↓ab_itT, ↓ab_itF, ab_anT, ab_w32_id, ab_rdf_ne, ab_rdw_ne, ab_rdw_eq, ab_rdf_in, ab_td2, ab_tm2, true_or, or_true]
  all_goals exact key
theorem mk_4 (h : ac_RF τ w pl) (hw : 1 ≤ w) (kq : Q (some (ab_I (-1))) (ab_wr (ab_wr τ 355 1 4) 355 2 pl)) : ab_Run X 198 67 (18, 0, 0) [ab_R 355, ab_I n, ab_R 0] (ab_psh none []) τ Q := by
  have g := h.1
  have h13 := h.2.2.1
  have h14 := h.2.2.2
  clear h
  simp (disch := omega) only [rX13_kitchen_67, rX13_kitchen_68, rX13_kitchen_71, rX13_kitchen_74, rX13_kitchen_75, rX13_kitchen_76, rX13_kitchen_79, rX13_kitchen_80, rX13_kitchen_81, rX13_kitchen_84, rX13_kitchen_87, rX13_kitchen_88, gS_355, g, h13, h14, ne_eq, not_false_eq_true, not_true_eq_false, true_and, and_true, and_self, true_imp_iff, false_imp_iff, imp_self, Bool.not_false, Bool.not_true, reduceCtorEq, ab_isJ, ab_psh, ab_cats, Bool.false_eq_true, if_true, if_false, ab_shf, ab_shw, Int.le_refl, Classical.not_not, Int.zero_add, forall_const, ↓ab_itT, ↓ab_itF, ab_anT, ab_w32_id, ab_rdf_ne, ab_rdw_ne, ab_rdw_eq, ab_rdf_in, ab_td2, ab_tm2, true_or, or_true]
  all_goals exact kq
theorem mk_0 (g : ab_Geo τ) (h13 : ab_rd τ 355 13 = 0) (h4 : ab_rd τ 355 4 = M) (kq : ab_Run X 198 99 (18, 0, 0) [ab_R 355, ab_I n, ab_I 0] [] (ab_wr τ 355 3 M) Q) : ab_Run X 198 67 (18, 0, 0) [ab_R 355, ab_I n, ab_R 0] (ab_psh none []) τ Q := by
  simp (disch := omega) only [rX13_kitchen_67, rX13_kitchen_68, rX13_kitchen_71, rX13_kitchen_89, rX13_kitchen_90, rX13_kitchen_91, rX13_kitchen_94, rX13_kitchen_97, rX13_kitchen_98, gS_355, g, h13, h4, ne_eq, not_false_eq_true, not_true_eq_false, true_and, and_true, and_self, true_imp_iff, false_imp_iff, imp_self, Bool.not_false, Bool.not_true, reduceCtorEq, ab_isJ, ab_psh, ab_cats, Bool.false_eq_true, if_true, if_false, ab_shf, ab_shw, Int.le_refl, Classical.not_not, Int.zero_add, forall_const, ↓ab_itT, ↓ab_itF, ab_anT, ab_w32_id, ab_rdf_ne, ab_rdw_ne, ab_rdw_eq, ab_rdf_in, ab_td2, ab_tm2, true_or, or_true]
  all_goals exact kq
theorem mk_l1 (g : ab_Geo τ) : ∀ (m : Nat) (i : Int), 0 ≤ i → i + m = 18 → ab_Run X 198 120 (18, 0, 0) [ab_R 355, ab_I n, ab_I 0] [] (ab_fl τ 357 18 (fun _ => 0)) Q → ab_Run X 198 99 (18, 0, 0) [ab_R 355, ab_I n, ab_I i] [] (ab_fl τ 357 i (fun _ => 0)) Q := by
  intro m
  induction m with
  | zero =>
    intro i hi hm kq
    obtain rfl : i = 18 := by omega
    rw [rX13_kitchen_99]
    simp (disch := omega) only [rX13_kitchen_100, rX13_kitchen_102, rX13_kitchen_118, rX13_kitchen_119, ne_eq, not_false_eq_true, not_true_eq_false, true_and, and_true, and_self, true_imp_iff, false_imp_iff, imp_self, Bool.not_false, Bool.not_true, reduceCtorEq, ab_isJ, ab_psh, ab_cats, Bool.false_eq_true, if_true, if_false, ab_shf, ab_shw, Int.le_refl, Classical.not_not, Int.zero_add, forall_const, ↓ab_itT, ↓ab_itF, ab_anT, ab_w32_id, ab_rdf_ne, ab_rdw_ne, ab_rdw_eq, ab_rdf_in, ab_td2, ab_tm2, true_or, or_true]
    all_goals exact kq
  | succ m ih =>
    intro i hi hm kq
    have key := ih (i + 1) (by omega) (by omega) kq
    rw [← ab_fl_succ hi] at key
    clear ih kq
    rw [rX13_kitchen_99]
    simp (disch := omega) only [rX13_kitchen_100, rX13_kitchen_102, rX13_kitchen_105, rX13_kitchen_106, rX13_kitchen_109, rX13_kitchen_110, rX13_kitchen_111, rX13_kitchen_112, rX13_kitchen_115, gS_355, gP_355_16, gS_357, g, ne_eq, not_false_eq_true, not_true_eq_false, true_and, and_true, and_self, true_imp_iff, false_imp_iff, imp_self, Bool.not_false, Bool.not_true, reduceCtorEq, ab_isJ, ab_psh, ab_cats, Bool.false_eq_true, if_true, if_false, ab_shf, ab_shw, Int.le_refl, Classical.not_not, Int.zero_add, forall_const, ↓ab_itT, ↓ab_itF, ab_anT, ab_w32_id, ab_rdf_ne, ab_rdw_ne, ab_rdw_eq, ab_rdf_in, ab_td2, ab_tm2, true_or, or_true]
    all_goals exact key
theorem mk_e (g : ab_Geo τ) (h3 : ab_rd τ 355 3 = M) (hM : 369 ≤ M) (s0 : ab_sh τ M = (13, 0)) (c5 : ab_rd τ M 5 = b) (kq : Q (some (ab_I b)) (ab_wr (ab_wr (ab_wr (ab_wr τ 355 19 0) 355 20 0) 355 1 0) 355 2 (-1))) : ab_Run X 198 120 (18, 0, 0) [ab_R 355, ab_I n, ab_I 5] [] τ Q := by
  rw [rX13_kitchen_120]
  simp (disch := omega) only [rX13_kitchen_121, rX13_kitchen_122, rX13_kitchen_165, rX13_kitchen_166, rX13_kitchen_167, rX13_kitchen_170, rX13_kitchen_171, rX13_kitchen_172, rX13_kitchen_175, rX13_kitchen_176, rX13_kitchen_177, rX13_kitchen_180, rX13_kitchen_183, rX13_kitchen_186, do_X13_good, rX13_good_0, rX13_good_1, rX13_good_2, rX13_good_5, rX13_good_6, rX13_good_7, rX13_good_10, rX13_good_11, gS_355, g, h3, s0, c5, ne_eq, not_false_eq_true, not_true_eq_false, true_and, and_true, and_self, true_imp_iff, false_imp_iff, imp_self, Bool.not_false, Bool.not_true, reduceCtorEq, ab_isJ, ab_psh, ab_cats, Bool.false_eq_true, if_true, if_false, ab_shf, ab_shw, Int.le_refl, Classical.not_not, Int.zero_add, forall_const, ↓ab_itT, ↓ab_itF, ab_anT, ab_w32_id, ab_rdf_ne, ab_rdw_ne, ab_rdw_eq, ab_rdf_in, ab_td2, ab_tm2, true_or, or_true]
  all_goals exact kq
theorem mk_l2 (g : ab_Geo σ) (h3 : ab_rd σ 355 3 = M) (hG : ac_MG σ M) (hK : ac_KM σ M κ) : ∀ (m : Nat) (i : Int) (τ : ab_S), 0 ≤ i → i + m = 5 → ab_Same (fun a _ => a = 357) σ τ → (∀ k, 0 ≤ k → k < 18 → ab_rd τ 357 k = if k < i then κ 12 k else if 5 ≤ k ∧ k < 5 + i then κ 13 (k - 5) else 0) → (∀ υ, ab_Same (fun a _ => a = 357) σ υ → (∀ k, 0 ≤ k → k < 18 → ab_rd υ 357 k = ar_v0 κ k) → Q (some (ab_I (κ 5 0))) (ab_wr (ab_wr (ab_wr (ab_wr υ 355 19 0) 355 20 0) 355 1 0) 355 2 (-1))) → ab_Run X 198 120 (18, 0, 0) [ab_R 355, ab_I n, ab_I i] [] τ Q := by
  have hM := hG.1
  intro m
  induction m with
  | zero =>
    intro i τ hi hm hs hv hQ
    obtain rfl : i = 5 := by omega
    have gt : ab_Geo τ := g.same hs (fun a f a1 a2 a3 u => by rw [u]; exact ab_pt_nil rfl)
    exact mk_e gt (by rw [hs.2.2 355 3 (by omega), h3]) hM (by rw [hs.2.1, hG.2.1]) (by rw [hs.2.2 M 5 (by omega)]; exact kM_5 hK) (hQ τ hs (fun k k1 k2 => by
      rw [hv k k1 k2]
      unfold ar_v0
      by_cases z : k < 5
      · rw [if_pos z, if_pos z]
      · rw [if_neg z, if_neg z]
        by_cases y : k < 10
        · rw [if_pos (by omega), if_pos y]
        · rw [if_neg (by omega), if_neg y]))
  | succ m ih =>
    intro i τ hi hm hs hv hQ
    have gt : ab_Geo τ := g.same hs (fun a f a1 a2 a3 u => by rw [u]; exact ab_pt_nil rfl)
    have t3 : ab_rd τ 355 3 = M := by rw [hs.2.2 355 3 (by omega), h3]
    have hi2 : ∀ a (f : Int), 369 ≤ a → ¬ (fun (a : Int) (_ : Int) => a = 357) a f := fun a f h u => by omega
    have tG := hG.same hs hi2
    have tK := hK.same hM hs hi2
    have s0 := tG.2.1
    have s12 := mS_12 tG
    have p12 := mP_12 tG
    have e12 := kM_12 tK hi (by omega : i < 5)
    have s13 := mS_13 tG
    have p13 := mP_13 tG
    have e13 := kM_13 tK hi (by omega : i < 5)
    have kq := ih (i + 1) (ab_wr (ab_wr τ 357 i (κ 12 i)) 357 (5 + i) (κ 13 i)) (by omega) (by omega) ((hs.wr rfl).wr rfl) (fun k k1 k2 => by
      by_cases z1 : k = 5 + i
      · rw [z1, ab_rdw_eq, if_neg (by omega), if_pos (by omega), show 5 + i - 5 = i by omega]
      · rw [ab_rdw_ne (by omega)]
        by_cases z2 : k = i
        · rw [z2, ab_rdw_eq, if_pos (by omega)]
        · rw [ab_rdw_ne (by omega), hv k k1 k2]
          by_cases z3 : k < i
          · rw [if_pos z3, if_pos (by omega)]
          · rw [if_neg z3, if_neg (c := k < i + 1) (by omega)]
            by_cases z4 : 5 ≤ k ∧ k < 5 + i
            · rw [if_pos z4, if_pos (by omega)]
            · rw [if_neg z4, if_neg (by omega)]) hQ
    clear ih hQ hv hs tG tK hi2
    rw [rX13_kitchen_120]
    simp (disch := omega) only [rX13_kitchen_121, rX13_kitchen_122, rX13_kitchen_125, rX13_kitchen_126, rX13_kitchen_129, rX13_kitchen_130, rX13_kitchen_131, rX13_kitchen_132, rX13_kitchen_133, rX13_kitchen_136, rX13_kitchen_139, rX13_kitchen_140, rX13_kitchen_141, rX13_kitchen_142, rX13_kitchen_143, rX13_kitchen_146, rX13_kitchen_147, rX13_kitchen_148, rX13_kitchen_149, rX13_kitchen_150, rX13_kitchen_153, rX13_kitchen_156, rX13_kitchen_157, rX13_kitchen_158, rX13_kitchen_159, rX13_kitchen_162, gS_355, gP_355_16, gS_357, gt, t3, s0, s12, p12, e12, s13, p13, e13, ne_eq, not_false_eq_true, not_true_eq_false, true_and, and_true, and_self, true_imp_iff, false_imp_iff, imp_self, Bool.not_false, Bool.not_true, reduceCtorEq, ab_isJ, ab_psh, ab_cats, Bool.false_eq_true, if_true, if_false, ab_shf, ab_shw, Int.le_refl, Classical.not_not, Int.zero_add, forall_const, ↓ab_itT, ↓ab_itF, ab_anT, ab_w32_id, ab_rdf_ne, ab_rdw_ne, ab_rdw_eq, ab_rdf_in, ab_td2, ab_tm2, true_or, or_true]
    all_goals exact kq
end
