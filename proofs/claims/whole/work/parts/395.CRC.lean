/-! THE CLASS: kitchen -/
section
variable {X : ab_X} {σ τ ω υ : ab_S} {Q : Option ab_V → ab_S → Prop} {n s K K' v0 m ln l i b na nm : Int} {tp v : Int → Int} {κ κ' : ac_K} {pa pm : Int → Int → Int} {P : Int → Int → Prop}
theorem sp_kt_2 (g : ab_Geo σ) (h1 : ab_rd σ 3 1 = ln) (hn : ¬ (0 ≤ n ∧ n ≤ ln)) (kq : Q (some (ab_I (-1))) (ab_wr σ 1 8 2)) : ab_Do X 81 [ab_R 1, ab_I n] σ Q := by
  by_cases z : 0 ≤ n
  · simp (disch := omega) only [do_X11_kitchen, rX11_kitchen_0, rX11_kitchen_1, rX11_kitchen_4, rX11_kitchen_5, rX11_kitchen_6, rX11_kitchen_9, rX11_kitchen_12, rX11_kitchen_15, rX11_kitchen_18, rX11_kitchen_19, rX11_kitchen_20, rX11_kitchen_23, do_X11_refuse, rX11_refuse_0, rX11_refuse_1, rX11_refuse_2, rX11_refuse_5, rX11_refuse_6, gS_1, gP_1_0, gS_2, gP_2_0, gS_3, g, h1, ne_eq, not_false_eq_true, not_true_eq_false, true_and, and_true, and_self, true_imp_iff, false_imp_iff, imp_self, Bool.not_false, Bool.not_true, reduceCtorEq, ab_isJ, ab_psh, ab_cats, Bool.false_eq_true, if_true, if_false, ab_shf, ab_shw, Int.le_refl, Classical.not_not, Int.zero_add, forall_const, ↓ab_itT, ↓ab_itF, ab_anT, ab_w32_id, ab_rdf_ne, ab_rdw_ne, ab_rdw_eq, ab_rdf_in, ab_td2, ab_tm2, true_or, or_true]
    all_goals exact kq
  · simp (disch := omega) only [do_X11_kitchen, rX11_kitchen_0, rX11_kitchen_1, rX11_kitchen_18, rX11_kitchen_19, rX11_kitchen_20, rX11_kitchen_23, do_X11_refuse, rX11_refuse_0, rX11_refuse_1, rX11_refuse_2, rX11_refuse_5, rX11_refuse_6, gS_1, gP_1_0, gS_2, gP_2_0, gS_3, g, h1, ne_eq, not_false_eq_true, not_true_eq_false, true_and, and_true, and_self, true_imp_iff, false_imp_iff, imp_self, Bool.not_false, Bool.not_true, reduceCtorEq, ab_isJ, ab_psh, ab_cats, Bool.false_eq_true, if_true, if_false, ab_shf, ab_shw, Int.le_refl, Classical.not_not, Int.zero_add, forall_const, ↓ab_itT, ↓ab_itF, ab_anT, ab_w32_id, ab_rdf_ne, ab_rdw_ne, ab_rdw_eq, ab_rdf_in, ab_td2, ab_tm2, true_or, or_true]
    all_goals exact kq
theorem sp_kt_r (g : ab_Geo σ) (h1 : ab_rd σ 3 1 = ln) (hn : 0 ≤ n ∧ n ≤ ln) (key : ab_Do X 42 [ab_R 2, ab_I n] σ (fun r σ' => ab_Run X 81 32 (16, 0, 0) [ab_R 1, ab_I n, ab_R 0, ab_R 0] (ab_psh r []) σ' Q)) : ab_Do X 81 [ab_R 1, ab_I n] σ Q := by
  simp (disch := omega) only [do_X11_kitchen, rX11_kitchen_0, rX11_kitchen_1, rX11_kitchen_4, rX11_kitchen_5, rX11_kitchen_6, rX11_kitchen_9, rX11_kitchen_12, rX11_kitchen_15, rX11_kitchen_24, rX11_kitchen_25, rX11_kitchen_28, rX11_kitchen_29, gS_1, gP_1_0, gS_2, gP_2_0, gS_3, g, h1, ne_eq, not_false_eq_true, not_true_eq_false, true_and, and_true, and_self, true_imp_iff, false_imp_iff, imp_self, Bool.not_false, Bool.not_true, reduceCtorEq, ab_isJ, ab_psh, ab_cats, Bool.false_eq_true, if_true, if_false, ab_shf, ab_shw, Int.le_refl, Classical.not_not, Int.zero_add, forall_const, ↓ab_itT, ↓ab_itF, ab_anT, ab_w32_id, ab_rdf_ne, ab_rdw_ne, ab_rdw_eq, ab_rdf_in, ab_td2, ab_tm2, true_or, or_true]
  all_goals exact key
theorem sp_kt_4 (g : ab_Geo τ) (kq : Q (some (ab_I (-1))) (ab_wr (ab_wr τ 3 1 0) 1 8 4)) : ab_Run X 81 32 (16, 0, 0) [ab_R 1, ab_I n, ab_R 0, ab_R 0] (ab_psh (some (ab_I 0)) []) τ Q := by
  simp (disch := omega) only [rX11_kitchen_32, rX11_kitchen_33, rX11_kitchen_34, rX11_kitchen_37, rX11_kitchen_40, rX11_kitchen_41, rX11_kitchen_44, rX11_kitchen_45, rX11_kitchen_48, rX11_kitchen_49, rX11_kitchen_50, rX11_kitchen_53, do_X11_refuse, rX11_refuse_0, rX11_refuse_1, rX11_refuse_2, rX11_refuse_5, rX11_refuse_6, gS_1, gP_1_0, gS_2, gP_2_0, gS_3, g, ne_eq, not_false_eq_true, not_true_eq_false, true_and, and_true, and_self, true_imp_iff, false_imp_iff, imp_self, Bool.not_false, Bool.not_true, reduceCtorEq, ab_isJ, ab_psh, ab_cats, Bool.false_eq_true, if_true, if_false, ab_shf, ab_shw, Int.le_refl, Classical.not_not, Int.zero_add, forall_const, ↓ab_itT, ↓ab_itF, ab_anT, ab_w32_id, ab_rdf_ne, ab_rdw_ne, ab_rdw_eq, ab_rdf_in, ab_td2, ab_tm2, true_or, or_true]
  all_goals exact kq
theorem sp_kt_0 (g : ab_Geo τ) (hK : K = 5 ∨ K = 329) (e7 : ab_rd τ 1 7 = K) (e1 : ab_rd τ 2 1 = K') (key : ab_Do X 62 [ab_R 31, ab_R K'] (ab_wr (ab_wr (ab_wr τ 3 1 0) 1 7 K') 2 1 K) (fun r σ' => ab_Run X 81 89 (16, 0, 0) [ab_R 1, ab_I n, ab_I 1, ab_R K] (ab_psh r []) σ' Q)) : ab_Run X 81 32 (16, 0, 0) [ab_R 1, ab_I n, ab_R 0, ab_R 0] (ab_psh (some (ab_I 1)) []) τ Q := by
  simp (disch := omega) only [rX11_kitchen_32, rX11_kitchen_33, rX11_kitchen_34, rX11_kitchen_37, rX11_kitchen_40, rX11_kitchen_41, rX11_kitchen_44, rX11_kitchen_45, rX11_kitchen_54, rX11_kitchen_55, rX11_kitchen_58, rX11_kitchen_59, rX11_kitchen_60, rX11_kitchen_61, rX11_kitchen_64, rX11_kitchen_67, rX11_kitchen_70, rX11_kitchen_71, rX11_kitchen_74, rX11_kitchen_75, rX11_kitchen_78, rX11_kitchen_79, rX11_kitchen_82, rX11_kitchen_83, rX11_kitchen_86, gS_1, gP_1_0, gP_1_1, gS_2, gP_2_0, gS_3, gS_31, g, e7, e1, ne_eq, not_false_eq_true, not_true_eq_false, true_and, and_true, and_self, true_imp_iff, false_imp_iff, imp_self, Bool.not_false, Bool.not_true, reduceCtorEq, ab_isJ, ab_psh, ab_cats, Bool.false_eq_true, if_true, if_false, ab_shf, ab_shw, Int.le_refl, Classical.not_not, Int.zero_add, forall_const, ↓ab_itT, ↓ab_itF, ab_anT, ab_w32_id, ab_rdf_ne, ab_rdw_ne, ab_rdw_eq, ab_rdf_in, ab_td2, ab_tm2, true_or, or_true]
  all_goals exact key
theorem sp_kt_e (g : ab_Geo τ) (hK : K' = 5 ∨ K' = 329) (e7 : ab_rd τ 1 7 = K') (c5 : ab_rd τ K' 5 = b) (kq : Q (some (ab_I b)) (ab_wr (ab_wr (ab_wr τ 36 3 0) 36 4 0) 1 8 0)) {l2 l3 : ab_V} : ab_Run X 81 89 (16, 0, 0) [ab_R 1, ab_I n, l2, l3] (ab_psh none []) τ Q := by
  have s0 := (g.kit hK).1
  simp (disch := omega) only [rX11_kitchen_89, rX11_kitchen_90, rX11_kitchen_93, rX11_kitchen_96, rX11_kitchen_97, rX11_kitchen_98, rX11_kitchen_101, rX11_kitchen_102, rX11_kitchen_105, rX11_kitchen_108, do_X3_clear, rX3_clear_0, rX3_clear_1, rX3_clear_2, rX3_clear_5, rX3_clear_6, rX3_clear_7, rX3_clear_10, gS_1, gP_1_2, gS_36, g, e7, c5, s0, ne_eq, not_false_eq_true, not_true_eq_false, true_and, and_true, and_self, true_imp_iff, false_imp_iff, imp_self, Bool.not_false, Bool.not_true, reduceCtorEq, ab_isJ, ab_psh, ab_cats, Bool.false_eq_true, if_true, if_false, ab_shf, ab_shw, Int.le_refl, Classical.not_not, Int.zero_add, forall_const, ↓ab_itT, ↓ab_itF, ab_anT, ab_w32_id, ab_rdf_ne, ab_rdw_ne, ab_rdw_eq, ab_rdf_in, ab_td2, ab_tm2, true_or, or_true]
  all_goals exact kq
theorem ar_so_b {S : Int} (h : ac_so S) : 31 ≤ S ∧ S ≤ 129 := by
  rcases h with rfl | ⟨i, h1, rfl⟩ <;> omega
/-- a failed reading -/
def ar_P4 (K : Int) : Int → Int → Prop := fun a f => ar_PO K a f ∨ (a = 3 ∧ f = 1) ∨ (a = 1 ∧ f = 8)
theorem ar_P4_b (hK : K' = 5 ∨ K' = 329) {a f : Int} (h : ar_P4 K' a f) : (a = 2 ∧ f ≠ 0 ∧ f ≠ 1) ∨ (a = 3 ∧ f ≠ 0) ∨ (a = 1 ∧ f = 8) ∨ (K' ≤ a ∧ a ≤ K' + 25) := by
  unfold ar_P4 ar_PO ar_PL ac_PR ac_PK9 ar_PK at h
  omega
theorem ar_P4_pt (hK : ac_kit K') : ∀ a f, 0 ≤ a → a ≤ 368 → 0 ≤ f → ar_P4 K' a f → ab_pt a f = 0 := by
  intro a f h1 h2 h3 hp
  rcases hp with hp | ⟨rfl, rfl⟩ | ⟨rfl, rfl⟩
  · exact ar_PO_pt hK a f h1 h2 h3 hp
  · decide +kernel
  · decide +kernel
theorem ac_CV.same4 (h : ac_CV σ K κ v na pa nm pm) (hK' : K' = 334 - K) (hs : ab_Same (ar_P4 K') σ τ) : ac_CV τ K κ v na pa nm pm := by
  obtain ⟨⟨h1, h2, h3, h4, h5⟩, hS, hV, hH, ha, hm⟩ := h
  have hK := h3.1
  have hv : K = 5 ∨ K = 329 := hK
  have hv' : K' = 5 ∨ K' = 329 := by omega
  have n5 := h4.1
  have n6 := h4.2.1
  have so : ∀ S, ac_so S → ∀ a f, ac_PS S a f → ¬ ar_P4 K' a f := fun S hS a f u w => by
    have b := ar_so_b hS
    have := ar_P4_b hv' w
    unfold ac_PS at u
    omega
  refine ⟨⟨h1.same hs (ar_P4_pt hv'), by rw [hs.2.2 1 7 (fun w => by have := ar_P4_b hv' w; omega), h2], h3.sameK n5.2 n6.2 (fun a f a1 a2 => hs.2.2 a f (fun w => by have := ar_P4_b hv' w; omega)), h4, h5⟩, hS.sameG n5.2 hs (so 31 (Or.inl rfl)), hV, hH.same n5.2 hs (fun a f u w => by
    rcases u with rfl | ⟨S, s1, s2⟩
    · have := ar_P4_b hv' w; omega
    · exact so S s1 a f s2 w), ha, hm⟩
theorem ca_kitchen (h : ac_CV σ K κ v na pa nm pm) (hf : ab_rd σ 2 1 = 334 - K) (hT : ac_TC σ ln tp) (hb : ∀ i, -128 ≤ tp i ∧ tp i ≤ 127)
    (hQ2 : ¬ (0 ≤ n ∧ n ≤ ln) → ∀ τ, ab_Same ac_PC σ τ → ab_rd τ 1 8 = 2 → Q (some (ab_I (-1))) τ)
    (hQ4 : 0 ≤ n ∧ n ≤ ln → ∀ w pl, ar_rd tp n = .inl (w, pl) → ∀ τ, ab_Same ar_lo σ τ → ac_CV τ K κ v na pa nm pm → ab_rd τ 2 1 = 334 - K → ac_TC τ 0 tp → ab_rd τ 1 8 = 4 → ab_rd τ 2 2 = w → ab_rd τ 2 3 = pl → Q (some (ab_I (-1))) τ)
    (hQ0 : 0 ≤ n ∧ n ≤ ln → ∀ κ' s', ar_rd tp n = .inr (κ', s') → ar_J κ' → 1 ≤ κ' 5 0 → 2 ≤ κ' 6 0 → ∀ τ, ab_Same ar_lo σ τ → ac_CV τ (334 - K) κ' (ar_v0 κ') 0 pa 0 pm → ab_rd τ 2 1 = K → ac_TC τ 0 tp → ab_rd τ 1 8 = 0 → ab_rd τ 2 2 = 0 → Q (some (ab_I (κ' 5 0))) τ) : ab_Do X 81 [ab_R 1, ab_I n] σ Q := by
  have g := h.1.1
  have hK := h.1.2.2.1.1
  have hv : K = 5 ∨ K = 329 := hK
  have t1 := hT.1
  by_cases hn : 0 ≤ n ∧ n ≤ ln
  · obtain ⟨K', eK'⟩ : ∃ x, x = 334 - K := ⟨_, rfl⟩
    rw [← eK'] at hf hQ4 hQ0
    have hv' : K' = 5 ∨ K' = 329 := by omega
    refine sp_kt_r g t1 hn (sp_read g hv' hf hT hb hn (fun w pl e τ u1 u2 u3 => ?_) (fun κ' s' e J h5 h6 τ u1 u2 u3 => ?_))
    · have gt := g.same u1 (ar_PO_pt hv')
      have u1' : ab_Same (ar_P4 K') σ τ := u1.mono (fun _ _ u => Or.inl u)
      have u4 : ab_Same (ar_P4 K') σ (ab_wr (ab_wr τ 3 1 0) 1 8 4) := (u1'.wr (Or.inr (Or.inl ⟨rfl, rfl⟩))).wr (Or.inr (Or.inr ⟨rfl, rfl⟩))
      refine sp_kt_4 gt (hQ4 hn w pl e _ (u4.mono (fun a f z => by have := ar_P4_b hv' z; unfold ar_lo; omega)) (h.same4 eK' u4) ?_ ⟨?_, by omega, fun i i1 i2 => by omega⟩ ab_rdw_eq ?_ ?_)
      · rw [u4.2.2 2 1 (fun w => by have := ar_P4_b hv' w; omega), hf]
      · rw [ab_rdw_ne (by omega), ab_rdw_eq]
      · rw [ab_rdw_ne (by omega), ab_rdw_ne (by omega), u2]
      · rw [ab_rdw_ne (by omega), ab_rdw_ne (by omega), u3]
    · have gt := g.same u1 (ar_PO_pt hv')
      have lo1 : ab_Same ar_lo σ τ := u1.mono (fun a f z => by have := ar_P4_b hv' (Or.inl z); unfold ar_lo; omega)
      have e7 : ab_rd τ 1 7 = K := by rw [u1.2.2 1 7 (fun w => by have := ar_P4_b hv' (Or.inl w); omega)]; exact h.1.2.1
      obtain ⟨k11, kk⟩ := J.kk h5 h6
      have kc := u3.kc k11
      have uω : ab_Same (fun a f => (a = 3 ∧ f = 1) ∨ (a = 1 ∧ f = 7) ∨ (a = 2 ∧ f = 1)) τ (ab_wr (ab_wr (ab_wr τ 3 1 0) 1 7 K') 2 1 K) := ((ab_Same.refl.wr (Or.inl ⟨rfl, rfl⟩)).wr (Or.inr (Or.inl ⟨rfl, rfl⟩))).wr (Or.inr (Or.inr ⟨rfl, rfl⟩))
      have gω : ab_Geo (ab_wr (ab_wr (ab_wr τ 3 1 0) 1 7 K') 2 1 K) := gt.same uω (fun a f a1 a2 a3 z => by rcases z with ⟨rfl, rfl⟩ | ⟨rfl, rfl⟩ | ⟨rfl, rfl⟩ <;> decide +kernel)
      refine sp_kt_0 gt hv e7 u3.2.1 (sp_begin gω hv' (fun υ w1 w2 w3 w4 => ?_))
      have gυ := gω.same w1 (ac_PS_pt (Or.inl rfl))
      have n5 := J.1.1
      have n6 := J.1.2.1
      have uυ : ab_Same (fun a f => (a = 3 ∧ f = 1) ∨ (a = 1 ∧ f = 7) ∨ (a = 2 ∧ f = 1) ∨ ac_PS 31 a f) τ υ := (uω.mono (fun a f z => by omega)).trans (w1.mono (fun a f z => Or.inr (Or.inr (Or.inr z))))
      have uE : ab_Same (fun a f => (a = 3 ∧ f = 1) ∨ (a = 1 ∧ f = 7) ∨ (a = 2 ∧ f = 1) ∨ ac_PS 31 a f ∨ (a = 36 ∧ (f = 3 ∨ f = 4)) ∨ (a = 1 ∧ f = 8)) τ (ab_wr (ab_wr (ab_wr υ 36 3 0) 36 4 0) 1 8 0) := (((uυ.mono (fun a f z => z.elim Or.inl (fun z => Or.inr (z.elim Or.inl (fun z => Or.inr (z.elim Or.inl (fun z => Or.inr (Or.inl z)))))))).wr (by omega)).wr (by omega)).wr (by omega)
      have gE : ab_Geo (ab_wr (ab_wr (ab_wr υ 36 3 0) 36 4 0) 1 8 0) := gυ.same (P := fun a f => (a = 36 ∧ (f = 3 ∨ f = 4)) ∨ (a = 1 ∧ f = 8)) (((ab_Same.refl.wr (by omega)).wr (by omega)).wr (by omega)) (fun a f a1 a2 a3 z => by rcases z with ⟨rfl, rfl | rfl⟩ | ⟨rfl, rfl⟩ <;> decide +kernel)
      have kc5 : ab_rd υ K' 5 = κ' 5 0 := by
        rw [uυ.2.2 K' 5 (fun z => by unfold ac_PS at z; omega)]
        exact kc.2.2.1.1
      have e7υ : ab_rd υ 1 7 = K' := by
        rw [w1.2.2 1 7 (fun z => by unfold ac_PS at z; omega), ab_rdw_ne (by omega), ab_rdw_eq]
      have lo2 : ab_Same ar_lo σ (ab_wr (ab_wr (ab_wr υ 36 3 0) 36 4 0) 1 8 0) := lo1.trans (uE.mono (fun a f z => by unfold ac_PS at z; unfold ar_lo; omega))
      have bone : ∀ b, 0 ≤ b → b < κ' 5 0 → ab_rd υ 32 b = κ' 12 b ∧ ab_rd υ 33 b = κ' 13 b ∧ ab_rd υ 34 b = 0 := fun b b1 b2 => by
        obtain ⟨q1, q2, q3⟩ := w2 b b1 (by omega)
        obtain ⟨r1, r2, -⟩ := kc.2.2.2.1 b b1 b2
        have x1 : ab_rd (ab_wr (ab_wr (ab_wr τ 3 1 0) 1 7 K') 2 1 K) (K' + 5 + 3 * b) 1 = ab_rd τ (K' + 5 + 3 * b) 1 := uω.2.2 _ _ (by omega)
        have x2 : ab_rd (ab_wr (ab_wr (ab_wr τ 3 1 0) 1 7 K') 2 1 K) (K' + 5 + 3 * b) 2 = ab_rd τ (K' + 5 + 3 * b) 2 := uω.2.2 _ _ (by omega)
        exact ⟨by rw [q1, x1, r1], by rw [q2, x2, r2], q3⟩
      have z10 : ar_v0 κ' 10 = 0 := by unfold ar_v0; rw [if_neg (by omega), if_neg (by omega)]
      refine sp_kt_e gυ hv' e7υ kc5 (hQ0 hn κ' s' e J h5 h6 _ lo2 ⟨⟨gE, ?_, ?_, J.1, Or.inr kk⟩, ⟨fun b b1 b2 => ?_, fun p p1 p2 => ?_, ?_⟩, ar_v0_VB kk, ⟨?_, ?_, ?_, by omega, by omega, fun i i1 i2 => by omega, fun i i1 i2 => by omega, fun S hS => ?_⟩, fun i i1 i2 => by omega, fun i i1 i2 => by omega⟩ ?_ ⟨?_, by omega, fun i i1 i2 => by omega⟩ ab_rdw_eq ?_)
      · rw [ab_rdw_ne (by omega), ab_rdw_ne (by omega), ab_rdw_ne (by omega), e7υ]
      · exact kc.sameK n5.2 n6.2 (fun a f a1 a2 => uE.2.2 a f (fun z => by unfold ac_PS at z; omega))
      · obtain ⟨q1, q2, q3⟩ := bone b b1 b2
        rw [ab_rdw_ne (by omega), ab_rdw_ne (by omega), ab_rdw_ne (by omega), ab_rdw_ne (by omega), ab_rdw_ne (by omega), ab_rdw_ne (by omega), ab_rdw_ne (by omega), ab_rdw_ne (by omega), ab_rdw_ne (by omega)]
        refine ⟨?_, ?_, ?_⟩
        · show ab_rd υ 32 b = _
          rw [q1]; unfold ar_v0; rw [if_pos (by omega)]
        · show ab_rd υ 33 b = _
          rw [q2]; unfold ar_v0; rw [if_neg (by omega), if_pos (by omega), show 5 + b - 5 = b by omega]
        · show ab_rd υ 34 b = _
          rw [q3, z10]; unfold ac_bit; rw [Int.zero_ediv]; rfl
      · rw [ab_rdw_ne (by omega), ab_rdw_ne (by omega), ab_rdw_ne (by omega)]
        show ab_rd υ 35 p = _
        rw [w3 p p1 p2]; unfold ar_v0; rw [if_neg (by omega), if_neg (by omega)]
      · rw [ab_rdw_ne (by omega), ab_rdw_ne (by omega), ab_rdw_ne (by omega), w4]; unfold ar_v0; rw [if_neg (by omega), if_neg (by omega)]
      · have e36 : ab_rd (ab_wr (ab_wr (ab_wr υ 36 3 0) 36 4 0) 1 8 0) 36 2 = ab_rd σ 36 2 := by
          rw [uE.2.2 36 2 (fun z => by unfold ac_PS at z; omega), u1.2.2 36 2 (fun w => by have := ar_P4_b hv' (Or.inl w); omega)]
        rw [e36]; exact h.2.2.2.1.1
      · rw [ab_rdw_ne (by omega), ab_rdw_ne (by omega), ab_rdw_eq]
      · rw [ab_rdw_ne (by omega), ab_rdw_eq]
      · intro k k1 k2
        by_cases zS : S = 31
        · left
          rw [zS, ab_rdw_ne (by omega), ab_rdw_ne (by omega), ab_rdw_ne (by omega)]
          exact (w2 k k1 k2).2.2
        · have bS := ar_so_b hS
          have bS2 : 39 ≤ S := by rcases hS with z | ⟨j, z1, z2⟩ <;> omega
          rw [uE.2.2 _ _ (fun z => by unfold ac_PS at z; omega), u1.2.2 _ _ (fun w => by have := ar_P4_b hv' (Or.inl w); omega)]
          exact h.2.2.2.1.2.2.2.2.2.2.2 S hS k k1 k2
      · rw [ab_rdw_ne (by omega), ab_rdw_ne (by omega), ab_rdw_ne (by omega), w1.2.2 2 1 (fun z => by unfold ac_PS at z; omega), ab_rdw_eq]
      · rw [ab_rdw_ne (by omega), ab_rdw_ne (by omega), ab_rdw_ne (by omega), w1.2.2 3 1 (fun z => by unfold ac_PS at z; omega), ab_rdw_ne (by omega), ab_rdw_ne (by omega), ab_rdw_eq]
      · rw [uE.2.2 2 2 (fun z => by unfold ac_PS at z; omega), u2]
  · exact sp_kt_2 g t1 hn (hQ2 hn _ (ab_Same.refl.wr (by unfold ac_PC; omega)) ab_rdw_eq)
end
