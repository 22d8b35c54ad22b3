/-! THE REFERENCE: bone, thick, person, worth, let -/
def ac_sr (x b : Int) : Int := ab_ok32 (fun x y => x >>> (y &&& 31)) x b
def ac_an (x b : Int) : Int := ab_ok32 (fun x y => x &&& y) x b
theorem ac_fsr {x b : Int} : ab_ok32 (fun x y => x >>> (y &&& 31)) x b = ac_sr x b := rfl
theorem ac_fan {x b : Int} : ab_ok32 (fun x y => x &&& y) x b = ac_an x b := rfl
theorem ac_bitf : ∀ x : Fin 64, ∀ b : Fin 6, ac_an (ac_sr x.val b.val) 1 = ac_bit x.val b.val := by decide +kernel
theorem ac_bits {x b : Int} (hx : 0 ≤ x ∧ x < 64) (hb : 0 ≤ b ∧ b < 6) : ac_an (ac_sr x b) 1 = ac_bit x b := by
  have := ac_bitf ⟨x.toNat, by omega⟩ ⟨b.toNat, by omega⟩
  dsimp only at this
  rwa [Int.toNat_of_nonneg hx.1, Int.toNat_of_nonneg hb.1] at this
section
variable {X : ab_X} {σ τ : ab_S} {Q : Option ab_V → ab_S → Prop} {M : Int} {κ : ac_K} {v : Int → Int} {kd d b p hp q hq mv fa ft arm k x lo w n : Int}
theorem mq_bit (hx : 0 ≤ x ∧ x < 64) (hb : 0 ≤ b ∧ b < 6) : ab_Do X 164 [ab_I x, ab_I b] σ Q ↔ Q (some (ab_I (ac_bit x b))) σ := by
  have e := ac_bits hx hb
  rcases ac_bit01 (x := x) (b := b) with z | z
  · rw [z] at e ⊢
    simp (disch := omega) only [do_X13_bit, rX13_bit_0, rX13_bit_1, rX13_bit_2, rX13_bit_3, rX13_bit_4, rX13_bit_5, rX13_bit_6, rX13_bit_9, rX13_bit_10, rX13_bit_13, rX13_bit_14, ac_fsr, ac_fan, e, ne_eq, not_false_eq_true, not_true_eq_false, true_and, and_true, and_self, true_imp_iff, false_imp_iff, imp_self, Bool.not_false, Bool.not_true, reduceCtorEq, ab_isJ, ab_psh, ab_cats, Bool.false_eq_true, if_true, if_false, ab_shf, ab_shw, Int.le_refl, Classical.not_not, Int.zero_add, forall_const, ↓ab_itT, ↓ab_itF, ab_anT, ab_w32_id, ab_rdf_ne, ab_rdw_ne, ab_rdw_eq, ab_rdf_in, ab_td2, ab_tm2, true_or]
  · rw [z] at e ⊢
    simp (disch := omega) only [do_X13_bit, rX13_bit_0, rX13_bit_1, rX13_bit_2, rX13_bit_3, rX13_bit_4, rX13_bit_5, rX13_bit_6, rX13_bit_9, rX13_bit_10, rX13_bit_13, rX13_bit_14, ac_fsr, ac_fan, e, ne_eq, not_false_eq_true, not_true_eq_false, true_and, and_true, and_self, true_imp_iff, false_imp_iff, imp_self, Bool.not_false, Bool.not_true, reduceCtorEq, ab_isJ, ab_psh, ab_cats, Bool.false_eq_true, if_true, if_false, ab_shf, ab_shw, Int.le_refl, Classical.not_not, Int.zero_add, forall_const, ↓ab_itT, ↓ab_itF, ab_anT, ab_w32_id, ab_rdf_ne, ab_rdw_ne, ab_rdw_eq, ab_rdf_in, ab_td2, ab_tm2, or_true]
theorem mq_bone (h : ac_MN σ κ) (hv : ac_MV σ κ v) (hQ : ∀ τ, ab_Same ac_PM σ τ → ab_rd τ 355 1 = ac_bnT κ b w → ab_rd τ 355 2 = -1 → Q (some (ab_I (if ac_bnT κ b w = 0 then ac_bnA κ v b w else -1))) τ) : ab_Do X 217 [ab_R 355, ab_I b, ab_I w] σ Q := by
  have h' := h.same ac_mq0
  have g0 := h.1
  have g := h'.1
  have c1 := fun b Q' => mq_isBone (X := X) (Q := Q') (b := b) h'
  have c2 := fun p q Q' => mq_isPair (X := X) (Q := Q') (p := p) (q := q) h'
  have c1p := fun b Q' => mq_isPerson (X := X) (Q := Q') (b := b) h'
  have cl := fun b arm k Q' => mq_isPlace (X := X) (Q := Q') (b := b) (arm := arm) (k := k) h'
  have cin := fun x lo hi Q' => mq_in (X := X) (σ := ab_wr σ 355 0 0) (Q := Q') (x := x) (lo := lo) (hi := hi)
  have cr := fun v Q' => sp_refused (X := X) (Q := Q') (v := v) g
  have c0 := fun b hp hq mv Q' => mq_rp0 (X := X) (σ := ab_wr σ 355 0 0) (Q := Q') (b := b) (hp := hp) (hq := hq) (mv := mv)
  by_cases hb : ac_isB κ b
  · by_cases hw : 0 ≤ w ∧ w ≤ 4
    · have eT : ac_bnT κ b w = 0 := if_pos ⟨hb, hw⟩
      rw [eT, if_pos rfl] at hQ
      have hq' := hQ _ (ac_end1 ac_mq0).1 (ac_end1 ac_mq0).2.1 (ac_end1 ac_mq0).2.2
      obtain ⟨M, hm⟩ := h.mb hb
      have hm' := hm.same (τ := ab_wr σ 355 0 0) ac_mq0
      have h3 : ab_rd (ab_wr σ 355 0 0) 355 3 = M := hm'.2.1
      have zM := hm.2.2.1.1
      have hG := hm'.2.2.1
      have hM := hm'.2.2.2.1
      have n5 := hm.2.2.2.2.2.1.1.2
      have n6 := hm.2.2.2.2.2.1.2.1.2
      have c6 := fun x Q' => sp_good (X := X) (Q := Q') (v := x) g
      have hv0 := hv.1 b (by omega) (by omega)
      have hv1 := hv.1 (5 + b) (by omega) (by omega)
      have hv2 := hv.1 10 (by omega) (by omega)
      have eb := ac_bits (x := v 10) (b := b) (by have := hv.2.2.1; omega) (by omega)
      have c7 := fun Q' => mq_many (X := X) (Q := Q') (arm := 0) hm' hb (Or.inl rfl)
      have c8 := fun Q' => mq_many (X := X) (Q := Q') (arm := 1) hm' hb (Or.inr rfl)
      unfold ac_bnA at hq'
      obtain rfl | rfl | rfl | rfl | rfl : w = 0 ∨ w = 1 ∨ w = 2 ∨ w = 3 ∨ w = 4 := by omega
      · simp (disch := omega) only [do_X13_bone, rX13_bone_0, rX13_bone_1, rX13_bone_2, rX13_bone_5, rX13_bone_6, rX13_bone_7, rX13_bone_10, rX13_bone_13, rX13_bone_14, rX13_bone_15, rX13_bone_16, rX13_bone_19, rX13_bone_22, rX13_bone_23, rX13_bone_24, rX13_bone_27, rX13_bone_28, rX13_bone_29_0, rX13_bone_29_1, rX13_bone_29_2, rX13_bone_29_3, rX13_bone_29_d, rX13_bone_60, rX13_bone_61, rX13_bone_62, rX13_bone_65, rX13_bone_66, rX13_bone_67, rX13_bone_68, rX13_bone_69, rX13_bone_72, rX13_bone_73, rX13_bone_74, rX13_bone_75, rX13_bone_78, rX13_bone_79, rX13_bone_80, rX13_bone_81, rX13_bone_82, rX13_bone_85, rX13_bone_86, rX13_bone_87, rX13_bone_88, rX13_bone_91, rX13_bone_92, rX13_bone_93, rX13_bone_96, rX13_bone_99, rX13_bone_100, rX13_bone_101, rX13_bone_102, rX13_bone_105, rX13_bone_106, rX13_bone_107, rX13_bone_110, rX13_bone_113, rX13_bone_114, rX13_bone_115, rX13_bone_116, rX13_bone_119, rX13_bone_121, rX13_bone_122, rX13_bone_123, rX13_bone_124, rX13_bone_125, rX13_bone_126, rX13_bone_129, gS_355, gP_355_16, gS_357, g0, g, c1, cin, if_pos hb, ab_ifT, c6, hv0, ne_eq, not_false_eq_true, not_true_eq_false, true_and, and_true, and_self, true_imp_iff, false_imp_iff, imp_self, Bool.not_false, Bool.not_true, reduceCtorEq, ab_isJ, ab_psh, ab_cats, Bool.false_eq_true, if_true, if_false, ab_shf, ab_shw, Int.le_refl, Classical.not_not, Int.zero_add, forall_const, ↓ab_itT, ↓ab_itF, ab_anT, ab_w32_id, ab_rdf_ne, ab_rdw_ne, ab_rdw_eq, ab_rdf_in, ab_td2, ab_tm2]
        all_goals exact hq'
      · simp (disch := omega) only [do_X13_bone, rX13_bone_0, rX13_bone_1, rX13_bone_2, rX13_bone_5, rX13_bone_6, rX13_bone_7, rX13_bone_10, rX13_bone_13, rX13_bone_14, rX13_bone_15, rX13_bone_16, rX13_bone_19, rX13_bone_22, rX13_bone_23, rX13_bone_24, rX13_bone_27, rX13_bone_28, rX13_bone_29_0, rX13_bone_29_1, rX13_bone_29_2, rX13_bone_29_3, rX13_bone_29_d, rX13_bone_60, rX13_bone_61, rX13_bone_62, rX13_bone_65, rX13_bone_66, rX13_bone_67, rX13_bone_68, rX13_bone_69, rX13_bone_72, rX13_bone_73, rX13_bone_74, rX13_bone_75, rX13_bone_78, rX13_bone_79, rX13_bone_80, rX13_bone_81, rX13_bone_82, rX13_bone_85, rX13_bone_86, rX13_bone_87, rX13_bone_88, rX13_bone_91, rX13_bone_92, rX13_bone_93, rX13_bone_96, rX13_bone_99, rX13_bone_100, rX13_bone_101, rX13_bone_102, rX13_bone_105, rX13_bone_106, rX13_bone_107, rX13_bone_110, rX13_bone_113, rX13_bone_114, rX13_bone_115, rX13_bone_116, rX13_bone_119, rX13_bone_121, rX13_bone_122, rX13_bone_123, rX13_bone_124, rX13_bone_125, rX13_bone_126, rX13_bone_129, gS_355, gP_355_16, gS_357, g0, g, c1, cin, if_pos hb, ab_ifT, c6, hv1, ne_eq, not_false_eq_true, not_true_eq_false, true_and, and_true, and_self, true_imp_iff, false_imp_iff, imp_self, Bool.not_false, Bool.not_true, reduceCtorEq, ab_isJ, ab_psh, ab_cats, Bool.false_eq_true, if_true, if_false, ab_shf, ab_shw, Int.le_refl, Classical.not_not, Int.zero_add, forall_const, ↓ab_itT, ↓ab_itF, ab_anT, ab_w32_id, ab_rdf_ne, ab_rdw_ne, ab_rdw_eq, ab_rdf_in, ab_td2, ab_tm2]
        all_goals exact hq'
      · simp (disch := omega) only [do_X13_bone, rX13_bone_0, rX13_bone_1, rX13_bone_2, rX13_bone_5, rX13_bone_6, rX13_bone_7, rX13_bone_10, rX13_bone_13, rX13_bone_14, rX13_bone_15, rX13_bone_16, rX13_bone_19, rX13_bone_22, rX13_bone_23, rX13_bone_24, rX13_bone_27, rX13_bone_28, rX13_bone_29_0, rX13_bone_29_1, rX13_bone_29_2, rX13_bone_29_3, rX13_bone_29_d, rX13_bone_60, rX13_bone_61, rX13_bone_62, rX13_bone_65, rX13_bone_66, rX13_bone_67, rX13_bone_68, rX13_bone_69, rX13_bone_72, rX13_bone_73, rX13_bone_74, rX13_bone_75, rX13_bone_78, rX13_bone_79, rX13_bone_80, rX13_bone_81, rX13_bone_82, rX13_bone_85, rX13_bone_86, rX13_bone_87, rX13_bone_88, rX13_bone_91, rX13_bone_92, rX13_bone_93, rX13_bone_96, rX13_bone_99, rX13_bone_100, rX13_bone_101, rX13_bone_102, rX13_bone_105, rX13_bone_106, rX13_bone_107, rX13_bone_110, rX13_bone_113, rX13_bone_114, rX13_bone_115, rX13_bone_116, rX13_bone_119, rX13_bone_121, rX13_bone_122, rX13_bone_123, rX13_bone_124, rX13_bone_125, rX13_bone_126, rX13_bone_129, gS_355, g0, g, c1, cin, if_pos hb, ab_ifT, c6, c7, h3, mS, hG, ne_eq, not_false_eq_true, not_true_eq_false, true_and, and_true, and_self, true_imp_iff, false_imp_iff, imp_self, Bool.not_false, Bool.not_true, reduceCtorEq, ab_isJ, ab_psh, ab_cats, Bool.false_eq_true, if_true, if_false, ab_shf, ab_shw, Int.le_refl, Classical.not_not, Int.zero_add, forall_const, ↓ab_itT, ↓ab_itF, ab_anT]
        all_goals exact hq'
      · simp (disch := omega) only [do_X13_bone, rX13_bone_0, rX13_bone_1, rX13_bone_2, rX13_bone_5, rX13_bone_6, rX13_bone_7, rX13_bone_10, rX13_bone_13, rX13_bone_14, rX13_bone_15, rX13_bone_16, rX13_bone_19, rX13_bone_22, rX13_bone_23, rX13_bone_24, rX13_bone_27, rX13_bone_28, rX13_bone_29_0, rX13_bone_29_1, rX13_bone_29_2, rX13_bone_29_3, rX13_bone_29_d, rX13_bone_60, rX13_bone_61, rX13_bone_62, rX13_bone_65, rX13_bone_66, rX13_bone_67, rX13_bone_68, rX13_bone_69, rX13_bone_72, rX13_bone_73, rX13_bone_74, rX13_bone_75, rX13_bone_78, rX13_bone_79, rX13_bone_80, rX13_bone_81, rX13_bone_82, rX13_bone_85, rX13_bone_86, rX13_bone_87, rX13_bone_88, rX13_bone_91, rX13_bone_92, rX13_bone_93, rX13_bone_96, rX13_bone_99, rX13_bone_100, rX13_bone_101, rX13_bone_102, rX13_bone_105, rX13_bone_106, rX13_bone_107, rX13_bone_110, rX13_bone_113, rX13_bone_114, rX13_bone_115, rX13_bone_116, rX13_bone_119, rX13_bone_121, rX13_bone_122, rX13_bone_123, rX13_bone_124, rX13_bone_125, rX13_bone_126, rX13_bone_129, gS_355, g0, g, c1, cin, if_pos hb, ab_ifT, c6, c8, h3, mS, hG, ne_eq, not_false_eq_true, not_true_eq_false, true_and, and_true, and_self, true_imp_iff, false_imp_iff, imp_self, Bool.not_false, Bool.not_true, reduceCtorEq, ab_isJ, ab_psh, ab_cats, Bool.false_eq_true, if_true, if_false, ab_shf, ab_shw, Int.le_refl, Classical.not_not, Int.zero_add, forall_const, ↓ab_itT, ↓ab_itF, ab_anT]
        all_goals exact hq'
      · simp (disch := omega) only [do_X13_bone, rX13_bone_0, rX13_bone_1, rX13_bone_2, rX13_bone_5, rX13_bone_6, rX13_bone_7, rX13_bone_10, rX13_bone_13, rX13_bone_14, rX13_bone_15, rX13_bone_16, rX13_bone_19, rX13_bone_22, rX13_bone_23, rX13_bone_24, rX13_bone_27, rX13_bone_28, rX13_bone_29_0, rX13_bone_29_1, rX13_bone_29_2, rX13_bone_29_3, rX13_bone_29_d, rX13_bone_60, rX13_bone_61, rX13_bone_62, rX13_bone_65, rX13_bone_66, rX13_bone_67, rX13_bone_68, rX13_bone_69, rX13_bone_72, rX13_bone_73, rX13_bone_74, rX13_bone_75, rX13_bone_78, rX13_bone_79, rX13_bone_80, rX13_bone_81, rX13_bone_82, rX13_bone_85, rX13_bone_86, rX13_bone_87, rX13_bone_88, rX13_bone_91, rX13_bone_92, rX13_bone_93, rX13_bone_96, rX13_bone_99, rX13_bone_100, rX13_bone_101, rX13_bone_102, rX13_bone_105, rX13_bone_106, rX13_bone_107, rX13_bone_110, rX13_bone_113, rX13_bone_114, rX13_bone_115, rX13_bone_116, rX13_bone_119, rX13_bone_121, rX13_bone_122, rX13_bone_123, rX13_bone_124, rX13_bone_125, rX13_bone_126, rX13_bone_129, gS_355, gP_355_16, gS_357, g0, g, c1, cin, if_pos hb, ab_ifT, c6, hv2, ac_fsr, ac_fan, eb, ne_eq, not_false_eq_true, not_true_eq_false, true_and, and_true, and_self, true_imp_iff, false_imp_iff, imp_self, Bool.not_false, Bool.not_true, reduceCtorEq, ab_isJ, ab_psh, ab_cats, Bool.false_eq_true, if_true, if_false, ab_shf, ab_shw, Int.le_refl, Classical.not_not, Int.zero_add, forall_const, ↓ab_itT, ↓ab_itF, ab_anT, ab_w32_id, ab_rdf_ne, ab_rdw_ne, ab_rdw_eq, ab_rdf_in, ab_td2, ab_tm2]
        all_goals exact hq'
    · have eT : ac_bnT κ b w = 1 := by exact if_neg (fun u => hw u.2)
      rw [eT, if_neg (by decide)] at hQ
      simp (disch := omega) only [do_X13_bone, rX13_bone_0, rX13_bone_1, rX13_bone_2, rX13_bone_5, rX13_bone_6, rX13_bone_7, rX13_bone_10, rX13_bone_13, rX13_bone_14, rX13_bone_15, rX13_bone_16, rX13_bone_19, rX13_bone_22, rX13_bone_23, rX13_bone_24, rX13_bone_27, rX13_bone_28, rX13_bone_29_0, rX13_bone_29_1, rX13_bone_29_2, rX13_bone_29_3, rX13_bone_29_d, rX13_bone_60, rX13_bone_61, rX13_bone_62, rX13_bone_65, rX13_bone_66, rX13_bone_67, rX13_bone_68, rX13_bone_69, rX13_bone_72, rX13_bone_73, rX13_bone_74, rX13_bone_75, rX13_bone_78, rX13_bone_79, rX13_bone_80, rX13_bone_81, rX13_bone_82, rX13_bone_85, rX13_bone_86, rX13_bone_87, rX13_bone_88, rX13_bone_91, rX13_bone_92, rX13_bone_93, rX13_bone_96, rX13_bone_99, rX13_bone_100, rX13_bone_101, rX13_bone_102, rX13_bone_105, rX13_bone_106, rX13_bone_107, rX13_bone_110, rX13_bone_113, rX13_bone_114, rX13_bone_115, rX13_bone_116, rX13_bone_119, rX13_bone_121, rX13_bone_122, rX13_bone_123, rX13_bone_124, rX13_bone_125, rX13_bone_126, rX13_bone_129, gS_355, g0, c1, c2, cl, cin, c0, cr, if_pos hb, if_neg hw, ne_eq, not_false_eq_true, not_true_eq_false, true_and, and_true, and_self, true_imp_iff, false_imp_iff, imp_self, Bool.not_false, Bool.not_true, reduceCtorEq, ab_isJ, ab_psh, ab_cats, Bool.false_eq_true, if_true, if_false, ab_shf, ab_shw, Int.le_refl, Classical.not_not, Int.zero_add, forall_const, ↓ab_itT, ↓ab_itF, ab_anT, ab_w32_id, ab_rdf_ne, ab_rdw_ne, ab_rdw_eq, ab_rdf_in, ab_td2, ab_tm2, ab_ifF]
      exact hQ _ (ac_end1 ac_mq0).1 (ac_end1 ac_mq0).2.1 (ac_end1 ac_mq0).2.2
  · have eT : ac_bnT κ b w = 1 := by exact if_neg (fun u => hb u.1)
    rw [eT, if_neg (by decide)] at hQ
    simp (disch := omega) only [do_X13_bone, rX13_bone_0, rX13_bone_1, rX13_bone_2, rX13_bone_5, rX13_bone_6, rX13_bone_7, rX13_bone_10, rX13_bone_13, rX13_bone_14, rX13_bone_15, rX13_bone_16, rX13_bone_19, rX13_bone_22, rX13_bone_23, rX13_bone_24, rX13_bone_27, rX13_bone_28, rX13_bone_29_0, rX13_bone_29_1, rX13_bone_29_2, rX13_bone_29_3, rX13_bone_29_d, rX13_bone_60, rX13_bone_61, rX13_bone_62, rX13_bone_65, rX13_bone_66, rX13_bone_67, rX13_bone_68, rX13_bone_69, rX13_bone_72, rX13_bone_73, rX13_bone_74, rX13_bone_75, rX13_bone_78, rX13_bone_79, rX13_bone_80, rX13_bone_81, rX13_bone_82, rX13_bone_85, rX13_bone_86, rX13_bone_87, rX13_bone_88, rX13_bone_91, rX13_bone_92, rX13_bone_93, rX13_bone_96, rX13_bone_99, rX13_bone_100, rX13_bone_101, rX13_bone_102, rX13_bone_105, rX13_bone_106, rX13_bone_107, rX13_bone_110, rX13_bone_113, rX13_bone_114, rX13_bone_115, rX13_bone_116, rX13_bone_119, rX13_bone_121, rX13_bone_122, rX13_bone_123, rX13_bone_124, rX13_bone_125, rX13_bone_126, rX13_bone_129, gS_355, g0, c1, c2, cl, cin, c0, cr, if_neg hb, ne_eq, not_false_eq_true, not_true_eq_false, true_and, and_true, and_self, true_imp_iff, false_imp_iff, imp_self, Bool.not_false, Bool.not_true, reduceCtorEq, ab_isJ, ab_psh, ab_cats, Bool.false_eq_true, if_true, if_false, ab_shf, ab_shw, Int.le_refl, Classical.not_not, Int.zero_add, forall_const, ↓ab_itT, ↓ab_itF, ab_anT, ab_w32_id, ab_rdf_ne, ab_rdw_ne, ab_rdw_eq, ab_rdf_in, ab_td2, ab_tm2, ab_ifF]
    exact hQ _ (ac_end1 ac_mq0).1 (ac_end1 ac_mq0).2.1 (ac_end1 ac_mq0).2.2
theorem mq_thick (h : ac_MN σ κ) (hQ : ∀ τ, ab_Same ac_PM σ τ → ab_rd τ 355 1 = ac_thT κ b arm k → ab_rd τ 355 2 = -1 → Q (some (ab_I (if ac_thT κ b arm k = 0 then κ 15 (6 * (2 * b + arm) + k) else -1))) τ) : ab_Do X 218 [ab_R 355, ab_I b, ab_I arm, ab_I k] σ Q := by
  have h' := h.same ac_mq0
  have g0 := h.1
  have g := h'.1
  have c1 := fun b Q' => mq_isBone (X := X) (Q := Q') (b := b) h'
  have c2 := fun p q Q' => mq_isPair (X := X) (Q := Q') (p := p) (q := q) h'
  have c1p := fun b Q' => mq_isPerson (X := X) (Q := Q') (b := b) h'
  have cl := fun b arm k Q' => mq_isPlace (X := X) (Q := Q') (b := b) (arm := arm) (k := k) h'
  have cin := fun x lo hi Q' => mq_in (X := X) (σ := ab_wr σ 355 0 0) (Q := Q') (x := x) (lo := lo) (hi := hi)
  have cr := fun v Q' => sp_refused (X := X) (Q := Q') (v := v) g
  have c0 := fun b hp hq mv Q' => mq_rp0 (X := X) (σ := ab_wr σ 355 0 0) (Q := Q') (b := b) (hp := hp) (hq := hq) (mv := mv)
  by_cases hl : ac_isL κ b arm k
  · have eT : ac_thT κ b arm k = 0 := if_pos hl
    rw [eT, if_pos rfl] at hQ
    have hq' := hQ _ (ac_end1 ac_mq0).1 (ac_end1 ac_mq0).2.1 (ac_end1 ac_mq0).2.2
    have hb := hl.1
    obtain ⟨M, hm⟩ := h.mb hb
    have hm' := hm.same (τ := ab_wr σ 355 0 0) ac_mq0
    have h3 : ab_rd (ab_wr σ 355 0 0) 355 3 = M := hm'.2.1
    have zM := hm.2.2.1.1
    have hG := hm'.2.2.1
    have hM := hm'.2.2.2.1
    have n5 := hm.2.2.2.2.2.1.1.2
    have n6 := hm.2.2.2.2.2.1.2.1.2
    have c6 := fun x Q' => sp_good (X := X) (Q := Q') (v := x) g
    have ha := hl.2.1
    have hk1 := hl.2.2
    have nb := ac_n_b hm.2.2.2.2 hb ha
    unfold ac_n at nb
    simp (disch := omega) only [do_X13_thick, rX13_thick_0, rX13_thick_1, rX13_thick_2, rX13_thick_5, rX13_thick_6, rX13_thick_7, rX13_thick_8, rX13_thick_9, rX13_thick_12, rX13_thick_15, rX13_thick_16, rX13_thick_17, rX13_thick_20, rX13_thick_21, rX13_thick_22, rX13_thick_23, rX13_thick_26, rX13_thick_29, rX13_thick_32, rX13_thick_33, rX13_thick_34, rX13_thick_37, do_X12_thickAt, rX12_thickAt_0, rX12_thickAt_1, rX12_thickAt_4, rX12_thickAt_6, rX12_thickAt_7, rX12_thickAt_8, rX12_thickAt_9, rX12_thickAt_10, rX12_thickAt_11, rX12_thickAt_12, rX12_thickAt_13, rX12_thickAt_14, rX12_thickAt_15, gS_355, g0, g, cl, if_pos hl, c6, h3, mS, mP_15, mS_15, kM_15, hG, hM, ne_eq, not_false_eq_true, not_true_eq_false, true_and, and_true, and_self, true_imp_iff, false_imp_iff, imp_self, Bool.not_false, Bool.not_true, reduceCtorEq, ab_isJ, ab_psh, ab_cats, Bool.false_eq_true, if_true, if_false, ab_shf, ab_shw, Int.le_refl, Classical.not_not, Int.zero_add, forall_const, ↓ab_itT, ↓ab_itF, ab_anT, ab_w32_id]
    all_goals exact hq'
  · have eT : ac_thT κ b arm k = 1 := by exact if_neg hl
    rw [eT, if_neg (by decide)] at hQ
    simp (disch := omega) only [do_X13_thick, rX13_thick_0, rX13_thick_1, rX13_thick_2, rX13_thick_5, rX13_thick_6, rX13_thick_7, rX13_thick_8, rX13_thick_9, rX13_thick_12, rX13_thick_15, rX13_thick_16, rX13_thick_17, rX13_thick_20, rX13_thick_21, rX13_thick_22, rX13_thick_23, rX13_thick_26, rX13_thick_29, rX13_thick_32, rX13_thick_33, rX13_thick_34, rX13_thick_37, gS_355, g0, c1, c2, cl, cin, c0, cr, if_neg hl, ne_eq, not_false_eq_true, not_true_eq_false, true_and, and_true, and_self, true_imp_iff, false_imp_iff, imp_self, Bool.not_false, Bool.not_true, reduceCtorEq, ab_isJ, ab_psh, ab_cats, Bool.false_eq_true, if_true, if_false, ab_shf, ab_shw, Int.le_refl, Classical.not_not, Int.zero_add, forall_const, ↓ab_itT, ↓ab_itF, ab_anT, ab_w32_id, ab_rdf_ne, ab_rdw_ne, ab_rdw_eq, ab_rdf_in, ab_td2, ab_tm2, ab_ifF]
    exact hQ _ (ac_end1 ac_mq0).1 (ac_end1 ac_mq0).2.1 (ac_end1 ac_mq0).2.2
theorem mq_wonBy_l (h : ac_MI σ M κ) : ∀ (n : Nat) (k s : Int), 0 ≤ k → k + n = κ 8 0 → 0 ≤ s → s ≤ k → (ab_Run X 219 4 (0, 0, 0) [ab_R 355, ab_I p, ab_I s, ab_I k] [] σ Q ↔ Q (some (ab_I (ab_it (fun k s => if κ 22 k = p then s + 1 else s) n k s))) σ) := by
  obtain ⟨hg, h3, hG, hM, hK⟩ := h
  have z := hG.1
  have n8 := hK.2.1.2.2.2.1.2
  have e8 := kM_8 hM
  intro n
  induction n with
  | zero =>
    intro k s hk hn hs0 hs1
    rw [rX13_wonBy_4, ab_it]
    simp (disch := omega) only [rX13_wonBy_5, rX13_wonBy_6, rX13_wonBy_9, rX13_wonBy_12, rX13_wonBy_42, rX13_wonBy_43, gS_355, hg, h3, mS, e8, ne_eq, not_false_eq_true, not_true_eq_false, true_and, and_true, and_self, true_imp_iff, false_imp_iff, imp_self, Bool.not_false, Bool.not_true, reduceCtorEq, ab_isJ, ab_psh, ab_cats, Bool.false_eq_true, if_true, if_false, ab_shf, ab_shw, Int.le_refl, Classical.not_not, Int.zero_add, forall_const, ↓ab_itT, ↓ab_itF, ab_anT, ab_w32_id, ab_rdf_ne, ab_rdw_ne, ab_rdw_eq, ab_rdf_in, ab_td2, ab_tm2]
  | succ n ih =>
    intro k s hk hn hs0 hs1
    rw [rX13_wonBy_4, ab_it]
    by_cases w : κ 22 k = p
    · rw [if_pos w, ← ih (k + 1) (s + 1) (by omega) (by omega) (by omega) (by omega)]
      simp (disch := omega) only [rX13_wonBy_5, rX13_wonBy_6, rX13_wonBy_9, rX13_wonBy_12, rX13_wonBy_15, rX13_wonBy_16, rX13_wonBy_17, rX13_wonBy_20, rX13_wonBy_23, rX13_wonBy_24, rX13_wonBy_25, rX13_wonBy_26, rX13_wonBy_29, rX13_wonBy_30, rX13_wonBy_33, rX13_wonBy_34, rX13_wonBy_35, rX13_wonBy_36, rX13_wonBy_39, gS_355, hg, h3, mS, mP_22, mS_22, kM_22, e8, ne_eq, not_false_eq_true, not_true_eq_false, true_and, and_true, and_self, true_imp_iff, false_imp_iff, imp_self, Bool.not_false, Bool.not_true, reduceCtorEq, ab_isJ, ab_psh, ab_cats, Bool.false_eq_true, if_true, if_false, ab_shf, ab_shw, Int.le_refl, Classical.not_not, Int.zero_add, forall_const, ↓ab_itT, ↓ab_itF, ab_anT, ab_w32_id, ab_rdf_ne, ab_rdw_ne, ab_rdw_eq, ab_rdf_in, ab_td2, ab_tm2]
    · rw [if_neg w, ← ih (k + 1) s (by omega) (by omega) (by omega) (by omega)]
      simp (disch := omega) only [rX13_wonBy_5, rX13_wonBy_6, rX13_wonBy_9, rX13_wonBy_12, rX13_wonBy_15, rX13_wonBy_16, rX13_wonBy_17, rX13_wonBy_20, rX13_wonBy_23, rX13_wonBy_24, rX13_wonBy_25, rX13_wonBy_26, rX13_wonBy_29, rX13_wonBy_30, rX13_wonBy_33, rX13_wonBy_34, rX13_wonBy_35, rX13_wonBy_36, rX13_wonBy_39, gS_355, hg, h3, mS, mP_22, mS_22, kM_22, e8, ne_eq, not_false_eq_true, not_true_eq_false, true_and, and_true, and_self, true_imp_iff, false_imp_iff, imp_self, Bool.not_false, Bool.not_true, reduceCtorEq, ab_isJ, ab_psh, ab_cats, Bool.false_eq_true, if_true, if_false, ab_shf, ab_shw, Int.le_refl, Classical.not_not, Int.zero_add, Int.add_zero, forall_const, ↓ab_itT, ↓ab_itF, ab_anT, ab_w32_id, ab_rdf_ne, ab_rdw_ne, ab_rdw_eq, ab_rdf_in, ab_td2, ab_tm2]
theorem mq_wonBy (h : ac_MI σ M κ) : ab_Do X 219 [ab_R 355, ab_I p] σ Q ↔ Q (some (ab_I (ac_won κ p))) σ := by
  have n8 := h.2.2.2.2.2.1.2.2.2.1
  unfold ac_won ac_cnt
  rw [← mq_wonBy_l (X := X) (Q := Q) (p := p) h (κ 8 0).toNat 0 0 (by omega) (by omega) (by omega) (by omega)]
  simp (disch := omega) only [do_X13_wonBy, rX13_wonBy_0, rX13_wonBy_1, rX13_wonBy_2, rX13_wonBy_3, ne_eq, not_false_eq_true, not_true_eq_false, true_and, and_true, and_self, true_imp_iff, false_imp_iff, imp_self, Bool.not_false, Bool.not_true, reduceCtorEq, ab_isJ, ab_psh, ab_cats, Bool.false_eq_true, if_true, if_false, ab_shf, ab_shw, Int.le_refl, Classical.not_not, Int.zero_add, forall_const, ↓ab_itT, ↓ab_itF, ab_anT, ab_w32_id, ab_rdf_ne, ab_rdw_ne, ab_rdw_eq, ab_rdf_in, ab_td2, ab_tm2]
theorem mq_pullsOf_l (h : ac_MI σ M κ) : ∀ (n : Nat) (k s : Int), 0 ≤ k → k + n = κ 8 0 → 0 ≤ s → s ≤ 12 + k → (ab_Run X 220 8 (1, 0, 0) [ab_R 355, ab_I p, ab_I s, ab_I k] [] σ Q ↔ Q (some (ab_I (ab_it (fun k s => if κ 23 k = p then s + 1 else s) n k s))) σ) := by
  obtain ⟨hg, h3, hG, hM, hK⟩ := h
  have z := hG.1
  have n8 := hK.2.1.2.2.2.1.2
  have e8 := kM_8 hM
  intro n
  induction n with
  | zero =>
    intro k s hk hn hs0 hs1
    rw [rX13_pullsOf_8, ab_it]
    simp (disch := omega) only [rX13_pullsOf_9, rX13_pullsOf_10, rX13_pullsOf_13, rX13_pullsOf_16, rX13_pullsOf_46, rX13_pullsOf_47, gS_355, hg, h3, mS, e8, ne_eq, not_false_eq_true, not_true_eq_false, true_and, and_true, and_self, true_imp_iff, false_imp_iff, imp_self, Bool.not_false, Bool.not_true, reduceCtorEq, ab_isJ, ab_psh, ab_cats, Bool.false_eq_true, if_true, if_false, ab_shf, ab_shw, Int.le_refl, Classical.not_not, Int.zero_add, forall_const, ↓ab_itT, ↓ab_itF, ab_anT, ab_w32_id, ab_rdf_ne, ab_rdw_ne, ab_rdw_eq, ab_rdf_in, ab_td2, ab_tm2]
  | succ n ih =>
    intro k s hk hn hs0 hs1
    rw [rX13_pullsOf_8, ab_it]
    by_cases w : κ 23 k = p
    · rw [if_pos w, ← ih (k + 1) (s + 1) (by omega) (by omega) (by omega) (by omega)]
      simp (disch := omega) only [rX13_pullsOf_9, rX13_pullsOf_10, rX13_pullsOf_13, rX13_pullsOf_16, rX13_pullsOf_19, rX13_pullsOf_20, rX13_pullsOf_21, rX13_pullsOf_24, rX13_pullsOf_27, rX13_pullsOf_28, rX13_pullsOf_29, rX13_pullsOf_30, rX13_pullsOf_33, rX13_pullsOf_34, rX13_pullsOf_37, rX13_pullsOf_38, rX13_pullsOf_39, rX13_pullsOf_40, rX13_pullsOf_43, gS_355, hg, h3, mS, mP_23, mS_23, kM_23, e8, ne_eq, not_false_eq_true, not_true_eq_false, true_and, and_true, and_self, true_imp_iff, false_imp_iff, imp_self, Bool.not_false, Bool.not_true, reduceCtorEq, ab_isJ, ab_psh, ab_cats, Bool.false_eq_true, if_true, if_false, ab_shf, ab_shw, Int.le_refl, Classical.not_not, Int.zero_add, forall_const, ↓ab_itT, ↓ab_itF, ab_anT, ab_w32_id, ab_rdf_ne, ab_rdw_ne, ab_rdw_eq, ab_rdf_in, ab_td2, ab_tm2]
    · rw [if_neg w, ← ih (k + 1) s (by omega) (by omega) (by omega) (by omega)]
      simp (disch := omega) only [rX13_pullsOf_9, rX13_pullsOf_10, rX13_pullsOf_13, rX13_pullsOf_16, rX13_pullsOf_19, rX13_pullsOf_20, rX13_pullsOf_21, rX13_pullsOf_24, rX13_pullsOf_27, rX13_pullsOf_28, rX13_pullsOf_29, rX13_pullsOf_30, rX13_pullsOf_33, rX13_pullsOf_34, rX13_pullsOf_37, rX13_pullsOf_38, rX13_pullsOf_39, rX13_pullsOf_40, rX13_pullsOf_43, gS_355, hg, h3, mS, mP_23, mS_23, kM_23, e8, ne_eq, not_false_eq_true, not_true_eq_false, true_and, and_true, and_self, true_imp_iff, false_imp_iff, imp_self, Bool.not_false, Bool.not_true, reduceCtorEq, ab_isJ, ab_psh, ab_cats, Bool.false_eq_true, if_true, if_false, ab_shf, ab_shw, Int.le_refl, Classical.not_not, Int.zero_add, Int.add_zero, forall_const, ↓ab_itT, ↓ab_itF, ab_anT, ab_w32_id, ab_rdf_ne, ab_rdw_ne, ab_rdw_eq, ab_rdf_in, ab_td2, ab_tm2]
theorem mq_pullsOf (h : ac_MI σ M κ) : ab_Do X 220 [ab_R 355, ab_I p] σ Q ↔ Q (some (ab_I (ac_won κ p + ac_lost κ p))) σ := by
  have c := fun Q' => mq_wonBy (X := X) (Q := Q') (p := p) h
  have wb := ac_won_b (p := p) h.2.2.2.2.2.1
  have n8 := h.2.2.2.2.2.1.2.2.2.1
  have e : ac_won κ p + ac_lost κ p = ab_it (fun k s => if κ 23 k = p then s + 1 else s) (κ 8 0).toNat 0 (ac_won κ p) := by
    rw [ac_cnt_it]; rfl
  have hg := h.1
  rw [e, ← mq_pullsOf_l (X := X) (Q := Q) (p := p) h (κ 8 0).toNat 0 (ac_won κ p) (by omega) (by omega) (by omega) (by omega)]
  simp (disch := omega) only [do_X13_pullsOf, rX13_pullsOf_0, rX13_pullsOf_1, rX13_pullsOf_2, rX13_pullsOf_5, rX13_pullsOf_6, rX13_pullsOf_7, gS_355, hg, c, ne_eq, not_false_eq_true, not_true_eq_false, true_and, and_true, and_self, true_imp_iff, false_imp_iff, imp_self, Bool.not_false, Bool.not_true, reduceCtorEq, ab_isJ, ab_psh, ab_cats, Bool.false_eq_true, if_true, if_false, ab_shf, ab_shw, Int.le_refl, Classical.not_not, Int.zero_add, forall_const, ↓ab_itT, ↓ab_itF, ab_anT, ab_w32_id, ab_rdf_ne, ab_rdw_ne, ab_rdw_eq, ab_rdf_in, ab_td2, ab_tm2]
theorem mq_person (h : ac_MN σ κ) (hv : ac_MV σ κ v) (hQ : ∀ τ, ab_Same ac_PM σ τ → ab_rd τ 355 1 = ac_peT κ p w → ab_rd τ 355 2 = -1 → Q (some (ab_I (if ac_peT κ p w = 0 then ac_peA κ v p w else -1))) τ) : ab_Do X 221 [ab_R 355, ab_I p, ab_I w] σ Q := by
  have h' := h.same ac_mq0
  have g0 := h.1
  have g := h'.1
  have c1 := fun b Q' => mq_isBone (X := X) (Q := Q') (b := b) h'
  have c2 := fun p q Q' => mq_isPair (X := X) (Q := Q') (p := p) (q := q) h'
  have c1p := fun b Q' => mq_isPerson (X := X) (Q := Q') (b := b) h'
  have cl := fun b arm k Q' => mq_isPlace (X := X) (Q := Q') (b := b) (arm := arm) (k := k) h'
  have cin := fun x lo hi Q' => mq_in (X := X) (σ := ab_wr σ 355 0 0) (Q := Q') (x := x) (lo := lo) (hi := hi)
  have cr := fun v Q' => sp_refused (X := X) (Q := Q') (v := v) g
  have c0 := fun b hp hq mv Q' => mq_rp0 (X := X) (σ := ab_wr σ 355 0 0) (Q := Q') (b := b) (hp := hp) (hq := hq) (mv := mv)
  by_cases hp : ac_isP κ p
  · by_cases hw : 0 ≤ w ∧ w ≤ 6
    · have eT : ac_peT κ p w = 0 := if_pos ⟨hp, hw⟩
      rw [eT, if_pos rfl] at hQ
      have hq' := hQ _ (ac_end1 ac_mq0).1 (ac_end1 ac_mq0).2.1 (ac_end1 ac_mq0).2.2
      obtain ⟨M, hm⟩ := h.mp hp
      have hm' := hm.same (τ := ab_wr σ 355 0 0) ac_mq0
      have h3 : ab_rd (ab_wr σ 355 0 0) 355 3 = M := hm'.2.1
      have zM := hm.2.2.1.1
      have hG := hm'.2.2.1
      have hM := hm'.2.2.2.1
      have n5 := hm.2.2.2.2.2.1.1.2
      have n6 := hm.2.2.2.2.2.1.2.1.2
      have c6 := fun x Q' => sp_good (X := X) (Q := Q') (v := x) g
      have hv0 := hv.1 (11 + p) (by omega) (by omega)
      have c7 := fun p Q' => mq_wonBy (X := X) (Q := Q') (p := p) hm'
      have c8 := fun p Q' => mq_pullsOf (X := X) (Q := Q') (p := p) hm'
      unfold ac_peA at hq'
      obtain rfl | rfl | rfl | rfl | rfl | rfl | rfl : w = 0 ∨ w = 1 ∨ w = 2 ∨ w = 3 ∨ w = 4 ∨ w = 5 ∨ w = 6 := by omega
      · simp (disch := omega) only [do_X13_person, rX13_person_0, rX13_person_1, rX13_person_2, rX13_person_5, rX13_person_6, rX13_person_7, rX13_person_10, rX13_person_13, rX13_person_14, rX13_person_15, rX13_person_17, rX13_person_20, rX13_person_23, rX13_person_24, rX13_person_25, rX13_person_28, rX13_person_29, rX13_person_30_0, rX13_person_30_1, rX13_person_30_2, rX13_person_30_3, rX13_person_30_4, rX13_person_30_5, rX13_person_30_d, rX13_person_68, rX13_person_69, rX13_person_70, rX13_person_73, rX13_person_76, rX13_person_77, rX13_person_78, rX13_person_81, rX13_person_82, rX13_person_83, rX13_person_84, rX13_person_87, rX13_person_90, rX13_person_91, rX13_person_92, rX13_person_95, rX13_person_96, rX13_person_97, rX13_person_98, rX13_person_101, rX13_person_104, rX13_person_105, rX13_person_106, rX13_person_109, rX13_person_110, rX13_person_111, rX13_person_112, rX13_person_115, rX13_person_118, rX13_person_119, rX13_person_120, rX13_person_123, rX13_person_124, rX13_person_125, rX13_person_126, rX13_person_127, rX13_person_130, rX13_person_133, rX13_person_134, rX13_person_135, rX13_person_136, rX13_person_137, rX13_person_140, rX13_person_143, rX13_person_144, rX13_person_145, rX13_person_146, rX13_person_149, rX13_person_151, rX13_person_152, rX13_person_153, rX13_person_154, rX13_person_157, gS_355, g0, g, c1p, cin, if_pos hp, ab_ifT, c6, h3, mS, mP_16, mS_16, kM_16, hG, hM, ne_eq, not_false_eq_true, not_true_eq_false, true_and, and_true, and_self, true_imp_iff, false_imp_iff, imp_self, Bool.not_false, Bool.not_true, reduceCtorEq, ab_isJ, ab_psh, ab_cats, Bool.false_eq_true, if_true, if_false, ab_shf, ab_shw, Int.le_refl, Classical.not_not, Int.zero_add, forall_const, ↓ab_itT, ↓ab_itF, ab_anT]
        all_goals exact hq'
      · simp (disch := omega) only [do_X13_person, rX13_person_0, rX13_person_1, rX13_person_2, rX13_person_5, rX13_person_6, rX13_person_7, rX13_person_10, rX13_person_13, rX13_person_14, rX13_person_15, rX13_person_17, rX13_person_20, rX13_person_23, rX13_person_24, rX13_person_25, rX13_person_28, rX13_person_29, rX13_person_30_0, rX13_person_30_1, rX13_person_30_2, rX13_person_30_3, rX13_person_30_4, rX13_person_30_5, rX13_person_30_d, rX13_person_68, rX13_person_69, rX13_person_70, rX13_person_73, rX13_person_76, rX13_person_77, rX13_person_78, rX13_person_81, rX13_person_82, rX13_person_83, rX13_person_84, rX13_person_87, rX13_person_90, rX13_person_91, rX13_person_92, rX13_person_95, rX13_person_96, rX13_person_97, rX13_person_98, rX13_person_101, rX13_person_104, rX13_person_105, rX13_person_106, rX13_person_109, rX13_person_110, rX13_person_111, rX13_person_112, rX13_person_115, rX13_person_118, rX13_person_119, rX13_person_120, rX13_person_123, rX13_person_124, rX13_person_125, rX13_person_126, rX13_person_127, rX13_person_130, rX13_person_133, rX13_person_134, rX13_person_135, rX13_person_136, rX13_person_137, rX13_person_140, rX13_person_143, rX13_person_144, rX13_person_145, rX13_person_146, rX13_person_149, rX13_person_151, rX13_person_152, rX13_person_153, rX13_person_154, rX13_person_157, gS_355, g0, g, c1p, cin, if_pos hp, ab_ifT, c6, h3, mS, mP_17, mS_17, kM_17, hG, hM, ne_eq, not_false_eq_true, not_true_eq_false, true_and, and_true, and_self, true_imp_iff, false_imp_iff, imp_self, Bool.not_false, Bool.not_true, reduceCtorEq, ab_isJ, ab_psh, ab_cats, Bool.false_eq_true, if_true, if_false, ab_shf, ab_shw, Int.le_refl, Classical.not_not, Int.zero_add, forall_const, ↓ab_itT, ↓ab_itF, ab_anT]
        all_goals exact hq'
      · simp (disch := omega) only [do_X13_person, rX13_person_0, rX13_person_1, rX13_person_2, rX13_person_5, rX13_person_6, rX13_person_7, rX13_person_10, rX13_person_13, rX13_person_14, rX13_person_15, rX13_person_17, rX13_person_20, rX13_person_23, rX13_person_24, rX13_person_25, rX13_person_28, rX13_person_29, rX13_person_30_0, rX13_person_30_1, rX13_person_30_2, rX13_person_30_3, rX13_person_30_4, rX13_person_30_5, rX13_person_30_d, rX13_person_68, rX13_person_69, rX13_person_70, rX13_person_73, rX13_person_76, rX13_person_77, rX13_person_78, rX13_person_81, rX13_person_82, rX13_person_83, rX13_person_84, rX13_person_87, rX13_person_90, rX13_person_91, rX13_person_92, rX13_person_95, rX13_person_96, rX13_person_97, rX13_person_98, rX13_person_101, rX13_person_104, rX13_person_105, rX13_person_106, rX13_person_109, rX13_person_110, rX13_person_111, rX13_person_112, rX13_person_115, rX13_person_118, rX13_person_119, rX13_person_120, rX13_person_123, rX13_person_124, rX13_person_125, rX13_person_126, rX13_person_127, rX13_person_130, rX13_person_133, rX13_person_134, rX13_person_135, rX13_person_136, rX13_person_137, rX13_person_140, rX13_person_143, rX13_person_144, rX13_person_145, rX13_person_146, rX13_person_149, rX13_person_151, rX13_person_152, rX13_person_153, rX13_person_154, rX13_person_157, gS_355, g0, g, c1p, cin, if_pos hp, ab_ifT, c6, h3, mS, mP_18, mS_18, kM_18, hG, hM, ne_eq, not_false_eq_true, not_true_eq_false, true_and, and_true, and_self, true_imp_iff, false_imp_iff, imp_self, Bool.not_false, Bool.not_true, reduceCtorEq, ab_isJ, ab_psh, ab_cats, Bool.false_eq_true, if_true, if_false, ab_shf, ab_shw, Int.le_refl, Classical.not_not, Int.zero_add, forall_const, ↓ab_itT, ↓ab_itF, ab_anT]
        all_goals exact hq'
      · simp (disch := omega) only [do_X13_person, rX13_person_0, rX13_person_1, rX13_person_2, rX13_person_5, rX13_person_6, rX13_person_7, rX13_person_10, rX13_person_13, rX13_person_14, rX13_person_15, rX13_person_17, rX13_person_20, rX13_person_23, rX13_person_24, rX13_person_25, rX13_person_28, rX13_person_29, rX13_person_30_0, rX13_person_30_1, rX13_person_30_2, rX13_person_30_3, rX13_person_30_4, rX13_person_30_5, rX13_person_30_d, rX13_person_68, rX13_person_69, rX13_person_70, rX13_person_73, rX13_person_76, rX13_person_77, rX13_person_78, rX13_person_81, rX13_person_82, rX13_person_83, rX13_person_84, rX13_person_87, rX13_person_90, rX13_person_91, rX13_person_92, rX13_person_95, rX13_person_96, rX13_person_97, rX13_person_98, rX13_person_101, rX13_person_104, rX13_person_105, rX13_person_106, rX13_person_109, rX13_person_110, rX13_person_111, rX13_person_112, rX13_person_115, rX13_person_118, rX13_person_119, rX13_person_120, rX13_person_123, rX13_person_124, rX13_person_125, rX13_person_126, rX13_person_127, rX13_person_130, rX13_person_133, rX13_person_134, rX13_person_135, rX13_person_136, rX13_person_137, rX13_person_140, rX13_person_143, rX13_person_144, rX13_person_145, rX13_person_146, rX13_person_149, rX13_person_151, rX13_person_152, rX13_person_153, rX13_person_154, rX13_person_157, gS_355, g0, g, c1p, cin, if_pos hp, ab_ifT, c6, h3, mS, mP_19, mS_19, kM_19, hG, hM, ne_eq, not_false_eq_true, not_true_eq_false, true_and, and_true, and_self, true_imp_iff, false_imp_iff, imp_self, Bool.not_false, Bool.not_true, reduceCtorEq, ab_isJ, ab_psh, ab_cats, Bool.false_eq_true, if_true, if_false, ab_shf, ab_shw, Int.le_refl, Classical.not_not, Int.zero_add, forall_const, ↓ab_itT, ↓ab_itF, ab_anT]
        all_goals exact hq'
      · simp (disch := omega) only [do_X13_person, rX13_person_0, rX13_person_1, rX13_person_2, rX13_person_5, rX13_person_6, rX13_person_7, rX13_person_10, rX13_person_13, rX13_person_14, rX13_person_15, rX13_person_17, rX13_person_20, rX13_person_23, rX13_person_24, rX13_person_25, rX13_person_28, rX13_person_29, rX13_person_30_0, rX13_person_30_1, rX13_person_30_2, rX13_person_30_3, rX13_person_30_4, rX13_person_30_5, rX13_person_30_d, rX13_person_68, rX13_person_69, rX13_person_70, rX13_person_73, rX13_person_76, rX13_person_77, rX13_person_78, rX13_person_81, rX13_person_82, rX13_person_83, rX13_person_84, rX13_person_87, rX13_person_90, rX13_person_91, rX13_person_92, rX13_person_95, rX13_person_96, rX13_person_97, rX13_person_98, rX13_person_101, rX13_person_104, rX13_person_105, rX13_person_106, rX13_person_109, rX13_person_110, rX13_person_111, rX13_person_112, rX13_person_115, rX13_person_118, rX13_person_119, rX13_person_120, rX13_person_123, rX13_person_124, rX13_person_125, rX13_person_126, rX13_person_127, rX13_person_130, rX13_person_133, rX13_person_134, rX13_person_135, rX13_person_136, rX13_person_137, rX13_person_140, rX13_person_143, rX13_person_144, rX13_person_145, rX13_person_146, rX13_person_149, rX13_person_151, rX13_person_152, rX13_person_153, rX13_person_154, rX13_person_157, gS_355, g0, g, c1p, cin, if_pos hp, ab_ifT, c6, c8, ne_eq, not_false_eq_true, not_true_eq_false, true_and, and_true, and_self, true_imp_iff, false_imp_iff, imp_self, Bool.not_false, Bool.not_true, reduceCtorEq, ab_isJ, ab_psh, ab_cats, Bool.false_eq_true, if_true, if_false, ab_shf, ab_shw, Int.le_refl, Classical.not_not, Int.zero_add, forall_const, ↓ab_itT, ↓ab_itF, ab_anT]
        all_goals exact hq'
      · simp (disch := omega) only [do_X13_person, rX13_person_0, rX13_person_1, rX13_person_2, rX13_person_5, rX13_person_6, rX13_person_7, rX13_person_10, rX13_person_13, rX13_person_14, rX13_person_15, rX13_person_17, rX13_person_20, rX13_person_23, rX13_person_24, rX13_person_25, rX13_person_28, rX13_person_29, rX13_person_30_0, rX13_person_30_1, rX13_person_30_2, rX13_person_30_3, rX13_person_30_4, rX13_person_30_5, rX13_person_30_d, rX13_person_68, rX13_person_69, rX13_person_70, rX13_person_73, rX13_person_76, rX13_person_77, rX13_person_78, rX13_person_81, rX13_person_82, rX13_person_83, rX13_person_84, rX13_person_87, rX13_person_90, rX13_person_91, rX13_person_92, rX13_person_95, rX13_person_96, rX13_person_97, rX13_person_98, rX13_person_101, rX13_person_104, rX13_person_105, rX13_person_106, rX13_person_109, rX13_person_110, rX13_person_111, rX13_person_112, rX13_person_115, rX13_person_118, rX13_person_119, rX13_person_120, rX13_person_123, rX13_person_124, rX13_person_125, rX13_person_126, rX13_person_127, rX13_person_130, rX13_person_133, rX13_person_134, rX13_person_135, rX13_person_136, rX13_person_137, rX13_person_140, rX13_person_143, rX13_person_144, rX13_person_145, rX13_person_146, rX13_person_149, rX13_person_151, rX13_person_152, rX13_person_153, rX13_person_154, rX13_person_157, gS_355, g0, g, c1p, cin, if_pos hp, ab_ifT, c6, c7, ne_eq, not_false_eq_true, not_true_eq_false, true_and, and_true, and_self, true_imp_iff, false_imp_iff, imp_self, Bool.not_false, Bool.not_true, reduceCtorEq, ab_isJ, ab_psh, ab_cats, Bool.false_eq_true, if_true, if_false, ab_shf, ab_shw, Int.le_refl, Classical.not_not, Int.zero_add, forall_const, ↓ab_itT, ↓ab_itF, ab_anT]
        all_goals exact hq'
      · simp (disch := omega) only [do_X13_person, rX13_person_0, rX13_person_1, rX13_person_2, rX13_person_5, rX13_person_6, rX13_person_7, rX13_person_10, rX13_person_13, rX13_person_14, rX13_person_15, rX13_person_17, rX13_person_20, rX13_person_23, rX13_person_24, rX13_person_25, rX13_person_28, rX13_person_29, rX13_person_30_0, rX13_person_30_1, rX13_person_30_2, rX13_person_30_3, rX13_person_30_4, rX13_person_30_5, rX13_person_30_d, rX13_person_68, rX13_person_69, rX13_person_70, rX13_person_73, rX13_person_76, rX13_person_77, rX13_person_78, rX13_person_81, rX13_person_82, rX13_person_83, rX13_person_84, rX13_person_87, rX13_person_90, rX13_person_91, rX13_person_92, rX13_person_95, rX13_person_96, rX13_person_97, rX13_person_98, rX13_person_101, rX13_person_104, rX13_person_105, rX13_person_106, rX13_person_109, rX13_person_110, rX13_person_111, rX13_person_112, rX13_person_115, rX13_person_118, rX13_person_119, rX13_person_120, rX13_person_123, rX13_person_124, rX13_person_125, rX13_person_126, rX13_person_127, rX13_person_130, rX13_person_133, rX13_person_134, rX13_person_135, rX13_person_136, rX13_person_137, rX13_person_140, rX13_person_143, rX13_person_144, rX13_person_145, rX13_person_146, rX13_person_149, rX13_person_151, rX13_person_152, rX13_person_153, rX13_person_154, rX13_person_157, gS_355, gP_355_16, gS_357, g0, g, c1p, cin, if_pos hp, ab_ifT, c6, hv0, ne_eq, not_false_eq_true, not_true_eq_false, true_and, and_true, and_self, true_imp_iff, false_imp_iff, imp_self, Bool.not_false, Bool.not_true, reduceCtorEq, ab_isJ, ab_psh, ab_cats, Bool.false_eq_true, if_true, if_false, ab_shf, ab_shw, Int.le_refl, Classical.not_not, Int.zero_add, forall_const, ↓ab_itT, ↓ab_itF, ab_anT, ab_w32_id, ab_rdf_ne, ab_rdw_ne, ab_rdw_eq, ab_rdf_in, ab_td2, ab_tm2]
        all_goals exact hq'
    · have eT : ac_peT κ p w = 1 := by exact if_neg (fun u => hw u.2)
      rw [eT, if_neg (by decide)] at hQ
      simp (disch := omega) only [do_X13_person, rX13_person_0, rX13_person_1, rX13_person_2, rX13_person_5, rX13_person_6, rX13_person_7, rX13_person_10, rX13_person_13, rX13_person_14, rX13_person_15, rX13_person_17, rX13_person_20, rX13_person_23, rX13_person_24, rX13_person_25, rX13_person_28, rX13_person_29, rX13_person_30_0, rX13_person_30_1, rX13_person_30_2, rX13_person_30_3, rX13_person_30_4, rX13_person_30_5, rX13_person_30_d, rX13_person_68, rX13_person_69, rX13_person_70, rX13_person_73, rX13_person_76, rX13_person_77, rX13_person_78, rX13_person_81, rX13_person_82, rX13_person_83, rX13_person_84, rX13_person_87, rX13_person_90, rX13_person_91, rX13_person_92, rX13_person_95, rX13_person_96, rX13_person_97, rX13_person_98, rX13_person_101, rX13_person_104, rX13_person_105, rX13_person_106, rX13_person_109, rX13_person_110, rX13_person_111, rX13_person_112, rX13_person_115, rX13_person_118, rX13_person_119, rX13_person_120, rX13_person_123, rX13_person_124, rX13_person_125, rX13_person_126, rX13_person_127, rX13_person_130, rX13_person_133, rX13_person_134, rX13_person_135, rX13_person_136, rX13_person_137, rX13_person_140, rX13_person_143, rX13_person_144, rX13_person_145, rX13_person_146, rX13_person_149, rX13_person_151, rX13_person_152, rX13_person_153, rX13_person_154, rX13_person_157, gS_355, g0, c1, c2, cl, cin, c0, cr, c1p, if_pos hp, if_neg hw, ne_eq, not_false_eq_true, not_true_eq_false, true_and, and_true, and_self, true_imp_iff, false_imp_iff, imp_self, Bool.not_false, Bool.not_true, reduceCtorEq, ab_isJ, ab_psh, ab_cats, Bool.false_eq_true, if_true, if_false, ab_shf, ab_shw, Int.le_refl, Classical.not_not, Int.zero_add, forall_const, ↓ab_itT, ↓ab_itF, ab_anT, ab_w32_id, ab_rdf_ne, ab_rdw_ne, ab_rdw_eq, ab_rdf_in, ab_td2, ab_tm2, ab_ifF]
      exact hQ _ (ac_end1 ac_mq0).1 (ac_end1 ac_mq0).2.1 (ac_end1 ac_mq0).2.2
  · have eT : ac_peT κ p w = 1 := by exact if_neg (fun u => hp u.1)
    rw [eT, if_neg (by decide)] at hQ
    simp (disch := omega) only [do_X13_person, rX13_person_0, rX13_person_1, rX13_person_2, rX13_person_5, rX13_person_6, rX13_person_7, rX13_person_10, rX13_person_13, rX13_person_14, rX13_person_15, rX13_person_17, rX13_person_20, rX13_person_23, rX13_person_24, rX13_person_25, rX13_person_28, rX13_person_29, rX13_person_30_0, rX13_person_30_1, rX13_person_30_2, rX13_person_30_3, rX13_person_30_4, rX13_person_30_5, rX13_person_30_d, rX13_person_68, rX13_person_69, rX13_person_70, rX13_person_73, rX13_person_76, rX13_person_77, rX13_person_78, rX13_person_81, rX13_person_82, rX13_person_83, rX13_person_84, rX13_person_87, rX13_person_90, rX13_person_91, rX13_person_92, rX13_person_95, rX13_person_96, rX13_person_97, rX13_person_98, rX13_person_101, rX13_person_104, rX13_person_105, rX13_person_106, rX13_person_109, rX13_person_110, rX13_person_111, rX13_person_112, rX13_person_115, rX13_person_118, rX13_person_119, rX13_person_120, rX13_person_123, rX13_person_124, rX13_person_125, rX13_person_126, rX13_person_127, rX13_person_130, rX13_person_133, rX13_person_134, rX13_person_135, rX13_person_136, rX13_person_137, rX13_person_140, rX13_person_143, rX13_person_144, rX13_person_145, rX13_person_146, rX13_person_149, rX13_person_151, rX13_person_152, rX13_person_153, rX13_person_154, rX13_person_157, gS_355, g0, c1, c2, cl, cin, c0, cr, c1p, if_neg hp, ne_eq, not_false_eq_true, not_true_eq_false, true_and, and_true, and_self, true_imp_iff, false_imp_iff, imp_self, Bool.not_false, Bool.not_true, reduceCtorEq, ab_isJ, ab_psh, ab_cats, Bool.false_eq_true, if_true, if_false, ab_shf, ab_shw, Int.le_refl, Classical.not_not, Int.zero_add, forall_const, ↓ab_itT, ↓ab_itF, ab_anT, ab_w32_id, ab_rdf_ne, ab_rdw_ne, ab_rdw_eq, ab_rdf_in, ab_td2, ab_tm2, ab_ifF]
    exact hQ _ (ac_end1 ac_mq0).1 (ac_end1 ac_mq0).2.1 (ac_end1 ac_mq0).2.2
theorem mq_worthOf (h : ac_MI σ M κ) (hp : ac_isP κ p) : ab_Do X 264 [ab_R 355, ab_I p] σ Q ↔ Q (some (ab_I (κ 19 p + κ 21 p))) σ := by
  obtain ⟨hg, h3, hG, hM, hK⟩ := h
  have z := hG.1
  have n6 := hK.2.1.2.1.2
  have n7 := hK.2.1.2.2.1
  have bp := hK.2.2.1.2.1 p hp.1 hp.2
  have b1 := bp.2.2.2.1
  have b2 := bp.2.2.2.2.2.1
  simp (disch := omega) only [do_X13_worthOf, rX13_worthOf_0, rX13_worthOf_1, rX13_worthOf_4, rX13_worthOf_7, rX13_worthOf_8, rX13_worthOf_9, rX13_worthOf_10, rX13_worthOf_13, rX13_worthOf_16, rX13_worthOf_17, rX13_worthOf_18, rX13_worthOf_19, gS_355, hg, h3, mS, mP_19, mS_19, kM_19, mP_21, mS_21, kM_21, ne_eq, not_false_eq_true, not_true_eq_false, true_and, and_true, and_self, true_imp_iff, false_imp_iff, imp_self, Bool.not_false, Bool.not_true, reduceCtorEq, ab_isJ, ab_psh, ab_cats, Bool.false_eq_true, if_true, if_false, ab_shf, ab_shw, Int.le_refl, Classical.not_not, Int.zero_add, forall_const, ↓ab_itT, ↓ab_itF, ab_anT, ab_w32_id, ab_rdf_ne, ab_rdw_ne, ab_rdw_eq, ab_rdf_in, ab_td2, ab_tm2]
theorem mq_worth (h : ac_MN σ κ) (hQ : ∀ τ, ab_Same ac_PM σ τ → ab_rd τ 355 1 = ac_p1T κ p → ab_rd τ 355 2 = -1 → Q (some (ab_I (if ac_p1T κ p = 0 then κ 19 p + κ 21 p else -1))) τ) : ab_Do X 266 [ab_R 355, ab_I p] σ Q := by
  have h' := h.same ac_mq0
  have g0 := h.1
  have g := h'.1
  have c1 := fun b Q' => mq_isBone (X := X) (Q := Q') (b := b) h'
  have c2 := fun p q Q' => mq_isPair (X := X) (Q := Q') (p := p) (q := q) h'
  have c1p := fun b Q' => mq_isPerson (X := X) (Q := Q') (b := b) h'
  have cl := fun b arm k Q' => mq_isPlace (X := X) (Q := Q') (b := b) (arm := arm) (k := k) h'
  have cin := fun x lo hi Q' => mq_in (X := X) (σ := ab_wr σ 355 0 0) (Q := Q') (x := x) (lo := lo) (hi := hi)
  have cr := fun v Q' => sp_refused (X := X) (Q := Q') (v := v) g
  have c0 := fun b hp hq mv Q' => mq_rp0 (X := X) (σ := ab_wr σ 355 0 0) (Q := Q') (b := b) (hp := hp) (hq := hq) (mv := mv)
  by_cases hp : ac_isP κ p
  · have eT : ac_p1T κ p = 0 := if_pos hp
    rw [eT, if_pos rfl] at hQ
    have hq' := hQ _ (ac_end1 ac_mq0).1 (ac_end1 ac_mq0).2.1 (ac_end1 ac_mq0).2.2
    obtain ⟨M, hm⟩ := h.mp hp
    have hm' := hm.same (τ := ab_wr σ 355 0 0) ac_mq0
    have h3 : ab_rd (ab_wr σ 355 0 0) 355 3 = M := hm'.2.1
    have zM := hm.2.2.1.1
    have hG := hm'.2.2.1
    have hM := hm'.2.2.2.1
    have n5 := hm.2.2.2.2.2.1.1.2
    have n6 := hm.2.2.2.2.2.1.2.1.2
    have c6 := fun x Q' => sp_good (X := X) (Q := Q') (v := x) g
    have c7 := fun Q' => mq_worthOf (X := X) (Q := Q') (p := p) hm' hp
    simp (disch := omega) only [do_X13_worth, rX13_worth_0, rX13_worth_1, rX13_worth_2, rX13_worth_5, rX13_worth_6, rX13_worth_7, rX13_worth_10, rX13_worth_13, rX13_worth_14, rX13_worth_15, rX13_worth_16, rX13_worth_19, rX13_worth_22, rX13_worth_25, rX13_worth_26, rX13_worth_27, rX13_worth_30, gS_355, g0, g, c1p, if_pos hp, c6, c7, ne_eq, not_false_eq_true, not_true_eq_false, true_and, and_true, and_self, true_imp_iff, false_imp_iff, imp_self, Bool.not_false, Bool.not_true, reduceCtorEq, ab_isJ, ab_psh, ab_cats, Bool.false_eq_true, if_true, if_false, ab_shf, ab_shw, Int.le_refl, Classical.not_not, Int.zero_add, forall_const, ↓ab_itT, ↓ab_itF, ab_anT, ab_w32_id, ab_rdf_ne, ab_rdw_ne, ab_rdw_eq, ab_rdf_in, ab_td2, ab_tm2]
    all_goals exact hq'
  · have eT : ac_p1T κ p = 1 := by exact if_neg hp
    rw [eT, if_neg (by decide)] at hQ
    simp (disch := omega) only [do_X13_worth, rX13_worth_0, rX13_worth_1, rX13_worth_2, rX13_worth_5, rX13_worth_6, rX13_worth_7, rX13_worth_10, rX13_worth_13, rX13_worth_14, rX13_worth_15, rX13_worth_16, rX13_worth_19, rX13_worth_22, rX13_worth_25, rX13_worth_26, rX13_worth_27, rX13_worth_30, gS_355, g0, c1, c2, cl, cin, c0, cr, c1p, if_neg hp, ne_eq, not_false_eq_true, not_true_eq_false, true_and, and_true, and_self, true_imp_iff, false_imp_iff, imp_self, Bool.not_false, Bool.not_true, reduceCtorEq, ab_isJ, ab_psh, ab_cats, Bool.false_eq_true, if_true, if_false, ab_shf, ab_shw, Int.le_refl, Classical.not_not, Int.zero_add, forall_const, ↓ab_itT, ↓ab_itF, ab_anT, ab_w32_id, ab_rdf_ne, ab_rdw_ne, ab_rdw_eq, ab_rdf_in, ab_td2, ab_tm2, ab_ifF]
    exact hQ _ (ac_end1 ac_mq0).1 (ac_end1 ac_mq0).2.1 (ac_end1 ac_mq0).2.2
theorem mq_let (h : ac_MN σ κ) (hQ : ∀ τ, ab_Same ac_PM σ τ → ab_rd τ 355 1 = ac_u1T κ p q → ab_rd τ 355 2 = -1 → Q (some (ab_I (if ac_u1T κ p q = 0 then ac_ltA κ p q else -1))) τ) : ab_Do X 265 [ab_R 355, ab_I p, ab_I q] σ Q := by
  have h' := h.same ac_mq0
  have g0 := h.1
  have g := h'.1
  have c1 := fun b Q' => mq_isBone (X := X) (Q := Q') (b := b) h'
  have c2 := fun p q Q' => mq_isPair (X := X) (Q := Q') (p := p) (q := q) h'
  have c1p := fun b Q' => mq_isPerson (X := X) (Q := Q') (b := b) h'
  have cl := fun b arm k Q' => mq_isPlace (X := X) (Q := Q') (b := b) (arm := arm) (k := k) h'
  have cin := fun x lo hi Q' => mq_in (X := X) (σ := ab_wr σ 355 0 0) (Q := Q') (x := x) (lo := lo) (hi := hi)
  have cr := fun v Q' => sp_refused (X := X) (Q := Q') (v := v) g
  have c0 := fun b hp hq mv Q' => mq_rp0 (X := X) (σ := ab_wr σ 355 0 0) (Q := Q') (b := b) (hp := hp) (hq := hq) (mv := mv)
  by_cases hu : ac_isU κ p q
  · have eT : ac_u1T κ p q = 0 := if_pos hu
    rw [eT, if_pos rfl] at hQ
    have hq' := hQ _ (ac_end1 ac_mq0).1 (ac_end1 ac_mq0).2.1 (ac_end1 ac_mq0).2.2
    obtain ⟨M, hm⟩ := h.mp hu.1
    have hm' := hm.same (τ := ab_wr σ 355 0 0) ac_mq0
    have h3 : ab_rd (ab_wr σ 355 0 0) 355 3 = M := hm'.2.1
    have zM := hm.2.2.1.1
    have hG := hm'.2.2.1
    have hM := hm'.2.2.2.1
    have n5 := hm.2.2.2.2.2.1.1.2
    have n6 := hm.2.2.2.2.2.1.2.1.2
    have c6 := fun x Q' => sp_good (X := X) (Q := Q') (v := x) g
    have c7 := fun Q' => mq_worthOf (X := X) (Q := Q') (p := p) hm' hu.1
    have c8 := fun Q' => mq_worthOf (X := X) (Q := Q') (p := q) hm' hu.2.1
    have hn := hu.2.2
    unfold ac_ltA at hq'
    by_cases w : p < q
    · rw [if_pos w] at hq'
      by_cases w2 : κ 19 p + κ 21 p < κ 19 q + κ 21 q
      · rw [if_pos w2] at hq'
        simp (disch := omega) only [do_X13_let, rX13_let_0, rX13_let_1, rX13_let_2, rX13_let_5, rX13_let_6, rX13_let_7, rX13_let_8, rX13_let_11, rX13_let_14, rX13_let_15, rX13_let_16, rX13_let_19, rX13_let_20, rX13_let_21, rX13_let_22, rX13_let_25, rX13_let_26, rX13_let_29, rX13_let_30, rX13_let_31, rX13_let_32, rX13_let_33, rX13_let_36, rX13_let_37, rX13_let_40, rX13_let_41, rX13_let_43, rX13_let_44, rX13_let_45, rX13_let_47, rX13_let_50, rX13_let_51, rX13_let_52, rX13_let_55, rX13_let_58, rX13_let_60, rX13_let_63, rX13_let_64, rX13_let_67, gS_355, g0, g, c2, if_pos hu, c6, c7, c8, ne_eq, not_false_eq_true, not_true_eq_false, true_and, and_true, and_self, true_imp_iff, false_imp_iff, imp_self, Bool.not_false, Bool.not_true, reduceCtorEq, ab_isJ, ab_psh, ab_cats, Bool.false_eq_true, if_true, if_false, ab_shf, ab_shw, Int.le_refl, Classical.not_not, Int.zero_add, forall_const, ↓ab_itT, ↓ab_itF, ab_anT, ab_w32_id, ab_rdf_ne, ab_rdw_ne, ab_rdw_eq, ab_rdf_in, ab_td2, ab_tm2]
        all_goals exact hq'
      · rw [if_neg w2] at hq'
        simp (disch := omega) only [do_X13_let, rX13_let_0, rX13_let_1, rX13_let_2, rX13_let_5, rX13_let_6, rX13_let_7, rX13_let_8, rX13_let_11, rX13_let_14, rX13_let_15, rX13_let_16, rX13_let_19, rX13_let_20, rX13_let_21, rX13_let_22, rX13_let_25, rX13_let_26, rX13_let_29, rX13_let_30, rX13_let_31, rX13_let_32, rX13_let_33, rX13_let_36, rX13_let_37, rX13_let_40, rX13_let_41, rX13_let_43, rX13_let_44, rX13_let_45, rX13_let_47, rX13_let_50, rX13_let_51, rX13_let_52, rX13_let_55, rX13_let_58, rX13_let_60, rX13_let_63, rX13_let_64, rX13_let_67, gS_355, g0, g, c2, if_pos hu, c6, c7, c8, ne_eq, not_false_eq_true, not_true_eq_false, true_and, and_true, and_self, true_imp_iff, false_imp_iff, imp_self, Bool.not_false, Bool.not_true, reduceCtorEq, ab_isJ, ab_psh, ab_cats, Bool.false_eq_true, if_true, if_false, ab_shf, ab_shw, Int.le_refl, Classical.not_not, Int.zero_add, forall_const, ↓ab_itT, ↓ab_itF, ab_anT, ab_w32_id, ab_rdf_ne, ab_rdw_ne, ab_rdw_eq, ab_rdf_in, ab_td2, ab_tm2]
        all_goals exact hq'
    · rw [if_neg w] at hq'
      by_cases w2 : κ 19 q + κ 21 q < κ 19 p + κ 21 p
      · rw [if_pos w2] at hq'
        simp (disch := omega) only [do_X13_let, rX13_let_0, rX13_let_1, rX13_let_2, rX13_let_5, rX13_let_6, rX13_let_7, rX13_let_8, rX13_let_11, rX13_let_14, rX13_let_15, rX13_let_16, rX13_let_19, rX13_let_20, rX13_let_21, rX13_let_22, rX13_let_25, rX13_let_26, rX13_let_29, rX13_let_30, rX13_let_31, rX13_let_32, rX13_let_33, rX13_let_36, rX13_let_37, rX13_let_40, rX13_let_41, rX13_let_43, rX13_let_44, rX13_let_45, rX13_let_47, rX13_let_50, rX13_let_51, rX13_let_52, rX13_let_55, rX13_let_58, rX13_let_60, rX13_let_63, rX13_let_64, rX13_let_67, gS_355, g0, g, c2, if_pos hu, c6, c7, c8, ne_eq, not_false_eq_true, not_true_eq_false, true_and, and_true, and_self, true_imp_iff, false_imp_iff, imp_self, Bool.not_false, Bool.not_true, reduceCtorEq, ab_isJ, ab_psh, ab_cats, Bool.false_eq_true, if_true, if_false, ab_shf, ab_shw, Int.le_refl, Classical.not_not, Int.zero_add, forall_const, ↓ab_itT, ↓ab_itF, ab_anT, ab_w32_id, ab_rdf_ne, ab_rdw_ne, ab_rdw_eq, ab_rdf_in, ab_td2, ab_tm2]
        all_goals exact hq'
      · rw [if_neg w2] at hq'
        simp (disch := omega) only [do_X13_let, rX13_let_0, rX13_let_1, rX13_let_2, rX13_let_5, rX13_let_6, rX13_let_7, rX13_let_8, rX13_let_11, rX13_let_14, rX13_let_15, rX13_let_16, rX13_let_19, rX13_let_20, rX13_let_21, rX13_let_22, rX13_let_25, rX13_let_26, rX13_let_29, rX13_let_30, rX13_let_31, rX13_let_32, rX13_let_33, rX13_let_36, rX13_let_37, rX13_let_40, rX13_let_41, rX13_let_43, rX13_let_44, rX13_let_45, rX13_let_47, rX13_let_50, rX13_let_51, rX13_let_52, rX13_let_55, rX13_let_58, rX13_let_60, rX13_let_63, rX13_let_64, rX13_let_67, gS_355, g0, g, c2, if_pos hu, c6, c7, c8, ne_eq, not_false_eq_true, not_true_eq_false, true_and, and_true, and_self, true_imp_iff, false_imp_iff, imp_self, Bool.not_false, Bool.not_true, reduceCtorEq, ab_isJ, ab_psh, ab_cats, Bool.false_eq_true, if_true, if_false, ab_shf, ab_shw, Int.le_refl, Classical.not_not, Int.zero_add, forall_const, ↓ab_itT, ↓ab_itF, ab_anT, ab_w32_id, ab_rdf_ne, ab_rdw_ne, ab_rdw_eq, ab_rdf_in, ab_td2, ab_tm2]
        all_goals exact hq'
  · have eT : ac_u1T κ p q = 1 := by exact if_neg hu
    rw [eT, if_neg (by decide)] at hQ
    simp (disch := omega) only [do_X13_let, rX13_let_0, rX13_let_1, rX13_let_2, rX13_let_5, rX13_let_6, rX13_let_7, rX13_let_8, rX13_let_11, rX13_let_14, rX13_let_15, rX13_let_16, rX13_let_19, rX13_let_20, rX13_let_21, rX13_let_22, rX13_let_25, rX13_let_26, rX13_let_29, rX13_let_30, rX13_let_31, rX13_let_32, rX13_let_33, rX13_let_36, rX13_let_37, rX13_let_40, rX13_let_41, rX13_let_43, rX13_let_44, rX13_let_45, rX13_let_47, rX13_let_50, rX13_let_51, rX13_let_52, rX13_let_55, rX13_let_58, rX13_let_60, rX13_let_63, rX13_let_64, rX13_let_67, gS_355, g0, c1, c2, cl, cin, c0, cr, if_neg hu, ne_eq, not_false_eq_true, not_true_eq_false, true_and, and_true, and_self, true_imp_iff, false_imp_iff, imp_self, Bool.not_false, Bool.not_true, reduceCtorEq, ab_isJ, ab_psh, ab_cats, Bool.false_eq_true, if_true, if_false, ab_shf, ab_shw, Int.le_refl, Classical.not_not, Int.zero_add, forall_const, ↓ab_itT, ↓ab_itF, ab_anT, ab_w32_id, ab_rdf_ne, ab_rdw_ne, ab_rdw_eq, ab_rdf_in, ab_td2, ab_tm2, ab_ifF]
    exact hQ _ (ac_end1 ac_mq0).1 (ac_end1 ac_mq0).2.1 (ac_end1 ac_mq0).2.2
end
