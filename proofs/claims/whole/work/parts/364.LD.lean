/-! LED, both sides -/
def ac_ldl (v : Int → Int) (i : Int) : Nat → Int → Int → Option Int
  | 0, _, _ => none
  | n + 1, b, met => if ac_bit (v 10) b = 0 then (if met = i then some b else ac_ldl v i n (b + 1) (met + 1)) else ac_ldl v i n (b + 1) met
def ac_led (κ : ac_K) (v : Int → Int) (i : Int) : Option Int := ac_ldl v i (κ 5 0).toNat 0 0
section
variable {X : ab_X} {σ τ υ : ab_S} {Q : Option ab_V → ab_S → Prop} {K M ln w na nm t i : Int} {tp v : Int → Int} {pa pm : Int → Int → Int} {κ : ac_K}
theorem ac_ledl_eq (h : ∀ b, 0 ≤ b → b < κ 5 0 → ab_rd σ 34 b = ac_bit (v 10) b) : ∀ (n : Nat) (b met : Int), 0 ≤ b → b + n = κ 5 0 → ab_ledl σ 34 i n b met = ac_ldl v i n b met := by
  intro n
  induction n with
  | zero => intro b met hb hn; rfl
  | succ n ih =>
    intro b met hb hn
    unfold ab_ledl ac_ldl
    rw [h b hb (by omega), ih (b + 1) (met + 1) (by omega) (by omega), ih (b + 1) met (by omega) (by omega)]
theorem cq_led (h : ac_CV σ K κ v na pa nm pm) : ab_ledf σ 1 i = ac_led κ v i := by
  have g := h.1.1
  have h7 := h.1.2.1
  have e5 := h.1.2.2.1.2.2.1.1
  have n5 := h.1.2.2.2.1.1
  unfold ab_ledf ac_led
  rw [gP_1_1 g, gP_31_2 g, h7, e5]
  exact ac_ledl_eq (fun b b1 b2 => (h.2.1.1 b b1 b2).2.2) _ _ _ (by omega) (by omega)
def ac_lQ (res : Option Int) (σ : ab_S) (Q : Option ab_V → ab_S → Prop) : Prop := match res with
  | some b => Q (some (ab_I b)) σ
  | none => Q (some (ab_I 0)) (ab_wr σ 355 0 1)
theorem mq_led_l (h : ac_MI σ M κ) (hv : ac_MV σ κ v) : ∀ (n : Nat) (b met : Int), 0 ≤ b → b + n = κ 5 0 → (0 ≤ met ∧ met ≤ b) → (ab_Run X 285 9 (1, 0, 0) [ab_R 355, ab_I i, ab_I met, ab_I b] [] σ Q ↔ ac_lQ (ac_ldl v i n b met) σ Q) := by
  have g := h.1
  have h3 := h.2.1
  have sM := h.2.2.1.2.1
  have zM := h.2.2.1.1
  have e5 := kM_5 h.2.2.2.1
  have n5 := h.2.2.2.2.2.1.1
  have e10 := hv.1 10 (by omega) (by omega)
  have vb10 := hv.2.2.1
  intro n
  induction n with
  | zero =>
    intro b met hb hn hm
    obtain rfl : b = κ 5 0 := by omega
    rw [rX13_led_9]
    unfold ac_ldl ac_lQ
    simp (disch := omega) only [rX13_led_10, rX13_led_13, rX13_led_16, rX13_led_17, rX13_led_18, rX13_led_21, rX13_led_24, rX13_led_60, rX13_led_61, rX13_led_62, rX13_led_65, rX13_led_66, gS_355, g, h3, sM, e5, ne_eq, not_false_eq_true, not_true_eq_false, true_and, and_true, and_self, true_imp_iff, false_imp_iff, imp_self, Bool.not_false, Bool.not_true, reduceCtorEq, ab_isJ, ab_psh, ab_cats, Bool.false_eq_true, if_true, if_false, ab_shf, ab_shw, Int.le_refl, Classical.not_not, Int.zero_add, forall_const, ↓ab_itT, ↓ab_itF, ab_anT, ab_w32_id, ab_rdf_ne, ab_rdw_ne, ab_rdw_eq, ab_rdf_in, ab_td2, ab_tm2]
  | succ n ih =>
    intro b met hb hn hm
    have c1 := fun Q' => mq_bit (X := X) (σ := σ) (Q := Q') (x := v 10) (b := b) (by omega) (by omega)
    rw [rX13_led_9]
    unfold ac_ldl
    rcases ac_bit01 (x := v 10) (b := b) with z | z
    · rw [if_pos z]
      rw [z] at c1
      by_cases z2 : met = i
      · rw [if_pos z2]
        unfold ac_lQ
        simp (disch := omega) only [rX13_led_10, rX13_led_13, rX13_led_16, rX13_led_17, rX13_led_18, rX13_led_21, rX13_led_24, rX13_led_27, rX13_led_28, rX13_led_31, rX13_led_33, rX13_led_34, rX13_led_35, rX13_led_38, rX13_led_41, rX13_led_44, rX13_led_45, rX13_led_46, rX13_led_49, rX13_led_50, rX13_led_51, rX13_led_54, rX13_led_57, gS_355, gP_355_16, gS_357, g, h3, sM, e5, e10, c1, ne_eq, not_false_eq_true, not_true_eq_false, true_and, and_true, and_self, true_imp_iff, false_imp_iff, imp_self, Bool.not_false, Bool.not_true, reduceCtorEq, ab_isJ, ab_psh, ab_cats, Bool.false_eq_true, if_true, if_false, ab_shf, ab_shw, Int.le_refl, Classical.not_not, Int.zero_add, forall_const, ↓ab_itT, ↓ab_itF, ab_anT, ab_w32_id, ab_rdf_ne, ab_rdw_ne, ab_rdw_eq, ab_rdf_in, ab_td2, ab_tm2]
      · rw [if_neg z2, ← ih (b + 1) (met + 1) (by omega) (by omega) (by omega)]
        clear ih
        simp (disch := omega) only [rX13_led_10, rX13_led_13, rX13_led_16, rX13_led_17, rX13_led_18, rX13_led_21, rX13_led_24, rX13_led_27, rX13_led_28, rX13_led_31, rX13_led_33, rX13_led_34, rX13_led_35, rX13_led_38, rX13_led_41, rX13_led_44, rX13_led_45, rX13_led_46, rX13_led_49, rX13_led_50, rX13_led_51, rX13_led_54, rX13_led_57, gS_355, gP_355_16, gS_357, g, h3, sM, e5, e10, c1, ne_eq, not_false_eq_true, not_true_eq_false, true_and, and_true, and_self, true_imp_iff, false_imp_iff, imp_self, Bool.not_false, Bool.not_true, reduceCtorEq, ab_isJ, ab_psh, ab_cats, Bool.false_eq_true, if_true, if_false, ab_shf, ab_shw, Int.le_refl, Classical.not_not, Int.zero_add, forall_const, ↓ab_itT, ↓ab_itF, ab_anT, ab_w32_id, ab_rdf_ne, ab_rdw_ne, ab_rdw_eq, ab_rdf_in, ab_td2, ab_tm2]
    · rw [if_neg (by omega)]
      rw [z] at c1
      rw [← ih (b + 1) met (by omega) (by omega) (by omega)]
      clear ih
      simp (disch := omega) only [rX13_led_10, rX13_led_13, rX13_led_16, rX13_led_17, rX13_led_18, rX13_led_21, rX13_led_24, rX13_led_27, rX13_led_28, rX13_led_31, rX13_led_33, rX13_led_34, rX13_led_35, rX13_led_38, rX13_led_41, rX13_led_44, rX13_led_45, rX13_led_46, rX13_led_49, rX13_led_50, rX13_led_51, rX13_led_54, rX13_led_57, gS_355, gP_355_16, gS_357, g, h3, sM, e5, e10, c1, ne_eq, not_false_eq_true, not_true_eq_false, true_and, and_true, and_self, true_imp_iff, false_imp_iff, imp_self, Bool.not_false, Bool.not_true, reduceCtorEq, ab_isJ, ab_psh, ab_cats, Bool.false_eq_true, if_true, if_false, ab_shf, ab_shw, Int.le_refl, Classical.not_not, Int.zero_add, forall_const, ↓ab_itT, ↓ab_itF, ab_anT, ab_w32_id, ab_rdf_ne, ab_rdw_ne, ab_rdw_eq, ab_rdf_in, ab_td2, ab_tm2]
theorem mq_led (h : ac_MS σ κ v na pa nm pm) : ab_Do X 285 [ab_R 355, ab_I i] σ Q ↔ ac_lQ (ac_led κ v i) (ab_wr σ 355 0 0) Q := by
  have hN := h.1
  have h' := hN.same (τ := ab_wr σ 355 0 0) ac_mq0
  have g0 := hN.1
  have g := h'.1
  have hm0 := h.same (τ := ab_wr σ 355 0 0) ac_mq0
  unfold ac_led
  by_cases hp : 0 < κ 5 0
  · obtain ⟨M, hm⟩ := h'.mi hp
    have L := mq_led_l (X := X) (Q := Q) (i := i) hm hm0.2.1 (κ 5 0).toNat 0 0 (by omega) (by omega) (by omega)
    rw [← L]
    simp (disch := omega) only [do_X13_led, rX13_led_0, rX13_led_1, rX13_led_2, rX13_led_5, rX13_led_6, rX13_led_7, rX13_led_8, gS_355, g0, ne_eq, not_false_eq_true, not_true_eq_false, true_and, and_true, and_self, true_imp_iff, false_imp_iff, imp_self, Bool.not_false, Bool.not_true, reduceCtorEq, ab_isJ, ab_psh, ab_cats, Bool.false_eq_true, if_true, if_false, ab_shf, ab_shw, Int.le_refl, Classical.not_not, Int.zero_add, forall_const, ↓ab_itT, ↓ab_itF, ab_anT, ab_w32_id, ab_rdf_ne, ab_rdw_ne, ab_rdw_eq, ab_rdf_in, ab_td2, ab_tm2]
  · have e0 := h'.null hp
    have ez := hN.z hp
    rw [ez]
    unfold ac_lQ
    show _ ↔ Q (some (ab_I 0)) (ab_wr (ab_wr σ 355 0 0) 355 0 1)
    simp (disch := omega) only [do_X13_led, rX13_led_0, rX13_led_1, rX13_led_2, rX13_led_5, rX13_led_6, rX13_led_7, rX13_led_8, rX13_led_9, rX13_led_10, rX13_led_13, rX13_led_60, rX13_led_61, rX13_led_62, rX13_led_65, rX13_led_66, gS_355, g0, g, e0, ne_eq, not_false_eq_true, not_true_eq_false, true_and, and_true, and_self, true_imp_iff, false_imp_iff, imp_self, Bool.not_false, Bool.not_true, reduceCtorEq, ab_isJ, ab_psh, ab_cats, Bool.false_eq_true, if_true, if_false, ab_shf, ab_shw, Int.le_refl, Classical.not_not, Int.zero_add, forall_const, ↓ab_itT, ↓ab_itF, ab_anT, or_true]
theorem mq_thrown (hg : ab_Geo σ) (h : ab_rd σ 355 0 = t) : ab_Do X 158 [ab_R 355] σ Q ↔ Q (some (ab_I t)) σ := by
  simp (disch := omega) only [do_X13_thrown, rX13_thrown_0, rX13_thrown_1, rX13_thrown_4, gS_355, hg, h, ne_eq, not_false_eq_true, not_true_eq_false, true_and, and_true, and_self, true_imp_iff, false_imp_iff, imp_self, Bool.not_false, Bool.not_true, reduceCtorEq, ab_isJ, ab_psh, ab_cats, Bool.false_eq_true, if_true, if_false, ab_shf, ab_shw, Int.le_refl, Classical.not_not, Int.zero_add, forall_const, ↓ab_itT, ↓ab_itF, ab_anT, ab_w32_id, ab_rdf_ne, ab_rdw_ne, ab_rdw_eq, ab_rdf_in, ab_td2, ab_tm2]
end
