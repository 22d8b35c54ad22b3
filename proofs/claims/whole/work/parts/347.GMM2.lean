/-! THE GAME: rests, rest of the reference -/
section
variable {X : ab_X} {σ τ υ : ab_S} {Q : Option ab_V → ab_S → Prop} {M : Int} {κ : ac_K} {v : Int → Int} {kd d b p hp q hq mv i j as s n arm who x y z lo : Int} {P : Int → Int → Prop}
abbrev ac_RX (κ : ac_K) (kd d b p q x y : Int) : Prop := ac_ge (fun k => ac_GO κ kd d b p q 0 (ac_cx κ p k) y) (ac_cn κ b 0 p) (ac_GO κ kd d b p q 0 x y) = 1 ∧ ac_ge (fun k => ac_GO κ kd d b p q 1 x (ac_cx κ q k)) (ac_cn κ b 1 q) (ac_GO κ kd d b p q 1 x y) = 1
abbrev ac_vi (κ : ac_K) (kd d b p q x y z : Int) : Prop := (ac_iC κ b 0 p z ∧ ac_GO κ kd d b p q 0 x y < ac_GO κ kd d b p q 0 z y) ∨ (ac_iC κ b 1 q z ∧ ac_GO κ kd d b p q 1 x y < ac_GO κ kd d b p q 1 x z)
theorem ac_RX_iff (hk : ac_KK κ) (hb : ac_isB κ b) : ac_RX κ kd d b p q x y ↔ ∀ z, 0 ≤ z → z < 12 → ¬ ac_vi κ kd d b p q x y z := by
  have b0 := ac_cn_b (who := p) hk hb (Or.inl rfl)
  have b1 := ac_cn_b (who := q) hk hb (Or.inr rfl)
  unfold ac_RX
  rw [ac_ge_iff (by omega), ac_ge_iff (by omega)]
  constructor
  · rintro ⟨h1, h2⟩ z z1 z2 u
    rcases u with ⟨u1, u2⟩ | ⟨u1, u2⟩
    · obtain ⟨k, k1, k2⟩ := ac_iC_cx z1 u1
      have := h1 k k1.1 k1.2
      rw [k2] at this
      omega
    · obtain ⟨k, k1, k2⟩ := ac_iC_cx z1 u1
      have := h2 k k1.1 k1.2
      rw [k2] at this
      omega
  · intro h
    have n0 := ac_n_b hk hb (Or.inl rfl)
    have n1 := ac_n_b hk hb (Or.inr rfl)
    constructor
    · intro k k1 k2
      obtain ⟨c1, c2⟩ := ac_cx_iC (κ := κ) (b := b) (arm := 0) (who := p) ⟨k1, k2⟩
      by_cases w : ac_GO κ kd d b p q 0 (ac_cx κ p k) y ≤ ac_GO κ kd d b p q 0 x y
      · exact w
      · exact absurd (Or.inl ⟨c1, by omega⟩) (h (ac_cx κ p k) c2 (by have := c1.1; omega))
    · intro k k1 k2
      obtain ⟨c1, c2⟩ := ac_cx_iC (κ := κ) (b := b) (arm := 1) (who := q) ⟨k1, k2⟩
      by_cases w : ac_GO κ kd d b p q 1 x (ac_cx κ q k) ≤ ac_GO κ kd d b p q 1 x y
      · exact w
      · exact absurd (Or.inr ⟨c1, by omega⟩) (h (ac_cx κ q k) c2 (by have := c1.1; omega))
theorem mq_isRest_l (h : ac_MI σ M κ) (hb : ac_isB κ b) (hp : ac_isP κ p) (hq : ac_isP κ q) (hL : ac_LG σ κ kd d b p q 12 0) (hx : 0 ≤ x ∧ x < 12) (hy : 0 ≤ y ∧ y < 12) (hx1 : ac_iC κ b 0 p x) (hy1 : ac_iC κ b 1 q y) (r : Int) : ∀ (n : Nat) (z : Int), 0 ≤ z → z + n = 12 → ((r = 1 ∧ ∀ z', z ≤ z' → z' < 12 → ¬ ac_vi κ kd d b p q x y z') ∨ (r = 0 ∧ ∃ z', z ≤ z' ∧ z' < 12 ∧ ac_vi κ kd d b p q x y z')) → (ab_Run X 230 3 (2, 0, 0) [ab_R 355, ab_I b, ab_I p, ab_I q, ab_I x, ab_I y, ab_I z] [] σ Q ↔ Q (some (ab_I r)) σ) := by
  have g := h.1
  have xy := hL x y hx.1 hx.2 hy.1 hy.2 (Or.inl hx.2) hx1 hy1
  have xy1 := xy.1
  have xy2 := xy.2
  intro n
  induction n with
  | zero =>
    intro z hz hn hr
    rcases hr with ⟨rfl, -⟩ | ⟨-, z', a1, a2, -⟩
    · rw [rX13_isRest_3]
      simp (disch := omega) only [rX13_isRest_5, rX13_isRest_7, rX13_isRest_104, rX13_isRest_105, ne_eq, not_false_eq_true, not_true_eq_false, true_and, and_true, and_self, true_imp_iff, false_imp_iff, imp_self, Bool.not_false, Bool.not_true, reduceCtorEq, ab_isJ, ab_psh, ab_cats, Bool.false_eq_true, if_true, if_false, ab_shf, ab_shw, Int.le_refl, Classical.not_not, Int.zero_add, forall_const, ↓ab_itT, ↓ab_itF, ab_anT, ab_w32_id, ab_rdf_ne, ab_rdw_ne, ab_rdw_eq, ab_rdf_in, ab_td2, ab_tm2, or_true]
    · omega
  | succ n ih =>
    intro z hz hn hr
    have c1 := fun Q' => mq_isChoice (X := X) (Q := Q') (x := z) h hb (Or.inl rfl) hp (by omega)
    have c2 := fun Q' => mq_isChoice (X := X) (Q := Q') (x := z) h hb (Or.inr rfl) hq (by omega)
    rw [rX13_isRest_3]
    by_cases w : ac_vi κ kd d b p q x y z
    · have r0 : r = 0 := by
        rcases hr with ⟨-, h2⟩ | ⟨h1, -⟩
        · exact absurd w (h2 z (by omega) (by omega))
        · exact h1
      subst r0
      by_cases w1 : ac_iC κ b 0 p z
      · rw [if_pos w1] at c1
        have zy := (hL z y (by omega) (by omega) hy.1 hy.2 (Or.inl (by omega)) w1 hy1).1
        by_cases w2 : ac_GO κ kd d b p q 0 x y < ac_GO κ kd d b p q 0 z y
        · clear ih hr
          simp (disch := omega) only [rX13_isRest_5, rX13_isRest_7, rX13_isRest_10, rX13_isRest_11, rX13_isRest_12, rX13_isRest_13, rX13_isRest_14, rX13_isRest_16, rX13_isRest_19, rX13_isRest_22, rX13_isRest_23, rX13_isRest_26, rX13_isRest_28, rX13_isRest_30, rX13_isRest_31, rX13_isRest_33, rX13_isRest_34, rX13_isRest_35, rX13_isRest_36, rX13_isRest_39, rX13_isRest_41, rX13_isRest_43, rX13_isRest_44, rX13_isRest_46, rX13_isRest_47, rX13_isRest_48, rX13_isRest_49, rX13_isRest_52, rX13_isRest_53, gS_355, gP_355_30, gS_363, g, c1, zy, xy1, ne_eq, not_false_eq_true, not_true_eq_false, true_and, and_true, and_self, true_imp_iff, false_imp_iff, imp_self, Bool.not_false, Bool.not_true, reduceCtorEq, ab_isJ, ab_psh, ab_cats, Bool.false_eq_true, if_true, if_false, ab_shf, ab_shw, Int.le_refl, Classical.not_not, Int.zero_add, forall_const, ↓ab_itT, ↓ab_itF, ab_anT, ab_w32_id, ab_rdf_ne, ab_rdw_ne, ab_rdw_eq, ab_rdf_in, ab_td2, ab_tm2, true_or, ab_ifT]
        · have w3 : ac_iC κ b 1 q z ∧ ac_GO κ kd d b p q 1 x y < ac_GO κ kd d b p q 1 x z := w.resolve_left (fun u => w2 u.2)
          rw [if_pos w3.1] at c2
          have xz := (hL x z hx.1 hx.2 (by omega) (by omega) (Or.inl hx.2) hx1 w3.1).2
          have w4 := w3.2
          have lc : (if ac_GO κ kd d b p q 0 x y < ac_GO κ kd d b p q 0 z y then (1 : Int) else if ac_GO κ kd d b p q 0 z y = ac_GO κ kd d b p q 0 x y then 0 else -1) ≤ 0 := by
            rw [if_neg w2]; split <;> omega
          clear ih hr w w3
          simp (disch := omega) only [rX13_isRest_5, rX13_isRest_7, rX13_isRest_10, rX13_isRest_11, rX13_isRest_12, rX13_isRest_13, rX13_isRest_14, rX13_isRest_16, rX13_isRest_19, rX13_isRest_22, rX13_isRest_23, rX13_isRest_26, rX13_isRest_28, rX13_isRest_30, rX13_isRest_31, rX13_isRest_33, rX13_isRest_34, rX13_isRest_35, rX13_isRest_36, rX13_isRest_39, rX13_isRest_41, rX13_isRest_43, rX13_isRest_44, rX13_isRest_46, rX13_isRest_47, rX13_isRest_48, rX13_isRest_49, rX13_isRest_52, rX13_isRest_53, rX13_isRest_54, rX13_isRest_55, rX13_isRest_56, rX13_isRest_57, rX13_isRest_58, rX13_isRest_60, rX13_isRest_63, rX13_isRest_66, rX13_isRest_67, rX13_isRest_70, rX13_isRest_72, rX13_isRest_74, rX13_isRest_75, rX13_isRest_77, rX13_isRest_78, rX13_isRest_79, rX13_isRest_80, rX13_isRest_83, rX13_isRest_85, rX13_isRest_87, rX13_isRest_88, rX13_isRest_90, rX13_isRest_91, rX13_isRest_92, rX13_isRest_93, rX13_isRest_96, rX13_isRest_97, gS_355, gP_355_30, gP_355_31, gS_363, gS_364, g, c1, c2, zy, xz, xy1, xy2, ne_eq, not_false_eq_true, not_true_eq_false, true_and, and_true, and_self, true_imp_iff, false_imp_iff, imp_self, Bool.not_false, Bool.not_true, reduceCtorEq, ab_isJ, ab_psh, ab_cats, Bool.false_eq_true, if_true, if_false, ab_shf, ab_shw, Int.le_refl, Classical.not_not, Int.zero_add, forall_const, ↓ab_itT, ↓ab_itF, ab_anT, ab_w32_id, ab_rdf_ne, ab_rdw_ne, ab_rdw_eq, ab_rdf_in, ab_td2, ab_tm2, true_or, ab_ifT]
      · rw [if_neg w1] at c1
        have w3 : ac_iC κ b 1 q z ∧ ac_GO κ kd d b p q 1 x y < ac_GO κ kd d b p q 1 x z := w.resolve_left (fun u => w1 u.1)
        rw [if_pos w3.1] at c2
        have xz := (hL x z hx.1 hx.2 (by omega) (by omega) (Or.inl hx.2) hx1 w3.1).2
        have w4 := w3.2
        clear ih hr w w3
        simp (disch := omega) only [rX13_isRest_5, rX13_isRest_7, rX13_isRest_10, rX13_isRest_11, rX13_isRest_12, rX13_isRest_13, rX13_isRest_14, rX13_isRest_16, rX13_isRest_19, rX13_isRest_22, rX13_isRest_23, rX13_isRest_26, rX13_isRest_28, rX13_isRest_30, rX13_isRest_31, rX13_isRest_33, rX13_isRest_34, rX13_isRest_35, rX13_isRest_36, rX13_isRest_39, rX13_isRest_41, rX13_isRest_43, rX13_isRest_44, rX13_isRest_46, rX13_isRest_47, rX13_isRest_48, rX13_isRest_49, rX13_isRest_52, rX13_isRest_53, rX13_isRest_54, rX13_isRest_55, rX13_isRest_56, rX13_isRest_57, rX13_isRest_58, rX13_isRest_60, rX13_isRest_63, rX13_isRest_66, rX13_isRest_67, rX13_isRest_70, rX13_isRest_72, rX13_isRest_74, rX13_isRest_75, rX13_isRest_77, rX13_isRest_78, rX13_isRest_79, rX13_isRest_80, rX13_isRest_83, rX13_isRest_85, rX13_isRest_87, rX13_isRest_88, rX13_isRest_90, rX13_isRest_91, rX13_isRest_92, rX13_isRest_93, rX13_isRest_96, rX13_isRest_97, gS_355, gP_355_30, gP_355_31, gS_363, gS_364, g, c1, c2, xz, xy1, xy2, ne_eq, not_false_eq_true, not_true_eq_false, true_and, and_true, and_self, true_imp_iff, false_imp_iff, imp_self, Bool.not_false, Bool.not_true, reduceCtorEq, ab_isJ, ab_psh, ab_cats, Bool.false_eq_true, if_true, if_false, ab_shf, ab_shw, Int.le_refl, Classical.not_not, Int.zero_add, forall_const, ↓ab_itT, ↓ab_itF, ab_anT, ab_w32_id, ab_rdf_ne, ab_rdw_ne, ab_rdw_eq, ab_rdf_in, ab_td2, ab_tm2, true_or, ab_ifT]
    · have key := ih (z + 1) (by omega) (by omega) (by
        rcases hr with ⟨h1, h2⟩ | ⟨h1, z', a1, a2, a3⟩
        · exact Or.inl ⟨h1, fun z' b1 b2 => h2 z' (by omega) b2⟩
        · refine Or.inr ⟨h1, z', ?_, a2, a3⟩
          by_cases e : z' = z
          · subst e; exact absurd a3 w
          · omega)
      rw [← key]
      clear ih hr key
      by_cases w1 : ac_iC κ b 0 p z
      · rw [if_pos w1] at c1
        have zy := (hL z y (by omega) (by omega) hy.1 hy.2 (Or.inl (by omega)) w1 hy1).1
        have w2 : ¬ ac_GO κ kd d b p q 0 x y < ac_GO κ kd d b p q 0 z y := fun u => w (Or.inl ⟨w1, u⟩)
        have lc : (if ac_GO κ kd d b p q 0 x y < ac_GO κ kd d b p q 0 z y then (1 : Int) else if ac_GO κ kd d b p q 0 z y = ac_GO κ kd d b p q 0 x y then 0 else -1) ≤ 0 := by
          rw [if_neg w2]; split <;> omega
        by_cases w3 : ac_iC κ b 1 q z
        · rw [if_pos w3] at c2
          have xz := (hL x z hx.1 hx.2 (by omega) (by omega) (Or.inl hx.2) hx1 w3).2
          have w4 : ¬ ac_GO κ kd d b p q 1 x y < ac_GO κ kd d b p q 1 x z := fun u => w (Or.inr ⟨w3, u⟩)
          have lc2 : (if ac_GO κ kd d b p q 1 x y < ac_GO κ kd d b p q 1 x z then (1 : Int) else if ac_GO κ kd d b p q 1 x z = ac_GO κ kd d b p q 1 x y then 0 else -1) ≤ 0 := by
            rw [if_neg w4]; split <;> omega
          clear w
          simp (disch := omega) only [rX13_isRest_5, rX13_isRest_7, rX13_isRest_10, rX13_isRest_11, rX13_isRest_12, rX13_isRest_13, rX13_isRest_14, rX13_isRest_16, rX13_isRest_19, rX13_isRest_22, rX13_isRest_23, rX13_isRest_26, rX13_isRest_28, rX13_isRest_30, rX13_isRest_31, rX13_isRest_33, rX13_isRest_34, rX13_isRest_35, rX13_isRest_36, rX13_isRest_39, rX13_isRest_41, rX13_isRest_43, rX13_isRest_44, rX13_isRest_46, rX13_isRest_47, rX13_isRest_48, rX13_isRest_49, rX13_isRest_52, rX13_isRest_53, rX13_isRest_54, rX13_isRest_55, rX13_isRest_56, rX13_isRest_57, rX13_isRest_58, rX13_isRest_60, rX13_isRest_63, rX13_isRest_66, rX13_isRest_67, rX13_isRest_70, rX13_isRest_72, rX13_isRest_74, rX13_isRest_75, rX13_isRest_77, rX13_isRest_78, rX13_isRest_79, rX13_isRest_80, rX13_isRest_83, rX13_isRest_85, rX13_isRest_87, rX13_isRest_88, rX13_isRest_90, rX13_isRest_91, rX13_isRest_92, rX13_isRest_93, rX13_isRest_96, rX13_isRest_97, rX13_isRest_98, rX13_isRest_101, gS_355, gP_355_30, gP_355_31, gS_363, gS_364, g, c1, c2, zy, xz, xy1, xy2, ne_eq, not_false_eq_true, not_true_eq_false, true_and, and_true, and_self, true_imp_iff, false_imp_iff, imp_self, Bool.not_false, Bool.not_true, reduceCtorEq, ab_isJ, ab_psh, ab_cats, Bool.false_eq_true, if_true, if_false, ab_shf, ab_shw, Int.le_refl, Classical.not_not, Int.zero_add, forall_const, ↓ab_itT, ↓ab_itF, ab_anT, ab_w32_id, ab_rdf_ne, ab_rdw_ne, ab_rdw_eq, ab_rdf_in, ab_td2, ab_tm2]
        · rw [if_neg w3] at c2
          clear w
          simp (disch := omega) only [rX13_isRest_5, rX13_isRest_7, rX13_isRest_10, rX13_isRest_11, rX13_isRest_12, rX13_isRest_13, rX13_isRest_14, rX13_isRest_16, rX13_isRest_19, rX13_isRest_22, rX13_isRest_23, rX13_isRest_26, rX13_isRest_28, rX13_isRest_30, rX13_isRest_31, rX13_isRest_33, rX13_isRest_34, rX13_isRest_35, rX13_isRest_36, rX13_isRest_39, rX13_isRest_41, rX13_isRest_43, rX13_isRest_44, rX13_isRest_46, rX13_isRest_47, rX13_isRest_48, rX13_isRest_49, rX13_isRest_52, rX13_isRest_53, rX13_isRest_54, rX13_isRest_55, rX13_isRest_56, rX13_isRest_57, rX13_isRest_58, rX13_isRest_60, rX13_isRest_63, rX13_isRest_66, rX13_isRest_67, rX13_isRest_70, rX13_isRest_72, rX13_isRest_74, rX13_isRest_75, rX13_isRest_77, rX13_isRest_78, rX13_isRest_79, rX13_isRest_80, rX13_isRest_83, rX13_isRest_85, rX13_isRest_87, rX13_isRest_88, rX13_isRest_90, rX13_isRest_91, rX13_isRest_92, rX13_isRest_93, rX13_isRest_96, rX13_isRest_97, rX13_isRest_98, rX13_isRest_101, gS_355, gP_355_30, gP_355_31, gS_363, gS_364, g, c1, c2, zy, xy1, xy2, ne_eq, not_false_eq_true, not_true_eq_false, true_and, and_true, and_self, true_imp_iff, false_imp_iff, imp_self, Bool.not_false, Bool.not_true, reduceCtorEq, ab_isJ, ab_psh, ab_cats, Bool.false_eq_true, if_true, if_false, ab_shf, ab_shw, Int.le_refl, Classical.not_not, Int.zero_add, forall_const, ↓ab_itT, ↓ab_itF, ab_anT, ab_w32_id, ab_rdf_ne, ab_rdw_ne, ab_rdw_eq, ab_rdf_in, ab_td2, ab_tm2]
      · rw [if_neg w1] at c1
        by_cases w3 : ac_iC κ b 1 q z
        · rw [if_pos w3] at c2
          have xz := (hL x z hx.1 hx.2 (by omega) (by omega) (Or.inl hx.2) hx1 w3).2
          have w4 : ¬ ac_GO κ kd d b p q 1 x y < ac_GO κ kd d b p q 1 x z := fun u => w (Or.inr ⟨w3, u⟩)
          have lc2 : (if ac_GO κ kd d b p q 1 x y < ac_GO κ kd d b p q 1 x z then (1 : Int) else if ac_GO κ kd d b p q 1 x z = ac_GO κ kd d b p q 1 x y then 0 else -1) ≤ 0 := by
            rw [if_neg w4]; split <;> omega
          clear w
          simp (disch := omega) only [rX13_isRest_5, rX13_isRest_7, rX13_isRest_10, rX13_isRest_11, rX13_isRest_12, rX13_isRest_13, rX13_isRest_14, rX13_isRest_16, rX13_isRest_19, rX13_isRest_22, rX13_isRest_23, rX13_isRest_26, rX13_isRest_28, rX13_isRest_30, rX13_isRest_31, rX13_isRest_33, rX13_isRest_34, rX13_isRest_35, rX13_isRest_36, rX13_isRest_39, rX13_isRest_41, rX13_isRest_43, rX13_isRest_44, rX13_isRest_46, rX13_isRest_47, rX13_isRest_48, rX13_isRest_49, rX13_isRest_52, rX13_isRest_53, rX13_isRest_54, rX13_isRest_55, rX13_isRest_56, rX13_isRest_57, rX13_isRest_58, rX13_isRest_60, rX13_isRest_63, rX13_isRest_66, rX13_isRest_67, rX13_isRest_70, rX13_isRest_72, rX13_isRest_74, rX13_isRest_75, rX13_isRest_77, rX13_isRest_78, rX13_isRest_79, rX13_isRest_80, rX13_isRest_83, rX13_isRest_85, rX13_isRest_87, rX13_isRest_88, rX13_isRest_90, rX13_isRest_91, rX13_isRest_92, rX13_isRest_93, rX13_isRest_96, rX13_isRest_97, rX13_isRest_98, rX13_isRest_101, gS_355, gP_355_30, gP_355_31, gS_363, gS_364, g, c1, c2, xz, xy1, xy2, ne_eq, not_false_eq_true, not_true_eq_false, true_and, and_true, and_self, true_imp_iff, false_imp_iff, imp_self, Bool.not_false, Bool.not_true, reduceCtorEq, ab_isJ, ab_psh, ab_cats, Bool.false_eq_true, if_true, if_false, ab_shf, ab_shw, Int.le_refl, Classical.not_not, Int.zero_add, forall_const, ↓ab_itT, ↓ab_itF, ab_anT, ab_w32_id, ab_rdf_ne, ab_rdw_ne, ab_rdw_eq, ab_rdf_in, ab_td2, ab_tm2]
        · rw [if_neg w3] at c2
          clear w
          simp (disch := omega) only [rX13_isRest_5, rX13_isRest_7, rX13_isRest_10, rX13_isRest_11, rX13_isRest_12, rX13_isRest_13, rX13_isRest_14, rX13_isRest_16, rX13_isRest_19, rX13_isRest_22, rX13_isRest_23, rX13_isRest_26, rX13_isRest_28, rX13_isRest_30, rX13_isRest_31, rX13_isRest_33, rX13_isRest_34, rX13_isRest_35, rX13_isRest_36, rX13_isRest_39, rX13_isRest_41, rX13_isRest_43, rX13_isRest_44, rX13_isRest_46, rX13_isRest_47, rX13_isRest_48, rX13_isRest_49, rX13_isRest_52, rX13_isRest_53, rX13_isRest_54, rX13_isRest_55, rX13_isRest_56, rX13_isRest_57, rX13_isRest_58, rX13_isRest_60, rX13_isRest_63, rX13_isRest_66, rX13_isRest_67, rX13_isRest_70, rX13_isRest_72, rX13_isRest_74, rX13_isRest_75, rX13_isRest_77, rX13_isRest_78, rX13_isRest_79, rX13_isRest_80, rX13_isRest_83, rX13_isRest_85, rX13_isRest_87, rX13_isRest_88, rX13_isRest_90, rX13_isRest_91, rX13_isRest_92, rX13_isRest_93, rX13_isRest_96, rX13_isRest_97, rX13_isRest_98, rX13_isRest_101, gS_355, g, c1, c2, ne_eq, not_false_eq_true, not_true_eq_false, true_and, and_true, and_self, true_imp_iff, false_imp_iff, imp_self, Bool.not_false, Bool.not_true, reduceCtorEq, ab_isJ, ab_psh, ab_cats, Bool.false_eq_true, if_true, if_false, ab_shf, ab_shw, Int.le_refl, Classical.not_not, Int.zero_add, forall_const, ↓ab_itT, ↓ab_itF, ab_anT, ab_w32_id, ab_rdf_ne, ab_rdw_ne, ab_rdw_eq, ab_rdf_in, ab_td2, ab_tm2]
theorem mq_isRest (h : ac_MI σ M κ) (hb : ac_isB κ b) (hp : ac_isP κ p) (hq : ac_isP κ q) (hL : ac_LG σ κ kd d b p q 12 0) (hx : 0 ≤ x ∧ x < 12) (hy : 0 ≤ y ∧ y < 12) (hx1 : ac_iC κ b 0 p x) (hy1 : ac_iC κ b 1 q y) : ab_Do X 230 [ab_R 355, ab_I b, ab_I p, ab_I q, ab_I x, ab_I y] σ Q ↔ Q (some (ab_I (if ac_RX κ kd d b p q x y then 1 else 0))) σ := by
  have e := ac_RX_iff (kd := kd) (d := d) (p := p) (q := q) (x := x) (y := y) h.2.2.2.2 hb
  by_cases w : ac_RX κ kd d b p q x y
  · rw [if_pos w, ← mq_isRest_l (X := X) (Q := Q) h hb hp hq hL hx hy hx1 hy1 1 12 0 (by omega) (by omega) (Or.inl ⟨rfl, fun z' a1 a2 => e.mp w z' a1 a2⟩)]
    simp (disch := omega) only [do_X13_isRest, rX13_isRest_0, rX13_isRest_1, ne_eq, not_false_eq_true, not_true_eq_false, true_and, and_true, and_self, true_imp_iff, false_imp_iff, imp_self, Bool.not_false, Bool.not_true, reduceCtorEq, ab_isJ, ab_psh, ab_cats, Bool.false_eq_true, if_true, if_false, ab_shf, ab_shw, Int.le_refl, Classical.not_not, Int.zero_add, forall_const, ↓ab_itT, ↓ab_itF, ab_anT, ab_w32_id, ab_rdf_ne, ab_rdw_ne, ab_rdw_eq, ab_rdf_in, ab_td2, ab_tm2]
  · have w2 : ∃ z', 0 ≤ z' ∧ z' < 12 ∧ ac_vi κ kd d b p q x y z' := by
      refine Classical.byContradiction (fun u => w (e.mpr (fun z a1 a2 a3 => u ⟨z, a1, a2, a3⟩)))
    rw [if_neg w, ← mq_isRest_l (X := X) (Q := Q) h hb hp hq hL hx hy hx1 hy1 0 12 0 (by omega) (by omega) (Or.inr ⟨rfl, w2⟩)]
    simp (disch := omega) only [do_X13_isRest, rX13_isRest_0, rX13_isRest_1, ne_eq, not_false_eq_true, not_true_eq_false, true_and, and_true, and_self, true_imp_iff, false_imp_iff, imp_self, Bool.not_false, Bool.not_true, reduceCtorEq, ab_isJ, ab_psh, ab_cats, Bool.false_eq_true, if_true, if_false, ab_shf, ab_shw, Int.le_refl, Classical.not_not, Int.zero_add, forall_const, ↓ab_itT, ↓ab_itF, ab_anT, ab_w32_id, ab_rdf_ne, ab_rdw_ne, ab_rdw_eq, ab_rdf_in, ab_td2, ab_tm2]
def ac_td (x : Int) : Int := 10 * (x / 2 + 1) + x % 2
theorem mq_told (hx : 0 ≤ x ∧ x < 12) : ab_Do X 231 [ab_I x] σ Q ↔ Q (some (ab_I (ac_td x))) σ := by
  unfold ac_td
  simp (disch := omega) only [do_X13_told, rX13_told_0, rX13_told_2, rX13_told_3, rX13_told_4, rX13_told_5, rX13_told_6, rX13_told_7, rX13_told_8, rX13_told_9, rX13_told_10, rX13_told_11, rX13_told_12, ne_eq, not_false_eq_true, not_true_eq_false, true_and, and_true, and_self, true_imp_iff, false_imp_iff, imp_self, Bool.not_false, Bool.not_true, reduceCtorEq, ab_isJ, ab_psh, ab_cats, Bool.false_eq_true, if_true, if_false, ab_shf, ab_shw, Int.le_refl, Classical.not_not, Int.zero_add, forall_const, ↓ab_itT, ↓ab_itF, ab_anT, ab_w32_id, ab_rdf_ne, ab_rdw_ne, ab_rdw_eq, ab_rdf_in, ab_td2, ab_tm2]
def ac_cF (κ : ac_K) (kd d b p q x y s : Int) : Int := if ac_RX κ kd d b p q x y then ab_w32 (s + 1) else s
def ac_cY (κ : ac_K) (kd d b p q x : Int) : Int → Int → Int := fun y s => if ac_iC κ b 1 q y then ac_cF κ kd d b p q x y s else s
def ac_cX (κ : ac_K) (kd d b p q : Int) : Int → Int → Int := fun x s => if ac_iC κ b 0 p x then ab_it (ac_cY κ kd d b p q x) 12 0 s else s
theorem ac_rests_eq (hk : ac_KK κ) (hb : ac_isB κ b) : ab_it (ac_cX κ kd d b p q) 12 0 0 = ac_rests κ kd d b p q := by
  have n0 := ac_n_b hk hb (Or.inl rfl)
  have n1 := ac_n_b hk hb (Or.inr rfl)
  have e := ac_ch_it (κ := κ) (b := b) (arm := 0) (who := p) n0 (fun x s => ab_it (ac_cY κ kd d b p q x) 12 0 s) 0
  unfold ac_rests
  refine e.trans (ab_it_cg _ _ _ (fun i t _ _ => ?_))
  exact ac_ch_it (κ := κ) (b := b) (arm := 1) (who := q) n1 (fun y s => ac_cF κ kd d b p q (ac_cx κ p i) y s) t
theorem ac_cF_b {m : Int} (h : 0 ≤ s ∧ s ≤ m) (hm : m ≤ 1000) : 0 ≤ ac_cF κ kd d b p q x y s ∧ ac_cF κ kd d b p q x y s ≤ m + 1 := by
  unfold ac_cF
  split
  · rw [ab_w32_id (by omega) (by omega)]; omega
  · omega
theorem mq_rc_y (h : ac_MI σ M κ) (hb : ac_isB κ b) (hp : ac_isP κ p) (hq : ac_isP κ q) (hL : ac_LG σ κ kd d b p q 12 0) (hx : 0 ≤ x ∧ x < 12) : ∀ (n : Nat) (y s : Int), 0 ≤ y → y + n = 12 → 0 ≤ s ∧ s ≤ 12 * x + y → (ab_Run X 233 23 (7, 0, 0) [ab_R 355, ab_I b, ab_I p, ab_I q, ab_I (-1), ab_I s, ab_I x, ab_I y] [] σ Q ↔ ab_Run X 233 13 (7, 0, 0) [ab_R 355, ab_I b, ab_I p, ab_I q, ab_I (-1), ab_I (if ac_iC κ b 0 p x then ab_it (ac_cY κ kd d b p q x) n y s else s), ab_I (x + 1), ab_I 12] [] σ Q) := by
  have g := h.1
  intro n
  induction n with
  | zero =>
    intro y s hy hn hs
    obtain rfl : y = 12 := by omega
    rw [rX13_restAt_23, ab_it, ite_self]
    simp (disch := omega) only [rX13_restAt_25, rX13_restAt_27, rX13_restAt_102, rX13_restAt_105, ne_eq, not_false_eq_true, not_true_eq_false, true_and, and_true, and_self, true_imp_iff, false_imp_iff, imp_self, Bool.not_false, Bool.not_true, reduceCtorEq, ab_isJ, ab_psh, ab_cats, Bool.false_eq_true, if_true, if_false, ab_shf, ab_shw, Int.le_refl, Classical.not_not, Int.zero_add, forall_const, ↓ab_itT, ↓ab_itF, ab_anT, ab_w32_id, ab_rdf_ne, ab_rdw_ne, ab_rdw_eq, ab_rdf_in, ab_td2, ab_tm2]
  | succ n ih =>
    intro y s hy hn hs
    have c1 := fun Q' => mq_isChoice (X := X) (Q := Q') (x := x) h hb (Or.inl rfl) hp hx
    have c2 := fun Q' => mq_isChoice (X := X) (Q := Q') (x := y) h hb (Or.inr rfl) hq (by omega)
    rw [rX13_restAt_23]
    by_cases w1 : ac_iC κ b 0 p x
    · rw [if_pos w1] at c1
      by_cases w2 : ac_iC κ b 1 q y
      · rw [if_pos w2] at c2
        have c3 := fun Q' => mq_isRest (X := X) (Q := Q') h hb hp hq hL hx (show 0 ≤ y ∧ y < 12 by omega) w1 w2
        have e1 : ac_cY κ kd d b p q x y s = ac_cF κ kd d b p q x y s := if_pos w2
        have fb := ac_cF_b (κ := κ) (kd := kd) (d := d) (b := b) (p := p) (q := q) (x := x) (y := y) hs (by omega)
        have k := ih (y + 1) (ac_cF κ kd d b p q x y s) (by omega) (by omega) (by omega)
        rw [if_pos w1] at k ⊢
        rw [ab_it, e1, ← k]
        clear k
        by_cases w3 : ac_RX κ kd d b p q x y
        · have e2 : ac_cF κ kd d b p q x y s = ab_w32 (s + 1) := if_pos w3
          rw [if_pos w3] at c3
          rw [e2]
          clear ih fb w3 w1 w2 e1 e2
          simp (disch := omega) only [rX13_restAt_25, rX13_restAt_27, rX13_restAt_30, rX13_restAt_31, rX13_restAt_32, rX13_restAt_33, rX13_restAt_34, rX13_restAt_36, rX13_restAt_39, rX13_restAt_42, rX13_restAt_43, rX13_restAt_44, rX13_restAt_45, rX13_restAt_46, rX13_restAt_48, rX13_restAt_51, rX13_restAt_54, rX13_restAt_55, rX13_restAt_56, rX13_restAt_57, rX13_restAt_58, rX13_restAt_60, rX13_restAt_62, rX13_restAt_65, rX13_restAt_68, rX13_restAt_71, rX13_restAt_73, rX13_restAt_75, rX13_restAt_93, rX13_restAt_96, rX13_restAt_99, gS_355, g, c1, c2, c3, ne_eq, not_false_eq_true, not_true_eq_false, true_and, and_true, and_self, true_imp_iff, false_imp_iff, imp_self, Bool.not_false, Bool.not_true, reduceCtorEq, ab_isJ, ab_psh, ab_cats, Bool.false_eq_true, if_true, if_false, ab_shf, ab_shw, Int.le_refl, Classical.not_not, Int.zero_add, forall_const, ↓ab_itT, ↓ab_itF, ab_anT, ab_w32_id, ab_rdf_ne, ab_rdw_ne, ab_rdw_eq, ab_rdf_in, ab_td2, ab_tm2]
        · have e2 : ac_cF κ kd d b p q x y s = s := if_neg w3
          rw [if_neg w3] at c3
          rw [e2]
          clear ih fb w3 w1 w2 e1 e2
          simp (disch := omega) only [rX13_restAt_25, rX13_restAt_27, rX13_restAt_30, rX13_restAt_31, rX13_restAt_32, rX13_restAt_33, rX13_restAt_34, rX13_restAt_36, rX13_restAt_39, rX13_restAt_42, rX13_restAt_43, rX13_restAt_44, rX13_restAt_45, rX13_restAt_46, rX13_restAt_48, rX13_restAt_51, rX13_restAt_54, rX13_restAt_55, rX13_restAt_56, rX13_restAt_57, rX13_restAt_58, rX13_restAt_60, rX13_restAt_62, rX13_restAt_65, rX13_restAt_68, rX13_restAt_96, rX13_restAt_99, gS_355, g, c1, c2, c3, ne_eq, not_false_eq_true, not_true_eq_false, true_and, and_true, and_self, true_imp_iff, false_imp_iff, imp_self, Bool.not_false, Bool.not_true, reduceCtorEq, ab_isJ, ab_psh, ab_cats, Bool.false_eq_true, if_true, if_false, ab_shf, ab_shw, Int.le_refl, Classical.not_not, Int.zero_add, forall_const, ↓ab_itT, ↓ab_itF, ab_anT, ab_w32_id, ab_rdf_ne, ab_rdw_ne, ab_rdw_eq, ab_rdf_in, ab_td2, ab_tm2]
      · rw [if_neg w2] at c2
        have e1 : ac_cY κ kd d b p q x y s = s := if_neg w2
        have k := ih (y + 1) s (by omega) (by omega) (by omega)
        rw [if_pos w1] at k ⊢
        rw [ab_it, e1, ← k]
        clear ih w1 w2 e1 k
        simp (disch := omega) only [rX13_restAt_25, rX13_restAt_27, rX13_restAt_30, rX13_restAt_31, rX13_restAt_32, rX13_restAt_33, rX13_restAt_34, rX13_restAt_36, rX13_restAt_39, rX13_restAt_42, rX13_restAt_43, rX13_restAt_44, rX13_restAt_45, rX13_restAt_46, rX13_restAt_48, rX13_restAt_51, rX13_restAt_96, rX13_restAt_99, gS_355, g, c1, c2, ne_eq, not_false_eq_true, not_true_eq_false, true_and, and_true, and_self, true_imp_iff, false_imp_iff, imp_self, Bool.not_false, Bool.not_true, reduceCtorEq, ab_isJ, ab_psh, ab_cats, Bool.false_eq_true, if_true, if_false, ab_shf, ab_shw, Int.le_refl, Classical.not_not, Int.zero_add, forall_const, ↓ab_itT, ↓ab_itF, ab_anT, ab_w32_id, ab_rdf_ne, ab_rdw_ne, ab_rdw_eq, ab_rdf_in, ab_td2, ab_tm2]
    · rw [if_neg w1] at c1
      have := ih (y + 1) s (by omega) (by omega) (by omega)
      rw [if_neg w1] at this ⊢
      rw [← this]
      clear ih w1
      simp (disch := omega) only [rX13_restAt_25, rX13_restAt_27, rX13_restAt_30, rX13_restAt_31, rX13_restAt_32, rX13_restAt_33, rX13_restAt_34, rX13_restAt_36, rX13_restAt_39, rX13_restAt_96, rX13_restAt_99, gS_355, g, c1, ne_eq, not_false_eq_true, not_true_eq_false, true_and, and_true, and_self, true_imp_iff, false_imp_iff, imp_self, Bool.not_false, Bool.not_true, reduceCtorEq, ab_isJ, ab_psh, ab_cats, Bool.false_eq_true, if_true, if_false, ab_shf, ab_shw, Int.le_refl, Classical.not_not, Int.zero_add, forall_const, ↓ab_itT, ↓ab_itF, ab_anT, ab_w32_id, ab_rdf_ne, ab_rdw_ne, ab_rdw_eq, ab_rdf_in, ab_td2, ab_tm2]
theorem ac_cY_b : ∀ (n : Nat) (y s m : Int), 0 ≤ s ∧ s ≤ m → m + n ≤ 1000 → 0 ≤ ab_it (ac_cY κ kd d b p q x) n y s ∧ ab_it (ac_cY κ kd d b p q x) n y s ≤ m + n
  | 0, y, s, m, hs, hm => by rw [ab_it]; omega
  | n + 1, y, s, m, hs, hm => by
    have fb := ac_cF_b (κ := κ) (kd := kd) (d := d) (b := b) (p := p) (q := q) (x := x) (y := y) hs (by omega)
    have e : 0 ≤ ac_cY κ kd d b p q x y s ∧ ac_cY κ kd d b p q x y s ≤ m + 1 := by
      unfold ac_cY
      split
      · exact fb
      · omega
    have := ac_cY_b n (y + 1) _ (m + 1) e (by omega)
    rw [ab_it]
    omega
theorem mq_rc_x (h : ac_MI σ M κ) (hb : ac_isB κ b) (hp : ac_isP κ p) (hq : ac_isP κ q) (hL : ac_LG σ κ kd d b p q 12 0) : ∀ (n : Nat) (x s : Int) (l7 : ab_V), 0 ≤ x → x + n = 12 → 0 ≤ s ∧ s ≤ 12 * x → (ab_Run X 233 13 (7, 0, 0) [ab_R 355, ab_I b, ab_I p, ab_I q, ab_I (-1), ab_I s, ab_I x, l7] [] σ Q ↔ Q (some (ab_I (ab_it (ac_cX κ kd d b p q) n x s))) σ) := by
  intro n
  induction n with
  | zero =>
    intro x s l7 hx hn hs
    rw [rX13_restAt_13, ab_it]
    simp (disch := omega) only [rX13_restAt_15, rX13_restAt_17, rX13_restAt_108, rX13_restAt_110, rX13_restAt_111, rX13_restAt_114, rX13_restAt_116, rX13_restAt_119, rX13_restAt_121, ne_eq, not_false_eq_true, not_true_eq_false, true_and, and_true, and_self, true_imp_iff, false_imp_iff, imp_self, Bool.not_false, Bool.not_true, reduceCtorEq, ab_isJ, ab_psh, ab_cats, Bool.false_eq_true, if_true, if_false, ab_shf, ab_shw, Int.le_refl, Classical.not_not, Int.zero_add, forall_const, ↓ab_itT, ↓ab_itF, ab_anT, ab_w32_id, ab_rdf_ne, ab_rdw_ne, ab_rdw_eq, ab_rdf_in, ab_td2, ab_tm2]
  | succ n ih =>
    intro x s l7 hx hn hs
    have cb := ac_cY_b (κ := κ) (kd := kd) (d := d) (b := b) (p := p) (q := q) (x := x) 12 0 s (12 * x) hs (by omega)
    have e : 0 ≤ ac_cX κ kd d b p q x s ∧ ac_cX κ kd d b p q x s ≤ 12 * (x + 1) := by
      unfold ac_cX
      split <;> omega
    rw [rX13_restAt_13, ab_it, ← ih (x + 1) _ (ab_I 12) (by omega) (by omega) e]
    have := mq_rc_y (X := X) (Q := Q) (x := x) h hb hp hq hL (by omega) 12 0 s (by omega) (by omega) (by omega)
    unfold ac_cX
    rw [← this]
    simp (disch := omega) only [rX13_restAt_15, rX13_restAt_17, rX13_restAt_20, rX13_restAt_21, ne_eq, not_false_eq_true, not_true_eq_false, true_and, and_true, and_self, true_imp_iff, false_imp_iff, imp_self, Bool.not_false, Bool.not_true, reduceCtorEq, ab_isJ, ab_psh, ab_cats, Bool.false_eq_true, if_true, if_false, ab_shf, ab_shw, Int.le_refl, Classical.not_not, Int.zero_add, forall_const, ↓ab_itT, ↓ab_itF, ab_anT, ab_w32_id, ab_rdf_ne, ab_rdw_ne, ab_rdw_eq, ab_rdf_in, ab_td2, ab_tm2]
def ac_gF (κ : ac_K) (kd d b p q x y s : Int) : Int := if s = -2 ∧ ac_RX κ kd d b p q x y then 100 * ac_td x + ac_td y else s
def ac_gY (κ : ac_K) (kd d b p q x : Int) : Int → Int → Int := fun y s => if ac_iC κ b 1 q y then ac_gF κ kd d b p q x y s else s
def ac_gX (κ : ac_K) (kd d b p q : Int) : Int → Int → Int := fun x s => if ac_iC κ b 0 p x then ab_it (ac_gY κ kd d b p q x) 12 0 s else s
theorem ac_frest_eq (hk : ac_KK κ) (hb : ac_isB κ b) : ab_it (ac_gX κ kd d b p q) 12 0 (-2) = ac_frest κ kd d b p q := by
  have n0 := ac_n_b hk hb (Or.inl rfl)
  have n1 := ac_n_b hk hb (Or.inr rfl)
  have e := ac_ch_it (κ := κ) (b := b) (arm := 0) (who := p) n0 (fun x s => ab_it (ac_gY κ kd d b p q x) 12 0 s) (-2)
  unfold ac_frest
  refine e.trans (ab_it_cg _ _ _ (fun i t _ _ => ?_))
  exact ac_ch_it (κ := κ) (b := b) (arm := 1) (who := q) n1 (fun y s => ac_gF κ kd d b p q (ac_cx κ p i) y s) t
theorem ac_gY_st : ∀ (n : Nat) (y s : Int), s ≠ -2 → ab_it (ac_gY κ kd d b p q x) n y s = s
  | 0, _, _, _ => rfl
  | n + 1, y, s, hs => by
    rw [ab_it]
    have e : ac_gY κ kd d b p q x y s = s := by
      unfold ac_gY ac_gF
      split
      · exact if_neg (fun u => hs u.1)
      · rfl
    rw [e]
    exact ac_gY_st n (y + 1) s hs
theorem ac_gX_st : ∀ (n : Nat) (x s : Int), s ≠ -2 → ab_it (ac_gX κ kd d b p q) n x s = s
  | 0, _, _, _ => rfl
  | n + 1, x, s, hs => by
    rw [ab_it]
    have e : ac_gX κ kd d b p q x s = s := by
      unfold ac_gX
      split
      · exact ac_gY_st _ _ _ hs
      · rfl
    rw [e]
    exact ac_gX_st n (x + 1) s hs
theorem mq_rf_y (h : ac_MI σ M κ) (hb : ac_isB κ b) (hp : ac_isP κ p) (hq : ac_isP κ q) (hL : ac_LG σ κ kd d b p q 12 0) (hx : 0 ≤ x ∧ x < 12) : ∀ (n : Nat) (y : Int), 0 ≤ y → y + n = 12 → (∀ r, (if ac_iC κ b 0 p x then ab_it (ac_gY κ kd d b p q x) n y (-2) else -2) = r → r ≠ -2 → Q (some (ab_I r)) σ) → ((if ac_iC κ b 0 p x then ab_it (ac_gY κ kd d b p q x) n y (-2) else -2) = -2 → ab_Run X 233 13 (7, 0, 0) [ab_R 355, ab_I b, ab_I p, ab_I q, ab_I 0, ab_I 0, ab_I (x + 1), ab_I 12] [] σ Q) → ab_Run X 233 23 (7, 0, 0) [ab_R 355, ab_I b, ab_I p, ab_I q, ab_I 0, ab_I 0, ab_I x, ab_I y] [] σ Q := by
  have g := h.1
  intro n
  induction n with
  | zero =>
    intro y hy hn h1 h2
    obtain rfl : y = 12 := by omega
    rw [ab_it, ite_self] at h2
    have := h2 rfl
    rw [rX13_restAt_23]
    simp (disch := omega) only [rX13_restAt_25, rX13_restAt_27, rX13_restAt_102, rX13_restAt_105, ne_eq, not_false_eq_true, not_true_eq_false, true_and, and_true, and_self, true_imp_iff, false_imp_iff, imp_self, Bool.not_false, Bool.not_true, reduceCtorEq, ab_isJ, ab_psh, ab_cats, Bool.false_eq_true, if_true, if_false, ab_shf, ab_shw, Int.le_refl, Classical.not_not, Int.zero_add, forall_const, ↓ab_itT, ↓ab_itF, ab_anT, ab_w32_id, ab_rdf_ne, ab_rdw_ne, ab_rdw_eq, ab_rdf_in, ab_td2, ab_tm2]
    all_goals exact this
  | succ n ih =>
    intro y hy hn h1 h2
    have c1 := fun Q' => mq_isChoice (X := X) (Q := Q') (x := x) h hb (Or.inl rfl) hp hx
    have c2 := fun Q' => mq_isChoice (X := X) (Q := Q') (x := y) h hb (Or.inr rfl) hq (by omega)
    rw [rX13_restAt_23]
    by_cases w1 : ac_iC κ b 0 p x
    · rw [if_pos w1] at c1
      rw [if_pos w1, ab_it] at h1 h2
      by_cases w2 : ac_iC κ b 1 q y
      · rw [if_pos w2] at c2
        have c3 := fun Q' => mq_isRest (X := X) (Q := Q') h hb hp hq hL hx (show 0 ≤ y ∧ y < 12 by omega) w1 w2
        have e1 : ac_gY κ kd d b p q x y (-2) = ac_gF κ kd d b p q x y (-2) := if_pos w2
        rw [e1] at h1 h2
        by_cases w3 : ac_RX κ kd d b p q x y
        · have e2 : ac_gF κ kd d b p q x y (-2) = 100 * ac_td x + ac_td y := if_pos ⟨rfl, w3⟩
          rw [if_pos w3] at c3
          have t1 : 10 ≤ ac_td x ∧ ac_td x ≤ 70 := by unfold ac_td; omega
          have t2 : 10 ≤ ac_td y ∧ ac_td y ≤ 70 := by unfold ac_td; omega
          rw [e2, ac_gY_st _ _ _ (by omega)] at h1
          have key := h1 _ rfl (by omega)
          have c4 := fun Q' => mq_told (X := X) (σ := σ) (Q := Q') (x := x) hx
          have c5 := fun Q' => mq_told (X := X) (σ := σ) (Q := Q') (x := y) (by omega)
          clear ih h1 h2 w3 w1 w2 e1 e2
          simp (disch := omega) only [rX13_restAt_25, rX13_restAt_27, rX13_restAt_30, rX13_restAt_31, rX13_restAt_32, rX13_restAt_33, rX13_restAt_34, rX13_restAt_36, rX13_restAt_39, rX13_restAt_42, rX13_restAt_43, rX13_restAt_44, rX13_restAt_45, rX13_restAt_46, rX13_restAt_48, rX13_restAt_51, rX13_restAt_54, rX13_restAt_55, rX13_restAt_56, rX13_restAt_57, rX13_restAt_58, rX13_restAt_60, rX13_restAt_62, rX13_restAt_65, rX13_restAt_68, rX13_restAt_71, rX13_restAt_73, rX13_restAt_75, rX13_restAt_78, rX13_restAt_80, rX13_restAt_82, rX13_restAt_85, rX13_restAt_86, rX13_restAt_88, rX13_restAt_91, rX13_restAt_92, gS_355, g, c1, c2, c3, c4, c5, ne_eq, not_false_eq_true, not_true_eq_false, true_and, and_true, and_self, true_imp_iff, false_imp_iff, imp_self, Bool.not_false, Bool.not_true, reduceCtorEq, ab_isJ, ab_psh, ab_cats, Bool.false_eq_true, if_true, if_false, ab_shf, ab_shw, Int.le_refl, Classical.not_not, Int.zero_add, forall_const, ↓ab_itT, ↓ab_itF, ab_anT, ab_w32_id, ab_rdf_ne, ab_rdw_ne, ab_rdw_eq, ab_rdf_in, ab_td2, ab_tm2]
          all_goals exact key
        · have e2 : ac_gF κ kd d b p q x y (-2) = -2 := if_neg (fun u => w3 u.2)
          rw [if_neg w3] at c3
          rw [e2] at h1 h2
          have key := ih (y + 1) (by omega) (by omega) (by rw [if_pos w1]; exact h1) (by rw [if_pos w1]; exact h2)
          clear ih h1 h2 w3 w1 w2 e1 e2
          simp (disch := omega) only [rX13_restAt_25, rX13_restAt_27, rX13_restAt_30, rX13_restAt_31, rX13_restAt_32, rX13_restAt_33, rX13_restAt_34, rX13_restAt_36, rX13_restAt_39, rX13_restAt_42, rX13_restAt_43, rX13_restAt_44, rX13_restAt_45, rX13_restAt_46, rX13_restAt_48, rX13_restAt_51, rX13_restAt_54, rX13_restAt_55, rX13_restAt_56, rX13_restAt_57, rX13_restAt_58, rX13_restAt_60, rX13_restAt_62, rX13_restAt_65, rX13_restAt_68, rX13_restAt_96, rX13_restAt_99, gS_355, g, c1, c2, c3, ne_eq, not_false_eq_true, not_true_eq_false, true_and, and_true, and_self, true_imp_iff, false_imp_iff, imp_self, Bool.not_false, Bool.not_true, reduceCtorEq, ab_isJ, ab_psh, ab_cats, Bool.false_eq_true, if_true, if_false, ab_shf, ab_shw, Int.le_refl, Classical.not_not, Int.zero_add, forall_const, ↓ab_itT, ↓ab_itF, ab_anT, ab_w32_id, ab_rdf_ne, ab_rdw_ne, ab_rdw_eq, ab_rdf_in, ab_td2, ab_tm2]
          all_goals exact key
      · rw [if_neg w2] at c2
        have e1 : ac_gY κ kd d b p q x y (-2) = -2 := if_neg w2
        rw [e1] at h1 h2
        have key := ih (y + 1) (by omega) (by omega) (by rw [if_pos w1]; exact h1) (by rw [if_pos w1]; exact h2)
        clear ih h1 h2 w1 w2 e1
        simp (disch := omega) only [rX13_restAt_25, rX13_restAt_27, rX13_restAt_30, rX13_restAt_31, rX13_restAt_32, rX13_restAt_33, rX13_restAt_34, rX13_restAt_36, rX13_restAt_39, rX13_restAt_42, rX13_restAt_43, rX13_restAt_44, rX13_restAt_45, rX13_restAt_46, rX13_restAt_48, rX13_restAt_51, rX13_restAt_96, rX13_restAt_99, gS_355, g, c1, c2, ne_eq, not_false_eq_true, not_true_eq_false, true_and, and_true, and_self, true_imp_iff, false_imp_iff, imp_self, Bool.not_false, Bool.not_true, reduceCtorEq, ab_isJ, ab_psh, ab_cats, Bool.false_eq_true, if_true, if_false, ab_shf, ab_shw, Int.le_refl, Classical.not_not, Int.zero_add, forall_const, ↓ab_itT, ↓ab_itF, ab_anT, ab_w32_id, ab_rdf_ne, ab_rdw_ne, ab_rdw_eq, ab_rdf_in, ab_td2, ab_tm2]
        all_goals exact key
    · rw [if_neg w1] at c1 h1 h2
      have key := ih (y + 1) (by omega) (by omega) (by rw [if_neg w1]; exact h1) (by rw [if_neg w1]; exact h2)
      clear ih h1 h2 w1
      simp (disch := omega) only [rX13_restAt_25, rX13_restAt_27, rX13_restAt_30, rX13_restAt_31, rX13_restAt_32, rX13_restAt_33, rX13_restAt_34, rX13_restAt_36, rX13_restAt_39, rX13_restAt_96, rX13_restAt_99, gS_355, g, c1, ne_eq, not_false_eq_true, not_true_eq_false, true_and, and_true, and_self, true_imp_iff, false_imp_iff, imp_self, Bool.not_false, Bool.not_true, reduceCtorEq, ab_isJ, ab_psh, ab_cats, Bool.false_eq_true, if_true, if_false, ab_shf, ab_shw, Int.le_refl, Classical.not_not, Int.zero_add, forall_const, ↓ab_itT, ↓ab_itF, ab_anT, ab_w32_id, ab_rdf_ne, ab_rdw_ne, ab_rdw_eq, ab_rdf_in, ab_td2, ab_tm2]
      all_goals exact key
theorem mq_rf_x (h : ac_MI σ M κ) (hb : ac_isB κ b) (hp : ac_isP κ p) (hq : ac_isP κ q) (hL : ac_LG σ κ kd d b p q 12 0) : ∀ (n : Nat) (x : Int) (l7 : ab_V), 0 ≤ x → x + n = 12 → Q (some (ab_I (ab_it (ac_gX κ kd d b p q) n x (-2)))) σ → ab_Run X 233 13 (7, 0, 0) [ab_R 355, ab_I b, ab_I p, ab_I q, ab_I 0, ab_I 0, ab_I x, l7] [] σ Q := by
  intro n
  induction n with
  | zero =>
    intro x l7 hx hn h1
    rw [ab_it] at h1
    rw [rX13_restAt_13]
    simp (disch := omega) only [rX13_restAt_15, rX13_restAt_17, rX13_restAt_108, rX13_restAt_110, rX13_restAt_111, rX13_restAt_114, rX13_restAt_116, rX13_restAt_119, rX13_restAt_121, ne_eq, not_false_eq_true, not_true_eq_false, true_and, and_true, and_self, true_imp_iff, false_imp_iff, imp_self, Bool.not_false, Bool.not_true, reduceCtorEq, ab_isJ, ab_psh, ab_cats, Bool.false_eq_true, if_true, if_false, ab_shf, ab_shw, Int.le_refl, Classical.not_not, Int.zero_add, forall_const, ↓ab_itT, ↓ab_itF, ab_anT, ab_w32_id, ab_rdf_ne, ab_rdw_ne, ab_rdw_eq, ab_rdf_in, ab_td2, ab_tm2]
    all_goals exact h1
  | succ n ih =>
    intro x l7 hx hn h1
    rw [ab_it] at h1
    have key := mq_rf_y (X := X) (Q := Q) (x := x) h hb hp hq hL (by omega) 12 0 (by omega) (by omega) (fun r hr hne => by
      have e : ac_gX κ kd d b p q x (-2) = r := hr
      rw [e, ac_gX_st _ _ _ hne] at h1
      exact h1) (fun hr => ih (x + 1) (ab_I 12) (by omega) (by omega) (by
      have e : ac_gX κ kd d b p q x (-2) = -2 := hr
      rw [e] at h1
      exact h1))
    rw [rX13_restAt_13]
    simp (disch := omega) only [rX13_restAt_15, rX13_restAt_17, rX13_restAt_20, rX13_restAt_21, ne_eq, not_false_eq_true, not_true_eq_false, true_and, and_true, and_self, true_imp_iff, false_imp_iff, imp_self, Bool.not_false, Bool.not_true, reduceCtorEq, ab_isJ, ab_psh, ab_cats, Bool.false_eq_true, if_true, if_false, ab_shf, ab_shw, Int.le_refl, Classical.not_not, Int.zero_add, forall_const, ↓ab_itT, ↓ab_itF, ab_anT, ab_w32_id, ab_rdf_ne, ab_rdw_ne, ab_rdw_eq, ab_rdf_in, ab_td2, ab_tm2]
    all_goals exact key
theorem mq_rests (h : ac_MN σ κ) (hv : ac_MV σ κ v) (hQ : ∀ τ, ab_Same ac_PM σ τ → ab_rd τ 355 1 = ac_pT κ b p q → ab_rd τ 355 2 = -1 → Q (some (ab_I (if ac_pT κ b p q = 0 then ac_rests κ (v b) (v (5 + b)) b p q else -1))) τ) : ab_Do X 234 [ab_R 355, ab_I b, ab_I p, ab_I q] σ Q := by
  have h' := h.same ac_mq0
  have g0 := h.1
  have g := h'.1
  have c1 := fun b Q' => mq_isBone (X := X) (Q := Q') (b := b) h'
  have c2 := fun p q Q' => mq_isPair (X := X) (Q := Q') (p := p) (q := q) h'
  have c1p := fun b Q' => mq_isPerson (X := X) (Q := Q') (b := b) h'
  have cl := fun b arm k Q' => mq_isPlace (X := X) (Q := Q') (b := b) (arm := arm) (k := k) h'
  have cin := fun x lo hi Q' => mq_in (X := X) (σ := ab_wr σ 355 0 0) (Q := Q') (x := x) (lo := lo) (hi := hi)
  have cr := fun v Q' => sp_refused (X := X) (Q := Q') (v := v) g
  have c0 := fun b hp hq mv Q' => mq_rp0 (X := X) (σ := ab_wr σ 355 0 0) (Q := Q') (b := b) (hp := hp) (hq := hq) (mv := mv)
  by_cases h1 : ac_isB κ b
  · by_cases h1u : ac_isU κ p q
    · have eP : ac_pT κ b p q = 0 := if_pos ⟨h1, h1u⟩
      obtain ⟨M, hm⟩ := h.mb h1
      rw [eP, if_pos rfl] at hQ
      have key : ab_Do X 233 [ab_R 355, ab_I b, ab_I p, ab_I q, ab_I (-1)] (ab_wr σ 355 0 0) (fun r σ' => ab_Run X 234 31 (8, 0, 0) [ab_R 355, ab_I b, ab_I p, ab_I q] (ab_psh r [ab_R 355]) σ' Q) := by
        simp (disch := omega) only [do_X13_restAt, rX13_restAt_0, rX13_restAt_1, rX13_restAt_2, rX13_restAt_3, rX13_restAt_4, gS_355, g0, ne_eq, not_false_eq_true, not_true_eq_false, true_and, and_true, and_self, true_imp_iff, false_imp_iff, imp_self, Bool.not_false, Bool.not_true, reduceCtorEq, ab_isJ, ab_psh, ab_cats, Bool.false_eq_true, if_true, if_false, ab_shf, ab_shw, Int.le_refl, Classical.not_not, Int.zero_add, forall_const, ↓ab_itT, ↓ab_itF, ab_anT, ab_w32_id, ab_rdf_ne, ab_rdw_ne, ab_rdw_eq, ab_rdf_in, ab_td2, ab_tm2]
        refine mq_laysGame (hm.same ac_mq0) (hv.same ac_mq0) h1 h1u.1 h1u.2.1 (fun τ hs hL => ?_)
        have sT := ac_mq0.trans hs
        have hI := hm.same sT
        have gT := hI.1
        have c6 := fun x Q' => sp_good (X := X) (Q := Q') (v := x) gT
        have L := mq_rc_x (X := X) (Q := fun r σ' => ab_Run X 234 31 (8, 0, 0) [ab_R 355, ab_I b, ab_I p, ab_I q] (ab_psh r [ab_R 355]) σ' Q) hI h1 h1u.1 h1u.2.1 hL 12 0 0 (ab_R 0) (by omega) (by omega) (by omega)
        rw [ac_rests_eq hm.2.2.2.2 h1] at L
        have k2 := hQ _ (ac_end1 sT).1 (ac_end1 sT).2.1 (ac_end1 sT).2.2
        have k3 : ab_Run X 234 31 (8, 0, 0) [ab_R 355, ab_I b, ab_I p, ab_I q] (ab_psh (some (ab_I (ac_rests κ (v b) (v (5 + b)) b p q))) [ab_R 355]) τ Q := by
          simp (disch := omega) only [rX13_rests_31, rX13_rests_34, rX13_rests_37, rX13_rests_38, rX13_rests_39, rX13_rests_42, gS_355, gT, c6, ne_eq, not_false_eq_true, not_true_eq_false, true_and, and_true, and_self, true_imp_iff, false_imp_iff, imp_self, Bool.not_false, Bool.not_true, reduceCtorEq, ab_isJ, ab_psh, ab_cats, Bool.false_eq_true, if_true, if_false, ab_shf, ab_shw, Int.le_refl, Classical.not_not, Int.zero_add, forall_const, ↓ab_itT, ↓ab_itF, ab_anT, ab_w32_id, ab_rdf_ne, ab_rdw_ne, ab_rdw_eq, ab_rdf_in, ab_td2, ab_tm2]
          exact k2
        have k4 := L.mpr k3
        simp (disch := omega) only [rX13_restAt_7, rX13_restAt_8, rX13_restAt_10, rX13_restAt_11, ne_eq, not_false_eq_true, not_true_eq_false, true_and, and_true, and_self, true_imp_iff, false_imp_iff, imp_self, Bool.not_false, Bool.not_true, reduceCtorEq, ab_isJ, ab_psh, ab_cats, Bool.false_eq_true, if_true, if_false, ab_shf, ab_shw, Int.le_refl, Classical.not_not, Int.zero_add, forall_const, ↓ab_itT, ↓ab_itF, ab_anT, ab_w32_id, ab_rdf_ne, ab_rdw_ne, ab_rdw_eq, ab_rdf_in, ab_td2, ab_tm2]
        exact k4
      simp (disch := omega) only [do_X13_rests, rX13_rests_0, rX13_rests_1, rX13_rests_2, rX13_rests_5, rX13_rests_6, rX13_rests_7, rX13_rests_10, rX13_rests_13, rX13_rests_14, rX13_rests_15, rX13_rests_16, rX13_rests_19, rX13_rests_22, rX13_rests_23, rX13_rests_24, rX13_rests_25, rX13_rests_26, rX13_rests_27, rX13_rests_28, gS_355, g0, c1, c2, if_pos h1, if_pos h1u, ne_eq, not_false_eq_true, not_true_eq_false, true_and, and_true, and_self, true_imp_iff, false_imp_iff, imp_self, Bool.not_false, Bool.not_true, reduceCtorEq, ab_isJ, ab_psh, ab_cats, Bool.false_eq_true, if_true, if_false, ab_shf, ab_shw, Int.le_refl, Classical.not_not, Int.zero_add, forall_const, ↓ab_itT, ↓ab_itF, ab_anT, ab_w32_id, ab_rdf_ne, ab_rdw_ne, ab_rdw_eq, ab_rdf_in, ab_td2, ab_tm2]
      exact key
    · have eT : ac_pT κ b p q = 1 := by (unfold ac_pT; rw [if_neg (fun w => h1u w.2)])
      rw [eT, if_neg (by decide)] at hQ
      simp (disch := omega) only [do_X13_rests, rX13_rests_0, rX13_rests_1, rX13_rests_2, rX13_rests_5, rX13_rests_6, rX13_rests_7, rX13_rests_10, rX13_rests_13, rX13_rests_14, rX13_rests_15, rX13_rests_16, rX13_rests_19, rX13_rests_22, rX13_rests_23, rX13_rests_24, rX13_rests_25, rX13_rests_26, rX13_rests_27, rX13_rests_28, rX13_rests_31, rX13_rests_34, rX13_rests_37, rX13_rests_38, rX13_rests_39, rX13_rests_42, gS_355, g0, c1, c2, cl, cin, c0, cr, if_pos h1, if_neg h1u, ne_eq, not_false_eq_true, not_true_eq_false, true_and, and_true, and_self, true_imp_iff, false_imp_iff, imp_self, Bool.not_false, Bool.not_true, reduceCtorEq, ab_isJ, ab_psh, ab_cats, Bool.false_eq_true, if_true, if_false, ab_shf, ab_shw, Int.le_refl, Classical.not_not, Int.zero_add, forall_const, ↓ab_itT, ↓ab_itF, ab_anT, ab_w32_id, ab_rdf_ne, ab_rdw_ne, ab_rdw_eq, ab_rdf_in, ab_td2, ab_tm2, ab_ifF]
      exact hQ _ (ac_end1 ac_mq0).1 (ac_end1 ac_mq0).2.1 (ac_end1 ac_mq0).2.2
  · have eT : ac_pT κ b p q = 1 := by (unfold ac_pT; rw [if_neg (fun w => h1 w.1)])
    rw [eT, if_neg (by decide)] at hQ
    simp (disch := omega) only [do_X13_rests, rX13_rests_0, rX13_rests_1, rX13_rests_2, rX13_rests_5, rX13_rests_6, rX13_rests_7, rX13_rests_10, rX13_rests_13, rX13_rests_14, rX13_rests_15, rX13_rests_16, rX13_rests_19, rX13_rests_22, rX13_rests_23, rX13_rests_24, rX13_rests_25, rX13_rests_26, rX13_rests_27, rX13_rests_28, rX13_rests_31, rX13_rests_34, rX13_rests_37, rX13_rests_38, rX13_rests_39, rX13_rests_42, gS_355, g0, c1, c2, cl, cin, c0, cr, if_neg h1, ne_eq, not_false_eq_true, not_true_eq_false, true_and, and_true, and_self, true_imp_iff, false_imp_iff, imp_self, Bool.not_false, Bool.not_true, reduceCtorEq, ab_isJ, ab_psh, ab_cats, Bool.false_eq_true, if_true, if_false, ab_shf, ab_shw, Int.le_refl, Classical.not_not, Int.zero_add, forall_const, ↓ab_itT, ↓ab_itF, ab_anT, ab_w32_id, ab_rdf_ne, ab_rdw_ne, ab_rdw_eq, ab_rdf_in, ab_td2, ab_tm2, ab_ifF]
    exact hQ _ (ac_end1 ac_mq0).1 (ac_end1 ac_mq0).2.1 (ac_end1 ac_mq0).2.2
theorem mq_rest (h : ac_MN σ κ) (hv : ac_MV σ κ v) (hQ : ∀ τ, ab_Same ac_PM σ τ → ab_rd τ 355 1 = ac_pT κ b p q → ab_rd τ 355 2 = -1 → Q (some (ab_I (if ac_pT κ b p q = 0 then ac_frest κ (v b) (v (5 + b)) b p q else -1))) τ) : ab_Do X 235 [ab_R 355, ab_I b, ab_I p, ab_I q] σ Q := by
  have h' := h.same ac_mq0
  have g0 := h.1
  have g := h'.1
  have c1 := fun b Q' => mq_isBone (X := X) (Q := Q') (b := b) h'
  have c2 := fun p q Q' => mq_isPair (X := X) (Q := Q') (p := p) (q := q) h'
  have c1p := fun b Q' => mq_isPerson (X := X) (Q := Q') (b := b) h'
  have cl := fun b arm k Q' => mq_isPlace (X := X) (Q := Q') (b := b) (arm := arm) (k := k) h'
  have cin := fun x lo hi Q' => mq_in (X := X) (σ := ab_wr σ 355 0 0) (Q := Q') (x := x) (lo := lo) (hi := hi)
  have cr := fun v Q' => sp_refused (X := X) (Q := Q') (v := v) g
  have c0 := fun b hp hq mv Q' => mq_rp0 (X := X) (σ := ab_wr σ 355 0 0) (Q := Q') (b := b) (hp := hp) (hq := hq) (mv := mv)
  by_cases h1 : ac_isB κ b
  · by_cases h1u : ac_isU κ p q
    · have eP : ac_pT κ b p q = 0 := if_pos ⟨h1, h1u⟩
      obtain ⟨M, hm⟩ := h.mb h1
      rw [eP, if_pos rfl] at hQ
      have key : ab_Do X 233 [ab_R 355, ab_I b, ab_I p, ab_I q, ab_I 0] (ab_wr σ 355 0 0) (fun r σ' => ab_Run X 235 31 (8, 0, 0) [ab_R 355, ab_I b, ab_I p, ab_I q] (ab_psh r [ab_R 355]) σ' Q) := by
        simp (disch := omega) only [do_X13_restAt, rX13_restAt_0, rX13_restAt_1, rX13_restAt_2, rX13_restAt_3, rX13_restAt_4, gS_355, g0, ne_eq, not_false_eq_true, not_true_eq_false, true_and, and_true, and_self, true_imp_iff, false_imp_iff, imp_self, Bool.not_false, Bool.not_true, reduceCtorEq, ab_isJ, ab_psh, ab_cats, Bool.false_eq_true, if_true, if_false, ab_shf, ab_shw, Int.le_refl, Classical.not_not, Int.zero_add, forall_const, ↓ab_itT, ↓ab_itF, ab_anT, ab_w32_id, ab_rdf_ne, ab_rdw_ne, ab_rdw_eq, ab_rdf_in, ab_td2, ab_tm2]
        refine mq_laysGame (hm.same ac_mq0) (hv.same ac_mq0) h1 h1u.1 h1u.2.1 (fun τ hs hL => ?_)
        have sT := ac_mq0.trans hs
        have hI := hm.same sT
        have gT := hI.1
        have c6 := fun x Q' => sp_good (X := X) (Q := Q') (v := x) gT
        have k2 := hQ _ (ac_end1 sT).1 (ac_end1 sT).2.1 (ac_end1 sT).2.2
        have k3 : ab_Run X 235 31 (8, 0, 0) [ab_R 355, ab_I b, ab_I p, ab_I q] (ab_psh (some (ab_I (ac_frest κ (v b) (v (5 + b)) b p q))) [ab_R 355]) τ Q := by
          simp (disch := omega) only [rX13_rest_31, rX13_rest_34, rX13_rest_37, rX13_rest_38, rX13_rest_39, rX13_rest_42, gS_355, gT, c6, ne_eq, not_false_eq_true, not_true_eq_false, true_and, and_true, and_self, true_imp_iff, false_imp_iff, imp_self, Bool.not_false, Bool.not_true, reduceCtorEq, ab_isJ, ab_psh, ab_cats, Bool.false_eq_true, if_true, if_false, ab_shf, ab_shw, Int.le_refl, Classical.not_not, Int.zero_add, forall_const, ↓ab_itT, ↓ab_itF, ab_anT, ab_w32_id, ab_rdf_ne, ab_rdw_ne, ab_rdw_eq, ab_rdf_in, ab_td2, ab_tm2]
          exact k2
        rw [← ac_frest_eq hm.2.2.2.2 h1] at k3
        have k4 := mq_rf_x (X := X) (Q := fun r σ' => ab_Run X 235 31 (8, 0, 0) [ab_R 355, ab_I b, ab_I p, ab_I q] (ab_psh r [ab_R 355]) σ' Q) hI h1 h1u.1 h1u.2.1 hL 12 0 (ab_R 0) (by omega) (by omega) k3
        simp (disch := omega) only [rX13_restAt_7, rX13_restAt_8, rX13_restAt_10, rX13_restAt_11, ne_eq, not_false_eq_true, not_true_eq_false, true_and, and_true, and_self, true_imp_iff, false_imp_iff, imp_self, Bool.not_false, Bool.not_true, reduceCtorEq, ab_isJ, ab_psh, ab_cats, Bool.false_eq_true, if_true, if_false, ab_shf, ab_shw, Int.le_refl, Classical.not_not, Int.zero_add, forall_const, ↓ab_itT, ↓ab_itF, ab_anT, ab_w32_id, ab_rdf_ne, ab_rdw_ne, ab_rdw_eq, ab_rdf_in, ab_td2, ab_tm2]
        exact k4
      simp (disch := omega) only [do_X13_rest, rX13_rest_0, rX13_rest_1, rX13_rest_2, rX13_rest_5, rX13_rest_6, rX13_rest_7, rX13_rest_10, rX13_rest_13, rX13_rest_14, rX13_rest_15, rX13_rest_16, rX13_rest_19, rX13_rest_22, rX13_rest_23, rX13_rest_24, rX13_rest_25, rX13_rest_26, rX13_rest_27, rX13_rest_28, gS_355, g0, c1, c2, if_pos h1, if_pos h1u, ne_eq, not_false_eq_true, not_true_eq_false, true_and, and_true, and_self, true_imp_iff, false_imp_iff, imp_self, Bool.not_false, Bool.not_true, reduceCtorEq, ab_isJ, ab_psh, ab_cats, Bool.false_eq_true, if_true, if_false, ab_shf, ab_shw, Int.le_refl, Classical.not_not, Int.zero_add, forall_const, ↓ab_itT, ↓ab_itF, ab_anT, ab_w32_id, ab_rdf_ne, ab_rdw_ne, ab_rdw_eq, ab_rdf_in, ab_td2, ab_tm2]
      exact key
    · have eT : ac_pT κ b p q = 1 := by (unfold ac_pT; rw [if_neg (fun w => h1u w.2)])
      rw [eT, if_neg (by decide)] at hQ
      simp (disch := omega) only [do_X13_rest, rX13_rest_0, rX13_rest_1, rX13_rest_2, rX13_rest_5, rX13_rest_6, rX13_rest_7, rX13_rest_10, rX13_rest_13, rX13_rest_14, rX13_rest_15, rX13_rest_16, rX13_rest_19, rX13_rest_22, rX13_rest_23, rX13_rest_24, rX13_rest_25, rX13_rest_26, rX13_rest_27, rX13_rest_28, rX13_rest_31, rX13_rest_34, rX13_rest_37, rX13_rest_38, rX13_rest_39, rX13_rest_42, gS_355, g0, c1, c2, cl, cin, c0, cr, if_pos h1, if_neg h1u, ne_eq, not_false_eq_true, not_true_eq_false, true_and, and_true, and_self, true_imp_iff, false_imp_iff, imp_self, Bool.not_false, Bool.not_true, reduceCtorEq, ab_isJ, ab_psh, ab_cats, Bool.false_eq_true, if_true, if_false, ab_shf, ab_shw, Int.le_refl, Classical.not_not, Int.zero_add, forall_const, ↓ab_itT, ↓ab_itF, ab_anT, ab_w32_id, ab_rdf_ne, ab_rdw_ne, ab_rdw_eq, ab_rdf_in, ab_td2, ab_tm2, ab_ifF]
      exact hQ _ (ac_end1 ac_mq0).1 (ac_end1 ac_mq0).2.1 (ac_end1 ac_mq0).2.2
  · have eT : ac_pT κ b p q = 1 := by (unfold ac_pT; rw [if_neg (fun w => h1 w.1)])
    rw [eT, if_neg (by decide)] at hQ
    simp (disch := omega) only [do_X13_rest, rX13_rest_0, rX13_rest_1, rX13_rest_2, rX13_rest_5, rX13_rest_6, rX13_rest_7, rX13_rest_10, rX13_rest_13, rX13_rest_14, rX13_rest_15, rX13_rest_16, rX13_rest_19, rX13_rest_22, rX13_rest_23, rX13_rest_24, rX13_rest_25, rX13_rest_26, rX13_rest_27, rX13_rest_28, rX13_rest_31, rX13_rest_34, rX13_rest_37, rX13_rest_38, rX13_rest_39, rX13_rest_42, gS_355, g0, c1, c2, cl, cin, c0, cr, if_neg h1, ne_eq, not_false_eq_true, not_true_eq_false, true_and, and_true, and_self, true_imp_iff, false_imp_iff, imp_self, Bool.not_false, Bool.not_true, reduceCtorEq, ab_isJ, ab_psh, ab_cats, Bool.false_eq_true, if_true, if_false, ab_shf, ab_shw, Int.le_refl, Classical.not_not, Int.zero_add, forall_const, ↓ab_itT, ↓ab_itF, ab_anT, ab_w32_id, ab_rdf_ne, ab_rdw_ne, ab_rdw_eq, ab_rdf_in, ab_td2, ab_tm2, ab_ifF]
    exact hQ _ (ac_end1 ac_mq0).1 (ac_end1 ac_mq0).2.1 (ac_end1 ac_mq0).2.2
end
