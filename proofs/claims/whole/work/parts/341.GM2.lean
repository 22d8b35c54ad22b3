section
variable {X : ab_X} {σ τ υ : ab_S} {Q : Option ab_V → ab_S → Prop} {K : Int} {κ : ac_K} {v : Int → Int} {kd d b p hp q hq mv i as s n arr A0 cc arm who c h m : Int} {P : Int → Int → Prop}
/-- choices that are laid -/
def ac_Ch (τ : ab_S) (κ : ac_K) (d b arm who p q A0 cc c : Int) : Prop := ∀ i, 0 ≤ i → i < c → ac_Rows τ (A0 + 12 * i) (ac_n κ b arm) (ac_N κ p q (ac_cx κ who i / 2 + 1) who (ac_cx κ who i % 2)) (ac_S κ d b arm who) ∧ ab_rd τ cc i = 10 * (ac_cx κ who i / 2 + 1) + ac_cx κ who i % 2
theorem ac_Ch.congr (h : ac_Ch σ κ d b arm who p q A0 cc c) (hc : c ≤ 12) (hs : ab_Same P σ τ) (h1 : ∀ i, 0 ≤ i → i < c → ¬ P cc i) (h2 : ∀ i, 0 ≤ i → i < c → ¬ P (A0 + 12 * i) 0 ∧ ∀ f, ¬ P (A0 + 12 * i + 3) f ∧ ¬ P (A0 + 12 * i + 4) f ∧ ¬ P (A0 + 12 * i + 5) f) : ac_Ch τ κ d b arm who p q A0 cc c := fun i i1 i2 => by
  obtain ⟨r1, r2⟩ := h i i1 i2
  have z := h2 i i1 i2
  refine ⟨r1.congr (hs.2.2 _ _ z.1) (fun f => hs.2.2 _ _ (z.2 f).1) (fun f => hs.2.2 _ _ (z.2 f).2.1) (fun f => hs.2.2 _ _ (z.2 f).2.2), ?_⟩
  rw [hs.2.2 _ _ (h1 i i1 i2), r2]
theorem ac_Ch.ext (h : ac_Ch σ κ d b arm who p q A0 cc c) (hsd : ac_sd arr A0 cc arm) (hc : 0 ≤ c ∧ c < 12) (hs : ab_Same (ac_P1 (A0 + 12 * c) cc c) σ τ) (hR : ac_Rows τ (A0 + 12 * c) (ac_n κ b arm) (ac_N κ p q (ac_cx κ who c / 2 + 1) who (ac_cx κ who c % 2)) (ac_S κ d b arm who)) (hr : ab_rd τ cc c = 10 * (ac_cx κ who c / 2 + 1) + ac_cx κ who c % 2) : ac_Ch τ κ d b arm who p q A0 cc (c + 1) := by
  have zc : cc = 151 ∨ cc = 152 := by unfold ac_sd at hsd; omega
  have zA : A0 = 181 ∨ A0 = 187 := by unfold ac_sd at hsd; omega
  intro i i1 i2
  by_cases w : i = c
  · rw [w]; exact ⟨hR, hr⟩
  · exact (h.congr (by omega) hs (fun i i1 i2 u => by unfold ac_P1 ab_PA at u; omega) (fun i i1 i2 => ⟨fun u => by unfold ac_P1 ab_PA at u; omega, fun f => ⟨fun u => by unfold ac_P1 ab_PA at u; omega, fun u => by unfold ac_P1 ab_PA at u; omega, fun u => by unfold ac_P1 ab_PA at u; omega⟩⟩)) i i1 (by omega)
theorem sp_choose_l (hsd : ac_sd arr A0 cc arm) (hI : ac_CI σ K κ) (hk : ac_KK κ) (hT : ac_Tk σ κ d) (h9 : ab_rd σ 134 9 = κ 17 p + κ 17 q) (hd : 0 ≤ d ∧ d ≤ 24) (hb : ac_isB κ b) (hp : ac_isP κ p) (hq : ac_isP κ q) (hw : ac_isP κ who) (hQ : ∀ τ, ab_Same (ac_PG A0 cc) σ τ → ac_Ch τ κ d b arm who p q A0 cc (ac_cn κ b arm who) → Q (some (ab_I (ac_cn κ b arm who))) τ) : ∀ (r : Nat) (h : Int) (τ : ab_S) (l8 : ab_V), ab_Same (ac_PG A0 cc) σ τ → ac_Ch τ κ d b arm who p q A0 cc (if κ 16 who = 2 then h - 1 else 2 * (h - 1)) → 1 ≤ h → h + r = ac_n κ b arm + 1 → ab_Run X 12 6 (2, 0, 0) [ab_R 134, ab_R (K + 5 + 3 * b), ab_I arm, ab_R (K + 20 + who), ab_R arr, ab_R cc, ab_I (if κ 16 who = 2 then h - 1 else 2 * (h - 1)), ab_I h, l8] [] τ Q := by
  have ha : arm = 0 ∨ arm = 1 := by unfold ac_sd at hsd; omega
  have zc : cc = 151 ∨ cc = 152 := by unfold ac_sd at hsd; omega
  have zA : A0 = 181 ∨ A0 = 187 := by unfold ac_sd at hsd; omega
  have nb := ac_n_b hk hb ha
  have n5 := hk.2.1.1
  have n6 := hk.2.1.2.1
  have cT : ∀ τ, ab_Same (ac_PG A0 cc) σ τ → ac_CI τ K κ ∧ ac_Tk τ κ d ∧ ab_rd τ 134 9 = κ 17 p + κ 17 q := by
    intro τ hs
    have e : ∀ f, ab_rd τ 134 f = ab_rd σ 134 f := fun f => hs.2.2 134 f (by unfold ac_PG; omega)
    refine ⟨hI.same (hs.mono (fun a f u => (ac_PG_PD hsd u).1)), ?_, by rw [e, h9]⟩
    unfold ac_Tk at hT ⊢
    rw [e, e, e]
    exact hT
  intro r
  induction r with
  | zero =>
    intro h τ l8 hs hc h1 hr
    have hI' := (cT τ hs).1
    have g := hI'.1
    have hC := hI'.2.2.1
    have hv : K = 5 ∨ K = 329 := hC.1
    have gB := g.bone hC.1 hb.1 (by omega)
    obtain ⟨qz, q1, q2, q3, q4, q5⟩ := gB.1
    have e : ab_rd τ (K + 5 + 3 * b + 1) arm = ac_n κ b arm := ((hC.2.2.2.1 b hb.1 hb.2).2.2 arm ha).1
    have ec : (if κ 16 who = 2 then h - 1 else 2 * (h - 1)) = ac_cn κ b arm who := by
      unfold ac_cn
      split <;> omega
    rw [ec] at hc ⊢
    have hq' := hQ τ hs hc
    rw [rX2_choose_6]
    simp (disch := omega) only [rX2_choose_8, rX2_choose_9, rX2_choose_12, rX2_choose_13, rX2_choose_14, rX2_choose_99, rX2_choose_101, q1, q2, q4, e, ne_eq, not_false_eq_true, not_true_eq_false, true_and, and_true, and_self, true_imp_iff, false_imp_iff, imp_self, Bool.not_false, Bool.not_true, reduceCtorEq, ab_isJ, ab_psh, ab_cats, Bool.false_eq_true, if_true, if_false, ab_shf, ab_shw, Int.le_refl, Classical.not_not, Int.zero_add, forall_const, ↓ab_itT, ↓ab_itF, ab_anT, ab_w32_id, ab_rdf_ne, ab_rdw_ne, ab_rdw_eq, ab_rdf_in, ab_td2, ab_tm2]
    all_goals exact hq'
  | succ r ih =>
    intro h τ l8 hs hc h1 hr
    obtain ⟨hI', hT', h9'⟩ := cT τ hs
    have g := hI'.1
    have hC := hI'.2.2.1
    have hv : K = 5 ∨ K = 329 := hC.1
    have gB := g.bone hC.1 hb.1 (by omega)
    have gP := g.pers hC.1 hw.1 (by omega)
    have gP1 := gP.1
    have ek := (hC.2.2.2.2.1 who hw.1 hw.2).1
    obtain ⟨qz, q1, q2, q3, q4, q5⟩ := gB.1
    have e : ab_rd τ (K + 5 + 3 * b + 1) arm = ac_n κ b arm := ((hC.2.2.2.1 b hb.1 hb.2).2.2 arm ha).1
    by_cases w : κ 16 who = 2
    · rw [if_pos w] at hc ⊢
      have x1 : ac_cx κ who (h - 1) / 2 + 1 = h ∧ ac_cx κ who (h - 1) % 2 = 1 := by
        unfold ac_cx; rw [if_pos w]; omega
      have key := sp_ch1 (X := X) (Q := Q) (c := h - 1) (h := h) (m := 1) hsd hI' hk hT' h9' hd hb hp hq hw (by omega) (by omega) (Or.inr rfl) (fun τ1 hs1 hR hr1 => by
        have s2 := hs.trans (hs1.mono (fun _ _ => ac_P1_PG hsd (by omega)))
        have hc' := hc.ext hsd (by omega) hs1 (by rw [x1.1, x1.2]; exact hR) (by rw [x1.1, x1.2]; exact hr1)
        have := ih (h + 1) τ1 (ab_I (1 + 1)) s2 (by rw [if_pos w, show h + 1 - 1 = h - 1 + 1 by omega]; exact hc') (by omega) (by omega)
        rw [if_pos w, show h + 1 - 1 = h - 1 + 1 by omega] at this
        rw [rX2_choose_32]
        simp (disch := omega) only [rX2_choose_34, rX2_choose_35, rX2_choose_93, rX2_choose_96, ne_eq, not_false_eq_true, not_true_eq_false, true_and, and_true, and_self, true_imp_iff, false_imp_iff, imp_self, Bool.not_false, Bool.not_true, reduceCtorEq, ab_isJ, ab_psh, ab_cats, Bool.false_eq_true, if_true, if_false, ab_shf, ab_shw, Int.le_refl, Classical.not_not, Int.zero_add, forall_const, ↓ab_itT, ↓ab_itF, ab_anT, ab_w32_id, ab_rdf_ne, ab_rdw_ne, ab_rdw_eq, ab_rdf_in, ab_td2, ab_tm2]
        all_goals exact this)
      rw [rX2_choose_6]
      simp (disch := omega) only [rX2_choose_8, rX2_choose_9, rX2_choose_12, rX2_choose_13, rX2_choose_14, rX2_choose_17, rX2_choose_18, rX2_choose_21, rX2_choose_22, rX2_choose_25, rX2_choose_26, rX2_choose_29, rX2_choose_30, rX2_choose_32, rX2_choose_34, rX2_choose_35, q1, q2, q4, e, gP1, ek, ne_eq, not_false_eq_true, not_true_eq_false, true_and, and_true, and_self, true_imp_iff, false_imp_iff, imp_self, Bool.not_false, Bool.not_true, reduceCtorEq, ab_isJ, ab_psh, ab_cats, Bool.false_eq_true, if_true, if_false, ab_shf, ab_shw, Int.le_refl, Classical.not_not, Int.zero_add, forall_const, ↓ab_itT, ↓ab_itF, ab_anT, ab_w32_id, ab_rdf_ne, ab_rdw_ne, ab_rdw_eq, ab_rdf_in, ab_td2, ab_tm2]
      all_goals exact key
    · rw [if_neg w] at hc ⊢
      have x1 : ac_cx κ who (2 * (h - 1)) / 2 + 1 = h ∧ ac_cx κ who (2 * (h - 1)) % 2 = 0 := by
        unfold ac_cx; rw [if_neg w]; omega
      have x2 : ac_cx κ who (2 * (h - 1) + 1) / 2 + 1 = h ∧ ac_cx κ who (2 * (h - 1) + 1) % 2 = 1 := by
        unfold ac_cx; rw [if_neg w]; omega
      have key := sp_ch1 (X := X) (Q := Q) (c := 2 * (h - 1)) (h := h) (m := 0) hsd hI' hk hT' h9' hd hb hp hq hw (by omega) (by omega) (Or.inl rfl) (fun τ1 hs1 hR hr1 => by
        have s2 := hs.trans (hs1.mono (fun _ _ => ac_P1_PG hsd (by omega)))
        have hc' := hc.ext hsd (by omega) hs1 (by rw [x1.1, x1.2]; exact hR) (by rw [x1.1, x1.2]; exact hr1)
        obtain ⟨hI1, hT1, h91⟩ := cT τ1 s2
        have key2 := sp_ch1 (X := X) (Q := Q) (c := 2 * (h - 1) + 1) (h := h) (m := 1) hsd hI1 hk hT1 h91 hd hb hp hq hw (by omega) (by omega) (Or.inr rfl) (fun τ2 hs2 hR2 hr2 => by
          have s3 := s2.trans (hs2.mono (fun _ _ => ac_P1_PG hsd (by omega)))
          have hc2 := hc'.ext hsd (by omega) hs2 (by rw [x2.1, x2.2]; exact hR2) (by rw [x2.1, x2.2]; exact hr2)
          have := ih (h + 1) τ2 (ab_I (1 + 1)) s3 (by rw [if_neg w, show 2 * (h + 1 - 1) = 2 * (h - 1) + 1 + 1 by omega]; exact hc2) (by omega) (by omega)
          rw [if_neg w, show 2 * (h + 1 - 1) = 2 * (h - 1) + 1 + 1 by omega] at this
          rw [rX2_choose_32]
          simp (disch := omega) only [rX2_choose_34, rX2_choose_35, rX2_choose_93, rX2_choose_96, ne_eq, not_false_eq_true, not_true_eq_false, true_and, and_true, and_self, true_imp_iff, false_imp_iff, imp_self, Bool.not_false, Bool.not_true, reduceCtorEq, ab_isJ, ab_psh, ab_cats, Bool.false_eq_true, if_true, if_false, ab_shf, ab_shw, Int.le_refl, Classical.not_not, Int.zero_add, forall_const, ↓ab_itT, ↓ab_itF, ab_anT, ab_w32_id, ab_rdf_ne, ab_rdw_ne, ab_rdw_eq, ab_rdf_in, ab_td2, ab_tm2]
          all_goals exact this)
        rw [rX2_choose_32]
        simp (disch := omega) only [rX2_choose_34, rX2_choose_35, ne_eq, not_false_eq_true, not_true_eq_false, true_and, and_true, and_self, true_imp_iff, false_imp_iff, imp_self, Bool.not_false, Bool.not_true, reduceCtorEq, ab_isJ, ab_psh, ab_cats, Bool.false_eq_true, if_true, if_false, ab_shf, ab_shw, Int.le_refl, Classical.not_not, Int.zero_add, forall_const, ↓ab_itT, ↓ab_itF, ab_anT, ab_w32_id, ab_rdf_ne, ab_rdw_ne, ab_rdw_eq, ab_rdf_in, ab_td2, ab_tm2]
        all_goals exact key2)
      rw [rX2_choose_6]
      simp (disch := omega) only [rX2_choose_8, rX2_choose_9, rX2_choose_12, rX2_choose_13, rX2_choose_14, rX2_choose_17, rX2_choose_18, rX2_choose_21, rX2_choose_22, rX2_choose_25, rX2_choose_26, rX2_choose_29, rX2_choose_30, rX2_choose_32, rX2_choose_34, rX2_choose_35, q1, q2, q4, e, gP1, ek, ne_eq, not_false_eq_true, not_true_eq_false, true_and, and_true, and_self, true_imp_iff, false_imp_iff, imp_self, Bool.not_false, Bool.not_true, reduceCtorEq, ab_isJ, ab_psh, ab_cats, Bool.false_eq_true, if_true, if_false, ab_shf, ab_shw, Int.le_refl, Classical.not_not, Int.zero_add, forall_const, ↓ab_itT, ↓ab_itF, ab_anT, ab_w32_id, ab_rdf_ne, ab_rdw_ne, ab_rdw_eq, ab_rdf_in, ab_td2, ab_tm2]
      all_goals exact key
theorem sp_choose (hsd : ac_sd arr A0 cc arm) (hI : ac_CI σ K κ) (hk : ac_KK κ) (hT : ac_Tk σ κ d) (h9 : ab_rd σ 134 9 = κ 17 p + κ 17 q) (hd : 0 ≤ d ∧ d ≤ 24) (hb : ac_isB κ b) (hp : ac_isP κ p) (hq : ac_isP κ q) (hw : ac_isP κ who) (hQ : ∀ τ, ab_Same (ac_PG A0 cc) σ τ → ac_Ch τ κ d b arm who p q A0 cc (ac_cn κ b arm who) → Q (some (ab_I (ac_cn κ b arm who))) τ) : ab_Do X 12 [ab_R 134, ab_R (K + 5 + 3 * b), ab_I arm, ab_R (K + 20 + who), ab_R arr, ab_R cc] σ Q := by
  have ha : arm = 0 ∨ arm = 1 := by unfold ac_sd at hsd; omega
  have nb := ac_n_b hk hb ha
  have e0 : (if κ 16 who = 2 then (1 : Int) - 1 else 2 * (1 - 1)) = 0 := by split <;> rfl
  have key := sp_choose_l (X := X) (Q := Q) hsd hI hk hT h9 hd hb hp hq hw hQ (ac_n κ b arm).toNat 1 σ (ab_R 0) ab_Same.refl (by rw [e0]; exact fun i i1 i2 => by omega) (by omega) (by omega)
  rw [e0] at key
  simp (disch := omega) only [do_X2_choose, rX2_choose_0, rX2_choose_1, rX2_choose_3, rX2_choose_4, ne_eq, not_false_eq_true, not_true_eq_false, true_and, and_true, and_self, true_imp_iff, false_imp_iff, imp_self, Bool.not_false, Bool.not_true, reduceCtorEq, ab_isJ, ab_psh, ab_cats, Bool.false_eq_true, if_true, if_false, ab_shf, ab_shw, Int.le_refl, Classical.not_not, Int.zero_add, forall_const, ↓ab_itT, ↓ab_itF, ab_anT, ab_w32_id, ab_rdf_ne, ab_rdw_ne, ab_rdw_eq, ab_rdf_in, ab_td2, ab_tm2]
  all_goals exact key
end
