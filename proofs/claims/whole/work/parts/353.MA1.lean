/-! ACTS of the reference -/
def ab_fo (σ : ab_S) (a o n : Int) (g : Int → Int) : ab_S := (σ.1, σ.2.1, fun x y => if x = a ∧ o ≤ y ∧ y < o + n then g (y - o) else σ.2.2 x y)
def ac_HM (σ : ab_S) (na : Int) (pa : Int → Int → Int) (nm : Int) (pm : Int → Int → Int) : Prop := ab_rd σ 355 19 = na ∧ ab_rd σ 355 20 = nm ∧ (0 ≤ na ∧ na ≤ 16) ∧ (0 ≤ nm ∧ nm ≤ 3) ∧ (∀ i k, 0 ≤ i → i < na → 0 ≤ k → k < 18 → ab_rd σ 358 (18 * i + k) = pa i k) ∧ (∀ i k, 0 ≤ i → i < nm → 0 ≤ k → k < 18 → ab_rd σ 359 (18 * i + k) = pm i k)
def ac_PY : Int → Int → Prop := fun a f => ac_PM a f ∨ (a = 355 ∧ (f = 19 ∨ f = 20)) ∨ (357 ≤ a ∧ a ≤ 359)
theorem ac_PY_T : (∀ a : Fin 369, 357 ≤ a.val ∧ a.val ≤ 359 → ab_ptL.getD a.val [] = []) ∧ ab_pt 355 19 = 0 ∧ ab_pt 355 20 = 0 := by decide +kernel
theorem ac_PY_pt : ∀ a f, 0 ≤ a → a ≤ 368 → 0 ≤ f → ac_PY a f → ab_pt a f = 0 := by
  intro a f h1 h2 h3 hp
  rcases hp with hp | ⟨rfl, rfl | rfl⟩ | hp
  · exact ac_PM_pt a f h1 h2 h3 hp
  · exact ac_PY_T.2.1
  · exact ac_PY_T.2.2
  · exact ab_pt_nil (ac_PY_T.1 ⟨a.toNat, by omega⟩ (by dsimp only; omega))
section
variable {X : ab_X} {σ τ υ : ab_S} {Q : Option ab_V → ab_S → Prop} {M b i n s na nm k o a x y m : Int} {κ : ac_K} {v w g : Int → Int} {pa pm : Int → Int → Int} {P : Int → Int → Prop}
theorem ab_rdo : ab_rd (ab_fo σ a o n g) x y = if x = a ∧ o ≤ y ∧ y < o + n then g (y - o) else ab_rd σ x y := rfl
theorem ab_rdo_ne (h : x ≠ a ∨ y < o ∨ o + n ≤ y) : ab_rd (ab_fo σ a o n g) x y = ab_rd σ x y := by rw [ab_rdo, if_neg (by omega)]
theorem ab_sho : ab_sh (ab_fo σ a o n g) x = ab_sh σ x := rfl
theorem ab_fo0 : ab_fo σ a o 0 g = σ := ab_sext rfl (fun _ => rfl) (fun x y => by rw [ab_rdo, if_neg (by omega)])
theorem ab_fo_succ (h : 0 ≤ n) : ab_wr (ab_fo σ a o n g) a (o + n) (g n) = ab_fo σ a o (n + 1) g := ab_sext rfl (fun _ => rfl) (fun x y => by
  rw [ab_rdw, ab_rdo, ab_rdo]
  by_cases h1 : x = a
  · by_cases h2 : y = o + n
    · subst h2; rw [if_pos ⟨h1, rfl⟩, if_pos (by omega), show o + n - o = n by omega]
    · rw [if_neg (by omega)]
      by_cases h3 : o ≤ y ∧ y < o + n
      · rw [if_pos (by omega), if_pos (by omega)]
      · rw [if_neg (by omega), if_neg (by omega)]
  · rw [if_neg (by omega), if_neg (by omega), if_neg (by omega)])
theorem ab_Same.fo (h : ab_Same P σ τ) (hp : ∀ y, o ≤ y → y < o + n → P a y) : ab_Same P σ (ab_fo τ a o n g) := ⟨h.1, h.2.1, fun x f q => by
  rw [ab_rdo_ne, h.2.2 x f q]
  by_cases hx : x = a
  · right
    by_cases h1 : o ≤ f ∧ f < o + n
    · exact absurd (hx ▸ hp f h1.1 h1.2) q
    · omega
  · left; exact hx⟩
theorem ac_MN.sameY (h : ac_MN σ κ) (hs : ab_Same ac_PY σ τ) : ac_MN τ κ := by
  obtain ⟨h1, h2⟩ := h
  have hi : ∀ a f, 369 ≤ a → ¬ ac_PY a f := fun a f h w => by unfold ac_PY ac_PM at w; omega
  refine ⟨h1.same hs ac_PY_pt, ?_⟩
  have e3 : ab_rd τ 355 3 = ab_rd σ 355 3 := hs.2.2 355 3 (by unfold ac_PY ac_PM; omega)
  rcases h2 with ⟨h2, h3⟩ | ⟨M, q1, q2, q3, q4, q5⟩
  · exact Or.inl ⟨by rw [e3, h2], h3⟩
  · exact Or.inr ⟨M, q1.same hs ac_PY_pt, by rw [e3, q2], q3.same hs hi, q4.same q3.1 hs hi, q5⟩
theorem ac_MI.sameY (h : ac_MI σ M κ) (hs : ab_Same ac_PY σ τ) : ac_MI τ M κ := by
  obtain ⟨q1, q2, q3, q4, q5⟩ := h
  have hi : ∀ a f, 369 ≤ a → ¬ ac_PY a f := fun a f h w => by unfold ac_PY ac_PM at w; omega
  exact ⟨q1.same hs ac_PY_pt, by rw [hs.2.2 355 3 (by unfold ac_PY ac_PM; omega), q2], q3.same hs hi, q4.same q3.1 hs hi, q5⟩
theorem ab_Same.my (h : ab_Same ac_PM σ τ) : ab_Same ac_PY σ τ := h.mono (fun _ _ u => Or.inl u)
theorem ac_HM.same (h : ac_HM σ na pa nm pm) (hs : ab_Same ac_PM σ τ) : ac_HM τ na pa nm pm := by
  obtain ⟨h1, h2, h3, h4, h5, h6⟩ := h
  exact ⟨by rw [hs.2.2 _ _ (by unfold ac_PM; omega), h1], by rw [hs.2.2 _ _ (by unfold ac_PM; omega), h2], h3, h4, fun i k a1 a2 a3 a4 => by rw [hs.2.2 _ _ (by unfold ac_PM; omega), h5 i k a1 a2 a3 a4], fun i k a1 a2 a3 a4 => by rw [hs.2.2 _ _ (by unfold ac_PM; omega), h6 i k a1 a2 a3 a4]⟩
theorem mq_keeps_1 (hg : ab_Geo σ) : ∀ (n : Nat) (i : Int), 0 ≤ i → i + n = 270 → (ab_Run X 277 11 (0, 0, 0) [ab_R 355, ab_I i] [] (ab_fl σ 358 i (fun k => ab_rd σ 358 (k + 18))) Q ↔ ab_Run X 277 39 (0, 0, 0) [ab_R 355, ab_I 270] [] (ab_fl σ 358 270 (fun k => ab_rd σ 358 (k + 18))) Q) := by
  intro n
  induction n with
  | zero =>
    intro i hi hn
    obtain rfl : i = 270 := by omega
    rw [rX13_keeps_11]
    simp (disch := omega) only [rX13_keeps_12, rX13_keeps_15, ne_eq, not_false_eq_true, not_true_eq_false, true_and, and_true, and_self, true_imp_iff, false_imp_iff, imp_self, Bool.not_false, Bool.not_true, reduceCtorEq, ab_isJ, ab_psh, ab_cats, Bool.false_eq_true, if_true, if_false, ab_shf, ab_shw, Int.le_refl, Classical.not_not, Int.zero_add, forall_const, ↓ab_itT, ↓ab_itF, ab_anT, ab_w32_id, ab_rdf_ne, ab_rdw_ne, ab_rdw_eq, ab_rdf_in, ab_td2, ab_tm2]
  | succ n ih =>
    intro i hi hn
    have key := ih (i + 1) (by omega) (by omega)
    rw [← ab_fl_succ hi] at key
    rw [rX13_keeps_11, ← key]
    simp (disch := omega) only [rX13_keeps_12, rX13_keeps_15, rX13_keeps_18, rX13_keeps_19, rX13_keeps_22, rX13_keeps_23, rX13_keeps_24, rX13_keeps_27, rX13_keeps_28, rX13_keeps_30, rX13_keeps_31, rX13_keeps_32, rX13_keeps_33, rX13_keeps_36, gS_355, gP_355_17, gS_358, hg, ne_eq, not_false_eq_true, not_true_eq_false, true_and, and_true, and_self, true_imp_iff, false_imp_iff, imp_self, Bool.not_false, Bool.not_true, reduceCtorEq, ab_isJ, ab_psh, ab_cats, Bool.false_eq_true, if_true, if_false, ab_shf, ab_shw, Int.le_refl, Classical.not_not, Int.zero_add, forall_const, ↓ab_itT, ↓ab_itF, ab_anT, ab_w32_id, ab_rdf_ne, ab_rdw_ne, ab_rdw_eq, ab_rdf_in, ab_td2, ab_tm2]
theorem mq_keeps_2 (hg : ab_Geo σ) (h19 : ab_rd σ 355 19 = m) (hm : 0 ≤ m ∧ m < 16) (hv : ∀ k, 0 ≤ k → k < 18 → ab_rd σ 357 k = v k) : ∀ (n : Nat) (i : Int), 0 ≤ i → i + n = 18 → (ab_Run X 277 51 (0, 0, 0) [ab_R 355, ab_I i] [] (ab_fo σ 358 (18 * m) i v) Q ↔ Q none (ab_wr (ab_fo σ 358 (18 * m) 18 v) 355 19 (m + 1))) := by
  intro n
  induction n with
  | zero =>
    intro i hi hn
    obtain rfl : i = 18 := by omega
    rw [rX13_keeps_51]
    simp (disch := omega) only [rX13_keeps_52, rX13_keeps_54, rX13_keeps_83, rX13_keeps_84I, rX13_keeps_84R, rX13_keeps_85, rX13_keeps_88, rX13_keeps_89, rX13_keeps_90, rX13_keeps_93, gS_355, hg, h19, ab_sho, ab_rdo_ne, ne_eq, not_false_eq_true, not_true_eq_false, true_and, and_true, and_self, true_imp_iff, false_imp_iff, imp_self, Bool.not_false, Bool.not_true, reduceCtorEq, ab_isJ, ab_psh, ab_cats, Bool.false_eq_true, if_true, if_false, ab_shf, ab_shw, Int.le_refl, Classical.not_not, Int.zero_add, forall_const, ↓ab_itT, ↓ab_itF, ab_anT, ab_w32_id, ab_rdf_ne, ab_rdw_ne, ab_rdw_eq, ab_rdf_in, ab_td2, ab_tm2]
  | succ n ih =>
    intro i hi hn
    have key := ih (i + 1) (by omega) (by omega)
    have e := hv i hi (by omega)
    rw [← ab_fo_succ hi] at key
    rw [rX13_keeps_51, ← key]
    simp (disch := omega) only [rX13_keeps_52, rX13_keeps_54, rX13_keeps_57, rX13_keeps_58, rX13_keeps_61, rX13_keeps_63, rX13_keeps_64, rX13_keeps_67, rX13_keeps_68, rX13_keeps_69, rX13_keeps_70, rX13_keeps_71, rX13_keeps_74, rX13_keeps_75, rX13_keeps_76, rX13_keeps_77, rX13_keeps_80, gS_355, gP_355_16, gP_355_17, gS_357, gS_358, hg, h19, e, ab_sho, ab_rdo_ne, ne_eq, not_false_eq_true, not_true_eq_false, true_and, and_true, and_self, true_imp_iff, false_imp_iff, imp_self, Bool.not_false, Bool.not_true, reduceCtorEq, ab_isJ, ab_psh, ab_cats, Bool.false_eq_true, if_true, if_false, ab_shf, ab_shw, Int.le_refl, Classical.not_not, Int.zero_add, forall_const, ↓ab_itT, ↓ab_itF, ab_anT, ab_w32_id, ab_rdf_ne, ab_rdw_ne, ab_rdw_eq, ab_rdf_in, ab_td2, ab_tm2]
theorem mq_keeps (hg : ab_Geo σ) (hH : ac_HM σ na pa nm pm) (hv : ∀ k, 0 ≤ k → k < 18 → ab_rd σ 357 k = v k) (hQ : ∀ τ, ab_Same (fun a f => a = 358 ∨ (a = 355 ∧ f = 19)) σ τ → ac_HM τ (ac_kna na) (ac_kpa na pa v) nm pm → Q none τ) : ab_Do X 277 [ab_R 355] σ Q := by
  obtain ⟨h1, h2, h3, h4, h5, h6⟩ := hH
  by_cases z : na = 16
  · have w1 : ab_Same (fun a f => a = 358 ∨ (a = 355 ∧ f = 19)) σ (ab_wr (ab_fl σ 358 270 (fun k => ab_rd σ 358 (k + 18))) 355 19 15) := (ab_Same.refl.fl (fun y _ _ => Or.inl rfl)).wr (Or.inr ⟨rfl, rfl⟩)
    have g1 : ab_Geo (ab_wr (ab_fl σ 358 270 (fun k => ab_rd σ 358 (k + 18))) 355 19 15) := hg.same w1 (fun a f a1 a2 a3 u => ac_PY_pt a f a1 a2 a3 (by unfold ac_PY; omega))
    have B := mq_keeps_2 (X := X) (Q := Q) (v := v) (m := 15) g1 ab_rdw_eq (by omega) (fun k k1 k2 => by rw [w1.2.2 357 k (by omega), hv k k1 k2]) 18 0 (by omega) (by omega)
    rw [ab_fo0] at B
    have A := mq_keeps_1 (X := X) (Q := Q) hg 270 0 (by omega) (by omega)
    rw [ab_fl0 (Int.le_refl 0)] at A
    have k1 : ac_kna na = 16 := if_pos z
    have key := B.mpr (hQ _ ((w1.fo (fun y _ _ => Or.inl rfl)).wr (Or.inr ⟨rfl, rfl⟩)) ⟨by rw [ab_rdw_eq, k1]; rfl, by rw [ab_rdw_ne (by omega), ab_rdo_ne (by omega), w1.2.2 355 20 (by omega), h2], by rw [k1]; omega, h4, fun i k a1 a2 a3 a4 => by
      rw [k1] at a2
      rw [ab_rdw_ne (by omega)]
      unfold ac_kpa
      rw [if_pos z]
      by_cases z2 : i = 15
      · rw [if_pos z2, ab_rdo, if_pos (by omega)]
        congr 1
        omega
      · rw [if_neg z2, ab_rdo_ne (by omega), ab_rdw_ne (by omega), ab_rdf_in (by omega), show 18 * i + k + 18 = 18 * (i + 1) + k by omega, h5 (i + 1) k (by omega) (by omega) a3 a4], fun i k a1 a2 a3 a4 => by
      rw [ab_rdw_ne (by omega), ab_rdo_ne (by omega), w1.2.2 _ _ (by omega), h6 i k a1 a2 a3 a4]⟩)
    have key2 : ab_Run X 277 39 (0, 0, 0) [ab_R 355, ab_I 270] [] (ab_fl σ 358 270 (fun k => ab_rd σ 358 (k + 18))) Q := by
      clear A B hQ h5 h6
      simp (disch := omega) only [rX13_keeps_39, rX13_keeps_40I, rX13_keeps_40R, rX13_keeps_41, rX13_keeps_44, rX13_keeps_45, rX13_keeps_46, rX13_keeps_49, rX13_keeps_50, gS_355, hg, h1, z, ne_eq, not_false_eq_true, not_true_eq_false, true_and, and_true, and_self, true_imp_iff, false_imp_iff, imp_self, Bool.not_false, Bool.not_true, reduceCtorEq, ab_isJ, ab_psh, ab_cats, Bool.false_eq_true, if_true, if_false, ab_shf, ab_shw, Int.le_refl, Classical.not_not, Int.zero_add, forall_const, ↓ab_itT, ↓ab_itF, ab_anT, ab_w32_id, ab_rdf_ne, ab_rdw_ne, ab_rdw_eq, ab_rdf_in, ab_td2, ab_tm2]
      all_goals exact key
    have key3 := A.mpr key2
    clear A B hQ h5 h6 key key2
    simp (disch := omega) only [do_X13_keeps, rX13_keeps_0, rX13_keeps_1, rX13_keeps_4, rX13_keeps_6, rX13_keeps_9, rX13_keeps_10, gS_355, hg, h1, ne_eq, not_false_eq_true, not_true_eq_false, true_and, and_true, and_self, true_imp_iff, false_imp_iff, imp_self, Bool.not_false, Bool.not_true, reduceCtorEq, ab_isJ, ab_psh, ab_cats, Bool.false_eq_true, if_true, if_false, ab_shf, ab_shw, Int.le_refl, Classical.not_not, Int.zero_add, forall_const, ↓ab_itT, ↓ab_itF, ab_anT, ab_w32_id, ab_rdf_ne, ab_rdw_ne, ab_rdw_eq, ab_rdf_in, ab_td2, ab_tm2]
    all_goals exact key3
  · have B := mq_keeps_2 (X := X) (Q := Q) (v := v) (m := na) hg h1 (by omega) hv 18 0 (by omega) (by omega)
    rw [ab_fo0] at B
    have k1 : ac_kna na = na + 1 := if_neg z
    have w0 : ab_Same (fun a f => a = 358 ∨ (a = 355 ∧ f = 19)) σ σ := ab_Same.refl
    have key := B.mpr (hQ _ ((w0.fo (fun y _ _ => Or.inl rfl)).wr (Or.inr ⟨rfl, rfl⟩)) ⟨by rw [ab_rdw_eq, k1], by rw [ab_rdw_ne (by omega), ab_rdo_ne (by omega), h2], by rw [k1]; omega, h4, fun i k a1 a2 a3 a4 => by
      rw [k1] at a2
      rw [ab_rdw_ne (by omega)]
      unfold ac_kpa
      rw [if_neg z]
      by_cases z2 : i = na
      · rw [if_pos z2, ab_rdo, if_pos (by omega)]
        congr 1
        omega
      · rw [if_neg z2, ab_rdo_ne (by omega), h5 i k a1 (by omega) a3 a4], fun i k a1 a2 a3 a4 => by
      rw [ab_rdw_ne (by omega), ab_rdo_ne (by omega), h6 i k a1 a2 a3 a4]⟩)
    clear B hQ h5 h6
    simp (disch := omega) only [do_X13_keeps, rX13_keeps_0, rX13_keeps_1, rX13_keeps_4, rX13_keeps_6, rX13_keeps_49, rX13_keeps_50, gS_355, hg, h1, ne_eq, not_false_eq_true, not_true_eq_false, true_and, and_true, and_self, true_imp_iff, false_imp_iff, imp_self, Bool.not_false, Bool.not_true, reduceCtorEq, ab_isJ, ab_psh, ab_cats, Bool.false_eq_true, if_true, if_false, ab_shf, ab_shw, Int.le_refl, Classical.not_not, Int.zero_add, forall_const, ↓ab_itT, ↓ab_itF, ab_anT, ab_w32_id, ab_rdf_ne, ab_rdw_ne, ab_rdw_eq, ab_rdf_in, ab_td2, ab_tm2]
    all_goals exact key
/-- the reference as it stands -/
def ac_MS (σ : ab_S) (κ : ac_K) (v : Int → Int) (na : Int) (pa : Int → Int → Int) (nm : Int) (pm : Int → Int → Int) : Prop := ac_MN σ κ ∧ ac_MV σ κ v ∧ ac_HM σ na pa nm pm
theorem ac_MS.same (h : ac_MS σ κ v na pa nm pm) (hs : ab_Same ac_PM σ τ) : ac_MS τ κ v na pa nm pm := ⟨h.1.same hs, h.2.1.same hs, h.2.2.same hs⟩
/-- behind an act: v is w -/
theorem ac_MS.act (h : ac_MS σ κ v na pa nm pm) (hs : ab_Same ac_PY σ τ) (hv : ∀ k, 0 ≤ k → k < 18 → ab_rd τ 357 k = w k) (hV : ac_VB κ w) {na' nm' : Int} {pa' pm' : Int → Int → Int} (hH : ac_HM τ na' pa' nm' pm') : ac_MS τ κ w na' pa' nm' pm' := ⟨h.1.sameY hs, ⟨hv, hV⟩, hH⟩
theorem ac_endY {T : Int} (hs : ab_Same ac_PY σ τ) : ab_Same ac_PY σ (ab_wr (ab_wr τ 355 1 T) 355 2 (-1)) ∧ ab_rd (ab_wr (ab_wr τ 355 1 T) 355 2 (-1)) 355 1 = T ∧ ab_rd (ab_wr (ab_wr τ 355 1 T) 355 2 (-1)) 355 2 = -1 := ⟨(hs.wr (Or.inl (by unfold ac_PM; omega))).wr (Or.inl (by unfold ac_PM; omega)), by rw [ab_rdw_ne (by omega), ab_rdw_eq], ab_rdw_eq⟩
theorem ac_end2 {T : Int} : ab_Same ac_PM σ (ab_wr (ab_wr σ 355 1 T) 355 2 (-1)) := (ab_Same.refl.wr (by unfold ac_PM; omega)).wr (by unfold ac_PM; omega)
theorem ma_seed (h : ac_MS σ κ v na pa nm pm) (hk : κ 5 0 ≤ 5) (hQ1 : ac_seT κ s ≠ 0 → ∀ τ, ab_Same ac_PM σ τ → ab_rd τ 355 1 = ac_seT κ s → ab_rd τ 355 2 = -1 → Q (some (ab_I 0)) τ) (hQ0 : ac_seT κ s = 0 → ∀ τ, ab_Same ac_PY σ τ → ab_rd τ 355 1 = 0 → ab_rd τ 355 2 = -1 → ac_MS τ κ (ac_sv v s) na pa nm pm → Q (some (ab_I 1)) τ) : ab_Do X 281 [ab_R 355, ab_I s] σ Q := by
  have hN := h.1
  have h' := hN.same (τ := ab_wr σ 355 0 0) ac_mq0
  have g0 := hN.1
  have g := h'.1
  have hm0 := h.same (τ := ab_wr σ 355 0 0) ac_mq0
  have cin := fun x lo hi Q' => mq_in (X := X) (σ := ab_wr σ 355 0 0) (Q := Q') (x := x) (lo := lo) (hi := hi)
  have cd := fun v Q' => sp_denied (X := X) (Q := Q') (v := v) g
  have cr := fun v Q' => sp_refused (X := X) (Q := Q') (v := v) g
  by_cases hp : 0 < κ 5 0
  · obtain ⟨M, hm⟩ := h'.mi hp
    have h3 := hm.2.1
    have zM := hm.2.2.1.1
    by_cases hn : 0 ≤ s ∧ s ≤ 65536
    · have eT : ac_seT κ s = 0 := by unfold ac_seT; rw [if_pos hp, if_pos hn]
      have w1 : ab_Same ac_PY σ (ab_wr (ab_wr σ 355 0 0) 357 17 s) := ac_mq0.my.wr (Or.inr (Or.inr (by omega)))
      have g1 := (hN.sameY w1).1
      have c6 := fun Q' => sp_granted (X := X) (Q := Q') g1
      have hH := hm0.2.2
      have key := hQ0 eT _ (ac_endY w1).1 (ac_endY w1).2.1 (ac_endY w1).2.2 (h.act (ac_endY w1).1 (fun k k1 k2 => by
        rw [ab_rdw_ne (by omega), ab_rdw_ne (by omega)]
        unfold ac_sv
        by_cases z : k = 17
        · rw [if_pos z, z, ab_rdw_eq]
        · rw [if_neg z, ab_rdw_ne (by omega)]; exact hm0.2.1.1 k k1 k2) (ac_sv_VB h.2.1.2 hn hk) (ac_HM.same (σ := ab_wr (ab_wr σ 355 0 0) 357 17 s) ⟨by rw [ab_rdw_ne (by omega)]; exact hH.1, by rw [ab_rdw_ne (by omega)]; exact hH.2.1, hH.2.2.1, hH.2.2.2.1, fun i k a1 a2 a3 a4 => by rw [ab_rdw_ne (by omega)]; exact hH.2.2.2.2.1 i k a1 a2 a3 a4, fun i k a1 a2 a3 a4 => by rw [ab_rdw_ne (by omega)]; exact hH.2.2.2.2.2 i k a1 a2 a3 a4⟩ ac_end2))
      clear hQ0 hQ1 hH
      simp (disch := omega) only [do_X13_seed, rX13_seed_0, rX13_seed_1, rX13_seed_2, rX13_seed_5, rX13_seed_6, rX13_seed_9, rX13_seed_12, rX13_seed_13, rX13_seed_14, rX13_seed_17, rX13_seed_18, rX13_seed_19, rX13_seed_20, rX13_seed_23, rX13_seed_26, rX13_seed_29, rX13_seed_30, rX13_seed_31, rX13_seed_34, rX13_seed_35, rX13_seed_36, rX13_seed_39, rX13_seed_41, rX13_seed_42, rX13_seed_43, rX13_seed_44, rX13_seed_47, gS_355, gP_355_16, gS_357, g0, g, h3, cin, if_pos hn, c6, ne_eq, not_false_eq_true, not_true_eq_false, true_and, and_true, and_self, true_imp_iff, false_imp_iff, imp_self, Bool.not_false, Bool.not_true, reduceCtorEq, ab_isJ, ab_psh, ab_cats, Bool.false_eq_true, if_true, if_false, ab_shf, ab_shw, Int.le_refl, Classical.not_not, Int.zero_add, forall_const, ↓ab_itT, ↓ab_itF, ab_anT, or_true]
      all_goals exact key
    · have eT : ac_seT κ s = 2 := (by unfold ac_seT; rw [if_pos hp, if_neg hn])
      have hq' := hQ1 (by rw [eT]; decide) _ (ac_end1 ac_mq0).1 (by rw [eT]; exact (ac_end1 ac_mq0).2.1) (ac_end1 ac_mq0).2.2
      simp (disch := omega) only [do_X13_seed, rX13_seed_0, rX13_seed_1, rX13_seed_2, rX13_seed_5, rX13_seed_6, rX13_seed_9, rX13_seed_12, rX13_seed_13, rX13_seed_14, rX13_seed_17, rX13_seed_18, rX13_seed_19, rX13_seed_20, rX13_seed_23, rX13_seed_26, rX13_seed_29, rX13_seed_30, rX13_seed_31, rX13_seed_34, rX13_seed_35, rX13_seed_36, rX13_seed_39, rX13_seed_41, rX13_seed_42, rX13_seed_43, rX13_seed_44, rX13_seed_47, gS_355, g0, g, h3, cin, if_neg hn, cd, ne_eq, not_false_eq_true, not_true_eq_false, true_and, and_true, and_self, true_imp_iff, false_imp_iff, imp_self, Bool.not_false, Bool.not_true, reduceCtorEq, ab_isJ, ab_psh, ab_cats, Bool.false_eq_true, if_true, if_false, ab_shf, ab_shw, Int.le_refl, Classical.not_not, Int.zero_add, forall_const, ↓ab_itT, ↓ab_itF, ab_anT, true_or]
      all_goals exact hq'
  · have e0 := h'.null hp
    have eT : ac_seT κ s = 1 := (by unfold ac_seT; rw [if_neg hp])
    have hq' := hQ1 (by rw [eT]; decide) _ (ac_end1 ac_mq0).1 (by rw [eT]; exact (ac_end1 ac_mq0).2.1) (ac_end1 ac_mq0).2.2
    simp (disch := omega) only [do_X13_seed, rX13_seed_0, rX13_seed_1, rX13_seed_2, rX13_seed_5, rX13_seed_6, rX13_seed_9, rX13_seed_12, rX13_seed_13, rX13_seed_14, rX13_seed_17, rX13_seed_18, rX13_seed_19, rX13_seed_20, rX13_seed_23, rX13_seed_26, rX13_seed_29, rX13_seed_30, rX13_seed_31, rX13_seed_34, rX13_seed_35, rX13_seed_36, rX13_seed_39, rX13_seed_41, rX13_seed_42, rX13_seed_43, rX13_seed_44, rX13_seed_47, gS_355, g0, g, e0, cd, ne_eq, not_false_eq_true, not_true_eq_false, true_and, and_true, and_self, true_imp_iff, false_imp_iff, imp_self, Bool.not_false, Bool.not_true, reduceCtorEq, ab_isJ, ab_psh, ab_cats, Bool.false_eq_true, if_true, if_false, ab_shf, ab_shw, Int.le_refl, Classical.not_not, Int.zero_add, forall_const, ↓ab_itT, ↓ab_itF, ab_anT, true_or]
    all_goals exact hq'
theorem ma_dry_l (h : ac_MI σ M κ) (hv : ac_MV σ κ v) (hn : 1 ≤ n ∧ n ≤ 24) : ∀ (d : Nat) (b : Int), 0 ≤ b → b + d = κ 5 0 → (ab_Run X 278 40 (2, 0, 0) [ab_R 355, ab_I n, ab_I b] [] (ab_fo σ 357 5 b (fun k => ac_dv κ v n (5 + k))) Q ↔ Q (some (ab_I 1)) (ab_wr (ab_wr (ab_fo σ 357 5 (κ 5 0) (fun k => ac_dv κ v n (5 + k))) 355 1 0) 355 2 (-1))) := by
  have n5 := h.2.2.2.2.2.1.1
  have e10 := hv.1 10 (by omega) (by omega)
  have vb10 := hv.2.2.1
  intro d
  induction d with
  | zero =>
    intro b hb hd
    obtain rfl : b = κ 5 0 := by omega
    have w1 : ab_Same ac_PY σ (ab_fo σ 357 5 (κ 5 0) (fun k => ac_dv κ v n (5 + k))) := ab_Same.refl.fo (fun y _ _ => Or.inr (Or.inr (by omega)))
    have hI := h.sameY w1
    have g := hI.1
    have h3 := hI.2.1
    have sM := hI.2.2.1.2.1
    have zM := hI.2.2.1.1
    have e5 := kM_5 hI.2.2.2.1
    have c6 := fun Q' => sp_granted (X := X) (Q := Q') g
    rw [rX13_dry_40]
    simp (disch := omega) only [rX13_dry_41, rX13_dry_42, rX13_dry_45, rX13_dry_48, rX13_dry_109, rX13_dry_110, rX13_dry_113, gS_355, g, h3, sM, e5, c6, ne_eq, not_false_eq_true, not_true_eq_false, true_and, and_true, and_self, true_imp_iff, false_imp_iff, imp_self, Bool.not_false, Bool.not_true, reduceCtorEq, ab_isJ, ab_psh, ab_cats, Bool.false_eq_true, if_true, if_false, ab_shf, ab_shw, Int.le_refl, Classical.not_not, Int.zero_add, forall_const, ↓ab_itT, ↓ab_itF, ab_anT, or_true]
  | succ d ih =>
    intro b hb hd
    have key := ih (b + 1) (by omega) (by omega)
    have w1 : ab_Same ac_PY σ (ab_fo σ 357 5 b (fun k => ac_dv κ v n (5 + k))) := ab_Same.refl.fo (fun y _ _ => Or.inr (Or.inr (by omega)))
    have hI := h.sameY w1
    have g := hI.1
    have h3 := hI.2.1
    have sM := hI.2.2.1.2.1
    have zM := hI.2.2.1.1
    have e5 := kM_5 hI.2.2.2.1
    have d10 : ab_rd (ab_fo σ 357 5 b (fun k => ac_dv κ v n (5 + k))) 357 10 = v 10 := by rw [ab_rdo_ne (by omega), e10]
    have db : ab_rd (ab_fo σ 357 5 b (fun k => ac_dv κ v n (5 + k))) 357 (5 + b) = v (5 + b) := by rw [ab_rdo_ne (by omega), hv.1 _ (by omega) (by omega)]
    have vb := (hv.2.1 b hb (by omega)).2
    have c1 := fun Q' => mq_bit (X := X) (σ := ab_fo σ 357 5 b (fun k => ac_dv κ v n (5 + k))) (Q := Q') (x := v 10) (b := b) (by omega) (by omega)
    have eb : ac_dv κ v n (5 + b) = if ac_bit (v 10) b = 0 then (if v (5 + b) + n < 24 then v (5 + b) + n else 24) else v (5 + b) := by
      unfold ac_dv
      rw [show 5 + b - 5 = b by omega]
      by_cases z : ac_bit (v 10) b = 0
      · rw [if_pos ⟨by omega, by omega, z⟩, if_pos z]
      · rw [if_neg (fun u => z u.2.2), if_neg z]
    rw [rX13_dry_40, ← key]
    rcases ac_bit01 (x := v 10) (b := b) with z | z
    · rw [z] at c1
      rw [if_pos z] at eb
      rw [← ab_fo_succ hb, eb]
      clear ih key w1 hI
      by_cases z2 : 24 < v (5 + b) + n
      · rw [if_neg (by omega)]
        simp (disch := omega) only [rX13_dry_41, rX13_dry_42, rX13_dry_45, rX13_dry_48, rX13_dry_51, rX13_dry_52, rX13_dry_55, rX13_dry_57, rX13_dry_58, rX13_dry_59, rX13_dry_62, rX13_dry_65, rX13_dry_66, rX13_dry_69, rX13_dry_70, rX13_dry_71, rX13_dry_72, rX13_dry_73, rX13_dry_76, rX13_dry_77, rX13_dry_78, rX13_dry_79, rX13_dry_80, rX13_dry_81, rX13_dry_82, rX13_dry_84, rX13_dry_87, rX13_dry_89, rX13_dry_92, rX13_dry_93, rX13_dry_96, rX13_dry_97, rX13_dry_98, rX13_dry_99, rX13_dry_100, rX13_dry_101, rX13_dry_102, rX13_dry_103, rX13_dry_106, gS_355, gP_355_16, gS_357, g, h3, sM, e5, d10, db, c1, ne_eq, not_false_eq_true, not_true_eq_false, true_and, and_true, and_self, true_imp_iff, false_imp_iff, imp_self, Bool.not_false, Bool.not_true, reduceCtorEq, ab_isJ, ab_psh, ab_cats, Bool.false_eq_true, if_true, if_false, ab_shf, ab_shw, Int.le_refl, Classical.not_not, Int.zero_add, forall_const, ↓ab_itT, ↓ab_itF, ab_anT, ab_w32_id]
      · have e2 : (if v (5 + b) + n < 24 then v (5 + b) + n else 24) = v (5 + b) + n := by split <;> omega
        rw [e2]
        simp (disch := omega) only [rX13_dry_41, rX13_dry_42, rX13_dry_45, rX13_dry_48, rX13_dry_51, rX13_dry_52, rX13_dry_55, rX13_dry_57, rX13_dry_58, rX13_dry_59, rX13_dry_62, rX13_dry_65, rX13_dry_66, rX13_dry_69, rX13_dry_70, rX13_dry_71, rX13_dry_72, rX13_dry_73, rX13_dry_76, rX13_dry_77, rX13_dry_78, rX13_dry_79, rX13_dry_80, rX13_dry_81, rX13_dry_82, rX13_dry_84, rX13_dry_87, rX13_dry_89, rX13_dry_92, rX13_dry_93, rX13_dry_96, rX13_dry_97, rX13_dry_98, rX13_dry_99, rX13_dry_100, rX13_dry_101, rX13_dry_102, rX13_dry_103, rX13_dry_106, gS_355, gP_355_16, gS_357, g, h3, sM, e5, d10, db, c1, ne_eq, not_false_eq_true, not_true_eq_false, true_and, and_true, and_self, true_imp_iff, false_imp_iff, imp_self, Bool.not_false, Bool.not_true, reduceCtorEq, ab_isJ, ab_psh, ab_cats, Bool.false_eq_true, if_true, if_false, ab_shf, ab_shw, Int.le_refl, Classical.not_not, Int.zero_add, forall_const, ↓ab_itT, ↓ab_itF, ab_anT, ab_w32_id]
    · rw [z] at c1
      rw [if_neg (by omega)] at eb
      have es : ab_fo σ 357 5 (b + 1) (fun k => ac_dv κ v n (5 + k)) = ab_fo σ 357 5 b (fun k => ac_dv κ v n (5 + k)) := by
        rw [← ab_fo_succ hb]
        refine ab_sext rfl (fun _ => rfl) (fun x y => ?_)
        rw [ab_rdw]
        by_cases e : x = 357 ∧ y = 5 + b
        · rw [if_pos e, e.1, e.2, db, eb]
        · rw [if_neg e]
      rw [es]
      clear ih key w1 hI
      simp (disch := omega) only [rX13_dry_41, rX13_dry_42, rX13_dry_45, rX13_dry_48, rX13_dry_51, rX13_dry_52, rX13_dry_55, rX13_dry_57, rX13_dry_58, rX13_dry_59, rX13_dry_62, rX13_dry_65, rX13_dry_66, rX13_dry_69, rX13_dry_70, rX13_dry_71, rX13_dry_72, rX13_dry_73, rX13_dry_76, rX13_dry_77, rX13_dry_78, rX13_dry_79, rX13_dry_80, rX13_dry_81, rX13_dry_82, rX13_dry_84, rX13_dry_87, rX13_dry_89, rX13_dry_92, rX13_dry_93, rX13_dry_96, rX13_dry_97, rX13_dry_98, rX13_dry_99, rX13_dry_100, rX13_dry_101, rX13_dry_102, rX13_dry_103, rX13_dry_106, gS_355, gP_355_16, gS_357, g, h3, sM, e5, d10, c1, ne_eq, not_false_eq_true, not_true_eq_false, true_and, and_true, and_self, true_imp_iff, false_imp_iff, imp_self, Bool.not_false, Bool.not_true, reduceCtorEq, ab_isJ, ab_psh, ab_cats, Bool.false_eq_true, if_true, if_false, ab_shf, ab_shw, Int.le_refl, Classical.not_not, Int.zero_add, forall_const, ↓ab_itT, ↓ab_itF, ab_anT, ab_w32_id]
theorem ac_kpY : ∀ a f, (a = 358 ∨ (a = 355 ∧ f = 19)) → ac_PY a f := fun a f u => by unfold ac_PY; omega
theorem ma_dry (h : ac_MS σ κ v na pa nm pm) (hQ1 : ac_dyT κ n ≠ 0 → ∀ τ, ab_Same ac_PM σ τ → ab_rd τ 355 1 = ac_dyT κ n → ab_rd τ 355 2 = -1 → Q (some (ab_I 0)) τ) (hQ0 : ac_dyT κ n = 0 → ∀ τ, ab_Same ac_PY σ τ → ab_rd τ 355 1 = 0 → ab_rd τ 355 2 = -1 → ac_MS τ κ (ac_dv κ v n) (ac_kna na) (ac_kpa na pa v) nm pm → Q (some (ab_I 1)) τ) : ab_Do X 278 [ab_R 355, ab_I n] σ Q := by
  have hN := h.1
  have h' := hN.same (τ := ab_wr σ 355 0 0) ac_mq0
  have g0 := hN.1
  have g := h'.1
  have hm0 := h.same (τ := ab_wr σ 355 0 0) ac_mq0
  have cin := fun x lo hi Q' => mq_in (X := X) (σ := ab_wr σ 355 0 0) (Q := Q') (x := x) (lo := lo) (hi := hi)
  have cd := fun v Q' => sp_denied (X := X) (Q := Q') (v := v) g
  have cr := fun v Q' => sp_refused (X := X) (Q := Q') (v := v) g
  by_cases hp : 0 < κ 5 0
  · obtain ⟨M, hm⟩ := h'.mi hp
    have h3 := hm.2.1
    have zM := hm.2.2.1.1
    have n5 := hm.2.2.2.2.2.1.1
    by_cases hn : 1 ≤ n ∧ n ≤ 24
    · have eT : ac_dyT κ n = 0 := by unfold ac_dyT; rw [if_pos hp, if_pos hn]
      simp (disch := omega) only [do_X13_dry, rX13_dry_0, rX13_dry_1, rX13_dry_2, rX13_dry_5, rX13_dry_6, rX13_dry_9, rX13_dry_12, rX13_dry_13, rX13_dry_14, rX13_dry_17, rX13_dry_18, rX13_dry_19, rX13_dry_20, rX13_dry_22, rX13_dry_25, rX13_dry_28, rX13_dry_29, rX13_dry_30, rX13_dry_33, rX13_dry_34, rX13_dry_35, gS_355, g0, g, h3, cin, if_pos hn, ne_eq, not_false_eq_true, not_true_eq_false, true_and, and_true, and_self, true_imp_iff, false_imp_iff, imp_self, Bool.not_false, Bool.not_true, reduceCtorEq, ab_isJ, ab_psh, ab_cats, Bool.false_eq_true, if_true, if_false, ab_shf, ab_shw, Int.le_refl, Classical.not_not, Int.zero_add, forall_const, ↓ab_itT, ↓ab_itF, ab_anT]
      refine mq_keeps g hm0.2.2 hm0.2.1.1 (fun τ hs hH => ?_)
      have sX : ab_Same ac_PY σ τ := ac_mq0.my.trans (hs.mono ac_kpY)
      have hI := hm.sameY (hs.mono ac_kpY)
      have hv' : ac_MV τ κ v := ⟨fun k k1 k2 => by rw [hs.2.2 357 k (by omega), hm0.2.1.1 k k1 k2], h.2.1.2⟩
      have L := ma_dry_l (X := X) (Q := Q) hI hv' hn (κ 5 0).toNat 0 (by omega) (by omega)
      rw [ab_fo0] at L
      have w1 : ab_Same ac_PY σ (ab_fo τ 357 5 (κ 5 0) (fun k => ac_dv κ v n (5 + k))) := sX.fo (fun y _ _ => Or.inr (Or.inr (by omega)))
      have key := hQ0 eT _ (ac_endY w1).1 (ac_endY w1).2.1 (ac_endY w1).2.2 (h.act (ac_endY w1).1 (fun k k1 k2 => by
        rw [ab_rdw_ne (by omega), ab_rdw_ne (by omega), ab_rdo]
        by_cases z : 5 ≤ k ∧ k < 5 + κ 5 0
        · rw [if_pos (by omega), show 5 + (k - 5) = k by omega]
        · rw [if_neg (by omega), hv'.1 k k1 k2]
          exact (if_neg (fun u => z ⟨u.1, u.2.1⟩)).symm) (ac_dv_VB h.2.1.2 hn n5.2) (ac_HM.same (σ := ab_fo τ 357 5 (κ 5 0) (fun k => ac_dv κ v n (5 + k))) ⟨by rw [ab_rdo_ne (by omega)]; exact hH.1, by rw [ab_rdo_ne (by omega)]; exact hH.2.1, hH.2.2.1, hH.2.2.2.1, fun i k a1 a2 a3 a4 => by rw [ab_rdo_ne (by omega)]; exact hH.2.2.2.2.1 i k a1 a2 a3 a4, fun i k a1 a2 a3 a4 => by rw [ab_rdo_ne (by omega)]; exact hH.2.2.2.2.2 i k a1 a2 a3 a4⟩ ac_end2))
      have k2 := L.mpr key
      clear hQ0 hQ1 hH L
      simp (disch := omega) only [rX13_dry_38, rX13_dry_39, ne_eq, not_false_eq_true, not_true_eq_false, true_and, and_true, and_self, true_imp_iff, false_imp_iff, imp_self, Bool.not_false, Bool.not_true, reduceCtorEq, ab_isJ, ab_psh, ab_cats, Bool.false_eq_true, if_true, if_false, ab_shf, ab_shw, Int.le_refl, Classical.not_not, Int.zero_add, forall_const, ↓ab_itT, ↓ab_itF, ab_anT, ab_w32_id, ab_rdf_ne, ab_rdw_ne, ab_rdw_eq, ab_rdf_in, ab_td2, ab_tm2]
      exact k2
    · have eT : ac_dyT κ n = 2 := (by unfold ac_dyT; rw [if_pos hp, if_neg hn])
      have hq' := hQ1 (by rw [eT]; decide) _ (ac_end1 ac_mq0).1 (by rw [eT]; exact (ac_end1 ac_mq0).2.1) (ac_end1 ac_mq0).2.2
      simp (disch := omega) only [do_X13_dry, rX13_dry_0, rX13_dry_1, rX13_dry_2, rX13_dry_5, rX13_dry_6, rX13_dry_9, rX13_dry_12, rX13_dry_13, rX13_dry_14, rX13_dry_17, rX13_dry_18, rX13_dry_19, rX13_dry_20, rX13_dry_22, rX13_dry_25, rX13_dry_28, rX13_dry_29, rX13_dry_30, rX13_dry_33, gS_355, g0, g, h3, cin, if_neg hn, cd, ne_eq, not_false_eq_true, not_true_eq_false, true_and, and_true, and_self, true_imp_iff, false_imp_iff, imp_self, Bool.not_false, Bool.not_true, reduceCtorEq, ab_isJ, ab_psh, ab_cats, Bool.false_eq_true, if_true, if_false, ab_shf, ab_shw, Int.le_refl, Classical.not_not, Int.zero_add, forall_const, ↓ab_itT, ↓ab_itF, ab_anT, true_or]
      all_goals exact hq'
  · have e0 := h'.null hp
    have eT : ac_dyT κ n = 1 := (by unfold ac_dyT; rw [if_neg hp])
    have hq' := hQ1 (by rw [eT]; decide) _ (ac_end1 ac_mq0).1 (by rw [eT]; exact (ac_end1 ac_mq0).2.1) (ac_end1 ac_mq0).2.2
    simp (disch := omega) only [do_X13_dry, rX13_dry_0, rX13_dry_1, rX13_dry_2, rX13_dry_5, rX13_dry_6, rX13_dry_9, rX13_dry_12, rX13_dry_13, rX13_dry_14, rX13_dry_17, rX13_dry_18, rX13_dry_19, rX13_dry_20, rX13_dry_22, rX13_dry_25, rX13_dry_28, rX13_dry_29, rX13_dry_30, rX13_dry_33, gS_355, g0, g, e0, cd, ne_eq, not_false_eq_true, not_true_eq_false, true_and, and_true, and_self, true_imp_iff, false_imp_iff, imp_self, Bool.not_false, Bool.not_true, reduceCtorEq, ab_isJ, ab_psh, ab_cats, Bool.false_eq_true, if_true, if_false, ab_shf, ab_shw, Int.le_refl, Classical.not_not, Int.zero_add, forall_const, ↓ab_itT, ↓ab_itF, ab_anT, true_or]
    all_goals exact hq'
end
