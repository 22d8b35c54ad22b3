/-! TOKENS: the reference's goesOn -/
def ac_UO (σ : ab_S) (n : Int) (tp : Int → Int) : Prop := ab_Geo σ ∧ ab_rd σ 355 7 = n ∧ (0 ≤ n ∧ n ≤ 1000) ∧ (∀ i, 0 ≤ i → i < n → ab_rd σ 356 i = tp i ∧ -128 ≤ tp i ∧ tp i ≤ 127)
def ac_PU : Int → Int → Prop := fun a f => a = 355 ∧ ((8 ≤ f ∧ f ≤ 12) ∨ f = 15)
theorem ac_PU_T : ∀ f : Fin 16, 8 ≤ f.val → ab_pt 355 f.val = 0 := by decide +kernel
theorem ac_PU_pt : ∀ a f, 0 ≤ a → a ≤ 368 → 0 ≤ f → ac_PU a f → ab_pt a f = 0 := by
  intro a f h1 h2 h3 hp
  obtain ⟨rfl, q⟩ := hp
  have := ac_PU_T ⟨f.toNat, by omega⟩ (by dsimp only; omega)
  dsimp only at this
  rwa [Int.toNat_of_nonneg h3] at this
theorem ac_b255f : ∀ b : Fin 256, ab_ok32 (fun x y => x &&& y) ((b.val : Int) - 128) 255 = ((b.val : Int) - 128) % 256 := by decide +kernel
theorem ac_b255 {b : Int} (h : -128 ≤ b ∧ b ≤ 127) : ab_ok32 (fun x y => x &&& y) b 255 = b % 256 := by
  have := ac_b255f ⟨(b + 128).toNat, by omega⟩
  dsimp only at this
  rwa [Int.toNat_of_nonneg (by omega), show b + 128 - 128 = b by omega] at this
def ac_ub (tp : Int → Int) (n i : Int) : Int := if i < n then tp i % 256 else -1
section
variable {X : ab_X} {σ τ υ : ab_S} {Q : Option ab_V → ab_S → Prop} {n p s x y t i ln a f g x' y' c : Int} {tp : Int → Int} {l1 : ab_V}
theorem ac_UO.same (h : ac_UO σ n tp) (hs : ab_Same ac_PU σ τ) : ac_UO τ n tp := by
  obtain ⟨h1, h2, h3, h4⟩ := h
  exact ⟨h1.same hs ac_PU_pt, by rw [hs.2.2 355 7 (by unfold ac_PU; omega), h2], h3, fun i i1 i2 => by rw [hs.2.2 356 i (by unfold ac_PU; omega)]; exact h4 i i1 i2⟩
theorem mq_byteAt (h : ac_UO σ n tp) (hi : 0 ≤ i) : ab_Do X 167 [ab_R 355, ab_I i] σ Q ↔ Q (some (ab_I (ac_ub tp n i))) σ := by
  obtain ⟨h1, h2, h3, h4⟩ := h
  unfold ac_ub
  by_cases z : i < n
  · obtain ⟨e4, t1, t2⟩ := h4 i hi z
    have eb := ac_b255 (b := tp i) ⟨t1, t2⟩
    rw [if_pos z]
    clear h4
    simp (disch := omega) only [do_X13_byteAt, rX13_byteAt_0, rX13_byteAt_1, rX13_byteAt_2, rX13_byteAt_5, rX13_byteAt_8, rX13_byteAt_9, rX13_byteAt_12, rX13_byteAt_13, rX13_byteAt_14, rX13_byteAt_17, rX13_byteAt_18, rX13_byteAt_21, rX13_byteAt_22, gS_355, gP_355_5, gS_356, h1, h2, e4, eb, ne_eq, not_false_eq_true, not_true_eq_false, true_and, and_true, and_self, true_imp_iff, false_imp_iff, imp_self, Bool.not_false, Bool.not_true, reduceCtorEq, ab_isJ, ab_psh, ab_cats, Bool.false_eq_true, if_true, if_false, ab_shf, ab_shw, Int.le_refl, Classical.not_not, Int.zero_add, forall_const, ↓ab_itT, ↓ab_itF, ab_anT, ab_w32_id, ab_rdf_ne, ab_rdw_ne, ab_rdw_eq, ab_rdf_in, ab_td2, ab_tm2, true_or, or_true]
  · rw [if_neg z]
    clear h4
    simp (disch := omega) only [do_X13_byteAt, rX13_byteAt_0, rX13_byteAt_1, rX13_byteAt_2, rX13_byteAt_5, rX13_byteAt_8, rX13_byteAt_9, rX13_byteAt_12, rX13_byteAt_13, rX13_byteAt_14, rX13_byteAt_17, rX13_byteAt_18, rX13_byteAt_21, rX13_byteAt_22, gS_355, h1, h2, ne_eq, not_false_eq_true, not_true_eq_false, true_and, and_true, and_self, true_imp_iff, false_imp_iff, imp_self, Bool.not_false, Bool.not_true, reduceCtorEq, ab_isJ, ab_psh, ab_cats, Bool.false_eq_true, if_true, if_false, ab_shf, ab_shw, Int.le_refl, Classical.not_not, Int.zero_add, forall_const, ↓ab_itT, ↓ab_itF, ab_anT, ab_w32_id, ab_rdf_ne, ab_rdw_ne, ab_rdw_eq, ab_rdf_in, ab_td2, ab_tm2, true_or, or_true]
theorem mq_isLetter : ab_Do X 168 [ab_I c] σ Q ↔ Q (some (ab_I (if 97 ≤ c ∧ c ≤ 122 then 1 else 0))) σ := by
  by_cases z1 : 97 ≤ c
  · by_cases z2 : c ≤ 122
    · rw [if_pos ⟨z1, z2⟩]
      simp (disch := omega) only [do_X13_isLetter, rX13_isLetter_0, rX13_isLetter_1, rX13_isLetter_3, rX13_isLetter_6, rX13_isLetter_7, rX13_isLetter_9, rX13_isLetter_12, rX13_isLetter_13, rX13_isLetter_16, rX13_isLetter_17, ne_eq, not_false_eq_true, not_true_eq_false, true_and, and_true, and_self, true_imp_iff, false_imp_iff, imp_self, Bool.not_false, Bool.not_true, reduceCtorEq, ab_isJ, ab_psh, ab_cats, Bool.false_eq_true, if_true, if_false, ab_shf, ab_shw, Int.le_refl, Classical.not_not, Int.zero_add, forall_const, ↓ab_itT, ↓ab_itF, ab_anT, ab_w32_id, ab_rdf_ne, ab_rdw_ne, ab_rdw_eq, ab_rdf_in, ab_td2, ab_tm2, true_or, or_true]
    · rw [if_neg (by omega)]
      simp (disch := omega) only [do_X13_isLetter, rX13_isLetter_0, rX13_isLetter_1, rX13_isLetter_3, rX13_isLetter_6, rX13_isLetter_7, rX13_isLetter_9, rX13_isLetter_12, rX13_isLetter_13, rX13_isLetter_16, rX13_isLetter_17, ne_eq, not_false_eq_true, not_true_eq_false, true_and, and_true, and_self, true_imp_iff, false_imp_iff, imp_self, Bool.not_false, Bool.not_true, reduceCtorEq, ab_isJ, ab_psh, ab_cats, Bool.false_eq_true, if_true, if_false, ab_shf, ab_shw, Int.le_refl, Classical.not_not, Int.zero_add, forall_const, ↓ab_itT, ↓ab_itF, ab_anT, ab_w32_id, ab_rdf_ne, ab_rdw_ne, ab_rdw_eq, ab_rdf_in, ab_td2, ab_tm2, true_or, or_true]
  · rw [if_neg (by omega)]
    simp (disch := omega) only [do_X13_isLetter, rX13_isLetter_0, rX13_isLetter_1, rX13_isLetter_3, rX13_isLetter_6, rX13_isLetter_7, rX13_isLetter_9, rX13_isLetter_12, rX13_isLetter_13, rX13_isLetter_16, rX13_isLetter_17, ne_eq, not_false_eq_true, not_true_eq_false, true_and, and_true, and_self, true_imp_iff, false_imp_iff, imp_self, Bool.not_false, Bool.not_true, reduceCtorEq, ab_isJ, ab_psh, ab_cats, Bool.false_eq_true, if_true, if_false, ab_shf, ab_shw, Int.le_refl, Classical.not_not, Int.zero_add, forall_const, ↓ab_itT, ↓ab_itF, ab_anT, ab_w32_id, ab_rdf_ne, ab_rdw_ne, ab_rdw_eq, ab_rdf_in, ab_td2, ab_tm2, true_or, or_true]
theorem mq_isDigit : ab_Do X 169 [ab_I c] σ Q ↔ Q (some (ab_I (if 48 ≤ c ∧ c ≤ 57 then 1 else 0))) σ := by
  by_cases z1 : 48 ≤ c
  · by_cases z2 : c ≤ 57
    · rw [if_pos ⟨z1, z2⟩]
      simp (disch := omega) only [do_X13_isDigit, rX13_isDigit_0, rX13_isDigit_1, rX13_isDigit_3, rX13_isDigit_6, rX13_isDigit_7, rX13_isDigit_9, rX13_isDigit_12, rX13_isDigit_13, rX13_isDigit_16, rX13_isDigit_17, ne_eq, not_false_eq_true, not_true_eq_false, true_and, and_true, and_self, true_imp_iff, false_imp_iff, imp_self, Bool.not_false, Bool.not_true, reduceCtorEq, ab_isJ, ab_psh, ab_cats, Bool.false_eq_true, if_true, if_false, ab_shf, ab_shw, Int.le_refl, Classical.not_not, Int.zero_add, forall_const, ↓ab_itT, ↓ab_itF, ab_anT, ab_w32_id, ab_rdf_ne, ab_rdw_ne, ab_rdw_eq, ab_rdf_in, ab_td2, ab_tm2, true_or, or_true]
    · rw [if_neg (by omega)]
      simp (disch := omega) only [do_X13_isDigit, rX13_isDigit_0, rX13_isDigit_1, rX13_isDigit_3, rX13_isDigit_6, rX13_isDigit_7, rX13_isDigit_9, rX13_isDigit_12, rX13_isDigit_13, rX13_isDigit_16, rX13_isDigit_17, ne_eq, not_false_eq_true, not_true_eq_false, true_and, and_true, and_self, true_imp_iff, false_imp_iff, imp_self, Bool.not_false, Bool.not_true, reduceCtorEq, ab_isJ, ab_psh, ab_cats, Bool.false_eq_true, if_true, if_false, ab_shf, ab_shw, Int.le_refl, Classical.not_not, Int.zero_add, forall_const, ↓ab_itT, ↓ab_itF, ab_anT, ab_w32_id, ab_rdf_ne, ab_rdw_ne, ab_rdw_eq, ab_rdf_in, ab_td2, ab_tm2, true_or, or_true]
  · rw [if_neg (by omega)]
    simp (disch := omega) only [do_X13_isDigit, rX13_isDigit_0, rX13_isDigit_1, rX13_isDigit_3, rX13_isDigit_6, rX13_isDigit_7, rX13_isDigit_9, rX13_isDigit_12, rX13_isDigit_13, rX13_isDigit_16, rX13_isDigit_17, ne_eq, not_false_eq_true, not_true_eq_false, true_and, and_true, and_self, true_imp_iff, false_imp_iff, imp_self, Bool.not_false, Bool.not_true, reduceCtorEq, ab_isJ, ab_psh, ab_cats, Bool.false_eq_true, if_true, if_false, ab_shf, ab_shw, Int.le_refl, Classical.not_not, Int.zero_add, forall_const, ↓ab_itT, ↓ab_itF, ab_anT, ab_w32_id, ab_rdf_ne, ab_rdw_ne, ab_rdw_eq, ab_rdf_in, ab_td2, ab_tm2, true_or, or_true]
theorem ac_w2 (h : f ≠ g) : ab_wr (ab_wr (ab_wr (ab_wr σ a f x) a g y) a f x') a g y' = ab_wr (ab_wr σ a f x') a g y' := ab_sext rfl (fun _ => rfl) (fun b k => by
  rw [ab_rdw, ab_rdw, ab_rdw, ab_rdw, ab_rdw, ab_rdw]
  by_cases z : b = a ∧ k = g
  · rw [if_pos z, if_pos z]
  · rw [if_neg z, if_neg z]
    by_cases z2 : b = a ∧ k = f
    · rw [if_pos z2, if_pos z2, if_neg z]
    · rw [if_neg z2, if_neg z2, if_neg z, if_neg z2])
theorem mq_go_s (h : ac_UO σ n tp) : ∀ (d : Nat) (p : Int), 0 ≤ p → p + d = n → (ab_Run X 171 9 (1, 0, 0) [ab_R 355, ab_R 0, ab_R 0] [] (ab_wr σ 355 8 p) Q ↔ ab_Run X 171 35 (1, 0, 0) [ab_R 355, ab_R 0, ab_R 0] [] (ab_wr σ 355 8 (ac_ru 32 32 tp n d p)) Q) := by
  have g := h.1
  intro d
  induction d with
  | zero =>
    intro p hp hd
    unfold ac_ru
    have s1 : ab_Same ac_PU σ (ab_wr σ 355 8 p) := ab_Same.refl.wr (by unfold ac_PU; omega)
    have c1 := fun Q' => mq_byteAt (X := X) (Q := Q') (i := p) (h.same s1) hp
    have e : ac_ub tp n p = -1 := by unfold ac_ub; rw [if_neg (by omega)]
    rw [e] at c1
    rw [rX13_goesOn_9]
    simp (disch := omega) only [rX13_goesOn_10, rX13_goesOn_11, rX13_goesOn_14, rX13_goesOn_17, rX13_goesOn_19, gS_355, g, c1, ne_eq, not_false_eq_true, not_true_eq_false, true_and, and_true, and_self, true_imp_iff, false_imp_iff, imp_self, Bool.not_false, Bool.not_true, reduceCtorEq, ab_isJ, ab_psh, ab_cats, Bool.false_eq_true, if_true, if_false, ab_shf, ab_shw, Int.le_refl, Classical.not_not, Int.zero_add, forall_const, ↓ab_itT, ↓ab_itF, ab_anT, ab_w32_id, ab_rdf_ne, ab_rdw_ne, ab_rdw_eq, ab_rdf_in, ab_td2, ab_tm2]
  | succ d ih =>
    intro p hp hd
    have t := (h.2.2.2 p hp (by omega)).2
    have s1 : ab_Same ac_PU σ (ab_wr σ 355 8 p) := ab_Same.refl.wr (by unfold ac_PU; omega)
    have c1 := fun Q' => mq_byteAt (X := X) (Q := Q') (i := p) (h.same s1) hp
    have e : ac_ub tp n p = tp p % 256 := by unfold ac_ub; rw [if_pos (by omega)]
    rw [e] at c1
    have nb := h.2.2.1
    rw [rX13_goesOn_9]
    unfold ac_ru
    by_cases z1 : tp p = 32
    · rw [if_pos ⟨by omega, by omega, by omega⟩]
      have key := ih (p + 1) (by omega) (by omega)
      rw [← key]
      clear key ih h
      simp (disch := omega) only [rX13_goesOn_10, rX13_goesOn_11, rX13_goesOn_14, rX13_goesOn_17, rX13_goesOn_19, rX13_goesOn_22, rX13_goesOn_23I, rX13_goesOn_23R, rX13_goesOn_24, rX13_goesOn_27, rX13_goesOn_28, rX13_goesOn_29, rX13_goesOn_32, gS_355, g, c1, ab_w32_id, ab_ww, ne_eq, not_false_eq_true, not_true_eq_false, true_and, and_true, and_self, true_imp_iff, false_imp_iff, imp_self, Bool.not_false, Bool.not_true, reduceCtorEq, ab_isJ, ab_psh, ab_cats, Bool.false_eq_true, if_true, if_false, ab_shf, ab_shw, Int.le_refl, Classical.not_not, Int.zero_add, forall_const, ↓ab_itT, ↓ab_itF, ab_anT, ab_w32_id, ab_rdf_ne, ab_rdw_ne, ab_rdw_eq, ab_rdf_in, ab_td2, ab_tm2, true_or, or_true]
    · rw [if_neg (by omega)]
      clear ih h
      simp (disch := omega) only [rX13_goesOn_10, rX13_goesOn_11, rX13_goesOn_14, rX13_goesOn_17, rX13_goesOn_19, gS_355, g, c1, ne_eq, not_false_eq_true, not_true_eq_false, true_and, and_true, and_self, true_imp_iff, false_imp_iff, imp_self, Bool.not_false, Bool.not_true, reduceCtorEq, ab_isJ, ab_psh, ab_cats, Bool.false_eq_true, if_true, if_false, ab_shf, ab_shw, Int.le_refl, Classical.not_not, Int.zero_add, forall_const, ↓ab_itT, ↓ab_itF, ab_anT, ab_w32_id, ab_rdf_ne, ab_rdw_ne, ab_rdw_eq, ab_rdf_in, ab_td2, ab_tm2, true_or, or_true]
theorem mq_go_w (h : ac_UO σ n tp) : ∀ (d : Nat) (i m x : Int), 0 ≤ i → i + d = n → (0 ≤ m ∧ m ≤ i) → (∀ y, (m + (ac_ru 97 122 tp n d i - i) ≤ 8 → y = ac_kw 32 tp (ac_ru 97 122 tp n d i - i).toNat i x) → ab_Run X 171 152 (1, 0, 0) [ab_R 355, ab_I c, ab_I (m + (ac_ru 97 122 tp n d i - i))] [] (ab_wr (ab_wr σ 355 15 y) 355 8 (ac_ru 97 122 tp n d i)) Q) → ab_Run X 171 89 (1, 0, 0) [ab_R 355, ab_I c, ab_I m] [] (ab_wr (ab_wr σ 355 15 x) 355 8 i) Q := by
  have g := h.1
  have nb := h.2.2.1
  have cl := fun c σ Q' => mq_isLetter (X := X) (σ := σ) (Q := Q') (c := c)
  intro d
  induction d with
  | zero =>
    intro i m x hi hd hm hQ
    have key := hQ x (fun _ => by unfold ac_ru; rw [show (i - i).toNat = 0 by omega]; rfl)
    unfold ac_ru at key
    rw [show m + (i - i) = m by omega] at key
    have s1 : ab_Same ac_PU σ (ab_wr (ab_wr σ 355 15 x) 355 8 i) := (ab_Same.refl.wr (by unfold ac_PU; omega)).wr (by unfold ac_PU; omega)
    have c1 := fun Q' => mq_byteAt (X := X) (Q := Q') (i := i) (h.same s1) hi
    have e : ac_ub tp n i = -1 := by unfold ac_ub; rw [if_neg (by omega)]
    rw [e] at c1
    have cl' := fun Q' => cl (-1) (ab_wr (ab_wr σ 355 15 x) 355 8 i) Q'
    rw [if_neg (by omega)] at cl'
    clear hQ h cl
    rw [rX13_goesOn_89]
    simp (disch := omega) only [rX13_goesOn_90, rX13_goesOn_91, rX13_goesOn_94, rX13_goesOn_97, rX13_goesOn_100, gS_355, g, c1, cl', ne_eq, not_false_eq_true, not_true_eq_false, true_and, and_true, and_self, true_imp_iff, false_imp_iff, imp_self, Bool.not_false, Bool.not_true, reduceCtorEq, ab_isJ, ab_psh, ab_cats, Bool.false_eq_true, if_true, if_false, ab_shf, ab_shw, Int.le_refl, Classical.not_not, Int.zero_add, forall_const, ↓ab_itT, ↓ab_itF, ab_anT, ab_w32_id, ab_rdf_ne, ab_rdw_ne, ab_rdw_eq, ab_rdf_in, ab_td2, ab_tm2]
    all_goals exact key
  | succ d ih =>
    intro i m x hi hd hm hQ
    have t := (h.2.2.2 i hi (by omega)).2
    have s1 : ab_Same ac_PU σ (ab_wr (ab_wr σ 355 15 x) 355 8 i) := (ab_Same.refl.wr (by unfold ac_PU; omega)).wr (by unfold ac_PU; omega)
    have c1 := fun Q' => mq_byteAt (X := X) (Q := Q') (i := i) (h.same s1) hi
    have e : ac_ub tp n i = tp i % 256 := by unfold ac_ub; rw [if_pos (by omega)]
    rw [e] at c1
    have cl' := fun Q' => cl (tp i % 256) (ab_wr (ab_wr σ 355 15 x) 355 8 i) Q'
    unfold ac_ru at hQ
    rw [rX13_goesOn_89]
    by_cases z : 97 ≤ tp i ∧ tp i ≤ 122
    · have em : tp i % 256 = tp i := by omega
      rw [if_pos ⟨by omega, z⟩] at hQ
      rw [em] at c1 cl'
      rw [if_pos z] at cl'
      have rb := ac_ru_b (lo := 97) (hi := 122) (tp := tp) (n := n) d (i + 1) (by omega)
      have et : (ac_ru 97 122 tp n d (i + 1) - i).toNat = (ac_ru 97 122 tp n d (i + 1) - (i + 1)).toNat + 1 := by omega
      rw [et] at hQ
      have em1 : m + (ac_ru 97 122 tp n d (i + 1) - i) = m + 1 + (ac_ru 97 122 tp n d (i + 1) - (i + 1)) := by omega
      rw [em1] at hQ
      by_cases z8 : m < 8
      · have key := ih (i + 1) (m + 1) (ab_w64 (ab_w64 (32 * x) + (tp i - 97 + 1))) (by omega) (by omega) (by omega) hQ
        rw [← ac_w2 (x := x) (y := i) (by decide)] at key
        clear hQ h cl ih s1
        simp (disch := omega) only [rX13_goesOn_90, rX13_goesOn_91, rX13_goesOn_94, rX13_goesOn_97, rX13_goesOn_100, rX13_goesOn_103, rX13_goesOn_104, rX13_goesOn_106, rX13_goesOn_109, rX13_goesOn_110, rX13_goesOn_113, rX13_goesOn_114, rX13_goesOn_117, rX13_goesOn_118, rX13_goesOn_119, rX13_goesOn_120, rX13_goesOn_123, rX13_goesOn_126, rX13_goesOn_128, rX13_goesOn_129, rX13_goesOn_130, rX13_goesOn_131, rX13_goesOn_132, rX13_goesOn_133, rX13_goesOn_136, rX13_goesOn_139, rX13_goesOn_140I, rX13_goesOn_140R, rX13_goesOn_141, rX13_goesOn_144, rX13_goesOn_145, rX13_goesOn_146, rX13_goesOn_149, gS_355, g, c1, cl', ab_w32_id, ne_eq, not_false_eq_true, not_true_eq_false, true_and, and_true, and_self, true_imp_iff, false_imp_iff, imp_self, Bool.not_false, Bool.not_true, reduceCtorEq, ab_isJ, ab_psh, ab_cats, Bool.false_eq_true, if_true, if_false, ab_shf, ab_shw, Int.le_refl, Classical.not_not, Int.zero_add, forall_const, ↓ab_itT, ↓ab_itF, ab_anT, ab_w32_id, ab_rdf_ne, ab_rdw_ne, ab_rdw_eq, ab_rdf_in, ab_td2, ab_tm2, true_or, or_true]
        all_goals exact key
      · have key := ih (i + 1) (m + 1) x (by omega) (by omega) (by omega) (fun y hy => hQ y (fun u => by omega))
        rw [← ab_ww (σ := ab_wr σ 355 15 x) (a := 355) (k := 8) (x := i) (y := i + 1)] at key
        clear hQ h cl ih s1
        simp (disch := omega) only [rX13_goesOn_90, rX13_goesOn_91, rX13_goesOn_94, rX13_goesOn_97, rX13_goesOn_100, rX13_goesOn_103, rX13_goesOn_104, rX13_goesOn_106, rX13_goesOn_109, rX13_goesOn_110, rX13_goesOn_113, rX13_goesOn_114, rX13_goesOn_117, rX13_goesOn_118, rX13_goesOn_119, rX13_goesOn_120, rX13_goesOn_123, rX13_goesOn_126, rX13_goesOn_128, rX13_goesOn_129, rX13_goesOn_130, rX13_goesOn_131, rX13_goesOn_132, rX13_goesOn_133, rX13_goesOn_136, rX13_goesOn_139, rX13_goesOn_140I, rX13_goesOn_140R, rX13_goesOn_141, rX13_goesOn_144, rX13_goesOn_145, rX13_goesOn_146, rX13_goesOn_149, gS_355, g, c1, cl', ab_w32_id, ne_eq, not_false_eq_true, not_true_eq_false, true_and, and_true, and_self, true_imp_iff, false_imp_iff, imp_self, Bool.not_false, Bool.not_true, reduceCtorEq, ab_isJ, ab_psh, ab_cats, Bool.false_eq_true, if_true, if_false, ab_shf, ab_shw, Int.le_refl, Classical.not_not, Int.zero_add, forall_const, ↓ab_itT, ↓ab_itF, ab_anT, ab_w32_id, ab_rdf_ne, ab_rdw_ne, ab_rdw_eq, ab_rdf_in, ab_td2, ab_tm2, true_or, or_true]
        all_goals exact key
    · have key : ab_Run X 171 152 (1, 0, 0) [ab_R 355, ab_I c, ab_I m] [] (ab_wr (ab_wr σ 355 15 x) 355 8 i) Q := by
        rw [if_neg (fun u => z u.2), show (i - i).toNat = 0 by omega, show m + (i - i) = m by omega] at hQ
        exact hQ x (fun _ => rfl)
      rw [if_neg (by omega)] at cl'
      clear hQ h cl ih s1
      simp (disch := omega) only [rX13_goesOn_90, rX13_goesOn_91, rX13_goesOn_94, rX13_goesOn_97, rX13_goesOn_100, gS_355, g, c1, cl', ne_eq, not_false_eq_true, not_true_eq_false, true_and, and_true, and_self, true_imp_iff, false_imp_iff, imp_self, Bool.not_false, Bool.not_true, reduceCtorEq, ab_isJ, ab_psh, ab_cats, Bool.false_eq_true, if_true, if_false, ab_shf, ab_shw, Int.le_refl, Classical.not_not, Int.zero_add, forall_const, ↓ab_itT, ↓ab_itF, ab_anT, ab_w32_id, ab_rdf_ne, ab_rdw_ne, ab_rdw_eq, ab_rdf_in, ab_td2, ab_tm2, true_or, or_true]
      all_goals exact key
theorem mq_go_v (h : ac_UO σ n tp) : ∀ (d : Nat) (i m x : Int), 0 ≤ i → i + d = n → (0 ≤ m ∧ m ≤ i) → (0 ≤ x ∧ (m = 0 → x = 0) ∧ (m = 1 → x ≤ 9)) → (∀ y, (m + (ac_ru 48 57 tp n d i - i) ≤ 2 → y = ac_kv tp (ac_ru 48 57 tp n d i - i).toNat i x) → ab_Run X 171 236 (1, 0, 0) [ab_R 355, ab_I c, ab_I (m + (ac_ru 48 57 tp n d i - i))] [] (ab_wr (ab_wr σ 355 12 y) 355 8 (ac_ru 48 57 tp n d i)) Q) → ab_Run X 171 178 (1, 0, 0) [ab_R 355, ab_I c, ab_I m] [] (ab_wr (ab_wr σ 355 12 x) 355 8 i) Q := by
  have g := h.1
  have nb := h.2.2.1
  have cl := fun c σ Q' => mq_isDigit (X := X) (σ := σ) (Q := Q') (c := c)
  intro d
  induction d with
  | zero =>
    intro i m x hi hd hm hx hQ
    have key := hQ x (fun _ => by unfold ac_ru; rw [show (i - i).toNat = 0 by omega]; rfl)
    unfold ac_ru at key
    rw [show m + (i - i) = m by omega] at key
    have s1 : ab_Same ac_PU σ (ab_wr (ab_wr σ 355 12 x) 355 8 i) := (ab_Same.refl.wr (by unfold ac_PU; omega)).wr (by unfold ac_PU; omega)
    have c1 := fun Q' => mq_byteAt (X := X) (Q := Q') (i := i) (h.same s1) hi
    have e : ac_ub tp n i = -1 := by unfold ac_ub; rw [if_neg (by omega)]
    rw [e] at c1
    have cl' := fun Q' => cl (-1) (ab_wr (ab_wr σ 355 12 x) 355 8 i) Q'
    rw [if_neg (by omega)] at cl'
    clear hQ h cl
    rw [rX13_goesOn_178]
    simp (disch := omega) only [rX13_goesOn_179, rX13_goesOn_180, rX13_goesOn_183, rX13_goesOn_186, rX13_goesOn_189, gS_355, g, c1, cl', ne_eq, not_false_eq_true, not_true_eq_false, true_and, and_true, and_self, true_imp_iff, false_imp_iff, imp_self, Bool.not_false, Bool.not_true, reduceCtorEq, ab_isJ, ab_psh, ab_cats, Bool.false_eq_true, if_true, if_false, ab_shf, ab_shw, Int.le_refl, Classical.not_not, Int.zero_add, forall_const, ↓ab_itT, ↓ab_itF, ab_anT, ab_w32_id, ab_rdf_ne, ab_rdw_ne, ab_rdw_eq, ab_rdf_in, ab_td2, ab_tm2]
    all_goals exact key
  | succ d ih =>
    intro i m x hi hd hm hx hQ
    have t := (h.2.2.2 i hi (by omega)).2
    have s1 : ab_Same ac_PU σ (ab_wr (ab_wr σ 355 12 x) 355 8 i) := (ab_Same.refl.wr (by unfold ac_PU; omega)).wr (by unfold ac_PU; omega)
    have c1 := fun Q' => mq_byteAt (X := X) (Q := Q') (i := i) (h.same s1) hi
    have e : ac_ub tp n i = tp i % 256 := by unfold ac_ub; rw [if_pos (by omega)]
    rw [e] at c1
    have cl' := fun Q' => cl (tp i % 256) (ab_wr (ab_wr σ 355 12 x) 355 8 i) Q'
    unfold ac_ru at hQ
    rw [rX13_goesOn_178]
    by_cases z : 48 ≤ tp i ∧ tp i ≤ 57
    · have em : tp i % 256 = tp i := by omega
      rw [if_pos ⟨by omega, z⟩] at hQ
      rw [em] at c1 cl'
      rw [if_pos z] at cl'
      have rb := ac_ru_b (lo := 48) (hi := 57) (tp := tp) (n := n) d (i + 1) (by omega)
      have et : (ac_ru 48 57 tp n d (i + 1) - i).toNat = (ac_ru 48 57 tp n d (i + 1) - (i + 1)).toNat + 1 := by omega
      rw [et] at hQ
      have em1 : m + (ac_ru 48 57 tp n d (i + 1) - i) = m + 1 + (ac_ru 48 57 tp n d (i + 1) - (i + 1)) := by omega
      rw [em1] at hQ
      by_cases z8 : m < 2
      · have hx9 : x ≤ 9 := by omega
        have w1 : ab_w32 (ab_w32 (10 * x) + (tp i - 48)) = 10 * x + tp i - 48 := by rw [ab_w32_id (x := 10 * x) (by omega) (by omega), ab_w32_id (by omega) (by omega)]; omega
        have key := ih (i + 1) (m + 1) (ab_w32 (ab_w32 (10 * x) + (tp i - 48))) (by omega) (by omega) (by omega) (by rw [w1]; omega) hQ
        rw [w1, ← ac_w2 (x := x) (y := i) (by decide)] at key
        clear hQ h cl ih s1 w1
        simp (disch := omega) only [rX13_goesOn_179, rX13_goesOn_180, rX13_goesOn_183, rX13_goesOn_186, rX13_goesOn_189, rX13_goesOn_192, rX13_goesOn_193, rX13_goesOn_194, rX13_goesOn_197, rX13_goesOn_198, rX13_goesOn_200, rX13_goesOn_201, rX13_goesOn_204, rX13_goesOn_205, rX13_goesOn_206, rX13_goesOn_207, rX13_goesOn_210, rX13_goesOn_213, rX13_goesOn_214, rX13_goesOn_216, rX13_goesOn_217, rX13_goesOn_220, rX13_goesOn_223, rX13_goesOn_224I, rX13_goesOn_224R, rX13_goesOn_225, rX13_goesOn_228, rX13_goesOn_229, rX13_goesOn_230, rX13_goesOn_233, gS_355, g, c1, cl', ab_w32_id, ne_eq, not_false_eq_true, not_true_eq_false, true_and, and_true, and_self, true_imp_iff, false_imp_iff, imp_self, Bool.not_false, Bool.not_true, reduceCtorEq, ab_isJ, ab_psh, ab_cats, Bool.false_eq_true, if_true, if_false, ab_shf, ab_shw, Int.le_refl, Classical.not_not, Int.zero_add, forall_const, ↓ab_itT, ↓ab_itF, ab_anT, ab_w32_id, ab_rdf_ne, ab_rdw_ne, ab_rdw_eq, ab_rdf_in, ab_td2, ab_tm2, true_or, or_true]
        all_goals exact key
      · have key := ih (i + 1) (m + 1) x (by omega) (by omega) (by omega) (by omega) (fun y hy => hQ y (fun u => by omega))
        rw [← ab_ww (σ := ab_wr σ 355 12 x) (a := 355) (k := 8) (x := i) (y := i + 1)] at key
        clear hQ h cl ih s1
        simp (disch := omega) only [rX13_goesOn_179, rX13_goesOn_180, rX13_goesOn_183, rX13_goesOn_186, rX13_goesOn_189, rX13_goesOn_192, rX13_goesOn_193, rX13_goesOn_194, rX13_goesOn_197, rX13_goesOn_198, rX13_goesOn_200, rX13_goesOn_201, rX13_goesOn_204, rX13_goesOn_205, rX13_goesOn_206, rX13_goesOn_207, rX13_goesOn_210, rX13_goesOn_213, rX13_goesOn_214, rX13_goesOn_216, rX13_goesOn_217, rX13_goesOn_220, rX13_goesOn_223, rX13_goesOn_224I, rX13_goesOn_224R, rX13_goesOn_225, rX13_goesOn_228, rX13_goesOn_229, rX13_goesOn_230, rX13_goesOn_233, gS_355, g, c1, cl', ab_w32_id, ne_eq, not_false_eq_true, not_true_eq_false, true_and, and_true, and_self, true_imp_iff, false_imp_iff, imp_self, Bool.not_false, Bool.not_true, reduceCtorEq, ab_isJ, ab_psh, ab_cats, Bool.false_eq_true, if_true, if_false, ab_shf, ab_shw, Int.le_refl, Classical.not_not, Int.zero_add, forall_const, ↓ab_itT, ↓ab_itF, ab_anT, ab_w32_id, ab_rdf_ne, ab_rdw_ne, ab_rdw_eq, ab_rdf_in, ab_td2, ab_tm2, true_or, or_true]
        all_goals exact key
    · have key : ab_Run X 171 236 (1, 0, 0) [ab_R 355, ab_I c, ab_I m] [] (ab_wr (ab_wr σ 355 12 x) 355 8 i) Q := by
        rw [if_neg (fun u => z u.2), show (i - i).toNat = 0 by omega, show m + (i - i) = m by omega] at hQ
        exact hQ x (fun _ => rfl)
      rw [if_neg (by omega)] at cl'
      clear hQ h cl ih s1
      simp (disch := omega) only [rX13_goesOn_179, rX13_goesOn_180, rX13_goesOn_183, rX13_goesOn_186, rX13_goesOn_189, gS_355, g, c1, cl', ne_eq, not_false_eq_true, not_true_eq_false, true_and, and_true, and_self, true_imp_iff, false_imp_iff, imp_self, Bool.not_false, Bool.not_true, reduceCtorEq, ab_isJ, ab_psh, ab_cats, Bool.false_eq_true, if_true, if_false, ab_shf, ab_shw, Int.le_refl, Classical.not_not, Int.zero_add, forall_const, ↓ab_itT, ↓ab_itF, ab_anT, ab_w32_id, ab_rdf_ne, ab_rdw_ne, ab_rdw_eq, ab_rdf_in, ab_td2, ab_tm2, true_or, or_true]
      all_goals exact key
end
