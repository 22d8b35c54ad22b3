/-! THE GAME: rests, rest, sure of the class -/
def ac_ge (f : Int → Int) (n v : Int) : Int := ab_it (fun i s => if v < f i then 0 else s) n.toNat 0 1
theorem ac_ge_l {f : Int → Int} {v : Int} : ∀ (n : Nat) (i s : Int), (s = 0 ∨ s = 1) → (ab_it (fun i s => if v < f i then 0 else s) n i s = 1 ↔ s = 1 ∧ ∀ k, i ≤ k → k < i + n → f k ≤ v)
  | 0, i, s, _ => by
    rw [ab_it]
    exact ⟨fun h => ⟨h, fun k h1 h2 => by omega⟩, fun h => h.1⟩
  | n + 1, i, s, hs => by
    rw [ab_it]
    by_cases w : v < f i
    · rw [if_pos w, ac_ge_l n (i + 1) 0 (Or.inl rfl)]
      exact ⟨fun h => by omega, fun h => by have := h.2 i (by omega) (by omega); omega⟩
    · rw [if_neg w, ac_ge_l n (i + 1) s hs]
      constructor
      · rintro ⟨h1, h2⟩
        refine ⟨h1, fun k k1 k2 => ?_⟩
        by_cases z : k = i
        · rw [z]; omega
        · exact h2 k (by omega) (by omega)
      · rintro ⟨h1, h2⟩
        exact ⟨h1, fun k k1 k2 => h2 k (by omega) (by omega)⟩
theorem ac_ge_iff {f : Int → Int} {n v : Int} (hn : 0 ≤ n) : ac_ge f n v = 1 ↔ ∀ k, 0 ≤ k → k < n → f k ≤ v := by
  unfold ac_ge
  rw [ac_ge_l n.toNat 0 1 (Or.inr rfl)]
  constructor
  · rintro ⟨-, h⟩ k k1 k2
    exact h k k1 (by omega)
  · intro h
    exact ⟨rfl, fun k k1 k2 => h k k1 (by omega)⟩
theorem ac_mx_l {f : Int → Int} : ∀ (n : Nat) (i s : Int), s ≤ ab_it (fun k s => if s < f k then f k else s) n i s ∧ (∀ k, i ≤ k → k < i + n → f k ≤ ab_it (fun k s => if s < f k then f k else s) n i s) ∧ (ab_it (fun k s => if s < f k then f k else s) n i s = s ∨ ∃ k, i ≤ k ∧ k < i + n ∧ ab_it (fun k s => if s < f k then f k else s) n i s = f k)
  | 0, i, s => by
    rw [ab_it]
    exact ⟨Int.le_refl s, fun k h1 h2 => by omega, Or.inl rfl⟩
  | n + 1, i, s => by
    rw [ab_it]
    obtain ⟨h1, h2, h3⟩ := ac_mx_l (f := f) n (i + 1) (if s < f i then f i else s)
    have hs : s ≤ (if s < f i then f i else s) ∧ f i ≤ (if s < f i then f i else s) := by split <;> omega
    refine ⟨by omega, fun k k1 k2 => ?_, ?_⟩
    · by_cases z : k = i
      · rw [z]; omega
      · exact h2 k (by omega) (by omega)
    · rcases h3 with h3 | ⟨k, k1, k2, k3⟩
      · by_cases w : s < f i
        · rw [if_pos w] at h3 ⊢
          exact Or.inr ⟨i, by omega, by omega, h3⟩
        · rw [if_neg w] at h3 ⊢
          exact Or.inl h3
      · exact Or.inr ⟨k, by omega, by omega, k3⟩
theorem ac_mx_ge {f : Int → Int} {n k : Int} (h1 : 0 ≤ k) (h2 : k < n) : f k ≤ ac_mx f n := (ac_mx_l n.toNat 0 0).2.1 k h1 (by omega)
theorem ac_mx_nn {f : Int → Int} {n : Int} : 0 ≤ ac_mx f n := (ac_mx_l n.toNat 0 0).1
theorem ac_mx_le {f : Int → Int} {n M : Int} (hM : 0 ≤ M) (h : ∀ k, 0 ≤ k → k < n → f k ≤ M) : ac_mx f n ≤ M := by
  rcases (ac_mx_l (f := f) n.toNat 0 0).2.2 with h3 | ⟨k, k1, k2, k3⟩
  · unfold ac_mx; rw [h3]; exact hM
  · unfold ac_mx; rw [k3]; exact h k k1 (by omega)
theorem ac_mx_iff {f : Int → Int} {n k : Int} (hf : ∀ k, 0 ≤ f k) (h1 : 0 ≤ k) (h2 : k < n) : f k = ac_mx f n ↔ ac_ge f n (f k) = 1 := by
  rw [ac_ge_iff (by omega)]
  constructor
  · intro h i i1 i2
    rw [h]; exact ac_mx_ge i1 i2
  · intro h
    have a := ac_mx_ge (f := f) h1 h2
    have b := ac_mx_le (f := f) (n := n) (hf k) h
    omega
def ac_mn (f : Int → Int) (n : Int) : Int := ab_it (fun k s => if f k < s then f k else s) n.toNat 0 2147483647
theorem ac_mn_l {f : Int → Int} (hf : ∀ k, 0 ≤ f k) : ∀ (n : Nat) (i s : Int), 0 ≤ s → 0 ≤ ab_it (fun k s => if f k < s then f k else s) n i s ∧ ab_it (fun k s => if f k < s then f k else s) n i s ≤ s
  | 0, i, s, hs => by rw [ab_it]; omega
  | n + 1, i, s, hs => by
    have := hf i
    rw [ab_it]
    have z := ac_mn_l hf n (i + 1) (if f i < s then f i else s) (by split <;> omega)
    have : (if f i < s then f i else s) ≤ s := by split <;> omega
    omega
theorem ac_mn_b {f : Int → Int} {n : Int} (hf : ∀ k, 0 ≤ f k) : 0 ≤ ac_mn f n ∧ ac_mn f n ≤ 2147483647 := ac_mn_l hf n.toNat 0 2147483647 (by omega)
section
variable {X : ab_X} {σ τ υ : ab_S} {Q : Option ab_V → ab_S → Prop} {K : Int} {κ : ac_K} {v : Int → Int} {kd d b p hp q hq mv i j as s n arr A0 cc arm who c h m lo : Int} {P : Int → Int → Prop}
/-- a rest -/
abbrev ac_RS (κ : ac_K) (kd d b p q i j : Int) : Prop := ac_ge (fun k => ac_GL κ kd d b p q k j) (ac_cn κ b 0 p) (ac_GL κ kd d b p q i j) = 1 ∧ ac_ge (fun k => ac_GR κ kd d b p q i k) (ac_cn κ b 1 q) (ac_GR κ kd d b p q i j) = 1
def ac_cd (κ : ac_K) (who i : Int) : Int := 10 * (ac_cx κ who i / 2 + 1) + ac_cx κ who i % 2
theorem sp_isRest (hg : ab_Geo σ) (hk : ac_KK κ) (hb : ac_isB κ b) (hG : ac_GP σ κ kd d b p q) (hi : 0 ≤ i ∧ i < ac_cn κ b 0 p) (hj : 0 ≤ j ∧ j < ac_cn κ b 1 q) : ab_Do X 15 [ab_R 148, ab_I i, ab_I j] σ Q ↔ Q (some (ab_I (if ac_RS κ kd d b p q i j then 1 else 0))) σ := by
  have b0 := ac_cn_b (who := p) hk hb (Or.inl rfl)
  have b1 := ac_cn_b (who := q) hk hb (Or.inr rfl)
  obtain ⟨r1, r2, r3, r4⟩ := ac_rows_g hg (i := i) (by omega)
  obtain ⟨-, ⟨g1, g2, g3⟩, -⟩ := hG
  have o := g1 i j hi.1 hj.1 hj.2 (Or.inl hi.2)
  have o1 := o.1
  have o2 := o.2
  have m1 := g2 j hj.1 hj.2
  rw [if_neg (by omega)] at m1
  have m2 := g3 i hi.1 (by omega)
  rw [if_pos hi.2] at m2
  have z1 := ac_mx_iff (f := fun k => ac_GL κ kd d b p q k j) (fun k => (ac_GO_b hk hb).1) hi.1 hi.2
  have z2 := ac_mx_iff (f := fun k => ac_GR κ kd d b p q i k) (fun k => (ac_GO_b hk hb).1) hj.1 hj.2
  by_cases w1 : ac_GL κ kd d b p q i j = ac_mx (fun k => ac_GL κ kd d b p q k j) (ac_cn κ b 0 p)
  · by_cases w2 : ac_GR κ kd d b p q i j = ac_mx (fun k => ac_GR κ kd d b p q i k) (ac_cn κ b 1 q)
    · rw [if_pos ⟨z1.mp w1, z2.mp w2⟩]
      clear z1 z2
      simp (disch := omega) only [do_X2_isRest, rX2_isRest_0, rX2_isRest_1, rX2_isRest_4, rX2_isRest_5, rX2_isRest_6, rX2_isRest_7, rX2_isRest_8, rX2_isRest_9, rX2_isRest_12, rX2_isRest_13, rX2_isRest_14, rX2_isRest_17, rX2_isRest_18, rX2_isRest_21, rX2_isRest_22, rX2_isRest_23, rX2_isRest_24, rX2_isRest_25, rX2_isRest_26, rX2_isRest_29, rX2_isRest_30, rX2_isRest_31, rX2_isRest_34, rX2_isRest_35, rX2_isRest_38, rX2_isRest_39, gS_148, gP_148_4, gP_148_5, gP_148_6, gP_148_7, gS_153, gS_166, gS_179, gS_180, hg, r1, r2, r3, r4, o1, o2, m1, m2, ne_eq, not_false_eq_true, not_true_eq_false, true_and, and_true, and_self, true_imp_iff, false_imp_iff, imp_self, Bool.not_false, Bool.not_true, reduceCtorEq, ab_isJ, ab_psh, ab_cats, Bool.false_eq_true, if_true, if_false, ab_shf, ab_shw, Int.le_refl, Classical.not_not, Int.zero_add, forall_const, ↓ab_itT, ↓ab_itF, ab_anT, ab_w32_id, ab_rdf_ne, ab_rdw_ne, ab_rdw_eq, ab_rdf_in, ab_td2, ab_tm2, or_true]
    · rw [if_neg (fun u => w2 (z2.mpr u.2))]
      clear z1 z2
      simp (disch := omega) only [do_X2_isRest, rX2_isRest_0, rX2_isRest_1, rX2_isRest_4, rX2_isRest_5, rX2_isRest_6, rX2_isRest_7, rX2_isRest_8, rX2_isRest_9, rX2_isRest_12, rX2_isRest_13, rX2_isRest_14, rX2_isRest_17, rX2_isRest_18, rX2_isRest_21, rX2_isRest_22, rX2_isRest_23, rX2_isRest_24, rX2_isRest_25, rX2_isRest_26, rX2_isRest_29, rX2_isRest_30, rX2_isRest_31, rX2_isRest_34, rX2_isRest_35, rX2_isRest_38, rX2_isRest_39, gS_148, gP_148_4, gP_148_5, gP_148_6, gP_148_7, gS_153, gS_166, gS_179, gS_180, hg, r1, r2, r3, r4, o1, o2, m1, m2, ne_eq, not_false_eq_true, not_true_eq_false, true_and, and_true, and_self, true_imp_iff, false_imp_iff, imp_self, Bool.not_false, Bool.not_true, reduceCtorEq, ab_isJ, ab_psh, ab_cats, Bool.false_eq_true, if_true, if_false, ab_shf, ab_shw, Int.le_refl, Classical.not_not, Int.zero_add, forall_const, ↓ab_itT, ↓ab_itF, ab_anT, ab_w32_id, ab_rdf_ne, ab_rdw_ne, ab_rdw_eq, ab_rdf_in, ab_td2, ab_tm2, true_or]
  · rw [if_neg (fun u => w1 (z1.mpr u.1))]
    clear z1 z2
    simp (disch := omega) only [do_X2_isRest, rX2_isRest_0, rX2_isRest_1, rX2_isRest_4, rX2_isRest_5, rX2_isRest_6, rX2_isRest_7, rX2_isRest_8, rX2_isRest_9, rX2_isRest_12, rX2_isRest_13, rX2_isRest_14, rX2_isRest_17, rX2_isRest_18, rX2_isRest_21, rX2_isRest_22, rX2_isRest_23, rX2_isRest_24, rX2_isRest_25, rX2_isRest_26, rX2_isRest_29, rX2_isRest_30, rX2_isRest_31, rX2_isRest_34, rX2_isRest_35, rX2_isRest_38, rX2_isRest_39, gS_148, gP_148_4, gP_148_5, gP_148_6, gP_148_7, gS_153, gS_166, gS_179, gS_180, hg, r1, r2, r3, r4, o1, o2, m1, m2, ne_eq, not_false_eq_true, not_true_eq_false, true_and, and_true, and_self, true_imp_iff, false_imp_iff, imp_self, Bool.not_false, Bool.not_true, reduceCtorEq, ab_isJ, ab_psh, ab_cats, Bool.false_eq_true, if_true, if_false, ab_shf, ab_shw, Int.le_refl, Classical.not_not, Int.zero_add, forall_const, ↓ab_itT, ↓ab_itF, ab_anT, ab_w32_id, ab_rdf_ne, ab_rdw_ne, ab_rdw_eq, ab_rdf_in, ab_td2, ab_tm2, true_or]
def ac_r1s (κ : ac_K) (kd d b p q i : Int) : Int → Int → Int := fun j s => if ac_RS κ kd d b p q i j then ab_w32 (s + 1) else s
def ac_r2s (κ : ac_K) (kd d b p q : Int) : Int → Int → Int := fun i s => ab_it (ac_r1s κ kd d b p q i) (ac_cn κ b 1 q).toNat 0 s
def ac_rests (κ : ac_K) (kd d b p q : Int) : Int := ab_it (ac_r2s κ kd d b p q) (ac_cn κ b 0 p).toNat 0 0
theorem sp_count_j (hg : ab_Geo σ) (hk : ac_KK κ) (hb : ac_isB κ b) (hG : ac_GP σ κ kd d b p q) (hi : 0 ≤ i ∧ i < ac_cn κ b 0 p) : ∀ (n : Nat) (j s : Int), 0 ≤ j → j + n = ac_cn κ b 1 q → (ab_Run X 16 14 (1, 0, 0) [ab_R 148, ab_I s, ab_I i, ab_I j] [] σ Q ↔ ab_Run X 16 4 (1, 0, 0) [ab_R 148, ab_I (ab_it (ac_r1s κ kd d b p q i) n j s), ab_I (i + 1), ab_I (ac_cn κ b 1 q)] [] σ Q) := by
  have b0 := ac_cn_b (who := p) hk hb (Or.inl rfl)
  have b1 := ac_cn_b (who := q) hk hb (Or.inr rfl)
  have e9 := hG.1.2.2.2.1
  intro n
  induction n with
  | zero =>
    intro j s hj hn
    obtain rfl : j = ac_cn κ b 1 q := by omega
    rw [rX2_countRests_14, ab_it]
    simp (disch := omega) only [rX2_countRests_15, rX2_countRests_16, rX2_countRests_19, rX2_countRests_40, rX2_countRests_43, gS_148, hg, e9, ne_eq, not_false_eq_true, not_true_eq_false, true_and, and_true, and_self, true_imp_iff, false_imp_iff, imp_self, Bool.not_false, Bool.not_true, reduceCtorEq, ab_isJ, ab_psh, ab_cats, Bool.false_eq_true, if_true, if_false, ab_shf, ab_shw, Int.le_refl, Classical.not_not, Int.zero_add, forall_const, ↓ab_itT, ↓ab_itF, ab_anT, ab_w32_id, ab_rdf_ne, ab_rdw_ne, ab_rdw_eq, ab_rdf_in, ab_td2, ab_tm2]
  | succ n ih =>
    intro j s hj hn
    have c := fun Q' => sp_isRest (X := X) (Q := Q') hg hk hb hG hi (show 0 ≤ j ∧ j < ac_cn κ b 1 q by omega)
    rw [rX2_countRests_14, ab_it]
    by_cases w : ac_RS κ kd d b p q i j
    · have e : ac_r1s κ kd d b p q i j s = ab_w32 (s + 1) := if_pos w
      rw [e, ← ih (j + 1) _ (by omega) (by omega)]
      simp (disch := omega) only [rX2_countRests_15, rX2_countRests_16, rX2_countRests_19, rX2_countRests_22, rX2_countRests_23, rX2_countRests_24, rX2_countRests_25, rX2_countRests_28, rX2_countRests_31, rX2_countRests_34, rX2_countRests_37, gS_148, hg, e9, c, if_pos w, ne_eq, not_false_eq_true, not_true_eq_false, true_and, and_true, and_self, true_imp_iff, false_imp_iff, imp_self, Bool.not_false, Bool.not_true, reduceCtorEq, ab_isJ, ab_psh, ab_cats, Bool.false_eq_true, if_true, if_false, ab_shf, ab_shw, Int.le_refl, Classical.not_not, Int.zero_add, forall_const, ↓ab_itT, ↓ab_itF, ab_anT, ab_w32_id, ab_rdf_ne, ab_rdw_ne, ab_rdw_eq, ab_rdf_in, ab_td2, ab_tm2]
    · have e : ac_r1s κ kd d b p q i j s = s := if_neg w
      rw [e, ← ih (j + 1) _ (by omega) (by omega)]
      simp (disch := omega) only [rX2_countRests_15, rX2_countRests_16, rX2_countRests_19, rX2_countRests_22, rX2_countRests_23, rX2_countRests_24, rX2_countRests_25, rX2_countRests_28, rX2_countRests_31, rX2_countRests_34, rX2_countRests_37, gS_148, hg, e9, c, if_neg w, ne_eq, not_false_eq_true, not_true_eq_false, true_and, and_true, and_self, true_imp_iff, false_imp_iff, imp_self, Bool.not_false, Bool.not_true, reduceCtorEq, ab_isJ, ab_psh, ab_cats, Bool.false_eq_true, if_true, if_false, ab_shf, ab_shw, Int.le_refl, Classical.not_not, Int.zero_add, forall_const, ↓ab_itT, ↓ab_itF, ab_anT, ab_w32_id, ab_rdf_ne, ab_rdw_ne, ab_rdw_eq, ab_rdf_in, ab_td2, ab_tm2]
theorem sp_count_i (hg : ab_Geo σ) (hk : ac_KK κ) (hb : ac_isB κ b) (hG : ac_GP σ κ kd d b p q) : ∀ (n : Nat) (i s : Int) (l3 : ab_V), 0 ≤ i → i + n = ac_cn κ b 0 p → (ab_Run X 16 4 (1, 0, 0) [ab_R 148, ab_I s, ab_I i, l3] [] σ Q ↔ Q (some (ab_I (ab_it (ac_r2s κ kd d b p q) n i s))) σ) := by
  have b0 := ac_cn_b (who := p) hk hb (Or.inl rfl)
  have b1 := ac_cn_b (who := q) hk hb (Or.inr rfl)
  have e8 := hG.1.2.2.1
  intro n
  induction n with
  | zero =>
    intro i s l3 hi hn
    rw [rX2_countRests_4, ab_it]
    simp (disch := omega) only [rX2_countRests_5, rX2_countRests_6, rX2_countRests_9, rX2_countRests_46, rX2_countRests_47, gS_148, hg, e8, ne_eq, not_false_eq_true, not_true_eq_false, true_and, and_true, and_self, true_imp_iff, false_imp_iff, imp_self, Bool.not_false, Bool.not_true, reduceCtorEq, ab_isJ, ab_psh, ab_cats, Bool.false_eq_true, if_true, if_false, ab_shf, ab_shw, Int.le_refl, Classical.not_not, Int.zero_add, forall_const, ↓ab_itT, ↓ab_itF, ab_anT, ab_w32_id, ab_rdf_ne, ab_rdw_ne, ab_rdw_eq, ab_rdf_in, ab_td2, ab_tm2]
  | succ n ih =>
    intro i s l3 hi hn
    rw [rX2_countRests_4, ab_it, ← ih (i + 1) _ (ab_I (ac_cn κ b 1 q)) (by omega) (by omega)]
    unfold ac_r2s
    rw [← sp_count_j (X := X) (Q := Q) hg hk hb hG (show 0 ≤ i ∧ i < ac_cn κ b 0 p by omega) (ac_cn κ b 1 q).toNat 0 s (by omega) (by omega)]
    simp (disch := omega) only [rX2_countRests_5, rX2_countRests_6, rX2_countRests_9, rX2_countRests_12, rX2_countRests_13, gS_148, hg, e8, ne_eq, not_false_eq_true, not_true_eq_false, true_and, and_true, and_self, true_imp_iff, false_imp_iff, imp_self, Bool.not_false, Bool.not_true, reduceCtorEq, ab_isJ, ab_psh, ab_cats, Bool.false_eq_true, if_true, if_false, ab_shf, ab_shw, Int.le_refl, Classical.not_not, Int.zero_add, forall_const, ↓ab_itT, ↓ab_itF, ab_anT, ab_w32_id, ab_rdf_ne, ab_rdw_ne, ab_rdw_eq, ab_rdf_in, ab_td2, ab_tm2]
theorem sp_countRests (hg : ab_Geo σ) (hk : ac_KK κ) (hb : ac_isB κ b) (hG : ac_GP σ κ kd d b p q) : ab_Do X 16 [ab_R 148] σ Q ↔ Q (some (ab_I (ac_rests κ kd d b p q))) σ := by
  have b0 := ac_cn_b (who := p) hk hb (Or.inl rfl)
  unfold ac_rests
  rw [← sp_count_i (X := X) (Q := Q) hg hk hb hG (ac_cn κ b 0 p).toNat 0 0 (ab_R 0) (by omega) (by omega)]
  simp (disch := omega) only [do_X2_countRests, rX2_countRests_0, rX2_countRests_1, rX2_countRests_2, rX2_countRests_3, ne_eq, not_false_eq_true, not_true_eq_false, true_and, and_true, and_self, true_imp_iff, false_imp_iff, imp_self, Bool.not_false, Bool.not_true, reduceCtorEq, ab_isJ, ab_psh, ab_cats, Bool.false_eq_true, if_true, if_false, ab_shf, ab_shw, Int.le_refl, Classical.not_not, Int.zero_add, forall_const, ↓ab_itT, ↓ab_itF, ab_anT, ab_w32_id, ab_rdf_ne, ab_rdw_ne, ab_rdw_eq, ab_rdf_in, ab_td2, ab_tm2]
def ac_f1s (κ : ac_K) (kd d b p q i : Int) : Int → Int → Int := fun j s => if s = -2 ∧ ac_RS κ kd d b p q i j then 100 * ac_cd κ p i + ac_cd κ q j else s
def ac_f2s (κ : ac_K) (kd d b p q : Int) : Int → Int → Int := fun i s => ab_it (ac_f1s κ kd d b p q i) (ac_cn κ b 1 q).toNat 0 s
def ac_frest (κ : ac_K) (kd d b p q : Int) : Int := ab_it (ac_f2s κ kd d b p q) (ac_cn κ b 0 p).toNat 0 (-2)
theorem ac_f1_st : ∀ (n : Nat) (j s : Int), s ≠ -2 → ab_it (ac_f1s κ kd d b p q i) n j s = s
  | 0, _, _, _ => rfl
  | n + 1, j, s, hs => by
    rw [ab_it]
    have e : ac_f1s κ kd d b p q i j s = s := if_neg (fun u => hs u.1)
    rw [e]
    exact ac_f1_st n (j + 1) s hs
theorem ac_f2_st : ∀ (n : Nat) (i s : Int), s ≠ -2 → ab_it (ac_f2s κ kd d b p q) n i s = s
  | 0, _, _, _ => rfl
  | n + 1, i, s, hs => by
    rw [ab_it]
    have e : ac_f2s κ kd d b p q i s = s := ac_f1_st _ _ _ hs
    rw [e]
    exact ac_f2_st n (i + 1) s hs
theorem ac_cd_b (hi : 0 ≤ i ∧ i < ac_cn κ b arm who) (hn : ac_n κ b arm ≤ 6) : 10 ≤ ac_cd κ who i ∧ ac_cd κ who i ≤ 61 := by
  unfold ac_cn at hi
  unfold ac_cd ac_cx
  by_cases w : κ 16 who = 2
  · rw [if_pos w] at hi ⊢; omega
  · rw [if_neg w] at hi ⊢; omega
theorem sp_first_j (hg : ab_Geo σ) (hk : ac_KK κ) (hb : ac_isB κ b) (hG : ac_GP σ κ kd d b p q) (hi : 0 ≤ i ∧ i < ac_cn κ b 0 p) : ∀ (n : Nat) (j : Int), 0 ≤ j → j + n = ac_cn κ b 1 q → (∀ x, ab_it (ac_f1s κ kd d b p q i) n j (-2) = x → x ≠ -2 → Q (some (ab_I x)) σ) → (ab_it (ac_f1s κ kd d b p q i) n j (-2) = -2 → ab_Run X 17 2 (1, 0, 0) [ab_R 148, ab_I (i + 1), ab_I (ac_cn κ b 1 q)] [] σ Q) → ab_Run X 17 12 (1, 0, 0) [ab_R 148, ab_I i, ab_I j] [] σ Q := by
  have b0 := ac_cn_b (who := p) hk hb (Or.inl rfl)
  have b1 := ac_cn_b (who := q) hk hb (Or.inr rfl)
  have n0 := ac_n_b hk hb (Or.inl rfl)
  have n1 := ac_n_b hk hb (Or.inr rfl)
  have e9 := hG.1.2.2.2.1
  intro n
  induction n with
  | zero =>
    intro j hj hn h1 h2
    obtain rfl : j = ac_cn κ b 1 q := by omega
    have := h2 rfl
    rw [rX2_firstRest_12]
    simp (disch := omega) only [rX2_firstRest_13, rX2_firstRest_14, rX2_firstRest_17, rX2_firstRest_52, rX2_firstRest_55, gS_148, hg, e9, ne_eq, not_false_eq_true, not_true_eq_false, true_and, and_true, and_self, true_imp_iff, false_imp_iff, imp_self, Bool.not_false, Bool.not_true, reduceCtorEq, ab_isJ, ab_psh, ab_cats, Bool.false_eq_true, if_true, if_false, ab_shf, ab_shw, Int.le_refl, Classical.not_not, Int.zero_add, forall_const, ↓ab_itT, ↓ab_itF, ab_anT, ab_w32_id, ab_rdf_ne, ab_rdw_ne, ab_rdw_eq, ab_rdf_in, ab_td2, ab_tm2]
    all_goals exact this
  | succ n ih =>
    intro j hj hn h1 h2
    have c := fun Q' => sp_isRest (X := X) (Q := Q') hg hk hb hG hi (show 0 ≤ j ∧ j < ac_cn κ b 1 q by omega)
    have d0 := (hG.1.1 i hi.1 hi.2).2
    have d1 := (hG.1.2.1 j hj (by omega)).2
    have d0' : ab_rd σ 151 i = ac_cd κ p i := d0
    have d1' : ab_rd σ 152 j = ac_cd κ q j := d1
    have x0 := ac_cd_b hi n0.2
    have x1 := ac_cd_b (show 0 ≤ j ∧ j < ac_cn κ b 1 q by omega) n1.2
    rw [ab_it] at h1 h2
    rw [rX2_firstRest_12]
    by_cases w : ac_RS κ kd d b p q i j
    · have e : ac_f1s κ kd d b p q i j (-2) = 100 * ac_cd κ p i + ac_cd κ q j := if_pos ⟨rfl, w⟩
      rw [e, ac_f1_st _ _ _ (by omega)] at h1
      have := h1 _ rfl (by omega)
      clear h1 h2
      simp (disch := omega) only [rX2_firstRest_13, rX2_firstRest_14, rX2_firstRest_17, rX2_firstRest_20, rX2_firstRest_21, rX2_firstRest_22, rX2_firstRest_23, rX2_firstRest_26, rX2_firstRest_29, rX2_firstRest_31, rX2_firstRest_32, rX2_firstRest_35, rX2_firstRest_36, rX2_firstRest_37, rX2_firstRest_38, rX2_firstRest_39, rX2_firstRest_42, rX2_firstRest_43, rX2_firstRest_44, rX2_firstRest_45, gS_148, gP_148_2, gP_148_3, gS_151, gS_152, hg, e9, c, if_pos w, d0', d1', ne_eq, not_false_eq_true, not_true_eq_false, true_and, and_true, and_self, true_imp_iff, false_imp_iff, imp_self, Bool.not_false, Bool.not_true, reduceCtorEq, ab_isJ, ab_psh, ab_cats, Bool.false_eq_true, if_true, if_false, ab_shf, ab_shw, Int.le_refl, Classical.not_not, Int.zero_add, forall_const, ↓ab_itT, ↓ab_itF, ab_anT, ab_w32_id, ab_rdf_ne, ab_rdw_ne, ab_rdw_eq, ab_rdf_in, ab_td2, ab_tm2]
      all_goals exact this
    · have e : ac_f1s κ kd d b p q i j (-2) = -2 := if_neg (fun u => w u.2)
      rw [e] at h1 h2
      have := ih (j + 1) (by omega) (by omega) h1 h2
      simp (disch := omega) only [rX2_firstRest_13, rX2_firstRest_14, rX2_firstRest_17, rX2_firstRest_20, rX2_firstRest_21, rX2_firstRest_22, rX2_firstRest_23, rX2_firstRest_26, rX2_firstRest_46, rX2_firstRest_49, gS_148, hg, e9, c, if_neg w, ne_eq, not_false_eq_true, not_true_eq_false, true_and, and_true, and_self, true_imp_iff, false_imp_iff, imp_self, Bool.not_false, Bool.not_true, reduceCtorEq, ab_isJ, ab_psh, ab_cats, Bool.false_eq_true, if_true, if_false, ab_shf, ab_shw, Int.le_refl, Classical.not_not, Int.zero_add, forall_const, ↓ab_itT, ↓ab_itF, ab_anT, ab_w32_id, ab_rdf_ne, ab_rdw_ne, ab_rdw_eq, ab_rdf_in, ab_td2, ab_tm2]
      all_goals exact this
theorem sp_first_i (hg : ab_Geo σ) (hk : ac_KK κ) (hb : ac_isB κ b) (hG : ac_GP σ κ kd d b p q) : ∀ (n : Nat) (i : Int) (l2 : ab_V), 0 ≤ i → i + n = ac_cn κ b 0 p → Q (some (ab_I (ab_it (ac_f2s κ kd d b p q) n i (-2)))) σ → ab_Run X 17 2 (1, 0, 0) [ab_R 148, ab_I i, l2] [] σ Q := by
  have b0 := ac_cn_b (who := p) hk hb (Or.inl rfl)
  have b1 := ac_cn_b (who := q) hk hb (Or.inr rfl)
  have e8 := hG.1.2.2.1
  intro n
  induction n with
  | zero =>
    intro i l2 hi hn h1
    rw [ab_it] at h1
    rw [rX2_firstRest_2]
    simp (disch := omega) only [rX2_firstRest_3, rX2_firstRest_4, rX2_firstRest_7, rX2_firstRest_58, rX2_firstRest_60, gS_148, hg, e8, ne_eq, not_false_eq_true, not_true_eq_false, true_and, and_true, and_self, true_imp_iff, false_imp_iff, imp_self, Bool.not_false, Bool.not_true, reduceCtorEq, ab_isJ, ab_psh, ab_cats, Bool.false_eq_true, if_true, if_false, ab_shf, ab_shw, Int.le_refl, Classical.not_not, Int.zero_add, forall_const, ↓ab_itT, ↓ab_itF, ab_anT, ab_w32_id, ab_rdf_ne, ab_rdw_ne, ab_rdw_eq, ab_rdf_in, ab_td2, ab_tm2]
    all_goals exact h1
  | succ n ih =>
    intro i l2 hi hn h1
    rw [ab_it] at h1
    have key := sp_first_j (X := X) (Q := Q) hg hk hb hG (show 0 ≤ i ∧ i < ac_cn κ b 0 p by omega) (ac_cn κ b 1 q).toNat 0 (by omega) (by omega) (fun x hx hne => by
      have e : ac_f2s κ kd d b p q i (-2) = x := hx
      rw [e, ac_f2_st _ _ _ hne] at h1
      exact h1) (fun hx => ih (i + 1) (ab_I (ac_cn κ b 1 q)) (by omega) (by omega) (by
      have e : ac_f2s κ kd d b p q i (-2) = -2 := hx
      rw [e] at h1
      exact h1))
    rw [rX2_firstRest_2]
    simp (disch := omega) only [rX2_firstRest_3, rX2_firstRest_4, rX2_firstRest_7, rX2_firstRest_10, rX2_firstRest_11, gS_148, hg, e8, ne_eq, not_false_eq_true, not_true_eq_false, true_and, and_true, and_self, true_imp_iff, false_imp_iff, imp_self, Bool.not_false, Bool.not_true, reduceCtorEq, ab_isJ, ab_psh, ab_cats, Bool.false_eq_true, if_true, if_false, ab_shf, ab_shw, Int.le_refl, Classical.not_not, Int.zero_add, forall_const, ↓ab_itT, ↓ab_itF, ab_anT, ab_w32_id, ab_rdf_ne, ab_rdw_ne, ab_rdw_eq, ab_rdf_in, ab_td2, ab_tm2]
    all_goals exact key
theorem sp_firstRest (hg : ab_Geo σ) (hk : ac_KK κ) (hb : ac_isB κ b) (hG : ac_GP σ κ kd d b p q) (hQ : Q (some (ab_I (ac_frest κ kd d b p q))) σ) : ab_Do X 17 [ab_R 148] σ Q := by
  have b0 := ac_cn_b (who := p) hk hb (Or.inl rfl)
  have key := sp_first_i (X := X) (Q := Q) hg hk hb hG (ac_cn κ b 0 p).toNat 0 (ab_R 0) (by omega) (by omega) hQ
  simp (disch := omega) only [do_X2_firstRest, rX2_firstRest_0, rX2_firstRest_1, ne_eq, not_false_eq_true, not_true_eq_false, true_and, and_true, and_self, true_imp_iff, false_imp_iff, imp_self, Bool.not_false, Bool.not_true, reduceCtorEq, ab_isJ, ab_psh, ab_cats, Bool.false_eq_true, if_true, if_false, ab_shf, ab_shw, Int.le_refl, Classical.not_not, Int.zero_add, forall_const, ↓ab_itT, ↓ab_itF, ab_anT, ab_w32_id, ab_rdf_ne, ab_rdw_ne, ab_rdw_eq, ab_rdf_in, ab_td2, ab_tm2]
  all_goals exact key
def ac_mnl (κ : ac_K) (kd d b p q i : Int) : Int := ac_mn (fun j => ac_GL κ kd d b p q i j) (ac_cn κ b 1 q)
def ac_sure (κ : ac_K) (kd d b p q : Int) : Int := ac_mx (ac_mnl κ kd d b p q) (ac_cn κ b 0 p)
theorem sp_sure_j (hg : ab_Geo σ) (hk : ac_KK κ) (hb : ac_isB κ b) (hG : ac_GP σ κ kd d b p q) (hi : 0 ≤ i ∧ i < ac_cn κ b 0 p) : ∀ (n : Nat) (j s l : Int), 0 ≤ j → j + n = ac_cn κ b 1 q → (ab_Run X 18 18 (1, 0, 0) [ab_R 148, ab_I s, ab_I i, ab_I l, ab_I j] [] σ Q ↔ ab_Run X 18 47 (1, 0, 0) [ab_R 148, ab_I s, ab_I i, ab_I (ab_it (fun k s => if ac_GL κ kd d b p q i k < s then ac_GL κ kd d b p q i k else s) n j l), ab_I (ac_cn κ b 1 q)] [] σ Q) := by
  have b0 := ac_cn_b (who := p) hk hb (Or.inl rfl)
  have b1 := ac_cn_b (who := q) hk hb (Or.inr rfl)
  have e9 := hG.1.2.2.2.1
  obtain ⟨r1, r2, r3, r4⟩ := ac_rows_g hg (i := i) (by omega)
  intro n
  induction n with
  | zero =>
    intro j s l hj hn
    obtain rfl : j = ac_cn κ b 1 q := by omega
    rw [rX2_surest_18, ab_it]
    simp (disch := omega) only [rX2_surest_20, rX2_surest_21, rX2_surest_24, gS_148, hg, e9, ne_eq, not_false_eq_true, not_true_eq_false, true_and, and_true, and_self, true_imp_iff, false_imp_iff, imp_self, Bool.not_false, Bool.not_true, reduceCtorEq, ab_isJ, ab_psh, ab_cats, Bool.false_eq_true, if_true, if_false, ab_shf, ab_shw, Int.le_refl, Classical.not_not, Int.zero_add, forall_const, ↓ab_itT, ↓ab_itF, ab_anT, ab_w32_id, ab_rdf_ne, ab_rdw_ne, ab_rdw_eq, ab_rdf_in, ab_td2, ab_tm2]
  | succ n ih =>
    intro j s l hj hn
    have o := (hG.2.1.1 i j hi.1 hj (by omega) (Or.inl hi.2)).1
    rw [rX2_surest_18, ab_it, ← ih (j + 1) _ _ (by omega) (by omega)]
    simp (disch := omega) only [rX2_surest_20, rX2_surest_21, rX2_surest_24, rX2_surest_27, rX2_surest_28, rX2_surest_29, rX2_surest_32, rX2_surest_33, rX2_surest_34, rX2_surest_36, rX2_surest_37, rX2_surest_40, rX2_surest_41, rX2_surest_44, gS_148, gP_148_4, gS_153, hg, e9, r1, r3, o, ne_eq, not_false_eq_true, not_true_eq_false, true_and, and_true, and_self, true_imp_iff, false_imp_iff, imp_self, Bool.not_false, Bool.not_true, reduceCtorEq, ab_isJ, ab_psh, ab_cats, Bool.false_eq_true, if_true, if_false, ab_shf, ab_shw, Int.le_refl, Classical.not_not, Int.zero_add, forall_const, ↓ab_itT, ↓ab_itF, ab_anT, ab_w32_id, ab_rdf_ne, ab_rdw_ne, ab_rdw_eq, ab_rdf_in, ab_td2, ab_tm2]
theorem sp_sure_i (hg : ab_Geo σ) (hk : ac_KK κ) (hb : ac_isB κ b) (hG : ac_GP σ κ kd d b p q) : ∀ (n : Nat) (i s : Int) (l3 l4 : ab_V), 0 ≤ i → i + n = ac_cn κ b 0 p → (ab_Run X 18 4 (1, 0, 0) [ab_R 148, ab_I s, ab_I i, l3, l4] [] σ Q ↔ Q (some (ab_I (ab_it (fun k s => if s < ac_mnl κ kd d b p q k then ac_mnl κ kd d b p q k else s) n i s))) σ) := by
  have b0 := ac_cn_b (who := p) hk hb (Or.inl rfl)
  have b1 := ac_cn_b (who := q) hk hb (Or.inr rfl)
  have e8 := hG.1.2.2.1
  intro n
  induction n with
  | zero =>
    intro i s l3 l4 hi hn
    rw [rX2_surest_4, ab_it]
    simp (disch := omega) only [rX2_surest_5, rX2_surest_6, rX2_surest_9, rX2_surest_59, rX2_surest_60, gS_148, hg, e8, ne_eq, not_false_eq_true, not_true_eq_false, true_and, and_true, and_self, true_imp_iff, false_imp_iff, imp_self, Bool.not_false, Bool.not_true, reduceCtorEq, ab_isJ, ab_psh, ab_cats, Bool.false_eq_true, if_true, if_false, ab_shf, ab_shw, Int.le_refl, Classical.not_not, Int.zero_add, forall_const, ↓ab_itT, ↓ab_itF, ab_anT, ab_w32_id, ab_rdf_ne, ab_rdw_ne, ab_rdw_eq, ab_rdf_in, ab_td2, ab_tm2]
  | succ n ih =>
    intro i s l3 l4 hi hn
    have z := sp_sure_j (X := X) (Q := Q) hg hk hb hG (show 0 ≤ i ∧ i < ac_cn κ b 0 p by omega) (ac_cn κ b 1 q).toNat 0 s 2147483647 (by omega) (by omega)
    have e : ab_it (fun k s => if ac_GL κ kd d b p q i k < s then ac_GL κ kd d b p q i k else s) (ac_cn κ b 1 q).toNat 0 2147483647 = ac_mnl κ kd d b p q i := rfl
    rw [e] at z
    rw [rX2_surest_4, ab_it, ← ih (i + 1) _ (ab_I (ac_mnl κ kd d b p q i)) (ab_I (ac_cn κ b 1 q)) (by omega) (by omega)]
    simp (disch := omega) only [rX2_surest_5, rX2_surest_6, rX2_surest_9, rX2_surest_12, rX2_surest_14, rX2_surest_15, rX2_surest_16, gS_148, hg, e8, z, ne_eq, not_false_eq_true, not_true_eq_false, true_and, and_true, and_self, true_imp_iff, false_imp_iff, imp_self, Bool.not_false, Bool.not_true, reduceCtorEq, ab_isJ, ab_psh, ab_cats, Bool.false_eq_true, if_true, if_false, ab_shf, ab_shw, Int.le_refl, Classical.not_not, Int.zero_add, forall_const, ↓ab_itT, ↓ab_itF, ab_anT, ab_w32_id, ab_rdf_ne, ab_rdw_ne, ab_rdw_eq, ab_rdf_in, ab_td2, ab_tm2]
    simp (disch := omega) only [rX2_surest_47, rX2_surest_48, rX2_surest_49, rX2_surest_52, rX2_surest_53, rX2_surest_56, ne_eq, not_false_eq_true, not_true_eq_false, true_and, and_true, and_self, true_imp_iff, false_imp_iff, imp_self, Bool.not_false, Bool.not_true, reduceCtorEq, ab_isJ, ab_psh, ab_cats, Bool.false_eq_true, if_true, if_false, ab_shf, ab_shw, Int.le_refl, Classical.not_not, Int.zero_add, forall_const, ↓ab_itT, ↓ab_itF, ab_anT, ab_w32_id, ab_rdf_ne, ab_rdw_ne, ab_rdw_eq, ab_rdf_in, ab_td2, ab_tm2]
theorem sp_surest (hg : ab_Geo σ) (hk : ac_KK κ) (hb : ac_isB κ b) (hG : ac_GP σ κ kd d b p q) : ab_Do X 18 [ab_R 148] σ Q ↔ Q (some (ab_I (ac_sure κ kd d b p q))) σ := by
  have b0 := ac_cn_b (who := p) hk hb (Or.inl rfl)
  unfold ac_sure ac_mx
  rw [← sp_sure_i (X := X) (Q := Q) hg hk hb hG (ac_cn κ b 0 p).toNat 0 0 (ab_R 0) (ab_R 0) (by omega) (by omega)]
  simp (disch := omega) only [do_X2_surest, rX2_surest_0, rX2_surest_1, rX2_surest_2, rX2_surest_3, ne_eq, not_false_eq_true, not_true_eq_false, true_and, and_true, and_self, true_imp_iff, false_imp_iff, imp_self, Bool.not_false, Bool.not_true, reduceCtorEq, ab_isJ, ab_psh, ab_cats, Bool.false_eq_true, if_true, if_false, ab_shf, ab_shw, Int.le_refl, Classical.not_not, Int.zero_add, forall_const, ↓ab_itT, ↓ab_itF, ab_anT, ab_w32_id, ab_rdf_ne, ab_rdw_ne, ab_rdw_eq, ab_rdf_in, ab_td2, ab_tm2]
theorem cq_rests (h : ac_CI σ K κ) (hS : ac_St σ 31 κ v) (hV : ac_VB κ v) (hQ : ∀ τ, ab_Same ac_PC σ τ → ab_rd τ 1 8 = ac_pT κ b p q → Q (some (ab_I (if ac_pT κ b p q = 0 then ac_rests κ (v b) (v (5 + b)) b p q else -1))) τ) : ab_Do X 94 [ab_R 1, ab_I b, ab_I p, ab_I q] σ Q := by
  have c := fun b p q Q' => sp_pairTrouble (X := X) (Q := Q') (b := b) (p := p) (q := q) h
  have g := h.1
  by_cases hT : ac_pT κ b p q = 0
  · obtain ⟨hb, hu⟩ := ac_pT0 hT
    have hk := h.kk hb
    rw [if_pos hT] at hQ
    simp (disch := omega) only [do_X11_rests, rX11_rests_0, rX11_rests_1, rX11_rests_2, rX11_rests_3, rX11_rests_4, rX11_rests_5, rX11_rests_8, rX11_rests_11, rX11_rests_12, rX11_rests_15, rX11_rests_18, rX11_rests_19, rX11_rests_20, rX11_rests_21, rX11_rests_22, rX11_rests_23, rX11_rests_24, gS_1, g, c, hT, ne_eq, not_false_eq_true, not_true_eq_false, true_and, and_true, and_self, true_imp_iff, false_imp_iff, imp_self, Bool.not_false, Bool.not_true, reduceCtorEq, ab_isJ, ab_psh, ab_cats, Bool.false_eq_true, if_true, if_false, ab_shf, ab_shw, Int.le_refl, Classical.not_not, Int.zero_add, forall_const, ↓ab_itT, ↓ab_itF, ab_anT, ab_w32_id, ab_rdf_ne, ab_rdw_ne, ab_rdw_eq, ab_rdf_in, ab_td2, ab_tm2]
    refine sp_playNow (h.same ac_t8) (hS.same (by omega) ac_t8) hV hk hb hu.1 hu.2.1 (fun τ hs hG => ?_)
    have hs' := (ac_t8 (σ := σ) (t := 0)).trans hs.ofD
    have gT := (h.same hs').1
    have hq' := hQ τ hs' (by rw [hs.d1, ab_rdw_eq, hT])
    have c2 := fun Q' => sp_countRests (X := X) (Q := Q') gT hk hb hG
    simp (disch := omega) only [rX11_rests_27, rX11_rests_28, rX11_rests_31, rX11_rests_34, gS_1, gP_1_4, gS_148, gT, c2, ne_eq, not_false_eq_true, not_true_eq_false, true_and, and_true, and_self, true_imp_iff, false_imp_iff, imp_self, Bool.not_false, Bool.not_true, reduceCtorEq, ab_isJ, ab_psh, ab_cats, Bool.false_eq_true, if_true, if_false, ab_shf, ab_shw, Int.le_refl, Classical.not_not, Int.zero_add, forall_const, ↓ab_itT, ↓ab_itF, ab_anT, ab_w32_id, ab_rdf_ne, ab_rdw_ne, ab_rdw_eq, ab_rdf_in, ab_td2, ab_tm2]
    all_goals exact hq'
  · have e1 := ac_pT1 hT
    rw [e1, if_neg (by decide)] at hQ
    have hq' := hQ _ ac_cq8.1 ac_cq8.2
    simp (disch := omega) only [do_X11_rests, rX11_rests_0, rX11_rests_1, rX11_rests_2, rX11_rests_3, rX11_rests_4, rX11_rests_5, rX11_rests_8, rX11_rests_11, rX11_rests_12, rX11_rests_15, rX11_rests_18, rX11_rests_19, rX11_rests_20, rX11_rests_21, rX11_rests_22, rX11_rests_23, rX11_rests_24, rX11_rests_27, rX11_rests_28, rX11_rests_31, rX11_rests_34, gS_1, g, c, e1, ne_eq, not_false_eq_true, not_true_eq_false, true_and, and_true, and_self, true_imp_iff, false_imp_iff, imp_self, Bool.not_false, Bool.not_true, reduceCtorEq, ab_isJ, ab_psh, ab_cats, Bool.false_eq_true, if_true, if_false, ab_shf, ab_shw, Int.le_refl, Classical.not_not, Int.zero_add, forall_const, ↓ab_itT, ↓ab_itF, ab_anT, ab_w32_id, ab_rdf_ne, ab_rdw_ne, ab_rdw_eq, ab_rdf_in, ab_td2, ab_tm2]
    all_goals exact hq'
theorem cq_rest (h : ac_CI σ K κ) (hS : ac_St σ 31 κ v) (hV : ac_VB κ v) (hQ : ∀ τ, ab_Same ac_PC σ τ → ab_rd τ 1 8 = ac_pT κ b p q → Q (some (ab_I (if ac_pT κ b p q = 0 then ac_frest κ (v b) (v (5 + b)) b p q else -1))) τ) : ab_Do X 95 [ab_R 1, ab_I b, ab_I p, ab_I q] σ Q := by
  have c := fun b p q Q' => sp_pairTrouble (X := X) (Q := Q') (b := b) (p := p) (q := q) h
  have g := h.1
  by_cases hT : ac_pT κ b p q = 0
  · obtain ⟨hb, hu⟩ := ac_pT0 hT
    have hk := h.kk hb
    rw [if_pos hT] at hQ
    simp (disch := omega) only [do_X11_rest, rX11_rest_0, rX11_rest_1, rX11_rest_2, rX11_rest_3, rX11_rest_4, rX11_rest_5, rX11_rest_8, rX11_rest_11, rX11_rest_12, rX11_rest_15, rX11_rest_18, rX11_rest_19, rX11_rest_20, rX11_rest_21, rX11_rest_22, rX11_rest_23, rX11_rest_24, gS_1, g, c, hT, ne_eq, not_false_eq_true, not_true_eq_false, true_and, and_true, and_self, true_imp_iff, false_imp_iff, imp_self, Bool.not_false, Bool.not_true, reduceCtorEq, ab_isJ, ab_psh, ab_cats, Bool.false_eq_true, if_true, if_false, ab_shf, ab_shw, Int.le_refl, Classical.not_not, Int.zero_add, forall_const, ↓ab_itT, ↓ab_itF, ab_anT, ab_w32_id, ab_rdf_ne, ab_rdw_ne, ab_rdw_eq, ab_rdf_in, ab_td2, ab_tm2]
    refine sp_playNow (h.same ac_t8) (hS.same (by omega) ac_t8) hV hk hb hu.1 hu.2.1 (fun τ hs hG => ?_)
    have hs' := (ac_t8 (σ := σ) (t := 0)).trans hs.ofD
    have gT := (h.same hs').1
    have hq' := hQ τ hs' (by rw [hs.d1, ab_rdw_eq, hT])
    simp (disch := omega) only [rX11_rest_27, rX11_rest_28, rX11_rest_31, gS_1, gP_1_4, gS_148, gT, ne_eq, not_false_eq_true, not_true_eq_false, true_and, and_true, and_self, true_imp_iff, false_imp_iff, imp_self, Bool.not_false, Bool.not_true, reduceCtorEq, ab_isJ, ab_psh, ab_cats, Bool.false_eq_true, if_true, if_false, ab_shf, ab_shw, Int.le_refl, Classical.not_not, Int.zero_add, forall_const, ↓ab_itT, ↓ab_itF, ab_anT, ab_w32_id, ab_rdf_ne, ab_rdw_ne, ab_rdw_eq, ab_rdf_in, ab_td2, ab_tm2]
    refine sp_firstRest gT hk hb hG ?_
    simp (disch := omega) only [rX11_rest_34, ne_eq, not_false_eq_true, not_true_eq_false, true_and, and_true, and_self, true_imp_iff, false_imp_iff, imp_self, Bool.not_false, Bool.not_true, reduceCtorEq, ab_isJ, ab_psh, ab_cats, Bool.false_eq_true, if_true, if_false, ab_shf, ab_shw, Int.le_refl, Classical.not_not, Int.zero_add, forall_const, ↓ab_itT, ↓ab_itF, ab_anT, ab_w32_id, ab_rdf_ne, ab_rdw_ne, ab_rdw_eq, ab_rdf_in, ab_td2, ab_tm2]
    all_goals exact hq'
  · have e1 := ac_pT1 hT
    rw [e1, if_neg (by decide)] at hQ
    have hq' := hQ _ ac_cq8.1 ac_cq8.2
    simp (disch := omega) only [do_X11_rest, rX11_rest_0, rX11_rest_1, rX11_rest_2, rX11_rest_3, rX11_rest_4, rX11_rest_5, rX11_rest_8, rX11_rest_11, rX11_rest_12, rX11_rest_15, rX11_rest_18, rX11_rest_19, rX11_rest_20, rX11_rest_21, rX11_rest_22, rX11_rest_23, rX11_rest_24, rX11_rest_27, rX11_rest_28, rX11_rest_31, rX11_rest_34, gS_1, g, c, e1, ne_eq, not_false_eq_true, not_true_eq_false, true_and, and_true, and_self, true_imp_iff, false_imp_iff, imp_self, Bool.not_false, Bool.not_true, reduceCtorEq, ab_isJ, ab_psh, ab_cats, Bool.false_eq_true, if_true, if_false, ab_shf, ab_shw, Int.le_refl, Classical.not_not, Int.zero_add, forall_const, ↓ab_itT, ↓ab_itF, ab_anT, ab_w32_id, ab_rdf_ne, ab_rdw_ne, ab_rdw_eq, ab_rdf_in, ab_td2, ab_tm2]
    all_goals exact hq'
theorem cq_sure (h : ac_CI σ K κ) (hS : ac_St σ 31 κ v) (hV : ac_VB κ v) (hlo : lo = 0 ∨ lo = 1) (hQ : ∀ τ, ab_Same ac_PC σ τ → ab_rd τ 1 8 = ac_pT κ b p q → Q (some (ab_J (if ac_pT κ b p q = 0 then ac_pt (ac_sure κ (v b) (v (5 + b)) b p q) (100 * (ac_n κ b 0 + ac_n κ b 1)) lo else -1))) τ) : ab_Do X 96 [ab_R 1, ab_I b, ab_I p, ab_I q, ab_I lo] σ Q := by
  have c := fun b p q Q' => sp_pairTrouble (X := X) (Q := Q') (b := b) (p := p) (q := q) h
  have g := h.1
  by_cases hT : ac_pT κ b p q = 0
  · obtain ⟨hb, hu⟩ := ac_pT0 hT
    have hk := h.kk hb
    rw [if_pos hT] at hQ
    simp (disch := omega) only [do_X11_sure, rX11_sure_0, rX11_sure_1, rX11_sure_2, rX11_sure_3, rX11_sure_4, rX11_sure_5, rX11_sure_8, rX11_sure_11, rX11_sure_12, rX11_sure_15, rX11_sure_18, rX11_sure_21, rX11_sure_22, rX11_sure_23, rX11_sure_24, rX11_sure_25, rX11_sure_26, gS_1, g, c, hT, ne_eq, not_false_eq_true, not_true_eq_false, true_and, and_true, and_self, true_imp_iff, false_imp_iff, imp_self, Bool.not_false, Bool.not_true, reduceCtorEq, ab_isJ, ab_psh, ab_cats, Bool.false_eq_true, if_true, if_false, ab_shf, ab_shw, Int.le_refl, Classical.not_not, Int.zero_add, forall_const, ↓ab_itT, ↓ab_itF, ab_anT, ab_w32_id, ab_rdf_ne, ab_rdw_ne, ab_rdw_eq, ab_rdf_in, ab_td2, ab_tm2]
    refine sp_playNow (h.same ac_t8) (hS.same (by omega) ac_t8) hV hk hb hu.1 hu.2.1 (fun τ hs hG => ?_)
    have hs' := (ac_t8 (σ := σ) (t := 0)).trans hs.ofD
    have gT := (h.same hs').1
    have hq' := hQ τ hs' (by rw [hs.d1, ab_rdw_eq, hT])
    have c2 := fun Q' => sp_surest (X := X) (Q := Q') gT hk hb hG
    have n0 := ac_n_b hk hb (Or.inl rfl)
    have n1 := ac_n_b hk hb (Or.inr rfl)
    have e3 := hG.2.2
    have sb1 : 0 ≤ ac_sure κ (v b) (v (5 + b)) b p q := ac_mx_nn
    have sb2 : ac_sure κ (v b) (v (5 + b)) b p q ≤ 2147483647 := ac_mx_le (by omega) (fun k _ _ => (ac_mn_b (fun j => (ac_GO_b hk hb).1)).2)
    have c3 := fun Q' => sp_part (X := X) (σ := τ) (Q := Q') (up := ac_sure κ (v b) (v (5 + b)) b p q) (low := 100 * (ac_n κ b 0 + ac_n κ b 1)) (lo := lo) (by omega) (by omega) hlo
    simp (disch := omega) only [rX11_sure_29, rX11_sure_30, rX11_sure_33, rX11_sure_36, rX11_sure_37, rX11_sure_38, rX11_sure_41, rX11_sure_44, rX11_sure_45, rX11_sure_47, rX11_sure_50, gS_1, gP_1_4, gS_148, gP_1_3, gS_134, gT, c2, c3, e3, ne_eq, not_false_eq_true, not_true_eq_false, true_and, and_true, and_self, true_imp_iff, false_imp_iff, imp_self, Bool.not_false, Bool.not_true, reduceCtorEq, ab_isJ, ab_psh, ab_cats, Bool.false_eq_true, if_true, if_false, ab_shf, ab_shw, Int.le_refl, Classical.not_not, Int.zero_add, forall_const, ↓ab_itT, ↓ab_itF, ab_anT, ab_w32_id, ab_rdf_ne, ab_rdw_ne, ab_rdw_eq, ab_rdf_in, ab_td2, ab_tm2]
    all_goals exact hq'
  · have e1 := ac_pT1 hT
    rw [e1, if_neg (by decide)] at hQ
    have hq' := hQ _ ac_cq8.1 ac_cq8.2
    simp (disch := omega) only [do_X11_sure, rX11_sure_0, rX11_sure_1, rX11_sure_2, rX11_sure_3, rX11_sure_4, rX11_sure_5, rX11_sure_8, rX11_sure_11, rX11_sure_12, rX11_sure_15, rX11_sure_18, rX11_sure_21, rX11_sure_22, rX11_sure_23, rX11_sure_24, rX11_sure_25, rX11_sure_26, rX11_sure_29, rX11_sure_30, rX11_sure_33, rX11_sure_36, rX11_sure_37, rX11_sure_38, rX11_sure_41, rX11_sure_44, rX11_sure_45, rX11_sure_47, rX11_sure_50, gS_1, g, c, e1, ne_eq, not_false_eq_true, not_true_eq_false, true_and, and_true, and_self, true_imp_iff, false_imp_iff, imp_self, Bool.not_false, Bool.not_true, reduceCtorEq, ab_isJ, ab_psh, ab_cats, Bool.false_eq_true, if_true, if_false, ab_shf, ab_shw, Int.le_refl, Classical.not_not, Int.zero_add, forall_const, ↓ab_itT, ↓ab_itF, ab_anT, ab_w32_id, ab_rdf_ne, ab_rdw_ne, ab_rdw_eq, ab_rdf_in, ab_td2, ab_tm2]
    all_goals exact hq'
end
