section
variable {X : ab_X} {σ : ab_S} {Q : Option ab_V → ab_S → Prop} {A B : Int}
def ac_Rows (σ : ab_S) (A n : Int) (stn str : Int → Int) : Prop := ab_rd σ A 0 = n ∧ (0 ≤ n ∧ n ≤ 6) ∧ (∀ r, 0 ≤ r → r ≤ n → ab_rd σ (A + 3) r = ac_W stn (ac_brs str r) n ∧ ab_rd σ (A + 4) r = ac_Wl stn (ac_brs str r) n ∧ ab_rd σ (A + 5) r = ac_Wm stn (ac_brs str r) n) ∧ ∀ i, 0 ≤ i → i < n → (0 ≤ stn i ∧ stn i ≤ 579) ∧ (0 ≤ str i ∧ str i ≤ 639)
theorem ac_Rows.congr {n : Int} {stn str : Int → Int} {τ : ab_S} (h : ac_Rows σ A n stn str) (h0 : ab_rd τ A 0 = ab_rd σ A 0) (h1 : ∀ i, ab_rd τ (A + 3) i = ab_rd σ (A + 3) i) (h2 : ∀ i, ab_rd τ (A + 4) i = ab_rd σ (A + 4) i) (h3 : ∀ i, ab_rd τ (A + 5) i = ab_rd σ (A + 5) i) : ac_Rows τ A n stn str := by
  obtain ⟨q1, q2, q3, q4⟩ := h
  exact ⟨by rw [h0, q1], q2, fun i i1 i2 => by rw [h1, h2, h3]; exact q3 i i1 i2, q4⟩
def ac_add (c v : Int) (g : Int → Int) : Int → Int := fun x => if x = c then g x + v else g x
theorem ab_fl_upd {a n c v : Int} {g : Int → Int} (h : 0 ≤ c ∧ c < n) : ab_wr (ab_fl σ a n g) a c (g c + v) = ab_fl σ a n (ac_add c v g) := ab_sext rfl (fun _ => rfl) (fun x y => by
  rw [ab_rdw, ab_rdf, ab_rdf]
  unfold ac_add
  by_cases h1 : x = a
  · by_cases h2 : y = c
    · subst h2; rw [if_pos ⟨h1, rfl⟩, if_pos ⟨h1, h⟩, if_pos rfl]
    · rw [if_neg (by omega)]
      by_cases h3 : 0 ≤ y ∧ y < n
      · rw [if_pos ⟨h1, h3⟩, if_pos ⟨h1, h3⟩, if_neg h2]
      · rw [if_neg (by omega), if_neg (by omega)]
  · rw [if_neg (by omega), if_neg (by omega), if_neg (by omega)])
theorem sp_weigh0 {A B l3 : Int} (hs : ab_Geo σ) : ∀ (d : Nat) (i : Int), 0 ≤ i → i + d = 4 → (ab_Run X 40 21 (1, 0, 0) [ab_R 134, ab_R A, ab_R B, ab_I l3, ab_I i] [] (ab_fl σ 147 i (fun _ => 0)) Q ↔ ab_Run X 40 45 (1, 0, 0) [ab_R 134, ab_R A, ab_R B, ab_I l3, ab_I 4] [] (ab_fl σ 147 4 (fun _ => 0)) Q) := by
  intro d
  induction d with
  | zero =>
    intro i hi hd
    have e : i = 4 := by omega
    subst e
    rw [rX6_weigh_21]
    simp (disch := omega) only [rX6_weigh_23, rX6_weigh_24, rX6_weigh_27, rX6_weigh_28, gS_134, gP_134_2, gS_147, hs, ne_eq, not_false_eq_true, not_true_eq_false, true_and, and_true, and_self, true_imp_iff, false_imp_iff, imp_self, Bool.not_false, Bool.not_true, reduceCtorEq, ab_isJ, ab_psh, ab_cats, Bool.false_eq_true, if_true, if_false, ab_shf, ab_shw, Int.le_refl, Classical.not_not, Int.zero_add, Int.add_zero, forall_const, ↓ab_itT, ↓ab_itF, ab_anT, ab_w32_id, ab_rdf_ne, ab_rdw_ne, ab_rdw_eq, ab_rdf_in, ab_td2, ab_tm2]
  | succ d ih =>
    intro i hi hd
    have key := ih (i + 1) (by omega) (by omega)
    rw [← ab_fl_succ hi] at key
    rw [rX6_weigh_21, ← key]
    simp (disch := omega) only [rX6_weigh_23, rX6_weigh_24, rX6_weigh_27, rX6_weigh_28, rX6_weigh_31, rX6_weigh_32, rX6_weigh_35, rX6_weigh_37, rX6_weigh_38, rX6_weigh_39, rX6_weigh_42, gS_134, gP_134_2, gS_147, hs, ne_eq, not_false_eq_true, not_true_eq_false, true_and, and_true, and_self, true_imp_iff, false_imp_iff, imp_self, Bool.not_false, Bool.not_true, reduceCtorEq, ab_isJ, ab_psh, ab_cats, Bool.false_eq_true, if_true, if_false, ab_shf, ab_shw, Int.le_refl, Classical.not_not, Int.zero_add, Int.add_zero, forall_const, ↓ab_itT, ↓ab_itF, ab_anT, ab_w32_id, ab_rdf_ne, ab_rdw_ne, ab_rdw_eq, ab_rdf_in, ab_td2, ab_tm2]
/-- the weights -/
def ac_wt1 (c : Int → Int → Int) (flaw n0 n1 : Int) : Int → Int := ac_add (c 0 0) ((100 - flaw) * (n0 + n1)) (fun _ => 0)
def ac_wt (c : Int → Int → Int) (flaw n0 n1 : Int) : Int → Int := ab_it (fun r g => ac_add (c 0 r) flaw g) n1.toNat 1 (ab_it (fun r g => ac_add (c r 0) flaw g) n0.toNat 1 (ac_wt1 c flaw n0 n1))
section
variable {limp flaw n0 n1 l3 : Int} {stn0 str0 stn1 str1 : Int → Int}
theorem sp_cmpR {r0 r1 : Int} {τ : ab_S} (hg : ab_Geo σ) (ha : ab_arm A) (hb : ab_arm B) (hA : ac_Rows σ A n0 stn0 str0) (hB : ac_Rows σ B n1 stn1 str1) (hl : ab_rd σ 134 4 = limp) (hr0 : 0 ≤ r0 ∧ r0 ≤ n0) (hr1 : 0 ≤ r1 ∧ r1 ≤ n1) (hs : ∀ a, ab_sh τ a = ab_sh σ a) (hr : ∀ a f, a ≠ 147 → ¬ (a = 134 ∧ f = 3) → ab_rd τ a f = ab_rd σ a f) : ab_Do X 38 [ab_R 134, ab_R A, ab_I r0, ab_R B, ab_I r1] τ Q ↔ Q (some (ab_I (ac_rs limp n0 stn0 str0 n1 stn1 str1 r0 r1))) τ := by
  have gA := hg.arm ha
  have gB := hg.arm hb
  have nA : ∀ d, 0 ≤ d → d ≤ 5 → A + d ≠ 147 ∧ A + d ≠ 134 := fun d _ _ => by
    rcases ha with rfl | rfl | ⟨i, hi, rfl⟩ <;> omega
  have nB : ∀ d, 0 ≤ d → d ≤ 5 → B + d ≠ 147 ∧ B + d ≠ 134 := fun d _ _ => by
    rcases hb with rfl | rfl | ⟨i, hi, rfl⟩ <;> omega
  have nA0 := nA 0 (by decide) (by decide)
  have nB0 := nB 0 (by decide) (by decide)
  have nA3 := nA 3 (by decide) (by decide)
  have nB3 := nB 3 (by decide) (by decide)
  have nA4 := nA 4 (by decide) (by decide)
  have nB4 := nB 4 (by decide) (by decide)
  have nA5 := nA 5 (by decide) (by decide)
  have nB5 := nB 5 (by decide) (by decide)
  have qA := hA.2.2.1 r0 hr0.1 hr0.2
  have qB := hB.2.2.1 r1 hr1.1 hr1.2
  have bA := hA.2.1
  have bB := hB.2.1
  rw [sp_compare (limp := limp) (w1 := ac_W stn0 (ac_brs str0 r0) n0) (l1 := ac_Wl stn0 (ac_brs str0 r0) n0) (m1 := ac_Wm stn0 (ac_brs str0 r0) n0) (w2 := ac_W stn1 (ac_brs str1 r1) n1) (l2 := ac_Wl stn1 (ac_brs str1 r1) n1) (m2 := ac_Wm stn1 (ac_brs str1 r1) n1) (by rw [hs]; exact gS_134 hg) (gA.congr hs (fun f _ => hr _ _ (by omega) (by omega))) (gB.congr hs (fun f _ => hr _ _ (by omega) (by omega))) (by omega) (by omega) (by rw [hr _ _ (by omega) (by omega), hl]) (by rw [hr _ _ (by omega) (by omega), qA.1]) (by rw [hr _ _ (by omega) (by omega), qA.2.1]) (by rw [hr _ _ (by omega) (by omega), qA.2.2]) (by rw [hr _ _ (by omega) (by omega), qB.1]) (by rw [hr _ _ (by omega) (by omega), qB.2.1]) (by rw [hr _ _ (by omega) (by omega), qB.2.2]) (ac_Wl_b hA.2.1.1 hA.2.2.2) (ac_Wm_b hA.2.1.1 hA.2.2.2) (ac_Wl_b hB.2.1.1 hB.2.2.2) (ac_Wm_b hB.2.1.1 hB.2.2.2)]
  rfl
theorem ac_rs_b {r0 r1 : Int} : 0 ≤ ac_rs limp n0 stn0 str0 n1 stn1 str1 r0 r1 ∧ ac_rs limp n0 stn0 str0 n1 stn1 str1 r0 r1 < 4 := ac_cp_b
theorem sp_weigh1 (hg : ab_Geo σ) (ha : ab_arm A) (hb : ab_arm B) (hA : ac_Rows σ A n0 stn0 str0) (hB : ac_Rows σ B n1 stn1 str1) (hl : ab_rd σ 134 4 = limp) (hfl : ab_rd σ 134 8 = flaw) (hfb : 0 ≤ flaw ∧ flaw ≤ 99) (w : Int) : ∀ (d : Nat) (r : Int) (g : Int → Int), 1 ≤ r → r + d = n0 + 1 → (∀ x, 0 ≤ g x ∧ g x ≤ 2000 + 99 * r) → (ab_Run X 40 73 (1, 0, 0) [ab_R 134, ab_R A, ab_R B, ab_I l3, ab_I r] [] (ab_fl (ab_wr σ 134 3 w) 147 4 g) Q ↔ ab_Run X 40 109 (1, 0, 0) [ab_R 134, ab_R A, ab_R B, ab_I l3, ab_I (n0 + 1)] [] (ab_fl (ab_wr σ 134 3 w) 147 4 (ab_it (fun r g => ac_add (ac_rs limp n0 stn0 str0 n1 stn1 str1 r 0) flaw g) d r g)) Q) := by
  intro d
  have hn := hA.2.1
  have hn1 := hB.2.1
  have gA := (hg.arm ha).2.1
  have gB := (hg.arm hb).2.1
  have zA := (hg.arm ha).1
  have zB := (hg.arm hb).1
  have a0 : A ≠ 147 ∧ A ≠ 134 ∧ B ≠ 147 ∧ B ≠ 134 := by
    have : A ≠ 147 := by rcases ha with rfl | rfl | ⟨i, hi, rfl⟩ <;> omega
    have : B ≠ 147 := by rcases hb with rfl | rfl | ⟨i, hi, rfl⟩ <;> omega
    omega
  have eA := hA.1
  have eB := hB.1
  induction d with
  | zero =>
    intro r g hr hd hgb
    have e : r = n0 + 1 := by omega
    subst e
    rw [rX6_weigh_73]
    simp (disch := omega) only [rX6_weigh_75, rX6_weigh_76, rX6_weigh_79, gA, eA, ab_it, ne_eq, not_false_eq_true, not_true_eq_false, true_and, and_true, and_self, true_imp_iff, false_imp_iff, imp_self, Bool.not_false, Bool.not_true, reduceCtorEq, ab_isJ, ab_psh, ab_cats, Bool.false_eq_true, if_true, if_false, ab_shf, ab_shw, Int.le_refl, Classical.not_not, Int.zero_add, Int.add_zero, forall_const, ↓ab_itT, ↓ab_itF, ab_anT, ab_w32_id, ab_rdf_ne, ab_rdw_ne, ab_rdw_eq, ab_rdf_in, ab_td2, ab_tm2]
  | succ d ih =>
    intro r g hr hd hgb
    have cb := ac_rs_b (limp := limp) (n0 := n0) (n1 := n1) (stn0 := stn0) (str0 := str0) (stn1 := stn1) (str1 := str1) (r0 := r) (r1 := 0)
    have key := ih (r + 1) (ac_add (ac_rs limp n0 stn0 str0 n1 stn1 str1 r 0) flaw g) (by omega) (by omega) (fun x => by
      have := hgb x
      unfold ac_add
      split <;> omega)
    rw [← ab_fl_upd cb] at key
    rw [rX6_weigh_73, ab_it, ← key]
    have gc := hgb (ac_rs limp n0 stn0 str0 n1 stn1 str1 r 0)
    have c := fun Q' => sp_cmpR (X := X) (Q := Q') (τ := ab_fl (ab_wr σ 134 3 w) 147 4 g) (r0 := r) (r1 := 0) hg ha hb hA hB hl (by omega) (by omega) (fun _ => rfl) (fun a f h1 h2 => by rw [ab_rdf_ne (Or.inl h1), ab_rdw_ne (by omega)])
    simp (disch := omega) only [rX6_weigh_75, rX6_weigh_76, rX6_weigh_79, rX6_weigh_82, rX6_weigh_83, rX6_weigh_86, rX6_weigh_87, rX6_weigh_88, rX6_weigh_90, rX6_weigh_91, rX6_weigh_92, rX6_weigh_95, rX6_weigh_96, rX6_weigh_97, rX6_weigh_98, rX6_weigh_101, rX6_weigh_102, rX6_weigh_103, rX6_weigh_106, gA, gB, eA, eB, gS_134, gP_134_2, gS_147, hg, hfl, c, ne_eq, not_false_eq_true, not_true_eq_false, true_and, and_true, and_self, true_imp_iff, false_imp_iff, imp_self, Bool.not_false, Bool.not_true, reduceCtorEq, ab_isJ, ab_psh, ab_cats, Bool.false_eq_true, if_true, if_false, ab_shf, ab_shw, Int.le_refl, Classical.not_not, Int.zero_add, Int.add_zero, forall_const, ↓ab_itT, ↓ab_itF, ab_anT, ab_w32_id, ab_rdf_ne, ab_rdw_ne, ab_rdw_eq, ab_rdf_in, ab_td2, ab_tm2]
theorem sp_weigh2 (hg : ab_Geo σ) (ha : ab_arm A) (hb : ab_arm B) (hA : ac_Rows σ A n0 stn0 str0) (hB : ac_Rows σ B n1 stn1 str1) (hl : ab_rd σ 134 4 = limp) (hfl : ab_rd σ 134 8 = flaw) (hfb : 0 ≤ flaw ∧ flaw ≤ 99) (w : Int) : ∀ (d : Nat) (r : Int) (g : Int → Int), 1 ≤ r → r + d = n1 + 1 → (∀ x, 0 ≤ g x ∧ g x ≤ 3000 + 99 * r) → (ab_Run X 40 112 (1, 0, 0) [ab_R 134, ab_R A, ab_R B, ab_I l3, ab_I r] [] (ab_fl (ab_wr σ 134 3 w) 147 4 g) Q ↔ Q none (ab_fl (ab_wr σ 134 3 w) 147 4 (ab_it (fun r g => ac_add (ac_rs limp n0 stn0 str0 n1 stn1 str1 0 r) flaw g) d r g))) := by
  intro d
  have hn := hA.2.1
  have hn1 := hB.2.1
  have gA := (hg.arm ha).2.1
  have gB := (hg.arm hb).2.1
  have zA := (hg.arm ha).1
  have zB := (hg.arm hb).1
  have a0 : A ≠ 147 ∧ A ≠ 134 ∧ B ≠ 147 ∧ B ≠ 134 := by
    have : A ≠ 147 := by rcases ha with rfl | rfl | ⟨i, hi, rfl⟩ <;> omega
    have : B ≠ 147 := by rcases hb with rfl | rfl | ⟨i, hi, rfl⟩ <;> omega
    omega
  have eA := hA.1
  have eB := hB.1
  induction d with
  | zero =>
    intro r g hr hd hgb
    have e : r = n1 + 1 := by omega
    subst e
    rw [rX6_weigh_112]
    simp (disch := omega) only [rX6_weigh_114, rX6_weigh_115, rX6_weigh_118, rX6_weigh_148, gB, eB, ab_it, ne_eq, not_false_eq_true, not_true_eq_false, true_and, and_true, and_self, true_imp_iff, false_imp_iff, imp_self, Bool.not_false, Bool.not_true, reduceCtorEq, ab_isJ, ab_psh, ab_cats, Bool.false_eq_true, if_true, if_false, ab_shf, ab_shw, Int.le_refl, Classical.not_not, Int.zero_add, Int.add_zero, forall_const, ↓ab_itT, ↓ab_itF, ab_anT, ab_w32_id, ab_rdf_ne, ab_rdw_ne, ab_rdw_eq, ab_rdf_in, ab_td2, ab_tm2]
  | succ d ih =>
    intro r g hr hd hgb
    have cb := ac_rs_b (limp := limp) (n0 := n0) (n1 := n1) (stn0 := stn0) (str0 := str0) (stn1 := stn1) (str1 := str1) (r0 := 0) (r1 := r)
    have key := ih (r + 1) (ac_add (ac_rs limp n0 stn0 str0 n1 stn1 str1 0 r) flaw g) (by omega) (by omega) (fun x => by
      have := hgb x
      unfold ac_add
      split <;> omega)
    rw [← ab_fl_upd cb] at key
    rw [rX6_weigh_112, ab_it, ← key]
    have gc := hgb (ac_rs limp n0 stn0 str0 n1 stn1 str1 0 r)
    have c := fun Q' => sp_cmpR (X := X) (Q := Q') (τ := ab_fl (ab_wr σ 134 3 w) 147 4 g) (r0 := 0) (r1 := r) hg ha hb hA hB hl (by omega) (by omega) (fun _ => rfl) (fun a f h1 h2 => by rw [ab_rdf_ne (Or.inl h1), ab_rdw_ne (by omega)])
    simp (disch := omega) only [rX6_weigh_114, rX6_weigh_115, rX6_weigh_118, rX6_weigh_121, rX6_weigh_122, rX6_weigh_125, rX6_weigh_126, rX6_weigh_127, rX6_weigh_128, rX6_weigh_129, rX6_weigh_131, rX6_weigh_134, rX6_weigh_135, rX6_weigh_136, rX6_weigh_137, rX6_weigh_140, rX6_weigh_141, rX6_weigh_142, rX6_weigh_145, gA, gB, eA, eB, gS_134, gP_134_2, gS_147, hg, hfl, c, ne_eq, not_false_eq_true, not_true_eq_false, true_and, and_true, and_self, true_imp_iff, false_imp_iff, imp_self, Bool.not_false, Bool.not_true, reduceCtorEq, ab_isJ, ab_psh, ab_cats, Bool.false_eq_true, if_true, if_false, ab_shf, ab_shw, Int.le_refl, Classical.not_not, Int.zero_add, Int.add_zero, forall_const, ↓ab_itT, ↓ab_itF, ab_anT, ab_w32_id, ab_rdf_ne, ab_rdw_ne, ab_rdw_eq, ab_rdf_in, ab_td2, ab_tm2]
theorem sp_weigh (hg : ab_Geo σ) (ha : ab_arm A) (hb : ab_arm B) (hA : ac_Rows σ A n0 stn0 str0) (hB : ac_Rows σ B n1 stn1 str1) (hl : ab_rd σ 134 4 = limp) (hfl : ab_rd σ 134 8 = flaw) (hfb : 0 ≤ flaw ∧ flaw ≤ 99) : ab_Do X 40 [ab_R 134, ab_R A, ab_R B] σ Q ↔ Q none (ab_fl (ab_wr σ 134 3 (100 * (n0 + n1))) 147 4 (ac_wt (ac_rs limp n0 stn0 str0 n1 stn1 str1) flaw n0 n1)) := by
  have hn := hA.2.1
  have hn1 := hB.2.1
  have gA := (hg.arm ha).2.1
  have gB := (hg.arm hb).2.1
  have zA := (hg.arm ha).1
  have zB := (hg.arm hb).1
  have a0 : A ≠ 147 ∧ A ≠ 134 ∧ B ≠ 147 ∧ B ≠ 134 := by
    have : A ≠ 147 := by rcases ha with rfl | rfl | ⟨i, hi, rfl⟩ <;> omega
    have : B ≠ 147 := by rcases hb with rfl | rfl | ⟨i, hi, rfl⟩ <;> omega
    omega
  have eA := hA.1
  have eB := hB.1
  have cb := ac_rs_b (limp := limp) (n0 := n0) (n1 := n1) (stn0 := stn0) (str0 := str0) (stn1 := stn1) (str1 := str1) (r0 := 0) (r1 := 0)
  have m := ab_mulb (show 0 ≤ 100 - flaw by omega) (show 100 - flaw ≤ 100 by omega) (show 0 ≤ n0 + n1 by omega) (show n0 + n1 ≤ 12 by omega)
  have b1 : ∀ x, 0 ≤ ac_wt1 (ac_rs limp n0 stn0 str0 n1 stn1 str1) flaw n0 n1 x ∧ ac_wt1 (ac_rs limp n0 stn0 str0 n1 stn1 str1) flaw n0 n1 x ≤ 1200 := fun x => by
    unfold ac_wt1 ac_add
    dsimp only
    split <;> omega
  have b2 : ∀ x, 0 ≤ (ab_it (fun r g => ac_add (ac_rs limp n0 stn0 str0 n1 stn1 str1 r 0) flaw g) n0.toNat 1 (ac_wt1 (ac_rs limp n0 stn0 str0 n1 stn1 str1) flaw n0 n1)) x ∧ (ab_it (fun r g => ac_add (ac_rs limp n0 stn0 str0 n1 stn1 str1 r 0) flaw g) n0.toNat 1 (ac_wt1 (ac_rs limp n0 stn0 str0 n1 stn1 str1) flaw n0 n1)) x ≤ 2000 := by
    have := ab_it_inv (f := fun r g => ac_add (ac_rs limp n0 stn0 str0 n1 stn1 str1 r 0) flaw g) (fun j g => ∀ x, 0 ≤ g x ∧ g x ≤ 1200 + 99 * j) n0.toNat 1 (ac_wt1 (ac_rs limp n0 stn0 str0 n1 stn1 str1) flaw n0 n1) (fun j t h1 h2 h3 x => by
      have := h3 x
      unfold ac_add
      split <;> omega) (fun x => by have := b1 x; omega)
    intro x
    have := this x
    omega
  unfold ac_wt
  rw [← sp_weigh2 (X := X) (Q := Q) (l3 := n0 + n1) hg ha hb hA hB hl hfl hfb (100 * (n0 + n1)) n1.toNat 1 _ (by omega) (by omega) (fun x => by have := b2 x; omega)]
  have k1 := sp_weigh1 (X := X) (Q := Q) (l3 := n0 + n1) hg ha hb hA hB hl hfl hfb (100 * (n0 + n1)) n0.toNat 1 (ac_wt1 (ac_rs limp n0 stn0 str0 n1 stn1 str1) flaw n0 n1) (by omega) (by omega) (fun x => by have := b1 x; omega)
  have st : ab_Run X 40 109 (1, 0, 0) [ab_R 134, ab_R A, ab_R B, ab_I (n0 + n1), ab_I (n0 + 1)] [] (ab_fl (ab_wr σ 134 3 (100 * (n0 + n1))) 147 4 (ab_it (fun r g => ac_add (ac_rs limp n0 stn0 str0 n1 stn1 str1 r 0) flaw g) n0.toNat 1 (ac_wt1 (ac_rs limp n0 stn0 str0 n1 stn1 str1) flaw n0 n1))) Q ↔ ab_Run X 40 112 (1, 0, 0) [ab_R 134, ab_R A, ab_R B, ab_I (n0 + n1), ab_I 1] [] (ab_fl (ab_wr σ 134 3 (100 * (n0 + n1))) 147 4 (ab_it (fun r g => ac_add (ac_rs limp n0 stn0 str0 n1 stn1 str1 r 0) flaw g) n0.toNat 1 (ac_wt1 (ac_rs limp n0 stn0 str0 n1 stn1 str1) flaw n0 n1))) Q := by
    simp only [rX6_weigh_109, rX6_weigh_110, ne_eq, not_false_eq_true, not_true_eq_false, true_and, and_true, and_self, true_imp_iff, false_imp_iff, imp_self, Bool.not_false, Bool.not_true, reduceCtorEq, ab_isJ, ab_psh, ab_cats, Bool.false_eq_true, if_true, if_false, ab_shf, ab_shw, Int.le_refl, Classical.not_not, Int.zero_add, Int.add_zero, forall_const]
  rw [← st, ← k1]
  unfold ac_wt1
  rw [← ab_fl_upd cb, Int.zero_add]
  have c := fun Q' => sp_cmpR (X := X) (Q := Q') (τ := ab_fl (ab_wr σ 134 3 (100 * (n0 + n1))) 147 4 (fun _ => 0)) (r0 := 0) (r1 := 0) hg ha hb hA hB hl (by omega) (by omega) (fun _ => rfl) (fun a f h1 h2 => by rw [ab_rdf_ne (Or.inl h1), ab_rdw_ne (by omega)])
  have st2 : ab_Do X 40 [ab_R 134, ab_R A, ab_R B] σ Q ↔ ab_Run X 40 21 (1, 0, 0) [ab_R 134, ab_R A, ab_R B, ab_I (n0 + n1), ab_I 0] [] (ab_wr σ 134 3 (100 * (n0 + n1))) Q := by
    simp (disch := omega) only [do_X6_weigh, rX6_weigh_0, rX6_weigh_1, rX6_weigh_4, rX6_weigh_5, rX6_weigh_8, rX6_weigh_9, rX6_weigh_10, rX6_weigh_11, rX6_weigh_13, rX6_weigh_14, rX6_weigh_15, rX6_weigh_18, rX6_weigh_19, gA, gB, eA, eB, gS_134, hg, ne_eq, not_false_eq_true, not_true_eq_false, true_and, and_true, and_self, true_imp_iff, false_imp_iff, imp_self, Bool.not_false, Bool.not_true, reduceCtorEq, ab_isJ, ab_psh, ab_cats, Bool.false_eq_true, if_true, if_false, ab_shf, ab_shw, Int.le_refl, Classical.not_not, Int.zero_add, Int.add_zero, forall_const, ↓ab_itT, ↓ab_itF, ab_anT, ab_w32_id, ab_rdf_ne, ab_rdw_ne, ab_rdw_eq, ab_rdf_in, ab_td2, ab_tm2]
  rw [st2]
  have hg' : ab_Geo (ab_wr σ 134 3 (100 * (n0 + n1))) := hg.wr (fun _ _ _ => by decide)
  have k0 := sp_weigh0 (X := X) (Q := Q) (A := A) (B := B) (l3 := n0 + n1) hg' 4 0 (by omega) (by omega)
  rw [ab_fl0 (Int.le_refl 0)] at k0
  rw [k0]
  simp (disch := omega) only [rX6_weigh_45, rX6_weigh_46, rX6_weigh_49, rX6_weigh_50, rX6_weigh_51, rX6_weigh_52, rX6_weigh_53, rX6_weigh_54, rX6_weigh_57, rX6_weigh_58, rX6_weigh_59, rX6_weigh_61, rX6_weigh_62, rX6_weigh_65, rX6_weigh_66, rX6_weigh_67, rX6_weigh_68, rX6_weigh_69, rX6_weigh_70, rX6_weigh_71, gA, gB, eA, eB, gS_134, gP_134_2, gS_147, hg, hfl, c, ne_eq, not_false_eq_true, not_true_eq_false, true_and, and_true, and_self, true_imp_iff, false_imp_iff, imp_self, Bool.not_false, Bool.not_true, reduceCtorEq, ab_isJ, ab_psh, ab_cats, Bool.false_eq_true, if_true, if_false, ab_shf, ab_shw, Int.le_refl, Classical.not_not, Int.zero_add, Int.add_zero, forall_const, ↓ab_itT, ↓ab_itF, ab_anT, ab_w32_id, ab_rdf_ne, ab_rdw_ne, ab_rdw_eq, ab_rdf_in, ab_td2, ab_tm2]
end
end
