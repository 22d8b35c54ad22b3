/-! TURNS: the search, pure, and the class's -/
theorem do_X10_findFrom {X : ab_X} {σ : ab_S} {Q : Option ab_V → ab_S → Prop} {z1 z2 : Int} : ab_Do X 76 [ab_R z1, ab_I z2] σ Q ↔ ab_Run X 76 0 (2 + (9 - z2).toNat, 0, 0) [ab_R z1, ab_I z2, ab_R 0, ab_R 0] [] σ Q := Iff.rfl
def ac_lg (n : Int) : Nat → Int → Int → Int × Int
  | 0, _, _ => (-1, -1)
  | f + 1, l, p => if l < n - 1 - p then (p, p + 1 + l) else ac_lg n f (l - (n - 1 - p)) (p + 1)
def ac_ls (n j : Int) : Int := (ac_lg n n.toNat j 0).1
def ac_gr (n j : Int) : Int := (ac_lg n n.toNat j 0).2
def ac_np (n : Int) : Int := n * (n - 1) / 2
def ac_ix (n p q : Int) : Int := p * (2 * n - p - 1) / 2 + (q - p - 1)
theorem ac_lgT : ∀ n : Fin 7, ∀ j : Fin 15, (j.val : Int) < ac_np n.val → 0 ≤ ac_ls n.val j.val ∧ ac_ls n.val j.val < ac_gr n.val j.val ∧ ac_gr n.val j.val < n.val := by decide +kernel
theorem ac_ixT : ∀ n p q : Fin 7, p.val < q.val → q.val < n.val → (0 ≤ ac_ix n.val p.val q.val ∧ ac_ix n.val p.val q.val < ac_np n.val) ∧ ac_ls n.val (ac_ix n.val p.val q.val) = p.val ∧ ac_gr n.val (ac_ix n.val p.val q.val) = q.val ∧ ac_ix n.val p.val (q.val + 1) = ac_ix n.val p.val q.val + 1 := by decide +kernel
theorem ac_ixR : ∀ n p : Fin 7, p.val < n.val → ac_ix n.val p.val n.val = ac_ix n.val (p.val + 1) (p.val + 2) := by decide +kernel
theorem ac_npT : ∀ n : Fin 7, 2 ≤ n.val → (0 ≤ ac_np n.val ∧ ac_np n.val ≤ 15) ∧ ac_ix n.val 0 1 = 0 ∧ ac_ix n.val n.val (n.val + 1) = ac_np n.val := by decide +kernel
theorem ac_np_b {n : Int} (hn : 2 ≤ n ∧ n ≤ 6) : (0 ≤ ac_np n ∧ ac_np n ≤ 15) ∧ ac_ix n 0 1 = 0 ∧ ac_ix n n (n + 1) = ac_np n := by
  have := ac_npT ⟨n.toNat, by omega⟩ (by dsimp only; omega)
  dsimp only at this
  rwa [Int.toNat_of_nonneg (by omega)] at this
theorem ac_lg_b {n j : Int} (hn : 2 ≤ n ∧ n ≤ 6) (hj : 0 ≤ j ∧ j < ac_np n) : 0 ≤ ac_ls n j ∧ ac_ls n j < ac_gr n j ∧ ac_gr n j < n := by
  have b := (ac_np_b hn).1
  have := ac_lgT ⟨n.toNat, by omega⟩ ⟨j.toNat, by omega⟩
  dsimp only at this
  rw [Int.toNat_of_nonneg (by omega), Int.toNat_of_nonneg (by omega)] at this
  exact this hj.2
theorem ac_ix_b {n p q : Int} (hn : 2 ≤ n ∧ n ≤ 6) (hp : 0 ≤ p ∧ p < q ∧ q < n) : (0 ≤ ac_ix n p q ∧ ac_ix n p q < ac_np n) ∧ ac_ls n (ac_ix n p q) = p ∧ ac_gr n (ac_ix n p q) = q ∧ ac_ix n p (q + 1) = ac_ix n p q + 1 := by
  have := ac_ixT ⟨n.toNat, by omega⟩ ⟨p.toNat, by omega⟩ ⟨q.toNat, by omega⟩ (by dsimp only; omega) (by dsimp only; omega)
  dsimp only at this
  rwa [Int.toNat_of_nonneg (by omega), Int.toNat_of_nonneg (by omega), Int.toNat_of_nonneg (by omega)] at this
theorem ac_ix_r {n p : Int} (hn : 2 ≤ n ∧ n ≤ 6) (hp : 0 ≤ p ∧ p < n) : ac_ix n p n = ac_ix n (p + 1) (p + 2) := by
  have := ac_ixR ⟨n.toNat, by omega⟩ ⟨p.toNat, by omega⟩ (by dsimp only; omega)
  dsimp only at this
  rwa [Int.toNat_of_nonneg (by omega), Int.toNat_of_nonneg (by omega)] at this
def ac_uP (P : Int → Int) (k j : Int) : Int → Int := fun x => if x = k then j else P x
def ac_uc (n : Int) (c : Int → Int) (j : Int) : Int → Int := fun x => if x = ac_ls n j ∨ x = ac_gr n j then c x + 1 else c x
/-- p may pull in week k -/
abbrev ac_may (n w k : Int) (P c : Int → Int) (p : Int) : Prop := c p * n < 2 * w ∧ (k = 0 ∨ ¬ (ac_ls n (P (k - 1)) = p ∨ ac_gr n (P (k - 1)) = p))
def ac_tmx (c : Int → Int) (n : Int) : Int := ab_it (fun k s => if s < c k then c k else s) n.toNat 0 0
abbrev ac_fair (n : Int) (c : Int → Int) : Prop := ac_tmx c n - ac_mn c n ≤ 1
def ac_ttL (n w : Int) (rc : (Int → Int) → (Int → Int) → Option (Int → Int)) (k : Int) (P c : Int → Int) : Nat → Int → Option (Int → Int)
  | 0, _ => none
  | f + 1, j => if ac_may n w k P c (ac_ls n j) ∧ ac_may n w k P c (ac_gr n j) then (match rc (ac_uP P k j) (ac_uc n c j) with
    | some R => some R
    | none => ac_ttL n w rc k P c f (j + 1)) else ac_ttL n w rc k P c f (j + 1)
def ac_ttS (n w : Int) : Nat → Int → (Int → Int) → (Int → Int) → Option (Int → Int)
  | 0, _, P, c => if ac_fair n c then some P else none
  | r + 1, k, P, c => ac_ttL n w (fun P' c' => ac_ttS n w r (k + 1) P' c') k P c (ac_np n).toNat 0
def ac_PT : Int → Int → Prop := fun a _ => a = 326 ∨ a = 327
theorem ac_PT_pt : ∀ a f, 0 ≤ a → a ≤ 368 → 0 ≤ f → ac_PT a f → ab_pt a f = 0 := fun a f a1 a2 a3 u => ac_PC_pt a f a1 a2 a3 (by unfold ac_PT at u; unfold ac_PC; omega)
def ac_CT (σ : ab_S) (n w k : Int) (P c : Int → Int) : Prop := ab_Geo σ ∧ ab_rd σ 325 2 = n ∧ ab_rd σ 325 3 = w ∧ (∀ x, 0 ≤ x → x < n → ab_rd σ 327 x = c x ∧ 0 ≤ c x ∧ c x ≤ k) ∧ (∀ i, 0 ≤ i → i < k → ab_rd σ 326 i = 10 * ac_ls n (P i) + ac_gr n (P i) ∧ 0 ≤ P i ∧ P i < ac_np n)
/-- behind the search -/
def ac_ttQ (res : Option (Int → Int)) (σ : ab_S) (n w k : Int) (P c : Int → Int) (Q : Option ab_V → ab_S → Prop) : Prop := match res with
  | some R => ∀ τ, ab_Same ac_PT σ τ → (∀ i, 0 ≤ i → i < w → ab_rd τ 326 i = 10 * ac_ls n (R i) + ac_gr n (R i) ∧ 0 ≤ R i ∧ R i < ac_np n) → Q (some (ab_I 1)) τ
  | none => ∀ τ, ab_Same ac_PT σ τ → ac_CT τ n w k P c → Q (some (ab_I 0)) τ
section
variable {X : ab_X} {σ τ υ : ab_S} {Q : Option ab_V → ab_S → Prop} {n w k p q j : Int} {P c : Int → Int} {res : Option (Int → Int)}
theorem ac_ttQ.tr (h : ac_ttQ res σ n w k P c Q) (hs : ab_Same ac_PT σ τ) : ac_ttQ res τ n w k P c Q := by
  unfold ac_ttQ at h ⊢
  cases res with
  | some R => exact fun υ u1 u2 => h υ (hs.trans u1) u2
  | none => exact fun υ u1 u2 => h υ (hs.trans u1) u2
theorem ac_cn54 (hc : 0 ≤ c p ∧ c p ≤ 9) (hn : 2 ≤ n ∧ n ≤ 6) : 0 ≤ c p * n ∧ c p * n ≤ 54 := by
  have a1 := Int.mul_nonneg hc.1 (show 0 ≤ n by omega)
  have a2 := Int.mul_le_mul hc.2 hn.2 (by omega) (by omega)
  omega
theorem sp_mayPull (h : ac_CT σ n w k P c) (hn : 2 ≤ n ∧ n ≤ 6) (hw : 1 ≤ w ∧ w ≤ 9) (hk : 0 ≤ k ∧ k < w) (hp : 0 ≤ p ∧ p < n) : ab_Do X 77 [ab_R 325, ab_I p, ab_I k] σ Q ↔ Q (some (ab_I (if ac_may n w k P c p then 1 else 0))) σ := by
  obtain ⟨g, h2, h3, h4, h5⟩ := h
  obtain ⟨e4, c1, c2⟩ := h4 p hp.1 hp.2
  have b := ac_cn54 (p := p) (c := c) (n := n) ⟨c1, by omega⟩ hn
  have e54 := ab_w32_id (x := c p * n) (by omega) (by omega)
  by_cases z1 : c p * n < 2 * w
  · by_cases z2 : k = 0
    · rw [if_pos ⟨z1, Or.inl z2⟩]
      clear h5 h4
      simp (disch := omega) only [do_X10_mayPull, rX10_mayPull_0, rX10_mayPull_1, rX10_mayPull_4, rX10_mayPull_5, rX10_mayPull_6, rX10_mayPull_7, rX10_mayPull_10, rX10_mayPull_11, rX10_mayPull_12, rX10_mayPull_13, rX10_mayPull_16, rX10_mayPull_17, rX10_mayPull_20, rX10_mayPull_21, rX10_mayPull_22, rX10_mayPull_23, rX10_mayPull_26, rX10_mayPull_27, rX10_mayPull_30, rX10_mayPull_31, rX10_mayPull_32, rX10_mayPull_33, rX10_mayPull_34, rX10_mayPull_36, rX10_mayPull_37, rX10_mayPull_38, rX10_mayPull_41, rX10_mayPull_42, rX10_mayPull_45, rX10_mayPull_46, rX10_mayPull_47, rX10_mayPull_48, rX10_mayPull_49, rX10_mayPull_51, rX10_mayPull_52, rX10_mayPull_53, rX10_mayPull_56, rX10_mayPull_57, rX10_mayPull_60, rX10_mayPull_61, gS_325, gP_325_0, gP_325_1, gS_326, gS_327, g, h2, h3, e4, e54, ne_eq, not_false_eq_true, not_true_eq_false, true_and, and_true, and_self, true_imp_iff, false_imp_iff, imp_self, Bool.not_false, Bool.not_true, reduceCtorEq, ab_isJ, ab_psh, ab_cats, Bool.false_eq_true, if_true, if_false, ab_shf, ab_shw, Int.le_refl, Classical.not_not, Int.zero_add, forall_const, ↓ab_itT, ↓ab_itF, ab_anT, ab_w32_id, ab_rdf_ne, ab_rdw_ne, ab_rdw_eq, ab_rdf_in, ab_td2, ab_tm2, or_true, true_or]
    · obtain ⟨e5, d1, d2⟩ := h5 (k - 1) (by omega) (by omega)
      have lb := ac_lg_b hn ⟨d1, d2⟩
      clear h5 h4
      by_cases z3 : ac_ls n (P (k - 1)) = p
      · rw [if_neg (fun u => by have := u.2; omega)]
        simp (disch := omega) only [do_X10_mayPull, rX10_mayPull_0, rX10_mayPull_1, rX10_mayPull_4, rX10_mayPull_5, rX10_mayPull_6, rX10_mayPull_7, rX10_mayPull_10, rX10_mayPull_11, rX10_mayPull_12, rX10_mayPull_13, rX10_mayPull_16, rX10_mayPull_17, rX10_mayPull_20, rX10_mayPull_21, rX10_mayPull_22, rX10_mayPull_23, rX10_mayPull_26, rX10_mayPull_27, rX10_mayPull_30, rX10_mayPull_31, rX10_mayPull_32, rX10_mayPull_33, rX10_mayPull_34, rX10_mayPull_36, rX10_mayPull_37, rX10_mayPull_38, rX10_mayPull_41, rX10_mayPull_42, rX10_mayPull_45, rX10_mayPull_46, rX10_mayPull_47, rX10_mayPull_48, rX10_mayPull_49, rX10_mayPull_51, rX10_mayPull_52, rX10_mayPull_53, rX10_mayPull_56, rX10_mayPull_57, rX10_mayPull_60, rX10_mayPull_61, gS_325, gP_325_0, gP_325_1, gS_326, gS_327, g, h2, h3, e4, e5, e54, ab_td2, ab_tm2, ne_eq, not_false_eq_true, not_true_eq_false, true_and, and_true, and_self, true_imp_iff, false_imp_iff, imp_self, Bool.not_false, Bool.not_true, reduceCtorEq, ab_isJ, ab_psh, ab_cats, Bool.false_eq_true, if_true, if_false, ab_shf, ab_shw, Int.le_refl, Classical.not_not, Int.zero_add, forall_const, ↓ab_itT, ↓ab_itF, ab_anT, ab_w32_id, ab_rdf_ne, ab_rdw_ne, ab_rdw_eq, ab_rdf_in, ab_td2, ab_tm2, or_true, true_or]
      · by_cases z4 : ac_gr n (P (k - 1)) = p
        · rw [if_neg (fun u => by have := u.2; omega)]
          simp (disch := omega) only [do_X10_mayPull, rX10_mayPull_0, rX10_mayPull_1, rX10_mayPull_4, rX10_mayPull_5, rX10_mayPull_6, rX10_mayPull_7, rX10_mayPull_10, rX10_mayPull_11, rX10_mayPull_12, rX10_mayPull_13, rX10_mayPull_16, rX10_mayPull_17, rX10_mayPull_20, rX10_mayPull_21, rX10_mayPull_22, rX10_mayPull_23, rX10_mayPull_26, rX10_mayPull_27, rX10_mayPull_30, rX10_mayPull_31, rX10_mayPull_32, rX10_mayPull_33, rX10_mayPull_34, rX10_mayPull_36, rX10_mayPull_37, rX10_mayPull_38, rX10_mayPull_41, rX10_mayPull_42, rX10_mayPull_45, rX10_mayPull_46, rX10_mayPull_47, rX10_mayPull_48, rX10_mayPull_49, rX10_mayPull_51, rX10_mayPull_52, rX10_mayPull_53, rX10_mayPull_56, rX10_mayPull_57, rX10_mayPull_60, rX10_mayPull_61, gS_325, gP_325_0, gP_325_1, gS_326, gS_327, g, h2, h3, e4, e5, e54, ab_td2, ab_tm2, ne_eq, not_false_eq_true, not_true_eq_false, true_and, and_true, and_self, true_imp_iff, false_imp_iff, imp_self, Bool.not_false, Bool.not_true, reduceCtorEq, ab_isJ, ab_psh, ab_cats, Bool.false_eq_true, if_true, if_false, ab_shf, ab_shw, Int.le_refl, Classical.not_not, Int.zero_add, forall_const, ↓ab_itT, ↓ab_itF, ab_anT, ab_w32_id, ab_rdf_ne, ab_rdw_ne, ab_rdw_eq, ab_rdf_in, ab_td2, ab_tm2, or_true, true_or]
        · rw [if_pos ⟨z1, by omega⟩]
          simp (disch := omega) only [do_X10_mayPull, rX10_mayPull_0, rX10_mayPull_1, rX10_mayPull_4, rX10_mayPull_5, rX10_mayPull_6, rX10_mayPull_7, rX10_mayPull_10, rX10_mayPull_11, rX10_mayPull_12, rX10_mayPull_13, rX10_mayPull_16, rX10_mayPull_17, rX10_mayPull_20, rX10_mayPull_21, rX10_mayPull_22, rX10_mayPull_23, rX10_mayPull_26, rX10_mayPull_27, rX10_mayPull_30, rX10_mayPull_31, rX10_mayPull_32, rX10_mayPull_33, rX10_mayPull_34, rX10_mayPull_36, rX10_mayPull_37, rX10_mayPull_38, rX10_mayPull_41, rX10_mayPull_42, rX10_mayPull_45, rX10_mayPull_46, rX10_mayPull_47, rX10_mayPull_48, rX10_mayPull_49, rX10_mayPull_51, rX10_mayPull_52, rX10_mayPull_53, rX10_mayPull_56, rX10_mayPull_57, rX10_mayPull_60, rX10_mayPull_61, gS_325, gP_325_0, gP_325_1, gS_326, gS_327, g, h2, h3, e4, e5, e54, ab_td2, ab_tm2, ne_eq, not_false_eq_true, not_true_eq_false, true_and, and_true, and_self, true_imp_iff, false_imp_iff, imp_self, Bool.not_false, Bool.not_true, reduceCtorEq, ab_isJ, ab_psh, ab_cats, Bool.false_eq_true, if_true, if_false, ab_shf, ab_shw, Int.le_refl, Classical.not_not, Int.zero_add, forall_const, ↓ab_itT, ↓ab_itF, ab_anT, ab_w32_id, ab_rdf_ne, ab_rdw_ne, ab_rdw_eq, ab_rdf_in, ab_td2, ab_tm2, or_true, true_or]
  · rw [if_neg (fun u => z1 u.1)]
    clear h5 h4
    simp (disch := omega) only [do_X10_mayPull, rX10_mayPull_0, rX10_mayPull_1, rX10_mayPull_4, rX10_mayPull_5, rX10_mayPull_6, rX10_mayPull_7, rX10_mayPull_10, rX10_mayPull_11, rX10_mayPull_12, rX10_mayPull_13, rX10_mayPull_16, rX10_mayPull_17, rX10_mayPull_20, rX10_mayPull_21, rX10_mayPull_22, rX10_mayPull_23, rX10_mayPull_26, rX10_mayPull_27, rX10_mayPull_30, rX10_mayPull_31, rX10_mayPull_32, rX10_mayPull_33, rX10_mayPull_34, rX10_mayPull_36, rX10_mayPull_37, rX10_mayPull_38, rX10_mayPull_41, rX10_mayPull_42, rX10_mayPull_45, rX10_mayPull_46, rX10_mayPull_47, rX10_mayPull_48, rX10_mayPull_49, rX10_mayPull_51, rX10_mayPull_52, rX10_mayPull_53, rX10_mayPull_56, rX10_mayPull_57, rX10_mayPull_60, rX10_mayPull_61, gS_325, gP_325_0, gP_325_1, gS_326, gS_327, g, h2, h3, e4, e54, ne_eq, not_false_eq_true, not_true_eq_false, true_and, and_true, and_self, true_imp_iff, false_imp_iff, imp_self, Bool.not_false, Bool.not_true, reduceCtorEq, ab_isJ, ab_psh, ab_cats, Bool.false_eq_true, if_true, if_false, ab_shf, ab_shw, Int.le_refl, Classical.not_not, Int.zero_add, forall_const, ↓ab_itT, ↓ab_itF, ab_anT, ab_w32_id, ab_rdf_ne, ab_rdw_ne, ab_rdw_eq, ab_rdf_in, ab_td2, ab_tm2, or_true, true_or]
theorem sp_isEven_l (h : ac_CT σ n w k P c) (hn : 2 ≤ n ∧ n ≤ 6) (hk : k ≤ 9) : ∀ (d : Nat) (p s m : Int), 0 ≤ p → p + d = n → (0 ≤ s ∧ s ≤ 2147483647) → (0 ≤ m ∧ m ≤ 9) → (ab_Run X 78 7 (1, 0, 0) [ab_R 325, ab_I s, ab_I m, ab_I p] [] σ Q ↔ Q (some (ab_I (if ab_it (fun k s => if s < c k then c k else s) d p m - ab_it (fun k s => if c k < s then c k else s) d p s ≤ 1 then 1 else 0))) σ) := by
  obtain ⟨g, h2, h3, h4, h5⟩ := h
  intro d
  induction d with
  | zero =>
    intro p s m hp hd hs hm
    obtain rfl : p = n := by omega
    rw [rX10_isEven_7]
    show _ ↔ Q (some (ab_I (if m - s ≤ 1 then 1 else 0))) σ
    by_cases z : m - s ≤ 1
    · rw [if_pos z]
      simp (disch := omega) only [rX10_isEven_8, rX10_isEven_9, rX10_isEven_12, rX10_isEven_15, rX10_isEven_16, rX10_isEven_17, rX10_isEven_20, rX10_isEven_21, rX10_isEven_22, rX10_isEven_25, rX10_isEven_26, rX10_isEven_27, rX10_isEven_28, rX10_isEven_31, rX10_isEven_32, rX10_isEven_33, rX10_isEven_36, rX10_isEven_37, rX10_isEven_40, rX10_isEven_43, rX10_isEven_44, rX10_isEven_45, rX10_isEven_46, rX10_isEven_47, rX10_isEven_50, rX10_isEven_51, rX10_isEven_54, rX10_isEven_55, gS_325, g, h2, ne_eq, not_false_eq_true, not_true_eq_false, true_and, and_true, and_self, true_imp_iff, false_imp_iff, imp_self, Bool.not_false, Bool.not_true, reduceCtorEq, ab_isJ, ab_psh, ab_cats, Bool.false_eq_true, if_true, if_false, ab_shf, ab_shw, Int.le_refl, Classical.not_not, Int.zero_add, forall_const, ↓ab_itT, ↓ab_itF, ab_anT, ab_w32_id, ab_rdf_ne, ab_rdw_ne, ab_rdw_eq, ab_rdf_in, ab_td2, ab_tm2, or_true, true_or]
    · rw [if_neg z]
      simp (disch := omega) only [rX10_isEven_8, rX10_isEven_9, rX10_isEven_12, rX10_isEven_15, rX10_isEven_16, rX10_isEven_17, rX10_isEven_20, rX10_isEven_21, rX10_isEven_22, rX10_isEven_25, rX10_isEven_26, rX10_isEven_27, rX10_isEven_28, rX10_isEven_31, rX10_isEven_32, rX10_isEven_33, rX10_isEven_36, rX10_isEven_37, rX10_isEven_40, rX10_isEven_43, rX10_isEven_44, rX10_isEven_45, rX10_isEven_46, rX10_isEven_47, rX10_isEven_50, rX10_isEven_51, rX10_isEven_54, rX10_isEven_55, gS_325, g, h2, ne_eq, not_false_eq_true, not_true_eq_false, true_and, and_true, and_self, true_imp_iff, false_imp_iff, imp_self, Bool.not_false, Bool.not_true, reduceCtorEq, ab_isJ, ab_psh, ab_cats, Bool.false_eq_true, if_true, if_false, ab_shf, ab_shw, Int.le_refl, Classical.not_not, Int.zero_add, forall_const, ↓ab_itT, ↓ab_itF, ab_anT, ab_w32_id, ab_rdf_ne, ab_rdw_ne, ab_rdw_eq, ab_rdf_in, ab_td2, ab_tm2, or_true, true_or]
  | succ d ih =>
    intro p s m hp hd hs hm
    obtain ⟨e4, c1, c2⟩ := h4 p hp (by omega)
    have key := ih (p + 1) (if c p < s then c p else s) (if m < c p then c p else m) (by omega) (by omega) (by split <;> omega) (by split <;> omega)
    rw [rX10_isEven_7]
    show _ ↔ Q (some (ab_I (if ab_it (fun k s => if s < c k then c k else s) d (p + 1) (if m < c p then c p else m) - ab_it (fun k s => if c k < s then c k else s) d (p + 1) (if c p < s then c p else s) ≤ 1 then 1 else 0))) σ
    rw [← key]
    clear key ih h4 h5
    simp (disch := omega) only [rX10_isEven_8, rX10_isEven_9, rX10_isEven_12, rX10_isEven_15, rX10_isEven_16, rX10_isEven_17, rX10_isEven_20, rX10_isEven_21, rX10_isEven_22, rX10_isEven_25, rX10_isEven_26, rX10_isEven_27, rX10_isEven_28, rX10_isEven_31, rX10_isEven_32, rX10_isEven_33, rX10_isEven_36, rX10_isEven_37, rX10_isEven_40, gS_325, gP_325_1, gS_327, g, h2, e4, ne_eq, not_false_eq_true, not_true_eq_false, true_and, and_true, and_self, true_imp_iff, false_imp_iff, imp_self, Bool.not_false, Bool.not_true, reduceCtorEq, ab_isJ, ab_psh, ab_cats, Bool.false_eq_true, if_true, if_false, ab_shf, ab_shw, Int.le_refl, Classical.not_not, Int.zero_add, forall_const, ↓ab_itT, ↓ab_itF, ab_anT, ab_w32_id, ab_rdf_ne, ab_rdw_ne, ab_rdw_eq, ab_rdf_in, ab_td2, ab_tm2, or_true, true_or]
theorem sp_isEven (h : ac_CT σ n w k P c) (hn : 2 ≤ n ∧ n ≤ 6) (hk : k ≤ 9) : ab_Do X 78 [ab_R 325] σ Q ↔ Q (some (ab_I (if ac_fair n c then 1 else 0))) σ := by
  have L := sp_isEven_l (X := X) (Q := Q) h hn hk n.toNat 0 2147483647 0 (by omega) (by omega) (by omega) (by omega)
  unfold ac_fair ac_tmx ac_mn
  rw [← L]
  simp (disch := omega) only [do_X10_isEven, rX10_isEven_0, rX10_isEven_2, rX10_isEven_3, rX10_isEven_4, rX10_isEven_5, rX10_isEven_6, ne_eq, not_false_eq_true, not_true_eq_false, true_and, and_true, and_self, true_imp_iff, false_imp_iff, imp_self, Bool.not_false, Bool.not_true, reduceCtorEq, ab_isJ, ab_psh, ab_cats, Bool.false_eq_true, if_true, if_false, ab_shf, ab_shw, Int.le_refl, Classical.not_not, Int.zero_add, forall_const, ↓ab_itT, ↓ab_itF, ab_anT, ab_w32_id, ab_rdf_ne, ab_rdw_ne, ab_rdw_eq, ab_rdf_in, ab_td2, ab_tm2, or_true, true_or]
theorem ac_CT.up (h : ac_CT σ n w k P c) (hn : 2 ≤ n ∧ n ≤ 6) (hk : 0 ≤ k ∧ k < 9) (hp : 0 ≤ p ∧ p < q ∧ q < n) : ac_CT (ab_wr (ab_wr (ab_wr σ 326 k (10 * p + q)) 327 p (c p + 1)) 327 q (c q + 1)) n w (k + 1) (ac_uP P k (ac_ix n p q)) (ac_uc n c (ac_ix n p q)) := by
  obtain ⟨g, h2, h3, h4, h5⟩ := h
  obtain ⟨b1, b2, b3, -⟩ := ac_ix_b hn hp
  have s1 : ab_Same ac_PT σ (ab_wr (ab_wr (ab_wr σ 326 k (10 * p + q)) 327 p (c p + 1)) 327 q (c q + 1)) := ((ab_Same.refl.wr (Or.inl rfl)).wr (Or.inr rfl)).wr (Or.inr rfl)
  refine ⟨g.same s1 ac_PT_pt, by rw [s1.2.2 325 2 (by unfold ac_PT; omega), h2], by rw [s1.2.2 325 3 (by unfold ac_PT; omega), h3], fun x x1 x2 => ?_, fun i i1 i2 => ?_⟩
  · have t := h4 x x1 x2
    unfold ac_uc
    rw [b2, b3]
    by_cases z : x = q
    · rw [if_pos (Or.inr z), z, ab_rdw_eq]
      rw [z] at t
      exact ⟨rfl, by omega, by omega⟩
    · by_cases z2 : x = p
      · rw [if_pos (Or.inl z2), z2, ab_rdw_ne (by omega), ab_rdw_eq]
        rw [z2] at t
        exact ⟨rfl, by omega, by omega⟩
      · rw [if_neg (by omega), ab_rdw_ne (by omega), ab_rdw_ne (by omega), ab_rdw_ne (by omega)]
        exact ⟨t.1, by omega, by omega⟩
  · unfold ac_uP
    by_cases z : i = k
    · rw [if_pos z, z, ab_rdw_ne (by omega), ab_rdw_ne (by omega), ab_rdw_eq, b2, b3]
      exact ⟨rfl, b1.1, b1.2⟩
    · rw [if_neg z, ab_rdw_ne (by omega), ab_rdw_ne (by omega), ab_rdw_ne (by omega)]
      exact h5 i i1 (by omega)
theorem ac_CT.down (h : ac_CT σ n w (k + 1) (ac_uP P k (ac_ix n p q)) (ac_uc n c (ac_ix n p q))) (hc : ∀ x, 0 ≤ x → x < n → 0 ≤ c x ∧ c x ≤ k) (hn : 2 ≤ n ∧ n ≤ 6) (hk : 0 ≤ k ∧ k < 9) (hp : 0 ≤ p ∧ p < q ∧ q < n) : ac_CT (ab_wr (ab_wr σ 327 p (c p)) 327 q (c q)) n w k P c ∧ ab_rd σ 327 p = c p + 1 ∧ ab_rd σ 327 q = c q + 1 := by
  obtain ⟨g, h2, h3, h4, h5⟩ := h
  obtain ⟨b1, b2, b3, -⟩ := ac_ix_b hn hp
  have s1 : ab_Same ac_PT σ (ab_wr (ab_wr σ 327 p (c p)) 327 q (c q)) := (ab_Same.refl.wr (Or.inr rfl)).wr (Or.inr rfl)
  have u : ∀ x, x = p ∨ x = q → ac_uc n c (ac_ix n p q) x = c x + 1 := fun x hx => by unfold ac_uc; rw [b2, b3, if_pos hx]
  have u' : ∀ x, ¬ (x = p ∨ x = q) → ac_uc n c (ac_ix n p q) x = c x := fun x hx => by unfold ac_uc; rw [b2, b3, if_neg hx]
  refine ⟨⟨g.same s1 ac_PT_pt, by rw [s1.2.2 325 2 (by unfold ac_PT; omega), h2], by rw [s1.2.2 325 3 (by unfold ac_PT; omega), h3], fun x x1 x2 => ⟨?_, hc x x1 x2⟩, fun i i1 i2 => ?_⟩, ?_, ?_⟩
  · by_cases z : x = q
    · rw [z, ab_rdw_eq]
    · by_cases z2 : x = p
      · rw [z2, ab_rdw_ne (by omega), ab_rdw_eq]
      · rw [ab_rdw_ne (by omega), ab_rdw_ne (by omega), (h4 x x1 x2).1, u' x (by omega)]
  · have t := h5 i i1 (by omega)
    unfold ac_uP at t
    rw [if_neg (by omega)] at t
    rw [ab_rdw_ne (by omega), ab_rdw_ne (by omega)]
    exact t
  · rw [(h4 p (by omega) (by omega)).1, u p (Or.inl rfl)]
  · rw [(h4 q (by omega) (by omega)).1, u q (Or.inr rfl)]
/-- findFrom: the inner loop -/
theorem sp_ff_q (rc : (Int → Int) → (Int → Int) → Option (Int → Int)) (hn : 2 ≤ n ∧ n ≤ 6) (hw : 1 ≤ w ∧ w ≤ 9) (hk : 0 ≤ k ∧ k < w) (hp : 0 ≤ p ∧ p < n)
    (ih : ∀ (σ : ab_S) (P c : Int → Int) (Q : Option ab_V → ab_S → Prop), ac_CT σ n w (k + 1) P c → ac_ttQ (rc P c) σ n w (k + 1) P c Q → ab_Do X 76 [ab_R 325, ab_I (k + 1)] σ Q)
    (hO : ∀ σ, ac_CT σ n w k P c → ac_ttQ (ac_ttL n w rc k P c (ac_np n - ac_ix n (p + 1) (p + 2)).toNat (ac_ix n (p + 1) (p + 2))) σ n w k P c Q → ab_Run X 76 15 (2 + (9 - k).toNat, 0, 0) [ab_R 325, ab_I k, ab_I (p + 1), ab_I n] [] σ Q) :
    ∀ (d : Nat) (q : Int) (σ : ab_S), p < q → q + d = n → ac_CT σ n w k P c → ac_ttQ (ac_ttL n w rc k P c (ac_np n - ac_ix n p q).toNat (ac_ix n p q)) σ n w k P c Q → ab_Run X 76 27 (2 + (9 - k).toNat, 0, 0) [ab_R 325, ab_I k, ab_I p, ab_I q] [] σ Q := by
  intro d
  induction d with
  | zero =>
    intro q σ hq hd h hQ
    obtain rfl : q = n := by omega
    rw [ac_ix_r hn hp] at hQ
    have key := hO σ h hQ
    have g := h.1
    have h2 := h.2.1
    clear ih hO hQ h
    rw [rX10_findFrom_27]
    simp (disch := omega) only [rX10_findFrom_28, rX10_findFrom_29, rX10_findFrom_32, rX10_findFrom_123, rX10_findFrom_126, gS_325, g, h2, ne_eq, not_false_eq_true, not_true_eq_false, true_and, and_true, and_self, true_imp_iff, false_imp_iff, imp_self, Bool.not_false, Bool.not_true, reduceCtorEq, ab_isJ, ab_psh, ab_cats, Bool.false_eq_true, if_true, if_false, ab_shf, ab_shw, Int.le_refl, Classical.not_not, Int.zero_add, forall_const, ↓ab_itT, ↓ab_itF, ab_anT, ab_w32_id, ab_rdf_ne, ab_rdw_ne, ab_rdw_eq, ab_rdf_in, ab_td2, ab_tm2]
    all_goals exact key
  | succ d ihd =>
    intro q σ hq hd h hQ
    have hpq : 0 ≤ p ∧ p < q ∧ q < n := by omega
    obtain ⟨b1, b2, b3, b4⟩ := ac_ix_b hn hpq
    have g := h.1
    have h2 := h.2.1
    have c1 := fun Q' => sp_mayPull (X := X) (Q := Q') (p := p) h hn hw hk hp
    have c2 := fun Q' => sp_mayPull (X := X) (Q := Q') (p := q) h hn hw hk (by omega)
    have ef : (ac_np n - ac_ix n p q).toNat = (ac_np n - ac_ix n p (q + 1)).toNat + 1 := by omega
    rw [ef] at hQ
    unfold ac_ttL at hQ
    rw [b2, b3, ← b4] at hQ
    by_cases z : ac_may n w k P c p ∧ ac_may n w k P c q
    · rw [if_pos z] at hQ
      rw [if_pos z.1] at c1
      rw [if_pos z.2] at c2
      obtain ⟨ep, p1, p2⟩ := h.2.2.2.1 p (by omega) (by omega)
      obtain ⟨eq, q1, q2⟩ := h.2.2.2.1 q (by omega) (by omega)
      have s1 : ab_Same ac_PT σ (ab_wr (ab_wr (ab_wr σ 326 k (10 * p + q)) 327 p (c p + 1)) 327 q (c q + 1)) := ((ab_Same.refl.wr (Or.inl rfl)).wr (Or.inr rfl)).wr (Or.inr rfl)
      have hup := h.up hn ⟨hk.1, by omega⟩ hpq
      have body : ab_Do X 76 [ab_R 325, ab_I (k + 1)] (ab_wr (ab_wr (ab_wr σ 326 k (10 * p + q)) 327 p (c p + 1)) 327 q (c q + 1)) (fun r σ' => ab_Run X 76 92 (2 + (9 - k).toNat, 0, 0) [ab_R 325, ab_I k, ab_I p, ab_I q] (ab_psh r []) σ' Q) := by
        refine ih _ _ _ _ hup ?_
        cases hR : rc (ac_uP P k (ac_ix n p q)) (ac_uc n c (ac_ix n p q)) with
        | some R =>
          rw [hR] at hQ
          intro τ u1 u2
          have key := hQ τ (s1.trans u1) u2
          clear ih hO hQ ihd hup h
          simp (disch := omega) only [rX10_findFrom_92, rX10_findFrom_95, rX10_findFrom_96, ne_eq, not_false_eq_true, not_true_eq_false, true_and, and_true, and_self, true_imp_iff, false_imp_iff, imp_self, Bool.not_false, Bool.not_true, reduceCtorEq, ab_isJ, ab_psh, ab_cats, Bool.false_eq_true, if_true, if_false, ab_shf, ab_shw, Int.le_refl, Classical.not_not, Int.zero_add, forall_const, ↓ab_itT, ↓ab_itF, ab_anT, ab_w32_id, ab_rdf_ne, ab_rdw_ne, ab_rdw_eq, ab_rdf_in, ab_td2, ab_tm2, or_true, true_or]
          all_goals exact key
        | none =>
          rw [hR] at hQ
          intro τ u1 u2
          obtain ⟨d1, d2, d3⟩ := u2.down (fun x x1 x2 => (h.2.2.2.1 x x1 x2).2) hn ⟨hk.1, by omega⟩ hpq
          have s2 : ab_Same ac_PT τ (ab_wr (ab_wr τ 327 p (c p)) 327 q (c q)) := (ab_Same.refl.wr (Or.inr rfl)).wr (Or.inr rfl)
          have key := ihd (q + 1) _ (by omega) (by omega) d1 (ac_ttQ.tr hQ ((s1.trans u1).trans s2))
          have gt := u2.1
          have f1 : c p + 1 - 1 = c p := by omega
          have f2 : c q + 1 - 1 = c q := by omega
          clear ih hO hQ ihd hup h u2 d1 c1 c2
          simp (disch := omega) only [rX10_findFrom_92, rX10_findFrom_95, rX10_findFrom_96, rX10_findFrom_97, rX10_findFrom_98, rX10_findFrom_101, rX10_findFrom_102, rX10_findFrom_103, rX10_findFrom_104, rX10_findFrom_105, rX10_findFrom_106, rX10_findFrom_107, rX10_findFrom_108, rX10_findFrom_111, rX10_findFrom_112, rX10_findFrom_113, rX10_findFrom_114, rX10_findFrom_115, rX10_findFrom_116, rX10_findFrom_117, rX10_findFrom_120, gS_325, gP_325_1, gS_327, gt, d2, d3, f1, f2, ab_w32_id, ne_eq, not_false_eq_true, not_true_eq_false, true_and, and_true, and_self, true_imp_iff, false_imp_iff, imp_self, Bool.not_false, Bool.not_true, reduceCtorEq, ab_isJ, ab_psh, ab_cats, Bool.false_eq_true, if_true, if_false, ab_shf, ab_shw, Int.le_refl, Classical.not_not, Int.zero_add, forall_const, ↓ab_itT, ↓ab_itF, ab_anT, ab_w32_id, ab_rdf_ne, ab_rdw_ne, ab_rdw_eq, ab_rdf_in, ab_td2, ab_tm2]
          all_goals exact key
      clear ih hO hQ ihd hup h
      rw [rX10_findFrom_27]
      simp (disch := omega) only [rX10_findFrom_28, rX10_findFrom_29, rX10_findFrom_32, rX10_findFrom_35, rX10_findFrom_36, rX10_findFrom_37, rX10_findFrom_38, rX10_findFrom_41, rX10_findFrom_44, rX10_findFrom_45, rX10_findFrom_46, rX10_findFrom_47, rX10_findFrom_50, rX10_findFrom_53, rX10_findFrom_54, rX10_findFrom_57, rX10_findFrom_58, rX10_findFrom_60, rX10_findFrom_61, rX10_findFrom_62, rX10_findFrom_63, rX10_findFrom_64, rX10_findFrom_65, rX10_findFrom_66, rX10_findFrom_69, rX10_findFrom_70, rX10_findFrom_71, rX10_findFrom_72, rX10_findFrom_73, rX10_findFrom_74, rX10_findFrom_75, rX10_findFrom_76, rX10_findFrom_79, rX10_findFrom_80, rX10_findFrom_81, rX10_findFrom_82, rX10_findFrom_83, rX10_findFrom_84, rX10_findFrom_85, rX10_findFrom_86, rX10_findFrom_87, rX10_findFrom_88, rX10_findFrom_89, gS_325, gP_325_0, gP_325_1, gS_326, gS_327, g, h2, c1, c2, ep, eq, ab_w32_id, ne_eq, not_false_eq_true, not_true_eq_false, true_and, and_true, and_self, true_imp_iff, false_imp_iff, imp_self, Bool.not_false, Bool.not_true, reduceCtorEq, ab_isJ, ab_psh, ab_cats, Bool.false_eq_true, if_true, if_false, ab_shf, ab_shw, Int.le_refl, Classical.not_not, Int.zero_add, forall_const, ↓ab_itT, ↓ab_itF, ab_anT, ab_w32_id, ab_rdf_ne, ab_rdw_ne, ab_rdw_eq, ab_rdf_in, ab_td2, ab_tm2]
      all_goals exact body
    · rw [if_neg z] at hQ
      have key := ihd (q + 1) σ (by omega) (by omega) h hQ
      clear ih hO hQ ihd h
      rw [rX10_findFrom_27]
      by_cases z1 : ac_may n w k P c p
      · rw [if_pos z1] at c1
        rw [if_neg (fun u => z ⟨z1, u⟩)] at c2
        simp (disch := omega) only [rX10_findFrom_28, rX10_findFrom_29, rX10_findFrom_32, rX10_findFrom_35, rX10_findFrom_36, rX10_findFrom_37, rX10_findFrom_38, rX10_findFrom_41, rX10_findFrom_44, rX10_findFrom_45, rX10_findFrom_46, rX10_findFrom_47, rX10_findFrom_50, rX10_findFrom_117, rX10_findFrom_120, gS_325, g, h2, c1, c2, ne_eq, not_false_eq_true, not_true_eq_false, true_and, and_true, and_self, true_imp_iff, false_imp_iff, imp_self, Bool.not_false, Bool.not_true, reduceCtorEq, ab_isJ, ab_psh, ab_cats, Bool.false_eq_true, if_true, if_false, ab_shf, ab_shw, Int.le_refl, Classical.not_not, Int.zero_add, forall_const, ↓ab_itT, ↓ab_itF, ab_anT, ab_w32_id, ab_rdf_ne, ab_rdw_ne, ab_rdw_eq, ab_rdf_in, ab_td2, ab_tm2]
        all_goals exact key
      · rw [if_neg z1] at c1
        simp (disch := omega) only [rX10_findFrom_28, rX10_findFrom_29, rX10_findFrom_32, rX10_findFrom_35, rX10_findFrom_36, rX10_findFrom_37, rX10_findFrom_38, rX10_findFrom_41, rX10_findFrom_44, rX10_findFrom_45, rX10_findFrom_46, rX10_findFrom_47, rX10_findFrom_50, rX10_findFrom_117, rX10_findFrom_120, gS_325, g, h2, c1, ne_eq, not_false_eq_true, not_true_eq_false, true_and, and_true, and_self, true_imp_iff, false_imp_iff, imp_self, Bool.not_false, Bool.not_true, reduceCtorEq, ab_isJ, ab_psh, ab_cats, Bool.false_eq_true, if_true, if_false, ab_shf, ab_shw, Int.le_refl, Classical.not_not, Int.zero_add, forall_const, ↓ab_itT, ↓ab_itF, ab_anT, ab_w32_id, ab_rdf_ne, ab_rdw_ne, ab_rdw_eq, ab_rdf_in, ab_td2, ab_tm2]
        all_goals exact key
theorem sp_ff_p (rc : (Int → Int) → (Int → Int) → Option (Int → Int)) (hn : 2 ≤ n ∧ n ≤ 6) (hw : 1 ≤ w ∧ w ≤ 9) (hk : 0 ≤ k ∧ k < w)
    (ih : ∀ (σ : ab_S) (P c : Int → Int) (Q : Option ab_V → ab_S → Prop), ac_CT σ n w (k + 1) P c → ac_ttQ (rc P c) σ n w (k + 1) P c Q → ab_Do X 76 [ab_R 325, ab_I (k + 1)] σ Q) :
    ∀ (d : Nat) (p : Int) (l3 : ab_V) (σ : ab_S), 0 ≤ p → p + d = n → ac_CT σ n w k P c → ac_ttQ (ac_ttL n w rc k P c (ac_np n - ac_ix n p (p + 1)).toNat (ac_ix n p (p + 1))) σ n w k P c Q → ab_Run X 76 15 (2 + (9 - k).toNat, 0, 0) [ab_R 325, ab_I k, ab_I p, l3] [] σ Q := by
  intro d
  induction d with
  | zero =>
    intro p l3 σ hp hd h hQ
    obtain rfl : p = n := by omega
    rw [(ac_np_b hn).2.2, show (ac_np p - ac_np p).toNat = 0 by omega] at hQ
    have key : Q (some (ab_I 0)) σ := hQ σ ab_Same.refl h
    have g := h.1
    have h2 := h.2.1
    clear ih hQ h
    rw [rX10_findFrom_15]
    simp (disch := omega) only [rX10_findFrom_16, rX10_findFrom_17, rX10_findFrom_20, rX10_findFrom_129, rX10_findFrom_130, gS_325, g, h2, ne_eq, not_false_eq_true, not_true_eq_false, true_and, and_true, and_self, true_imp_iff, false_imp_iff, imp_self, Bool.not_false, Bool.not_true, reduceCtorEq, ab_isJ, ab_psh, ab_cats, Bool.false_eq_true, if_true, if_false, ab_shf, ab_shw, Int.le_refl, Classical.not_not, Int.zero_add, forall_const, ↓ab_itT, ↓ab_itF, ab_anT, ab_w32_id, ab_rdf_ne, ab_rdw_ne, ab_rdw_eq, ab_rdf_in, ab_td2, ab_tm2, or_true, true_or]
    all_goals exact key
  | succ d ihd =>
    intro p l3 σ hp hd h hQ
    have key := sp_ff_q (X := X) (Q := Q) rc hn hw hk ⟨hp, by omega⟩ ih (fun τ u1 u2 => ihd (p + 1) _ τ (by omega) (by omega) u1 (by rw [show p + 1 + 1 = p + 2 by omega]; exact u2)) (n - (p + 1)).toNat (p + 1) σ (by omega) (by omega) h hQ
    have g := h.1
    have h2 := h.2.1
    clear ih hQ h ihd
    rw [rX10_findFrom_15]
    simp (disch := omega) only [rX10_findFrom_16, rX10_findFrom_17, rX10_findFrom_20, rX10_findFrom_23, rX10_findFrom_24, rX10_findFrom_25, rX10_findFrom_26, gS_325, g, h2, ne_eq, not_false_eq_true, not_true_eq_false, true_and, and_true, and_self, true_imp_iff, false_imp_iff, imp_self, Bool.not_false, Bool.not_true, reduceCtorEq, ab_isJ, ab_psh, ab_cats, Bool.false_eq_true, if_true, if_false, ab_shf, ab_shw, Int.le_refl, Classical.not_not, Int.zero_add, forall_const, ↓ab_itT, ↓ab_itF, ab_anT, ab_w32_id, ab_rdf_ne, ab_rdw_ne, ab_rdw_eq, ab_rdf_in, ab_td2, ab_tm2]
    all_goals exact key
theorem sp_findFrom (hn : 2 ≤ n ∧ n ≤ 6) (hw : 1 ≤ w ∧ w ≤ 9) : ∀ (r : Nat) (k : Int) (σ : ab_S) (P c : Int → Int) (Q : Option ab_V → ab_S → Prop), 0 ≤ k → k + r = w → ac_CT σ n w k P c → ac_ttQ (ac_ttS n w r k P c) σ n w k P c Q → ab_Do X 76 [ab_R 325, ab_I k] σ Q := by
  intro r
  induction r with
  | zero =>
    intro k σ P c Q hk hr h hQ
    obtain rfl : k = w := by omega
    have g := h.1
    have h3 := h.2.2.1
    have c1 := fun Q' => sp_isEven (X := X) (Q := Q') h hn (by omega)
    unfold ac_ttS at hQ
    by_cases z : ac_fair n c
    · rw [if_pos z] at hQ c1
      have key : Q (some (ab_I 1)) σ := hQ σ ab_Same.refl h.2.2.2.2
      clear hQ h
      simp (disch := omega) only [do_X10_findFrom, rX10_findFrom_0, rX10_findFrom_1, rX10_findFrom_2, rX10_findFrom_5, rX10_findFrom_8, rX10_findFrom_9, rX10_findFrom_12, gS_325, g, h3, c1, ne_eq, not_false_eq_true, not_true_eq_false, true_and, and_true, and_self, true_imp_iff, false_imp_iff, imp_self, Bool.not_false, Bool.not_true, reduceCtorEq, ab_isJ, ab_psh, ab_cats, Bool.false_eq_true, if_true, if_false, ab_shf, ab_shw, Int.le_refl, Classical.not_not, Int.zero_add, forall_const, ↓ab_itT, ↓ab_itF, ab_anT, ab_w32_id, ab_rdf_ne, ab_rdw_ne, ab_rdw_eq, ab_rdf_in, ab_td2, ab_tm2, or_true, true_or]
      all_goals exact key
    · rw [if_neg z] at hQ c1
      have key : Q (some (ab_I 0)) σ := hQ σ ab_Same.refl h
      clear hQ h
      simp (disch := omega) only [do_X10_findFrom, rX10_findFrom_0, rX10_findFrom_1, rX10_findFrom_2, rX10_findFrom_5, rX10_findFrom_8, rX10_findFrom_9, rX10_findFrom_12, gS_325, g, h3, c1, ne_eq, not_false_eq_true, not_true_eq_false, true_and, and_true, and_self, true_imp_iff, false_imp_iff, imp_self, Bool.not_false, Bool.not_true, reduceCtorEq, ab_isJ, ab_psh, ab_cats, Bool.false_eq_true, if_true, if_false, ab_shf, ab_shw, Int.le_refl, Classical.not_not, Int.zero_add, forall_const, ↓ab_itT, ↓ab_itF, ab_anT, ab_w32_id, ab_rdf_ne, ab_rdw_ne, ab_rdw_eq, ab_rdf_in, ab_td2, ab_tm2, or_true, true_or]
      all_goals exact key
  | succ r ih =>
    intro k σ P c Q hk hr h hQ
    unfold ac_ttS at hQ
    have nb := ac_np_b hn
    have key := sp_ff_p (X := X) (Q := Q) (fun P' c' => ac_ttS n w r (k + 1) P' c') hn hw ⟨hk, by omega⟩ (fun σ P c Q u1 u2 => ih (k + 1) σ P c Q (by omega) (by omega) u1 u2) n.toNat 0 (ab_R 0) σ (by omega) (by omega) h (by rw [show (0 : Int) + 1 = 1 from rfl, nb.2.1, Int.sub_zero]; exact hQ)
    have g := h.1
    have h3 := h.2.2.1
    clear ih hQ h
    simp (disch := omega) only [do_X10_findFrom, rX10_findFrom_0, rX10_findFrom_1, rX10_findFrom_2, rX10_findFrom_5, rX10_findFrom_8, rX10_findFrom_9, rX10_findFrom_12, rX10_findFrom_13, rX10_findFrom_14, gS_325, g, h3, ne_eq, not_false_eq_true, not_true_eq_false, true_and, and_true, and_self, true_imp_iff, false_imp_iff, imp_self, Bool.not_false, Bool.not_true, reduceCtorEq, ab_isJ, ab_psh, ab_cats, Bool.false_eq_true, if_true, if_false, ab_shf, ab_shw, Int.le_refl, Classical.not_not, Int.zero_add, forall_const, ↓ab_itT, ↓ab_itF, ab_anT, ab_w32_id, ab_rdf_ne, ab_rdw_ne, ab_rdw_eq, ab_rdf_in, ab_td2, ab_tm2]
    all_goals exact key
end
