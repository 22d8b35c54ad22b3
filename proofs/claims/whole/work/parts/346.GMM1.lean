/-! THE GAME: the reference lays all choices -/
theorem ab_it_skip {α : Type} {f : Int → α → α} : ∀ (n : Nat) (i : Int) (s : α), (∀ j, i ≤ j → j < i + n → ∀ t, f j t = t) → ab_it f n i s = s
  | 0, _, _, _ => rfl
  | n + 1, i, s, h => by
    rw [ab_it, h i (by omega) (by omega)]
    exact ab_it_skip n (i + 1) s (fun j h1 h2 => h j (by omega) (by omega))
abbrev ac_iC (κ : ac_K) (b arm who x : Int) : Prop := x / 2 < ac_n κ b arm ∧ (x % 2 = 1 ∨ ¬ κ 16 who = 2)
theorem ac_ch_c {α : Type} {F : Int → α → α} {n : Int} : ∀ (m : Nat) (s : α), (m : Int) ≤ n → ab_it (fun x s => if x / 2 < n ∧ x % 2 = 1 then F x s else s) (2 * m) 0 s = ab_it (fun i s => F (2 * i + 1) s) m 0 s
  | 0, s, _ => rfl
  | m + 1, s, h => by
    have e : 2 * (m + 1) = 2 * m + 1 + 1 := by omega
    rw [e, ab_it_succ, ab_it_succ, ab_it_succ, ac_ch_c m s (by omega)]
    rw [if_pos (by omega), if_neg (by omega)]
    congr 1
    omega
theorem ac_ch_it {α : Type} {κ : ac_K} {b arm who : Int} (hn : 2 ≤ ac_n κ b arm ∧ ac_n κ b arm ≤ 6) (F : Int → α → α) (s : α) : ab_it (fun x s => if ac_iC κ b arm who x then F x s else s) 12 0 s = ab_it (fun i s => F (ac_cx κ who i) s) (ac_cn κ b arm who).toNat 0 s := by
  obtain ⟨n, hN⟩ : ∃ n, ac_n κ b arm = n := ⟨_, rfl⟩
  rw [hN] at hn
  by_cases w : κ 16 who = 2
  · have e1 : ac_cn κ b arm who = n := by unfold ac_cn; rw [if_pos w, hN]
    have e2 : (12 : Nat) = 2 * n.toNat + (12 - 2 * n.toNat) := by omega
    rw [e1, e2, ab_it_add]
    have e3 : ab_it (fun x s => if ac_iC κ b arm who x then F x s else s) (2 * n.toNat) 0 s = ab_it (fun x s => if x / 2 < n ∧ x % 2 = 1 then F x s else s) (2 * n.toNat) 0 s := by
      refine ab_it_cg _ _ _ (fun j t q1 q2 => ?_)
      by_cases z : j / 2 < n ∧ j % 2 = 1
      · rw [if_pos z, if_pos ⟨by rw [hN]; exact z.1, Or.inl z.2⟩]
      · rw [if_neg z, if_neg (fun u => z ⟨by rw [← hN]; exact u.1, u.2.resolve_right (fun u2 => u2 w)⟩)]
    have e4 : ab_it (fun i s => F (ac_cx κ who i) s) n.toNat 0 s = ab_it (fun i s => F (2 * i + 1) s) n.toNat 0 s := by
      refine ab_it_cg _ _ _ (fun j t q1 q2 => ?_)
      unfold ac_cx
      rw [if_pos w]
    rw [e3, e4, ac_ch_c _ _ (by omega)]
    exact ab_it_skip _ _ _ (fun j q1 q2 t => if_neg (fun u => by have := u.1; rw [hN] at this; omega))
  · have e1 : ac_cn κ b arm who = 2 * n := by unfold ac_cn; rw [if_neg w, hN]
    have e2 : (12 : Nat) = (2 * n).toNat + (12 - (2 * n).toNat) := by omega
    rw [e1, e2, ab_it_add]
    have e3 : ab_it (fun x s => if ac_iC κ b arm who x then F x s else s) (2 * n).toNat 0 s = ab_it (fun i s => F (ac_cx κ who i) s) (2 * n).toNat 0 s := by
      refine ab_it_cg _ _ _ (fun j t q1 q2 => ?_)
      rw [if_pos ⟨by rw [hN]; omega, Or.inr w⟩]
      unfold ac_cx
      rw [if_neg w]
    rw [e3]
    exact ab_it_skip _ _ _ (fun j q1 q2 t => if_neg (fun u => by have := u.1; rw [hN] at this; omega))
theorem ac_cx_iC {κ : ac_K} {b arm who i : Int} (hi : 0 ≤ i ∧ i < ac_cn κ b arm who) : ac_iC κ b arm who (ac_cx κ who i) ∧ 0 ≤ ac_cx κ who i := by
  unfold ac_cn at hi
  unfold ac_cx
  by_cases w : κ 16 who = 2
  · rw [if_pos w] at hi ⊢; exact ⟨⟨by omega, by omega⟩, by omega⟩
  · rw [if_neg w] at hi ⊢; exact ⟨⟨by omega, Or.inr w⟩, by omega⟩
theorem ac_iC_cx {κ : ac_K} {b arm who x : Int} (hx : 0 ≤ x) (h : ac_iC κ b arm who x) : ∃ i, (0 ≤ i ∧ i < ac_cn κ b arm who) ∧ ac_cx κ who i = x := by
  unfold ac_cn ac_cx
  by_cases w : κ 16 who = 2
  · refine ⟨x / 2, ?_, ?_⟩
    · rw [if_pos w]; omega
    · rw [if_pos w]
      have := h.2.resolve_right (fun u => u w)
      omega
  · refine ⟨x, ?_, ?_⟩
    · rw [if_neg w]; omega
    · rw [if_neg w]
section
variable {X : ab_X} {σ τ υ : ab_S} {Q : Option ab_V → ab_S → Prop} {M : Int} {κ : ac_K} {v : Int → Int} {kd d b p hp q hq mv i j as s n arm who x y z lo : Int} {P : Int → Int → Prop}
theorem mq_isChoice (h : ac_MI σ M κ) (hb : ac_isB κ b) (ha : arm = 0 ∨ arm = 1) (hw : ac_isP κ who) (hx : 0 ≤ x ∧ x < 12) : ab_Do X 228 [ab_R 355, ab_I who, ab_I b, ab_I arm, ab_I x] σ Q ↔ Q (some (ab_I (if ac_iC κ b arm who x then 1 else 0))) σ := by
  have c1 := fun Q' => mq_many (X := X) (Q := Q') h hb ha
  have c2 := fun Q' => mq_isChild (X := X) (Q := Q') h hw
  have nb := ac_n_b h.2.2.2.2 hb ha
  have g := h.1
  have h3 := h.2.1
  have sM := h.2.2.1.2.1
  have zM := h.2.2.1.1
  have e : κ 14 (2 * b + arm) = ac_n κ b arm := rfl
  rw [e] at c1
  by_cases w1 : x / 2 < ac_n κ b arm
  · by_cases w2 : x % 2 = 1
    · rw [if_pos ⟨w1, Or.inl w2⟩]
      simp (disch := omega) only [do_X13_isChoice, rX13_isChoice_0, rX13_isChoice_2, rX13_isChoice_3, rX13_isChoice_4, rX13_isChoice_5, rX13_isChoice_8, rX13_isChoice_9, rX13_isChoice_10, rX13_isChoice_13, rX13_isChoice_16, rX13_isChoice_18, rX13_isChoice_19, rX13_isChoice_20, rX13_isChoice_21, rX13_isChoice_24, rX13_isChoice_25, rX13_isChoice_26, rX13_isChoice_29, rX13_isChoice_32, rX13_isChoice_33, rX13_isChoice_36, rX13_isChoice_37, gS_355, g, h3, sM, c1, ne_eq, not_false_eq_true, not_true_eq_false, true_and, and_true, and_self, true_imp_iff, false_imp_iff, imp_self, Bool.not_false, Bool.not_true, reduceCtorEq, ab_isJ, ab_psh, ab_cats, Bool.false_eq_true, if_true, if_false, ab_shf, ab_shw, Int.le_refl, Classical.not_not, Int.zero_add, forall_const, ↓ab_itT, ↓ab_itF, ab_anT, ab_w32_id, ab_rdf_ne, ab_rdw_ne, ab_rdw_eq, ab_rdf_in, ab_td2, ab_tm2, or_true]
    · by_cases w3 : κ 16 who = 2
      · rw [if_neg (fun u => u.2.elim w2 (fun u2 => u2 w3))]
        rw [if_pos w3] at c2
        simp (disch := omega) only [do_X13_isChoice, rX13_isChoice_0, rX13_isChoice_2, rX13_isChoice_3, rX13_isChoice_4, rX13_isChoice_5, rX13_isChoice_8, rX13_isChoice_9, rX13_isChoice_10, rX13_isChoice_13, rX13_isChoice_16, rX13_isChoice_18, rX13_isChoice_19, rX13_isChoice_20, rX13_isChoice_21, rX13_isChoice_24, rX13_isChoice_25, rX13_isChoice_26, rX13_isChoice_29, rX13_isChoice_32, rX13_isChoice_33, rX13_isChoice_36, rX13_isChoice_37, gS_355, g, h3, sM, c1, c2, ne_eq, not_false_eq_true, not_true_eq_false, true_and, and_true, and_self, true_imp_iff, false_imp_iff, imp_self, Bool.not_false, Bool.not_true, reduceCtorEq, ab_isJ, ab_psh, ab_cats, Bool.false_eq_true, if_true, if_false, ab_shf, ab_shw, Int.le_refl, Classical.not_not, Int.zero_add, forall_const, ↓ab_itT, ↓ab_itF, ab_anT, ab_w32_id, ab_rdf_ne, ab_rdw_ne, ab_rdw_eq, ab_rdf_in, ab_td2, ab_tm2, true_or]
      · rw [if_pos ⟨w1, Or.inr w3⟩]
        rw [if_neg w3] at c2
        simp (disch := omega) only [do_X13_isChoice, rX13_isChoice_0, rX13_isChoice_2, rX13_isChoice_3, rX13_isChoice_4, rX13_isChoice_5, rX13_isChoice_8, rX13_isChoice_9, rX13_isChoice_10, rX13_isChoice_13, rX13_isChoice_16, rX13_isChoice_18, rX13_isChoice_19, rX13_isChoice_20, rX13_isChoice_21, rX13_isChoice_24, rX13_isChoice_25, rX13_isChoice_26, rX13_isChoice_29, rX13_isChoice_32, rX13_isChoice_33, rX13_isChoice_36, rX13_isChoice_37, gS_355, g, h3, sM, c1, c2, ne_eq, not_false_eq_true, not_true_eq_false, true_and, and_true, and_self, true_imp_iff, false_imp_iff, imp_self, Bool.not_false, Bool.not_true, reduceCtorEq, ab_isJ, ab_psh, ab_cats, Bool.false_eq_true, if_true, if_false, ab_shf, ab_shw, Int.le_refl, Classical.not_not, Int.zero_add, forall_const, ↓ab_itT, ↓ab_itF, ab_anT, ab_w32_id, ab_rdf_ne, ab_rdw_ne, ab_rdw_eq, ab_rdf_in, ab_td2, ab_tm2, or_true]
  · rw [if_neg (fun u => w1 u.1)]
    simp (disch := omega) only [do_X13_isChoice, rX13_isChoice_0, rX13_isChoice_2, rX13_isChoice_3, rX13_isChoice_4, rX13_isChoice_5, rX13_isChoice_8, rX13_isChoice_9, rX13_isChoice_10, rX13_isChoice_13, rX13_isChoice_16, rX13_isChoice_18, rX13_isChoice_19, rX13_isChoice_20, rX13_isChoice_21, rX13_isChoice_24, rX13_isChoice_25, rX13_isChoice_26, rX13_isChoice_29, rX13_isChoice_32, rX13_isChoice_33, rX13_isChoice_36, rX13_isChoice_37, gS_355, g, h3, sM, c1, ne_eq, not_false_eq_true, not_true_eq_false, true_and, and_true, and_self, true_imp_iff, false_imp_iff, imp_self, Bool.not_false, Bool.not_true, reduceCtorEq, ab_isJ, ab_psh, ab_cats, Bool.false_eq_true, if_true, if_false, ab_shf, ab_shw, Int.le_refl, Classical.not_not, Int.zero_add, forall_const, ↓ab_itT, ↓ab_itF, ab_anT, ab_w32_id, ab_rdf_ne, ab_rdw_ne, ab_rdw_eq, ab_rdf_in, ab_td2, ab_tm2, true_or]
theorem ac_ML.sameG (h : ac_ML σ κ d b p hp q hq mv) (hs : ab_Same P σ τ) (hp' : ∀ a f, P a f → (a = 355 ∧ (f ≤ 20 ∨ 23 ≤ f)) ∨ 363 ≤ a) : ac_ML τ κ d b p hp q hq mv := by
  have e : ∀ a f, a < 363 → (a ≠ 355 ∨ f = 21 ∨ f = 22) → ab_rd τ a f = ab_rd σ a f := fun a f w1 w => hs.2.2 a f (fun u => by have := hp' a f u; omega)
  unfold ac_ML at h ⊢
  rw [e _ _ (by omega) (by omega), e _ _ (by omega) (by omega), e _ _ (by omega) (by omega), e _ _ (by omega) (by omega), e _ _ (by omega) (by omega), e _ _ (by omega) (by omega), e _ _ (by omega) (by omega), e _ _ (by omega) (by omega)]
  exact h
def ac_LG (τ : ab_S) (κ : ac_K) (kd d b p q x y : Int) : Prop := ∀ x' y', 0 ≤ x' → x' < 12 → 0 ≤ y' → y' < 12 → (x' < x ∨ (x' = x ∧ y' < y)) → ac_iC κ b 0 p x' → ac_iC κ b 1 q y' → ab_rd τ 363 (12 * x' + y') = ac_GO κ kd d b p q 0 x' y' ∧ ab_rd τ 364 (12 * x' + y') = ac_GO κ kd d b p q 1 x' y'
theorem ac_LG.next (h : ac_LG σ κ kd d b p q x y) (hn : ¬ (ac_iC κ b 0 p x ∧ ac_iC κ b 1 q y)) : ac_LG σ κ kd d b p q x (y + 1) := fun x' y' a1 a2 a3 a4 a5 a6 a7 => by
  by_cases w : x' = x ∧ y' = y
  · exact absurd ⟨w.1 ▸ a6, w.2 ▸ a7⟩ hn
  · exact h x' y' a1 a2 a3 a4 (by omega) a6 a7
theorem mq_game_1 (h : ac_MI σ M κ) (hv : ac_MV σ κ v) (hb : ac_isB κ b) (hp : ac_isP κ p) (hq : ac_isP κ q) (hx : 0 ≤ x ∧ x < 12) (hy : 0 ≤ y ∧ y < 12) (hx1 : ac_iC κ b 0 p x) (hy1 : ac_iC κ b 1 q y) (hL : ac_LG σ κ (v b) (v (5 + b)) b p q x y) (hQ : ∀ τ, ab_Same ac_PM σ τ → ac_LG τ κ (v b) (v (5 + b)) b p q x (y + 1) → ab_Run X 229 143 (6, 0, 0) [ab_R 355, ab_I b, ab_I p, ab_I q, ab_I x, ab_I y, ab_I (ac_mc (x % 2) (y % 2))] [] τ Q) : ab_Run X 229 84 (6, 0, 0) [ab_R 355, ab_I b, ab_I p, ab_I q, ab_I x, ab_I y, ab_R 0] [ab_I (ac_mc (x % 2) (y % 2))] σ Q := by
  have g := h.1
  have n0 := ac_n_b h.2.2.2.2 hb (Or.inl rfl)
  have n1 := ac_n_b h.2.2.2.2 hb (Or.inr rfl)
  have n5 := h.2.2.2.2.2.1.1.2
  have hd := (hv.2.1 b hb.1 hb.2)
  have c4 := fun Q' => mq_lays (X := X) (Q := Q') (hp := x / 2 + 1) (hq := y / 2 + 1) (mv := ac_mc (x % 2) (y % 2)) h (hv.1 (5 + b) (by omega) (by omega)) hb hp hq
  have sL := ac_ly_same (σ := σ) (κ := κ) (d := v (5 + b)) (b := b) (p := p) (hp := x / 2 + 1) (q := q) (hq := y / 2 + 1) (mv := ac_mc (x % 2) (y % 2))
  have hIL := h.same (sL.mono (fun _ _ => ac_PL_PM))
  have gL := hIL.1
  have hB : ac_MB κ (v (5 + b)) b p (x / 2 + 1) q (y / 2 + 1) := ⟨hb, hp, hq, hd.2, by have := hx1.1; omega, by have := hy1.1; omega⟩
  simp (disch := omega) only [rX13_laysGame_84, rX13_laysGame_86, rX13_laysGame_87, rX13_laysGame_88, rX13_laysGame_89, rX13_laysGame_91, rX13_laysGame_92, rX13_laysGame_93, rX13_laysGame_94, rX13_laysGame_95, rX13_laysGame_96, rX13_laysGame_98, rX13_laysGame_99, rX13_laysGame_100, rX13_laysGame_101, rX13_laysGame_102, rX13_laysGame_104, rX13_laysGame_107, rX13_laysGame_108, rX13_laysGame_111, rX13_laysGame_113, rX13_laysGame_115, rX13_laysGame_116, rX13_laysGame_118, rX13_laysGame_119, rX13_laysGame_120, rX13_laysGame_121, gS_355, gP_355_30, g, gL, c4, ne_eq, not_false_eq_true, not_true_eq_false, true_and, and_true, and_self, true_imp_iff, false_imp_iff, imp_self, Bool.not_false, Bool.not_true, reduceCtorEq, ab_isJ, ab_psh, ab_cats, Bool.false_eq_true, if_true, if_false, ab_shf, ab_shw, Int.le_refl, Classical.not_not, Int.zero_add, forall_const, ↓ab_itT, ↓ab_itF, ab_anT, ab_w32_id, ab_rdf_ne, ab_rdw_ne, ab_rdw_eq, ab_rdf_in, ab_td2, ab_tm2]
  refine mq_oddsOf (kd := v b) hIL ac_ly_ML hB (by rw [sL.2.2 357 b (by unfold ac_PL; omega), hv.1 b (by omega) (by omega)]) (fun τ1 hs1 h23 => ?_)
  have s1 : ab_Same ac_PM σ τ1 := (sL.mono (fun _ _ => ac_PL_PM)).trans (hs1.mono (fun _ _ => ac_PB_PM))
  have hI1 := h.same s1
  have g1 := hI1.1
  have s2 : ab_Same ac_PM σ (ab_wr τ1 363 (12 * x + y) (ac_O κ (v b) (v (5 + b)) b p (x / 2 + 1) q (y / 2 + 1) (ac_mc (x % 2) (y % 2)) 0)) := s1.wr (by unfold ac_PM; omega)
  have hI2 := h.same s2
  have g2 := hI2.1
  have m2 : ac_ML (ab_wr τ1 363 (12 * x + y) (ac_O κ (v b) (v (5 + b)) b p (x / 2 + 1) q (y / 2 + 1) (ac_mc (x % 2) (y % 2)) 0)) κ (v (5 + b)) b p (x / 2 + 1) q (y / 2 + 1) (ac_mc (x % 2) (y % 2)) := (ac_ly_ML (σ := σ)).sameG ((hs1.mono (R := fun a f => ac_PB a f ∨ a = 363) (fun _ _ u => Or.inl u)).wr (Or.inr rfl)) (fun a f u => by
    rcases u with u | u
    · unfold ac_PB at u; omega
    · omega)
  simp (disch := omega) only [rX13_laysGame_124, rX13_laysGame_125, rX13_laysGame_126, rX13_laysGame_129, rX13_laysGame_131, rX13_laysGame_133, rX13_laysGame_134, rX13_laysGame_136, rX13_laysGame_137, rX13_laysGame_138, rX13_laysGame_139, gS_355, gP_355_31, gS_363, g1, ne_eq, not_false_eq_true, not_true_eq_false, true_and, and_true, and_self, true_imp_iff, false_imp_iff, imp_self, Bool.not_false, Bool.not_true, reduceCtorEq, ab_isJ, ab_psh, ab_cats, Bool.false_eq_true, if_true, if_false, ab_shf, ab_shw, Int.le_refl, Classical.not_not, Int.zero_add, forall_const, ↓ab_itT, ↓ab_itF, ab_anT, ab_w32_id, ab_rdf_ne, ab_rdw_ne, ab_rdw_eq, ab_rdf_in, ab_td2, ab_tm2]
  refine mq_oddsOf (kd := v b) hI2 m2 hB (by rw [s2.2.2 357 b (by unfold ac_PM; omega), hv.1 b (by omega) (by omega)]) (fun τ2 hs2 _ => ?_)
  have s3 : ab_Same ac_PM σ τ2 := s2.trans (hs2.mono (fun _ _ => ac_PB_PM))
  have g3 := (h.same s3).1
  have s4 : ab_Same ac_PM σ (ab_wr τ2 364 (12 * x + y) (ac_O κ (v b) (v (5 + b)) b p (x / 2 + 1) q (y / 2 + 1) (ac_mc (x % 2) (y % 2)) 1)) := s3.wr (by unfold ac_PM; omega)
  have o3 : ∀ a f, a ≠ 355 → ab_rd τ2 a f = ab_rd (ab_wr τ1 363 (12 * x + y) (ac_O κ (v b) (v (5 + b)) b p (x / 2 + 1) q (y / 2 + 1) (ac_mc (x % 2) (y % 2)) 0)) a f := fun a f ha => hs2.2.2 a f (by unfold ac_PB; omega)
  have o1 : ∀ a f, 363 ≤ a → ab_rd τ1 a f = ab_rd σ a f := fun a f ha => by rw [hs1.2.2 a f (by unfold ac_PB; omega), sL.2.2 a f (by unfold ac_PL; omega)]
  have key := hQ _ s4 (fun x' y' a1 a2 a3 a4 a5 a6 a7 => by
    by_cases w : x' = x ∧ y' = y
    · rw [w.1, w.2, ab_rdw_ne (by omega), o3 _ _ (by omega), ab_rdw_eq, ab_rdw_eq]
      exact ⟨rfl, rfl⟩
    · have := hL x' y' a1 a2 a3 a4 (by omega) a6 a7
      rw [ab_rdw_ne (by omega), o3 _ _ (by omega), ab_rdw_ne (by omega), o1 _ _ (by omega), ab_rdw_ne (by omega), o3 _ _ (by omega), ab_rdw_ne (by omega), o1 _ _ (by omega)]
      exact this)
  clear o1 o3 hs2 hs1 m2 s4 s3 s2 s1 hI2 hI1 hQ hL
  simp (disch := omega) only [rX13_laysGame_142, gS_364, g3, ne_eq, not_false_eq_true, not_true_eq_false, true_and, and_true, and_self, true_imp_iff, false_imp_iff, imp_self, Bool.not_false, Bool.not_true, reduceCtorEq, ab_isJ, ab_psh, ab_cats, Bool.false_eq_true, if_true, if_false, ab_shf, ab_shw, Int.le_refl, Classical.not_not, Int.zero_add, forall_const, ↓ab_itT, ↓ab_itF, ab_anT, ab_w32_id, ab_rdf_ne, ab_rdw_ne, ab_rdw_eq, ab_rdf_in, ab_td2, ab_tm2]
  all_goals exact key
theorem mq_game_y (h : ac_MI σ M κ) (hv : ac_MV σ κ v) (hb : ac_isB κ b) (hp : ac_isP κ p) (hq : ac_isP κ q) (hx : 0 ≤ x ∧ x < 12) (hQ : ∀ τ l6, ab_Same ac_PM σ τ → ac_LG τ κ (v b) (v (5 + b)) b p q x 12 → ab_Run X 229 149 (6, 0, 0) [ab_R 355, ab_I b, ab_I p, ab_I q, ab_I x, ab_I 12, l6] [] τ Q) : ∀ (n : Nat) (y : Int) (τ : ab_S) (l6 : ab_V), ab_Same ac_PM σ τ → ac_LG τ κ (v b) (v (5 + b)) b p q x y → 0 ≤ y → y + n = 12 → ab_Run X 229 13 (6, 0, 0) [ab_R 355, ab_I b, ab_I p, ab_I q, ab_I x, ab_I y, l6] [] τ Q := by
  intro n
  induction n with
  | zero =>
    intro y τ l6 hs hL hy hn
    obtain rfl : y = 12 := by omega
    have := hQ τ l6 hs hL
    rw [rX13_laysGame_13]
    simp (disch := omega) only [rX13_laysGame_15, rX13_laysGame_17, ne_eq, not_false_eq_true, not_true_eq_false, true_and, and_true, and_self, true_imp_iff, false_imp_iff, imp_self, Bool.not_false, Bool.not_true, reduceCtorEq, ab_isJ, ab_psh, ab_cats, Bool.false_eq_true, if_true, if_false, ab_shf, ab_shw, Int.le_refl, Classical.not_not, Int.zero_add, forall_const, ↓ab_itT, ↓ab_itF, ab_anT, ab_w32_id, ab_rdf_ne, ab_rdw_ne, ab_rdw_eq, ab_rdf_in, ab_td2, ab_tm2]
    all_goals exact this
  | succ n ih =>
    intro y τ l6 hs hL hy hn
    have hI := h.same hs
    have g := hI.1
    have c1 := fun Q' => mq_isChoice (X := X) (Q := Q') (x := x) hI hb (Or.inl rfl) hp hx
    have c2 := fun Q' => mq_isChoice (X := X) (Q := Q') (x := y) hI hb (Or.inr rfl) hq (by omega)
    rw [rX13_laysGame_13]
    by_cases w1 : ac_iC κ b 0 p x
    · rw [if_pos w1] at c1
      by_cases w2 : ac_iC κ b 1 q y
      · rw [if_pos w2] at c2
        have key : ∀ l6, ab_Run X 229 84 (6, 0, 0) [ab_R 355, ab_I b, ab_I p, ab_I q, ab_I x, ab_I y, l6] [ab_I (ac_mc (x % 2) (y % 2))] τ Q := by
          intro l6
          have k2 := mq_game_1 (X := X) (Q := Q) hI (hv.same hs) hb hp hq hx (show 0 ≤ y ∧ y < 12 by omega) w1 w2 hL (fun τ' hs' hL' => by
            have := ih (y + 1) τ' (ab_I (ac_mc (x % 2) (y % 2))) (hs.trans hs') hL' (by omega) (by omega)
            simp (disch := omega) only [rX13_laysGame_143, rX13_laysGame_146, ne_eq, not_false_eq_true, not_true_eq_false, true_and, and_true, and_self, true_imp_iff, false_imp_iff, imp_self, Bool.not_false, Bool.not_true, reduceCtorEq, ab_isJ, ab_psh, ab_cats, Bool.false_eq_true, if_true, if_false, ab_shf, ab_shw, Int.le_refl, Classical.not_not, Int.zero_add, forall_const, ↓ab_itT, ↓ab_itF, ab_anT, ab_w32_id, ab_rdf_ne, ab_rdw_ne, ab_rdw_eq, ab_rdf_in, ab_td2, ab_tm2]
            all_goals exact this)
          rw [rX13_laysGame_84] at k2 ⊢
          exact k2
        clear ih hQ hL
        unfold ac_mc at key
        by_cases z1 : x % 2 = 1
        · by_cases z2 : y % 2 = 1
          · rw [if_pos z1, if_pos z2] at key
            simp (disch := omega) only [rX13_laysGame_15, rX13_laysGame_17, rX13_laysGame_20, rX13_laysGame_21, rX13_laysGame_22, rX13_laysGame_23, rX13_laysGame_24, rX13_laysGame_26, rX13_laysGame_29, rX13_laysGame_32, rX13_laysGame_33, rX13_laysGame_34, rX13_laysGame_35, rX13_laysGame_36, rX13_laysGame_38, rX13_laysGame_41, rX13_laysGame_44, rX13_laysGame_47, rX13_laysGame_49, rX13_laysGame_50, rX13_laysGame_51, rX13_laysGame_52, rX13_laysGame_55, rX13_laysGame_57, rX13_laysGame_58, rX13_laysGame_59, rX13_laysGame_60, rX13_laysGame_63, rX13_laysGame_64, rX13_laysGame_67, rX13_laysGame_68, rX13_laysGame_71, rX13_laysGame_73, rX13_laysGame_74, rX13_laysGame_75, rX13_laysGame_76, rX13_laysGame_79, rX13_laysGame_80, rX13_laysGame_83, gS_355, g, c1, c2, ne_eq, not_false_eq_true, not_true_eq_false, true_and, and_true, and_self, true_imp_iff, false_imp_iff, imp_self, Bool.not_false, Bool.not_true, reduceCtorEq, ab_isJ, ab_psh, ab_cats, Bool.false_eq_true, if_true, if_false, ab_shf, ab_shw, Int.le_refl, Classical.not_not, Int.zero_add, forall_const, ↓ab_itT, ↓ab_itF, ab_anT, ab_w32_id, ab_rdf_ne, ab_rdw_ne, ab_rdw_eq, ab_rdf_in, ab_td2, ab_tm2]
            all_goals exact key _
          · rw [if_pos z1, if_neg z2] at key
            simp (disch := omega) only [rX13_laysGame_15, rX13_laysGame_17, rX13_laysGame_20, rX13_laysGame_21, rX13_laysGame_22, rX13_laysGame_23, rX13_laysGame_24, rX13_laysGame_26, rX13_laysGame_29, rX13_laysGame_32, rX13_laysGame_33, rX13_laysGame_34, rX13_laysGame_35, rX13_laysGame_36, rX13_laysGame_38, rX13_laysGame_41, rX13_laysGame_44, rX13_laysGame_47, rX13_laysGame_49, rX13_laysGame_50, rX13_laysGame_51, rX13_laysGame_52, rX13_laysGame_55, rX13_laysGame_57, rX13_laysGame_58, rX13_laysGame_59, rX13_laysGame_60, rX13_laysGame_63, rX13_laysGame_64, rX13_laysGame_67, rX13_laysGame_68, rX13_laysGame_71, rX13_laysGame_73, rX13_laysGame_74, rX13_laysGame_75, rX13_laysGame_76, rX13_laysGame_79, rX13_laysGame_80, rX13_laysGame_83, gS_355, g, c1, c2, ne_eq, not_false_eq_true, not_true_eq_false, true_and, and_true, and_self, true_imp_iff, false_imp_iff, imp_self, Bool.not_false, Bool.not_true, reduceCtorEq, ab_isJ, ab_psh, ab_cats, Bool.false_eq_true, if_true, if_false, ab_shf, ab_shw, Int.le_refl, Classical.not_not, Int.zero_add, forall_const, ↓ab_itT, ↓ab_itF, ab_anT, ab_w32_id, ab_rdf_ne, ab_rdw_ne, ab_rdw_eq, ab_rdf_in, ab_td2, ab_tm2]
            all_goals exact key _
        · by_cases z2 : y % 2 = 1
          · rw [if_neg z1, if_pos z2] at key
            simp (disch := omega) only [rX13_laysGame_15, rX13_laysGame_17, rX13_laysGame_20, rX13_laysGame_21, rX13_laysGame_22, rX13_laysGame_23, rX13_laysGame_24, rX13_laysGame_26, rX13_laysGame_29, rX13_laysGame_32, rX13_laysGame_33, rX13_laysGame_34, rX13_laysGame_35, rX13_laysGame_36, rX13_laysGame_38, rX13_laysGame_41, rX13_laysGame_44, rX13_laysGame_47, rX13_laysGame_49, rX13_laysGame_50, rX13_laysGame_51, rX13_laysGame_52, rX13_laysGame_55, rX13_laysGame_57, rX13_laysGame_58, rX13_laysGame_59, rX13_laysGame_60, rX13_laysGame_63, rX13_laysGame_64, rX13_laysGame_67, rX13_laysGame_68, rX13_laysGame_71, rX13_laysGame_73, rX13_laysGame_74, rX13_laysGame_75, rX13_laysGame_76, rX13_laysGame_79, rX13_laysGame_80, rX13_laysGame_83, gS_355, g, c1, c2, ne_eq, not_false_eq_true, not_true_eq_false, true_and, and_true, and_self, true_imp_iff, false_imp_iff, imp_self, Bool.not_false, Bool.not_true, reduceCtorEq, ab_isJ, ab_psh, ab_cats, Bool.false_eq_true, if_true, if_false, ab_shf, ab_shw, Int.le_refl, Classical.not_not, Int.zero_add, forall_const, ↓ab_itT, ↓ab_itF, ab_anT, ab_w32_id, ab_rdf_ne, ab_rdw_ne, ab_rdw_eq, ab_rdf_in, ab_td2, ab_tm2]
            all_goals exact key _
          · rw [if_neg z1, if_neg z2] at key
            simp (disch := omega) only [rX13_laysGame_15, rX13_laysGame_17, rX13_laysGame_20, rX13_laysGame_21, rX13_laysGame_22, rX13_laysGame_23, rX13_laysGame_24, rX13_laysGame_26, rX13_laysGame_29, rX13_laysGame_32, rX13_laysGame_33, rX13_laysGame_34, rX13_laysGame_35, rX13_laysGame_36, rX13_laysGame_38, rX13_laysGame_41, rX13_laysGame_44, rX13_laysGame_47, rX13_laysGame_49, rX13_laysGame_50, rX13_laysGame_51, rX13_laysGame_52, rX13_laysGame_55, rX13_laysGame_57, rX13_laysGame_58, rX13_laysGame_59, rX13_laysGame_60, rX13_laysGame_63, rX13_laysGame_64, rX13_laysGame_67, rX13_laysGame_68, rX13_laysGame_71, rX13_laysGame_73, rX13_laysGame_74, rX13_laysGame_75, rX13_laysGame_76, rX13_laysGame_79, rX13_laysGame_80, rX13_laysGame_83, gS_355, g, c1, c2, ne_eq, not_false_eq_true, not_true_eq_false, true_and, and_true, and_self, true_imp_iff, false_imp_iff, imp_self, Bool.not_false, Bool.not_true, reduceCtorEq, ab_isJ, ab_psh, ab_cats, Bool.false_eq_true, if_true, if_false, ab_shf, ab_shw, Int.le_refl, Classical.not_not, Int.zero_add, forall_const, ↓ab_itT, ↓ab_itF, ab_anT, ab_w32_id, ab_rdf_ne, ab_rdw_ne, ab_rdw_eq, ab_rdf_in, ab_td2, ab_tm2]
            all_goals exact key _
      · rw [if_neg w2] at c2
        have key := ih (y + 1) τ l6 hs (hL.next (fun u => w2 u.2)) (by omega) (by omega)
        simp (disch := omega) only [rX13_laysGame_15, rX13_laysGame_17, rX13_laysGame_20, rX13_laysGame_21, rX13_laysGame_22, rX13_laysGame_23, rX13_laysGame_24, rX13_laysGame_26, rX13_laysGame_29, rX13_laysGame_32, rX13_laysGame_33, rX13_laysGame_34, rX13_laysGame_35, rX13_laysGame_36, rX13_laysGame_38, rX13_laysGame_41, rX13_laysGame_44, rX13_laysGame_143, rX13_laysGame_146, gS_355, g, c1, c2, ne_eq, not_false_eq_true, not_true_eq_false, true_and, and_true, and_self, true_imp_iff, false_imp_iff, imp_self, Bool.not_false, Bool.not_true, reduceCtorEq, ab_isJ, ab_psh, ab_cats, Bool.false_eq_true, if_true, if_false, ab_shf, ab_shw, Int.le_refl, Classical.not_not, Int.zero_add, forall_const, ↓ab_itT, ↓ab_itF, ab_anT, ab_w32_id, ab_rdf_ne, ab_rdw_ne, ab_rdw_eq, ab_rdf_in, ab_td2, ab_tm2]
        all_goals exact key
    · rw [if_neg w1] at c1
      have key := ih (y + 1) τ l6 hs (hL.next (fun u => w1 u.1)) (by omega) (by omega)
      simp (disch := omega) only [rX13_laysGame_15, rX13_laysGame_17, rX13_laysGame_20, rX13_laysGame_21, rX13_laysGame_22, rX13_laysGame_23, rX13_laysGame_24, rX13_laysGame_26, rX13_laysGame_29, rX13_laysGame_32, rX13_laysGame_33, rX13_laysGame_34, rX13_laysGame_35, rX13_laysGame_36, rX13_laysGame_38, rX13_laysGame_41, rX13_laysGame_44, rX13_laysGame_143, rX13_laysGame_146, gS_355, g, c1, ne_eq, not_false_eq_true, not_true_eq_false, true_and, and_true, and_self, true_imp_iff, false_imp_iff, imp_self, Bool.not_false, Bool.not_true, reduceCtorEq, ab_isJ, ab_psh, ab_cats, Bool.false_eq_true, if_true, if_false, ab_shf, ab_shw, Int.le_refl, Classical.not_not, Int.zero_add, forall_const, ↓ab_itT, ↓ab_itF, ab_anT, ab_w32_id, ab_rdf_ne, ab_rdw_ne, ab_rdw_eq, ab_rdf_in, ab_td2, ab_tm2]
      all_goals exact key
theorem mq_game_x (h : ac_MI σ M κ) (hv : ac_MV σ κ v) (hb : ac_isB κ b) (hp : ac_isP κ p) (hq : ac_isP κ q) (hQ : ∀ τ, ab_Same ac_PM σ τ → ac_LG τ κ (v b) (v (5 + b)) b p q 12 0 → Q none τ) : ∀ (n : Nat) (x : Int) (τ : ab_S) (l5 l6 : ab_V), ab_Same ac_PM σ τ → ac_LG τ κ (v b) (v (5 + b)) b p q x 0 → 0 ≤ x → x + n = 12 → ab_Run X 229 3 (6, 0, 0) [ab_R 355, ab_I b, ab_I p, ab_I q, ab_I x, l5, l6] [] τ Q := by
  intro n
  induction n with
  | zero =>
    intro x τ l5 l6 hs hL hx hn
    obtain rfl : x = 12 := by omega
    have := hQ τ hs hL
    rw [rX13_laysGame_3]
    simp (disch := omega) only [rX13_laysGame_5, rX13_laysGame_7, rX13_laysGame_155, ne_eq, not_false_eq_true, not_true_eq_false, true_and, and_true, and_self, true_imp_iff, false_imp_iff, imp_self, Bool.not_false, Bool.not_true, reduceCtorEq, ab_isJ, ab_psh, ab_cats, Bool.false_eq_true, if_true, if_false, ab_shf, ab_shw, Int.le_refl, Classical.not_not, Int.zero_add, forall_const, ↓ab_itT, ↓ab_itF, ab_anT, ab_w32_id, ab_rdf_ne, ab_rdw_ne, ab_rdw_eq, ab_rdf_in, ab_td2, ab_tm2]
    all_goals exact this
  | succ n ih =>
    intro x τ l5 l6 hs hL hx hn
    have key := mq_game_y (X := X) (Q := Q) (x := x) h hv hb hp hq (by omega) (fun τ' l6 hs' hL' => by
      have := ih (x + 1) τ' (ab_I 12) l6 hs' (fun x' y' a1 a2 a3 a4 a5 a6 a7 => hL' x' y' a1 a2 a3 a4 (by omega) a6 a7) (by omega) (by omega)
      simp (disch := omega) only [rX13_laysGame_149, rX13_laysGame_152, ne_eq, not_false_eq_true, not_true_eq_false, true_and, and_true, and_self, true_imp_iff, false_imp_iff, imp_self, Bool.not_false, Bool.not_true, reduceCtorEq, ab_isJ, ab_psh, ab_cats, Bool.false_eq_true, if_true, if_false, ab_shf, ab_shw, Int.le_refl, Classical.not_not, Int.zero_add, forall_const, ↓ab_itT, ↓ab_itF, ab_anT, ab_w32_id, ab_rdf_ne, ab_rdw_ne, ab_rdw_eq, ab_rdf_in, ab_td2, ab_tm2]
      all_goals exact this) 12 0 τ l6 hs hL (by omega) (by omega)
    rw [rX13_laysGame_3]
    simp (disch := omega) only [rX13_laysGame_5, rX13_laysGame_7, rX13_laysGame_10, rX13_laysGame_11, ne_eq, not_false_eq_true, not_true_eq_false, true_and, and_true, and_self, true_imp_iff, false_imp_iff, imp_self, Bool.not_false, Bool.not_true, reduceCtorEq, ab_isJ, ab_psh, ab_cats, Bool.false_eq_true, if_true, if_false, ab_shf, ab_shw, Int.le_refl, Classical.not_not, Int.zero_add, forall_const, ↓ab_itT, ↓ab_itF, ab_anT, ab_w32_id, ab_rdf_ne, ab_rdw_ne, ab_rdw_eq, ab_rdf_in, ab_td2, ab_tm2]
    all_goals exact key
theorem mq_laysGame (h : ac_MI σ M κ) (hv : ac_MV σ κ v) (hb : ac_isB κ b) (hp : ac_isP κ p) (hq : ac_isP κ q) (hQ : ∀ τ, ab_Same ac_PM σ τ → ac_LG τ κ (v b) (v (5 + b)) b p q 12 0 → Q none τ) : ab_Do X 229 [ab_R 355, ab_I b, ab_I p, ab_I q] σ Q := by
  have key := mq_game_x (X := X) (Q := Q) h hv hb hp hq hQ 12 0 σ (ab_R 0) (ab_R 0) ab_Same.refl (fun x' y' a1 a2 a3 a4 a5 => by omega) (by omega) (by omega)
  simp (disch := omega) only [do_X13_laysGame, rX13_laysGame_0, rX13_laysGame_1, ne_eq, not_false_eq_true, not_true_eq_false, true_and, and_true, and_self, true_imp_iff, false_imp_iff, imp_self, Bool.not_false, Bool.not_true, reduceCtorEq, ab_isJ, ab_psh, ab_cats, Bool.false_eq_true, if_true, if_false, ab_shf, ab_shw, Int.le_refl, Classical.not_not, Int.zero_add, forall_const, ↓ab_itT, ↓ab_itF, ab_anT, ab_w32_id, ab_rdf_ne, ab_rdw_ne, ab_rdw_eq, ab_rdf_in, ab_td2, ab_tm2]
  all_goals exact key
end
