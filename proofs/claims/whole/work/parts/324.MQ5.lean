/-! THE REFERENCE: odds -/
theorem ab_it_add {α : Type} {f : Int → α → α} : ∀ (m n : Nat) (i : Int) (s : α), ab_it f (m + n) i s = ab_it f n (i + m) (ab_it f m i s)
  | 0, n, i, s => by simp [ab_it]
  | m + 1, n, i, s => by
    have e : m + 1 + n = m + n + 1 := by omega
    rw [e, ab_it, ab_it_add m n (i + 1) (f i s), ab_it]
    congr 1
    omega
theorem ab_it_shift {α : Type} {f : Int → α → α} (j : Int) : ∀ (n : Nat) (i : Int) (s : α), ab_it f n (i + j) s = ab_it (fun k => f (k + j)) n i s
  | 0, _, _ => rfl
  | n + 1, i, s => by
    rw [ab_it, ab_it, ← ab_it_shift j n (i + 1) (f (i + j) s)]
    congr 1
    omega
theorem ab_it_cg {α : Type} {f f' : Int → α → α} (n : Nat) (i : Int) (s : α) (h : ∀ j t, i ≤ j → j < i + n → f j t = f' j t) : ab_it f n i s = ab_it f' n i s := ab_it_congr (fun _ _ => True) n i s (fun j t h1 h2 _ => ⟨h j t h1 h2, trivial⟩) trivial
theorem ac_add_it {f : Int → Int} {w x : Int} : ∀ (n : Nat) (i : Int) (g : Int → Int), ab_it (fun r g => ac_add (f r) w g) n i g x = ab_it (fun r s => if f r = x then s + w else s) n i (g x)
  | 0, _, _ => rfl
  | n + 1, i, g => by
    rw [ab_it, ab_it, ac_add_it n (i + 1) (ac_add (f i) w g)]
    congr 1
    unfold ac_add
    by_cases h : f i = x
    · rw [if_pos h.symm, if_pos h]
    · rw [if_neg (fun u => h u.symm), if_neg h]
theorem ac_wt_sum {c : Int → Int → Int} {flaw n0 n1 x : Int} (h0 : 0 ≤ n0) (h1 : 0 ≤ n1) : ac_wt c flaw n0 n1 x = ab_it (fun k s => if c (ac_r0 n0 k) (ac_r1 n0 k) = x then s + flaw else s) (n0 + n1).toNat 0 (if c 0 0 = x then (100 - flaw) * (n0 + n1) else 0) := by
  have e : (n0 + n1).toNat = n0.toNat + n1.toNat := by omega
  unfold ac_wt ac_wt1
  rw [e, ab_it_add, ac_add_it, ac_add_it]
  have e1 := ab_it_shift (f := fun r s => if c 0 r = x then s + flaw else s) (1 - n0) n1.toNat n0 (ab_it (fun r s => if c r 0 = x then s + flaw else s) n0.toNat 1 (ac_add (c 0 0) ((100 - flaw) * (n0 + n1)) (fun _ => 0) x))
  have e2 : n0 + (1 - n0) = 1 := by omega
  rw [e2] at e1
  rw [e1]
  have e3 := ab_it_shift (f := fun r s => if c r 0 = x then s + flaw else s) 1 n0.toNat 0 (ac_add (c 0 0) ((100 - flaw) * (n0 + n1)) (fun _ => 0) x)
  rw [Int.zero_add] at e3
  rw [e3]
  have e4 : ac_add (c 0 0) ((100 - flaw) * (n0 + n1)) (fun _ => 0) x = if c 0 0 = x then (100 - flaw) * (n0 + n1) else 0 := by
    unfold ac_add
    by_cases h : c 0 0 = x
    · rw [if_pos h.symm, if_pos h, Int.zero_add]
    · rw [if_neg (fun u => h u.symm), if_neg h]
  rw [e4]
  have e5 : (0 : Int) + (n0.toNat : Int) = n0 := by omega
  rw [e5]
  have e6 : ab_it (fun k s => if c (k + 1) 0 = x then s + flaw else s) n0.toNat 0 (if c 0 0 = x then (100 - flaw) * (n0 + n1) else 0) = ab_it (fun k s => if c (ac_r0 n0 k) (ac_r1 n0 k) = x then s + flaw else s) n0.toNat 0 (if c 0 0 = x then (100 - flaw) * (n0 + n1) else 0) := by
    refine ab_it_cg _ _ _ (fun j t q1 q2 => ?_)
    unfold ac_r0 ac_r1
    rw [if_pos (c := j < n0) (by omega), if_pos (c := j < n0) (by omega)]
  rw [e6]
  refine ab_it_cg _ _ _ (fun j t q1 q2 => ?_)
  unfold ac_r0 ac_r1
  rw [if_neg (c := j < n0) (by omega), if_neg (c := j < n0) (by omega)]
  have : j + (1 - n0) = j - n0 + 1 := by omega
  rw [this]
theorem ac_row_r {n0 k : Int} : ac_row (if k < n0 then 0 else 1) (if k < n0 then k else k - n0) 0 = ac_r0 n0 k ∧ ac_row (if k < n0 then 0 else 1) (if k < n0 then k else k - n0) 1 = ac_r1 n0 k := by
  unfold ac_row ac_r0 ac_r1
  by_cases w : k < n0
  · rw [if_pos w, if_pos w, if_pos w, if_pos w]
    exact ⟨if_pos rfl, if_neg (by decide)⟩
  · rw [if_neg w, if_neg w, if_neg w, if_neg w]
    exact ⟨if_neg (by decide), if_pos rfl⟩
theorem ac_row_m {ft arm : Int} (h : arm = 0 ∨ arm = 1) : ac_row (-1) ft arm = 0 := by
  unfold ac_row
  rw [if_neg (by omega)]
section
variable {X : ab_X} {σ τ : ab_S} {Q : Option ab_V → ab_S → Prop} {M : Int} {κ : ac_K} {v : Int → Int} {kd d b p hp q hq mv fa ft arm k x : Int}
theorem mq_oddsOf_l (h : ac_MI σ M κ) (hL : ac_ML σ κ d b p hp q hq mv) (hB : ac_MB κ d b p hp q hq) (hkd : ab_rd σ 357 b = kd) (fin : Int) (hQ : ∀ τ, ab_Same ac_PB σ τ → ab_rd τ 355 23 = -1 → Q (some (ab_J fin)) τ) : ∀ (n : Nat) (k s : Int) (τ : ab_S), ab_Same ac_PB σ τ → 0 ≤ k → k + n = ac_n κ b 0 + ac_n κ b 1 → 0 ≤ s → s ≤ 1300 + 99 * k → ab_it (fun k s => if ac_C κ kd d b p hp q hq mv (ac_r0 (ac_n κ b 0) k) (ac_r1 (ac_n κ b 0) k) = x then s + κ 4 0 else s) n k s = fin → ab_Run X 211 41 (5, 0, 0) [ab_R 355, ab_I x, ab_I (ac_n κ b 0 + ac_n κ b 1), ab_J s, ab_R 0, ab_I k] [] τ Q := by
  have n0 := ac_n_b h.2.2.2.2 hB.1 (Or.inl rfl)
  have n1 := ac_n_b h.2.2.2.2 hB.1 (Or.inr rfl)
  have k4 := h.2.2.2.2.1.2.2.2.2
  intro n
  induction n with
  | zero =>
    intro k s τ hs hk hn hs0 hs1 hf
    have g := (h.same (hs.mono (fun _ _ => ac_PB_PM))).1
    rw [ab_it] at hf
    subst hf
    simp (disch := omega) only [rX13_oddsOf_41, rX13_oddsOf_43, rX13_oddsOf_44, rX13_oddsOf_82, rX13_oddsOf_83, rX13_oddsOf_84, rX13_oddsOf_87, rX13_oddsOf_88, gS_355, g, ne_eq, not_false_eq_true, not_true_eq_false, true_and, and_true, and_self, true_imp_iff, false_imp_iff, imp_self, Bool.not_false, Bool.not_true, reduceCtorEq, ab_isJ, ab_psh, ab_cats, Bool.false_eq_true, if_true, if_false, ab_shf, ab_shw, Int.le_refl, Classical.not_not, Int.zero_add, forall_const, ↓ab_itT, ↓ab_itF, ab_anT, ab_w32_id, ab_rdf_ne, ab_rdw_ne, ab_rdw_eq, ab_rdf_in, ab_td2, ab_tm2]
    exact hQ _ (hs.wr (by unfold ac_PB; omega)) ab_rdw_eq
  | succ n ih =>
    intro k s τ hs hk hn hs0 hs1 hf
    have hI := h.same (hs.mono (fun _ _ => ac_PB_PM))
    have hI1 := hI.same ((ac_fl_same (σ := τ) (n0 := ac_n κ b 0) (k := k)).mono (fun _ _ => ac_PB_PM))
    have hL' := hL.same (hs.trans (ac_fl_same (σ := τ) (n0 := ac_n κ b 0) (k := k))) (fun a f u => by unfold ac_PB at u; omega)
    have h21 : ab_rd τ 355 21 = b := by rw [hs.2.2 355 21 (by unfold ac_PB; omega), hL.1]
    have hkd' : ab_rd (ac_fl τ (ac_n κ b 0) k) 357 b = kd := by rw [(hs.trans (ac_fl_same (σ := τ) (n0 := ac_n κ b 0) (k := k))).2.2 357 b (by unfold ac_PB; omega), hkd]
    have c1 := fun Q' => mq_flaws (X := X) (Q := Q') (k := k) hI hB.1 h21 (by omega)
    have c2 := fun Q' => mq_comes (X := X) (Q := Q') hI1 hL' hB ac_fl_a.1 ac_fl_a.2 hkd'
    rw [ac_row_r.1, ac_row_r.2] at c2
    have s2 := (hs.trans (ac_fl_same (σ := τ) (n0 := ac_n κ b 0) (k := k))).trans (ac_cs_same (cc := ac_C κ kd d b p hp q hq mv (ac_r0 (ac_n κ b 0) k) (ac_r1 (ac_n κ b 0) k)) (w0 := ac_W (ac_N κ p q hp p (ac_m0 mv)) (ac_brs (ac_S κ d b 0 p) (ac_r0 (ac_n κ b 0) k)) (ac_n κ b 0)) (w1 := ac_W (ac_N κ p q hq q (ac_m1 mv)) (ac_brs (ac_S κ d b 1 q) (ac_r1 (ac_n κ b 0) k)) (ac_n κ b 1)))
    generalize ac_cs (ac_fl τ (ac_n κ b 0) k) _ _ _ = υ at c2 s2
    have hIu := h.same (s2.mono (fun _ _ => ac_PB_PM))
    obtain ⟨gu, h3u, hGu, hMu, -⟩ := hIu
    have zM := hGu.1
    have sM := hGu.2.1
    have k4u := kM_4 hMu
    have g := hI.1
    have g1 := hI1.1
    rw [ab_it] at hf
    by_cases w : ac_C κ kd d b p hp q hq mv (ac_r0 (ac_n κ b 0) k) (ac_r1 (ac_n κ b 0) k) = x
    · rw [if_pos w] at hf
      have key := ih (k + 1) (s + κ 4 0) υ s2 (by omega) (by omega) (by omega) (by omega) hf
      rw [rX13_oddsOf_41]
      simp (disch := omega) only [rX13_oddsOf_43, rX13_oddsOf_44, rX13_oddsOf_47, rX13_oddsOf_48, rX13_oddsOf_50, rX13_oddsOf_53, rX13_oddsOf_54, rX13_oddsOf_55, rX13_oddsOf_58, rX13_oddsOf_59, rX13_oddsOf_62, rX13_oddsOf_63, rX13_oddsOf_66, rX13_oddsOf_69, rX13_oddsOf_70, rX13_oddsOf_73, rX13_oddsOf_74, rX13_oddsOf_75, rX13_oddsOf_76, rX13_oddsOf_79, gS_355, g, g1, gu, h3u, sM, k4u, c1, c2, w, ne_eq, not_false_eq_true, not_true_eq_false, true_and, and_true, and_self, true_imp_iff, false_imp_iff, imp_self, Bool.not_false, Bool.not_true, reduceCtorEq, ab_isJ, ab_psh, ab_cats, Bool.false_eq_true, if_true, if_false, ab_shf, ab_shw, Int.le_refl, Classical.not_not, Int.zero_add, forall_const, ↓ab_itT, ↓ab_itF, ab_anT, ab_w32_id, ab_rdf_ne, ab_rdw_ne, ab_rdw_eq, ab_rdf_in, ab_td2, ab_tm2, ab_w64_id]
      all_goals exact key
    · rw [if_neg w] at hf
      have key := ih (k + 1) (s + 0) υ s2 (by omega) (by omega) (by omega) (by omega) (by rw [Int.add_zero]; exact hf)
      rw [rX13_oddsOf_41]
      simp (disch := omega) only [rX13_oddsOf_43, rX13_oddsOf_44, rX13_oddsOf_47, rX13_oddsOf_48, rX13_oddsOf_50, rX13_oddsOf_53, rX13_oddsOf_54, rX13_oddsOf_55, rX13_oddsOf_58, rX13_oddsOf_59, rX13_oddsOf_62, rX13_oddsOf_63, rX13_oddsOf_66, rX13_oddsOf_69, rX13_oddsOf_70, rX13_oddsOf_73, rX13_oddsOf_74, rX13_oddsOf_75, rX13_oddsOf_76, rX13_oddsOf_79, gS_355, g, g1, gu, h3u, sM, k4u, c1, c2, w, ne_eq, not_false_eq_true, not_true_eq_false, true_and, and_true, and_self, true_imp_iff, false_imp_iff, imp_self, Bool.not_false, Bool.not_true, reduceCtorEq, ab_isJ, ab_psh, ab_cats, Bool.false_eq_true, if_true, if_false, ab_shf, ab_shw, Int.le_refl, Classical.not_not, Int.zero_add, forall_const, ↓ab_itT, ↓ab_itF, ab_anT, ab_w32_id, ab_rdf_ne, ab_rdw_ne, ab_rdw_eq, ab_rdf_in, ab_td2, ab_tm2, ab_w64_id]
      all_goals exact key
theorem mq_oddsOf (h : ac_MI σ M κ) (hL : ac_ML σ κ d b p hp q hq mv) (hB : ac_MB κ d b p hp q hq) (hkd : ab_rd σ 357 b = kd) (hQ : ∀ τ, ab_Same ac_PB σ τ → ab_rd τ 355 23 = -1 → Q (some (ab_J (ac_O κ kd d b p hp q hq mv x))) τ) : ab_Do X 211 [ab_R 355, ab_I x] σ Q := by
  have n0 := ac_n_b h.2.2.2.2 hB.1 (Or.inl rfl)
  have n1 := ac_n_b h.2.2.2.2 hB.1 (Or.inr rfl)
  have k4 := h.2.2.2.2.1.2.2.2.2
  have m := ab_mulb (show 0 ≤ 100 - κ 4 0 by omega) (show 100 - κ 4 0 ≤ 100 by omega) (show 0 ≤ ac_n κ b 0 + ac_n κ b 1 by omega) (show ac_n κ b 0 + ac_n κ b 1 ≤ 12 by omega)
  unfold ac_O at hQ
  rw [ac_wt_sum (by omega) (by omega)] at hQ
  have L := mq_oddsOf_l (X := X) (x := x) h hL hB hkd _ hQ
  have s1 : ab_Same ac_PB σ (ab_wr σ 355 23 (-1)) := ab_Same.refl.wr (by unfold ac_PB; omega)
  have hI1 := h.same (s1.mono (fun _ _ => ac_PB_PM))
  have hL' := hL.same s1 (fun a f u => by unfold ac_PB at u; omega)
  have hkd' : ab_rd (ab_wr σ 355 23 (-1)) 357 b = kd := by rw [ab_rdw_ne (by omega), hkd]
  have c0 := fun Q' => mq_allPlaces (X := X) (Q := Q') h hB.1 hL.1
  have c2 := fun Q' => mq_comes (X := X) (Q := Q') (fa := -1) (ft := ab_rd (ab_wr σ 355 23 (-1)) 355 24) hI1 hL' hB ab_rdw_eq rfl hkd'
  rw [ac_row_m (Or.inl rfl), ac_row_m (Or.inr rfl)] at c2
  have s2 := s1.trans (ac_cs_same (cc := ac_C κ kd d b p hp q hq mv 0 0) (w0 := ac_W (ac_N κ p q hp p (ac_m0 mv)) (ac_brs (ac_S κ d b 0 p) 0) (ac_n κ b 0)) (w1 := ac_W (ac_N κ p q hq q (ac_m1 mv)) (ac_brs (ac_S κ d b 1 q) 0) (ac_n κ b 1)))
  generalize ac_cs (ab_wr σ 355 23 (-1)) _ _ _ = υ at c2 s2
  have hIu := h.same (s2.mono (fun _ _ => ac_PB_PM))
  obtain ⟨gu, h3u, hGu, hMu, -⟩ := hIu
  have zM := hGu.1
  have sM := hGu.2.1
  have k4u := kM_4 hMu
  have g := h.1
  by_cases w : ac_C κ kd d b p hp q hq mv 0 0 = x
  · rw [if_pos w] at L
    have key := L (ac_n κ b 0 + ac_n κ b 1).toNat 0 ((100 - κ 4 0) * (ac_n κ b 0 + ac_n κ b 1)) υ s2 (by omega) (by omega) (by omega) (by omega) rfl
    simp (disch := omega) only [do_X13_oddsOf, rX13_oddsOf_0, rX13_oddsOf_1, rX13_oddsOf_4, rX13_oddsOf_5, rX13_oddsOf_6, rX13_oddsOf_7, rX13_oddsOf_10, rX13_oddsOf_11, rX13_oddsOf_14, rX13_oddsOf_15, rX13_oddsOf_18, rX13_oddsOf_21, rX13_oddsOf_22, rX13_oddsOf_25, rX13_oddsOf_28, rX13_oddsOf_29, rX13_oddsOf_30, rX13_oddsOf_31, rX13_oddsOf_32, rX13_oddsOf_33, rX13_oddsOf_36, rX13_oddsOf_37, rX13_oddsOf_38, rX13_oddsOf_39, gS_355, g, gu, h3u, sM, k4u, c0, c2, w, ne_eq, not_false_eq_true, not_true_eq_false, true_and, and_true, and_self, true_imp_iff, false_imp_iff, imp_self, Bool.not_false, Bool.not_true, reduceCtorEq, ab_isJ, ab_psh, ab_cats, Bool.false_eq_true, if_true, if_false, ab_shf, ab_shw, Int.le_refl, Classical.not_not, Int.zero_add, forall_const, ↓ab_itT, ↓ab_itF, ab_anT, ab_w32_id, ab_rdf_ne, ab_rdw_ne, ab_rdw_eq, ab_rdf_in, ab_td2, ab_tm2, ab_w64_id]
    exact key
  · rw [if_neg w] at L
    have key := L (ac_n κ b 0 + ac_n κ b 1).toNat 0 0 υ s2 (by omega) (by omega) (by omega) (by omega) rfl
    simp (disch := omega) only [do_X13_oddsOf, rX13_oddsOf_0, rX13_oddsOf_1, rX13_oddsOf_4, rX13_oddsOf_5, rX13_oddsOf_6, rX13_oddsOf_7, rX13_oddsOf_10, rX13_oddsOf_11, rX13_oddsOf_14, rX13_oddsOf_15, rX13_oddsOf_18, rX13_oddsOf_21, rX13_oddsOf_22, rX13_oddsOf_25, rX13_oddsOf_28, rX13_oddsOf_29, rX13_oddsOf_30, rX13_oddsOf_31, rX13_oddsOf_32, rX13_oddsOf_33, rX13_oddsOf_36, rX13_oddsOf_37, rX13_oddsOf_38, rX13_oddsOf_39, gS_355, g, gu, h3u, sM, k4u, c0, c2, w, ne_eq, not_false_eq_true, not_true_eq_false, true_and, and_true, and_self, true_imp_iff, false_imp_iff, imp_self, Bool.not_false, Bool.not_true, reduceCtorEq, ab_isJ, ab_psh, ab_cats, Bool.false_eq_true, if_true, if_false, ab_shf, ab_shw, Int.le_refl, Classical.not_not, Int.zero_add, forall_const, ↓ab_itT, ↓ab_itF, ab_anT, ab_w32_id, ab_rdf_ne, ab_rdw_ne, ab_rdw_eq, ab_rdf_in, ab_td2, ab_tm2, ab_w64_id]
    all_goals exact key
end
