/-! WORDS: wordOf, isWord of the reference -/
section
variable {X : ab_X} {σ τ υ : ab_S} {Q : Option ab_V → ab_S → Prop} {n p s x y t i ln a f g k c q : Int} {tp : Int → Int} {T : List Int} {l2 : ab_V}
theorem ac_ll_run : ∀ (f : Nat) (i : Int), i + f = n → ac_lok (ac_ll tp (ac_ru 97 122 tp n f i - i).toNat i) := by
  intro f
  induction f with
  | zero => intro i hi; unfold ac_ru; rw [show (i - i).toNat = 0 by omega]; intro c hc; cases hc
  | succ f ih =>
    intro i hi
    unfold ac_ru
    by_cases z : i < n ∧ 97 ≤ tp i ∧ tp i ≤ 122
    · rw [if_pos z]
      have rb := ac_ru_b (lo := 97) (hi := 122) (tp := tp) (n := n) f (i + 1) (by omega)
      rw [show (ac_ru 97 122 tp n f (i + 1) - i).toNat = (ac_ru 97 122 tp n f (i + 1) - (i + 1)).toNat + 1 by omega]
      intro c hc
      unfold ac_ll at hc
      rcases List.mem_cons.mp hc with rfl | hc
      · omega
      · exact ih (i + 1) (by omega) c hc
    · rw [if_neg z, show (i - i).toNat = 0 by omega]
      intro c hc
      cases hc
theorem ac_kk2 (z : ac_kk tp n s = 2) : s < n ∧ (97 ≤ tp s ∧ tp s ≤ 122) ∧ ac_run 97 122 tp n s - s ≤ 8 := by
  have hlt : s < n := by
    apply Classical.byContradiction
    intro u
    unfold ac_kk at z
    rw [if_pos (by omega)] at z
    omega
  have hlet : 97 ≤ tp s ∧ tp s ≤ 122 := by
    apply Classical.byContradiction
    intro u
    unfold ac_kk at z
    rw [if_neg (by omega), if_neg u] at z
    split at z
    · split at z <;> omega
    · split at z
      · omega
      · split at z <;> omega
  refine ⟨hlt, hlet, ?_⟩
  apply Classical.byContradiction
  intro u
  unfold ac_kk at z
  rw [if_neg (by omega), if_pos hlet, if_neg u] at z
  omega
/-- a word's letters and numbers -/
theorem ac_kwd_ok (z : ac_kk tp n s = 2) (hs : 0 ≤ s) : ac_lok (ac_kwd tp n s) ∧ (q = 27 ∨ q = 32 → ac_kw q tp (ac_ke tp n s - s).toNat s 0 = ac_wl q 0 (ac_kwd tp n s)) := by
  obtain ⟨h1, h2, h3⟩ := ac_kk2 z
  have ek : ac_ke tp n s = ac_run 97 122 tp n s := by unfold ac_ke; rw [if_neg (by omega), if_pos h2]
  have rb := ac_run_b (lo := 97) (hi := 122) (tp := tp) (n := n) (p := s) (by omega)
  have ok : ac_lok (ac_kwd tp n s) := by
    unfold ac_kwd
    rw [ek]
    exact ac_ll_run (n - s).toNat s (by omega)
  refine ⟨ok, fun hq => ac_kw_wl hq _ s 0 ok (Int.le_refl 0) ?_⟩
  rw [ek]
  have hm : (ac_run 97 122 tp n s - s).toNat ≤ 8 := by omega
  generalize (ac_run 97 122 tp n s - s).toNat = m at hm ⊢
  have p1 := ac_powle (q := q) (by omega) m (8 - m)
  rw [show m + (8 - m) = 8 by omega] at p1
  have p2 : q ^ 8 ≤ 1099511627776 := by rcases hq with rfl | rfl <;> decide
  omega
theorem mq_wordOf_l (ha : a ≤ -2) (hA : (-2 - a).toNat < ab_txt.length) (hT : ab_txt.getD (-2 - a).toNat [] = T) (hC : ∀ j : Nat, j < T.length → 97 ≤ T.getD j 0 ∧ T.getD j 0 ≤ 122) (hL : T.length ≤ 20) : ∀ (d : Nat) (j x : Int), 0 ≤ j → j + d = T.length → (ab_Run X 170 4 (10, 0, 0) [ab_R a, ab_J x, ab_R 0, ab_I j] [] σ Q ↔ Q (some (ab_J (ac_kw 32 (fun i => T.getD i.toNat 0) d j x))) σ) := by
  intro d
  induction d with
  | zero =>
    intro j x hj hd
    unfold ac_kw ab_it
    rw [rX13_wordOf_4]
    simp (disch := omega) only [rX13_wordOf_5, rX13_wordOf_6, rX13_wordOf_9, rX13_wordOf_36, rX13_wordOf_37, hT, ne_eq, not_false_eq_true, not_true_eq_false, true_and, and_true, and_self, true_imp_iff, false_imp_iff, imp_self, Bool.not_false, Bool.not_true, reduceCtorEq, ab_isJ, ab_psh, ab_cats, Bool.false_eq_true, if_true, if_false, ab_shf, ab_shw, Int.le_refl, Classical.not_not, Int.zero_add, forall_const, ↓ab_itT, ↓ab_itF, ab_anT, ab_w32_id, ab_rdf_ne, ab_rdw_ne, ab_rdw_eq, ab_rdf_in, ab_td2, ab_tm2, true_or, or_true]
  | succ d ih =>
    intro j x hj hd
    have hc := hC j.toNat (by omega)
    have key := ih (j + 1) (ab_w64 (ab_w64 (32 * x) + (T.getD j.toNat 0 - 97 + 1))) (by omega) (by omega)
    show _ ↔ Q (some (ab_J (ac_kw 32 (fun i => T.getD i.toNat 0) d (j + 1) (ab_w64 (ab_w64 (32 * x) + (T.getD j.toNat 0 - 97 + 1)))))) σ
    rw [← key, rX13_wordOf_4]
    clear key ih hC
    simp (disch := omega) only [rX13_wordOf_5, rX13_wordOf_6, rX13_wordOf_9, rX13_wordOf_12, rX13_wordOf_15, rX13_wordOf_16, rX13_wordOf_17, rX13_wordOf_18, rX13_wordOf_19, rX13_wordOf_22, rX13_wordOf_24, rX13_wordOf_25, rX13_wordOf_26, rX13_wordOf_27, rX13_wordOf_28, rX13_wordOf_29, rX13_wordOf_30, rX13_wordOf_33, hT, ab_w32_id, ne_eq, not_false_eq_true, not_true_eq_false, true_and, and_true, and_self, true_imp_iff, false_imp_iff, imp_self, Bool.not_false, Bool.not_true, reduceCtorEq, ab_isJ, ab_psh, ab_cats, Bool.false_eq_true, if_true, if_false, ab_shf, ab_shw, Int.le_refl, Classical.not_not, Int.zero_add, forall_const, ↓ab_itT, ↓ab_itF, ab_anT, ab_w32_id, ab_rdf_ne, ab_rdw_ne, ab_rdw_eq, ab_rdf_in, ab_td2, ab_tm2, true_or, or_true]
theorem ac_ll_T (T : List Int) : ∀ (d : Nat) (j : Int), 0 ≤ j → j + d = T.length → ac_ll (fun i => T.getD i.toNat 0) d j = ac_tl (T.drop j.toNat) := by
  intro d
  induction d with
  | zero =>
    intro j hj hd
    rw [List.drop_eq_nil_of_le (by omega)]
    rfl
  | succ d ih =>
    intro j hj hd
    rw [ac_tl_drop T j.toNat (by omega)]
    show (T.getD j.toNat 0 - 97 + 1) :: ac_ll (fun i => T.getD i.toNat 0) d (j + 1) = _
    rw [ih (j + 1) (by omega) (by omega), show (j + 1).toNat = j.toNat + 1 by omega]
def ac_tok (T : List Int) : Prop := T.length ≤ 8 ∧ ∀ c ∈ T, 97 ≤ c ∧ c ≤ 122
theorem ac_tl_ok (h : ac_tok T) : ac_lok (ac_tl T) := by
  intro c hc
  obtain ⟨b, b1, rfl⟩ := List.mem_map.mp hc
  have := h.2 b b1
  omega
theorem mq_wordOf (ha : a ≤ -2) (hA : (-2 - a).toNat < ab_txt.length) (hT : ab_txt.getD (-2 - a).toNat [] = T) (hk : ac_tok T) : ab_Do X 170 [ab_R a] σ Q ↔ Q (some (ab_J (ac_wl 32 0 (ac_tl T)))) σ := by
  have hC : ∀ j : Nat, j < T.length → 97 ≤ T.getD j 0 ∧ T.getD j 0 ≤ 122 := fun j hj => by
    rw [List.getD_eq_getElem?_getD, List.getElem?_eq_getElem hj]
    exact hk.2 _ (List.getElem_mem hj)
  have h8 := hk.1
  have L := mq_wordOf_l (X := X) (σ := σ) (Q := Q) ha hA hT hC (by omega) T.length 0 0 (by omega) (by omega)
  have e := ac_ll_T T T.length 0 (by omega) (by omega)
  rw [show (0 : Int).toNat = 0 from rfl, List.drop_zero] at e
  have p1 := ac_powle (q := 32) (by omega) T.length (8 - T.length)
  rw [show T.length + (8 - T.length) = 8 by omega] at p1
  have p2 : (32 : Int) ^ 8 = 1099511627776 := by decide
  have ek := ac_kw_wl (q := 32) (tp := fun i => T.getD i.toNat 0) (Or.inr rfl) T.length 0 0 (by rw [e]; exact ac_tl_ok hk) (Int.le_refl 0) (by omega)
  rw [e] at ek
  rw [ek] at L
  rw [← L]
  clear L ek e hC
  simp (disch := omega) only [do_X13_wordOf, rX13_wordOf_0, rX13_wordOf_1, rX13_wordOf_2, rX13_wordOf_3, ne_eq, not_false_eq_true, not_true_eq_false, true_and, and_true, and_self, true_imp_iff, false_imp_iff, imp_self, Bool.not_false, Bool.not_true, reduceCtorEq, ab_isJ, ab_psh, ab_cats, Bool.false_eq_true, if_true, if_false, ab_shf, ab_shw, Int.le_refl, Classical.not_not, Int.zero_add, forall_const, ↓ab_itT, ↓ab_itF, ab_anT, ab_w32_id, ab_rdf_ne, ab_rdw_ne, ab_rdw_eq, ab_rdf_in, ab_td2, ab_tm2]
theorem mq_isWord (hg : ab_Geo σ) (hU : ac_UT σ n tp s) (hs : 0 ≤ s) (ha : a ≤ -2) (hA : (-2 - a).toNat < ab_txt.length) (hT : ab_txt.getD (-2 - a).toNat [] = T) (hk : ac_tok T) : ab_Do X 173 [ab_R 355, ab_R a] σ Q ↔ Q (some (ab_I (if ac_kk tp n s = 2 ∧ ac_kwd tp n s = ac_tl T then 1 else 0))) σ := by
  have c1 := fun Q' => mq_wordOf (X := X) (σ := σ) (Q := Q') ha hA hT hk
  obtain ⟨-, k2, -, -, -, k6⟩ := hU
  by_cases z : ac_kk tp n s = 2
  · obtain ⟨o1, o2⟩ := ac_kwd_ok (q := 32) z hs
    have k6 := k6 z
    rw [o2 (Or.inr rfl)] at k6
    rw [z] at k2
    have k2 : ab_rd σ 355 9 = 2 := k2
    have inj := ac_wl_inj (q := 32) (Or.inr rfl) o1 (ac_tl_ok hk)
    by_cases y : ac_kwd tp n s = ac_tl T
    · rw [if_pos ⟨z, y⟩]
      have e := inj.mpr y
      simp (disch := omega) only [do_X13_isWord, rX13_isWord_0, rX13_isWord_1, rX13_isWord_4, rX13_isWord_5, rX13_isWord_8, rX13_isWord_9, rX13_isWord_12, rX13_isWord_13, rX13_isWord_16, rX13_isWord_17, rX13_isWord_20, rX13_isWord_21, rX13_isWord_24, rX13_isWord_25, gS_355, hg, k2, k6, c1, e, ne_eq, not_false_eq_true, not_true_eq_false, true_and, and_true, and_self, true_imp_iff, false_imp_iff, imp_self, Bool.not_false, Bool.not_true, reduceCtorEq, ab_isJ, ab_psh, ab_cats, Bool.false_eq_true, if_true, if_false, ab_shf, ab_shw, Int.le_refl, Classical.not_not, Int.zero_add, forall_const, ↓ab_itT, ↓ab_itF, ab_anT, ab_w32_id, ab_rdf_ne, ab_rdw_ne, ab_rdw_eq, ab_rdf_in, ab_td2, ab_tm2, true_or, or_true]
    · rw [if_neg (fun u => y u.2)]
      have e : ¬ ac_wl 32 0 (ac_kwd tp n s) = ac_wl 32 0 (ac_tl T) := fun u => y (inj.mp u)
      clear inj
      generalize ac_wl 32 0 (ac_kwd tp n s) = w1 at *
      generalize ac_wl 32 0 (ac_tl T) = w2 at *
      by_cases y1 : w1 < w2
      · simp (disch := omega) only [do_X13_isWord, rX13_isWord_0, rX13_isWord_1, rX13_isWord_4, rX13_isWord_5, rX13_isWord_8, rX13_isWord_9, rX13_isWord_12, rX13_isWord_13, rX13_isWord_16, rX13_isWord_17, rX13_isWord_20, rX13_isWord_21, rX13_isWord_24, rX13_isWord_25, gS_355, hg, k2, k6, c1, ab_ifT, ab_ifF, ne_eq, not_false_eq_true, not_true_eq_false, true_and, and_true, and_self, true_imp_iff, false_imp_iff, imp_self, Bool.not_false, Bool.not_true, reduceCtorEq, ab_isJ, ab_psh, ab_cats, Bool.false_eq_true, if_true, if_false, ab_shf, ab_shw, Int.le_refl, Classical.not_not, Int.zero_add, forall_const, ↓ab_itT, ↓ab_itF, ab_anT, ab_w32_id, ab_rdf_ne, ab_rdw_ne, ab_rdw_eq, ab_rdf_in, ab_td2, ab_tm2, true_or, or_true]
      · simp (disch := omega) only [do_X13_isWord, rX13_isWord_0, rX13_isWord_1, rX13_isWord_4, rX13_isWord_5, rX13_isWord_8, rX13_isWord_9, rX13_isWord_12, rX13_isWord_13, rX13_isWord_16, rX13_isWord_17, rX13_isWord_20, rX13_isWord_21, rX13_isWord_24, rX13_isWord_25, gS_355, hg, k2, k6, c1, ab_ifT, ab_ifF, ne_eq, not_false_eq_true, not_true_eq_false, true_and, and_true, and_self, true_imp_iff, false_imp_iff, imp_self, Bool.not_false, Bool.not_true, reduceCtorEq, ab_isJ, ab_psh, ab_cats, Bool.false_eq_true, if_true, if_false, ab_shf, ab_shw, Int.le_refl, Classical.not_not, Int.zero_add, forall_const, ↓ab_itT, ↓ab_itF, ab_anT, ab_w32_id, ab_rdf_ne, ab_rdw_ne, ab_rdw_eq, ab_rdf_in, ab_td2, ab_tm2, true_or, or_true]
  · rw [if_neg (fun u => z u.1)]
    have z' : ¬ ab_rd σ 355 9 = 2 := by
      rw [k2]
      unfold ac_mk
      split
      · omega
      · split
        · omega
        · split <;> omega
    simp (disch := omega) only [do_X13_isWord, rX13_isWord_0, rX13_isWord_1, rX13_isWord_4, rX13_isWord_5, rX13_isWord_8, rX13_isWord_9, rX13_isWord_12, rX13_isWord_13, rX13_isWord_16, rX13_isWord_17, rX13_isWord_20, rX13_isWord_21, rX13_isWord_24, rX13_isWord_25, gS_355, hg, ne_eq, not_false_eq_true, not_true_eq_false, true_and, and_true, and_self, true_imp_iff, false_imp_iff, imp_self, Bool.not_false, Bool.not_true, reduceCtorEq, ab_isJ, ab_psh, ab_cats, Bool.false_eq_true, if_true, if_false, ab_shf, ab_shw, Int.le_refl, Classical.not_not, Int.zero_add, forall_const, ↓ab_itT, ↓ab_itF, ab_anT, ab_w32_id, ab_rdf_ne, ab_rdw_ne, ab_rdw_eq, ab_rdf_in, ab_td2, ab_tm2, true_or, or_true]
theorem mq_isWord5 (hg : ab_Geo σ) (h9 : ab_rd σ 355 9 = 5) : ab_Do X 173 [ab_R 355, ab_R a] σ Q ↔ Q (some (ab_I 0)) σ := by
  simp (disch := omega) only [do_X13_isWord, rX13_isWord_0, rX13_isWord_1, rX13_isWord_4, rX13_isWord_5, rX13_isWord_8, rX13_isWord_9, rX13_isWord_12, rX13_isWord_13, rX13_isWord_16, rX13_isWord_17, rX13_isWord_20, rX13_isWord_21, rX13_isWord_24, rX13_isWord_25, gS_355, hg, h9, ne_eq, not_false_eq_true, not_true_eq_false, true_and, and_true, and_self, true_imp_iff, false_imp_iff, imp_self, Bool.not_false, Bool.not_true, reduceCtorEq, ab_isJ, ab_psh, ab_cats, Bool.false_eq_true, if_true, if_false, ab_shf, ab_shw, Int.le_refl, Classical.not_not, Int.zero_add, forall_const, ↓ab_itT, ↓ab_itF, ab_anT, ab_w32_id, ab_rdf_ne, ab_rdw_ne, ab_rdw_eq, ab_rdf_in, ab_td2, ab_tm2, true_or, or_true]
end
