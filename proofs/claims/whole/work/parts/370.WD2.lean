/-! WORDS: reads of the class, isWord of the reference -/
def ac_tl (l : List Int) : List Int := l.map (fun c => c - 97 + 1)
/-- the token's word -/
def ac_kwd (tp : Int → Int) (n s : Int) : List Int := ac_ll tp (ac_ke tp n s - s).toNat s
theorem ac_drop (l : List Int) (j : Nat) (h : j < l.length) : l.drop j = l.getD j 0 :: l.drop (j + 1) := by
  rw [List.drop_eq_getElem_cons h, List.getD_eq_getElem?_getD, List.getElem?_eq_getElem h]
  rfl
theorem ac_tl_drop (l : List Int) (j : Nat) (h : j < l.length) : ac_tl (l.drop j) = (l.getD j 0 - 97 + 1) :: ac_tl (l.drop (j + 1)) := by
  rw [ac_drop l j h]
  rfl
section
variable {X : ab_X} {σ τ υ : ab_S} {Q : Option ab_V → ab_S → Prop} {n p s x y t i ln a f g k c : Int} {tp : Int → Int} {T : List Int} {l2 : ab_V}
theorem sp_reads_l (h : ac_TO σ n tp) (h3 : ab_rd σ 3 3 = s) (hs : 0 ≤ s) (he : s + T.length ≤ n) (ha : a ≤ -2) (hA : (-2 - a).toNat < ab_txt.length) (hT : ab_txt.getD (-2 - a).toNat [] = T) : ∀ (d : Nat) (j : Int), 0 ≤ j → j + d = T.length → (ab_Run X 73 28 (10, 0, 0) [ab_R 3, ab_R a, ab_I j] [] σ Q ↔ Q (some (ab_I (if ac_ll tp d (s + j) = ac_tl (T.drop j.toNat) then 1 else 0))) σ) := by
  obtain ⟨g, h7, hn, h4⟩ := h
  intro d
  induction d with
  | zero =>
    intro j hj hd
    have e : T.drop j.toNat = [] := List.drop_eq_nil_of_le (by omega)
    rw [e, if_pos (show ac_ll tp 0 (s + j) = ac_tl [] from rfl)]
    rw [rX9_reads_28]
    clear h4
    simp (disch := omega) only [rX9_reads_29, rX9_reads_30, rX9_reads_33, rX9_reads_63, rX9_reads_64, hT, ne_eq, not_false_eq_true, not_true_eq_false, true_and, and_true, and_self, true_imp_iff, false_imp_iff, imp_self, Bool.not_false, Bool.not_true, reduceCtorEq, ab_isJ, ab_psh, ab_cats, Bool.false_eq_true, if_true, if_false, ab_shf, ab_shw, Int.le_refl, Classical.not_not, Int.zero_add, forall_const, ↓ab_itT, ↓ab_itF, ab_anT, ab_w32_id, ab_rdf_ne, ab_rdw_ne, ab_rdw_eq, ab_rdf_in, ab_td2, ab_tm2, true_or, or_true]
  | succ d ih =>
    intro j hj hd
    obtain ⟨e4, t1, t2⟩ := h4 (s + j) (by omega) (by omega)
    rw [ac_tl_drop T j.toNat (by omega)]
    show _ ↔ Q (some (ab_I (if (tp (s + j) - 97 + 1) :: ac_ll tp d (s + j + 1) = (T.getD j.toNat 0 - 97 + 1) :: ac_tl (T.drop (j.toNat + 1)) then 1 else 0))) σ
    have key := ih (j + 1) (by omega) (by omega)
    rw [show (j + 1).toNat = j.toNat + 1 by omega, show s + (j + 1) = s + j + 1 by omega] at key
    rw [rX9_reads_28]
    by_cases z : tp (s + j) = T.getD j.toNat 0
    · have ec : ((tp (s + j) - 97 + 1) :: ac_ll tp d (s + j + 1) = (T.getD j.toNat 0 - 97 + 1) :: ac_tl (T.drop (j.toNat + 1))) ↔ (ac_ll tp d (s + j + 1) = ac_tl (T.drop (j.toNat + 1))) := by
        rw [z]
        exact ⟨fun u => (List.cons.inj u).2, fun u => by rw [u]⟩
      have e2 : (if (tp (s + j) - 97 + 1) :: ac_ll tp d (s + j + 1) = (T.getD j.toNat 0 - 97 + 1) :: ac_tl (T.drop (j.toNat + 1)) then (1 : Int) else 0) = if ac_ll tp d (s + j + 1) = ac_tl (T.drop (j.toNat + 1)) then 1 else 0 := by
        by_cases y : ac_ll tp d (s + j + 1) = ac_tl (T.drop (j.toNat + 1))
        · rw [if_pos y, if_pos (ec.mpr y)]
        · rw [if_neg y, if_neg (fun u => y (ec.mp u))]
      rw [e2, ← key]
      clear key ih h4 ec e2
      simp (disch := omega) only [rX9_reads_29, rX9_reads_30, rX9_reads_33, rX9_reads_36, rX9_reads_37, rX9_reads_40, rX9_reads_41, rX9_reads_44, rX9_reads_45, rX9_reads_46, rX9_reads_47, rX9_reads_48, rX9_reads_49, rX9_reads_52, rX9_reads_55, rX9_reads_56, rX9_reads_57, rX9_reads_60, gS_3, gP_3_0, gS_4, g, h3, hT, e4, ab_w32_id, ne_eq, not_false_eq_true, not_true_eq_false, true_and, and_true, and_self, true_imp_iff, false_imp_iff, imp_self, Bool.not_false, Bool.not_true, reduceCtorEq, ab_isJ, ab_psh, ab_cats, Bool.false_eq_true, if_true, if_false, ab_shf, ab_shw, Int.le_refl, Classical.not_not, Int.zero_add, forall_const, ↓ab_itT, ↓ab_itF, ab_anT, ab_w32_id, ab_rdf_ne, ab_rdw_ne, ab_rdw_eq, ab_rdf_in, ab_td2, ab_tm2, true_or, or_true]
    · rw [if_neg (fun u => z (by have := (List.cons.inj u).1; omega))]
      clear key ih h4
      simp (disch := omega) only [rX9_reads_29, rX9_reads_30, rX9_reads_33, rX9_reads_36, rX9_reads_37, rX9_reads_40, rX9_reads_41, rX9_reads_44, rX9_reads_45, rX9_reads_46, rX9_reads_47, rX9_reads_48, rX9_reads_49, rX9_reads_52, rX9_reads_55, rX9_reads_56, gS_3, gP_3_0, gS_4, g, h3, hT, e4, ab_w32_id, ne_eq, not_false_eq_true, not_true_eq_false, true_and, and_true, and_self, true_imp_iff, false_imp_iff, imp_self, Bool.not_false, Bool.not_true, reduceCtorEq, ab_isJ, ab_psh, ab_cats, Bool.false_eq_true, if_true, if_false, ab_shf, ab_shw, Int.le_refl, Classical.not_not, Int.zero_add, forall_const, ↓ab_itT, ↓ab_itF, ab_anT, ab_w32_id, ab_rdf_ne, ab_rdw_ne, ab_rdw_eq, ab_rdf_in, ab_td2, ab_tm2, true_or, or_true]
theorem sp_reads (h : ac_TO σ n tp) (hK : ac_KT σ n tp s) (hs : 0 ≤ s ∧ s ≤ n) (ha : a ≤ -2) (hA : (-2 - a).toNat < ab_txt.length) (hT : ab_txt.getD (-2 - a).toNat [] = T) (hL : T.length ≤ 20) : ab_Do X 73 [ab_R 3, ab_R a] σ Q ↔ Q (some (ab_I (if ac_kk tp n s = 2 ∧ ac_kwd tp n s = ac_tl T then 1 else 0))) σ := by
  obtain ⟨k1, k2, k3, -, -⟩ := hK
  have g := h.1
  have nb := h.2.2.1
  by_cases z : ac_kk tp n s = 2
  · have hlt : s < n := by
      apply Classical.byContradiction
      intro u
      unfold ac_kk at z
      rw [if_pos (by omega)] at z
      omega
    have hlet : 97 ≤ tp s ∧ tp s ≤ 122 := by
      apply Classical.byContradiction
      intro u
      unfold ac_kk at z
      rw [if_neg (by omega), if_neg u] at z
      split at z
      · split at z <;> omega
      · split at z
        · omega
        · split at z <;> omega
    have ek : ac_ke tp n s = ac_run 97 122 tp n s := by unfold ac_ke; rw [if_neg (by omega), if_pos hlet]
    have rb := ac_run_b (lo := 97) (hi := 122) (tp := tp) (n := n) (p := s) (by omega)
    rw [← ek] at rb
    rw [z] at k1
    have tlen : (ac_kwd tp n s).length = (ac_ke tp n s - s).toNat := ac_ll_len _ _
    have Tlen : (ac_tl T).length = T.length := List.length_map ..
    by_cases y : ac_ke tp n s - s = T.length
    · have L := sp_reads_l (X := X) (Q := Q) (T := T) (a := a) h k2 hs.1 (by omega) ha hA hT T.length 0 (by omega) (by omega)
      rw [Int.add_zero, show (0 : Int).toNat = 0 from rfl, List.drop_zero] at L
      have ew : ac_kwd tp n s = ac_ll tp T.length s := by unfold ac_kwd; rw [show (ac_ke tp n s - s).toNat = T.length by omega]
      have e2 : (if ac_kk tp n s = 2 ∧ ac_kwd tp n s = ac_tl T then (1 : Int) else 0) = if ac_ll tp T.length s = ac_tl T then 1 else 0 := by
        rw [ew]
        by_cases q : ac_ll tp T.length s = ac_tl T
        · rw [if_pos q, if_pos ⟨z, q⟩]
        · rw [if_neg q, if_neg (fun u => q u.2)]
      rw [e2, ← L]
      clear L e2 ew h
      simp (disch := omega) only [do_X9_reads, rX9_reads_0, rX9_reads_1, rX9_reads_4, rX9_reads_5, rX9_reads_8, rX9_reads_9, rX9_reads_12, rX9_reads_13, rX9_reads_16, rX9_reads_17, rX9_reads_18, rX9_reads_21, rX9_reads_24, rX9_reads_25, rX9_reads_26, rX9_reads_27, gS_3, g, k1, k2, k3, hT, ab_w32_id, ne_eq, not_false_eq_true, not_true_eq_false, true_and, and_true, and_self, true_imp_iff, false_imp_iff, imp_self, Bool.not_false, Bool.not_true, reduceCtorEq, ab_isJ, ab_psh, ab_cats, Bool.false_eq_true, if_true, if_false, ab_shf, ab_shw, Int.le_refl, Classical.not_not, Int.zero_add, forall_const, ↓ab_itT, ↓ab_itF, ab_anT, ab_w32_id, ab_rdf_ne, ab_rdw_ne, ab_rdw_eq, ab_rdf_in, ab_td2, ab_tm2, true_or, or_true]
    · rw [if_neg (fun u => y (by have := congrArg List.length u.2; rw [tlen, Tlen] at this; omega))]
      clear h
      simp (disch := omega) only [do_X9_reads, rX9_reads_0, rX9_reads_1, rX9_reads_4, rX9_reads_5, rX9_reads_8, rX9_reads_9, rX9_reads_12, rX9_reads_13, rX9_reads_16, rX9_reads_17, rX9_reads_18, rX9_reads_21, rX9_reads_24, rX9_reads_25, gS_3, g, k1, k2, k3, hT, ab_w32_id, ne_eq, not_false_eq_true, not_true_eq_false, true_and, and_true, and_self, true_imp_iff, false_imp_iff, imp_self, Bool.not_false, Bool.not_true, reduceCtorEq, ab_isJ, ab_psh, ab_cats, Bool.false_eq_true, if_true, if_false, ab_shf, ab_shw, Int.le_refl, Classical.not_not, Int.zero_add, forall_const, ↓ab_itT, ↓ab_itF, ab_anT, ab_w32_id, ab_rdf_ne, ab_rdw_ne, ab_rdw_eq, ab_rdf_in, ab_td2, ab_tm2, true_or, or_true]
  · rw [if_neg (fun u => z u.1)]
    have z' : ¬ ab_rd σ 3 2 = 2 := by rw [k1]; exact z
    clear h
    simp (disch := omega) only [do_X9_reads, rX9_reads_0, rX9_reads_1, rX9_reads_4, rX9_reads_5, rX9_reads_8, rX9_reads_9, rX9_reads_12, rX9_reads_13, rX9_reads_16, rX9_reads_17, rX9_reads_18, rX9_reads_21, rX9_reads_24, rX9_reads_25, gS_3, g, ne_eq, not_false_eq_true, not_true_eq_false, true_and, and_true, and_self, true_imp_iff, false_imp_iff, imp_self, Bool.not_false, Bool.not_true, reduceCtorEq, ab_isJ, ab_psh, ab_cats, Bool.false_eq_true, if_true, if_false, ab_shf, ab_shw, Int.le_refl, Classical.not_not, Int.zero_add, forall_const, ↓ab_itT, ↓ab_itF, ab_anT, ab_w32_id, ab_rdf_ne, ab_rdw_ne, ab_rdw_eq, ab_rdf_in, ab_td2, ab_tm2, true_or, or_true]
end
