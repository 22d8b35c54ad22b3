/-! READER of the class: the small pieces -/
def ac_RC (σ : ab_S) (n : Int) (tp : Int → Int) (s : Int) : Prop := ac_TO σ n tp ∧ ac_KT σ n tp s ∧ 0 ≤ s ∧ s ≤ n ∧ ab_rd σ 2 2 = 0
def ac_nx (tp : Int → Int) (n s : Int) : Int := ac_kst tp n (ac_ke tp n s)
def ac_PR : Int → Int → Prop := fun a f => ac_PK9 a f ∨ (a = 2 ∧ (f = 2 ∨ f = 3 ∨ f = 5))
def ac_TX (a : Int) (T : List Int) : Prop := a ≤ -2 ∧ (-2 - a).toNat < ab_txt.length ∧ ab_txt.getD (-2 - a).toNat [] = T ∧ T.length ≤ 20
theorem ac_PR_T : ab_ptL.getD 2 [] = [3] := by decide +kernel
theorem ac_PR_pt : ∀ a f, 0 ≤ a → a ≤ 368 → 0 ≤ f → ac_PR a f → ab_pt a f = 0 := by
  intro a f h1 h2 h3 hp
  rcases hp with hp | ⟨rfl, q⟩
  · exact ac_PK9_pt a f h1 h2 h3 hp
  · unfold ab_pt
    rw [show (2 : Int).toNat = 2 from rfl, ac_PR_T]
    exact ac_getD_ge (by rw [List.length_cons, List.length_nil]; omega)
section
variable {X : ab_X} {σ τ υ : ab_S} {Q : Option ab_V → ab_S → Prop} {n p s x y t i ln a f g k c q lo hi : Int} {tp : Int → Int} {T : List Int} {l2 : ab_V}
theorem ac_ke_b (hs : 0 ≤ s ∧ s ≤ n) : s ≤ ac_ke tp n s ∧ ac_ke tp n s ≤ n := by
  unfold ac_ke
  have r1 := ac_run_b (lo := 97) (hi := 122) (tp := tp) (n := n) (p := s) hs.2
  have r2 := ac_run_b (lo := 48) (hi := 57) (tp := tp) (n := n) (p := s) hs.2
  split
  · omega
  · split
    · omega
    · split <;> omega
theorem ac_nx_b (hs : 0 ≤ s ∧ s ≤ n) : s ≤ ac_nx tp n s ∧ ac_nx tp n s ≤ n := by
  have k := ac_ke_b (tp := tp) hs
  have r := ac_run_b (lo := 32) (hi := 32) (tp := tp) (n := n) (p := ac_ke tp n s) k.2
  unfold ac_nx ac_kst
  omega
theorem sp_nextR (h : ac_RC σ n tp s) (hQ : ∀ τ, ab_Same ac_PK9 σ τ → ac_RC τ n tp (ac_nx tp n s) → Q none τ) : ab_Do X 70 [ab_R 3] σ Q := by
  obtain ⟨h1, h2, h3a, h3b, h4⟩ := h
  have h3 : 0 ≤ s ∧ s ≤ n := ⟨h3a, h3b⟩
  have kb := ac_ke_b (tp := tp) h3
  have nb := ac_nx_b (tp := tp) h3
  exact sp_next h1 h2.2.2.1 (by omega) (fun τ u1 u2 => hQ τ u1 ⟨h1.same u1, u2, by omega, nb.2, by rw [u1.2.2 2 2 (by unfold ac_PK9; omega), h4]⟩)
theorem sp_stop (h : ac_RC σ n tp s) : ab_Do X 43 [ab_R 2, ab_I k] σ Q ↔ Q (some (ab_I 0)) (ab_wr (ab_wr σ 2 2 k) 2 3 s) := by
  have g := h.1.1
  have h3 := h.2.1.2.1
  simp (disch := omega) only [do_X7_stop, rX7_stop_0, rX7_stop_1, rX7_stop_2, rX7_stop_5, rX7_stop_6, rX7_stop_7, rX7_stop_10, rX7_stop_13, rX7_stop_16, rX7_stop_17, gS_2, gP_2_0, gS_3, g, h3, ne_eq, not_false_eq_true, not_true_eq_false, true_and, and_true, and_self, true_imp_iff, false_imp_iff, imp_self, Bool.not_false, Bool.not_true, reduceCtorEq, ab_isJ, ab_psh, ab_cats, Bool.false_eq_true, if_true, if_false, ab_shf, ab_shw, Int.le_refl, Classical.not_not, Int.zero_add, forall_const, ↓ab_itT, ↓ab_itF, ab_anT, ab_w32_id, ab_rdf_ne, ab_rdw_ne, ab_rdw_eq, ab_rdf_in, ab_td2, ab_tm2, true_or, or_true]
/-- behind a stop -/
theorem ac_stp_e : ab_Same ac_PR σ (ab_wr (ab_wr σ 2 2 k) 2 3 s) ∧ ab_rd (ab_wr (ab_wr σ 2 2 k) 2 3 s) 2 2 = k ∧ ab_rd (ab_wr (ab_wr σ 2 2 k) 2 3 s) 2 3 = s := ⟨(ab_Same.refl.wr (Or.inr ⟨rfl, by omega⟩)).wr (Or.inr ⟨rfl, by omega⟩), by rw [ab_rdw_ne (by omega), ab_rdw_eq], ab_rdw_eq⟩
theorem sp_readsR (h : ac_RC σ n tp s) (hX : ac_TX a T) : ab_Do X 73 [ab_R 3, ab_R a] σ Q ↔ Q (some (ab_I (if ac_kk tp n s = 2 ∧ ac_kwd tp n s = ac_tl T then 1 else 0))) σ := sp_reads h.1 h.2.1 ⟨h.2.2.1, h.2.2.2.1⟩ hX.1 hX.2.1 hX.2.2.1 hX.2.2.2
theorem sp_readWord (h : ac_RC σ n tp s) (hX : ac_TX a T) (hF : ¬ (ac_kk tp n s = 2 ∧ ac_kwd tp n s = ac_tl T) → ∀ τ, ab_Same ac_PR σ τ → ab_rd τ 2 2 = 1 → ab_rd τ 2 3 = s → Q (some (ab_I 0)) τ) (hO : ac_kk tp n s = 2 ∧ ac_kwd tp n s = ac_tl T → ∀ τ, ab_Same ac_PK9 σ τ → ac_RC τ n tp (ac_nx tp n s) → Q (some (ab_I 1)) τ) : ab_Do X 54 [ab_R 2, ab_R a] σ Q := by
  have c1 := fun Q' => sp_readsR (X := X) (Q := Q') h hX
  have c2 := fun k Q' => sp_stop (X := X) (Q := Q') (k := k) h
  have g := h.1.1
  have ha := hX.1
  by_cases z : ac_kk tp n s = 2 ∧ ac_kwd tp n s = ac_tl T
  · rw [if_pos z] at c1
    have key : ab_Do X 70 [ab_R 3] σ (fun r σ' => ab_Run X 54 24 (11, 0, 0) [ab_R 2, ab_R a] (ab_psh r []) σ' Q) := by
      refine sp_nextR h (fun τ u1 u2 => ?_)
      have k := hO z τ u1 u2
      clear hF hO
      simp (disch := omega) only [rX7_readWord_24, rX7_readWord_25, ne_eq, not_false_eq_true, not_true_eq_false, true_and, and_true, and_self, true_imp_iff, false_imp_iff, imp_self, Bool.not_false, Bool.not_true, reduceCtorEq, ab_isJ, ab_psh, ab_cats, Bool.false_eq_true, if_true, if_false, ab_shf, ab_shw, Int.le_refl, Classical.not_not, Int.zero_add, forall_const, ↓ab_itT, ↓ab_itF, ab_anT, ab_w32_id, ab_rdf_ne, ab_rdw_ne, ab_rdw_eq, ab_rdf_in, ab_td2, ab_tm2, true_or, or_true]
      all_goals exact k
    clear hF hO h z
    simp (disch := omega) only [do_X7_readWord, rX7_readWord_0, rX7_readWord_1, rX7_readWord_4, rX7_readWord_5, rX7_readWord_8, rX7_readWord_11, rX7_readWord_12, rX7_readWord_13, rX7_readWord_16, rX7_readWord_17, rX7_readWord_18, rX7_readWord_21, gS_2, gP_2_0, gS_3, g, c1, ne_eq, not_false_eq_true, not_true_eq_false, true_and, and_true, and_self, true_imp_iff, false_imp_iff, imp_self, Bool.not_false, Bool.not_true, reduceCtorEq, ab_isJ, ab_psh, ab_cats, Bool.false_eq_true, if_true, if_false, ab_shf, ab_shw, Int.le_refl, Classical.not_not, Int.zero_add, forall_const, ↓ab_itT, ↓ab_itF, ab_anT, ab_w32_id, ab_rdf_ne, ab_rdw_ne, ab_rdw_eq, ab_rdf_in, ab_td2, ab_tm2, true_or, or_true]
    all_goals exact key
  · rw [if_neg z] at c1
    have key := hF z _ ac_stp_e.1 ac_stp_e.2.1 ac_stp_e.2.2
    clear hF hO h z
    simp (disch := omega) only [do_X7_readWord, rX7_readWord_0, rX7_readWord_1, rX7_readWord_4, rX7_readWord_5, rX7_readWord_8, rX7_readWord_11, rX7_readWord_12, rX7_readWord_13, rX7_readWord_16, gS_2, gP_2_0, gS_3, g, c1, c2, ne_eq, not_false_eq_true, not_true_eq_false, true_and, and_true, and_self, true_imp_iff, false_imp_iff, imp_self, Bool.not_false, Bool.not_true, reduceCtorEq, ab_isJ, ab_psh, ab_cats, Bool.false_eq_true, if_true, if_false, ab_shf, ab_shw, Int.le_refl, Classical.not_not, Int.zero_add, forall_const, ↓ab_itT, ↓ab_itF, ab_anT, ab_w32_id, ab_rdf_ne, ab_rdw_ne, ab_rdw_eq, ab_rdf_in, ab_td2, ab_tm2, true_or, or_true]
    all_goals exact key
/-- a number in bounds: 0 fine, else the fault -/
def ac_wf (tp : Int → Int) (n s lo hi : Int) : Int := if ac_kk tp n s = 3 then (if lo ≤ ac_kv tp (ac_ke tp n s - s).toNat s 0 ∧ ac_kv tp (ac_ke tp n s - s).toNat s 0 ≤ hi then 0 else 4) else 1
theorem ac_RC.sameR (h : ac_RC σ n tp s) (hs : ab_Same (fun a f => a = 2 ∧ (f = 5 ∨ f = 5)) σ τ) : ac_RC τ n tp s := by
  obtain ⟨⟨h1, h2, h3, h4⟩, ⟨k1, k2, k3, k4, k5⟩, h5a, h5b, h6⟩ := h
  have e : ∀ a f, a ≠ 2 → ab_rd τ a f = ab_rd σ a f := fun a f u => hs.2.2 a f (fun w => u w.1)
  exact ⟨⟨h1.same hs (fun a f a1 a2 a3 u => ac_PR_pt a f a1 a2 a3 (Or.inr ⟨u.1, by omega⟩)), by rw [e 3 7 (by omega), h2], h3, fun i i1 i2 => by rw [e 4 i (by omega)]; exact h4 i i1 i2⟩, ⟨by rw [e 3 2 (by omega), k1], by rw [e 3 3 (by omega), k2], by rw [e 3 6 (by omega), k3], fun u => by rw [e 3 4 (by omega), k4 u], fun u => by rw [e 3 5 (by omega), k5 u]⟩, h5a, h5b, by rw [hs.2.2 2 2 (by omega), h6]⟩
theorem sp_isWhole (h : ac_RC σ n tp s) (hF : ac_wf tp n s lo hi ≠ 0 → ∀ τ, ab_Same ac_PR σ τ → ab_rd τ 2 2 = ac_wf tp n s lo hi → ab_rd τ 2 3 = s → Q (some (ab_I 0)) τ) (hO : ac_wf tp n s lo hi = 0 → Q (some (ab_I 1)) (ab_wr σ 2 5 (ac_kv tp (ac_ke tp n s - s).toNat s 0))) : ab_Do X 57 [ab_R 2, ab_I lo, ab_I hi] σ Q := by
  have c2 := fun k Q' => sp_stop (X := X) (Q := Q') (k := k) h
  have g := h.1.1
  have k2 := h.2.1.1
  by_cases z : ac_kk tp n s = 3
  · have k4 := h.2.1.2.2.2.1 z
    rw [z] at k2
    have s5 : ab_Same (fun a f => a = 2 ∧ (f = 5 ∨ f = 5)) σ (ab_wr σ 2 5 (ac_kv tp (ac_ke tp n s - s).toNat s 0)) := ab_Same.refl.wr ⟨rfl, by omega⟩
    have c3 := fun k Q' => sp_stop (X := X) (Q := Q') (k := k) (h.sameR s5)
    have e : ac_wf tp n s lo hi = if lo ≤ ac_kv tp (ac_ke tp n s - s).toNat s 0 ∧ ac_kv tp (ac_ke tp n s - s).toNat s 0 ≤ hi then 0 else 4 := by unfold ac_wf; rw [if_pos z]
    rw [e] at hF hO
    generalize ac_kv tp (ac_ke tp n s - s).toNat s 0 = v at *
    by_cases y : lo ≤ v ∧ v ≤ hi
    · rw [if_pos y] at hO
      have key := hO rfl
      clear hF hO h c2 c3 s5 e
      simp (disch := omega) only [do_X7_isWhole, rX7_isWhole_0, rX7_isWhole_1, rX7_isWhole_4, rX7_isWhole_7, rX7_isWhole_8, rX7_isWhole_11, rX7_isWhole_12, rX7_isWhole_13, rX7_isWhole_16, rX7_isWhole_17, rX7_isWhole_18, rX7_isWhole_19, rX7_isWhole_22, rX7_isWhole_25, rX7_isWhole_28, rX7_isWhole_29, rX7_isWhole_32, rX7_isWhole_33, rX7_isWhole_36, rX7_isWhole_37, rX7_isWhole_40, rX7_isWhole_41, rX7_isWhole_44, rX7_isWhole_45, rX7_isWhole_46, rX7_isWhole_49, rX7_isWhole_52, rX7_isWhole_53, rX7_isWhole_56, rX7_isWhole_57, gS_2, gP_2_0, gS_3, g, k2, k4, ne_eq, not_false_eq_true, not_true_eq_false, true_and, and_true, and_self, true_imp_iff, false_imp_iff, imp_self, Bool.not_false, Bool.not_true, reduceCtorEq, ab_isJ, ab_psh, ab_cats, Bool.false_eq_true, if_true, if_false, ab_shf, ab_shw, Int.le_refl, Classical.not_not, Int.zero_add, forall_const, ↓ab_itT, ↓ab_itF, ab_anT, ab_w32_id, ab_rdf_ne, ab_rdw_ne, ab_rdw_eq, ab_rdf_in, ab_td2, ab_tm2, true_or, or_true]
      all_goals exact key
    · rw [if_neg y] at hF
      have sE : ab_Same ac_PR σ (ab_wr (ab_wr (ab_wr σ 2 5 v) 2 2 4) 2 3 s) := (s5.mono (fun _ _ u => Or.inr ⟨u.1, by omega⟩)).trans ac_stp_e.1
      have key := hF (by decide) _ sE ac_stp_e.2.1 ac_stp_e.2.2
      clear hF hO h c2 s5 sE e
      by_cases y1 : lo ≤ v
      · simp (disch := omega) only [do_X7_isWhole, rX7_isWhole_0, rX7_isWhole_1, rX7_isWhole_4, rX7_isWhole_7, rX7_isWhole_8, rX7_isWhole_11, rX7_isWhole_12, rX7_isWhole_13, rX7_isWhole_16, rX7_isWhole_17, rX7_isWhole_18, rX7_isWhole_19, rX7_isWhole_22, rX7_isWhole_25, rX7_isWhole_28, rX7_isWhole_29, rX7_isWhole_32, rX7_isWhole_33, rX7_isWhole_36, rX7_isWhole_37, rX7_isWhole_40, rX7_isWhole_41, rX7_isWhole_44, rX7_isWhole_45, rX7_isWhole_46, rX7_isWhole_49, rX7_isWhole_52, rX7_isWhole_53, rX7_isWhole_56, rX7_isWhole_57, gS_2, gP_2_0, gS_3, g, k2, k4, c3, ne_eq, not_false_eq_true, not_true_eq_false, true_and, and_true, and_self, true_imp_iff, false_imp_iff, imp_self, Bool.not_false, Bool.not_true, reduceCtorEq, ab_isJ, ab_psh, ab_cats, Bool.false_eq_true, if_true, if_false, ab_shf, ab_shw, Int.le_refl, Classical.not_not, Int.zero_add, forall_const, ↓ab_itT, ↓ab_itF, ab_anT, ab_w32_id, ab_rdf_ne, ab_rdw_ne, ab_rdw_eq, ab_rdf_in, ab_td2, ab_tm2, true_or, or_true]
        all_goals exact key
      · simp (disch := omega) only [do_X7_isWhole, rX7_isWhole_0, rX7_isWhole_1, rX7_isWhole_4, rX7_isWhole_7, rX7_isWhole_8, rX7_isWhole_11, rX7_isWhole_12, rX7_isWhole_13, rX7_isWhole_16, rX7_isWhole_17, rX7_isWhole_18, rX7_isWhole_19, rX7_isWhole_22, rX7_isWhole_25, rX7_isWhole_28, rX7_isWhole_29, rX7_isWhole_32, rX7_isWhole_33, rX7_isWhole_36, rX7_isWhole_37, rX7_isWhole_40, rX7_isWhole_41, rX7_isWhole_44, rX7_isWhole_45, rX7_isWhole_46, rX7_isWhole_49, rX7_isWhole_52, rX7_isWhole_53, rX7_isWhole_56, rX7_isWhole_57, gS_2, gP_2_0, gS_3, g, k2, k4, c3, ne_eq, not_false_eq_true, not_true_eq_false, true_and, and_true, and_self, true_imp_iff, false_imp_iff, imp_self, Bool.not_false, Bool.not_true, reduceCtorEq, ab_isJ, ab_psh, ab_cats, Bool.false_eq_true, if_true, if_false, ab_shf, ab_shw, Int.le_refl, Classical.not_not, Int.zero_add, forall_const, ↓ab_itT, ↓ab_itF, ab_anT, ab_w32_id, ab_rdf_ne, ab_rdw_ne, ab_rdw_eq, ab_rdf_in, ab_td2, ab_tm2, true_or, or_true]
        all_goals exact key
  · have e : ac_wf tp n s lo hi = 1 := by unfold ac_wf; rw [if_neg z]
    rw [e] at hF
    have key := hF (by decide) _ ac_stp_e.1 ac_stp_e.2.1 ac_stp_e.2.2
    have z' : ¬ ab_rd σ 3 2 = 3 := by rw [k2]; exact z
    clear hF hO h e
    simp (disch := omega) only [do_X7_isWhole, rX7_isWhole_0, rX7_isWhole_1, rX7_isWhole_4, rX7_isWhole_7, rX7_isWhole_8, rX7_isWhole_11, rX7_isWhole_12, rX7_isWhole_13, rX7_isWhole_16, gS_2, gP_2_0, gS_3, g, c2, ne_eq, not_false_eq_true, not_true_eq_false, true_and, and_true, and_self, true_imp_iff, false_imp_iff, imp_self, Bool.not_false, Bool.not_true, reduceCtorEq, ab_isJ, ab_psh, ab_cats, Bool.false_eq_true, if_true, if_false, ab_shf, ab_shw, Int.le_refl, Classical.not_not, Int.zero_add, forall_const, ↓ab_itT, ↓ab_itF, ab_anT, ab_w32_id, ab_rdf_ne, ab_rdw_ne, ab_rdw_eq, ab_rdf_in, ab_td2, ab_tm2, true_or, or_true]
    all_goals exact key
end
