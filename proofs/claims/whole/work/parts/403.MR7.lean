/-! READER of the reference: a line, all lines (written by gen/gm3.py) -/
/-- faults have a number -/
def ar_Fp (r : ar_R) : Prop := ∀ w pl, r = .inl (w, pl) → 1 ≤ w
section
variable {tp : Int → Int} {n s k pl o lo hi told most : Int} {κ : ac_K} {x : ac_K × Int} {T A B C D : List Int}
theorem ar_Fl (h : 1 ≤ k) : ar_Fp (.inl (k, pl)) := fun w p e => by cases e; exact h
theorem ar_Fr : ar_Fp (.inr x) := fun w p e => by cases e
theorem ar_Fi {p : Prop} [Decidable p] {a b : ar_R} (ha : ar_Fp a) (hb : ar_Fp b) : ar_Fp (if p then a else b) := by
  by_cases h : p
  · rw [if_pos h]; exact ha
  · rw [if_neg h]; exact hb
theorem ar_Fword {c : Int → ar_R} (h : ∀ s, ar_Fp (c s)) : ar_Fp (pr_word tp n T s c) := ar_Fi (h _) (ar_Fl (by decide))
theorem ar_Fwhole {c : Int → Int → ar_R} (h : ∀ v s, ar_Fp (c v s)) : ar_Fp (pr_whole tp n lo hi s c) := by
  unfold pr_whole
  by_cases z : ac_wf tp n s lo hi = 0
  · rw [if_pos z]; exact h _ _
  · rw [if_neg z]
    refine ar_Fl ?_
    unfold ac_wf at z ⊢
    by_cases y : ac_kk tp n s = 3
    · rw [if_pos y] at z ⊢
      by_cases x : lo ≤ ac_kv tp (ac_ke tp n s - s).toNat s 0 ∧ ac_kv tp (ac_ke tp n s - s).toNat s 0 ≤ hi
      · rw [if_pos x] at z; exact absurd rfl z
      · rw [if_neg x]; decide
    · rw [if_neg y]; decide
theorem ar_Fpart {c : Int → Int → ar_R} (h : ∀ v s, ar_Fp (c v s)) : ar_Fp (pr_part tp n T lo hi s c) := ar_Fword (fun _ => ar_Fwhole h)
theorem ar_Fkind {c : Int → Int → ar_R} (h : ∀ v s, ar_Fp (c v s)) : ar_Fp (pr_kind tp n A B C D s c) := ar_Fi (ar_Fl (by decide)) (h _ _)
theorem ar_Fnew {c : Int → ar_R} (h : ∀ s, ar_Fp (c s)) : ar_Fp (pr_new tp n κ s c) := ar_Fi (ar_Fi (h _) (ar_Fl (by decide))) (ar_Fl (by decide))
theorem ar_Fpers {c : Int → Int → ar_R} (h : ∀ v s, ar_Fp (c v s)) : ar_Fp (pr_pers tp n κ o s c) := ar_Fi (ar_Fi (ar_Fl (by decide)) (ar_Fi (ar_Fl (by decide)) (h _ _))) (ar_Fl (by decide))
theorem ar_Fenter {c : Int → ar_R} (h : ∀ s, ar_Fp (c s)) : ar_Fp (pr_enter tp n κ told most s c) := ar_Fi (ar_Fi (h _) (ar_Fl (by decide))) (ar_Fl (by decide))
theorem ar_Farm : ∀ (m : Nat) (κ : ac_K) (i s : Int) (c : ac_K → Int → Int → ar_R), (∀ κ i s, ar_Fp (c κ i s)) → ar_Fp (pr_arm tp n o m κ i s c) := by
  intro m
  induction m with
  | zero => intro κ i s c h; exact ar_Fl (by decide)
  | succ m ih => intro κ i s c h; exact ar_Fwhole (fun v s => ar_Fi (ar_Fl (by decide)) (ar_Fi (ih _ _ _ _ h) (h _ _ _)))
theorem ar_Fline : ar_Fp (pr_line tp n κ s) := by
  unfold pr_line
  refine ar_Fi (ar_Fi (ar_Fl (by decide)) ?_) (ar_Fi ?_ (ar_Fi ?_ (ar_Fi ?_ (ar_Fi ?_ (ar_Fi ?_ (ar_Fi ?_ (ar_Fl (by decide))))))))
  · exact ar_Fpart (fun _ _ => ar_Fpart (fun _ _ => ar_Fpart (fun _ _ => ar_Fpart (fun _ _ => ar_Fpart (fun _ _ => ar_Fr)))))
  · refine ar_Fenter (fun s => ar_Fnew (fun _ => ar_Fkind (fun _ _ => ar_Fpart (fun _ _ => ar_Fword (fun _ => ar_Farm _ _ _ _ _ (fun _ _ _ => ar_Fi ?_ (ar_Fword (fun _ => ar_Farm _ _ _ _ _ (fun _ _ _ => ar_Fi ?_ ar_Fr)))))))))
    · exact ar_Fl (by split <;> decide)
    · exact ar_Fl (by split <;> decide)
  · exact ar_Fenter (fun s => ar_Fnew (fun _ => ar_Fkind (fun _ _ => ar_Fpart (fun _ _ => ar_Fpart (fun _ _ => ar_Fpart (fun _ _ => ar_Fr))))))
  · exact ar_Fenter (fun s => ar_Fpers (fun _ _ => ar_Fpers (fun _ _ => ar_Fi (ar_Fl (by decide)) (ar_Fwhole (fun _ _ => ar_Fr)))))
  · exact ar_Fenter (fun s => ar_Fpers (fun _ _ => ar_Fpers (fun _ _ => ar_Fkind (fun _ _ => ar_Fr))))
  · exact ar_Fenter (fun s => ar_Fkind (fun _ _ => ar_Fwhole (fun _ _ => ar_Fr)))
  · exact ar_Fenter (fun s => ar_Fpers (fun _ _ => ar_Fi (ar_Fwhole (fun _ _ => ar_Fpart (fun _ _ => ar_Fpart (fun _ _ => ar_Fr)))) (ar_Fl (by decide))))
theorem ar_Fread : ∀ (m : Nat) (κ : ac_K) (s : Int), ar_Fp (pr_read tp n m κ s) := by
  intro m
  induction m with
  | zero => intro κ s; exact ar_Fl (by decide)
  | succ m ih =>
    intro κ s w pl e
    unfold pr_read at e
    have L := ar_Fline (tp := tp) (n := n) (κ := κ) (s := s)
    cases hl : pr_line tp n κ s with
    | inl y =>
      rw [hl] at e
      obtain ⟨w', pl'⟩ := y
      cases e
      exact L _ _ hl
    | inr y =>
      obtain ⟨κ', s'⟩ := y
      rw [hl] at e
      exact (ar_Fi (ar_Fi ar_Fr (ar_Fl (by decide))) (ar_Fi (ih _ _) (ar_Fl (by decide))) : ar_Fp _) w pl e
end
section
variable {X : ab_X} {σ τ υ : ab_S} {Q : Option ab_V → ab_S → Prop} {n s w pl M m : Int} {tp : Int → Int} {κ : ac_K} {r : ar_R}
theorem ml_0 (h : ac_RM σ n tp s)  (z : ac_isw tp n s ac_tx0) (key : ab_Do X 189 [ab_R 355] σ (fun r σ' => ab_Run X 188 13 (16, 0, 0) [ab_R 355] (ab_psh r []) σ' Q)) : ab_Do X 188 [ab_R 355] σ Q := by
  have g := h.1.1
  have c0 := fun Q' => mq_isWordX (X := X) (Q := Q') h.1.1 h.2.1 h.2.2.1 ac_TX0 ac_tok0
  rw [if_pos z] at c0
  clear h z 
  simp (disch := omega) only [do_X13_readLine, rX13_readLine_0, rX13_readLine_1, rX13_readLine_3, rX13_readLine_6, rX13_readLine_9, rX13_readLine_10, gS_355, g, c0, ne_eq, not_false_eq_true, not_true_eq_false, true_and, and_true, and_self, true_imp_iff, false_imp_iff, imp_self, Bool.not_false, Bool.not_true, reduceCtorEq, ab_isJ, ab_psh, ab_cats, Bool.false_eq_true, if_true, if_false, ab_shf, ab_shw, Int.le_refl, Classical.not_not, Int.zero_add, forall_const, ↓ab_itT, ↓ab_itF, ab_anT, ab_w32_id, ab_rdf_ne, ab_rdw_ne, ab_rdw_eq, ab_rdf_in, ab_td2, ab_tm2, true_or, or_true]
  all_goals exact key
theorem ml_0r (kq : Q none τ) : ab_Run X 188 13 (16, 0, 0) [ab_R 355] (ab_psh none []) τ Q := by
  simp (disch := omega) only [rX13_readLine_13, rX13_readLine_117, ne_eq, not_false_eq_true, not_true_eq_false, true_and, and_true, and_self, true_imp_iff, false_imp_iff, imp_self, Bool.not_false, Bool.not_true, reduceCtorEq, ab_isJ, ab_psh, ab_cats, Bool.false_eq_true, if_true, if_false, ab_shf, ab_shw, Int.le_refl, Classical.not_not, Int.zero_add, forall_const, ↓ab_itT, ↓ab_itF, ab_anT, ab_w32_id, ab_rdf_ne, ab_rdw_ne, ab_rdw_eq, ab_rdf_in, ab_td2, ab_tm2, true_or, or_true]
  all_goals exact kq
theorem ml_6 (h : ac_RM σ n tp s) (z0 : ¬ ac_isw tp n s ac_tx0) (z : ac_isw tp n s ac_tx6) (key : ab_Do X 191 [ab_R 355] σ (fun r σ' => ab_Run X 188 29 (16, 0, 0) [ab_R 355] (ab_psh r []) σ' Q)) : ab_Do X 188 [ab_R 355] σ Q := by
  have g := h.1.1
  have c0 := fun Q' => mq_isWordX (X := X) (Q := Q') h.1.1 h.2.1 h.2.2.1 ac_TX0 ac_tok0
  have c6 := fun Q' => mq_isWordX (X := X) (Q := Q') h.1.1 h.2.1 h.2.2.1 ac_TX6 ac_tok6
  rw [if_neg z0] at c0
  rw [if_pos z] at c6
  clear h z z0
  simp (disch := omega) only [do_X13_readLine, rX13_readLine_0, rX13_readLine_1, rX13_readLine_3, rX13_readLine_6, rX13_readLine_16, rX13_readLine_17, rX13_readLine_19, rX13_readLine_22, rX13_readLine_25, rX13_readLine_26, gS_355, g, c0, c6, ne_eq, not_false_eq_true, not_true_eq_false, true_and, and_true, and_self, true_imp_iff, false_imp_iff, imp_self, Bool.not_false, Bool.not_true, reduceCtorEq, ab_isJ, ab_psh, ab_cats, Bool.false_eq_true, if_true, if_false, ab_shf, ab_shw, Int.le_refl, Classical.not_not, Int.zero_add, forall_const, ↓ab_itT, ↓ab_itF, ab_anT, ab_w32_id, ab_rdf_ne, ab_rdw_ne, ab_rdw_eq, ab_rdf_in, ab_td2, ab_tm2, true_or, or_true]
  all_goals exact key
theorem ml_6r (kq : Q none τ) : ab_Run X 188 29 (16, 0, 0) [ab_R 355] (ab_psh none []) τ Q := by
  simp (disch := omega) only [rX13_readLine_29, rX13_readLine_117, ne_eq, not_false_eq_true, not_true_eq_false, true_and, and_true, and_self, true_imp_iff, false_imp_iff, imp_self, Bool.not_false, Bool.not_true, reduceCtorEq, ab_isJ, ab_psh, ab_cats, Bool.false_eq_true, if_true, if_false, ab_shf, ab_shw, Int.le_refl, Classical.not_not, Int.zero_add, forall_const, ↓ab_itT, ↓ab_itF, ab_anT, ab_w32_id, ab_rdf_ne, ab_rdw_ne, ab_rdw_eq, ab_rdf_in, ab_td2, ab_tm2, true_or, or_true]
  all_goals exact kq
theorem ml_7 (h : ac_RM σ n tp s) (z0 : ¬ ac_isw tp n s ac_tx0) (z6 : ¬ ac_isw tp n s ac_tx6) (z : ac_isw tp n s ac_tx7) (key : ab_Do X 192 [ab_R 355] σ (fun r σ' => ab_Run X 188 45 (16, 0, 0) [ab_R 355] (ab_psh r []) σ' Q)) : ab_Do X 188 [ab_R 355] σ Q := by
  have g := h.1.1
  have c0 := fun Q' => mq_isWordX (X := X) (Q := Q') h.1.1 h.2.1 h.2.2.1 ac_TX0 ac_tok0
  have c6 := fun Q' => mq_isWordX (X := X) (Q := Q') h.1.1 h.2.1 h.2.2.1 ac_TX6 ac_tok6
  have c7 := fun Q' => mq_isWordX (X := X) (Q := Q') h.1.1 h.2.1 h.2.2.1 ac_TX7 ac_tok7
  rw [if_neg z0] at c0
  rw [if_neg z6] at c6
  rw [if_pos z] at c7
  clear h z z0 z6
  simp (disch := omega) only [do_X13_readLine, rX13_readLine_0, rX13_readLine_1, rX13_readLine_3, rX13_readLine_6, rX13_readLine_16, rX13_readLine_17, rX13_readLine_19, rX13_readLine_22, rX13_readLine_32, rX13_readLine_33, rX13_readLine_35, rX13_readLine_38, rX13_readLine_41, rX13_readLine_42, gS_355, g, c0, c6, c7, ne_eq, not_false_eq_true, not_true_eq_false, true_and, and_true, and_self, true_imp_iff, false_imp_iff, imp_self, Bool.not_false, Bool.not_true, reduceCtorEq, ab_isJ, ab_psh, ab_cats, Bool.false_eq_true, if_true, if_false, ab_shf, ab_shw, Int.le_refl, Classical.not_not, Int.zero_add, forall_const, ↓ab_itT, ↓ab_itF, ab_anT, ab_w32_id, ab_rdf_ne, ab_rdw_ne, ab_rdw_eq, ab_rdf_in, ab_td2, ab_tm2, true_or, or_true]
  all_goals exact key
theorem ml_7r (kq : Q none τ) : ab_Run X 188 45 (16, 0, 0) [ab_R 355] (ab_psh none []) τ Q := by
  simp (disch := omega) only [rX13_readLine_45, rX13_readLine_117, ne_eq, not_false_eq_true, not_true_eq_false, true_and, and_true, and_self, true_imp_iff, false_imp_iff, imp_self, Bool.not_false, Bool.not_true, reduceCtorEq, ab_isJ, ab_psh, ab_cats, Bool.false_eq_true, if_true, if_false, ab_shf, ab_shw, Int.le_refl, Classical.not_not, Int.zero_add, forall_const, ↓ab_itT, ↓ab_itF, ab_anT, ab_w32_id, ab_rdf_ne, ab_rdw_ne, ab_rdw_eq, ab_rdf_in, ab_td2, ab_tm2, true_or, or_true]
  all_goals exact kq
theorem ml_8 (h : ac_RM σ n tp s) (z0 : ¬ ac_isw tp n s ac_tx0) (z6 : ¬ ac_isw tp n s ac_tx6) (z7 : ¬ ac_isw tp n s ac_tx7) (z : ac_isw tp n s ac_tx8) (key : ab_Do X 193 [ab_R 355] σ (fun r σ' => ab_Run X 188 61 (16, 0, 0) [ab_R 355] (ab_psh r []) σ' Q)) : ab_Do X 188 [ab_R 355] σ Q := by
  have g := h.1.1
  have c0 := fun Q' => mq_isWordX (X := X) (Q := Q') h.1.1 h.2.1 h.2.2.1 ac_TX0 ac_tok0
  have c6 := fun Q' => mq_isWordX (X := X) (Q := Q') h.1.1 h.2.1 h.2.2.1 ac_TX6 ac_tok6
  have c7 := fun Q' => mq_isWordX (X := X) (Q := Q') h.1.1 h.2.1 h.2.2.1 ac_TX7 ac_tok7
  have c8 := fun Q' => mq_isWordX (X := X) (Q := Q') h.1.1 h.2.1 h.2.2.1 ac_TX8 ac_tok8
  rw [if_neg z0] at c0
  rw [if_neg z6] at c6
  rw [if_neg z7] at c7
  rw [if_pos z] at c8
  clear h z z0 z6 z7
  simp (disch := omega) only [do_X13_readLine, rX13_readLine_0, rX13_readLine_1, rX13_readLine_3, rX13_readLine_6, rX13_readLine_16, rX13_readLine_17, rX13_readLine_19, rX13_readLine_22, rX13_readLine_32, rX13_readLine_33, rX13_readLine_35, rX13_readLine_38, rX13_readLine_48, rX13_readLine_49, rX13_readLine_51, rX13_readLine_54, rX13_readLine_57, rX13_readLine_58, gS_355, g, c0, c6, c7, c8, ne_eq, not_false_eq_true, not_true_eq_false, true_and, and_true, and_self, true_imp_iff, false_imp_iff, imp_self, Bool.not_false, Bool.not_true, reduceCtorEq, ab_isJ, ab_psh, ab_cats, Bool.false_eq_true, if_true, if_false, ab_shf, ab_shw, Int.le_refl, Classical.not_not, Int.zero_add, forall_const, ↓ab_itT, ↓ab_itF, ab_anT, ab_w32_id, ab_rdf_ne, ab_rdw_ne, ab_rdw_eq, ab_rdf_in, ab_td2, ab_tm2, true_or, or_true]
  all_goals exact key
theorem ml_8r (kq : Q none τ) : ab_Run X 188 61 (16, 0, 0) [ab_R 355] (ab_psh none []) τ Q := by
  simp (disch := omega) only [rX13_readLine_61, rX13_readLine_117, ne_eq, not_false_eq_true, not_true_eq_false, true_and, and_true, and_self, true_imp_iff, false_imp_iff, imp_self, Bool.not_false, Bool.not_true, reduceCtorEq, ab_isJ, ab_psh, ab_cats, Bool.false_eq_true, if_true, if_false, ab_shf, ab_shw, Int.le_refl, Classical.not_not, Int.zero_add, forall_const, ↓ab_itT, ↓ab_itF, ab_anT, ab_w32_id, ab_rdf_ne, ab_rdw_ne, ab_rdw_eq, ab_rdf_in, ab_td2, ab_tm2, true_or, or_true]
  all_goals exact kq
theorem ml_9 (h : ac_RM σ n tp s) (z0 : ¬ ac_isw tp n s ac_tx0) (z6 : ¬ ac_isw tp n s ac_tx6) (z7 : ¬ ac_isw tp n s ac_tx7) (z8 : ¬ ac_isw tp n s ac_tx8) (z : ac_isw tp n s ac_tx9) (key : ab_Do X 194 [ab_R 355] σ (fun r σ' => ab_Run X 188 77 (16, 0, 0) [ab_R 355] (ab_psh r []) σ' Q)) : ab_Do X 188 [ab_R 355] σ Q := by
  have g := h.1.1
  have c0 := fun Q' => mq_isWordX (X := X) (Q := Q') h.1.1 h.2.1 h.2.2.1 ac_TX0 ac_tok0
  have c6 := fun Q' => mq_isWordX (X := X) (Q := Q') h.1.1 h.2.1 h.2.2.1 ac_TX6 ac_tok6
  have c7 := fun Q' => mq_isWordX (X := X) (Q := Q') h.1.1 h.2.1 h.2.2.1 ac_TX7 ac_tok7
  have c8 := fun Q' => mq_isWordX (X := X) (Q := Q') h.1.1 h.2.1 h.2.2.1 ac_TX8 ac_tok8
  have c9 := fun Q' => mq_isWordX (X := X) (Q := Q') h.1.1 h.2.1 h.2.2.1 ac_TX9 ac_tok9
  rw [if_neg z0] at c0
  rw [if_neg z6] at c6
  rw [if_neg z7] at c7
  rw [if_neg z8] at c8
  rw [if_pos z] at c9
  clear h z z0 z6 z7 z8
  simp (disch := omega) only [do_X13_readLine, rX13_readLine_0, rX13_readLine_1, rX13_readLine_3, rX13_readLine_6, rX13_readLine_16, rX13_readLine_17, rX13_readLine_19, rX13_readLine_22, rX13_readLine_32, rX13_readLine_33, rX13_readLine_35, rX13_readLine_38, rX13_readLine_48, rX13_readLine_49, rX13_readLine_51, rX13_readLine_54, rX13_readLine_64, rX13_readLine_65, rX13_readLine_67, rX13_readLine_70, rX13_readLine_73, rX13_readLine_74, gS_355, g, c0, c6, c7, c8, c9, ne_eq, not_false_eq_true, not_true_eq_false, true_and, and_true, and_self, true_imp_iff, false_imp_iff, imp_self, Bool.not_false, Bool.not_true, reduceCtorEq, ab_isJ, ab_psh, ab_cats, Bool.false_eq_true, if_true, if_false, ab_shf, ab_shw, Int.le_refl, Classical.not_not, Int.zero_add, forall_const, ↓ab_itT, ↓ab_itF, ab_anT, ab_w32_id, ab_rdf_ne, ab_rdw_ne, ab_rdw_eq, ab_rdf_in, ab_td2, ab_tm2, true_or, or_true]
  all_goals exact key
theorem ml_9r (kq : Q none τ) : ab_Run X 188 77 (16, 0, 0) [ab_R 355] (ab_psh none []) τ Q := by
  simp (disch := omega) only [rX13_readLine_77, rX13_readLine_117, ne_eq, not_false_eq_true, not_true_eq_false, true_and, and_true, and_self, true_imp_iff, false_imp_iff, imp_self, Bool.not_false, Bool.not_true, reduceCtorEq, ab_isJ, ab_psh, ab_cats, Bool.false_eq_true, if_true, if_false, ab_shf, ab_shw, Int.le_refl, Classical.not_not, Int.zero_add, forall_const, ↓ab_itT, ↓ab_itF, ab_anT, ab_w32_id, ab_rdf_ne, ab_rdw_ne, ab_rdw_eq, ab_rdf_in, ab_td2, ab_tm2, true_or, or_true]
  all_goals exact kq
theorem ml_10 (h : ac_RM σ n tp s) (z0 : ¬ ac_isw tp n s ac_tx0) (z6 : ¬ ac_isw tp n s ac_tx6) (z7 : ¬ ac_isw tp n s ac_tx7) (z8 : ¬ ac_isw tp n s ac_tx8) (z9 : ¬ ac_isw tp n s ac_tx9) (z : ac_isw tp n s ac_tx10) (key : ab_Do X 195 [ab_R 355] σ (fun r σ' => ab_Run X 188 93 (16, 0, 0) [ab_R 355] (ab_psh r []) σ' Q)) : ab_Do X 188 [ab_R 355] σ Q := by
  have g := h.1.1
  have c0 := fun Q' => mq_isWordX (X := X) (Q := Q') h.1.1 h.2.1 h.2.2.1 ac_TX0 ac_tok0
  have c6 := fun Q' => mq_isWordX (X := X) (Q := Q') h.1.1 h.2.1 h.2.2.1 ac_TX6 ac_tok6
  have c7 := fun Q' => mq_isWordX (X := X) (Q := Q') h.1.1 h.2.1 h.2.2.1 ac_TX7 ac_tok7
  have c8 := fun Q' => mq_isWordX (X := X) (Q := Q') h.1.1 h.2.1 h.2.2.1 ac_TX8 ac_tok8
  have c9 := fun Q' => mq_isWordX (X := X) (Q := Q') h.1.1 h.2.1 h.2.2.1 ac_TX9 ac_tok9
  have c10 := fun Q' => mq_isWordX (X := X) (Q := Q') h.1.1 h.2.1 h.2.2.1 ac_TX10 ac_tok10
  rw [if_neg z0] at c0
  rw [if_neg z6] at c6
  rw [if_neg z7] at c7
  rw [if_neg z8] at c8
  rw [if_neg z9] at c9
  rw [if_pos z] at c10
  clear h z z0 z6 z7 z8 z9
  simp (disch := omega) only [do_X13_readLine, rX13_readLine_0, rX13_readLine_1, rX13_readLine_3, rX13_readLine_6, rX13_readLine_16, rX13_readLine_17, rX13_readLine_19, rX13_readLine_22, rX13_readLine_32, rX13_readLine_33, rX13_readLine_35, rX13_readLine_38, rX13_readLine_48, rX13_readLine_49, rX13_readLine_51, rX13_readLine_54, rX13_readLine_64, rX13_readLine_65, rX13_readLine_67, rX13_readLine_70, rX13_readLine_80, rX13_readLine_81, rX13_readLine_83, rX13_readLine_86, rX13_readLine_89, rX13_readLine_90, gS_355, g, c0, c6, c7, c8, c9, c10, ne_eq, not_false_eq_true, not_true_eq_false, true_and, and_true, and_self, true_imp_iff, false_imp_iff, imp_self, Bool.not_false, Bool.not_true, reduceCtorEq, ab_isJ, ab_psh, ab_cats, Bool.false_eq_true, if_true, if_false, ab_shf, ab_shw, Int.le_refl, Classical.not_not, Int.zero_add, forall_const, ↓ab_itT, ↓ab_itF, ab_anT, ab_w32_id, ab_rdf_ne, ab_rdw_ne, ab_rdw_eq, ab_rdf_in, ab_td2, ab_tm2, true_or, or_true]
  all_goals exact key
theorem ml_10r (kq : Q none τ) : ab_Run X 188 93 (16, 0, 0) [ab_R 355] (ab_psh none []) τ Q := by
  simp (disch := omega) only [rX13_readLine_93, rX13_readLine_117, ne_eq, not_false_eq_true, not_true_eq_false, true_and, and_true, and_self, true_imp_iff, false_imp_iff, imp_self, Bool.not_false, Bool.not_true, reduceCtorEq, ab_isJ, ab_psh, ab_cats, Bool.false_eq_true, if_true, if_false, ab_shf, ab_shw, Int.le_refl, Classical.not_not, Int.zero_add, forall_const, ↓ab_itT, ↓ab_itF, ab_anT, ab_w32_id, ab_rdf_ne, ab_rdw_ne, ab_rdw_eq, ab_rdf_in, ab_td2, ab_tm2, true_or, or_true]
  all_goals exact kq
theorem ml_11 (h : ac_RM σ n tp s) (z0 : ¬ ac_isw tp n s ac_tx0) (z6 : ¬ ac_isw tp n s ac_tx6) (z7 : ¬ ac_isw tp n s ac_tx7) (z8 : ¬ ac_isw tp n s ac_tx8) (z9 : ¬ ac_isw tp n s ac_tx9) (z10 : ¬ ac_isw tp n s ac_tx10) (z : ac_isw tp n s ac_tx11) (key : ab_Do X 196 [ab_R 355] σ (fun r σ' => ab_Run X 188 109 (16, 0, 0) [ab_R 355] (ab_psh r []) σ' Q)) : ab_Do X 188 [ab_R 355] σ Q := by
  have g := h.1.1
  have c0 := fun Q' => mq_isWordX (X := X) (Q := Q') h.1.1 h.2.1 h.2.2.1 ac_TX0 ac_tok0
  have c6 := fun Q' => mq_isWordX (X := X) (Q := Q') h.1.1 h.2.1 h.2.2.1 ac_TX6 ac_tok6
  have c7 := fun Q' => mq_isWordX (X := X) (Q := Q') h.1.1 h.2.1 h.2.2.1 ac_TX7 ac_tok7
  have c8 := fun Q' => mq_isWordX (X := X) (Q := Q') h.1.1 h.2.1 h.2.2.1 ac_TX8 ac_tok8
  have c9 := fun Q' => mq_isWordX (X := X) (Q := Q') h.1.1 h.2.1 h.2.2.1 ac_TX9 ac_tok9
  have c10 := fun Q' => mq_isWordX (X := X) (Q := Q') h.1.1 h.2.1 h.2.2.1 ac_TX10 ac_tok10
  have c11 := fun Q' => mq_isWordX (X := X) (Q := Q') h.1.1 h.2.1 h.2.2.1 ac_TX11 ac_tok11
  rw [if_neg z0] at c0
  rw [if_neg z6] at c6
  rw [if_neg z7] at c7
  rw [if_neg z8] at c8
  rw [if_neg z9] at c9
  rw [if_neg z10] at c10
  rw [if_pos z] at c11
  clear h z z0 z6 z7 z8 z9 z10
  simp (disch := omega) only [do_X13_readLine, rX13_readLine_0, rX13_readLine_1, rX13_readLine_3, rX13_readLine_6, rX13_readLine_16, rX13_readLine_17, rX13_readLine_19, rX13_readLine_22, rX13_readLine_32, rX13_readLine_33, rX13_readLine_35, rX13_readLine_38, rX13_readLine_48, rX13_readLine_49, rX13_readLine_51, rX13_readLine_54, rX13_readLine_64, rX13_readLine_65, rX13_readLine_67, rX13_readLine_70, rX13_readLine_80, rX13_readLine_81, rX13_readLine_83, rX13_readLine_86, rX13_readLine_96, rX13_readLine_97, rX13_readLine_99, rX13_readLine_102, rX13_readLine_105, rX13_readLine_106, gS_355, g, c0, c6, c7, c8, c9, c10, c11, ne_eq, not_false_eq_true, not_true_eq_false, true_and, and_true, and_self, true_imp_iff, false_imp_iff, imp_self, Bool.not_false, Bool.not_true, reduceCtorEq, ab_isJ, ab_psh, ab_cats, Bool.false_eq_true, if_true, if_false, ab_shf, ab_shw, Int.le_refl, Classical.not_not, Int.zero_add, forall_const, ↓ab_itT, ↓ab_itF, ab_anT, ab_w32_id, ab_rdf_ne, ab_rdw_ne, ab_rdw_eq, ab_rdf_in, ab_td2, ab_tm2, true_or, or_true]
  all_goals exact key
theorem ml_11r (kq : Q none τ) : ab_Run X 188 109 (16, 0, 0) [ab_R 355] (ab_psh none []) τ Q := by
  simp (disch := omega) only [rX13_readLine_109, rX13_readLine_117, ne_eq, not_false_eq_true, not_true_eq_false, true_and, and_true, and_self, true_imp_iff, false_imp_iff, imp_self, Bool.not_false, Bool.not_true, reduceCtorEq, ab_isJ, ab_psh, ab_cats, Bool.false_eq_true, if_true, if_false, ab_shf, ab_shw, Int.le_refl, Classical.not_not, Int.zero_add, forall_const, ↓ab_itT, ↓ab_itF, ab_anT, ab_w32_id, ab_rdf_ne, ab_rdw_ne, ab_rdw_eq, ab_rdf_in, ab_td2, ab_tm2, true_or, or_true]
  all_goals exact kq
theorem ml_no (h : ac_RM σ n tp s) (z0 : ¬ ac_isw tp n s ac_tx0) (z6 : ¬ ac_isw tp n s ac_tx6) (z7 : ¬ ac_isw tp n s ac_tx7) (z8 : ¬ ac_isw tp n s ac_tx8) (z9 : ¬ ac_isw tp n s ac_tx9) (z10 : ¬ ac_isw tp n s ac_tx10) (z11 : ¬ ac_isw tp n s ac_tx11) (kq : Q none (ab_wr (ab_wr (ab_wr σ 355 13 1) 355 14 s) 355 9 5)) : ab_Do X 188 [ab_R 355] σ Q := by
  have g := h.1.1
  have c2 := fun k Q' => mq_flaw (X := X) (Q := Q') (k := k) h
  have c0 := fun Q' => mq_isWordX (X := X) (Q := Q') h.1.1 h.2.1 h.2.2.1 ac_TX0 ac_tok0
  have c6 := fun Q' => mq_isWordX (X := X) (Q := Q') h.1.1 h.2.1 h.2.2.1 ac_TX6 ac_tok6
  have c7 := fun Q' => mq_isWordX (X := X) (Q := Q') h.1.1 h.2.1 h.2.2.1 ac_TX7 ac_tok7
  have c8 := fun Q' => mq_isWordX (X := X) (Q := Q') h.1.1 h.2.1 h.2.2.1 ac_TX8 ac_tok8
  have c9 := fun Q' => mq_isWordX (X := X) (Q := Q') h.1.1 h.2.1 h.2.2.1 ac_TX9 ac_tok9
  have c10 := fun Q' => mq_isWordX (X := X) (Q := Q') h.1.1 h.2.1 h.2.2.1 ac_TX10 ac_tok10
  have c11 := fun Q' => mq_isWordX (X := X) (Q := Q') h.1.1 h.2.1 h.2.2.1 ac_TX11 ac_tok11
  rw [if_neg z0] at c0
  rw [if_neg z6] at c6
  rw [if_neg z7] at c7
  rw [if_neg z8] at c8
  rw [if_neg z9] at c9
  rw [if_neg z10] at c10
  rw [if_neg z11] at c11
  clear h z0 z6 z7 z8 z9 z10 z11
  simp (disch := omega) only [do_X13_readLine, rX13_readLine_0, rX13_readLine_1, rX13_readLine_3, rX13_readLine_6, rX13_readLine_16, rX13_readLine_17, rX13_readLine_19, rX13_readLine_22, rX13_readLine_32, rX13_readLine_33, rX13_readLine_35, rX13_readLine_38, rX13_readLine_48, rX13_readLine_49, rX13_readLine_51, rX13_readLine_54, rX13_readLine_64, rX13_readLine_65, rX13_readLine_67, rX13_readLine_70, rX13_readLine_80, rX13_readLine_81, rX13_readLine_83, rX13_readLine_86, rX13_readLine_96, rX13_readLine_97, rX13_readLine_99, rX13_readLine_102, rX13_readLine_112, rX13_readLine_113, rX13_readLine_114, rX13_readLine_117, gS_355, g, c0, c6, c7, c8, c9, c10, c11, c2, ne_eq, not_false_eq_true, not_true_eq_false, true_and, and_true, and_self, true_imp_iff, false_imp_iff, imp_self, Bool.not_false, Bool.not_true, reduceCtorEq, ab_isJ, ab_psh, ab_cats, Bool.false_eq_true, if_true, if_false, ab_shf, ab_shw, Int.le_refl, Classical.not_not, Int.zero_add, forall_const, ↓ab_itT, ↓ab_itF, ab_anT, ab_w32_id, ab_rdf_ne, ab_rdw_ne, ab_rdw_eq, ab_rdf_in, ab_td2, ab_tm2, true_or, or_true]
  all_goals exact kq
theorem mq_readLine (h : ac_RM σ n tp s) (hR : ar_MR σ M κ) (hj : ar_J κ) (hF : ar_mF Q σ M (pr_line tp n κ s)) (hO : ar_mO Q σ M n tp (pr_line tp n κ s)) : ab_Do X 188 [ab_R 355] σ Q := by
  unfold pr_line at hF hO
  by_cases z0 : ac_isw tp n s ac_tx0
  · rw [if_pos z0] at hF hO
    exact ml_0 h  z0 (mq_readKitchen h hR hj (by rw [z0.1]; decide) (fun w pl e τ u f => ml_0r (hF w pl e τ u f)) (fun κ' s' e τ u R K => ml_0r (hO κ' s' e τ u R K)))
  · rw [if_neg z0] at hF hO
    by_cases z6 : ac_isw tp n s ac_tx6
    · rw [if_pos z6] at hF hO
      exact ml_6 h  z0 z6 (mq_readBone h hR hj (by rw [z6.1]; decide) (fun w pl e τ u f => ml_6r (hF w pl e τ u f)) (fun κ' s' e τ u R K => ml_6r (hO κ' s' e τ u R K)))
    · rw [if_neg z6] at hF hO
      by_cases z7 : ac_isw tp n s ac_tx7
      · rw [if_pos z7] at hF hO
        exact ml_7 h  z0 z6 z7 (mq_readPersonLine h hR hj (by rw [z7.1]; decide) (fun w pl e τ u f => ml_7r (hF w pl e τ u f)) (fun κ' s' e τ u R K => ml_7r (hO κ' s' e τ u R K)))
      · rw [if_neg z7] at hF hO
        by_cases z8 : ac_isw tp n s ac_tx8
        · rw [if_pos z8] at hF hO
          exact ml_8 h  z0 z6 z7 z8 (mq_readFor h hR hj (by rw [z8.1]; decide) (fun w pl e τ u f => ml_8r (hF w pl e τ u f)) (fun κ' s' e τ u R K => ml_8r (hO κ' s' e τ u R K)))
        · rw [if_neg z8] at hF hO
          by_cases z9 : ac_isw tp n s ac_tx9
          · rw [if_pos z9] at hF hO
            exact ml_9 h  z0 z6 z7 z8 z9 (mq_readWon h hR hj (by rw [z9.1]; decide) (fun w pl e τ u f => ml_9r (hF w pl e τ u f)) (fun κ' s' e τ u R K => ml_9r (hO κ' s' e τ u R K)))
          · rw [if_neg z9] at hF hO
            by_cases z10 : ac_isw tp n s ac_tx10
            · rw [if_pos z10] at hF hO
              exact ml_10 h  z0 z6 z7 z8 z9 z10 (mq_readPiece h hR hj (by rw [z10.1]; decide) (fun w pl e τ u f => ml_10r (hF w pl e τ u f)) (fun κ' s' e τ u R K => ml_10r (hO κ' s' e τ u R K)))
            · rw [if_neg z10] at hF hO
              by_cases z11 : ac_isw tp n s ac_tx11
              · rw [if_pos z11] at hF hO
                exact ml_11 h  z0 z6 z7 z8 z9 z10 z11 (mq_readCheats h hR hj (by rw [z11.1]; decide) (fun w pl e τ u f => ml_11r (hF w pl e τ u f)) (fun κ' s' e τ u R K => ml_11r (hO κ' s' e τ u R K)))
              · rw [if_neg z11] at hF hO
                have f := ac_flw (k := 1) h
                exact ml_no h  z0 z6 z7 z8 z9 z10 z11 (hF 1 s rfl _ f.2.vw f.1)
theorem mr_line (g : ab_Geo τ) (key : ab_Do X 188 [ab_R 355] τ (fun r σ' => ab_Run X 187 10 (17, 0, 0) [ab_R 355, ab_I 1] (ab_psh r []) σ' Q)) : ab_Run X 187 2 (17, 0, 0) [ab_R 355, ab_I 1] [] τ Q := by
  rw [rX13_readAll_2]
  simp (disch := omega) only [rX13_readAll_3, rX13_readAll_6, rX13_readAll_7, gS_355, g, ne_eq, not_false_eq_true, not_true_eq_false, true_and, and_true, and_self, true_imp_iff, false_imp_iff, imp_self, Bool.not_false, Bool.not_true, reduceCtorEq, ab_isJ, ab_psh, ab_cats, Bool.false_eq_true, if_true, if_false, ab_shf, ab_shw, Int.le_refl, Classical.not_not, Int.zero_add, forall_const, ↓ab_itT, ↓ab_itF, ab_anT, ab_w32_id, ab_rdf_ne, ab_rdw_ne, ab_rdw_eq, ab_rdf_in, ab_td2, ab_tm2, true_or, or_true]
  all_goals exact key
theorem mr_eat (g : ab_Geo τ) (key : ab_Do X 175 [ab_R 355, ab_I 59] τ (fun r σ' => ab_Run X 187 16 (17, 0, 0) [ab_R 355, ab_I 1] (ab_psh r []) σ' Q)) : ab_Run X 187 10 (17, 0, 0) [ab_R 355, ab_I 1] (ab_psh none []) τ Q := by
  simp (disch := omega) only [rX13_readAll_10, rX13_readAll_11, rX13_readAll_13, gS_355, g, ne_eq, not_false_eq_true, not_true_eq_false, true_and, and_true, and_self, true_imp_iff, false_imp_iff, imp_self, Bool.not_false, Bool.not_true, reduceCtorEq, ab_isJ, ab_psh, ab_cats, Bool.false_eq_true, if_true, if_false, ab_shf, ab_shw, Int.le_refl, Classical.not_not, Int.zero_add, forall_const, ↓ab_itT, ↓ab_itF, ab_anT, ab_w32_id, ab_rdf_ne, ab_rdw_ne, ab_rdw_eq, ab_rdf_in, ab_td2, ab_tm2, true_or, or_true]
  all_goals exact key
theorem mr_more (kq : ab_Run X 187 2 (17, 0, 0) [ab_R 355, ab_I 1] [] τ Q) : ab_Run X 187 16 (17, 0, 0) [ab_R 355, ab_I 1] (ab_psh (some (ab_I 1)) []) τ Q := by
  simp (disch := omega) only [rX13_readAll_16, rX13_readAll_17, ne_eq, not_false_eq_true, not_true_eq_false, true_and, and_true, and_self, true_imp_iff, false_imp_iff, imp_self, Bool.not_false, Bool.not_true, reduceCtorEq, ab_isJ, ab_psh, ab_cats, Bool.false_eq_true, if_true, if_false, ab_shf, ab_shw, Int.le_refl, Classical.not_not, Int.zero_add, forall_const, ↓ab_itT, ↓ab_itF, ab_anT, ab_w32_id, ab_rdf_ne, ab_rdw_ne, ab_rdw_eq, ab_rdf_in, ab_td2, ab_tm2, true_or, or_true]
  all_goals exact kq
theorem mr_f (h : ac_RF τ w pl) (h4 : ab_rd τ 355 4 = M) (hM : 369 ≤ M) (s0 : ab_sh τ M = (13, 0)) (kq : Q none τ) : ab_Run X 187 10 (17, 0, 0) [ab_R 355, ab_I 1] (ab_psh none []) τ Q := by
  have g := h.1
  have h9 := h.2.1
  have c2 := fun k Q' => mq_flaw5 (X := X) (Q := Q') (k := k) h
  have c3 := fun c0 Q' => mq_eatsSign5 (X := X) (Q := Q') (c0 := c0) h
  clear h
  by_cases z : ab_rd τ M 5 = 0
  · simp (disch := omega) only [rX13_readAll_2, rX13_readAll_3, rX13_readAll_10, rX13_readAll_11, rX13_readAll_13, rX13_readAll_16, rX13_readAll_17, rX13_readAll_20, rX13_readAll_21, rX13_readAll_24, rX13_readAll_25, rX13_readAll_28, rX13_readAll_29, rX13_readAll_30, rX13_readAll_33, rX13_readAll_34, rX13_readAll_37, rX13_readAll_40, rX13_readAll_54, rX13_readAll_55, rX13_readAll_57, rX13_readAll_60, gS_355, g, h9, h4, s0, c2, c3, ne_eq, not_false_eq_true, not_true_eq_false, true_and, and_true, and_self, true_imp_iff, false_imp_iff, imp_self, Bool.not_false, Bool.not_true, reduceCtorEq, ab_isJ, ab_psh, ab_cats, Bool.false_eq_true, if_true, if_false, ab_shf, ab_shw, Int.le_refl, Classical.not_not, Int.zero_add, forall_const, ↓ab_itT, ↓ab_itF, ab_anT, ab_w32_id, ab_rdf_ne, ab_rdw_ne, ab_rdw_eq, ab_rdf_in, ab_td2, ab_tm2, true_or, or_true]
    all_goals exact kq
  · by_cases y : ab_rd τ M 6 < 2
    · simp (disch := omega) only [rX13_readAll_2, rX13_readAll_3, rX13_readAll_10, rX13_readAll_11, rX13_readAll_13, rX13_readAll_16, rX13_readAll_17, rX13_readAll_20, rX13_readAll_21, rX13_readAll_24, rX13_readAll_25, rX13_readAll_28, rX13_readAll_29, rX13_readAll_30, rX13_readAll_33, rX13_readAll_34, rX13_readAll_37, rX13_readAll_40, rX13_readAll_43, rX13_readAll_44, rX13_readAll_47, rX13_readAll_50, rX13_readAll_51, rX13_readAll_54, rX13_readAll_55, rX13_readAll_57, rX13_readAll_60, gS_355, g, h9, h4, s0, c2, c3, ne_eq, not_false_eq_true, not_true_eq_false, true_and, and_true, and_self, true_imp_iff, false_imp_iff, imp_self, Bool.not_false, Bool.not_true, reduceCtorEq, ab_isJ, ab_psh, ab_cats, Bool.false_eq_true, if_true, if_false, ab_shf, ab_shw, Int.le_refl, Classical.not_not, Int.zero_add, forall_const, ↓ab_itT, ↓ab_itF, ab_anT, ab_w32_id, ab_rdf_ne, ab_rdw_ne, ab_rdw_eq, ab_rdf_in, ab_td2, ab_tm2, true_or, or_true]
      all_goals exact kq
    · simp (disch := omega) only [rX13_readAll_2, rX13_readAll_3, rX13_readAll_10, rX13_readAll_11, rX13_readAll_13, rX13_readAll_16, rX13_readAll_17, rX13_readAll_20, rX13_readAll_21, rX13_readAll_24, rX13_readAll_25, rX13_readAll_28, rX13_readAll_29, rX13_readAll_30, rX13_readAll_33, rX13_readAll_34, rX13_readAll_37, rX13_readAll_40, rX13_readAll_43, rX13_readAll_44, rX13_readAll_47, rX13_readAll_50, rX13_readAll_51, rX13_readAll_60, gS_355, g, h9, h4, s0, c2, c3, ne_eq, not_false_eq_true, not_true_eq_false, true_and, and_true, and_self, true_imp_iff, false_imp_iff, imp_self, Bool.not_false, Bool.not_true, reduceCtorEq, ab_isJ, ab_psh, ab_cats, Bool.false_eq_true, if_true, if_false, ab_shf, ab_shw, Int.le_refl, Classical.not_not, Int.zero_add, forall_const, ↓ab_itT, ↓ab_itF, ab_anT, ab_w32_id, ab_rdf_ne, ab_rdw_ne, ab_rdw_eq, ab_rdf_in, ab_td2, ab_tm2, true_or, or_true]
      all_goals exact kq
theorem mr_bad (h : ac_RM τ n tp s) (hR : ar_MR τ M κ) (k0 : ac_kk tp n s ≠ 0) (kq : Q none (ab_wr (ab_wr (ab_wr τ 355 13 1) 355 14 s) 355 9 5)) : ab_Run X 187 16 (17, 0, 0) [ab_R 355, ab_I 1] (ab_psh (some (ab_I 0)) []) τ Q := by
  have g := h.1.1
  have n9 : ¬ ab_rd τ 355 9 = 1 := by
    rw [h.2.1.2.1]
    unfold ac_mk
    split
    · omega
    · split
      · omega
      · first | omega | (split <;> omega)
  have c2 := fun k Q' => mq_flaw (X := X) (Q := Q') (k := k) h
  have f := ac_flw (k := 1) h
  have K := hR.same f.2
  have gF := f.1.1
  have h4 := K.1
  have hM := K.2.1.1
  have s0 := mS K.2.1
  have c5 := fun k Q' => mq_flaw5 (X := X) (Q := Q') (k := k) f.1
  clear h hR f K
  by_cases z : ab_rd (ab_wr (ab_wr (ab_wr τ 355 13 1) 355 14 s) 355 9 5) M 5 = 0
  · simp (disch := omega) only [rX13_readAll_2, rX13_readAll_3, rX13_readAll_16, rX13_readAll_17, rX13_readAll_20, rX13_readAll_21, rX13_readAll_24, rX13_readAll_25, rX13_readAll_28, rX13_readAll_29, rX13_readAll_30, rX13_readAll_33, rX13_readAll_34, rX13_readAll_37, rX13_readAll_40, rX13_readAll_54, rX13_readAll_55, rX13_readAll_57, rX13_readAll_60, gS_355, g, gF, h4, s0, c2, c5, ne_eq, not_false_eq_true, not_true_eq_false, true_and, and_true, and_self, true_imp_iff, false_imp_iff, imp_self, Bool.not_false, Bool.not_true, reduceCtorEq, ab_isJ, ab_psh, ab_cats, Bool.false_eq_true, if_true, if_false, ab_shf, ab_shw, Int.le_refl, Classical.not_not, Int.zero_add, forall_const, ↓ab_itT, ↓ab_itF, ab_anT, true_or, or_true]
    all_goals exact kq
  · by_cases y : ab_rd (ab_wr (ab_wr (ab_wr τ 355 13 1) 355 14 s) 355 9 5) M 6 < 2
    · simp (disch := omega) only [rX13_readAll_2, rX13_readAll_3, rX13_readAll_16, rX13_readAll_17, rX13_readAll_20, rX13_readAll_21, rX13_readAll_24, rX13_readAll_25, rX13_readAll_28, rX13_readAll_29, rX13_readAll_30, rX13_readAll_33, rX13_readAll_34, rX13_readAll_37, rX13_readAll_40, rX13_readAll_43, rX13_readAll_44, rX13_readAll_47, rX13_readAll_50, rX13_readAll_51, rX13_readAll_54, rX13_readAll_55, rX13_readAll_57, rX13_readAll_60, gS_355, g, gF, h4, s0, c2, c5, ne_eq, not_false_eq_true, not_true_eq_false, true_and, and_true, and_self, true_imp_iff, false_imp_iff, imp_self, Bool.not_false, Bool.not_true, reduceCtorEq, ab_isJ, ab_psh, ab_cats, Bool.false_eq_true, if_true, if_false, ab_shf, ab_shw, Int.le_refl, Classical.not_not, Int.zero_add, forall_const, ↓ab_itT, ↓ab_itF, ab_anT, true_or, or_true]
      all_goals exact kq
    · simp (disch := omega) only [rX13_readAll_2, rX13_readAll_3, rX13_readAll_16, rX13_readAll_17, rX13_readAll_20, rX13_readAll_21, rX13_readAll_24, rX13_readAll_25, rX13_readAll_28, rX13_readAll_29, rX13_readAll_30, rX13_readAll_33, rX13_readAll_34, rX13_readAll_37, rX13_readAll_40, rX13_readAll_43, rX13_readAll_44, rX13_readAll_47, rX13_readAll_50, rX13_readAll_51, rX13_readAll_60, gS_355, g, gF, h4, s0, c2, c5, ne_eq, not_false_eq_true, not_true_eq_false, true_and, and_true, and_self, true_imp_iff, false_imp_iff, imp_self, Bool.not_false, Bool.not_true, reduceCtorEq, ab_isJ, ab_psh, ab_cats, Bool.false_eq_true, if_true, if_false, ab_shf, ab_shw, Int.le_refl, Classical.not_not, Int.zero_add, forall_const, ↓ab_itT, ↓ab_itF, ab_anT, true_or, or_true]
      all_goals exact kq
theorem mr_end (h : ac_RM τ n tp s) (hR : ar_MR τ M κ) (k0 : ac_kk tp n s = 0) (hn : 0 ≤ κ 5 0) (kF : ¬ (1 ≤ κ 5 0 ∧ 2 ≤ κ 6 0) → Q none (ab_wr (ab_wr (ab_wr τ 355 13 6) 355 14 s) 355 9 5)) (kO : 1 ≤ κ 5 0 ∧ 2 ≤ κ 6 0 → Q none τ) : ab_Run X 187 16 (17, 0, 0) [ab_R 355, ab_I 1] (ab_psh (some (ab_I 0)) []) τ Q := by
  have g := h.1.1
  have h9 : ab_rd τ 355 9 = 1 := by rw [h.2.1.2.1, k0]; rfl
  have c2 := fun k Q' => mq_flaw (X := X) (Q := Q') (k := k) h
  have h4 := hR.1
  have hM := hR.2.1.1
  have s0 := mS hR.2.1
  have c5 := hR.2.2.1 5 (by omega) (by omega)
  have c6 := hR.2.2.1 6 (by omega) (by omega)
  clear h hR
  by_cases z : κ 5 0 = 0
  · have kq := kF (by omega)
    rw [z] at c5
    clear kF kO
    simp (disch := omega) only [rX13_readAll_2, rX13_readAll_3, rX13_readAll_16, rX13_readAll_17, rX13_readAll_20, rX13_readAll_21, rX13_readAll_24, rX13_readAll_25, rX13_readAll_33, rX13_readAll_34, rX13_readAll_37, rX13_readAll_40, rX13_readAll_54, rX13_readAll_55, rX13_readAll_57, rX13_readAll_60, gS_355, g, h9, h4, s0, c5, c2, ne_eq, not_false_eq_true, not_true_eq_false, true_and, and_true, and_self, true_imp_iff, false_imp_iff, imp_self, Bool.not_false, Bool.not_true, reduceCtorEq, ab_isJ, ab_psh, ab_cats, Bool.false_eq_true, if_true, if_false, ab_shf, ab_shw, Int.le_refl, Classical.not_not, Int.zero_add, forall_const, ↓ab_itT, ↓ab_itF, ab_anT, ab_w32_id, ab_rdf_ne, ab_rdw_ne, ab_rdw_eq, ab_rdf_in, ab_td2, ab_tm2, true_or, or_true]
    all_goals exact kq
  · by_cases y : κ 6 0 < 2
    · have kq := kF (by omega)
      clear kF kO
      simp (disch := omega) only [rX13_readAll_2, rX13_readAll_3, rX13_readAll_16, rX13_readAll_17, rX13_readAll_20, rX13_readAll_21, rX13_readAll_24, rX13_readAll_25, rX13_readAll_33, rX13_readAll_34, rX13_readAll_37, rX13_readAll_40, rX13_readAll_43, rX13_readAll_44, rX13_readAll_47, rX13_readAll_50, rX13_readAll_51, rX13_readAll_54, rX13_readAll_55, rX13_readAll_57, rX13_readAll_60, gS_355, g, h9, h4, s0, c5, c6, c2, ne_eq, not_false_eq_true, not_true_eq_false, true_and, and_true, and_self, true_imp_iff, false_imp_iff, imp_self, Bool.not_false, Bool.not_true, reduceCtorEq, ab_isJ, ab_psh, ab_cats, Bool.false_eq_true, if_true, if_false, ab_shf, ab_shw, Int.le_refl, Classical.not_not, Int.zero_add, forall_const, ↓ab_itT, ↓ab_itF, ab_anT, ab_w32_id, ab_rdf_ne, ab_rdw_ne, ab_rdw_eq, ab_rdf_in, ab_td2, ab_tm2, true_or, or_true]
      all_goals exact kq
    · have kq := kO (by omega)
      clear kF kO
      simp (disch := omega) only [rX13_readAll_2, rX13_readAll_3, rX13_readAll_16, rX13_readAll_17, rX13_readAll_20, rX13_readAll_21, rX13_readAll_24, rX13_readAll_25, rX13_readAll_33, rX13_readAll_34, rX13_readAll_37, rX13_readAll_40, rX13_readAll_43, rX13_readAll_44, rX13_readAll_47, rX13_readAll_50, rX13_readAll_51, rX13_readAll_60, gS_355, g, h9, h4, s0, c5, c6, ne_eq, not_false_eq_true, not_true_eq_false, true_and, and_true, and_self, true_imp_iff, false_imp_iff, imp_self, Bool.not_false, Bool.not_true, reduceCtorEq, ab_isJ, ab_psh, ab_cats, Bool.false_eq_true, if_true, if_false, ab_shf, ab_shw, Int.le_refl, Classical.not_not, Int.zero_add, forall_const, ↓ab_itT, ↓ab_itF, ab_anT, ab_w32_id, ab_rdf_ne, ab_rdw_ne, ab_rdw_eq, ab_rdf_in, ab_td2, ab_tm2, true_or, or_true]
      all_goals exact kq
theorem mq_all_l : ∀ (m : Nat) (s : Int) (κ : ac_K) (τ : ab_S), n + 1 ≤ m + s → ac_RM τ n tp s → ar_MR τ M κ → ar_J κ → pr_read tp n m κ s = r → ar_mF Q τ M r → (∀ κ' s', r = .inr (κ', s') → ar_J κ' → 1 ≤ κ' 5 0 → 2 ≤ κ' 6 0 → ∀ υ, ab_Same (ar_PW M) τ υ → ac_RM υ n tp s' → ar_MR υ M κ' → Q none υ) → ab_Run X 187 2 (17, 0, 0) [ab_R 355, ab_I 1] [] τ Q := by
  intro m
  induction m with
  | zero => intro s κ τ h3 R; exfalso; have := R.2.2.2.1; omega
  | succ m ih =>
    intro s κ τ h3 R K hj er hF hO
    have hs0 := R.2.2.1
    have hsn := R.2.2.2.1
    have hM := K.2.1.1
    unfold pr_read at er
    refine mr_line R.1.1 (mq_readLine R K hj (fun w pl e υ u f => ?_) (fun κ' s' e υ u R1 K1 => ?_))
    · rw [e] at er
      exact mr_f f (by rw [u.2.2 355 4 (fun z => by unfold ar_PW ac_PV at z; omega)]; exact K.1) hM (by rw [u.2.1]; exact mS K.2.1) (hF w pl er.symm υ u f)
    · have J1 := pr_line_J hj ⟨hs0, hsn⟩ e
      have n5 := J1.1.1.1
      rw [e] at er
      dsimp only at er
      refine mr_eat R1.1.1 (mq_eatsSign R1 (Or.inl rfl) (fun y => ?_) (fun y τ2 u2 R2 => ?_))
      · have k4 : ¬ ac_kk tp n s' = 4 := fun z => y (Or.inl ⟨rfl, z⟩)
        by_cases k0 : ac_kk tp n s' = 0
        · rw [if_pos k0] at er
          have f := ac_flw (k := 6) R1
          refine mr_end R1 K1 k0 n5.1 (fun z => ?_) (fun z => ?_)
          · rw [if_neg z] at er
            exact hF 6 s' er.symm _ (u.trans f.2.vw) f.1
          · rw [if_pos z] at er
            exact hO κ' s' er.symm J1.1 z.1 z.2 υ u R1 K1
        · rw [if_neg k0, if_neg k4] at er
          have f := ac_flw (k := 1) R1
          exact mr_bad R1 K1 k0 (hF 1 s' er.symm _ (u.trans f.2.vw) f.1)
      · have k4 : ac_kk tp n s' = 4 := by omega
        rw [if_neg (by omega), if_pos k4] at er
        have nb := ar_nx4 k4 ⟨by omega, J1.2.2⟩
        exact mr_more (ih _ κ' τ2 (by omega) R2 (K1.same u2) J1.1 er (fun w pl e υ q1 q2 => hF w pl e υ ((u.trans u2.vw).trans q1) q2) (fun κ2 s2 e j h5 h6 υ q1 q2 q3 => hO κ2 s2 e j h5 h6 υ ((u.trans u2.vw).trans q1) q2 q3))
theorem mq_readAll (R : ac_RM σ n tp s) (K : ar_MR σ M κ) (hj : ar_J κ) {m : Nat} (hm : n + 1 ≤ m + s) (er : pr_read tp n m κ s = r) (hF : ar_mF Q σ M r) (hO : ∀ κ' s', r = .inr (κ', s') → ar_J κ' → 1 ≤ κ' 5 0 → 2 ≤ κ' 6 0 → ∀ υ, ab_Same (ar_PW M) σ υ → ac_RM υ n tp s' → ar_MR υ M κ' → Q none υ) : ab_Do X 187 [ab_R 355] σ Q := by
  have kq := mq_all_l (X := X) m s κ σ hm R K hj er hF hO
  clear hF hO R K hj er
  simp (disch := omega) only [do_X13_readAll, rX13_readAll_0, rX13_readAll_1, ne_eq, not_false_eq_true, not_true_eq_false, true_and, and_true, and_self, true_imp_iff, false_imp_iff, imp_self, Bool.not_false, Bool.not_true, reduceCtorEq, ab_isJ, ab_psh, ab_cats, Bool.false_eq_true, if_true, if_false, ab_shf, ab_shw, Int.le_refl, Classical.not_not, Int.zero_add, forall_const, ↓ab_itT, ↓ab_itF, ab_anT, ab_w32_id, ab_rdf_ne, ab_rdw_ne, ab_rdw_eq, ab_rdf_in, ab_td2, ab_tm2, true_or, or_true]
  all_goals exact kq
end
