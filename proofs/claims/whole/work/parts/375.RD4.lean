/-! READER of the reference: flaw, isSign, eatsSign, needs -/
def ac_RM (σ : ab_S) (n : Int) (tp : Int → Int) (s : Int) : Prop := ac_UO σ n tp ∧ ac_UT σ n tp s ∧ 0 ≤ s ∧ s ≤ n ∧ ab_rd σ 355 13 = 0
/-- flawed: the fault and its place -/
def ac_RF (σ : ab_S) (w pl : Int) : Prop := ab_Geo σ ∧ ab_rd σ 355 9 = 5 ∧ ab_rd σ 355 13 = w ∧ ab_rd σ 355 14 = pl
def ac_PV : Int → Int → Prop := fun a f => a = 355 ∧ 8 ≤ f ∧ f ≤ 15
theorem ac_PV_pt : ∀ a f, 0 ≤ a → a ≤ 368 → 0 ≤ f → ac_PV a f → ab_pt a f = 0 := by
  intro a f h1 h2 h3 hp
  obtain ⟨rfl, q⟩ := hp
  have := ac_PU_T ⟨f.toNat, by omega⟩ (by dsimp only; omega)
  dsimp only at this
  rwa [Int.toNat_of_nonneg h3] at this
theorem ac_PU_V {a f : Int} (h : ac_PU a f) : ac_PV a f := by unfold ac_PU at h; unfold ac_PV; omega
section
variable {X : ab_X} {σ τ υ : ab_S} {Q : Option ab_V → ab_S → Prop} {n p s x y t i a b c k w pl lo hi : Int} {tp : Int → Int} {T : List Int}
theorem mq_flaw (h : ac_RM σ n tp s) : ab_Do X 172 [ab_R 355, ab_I k] σ Q ↔ Q none (ab_wr (ab_wr (ab_wr σ 355 13 k) 355 14 s) 355 9 5) := by
  have g := h.1.1
  have h10 := h.2.1.1
  have h9 : ¬ ab_rd σ 355 9 = 5 := by
    rw [h.2.1.2.1]
    have : ac_kk tp n s = 0 ∨ ac_kk tp n s = 1 ∨ ac_kk tp n s = 2 ∨ ac_kk tp n s = 3 ∨ ac_kk tp n s = 4 ∨ ac_kk tp n s = 5 := by
      unfold ac_kk
      split
      · omega
      · split
        · split <;> omega
        · split
          · split <;> omega
          · split
            · omega
            · split <;> omega
    rcases this with e | e | e | e | e | e <;> rw [e] <;> decide
  simp (disch := omega) only [do_X13_flaw, rX13_flaw_0, rX13_flaw_1, rX13_flaw_4, rX13_flaw_5, rX13_flaw_8, rX13_flaw_9, rX13_flaw_10, rX13_flaw_11, rX13_flaw_14, rX13_flaw_15, rX13_flaw_16, rX13_flaw_19, rX13_flaw_22, rX13_flaw_23, rX13_flaw_24, rX13_flaw_27, gS_355, g, h10, ne_eq, not_false_eq_true, not_true_eq_false, true_and, and_true, and_self, true_imp_iff, false_imp_iff, imp_self, Bool.not_false, Bool.not_true, reduceCtorEq, ab_isJ, ab_psh, ab_cats, Bool.false_eq_true, if_true, if_false, ab_shf, ab_shw, Int.le_refl, Classical.not_not, Int.zero_add, forall_const, ↓ab_itT, ↓ab_itF, ab_anT, ab_w32_id, ab_rdf_ne, ab_rdw_ne, ab_rdw_eq, ab_rdf_in, ab_td2, ab_tm2, true_or, or_true]
theorem mq_flaw5 (h : ac_RF σ w pl) : ab_Do X 172 [ab_R 355, ab_I k] σ Q ↔ Q none σ := by
  have g := h.1
  have h9 := h.2.1
  simp (disch := omega) only [do_X13_flaw, rX13_flaw_0, rX13_flaw_1, rX13_flaw_4, rX13_flaw_5, rX13_flaw_8, gS_355, g, h9, ne_eq, not_false_eq_true, not_true_eq_false, true_and, and_true, and_self, true_imp_iff, false_imp_iff, imp_self, Bool.not_false, Bool.not_true, reduceCtorEq, ab_isJ, ab_psh, ab_cats, Bool.false_eq_true, if_true, if_false, ab_shf, ab_shw, Int.le_refl, Classical.not_not, Int.zero_add, forall_const, ↓ab_itT, ↓ab_itF, ab_anT, ab_w32_id, ab_rdf_ne, ab_rdw_ne, ab_rdw_eq, ab_rdf_in, ab_td2, ab_tm2, true_or, or_true]
theorem ac_flw (h : ac_RM σ n tp s) : ac_RF (ab_wr (ab_wr (ab_wr σ 355 13 k) 355 14 s) 355 9 5) k s ∧ ab_Same ac_PV σ (ab_wr (ab_wr (ab_wr σ 355 13 k) 355 14 s) 355 9 5) := by
  have s1 : ab_Same ac_PV σ (ab_wr (ab_wr (ab_wr σ 355 13 k) 355 14 s) 355 9 5) := ((ab_Same.refl.wr (by unfold ac_PV; omega)).wr (by unfold ac_PV; omega)).wr (by unfold ac_PV; omega)
  exact ⟨⟨h.1.1.same s1 ac_PV_pt, ab_rdw_eq, by rw [ab_rdw_ne (by omega), ab_rdw_ne (by omega), ab_rdw_eq], by rw [ab_rdw_ne (by omega), ab_rdw_eq]⟩, s1⟩
end
