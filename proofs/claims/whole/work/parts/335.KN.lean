/-! knob, owners -/
abbrev ac_kb (κ : ac_K) (v : Int → Int) (i b p q : Int) : Prop := ¬ p = q ∧ ac_BP κ (v b) (v (5 + b)) b p (ac_h κ p b 0) q (ac_h κ q b 1) 2 = 10 * κ 25 i + κ 26 i
def ac_ks (κ : ac_K) (v : Int → Int) (i b p q : Int) (s : Int × Int) : Int × Int := if ac_kb κ v i b p q then (ab_w32 (s.1 + 1), ac_or s.2 (ac_sl (if κ 25 i = 0 then q else p))) else s
def ac_kp (κ : ac_K) (v : Int → Int) (i b p : Int) (s : Int × Int) : Int × Int := ab_it (ac_ks κ v i b p) (κ 6 0).toNat 0 s
def ac_kbn (κ : ac_K) (v : Int → Int) (i b : Int) (s : Int × Int) : Int × Int := ab_it (ac_kp κ v i b) (κ 6 0).toNat 0 s
def ac_kall (κ : ac_K) (v : Int → Int) (i : Int) : Int × Int := ab_it (ac_kbn κ v i) (κ 5 0).toNat 0 (0, 0)
section
variable {X : ab_X} {σ τ : ab_S} {Q : Option ab_V → ab_S → Prop} {K : Int} {κ : ac_K} {v : Int → Int} {kd d b p hp q hq mv i as : Int}
/-- taken: toughness and so on of a bone -/
def ac_TK (τ : ab_S) (κ : ac_K) (kd d : Int) : Prop := ac_Tk τ κ d ∧ ab_rd τ 134 4 = ac_lp κ kd d ∧ ab_rd τ 134 8 = κ 4 0
theorem sp_breaksAsTold (h : ac_CI σ K κ) (hk : ac_KK κ) (hT : ac_TK σ κ kd d) (hd : 0 ≤ d ∧ d ≤ 24) (hb : ac_isB κ b) (hp : ac_isP κ p) (hq : ac_isP κ q) (hQ : ∀ τ, ab_Same ac_PD σ τ → ac_TK τ κ kd d → Q (some (ab_I (ac_BP κ kd d b p (ac_h κ p b 0) q (ac_h κ q b 1) 2))) τ) : ab_Do X 146 [ab_R 1, ab_I b, ab_I p, ab_I q] σ Q := by
  have g := h.1
  have b0 := ac_h_b hk hb (Or.inl rfl) hp
  have b1 := ac_h_b hk hb (Or.inr rfl) hq
  have c1 := fun Q' => sp_gripsAsTold (X := X) (Q := Q') g h.2.1 h.2.2.1 hk hT.1 hd hb hp hq
  have hL := ac_gk_Ld (hp := ac_h κ p b 0) (hq := ac_h κ q b 1) (mv := 2) g hk hd hb hp hq (by omega) (by omega) hT.2.1 hT.2.2
  have c2 := fun Q' => sp_breakPlaceK (X := X) (Q := Q') hL
  have gL := hL.1
  have s1 := (ac_gk_same (σ := σ) (κ := κ) (d := d) (b := b) (p := p) (hp := ac_h κ p b 0) (q := q) (hq := ac_h κ q b 1) (mv := 2)).trans (ac_rst_same (d := d) (b := b) (p := p) (hp := ac_h κ p b 0) (q := q) (hq := ac_h κ q b 1) (mv := 2) (r0 := 0) (r1 := 0) (κ := κ))
  have e134 : ∀ f, f ≠ 9 → ab_rd (ac_rst (ac_gk σ κ d b p (ac_h κ p b 0) q (ac_h κ q b 1) 2) κ d b p (ac_h κ p b 0) q (ac_h κ q b 1) 2 0 0) 134 f = ab_rd σ 134 f := fun f hf => by
    unfold ac_rst
    rw [ac_w3_ne (by omega), ac_w3_ne (by omega), ac_gk_134 hf]
  have s2 : ab_Same ac_PD σ (ac_rst (ac_gk σ κ d b p (ac_h κ p b 0) q (ac_h κ q b 1) 2) κ d b p (ac_h κ p b 0) q (ac_h κ q b 1) 2 0 0) := s1.toD (fun f => by rw [ac_rst_r1 (by omega), ac_gk_r1 (by omega)])
  have hq' := hQ _ s2 ⟨⟨by rw [e134 5 (by omega)]; exact hT.1.1, by rw [e134 6 (by omega)]; exact hT.1.2.1, by rw [e134 7 (by omega)]; exact hT.1.2.2⟩, by rw [e134 4 (by omega)]; exact hT.2.1, by rw [e134 8 (by omega)]; exact hT.2.2⟩
  simp (disch := omega) only [do_X11_breaksAsTold, rX11_breaksAsTold_0, rX11_breaksAsTold_1, rX11_breaksAsTold_2, rX11_breaksAsTold_3, rX11_breaksAsTold_4, rX11_breaksAsTold_7, rX11_breaksAsTold_8, rX11_breaksAsTold_11, rX11_breaksAsTold_14, gS_1, gP_1_3, gS_134, g, gL, c1, c2, ne_eq, not_false_eq_true, not_true_eq_false, true_and, and_true, and_self, true_imp_iff, false_imp_iff, imp_self, Bool.not_false, Bool.not_true, reduceCtorEq, ab_isJ, ab_psh, ab_cats, Bool.false_eq_true, if_true, if_false, ab_shf, ab_shw, Int.le_refl, Classical.not_not, Int.zero_add, forall_const, ↓ab_itT, ↓ab_itF, ab_anT, ab_w32_id, ab_rdf_ne, ab_rdw_ne, ab_rdw_eq, ab_rdf_in, ab_td2, ab_tm2]
  exact hq'
theorem ab_Same.ci (h : ac_CI σ K κ) (hs : ab_Same ac_PD σ τ) : ac_CI τ K κ := h.same hs.ofD
theorem cq_kn_q (h : ac_CI σ K κ) (hk : ac_KK κ) (hV : ac_VB κ v) (hb : ac_isB κ b) (hp : ac_isP κ p) (hi : 0 ≤ i ∧ i < κ 9 0) : ∀ (n : Nat) (q : Int) (s : Int × Int) (τ : ab_S), ab_Same ac_PD σ τ → ac_TK τ κ (v b) (v (5 + b)) → 0 ≤ q → q + n = κ 6 0 → (∀ τ', ab_Same ac_PD σ τ' → ac_TK τ' κ (v b) (v (5 + b)) → ab_Run X 145 136 (5, 0, 0) [ab_R 1, ab_I i, ab_I as, ab_I (10 * κ 25 i + κ 26 i), ab_I (ab_it (ac_ks κ v i b p) n q s).1, ab_I (ab_it (ac_ks κ v i b p) n q s).2, ab_I b, ab_I p, ab_I (κ 6 0)] [] τ' Q) → ab_Run X 145 68 (5, 0, 0) [ab_R 1, ab_I i, ab_I as, ab_I (10 * κ 25 i + κ 26 i), ab_I s.1, ab_I s.2, ab_I b, ab_I p, ab_I q] [] τ Q := by
  have n6 := h.2.2.2.1.2.1.2
  have n9 := h.2.2.2.1.2.2.2.2.2
  have ib := hk.2.2.1.2.2.2 i hi.1 hi.2
  intro n
  induction n with
  | zero =>
    intro q s τ hs hT hq hn hQ
    obtain rfl : q = κ 6 0 := by omega
    have hI := ab_Same.ci h hs
    have g := hI.1
    have h7 := hI.2.1
    have hC := hI.2.2.1
    have hv : K = 5 ∨ K = 329 := hC.1
    have sK := (g.kit hC.1).1
    have e6 := hC.2.2.1.2.1
    have hq' := hQ τ hs hT
    rw [ab_it] at hq'
    rw [rX11_searchKnob_68]
    simp (disch := omega) only [rX11_searchKnob_70, rX11_searchKnob_71, rX11_searchKnob_74, rX11_searchKnob_77, gS_1, g, h7, sK, e6, ne_eq, not_false_eq_true, not_true_eq_false, true_and, and_true, and_self, true_imp_iff, false_imp_iff, imp_self, Bool.not_false, Bool.not_true, reduceCtorEq, ab_isJ, ab_psh, ab_cats, Bool.false_eq_true, if_true, if_false, ab_shf, ab_shw, Int.le_refl, Classical.not_not, Int.zero_add, forall_const, ↓ab_itT, ↓ab_itF, ab_anT, ab_w32_id, ab_rdf_ne, ab_rdw_ne, ab_rdw_eq, ab_rdf_in, ab_td2, ab_tm2]
    all_goals exact hq'
  | succ n ih =>
    intro q s τ hs hT hq hn hQ
    have hI := ab_Same.ci h hs
    have g := hI.1
    have h7 := hI.2.1
    have hC := hI.2.2.1
    have hv : K = 5 ∨ K = 329 := hC.1
    have sK := (g.kit hC.1).1
    have e6 := hC.2.2.1.2.1
    rw [ab_it] at hQ
    rw [rX11_searchKnob_68]
    by_cases w : p = q
    · have e : ac_ks κ v i b p q s = s := if_neg (fun u => u.1 w)
      rw [e] at hQ
      have key := ih (q + 1) s τ hs hT (by omega) (by omega) hQ
      simp (disch := omega) only [rX11_searchKnob_70, rX11_searchKnob_71, rX11_searchKnob_74, rX11_searchKnob_77, rX11_searchKnob_80, rX11_searchKnob_82, rX11_searchKnob_84, rX11_searchKnob_130, rX11_searchKnob_133, gS_1, g, h7, sK, e6, ne_eq, not_false_eq_true, not_true_eq_false, true_and, and_true, and_self, true_imp_iff, false_imp_iff, imp_self, Bool.not_false, Bool.not_true, reduceCtorEq, ab_isJ, ab_psh, ab_cats, Bool.false_eq_true, if_true, if_false, ab_shf, ab_shw, Int.le_refl, Classical.not_not, Int.zero_add, forall_const, ↓ab_itT, ↓ab_itF, ab_anT, ab_w32_id, ab_rdf_ne, ab_rdw_ne, ab_rdw_eq, ab_rdf_in, ab_td2, ab_tm2]
      all_goals exact key
    · simp (disch := omega) only [rX11_searchKnob_70, rX11_searchKnob_71, rX11_searchKnob_74, rX11_searchKnob_77, rX11_searchKnob_80, rX11_searchKnob_82, rX11_searchKnob_84, rX11_searchKnob_87, rX11_searchKnob_88, rX11_searchKnob_90, rX11_searchKnob_92, rX11_searchKnob_94, gS_1, g, h7, sK, e6, ne_eq, not_false_eq_true, not_true_eq_false, true_and, and_true, and_self, true_imp_iff, false_imp_iff, imp_self, Bool.not_false, Bool.not_true, reduceCtorEq, ab_isJ, ab_psh, ab_cats, Bool.false_eq_true, if_true, if_false, ab_shf, ab_shw, Int.le_refl, Classical.not_not, Int.zero_add, forall_const, ↓ab_itT, ↓ab_itF, ab_anT, ab_w32_id, ab_rdf_ne, ab_rdw_ne, ab_rdw_eq, ab_rdf_in, ab_td2, ab_tm2]
      refine sp_breaksAsTold hI hk hT (hV.1 b hb.1 hb.2).2 hb hp ⟨hq, by omega⟩ (fun τ1 hs1 hT1 => ?_)
      have hs1' := hs.trans hs1
      have hI1 := ab_Same.ci h hs1'
      have g1 := hI1.1
      have h71 := hI1.2.1
      have hC1 := hI1.2.2.1
      obtain ⟨s0, s1, s2, s3, s4, p6, p8, p13, p14⟩ := g1.kit hC1.1
      have ea := (hC1.2.2.2.2.2 i hi.1 hi.2).1
      by_cases w2 : ac_BP κ (v b) (v (5 + b)) b p (ac_h κ p b 0) q (ac_h κ q b 1) 2 = 10 * κ 25 i + κ 26 i
      · have e : ac_ks κ v i b p q s = (ab_w32 (s.1 + 1), ac_or s.2 (ac_sl (if κ 25 i = 0 then q else p))) := if_pos ⟨w, w2⟩
        rw [e] at hQ
        have key := ih (q + 1) (ab_w32 (s.1 + 1), ac_or s.2 (ac_sl (if κ 25 i = 0 then q else p))) τ1 hs1' hT1 (by omega) (by omega) hQ
        by_cases w3 : κ 25 i = 0
        · rw [if_pos w3] at key
          simp (disch := omega) only [rX11_searchKnob_97, rX11_searchKnob_98, rX11_searchKnob_101, rX11_searchKnob_104, rX11_searchKnob_106, rX11_searchKnob_107, rX11_searchKnob_108, rX11_searchKnob_111, rX11_searchKnob_114, rX11_searchKnob_115, rX11_searchKnob_116, rX11_searchKnob_119, rX11_searchKnob_121, rX11_searchKnob_124, rX11_searchKnob_126, rX11_searchKnob_127, rX11_searchKnob_128, rX11_searchKnob_130, rX11_searchKnob_133, gS_1, g1, h71, s0, s3, p13, ea, w2, ac_fo, ac_fl1, ne_eq, not_false_eq_true, not_true_eq_false, true_and, and_true, and_self, true_imp_iff, false_imp_iff, imp_self, Bool.not_false, Bool.not_true, reduceCtorEq, ab_isJ, ab_psh, ab_cats, Bool.false_eq_true, if_true, if_false, ab_shf, ab_shw, Int.le_refl, Classical.not_not, Int.zero_add, forall_const, ↓ab_itT, ↓ab_itF, ab_anT, ab_w32_id, ab_rdf_ne, ab_rdw_ne, ab_rdw_eq, ab_rdf_in, ab_td2, ab_tm2]
          all_goals exact key
        · rw [if_neg w3] at key
          simp (disch := omega) only [rX11_searchKnob_97, rX11_searchKnob_98, rX11_searchKnob_101, rX11_searchKnob_104, rX11_searchKnob_106, rX11_searchKnob_107, rX11_searchKnob_108, rX11_searchKnob_111, rX11_searchKnob_114, rX11_searchKnob_115, rX11_searchKnob_116, rX11_searchKnob_119, rX11_searchKnob_121, rX11_searchKnob_124, rX11_searchKnob_126, rX11_searchKnob_127, rX11_searchKnob_128, rX11_searchKnob_130, rX11_searchKnob_133, gS_1, g1, h71, s0, s3, p13, ea, w2, ac_fo, ac_fl1, ne_eq, not_false_eq_true, not_true_eq_false, true_and, and_true, and_self, true_imp_iff, false_imp_iff, imp_self, Bool.not_false, Bool.not_true, reduceCtorEq, ab_isJ, ab_psh, ab_cats, Bool.false_eq_true, if_true, if_false, ab_shf, ab_shw, Int.le_refl, Classical.not_not, Int.zero_add, forall_const, ↓ab_itT, ↓ab_itF, ab_anT, ab_w32_id, ab_rdf_ne, ab_rdw_ne, ab_rdw_eq, ab_rdf_in, ab_td2, ab_tm2]
          all_goals exact key
      · have e : ac_ks κ v i b p q s = s := if_neg (fun u => w2 u.2)
        rw [e] at hQ
        have key := ih (q + 1) s τ1 hs1' hT1 (by omega) (by omega) hQ
        simp (disch := omega) only [rX11_searchKnob_97, rX11_searchKnob_98, rX11_searchKnob_101, rX11_searchKnob_104, rX11_searchKnob_106, rX11_searchKnob_107, rX11_searchKnob_108, rX11_searchKnob_111, rX11_searchKnob_114, rX11_searchKnob_115, rX11_searchKnob_116, rX11_searchKnob_119, rX11_searchKnob_121, rX11_searchKnob_124, rX11_searchKnob_126, rX11_searchKnob_127, rX11_searchKnob_128, rX11_searchKnob_130, rX11_searchKnob_133, ne_eq, not_false_eq_true, not_true_eq_false, true_and, and_true, and_self, true_imp_iff, false_imp_iff, imp_self, Bool.not_false, Bool.not_true, reduceCtorEq, ab_isJ, ab_psh, ab_cats, Bool.false_eq_true, if_true, if_false, ab_shf, ab_shw, Int.le_refl, Classical.not_not, Int.zero_add, forall_const, ↓ab_itT, ↓ab_itF, ab_anT, ab_w32_id, ab_rdf_ne, ab_rdw_ne, ab_rdw_eq, ab_rdf_in, ab_td2, ab_tm2]
        all_goals exact key
theorem cq_kn_p (h : ac_CI σ K κ) (hk : ac_KK κ) (hV : ac_VB κ v) (hb : ac_isB κ b) (hi : 0 ≤ i ∧ i < κ 9 0) : ∀ (n : Nat) (p : Int) (s : Int × Int) (τ : ab_S) (l8 : ab_V), ab_Same ac_PD σ τ → ac_TK τ κ (v b) (v (5 + b)) → 0 ≤ p → p + n = κ 6 0 → (∀ τ' l8, ab_Same ac_PD σ τ' → ab_Run X 145 142 (5, 0, 0) [ab_R 1, ab_I i, ab_I as, ab_I (10 * κ 25 i + κ 26 i), ab_I (ab_it (ac_kp κ v i b) n p s).1, ab_I (ab_it (ac_kp κ v i b) n p s).2, ab_I b, ab_I (κ 6 0), l8] [] τ' Q) → ab_Run X 145 53 (5, 0, 0) [ab_R 1, ab_I i, ab_I as, ab_I (10 * κ 25 i + κ 26 i), ab_I s.1, ab_I s.2, ab_I b, ab_I p, l8] [] τ Q := by
  have n6 := h.2.2.2.1.2.1.2
  have z6 := h.2.2.2.1.2.1.1
  intro n
  induction n with
  | zero =>
    intro p s τ l8 hs hT hp hn hQ
    obtain rfl : p = κ 6 0 := by omega
    have hI := ab_Same.ci h hs
    have g := hI.1
    have h7 := hI.2.1
    have hC := hI.2.2.1
    have hv : K = 5 ∨ K = 329 := hC.1
    have sK := (g.kit hC.1).1
    have e6 := hC.2.2.1.2.1
    have hq' := hQ τ l8 hs
    rw [ab_it] at hq'
    rw [rX11_searchKnob_53]
    simp (disch := omega) only [rX11_searchKnob_55, rX11_searchKnob_56, rX11_searchKnob_59, rX11_searchKnob_62, gS_1, g, h7, sK, e6, ne_eq, not_false_eq_true, not_true_eq_false, true_and, and_true, and_self, true_imp_iff, false_imp_iff, imp_self, Bool.not_false, Bool.not_true, reduceCtorEq, ab_isJ, ab_psh, ab_cats, Bool.false_eq_true, if_true, if_false, ab_shf, ab_shw, Int.le_refl, Classical.not_not, Int.zero_add, forall_const, ↓ab_itT, ↓ab_itF, ab_anT, ab_w32_id, ab_rdf_ne, ab_rdw_ne, ab_rdw_eq, ab_rdf_in, ab_td2, ab_tm2]
    all_goals exact hq'
  | succ n ih =>
    intro p s τ l8 hs hT hp hn hQ
    have hI := ab_Same.ci h hs
    have g := hI.1
    have h7 := hI.2.1
    have hC := hI.2.2.1
    have hv : K = 5 ∨ K = 329 := hC.1
    have sK := (g.kit hC.1).1
    have e6 := hC.2.2.1.2.1
    rw [ab_it] at hQ
    rw [rX11_searchKnob_53]
    have key := cq_kn_q (X := X) (Q := Q) (as := as) h hk hV hb (show ac_isP κ p from ⟨hp, by omega⟩) hi (κ 6 0).toNat 0 s τ hs hT (by omega) (by omega) (fun τ' hs' hT' => by
      simp (disch := omega) only [rX11_searchKnob_136, rX11_searchKnob_139, ne_eq, not_false_eq_true, not_true_eq_false, true_and, and_true, and_self, true_imp_iff, false_imp_iff, imp_self, Bool.not_false, Bool.not_true, reduceCtorEq, ab_isJ, ab_psh, ab_cats, Bool.false_eq_true, if_true, if_false, ab_shf, ab_shw, Int.le_refl, Classical.not_not, Int.zero_add, forall_const, ↓ab_itT, ↓ab_itF, ab_anT, ab_w32_id, ab_rdf_ne, ab_rdw_ne, ab_rdw_eq, ab_rdf_in, ab_td2, ab_tm2]
      exact ih (p + 1) (ac_kp κ v i b p s) τ' (ab_I (κ 6 0)) hs' hT' (by omega) (by omega) hQ)
    simp (disch := omega) only [rX11_searchKnob_55, rX11_searchKnob_56, rX11_searchKnob_59, rX11_searchKnob_62, rX11_searchKnob_65, rX11_searchKnob_66, gS_1, g, h7, sK, e6, ne_eq, not_false_eq_true, not_true_eq_false, true_and, and_true, and_self, true_imp_iff, false_imp_iff, imp_self, Bool.not_false, Bool.not_true, reduceCtorEq, ab_isJ, ab_psh, ab_cats, Bool.false_eq_true, if_true, if_false, ab_shf, ab_shw, Int.le_refl, Classical.not_not, Int.zero_add, forall_const, ↓ab_itT, ↓ab_itF, ab_anT, ab_w32_id, ab_rdf_ne, ab_rdw_ne, ab_rdw_eq, ab_rdf_in, ab_td2, ab_tm2]
    all_goals exact key
theorem cq_kn_b (h : ac_CI σ K κ) (hS : ac_St σ 31 κ v) (hk : ac_KK κ) (hV : ac_VB κ v) (hi : 0 ≤ i ∧ i < κ 9 0) : ∀ (n : Nat) (b : Int) (s : Int × Int) (τ : ab_S) (l7 l8 : ab_V), ab_Same ac_PD σ τ → 0 ≤ b → b + n = κ 5 0 → (∀ τ' l7 l8, ab_Same ac_PD σ τ' → ab_Run X 145 148 (5, 0, 0) [ab_R 1, ab_I i, ab_I as, ab_I (10 * κ 25 i + κ 26 i), ab_I (ab_it (ac_kbn κ v i) n b s).1, ab_I (ab_it (ac_kbn κ v i) n b s).2, ab_I (κ 5 0), l7, l8] [] τ' Q) → ab_Run X 145 32 (5, 0, 0) [ab_R 1, ab_I i, ab_I as, ab_I (10 * κ 25 i + κ 26 i), ab_I s.1, ab_I s.2, ab_I b, l7, l8] [] τ Q := by
  have n5 := h.2.2.2.1.1.2
  have n6 := h.2.2.2.1.2.1
  intro n
  induction n with
  | zero =>
    intro b s τ l7 l8 hs hb hn hQ
    obtain rfl : b = κ 5 0 := by omega
    have hI := ab_Same.ci h hs
    have g := hI.1
    have h7 := hI.2.1
    have hC := hI.2.2.1
    have hv : K = 5 ∨ K = 329 := hC.1
    have sK := (g.kit hC.1).1
    have e5 := hC.2.2.1.1
    have hq' := hQ τ l7 l8 hs
    rw [ab_it] at hq'
    rw [rX11_searchKnob_32]
    simp (disch := omega) only [rX11_searchKnob_34, rX11_searchKnob_35, rX11_searchKnob_38, rX11_searchKnob_41, gS_1, g, h7, sK, e5, ne_eq, not_false_eq_true, not_true_eq_false, true_and, and_true, and_self, true_imp_iff, false_imp_iff, imp_self, Bool.not_false, Bool.not_true, reduceCtorEq, ab_isJ, ab_psh, ab_cats, Bool.false_eq_true, if_true, if_false, ab_shf, ab_shw, Int.le_refl, Classical.not_not, Int.zero_add, forall_const, ↓ab_itT, ↓ab_itF, ab_anT, ab_w32_id, ab_rdf_ne, ab_rdw_ne, ab_rdw_eq, ab_rdf_in, ab_td2, ab_tm2]
    all_goals exact hq'
  | succ n ih =>
    intro b s τ l7 l8 hs hb0 hn hQ
    have hb : ac_isB κ b := ⟨hb0, by omega⟩
    have hI := ab_Same.ci h hs
    have g := hI.1
    have h7 := hI.2.1
    have hC := hI.2.2.1
    have hv : K = 5 ∨ K = 329 := hC.1
    have sK := (g.kit hC.1).1
    have e5 := hC.2.2.1.1
    have S1 := (hS.same (by omega) hs.ofD).1 b hb.1 hb.2
    have c1 := fun Q' => sp_takeNow (X := X) (Q := Q') g h7 hC hk hb (show ab_rd τ 32 b = v b from S1.1) (show ab_rd τ 33 b = v (5 + b) from S1.2.1) (hV.1 b hb.1 hb.2).2
    have sT : ab_Same ac_PD σ (ac_tk τ κ (v b) (v (5 + b))) := hs.trans ((ac_tk_same (σ := τ) (κ := κ) (kd := v b) (d := v (5 + b))).toD (fun f => ac_tk_rd (by omega)))
    have tT : ac_TK (ac_tk τ κ (v b) (v (5 + b))) κ (v b) (v (5 + b)) := ⟨ac_tk_Tk, ac_tk_4, ac_tk_8⟩
    rw [ab_it] at hQ
    rw [rX11_searchKnob_32]
    have key := cq_kn_p (X := X) (Q := Q) (as := as) h hk hV hb hi (κ 6 0).toNat 0 s _ l8 sT tT (by omega) (by omega) (fun τ' l8 hs' => by
      simp (disch := omega) only [rX11_searchKnob_142, rX11_searchKnob_145, ne_eq, not_false_eq_true, not_true_eq_false, true_and, and_true, and_self, true_imp_iff, false_imp_iff, imp_self, Bool.not_false, Bool.not_true, reduceCtorEq, ab_isJ, ab_psh, ab_cats, Bool.false_eq_true, if_true, if_false, ab_shf, ab_shw, Int.le_refl, Classical.not_not, Int.zero_add, forall_const, ↓ab_itT, ↓ab_itF, ab_anT, ab_w32_id, ab_rdf_ne, ab_rdw_ne, ab_rdw_eq, ab_rdf_in, ab_td2, ab_tm2]
      exact ih (b + 1) (ac_kbn κ v i b s) τ' (ab_I (κ 6 0)) l8 hs' (by omega) (by omega) hQ)
    simp (disch := omega) only [rX11_searchKnob_34, rX11_searchKnob_35, rX11_searchKnob_38, rX11_searchKnob_41, rX11_searchKnob_44, rX11_searchKnob_45, rX11_searchKnob_47, rX11_searchKnob_50, rX11_searchKnob_51, gS_1, g, h7, sK, e5, c1, ne_eq, not_false_eq_true, not_true_eq_false, true_and, and_true, and_self, true_imp_iff, false_imp_iff, imp_self, Bool.not_false, Bool.not_true, reduceCtorEq, ab_isJ, ab_psh, ab_cats, Bool.false_eq_true, if_true, if_false, ab_shf, ab_shw, Int.le_refl, Classical.not_not, Int.zero_add, forall_const, ↓ab_itT, ↓ab_itF, ab_anT, ab_w32_id, ab_rdf_ne, ab_rdw_ne, ab_rdw_eq, ab_rdf_in, ab_td2, ab_tm2]
    all_goals exact key
theorem cq_searchKnob (h : ac_CI σ K κ) (hS : ac_St σ 31 κ v) (hk : ac_KK κ) (hV : ac_VB κ v) (hi : 0 ≤ i ∧ i < κ 9 0) (ha : as = 0 ∨ as = 1) (hQ : ∀ τ, ab_Same ac_PD σ τ → Q (some (ab_I (if as = 0 then (ac_kall κ v i).1 else (ac_kall κ v i).2))) τ) : ab_Do X 145 [ab_R 1, ab_I i, ab_I as] σ Q := by
  have n5 := h.2.2.2.1.1
  have n9 := h.2.2.2.1.2.2.2.2.2
  have g := h.1
  have h7 := h.2.1
  have hC := h.2.2.1
  have hv : K = 5 ∨ K = 329 := hC.1
  obtain ⟨s0, s1, s2, s3, s4, p6, p8, p13, p14⟩ := g.kit hC.1
  have ea := hC.2.2.2.2.2 i hi.1 hi.2
  have ea1 := ea.1
  have ea2 := ea.2
  have ib := hk.2.2.1.2.2.2 i hi.1 hi.2
  have key := cq_kn_b (X := X) (Q := Q) (as := as) h hS hk hV hi (κ 5 0).toNat 0 (0, 0) σ (ab_R 0) (ab_R 0) ab_Same.refl (by omega) (by omega) (fun τ' l7 l8 hs' => by
    have hq' := hQ τ' hs'
    rcases ha with rfl | rfl
    · rw [if_pos rfl] at hq'
      simp (disch := omega) only [rX11_searchKnob_148, rX11_searchKnob_149, rX11_searchKnob_152, rX11_searchKnob_154, rX11_searchKnob_157, rX11_searchKnob_159, ne_eq, not_false_eq_true, not_true_eq_false, true_and, and_true, and_self, true_imp_iff, false_imp_iff, imp_self, Bool.not_false, Bool.not_true, reduceCtorEq, ab_isJ, ab_psh, ab_cats, Bool.false_eq_true, if_true, if_false, ab_shf, ab_shw, Int.le_refl, Classical.not_not, Int.zero_add, forall_const, ↓ab_itT, ↓ab_itF, ab_anT, ab_w32_id, ab_rdf_ne, ab_rdw_ne, ab_rdw_eq, ab_rdf_in, ab_td2, ab_tm2]
      all_goals exact hq'
    · rw [if_neg (by decide)] at hq'
      simp (disch := omega) only [rX11_searchKnob_148, rX11_searchKnob_149, rX11_searchKnob_152, rX11_searchKnob_154, rX11_searchKnob_157, rX11_searchKnob_159, ne_eq, not_false_eq_true, not_true_eq_false, true_and, and_true, and_self, true_imp_iff, false_imp_iff, imp_self, Bool.not_false, Bool.not_true, reduceCtorEq, ab_isJ, ab_psh, ab_cats, Bool.false_eq_true, if_true, if_false, ab_shf, ab_shw, Int.le_refl, Classical.not_not, Int.zero_add, forall_const, ↓ab_itT, ↓ab_itF, ab_anT, ab_w32_id, ab_rdf_ne, ab_rdw_ne, ab_rdw_eq, ab_rdf_in, ab_td2, ab_tm2]
      all_goals exact hq')
  simp (disch := omega) only [do_X11_searchKnob, rX11_searchKnob_0, rX11_searchKnob_2, rX11_searchKnob_3, rX11_searchKnob_6, rX11_searchKnob_9, rX11_searchKnob_10, rX11_searchKnob_11, rX11_searchKnob_12, rX11_searchKnob_13, rX11_searchKnob_16, rX11_searchKnob_19, rX11_searchKnob_20, rX11_searchKnob_21, rX11_searchKnob_22, rX11_searchKnob_23, rX11_searchKnob_24, rX11_searchKnob_26, rX11_searchKnob_27, rX11_searchKnob_29, rX11_searchKnob_30, gS_1, g, h7, s0, s3, s4, p13, p14, ea1, ea2, ne_eq, not_false_eq_true, not_true_eq_false, true_and, and_true, and_self, true_imp_iff, false_imp_iff, imp_self, Bool.not_false, Bool.not_true, reduceCtorEq, ab_isJ, ab_psh, ab_cats, Bool.false_eq_true, if_true, if_false, ab_shf, ab_shw, Int.le_refl, Classical.not_not, Int.zero_add, forall_const, ↓ab_itT, ↓ab_itF, ab_anT, ab_w32_id, ab_rdf_ne, ab_rdw_ne, ab_rdw_eq, ab_rdf_in, ab_td2, ab_tm2]
  all_goals exact key
def ac_iT (κ : ac_K) (i : Int) : Int := if 0 ≤ i ∧ i < κ 9 0 then 0 else 1
theorem cq_knob (h : ac_CI σ K κ) (hS : ac_St σ 31 κ v) (hK : κ 5 0 = 0 → κ 9 0 = 0) (hV : ac_VB κ v) (hQ : ∀ τ, ab_Same ac_PC σ τ → ab_rd τ 1 8 = ac_iT κ i → Q (some (ab_I (if ac_iT κ i = 0 then (ac_kall κ v i).1 else -1))) τ) : ab_Do X 110 [ab_R 1, ab_I i] σ Q := by
  have c := fun i Q' => sp_isPiece (X := X) (Q := Q') (b := i) h
  have g := h.1
  by_cases hi : 0 ≤ i ∧ i < κ 9 0
  · have eT : ac_iT κ i = 0 := if_pos hi
    rw [eT, if_pos rfl] at hQ
    have hk : ac_KK κ := by
      rcases h.2.2.2.2 with q | q
      · have := hK q; omega
      · exact q
    simp (disch := omega) only [do_X11_knob, rX11_knob_0, rX11_knob_1, rX11_knob_2, rX11_knob_3, rX11_knob_6, rX11_knob_9, rX11_knob_10, rX11_knob_13, rX11_knob_14, rX11_knob_17, rX11_knob_18, rX11_knob_21, rX11_knob_24, rX11_knob_25, rX11_knob_26, rX11_knob_27, gS_1, g, c, if_pos hi, ne_eq, not_false_eq_true, not_true_eq_false, true_and, and_true, and_self, true_imp_iff, false_imp_iff, imp_self, Bool.not_false, Bool.not_true, reduceCtorEq, ab_isJ, ab_psh, ab_cats, Bool.false_eq_true, if_true, if_false, ab_shf, ab_shw, Int.le_refl, Classical.not_not, Int.zero_add, forall_const, ↓ab_itT, ↓ab_itF, ab_anT, ab_w32_id, ab_rdf_ne, ab_rdw_ne, ab_rdw_eq, ab_rdf_in, ab_td2, ab_tm2]
    refine cq_searchKnob (h.same ac_t8) (hS.same (by omega) ac_t8) hk hV hi (Or.inl rfl) (fun τ hs => ?_)
    have hq' := hQ τ (ac_t8.trans hs.ofD) (by rw [hs.d1, ab_rdw_eq])
    simp (disch := omega) only [rX11_knob_30, rX11_knob_33, rX11_knob_34, ne_eq, not_false_eq_true, not_true_eq_false, true_and, and_true, and_self, true_imp_iff, false_imp_iff, imp_self, Bool.not_false, Bool.not_true, reduceCtorEq, ab_isJ, ab_psh, ab_cats, Bool.false_eq_true, if_true, if_false, ab_shf, ab_shw, Int.le_refl, Classical.not_not, Int.zero_add, forall_const, ↓ab_itT, ↓ab_itF, ab_anT, ab_w32_id, ab_rdf_ne, ab_rdw_ne, ab_rdw_eq, ab_rdf_in, ab_td2, ab_tm2]
    exact hq'
  · have eT : ac_iT κ i = 1 := if_neg hi
    rw [eT, if_neg (by decide)] at hQ
    have hq' := hQ _ ac_cq8.1 ac_cq8.2
    simp (disch := omega) only [do_X11_knob, rX11_knob_0, rX11_knob_1, rX11_knob_2, rX11_knob_3, rX11_knob_6, rX11_knob_9, rX11_knob_10, rX11_knob_13, rX11_knob_14, rX11_knob_17, rX11_knob_18, rX11_knob_21, rX11_knob_24, rX11_knob_25, rX11_knob_26, rX11_knob_27, rX11_knob_30, rX11_knob_33, rX11_knob_34, gS_1, g, c, if_neg hi, ne_eq, not_false_eq_true, not_true_eq_false, true_and, and_true, and_self, true_imp_iff, false_imp_iff, imp_self, Bool.not_false, Bool.not_true, reduceCtorEq, ab_isJ, ab_psh, ab_cats, Bool.false_eq_true, if_true, if_false, ab_shf, ab_shw, Int.le_refl, Classical.not_not, Int.zero_add, forall_const, ↓ab_itT, ↓ab_itF, ab_anT, ab_w32_id, ab_rdf_ne, ab_rdw_ne, ab_rdw_eq, ab_rdf_in, ab_td2, ab_tm2]
    all_goals exact hq'
theorem cq_owners (h : ac_CI σ K κ) (hS : ac_St σ 31 κ v) (hK : κ 5 0 = 0 → κ 9 0 = 0) (hV : ac_VB κ v) (hQ : ∀ τ, ab_Same ac_PC σ τ → ab_rd τ 1 8 = ac_iT κ i → Q (some (ab_I (if ac_iT κ i = 0 then (ac_kall κ v i).2 else -1))) τ) : ab_Do X 111 [ab_R 1, ab_I i] σ Q := by
  have c := fun i Q' => sp_isPiece (X := X) (Q := Q') (b := i) h
  have g := h.1
  by_cases hi : 0 ≤ i ∧ i < κ 9 0
  · have eT : ac_iT κ i = 0 := if_pos hi
    rw [eT, if_pos rfl] at hQ
    have hk : ac_KK κ := by
      rcases h.2.2.2.2 with q | q
      · have := hK q; omega
      · exact q
    simp (disch := omega) only [do_X11_owners, rX11_owners_0, rX11_owners_1, rX11_owners_2, rX11_owners_3, rX11_owners_6, rX11_owners_9, rX11_owners_10, rX11_owners_13, rX11_owners_14, rX11_owners_17, rX11_owners_18, rX11_owners_21, rX11_owners_24, rX11_owners_25, rX11_owners_26, rX11_owners_27, gS_1, g, c, if_pos hi, ne_eq, not_false_eq_true, not_true_eq_false, true_and, and_true, and_self, true_imp_iff, false_imp_iff, imp_self, Bool.not_false, Bool.not_true, reduceCtorEq, ab_isJ, ab_psh, ab_cats, Bool.false_eq_true, if_true, if_false, ab_shf, ab_shw, Int.le_refl, Classical.not_not, Int.zero_add, forall_const, ↓ab_itT, ↓ab_itF, ab_anT, ab_w32_id, ab_rdf_ne, ab_rdw_ne, ab_rdw_eq, ab_rdf_in, ab_td2, ab_tm2]
    refine cq_searchKnob (h.same ac_t8) (hS.same (by omega) ac_t8) hk hV hi (Or.inr rfl) (fun τ hs => ?_)
    have hq' := hQ τ (ac_t8.trans hs.ofD) (by rw [hs.d1, ab_rdw_eq])
    simp (disch := omega) only [rX11_owners_30, rX11_owners_33, rX11_owners_34, ne_eq, not_false_eq_true, not_true_eq_false, true_and, and_true, and_self, true_imp_iff, false_imp_iff, imp_self, Bool.not_false, Bool.not_true, reduceCtorEq, ab_isJ, ab_psh, ab_cats, Bool.false_eq_true, if_true, if_false, ab_shf, ab_shw, Int.le_refl, Classical.not_not, Int.zero_add, forall_const, ↓ab_itT, ↓ab_itF, ab_anT, ab_w32_id, ab_rdf_ne, ab_rdw_ne, ab_rdw_eq, ab_rdf_in, ab_td2, ab_tm2]
    exact hq'
  · have eT : ac_iT κ i = 1 := if_neg hi
    rw [eT, if_neg (by decide)] at hQ
    have hq' := hQ _ ac_cq8.1 ac_cq8.2
    simp (disch := omega) only [do_X11_owners, rX11_owners_0, rX11_owners_1, rX11_owners_2, rX11_owners_3, rX11_owners_6, rX11_owners_9, rX11_owners_10, rX11_owners_13, rX11_owners_14, rX11_owners_17, rX11_owners_18, rX11_owners_21, rX11_owners_24, rX11_owners_25, rX11_owners_26, rX11_owners_27, rX11_owners_30, rX11_owners_33, rX11_owners_34, gS_1, g, c, if_neg hi, ne_eq, not_false_eq_true, not_true_eq_false, true_and, and_true, and_self, true_imp_iff, false_imp_iff, imp_self, Bool.not_false, Bool.not_true, reduceCtorEq, ab_isJ, ab_psh, ab_cats, Bool.false_eq_true, if_true, if_false, ab_shf, ab_shw, Int.le_refl, Classical.not_not, Int.zero_add, forall_const, ↓ab_itT, ↓ab_itF, ab_anT, ab_w32_id, ab_rdf_ne, ab_rdw_ne, ab_rdw_eq, ab_rdf_in, ab_td2, ab_tm2]
    all_goals exact hq'
end
