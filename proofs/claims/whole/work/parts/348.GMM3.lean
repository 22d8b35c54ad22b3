/-! THE GAME: sure, best of the reference -/
theorem ab_it_rel {α β : Type} {f : Int → α → α} {g : Int → β → β} (R : α → β → Prop) : ∀ (n : Nat) (i : Int) (s : α) (t : β), (∀ j s t, i ≤ j → j < i + n → R s t → R (f j s) (g j t)) → R s t → R (ab_it f n i s) (ab_it g n i t)
  | 0, _, _, _, _, h => h
  | n + 1, i, s, t, h, h0 => by
    rw [ab_it, ab_it]
    exact ab_it_rel R n (i + 1) _ _ (fun j s t q1 q2 q3 => h j s t (by omega) (by omega) q3) (h i s t (by omega) (by omega) h0)
section
variable {X : ab_X} {σ τ υ : ab_S} {Q : Option ab_V → ab_S → Prop} {M : Int} {κ : ac_K} {v : Int → Int} {kd d b p hp q hq mv i j as s n arm who x y z lo : Int} {P : Int → Int → Prop}
def ac_lF (κ : ac_K) (kd d b p q x y l : Int) : Int := if l < 0 ∨ ac_GO κ kd d b p q 0 x y < l then ac_GO κ kd d b p q 0 x y else l
def ac_lY (κ : ac_K) (kd d b p q x : Int) : Int → Int → Int := fun y l => if ac_iC κ b 1 q y then ac_lF κ kd d b p q x y l else l
def ac_lX (κ : ac_K) (kd d b p q x : Int) : Int := ab_it (ac_lY κ kd d b p q x) 12 0 (-1)
def ac_sX (κ : ac_K) (kd d b p q : Int) : Int → Int → Int := fun x m => if ac_iC κ b 0 p x then (if m < ac_lX κ kd d b p q x then ac_lX κ kd d b p q x else m) else m
theorem ac_lX_eq (hk : ac_KK κ) (hb : ac_isB κ b) : ac_lX κ kd d b p q x = ac_mn (fun j => ac_GO κ kd d b p q 0 x (ac_cx κ q j)) (ac_cn κ b 1 q) := by
  have n1 := ac_n_b hk hb (Or.inr rfl)
  have b1 := ac_cn_b (who := q) hk hb (Or.inr rfl)
  have e := ac_ch_it (κ := κ) (b := b) (arm := 1) (who := q) n1 (fun y l => ac_lF κ kd d b p q x y l) (-1)
  unfold ac_lX ac_mn
  refine e.trans ?_
  obtain ⟨m, hm⟩ : ∃ m : Nat, (ac_cn κ b 1 q).toNat = m + 1 := ⟨(ac_cn κ b 1 q).toNat - 1, by omega⟩
  rw [hm, ab_it, ab_it]
  have g0 := ac_GO_b (kd := kd) (d := d) (p := p) (q := q) (w := 0) (x := x) (y := ac_cx κ q 0) hk hb
  have e1 : ac_lF κ kd d b p q x (ac_cx κ q 0) (-1) = ac_GO κ kd d b p q 0 x (ac_cx κ q 0) := if_pos (Or.inl (by omega))
  rw [e1, if_pos (show ac_GO κ kd d b p q 0 x (ac_cx κ q 0) < 2147483647 by omega)]
  refine ab_it_congr (fun _ l => 0 ≤ l) _ _ _ (fun j t _ _ ht => ?_) g0.1
  have gj := ac_GO_b (kd := kd) (d := d) (p := p) (q := q) (w := 0) (x := x) (y := ac_cx κ q j) hk hb
  unfold ac_lF
  by_cases w : ac_GO κ kd d b p q 0 x (ac_cx κ q j) < t
  · rw [if_pos (Or.inr w), if_pos w]; exact ⟨rfl, gj.1⟩
  · rw [if_neg (by omega), if_neg w]; exact ⟨rfl, ht⟩
theorem ac_lX_b (hk : ac_KK κ) (hb : ac_isB κ b) : 0 ≤ ac_lX κ kd d b p q x ∧ ac_lX κ kd d b p q x ≤ 2147483647 := by
  rw [ac_lX_eq hk hb]
  exact ac_mn_b (fun k => (ac_GO_b hk hb).1)
theorem ac_sure_eq (hk : ac_KK κ) (hb : ac_isB κ b) : ab_it (ac_sX κ kd d b p q) 12 0 (-1) = ac_sure κ kd d b p q := by
  have n0 := ac_n_b hk hb (Or.inl rfl)
  have b0 := ac_cn_b (who := p) hk hb (Or.inl rfl)
  have e := ac_ch_it (κ := κ) (b := b) (arm := 0) (who := p) n0 (fun x m => if m < ac_lX κ kd d b p q x then ac_lX κ kd d b p q x else m) (-1)
  refine e.trans ?_
  unfold ac_sure ac_mx
  obtain ⟨m, hm⟩ : ∃ m : Nat, (ac_cn κ b 0 p).toNat = m + 1 := ⟨(ac_cn κ b 0 p).toNat - 1, by omega⟩
  have el : ∀ i, ac_lX κ kd d b p q (ac_cx κ p i) = ac_mnl κ kd d b p q i := fun i => ac_lX_eq hk hb
  rw [hm, ab_it, ab_it]
  have l0 := ac_lX_b (kd := kd) (d := d) (p := p) (q := q) (x := ac_cx κ p 0) hk hb
  rw [if_pos (by omega), el]
  rw [el] at l0
  have e2 : (if 0 < ac_mnl κ kd d b p q 0 then ac_mnl κ kd d b p q 0 else 0) = ac_mnl κ kd d b p q 0 := by split <;> omega
  rw [e2]
  refine ab_it_cg _ _ _ (fun j t _ _ => ?_)
  rw [el]
theorem mq_sure_y (h : ac_MI σ M κ) (hb : ac_isB κ b) (hq : ac_isP κ q) (hL : ac_LG σ κ kd d b p q 12 0) (hx : 0 ≤ x ∧ x < 12) (w1 : ac_iC κ b 0 p x) (m : Int) : ∀ (n : Nat) (y l : Int), 0 ≤ y → y + n = 12 → (ab_Run X 236 74 (7, 0, 0) [ab_R 355, ab_I b, ab_I p, ab_I q, ab_I lo, ab_J m, ab_R 0, ab_I x, ab_J l, ab_R 0, ab_I y] [] σ Q ↔ ab_Run X 236 140 (7, 0, 0) [ab_R 355, ab_I b, ab_I p, ab_I q, ab_I lo, ab_J m, ab_R 0, ab_I x, ab_J (ab_it (ac_lY κ kd d b p q x) n y l), ab_R 0, ab_I 12] [] σ Q) := by
  have g := h.1
  intro n
  induction n with
  | zero =>
    intro y l hy hn
    obtain rfl : y = 12 := by omega
    rw [rX13_sure_74, ab_it]
    simp (disch := omega) only [rX13_sure_76, rX13_sure_78, ne_eq, not_false_eq_true, not_true_eq_false, true_and, and_true, and_self, true_imp_iff, false_imp_iff, imp_self, Bool.not_false, Bool.not_true, reduceCtorEq, ab_isJ, ab_psh, ab_cats, Bool.false_eq_true, if_true, if_false, ab_shf, ab_shw, Int.le_refl, Classical.not_not, Int.zero_add, forall_const, ↓ab_itT, ↓ab_itF, ab_anT, ab_w32_id, ab_rdf_ne, ab_rdw_ne, ab_rdw_eq, ab_rdf_in, ab_td2, ab_tm2]
  | succ n ih =>
    intro y l hy hn
    have c2 := fun Q' => mq_isChoice (X := X) (Q := Q') (x := y) h hb (Or.inr rfl) hq (by omega)
    rw [rX13_sure_74, ab_it]
    by_cases w2 : ac_iC κ b 1 q y
    · rw [if_pos w2] at c2
      have xy := (hL x y hx.1 hx.2 hy (by omega) (Or.inl hx.2) w1 w2).1
      have e1 : ac_lY κ kd d b p q x y l = ac_lF κ kd d b p q x y l := if_pos w2
      rw [e1, ← ih (y + 1) _ (by omega) (by omega)]
      unfold ac_lF
      clear ih e1 w1 w2 hL
      by_cases z1 : l < 0
      · rw [if_pos (Or.inl z1)]
        simp (disch := omega) only [rX13_sure_76, rX13_sure_78, rX13_sure_81, rX13_sure_82, rX13_sure_83, rX13_sure_84, rX13_sure_85, rX13_sure_87, rX13_sure_90, rX13_sure_93, rX13_sure_95, rX13_sure_96, rX13_sure_97, rX13_sure_100, rX13_sure_101, rX13_sure_104, rX13_sure_106, rX13_sure_108, rX13_sure_109, rX13_sure_111, rX13_sure_112, rX13_sure_113, rX13_sure_115, rX13_sure_116, rX13_sure_119, rX13_sure_120, rX13_sure_123, rX13_sure_125, rX13_sure_127, rX13_sure_128, rX13_sure_130, rX13_sure_131, rX13_sure_132, rX13_sure_134, rX13_sure_137, gS_355, gP_355_30, gS_363, g, c2, xy, ne_eq, not_false_eq_true, not_true_eq_false, true_and, and_true, and_self, true_imp_iff, false_imp_iff, imp_self, Bool.not_false, Bool.not_true, reduceCtorEq, ab_isJ, ab_psh, ab_cats, Bool.false_eq_true, if_true, if_false, ab_shf, ab_shw, Int.le_refl, Classical.not_not, Int.zero_add, forall_const, ↓ab_itT, ↓ab_itF, ab_anT, ab_w32_id, ab_rdf_ne, ab_rdw_ne, ab_rdw_eq, ab_rdf_in, ab_td2, ab_tm2, ab_ifF]
      · have lc : ¬ (if 0 < l then (1 : Int) else if l = 0 then 0 else -1) < 0 := by
          split
          · omega
          · rw [if_pos (by omega)]; omega
        by_cases z2 : ac_GO κ kd d b p q 0 x y < l
        · rw [if_pos (Or.inr z2)]
          have lc2 : ¬ 0 ≤ (if l < ac_GO κ kd d b p q 0 x y then (1 : Int) else if ac_GO κ kd d b p q 0 x y = l then 0 else -1) := by
            rw [if_neg (by omega), if_neg (by omega)]; omega
          simp (disch := omega) only [rX13_sure_76, rX13_sure_78, rX13_sure_81, rX13_sure_82, rX13_sure_83, rX13_sure_84, rX13_sure_85, rX13_sure_87, rX13_sure_90, rX13_sure_93, rX13_sure_95, rX13_sure_96, rX13_sure_97, rX13_sure_100, rX13_sure_101, rX13_sure_104, rX13_sure_106, rX13_sure_108, rX13_sure_109, rX13_sure_111, rX13_sure_112, rX13_sure_113, rX13_sure_115, rX13_sure_116, rX13_sure_119, rX13_sure_120, rX13_sure_123, rX13_sure_125, rX13_sure_127, rX13_sure_128, rX13_sure_130, rX13_sure_131, rX13_sure_132, rX13_sure_134, rX13_sure_137, gS_355, gP_355_30, gS_363, g, c2, xy, ne_eq, not_false_eq_true, not_true_eq_false, true_and, and_true, and_self, true_imp_iff, false_imp_iff, imp_self, Bool.not_false, Bool.not_true, reduceCtorEq, ab_isJ, ab_psh, ab_cats, Bool.false_eq_true, if_true, if_false, ab_shf, ab_shw, Int.le_refl, Classical.not_not, Int.zero_add, forall_const, ↓ab_itT, ↓ab_itF, ab_anT, ab_w32_id, ab_rdf_ne, ab_rdw_ne, ab_rdw_eq, ab_rdf_in, ab_td2, ab_tm2]
        · rw [if_neg (by omega)]
          have lc2 : 0 ≤ (if l < ac_GO κ kd d b p q 0 x y then (1 : Int) else if ac_GO κ kd d b p q 0 x y = l then 0 else -1) := by
            split
            · omega
            · rw [if_pos (by omega)]; omega
          simp (disch := omega) only [rX13_sure_76, rX13_sure_78, rX13_sure_81, rX13_sure_82, rX13_sure_83, rX13_sure_84, rX13_sure_85, rX13_sure_87, rX13_sure_90, rX13_sure_93, rX13_sure_95, rX13_sure_96, rX13_sure_97, rX13_sure_100, rX13_sure_101, rX13_sure_104, rX13_sure_106, rX13_sure_108, rX13_sure_109, rX13_sure_111, rX13_sure_112, rX13_sure_113, rX13_sure_115, rX13_sure_116, rX13_sure_119, rX13_sure_120, rX13_sure_123, rX13_sure_125, rX13_sure_127, rX13_sure_128, rX13_sure_130, rX13_sure_131, rX13_sure_132, rX13_sure_134, rX13_sure_137, gS_355, gP_355_30, gS_363, g, c2, xy, ne_eq, not_false_eq_true, not_true_eq_false, true_and, and_true, and_self, true_imp_iff, false_imp_iff, imp_self, Bool.not_false, Bool.not_true, reduceCtorEq, ab_isJ, ab_psh, ab_cats, Bool.false_eq_true, if_true, if_false, ab_shf, ab_shw, Int.le_refl, Classical.not_not, Int.zero_add, forall_const, ↓ab_itT, ↓ab_itF, ab_anT, ab_w32_id, ab_rdf_ne, ab_rdw_ne, ab_rdw_eq, ab_rdf_in, ab_td2, ab_tm2]
    · rw [if_neg w2] at c2
      have e1 : ac_lY κ kd d b p q x y l = l := if_neg w2
      rw [e1, ← ih (y + 1) _ (by omega) (by omega)]
      clear ih e1 w1 w2 hL
      simp (disch := omega) only [rX13_sure_76, rX13_sure_78, rX13_sure_81, rX13_sure_82, rX13_sure_83, rX13_sure_84, rX13_sure_85, rX13_sure_87, rX13_sure_90, rX13_sure_134, rX13_sure_137, gS_355, g, c2, ne_eq, not_false_eq_true, not_true_eq_false, true_and, and_true, and_self, true_imp_iff, false_imp_iff, imp_self, Bool.not_false, Bool.not_true, reduceCtorEq, ab_isJ, ab_psh, ab_cats, Bool.false_eq_true, if_true, if_false, ab_shf, ab_shw, Int.le_refl, Classical.not_not, Int.zero_add, forall_const, ↓ab_itT, ↓ab_itF, ab_anT, ab_w32_id, ab_rdf_ne, ab_rdw_ne, ab_rdw_eq, ab_rdf_in, ab_td2, ab_tm2]
theorem mq_sure_x (h : ac_MI σ M κ) (hb : ac_isB κ b) (hp : ac_isP κ p) (hq : ac_isP κ q) (hL : ac_LG σ κ kd d b p q 12 0) : ∀ (n : Nat) (x m : Int) (l8 l9 l10 : ab_V), 0 ≤ x → x + n = 12 → (ab_Run X 236 163 (7, 0, 0) [ab_R 355, ab_I b, ab_I p, ab_I q, ab_I lo, ab_J (ab_it (ac_sX κ kd d b p q) n x m), ab_R 0, ab_I 12, l8, l9, l10] [] σ Q → ∀ l8 l9 l10, ab_Run X 236 163 (7, 0, 0) [ab_R 355, ab_I b, ab_I p, ab_I q, ab_I lo, ab_J (ab_it (ac_sX κ kd d b p q) n x m), ab_R 0, ab_I 12, l8, l9, l10] [] σ Q) → ab_Run X 236 163 (7, 0, 0) [ab_R 355, ab_I b, ab_I p, ab_I q, ab_I lo, ab_J (ab_it (ac_sX κ kd d b p q) n x m), ab_R 0, ab_I 12, l8, l9, l10] [] σ Q → ∀ l8 l9 l10, ab_Run X 236 44 (7, 0, 0) [ab_R 355, ab_I b, ab_I p, ab_I q, ab_I lo, ab_J m, ab_R 0, ab_I x, l8, l9, l10] [] σ Q := by
  have g := h.1
  intro n
  induction n with
  | zero =>
    intro x m l8 l9 l10 hx hn hA hB l8' l9' l10'
    obtain rfl : x = 12 := by omega
    have := hA hB l8' l9' l10'
    rw [ab_it] at this
    rw [rX13_sure_44]
    simp (disch := omega) only [rX13_sure_46, rX13_sure_48, ne_eq, not_false_eq_true, not_true_eq_false, true_and, and_true, and_self, true_imp_iff, false_imp_iff, imp_self, Bool.not_false, Bool.not_true, reduceCtorEq, ab_isJ, ab_psh, ab_cats, Bool.false_eq_true, if_true, if_false, ab_shf, ab_shw, Int.le_refl, Classical.not_not, Int.zero_add, forall_const, ↓ab_itT, ↓ab_itF, ab_anT, ab_w32_id, ab_rdf_ne, ab_rdw_ne, ab_rdw_eq, ab_rdf_in, ab_td2, ab_tm2]
    all_goals exact this
  | succ n ih =>
    intro x m l8 l9 l10 hx hn hA hB l8' l9' l10'
    have c1 := fun Q' => mq_isChoice (X := X) (Q := Q') (x := x) h hb (Or.inl rfl) hp (by omega)
    rw [ab_it] at hA hB
    rw [rX13_sure_44]
    by_cases w1 : ac_iC κ b 0 p x
    · rw [if_pos w1] at c1
      have e1 : ac_sX κ kd d b p q x m = if m < ac_lX κ kd d b p q x then ac_lX κ kd d b p q x else m := if_pos w1
      rw [e1] at hA hB
      have key := ih (x + 1) _ l8 l9 l10 (by omega) (by omega) hA hB (ab_J (ac_lX κ kd d b p q x)) (ab_R 0) (ab_I 12)
      have Y := mq_sure_y (X := X) (Q := Q) (lo := lo) (x := x) h hb hq hL (by omega) w1 m 12 0 (-1) (by omega) (by omega)
      rw [show ab_it (ac_lY κ kd d b p q x) 12 0 (-1) = ac_lX κ kd d b p q x from rfl] at Y
      have k2 : ab_Run X 236 140 (7, 0, 0) [ab_R 355, ab_I b, ab_I p, ab_I q, ab_I lo, ab_J m, ab_R 0, ab_I x, ab_J (ac_lX κ kd d b p q x), ab_R 0, ab_I 12] [] σ Q := by
        clear ih hA hB Y
        by_cases z : m < ac_lX κ kd d b p q x
        · rw [if_pos z] at key
          simp (disch := omega) only [rX13_sure_140, rX13_sure_142, rX13_sure_144, rX13_sure_145, rX13_sure_148, rX13_sure_150, rX13_sure_153, rX13_sure_155, rX13_sure_157, rX13_sure_160, ne_eq, not_false_eq_true, not_true_eq_false, true_and, and_true, and_self, true_imp_iff, false_imp_iff, imp_self, Bool.not_false, Bool.not_true, reduceCtorEq, ab_isJ, ab_psh, ab_cats, Bool.false_eq_true, if_true, if_false, ab_shf, ab_shw, Int.le_refl, Classical.not_not, Int.zero_add, forall_const, ↓ab_itT, ↓ab_itF, ab_anT, ab_w32_id, ab_rdf_ne, ab_rdw_ne, ab_rdw_eq, ab_rdf_in, ab_td2, ab_tm2, ab_ifT]
          all_goals exact key
        · rw [if_neg z] at key
          have lc : (if m < ac_lX κ kd d b p q x then (1 : Int) else if ac_lX κ kd d b p q x = m then 0 else -1) ≤ 0 := by
            rw [if_neg z]; split <;> omega
          simp (disch := omega) only [rX13_sure_140, rX13_sure_142, rX13_sure_144, rX13_sure_145, rX13_sure_148, rX13_sure_150, rX13_sure_153, rX13_sure_155, rX13_sure_157, rX13_sure_160, ne_eq, not_false_eq_true, not_true_eq_false, true_and, and_true, and_self, true_imp_iff, false_imp_iff, imp_self, Bool.not_false, Bool.not_true, reduceCtorEq, ab_isJ, ab_psh, ab_cats, Bool.false_eq_true, if_true, if_false, ab_shf, ab_shw, Int.le_refl, Classical.not_not, Int.zero_add, forall_const, ↓ab_itT, ↓ab_itF, ab_anT, ab_w32_id, ab_rdf_ne, ab_rdw_ne, ab_rdw_eq, ab_rdf_in, ab_td2, ab_tm2]
          all_goals exact key
      have k3 := Y.mpr k2
      clear ih hA hB Y key k2
      simp (disch := omega) only [rX13_sure_46, rX13_sure_48, rX13_sure_51, rX13_sure_52, rX13_sure_53, rX13_sure_54, rX13_sure_55, rX13_sure_57, rX13_sure_60, rX13_sure_63, rX13_sure_66, rX13_sure_69, rX13_sure_71, rX13_sure_72, gS_355, g, c1, ne_eq, not_false_eq_true, not_true_eq_false, true_and, and_true, and_self, true_imp_iff, false_imp_iff, imp_self, Bool.not_false, Bool.not_true, reduceCtorEq, ab_isJ, ab_psh, ab_cats, Bool.false_eq_true, if_true, if_false, ab_shf, ab_shw, Int.le_refl, Classical.not_not, Int.zero_add, forall_const, ↓ab_itT, ↓ab_itF, ab_anT, ab_w32_id, ab_rdf_ne, ab_rdw_ne, ab_rdw_eq, ab_rdf_in, ab_td2, ab_tm2]
      all_goals exact k3
    · rw [if_neg w1] at c1
      have e1 : ac_sX κ kd d b p q x m = m := if_neg w1
      rw [e1] at hA hB
      have key := ih (x + 1) m l8 l9 l10 (by omega) (by omega) hA hB l8' l9' l10'
      clear ih hA hB
      simp (disch := omega) only [rX13_sure_46, rX13_sure_48, rX13_sure_51, rX13_sure_52, rX13_sure_53, rX13_sure_54, rX13_sure_55, rX13_sure_57, rX13_sure_60, rX13_sure_63, rX13_sure_157, rX13_sure_160, gS_355, g, c1, ne_eq, not_false_eq_true, not_true_eq_false, true_and, and_true, and_self, true_imp_iff, false_imp_iff, imp_self, Bool.not_false, Bool.not_true, reduceCtorEq, ab_isJ, ab_psh, ab_cats, Bool.false_eq_true, if_true, if_false, ab_shf, ab_shw, Int.le_refl, Classical.not_not, Int.zero_add, forall_const, ↓ab_itT, ↓ab_itF, ab_anT, ab_w32_id, ab_rdf_ne, ab_rdw_ne, ab_rdw_eq, ab_rdf_in, ab_td2, ab_tm2]
      all_goals exact key
theorem mq_sure (h : ac_MN σ κ) (hv : ac_MV σ κ v) (hlo : lo = 0 ∨ lo = 1) (hQ : ∀ τ, ab_Same ac_PM σ τ → ab_rd τ 355 1 = ac_pT κ b p q → ab_rd τ 355 2 = -1 → Q (some (ab_J (if ac_pT κ b p q = 0 then ac_pt (ac_sure κ (v b) (v (5 + b)) b p q) (100 * (ac_n κ b 0 + ac_n κ b 1)) lo else -1))) τ) : ab_Do X 236 [ab_R 355, ab_I b, ab_I p, ab_I q, ab_I lo] σ Q := by
  have h' := h.same ac_mq0
  have g0 := h.1
  have g := h'.1
  have c1 := fun b Q' => mq_isBone (X := X) (Q := Q') (b := b) h'
  have c2 := fun p q Q' => mq_isPair (X := X) (Q := Q') (p := p) (q := q) h'
  have c1p := fun b Q' => mq_isPerson (X := X) (Q := Q') (b := b) h'
  have cl := fun b arm k Q' => mq_isPlace (X := X) (Q := Q') (b := b) (arm := arm) (k := k) h'
  have cin := fun x lo hi Q' => mq_in (X := X) (σ := ab_wr σ 355 0 0) (Q := Q') (x := x) (lo := lo) (hi := hi)
  have cr := fun v Q' => sp_refused (X := X) (Q := Q') (v := v) g
  have c0 := fun b hp hq mv Q' => mq_rp0 (X := X) (σ := ab_wr σ 355 0 0) (Q := Q') (b := b) (hp := hp) (hq := hq) (mv := mv)
  by_cases h1 : ac_isB κ b
  · by_cases h1u : ac_isU κ p q
    · have eP : ac_pT κ b p q = 0 := if_pos ⟨h1, h1u⟩
      obtain ⟨M, hm⟩ := h.mb h1
      have hk := hm.2.2.2.2
      rw [eP, if_pos rfl] at hQ
      simp (disch := omega) only [do_X13_sure, rX13_sure_0, rX13_sure_1, rX13_sure_2, rX13_sure_5, rX13_sure_6, rX13_sure_7, rX13_sure_10, rX13_sure_13, rX13_sure_14, rX13_sure_15, rX13_sure_16, rX13_sure_19, rX13_sure_22, rX13_sure_23, rX13_sure_24, rX13_sure_27, rX13_sure_28, rX13_sure_29, rX13_sure_30, rX13_sure_31, rX13_sure_32, rX13_sure_33, gS_355, g0, c1, c2, if_pos h1, if_pos h1u, ne_eq, not_false_eq_true, not_true_eq_false, true_and, and_true, and_self, true_imp_iff, false_imp_iff, imp_self, Bool.not_false, Bool.not_true, reduceCtorEq, ab_isJ, ab_psh, ab_cats, Bool.false_eq_true, if_true, if_false, ab_shf, ab_shw, Int.le_refl, Classical.not_not, Int.zero_add, forall_const, ↓ab_itT, ↓ab_itF, ab_anT, ab_w32_id, ab_rdf_ne, ab_rdw_ne, ab_rdw_eq, ab_rdf_in, ab_td2, ab_tm2]
      refine mq_laysGame (hm.same ac_mq0) (hv.same ac_mq0) h1 h1u.1 h1u.2.1 (fun τ hs hL => ?_)
      have sT := ac_mq0.trans hs
      have hI := hm.same sT
      have gT := hI.1
      have h3 := hI.2.1
      have sM := hI.2.2.1.2.1
      have zM := hI.2.2.1.1
      have c7 := fun Q' => mq_many (X := X) (Q := Q') (arm := 0) hI h1 (Or.inl rfl)
      have c8 := fun Q' => mq_many (X := X) (Q := Q') (arm := 1) hI h1 (Or.inr rfl)
      have n0 := ac_n_b hk h1 (Or.inl rfl)
      have n1 := ac_n_b hk h1 (Or.inr rfl)
      have e0 : κ 14 (2 * b + 0) = ac_n κ b 0 := rfl
      have e1 : κ 14 (2 * b + 1) = ac_n κ b 1 := rfl
      rw [e0] at c7
      rw [e1] at c8
      have sb1 : 0 ≤ ac_sure κ (v b) (v (5 + b)) b p q := ac_mx_nn
      have sb2 : ac_sure κ (v b) (v (5 + b)) b p q ≤ 2147483647 := ac_mx_le (by omega) (fun k _ _ => (ac_mn_b (fun j => (ac_GO_b hk h1).1)).2)
      have c9 := fun Q' => sp_fraction (X := X) (Q := Q') (up := ac_sure κ (v b) (v (5 + b)) b p q) (low := 100 * (ac_n κ b 0 + ac_n κ b 1)) (lo := lo) gT (by omega) (by omega) hlo
      have k2 := hQ _ (ac_end1 sT).1 (ac_end1 sT).2.1 (ac_end1 sT).2.2
      have k3 : ∀ l8 l9 l10, ab_Run X 236 163 (7, 0, 0) [ab_R 355, ab_I b, ab_I p, ab_I q, ab_I lo, ab_J (ac_sure κ (v b) (v (5 + b)) b p q), ab_R 0, ab_I 12, l8, l9, l10] [] τ Q := by
        intro l8 l9 l10
        clear hL hQ
        simp (disch := omega) only [rX13_sure_163, rX13_sure_164, rX13_sure_166, rX13_sure_169, rX13_sure_170, rX13_sure_173, rX13_sure_174, rX13_sure_175, rX13_sure_178, rX13_sure_179, rX13_sure_182, rX13_sure_183, rX13_sure_184, rX13_sure_187, rX13_sure_188, rX13_sure_189, rX13_sure_190, rX13_sure_192, rX13_sure_195, gS_355, gT, h3, sM, c7, c8, c9, ne_eq, not_false_eq_true, not_true_eq_false, true_and, and_true, and_self, true_imp_iff, false_imp_iff, imp_self, Bool.not_false, Bool.not_true, reduceCtorEq, ab_isJ, ab_psh, ab_cats, Bool.false_eq_true, if_true, if_false, ab_shf, ab_shw, Int.le_refl, Classical.not_not, Int.zero_add, forall_const, ↓ab_itT, ↓ab_itF, ab_anT, ab_w32_id, ab_rdf_ne, ab_rdw_ne, ab_rdw_eq, ab_rdf_in, ab_td2, ab_tm2, ab_w64_id]
        exact k2
      rw [← ac_sure_eq hk h1] at k3
      have k4 := mq_sure_x (X := X) (Q := Q) (lo := lo) hI h1 h1u.1 h1u.2.1 hL 12 0 (-1) (ab_R 0) (ab_R 0) (ab_R 0) (by omega) (by omega) (fun _ => k3) (k3 _ _ _) (ab_R 0) (ab_R 0) (ab_R 0)
      simp (disch := omega) only [rX13_sure_36, rX13_sure_39, rX13_sure_41, rX13_sure_42, ne_eq, not_false_eq_true, not_true_eq_false, true_and, and_true, and_self, true_imp_iff, false_imp_iff, imp_self, Bool.not_false, Bool.not_true, reduceCtorEq, ab_isJ, ab_psh, ab_cats, Bool.false_eq_true, if_true, if_false, ab_shf, ab_shw, Int.le_refl, Classical.not_not, Int.zero_add, forall_const, ↓ab_itT, ↓ab_itF, ab_anT, ab_w32_id, ab_rdf_ne, ab_rdw_ne, ab_rdw_eq, ab_rdf_in, ab_td2, ab_tm2]
      exact k4
    · have eT : ac_pT κ b p q = 1 := by (unfold ac_pT; rw [if_neg (fun w => h1u w.2)])
      rw [eT, if_neg (by decide)] at hQ
      simp (disch := omega) only [do_X13_sure, rX13_sure_0, rX13_sure_1, rX13_sure_2, rX13_sure_5, rX13_sure_6, rX13_sure_7, rX13_sure_10, rX13_sure_13, rX13_sure_14, rX13_sure_15, rX13_sure_16, rX13_sure_19, rX13_sure_22, rX13_sure_23, rX13_sure_24, rX13_sure_27, rX13_sure_28, rX13_sure_29, rX13_sure_30, rX13_sure_31, rX13_sure_32, rX13_sure_33, rX13_sure_36, rX13_sure_39, rX13_sure_41, rX13_sure_42, rX13_sure_44, rX13_sure_46, rX13_sure_48, rX13_sure_51, rX13_sure_52, rX13_sure_53, rX13_sure_54, rX13_sure_55, rX13_sure_57, rX13_sure_60, rX13_sure_63, rX13_sure_66, rX13_sure_69, rX13_sure_71, rX13_sure_72, rX13_sure_74, rX13_sure_76, rX13_sure_78, rX13_sure_81, rX13_sure_82, rX13_sure_83, rX13_sure_84, rX13_sure_85, rX13_sure_87, rX13_sure_90, rX13_sure_93, rX13_sure_95, rX13_sure_96, rX13_sure_97, rX13_sure_100, rX13_sure_101, rX13_sure_104, rX13_sure_106, rX13_sure_108, rX13_sure_109, rX13_sure_111, rX13_sure_112, rX13_sure_113, rX13_sure_115, rX13_sure_116, rX13_sure_119, rX13_sure_120, rX13_sure_123, rX13_sure_125, rX13_sure_127, rX13_sure_128, rX13_sure_130, rX13_sure_131, rX13_sure_132, rX13_sure_134, rX13_sure_137, rX13_sure_140, rX13_sure_142, rX13_sure_144, rX13_sure_145, rX13_sure_148, rX13_sure_150, rX13_sure_153, rX13_sure_155, rX13_sure_157, rX13_sure_160, rX13_sure_163, rX13_sure_164, rX13_sure_166, rX13_sure_169, rX13_sure_170, rX13_sure_173, rX13_sure_174, rX13_sure_175, rX13_sure_178, rX13_sure_179, rX13_sure_182, rX13_sure_183, rX13_sure_184, rX13_sure_187, rX13_sure_188, rX13_sure_189, rX13_sure_190, rX13_sure_192, rX13_sure_195, gS_355, g0, c1, c2, cl, cin, c0, cr, if_pos h1, if_neg h1u, ne_eq, not_false_eq_true, not_true_eq_false, true_and, and_true, and_self, true_imp_iff, false_imp_iff, imp_self, Bool.not_false, Bool.not_true, reduceCtorEq, ab_isJ, ab_psh, ab_cats, Bool.false_eq_true, if_true, if_false, ab_shf, ab_shw, Int.le_refl, Classical.not_not, Int.zero_add, forall_const, ↓ab_itT, ↓ab_itF, ab_anT, ab_w32_id, ab_rdf_ne, ab_rdw_ne, ab_rdw_eq, ab_rdf_in, ab_td2, ab_tm2, ab_ifF]
      exact hQ _ (ac_end1 ac_mq0).1 (ac_end1 ac_mq0).2.1 (ac_end1 ac_mq0).2.2
  · have eT : ac_pT κ b p q = 1 := by (unfold ac_pT; rw [if_neg (fun w => h1 w.1)])
    rw [eT, if_neg (by decide)] at hQ
    simp (disch := omega) only [do_X13_sure, rX13_sure_0, rX13_sure_1, rX13_sure_2, rX13_sure_5, rX13_sure_6, rX13_sure_7, rX13_sure_10, rX13_sure_13, rX13_sure_14, rX13_sure_15, rX13_sure_16, rX13_sure_19, rX13_sure_22, rX13_sure_23, rX13_sure_24, rX13_sure_27, rX13_sure_28, rX13_sure_29, rX13_sure_30, rX13_sure_31, rX13_sure_32, rX13_sure_33, rX13_sure_36, rX13_sure_39, rX13_sure_41, rX13_sure_42, rX13_sure_44, rX13_sure_46, rX13_sure_48, rX13_sure_51, rX13_sure_52, rX13_sure_53, rX13_sure_54, rX13_sure_55, rX13_sure_57, rX13_sure_60, rX13_sure_63, rX13_sure_66, rX13_sure_69, rX13_sure_71, rX13_sure_72, rX13_sure_74, rX13_sure_76, rX13_sure_78, rX13_sure_81, rX13_sure_82, rX13_sure_83, rX13_sure_84, rX13_sure_85, rX13_sure_87, rX13_sure_90, rX13_sure_93, rX13_sure_95, rX13_sure_96, rX13_sure_97, rX13_sure_100, rX13_sure_101, rX13_sure_104, rX13_sure_106, rX13_sure_108, rX13_sure_109, rX13_sure_111, rX13_sure_112, rX13_sure_113, rX13_sure_115, rX13_sure_116, rX13_sure_119, rX13_sure_120, rX13_sure_123, rX13_sure_125, rX13_sure_127, rX13_sure_128, rX13_sure_130, rX13_sure_131, rX13_sure_132, rX13_sure_134, rX13_sure_137, rX13_sure_140, rX13_sure_142, rX13_sure_144, rX13_sure_145, rX13_sure_148, rX13_sure_150, rX13_sure_153, rX13_sure_155, rX13_sure_157, rX13_sure_160, rX13_sure_163, rX13_sure_164, rX13_sure_166, rX13_sure_169, rX13_sure_170, rX13_sure_173, rX13_sure_174, rX13_sure_175, rX13_sure_178, rX13_sure_179, rX13_sure_182, rX13_sure_183, rX13_sure_184, rX13_sure_187, rX13_sure_188, rX13_sure_189, rX13_sure_190, rX13_sure_192, rX13_sure_195, gS_355, g0, c1, c2, cl, cin, c0, cr, if_neg h1, ne_eq, not_false_eq_true, not_true_eq_false, true_and, and_true, and_self, true_imp_iff, false_imp_iff, imp_self, Bool.not_false, Bool.not_true, reduceCtorEq, ab_isJ, ab_psh, ab_cats, Bool.false_eq_true, if_true, if_false, ab_shf, ab_shw, Int.le_refl, Classical.not_not, Int.zero_add, forall_const, ↓ab_itT, ↓ab_itF, ab_anT, ab_w32_id, ab_rdf_ne, ab_rdw_ne, ab_rdw_eq, ab_rdf_in, ab_td2, ab_tm2, ab_ifF]
    exact hQ _ (ac_end1 ac_mq0).1 (ac_end1 ac_mq0).2.1 (ac_end1 ac_mq0).2.2
def ac_bX (κ : ac_K) (kd d b p q hq : Int) (x : Int) (s : Int × Int) : Int × Int := if s.1 = -1 ∨ s.2 < ac_bF κ kd d b p q hq x then (x, ac_bF κ kd d b p q hq x) else s
def ac_bY (κ : ac_K) (kd d b p q hq : Int) : Int → Int × Int → Int × Int := fun x s => if ac_iC κ b 0 p x then ac_bX κ kd d b p q hq x s else s
theorem ac_bF_b (hk : ac_KK κ) (hb : ac_isB κ b) : 0 ≤ ac_bF κ kd d b p q hq x ∧ ac_bF κ kd d b p q hq x ≤ 3000 := ac_O_b hk hb
theorem ac_best_eq (hk : ac_KK κ) (hb : ac_isB κ b) : (0 ≤ (ab_it (ac_bY κ kd d b p q hq) 12 0 (-1, 0)).1 ∧ (ab_it (ac_bY κ kd d b p q hq) 12 0 (-1, 0)).1 < 12) ∧ ac_td (ab_it (ac_bY κ kd d b p q hq) 12 0 (-1, 0)).1 = ac_best κ kd d b p q hq := by
  have n0 := ac_n_b hk hb (Or.inl rfl)
  have b0 := ac_cn_b (who := p) hk hb (Or.inl rfl)
  have e := ac_ch_it (κ := κ) (b := b) (arm := 0) (who := p) n0 (fun x s => ac_bX κ kd d b p q hq x s) (-1, 0)
  have e' : ab_it (ac_bY κ kd d b p q hq) 12 0 (-1, 0) = ab_it (fun i s => ac_bX κ kd d b p q hq (ac_cx κ p i) s) (ac_cn κ b 0 p).toNat 0 (-1, 0) := e
  rw [e']
  unfold ac_best
  obtain ⟨m, hm⟩ : ∃ m : Nat, (ac_cn κ b 0 p).toNat = m + 1 := ⟨(ac_cn κ b 0 p).toNat - 1, by omega⟩
  rw [hm, ab_it, ab_it]
  have cb : ∀ j, 0 ≤ j → j < ac_cn κ b 0 p → 0 ≤ ac_cx κ p j ∧ ac_cx κ p j < 12 := fun j h1 h2 => by
    have := ac_cx_iC (κ := κ) (b := b) (arm := 0) (who := p) ⟨h1, h2⟩
    have := this.1.1
    omega
  have f0 := ac_bF_b (kd := kd) (d := d) (p := p) (q := q) (hq := hq) (x := ac_cx κ p 0) hk hb
  have z1 : ac_bX κ kd d b p q hq (ac_cx κ p 0) (-1, 0) = (ac_cx κ p 0, ac_bF κ kd d b p q hq (ac_cx κ p 0)) := if_pos (Or.inl rfl)
  have z2 : ac_bs κ kd d b p q hq (ac_cx κ p 0) (0, -1) = (10 * (ac_cx κ p 0 / 2 + 1) + ac_cx κ p 0 % 2, ac_bF κ kd d b p q hq (ac_cx κ p 0)) := if_pos (by dsimp only; omega)
  rw [z1, z2]
  have key := ab_it_rel (f := fun i s => ac_bX κ kd d b p q hq (ac_cx κ p i) s) (g := fun i s => ac_bs κ kd d b p q hq (ac_cx κ p i) s) (fun (s t : Int × Int) => (0 ≤ s.1 ∧ s.1 < 12) ∧ ac_td s.1 = t.1 ∧ s.2 = t.2) m (0 + 1) (ac_cx κ p 0, ac_bF κ kd d b p q hq (ac_cx κ p 0)) (10 * (ac_cx κ p 0 / 2 + 1) + ac_cx κ p 0 % 2, ac_bF κ kd d b p q hq (ac_cx κ p 0)) ?_ ⟨cb 0 (by omega) (by omega), rfl, rfl⟩
  · exact ⟨key.1, key.2.1⟩
  intro j s t q1 q2 q3
  obtain ⟨a1, a2, a3⟩ := q3
  unfold ac_bX ac_bs
  by_cases w : s.2 < ac_bF κ kd d b p q hq (ac_cx κ p j)
  · rw [if_pos (Or.inr w), if_pos (by rw [← a3]; exact w)]
    exact ⟨cb j (by omega) (by omega), rfl, rfl⟩
  · rw [if_neg (by omega), if_neg (by rw [← a3]; exact w)]
    exact ⟨a1, a2, a3⟩
theorem mq_best_l (h : ac_MI σ M κ) (hv : ac_MV σ κ v) (hb : ac_isB κ b) (hp : ac_isP κ p) (hq1 : ac_isP κ q) (hh : 1 ≤ hq ∧ hq ≤ 6) (fin : Int × Int) (hQ : ∀ τ l9 l10, ab_Same ac_PM σ τ → ab_Run X 232 149 (6, 0, 0) [ab_R 355, ab_I b, ab_I p, ab_I q, ab_I hq, ab_I fin.1, ab_J fin.2, ab_R 0, ab_I 12, l9, l10] [] τ Q) : ∀ (n : Nat) (x : Int) (s : Int × Int) (τ : ab_S) (l9 l10 : ab_V), ab_Same ac_PM σ τ → 0 ≤ x → x + n = 12 → ab_it (ac_bY κ (v b) (v (5 + b)) b p q hq) n x s = fin → ab_Run X 232 61 (6, 0, 0) [ab_R 355, ab_I b, ab_I p, ab_I q, ab_I hq, ab_I s.1, ab_J s.2, ab_R 0, ab_I x, l9, l10] [] τ Q := by
  have n5 := h.2.2.2.2.2.1.1.2
  have n0 := ac_n_b h.2.2.2.2 hb (Or.inl rfl)
  have hd := (hv.2.1 b hb.1 hb.2)
  intro n
  induction n with
  | zero =>
    intro x s τ l9 l10 hs hx hn hf
    obtain rfl : x = 12 := by omega
    rw [ab_it] at hf
    subst hf
    have := hQ τ l9 l10 hs
    rw [rX13_best_61]
    simp (disch := omega) only [rX13_best_63, rX13_best_65, ne_eq, not_false_eq_true, not_true_eq_false, true_and, and_true, and_self, true_imp_iff, false_imp_iff, imp_self, Bool.not_false, Bool.not_true, reduceCtorEq, ab_isJ, ab_psh, ab_cats, Bool.false_eq_true, if_true, if_false, ab_shf, ab_shw, Int.le_refl, Classical.not_not, Int.zero_add, forall_const, ↓ab_itT, ↓ab_itF, ab_anT, ab_w32_id, ab_rdf_ne, ab_rdw_ne, ab_rdw_eq, ab_rdf_in, ab_td2, ab_tm2]
    all_goals exact this
  | succ n ih =>
    intro x s τ l9 l10 hs hx hn hf
    have hI := h.same hs
    have g := hI.1
    have c1 := fun Q' => mq_isChoice (X := X) (Q := Q') (x := x) hI hb (Or.inl rfl) hp (by omega)
    rw [ab_it] at hf
    rw [rX13_best_61]
    by_cases w1 : ac_iC κ b 0 p x
    · rw [if_pos w1] at c1
      have e1 : ac_bY κ (v b) (v (5 + b)) b p q hq x s = ac_bX κ (v b) (v (5 + b)) b p q hq x s := if_pos w1
      rw [e1] at hf
      have c4 := fun mv Q' => mq_lays (X := X) (Q := Q') (hp := x / 2 + 1) (hq := hq) (mv := mv) hI ((hv.same hs).1 (5 + b) (by omega) (by omega)) hb hp hq1
      have sL := ac_ly_same (σ := τ) (κ := κ) (d := v (5 + b)) (b := b) (p := p) (hp := x / 2 + 1) (q := q) (hq := hq) (mv := if x % 2 = 1 then 0 else 2)
      have hIL := hI.same (sL.mono (fun _ _ => ac_PL_PM))
      have gL := hIL.1
      have hB : ac_MB κ (v (5 + b)) b p (x / 2 + 1) q hq := ⟨hb, hp, hq1, hd.2, by have := w1.1; omega, by omega⟩
      have key : ab_Do X 211 [ab_R 355, ab_I 0] (ac_ly τ κ (v (5 + b)) b p (x / 2 + 1) q hq (if x % 2 = 1 then 0 else 2)) (fun r σ' => ab_Run X 232 116 (6, 0, 0) [ab_R 355, ab_I b, ab_I p, ab_I q, ab_I hq, ab_I s.1, ab_J s.2, ab_R 0, ab_I x, l9, l10] (ab_psh r []) σ' Q) := by
        refine mq_oddsOf (kd := v b) hIL ac_ly_ML hB (by rw [sL.2.2 357 b (by unfold ac_PL; omega), (hv.same hs).1 b (by omega) (by omega)]) (fun τ1 hs1 _ => ?_)
        have s1 := hs.trans ((sL.mono (fun _ _ => ac_PL_PM)).trans (hs1.mono (fun _ _ => ac_PB_PM)))
        have eo : ac_O κ (v b) (v (5 + b)) b p (x / 2 + 1) q hq (if x % 2 = 1 then 0 else 2) 0 = ac_bF κ (v b) (v (5 + b)) b p q hq x := rfl
        rw [eo]
        unfold ac_bX at hf
        generalize ac_bF κ (v b) (v (5 + b)) b p q hq x = f at *
        by_cases z1 : s.1 = -1
        · rw [if_pos (Or.inl z1)] at hf
          have k := ih (x + 1) (x, f) τ1 (ab_J f) (ab_R 0) s1 (by omega) (by omega) hf
          clear ih hQ hf
          simp (disch := omega) only [rX13_best_116, rX13_best_118, rX13_best_120, rX13_best_121, rX13_best_124, rX13_best_126, rX13_best_128, rX13_best_129, rX13_best_132, rX13_best_135, rX13_best_137, rX13_best_139, rX13_best_141, rX13_best_143, rX13_best_146, ne_eq, not_false_eq_true, not_true_eq_false, true_and, and_true, and_self, true_imp_iff, false_imp_iff, imp_self, Bool.not_false, Bool.not_true, reduceCtorEq, ab_isJ, ab_psh, ab_cats, Bool.false_eq_true, if_true, if_false, ab_shf, ab_shw, Int.le_refl, Classical.not_not, Int.zero_add, forall_const, ↓ab_itT, ↓ab_itF, ab_anT, ab_w32_id, ab_rdf_ne, ab_rdw_ne, ab_rdw_eq, ab_rdf_in, ab_td2, ab_tm2]
          all_goals exact k
        · by_cases z2 : s.2 < f
          · rw [if_pos (Or.inr z2)] at hf
            have k := ih (x + 1) (x, f) τ1 (ab_J f) (ab_R 0) s1 (by omega) (by omega) hf
            clear ih hQ hf
            simp (disch := omega) only [rX13_best_116, rX13_best_118, rX13_best_120, rX13_best_121, rX13_best_124, rX13_best_126, rX13_best_128, rX13_best_129, rX13_best_132, rX13_best_135, rX13_best_137, rX13_best_139, rX13_best_141, rX13_best_143, rX13_best_146, ne_eq, not_false_eq_true, not_true_eq_false, true_and, and_true, and_self, true_imp_iff, false_imp_iff, imp_self, Bool.not_false, Bool.not_true, reduceCtorEq, ab_isJ, ab_psh, ab_cats, Bool.false_eq_true, if_true, if_false, ab_shf, ab_shw, Int.le_refl, Classical.not_not, Int.zero_add, forall_const, ↓ab_itT, ↓ab_itF, ab_anT, ab_w32_id, ab_rdf_ne, ab_rdw_ne, ab_rdw_eq, ab_rdf_in, ab_td2, ab_tm2, ab_ifT]
            all_goals exact k
          · rw [if_neg (by omega)] at hf
            have k := ih (x + 1) s τ1 (ab_J f) (ab_R 0) s1 (by omega) (by omega) hf
            have lc : ¬ 0 < (if s.2 < f then (1 : Int) else if f = s.2 then 0 else -1) := by
              rw [if_neg z2]; split <;> omega
            clear ih hQ hf
            simp (disch := omega) only [rX13_best_116, rX13_best_118, rX13_best_120, rX13_best_121, rX13_best_124, rX13_best_126, rX13_best_128, rX13_best_129, rX13_best_132, rX13_best_135, rX13_best_137, rX13_best_139, rX13_best_141, rX13_best_143, rX13_best_146, ne_eq, not_false_eq_true, not_true_eq_false, true_and, and_true, and_self, true_imp_iff, false_imp_iff, imp_self, Bool.not_false, Bool.not_true, reduceCtorEq, ab_isJ, ab_psh, ab_cats, Bool.false_eq_true, if_true, if_false, ab_shf, ab_shw, Int.le_refl, Classical.not_not, Int.zero_add, forall_const, ↓ab_itT, ↓ab_itF, ab_anT, ab_w32_id, ab_rdf_ne, ab_rdw_ne, ab_rdw_eq, ab_rdf_in, ab_td2, ab_tm2]
            all_goals exact k
      clear ih hQ hf sL hIL hB e1 hI w1
      by_cases z : x % 2 = 1
      · rw [if_pos z] at key gL
        have c5 := c4 0
        simp (disch := omega) only [rX13_best_63, rX13_best_65, rX13_best_68, rX13_best_69, rX13_best_70, rX13_best_71, rX13_best_72, rX13_best_74, rX13_best_77, rX13_best_80, rX13_best_83, rX13_best_84, rX13_best_85, rX13_best_86, rX13_best_88, rX13_best_89, rX13_best_90, rX13_best_91, rX13_best_92, rX13_best_93, rX13_best_95, rX13_best_97, rX13_best_98, rX13_best_99, rX13_best_100, rX13_best_103, rX13_best_104, rX13_best_107, rX13_best_108, rX13_best_111, rX13_best_112, rX13_best_113, gS_355, g, gL, c1, c5, ne_eq, not_false_eq_true, not_true_eq_false, true_and, and_true, and_self, true_imp_iff, false_imp_iff, imp_self, Bool.not_false, Bool.not_true, reduceCtorEq, ab_isJ, ab_psh, ab_cats, Bool.false_eq_true, if_true, if_false, ab_shf, ab_shw, Int.le_refl, Classical.not_not, Int.zero_add, forall_const, ↓ab_itT, ↓ab_itF, ab_anT, ab_w32_id, ab_rdf_ne, ab_rdw_ne, ab_rdw_eq, ab_rdf_in, ab_td2, ab_tm2]
        all_goals exact key
      · rw [if_neg z] at key gL
        have c5 := c4 2
        simp (disch := omega) only [rX13_best_63, rX13_best_65, rX13_best_68, rX13_best_69, rX13_best_70, rX13_best_71, rX13_best_72, rX13_best_74, rX13_best_77, rX13_best_80, rX13_best_83, rX13_best_84, rX13_best_85, rX13_best_86, rX13_best_88, rX13_best_89, rX13_best_90, rX13_best_91, rX13_best_92, rX13_best_93, rX13_best_95, rX13_best_97, rX13_best_98, rX13_best_99, rX13_best_100, rX13_best_103, rX13_best_104, rX13_best_107, rX13_best_108, rX13_best_111, rX13_best_112, rX13_best_113, gS_355, g, gL, c1, c5, ne_eq, not_false_eq_true, not_true_eq_false, true_and, and_true, and_self, true_imp_iff, false_imp_iff, imp_self, Bool.not_false, Bool.not_true, reduceCtorEq, ab_isJ, ab_psh, ab_cats, Bool.false_eq_true, if_true, if_false, ab_shf, ab_shw, Int.le_refl, Classical.not_not, Int.zero_add, forall_const, ↓ab_itT, ↓ab_itF, ab_anT, ab_w32_id, ab_rdf_ne, ab_rdw_ne, ab_rdw_eq, ab_rdf_in, ab_td2, ab_tm2]
        all_goals exact key
    · rw [if_neg w1] at c1
      have e1 : ac_bY κ (v b) (v (5 + b)) b p q hq x s = s := if_neg w1
      rw [e1] at hf
      have k := ih (x + 1) s τ l9 l10 hs (by omega) (by omega) hf
      clear ih hQ hf
      simp (disch := omega) only [rX13_best_63, rX13_best_65, rX13_best_68, rX13_best_69, rX13_best_70, rX13_best_71, rX13_best_72, rX13_best_74, rX13_best_77, rX13_best_80, rX13_best_143, rX13_best_146, gS_355, g, c1, ne_eq, not_false_eq_true, not_true_eq_false, true_and, and_true, and_self, true_imp_iff, false_imp_iff, imp_self, Bool.not_false, Bool.not_true, reduceCtorEq, ab_isJ, ab_psh, ab_cats, Bool.false_eq_true, if_true, if_false, ab_shf, ab_shw, Int.le_refl, Classical.not_not, Int.zero_add, forall_const, ↓ab_itT, ↓ab_itF, ab_anT, ab_w32_id, ab_rdf_ne, ab_rdw_ne, ab_rdw_eq, ab_rdf_in, ab_td2, ab_tm2]
      all_goals exact k
theorem mq_best (h : ac_MN σ κ) (hv : ac_MV σ κ v) (hQ : ∀ τ, ab_Same ac_PM σ τ → ab_rd τ 355 1 = ac_beT κ b p q hq → ab_rd τ 355 2 = -1 → Q (some (ab_I (if ac_beT κ b p q hq = 0 then ac_best κ (v b) (v (5 + b)) b p q hq else -1))) τ) : ab_Do X 232 [ab_R 355, ab_I b, ab_I p, ab_I q, ab_I hq] σ Q := by
  have h' := h.same ac_mq0
  have g0 := h.1
  have g := h'.1
  have c1 := fun b Q' => mq_isBone (X := X) (Q := Q') (b := b) h'
  have c2 := fun p q Q' => mq_isPair (X := X) (Q := Q') (p := p) (q := q) h'
  have c1p := fun b Q' => mq_isPerson (X := X) (Q := Q') (b := b) h'
  have cl := fun b arm k Q' => mq_isPlace (X := X) (Q := Q') (b := b) (arm := arm) (k := k) h'
  have cin := fun x lo hi Q' => mq_in (X := X) (σ := ab_wr σ 355 0 0) (Q := Q') (x := x) (lo := lo) (hi := hi)
  have cr := fun v Q' => sp_refused (X := X) (Q := Q') (v := v) g
  have c0 := fun b hp hq mv Q' => mq_rp0 (X := X) (σ := ab_wr σ 355 0 0) (Q := Q') (b := b) (hp := hp) (hq := hq) (mv := mv)
  by_cases h1 : ac_isB κ b
  · by_cases h1u : ac_isU κ p q
    · have eP : ac_pT κ b p q = 0 := if_pos ⟨h1, h1u⟩
      obtain ⟨M, hm⟩ := h.mb h1
      have hk := hm.2.2.2.2
      have hm' := hm.same (τ := ab_wr σ 355 0 0) ac_mq0
      have h3 : ab_rd (ab_wr σ 355 0 0) 355 3 = M := hm'.2.1
      have zM := hm.2.2.1.1
      have sM := hm'.2.2.1.2.1
      have c8 := fun Q' => mq_many (X := X) (Q := Q') (arm := 1) hm' h1 (Or.inr rfl)
      by_cases hw : ac_isH κ b 1 hq
      · have eT : ac_beT κ b p q hq = 0 := by unfold ac_beT; rw [if_pos eP, if_pos hw]
        rw [eT, if_pos rfl] at hQ
        have n1 := ac_n_b hk h1 (Or.inr rfl)
        have n1' : ac_n κ b 1 = κ 14 (2 * b + 1) := rfl
        obtain ⟨bb, be⟩ := ac_best_eq (kd := v b) (d := v (5 + b)) (p := p) (q := q) (hq := hq) hk h1
        have key := mq_best_l (X := X) (Q := Q) (hq := hq) hm hv h1 h1u.1 h1u.2.1 (by have := hw.1; have := hw.2; omega) (ab_it (ac_bY κ (v b) (v (5 + b)) b p q hq) 12 0 (-1, 0)) (fun τ l9 l10 hs => by
          have gT := (hm.same hs).1
          have c6 := fun x Q' => sp_good (X := X) (Q := Q') (v := x) gT
          have c7 := fun Q' => mq_told (X := X) (σ := τ) (Q := Q') bb
          rw [be] at c7
          have k2 := hQ _ (ac_end1 hs).1 (ac_end1 hs).2.1 (ac_end1 hs).2.2
          clear hQ be
          simp (disch := omega) only [rX13_best_149, rX13_best_150, rX13_best_152, rX13_best_155, rX13_best_158, gS_355, gT, c6, c7, ne_eq, not_false_eq_true, not_true_eq_false, true_and, and_true, and_self, true_imp_iff, false_imp_iff, imp_self, Bool.not_false, Bool.not_true, reduceCtorEq, ab_isJ, ab_psh, ab_cats, Bool.false_eq_true, if_true, if_false, ab_shf, ab_shw, Int.le_refl, Classical.not_not, Int.zero_add, forall_const, ↓ab_itT, ↓ab_itF, ab_anT, ab_w32_id, ab_rdf_ne, ab_rdw_ne, ab_rdw_eq, ab_rdf_in, ab_td2, ab_tm2]
          exact k2) 12 0 (-1, 0) _ (ab_R 0) (ab_R 0) ac_mq0 (by omega) (by omega) rfl
        clear hQ be bb
        have cin2 := cin hq 1 (κ 14 (2 * b + 1))
        rw [if_pos (show 1 ≤ hq ∧ hq ≤ κ 14 (2 * b + 1) from hw)] at cin2
        simp (disch := omega) only [do_X13_best, rX13_best_0, rX13_best_1, rX13_best_2, rX13_best_5, rX13_best_6, rX13_best_7, rX13_best_10, rX13_best_13, rX13_best_14, rX13_best_15, rX13_best_16, rX13_best_19, rX13_best_22, rX13_best_23, rX13_best_24, rX13_best_27, rX13_best_28, rX13_best_30, rX13_best_31, rX13_best_32, rX13_best_35, rX13_best_36, rX13_best_37, rX13_best_40, rX13_best_43, rX13_best_46, rX13_best_47, rX13_best_48, rX13_best_51, rX13_best_52, rX13_best_53, rX13_best_55, rX13_best_56, rX13_best_58, rX13_best_59, gS_355, g0, g, c1, c2, if_pos h1, if_pos h1u, h3, sM, c8, cin2, ne_eq, not_false_eq_true, not_true_eq_false, true_and, and_true, and_self, true_imp_iff, false_imp_iff, imp_self, Bool.not_false, Bool.not_true, reduceCtorEq, ab_isJ, ab_psh, ab_cats, Bool.false_eq_true, if_true, if_false, ab_shf, ab_shw, Int.le_refl, Classical.not_not, Int.zero_add, forall_const, ↓ab_itT, ↓ab_itF, ab_anT]
        all_goals exact key
      · have eT : ac_beT κ b p q hq = 2 := by unfold ac_beT; rw [if_pos eP, if_neg hw]
        rw [eT, if_neg (by decide)] at hQ
        have cin2 := cin hq 1 (κ 14 (2 * b + 1))
        rw [if_neg (show ¬ (1 ≤ hq ∧ hq ≤ κ 14 (2 * b + 1)) from hw)] at cin2
        simp (disch := omega) only [do_X13_best, rX13_best_0, rX13_best_1, rX13_best_2, rX13_best_5, rX13_best_6, rX13_best_7, rX13_best_10, rX13_best_13, rX13_best_14, rX13_best_15, rX13_best_16, rX13_best_19, rX13_best_22, rX13_best_23, rX13_best_24, rX13_best_27, rX13_best_28, rX13_best_30, rX13_best_31, rX13_best_32, rX13_best_35, rX13_best_36, rX13_best_37, rX13_best_40, rX13_best_43, rX13_best_46, rX13_best_47, rX13_best_48, rX13_best_51, rX13_best_52, rX13_best_53, rX13_best_55, rX13_best_56, rX13_best_58, rX13_best_59, gS_355, g0, g, c1, c2, if_pos h1, if_pos h1u, h3, sM, c8, cin2, cr, ne_eq, not_false_eq_true, not_true_eq_false, true_and, and_true, and_self, true_imp_iff, false_imp_iff, imp_self, Bool.not_false, Bool.not_true, reduceCtorEq, ab_isJ, ab_psh, ab_cats, Bool.false_eq_true, if_true, if_false, ab_shf, ab_shw, Int.le_refl, Classical.not_not, Int.zero_add, forall_const, ↓ab_itT, ↓ab_itF, ab_anT]
        exact hQ _ (ac_end1 ac_mq0).1 (ac_end1 ac_mq0).2.1 (ac_end1 ac_mq0).2.2
    · have eT : ac_beT κ b p q hq = 1 := by (unfold ac_beT ac_pT; rw [if_neg (c := ac_isB κ b ∧ ac_isU κ p q) (fun w => h1u w.2)]; rfl)
      rw [eT, if_neg (by decide)] at hQ
      simp (disch := omega) only [do_X13_best, rX13_best_0, rX13_best_1, rX13_best_2, rX13_best_5, rX13_best_6, rX13_best_7, rX13_best_10, rX13_best_13, rX13_best_14, rX13_best_15, rX13_best_16, rX13_best_19, rX13_best_22, rX13_best_23, rX13_best_24, rX13_best_27, rX13_best_28, rX13_best_30, rX13_best_31, rX13_best_32, rX13_best_35, rX13_best_36, rX13_best_37, rX13_best_40, rX13_best_43, rX13_best_46, rX13_best_47, rX13_best_48, rX13_best_51, rX13_best_52, rX13_best_53, rX13_best_55, rX13_best_56, rX13_best_58, rX13_best_59, rX13_best_61, rX13_best_63, rX13_best_65, rX13_best_68, rX13_best_69, rX13_best_70, rX13_best_71, rX13_best_72, rX13_best_74, rX13_best_77, rX13_best_80, rX13_best_83, rX13_best_84, rX13_best_85, rX13_best_86, rX13_best_88, rX13_best_89, rX13_best_90, rX13_best_91, rX13_best_92, rX13_best_93, rX13_best_95, rX13_best_97, rX13_best_98, rX13_best_99, rX13_best_100, rX13_best_103, rX13_best_104, rX13_best_107, rX13_best_108, rX13_best_111, rX13_best_112, rX13_best_113, rX13_best_116, rX13_best_118, rX13_best_120, rX13_best_121, rX13_best_124, rX13_best_126, rX13_best_128, rX13_best_129, rX13_best_132, rX13_best_135, rX13_best_137, rX13_best_139, rX13_best_141, rX13_best_143, rX13_best_146, rX13_best_149, rX13_best_150, rX13_best_152, rX13_best_155, rX13_best_158, gS_355, g0, c1, c2, cl, cin, c0, cr, if_pos h1, if_neg h1u, ne_eq, not_false_eq_true, not_true_eq_false, true_and, and_true, and_self, true_imp_iff, false_imp_iff, imp_self, Bool.not_false, Bool.not_true, reduceCtorEq, ab_isJ, ab_psh, ab_cats, Bool.false_eq_true, if_true, if_false, ab_shf, ab_shw, Int.le_refl, Classical.not_not, Int.zero_add, forall_const, ↓ab_itT, ↓ab_itF, ab_anT, ab_w32_id, ab_rdf_ne, ab_rdw_ne, ab_rdw_eq, ab_rdf_in, ab_td2, ab_tm2, ab_ifF]
      exact hQ _ (ac_end1 ac_mq0).1 (ac_end1 ac_mq0).2.1 (ac_end1 ac_mq0).2.2
  · have eT : ac_beT κ b p q hq = 1 := by (unfold ac_beT ac_pT; rw [if_neg (c := ac_isB κ b ∧ ac_isU κ p q) (fun w => h1 w.1)]; rfl)
    rw [eT, if_neg (by decide)] at hQ
    simp (disch := omega) only [do_X13_best, rX13_best_0, rX13_best_1, rX13_best_2, rX13_best_5, rX13_best_6, rX13_best_7, rX13_best_10, rX13_best_13, rX13_best_14, rX13_best_15, rX13_best_16, rX13_best_19, rX13_best_22, rX13_best_23, rX13_best_24, rX13_best_27, rX13_best_28, rX13_best_30, rX13_best_31, rX13_best_32, rX13_best_35, rX13_best_36, rX13_best_37, rX13_best_40, rX13_best_43, rX13_best_46, rX13_best_47, rX13_best_48, rX13_best_51, rX13_best_52, rX13_best_53, rX13_best_55, rX13_best_56, rX13_best_58, rX13_best_59, rX13_best_61, rX13_best_63, rX13_best_65, rX13_best_68, rX13_best_69, rX13_best_70, rX13_best_71, rX13_best_72, rX13_best_74, rX13_best_77, rX13_best_80, rX13_best_83, rX13_best_84, rX13_best_85, rX13_best_86, rX13_best_88, rX13_best_89, rX13_best_90, rX13_best_91, rX13_best_92, rX13_best_93, rX13_best_95, rX13_best_97, rX13_best_98, rX13_best_99, rX13_best_100, rX13_best_103, rX13_best_104, rX13_best_107, rX13_best_108, rX13_best_111, rX13_best_112, rX13_best_113, rX13_best_116, rX13_best_118, rX13_best_120, rX13_best_121, rX13_best_124, rX13_best_126, rX13_best_128, rX13_best_129, rX13_best_132, rX13_best_135, rX13_best_137, rX13_best_139, rX13_best_141, rX13_best_143, rX13_best_146, rX13_best_149, rX13_best_150, rX13_best_152, rX13_best_155, rX13_best_158, gS_355, g0, c1, c2, cl, cin, c0, cr, if_neg h1, ne_eq, not_false_eq_true, not_true_eq_false, true_and, and_true, and_self, true_imp_iff, false_imp_iff, imp_self, Bool.not_false, Bool.not_true, reduceCtorEq, ab_isJ, ab_psh, ab_cats, Bool.false_eq_true, if_true, if_false, ab_shf, ab_shw, Int.le_refl, Classical.not_not, Int.zero_add, forall_const, ↓ab_itT, ↓ab_itF, ab_anT, ab_w32_id, ab_rdf_ne, ab_rdw_ne, ab_rdw_eq, ab_rdf_in, ab_td2, ab_tm2, ab_ifF]
    exact hQ _ (ac_end1 ac_mq0).1 (ac_end1 ac_mq0).2.1 (ac_end1 ac_mq0).2.2
end
