/-! THE GAME: the class plays -/
def ac_mx (f : Int → Int) (n : Int) : Int := ab_it (fun k s => if s < f k then f k else s) n.toNat 0 0
theorem ac_mx_succ {f : Int → Int} {n : Int} (h : 0 ≤ n) : ac_mx f (n + 1) = if ac_mx f n < f n then f n else ac_mx f n := by
  unfold ac_mx
  have e : (n + 1).toNat = n.toNat + 1 := by omega
  rw [e, ab_it_succ]
  have e2 : (0 : Int) + (n.toNat : Int) = n := by omega
  rw [e2]
theorem ac_mx0 {f : Int → Int} : ac_mx f 0 = 0 := rfl
theorem ac_rowT : ∀ i : Fin 12, (ab_pt 153 i.val = 154 + (i.val : Int) ∧ ab_pt 166 i.val = 167 + (i.val : Int)) ∧ ab_shT (154 + (i.val : Int)) = (21, 12) ∧ ab_shT (167 + (i.val : Int)) = (21, 12) := by decide +kernel
section
variable {X : ab_X} {σ τ υ : ab_S} {Q : Option ab_V → ab_S → Prop} {K : Int} {κ : ac_K} {v : Int → Int} {kd d b p hp q hq mv i j as s n arr A0 cc arm who c h m : Int} {P : Int → Int → Prop}
theorem ac_rows_g (hg : ab_Geo σ) (hi : 0 ≤ i ∧ i < 12) : ab_rd σ 153 i = 154 + i ∧ ab_rd σ 166 i = 167 + i ∧ ab_sh σ (154 + i) = (21, 12) ∧ ab_sh σ (167 + i) = (21, 12) := by
  have t := ac_rowT ⟨i.toNat, by omega⟩
  dsimp only at t
  rw [Int.toNat_of_nonneg hi.1] at t
  exact ⟨by rw [hg.2.2 _ _ (by omega) (by omega) (by omega) (by rw [t.1.1]; omega), t.1.1], by rw [hg.2.2 _ _ (by omega) (by omega) (by omega) (by rw [t.1.2]; omega), t.1.2], by rw [hg.2.1 _ (by omega) (by omega), t.2.1], by rw [hg.2.1 _ (by omega) (by omega), t.2.2]⟩
abbrev ac_GL (κ : ac_K) (kd d b p q i j : Int) : Int := ac_GO κ kd d b p q 0 (ac_cx κ p i) (ac_cx κ q j)
abbrev ac_GR (κ : ac_K) (kd d b p q i j : Int) : Int := ac_GO κ kd d b p q 1 (ac_cx κ p i) (ac_cx κ q j)
/-- both have chosen -/
def ac_G2 (τ : ab_S) (κ : ac_K) (kd d b p q : Int) : Prop := ac_Ch τ κ d b 0 p p q 181 151 (ac_cn κ b 0 p) ∧ ac_Ch τ κ d b 1 q p q 187 152 (ac_cn κ b 1 q) ∧ ab_rd τ 148 8 = ac_cn κ b 0 p ∧ ab_rd τ 148 9 = ac_cn κ b 1 q ∧ ab_rd τ 134 4 = ac_lp κ kd d ∧ ab_rd τ 134 8 = κ 4 0
def ac_GI (τ : ab_S) (κ : ac_K) (kd d b p q i j : Int) : Prop := (∀ i' j', 0 ≤ i' → 0 ≤ j' → j' < ac_cn κ b 1 q → (i' < i ∨ (i' = i ∧ j' < j)) → ab_rd τ (154 + i') j' = ac_GL κ kd d b p q i' j' ∧ ab_rd τ (167 + i') j' = ac_GR κ kd d b p q i' j') ∧ (∀ j', 0 ≤ j' → j' < ac_cn κ b 1 q → ab_rd τ 179 j' = ac_mx (fun k => ac_GL κ kd d b p q k j') (if j' < j then i + 1 else i)) ∧ (∀ i', 0 ≤ i' → i' < 12 → ab_rd τ 180 i' = ac_mx (fun k => ac_GR κ kd d b p q i' k) (if i' < i then ac_cn κ b 1 q else if i' = i then j else 0))
def ac_PW : Int → Int → Prop := fun a f => (a = 134 ∧ f = 3) ∨ a = 147 ∨ (154 ≤ a ∧ a ≤ 165) ∨ (167 ≤ a ∧ a ≤ 180)
theorem ac_PW_PD {a f : Int} (h : ac_PW a f) : ac_PD a f := by unfold ac_PW at h; unfold ac_PD ac_PC; omega
theorem ac_cn_b (hk : ac_KK κ) (hb : ac_isB κ b) (ha : arm = 0 ∨ arm = 1) : 2 ≤ ac_cn κ b arm who ∧ ac_cn κ b arm who ≤ 12 := by
  have := ac_n_b hk hb ha
  unfold ac_cn
  split <;> omega
theorem ac_cx_b {x : Int} (hx : 0 ≤ x) : 0 ≤ ac_cx κ who x := by unfold ac_cx; split <;> omega
theorem ac_G2.same (h : ac_G2 σ κ kd d b p q) (hk : ac_KK κ) (hb : ac_isB κ b) (hs : ab_Same ac_PW σ τ) : ac_G2 τ κ kd d b p q := by
  obtain ⟨h1, h2, h3, h4, h5, h6⟩ := h
  have b0 := ac_cn_b (who := p) hk hb (Or.inl rfl)
  have b1 := ac_cn_b (who := q) hk hb (Or.inr rfl)
  refine ⟨h1.congr b0.2 hs (fun i i1 i2 u => by unfold ac_PW at u; omega) (fun i i1 i2 => ⟨fun u => by unfold ac_PW at u; omega, fun f => ⟨fun u => by unfold ac_PW at u; omega, fun u => by unfold ac_PW at u; omega, fun u => by unfold ac_PW at u; omega⟩⟩), h2.congr b1.2 hs (fun i i1 i2 u => by unfold ac_PW at u; omega) (fun i i1 i2 => ⟨fun u => by unfold ac_PW at u; omega, fun f => ⟨fun u => by unfold ac_PW at u; omega, fun u => by unfold ac_PW at u; omega, fun u => by unfold ac_PW at u; omega⟩⟩), ?_, ?_, ?_, ?_⟩
  · rw [hs.2.2 _ _ (by unfold ac_PW; omega), h3]
  · rw [hs.2.2 _ _ (by unfold ac_PW; omega), h4]
  · rw [hs.2.2 _ _ (by unfold ac_PW; omega), h5]
  · rw [hs.2.2 _ _ (by unfold ac_PW; omega), h6]
theorem ac_GO_wt {x y : Int} : ac_wt (ac_rs (ac_lp κ kd d) (ac_n κ b 0) (ac_N κ p q (x / 2 + 1) p (x % 2)) (ac_S κ d b 0 p) (ac_n κ b 1) (ac_N κ p q (y / 2 + 1) q (y % 2)) (ac_S κ d b 1 q)) (κ 4 0) (ac_n κ b 0) (ac_n κ b 1) = fun w => ac_GO κ kd d b p q w x y := by
  have m := ac_mc_m (a := x % 2) (c := y % 2) (by omega) (by omega)
  funext w
  unfold ac_GO ac_O ac_C
  rw [m.1, m.2]
theorem ac_GO_b {w x y : Int} (hk : ac_KK κ) (hb : ac_isB κ b) : 0 ≤ ac_GO κ kd d b p q w x y ∧ ac_GO κ kd d b p q w x y ≤ 3000 := ac_O_b hk hb
theorem sp_play_j (hI : ac_CI σ K κ) (hk : ac_KK κ) (hb : ac_isB κ b) (hi : 0 ≤ i ∧ i < ac_cn κ b 0 p) (B P1 P2 : ab_V) (hQ : ∀ τ, ab_Same ac_PW σ τ → ac_GI τ κ kd d b p q i (ac_cn κ b 1 q) → ab_rd τ 134 3 = 100 * (ac_n κ b 0 + ac_n κ b 1) → ab_Run X 14 212 (3, 0, 0) [ab_R 148, ab_R 134, B, P1, P2, ab_I i, ab_I (ac_cn κ b 1 q)] [] τ Q) (hG : ac_G2 σ κ kd d b p q) : ∀ (n : Nat) (j : Int) (τ : ab_S), ab_Same ac_PW σ τ → ac_GI τ κ kd d b p q i j → (0 < j → ab_rd τ 134 3 = 100 * (ac_n κ b 0 + ac_n κ b 1)) → 0 ≤ j → j + n = ac_cn κ b 1 q → ab_Run X 14 93 (3, 0, 0) [ab_R 148, ab_R 134, B, P1, P2, ab_I i, ab_I j] [] τ Q := by
  have b0 := ac_cn_b (who := p) hk hb (Or.inl rfl)
  have b1 := ac_cn_b (who := q) hk hb (Or.inr rfl)
  have n0 := ac_n_b hk hb (Or.inl rfl)
  have n1 := ac_n_b hk hb (Or.inr rfl)
  have k4 := hk.1.2.2.2.2
  intro n
  induction n with
  | zero =>
    intro j τ hs hGI h3 hj hn
    obtain rfl : j = ac_cn κ b 1 q := by omega
    have g := (hI.same (hs.mono (fun _ _ u => (ac_PW_PD u).1))).1
    have e9 := (hG.same hk hb hs).2.2.2.1
    have hq' := hQ τ hs hGI (h3 (by omega))
    rw [rX2_play_93]
    simp (disch := omega) only [rX2_play_95, rX2_play_96, rX2_play_99, gS_148, g, e9, ne_eq, not_false_eq_true, not_true_eq_false, true_and, and_true, and_self, true_imp_iff, false_imp_iff, imp_self, Bool.not_false, Bool.not_true, reduceCtorEq, ab_isJ, ab_psh, ab_cats, Bool.false_eq_true, if_true, if_false, ab_shf, ab_shw, Int.le_refl, Classical.not_not, Int.zero_add, forall_const, ↓ab_itT, ↓ab_itF, ab_anT, ab_w32_id, ab_rdf_ne, ab_rdw_ne, ab_rdw_eq, ab_rdf_in, ab_td2, ab_tm2]
    all_goals exact hq'
  | succ n ih =>
    intro j τ hs hGI h3 hj hn
    have hI' := hI.same (hs.mono (fun _ _ u => (ac_PW_PD u).1))
    have g := hI'.1
    obtain ⟨hC0, hC1, e8, e9, e4, ef⟩ := hG.same hk hb hs
    have R0 := hC0 i hi.1 hi.2
    have R1 := hC1 j hj (by omega)
    have a0 := ac_arr (arr := 149) (A0 := 181) (cc := 151) (arm := 0) g (Or.inl ⟨rfl, rfl, rfl, rfl⟩) (c := i) (by omega)
    have a1 := ac_arr (arr := 150) (A0 := 187) (cc := 152) (arm := 1) g (Or.inr ⟨rfl, rfl, rfl, rfl⟩) (c := j) (by omega)
    have c1 := fun Q' => sp_weigh (X := X) (Q := Q') g a0.2.2.2 a1.2.2.2 R0.1 R1.1 e4 ef k4
    rw [ac_GO_wt] at c1
    have s0 : ab_Same ac_PW τ (ab_fl (ab_wr τ 134 3 (100 * (ac_n κ b 0 + ac_n κ b 1))) 147 4 (fun w => ac_GO κ kd d b p q w (ac_cx κ p i) (ac_cx κ q j))) := (ab_Same.refl.wr (by unfold ac_PW; omega)).fl (fun y _ _ => by unfold ac_PW; omega)
    have e147 : ∀ w, 0 ≤ w → w < 4 → ab_rd (ab_fl (ab_wr τ 134 3 (100 * (ac_n κ b 0 + ac_n κ b 1))) 147 4 (fun w => ac_GO κ kd d b p q w (ac_cx κ p i) (ac_cx κ q j))) 147 w = ac_GO κ kd d b p q w (ac_cx κ p i) (ac_cx κ q j) := fun w w1 w2 => ab_rdf_in ⟨w1, w2⟩
    have eo : ∀ a f, a ≠ 147 → ¬ (a = 134 ∧ f = 3) → ab_rd (ab_fl (ab_wr τ 134 3 (100 * (ac_n κ b 0 + ac_n κ b 1))) 147 4 (fun w => ac_GO κ kd d b p q w (ac_cx κ p i) (ac_cx κ q j))) a f = ab_rd τ a f := fun a f h1 h2 => by rw [ab_rdf_ne (by omega), ab_rdw_ne (by omega)]
    have e3 : ab_rd (ab_fl (ab_wr τ 134 3 (100 * (ac_n κ b 0 + ac_n κ b 1))) 147 4 (fun w => ac_GO κ kd d b p q w (ac_cx κ p i) (ac_cx κ q j))) 134 3 = 100 * (ac_n κ b 0 + ac_n κ b 1) := by rw [ab_rdf_ne (by omega), ab_rdw_eq]
    have gb0 := ac_GO_b (kd := kd) (d := d) (p := p) (q := q) (w := 0) (x := ac_cx κ p i) (y := ac_cx κ q j) hk hb
    have gb1 := ac_GO_b (kd := kd) (d := d) (p := p) (q := q) (w := 1) (x := ac_cx κ p i) (y := ac_cx κ q j) hk hb
    generalize ab_fl (ab_wr τ 134 3 (100 * (ac_n κ b 0 + ac_n κ b 1))) 147 4 (fun w => ac_GO κ kd d b p q w (ac_cx κ p i) (ac_cx κ q j)) = ρ at c1 s0 e147 eo e3
    have sρ := hs.trans s0
    have gρ := (hI.same (sρ.mono (fun _ _ u => (ac_PW_PD u).1))).1
    have w0 := e147 0 (by omega) (by omega)
    have w1 := e147 1 (by omega) (by omega)
    have r := ac_rows_g gρ (i := i) (by omega)
    have r1 := r.1
    have r2 := r.2.1
    have r3 := r.2.2.1
    have r4 := r.2.2.2
    have m1 := hGI.2.1 j hj (by omega)
    rw [if_neg (by omega)] at m1
    have m2 := hGI.2.2 i hi.1 (by omega)
    rw [if_neg (by omega), if_pos rfl] at m2
    have m1' : ab_rd ρ 179 j = ac_mx (fun k => ac_GL κ kd d b p q k j) i := by rw [eo _ _ (by omega) (by omega), m1]
    have m2' : ab_rd ρ 180 i = ac_mx (fun k => ac_GR κ kd d b p q i k) j := by rw [eo _ _ (by omega) (by omega), m2]
    have q1 := ac_mx_succ (f := fun k => ac_GL κ kd d b p q k j) hi.1
    have q2 := ac_mx_succ (f := fun k => ac_GR κ kd d b p q i k) hj
    have key := ih (j + 1) (ab_wr (ab_wr (ab_wr (ab_wr ρ (154 + i) j (ac_GL κ kd d b p q i j)) (167 + i) j (ac_GR κ kd d b p q i j)) 179 j (if ac_mx (fun k => ac_GL κ kd d b p q k j) i < ac_GL κ kd d b p q i j then ac_GL κ kd d b p q i j else ac_mx (fun k => ac_GL κ kd d b p q k j) i)) 180 i (if ac_mx (fun k => ac_GR κ kd d b p q i k) j < ac_GR κ kd d b p q i j then ac_GR κ kd d b p q i j else ac_mx (fun k => ac_GR κ kd d b p q i k) j))
      ((((sρ.wr (by unfold ac_PW; omega)).wr (by unfold ac_PW; omega)).wr (by unfold ac_PW; omega)).wr (by unfold ac_PW; omega))
      ⟨fun i' j' z1 z2 z3 z4 => by
        rw [ab_rdw_ne (by omega), ab_rdw_ne (by omega), ab_rdw_ne (by omega), ab_rdw_ne (σ := ab_wr (ab_wr (ab_wr ρ _ _ _) _ _ _) _ _ _) (by omega), ab_rdw_ne (σ := ab_wr (ab_wr ρ _ _ _) _ _ _) (by omega)]
        by_cases w : i' = i ∧ j' = j
        · rw [w.1, w.2, ab_rdw_eq, ab_rdw_eq]; exact ⟨rfl, rfl⟩
        · have o1 : ab_rd (ab_wr ρ (154 + i) j (ac_GL κ kd d b p q i j)) (154 + i') j' = ab_rd ρ (154 + i') j' := ab_rdw_ne (by omega)
          have o2 : ab_rd (ab_wr (ab_wr ρ (154 + i) j (ac_GL κ kd d b p q i j)) (167 + i) j (ac_GR κ kd d b p q i j)) (167 + i') j' = ab_rd ρ (167 + i') j' := by rw [ab_rdw_ne (by omega), ab_rdw_ne (by omega)]
          rw [o1, o2, eo _ _ (by omega) (by omega), eo _ _ (by omega) (by omega)]
          exact hGI.1 i' j' z1 z2 z3 (by omega),
       fun j' z1 z2 => by
        rw [ab_rdw_ne (by omega)]
        by_cases w : j' = j
        · rw [w, ab_rdw_eq, if_pos (c := j < j + 1) (by omega), q1]
        · rw [ab_rdw_ne (by omega), ab_rdw_ne (by omega), ab_rdw_ne (by omega), eo _ _ (by omega) (by omega), hGI.2.1 j' z1 z2]
          by_cases w2 : j' < j
          · rw [if_pos w2, if_pos (by omega)]
          · rw [if_neg w2, if_neg (by omega)],
       fun i' z1 z2 => by
        by_cases w : i' = i
        · rw [w, ab_rdw_eq, if_neg (c := i < i) (by omega), if_pos (c := i = i) rfl, q2]
        · rw [ab_rdw_ne (by omega), ab_rdw_ne (by omega), ab_rdw_ne (by omega), ab_rdw_ne (by omega), eo _ _ (by omega) (by omega), hGI.2.2 i' z1 z2, if_neg w, if_neg w]⟩
      (fun _ => by rw [ab_rdw_ne (by omega), ab_rdw_ne (by omega), ab_rdw_ne (by omega), ab_rdw_ne (by omega), e3]) (by omega) (by omega)
    have l1 := a0.1
    have l2 := a1.1
    have l3 := (g.arm a0.2.2.2).2.1
    have l4 := (g.arm a1.2.2.2).2.1
    rw [rX2_play_93]
    simp (disch := omega) only [rX2_play_95, rX2_play_96, rX2_play_99, rX2_play_102, rX2_play_103, rX2_play_104, rX2_play_107, rX2_play_109, rX2_play_110, rX2_play_111, rX2_play_114, rX2_play_116, rX2_play_117, rX2_play_120, rX2_play_121, rX2_play_124, rX2_play_126, rX2_play_127, rX2_play_129, rX2_play_130, rX2_play_133, rX2_play_134, rX2_play_135, rX2_play_136, rX2_play_137, rX2_play_140, rX2_play_142, rX2_play_143, rX2_play_145, rX2_play_146, rX2_play_149, rX2_play_150, rX2_play_151, rX2_play_152, rX2_play_153, rX2_play_156, rX2_play_158, rX2_play_159, rX2_play_162, rX2_play_164, rX2_play_165, rX2_play_166, rX2_play_169, rX2_play_171, rX2_play_172, rX2_play_174, rX2_play_175, rX2_play_178, rX2_play_179, rX2_play_180, rX2_play_183, rX2_play_185, rX2_play_186, rX2_play_189, rX2_play_191, rX2_play_192, rX2_play_193, rX2_play_196, rX2_play_198, rX2_play_199, rX2_play_201, rX2_play_202, rX2_play_205, rX2_play_206, rX2_play_209, gS_148, gP_148_0, gP_148_1, gP_148_4, gP_148_5, gP_148_6, gP_148_7, gS_134, gP_134_2, gS_147, gS_149, gS_150, gS_153, gS_166, gS_179, gS_180, g, gρ, e9, l1, l2, l3, l4, c1, w0, w1, r1, r2, r3, r4, m1', m2', ne_eq, not_false_eq_true, not_true_eq_false, true_and, and_true, and_self, true_imp_iff, false_imp_iff, imp_self, Bool.not_false, Bool.not_true, reduceCtorEq, ab_isJ, ab_psh, ab_cats, Bool.false_eq_true, if_true, if_false, ab_shf, ab_shw, Int.le_refl, Classical.not_not, Int.zero_add, forall_const, ↓ab_itT, ↓ab_itF, ab_anT, ab_w32_id, ab_rdf_ne, ab_rdw_ne, ab_rdw_eq, ab_rdf_in, ab_td2, ab_tm2]
    all_goals exact key
end
