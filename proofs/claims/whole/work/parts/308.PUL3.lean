section
variable {X : ab_X} {σ : ab_S} {Q : Option ab_V → ab_S → Prop} {A B : Int}
/-- an arm in use: n places, their strains and strengths -/
def ac_ArmB (σ : ab_S) (A n : Int) (stn str : Int → Int) : Prop := ab_rd σ A 0 = n ∧ (0 ≤ n ∧ n ≤ 6) ∧ (∀ i, 0 ≤ i → i < n → ab_rd σ (A + 1) i = stn i ∧ ab_rd σ (A + 2) i = str i) ∧ ∀ i, 0 ≤ i → i < n → (0 ≤ stn i ∧ stn i ≤ 579) ∧ (0 ≤ str i ∧ str i ≤ 639)
theorem ac_fw_congr {stn stn' br br' : Int → Int} {n : Nat} (h : ∀ i : Int, 0 ≤ i → i < (n : Int) → stn i = stn' i ∧ br i = br' i) : ab_it (ac_fw stn br) n 0 (-1) = ab_it (ac_fw stn' br') n 0 (-1) := by
  refine ab_it_congr (fun j w => w = -1 ∨ (0 ≤ w ∧ w < j)) n 0 (-1) ?_ (Or.inl rfl)
  intro j w h1 h2 hw
  have hj := h j h1 (by omega)
  refine ⟨?_, ?_⟩
  · unfold ac_fw
    rw [hj.1, hj.2]
    rcases hw with hw | hw
    · subst hw; simp
    · have hh := h w hw.1 (by omega)
      rw [hh.1, hh.2]
  · unfold ac_fw
    split <;> omega
theorem ac_W_b {stn br : Int → Int} {n : Int} (hn : 0 ≤ n) : ac_W stn br n = -1 ∨ (0 ≤ ac_W stn br n ∧ ac_W stn br n < n) := by
  have := ab_it_inv (f := ac_fw stn br) (fun j w => w = -1 ∨ (0 ≤ w ∧ w < j)) n.toNat 0 (-1) (fun j w h1 h2 hw => by unfold ac_fw; split <;> omega) (Or.inl rfl)
  unfold ac_W
  rw [Int.toNat_of_nonneg hn, Int.zero_add] at this
  exact this
theorem ac_W_congr {stn stn' str str' : Int → Int} {n row : Int} (hn : 0 ≤ n) (h : ∀ i, 0 ≤ i → i < n → stn i = stn' i ∧ str i = str' i) : ac_W stn (ac_brs str row) n = ac_W stn' (ac_brs str' row) n := by
  unfold ac_W
  refine ac_fw_congr ?_
  intro i h1 h2
  have := h i h1 (by omega)
  refine ⟨this.1, ?_⟩
  unfold ac_brs
  rw [this.2]
/-- the weakest place's number, its load, its limit -/
def ac_Wl (stn br : Int → Int) (n : Int) : Int := ac_lod stn (ac_W stn br n)
def ac_Wm (stn br : Int → Int) (n : Int) : Int := ac_lm br (ac_W stn br n)
theorem ac_Wl_congr {stn stn' str str' : Int → Int} {n row : Int} (hn : 0 ≤ n) (h : ∀ i, 0 ≤ i → i < n → stn i = stn' i ∧ str i = str' i) : ac_Wl stn (ac_brs str row) n = ac_Wl stn' (ac_brs str' row) n := by
  unfold ac_Wl
  rw [ac_W_congr hn h]
  unfold ac_lod
  rcases ac_W_b (stn := stn') (br := ac_brs str' row) hn with q | q
  · rw [if_pos q, if_pos q]
  · rw [if_neg (by omega), if_neg (by omega), (h _ q.1 q.2).1]
theorem ac_Wm_congr {stn stn' str str' : Int → Int} {n row : Int} (hn : 0 ≤ n) (h : ∀ i, 0 ≤ i → i < n → stn i = stn' i ∧ str i = str' i) : ac_Wm stn (ac_brs str row) n = ac_Wm stn' (ac_brs str' row) n := by
  unfold ac_Wm
  rw [ac_W_congr hn h]
  unfold ac_lm
  rcases ac_W_b (stn := stn') (br := ac_brs str' row) hn with q | q
  · rw [if_pos q, if_pos q]
  · rw [if_neg (by omega), if_neg (by omega)]
    generalize ac_W stn' (ac_brs str' row) n = ww at *
    unfold ac_brs
    rw [(h _ q.1 q.2).2]
theorem ac_Wl_b {stn str : Int → Int} {n row : Int} (hn : 0 ≤ n) (h : ∀ i, 0 ≤ i → i < n → (0 ≤ stn i ∧ stn i ≤ 579) ∧ (0 ≤ str i ∧ str i ≤ 639)) : 0 ≤ ac_Wl stn (ac_brs str row) n ∧ ac_Wl stn (ac_brs str row) n ≤ 579 := by
  unfold ac_Wl ac_lod
  rcases ac_W_b (stn := stn) (br := ac_brs str row) hn with q | q
  · rw [if_pos q]; omega
  · rw [if_neg (by omega)]; exact (h _ q.1 q.2).1
theorem ac_Wm_b {stn str : Int → Int} {n row : Int} (hn : 0 ≤ n) (h : ∀ i, 0 ≤ i → i < n → (0 ≤ stn i ∧ stn i ≤ 579) ∧ (0 ≤ str i ∧ str i ≤ 639)) : 0 ≤ ac_Wm stn (ac_brs str row) n ∧ ac_Wm stn (ac_brs str row) n ≤ 639 := by
  unfold ac_Wm ac_lm
  rcases ac_W_b (stn := stn) (br := ac_brs str row) hn with q | q
  · rw [if_pos q]; omega
  · rw [if_neg (by omega)]
    have := (h _ q.1 q.2).2
    generalize ac_W stn (ac_brs str row) n = ww at *
    unfold ac_brs
    split <;> omega
theorem sp_findWorstB {n row : Int} {stn str : Int → Int} (hA : ab_ArmG σ A) (h : ac_ArmB σ A n stn str) (hr : 0 ≤ row ∧ row ≤ 6) : ab_Do X 3 [ab_R A, ab_I row] σ Q ↔ Q none (ac_w3 σ A row (ac_W stn (ac_brs str row) n) (ac_Wl stn (ac_brs str row) n) (ac_Wm stn (ac_brs str row) n)) := by
  have hb : ∀ i, 0 ≤ i → i < n → (0 ≤ ab_rd σ (A + 1) i ∧ ab_rd σ (A + 1) i ≤ 579) ∧ (0 ≤ ab_rd σ (A + 2) i ∧ ab_rd σ (A + 2) i ≤ 639) := fun i h1 h2 => by
    rw [(h.2.2.1 i h1 h2).1, (h.2.2.1 i h1 h2).2]; exact h.2.2.2 i h1 h2
  rw [sp_findWorst hA h.1 h.2.1 hr hb]
  have q := fun i h1 h2 => h.2.2.1 i h1 h2
  rw [← ac_W_congr h.2.1.1 q, ← ac_Wl_congr h.2.1.1 q, ← ac_Wm_congr h.2.1.1 q]
  rfl
theorem ac_ArmB.congr {n : Int} {stn str : Int → Int} {τ : ab_S} (h : ac_ArmB σ A n stn str) (h0 : ab_rd τ A 0 = ab_rd σ A 0) (h1 : ∀ i, ab_rd τ (A + 1) i = ab_rd σ (A + 1) i) (h2 : ∀ i, ab_rd τ (A + 2) i = ab_rd σ (A + 2) i) : ac_ArmB τ A n stn str := by
  obtain ⟨q1, q2, q3, q4⟩ := h
  exact ⟨by rw [h0, q1], q2, fun i i1 i2 => by rw [h1, h2]; exact q3 i i1 i2, q4⟩
theorem ab_ArmG.congr {τ : ab_S} (h : ab_ArmG σ A) (hs : ∀ a, ab_sh τ a = ab_sh σ a) (h1 : ∀ f, 1 ≤ f → ab_rd τ A f = ab_rd σ A f) : ab_ArmG τ A := by
  unfold ab_ArmG at h ⊢
  rw [hs, hs, hs, hs, hs, hs, h1 1 (by decide), h1 2 (by decide), h1 3 (by decide), h1 4 (by decide), h1 5 (by decide)]
  exact h
/-- what comes, with a flaw in one of all places -/
def ac_rs (limp n0 : Int) (stn0 str0 : Int → Int) (n1 : Int) (stn1 str1 : Int → Int) (r0 r1 : Int) : Int := ac_cp limp (ac_W stn0 (ac_brs str0 r0) n0) (ac_Wl stn0 (ac_brs str0 r0) n0) (ac_Wm stn0 (ac_brs str0 r0) n0) (ac_W stn1 (ac_brs str1 r1) n1) (ac_Wl stn1 (ac_brs str1 r1) n1) (ac_Wm stn1 (ac_brs str1 r1) n1)
def ac_r0 (n0 fp : Int) : Int := if fp < n0 then fp + 1 else 0
def ac_r1 (n0 fp : Int) : Int := if fp < n0 then 0 else fp - n0 + 1
theorem sp_resolve {limp n0 n1 fp : Int} {stn0 str0 stn1 str1 : Int → Int} (hg : ab_Geo σ) (h0 : ac_ArmB σ 135 n0 stn0 str0) (h1 : ac_ArmB σ 141 n1 stn1 str1) (hl : ab_rd σ 134 4 = limp) (hf : -1 ≤ fp ∧ fp < n0 + n1) :
    ab_Do X 36 [ab_R 134, ab_I fp] σ Q ↔ Q (some (ab_I (ac_rs limp n0 stn0 str0 n1 stn1 str1 (ac_r0 n0 fp) (ac_r1 n0 fp)))) (ac_w3 (ac_w3 σ 135 (ac_r0 n0 fp) (ac_W stn0 (ac_brs str0 (ac_r0 n0 fp)) n0) (ac_Wl stn0 (ac_brs str0 (ac_r0 n0 fp)) n0) (ac_Wm stn0 (ac_brs str0 (ac_r0 n0 fp)) n0)) 141 (ac_r1 n0 fp) (ac_W stn1 (ac_brs str1 (ac_r1 n0 fp)) n1) (ac_Wl stn1 (ac_brs str1 (ac_r1 n0 fp)) n1) (ac_Wm stn1 (ac_brs str1 (ac_r1 n0 fp)) n1)) := by
  have hr0 : 0 ≤ ac_r0 n0 fp ∧ ac_r0 n0 fp ≤ 6 := by have := h0.2.1; have := h1.2.1; unfold ac_r0; split <;> omega
  have hr1 : 0 ≤ ac_r1 n0 fp ∧ ac_r1 n0 fp ≤ 6 := by have := h0.2.1; have := h1.2.1; unfold ac_r1; split <;> omega
  have g0 := hg.arm (Or.inl rfl)
  have g1 := hg.arm (Or.inr (Or.inl rfl))
  have cA := fun Q' => sp_findWorstB (X := X) (Q := Q') g0 h0 hr0
  have cB := fun w l m Q' => sp_findWorstB (X := X) (Q := Q') (σ := ac_w3 σ 135 (ac_r0 n0 fp) w l m) (A := 141) (g1.congr (fun _ => rfl) (fun f _ => by simp [ac_w3_rd])) (h1.congr (by simp [ac_w3_rd]) (fun _ => by simp [ac_w3_rd]) (fun _ => by simp [ac_w3_rd])) hr1
  have cC := fun w l m w' l' m' b1 b2 b3 b4 Q' => sp_compare (X := X) (Q := Q') (σ := ac_w3 (ac_w3 σ 135 (ac_r0 n0 fp) w l m) 141 (ac_r1 n0 fp) w' l' m') (A := 135) (B := 141) (r1 := ac_r0 n0 fp) (r2 := ac_r1 n0 fp) (limp := limp) (w1 := w) (l1 := l) (m1 := m) (w2 := w') (l2 := l') (m2 := m') (show ab_sh σ 134 = (7, 0) from gS_134 hg) (g0.congr (fun _ => rfl) (fun f _ => by simp [ac_w3_rd])) (g1.congr (fun _ => rfl) (fun f _ => by simp [ac_w3_rd])) hr0 hr1 (by simp [ac_w3_rd, hl]) (by simp [ac_w3_rd]) (by simp [ac_w3_rd]) (by simp [ac_w3_rd]) (by simp [ac_w3_rd]) (by simp [ac_w3_rd]) (by simp [ac_w3_rd]) b1 b2 b3 b4
  have cC' := fun Q' => cC (ac_W stn0 (ac_brs str0 (ac_r0 n0 fp)) n0) _ _ (ac_W stn1 (ac_brs str1 (ac_r1 n0 fp)) n1) _ _ (ac_Wl_b (row := ac_r0 n0 fp) h0.2.1.1 h0.2.2.2) (ac_Wm_b (row := ac_r0 n0 fp) h0.2.1.1 h0.2.2.2) (ac_Wl_b (row := ac_r1 n0 fp) h1.2.1.1 h1.2.2.2) (ac_Wm_b (row := ac_r1 n0 fp) h1.2.1.1 h1.2.2.2) Q'
  have hn0 := h0.1
  have b0 := h0.2.1
  have b1 := h1.2.1
  have e1 : ∀ r w l m f, ab_rd (ac_w3 σ 135 r w l m) 134 f = ab_rd σ 134 f := fun r w l m f => by simp [ac_w3_rd]
  have e2 : ∀ τ r w l m f, ab_rd (ac_w3 τ 141 r w l m) 134 f = ab_rd τ 134 f := fun τ r w l m f => by simp [ac_w3_rd]
  have f1 : ∀ τ A r w l m x, ab_sh (ac_w3 τ A r w l m) x = ab_sh τ x := fun _ _ _ _ _ _ _ => rfl
  by_cases hc : fp < n0
  · have z1 : ac_r0 n0 fp = fp + 1 := if_pos hc
    have z2 : ac_r1 n0 fp = 0 := if_pos hc
    simp only [z1, z2] at cA cB cC' ⊢
    simp (disch := omega) only [do_X6_resolve, rX6_resolve_0, rX6_resolve_1, rX6_resolve_2, rX6_resolve_5, rX6_resolve_8, rX6_resolve_11, rX6_resolve_12, rX6_resolve_13, rX6_resolve_14, rX6_resolve_17, rX6_resolve_18, rX6_resolve_19, rX6_resolve_20, rX6_resolve_21, rX6_resolve_24, rX6_resolve_27, rX6_resolve_30, rX6_resolve_31, rX6_resolve_34, rX6_resolve_35, rX6_resolve_36, rX6_resolve_39, rX6_resolve_42, rX6_resolve_43, rX6_resolve_44, rX6_resolve_45, rX6_resolve_46, rX6_resolve_47, rX6_resolve_50, rX6_resolve_51, rX6_resolve_54, rX6_resolve_55, rX6_resolve_58, rX6_resolve_59, rX6_resolve_62, rX6_resolve_63, rX6_resolve_64, rX6_resolve_67, rX6_resolve_68, rX6_resolve_69, rX6_resolve_72, rX6_resolve_73, rX6_resolve_76, gS_134, gS_135, gS_141, gP_134_0, gP_134_1, hg, hn0, cA, cB, cC', e1, e2, f1, ne_eq, not_false_eq_true, not_true_eq_false, true_and, and_true, and_self, true_imp_iff, false_imp_iff, imp_self, Bool.not_false, Bool.not_true, reduceCtorEq, ab_isJ, ab_psh, ab_cats, Bool.false_eq_true, if_true, if_false, ab_shf, ab_shw, Int.le_refl, Classical.not_not, Int.zero_add, Int.add_zero, forall_const, ↓ab_itT, ↓ab_itF, ab_anT, ab_w32_id, ab_rdf_ne, ab_rdw_ne, ab_rdw_eq, ab_rdf_in, ab_td2, ab_tm2, ac_rs]
  · have z1 : ac_r0 n0 fp = 0 := if_neg hc
    have z2 : ac_r1 n0 fp = fp - n0 + 1 := if_neg hc
    simp only [z1, z2] at cA cB cC' ⊢
    simp (disch := omega) only [do_X6_resolve, rX6_resolve_0, rX6_resolve_1, rX6_resolve_2, rX6_resolve_5, rX6_resolve_8, rX6_resolve_11, rX6_resolve_12, rX6_resolve_13, rX6_resolve_14, rX6_resolve_17, rX6_resolve_18, rX6_resolve_19, rX6_resolve_20, rX6_resolve_21, rX6_resolve_24, rX6_resolve_27, rX6_resolve_30, rX6_resolve_31, rX6_resolve_34, rX6_resolve_35, rX6_resolve_36, rX6_resolve_39, rX6_resolve_42, rX6_resolve_43, rX6_resolve_44, rX6_resolve_45, rX6_resolve_46, rX6_resolve_47, rX6_resolve_50, rX6_resolve_51, rX6_resolve_54, rX6_resolve_55, rX6_resolve_58, rX6_resolve_59, rX6_resolve_62, rX6_resolve_63, rX6_resolve_64, rX6_resolve_67, rX6_resolve_68, rX6_resolve_69, rX6_resolve_72, rX6_resolve_73, rX6_resolve_76, gS_134, gS_135, gS_141, gP_134_0, gP_134_1, hg, hn0, cA, cB, cC', e1, e2, f1, ne_eq, not_false_eq_true, not_true_eq_false, true_and, and_true, and_self, true_imp_iff, false_imp_iff, imp_self, Bool.not_false, Bool.not_true, reduceCtorEq, ab_isJ, ab_psh, ab_cats, Bool.false_eq_true, if_true, if_false, ab_shf, ab_shw, Int.le_refl, Classical.not_not, Int.zero_add, Int.add_zero, forall_const, ↓ab_itT, ↓ab_itF, ab_anT, ab_w32_id, ab_rdf_ne, ab_rdw_ne, ab_rdw_eq, ab_rdf_in, ab_td2, ab_tm2, ac_rs]
/-- all rows of an arm -/
def ac_all (σ : ab_S) (A m n : Int) (stn str : Int → Int) : ab_S := ab_fl (ab_fl (ab_fl σ (A + 3) m (fun r => ac_W stn (ac_brs str r) n)) (A + 4) m (fun r => ac_Wl stn (ac_brs str r) n)) (A + 5) m (fun r => ac_Wm stn (ac_brs str r) n)
theorem ac_all_rd {m n x y : Int} {stn str : Int → Int} : ab_rd (ac_all σ A m n stn str) x y = if x = A + 5 ∧ 0 ≤ y ∧ y < m then ac_Wm stn (ac_brs str y) n else if x = A + 4 ∧ 0 ≤ y ∧ y < m then ac_Wl stn (ac_brs str y) n else if x = A + 3 ∧ 0 ≤ y ∧ y < m then ac_W stn (ac_brs str y) n else ab_rd σ x y := rfl
theorem ac_all_succ {m n : Int} {stn str : Int → Int} (h : 0 ≤ m) : ac_w3 (ac_all σ A m n stn str) A m (ac_W stn (ac_brs str m) n) (ac_Wl stn (ac_brs str m) n) (ac_Wm stn (ac_brs str m) n) = ac_all σ A (m + 1) n stn str := ab_sext rfl (fun _ => rfl) (fun x y => by
  rw [ac_w3_rd, ac_all_rd, ac_all_rd]
  by_cases h0 : y = m
  · subst h0
    by_cases h1 : x = A + 5
    · rw [if_pos ⟨h1, rfl⟩, if_pos (by omega)]
    · rw [if_neg (by omega), if_neg (c := x = A + 5 ∧ 0 ≤ y ∧ y < y + 1) (by omega)]
      by_cases h2 : x = A + 4
      · rw [if_pos ⟨h2, rfl⟩, if_pos (by omega)]
      · rw [if_neg (by omega), if_neg (c := x = A + 4 ∧ 0 ≤ y ∧ y < y + 1) (by omega)]
        by_cases h3 : x = A + 3
        · rw [if_pos ⟨h3, rfl⟩, if_pos (by omega)]
        · rw [if_neg (by omega), if_neg (by omega), if_neg (by omega), if_neg (by omega), if_neg (by omega)]
  · rw [if_neg (by omega), if_neg (by omega), if_neg (by omega)]
    by_cases h4 : 0 ≤ y ∧ y < m
    · have e : (0 ≤ y ∧ y < m) = (0 ≤ y ∧ y < m + 1) := propext ⟨fun q => by omega, fun q => by omega⟩
      simp only [e]
    · have e : (0 ≤ y ∧ y < m) = (0 ≤ y ∧ y < m + 1) := propext ⟨fun q => by omega, fun q => by omega⟩
      simp only [e])
theorem ac_all0 {n : Int} {stn str : Int → Int} : ac_all σ A 0 n stn str = σ := by
  unfold ac_all
  rw [ab_fl0 (Int.le_refl 0), ab_fl0 (Int.le_refl 0), ab_fl0 (Int.le_refl 0)]
theorem sp_findAll_l {n : Int} {stn str : Int → Int} (hA : ab_ArmG σ A) (h : ac_ArmB σ A n stn str) : ∀ (d : Nat) (r : Int), 0 ≤ r → r + d = n + 1 → (ab_Run X 4 2 (1, 0, 0) [ab_R A, ab_I r] [] (ac_all σ A r n stn str) Q ↔ Q none (ac_all σ A (n + 1) n stn str)) := by
  intro d
  have hz := hA.1
  have s0 := hA.2.1
  have sa : ∀ r x, ab_sh (ac_all σ A r n stn str) x = ab_sh σ x := fun _ _ => rfl
  have r0 : ∀ r, ab_rd (ac_all σ A r n stn str) A 0 = n := fun r => by rw [ac_all_rd, if_neg (by omega), if_neg (by omega), if_neg (by omega), h.1]
  have hn := h.2.1
  induction d with
  | zero =>
    intro r hr hd
    have e : r = n + 1 := by omega
    subst e
    rw [rX0_findAll_2]
    simp (disch := omega) only [rX0_findAll_3, rX0_findAll_4, rX0_findAll_7, rX0_findAll_21, sa, s0, r0, ne_eq, not_false_eq_true, not_true_eq_false, true_and, and_true, and_self, true_imp_iff, false_imp_iff, imp_self, Bool.not_false, Bool.not_true, reduceCtorEq, ab_isJ, ab_psh, ab_cats, Bool.false_eq_true, if_true, if_false, ab_shf, ab_shw, Int.le_refl, Classical.not_not, Int.zero_add, Int.add_zero, forall_const, ↓ab_itT, ↓ab_itF, ab_anT, ab_w32_id, ab_rdf_ne, ab_rdw_ne, ab_rdw_eq, ab_rdf_in, ab_td2, ab_tm2]
  | succ d ih =>
    intro r hr hd
    have key := ih (r + 1) (by omega) (by omega)
    rw [← ac_all_succ hr] at key
    rw [rX0_findAll_2, ← key]
    have c := fun Q' => sp_findWorstB (X := X) (Q := Q') (row := r) (σ := ac_all σ A r n stn str) (A := A) (n := n) (stn := stn) (str := str) (hA.congr (sa r) (fun f _ => by rw [ac_all_rd, if_neg (by omega), if_neg (by omega), if_neg (by omega)])) (h.congr (by rw [ac_all_rd, if_neg (by omega), if_neg (by omega), if_neg (by omega)]) (fun i => by rw [ac_all_rd, if_neg (by omega), if_neg (by omega), if_neg (by omega)]) (fun i => by rw [ac_all_rd, if_neg (by omega), if_neg (by omega), if_neg (by omega)])) ⟨hr, by omega⟩
    have sw : ∀ τ A r w l m x, ab_sh (ac_w3 τ A r w l m) x = ab_sh τ x := fun _ _ _ _ _ _ _ => rfl
    simp (disch := omega) only [rX0_findAll_3, rX0_findAll_4, rX0_findAll_7, rX0_findAll_10, rX0_findAll_11, rX0_findAll_12, rX0_findAll_15, rX0_findAll_18, sa, sw, s0, r0, c, ne_eq, not_false_eq_true, not_true_eq_false, true_and, and_true, and_self, true_imp_iff, false_imp_iff, imp_self, Bool.not_false, Bool.not_true, reduceCtorEq, ab_isJ, ab_psh, ab_cats, Bool.false_eq_true, if_true, if_false, ab_shf, ab_shw, Int.le_refl, Classical.not_not, Int.zero_add, Int.add_zero, forall_const, ↓ab_itT, ↓ab_itF, ab_anT, ab_w32_id, ab_rdf_ne, ab_rdw_ne, ab_rdw_eq, ab_rdf_in, ab_td2, ab_tm2]
theorem sp_findAll {n : Int} {stn str : Int → Int} (hA : ab_ArmG σ A) (h : ac_ArmB σ A n stn str) : ab_Do X 4 [ab_R A] σ Q ↔ Q none (ac_all σ A (n + 1) n stn str) := by
  have hn := h.2.1
  have := sp_findAll_l (X := X) (Q := Q) hA h (n + 1).toNat 0 (by omega) (by omega)
  rw [← this, ac_all0]
  simp only [do_X0_findAll, rX0_findAll_0, rX0_findAll_1, ne_eq, not_false_eq_true, not_true_eq_false, true_and, and_true, and_self, true_imp_iff, false_imp_iff, imp_self, Bool.not_false, Bool.not_true, reduceCtorEq, ab_isJ, ab_psh, ab_cats, Bool.false_eq_true, if_true, if_false, ab_shf, ab_shw, Int.le_refl, Classical.not_not, Int.zero_add, Int.add_zero, forall_const]
end
