/-! ACTS of the class: dry, boil, seed, undo, mark, back -/
def ac_CV (σ : ab_S) (K : Int) (κ : ac_K) (v : Int → Int) (na : Int) (pa : Int → Int → Int) (nm : Int) (pm : Int → Int → Int) : Prop := ac_CI σ K κ ∧ ac_St σ 31 κ v ∧ ac_VB κ v ∧ ac_H σ κ na pa nm pm ∧ (∀ i, 0 ≤ i → i < na → ac_VB κ (pa i)) ∧ (∀ i, 0 ≤ i → i < nm → ac_VB κ (pm i))
/-- cells that acts change -/
def ac_PX : Int → Int → Prop := fun a f => ac_PC a f ∨ ac_PK a f ∨ ac_PS 31 a f
theorem ac_PK_pt : ∀ a f, 0 ≤ a → a ≤ 368 → 0 ≤ f → ac_PK a f → ab_pt a f = 0 := by
  intro a f h1 h2 h3 hp
  rcases hp with ⟨rfl, q⟩ | hp
  · unfold ab_pt
    have : ab_ptL.getD (36 : Int).toNat [] = [37, 38] := by decide
    rw [this]
    exact ac_getD_ge (by rw [List.length_cons, List.length_cons, List.length_nil]; omega)
  · have t := ac_soP ⟨((a - 39) / 5).toNat, by omega⟩
    dsimp only at t
    obtain ⟨t0, t1, t2, t3, t4⟩ := t
    have e : 39 + 5 * (((a - 39) / 5).toNat : Int) = a - (a - 39) % 5 := by omega
    rw [e] at t0 t1 t2 t3 t4
    have : (a - 39) % 5 = 0 ∨ (a - 39) % 5 = 1 ∨ (a - 39) % 5 = 2 ∨ (a - 39) % 5 = 3 ∨ (a - 39) % 5 = 4 := by omega
    rcases this with w | w | w | w | w
    · have f4 : f = 4 := hp.2.2 w
      rw [w, Int.sub_zero] at t0
      rw [f4]; exact t0
    · rw [w, show a - 1 + 1 = a by omega] at t1; exact ab_pt_nil t1
    · rw [w, show a - 2 + 2 = a by omega] at t2; exact ab_pt_nil t2
    · rw [w, show a - 3 + 3 = a by omega] at t3; exact ab_pt_nil t3
    · rw [w, show a - 4 + 4 = a by omega] at t4; exact ab_pt_nil t4
theorem ac_PX_pt : ∀ a f, 0 ≤ a → a ≤ 368 → 0 ≤ f → ac_PX a f → ab_pt a f = 0 := by
  intro a f h1 h2 h3 hp
  rcases hp with hp | hp | hp
  · exact ac_PC_pt a f h1 h2 h3 hp
  · exact ac_PK_pt a f h1 h2 h3 hp
  · exact ac_PS_pt (Or.inl rfl) a f h1 h2 h3 hp
theorem ac_PC_so {S a f : Int} (hS : ac_so S) (h : ac_PS S a f) : ¬ ac_PC a f := fun u => by
  unfold ac_PS at h
  unfold ac_PC at u
  rcases hS with z | ⟨j, z1, z2⟩ <;> omega
section
variable {X : ab_X} {σ τ υ : ab_S} {Q : Option ab_V → ab_S → Prop} {K b i n s na nm k : Int} {κ : ac_K} {v w : Int → Int} {pa pm : Int → Int → Int} {P : Int → Int → Prop}
theorem ac_CI.sameX (h : ac_CI σ K κ) (hs : ab_Same ac_PX σ τ) : ac_CI τ K κ := h.sameG hs ac_PX_pt (by unfold ac_PX ac_PC ac_PK ac_PS; omega) (fun a f h1 h2 => by unfold ac_PX ac_PC ac_PK ac_PS at h2; omega)
theorem ac_H.sameC (h : ac_H σ κ na pa nm pm) (hn : κ 5 0 ≤ 5) (hs : ab_Same ac_PC σ τ) : ac_H τ κ na pa nm pm := h.same hn hs (fun a f u => by
  rcases u with rfl | ⟨S, h1, h2⟩
  · unfold ac_PC; omega
  · exact ac_PC_so h1 h2)
theorem ac_CV.sameC (h : ac_CV σ K κ v na pa nm pm) (hs : ab_Same ac_PC σ τ) : ac_CV τ K κ v na pa nm pm := by
  obtain ⟨h1, h2, h3, h4, h5, h6⟩ := h
  exact ⟨h1.same hs, h2.same (by omega) hs, h3, h4.sameC h1.2.2.2.1.1.2 hs, h5, h6⟩
theorem ab_Same.cx (h : ab_Same ac_PC σ τ) : ab_Same ac_PX σ τ := h.mono (fun _ _ u => Or.inl u)
theorem ac_kpa_VB (h1 : ∀ i, 0 ≤ i → i < na → ac_VB κ (pa i)) (h2 : ac_VB κ v) (hn : 0 ≤ na ∧ na ≤ 16) : ∀ i, 0 ≤ i → i < ac_kna na → ac_VB κ (ac_kpa na pa v i) := by
  intro i i1 i2
  unfold ac_kna at i2
  unfold ac_kpa
  by_cases z : na = 16
  · rw [if_pos z] at i2 ⊢
    by_cases z2 : i = 15
    · rw [if_pos z2]; exact h2
    · rw [if_neg z2]; exact h1 (i + 1) (by omega) (by omega)
  · rw [if_neg z] at i2 ⊢
    by_cases z2 : i = na
    · rw [if_pos z2]; exact h2
    · rw [if_neg z2]; exact h1 i i1 (by omega)
/-- a state after an act that changes the state 31 alone -/
theorem ac_CV.act (h : ac_CV σ K κ v na pa nm pm) (hs : ab_Same ac_PX σ τ) (hS : ac_St τ 31 κ w) (hV : ac_VB κ w) (hH : ac_H τ κ (ac_kna na) (ac_kpa na pa v) nm pm) : ac_CV τ K κ w (ac_kna na) (ac_kpa na pa v) nm pm := by
  obtain ⟨h1, h2, h3, h4, h5, h6⟩ := h
  exact ⟨h1.sameX hs, hS, hV, hH, ac_kpa_VB h5 h3 h4.2.2.2.1, h6⟩
theorem ac_H.same31 (h : ac_H σ κ na pa nm pm) (hn : κ 5 0 ≤ 5) (hs : ab_Same (ac_PS 31) σ τ) (hz : ac_GZ τ 31) : ac_H τ κ na pa nm pm := by
  obtain ⟨h1, h2, h3, h4, h5, h6, h7, h8⟩ := h
  have e : ∀ f, ab_rd τ 36 f = ab_rd σ 36 f := fun f => hs.2.2 36 f (by unfold ac_PS; omega)
  have d : ∀ S, ac_so S → S ≠ 31 → ∀ a f, ac_PS S a f → ¬ ac_PS 31 a f := fun S hS hne a f u u2 => by
    have := ac_so_d hS (Or.inl rfl) hne
    unfold ac_PS at u u2
    omega
  unfold ac_H
  rw [e, e, e]
  refine ⟨h1, h2, h3, h4, h5, fun i i1 i2 => ?_, fun i i1 i2 => ?_, fun S hS => ?_⟩
  · have hS : ac_so (39 + 5 * ((ab_rd σ 36 2 - na + i) % 16)) := Or.inr ⟨((ab_rd σ 36 2 - na + i) % 16).toNat, by omega, by omega⟩
    exact (h6 i i1 i2).sameG hn hs (d _ hS (by omega))
  · have hS : ac_so (119 + 5 * i) := Or.inr ⟨16 + i.toNat, by omega, by omega⟩
    exact (h7 i i1 i2).sameG hn hs (d _ hS (by omega))
  · by_cases z : S = 31
    · rw [z]; exact hz
    · exact (h8 S hS).sameG hs (d S hS z)
def ac_dv (κ : ac_K) (v : Int → Int) (n : Int) : Int → Int := fun k => if 5 ≤ k ∧ k < 5 + κ 5 0 ∧ ac_bit (v 10) (k - 5) = 0 then (if v k + n < 24 then v k + n else 24) else v k
def ac_dyT (κ : ac_K) (n : Int) : Int := if 0 < κ 5 0 then (if 1 ≤ n ∧ n ≤ 24 then 0 else 2) else 1
theorem ac_dv_VB (h : ac_VB κ v) (hn : 1 ≤ n ∧ n ≤ 24) (hk : κ 5 0 ≤ 5) : ac_VB κ (ac_dv κ v n) := by
  obtain ⟨h1, h2, h3⟩ := h
  have e : ∀ k, ¬ (5 ≤ k ∧ k < 5 + κ 5 0) → ac_dv κ v n k = v k := fun k hk => if_neg (fun u => hk ⟨u.1, u.2.1⟩)
  refine ⟨fun b b1 b2 => ⟨?_, ?_⟩, ?_, ?_⟩
  · rw [e b (by omega)]; exact (h1 b b1 b2).1
  · have := (h1 b b1 b2).2
    unfold ac_dv
    split
    · split <;> omega
    · exact this
  · rw [e 10 (by omega)]; exact h2
  · rw [e 17 (by omega)]; exact h3
theorem ab_fl_skip {a n : Int} {g : Int → Int} (hn : 0 ≤ n) (h : g n = ab_rd σ a n) : ab_fl σ a (n + 1) g = ab_fl σ a n g := by
  rw [← ab_fl_succ hn]
  refine ab_sext rfl (fun _ => rfl) (fun x y => ?_)
  rw [ab_rdw, ab_rdf]
  by_cases e : x = a ∧ y = n
  · rw [if_pos e, if_neg (by omega), h, e.1, e.2]
  · rw [if_neg e]
theorem ca_dry_l (h : ac_CI σ K κ) (hS : ac_St σ 31 κ v) (hV : ac_VB κ v) (hn : 1 ≤ n ∧ n ≤ 24) : ∀ (d : Nat) (b : Int), 0 ≤ b → b + d = κ 5 0 → (ab_Run X 114 53 (2, 0, 0) [ab_R 1, ab_I n, ab_I b] [] (ab_fl σ 33 b (fun k => ac_dv κ v n (5 + k))) Q ↔ Q (some (ab_I 1)) (ab_fl σ 33 (κ 5 0) (fun k => ac_dv κ v n (5 + k)))) := by
  have g := h.1
  have h7 := h.2.1
  have hC := h.2.2.1
  have hv : K = 5 ∨ K = 329 := hC.1
  have sK := (g.kit hC.1).1
  have e5 := hC.2.2.1.1
  have n5 := h.2.2.2.1.1.2
  intro d
  induction d with
  | zero =>
    intro b hb hd
    obtain rfl : b = κ 5 0 := by omega
    rw [rX11_dry_53]
    simp (disch := omega) only [rX11_dry_54, rX11_dry_55, rX11_dry_58, rX11_dry_61, rX11_dry_107, rX11_dry_108, gS_1, g, h7, sK, e5, ne_eq, not_false_eq_true, not_true_eq_false, true_and, and_true, and_self, true_imp_iff, false_imp_iff, imp_self, Bool.not_false, Bool.not_true, reduceCtorEq, ab_isJ, ab_psh, ab_cats, Bool.false_eq_true, if_true, if_false, ab_shf, ab_shw, Int.le_refl, Classical.not_not, Int.zero_add, forall_const, ↓ab_itT, ↓ab_itF, ab_anT, ab_w32_id, ab_rdf_ne, ab_rdw_ne, ab_rdw_eq, ab_rdf_in, ab_td2, ab_tm2, or_true]
  | succ d ih =>
    intro b hb hd
    have key := ih (b + 1) (by omega) (by omega)
    obtain ⟨t1, t2, t3⟩ := hS.1 b hb (by omega)
    have t2 : ab_rd σ 33 b = v (5 + b) := t2
    have t3 : ab_rd σ 34 b = ac_bit (v 10) b := t3
    have vb := (hV.1 b hb (by omega)).2
    have eb : ac_dv κ v n (5 + b) = if ac_bit (v 10) b = 0 then (if v (5 + b) + n < 24 then v (5 + b) + n else 24) else v (5 + b) := by
      unfold ac_dv
      rw [show 5 + b - 5 = b by omega]
      by_cases z : ac_bit (v 10) b = 0
      · rw [if_pos ⟨by omega, by omega, z⟩, if_pos z]
      · rw [if_neg (fun u => z u.2.2), if_neg z]
    rw [rX11_dry_53, ← key]
    rcases ac_bit01 (x := v 10) (b := b) with z | z
    · rw [z] at t3
      rw [if_pos z] at eb
      rw [← ab_fl_succ hb, eb]
      clear ih key
      simp (disch := omega) only [rX11_dry_54, rX11_dry_55, rX11_dry_58, rX11_dry_61, rX11_dry_64, rX11_dry_65, rX11_dry_68, rX11_dry_71, rX11_dry_72, rX11_dry_73, rX11_dry_76, rX11_dry_77, rX11_dry_80, rX11_dry_83, rX11_dry_84, rX11_dry_86, rX11_dry_87, rX11_dry_90, rX11_dry_93, rX11_dry_94, rX11_dry_95, rX11_dry_96, rX11_dry_97, rX11_dry_100, rX11_dry_101, rX11_dry_104, gS_1, gP_1_1, gS_31, gP_31_1, gP_31_2, gS_33, gS_34, g, h7, sK, e5, t2, t3, ne_eq, not_false_eq_true, not_true_eq_false, true_and, and_true, and_self, true_imp_iff, false_imp_iff, imp_self, Bool.not_false, Bool.not_true, reduceCtorEq, ab_isJ, ab_psh, ab_cats, Bool.false_eq_true, if_true, if_false, ab_shf, ab_shw, Int.le_refl, Classical.not_not, Int.zero_add, forall_const, ↓ab_itT, ↓ab_itF, ab_anT, ab_w32_id, ab_rdf_ne, ab_rdw_ne, ab_rdw_eq, ab_rdf_in, ab_td2, ab_tm2, or_true]
    · rw [z] at t3
      rw [if_neg (by omega)] at eb
      rw [ab_fl_skip hb (by rw [eb, t2])]
      clear ih key
      simp (disch := omega) only [rX11_dry_54, rX11_dry_55, rX11_dry_58, rX11_dry_61, rX11_dry_64, rX11_dry_65, rX11_dry_68, rX11_dry_71, rX11_dry_72, rX11_dry_73, rX11_dry_76, rX11_dry_77, rX11_dry_80, rX11_dry_83, rX11_dry_84, rX11_dry_86, rX11_dry_87, rX11_dry_90, rX11_dry_93, rX11_dry_94, rX11_dry_95, rX11_dry_96, rX11_dry_97, rX11_dry_100, rX11_dry_101, rX11_dry_104, gS_1, gP_1_1, gS_31, gP_31_1, gP_31_2, gS_33, gS_34, g, h7, sK, e5, t3, ne_eq, not_false_eq_true, not_true_eq_false, true_and, and_true, and_self, true_imp_iff, false_imp_iff, imp_self, Bool.not_false, Bool.not_true, reduceCtorEq, ab_isJ, ab_psh, ab_cats, Bool.false_eq_true, if_true, if_false, ab_shf, ab_shw, Int.le_refl, Classical.not_not, Int.zero_add, forall_const, ↓ab_itT, ↓ab_itF, ab_anT, ab_w32_id, ab_rdf_ne, ab_rdw_ne, ab_rdw_eq, ab_rdf_in, ab_td2, ab_tm2, or_true]
theorem ca_dry (h : ac_CV σ K κ v na pa nm pm) (hQ1 : ac_dyT κ n ≠ 0 → ∀ τ, ab_Same ac_PC σ τ → ab_rd τ 1 8 = ac_dyT κ n → Q (some (ab_I 0)) τ) (hQ0 : ac_dyT κ n = 0 → ∀ τ, ab_Same ac_PX σ τ → ab_rd τ 1 8 = 0 → ac_CV τ K κ (ac_dv κ v n) (ac_kna na) (ac_kpa na pa v) nm pm → Q (some (ab_I 1)) τ) : ab_Do X 114 [ab_R 1, ab_I n] σ Q := by
  have hI := h.1
  have c := fun Q' => sp_hasKitchen (X := X) (Q := Q') hI
  have g := hI.1
  have n5 := hI.2.2.2.1.1
  by_cases hp : 0 < κ 5 0
  · by_cases hn : 1 ≤ n ∧ n ≤ 24
    · have eT : ac_dyT κ n = 0 := by unfold ac_dyT; rw [if_pos hp, if_pos hn]
      have h8 := h.sameC (ac_t8 (t := 0))
      simp (disch := omega) only [do_X11_dry, rX11_dry_0, rX11_dry_1, rX11_dry_2, rX11_dry_5, rX11_dry_8, rX11_dry_9, rX11_dry_12, rX11_dry_13, rX11_dry_14, rX11_dry_17, rX11_dry_18, rX11_dry_20, rX11_dry_23, rX11_dry_24, rX11_dry_27, rX11_dry_28, rX11_dry_31, rX11_dry_32, rX11_dry_35, rX11_dry_38, rX11_dry_39, rX11_dry_40, rX11_dry_41, rX11_dry_44, rX11_dry_45, rX11_dry_48, gS_1, gP_1_1, gP_1_2, gS_31, gS_36, g, c, if_pos hp, ne_eq, not_false_eq_true, not_true_eq_false, true_and, and_true, and_self, true_imp_iff, false_imp_iff, imp_self, Bool.not_false, Bool.not_true, reduceCtorEq, ab_isJ, ab_psh, ab_cats, Bool.false_eq_true, if_true, if_false, ab_shf, ab_shw, Int.le_refl, Classical.not_not, Int.zero_add, forall_const, ↓ab_itT, ↓ab_itF, ab_anT, ab_w32_id, ab_rdf_ne, ab_rdw_ne, ab_rdw_eq, ab_rdf_in, ab_td2, ab_tm2]
      refine sp_keep h8.1.1 h8.2.2.2.1 h8.2.1 n5.2 (fun τ hs hH => ?_)
      have sX : ab_Same ac_PX σ τ := (ac_t8 (t := 0)).cx.trans (hs.mono (fun _ _ u => Or.inr (Or.inl u)))
      have hI1 := hI.sameX sX
      have S1 : ac_St τ 31 κ v := h8.2.1.sameG n5.2 hs (fun a f u u2 => by unfold ac_PS at u; unfold ac_PK at u2; omega)
      have L := ca_dry_l (X := X) (Q := Q) hI1 S1 h.2.2.1 hn (κ 5 0).toNat 0 (by omega) (by omega)
      rw [ab_fl0 (Int.le_refl 0)] at L
      have w1 : ab_Same (ac_PS 31) τ (ab_fl τ 33 (κ 5 0) (fun k => ac_dv κ v n (5 + k))) := ab_Same.refl.fl (fun y _ _ => by unfold ac_PS; omega)
      have S2 : ac_St (ab_fl τ 33 (κ 5 0) (fun k => ac_dv κ v n (5 + k))) 31 κ (ac_dv κ v n) := by
        have e : ∀ k, ¬ (5 ≤ k ∧ k < 5 + κ 5 0) → ac_dv κ v n k = v k := fun k hk => if_neg (fun u => hk ⟨u.1, u.2.1⟩)
        refine ⟨fun b b1 b2 => ⟨?_, ?_, ?_⟩, fun p p1 p2 => ?_, ?_⟩
        · rw [ab_rdf_ne (by omega), e b (by omega)]; exact (S1.1 b b1 b2).1
        · exact ab_rdf_in ⟨b1, b2⟩
        · rw [ab_rdf_ne (by omega), e 10 (by omega)]; exact (S1.1 b b1 b2).2.2
        · rw [ab_rdf_ne (by omega), e _ (by omega)]; exact S1.2.1 p p1 p2
        · rw [ab_rdf_ne (by omega), e 17 (by omega)]; exact S1.2.2
      have z1 : ac_GZ (ab_fl τ 33 (κ 5 0) (fun k => ac_dv κ v n (5 + k))) 31 := fun k k1 k2 => by
        rw [ab_rdf_ne (by omega)]; exact hH.2.2.2.2.2.2.2 31 (Or.inl rfl) k k1 k2
      have sX2 := sX.trans (w1.mono (fun _ _ u => Or.inr (Or.inr u)))
      have key := hQ0 eT _ sX2 (by rw [ab_rdf_ne (by omega), hs.2.2 1 8 (by unfold ac_PK; omega), ab_rdw_eq]) (h.act sX2 S2 (ac_dv_VB h.2.2.1 hn n5.2) (hH.same31 n5.2 w1 z1))
      have k2 := L.mpr key
      simp (disch := omega) only [rX11_dry_51, rX11_dry_52, ne_eq, not_false_eq_true, not_true_eq_false, true_and, and_true, and_self, true_imp_iff, false_imp_iff, imp_self, Bool.not_false, Bool.not_true, reduceCtorEq, ab_isJ, ab_psh, ab_cats, Bool.false_eq_true, if_true, if_false, ab_shf, ab_shw, Int.le_refl, Classical.not_not, Int.zero_add, forall_const, ↓ab_itT, ↓ab_itF, ab_anT, ab_w32_id, ab_rdf_ne, ab_rdw_ne, ab_rdw_eq, ab_rdf_in, ab_td2, ab_tm2]
      exact k2
    · have eT : ac_dyT κ n = 2 := by unfold ac_dyT; rw [if_pos hp, if_neg hn]
      have hq' := hQ1 (by rw [eT]; decide) _ ac_cq8.1 ac_cq8.2
      rw [eT] at hq'
      by_cases hn1 : 1 ≤ n
      · simp (disch := omega) only [do_X11_dry, rX11_dry_0, rX11_dry_1, rX11_dry_2, rX11_dry_5, rX11_dry_8, rX11_dry_9, rX11_dry_12, rX11_dry_13, rX11_dry_14, rX11_dry_17, rX11_dry_18, rX11_dry_20, rX11_dry_23, rX11_dry_24, rX11_dry_27, rX11_dry_28, rX11_dry_31, rX11_dry_32, rX11_dry_35, rX11_dry_38, rX11_dry_39, gS_1, g, c, if_pos hp, ne_eq, not_false_eq_true, not_true_eq_false, true_and, and_true, and_self, true_imp_iff, false_imp_iff, imp_self, Bool.not_false, Bool.not_true, reduceCtorEq, ab_isJ, ab_psh, ab_cats, Bool.false_eq_true, if_true, if_false, ab_shf, ab_shw, Int.le_refl, Classical.not_not, Int.zero_add, forall_const, ↓ab_itT, ↓ab_itF, ab_anT, ab_w32_id, ab_rdf_ne, ab_rdw_ne, ab_rdw_eq, ab_rdf_in, ab_td2, ab_tm2, true_or]
        all_goals exact hq'
      · simp (disch := omega) only [do_X11_dry, rX11_dry_0, rX11_dry_1, rX11_dry_2, rX11_dry_5, rX11_dry_8, rX11_dry_9, rX11_dry_12, rX11_dry_13, rX11_dry_14, rX11_dry_17, rX11_dry_18, rX11_dry_20, rX11_dry_23, rX11_dry_24, rX11_dry_27, rX11_dry_28, rX11_dry_31, rX11_dry_32, rX11_dry_35, rX11_dry_38, rX11_dry_39, gS_1, g, c, if_pos hp, ne_eq, not_false_eq_true, not_true_eq_false, true_and, and_true, and_self, true_imp_iff, false_imp_iff, imp_self, Bool.not_false, Bool.not_true, reduceCtorEq, ab_isJ, ab_psh, ab_cats, Bool.false_eq_true, if_true, if_false, ab_shf, ab_shw, Int.le_refl, Classical.not_not, Int.zero_add, forall_const, ↓ab_itT, ↓ab_itF, ab_anT, ab_w32_id, ab_rdf_ne, ab_rdw_ne, ab_rdw_eq, ab_rdf_in, ab_td2, ab_tm2, true_or]
        all_goals exact hq'
  · have eT : ac_dyT κ n = 1 := by unfold ac_dyT; rw [if_neg hp]
    have hq' := hQ1 (by rw [eT]; decide) _ ac_cq8.1 ac_cq8.2
    rw [eT] at hq'
    simp (disch := omega) only [do_X11_dry, rX11_dry_0, rX11_dry_1, rX11_dry_2, rX11_dry_5, rX11_dry_8, rX11_dry_9, rX11_dry_12, rX11_dry_13, rX11_dry_14, rX11_dry_17, rX11_dry_18, rX11_dry_20, rX11_dry_23, rX11_dry_24, rX11_dry_27, rX11_dry_28, rX11_dry_31, rX11_dry_32, rX11_dry_35, rX11_dry_38, rX11_dry_39, gS_1, g, c, if_neg hp, ne_eq, not_false_eq_true, not_true_eq_false, true_and, and_true, and_self, true_imp_iff, false_imp_iff, imp_self, Bool.not_false, Bool.not_true, reduceCtorEq, ab_isJ, ab_psh, ab_cats, Bool.false_eq_true, if_true, if_false, ab_shf, ab_shw, Int.le_refl, Classical.not_not, Int.zero_add, forall_const, ↓ab_itT, ↓ab_itF, ab_anT, ab_w32_id, ab_rdf_ne, ab_rdw_ne, ab_rdw_eq, ab_rdf_in, ab_td2, ab_tm2, true_or]
    all_goals exact hq'
def ac_bv (v : Int → Int) (b : Int) : Int → Int := fun k => if k = b then 2 else v k
def ac_blT (κ : ac_K) (v : Int → Int) (b : Int) : Int := if ac_isB κ b then (if ac_bit (v 10) b = 1 ∨ v b = 2 then 5 else 0) else 1
theorem ca_boil (h : ac_CV σ K κ v na pa nm pm) (hQ1 : ac_blT κ v b ≠ 0 → ∀ τ, ab_Same ac_PC σ τ → ab_rd τ 1 8 = ac_blT κ v b → Q (some (ab_I 0)) τ) (hQ0 : ac_blT κ v b = 0 → ∀ τ, ab_Same ac_PX σ τ → ab_rd τ 1 8 = 0 → ac_CV τ K κ (ac_bv v b) (ac_kna na) (ac_kpa na pa v) nm pm → Q (some (ab_I 1)) τ) : ab_Do X 115 [ab_R 1, ab_I b] σ Q := by
  have hI := h.1
  have c := fun b Q' => sp_isBone (X := X) (Q := Q') (b := b) hI
  have g := hI.1
  have n5 := hI.2.2.2.1.1
  by_cases hb : ac_isB κ b
  · obtain ⟨t1, t2, t3⟩ := h.2.1.1 b hb.1 hb.2
    have t1 : ab_rd σ 32 b = v b := t1
    have t3 : ab_rd σ 34 b = ac_bit (v 10) b := t3
    have b01 := ac_bit01 (x := v 10) (b := b)
    by_cases hw : ac_bit (v 10) b = 1 ∨ v b = 2
    · have eT : ac_blT κ v b = 5 := by unfold ac_blT; rw [if_pos hb, if_pos hw]
      have hq' := hQ1 (by rw [eT]; decide) _ ac_cq8.1 ac_cq8.2
      rw [eT] at hq'
      by_cases hw1 : ac_bit (v 10) b = 1
      · rw [hw1] at t3
        simp (disch := omega) only [do_X11_boil, rX11_boil_0, rX11_boil_1, rX11_boil_2, rX11_boil_3, rX11_boil_6, rX11_boil_9, rX11_boil_10, rX11_boil_13, rX11_boil_14, rX11_boil_17, rX11_boil_20, rX11_boil_21, rX11_boil_22, rX11_boil_25, rX11_boil_26, rX11_boil_29, rX11_boil_32, rX11_boil_33, rX11_boil_34, rX11_boil_35, rX11_boil_38, rX11_boil_39, rX11_boil_42, rX11_boil_43, rX11_boil_46, rX11_boil_47, rX11_boil_50, rX11_boil_53, rX11_boil_54, gS_1, gP_1_1, gS_31, gP_31_0, gP_31_2, gS_32, gS_34, g, c, if_pos hb, t1, t3, ne_eq, not_false_eq_true, not_true_eq_false, true_and, and_true, and_self, true_imp_iff, false_imp_iff, imp_self, Bool.not_false, Bool.not_true, reduceCtorEq, ab_isJ, ab_psh, ab_cats, Bool.false_eq_true, if_true, if_false, ab_shf, ab_shw, Int.le_refl, Classical.not_not, Int.zero_add, forall_const, ↓ab_itT, ↓ab_itF, ab_anT, ab_w32_id, ab_rdf_ne, ab_rdw_ne, ab_rdw_eq, ab_rdf_in, ab_td2, ab_tm2, true_or, or_true]
        all_goals exact hq'
      · have z : ac_bit (v 10) b = 0 := by omega
        rw [z] at t3
        simp (disch := omega) only [do_X11_boil, rX11_boil_0, rX11_boil_1, rX11_boil_2, rX11_boil_3, rX11_boil_6, rX11_boil_9, rX11_boil_10, rX11_boil_13, rX11_boil_14, rX11_boil_17, rX11_boil_20, rX11_boil_21, rX11_boil_22, rX11_boil_25, rX11_boil_26, rX11_boil_29, rX11_boil_32, rX11_boil_33, rX11_boil_34, rX11_boil_35, rX11_boil_38, rX11_boil_39, rX11_boil_42, rX11_boil_43, rX11_boil_46, rX11_boil_47, rX11_boil_50, rX11_boil_53, rX11_boil_54, gS_1, gP_1_1, gS_31, gP_31_0, gP_31_2, gS_32, gS_34, g, c, if_pos hb, t1, t3, ne_eq, not_false_eq_true, not_true_eq_false, true_and, and_true, and_self, true_imp_iff, false_imp_iff, imp_self, Bool.not_false, Bool.not_true, reduceCtorEq, ab_isJ, ab_psh, ab_cats, Bool.false_eq_true, if_true, if_false, ab_shf, ab_shw, Int.le_refl, Classical.not_not, Int.zero_add, forall_const, ↓ab_itT, ↓ab_itF, ab_anT, ab_w32_id, ab_rdf_ne, ab_rdw_ne, ab_rdw_eq, ab_rdf_in, ab_td2, ab_tm2, true_or, or_true]
        all_goals exact hq'
    · have eT : ac_blT κ v b = 0 := by unfold ac_blT; rw [if_pos hb, if_neg hw]
      have z : ac_bit (v 10) b = 0 := by omega
      rw [z] at t3
      have z2 : ¬ v b = 2 := by omega
      have h8 := h.sameC (ac_t8 (t := 0))
      simp (disch := omega) only [do_X11_boil, rX11_boil_0, rX11_boil_1, rX11_boil_2, rX11_boil_3, rX11_boil_6, rX11_boil_9, rX11_boil_10, rX11_boil_13, rX11_boil_14, rX11_boil_17, rX11_boil_20, rX11_boil_21, rX11_boil_22, rX11_boil_25, rX11_boil_26, rX11_boil_29, rX11_boil_32, rX11_boil_33, rX11_boil_34, rX11_boil_35, rX11_boil_38, rX11_boil_39, rX11_boil_42, rX11_boil_43, rX11_boil_46, rX11_boil_47, rX11_boil_50, rX11_boil_53, rX11_boil_54, rX11_boil_55, rX11_boil_56, rX11_boil_59, rX11_boil_60, rX11_boil_63, gS_1, gP_1_1, gP_1_2, gS_31, gS_36, gP_31_0, gP_31_2, gS_32, gS_34, g, c, if_pos hb, t1, t3, ne_eq, not_false_eq_true, not_true_eq_false, true_and, and_true, and_self, true_imp_iff, false_imp_iff, imp_self, Bool.not_false, Bool.not_true, reduceCtorEq, ab_isJ, ab_psh, ab_cats, Bool.false_eq_true, if_true, if_false, ab_shf, ab_shw, Int.le_refl, Classical.not_not, Int.zero_add, forall_const, ↓ab_itT, ↓ab_itF, ab_anT, ab_w32_id, ab_rdf_ne, ab_rdw_ne, ab_rdw_eq, ab_rdf_in, ab_td2, ab_tm2, or_true]
      refine sp_keep h8.1.1 h8.2.2.2.1 h8.2.1 n5.2 (fun τ hs hH => ?_)
      have sX : ab_Same ac_PX σ τ := (ac_t8 (t := 0)).cx.trans (hs.mono (fun _ _ u => Or.inr (Or.inl u)))
      have hI1 := hI.sameX sX
      have g1 := hI1.1
      have S1 : ac_St τ 31 κ v := h8.2.1.sameG n5.2 hs (fun a f u u2 => by unfold ac_PS at u; unfold ac_PK at u2; omega)
      have w1 : ab_Same (ac_PS 31) τ (ab_wr τ 32 b 2) := ab_Same.refl.wr (by unfold ac_PS; omega)
      have S2 : ac_St (ab_wr τ 32 b 2) 31 κ (ac_bv v b) := by
        have e : ∀ k, k ≠ b → ac_bv v b k = v k := fun k hk => if_neg hk
        refine ⟨fun b' b1 b2 => ⟨?_, ?_, ?_⟩, fun p p1 p2 => ?_, ?_⟩
        · by_cases z : b' = b
          · rw [z]; exact ab_rdw_eq.trans (if_pos rfl).symm
          · rw [ab_rdw_ne (by omega), e b' z]; exact (S1.1 b' b1 b2).1
        · rw [ab_rdw_ne (by omega), e _ (by omega)]; exact (S1.1 b' b1 b2).2.1
        · rw [ab_rdw_ne (by omega), e 10 (by omega)]; exact (S1.1 b' b1 b2).2.2
        · rw [ab_rdw_ne (by omega), e _ (by omega)]; exact S1.2.1 p p1 p2
        · rw [ab_rdw_ne (by omega), e 17 (by omega)]; exact S1.2.2
      have V2 : ac_VB κ (ac_bv v b) := by
        obtain ⟨q1, q2, q3⟩ := h.2.2.1
        have e : ∀ k, k ≠ b → ac_bv v b k = v k := fun k hk => if_neg hk
        refine ⟨fun b' b1 b2 => ⟨?_, ?_⟩, ?_, ?_⟩
        · by_cases z : b' = b
          · rw [z, show ac_bv v b b = 2 from if_pos rfl]; omega
          · rw [e b' z]; exact (q1 b' b1 b2).1
        · rw [e _ (by omega)]; exact (q1 b' b1 b2).2
        · rw [e 10 (by omega)]; exact q2
        · rw [e 17 (by omega)]; exact q3
      have z1 : ac_GZ (ab_wr τ 32 b 2) 31 := fun k k1 k2 => by
        rw [ab_rdw_ne (by omega)]; exact hH.2.2.2.2.2.2.2 31 (Or.inl rfl) k k1 k2
      have sX2 := sX.trans (w1.mono (fun _ _ u => Or.inr (Or.inr u)))
      have key := hQ0 eT _ sX2 (by rw [ab_rdw_ne (by omega), hs.2.2 1 8 (by unfold ac_PK; omega), ab_rdw_eq]) (h.act sX2 S2 V2 (hH.same31 n5.2 w1 z1))
      simp (disch := omega) only [rX11_boil_66, rX11_boil_67, rX11_boil_70, rX11_boil_73, rX11_boil_74, rX11_boil_75, rX11_boil_76, rX11_boil_77, gS_1, gP_1_1, gS_31, gP_31_0, gS_32, g1, ne_eq, not_false_eq_true, not_true_eq_false, true_and, and_true, and_self, true_imp_iff, false_imp_iff, imp_self, Bool.not_false, Bool.not_true, reduceCtorEq, ab_isJ, ab_psh, ab_cats, Bool.false_eq_true, if_true, if_false, ab_shf, ab_shw, Int.le_refl, Classical.not_not, Int.zero_add, forall_const, ↓ab_itT, ↓ab_itF, ab_anT, ab_w32_id, ab_rdf_ne, ab_rdw_ne, ab_rdw_eq, ab_rdf_in, ab_td2, ab_tm2, or_true]
      all_goals exact key
  · have eT : ac_blT κ v b = 1 := by unfold ac_blT; rw [if_neg hb]
    have hq' := hQ1 (by rw [eT]; decide) _ ac_cq8.1 ac_cq8.2
    rw [eT] at hq'
    simp (disch := omega) only [do_X11_boil, rX11_boil_0, rX11_boil_1, rX11_boil_2, rX11_boil_3, rX11_boil_6, rX11_boil_9, rX11_boil_10, rX11_boil_13, rX11_boil_14, rX11_boil_17, rX11_boil_20, rX11_boil_21, rX11_boil_22, rX11_boil_25, rX11_boil_26, rX11_boil_29, rX11_boil_32, rX11_boil_33, rX11_boil_34, rX11_boil_35, rX11_boil_38, rX11_boil_39, rX11_boil_42, rX11_boil_43, rX11_boil_46, rX11_boil_47, rX11_boil_50, rX11_boil_53, rX11_boil_54, gS_1, g, c, if_neg hb, ne_eq, not_false_eq_true, not_true_eq_false, true_and, and_true, and_self, true_imp_iff, false_imp_iff, imp_self, Bool.not_false, Bool.not_true, reduceCtorEq, ab_isJ, ab_psh, ab_cats, Bool.false_eq_true, if_true, if_false, ab_shf, ab_shw, Int.le_refl, Classical.not_not, Int.zero_add, forall_const, ↓ab_itT, ↓ab_itF, ab_anT, ab_w32_id, ab_rdf_ne, ab_rdw_ne, ab_rdw_eq, ab_rdf_in, ab_td2, ab_tm2, true_or]
    all_goals exact hq'
def ac_sv (v : Int → Int) (s : Int) : Int → Int := fun k => if k = 17 then s else v k
def ac_seT (κ : ac_K) (s : Int) : Int := if 0 < κ 5 0 then (if 0 ≤ s ∧ s ≤ 65536 then 0 else 2) else 1
theorem ac_sv_VB (h : ac_VB κ v) (hs : 0 ≤ s ∧ s ≤ 65536) (hk : κ 5 0 ≤ 5) : ac_VB κ (ac_sv v s) := by
  obtain ⟨q1, q2, q3⟩ := h
  have e : ∀ k, k ≠ 17 → ac_sv v s k = v k := fun k hk => if_neg hk
  refine ⟨fun b' b1 b2 => ⟨?_, ?_⟩, ?_, ?_⟩
  · rw [e _ (by omega)]; exact (q1 b' b1 b2).1
  · rw [e _ (by omega)]; exact (q1 b' b1 b2).2
  · rw [e 10 (by omega)]; exact q2
  · rw [show ac_sv v s 17 = s from if_pos rfl]; exact hs
theorem ac_sv_St (h : ac_St σ 31 κ v) (hk : κ 5 0 ≤ 5) : ac_St (ab_wr σ 31 4 s) 31 κ (ac_sv v s) := by
  have e : ∀ k, k ≠ 17 → ac_sv v s k = v k := fun k hk => if_neg hk
  refine ⟨fun b' b1 b2 => ⟨?_, ?_, ?_⟩, fun p p1 p2 => ?_, ?_⟩
  · rw [ab_rdw_ne (by omega), e _ (by omega)]; exact (h.1 b' b1 b2).1
  · rw [ab_rdw_ne (by omega), e _ (by omega)]; exact (h.1 b' b1 b2).2.1
  · rw [ab_rdw_ne (by omega), e 10 (by omega)]; exact (h.1 b' b1 b2).2.2
  · rw [ab_rdw_ne (by omega), e _ (by omega)]; exact h.2.1 p p1 p2
  · rw [ab_rdw_eq]; exact (if_pos rfl).symm
theorem ca_seed (h : ac_CV σ K κ v na pa nm pm) (hQ1 : ac_seT κ s ≠ 0 → ∀ τ, ab_Same ac_PC σ τ → ab_rd τ 1 8 = ac_seT κ s → Q (some (ab_I 0)) τ) (hQ0 : ac_seT κ s = 0 → ∀ τ, ab_Same ac_PX σ τ → ab_rd τ 1 8 = 0 → ac_CV τ K κ (ac_sv v s) na pa nm pm → Q (some (ab_I 1)) τ) : ab_Do X 117 [ab_R 1, ab_I s] σ Q := by
  have hI := h.1
  have c := fun Q' => sp_hasKitchen (X := X) (Q := Q') hI
  have c2 := fun s Q' => sp_isSeed (X := X) (σ := σ) (Q := Q') (s := s)
  have g := hI.1
  have n5 := hI.2.2.2.1.1
  by_cases hp : 0 < κ 5 0
  · by_cases hn : 0 ≤ s ∧ s ≤ 65536
    · have eT : ac_seT κ s = 0 := by unfold ac_seT; rw [if_pos hp, if_pos hn]
      have h8 := h.sameC (ac_t8 (t := 0))
      have w1 : ab_Same (ac_PS 31) (ab_wr σ 1 8 0) (ab_wr (ab_wr σ 1 8 0) 31 4 s) := ab_Same.refl.wr (by unfold ac_PS; omega)
      have sX2 : ab_Same ac_PX σ (ab_wr (ab_wr σ 1 8 0) 31 4 s) := (ac_t8 (t := 0)).cx.trans (w1.mono (fun _ _ u => Or.inr (Or.inr u)))
      have z1 : ac_GZ (ab_wr (ab_wr σ 1 8 0) 31 4 s) 31 := fun k k1 k2 => by
        rw [ab_rdw_ne (by omega)]; exact h8.2.2.2.1.2.2.2.2.2.2.2 31 (Or.inl rfl) k k1 k2
      have key := hQ0 eT _ sX2 (by rw [ab_rdw_ne (by omega), ab_rdw_eq]) ⟨hI.sameX sX2, ac_sv_St h8.2.1 n5.2, ac_sv_VB h.2.2.1 hn n5.2, h8.2.2.2.1.same31 n5.2 w1 z1, h.2.2.2.2.1, h.2.2.2.2.2⟩
      simp (disch := omega) only [do_X11_seed, rX11_seed_0, rX11_seed_1, rX11_seed_2, rX11_seed_5, rX11_seed_8, rX11_seed_9, rX11_seed_12, rX11_seed_13, rX11_seed_16, rX11_seed_19, rX11_seed_20, rX11_seed_23, rX11_seed_24, rX11_seed_27, rX11_seed_28, rX11_seed_31, rX11_seed_34, rX11_seed_35, rX11_seed_36, rX11_seed_37, rX11_seed_40, rX11_seed_41, rX11_seed_44, rX11_seed_45, gS_1, gP_1_1, gS_31, g, c, c2, if_pos hp, if_pos hn, ab_ifT, ne_eq, not_false_eq_true, not_true_eq_false, true_and, and_true, and_self, true_imp_iff, false_imp_iff, imp_self, Bool.not_false, Bool.not_true, reduceCtorEq, ab_isJ, ab_psh, ab_cats, Bool.false_eq_true, if_true, if_false, ab_shf, ab_shw, Int.le_refl, Classical.not_not, Int.zero_add, forall_const, ↓ab_itT, ↓ab_itF, ab_anT, ab_w32_id, ab_rdf_ne, ab_rdw_ne, ab_rdw_eq, ab_rdf_in, ab_td2, ab_tm2, or_true]
      all_goals exact key
    · have eT : ac_seT κ s = 2 := by unfold ac_seT; rw [if_pos hp, if_neg hn]
      have hq' := hQ1 (by rw [eT]; decide) _ ac_cq8.1 ac_cq8.2
      rw [eT] at hq'
      simp (disch := omega) only [do_X11_seed, rX11_seed_0, rX11_seed_1, rX11_seed_2, rX11_seed_5, rX11_seed_8, rX11_seed_9, rX11_seed_12, rX11_seed_13, rX11_seed_16, rX11_seed_19, rX11_seed_20, rX11_seed_23, rX11_seed_24, rX11_seed_27, rX11_seed_28, rX11_seed_31, rX11_seed_34, rX11_seed_35, rX11_seed_36, rX11_seed_37, rX11_seed_40, rX11_seed_41, rX11_seed_44, rX11_seed_45, gS_1, g, c, c2, if_pos hp, if_neg hn, ab_ifF, ne_eq, not_false_eq_true, not_true_eq_false, true_and, and_true, and_self, true_imp_iff, false_imp_iff, imp_self, Bool.not_false, Bool.not_true, reduceCtorEq, ab_isJ, ab_psh, ab_cats, Bool.false_eq_true, if_true, if_false, ab_shf, ab_shw, Int.le_refl, Classical.not_not, Int.zero_add, forall_const, ↓ab_itT, ↓ab_itF, ab_anT, ab_w32_id, ab_rdf_ne, ab_rdw_ne, ab_rdw_eq, ab_rdf_in, ab_td2, ab_tm2, true_or]
      all_goals exact hq'
  · have eT : ac_seT κ s = 1 := by unfold ac_seT; rw [if_neg hp]
    have hq' := hQ1 (by rw [eT]; decide) _ ac_cq8.1 ac_cq8.2
    rw [eT] at hq'
    simp (disch := omega) only [do_X11_seed, rX11_seed_0, rX11_seed_1, rX11_seed_2, rX11_seed_5, rX11_seed_8, rX11_seed_9, rX11_seed_12, rX11_seed_13, rX11_seed_16, rX11_seed_19, rX11_seed_20, rX11_seed_23, rX11_seed_24, rX11_seed_27, rX11_seed_28, rX11_seed_31, rX11_seed_34, rX11_seed_35, rX11_seed_36, rX11_seed_37, rX11_seed_40, rX11_seed_41, rX11_seed_44, rX11_seed_45, gS_1, g, c, if_neg hp, ne_eq, not_false_eq_true, not_true_eq_false, true_and, and_true, and_self, true_imp_iff, false_imp_iff, imp_self, Bool.not_false, Bool.not_true, reduceCtorEq, ab_isJ, ab_psh, ab_cats, Bool.false_eq_true, if_true, if_false, ab_shf, ab_shw, Int.le_refl, Classical.not_not, Int.zero_add, forall_const, ↓ab_itT, ↓ab_itF, ab_anT, ab_w32_id, ab_rdf_ne, ab_rdw_ne, ab_rdw_eq, ab_rdf_in, ab_td2, ab_tm2, true_or]
    all_goals exact hq'
def ac_unT (na : Int) : Int := if 0 < na then 0 else 6
theorem ca_undo (h : ac_CV σ K κ v na pa nm pm) (hQ1 : ac_unT na ≠ 0 → ∀ τ, ab_Same ac_PC σ τ → ab_rd τ 1 8 = ac_unT na → Q (some (ab_I 0)) τ) (hQ0 : ac_unT na = 0 → ∀ τ, ab_Same ac_PX σ τ → ab_rd τ 1 8 = 0 → ac_CV τ K κ (pa (na - 1)) (na - 1) pa nm pm → Q (some (ab_I 1)) τ) : ab_Do X 118 [ab_R 1] σ Q := by
  have hI := h.1
  have g := hI.1
  have n5 := hI.2.2.2.1.1
  have e3 := h.2.2.2.1.2.1
  have nb := h.2.2.2.1.2.2.2.1
  by_cases hp : 0 < na
  · have eT : ac_unT na = 0 := if_pos hp
    have h8 := h.sameC (ac_t8 (t := 0))
    simp (disch := omega) only [do_X11_undo, rX11_undo_0, rX11_undo_1, rX11_undo_2, rX11_undo_5, rX11_undo_8, rX11_undo_11, rX11_undo_12, rX11_undo_15, rX11_undo_17, rX11_undo_20, rX11_undo_21, rX11_undo_24, rX11_undo_27, rX11_undo_28, rX11_undo_29, rX11_undo_30, rX11_undo_33, rX11_undo_34, rX11_undo_37, gS_1, gP_1_1, gP_1_2, gS_31, gS_36, g, e3, ne_eq, not_false_eq_true, not_true_eq_false, true_and, and_true, and_self, true_imp_iff, false_imp_iff, imp_self, Bool.not_false, Bool.not_true, reduceCtorEq, ab_isJ, ab_psh, ab_cats, Bool.false_eq_true, if_true, if_false, ab_shf, ab_shw, Int.le_refl, Classical.not_not, Int.zero_add, forall_const, ↓ab_itT, ↓ab_itF, ab_anT, ab_w32_id, ab_rdf_ne, ab_rdw_ne, ab_rdw_eq, ab_rdf_in, ab_td2, ab_tm2]
    refine sp_takeBack h8.1.1 h8.2.2.2.1 (by omega) n5.2 (fun τ hs hH hS => ?_)
    have sX : ab_Same ac_PX σ τ := (ac_t8 (t := 0)).cx.trans (hs.mono (fun a f u => by
      rcases u with u | u
      · exact Or.inr (Or.inr u)
      · exact Or.inr (Or.inl (Or.inl ⟨u.1, u.2.1⟩))))
    have key := hQ0 eT τ sX (by rw [hs.2.2 1 8 (by unfold ac_PS; omega), ab_rdw_eq]) ⟨hI.sameX sX, hS, h.2.2.2.2.1 (na - 1) (by omega) (by omega), hH, fun i i1 i2 => h.2.2.2.2.1 i i1 (by omega), h.2.2.2.2.2⟩
    simp (disch := omega) only [rX11_undo_40, rX11_undo_41, ne_eq, not_false_eq_true, not_true_eq_false, true_and, and_true, and_self, true_imp_iff, false_imp_iff, imp_self, Bool.not_false, Bool.not_true, reduceCtorEq, ab_isJ, ab_psh, ab_cats, Bool.false_eq_true, if_true, if_false, ab_shf, ab_shw, Int.le_refl, Classical.not_not, Int.zero_add, forall_const, ↓ab_itT, ↓ab_itF, ab_anT, ab_w32_id, ab_rdf_ne, ab_rdw_ne, ab_rdw_eq, ab_rdf_in, ab_td2, ab_tm2, or_true]
    all_goals exact key
  · have eT : ac_unT na = 6 := if_neg hp
    have hq' := hQ1 (by rw [eT]; decide) _ ac_cq8.1 ac_cq8.2
    rw [eT] at hq'
    simp (disch := omega) only [do_X11_undo, rX11_undo_0, rX11_undo_1, rX11_undo_2, rX11_undo_5, rX11_undo_8, rX11_undo_11, rX11_undo_12, rX11_undo_15, rX11_undo_17, rX11_undo_20, rX11_undo_21, rX11_undo_24, rX11_undo_27, rX11_undo_28, rX11_undo_29, rX11_undo_30, rX11_undo_33, rX11_undo_34, rX11_undo_37, rX11_undo_40, rX11_undo_41, gS_1, gP_1_2, gS_36, g, e3, ne_eq, not_false_eq_true, not_true_eq_false, true_and, and_true, and_self, true_imp_iff, false_imp_iff, imp_self, Bool.not_false, Bool.not_true, reduceCtorEq, ab_isJ, ab_psh, ab_cats, Bool.false_eq_true, if_true, if_false, ab_shf, ab_shw, Int.le_refl, Classical.not_not, Int.zero_add, forall_const, ↓ab_itT, ↓ab_itF, ab_anT, ab_w32_id, ab_rdf_ne, ab_rdw_ne, ab_rdw_eq, ab_rdf_in, ab_td2, ab_tm2, true_or]
    all_goals exact hq'
def ac_maT (κ : ac_K) (nm : Int) : Int := if 0 < κ 5 0 then (if nm < 3 then 0 else 3) else 1
theorem ca_mark (h : ac_CV σ K κ v na pa nm pm) (hQ1 : ac_maT κ nm ≠ 0 → ∀ τ, ab_Same ac_PC σ τ → ab_rd τ 1 8 = ac_maT κ nm → Q (some (ab_I (-1))) τ) (hQ0 : ac_maT κ nm = 0 → ∀ τ, ab_Same ac_PX σ τ → ab_rd τ 1 8 = 0 → ac_CV τ K κ v na pa (nm + 1) (fun i => if i = nm then v else pm i) → Q (some (ab_I nm)) τ) : ab_Do X 119 [ab_R 1] σ Q := by
  have hI := h.1
  have c := fun Q' => sp_hasKitchen (X := X) (Q := Q') hI
  have g := hI.1
  have n5 := hI.2.2.2.1.1
  have e4 := h.2.2.2.1.2.2.1
  have mb := h.2.2.2.1.2.2.2.2.1
  by_cases hp : 0 < κ 5 0
  · by_cases hm : nm < 3
    · have eT : ac_maT κ nm = 0 := by unfold ac_maT; rw [if_pos hp, if_pos hm]
      have h8 := h.sameC (ac_t8 (t := 0))
      simp (disch := omega) only [do_X11_mark, rX11_mark_0, rX11_mark_1, rX11_mark_2, rX11_mark_5, rX11_mark_8, rX11_mark_9, rX11_mark_12, rX11_mark_13, rX11_mark_16, rX11_mark_19, rX11_mark_22, rX11_mark_23, rX11_mark_26, rX11_mark_27, rX11_mark_30, rX11_mark_31, rX11_mark_34, rX11_mark_37, rX11_mark_38, rX11_mark_41, rX11_mark_42, rX11_mark_45, do_X3_hasRoomForMark, rX3_hasRoomForMark_0, rX3_hasRoomForMark_1, rX3_hasRoomForMark_4, rX3_hasRoomForMark_5, rX3_hasRoomForMark_8, rX3_hasRoomForMark_9, rX3_hasRoomForMark_12, rX3_hasRoomForMark_13, gS_1, gP_1_1, gP_1_2, gS_31, gS_36, g, c, if_pos hp, e4, ne_eq, not_false_eq_true, not_true_eq_false, true_and, and_true, and_self, true_imp_iff, false_imp_iff, imp_self, Bool.not_false, Bool.not_true, reduceCtorEq, ab_isJ, ab_psh, ab_cats, Bool.false_eq_true, if_true, if_false, ab_shf, ab_shw, Int.le_refl, Classical.not_not, Int.zero_add, forall_const, ↓ab_itT, ↓ab_itF, ab_anT, ab_w32_id, ab_rdf_ne, ab_rdw_ne, ab_rdw_eq, ab_rdf_in, ab_td2, ab_tm2, or_true]
      refine sp_setMark h8.1.1 h8.2.2.2.1 h8.2.1 hm n5.2 (fun τ hs hH => ?_)
      have sX : ab_Same ac_PX σ τ := (ac_t8 (t := 0)).cx.trans (hs.mono (fun _ _ u => Or.inr (Or.inl u)))
      have S1 : ac_St τ 31 κ v := h8.2.1.sameG n5.2 hs (fun a f u u2 => by unfold ac_PS at u; unfold ac_PK at u2; omega)
      have key := hQ0 eT τ sX (by rw [hs.2.2 1 8 (by unfold ac_PK; omega), ab_rdw_eq]) ⟨hI.sameX sX, S1, h.2.2.1, hH, h.2.2.2.2.1, fun i i1 i2 => by
        dsimp only
        by_cases z : i = nm
        · rw [if_pos z]; exact h.2.2.1
        · rw [if_neg z]; exact h.2.2.2.2.2 i i1 (by omega)⟩
      simp (disch := omega) only [rX11_mark_48, rX11_mark_51, rX11_mark_52, ne_eq, not_false_eq_true, not_true_eq_false, true_and, and_true, and_self, true_imp_iff, false_imp_iff, imp_self, Bool.not_false, Bool.not_true, reduceCtorEq, ab_isJ, ab_psh, ab_cats, Bool.false_eq_true, if_true, if_false, ab_shf, ab_shw, Int.le_refl, Classical.not_not, Int.zero_add, forall_const, ↓ab_itT, ↓ab_itF, ab_anT, ab_w32_id, ab_rdf_ne, ab_rdw_ne, ab_rdw_eq, ab_rdf_in, ab_td2, ab_tm2]
      all_goals exact key
    · have eT : ac_maT κ nm = 3 := by unfold ac_maT; rw [if_pos hp, if_neg hm]
      have hq' := hQ1 (by rw [eT]; decide) _ ac_cq8.1 ac_cq8.2
      rw [eT] at hq'
      simp (disch := omega) only [do_X11_mark, rX11_mark_0, rX11_mark_1, rX11_mark_2, rX11_mark_5, rX11_mark_8, rX11_mark_9, rX11_mark_12, rX11_mark_13, rX11_mark_16, rX11_mark_19, rX11_mark_22, rX11_mark_23, rX11_mark_26, rX11_mark_27, rX11_mark_30, rX11_mark_31, rX11_mark_34, rX11_mark_37, rX11_mark_38, rX11_mark_41, rX11_mark_42, rX11_mark_45, rX11_mark_48, rX11_mark_51, rX11_mark_52, do_X3_hasRoomForMark, rX3_hasRoomForMark_0, rX3_hasRoomForMark_1, rX3_hasRoomForMark_4, rX3_hasRoomForMark_5, rX3_hasRoomForMark_8, rX3_hasRoomForMark_9, rX3_hasRoomForMark_12, rX3_hasRoomForMark_13, gS_1, gP_1_2, gS_36, g, c, if_pos hp, e4, ne_eq, not_false_eq_true, not_true_eq_false, true_and, and_true, and_self, true_imp_iff, false_imp_iff, imp_self, Bool.not_false, Bool.not_true, reduceCtorEq, ab_isJ, ab_psh, ab_cats, Bool.false_eq_true, if_true, if_false, ab_shf, ab_shw, Int.le_refl, Classical.not_not, Int.zero_add, forall_const, ↓ab_itT, ↓ab_itF, ab_anT, ab_w32_id, ab_rdf_ne, ab_rdw_ne, ab_rdw_eq, ab_rdf_in, ab_td2, ab_tm2, true_or]
      all_goals exact hq'
  · have eT : ac_maT κ nm = 1 := by unfold ac_maT; rw [if_neg hp]
    have hq' := hQ1 (by rw [eT]; decide) _ ac_cq8.1 ac_cq8.2
    rw [eT] at hq'
    simp (disch := omega) only [do_X11_mark, rX11_mark_0, rX11_mark_1, rX11_mark_2, rX11_mark_5, rX11_mark_8, rX11_mark_9, rX11_mark_12, rX11_mark_13, rX11_mark_16, rX11_mark_19, rX11_mark_22, rX11_mark_23, rX11_mark_26, rX11_mark_27, rX11_mark_30, rX11_mark_31, rX11_mark_34, rX11_mark_37, rX11_mark_38, rX11_mark_41, rX11_mark_42, rX11_mark_45, rX11_mark_48, rX11_mark_51, rX11_mark_52, gS_1, g, c, if_neg hp, ne_eq, not_false_eq_true, not_true_eq_false, true_and, and_true, and_self, true_imp_iff, false_imp_iff, imp_self, Bool.not_false, Bool.not_true, reduceCtorEq, ab_isJ, ab_psh, ab_cats, Bool.false_eq_true, if_true, if_false, ab_shf, ab_shw, Int.le_refl, Classical.not_not, Int.zero_add, forall_const, ↓ab_itT, ↓ab_itF, ab_anT, ab_w32_id, ab_rdf_ne, ab_rdw_ne, ab_rdw_eq, ab_rdf_in, ab_td2, ab_tm2, true_or]
    all_goals exact hq'
def ac_bkT (nm k : Int) : Int := if 0 ≤ k ∧ k < nm then 0 else 1
theorem ca_back (h : ac_CV σ K κ v na pa nm pm) (hQ1 : ac_bkT nm k ≠ 0 → ∀ τ, ab_Same ac_PC σ τ → ab_rd τ 1 8 = ac_bkT nm k → Q (some (ab_I 0)) τ) (hQ0 : ac_bkT nm k = 0 → ∀ τ, ab_Same ac_PX σ τ → ab_rd τ 1 8 = 0 → ac_CV τ K κ (pm k) 0 pa nm pm → Q (some (ab_I 1)) τ) : ab_Do X 120 [ab_R 1, ab_I k] σ Q := by
  have hI := h.1
  have g := hI.1
  have n5 := hI.2.2.2.1.1
  have e4 := h.2.2.2.1.2.2.1
  have mb := h.2.2.2.1.2.2.2.2.1
  by_cases hp : 0 ≤ k ∧ k < nm
  · have eT : ac_bkT nm k = 0 := if_pos hp
    have h8 := h.sameC (ac_t8 (t := 0))
    simp (disch := omega) only [do_X11_back, rX11_back_0, rX11_back_1, rX11_back_2, rX11_back_5, rX11_back_6, rX11_back_7, rX11_back_10, rX11_back_13, rX11_back_16, rX11_back_17, rX11_back_20, rX11_back_21, rX11_back_24, rX11_back_25, rX11_back_28, rX11_back_31, rX11_back_32, rX11_back_33, rX11_back_34, rX11_back_37, rX11_back_38, rX11_back_39, rX11_back_42, gS_1, gP_1_1, gP_1_2, gS_31, gS_36, g, e4, ne_eq, not_false_eq_true, not_true_eq_false, true_and, and_true, and_self, true_imp_iff, false_imp_iff, imp_self, Bool.not_false, Bool.not_true, reduceCtorEq, ab_isJ, ab_psh, ab_cats, Bool.false_eq_true, if_true, if_false, ab_shf, ab_shw, Int.le_refl, Classical.not_not, Int.zero_add, forall_const, ↓ab_itT, ↓ab_itF, ab_anT, ab_w32_id, ab_rdf_ne, ab_rdw_ne, ab_rdw_eq, ab_rdf_in, ab_td2, ab_tm2]
    refine sp_goTo h8.1.1 h8.2.2.2.1 hp n5.2 (fun τ hs hH hS => ?_)
    have sX : ab_Same ac_PX σ τ := (ac_t8 (t := 0)).cx.trans (hs.mono (fun a f u => by
      rcases u with u | u
      · exact Or.inr (Or.inr u)
      · exact Or.inr (Or.inl (Or.inl (by omega)))))
    have key := hQ0 eT τ sX (by rw [hs.2.2 1 8 (by unfold ac_PS; omega), ab_rdw_eq]) ⟨hI.sameX sX, hS, h.2.2.2.2.2 k hp.1 hp.2, hH, fun i i1 i2 => by omega, h.2.2.2.2.2⟩
    simp (disch := omega) only [rX11_back_45, rX11_back_46, ne_eq, not_false_eq_true, not_true_eq_false, true_and, and_true, and_self, true_imp_iff, false_imp_iff, imp_self, Bool.not_false, Bool.not_true, reduceCtorEq, ab_isJ, ab_psh, ab_cats, Bool.false_eq_true, if_true, if_false, ab_shf, ab_shw, Int.le_refl, Classical.not_not, Int.zero_add, forall_const, ↓ab_itT, ↓ab_itF, ab_anT, ab_w32_id, ab_rdf_ne, ab_rdw_ne, ab_rdw_eq, ab_rdf_in, ab_td2, ab_tm2, or_true]
    all_goals exact key
  · have eT : ac_bkT nm k = 1 := if_neg hp
    have hq' := hQ1 (by rw [eT]; decide) _ ac_cq8.1 ac_cq8.2
    rw [eT] at hq'
    by_cases hk : 0 ≤ k
    · simp (disch := omega) only [do_X11_back, rX11_back_0, rX11_back_1, rX11_back_2, rX11_back_5, rX11_back_6, rX11_back_7, rX11_back_10, rX11_back_13, rX11_back_16, rX11_back_17, rX11_back_20, rX11_back_21, rX11_back_24, rX11_back_25, rX11_back_28, rX11_back_31, rX11_back_32, rX11_back_33, rX11_back_34, rX11_back_37, rX11_back_38, rX11_back_39, rX11_back_42, rX11_back_45, rX11_back_46, gS_1, gP_1_2, gS_36, g, e4, ne_eq, not_false_eq_true, not_true_eq_false, true_and, and_true, and_self, true_imp_iff, false_imp_iff, imp_self, Bool.not_false, Bool.not_true, reduceCtorEq, ab_isJ, ab_psh, ab_cats, Bool.false_eq_true, if_true, if_false, ab_shf, ab_shw, Int.le_refl, Classical.not_not, Int.zero_add, forall_const, ↓ab_itT, ↓ab_itF, ab_anT, ab_w32_id, ab_rdf_ne, ab_rdw_ne, ab_rdw_eq, ab_rdf_in, ab_td2, ab_tm2, true_or]
      all_goals exact hq'
    · simp (disch := omega) only [do_X11_back, rX11_back_0, rX11_back_1, rX11_back_2, rX11_back_5, rX11_back_6, rX11_back_7, rX11_back_10, rX11_back_13, rX11_back_16, rX11_back_17, rX11_back_20, rX11_back_21, rX11_back_24, rX11_back_25, rX11_back_28, rX11_back_31, rX11_back_32, rX11_back_33, rX11_back_34, rX11_back_37, rX11_back_38, rX11_back_39, rX11_back_42, rX11_back_45, rX11_back_46, gS_1, gP_1_2, gS_36, g, e4, ne_eq, not_false_eq_true, not_true_eq_false, true_and, and_true, and_self, true_imp_iff, false_imp_iff, imp_self, Bool.not_false, Bool.not_true, reduceCtorEq, ab_isJ, ab_psh, ab_cats, Bool.false_eq_true, if_true, if_false, ab_shf, ab_shw, Int.le_refl, Classical.not_not, Int.zero_add, forall_const, ↓ab_itT, ↓ab_itF, ab_anT, ab_w32_id, ab_rdf_ne, ab_rdw_ne, ab_rdw_eq, ab_rdf_in, ab_td2, ab_tm2, true_or]
      all_goals exact hq'
end
