/-! MAKING: kitchens, history, games at their places (written by gen/gcons3.py) -/
section
variable {X : ab_X} {σ τ υ σ0 : ab_S} {Q : Option ab_V → ab_S → Prop} {a z z' A B i j n t k2 : Int} {P D : Int → Prop} {f cl sl : Nat}
theorem al_no2 {p q b : Int} (hP : ∀ x, P x → x < a) (h : a < p ∧ a < q ∧ p ≠ b ∧ q ≠ b ∧ a ≤ b) : ¬ ((P b ∨ b = p) ∨ b = q) := fun u => by
  rcases u with (u | u) | u
  · have := hP _ u; omega
  · omega
  · omega
theorem al_mulT_153 : ∀ i : Fin 12, ab_shT (153 + 1 + (i.val : Int)) = (21, 12) ∧ al_iL.getD (153 + 1 + (i.val : Int)).toNat [] = [] := by decide +kernel
theorem al_mulx_153 : ∀ x : Int, 153 < x → x ≤ 153 + 12 → ab_shT x = (21, 12) ∧ al_iL.getD x.toNat [] = [] := fun x x1 x2 => by
  have t := al_mulT_153 ⟨(x - 154).toNat, by omega⟩
  dsimp only at t
  rw [show (153 : Int) + 1 + ((x - 154).toNat : Int) = x by omega] at t
  exact t
theorem al_mulU_153 : ∀ i : Fin 12, al_ini 153 (i.val : Int) = 153 + 1 + (i.val : Int) := by decide +kernel
theorem al_muli_153 : ∀ f : Int, 0 ≤ f → al_ini 153 f = if 0 ≤ f ∧ f < 12 then 153 + 1 + f else 0 := fun f f1 => by
  by_cases z : f < 12
  · rw [if_pos ⟨f1, z⟩]
    have t := al_mulU_153 ⟨f.toNat, by omega⟩
    dsimp only at t
    rwa [Int.toNat_of_nonneg f1] at t
  · rw [if_neg (by omega), al_row (l := [154, 155, 156, 157, 158, 159, 160, 161, 162, 163, 164, 165]) (by decide +kernel)]
    exact ac_getD_ge (by simp only [List.length_cons, List.length_nil]; omega)
theorem al_mulT_166 : ∀ i : Fin 12, ab_shT (166 + 1 + (i.val : Int)) = (21, 12) ∧ al_iL.getD (166 + 1 + (i.val : Int)).toNat [] = [] := by decide +kernel
theorem al_mulx_166 : ∀ x : Int, 166 < x → x ≤ 166 + 12 → ab_shT x = (21, 12) ∧ al_iL.getD x.toNat [] = [] := fun x x1 x2 => by
  have t := al_mulT_166 ⟨(x - 167).toNat, by omega⟩
  dsimp only at t
  rw [show (166 : Int) + 1 + ((x - 167).toNat : Int) = x by omega] at t
  exact t
theorem al_mulU_166 : ∀ i : Fin 12, al_ini 166 (i.val : Int) = 166 + 1 + (i.val : Int) := by decide +kernel
theorem al_muli_166 : ∀ f : Int, 0 ≤ f → al_ini 166 f = if 0 ≤ f ∧ f < 12 then 166 + 1 + f else 0 := fun f f1 => by
  by_cases z : f < 12
  · rw [if_pos ⟨f1, z⟩]
    have t := al_mulU_166 ⟨f.toNat, by omega⟩
    dsimp only at t
    rwa [Int.toNat_of_nonneg f1] at t
  · rw [if_neg (by omega), al_row (l := [167, 168, 169, 170, 171, 172, 173, 174, 175, 176, 177, 178]) (by decide +kernel)]
    exact ac_getD_ge (by simp only [List.length_cons, List.length_nil]; omega)
set_option maxHeartbeats 8000000 in
theorem cm_X4_init_5 (hP : ∀ x, P x → x < 5) (h : al_Z σ σ 5 6 P (fun _ => False)) (hQ : ∀ τ, al_Y σ τ 5 31 P → Q none τ) : ab_Do X 26 [ab_R 5] σ Q := by
  have kq : ab_Run X 26 4 (2, 25, 186) [ab_R 5, ab_R 0] [] σ Q := by
    refine cs_X4_init_0 h (by decide +kernel) (by omega) ?_
    have g1 := al_Z.parr (z' := 7) (f0 := 6) h (t := 26) (n := 5) (by decide +kernel) (by decide) (by decide +kernel) (by decide)
    generalize ab_wr (ab_new σ 26 5) 5 6 6 = τ1 at g1 ⊢
    obtain ⟨h1, q1, e1⟩ := g1
    have E6_1 := al_E.zero q1
    refine cs_X4_init_1 h1 (by decide +kernel) (by omega) ?_
    have g2 := al_Z.parr (z' := 8) (f0 := 8) h1 (t := 27) (n := 6) (by decide +kernel) (by decide) (by decide +kernel) (by decide)
    generalize ab_wr (ab_new τ1 27 6) 5 8 7 = τ2 at g2 ⊢
    obtain ⟨h2, q2, e2⟩ := g2
    have E6_2 := al_E.same E6_1 (fun f => e2 6 f (by decide) (by decide))
    have E7_2 := al_E.zero q2
    refine cs_X4_init_2 h2 (by decide +kernel) (by omega) ?_
    have h3 := al_Z.arr (z' := 9) (f0 := 13) h2 (t := 21) (n := 4) (by decide +kernel) (by decide +kernel) (by decide) (by decide +kernel) (by decide)
    have e3 : ∀ x f, x < 8 → x ≠ 5 → ab_rd (ab_wr (ab_new τ2 21 4) 5 13 8) x f = ab_rd τ2 x f := fun x f q1 q2 => by rw [ab_rdw_ne (Or.inl q2), ab_rdn, if_neg (by have := h2.1; omega)]
    generalize ab_wr (ab_new τ2 21 4) 5 13 8 = τ3 at h3 e3 ⊢
    have E6_3 := al_E.same E6_2 (fun f => e3 6 f (by decide) (by decide))
    have E7_3 := al_E.same E7_2 (fun f => e3 7 f (by decide) (by decide))
    refine cs_X4_init_3 h3 (by decide +kernel) (by omega) ?_
    have h4 := al_Z.arr (z' := 10) (f0 := 14) h3 (t := 21) (n := 4) (by decide +kernel) (by decide +kernel) (by decide) (by decide +kernel) (by decide)
    have e4 : ∀ x f, x < 9 → x ≠ 5 → ab_rd (ab_wr (ab_new τ3 21 4) 5 14 9) x f = ab_rd τ3 x f := fun x f q1 q2 => by rw [ab_rdw_ne (Or.inl q2), ab_rdn, if_neg (by have := h3.1; omega)]
    generalize ab_wr (ab_new τ3 21 4) 5 14 9 = τ4 at h4 e4 ⊢
    have E6_4 := al_E.same E6_3 (fun f => e4 6 f (by decide) (by decide))
    have E7_4 := al_E.same E7_3 (fun f => e4 7 f (by decide) (by decide))
    refine cs_X4_init_i0 ?_
    refine cs_X4_init_e0_0 h4 (by decide +kernel) (A := 6) (((h4.2.2.2.2.1 6 (by decide)).1 (Or.inl (Or.inl (Or.inl (Or.inr rfl))))).trans (by decide +kernel)) (by decide) (by decide) (by decide +kernel) (by decide) (by omega) ?_
    refine cn_X1_init (by decide +kernel) (by decide +kernel) (by decide +kernel) (by decide +kernel) (by decide +kernel) (by decide +kernel) (fun u => by rcases u with u | u; exact absurd u (al_no2 hP (by decide)); omega) (al_Z.new h4 (by decide +kernel)) (fun υ5 y5 => ?_)
    replace y5 : al_Y _ υ5 10 13 _ := y5
    refine cs_X4_init_s0_0 (by rw [y5.2.2.1 6 (by decide) (by decide)]; decide +kernel) (by rw [y5.2.2.1 10 (by decide) (by decide)]; decide +kernel) (by decide) ?_
    show ab_Run X 26 37 (_, _, _) [ab_R 5, ab_I 1] [] (ab_wr υ5 6 0 10) Q
    have g5 := al_Z.el (A := 6) (i := 0) h4 y5 (by decide) (Or.inl (Or.inr rfl))
    have v5 : ab_rd (ab_wr υ5 6 0 10) 6 0 = 10 := ab_rdw_eq
    generalize ab_wr υ5 6 0 10 = τ5 at g5 v5 ⊢
    obtain ⟨h5, e5⟩ := g5
    have E6_5 := al_E.step (z' := 1) E6_4 (by decide) e5 (by decide) v5 (by decide +kernel) (by decide)
    have E7_5 := al_E.keep E7_4 e5 (by decide) (by decide)
    clear y5 h4
    refine cs_X4_init_e0_0 h5 (by decide +kernel) (A := 6) (((h5.2.2.2.2.1 6 (by decide)).1 (Or.inl (Or.inl (Or.inl (Or.inr rfl))))).trans (by decide +kernel)) (by decide) (by decide) (by decide +kernel) (by decide) (by omega) ?_
    refine cn_X1_init (by decide +kernel) (by decide +kernel) (by decide +kernel) (by decide +kernel) (by decide +kernel) (by decide +kernel) (fun u => by rcases u with u | u; exact absurd u (al_no2 hP (by decide)); omega) (al_Z.new h5 (by decide +kernel)) (fun υ6 y6 => ?_)
    replace y6 : al_Y _ υ6 13 16 _ := y6
    refine cs_X4_init_s0_0 (by rw [y6.2.2.1 6 (by decide) (by decide)]; decide +kernel) (by rw [y6.2.2.1 13 (by decide) (by decide)]; decide +kernel) (by decide) ?_
    show ab_Run X 26 37 (_, _, _) [ab_R 5, ab_I 2] [] (ab_wr υ6 6 1 13) Q
    have g6 := al_Z.el (A := 6) (i := 1) h5 y6 (by decide) (Or.inl (Or.inr rfl))
    have v6 : ab_rd (ab_wr υ6 6 1 13) 6 1 = 13 := ab_rdw_eq
    generalize ab_wr υ6 6 1 13 = τ6 at g6 v6 ⊢
    obtain ⟨h6, e6⟩ := g6
    have E6_6 := al_E.step (z' := 2) E6_5 (by decide) e6 (by decide) v6 (by decide +kernel) (by decide)
    have E7_6 := al_E.keep E7_5 e6 (by decide) (by decide)
    clear y6 h5
    refine cs_X4_init_e0_0 h6 (by decide +kernel) (A := 6) (((h6.2.2.2.2.1 6 (by decide)).1 (Or.inl (Or.inl (Or.inl (Or.inr rfl))))).trans (by decide +kernel)) (by decide) (by decide) (by decide +kernel) (by decide) (by omega) ?_
    refine cn_X1_init (by decide +kernel) (by decide +kernel) (by decide +kernel) (by decide +kernel) (by decide +kernel) (by decide +kernel) (fun u => by rcases u with u | u; exact absurd u (al_no2 hP (by decide)); omega) (al_Z.new h6 (by decide +kernel)) (fun υ7 y7 => ?_)
    replace y7 : al_Y _ υ7 16 19 _ := y7
    refine cs_X4_init_s0_0 (by rw [y7.2.2.1 6 (by decide) (by decide)]; decide +kernel) (by rw [y7.2.2.1 16 (by decide) (by decide)]; decide +kernel) (by decide) ?_
    show ab_Run X 26 37 (_, _, _) [ab_R 5, ab_I 3] [] (ab_wr υ7 6 2 16) Q
    have g7 := al_Z.el (A := 6) (i := 2) h6 y7 (by decide) (Or.inl (Or.inr rfl))
    have v7 : ab_rd (ab_wr υ7 6 2 16) 6 2 = 16 := ab_rdw_eq
    generalize ab_wr υ7 6 2 16 = τ7 at g7 v7 ⊢
    obtain ⟨h7, e7⟩ := g7
    have E6_7 := al_E.step (z' := 3) E6_6 (by decide) e7 (by decide) v7 (by decide +kernel) (by decide)
    have E7_7 := al_E.keep E7_6 e7 (by decide) (by decide)
    clear y7 h6
    refine cs_X4_init_e0_0 h7 (by decide +kernel) (A := 6) (((h7.2.2.2.2.1 6 (by decide)).1 (Or.inl (Or.inl (Or.inl (Or.inr rfl))))).trans (by decide +kernel)) (by decide) (by decide) (by decide +kernel) (by decide) (by omega) ?_
    refine cn_X1_init (by decide +kernel) (by decide +kernel) (by decide +kernel) (by decide +kernel) (by decide +kernel) (by decide +kernel) (fun u => by rcases u with u | u; exact absurd u (al_no2 hP (by decide)); omega) (al_Z.new h7 (by decide +kernel)) (fun υ8 y8 => ?_)
    replace y8 : al_Y _ υ8 19 22 _ := y8
    refine cs_X4_init_s0_0 (by rw [y8.2.2.1 6 (by decide) (by decide)]; decide +kernel) (by rw [y8.2.2.1 19 (by decide) (by decide)]; decide +kernel) (by decide) ?_
    show ab_Run X 26 37 (_, _, _) [ab_R 5, ab_I 4] [] (ab_wr υ8 6 3 19) Q
    have g8 := al_Z.el (A := 6) (i := 3) h7 y8 (by decide) (Or.inl (Or.inr rfl))
    have v8 : ab_rd (ab_wr υ8 6 3 19) 6 3 = 19 := ab_rdw_eq
    generalize ab_wr υ8 6 3 19 = τ8 at g8 v8 ⊢
    obtain ⟨h8, e8⟩ := g8
    have E6_8 := al_E.step (z' := 4) E6_7 (by decide) e8 (by decide) v8 (by decide +kernel) (by decide)
    have E7_8 := al_E.keep E7_7 e8 (by decide) (by decide)
    clear y8 h7
    refine cs_X4_init_e0_0 h8 (by decide +kernel) (A := 6) (((h8.2.2.2.2.1 6 (by decide)).1 (Or.inl (Or.inl (Or.inl (Or.inr rfl))))).trans (by decide +kernel)) (by decide) (by decide) (by decide +kernel) (by decide) (by omega) ?_
    refine cn_X1_init (by decide +kernel) (by decide +kernel) (by decide +kernel) (by decide +kernel) (by decide +kernel) (by decide +kernel) (fun u => by rcases u with u | u; exact absurd u (al_no2 hP (by decide)); omega) (al_Z.new h8 (by decide +kernel)) (fun υ9 y9 => ?_)
    replace y9 : al_Y _ υ9 22 25 _ := y9
    refine cs_X4_init_s0_0 (by rw [y9.2.2.1 6 (by decide) (by decide)]; decide +kernel) (by rw [y9.2.2.1 22 (by decide) (by decide)]; decide +kernel) (by decide) ?_
    show ab_Run X 26 37 (_, _, _) [ab_R 5, ab_I 5] [] (ab_wr υ9 6 4 22) Q
    have g9 := al_Z.el (A := 6) (i := 4) h8 y9 (by decide) (Or.inl (Or.inr rfl))
    have v9 : ab_rd (ab_wr υ9 6 4 22) 6 4 = 22 := ab_rdw_eq
    generalize ab_wr υ9 6 4 22 = τ9 at g9 v9 ⊢
    obtain ⟨h9, e9⟩ := g9
    have E6_9 := al_E.step (z' := 5) E6_8 (by decide) e9 (by decide) v9 (by decide +kernel) (by decide)
    have E7_9 := al_E.keep E7_8 e9 (by decide) (by decide)
    clear y9 h8
    refine cs_X4_init_x0 ?_
    refine cs_X4_init_i1 ?_
    refine cs_X4_init_e1_0 h9 (by decide +kernel) (A := 7) (((h9.2.2.2.2.1 8 (by decide)).1 (Or.inl (Or.inl (Or.inr rfl)))).trans (by decide +kernel)) (by decide) (by decide) (by decide +kernel) (by decide) (by omega) ?_
    refine cn_X5_init (by decide +kernel) (by decide +kernel) (fun u => by rcases u with u | u; exact absurd u (al_no2 hP (by decide)); omega) (al_Z.new h9 (by decide +kernel)) (fun υ10 y10 => ?_)
    replace y10 : al_Y _ υ10 25 26 _ := y10
    refine cs_X4_init_s1_0 (by rw [y10.2.2.1 7 (by decide) (by decide)]; decide +kernel) (by rw [y10.2.2.1 25 (by decide) (by decide)]; decide +kernel) (by decide) ?_
    show ab_Run X 26 63 (_, _, _) [ab_R 5, ab_I 1] [] (ab_wr υ10 7 0 25) Q
    have g10 := al_Z.el (A := 7) (i := 0) h9 y10 (by decide) (Or.inr rfl)
    have v10 : ab_rd (ab_wr υ10 7 0 25) 7 0 = 25 := ab_rdw_eq
    generalize ab_wr υ10 7 0 25 = τ10 at g10 v10 ⊢
    obtain ⟨h10, e10⟩ := g10
    have E6_10 := al_E.keep E6_9 e10 (by decide) (by decide)
    have E7_10 := al_E.step (z' := 1) E7_9 (by decide) e10 (by decide) v10 (by decide +kernel) (by decide)
    clear y10 h9
    refine cs_X4_init_e1_0 h10 (by decide +kernel) (A := 7) (((h10.2.2.2.2.1 8 (by decide)).1 (Or.inl (Or.inl (Or.inr rfl)))).trans (by decide +kernel)) (by decide) (by decide) (by decide +kernel) (by decide) (by omega) ?_
    refine cn_X5_init (by decide +kernel) (by decide +kernel) (fun u => by rcases u with u | u; exact absurd u (al_no2 hP (by decide)); omega) (al_Z.new h10 (by decide +kernel)) (fun υ11 y11 => ?_)
    replace y11 : al_Y _ υ11 26 27 _ := y11
    refine cs_X4_init_s1_0 (by rw [y11.2.2.1 7 (by decide) (by decide)]; decide +kernel) (by rw [y11.2.2.1 26 (by decide) (by decide)]; decide +kernel) (by decide) ?_
    show ab_Run X 26 63 (_, _, _) [ab_R 5, ab_I 2] [] (ab_wr υ11 7 1 26) Q
    have g11 := al_Z.el (A := 7) (i := 1) h10 y11 (by decide) (Or.inr rfl)
    have v11 : ab_rd (ab_wr υ11 7 1 26) 7 1 = 26 := ab_rdw_eq
    generalize ab_wr υ11 7 1 26 = τ11 at g11 v11 ⊢
    obtain ⟨h11, e11⟩ := g11
    have E6_11 := al_E.keep E6_10 e11 (by decide) (by decide)
    have E7_11 := al_E.step (z' := 2) E7_10 (by decide) e11 (by decide) v11 (by decide +kernel) (by decide)
    clear y11 h10
    refine cs_X4_init_e1_0 h11 (by decide +kernel) (A := 7) (((h11.2.2.2.2.1 8 (by decide)).1 (Or.inl (Or.inl (Or.inr rfl)))).trans (by decide +kernel)) (by decide) (by decide) (by decide +kernel) (by decide) (by omega) ?_
    refine cn_X5_init (by decide +kernel) (by decide +kernel) (fun u => by rcases u with u | u; exact absurd u (al_no2 hP (by decide)); omega) (al_Z.new h11 (by decide +kernel)) (fun υ12 y12 => ?_)
    replace y12 : al_Y _ υ12 27 28 _ := y12
    refine cs_X4_init_s1_0 (by rw [y12.2.2.1 7 (by decide) (by decide)]; decide +kernel) (by rw [y12.2.2.1 27 (by decide) (by decide)]; decide +kernel) (by decide) ?_
    show ab_Run X 26 63 (_, _, _) [ab_R 5, ab_I 3] [] (ab_wr υ12 7 2 27) Q
    have g12 := al_Z.el (A := 7) (i := 2) h11 y12 (by decide) (Or.inr rfl)
    have v12 : ab_rd (ab_wr υ12 7 2 27) 7 2 = 27 := ab_rdw_eq
    generalize ab_wr υ12 7 2 27 = τ12 at g12 v12 ⊢
    obtain ⟨h12, e12⟩ := g12
    have E6_12 := al_E.keep E6_11 e12 (by decide) (by decide)
    have E7_12 := al_E.step (z' := 3) E7_11 (by decide) e12 (by decide) v12 (by decide +kernel) (by decide)
    clear y12 h11
    refine cs_X4_init_e1_0 h12 (by decide +kernel) (A := 7) (((h12.2.2.2.2.1 8 (by decide)).1 (Or.inl (Or.inl (Or.inr rfl)))).trans (by decide +kernel)) (by decide) (by decide) (by decide +kernel) (by decide) (by omega) ?_
    refine cn_X5_init (by decide +kernel) (by decide +kernel) (fun u => by rcases u with u | u; exact absurd u (al_no2 hP (by decide)); omega) (al_Z.new h12 (by decide +kernel)) (fun υ13 y13 => ?_)
    replace y13 : al_Y _ υ13 28 29 _ := y13
    refine cs_X4_init_s1_0 (by rw [y13.2.2.1 7 (by decide) (by decide)]; decide +kernel) (by rw [y13.2.2.1 28 (by decide) (by decide)]; decide +kernel) (by decide) ?_
    show ab_Run X 26 63 (_, _, _) [ab_R 5, ab_I 4] [] (ab_wr υ13 7 3 28) Q
    have g13 := al_Z.el (A := 7) (i := 3) h12 y13 (by decide) (Or.inr rfl)
    have v13 : ab_rd (ab_wr υ13 7 3 28) 7 3 = 28 := ab_rdw_eq
    generalize ab_wr υ13 7 3 28 = τ13 at g13 v13 ⊢
    obtain ⟨h13, e13⟩ := g13
    have E6_13 := al_E.keep E6_12 e13 (by decide) (by decide)
    have E7_13 := al_E.step (z' := 4) E7_12 (by decide) e13 (by decide) v13 (by decide +kernel) (by decide)
    clear y13 h12
    refine cs_X4_init_e1_0 h13 (by decide +kernel) (A := 7) (((h13.2.2.2.2.1 8 (by decide)).1 (Or.inl (Or.inl (Or.inr rfl)))).trans (by decide +kernel)) (by decide) (by decide) (by decide +kernel) (by decide) (by omega) ?_
    refine cn_X5_init (by decide +kernel) (by decide +kernel) (fun u => by rcases u with u | u; exact absurd u (al_no2 hP (by decide)); omega) (al_Z.new h13 (by decide +kernel)) (fun υ14 y14 => ?_)
    replace y14 : al_Y _ υ14 29 30 _ := y14
    refine cs_X4_init_s1_0 (by rw [y14.2.2.1 7 (by decide) (by decide)]; decide +kernel) (by rw [y14.2.2.1 29 (by decide) (by decide)]; decide +kernel) (by decide) ?_
    show ab_Run X 26 63 (_, _, _) [ab_R 5, ab_I 5] [] (ab_wr υ14 7 4 29) Q
    have g14 := al_Z.el (A := 7) (i := 4) h13 y14 (by decide) (Or.inr rfl)
    have v14 : ab_rd (ab_wr υ14 7 4 29) 7 4 = 29 := ab_rdw_eq
    generalize ab_wr υ14 7 4 29 = τ14 at g14 v14 ⊢
    obtain ⟨h14, e14⟩ := g14
    have E6_14 := al_E.keep E6_13 e14 (by decide) (by decide)
    have E7_14 := al_E.step (z' := 5) E7_13 (by decide) e14 (by decide) v14 (by decide +kernel) (by decide)
    clear y14 h13
    refine cs_X4_init_e1_0 h14 (by decide +kernel) (A := 7) (((h14.2.2.2.2.1 8 (by decide)).1 (Or.inl (Or.inl (Or.inr rfl)))).trans (by decide +kernel)) (by decide) (by decide) (by decide +kernel) (by decide) (by omega) ?_
    refine cn_X5_init (by decide +kernel) (by decide +kernel) (fun u => by rcases u with u | u; exact absurd u (al_no2 hP (by decide)); omega) (al_Z.new h14 (by decide +kernel)) (fun υ15 y15 => ?_)
    replace y15 : al_Y _ υ15 30 31 _ := y15
    refine cs_X4_init_s1_0 (by rw [y15.2.2.1 7 (by decide) (by decide)]; decide +kernel) (by rw [y15.2.2.1 30 (by decide) (by decide)]; decide +kernel) (by decide) ?_
    show ab_Run X 26 63 (_, _, _) [ab_R 5, ab_I 6] [] (ab_wr υ15 7 5 30) Q
    have g15 := al_Z.el (A := 7) (i := 5) h14 y15 (by decide) (Or.inr rfl)
    have v15 : ab_rd (ab_wr υ15 7 5 30) 7 5 = 30 := ab_rdw_eq
    generalize ab_wr υ15 7 5 30 = τ15 at g15 v15 ⊢
    obtain ⟨h15, e15⟩ := g15
    have E6_15 := al_E.keep E6_14 e15 (by decide) (by decide)
    have E7_15 := al_E.step (z' := 6) E7_14 (by decide) e15 (by decide) v15 (by decide +kernel) (by decide)
    clear y15 h14
    refine cs_X4_init_x1 ?_
    have F6 := al_E.full E6_15 (fun f hf => by rw [al_row (l := [10, 13, 16, 19, 22]) (by decide +kernel)]; exact ac_getD_ge (by simp only [List.length_cons, List.length_nil]; omega))
    have F7 := al_E.full E7_15 (fun f hf => by rw [al_row (l := [25, 26, 27, 28, 29, 30]) (by decide +kernel)]; exact ac_getD_ge (by simp only [List.length_cons, List.length_nil]; omega))
    have h16 := al_Z.res h15 F7 (fun x u => u.elim (fun q => Or.inr q) (fun q => Or.inl q))
    have h17 := al_Z.res h16 F6 (fun x u => u.elim (fun q => Or.inr q) (fun q => Or.inl q))
    have kr := hQ _ (al_Z.done h17 (fun f f1 => by
      have q : f = 0 ∨ f = 1 ∨ f = 2 ∨ f = 3 ∨ f = 4 ∨ f = 5 ∨ f = 6 ∨ f = 7 ∨ f = 8 ∨ f = 9 ∨ f = 10 ∨ f = 11 ∨ f = 12 ∨ f = 13 ∨ f = 14 ∨ 15 ≤ f := by omega
      rcases q with rfl | rfl | rfl | rfl | rfl | rfl | rfl | rfl | rfl | rfl | rfl | rfl | rfl | rfl | rfl | q
      · right; decide +kernel
      · right; decide +kernel
      · right; decide +kernel
      · right; decide +kernel
      · right; decide +kernel
      · right; decide +kernel
      · exact Or.inl (Or.inl (Or.inl (Or.inl (Or.inr rfl))))
      · right; decide +kernel
      · exact Or.inl (Or.inl (Or.inl (Or.inr rfl)))
      · right; decide +kernel
      · right; decide +kernel
      · right; decide +kernel
      · right; decide +kernel
      · exact Or.inl (Or.inl (Or.inr rfl))
      · exact Or.inl (Or.inr rfl)
      · right; rw [al_row (l := [0, 0, 0, 0, 0, 0, 6, 0, 7, 0, 0, 0, 0, 8, 9]) (by decide +kernel)]; exact ac_getD_ge (by simp only [List.length_cons, List.length_nil]; omega)) (fun u => by have := hP _ u; omega))
    clear hQ
    exact cs_X4_init_r kr
  clear hQ h
  simp (disch := omega) only [dn_X4_init, rX4_init_0, rX4_init_1, ne_eq, not_false_eq_true, not_true_eq_false, true_and, and_true, and_self, true_imp_iff, false_imp_iff, imp_self, Bool.not_false, Bool.not_true, reduceCtorEq, ab_isJ, ab_psh, ab_cats, Bool.false_eq_true, if_true, if_false, ab_shf, ab_shw, Int.le_refl, Classical.not_not, Int.zero_add, forall_const, ↓ab_itT, ↓ab_itF, ab_anT, true_or, or_true]
  all_goals exact kq
set_option maxHeartbeats 8000000 in
theorem cm_X4_init_329 (hP : ∀ x, P x → x < 329) (h : al_Z σ σ 329 330 P (fun _ => False)) (hQ : ∀ τ, al_Y σ τ 329 355 P → Q none τ) : ab_Do X 26 [ab_R 329] σ Q := by
  have kq : ab_Run X 26 4 (2, 25, 186) [ab_R 329, ab_R 0] [] σ Q := by
    refine cs_X4_init_0 h (by decide +kernel) (by omega) ?_
    have g1 := al_Z.parr (z' := 331) (f0 := 6) h (t := 26) (n := 5) (by decide +kernel) (by decide) (by decide +kernel) (by decide)
    generalize ab_wr (ab_new σ 26 5) 329 6 330 = τ1 at g1 ⊢
    obtain ⟨h1, q1, e1⟩ := g1
    have E330_1 := al_E.zero q1
    refine cs_X4_init_1 h1 (by decide +kernel) (by omega) ?_
    have g2 := al_Z.parr (z' := 332) (f0 := 8) h1 (t := 27) (n := 6) (by decide +kernel) (by decide) (by decide +kernel) (by decide)
    generalize ab_wr (ab_new τ1 27 6) 329 8 331 = τ2 at g2 ⊢
    obtain ⟨h2, q2, e2⟩ := g2
    have E330_2 := al_E.same E330_1 (fun f => e2 330 f (by decide) (by decide))
    have E331_2 := al_E.zero q2
    refine cs_X4_init_2 h2 (by decide +kernel) (by omega) ?_
    have h3 := al_Z.arr (z' := 333) (f0 := 13) h2 (t := 21) (n := 4) (by decide +kernel) (by decide +kernel) (by decide) (by decide +kernel) (by decide)
    have e3 : ∀ x f, x < 332 → x ≠ 329 → ab_rd (ab_wr (ab_new τ2 21 4) 329 13 332) x f = ab_rd τ2 x f := fun x f q1 q2 => by rw [ab_rdw_ne (Or.inl q2), ab_rdn, if_neg (by have := h2.1; omega)]
    generalize ab_wr (ab_new τ2 21 4) 329 13 332 = τ3 at h3 e3 ⊢
    have E330_3 := al_E.same E330_2 (fun f => e3 330 f (by decide) (by decide))
    have E331_3 := al_E.same E331_2 (fun f => e3 331 f (by decide) (by decide))
    refine cs_X4_init_3 h3 (by decide +kernel) (by omega) ?_
    have h4 := al_Z.arr (z' := 334) (f0 := 14) h3 (t := 21) (n := 4) (by decide +kernel) (by decide +kernel) (by decide) (by decide +kernel) (by decide)
    have e4 : ∀ x f, x < 333 → x ≠ 329 → ab_rd (ab_wr (ab_new τ3 21 4) 329 14 333) x f = ab_rd τ3 x f := fun x f q1 q2 => by rw [ab_rdw_ne (Or.inl q2), ab_rdn, if_neg (by have := h3.1; omega)]
    generalize ab_wr (ab_new τ3 21 4) 329 14 333 = τ4 at h4 e4 ⊢
    have E330_4 := al_E.same E330_3 (fun f => e4 330 f (by decide) (by decide))
    have E331_4 := al_E.same E331_3 (fun f => e4 331 f (by decide) (by decide))
    refine cs_X4_init_i0 ?_
    refine cs_X4_init_e0_0 h4 (by decide +kernel) (A := 330) (((h4.2.2.2.2.1 6 (by decide)).1 (Or.inl (Or.inl (Or.inl (Or.inr rfl))))).trans (by decide +kernel)) (by decide) (by decide) (by decide +kernel) (by decide) (by omega) ?_
    refine cn_X1_init (by decide +kernel) (by decide +kernel) (by decide +kernel) (by decide +kernel) (by decide +kernel) (by decide +kernel) (fun u => by rcases u with u | u; exact absurd u (al_no2 hP (by decide)); omega) (al_Z.new h4 (by decide +kernel)) (fun υ5 y5 => ?_)
    replace y5 : al_Y _ υ5 334 337 _ := y5
    refine cs_X4_init_s0_0 (by rw [y5.2.2.1 330 (by decide) (by decide)]; decide +kernel) (by rw [y5.2.2.1 334 (by decide) (by decide)]; decide +kernel) (by decide) ?_
    show ab_Run X 26 37 (_, _, _) [ab_R 329, ab_I 1] [] (ab_wr υ5 330 0 334) Q
    have g5 := al_Z.el (A := 330) (i := 0) h4 y5 (by decide) (Or.inl (Or.inr rfl))
    have v5 : ab_rd (ab_wr υ5 330 0 334) 330 0 = 334 := ab_rdw_eq
    generalize ab_wr υ5 330 0 334 = τ5 at g5 v5 ⊢
    obtain ⟨h5, e5⟩ := g5
    have E330_5 := al_E.step (z' := 1) E330_4 (by decide) e5 (by decide) v5 (by decide +kernel) (by decide)
    have E331_5 := al_E.keep E331_4 e5 (by decide) (by decide)
    clear y5 h4
    refine cs_X4_init_e0_0 h5 (by decide +kernel) (A := 330) (((h5.2.2.2.2.1 6 (by decide)).1 (Or.inl (Or.inl (Or.inl (Or.inr rfl))))).trans (by decide +kernel)) (by decide) (by decide) (by decide +kernel) (by decide) (by omega) ?_
    refine cn_X1_init (by decide +kernel) (by decide +kernel) (by decide +kernel) (by decide +kernel) (by decide +kernel) (by decide +kernel) (fun u => by rcases u with u | u; exact absurd u (al_no2 hP (by decide)); omega) (al_Z.new h5 (by decide +kernel)) (fun υ6 y6 => ?_)
    replace y6 : al_Y _ υ6 337 340 _ := y6
    refine cs_X4_init_s0_0 (by rw [y6.2.2.1 330 (by decide) (by decide)]; decide +kernel) (by rw [y6.2.2.1 337 (by decide) (by decide)]; decide +kernel) (by decide) ?_
    show ab_Run X 26 37 (_, _, _) [ab_R 329, ab_I 2] [] (ab_wr υ6 330 1 337) Q
    have g6 := al_Z.el (A := 330) (i := 1) h5 y6 (by decide) (Or.inl (Or.inr rfl))
    have v6 : ab_rd (ab_wr υ6 330 1 337) 330 1 = 337 := ab_rdw_eq
    generalize ab_wr υ6 330 1 337 = τ6 at g6 v6 ⊢
    obtain ⟨h6, e6⟩ := g6
    have E330_6 := al_E.step (z' := 2) E330_5 (by decide) e6 (by decide) v6 (by decide +kernel) (by decide)
    have E331_6 := al_E.keep E331_5 e6 (by decide) (by decide)
    clear y6 h5
    refine cs_X4_init_e0_0 h6 (by decide +kernel) (A := 330) (((h6.2.2.2.2.1 6 (by decide)).1 (Or.inl (Or.inl (Or.inl (Or.inr rfl))))).trans (by decide +kernel)) (by decide) (by decide) (by decide +kernel) (by decide) (by omega) ?_
    refine cn_X1_init (by decide +kernel) (by decide +kernel) (by decide +kernel) (by decide +kernel) (by decide +kernel) (by decide +kernel) (fun u => by rcases u with u | u; exact absurd u (al_no2 hP (by decide)); omega) (al_Z.new h6 (by decide +kernel)) (fun υ7 y7 => ?_)
    replace y7 : al_Y _ υ7 340 343 _ := y7
    refine cs_X4_init_s0_0 (by rw [y7.2.2.1 330 (by decide) (by decide)]; decide +kernel) (by rw [y7.2.2.1 340 (by decide) (by decide)]; decide +kernel) (by decide) ?_
    show ab_Run X 26 37 (_, _, _) [ab_R 329, ab_I 3] [] (ab_wr υ7 330 2 340) Q
    have g7 := al_Z.el (A := 330) (i := 2) h6 y7 (by decide) (Or.inl (Or.inr rfl))
    have v7 : ab_rd (ab_wr υ7 330 2 340) 330 2 = 340 := ab_rdw_eq
    generalize ab_wr υ7 330 2 340 = τ7 at g7 v7 ⊢
    obtain ⟨h7, e7⟩ := g7
    have E330_7 := al_E.step (z' := 3) E330_6 (by decide) e7 (by decide) v7 (by decide +kernel) (by decide)
    have E331_7 := al_E.keep E331_6 e7 (by decide) (by decide)
    clear y7 h6
    refine cs_X4_init_e0_0 h7 (by decide +kernel) (A := 330) (((h7.2.2.2.2.1 6 (by decide)).1 (Or.inl (Or.inl (Or.inl (Or.inr rfl))))).trans (by decide +kernel)) (by decide) (by decide) (by decide +kernel) (by decide) (by omega) ?_
    refine cn_X1_init (by decide +kernel) (by decide +kernel) (by decide +kernel) (by decide +kernel) (by decide +kernel) (by decide +kernel) (fun u => by rcases u with u | u; exact absurd u (al_no2 hP (by decide)); omega) (al_Z.new h7 (by decide +kernel)) (fun υ8 y8 => ?_)
    replace y8 : al_Y _ υ8 343 346 _ := y8
    refine cs_X4_init_s0_0 (by rw [y8.2.2.1 330 (by decide) (by decide)]; decide +kernel) (by rw [y8.2.2.1 343 (by decide) (by decide)]; decide +kernel) (by decide) ?_
    show ab_Run X 26 37 (_, _, _) [ab_R 329, ab_I 4] [] (ab_wr υ8 330 3 343) Q
    have g8 := al_Z.el (A := 330) (i := 3) h7 y8 (by decide) (Or.inl (Or.inr rfl))
    have v8 : ab_rd (ab_wr υ8 330 3 343) 330 3 = 343 := ab_rdw_eq
    generalize ab_wr υ8 330 3 343 = τ8 at g8 v8 ⊢
    obtain ⟨h8, e8⟩ := g8
    have E330_8 := al_E.step (z' := 4) E330_7 (by decide) e8 (by decide) v8 (by decide +kernel) (by decide)
    have E331_8 := al_E.keep E331_7 e8 (by decide) (by decide)
    clear y8 h7
    refine cs_X4_init_e0_0 h8 (by decide +kernel) (A := 330) (((h8.2.2.2.2.1 6 (by decide)).1 (Or.inl (Or.inl (Or.inl (Or.inr rfl))))).trans (by decide +kernel)) (by decide) (by decide) (by decide +kernel) (by decide) (by omega) ?_
    refine cn_X1_init (by decide +kernel) (by decide +kernel) (by decide +kernel) (by decide +kernel) (by decide +kernel) (by decide +kernel) (fun u => by rcases u with u | u; exact absurd u (al_no2 hP (by decide)); omega) (al_Z.new h8 (by decide +kernel)) (fun υ9 y9 => ?_)
    replace y9 : al_Y _ υ9 346 349 _ := y9
    refine cs_X4_init_s0_0 (by rw [y9.2.2.1 330 (by decide) (by decide)]; decide +kernel) (by rw [y9.2.2.1 346 (by decide) (by decide)]; decide +kernel) (by decide) ?_
    show ab_Run X 26 37 (_, _, _) [ab_R 329, ab_I 5] [] (ab_wr υ9 330 4 346) Q
    have g9 := al_Z.el (A := 330) (i := 4) h8 y9 (by decide) (Or.inl (Or.inr rfl))
    have v9 : ab_rd (ab_wr υ9 330 4 346) 330 4 = 346 := ab_rdw_eq
    generalize ab_wr υ9 330 4 346 = τ9 at g9 v9 ⊢
    obtain ⟨h9, e9⟩ := g9
    have E330_9 := al_E.step (z' := 5) E330_8 (by decide) e9 (by decide) v9 (by decide +kernel) (by decide)
    have E331_9 := al_E.keep E331_8 e9 (by decide) (by decide)
    clear y9 h8
    refine cs_X4_init_x0 ?_
    refine cs_X4_init_i1 ?_
    refine cs_X4_init_e1_0 h9 (by decide +kernel) (A := 331) (((h9.2.2.2.2.1 8 (by decide)).1 (Or.inl (Or.inl (Or.inr rfl)))).trans (by decide +kernel)) (by decide) (by decide) (by decide +kernel) (by decide) (by omega) ?_
    refine cn_X5_init (by decide +kernel) (by decide +kernel) (fun u => by rcases u with u | u; exact absurd u (al_no2 hP (by decide)); omega) (al_Z.new h9 (by decide +kernel)) (fun υ10 y10 => ?_)
    replace y10 : al_Y _ υ10 349 350 _ := y10
    refine cs_X4_init_s1_0 (by rw [y10.2.2.1 331 (by decide) (by decide)]; decide +kernel) (by rw [y10.2.2.1 349 (by decide) (by decide)]; decide +kernel) (by decide) ?_
    show ab_Run X 26 63 (_, _, _) [ab_R 329, ab_I 1] [] (ab_wr υ10 331 0 349) Q
    have g10 := al_Z.el (A := 331) (i := 0) h9 y10 (by decide) (Or.inr rfl)
    have v10 : ab_rd (ab_wr υ10 331 0 349) 331 0 = 349 := ab_rdw_eq
    generalize ab_wr υ10 331 0 349 = τ10 at g10 v10 ⊢
    obtain ⟨h10, e10⟩ := g10
    have E330_10 := al_E.keep E330_9 e10 (by decide) (by decide)
    have E331_10 := al_E.step (z' := 1) E331_9 (by decide) e10 (by decide) v10 (by decide +kernel) (by decide)
    clear y10 h9
    refine cs_X4_init_e1_0 h10 (by decide +kernel) (A := 331) (((h10.2.2.2.2.1 8 (by decide)).1 (Or.inl (Or.inl (Or.inr rfl)))).trans (by decide +kernel)) (by decide) (by decide) (by decide +kernel) (by decide) (by omega) ?_
    refine cn_X5_init (by decide +kernel) (by decide +kernel) (fun u => by rcases u with u | u; exact absurd u (al_no2 hP (by decide)); omega) (al_Z.new h10 (by decide +kernel)) (fun υ11 y11 => ?_)
    replace y11 : al_Y _ υ11 350 351 _ := y11
    refine cs_X4_init_s1_0 (by rw [y11.2.2.1 331 (by decide) (by decide)]; decide +kernel) (by rw [y11.2.2.1 350 (by decide) (by decide)]; decide +kernel) (by decide) ?_
    show ab_Run X 26 63 (_, _, _) [ab_R 329, ab_I 2] [] (ab_wr υ11 331 1 350) Q
    have g11 := al_Z.el (A := 331) (i := 1) h10 y11 (by decide) (Or.inr rfl)
    have v11 : ab_rd (ab_wr υ11 331 1 350) 331 1 = 350 := ab_rdw_eq
    generalize ab_wr υ11 331 1 350 = τ11 at g11 v11 ⊢
    obtain ⟨h11, e11⟩ := g11
    have E330_11 := al_E.keep E330_10 e11 (by decide) (by decide)
    have E331_11 := al_E.step (z' := 2) E331_10 (by decide) e11 (by decide) v11 (by decide +kernel) (by decide)
    clear y11 h10
    refine cs_X4_init_e1_0 h11 (by decide +kernel) (A := 331) (((h11.2.2.2.2.1 8 (by decide)).1 (Or.inl (Or.inl (Or.inr rfl)))).trans (by decide +kernel)) (by decide) (by decide) (by decide +kernel) (by decide) (by omega) ?_
    refine cn_X5_init (by decide +kernel) (by decide +kernel) (fun u => by rcases u with u | u; exact absurd u (al_no2 hP (by decide)); omega) (al_Z.new h11 (by decide +kernel)) (fun υ12 y12 => ?_)
    replace y12 : al_Y _ υ12 351 352 _ := y12
    refine cs_X4_init_s1_0 (by rw [y12.2.2.1 331 (by decide) (by decide)]; decide +kernel) (by rw [y12.2.2.1 351 (by decide) (by decide)]; decide +kernel) (by decide) ?_
    show ab_Run X 26 63 (_, _, _) [ab_R 329, ab_I 3] [] (ab_wr υ12 331 2 351) Q
    have g12 := al_Z.el (A := 331) (i := 2) h11 y12 (by decide) (Or.inr rfl)
    have v12 : ab_rd (ab_wr υ12 331 2 351) 331 2 = 351 := ab_rdw_eq
    generalize ab_wr υ12 331 2 351 = τ12 at g12 v12 ⊢
    obtain ⟨h12, e12⟩ := g12
    have E330_12 := al_E.keep E330_11 e12 (by decide) (by decide)
    have E331_12 := al_E.step (z' := 3) E331_11 (by decide) e12 (by decide) v12 (by decide +kernel) (by decide)
    clear y12 h11
    refine cs_X4_init_e1_0 h12 (by decide +kernel) (A := 331) (((h12.2.2.2.2.1 8 (by decide)).1 (Or.inl (Or.inl (Or.inr rfl)))).trans (by decide +kernel)) (by decide) (by decide) (by decide +kernel) (by decide) (by omega) ?_
    refine cn_X5_init (by decide +kernel) (by decide +kernel) (fun u => by rcases u with u | u; exact absurd u (al_no2 hP (by decide)); omega) (al_Z.new h12 (by decide +kernel)) (fun υ13 y13 => ?_)
    replace y13 : al_Y _ υ13 352 353 _ := y13
    refine cs_X4_init_s1_0 (by rw [y13.2.2.1 331 (by decide) (by decide)]; decide +kernel) (by rw [y13.2.2.1 352 (by decide) (by decide)]; decide +kernel) (by decide) ?_
    show ab_Run X 26 63 (_, _, _) [ab_R 329, ab_I 4] [] (ab_wr υ13 331 3 352) Q
    have g13 := al_Z.el (A := 331) (i := 3) h12 y13 (by decide) (Or.inr rfl)
    have v13 : ab_rd (ab_wr υ13 331 3 352) 331 3 = 352 := ab_rdw_eq
    generalize ab_wr υ13 331 3 352 = τ13 at g13 v13 ⊢
    obtain ⟨h13, e13⟩ := g13
    have E330_13 := al_E.keep E330_12 e13 (by decide) (by decide)
    have E331_13 := al_E.step (z' := 4) E331_12 (by decide) e13 (by decide) v13 (by decide +kernel) (by decide)
    clear y13 h12
    refine cs_X4_init_e1_0 h13 (by decide +kernel) (A := 331) (((h13.2.2.2.2.1 8 (by decide)).1 (Or.inl (Or.inl (Or.inr rfl)))).trans (by decide +kernel)) (by decide) (by decide) (by decide +kernel) (by decide) (by omega) ?_
    refine cn_X5_init (by decide +kernel) (by decide +kernel) (fun u => by rcases u with u | u; exact absurd u (al_no2 hP (by decide)); omega) (al_Z.new h13 (by decide +kernel)) (fun υ14 y14 => ?_)
    replace y14 : al_Y _ υ14 353 354 _ := y14
    refine cs_X4_init_s1_0 (by rw [y14.2.2.1 331 (by decide) (by decide)]; decide +kernel) (by rw [y14.2.2.1 353 (by decide) (by decide)]; decide +kernel) (by decide) ?_
    show ab_Run X 26 63 (_, _, _) [ab_R 329, ab_I 5] [] (ab_wr υ14 331 4 353) Q
    have g14 := al_Z.el (A := 331) (i := 4) h13 y14 (by decide) (Or.inr rfl)
    have v14 : ab_rd (ab_wr υ14 331 4 353) 331 4 = 353 := ab_rdw_eq
    generalize ab_wr υ14 331 4 353 = τ14 at g14 v14 ⊢
    obtain ⟨h14, e14⟩ := g14
    have E330_14 := al_E.keep E330_13 e14 (by decide) (by decide)
    have E331_14 := al_E.step (z' := 5) E331_13 (by decide) e14 (by decide) v14 (by decide +kernel) (by decide)
    clear y14 h13
    refine cs_X4_init_e1_0 h14 (by decide +kernel) (A := 331) (((h14.2.2.2.2.1 8 (by decide)).1 (Or.inl (Or.inl (Or.inr rfl)))).trans (by decide +kernel)) (by decide) (by decide) (by decide +kernel) (by decide) (by omega) ?_
    refine cn_X5_init (by decide +kernel) (by decide +kernel) (fun u => by rcases u with u | u; exact absurd u (al_no2 hP (by decide)); omega) (al_Z.new h14 (by decide +kernel)) (fun υ15 y15 => ?_)
    replace y15 : al_Y _ υ15 354 355 _ := y15
    refine cs_X4_init_s1_0 (by rw [y15.2.2.1 331 (by decide) (by decide)]; decide +kernel) (by rw [y15.2.2.1 354 (by decide) (by decide)]; decide +kernel) (by decide) ?_
    show ab_Run X 26 63 (_, _, _) [ab_R 329, ab_I 6] [] (ab_wr υ15 331 5 354) Q
    have g15 := al_Z.el (A := 331) (i := 5) h14 y15 (by decide) (Or.inr rfl)
    have v15 : ab_rd (ab_wr υ15 331 5 354) 331 5 = 354 := ab_rdw_eq
    generalize ab_wr υ15 331 5 354 = τ15 at g15 v15 ⊢
    obtain ⟨h15, e15⟩ := g15
    have E330_15 := al_E.keep E330_14 e15 (by decide) (by decide)
    have E331_15 := al_E.step (z' := 6) E331_14 (by decide) e15 (by decide) v15 (by decide +kernel) (by decide)
    clear y15 h14
    refine cs_X4_init_x1 ?_
    have F330 := al_E.full E330_15 (fun f hf => by rw [al_row (l := [334, 337, 340, 343, 346]) (by decide +kernel)]; exact ac_getD_ge (by simp only [List.length_cons, List.length_nil]; omega))
    have F331 := al_E.full E331_15 (fun f hf => by rw [al_row (l := [349, 350, 351, 352, 353, 354]) (by decide +kernel)]; exact ac_getD_ge (by simp only [List.length_cons, List.length_nil]; omega))
    have h16 := al_Z.res h15 F331 (fun x u => u.elim (fun q => Or.inr q) (fun q => Or.inl q))
    have h17 := al_Z.res h16 F330 (fun x u => u.elim (fun q => Or.inr q) (fun q => Or.inl q))
    have kr := hQ _ (al_Z.done h17 (fun f f1 => by
      have q : f = 0 ∨ f = 1 ∨ f = 2 ∨ f = 3 ∨ f = 4 ∨ f = 5 ∨ f = 6 ∨ f = 7 ∨ f = 8 ∨ f = 9 ∨ f = 10 ∨ f = 11 ∨ f = 12 ∨ f = 13 ∨ f = 14 ∨ 15 ≤ f := by omega
      rcases q with rfl | rfl | rfl | rfl | rfl | rfl | rfl | rfl | rfl | rfl | rfl | rfl | rfl | rfl | rfl | q
      · right; decide +kernel
      · right; decide +kernel
      · right; decide +kernel
      · right; decide +kernel
      · right; decide +kernel
      · right; decide +kernel
      · exact Or.inl (Or.inl (Or.inl (Or.inl (Or.inr rfl))))
      · right; decide +kernel
      · exact Or.inl (Or.inl (Or.inl (Or.inr rfl)))
      · right; decide +kernel
      · right; decide +kernel
      · right; decide +kernel
      · right; decide +kernel
      · exact Or.inl (Or.inl (Or.inr rfl))
      · exact Or.inl (Or.inr rfl)
      · right; rw [al_row (l := [0, 0, 0, 0, 0, 0, 330, 0, 331, 0, 0, 0, 0, 332, 333]) (by decide +kernel)]; exact ac_getD_ge (by simp only [List.length_cons, List.length_nil]; omega)) (fun u => by have := hP _ u; omega))
    clear hQ
    exact cs_X4_init_r kr
  clear hQ h
  simp (disch := omega) only [dn_X4_init, rX4_init_0, rX4_init_1, ne_eq, not_false_eq_true, not_true_eq_false, true_and, and_true, and_self, true_imp_iff, false_imp_iff, imp_self, Bool.not_false, Bool.not_true, reduceCtorEq, ab_isJ, ab_psh, ab_cats, Bool.false_eq_true, if_true, if_false, ab_shf, ab_shw, Int.le_refl, Classical.not_not, Int.zero_add, forall_const, ↓ab_itT, ↓ab_itF, ab_anT, true_or, or_true]
  all_goals exact kq
end
