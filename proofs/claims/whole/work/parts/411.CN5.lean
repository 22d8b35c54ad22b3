section
variable {X : ab_X} {σ τ υ σ0 : ab_S} {Q : Option ab_V → ab_S → Prop} {a z z' A B i j n t k2 : Int} {P D : Int → Prop} {f cl sl : Nat}
set_option maxHeartbeats 8000000 in
theorem cm_X3_init_36 (hP : ∀ x, P x → x < 36) (h : al_Z σ σ 36 37 P (fun _ => False)) (hQ : ∀ τ, al_Y σ τ 36 134 P → Q none τ) : ab_Do X 19 [ab_R 36] σ Q := by
  have kq : ab_Run X 19 4 (2, 97, 513) [ab_R 36, ab_R 0] [] σ Q := by
    refine cs_X3_init_0 h (by decide +kernel) (by omega) ?_
    have g1 := al_Z.parr (z' := 38) (f0 := 0) h (t := 28) (n := 16) (by decide +kernel) (by decide) (by decide +kernel) (by decide)
    generalize ab_wr (ab_new σ 28 16) 36 0 37 = τ1 at g1 ⊢
    obtain ⟨h1, q1, e1⟩ := g1
    have E37_1 := al_E.zero q1
    refine cs_X3_init_1 h1 (by decide +kernel) (by omega) ?_
    have g2 := al_Z.parr (z' := 39) (f0 := 1) h1 (t := 28) (n := 3) (by decide +kernel) (by decide) (by decide +kernel) (by decide)
    generalize ab_wr (ab_new τ1 28 3) 36 1 38 = τ2 at g2 ⊢
    obtain ⟨h2, q2, e2⟩ := g2
    have E37_2 := al_E.same E37_1 (fun f => e2 37 f (by decide) (by decide))
    have E38_2 := al_E.zero q2
    refine cs_X3_init_i0 ?_
    refine cs_X3_init_e0_0 h2 (by decide +kernel) (A := 37) (((h2.2.2.2.2.1 0 (by decide)).1 (Or.inl (Or.inr rfl))).trans (by decide +kernel)) (by decide) (by decide) (by decide +kernel) (by decide) (by omega) ?_
    refine cn_X8_init (by decide +kernel) (by decide +kernel) (by decide +kernel) (by decide +kernel) (by decide +kernel) (by decide +kernel) (by decide +kernel) (by decide +kernel) (by decide +kernel) (by decide +kernel) (fun u => by rcases u with u | u; exact absurd u (al_no2 hP (by decide)); omega) (al_Z.new h2 (by decide +kernel)) (fun υ3 y3 => ?_)
    replace y3 : al_Y _ υ3 39 44 _ := y3
    refine cs_X3_init_s0_0 (by rw [y3.2.2.1 37 (by decide) (by decide)]; decide +kernel) (by rw [y3.2.2.1 39 (by decide) (by decide)]; decide +kernel) (by decide) ?_
    show ab_Run X 19 23 (_, _, _) [ab_R 36, ab_I 1] [] (ab_wr υ3 37 0 39) Q
    have g3 := al_Z.el (A := 37) (i := 0) h2 y3 (by decide) (Or.inl (Or.inr rfl))
    have v3 : ab_rd (ab_wr υ3 37 0 39) 37 0 = 39 := ab_rdw_eq
    generalize ab_wr υ3 37 0 39 = τ3 at g3 v3 ⊢
    obtain ⟨h3, e3⟩ := g3
    have E37_3 := al_E.step (z' := 1) E37_2 (by decide) e3 (by decide) v3 (by decide +kernel) (by decide)
    have E38_3 := al_E.keep E38_2 e3 (by decide) (by decide)
    clear y3 h2
    refine cs_X3_init_e0_0 h3 (by decide +kernel) (A := 37) (((h3.2.2.2.2.1 0 (by decide)).1 (Or.inl (Or.inr rfl))).trans (by decide +kernel)) (by decide) (by decide) (by decide +kernel) (by decide) (by omega) ?_
    refine cn_X8_init (by decide +kernel) (by decide +kernel) (by decide +kernel) (by decide +kernel) (by decide +kernel) (by decide +kernel) (by decide +kernel) (by decide +kernel) (by decide +kernel) (by decide +kernel) (fun u => by rcases u with u | u; exact absurd u (al_no2 hP (by decide)); omega) (al_Z.new h3 (by decide +kernel)) (fun υ4 y4 => ?_)
    replace y4 : al_Y _ υ4 44 49 _ := y4
    refine cs_X3_init_s0_0 (by rw [y4.2.2.1 37 (by decide) (by decide)]; decide +kernel) (by rw [y4.2.2.1 44 (by decide) (by decide)]; decide +kernel) (by decide) ?_
    show ab_Run X 19 23 (_, _, _) [ab_R 36, ab_I 2] [] (ab_wr υ4 37 1 44) Q
    have g4 := al_Z.el (A := 37) (i := 1) h3 y4 (by decide) (Or.inl (Or.inr rfl))
    have v4 : ab_rd (ab_wr υ4 37 1 44) 37 1 = 44 := ab_rdw_eq
    generalize ab_wr υ4 37 1 44 = τ4 at g4 v4 ⊢
    obtain ⟨h4, e4⟩ := g4
    have E37_4 := al_E.step (z' := 2) E37_3 (by decide) e4 (by decide) v4 (by decide +kernel) (by decide)
    have E38_4 := al_E.keep E38_3 e4 (by decide) (by decide)
    clear y4 h3
    refine cs_X3_init_e0_0 h4 (by decide +kernel) (A := 37) (((h4.2.2.2.2.1 0 (by decide)).1 (Or.inl (Or.inr rfl))).trans (by decide +kernel)) (by decide) (by decide) (by decide +kernel) (by decide) (by omega) ?_
    refine cn_X8_init (by decide +kernel) (by decide +kernel) (by decide +kernel) (by decide +kernel) (by decide +kernel) (by decide +kernel) (by decide +kernel) (by decide +kernel) (by decide +kernel) (by decide +kernel) (fun u => by rcases u with u | u; exact absurd u (al_no2 hP (by decide)); omega) (al_Z.new h4 (by decide +kernel)) (fun υ5 y5 => ?_)
    replace y5 : al_Y _ υ5 49 54 _ := y5
    refine cs_X3_init_s0_0 (by rw [y5.2.2.1 37 (by decide) (by decide)]; decide +kernel) (by rw [y5.2.2.1 49 (by decide) (by decide)]; decide +kernel) (by decide) ?_
    show ab_Run X 19 23 (_, _, _) [ab_R 36, ab_I 3] [] (ab_wr υ5 37 2 49) Q
    have g5 := al_Z.el (A := 37) (i := 2) h4 y5 (by decide) (Or.inl (Or.inr rfl))
    have v5 : ab_rd (ab_wr υ5 37 2 49) 37 2 = 49 := ab_rdw_eq
    generalize ab_wr υ5 37 2 49 = τ5 at g5 v5 ⊢
    obtain ⟨h5, e5⟩ := g5
    have E37_5 := al_E.step (z' := 3) E37_4 (by decide) e5 (by decide) v5 (by decide +kernel) (by decide)
    have E38_5 := al_E.keep E38_4 e5 (by decide) (by decide)
    clear y5 h4
    refine cs_X3_init_e0_0 h5 (by decide +kernel) (A := 37) (((h5.2.2.2.2.1 0 (by decide)).1 (Or.inl (Or.inr rfl))).trans (by decide +kernel)) (by decide) (by decide) (by decide +kernel) (by decide) (by omega) ?_
    refine cn_X8_init (by decide +kernel) (by decide +kernel) (by decide +kernel) (by decide +kernel) (by decide +kernel) (by decide +kernel) (by decide +kernel) (by decide +kernel) (by decide +kernel) (by decide +kernel) (fun u => by rcases u with u | u; exact absurd u (al_no2 hP (by decide)); omega) (al_Z.new h5 (by decide +kernel)) (fun υ6 y6 => ?_)
    replace y6 : al_Y _ υ6 54 59 _ := y6
    refine cs_X3_init_s0_0 (by rw [y6.2.2.1 37 (by decide) (by decide)]; decide +kernel) (by rw [y6.2.2.1 54 (by decide) (by decide)]; decide +kernel) (by decide) ?_
    show ab_Run X 19 23 (_, _, _) [ab_R 36, ab_I 4] [] (ab_wr υ6 37 3 54) Q
    have g6 := al_Z.el (A := 37) (i := 3) h5 y6 (by decide) (Or.inl (Or.inr rfl))
    have v6 : ab_rd (ab_wr υ6 37 3 54) 37 3 = 54 := ab_rdw_eq
    generalize ab_wr υ6 37 3 54 = τ6 at g6 v6 ⊢
    obtain ⟨h6, e6⟩ := g6
    have E37_6 := al_E.step (z' := 4) E37_5 (by decide) e6 (by decide) v6 (by decide +kernel) (by decide)
    have E38_6 := al_E.keep E38_5 e6 (by decide) (by decide)
    clear y6 h5
    refine cs_X3_init_e0_0 h6 (by decide +kernel) (A := 37) (((h6.2.2.2.2.1 0 (by decide)).1 (Or.inl (Or.inr rfl))).trans (by decide +kernel)) (by decide) (by decide) (by decide +kernel) (by decide) (by omega) ?_
    refine cn_X8_init (by decide +kernel) (by decide +kernel) (by decide +kernel) (by decide +kernel) (by decide +kernel) (by decide +kernel) (by decide +kernel) (by decide +kernel) (by decide +kernel) (by decide +kernel) (fun u => by rcases u with u | u; exact absurd u (al_no2 hP (by decide)); omega) (al_Z.new h6 (by decide +kernel)) (fun υ7 y7 => ?_)
    replace y7 : al_Y _ υ7 59 64 _ := y7
    refine cs_X3_init_s0_0 (by rw [y7.2.2.1 37 (by decide) (by decide)]; decide +kernel) (by rw [y7.2.2.1 59 (by decide) (by decide)]; decide +kernel) (by decide) ?_
    show ab_Run X 19 23 (_, _, _) [ab_R 36, ab_I 5] [] (ab_wr υ7 37 4 59) Q
    have g7 := al_Z.el (A := 37) (i := 4) h6 y7 (by decide) (Or.inl (Or.inr rfl))
    have v7 : ab_rd (ab_wr υ7 37 4 59) 37 4 = 59 := ab_rdw_eq
    generalize ab_wr υ7 37 4 59 = τ7 at g7 v7 ⊢
    obtain ⟨h7, e7⟩ := g7
    have E37_7 := al_E.step (z' := 5) E37_6 (by decide) e7 (by decide) v7 (by decide +kernel) (by decide)
    have E38_7 := al_E.keep E38_6 e7 (by decide) (by decide)
    clear y7 h6
    refine cs_X3_init_e0_0 h7 (by decide +kernel) (A := 37) (((h7.2.2.2.2.1 0 (by decide)).1 (Or.inl (Or.inr rfl))).trans (by decide +kernel)) (by decide) (by decide) (by decide +kernel) (by decide) (by omega) ?_
    refine cn_X8_init (by decide +kernel) (by decide +kernel) (by decide +kernel) (by decide +kernel) (by decide +kernel) (by decide +kernel) (by decide +kernel) (by decide +kernel) (by decide +kernel) (by decide +kernel) (fun u => by rcases u with u | u; exact absurd u (al_no2 hP (by decide)); omega) (al_Z.new h7 (by decide +kernel)) (fun υ8 y8 => ?_)
    replace y8 : al_Y _ υ8 64 69 _ := y8
    refine cs_X3_init_s0_0 (by rw [y8.2.2.1 37 (by decide) (by decide)]; decide +kernel) (by rw [y8.2.2.1 64 (by decide) (by decide)]; decide +kernel) (by decide) ?_
    show ab_Run X 19 23 (_, _, _) [ab_R 36, ab_I 6] [] (ab_wr υ8 37 5 64) Q
    have g8 := al_Z.el (A := 37) (i := 5) h7 y8 (by decide) (Or.inl (Or.inr rfl))
    have v8 : ab_rd (ab_wr υ8 37 5 64) 37 5 = 64 := ab_rdw_eq
    generalize ab_wr υ8 37 5 64 = τ8 at g8 v8 ⊢
    obtain ⟨h8, e8⟩ := g8
    have E37_8 := al_E.step (z' := 6) E37_7 (by decide) e8 (by decide) v8 (by decide +kernel) (by decide)
    have E38_8 := al_E.keep E38_7 e8 (by decide) (by decide)
    clear y8 h7
    refine cs_X3_init_e0_0 h8 (by decide +kernel) (A := 37) (((h8.2.2.2.2.1 0 (by decide)).1 (Or.inl (Or.inr rfl))).trans (by decide +kernel)) (by decide) (by decide) (by decide +kernel) (by decide) (by omega) ?_
    refine cn_X8_init (by decide +kernel) (by decide +kernel) (by decide +kernel) (by decide +kernel) (by decide +kernel) (by decide +kernel) (by decide +kernel) (by decide +kernel) (by decide +kernel) (by decide +kernel) (fun u => by rcases u with u | u; exact absurd u (al_no2 hP (by decide)); omega) (al_Z.new h8 (by decide +kernel)) (fun υ9 y9 => ?_)
    replace y9 : al_Y _ υ9 69 74 _ := y9
    refine cs_X3_init_s0_0 (by rw [y9.2.2.1 37 (by decide) (by decide)]; decide +kernel) (by rw [y9.2.2.1 69 (by decide) (by decide)]; decide +kernel) (by decide) ?_
    show ab_Run X 19 23 (_, _, _) [ab_R 36, ab_I 7] [] (ab_wr υ9 37 6 69) Q
    have g9 := al_Z.el (A := 37) (i := 6) h8 y9 (by decide) (Or.inl (Or.inr rfl))
    have v9 : ab_rd (ab_wr υ9 37 6 69) 37 6 = 69 := ab_rdw_eq
    generalize ab_wr υ9 37 6 69 = τ9 at g9 v9 ⊢
    obtain ⟨h9, e9⟩ := g9
    have E37_9 := al_E.step (z' := 7) E37_8 (by decide) e9 (by decide) v9 (by decide +kernel) (by decide)
    have E38_9 := al_E.keep E38_8 e9 (by decide) (by decide)
    clear y9 h8
    refine cs_X3_init_e0_0 h9 (by decide +kernel) (A := 37) (((h9.2.2.2.2.1 0 (by decide)).1 (Or.inl (Or.inr rfl))).trans (by decide +kernel)) (by decide) (by decide) (by decide +kernel) (by decide) (by omega) ?_
    refine cn_X8_init (by decide +kernel) (by decide +kernel) (by decide +kernel) (by decide +kernel) (by decide +kernel) (by decide +kernel) (by decide +kernel) (by decide +kernel) (by decide +kernel) (by decide +kernel) (fun u => by rcases u with u | u; exact absurd u (al_no2 hP (by decide)); omega) (al_Z.new h9 (by decide +kernel)) (fun υ10 y10 => ?_)
    replace y10 : al_Y _ υ10 74 79 _ := y10
    refine cs_X3_init_s0_0 (by rw [y10.2.2.1 37 (by decide) (by decide)]; decide +kernel) (by rw [y10.2.2.1 74 (by decide) (by decide)]; decide +kernel) (by decide) ?_
    show ab_Run X 19 23 (_, _, _) [ab_R 36, ab_I 8] [] (ab_wr υ10 37 7 74) Q
    have g10 := al_Z.el (A := 37) (i := 7) h9 y10 (by decide) (Or.inl (Or.inr rfl))
    have v10 : ab_rd (ab_wr υ10 37 7 74) 37 7 = 74 := ab_rdw_eq
    generalize ab_wr υ10 37 7 74 = τ10 at g10 v10 ⊢
    obtain ⟨h10, e10⟩ := g10
    have E37_10 := al_E.step (z' := 8) E37_9 (by decide) e10 (by decide) v10 (by decide +kernel) (by decide)
    have E38_10 := al_E.keep E38_9 e10 (by decide) (by decide)
    clear y10 h9
    refine cs_X3_init_e0_0 h10 (by decide +kernel) (A := 37) (((h10.2.2.2.2.1 0 (by decide)).1 (Or.inl (Or.inr rfl))).trans (by decide +kernel)) (by decide) (by decide) (by decide +kernel) (by decide) (by omega) ?_
    refine cn_X8_init (by decide +kernel) (by decide +kernel) (by decide +kernel) (by decide +kernel) (by decide +kernel) (by decide +kernel) (by decide +kernel) (by decide +kernel) (by decide +kernel) (by decide +kernel) (fun u => by rcases u with u | u; exact absurd u (al_no2 hP (by decide)); omega) (al_Z.new h10 (by decide +kernel)) (fun υ11 y11 => ?_)
    replace y11 : al_Y _ υ11 79 84 _ := y11
    refine cs_X3_init_s0_0 (by rw [y11.2.2.1 37 (by decide) (by decide)]; decide +kernel) (by rw [y11.2.2.1 79 (by decide) (by decide)]; decide +kernel) (by decide) ?_
    show ab_Run X 19 23 (_, _, _) [ab_R 36, ab_I 9] [] (ab_wr υ11 37 8 79) Q
    have g11 := al_Z.el (A := 37) (i := 8) h10 y11 (by decide) (Or.inl (Or.inr rfl))
    have v11 : ab_rd (ab_wr υ11 37 8 79) 37 8 = 79 := ab_rdw_eq
    generalize ab_wr υ11 37 8 79 = τ11 at g11 v11 ⊢
    obtain ⟨h11, e11⟩ := g11
    have E37_11 := al_E.step (z' := 9) E37_10 (by decide) e11 (by decide) v11 (by decide +kernel) (by decide)
    have E38_11 := al_E.keep E38_10 e11 (by decide) (by decide)
    clear y11 h10
    refine cs_X3_init_e0_0 h11 (by decide +kernel) (A := 37) (((h11.2.2.2.2.1 0 (by decide)).1 (Or.inl (Or.inr rfl))).trans (by decide +kernel)) (by decide) (by decide) (by decide +kernel) (by decide) (by omega) ?_
    refine cn_X8_init (by decide +kernel) (by decide +kernel) (by decide +kernel) (by decide +kernel) (by decide +kernel) (by decide +kernel) (by decide +kernel) (by decide +kernel) (by decide +kernel) (by decide +kernel) (fun u => by rcases u with u | u; exact absurd u (al_no2 hP (by decide)); omega) (al_Z.new h11 (by decide +kernel)) (fun υ12 y12 => ?_)
    replace y12 : al_Y _ υ12 84 89 _ := y12
    refine cs_X3_init_s0_0 (by rw [y12.2.2.1 37 (by decide) (by decide)]; decide +kernel) (by rw [y12.2.2.1 84 (by decide) (by decide)]; decide +kernel) (by decide) ?_
    show ab_Run X 19 23 (_, _, _) [ab_R 36, ab_I 10] [] (ab_wr υ12 37 9 84) Q
    have g12 := al_Z.el (A := 37) (i := 9) h11 y12 (by decide) (Or.inl (Or.inr rfl))
    have v12 : ab_rd (ab_wr υ12 37 9 84) 37 9 = 84 := ab_rdw_eq
    generalize ab_wr υ12 37 9 84 = τ12 at g12 v12 ⊢
    obtain ⟨h12, e12⟩ := g12
    have E37_12 := al_E.step (z' := 10) E37_11 (by decide) e12 (by decide) v12 (by decide +kernel) (by decide)
    have E38_12 := al_E.keep E38_11 e12 (by decide) (by decide)
    clear y12 h11
    refine cs_X3_init_e0_0 h12 (by decide +kernel) (A := 37) (((h12.2.2.2.2.1 0 (by decide)).1 (Or.inl (Or.inr rfl))).trans (by decide +kernel)) (by decide) (by decide) (by decide +kernel) (by decide) (by omega) ?_
    refine cn_X8_init (by decide +kernel) (by decide +kernel) (by decide +kernel) (by decide +kernel) (by decide +kernel) (by decide +kernel) (by decide +kernel) (by decide +kernel) (by decide +kernel) (by decide +kernel) (fun u => by rcases u with u | u; exact absurd u (al_no2 hP (by decide)); omega) (al_Z.new h12 (by decide +kernel)) (fun υ13 y13 => ?_)
    replace y13 : al_Y _ υ13 89 94 _ := y13
    refine cs_X3_init_s0_0 (by rw [y13.2.2.1 37 (by decide) (by decide)]; decide +kernel) (by rw [y13.2.2.1 89 (by decide) (by decide)]; decide +kernel) (by decide) ?_
    show ab_Run X 19 23 (_, _, _) [ab_R 36, ab_I 11] [] (ab_wr υ13 37 10 89) Q
    have g13 := al_Z.el (A := 37) (i := 10) h12 y13 (by decide) (Or.inl (Or.inr rfl))
    have v13 : ab_rd (ab_wr υ13 37 10 89) 37 10 = 89 := ab_rdw_eq
    generalize ab_wr υ13 37 10 89 = τ13 at g13 v13 ⊢
    obtain ⟨h13, e13⟩ := g13
    have E37_13 := al_E.step (z' := 11) E37_12 (by decide) e13 (by decide) v13 (by decide +kernel) (by decide)
    have E38_13 := al_E.keep E38_12 e13 (by decide) (by decide)
    clear y13 h12
    refine cs_X3_init_e0_0 h13 (by decide +kernel) (A := 37) (((h13.2.2.2.2.1 0 (by decide)).1 (Or.inl (Or.inr rfl))).trans (by decide +kernel)) (by decide) (by decide) (by decide +kernel) (by decide) (by omega) ?_
    refine cn_X8_init (by decide +kernel) (by decide +kernel) (by decide +kernel) (by decide +kernel) (by decide +kernel) (by decide +kernel) (by decide +kernel) (by decide +kernel) (by decide +kernel) (by decide +kernel) (fun u => by rcases u with u | u; exact absurd u (al_no2 hP (by decide)); omega) (al_Z.new h13 (by decide +kernel)) (fun υ14 y14 => ?_)
    replace y14 : al_Y _ υ14 94 99 _ := y14
    refine cs_X3_init_s0_0 (by rw [y14.2.2.1 37 (by decide) (by decide)]; decide +kernel) (by rw [y14.2.2.1 94 (by decide) (by decide)]; decide +kernel) (by decide) ?_
    show ab_Run X 19 23 (_, _, _) [ab_R 36, ab_I 12] [] (ab_wr υ14 37 11 94) Q
    have g14 := al_Z.el (A := 37) (i := 11) h13 y14 (by decide) (Or.inl (Or.inr rfl))
    have v14 : ab_rd (ab_wr υ14 37 11 94) 37 11 = 94 := ab_rdw_eq
    generalize ab_wr υ14 37 11 94 = τ14 at g14 v14 ⊢
    obtain ⟨h14, e14⟩ := g14
    have E37_14 := al_E.step (z' := 12) E37_13 (by decide) e14 (by decide) v14 (by decide +kernel) (by decide)
    have E38_14 := al_E.keep E38_13 e14 (by decide) (by decide)
    clear y14 h13
    refine cs_X3_init_e0_0 h14 (by decide +kernel) (A := 37) (((h14.2.2.2.2.1 0 (by decide)).1 (Or.inl (Or.inr rfl))).trans (by decide +kernel)) (by decide) (by decide) (by decide +kernel) (by decide) (by omega) ?_
    refine cn_X8_init (by decide +kernel) (by decide +kernel) (by decide +kernel) (by decide +kernel) (by decide +kernel) (by decide +kernel) (by decide +kernel) (by decide +kernel) (by decide +kernel) (by decide +kernel) (fun u => by rcases u with u | u; exact absurd u (al_no2 hP (by decide)); omega) (al_Z.new h14 (by decide +kernel)) (fun υ15 y15 => ?_)
    replace y15 : al_Y _ υ15 99 104 _ := y15
    refine cs_X3_init_s0_0 (by rw [y15.2.2.1 37 (by decide) (by decide)]; decide +kernel) (by rw [y15.2.2.1 99 (by decide) (by decide)]; decide +kernel) (by decide) ?_
    show ab_Run X 19 23 (_, _, _) [ab_R 36, ab_I 13] [] (ab_wr υ15 37 12 99) Q
    have g15 := al_Z.el (A := 37) (i := 12) h14 y15 (by decide) (Or.inl (Or.inr rfl))
    have v15 : ab_rd (ab_wr υ15 37 12 99) 37 12 = 99 := ab_rdw_eq
    generalize ab_wr υ15 37 12 99 = τ15 at g15 v15 ⊢
    obtain ⟨h15, e15⟩ := g15
    have E37_15 := al_E.step (z' := 13) E37_14 (by decide) e15 (by decide) v15 (by decide +kernel) (by decide)
    have E38_15 := al_E.keep E38_14 e15 (by decide) (by decide)
    clear y15 h14
    refine cs_X3_init_e0_0 h15 (by decide +kernel) (A := 37) (((h15.2.2.2.2.1 0 (by decide)).1 (Or.inl (Or.inr rfl))).trans (by decide +kernel)) (by decide) (by decide) (by decide +kernel) (by decide) (by omega) ?_
    refine cn_X8_init (by decide +kernel) (by decide +kernel) (by decide +kernel) (by decide +kernel) (by decide +kernel) (by decide +kernel) (by decide +kernel) (by decide +kernel) (by decide +kernel) (by decide +kernel) (fun u => by rcases u with u | u; exact absurd u (al_no2 hP (by decide)); omega) (al_Z.new h15 (by decide +kernel)) (fun υ16 y16 => ?_)
    replace y16 : al_Y _ υ16 104 109 _ := y16
    refine cs_X3_init_s0_0 (by rw [y16.2.2.1 37 (by decide) (by decide)]; decide +kernel) (by rw [y16.2.2.1 104 (by decide) (by decide)]; decide +kernel) (by decide) ?_
    show ab_Run X 19 23 (_, _, _) [ab_R 36, ab_I 14] [] (ab_wr υ16 37 13 104) Q
    have g16 := al_Z.el (A := 37) (i := 13) h15 y16 (by decide) (Or.inl (Or.inr rfl))
    have v16 : ab_rd (ab_wr υ16 37 13 104) 37 13 = 104 := ab_rdw_eq
    generalize ab_wr υ16 37 13 104 = τ16 at g16 v16 ⊢
    obtain ⟨h16, e16⟩ := g16
    have E37_16 := al_E.step (z' := 14) E37_15 (by decide) e16 (by decide) v16 (by decide +kernel) (by decide)
    have E38_16 := al_E.keep E38_15 e16 (by decide) (by decide)
    clear y16 h15
    refine cs_X3_init_e0_0 h16 (by decide +kernel) (A := 37) (((h16.2.2.2.2.1 0 (by decide)).1 (Or.inl (Or.inr rfl))).trans (by decide +kernel)) (by decide) (by decide) (by decide +kernel) (by decide) (by omega) ?_
    refine cn_X8_init (by decide +kernel) (by decide +kernel) (by decide +kernel) (by decide +kernel) (by decide +kernel) (by decide +kernel) (by decide +kernel) (by decide +kernel) (by decide +kernel) (by decide +kernel) (fun u => by rcases u with u | u; exact absurd u (al_no2 hP (by decide)); omega) (al_Z.new h16 (by decide +kernel)) (fun υ17 y17 => ?_)
    replace y17 : al_Y _ υ17 109 114 _ := y17
    refine cs_X3_init_s0_0 (by rw [y17.2.2.1 37 (by decide) (by decide)]; decide +kernel) (by rw [y17.2.2.1 109 (by decide) (by decide)]; decide +kernel) (by decide) ?_
    show ab_Run X 19 23 (_, _, _) [ab_R 36, ab_I 15] [] (ab_wr υ17 37 14 109) Q
    have g17 := al_Z.el (A := 37) (i := 14) h16 y17 (by decide) (Or.inl (Or.inr rfl))
    have v17 : ab_rd (ab_wr υ17 37 14 109) 37 14 = 109 := ab_rdw_eq
    generalize ab_wr υ17 37 14 109 = τ17 at g17 v17 ⊢
    obtain ⟨h17, e17⟩ := g17
    have E37_17 := al_E.step (z' := 15) E37_16 (by decide) e17 (by decide) v17 (by decide +kernel) (by decide)
    have E38_17 := al_E.keep E38_16 e17 (by decide) (by decide)
    clear y17 h16
    refine cs_X3_init_e0_0 h17 (by decide +kernel) (A := 37) (((h17.2.2.2.2.1 0 (by decide)).1 (Or.inl (Or.inr rfl))).trans (by decide +kernel)) (by decide) (by decide) (by decide +kernel) (by decide) (by omega) ?_
    refine cn_X8_init (by decide +kernel) (by decide +kernel) (by decide +kernel) (by decide +kernel) (by decide +kernel) (by decide +kernel) (by decide +kernel) (by decide +kernel) (by decide +kernel) (by decide +kernel) (fun u => by rcases u with u | u; exact absurd u (al_no2 hP (by decide)); omega) (al_Z.new h17 (by decide +kernel)) (fun υ18 y18 => ?_)
    replace y18 : al_Y _ υ18 114 119 _ := y18
    refine cs_X3_init_s0_0 (by rw [y18.2.2.1 37 (by decide) (by decide)]; decide +kernel) (by rw [y18.2.2.1 114 (by decide) (by decide)]; decide +kernel) (by decide) ?_
    show ab_Run X 19 23 (_, _, _) [ab_R 36, ab_I 16] [] (ab_wr υ18 37 15 114) Q
    have g18 := al_Z.el (A := 37) (i := 15) h17 y18 (by decide) (Or.inl (Or.inr rfl))
    have v18 : ab_rd (ab_wr υ18 37 15 114) 37 15 = 114 := ab_rdw_eq
    generalize ab_wr υ18 37 15 114 = τ18 at g18 v18 ⊢
    obtain ⟨h18, e18⟩ := g18
    have E37_18 := al_E.step (z' := 16) E37_17 (by decide) e18 (by decide) v18 (by decide +kernel) (by decide)
    have E38_18 := al_E.keep E38_17 e18 (by decide) (by decide)
    clear y18 h17
    refine cs_X3_init_x0 ?_
    refine cs_X3_init_i1 ?_
    refine cs_X3_init_e1_0 h18 (by decide +kernel) (A := 38) (((h18.2.2.2.2.1 1 (by decide)).1 (Or.inr rfl)).trans (by decide +kernel)) (by decide) (by decide) (by decide +kernel) (by decide) (by omega) ?_
    refine cn_X8_init (by decide +kernel) (by decide +kernel) (by decide +kernel) (by decide +kernel) (by decide +kernel) (by decide +kernel) (by decide +kernel) (by decide +kernel) (by decide +kernel) (by decide +kernel) (fun u => by rcases u with u | u; exact absurd u (al_no2 hP (by decide)); omega) (al_Z.new h18 (by decide +kernel)) (fun υ19 y19 => ?_)
    replace y19 : al_Y _ υ19 119 124 _ := y19
    refine cs_X3_init_s1_0 (by rw [y19.2.2.1 38 (by decide) (by decide)]; decide +kernel) (by rw [y19.2.2.1 119 (by decide) (by decide)]; decide +kernel) (by decide) ?_
    show ab_Run X 19 50 (_, _, _) [ab_R 36, ab_I 1] [] (ab_wr υ19 38 0 119) Q
    have g19 := al_Z.el (A := 38) (i := 0) h18 y19 (by decide) (Or.inr rfl)
    have v19 : ab_rd (ab_wr υ19 38 0 119) 38 0 = 119 := ab_rdw_eq
    generalize ab_wr υ19 38 0 119 = τ19 at g19 v19 ⊢
    obtain ⟨h19, e19⟩ := g19
    have E37_19 := al_E.keep E37_18 e19 (by decide) (by decide)
    have E38_19 := al_E.step (z' := 1) E38_18 (by decide) e19 (by decide) v19 (by decide +kernel) (by decide)
    clear y19 h18
    refine cs_X3_init_e1_0 h19 (by decide +kernel) (A := 38) (((h19.2.2.2.2.1 1 (by decide)).1 (Or.inr rfl)).trans (by decide +kernel)) (by decide) (by decide) (by decide +kernel) (by decide) (by omega) ?_
    refine cn_X8_init (by decide +kernel) (by decide +kernel) (by decide +kernel) (by decide +kernel) (by decide +kernel) (by decide +kernel) (by decide +kernel) (by decide +kernel) (by decide +kernel) (by decide +kernel) (fun u => by rcases u with u | u; exact absurd u (al_no2 hP (by decide)); omega) (al_Z.new h19 (by decide +kernel)) (fun υ20 y20 => ?_)
    replace y20 : al_Y _ υ20 124 129 _ := y20
    refine cs_X3_init_s1_0 (by rw [y20.2.2.1 38 (by decide) (by decide)]; decide +kernel) (by rw [y20.2.2.1 124 (by decide) (by decide)]; decide +kernel) (by decide) ?_
    show ab_Run X 19 50 (_, _, _) [ab_R 36, ab_I 2] [] (ab_wr υ20 38 1 124) Q
    have g20 := al_Z.el (A := 38) (i := 1) h19 y20 (by decide) (Or.inr rfl)
    have v20 : ab_rd (ab_wr υ20 38 1 124) 38 1 = 124 := ab_rdw_eq
    generalize ab_wr υ20 38 1 124 = τ20 at g20 v20 ⊢
    obtain ⟨h20, e20⟩ := g20
    have E37_20 := al_E.keep E37_19 e20 (by decide) (by decide)
    have E38_20 := al_E.step (z' := 2) E38_19 (by decide) e20 (by decide) v20 (by decide +kernel) (by decide)
    clear y20 h19
    refine cs_X3_init_e1_0 h20 (by decide +kernel) (A := 38) (((h20.2.2.2.2.1 1 (by decide)).1 (Or.inr rfl)).trans (by decide +kernel)) (by decide) (by decide) (by decide +kernel) (by decide) (by omega) ?_
    refine cn_X8_init (by decide +kernel) (by decide +kernel) (by decide +kernel) (by decide +kernel) (by decide +kernel) (by decide +kernel) (by decide +kernel) (by decide +kernel) (by decide +kernel) (by decide +kernel) (fun u => by rcases u with u | u; exact absurd u (al_no2 hP (by decide)); omega) (al_Z.new h20 (by decide +kernel)) (fun υ21 y21 => ?_)
    replace y21 : al_Y _ υ21 129 134 _ := y21
    refine cs_X3_init_s1_0 (by rw [y21.2.2.1 38 (by decide) (by decide)]; decide +kernel) (by rw [y21.2.2.1 129 (by decide) (by decide)]; decide +kernel) (by decide) ?_
    show ab_Run X 19 50 (_, _, _) [ab_R 36, ab_I 3] [] (ab_wr υ21 38 2 129) Q
    have g21 := al_Z.el (A := 38) (i := 2) h20 y21 (by decide) (Or.inr rfl)
    have v21 : ab_rd (ab_wr υ21 38 2 129) 38 2 = 129 := ab_rdw_eq
    generalize ab_wr υ21 38 2 129 = τ21 at g21 v21 ⊢
    obtain ⟨h21, e21⟩ := g21
    have E37_21 := al_E.keep E37_20 e21 (by decide) (by decide)
    have E38_21 := al_E.step (z' := 3) E38_20 (by decide) e21 (by decide) v21 (by decide +kernel) (by decide)
    clear y21 h20
    refine cs_X3_init_x1 ?_
    have F37 := al_E.full E37_21 (fun f hf => by rw [al_row (l := [39, 44, 49, 54, 59, 64, 69, 74, 79, 84, 89, 94, 99, 104, 109, 114]) (by decide +kernel)]; exact ac_getD_ge (by simp only [List.length_cons, List.length_nil]; omega))
    have F38 := al_E.full E38_21 (fun f hf => by rw [al_row (l := [119, 124, 129]) (by decide +kernel)]; exact ac_getD_ge (by simp only [List.length_cons, List.length_nil]; omega))
    have h22 := al_Z.res h21 F38 (fun x u => u.elim (fun q => Or.inr q) (fun q => Or.inl q))
    have h23 := al_Z.res h22 F37 (fun x u => u.elim (fun q => Or.inr q) (fun q => Or.inl q))
    have kr := hQ _ (al_Z.done h23 (fun f f1 => by
      have q : f = 0 ∨ f = 1 ∨ 2 ≤ f := by omega
      rcases q with rfl | rfl | q
      · exact Or.inl (Or.inl (Or.inr rfl))
      · exact Or.inl (Or.inr rfl)
      · right; rw [al_row (l := [37, 38]) (by decide +kernel)]; exact ac_getD_ge (by simp only [List.length_cons, List.length_nil]; omega)) (fun u => by have := hP _ u; omega))
    clear hQ
    exact cs_X3_init_r kr
  clear hQ h
  simp (disch := omega) only [dn_X3_init, rX3_init_0, rX3_init_1, ne_eq, not_false_eq_true, not_true_eq_false, true_and, and_true, and_self, true_imp_iff, false_imp_iff, imp_self, Bool.not_false, Bool.not_true, reduceCtorEq, ab_isJ, ab_psh, ab_cats, Bool.false_eq_true, if_true, if_false, ab_shf, ab_shw, Int.le_refl, Classical.not_not, Int.zero_add, forall_const, ↓ab_itT, ↓ab_itF, ab_anT, true_or, or_true]
  all_goals exact kq
end
