section
variable {X : ab_X} {σ τ υ σ0 : ab_S} {Q : Option ab_V → ab_S → Prop} {a z z' A B i j n t k2 : Int} {P D : Int → Prop} {f cl sl : Nat}
set_option maxHeartbeats 8000000 in
theorem cm_X2_init_148 (hP : ∀ x, P x → x < 148) (h : al_Z σ σ 148 149 P (fun _ => False)) (hQ : ∀ τ, al_Y σ τ 148 325 P → Q none τ) : ab_Do X 11 [ab_R 148] σ Q := by
  have kq : ab_Run X 11 4 (2, 176, 1320) [ab_R 148, ab_R 0] [] σ Q := by
    refine cs_X2_init_0 h (by decide +kernel) (by omega) ?_
    have g1 := al_Z.parr (z' := 150) (f0 := 0) h (t := 25) (n := 12) (by decide +kernel) (by decide) (by decide +kernel) (by decide)
    generalize ab_wr (ab_new σ 25 12) 148 0 149 = τ1 at g1 ⊢
    obtain ⟨h1, q1, e1⟩ := g1
    have E149_1 := al_E.zero q1
    refine cs_X2_init_1 h1 (by decide +kernel) (by omega) ?_
    have g2 := al_Z.parr (z' := 151) (f0 := 1) h1 (t := 25) (n := 12) (by decide +kernel) (by decide) (by decide +kernel) (by decide)
    generalize ab_wr (ab_new τ1 25 12) 148 1 150 = τ2 at g2 ⊢
    obtain ⟨h2, q2, e2⟩ := g2
    have E149_2 := al_E.same E149_1 (fun f => e2 149 f (by decide) (by decide))
    have E150_2 := al_E.zero q2
    refine cs_X2_init_2 h2 (by decide +kernel) (by omega) ?_
    have h3 := al_Z.arr (z' := 152) (f0 := 2) h2 (t := 21) (n := 12) (by decide +kernel) (by decide +kernel) (by decide) (by decide +kernel) (by decide)
    have e3 : ∀ x f, x < 151 → x ≠ 148 → ab_rd (ab_wr (ab_new τ2 21 12) 148 2 151) x f = ab_rd τ2 x f := fun x f q1 q2 => by rw [ab_rdw_ne (Or.inl q2), ab_rdn, if_neg (by have := h2.1; omega)]
    generalize ab_wr (ab_new τ2 21 12) 148 2 151 = τ3 at h3 e3 ⊢
    have E149_3 := al_E.same E149_2 (fun f => e3 149 f (by decide) (by decide))
    have E150_3 := al_E.same E150_2 (fun f => e3 150 f (by decide) (by decide))
    refine cs_X2_init_3 h3 (by decide +kernel) (by omega) ?_
    have h4 := al_Z.arr (z' := 153) (f0 := 3) h3 (t := 21) (n := 12) (by decide +kernel) (by decide +kernel) (by decide) (by decide +kernel) (by decide)
    have e4 : ∀ x f, x < 152 → x ≠ 148 → ab_rd (ab_wr (ab_new τ3 21 12) 148 3 152) x f = ab_rd τ3 x f := fun x f q1 q2 => by rw [ab_rdw_ne (Or.inl q2), ab_rdn, if_neg (by have := h3.1; omega)]
    generalize ab_wr (ab_new τ3 21 12) 148 3 152 = τ4 at h4 e4 ⊢
    have E149_4 := al_E.same E149_3 (fun f => e4 149 f (by decide) (by decide))
    have E150_4 := al_E.same E150_3 (fun f => e4 150 f (by decide) (by decide))
    refine cs_X2_init_4 h4 (by decide +kernel) (by omega) ?_
    have g5 := al_Z.mul (z' := 166) (n := 12) (k2 := 12) (i := 4) h4 (by decide) (by decide +kernel) al_mulx_153 al_muli_153 (by decide +kernel) (by decide)
    generalize ab_wr (ab_mul τ4 12 12) 148 4 153 = τ5 at g5 ⊢
    obtain ⟨h5, e5⟩ := g5
    have E149_5 := al_E.same E149_4 (fun f => e5 149 f (by decide) (by decide))
    have E150_5 := al_E.same E150_4 (fun f => e5 150 f (by decide) (by decide))
    refine cs_X2_init_5 h5 (by decide +kernel) (by omega) ?_
    have g6 := al_Z.mul (z' := 179) (n := 12) (k2 := 12) (i := 5) h5 (by decide) (by decide +kernel) al_mulx_166 al_muli_166 (by decide +kernel) (by decide)
    generalize ab_wr (ab_mul τ5 12 12) 148 5 166 = τ6 at g6 ⊢
    obtain ⟨h6, e6⟩ := g6
    have E149_6 := al_E.same E149_5 (fun f => e6 149 f (by decide) (by decide))
    have E150_6 := al_E.same E150_5 (fun f => e6 150 f (by decide) (by decide))
    refine cs_X2_init_6 h6 (by decide +kernel) (by omega) ?_
    have h7 := al_Z.arr (z' := 180) (f0 := 6) h6 (t := 21) (n := 12) (by decide +kernel) (by decide +kernel) (by decide) (by decide +kernel) (by decide)
    have e7 : ∀ x f, x < 179 → x ≠ 148 → ab_rd (ab_wr (ab_new τ6 21 12) 148 6 179) x f = ab_rd τ6 x f := fun x f q1 q2 => by rw [ab_rdw_ne (Or.inl q2), ab_rdn, if_neg (by have := h6.1; omega)]
    generalize ab_wr (ab_new τ6 21 12) 148 6 179 = τ7 at h7 e7 ⊢
    have E149_7 := al_E.same E149_6 (fun f => e7 149 f (by decide) (by decide))
    have E150_7 := al_E.same E150_6 (fun f => e7 150 f (by decide) (by decide))
    refine cs_X2_init_7 h7 (by decide +kernel) (by omega) ?_
    have h8 := al_Z.arr (z' := 181) (f0 := 7) h7 (t := 21) (n := 12) (by decide +kernel) (by decide +kernel) (by decide) (by decide +kernel) (by decide)
    have e8 : ∀ x f, x < 180 → x ≠ 148 → ab_rd (ab_wr (ab_new τ7 21 12) 148 7 180) x f = ab_rd τ7 x f := fun x f q1 q2 => by rw [ab_rdw_ne (Or.inl q2), ab_rdn, if_neg (by have := h7.1; omega)]
    generalize ab_wr (ab_new τ7 21 12) 148 7 180 = τ8 at h8 e8 ⊢
    have E149_8 := al_E.same E149_7 (fun f => e8 149 f (by decide) (by decide))
    have E150_8 := al_E.same E150_7 (fun f => e8 150 f (by decide) (by decide))
    refine cs_X2_init_i0 ?_
    refine cs_X2_init_e0_0 h8 (by decide +kernel) (A := 149) (((h8.2.2.2.2.1 0 (by decide)).1 (Or.inl (Or.inl (Or.inl (Or.inl (Or.inl (Or.inl (Or.inl (Or.inr rfl))))))))).trans (by decide +kernel)) (by decide) (by decide) (by decide +kernel) (by decide) (by omega) ?_
    refine cn_X0_init (by decide +kernel) (by decide +kernel) (by decide +kernel) (by decide +kernel) (by decide +kernel) (by decide +kernel) (by decide +kernel) (by decide +kernel) (by decide +kernel) (by decide +kernel) (by decide +kernel) (by decide +kernel) (fun u => by rcases u with u | u; exact absurd u (al_no2 hP (by decide)); omega) (al_Z.new h8 (by decide +kernel)) (fun υ9 y9 => ?_)
    replace y9 : al_Y _ υ9 181 187 _ := y9
    refine cs_X2_init_s0_0 (by rw [y9.2.2.1 149 (by decide) (by decide)]; decide +kernel) (by rw [y9.2.2.1 181 (by decide) (by decide)]; decide +kernel) (by decide) ?_
    show ab_Run X 11 99 (_, _, _) [ab_R 148, ab_I 0] [] (ab_wr υ9 149 0 181) Q
    have g9 := al_Z.el (A := 149) (i := 0) h8 y9 (by decide) (Or.inl (Or.inr rfl))
    have v9 : ab_rd (ab_wr υ9 149 0 181) 149 0 = 181 := ab_rdw_eq
    generalize ab_wr υ9 149 0 181 = τ9 at g9 v9 ⊢
    obtain ⟨h9, e9⟩ := g9
    have E149_9 := al_E.step (z' := 1) E149_8 (by decide) e9 (by decide) v9 (by decide +kernel) (by decide)
    have E150_9 := al_E.keep E150_8 e9 (by decide) (by decide)
    clear y9 h8
    refine cs_X2_init_e0_1 h9 (by decide +kernel) (A := 150) (((h9.2.2.2.2.1 1 (by decide)).1 (Or.inl (Or.inl (Or.inl (Or.inl (Or.inl (Or.inl (Or.inr rfl)))))))).trans (by decide +kernel)) (by decide) (by decide) (by decide +kernel) (by decide) (by omega) ?_
    refine cn_X0_init (by decide +kernel) (by decide +kernel) (by decide +kernel) (by decide +kernel) (by decide +kernel) (by decide +kernel) (by decide +kernel) (by decide +kernel) (by decide +kernel) (by decide +kernel) (by decide +kernel) (by decide +kernel) (fun u => by rcases u with u | u; exact absurd u (al_no2 hP (by decide)); omega) (al_Z.new h9 (by decide +kernel)) (fun υ10 y10 => ?_)
    replace y10 : al_Y _ υ10 187 193 _ := y10
    refine cs_X2_init_s0_1 (by rw [y10.2.2.1 150 (by decide) (by decide)]; decide +kernel) (by rw [y10.2.2.1 187 (by decide) (by decide)]; decide +kernel) (by decide) ?_
    show ab_Run X 11 80 (_, _, _) [ab_R 148, ab_I 1] [] (ab_wr υ10 150 0 187) Q
    have g10 := al_Z.el (A := 150) (i := 0) h9 y10 (by decide) (Or.inr rfl)
    have v10 : ab_rd (ab_wr υ10 150 0 187) 150 0 = 187 := ab_rdw_eq
    generalize ab_wr υ10 150 0 187 = τ10 at g10 v10 ⊢
    obtain ⟨h10, e10⟩ := g10
    have E149_10 := al_E.keep E149_9 e10 (by decide) (by decide)
    have E150_10 := al_E.step (z' := 1) E150_9 (by decide) e10 (by decide) v10 (by decide +kernel) (by decide)
    clear y10 h9
    refine cs_X2_init_e0_0 h10 (by decide +kernel) (A := 149) (((h10.2.2.2.2.1 0 (by decide)).1 (Or.inl (Or.inl (Or.inl (Or.inl (Or.inl (Or.inl (Or.inl (Or.inr rfl))))))))).trans (by decide +kernel)) (by decide) (by decide) (by decide +kernel) (by decide) (by omega) ?_
    refine cn_X0_init (by decide +kernel) (by decide +kernel) (by decide +kernel) (by decide +kernel) (by decide +kernel) (by decide +kernel) (by decide +kernel) (by decide +kernel) (by decide +kernel) (by decide +kernel) (by decide +kernel) (by decide +kernel) (fun u => by rcases u with u | u; exact absurd u (al_no2 hP (by decide)); omega) (al_Z.new h10 (by decide +kernel)) (fun υ11 y11 => ?_)
    replace y11 : al_Y _ υ11 193 199 _ := y11
    refine cs_X2_init_s0_0 (by rw [y11.2.2.1 149 (by decide) (by decide)]; decide +kernel) (by rw [y11.2.2.1 193 (by decide) (by decide)]; decide +kernel) (by decide) ?_
    show ab_Run X 11 99 (_, _, _) [ab_R 148, ab_I 1] [] (ab_wr υ11 149 1 193) Q
    have g11 := al_Z.el (A := 149) (i := 1) h10 y11 (by decide) (Or.inl (Or.inr rfl))
    have v11 : ab_rd (ab_wr υ11 149 1 193) 149 1 = 193 := ab_rdw_eq
    generalize ab_wr υ11 149 1 193 = τ11 at g11 v11 ⊢
    obtain ⟨h11, e11⟩ := g11
    have E149_11 := al_E.step (z' := 2) E149_10 (by decide) e11 (by decide) v11 (by decide +kernel) (by decide)
    have E150_11 := al_E.keep E150_10 e11 (by decide) (by decide)
    clear y11 h10
    refine cs_X2_init_e0_1 h11 (by decide +kernel) (A := 150) (((h11.2.2.2.2.1 1 (by decide)).1 (Or.inl (Or.inl (Or.inl (Or.inl (Or.inl (Or.inl (Or.inr rfl)))))))).trans (by decide +kernel)) (by decide) (by decide) (by decide +kernel) (by decide) (by omega) ?_
    refine cn_X0_init (by decide +kernel) (by decide +kernel) (by decide +kernel) (by decide +kernel) (by decide +kernel) (by decide +kernel) (by decide +kernel) (by decide +kernel) (by decide +kernel) (by decide +kernel) (by decide +kernel) (by decide +kernel) (fun u => by rcases u with u | u; exact absurd u (al_no2 hP (by decide)); omega) (al_Z.new h11 (by decide +kernel)) (fun υ12 y12 => ?_)
    replace y12 : al_Y _ υ12 199 205 _ := y12
    refine cs_X2_init_s0_1 (by rw [y12.2.2.1 150 (by decide) (by decide)]; decide +kernel) (by rw [y12.2.2.1 199 (by decide) (by decide)]; decide +kernel) (by decide) ?_
    show ab_Run X 11 80 (_, _, _) [ab_R 148, ab_I 2] [] (ab_wr υ12 150 1 199) Q
    have g12 := al_Z.el (A := 150) (i := 1) h11 y12 (by decide) (Or.inr rfl)
    have v12 : ab_rd (ab_wr υ12 150 1 199) 150 1 = 199 := ab_rdw_eq
    generalize ab_wr υ12 150 1 199 = τ12 at g12 v12 ⊢
    obtain ⟨h12, e12⟩ := g12
    have E149_12 := al_E.keep E149_11 e12 (by decide) (by decide)
    have E150_12 := al_E.step (z' := 2) E150_11 (by decide) e12 (by decide) v12 (by decide +kernel) (by decide)
    clear y12 h11
    refine cs_X2_init_e0_0 h12 (by decide +kernel) (A := 149) (((h12.2.2.2.2.1 0 (by decide)).1 (Or.inl (Or.inl (Or.inl (Or.inl (Or.inl (Or.inl (Or.inl (Or.inr rfl))))))))).trans (by decide +kernel)) (by decide) (by decide) (by decide +kernel) (by decide) (by omega) ?_
    refine cn_X0_init (by decide +kernel) (by decide +kernel) (by decide +kernel) (by decide +kernel) (by decide +kernel) (by decide +kernel) (by decide +kernel) (by decide +kernel) (by decide +kernel) (by decide +kernel) (by decide +kernel) (by decide +kernel) (fun u => by rcases u with u | u; exact absurd u (al_no2 hP (by decide)); omega) (al_Z.new h12 (by decide +kernel)) (fun υ13 y13 => ?_)
    replace y13 : al_Y _ υ13 205 211 _ := y13
    refine cs_X2_init_s0_0 (by rw [y13.2.2.1 149 (by decide) (by decide)]; decide +kernel) (by rw [y13.2.2.1 205 (by decide) (by decide)]; decide +kernel) (by decide) ?_
    show ab_Run X 11 99 (_, _, _) [ab_R 148, ab_I 2] [] (ab_wr υ13 149 2 205) Q
    have g13 := al_Z.el (A := 149) (i := 2) h12 y13 (by decide) (Or.inl (Or.inr rfl))
    have v13 : ab_rd (ab_wr υ13 149 2 205) 149 2 = 205 := ab_rdw_eq
    generalize ab_wr υ13 149 2 205 = τ13 at g13 v13 ⊢
    obtain ⟨h13, e13⟩ := g13
    have E149_13 := al_E.step (z' := 3) E149_12 (by decide) e13 (by decide) v13 (by decide +kernel) (by decide)
    have E150_13 := al_E.keep E150_12 e13 (by decide) (by decide)
    clear y13 h12
    refine cs_X2_init_e0_1 h13 (by decide +kernel) (A := 150) (((h13.2.2.2.2.1 1 (by decide)).1 (Or.inl (Or.inl (Or.inl (Or.inl (Or.inl (Or.inl (Or.inr rfl)))))))).trans (by decide +kernel)) (by decide) (by decide) (by decide +kernel) (by decide) (by omega) ?_
    refine cn_X0_init (by decide +kernel) (by decide +kernel) (by decide +kernel) (by decide +kernel) (by decide +kernel) (by decide +kernel) (by decide +kernel) (by decide +kernel) (by decide +kernel) (by decide +kernel) (by decide +kernel) (by decide +kernel) (fun u => by rcases u with u | u; exact absurd u (al_no2 hP (by decide)); omega) (al_Z.new h13 (by decide +kernel)) (fun υ14 y14 => ?_)
    replace y14 : al_Y _ υ14 211 217 _ := y14
    refine cs_X2_init_s0_1 (by rw [y14.2.2.1 150 (by decide) (by decide)]; decide +kernel) (by rw [y14.2.2.1 211 (by decide) (by decide)]; decide +kernel) (by decide) ?_
    show ab_Run X 11 80 (_, _, _) [ab_R 148, ab_I 3] [] (ab_wr υ14 150 2 211) Q
    have g14 := al_Z.el (A := 150) (i := 2) h13 y14 (by decide) (Or.inr rfl)
    have v14 : ab_rd (ab_wr υ14 150 2 211) 150 2 = 211 := ab_rdw_eq
    generalize ab_wr υ14 150 2 211 = τ14 at g14 v14 ⊢
    obtain ⟨h14, e14⟩ := g14
    have E149_14 := al_E.keep E149_13 e14 (by decide) (by decide)
    have E150_14 := al_E.step (z' := 3) E150_13 (by decide) e14 (by decide) v14 (by decide +kernel) (by decide)
    clear y14 h13
    refine cs_X2_init_e0_0 h14 (by decide +kernel) (A := 149) (((h14.2.2.2.2.1 0 (by decide)).1 (Or.inl (Or.inl (Or.inl (Or.inl (Or.inl (Or.inl (Or.inl (Or.inr rfl))))))))).trans (by decide +kernel)) (by decide) (by decide) (by decide +kernel) (by decide) (by omega) ?_
    refine cn_X0_init (by decide +kernel) (by decide +kernel) (by decide +kernel) (by decide +kernel) (by decide +kernel) (by decide +kernel) (by decide +kernel) (by decide +kernel) (by decide +kernel) (by decide +kernel) (by decide +kernel) (by decide +kernel) (fun u => by rcases u with u | u; exact absurd u (al_no2 hP (by decide)); omega) (al_Z.new h14 (by decide +kernel)) (fun υ15 y15 => ?_)
    replace y15 : al_Y _ υ15 217 223 _ := y15
    refine cs_X2_init_s0_0 (by rw [y15.2.2.1 149 (by decide) (by decide)]; decide +kernel) (by rw [y15.2.2.1 217 (by decide) (by decide)]; decide +kernel) (by decide) ?_
    show ab_Run X 11 99 (_, _, _) [ab_R 148, ab_I 3] [] (ab_wr υ15 149 3 217) Q
    have g15 := al_Z.el (A := 149) (i := 3) h14 y15 (by decide) (Or.inl (Or.inr rfl))
    have v15 : ab_rd (ab_wr υ15 149 3 217) 149 3 = 217 := ab_rdw_eq
    generalize ab_wr υ15 149 3 217 = τ15 at g15 v15 ⊢
    obtain ⟨h15, e15⟩ := g15
    have E149_15 := al_E.step (z' := 4) E149_14 (by decide) e15 (by decide) v15 (by decide +kernel) (by decide)
    have E150_15 := al_E.keep E150_14 e15 (by decide) (by decide)
    clear y15 h14
    refine cs_X2_init_e0_1 h15 (by decide +kernel) (A := 150) (((h15.2.2.2.2.1 1 (by decide)).1 (Or.inl (Or.inl (Or.inl (Or.inl (Or.inl (Or.inl (Or.inr rfl)))))))).trans (by decide +kernel)) (by decide) (by decide) (by decide +kernel) (by decide) (by omega) ?_
    refine cn_X0_init (by decide +kernel) (by decide +kernel) (by decide +kernel) (by decide +kernel) (by decide +kernel) (by decide +kernel) (by decide +kernel) (by decide +kernel) (by decide +kernel) (by decide +kernel) (by decide +kernel) (by decide +kernel) (fun u => by rcases u with u | u; exact absurd u (al_no2 hP (by decide)); omega) (al_Z.new h15 (by decide +kernel)) (fun υ16 y16 => ?_)
    replace y16 : al_Y _ υ16 223 229 _ := y16
    refine cs_X2_init_s0_1 (by rw [y16.2.2.1 150 (by decide) (by decide)]; decide +kernel) (by rw [y16.2.2.1 223 (by decide) (by decide)]; decide +kernel) (by decide) ?_
    show ab_Run X 11 80 (_, _, _) [ab_R 148, ab_I 4] [] (ab_wr υ16 150 3 223) Q
    have g16 := al_Z.el (A := 150) (i := 3) h15 y16 (by decide) (Or.inr rfl)
    have v16 : ab_rd (ab_wr υ16 150 3 223) 150 3 = 223 := ab_rdw_eq
    generalize ab_wr υ16 150 3 223 = τ16 at g16 v16 ⊢
    obtain ⟨h16, e16⟩ := g16
    have E149_16 := al_E.keep E149_15 e16 (by decide) (by decide)
    have E150_16 := al_E.step (z' := 4) E150_15 (by decide) e16 (by decide) v16 (by decide +kernel) (by decide)
    clear y16 h15
    refine cs_X2_init_e0_0 h16 (by decide +kernel) (A := 149) (((h16.2.2.2.2.1 0 (by decide)).1 (Or.inl (Or.inl (Or.inl (Or.inl (Or.inl (Or.inl (Or.inl (Or.inr rfl))))))))).trans (by decide +kernel)) (by decide) (by decide) (by decide +kernel) (by decide) (by omega) ?_
    refine cn_X0_init (by decide +kernel) (by decide +kernel) (by decide +kernel) (by decide +kernel) (by decide +kernel) (by decide +kernel) (by decide +kernel) (by decide +kernel) (by decide +kernel) (by decide +kernel) (by decide +kernel) (by decide +kernel) (fun u => by rcases u with u | u; exact absurd u (al_no2 hP (by decide)); omega) (al_Z.new h16 (by decide +kernel)) (fun υ17 y17 => ?_)
    replace y17 : al_Y _ υ17 229 235 _ := y17
    refine cs_X2_init_s0_0 (by rw [y17.2.2.1 149 (by decide) (by decide)]; decide +kernel) (by rw [y17.2.2.1 229 (by decide) (by decide)]; decide +kernel) (by decide) ?_
    show ab_Run X 11 99 (_, _, _) [ab_R 148, ab_I 4] [] (ab_wr υ17 149 4 229) Q
    have g17 := al_Z.el (A := 149) (i := 4) h16 y17 (by decide) (Or.inl (Or.inr rfl))
    have v17 : ab_rd (ab_wr υ17 149 4 229) 149 4 = 229 := ab_rdw_eq
    generalize ab_wr υ17 149 4 229 = τ17 at g17 v17 ⊢
    obtain ⟨h17, e17⟩ := g17
    have E149_17 := al_E.step (z' := 5) E149_16 (by decide) e17 (by decide) v17 (by decide +kernel) (by decide)
    have E150_17 := al_E.keep E150_16 e17 (by decide) (by decide)
    clear y17 h16
    refine cs_X2_init_e0_1 h17 (by decide +kernel) (A := 150) (((h17.2.2.2.2.1 1 (by decide)).1 (Or.inl (Or.inl (Or.inl (Or.inl (Or.inl (Or.inl (Or.inr rfl)))))))).trans (by decide +kernel)) (by decide) (by decide) (by decide +kernel) (by decide) (by omega) ?_
    refine cn_X0_init (by decide +kernel) (by decide +kernel) (by decide +kernel) (by decide +kernel) (by decide +kernel) (by decide +kernel) (by decide +kernel) (by decide +kernel) (by decide +kernel) (by decide +kernel) (by decide +kernel) (by decide +kernel) (fun u => by rcases u with u | u; exact absurd u (al_no2 hP (by decide)); omega) (al_Z.new h17 (by decide +kernel)) (fun υ18 y18 => ?_)
    replace y18 : al_Y _ υ18 235 241 _ := y18
    refine cs_X2_init_s0_1 (by rw [y18.2.2.1 150 (by decide) (by decide)]; decide +kernel) (by rw [y18.2.2.1 235 (by decide) (by decide)]; decide +kernel) (by decide) ?_
    show ab_Run X 11 80 (_, _, _) [ab_R 148, ab_I 5] [] (ab_wr υ18 150 4 235) Q
    have g18 := al_Z.el (A := 150) (i := 4) h17 y18 (by decide) (Or.inr rfl)
    have v18 : ab_rd (ab_wr υ18 150 4 235) 150 4 = 235 := ab_rdw_eq
    generalize ab_wr υ18 150 4 235 = τ18 at g18 v18 ⊢
    obtain ⟨h18, e18⟩ := g18
    have E149_18 := al_E.keep E149_17 e18 (by decide) (by decide)
    have E150_18 := al_E.step (z' := 5) E150_17 (by decide) e18 (by decide) v18 (by decide +kernel) (by decide)
    clear y18 h17
    refine cs_X2_init_e0_0 h18 (by decide +kernel) (A := 149) (((h18.2.2.2.2.1 0 (by decide)).1 (Or.inl (Or.inl (Or.inl (Or.inl (Or.inl (Or.inl (Or.inl (Or.inr rfl))))))))).trans (by decide +kernel)) (by decide) (by decide) (by decide +kernel) (by decide) (by omega) ?_
    refine cn_X0_init (by decide +kernel) (by decide +kernel) (by decide +kernel) (by decide +kernel) (by decide +kernel) (by decide +kernel) (by decide +kernel) (by decide +kernel) (by decide +kernel) (by decide +kernel) (by decide +kernel) (by decide +kernel) (fun u => by rcases u with u | u; exact absurd u (al_no2 hP (by decide)); omega) (al_Z.new h18 (by decide +kernel)) (fun υ19 y19 => ?_)
    replace y19 : al_Y _ υ19 241 247 _ := y19
    refine cs_X2_init_s0_0 (by rw [y19.2.2.1 149 (by decide) (by decide)]; decide +kernel) (by rw [y19.2.2.1 241 (by decide) (by decide)]; decide +kernel) (by decide) ?_
    show ab_Run X 11 99 (_, _, _) [ab_R 148, ab_I 5] [] (ab_wr υ19 149 5 241) Q
    have g19 := al_Z.el (A := 149) (i := 5) h18 y19 (by decide) (Or.inl (Or.inr rfl))
    have v19 : ab_rd (ab_wr υ19 149 5 241) 149 5 = 241 := ab_rdw_eq
    generalize ab_wr υ19 149 5 241 = τ19 at g19 v19 ⊢
    obtain ⟨h19, e19⟩ := g19
    have E149_19 := al_E.step (z' := 6) E149_18 (by decide) e19 (by decide) v19 (by decide +kernel) (by decide)
    have E150_19 := al_E.keep E150_18 e19 (by decide) (by decide)
    clear y19 h18
    refine cs_X2_init_e0_1 h19 (by decide +kernel) (A := 150) (((h19.2.2.2.2.1 1 (by decide)).1 (Or.inl (Or.inl (Or.inl (Or.inl (Or.inl (Or.inl (Or.inr rfl)))))))).trans (by decide +kernel)) (by decide) (by decide) (by decide +kernel) (by decide) (by omega) ?_
    refine cn_X0_init (by decide +kernel) (by decide +kernel) (by decide +kernel) (by decide +kernel) (by decide +kernel) (by decide +kernel) (by decide +kernel) (by decide +kernel) (by decide +kernel) (by decide +kernel) (by decide +kernel) (by decide +kernel) (fun u => by rcases u with u | u; exact absurd u (al_no2 hP (by decide)); omega) (al_Z.new h19 (by decide +kernel)) (fun υ20 y20 => ?_)
    replace y20 : al_Y _ υ20 247 253 _ := y20
    refine cs_X2_init_s0_1 (by rw [y20.2.2.1 150 (by decide) (by decide)]; decide +kernel) (by rw [y20.2.2.1 247 (by decide) (by decide)]; decide +kernel) (by decide) ?_
    show ab_Run X 11 80 (_, _, _) [ab_R 148, ab_I 6] [] (ab_wr υ20 150 5 247) Q
    have g20 := al_Z.el (A := 150) (i := 5) h19 y20 (by decide) (Or.inr rfl)
    have v20 : ab_rd (ab_wr υ20 150 5 247) 150 5 = 247 := ab_rdw_eq
    generalize ab_wr υ20 150 5 247 = τ20 at g20 v20 ⊢
    obtain ⟨h20, e20⟩ := g20
    have E149_20 := al_E.keep E149_19 e20 (by decide) (by decide)
    have E150_20 := al_E.step (z' := 6) E150_19 (by decide) e20 (by decide) v20 (by decide +kernel) (by decide)
    clear y20 h19
    refine cs_X2_init_e0_0 h20 (by decide +kernel) (A := 149) (((h20.2.2.2.2.1 0 (by decide)).1 (Or.inl (Or.inl (Or.inl (Or.inl (Or.inl (Or.inl (Or.inl (Or.inr rfl))))))))).trans (by decide +kernel)) (by decide) (by decide) (by decide +kernel) (by decide) (by omega) ?_
    refine cn_X0_init (by decide +kernel) (by decide +kernel) (by decide +kernel) (by decide +kernel) (by decide +kernel) (by decide +kernel) (by decide +kernel) (by decide +kernel) (by decide +kernel) (by decide +kernel) (by decide +kernel) (by decide +kernel) (fun u => by rcases u with u | u; exact absurd u (al_no2 hP (by decide)); omega) (al_Z.new h20 (by decide +kernel)) (fun υ21 y21 => ?_)
    replace y21 : al_Y _ υ21 253 259 _ := y21
    refine cs_X2_init_s0_0 (by rw [y21.2.2.1 149 (by decide) (by decide)]; decide +kernel) (by rw [y21.2.2.1 253 (by decide) (by decide)]; decide +kernel) (by decide) ?_
    show ab_Run X 11 99 (_, _, _) [ab_R 148, ab_I 6] [] (ab_wr υ21 149 6 253) Q
    have g21 := al_Z.el (A := 149) (i := 6) h20 y21 (by decide) (Or.inl (Or.inr rfl))
    have v21 : ab_rd (ab_wr υ21 149 6 253) 149 6 = 253 := ab_rdw_eq
    generalize ab_wr υ21 149 6 253 = τ21 at g21 v21 ⊢
    obtain ⟨h21, e21⟩ := g21
    have E149_21 := al_E.step (z' := 7) E149_20 (by decide) e21 (by decide) v21 (by decide +kernel) (by decide)
    have E150_21 := al_E.keep E150_20 e21 (by decide) (by decide)
    clear y21 h20
    refine cs_X2_init_e0_1 h21 (by decide +kernel) (A := 150) (((h21.2.2.2.2.1 1 (by decide)).1 (Or.inl (Or.inl (Or.inl (Or.inl (Or.inl (Or.inl (Or.inr rfl)))))))).trans (by decide +kernel)) (by decide) (by decide) (by decide +kernel) (by decide) (by omega) ?_
    refine cn_X0_init (by decide +kernel) (by decide +kernel) (by decide +kernel) (by decide +kernel) (by decide +kernel) (by decide +kernel) (by decide +kernel) (by decide +kernel) (by decide +kernel) (by decide +kernel) (by decide +kernel) (by decide +kernel) (fun u => by rcases u with u | u; exact absurd u (al_no2 hP (by decide)); omega) (al_Z.new h21 (by decide +kernel)) (fun υ22 y22 => ?_)
    replace y22 : al_Y _ υ22 259 265 _ := y22
    refine cs_X2_init_s0_1 (by rw [y22.2.2.1 150 (by decide) (by decide)]; decide +kernel) (by rw [y22.2.2.1 259 (by decide) (by decide)]; decide +kernel) (by decide) ?_
    show ab_Run X 11 80 (_, _, _) [ab_R 148, ab_I 7] [] (ab_wr υ22 150 6 259) Q
    have g22 := al_Z.el (A := 150) (i := 6) h21 y22 (by decide) (Or.inr rfl)
    have v22 : ab_rd (ab_wr υ22 150 6 259) 150 6 = 259 := ab_rdw_eq
    generalize ab_wr υ22 150 6 259 = τ22 at g22 v22 ⊢
    obtain ⟨h22, e22⟩ := g22
    have E149_22 := al_E.keep E149_21 e22 (by decide) (by decide)
    have E150_22 := al_E.step (z' := 7) E150_21 (by decide) e22 (by decide) v22 (by decide +kernel) (by decide)
    clear y22 h21
    refine cs_X2_init_e0_0 h22 (by decide +kernel) (A := 149) (((h22.2.2.2.2.1 0 (by decide)).1 (Or.inl (Or.inl (Or.inl (Or.inl (Or.inl (Or.inl (Or.inl (Or.inr rfl))))))))).trans (by decide +kernel)) (by decide) (by decide) (by decide +kernel) (by decide) (by omega) ?_
    refine cn_X0_init (by decide +kernel) (by decide +kernel) (by decide +kernel) (by decide +kernel) (by decide +kernel) (by decide +kernel) (by decide +kernel) (by decide +kernel) (by decide +kernel) (by decide +kernel) (by decide +kernel) (by decide +kernel) (fun u => by rcases u with u | u; exact absurd u (al_no2 hP (by decide)); omega) (al_Z.new h22 (by decide +kernel)) (fun υ23 y23 => ?_)
    replace y23 : al_Y _ υ23 265 271 _ := y23
    refine cs_X2_init_s0_0 (by rw [y23.2.2.1 149 (by decide) (by decide)]; decide +kernel) (by rw [y23.2.2.1 265 (by decide) (by decide)]; decide +kernel) (by decide) ?_
    show ab_Run X 11 99 (_, _, _) [ab_R 148, ab_I 7] [] (ab_wr υ23 149 7 265) Q
    have g23 := al_Z.el (A := 149) (i := 7) h22 y23 (by decide) (Or.inl (Or.inr rfl))
    have v23 : ab_rd (ab_wr υ23 149 7 265) 149 7 = 265 := ab_rdw_eq
    generalize ab_wr υ23 149 7 265 = τ23 at g23 v23 ⊢
    obtain ⟨h23, e23⟩ := g23
    have E149_23 := al_E.step (z' := 8) E149_22 (by decide) e23 (by decide) v23 (by decide +kernel) (by decide)
    have E150_23 := al_E.keep E150_22 e23 (by decide) (by decide)
    clear y23 h22
    refine cs_X2_init_e0_1 h23 (by decide +kernel) (A := 150) (((h23.2.2.2.2.1 1 (by decide)).1 (Or.inl (Or.inl (Or.inl (Or.inl (Or.inl (Or.inl (Or.inr rfl)))))))).trans (by decide +kernel)) (by decide) (by decide) (by decide +kernel) (by decide) (by omega) ?_
    refine cn_X0_init (by decide +kernel) (by decide +kernel) (by decide +kernel) (by decide +kernel) (by decide +kernel) (by decide +kernel) (by decide +kernel) (by decide +kernel) (by decide +kernel) (by decide +kernel) (by decide +kernel) (by decide +kernel) (fun u => by rcases u with u | u; exact absurd u (al_no2 hP (by decide)); omega) (al_Z.new h23 (by decide +kernel)) (fun υ24 y24 => ?_)
    replace y24 : al_Y _ υ24 271 277 _ := y24
    refine cs_X2_init_s0_1 (by rw [y24.2.2.1 150 (by decide) (by decide)]; decide +kernel) (by rw [y24.2.2.1 271 (by decide) (by decide)]; decide +kernel) (by decide) ?_
    show ab_Run X 11 80 (_, _, _) [ab_R 148, ab_I 8] [] (ab_wr υ24 150 7 271) Q
    have g24 := al_Z.el (A := 150) (i := 7) h23 y24 (by decide) (Or.inr rfl)
    have v24 : ab_rd (ab_wr υ24 150 7 271) 150 7 = 271 := ab_rdw_eq
    generalize ab_wr υ24 150 7 271 = τ24 at g24 v24 ⊢
    obtain ⟨h24, e24⟩ := g24
    have E149_24 := al_E.keep E149_23 e24 (by decide) (by decide)
    have E150_24 := al_E.step (z' := 8) E150_23 (by decide) e24 (by decide) v24 (by decide +kernel) (by decide)
    clear y24 h23
    refine cs_X2_init_e0_0 h24 (by decide +kernel) (A := 149) (((h24.2.2.2.2.1 0 (by decide)).1 (Or.inl (Or.inl (Or.inl (Or.inl (Or.inl (Or.inl (Or.inl (Or.inr rfl))))))))).trans (by decide +kernel)) (by decide) (by decide) (by decide +kernel) (by decide) (by omega) ?_
    refine cn_X0_init (by decide +kernel) (by decide +kernel) (by decide +kernel) (by decide +kernel) (by decide +kernel) (by decide +kernel) (by decide +kernel) (by decide +kernel) (by decide +kernel) (by decide +kernel) (by decide +kernel) (by decide +kernel) (fun u => by rcases u with u | u; exact absurd u (al_no2 hP (by decide)); omega) (al_Z.new h24 (by decide +kernel)) (fun υ25 y25 => ?_)
    replace y25 : al_Y _ υ25 277 283 _ := y25
    refine cs_X2_init_s0_0 (by rw [y25.2.2.1 149 (by decide) (by decide)]; decide +kernel) (by rw [y25.2.2.1 277 (by decide) (by decide)]; decide +kernel) (by decide) ?_
    show ab_Run X 11 99 (_, _, _) [ab_R 148, ab_I 8] [] (ab_wr υ25 149 8 277) Q
    have g25 := al_Z.el (A := 149) (i := 8) h24 y25 (by decide) (Or.inl (Or.inr rfl))
    have v25 : ab_rd (ab_wr υ25 149 8 277) 149 8 = 277 := ab_rdw_eq
    generalize ab_wr υ25 149 8 277 = τ25 at g25 v25 ⊢
    obtain ⟨h25, e25⟩ := g25
    have E149_25 := al_E.step (z' := 9) E149_24 (by decide) e25 (by decide) v25 (by decide +kernel) (by decide)
    have E150_25 := al_E.keep E150_24 e25 (by decide) (by decide)
    clear y25 h24
    refine cs_X2_init_e0_1 h25 (by decide +kernel) (A := 150) (((h25.2.2.2.2.1 1 (by decide)).1 (Or.inl (Or.inl (Or.inl (Or.inl (Or.inl (Or.inl (Or.inr rfl)))))))).trans (by decide +kernel)) (by decide) (by decide) (by decide +kernel) (by decide) (by omega) ?_
    refine cn_X0_init (by decide +kernel) (by decide +kernel) (by decide +kernel) (by decide +kernel) (by decide +kernel) (by decide +kernel) (by decide +kernel) (by decide +kernel) (by decide +kernel) (by decide +kernel) (by decide +kernel) (by decide +kernel) (fun u => by rcases u with u | u; exact absurd u (al_no2 hP (by decide)); omega) (al_Z.new h25 (by decide +kernel)) (fun υ26 y26 => ?_)
    replace y26 : al_Y _ υ26 283 289 _ := y26
    refine cs_X2_init_s0_1 (by rw [y26.2.2.1 150 (by decide) (by decide)]; decide +kernel) (by rw [y26.2.2.1 283 (by decide) (by decide)]; decide +kernel) (by decide) ?_
    show ab_Run X 11 80 (_, _, _) [ab_R 148, ab_I 9] [] (ab_wr υ26 150 8 283) Q
    have g26 := al_Z.el (A := 150) (i := 8) h25 y26 (by decide) (Or.inr rfl)
    have v26 : ab_rd (ab_wr υ26 150 8 283) 150 8 = 283 := ab_rdw_eq
    generalize ab_wr υ26 150 8 283 = τ26 at g26 v26 ⊢
    obtain ⟨h26, e26⟩ := g26
    have E149_26 := al_E.keep E149_25 e26 (by decide) (by decide)
    have E150_26 := al_E.step (z' := 9) E150_25 (by decide) e26 (by decide) v26 (by decide +kernel) (by decide)
    clear y26 h25
    refine cs_X2_init_e0_0 h26 (by decide +kernel) (A := 149) (((h26.2.2.2.2.1 0 (by decide)).1 (Or.inl (Or.inl (Or.inl (Or.inl (Or.inl (Or.inl (Or.inl (Or.inr rfl))))))))).trans (by decide +kernel)) (by decide) (by decide) (by decide +kernel) (by decide) (by omega) ?_
    refine cn_X0_init (by decide +kernel) (by decide +kernel) (by decide +kernel) (by decide +kernel) (by decide +kernel) (by decide +kernel) (by decide +kernel) (by decide +kernel) (by decide +kernel) (by decide +kernel) (by decide +kernel) (by decide +kernel) (fun u => by rcases u with u | u; exact absurd u (al_no2 hP (by decide)); omega) (al_Z.new h26 (by decide +kernel)) (fun υ27 y27 => ?_)
    replace y27 : al_Y _ υ27 289 295 _ := y27
    refine cs_X2_init_s0_0 (by rw [y27.2.2.1 149 (by decide) (by decide)]; decide +kernel) (by rw [y27.2.2.1 289 (by decide) (by decide)]; decide +kernel) (by decide) ?_
    show ab_Run X 11 99 (_, _, _) [ab_R 148, ab_I 9] [] (ab_wr υ27 149 9 289) Q
    have g27 := al_Z.el (A := 149) (i := 9) h26 y27 (by decide) (Or.inl (Or.inr rfl))
    have v27 : ab_rd (ab_wr υ27 149 9 289) 149 9 = 289 := ab_rdw_eq
    generalize ab_wr υ27 149 9 289 = τ27 at g27 v27 ⊢
    obtain ⟨h27, e27⟩ := g27
    have E149_27 := al_E.step (z' := 10) E149_26 (by decide) e27 (by decide) v27 (by decide +kernel) (by decide)
    have E150_27 := al_E.keep E150_26 e27 (by decide) (by decide)
    clear y27 h26
    refine cs_X2_init_e0_1 h27 (by decide +kernel) (A := 150) (((h27.2.2.2.2.1 1 (by decide)).1 (Or.inl (Or.inl (Or.inl (Or.inl (Or.inl (Or.inl (Or.inr rfl)))))))).trans (by decide +kernel)) (by decide) (by decide) (by decide +kernel) (by decide) (by omega) ?_
    refine cn_X0_init (by decide +kernel) (by decide +kernel) (by decide +kernel) (by decide +kernel) (by decide +kernel) (by decide +kernel) (by decide +kernel) (by decide +kernel) (by decide +kernel) (by decide +kernel) (by decide +kernel) (by decide +kernel) (fun u => by rcases u with u | u; exact absurd u (al_no2 hP (by decide)); omega) (al_Z.new h27 (by decide +kernel)) (fun υ28 y28 => ?_)
    replace y28 : al_Y _ υ28 295 301 _ := y28
    refine cs_X2_init_s0_1 (by rw [y28.2.2.1 150 (by decide) (by decide)]; decide +kernel) (by rw [y28.2.2.1 295 (by decide) (by decide)]; decide +kernel) (by decide) ?_
    show ab_Run X 11 80 (_, _, _) [ab_R 148, ab_I 10] [] (ab_wr υ28 150 9 295) Q
    have g28 := al_Z.el (A := 150) (i := 9) h27 y28 (by decide) (Or.inr rfl)
    have v28 : ab_rd (ab_wr υ28 150 9 295) 150 9 = 295 := ab_rdw_eq
    generalize ab_wr υ28 150 9 295 = τ28 at g28 v28 ⊢
    obtain ⟨h28, e28⟩ := g28
    have E149_28 := al_E.keep E149_27 e28 (by decide) (by decide)
    have E150_28 := al_E.step (z' := 10) E150_27 (by decide) e28 (by decide) v28 (by decide +kernel) (by decide)
    clear y28 h27
    refine cs_X2_init_e0_0 h28 (by decide +kernel) (A := 149) (((h28.2.2.2.2.1 0 (by decide)).1 (Or.inl (Or.inl (Or.inl (Or.inl (Or.inl (Or.inl (Or.inl (Or.inr rfl))))))))).trans (by decide +kernel)) (by decide) (by decide) (by decide +kernel) (by decide) (by omega) ?_
    refine cn_X0_init (by decide +kernel) (by decide +kernel) (by decide +kernel) (by decide +kernel) (by decide +kernel) (by decide +kernel) (by decide +kernel) (by decide +kernel) (by decide +kernel) (by decide +kernel) (by decide +kernel) (by decide +kernel) (fun u => by rcases u with u | u; exact absurd u (al_no2 hP (by decide)); omega) (al_Z.new h28 (by decide +kernel)) (fun υ29 y29 => ?_)
    replace y29 : al_Y _ υ29 301 307 _ := y29
    refine cs_X2_init_s0_0 (by rw [y29.2.2.1 149 (by decide) (by decide)]; decide +kernel) (by rw [y29.2.2.1 301 (by decide) (by decide)]; decide +kernel) (by decide) ?_
    show ab_Run X 11 99 (_, _, _) [ab_R 148, ab_I 10] [] (ab_wr υ29 149 10 301) Q
    have g29 := al_Z.el (A := 149) (i := 10) h28 y29 (by decide) (Or.inl (Or.inr rfl))
    have v29 : ab_rd (ab_wr υ29 149 10 301) 149 10 = 301 := ab_rdw_eq
    generalize ab_wr υ29 149 10 301 = τ29 at g29 v29 ⊢
    obtain ⟨h29, e29⟩ := g29
    have E149_29 := al_E.step (z' := 11) E149_28 (by decide) e29 (by decide) v29 (by decide +kernel) (by decide)
    have E150_29 := al_E.keep E150_28 e29 (by decide) (by decide)
    clear y29 h28
    refine cs_X2_init_e0_1 h29 (by decide +kernel) (A := 150) (((h29.2.2.2.2.1 1 (by decide)).1 (Or.inl (Or.inl (Or.inl (Or.inl (Or.inl (Or.inl (Or.inr rfl)))))))).trans (by decide +kernel)) (by decide) (by decide) (by decide +kernel) (by decide) (by omega) ?_
    refine cn_X0_init (by decide +kernel) (by decide +kernel) (by decide +kernel) (by decide +kernel) (by decide +kernel) (by decide +kernel) (by decide +kernel) (by decide +kernel) (by decide +kernel) (by decide +kernel) (by decide +kernel) (by decide +kernel) (fun u => by rcases u with u | u; exact absurd u (al_no2 hP (by decide)); omega) (al_Z.new h29 (by decide +kernel)) (fun υ30 y30 => ?_)
    replace y30 : al_Y _ υ30 307 313 _ := y30
    refine cs_X2_init_s0_1 (by rw [y30.2.2.1 150 (by decide) (by decide)]; decide +kernel) (by rw [y30.2.2.1 307 (by decide) (by decide)]; decide +kernel) (by decide) ?_
    show ab_Run X 11 80 (_, _, _) [ab_R 148, ab_I 11] [] (ab_wr υ30 150 10 307) Q
    have g30 := al_Z.el (A := 150) (i := 10) h29 y30 (by decide) (Or.inr rfl)
    have v30 : ab_rd (ab_wr υ30 150 10 307) 150 10 = 307 := ab_rdw_eq
    generalize ab_wr υ30 150 10 307 = τ30 at g30 v30 ⊢
    obtain ⟨h30, e30⟩ := g30
    have E149_30 := al_E.keep E149_29 e30 (by decide) (by decide)
    have E150_30 := al_E.step (z' := 11) E150_29 (by decide) e30 (by decide) v30 (by decide +kernel) (by decide)
    clear y30 h29
    refine cs_X2_init_e0_0 h30 (by decide +kernel) (A := 149) (((h30.2.2.2.2.1 0 (by decide)).1 (Or.inl (Or.inl (Or.inl (Or.inl (Or.inl (Or.inl (Or.inl (Or.inr rfl))))))))).trans (by decide +kernel)) (by decide) (by decide) (by decide +kernel) (by decide) (by omega) ?_
    refine cn_X0_init (by decide +kernel) (by decide +kernel) (by decide +kernel) (by decide +kernel) (by decide +kernel) (by decide +kernel) (by decide +kernel) (by decide +kernel) (by decide +kernel) (by decide +kernel) (by decide +kernel) (by decide +kernel) (fun u => by rcases u with u | u; exact absurd u (al_no2 hP (by decide)); omega) (al_Z.new h30 (by decide +kernel)) (fun υ31 y31 => ?_)
    replace y31 : al_Y _ υ31 313 319 _ := y31
    refine cs_X2_init_s0_0 (by rw [y31.2.2.1 149 (by decide) (by decide)]; decide +kernel) (by rw [y31.2.2.1 313 (by decide) (by decide)]; decide +kernel) (by decide) ?_
    show ab_Run X 11 99 (_, _, _) [ab_R 148, ab_I 11] [] (ab_wr υ31 149 11 313) Q
    have g31 := al_Z.el (A := 149) (i := 11) h30 y31 (by decide) (Or.inl (Or.inr rfl))
    have v31 : ab_rd (ab_wr υ31 149 11 313) 149 11 = 313 := ab_rdw_eq
    generalize ab_wr υ31 149 11 313 = τ31 at g31 v31 ⊢
    obtain ⟨h31, e31⟩ := g31
    have E149_31 := al_E.step (z' := 12) E149_30 (by decide) e31 (by decide) v31 (by decide +kernel) (by decide)
    have E150_31 := al_E.keep E150_30 e31 (by decide) (by decide)
    clear y31 h30
    refine cs_X2_init_e0_1 h31 (by decide +kernel) (A := 150) (((h31.2.2.2.2.1 1 (by decide)).1 (Or.inl (Or.inl (Or.inl (Or.inl (Or.inl (Or.inl (Or.inr rfl)))))))).trans (by decide +kernel)) (by decide) (by decide) (by decide +kernel) (by decide) (by omega) ?_
    refine cn_X0_init (by decide +kernel) (by decide +kernel) (by decide +kernel) (by decide +kernel) (by decide +kernel) (by decide +kernel) (by decide +kernel) (by decide +kernel) (by decide +kernel) (by decide +kernel) (by decide +kernel) (by decide +kernel) (fun u => by rcases u with u | u; exact absurd u (al_no2 hP (by decide)); omega) (al_Z.new h31 (by decide +kernel)) (fun υ32 y32 => ?_)
    replace y32 : al_Y _ υ32 319 325 _ := y32
    refine cs_X2_init_s0_1 (by rw [y32.2.2.1 150 (by decide) (by decide)]; decide +kernel) (by rw [y32.2.2.1 319 (by decide) (by decide)]; decide +kernel) (by decide) ?_
    show ab_Run X 11 80 (_, _, _) [ab_R 148, ab_I 12] [] (ab_wr υ32 150 11 319) Q
    have g32 := al_Z.el (A := 150) (i := 11) h31 y32 (by decide) (Or.inr rfl)
    have v32 : ab_rd (ab_wr υ32 150 11 319) 150 11 = 319 := ab_rdw_eq
    generalize ab_wr υ32 150 11 319 = τ32 at g32 v32 ⊢
    obtain ⟨h32, e32⟩ := g32
    have E149_32 := al_E.keep E149_31 e32 (by decide) (by decide)
    have E150_32 := al_E.step (z' := 12) E150_31 (by decide) e32 (by decide) v32 (by decide +kernel) (by decide)
    clear y32 h31
    refine cs_X2_init_x0 ?_
    have F149 := al_E.full E149_32 (fun f hf => by rw [al_row (l := [181, 193, 205, 217, 229, 241, 253, 265, 277, 289, 301, 313]) (by decide +kernel)]; exact ac_getD_ge (by simp only [List.length_cons, List.length_nil]; omega))
    have F150 := al_E.full E150_32 (fun f hf => by rw [al_row (l := [187, 199, 211, 223, 235, 247, 259, 271, 283, 295, 307, 319]) (by decide +kernel)]; exact ac_getD_ge (by simp only [List.length_cons, List.length_nil]; omega))
    have h33 := al_Z.res h32 F150 (fun x u => u.elim (fun q => Or.inr q) (fun q => Or.inl q))
    have h34 := al_Z.res h33 F149 (fun x u => u.elim (fun q => Or.inr q) (fun q => Or.inl q))
    have kr := hQ _ (al_Z.done h34 (fun f f1 => by
      have q : f = 0 ∨ f = 1 ∨ f = 2 ∨ f = 3 ∨ f = 4 ∨ f = 5 ∨ f = 6 ∨ f = 7 ∨ 8 ≤ f := by omega
      rcases q with rfl | rfl | rfl | rfl | rfl | rfl | rfl | rfl | q
      · exact Or.inl (Or.inl (Or.inl (Or.inl (Or.inl (Or.inl (Or.inl (Or.inl (Or.inr rfl))))))))
      · exact Or.inl (Or.inl (Or.inl (Or.inl (Or.inl (Or.inl (Or.inl (Or.inr rfl)))))))
      · exact Or.inl (Or.inl (Or.inl (Or.inl (Or.inl (Or.inl (Or.inr rfl))))))
      · exact Or.inl (Or.inl (Or.inl (Or.inl (Or.inl (Or.inr rfl)))))
      · exact Or.inl (Or.inl (Or.inl (Or.inl (Or.inr rfl))))
      · exact Or.inl (Or.inl (Or.inl (Or.inr rfl)))
      · exact Or.inl (Or.inl (Or.inr rfl))
      · exact Or.inl (Or.inr rfl)
      · right; rw [al_row (l := [149, 150, 151, 152, 153, 166, 179, 180]) (by decide +kernel)]; exact ac_getD_ge (by simp only [List.length_cons, List.length_nil]; omega)) (fun u => by have := hP _ u; omega))
    clear hQ
    exact cs_X2_init_r kr
  clear hQ h
  simp (disch := omega) only [dn_X2_init, rX2_init_0, rX2_init_1, ne_eq, not_false_eq_true, not_true_eq_false, true_and, and_true, and_self, true_imp_iff, false_imp_iff, imp_self, Bool.not_false, Bool.not_true, reduceCtorEq, ab_isJ, ab_psh, ab_cats, Bool.false_eq_true, if_true, if_false, ab_shf, ab_shw, Int.le_refl, Classical.not_not, Int.zero_add, forall_const, ↓ab_itT, ↓ab_itF, ab_anT, true_or, or_true]
  all_goals exact kq
end
