/-! THE LAW: its beginning -/
def ab_s0 : ab_S := (1, (fun _ => (0, 0)), fun _ _ => 0)
section
variable {X : ab_X} {σ0 σ τ υ ω : ab_S} {Q : Option ab_V → ab_S → Prop} {i K na nm ln S A b x a z t : Int} {κ : ac_K} {v tp : Int → Int} {pa pm : Int → Int → Int} {cl sl : Nat} {l5 l6 : ab_V} {P : Int → Prop}
theorem al_Y.new (h : al_Y σ0 σ a z P) (ht : ab_shT z = (t, 0)) : al_Z (ab_new σ t 0) (ab_new σ t 0) z (z + 1) P (fun _ => False) := by
  obtain ⟨h1, h2, h3, h4, h6⟩ := h
  refine ⟨?_, by omega, fun x x1 x2 => ?_, fun x f x1 x2 f1 u e => ?_, fun f f1 => ⟨fun w => w.elim, fun w => ?_⟩, fun x f x1 => rfl⟩
  · show σ.1 + 1 = z + 1
    omega
  · rw [ab_shn]
    by_cases e : x = σ.1
    · rw [if_pos e, e, h1, ht]
    · rw [if_neg e]; exact h3 x x1 (by omega)
  · rw [ab_rdn, if_neg (by omega)]
    exact h4 x f x1 (by omega) f1 u
  · rw [ab_rdn, if_pos h1.symm]
theorem al_s0 : al_Z (ab_new ab_s0 12 0) (ab_new ab_s0 12 0) 1 2 (fun _ => False) (fun _ => False) := by
  refine ⟨rfl, by omega, fun x x1 x2 => ?_, fun x f x1 x2 f1 u e => ?_, fun f f1 => ⟨fun w => w.elim, fun w => rfl⟩, fun x f x1 => rfl⟩
  · have : x = 0 ∨ x = 1 := by omega
    rcases this with rfl | rfl
    · decide +kernel
    · decide +kernel
  · have : x = 0 := by omega
    subst this
    rw [al_row0 (by decide +kernel), ab_rdn]
    rfl
/-- what stands behind the three makings -/
def al_W (ω : ab_S) : Prop := ω.1 = 369 ∧ (∀ x, 0 ≤ x → x ≤ 368 → ab_sh ω x = ab_shT x) ∧ ∀ x f, 0 ≤ x → x ≤ 368 → 0 ≤ f → ab_rd ω x f = al_ini x f
theorem al_Y.w (h : al_Y σ0 σ 355 368 (fun _ => False)) : al_W (ab_new σ 22 1) := by
  obtain ⟨h1, h2, h3, h4, h6⟩ := h
  refine ⟨?_, fun x x1 x2 => ?_, fun x f x1 x2 f1 => ?_⟩
  · show σ.1 + 1 = 369
    omega
  · rw [ab_shn]
    by_cases e : x = σ.1
    · rw [if_pos e, e, h1]; decide +kernel
    · rw [if_neg e]; exact h3 x x1 (by omega)
  · rw [ab_rdn]
    by_cases e : x = σ.1
    · rw [if_pos e, e, h1, al_row0 (by decide +kernel)]
    · rw [if_neg e]; exact h4 x f x1 (by omega) f1 (fun w => w)
theorem al_gz : ∀ S : Fin 130, (S.val = 31 ∨ 39 ≤ S.val ∧ (S.val - 39) % 5 = 0) → al_iL.getD (S.val + 3) [] = [] := by decide +kernel
theorem al_W.j (h : al_W ω) : ax_E ω := by
  obtain ⟨w1, w2, w3⟩ := h
  have g : ab_Geo ω := ⟨by omega, w2, fun a f a1 a2 f1 q => by rw [w3 a f a1 a2 f1, al_pt a1 a2 f1 q]⟩
  have i1 : ∀ a f n, 0 ≤ a → a ≤ 368 → 0 ≤ f → al_ini a f = n → ab_rd ω a f = n := fun a f n a1 a2 f1 e => by rw [w3 a f a1 a2 f1, e]
  have e18 : ab_rd ω 1 8 = 0 := i1 _ _ _ (by omega) (by omega) (by omega) (by decide +kernel)
  have kc : ac_KC ω 329 (fun _ _ => 0) := by
    refine ⟨Or.inr rfl, ⟨?_, ?_, ?_, ?_, ?_⟩, ⟨?_, ?_, ?_, ?_, ?_, ?_⟩, fun b b1 b2 => absurd (Int.lt_of_le_of_lt b1 b2) (Int.lt_irrefl 0), fun b b1 b2 => absurd (Int.lt_of_le_of_lt b1 b2) (Int.lt_irrefl 0), fun b b1 b2 => absurd (Int.lt_of_le_of_lt b1 b2) (Int.lt_irrefl 0)⟩
    all_goals exact i1 _ _ _ (by omega) (by omega) (by omega) (by decide +kernel)
  have z0 : ∀ a f, 0 ≤ a → a ≤ 368 → 0 ≤ f → al_iL.getD a.toNat [] = [] → ab_rd ω a f = 0 := fun a f a1 a2 f1 e => i1 a f 0 a1 a2 f1 (al_row0 e)
  have hv : ac_VB (fun _ _ => 0) (fun _ => 0) := ⟨fun b b1 b2 => absurd (Int.lt_of_le_of_lt b1 b2) (Int.lt_irrefl 0), by decide, by decide⟩
  refine ⟨329, fun _ _ => 0, fun _ => 0, 0, fun _ _ => 0, 0, fun _ _ => 0, 0, fun _ => 0, ⟨⟨⟨g, ?_, kc, ⟨by decide, by decide, by decide, by decide, by decide⟩, Or.inl rfl⟩, ⟨fun b b1 b2 => absurd (Int.lt_of_le_of_lt b1 b2) (Int.lt_irrefl 0), fun p p1 p2 => ?_, ?_⟩, hv, ⟨?_, ?_, ?_, by omega, by omega, fun i i1 i2 => absurd (Int.lt_of_le_of_lt i1 i2) (Int.lt_irrefl 0), fun i i1 i2 => absurd (Int.lt_of_le_of_lt i1 i2) (Int.lt_irrefl 0), fun S hS k k1 k2 => Or.inl ?_⟩, fun i i1 i2 => absurd (Int.lt_of_le_of_lt i1 i2) (Int.lt_irrefl 0), fun i i1 i2 => absurd (Int.lt_of_le_of_lt i1 i2) (Int.lt_irrefl 0)⟩, ⟨⟨g, Or.inl ⟨?_, rfl⟩⟩, ⟨fun k k1 k2 => ?_, hv⟩, ⟨?_, ?_, by omega, by omega, fun i k a1 a2 => absurd (Int.lt_of_le_of_lt a1 a2) (Int.lt_irrefl 0), fun i k a1 a2 => absurd (Int.lt_of_le_of_lt a1 a2) (Int.lt_irrefl 0)⟩⟩, ?_, ⟨?_, by omega, fun i a1 a2 => absurd (Int.lt_of_le_of_lt a1 a2) (Int.lt_irrefl 0)⟩, ⟨?_, by omega, fun i a1 a2 => absurd (Int.lt_of_le_of_lt a1 a2) (Int.lt_irrefl 0)⟩, fun i => by show (-128 : Int) ≤ 0 ∧ (0 : Int) ≤ 127; omega, Or.inl ?_, ?_, fun _ => ⟨rfl, rfl, rfl, rfl⟩, fun k k1 k2 => absurd (Int.lt_of_le_of_lt k1 k2) (Int.lt_irrefl 0)⟩, ?_, ?_⟩
  · exact i1 _ _ _ (by omega) (by omega) (by omega) (by decide +kernel)
  · exact z0 _ _ (by omega) (by omega) (by omega) (by decide +kernel)
  · exact i1 _ _ _ (by omega) (by omega) (by omega) (by decide +kernel)
  · rw [i1 36 2 0 (by omega) (by omega) (by omega) (by decide +kernel)]; omega
  · exact i1 _ _ _ (by omega) (by omega) (by omega) (by decide +kernel)
  · exact i1 _ _ _ (by omega) (by omega) (by omega) (by decide +kernel)
  · rcases hS with rfl | ⟨j, j1, rfl⟩
    · exact z0 _ _ (by omega) (by omega) (by omega) (by decide +kernel)
    · refine z0 _ _ (by omega) (by omega) (by omega) ?_
      have := al_gz ⟨39 + 5 * j, by omega⟩ (Or.inr ⟨by dsimp only; omega, by dsimp only; omega⟩)
      rw [show (39 + 5 * (j : Int) + 3).toNat = 39 + 5 * j + 3 by omega]
      exact this
  · exact i1 _ _ _ (by omega) (by omega) (by omega) (by decide +kernel)
  · exact z0 _ _ (by omega) (by omega) (by omega) (by decide +kernel)
  · exact i1 _ _ _ (by omega) (by omega) (by omega) (by decide +kernel)
  · exact i1 _ _ _ (by omega) (by omega) (by omega) (by decide +kernel)
  · exact i1 _ _ _ (by omega) (by omega) (by omega) (by decide +kernel)
  · exact i1 _ _ _ (by omega) (by omega) (by omega) (by decide +kernel)
  · exact i1 _ _ _ (by omega) (by omega) (by omega) (by decide +kernel)
  · exact i1 _ _ _ (by omega) (by omega) (by omega) (by decide +kernel)
  · rw [i1 2 2 0 (by omega) (by omega) (by omega) (by decide +kernel), i1 355 13 0 (by omega) (by omega) (by omega) (by decide +kernel)]
  · rw [e18, i1 355 1 0 (by omega) (by omega) (by omega) (by decide +kernel)]
  · rw [e18, if_neg (by omega), i1 355 2 (-1) (by omega) (by omega) (by omega) (by decide +kernel)]
theorem lw_b0 {c2 s2 : Nat} (hc : cl = c2 + 354 ∧ sl = s2 + 3418) (key : ab_Do X 79 [ab_R 1] (ab_new ab_s0 12 0) (fun r σ' => ab_Run X 288 7 (100, c2, s2) [ab_R (-1), ab_R 0, ab_R 0, ab_R 0, ab_R 0, ab_R 0, ab_R 0] (ab_psh r [ab_R 1]) σ' Q)) : ab_Run X 288 0 (100, cl, sl) [ab_R (-1), ab_R 0, ab_R 0, ab_R 0, ab_R 0, ab_R 0, ab_R 0] [] ab_s0 Q := by
  rw [rL_law_0]
  refine ⟨by omega, ?_⟩
  rw [rL_law_3, rL_law_4 (by omega)]
  refine ⟨⟨rfl, by decide⟩, ?_⟩
  rw [show cl - 1 - 353 = c2 by omega, show sl - 9 - 3409 = s2 by omega]
  exact key
theorem lw_b1 {c2 s2 : Nat} (hc : cl = c2 + 13 ∧ sl = s2 + 1714) (h : σ.1 = 355) (key : ab_Do X 157 [ab_R 355] (ab_new σ 14 0) (fun r σ' => ab_Run X 288 15 (100, c2, s2) [ab_R (-1), ab_R 1, ab_R 0, ab_R 0, ab_R 0, ab_R 0, ab_R 0] (ab_psh r [ab_R 355]) σ' Q)) : ab_Run X 288 7 (100, cl, sl) [ab_R (-1), ab_R 0, ab_R 0, ab_R 0, ab_R 0, ab_R 0, ab_R 0] (ab_psh none [ab_R 1]) σ Q := by
  show ab_Run X 288 7 (100, cl, sl) [ab_R (-1), ab_R 0, ab_R 0, ab_R 0, ab_R 0, ab_R 0, ab_R 0] [ab_R 1] σ Q
  rw [rL_law_7]
  refine ⟨rfl, ?_⟩
  rw [rL_law_8]
  refine ⟨by omega, ?_⟩
  rw [rL_law_11, rL_law_12 (by omega), h]
  refine ⟨⟨?_, by decide⟩, ?_⟩
  · rw [ab_shn, if_pos h.symm]
  rw [show cl - 1 - 12 = c2 by omega, show sl - 39 - 1675 = s2 by omega]
  exact key
theorem lw_b2 {c2 s2 : Nat} (hc : cl = c2 + 1 ∧ sl = s2 + 1) (h : σ.1 = 368) (key : ab_Run X 288 23 (100, c2, s2) [ab_R (-1), ab_R 1, ab_R 355, ab_R 368, ab_I 0, ab_R 0, ab_R 0] [] (ab_new σ 22 1) Q) : ab_Run X 288 15 (100, cl, sl) [ab_R (-1), ab_R 1, ab_R 0, ab_R 0, ab_R 0, ab_R 0, ab_R 0] (ab_psh none [ab_R 355]) σ Q := by
  show ab_Run X 288 15 (100, cl, sl) [ab_R (-1), ab_R 1, ab_R 0, ab_R 0, ab_R 0, ab_R 0, ab_R 0] [ab_R 355] σ Q
  rw [rL_law_15]
  refine ⟨rfl, ?_⟩
  rw [rL_law_16, rL_law_17]
  refine ⟨⟨by omega, by omega, by omega, ?_⟩, ?_⟩
  · show 1 ≤ sl
    omega
  rw [rL_law_19]
  refine ⟨rfl, ?_⟩
  rw [rL_law_20, rL_law_21]
  refine ⟨rfl, ?_⟩
  rw [h, show cl - 1 = c2 by omega, show sl - (1 : Int).toNat = s2 by show sl - 1 = s2; omega]
  exact key
/-- THE LAW of the little machine answers 1 -/
theorem lw_all (hX : 0 ≤ X.1 ∧ X.1 ≤ 4608) (hQ : ∀ σ, Q (some (ab_I 1)) σ) : ab_Run X 288 0 (100, 600000, 7000000) [ab_R (-1), ab_R 0, ab_R 0, ab_R 0, ab_R 0, ab_R 0, ab_R 0] [] ab_s0 Q := by
  refine lw_b0 (c2 := 599646) (s2 := 6996582) (by decide) (cm_X11_init_1 (P := fun _ => False) (fun x u => u.elim) al_s0 (fun τ y => ?_))
  refine lw_b1 (c2 := 599633) (s2 := 6994868) (by decide) y.1 (cn_X13_init (P := fun _ => False) (by decide +kernel) (by decide +kernel) (by decide +kernel) (by decide +kernel) (by decide +kernel) (by decide +kernel) (by decide +kernel) (by decide +kernel) (by decide +kernel) (by decide +kernel) (by decide +kernel) (by decide +kernel) (by decide +kernel) (by decide +kernel) (by decide +kernel) (by decide +kernel) (by decide +kernel) (by decide +kernel) (by decide +kernel) (by decide +kernel) (by decide +kernel) (by decide +kernel) (by decide +kernel) (by decide +kernel) (by decide +kernel) (by decide +kernel) (fun u => u.elim) (y.new (by decide +kernel)) (fun υ y2 => ?_))
  refine lw_b2 (c2 := 599632) (s2 := 6994867) (by decide) y2.1 ?_
  exact lw_loop hX hQ 513 0 _ _ _ _ _ y2.w.j (by omega) (by omega) (by decide) (by decide)
end
