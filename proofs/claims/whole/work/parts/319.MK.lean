/-! THE REFERENCE: its kitchens and its cells -/
def ac_mkT : Int → Int × Int := fun f => if f = 12 then (21, 5) else if f = 13 then (21, 5) else if f = 14 then (21, 10) else if f = 15 then (21, 60) else if f = 16 then (21, 6) else if f = 17 then (21, 6) else if f = 18 then (21, 6) else if f = 19 then (21, 6) else if f = 20 then (21, 6) else if f = 21 then (21, 6) else if f = 22 then (21, 12) else if f = 23 then (21, 12) else if f = 24 then (21, 12) else if f = 25 then (21, 4) else if f = 26 then (21, 4) else if f = 27 then (21, 6) else if f = 28 then (21, 6) else if f = 29 then (21, 6) else if f = 30 then (22, 11) else if f = 31 then (24, 11) else if f = 32 then (21, 11) else (0, 0)
def ac_MG (σ : ab_S) (M : Int) : Prop := 369 ≤ M ∧ ab_sh σ M = (13, 0) ∧ (∀ f, 12 ≤ f → f ≤ 32 → ab_rd σ M f = M + (f - 11)) ∧ ∀ f, 12 ≤ f → f ≤ 32 → ab_sh σ (M + (f - 11)) = ac_mkT f
def ac_KM (σ : ab_S) (M : Int) (κ : ac_K) : Prop := (∀ f, 0 ≤ f → f ≤ 9 → ab_rd σ M f = κ f 0) ∧ ∀ f i, 12 ≤ f → f ≤ 29 → 0 ≤ i → i < (ac_mkT f).2 → ab_rd σ (M + (f - 11)) i = κ f i
section
variable {σ : ab_S} {M i : Int} {κ : ac_K}
theorem mS (h : ac_MG σ M) : ab_sh σ M = (13, 0) := h.2.1
theorem mP_12 (h : ac_MG σ M) : ab_rd σ M 12 = M + 1 := h.2.2.1 12 (by decide) (by decide)
theorem mS_12 (h : ac_MG σ M) : ab_sh σ (M + 1) = (21, 5) := h.2.2.2 12 (by decide) (by decide)
theorem kM_12 (h : ac_KM σ M κ) (h1 : 0 ≤ i) (h2 : i < 5) : ab_rd σ (M + 1) i = κ 12 i := h.2 12 i (by decide) (by decide) h1 h2
theorem mP_13 (h : ac_MG σ M) : ab_rd σ M 13 = M + 2 := h.2.2.1 13 (by decide) (by decide)
theorem mS_13 (h : ac_MG σ M) : ab_sh σ (M + 2) = (21, 5) := h.2.2.2 13 (by decide) (by decide)
theorem kM_13 (h : ac_KM σ M κ) (h1 : 0 ≤ i) (h2 : i < 5) : ab_rd σ (M + 2) i = κ 13 i := h.2 13 i (by decide) (by decide) h1 h2
theorem mP_14 (h : ac_MG σ M) : ab_rd σ M 14 = M + 3 := h.2.2.1 14 (by decide) (by decide)
theorem mS_14 (h : ac_MG σ M) : ab_sh σ (M + 3) = (21, 10) := h.2.2.2 14 (by decide) (by decide)
theorem kM_14 (h : ac_KM σ M κ) (h1 : 0 ≤ i) (h2 : i < 10) : ab_rd σ (M + 3) i = κ 14 i := h.2 14 i (by decide) (by decide) h1 h2
theorem mP_15 (h : ac_MG σ M) : ab_rd σ M 15 = M + 4 := h.2.2.1 15 (by decide) (by decide)
theorem mS_15 (h : ac_MG σ M) : ab_sh σ (M + 4) = (21, 60) := h.2.2.2 15 (by decide) (by decide)
theorem kM_15 (h : ac_KM σ M κ) (h1 : 0 ≤ i) (h2 : i < 60) : ab_rd σ (M + 4) i = κ 15 i := h.2 15 i (by decide) (by decide) h1 h2
theorem mP_16 (h : ac_MG σ M) : ab_rd σ M 16 = M + 5 := h.2.2.1 16 (by decide) (by decide)
theorem mS_16 (h : ac_MG σ M) : ab_sh σ (M + 5) = (21, 6) := h.2.2.2 16 (by decide) (by decide)
theorem kM_16 (h : ac_KM σ M κ) (h1 : 0 ≤ i) (h2 : i < 6) : ab_rd σ (M + 5) i = κ 16 i := h.2 16 i (by decide) (by decide) h1 h2
theorem mP_17 (h : ac_MG σ M) : ab_rd σ M 17 = M + 6 := h.2.2.1 17 (by decide) (by decide)
theorem mS_17 (h : ac_MG σ M) : ab_sh σ (M + 6) = (21, 6) := h.2.2.2 17 (by decide) (by decide)
theorem kM_17 (h : ac_KM σ M κ) (h1 : 0 ≤ i) (h2 : i < 6) : ab_rd σ (M + 6) i = κ 17 i := h.2 17 i (by decide) (by decide) h1 h2
theorem mP_18 (h : ac_MG σ M) : ab_rd σ M 18 = M + 7 := h.2.2.1 18 (by decide) (by decide)
theorem mS_18 (h : ac_MG σ M) : ab_sh σ (M + 7) = (21, 6) := h.2.2.2 18 (by decide) (by decide)
theorem kM_18 (h : ac_KM σ M κ) (h1 : 0 ≤ i) (h2 : i < 6) : ab_rd σ (M + 7) i = κ 18 i := h.2 18 i (by decide) (by decide) h1 h2
theorem mP_19 (h : ac_MG σ M) : ab_rd σ M 19 = M + 8 := h.2.2.1 19 (by decide) (by decide)
theorem mS_19 (h : ac_MG σ M) : ab_sh σ (M + 8) = (21, 6) := h.2.2.2 19 (by decide) (by decide)
theorem kM_19 (h : ac_KM σ M κ) (h1 : 0 ≤ i) (h2 : i < 6) : ab_rd σ (M + 8) i = κ 19 i := h.2 19 i (by decide) (by decide) h1 h2
theorem mP_20 (h : ac_MG σ M) : ab_rd σ M 20 = M + 9 := h.2.2.1 20 (by decide) (by decide)
theorem mS_20 (h : ac_MG σ M) : ab_sh σ (M + 9) = (21, 6) := h.2.2.2 20 (by decide) (by decide)
theorem kM_20 (h : ac_KM σ M κ) (h1 : 0 ≤ i) (h2 : i < 6) : ab_rd σ (M + 9) i = κ 20 i := h.2 20 i (by decide) (by decide) h1 h2
theorem mP_21 (h : ac_MG σ M) : ab_rd σ M 21 = M + 10 := h.2.2.1 21 (by decide) (by decide)
theorem mS_21 (h : ac_MG σ M) : ab_sh σ (M + 10) = (21, 6) := h.2.2.2 21 (by decide) (by decide)
theorem kM_21 (h : ac_KM σ M κ) (h1 : 0 ≤ i) (h2 : i < 6) : ab_rd σ (M + 10) i = κ 21 i := h.2 21 i (by decide) (by decide) h1 h2
theorem mP_22 (h : ac_MG σ M) : ab_rd σ M 22 = M + 11 := h.2.2.1 22 (by decide) (by decide)
theorem mS_22 (h : ac_MG σ M) : ab_sh σ (M + 11) = (21, 12) := h.2.2.2 22 (by decide) (by decide)
theorem kM_22 (h : ac_KM σ M κ) (h1 : 0 ≤ i) (h2 : i < 12) : ab_rd σ (M + 11) i = κ 22 i := h.2 22 i (by decide) (by decide) h1 h2
theorem mP_23 (h : ac_MG σ M) : ab_rd σ M 23 = M + 12 := h.2.2.1 23 (by decide) (by decide)
theorem mS_23 (h : ac_MG σ M) : ab_sh σ (M + 12) = (21, 12) := h.2.2.2 23 (by decide) (by decide)
theorem kM_23 (h : ac_KM σ M κ) (h1 : 0 ≤ i) (h2 : i < 12) : ab_rd σ (M + 12) i = κ 23 i := h.2 23 i (by decide) (by decide) h1 h2
theorem mP_24 (h : ac_MG σ M) : ab_rd σ M 24 = M + 13 := h.2.2.1 24 (by decide) (by decide)
theorem mS_24 (h : ac_MG σ M) : ab_sh σ (M + 13) = (21, 12) := h.2.2.2 24 (by decide) (by decide)
theorem kM_24 (h : ac_KM σ M κ) (h1 : 0 ≤ i) (h2 : i < 12) : ab_rd σ (M + 13) i = κ 24 i := h.2 24 i (by decide) (by decide) h1 h2
theorem mP_25 (h : ac_MG σ M) : ab_rd σ M 25 = M + 14 := h.2.2.1 25 (by decide) (by decide)
theorem mS_25 (h : ac_MG σ M) : ab_sh σ (M + 14) = (21, 4) := h.2.2.2 25 (by decide) (by decide)
theorem kM_25 (h : ac_KM σ M κ) (h1 : 0 ≤ i) (h2 : i < 4) : ab_rd σ (M + 14) i = κ 25 i := h.2 25 i (by decide) (by decide) h1 h2
theorem mP_26 (h : ac_MG σ M) : ab_rd σ M 26 = M + 15 := h.2.2.1 26 (by decide) (by decide)
theorem mS_26 (h : ac_MG σ M) : ab_sh σ (M + 15) = (21, 4) := h.2.2.2 26 (by decide) (by decide)
theorem kM_26 (h : ac_KM σ M κ) (h1 : 0 ≤ i) (h2 : i < 4) : ab_rd σ (M + 15) i = κ 26 i := h.2 26 i (by decide) (by decide) h1 h2
theorem mP_27 (h : ac_MG σ M) : ab_rd σ M 27 = M + 16 := h.2.2.1 27 (by decide) (by decide)
theorem mS_27 (h : ac_MG σ M) : ab_sh σ (M + 16) = (21, 6) := h.2.2.2 27 (by decide) (by decide)
theorem kM_27 (h : ac_KM σ M κ) (h1 : 0 ≤ i) (h2 : i < 6) : ab_rd σ (M + 16) i = κ 27 i := h.2 27 i (by decide) (by decide) h1 h2
theorem mP_28 (h : ac_MG σ M) : ab_rd σ M 28 = M + 17 := h.2.2.1 28 (by decide) (by decide)
theorem mS_28 (h : ac_MG σ M) : ab_sh σ (M + 17) = (21, 6) := h.2.2.2 28 (by decide) (by decide)
theorem kM_28 (h : ac_KM σ M κ) (h1 : 0 ≤ i) (h2 : i < 6) : ab_rd σ (M + 17) i = κ 28 i := h.2 28 i (by decide) (by decide) h1 h2
theorem mP_29 (h : ac_MG σ M) : ab_rd σ M 29 = M + 18 := h.2.2.1 29 (by decide) (by decide)
theorem mS_29 (h : ac_MG σ M) : ab_sh σ (M + 18) = (21, 6) := h.2.2.2 29 (by decide) (by decide)
theorem kM_29 (h : ac_KM σ M κ) (h1 : 0 ≤ i) (h2 : i < 6) : ab_rd σ (M + 18) i = κ 29 i := h.2 29 i (by decide) (by decide) h1 h2
theorem mP_30 (h : ac_MG σ M) : ab_rd σ M 30 = M + 19 := h.2.2.1 30 (by decide) (by decide)
theorem mS_30 (h : ac_MG σ M) : ab_sh σ (M + 19) = (22, 11) := h.2.2.2 30 (by decide) (by decide)
theorem mP_31 (h : ac_MG σ M) : ab_rd σ M 31 = M + 20 := h.2.2.1 31 (by decide) (by decide)
theorem mS_31 (h : ac_MG σ M) : ab_sh σ (M + 20) = (24, 11) := h.2.2.2 31 (by decide) (by decide)
theorem mP_32 (h : ac_MG σ M) : ab_rd σ M 32 = M + 21 := h.2.2.1 32 (by decide) (by decide)
theorem mS_32 (h : ac_MG σ M) : ab_sh σ (M + 21) = (21, 11) := h.2.2.2 32 (by decide) (by decide)
theorem kM_0 (h : ac_KM σ M κ) : ab_rd σ M 0 = κ 0 0 := h.1 0 (by decide) (by decide)
theorem kM_1 (h : ac_KM σ M κ) : ab_rd σ M 1 = κ 1 0 := h.1 1 (by decide) (by decide)
theorem kM_2 (h : ac_KM σ M κ) : ab_rd σ M 2 = κ 2 0 := h.1 2 (by decide) (by decide)
theorem kM_3 (h : ac_KM σ M κ) : ab_rd σ M 3 = κ 3 0 := h.1 3 (by decide) (by decide)
theorem kM_4 (h : ac_KM σ M κ) : ab_rd σ M 4 = κ 4 0 := h.1 4 (by decide) (by decide)
theorem kM_5 (h : ac_KM σ M κ) : ab_rd σ M 5 = κ 5 0 := h.1 5 (by decide) (by decide)
theorem kM_6 (h : ac_KM σ M κ) : ab_rd σ M 6 = κ 6 0 := h.1 6 (by decide) (by decide)
theorem kM_7 (h : ac_KM σ M κ) : ab_rd σ M 7 = κ 7 0 := h.1 7 (by decide) (by decide)
theorem kM_8 (h : ac_KM σ M κ) : ab_rd σ M 8 = κ 8 0 := h.1 8 (by decide) (by decide)
theorem kM_9 (h : ac_KM σ M κ) : ab_rd σ M 9 = κ 9 0 := h.1 9 (by decide) (by decide)
end
/-- cells that a question to the reference may change -/
def ac_PM : Int → Int → Prop := fun a f => (a = 355 ∧ (f ≤ 2 ∨ (21 ≤ f ∧ f ≤ 26) ∨ f = 34 ∨ f = 35 ∨ f = 37 ∨ f = 38)) ∨ (360 ≤ a ∧ a ≤ 367)
theorem ac_ptM : (∀ a : Fin 369, 360 ≤ a.val ∧ a.val ≤ 367 → ab_ptL.getD a.val [] = []) ∧ (∀ f : Fin 39, f.val ≤ 2 ∨ (21 ≤ f.val ∧ f.val ≤ 26) ∨ f.val = 34 ∨ f.val = 35 ∨ f.val = 37 ∨ f.val = 38 → (ab_ptL.getD (355 : Int).toNat []).getD f.val 0 = 0) := by decide +kernel
theorem ac_PM_pt : ∀ a f, 0 ≤ a → a ≤ 368 → 0 ≤ f → ac_PM a f → ab_pt a f = 0 := by
  intro a f h1 h2 h3 hp
  rcases hp with ⟨rfl, q⟩ | q
  · exact ac_ptM.2 ⟨f.toNat, by omega⟩ (by dsimp only; omega)
  · exact ab_pt_nil (ac_ptM.1 ⟨a.toNat, by omega⟩ (by dsimp only; omega))
section
variable {σ τ : ab_S} {M K i : Int} {κ : ac_K} {P : Int → Int → Prop}
theorem ac_MG.same (h : ac_MG σ M) (hs : ab_Same P σ τ) (hp : ∀ a f, 369 ≤ a → ¬ P a f) : ac_MG τ M := by
  obtain ⟨h1, h2, h3, h4⟩ := h
  exact ⟨h1, by rw [hs.2.1, h2], fun f f1 f2 => by rw [hs.2.2 _ _ (hp _ _ h1), h3 f f1 f2], fun f f1 f2 => by rw [hs.2.1, h4 f f1 f2]⟩
theorem ac_KM.same (h : ac_KM σ M κ) (hM : 369 ≤ M) (hs : ab_Same P σ τ) (hp : ∀ a f, 369 ≤ a → ¬ P a f) : ac_KM τ M κ := by
  obtain ⟨h1, h2⟩ := h
  exact ⟨fun f f1 f2 => by rw [hs.2.2 _ _ (hp _ _ hM), h1 f f1 f2], fun f i f1 f2 i1 i2 => by rw [hs.2.2 _ _ (hp _ _ (by omega)), h2 f i f1 f2 i1 i2]⟩
theorem ac_PM_hi : ∀ a f, 369 ≤ a → ¬ ac_PM a f := fun a f h w => by unfold ac_PM at w; omega
theorem ac_PC_hi : ∀ a f, 369 ≤ a → ¬ ac_PC a f := fun a f h w => by unfold ac_PC at w; omega
/-- the reference with a told kitchen -/
def ac_MI (σ : ab_S) (M : Int) (κ : ac_K) : Prop := ab_Geo σ ∧ ab_rd σ 355 3 = M ∧ ac_MG σ M ∧ ac_KM σ M κ ∧ ac_KK κ
theorem ac_MI.same (h : ac_MI σ M κ) (hs : ab_Same ac_PM σ τ) : ac_MI τ M κ := by
  obtain ⟨h1, h2, h3, h4, h5⟩ := h
  exact ⟨h1.same hs ac_PM_pt, by rw [hs.2.2 355 3 (by unfold ac_PM; omega), h2], h3.same hs ac_PM_hi, h4.same h3.1 hs ac_PM_hi, h5⟩
end
