/-! BONES, PEOPLE, KITCHENS of the class: geometry -/
def ac_kit (K : Int) : Prop := K = 5 ∨ K = 329
def ac_BoneG (σ : ab_S) (B : Int) : Prop := ((10 ≤ B ∧ B + 2 ≤ 24) ∨ (334 ≤ B ∧ B + 2 ≤ 348)) ∧ ab_sh σ B = (2, 0) ∧ ab_sh σ (B + 1) = (21, 2) ∧ ab_sh σ (B + 2) = (21, 12) ∧ ab_rd σ B 3 = B + 1 ∧ ab_rd σ B 4 = B + 2
theorem ac_boneT : ∀ i : Fin 5, (ab_shT (10 + 3 * (i.val : Int)) = (2, 0) ∧ ab_shT (10 + 3 * (i.val : Int) + 1) = (21, 2) ∧ ab_shT (10 + 3 * (i.val : Int) + 2) = (21, 12) ∧ ab_pt (10 + 3 * (i.val : Int)) 3 = 10 + 3 * (i.val : Int) + 1 ∧ ab_pt (10 + 3 * (i.val : Int)) 4 = 10 + 3 * (i.val : Int) + 2 ∧ ab_pt 6 i.val = 10 + 3 * (i.val : Int)) ∧ (ab_shT (334 + 3 * (i.val : Int)) = (2, 0) ∧ ab_shT (334 + 3 * (i.val : Int) + 1) = (21, 2) ∧ ab_shT (334 + 3 * (i.val : Int) + 2) = (21, 12) ∧ ab_pt (334 + 3 * (i.val : Int)) 3 = 334 + 3 * (i.val : Int) + 1 ∧ ab_pt (334 + 3 * (i.val : Int)) 4 = 334 + 3 * (i.val : Int) + 2 ∧ ab_pt 330 i.val = 334 + 3 * (i.val : Int)) := by decide +kernel
theorem ac_persT : ∀ i : Fin 6, (ab_shT (25 + (i.val : Int)) = (6, 0) ∧ ab_pt 7 i.val = 25 + (i.val : Int)) ∧ (ab_shT (349 + (i.val : Int)) = (6, 0) ∧ ab_pt 331 i.val = 349 + (i.val : Int)) := by decide +kernel
theorem ab_Geo.bone {σ : ab_S} {K b : Int} (h : ab_Geo σ) (hK : ac_kit K) (h0 : 0 ≤ b) (h5 : b < 5) : ac_BoneG σ (K + 5 + 3 * b) ∧ ab_rd σ (K + 1) b = K + 5 + 3 * b := by
  have t := ac_boneT ⟨b.toNat, by omega⟩
  dsimp only at t
  rw [Int.toNat_of_nonneg h0] at t
  rcases hK with rfl | rfl
  · obtain ⟨⟨t0, t1, t2, p3, p4, p5⟩, -⟩ := t
    show ac_BoneG σ (10 + 3 * b) ∧ ab_rd σ 6 b = 10 + 3 * b
    refine ⟨⟨by omega, ?_, ?_, ?_, ?_, ?_⟩, ?_⟩
    · rw [h.2.1 _ (by omega) (by omega), t0]
    · rw [h.2.1 _ (by omega) (by omega), t1]
    · rw [h.2.1 _ (by omega) (by omega), t2]
    · rw [h.2.2 _ _ (by omega) (by omega) (by omega) (by rw [p3]; omega), p3]
    · rw [h.2.2 _ _ (by omega) (by omega) (by omega) (by rw [p4]; omega), p4]
    · rw [h.2.2 _ _ (by omega) (by omega) (by omega) (by rw [p5]; omega), p5]
  · obtain ⟨-, ⟨t0, t1, t2, p3, p4, p5⟩⟩ := t
    show ac_BoneG σ (334 + 3 * b) ∧ ab_rd σ 330 b = 334 + 3 * b
    refine ⟨⟨by omega, ?_, ?_, ?_, ?_, ?_⟩, ?_⟩
    · rw [h.2.1 _ (by omega) (by omega), t0]
    · rw [h.2.1 _ (by omega) (by omega), t1]
    · rw [h.2.1 _ (by omega) (by omega), t2]
    · rw [h.2.2 _ _ (by omega) (by omega) (by omega) (by rw [p3]; omega), p3]
    · rw [h.2.2 _ _ (by omega) (by omega) (by omega) (by rw [p4]; omega), p4]
    · rw [h.2.2 _ _ (by omega) (by omega) (by omega) (by rw [p5]; omega), p5]
theorem ab_Geo.pers {σ : ab_S} {K p : Int} (h : ab_Geo σ) (hK : ac_kit K) (h0 : 0 ≤ p) (h6 : p < 6) : ab_sh σ (K + 20 + p) = (6, 0) ∧ ab_rd σ (K + 2) p = K + 20 + p := by
  have t := ac_persT ⟨p.toNat, by omega⟩
  dsimp only at t
  rw [Int.toNat_of_nonneg h0] at t
  rcases hK with rfl | rfl
  · obtain ⟨⟨t0, t1⟩, -⟩ := t
    show ab_sh σ (25 + p) = (6, 0) ∧ ab_rd σ 7 p = 25 + p
    refine ⟨?_, ?_⟩
    · rw [h.2.1 _ (by omega) (by omega), t0]
    · rw [h.2.2 _ _ (by omega) (by omega) (by omega) (by rw [t1]; omega), t1]
  · obtain ⟨-, t0, t1⟩ := t
    show ab_sh σ (349 + p) = (6, 0) ∧ ab_rd σ 331 p = 349 + p
    refine ⟨?_, ?_⟩
    · rw [h.2.1 _ (by omega) (by omega), t0]
    · rw [h.2.2 _ _ (by omega) (by omega) (by omega) (by rw [t1]; omega), t1]
def ac_KitG (σ : ab_S) (K : Int) : Prop := ab_sh σ K = (5, 0) ∧ ab_sh σ (K + 1) = (26, 5) ∧ ab_sh σ (K + 2) = (27, 6) ∧ ab_sh σ (K + 3) = (21, 4) ∧ ab_sh σ (K + 4) = (21, 4) ∧ ab_rd σ K 6 = K + 1 ∧ ab_rd σ K 8 = K + 2 ∧ ab_rd σ K 13 = K + 3 ∧ ab_rd σ K 14 = K + 4
theorem ab_Geo.kit {σ : ab_S} {K : Int} (h : ab_Geo σ) (hK : ac_kit K) : ac_KitG σ K := by
  rcases hK with rfl | rfl
  · exact ⟨gS_5 h, gS_6 h, gS_7 h, gS_8 h, gS_9 h, gP_5_6 h, gP_5_8 h, gP_5_13 h, gP_5_14 h⟩
  · exact ⟨gS_329 h, gS_330 h, gS_331 h, gS_332 h, gS_333 h, gP_329_6 h, gP_329_8 h, gP_329_13 h, gP_329_14 h⟩
