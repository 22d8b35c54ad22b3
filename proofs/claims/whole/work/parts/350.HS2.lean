/-! HISTORY of the class -/
def ac_kna (na : Int) : Int := if na = 16 then 16 else na + 1
def ac_kpa (na : Int) (pa : Int → Int → Int) (v : Int → Int) : Int → Int → Int := fun i => if na = 16 then (if i = 15 then v else pa (i + 1)) else (if i = na then v else pa i)
def ac_H (σ : ab_S) (κ : ac_K) (na : Int) (pa : Int → Int → Int) (nm : Int) (pm : Int → Int → Int) : Prop := (0 ≤ ab_rd σ 36 2 ∧ ab_rd σ 36 2 < 16) ∧ ab_rd σ 36 3 = na ∧ ab_rd σ 36 4 = nm ∧ (0 ≤ na ∧ na ≤ 16) ∧ (0 ≤ nm ∧ nm ≤ 3) ∧ (∀ i, 0 ≤ i → i < na → ac_St σ (39 + 5 * ((ab_rd σ 36 2 - na + i) % 16)) κ (pa i)) ∧ (∀ i, 0 ≤ i → i < nm → ac_St σ (119 + 5 * i) κ (pm i)) ∧ ∀ S, ac_so S → ac_GZ σ S
/-- cells of history -/
def ac_PK : Int → Int → Prop := fun a f => (a = 36 ∧ 2 ≤ f) ∨ (39 ≤ a ∧ a ≤ 133 ∧ ((a - 39) % 5 = 0 → f = 4))
theorem ac_PS_PK {S a f : Int} (h1 : ac_so S) (h2 : S ≠ 31) (h : ac_PS S a f) : ac_PK a f := by
  rcases h1 with h1 | ⟨i, hi, rfl⟩
  · exact absurd h1 h2
  · unfold ac_PS at h
    unfold ac_PK
    rcases h with ⟨rfl, rfl⟩ | h
    · right; omega
    · right; omega
section
variable {X : ab_X} {σ τ υ : ab_S} {Q : Option ab_V → ab_S → Prop} {S O i x y na nm k : Int} {κ : ac_K} {v : Int → Int} {pa pm : Int → Int → Int} {P : Int → Int → Prop}
theorem ac_H.same (h : ac_H σ κ na pa nm pm) (hn : κ 5 0 ≤ 5) (hs : ab_Same P σ τ) (hp : ∀ a f, (a = 36 ∨ ∃ S, ac_so S ∧ ac_PS S a f) → ¬ P a f) : ac_H τ κ na pa nm pm := by
  obtain ⟨h1, h2, h3, h4, h5, h6, h7, h8⟩ := h
  have e : ∀ f, ab_rd τ 36 f = ab_rd σ 36 f := fun f => hs.2.2 36 f (hp 36 f (Or.inl rfl))
  unfold ac_H
  rw [e, e, e]
  refine ⟨h1, h2, h3, h4, h5, fun i i1 i2 => ?_, fun i i1 i2 => ?_, fun S hS => ?_⟩
  · have hS : ac_so (39 + 5 * ((ab_rd σ 36 2 - na + i) % 16)) := Or.inr ⟨((ab_rd σ 36 2 - na + i) % 16).toNat, by omega, by omega⟩
    exact (h6 i i1 i2).sameG hn hs (fun a f w => hp a f (Or.inr ⟨_, hS, w⟩))
  · have hS : ac_so (119 + 5 * i) := Or.inr ⟨16 + i.toNat, by omega, by omega⟩
    exact (h7 i i1 i2).sameG hn hs (fun a f w => hp a f (Or.inr ⟨_, hS, w⟩))
  · exact (h8 S hS).sameG hs (fun a f w => hp a f (Or.inr ⟨_, hS, w⟩))
theorem ac_so_d (hS : ac_so S) (hO : ac_so O) (hne : S ≠ O) : S + 4 < O ∨ O + 4 < S := by
  rcases hS with h1 | ⟨i, h1, h2⟩ <;> rcases hO with h3 | ⟨j, h3, h4⟩ <;> omega
theorem sp_keep (hg : ab_Geo σ) (hH : ac_H σ κ na pa nm pm) (hS : ac_St σ 31 κ v) (hn : κ 5 0 ≤ 5) (hQ : ∀ τ, ab_Same ac_PK σ τ → ac_H τ κ (ac_kna na) (ac_kpa na pa v) nm pm → Q none τ) : ab_Do X 21 [ab_R 36, ab_R 31] σ Q := by
  obtain ⟨h1, h2, h3, h4, h5, h6, h7, h8⟩ := hH
  have so31 : ac_so 31 := Or.inl rfl
  obtain ⟨r1, r2⟩ := hg.ring h1
  have c1 := fun Q' => sp_become (X := X) (Q := Q') hg r2 so31 (by omega) (h8 31 so31)
  have hd := ac_so_d r2 so31 (by omega)
  have bs := ac_bc_same (σ := σ) (S := 39 + 5 * ab_rd σ 36 2) (O := 31)
  have bSt := ac_bc_St hd hS hn
  have bGZ := ac_bc_GZ hd (h8 31 so31)
  have e36 : ∀ f, ab_rd (ac_bc σ (39 + 5 * ab_rd σ 36 2) 31) 36 f = ab_rd σ 36 f := fun f => bs.2.2 36 f (by unfold ac_PS; omega)
  have gb := hg.same bs (ac_PS_pt r2)
  have sR := (hg.st r2).2.1
  have key : Q none (ab_wr (ab_wr (ac_bc σ (39 + 5 * ab_rd σ 36 2) 31) 36 2 ((ab_rd σ 36 2 + 1) % 16)) 36 3 (ac_kna na)) := by
    have w1 : ab_Same (fun a f => ac_PS (39 + 5 * ab_rd σ 36 2) a f ∨ (a = 36 ∧ 2 ≤ f)) σ (ab_wr (ab_wr (ac_bc σ (39 + 5 * ab_rd σ 36 2) 31) 36 2 ((ab_rd σ 36 2 + 1) % 16)) 36 3 (ac_kna na)) := ((bs.mono (fun _ _ u => Or.inl u)).wr (Or.inr (by omega))).wr (Or.inr (by omega))
    have w2 : ab_Same (fun a f => a = 36) (ac_bc σ (39 + 5 * ab_rd σ 36 2) 31) (ab_wr (ab_wr (ac_bc σ (39 + 5 * ab_rd σ 36 2) 31) 36 2 ((ab_rd σ 36 2 + 1) % 16)) 36 3 (ac_kna na)) := ((ab_Same.refl (P := fun a f => a = 36)).wr rfl).wr rfl
    have n36 : ∀ S a f, ac_so S → ac_PS S a f → ¬ a = 36 := fun S a f hS u e => by
      unfold ac_PS at u
      rcases hS with z | ⟨j, z1, z2⟩ <;> omega
    have old : ∀ S, ac_so S → S ≠ 39 + 5 * ab_rd σ 36 2 → ∀ w, ac_St σ S κ w → ac_St (ab_wr (ab_wr (ac_bc σ (39 + 5 * ab_rd σ 36 2) 31) 36 2 ((ab_rd σ 36 2 + 1) % 16)) 36 3 (ac_kna na)) S κ w := fun S hS hne w hw => hw.sameG hn w1 (fun a f u u2 => by
      rcases u2 with u2 | u2
      · have := ac_so_d hS r2 hne
        unfold ac_PS at u u2
        omega
      · exact n36 S a f hS u u2.1)
    refine hQ _ (w1.mono (fun a f u => ?_)) ⟨?_, ?_, ?_, ?_, h5, fun i i1 i2 => ?_, fun i i1 i2 => ?_, fun S hS => ?_⟩
    · rcases u with u | u
      · exact ac_PS_PK r2 (by omega) u
      · exact Or.inl u
    · rw [ab_rdw_ne (by omega), ab_rdw_eq]; omega
    · rw [ab_rdw_eq]
    · rw [ab_rdw_ne (by omega), ab_rdw_ne (by omega), e36, h3]
    · unfold ac_kna; split <;> omega
    · rw [ab_rdw_ne (by omega), ab_rdw_eq]
      unfold ac_kpa
      by_cases z : na = 16
      · have k1 : ac_kna na = 16 := if_pos z
        rw [k1] at i2
        rw [if_pos z]
        by_cases z2 : i = 15
        · rw [if_pos z2, z2, show ((ab_rd σ 36 2 + 1) % 16 - ac_kna na + 15) % 16 = ab_rd σ 36 2 by rw [k1]; omega]
          exact bSt.sameG hn w2 (fun a f u => n36 _ a f r2 u)
        · rw [if_neg z2, show ((ab_rd σ 36 2 + 1) % 16 - ac_kna na + i) % 16 = (ab_rd σ 36 2 - na + (i + 1)) % 16 by rw [k1]; omega]
          exact old _ (Or.inr ⟨((ab_rd σ 36 2 - na + (i + 1)) % 16).toNat, by omega, by omega⟩) (by omega) _ (h6 (i + 1) (by omega) (by omega))
      · have k1 : ac_kna na = na + 1 := if_neg z
        rw [k1] at i2
        rw [if_neg z]
        by_cases z2 : i = na
        · rw [if_pos z2, z2, show ((ab_rd σ 36 2 + 1) % 16 - ac_kna na + na) % 16 = ab_rd σ 36 2 by rw [k1]; omega]
          exact bSt.sameG hn w2 (fun a f u => n36 _ a f r2 u)
        · rw [if_neg z2, show ((ab_rd σ 36 2 + 1) % 16 - ac_kna na + i) % 16 = (ab_rd σ 36 2 - na + i) % 16 by rw [k1]; omega]
          exact old _ (Or.inr ⟨((ab_rd σ 36 2 - na + i) % 16).toNat, by omega, by omega⟩) (by omega) _ (h6 i i1 (by omega))
    · exact old _ (Or.inr ⟨16 + i.toNat, by omega, by omega⟩) (by omega) _ (h7 i i1 i2)
    · by_cases z : S = 39 + 5 * ab_rd σ 36 2
      · rw [z]; exact bGZ.sameG w2 (fun a f u => n36 _ a f r2 u)
      · refine (h8 S hS).sameG w1 (fun a f u u2 => ?_)
        rcases u2 with u2 | u2
        · have := ac_so_d hS r2 z
          unfold ac_PS at u u2
          omega
        · exact n36 S a f hS u u2.1
  have e3 : ab_rd (ac_bc σ (39 + 5 * ab_rd σ 36 2) 31) 36 3 = na := by rw [e36, h2]
  have e2 := e36 2
  have s37 := gS_37 hg
  have kn : (if na + 1 < 16 then na + 1 else 16) = ac_kna na := by unfold ac_kna; split <;> split <;> omega
  clear h6 h7 h8 bSt bGZ bs hQ hS hd e36
  simp (disch := omega) only [do_X3_keep, rX3_keep_0, rX3_keep_1, rX3_keep_4, rX3_keep_5, rX3_keep_8, rX3_keep_9, rX3_keep_10, rX3_keep_13, rX3_keep_14, rX3_keep_15, rX3_keep_18, rX3_keep_19, rX3_keep_20, rX3_keep_22, rX3_keep_23, rX3_keep_26, rX3_keep_27, rX3_keep_29, rX3_keep_30, rX3_keep_33, rX3_keep_34, rX3_keep_35, rX3_keep_38, rX3_keep_41, gS_36, gP_36_0, gS_31, s37, hg, gb, r1, sR, c1, e2, e3, kn, ne_eq, not_false_eq_true, not_true_eq_false, true_and, and_true, and_self, true_imp_iff, false_imp_iff, imp_self, Bool.not_false, Bool.not_true, reduceCtorEq, ab_isJ, ab_psh, ab_cats, Bool.false_eq_true, if_true, if_false, ab_shf, ab_shw, Int.le_refl, Classical.not_not, Int.zero_add, forall_const, ↓ab_itT, ↓ab_itF, ab_anT, ab_w32_id, ab_rdf_ne, ab_rdw_ne, ab_rdw_eq, ab_rdf_in, ab_td2, ab_tm2]
  all_goals exact key
theorem sp_takeBack (hg : ab_Geo σ) (hH : ac_H σ κ na pa nm pm) (hna : 1 ≤ na) (hn : κ 5 0 ≤ 5) (hQ : ∀ τ, ab_Same (fun a f => ac_PS 31 a f ∨ (a = 36 ∧ 2 ≤ f ∧ f ≤ 3)) σ τ → ac_H τ κ (na - 1) pa nm pm → ac_St τ 31 κ (pa (na - 1)) → Q none τ) : ab_Do X 22 [ab_R 36, ab_R 31] σ Q := by
  obtain ⟨h1, h2, h3, h4, h5, h6, h7, h8⟩ := hH
  have so31 : ac_so 31 := Or.inl rfl
  have w0 : ab_Same (fun a f => a = 36 ∧ 2 ≤ f ∧ f ≤ 3) σ (ab_wr (ab_wr σ 36 2 ((ab_rd σ 36 2 + 15) % 16)) 36 3 (na - 1)) := (ab_Same.refl.wr (by omega)).wr (by omega)
  have g0 : ab_Geo (ab_wr (ab_wr σ 36 2 ((ab_rd σ 36 2 + 15) % 16)) 36 3 (na - 1)) := (hg.wr (fun _ _ _ => by decide)).wr (fun _ _ _ => by decide)
  obtain ⟨r1, r2⟩ := g0.ring (i := (ab_rd σ 36 2 + 15) % 16) (by omega)
  have n36 : ∀ S a f, ac_so S → ac_PS S a f → ¬ (a = 36 ∧ 2 ≤ f ∧ f ≤ 3) := fun S a f hS u e => by
    unfold ac_PS at u
    rcases hS with z | ⟨j, z1, z2⟩ <;> omega
  have gz := fun S hS => (h8 S hS).sameG w0 (fun a f u => n36 S a f hS u)
  have c1 := fun Q' => sp_become (X := X) (Q := Q') g0 so31 r2 (by omega) (gz _ r2)
  have hd := ac_so_d so31 r2 (by omega)
  have st0 : ac_St (ab_wr (ab_wr σ 36 2 ((ab_rd σ 36 2 + 15) % 16)) 36 3 (na - 1)) (39 + 5 * ((ab_rd σ 36 2 + 15) % 16)) κ (pa (na - 1)) := by
    have := h6 (na - 1) (by omega) (by omega)
    rw [show (ab_rd σ 36 2 - na + (na - 1)) % 16 = (ab_rd σ 36 2 + 15) % 16 by omega] at this
    exact this.sameG hn w0 (fun a f u => n36 _ a f r2 u)
  have bs := ac_bc_same (σ := ab_wr (ab_wr σ 36 2 ((ab_rd σ 36 2 + 15) % 16)) 36 3 (na - 1)) (S := 31) (O := 39 + 5 * ((ab_rd σ 36 2 + 15) % 16))
  have bSt := ac_bc_St hd st0 hn
  have bGZ := ac_bc_GZ hd (gz _ r2)
  have w1 : ab_Same (fun a f => ac_PS 31 a f ∨ (a = 36 ∧ 2 ≤ f ∧ f ≤ 3)) σ (ac_bc (ab_wr (ab_wr σ 36 2 ((ab_rd σ 36 2 + 15) % 16)) 36 3 (na - 1)) 31 (39 + 5 * ((ab_rd σ 36 2 + 15) % 16))) := (w0.mono (fun _ _ u => Or.inr u)).trans (bs.mono (fun _ _ u => Or.inl u))
  have e36 : ∀ f, ab_rd (ac_bc (ab_wr (ab_wr σ 36 2 ((ab_rd σ 36 2 + 15) % 16)) 36 3 (na - 1)) 31 (39 + 5 * ((ab_rd σ 36 2 + 15) % 16))) 36 f = ab_rd (ab_wr (ab_wr σ 36 2 ((ab_rd σ 36 2 + 15) % 16)) 36 3 (na - 1)) 36 f := fun f => bs.2.2 36 f (by unfold ac_PS; omega)
  have old : ∀ S, ac_so S → S ≠ 31 → ∀ w, ac_St σ S κ w → ac_St (ac_bc (ab_wr (ab_wr σ 36 2 ((ab_rd σ 36 2 + 15) % 16)) 36 3 (na - 1)) 31 (39 + 5 * ((ab_rd σ 36 2 + 15) % 16))) S κ w := fun S hS hne w hw => hw.sameG hn w1 (fun a f u u2 => by
    rcases u2 with u2 | u2
    · have := ac_so_d hS so31 hne
      unfold ac_PS at u u2
      omega
    · exact n36 S a f hS u u2)
  have key := hQ _ w1 ⟨by rw [e36, ab_rdw_ne (by omega), ab_rdw_eq]; omega, by rw [e36, ab_rdw_eq], by rw [e36, ab_rdw_ne (by omega), ab_rdw_ne (by omega), h3], by omega, h5, fun i i1 i2 => by
    rw [e36, ab_rdw_ne (by omega), ab_rdw_eq, show ((ab_rd σ 36 2 + 15) % 16 - (na - 1) + i) % 16 = (ab_rd σ 36 2 - na + i) % 16 by omega]
    exact old _ (Or.inr ⟨((ab_rd σ 36 2 - na + i) % 16).toNat, by omega, by omega⟩) (by omega) _ (h6 i i1 (by omega)), fun i i1 i2 => old _ (Or.inr ⟨16 + i.toNat, by omega, by omega⟩) (by omega) _ (h7 i i1 i2), fun S hS => by
    by_cases z : S = 31
    · rw [z]; exact bGZ
    · refine (h8 S hS).sameG w1 (fun a f u u2 => ?_)
      rcases u2 with u2 | u2
      · have := ac_so_d hS so31 z
        unfold ac_PS at u u2
        omega
      · exact n36 S a f hS u u2⟩ bSt
  have sR : ab_sh σ (39 + 5 * ((ab_rd σ 36 2 + 15) % 16)) = (9, 0) := (g0.st r2).2.1
  have r1' : ab_rd σ 37 ((ab_rd σ 36 2 + 15) % 16) = 39 + 5 * ((ab_rd σ 36 2 + 15) % 16) := (hg.ring (i := (ab_rd σ 36 2 + 15) % 16) (by omega)).1
  have em : ab_rd σ 36 2 + 16 - 1 = ab_rd σ 36 2 + 15 := by omega
  clear h6 h7 h8 bSt bGZ bs hQ hd e36 old gz st0 w1 w0 n36 r1
  simp (disch := omega) only [do_X3_takeBack, rX3_takeBack_0, rX3_takeBack_1, rX3_takeBack_2, rX3_takeBack_5, rX3_takeBack_7, rX3_takeBack_8, rX3_takeBack_9, rX3_takeBack_10, rX3_takeBack_12, rX3_takeBack_13, rX3_takeBack_16, rX3_takeBack_17I, rX3_takeBack_17R, rX3_takeBack_18, rX3_takeBack_21, rX3_takeBack_22, rX3_takeBack_23, rX3_takeBack_26, rX3_takeBack_27, rX3_takeBack_28, rX3_takeBack_31, rX3_takeBack_32, rX3_takeBack_35, rX3_takeBack_36, rX3_takeBack_39, gS_36, gP_36_0, gS_31, gS_37, hg, r1', sR, em, h2, c1, ne_eq, not_false_eq_true, not_true_eq_false, true_and, and_true, and_self, true_imp_iff, false_imp_iff, imp_self, Bool.not_false, Bool.not_true, reduceCtorEq, ab_isJ, ab_psh, ab_cats, Bool.false_eq_true, if_true, if_false, ab_shf, ab_shw, Int.le_refl, Classical.not_not, Int.zero_add, forall_const, ↓ab_itT, ↓ab_itF, ab_anT, ab_w32_id, ab_rdf_ne, ab_rdw_ne, ab_rdw_eq, ab_rdf_in, ab_td2, ab_tm2]
  all_goals exact key
theorem sp_setMark (hg : ab_Geo σ) (hH : ac_H σ κ na pa nm pm) (hS : ac_St σ 31 κ v) (hnm : nm < 3) (hn : κ 5 0 ≤ 5) (hQ : ∀ τ, ab_Same ac_PK σ τ → ac_H τ κ na pa (nm + 1) (fun i => if i = nm then v else pm i) → Q (some (ab_I nm)) τ) : ab_Do X 24 [ab_R 36, ab_R 31] σ Q := by
  obtain ⟨h1, h2, h3, h4, h5, h6, h7, h8⟩ := hH
  have so31 : ac_so 31 := Or.inl rfl
  obtain ⟨r1, r2⟩ := hg.mrk (i := nm) (by omega)
  have c1 := fun Q' => sp_become (X := X) (Q := Q') hg r2 so31 (by omega) (h8 31 so31)
  have hd := ac_so_d r2 so31 (by omega)
  have bs := ac_bc_same (σ := σ) (S := 119 + 5 * nm) (O := 31)
  have bSt := ac_bc_St hd hS hn
  have bGZ := ac_bc_GZ hd (h8 31 so31)
  have e36 : ∀ f, ab_rd (ac_bc σ (119 + 5 * nm) 31) 36 f = ab_rd σ 36 f := fun f => bs.2.2 36 f (by unfold ac_PS; omega)
  have gb := hg.same bs (ac_PS_pt r2)
  have sR := (hg.st r2).2.1
  have key : Q (some (ab_I nm)) (ab_wr (ac_bc σ (119 + 5 * nm) 31) 36 4 (nm + 1)) := by
    have w1 : ab_Same (fun a f => ac_PS (119 + 5 * nm) a f ∨ (a = 36 ∧ f = 4)) σ (ab_wr (ac_bc σ (119 + 5 * nm) 31) 36 4 (nm + 1)) := (bs.mono (fun _ _ u => Or.inl u)).wr (Or.inr (by omega))
    have w2 : ab_Same (fun a f => a = 36) (ac_bc σ (119 + 5 * nm) 31) (ab_wr (ac_bc σ (119 + 5 * nm) 31) 36 4 (nm + 1)) := (ab_Same.refl (P := fun a f => a = 36)).wr rfl
    have n36 : ∀ S a f, ac_so S → ac_PS S a f → ¬ a = 36 := fun S a f hS u e => by
      unfold ac_PS at u
      rcases hS with z | ⟨j, z1, z2⟩ <;> omega
    have old : ∀ S, ac_so S → S ≠ 119 + 5 * nm → ∀ w, ac_St σ S κ w → ac_St (ab_wr (ac_bc σ (119 + 5 * nm) 31) 36 4 (nm + 1)) S κ w := fun S hS hne w hw => hw.sameG hn w1 (fun a f u u2 => by
      rcases u2 with u2 | u2
      · have := ac_so_d hS r2 hne
        unfold ac_PS at u u2
        omega
      · exact n36 S a f hS u u2.1)
    have d2 : ab_rd (ab_wr (ac_bc σ (119 + 5 * nm) 31) 36 4 (nm + 1)) 36 2 = ab_rd σ 36 2 := by rw [ab_rdw_ne (by omega), e36]
    refine hQ _ (w1.mono (fun a f u => ?_)) ⟨?_, ?_, ?_, h4, by omega, fun i i1 i2 => ?_, fun i i1 i2 => ?_, fun S hS => ?_⟩
    · rcases u with u | u
      · exact ac_PS_PK r2 (by omega) u
      · exact Or.inl (by omega)
    · rw [d2]; exact h1
    · rw [ab_rdw_ne (by omega), e36, h2]
    · rw [ab_rdw_eq]
    · rw [d2]
      exact old _ (Or.inr ⟨((ab_rd σ 36 2 - na + i) % 16).toNat, by omega, by omega⟩) (by omega) _ (h6 i i1 i2)
    · dsimp only
      by_cases z : i = nm
      · rw [if_pos z, z]; exact bSt.sameG hn w2 (fun a f u => n36 _ a f r2 u)
      · rw [if_neg z]; exact old _ (Or.inr ⟨16 + i.toNat, by omega, by omega⟩) (by omega) _ (h7 i i1 (by omega))
    · by_cases z : S = 119 + 5 * nm
      · rw [z]; exact bGZ.sameG w2 (fun a f u => n36 _ a f r2 u)
      · refine (h8 S hS).sameG w1 (fun a f u u2 => ?_)
        rcases u2 with u2 | u2
        · have := ac_so_d hS r2 z
          unfold ac_PS at u u2
          omega
        · exact n36 S a f hS u u2.1
  have e4 : ab_rd (ac_bc σ (119 + 5 * nm) 31) 36 4 = nm := by rw [e36, h3]
  have em : nm + 1 - 1 = nm := by omega
  clear h6 h7 h8 bSt bGZ bs hQ hS hd e36
  simp (disch := omega) only [do_X3_setMark, rX3_setMark_0, rX3_setMark_1, rX3_setMark_4, rX3_setMark_5, rX3_setMark_8, rX3_setMark_9, rX3_setMark_10, rX3_setMark_13, rX3_setMark_14I, rX3_setMark_14R, rX3_setMark_15, rX3_setMark_18, rX3_setMark_19, rX3_setMark_20, rX3_setMark_23, rX3_setMark_24, rX3_setMark_27, rX3_setMark_28, rX3_setMark_29, gS_36, gP_36_1, gS_31, gS_38, hg, gb, h3, r1, sR, c1, e4, em, ne_eq, not_false_eq_true, not_true_eq_false, true_and, and_true, and_self, true_imp_iff, false_imp_iff, imp_self, Bool.not_false, Bool.not_true, reduceCtorEq, ab_isJ, ab_psh, ab_cats, Bool.false_eq_true, if_true, if_false, ab_shf, ab_shw, Int.le_refl, Classical.not_not, Int.zero_add, forall_const, ↓ab_itT, ↓ab_itF, ab_anT, ab_w32_id, ab_rdf_ne, ab_rdw_ne, ab_rdw_eq, ab_rdf_in, ab_td2, ab_tm2]
  all_goals exact key
theorem sp_goTo (hg : ab_Geo σ) (hH : ac_H σ κ na pa nm pm) (hk : 0 ≤ k ∧ k < nm) (hn : κ 5 0 ≤ 5) (hQ : ∀ τ, ab_Same (fun a f => ac_PS 31 a f ∨ (a = 36 ∧ f = 3)) σ τ → ac_H τ κ 0 pa nm pm → ac_St τ 31 κ (pm k) → Q none τ) : ab_Do X 25 [ab_R 36, ab_I k, ab_R 31] σ Q := by
  obtain ⟨h1, h2, h3, h4, h5, h6, h7, h8⟩ := hH
  have so31 : ac_so 31 := Or.inl rfl
  obtain ⟨r1, r2⟩ := hg.mrk (i := k) (by omega)
  have c1 := fun Q' => sp_become (X := X) (Q := Q') hg so31 r2 (by omega) (h8 _ r2)
  have hd := ac_so_d so31 r2 (by omega)
  have bs := ac_bc_same (σ := σ) (S := 31) (O := 119 + 5 * k)
  have bSt := ac_bc_St hd (h7 k hk.1 hk.2) hn
  have bGZ := ac_bc_GZ hd (h8 _ r2)
  have e36 : ∀ f, ab_rd (ac_bc σ 31 (119 + 5 * k)) 36 f = ab_rd σ 36 f := fun f => bs.2.2 36 f (by unfold ac_PS; omega)
  have gb := hg.same bs (ac_PS_pt so31)
  have sR := (hg.st r2).2.1
  have w1 : ab_Same (fun a f => ac_PS 31 a f ∨ (a = 36 ∧ f = 3)) σ (ab_wr (ac_bc σ 31 (119 + 5 * k)) 36 3 0) := (bs.mono (fun _ _ u => Or.inl u)).wr (Or.inr (by omega))
  have w2 : ab_Same (fun a f => a = 36) (ac_bc σ 31 (119 + 5 * k)) (ab_wr (ac_bc σ 31 (119 + 5 * k)) 36 3 0) := (ab_Same.refl (P := fun a f => a = 36)).wr rfl
  have n36 : ∀ S a f, ac_so S → ac_PS S a f → ¬ a = 36 := fun S a f hS u e => by
    unfold ac_PS at u
    rcases hS with z | ⟨j, z1, z2⟩ <;> omega
  have key := hQ _ w1 ⟨by rw [ab_rdw_ne (by omega), e36]; exact h1, by rw [ab_rdw_eq], by rw [ab_rdw_ne (by omega), e36, h3], by omega, h5, fun i i1 i2 => by omega, fun i i1 i2 => (h7 i i1 i2).sameG hn w1 (fun a f u u2 => by
    have hS : ac_so (119 + 5 * i) := Or.inr ⟨16 + i.toNat, by omega, by omega⟩
    rcases u2 with u2 | u2
    · have := ac_so_d hS so31 (by omega)
      unfold ac_PS at u u2
      omega
    · exact n36 _ a f hS u u2.1), fun S hS => by
    by_cases z : S = 31
    · rw [z]; exact bGZ.sameG w2 (fun a f u => n36 _ a f so31 u)
    · refine (h8 S hS).sameG w1 (fun a f u u2 => ?_)
      rcases u2 with u2 | u2
      · have := ac_so_d hS so31 z
        unfold ac_PS at u u2
        omega
      · exact n36 S a f hS u u2.1⟩ (bSt.sameG hn w2 (fun a f u => n36 _ a f so31 u))
  clear h6 h7 h8 bSt bGZ bs hQ hd e36 w1 w2 n36
  simp (disch := omega) only [do_X3_goTo, rX3_goTo_0, rX3_goTo_1, rX3_goTo_2, rX3_goTo_5, rX3_goTo_6, rX3_goTo_7, rX3_goTo_10, rX3_goTo_11, rX3_goTo_12, rX3_goTo_15, gS_36, gP_36_1, gS_31, gS_38, hg, gb, r1, sR, c1, ne_eq, not_false_eq_true, not_true_eq_false, true_and, and_true, and_self, true_imp_iff, false_imp_iff, imp_self, Bool.not_false, Bool.not_true, reduceCtorEq, ab_isJ, ab_psh, ab_cats, Bool.false_eq_true, if_true, if_false, ab_shf, ab_shw, Int.le_refl, Classical.not_not, Int.zero_add, forall_const, ↓ab_itT, ↓ab_itF, ab_anT, ab_w32_id, ab_rdf_ne, ab_rdw_ne, ab_rdw_eq, ab_rdf_in, ab_td2, ab_tm2]
  all_goals exact key
end
