/-! FEED, both sides -/
theorem ac_shbv (y : BitVec 32) {n : Nat} (hn : n = 24 ∨ n = 16 ∨ n = 8 ∨ n = 0) : ((y >>> n).toInt + 128) % 256 - 128 = ((y.sshiftRight n).toInt + 128) % 256 - 128 := by
  rw [BitVec.toInt_sshiftRight, BitVec.toInt_eq_toNat_cond, BitVec.toInt_eq_toNat_cond, BitVec.toNat_ushiftRight, Nat.shiftRight_eq_div_pow, Int.shiftRight_eq_div_pow]
  have := y.isLt
  rcases hn with rfl | rfl | rfl | rfl <;> split <;> split <;> omega
theorem ac_shb {a s : Int} (hs : s = 24 ∨ s = 16 ∨ s = 8 ∨ s = 0) : ab_w8 (ab_ok32 (fun x y => (x.toUInt32 >>> (y.toUInt32 &&& Int32.toUInt32 31)).toInt32) a s) = ab_w8 (ab_ok32 (fun x y => x >>> (y &&& 31)) a s) := by
  unfold ab_ok32 ab_w8
  generalize Int32.ofInt a = x
  rcases hs with rfl | rfl | rfl | rfl
  · exact ac_shbv x.toBitVec (n := 24) (Or.inl rfl)
  · exact ac_shbv x.toBitVec (n := 16) (Or.inr (Or.inl rfl))
  · exact ac_shbv x.toBitVec (n := 8) (Or.inr (Or.inr (Or.inl rfl)))
  · exact ac_shbv x.toBitVec (n := 0) (Or.inr (Or.inr (Or.inr rfl)))
/-- a byte of an int -/
def ac_by (x s : Int) : Int := ab_w8 (ab_ok32 (fun x y => x >>> (y &&& 31)) x s)
theorem ab_w8w {x : Int} : ab_w8 (ab_w8 x) = ab_w8 x := ab_w8_id (ab_w8_rng x).1 (ab_w8_rng x).2
theorem ac_by1 {x s : Int} (hs : s = 24 ∨ s = 16 ∨ s = 8 ∨ s = 0) : ab_w8 (ab_ok32 (fun x y => (x.toUInt32 >>> (y.toUInt32 &&& Int32.toUInt32 31)).toInt32) x s) = ac_by x s := ac_shb hs
theorem ac_by2 {x s : Int} : ab_w8 (ab_ok32 (fun x y => x >>> (y &&& 31)) x s) = ac_by x s := rfl
theorem ac_by8 {x s : Int} : ab_w8 (ac_by x s) = ac_by x s := ab_w8w
/-- what is fed -/
def ac_fx (x1 x2 x3 x4 x5 i : Int) : Int := if i < 4 then x1 else if i < 8 then x2 else if i < 12 then x3 else if i < 16 then x4 else x5
def ac_fg (x1 x2 x3 x4 x5 i : Int) : Int := ac_by (ac_fx x1 x2 x3 x4 x5 i) (24 - 8 * (i % 4))
def ac_ftp (tp : Int → Int) (ln x1 x2 x3 x4 x5 : Int) : Int → Int := fun i => if ln ≤ i ∧ i < ln + 20 then ac_fg x1 x2 x3 x4 x5 (i - ln) else tp i
/-- the class's tape; the reference's -/
def ac_TC (σ : ab_S) (ln : Int) (tp : Int → Int) : Prop := ab_rd σ 3 1 = ln ∧ (0 ≤ ln ∧ ln ≤ 1000) ∧ ∀ i, 0 ≤ i → i < ln → ab_rd σ 4 i = tp i
def ac_TM (σ : ab_S) (ln : Int) (tp : Int → Int) : Prop := ab_rd σ 355 6 = ln ∧ (0 ≤ ln ∧ ln ≤ 1000) ∧ ∀ i, 0 ≤ i → i < ln → ab_rd σ 356 i = tp i
section
variable {X : ab_X} {σ τ υ : ab_S} {Q : Option ab_V → ab_S → Prop} {K M ln x x1 x2 x3 x4 x5 n i : Int} {tp : Int → Int} {κ : ac_K}
theorem sp_hasRoom (hg : ab_Geo σ) (h1 : ab_rd σ 3 1 = ln) (hl : 0 ≤ ln ∧ ln ≤ 1000) (hn : 0 ≤ n ∧ n ≤ 20) : ab_Do X 67 [ab_R 3, ab_I n] σ Q ↔ Q (some (ab_I (if ln + n ≤ 1000 then 1 else 0))) σ := by
  by_cases z : ln + n ≤ 1000
  · rw [if_pos z]
    simp (disch := omega) only [do_X9_hasRoom, rX9_hasRoom_0, rX9_hasRoom_1, rX9_hasRoom_4, rX9_hasRoom_5, rX9_hasRoom_6, rX9_hasRoom_7, rX9_hasRoom_10, rX9_hasRoom_11, rX9_hasRoom_14, rX9_hasRoom_15, rX9_hasRoom_18, rX9_hasRoom_19, gS_3, gP_3_0, gS_4, hg, h1, ab_w32_id, ne_eq, not_false_eq_true, not_true_eq_false, true_and, and_true, and_self, true_imp_iff, false_imp_iff, imp_self, Bool.not_false, Bool.not_true, reduceCtorEq, ab_isJ, ab_psh, ab_cats, Bool.false_eq_true, if_true, if_false, ab_shf, ab_shw, Int.le_refl, Classical.not_not, Int.zero_add, forall_const, ↓ab_itT, ↓ab_itF, ab_anT, ab_w32_id, ab_rdf_ne, ab_rdw_ne, ab_rdw_eq, ab_rdf_in, ab_td2, ab_tm2, or_true, true_or]
  · rw [if_neg z]
    simp (disch := omega) only [do_X9_hasRoom, rX9_hasRoom_0, rX9_hasRoom_1, rX9_hasRoom_4, rX9_hasRoom_5, rX9_hasRoom_6, rX9_hasRoom_7, rX9_hasRoom_10, rX9_hasRoom_11, rX9_hasRoom_14, rX9_hasRoom_15, rX9_hasRoom_18, rX9_hasRoom_19, gS_3, gP_3_0, gS_4, hg, h1, ab_w32_id, ne_eq, not_false_eq_true, not_true_eq_false, true_and, and_true, and_self, true_imp_iff, false_imp_iff, imp_self, Bool.not_false, Bool.not_true, reduceCtorEq, ab_isJ, ab_psh, ab_cats, Bool.false_eq_true, if_true, if_false, ab_shf, ab_shw, Int.le_refl, Classical.not_not, Int.zero_add, forall_const, ↓ab_itT, ↓ab_itF, ab_anT, ab_w32_id, ab_rdf_ne, ab_rdw_ne, ab_rdw_eq, ab_rdf_in, ab_td2, ab_tm2, or_true, true_or]
theorem sp_add (hg : ab_Geo σ) (h1 : ab_rd σ 3 1 = ln) (hl : 0 ≤ ln ∧ ln ≤ 996) : ab_Do X 68 [ab_R 3, ab_I x] σ Q ↔ Q none (ab_wr (ab_wr (ab_wr (ab_wr (ab_wr (ab_wr (ab_wr (ab_wr σ 4 ln (ac_by x 24)) 3 1 (ln + 1)) 4 (ln + 1) (ac_by x 16)) 3 1 (ln + 1 + 1)) 4 (ln + 1 + 1) (ac_by x 8)) 3 1 (ln + 1 + 1 + 1)) 4 (ln + 1 + 1 + 1) (ac_by x 0)) 3 1 (ln + 1 + 1 + 1 + 1)) := by
  have c := fun Q' => sp_hasRoom (X := X) (Q := Q') (n := 4) hg h1 (by omega) (by omega)
  rw [if_pos (by omega)] at c
  have hz := gS_4 hg
  simp (disch := first | omega | (simp only [ab_shw, hz, true_and, and_true, or_true, true_or, and_self]; omega)) only [do_X9_add, rX9_add_0, rX9_add_1, rX9_add_2, rX9_add_5, rX9_add_8, rX9_add_10, rX9_add_11, rX9_add_12, rX9_add_15, rX9_add_16, rX9_add_19, rX9_add_20, rX9_add_23, rX9_add_24, rX9_add_25, rX9_add_26, rX9_add_27B, rX9_add_27Z, rX9_add_28, rX9_add_29I, rX9_add_29R, rX9_add_30, rX9_add_33, rX9_add_34, rX9_add_35, rX9_add_38, rX9_add_41, rX9_add_44, rX9_add_27B, gS_3, gP_3_0, hg, h1, c, ac_by1, ac_by8, ab_w32_id, ne_eq, not_false_eq_true, not_true_eq_false, true_and, and_true, and_self, true_imp_iff, false_imp_iff, imp_self, Bool.not_false, Bool.not_true, reduceCtorEq, ab_isJ, ab_psh, ab_cats, Bool.false_eq_true, if_true, if_false, ab_shf, ab_shw, Int.le_refl, Classical.not_not, Int.zero_add, forall_const, ↓ab_itT, ↓ab_itF, ab_anT, ab_w32_id, ab_rdf_ne, ab_rdw_ne, ab_rdw_eq, ab_rdf_in, ab_td2, ab_tm2]
  exact Iff.rfl
def ac_PA : Int → Int → Prop := fun a f => a = 4 ∨ (a = 3 ∧ f = 1)
theorem ac_PA_T : ab_ptL.getD 4 [] = [] ∧ ab_pt 3 1 = 0 := by decide +kernel
theorem ac_PA_pt : ∀ a f, 0 ≤ a → a ≤ 368 → 0 ≤ f → ac_PA a f → ab_pt a f = 0 := by
  intro a f h1 h2 h3 hp
  rcases hp with rfl | ⟨rfl, rfl⟩
  · exact ab_pt_nil ac_PA_T.1
  · exact ac_PA_T.2
def ac_atp (tp : Int → Int) (ln x : Int) : Int → Int := fun i => if ln ≤ i ∧ i < ln + 4 then ac_by x (24 - 8 * (i - ln)) else tp i
theorem sp_addC (hg : ab_Geo σ) (hT : ac_TC σ ln tp) (hl : ln ≤ 996) (hQ : ∀ τ, ab_Same ac_PA σ τ → ab_Geo τ → ac_TC τ (ln + 4) (ac_atp tp ln x) → Q none τ) : ab_Do X 68 [ab_R 3, ab_I x] σ Q := by
  obtain ⟨h1, h2, h3⟩ := hT
  rw [sp_add hg h1 (by omega)]
  have s : ab_Same ac_PA σ (ab_wr (ab_wr (ab_wr (ab_wr (ab_wr (ab_wr (ab_wr (ab_wr σ 4 ln (ac_by x 24)) 3 1 (ln + 1)) 4 (ln + 1) (ac_by x 16)) 3 1 (ln + 1 + 1)) 4 (ln + 1 + 1) (ac_by x 8)) 3 1 (ln + 1 + 1 + 1)) 4 (ln + 1 + 1 + 1) (ac_by x 0)) 3 1 (ln + 1 + 1 + 1 + 1)) := (((((((ab_Same.refl.wr (Or.inl rfl)).wr (Or.inr ⟨rfl, rfl⟩)).wr (Or.inl rfl)).wr (Or.inr ⟨rfl, rfl⟩)).wr (Or.inl rfl)).wr (Or.inr ⟨rfl, rfl⟩)).wr (Or.inl rfl)).wr (Or.inr ⟨rfl, rfl⟩)
  refine hQ _ s (hg.same s ac_PA_pt) ⟨by rw [ab_rdw_eq]; omega, by omega, fun i i1 i2 => ?_⟩
  unfold ac_atp
  by_cases z : ln ≤ i
  · rw [if_pos ⟨z, i2⟩]
    have : i = ln ∨ i = ln + 1 ∨ i = ln + 1 + 1 ∨ i = ln + 1 + 1 + 1 := by omega
    rcases this with rfl | rfl | rfl | rfl
    · rw [show 24 - 8 * (i - i) = 24 by omega]
      simp (disch := omega) only [ab_rdw_ne, ab_rdw_eq]
    · rw [show 24 - 8 * (ln + 1 - ln) = 16 by omega]
      simp (disch := omega) only [ab_rdw_ne, ab_rdw_eq]
    · rw [show 24 - 8 * (ln + 1 + 1 - ln) = 8 by omega]
      simp (disch := omega) only [ab_rdw_ne, ab_rdw_eq]
    · rw [show 24 - 8 * (ln + 1 + 1 + 1 - ln) = 0 by omega]
      simp (disch := omega) only [ab_rdw_ne, ab_rdw_eq]
  · rw [if_neg (fun u => z u.1), ← h3 i i1 (by omega)]
    simp (disch := omega) only [ab_rdw_ne]
theorem ac_TC.congr {tp' : Int → Int} (h : ac_TC σ ln tp) (e : ∀ i, 0 ≤ i → i < ln → tp i = tp' i) : ac_TC σ ln tp' := ⟨h.1, h.2.1, fun i i1 i2 => by rw [h.2.2 i i1 i2, e i i1 i2]⟩
theorem ac_atp5 (i : Int) (hl : 0 ≤ ln) (hi : i < ln + 20) : ac_atp (ac_atp (ac_atp (ac_atp (ac_atp tp ln x1) (ln + 4) x2) (ln + 4 + 4) x3) (ln + 4 + 4 + 4) x4) (ln + 4 + 4 + 4 + 4) x5 i = ac_ftp tp ln x1 x2 x3 x4 x5 i := by
  unfold ac_ftp
  by_cases z : ln ≤ i
  · rw [if_pos ⟨z, hi⟩]
    obtain ⟨j, rfl⟩ : ∃ j, i = ln + j := ⟨i - ln, by omega⟩
    rw [show ln + j - ln = j by omega]
    unfold ac_fg ac_fx
    by_cases z1 : j < 4
    · rw [if_pos z1]
      unfold ac_atp
      rw [if_neg (by omega), if_neg (by omega), if_neg (by omega), if_neg (by omega), if_pos (by omega)]
      congr 1; omega
    · rw [if_neg z1]
      by_cases z2 : j < 8
      · rw [if_pos z2]
        unfold ac_atp
        rw [if_neg (by omega), if_neg (by omega), if_neg (by omega), if_pos (by omega)]
        congr 1; omega
      · rw [if_neg z2]
        by_cases z3 : j < 12
        · rw [if_pos z3]
          unfold ac_atp
          rw [if_neg (by omega), if_neg (by omega), if_pos (by omega)]
          congr 1; omega
        · rw [if_neg z3]
          by_cases z4 : j < 16
          · rw [if_pos z4]
            unfold ac_atp
            rw [if_neg (by omega), if_pos (by omega)]
            congr 1; omega
          · rw [if_neg z4]
            unfold ac_atp
            rw [if_pos (by omega)]
            congr 1; omega
  · rw [if_neg (fun u => z u.1)]
    unfold ac_atp
    rw [if_neg (by omega), if_neg (by omega), if_neg (by omega), if_neg (by omega), if_neg (by omega)]
theorem ca_feed (hg : ab_Geo σ) (hT : ac_TC σ ln tp) (hQ1 : ¬ ln + 20 ≤ 1000 → Q (some (ab_I (-1))) σ) (hQ0 : ln + 20 ≤ 1000 → ∀ τ, ab_Same ac_PA σ τ → ac_TC τ (ln + 20) (ac_ftp tp ln x1 x2 x3 x4 x5) → Q (some (ab_I (ln + 20))) τ) : ab_Do X 80 [ab_R 1, ab_I x1, ab_I x2, ab_I x3, ab_I x4, ab_I x5] σ Q := by
  have c := fun Q' => sp_hasRoom (X := X) (Q := Q') (n := 20) hg hT.1 hT.2.1 (by omega)
  have hl := hT.2.1
  by_cases z : ln + 20 ≤ 1000
  · rw [if_pos z] at c
    simp (disch := omega) only [do_X11_feed, rX11_feed_0, rX11_feed_1, rX11_feed_4, rX11_feed_7, rX11_feed_9, rX11_feed_11, rX11_feed_13, rX11_feed_16, rX11_feed_19, rX11_feed_20, rX11_feed_21, rX11_feed_23, rX11_feed_24, gS_1, gP_1_0, gS_2, gP_2_0, gS_3, hg, c, ne_eq, not_false_eq_true, not_true_eq_false, true_and, and_true, and_self, true_imp_iff, false_imp_iff, imp_self, Bool.not_false, Bool.not_true, reduceCtorEq, ab_isJ, ab_psh, ab_cats, Bool.false_eq_true, if_true, if_false, ab_shf, ab_shw, Int.le_refl, Classical.not_not, Int.zero_add, forall_const, ↓ab_itT, ↓ab_itF, ab_anT, ab_w32_id, ab_rdf_ne, ab_rdw_ne, ab_rdw_eq, ab_rdf_in, ab_td2, ab_tm2]
    refine sp_addC hg hT (by omega) (fun σ1 s1 g1 t1 => ?_)
    simp (disch := omega) only [rX11_feed_27, rX11_feed_29, rX11_feed_30, gS_3, g1, ne_eq, not_false_eq_true, not_true_eq_false, true_and, and_true, and_self, true_imp_iff, false_imp_iff, imp_self, Bool.not_false, Bool.not_true, reduceCtorEq, ab_isJ, ab_psh, ab_cats, Bool.false_eq_true, if_true, if_false, ab_shf, ab_shw, Int.le_refl, Classical.not_not, Int.zero_add, forall_const, ↓ab_itT, ↓ab_itF, ab_anT, ab_w32_id, ab_rdf_ne, ab_rdw_ne, ab_rdw_eq, ab_rdf_in, ab_td2, ab_tm2]
    refine sp_addC g1 t1 (by omega) (fun σ2 s2 g2 t2 => ?_)
    simp (disch := omega) only [rX11_feed_33, rX11_feed_35, rX11_feed_36, gS_3, g2, ne_eq, not_false_eq_true, not_true_eq_false, true_and, and_true, and_self, true_imp_iff, false_imp_iff, imp_self, Bool.not_false, Bool.not_true, reduceCtorEq, ab_isJ, ab_psh, ab_cats, Bool.false_eq_true, if_true, if_false, ab_shf, ab_shw, Int.le_refl, Classical.not_not, Int.zero_add, forall_const, ↓ab_itT, ↓ab_itF, ab_anT, ab_w32_id, ab_rdf_ne, ab_rdw_ne, ab_rdw_eq, ab_rdf_in, ab_td2, ab_tm2]
    refine sp_addC g2 t2 (by omega) (fun σ3 s3 g3 t3 => ?_)
    simp (disch := omega) only [rX11_feed_39, rX11_feed_41, rX11_feed_43, gS_3, g3, ne_eq, not_false_eq_true, not_true_eq_false, true_and, and_true, and_self, true_imp_iff, false_imp_iff, imp_self, Bool.not_false, Bool.not_true, reduceCtorEq, ab_isJ, ab_psh, ab_cats, Bool.false_eq_true, if_true, if_false, ab_shf, ab_shw, Int.le_refl, Classical.not_not, Int.zero_add, forall_const, ↓ab_itT, ↓ab_itF, ab_anT, ab_w32_id, ab_rdf_ne, ab_rdw_ne, ab_rdw_eq, ab_rdf_in, ab_td2, ab_tm2]
    refine sp_addC g3 t3 (by omega) (fun σ4 s4 g4 t4 => ?_)
    simp (disch := omega) only [rX11_feed_46, rX11_feed_48, rX11_feed_50, gS_3, g4, ne_eq, not_false_eq_true, not_true_eq_false, true_and, and_true, and_self, true_imp_iff, false_imp_iff, imp_self, Bool.not_false, Bool.not_true, reduceCtorEq, ab_isJ, ab_psh, ab_cats, Bool.false_eq_true, if_true, if_false, ab_shf, ab_shw, Int.le_refl, Classical.not_not, Int.zero_add, forall_const, ↓ab_itT, ↓ab_itF, ab_anT, ab_w32_id, ab_rdf_ne, ab_rdw_ne, ab_rdw_eq, ab_rdf_in, ab_td2, ab_tm2]
    refine sp_addC g4 t4 (by omega) (fun σ5 s5 g5 t5 => ?_)
    have e1 := t5.1
    have e20 : ln + 4 + 4 + 4 + 4 + 4 = ln + 20 := by omega
    rw [e20] at t5 e1
    have key := hQ0 z σ5 ((((s1.trans s2).trans s3).trans s4).trans s5) (t5.congr (fun i i1 i2 => ac_atp5 i hl.1 i2))
    clear hQ0 hQ1 t5 t4 t3 t2 t1
    simp (disch := omega) only [rX11_feed_53, rX11_feed_55, rX11_feed_58, gS_3, g5, e1, ne_eq, not_false_eq_true, not_true_eq_false, true_and, and_true, and_self, true_imp_iff, false_imp_iff, imp_self, Bool.not_false, Bool.not_true, reduceCtorEq, ab_isJ, ab_psh, ab_cats, Bool.false_eq_true, if_true, if_false, ab_shf, ab_shw, Int.le_refl, Classical.not_not, Int.zero_add, forall_const, ↓ab_itT, ↓ab_itF, ab_anT, ab_w32_id, ab_rdf_ne, ab_rdw_ne, ab_rdw_eq, ab_rdf_in, ab_td2, ab_tm2]
    all_goals exact key
  · rw [if_neg z] at c
    have key := hQ1 z
    simp (disch := omega) only [do_X11_feed, rX11_feed_0, rX11_feed_1, rX11_feed_4, rX11_feed_7, rX11_feed_9, rX11_feed_11, rX11_feed_13, rX11_feed_16, rX11_feed_19, rX11_feed_20, gS_1, gP_1_0, gS_2, gP_2_0, gS_3, hg, c, ne_eq, not_false_eq_true, not_true_eq_false, true_and, and_true, and_self, true_imp_iff, false_imp_iff, imp_self, Bool.not_false, Bool.not_true, reduceCtorEq, ab_isJ, ab_psh, ab_cats, Bool.false_eq_true, if_true, if_false, ab_shf, ab_shw, Int.le_refl, Classical.not_not, Int.zero_add, forall_const, ↓ab_itT, ↓ab_itF, ab_anT, ab_w32_id, ab_rdf_ne, ab_rdw_ne, ab_rdw_eq, ab_rdf_in, ab_td2, ab_tm2]
    all_goals exact key
end
