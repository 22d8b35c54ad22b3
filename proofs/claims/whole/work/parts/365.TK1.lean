/-! TOKENS: pure, and the class's -/
def ac_ru (lo hi : Int) (tp : Int → Int) (n : Int) : Nat → Int → Int
  | 0, p => p
  | f + 1, p => if p < n ∧ lo ≤ tp p ∧ tp p ≤ hi then ac_ru lo hi tp n f (p + 1) else p
def ac_run (lo hi : Int) (tp : Int → Int) (n p : Int) : Int := ac_ru lo hi tp n (n - p).toNat p
/-- a token from p on: where it starts, its kind, where it ends, its number, its word (27, 32) -/
def ac_kst (tp : Int → Int) (n p : Int) : Int := ac_run 32 32 tp n p
def ac_kk (tp : Int → Int) (n s : Int) : Int := if n ≤ s then 0 else if 97 ≤ tp s ∧ tp s ≤ 122 then (if ac_run 97 122 tp n s - s ≤ 8 then 2 else 1) else if 48 ≤ tp s ∧ tp s ≤ 57 then (if ac_run 48 57 tp n s - s ≤ 2 then 3 else 1) else if tp s = 59 then 4 else if tp s = 44 then 5 else 1
def ac_ke (tp : Int → Int) (n s : Int) : Int := if n ≤ s then n else if 97 ≤ tp s ∧ tp s ≤ 122 then ac_run 97 122 tp n s else if 48 ≤ tp s ∧ tp s ≤ 57 then ac_run 48 57 tp n s else s + 1
def ac_kw (q : Int) (tp : Int → Int) (m : Nat) (s x : Int) : Int := ab_it (fun i x => ab_w64 (ab_w64 (q * x) + (tp i - 97 + 1))) m s x
def ac_kv (tp : Int → Int) (m : Nat) (s x : Int) : Int := ab_it (fun i x => ab_w32 (ab_w32 (10 * x) + (tp i - 48))) m s x
section
variable {lo hi n p s x : Int} {tp : Int → Int}
theorem ac_ru_b : ∀ (f : Nat) (p : Int), p + f = n → p ≤ ac_ru lo hi tp n f p ∧ ac_ru lo hi tp n f p ≤ n := by
  intro f
  induction f with
  | zero => intro p hp; unfold ac_ru; omega
  | succ f ih =>
    intro p hp
    unfold ac_ru
    have := ih (p + 1) (by omega)
    split <;> omega
theorem ac_run_b (hp : p ≤ n) : p ≤ ac_run lo hi tp n p ∧ ac_run lo hi tp n p ≤ n := ac_ru_b _ p (by omega)
end
/-- the tape opened to n -/
def ac_TO (σ : ab_S) (n : Int) (tp : Int → Int) : Prop := ab_Geo σ ∧ ab_rd σ 3 7 = n ∧ (0 ≤ n ∧ n ≤ 1000) ∧ (∀ i, 0 ≤ i → i < n → ab_rd σ 4 i = tp i ∧ -128 ≤ tp i ∧ tp i ≤ 127)
def ac_PK9 : Int → Int → Prop := fun a f => a = 3 ∧ 2 ≤ f ∧ f ≤ 6
theorem ac_PK9_T : ab_ptL.getD 3 [] = [4] := by decide +kernel
theorem ac_PK9_pt : ∀ a f, 0 ≤ a → a ≤ 368 → 0 ≤ f → ac_PK9 a f → ab_pt a f = 0 := by
  intro a f h1 h2 h3 hp
  obtain ⟨rfl, q1, q2⟩ := hp
  unfold ab_pt
  rw [show (3 : Int).toNat = 3 from rfl, ac_PK9_T]
  exact ac_getD_ge (by rw [List.length_cons, List.length_nil]; omega)
section
variable {X : ab_X} {σ τ υ : ab_S} {Q : Option ab_V → ab_S → Prop} {n p s x t i : Int} {tp : Int → Int} {l1 : ab_V}
theorem ac_TO.same (h : ac_TO σ n tp) (hs : ab_Same ac_PK9 σ τ) : ac_TO τ n tp := by
  obtain ⟨h1, h2, h3, h4⟩ := h
  exact ⟨h1.same hs ac_PK9_pt, by rw [hs.2.2 3 7 (by unfold ac_PK9; omega), h2], h3, fun i i1 i2 => by rw [hs.2.2 4 i (by unfold ac_PK9; omega)]; exact h4 i i1 i2⟩
theorem sp_word_l (h : ac_TO σ n tp) : ∀ (f : Nat) (i x : Int), 0 ≤ i → i + f = n → (ab_Run X 71 10 (0, 0, 0) [ab_R 3, ab_I i] [] (ab_wr σ 3 5 x) Q ↔ ab_Run X 71 71 (0, 0, 0) [ab_R 3, ab_I (ac_ru 97 122 tp n f i)] [] (ab_wr σ 3 5 (ac_kw 27 tp (ac_ru 97 122 tp n f i - i).toNat i x)) Q) := by
  obtain ⟨g, h7, hn, h4⟩ := h
  intro f
  induction f with
  | zero =>
    intro i x hi hf
    unfold ac_ru
    rw [show (i - i).toNat = 0 by omega]
    unfold ac_kw ab_it
    rw [rX9_takeWord_10]
    simp (disch := omega) only [rX9_takeWord_11, rX9_takeWord_12, rX9_takeWord_15, gS_3, g, h7, ne_eq, not_false_eq_true, not_true_eq_false, true_and, and_true, and_self, true_imp_iff, false_imp_iff, imp_self, Bool.not_false, Bool.not_true, reduceCtorEq, ab_isJ, ab_psh, ab_cats, Bool.false_eq_true, if_true, if_false, ab_shf, ab_shw, Int.le_refl, Classical.not_not, Int.zero_add, forall_const, ↓ab_itT, ↓ab_itF, ab_anT, ab_w32_id, ab_rdf_ne, ab_rdw_ne, ab_rdw_eq, ab_rdf_in, ab_td2, ab_tm2, true_or, or_true]
  | succ f ih =>
    intro i x hi hf
    obtain ⟨e4, t1, t2⟩ := h4 i hi (by omega)
    rw [rX9_takeWord_10]
    unfold ac_ru
    by_cases z1 : 97 ≤ tp i
    · by_cases z2 : tp i ≤ 122
      · rw [if_pos ⟨by omega, z1, z2⟩]
        have rb := ac_ru_b (lo := 97) (hi := 122) (tp := tp) (n := n) f (i + 1) (by omega)
        have key := ih (i + 1) (ab_w64 (ab_w64 (27 * x) + (tp i - 97 + 1))) (by omega) (by omega)
        rw [show (ac_ru 97 122 tp n f (i + 1) - i).toNat = (ac_ru 97 122 tp n f (i + 1) - (i + 1)).toNat + 1 by omega]
        show _ ↔ ab_Run X 71 71 (0, 0, 0) [ab_R 3, ab_I (ac_ru 97 122 tp n f (i + 1))] [] (ab_wr σ 3 5 (ac_kw 27 tp (ac_ru 97 122 tp n f (i + 1) - (i + 1)).toNat (i + 1) (ab_w64 (ab_w64 (27 * x) + (tp i - 97 + 1))))) Q
        rw [← key]
        clear key ih h4
        simp (disch := omega) only [rX9_takeWord_11, rX9_takeWord_12, rX9_takeWord_15, rX9_takeWord_18, rX9_takeWord_19, rX9_takeWord_22, rX9_takeWord_23, rX9_takeWord_24, rX9_takeWord_26, rX9_takeWord_29, rX9_takeWord_30, rX9_takeWord_33, rX9_takeWord_34, rX9_takeWord_35, rX9_takeWord_37, rX9_takeWord_40, rX9_takeWord_41, rX9_takeWord_44, rX9_takeWord_45, rX9_takeWord_48, rX9_takeWord_49, rX9_takeWord_50, rX9_takeWord_53, rX9_takeWord_54, rX9_takeWord_55, rX9_takeWord_57, rX9_takeWord_58, rX9_takeWord_59, rX9_takeWord_60, rX9_takeWord_61, rX9_takeWord_62, rX9_takeWord_65, rX9_takeWord_68, gS_3, gP_3_0, gS_4, g, h7, e4, ab_w32_id, ab_ww, ne_eq, not_false_eq_true, not_true_eq_false, true_and, and_true, and_self, true_imp_iff, false_imp_iff, imp_self, Bool.not_false, Bool.not_true, reduceCtorEq, ab_isJ, ab_psh, ab_cats, Bool.false_eq_true, if_true, if_false, ab_shf, ab_shw, Int.le_refl, Classical.not_not, Int.zero_add, forall_const, ↓ab_itT, ↓ab_itF, ab_anT, ab_w32_id, ab_rdf_ne, ab_rdw_ne, ab_rdw_eq, ab_rdf_in, ab_td2, ab_tm2, true_or, or_true]
      · rw [if_neg (fun u => z2 u.2.2), show (i - i).toNat = 0 by omega]
        unfold ac_kw ab_it
        clear ih h4
        simp (disch := omega) only [rX9_takeWord_11, rX9_takeWord_12, rX9_takeWord_15, rX9_takeWord_18, rX9_takeWord_19, rX9_takeWord_22, rX9_takeWord_23, rX9_takeWord_24, rX9_takeWord_26, rX9_takeWord_29, rX9_takeWord_30, rX9_takeWord_33, rX9_takeWord_34, rX9_takeWord_35, rX9_takeWord_37, gS_3, gP_3_0, gS_4, g, h7, e4, ne_eq, not_false_eq_true, not_true_eq_false, true_and, and_true, and_self, true_imp_iff, false_imp_iff, imp_self, Bool.not_false, Bool.not_true, reduceCtorEq, ab_isJ, ab_psh, ab_cats, Bool.false_eq_true, if_true, if_false, ab_shf, ab_shw, Int.le_refl, Classical.not_not, Int.zero_add, forall_const, ↓ab_itT, ↓ab_itF, ab_anT, ab_w32_id, ab_rdf_ne, ab_rdw_ne, ab_rdw_eq, ab_rdf_in, ab_td2, ab_tm2, true_or, or_true]
    · rw [if_neg (fun u => z1 u.2.1), show (i - i).toNat = 0 by omega]
      unfold ac_kw ab_it
      clear ih h4
      simp (disch := omega) only [rX9_takeWord_11, rX9_takeWord_12, rX9_takeWord_15, rX9_takeWord_18, rX9_takeWord_19, rX9_takeWord_22, rX9_takeWord_23, rX9_takeWord_24, rX9_takeWord_26, rX9_takeWord_29, rX9_takeWord_30, rX9_takeWord_33, rX9_takeWord_34, rX9_takeWord_35, rX9_takeWord_37, gS_3, gP_3_0, gS_4, g, h7, e4, ne_eq, not_false_eq_true, not_true_eq_false, true_and, and_true, and_self, true_imp_iff, false_imp_iff, imp_self, Bool.not_false, Bool.not_true, reduceCtorEq, ab_isJ, ab_psh, ab_cats, Bool.false_eq_true, if_true, if_false, ab_shf, ab_shw, Int.le_refl, Classical.not_not, Int.zero_add, forall_const, ↓ab_itT, ↓ab_itF, ab_anT, ab_w32_id, ab_rdf_ne, ab_rdw_ne, ab_rdw_eq, ab_rdf_in, ab_td2, ab_tm2, true_or, or_true]
theorem sp_whole_l (h : ac_TO σ n tp) : ∀ (f : Nat) (i x : Int), 0 ≤ i → i + f = n → (ab_Run X 72 10 (0, 0, 0) [ab_R 3, ab_I i] [] (ab_wr σ 3 4 x) Q ↔ ab_Run X 72 67 (0, 0, 0) [ab_R 3, ab_I (ac_ru 48 57 tp n f i)] [] (ab_wr σ 3 4 (ac_kv tp (ac_ru 48 57 tp n f i - i).toNat i x)) Q) := by
  obtain ⟨g, h7, hn, h4⟩ := h
  intro f
  induction f with
  | zero =>
    intro i x hi hf
    unfold ac_ru
    rw [show (i - i).toNat = 0 by omega]
    unfold ac_kv ab_it
    rw [rX9_takeWhole_10]
    simp (disch := omega) only [rX9_takeWhole_11, rX9_takeWhole_12, rX9_takeWhole_15, gS_3, g, h7, ne_eq, not_false_eq_true, not_true_eq_false, true_and, and_true, and_self, true_imp_iff, false_imp_iff, imp_self, Bool.not_false, Bool.not_true, reduceCtorEq, ab_isJ, ab_psh, ab_cats, Bool.false_eq_true, if_true, if_false, ab_shf, ab_shw, Int.le_refl, Classical.not_not, Int.zero_add, forall_const, ↓ab_itT, ↓ab_itF, ab_anT, ab_w32_id, ab_rdf_ne, ab_rdw_ne, ab_rdw_eq, ab_rdf_in, ab_td2, ab_tm2, true_or, or_true]
  | succ f ih =>
    intro i x hi hf
    obtain ⟨e4, t1, t2⟩ := h4 i hi (by omega)
    rw [rX9_takeWhole_10]
    unfold ac_ru
    by_cases z1 : 48 ≤ tp i
    · by_cases z2 : tp i ≤ 57
      · rw [if_pos ⟨by omega, z1, z2⟩]
        have rb := ac_ru_b (lo := 48) (hi := 57) (tp := tp) (n := n) f (i + 1) (by omega)
        have key := ih (i + 1) (ab_w32 (ab_w32 (10 * x) + (tp i - 48))) (by omega) (by omega)
        rw [show (ac_ru 48 57 tp n f (i + 1) - i).toNat = (ac_ru 48 57 tp n f (i + 1) - (i + 1)).toNat + 1 by omega]
        show _ ↔ ab_Run X 72 67 (0, 0, 0) [ab_R 3, ab_I (ac_ru 48 57 tp n f (i + 1))] [] (ab_wr σ 3 4 (ac_kv tp (ac_ru 48 57 tp n f (i + 1) - (i + 1)).toNat (i + 1) (ab_w32 (ab_w32 (10 * x) + (tp i - 48))))) Q
        rw [← key]
        clear key ih h4
        have e48 := ab_w32_id (x := tp i - 48) (by omega) (by omega)
        simp (disch := omega) only [rX9_takeWhole_11, rX9_takeWhole_12, rX9_takeWhole_15, rX9_takeWhole_18, rX9_takeWhole_19, rX9_takeWhole_22, rX9_takeWhole_23, rX9_takeWhole_24, rX9_takeWhole_26, rX9_takeWhole_29, rX9_takeWhole_30, rX9_takeWhole_33, rX9_takeWhole_34, rX9_takeWhole_35, rX9_takeWhole_37, rX9_takeWhole_40, rX9_takeWhole_41, rX9_takeWhole_43, rX9_takeWhole_44, rX9_takeWhole_47, rX9_takeWhole_48, rX9_takeWhole_49, rX9_takeWhole_52, rX9_takeWhole_53, rX9_takeWhole_54, rX9_takeWhole_56, rX9_takeWhole_57, rX9_takeWhole_58, rX9_takeWhole_61, rX9_takeWhole_64, gS_3, gP_3_0, gS_4, g, h7, e4, e48, ab_ww, ne_eq, not_false_eq_true, not_true_eq_false, true_and, and_true, and_self, true_imp_iff, false_imp_iff, imp_self, Bool.not_false, Bool.not_true, reduceCtorEq, ab_isJ, ab_psh, ab_cats, Bool.false_eq_true, if_true, if_false, ab_shf, ab_shw, Int.le_refl, Classical.not_not, Int.zero_add, forall_const, ↓ab_itT, ↓ab_itF, ab_anT, ab_w32_id, ab_rdf_ne, ab_rdw_ne, ab_rdw_eq, ab_rdf_in, ab_td2, ab_tm2, true_or, or_true]
      · rw [if_neg (fun u => z2 u.2.2), show (i - i).toNat = 0 by omega]
        unfold ac_kv ab_it
        clear ih h4
        simp (disch := omega) only [rX9_takeWhole_11, rX9_takeWhole_12, rX9_takeWhole_15, rX9_takeWhole_18, rX9_takeWhole_19, rX9_takeWhole_22, rX9_takeWhole_23, rX9_takeWhole_24, rX9_takeWhole_26, rX9_takeWhole_29, rX9_takeWhole_30, rX9_takeWhole_33, rX9_takeWhole_34, rX9_takeWhole_35, rX9_takeWhole_37, gS_3, gP_3_0, gS_4, g, h7, e4, ne_eq, not_false_eq_true, not_true_eq_false, true_and, and_true, and_self, true_imp_iff, false_imp_iff, imp_self, Bool.not_false, Bool.not_true, reduceCtorEq, ab_isJ, ab_psh, ab_cats, Bool.false_eq_true, if_true, if_false, ab_shf, ab_shw, Int.le_refl, Classical.not_not, Int.zero_add, forall_const, ↓ab_itT, ↓ab_itF, ab_anT, ab_w32_id, ab_rdf_ne, ab_rdw_ne, ab_rdw_eq, ab_rdf_in, ab_td2, ab_tm2, true_or, or_true]
    · rw [if_neg (fun u => z1 u.2.1), show (i - i).toNat = 0 by omega]
      unfold ac_kv ab_it
      clear ih h4
      simp (disch := omega) only [rX9_takeWhole_11, rX9_takeWhole_12, rX9_takeWhole_15, rX9_takeWhole_18, rX9_takeWhole_19, rX9_takeWhole_22, rX9_takeWhole_23, rX9_takeWhole_24, rX9_takeWhole_26, rX9_takeWhole_29, rX9_takeWhole_30, rX9_takeWhole_33, rX9_takeWhole_34, rX9_takeWhole_35, rX9_takeWhole_37, gS_3, gP_3_0, gS_4, g, h7, e4, ne_eq, not_false_eq_true, not_true_eq_false, true_and, and_true, and_self, true_imp_iff, false_imp_iff, imp_self, Bool.not_false, Bool.not_true, reduceCtorEq, ab_isJ, ab_psh, ab_cats, Bool.false_eq_true, if_true, if_false, ab_shf, ab_shw, Int.le_refl, Classical.not_not, Int.zero_add, forall_const, ↓ab_itT, ↓ab_itF, ab_anT, ab_w32_id, ab_rdf_ne, ab_rdw_ne, ab_rdw_eq, ab_rdf_in, ab_td2, ab_tm2, true_or, or_true]
/-- a token read: kind, start, end, number, word -/
def ac_KT (σ : ab_S) (n : Int) (tp : Int → Int) (s : Int) : Prop := ab_rd σ 3 2 = ac_kk tp n s ∧ ab_rd σ 3 3 = s ∧ ab_rd σ 3 6 = ac_ke tp n s ∧ (ac_kk tp n s = 3 → ab_rd σ 3 4 = ac_kv tp (ac_ke tp n s - s).toNat s 0) ∧ (ac_kk tp n s = 2 → ab_rd σ 3 5 = ac_kw 27 tp (ac_ke tp n s - s).toNat s 0)
theorem sp_takeWord (h : ac_TO σ n tp) (h3 : ab_rd σ 3 3 = s) (hs : 0 ≤ s ∧ s < n) (hl : 97 ≤ tp s ∧ tp s ≤ 122) (hQ : ∀ τ, ab_Same ac_PK9 σ τ → ac_KT τ n tp s → Q none τ) : ab_Do X 71 [ab_R 3] σ Q := by
  have L := sp_word_l (X := X) (Q := Q) h (n - s).toNat s 0 hs.1 (by omega)
  have rb := ac_run_b (lo := 97) (hi := 122) (tp := tp) (n := n) (p := s) (by omega)
  have ek : ac_ke tp n s = ac_run 97 122 tp n s := by unfold ac_ke; rw [if_neg (by omega), if_pos hl]
  have eK : ac_kk tp n s = if ac_run 97 122 tp n s - s ≤ 8 then 2 else 1 := by unfold ac_kk; rw [if_neg (by omega), if_pos hl]
  rw [show ac_ru 97 122 tp n (n - s).toNat s = ac_run 97 122 tp n s from rfl] at L
  have key := fun kk => hQ (ab_wr (ab_wr (ab_wr σ 3 5 (ac_kw 27 tp (ac_run 97 122 tp n s - s).toNat s 0)) 3 6 (ac_run 97 122 tp n s)) 3 2 kk) (((ab_Same.refl.wr (by unfold ac_PK9; omega)).wr (by unfold ac_PK9; omega)).wr (by unfold ac_PK9; omega))
  have g := h.1
  have nb := h.2.2.1
  have fin : ab_Run X 71 71 (0, 0, 0) [ab_R 3, ab_I (ac_run 97 122 tp n s)] [] (ab_wr σ 3 5 (ac_kw 27 tp (ac_run 97 122 tp n s - s).toNat s 0)) Q := by
    by_cases z : ac_run 97 122 tp n s - s ≤ 8
    · rw [if_pos z] at eK
      have k := key 2 ⟨by rw [ab_rdw_eq, eK], by rw [ab_rdw_ne (by omega), ab_rdw_ne (by omega), ab_rdw_ne (by omega), h3], by rw [ab_rdw_ne (by omega), ab_rdw_eq, ek], fun u => by omega, fun _ => by rw [ab_rdw_ne (by omega), ab_rdw_ne (by omega), ab_rdw_eq, ek]⟩
      clear key hQ L h
      generalize ac_run 97 122 tp n s = r at *
      simp (disch := omega) only [rX9_takeWord_71, rX9_takeWord_72, rX9_takeWord_73, rX9_takeWord_76, rX9_takeWord_77, rX9_takeWord_78, rX9_takeWord_79, rX9_takeWord_82, rX9_takeWord_83, rX9_takeWord_85, rX9_takeWord_88, rX9_takeWord_89, rX9_takeWord_92, rX9_takeWord_93, rX9_takeWord_96, gS_3, g, h3, ab_w32_id, ne_eq, not_false_eq_true, not_true_eq_false, true_and, and_true, and_self, true_imp_iff, false_imp_iff, imp_self, Bool.not_false, Bool.not_true, reduceCtorEq, ab_isJ, ab_psh, ab_cats, Bool.false_eq_true, if_true, if_false, ab_shf, ab_shw, Int.le_refl, Classical.not_not, Int.zero_add, forall_const, ↓ab_itT, ↓ab_itF, ab_anT, ab_w32_id, ab_rdf_ne, ab_rdw_ne, ab_rdw_eq, ab_rdf_in, ab_td2, ab_tm2, true_or, or_true]
      all_goals exact k
    · rw [if_neg z] at eK
      have k := key 1 ⟨by rw [ab_rdw_eq, eK], by rw [ab_rdw_ne (by omega), ab_rdw_ne (by omega), ab_rdw_ne (by omega), h3], by rw [ab_rdw_ne (by omega), ab_rdw_eq, ek], fun u => by omega, fun u => by omega⟩
      clear key hQ L h
      generalize ac_run 97 122 tp n s = r at *
      simp (disch := omega) only [rX9_takeWord_71, rX9_takeWord_72, rX9_takeWord_73, rX9_takeWord_76, rX9_takeWord_77, rX9_takeWord_78, rX9_takeWord_79, rX9_takeWord_82, rX9_takeWord_83, rX9_takeWord_85, rX9_takeWord_88, rX9_takeWord_89, rX9_takeWord_92, rX9_takeWord_93, rX9_takeWord_96, gS_3, g, h3, ab_w32_id, ne_eq, not_false_eq_true, not_true_eq_false, true_and, and_true, and_self, true_imp_iff, false_imp_iff, imp_self, Bool.not_false, Bool.not_true, reduceCtorEq, ab_isJ, ab_psh, ab_cats, Bool.false_eq_true, if_true, if_false, ab_shf, ab_shw, Int.le_refl, Classical.not_not, Int.zero_add, forall_const, ↓ab_itT, ↓ab_itF, ab_anT, ab_w32_id, ab_rdf_ne, ab_rdw_ne, ab_rdw_eq, ab_rdf_in, ab_td2, ab_tm2, true_or, or_true]
      all_goals exact k
  have k2 := L.mpr fin
  clear hQ L h key fin
  simp (disch := omega) only [do_X9_takeWord, rX9_takeWord_0, rX9_takeWord_1, rX9_takeWord_2, rX9_takeWord_5, rX9_takeWord_6, rX9_takeWord_9, gS_3, g, h3, ne_eq, not_false_eq_true, not_true_eq_false, true_and, and_true, and_self, true_imp_iff, false_imp_iff, imp_self, Bool.not_false, Bool.not_true, reduceCtorEq, ab_isJ, ab_psh, ab_cats, Bool.false_eq_true, if_true, if_false, ab_shf, ab_shw, Int.le_refl, Classical.not_not, Int.zero_add, forall_const, ↓ab_itT, ↓ab_itF, ab_anT, ab_w32_id, ab_rdf_ne, ab_rdw_ne, ab_rdw_eq, ab_rdf_in, ab_td2, ab_tm2]
  all_goals exact k2
theorem sp_takeWhole (h : ac_TO σ n tp) (h3 : ab_rd σ 3 3 = s) (hs : 0 ≤ s ∧ s < n) (hl : 48 ≤ tp s ∧ tp s ≤ 57) (hQ : ∀ τ, ab_Same ac_PK9 σ τ → ac_KT τ n tp s → Q none τ) : ab_Do X 72 [ab_R 3] σ Q := by
  have L := sp_whole_l (X := X) (Q := Q) h (n - s).toNat s 0 hs.1 (by omega)
  have rb := ac_run_b (lo := 48) (hi := 57) (tp := tp) (n := n) (p := s) (by omega)
  have ek : ac_ke tp n s = ac_run 48 57 tp n s := by unfold ac_ke; rw [if_neg (by omega), if_neg (by omega), if_pos hl]
  have eK : ac_kk tp n s = if ac_run 48 57 tp n s - s ≤ 2 then 3 else 1 := by unfold ac_kk; rw [if_neg (by omega), if_neg (by omega), if_pos hl]
  rw [show ac_ru 48 57 tp n (n - s).toNat s = ac_run 48 57 tp n s from rfl] at L
  have key := fun kk => hQ (ab_wr (ab_wr (ab_wr σ 3 4 (ac_kv tp (ac_run 48 57 tp n s - s).toNat s 0)) 3 6 (ac_run 48 57 tp n s)) 3 2 kk) (((ab_Same.refl.wr (by unfold ac_PK9; omega)).wr (by unfold ac_PK9; omega)).wr (by unfold ac_PK9; omega))
  have g := h.1
  have nb := h.2.2.1
  have fin : ab_Run X 72 67 (0, 0, 0) [ab_R 3, ab_I (ac_run 48 57 tp n s)] [] (ab_wr σ 3 4 (ac_kv tp (ac_run 48 57 tp n s - s).toNat s 0)) Q := by
    by_cases z : ac_run 48 57 tp n s - s ≤ 2
    · rw [if_pos z] at eK
      have k := key 3 ⟨by rw [ab_rdw_eq, eK], by rw [ab_rdw_ne (by omega), ab_rdw_ne (by omega), ab_rdw_ne (by omega), h3], by rw [ab_rdw_ne (by omega), ab_rdw_eq, ek], fun _ => by rw [ab_rdw_ne (by omega), ab_rdw_ne (by omega), ab_rdw_eq, ek], fun u => by omega⟩
      clear key hQ L h
      generalize ac_run 48 57 tp n s = r at *
      simp (disch := omega) only [rX9_takeWhole_67, rX9_takeWhole_68, rX9_takeWhole_69, rX9_takeWhole_72, rX9_takeWhole_73, rX9_takeWhole_74, rX9_takeWhole_75, rX9_takeWhole_78, rX9_takeWhole_79, rX9_takeWhole_80, rX9_takeWhole_83, rX9_takeWhole_84, rX9_takeWhole_87, rX9_takeWhole_88, rX9_takeWhole_91, gS_3, g, h3, ab_w32_id, ne_eq, not_false_eq_true, not_true_eq_false, true_and, and_true, and_self, true_imp_iff, false_imp_iff, imp_self, Bool.not_false, Bool.not_true, reduceCtorEq, ab_isJ, ab_psh, ab_cats, Bool.false_eq_true, if_true, if_false, ab_shf, ab_shw, Int.le_refl, Classical.not_not, Int.zero_add, forall_const, ↓ab_itT, ↓ab_itF, ab_anT, ab_w32_id, ab_rdf_ne, ab_rdw_ne, ab_rdw_eq, ab_rdf_in, ab_td2, ab_tm2, true_or, or_true]
      all_goals exact k
    · rw [if_neg z] at eK
      have k := key 1 ⟨by rw [ab_rdw_eq, eK], by rw [ab_rdw_ne (by omega), ab_rdw_ne (by omega), ab_rdw_ne (by omega), h3], by rw [ab_rdw_ne (by omega), ab_rdw_eq, ek], fun u => by omega, fun u => by omega⟩
      clear key hQ L h
      generalize ac_run 48 57 tp n s = r at *
      simp (disch := omega) only [rX9_takeWhole_67, rX9_takeWhole_68, rX9_takeWhole_69, rX9_takeWhole_72, rX9_takeWhole_73, rX9_takeWhole_74, rX9_takeWhole_75, rX9_takeWhole_78, rX9_takeWhole_79, rX9_takeWhole_80, rX9_takeWhole_83, rX9_takeWhole_84, rX9_takeWhole_87, rX9_takeWhole_88, rX9_takeWhole_91, gS_3, g, h3, ab_w32_id, ne_eq, not_false_eq_true, not_true_eq_false, true_and, and_true, and_self, true_imp_iff, false_imp_iff, imp_self, Bool.not_false, Bool.not_true, reduceCtorEq, ab_isJ, ab_psh, ab_cats, Bool.false_eq_true, if_true, if_false, ab_shf, ab_shw, Int.le_refl, Classical.not_not, Int.zero_add, forall_const, ↓ab_itT, ↓ab_itF, ab_anT, ab_w32_id, ab_rdf_ne, ab_rdw_ne, ab_rdw_eq, ab_rdf_in, ab_td2, ab_tm2, true_or, or_true]
      all_goals exact k
  have k2 := L.mpr fin
  clear hQ L h key fin
  simp (disch := omega) only [do_X9_takeWhole, rX9_takeWhole_0, rX9_takeWhole_1, rX9_takeWhole_2, rX9_takeWhole_5, rX9_takeWhole_6, rX9_takeWhole_9, gS_3, g, h3, ne_eq, not_false_eq_true, not_true_eq_false, true_and, and_true, and_self, true_imp_iff, false_imp_iff, imp_self, Bool.not_false, Bool.not_true, reduceCtorEq, ab_isJ, ab_psh, ab_cats, Bool.false_eq_true, if_true, if_false, ab_shf, ab_shw, Int.le_refl, Classical.not_not, Int.zero_add, forall_const, ↓ab_itT, ↓ab_itF, ab_anT, ab_w32_id, ab_rdf_ne, ab_rdw_ne, ab_rdw_eq, ab_rdf_in, ab_td2, ab_tm2]
  all_goals exact k2
theorem sp_next_l (h : ac_TO σ n tp) : ∀ (f : Nat) (p : Int), 0 ≤ p → p + f = n → (ab_Run X 70 8 (1, 0, 0) [ab_R 3] [] (ab_wr σ 3 3 p) Q ↔ ab_Run X 70 46 (1, 0, 0) [ab_R 3] [] (ab_wr σ 3 3 (ac_ru 32 32 tp n f p)) Q) := by
  obtain ⟨g, h7, hn, h4⟩ := h
  intro f
  induction f with
  | zero =>
    intro p hp hf
    unfold ac_ru
    rw [rX9_next_8]
    simp (disch := omega) only [rX9_next_9, rX9_next_12, rX9_next_13, rX9_next_16, gS_3, g, h7, ne_eq, not_false_eq_true, not_true_eq_false, true_and, and_true, and_self, true_imp_iff, false_imp_iff, imp_self, Bool.not_false, Bool.not_true, reduceCtorEq, ab_isJ, ab_psh, ab_cats, Bool.false_eq_true, if_true, if_false, ab_shf, ab_shw, Int.le_refl, Classical.not_not, Int.zero_add, forall_const, ↓ab_itT, ↓ab_itF, ab_anT, ab_w32_id, ab_rdf_ne, ab_rdw_ne, ab_rdw_eq, ab_rdf_in, ab_td2, ab_tm2]
  | succ f ih =>
    intro p hp hf
    obtain ⟨e4, t1, t2⟩ := h4 p hp (by omega)
    rw [rX9_next_8]
    unfold ac_ru
    by_cases z1 : tp p = 32
    · rw [if_pos ⟨by omega, by omega, by omega⟩]
      have key := ih (p + 1) (by omega) (by omega)
      rw [← key]
      clear key ih h4
      simp (disch := omega) only [rX9_next_9, rX9_next_12, rX9_next_13, rX9_next_16, rX9_next_19, rX9_next_20, rX9_next_23, rX9_next_24, rX9_next_27, rX9_next_28, rX9_next_30, rX9_next_33, rX9_next_34I, rX9_next_34R, rX9_next_35, rX9_next_38, rX9_next_39, rX9_next_40, rX9_next_43, gS_3, gP_3_0, gS_4, g, h7, e4, z1, ab_w32_id, ab_ww, ne_eq, not_false_eq_true, not_true_eq_false, true_and, and_true, and_self, true_imp_iff, false_imp_iff, imp_self, Bool.not_false, Bool.not_true, reduceCtorEq, ab_isJ, ab_psh, ab_cats, Bool.false_eq_true, if_true, if_false, ab_shf, ab_shw, Int.le_refl, Classical.not_not, Int.zero_add, forall_const, ↓ab_itT, ↓ab_itF, ab_anT, ab_w32_id, ab_rdf_ne, ab_rdw_ne, ab_rdw_eq, ab_rdf_in, ab_td2, ab_tm2, true_or, or_true]
    · rw [if_neg (by omega)]
      clear ih h4
      simp (disch := omega) only [rX9_next_9, rX9_next_12, rX9_next_13, rX9_next_16, rX9_next_19, rX9_next_20, rX9_next_23, rX9_next_24, rX9_next_27, rX9_next_28, rX9_next_30, gS_3, gP_3_0, gS_4, g, h7, e4, ne_eq, not_false_eq_true, not_true_eq_false, true_and, and_true, and_self, true_imp_iff, false_imp_iff, imp_self, Bool.not_false, Bool.not_true, reduceCtorEq, ab_isJ, ab_psh, ab_cats, Bool.false_eq_true, if_true, if_false, ab_shf, ab_shw, Int.le_refl, Classical.not_not, Int.zero_add, forall_const, ↓ab_itT, ↓ab_itF, ab_anT, ab_w32_id, ab_rdf_ne, ab_rdw_ne, ab_rdw_eq, ab_rdf_in, ab_td2, ab_tm2, true_or, or_true]
end
