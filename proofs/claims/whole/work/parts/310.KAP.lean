/-! A KITCHEN as a table of numbers: κ f i, f as the reference's fields are numbered -/
abbrev ac_K : Type := Int → Int → Int
def ac_cnt (f : Int → Int) (n x : Int) : Int := ab_it (fun k s => if f k = x then s + 1 else s) n.toNat 0 0
def ac_KB (κ : ac_K) : Prop := (0 ≤ κ 0 0 ∧ κ 0 0 ≤ 9) ∧ (25 ≤ κ 1 0 ∧ κ 1 0 ≤ 60) ∧ (0 ≤ κ 2 0 ∧ κ 2 0 ≤ 99) ∧ (0 ≤ κ 3 0 ∧ κ 3 0 ≤ 99) ∧ (0 ≤ κ 4 0 ∧ κ 4 0 ≤ 99)
def ac_KN (κ : ac_K) : Prop := (0 ≤ κ 5 0 ∧ κ 5 0 ≤ 5) ∧ (0 ≤ κ 6 0 ∧ κ 6 0 ≤ 6) ∧ (0 ≤ κ 7 0 ∧ κ 7 0 ≤ 10) ∧ (0 ≤ κ 8 0 ∧ κ 8 0 ≤ 12) ∧ (0 ≤ κ 9 0 ∧ κ 9 0 ≤ 4)
/-- bounds of bones, people, halves, pieces -/
def ac_bB (κ : ac_K) (b : Int) : Prop := (0 ≤ κ 12 b ∧ κ 12 b ≤ 2) ∧ (0 ≤ κ 13 b ∧ κ 13 b ≤ 24) ∧ ∀ arm, (arm = 0 ∨ arm = 1) → (2 ≤ κ 14 (2 * b + arm) ∧ κ 14 (2 * b + arm) ≤ 6) ∧ ∀ i, 0 ≤ i → i < κ 14 (2 * b + arm) → 1 ≤ κ 15 (6 * (2 * b + arm) + i) ∧ κ 15 (6 * (2 * b + arm) + i) ≤ 9
def ac_bP (κ : ac_K) (p : Int) : Prop := (0 ≤ κ 16 p ∧ κ 16 p ≤ 3) ∧ (1 ≤ κ 17 p ∧ κ 17 p ≤ 40) ∧ (1 ≤ κ 18 p ∧ κ 18 p ≤ 6) ∧ (0 ≤ κ 19 p ∧ κ 19 p ≤ 99) ∧ (0 ≤ κ 20 p ∧ κ 20 p < 64) ∧ (0 ≤ κ 21 p ∧ κ 21 p ≤ 99 * κ 7 0) ∧ (κ 27 p = -1 ∨ ((0 ≤ κ 27 p ∧ κ 27 p ≤ 99) ∧ (1 ≤ κ 28 p ∧ κ 28 p ≤ 9) ∧ (1 ≤ κ 29 p ∧ κ 29 p ≤ 9)))
def ac_KL (κ : ac_K) : Prop := (∀ b, 0 ≤ b → b < κ 5 0 → ac_bB κ b) ∧ (∀ p, 0 ≤ p → p < κ 6 0 → ac_bP κ p) ∧ (∀ k, 0 ≤ k → k < κ 8 0 → (0 ≤ κ 22 k ∧ κ 22 k < κ 6 0) ∧ (0 ≤ κ 23 k ∧ κ 23 k < κ 6 0) ∧ (0 ≤ κ 24 k ∧ κ 24 k ≤ 1)) ∧ (∀ i, 0 ≤ i → i < κ 9 0 → (0 ≤ κ 25 i ∧ κ 25 i ≤ 1) ∧ (0 ≤ κ 26 i ∧ κ 26 i ≤ 5))
/-- a told kitchen -/
def ac_KK (κ : ac_K) : Prop := ac_KB κ ∧ ac_KN κ ∧ ac_KL κ ∧ 1 ≤ κ 5 0 ∧ 2 ≤ κ 6 0
/-- the class's kitchen K holds κ: numbers, bones, people, pieces -/
def ac_KC0 (σ : ab_S) (K : Int) (κ : ac_K) : Prop := ab_rd σ K 5 = κ 5 0 ∧ ab_rd σ K 7 = κ 6 0 ∧ ab_rd σ K 9 = κ 7 0 ∧ ab_rd σ K 10 = κ 8 0 ∧ ab_rd σ K 11 = ac_cnt (κ 24) (κ 8 0) 0 ∧ ab_rd σ K 12 = κ 9 0
def ac_KCr (σ : ab_S) (K : Int) (κ : ac_K) : Prop := ab_rd σ K 0 = κ 0 0 ∧ ab_rd σ K 1 = κ 1 0 ∧ ab_rd σ K 2 = κ 2 0 ∧ ab_rd σ K 3 = κ 3 0 ∧ ab_rd σ K 4 = κ 4 0
def ac_KCb (σ : ab_S) (K : Int) (κ : ac_K) (b : Int) : Prop := ab_rd σ (K + 5 + 3 * b) 1 = κ 12 b ∧ ab_rd σ (K + 5 + 3 * b) 2 = κ 13 b ∧ ∀ arm, (arm = 0 ∨ arm = 1) → ab_rd σ (K + 5 + 3 * b + 1) arm = κ 14 (2 * b + arm) ∧ ∀ i, 0 ≤ i → i < κ 14 (2 * b + arm) → ab_rd σ (K + 5 + 3 * b + 2) (6 * arm + i) = κ 15 (6 * (2 * b + arm) + i)
def ac_KCp (σ : ab_S) (K : Int) (κ : ac_K) (p : Int) : Prop := ab_rd σ (K + 20 + p) 1 = κ 16 p ∧ ab_rd σ (K + 20 + p) 2 = κ 17 p ∧ ab_rd σ (K + 20 + p) 3 = κ 18 p ∧ ab_rd σ (K + 20 + p) 4 = κ 19 p ∧ ab_rd σ (K + 20 + p) 5 = κ 19 p + κ 21 p ∧ ab_rd σ (K + 20 + p) 6 = κ 20 p ∧ ab_rd σ (K + 20 + p) 7 = ac_cnt (κ 22) (κ 8 0) p ∧ ab_rd σ (K + 20 + p) 8 = ac_cnt (κ 23) (κ 8 0) p ∧ ab_rd σ (K + 20 + p) 9 = κ 27 p ∧ (κ 27 p ≠ -1 → ab_rd σ (K + 20 + p) 10 = κ 28 p ∧ ab_rd σ (K + 20 + p) 11 = κ 29 p)
def ac_KC (σ : ab_S) (K : Int) (κ : ac_K) : Prop := ac_kit K ∧ ac_KCr σ K κ ∧ ac_KC0 σ K κ ∧ (∀ b, 0 ≤ b → b < κ 5 0 → ac_KCb σ K κ b) ∧ (∀ p, 0 ≤ p → p < κ 6 0 → ac_KCp σ K κ p) ∧ (∀ i, 0 ≤ i → i < κ 9 0 → ab_rd σ (K + 3) i = κ 25 i ∧ ab_rd σ (K + 4) i = κ 26 i)
/-- a pull's numbers -/
def ac_n (κ : ac_K) (b arm : Int) : Int := κ 14 (2 * b + arm)
def ac_S (κ : ac_K) (d b arm who : Int) : Int → Int := ac_str (fun i => κ 15 (6 * (2 * b + arm) + i)) (κ 1 0 - d) (if κ 16 who = 3 then κ 3 0 else 0)
def ac_N (κ : ac_K) (p q hold who mv : Int) : Int → Int := ab_stn (κ 17 p + κ 17 q) hold (if mv = 1 ∨ κ 16 who = 2 then κ 2 0 else 0)
def ac_lp (κ : ac_K) (kd d : Int) : Int := if kd = 2 ∨ d < κ 0 0 then 1 else 0
def ac_m0 (mv : Int) : Int := if mv = 0 ∨ mv = 3 then 1 else 0
def ac_m1 (mv : Int) : Int := if mv = 1 ∨ mv = 3 then 1 else 0
/-- what comes of a pull with flaws in rows r0, r1 -/
def ac_C (κ : ac_K) (kd d b p hp q hq mv r0 r1 : Int) : Int := ac_rs (ac_lp κ kd d) (ac_n κ b 0) (ac_N κ p q hp p (ac_m0 mv)) (ac_S κ d b 0 p) (ac_n κ b 1) (ac_N κ p q hq q (ac_m1 mv)) (ac_S κ d b 1 q) r0 r1
/-- ODDS of x -/
def ac_O (κ : ac_K) (kd d b p hp q hq mv x : Int) : Int := ac_wt (ac_C κ kd d b p hp q hq mv) (κ 4 0) (ac_n κ b 0) (ac_n κ b 1) x
/-- told hold -/
def ac_h (κ : ac_K) (p b arm : Int) : Int := if κ 14 (2 * b + arm) < κ 18 p then κ 14 (2 * b + arm) else κ 18 p
/-- cells of the class that a question may change -/
def ac_PC : Int → Int → Prop := fun a f => (a = 134 ∧ 3 ≤ f) ∨ (a = 135 ∧ f = 0) ∨ (136 ≤ a ∧ a ≤ 140) ∨ (a = 141 ∧ f = 0) ∨ (142 ≤ a ∧ a ≤ 147) ∨ (a = 148 ∧ 8 ≤ f) ∨ (151 ≤ a ∧ a ≤ 152) ∨ (154 ≤ a ∧ a ≤ 165) ∨ (167 ≤ a ∧ a ≤ 180) ∨ (181 ≤ a ∧ a ≤ 324 ∧ ((a - 181) % 6 = 0 → f = 0)) ∨ (a = 325 ∧ 2 ≤ f) ∨ (326 ≤ a ∧ a ≤ 328) ∨ (a = 1 ∧ f = 8)
theorem ac_ptR1 : ∀ a : Fin 369, (136 ≤ a.val ∧ a.val ≤ 140) ∨ (142 ≤ a.val ∧ a.val ≤ 147) ∨ (151 ≤ a.val ∧ a.val ≤ 152) ∨ (154 ≤ a.val ∧ a.val ≤ 165) ∨ (167 ≤ a.val ∧ a.val ≤ 180) ∨ (326 ≤ a.val ∧ a.val ≤ 328) ∨ (181 ≤ a.val ∧ a.val ≤ 324 ∧ ¬ (a.val - 181) % 6 = 0) → ab_ptL.getD a.val [] = [] := by decide +kernel
theorem ac_ptR2 : ∀ a : Fin 369, a.val = 135 ∨ a.val = 141 ∨ (181 ≤ a.val ∧ a.val ≤ 324) → (ab_ptL.getD a.val []).getD 0 0 = 0 := by decide +kernel
theorem ac_ptR1' {a f : Int} (h1 : 0 ≤ a) (h2 : a ≤ 368) (h : (136 ≤ a.toNat ∧ a.toNat ≤ 140) ∨ (142 ≤ a.toNat ∧ a.toNat ≤ 147) ∨ (151 ≤ a.toNat ∧ a.toNat ≤ 152) ∨ (154 ≤ a.toNat ∧ a.toNat ≤ 165) ∨ (167 ≤ a.toNat ∧ a.toNat ≤ 180) ∨ (326 ≤ a.toNat ∧ a.toNat ≤ 328) ∨ (181 ≤ a.toNat ∧ a.toNat ≤ 324 ∧ ¬ (a.toNat - 181) % 6 = 0)) : ab_pt a f = 0 := ab_pt_nil (ac_ptR1 ⟨a.toNat, by clear h; omega⟩ h)
theorem ac_ptR2' {a : Int} (h1 : 0 ≤ a) (h2 : a ≤ 368) (h : a.toNat = 135 ∨ a.toNat = 141 ∨ (181 ≤ a.toNat ∧ a.toNat ≤ 324)) : ab_pt a 0 = 0 := ac_ptR2 ⟨a.toNat, by clear h; omega⟩ h
theorem ac_getD_ge {l : List Int} {n : Nat} (h : l.length ≤ n) : l.getD n 0 = 0 := by
  rw [List.getD_eq_getElem?_getD, List.getElem?_eq_none h]; rfl
theorem ac_pt3 : ab_ptL.getD (134 : Int).toNat [] = [135, 141, 147] ∧ ab_ptL.getD (148 : Int).toNat [] = [149, 150, 151, 152, 153, 166, 179, 180] ∧ ab_ptL.getD (325 : Int).toNat [] = [326, 327] := by decide +kernel
theorem ac_PC_pt : ∀ a f, 0 ≤ a → a ≤ 368 → 0 ≤ f → ac_PC a f → ab_pt a f = 0 := by
  intro a f h1 h2 h3 hp
  unfold ac_PC at hp
  rcases hp with ⟨rfl, q⟩ | ⟨rfl, rfl⟩ | q | ⟨rfl, rfl⟩ | q | ⟨rfl, q⟩ | q | q | q | q | ⟨rfl, q⟩ | q | ⟨rfl, rfl⟩
  · unfold ab_pt
    rw [ac_pt3.1]
    exact ac_getD_ge (by rw [List.length_cons, List.length_cons, List.length_cons, List.length_nil]; omega)
  · exact ac_ptR2' h1 h2 (by omega)
  · exact ac_ptR1' h1 h2 (Or.inl (by omega))
  · exact ac_ptR2' h1 h2 (by omega)
  · exact ac_ptR1' h1 h2 (Or.inr (Or.inl (by omega)))
  · unfold ab_pt
    rw [ac_pt3.2.1]
    exact ac_getD_ge (by rw [List.length_cons, List.length_cons, List.length_cons, List.length_cons, List.length_cons, List.length_cons, List.length_cons, List.length_cons, List.length_nil]; omega)
  · exact ac_ptR1' h1 h2 (Or.inr (Or.inr (Or.inl (by omega))))
  · exact ac_ptR1' h1 h2 (Or.inr (Or.inr (Or.inr (Or.inl (by omega)))))
  · exact ac_ptR1' h1 h2 (Or.inr (Or.inr (Or.inr (Or.inr (Or.inl (by omega))))))
  · by_cases hm : (a.toNat - 181) % 6 = 0
    · have : f = 0 := q.2.2 (by omega)
      subst this
      exact ac_ptR2' h1 h2 (Or.inr (Or.inr (by omega)))
    · exact ac_ptR1' h1 h2 (Or.inr (Or.inr (Or.inr (Or.inr (Or.inr (Or.inr (by omega)))))))
  · unfold ab_pt
    rw [ac_pt3.2.2]
    exact ac_getD_ge (by rw [List.length_cons, List.length_cons, List.length_nil]; omega)
  · exact ac_ptR1' h1 h2 (Or.inr (Or.inr (Or.inr (Or.inr (Or.inr (Or.inl (by omega)))))))
  · decide +kernel
theorem ac_PC_arm {A a f : Int} (hA : ab_arm A) (h : ab_PA A a f) : ac_PC a f := by
  unfold ac_PC
  rcases hA with rfl | rfl | ⟨i, hi, rfl⟩
  · rcases h with ⟨rfl, rfl⟩ | h <;> omega
  · rcases h with ⟨rfl, rfl⟩ | h <;> omega
  · rcases h with ⟨rfl, rfl⟩ | h <;> omega
