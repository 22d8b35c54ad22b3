/-! WORDS: numbers of words -/
def ac_wl (q x : Int) (l : List Int) : Int := l.foldl (fun x c => q * x + c) x
def ac_ll (tp : Int → Int) : Nat → Int → List Int
  | 0, _ => []
  | m + 1, s => (tp s - 97 + 1) :: ac_ll tp m (s + 1)
def ac_lok (l : List Int) : Prop := ∀ c ∈ l, 1 ≤ c ∧ c ≤ 26
section
variable {q x s : Int} {tp : Int → Int} {l l1 l2 : List Int}
theorem ac_ll_len : ∀ (m : Nat) (s : Int), (ac_ll tp m s).length = m := by
  intro m
  induction m with
  | zero => intro s; rfl
  | succ m ih => intro s; unfold ac_ll; rw [List.length_cons, ih]
theorem ac_wl_b (hq : 27 ≤ q) : ∀ (l : List Int) (x : Int), ac_lok l → 0 ≤ x → x * q ^ l.length ≤ ac_wl q x l ∧ ac_wl q x l < (x + 1) * q ^ l.length := by
  intro l
  induction l with
  | nil => intro x _ hx; show x * q ^ 0 ≤ x ∧ x < (x + 1) * q ^ 0; rw [Int.pow_zero]; omega
  | cons c t ih =>
    intro x hl hx
    have hc := hl c (List.mem_cons_self ..)
    have h0 : 0 ≤ q * x := Int.mul_nonneg (by omega) hx
    obtain ⟨i1, i2⟩ := ih (q * x + c) (fun d hd => hl d (List.mem_cons_of_mem _ hd)) (by omega)
    have hp : 0 ≤ q ^ t.length := Int.le_of_lt (Int.pow_pos (by omega))
    rw [List.length_cons, Int.pow_succ]
    show x * (q ^ t.length * q) ≤ ac_wl q (q * x + c) t ∧ ac_wl q (q * x + c) t < (x + 1) * (q ^ t.length * q)
    constructor
    · refine Int.le_trans ?_ i1
      have := Int.mul_le_mul_of_nonneg_right (show q * x ≤ q * x + c by omega) hp
      calc x * (q ^ t.length * q) = q * x * q ^ t.length := by rw [Int.mul_comm (q ^ t.length) q, ← Int.mul_assoc, Int.mul_comm x q]
        _ ≤ _ := this
    · refine Int.lt_of_lt_of_le i2 ?_
      have e : q * (x + 1) = q * x + q := by rw [Int.mul_add, Int.mul_one]
      have := Int.mul_le_mul_of_nonneg_right (show q * x + c + 1 ≤ q * (x + 1) by omega) hp
      calc (q * x + c + 1) * q ^ t.length ≤ q * (x + 1) * q ^ t.length := this
        _ = _ := by rw [Int.mul_comm (q ^ t.length) q, ← Int.mul_assoc, Int.mul_comm (x + 1) q]
theorem ac_wl_eq (hq : q = 27 ∨ q = 32) : ∀ (l1 l2 : List Int) (x1 x2 : Int), ac_lok l1 → ac_lok l2 → 0 ≤ x1 → 0 ≤ x2 → l1.length = l2.length → ac_wl q x1 l1 = ac_wl q x2 l2 → x1 = x2 ∧ l1 = l2 := by
  intro l1
  induction l1 with
  | nil =>
    intro l2 x1 x2 _ _ _ _ hl he
    cases l2 with
    | nil => exact ⟨he, rfl⟩
    | cons c t => rw [List.length_cons, List.length_nil] at hl; omega
  | cons c1 t1 ih =>
    intro l2 x1 x2 h1 h2 hx1 hx2 hl he
    cases l2 with
    | nil => rw [List.length_cons, List.length_nil] at hl; omega
    | cons c2 t2 =>
      have b1 := h1 c1 (List.mem_cons_self ..)
      have b2 := h2 c2 (List.mem_cons_self ..)
      rw [List.length_cons, List.length_cons] at hl
      rcases hq with rfl | rfl
      · obtain ⟨e1, e2⟩ := ih t2 (27 * x1 + c1) (27 * x2 + c2) (fun d hd => h1 d (List.mem_cons_of_mem _ hd)) (fun d hd => h2 d (List.mem_cons_of_mem _ hd)) (by omega) (by omega) (by omega) he
        have f1 : x1 = x2 := by omega
        have f2 : c1 = c2 := by omega
        exact ⟨f1, by rw [f2, e2]⟩
      · obtain ⟨e1, e2⟩ := ih t2 (32 * x1 + c1) (32 * x2 + c2) (fun d hd => h1 d (List.mem_cons_of_mem _ hd)) (fun d hd => h2 d (List.mem_cons_of_mem _ hd)) (by omega) (by omega) (by omega) he
        have f1 : x1 = x2 := by omega
        have f2 : c1 = c2 := by omega
        exact ⟨f1, by rw [f2, e2]⟩
theorem ac_powle (hq : 1 ≤ q) (m : Nat) : ∀ k : Nat, q ^ m ≤ q ^ (m + k) := by
  intro k
  induction k with
  | zero => exact Int.le_refl _
  | succ k ih =>
    have h0 : 0 ≤ q ^ (m + k) := Int.le_of_lt (Int.pow_pos (by omega))
    have := Int.mul_le_mul_of_nonneg_left hq h0
    rw [Int.mul_one] at this
    rw [← Nat.add_assoc, Int.pow_succ]
    exact Int.le_trans ih this
theorem ac_wl_lt (hq : 27 ≤ q) (h1 : ac_lok l1) (h2 : ac_lok l2) (hl : l1.length < l2.length) : ac_wl q 0 l1 < ac_wl q 0 l2 := by
  cases l2 with
  | nil => rw [List.length_nil] at hl; omega
  | cons c t =>
    have b2 := h2 c (List.mem_cons_self ..)
    have a := (ac_wl_b hq l1 0 h1 (Int.le_refl 0)).2
    have b := (ac_wl_b hq t c (fun d hd => h2 d (List.mem_cons_of_mem _ hd)) (by omega)).1
    have e : ac_wl q 0 (c :: t) = ac_wl q c t := by
      show ac_wl q (q * 0 + c) t = _
      rw [Int.mul_zero, Int.zero_add]
    rw [e]
    rw [List.length_cons] at hl
    have p1 : q ^ l1.length ≤ q ^ t.length := by
      have := ac_powle (q := q) (by omega) l1.length (t.length - l1.length)
      rwa [show l1.length + (t.length - l1.length) = t.length by omega] at this
    have p2 : 0 ≤ q ^ t.length := Int.le_of_lt (Int.pow_pos (by omega))
    have p3 := Int.mul_le_mul_of_nonneg_right b2.1 p2
    rw [Int.zero_add, Int.one_mul] at a
    rw [Int.one_mul] at p3
    omega
/-- a word's number tells the word -/
theorem ac_wl_inj (hq : q = 27 ∨ q = 32) (h1 : ac_lok l1) (h2 : ac_lok l2) : ac_wl q 0 l1 = ac_wl q 0 l2 ↔ l1 = l2 := by
  constructor
  · intro he
    by_cases z1 : l1.length < l2.length
    · have := ac_wl_lt (q := q) (by omega) h1 h2 z1; omega
    · by_cases z2 : l2.length < l1.length
      · have := ac_wl_lt (q := q) (by omega) h2 h1 z2; omega
      · exact (ac_wl_eq hq l1 l2 0 0 h1 h2 (Int.le_refl 0) (Int.le_refl 0) (by omega) he).2
  · intro e; rw [e]
/-- the machine's number of a word of at most 8 letters -/
theorem ac_kw_wl (hq : q = 27 ∨ q = 32) : ∀ (m : Nat) (s x : Int), ac_lok (ac_ll tp m s) → 0 ≤ x → (x + 1) * q ^ m ≤ 9223372036854775807 → ac_kw q tp m s x = ac_wl q x (ac_ll tp m s) := by
  intro m
  induction m with
  | zero => intro s x _ _ _; rfl
  | succ m ih =>
    intro s x hl hx hb
    have hc := hl (tp s - 97 + 1) (by unfold ac_ll; exact List.mem_cons_self ..)
    have hl' : ac_lok (ac_ll tp m (s + 1)) := fun d hd => hl d (by unfold ac_ll; exact List.mem_cons_of_mem _ hd)
    have hpos : 1 ≤ q ^ m := Int.pow_pos (show 0 < q by omega)
    rw [Int.pow_succ] at hb
    have e1 : (x + 1) * (q ^ m * q) = q * (x + 1) * q ^ m := by rw [Int.mul_comm (q ^ m) q, ← Int.mul_assoc, Int.mul_comm (x + 1) q]
    rw [e1] at hb
    have hn : 0 ≤ q * (x + 1) := Int.mul_nonneg (by omega) (by omega)
    have hle : q * (x + 1) ≤ q * (x + 1) * q ^ m := by
      have := Int.mul_le_mul_of_nonneg_left hpos hn
      rwa [Int.mul_one] at this
    have e2 : q * (x + 1) = q * x + q := by rw [Int.mul_add, Int.mul_one]
    have h0 : 0 ≤ q * x := Int.mul_nonneg (by omega) hx
    have w1 : ab_w64 (q * x) = q * x := by unfold ab_w64; omega
    have w2 : ab_w64 (q * x + (tp s - 97 + 1)) = q * x + (tp s - 97 + 1) := by unfold ab_w64; omega
    have hb2 : (q * x + (tp s - 97 + 1) + 1) * q ^ m ≤ 9223372036854775807 := by
      refine Int.le_trans (Int.mul_le_mul_of_nonneg_right (show q * x + (tp s - 97 + 1) + 1 ≤ q * (x + 1) by omega) (by omega)) hb
    have key := ih (s + 1) (q * x + (tp s - 97 + 1)) hl' (by omega) hb2
    show ac_kw q tp m (s + 1) (ab_w64 (ab_w64 (q * x) + (tp s - 97 + 1))) = _
    rw [w1, w2, key]
    rfl
end
