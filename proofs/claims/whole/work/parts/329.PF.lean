/-! PURE: counts, ways, likelihoods -/
theorem ac_cnt_it {f : Int → Int} {x : Int} : ∀ (n : Nat) (i s : Int), ab_it (fun k s => if f k = x then s + 1 else s) n i s = s + ab_it (fun k s => if f k = x then s + 1 else s) n i 0
  | 0, _, s => by rw [ab_it, ab_it]; omega
  | n + 1, i, s => by
    rw [ab_it, ab_it]
    by_cases h : f i = x
    · rw [if_pos h, if_pos h, ac_cnt_it n (i + 1) (s + 1), ac_cnt_it n (i + 1) (0 + 1)]; omega
    · rw [if_neg h, if_neg h, ac_cnt_it n (i + 1) s]
theorem ac_cnt_b0 {f : Int → Int} {x : Int} : ∀ (n : Nat) (i : Int), 0 ≤ ab_it (fun k (s : Int) => if f k = x then s + 1 else s) n i 0 ∧ ab_it (fun k (s : Int) => if f k = x then s + 1 else s) n i 0 ≤ (n : Int)
  | 0, _ => by rw [ab_it]; omega
  | n + 1, i => by
    rw [ab_it, ac_cnt_it]
    have := ac_cnt_b0 (f := f) (x := x) n (i + 1)
    split <;> omega
theorem ac_cnt_b {f : Int → Int} {n x : Int} (hn : 0 ≤ n) : 0 ≤ ac_cnt f n x ∧ ac_cnt f n x ≤ n := by
  have := ac_cnt_b0 (f := f) (x := x) n.toNat 0
  unfold ac_cnt
  omega
theorem ac_cnt2_b0 {f g : Int → Int} {x : Int} : ∀ (n : Nat) (i : Int), (∀ k, i ≤ k → k < i + n → f k ≠ g k) → ab_it (fun k (s : Int) => if f k = x then s + 1 else s) n i 0 + ab_it (fun k (s : Int) => if g k = x then s + 1 else s) n i 0 ≤ (n : Int)
  | 0, _, _ => by rw [ab_it, ab_it]; omega
  | n + 1, i, h => by
    rw [ab_it, ab_it, ac_cnt_it, ac_cnt_it (f := g)]
    have h1 := h i (by omega) (by omega)
    have := ac_cnt2_b0 (f := f) (g := g) (x := x) n (i + 1) (fun k q1 q2 => h k (by omega) (by omega))
    by_cases w : f i = x
    · rw [if_pos w, if_neg (fun u => h1 (w.trans u.symm))]; omega
    · rw [if_neg w]
      split <;> omega
/-- nobody wins against himself -/
def ac_KW (κ : ac_K) : Prop := ∀ k, 0 ≤ k → k < κ 8 0 → κ 22 k ≠ κ 23 k
def ac_won (κ : ac_K) (p : Int) : Int := ac_cnt (κ 22) (κ 8 0) p
def ac_lost (κ : ac_K) (p : Int) : Int := ac_cnt (κ 23) (κ 8 0) p
theorem ac_won_b {κ : ac_K} {p : Int} (h : ac_KN κ) : (0 ≤ ac_won κ p ∧ ac_won κ p ≤ 12) ∧ (0 ≤ ac_lost κ p ∧ ac_lost κ p ≤ 12) := by
  have h8 := h.2.2.2.1
  have h1 := ac_cnt_b (f := κ 22) (n := κ 8 0) (x := p) h8.1
  have h2 := ac_cnt_b (f := κ 23) (n := κ 8 0) (x := p) h8.1
  unfold ac_won ac_lost
  omega
theorem ac_won_lost {κ : ac_K} {p : Int} (h : ac_KN κ) (hw : ac_KW κ) : ac_won κ p + ac_lost κ p ≤ 12 := by
  have h8 := h.2.2.2.1
  have := ac_cnt2_b0 (f := κ 22) (g := κ 23) (x := p) (κ 8 0).toNat 0 (fun k q1 q2 => hw k q1 (by omega))
  unfold ac_won ac_lost ac_cnt
  omega
/-- 1 shifted -/
def ac_s64 (p : Int) : Int := (Int64.ofInt 1 <<< ((Int32.ofInt p).toInt64 &&& 63)).toInt
theorem ac_s64_f : ∀ p : Fin 25, 0 < ac_s64 p.val ∧ ac_s64 p.val < 35184372088832 := by decide +kernel
theorem ac_s64_b {p : Int} (h : 0 ≤ p ∧ p ≤ 24) : 0 < ac_s64 p ∧ ac_s64 p < 35184372088832 := by
  have := ac_s64_f ⟨p.toNat, by omega⟩
  dsimp only at this
  rwa [Int.toNat_of_nonneg h.1] at this
def ac_ws (n won i : Int) (s : Int × Int) : Int × Int := (ab_w64 ((ab_w64 (s.1 * (n - i))).tdiv (i + 1)), if won ≤ i then ab_w64 (s.2 + s.1) else s.2)
def ac_ways (n won : Int) : Int := (ab_it (ac_ws n won) (n + 1).toNat 0 (1, 0)).2
theorem ac_ways_f : ∀ n : Fin 25, ∀ w : Fin 13, 0 ≤ ac_ways n.val w.val ∧ ac_ways n.val w.val < 35184372088832 := by decide +kernel
theorem ac_ways_b {n w : Int} (h : 0 ≤ n ∧ n ≤ 24) (hw : 0 ≤ w ∧ w ≤ 12) : 0 ≤ ac_ways n w ∧ ac_ways n w < 35184372088832 := by
  have := ac_ways_f ⟨n.toNat, by omega⟩ ⟨w.toNat, by omega⟩
  dsimp only at this
  rwa [Int.toNat_of_nonneg h.1, Int.toNat_of_nonneg hw.1] at this
def ac_lk (t won lost : Int) : Int := ab_it (fun _ s => ab_w64 (s * (10 - t))) lost.toNat 0 (ab_it (fun _ s => ab_w64 (s * t)) won.toNat 0 1)
theorem ac_lk_f : ∀ t : Fin 10, ∀ w : Fin 13, ∀ l : Fin 13, 1 ≤ t.val → w.val + l.val ≤ 12 → 1 ≤ ac_lk t.val w.val l.val ∧ ac_lk t.val w.val l.val ≤ 282429536481 := by decide +kernel
theorem ac_lk_b {t w l : Int} (h : 1 ≤ t ∧ t ≤ 9) (hw : 0 ≤ w) (hl : 0 ≤ l) (hs : w + l ≤ 12) : 1 ≤ ac_lk t w l ∧ ac_lk t w l ≤ 282429536481 := by
  have := ac_lk_f ⟨t.toNat, by omega⟩ ⟨w.toNat, by omega⟩ ⟨l.toNat, by omega⟩ (by dsimp only; omega) (by dsimp only; omega)
  dsimp only at this
  rwa [Int.toNat_of_nonneg (by omega : 0 ≤ t), Int.toNat_of_nonneg hw, Int.toNat_of_nonneg hl] at this
/-- int shifts and ors -/
def ac_or (a b : Int) : Int := ab_ok32 (fun x y => x ||| y) a b
def ac_sl (p : Int) : Int := ab_ok32 (fun x y => x <<< (y &&& 31)) 1 p
theorem ac_sl_f : ∀ p : Fin 21, ac_sl p.val = 2 ^ p.val := by decide +kernel
theorem ac_or_b {a b : Int} : -2147483648 ≤ ac_or a b ∧ ac_or a b < 2147483648 := by
  unfold ac_or ab_ok32
  exact ⟨Int32.le_toInt _, Int32.toInt_lt _⟩
theorem ac_or0 {a : Int} (h : -2147483648 ≤ a ∧ a < 2147483648) : ac_or a 0 = a := by
  unfold ac_or ab_ok32
  have e : Int32.ofInt 0 = 0 := rfl
  rw [e]
  show (Int32.ofInt a ||| 0).toInt = a
  rw [Int32.or_zero]
  exact Int32.toInt_ofInt_of_le (by omega) (by omega)
abbrev ac_knf (κ : ac_K) (p : Int) : Prop := ab_w64 (20 * ac_ways (ac_won κ p + ac_lost κ p) (ac_won κ p)) ≤ ac_s64 (ac_won κ p + ac_lost κ p)
/-- who is known -/
def ac_kn (κ : ac_K) : Int := ab_it (fun p s => if ac_knf κ p then ac_or s (ac_sl p) else s) (κ 6 0).toNat 0 0
def ac_hs (n : Int) : Nat → Int → Int
  | 0, p => p
  | f + 1, p => if ac_sl p < n then ac_hs n f (p + 1) else p
