/-! HOW THE LITTLE MACHINE'S VALUES AND STORE ARE HELD IN THE MACHINE'S. E: the first cell made by the law, the heap at its entry, class numbers and field slots, array classes, the script's cell, length and ints, the texts' cells and their arrays'. -/
abbrev ab_E : Type := Nat × Heap × va_G × (Nat → ClassId) × Nat × Nat × (Nat → Int32) × (Nat → Nat) × (Nat → Nat)
abbrev ab_Eb (E : ab_E) : Nat := E.1
abbrev ab_EH (E : ab_E) : Heap := E.2.1
abbrev ab_ED (E : ab_E) : va_G := E.2.2.1
abbrev ab_EA (E : ab_E) : Nat → ClassId := E.2.2.2.1
abbrev ab_Es (E : ab_E) : Nat := E.2.2.2.2.1
abbrev ab_EL (E : ab_E) : Nat := E.2.2.2.2.2.1
abbrev ab_EX (E : ab_E) : Nat → Int32 := E.2.2.2.2.2.2.1
abbrev ab_EK (E : ab_E) : Nat → Nat := E.2.2.2.2.2.2.2.1
abbrev ab_EV (E : ab_E) : Nat → Nat := E.2.2.2.2.2.2.2.2
/-- the script as the little machine has it -/
def ab_Xof (E : ab_E) : ab_X := ((ab_EL E : Int), fun i => (ab_EX E i.toNat).toInt)
def ab_ad (E : ab_E) (z : Int) : Nat := ab_Eb E + (z.toNat - 1)
def ab_rr (E : ab_E) (z : Int) : Value := if z = 0 then .null else if 0 < z then .ref (ab_ad E z) else if z = -1 then .ref (ab_Es E) else .ref (ab_EK E (-2 - z).toNat)
def ab_VR (E : ab_E) (v : ab_V) (r : Value) : Prop := match v with
  | .inl z => ∃ k : Int32, r = .int k ∧ k.toInt = z
  | .inr (.inl z) => ∃ k : Int64, r = .long k ∧ k.toInt = z
  | .inr (.inr z) => r = ab_rr E z
def ab_VT (E : ab_E) (ty : FieldType) (z : Int) (v : Value) : Prop := match ty with
  | .int => ∃ k : Int32, v = .int k ∧ k.toInt = z
  | .boolean => ∃ k : Int32, v = .int k ∧ k.toInt = z ∧ (z = 0 ∨ z = 1)
  | .byte => ∃ k : Int32, v = .int k ∧ k.toInt = z ∧ -128 ≤ z ∧ z < 128
  | .long => ∃ k : Int64, v = .long k ∧ k.toInt = z
  | .object _ => v = ab_rr E z
  | .array _ => v = ab_rr E z
  | _ => False
/-- a list of values, place by place -/
def ab_SR (E : ab_E) : List ab_V → List Value → Prop
  | [], [] => True
  | v :: l, r :: m => ab_VR E v r ∧ ab_SR E l m
  | _, _ => False
theorem ab_SR_nil {E : ab_E} {m : List Value} (h : ab_SR E [] m) : m = [] := by
  cases m with
  | nil => rfl
  | cons a l => exact h.elim
theorem ab_SR_cons {E : ab_E} {v : ab_V} {l : List ab_V} {m : List Value} (h : ab_SR E (v :: l) m) : ∃ r m', m = r :: m' ∧ ab_VR E v r ∧ ab_SR E l m' := by
  cases m with
  | nil => exact h.elim
  | cons a m' => exact ⟨a, m', rfl, h.1, h.2⟩
theorem ab_SR_I {E : ab_E} {z : Int} {l : List ab_V} {m : List Value} (h : ab_SR E (.inl z :: l) m) : ∃ (k : Int32) (m' : List Value), m = .int k :: m' ∧ k.toInt = z ∧ ab_SR E l m' := by
  obtain ⟨r, m', rfl, ⟨k, rfl, hk⟩, h2⟩ := ab_SR_cons h
  exact ⟨k, m', rfl, hk, h2⟩
theorem ab_SR_J {E : ab_E} {z : Int} {l : List ab_V} {m : List Value} (h : ab_SR E (.inr (.inl z) :: l) m) : ∃ (k : Int64) (m' : List Value), m = .long k :: m' ∧ k.toInt = z ∧ ab_SR E l m' := by
  obtain ⟨r, m', rfl, ⟨k, rfl, hk⟩, h2⟩ := ab_SR_cons h
  exact ⟨k, m', rfl, hk, h2⟩
theorem ab_SR_R {E : ab_E} {z : Int} {l : List ab_V} {m : List Value} (h : ab_SR E (.inr (.inr z) :: l) m) : ∃ m' : List Value, m = ab_rr E z :: m' ∧ ab_SR E l m' := by
  obtain ⟨r, m', rfl, h1, h2⟩ := ab_SR_cons h
  cases h1
  exact ⟨m', rfl, h2⟩
theorem ab_VR_cat {E : ab_E} {v : ab_V} {r : Value} (h : ab_VR E v r) : r.category = if ab_isJ v = true then 2 else 1 := by
  rcases v with z | z | z
  · obtain ⟨k, rfl, -⟩ := h
    rfl
  · obtain ⟨k, rfl, -⟩ := h
    rfl
  · have h : r = ab_rr E z := h
    subst h
    show (ab_rr E z).category = 1
    unfold ab_rr
    split
    · rfl
    · split
      · rfl
      · split <;> rfl
theorem ab_VR_c1 {E : ab_E} {v : ab_V} {r : Value} (h : ab_VR E v r) (hv : ¬ ab_isJ v = true) : r.category = 1 := by rw [ab_VR_cat h, if_neg hv]
theorem ab_SR_cats {E : ab_E} : ∀ {l : List ab_V} {m : List Value}, ab_SR E l m → (m.map fun v => v.category).sum = ab_cats l
  | [], [], _ => rfl
  | v :: l, r :: m, h => by
    rw [List.map_cons, List.sum_cons, ab_VR_cat h.1, ab_SR_cats h.2]
    rfl
theorem ab_SR_len {E : ab_E} : ∀ {l : List ab_V} {m : List Value}, ab_SR E l m → m.length = l.length
  | [], [], _ => rfl
  | v :: l, r :: m, h => by rw [List.length_cons, List.length_cons, ab_SR_len h.2]
theorem ab_SR_app {E : ab_E} : ∀ {l1 : List ab_V} {m1 : List Value} {l2 : List ab_V} {m2 : List Value}, ab_SR E l1 m1 → ab_SR E l2 m2 → ab_SR E (l1 ++ l2) (m1 ++ m2)
  | [], [], _, _, _, h => h
  | v :: l, r :: m, _, _, h, h2 => ⟨h.1, ab_SR_app h.2 h2⟩
theorem ab_SR_rev {E : ab_E} : ∀ {l : List ab_V} {m : List Value}, ab_SR E l m → ab_SR E l.reverse m.reverse
  | [], [], _ => trivial
  | v :: l, r :: m, h => by
    rw [List.reverse_cons, List.reverse_cons]
    exact ab_SR_app (ab_SR_rev h.2) ⟨h.1, trivial⟩
theorem ab_SR_take {E : ab_E} : ∀ {l : List ab_V} {m : List Value} (n : Nat), ab_SR E l m → ab_SR E (l.take n) (m.take n) ∧ ab_SR E (l.drop n) (m.drop n)
  | [], [], n, _ => by simp [ab_SR]
  | v :: l, r :: m, 0, h => ⟨trivial, h⟩
  | v :: l, r :: m, n + 1, h => ⟨⟨h.1, (ab_SR_take n h.2).1⟩, (ab_SR_take n h.2).2⟩
/-- locals -/
def ab_LR (E : ab_E) (L : List ab_V) (ls : Array Slot) (nL : Nat) : Prop := L.length = nL ∧ ∃ lv, lv_has ls nL lv ∧ ∀ (j : Nat) (v : ab_V), L[j]? = some v → v ≠ ab_R 0 → ∃ r, ab_VR E v r ∧ (j, r) ∈ lv
theorem ab_LR_at {E : ab_E} {L : List ab_V} {ls : Array Slot} {nL j : Nat} {v : ab_V} (h : ab_LR E L ls nL) (hj : L[j]? = some v) (hv : v ≠ ab_R 0) : ∃ r, ab_VR E v r ∧ ls[j]? = some (.val r) := by
  obtain ⟨-, lv, h1, h2⟩ := h
  obtain ⟨r, h3, h4⟩ := h2 j v hj hv
  exact ⟨r, h3, h1.2.2 _ h4⟩
/-- a store into place i that no long ends in: what the kit's list of locals becomes -/
theorem ab_LR_set {E : ab_E} {L : List ab_V} {nL i : Nat} {w : ab_V} {rw : Value} {lv : List (Nat × Value)} (hL : L.length = nL) (h2 : ∀ (j : Nat) (v : ab_V), L[j]? = some v → v ≠ ab_R 0 → ∃ r, ab_VR E v r ∧ (j, r) ∈ lv) (hfr : ab_fr L i = true) (hw : ab_VR E w rw) :
    ∀ (j : Nat) (v : ab_V), (L.set i w)[j]? = some v → v ≠ ab_R 0 → ∃ r, ab_VR E v r ∧ (j, r) ∈ (i, rw) :: lv.filter (fun q => !(q.1 == i) && !(q.1 + 1 == i && q.2.category == 2)) := by
  intro j v hj hv
  by_cases hij : i = j
  · subst hij
    have hlt : i < L.length := by
      have := (List.getElem?_eq_some_iff.mp hj).1
      simpa using this
    rw [List.getElem?_set_self hlt] at hj
    cases hj
    exact ⟨rw, hw, List.mem_cons_self⟩
  · rw [List.getElem?_set_ne hij] at hj
    obtain ⟨r, h3, h4⟩ := h2 j v hj hv
    refine ⟨r, h3, List.mem_cons_of_mem _ (List.mem_filter.mpr ⟨h4, ?_⟩)⟩
    by_cases hn : j + 1 = i
    · subst hn
      have hJ : ¬ ab_isJ v = true := by
        have h5 : (match L[j]? with
          | some v => !ab_isJ v
          | none => true) = true := hfr
        rw [hj] at h5
        simpa using h5
      have hc := ab_VR_c1 h3 hJ
      simp [hc]
    · have : (j + 1 == i) = false := by simpa using hn
      have h0 : (j == i) = false := by simpa using (fun q => hij (q.symm))
      simp [this, h0]
theorem ab_LR_set2 {E : ab_E} {L : List ab_V} {nL i : Nat} {w : ab_V} {rw : Value} {lv : List (Nat × Value)} (hL : L.length = nL) (h2 : ∀ (j : Nat) (v : ab_V), L[j]? = some v → v ≠ ab_R 0 → ∃ r, ab_VR E v r ∧ (j, r) ∈ lv) (hfr : ab_fr L i = true) (hw : ab_VR E w rw) :
    ∀ (j : Nat) (v : ab_V), ((L.set i w).set (i + 1) (ab_R 0))[j]? = some v → v ≠ ab_R 0 → ∃ r, ab_VR E v r ∧ (j, r) ∈ (i, rw) :: lv.filter (fun q => !(q.1 == i) && (!(q.1 == i + 1) && !(q.1 + 1 == i && q.2.category == 2))) := by
  intro j v hj hv
  by_cases h1 : i + 1 = j
  · subst h1
    have hlt : i + 1 < (L.set i w).length := by
      have := (List.getElem?_eq_some_iff.mp hj).1
      simpa using this
    rw [List.getElem?_set_self hlt] at hj
    cases hj
    exact absurd rfl hv
  · rw [List.getElem?_set_ne h1] at hj
    obtain ⟨r, h3, h4⟩ := ab_LR_set hL h2 hfr hw j v hj hv
    refine ⟨r, h3, ?_⟩
    rcases List.mem_cons.mp h4 with h5 | h5
    · rw [h5]; exact List.mem_cons_self
    · obtain ⟨h6, h7⟩ := List.mem_filter.mp h5
      refine List.mem_cons_of_mem _ (List.mem_filter.mpr ⟨h6, ?_⟩)
      have h0 : (j == i + 1) = false := by simpa using (fun q => h1 (q.symm))
      simp only [h0] at h7 ⊢
      simpa using h7
/-- a cell -/
def ab_cell (E : ab_E) (σ : ab_S) (H : Heap) (z : Int) : Prop :=
  (∃ (c : Nat) (q : vw_C) (V : Nat → Value), (ab_sh σ z).1 = (c : Int) + 1 ∧ ab_cl[c]? = some q ∧ t_OB (ab_ad E z) ((ab_ED E).1 c) q.2.2 ((ab_ED E).2 c) H V ∧ ∀ k, k < q.2.2 → ab_VT E (ab_ty c k) (ab_rd σ z k) (V k)) ∨
  (∃ (g n : Nat) (f : Nat → Value), (ab_sh σ z).1 = 21 + (g : Int) ∧ g < 9 ∧ (ab_sh σ z).2 = (n : Int) ∧ n ≤ 60000 ∧ H[ab_ad E z]? = some (arrV (ab_EA E g) n f) ∧ ∀ j, j < n → ab_VT E (ab_aty g) (ab_rd σ z j) (f j)) ∨
  ((ab_sh σ z).1 = 50)
def ab_Rep (E : ab_E) (σ : ab_S) (H : Heap) : Prop :=
  1 ≤ σ.1 ∧ H.size = ab_Eb E + (σ.1 - 1).toNat ∧ (∀ q : Nat, q < ab_Eb E → H[q]? = (ab_EH E)[q]?) ∧ (∀ z : Int, 1 ≤ z → z < σ.1 → ab_cell E σ H z) ∧ ∀ z : Int, ¬ (1 ≤ z ∧ z < σ.1) → ab_sh σ z = (0, 0)
theorem ab_cl_lt {c : Nat} {q : vw_C} (h : ab_cl[c]? = some q) : c < 14 := (List.getElem?_eq_some_iff.mp h).1
theorem ab_Rep_in {E : ab_E} {σ : ab_S} {H : Heap} (h : ab_Rep E σ H) {z : Int} (hz : (ab_sh σ z).1 ≠ 0) : 1 ≤ z ∧ z < σ.1 := by
  by_cases hc : 1 ≤ z ∧ z < σ.1
  · exact hc
  · exact absurd (by rw [h.2.2.2.2 z hc]) hz
theorem ab_Rep_obj {E : ab_E} {σ : ab_S} {H : Heap} (h : ab_Rep E σ H) {z : Int} {c : Nat} (hc : (ab_sh σ z).1 = (c : Int) + 1) (h14 : c < 14) : 0 < z ∧ ∃ (q : vw_C) (V : Nat → Value), ab_cl[c]? = some q ∧ t_OB (ab_ad E z) ((ab_ED E).1 c) q.2.2 ((ab_ED E).2 c) H V ∧ ∀ k, k < q.2.2 → ab_VT E (ab_ty c k) (ab_rd σ z k) (V k) := by
  obtain ⟨h1, h2⟩ := ab_Rep_in h (z := z) (by omega)
  refine ⟨by omega, ?_⟩
  rcases h.2.2.2.1 z h1 h2 with ⟨c', q, V, e1, e2, e3, e4⟩ | ⟨g, n, f, e1, e2, -⟩ | e1
  · have : c' = c := by omega
    subst this
    exact ⟨q, V, e2, e3, e4⟩
  · omega
  · omega
theorem ab_Rep_arr {E : ab_E} {σ : ab_S} {H : Heap} (h : ab_Rep E σ H) {z : Int} {g : Nat} (hg : (ab_sh σ z).1 = 21 + (g : Int)) (h9 : g < 9) : 0 < z ∧ ∃ (n : Nat) (f : Nat → Value), (ab_sh σ z).2 = (n : Int) ∧ n ≤ 60000 ∧ H[ab_ad E z]? = some (arrV (ab_EA E g) n f) ∧ ∀ j, j < n → ab_VT E (ab_aty g) (ab_rd σ z j) (f j) := by
  obtain ⟨h1, h2⟩ := ab_Rep_in h (z := z) (by omega)
  refine ⟨by omega, ?_⟩
  rcases h.2.2.2.1 z h1 h2 with ⟨c', q, V, e1, e2, e3, e4⟩ | ⟨g', n, f, e1, e2, e3, e4, e5⟩ | e1
  · have := ab_cl_lt e2
    omega
  · have : g' = g := by omega
    subst this
    exact ⟨n, f, e3, e4, e5⟩
  · omega
theorem ab_rr_pos {E : ab_E} {z : Int} (h : 0 < z) : ab_rr E z = .ref (ab_ad E z) := by
  unfold ab_rr
  rw [if_neg (by omega), if_pos h]
theorem ab_ad_inj {E : ab_E} {y z : Int} (hy : 1 ≤ y) (hz : 1 ≤ z) (h : ab_ad E y = ab_ad E z) : y = z := by
  unfold ab_ad at h
  omega
theorem ab_ad_ge {E : ab_E} (z : Int) : ab_Eb E ≤ ab_ad E z := by unfold ab_ad; omega
/-- numbers -/
theorem ab_bm32 (x : Int) : x.bmod (2 ^ 32) = ab_w32 x := by
  unfold ab_w32
  rw [Int.bmod_def]
  have e : ((2 ^ 32 : Nat) : Int) = 4294967296 := rfl
  rw [e]
  split <;> omega
theorem ab_bm64 (x : Int) : x.bmod (2 ^ 64) = ab_w64 x := by
  unfold ab_w64
  rw [Int.bmod_def]
  have e : ((2 ^ 64 : Nat) : Int) = 18446744073709551616 := rfl
  rw [e]
  split <;> omega
theorem ab_bm8 (x : Int) : x.bmod (2 ^ 8) = ab_w8 x := by
  unfold ab_w8
  rw [Int.bmod_def]
  have e : ((2 ^ 8 : Nat) : Int) = 256 := rfl
  rw [e]
  split <;> omega
theorem ab_bm16 (x : Int) : x.bmod (2 ^ 16) = ab_w16 x := by
  unfold ab_w16
  rw [Int.bmod_def]
  have e : ((2 ^ 16 : Nat) : Int) = 65536 := rfl
  rw [e]
  split <;> omega
theorem ab_add32 (x y : Int32) : (x + y).toInt = ab_w32 (x.toInt + y.toInt) := by rw [Int32.toInt_add, ab_bm32]
theorem ab_sub32 (x y : Int32) : (x - y).toInt = ab_w32 (x.toInt - y.toInt) := by rw [Int32.toInt_sub, ab_bm32]
theorem ab_mul32 (x y : Int32) : (x * y).toInt = ab_w32 (x.toInt * y.toInt) := by rw [Int32.toInt_mul, ab_bm32]
theorem ab_div32 (x y : Int32) : (x / y).toInt = ab_w32 (x.toInt.tdiv y.toInt) := by rw [Int32.toInt_div, ab_bm32]
theorem ab_neg32 (x : Int32) : (-x).toInt = ab_w32 (-x.toInt) := by rw [Int32.toInt_neg, ab_bm32]
theorem ab_of32 (z : Int) : (Int32.ofInt z).toInt = ab_w32 z := by rw [Int32.toInt_ofInt, ab_bm32]
theorem ab_add64 (x y : Int64) : (x + y).toInt = ab_w64 (x.toInt + y.toInt) := by rw [Int64.toInt_add, ab_bm64]
theorem ab_sub64 (x y : Int64) : (x - y).toInt = ab_w64 (x.toInt - y.toInt) := by rw [Int64.toInt_sub, ab_bm64]
theorem ab_mul64 (x y : Int64) : (x * y).toInt = ab_w64 (x.toInt * y.toInt) := by rw [Int64.toInt_mul, ab_bm64]
theorem ab_div64 (x y : Int64) : (x / y).toInt = ab_w64 (x.toInt.tdiv y.toInt) := by rw [Int64.toInt_div, ab_bm64]
theorem ab_neg64 (x : Int64) : (-x).toInt = ab_w64 (-x.toInt) := by rw [Int64.toInt_neg, ab_bm64]
theorem ab_l2i (x : Int64) : x.toInt32.toInt = ab_w32 x.toInt := by rw [Int64.toInt_toInt32, ab_bm32]
theorem ab_i2l (x : Int32) : x.toInt64.toInt = x.toInt := Int32.toInt_toInt64 x
theorem ab_i2b (x : Int32) : x.toInt8.toInt32.toInt = ab_w8 x.toInt := by rw [Int8.toInt_toInt32, Int32.toInt_toInt8, ab_bm8]
theorem ab_bip (n : Int) : (Int8.ofInt n).toInt32.toInt = ab_w8 n := by rw [Int8.toInt_toInt32, Int8.toInt_ofInt, ab_bm8]
theorem ab_sip (n : Int) : (Int16.ofInt n).toInt32.toInt = ab_w16 n := by rw [Int16.toInt_toInt32, Int16.toInt_ofInt, ab_bm16]
theorem ab_ofto (x : Int32) : Int32.ofInt x.toInt = x := Int32.ofInt_toInt x
theorem ab_ofto64 (x : Int64) : Int64.ofInt x.toInt = x := Int64.ofInt_toInt x
theorem ab_rem32 (x y : Int32) : (x - x / y * y).toInt = x.toInt.tmod y.toInt := rem_toInt x y
theorem ab_rng32 (x : Int32) : -2147483648 ≤ x.toInt ∧ x.toInt < 2147483648 := ⟨Int32.le_toInt x, Int32.toInt_lt x⟩
theorem ab_eq32 {x y : Int32} : x = y ↔ x.toInt = y.toInt := Int32.toInt_inj.symm
theorem ab_eq64 {x y : Int64} : x = y ↔ x.toInt = y.toInt := Int64.toInt_inj.symm
theorem ab_lt32 {x y : Int32} : x < y ↔ x.toInt < y.toInt := Int32.lt_iff_toInt_lt
theorem ab_le32 {x y : Int32} : x ≤ y ↔ x.toInt ≤ y.toInt := Int32.le_iff_toInt_le
theorem ab_clamp {x : Int32} (h : 0 ≤ x.toInt) : x.toNatClampNeg = x.toInt.toNat := rfl
theorem ab_in32 {x : Int32} {n : Nat} (h0 : 0 ≤ x.toInt) (h : x.toInt < n) : ¬ (x < 0 ∨ n ≤ x.toNatClampNeg) := by
  rw [ab_clamp h0]
  rintro (h1 | h1)
  · rw [ab_lt32] at h1
    have : (0 : Int32).toInt = 0 := rfl
    omega
  · omega
