/-! THE GEOMETRY: the cells that the law makes before its loop, their shapes and the references that never change -/
def ab_shL : List (Int × Int) := [(0, 0), (12, 0), (8, 0), (10, 0), (23, 1000), (5, 0), (26, 5), (27, 6), (21, 4), (21, 4), (2, 0), (21, 2), (21, 12), (2, 0), (21, 2), (21, 12), (2, 0), (21, 2), (21, 12), (2, 0), (21, 2), (21, 12), (2, 0), (21, 2), (21, 12), (6, 0), (6, 0), (6, 0), (6, 0), (6, 0), (6, 0), (9, 0), (21, 5), (21, 5), (24, 5), (21, 6), (4, 0), (28, 16), (28, 3), (9, 0), (21, 5), (21, 5), (24, 5), (21, 6), (9, 0), (21, 5), (21, 5), (24, 5), (21, 6), (9, 0), (21, 5), (21, 5), (24, 5), (21, 6), (9, 0), (21, 5), (21, 5), (24, 5), (21, 6), (9, 0), (21, 5), (21, 5), (24, 5), (21, 6), (9, 0), (21, 5), (21, 5), (24, 5), (21, 6), (9, 0), (21, 5), (21, 5), (24, 5), (21, 6), (9, 0), (21, 5), (21, 5), (24, 5), (21, 6), (9, 0), (21, 5), (21, 5), (24, 5), (21, 6), (9, 0), (21, 5), (21, 5), (24, 5), (21, 6), (9, 0), (21, 5), (21, 5), (24, 5), (21, 6), (9, 0), (21, 5), (21, 5), (24, 5), (21, 6), (9, 0), (21, 5), (21, 5), (24, 5), (21, 6), (9, 0), (21, 5), (21, 5), (24, 5), (21, 6), (9, 0), (21, 5), (21, 5), (24, 5), (21, 6), (9, 0), (21, 5), (21, 5), (24, 5), (21, 6), (9, 0), (21, 5), (21, 5), (24, 5), (21, 6), (9, 0), (21, 5), (21, 5), (24, 5), (21, 6), (9, 0), (21, 5), (21, 5), (24, 5), (21, 6), (7, 0), (1, 0), (21, 6), (21, 6), (21, 7), (21, 7), (21, 7), (1, 0), (21, 6), (21, 6), (21, 7), (21, 7), (21, 7), (21, 4), (3, 0), (25, 12), (25, 12), (21, 12), (21, 12), (29, 12), (21, 12), (21, 12), (21, 12), (21, 12), (21, 12), (21, 12), (21, 12), (21, 12), (21, 12), (21, 12), (21, 12), (21, 12), (29, 12), (21, 12), (21, 12), (21, 12), (21, 12), (21, 12), (21, 12), (21, 12), (21, 12), (21, 12), (21, 12), (21, 12), (21, 12), (21, 12), (21, 12), (1, 0), (21, 6), (21, 6), (21, 7), (21, 7), (21, 7), (1, 0), (21, 6), (21, 6), (21, 7), (21, 7), (21, 7), (1, 0), (21, 6), (21, 6), (21, 7), (21, 7), (21, 7), (1, 0), (21, 6), (21, 6), (21, 7), (21, 7), (21, 7), (1, 0), (21, 6), (21, 6), (21, 7), (21, 7), (21, 7), (1, 0), (21, 6), (21, 6), (21, 7), (21, 7), (21, 7), (1, 0), (21, 6), (21, 6), (21, 7), (21, 7), (21, 7), (1, 0), (21, 6), (21, 6), (21, 7), (21, 7), (21, 7), (1, 0), (21, 6), (21, 6), (21, 7), (21, 7), (21, 7), (1, 0), (21, 6), (21, 6), (21, 7), (21, 7), (21, 7), (1, 0), (21, 6), (21, 6), (21, 7), (21, 7), (21, 7), (1, 0), (21, 6), (21, 6), (21, 7), (21, 7), (21, 7), (1, 0), (21, 6), (21, 6), (21, 7), (21, 7), (21, 7), (1, 0), (21, 6), (21, 6), (21, 7), (21, 7), (21, 7), (1, 0), (21, 6), (21, 6), (21, 7), (21, 7), (21, 7), (1, 0), (21, 6), (21, 6), (21, 7), (21, 7), (21, 7), (1, 0), (21, 6), (21, 6), (21, 7), (21, 7), (21, 7), (1, 0), (21, 6), (21, 6), (21, 7), (21, 7), (21, 7), (1, 0), (21, 6), (21, 6), (21, 7), (21, 7), (21, 7), (1, 0), (21, 6), (21, 6), (21, 7), (21, 7), (21, 7), (1, 0), (21, 6), (21, 6), (21, 7), (21, 7), (21, 7), (1, 0), (21, 6), (21, 6), (21, 7), (21, 7), (21, 7), (1, 0), (21, 6), (21, 6), (21, 7), (21, 7), (21, 7), (1, 0), (21, 6), (21, 6), (21, 7), (21, 7), (21, 7), (11, 0), (21, 9), (21, 6), (21, 8), (5, 0), (26, 5), (27, 6), (21, 4), (21, 4), (2, 0), (21, 2), (21, 12), (2, 0), (21, 2), (21, 12), (2, 0), (21, 2), (21, 12), (2, 0), (21, 2), (21, 12), (2, 0), (21, 2), (21, 12), (6, 0), (6, 0), (6, 0), (6, 0), (6, 0), (6, 0), (14, 0), (23, 1000), (21, 18), (21, 288), (21, 54), (21, 2), (21, 2), (24, 2), (22, 144), (22, 144), (21, 9), (21, 6), (21, 6), (22, 1)]
def ab_ptL : List (List Int) := [[], [2, 31, 36, 134, 148, 325, 328], [3], [4], [], [0, 0, 0, 0, 0, 0, 6, 0, 7, 0, 0, 0, 0, 8, 9], [10, 13, 16, 19, 22], [25, 26, 27, 28, 29, 30], [], [], [0, 0, 0, 11, 12], [], [], [0, 0, 0, 14, 15], [], [], [0, 0, 0, 17, 18], [], [], [0, 0, 0, 20, 21], [], [], [0, 0, 0, 23, 24], [], [], [], [], [], [], [], [], [32, 33, 34, 35], [], [], [], [], [37, 38], [39, 44, 49, 54, 59, 64, 69, 74, 79, 84, 89, 94, 99, 104, 109, 114], [119, 124, 129], [40, 41, 42, 43], [], [], [], [], [45, 46, 47, 48], [], [], [], [], [50, 51, 52, 53], [], [], [], [], [55, 56, 57, 58], [], [], [], [], [60, 61, 62, 63], [], [], [], [], [65, 66, 67, 68], [], [], [], [], [70, 71, 72, 73], [], [], [], [], [75, 76, 77, 78], [], [], [], [], [80, 81, 82, 83], [], [], [], [], [85, 86, 87, 88], [], [], [], [], [90, 91, 92, 93], [], [], [], [], [95, 96, 97, 98], [], [], [], [], [100, 101, 102, 103], [], [], [], [], [105, 106, 107, 108], [], [], [], [], [110, 111, 112, 113], [], [], [], [], [115, 116, 117, 118], [], [], [], [], [120, 121, 122, 123], [], [], [], [], [125, 126, 127, 128], [], [], [], [], [130, 131, 132, 133], [], [], [], [], [135, 141, 147], [0, 136, 137, 138, 139, 140], [], [], [], [], [], [0, 142, 143, 144, 145, 146], [], [], [], [], [], [], [149, 150, 151, 152, 153, 166, 179, 180], [181, 193, 205, 217, 229, 241, 253, 265, 277, 289, 301, 313], [187, 199, 211, 223, 235, 247, 259, 271, 283, 295, 307, 319], [], [], [154, 155, 156, 157, 158, 159, 160, 161, 162, 163, 164, 165], [], [], [], [], [], [], [], [], [], [], [], [], [167, 168, 169, 170, 171, 172, 173, 174, 175, 176, 177, 178], [], [], [], [], [], [], [], [], [], [], [], [], [], [], [0, 182, 183, 184, 185, 186], [], [], [], [], [], [0, 188, 189, 190, 191, 192], [], [], [], [], [], [0, 194, 195, 196, 197, 198], [], [], [], [], [], [0, 200, 201, 202, 203, 204], [], [], [], [], [], [0, 206, 207, 208, 209, 210], [], [], [], [], [], [0, 212, 213, 214, 215, 216], [], [], [], [], [], [0, 218, 219, 220, 221, 222], [], [], [], [], [], [0, 224, 225, 226, 227, 228], [], [], [], [], [], [0, 230, 231, 232, 233, 234], [], [], [], [], [], [0, 236, 237, 238, 239, 240], [], [], [], [], [], [0, 242, 243, 244, 245, 246], [], [], [], [], [], [0, 248, 249, 250, 251, 252], [], [], [], [], [], [0, 254, 255, 256, 257, 258], [], [], [], [], [], [0, 260, 261, 262, 263, 264], [], [], [], [], [], [0, 266, 267, 268, 269, 270], [], [], [], [], [], [0, 272, 273, 274, 275, 276], [], [], [], [], [], [0, 278, 279, 280, 281, 282], [], [], [], [], [], [0, 284, 285, 286, 287, 288], [], [], [], [], [], [0, 290, 291, 292, 293, 294], [], [], [], [], [], [0, 296, 297, 298, 299, 300], [], [], [], [], [], [0, 302, 303, 304, 305, 306], [], [], [], [], [], [0, 308, 309, 310, 311, 312], [], [], [], [], [], [0, 314, 315, 316, 317, 318], [], [], [], [], [], [0, 320, 321, 322, 323, 324], [], [], [], [], [], [326, 327], [], [], [], [0, 0, 0, 0, 0, 0, 330, 0, 331, 0, 0, 0, 0, 332, 333], [334, 337, 340, 343, 346], [349, 350, 351, 352, 353, 354], [], [], [0, 0, 0, 335, 336], [], [], [0, 0, 0, 338, 339], [], [], [0, 0, 0, 341, 342], [], [], [0, 0, 0, 344, 345], [], [], [0, 0, 0, 347, 348], [], [], [], [], [], [], [], [], [0, 0, 0, 0, 0, 356, 0, 0, 0, 0, 0, 0, 0, 0, 0, 0, 357, 358, 359, 0, 0, 0, 0, 0, 0, 0, 0, 360, 361, 362, 363, 364, 365, 366, 0, 0, 367], [], [], [], [], [], [], [], [], [], [], [], [], []]
def ab_shT (a : Int) : Int × Int := ab_shL.getD a.toNat (0, 0)
def ab_pt (a f : Int) : Int := (ab_ptL.getD a.toNat []).getD f.toNat 0
def ab_Geo (σ : ab_S) : Prop := 369 ≤ σ.1 ∧ (∀ a, 0 ≤ a → a ≤ 368 → ab_sh σ a = ab_shT a) ∧ (∀ a f, 0 ≤ a → a ≤ 368 → 0 ≤ f → ab_pt a f ≠ 0 → ab_rd σ a f = ab_pt a f)
/-- a row filled -/
def ab_fl (σ : ab_S) (a n : Int) (g : Int → Int) : ab_S := (σ.1, σ.2.1, fun x y => if x = a ∧ 0 ≤ y ∧ y < n then g y else σ.2.2 x y)
/-- nothing changed but P -/
def ab_Same (P : Int → Int → Prop) (σ σ' : ab_S) : Prop := σ'.1 = σ.1 ∧ (∀ a, ab_sh σ' a = ab_sh σ a) ∧ ∀ a f, ¬ P a f → ab_rd σ' a f = ab_rd σ a f
section
variable {σ τ υ : ab_S} {a k v n x y i : Int} {g : Int → Int} {P R S : Int → Int → Prop}
theorem ab_rdw : ab_rd (ab_wr σ a k v) x y = if x = a ∧ y = k then v else ab_rd σ x y := rfl
theorem ab_rdw_eq : ab_rd (ab_wr σ a k v) a k = v := if_pos ⟨rfl, rfl⟩
theorem ab_rdw_ne (h : x ≠ a ∨ y ≠ k) : ab_rd (ab_wr σ a k v) x y = ab_rd σ x y := if_neg (fun q => h.elim (fun w => w q.1) (fun w => w q.2))
theorem ab_shw : ab_sh (ab_wr σ a k v) x = ab_sh σ x := rfl
theorem ab_nxw : (ab_wr σ a k v).1 = σ.1 := rfl
theorem ab_rdf : ab_rd (ab_fl σ a n g) x y = if x = a ∧ 0 ≤ y ∧ y < n then g y else ab_rd σ x y := rfl
theorem ab_rdf_in (h : 0 ≤ y ∧ y < n) : ab_rd (ab_fl σ a n g) a y = g y := if_pos ⟨rfl, h⟩
theorem ab_rdf_ne (h : x ≠ a ∨ y < 0 ∨ n ≤ y) : ab_rd (ab_fl σ a n g) x y = ab_rd σ x y := if_neg (fun q => by have := q.1; have := q.2.1; have := q.2.2; omega)
theorem ab_shf : ab_sh (ab_fl σ a n g) x = ab_sh σ x := rfl
theorem ab_nxf : (ab_fl σ a n g).1 = σ.1 := rfl
theorem ab_sext {σ τ : ab_S} (h1 : σ.1 = τ.1) (h2 : ∀ a, ab_sh σ a = ab_sh τ a) (h3 : ∀ a f, ab_rd σ a f = ab_rd τ a f) : σ = τ := by
  obtain ⟨a1, a2, a3⟩ := σ
  obtain ⟨b1, b2, b3⟩ := τ
  have e1 : a1 = b1 := h1
  have e2 : a2 = b2 := funext h2
  have e3 : a3 = b3 := funext fun a => funext fun f => h3 a f
  rw [e1, e2, e3]
theorem ab_fl0 (h : n ≤ 0) : ab_fl σ a n g = σ := ab_sext rfl (fun _ => rfl) (fun x y => by rw [ab_rdf, if_neg (by omega)])
theorem ab_fl_succ (h : 0 ≤ n) : ab_wr (ab_fl σ a n g) a n (g n) = ab_fl σ a (n + 1) g := ab_sext rfl (fun _ => rfl) (fun x y => by
  rw [ab_rdw, ab_rdf, ab_rdf]
  by_cases h1 : x = a
  · by_cases h2 : y = n
    · subst h2; rw [if_pos ⟨h1, rfl⟩, if_pos (by omega)]
    · rw [if_neg (by omega)]
      by_cases h3 : 0 ≤ y ∧ y < n
      · rw [if_pos (by omega), if_pos (by omega)]
      · rw [if_neg (by omega), if_neg (by omega)]
  · rw [if_neg (by omega), if_neg (by omega), if_neg (by omega)])
theorem ab_fl_congr {g' : Int → Int} (h : ∀ y, 0 ≤ y → y < n → g y = g' y) : ab_fl σ a n g = ab_fl σ a n g' := ab_sext rfl (fun _ => rfl) (fun x y => by
  rw [ab_rdf, ab_rdf]
  by_cases h1 : x = a ∧ 0 ≤ y ∧ y < n
  · rw [if_pos h1, if_pos h1, h y h1.2.1 h1.2.2]
  · rw [if_neg h1, if_neg h1])
theorem ab_Same.refl : ab_Same P σ σ := ⟨rfl, fun _ => rfl, fun _ _ _ => rfl⟩
theorem ab_Same.trans (h : ab_Same P σ τ) (h' : ab_Same P τ υ) : ab_Same P σ υ := ⟨h'.1.trans h.1, fun a => (h'.2.1 a).trans (h.2.1 a), fun a f q => (h'.2.2 a f q).trans (h.2.2 a f q)⟩
theorem ab_Same.mono (h : ab_Same P σ τ) (hs : ∀ a f, P a f → R a f) : ab_Same R σ τ := ⟨h.1, h.2.1, fun a f q => h.2.2 a f (fun w => q (hs a f w))⟩
theorem ab_Same.wr (h : ab_Same P σ τ) (hp : P a k) : ab_Same P σ (ab_wr τ a k v) := ⟨h.1, h.2.1, fun x f q => by
  rw [ab_rdw_ne, h.2.2 x f q]
  by_cases hx : x = a
  · right; intro hf; subst hx; subst hf; exact q hp
  · left; exact hx⟩
theorem ab_Same.fl (h : ab_Same P σ τ) (hp : ∀ y, 0 ≤ y → y < n → P a y) : ab_Same P σ (ab_fl τ a n g) := ⟨h.1, h.2.1, fun x f q => by
  rw [ab_rdf_ne, h.2.2 x f q]
  by_cases hx : x = a
  · right
    by_cases h1 : 0 ≤ f ∧ f < n
    · exact absurd (hx ▸ hp f h1.1 h1.2) q
    · omega
  · left; exact hx⟩
theorem ab_Geo.wr (h : ab_Geo σ) (hp : a ≤ 368 → 0 ≤ a → 0 ≤ k → ab_pt a k = 0) : ab_Geo (ab_wr σ a k v) := ⟨h.1, h.2.1, fun x f h1 h2 h3 h4 => by
  rw [ab_rdw_ne, h.2.2 x f h1 h2 h3 h4]
  by_cases hx : x = a
  · right; intro hf; subst hx; subst hf; exact h4 (hp h2 h1 h3)
  · left; exact hx⟩
theorem ab_Geo.fl (h : ab_Geo σ) (hp : a ≤ 368 → 0 ≤ a → ∀ y, 0 ≤ y → y < n → ab_pt a y = 0) : ab_Geo (ab_fl σ a n g) := ⟨h.1, h.2.1, fun x f h1 h2 h3 h4 => by
  rw [ab_rdf_ne, h.2.2 x f h1 h2 h3 h4]
  by_cases hx : x = a
  · right
    by_cases h5 : f < n
    · subst hx; exact absurd (hp h2 h1 f h3 h5) h4
    · omega
  · left; exact hx⟩
theorem ab_Geo.same (h : ab_Geo σ) (hs : ab_Same P σ τ) (hp : ∀ a f, 0 ≤ a → a ≤ 368 → 0 ≤ f → P a f → ab_pt a f = 0) : ab_Geo τ := ⟨by rw [hs.1]; exact h.1, fun a h1 h2 => by rw [hs.2.1]; exact h.2.1 a h1 h2, fun a f h1 h2 h3 h4 => by
  rw [hs.2.2 a f (fun q => h4 (hp a f h1 h2 h3 q))]
  exact h.2.2 a f h1 h2 h3 h4⟩
theorem ab_w32_id {x : Int} (h1 : -2147483648 ≤ x) (h2 : x < 2147483648) : ab_w32 x = x := by unfold ab_w32; omega
theorem ab_w64_id {x : Int} (h1 : -9223372036854775808 ≤ x) (h2 : x < 9223372036854775808) : ab_w64 x = x := by unfold ab_w64; omega
theorem ab_w8_id {x : Int} (h1 : -128 ≤ x) (h2 : x < 128) : ab_w8 x = x := by unfold ab_w8; omega
theorem ab_mulb {a b A B : Int} (h1 : 0 ≤ a) (h2 : a ≤ A) (h3 : 0 ≤ b) (h4 : b ≤ B) : 0 ≤ a * b ∧ a * b ≤ A * B := ⟨Int.mul_nonneg h1 h3, Int.mul_le_mul h2 h4 h3 (by omega)⟩
end
/-- n turns of a loop from i on -/
def ab_it {α : Type} (f : Int → α → α) : Nat → Int → α → α
  | 0, _, s => s
  | n + 1, i, s => ab_it f n (i + 1) (f i s)
theorem ab_it_succ {α : Type} {f : Int → α → α} : ∀ (n : Nat) (i : Int) (s : α), ab_it f (n + 1) i s = f (i + n) (ab_it f n i s)
  | 0, i, s => by simp [ab_it]
  | n + 1, i, s => by
    rw [ab_it, ab_it_succ n (i + 1) (f i s), ab_it]
    congr 1
    omega
theorem ab_it_congr {α : Type} {f f' : Int → α → α} (I : Int → α → Prop) : ∀ (n : Nat) (i : Int) (s : α), (∀ j t, i ≤ j → j < i + n → I j t → f j t = f' j t ∧ I (j + 1) (f j t)) → I i s → ab_it f n i s = ab_it f' n i s
  | 0, _, _, _, _ => rfl
  | n + 1, i, s, h, h0 => by
    have h1 := h i s (by omega) (by omega) h0
    rw [ab_it, ab_it, ← h1.1]
    exact ab_it_congr I n (i + 1) (f i s) (fun j t q1 q2 q3 => h j t (by omega) (by omega) q3) h1.2
theorem ab_it_inv {α : Type} {f : Int → α → α} (I : Int → α → Prop) : ∀ (n : Nat) (i : Int) (s : α), (∀ j t, i ≤ j → j < i + n → I j t → I (j + 1) (f j t)) → I i s → I (i + n) (ab_it f n i s)
  | 0, i, _, _, h0 => by simpa [ab_it] using h0
  | n + 1, i, s, h, h0 => by
    have h1 := h i s (by omega) (by omega) h0
    have := ab_it_inv I n (i + 1) (f i s) (fun j t q1 q2 q3 => h j t (by omega) (by omega) q3) h1
    rw [ab_it]
    have e : i + 1 + (n : Int) = i + ((n + 1 : Nat) : Int) := by omega
    rwa [e] at this
theorem gS_1 {σ : ab_S} (h : ab_Geo σ) : ab_sh σ 1 = (12, 0) := h.2.1 1 (by decide) (by decide)
theorem gS_2 {σ : ab_S} (h : ab_Geo σ) : ab_sh σ 2 = (8, 0) := h.2.1 2 (by decide) (by decide)
theorem gS_3 {σ : ab_S} (h : ab_Geo σ) : ab_sh σ 3 = (10, 0) := h.2.1 3 (by decide) (by decide)
theorem gS_4 {σ : ab_S} (h : ab_Geo σ) : ab_sh σ 4 = (23, 1000) := h.2.1 4 (by decide) (by decide)
theorem gS_5 {σ : ab_S} (h : ab_Geo σ) : ab_sh σ 5 = (5, 0) := h.2.1 5 (by decide) (by decide)
theorem gS_6 {σ : ab_S} (h : ab_Geo σ) : ab_sh σ 6 = (26, 5) := h.2.1 6 (by decide) (by decide)
theorem gS_7 {σ : ab_S} (h : ab_Geo σ) : ab_sh σ 7 = (27, 6) := h.2.1 7 (by decide) (by decide)
theorem gS_8 {σ : ab_S} (h : ab_Geo σ) : ab_sh σ 8 = (21, 4) := h.2.1 8 (by decide) (by decide)
theorem gS_9 {σ : ab_S} (h : ab_Geo σ) : ab_sh σ 9 = (21, 4) := h.2.1 9 (by decide) (by decide)
theorem gS_31 {σ : ab_S} (h : ab_Geo σ) : ab_sh σ 31 = (9, 0) := h.2.1 31 (by decide) (by decide)
theorem gS_32 {σ : ab_S} (h : ab_Geo σ) : ab_sh σ 32 = (21, 5) := h.2.1 32 (by decide) (by decide)
theorem gS_33 {σ : ab_S} (h : ab_Geo σ) : ab_sh σ 33 = (21, 5) := h.2.1 33 (by decide) (by decide)
theorem gS_34 {σ : ab_S} (h : ab_Geo σ) : ab_sh σ 34 = (24, 5) := h.2.1 34 (by decide) (by decide)
theorem gS_35 {σ : ab_S} (h : ab_Geo σ) : ab_sh σ 35 = (21, 6) := h.2.1 35 (by decide) (by decide)
theorem gS_36 {σ : ab_S} (h : ab_Geo σ) : ab_sh σ 36 = (4, 0) := h.2.1 36 (by decide) (by decide)
theorem gS_37 {σ : ab_S} (h : ab_Geo σ) : ab_sh σ 37 = (28, 16) := h.2.1 37 (by decide) (by decide)
theorem gS_38 {σ : ab_S} (h : ab_Geo σ) : ab_sh σ 38 = (28, 3) := h.2.1 38 (by decide) (by decide)
theorem gS_134 {σ : ab_S} (h : ab_Geo σ) : ab_sh σ 134 = (7, 0) := h.2.1 134 (by decide) (by decide)
theorem gS_135 {σ : ab_S} (h : ab_Geo σ) : ab_sh σ 135 = (1, 0) := h.2.1 135 (by decide) (by decide)
theorem gS_136 {σ : ab_S} (h : ab_Geo σ) : ab_sh σ 136 = (21, 6) := h.2.1 136 (by decide) (by decide)
theorem gS_137 {σ : ab_S} (h : ab_Geo σ) : ab_sh σ 137 = (21, 6) := h.2.1 137 (by decide) (by decide)
theorem gS_138 {σ : ab_S} (h : ab_Geo σ) : ab_sh σ 138 = (21, 7) := h.2.1 138 (by decide) (by decide)
theorem gS_139 {σ : ab_S} (h : ab_Geo σ) : ab_sh σ 139 = (21, 7) := h.2.1 139 (by decide) (by decide)
theorem gS_140 {σ : ab_S} (h : ab_Geo σ) : ab_sh σ 140 = (21, 7) := h.2.1 140 (by decide) (by decide)
theorem gS_141 {σ : ab_S} (h : ab_Geo σ) : ab_sh σ 141 = (1, 0) := h.2.1 141 (by decide) (by decide)
theorem gS_142 {σ : ab_S} (h : ab_Geo σ) : ab_sh σ 142 = (21, 6) := h.2.1 142 (by decide) (by decide)
theorem gS_143 {σ : ab_S} (h : ab_Geo σ) : ab_sh σ 143 = (21, 6) := h.2.1 143 (by decide) (by decide)
theorem gS_144 {σ : ab_S} (h : ab_Geo σ) : ab_sh σ 144 = (21, 7) := h.2.1 144 (by decide) (by decide)
theorem gS_145 {σ : ab_S} (h : ab_Geo σ) : ab_sh σ 145 = (21, 7) := h.2.1 145 (by decide) (by decide)
theorem gS_146 {σ : ab_S} (h : ab_Geo σ) : ab_sh σ 146 = (21, 7) := h.2.1 146 (by decide) (by decide)
theorem gS_147 {σ : ab_S} (h : ab_Geo σ) : ab_sh σ 147 = (21, 4) := h.2.1 147 (by decide) (by decide)
theorem gS_148 {σ : ab_S} (h : ab_Geo σ) : ab_sh σ 148 = (3, 0) := h.2.1 148 (by decide) (by decide)
theorem gS_149 {σ : ab_S} (h : ab_Geo σ) : ab_sh σ 149 = (25, 12) := h.2.1 149 (by decide) (by decide)
theorem gS_150 {σ : ab_S} (h : ab_Geo σ) : ab_sh σ 150 = (25, 12) := h.2.1 150 (by decide) (by decide)
theorem gS_151 {σ : ab_S} (h : ab_Geo σ) : ab_sh σ 151 = (21, 12) := h.2.1 151 (by decide) (by decide)
theorem gS_152 {σ : ab_S} (h : ab_Geo σ) : ab_sh σ 152 = (21, 12) := h.2.1 152 (by decide) (by decide)
theorem gS_153 {σ : ab_S} (h : ab_Geo σ) : ab_sh σ 153 = (29, 12) := h.2.1 153 (by decide) (by decide)
theorem gS_166 {σ : ab_S} (h : ab_Geo σ) : ab_sh σ 166 = (29, 12) := h.2.1 166 (by decide) (by decide)
theorem gS_179 {σ : ab_S} (h : ab_Geo σ) : ab_sh σ 179 = (21, 12) := h.2.1 179 (by decide) (by decide)
theorem gS_180 {σ : ab_S} (h : ab_Geo σ) : ab_sh σ 180 = (21, 12) := h.2.1 180 (by decide) (by decide)
theorem gS_325 {σ : ab_S} (h : ab_Geo σ) : ab_sh σ 325 = (11, 0) := h.2.1 325 (by decide) (by decide)
theorem gS_326 {σ : ab_S} (h : ab_Geo σ) : ab_sh σ 326 = (21, 9) := h.2.1 326 (by decide) (by decide)
theorem gS_327 {σ : ab_S} (h : ab_Geo σ) : ab_sh σ 327 = (21, 6) := h.2.1 327 (by decide) (by decide)
theorem gS_328 {σ : ab_S} (h : ab_Geo σ) : ab_sh σ 328 = (21, 8) := h.2.1 328 (by decide) (by decide)
theorem gS_329 {σ : ab_S} (h : ab_Geo σ) : ab_sh σ 329 = (5, 0) := h.2.1 329 (by decide) (by decide)
theorem gS_330 {σ : ab_S} (h : ab_Geo σ) : ab_sh σ 330 = (26, 5) := h.2.1 330 (by decide) (by decide)
theorem gS_331 {σ : ab_S} (h : ab_Geo σ) : ab_sh σ 331 = (27, 6) := h.2.1 331 (by decide) (by decide)
theorem gS_332 {σ : ab_S} (h : ab_Geo σ) : ab_sh σ 332 = (21, 4) := h.2.1 332 (by decide) (by decide)
theorem gS_333 {σ : ab_S} (h : ab_Geo σ) : ab_sh σ 333 = (21, 4) := h.2.1 333 (by decide) (by decide)
theorem gS_355 {σ : ab_S} (h : ab_Geo σ) : ab_sh σ 355 = (14, 0) := h.2.1 355 (by decide) (by decide)
theorem gS_356 {σ : ab_S} (h : ab_Geo σ) : ab_sh σ 356 = (23, 1000) := h.2.1 356 (by decide) (by decide)
theorem gS_357 {σ : ab_S} (h : ab_Geo σ) : ab_sh σ 357 = (21, 18) := h.2.1 357 (by decide) (by decide)
theorem gS_358 {σ : ab_S} (h : ab_Geo σ) : ab_sh σ 358 = (21, 288) := h.2.1 358 (by decide) (by decide)
theorem gS_359 {σ : ab_S} (h : ab_Geo σ) : ab_sh σ 359 = (21, 54) := h.2.1 359 (by decide) (by decide)
theorem gS_360 {σ : ab_S} (h : ab_Geo σ) : ab_sh σ 360 = (21, 2) := h.2.1 360 (by decide) (by decide)
theorem gS_361 {σ : ab_S} (h : ab_Geo σ) : ab_sh σ 361 = (21, 2) := h.2.1 361 (by decide) (by decide)
theorem gS_362 {σ : ab_S} (h : ab_Geo σ) : ab_sh σ 362 = (24, 2) := h.2.1 362 (by decide) (by decide)
theorem gS_363 {σ : ab_S} (h : ab_Geo σ) : ab_sh σ 363 = (22, 144) := h.2.1 363 (by decide) (by decide)
theorem gS_364 {σ : ab_S} (h : ab_Geo σ) : ab_sh σ 364 = (22, 144) := h.2.1 364 (by decide) (by decide)
theorem gS_365 {σ : ab_S} (h : ab_Geo σ) : ab_sh σ 365 = (21, 9) := h.2.1 365 (by decide) (by decide)
theorem gS_366 {σ : ab_S} (h : ab_Geo σ) : ab_sh σ 366 = (21, 6) := h.2.1 366 (by decide) (by decide)
theorem gS_367 {σ : ab_S} (h : ab_Geo σ) : ab_sh σ 367 = (21, 6) := h.2.1 367 (by decide) (by decide)
theorem gS_368 {σ : ab_S} (h : ab_Geo σ) : ab_sh σ 368 = (22, 1) := h.2.1 368 (by decide) (by decide)
theorem gP_1_0 {σ : ab_S} (h : ab_Geo σ) : ab_rd σ 1 0 = 2 := h.2.2 1 0 (by decide) (by decide) (by decide) (by decide)
theorem gP_1_1 {σ : ab_S} (h : ab_Geo σ) : ab_rd σ 1 1 = 31 := h.2.2 1 1 (by decide) (by decide) (by decide) (by decide)
theorem gP_1_2 {σ : ab_S} (h : ab_Geo σ) : ab_rd σ 1 2 = 36 := h.2.2 1 2 (by decide) (by decide) (by decide) (by decide)
theorem gP_1_3 {σ : ab_S} (h : ab_Geo σ) : ab_rd σ 1 3 = 134 := h.2.2 1 3 (by decide) (by decide) (by decide) (by decide)
theorem gP_1_4 {σ : ab_S} (h : ab_Geo σ) : ab_rd σ 1 4 = 148 := h.2.2 1 4 (by decide) (by decide) (by decide) (by decide)
theorem gP_1_5 {σ : ab_S} (h : ab_Geo σ) : ab_rd σ 1 5 = 325 := h.2.2 1 5 (by decide) (by decide) (by decide) (by decide)
theorem gP_1_6 {σ : ab_S} (h : ab_Geo σ) : ab_rd σ 1 6 = 328 := h.2.2 1 6 (by decide) (by decide) (by decide) (by decide)
theorem gP_2_0 {σ : ab_S} (h : ab_Geo σ) : ab_rd σ 2 0 = 3 := h.2.2 2 0 (by decide) (by decide) (by decide) (by decide)
theorem gP_3_0 {σ : ab_S} (h : ab_Geo σ) : ab_rd σ 3 0 = 4 := h.2.2 3 0 (by decide) (by decide) (by decide) (by decide)
theorem gP_31_0 {σ : ab_S} (h : ab_Geo σ) : ab_rd σ 31 0 = 32 := h.2.2 31 0 (by decide) (by decide) (by decide) (by decide)
theorem gP_31_1 {σ : ab_S} (h : ab_Geo σ) : ab_rd σ 31 1 = 33 := h.2.2 31 1 (by decide) (by decide) (by decide) (by decide)
theorem gP_31_2 {σ : ab_S} (h : ab_Geo σ) : ab_rd σ 31 2 = 34 := h.2.2 31 2 (by decide) (by decide) (by decide) (by decide)
theorem gP_31_3 {σ : ab_S} (h : ab_Geo σ) : ab_rd σ 31 3 = 35 := h.2.2 31 3 (by decide) (by decide) (by decide) (by decide)
theorem gP_36_0 {σ : ab_S} (h : ab_Geo σ) : ab_rd σ 36 0 = 37 := h.2.2 36 0 (by decide) (by decide) (by decide) (by decide)
theorem gP_36_1 {σ : ab_S} (h : ab_Geo σ) : ab_rd σ 36 1 = 38 := h.2.2 36 1 (by decide) (by decide) (by decide) (by decide)
theorem gP_134_0 {σ : ab_S} (h : ab_Geo σ) : ab_rd σ 134 0 = 135 := h.2.2 134 0 (by decide) (by decide) (by decide) (by decide)
theorem gP_134_1 {σ : ab_S} (h : ab_Geo σ) : ab_rd σ 134 1 = 141 := h.2.2 134 1 (by decide) (by decide) (by decide) (by decide)
theorem gP_134_2 {σ : ab_S} (h : ab_Geo σ) : ab_rd σ 134 2 = 147 := h.2.2 134 2 (by decide) (by decide) (by decide) (by decide)
theorem gP_148_0 {σ : ab_S} (h : ab_Geo σ) : ab_rd σ 148 0 = 149 := h.2.2 148 0 (by decide) (by decide) (by decide) (by decide)
theorem gP_148_1 {σ : ab_S} (h : ab_Geo σ) : ab_rd σ 148 1 = 150 := h.2.2 148 1 (by decide) (by decide) (by decide) (by decide)
theorem gP_148_2 {σ : ab_S} (h : ab_Geo σ) : ab_rd σ 148 2 = 151 := h.2.2 148 2 (by decide) (by decide) (by decide) (by decide)
theorem gP_148_3 {σ : ab_S} (h : ab_Geo σ) : ab_rd σ 148 3 = 152 := h.2.2 148 3 (by decide) (by decide) (by decide) (by decide)
theorem gP_148_4 {σ : ab_S} (h : ab_Geo σ) : ab_rd σ 148 4 = 153 := h.2.2 148 4 (by decide) (by decide) (by decide) (by decide)
theorem gP_148_5 {σ : ab_S} (h : ab_Geo σ) : ab_rd σ 148 5 = 166 := h.2.2 148 5 (by decide) (by decide) (by decide) (by decide)
theorem gP_148_6 {σ : ab_S} (h : ab_Geo σ) : ab_rd σ 148 6 = 179 := h.2.2 148 6 (by decide) (by decide) (by decide) (by decide)
theorem gP_148_7 {σ : ab_S} (h : ab_Geo σ) : ab_rd σ 148 7 = 180 := h.2.2 148 7 (by decide) (by decide) (by decide) (by decide)
theorem gP_325_0 {σ : ab_S} (h : ab_Geo σ) : ab_rd σ 325 0 = 326 := h.2.2 325 0 (by decide) (by decide) (by decide) (by decide)
theorem gP_325_1 {σ : ab_S} (h : ab_Geo σ) : ab_rd σ 325 1 = 327 := h.2.2 325 1 (by decide) (by decide) (by decide) (by decide)
theorem gP_355_5 {σ : ab_S} (h : ab_Geo σ) : ab_rd σ 355 5 = 356 := h.2.2 355 5 (by decide) (by decide) (by decide) (by decide)
theorem gP_355_16 {σ : ab_S} (h : ab_Geo σ) : ab_rd σ 355 16 = 357 := h.2.2 355 16 (by decide) (by decide) (by decide) (by decide)
theorem gP_355_17 {σ : ab_S} (h : ab_Geo σ) : ab_rd σ 355 17 = 358 := h.2.2 355 17 (by decide) (by decide) (by decide) (by decide)
theorem gP_355_18 {σ : ab_S} (h : ab_Geo σ) : ab_rd σ 355 18 = 359 := h.2.2 355 18 (by decide) (by decide) (by decide) (by decide)
theorem gP_355_27 {σ : ab_S} (h : ab_Geo σ) : ab_rd σ 355 27 = 360 := h.2.2 355 27 (by decide) (by decide) (by decide) (by decide)
theorem gP_355_28 {σ : ab_S} (h : ab_Geo σ) : ab_rd σ 355 28 = 361 := h.2.2 355 28 (by decide) (by decide) (by decide) (by decide)
theorem gP_355_29 {σ : ab_S} (h : ab_Geo σ) : ab_rd σ 355 29 = 362 := h.2.2 355 29 (by decide) (by decide) (by decide) (by decide)
theorem gP_355_30 {σ : ab_S} (h : ab_Geo σ) : ab_rd σ 355 30 = 363 := h.2.2 355 30 (by decide) (by decide) (by decide) (by decide)
theorem gP_355_31 {σ : ab_S} (h : ab_Geo σ) : ab_rd σ 355 31 = 364 := h.2.2 355 31 (by decide) (by decide) (by decide) (by decide)
theorem gP_355_32 {σ : ab_S} (h : ab_Geo σ) : ab_rd σ 355 32 = 365 := h.2.2 355 32 (by decide) (by decide) (by decide) (by decide)
theorem gP_355_33 {σ : ab_S} (h : ab_Geo σ) : ab_rd σ 355 33 = 366 := h.2.2 355 33 (by decide) (by decide) (by decide) (by decide)
theorem gP_355_36 {σ : ab_S} (h : ab_Geo σ) : ab_rd σ 355 36 = 367 := h.2.2 355 36 (by decide) (by decide) (by decide) (by decide)
theorem gP_135_1 {σ : ab_S} (h : ab_Geo σ) : ab_rd σ 135 1 = 136 := h.2.2 135 1 (by decide) (by decide) (by decide) (by decide)
theorem gP_135_2 {σ : ab_S} (h : ab_Geo σ) : ab_rd σ 135 2 = 137 := h.2.2 135 2 (by decide) (by decide) (by decide) (by decide)
theorem gP_135_3 {σ : ab_S} (h : ab_Geo σ) : ab_rd σ 135 3 = 138 := h.2.2 135 3 (by decide) (by decide) (by decide) (by decide)
theorem gP_135_4 {σ : ab_S} (h : ab_Geo σ) : ab_rd σ 135 4 = 139 := h.2.2 135 4 (by decide) (by decide) (by decide) (by decide)
theorem gP_135_5 {σ : ab_S} (h : ab_Geo σ) : ab_rd σ 135 5 = 140 := h.2.2 135 5 (by decide) (by decide) (by decide) (by decide)
theorem gP_141_1 {σ : ab_S} (h : ab_Geo σ) : ab_rd σ 141 1 = 142 := h.2.2 141 1 (by decide) (by decide) (by decide) (by decide)
theorem gP_141_2 {σ : ab_S} (h : ab_Geo σ) : ab_rd σ 141 2 = 143 := h.2.2 141 2 (by decide) (by decide) (by decide) (by decide)
theorem gP_141_3 {σ : ab_S} (h : ab_Geo σ) : ab_rd σ 141 3 = 144 := h.2.2 141 3 (by decide) (by decide) (by decide) (by decide)
theorem gP_141_4 {σ : ab_S} (h : ab_Geo σ) : ab_rd σ 141 4 = 145 := h.2.2 141 4 (by decide) (by decide) (by decide) (by decide)
theorem gP_141_5 {σ : ab_S} (h : ab_Geo σ) : ab_rd σ 141 5 = 146 := h.2.2 141 5 (by decide) (by decide) (by decide) (by decide)
theorem gP_5_6 {σ : ab_S} (h : ab_Geo σ) : ab_rd σ 5 6 = 6 := h.2.2 5 6 (by decide) (by decide) (by decide) (by decide)
theorem gP_5_8 {σ : ab_S} (h : ab_Geo σ) : ab_rd σ 5 8 = 7 := h.2.2 5 8 (by decide) (by decide) (by decide) (by decide)
theorem gP_5_13 {σ : ab_S} (h : ab_Geo σ) : ab_rd σ 5 13 = 8 := h.2.2 5 13 (by decide) (by decide) (by decide) (by decide)
theorem gP_5_14 {σ : ab_S} (h : ab_Geo σ) : ab_rd σ 5 14 = 9 := h.2.2 5 14 (by decide) (by decide) (by decide) (by decide)
theorem gP_329_6 {σ : ab_S} (h : ab_Geo σ) : ab_rd σ 329 6 = 330 := h.2.2 329 6 (by decide) (by decide) (by decide) (by decide)
theorem gP_329_8 {σ : ab_S} (h : ab_Geo σ) : ab_rd σ 329 8 = 331 := h.2.2 329 8 (by decide) (by decide) (by decide) (by decide)
theorem gP_329_13 {σ : ab_S} (h : ab_Geo σ) : ab_rd σ 329 13 = 332 := h.2.2 329 13 (by decide) (by decide) (by decide) (by decide)
theorem gP_329_14 {σ : ab_S} (h : ab_Geo σ) : ab_rd σ 329 14 = 333 := h.2.2 329 14 (by decide) (by decide) (by decide) (by decide)
