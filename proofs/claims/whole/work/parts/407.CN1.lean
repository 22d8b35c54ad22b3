/-! MAKING: what every cell holds behind the constructors -/
def al_iL : List (List Int) := [[], [2, 31, 36, 134, 148, 325, 328, 329], [3, 5], [4], [], [0, 0, 0, 0, 0, 0, 6, 0, 7, 0, 0, 0, 0, 8, 9], [10, 13, 16, 19, 22], [25, 26, 27, 28, 29, 30], [], [], [0, 0, 0, 11, 12], [], [], [0, 0, 0, 14, 15], [], [], [0, 0, 0, 17, 18], [], [], [0, 0, 0, 20, 21], [], [], [0, 0, 0, 23, 24], [], [], [0, 0, 0, 0, 0, 0, 0, 0, 0, -1], [0, 0, 0, 0, 0, 0, 0, 0, 0, -1], [0, 0, 0, 0, 0, 0, 0, 0, 0, -1], [0, 0, 0, 0, 0, 0, 0, 0, 0, -1], [0, 0, 0, 0, 0, 0, 0, 0, 0, -1], [0, 0, 0, 0, 0, 0, 0, 0, 0, -1], [32, 33, 34, 35], [], [], [], [], [37, 38], [39, 44, 49, 54, 59, 64, 69, 74, 79, 84, 89, 94, 99, 104, 109, 114], [119, 124, 129], [40, 41, 42, 43], [], [], [], [], [45, 46, 47, 48], [], [], [], [], [50, 51, 52, 53], [], [], [], [], [55, 56, 57, 58], [], [], [], [], [60, 61, 62, 63], [], [], [], [], [65, 66, 67, 68], [], [], [], [], [70, 71, 72, 73], [], [], [], [], [75, 76, 77, 78], [], [], [], [], [80, 81, 82, 83], [], [], [], [], [85, 86, 87, 88], [], [], [], [], [90, 91, 92, 93], [], [], [], [], [95, 96, 97, 98], [], [], [], [], [100, 101, 102, 103], [], [], [], [], [105, 106, 107, 108], [], [], [], [], [110, 111, 112, 113], [], [], [], [], [115, 116, 117, 118], [], [], [], [], [120, 121, 122, 123], [], [], [], [], [125, 126, 127, 128], [], [], [], [], [130, 131, 132, 133], [], [], [], [], [135, 141, 147, 1], [0, 136, 137, 138, 139, 140], [], [], [], [], [], [0, 142, 143, 144, 145, 146], [], [], [], [], [], [], [149, 150, 151, 152, 153, 166, 179, 180], [181, 193, 205, 217, 229, 241, 253, 265, 277, 289, 301, 313], [187, 199, 211, 223, 235, 247, 259, 271, 283, 295, 307, 319], [], [], [154, 155, 156, 157, 158, 159, 160, 161, 162, 163, 164, 165], [], [], [], [], [], [], [], [], [], [], [], [], [167, 168, 169, 170, 171, 172, 173, 174, 175, 176, 177, 178], [], [], [], [], [], [], [], [], [], [], [], [], [], [], [0, 182, 183, 184, 185, 186], [], [], [], [], [], [0, 188, 189, 190, 191, 192], [], [], [], [], [], [0, 194, 195, 196, 197, 198], [], [], [], [], [], [0, 200, 201, 202, 203, 204], [], [], [], [], [], [0, 206, 207, 208, 209, 210], [], [], [], [], [], [0, 212, 213, 214, 215, 216], [], [], [], [], [], [0, 218, 219, 220, 221, 222], [], [], [], [], [], [0, 224, 225, 226, 227, 228], [], [], [], [], [], [0, 230, 231, 232, 233, 234], [], [], [], [], [], [0, 236, 237, 238, 239, 240], [], [], [], [], [], [0, 242, 243, 244, 245, 246], [], [], [], [], [], [0, 248, 249, 250, 251, 252], [], [], [], [], [], [0, 254, 255, 256, 257, 258], [], [], [], [], [], [0, 260, 261, 262, 263, 264], [], [], [], [], [], [0, 266, 267, 268, 269, 270], [], [], [], [], [], [0, 272, 273, 274, 275, 276], [], [], [], [], [], [0, 278, 279, 280, 281, 282], [], [], [], [], [], [0, 284, 285, 286, 287, 288], [], [], [], [], [], [0, 290, 291, 292, 293, 294], [], [], [], [], [], [0, 296, 297, 298, 299, 300], [], [], [], [], [], [0, 302, 303, 304, 305, 306], [], [], [], [], [], [0, 308, 309, 310, 311, 312], [], [], [], [], [], [0, 314, 315, 316, 317, 318], [], [], [], [], [], [0, 320, 321, 322, 323, 324], [], [], [], [], [], [326, 327], [], [], [], [0, 0, 0, 0, 0, 0, 330, 0, 331, 0, 0, 0, 0, 332, 333], [334, 337, 340, 343, 346], [349, 350, 351, 352, 353, 354], [], [], [0, 0, 0, 335, 336], [], [], [0, 0, 0, 338, 339], [], [], [0, 0, 0, 341, 342], [], [], [0, 0, 0, 344, 345], [], [], [0, 0, 0, 347, 348], [], [], [0, 0, 0, 0, 0, 0, 0, 0, 0, -1], [0, 0, 0, 0, 0, 0, 0, 0, 0, -1], [0, 0, 0, 0, 0, 0, 0, 0, 0, -1], [0, 0, 0, 0, 0, 0, 0, 0, 0, -1], [0, 0, 0, 0, 0, 0, 0, 0, 0, -1], [0, 0, 0, 0, 0, 0, 0, 0, 0, -1], [0, 0, -1, 0, 0, 356, 0, 0, 0, 0, 0, 0, 0, 0, 0, 0, 357, 358, 359, 0, 0, 0, 0, 0, 0, 0, 0, 360, 361, 362, 363, 364, 365, 366, 0, 0, 367], [], [], [], [], [], [], [], [], [], [], [], [], []]
def al_ini (a f : Int) : Int := (al_iL.getD a.toNat []).getD f.toNat 0
theorem al_ptT : (∀ a : Fin 369, ∀ f : Fin 40, (ab_ptL.getD a.val []).getD f.val 0 ≠ 0 → (al_iL.getD a.val []).getD f.val 0 = (ab_ptL.getD a.val []).getD f.val 0) ∧ (∀ a : Fin 369, (ab_ptL.getD a.val []).length ≤ 40) := by decide +kernel
theorem al_pt {a f : Int} (h1 : 0 ≤ a) (h2 : a ≤ 368) (h3 : 0 ≤ f) (h : ab_pt a f ≠ 0) : al_ini a f = ab_pt a f := by
  unfold ab_pt at h ⊢
  unfold al_ini
  by_cases z : f < 40
  · exact al_ptT.1 ⟨a.toNat, by omega⟩ ⟨f.toNat, by omega⟩ h
  · have := al_ptT.2 ⟨a.toNat, by omega⟩
    dsimp only at this
    exact absurd (ac_getD_ge (by omega)) h
/-- the object a is being made, z the next cell, P the cells that wait, D the fields of a that stand -/
def al_Z (σ0 σ : ab_S) (a z : Int) (P D : Int → Prop) : Prop := σ.1 = z ∧ (0 < a ∧ a < z) ∧ (∀ x, 0 ≤ x → x < z → ab_sh σ x = ab_shT x) ∧ (∀ x f, 0 ≤ x → x < z → 0 ≤ f → ¬ P x → x ≠ a → ab_rd σ x f = al_ini x f) ∧ (∀ f, 0 ≤ f → (D f → ab_rd σ a f = al_ini a f) ∧ (¬ D f → ab_rd σ a f = 0)) ∧ (∀ x f, x < a → ab_rd σ x f = ab_rd σ0 x f)
def al_Y (σ0 σ : ab_S) (a z : Int) (P : Int → Prop) : Prop := σ.1 = z ∧ (0 < a ∧ a < z) ∧ (∀ x, 0 ≤ x → x < z → ab_sh σ x = ab_shT x) ∧ (∀ x f, 0 ≤ x → x < z → 0 ≤ f → ¬ P x → ab_rd σ x f = al_ini x f) ∧ (∀ x f, x < a → ab_rd σ x f = ab_rd σ0 x f)
section
variable {σ0 σ τ : ab_S} {a z z' t n f0 f A i m k2 : Int} {P P' D : Int → Prop} {l : List Int}
theorem al_row (h : al_iL.getD a.toNat [] = l) : al_ini a f = l.getD f.toNat 0 := by unfold al_ini; rw [h]
theorem al_row0 (h : al_iL.getD a.toNat [] = []) : al_ini a f = 0 := by rw [al_row h]; rfl
theorem al_Z.done (h : al_Z σ0 σ a z P D) (hd : ∀ f, 0 ≤ f → D f ∨ al_ini a f = 0) (hP : ¬ P a) : al_Y σ0 σ a z P := by
  obtain ⟨h1, h2, h3, h4, h5, h6⟩ := h
  refine ⟨h1, h2, h3, fun x f x1 x2 f1 u => ?_, h6⟩
  by_cases e : x = a
  · subst e
    by_cases w : D f
    · exact (h5 f f1).1 w
    · rw [(h5 f f1).2 w]
      rcases hd f f1 with q | q
      · exact absurd q w
      · exact q.symm
  · exact h4 x f x1 x2 f1 u e
theorem al_Z.sh (h : al_Z σ0 σ a z P D) (hs : ab_shT a = (t, n)) : ab_sh σ a = (t, n) := by rw [h.2.2.1 a (by have := h.2.1.1; omega) h.2.1.2, hs]
/-- an array with nothing in it -/
theorem al_Z.arr (h : al_Z σ0 σ a z P D) (ht : ab_shT z = (t, n)) (hz : al_iL.getD z.toNat [] = []) (hf0 : 0 ≤ f0) (hf : al_ini a f0 = z) (e' : z' = z + 1) : al_Z σ0 (ab_wr (ab_new σ t n) a f0 z) a z' P (fun f => D f ∨ f = f0) := by
  subst e'
  obtain ⟨h1, h2, h3, h4, h5, h6⟩ := h
  refine ⟨?_, by omega, fun x x1 x2 => ?_, fun x f x1 x2 f1 u e => ?_, fun f f1 => ⟨fun w => ?_, fun w => ?_⟩, fun x f x1 => ?_⟩
  · show σ.1 + 1 = z + 1
    omega
  · rw [ab_shw, ab_shn]
    by_cases e : x = σ.1
    · rw [if_pos e, e, h1, ht]
    · rw [if_neg e]; exact h3 x x1 (by omega)
  · rw [ab_rdw_ne (Or.inl e), ab_rdn]
    by_cases e2 : x = σ.1
    · rw [if_pos e2, e2, h1, al_row0 hz]
    · rw [if_neg e2]; exact h4 x f x1 (by omega) f1 u e
  · by_cases e : f = f0
    · rw [e, ab_rdw_eq, hf]
    · rw [ab_rdw_ne (Or.inr e), ab_rdn, if_neg (by omega)]
      rcases w with w | w
      · exact (h5 f f1).1 w
      · exact absurd w e
  · rw [ab_rdw_ne (Or.inr (fun e => w (Or.inr e))), ab_rdn, if_neg (by omega)]
    exact (h5 f f1).2 (fun u => w (Or.inl u))
  · rw [ab_rdw_ne (by omega), ab_rdn, if_neg (by omega)]; exact h6 x f x1
/-- an array that waits for its objects -/
theorem al_Z.parr (h : al_Z σ0 σ a z P D) (ht : ab_shT z = (t, n)) (hf0 : 0 ≤ f0) (hf : al_ini a f0 = z) (e' : z' = z + 1) : al_Z σ0 (ab_wr (ab_new σ t n) a f0 z) a z' (fun x => P x ∨ x = z) (fun f => D f ∨ f = f0) ∧ (∀ f, ab_rd (ab_wr (ab_new σ t n) a f0 z) z f = 0) ∧ (∀ x f, x < z → x ≠ a → ab_rd (ab_wr (ab_new σ t n) a f0 z) x f = ab_rd σ x f) := by
  subst e'
  obtain ⟨h1, h2, h3, h4, h5, h6⟩ := h
  refine ⟨⟨?_, by omega, fun x x1 x2 => ?_, fun x f x1 x2 f1 u e => ?_, fun f f1 => ⟨fun w => ?_, fun w => ?_⟩, fun x f x1 => ?_⟩, fun f => ?_, fun x f x1 x2 => ?_⟩
  · show σ.1 + 1 = z + 1
    omega
  · rw [ab_shw, ab_shn]
    by_cases e : x = σ.1
    · rw [if_pos e, e, h1, ht]
    · rw [if_neg e]; exact h3 x x1 (by omega)
  · have e2 : x ≠ z := fun q => u (Or.inr q)
    rw [ab_rdw_ne (Or.inl e), ab_rdn, if_neg (by omega)]
    exact h4 x f x1 (by omega) f1 (fun q => u (Or.inl q)) e
  · by_cases e : f = f0
    · rw [e, ab_rdw_eq, hf]
    · rw [ab_rdw_ne (Or.inr e), ab_rdn, if_neg (by omega)]
      rcases w with w | w
      · exact (h5 f f1).1 w
      · exact absurd w e
  · rw [ab_rdw_ne (Or.inr (fun e => w (Or.inr e))), ab_rdn, if_neg (by omega)]
    exact (h5 f f1).2 (fun u => w (Or.inl u))
  · rw [ab_rdw_ne (by omega), ab_rdn, if_neg (by omega)]; exact h6 x f x1
  · rw [ab_rdw_ne (by omega), ab_rdn, if_pos h1.symm]
  · rw [ab_rdw_ne (by omega), ab_rdn, if_neg (by omega)]
/-- a field with a number -/
theorem al_Z.val (h : al_Z σ0 σ a z P D) (hf : al_ini a f0 = n) : al_Z σ0 (ab_wr σ a f0 n) a z P (fun f => D f ∨ f = f0) := by
  obtain ⟨h1, h2, h3, h4, h5, h6⟩ := h
  refine ⟨h1, h2, h3, fun x f x1 x2 f1 u e => ?_, fun f f1 => ⟨fun w => ?_, fun w => ?_⟩, fun x f x1 => ?_⟩
  · rw [ab_rdw_ne (Or.inl e)]; exact h4 x f x1 x2 f1 u e
  · by_cases e : f = f0
    · rw [e, ab_rdw_eq, hf]
    · rw [ab_rdw_ne (Or.inr e)]
      rcases w with w | w
      · exact (h5 f f1).1 w
      · exact absurd w e
  · rw [ab_rdw_ne (Or.inr (fun e => w (Or.inr e)))]
    exact (h5 f f1).2 (fun u => w (Or.inl u))
  · rw [ab_rdw_ne (by omega)]; exact h6 x f x1
/-- an object begins -/
theorem al_Z.new (h : al_Z σ0 σ a z P D) (ht : ab_shT z = (t, 0)) : al_Z (ab_new σ t 0) (ab_new σ t 0) z (z + 1) (fun x => P x ∨ x = a) (fun _ => False) := by
  obtain ⟨h1, h2, h3, h4, h5, h6⟩ := h
  refine ⟨?_, by omega, fun x x1 x2 => ?_, fun x f x1 x2 f1 u e => ?_, fun f f1 => ⟨fun w => w.elim, fun w => ?_⟩, fun x f x1 => rfl⟩
  · show σ.1 + 1 = z + 1
    omega
  · rw [ab_shn]
    by_cases e : x = σ.1
    · rw [if_pos e, e, h1, ht]
    · rw [if_neg e]; exact h3 x x1 (by omega)
  · rw [ab_rdn, if_neg (by omega)]
    exact h4 x f x1 (by omega) f1 (fun q => u (Or.inl q)) (fun q => u (Or.inr q))
  · rw [ab_rdn, if_pos h1.symm]
/-- and goes into a field -/
theorem al_Z.sub (h : al_Z σ0 σ a z P D) (hY : al_Y (ab_new σ t 0) τ z z' (fun x => P x ∨ x = a)) (hf : al_ini a f0 = z) : al_Z σ0 (ab_wr τ a f0 z) a z' P (fun f => D f ∨ f = f0) := by
  obtain ⟨h1, h2, h3, h4, h5, h6⟩ := h
  obtain ⟨y1, y2, y3, y4, y5⟩ := hY
  have lo : ∀ x f, x < z → ab_rd τ x f = ab_rd σ x f := fun x f q => by rw [y5 x f q, ab_rdn, if_neg (by omega)]
  refine ⟨y1, by omega, fun x x1 x2 => y3 x x1 x2, fun x f x1 x2 f1 u e => ?_, fun f f1 => ⟨fun w => ?_, fun w => ?_⟩, fun x f x1 => ?_⟩
  · rw [ab_rdw_ne (Or.inl e)]
    exact y4 x f x1 x2 f1 (fun q => q.elim u e)
  · by_cases e : f = f0
    · rw [e, ab_rdw_eq, hf]
    · rw [ab_rdw_ne (Or.inr e), lo a f (by omega)]
      rcases w with w | w
      · exact (h5 f f1).1 w
      · exact absurd w e
  · rw [ab_rdw_ne (Or.inr (fun e => w (Or.inr e))), lo a f (by omega)]
    exact (h5 f f1).2 (fun u => w (Or.inl u))
  · rw [ab_rdw_ne (by omega), lo x f (by omega)]; exact h6 x f x1
/-- or into an array that waits -/
theorem al_Z.el (h : al_Z σ0 σ a z P D) (hY : al_Y (ab_new σ t 0) τ z z' (fun x => P x ∨ x = a)) (hA : a < A ∧ A < z) (hP : P A) : al_Z σ0 (ab_wr τ A i z) a z' P D ∧ (∀ x f, x < z → (x ≠ A ∨ f ≠ i) → ab_rd (ab_wr τ A i z) x f = ab_rd σ x f) := by
  obtain ⟨h1, h2, h3, h4, h5, h6⟩ := h
  obtain ⟨y1, y2, y3, y4, y5⟩ := hY
  have lo : ∀ x f, x < z → ab_rd τ x f = ab_rd σ x f := fun x f q => by rw [y5 x f q, ab_rdn, if_neg (by omega)]
  refine ⟨⟨y1, by omega, fun x x1 x2 => y3 x x1 x2, fun x f x1 x2 f1 u e => ?_, fun f f1 => ⟨fun w => ?_, fun w => ?_⟩, fun x f x1 => ?_⟩, fun x f x1 x2 => ?_⟩
  · rw [ab_rdw_ne (Or.inl (fun q : x = A => u (by rw [q]; exact hP)))]
    exact y4 x f x1 x2 f1 (fun q => q.elim u e)
  · rw [ab_rdw_ne (by omega), lo a f (by omega)]; exact (h5 f f1).1 w
  · rw [ab_rdw_ne (by omega), lo a f (by omega)]; exact (h5 f f1).2 w
  · rw [ab_rdw_ne (by omega), lo x f (by omega)]; exact h6 x f x1
  · rw [ab_rdw_ne x2, lo x f x1]
/-- an array that waits no more -/
theorem al_Z.res (h : al_Z σ0 σ a z P D) (hA : ∀ f, 0 ≤ f → ab_rd σ A f = al_ini A f) (hP : ∀ x, P x → x = A ∨ P' x) : al_Z σ0 σ a z P' D := by
  obtain ⟨h1, h2, h3, h4, h5, h6⟩ := h
  refine ⟨h1, h2, h3, fun x f x1 x2 f1 u e => ?_, h5, h6⟩
  by_cases w : P x
  · rcases hP x w with q | q
    · rw [q]; exact hA f f1
    · exact absurd q u
  · exact h4 x f x1 x2 f1 w e
theorem al_Z.mono (h : al_Z σ0 σ a z P D) (hP : ∀ x, P x → P' x) : al_Z σ0 σ a z P' D := ⟨h.1, h.2.1, h.2.2.1, fun x f x1 x2 f1 u e => h.2.2.2.1 x f x1 x2 f1 (fun q => u (hP x q)) e, h.2.2.2.2.1, h.2.2.2.2.2⟩
theorem al_Y.mono (h : al_Y σ0 σ a z P) (hP : ∀ x, P x → P' x) : al_Y σ0 σ a z P' := ⟨h.1, h.2.1, h.2.2.1, fun x f x1 x2 f1 u => h.2.2.2.1 x f x1 x2 f1 (fun q => u (hP x q)), h.2.2.2.2⟩
end
