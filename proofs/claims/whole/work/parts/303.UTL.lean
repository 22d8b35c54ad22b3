theorem ab_itT {p q : Prop} (h : p) : (p → q) = q := propext ⟨fun f => f h, fun x _ => x⟩
theorem ab_itF {p q : Prop} (h : ¬ p) : (p → q) = True := propext ⟨fun _ => trivial, fun _ w => absurd w h⟩
theorem ab_anT {p q : Prop} (h : p) : (p ∧ q) = q := propext ⟨fun f => f.2, fun x => ⟨h, x⟩⟩
theorem ab_ifT {p : Prop} [d : Decidable p] {α : Type} {x y : α} (h : p) : (if p then x else y) = x := if_pos h
theorem ab_ifF {p : Prop} [d : Decidable p] {α : Type} {x y : α} (h : ¬ p) : (if p then x else y) = y := if_neg h
theorem ab_td2 {a b : Int} (h : 0 ≤ a) : a.tdiv b = a / b := Int.tdiv_eq_ediv_of_nonneg h
theorem ab_tm2 {a b : Int} (h : 0 ≤ a) : a.tmod b = a % b := Int.tmod_eq_emod_of_nonneg h
