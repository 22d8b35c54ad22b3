/-! AT THE LAW'S ENTRY: what the tables and the Statement say makes E and ab_K -/
def ab_nr : List Cond := flatC (Jvm.Cond.and given_1 narrow_1)
theorem ab_nr_before {args : Array Value} {s : State} (h : (Jvm.Cond.and given_1 narrow_1).before args s = true) : ∀ w ∈ ab_nr, w.before args s = true := flat_of_before _ h
def ab_tm (i : Nat) : Term := .string (ab_cn ((ab_pS.getD i (0, 0)).1 / 1000)) ((ab_pS.getD i (0, 0)).1 % 1000)
def ab_wt (q : Nat × Nat) : Cond := match q.2 with
  | 0 => .exactly (ab_tm q.1) "java/lang/String"
  | 1 => .eq (.field (ab_tm q.1) "java/lang/String" "coder" "B") (.int 0)
  | 2 => .arrayOf (.field (ab_tm q.1) "java/lang/String" "value" "[B") .byte
  | 3 => .eq (.length (.field (ab_tm q.1) "java/lang/String" "value" "[B")) (.int (Int32.ofNat (ab_sl.getD q.1 0)))
  | j + 4 => .eq (.elem (.field (ab_tm q.1) "java/lang/String" "value" "[B") (.int (Int32.ofNat j))) (.int ((ab_sb.getD q.1 []).getD j 0))
def ab_wtl : List (Nat × Nat) := (List.range 28).flatMap fun i => (List.range (4 + ab_sl.getD i 0)).map fun t => (i, t)
theorem ab_wtl_in {i t : Nat} (hi : i < 28) (ht : t < 4 + ab_sl.getD i 0) : (i, t) ∈ ab_wtl := List.mem_flatMap.mpr ⟨i, List.mem_range.mpr hi, List.mem_map.mpr ⟨t, List.mem_range.mpr ht, rfl⟩⟩
set_option maxRecDepth 100000 in
theorem ab_wt_scan : ab_scan (ab_nr.drop 25) (ab_wtl.map fun q => (0, ab_wt q)) = true := by decide +kernel
theorem ab_wt_mem : ∀ q ∈ ab_wtl, ab_wt q ∈ ab_nr := fun q hq => List.mem_of_mem_drop (ab_scan_mem _ _ ab_wt_scan (0, ab_wt q) (List.mem_map.mpr ⟨q, hq, rfl⟩))
def ab_we (q : Nat × Nat) : Cond := .eq (ab_tm q.2) (.string (ab_cn (q.1 / 1000)) (q.1 % 1000))
def ab_weg : List Nat := [279, 9, 9, 8, 9, 8, 8, 10, 7, 7, 9, 10, 8, 9, 7, 9, 10, 7, 9, 8, 9, 9, 9, 8, 8, 8]
set_option maxRecDepth 100000 in
theorem ab_we_scan : ab_scan ab_nr (ab_weg.zip ((ab_pS.drop 28).map ab_we)) = true := by decide +kernel
theorem ab_zip_mem {α : Type} {l : List α} {gs : List Nat} {f : α → Cond} (hl : l.length ≤ gs.length) {q : α} (hq : q ∈ l) : ∃ g, (g, f q) ∈ gs.zip (l.map f) := by
  obtain ⟨i, hi⟩ := List.getElem?_of_mem hq
  have hlt : i < l.length := (List.getElem?_eq_some_iff.mp hi).1
  refine ⟨gs[i]'(by omega), List.mem_of_getElem? (i := i) ?_⟩
  rw [List.getElem?_zip_eq_some]
  exact ⟨List.getElem?_eq_getElem (by omega), by rw [List.getElem?_map, hi]; rfl⟩
theorem ab_we_mem : ∀ q ∈ ab_pS.drop 28, ab_we q ∈ ab_nr := fun q hq => by
  obtain ⟨g, hg⟩ := ab_zip_mem (f := ab_we) (gs := ab_weg) (by decide) hq
  exact ab_scan_mem _ _ ab_we_scan _ hg
def ab_ws1 (q : Nat × Nat) : Cond := .stringRef (ab_cn (q.1 / 1000)) (q.1 % 1000) (ab_stx0.getD q.2 "")
def ab_wsg : List Nat := [682, 61, 12, 0, 0, 0, 0, 16, 0, 0, 0, 0, 0, 0, 8, 0, 0, 0, 4, 16, 0, 0, 0, 0, 0, 0, 20, 489, 317, 17, 19, 0, 0, 0, 0, 16, 0, 0, 0, 0, 0, 0, 4, 0, 0, 0, 20, 0, 0, 0, 0, 0, 0, 31]
set_option maxRecDepth 100000 in
theorem ab_ws1_scan : ab_scan lw_tbl (ab_wsg.zip (ab_pS.map ab_ws1)) = true := by decide +kernel
theorem ab_ws1_mem : ∀ q ∈ ab_pS, ab_ws1 q ∈ lw_tbl := fun q hq => by
  obtain ⟨g, hg⟩ := ab_zip_mem (f := ab_ws1) (gs := ab_wsg) (by decide) hq
  exact ab_scan_mem _ _ ab_ws1_scan _ hg
theorem ab_pS_head : ∀ i ∈ List.range 28, (ab_pS.getD i (0, 0)).2 = i ∧ ab_pS.getD i (0, 0) ∈ ab_pS := by decide +kernel
theorem ab_pS_two : ∀ q ∈ ab_pS, (q.2 < 28 ∧ q.1 = (ab_pS.getD q.2 (0, 0)).1) ∨ q ∈ ab_pS.drop 28 := by decide +kernel
/-- texts that differ: in length or in a letter -/
theorem ab_sdif : ∀ i ∈ List.range 28, ∀ j ∈ List.range 28, i = j ∨ Int32.ofNat (ab_sl.getD i 0) ≠ Int32.ofNat (ab_sl.getD j 0) ∨ ∃ k ∈ List.range 13, k < ab_sl.getD i 0 ∧ k < ab_sl.getD j 0 ∧ (ab_sb.getD i []).getD k 0 ≠ (ab_sb.getD j []).getD k 0 := by decide +kernel
theorem ab_sl31 : ∀ i ∈ List.range 28, ab_sl.getD i 0 < 2 ^ 31 := by decide +kernel
theorem ab_Sof {args : Array Value} {s : State} {A : Nat → Prop} (h : ∀ w ∈ ab_nr, w.before args s = true) (hA : ∀ a : Nat, a < s.heap.size → ¬ A a) :
    ∃ adK adV : Nat → Nat, vk_S 28 ab_sl ab_sb adK adV A s s.heap ∧ ∀ i : Nat, i < 28 → (ab_tm i).eval args s none [] s = some (.ref (adK i)) := by
  have hw : ∀ i t : Nat, i < 28 → t < 4 + ab_sl.getD i 0 → (ab_wt (i, t)).before args s = true := fun i t hi ht => h _ (ab_wt_mem _ (ab_wtl_in hi ht))
  have h0 : ∀ i : Nat, ∃ q : Nat × Nat, i < 28 → (ab_tm i).eval args s none [] s = some (.ref q.1) ∧ va_O "java/lang/String" q.1 A s s.heap ∧ va_OF "java/lang/String" "coder" "B" (.int 0) q.1 A s s.heap ∧ va_OF "java/lang/String" "value" "[B" (.ref q.2) q.1 A s s.heap ∧ va_T .byte q.2 (ab_sl.getD i 0) (fun j => .int ((ab_sb.getD i []).getD j 0)) A s s.heap := by
    intro i
    by_cases hi : i < 28
    · obtain ⟨a, c, cA, kA, q1, q2, q3, q4, q5, q6, -⟩ := Cond.exactly_spec (args := args) (first := s) (o := none) (s := s) (idx := []) (t := ab_tm i) (cls := "java/lang/String") (hw i 0 hi (by omega))
      obtain ⟨t, ht, hT⟩ := va_Tof (f := fun j => .int ((ab_sb.getD i []).getD j 0)) (A := A) (ab_sl31 i (List.mem_range.mpr hi)) (hw i 2 hi (by omega)) (va_eqt (hw i 3 hi (by omega))) (fun j hj => va_eqt (hw i (j + 4) hi (by omega))) hA
      exact ⟨(a, t), fun _ => ⟨q1, ⟨cA, q3, q5, by rw [q6]; exact q2, hA a (Array.getElem?_eq_some_iff.mp q3).1⟩, vk_OFof q1 (va_eqt (hw i 1 hi (by omega))) hA, vk_OFof q1 ht hA, hT⟩⟩
    · exact ⟨(0, 0), fun h => absurd h hi⟩
  obtain ⟨ad, had⟩ := Classical.axiomOfChoice h0
  refine ⟨fun i => (ad i).1, fun i => (ad i).2, ⟨fun i hi => (had i hi).2, fun i j hi hj e => ?_⟩, fun i hi => (had i hi).1⟩
  have e : (ad i).1 = (ad j).1 := e
  obtain ⟨-, -, -, ⟨cf, k, fi, f, cell, a1, -, a3, -, a5, -⟩, ⟨ci, b1, -, -, -, b5, b6, -⟩⟩ := had i hi
  obtain ⟨-, -, -, ⟨cf', k', fi', f', cell', a1', -, a3', -, a5', -⟩, ⟨cj, b1', -, -, -, b5', b6', -⟩⟩ := had j hj
  rw [← e] at a3'
  have e1 : cell = cell' := Option.some.inj (a3.symm.trans a3')
  have e2 : f = f' := by
    have := Option.some.inj (a1.symm.trans a1')
    simp only [Prod.mk.injEq] at this
    exact this.2.2.2
  subst e1 e2
  have e3 : (ad i).2 = (ad j).2 := by
    have := Option.some.inj (a5.symm.trans a5')
    simpa using this
  rw [← e3] at b1'
  have e4 : ci = cj := Option.some.inj (b1.symm.trans b1')
  subst e4
  rcases ab_sdif i (List.mem_range.mpr hi) j (List.mem_range.mpr hj) with h9 | h9 | ⟨k9, -, h10, h11, h12⟩
  · exact h9
  · exact absurd (b5.symm.trans b5') h9
  · have := Option.some.inj ((b6 k9 h10).symm.trans (b6' k9 h11))
    simp only [Value.int.injEq] at this
    exact absurd this h12
