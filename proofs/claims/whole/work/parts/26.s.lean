theorem ab_t_AO : ∀ g ∈ [4, 5, 6, 7], Cond.arrayOver (ab_aty g) ∈ lw_tbl := by decide +kernel
theorem ab_t_AA : Cond.arrayOver (.array .int) ∈ lw_tbl := by decide +kernel
theorem ab_t_ca : Cond.castable ab_NE ab_NE ∈ lw_tbl := by decide +kernel
theorem ab_t_s1 : Cond.laysStatic "java/lang/String" "COMPACT_STRINGS" "Z" ∈ lw_tbl ∧ Cond.initialized "java/lang/String" ∈ lw_tbl ∧ Cond.eq (.static "java/lang/String" "COMPACT_STRINGS" "Z") (.int 1) ∈ ab_nr := ⟨by decide +kernel, by decide +kernel, by decide +kernel⟩
theorem ab_t_s2 : Cond.laysStatic Bundle.tN "UNASSIGNED_STACK" Bundle.steD ∈ lw_tbl ∧ Cond.initialized Bundle.tN ∈ lw_tbl ∧ Cond.isRef (.static Bundle.tN "UNASSIGNED_STACK" Bundle.steD) ∈ ab_nr := ⟨by decide +kernel, by decide +kernel, by decide +kernel⟩
theorem ab_t_s3 : Cond.laysStatic Bundle.tN "SUPPRESSED_SENTINEL" Bundle.listD ∈ lw_tbl ∧ Cond.isRef (.static Bundle.tN "SUPPRESSED_SENTINEL" Bundle.listD) ∈ ab_nr := ⟨by decide +kernel, by decide +kernel⟩
theorem ab_t_s4 : Cond.laysStatic "jdk/internal/util/Preconditions" "SIOOBE_FORMATTER" "Ljava/util/function/BiFunction;" ∈ lw_tbl ∧ Cond.initialized "jdk/internal/util/Preconditions" ∈ lw_tbl ∧ Cond.isRef (.static "jdk/internal/util/Preconditions" "SIOOBE_FORMATTER" "Ljava/util/function/BiFunction;") ∈ ab_nr := ⟨by decide +kernel, by decide +kernel, by decide +kernel⟩
theorem ab_t_AO4 : ∀ c ∈ [RX0, RX1, RX5, RX8], Cond.arrayOver (.object c) ∈ lw_tbl := by decide +kernel
theorem ab_start_arr {args : Array Value} {s : State} (ht : ∀ w ∈ lw_tbl, w.before args s = true) (g : Nat) : ∃ cA : ClassId, g < 9 → ArrOfT s cA (ab_aty g) ∧ va_RA s cA (ab_aty g) := by
  by_cases hg : g < 9
  · by_cases h4 : g < 4
    · obtain ⟨c, k, comp, h1, h2, h3⟩ := Cond.arrayClass_spec (ht _ (List.mem_filter.mp (ab_l_ac g (ab_m_ac g (List.mem_range.mpr h4)))).1)
      refine ⟨c, fun _ => ⟨fun n z => ⟨(fun k h => by cases h), k, h2, comp, h3⟩, ?_⟩⟩
      obtain rfl | rfl | rfl | rfl : g = 0 ∨ g = 1 ∨ g = 2 ∨ g = 3 := by omega
      · exact h1
      · exact h1
      · exact h1
      · exact h1
    · by_cases h8 : g = 8
      · subst h8
        obtain ⟨comp, c, k, h1, h2, h3, h4, h5⟩ := arrayOverA_spec (ht _ ab_t_AA)
        exact ⟨c, fun _ => ⟨fun n z => ⟨(fun k h => by cases h), k, h3, comp, h4⟩, h5⟩⟩
      · have hw : (Cond.arrayOver (ab_aty g)).before args s = true := ht _ (ab_t_AO g (by
          obtain rfl | rfl | rfl | rfl : g = 4 ∨ g = 5 ∨ g = 6 ∨ g = 7 := by omega
          · decide
          · decide
          · decide
          · decide))
        obtain ⟨C, hC⟩ : ∃ C, ab_aty g = .object C := by
          obtain rfl | rfl | rfl | rfl : g = 4 ∨ g = 5 ∨ g = 6 ∨ g = 7 := by omega
          · exact ⟨_, rfl⟩
          · exact ⟨_, rfl⟩
          · exact ⟨_, rfl⟩
          · exact ⟨_, rfl⟩
        rw [hC] at hw ⊢
        obtain ⟨comp, c, k, h1, h2, h3, h4, h5⟩ := Cond.arrayOver_spec hw
        exact ⟨c, fun _ => ⟨fun n z => ⟨(fun k h => by cases h), k, h3, comp, h4⟩, k, comp, h3, h4, h1, h5⟩⟩
  · exact ⟨0, fun h => absurd h hg⟩
theorem ab_start_cls {args : Array Value} {s : State} (ht : ∀ w ∈ lw_tbl, w.before args s = true) (c : Nat) : ∃ q : ClassId × (Nat → Nat), c < 14 → u_Kn s (ab_cn c) (ab_T c) (ab_N c) q.1 q.2 := by
  by_cases hc : c < 14
  · obtain ⟨cC, iS, h⟩ := u_known (ws := ab_ws) (fun w hw => ht w (List.mem_filter.mp hw).1) (ab_in_ws hc) (ht _ (List.mem_filter.mp (ab_l_inb c (ab_m_inb c (List.mem_range.mpr hc)))).1)
    exact ⟨(cC, iS), fun _ => h⟩
  · exact ⟨(0, fun _ => 0), fun h => absurd h hc⟩
theorem ab_tys_at {E : ab_E} {g : Nat} (hg : g < 9) : (ab_tys E)[g]? = some (ab_EA E g, ab_aty g) := by
  unfold ab_tys
  rw [List.getElem?_map, List.getElem?_range hg]
  rfl
theorem ab_start {args : Array Value} {s : State} {b L : Nat} {xs : Nat → Int32} (hL : L ≤ 4608) (ht : ∀ w ∈ lw_tbl, w.before args s = true) (hn : ∀ w ∈ ab_nr, w.before args s = true) (hX : va_X b L xs s s.heap) (hb : b < s.heap.size) :
    ∃ E : ab_E, ab_Eb E = s.heap.size ∧ ab_EH E = s.heap ∧ ab_Es E = b ∧ ab_EL E = L ∧ ab_K E s := by
  obtain ⟨EA, hEA⟩ := Classical.axiomOfChoice (ab_start_arr ht)
  obtain ⟨ED, hED⟩ := Classical.axiomOfChoice (ab_start_cls ht)
  obtain ⟨EK, EV, hS, hE⟩ := ab_Sof (A := fun q => s.heap.size ≤ q) hn (fun a h => by omega)
  refine ⟨(s.heap.size, s.heap, (fun c => (ED c).1, fun c => (ED c).2), EA, b, L, xs, EK, EV), rfl, rfl, rfl, rfl, ⟨fun c q hq => ?_, fun g q hq => ?_⟩, fun w hw => ?_, fun c hc => ?_, ?_, fun q hq => ?_, ⟨hS, ?_, ?_, ?_, ?_, ?_⟩, hX, hb, rfl, by show L < 2 ^ 31; omega⟩
  · have hc : c < 14 := ab_cl_lt hq
    have := Option.some.inj ((ab_v_c c (List.mem_range.mpr hc)).symm.trans hq)
    subst this
    exact hED c hc
  · have hg : g < 9 := by
      have := (List.getElem?_eq_some_iff.mp hq).1
      unfold ab_tys at this
      simpa using this
    have := ab_tys_at (E := (s.heap.size, s.heap, (fun c => (ED c).1, fun c => (ED c).2), EA, b, L, xs, EK, EV)) hg
    have := Option.some.inj (this.symm.trans hq)
    subst this
    exact hEA g hg
  · have h9 := ht w (List.mem_filter.mp hw).1
    have h10 := (List.mem_filter.mp hw).2
    cases w <;> first | exact va_tabs rfl rfl h9 | exact absurd h10 (by simp [ab_nest])
  · exact va_AO.of (ht _ (ab_t_AO4 c hc))
  · exact (show ∀ {A : Array Value}, (Cond.arrayOver (.array .int)).before A s = true → va_Nw (.arrayOver (.array .int)) s from fun h => h) (ht _ ab_t_AA)
  · refine vk_R.of (A := args) (ht _ (ab_ws1_mem q hq)) ?_
    rcases ab_pS_two q hq with ⟨h1, h2⟩ | h1
    · have := hE q.2 h1
      unfold ab_tm at this
      rw [← h2] at this
      exact this
    · exact va_eqR (hn _ (ab_we_mem q h1)) (hE q.2 (ab_v_S q hq))
  · exact va_Zof (ht _ ab_t_s1.1) (ht _ ab_t_s1.2.1) (va_eqi (hn _ ab_t_s1.2.2)) (fun a h => by show ¬ (s.heap.size ≤ a); omega)
  · exact vx_Zqof (ht _ ab_t_s2.1) (ht _ ab_t_s2.2.1) (hn _ ab_t_s2.2.2) (fun a h => by show ¬ (s.heap.size ≤ a); omega)
  · exact vx_Zqof (ht _ ab_t_s3.1) (ht _ ab_t_s2.2.1) (hn _ ab_t_s3.2) (fun a h => by show ¬ (s.heap.size ≤ a); omega)
  · exact va_Zqof (ht _ ab_t_s4.1) (ht _ ab_t_s4.2.1) (hn _ ab_t_s4.2.2) (fun a h => by show ¬ (s.heap.size ≤ a); omega)
  · exact va_tabs rfl rfl (ht _ ab_t_ca)
