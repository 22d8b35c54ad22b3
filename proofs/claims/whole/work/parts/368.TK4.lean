/-! TOKENS: the reference's goesOn -/
def ac_mk (k : Int) : Int := if k = 0 then 1 else if k = 1 then 0 else if k = 5 then 4 else k
def ac_msg (k : Int) : Int := if k = 4 then 59 else if k = 5 then 44 else 0
def ac_UT (σ : ab_S) (n : Int) (tp : Int → Int) (s : Int) : Prop := ab_rd σ 355 10 = s ∧ ab_rd σ 355 9 = ac_mk (ac_kk tp n s) ∧ ab_rd σ 355 11 = ac_msg (ac_kk tp n s) ∧ (ac_kk tp n s ≠ 1 → ab_rd σ 355 8 = ac_ke tp n s) ∧ (ac_kk tp n s = 3 → ab_rd σ 355 12 = ac_kv tp (ac_ke tp n s - s).toNat s 0) ∧ (ac_kk tp n s = 2 → ab_rd σ 355 15 = ac_kw 32 tp (ac_ke tp n s - s).toNat s 0)
section
variable {X : ab_X} {σ τ υ : ab_S} {Q : Option ab_V → ab_S → Prop} {n p s x y t i ln a f g k c : Int} {tp : Int → Int} {l1 : ab_V}
theorem ab_wrid (h : ab_rd σ a k = x) : ab_wr σ a k x = σ := ab_sext rfl (fun _ => rfl) (fun b j => by
  rw [ab_rdw]
  by_cases z : b = a ∧ j = k
  · rw [if_pos z, z.1, z.2, h]
  · rw [if_neg z])
theorem mq_goesOn5 (hg : ab_Geo σ) (h9 : ab_rd σ 355 9 = 5) : ab_Do X 171 [ab_R 355] σ Q ↔ Q none σ := by
  simp (disch := omega) only [do_X13_goesOn, rX13_goesOn_0, rX13_goesOn_1, rX13_goesOn_4, rX13_goesOn_5, rX13_goesOn_8, gS_355, hg, h9, ne_eq, not_false_eq_true, not_true_eq_false, true_and, and_true, and_self, true_imp_iff, false_imp_iff, imp_self, Bool.not_false, Bool.not_true, reduceCtorEq, ab_isJ, ab_psh, ab_cats, Bool.false_eq_true, if_true, if_false, ab_shf, ab_shw, Int.le_refl, Classical.not_not, Int.zero_add, forall_const, ↓ab_itT, ↓ab_itF, ab_anT, ab_w32_id, ab_rdf_ne, ab_rdw_ne, ab_rdw_eq, ab_rdf_in, ab_td2, ab_tm2]
theorem mq_goesOn (h : ac_UO σ n tp) (h9 : ¬ ab_rd σ 355 9 = 5) (h8 : ab_rd σ 355 8 = p) (hp : 0 ≤ p ∧ p ≤ n) (hQ : ∀ τ, ab_Same ac_PU σ τ → ac_UT τ n tp (ac_kst tp n p) → Q none τ) : ab_Do X 171 [ab_R 355] σ Q := by
  have L := mq_go_s (X := X) (Q := Q) h (n - p).toNat p hp.1 (by omega)
  have rb := ac_run_b (lo := 32) (hi := 32) (tp := tp) (n := n) (p := p) hp.2
  rw [show ac_ru 32 32 tp n (n - p).toNat p = ac_kst tp n p from rfl, ab_wrid h8] at L
  rw [show ac_run 32 32 tp n p = ac_kst tp n p from rfl] at rb
  generalize ac_kst tp n p = s at *
  have g := h.1
  have nb := h.2.2.1
  have s2 : ab_Same ac_PU σ (ab_wr (ab_wr (ab_wr (ab_wr σ 355 8 s) 355 10 s) 355 9 0) 355 11 0) := (((ab_Same.refl.wr (by unfold ac_PU; omega)).wr (by unfold ac_PU; omega)).wr (by unfold ac_PU; omega)).wr (by unfold ac_PU; omega)
  have hO := h.same s2
  have r8 : ab_rd (ab_wr (ab_wr (ab_wr (ab_wr σ 355 8 s) 355 10 s) 355 9 0) 355 11 0) 355 8 = s := by rw [ab_rdw_ne (by omega), ab_rdw_ne (by omega), ab_rdw_ne (by omega), ab_rdw_eq]
  have r10 : ab_rd (ab_wr (ab_wr (ab_wr (ab_wr σ 355 8 s) 355 10 s) 355 9 0) 355 11 0) 355 10 = s := by rw [ab_rdw_ne (by omega), ab_rdw_ne (by omega), ab_rdw_eq]
  have r9 : ab_rd (ab_wr (ab_wr (ab_wr (ab_wr σ 355 8 s) 355 10 s) 355 9 0) 355 11 0) 355 9 = 0 := by rw [ab_rdw_ne (by omega), ab_rdw_eq]
  have r11 : ab_rd (ab_wr (ab_wr (ab_wr (ab_wr σ 355 8 s) 355 10 s) 355 9 0) 355 11 0) 355 11 = 0 := ab_rdw_eq
  have c0 := fun Q' => mq_byteAt (X := X) (Q := Q') (i := s) hO (by omega)
  have fin : ab_Run X 171 64 (1, 0, 0) [ab_R 355, ab_I (ac_ub tp n s), ab_I 0] [] (ab_wr (ab_wr (ab_wr (ab_wr σ 355 8 s) 355 10 s) 355 9 0) 355 11 0) Q := by
    have g2 := hO.1
    clear c0 L
    generalize ab_wr (ab_wr (ab_wr (ab_wr σ 355 8 s) 355 10 s) 355 9 0) 355 11 0 = ρ at *
    have cl := fun Q' => mq_isLetter (X := X) (σ := ρ) (Q := Q') (c := ac_ub tp n s)
    have cd := fun Q' => mq_isDigit (X := X) (σ := ρ) (Q := Q') (c := ac_ub tp n s)
    by_cases z0 : n ≤ s
    · have e : ac_ub tp n s = -1 := by unfold ac_ub; rw [if_neg (by omega)]
      have eK : ac_kk tp n s = 0 := by unfold ac_kk; rw [if_pos z0]
      have k := hQ (ab_wr ρ 355 9 1) (s2.wr (by unfold ac_PU; omega)) ⟨by rw [ab_rdw_ne (by omega), r10], by rw [ab_rdw_eq, eK]; rfl, by rw [ab_rdw_ne (by omega), r11, eK]; rfl, fun _ => by rw [ab_rdw_ne (by omega), r8]; unfold ac_ke; rw [if_pos z0]; omega, fun u => by omega, fun u => by omega⟩
      rw [e]
      clear hQ h hO s2 cl cd
      simp (disch := omega) only [rX13_goesOn_64, rX13_goesOn_65, rX13_goesOn_66, rX13_goesOn_69, rX13_goesOn_70, rX13_goesOn_71, rX13_goesOn_74, rX13_goesOn_281, gS_355, g2, ne_eq, not_false_eq_true, not_true_eq_false, true_and, and_true, and_self, true_imp_iff, false_imp_iff, imp_self, Bool.not_false, Bool.not_true, reduceCtorEq, ab_isJ, ab_psh, ab_cats, Bool.false_eq_true, if_true, if_false, ab_shf, ab_shw, Int.le_refl, Classical.not_not, Int.zero_add, forall_const, ↓ab_itT, ↓ab_itF, ab_anT, ab_w32_id, ab_rdf_ne, ab_rdw_ne, ab_rdw_eq, ab_rdf_in, ab_td2, ab_tm2]
      all_goals exact k
    · obtain ⟨e4, t1, t2⟩ := hO.2.2.2 s (by omega) (by omega)
      have e : ac_ub tp n s = tp s % 256 := by unfold ac_ub; rw [if_pos (by omega)]
      by_cases z1 : 97 ≤ tp s ∧ tp s ≤ 122
      · have em : ac_ub tp n s = tp s := by rw [e]; omega
        rw [em] at cl cd ⊢
        rw [if_pos z1] at cl
        have ek : ac_ke tp n s = ac_run 97 122 tp n s := by unfold ac_ke; rw [if_neg (by omega), if_pos z1]
        have eK : ac_kk tp n s = if ac_run 97 122 tp n s - s ≤ 8 then 2 else 1 := by unfold ac_kk; rw [if_neg (by omega), if_pos z1]
        have rr := ac_run_b (lo := 97) (hi := 122) (tp := tp) (n := n) (p := s) (by omega)
        have w := mq_go_w (X := X) (Q := Q) (c := tp s) hO (n - s).toNat s 0 0 (by omega) (by omega) (by omega) (fun y hy => by
          rw [show ac_ru 97 122 tp n (n - s).toNat s = ac_run 97 122 tp n s from rfl] at hy ⊢
          have sY : ab_Same ac_PU σ (ab_wr (ab_wr ρ 355 15 y) 355 8 (ac_run 97 122 tp n s)) := (s2.wr (by unfold ac_PU; omega)).wr (by unfold ac_PU; omega)
          by_cases z8 : ac_run 97 122 tp n s - s ≤ 8
          · rw [if_pos z8] at eK
            have k := hQ (ab_wr (ab_wr (ab_wr ρ 355 15 y) 355 8 (ac_run 97 122 tp n s)) 355 9 2) (sY.wr (by unfold ac_PU; omega)) ⟨by rw [ab_rdw_ne (by omega), ab_rdw_ne (by omega), ab_rdw_ne (by omega), r10], by rw [ab_rdw_eq, eK]; rfl, by rw [ab_rdw_ne (by omega), ab_rdw_ne (by omega), ab_rdw_ne (by omega), r11, eK]; rfl, fun _ => by rw [ab_rdw_ne (by omega), ab_rdw_eq, ek], fun u => by omega, fun _ => by rw [ab_rdw_ne (by omega), ab_rdw_ne (by omega), ab_rdw_eq, ek]; exact hy (by omega)⟩
            clear hQ h hO s2 cl cd sY hy
            generalize ac_run 97 122 tp n s = r at *
            simp (disch := omega) only [rX13_goesOn_152, rX13_goesOn_153, rX13_goesOn_155, rX13_goesOn_158, rX13_goesOn_159, rX13_goesOn_160, rX13_goesOn_163, rX13_goesOn_281, gS_355, g2, ne_eq, not_false_eq_true, not_true_eq_false, true_and, and_true, and_self, true_imp_iff, false_imp_iff, imp_self, Bool.not_false, Bool.not_true, reduceCtorEq, ab_isJ, ab_psh, ab_cats, Bool.false_eq_true, if_true, if_false, ab_shf, ab_shw, Int.le_refl, Classical.not_not, Int.zero_add, forall_const, ↓ab_itT, ↓ab_itF, ab_anT, ab_w32_id, ab_rdf_ne, ab_rdw_ne, ab_rdw_eq, ab_rdf_in, ab_td2, ab_tm2]
            all_goals exact k
          · rw [if_neg z8] at eK
            have k := hQ _ sY ⟨by rw [ab_rdw_ne (by omega), ab_rdw_ne (by omega), r10], by rw [ab_rdw_ne (by omega), ab_rdw_ne (by omega), r9, eK]; rfl, by rw [ab_rdw_ne (by omega), ab_rdw_ne (by omega), r11, eK]; rfl, fun u => by omega, fun u => by omega, fun u => by omega⟩
            clear hQ h hO s2 cl cd sY hy
            generalize ac_run 97 122 tp n s = r at *
            simp (disch := omega) only [rX13_goesOn_152, rX13_goesOn_153, rX13_goesOn_155, rX13_goesOn_281, gS_355, g2, ne_eq, not_false_eq_true, not_true_eq_false, true_and, and_true, and_self, true_imp_iff, false_imp_iff, imp_self, Bool.not_false, Bool.not_true, reduceCtorEq, ab_isJ, ab_psh, ab_cats, Bool.false_eq_true, if_true, if_false, ab_shf, ab_shw, Int.le_refl, Classical.not_not, Int.zero_add, forall_const, ↓ab_itT, ↓ab_itF, ab_anT, ab_w32_id, ab_rdf_ne, ab_rdw_ne, ab_rdw_eq, ab_rdf_in, ab_td2, ab_tm2]
            all_goals exact k)
        rw [ab_wrid (show ab_rd (ab_wr ρ 355 15 0) 355 8 = s by rw [ab_rdw_ne (by omega), r8])] at w
        clear hQ h hO s2 cd eK ek
        simp (disch := omega) only [rX13_goesOn_64, rX13_goesOn_65, rX13_goesOn_66, rX13_goesOn_69, rX13_goesOn_70, rX13_goesOn_71, rX13_goesOn_74, rX13_goesOn_77, rX13_goesOn_78, rX13_goesOn_81, rX13_goesOn_84, rX13_goesOn_85, rX13_goesOn_86, gS_355, g2, cl, ne_eq, not_false_eq_true, not_true_eq_false, true_and, and_true, and_self, true_imp_iff, false_imp_iff, imp_self, Bool.not_false, Bool.not_true, reduceCtorEq, ab_isJ, ab_psh, ab_cats, Bool.false_eq_true, if_true, if_false, ab_shf, ab_shw, Int.le_refl, Classical.not_not, Int.zero_add, forall_const, ↓ab_itT, ↓ab_itF, ab_anT, ab_w32_id, ab_rdf_ne, ab_rdw_ne, ab_rdw_eq, ab_rdf_in, ab_td2, ab_tm2]
        all_goals exact w
      · by_cases z2 : 48 ≤ tp s ∧ tp s ≤ 57
        · have em : ac_ub tp n s = tp s := by rw [e]; omega
          rw [em] at cl cd ⊢
          rw [if_neg z1] at cl
          rw [if_pos z2] at cd
          have ek : ac_ke tp n s = ac_run 48 57 tp n s := by unfold ac_ke; rw [if_neg (by omega), if_neg z1, if_pos z2]
          have eK : ac_kk tp n s = if ac_run 48 57 tp n s - s ≤ 2 then 3 else 1 := by unfold ac_kk; rw [if_neg (by omega), if_neg z1, if_pos z2]
          have rr := ac_run_b (lo := 48) (hi := 57) (tp := tp) (n := n) (p := s) (by omega)
          have w := mq_go_v (X := X) (Q := Q) (c := tp s) hO (n - s).toNat s 0 0 (by omega) (by omega) (by omega) (by omega) (fun y hy => by
            rw [show ac_ru 48 57 tp n (n - s).toNat s = ac_run 48 57 tp n s from rfl] at hy ⊢
            have sY : ab_Same ac_PU σ (ab_wr (ab_wr ρ 355 12 y) 355 8 (ac_run 48 57 tp n s)) := (s2.wr (by unfold ac_PU; omega)).wr (by unfold ac_PU; omega)
            by_cases z8 : ac_run 48 57 tp n s - s ≤ 2
            · rw [if_pos z8] at eK
              have k := hQ (ab_wr (ab_wr (ab_wr ρ 355 12 y) 355 8 (ac_run 48 57 tp n s)) 355 9 3) (sY.wr (by unfold ac_PU; omega)) ⟨by rw [ab_rdw_ne (by omega), ab_rdw_ne (by omega), ab_rdw_ne (by omega), r10], by rw [ab_rdw_eq, eK]; rfl, by rw [ab_rdw_ne (by omega), ab_rdw_ne (by omega), ab_rdw_ne (by omega), r11, eK]; rfl, fun _ => by rw [ab_rdw_ne (by omega), ab_rdw_eq, ek], fun _ => by rw [ab_rdw_ne (by omega), ab_rdw_ne (by omega), ab_rdw_eq, ek]; exact hy (by omega), fun u => by omega⟩
              clear hQ h hO s2 cl cd sY hy
              generalize ac_run 48 57 tp n s = r at *
              simp (disch := omega) only [rX13_goesOn_236, rX13_goesOn_237, rX13_goesOn_238, rX13_goesOn_241, rX13_goesOn_242, rX13_goesOn_243, rX13_goesOn_246, rX13_goesOn_281, gS_355, g2, ne_eq, not_false_eq_true, not_true_eq_false, true_and, and_true, and_self, true_imp_iff, false_imp_iff, imp_self, Bool.not_false, Bool.not_true, reduceCtorEq, ab_isJ, ab_psh, ab_cats, Bool.false_eq_true, if_true, if_false, ab_shf, ab_shw, Int.le_refl, Classical.not_not, Int.zero_add, forall_const, ↓ab_itT, ↓ab_itF, ab_anT, ab_w32_id, ab_rdf_ne, ab_rdw_ne, ab_rdw_eq, ab_rdf_in, ab_td2, ab_tm2]
              all_goals exact k
            · rw [if_neg z8] at eK
              have k := hQ _ sY ⟨by rw [ab_rdw_ne (by omega), ab_rdw_ne (by omega), r10], by rw [ab_rdw_ne (by omega), ab_rdw_ne (by omega), r9, eK]; rfl, by rw [ab_rdw_ne (by omega), ab_rdw_ne (by omega), r11, eK]; rfl, fun u => by omega, fun u => by omega, fun u => by omega⟩
              clear hQ h hO s2 cl cd sY hy
              generalize ac_run 48 57 tp n s = r at *
              simp (disch := omega) only [rX13_goesOn_236, rX13_goesOn_237, rX13_goesOn_238, rX13_goesOn_281, gS_355, g2, ne_eq, not_false_eq_true, not_true_eq_false, true_and, and_true, and_self, true_imp_iff, false_imp_iff, imp_self, Bool.not_false, Bool.not_true, reduceCtorEq, ab_isJ, ab_psh, ab_cats, Bool.false_eq_true, if_true, if_false, ab_shf, ab_shw, Int.le_refl, Classical.not_not, Int.zero_add, forall_const, ↓ab_itT, ↓ab_itF, ab_anT, ab_w32_id, ab_rdf_ne, ab_rdw_ne, ab_rdw_eq, ab_rdf_in, ab_td2, ab_tm2]
              all_goals exact k)
          rw [ab_wrid (show ab_rd (ab_wr ρ 355 12 0) 355 8 = s by rw [ab_rdw_ne (by omega), r8])] at w
          clear hQ h hO s2 eK ek
          simp (disch := omega) only [rX13_goesOn_64, rX13_goesOn_65, rX13_goesOn_66, rX13_goesOn_69, rX13_goesOn_70, rX13_goesOn_71, rX13_goesOn_74, rX13_goesOn_77, rX13_goesOn_78, rX13_goesOn_81, rX13_goesOn_166, rX13_goesOn_167, rX13_goesOn_170, rX13_goesOn_173, rX13_goesOn_174, rX13_goesOn_175, gS_355, g2, cl, cd, ne_eq, not_false_eq_true, not_true_eq_false, true_and, and_true, and_self, true_imp_iff, false_imp_iff, imp_self, Bool.not_false, Bool.not_true, reduceCtorEq, ab_isJ, ab_psh, ab_cats, Bool.false_eq_true, if_true, if_false, ab_shf, ab_shw, Int.le_refl, Classical.not_not, Int.zero_add, forall_const, ↓ab_itT, ↓ab_itF, ab_anT, ab_w32_id, ab_rdf_ne, ab_rdw_ne, ab_rdw_eq, ab_rdf_in, ab_td2, ab_tm2]
          all_goals exact w
        · rw [if_neg (by rw [e]; omega)] at cl cd
          have eub : 0 ≤ ac_ub tp n s := by rw [e]; omega
          have ee : ac_ke tp n s = s + 1 := by unfold ac_ke; rw [if_neg z0, if_neg z1, if_neg z2]
          have sg : ∀ kk ch, ac_kk tp n s = kk → (kk = 4 ∧ ch = 59 ∨ kk = 5 ∧ ch = 44) → Q none (ab_wr (ab_wr (ab_wr ρ 355 9 4) 355 11 ch) 355 8 (s + 1)) := fun kk ch u1 u2 => hQ _ (((s2.wr (by unfold ac_PU; omega)).wr (by unfold ac_PU; omega)).wr (by unfold ac_PU; omega)) ⟨by rw [ab_rdw_ne (by omega), ab_rdw_ne (by omega), ab_rdw_ne (by omega), r10], by rw [ab_rdw_ne (by omega), ab_rdw_ne (by omega), ab_rdw_eq, u1]; unfold ac_mk; (rcases u2 with ⟨rfl, _⟩ | ⟨rfl, _⟩ <;> rfl), by rw [ab_rdw_ne (by omega), ab_rdw_eq, u1]; unfold ac_msg; (rcases u2 with ⟨rfl, rfl⟩ | ⟨rfl, rfl⟩ <;> rfl), fun _ => by rw [ab_rdw_eq, ee], fun u => by omega, fun u => by omega⟩
          by_cases z3 : tp s = 59
          · have e59 : ac_ub tp n s = 59 := by rw [e]; omega
            have k := sg 4 59 (by unfold ac_kk; rw [if_neg z0, if_neg z1, if_neg z2, if_pos z3]) (by omega)
            rw [e59] at cl cd ⊢
            clear hQ h hO s2 sg
            simp (disch := omega) only [rX13_goesOn_64, rX13_goesOn_65, rX13_goesOn_66, rX13_goesOn_69, rX13_goesOn_70, rX13_goesOn_71, rX13_goesOn_74, rX13_goesOn_77, rX13_goesOn_78, rX13_goesOn_81, rX13_goesOn_166, rX13_goesOn_167, rX13_goesOn_170, rX13_goesOn_249, rX13_goesOn_250, rX13_goesOn_252, rX13_goesOn_255, rX13_goesOn_256, rX13_goesOn_258, rX13_goesOn_261, rX13_goesOn_262, rX13_goesOn_263, rX13_goesOn_266, rX13_goesOn_267, rX13_goesOn_268, rX13_goesOn_271, rX13_goesOn_272I, rX13_goesOn_272R, rX13_goesOn_273, rX13_goesOn_276, rX13_goesOn_277, rX13_goesOn_278, rX13_goesOn_281, gS_355, g2, r8, cl, cd, ab_w32_id, ne_eq, not_false_eq_true, not_true_eq_false, true_and, and_true, and_self, true_imp_iff, false_imp_iff, imp_self, Bool.not_false, Bool.not_true, reduceCtorEq, ab_isJ, ab_psh, ab_cats, Bool.false_eq_true, if_true, if_false, ab_shf, ab_shw, Int.le_refl, Classical.not_not, Int.zero_add, forall_const, ↓ab_itT, ↓ab_itF, ab_anT, ab_w32_id, ab_rdf_ne, ab_rdw_ne, ab_rdw_eq, ab_rdf_in, ab_td2, ab_tm2]
            all_goals exact k
          · by_cases z4 : tp s = 44
            · have e44 : ac_ub tp n s = 44 := by rw [e]; omega
              have k := sg 5 44 (by unfold ac_kk; rw [if_neg z0, if_neg z1, if_neg z2, if_neg z3, if_pos z4]) (by omega)
              rw [e44] at cl cd ⊢
              clear hQ h hO s2 sg
              simp (disch := omega) only [rX13_goesOn_64, rX13_goesOn_65, rX13_goesOn_66, rX13_goesOn_69, rX13_goesOn_70, rX13_goesOn_71, rX13_goesOn_74, rX13_goesOn_77, rX13_goesOn_78, rX13_goesOn_81, rX13_goesOn_166, rX13_goesOn_167, rX13_goesOn_170, rX13_goesOn_249, rX13_goesOn_250, rX13_goesOn_252, rX13_goesOn_255, rX13_goesOn_256, rX13_goesOn_258, rX13_goesOn_261, rX13_goesOn_262, rX13_goesOn_263, rX13_goesOn_266, rX13_goesOn_267, rX13_goesOn_268, rX13_goesOn_271, rX13_goesOn_272I, rX13_goesOn_272R, rX13_goesOn_273, rX13_goesOn_276, rX13_goesOn_277, rX13_goesOn_278, rX13_goesOn_281, gS_355, g2, r8, cl, cd, ab_w32_id, ne_eq, not_false_eq_true, not_true_eq_false, true_and, and_true, and_self, true_imp_iff, false_imp_iff, imp_self, Bool.not_false, Bool.not_true, reduceCtorEq, ab_isJ, ab_psh, ab_cats, Bool.false_eq_true, if_true, if_false, ab_shf, ab_shw, Int.le_refl, Classical.not_not, Int.zero_add, forall_const, ↓ab_itT, ↓ab_itF, ab_anT, ab_w32_id, ab_rdf_ne, ab_rdw_ne, ab_rdw_eq, ab_rdf_in, ab_td2, ab_tm2]
              all_goals exact k
            · have e1 : ¬ ac_ub tp n s = 59 := by rw [e]; omega
              have e2 : ¬ ac_ub tp n s = 44 := by rw [e]; omega
              have eK : ac_kk tp n s = 1 := by unfold ac_kk; rw [if_neg z0, if_neg z1, if_neg z2, if_neg z3, if_neg z4]
              have k := hQ ρ s2 ⟨r10, by rw [r9, eK]; rfl, by rw [r11, eK]; rfl, fun u => absurd eK u, fun u => by omega, fun u => by omega⟩
              generalize ac_ub tp n s = cc at *
              clear hQ h hO s2 sg
              simp (disch := omega) only [rX13_goesOn_64, rX13_goesOn_65, rX13_goesOn_66, rX13_goesOn_69, rX13_goesOn_70, rX13_goesOn_71, rX13_goesOn_74, rX13_goesOn_77, rX13_goesOn_78, rX13_goesOn_81, rX13_goesOn_166, rX13_goesOn_167, rX13_goesOn_170, rX13_goesOn_249, rX13_goesOn_250, rX13_goesOn_252, rX13_goesOn_255, rX13_goesOn_256, rX13_goesOn_258, rX13_goesOn_281, gS_355, g2, cl, cd, ne_eq, not_false_eq_true, not_true_eq_false, true_and, and_true, and_self, true_imp_iff, false_imp_iff, imp_self, Bool.not_false, Bool.not_true, reduceCtorEq, ab_isJ, ab_psh, ab_cats, Bool.false_eq_true, if_true, if_false, ab_shf, ab_shw, Int.le_refl, Classical.not_not, Int.zero_add, forall_const, ↓ab_itT, ↓ab_itF, ab_anT, ab_w32_id, ab_rdf_ne, ab_rdw_ne, ab_rdw_eq, ab_rdf_in, ab_td2, ab_tm2]
              all_goals exact k
  have k35 : ab_Run X 171 35 (1, 0, 0) [ab_R 355, ab_R 0, ab_R 0] [] (ab_wr σ 355 8 s) Q := by
    clear L hQ h hO s2
    simp (disch := omega) only [rX13_goesOn_35, rX13_goesOn_36, rX13_goesOn_37, rX13_goesOn_40, rX13_goesOn_43, rX13_goesOn_44, rX13_goesOn_45, rX13_goesOn_48, rX13_goesOn_49, rX13_goesOn_50, rX13_goesOn_53, rX13_goesOn_54, rX13_goesOn_55, rX13_goesOn_58, rX13_goesOn_61, rX13_goesOn_62, rX13_goesOn_63, gS_355, g, c0, r8, ne_eq, not_false_eq_true, not_true_eq_false, true_and, and_true, and_self, true_imp_iff, false_imp_iff, imp_self, Bool.not_false, Bool.not_true, reduceCtorEq, ab_isJ, ab_psh, ab_cats, Bool.false_eq_true, if_true, if_false, ab_shf, ab_shw, Int.le_refl, Classical.not_not, Int.zero_add, forall_const, ↓ab_itT, ↓ab_itF, ab_anT, ab_w32_id, ab_rdf_ne, ab_rdw_ne, ab_rdw_eq, ab_rdf_in, ab_td2, ab_tm2]
    all_goals exact fin
  have k9 := L.mpr k35
  clear L hQ h hO s2 fin k35
  simp (disch := omega) only [do_X13_goesOn, rX13_goesOn_0, rX13_goesOn_1, rX13_goesOn_4, rX13_goesOn_5, gS_355, g, ne_eq, not_false_eq_true, not_true_eq_false, true_and, and_true, and_self, true_imp_iff, false_imp_iff, imp_self, Bool.not_false, Bool.not_true, reduceCtorEq, ab_isJ, ab_psh, ab_cats, Bool.false_eq_true, if_true, if_false, ab_shf, ab_shw, Int.le_refl, Classical.not_not, Int.zero_add, forall_const, ↓ab_itT, ↓ab_itF, ab_anT, ab_w32_id, ab_rdf_ne, ab_rdw_ne, ab_rdw_eq, ab_rdf_in, ab_td2, ab_tm2]
  all_goals exact k9
end
