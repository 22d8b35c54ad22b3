/-! READER: the texts, isName on both sides -/
def ac_tx0 : List Int := ab_txt.getD 0 []
def ac_tx1 : List Int := ab_txt.getD 1 []
def ac_tx2 : List Int := ab_txt.getD 2 []
def ac_tx3 : List Int := ab_txt.getD 3 []
def ac_tx4 : List Int := ab_txt.getD 4 []
def ac_tx5 : List Int := ab_txt.getD 5 []
def ac_tx6 : List Int := ab_txt.getD 6 []
def ac_tx7 : List Int := ab_txt.getD 7 []
def ac_tx8 : List Int := ab_txt.getD 8 []
def ac_tx9 : List Int := ab_txt.getD 9 []
def ac_tx10 : List Int := ab_txt.getD 10 []
def ac_tx11 : List Int := ab_txt.getD 11 []
def ac_tx12 : List Int := ab_txt.getD 12 []
def ac_tx13 : List Int := ab_txt.getD 13 []
def ac_tx14 : List Int := ab_txt.getD 14 []
def ac_tx15 : List Int := ab_txt.getD 15 []
def ac_tx16 : List Int := ab_txt.getD 16 []
def ac_tx17 : List Int := ab_txt.getD 17 []
def ac_tx18 : List Int := ab_txt.getD 18 []
def ac_tx19 : List Int := ab_txt.getD 19 []
def ac_tx20 : List Int := ab_txt.getD 20 []
def ac_tx21 : List Int := ab_txt.getD 21 []
def ac_tx22 : List Int := ab_txt.getD 22 []
def ac_tx23 : List Int := ab_txt.getD 23 []
def ac_tx24 : List Int := ab_txt.getD 24 []
def ac_tx25 : List Int := ab_txt.getD 25 []
def ac_tx26 : List Int := ab_txt.getD 26 []
def ac_nm (tp : Int → Int) (n s : Int) : Int := if ac_kk tp n s = 2 then (if ac_isw tp n s ac_tx0 then 0 else if ac_isw tp n s ac_tx6 then 0 else if ac_isw tp n s ac_tx7 then 0 else if ac_isw tp n s ac_tx8 then 0 else if ac_isw tp n s ac_tx9 then 0 else if ac_isw tp n s ac_tx10 then 0 else if ac_isw tp n s ac_tx11 then 0 else if ac_isw tp n s ac_tx12 then 0 else if ac_isw tp n s ac_tx13 then 0 else 1) else 0
theorem ac_TX0 : ac_TX (-2) ac_tx0 := ⟨by decide, by decide, rfl, by decide⟩
theorem ac_TX1 : ac_TX (-3) ac_tx1 := ⟨by decide, by decide, rfl, by decide⟩
theorem ac_TX2 : ac_TX (-4) ac_tx2 := ⟨by decide, by decide, rfl, by decide⟩
theorem ac_TX3 : ac_TX (-5) ac_tx3 := ⟨by decide, by decide, rfl, by decide⟩
theorem ac_TX4 : ac_TX (-6) ac_tx4 := ⟨by decide, by decide, rfl, by decide⟩
theorem ac_TX5 : ac_TX (-7) ac_tx5 := ⟨by decide, by decide, rfl, by decide⟩
theorem ac_TX6 : ac_TX (-8) ac_tx6 := ⟨by decide, by decide, rfl, by decide⟩
theorem ac_TX7 : ac_TX (-9) ac_tx7 := ⟨by decide, by decide, rfl, by decide⟩
theorem ac_TX8 : ac_TX (-10) ac_tx8 := ⟨by decide, by decide, rfl, by decide⟩
theorem ac_TX9 : ac_TX (-11) ac_tx9 := ⟨by decide, by decide, rfl, by decide⟩
theorem ac_TX10 : ac_TX (-12) ac_tx10 := ⟨by decide, by decide, rfl, by decide⟩
theorem ac_TX11 : ac_TX (-13) ac_tx11 := ⟨by decide, by decide, rfl, by decide⟩
theorem ac_TX12 : ac_TX (-14) ac_tx12 := ⟨by decide, by decide, rfl, by decide⟩
theorem ac_TX13 : ac_TX (-15) ac_tx13 := ⟨by decide, by decide, rfl, by decide⟩
theorem ac_TX14 : ac_TX (-16) ac_tx14 := ⟨by decide, by decide, rfl, by decide⟩
theorem ac_TX15 : ac_TX (-17) ac_tx15 := ⟨by decide, by decide, rfl, by decide⟩
theorem ac_TX16 : ac_TX (-18) ac_tx16 := ⟨by decide, by decide, rfl, by decide⟩
theorem ac_TX17 : ac_TX (-19) ac_tx17 := ⟨by decide, by decide, rfl, by decide⟩
theorem ac_TX18 : ac_TX (-20) ac_tx18 := ⟨by decide, by decide, rfl, by decide⟩
theorem ac_TX19 : ac_TX (-21) ac_tx19 := ⟨by decide, by decide, rfl, by decide⟩
theorem ac_TX20 : ac_TX (-22) ac_tx20 := ⟨by decide, by decide, rfl, by decide⟩
theorem ac_TX21 : ac_TX (-23) ac_tx21 := ⟨by decide, by decide, rfl, by decide⟩
theorem ac_TX22 : ac_TX (-24) ac_tx22 := ⟨by decide, by decide, rfl, by decide⟩
theorem ac_TX23 : ac_TX (-25) ac_tx23 := ⟨by decide, by decide, rfl, by decide⟩
theorem ac_TX24 : ac_TX (-26) ac_tx24 := ⟨by decide, by decide, rfl, by decide⟩
theorem ac_TX25 : ac_TX (-27) ac_tx25 := ⟨by decide, by decide, rfl, by decide⟩
theorem ac_TX26 : ac_TX (-28) ac_tx26 := ⟨by decide, by decide, rfl, by decide⟩
theorem ac_tokT : ∀ i : Fin 27, (ab_txt.getD i.val []).length ≤ 8 ∧ ∀ c ∈ ab_txt.getD i.val [], 97 ≤ c ∧ c ≤ 122 := by decide +kernel
theorem ac_tok0 : ac_tok ac_tx0 := ac_tokT ⟨0, by decide⟩
theorem ac_tok1 : ac_tok ac_tx1 := ac_tokT ⟨1, by decide⟩
theorem ac_tok2 : ac_tok ac_tx2 := ac_tokT ⟨2, by decide⟩
theorem ac_tok3 : ac_tok ac_tx3 := ac_tokT ⟨3, by decide⟩
theorem ac_tok4 : ac_tok ac_tx4 := ac_tokT ⟨4, by decide⟩
theorem ac_tok5 : ac_tok ac_tx5 := ac_tokT ⟨5, by decide⟩
theorem ac_tok6 : ac_tok ac_tx6 := ac_tokT ⟨6, by decide⟩
theorem ac_tok7 : ac_tok ac_tx7 := ac_tokT ⟨7, by decide⟩
theorem ac_tok8 : ac_tok ac_tx8 := ac_tokT ⟨8, by decide⟩
theorem ac_tok9 : ac_tok ac_tx9 := ac_tokT ⟨9, by decide⟩
theorem ac_tok10 : ac_tok ac_tx10 := ac_tokT ⟨10, by decide⟩
theorem ac_tok11 : ac_tok ac_tx11 := ac_tokT ⟨11, by decide⟩
theorem ac_tok12 : ac_tok ac_tx12 := ac_tokT ⟨12, by decide⟩
theorem ac_tok13 : ac_tok ac_tx13 := ac_tokT ⟨13, by decide⟩
theorem ac_tok14 : ac_tok ac_tx14 := ac_tokT ⟨14, by decide⟩
theorem ac_tok15 : ac_tok ac_tx15 := ac_tokT ⟨15, by decide⟩
theorem ac_tok16 : ac_tok ac_tx16 := ac_tokT ⟨16, by decide⟩
theorem ac_tok17 : ac_tok ac_tx17 := ac_tokT ⟨17, by decide⟩
theorem ac_tok18 : ac_tok ac_tx18 := ac_tokT ⟨18, by decide⟩
theorem ac_tok19 : ac_tok ac_tx19 := ac_tokT ⟨19, by decide⟩
theorem ac_tok20 : ac_tok ac_tx20 := ac_tokT ⟨20, by decide⟩
theorem ac_tok21 : ac_tok ac_tx21 := ac_tokT ⟨21, by decide⟩
theorem ac_tok22 : ac_tok ac_tx22 := ac_tokT ⟨22, by decide⟩
theorem ac_tok23 : ac_tok ac_tx23 := ac_tokT ⟨23, by decide⟩
theorem ac_tok24 : ac_tok ac_tx24 := ac_tokT ⟨24, by decide⟩
theorem ac_tok25 : ac_tok ac_tx25 := ac_tokT ⟨25, by decide⟩
theorem ac_tok26 : ac_tok ac_tx26 := ac_tokT ⟨26, by decide⟩
section
variable {X : ab_X} {σ τ υ : ab_S} {Q : Option ab_V → ab_S → Prop} {n p s x y t i ln a b c d f g k q lo hi : Int} {tp : Int → Int} {T A B C D : List Int}
theorem mq_isWordX (hg : ab_Geo σ) (hU : ac_UT σ n tp s) (hs : 0 ≤ s) (hX : ac_TX a T) (hk : ac_tok T) : ab_Do X 173 [ab_R 355, ab_R a] σ Q ↔ Q (some (ab_I (if ac_isw tp n s T then 1 else 0))) σ := mq_isWord hg hU hs hX.1 hX.2.1 hX.2.2.1 hk
theorem sp_isName (h : ac_RC σ n tp s) : ab_Do X 58 [ab_R 2] σ Q ↔ Q (some (ab_I (ac_nm tp n s))) σ := by
  have g := h.1.1
  have k2 := h.2.1.1
  have c0 := fun Q' => sp_readsR (X := X) (Q := Q') h ac_TX0
  have c6 := fun Q' => sp_readsR (X := X) (Q := Q') h ac_TX6
  have c7 := fun Q' => sp_readsR (X := X) (Q := Q') h ac_TX7
  have c8 := fun Q' => sp_readsR (X := X) (Q := Q') h ac_TX8
  have c9 := fun Q' => sp_readsR (X := X) (Q := Q') h ac_TX9
  have c10 := fun Q' => sp_readsR (X := X) (Q := Q') h ac_TX10
  have c11 := fun Q' => sp_readsR (X := X) (Q := Q') h ac_TX11
  have c12 := fun Q' => sp_readsR (X := X) (Q := Q') h ac_TX12
  have c13 := fun Q' => sp_readsR (X := X) (Q := Q') h ac_TX13
  clear h
  unfold ac_nm
  by_cases z : ac_kk tp n s = 2
  · rw [if_pos z]
    rw [z] at k2
    by_cases z0 : ac_isw tp n s ac_tx0
    · rw [if_pos z0]
      rw [if_pos z0] at c0
      clear c6 c7 c8 c9 c10 c11 c12 c13
      simp (disch := omega) only [do_X7_isName, rX7_isName_0, rX7_isName_1, rX7_isName_4, rX7_isName_7, rX7_isName_8, rX7_isName_13, rX7_isName_14, rX7_isName_17, rX7_isName_19, rX7_isName_22, rX7_isName_121, rX7_isName_122, rX7_isName_125, rX7_isName_126, rX7_isName_127, rX7_isName_128, rX7_isName_131, rX7_isName_132, rX7_isName_135, rX7_isName_136, gS_2, gP_2_0, gS_3, g, k2, c0, ne_eq, not_false_eq_true, not_true_eq_false, true_and, and_true, and_self, true_imp_iff, false_imp_iff, imp_self, Bool.not_false, Bool.not_true, reduceCtorEq, ab_isJ, ab_psh, ab_cats, Bool.false_eq_true, if_true, if_false, ab_shf, ab_shw, Int.le_refl, Classical.not_not, Int.zero_add, forall_const, ↓ab_itT, ↓ab_itF, ab_anT, ab_w32_id, ab_rdf_ne, ab_rdw_ne, ab_rdw_eq, ab_rdf_in, ab_td2, ab_tm2, true_or, or_true]
    · rw [if_neg z0]
      rw [if_neg z0] at c0
      by_cases z6 : ac_isw tp n s ac_tx6
      · rw [if_pos z6]
        rw [if_pos z6] at c6
        clear c7 c8 c9 c10 c11 c12 c13
        simp (disch := omega) only [do_X7_isName, rX7_isName_0, rX7_isName_1, rX7_isName_4, rX7_isName_7, rX7_isName_8, rX7_isName_13, rX7_isName_14, rX7_isName_17, rX7_isName_19, rX7_isName_22, rX7_isName_25, rX7_isName_26, rX7_isName_29, rX7_isName_31, rX7_isName_34, rX7_isName_121, rX7_isName_122, rX7_isName_125, rX7_isName_126, rX7_isName_127, rX7_isName_128, rX7_isName_131, rX7_isName_132, rX7_isName_135, rX7_isName_136, gS_2, gP_2_0, gS_3, g, k2, c0, c6, ne_eq, not_false_eq_true, not_true_eq_false, true_and, and_true, and_self, true_imp_iff, false_imp_iff, imp_self, Bool.not_false, Bool.not_true, reduceCtorEq, ab_isJ, ab_psh, ab_cats, Bool.false_eq_true, if_true, if_false, ab_shf, ab_shw, Int.le_refl, Classical.not_not, Int.zero_add, forall_const, ↓ab_itT, ↓ab_itF, ab_anT, ab_w32_id, ab_rdf_ne, ab_rdw_ne, ab_rdw_eq, ab_rdf_in, ab_td2, ab_tm2, true_or, or_true]
      · rw [if_neg z6]
        rw [if_neg z6] at c6
        by_cases z7 : ac_isw tp n s ac_tx7
        · rw [if_pos z7]
          rw [if_pos z7] at c7
          clear c8 c9 c10 c11 c12 c13
          simp (disch := omega) only [do_X7_isName, rX7_isName_0, rX7_isName_1, rX7_isName_4, rX7_isName_7, rX7_isName_8, rX7_isName_13, rX7_isName_14, rX7_isName_17, rX7_isName_19, rX7_isName_22, rX7_isName_25, rX7_isName_26, rX7_isName_29, rX7_isName_31, rX7_isName_34, rX7_isName_37, rX7_isName_38, rX7_isName_41, rX7_isName_43, rX7_isName_46, rX7_isName_121, rX7_isName_122, rX7_isName_125, rX7_isName_126, rX7_isName_127, rX7_isName_128, rX7_isName_131, rX7_isName_132, rX7_isName_135, rX7_isName_136, gS_2, gP_2_0, gS_3, g, k2, c0, c6, c7, ne_eq, not_false_eq_true, not_true_eq_false, true_and, and_true, and_self, true_imp_iff, false_imp_iff, imp_self, Bool.not_false, Bool.not_true, reduceCtorEq, ab_isJ, ab_psh, ab_cats, Bool.false_eq_true, if_true, if_false, ab_shf, ab_shw, Int.le_refl, Classical.not_not, Int.zero_add, forall_const, ↓ab_itT, ↓ab_itF, ab_anT, ab_w32_id, ab_rdf_ne, ab_rdw_ne, ab_rdw_eq, ab_rdf_in, ab_td2, ab_tm2, true_or, or_true]
        · rw [if_neg z7]
          rw [if_neg z7] at c7
          by_cases z8 : ac_isw tp n s ac_tx8
          · rw [if_pos z8]
            rw [if_pos z8] at c8
            clear c9 c10 c11 c12 c13
            simp (disch := omega) only [do_X7_isName, rX7_isName_0, rX7_isName_1, rX7_isName_4, rX7_isName_7, rX7_isName_8, rX7_isName_13, rX7_isName_14, rX7_isName_17, rX7_isName_19, rX7_isName_22, rX7_isName_25, rX7_isName_26, rX7_isName_29, rX7_isName_31, rX7_isName_34, rX7_isName_37, rX7_isName_38, rX7_isName_41, rX7_isName_43, rX7_isName_46, rX7_isName_49, rX7_isName_50, rX7_isName_53, rX7_isName_55, rX7_isName_58, rX7_isName_121, rX7_isName_122, rX7_isName_125, rX7_isName_126, rX7_isName_127, rX7_isName_128, rX7_isName_131, rX7_isName_132, rX7_isName_135, rX7_isName_136, gS_2, gP_2_0, gS_3, g, k2, c0, c6, c7, c8, ne_eq, not_false_eq_true, not_true_eq_false, true_and, and_true, and_self, true_imp_iff, false_imp_iff, imp_self, Bool.not_false, Bool.not_true, reduceCtorEq, ab_isJ, ab_psh, ab_cats, Bool.false_eq_true, if_true, if_false, ab_shf, ab_shw, Int.le_refl, Classical.not_not, Int.zero_add, forall_const, ↓ab_itT, ↓ab_itF, ab_anT, ab_w32_id, ab_rdf_ne, ab_rdw_ne, ab_rdw_eq, ab_rdf_in, ab_td2, ab_tm2, true_or, or_true]
          · rw [if_neg z8]
            rw [if_neg z8] at c8
            by_cases z9 : ac_isw tp n s ac_tx9
            · rw [if_pos z9]
              rw [if_pos z9] at c9
              clear c10 c11 c12 c13
              simp (disch := omega) only [do_X7_isName, rX7_isName_0, rX7_isName_1, rX7_isName_4, rX7_isName_7, rX7_isName_8, rX7_isName_13, rX7_isName_14, rX7_isName_17, rX7_isName_19, rX7_isName_22, rX7_isName_25, rX7_isName_26, rX7_isName_29, rX7_isName_31, rX7_isName_34, rX7_isName_37, rX7_isName_38, rX7_isName_41, rX7_isName_43, rX7_isName_46, rX7_isName_49, rX7_isName_50, rX7_isName_53, rX7_isName_55, rX7_isName_58, rX7_isName_61, rX7_isName_62, rX7_isName_65, rX7_isName_67, rX7_isName_70, rX7_isName_121, rX7_isName_122, rX7_isName_125, rX7_isName_126, rX7_isName_127, rX7_isName_128, rX7_isName_131, rX7_isName_132, rX7_isName_135, rX7_isName_136, gS_2, gP_2_0, gS_3, g, k2, c0, c6, c7, c8, c9, ne_eq, not_false_eq_true, not_true_eq_false, true_and, and_true, and_self, true_imp_iff, false_imp_iff, imp_self, Bool.not_false, Bool.not_true, reduceCtorEq, ab_isJ, ab_psh, ab_cats, Bool.false_eq_true, if_true, if_false, ab_shf, ab_shw, Int.le_refl, Classical.not_not, Int.zero_add, forall_const, ↓ab_itT, ↓ab_itF, ab_anT, ab_w32_id, ab_rdf_ne, ab_rdw_ne, ab_rdw_eq, ab_rdf_in, ab_td2, ab_tm2, true_or, or_true]
            · rw [if_neg z9]
              rw [if_neg z9] at c9
              by_cases z10 : ac_isw tp n s ac_tx10
              · rw [if_pos z10]
                rw [if_pos z10] at c10
                clear c11 c12 c13
                simp (disch := omega) only [do_X7_isName, rX7_isName_0, rX7_isName_1, rX7_isName_4, rX7_isName_7, rX7_isName_8, rX7_isName_13, rX7_isName_14, rX7_isName_17, rX7_isName_19, rX7_isName_22, rX7_isName_25, rX7_isName_26, rX7_isName_29, rX7_isName_31, rX7_isName_34, rX7_isName_37, rX7_isName_38, rX7_isName_41, rX7_isName_43, rX7_isName_46, rX7_isName_49, rX7_isName_50, rX7_isName_53, rX7_isName_55, rX7_isName_58, rX7_isName_61, rX7_isName_62, rX7_isName_65, rX7_isName_67, rX7_isName_70, rX7_isName_73, rX7_isName_74, rX7_isName_77, rX7_isName_79, rX7_isName_82, rX7_isName_121, rX7_isName_122, rX7_isName_125, rX7_isName_126, rX7_isName_127, rX7_isName_128, rX7_isName_131, rX7_isName_132, rX7_isName_135, rX7_isName_136, gS_2, gP_2_0, gS_3, g, k2, c0, c6, c7, c8, c9, c10, ne_eq, not_false_eq_true, not_true_eq_false, true_and, and_true, and_self, true_imp_iff, false_imp_iff, imp_self, Bool.not_false, Bool.not_true, reduceCtorEq, ab_isJ, ab_psh, ab_cats, Bool.false_eq_true, if_true, if_false, ab_shf, ab_shw, Int.le_refl, Classical.not_not, Int.zero_add, forall_const, ↓ab_itT, ↓ab_itF, ab_anT, ab_w32_id, ab_rdf_ne, ab_rdw_ne, ab_rdw_eq, ab_rdf_in, ab_td2, ab_tm2, true_or, or_true]
              · rw [if_neg z10]
                rw [if_neg z10] at c10
                by_cases z11 : ac_isw tp n s ac_tx11
                · rw [if_pos z11]
                  rw [if_pos z11] at c11
                  clear c12 c13
                  simp (disch := omega) only [do_X7_isName, rX7_isName_0, rX7_isName_1, rX7_isName_4, rX7_isName_7, rX7_isName_8, rX7_isName_13, rX7_isName_14, rX7_isName_17, rX7_isName_19, rX7_isName_22, rX7_isName_25, rX7_isName_26, rX7_isName_29, rX7_isName_31, rX7_isName_34, rX7_isName_37, rX7_isName_38, rX7_isName_41, rX7_isName_43, rX7_isName_46, rX7_isName_49, rX7_isName_50, rX7_isName_53, rX7_isName_55, rX7_isName_58, rX7_isName_61, rX7_isName_62, rX7_isName_65, rX7_isName_67, rX7_isName_70, rX7_isName_73, rX7_isName_74, rX7_isName_77, rX7_isName_79, rX7_isName_82, rX7_isName_85, rX7_isName_86, rX7_isName_89, rX7_isName_91, rX7_isName_94, rX7_isName_121, rX7_isName_122, rX7_isName_125, rX7_isName_126, rX7_isName_127, rX7_isName_128, rX7_isName_131, rX7_isName_132, rX7_isName_135, rX7_isName_136, gS_2, gP_2_0, gS_3, g, k2, c0, c6, c7, c8, c9, c10, c11, ne_eq, not_false_eq_true, not_true_eq_false, true_and, and_true, and_self, true_imp_iff, false_imp_iff, imp_self, Bool.not_false, Bool.not_true, reduceCtorEq, ab_isJ, ab_psh, ab_cats, Bool.false_eq_true, if_true, if_false, ab_shf, ab_shw, Int.le_refl, Classical.not_not, Int.zero_add, forall_const, ↓ab_itT, ↓ab_itF, ab_anT, ab_w32_id, ab_rdf_ne, ab_rdw_ne, ab_rdw_eq, ab_rdf_in, ab_td2, ab_tm2, true_or, or_true]
                · rw [if_neg z11]
                  rw [if_neg z11] at c11
                  by_cases z12 : ac_isw tp n s ac_tx12
                  · rw [if_pos z12]
                    rw [if_pos z12] at c12
                    clear c13
                    simp (disch := omega) only [do_X7_isName, rX7_isName_0, rX7_isName_1, rX7_isName_4, rX7_isName_7, rX7_isName_8, rX7_isName_13, rX7_isName_14, rX7_isName_17, rX7_isName_19, rX7_isName_22, rX7_isName_25, rX7_isName_26, rX7_isName_29, rX7_isName_31, rX7_isName_34, rX7_isName_37, rX7_isName_38, rX7_isName_41, rX7_isName_43, rX7_isName_46, rX7_isName_49, rX7_isName_50, rX7_isName_53, rX7_isName_55, rX7_isName_58, rX7_isName_61, rX7_isName_62, rX7_isName_65, rX7_isName_67, rX7_isName_70, rX7_isName_73, rX7_isName_74, rX7_isName_77, rX7_isName_79, rX7_isName_82, rX7_isName_85, rX7_isName_86, rX7_isName_89, rX7_isName_91, rX7_isName_94, rX7_isName_97, rX7_isName_98, rX7_isName_101, rX7_isName_103, rX7_isName_106, rX7_isName_121, rX7_isName_122, rX7_isName_125, rX7_isName_126, rX7_isName_127, rX7_isName_128, rX7_isName_131, rX7_isName_132, rX7_isName_135, rX7_isName_136, gS_2, gP_2_0, gS_3, g, k2, c0, c6, c7, c8, c9, c10, c11, c12, ne_eq, not_false_eq_true, not_true_eq_false, true_and, and_true, and_self, true_imp_iff, false_imp_iff, imp_self, Bool.not_false, Bool.not_true, reduceCtorEq, ab_isJ, ab_psh, ab_cats, Bool.false_eq_true, if_true, if_false, ab_shf, ab_shw, Int.le_refl, Classical.not_not, Int.zero_add, forall_const, ↓ab_itT, ↓ab_itF, ab_anT, ab_w32_id, ab_rdf_ne, ab_rdw_ne, ab_rdw_eq, ab_rdf_in, ab_td2, ab_tm2, true_or, or_true]
                  · rw [if_neg z12]
                    rw [if_neg z12] at c12
                    by_cases z13 : ac_isw tp n s ac_tx13
                    · rw [if_pos z13]
                      rw [if_pos z13] at c13
                      simp (disch := omega) only [do_X7_isName, rX7_isName_0, rX7_isName_1, rX7_isName_4, rX7_isName_7, rX7_isName_8, rX7_isName_13, rX7_isName_14, rX7_isName_17, rX7_isName_19, rX7_isName_22, rX7_isName_25, rX7_isName_26, rX7_isName_29, rX7_isName_31, rX7_isName_34, rX7_isName_37, rX7_isName_38, rX7_isName_41, rX7_isName_43, rX7_isName_46, rX7_isName_49, rX7_isName_50, rX7_isName_53, rX7_isName_55, rX7_isName_58, rX7_isName_61, rX7_isName_62, rX7_isName_65, rX7_isName_67, rX7_isName_70, rX7_isName_73, rX7_isName_74, rX7_isName_77, rX7_isName_79, rX7_isName_82, rX7_isName_85, rX7_isName_86, rX7_isName_89, rX7_isName_91, rX7_isName_94, rX7_isName_97, rX7_isName_98, rX7_isName_101, rX7_isName_103, rX7_isName_106, rX7_isName_109, rX7_isName_110, rX7_isName_113, rX7_isName_115, rX7_isName_118, rX7_isName_121, rX7_isName_122, rX7_isName_125, rX7_isName_126, rX7_isName_127, rX7_isName_128, rX7_isName_131, rX7_isName_132, rX7_isName_135, rX7_isName_136, gS_2, gP_2_0, gS_3, g, k2, c0, c6, c7, c8, c9, c10, c11, c12, c13, ne_eq, not_false_eq_true, not_true_eq_false, true_and, and_true, and_self, true_imp_iff, false_imp_iff, imp_self, Bool.not_false, Bool.not_true, reduceCtorEq, ab_isJ, ab_psh, ab_cats, Bool.false_eq_true, if_true, if_false, ab_shf, ab_shw, Int.le_refl, Classical.not_not, Int.zero_add, forall_const, ↓ab_itT, ↓ab_itF, ab_anT, ab_w32_id, ab_rdf_ne, ab_rdw_ne, ab_rdw_eq, ab_rdf_in, ab_td2, ab_tm2, true_or, or_true]
                    · rw [if_neg z13]
                      rw [if_neg z13] at c13
                      simp (disch := omega) only [do_X7_isName, rX7_isName_0, rX7_isName_1, rX7_isName_4, rX7_isName_7, rX7_isName_8, rX7_isName_11, rX7_isName_12, rX7_isName_13, rX7_isName_14, rX7_isName_17, rX7_isName_19, rX7_isName_22, rX7_isName_25, rX7_isName_26, rX7_isName_29, rX7_isName_31, rX7_isName_34, rX7_isName_37, rX7_isName_38, rX7_isName_41, rX7_isName_43, rX7_isName_46, rX7_isName_49, rX7_isName_50, rX7_isName_53, rX7_isName_55, rX7_isName_58, rX7_isName_61, rX7_isName_62, rX7_isName_65, rX7_isName_67, rX7_isName_70, rX7_isName_73, rX7_isName_74, rX7_isName_77, rX7_isName_79, rX7_isName_82, rX7_isName_85, rX7_isName_86, rX7_isName_89, rX7_isName_91, rX7_isName_94, rX7_isName_97, rX7_isName_98, rX7_isName_101, rX7_isName_103, rX7_isName_106, rX7_isName_109, rX7_isName_110, rX7_isName_113, rX7_isName_115, rX7_isName_118, rX7_isName_121, rX7_isName_122, rX7_isName_125, rX7_isName_126, rX7_isName_127, rX7_isName_128, rX7_isName_131, rX7_isName_132, rX7_isName_135, rX7_isName_136, gS_2, gP_2_0, gS_3, g, k2, c0, c6, c7, c8, c9, c10, c11, c12, c13, ne_eq, not_false_eq_true, not_true_eq_false, true_and, and_true, and_self, true_imp_iff, false_imp_iff, imp_self, Bool.not_false, Bool.not_true, reduceCtorEq, ab_isJ, ab_psh, ab_cats, Bool.false_eq_true, if_true, if_false, ab_shf, ab_shw, Int.le_refl, Classical.not_not, Int.zero_add, forall_const, ↓ab_itT, ↓ab_itF, ab_anT, ab_w32_id, ab_rdf_ne, ab_rdw_ne, ab_rdw_eq, ab_rdf_in, ab_td2, ab_tm2, true_or, or_true]
  · rw [if_neg z]
    have z' : ¬ ab_rd σ 3 2 = 2 := by rw [k2]; exact z
    simp (disch := omega) only [do_X7_isName, rX7_isName_0, rX7_isName_1, rX7_isName_4, rX7_isName_7, rX7_isName_8, rX7_isName_11, rX7_isName_12, gS_2, gP_2_0, gS_3, g, ne_eq, not_false_eq_true, not_true_eq_false, true_and, and_true, and_self, true_imp_iff, false_imp_iff, imp_self, Bool.not_false, Bool.not_true, reduceCtorEq, ab_isJ, ab_psh, ab_cats, Bool.false_eq_true, if_true, if_false, ab_shf, ab_shw, Int.le_refl, Classical.not_not, Int.zero_add, forall_const, ↓ab_itT, ↓ab_itF, ab_anT, ab_w32_id, ab_rdf_ne, ab_rdw_ne, ab_rdw_eq, ab_rdf_in, ab_td2, ab_tm2, true_or, or_true]
theorem mq_isName (g : ab_Geo σ) (h : ac_UT σ n tp s) (hs : 0 ≤ s) : ab_Do X 180 [ab_R 355] σ Q ↔ Q (some (ab_I (ac_nm tp n s))) σ := by
  have k2 := h.2.1
  have c0 := fun Q' => mq_isWordX (X := X) (Q := Q') g h hs ac_TX0 ac_tok0
  have c6 := fun Q' => mq_isWordX (X := X) (Q := Q') g h hs ac_TX6 ac_tok6
  have c7 := fun Q' => mq_isWordX (X := X) (Q := Q') g h hs ac_TX7 ac_tok7
  have c8 := fun Q' => mq_isWordX (X := X) (Q := Q') g h hs ac_TX8 ac_tok8
  have c9 := fun Q' => mq_isWordX (X := X) (Q := Q') g h hs ac_TX9 ac_tok9
  have c10 := fun Q' => mq_isWordX (X := X) (Q := Q') g h hs ac_TX10 ac_tok10
  have c11 := fun Q' => mq_isWordX (X := X) (Q := Q') g h hs ac_TX11 ac_tok11
  have c12 := fun Q' => mq_isWordX (X := X) (Q := Q') g h hs ac_TX12 ac_tok12
  have c13 := fun Q' => mq_isWordX (X := X) (Q := Q') g h hs ac_TX13 ac_tok13
  clear h
  unfold ac_nm
  by_cases z : ac_kk tp n s = 2
  · rw [if_pos z]
    rw [z] at k2
    have k2 : ab_rd σ 355 9 = 2 := k2
    by_cases z0 : ac_isw tp n s ac_tx0
    · rw [if_pos z0]
      rw [if_pos z0] at c0
      clear c6 c7 c8 c9 c10 c11 c12 c13
      simp (disch := omega) only [do_X13_isName, rX13_isName_0, rX13_isName_1, rX13_isName_4, rX13_isName_5, rX13_isName_8, rX13_isName_9, rX13_isName_11, rX13_isName_14, rX13_isName_17, rX13_isName_18, rX13_isName_20, rX13_isName_23, rX13_isName_26, rX13_isName_27, rX13_isName_29, rX13_isName_32, rX13_isName_35, rX13_isName_36, rX13_isName_38, rX13_isName_41, rX13_isName_44, rX13_isName_45, rX13_isName_47, rX13_isName_50, rX13_isName_53, rX13_isName_54, rX13_isName_55, rX13_isName_56, rX13_isName_58, rX13_isName_61, rX13_isName_64, rX13_isName_65, rX13_isName_67, rX13_isName_70, rX13_isName_73, rX13_isName_74, rX13_isName_76, rX13_isName_79, rX13_isName_82, rX13_isName_83, rX13_isName_85, rX13_isName_88, rX13_isName_91, rX13_isName_92, rX13_isName_95, rX13_isName_96, gS_355, g, k2, c0, ne_eq, not_false_eq_true, not_true_eq_false, true_and, and_true, and_self, true_imp_iff, false_imp_iff, imp_self, Bool.not_false, Bool.not_true, reduceCtorEq, ab_isJ, ab_psh, ab_cats, Bool.false_eq_true, if_true, if_false, ab_shf, ab_shw, Int.le_refl, Classical.not_not, Int.zero_add, forall_const, ↓ab_itT, ↓ab_itF, ab_anT, ab_w32_id, ab_rdf_ne, ab_rdw_ne, ab_rdw_eq, ab_rdf_in, ab_td2, ab_tm2, true_or, or_true]
    · rw [if_neg z0]
      rw [if_neg z0] at c0
      by_cases z6 : ac_isw tp n s ac_tx6
      · rw [if_pos z6]
        rw [if_pos z6] at c6
        clear c7 c8 c9 c10 c11 c12 c13
        simp (disch := omega) only [do_X13_isName, rX13_isName_0, rX13_isName_1, rX13_isName_4, rX13_isName_5, rX13_isName_8, rX13_isName_9, rX13_isName_11, rX13_isName_14, rX13_isName_17, rX13_isName_18, rX13_isName_20, rX13_isName_23, rX13_isName_26, rX13_isName_27, rX13_isName_29, rX13_isName_32, rX13_isName_35, rX13_isName_36, rX13_isName_38, rX13_isName_41, rX13_isName_44, rX13_isName_45, rX13_isName_47, rX13_isName_50, rX13_isName_53, rX13_isName_54, rX13_isName_55, rX13_isName_56, rX13_isName_58, rX13_isName_61, rX13_isName_64, rX13_isName_65, rX13_isName_67, rX13_isName_70, rX13_isName_73, rX13_isName_74, rX13_isName_76, rX13_isName_79, rX13_isName_82, rX13_isName_83, rX13_isName_85, rX13_isName_88, rX13_isName_91, rX13_isName_92, rX13_isName_95, rX13_isName_96, gS_355, g, k2, c0, c6, ne_eq, not_false_eq_true, not_true_eq_false, true_and, and_true, and_self, true_imp_iff, false_imp_iff, imp_self, Bool.not_false, Bool.not_true, reduceCtorEq, ab_isJ, ab_psh, ab_cats, Bool.false_eq_true, if_true, if_false, ab_shf, ab_shw, Int.le_refl, Classical.not_not, Int.zero_add, forall_const, ↓ab_itT, ↓ab_itF, ab_anT, ab_w32_id, ab_rdf_ne, ab_rdw_ne, ab_rdw_eq, ab_rdf_in, ab_td2, ab_tm2, true_or, or_true]
      · rw [if_neg z6]
        rw [if_neg z6] at c6
        by_cases z7 : ac_isw tp n s ac_tx7
        · rw [if_pos z7]
          rw [if_pos z7] at c7
          clear c8 c9 c10 c11 c12 c13
          simp (disch := omega) only [do_X13_isName, rX13_isName_0, rX13_isName_1, rX13_isName_4, rX13_isName_5, rX13_isName_8, rX13_isName_9, rX13_isName_11, rX13_isName_14, rX13_isName_17, rX13_isName_18, rX13_isName_20, rX13_isName_23, rX13_isName_26, rX13_isName_27, rX13_isName_29, rX13_isName_32, rX13_isName_35, rX13_isName_36, rX13_isName_38, rX13_isName_41, rX13_isName_44, rX13_isName_45, rX13_isName_47, rX13_isName_50, rX13_isName_53, rX13_isName_54, rX13_isName_55, rX13_isName_56, rX13_isName_58, rX13_isName_61, rX13_isName_64, rX13_isName_65, rX13_isName_67, rX13_isName_70, rX13_isName_73, rX13_isName_74, rX13_isName_76, rX13_isName_79, rX13_isName_82, rX13_isName_83, rX13_isName_85, rX13_isName_88, rX13_isName_91, rX13_isName_92, rX13_isName_95, rX13_isName_96, gS_355, g, k2, c0, c6, c7, ne_eq, not_false_eq_true, not_true_eq_false, true_and, and_true, and_self, true_imp_iff, false_imp_iff, imp_self, Bool.not_false, Bool.not_true, reduceCtorEq, ab_isJ, ab_psh, ab_cats, Bool.false_eq_true, if_true, if_false, ab_shf, ab_shw, Int.le_refl, Classical.not_not, Int.zero_add, forall_const, ↓ab_itT, ↓ab_itF, ab_anT, ab_w32_id, ab_rdf_ne, ab_rdw_ne, ab_rdw_eq, ab_rdf_in, ab_td2, ab_tm2, true_or, or_true]
        · rw [if_neg z7]
          rw [if_neg z7] at c7
          by_cases z8 : ac_isw tp n s ac_tx8
          · rw [if_pos z8]
            rw [if_pos z8] at c8
            clear c9 c10 c11 c12 c13
            simp (disch := omega) only [do_X13_isName, rX13_isName_0, rX13_isName_1, rX13_isName_4, rX13_isName_5, rX13_isName_8, rX13_isName_9, rX13_isName_11, rX13_isName_14, rX13_isName_17, rX13_isName_18, rX13_isName_20, rX13_isName_23, rX13_isName_26, rX13_isName_27, rX13_isName_29, rX13_isName_32, rX13_isName_35, rX13_isName_36, rX13_isName_38, rX13_isName_41, rX13_isName_44, rX13_isName_45, rX13_isName_47, rX13_isName_50, rX13_isName_53, rX13_isName_54, rX13_isName_55, rX13_isName_56, rX13_isName_58, rX13_isName_61, rX13_isName_64, rX13_isName_65, rX13_isName_67, rX13_isName_70, rX13_isName_73, rX13_isName_74, rX13_isName_76, rX13_isName_79, rX13_isName_82, rX13_isName_83, rX13_isName_85, rX13_isName_88, rX13_isName_91, rX13_isName_92, rX13_isName_95, rX13_isName_96, gS_355, g, k2, c0, c6, c7, c8, ne_eq, not_false_eq_true, not_true_eq_false, true_and, and_true, and_self, true_imp_iff, false_imp_iff, imp_self, Bool.not_false, Bool.not_true, reduceCtorEq, ab_isJ, ab_psh, ab_cats, Bool.false_eq_true, if_true, if_false, ab_shf, ab_shw, Int.le_refl, Classical.not_not, Int.zero_add, forall_const, ↓ab_itT, ↓ab_itF, ab_anT, ab_w32_id, ab_rdf_ne, ab_rdw_ne, ab_rdw_eq, ab_rdf_in, ab_td2, ab_tm2, true_or, or_true]
          · rw [if_neg z8]
            rw [if_neg z8] at c8
            by_cases z9 : ac_isw tp n s ac_tx9
            · rw [if_pos z9]
              rw [if_pos z9] at c9
              clear c10 c11 c12 c13
              simp (disch := omega) only [do_X13_isName, rX13_isName_0, rX13_isName_1, rX13_isName_4, rX13_isName_5, rX13_isName_8, rX13_isName_9, rX13_isName_11, rX13_isName_14, rX13_isName_17, rX13_isName_18, rX13_isName_20, rX13_isName_23, rX13_isName_26, rX13_isName_27, rX13_isName_29, rX13_isName_32, rX13_isName_35, rX13_isName_36, rX13_isName_38, rX13_isName_41, rX13_isName_44, rX13_isName_45, rX13_isName_47, rX13_isName_50, rX13_isName_53, rX13_isName_54, rX13_isName_55, rX13_isName_56, rX13_isName_58, rX13_isName_61, rX13_isName_64, rX13_isName_65, rX13_isName_67, rX13_isName_70, rX13_isName_73, rX13_isName_74, rX13_isName_76, rX13_isName_79, rX13_isName_82, rX13_isName_83, rX13_isName_85, rX13_isName_88, rX13_isName_91, rX13_isName_92, rX13_isName_95, rX13_isName_96, gS_355, g, k2, c0, c6, c7, c8, c9, ne_eq, not_false_eq_true, not_true_eq_false, true_and, and_true, and_self, true_imp_iff, false_imp_iff, imp_self, Bool.not_false, Bool.not_true, reduceCtorEq, ab_isJ, ab_psh, ab_cats, Bool.false_eq_true, if_true, if_false, ab_shf, ab_shw, Int.le_refl, Classical.not_not, Int.zero_add, forall_const, ↓ab_itT, ↓ab_itF, ab_anT, ab_w32_id, ab_rdf_ne, ab_rdw_ne, ab_rdw_eq, ab_rdf_in, ab_td2, ab_tm2, true_or, or_true]
            · rw [if_neg z9]
              rw [if_neg z9] at c9
              by_cases z10 : ac_isw tp n s ac_tx10
              · rw [if_pos z10]
                rw [if_pos z10] at c10
                clear c11 c12 c13
                simp (disch := omega) only [do_X13_isName, rX13_isName_0, rX13_isName_1, rX13_isName_4, rX13_isName_5, rX13_isName_8, rX13_isName_9, rX13_isName_11, rX13_isName_14, rX13_isName_17, rX13_isName_18, rX13_isName_20, rX13_isName_23, rX13_isName_26, rX13_isName_27, rX13_isName_29, rX13_isName_32, rX13_isName_35, rX13_isName_36, rX13_isName_38, rX13_isName_41, rX13_isName_44, rX13_isName_45, rX13_isName_47, rX13_isName_50, rX13_isName_53, rX13_isName_54, rX13_isName_55, rX13_isName_56, rX13_isName_58, rX13_isName_61, rX13_isName_64, rX13_isName_65, rX13_isName_67, rX13_isName_70, rX13_isName_73, rX13_isName_74, rX13_isName_76, rX13_isName_79, rX13_isName_82, rX13_isName_83, rX13_isName_85, rX13_isName_88, rX13_isName_91, rX13_isName_92, rX13_isName_95, rX13_isName_96, gS_355, g, k2, c0, c6, c7, c8, c9, c10, ne_eq, not_false_eq_true, not_true_eq_false, true_and, and_true, and_self, true_imp_iff, false_imp_iff, imp_self, Bool.not_false, Bool.not_true, reduceCtorEq, ab_isJ, ab_psh, ab_cats, Bool.false_eq_true, if_true, if_false, ab_shf, ab_shw, Int.le_refl, Classical.not_not, Int.zero_add, forall_const, ↓ab_itT, ↓ab_itF, ab_anT, ab_w32_id, ab_rdf_ne, ab_rdw_ne, ab_rdw_eq, ab_rdf_in, ab_td2, ab_tm2, true_or, or_true]
              · rw [if_neg z10]
                rw [if_neg z10] at c10
                by_cases z11 : ac_isw tp n s ac_tx11
                · rw [if_pos z11]
                  rw [if_pos z11] at c11
                  clear c12 c13
                  simp (disch := omega) only [do_X13_isName, rX13_isName_0, rX13_isName_1, rX13_isName_4, rX13_isName_5, rX13_isName_8, rX13_isName_9, rX13_isName_11, rX13_isName_14, rX13_isName_17, rX13_isName_18, rX13_isName_20, rX13_isName_23, rX13_isName_26, rX13_isName_27, rX13_isName_29, rX13_isName_32, rX13_isName_35, rX13_isName_36, rX13_isName_38, rX13_isName_41, rX13_isName_44, rX13_isName_45, rX13_isName_47, rX13_isName_50, rX13_isName_53, rX13_isName_54, rX13_isName_55, rX13_isName_56, rX13_isName_58, rX13_isName_61, rX13_isName_64, rX13_isName_65, rX13_isName_67, rX13_isName_70, rX13_isName_73, rX13_isName_74, rX13_isName_76, rX13_isName_79, rX13_isName_82, rX13_isName_83, rX13_isName_85, rX13_isName_88, rX13_isName_91, rX13_isName_92, rX13_isName_95, rX13_isName_96, gS_355, g, k2, c0, c6, c7, c8, c9, c10, c11, ne_eq, not_false_eq_true, not_true_eq_false, true_and, and_true, and_self, true_imp_iff, false_imp_iff, imp_self, Bool.not_false, Bool.not_true, reduceCtorEq, ab_isJ, ab_psh, ab_cats, Bool.false_eq_true, if_true, if_false, ab_shf, ab_shw, Int.le_refl, Classical.not_not, Int.zero_add, forall_const, ↓ab_itT, ↓ab_itF, ab_anT, ab_w32_id, ab_rdf_ne, ab_rdw_ne, ab_rdw_eq, ab_rdf_in, ab_td2, ab_tm2, true_or, or_true]
                · rw [if_neg z11]
                  rw [if_neg z11] at c11
                  by_cases z12 : ac_isw tp n s ac_tx12
                  · rw [if_pos z12]
                    rw [if_pos z12] at c12
                    clear c13
                    simp (disch := omega) only [do_X13_isName, rX13_isName_0, rX13_isName_1, rX13_isName_4, rX13_isName_5, rX13_isName_8, rX13_isName_9, rX13_isName_11, rX13_isName_14, rX13_isName_17, rX13_isName_18, rX13_isName_20, rX13_isName_23, rX13_isName_26, rX13_isName_27, rX13_isName_29, rX13_isName_32, rX13_isName_35, rX13_isName_36, rX13_isName_38, rX13_isName_41, rX13_isName_44, rX13_isName_45, rX13_isName_47, rX13_isName_50, rX13_isName_53, rX13_isName_54, rX13_isName_55, rX13_isName_56, rX13_isName_58, rX13_isName_61, rX13_isName_64, rX13_isName_65, rX13_isName_67, rX13_isName_70, rX13_isName_73, rX13_isName_74, rX13_isName_76, rX13_isName_79, rX13_isName_82, rX13_isName_83, rX13_isName_85, rX13_isName_88, rX13_isName_91, rX13_isName_92, rX13_isName_95, rX13_isName_96, gS_355, g, k2, c0, c6, c7, c8, c9, c10, c11, c12, ne_eq, not_false_eq_true, not_true_eq_false, true_and, and_true, and_self, true_imp_iff, false_imp_iff, imp_self, Bool.not_false, Bool.not_true, reduceCtorEq, ab_isJ, ab_psh, ab_cats, Bool.false_eq_true, if_true, if_false, ab_shf, ab_shw, Int.le_refl, Classical.not_not, Int.zero_add, forall_const, ↓ab_itT, ↓ab_itF, ab_anT, ab_w32_id, ab_rdf_ne, ab_rdw_ne, ab_rdw_eq, ab_rdf_in, ab_td2, ab_tm2, true_or, or_true]
                  · rw [if_neg z12]
                    rw [if_neg z12] at c12
                    by_cases z13 : ac_isw tp n s ac_tx13
                    · rw [if_pos z13]
                      rw [if_pos z13] at c13
                      simp (disch := omega) only [do_X13_isName, rX13_isName_0, rX13_isName_1, rX13_isName_4, rX13_isName_5, rX13_isName_8, rX13_isName_9, rX13_isName_11, rX13_isName_14, rX13_isName_17, rX13_isName_18, rX13_isName_20, rX13_isName_23, rX13_isName_26, rX13_isName_27, rX13_isName_29, rX13_isName_32, rX13_isName_35, rX13_isName_36, rX13_isName_38, rX13_isName_41, rX13_isName_44, rX13_isName_45, rX13_isName_47, rX13_isName_50, rX13_isName_53, rX13_isName_54, rX13_isName_55, rX13_isName_56, rX13_isName_58, rX13_isName_61, rX13_isName_64, rX13_isName_65, rX13_isName_67, rX13_isName_70, rX13_isName_73, rX13_isName_74, rX13_isName_76, rX13_isName_79, rX13_isName_82, rX13_isName_83, rX13_isName_85, rX13_isName_88, rX13_isName_91, rX13_isName_92, rX13_isName_95, rX13_isName_96, gS_355, g, k2, c0, c6, c7, c8, c9, c10, c11, c12, c13, ne_eq, not_false_eq_true, not_true_eq_false, true_and, and_true, and_self, true_imp_iff, false_imp_iff, imp_self, Bool.not_false, Bool.not_true, reduceCtorEq, ab_isJ, ab_psh, ab_cats, Bool.false_eq_true, if_true, if_false, ab_shf, ab_shw, Int.le_refl, Classical.not_not, Int.zero_add, forall_const, ↓ab_itT, ↓ab_itF, ab_anT, ab_w32_id, ab_rdf_ne, ab_rdw_ne, ab_rdw_eq, ab_rdf_in, ab_td2, ab_tm2, true_or, or_true]
                    · rw [if_neg z13]
                      rw [if_neg z13] at c13
                      simp (disch := omega) only [do_X13_isName, rX13_isName_0, rX13_isName_1, rX13_isName_4, rX13_isName_5, rX13_isName_8, rX13_isName_9, rX13_isName_11, rX13_isName_14, rX13_isName_17, rX13_isName_18, rX13_isName_20, rX13_isName_23, rX13_isName_26, rX13_isName_27, rX13_isName_29, rX13_isName_32, rX13_isName_35, rX13_isName_36, rX13_isName_38, rX13_isName_41, rX13_isName_44, rX13_isName_45, rX13_isName_47, rX13_isName_50, rX13_isName_53, rX13_isName_54, rX13_isName_55, rX13_isName_56, rX13_isName_58, rX13_isName_61, rX13_isName_64, rX13_isName_65, rX13_isName_67, rX13_isName_70, rX13_isName_73, rX13_isName_74, rX13_isName_76, rX13_isName_79, rX13_isName_82, rX13_isName_83, rX13_isName_85, rX13_isName_88, rX13_isName_91, rX13_isName_92, rX13_isName_95, rX13_isName_96, gS_355, g, k2, c0, c6, c7, c8, c9, c10, c11, c12, c13, ne_eq, not_false_eq_true, not_true_eq_false, true_and, and_true, and_self, true_imp_iff, false_imp_iff, imp_self, Bool.not_false, Bool.not_true, reduceCtorEq, ab_isJ, ab_psh, ab_cats, Bool.false_eq_true, if_true, if_false, ab_shf, ab_shw, Int.le_refl, Classical.not_not, Int.zero_add, forall_const, ↓ab_itT, ↓ab_itF, ab_anT, ab_w32_id, ab_rdf_ne, ab_rdw_ne, ab_rdw_eq, ab_rdf_in, ab_td2, ab_tm2, true_or, or_true]
  · rw [if_neg z]
    have z' : ¬ ab_rd σ 355 9 = 2 := by
      rw [k2]
      unfold ac_mk
      split
      · omega
      · split
        · omega
        · split <;> omega
    simp (disch := omega) only [do_X13_isName, rX13_isName_0, rX13_isName_1, rX13_isName_4, rX13_isName_5, rX13_isName_53, rX13_isName_54, gS_355, g, ne_eq, not_false_eq_true, not_true_eq_false, true_and, and_true, and_self, true_imp_iff, false_imp_iff, imp_self, Bool.not_false, Bool.not_true, reduceCtorEq, ab_isJ, ab_psh, ab_cats, Bool.false_eq_true, if_true, if_false, ab_shf, ab_shw, Int.le_refl, Classical.not_not, Int.zero_add, forall_const, ↓ab_itT, ↓ab_itF, ab_anT, ab_w32_id, ab_rdf_ne, ab_rdw_ne, ab_rdw_eq, ab_rdf_in, ab_td2, ab_tm2, true_or, or_true]
theorem mq_isName5 (g : ab_Geo σ) (h9 : ab_rd σ 355 9 = 5) : ab_Do X 180 [ab_R 355] σ Q ↔ Q (some (ab_I 0)) σ := by
  simp (disch := omega) only [do_X13_isName, rX13_isName_0, rX13_isName_1, rX13_isName_4, rX13_isName_5, rX13_isName_53, rX13_isName_54, gS_355, g, h9, ne_eq, not_false_eq_true, not_true_eq_false, true_and, and_true, and_self, true_imp_iff, false_imp_iff, imp_self, Bool.not_false, Bool.not_true, reduceCtorEq, ab_isJ, ab_psh, ab_cats, Bool.false_eq_true, if_true, if_false, ab_shf, ab_shw, Int.le_refl, Classical.not_not, Int.zero_add, forall_const, ↓ab_itT, ↓ab_itF, ab_anT, ab_w32_id, ab_rdf_ne, ab_rdw_ne, ab_rdw_eq, ab_rdf_in, ab_td2, ab_tm2, true_or, or_true]
end
