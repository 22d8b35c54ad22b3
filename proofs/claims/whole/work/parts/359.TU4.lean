/-! TURNS: the reference's loop -/
section
variable {X : ab_X} {σ τ υ : ab_S} {Q : Option ab_V → ab_S → Prop} {M n w k p q j i x lim : Int} {P c : Int → Int} {res : Option (Int → Int)} {κ : ac_K}
theorem ac_MT.first (h : ac_MT σ n k P c) (hk : k < 9) : ac_M9 (ab_wr σ 365 k 0) n k P c 0 := by
  obtain ⟨h1, h2, h3⟩ := h
  exact ⟨fun x x1 x2 => by rw [ab_rdw_ne (by omega)]; exact h1 x x1 x2, fun i i1 i2 => by rw [ab_rdw_ne (by omega)]; exact h2 i i1 i2, ab_rdw_eq, fun i i1 i2 => by rw [ab_rdw_ne (by omega)]; exact h3 i (by omega) i2⟩
theorem ac_M9.next (h : ac_M9 σ n k P c j) : ac_M9 (ab_wr σ 365 k (j + 1)) n k P c (j + 1) := by
  obtain ⟨h1, h2, h3, h4⟩ := h
  exact ⟨fun x x1 x2 => by rw [ab_rdw_ne (by omega)]; exact h1 x x1 x2, fun i i1 i2 => by rw [ab_rdw_ne (by omega)]; exact h2 i i1 i2, ab_rdw_eq, fun i i1 i2 => by rw [ab_rdw_ne (by omega)]; exact h4 i i1 i2⟩
theorem ac_M9.last (h : ac_M9 σ n k P c j) : ac_MT (ab_wr σ 365 k (-1)) n k P c := by
  obtain ⟨h1, h2, h3, h4⟩ := h
  refine ⟨fun x x1 x2 => by rw [ab_rdw_ne (by omega)]; exact h1 x x1 x2, fun i i1 i2 => by rw [ab_rdw_ne (by omega)]; exact h2 i i1 i2, fun i i1 i2 => ?_⟩
  by_cases z : i = k
  · rw [z, ab_rdw_eq]
  · rw [ab_rdw_ne (by omega)]; exact h4 i (by omega) i2
theorem ac_M9.up (h : ac_M9 σ n k P c j) (hn : 2 ≤ n ∧ n ≤ 6) (hk : 0 ≤ k) (hj : 0 ≤ j ∧ j < ac_np n) : ac_MT (ab_wr (ab_wr σ 366 (ac_ls n j) (c (ac_ls n j) + 1)) 366 (ac_gr n j) (c (ac_gr n j) + 1)) n (k + 1) (ac_uP P k j) (ac_uc n c j) := by
  obtain ⟨h1, h2, h3, h4⟩ := h
  have lb := ac_lg_b hn hj
  refine ⟨fun x x1 x2 => ?_, fun i i1 i2 => ?_, fun i i1 i2 => by rw [ab_rdw_ne (by omega), ab_rdw_ne (by omega)]; exact h4 i (by omega) i2⟩
  · have t := h1 x x1 x2
    unfold ac_uc
    by_cases z : x = ac_gr n j
    · rw [if_pos (Or.inr z), ← z, ab_rdw_eq]
      exact ⟨rfl, by omega, by omega⟩
    · by_cases z2 : x = ac_ls n j
      · rw [if_pos (Or.inl z2), ab_rdw_ne (by omega), ← z2, ab_rdw_eq]
        exact ⟨rfl, by omega, by omega⟩
      · rw [if_neg (by omega), ab_rdw_ne (by omega), ab_rdw_ne (by omega)]
        exact ⟨t.1, by omega, by omega⟩
  · unfold ac_uP
    rw [ab_rdw_ne (by omega), ab_rdw_ne (by omega)]
    by_cases z : i = k
    · rw [if_pos z, z, h3]
      exact ⟨rfl, hj.1, hj.2⟩
    · rw [if_neg z]
      exact h2 i i1 (by omega)
theorem ac_MT.down (h : ac_MT σ n (k + 1) (ac_uP P k j) (ac_uc n c j)) (hc : ∀ x, 0 ≤ x → x < n → 0 ≤ c x ∧ c x ≤ k) (hn : 2 ≤ n ∧ n ≤ 6) (hk : 0 ≤ k) (hj : 0 ≤ j ∧ j < ac_np n) : ac_M9 (ab_wr (ab_wr (ab_wr σ 366 (ac_ls n j) (c (ac_ls n j))) 366 (ac_gr n j) (c (ac_gr n j))) 365 k (j + 1)) n k P c (j + 1) ∧ ab_rd σ 366 (ac_ls n j) = c (ac_ls n j) + 1 ∧ ab_rd σ 366 (ac_gr n j) = c (ac_gr n j) + 1 ∧ ab_rd σ 365 k = j := by
  obtain ⟨h1, h2, h3⟩ := h
  have lb := ac_lg_b hn hj
  have u : ∀ x, x = ac_ls n j ∨ x = ac_gr n j → ac_uc n c j x = c x + 1 := fun x hx => by unfold ac_uc; rw [if_pos hx]
  have u' : ∀ x, ¬ (x = ac_ls n j ∨ x = ac_gr n j) → ac_uc n c j x = c x := fun x hx => by unfold ac_uc; rw [if_neg hx]
  refine ⟨⟨fun x x1 x2 => ⟨?_, hc x x1 x2⟩, fun i i1 i2 => ?_, ab_rdw_eq, fun i i1 i2 => by rw [ab_rdw_ne (by omega), ab_rdw_ne (by omega), ab_rdw_ne (by omega)]; exact h3 i (by omega) i2⟩, ?_, ?_, ?_⟩
  · rw [ab_rdw_ne (by omega)]
    by_cases z : x = ac_gr n j
    · rw [← z, ab_rdw_eq]
    · by_cases z2 : x = ac_ls n j
      · rw [ab_rdw_ne (by omega), ← z2, ab_rdw_eq]
      · rw [ab_rdw_ne (by omega), ab_rdw_ne (by omega), (h1 x x1 x2).1, u' x (by omega)]
  · have t := h2 i i1 (by omega)
    unfold ac_uP at t
    rw [if_neg (by omega)] at t
    rw [ab_rdw_ne (by omega), ab_rdw_ne (by omega), ab_rdw_ne (by omega)]
    exact t
  · rw [(h1 _ (by omega) (by omega)).1, u _ (Or.inl rfl)]
  · rw [(h1 _ (by omega) (by omega)).1, u _ (Or.inr rfl)]
  · have t := (h2 k hk (by omega)).1
    unfold ac_uP at t
    rw [if_pos rfl] at t
    exact t
/-- behind a level -/
def ac_uQ (X : ab_X) (res : Option (Int → Int)) (σ : ab_S) (n w k : Int) (P c : Int → Int) (Q : Option ab_V → ab_S → Prop) : Prop := match res with
  | some R => ∀ τ, ab_Same ac_PN σ τ → (∀ i, 0 ≤ i → i < w → ab_rd τ 365 i = R i ∧ 0 ≤ R i ∧ R i < ac_np n) → Q (some (ab_I 1)) τ
  | none => ∀ τ, ab_Same ac_PN σ τ → ac_MT τ n k P c → ab_Run X 253 64 (2, 0, 0) [ab_R 355, ab_I w, ab_I (ac_np n), ab_I (k - 1)] [] τ Q
theorem ac_uQ.tr (h : ac_uQ X res σ n w k P c Q) (hs : ab_Same ac_PN σ τ) : ac_uQ X res τ n w k P c Q := by
  unfold ac_uQ at h ⊢
  cases res with
  | some R => exact fun υ u1 u2 => h υ (hs.trans u1) u2
  | none => exact fun υ u1 u2 => h υ (hs.trans u1) u2
theorem ac_MI.sameN (h : ac_MI σ M κ) (hs : ab_Same ac_PN σ τ) : ac_MI τ M κ := h.same (hs.mono (fun _ _ => ac_PN_PM))
/-- from a counted pair to the next -/
theorem mq_lt_r (h : ac_MI σ M κ) (hw : 1 ≤ w ∧ w ≤ 9) (hk : 0 ≤ k ∧ k < w) (hj : 0 ≤ j ∧ j < ac_np (κ 6 0)) (hc : ∀ x, 0 ≤ x → x < κ 6 0 → 0 ≤ c x ∧ c x ≤ k) (hT : ac_MT σ (κ 6 0) (k + 1) (ac_uP P k j) (ac_uc (κ 6 0) c j))
    (hR : ∀ τ, ab_Same ac_PN σ τ → ac_M9 τ (κ 6 0) k P c (j + 1) → ab_Run X 253 119 (2, 0, 0) [ab_R 355, ab_I w, ab_I (ac_np (κ 6 0)), ab_I k] [] τ Q) : ab_Run X 253 64 (2, 0, 0) [ab_R 355, ab_I w, ab_I (ac_np (κ 6 0)), ab_I k] [] σ Q := by
  have n6 := h.2.2.2.2.2.1.2.1
  have n2 := h.2.2.2.2.2.2.2.2
  have hn : 2 ≤ κ 6 0 ∧ κ 6 0 ≤ 6 := ⟨n2, by omega⟩
  have lb := ac_lg_b hn hj
  obtain ⟨d1, d2, d3, d4⟩ := hT.down hc hn hk.1 hj
  have cl := hc (ac_ls (κ 6 0) j) (by omega) (by omega)
  have cg := hc (ac_gr (κ 6 0) j) (by omega) (by omega)
  have s1 : ab_Same ac_PN σ (ab_wr (ab_wr σ 366 (ac_ls (κ 6 0) j) (c (ac_ls (κ 6 0) j))) 366 (ac_gr (κ 6 0) j) (c (ac_gr (κ 6 0) j))) := (ab_Same.refl.wr (Or.inr rfl)).wr (Or.inr rfl)
  have c1 := fun Q' => mq_counts (X := X) (Q := Q') (by_ := -1) h hj d2 d3 (by omega)
  rw [show c (ac_ls (κ 6 0) j) + 1 + -1 = c (ac_ls (κ 6 0) j) by omega, show c (ac_gr (κ 6 0) j) + 1 + -1 = c (ac_gr (κ 6 0) j) by omega] at c1
  have key := hR _ (s1.wr (a := 365) (k := k) (v := j + 1) (Or.inl rfl)) d1
  have g := h.1
  have nb := (ac_np_b hn).1
  clear hR d1 hT hc h
  rw [rX13_laysTurns_64]
  simp (disch := omega) only [rX13_laysTurns_65, rX13_laysTurns_68, rX13_laysTurns_69, rX13_laysTurns_70, rX13_laysTurns_88, rX13_laysTurns_89, rX13_laysTurns_92, rX13_laysTurns_93, rX13_laysTurns_94, rX13_laysTurns_95, rX13_laysTurns_98, rX13_laysTurns_99, rX13_laysTurns_100, rX13_laysTurns_103, rX13_laysTurns_104, rX13_laysTurns_105, rX13_laysTurns_106, rX13_laysTurns_109, rX13_laysTurns_110, rX13_laysTurns_113, rX13_laysTurns_114, rX13_laysTurns_115, rX13_laysTurns_116, rX13_laysTurns_117, rX13_laysTurns_118, gS_355, gP_355_32, gS_365, g, d4, c1, ab_w32_id, ne_eq, not_false_eq_true, not_true_eq_false, true_and, and_true, and_self, true_imp_iff, false_imp_iff, imp_self, Bool.not_false, Bool.not_true, reduceCtorEq, ab_isJ, ab_psh, ab_cats, Bool.false_eq_true, if_true, if_false, ab_shf, ab_shw, Int.le_refl, Classical.not_not, Int.zero_add, forall_const, ↓ab_itT, ↓ab_itF, ab_anT, ab_w32_id, ab_rdf_ne, ab_rdw_ne, ab_rdw_eq, ab_rdf_in, ab_td2, ab_tm2]
  all_goals exact key
theorem mq_lt_j (rc : (Int → Int) → (Int → Int) → Option (Int → Int)) (hw : 1 ≤ w ∧ w ≤ 9) (hk : 0 ≤ k ∧ k < w) (hlo : ∀ x, 0 ≤ x → x < κ 6 0 → c x ≤ (2 * w + κ 6 0 - 1) / κ 6 0)
    (ih : ∀ (σ : ab_S) (P c : Int → Int), ac_MI σ M κ → ac_MT σ (κ 6 0) (k + 1) P c → (∀ x, 0 ≤ x → x < κ 6 0 → c x ≤ (2 * w + κ 6 0 - 1) / κ 6 0) → ac_uQ X (rc P c) σ (κ 6 0) w (k + 1) P c Q → ab_Run X 253 64 (2, 0, 0) [ab_R 355, ab_I w, ab_I (ac_np (κ 6 0)), ab_I (k + 1)] [] σ Q) :
    ∀ (f : Nat) (j : Int) (σ : ab_S), ac_MI σ M κ → 0 ≤ j → j + f = ac_np (κ 6 0) → ac_M9 σ (κ 6 0) k P c j → ac_uQ X (ac_ttL (κ 6 0) w rc k P c f j) σ (κ 6 0) w k P c Q → ab_Run X 253 119 (2, 0, 0) [ab_R 355, ab_I w, ab_I (ac_np (κ 6 0)), ab_I k] [] σ Q := by
  intro f
  induction f with
  | zero =>
    intro j σ h hj hf h9 hQ
    obtain rfl : j = ac_np (κ 6 0) := by omega
    have g := h.1
    have e9 := h9.2.2.1
    have s1 : ab_Same ac_PN σ (ab_wr σ 365 k (-1)) := ab_Same.refl.wr (Or.inl rfl)
    have key : ab_Run X 253 64 (2, 0, 0) [ab_R 355, ab_I w, ab_I (ac_np (κ 6 0)), ab_I (k - 1)] [] (ab_wr σ 365 k (-1)) Q := hQ _ s1 h9.last
    clear ih hQ h9 h hlo
    rw [rX13_laysTurns_119]
    simp (disch := omega) only [rX13_laysTurns_120, rX13_laysTurns_123, rX13_laysTurns_124, rX13_laysTurns_125, rX13_laysTurns_126, rX13_laysTurns_196, rX13_laysTurns_197, rX13_laysTurns_200, rX13_laysTurns_201, rX13_laysTurns_202, rX13_laysTurns_203, rX13_laysTurns_206, rX13_laysTurns_207, rX13_laysTurns_210, rX13_laysTurns_211, rX13_laysTurns_212, rX13_laysTurns_213, rX13_laysTurns_216, gS_355, gP_355_32, gS_365, g, e9, ne_eq, not_false_eq_true, not_true_eq_false, true_and, and_true, and_self, true_imp_iff, false_imp_iff, imp_self, Bool.not_false, Bool.not_true, reduceCtorEq, ab_isJ, ab_psh, ab_cats, Bool.false_eq_true, if_true, if_false, ab_shf, ab_shw, Int.le_refl, Classical.not_not, Int.zero_add, forall_const, ↓ab_itT, ↓ab_itF, ab_anT, ab_w32_id, ab_rdf_ne, ab_rdw_ne, ab_rdw_eq, ab_rdf_in, ab_td2, ab_tm2]
    all_goals exact key
  | succ f ihf =>
    intro j σ h hj0 hf h9 hQ
    have n6 := h.2.2.2.2.2.1.2.1
    have n2 := h.2.2.2.2.2.2.2.2
    have hn : 2 ≤ κ 6 0 ∧ κ 6 0 ≤ 6 := ⟨n2, by omega⟩
    have nb := (ac_np_b hn).1
    have hj : 0 ≤ j ∧ j < ac_np (κ 6 0) := by omega
    have lb := ac_lg_b hn hj
    have g := h.1
    have e9 := h9.2.2.1
    have hc : ∀ x, 0 ≤ x → x < κ 6 0 → 0 ≤ c x ∧ c x ≤ k := fun x x1 x2 => (h9.1 x x1 x2).2
    have cl := hc (ac_ls (κ 6 0) j) (by omega) (by omega)
    have cg := hc (ac_gr (κ 6 0) j) (by omega) (by omega)
    unfold ac_ttL at hQ
    have c1 := fun Q' => mq_lesser (X := X) (Q := Q') h hj
    have c2 := fun Q' => mq_greater (X := X) (Q := Q') h hj
    rw [rX13_laysTurns_119]
    by_cases ad : k = 0 ∨ (¬ (ac_ls (κ 6 0) (P (k - 1)) = ac_ls (κ 6 0) j ∨ ac_gr (κ 6 0) (P (k - 1)) = ac_ls (κ 6 0) j) ∧ ¬ (ac_ls (κ 6 0) (P (k - 1)) = ac_gr (κ 6 0) j ∨ ac_gr (κ 6 0) (P (k - 1)) = ac_gr (κ 6 0) j))
    · have hup := h9.up hn hk.1 hj
      have s1 : ab_Same ac_PN σ (ab_wr (ab_wr σ 366 (ac_ls (κ 6 0) j) (c (ac_ls (κ 6 0) j) + 1)) 366 (ac_gr (κ 6 0) j) (c (ac_gr (κ 6 0) j) + 1)) := (ab_Same.refl.wr (Or.inr rfl)).wr (Or.inr rfl)
      have c3 := fun Q' => mq_counts (X := X) (Q := Q') (by_ := 1) h hj (h9.1 _ (by omega) (by omega)).1 (h9.1 _ (by omega) (by omega)).1 (by omega)
      have hI := h.sameN s1
      have gI := hI.1
      have back : ∀ τ, ab_Same ac_PN σ τ → ac_MT τ (κ 6 0) (k + 1) (ac_uP P k j) (ac_uc (κ 6 0) c j) → ac_uQ X (ac_ttL (κ 6 0) w rc k P c f (j + 1)) σ (κ 6 0) w k P c Q → ab_Run X 253 64 (2, 0, 0) [ab_R 355, ab_I w, ab_I (ac_np (κ 6 0)), ab_I k] [] τ Q := fun τ u1 u2 u3 =>
        mq_lt_r (h.sameN u1) hw hk hj hc u2 (fun υ v1 v2 => ihf (j + 1) υ (h.sameN (u1.trans v1)) (by omega) (by omega) v2 (u3.tr (u1.trans v1)))
      have body : ab_Do X 251 [ab_R 355, ab_I w] (ab_wr (ab_wr σ 366 (ac_ls (κ 6 0) j) (c (ac_ls (κ 6 0) j) + 1)) 366 (ac_gr (κ 6 0) j) (c (ac_gr (κ 6 0) j) + 1)) (fun r σ' => ab_Run X 253 235 (2, 0, 0) [ab_R 355, ab_I w, ab_I (ac_np (κ 6 0)), ab_I k] (ab_psh r []) σ' Q) := by
        refine mq_isLow (c := ac_uc (κ 6 0) c j) hI hw (fun x x1 x2 => (hup.1 x x1 x2).1) (fun hl => ?_) (fun hl => ?_)
        · have l1 := hl (ac_ls (κ 6 0) j) (by omega) (by omega)
          have l2 := hl (ac_gr (κ 6 0) j) (by omega) (by omega)
          unfold ac_uc at l1 l2
          rw [if_pos (Or.inl rfl), ac_lim hn] at l1
          rw [if_pos (Or.inr rfl), ac_lim hn] at l2
          rw [if_pos ⟨⟨l1, by omega⟩, ⟨l2, by omega⟩⟩] at hQ
          have key : ab_Run X 253 64 (2, 0, 0) [ab_R 355, ab_I w, ab_I (ac_np (κ 6 0)), ab_I (k + 1)] [] (ab_wr (ab_wr σ 366 (ac_ls (κ 6 0) j) (c (ac_ls (κ 6 0) j) + 1)) 366 (ac_gr (κ 6 0) j) (c (ac_gr (κ 6 0) j) + 1)) Q := by
            refine ih _ _ _ hI hup hl ?_
            cases hR : rc (ac_uP P k j) (ac_uc (κ 6 0) c j) with
            | some R =>
              rw [hR] at hQ
              exact fun τ u1 u2 => hQ τ (s1.trans u1) u2
            | none =>
              rw [hR] at hQ
              intro τ u1 u2
              rw [show k + 1 - 1 = k by omega]
              exact back τ (s1.trans u1) u2 hQ
          clear ih ihf hQ h9 h hup hI back hl hlo hc c1 c2 c3
          simp (disch := omega) only [rX13_laysTurns_235, rX13_laysTurns_238, rX13_laysTurns_241, ne_eq, not_false_eq_true, not_true_eq_false, true_and, and_true, and_self, true_imp_iff, false_imp_iff, imp_self, Bool.not_false, Bool.not_true, reduceCtorEq, ab_isJ, ab_psh, ab_cats, Bool.false_eq_true, if_true, if_false, ab_shf, ab_shw, Int.le_refl, Classical.not_not, Int.zero_add, forall_const, ↓ab_itT, ↓ab_itF, ab_anT, ab_w32_id, ab_rdf_ne, ab_rdw_ne, ab_rdw_eq, ab_rdf_in, ab_td2, ab_tm2]
          all_goals exact key
        · have hno : ¬ (ac_may (κ 6 0) w k P c (ac_ls (κ 6 0) j) ∧ ac_may (κ 6 0) w k P c (ac_gr (κ 6 0) j)) := fun u => by
            obtain ⟨x, x1, x2, x3⟩ := hl
            have l1 := u.1.1
            have l2 := u.2.1
            rw [← ac_lim hn] at l1 l2
            have l3 := hlo x x1 x2
            unfold ac_uc at x3
            by_cases z : x = ac_ls (κ 6 0) j ∨ x = ac_gr (κ 6 0) j
            · rw [if_pos z] at x3
              rcases z with z | z
              · rw [z] at x3; omega
              · rw [z] at x3; omega
            · rw [if_neg z] at x3; omega
          rw [if_neg hno] at hQ
          have key := back _ s1 hup hQ
          clear ih ihf hQ h9 h hup hI back hl hlo hc c1 c2 c3 hno
          simp (disch := omega) only [rX13_laysTurns_235, rX13_laysTurns_238, rX13_laysTurns_241, ne_eq, not_false_eq_true, not_true_eq_false, true_and, and_true, and_self, true_imp_iff, false_imp_iff, imp_self, Bool.not_false, Bool.not_true, reduceCtorEq, ab_isJ, ab_psh, ab_cats, Bool.false_eq_true, if_true, if_false, ab_shf, ab_shw, Int.le_refl, Classical.not_not, Int.zero_add, forall_const, ↓ab_itT, ↓ab_itF, ab_anT, ab_w32_id, ab_rdf_ne, ab_rdw_ne, ab_rdw_eq, ab_rdf_in, ab_td2, ab_tm2]
          all_goals exact key
      by_cases k0 : k = 0
      · clear ih ihf hQ h9 h hup hI back hlo hc s1
        simp (disch := omega) only [rX13_laysTurns_120, rX13_laysTurns_123, rX13_laysTurns_124, rX13_laysTurns_125, rX13_laysTurns_126, rX13_laysTurns_129, rX13_laysTurns_130, rX13_laysTurns_196, rX13_laysTurns_197, rX13_laysTurns_200, rX13_laysTurns_201, rX13_laysTurns_202, rX13_laysTurns_203, rX13_laysTurns_219, rX13_laysTurns_220, rX13_laysTurns_221, rX13_laysTurns_224, rX13_laysTurns_225, rX13_laysTurns_226, rX13_laysTurns_227, rX13_laysTurns_230, rX13_laysTurns_231, rX13_laysTurns_232, gS_355, gP_355_32, gS_365, g, gI, e9, c3, ne_eq, not_false_eq_true, not_true_eq_false, true_and, and_true, and_self, true_imp_iff, false_imp_iff, imp_self, Bool.not_false, Bool.not_true, reduceCtorEq, ab_isJ, ab_psh, ab_cats, Bool.false_eq_true, if_true, if_false, ab_shf, ab_shw, Int.le_refl, Classical.not_not, Int.zero_add, forall_const, ↓ab_itT, ↓ab_itF, ab_anT, ab_w32_id, ab_rdf_ne, ab_rdw_ne, ab_rdw_eq, ab_rdf_in, ab_td2, ab_tm2]
        all_goals exact body
      · obtain ⟨ep, p1, p2⟩ := h9.2.1 (k - 1) (by omega) (by omega)
        have c4 := fun x Q' => mq_isIn (X := X) (Q := Q') (x := x) h ⟨p1, p2⟩
        have a1 : ¬ (ac_ls (κ 6 0) (P (k - 1)) = ac_ls (κ 6 0) j ∨ ac_gr (κ 6 0) (P (k - 1)) = ac_ls (κ 6 0) j) := by omega
        have a2 : ¬ (ac_ls (κ 6 0) (P (k - 1)) = ac_gr (κ 6 0) j ∨ ac_gr (κ 6 0) (P (k - 1)) = ac_gr (κ 6 0) j) := by omega
        have c5 := fun Q' => c4 (ac_ls (κ 6 0) j) Q'
        have c6 := fun Q' => c4 (ac_gr (κ 6 0) j) Q'
        rw [if_neg a1] at c5
        rw [if_neg a2] at c6
        clear ih ihf hQ h9 h hup hI back hlo hc s1 c4
        simp (disch := omega) only [rX13_laysTurns_120, rX13_laysTurns_123, rX13_laysTurns_124, rX13_laysTurns_125, rX13_laysTurns_126, rX13_laysTurns_129, rX13_laysTurns_130, rX13_laysTurns_133, rX13_laysTurns_134, rX13_laysTurns_135, rX13_laysTurns_138, rX13_laysTurns_139, rX13_laysTurns_140, rX13_laysTurns_141, rX13_laysTurns_142, rX13_laysTurns_143, rX13_laysTurns_144, rX13_laysTurns_147, rX13_laysTurns_148, rX13_laysTurns_149, rX13_laysTurns_152, rX13_laysTurns_155, rX13_laysTurns_158, rX13_laysTurns_159, rX13_laysTurns_160, rX13_laysTurns_163, rX13_laysTurns_164, rX13_laysTurns_165, rX13_laysTurns_166, rX13_laysTurns_167, rX13_laysTurns_168, rX13_laysTurns_169, rX13_laysTurns_172, rX13_laysTurns_173, rX13_laysTurns_174, rX13_laysTurns_177, rX13_laysTurns_180, rX13_laysTurns_196, rX13_laysTurns_197, rX13_laysTurns_200, rX13_laysTurns_201, rX13_laysTurns_202, rX13_laysTurns_203, rX13_laysTurns_219, rX13_laysTurns_220, rX13_laysTurns_221, rX13_laysTurns_224, rX13_laysTurns_225, rX13_laysTurns_226, rX13_laysTurns_227, rX13_laysTurns_230, rX13_laysTurns_231, rX13_laysTurns_232, gS_355, gP_355_32, gS_365, g, gI, e9, ep, c1, c2, c3, c5, c6, ne_eq, not_false_eq_true, not_true_eq_false, true_and, and_true, and_self, true_imp_iff, false_imp_iff, imp_self, Bool.not_false, Bool.not_true, reduceCtorEq, ab_isJ, ab_psh, ab_cats, Bool.false_eq_true, if_true, if_false, ab_shf, ab_shw, Int.le_refl, Classical.not_not, Int.zero_add, forall_const, ↓ab_itT, ↓ab_itF, ab_anT, ab_w32_id, ab_rdf_ne, ab_rdw_ne, ab_rdw_eq, ab_rdf_in, ab_td2, ab_tm2]
        all_goals exact body
    · have k0 : ¬ k = 0 := by omega
      have hno : ¬ (ac_may (κ 6 0) w k P c (ac_ls (κ 6 0) j) ∧ ac_may (κ 6 0) w k P c (ac_gr (κ 6 0) j)) := fun u => ad (Or.inr ⟨by have := u.1.2; omega, by have := u.2.2; omega⟩)
      rw [if_neg hno] at hQ
      have s1 : ab_Same ac_PN σ (ab_wr σ 365 k (j + 1)) := ab_Same.refl.wr (Or.inl rfl)
      have key := ihf (j + 1) _ (h.sameN s1) (by omega) (by omega) h9.next (hQ.tr s1)
      obtain ⟨ep, p1, p2⟩ := h9.2.1 (k - 1) (by omega) (by omega)
      have c4 := fun x Q' => mq_isIn (X := X) (Q := Q') (x := x) h ⟨p1, p2⟩
      have c5 := fun Q' => c4 (ac_ls (κ 6 0) j) Q'
      have c6 := fun Q' => c4 (ac_gr (κ 6 0) j) Q'
      by_cases a1 : ac_ls (κ 6 0) (P (k - 1)) = ac_ls (κ 6 0) j ∨ ac_gr (κ 6 0) (P (k - 1)) = ac_ls (κ 6 0) j
      · rw [if_pos a1] at c5
        clear ih ihf hQ h9 h hlo hc s1 c4 hno ad a1
        simp (disch := omega) only [rX13_laysTurns_120, rX13_laysTurns_123, rX13_laysTurns_124, rX13_laysTurns_125, rX13_laysTurns_126, rX13_laysTurns_129, rX13_laysTurns_130, rX13_laysTurns_133, rX13_laysTurns_134, rX13_laysTurns_135, rX13_laysTurns_138, rX13_laysTurns_139, rX13_laysTurns_140, rX13_laysTurns_141, rX13_laysTurns_142, rX13_laysTurns_143, rX13_laysTurns_144, rX13_laysTurns_147, rX13_laysTurns_148, rX13_laysTurns_149, rX13_laysTurns_152, rX13_laysTurns_155, rX13_laysTurns_158, rX13_laysTurns_159, rX13_laysTurns_160, rX13_laysTurns_163, rX13_laysTurns_164, rX13_laysTurns_165, rX13_laysTurns_166, rX13_laysTurns_167, rX13_laysTurns_168, rX13_laysTurns_169, rX13_laysTurns_172, rX13_laysTurns_173, rX13_laysTurns_174, rX13_laysTurns_177, rX13_laysTurns_180, rX13_laysTurns_183, rX13_laysTurns_184, rX13_laysTurns_187, rX13_laysTurns_188, rX13_laysTurns_189, rX13_laysTurns_190, rX13_laysTurns_191, rX13_laysTurns_192, rX13_laysTurns_193, gS_355, gP_355_32, gS_365, g, e9, ep, c1, c5, ab_w32_id, ne_eq, not_false_eq_true, not_true_eq_false, true_and, and_true, and_self, true_imp_iff, false_imp_iff, imp_self, Bool.not_false, Bool.not_true, reduceCtorEq, ab_isJ, ab_psh, ab_cats, Bool.false_eq_true, if_true, if_false, ab_shf, ab_shw, Int.le_refl, Classical.not_not, Int.zero_add, forall_const, ↓ab_itT, ↓ab_itF, ab_anT, ab_w32_id, ab_rdf_ne, ab_rdw_ne, ab_rdw_eq, ab_rdf_in, ab_td2, ab_tm2]
        all_goals exact key
      · have a2 : ac_ls (κ 6 0) (P (k - 1)) = ac_gr (κ 6 0) j ∨ ac_gr (κ 6 0) (P (k - 1)) = ac_gr (κ 6 0) j := by omega
        rw [if_neg a1] at c5
        rw [if_pos a2] at c6
        clear ih ihf hQ h9 h hlo hc s1 c4 hno ad a1 a2
        simp (disch := omega) only [rX13_laysTurns_120, rX13_laysTurns_123, rX13_laysTurns_124, rX13_laysTurns_125, rX13_laysTurns_126, rX13_laysTurns_129, rX13_laysTurns_130, rX13_laysTurns_133, rX13_laysTurns_134, rX13_laysTurns_135, rX13_laysTurns_138, rX13_laysTurns_139, rX13_laysTurns_140, rX13_laysTurns_141, rX13_laysTurns_142, rX13_laysTurns_143, rX13_laysTurns_144, rX13_laysTurns_147, rX13_laysTurns_148, rX13_laysTurns_149, rX13_laysTurns_152, rX13_laysTurns_155, rX13_laysTurns_158, rX13_laysTurns_159, rX13_laysTurns_160, rX13_laysTurns_163, rX13_laysTurns_164, rX13_laysTurns_165, rX13_laysTurns_166, rX13_laysTurns_167, rX13_laysTurns_168, rX13_laysTurns_169, rX13_laysTurns_172, rX13_laysTurns_173, rX13_laysTurns_174, rX13_laysTurns_177, rX13_laysTurns_180, rX13_laysTurns_183, rX13_laysTurns_184, rX13_laysTurns_187, rX13_laysTurns_188, rX13_laysTurns_189, rX13_laysTurns_190, rX13_laysTurns_191, rX13_laysTurns_192, rX13_laysTurns_193, gS_355, gP_355_32, gS_365, g, e9, ep, c1, c2, c5, c6, ab_w32_id, ne_eq, not_false_eq_true, not_true_eq_false, true_and, and_true, and_self, true_imp_iff, false_imp_iff, imp_self, Bool.not_false, Bool.not_true, reduceCtorEq, ab_isJ, ab_psh, ab_cats, Bool.false_eq_true, if_true, if_false, ab_shf, ab_shw, Int.le_refl, Classical.not_not, Int.zero_add, forall_const, ↓ab_itT, ↓ab_itF, ab_anT, ab_w32_id, ab_rdf_ne, ab_rdw_ne, ab_rdw_eq, ab_rdf_in, ab_td2, ab_tm2]
        all_goals exact key
theorem mq_lt_s (hw : 1 ≤ w ∧ w ≤ 9) : ∀ (r : Nat) (k : Int) (σ : ab_S) (P c : Int → Int), ac_MI σ M κ → 0 ≤ k → k + r = w → ac_MT σ (κ 6 0) k P c → (∀ x, 0 ≤ x → x < κ 6 0 → c x ≤ (2 * w + κ 6 0 - 1) / κ 6 0) → ac_uQ X (ac_ttS (κ 6 0) w r k P c) σ (κ 6 0) w k P c Q → ab_Run X 253 64 (2, 0, 0) [ab_R 355, ab_I w, ab_I (ac_np (κ 6 0)), ab_I k] [] σ Q := by
  intro r
  induction r with
  | zero =>
    intro k σ P c h hk hr hT hlo hQ
    obtain rfl : k = w := by omega
    have g := h.1
    have c1 := fun Q' => mq_isFair (X := X) (Q := Q') (c := c) h (fun x x1 x2 => by have := hT.1 x x1 x2; exact ⟨this.1, this.2.1, by omega⟩)
    unfold ac_ttS at hQ
    rw [rX13_laysTurns_64]
    by_cases z : ac_fair (κ 6 0) c
    · rw [if_pos z] at hQ c1
      have key : Q (some (ab_I 1)) σ := hQ σ ab_Same.refl hT.2.1
      clear hQ hT h hlo
      simp (disch := omega) only [rX13_laysTurns_65, rX13_laysTurns_68, rX13_laysTurns_69, rX13_laysTurns_70, rX13_laysTurns_73, rX13_laysTurns_74, rX13_laysTurns_77, rX13_laysTurns_80, rX13_laysTurns_81, rX13_laysTurns_82, rX13_laysTurns_85, gS_355, g, c1, ne_eq, not_false_eq_true, not_true_eq_false, true_and, and_true, and_self, true_imp_iff, false_imp_iff, imp_self, Bool.not_false, Bool.not_true, reduceCtorEq, ab_isJ, ab_psh, ab_cats, Bool.false_eq_true, if_true, if_false, ab_shf, ab_shw, Int.le_refl, Classical.not_not, Int.zero_add, forall_const, ↓ab_itT, ↓ab_itF, ab_anT, ab_w32_id, ab_rdf_ne, ab_rdw_ne, ab_rdw_eq, ab_rdf_in, ab_td2, ab_tm2, or_true, true_or]
      all_goals exact key
    · rw [if_neg z] at hQ c1
      have key : ab_Run X 253 64 (2, 0, 0) [ab_R 355, ab_I k, ab_I (ac_np (κ 6 0)), ab_I (k - 1)] [] σ Q := hQ σ ab_Same.refl hT
      clear hQ hT h hlo
      simp (disch := omega) only [rX13_laysTurns_65, rX13_laysTurns_68, rX13_laysTurns_69, rX13_laysTurns_70, rX13_laysTurns_73, rX13_laysTurns_74, rX13_laysTurns_77, rX13_laysTurns_80, rX13_laysTurns_81, rX13_laysTurns_82, rX13_laysTurns_85, gS_355, g, c1, ne_eq, not_false_eq_true, not_true_eq_false, true_and, and_true, and_self, true_imp_iff, false_imp_iff, imp_self, Bool.not_false, Bool.not_true, reduceCtorEq, ab_isJ, ab_psh, ab_cats, Bool.false_eq_true, if_true, if_false, ab_shf, ab_shw, Int.le_refl, Classical.not_not, Int.zero_add, forall_const, ↓ab_itT, ↓ab_itF, ab_anT, ab_w32_id, ab_rdf_ne, ab_rdw_ne, ab_rdw_eq, ab_rdf_in, ab_td2, ab_tm2, or_true, true_or]
      all_goals exact key
  | succ r ih =>
    intro k σ P c h hk hr hT hlo hQ
    unfold ac_ttS at hQ
    have n6 := h.2.2.2.2.2.1.2.1
    have n2 := h.2.2.2.2.2.2.2.2
    have hn : 2 ≤ κ 6 0 ∧ κ 6 0 ≤ 6 := ⟨n2, by omega⟩
    have nb := (ac_np_b hn).1
    have s1 : ab_Same ac_PN σ (ab_wr σ 365 k 0) := ab_Same.refl.wr (Or.inl rfl)
    have key := mq_lt_j (X := X) (Q := Q) (M := M) (κ := κ) (P := P) (c := c) (fun P' c' => ac_ttS (κ 6 0) w r (k + 1) P' c') hw ⟨hk, by omega⟩ hlo (fun σ P c u1 u2 u3 u4 => ih (k + 1) σ P c u1 (by omega) (by omega) u2 u3 u4) (ac_np (κ 6 0)).toNat 0 _ (h.sameN s1) (by omega) (by omega) (hT.first (by omega)) (hQ.tr s1)
    have e9 := hT.2.2 k (by omega) (by omega)
    have g := h.1
    clear ih hQ hT h hlo
    rw [rX13_laysTurns_64]
    simp (disch := omega) only [rX13_laysTurns_65, rX13_laysTurns_68, rX13_laysTurns_69, rX13_laysTurns_70, rX13_laysTurns_88, rX13_laysTurns_89, rX13_laysTurns_92, rX13_laysTurns_93, rX13_laysTurns_94, rX13_laysTurns_95, rX13_laysTurns_98, rX13_laysTurns_99, rX13_laysTurns_100, rX13_laysTurns_103, rX13_laysTurns_104, rX13_laysTurns_105, rX13_laysTurns_106, rX13_laysTurns_109, rX13_laysTurns_110, rX13_laysTurns_113, rX13_laysTurns_114, rX13_laysTurns_115, rX13_laysTurns_116, rX13_laysTurns_117, rX13_laysTurns_118, gS_355, gP_355_32, gS_365, g, e9, ab_w32_id, ne_eq, not_false_eq_true, not_true_eq_false, true_and, and_true, and_self, true_imp_iff, false_imp_iff, imp_self, Bool.not_false, Bool.not_true, reduceCtorEq, ab_isJ, ab_psh, ab_cats, Bool.false_eq_true, if_true, if_false, ab_shf, ab_shw, Int.le_refl, Classical.not_not, Int.zero_add, forall_const, ↓ab_itT, ↓ab_itF, ab_anT, ab_w32_id, ab_rdf_ne, ab_rdw_ne, ab_rdw_eq, ab_rdf_in, ab_td2, ab_tm2]
    all_goals exact key
end
