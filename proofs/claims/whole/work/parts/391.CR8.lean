/-! READER of the class: a bone's line, whole -/
section
variable {X : ab_X} {σ τ : ab_S} {Q : Option ab_V → ab_S → Prop} {n s K B : Int} {tp : Int → Int} {κ : ac_K} {r : ar_R}
theorem ar_PN_L (hK : ac_kit K) {b : Int} (hb : 0 ≤ b ∧ b < 5) (hB : B = K + 5 + 3 * b) : ∀ a f, ar_PN B a f → ar_PL K a f := by
  intro a f u
  rcases u with u | ⟨rfl, u⟩ | rfl | rfl
  · exact Or.inl u
  · exact Or.inr (Or.inr (Or.inr (Or.inr (Or.inr (Or.inl ⟨by omega, by omega, fun _ => by omega⟩)))))
  · exact Or.inr (Or.inr (Or.inr (Or.inr (Or.inr (Or.inl ⟨by omega, by omega, fun _ => by omega⟩)))))
  · exact Or.inr (Or.inr (Or.inr (Or.inr (Or.inr (Or.inl ⟨by omega, by omega, fun _ => by omega⟩)))))
theorem ar_PR_N : ∀ a f, ac_PR a f → ar_PN B a f := fun _ _ u => Or.inl u
theorem ar_PA_N {arm : Int} : ∀ a f, ar_PA B arm a f → ar_PN B a f := fun a f u => by
  rcases u with u | ⟨rfl, -⟩ | ⟨rfl, -⟩
  · exact Or.inl u
  · exact Or.inr (Or.inr (Or.inl rfl))
  · exact Or.inr (Or.inr (Or.inr rfl))
theorem ar_PKb (hK : ac_kit K) {b f : Int} (hb : 0 ≤ b ∧ b < 5) (hB : B = K + 5 + 3 * b) (hf : f ≤ 2) : ar_PK K B f := Or.inr (Or.inr (Or.inr (Or.inl ⟨by omega, by omega, fun _ => hf⟩)))
set_option maxHeartbeats 4000000 in
theorem sp_readBone (h : ac_RC σ n tp s) (hk : ar_KF σ K κ) (hj : ar_J κ) (h5 : κ 5 0 < 5) (hF : ar_hF Q σ K (pr_bone tp n κ s)) (hW : ∀ s', pr_bone tp n κ s = .inl (1, s') → ac_kk tp n s' ≠ 0 → ac_kk tp n s' ≠ 4 → ∀ τ, ab_Same (ar_PL K) σ τ → ac_RC τ n tp s' → Q (some (ab_I 1)) τ) (hO : ar_hO Q σ K n tp (pr_bone tp n κ s)) : ab_Do X 47 [ab_R 2] σ Q := by
  have hK := hk.1
  have hv : K = 5 ∨ K = 329 := hK
  have n5 := hj.1.1
  have bb : 0 ≤ κ 5 0 ∧ κ 5 0 < 5 := ⟨n5.1, h5⟩
  obtain ⟨B, hB⟩ : ∃ x, x = K + 5 + 3 * κ 5 0 := ⟨_, rfl⟩
  have hB0 : B ≠ 0 := by omega
  have hB2 : B ≠ 2 ∧ B ≠ 3 := by omega
  have nPK : ∀ x f, x ≠ 3 → ¬ ac_PK9 x f := fun x f hx u => hx u.1
  have nPR : ∀ x f, x ≠ 3 → x ≠ 2 → ¬ ac_PR x f := fun x f hx hy u => u.elim (fun w => hx w.1) (fun w => hy w.1)
  have PNL := ar_PN_L hK bb hB
  generalize er : pr_bone tp n κ s = r at hF hW hO
  unfold pr_bone at er
  have fl : ∀ w pl, r = .inl (w, pl) → ∀ τ, ab_Same (ar_PN B) σ τ → ab_rd τ 2 2 = w → ab_rd τ 2 3 = pl → Q (some (ab_I 0)) τ := fun w pl e τ u => hF w pl e τ (u.mono PNL)
  refine sp_bn_0 h.geo hK hk.2.1 hk.2.2.2.2.1.1 bb hB ?_
  refine sp_newE h hk hj er (fun w pl e τ u1 u2 u3 => (sp_bn_f (fl w pl e τ (u1.mono ar_PR_N) u2 u3)).1) (fun el er1 => ?_)
  refine sp_bn_1 h.geo hK bb hB el ?_
  have R0 : ac_RC (ab_wr σ B 0 (ar_W 27 tp n s)) n tp s := h.wrK (K := K) (Or.inr ⟨hK, ar_PKb hK bb hB (by decide)⟩)
  have N0 : ab_Same (ar_PN B) σ (ab_wr σ B 0 (ar_W 27 tp n s)) := ab_Same.refl.wr (Or.inr (Or.inl ⟨rfl, Or.inl rfl⟩))
  refine sp_nextR R0 (fun τ1 u1 R1 => ?_)
  have N1 := N0.trans (u1.kr.mono ar_PR_N)
  have f0 : ab_rd τ1 B 0 = ar_W 27 tp n s := by rw [u1.2.2 B 0 (nPK _ _ hB2.2), ab_rdw_eq]
  refine sp_bn_2 R1.geo ?_
  refine sp_kindE R1 ac_TX14 ac_TX15 ac_TX16 ac_TX17 er1 (fun w pl e τ u1 u2 u3 => (sp_bn_f (fl w pl e τ (N1.trans (u1.mono ar_PR_N)) u2 u3)).2.1) (fun kd s2 kq er2 τ2 u2 g2 R2 => ?_)
  refine sp_bn_3 R2.geo hK bb hB g2 ?_
  have R2' : ac_RC (ab_wr τ2 B 1 kd) n tp s2 := R2.wrK (K := K) (Or.inr ⟨hK, ar_PKb hK bb hB (by decide)⟩)
  have N2 : ab_Same (ar_PN B) σ (ab_wr τ2 B 1 kd) := (N1.trans (u2.mono ar_PR_N)).wr (Or.inr (Or.inl ⟨rfl, Or.inr (Or.inl rfl)⟩))
  have f0 : ab_rd (ab_wr τ2 B 1 kd) B 0 = ar_W 27 tp n s := by rw [ab_rdw_ne (Or.inr (by decide)), u2.2.2 B 0 (nPR _ _ hB2.2 hB2.1), f0]
  refine sp_partE R2' ac_TX18 er2 (fun w pl e τ u1 u2 u3 => (sp_bn_f (fl w pl e τ (N2.trans (u1.mono ar_PR_N)) u2 u3)).2.2.1) (fun d s3 er3 τ3 u3 g3 R3 => ?_)
  refine sp_bn_4 R3.geo hK bb hB g3 ?_
  have R3' : ac_RC (ab_wr τ3 B 2 d) n tp s3 := R3.wrK (K := K) (Or.inr ⟨hK, ar_PKb hK bb hB (by decide)⟩)
  have N3 : ab_Same (ar_PN B) σ (ab_wr τ3 B 2 d) := (N2.trans (u3.mono ar_PR_N)).wr (Or.inr (Or.inl ⟨rfl, Or.inr (Or.inr rfl)⟩))
  have f0 : ab_rd (ab_wr τ3 B 2 d) B 0 = ar_W 27 tp n s := by rw [ab_rdw_ne (Or.inr (by decide)), u3.2.2 B 0 (nPR _ _ hB2.2 hB2.1), f0]
  have f1 : ab_rd (ab_wr τ3 B 2 d) B 1 = kd := by rw [ab_rdw_ne (Or.inr (by decide)), u3.2.2 B 1 (nPR _ _ hB2.2 hB2.1), ab_rdw_eq]
  refine sp_wordE R3' ac_TX12 er3 (fun w pl e τ u1 u2 u3 => (sp_bn_f (fl w pl e τ (N3.trans (u1.mono ar_PR_N)) u2 u3)).2.2.2.1) (fun er4 τ4 u4 R4 => ?_)
  have N4 := N3.trans (u4.mono ar_PR_N)
  have f0 : ab_rd τ4 B 0 = ar_W 27 tp n s := by rw [u4.2.2 B 0 (nPR _ _ hB2.2 hB2.1), f0]
  have f1 : ab_rd τ4 B 1 = kd := by rw [u4.2.2 B 1 (nPR _ _ hB2.2 hB2.1), f1]
  have f2 : ab_rd τ4 B 2 = d := by rw [u4.2.2 B 2 (nPR _ _ hB2.2 hB2.1), ab_rdw_eq]
  refine sp_bn_5 R4.geo hB0 ?_
  clear N0 N1 N2 N3 R0 R1 R2 R2' R3 R3' u1 u2 u3 u4 g2 g3 er er1 er2 er3
  refine sp_armE hK bb hB (Or.inl rfl) R4 er4 (fun w pl e τ u1 u2 u3 => (sp_bn_f (fl w pl e τ (N4.trans (u1.mono ar_PA_N)) u2 u3)).2.2.2.2.1) (fun κ1 i s5 er5 ib q0 τ5 u5 R5 pi pv => ?_)
  have N5 := N4.trans (u5.mono ar_PA_N)
  have nPA : ∀ arm f, ¬ ar_PA B arm B f := fun arm f u => by unfold ar_PA ac_PR ac_PK9 at u; omega
  have f0 : ab_rd τ5 B 0 = ar_W 27 tp n s := by rw [u5.2.2 B 0 (nPA _ _), f0]
  have f1 : ab_rd τ5 B 1 = kd := by rw [u5.2.2 B 1 (nPA _ _), f1]
  have f2 : ab_rd τ5 B 2 = d := by rw [u5.2.2 B 2 (nPA _ _), f2]
  clear N4 R4 u5 er4
  refine sp_bn_B R5 hK bb hB pi (fun z y => ?_) (fun z => ?_)
  · rw [if_pos z, if_pos y] at er5
    exact fl 6 s5 er5.symm _ (N5.trans (ac_stp_e.1.mono ar_PR_N)) ac_stp_e.2.1 ac_stp_e.2.2
  · by_cases i2 : i < 2
    · have y : ¬ ac_isw tp n s5 ac_tx13 := fun y => z ⟨i2, y⟩
      rw [if_pos i2, if_neg y] at er5
      exact sp_readWord R5 ac_TX13 (fun _ τ v1 v2 v3 => (sp_bn_f (fl 1 s5 er5.symm τ (N5.trans (v1.mono ar_PR_N)) v2 v3)).2.2.2.2.2.1) (fun y' => absurd y' y)
    · rw [if_neg i2] at er5
      refine sp_wordE R5 ac_TX13 er5 (fun w pl e τ u1 u2 u3 => (sp_bn_f (fl w pl e τ (N5.trans (u1.mono ar_PR_N)) u2 u3)).2.2.2.2.2.1) (fun er6 τ6 u6 R6 => ?_)
      have N6 := N5.trans (u6.mono ar_PR_N)
      refine sp_bn_7 R6.geo hB0 ?_
      refine sp_armE hK bb hB (Or.inr rfl) R6 er6 (fun w pl e τ u1 u2 u3 => (sp_bn_f (fl w pl e τ (N6.trans (u1.mono ar_PA_N)) u2 u3)).2.2.2.2.2.2) (fun κ2 j s7 er7 jb q1 τ7 u7 R7 pj pw => ?_)
      have N7 := N6.trans (u7.mono ar_PA_N)
      have e1 : ab_rd τ7 2 1 = K := by rw [N7.2.2 2 1 (by unfold ar_PN ac_PR ac_PK9; omega)]; exact hk.2.1
      have c5 : ab_rd τ7 K 5 = κ 5 0 := by rw [N7.2.2 K 5 (by unfold ar_PN ac_PR ac_PK9; omega)]; exact hk.2.2.2.2.1.1
      have f0 : ab_rd τ7 B 0 = ar_W 27 tp n s := by rw [u7.2.2 B 0 (nPA _ _), u6.2.2 B 0 (nPR _ _ hB2.2 hB2.1), f0]
      have f1 : ab_rd τ7 B 1 = kd := by rw [u7.2.2 B 1 (nPA _ _), u6.2.2 B 1 (nPR _ _ hB2.2 hB2.1), f1]
      have f2 : ab_rd τ7 B 2 = d := by rw [u7.2.2 B 2 (nPA _ _), u6.2.2 B 2 (nPR _ _ hB2.2 hB2.1), f2]
      have pi7 : ab_rd τ7 (B + 1) 0 = i := by rw [u7.2.2 _ _ (by unfold ar_PA ac_PR ac_PK9; omega), u6.2.2 _ _ (nPR _ _ (by omega) (by omega)), pi]
      have pv7 : ∀ t, 0 ≤ t → t < i → ab_rd τ7 (B + 2) (6 * 0 + t) = κ1 15 (6 * (2 * κ 5 0) + t) := fun t t1 t2 => by
        rw [u7.2.2 _ _ (by unfold ar_PA ac_PR ac_PK9; omega), u6.2.2 _ _ (nPR _ _ (by omega) (by omega))]
        exact pv t t1 t2
      clear pi pv u6 u7 R6 N6 N5 R5 er5 er6
      refine sp_bn_A R7 hK bb hB e1 c5 pj (fun z y => ?_) (fun z => ?_)
      · rw [if_pos z, if_pos y] at er7
        exact fl 6 s7 er7.symm _ (N7.trans (ac_stp_e.1.mono ar_PR_N)) ac_stp_e.2.1 ac_stp_e.2.2
      · have Rf : ac_RC (ab_wr τ7 K 5 (κ 5 0 + 1)) n tp s7 := R7.wrK (K := K) (Or.inr ⟨hK, ar_PKk (by decide)⟩)
        have Wf : ab_Same (ar_PL K) σ (ab_wr τ7 K 5 (κ 5 0 + 1)) := (N7.mono PNL).wr (Or.inr (Or.inr (ar_PKk (by decide))))
        by_cases j2 : j < 2
        · have y : ¬ (ac_kk tp n s7 = 4 ∨ ac_kk tp n s7 = 0) := fun y => z ⟨j2, y⟩
          rw [if_pos j2, if_neg y] at er7
          exact hW s7 er7.symm (fun u => y (Or.inr u)) (fun u => y (Or.inl u)) _ Wf Rf
        · rw [if_neg j2] at er7
          refine hO _ s7 er7.symm _ Wf Rf (ar_KF_B hk hj h5 hB N7 f0 f1 f2 ⟨fun g g1 g2 => ?_, fun t t1 => ?_, fun t t1 => ?_⟩ (fun arm ha => ?_))
          · rw [ar_up_f g1]
            funext k
            rw [q1 g k (Or.inl g2), ar_up_f g1, q0 g k (Or.inl g2)]
          · rw [ar_up_i (by omega), q1 14 t (Or.inl (by decide)), ar_up_i (by omega), q0 14 t (Or.inl (by decide))]
          · rw [ar_up_f (by decide), q1 15 t (by omega), ar_up_f (by decide), q0 15 t (by omega)]
          · rcases ha with rfl | rfl
            · rw [Int.add_zero]
              have e : ar_up κ2 14 (2 * κ 5 0 + 1) j 14 (2 * κ 5 0) = i := by rw [ar_up_i (by omega), q1 14 _ (Or.inl (by decide)), ar_up_e]
              rw [e]
              refine ⟨pi7, fun t q1' q2' => ?_⟩
              rw [ar_up_f (by decide), q1 15 _ (by omega), ar_up_f (by decide)]
              exact pv7 t q1' q2'
            · have e : ar_up κ2 14 (2 * κ 5 0 + 1) j 14 (2 * κ 5 0 + 1) = j := ar_up_e
              rw [e]
              refine ⟨pj, fun t q1' q2' => ?_⟩
              rw [ar_up_f (by decide)]
              exact pw t q1' q2'
end
