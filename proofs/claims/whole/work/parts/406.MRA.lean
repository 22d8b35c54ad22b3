/-! THE REFERENCE: kitchen, whole -/
def ar_P9 : Int → Int → Prop := fun a f => ar_P8 a f ∨ (a = 355 ∧ (f = 3 ∨ f = 19 ∨ f = 20)) ∨ a = 357
theorem ar_P9_pt : ∀ a f, 0 ≤ a → a ≤ 368 → 0 ≤ f → ar_P9 a f → ab_pt a f = 0 := by
  intro a f h1 h2 h3 hp
  rcases hp with hp | ⟨rfl, rfl | rfl | rfl⟩ | rfl
  · exact ar_P8_pt a f h1 h2 h3 hp
  · decide +kernel
  · decide +kernel
  · decide +kernel
  · exact ab_pt_nil rfl
section
variable {X : ab_X} {σ τ υ ω : ab_S} {Q : Option ab_V → ab_S → Prop} {M M0 n x y a k ln w pl i b m na nm : Int} {κ κ' : ac_K} {tp v : Int → Int} {P R : Int → Int → Prop} {pa pm : Int → Int → Int}
/-- the reference's cells behind a kitchen that failed -/
theorem ar_G8.ms (h : ar_G8 ar_P8 σ τ) (hS : ac_MS σ κ v na pa nm pm) (hA : ab_rd σ 355 3 = 0 ∨ ab_rd σ 355 3 + 22 ≤ σ.1) : ac_MS τ κ v na pa nm pm := by
  obtain ⟨⟨g, hN⟩, ⟨hV1, hV2⟩, hH⟩ := hS
  have gt := h.geo g ar_P8_pt
  have g1 := g.1
  have e3 : ab_rd τ 355 3 = ab_rd σ 355 3 := h.2.2.2 355 3 (by omega) (fun u => by unfold ar_P8 at u; omega)
  have hi : ∀ a f, 369 ≤ a → ¬ ar_P8 a f := fun a f h u => by unfold ar_P8 at u; omega
  have lo : ∀ a f, a ≠ 355 → a < 369 → ab_rd τ a f = ab_rd σ a f := fun a f h1 h2 => h.2.2.2 a f (by omega) (fun u => h1 u.1)
  refine ⟨⟨gt, ?_⟩, ⟨fun k k1 k2 => by rw [lo 357 k (by omega) (by omega)]; exact hV1 k k1 k2, hV2⟩, ?_⟩
  · rcases hN with ⟨h1, h2⟩ | ⟨M, q1, q2, q3, q4, q5⟩
    · exact Or.inl ⟨by rw [e3, h1], h2⟩
    · have qM := q3.1
      exact Or.inr ⟨M, gt, by rw [e3, q2], h.mg q3 (by omega) hi, h.km q4 qM (by omega) hi, q5⟩
  · obtain ⟨h1, h2, h3, h4, h5, h6⟩ := hH
    exact ⟨by rw [h.2.2.2 355 19 (by omega) (fun u => by unfold ar_P8 at u; omega), h1], by rw [h.2.2.2 355 20 (by omega) (fun u => by unfold ar_P8 at u; omega), h2], h3, h4, fun i k a1 a2 a3 a4 => by rw [lo _ _ (by omega) (by omega)]; exact h5 i k a1 a2 a3 a4, fun i k a1 a2 a3 a4 => by rw [lo _ _ (by omega) (by omega)]; exact h6 i k a1 a2 a3 a4⟩
theorem ma_kitchen (h : ac_MS σ κ v na pa nm pm) (hA : ab_rd σ 355 3 = 0 ∨ ab_rd σ 355 3 + 22 ≤ σ.1) (hT : ac_TM σ ln tp) (hb : ∀ i, -128 ≤ tp i ∧ tp i ≤ 127)
    (hQ2 : ¬ (0 ≤ n ∧ n ≤ ln) → ∀ τ, ab_Same ac_PM σ τ → ab_rd τ 355 1 = 2 → ab_rd τ 355 2 = -1 → Q (some (ab_I (-1))) τ)
    (hQ4 : 0 ≤ n ∧ n ≤ ln → ∀ w pl, ar_rd tp n = .inl (w, pl) → ∀ τ, ar_G8 ar_P9 σ τ → ac_MS τ κ v na pa nm pm → (ab_rd τ 355 3 = 0 ∨ ab_rd τ 355 3 + 22 ≤ τ.1) → ac_TM τ 0 tp → ab_rd τ 355 1 = 4 → ab_rd τ 355 2 = pl → ab_rd τ 355 13 = w → Q (some (ab_I (-1))) τ)
    (hQ0 : 0 ≤ n ∧ n ≤ ln → ∀ κ' s', ar_rd tp n = .inr (κ', s') → ∀ τ, ar_G8 ar_P9 σ τ → ac_MS τ κ' (ar_v0 κ') 0 pa 0 pm → (ab_rd τ 355 3 = 0 ∨ ab_rd τ 355 3 + 22 ≤ τ.1) → ac_TM τ 0 tp → ab_rd τ 355 1 = 0 → ab_rd τ 355 2 = -1 → ab_rd τ 355 13 = 0 → Q (some (ab_I (κ' 5 0))) τ) : ab_Do X 198 [ab_R 355, ab_I n] σ Q := by
  have g := h.1.1
  have g1 := g.1
  obtain ⟨t1, t2, t3⟩ := hT
  by_cases hn : 0 ≤ n ∧ n ≤ ln
  · obtain ⟨M, eM⟩ : ∃ x, σ.1 = x := ⟨_, rfl⟩
    refine mk_n g t1 hn eM ?_
    have u5 : ab_Same ar_P8 σ (ar_w5 σ n) := by
      unfold ar_w5
      exact ((((ab_Same.refl.wr (by unfold ar_P8; omega)).wr (by unfold ar_P8; omega)).wr (by unfold ar_P8; omega)).wr (by unfold ar_P8; omega)).wr (by unfold ar_P8; omega)
    have e51 : (ar_w5 σ n).1 = M := by rw [u5.1, eM]
    have Z0 : ar_Lz (ar_w5 σ n) M (ab_new (ar_w5 σ n) 13 0) 0 := by
      refine ⟨?_, ?_, fun f f1 f2 => by omega, fun f f1 => ?_, fun a ha => ⟨?_, fun f => ?_⟩⟩
      · rw [ab_nxn, e51]; omega
      · rw [ab_shn, if_pos e51.symm]
      · rw [ab_rdn, if_pos e51.symm]
      · rw [ab_shn, if_neg (by omega)]
      · rw [ab_rdn, if_neg (by omega)]
    refine mq_kinit Z0 (by omega) (fun τ1 Z => ?_)
    obtain ⟨z1, z2, z3, z4, z5⟩ := Z
    have H1 : ar_G8 ar_P8 σ τ1 := ⟨by omega, by omega, fun a ha => by rw [(z5 a (by omega)).1, u5.2.1], fun a f ha u => by rw [(z5 a (by omega)).2 f, u5.2.2 a f u]⟩
    have gt1 := H1.geo g ar_P8_pt
    refine mk_g gt1 (by omega) ?_
    obtain ⟨ω, hω⟩ : ∃ x, x = ab_wr (ab_wr τ1 355 4 M) 355 9 0 := ⟨_, rfl⟩
    rw [← hω]
    have uω : ab_Same (fun a f => a = 355 ∧ (f = 4 ∨ f = 9)) τ1 ω := by rw [hω]; exact (ab_Same.refl.wr ⟨rfl, Or.inl rfl⟩).wr ⟨rfl, Or.inr rfl⟩
    have Hω : ar_G8 ar_P8 σ ω := H1.tr uω (fun a f _ u => by unfold ar_P8; omega)
    have gω := Hω.geo g ar_P8_pt
    have w355 : ∀ f, f ≠ 4 → f ≠ 9 → ab_rd ω 355 f = ab_rd (ar_w5 σ n) 355 f := fun f f1 f2 => by rw [uω.2.2 355 f (by omega), (z5 355 (by omega)).2 f]
    have c7 : ab_rd ω 355 7 = n := by rw [w355 7 (by omega) (by omega)]; unfold ar_w5; rw [ab_rdw_ne (by omega), ab_rdw_ne (by omega), ab_rdw_ne (by omega), ab_rdw_eq]
    have c6 : ab_rd ω 355 6 = 0 := by rw [w355 6 (by omega) (by omega)]; unfold ar_w5; rw [ab_rdw_ne (by omega), ab_rdw_ne (by omega), ab_rdw_eq]
    have c8 : ab_rd ω 355 8 = 0 := by rw [w355 8 (by omega) (by omega)]; unfold ar_w5; rw [ab_rdw_ne (by omega), ab_rdw_eq]
    have c13 : ab_rd ω 355 13 = 0 := by rw [w355 13 (by omega) (by omega)]; unfold ar_w5; rw [ab_rdw_eq]
    have c9 : ab_rd ω 355 9 = 0 := by rw [hω, ab_rdw_eq]
    have c4 : ab_rd ω 355 4 = M := by rw [hω, ab_rdw_ne (by omega), ab_rdw_eq]
    have UO : ac_UO ω n tp := ⟨gω, c7, by omega, fun i i1 i2 => ⟨by rw [Hω.2.2.2 356 i (by omega) (fun u => by unfold ar_P8 at u; omega)]; exact t3 i i1 (by omega), hb i⟩⟩
    have KM : ar_MR ω M (fun _ _ => 0) := by
      have hi : ∀ a f, a ≠ 355 → ab_rd ω a f = ab_rd τ1 a f := fun a f h1 => uω.2.2 a f (fun u => h1 u.1)
      refine ⟨c4, ⟨by omega, by rw [uω.2.1, z2], fun f f1 f2 => by rw [hi _ _ (by omega)]; exact (z3 f f1 (by omega)).1, fun f f1 f2 => by rw [uω.2.1]; exact (z3 f f1 (by omega)).2.1⟩, fun f f1 f2 => by rw [hi _ _ (by omega)]; exact z4 f (by omega), fun f i f1 f2 i1 i2 => by rw [hi _ _ (by omega)]; exact (z3 f f1 (by omega)).2.2 i⟩
    refine mq_goesOn UO (by omega) c8 (by omega) (fun τ2 u2 t2' => ?_)
    have kb := ac_run_b (lo := 32) (hi := 32) (tp := tp) (n := n) (p := 0) hn.1
    have R2 : ac_RM τ2 n tp (ac_kst tp n 0) := ⟨UO.same u2, t2', kb.1, kb.2, by rw [u2.2.2 355 13 (by unfold ac_PU; omega), c13]⟩
    have K2 := KM.same u2.uw
    have H2 : ar_G8 ar_P8 σ τ2 := Hω.tr u2 (fun a f _ u => by unfold ac_PU at u; unfold ar_P8; omega)
    have d6 : ab_rd τ2 355 6 = 0 := by rw [u2.2.2 355 6 (by unfold ac_PU; omega), c6]
    refine mk_a R2.1.1 (mq_readAll R2 K2 ar_J0 (m := (n + 1).toNat) (by have := kb.1; unfold ac_kst; omega) rfl (fun w pl e υ u f => ?_) (fun κ' s' e J h5 h6 υ u R3 K3 => ?_))
    · have Hυ : ar_G8 ar_P8 σ υ := H2.tr u (fun a f ha z => by unfold ar_PW ac_PV at z; unfold ar_P8; omega)
      have HE : ar_G8 ar_P8 σ (ab_wr (ab_wr υ 355 1 4) 355 2 pl) := Hυ.tr (R := ar_P8) ((ab_Same.refl.wr (by unfold ar_P8; omega)).wr (by unfold ar_P8; omega)) (fun _ _ _ z => z)
      have e3 : ab_rd (ab_wr (ab_wr υ 355 1 4) 355 2 pl) 355 3 = ab_rd σ 355 3 := HE.2.2.2 355 3 (by omega) (fun u => by unfold ar_P8 at u; omega)
      have h1 := HE.1
      refine mk_4 f (ar_Fread _ _ _ w pl e) (hQ4 hn w pl e _ (HE.mono (fun _ _ z => Or.inl z)) (HE.ms h hA) (by rw [e3]; omega) ⟨?_, by omega, fun i i1 i2 => by omega⟩ ?_ ab_rdw_eq ?_)
      · rw [ab_rdw_ne (by omega), ab_rdw_ne (by omega), u.2.2 355 6 (fun z => by unfold ar_PW ac_PV at z; omega), d6]
      · rw [ab_rdw_ne (by omega), ab_rdw_eq]
      · rw [ab_rdw_ne (by omega), ab_rdw_ne (by omega), f.2.2.1]
    · have Hυ : ar_G8 ar_P8 σ υ := H2.tr u (fun a f ha z => by unfold ar_PW ac_PV at z; unfold ar_P8; omega)
      have gυ := R3.1.1
      have hM := K3.2.1.1
      have kM : ac_KM υ M κ' := ⟨fun f f1 f2 => K3.2.2.1 f f1 (by omega), fun f i f1 f2 i1 i2 => K3.2.2.2 f i f1 (by omega) i1 i2⟩
      refine mk_0 gυ R3.2.2.2.2 K3.1 ?_
      have u3 : ab_Same (fun a f => a = 355 ∧ f = 3) υ (ab_wr υ 355 3 M) := ab_Same.refl.wr ⟨rfl, rfl⟩
      have g3 : ab_Geo (ab_wr υ 355 3 M) := gυ.same u3 (fun a f a1 a2 a3 z => by rw [z.1, z.2]; decide +kernel)
      have A := mk_l1 (X := X) (Q := Q) (n := n) g3 18 0 (by omega) (by omega)
      rw [ab_fl0 (Int.le_refl 0)] at A
      refine A ?_
      have uf : ab_Same (fun a _ => a = 357) (ab_wr υ 355 3 M) (ab_fl (ab_wr υ 355 3 M) 357 18 (fun _ => 0)) := ab_Same.refl.fl (fun _ _ _ => rfl)
      have gf : ab_Geo (ab_fl (ab_wr υ 355 3 M) 357 18 (fun _ => 0)) := g3.same uf (fun a f a1 a2 a3 z => by rw [z]; exact ab_pt_nil rfl)
      have h1 : ∀ a (f : Int), 369 ≤ a → ¬ (fun (a f : Int) => a = 355 ∧ f = 3) a f := fun a f h u => by omega
      have h2 : ∀ a (f : Int), 369 ≤ a → ¬ (fun (a : Int) (_ : Int) => a = 357) a f := fun a f h u => by omega
      have mgf := (K3.2.1.same u3 h1).same uf h2
      have kmf := (kM.same hM u3 h1).same hM uf h2
      have f3 : ab_rd (ab_fl (ab_wr υ 355 3 M) 357 18 (fun _ => 0)) 355 3 = M := by rw [ab_rdf_ne (by omega), ab_rdw_eq]
      refine mk_l2 gf f3 mgf kmf 5 0 _ (by omega) (by omega) ab_Same.refl (fun k k1 k2 => by rw [ab_rdf_in (by omega), if_neg (by omega), if_neg (by omega)]) (fun τ5 u5' v5 => ?_)
      have us : ab_Same (fun a f => (a = 355 ∧ f = 3) ∨ a = 357) υ τ5 := ((u3.mono (fun _ _ z => Or.inl z)).trans (uf.mono (fun _ _ z => Or.inr z))).trans (u5'.mono (fun _ _ z => Or.inr z))
      have uE : ab_Same (fun a f => (a = 355 ∧ (f = 1 ∨ f = 2 ∨ f = 3 ∨ f = 19 ∨ f = 20)) ∨ a = 357) υ (ab_wr (ab_wr (ab_wr (ab_wr τ5 355 19 0) 355 20 0) 355 1 0) 355 2 (-1)) := ((((us.mono (fun a f z => by omega)).wr (by omega)).wr (by omega)).wr (by omega)).wr (by omega)
      have HE : ar_G8 ar_P9 σ (ab_wr (ab_wr (ab_wr (ab_wr τ5 355 19 0) 355 20 0) 355 1 0) 355 2 (-1)) := (Hυ.mono (R := ar_P9) (fun _ _ z => Or.inl z)).tr uE (fun a f _ z => by unfold ar_P9 ar_P8; omega)
      have gE := HE.geo g ar_P9_pt
      have hi : ∀ a (f : Int), 369 ≤ a → ¬ (fun (a f : Int) => (a = 355 ∧ (f = 1 ∨ f = 2 ∨ f = 3 ∨ f = 19 ∨ f = 20)) ∨ a = 357) a f := fun a f h u => by omega
      have e3 : ab_rd (ab_wr (ab_wr (ab_wr (ab_wr τ5 355 19 0) 355 20 0) 355 1 0) 355 2 (-1)) 355 3 = M := by rw [ab_rdw_ne (by omega), ab_rdw_ne (by omega), ab_rdw_ne (by omega), ab_rdw_ne (by omega), u5'.2.2 355 3 (by omega), f3]
      obtain ⟨-, kk⟩ := J.kk h5 h6
      have n1 : (ab_wr (ab_wr (ab_wr (ab_wr τ5 355 19 0) 355 20 0) 355 1 0) 355 2 (-1)).1 = M + 22 := by rw [uE.1, u.1, u2.1, uω.1, z1]; omega
      refine hQ0 hn κ' s' e _ HE ⟨⟨gE, Or.inr ⟨M, gE, e3, K3.2.1.same uE hi, kM.same hM uE hi, kk⟩⟩, ⟨fun k k1 k2 => ?_, ar_v0_VB kk⟩, ⟨?_, ?_, by omega, by omega, fun i k a1 a2 => by omega, fun i k a1 a2 => by omega⟩⟩ (by rw [e3, n1]; omega) ⟨?_, by omega, fun i i1 i2 => by omega⟩ ?_ ab_rdw_eq ?_
      · rw [ab_rdw_ne (by omega), ab_rdw_ne (by omega), ab_rdw_ne (by omega), ab_rdw_ne (by omega)]; exact v5 k k1 k2
      · rw [ab_rdw_ne (by omega), ab_rdw_ne (by omega), ab_rdw_ne (by omega), ab_rdw_eq]
      · rw [ab_rdw_ne (by omega), ab_rdw_ne (by omega), ab_rdw_eq]
      · rw [uE.2.2 355 6 (by omega), u.2.2 355 6 (fun z => by unfold ar_PW ac_PV at z; omega), d6]
      · rw [ab_rdw_ne (by omega), ab_rdw_eq]
      · rw [uE.2.2 355 13 (by omega), R3.2.2.2.2]
  · exact mk_2 g t1 hn (hQ2 hn _ (ac_end1 ac_mq0).1 (ac_end1 ac_mq0).2.1 (ac_end1 ac_mq0).2.2)
end
