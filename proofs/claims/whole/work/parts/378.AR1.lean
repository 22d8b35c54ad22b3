/-! READER: pure. A table κ (fields as the reference's, 33 and 34: the class's names of bones, of people), a token's start; a result is a fault with its place, or the new table and the next token's start -/
abbrev ar_R : Type := (Int × Int) ⊕ (ac_K × Int)
def ar_up (κ : ac_K) (f i v : Int) : ac_K := fun f' i' => if f' = f ∧ i' = i then v else κ f' i'
def ar_fi (f : Int → Int) (w : Int) : Nat → Int → Int
  | 0, _ => -1
  | n + 1, i => if f i = w then i else ar_fi f w n (i + 1)
def ar_fnd (κ : ac_K) (w : Int) : Int := ar_fi (κ 30) w (κ 10 0).toNat 0
def ar_kp (κ : ac_K) (w : Int) : Int := if ar_fnd κ w = -1 then -1 else if κ 31 (ar_fnd κ w) = 0 then κ 32 (ar_fnd κ w) else -1
def ar_W (q : Int) (tp : Int → Int) (n s : Int) : Int := ac_wl q 0 (ac_kwd tp n s)
def ar_orb (x q : Int) : Int := ab_ok32 (fun x y => x ||| y) x (ab_ok32 (fun x y => x <<< (y &&& 31)) 1 q)
def pr_word (tp : Int → Int) (n : Int) (T : List Int) (s : Int) (c : Int → ar_R) : ar_R := if ac_isw tp n s T then c (ac_nx tp n s) else .inl (1, s)
def pr_whole (tp : Int → Int) (n lo hi s : Int) (c : Int → Int → ar_R) : ar_R := if ac_wf tp n s lo hi = 0 then c (ac_kvl tp n s) (ac_nx tp n s) else .inl (ac_wf tp n s lo hi, s)
def pr_part (tp : Int → Int) (n : Int) (T : List Int) (lo hi s : Int) (c : Int → Int → ar_R) : ar_R := pr_word tp n T s (fun s1 => pr_whole tp n lo hi s1 c)
def pr_kind (tp : Int → Int) (n : Int) (A B C D : List Int) (s : Int) (c : Int → Int → ar_R) : ar_R := if ac_kd tp n s A B C D = -1 then .inl (1, s) else c (ac_kd tp n s A B C D) (ac_nx tp n s)
def pr_new (tp : Int → Int) (n : Int) (κ : ac_K) (s : Int) (c : Int → ar_R) : ar_R := if ac_nm tp n s = 1 then (if ar_fnd κ (ar_W 32 tp n s) = -1 then c (ac_nx tp n s) else .inl (3, s)) else .inl (1, s)
def pr_pers (tp : Int → Int) (n : Int) (κ : ac_K) (o s : Int) (c : Int → Int → ar_R) : ar_R := if ac_nm tp n s = 1 then (if ar_kp κ (ar_W 32 tp n s) = -1 then .inl (2, s) else if ar_kp κ (ar_W 32 tp n s) = o then .inl (3, s) else c (ar_kp κ (ar_W 32 tp n s)) (ac_nx tp n s)) else .inl (1, s)
def pr_enter (tp : Int → Int) (n : Int) (κ : ac_K) (told most s : Int) (c : Int → ar_R) : ar_R := if κ 11 0 = 1 then (if told < most then c (ac_nx tp n s) else .inl (5, s)) else .inl (6, s)
def ar_uR (κ : ac_K) (a b c d e : Int) : ac_K := ar_up (ar_up (ar_up (ar_up (ar_up (ar_up κ 11 0 1) 0 0 a) 1 0 b) 2 0 c) 3 0 d) 4 0 e
def pr_rules (tp : Int → Int) (n : Int) (κ : ac_K) (s : Int) : ar_R := pr_part tp n ac_tx1 0 9 s fun a s => pr_part tp n ac_tx2 25 60 s fun b s => pr_part tp n ac_tx3 0 99 s fun c s => pr_part tp n ac_tx4 0 99 s fun d s => pr_part tp n ac_tx5 0 99 s fun e s => .inr (ar_uR κ a b c d e, s)
def pr_arm (tp : Int → Int) (n o : Int) : Nat → ac_K → Int → Int → (ac_K → Int → Int → ar_R) → ar_R
  | 0, _, _, s, _ => .inl (1, s)
  | m + 1, κ, i, s, c => pr_whole tp n 1 9 s fun v s1 => if i = 6 then .inl (5, s) else if ac_kk tp n s1 = 5 then pr_arm tp n o m (ar_up κ 15 (o + i) v) (i + 1) (ac_nx tp n s1) c else c (ar_up κ 15 (o + i) v) (i + 1) s1
def ar_uN (κ : ac_K) (w z x : Int) : ac_K := ar_up (ar_up (ar_up (ar_up κ 30 (κ 10 0) w) 31 (κ 10 0) z) 32 (κ 10 0) x) 10 0 (κ 10 0 + 1)
def ar_uB (κ : ac_K) (w32 w27 kd d : Int) : ac_K := ar_up (ar_up (ar_up (ar_up (ar_uN κ w32 1 (κ 5 0)) 12 (κ 5 0) kd) 13 (κ 5 0) d) 5 0 (κ 5 0 + 1)) 33 (κ 5 0) w27
def pr_bone (tp : Int → Int) (n : Int) (κ : ac_K) (s : Int) : ar_R := pr_new tp n κ s fun s1 => pr_kind tp n ac_tx14 ac_tx15 ac_tx16 ac_tx17 s1 fun kd s2 => pr_part tp n ac_tx18 0 24 s2 fun d s3 => pr_word tp n ac_tx12 s3 fun s4 => pr_arm tp n (6 * (2 * κ 5 0)) 7 κ 0 s4 fun κ1 i s5 => if i < 2 then .inl (if ac_isw tp n s5 ac_tx13 then 6 else 1, s5) else pr_word tp n ac_tx13 s5 fun s6 => pr_arm tp n (6 * (2 * κ 5 0 + 1)) 7 (ar_up κ1 14 (2 * κ 5 0) i) 0 s6 fun κ2 j s7 => if j < 2 then .inl (if ac_kk tp n s7 = 4 ∨ ac_kk tp n s7 = 0 then 6 else 1, s7) else .inr (ar_uB (ar_up κ2 14 (2 * κ 5 0 + 1) j) (ar_W 32 tp n s) (ar_W 27 tp n s) kd d, s7)
def ar_uP (κ : ac_K) (w32 w27 kd f h w : Int) : ac_K := ar_up (ar_up (ar_up (ar_up (ar_up (ar_up (ar_up (ar_uN κ w32 0 (κ 6 0)) 16 (κ 6 0) kd) 17 (κ 6 0) f) 18 (κ 6 0) h) 19 (κ 6 0) w) 27 (κ 6 0) (-1)) 6 0 (κ 6 0 + 1)) 34 (κ 6 0) w27
def pr_person (tp : Int → Int) (n : Int) (κ : ac_K) (s : Int) : ar_R := pr_new tp n κ s fun s1 => pr_kind tp n ac_tx19 ac_tx20 ac_tx21 ac_tx22 s1 fun kd s2 => pr_part tp n ac_tx23 1 40 s2 fun f s3 => pr_part tp n ac_tx24 1 6 s3 fun h s4 => pr_part tp n ac_tx25 0 99 s4 fun w s5 => .inr (ar_uP κ (ar_W 32 tp n s) (ar_W 27 tp n s) kd f h w, s5)
def ar_uF (κ : ac_K) (p q v : Int) : ac_K := ar_up (ar_up (ar_up κ 20 p (ar_orb (κ 20 p) q)) 21 p (κ 21 p + v)) 7 0 (κ 7 0 + 1)
def pr_for (tp : Int → Int) (n : Int) (κ : ac_K) (s : Int) : ar_R := pr_pers tp n κ (-1) s fun p s1 => pr_pers tp n κ p s1 fun q s2 => if ac_bit (κ 20 p) q = 1 then .inl (3, s1) else pr_whole tp n 0 99 s2 fun v s3 => .inr (ar_uF κ p q v, s3)
def ar_uW (κ : ac_K) (p q d : Int) : ac_K := ar_up (ar_up (ar_up (ar_up κ 22 (κ 8 0) p) 23 (κ 8 0) q) 24 (κ 8 0) d) 8 0 (κ 8 0 + 1)
def pr_won (tp : Int → Int) (n : Int) (κ : ac_K) (s : Int) : ar_R := pr_pers tp n κ (-1) s fun p s1 => pr_pers tp n κ p s1 fun q s2 => pr_kind tp n ac_tx12 ac_tx13 ac_tx17 ac_tx17 s2 fun d s3 => .inr (ar_uW κ p q d, s3)
def ar_uI (κ : ac_K) (a v : Int) : ac_K := ar_up (ar_up (ar_up κ 25 (κ 9 0) a) 26 (κ 9 0) v) 9 0 (κ 9 0 + 1)
def pr_piece (tp : Int → Int) (n : Int) (κ : ac_K) (s : Int) : ar_R := pr_kind tp n ac_tx12 ac_tx13 ac_tx17 ac_tx17 s fun a s1 => pr_whole tp n 0 5 s1 fun v s2 => .inr (ar_uI κ a v, s2)
def ar_uC (κ : ac_K) (p a t f : Int) : ac_K := ar_up (ar_up (ar_up κ 27 p a) 28 p t) 29 p f
def pr_cheats (tp : Int → Int) (n : Int) (κ : ac_K) (s : Int) : ar_R := pr_pers tp n κ (-1) s fun p s1 => if κ 27 p = -1 then pr_whole tp n 0 99 s1 fun a s2 => pr_part tp n ac_tx4 1 9 s2 fun t s3 => pr_part tp n ac_tx26 1 9 s3 fun f s4 => .inr (ar_uC κ p a t f, s4) else .inl (3, s)
def pr_line (tp : Int → Int) (n : Int) (κ : ac_K) (s : Int) : ar_R := if ac_isw tp n s ac_tx0 then (if κ 11 0 = 1 then .inl (3, s) else pr_rules tp n κ (ac_nx tp n s)) else if ac_isw tp n s ac_tx6 then pr_enter tp n κ (κ 5 0) 5 s (pr_bone tp n κ) else if ac_isw tp n s ac_tx7 then pr_enter tp n κ (κ 6 0) 6 s (pr_person tp n κ) else if ac_isw tp n s ac_tx8 then pr_enter tp n κ (κ 7 0) 10 s (pr_for tp n κ) else if ac_isw tp n s ac_tx9 then pr_enter tp n κ (κ 8 0) 12 s (pr_won tp n κ) else if ac_isw tp n s ac_tx10 then pr_enter tp n κ (κ 9 0) 4 s (pr_piece tp n κ) else if ac_isw tp n s ac_tx11 then pr_enter tp n κ 0 1 s (pr_cheats tp n κ) else .inl (1, s)
def pr_read (tp : Int → Int) (n : Int) : Nat → ac_K → Int → ar_R
  | 0, _, s => .inl (1, s)
  | m + 1, κ, s => match pr_line tp n κ s with
    | .inl e => .inl e
    | .inr (κ', s') => if ac_kk tp n s' = 0 then (if 1 ≤ κ' 5 0 ∧ 2 ≤ κ' 6 0 then .inr (κ', s') else .inl (6, s')) else if ac_kk tp n s' = 4 then pr_read tp n m κ' (ac_nx tp n s') else .inl (1, s')
section
variable {tp : Int → Int} {n s o lo hi f i v f' i' w : Int} {κ κ' : ac_K} {T A B C D : List Int} {x : ac_K × Int}
theorem ar_up_f (h : f' ≠ f) : ar_up κ f i v f' = κ f' := funext fun y => if_neg (fun u => h u.1)
theorem ar_up_i (h : i' ≠ i) : ar_up κ f i v f i' = κ f i' := if_neg (fun u => h u.2)
theorem ar_up_e : ar_up κ f i v f i = v := if_pos ⟨rfl, rfl⟩
theorem ar_up_r : ar_up κ f i v f i' = if i' = i then v else κ f i' := by
  by_cases h : i' = i
  · rw [if_pos h, h, ar_up_e]
  · rw [if_neg h, ar_up_i h]
theorem ar_fi_s {g : Int → Int} : ∀ (m : Nat) (i : Int), (ar_fi g w m i = -1 ∧ ∀ j, i ≤ j → j < i + m → g j ≠ w) ∨ ((i ≤ ar_fi g w m i ∧ ar_fi g w m i < i + m) ∧ g (ar_fi g w m i) = w) := by
  intro m
  induction m with
  | zero => intro i; left; exact ⟨rfl, fun j h1 h2 => by omega⟩
  | succ m ih =>
    intro i
    unfold ar_fi
    by_cases z : g i = w
    · rw [if_pos z]; right; exact ⟨by omega, z⟩
    · rw [if_neg z]
      rcases ih (i + 1) with ⟨h1, h2⟩ | ⟨h1, h2⟩
      · left
        refine ⟨h1, fun j j1 j2 => ?_⟩
        by_cases e : j = i
        · rw [e]; exact z
        · exact h2 j (by omega) (by omega)
      · right; exact ⟨by omega, h2⟩
theorem ar_wf0 (h : ac_wf tp n s lo hi = 0) : ac_kk tp n s = 3 ∧ lo ≤ ac_kvl tp n s ∧ ac_kvl tp n s ≤ hi := by
  unfold ac_wf at h
  by_cases z : ac_kk tp n s = 3
  · rw [if_pos z] at h
    by_cases y : lo ≤ ac_kv tp (ac_ke tp n s - s).toNat s 0 ∧ ac_kv tp (ac_ke tp n s - s).toNat s 0 ≤ hi
    · exact ⟨z, y⟩
    · rw [if_neg y] at h; omega
  · rw [if_neg z] at h; omega
theorem pr_word_i {c : Int → ar_R} (h : pr_word tp n T s c = .inr x) : ac_isw tp n s T ∧ c (ac_nx tp n s) = .inr x := by
  unfold pr_word at h
  by_cases z : ac_isw tp n s T
  · rw [if_pos z] at h; exact ⟨z, h⟩
  · rw [if_neg z] at h; cases h
theorem pr_whole_i {c : Int → Int → ar_R} (h : pr_whole tp n lo hi s c = .inr x) : (lo ≤ ac_kvl tp n s ∧ ac_kvl tp n s ≤ hi) ∧ c (ac_kvl tp n s) (ac_nx tp n s) = .inr x := by
  unfold pr_whole at h
  by_cases z : ac_wf tp n s lo hi = 0
  · rw [if_pos z] at h; exact ⟨(ar_wf0 z).2, h⟩
  · rw [if_neg z] at h; cases h
theorem pr_part_i {c : Int → Int → ar_R} (h : pr_part tp n T lo hi s c = .inr x) : (lo ≤ ac_kvl tp n (ac_nx tp n s) ∧ ac_kvl tp n (ac_nx tp n s) ≤ hi) ∧ c (ac_kvl tp n (ac_nx tp n s)) (ac_nx tp n (ac_nx tp n s)) = .inr x := pr_whole_i (pr_word_i h).2
theorem ar_kd_b : -1 ≤ ac_kd tp n s A B C D ∧ ac_kd tp n s A B C D ≤ 3 := by
  unfold ac_kd
  split
  · omega
  · split
    · omega
    · split
      · omega
      · split <;> omega
theorem ar_run1 (h : s < n) (hl : lo ≤ tp s ∧ tp s ≤ hi) : s + 1 ≤ ac_run lo hi tp n s := by
  unfold ac_run
  obtain ⟨m, hm⟩ : ∃ m, (n - s).toNat = m + 1 := ⟨(n - s).toNat - 1, by omega⟩
  rw [hm]
  unfold ac_ru
  rw [if_pos ⟨h, hl⟩]
  exact (ac_ru_b m (s + 1) (by omega)).1
/-- no word is empty -/
theorem ar_no17 : ¬ ac_isw tp n s ac_tx17 := by
  intro h
  obtain ⟨h1, h2⟩ := h
  obtain ⟨k1, k2, k3⟩ := ac_kk2 h1
  have ek : ac_ke tp n s = ac_run 97 122 tp n s := by unfold ac_ke; rw [if_neg (by omega), if_pos k2]
  have r := ar_run1 k1 k2
  have := congrArg List.length h2
  unfold ac_kwd at this
  rw [ac_ll_len, ek] at this
  have e : (ac_tl ac_tx17).length = 0 := by decide
  rw [e] at this
  omega
theorem ar_kd_2 : ac_kd tp n s A B C ac_tx17 ≤ 2 := by
  unfold ac_kd
  rw [if_neg (c := ac_isw tp n s ac_tx17) ar_no17]
  split
  · omega
  · split
    · omega
    · split <;> omega
theorem ar_kd_1 : ac_kd tp n s A B ac_tx17 ac_tx17 = if ac_isw tp n s A then 0 else if ac_isw tp n s B then 1 else -1 := by
  unfold ac_kd
  by_cases z : ac_isw tp n s A
  · rw [if_pos z, if_pos z]
  · rw [if_neg z, if_neg z]
    by_cases y : ac_isw tp n s B
    · rw [if_pos y, if_pos y]
    · rw [if_neg y, if_neg y, if_neg ar_no17, if_neg ar_no17]
theorem ar_kd_1b : ac_kd tp n s A B ac_tx17 ac_tx17 ≤ 1 := by
  rw [ar_kd_1]
  split
  · omega
  · split <;> omega
theorem pr_kind_i {c : Int → Int → ar_R} (h : pr_kind tp n A B C D s c = .inr x) : (0 ≤ ac_kd tp n s A B C D ∧ ac_kd tp n s A B C D ≤ 3) ∧ c (ac_kd tp n s A B C D) (ac_nx tp n s) = .inr x := by
  unfold pr_kind at h
  have b := ar_kd_b (tp := tp) (n := n) (s := s) (A := A) (B := B) (C := C) (D := D)
  by_cases z : ac_kd tp n s A B C D = -1
  · rw [if_pos z] at h; cases h
  · rw [if_neg z] at h; exact ⟨by omega, h⟩
theorem pr_new_i {c : Int → ar_R} (h : pr_new tp n κ s c = .inr x) : ac_nm tp n s = 1 ∧ ar_fnd κ (ar_W 32 tp n s) = -1 ∧ c (ac_nx tp n s) = .inr x := by
  unfold pr_new at h
  by_cases z : ac_nm tp n s = 1
  · rw [if_pos z] at h
    by_cases y : ar_fnd κ (ar_W 32 tp n s) = -1
    · rw [if_pos y] at h; exact ⟨z, y, h⟩
    · rw [if_neg y] at h; cases h
  · rw [if_neg z] at h; cases h
theorem pr_pers_i {c : Int → Int → ar_R} (h : pr_pers tp n κ o s c = .inr x) : ar_kp κ (ar_W 32 tp n s) ≠ -1 ∧ ar_kp κ (ar_W 32 tp n s) ≠ o ∧ c (ar_kp κ (ar_W 32 tp n s)) (ac_nx tp n s) = .inr x := by
  unfold pr_pers at h
  by_cases z : ac_nm tp n s = 1
  · rw [if_pos z] at h
    by_cases y : ar_kp κ (ar_W 32 tp n s) = -1
    · rw [if_pos y] at h; cases h
    · rw [if_neg y] at h
      by_cases u : ar_kp κ (ar_W 32 tp n s) = o
      · rw [if_pos u] at h; cases h
      · rw [if_neg u] at h; exact ⟨y, u, h⟩
  · rw [if_neg z] at h; cases h
theorem pr_enter_i {told most : Int} {c : Int → ar_R} (h : pr_enter tp n κ told most s c = .inr x) : κ 11 0 = 1 ∧ told < most ∧ c (ac_nx tp n s) = .inr x := by
  unfold pr_enter at h
  by_cases z : κ 11 0 = 1
  · rw [if_pos z] at h
    by_cases y : told < most
    · rw [if_pos y] at h; exact ⟨z, y, h⟩
    · rw [if_neg y] at h; cases h
  · rw [if_neg z] at h; cases h
theorem ar_nm2 (h : ac_nm tp n s = 1) : ac_kk tp n s = 2 := by
  apply Classical.byContradiction
  intro u
  unfold ac_nm at h
  rw [if_neg u] at h
  omega
end
