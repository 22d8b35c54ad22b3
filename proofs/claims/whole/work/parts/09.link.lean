/-! the words of the tables that the program's own instructions use -/
theorem ab_lk_mem {α : Type} : ∀ {l : List (Nat × α)} {n : Nat} {v : α}, ab_lk l n = some v → (n, v) ∈ l
  | [], _, _, h => by cases h
  | (a, w) :: l, n, v, h => by
    unfold ab_lk at h
    cases hb : Nat.beq a n with
    | true =>
      rw [hb] at h
      have e : a = n := Nat.eq_of_beq_eq_true hb
      cases h
      rw [e]
      exact List.mem_cons_self
    | false =>
      rw [hb] at h
      exact List.mem_cons_of_mem _ (ab_lk_mem h)
def ab_scan : List Cond → List (Nat × Cond) → Bool
  | _, [] => true
  | tbl, (g, e) :: es => match tbl.drop g with
    | [] => false
    | t :: ts => decide (t = e) && ab_scan ts es
theorem ab_scan_mem : ∀ (es : List (Nat × Cond)) (tbl : List Cond), ab_scan tbl es = true → ∀ x ∈ es, x.2 ∈ tbl
  | [], _, _, _, hx => by cases hx
  | (g, e) :: es, tbl, h, x, hx => by
    unfold ab_scan at h
    split at h
    · cases h
    · rename_i t ts ht
      simp only [Bool.and_eq_true, decide_eq_true_eq] at h
      have hsub : ∀ y, y ∈ t :: ts → y ∈ tbl := fun y hy => List.mem_of_mem_drop (by rw [ht]; exact hy)
      rcases List.mem_cons.mp hx with e1 | e1
      · rw [e1]
        exact hsub _ (by rw [← h.1]; exact List.mem_cons_self)
      · exact hsub _ (List.mem_cons_of_mem _ (ab_scan_mem es ts h.2 x e1))
theorem ab_link_of {α : Type} (l : List α) (gs : List Nat) (f : α → Cond) (g : Cond → Bool) (hl : l.length ≤ gs.length) (h : ab_scan lw_tbl (gs.zip (l.map f)) = true) (hg : l.all (fun q => g (f q)) = true) : ∀ q ∈ l, f q ∈ lw_tbl.filter g := by
  intro q hq
  obtain ⟨i, hi⟩ := List.getElem?_of_mem hq
  have hlt : i < l.length := (List.getElem?_eq_some_iff.mp hi).1
  have hm : (gs[i]'(by omega), f q) ∈ gs.zip (l.map f) := by
    apply List.mem_of_getElem? (i := i)
    rw [List.getElem?_zip_eq_some]
    exact ⟨List.getElem?_eq_getElem (by omega), by rw [List.getElem?_map, hi]; rfl⟩
  exact List.mem_filter.mpr ⟨ab_scan_mem _ _ h _ hm, List.all_eq_true.mp hg q hq⟩
def ab_host (o : Nat) : String := if o = 12 ∨ o = 13 then RX13 else RX11
def ab_wF (q : Nat × Nat × Nat × Nat) : Cond := .fieldLink (ab_cn (q.1 / 1000)) (q.1 % 1000) (ab_T q.2.1 q.2.2.1).1 (ab_T q.2.1 q.2.2.1).2.1 (ab_T q.2.1 q.2.2.1).2.2.1
def ab_wFn (q : Nat × Nat × Nat × Nat) : Cond := .fieldLinkNest (ab_cn (q.1 / 1000)) (q.1 % 1000) (ab_T q.2.1 q.2.2.1).1 (ab_T q.2.1 q.2.2.1).2.1 (ab_T q.2.1 q.2.2.1).2.2.1 (ab_host (q.1 / 1000))
def ab_wM (q : Nat × Nat × Nat) : Cond := .methodLink (ab_cn (q.1 / 1000)) (q.1 % 1000) (ab_nm q.2.1)
def ab_wMn (q : Nat × Nat × Nat) : Cond := .methodLinkNest (ab_cn (q.1 / 1000)) (q.1 % 1000) (ab_nm q.2.1) (ab_host (q.1 / 1000))
def ab_wO (q : Nat × Nat × Nat) : Cond := .methodLink (ab_cn (q.1 / 1000)) (q.1 % 1000) objectInit
def ab_wC (q : Nat × Nat) : Cond := .classLink (ab_cn (q.1 / 1000)) (q.1 % 1000) (ab_cn q.2)
def ab_wI (q : Nat × Int) : Cond := .constant (ab_cn (q.1 / 1000)) (q.1 % 1000) (Int32.ofInt q.2)
def ab_wJ (q : Nat × Int) : Cond := .constantLong (ab_cn (q.1 / 1000)) (q.1 % 1000) (Int64.ofInt q.2)
set_option maxRecDepth 100000 in
theorem ab_l_F : ∀ q ∈ ab_pF.filter (fun q => q.2.2.2 == 0), (ab_wF) q ∈ lw_tbl.filter goodWord := ab_link_of _ [170, 0, 0, 0, 0, 0, 0, 0, 0, 0, 0, 0, 0, 33, 0, 0, 0, 0, 0, 0, 0, 0, 0, 0, 0, 0, 0, 17, 0, 0, 0, 0, 0, 0, 0, 0, 0, 0, 0, 0, 0, 0, 0, 0, 0, 0, 0, 0, 0, 0, 0, 0, 0, 0, 0, 0, 0, 0, 0, 25, 0, 0, 0, 0, 0, 0, 0, 0, 0, 0, 0, 0, 0, 0, 0, 0, 0, 0, 0, 0, 0, 0, 0, 0, 0, 0, 0, 0, 0, 0, 0, 0, 0, 0, 0, 0, 0, 0, 0, 0, 0, 0, 0, 0, 0, 31, 0, 0, 0, 0, 0, 0, 0, 0, 0, 19, 0, 0, 0, 0, 0, 0, 0, 0, 0, 21, 0, 0, 0, 0, 0, 0, 23, 0, 0, 0, 0, 0, 0, 0, 0, 0, 0, 0, 0, 13, 0, 0, 0, 0, 0, 0, 0, 0, 0, 0, 0, 0, 0, 0, 0, 32, 0, 0, 0, 0, 0, 0, 0, 0, 0, 27, 0, 0, 0, 0, 11, 0, 0, 0, 0, 0, 0, 0, 0, 760, 0, 0, 0, 0, 0, 0, 0, 0, 0, 0, 0, 0, 0, 0, 0, 0, 0, 0, 0, 0, 0, 0, 0, 0, 0, 0, 0, 0, 0, 0, 0, 0, 0, 0, 0, 0, 0, 0, 112, 2, 1, 1, 1, 1, 1, 1, 1, 1, 1, 1, 1, 1, 1, 1, 1, 1, 1, 1, 1, 1] _ _ (by decide +kernel) (by decide +kernel) (by decide +kernel)
set_option maxRecDepth 100000 in
theorem ab_l_Fn : ∀ q ∈ ab_pF.filter (fun q => q.2.2.2 == 1), (ab_wFn) q ∈ lw_tbl.filter ab_nest := ab_link_of _ [1508, 0, 0, 0, 0, 0, 0, 0, 0, 0, 1, 0, 1, 1, 1, 1, 1, 1, 1, 1, 1, 1, 1, 1, 1, 1, 1, 1, 1, 1, 1, 1, 1] _ _ (by decide +kernel) (by decide +kernel) (by decide +kernel)
set_option maxRecDepth 100000 in
theorem ab_l_M : ∀ q ∈ ab_pM.filter (fun q => decide (q.2.1 < 1000) && (q.2.2 == 0)), (ab_wM) q ∈ lw_tbl.filter goodWord := ab_link_of _ [152, 50, 230, 101, 60, 28, 3, 3, 3, 0, 3, 3, 3, 3, 9, 3, 4, 3, 4, 51, 3, 3, 1, 3, 3, 8, 3, 3, 3, 10, 3, 7, 4, 3, 3, 3, 10, 3, 3, 3, 3, 4, 3, 3, 3, 3, 3, 3, 3, 3, 3, 3, 3, 3, 3, 3, 3, 3, 3, 3, 3, 3, 3, 3, 3, 3, 3, 3, 3, 3, 3, 3, 3, 0, 3, 4, 3, 3, 0, 3, 2, 3, 3, 2, 0, 0, 0, 3, 3, 3, 1, 3, 3, 3, 3, 3, 5, 3, 3, 3, 4, 3, 3, 3, 3, 3, 1, 7, 3, 3, 3, 4, 3, 5, 3, 3, 3, 2, 3, 4, 4, 3, 2, 5, 3, 3, 3, 3, 3, 3, 3, 2, 3, 3, 3, 4, 3, 3, 0, 3, 3, 3, 4, 3, 3, 3, 3, 3, 3, 3, 3, 3, 3, 3, 7, 70, 122, 3, 3, 3, 131, 3, 3, 3, 2, 3, 4, 3, 4, 3, 4, 3, 3, 3, 3, 7, 3, 3, 3, 10, 7, 3, 3, 3, 3, 10, 3, 3, 3, 2, 3, 3, 3, 4, 3, 3, 3, 3, 3, 3, 3, 3, 3, 3, 3, 3, 3, 3, 3, 3, 3, 3, 3, 3, 3, 3, 3, 3, 4, 3, 3, 3, 3, 4, 3, 3, 2, 3, 3, 2, 3, 3, 3, 3, 3, 3, 3, 3, 3, 3, 0, 3, 3, 3, 3, 3, 5, 3, 3, 3, 3, 3, 3, 3, 3, 3, 3, 3, 3, 3, 2, 3, 4, 4, 3, 3, 3, 3, 3, 3, 3, 3, 3, 3, 4, 3, 6, 3, 3, 3, 3, 3, 3, 3, 3, 3, 3, 3, 3, 3, 3] _ _ (by decide +kernel) (by decide +kernel) (by decide +kernel)
set_option maxRecDepth 100000 in
theorem ab_l_Mn : ∀ q ∈ ab_pM.filter (fun q => decide (q.2.1 < 1000) && (q.2.2 == 1)), (ab_wMn) q ∈ lw_tbl.filter ab_nest := ab_link_of _ [160, 5, 45, 30, 162, 33, 20, 5, 76, 33, 925] _ _ (by decide +kernel) (by decide +kernel) (by decide +kernel)
set_option maxRecDepth 100000 in
theorem ab_l_O : ∀ q ∈ ab_pM.filter (fun q => q.2.1 == 1000), (ab_wO) q ∈ lw_tbl.filter goodWord := ab_link_of _ [155, 7, 5, 36, 8, 30, 162, 27, 26, 5, 68, 41, 784, 140] _ _ (by decide +kernel) (by decide +kernel) (by decide +kernel)
set_option maxRecDepth 100000 in
theorem ab_l_C : ∀ q ∈ ab_pC, (ab_wC) q ∈ lw_tbl.filter goodWord := ab_link_of _ [150, 7, 5, 36, 5, 1, 194, 27, 5, 20, 5, 68, 5, 35, 19, 764, 140] _ _ (by decide +kernel) (by decide +kernel) (by decide +kernel)
set_option maxRecDepth 100000 in
theorem ab_l_I : ∀ q ∈ ab_pI, (ab_wI) q ∈ lw_tbl.filter goodWord := ab_link_of _ [1048, 44, 28, 29, 47, 12, 851, 44] _ _ (by decide +kernel) (by decide +kernel) (by decide +kernel)
set_option maxRecDepth 100000 in
theorem ab_l_J : ∀ q ∈ ab_pJ, (ab_wJ) q ∈ lw_tbl.filter goodWord := ab_link_of _ [673, 305, 108, 58, 493, 244, 20, 87, 0, 63, 58, 0, 0] _ _ (by decide +kernel) (by decide +kernel) (by decide +kernel)
theorem ab_v_I : ∀ q ∈ ab_pI, (Int32.ofInt q.2).toInt = q.2 := by decide +kernel
theorem ab_v_J : ∀ q ∈ ab_pJ, (Int64.ofInt q.2).toInt = q.2 := by decide +kernel
theorem ab_v_S : ∀ q ∈ ab_pS, q.2 < 28 := by decide +kernel
theorem ab_v_F : ∀ q ∈ ab_pF, q.2.1 < 14 ∧ q.2.2.1 < ab_N q.2.1 ∧ (q.2.2.2 = 0 ∨ q.2.2.2 = 1) := by decide +kernel
theorem ab_v_M : ∀ q ∈ ab_pM, (q.2.1 < 288 ∨ 1000 ≤ q.2.1) ∧ (q.2.2 = 0 ∨ q.2.2 = 1) := by decide +kernel
def ab_ki : List Nat := [79, 41, 66, 26, 5, 30, 61, 19, 32, 0, 11, 74, 80, 67, 68, 81, 124, 42, 27, 69, 70, 71, 72, 44, 73, 43, 46, 55, 54, 57, 45, 47, 59, 58, 28, 29, 56, 48, 6, 49, 31, 50, 60, 51, 52, 53, 62, 20, 82, 83, 84, 126, 85, 129, 7, 86, 127, 87, 137, 33, 35, 1, 2, 88, 134, 133, 128, 130, 138, 139, 34, 89, 36, 3, 38, 90, 37, 91, 92, 39, 4, 40, 93, 13, 94, 141, 14, 16, 15, 95, 17, 96, 18, 97, 142, 140, 10, 98, 99, 143, 144, 9, 100, 101, 135, 125, 75, 76, 78, 77, 102, 103, 104, 105, 106, 107, 108, 109, 110, 131, 145, 146, 111, 112, 150, 151, 64, 8, 65, 113, 114, 21, 63, 115, 116, 117, 118, 22, 119, 23, 24, 120, 25, 122, 123, 121, 157, 158, 197, 198, 159, 152, 171, 167, 187, 188, 173, 189, 172, 179, 176, 178, 177, 191, 181, 182, 180, 153, 190, 175, 174, 183, 192, 193, 185, 184, 194, 186, 195, 196, 161, 199, 200, 217, 212, 154, 218, 215, 155, 221, 213, 220, 219, 222, 202, 201, 204, 223, 214, 216, 205, 224, 208, 206, 207, 225, 226, 227, 211, 209, 210, 166, 232, 228, 234, 233, 229, 230, 235, 236, 238, 237, 203, 156, 239, 244, 243, 240, 242, 241, 246, 245, 255, 254, 253, 250, 252, 247, 248, 249, 251, 256, 258, 259, 260, 261, 263, 262, 265, 264, 266, 269, 268, 267, 270, 275, 274, 273, 271, 272, 276, 278, 160, 277, 162, 279, 280, 281, 282, 283, 284, 285, 286, 287]
def ab_ks : List Nat := [147, 12, 148, 149, 136, 132, 168, 169, 170, 163, 164, 165, 231, 257]
def ab_kv : List Nat := [124, 71, 72, 44, 43, 46, 55, 54, 57, 45, 47, 59, 58, 56, 48, 49, 50, 60, 51, 52, 53, 126, 129, 127, 137, 134, 133, 128, 130, 138, 139, 38, 141, 15, 142, 140, 143, 144, 135, 125, 76, 78, 77, 131, 145, 146, 150, 151, 159, 171, 167, 187, 188, 173, 189, 172, 179, 176, 178, 177, 191, 181, 182, 180, 190, 175, 174, 183, 192, 193, 185, 184, 194, 186, 195, 196, 161, 212, 215, 213, 220, 219, 202, 201, 204, 214, 216, 205, 208, 206, 207, 211, 209, 210, 166, 228, 233, 229, 230, 237, 203, 243, 240, 242, 241, 245, 254, 253, 250, 252, 247, 248, 249, 251, 262, 264, 268, 267, 274, 273, 271, 272, 160, 277, 162, 80, 67, 68, 81, 42, 27, 69, 70, 73, 28, 29, 6, 31, 62, 20, 82, 83, 84, 85, 7, 86, 87, 33, 35, 1, 2, 88, 34, 89, 36, 3, 90, 37, 91, 92, 39, 4, 40, 93, 13, 94, 14, 16, 95, 17, 96, 18, 97, 10, 98, 99, 9, 100, 101, 75, 102, 103, 104, 105, 106, 107, 108, 109, 110, 111, 112, 64, 8, 65, 113, 114, 21, 63, 115, 116, 117, 118, 22, 119, 23, 24, 120, 25, 122, 123, 121, 158, 197, 198, 153, 199, 200, 217, 154, 218, 155, 221, 222, 223, 224, 225, 226, 227, 232, 234, 235, 236, 238, 156, 239, 244, 246, 255, 256, 258, 259, 260, 261, 263, 265, 266, 269, 270, 275, 276, 278, 279, 280, 281, 282, 283, 284, 285, 286, 287]
theorem ab_k_in : ∀ k ∈ List.range 288, (ab_kd k = 1 → k ∈ ab_ks) ∧ (ab_kd k = 0 → k ∈ ab_kv) ∧ (ab_kd k ≠ 1 → k ∈ ab_ki) := by decide +kernel
set_option maxRecDepth 100000 in
theorem ab_l_inst : ∀ q ∈ ab_ki, (fun k => .instanceMethod (ab_nm k)) q ∈ lw_tbl.filter goodWord := ab_link_of _ [153, 7, 5, 36, 8, 30, 162, 27, 26, 5, 68, 41, 47, 3, 3, 4, 4, 2, 3, 3, 9, 4, 4, 3, 3, 52, 3, 5, 3, 3, 8, 3, 3, 3, 9, 3, 8, 4, 2, 4, 2, 11, 3, 3, 3, 3, 3, 3, 3, 3, 3, 4, 2, 4, 2, 3, 4, 2, 4, 2, 3, 3, 3, 3, 4, 3, 3, 3, 3, 3, 2, 3, 3, 3, 4, 2, 3, 4, 3, 4, 3, 4, 6, 3, 9, 4, 2, 5, 4, 2, 3, 3, 3, 5, 4, 3, 2, 4, 3, 4, 3, 2, 5, 7, 4, 3, 2, 5, 3, 5, 2, 3, 6, 3, 4, 4, 6, 5, 3, 4, 3, 3, 2, 3, 11, 3, 2, 4, 3, 4, 3, 3, 3, 4, 3, 3, 3, 3, 3, 3, 3, 3, 3, 3, 3, 7, 70, 122, 3, 3, 4, 4, 126, 3, 10, 3, 4, 8, 3, 4, 3, 3, 3, 11, 3, 3, 3, 9, 8, 3, 3, 3, 3, 10, 3, 3, 6, 3, 3, 3, 4, 2, 3, 3, 4, 2, 3, 4, 2, 3, 4, 3, 3, 2, 4, 3, 3, 2, 4, 3, 3, 2, 4, 3, 3, 3, 3, 3, 4, 3, 4, 3, 5, 4, 5, 4, 3, 3, 2, 3, 3, 4, 3, 2, 4, 3, 4, 3, 3, 3, 4, 4, 2, 4, 3, 3, 3, 3, 3, 3, 3, 2, 3, 6, 3, 4, 4, 4, 2, 4, 2, 3, 4, 3, 2, 3, 4, 4, 3, 6, 2, 3, 4, 3, 3, 2, 3, 3, 3, 3, 3, 3, 3, 3] _ _ (by decide +kernel) (by decide +kernel) (by decide +kernel)
set_option maxRecDepth 100000 in
theorem ab_l_stat : ∀ q ∈ ab_ks, (fun k => .static (ab_nm k)) q ∈ lw_tbl.filter goodWord := ab_link_of _ [994, 10, 131, 20, 36, 2, 440, 3, 15, 29, 77, 149, 10, 121] _ _ (by decide +kernel) (by decide +kernel) (by decide +kernel)
set_option maxRecDepth 100000 in
theorem ab_l_sel : ∀ q ∈ ab_kv, (fun k => .selects (ab_cn (ab_ow k)) (ab_nm k) (ab_nm k)) q ∈ lw_tbl.filter goodWord := ab_link_of _ [0, 0, 0, 0, 0, 0, 0, 0, 0, 0, 0, 0, 0, 0, 0, 0, 0, 0, 0, 0, 0, 0, 0, 0, 0, 0, 0, 0, 0, 0, 0, 0, 0, 0, 0, 0, 0, 0, 0, 0, 0, 0, 0, 0, 0, 0, 0, 0, 1, 0, 0, 0, 0, 0, 0, 0, 0, 0, 0, 0, 0, 0, 0, 0, 0, 0, 0, 0, 0, 0, 0, 0, 0, 0, 0, 0, 0, 0, 0, 0, 0, 0, 0, 0, 0, 0, 0, 0, 0, 0, 0, 0, 0, 0, 0, 0, 0, 0, 0, 0, 0, 0, 0, 0, 0, 0, 0, 0, 0, 0, 0, 0, 0, 0, 0, 0, 0, 0, 0, 0, 0, 0, 0, 0, 0, 502, 3, 3, 4, 7, 3, 3, 9, 17, 101, 3, 16, 7, 31, 3, 3, 3, 3, 7, 7, 3, 7, 7, 3, 3, 3, 3, 27, 3, 3, 3, 7, 3, 4, 3, 4, 3, 4, 6, 3, 9, 7, 5, 7, 3, 3, 3, 5, 11, 4, 3, 11, 5, 7, 11, 18, 3, 6, 3, 4, 4, 6, 5, 3, 15, 3, 18, 4, 3, 4, 3, 3, 3, 4, 3, 3, 3, 3, 3, 3, 3, 3, 3, 3, 3, 7, 193, 3, 3, 224, 70, 3, 3, 7, 3, 7, 3, 15, 15, 15, 16, 3, 3, 23, 10, 15, 3, 3, 11, 4, 3, 21, 7, 35, 3, 6, 3, 4, 4, 7, 7, 3, 11, 3, 23, 3, 15, 3, 3, 3, 3, 3, 3, 3, 3] _ _ (by decide +kernel) (by decide +kernel) (by decide +kernel)
set_option maxRecDepth 100000 in
theorem ab_l_init : ∀ q ∈ [14, 11, 7, 9, 4, 1, 5, 8, 3, 6, 0, 2, 10, 13, 15, 12], (fun c => .initialized (ab_cn c)) q ∈ lw_tbl.filter goodWord := ab_link_of _ [126, 0, 0, 0, 0, 0, 0, 0, 0, 0, 0, 0, 0, 0, 0, 4] _ _ (by decide +kernel) (by decide +kernel) (by decide +kernel)
theorem ab_l_objI : Cond.instanceMethod objectInit ∈ ab_ws := List.mem_filter.mpr ⟨List.mem_of_getElem? (i := 156) (by decide +kernel), by decide +kernel⟩
theorem ab_l_objC : Cond.code objectInit ⟨#[0xb1]⟩ 1 none ∈ ab_ws := List.mem_filter.mpr ⟨List.mem_of_getElem? (i := 157) (by decide +kernel), by decide +kernel⟩
set_option maxRecDepth 100000 in
theorem ab_v_m : ∀ k ∈ List.range 288, (ab_nm k).cls = ab_cn (ab_ow k) ∧ (parseMethodDescriptor (ab_nm k).desc).map (fun d => d.parameters.length) = some (ab_np k) ∧ plainName (ab_nm k).cls = true ∧ ab_ow k < 16 ∧ ab_mx k ≤ 80 ∧ ((ab_kd k = 2) → (ab_nm k).name = "<init>") ∧ (ab_kd k = 2 → ab_rt k = none) ∧ ab_kd k < 3 := by decide +kernel
theorem ab_v_n : ∀ c ∈ List.range 16, ab_cn c ≠ "java/lang/invoke/MethodHandle" ∧ ab_cn c ≠ "java/lang/invoke/VarHandle" := by decide +kernel
set_option maxRecDepth 100000 in
theorem ab_l_inb : ∀ q ∈ [11, 7, 9, 4, 1, 5, 8, 3, 6, 0, 2, 10, 13, 12], (fun c => .instantiable (ab_cn c) (ab_N c)) q ∈ lw_tbl.filter goodWord := ab_link_of _ [151, 7, 5, 36, 8, 30, 162, 27, 26, 5, 68, 41, 784, 140] _ _ (by decide +kernel) (by decide +kernel) (by decide +kernel)
set_option maxRecDepth 100000 in
theorem ab_l_ac : ∀ q ∈ [2, 0, 3, 1], (fun g => .arrayClass (ab_aty g)) q ∈ lw_tbl.filter goodWord := ab_link_of _ [200, 40, 189, 1053] _ _ (by decide +kernel) (by decide +kernel) (by decide +kernel)
def ab_ck : List (Nat × Nat) := [(9, 0), (9, 1), (9, 2), (9, 3), (9, 4), (9, 5), (9, 6), (9, 7), (1, 0), (1, 1), (1, 2), (1, 3), (1, 4), (5, 0), (5, 1), (5, 2), (5, 3), (5, 4), (5, 5), (5, 6), (5, 7), (5, 8), (5, 9), (5, 10), (5, 11), (4, 0), (4, 1), (4, 2), (4, 3), (4, 4), (4, 5), (4, 6), (4, 7), (4, 8), (4, 9), (4, 10), (4, 11), (4, 12), (4, 13), (4, 14), (7, 0), (7, 1), (7, 2), (7, 3), (7, 4), (7, 5), (8, 0), (8, 1), (8, 2), (8, 3), (8, 4), (3, 0), (3, 1), (3, 2), (3, 3), (3, 4), (0, 0), (0, 1), (0, 2), (0, 3), (0, 4), (0, 5), (6, 0), (6, 1), (6, 2), (6, 3), (6, 4), (6, 5), (6, 6), (6, 7), (6, 8), (6, 9), (2, 0), (2, 1), (2, 2), (2, 3), (2, 4), (2, 5), (2, 6), (2, 7), (2, 8), (2, 9), (10, 0), (10, 1), (10, 2), (10, 3), (11, 0), (11, 1), (11, 2), (11, 3), (11, 4), (11, 5), (11, 6), (11, 7), (11, 8), (13, 0), (13, 1), (13, 2), (13, 3), (13, 4), (13, 5), (13, 6), (13, 7), (13, 8), (13, 9), (13, 10), (13, 11), (13, 12), (13, 13), (13, 14), (13, 15), (13, 16), (13, 17), (13, 18), (13, 19), (13, 20), (13, 21), (13, 22), (13, 23), (13, 24), (13, 25), (13, 26), (13, 27), (13, 28), (13, 29), (13, 30), (13, 31), (13, 32), (13, 33), (13, 34), (13, 35), (13, 36), (13, 37), (13, 38), (12, 0), (12, 1), (12, 2), (12, 3), (12, 4), (12, 5), (12, 6), (12, 7), (12, 8), (12, 9), (12, 10), (12, 11), (12, 12), (12, 13), (12, 14), (12, 15), (12, 16), (12, 17), (12, 18), (12, 19), (12, 20), (12, 21), (12, 22), (12, 23), (12, 24), (12, 25), (12, 26), (12, 27), (12, 28), (12, 29), (12, 30), (12, 31), (12, 32)]
theorem ab_ck_in : ∀ c ∈ List.range 14, ∀ k ∈ List.range (ab_N c), (c, k) ∈ ab_ck := by decide +kernel
set_option maxRecDepth 100000 in
theorem ab_l_lay : ∀ q ∈ ab_ck, (fun q => u_lay (ab_cn q.1) (ab_T q.1) q.2) q ∈ lw_tbl.filter goodWord := ab_link_of _ [183, 1, 1, 1, 1, 1, 1, 1, 32, 1, 1, 1, 1, 40, 1, 1, 1, 1, 1, 1, 1, 1, 1, 1, 1, 48, 1, 1, 1, 1, 1, 1, 1, 1, 1, 1, 1, 1, 1, 1, 12, 1, 1, 1, 1, 1, 18, 1, 1, 1, 1, 19, 1, 1, 1, 1, 27, 1, 1, 1, 1, 1, 18, 1, 1, 1, 1, 1, 1, 1, 1, 1, 23, 1, 1, 1, 1, 1, 1, 1, 1, 1, 13, 1, 1, 1, 13, 1, 1, 1, 1, 1, 1, 1, 1, 782, 1, 1, 1, 1, 1, 1, 1, 1, 1, 1, 1, 1, 1, 1, 1, 1, 1, 1, 1, 1, 1, 1, 1, 1, 1, 1, 1, 1, 1, 1, 1, 1, 1, 1, 1, 1, 1, 1, 80, 1, 1, 1, 1, 1, 1, 1, 1, 1, 1, 1, 1, 1, 1, 1, 1, 1, 1, 1, 1, 1, 1, 1, 1, 1, 1, 1, 1, 1, 1, 1, 1] _ _ (by decide +kernel) (by decide +kernel) (by decide +kernel)
theorem ab_in_ws {c : Nat} (hc : c < 14) : ∀ w ∈ u_ws (ab_cn c) (ab_T c) (ab_N c), w ∈ ab_ws := by
  intro w hw
  obtain ⟨k, hk, rfl⟩ := List.mem_map.mp hw
  exact ab_l_lay (c, k) (ab_ck_in c (List.mem_range.mpr hc) k hk)
theorem ab_v_c : ∀ c ∈ List.range 14, ab_cl[c]? = some (ab_cn c, ab_T c, ab_N c) := fun c hc => by
  have h := List.mem_range.mp hc
  match c, h with
  | 0, _ => rfl
  | 1, _ => rfl
  | 2, _ => rfl
  | 3, _ => rfl
  | 4, _ => rfl
  | 5, _ => rfl
  | 6, _ => rfl
  | 7, _ => rfl
  | 8, _ => rfl
  | 9, _ => rfl
  | 10, _ => rfl
  | 11, _ => rfl
  | 12, _ => rfl
  | 13, _ => rfl
theorem ab_v_ty : ∀ c ∈ List.range 14, ∀ k ∈ List.range (ab_N c), parseFieldDescriptor (ab_T c k).2.2.1 = some (ab_ty c k) := by decide +kernel
theorem ab_v_nm : ∀ c ∈ List.range 14, ∀ a ∈ List.range (ab_N c), ∀ b ∈ List.range (ab_N c), a ≠ b → (ab_T c a).2.1 ≠ (ab_T c b).2.1 := by decide +kernel
theorem ab_v_own : ∀ c ∈ List.range 14, ∀ k ∈ List.range (ab_N c), (ab_T c k).1 = ab_cn c := by decide +kernel
