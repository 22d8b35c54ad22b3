/-! fields, by the pools -/
section
variable {X : ab_X} {k pc : Nat} {bd : ab_B} {L st : List ab_V} {σ : ab_S} {Q : Option ab_V → ab_S → Prop} {cc : ByteArray} {a z : Int}
theorem qF_9_7 : ab_lk ab_pF (1000 * 9 + 7) = some (9, 0, 0) := by decide +kernel
theorem gF_9_7 (ho : ab_ow k = 9) (hc : ab_code k = cc) (hd : decode cc pc = .ok (.getfield 7, 3)) : ab_Run X k pc bd L (ab_R a :: st) σ Q ↔ (ab_sh σ a).1 = 10 ∧ ab_Run X k (pc + 3) bd L (ab_R (ab_rd σ a 0) :: st) σ Q := ab_r_getR rfl ho qF_9_7 (by decide) rfl rfl (fun _ => rfl) hc hd
theorem qF_9_13 : ab_lk ab_pF (1000 * 9 + 13) = some (9, 1, 0) := by decide +kernel
theorem gF_9_13 (ho : ab_ow k = 9) (hc : ab_code k = cc) (hd : decode cc pc = .ok (.getfield 13, 3)) : ab_Run X k pc bd L (ab_R a :: st) σ Q ↔ (ab_sh σ a).1 = 10 ∧ ab_Run X k (pc + 3) bd L (ab_I (ab_rd σ a 1) :: st) σ Q := ab_r_getI rfl ho qF_9_13 (by decide) rfl rfl (fun _ => rfl) hc hd
theorem sF_9_13 (ho : ab_ow k = 9) (hc : ab_code k = cc) (hd : decode cc pc = .ok (.putfield 13, 3)) : ab_Run X k pc bd L (ab_I z :: ab_R a :: st) σ Q ↔ (ab_sh σ a).1 = 10 ∧ ab_Run X k (pc + 3) bd L st (ab_wr σ a 1 z) Q := ab_r_putI rfl ho qF_9_13 (by decide) rfl rfl rfl (fun _ => rfl) hc hd
theorem qF_11_80 : ab_lk ab_pF (1000 * 11 + 80) = some (9, 1, 0) := by decide +kernel
theorem gF_11_80 (ho : ab_ow k = 11) (hc : ab_code k = cc) (hd : decode cc pc = .ok (.getfield 80, 3)) : ab_Run X k pc bd L (ab_R a :: st) σ Q ↔ (ab_sh σ a).1 = 10 ∧ ab_Run X k (pc + 3) bd L (ab_I (ab_rd σ a 1) :: st) σ Q := ab_r_getI rfl ho qF_11_80 (by decide) rfl rfl (fun _ => rfl) hc hd
theorem sF_11_80 (ho : ab_ow k = 11) (hc : ab_code k = cc) (hd : decode cc pc = .ok (.putfield 80, 3)) : ab_Run X k pc bd L (ab_I z :: ab_R a :: st) σ Q ↔ (ab_sh σ a).1 = 10 ∧ ab_Run X k (pc + 3) bd L st (ab_wr σ a 1 z) Q := ab_r_putI rfl ho qF_11_80 (by decide) rfl rfl rfl (fun _ => rfl) hc hd
theorem qF_7_47 : ab_lk ab_pF (1000 * 7 + 47) = some (9, 2, 0) := by decide +kernel
theorem gF_7_47 (ho : ab_ow k = 7) (hc : ab_code k = cc) (hd : decode cc pc = .ok (.getfield 47, 3)) : ab_Run X k pc bd L (ab_R a :: st) σ Q ↔ (ab_sh σ a).1 = 10 ∧ ab_Run X k (pc + 3) bd L (ab_I (ab_rd σ a 2) :: st) σ Q := ab_r_getI rfl ho qF_7_47 (by decide) rfl rfl (fun _ => rfl) hc hd
theorem sF_7_47 (ho : ab_ow k = 7) (hc : ab_code k = cc) (hd : decode cc pc = .ok (.putfield 47, 3)) : ab_Run X k pc bd L (ab_I z :: ab_R a :: st) σ Q ↔ (ab_sh σ a).1 = 10 ∧ ab_Run X k (pc + 3) bd L st (ab_wr σ a 2 z) Q := ab_r_putI rfl ho qF_7_47 (by decide) rfl rfl rfl (fun _ => rfl) hc hd
theorem qF_9_42 : ab_lk ab_pF (1000 * 9 + 42) = some (9, 2, 0) := by decide +kernel
theorem gF_9_42 (ho : ab_ow k = 9) (hc : ab_code k = cc) (hd : decode cc pc = .ok (.getfield 42, 3)) : ab_Run X k pc bd L (ab_R a :: st) σ Q ↔ (ab_sh σ a).1 = 10 ∧ ab_Run X k (pc + 3) bd L (ab_I (ab_rd σ a 2) :: st) σ Q := ab_r_getI rfl ho qF_9_42 (by decide) rfl rfl (fun _ => rfl) hc hd
theorem sF_9_42 (ho : ab_ow k = 9) (hc : ab_code k = cc) (hd : decode cc pc = .ok (.putfield 42, 3)) : ab_Run X k pc bd L (ab_I z :: ab_R a :: st) σ Q ↔ (ab_sh σ a).1 = 10 ∧ ab_Run X k (pc + 3) bd L st (ab_wr σ a 2 z) Q := ab_r_putI rfl ho qF_9_42 (by decide) rfl rfl rfl (fun _ => rfl) hc hd
theorem qF_7_63 : ab_lk ab_pF (1000 * 7 + 63) = some (9, 3, 0) := by decide +kernel
theorem gF_7_63 (ho : ab_ow k = 7) (hc : ab_code k = cc) (hd : decode cc pc = .ok (.getfield 63, 3)) : ab_Run X k pc bd L (ab_R a :: st) σ Q ↔ (ab_sh σ a).1 = 10 ∧ ab_Run X k (pc + 3) bd L (ab_I (ab_rd σ a 3) :: st) σ Q := ab_r_getI rfl ho qF_7_63 (by decide) rfl rfl (fun _ => rfl) hc hd
theorem sF_7_63 (ho : ab_ow k = 7) (hc : ab_code k = cc) (hd : decode cc pc = .ok (.putfield 63, 3)) : ab_Run X k pc bd L (ab_I z :: ab_R a :: st) σ Q ↔ (ab_sh σ a).1 = 10 ∧ ab_Run X k (pc + 3) bd L st (ab_wr σ a 3 z) Q := ab_r_putI rfl ho qF_7_63 (by decide) rfl rfl rfl (fun _ => rfl) hc hd
theorem qF_9_39 : ab_lk ab_pF (1000 * 9 + 39) = some (9, 3, 0) := by decide +kernel
theorem gF_9_39 (ho : ab_ow k = 9) (hc : ab_code k = cc) (hd : decode cc pc = .ok (.getfield 39, 3)) : ab_Run X k pc bd L (ab_R a :: st) σ Q ↔ (ab_sh σ a).1 = 10 ∧ ab_Run X k (pc + 3) bd L (ab_I (ab_rd σ a 3) :: st) σ Q := ab_r_getI rfl ho qF_9_39 (by decide) rfl rfl (fun _ => rfl) hc hd
theorem sF_9_39 (ho : ab_ow k = 9) (hc : ab_code k = cc) (hd : decode cc pc = .ok (.putfield 39, 3)) : ab_Run X k pc bd L (ab_I z :: ab_R a :: st) σ Q ↔ (ab_sh σ a).1 = 10 ∧ ab_Run X k (pc + 3) bd L st (ab_wr σ a 3 z) Q := ab_r_putI rfl ho qF_9_39 (by decide) rfl rfl rfl (fun _ => rfl) hc hd
theorem qF_9_57 : ab_lk ab_pF (1000 * 9 + 57) = some (9, 4, 0) := by decide +kernel
theorem gF_9_57 (ho : ab_ow k = 9) (hc : ab_code k = cc) (hd : decode cc pc = .ok (.getfield 57, 3)) : ab_Run X k pc bd L (ab_R a :: st) σ Q ↔ (ab_sh σ a).1 = 10 ∧ ab_Run X k (pc + 3) bd L (ab_I (ab_rd σ a 4) :: st) σ Q := ab_r_getI rfl ho qF_9_57 (by decide) rfl rfl (fun _ => rfl) hc hd
theorem sF_9_57 (ho : ab_ow k = 9) (hc : ab_code k = cc) (hd : decode cc pc = .ok (.putfield 57, 3)) : ab_Run X k pc bd L (ab_I z :: ab_R a :: st) σ Q ↔ (ab_sh σ a).1 = 10 ∧ ab_Run X k (pc + 3) bd L st (ab_wr σ a 4 z) Q := ab_r_putI rfl ho qF_9_57 (by decide) rfl rfl rfl (fun _ => rfl) hc hd
theorem qF_7_265 : ab_lk ab_pF (1000 * 7 + 265) = some (9, 4, 0) := by decide +kernel
theorem gF_7_265 (ho : ab_ow k = 7) (hc : ab_code k = cc) (hd : decode cc pc = .ok (.getfield 265, 3)) : ab_Run X k pc bd L (ab_R a :: st) σ Q ↔ (ab_sh σ a).1 = 10 ∧ ab_Run X k (pc + 3) bd L (ab_I (ab_rd σ a 4) :: st) σ Q := ab_r_getI rfl ho qF_7_265 (by decide) rfl rfl (fun _ => rfl) hc hd
theorem sF_7_265 (ho : ab_ow k = 7) (hc : ab_code k = cc) (hd : decode cc pc = .ok (.putfield 265, 3)) : ab_Run X k pc bd L (ab_I z :: ab_R a :: st) σ Q ↔ (ab_sh σ a).1 = 10 ∧ ab_Run X k (pc + 3) bd L st (ab_wr σ a 4 z) Q := ab_r_putI rfl ho qF_7_265 (by decide) rfl rfl rfl (fun _ => rfl) hc hd
theorem qF_9_51 : ab_lk ab_pF (1000 * 9 + 51) = some (9, 5, 0) := by decide +kernel
theorem gF_9_51 (ho : ab_ow k = 9) (hc : ab_code k = cc) (hd : decode cc pc = .ok (.getfield 51, 3)) : ab_Run X k pc bd L (ab_R a :: st) σ Q ↔ (ab_sh σ a).1 = 10 ∧ ab_Run X k (pc + 3) bd L (ab_J (ab_rd σ a 5) :: st) σ Q := ab_r_getJ rfl ho qF_9_51 (by decide) rfl rfl (fun _ => rfl) hc hd
theorem sF_9_51 (ho : ab_ow k = 9) (hc : ab_code k = cc) (hd : decode cc pc = .ok (.putfield 51, 3)) : ab_Run X k pc bd L (ab_J z :: ab_R a :: st) σ Q ↔ (ab_sh σ a).1 = 10 ∧ ab_Run X k (pc + 3) bd L st (ab_wr σ a 5 z) Q := ab_r_putJ rfl ho qF_9_51 (by decide) rfl rfl rfl (fun _ => rfl) hc hd
theorem qF_7_152 : ab_lk ab_pF (1000 * 7 + 152) = some (9, 5, 0) := by decide +kernel
theorem gF_7_152 (ho : ab_ow k = 7) (hc : ab_code k = cc) (hd : decode cc pc = .ok (.getfield 152, 3)) : ab_Run X k pc bd L (ab_R a :: st) σ Q ↔ (ab_sh σ a).1 = 10 ∧ ab_Run X k (pc + 3) bd L (ab_J (ab_rd σ a 5) :: st) σ Q := ab_r_getJ rfl ho qF_7_152 (by decide) rfl rfl (fun _ => rfl) hc hd
theorem sF_7_152 (ho : ab_ow k = 7) (hc : ab_code k = cc) (hd : decode cc pc = .ok (.putfield 152, 3)) : ab_Run X k pc bd L (ab_J z :: ab_R a :: st) σ Q ↔ (ab_sh σ a).1 = 10 ∧ ab_Run X k (pc + 3) bd L st (ab_wr σ a 5 z) Q := ab_r_putJ rfl ho qF_7_152 (by decide) rfl rfl rfl (fun _ => rfl) hc hd
theorem qF_9_33 : ab_lk ab_pF (1000 * 9 + 33) = some (9, 6, 0) := by decide +kernel
theorem gF_9_33 (ho : ab_ow k = 9) (hc : ab_code k = cc) (hd : decode cc pc = .ok (.getfield 33, 3)) : ab_Run X k pc bd L (ab_R a :: st) σ Q ↔ (ab_sh σ a).1 = 10 ∧ ab_Run X k (pc + 3) bd L (ab_I (ab_rd σ a 6) :: st) σ Q := ab_r_getI rfl ho qF_9_33 (by decide) rfl rfl (fun _ => rfl) hc hd
theorem sF_9_33 (ho : ab_ow k = 9) (hc : ab_code k = cc) (hd : decode cc pc = .ok (.putfield 33, 3)) : ab_Run X k pc bd L (ab_I z :: ab_R a :: st) σ Q ↔ (ab_sh σ a).1 = 10 ∧ ab_Run X k (pc + 3) bd L st (ab_wr σ a 6 z) Q := ab_r_putI rfl ho qF_9_33 (by decide) rfl rfl rfl (fun _ => rfl) hc hd
theorem qF_9_30 : ab_lk ab_pF (1000 * 9 + 30) = some (9, 7, 0) := by decide +kernel
theorem gF_9_30 (ho : ab_ow k = 9) (hc : ab_code k = cc) (hd : decode cc pc = .ok (.getfield 30, 3)) : ab_Run X k pc bd L (ab_R a :: st) σ Q ↔ (ab_sh σ a).1 = 10 ∧ ab_Run X k (pc + 3) bd L (ab_I (ab_rd σ a 7) :: st) σ Q := ab_r_getI rfl ho qF_9_30 (by decide) rfl rfl (fun _ => rfl) hc hd
theorem sF_9_30 (ho : ab_ow k = 9) (hc : ab_code k = cc) (hd : decode cc pc = .ok (.putfield 30, 3)) : ab_Run X k pc bd L (ab_I z :: ab_R a :: st) σ Q ↔ (ab_sh σ a).1 = 10 ∧ ab_Run X k (pc + 3) bd L st (ab_wr σ a 7 z) Q := ab_r_putI rfl ho qF_9_30 (by decide) rfl rfl rfl (fun _ => rfl) hc hd
theorem qF_4_51 : ab_lk ab_pF (1000 * 4 + 51) = some (1, 0, 0) := by decide +kernel
theorem gF_4_51 (ho : ab_ow k = 4) (hc : ab_code k = cc) (hd : decode cc pc = .ok (.getfield 51, 3)) : ab_Run X k pc bd L (ab_R a :: st) σ Q ↔ (ab_sh σ a).1 = 2 ∧ ab_Run X k (pc + 3) bd L (ab_J (ab_rd σ a 0) :: st) σ Q := ab_r_getJ rfl ho qF_4_51 (by decide) rfl rfl (fun _ => rfl) hc hd
theorem sF_4_51 (ho : ab_ow k = 4) (hc : ab_code k = cc) (hd : decode cc pc = .ok (.putfield 51, 3)) : ab_Run X k pc bd L (ab_J z :: ab_R a :: st) σ Q ↔ (ab_sh σ a).1 = 2 ∧ ab_Run X k (pc + 3) bd L st (ab_wr σ a 0 z) Q := ab_r_putJ rfl ho qF_4_51 (by decide) rfl rfl rfl (fun _ => rfl) hc hd
theorem qF_7_156 : ab_lk ab_pF (1000 * 7 + 156) = some (1, 0, 0) := by decide +kernel
theorem gF_7_156 (ho : ab_ow k = 7) (hc : ab_code k = cc) (hd : decode cc pc = .ok (.getfield 156, 3)) : ab_Run X k pc bd L (ab_R a :: st) σ Q ↔ (ab_sh σ a).1 = 2 ∧ ab_Run X k (pc + 3) bd L (ab_J (ab_rd σ a 0) :: st) σ Q := ab_r_getJ rfl ho qF_7_156 (by decide) rfl rfl (fun _ => rfl) hc hd
theorem sF_7_156 (ho : ab_ow k = 7) (hc : ab_code k = cc) (hd : decode cc pc = .ok (.putfield 156, 3)) : ab_Run X k pc bd L (ab_J z :: ab_R a :: st) σ Q ↔ (ab_sh σ a).1 = 2 ∧ ab_Run X k (pc + 3) bd L st (ab_wr σ a 0 z) Q := ab_r_putJ rfl ho qF_7_156 (by decide) rfl rfl rfl (fun _ => rfl) hc hd
theorem qF_8_31 : ab_lk ab_pF (1000 * 8 + 31) = some (1, 1, 0) := by decide +kernel
theorem gF_8_31 (ho : ab_ow k = 8) (hc : ab_code k = cc) (hd : decode cc pc = .ok (.getfield 31, 3)) : ab_Run X k pc bd L (ab_R a :: st) σ Q ↔ (ab_sh σ a).1 = 2 ∧ ab_Run X k (pc + 3) bd L (ab_I (ab_rd σ a 1) :: st) σ Q := ab_r_getI rfl ho qF_8_31 (by decide) rfl rfl (fun _ => rfl) hc hd
theorem sF_8_31 (ho : ab_ow k = 8) (hc : ab_code k = cc) (hd : decode cc pc = .ok (.putfield 31, 3)) : ab_Run X k pc bd L (ab_I z :: ab_R a :: st) σ Q ↔ (ab_sh σ a).1 = 2 ∧ ab_Run X k (pc + 3) bd L st (ab_wr σ a 1 z) Q := ab_r_putI rfl ho qF_8_31 (by decide) rfl rfl rfl (fun _ => rfl) hc hd
theorem qF_7_173 : ab_lk ab_pF (1000 * 7 + 173) = some (1, 1, 0) := by decide +kernel
theorem gF_7_173 (ho : ab_ow k = 7) (hc : ab_code k = cc) (hd : decode cc pc = .ok (.getfield 173, 3)) : ab_Run X k pc bd L (ab_R a :: st) σ Q ↔ (ab_sh σ a).1 = 2 ∧ ab_Run X k (pc + 3) bd L (ab_I (ab_rd σ a 1) :: st) σ Q := ab_r_getI rfl ho qF_7_173 (by decide) rfl rfl (fun _ => rfl) hc hd
theorem sF_7_173 (ho : ab_ow k = 7) (hc : ab_code k = cc) (hd : decode cc pc = .ok (.putfield 173, 3)) : ab_Run X k pc bd L (ab_I z :: ab_R a :: st) σ Q ↔ (ab_sh σ a).1 = 2 ∧ ab_Run X k (pc + 3) bd L st (ab_wr σ a 1 z) Q := ab_r_putI rfl ho qF_7_173 (by decide) rfl rfl rfl (fun _ => rfl) hc hd
theorem qF_11_340 : ab_lk ab_pF (1000 * 11 + 340) = some (1, 1, 0) := by decide +kernel
theorem gF_11_340 (ho : ab_ow k = 11) (hc : ab_code k = cc) (hd : decode cc pc = .ok (.getfield 340, 3)) : ab_Run X k pc bd L (ab_R a :: st) σ Q ↔ (ab_sh σ a).1 = 2 ∧ ab_Run X k (pc + 3) bd L (ab_I (ab_rd σ a 1) :: st) σ Q := ab_r_getI rfl ho qF_11_340 (by decide) rfl rfl (fun _ => rfl) hc hd
theorem sF_11_340 (ho : ab_ow k = 11) (hc : ab_code k = cc) (hd : decode cc pc = .ok (.putfield 340, 3)) : ab_Run X k pc bd L (ab_I z :: ab_R a :: st) σ Q ↔ (ab_sh σ a).1 = 2 ∧ ab_Run X k (pc + 3) bd L st (ab_wr σ a 1 z) Q := ab_r_putI rfl ho qF_11_340 (by decide) rfl rfl rfl (fun _ => rfl) hc hd
theorem qF_8_37 : ab_lk ab_pF (1000 * 8 + 37) = some (1, 2, 0) := by decide +kernel
theorem gF_8_37 (ho : ab_ow k = 8) (hc : ab_code k = cc) (hd : decode cc pc = .ok (.getfield 37, 3)) : ab_Run X k pc bd L (ab_R a :: st) σ Q ↔ (ab_sh σ a).1 = 2 ∧ ab_Run X k (pc + 3) bd L (ab_I (ab_rd σ a 2) :: st) σ Q := ab_r_getI rfl ho qF_8_37 (by decide) rfl rfl (fun _ => rfl) hc hd
theorem sF_8_37 (ho : ab_ow k = 8) (hc : ab_code k = cc) (hd : decode cc pc = .ok (.putfield 37, 3)) : ab_Run X k pc bd L (ab_I z :: ab_R a :: st) σ Q ↔ (ab_sh σ a).1 = 2 ∧ ab_Run X k (pc + 3) bd L st (ab_wr σ a 2 z) Q := ab_r_putI rfl ho qF_8_37 (by decide) rfl rfl rfl (fun _ => rfl) hc hd
theorem qF_7_176 : ab_lk ab_pF (1000 * 7 + 176) = some (1, 2, 0) := by decide +kernel
theorem gF_7_176 (ho : ab_ow k = 7) (hc : ab_code k = cc) (hd : decode cc pc = .ok (.getfield 176, 3)) : ab_Run X k pc bd L (ab_R a :: st) σ Q ↔ (ab_sh σ a).1 = 2 ∧ ab_Run X k (pc + 3) bd L (ab_I (ab_rd σ a 2) :: st) σ Q := ab_r_getI rfl ho qF_7_176 (by decide) rfl rfl (fun _ => rfl) hc hd
theorem sF_7_176 (ho : ab_ow k = 7) (hc : ab_code k = cc) (hd : decode cc pc = .ok (.putfield 176, 3)) : ab_Run X k pc bd L (ab_I z :: ab_R a :: st) σ Q ↔ (ab_sh σ a).1 = 2 ∧ ab_Run X k (pc + 3) bd L st (ab_wr σ a 2 z) Q := ab_r_putI rfl ho qF_7_176 (by decide) rfl rfl rfl (fun _ => rfl) hc hd
theorem qF_1_9 : ab_lk ab_pF (1000 * 1 + 9) = some (1, 3, 0) := by decide +kernel
theorem gF_1_9 (ho : ab_ow k = 1) (hc : ab_code k = cc) (hd : decode cc pc = .ok (.getfield 9, 3)) : ab_Run X k pc bd L (ab_R a :: st) σ Q ↔ (ab_sh σ a).1 = 2 ∧ ab_Run X k (pc + 3) bd L (ab_R (ab_rd σ a 3) :: st) σ Q := ab_r_getR rfl ho qF_1_9 (by decide) rfl rfl (fun _ => rfl) hc hd
theorem qF_0_27 : ab_lk ab_pF (1000 * 0 + 27) = some (1, 3, 0) := by decide +kernel
theorem gF_0_27 (ho : ab_ow k = 0) (hc : ab_code k = cc) (hd : decode cc pc = .ok (.getfield 27, 3)) : ab_Run X k pc bd L (ab_R a :: st) σ Q ↔ (ab_sh σ a).1 = 2 ∧ ab_Run X k (pc + 3) bd L (ab_R (ab_rd σ a 3) :: st) σ Q := ab_r_getR rfl ho qF_0_27 (by decide) rfl rfl (fun _ => rfl) hc hd
theorem qF_2_42 : ab_lk ab_pF (1000 * 2 + 42) = some (1, 3, 0) := by decide +kernel
theorem gF_2_42 (ho : ab_ow k = 2) (hc : ab_code k = cc) (hd : decode cc pc = .ok (.getfield 42, 3)) : ab_Run X k pc bd L (ab_R a :: st) σ Q ↔ (ab_sh σ a).1 = 2 ∧ ab_Run X k (pc + 3) bd L (ab_R (ab_rd σ a 3) :: st) σ Q := ab_r_getR rfl ho qF_2_42 (by decide) rfl rfl (fun _ => rfl) hc hd
theorem qF_11_122 : ab_lk ab_pF (1000 * 11 + 122) = some (1, 3, 0) := by decide +kernel
theorem gF_11_122 (ho : ab_ow k = 11) (hc : ab_code k = cc) (hd : decode cc pc = .ok (.getfield 122, 3)) : ab_Run X k pc bd L (ab_R a :: st) σ Q ↔ (ab_sh σ a).1 = 2 ∧ ab_Run X k (pc + 3) bd L (ab_R (ab_rd σ a 3) :: st) σ Q := ab_r_getR rfl ho qF_11_122 (by decide) rfl rfl (fun _ => rfl) hc hd
theorem qF_7_188 : ab_lk ab_pF (1000 * 7 + 188) = some (1, 3, 0) := by decide +kernel
theorem gF_7_188 (ho : ab_ow k = 7) (hc : ab_code k = cc) (hd : decode cc pc = .ok (.getfield 188, 3)) : ab_Run X k pc bd L (ab_R a :: st) σ Q ↔ (ab_sh σ a).1 = 2 ∧ ab_Run X k (pc + 3) bd L (ab_R (ab_rd σ a 3) :: st) σ Q := ab_r_getR rfl ho qF_7_188 (by decide) rfl rfl (fun _ => rfl) hc hd
theorem qF_1_15 : ab_lk ab_pF (1000 * 1 + 15) = some (1, 4, 0) := by decide +kernel
theorem gF_1_15 (ho : ab_ow k = 1) (hc : ab_code k = cc) (hd : decode cc pc = .ok (.getfield 15, 3)) : ab_Run X k pc bd L (ab_R a :: st) σ Q ↔ (ab_sh σ a).1 = 2 ∧ ab_Run X k (pc + 3) bd L (ab_R (ab_rd σ a 4) :: st) σ Q := ab_r_getR rfl ho qF_1_15 (by decide) rfl rfl (fun _ => rfl) hc hd
theorem qF_0_35 : ab_lk ab_pF (1000 * 0 + 35) = some (1, 4, 0) := by decide +kernel
theorem gF_0_35 (ho : ab_ow k = 0) (hc : ab_code k = cc) (hd : decode cc pc = .ok (.getfield 35, 3)) : ab_Run X k pc bd L (ab_R a :: st) σ Q ↔ (ab_sh σ a).1 = 2 ∧ ab_Run X k (pc + 3) bd L (ab_R (ab_rd σ a 4) :: st) σ Q := ab_r_getR rfl ho qF_0_35 (by decide) rfl rfl (fun _ => rfl) hc hd
theorem qF_5_15 : ab_lk ab_pF (1000 * 5 + 15) = some (5, 0, 0) := by decide +kernel
theorem gF_5_15 (ho : ab_ow k = 5) (hc : ab_code k = cc) (hd : decode cc pc = .ok (.getfield 15, 3)) : ab_Run X k pc bd L (ab_R a :: st) σ Q ↔ (ab_sh σ a).1 = 6 ∧ ab_Run X k (pc + 3) bd L (ab_J (ab_rd σ a 0) :: st) σ Q := ab_r_getJ rfl ho qF_5_15 (by decide) rfl rfl (fun _ => rfl) hc hd
theorem sF_5_15 (ho : ab_ow k = 5) (hc : ab_code k = cc) (hd : decode cc pc = .ok (.putfield 15, 3)) : ab_Run X k pc bd L (ab_J z :: ab_R a :: st) σ Q ↔ (ab_sh σ a).1 = 6 ∧ ab_Run X k (pc + 3) bd L st (ab_wr σ a 0 z) Q := ab_r_putJ rfl ho qF_5_15 (by decide) rfl rfl rfl (fun _ => rfl) hc hd
theorem qF_4_55 : ab_lk ab_pF (1000 * 4 + 55) = some (5, 0, 0) := by decide +kernel
theorem gF_4_55 (ho : ab_ow k = 4) (hc : ab_code k = cc) (hd : decode cc pc = .ok (.getfield 55, 3)) : ab_Run X k pc bd L (ab_R a :: st) σ Q ↔ (ab_sh σ a).1 = 6 ∧ ab_Run X k (pc + 3) bd L (ab_J (ab_rd σ a 0) :: st) σ Q := ab_r_getJ rfl ho qF_4_55 (by decide) rfl rfl (fun _ => rfl) hc hd
theorem sF_4_55 (ho : ab_ow k = 4) (hc : ab_code k = cc) (hd : decode cc pc = .ok (.putfield 55, 3)) : ab_Run X k pc bd L (ab_J z :: ab_R a :: st) σ Q ↔ (ab_sh σ a).1 = 6 ∧ ab_Run X k (pc + 3) bd L st (ab_wr σ a 0 z) Q := ab_r_putJ rfl ho qF_4_55 (by decide) rfl rfl rfl (fun _ => rfl) hc hd
theorem qF_2_47 : ab_lk ab_pF (1000 * 2 + 47) = some (5, 1, 0) := by decide +kernel
theorem gF_2_47 (ho : ab_ow k = 2) (hc : ab_code k = cc) (hd : decode cc pc = .ok (.getfield 47, 3)) : ab_Run X k pc bd L (ab_R a :: st) σ Q ↔ (ab_sh σ a).1 = 6 ∧ ab_Run X k (pc + 3) bd L (ab_I (ab_rd σ a 1) :: st) σ Q := ab_r_getI rfl ho qF_2_47 (by decide) rfl rfl (fun _ => rfl) hc hd
theorem sF_2_47 (ho : ab_ow k = 2) (hc : ab_code k = cc) (hd : decode cc pc = .ok (.putfield 47, 3)) : ab_Run X k pc bd L (ab_I z :: ab_R a :: st) σ Q ↔ (ab_sh σ a).1 = 6 ∧ ab_Run X k (pc + 3) bd L st (ab_wr σ a 1 z) Q := ab_r_putI rfl ho qF_2_47 (by decide) rfl rfl rfl (fun _ => rfl) hc hd
theorem qF_6_62 : ab_lk ab_pF (1000 * 6 + 62) = some (5, 1, 0) := by decide +kernel
theorem gF_6_62 (ho : ab_ow k = 6) (hc : ab_code k = cc) (hd : decode cc pc = .ok (.getfield 62, 3)) : ab_Run X k pc bd L (ab_R a :: st) σ Q ↔ (ab_sh σ a).1 = 6 ∧ ab_Run X k (pc + 3) bd L (ab_I (ab_rd σ a 1) :: st) σ Q := ab_r_getI rfl ho qF_6_62 (by decide) rfl rfl (fun _ => rfl) hc hd
theorem sF_6_62 (ho : ab_ow k = 6) (hc : ab_code k = cc) (hd : decode cc pc = .ok (.putfield 62, 3)) : ab_Run X k pc bd L (ab_I z :: ab_R a :: st) σ Q ↔ (ab_sh σ a).1 = 6 ∧ ab_Run X k (pc + 3) bd L st (ab_wr σ a 1 z) Q := ab_r_putI rfl ho qF_6_62 (by decide) rfl rfl rfl (fun _ => rfl) hc hd
theorem qF_11_146 : ab_lk ab_pF (1000 * 11 + 146) = some (5, 1, 0) := by decide +kernel
theorem gF_11_146 (ho : ab_ow k = 11) (hc : ab_code k = cc) (hd : decode cc pc = .ok (.getfield 146, 3)) : ab_Run X k pc bd L (ab_R a :: st) σ Q ↔ (ab_sh σ a).1 = 6 ∧ ab_Run X k (pc + 3) bd L (ab_I (ab_rd σ a 1) :: st) σ Q := ab_r_getI rfl ho qF_11_146 (by decide) rfl rfl (fun _ => rfl) hc hd
theorem sF_11_146 (ho : ab_ow k = 11) (hc : ab_code k = cc) (hd : decode cc pc = .ok (.putfield 146, 3)) : ab_Run X k pc bd L (ab_I z :: ab_R a :: st) σ Q ↔ (ab_sh σ a).1 = 6 ∧ ab_Run X k (pc + 3) bd L st (ab_wr σ a 1 z) Q := ab_r_putI rfl ho qF_11_146 (by decide) rfl rfl rfl (fun _ => rfl) hc hd
theorem qF_7_219 : ab_lk ab_pF (1000 * 7 + 219) = some (5, 1, 0) := by decide +kernel
theorem gF_7_219 (ho : ab_ow k = 7) (hc : ab_code k = cc) (hd : decode cc pc = .ok (.getfield 219, 3)) : ab_Run X k pc bd L (ab_R a :: st) σ Q ↔ (ab_sh σ a).1 = 6 ∧ ab_Run X k (pc + 3) bd L (ab_I (ab_rd σ a 1) :: st) σ Q := ab_r_getI rfl ho qF_7_219 (by decide) rfl rfl (fun _ => rfl) hc hd
theorem sF_7_219 (ho : ab_ow k = 7) (hc : ab_code k = cc) (hd : decode cc pc = .ok (.putfield 219, 3)) : ab_Run X k pc bd L (ab_I z :: ab_R a :: st) σ Q ↔ (ab_sh σ a).1 = 6 ∧ ab_Run X k (pc + 3) bd L st (ab_wr σ a 1 z) Q := ab_r_putI rfl ho qF_7_219 (by decide) rfl rfl rfl (fun _ => rfl) hc hd
theorem qF_6_56 : ab_lk ab_pF (1000 * 6 + 56) = some (5, 2, 0) := by decide +kernel
theorem gF_6_56 (ho : ab_ow k = 6) (hc : ab_code k = cc) (hd : decode cc pc = .ok (.getfield 56, 3)) : ab_Run X k pc bd L (ab_R a :: st) σ Q ↔ (ab_sh σ a).1 = 6 ∧ ab_Run X k (pc + 3) bd L (ab_I (ab_rd σ a 2) :: st) σ Q := ab_r_getI rfl ho qF_6_56 (by decide) rfl rfl (fun _ => rfl) hc hd
theorem sF_6_56 (ho : ab_ow k = 6) (hc : ab_code k = cc) (hd : decode cc pc = .ok (.putfield 56, 3)) : ab_Run X k pc bd L (ab_I z :: ab_R a :: st) σ Q ↔ (ab_sh σ a).1 = 6 ∧ ab_Run X k (pc + 3) bd L st (ab_wr σ a 2 z) Q := ab_r_putI rfl ho qF_6_56 (by decide) rfl rfl rfl (fun _ => rfl) hc hd
theorem qF_11_151 : ab_lk ab_pF (1000 * 11 + 151) = some (5, 2, 0) := by decide +kernel
theorem gF_11_151 (ho : ab_ow k = 11) (hc : ab_code k = cc) (hd : decode cc pc = .ok (.getfield 151, 3)) : ab_Run X k pc bd L (ab_R a :: st) σ Q ↔ (ab_sh σ a).1 = 6 ∧ ab_Run X k (pc + 3) bd L (ab_I (ab_rd σ a 2) :: st) σ Q := ab_r_getI rfl ho qF_11_151 (by decide) rfl rfl (fun _ => rfl) hc hd
theorem sF_11_151 (ho : ab_ow k = 11) (hc : ab_code k = cc) (hd : decode cc pc = .ok (.putfield 151, 3)) : ab_Run X k pc bd L (ab_I z :: ab_R a :: st) σ Q ↔ (ab_sh σ a).1 = 6 ∧ ab_Run X k (pc + 3) bd L st (ab_wr σ a 2 z) Q := ab_r_putI rfl ho qF_11_151 (by decide) rfl rfl rfl (fun _ => rfl) hc hd
theorem qF_7_222 : ab_lk ab_pF (1000 * 7 + 222) = some (5, 2, 0) := by decide +kernel
theorem gF_7_222 (ho : ab_ow k = 7) (hc : ab_code k = cc) (hd : decode cc pc = .ok (.getfield 222, 3)) : ab_Run X k pc bd L (ab_R a :: st) σ Q ↔ (ab_sh σ a).1 = 6 ∧ ab_Run X k (pc + 3) bd L (ab_I (ab_rd σ a 2) :: st) σ Q := ab_r_getI rfl ho qF_7_222 (by decide) rfl rfl (fun _ => rfl) hc hd
theorem sF_7_222 (ho : ab_ow k = 7) (hc : ab_code k = cc) (hd : decode cc pc = .ok (.putfield 222, 3)) : ab_Run X k pc bd L (ab_I z :: ab_R a :: st) σ Q ↔ (ab_sh σ a).1 = 6 ∧ ab_Run X k (pc + 3) bd L st (ab_wr σ a 2 z) Q := ab_r_putI rfl ho qF_7_222 (by decide) rfl rfl rfl (fun _ => rfl) hc hd
theorem qF_1_22 : ab_lk ab_pF (1000 * 1 + 22) = some (5, 3, 0) := by decide +kernel
theorem gF_1_22 (ho : ab_ow k = 1) (hc : ab_code k = cc) (hd : decode cc pc = .ok (.getfield 22, 3)) : ab_Run X k pc bd L (ab_R a :: st) σ Q ↔ (ab_sh σ a).1 = 6 ∧ ab_Run X k (pc + 3) bd L (ab_I (ab_rd σ a 3) :: st) σ Q := ab_r_getI rfl ho qF_1_22 (by decide) rfl rfl (fun _ => rfl) hc hd
theorem sF_1_22 (ho : ab_ow k = 1) (hc : ab_code k = cc) (hd : decode cc pc = .ok (.putfield 22, 3)) : ab_Run X k pc bd L (ab_I z :: ab_R a :: st) σ Q ↔ (ab_sh σ a).1 = 6 ∧ ab_Run X k (pc + 3) bd L st (ab_wr σ a 3 z) Q := ab_r_putI rfl ho qF_1_22 (by decide) rfl rfl rfl (fun _ => rfl) hc hd
theorem qF_11_154 : ab_lk ab_pF (1000 * 11 + 154) = some (5, 3, 0) := by decide +kernel
theorem gF_11_154 (ho : ab_ow k = 11) (hc : ab_code k = cc) (hd : decode cc pc = .ok (.getfield 154, 3)) : ab_Run X k pc bd L (ab_R a :: st) σ Q ↔ (ab_sh σ a).1 = 6 ∧ ab_Run X k (pc + 3) bd L (ab_I (ab_rd σ a 3) :: st) σ Q := ab_r_getI rfl ho qF_11_154 (by decide) rfl rfl (fun _ => rfl) hc hd
theorem sF_11_154 (ho : ab_ow k = 11) (hc : ab_code k = cc) (hd : decode cc pc = .ok (.putfield 154, 3)) : ab_Run X k pc bd L (ab_I z :: ab_R a :: st) σ Q ↔ (ab_sh σ a).1 = 6 ∧ ab_Run X k (pc + 3) bd L st (ab_wr σ a 3 z) Q := ab_r_putI rfl ho qF_11_154 (by decide) rfl rfl rfl (fun _ => rfl) hc hd
theorem qF_7_226 : ab_lk ab_pF (1000 * 7 + 226) = some (5, 3, 0) := by decide +kernel
theorem gF_7_226 (ho : ab_ow k = 7) (hc : ab_code k = cc) (hd : decode cc pc = .ok (.getfield 226, 3)) : ab_Run X k pc bd L (ab_R a :: st) σ Q ↔ (ab_sh σ a).1 = 6 ∧ ab_Run X k (pc + 3) bd L (ab_I (ab_rd σ a 3) :: st) σ Q := ab_r_getI rfl ho qF_7_226 (by decide) rfl rfl (fun _ => rfl) hc hd
theorem sF_7_226 (ho : ab_ow k = 7) (hc : ab_code k = cc) (hd : decode cc pc = .ok (.putfield 226, 3)) : ab_Run X k pc bd L (ab_I z :: ab_R a :: st) σ Q ↔ (ab_sh σ a).1 = 6 ∧ ab_Run X k (pc + 3) bd L st (ab_wr σ a 3 z) Q := ab_r_putI rfl ho qF_7_226 (by decide) rfl rfl rfl (fun _ => rfl) hc hd
theorem qF_11_157 : ab_lk ab_pF (1000 * 11 + 157) = some (5, 4, 0) := by decide +kernel
theorem gF_11_157 (ho : ab_ow k = 11) (hc : ab_code k = cc) (hd : decode cc pc = .ok (.getfield 157, 3)) : ab_Run X k pc bd L (ab_R a :: st) σ Q ↔ (ab_sh σ a).1 = 6 ∧ ab_Run X k (pc + 3) bd L (ab_I (ab_rd σ a 4) :: st) σ Q := ab_r_getI rfl ho qF_11_157 (by decide) rfl rfl (fun _ => rfl) hc hd
theorem sF_11_157 (ho : ab_ow k = 11) (hc : ab_code k = cc) (hd : decode cc pc = .ok (.putfield 157, 3)) : ab_Run X k pc bd L (ab_I z :: ab_R a :: st) σ Q ↔ (ab_sh σ a).1 = 6 ∧ ab_Run X k (pc + 3) bd L st (ab_wr σ a 4 z) Q := ab_r_putI rfl ho qF_11_157 (by decide) rfl rfl rfl (fun _ => rfl) hc hd
theorem qF_7_230 : ab_lk ab_pF (1000 * 7 + 230) = some (5, 4, 0) := by decide +kernel
theorem gF_7_230 (ho : ab_ow k = 7) (hc : ab_code k = cc) (hd : decode cc pc = .ok (.getfield 230, 3)) : ab_Run X k pc bd L (ab_R a :: st) σ Q ↔ (ab_sh σ a).1 = 6 ∧ ab_Run X k (pc + 3) bd L (ab_I (ab_rd σ a 4) :: st) σ Q := ab_r_getI rfl ho qF_7_230 (by decide) rfl rfl (fun _ => rfl) hc hd
theorem sF_7_230 (ho : ab_ow k = 7) (hc : ab_code k = cc) (hd : decode cc pc = .ok (.putfield 230, 3)) : ab_Run X k pc bd L (ab_I z :: ab_R a :: st) σ Q ↔ (ab_sh σ a).1 = 6 ∧ ab_Run X k (pc + 3) bd L st (ab_wr σ a 4 z) Q := ab_r_putI rfl ho qF_7_230 (by decide) rfl rfl rfl (fun _ => rfl) hc hd
theorem qF_5_19 : ab_lk ab_pF (1000 * 5 + 19) = some (5, 5, 0) := by decide +kernel
theorem gF_5_19 (ho : ab_ow k = 5) (hc : ab_code k = cc) (hd : decode cc pc = .ok (.getfield 19, 3)) : ab_Run X k pc bd L (ab_R a :: st) σ Q ↔ (ab_sh σ a).1 = 6 ∧ ab_Run X k (pc + 3) bd L (ab_I (ab_rd σ a 5) :: st) σ Q := ab_r_getI rfl ho qF_5_19 (by decide) rfl rfl (fun _ => rfl) hc hd
theorem sF_5_19 (ho : ab_ow k = 5) (hc : ab_code k = cc) (hd : decode cc pc = .ok (.putfield 19, 3)) : ab_Run X k pc bd L (ab_I z :: ab_R a :: st) σ Q ↔ (ab_sh σ a).1 = 6 ∧ ab_Run X k (pc + 3) bd L st (ab_wr σ a 5 z) Q := ab_r_putI rfl ho qF_5_19 (by decide) rfl rfl rfl (fun _ => rfl) hc hd
theorem qF_7_232 : ab_lk ab_pF (1000 * 7 + 232) = some (5, 5, 0) := by decide +kernel
theorem gF_7_232 (ho : ab_ow k = 7) (hc : ab_code k = cc) (hd : decode cc pc = .ok (.getfield 232, 3)) : ab_Run X k pc bd L (ab_R a :: st) σ Q ↔ (ab_sh σ a).1 = 6 ∧ ab_Run X k (pc + 3) bd L (ab_I (ab_rd σ a 5) :: st) σ Q := ab_r_getI rfl ho qF_7_232 (by decide) rfl rfl (fun _ => rfl) hc hd
theorem sF_7_232 (ho : ab_ow k = 7) (hc : ab_code k = cc) (hd : decode cc pc = .ok (.putfield 232, 3)) : ab_Run X k pc bd L (ab_I z :: ab_R a :: st) σ Q ↔ (ab_sh σ a).1 = 6 ∧ ab_Run X k (pc + 3) bd L st (ab_wr σ a 5 z) Q := ab_r_putI rfl ho qF_7_232 (by decide) rfl rfl rfl (fun _ => rfl) hc hd
theorem qF_11_319 : ab_lk ab_pF (1000 * 11 + 319) = some (5, 5, 0) := by decide +kernel
theorem gF_11_319 (ho : ab_ow k = 11) (hc : ab_code k = cc) (hd : decode cc pc = .ok (.getfield 319, 3)) : ab_Run X k pc bd L (ab_R a :: st) σ Q ↔ (ab_sh σ a).1 = 6 ∧ ab_Run X k (pc + 3) bd L (ab_I (ab_rd σ a 5) :: st) σ Q := ab_r_getI rfl ho qF_11_319 (by decide) rfl rfl (fun _ => rfl) hc hd
theorem sF_11_319 (ho : ab_ow k = 11) (hc : ab_code k = cc) (hd : decode cc pc = .ok (.putfield 319, 3)) : ab_Run X k pc bd L (ab_I z :: ab_R a :: st) σ Q ↔ (ab_sh σ a).1 = 6 ∧ ab_Run X k (pc + 3) bd L st (ab_wr σ a 5 z) Q := ab_r_putI rfl ho qF_11_319 (by decide) rfl rfl rfl (fun _ => rfl) hc hd
theorem qF_5_22 : ab_lk ab_pF (1000 * 5 + 22) = some (5, 6, 0) := by decide +kernel
theorem gF_5_22 (ho : ab_ow k = 5) (hc : ab_code k = cc) (hd : decode cc pc = .ok (.getfield 22, 3)) : ab_Run X k pc bd L (ab_R a :: st) σ Q ↔ (ab_sh σ a).1 = 6 ∧ ab_Run X k (pc + 3) bd L (ab_I (ab_rd σ a 6) :: st) σ Q := ab_r_getI rfl ho qF_5_22 (by decide) rfl rfl (fun _ => rfl) hc hd
theorem sF_5_22 (ho : ab_ow k = 5) (hc : ab_code k = cc) (hd : decode cc pc = .ok (.putfield 22, 3)) : ab_Run X k pc bd L (ab_I z :: ab_R a :: st) σ Q ↔ (ab_sh σ a).1 = 6 ∧ ab_Run X k (pc + 3) bd L st (ab_wr σ a 6 z) Q := ab_r_putI rfl ho qF_5_22 (by decide) rfl rfl rfl (fun _ => rfl) hc hd
theorem qF_7_238 : ab_lk ab_pF (1000 * 7 + 238) = some (5, 6, 0) := by decide +kernel
theorem gF_7_238 (ho : ab_ow k = 7) (hc : ab_code k = cc) (hd : decode cc pc = .ok (.getfield 238, 3)) : ab_Run X k pc bd L (ab_R a :: st) σ Q ↔ (ab_sh σ a).1 = 6 ∧ ab_Run X k (pc + 3) bd L (ab_I (ab_rd σ a 6) :: st) σ Q := ab_r_getI rfl ho qF_7_238 (by decide) rfl rfl (fun _ => rfl) hc hd
theorem sF_7_238 (ho : ab_ow k = 7) (hc : ab_code k = cc) (hd : decode cc pc = .ok (.putfield 238, 3)) : ab_Run X k pc bd L (ab_I z :: ab_R a :: st) σ Q ↔ (ab_sh σ a).1 = 6 ∧ ab_Run X k (pc + 3) bd L st (ab_wr σ a 6 z) Q := ab_r_putI rfl ho qF_7_238 (by decide) rfl rfl rfl (fun _ => rfl) hc hd
theorem qF_5_25 : ab_lk ab_pF (1000 * 5 + 25) = some (5, 7, 0) := by decide +kernel
theorem gF_5_25 (ho : ab_ow k = 5) (hc : ab_code k = cc) (hd : decode cc pc = .ok (.getfield 25, 3)) : ab_Run X k pc bd L (ab_R a :: st) σ Q ↔ (ab_sh σ a).1 = 6 ∧ ab_Run X k (pc + 3) bd L (ab_I (ab_rd σ a 7) :: st) σ Q := ab_r_getI rfl ho qF_5_25 (by decide) rfl rfl (fun _ => rfl) hc hd
theorem sF_5_25 (ho : ab_ow k = 5) (hc : ab_code k = cc) (hd : decode cc pc = .ok (.putfield 25, 3)) : ab_Run X k pc bd L (ab_I z :: ab_R a :: st) σ Q ↔ (ab_sh σ a).1 = 6 ∧ ab_Run X k (pc + 3) bd L st (ab_wr σ a 7 z) Q := ab_r_putI rfl ho qF_5_25 (by decide) rfl rfl rfl (fun _ => rfl) hc hd
theorem qF_11_160 : ab_lk ab_pF (1000 * 11 + 160) = some (5, 7, 0) := by decide +kernel
theorem gF_11_160 (ho : ab_ow k = 11) (hc : ab_code k = cc) (hd : decode cc pc = .ok (.getfield 160, 3)) : ab_Run X k pc bd L (ab_R a :: st) σ Q ↔ (ab_sh σ a).1 = 6 ∧ ab_Run X k (pc + 3) bd L (ab_I (ab_rd σ a 7) :: st) σ Q := ab_r_getI rfl ho qF_11_160 (by decide) rfl rfl (fun _ => rfl) hc hd
theorem sF_11_160 (ho : ab_ow k = 11) (hc : ab_code k = cc) (hd : decode cc pc = .ok (.putfield 160, 3)) : ab_Run X k pc bd L (ab_I z :: ab_R a :: st) σ Q ↔ (ab_sh σ a).1 = 6 ∧ ab_Run X k (pc + 3) bd L st (ab_wr σ a 7 z) Q := ab_r_putI rfl ho qF_11_160 (by decide) rfl rfl rfl (fun _ => rfl) hc hd
theorem qF_7_241 : ab_lk ab_pF (1000 * 7 + 241) = some (5, 7, 0) := by decide +kernel
theorem gF_7_241 (ho : ab_ow k = 7) (hc : ab_code k = cc) (hd : decode cc pc = .ok (.getfield 241, 3)) : ab_Run X k pc bd L (ab_R a :: st) σ Q ↔ (ab_sh σ a).1 = 6 ∧ ab_Run X k (pc + 3) bd L (ab_I (ab_rd σ a 7) :: st) σ Q := ab_r_getI rfl ho qF_7_241 (by decide) rfl rfl (fun _ => rfl) hc hd
theorem sF_7_241 (ho : ab_ow k = 7) (hc : ab_code k = cc) (hd : decode cc pc = .ok (.putfield 241, 3)) : ab_Run X k pc bd L (ab_I z :: ab_R a :: st) σ Q ↔ (ab_sh σ a).1 = 6 ∧ ab_Run X k (pc + 3) bd L st (ab_wr σ a 7 z) Q := ab_r_putI rfl ho qF_7_241 (by decide) rfl rfl rfl (fun _ => rfl) hc hd
theorem qF_5_28 : ab_lk ab_pF (1000 * 5 + 28) = some (5, 8, 0) := by decide +kernel
theorem gF_5_28 (ho : ab_ow k = 5) (hc : ab_code k = cc) (hd : decode cc pc = .ok (.getfield 28, 3)) : ab_Run X k pc bd L (ab_R a :: st) σ Q ↔ (ab_sh σ a).1 = 6 ∧ ab_Run X k (pc + 3) bd L (ab_I (ab_rd σ a 8) :: st) σ Q := ab_r_getI rfl ho qF_5_28 (by decide) rfl rfl (fun _ => rfl) hc hd
theorem sF_5_28 (ho : ab_ow k = 5) (hc : ab_code k = cc) (hd : decode cc pc = .ok (.putfield 28, 3)) : ab_Run X k pc bd L (ab_I z :: ab_R a :: st) σ Q ↔ (ab_sh σ a).1 = 6 ∧ ab_Run X k (pc + 3) bd L st (ab_wr σ a 8 z) Q := ab_r_putI rfl ho qF_5_28 (by decide) rfl rfl rfl (fun _ => rfl) hc hd
theorem qF_11_163 : ab_lk ab_pF (1000 * 11 + 163) = some (5, 8, 0) := by decide +kernel
theorem gF_11_163 (ho : ab_ow k = 11) (hc : ab_code k = cc) (hd : decode cc pc = .ok (.getfield 163, 3)) : ab_Run X k pc bd L (ab_R a :: st) σ Q ↔ (ab_sh σ a).1 = 6 ∧ ab_Run X k (pc + 3) bd L (ab_I (ab_rd σ a 8) :: st) σ Q := ab_r_getI rfl ho qF_11_163 (by decide) rfl rfl (fun _ => rfl) hc hd
theorem sF_11_163 (ho : ab_ow k = 11) (hc : ab_code k = cc) (hd : decode cc pc = .ok (.putfield 163, 3)) : ab_Run X k pc bd L (ab_I z :: ab_R a :: st) σ Q ↔ (ab_sh σ a).1 = 6 ∧ ab_Run X k (pc + 3) bd L st (ab_wr σ a 8 z) Q := ab_r_putI rfl ho qF_11_163 (by decide) rfl rfl rfl (fun _ => rfl) hc hd
theorem qF_7_243 : ab_lk ab_pF (1000 * 7 + 243) = some (5, 8, 0) := by decide +kernel
theorem gF_7_243 (ho : ab_ow k = 7) (hc : ab_code k = cc) (hd : decode cc pc = .ok (.getfield 243, 3)) : ab_Run X k pc bd L (ab_R a :: st) σ Q ↔ (ab_sh σ a).1 = 6 ∧ ab_Run X k (pc + 3) bd L (ab_I (ab_rd σ a 8) :: st) σ Q := ab_r_getI rfl ho qF_7_243 (by decide) rfl rfl (fun _ => rfl) hc hd
theorem sF_7_243 (ho : ab_ow k = 7) (hc : ab_code k = cc) (hd : decode cc pc = .ok (.putfield 243, 3)) : ab_Run X k pc bd L (ab_I z :: ab_R a :: st) σ Q ↔ (ab_sh σ a).1 = 6 ∧ ab_Run X k (pc + 3) bd L st (ab_wr σ a 8 z) Q := ab_r_putI rfl ho qF_7_243 (by decide) rfl rfl rfl (fun _ => rfl) hc hd
theorem qF_5_9 : ab_lk ab_pF (1000 * 5 + 9) = some (5, 9, 0) := by decide +kernel
theorem gF_5_9 (ho : ab_ow k = 5) (hc : ab_code k = cc) (hd : decode cc pc = .ok (.getfield 9, 3)) : ab_Run X k pc bd L (ab_R a :: st) σ Q ↔ (ab_sh σ a).1 = 6 ∧ ab_Run X k (pc + 3) bd L (ab_I (ab_rd σ a 9) :: st) σ Q := ab_r_getI rfl ho qF_5_9 (by decide) rfl rfl (fun _ => rfl) hc hd
theorem sF_5_9 (ho : ab_ow k = 5) (hc : ab_code k = cc) (hd : decode cc pc = .ok (.putfield 9, 3)) : ab_Run X k pc bd L (ab_I z :: ab_R a :: st) σ Q ↔ (ab_sh σ a).1 = 6 ∧ ab_Run X k (pc + 3) bd L st (ab_wr σ a 9 z) Q := ab_r_putI rfl ho qF_5_9 (by decide) rfl rfl rfl (fun _ => rfl) hc hd
theorem qF_7_255 : ab_lk ab_pF (1000 * 7 + 255) = some (5, 9, 0) := by decide +kernel
theorem gF_7_255 (ho : ab_ow k = 7) (hc : ab_code k = cc) (hd : decode cc pc = .ok (.getfield 255, 3)) : ab_Run X k pc bd L (ab_R a :: st) σ Q ↔ (ab_sh σ a).1 = 6 ∧ ab_Run X k (pc + 3) bd L (ab_I (ab_rd σ a 9) :: st) σ Q := ab_r_getI rfl ho qF_7_255 (by decide) rfl rfl (fun _ => rfl) hc hd
theorem sF_7_255 (ho : ab_ow k = 7) (hc : ab_code k = cc) (hd : decode cc pc = .ok (.putfield 255, 3)) : ab_Run X k pc bd L (ab_I z :: ab_R a :: st) σ Q ↔ (ab_sh σ a).1 = 6 ∧ ab_Run X k (pc + 3) bd L st (ab_wr σ a 9 z) Q := ab_r_putI rfl ho qF_7_255 (by decide) rfl rfl rfl (fun _ => rfl) hc hd
theorem qF_11_297 : ab_lk ab_pF (1000 * 11 + 297) = some (5, 9, 0) := by decide +kernel
theorem gF_11_297 (ho : ab_ow k = 11) (hc : ab_code k = cc) (hd : decode cc pc = .ok (.getfield 297, 3)) : ab_Run X k pc bd L (ab_R a :: st) σ Q ↔ (ab_sh σ a).1 = 6 ∧ ab_Run X k (pc + 3) bd L (ab_I (ab_rd σ a 9) :: st) σ Q := ab_r_getI rfl ho qF_11_297 (by decide) rfl rfl (fun _ => rfl) hc hd
theorem sF_11_297 (ho : ab_ow k = 11) (hc : ab_code k = cc) (hd : decode cc pc = .ok (.putfield 297, 3)) : ab_Run X k pc bd L (ab_I z :: ab_R a :: st) σ Q ↔ (ab_sh σ a).1 = 6 ∧ ab_Run X k (pc + 3) bd L st (ab_wr σ a 9 z) Q := ab_r_putI rfl ho qF_11_297 (by decide) rfl rfl rfl (fun _ => rfl) hc hd
theorem qF_7_258 : ab_lk ab_pF (1000 * 7 + 258) = some (5, 10, 0) := by decide +kernel
theorem gF_7_258 (ho : ab_ow k = 7) (hc : ab_code k = cc) (hd : decode cc pc = .ok (.getfield 258, 3)) : ab_Run X k pc bd L (ab_R a :: st) σ Q ↔ (ab_sh σ a).1 = 6 ∧ ab_Run X k (pc + 3) bd L (ab_I (ab_rd σ a 10) :: st) σ Q := ab_r_getI rfl ho qF_7_258 (by decide) rfl rfl (fun _ => rfl) hc hd
theorem sF_7_258 (ho : ab_ow k = 7) (hc : ab_code k = cc) (hd : decode cc pc = .ok (.putfield 258, 3)) : ab_Run X k pc bd L (ab_I z :: ab_R a :: st) σ Q ↔ (ab_sh σ a).1 = 6 ∧ ab_Run X k (pc + 3) bd L st (ab_wr σ a 10 z) Q := ab_r_putI rfl ho qF_7_258 (by decide) rfl rfl rfl (fun _ => rfl) hc hd
theorem qF_11_300 : ab_lk ab_pF (1000 * 11 + 300) = some (5, 10, 0) := by decide +kernel
theorem gF_11_300 (ho : ab_ow k = 11) (hc : ab_code k = cc) (hd : decode cc pc = .ok (.getfield 300, 3)) : ab_Run X k pc bd L (ab_R a :: st) σ Q ↔ (ab_sh σ a).1 = 6 ∧ ab_Run X k (pc + 3) bd L (ab_I (ab_rd σ a 10) :: st) σ Q := ab_r_getI rfl ho qF_11_300 (by decide) rfl rfl (fun _ => rfl) hc hd
theorem sF_11_300 (ho : ab_ow k = 11) (hc : ab_code k = cc) (hd : decode cc pc = .ok (.putfield 300, 3)) : ab_Run X k pc bd L (ab_I z :: ab_R a :: st) σ Q ↔ (ab_sh σ a).1 = 6 ∧ ab_Run X k (pc + 3) bd L st (ab_wr σ a 10 z) Q := ab_r_putI rfl ho qF_11_300 (by decide) rfl rfl rfl (fun _ => rfl) hc hd
theorem qF_7_263 : ab_lk ab_pF (1000 * 7 + 263) = some (5, 11, 0) := by decide +kernel
theorem gF_7_263 (ho : ab_ow k = 7) (hc : ab_code k = cc) (hd : decode cc pc = .ok (.getfield 263, 3)) : ab_Run X k pc bd L (ab_R a :: st) σ Q ↔ (ab_sh σ a).1 = 6 ∧ ab_Run X k (pc + 3) bd L (ab_I (ab_rd σ a 11) :: st) σ Q := ab_r_getI rfl ho qF_7_263 (by decide) rfl rfl (fun _ => rfl) hc hd
theorem sF_7_263 (ho : ab_ow k = 7) (hc : ab_code k = cc) (hd : decode cc pc = .ok (.putfield 263, 3)) : ab_Run X k pc bd L (ab_I z :: ab_R a :: st) σ Q ↔ (ab_sh σ a).1 = 6 ∧ ab_Run X k (pc + 3) bd L st (ab_wr σ a 11 z) Q := ab_r_putI rfl ho qF_7_263 (by decide) rfl rfl rfl (fun _ => rfl) hc hd
theorem qF_11_307 : ab_lk ab_pF (1000 * 11 + 307) = some (5, 11, 0) := by decide +kernel
theorem gF_11_307 (ho : ab_ow k = 11) (hc : ab_code k = cc) (hd : decode cc pc = .ok (.getfield 307, 3)) : ab_Run X k pc bd L (ab_R a :: st) σ Q ↔ (ab_sh σ a).1 = 6 ∧ ab_Run X k (pc + 3) bd L (ab_I (ab_rd σ a 11) :: st) σ Q := ab_r_getI rfl ho qF_11_307 (by decide) rfl rfl (fun _ => rfl) hc hd
theorem sF_11_307 (ho : ab_ow k = 11) (hc : ab_code k = cc) (hd : decode cc pc = .ok (.putfield 307, 3)) : ab_Run X k pc bd L (ab_I z :: ab_R a :: st) σ Q ↔ (ab_sh σ a).1 = 6 ∧ ab_Run X k (pc + 3) bd L st (ab_wr σ a 11 z) Q := ab_r_putI rfl ho qF_11_307 (by decide) rfl rfl rfl (fun _ => rfl) hc hd
theorem qF_6_29 : ab_lk ab_pF (1000 * 6 + 29) = some (4, 0, 0) := by decide +kernel
theorem gF_6_29 (ho : ab_ow k = 6) (hc : ab_code k = cc) (hd : decode cc pc = .ok (.getfield 29, 3)) : ab_Run X k pc bd L (ab_R a :: st) σ Q ↔ (ab_sh σ a).1 = 5 ∧ ab_Run X k (pc + 3) bd L (ab_I (ab_rd σ a 0) :: st) σ Q := ab_r_getI rfl ho qF_6_29 (by decide) rfl rfl (fun _ => rfl) hc hd
theorem sF_6_29 (ho : ab_ow k = 6) (hc : ab_code k = cc) (hd : decode cc pc = .ok (.putfield 29, 3)) : ab_Run X k pc bd L (ab_I z :: ab_R a :: st) σ Q ↔ (ab_sh σ a).1 = 5 ∧ ab_Run X k (pc + 3) bd L st (ab_wr σ a 0 z) Q := ab_r_putI rfl ho qF_6_29 (by decide) rfl rfl rfl (fun _ => rfl) hc hd
theorem qF_7_127 : ab_lk ab_pF (1000 * 7 + 127) = some (4, 0, 0) := by decide +kernel
theorem gF_7_127 (ho : ab_ow k = 7) (hc : ab_code k = cc) (hd : decode cc pc = .ok (.getfield 127, 3)) : ab_Run X k pc bd L (ab_R a :: st) σ Q ↔ (ab_sh σ a).1 = 5 ∧ ab_Run X k (pc + 3) bd L (ab_I (ab_rd σ a 0) :: st) σ Q := ab_r_getI rfl ho qF_7_127 (by decide) rfl rfl (fun _ => rfl) hc hd
theorem sF_7_127 (ho : ab_ow k = 7) (hc : ab_code k = cc) (hd : decode cc pc = .ok (.putfield 127, 3)) : ab_Run X k pc bd L (ab_I z :: ab_R a :: st) σ Q ↔ (ab_sh σ a).1 = 5 ∧ ab_Run X k (pc + 3) bd L st (ab_wr σ a 0 z) Q := ab_r_putI rfl ho qF_7_127 (by decide) rfl rfl rfl (fun _ => rfl) hc hd
theorem qF_11_383 : ab_lk ab_pF (1000 * 11 + 383) = some (4, 0, 0) := by decide +kernel
theorem gF_11_383 (ho : ab_ow k = 11) (hc : ab_code k = cc) (hd : decode cc pc = .ok (.getfield 383, 3)) : ab_Run X k pc bd L (ab_R a :: st) σ Q ↔ (ab_sh σ a).1 = 5 ∧ ab_Run X k (pc + 3) bd L (ab_I (ab_rd σ a 0) :: st) σ Q := ab_r_getI rfl ho qF_11_383 (by decide) rfl rfl (fun _ => rfl) hc hd
theorem sF_11_383 (ho : ab_ow k = 11) (hc : ab_code k = cc) (hd : decode cc pc = .ok (.putfield 383, 3)) : ab_Run X k pc bd L (ab_I z :: ab_R a :: st) σ Q ↔ (ab_sh σ a).1 = 5 ∧ ab_Run X k (pc + 3) bd L st (ab_wr σ a 0 z) Q := ab_r_putI rfl ho qF_11_383 (by decide) rfl rfl rfl (fun _ => rfl) hc hd
theorem qF_6_38 : ab_lk ab_pF (1000 * 6 + 38) = some (4, 1, 0) := by decide +kernel
theorem gF_6_38 (ho : ab_ow k = 6) (hc : ab_code k = cc) (hd : decode cc pc = .ok (.getfield 38, 3)) : ab_Run X k pc bd L (ab_R a :: st) σ Q ↔ (ab_sh σ a).1 = 5 ∧ ab_Run X k (pc + 3) bd L (ab_I (ab_rd σ a 1) :: st) σ Q := ab_r_getI rfl ho qF_6_38 (by decide) rfl rfl (fun _ => rfl) hc hd
theorem sF_6_38 (ho : ab_ow k = 6) (hc : ab_code k = cc) (hd : decode cc pc = .ok (.putfield 38, 3)) : ab_Run X k pc bd L (ab_I z :: ab_R a :: st) σ Q ↔ (ab_sh σ a).1 = 5 ∧ ab_Run X k (pc + 3) bd L st (ab_wr σ a 1 z) Q := ab_r_putI rfl ho qF_6_38 (by decide) rfl rfl rfl (fun _ => rfl) hc hd
theorem qF_7_131 : ab_lk ab_pF (1000 * 7 + 131) = some (4, 1, 0) := by decide +kernel
theorem gF_7_131 (ho : ab_ow k = 7) (hc : ab_code k = cc) (hd : decode cc pc = .ok (.getfield 131, 3)) : ab_Run X k pc bd L (ab_R a :: st) σ Q ↔ (ab_sh σ a).1 = 5 ∧ ab_Run X k (pc + 3) bd L (ab_I (ab_rd σ a 1) :: st) σ Q := ab_r_getI rfl ho qF_7_131 (by decide) rfl rfl (fun _ => rfl) hc hd
theorem sF_7_131 (ho : ab_ow k = 7) (hc : ab_code k = cc) (hd : decode cc pc = .ok (.putfield 131, 3)) : ab_Run X k pc bd L (ab_I z :: ab_R a :: st) σ Q ↔ (ab_sh σ a).1 = 5 ∧ ab_Run X k (pc + 3) bd L st (ab_wr σ a 1 z) Q := ab_r_putI rfl ho qF_7_131 (by decide) rfl rfl rfl (fun _ => rfl) hc hd
theorem qF_11_386 : ab_lk ab_pF (1000 * 11 + 386) = some (4, 1, 0) := by decide +kernel
theorem gF_11_386 (ho : ab_ow k = 11) (hc : ab_code k = cc) (hd : decode cc pc = .ok (.getfield 386, 3)) : ab_Run X k pc bd L (ab_R a :: st) σ Q ↔ (ab_sh σ a).1 = 5 ∧ ab_Run X k (pc + 3) bd L (ab_I (ab_rd σ a 1) :: st) σ Q := ab_r_getI rfl ho qF_11_386 (by decide) rfl rfl (fun _ => rfl) hc hd
theorem sF_11_386 (ho : ab_ow k = 11) (hc : ab_code k = cc) (hd : decode cc pc = .ok (.putfield 386, 3)) : ab_Run X k pc bd L (ab_I z :: ab_R a :: st) σ Q ↔ (ab_sh σ a).1 = 5 ∧ ab_Run X k (pc + 3) bd L st (ab_wr σ a 1 z) Q := ab_r_putI rfl ho qF_11_386 (by decide) rfl rfl rfl (fun _ => rfl) hc hd
theorem qF_6_44 : ab_lk ab_pF (1000 * 6 + 44) = some (4, 2, 0) := by decide +kernel
theorem gF_6_44 (ho : ab_ow k = 6) (hc : ab_code k = cc) (hd : decode cc pc = .ok (.getfield 44, 3)) : ab_Run X k pc bd L (ab_R a :: st) σ Q ↔ (ab_sh σ a).1 = 5 ∧ ab_Run X k (pc + 3) bd L (ab_I (ab_rd σ a 2) :: st) σ Q := ab_r_getI rfl ho qF_6_44 (by decide) rfl rfl (fun _ => rfl) hc hd
theorem sF_6_44 (ho : ab_ow k = 6) (hc : ab_code k = cc) (hd : decode cc pc = .ok (.putfield 44, 3)) : ab_Run X k pc bd L (ab_I z :: ab_R a :: st) σ Q ↔ (ab_sh σ a).1 = 5 ∧ ab_Run X k (pc + 3) bd L st (ab_wr σ a 2 z) Q := ab_r_putI rfl ho qF_6_44 (by decide) rfl rfl rfl (fun _ => rfl) hc hd
theorem qF_7_135 : ab_lk ab_pF (1000 * 7 + 135) = some (4, 2, 0) := by decide +kernel
theorem gF_7_135 (ho : ab_ow k = 7) (hc : ab_code k = cc) (hd : decode cc pc = .ok (.getfield 135, 3)) : ab_Run X k pc bd L (ab_R a :: st) σ Q ↔ (ab_sh σ a).1 = 5 ∧ ab_Run X k (pc + 3) bd L (ab_I (ab_rd σ a 2) :: st) σ Q := ab_r_getI rfl ho qF_7_135 (by decide) rfl rfl (fun _ => rfl) hc hd
theorem sF_7_135 (ho : ab_ow k = 7) (hc : ab_code k = cc) (hd : decode cc pc = .ok (.putfield 135, 3)) : ab_Run X k pc bd L (ab_I z :: ab_R a :: st) σ Q ↔ (ab_sh σ a).1 = 5 ∧ ab_Run X k (pc + 3) bd L st (ab_wr σ a 2 z) Q := ab_r_putI rfl ho qF_7_135 (by decide) rfl rfl rfl (fun _ => rfl) hc hd
theorem qF_11_389 : ab_lk ab_pF (1000 * 11 + 389) = some (4, 2, 0) := by decide +kernel
theorem gF_11_389 (ho : ab_ow k = 11) (hc : ab_code k = cc) (hd : decode cc pc = .ok (.getfield 389, 3)) : ab_Run X k pc bd L (ab_R a :: st) σ Q ↔ (ab_sh σ a).1 = 5 ∧ ab_Run X k (pc + 3) bd L (ab_I (ab_rd σ a 2) :: st) σ Q := ab_r_getI rfl ho qF_11_389 (by decide) rfl rfl (fun _ => rfl) hc hd
theorem sF_11_389 (ho : ab_ow k = 11) (hc : ab_code k = cc) (hd : decode cc pc = .ok (.putfield 389, 3)) : ab_Run X k pc bd L (ab_I z :: ab_R a :: st) σ Q ↔ (ab_sh σ a).1 = 5 ∧ ab_Run X k (pc + 3) bd L st (ab_wr σ a 2 z) Q := ab_r_putI rfl ho qF_11_389 (by decide) rfl rfl rfl (fun _ => rfl) hc hd
theorem qF_6_48 : ab_lk ab_pF (1000 * 6 + 48) = some (4, 3, 0) := by decide +kernel
theorem gF_6_48 (ho : ab_ow k = 6) (hc : ab_code k = cc) (hd : decode cc pc = .ok (.getfield 48, 3)) : ab_Run X k pc bd L (ab_R a :: st) σ Q ↔ (ab_sh σ a).1 = 5 ∧ ab_Run X k (pc + 3) bd L (ab_I (ab_rd σ a 3) :: st) σ Q := ab_r_getI rfl ho qF_6_48 (by decide) rfl rfl (fun _ => rfl) hc hd
theorem sF_6_48 (ho : ab_ow k = 6) (hc : ab_code k = cc) (hd : decode cc pc = .ok (.putfield 48, 3)) : ab_Run X k pc bd L (ab_I z :: ab_R a :: st) σ Q ↔ (ab_sh σ a).1 = 5 ∧ ab_Run X k (pc + 3) bd L st (ab_wr σ a 3 z) Q := ab_r_putI rfl ho qF_6_48 (by decide) rfl rfl rfl (fun _ => rfl) hc hd
theorem qF_7_139 : ab_lk ab_pF (1000 * 7 + 139) = some (4, 3, 0) := by decide +kernel
theorem gF_7_139 (ho : ab_ow k = 7) (hc : ab_code k = cc) (hd : decode cc pc = .ok (.getfield 139, 3)) : ab_Run X k pc bd L (ab_R a :: st) σ Q ↔ (ab_sh σ a).1 = 5 ∧ ab_Run X k (pc + 3) bd L (ab_I (ab_rd σ a 3) :: st) σ Q := ab_r_getI rfl ho qF_7_139 (by decide) rfl rfl (fun _ => rfl) hc hd
theorem sF_7_139 (ho : ab_ow k = 7) (hc : ab_code k = cc) (hd : decode cc pc = .ok (.putfield 139, 3)) : ab_Run X k pc bd L (ab_I z :: ab_R a :: st) σ Q ↔ (ab_sh σ a).1 = 5 ∧ ab_Run X k (pc + 3) bd L st (ab_wr σ a 3 z) Q := ab_r_putI rfl ho qF_7_139 (by decide) rfl rfl rfl (fun _ => rfl) hc hd
theorem qF_11_392 : ab_lk ab_pF (1000 * 11 + 392) = some (4, 3, 0) := by decide +kernel
theorem gF_11_392 (ho : ab_ow k = 11) (hc : ab_code k = cc) (hd : decode cc pc = .ok (.getfield 392, 3)) : ab_Run X k pc bd L (ab_R a :: st) σ Q ↔ (ab_sh σ a).1 = 5 ∧ ab_Run X k (pc + 3) bd L (ab_I (ab_rd σ a 3) :: st) σ Q := ab_r_getI rfl ho qF_11_392 (by decide) rfl rfl (fun _ => rfl) hc hd
theorem sF_11_392 (ho : ab_ow k = 11) (hc : ab_code k = cc) (hd : decode cc pc = .ok (.putfield 392, 3)) : ab_Run X k pc bd L (ab_I z :: ab_R a :: st) σ Q ↔ (ab_sh σ a).1 = 5 ∧ ab_Run X k (pc + 3) bd L st (ab_wr σ a 3 z) Q := ab_r_putI rfl ho qF_11_392 (by decide) rfl rfl rfl (fun _ => rfl) hc hd
theorem qF_6_52 : ab_lk ab_pF (1000 * 6 + 52) = some (4, 4, 0) := by decide +kernel
theorem gF_6_52 (ho : ab_ow k = 6) (hc : ab_code k = cc) (hd : decode cc pc = .ok (.getfield 52, 3)) : ab_Run X k pc bd L (ab_R a :: st) σ Q ↔ (ab_sh σ a).1 = 5 ∧ ab_Run X k (pc + 3) bd L (ab_I (ab_rd σ a 4) :: st) σ Q := ab_r_getI rfl ho qF_6_52 (by decide) rfl rfl (fun _ => rfl) hc hd
theorem sF_6_52 (ho : ab_ow k = 6) (hc : ab_code k = cc) (hd : decode cc pc = .ok (.putfield 52, 3)) : ab_Run X k pc bd L (ab_I z :: ab_R a :: st) σ Q ↔ (ab_sh σ a).1 = 5 ∧ ab_Run X k (pc + 3) bd L st (ab_wr σ a 4 z) Q := ab_r_putI rfl ho qF_6_52 (by decide) rfl rfl rfl (fun _ => rfl) hc hd
theorem qF_7_143 : ab_lk ab_pF (1000 * 7 + 143) = some (4, 4, 0) := by decide +kernel
theorem gF_7_143 (ho : ab_ow k = 7) (hc : ab_code k = cc) (hd : decode cc pc = .ok (.getfield 143, 3)) : ab_Run X k pc bd L (ab_R a :: st) σ Q ↔ (ab_sh σ a).1 = 5 ∧ ab_Run X k (pc + 3) bd L (ab_I (ab_rd σ a 4) :: st) σ Q := ab_r_getI rfl ho qF_7_143 (by decide) rfl rfl (fun _ => rfl) hc hd
theorem sF_7_143 (ho : ab_ow k = 7) (hc : ab_code k = cc) (hd : decode cc pc = .ok (.putfield 143, 3)) : ab_Run X k pc bd L (ab_I z :: ab_R a :: st) σ Q ↔ (ab_sh σ a).1 = 5 ∧ ab_Run X k (pc + 3) bd L st (ab_wr σ a 4 z) Q := ab_r_putI rfl ho qF_7_143 (by decide) rfl rfl rfl (fun _ => rfl) hc hd
theorem qF_11_341 : ab_lk ab_pF (1000 * 11 + 341) = some (4, 4, 0) := by decide +kernel
theorem gF_11_341 (ho : ab_ow k = 11) (hc : ab_code k = cc) (hd : decode cc pc = .ok (.getfield 341, 3)) : ab_Run X k pc bd L (ab_R a :: st) σ Q ↔ (ab_sh σ a).1 = 5 ∧ ab_Run X k (pc + 3) bd L (ab_I (ab_rd σ a 4) :: st) σ Q := ab_r_getI rfl ho qF_11_341 (by decide) rfl rfl (fun _ => rfl) hc hd
theorem sF_11_341 (ho : ab_ow k = 11) (hc : ab_code k = cc) (hd : decode cc pc = .ok (.putfield 341, 3)) : ab_Run X k pc bd L (ab_I z :: ab_R a :: st) σ Q ↔ (ab_sh σ a).1 = 5 ∧ ab_Run X k (pc + 3) bd L st (ab_wr σ a 4 z) Q := ab_r_putI rfl ho qF_11_341 (by decide) rfl rfl rfl (fun _ => rfl) hc hd
theorem qF_4_32 : ab_lk ab_pF (1000 * 4 + 32) = some (4, 5, 0) := by decide +kernel
theorem gF_4_32 (ho : ab_ow k = 4) (hc : ab_code k = cc) (hd : decode cc pc = .ok (.getfield 32, 3)) : ab_Run X k pc bd L (ab_R a :: st) σ Q ↔ (ab_sh σ a).1 = 5 ∧ ab_Run X k (pc + 3) bd L (ab_I (ab_rd σ a 5) :: st) σ Q := ab_r_getI rfl ho qF_4_32 (by decide) rfl rfl (fun _ => rfl) hc hd
theorem sF_4_32 (ho : ab_ow k = 4) (hc : ab_code k = cc) (hd : decode cc pc = .ok (.putfield 32, 3)) : ab_Run X k pc bd L (ab_I z :: ab_R a :: st) σ Q ↔ (ab_sh σ a).1 = 5 ∧ ab_Run X k (pc + 3) bd L st (ab_wr σ a 5 z) Q := ab_r_putI rfl ho qF_4_32 (by decide) rfl rfl rfl (fun _ => rfl) hc hd
theorem qF_7_50 : ab_lk ab_pF (1000 * 7 + 50) = some (4, 5, 0) := by decide +kernel
theorem gF_7_50 (ho : ab_ow k = 7) (hc : ab_code k = cc) (hd : decode cc pc = .ok (.getfield 50, 3)) : ab_Run X k pc bd L (ab_R a :: st) σ Q ↔ (ab_sh σ a).1 = 5 ∧ ab_Run X k (pc + 3) bd L (ab_I (ab_rd σ a 5) :: st) σ Q := ab_r_getI rfl ho qF_7_50 (by decide) rfl rfl (fun _ => rfl) hc hd
theorem sF_7_50 (ho : ab_ow k = 7) (hc : ab_code k = cc) (hd : decode cc pc = .ok (.putfield 50, 3)) : ab_Run X k pc bd L (ab_I z :: ab_R a :: st) σ Q ↔ (ab_sh σ a).1 = 5 ∧ ab_Run X k (pc + 3) bd L st (ab_wr σ a 5 z) Q := ab_r_putI rfl ho qF_7_50 (by decide) rfl rfl rfl (fun _ => rfl) hc hd
theorem qF_11_100 : ab_lk ab_pF (1000 * 11 + 100) = some (4, 5, 0) := by decide +kernel
theorem gF_11_100 (ho : ab_ow k = 11) (hc : ab_code k = cc) (hd : decode cc pc = .ok (.getfield 100, 3)) : ab_Run X k pc bd L (ab_R a :: st) σ Q ↔ (ab_sh σ a).1 = 5 ∧ ab_Run X k (pc + 3) bd L (ab_I (ab_rd σ a 5) :: st) σ Q := ab_r_getI rfl ho qF_11_100 (by decide) rfl rfl (fun _ => rfl) hc hd
theorem sF_11_100 (ho : ab_ow k = 11) (hc : ab_code k = cc) (hd : decode cc pc = .ok (.putfield 100, 3)) : ab_Run X k pc bd L (ab_I z :: ab_R a :: st) σ Q ↔ (ab_sh σ a).1 = 5 ∧ ab_Run X k (pc + 3) bd L st (ab_wr σ a 5 z) Q := ab_r_putI rfl ho qF_11_100 (by decide) rfl rfl rfl (fun _ => rfl) hc hd
theorem qF_4_11 : ab_lk ab_pF (1000 * 4 + 11) = some (4, 6, 0) := by decide +kernel
theorem gF_4_11 (ho : ab_ow k = 4) (hc : ab_code k = cc) (hd : decode cc pc = .ok (.getfield 11, 3)) : ab_Run X k pc bd L (ab_R a :: st) σ Q ↔ (ab_sh σ a).1 = 5 ∧ ab_Run X k (pc + 3) bd L (ab_R (ab_rd σ a 6) :: st) σ Q := ab_r_getR rfl ho qF_4_11 (by decide) rfl rfl (fun _ => rfl) hc hd
theorem qF_8_25 : ab_lk ab_pF (1000 * 8 + 25) = some (4, 6, 0) := by decide +kernel
theorem gF_8_25 (ho : ab_ow k = 8) (hc : ab_code k = cc) (hd : decode cc pc = .ok (.getfield 25, 3)) : ab_Run X k pc bd L (ab_R a :: st) σ Q ↔ (ab_sh σ a).1 = 5 ∧ ab_Run X k (pc + 3) bd L (ab_R (ab_rd σ a 6) :: st) σ Q := ab_r_getR rfl ho qF_8_25 (by decide) rfl rfl (fun _ => rfl) hc hd
theorem qF_11_118 : ab_lk ab_pF (1000 * 11 + 118) = some (4, 6, 0) := by decide +kernel
theorem gF_11_118 (ho : ab_ow k = 11) (hc : ab_code k = cc) (hd : decode cc pc = .ok (.getfield 118, 3)) : ab_Run X k pc bd L (ab_R a :: st) σ Q ↔ (ab_sh σ a).1 = 5 ∧ ab_Run X k (pc + 3) bd L (ab_R (ab_rd σ a 6) :: st) σ Q := ab_r_getR rfl ho qF_11_118 (by decide) rfl rfl (fun _ => rfl) hc hd
theorem qF_7_145 : ab_lk ab_pF (1000 * 7 + 145) = some (4, 6, 0) := by decide +kernel
theorem gF_7_145 (ho : ab_ow k = 7) (hc : ab_code k = cc) (hd : decode cc pc = .ok (.getfield 145, 3)) : ab_Run X k pc bd L (ab_R a :: st) σ Q ↔ (ab_sh σ a).1 = 5 ∧ ab_Run X k (pc + 3) bd L (ab_R (ab_rd σ a 6) :: st) σ Q := ab_r_getR rfl ho qF_7_145 (by decide) rfl rfl (fun _ => rfl) hc hd
theorem qF_4_36 : ab_lk ab_pF (1000 * 4 + 36) = some (4, 7, 0) := by decide +kernel
theorem gF_4_36 (ho : ab_ow k = 4) (hc : ab_code k = cc) (hd : decode cc pc = .ok (.getfield 36, 3)) : ab_Run X k pc bd L (ab_R a :: st) σ Q ↔ (ab_sh σ a).1 = 5 ∧ ab_Run X k (pc + 3) bd L (ab_I (ab_rd σ a 7) :: st) σ Q := ab_r_getI rfl ho qF_4_36 (by decide) rfl rfl (fun _ => rfl) hc hd
theorem sF_4_36 (ho : ab_ow k = 4) (hc : ab_code k = cc) (hd : decode cc pc = .ok (.putfield 36, 3)) : ab_Run X k pc bd L (ab_I z :: ab_R a :: st) σ Q ↔ (ab_sh σ a).1 = 5 ∧ ab_Run X k (pc + 3) bd L st (ab_wr σ a 7 z) Q := ab_r_putI rfl ho qF_4_36 (by decide) rfl rfl rfl (fun _ => rfl) hc hd
theorem qF_7_53 : ab_lk ab_pF (1000 * 7 + 53) = some (4, 7, 0) := by decide +kernel
theorem gF_7_53 (ho : ab_ow k = 7) (hc : ab_code k = cc) (hd : decode cc pc = .ok (.getfield 53, 3)) : ab_Run X k pc bd L (ab_R a :: st) σ Q ↔ (ab_sh σ a).1 = 5 ∧ ab_Run X k (pc + 3) bd L (ab_I (ab_rd σ a 7) :: st) σ Q := ab_r_getI rfl ho qF_7_53 (by decide) rfl rfl (fun _ => rfl) hc hd
theorem sF_7_53 (ho : ab_ow k = 7) (hc : ab_code k = cc) (hd : decode cc pc = .ok (.putfield 53, 3)) : ab_Run X k pc bd L (ab_I z :: ab_R a :: st) σ Q ↔ (ab_sh σ a).1 = 5 ∧ ab_Run X k (pc + 3) bd L st (ab_wr σ a 7 z) Q := ab_r_putI rfl ho qF_7_53 (by decide) rfl rfl rfl (fun _ => rfl) hc hd
theorem qF_11_270 : ab_lk ab_pF (1000 * 11 + 270) = some (4, 7, 0) := by decide +kernel
theorem gF_11_270 (ho : ab_ow k = 11) (hc : ab_code k = cc) (hd : decode cc pc = .ok (.getfield 270, 3)) : ab_Run X k pc bd L (ab_R a :: st) σ Q ↔ (ab_sh σ a).1 = 5 ∧ ab_Run X k (pc + 3) bd L (ab_I (ab_rd σ a 7) :: st) σ Q := ab_r_getI rfl ho qF_11_270 (by decide) rfl rfl (fun _ => rfl) hc hd
theorem sF_11_270 (ho : ab_ow k = 11) (hc : ab_code k = cc) (hd : decode cc pc = .ok (.putfield 270, 3)) : ab_Run X k pc bd L (ab_I z :: ab_R a :: st) σ Q ↔ (ab_sh σ a).1 = 5 ∧ ab_Run X k (pc + 3) bd L st (ab_wr σ a 7 z) Q := ab_r_putI rfl ho qF_11_270 (by decide) rfl rfl rfl (fun _ => rfl) hc hd
theorem qF_4_19 : ab_lk ab_pF (1000 * 4 + 19) = some (4, 8, 0) := by decide +kernel
theorem gF_4_19 (ho : ab_ow k = 4) (hc : ab_code k = cc) (hd : decode cc pc = .ok (.getfield 19, 3)) : ab_Run X k pc bd L (ab_R a :: st) σ Q ↔ (ab_sh σ a).1 = 5 ∧ ab_Run X k (pc + 3) bd L (ab_R (ab_rd σ a 8) :: st) σ Q := ab_r_getR rfl ho qF_4_19 (by decide) rfl rfl (fun _ => rfl) hc hd
theorem qF_11_142 : ab_lk ab_pF (1000 * 11 + 142) = some (4, 8, 0) := by decide +kernel
theorem gF_11_142 (ho : ab_ow k = 11) (hc : ab_code k = cc) (hd : decode cc pc = .ok (.getfield 142, 3)) : ab_Run X k pc bd L (ab_R a :: st) σ Q ↔ (ab_sh σ a).1 = 5 ∧ ab_Run X k (pc + 3) bd L (ab_R (ab_rd σ a 8) :: st) σ Q := ab_r_getR rfl ho qF_11_142 (by decide) rfl rfl (fun _ => rfl) hc hd
theorem qF_7_201 : ab_lk ab_pF (1000 * 7 + 201) = some (4, 8, 0) := by decide +kernel
theorem gF_7_201 (ho : ab_ow k = 7) (hc : ab_code k = cc) (hd : decode cc pc = .ok (.getfield 201, 3)) : ab_Run X k pc bd L (ab_R a :: st) σ Q ↔ (ab_sh σ a).1 = 5 ∧ ab_Run X k (pc + 3) bd L (ab_R (ab_rd σ a 8) :: st) σ Q := ab_r_getR rfl ho qF_7_201 (by decide) rfl rfl (fun _ => rfl) hc hd
theorem qF_4_39 : ab_lk ab_pF (1000 * 4 + 39) = some (4, 9, 0) := by decide +kernel
theorem gF_4_39 (ho : ab_ow k = 4) (hc : ab_code k = cc) (hd : decode cc pc = .ok (.getfield 39, 3)) : ab_Run X k pc bd L (ab_R a :: st) σ Q ↔ (ab_sh σ a).1 = 5 ∧ ab_Run X k (pc + 3) bd L (ab_I (ab_rd σ a 9) :: st) σ Q := ab_r_getI rfl ho qF_4_39 (by decide) rfl rfl (fun _ => rfl) hc hd
theorem sF_4_39 (ho : ab_ow k = 4) (hc : ab_code k = cc) (hd : decode cc pc = .ok (.putfield 39, 3)) : ab_Run X k pc bd L (ab_I z :: ab_R a :: st) σ Q ↔ (ab_sh σ a).1 = 5 ∧ ab_Run X k (pc + 3) bd L st (ab_wr σ a 9 z) Q := ab_r_putI rfl ho qF_4_39 (by decide) rfl rfl rfl (fun _ => rfl) hc hd
theorem qF_7_91 : ab_lk ab_pF (1000 * 7 + 91) = some (4, 9, 0) := by decide +kernel
theorem gF_7_91 (ho : ab_ow k = 7) (hc : ab_code k = cc) (hd : decode cc pc = .ok (.getfield 91, 3)) : ab_Run X k pc bd L (ab_R a :: st) σ Q ↔ (ab_sh σ a).1 = 5 ∧ ab_Run X k (pc + 3) bd L (ab_I (ab_rd σ a 9) :: st) σ Q := ab_r_getI rfl ho qF_7_91 (by decide) rfl rfl (fun _ => rfl) hc hd
theorem sF_7_91 (ho : ab_ow k = 7) (hc : ab_code k = cc) (hd : decode cc pc = .ok (.putfield 91, 3)) : ab_Run X k pc bd L (ab_I z :: ab_R a :: st) σ Q ↔ (ab_sh σ a).1 = 5 ∧ ab_Run X k (pc + 3) bd L st (ab_wr σ a 9 z) Q := ab_r_putI rfl ho qF_7_91 (by decide) rfl rfl rfl (fun _ => rfl) hc hd
theorem qF_11_395 : ab_lk ab_pF (1000 * 11 + 395) = some (4, 9, 0) := by decide +kernel
theorem gF_11_395 (ho : ab_ow k = 11) (hc : ab_code k = cc) (hd : decode cc pc = .ok (.getfield 395, 3)) : ab_Run X k pc bd L (ab_R a :: st) σ Q ↔ (ab_sh σ a).1 = 5 ∧ ab_Run X k (pc + 3) bd L (ab_I (ab_rd σ a 9) :: st) σ Q := ab_r_getI rfl ho qF_11_395 (by decide) rfl rfl (fun _ => rfl) hc hd
theorem sF_11_395 (ho : ab_ow k = 11) (hc : ab_code k = cc) (hd : decode cc pc = .ok (.putfield 395, 3)) : ab_Run X k pc bd L (ab_I z :: ab_R a :: st) σ Q ↔ (ab_sh σ a).1 = 5 ∧ ab_Run X k (pc + 3) bd L st (ab_wr σ a 9 z) Q := ab_r_putI rfl ho qF_11_395 (by decide) rfl rfl rfl (fun _ => rfl) hc hd
theorem qF_4_42 : ab_lk ab_pF (1000 * 4 + 42) = some (4, 10, 0) := by decide +kernel
theorem gF_4_42 (ho : ab_ow k = 4) (hc : ab_code k = cc) (hd : decode cc pc = .ok (.getfield 42, 3)) : ab_Run X k pc bd L (ab_R a :: st) σ Q ↔ (ab_sh σ a).1 = 5 ∧ ab_Run X k (pc + 3) bd L (ab_I (ab_rd σ a 10) :: st) σ Q := ab_r_getI rfl ho qF_4_42 (by decide) rfl rfl (fun _ => rfl) hc hd
theorem sF_4_42 (ho : ab_ow k = 4) (hc : ab_code k = cc) (hd : decode cc pc = .ok (.putfield 42, 3)) : ab_Run X k pc bd L (ab_I z :: ab_R a :: st) σ Q ↔ (ab_sh σ a).1 = 5 ∧ ab_Run X k (pc + 3) bd L st (ab_wr σ a 10 z) Q := ab_r_putI rfl ho qF_4_42 (by decide) rfl rfl rfl (fun _ => rfl) hc hd
theorem qF_7_99 : ab_lk ab_pF (1000 * 7 + 99) = some (4, 10, 0) := by decide +kernel
theorem gF_7_99 (ho : ab_ow k = 7) (hc : ab_code k = cc) (hd : decode cc pc = .ok (.getfield 99, 3)) : ab_Run X k pc bd L (ab_R a :: st) σ Q ↔ (ab_sh σ a).1 = 5 ∧ ab_Run X k (pc + 3) bd L (ab_I (ab_rd σ a 10) :: st) σ Q := ab_r_getI rfl ho qF_7_99 (by decide) rfl rfl (fun _ => rfl) hc hd
theorem sF_7_99 (ho : ab_ow k = 7) (hc : ab_code k = cc) (hd : decode cc pc = .ok (.putfield 99, 3)) : ab_Run X k pc bd L (ab_I z :: ab_R a :: st) σ Q ↔ (ab_sh σ a).1 = 5 ∧ ab_Run X k (pc + 3) bd L st (ab_wr σ a 10 z) Q := ab_r_putI rfl ho qF_7_99 (by decide) rfl rfl rfl (fun _ => rfl) hc hd
theorem qF_11_288 : ab_lk ab_pF (1000 * 11 + 288) = some (4, 10, 0) := by decide +kernel
theorem gF_11_288 (ho : ab_ow k = 11) (hc : ab_code k = cc) (hd : decode cc pc = .ok (.getfield 288, 3)) : ab_Run X k pc bd L (ab_R a :: st) σ Q ↔ (ab_sh σ a).1 = 5 ∧ ab_Run X k (pc + 3) bd L (ab_I (ab_rd σ a 10) :: st) σ Q := ab_r_getI rfl ho qF_11_288 (by decide) rfl rfl (fun _ => rfl) hc hd
theorem sF_11_288 (ho : ab_ow k = 11) (hc : ab_code k = cc) (hd : decode cc pc = .ok (.putfield 288, 3)) : ab_Run X k pc bd L (ab_I z :: ab_R a :: st) σ Q ↔ (ab_sh σ a).1 = 5 ∧ ab_Run X k (pc + 3) bd L st (ab_wr σ a 10 z) Q := ab_r_putI rfl ho qF_11_288 (by decide) rfl rfl rfl (fun _ => rfl) hc hd
theorem qF_4_45 : ab_lk ab_pF (1000 * 4 + 45) = some (4, 11, 0) := by decide +kernel
theorem gF_4_45 (ho : ab_ow k = 4) (hc : ab_code k = cc) (hd : decode cc pc = .ok (.getfield 45, 3)) : ab_Run X k pc bd L (ab_R a :: st) σ Q ↔ (ab_sh σ a).1 = 5 ∧ ab_Run X k (pc + 3) bd L (ab_I (ab_rd σ a 11) :: st) σ Q := ab_r_getI rfl ho qF_4_45 (by decide) rfl rfl (fun _ => rfl) hc hd
theorem sF_4_45 (ho : ab_ow k = 4) (hc : ab_code k = cc) (hd : decode cc pc = .ok (.putfield 45, 3)) : ab_Run X k pc bd L (ab_I z :: ab_R a :: st) σ Q ↔ (ab_sh σ a).1 = 5 ∧ ab_Run X k (pc + 3) bd L st (ab_wr σ a 11 z) Q := ab_r_putI rfl ho qF_4_45 (by decide) rfl rfl rfl (fun _ => rfl) hc hd
theorem qF_7_246 : ab_lk ab_pF (1000 * 7 + 246) = some (4, 11, 0) := by decide +kernel
theorem gF_7_246 (ho : ab_ow k = 7) (hc : ab_code k = cc) (hd : decode cc pc = .ok (.getfield 246, 3)) : ab_Run X k pc bd L (ab_R a :: st) σ Q ↔ (ab_sh σ a).1 = 5 ∧ ab_Run X k (pc + 3) bd L (ab_I (ab_rd σ a 11) :: st) σ Q := ab_r_getI rfl ho qF_7_246 (by decide) rfl rfl (fun _ => rfl) hc hd
theorem sF_7_246 (ho : ab_ow k = 7) (hc : ab_code k = cc) (hd : decode cc pc = .ok (.putfield 246, 3)) : ab_Run X k pc bd L (ab_I z :: ab_R a :: st) σ Q ↔ (ab_sh σ a).1 = 5 ∧ ab_Run X k (pc + 3) bd L st (ab_wr σ a 11 z) Q := ab_r_putI rfl ho qF_7_246 (by decide) rfl rfl rfl (fun _ => rfl) hc hd
theorem qF_11_291 : ab_lk ab_pF (1000 * 11 + 291) = some (4, 11, 0) := by decide +kernel
theorem gF_11_291 (ho : ab_ow k = 11) (hc : ab_code k = cc) (hd : decode cc pc = .ok (.getfield 291, 3)) : ab_Run X k pc bd L (ab_R a :: st) σ Q ↔ (ab_sh σ a).1 = 5 ∧ ab_Run X k (pc + 3) bd L (ab_I (ab_rd σ a 11) :: st) σ Q := ab_r_getI rfl ho qF_11_291 (by decide) rfl rfl (fun _ => rfl) hc hd
theorem sF_11_291 (ho : ab_ow k = 11) (hc : ab_code k = cc) (hd : decode cc pc = .ok (.putfield 291, 3)) : ab_Run X k pc bd L (ab_I z :: ab_R a :: st) σ Q ↔ (ab_sh σ a).1 = 5 ∧ ab_Run X k (pc + 3) bd L st (ab_wr σ a 11 z) Q := ab_r_putI rfl ho qF_11_291 (by decide) rfl rfl rfl (fun _ => rfl) hc hd
theorem qF_4_48 : ab_lk ab_pF (1000 * 4 + 48) = some (4, 12, 0) := by decide +kernel
theorem gF_4_48 (ho : ab_ow k = 4) (hc : ab_code k = cc) (hd : decode cc pc = .ok (.getfield 48, 3)) : ab_Run X k pc bd L (ab_R a :: st) σ Q ↔ (ab_sh σ a).1 = 5 ∧ ab_Run X k (pc + 3) bd L (ab_I (ab_rd σ a 12) :: st) σ Q := ab_r_getI rfl ho qF_4_48 (by decide) rfl rfl (fun _ => rfl) hc hd
theorem sF_4_48 (ho : ab_ow k = 4) (hc : ab_code k = cc) (hd : decode cc pc = .ok (.putfield 48, 3)) : ab_Run X k pc bd L (ab_I z :: ab_R a :: st) σ Q ↔ (ab_sh σ a).1 = 5 ∧ ab_Run X k (pc + 3) bd L st (ab_wr σ a 12 z) Q := ab_r_putI rfl ho qF_4_48 (by decide) rfl rfl rfl (fun _ => rfl) hc hd
theorem qF_7_107 : ab_lk ab_pF (1000 * 7 + 107) = some (4, 12, 0) := by decide +kernel
theorem gF_7_107 (ho : ab_ow k = 7) (hc : ab_code k = cc) (hd : decode cc pc = .ok (.getfield 107, 3)) : ab_Run X k pc bd L (ab_R a :: st) σ Q ↔ (ab_sh σ a).1 = 5 ∧ ab_Run X k (pc + 3) bd L (ab_I (ab_rd σ a 12) :: st) σ Q := ab_r_getI rfl ho qF_7_107 (by decide) rfl rfl (fun _ => rfl) hc hd
theorem sF_7_107 (ho : ab_ow k = 7) (hc : ab_code k = cc) (hd : decode cc pc = .ok (.putfield 107, 3)) : ab_Run X k pc bd L (ab_I z :: ab_R a :: st) σ Q ↔ (ab_sh σ a).1 = 5 ∧ ab_Run X k (pc + 3) bd L st (ab_wr σ a 12 z) Q := ab_r_putI rfl ho qF_7_107 (by decide) rfl rfl rfl (fun _ => rfl) hc hd
theorem qF_11_398 : ab_lk ab_pF (1000 * 11 + 398) = some (4, 12, 0) := by decide +kernel
theorem gF_11_398 (ho : ab_ow k = 11) (hc : ab_code k = cc) (hd : decode cc pc = .ok (.getfield 398, 3)) : ab_Run X k pc bd L (ab_R a :: st) σ Q ↔ (ab_sh σ a).1 = 5 ∧ ab_Run X k (pc + 3) bd L (ab_I (ab_rd σ a 12) :: st) σ Q := ab_r_getI rfl ho qF_11_398 (by decide) rfl rfl (fun _ => rfl) hc hd
theorem sF_11_398 (ho : ab_ow k = 11) (hc : ab_code k = cc) (hd : decode cc pc = .ok (.putfield 398, 3)) : ab_Run X k pc bd L (ab_I z :: ab_R a :: st) σ Q ↔ (ab_sh σ a).1 = 5 ∧ ab_Run X k (pc + 3) bd L st (ab_wr σ a 12 z) Q := ab_r_putI rfl ho qF_11_398 (by decide) rfl rfl rfl (fun _ => rfl) hc hd
theorem qF_4_23 : ab_lk ab_pF (1000 * 4 + 23) = some (4, 13, 0) := by decide +kernel
theorem gF_4_23 (ho : ab_ow k = 4) (hc : ab_code k = cc) (hd : decode cc pc = .ok (.getfield 23, 3)) : ab_Run X k pc bd L (ab_R a :: st) σ Q ↔ (ab_sh σ a).1 = 5 ∧ ab_Run X k (pc + 3) bd L (ab_R (ab_rd σ a 13) :: st) σ Q := ab_r_getR rfl ho qF_4_23 (by decide) rfl rfl (fun _ => rfl) hc hd
theorem qF_7_249 : ab_lk ab_pF (1000 * 7 + 249) = some (4, 13, 0) := by decide +kernel
theorem gF_7_249 (ho : ab_ow k = 7) (hc : ab_code k = cc) (hd : decode cc pc = .ok (.getfield 249, 3)) : ab_Run X k pc bd L (ab_R a :: st) σ Q ↔ (ab_sh σ a).1 = 5 ∧ ab_Run X k (pc + 3) bd L (ab_R (ab_rd σ a 13) :: st) σ Q := ab_r_getR rfl ho qF_7_249 (by decide) rfl rfl (fun _ => rfl) hc hd
theorem qF_11_427 : ab_lk ab_pF (1000 * 11 + 427) = some (4, 13, 0) := by decide +kernel
theorem gF_11_427 (ho : ab_ow k = 11) (hc : ab_code k = cc) (hd : decode cc pc = .ok (.getfield 427, 3)) : ab_Run X k pc bd L (ab_R a :: st) σ Q ↔ (ab_sh σ a).1 = 5 ∧ ab_Run X k (pc + 3) bd L (ab_R (ab_rd σ a 13) :: st) σ Q := ab_r_getR rfl ho qF_11_427 (by decide) rfl rfl (fun _ => rfl) hc hd
theorem qF_4_27 : ab_lk ab_pF (1000 * 4 + 27) = some (4, 14, 0) := by decide +kernel
theorem gF_4_27 (ho : ab_ow k = 4) (hc : ab_code k = cc) (hd : decode cc pc = .ok (.getfield 27, 3)) : ab_Run X k pc bd L (ab_R a :: st) σ Q ↔ (ab_sh σ a).1 = 5 ∧ ab_Run X k (pc + 3) bd L (ab_R (ab_rd σ a 14) :: st) σ Q := ab_r_getR rfl ho qF_4_27 (by decide) rfl rfl (fun _ => rfl) hc hd
theorem qF_7_252 : ab_lk ab_pF (1000 * 7 + 252) = some (4, 14, 0) := by decide +kernel
theorem gF_7_252 (ho : ab_ow k = 7) (hc : ab_code k = cc) (hd : decode cc pc = .ok (.getfield 252, 3)) : ab_Run X k pc bd L (ab_R a :: st) σ Q ↔ (ab_sh σ a).1 = 5 ∧ ab_Run X k (pc + 3) bd L (ab_R (ab_rd σ a 14) :: st) σ Q := ab_r_getR rfl ho qF_7_252 (by decide) rfl rfl (fun _ => rfl) hc hd
theorem qF_11_430 : ab_lk ab_pF (1000 * 11 + 430) = some (4, 14, 0) := by decide +kernel
theorem gF_11_430 (ho : ab_ow k = 11) (hc : ab_code k = cc) (hd : decode cc pc = .ok (.getfield 430, 3)) : ab_Run X k pc bd L (ab_R a :: st) σ Q ↔ (ab_sh σ a).1 = 5 ∧ ab_Run X k (pc + 3) bd L (ab_R (ab_rd σ a 14) :: st) σ Q := ab_r_getR rfl ho qF_11_430 (by decide) rfl rfl (fun _ => rfl) hc hd
theorem qF_7_12 : ab_lk ab_pF (1000 * 7 + 12) = some (7, 0, 0) := by decide +kernel
theorem gF_7_12 (ho : ab_ow k = 7) (hc : ab_code k = cc) (hd : decode cc pc = .ok (.getfield 12, 3)) : ab_Run X k pc bd L (ab_R a :: st) σ Q ↔ (ab_sh σ a).1 = 8 ∧ ab_Run X k (pc + 3) bd L (ab_R (ab_rd σ a 0) :: st) σ Q := ab_r_getR rfl ho qF_7_12 (by decide) rfl rfl (fun _ => rfl) hc hd
theorem qF_11_66 : ab_lk ab_pF (1000 * 11 + 66) = some (7, 0, 0) := by decide +kernel
theorem gF_11_66 (ho : ab_ow k = 11) (hc : ab_code k = cc) (hd : decode cc pc = .ok (.getfield 66, 3)) : ab_Run X k pc bd L (ab_R a :: st) σ Q ↔ (ab_sh σ a).1 = 8 ∧ ab_Run X k (pc + 3) bd L (ab_R (ab_rd σ a 0) :: st) σ Q := ab_r_getR rfl ho qF_11_66 (by decide) rfl rfl (fun _ => rfl) hc hd
theorem qF_7_21 : ab_lk ab_pF (1000 * 7 + 21) = some (7, 1, 0) := by decide +kernel
theorem gF_7_21 (ho : ab_ow k = 7) (hc : ab_code k = cc) (hd : decode cc pc = .ok (.getfield 21, 3)) : ab_Run X k pc bd L (ab_R a :: st) σ Q ↔ (ab_sh σ a).1 = 8 ∧ ab_Run X k (pc + 3) bd L (ab_R (ab_rd σ a 1) :: st) σ Q := ab_r_getR rfl ho qF_7_21 (by decide) rfl rfl (fun _ => rfl) hc hd
theorem sF_7_21 (ho : ab_ow k = 7) (hc : ab_code k = cc) (hd : decode cc pc = .ok (.putfield 21, 3)) : ab_Run X k pc bd L (ab_R z :: ab_R a :: st) σ Q ↔ (ab_sh σ a).1 = 8 ∧ ab_Run X k (pc + 3) bd L st (ab_wr σ a 1 z) Q := ab_r_putR rfl ho qF_7_21 (by decide) rfl rfl rfl (fun _ => rfl) hc hd
theorem qF_11_90 : ab_lk ab_pF (1000 * 11 + 90) = some (7, 1, 0) := by decide +kernel
theorem gF_11_90 (ho : ab_ow k = 11) (hc : ab_code k = cc) (hd : decode cc pc = .ok (.getfield 90, 3)) : ab_Run X k pc bd L (ab_R a :: st) σ Q ↔ (ab_sh σ a).1 = 8 ∧ ab_Run X k (pc + 3) bd L (ab_R (ab_rd σ a 1) :: st) σ Q := ab_r_getR rfl ho qF_11_90 (by decide) rfl rfl (fun _ => rfl) hc hd
theorem sF_11_90 (ho : ab_ow k = 11) (hc : ab_code k = cc) (hd : decode cc pc = .ok (.putfield 90, 3)) : ab_Run X k pc bd L (ab_R z :: ab_R a :: st) σ Q ↔ (ab_sh σ a).1 = 8 ∧ ab_Run X k (pc + 3) bd L st (ab_wr σ a 1 z) Q := ab_r_putR rfl ho qF_11_90 (by decide) rfl rfl rfl (fun _ => rfl) hc hd
theorem qF_7_28 : ab_lk ab_pF (1000 * 7 + 28) = some (7, 2, 0) := by decide +kernel
theorem gF_7_28 (ho : ab_ow k = 7) (hc : ab_code k = cc) (hd : decode cc pc = .ok (.getfield 28, 3)) : ab_Run X k pc bd L (ab_R a :: st) σ Q ↔ (ab_sh σ a).1 = 8 ∧ ab_Run X k (pc + 3) bd L (ab_I (ab_rd σ a 2) :: st) σ Q := ab_r_getI rfl ho qF_7_28 (by decide) rfl rfl (fun _ => rfl) hc hd
theorem sF_7_28 (ho : ab_ow k = 7) (hc : ab_code k = cc) (hd : decode cc pc = .ok (.putfield 28, 3)) : ab_Run X k pc bd L (ab_I z :: ab_R a :: st) σ Q ↔ (ab_sh σ a).1 = 8 ∧ ab_Run X k (pc + 3) bd L st (ab_wr σ a 2 z) Q := ab_r_putI rfl ho qF_7_28 (by decide) rfl rfl rfl (fun _ => rfl) hc hd
theorem qF_11_103 : ab_lk ab_pF (1000 * 11 + 103) = some (7, 2, 0) := by decide +kernel
theorem gF_11_103 (ho : ab_ow k = 11) (hc : ab_code k = cc) (hd : decode cc pc = .ok (.getfield 103, 3)) : ab_Run X k pc bd L (ab_R a :: st) σ Q ↔ (ab_sh σ a).1 = 8 ∧ ab_Run X k (pc + 3) bd L (ab_I (ab_rd σ a 2) :: st) σ Q := ab_r_getI rfl ho qF_11_103 (by decide) rfl rfl (fun _ => rfl) hc hd
theorem sF_11_103 (ho : ab_ow k = 11) (hc : ab_code k = cc) (hd : decode cc pc = .ok (.putfield 103, 3)) : ab_Run X k pc bd L (ab_I z :: ab_R a :: st) σ Q ↔ (ab_sh σ a).1 = 8 ∧ ab_Run X k (pc + 3) bd L st (ab_wr σ a 2 z) Q := ab_r_putI rfl ho qF_11_103 (by decide) rfl rfl rfl (fun _ => rfl) hc hd
theorem qF_7_32 : ab_lk ab_pF (1000 * 7 + 32) = some (7, 3, 0) := by decide +kernel
theorem gF_7_32 (ho : ab_ow k = 7) (hc : ab_code k = cc) (hd : decode cc pc = .ok (.getfield 32, 3)) : ab_Run X k pc bd L (ab_R a :: st) σ Q ↔ (ab_sh σ a).1 = 8 ∧ ab_Run X k (pc + 3) bd L (ab_I (ab_rd σ a 3) :: st) σ Q := ab_r_getI rfl ho qF_7_32 (by decide) rfl rfl (fun _ => rfl) hc hd
theorem sF_7_32 (ho : ab_ow k = 7) (hc : ab_code k = cc) (hd : decode cc pc = .ok (.putfield 32, 3)) : ab_Run X k pc bd L (ab_I z :: ab_R a :: st) σ Q ↔ (ab_sh σ a).1 = 8 ∧ ab_Run X k (pc + 3) bd L st (ab_wr σ a 3 z) Q := ab_r_putI rfl ho qF_7_32 (by decide) rfl rfl rfl (fun _ => rfl) hc hd
theorem qF_11_106 : ab_lk ab_pF (1000 * 11 + 106) = some (7, 3, 0) := by decide +kernel
theorem gF_11_106 (ho : ab_ow k = 11) (hc : ab_code k = cc) (hd : decode cc pc = .ok (.getfield 106, 3)) : ab_Run X k pc bd L (ab_R a :: st) σ Q ↔ (ab_sh σ a).1 = 8 ∧ ab_Run X k (pc + 3) bd L (ab_I (ab_rd σ a 3) :: st) σ Q := ab_r_getI rfl ho qF_11_106 (by decide) rfl rfl (fun _ => rfl) hc hd
theorem sF_11_106 (ho : ab_ow k = 11) (hc : ab_code k = cc) (hd : decode cc pc = .ok (.putfield 106, 3)) : ab_Run X k pc bd L (ab_I z :: ab_R a :: st) σ Q ↔ (ab_sh σ a).1 = 8 ∧ ab_Run X k (pc + 3) bd L st (ab_wr σ a 3 z) Q := ab_r_putI rfl ho qF_11_106 (by decide) rfl rfl rfl (fun _ => rfl) hc hd
theorem qF_7_35 : ab_lk ab_pF (1000 * 7 + 35) = some (7, 4, 0) := by decide +kernel
theorem gF_7_35 (ho : ab_ow k = 7) (hc : ab_code k = cc) (hd : decode cc pc = .ok (.getfield 35, 3)) : ab_Run X k pc bd L (ab_R a :: st) σ Q ↔ (ab_sh σ a).1 = 8 ∧ ab_Run X k (pc + 3) bd L (ab_I (ab_rd σ a 4) :: st) σ Q := ab_r_getI rfl ho qF_7_35 (by decide) rfl rfl (fun _ => rfl) hc hd
theorem sF_7_35 (ho : ab_ow k = 7) (hc : ab_code k = cc) (hd : decode cc pc = .ok (.putfield 35, 3)) : ab_Run X k pc bd L (ab_I z :: ab_R a :: st) σ Q ↔ ((ab_sh σ a).1 = 8 ∧ (z = 0 ∨ z = 1)) ∧ ab_Run X k (pc + 3) bd L st (ab_wr σ a 4 z) Q := ab_r_putZ rfl ho qF_7_35 (by decide) rfl rfl rfl (fun _ => rfl) hc hd
theorem qF_7_124 : ab_lk ab_pF (1000 * 7 + 124) = some (7, 5, 0) := by decide +kernel
theorem gF_7_124 (ho : ab_ow k = 7) (hc : ab_code k = cc) (hd : decode cc pc = .ok (.getfield 124, 3)) : ab_Run X k pc bd L (ab_R a :: st) σ Q ↔ (ab_sh σ a).1 = 8 ∧ ab_Run X k (pc + 3) bd L (ab_I (ab_rd σ a 5) :: st) σ Q := ab_r_getI rfl ho qF_7_124 (by decide) rfl rfl (fun _ => rfl) hc hd
theorem sF_7_124 (ho : ab_ow k = 7) (hc : ab_code k = cc) (hd : decode cc pc = .ok (.putfield 124, 3)) : ab_Run X k pc bd L (ab_I z :: ab_R a :: st) σ Q ↔ (ab_sh σ a).1 = 8 ∧ ab_Run X k (pc + 3) bd L st (ab_wr σ a 5 z) Q := ab_r_putI rfl ho qF_7_124 (by decide) rfl rfl rfl (fun _ => rfl) hc hd
theorem qF_8_9 : ab_lk ab_pF (1000 * 8 + 9) = some (8, 0, 0) := by decide +kernel
theorem gF_8_9 (ho : ab_ow k = 8) (hc : ab_code k = cc) (hd : decode cc pc = .ok (.getfield 9, 3)) : ab_Run X k pc bd L (ab_R a :: st) σ Q ↔ (ab_sh σ a).1 = 9 ∧ ab_Run X k (pc + 3) bd L (ab_R (ab_rd σ a 0) :: st) σ Q := ab_r_getR rfl ho qF_8_9 (by decide) rfl rfl (fun _ => rfl) hc hd
theorem qF_11_112 : ab_lk ab_pF (1000 * 11 + 112) = some (8, 0, 0) := by decide +kernel
theorem gF_11_112 (ho : ab_ow k = 11) (hc : ab_code k = cc) (hd : decode cc pc = .ok (.getfield 112, 3)) : ab_Run X k pc bd L (ab_R a :: st) σ Q ↔ (ab_sh σ a).1 = 9 ∧ ab_Run X k (pc + 3) bd L (ab_R (ab_rd σ a 0) :: st) σ Q := ab_r_getR rfl ho qF_11_112 (by decide) rfl rfl (fun _ => rfl) hc hd
theorem qF_8_15 : ab_lk ab_pF (1000 * 8 + 15) = some (8, 1, 0) := by decide +kernel
theorem gF_8_15 (ho : ab_ow k = 8) (hc : ab_code k = cc) (hd : decode cc pc = .ok (.getfield 15, 3)) : ab_Run X k pc bd L (ab_R a :: st) σ Q ↔ (ab_sh σ a).1 = 9 ∧ ab_Run X k (pc + 3) bd L (ab_R (ab_rd σ a 1) :: st) σ Q := ab_r_getR rfl ho qF_8_15 (by decide) rfl rfl (fun _ => rfl) hc hd
theorem qF_11_115 : ab_lk ab_pF (1000 * 11 + 115) = some (8, 1, 0) := by decide +kernel
theorem gF_11_115 (ho : ab_ow k = 11) (hc : ab_code k = cc) (hd : decode cc pc = .ok (.getfield 115, 3)) : ab_Run X k pc bd L (ab_R a :: st) σ Q ↔ (ab_sh σ a).1 = 9 ∧ ab_Run X k (pc + 3) bd L (ab_R (ab_rd σ a 1) :: st) σ Q := ab_r_getR rfl ho qF_11_115 (by decide) rfl rfl (fun _ => rfl) hc hd
theorem qF_8_18 : ab_lk ab_pF (1000 * 8 + 18) = some (8, 2, 0) := by decide +kernel
theorem gF_8_18 (ho : ab_ow k = 8) (hc : ab_code k = cc) (hd : decode cc pc = .ok (.getfield 18, 3)) : ab_Run X k pc bd L (ab_R a :: st) σ Q ↔ (ab_sh σ a).1 = 9 ∧ ab_Run X k (pc + 3) bd L (ab_R (ab_rd σ a 2) :: st) σ Q := ab_r_getR rfl ho qF_8_18 (by decide) rfl rfl (fun _ => rfl) hc hd
theorem qF_11_127 : ab_lk ab_pF (1000 * 11 + 127) = some (8, 2, 0) := by decide +kernel
theorem gF_11_127 (ho : ab_ow k = 11) (hc : ab_code k = cc) (hd : decode cc pc = .ok (.getfield 127, 3)) : ab_Run X k pc bd L (ab_R a :: st) σ Q ↔ (ab_sh σ a).1 = 9 ∧ ab_Run X k (pc + 3) bd L (ab_R (ab_rd σ a 2) :: st) σ Q := ab_r_getR rfl ho qF_11_127 (by decide) rfl rfl (fun _ => rfl) hc hd
theorem qF_8_22 : ab_lk ab_pF (1000 * 8 + 22) = some (8, 3, 0) := by decide +kernel
theorem gF_8_22 (ho : ab_ow k = 8) (hc : ab_code k = cc) (hd : decode cc pc = .ok (.getfield 22, 3)) : ab_Run X k pc bd L (ab_R a :: st) σ Q ↔ (ab_sh σ a).1 = 9 ∧ ab_Run X k (pc + 3) bd L (ab_R (ab_rd σ a 3) :: st) σ Q := ab_r_getR rfl ho qF_8_22 (by decide) rfl rfl (fun _ => rfl) hc hd
theorem qF_11_166 : ab_lk ab_pF (1000 * 11 + 166) = some (8, 3, 0) := by decide +kernel
theorem gF_11_166 (ho : ab_ow k = 11) (hc : ab_code k = cc) (hd : decode cc pc = .ok (.getfield 166, 3)) : ab_Run X k pc bd L (ab_R a :: st) σ Q ↔ (ab_sh σ a).1 = 9 ∧ ab_Run X k (pc + 3) bd L (ab_R (ab_rd σ a 3) :: st) σ Q := ab_r_getR rfl ho qF_11_166 (by decide) rfl rfl (fun _ => rfl) hc hd
theorem qF_8_39 : ab_lk ab_pF (1000 * 8 + 39) = some (8, 4, 0) := by decide +kernel
theorem gF_8_39 (ho : ab_ow k = 8) (hc : ab_code k = cc) (hd : decode cc pc = .ok (.getfield 39, 3)) : ab_Run X k pc bd L (ab_R a :: st) σ Q ↔ (ab_sh σ a).1 = 9 ∧ ab_Run X k (pc + 3) bd L (ab_I (ab_rd σ a 4) :: st) σ Q := ab_r_getI rfl ho qF_8_39 (by decide) rfl rfl (fun _ => rfl) hc hd
theorem sF_8_39 (ho : ab_ow k = 8) (hc : ab_code k = cc) (hd : decode cc pc = .ok (.putfield 39, 3)) : ab_Run X k pc bd L (ab_I z :: ab_R a :: st) σ Q ↔ (ab_sh σ a).1 = 9 ∧ ab_Run X k (pc + 3) bd L st (ab_wr σ a 4 z) Q := ab_r_putI rfl ho qF_8_39 (by decide) rfl rfl rfl (fun _ => rfl) hc hd
theorem qF_11_353 : ab_lk ab_pF (1000 * 11 + 353) = some (8, 4, 0) := by decide +kernel
theorem gF_11_353 (ho : ab_ow k = 11) (hc : ab_code k = cc) (hd : decode cc pc = .ok (.getfield 353, 3)) : ab_Run X k pc bd L (ab_R a :: st) σ Q ↔ (ab_sh σ a).1 = 9 ∧ ab_Run X k (pc + 3) bd L (ab_I (ab_rd σ a 4) :: st) σ Q := ab_r_getI rfl ho qF_11_353 (by decide) rfl rfl (fun _ => rfl) hc hd
theorem sF_11_353 (ho : ab_ow k = 11) (hc : ab_code k = cc) (hd : decode cc pc = .ok (.putfield 353, 3)) : ab_Run X k pc bd L (ab_I z :: ab_R a :: st) σ Q ↔ (ab_sh σ a).1 = 9 ∧ ab_Run X k (pc + 3) bd L st (ab_wr σ a 4 z) Q := ab_r_putI rfl ho qF_11_353 (by decide) rfl rfl rfl (fun _ => rfl) hc hd
theorem qF_3_11 : ab_lk ab_pF (1000 * 3 + 11) = some (3, 0, 0) := by decide +kernel
theorem gF_3_11 (ho : ab_ow k = 3) (hc : ab_code k = cc) (hd : decode cc pc = .ok (.getfield 11, 3)) : ab_Run X k pc bd L (ab_R a :: st) σ Q ↔ (ab_sh σ a).1 = 4 ∧ ab_Run X k (pc + 3) bd L (ab_R (ab_rd σ a 0) :: st) σ Q := ab_r_getR rfl ho qF_3_11 (by decide) rfl rfl (fun _ => rfl) hc hd
theorem qF_3_15 : ab_lk ab_pF (1000 * 3 + 15) = some (3, 1, 0) := by decide +kernel
theorem gF_3_15 (ho : ab_ow k = 3) (hc : ab_code k = cc) (hd : decode cc pc = .ok (.getfield 15, 3)) : ab_Run X k pc bd L (ab_R a :: st) σ Q ↔ (ab_sh σ a).1 = 4 ∧ ab_Run X k (pc + 3) bd L (ab_R (ab_rd σ a 1) :: st) σ Q := ab_r_getR rfl ho qF_3_15 (by decide) rfl rfl (fun _ => rfl) hc hd
theorem qF_3_26 : ab_lk ab_pF (1000 * 3 + 26) = some (3, 2, 0) := by decide +kernel
theorem gF_3_26 (ho : ab_ow k = 3) (hc : ab_code k = cc) (hd : decode cc pc = .ok (.getfield 26, 3)) : ab_Run X k pc bd L (ab_R a :: st) σ Q ↔ (ab_sh σ a).1 = 4 ∧ ab_Run X k (pc + 3) bd L (ab_I (ab_rd σ a 2) :: st) σ Q := ab_r_getI rfl ho qF_3_26 (by decide) rfl rfl (fun _ => rfl) hc hd
theorem sF_3_26 (ho : ab_ow k = 3) (hc : ab_code k = cc) (hd : decode cc pc = .ok (.putfield 26, 3)) : ab_Run X k pc bd L (ab_I z :: ab_R a :: st) σ Q ↔ (ab_sh σ a).1 = 4 ∧ ab_Run X k (pc + 3) bd L st (ab_wr σ a 2 z) Q := ab_r_putI rfl ho qF_3_26 (by decide) rfl rfl rfl (fun _ => rfl) hc hd
theorem qF_3_19 : ab_lk ab_pF (1000 * 3 + 19) = some (3, 3, 0) := by decide +kernel
theorem gF_3_19 (ho : ab_ow k = 3) (hc : ab_code k = cc) (hd : decode cc pc = .ok (.getfield 19, 3)) : ab_Run X k pc bd L (ab_R a :: st) σ Q ↔ (ab_sh σ a).1 = 4 ∧ ab_Run X k (pc + 3) bd L (ab_I (ab_rd σ a 3) :: st) σ Q := ab_r_getI rfl ho qF_3_19 (by decide) rfl rfl (fun _ => rfl) hc hd
theorem sF_3_19 (ho : ab_ow k = 3) (hc : ab_code k = cc) (hd : decode cc pc = .ok (.putfield 19, 3)) : ab_Run X k pc bd L (ab_I z :: ab_R a :: st) σ Q ↔ (ab_sh σ a).1 = 4 ∧ ab_Run X k (pc + 3) bd L st (ab_wr σ a 3 z) Q := ab_r_putI rfl ho qF_3_19 (by decide) rfl rfl rfl (fun _ => rfl) hc hd
theorem qF_11_356 : ab_lk ab_pF (1000 * 11 + 356) = some (3, 3, 0) := by decide +kernel
theorem gF_11_356 (ho : ab_ow k = 11) (hc : ab_code k = cc) (hd : decode cc pc = .ok (.getfield 356, 3)) : ab_Run X k pc bd L (ab_R a :: st) σ Q ↔ (ab_sh σ a).1 = 4 ∧ ab_Run X k (pc + 3) bd L (ab_I (ab_rd σ a 3) :: st) σ Q := ab_r_getI rfl ho qF_11_356 (by decide) rfl rfl (fun _ => rfl) hc hd
theorem sF_11_356 (ho : ab_ow k = 11) (hc : ab_code k = cc) (hd : decode cc pc = .ok (.putfield 356, 3)) : ab_Run X k pc bd L (ab_I z :: ab_R a :: st) σ Q ↔ (ab_sh σ a).1 = 4 ∧ ab_Run X k (pc + 3) bd L st (ab_wr σ a 3 z) Q := ab_r_putI rfl ho qF_11_356 (by decide) rfl rfl rfl (fun _ => rfl) hc hd
theorem qF_3_23 : ab_lk ab_pF (1000 * 3 + 23) = some (3, 4, 0) := by decide +kernel
theorem gF_3_23 (ho : ab_ow k = 3) (hc : ab_code k = cc) (hd : decode cc pc = .ok (.getfield 23, 3)) : ab_Run X k pc bd L (ab_R a :: st) σ Q ↔ (ab_sh σ a).1 = 4 ∧ ab_Run X k (pc + 3) bd L (ab_I (ab_rd σ a 4) :: st) σ Q := ab_r_getI rfl ho qF_3_23 (by decide) rfl rfl (fun _ => rfl) hc hd
theorem sF_3_23 (ho : ab_ow k = 3) (hc : ab_code k = cc) (hd : decode cc pc = .ok (.putfield 23, 3)) : ab_Run X k pc bd L (ab_I z :: ab_R a :: st) σ Q ↔ (ab_sh σ a).1 = 4 ∧ ab_Run X k (pc + 3) bd L st (ab_wr σ a 4 z) Q := ab_r_putI rfl ho qF_3_23 (by decide) rfl rfl rfl (fun _ => rfl) hc hd
theorem qF_11_369 : ab_lk ab_pF (1000 * 11 + 369) = some (3, 4, 0) := by decide +kernel
theorem gF_11_369 (ho : ab_ow k = 11) (hc : ab_code k = cc) (hd : decode cc pc = .ok (.getfield 369, 3)) : ab_Run X k pc bd L (ab_R a :: st) σ Q ↔ (ab_sh σ a).1 = 4 ∧ ab_Run X k (pc + 3) bd L (ab_I (ab_rd σ a 4) :: st) σ Q := ab_r_getI rfl ho qF_11_369 (by decide) rfl rfl (fun _ => rfl) hc hd
theorem sF_11_369 (ho : ab_ow k = 11) (hc : ab_code k = cc) (hd : decode cc pc = .ok (.putfield 369, 3)) : ab_Run X k pc bd L (ab_I z :: ab_R a :: st) σ Q ↔ (ab_sh σ a).1 = 4 ∧ ab_Run X k (pc + 3) bd L st (ab_wr σ a 4 z) Q := ab_r_putI rfl ho qF_11_369 (by decide) rfl rfl rfl (fun _ => rfl) hc hd
theorem qF_0_32 : ab_lk ab_pF (1000 * 0 + 32) = some (0, 0, 0) := by decide +kernel
theorem gF_0_32 (ho : ab_ow k = 0) (hc : ab_code k = cc) (hd : decode cc pc = .ok (.getfield 32, 3)) : ab_Run X k pc bd L (ab_R a :: st) σ Q ↔ (ab_sh σ a).1 = 1 ∧ ab_Run X k (pc + 3) bd L (ab_I (ab_rd σ a 0) :: st) σ Q := ab_r_getI rfl ho qF_0_32 (by decide) rfl rfl (fun _ => rfl) hc hd
theorem sF_0_32 (ho : ab_ow k = 0) (hc : ab_code k = cc) (hd : decode cc pc = .ok (.putfield 32, 3)) : ab_Run X k pc bd L (ab_I z :: ab_R a :: st) σ Q ↔ (ab_sh σ a).1 = 1 ∧ ab_Run X k (pc + 3) bd L st (ab_wr σ a 0 z) Q := ab_r_putI rfl ho qF_0_32 (by decide) rfl rfl rfl (fun _ => rfl) hc hd
theorem qF_6_73 : ab_lk ab_pF (1000 * 6 + 73) = some (0, 0, 0) := by decide +kernel
theorem gF_6_73 (ho : ab_ow k = 6) (hc : ab_code k = cc) (hd : decode cc pc = .ok (.getfield 73, 3)) : ab_Run X k pc bd L (ab_R a :: st) σ Q ↔ (ab_sh σ a).1 = 1 ∧ ab_Run X k (pc + 3) bd L (ab_I (ab_rd σ a 0) :: st) σ Q := ab_r_getI rfl ho qF_6_73 (by decide) rfl rfl (fun _ => rfl) hc hd
theorem sF_6_73 (ho : ab_ow k = 6) (hc : ab_code k = cc) (hd : decode cc pc = .ok (.putfield 73, 3)) : ab_Run X k pc bd L (ab_I z :: ab_R a :: st) σ Q ↔ (ab_sh σ a).1 = 1 ∧ ab_Run X k (pc + 3) bd L st (ab_wr σ a 0 z) Q := ab_r_putI rfl ho qF_6_73 (by decide) rfl rfl rfl (fun _ => rfl) hc hd
theorem qF_11_205 : ab_lk ab_pF (1000 * 11 + 205) = some (0, 0, 0) := by decide +kernel
theorem gF_11_205 (ho : ab_ow k = 11) (hc : ab_code k = cc) (hd : decode cc pc = .ok (.getfield 205, 3)) : ab_Run X k pc bd L (ab_R a :: st) σ Q ↔ (ab_sh σ a).1 = 1 ∧ ab_Run X k (pc + 3) bd L (ab_I (ab_rd σ a 0) :: st) σ Q := ab_r_getI rfl ho qF_11_205 (by decide) rfl rfl (fun _ => rfl) hc hd
theorem sF_11_205 (ho : ab_ow k = 11) (hc : ab_code k = cc) (hd : decode cc pc = .ok (.putfield 205, 3)) : ab_Run X k pc bd L (ab_I z :: ab_R a :: st) σ Q ↔ (ab_sh σ a).1 = 1 ∧ ab_Run X k (pc + 3) bd L st (ab_wr σ a 0 z) Q := ab_r_putI rfl ho qF_11_205 (by decide) rfl rfl rfl (fun _ => rfl) hc hd
theorem qF_0_9 : ab_lk ab_pF (1000 * 0 + 9) = some (0, 1, 0) := by decide +kernel
theorem gF_0_9 (ho : ab_ow k = 0) (hc : ab_code k = cc) (hd : decode cc pc = .ok (.getfield 9, 3)) : ab_Run X k pc bd L (ab_R a :: st) σ Q ↔ (ab_sh σ a).1 = 1 ∧ ab_Run X k (pc + 3) bd L (ab_R (ab_rd σ a 1) :: st) σ Q := ab_r_getR rfl ho qF_0_9 (by decide) rfl rfl (fun _ => rfl) hc hd
theorem qF_11_192 : ab_lk ab_pF (1000 * 11 + 192) = some (0, 1, 0) := by decide +kernel
theorem gF_11_192 (ho : ab_ow k = 11) (hc : ab_code k = cc) (hd : decode cc pc = .ok (.getfield 192, 3)) : ab_Run X k pc bd L (ab_R a :: st) σ Q ↔ (ab_sh σ a).1 = 1 ∧ ab_Run X k (pc + 3) bd L (ab_R (ab_rd σ a 1) :: st) σ Q := ab_r_getR rfl ho qF_11_192 (by decide) rfl rfl (fun _ => rfl) hc hd
theorem qF_0_15 : ab_lk ab_pF (1000 * 0 + 15) = some (0, 2, 0) := by decide +kernel
theorem gF_0_15 (ho : ab_ow k = 0) (hc : ab_code k = cc) (hd : decode cc pc = .ok (.getfield 15, 3)) : ab_Run X k pc bd L (ab_R a :: st) σ Q ↔ (ab_sh σ a).1 = 1 ∧ ab_Run X k (pc + 3) bd L (ab_R (ab_rd σ a 2) :: st) σ Q := ab_r_getR rfl ho qF_0_15 (by decide) rfl rfl (fun _ => rfl) hc hd
theorem qF_11_179 : ab_lk ab_pF (1000 * 11 + 179) = some (0, 2, 0) := by decide +kernel
theorem gF_11_179 (ho : ab_ow k = 11) (hc : ab_code k = cc) (hd : decode cc pc = .ok (.getfield 179, 3)) : ab_Run X k pc bd L (ab_R a :: st) σ Q ↔ (ab_sh σ a).1 = 1 ∧ ab_Run X k (pc + 3) bd L (ab_R (ab_rd σ a 2) :: st) σ Q := ab_r_getR rfl ho qF_11_179 (by decide) rfl rfl (fun _ => rfl) hc hd
theorem qF_0_18 : ab_lk ab_pF (1000 * 0 + 18) = some (0, 3, 0) := by decide +kernel
theorem gF_0_18 (ho : ab_ow k = 0) (hc : ab_code k = cc) (hd : decode cc pc = .ok (.getfield 18, 3)) : ab_Run X k pc bd L (ab_R a :: st) σ Q ↔ (ab_sh σ a).1 = 1 ∧ ab_Run X k (pc + 3) bd L (ab_R (ab_rd σ a 3) :: st) σ Q := ab_r_getR rfl ho qF_0_18 (by decide) rfl rfl (fun _ => rfl) hc hd
theorem qF_6_88 : ab_lk ab_pF (1000 * 6 + 88) = some (0, 3, 0) := by decide +kernel
theorem gF_6_88 (ho : ab_ow k = 6) (hc : ab_code k = cc) (hd : decode cc pc = .ok (.getfield 88, 3)) : ab_Run X k pc bd L (ab_R a :: st) σ Q ↔ (ab_sh σ a).1 = 1 ∧ ab_Run X k (pc + 3) bd L (ab_R (ab_rd σ a 3) :: st) σ Q := ab_r_getR rfl ho qF_6_88 (by decide) rfl rfl (fun _ => rfl) hc hd
theorem qF_0_21 : ab_lk ab_pF (1000 * 0 + 21) = some (0, 4, 0) := by decide +kernel
theorem gF_0_21 (ho : ab_ow k = 0) (hc : ab_code k = cc) (hd : decode cc pc = .ok (.getfield 21, 3)) : ab_Run X k pc bd L (ab_R a :: st) σ Q ↔ (ab_sh σ a).1 = 1 ∧ ab_Run X k (pc + 3) bd L (ab_R (ab_rd σ a 4) :: st) σ Q := ab_r_getR rfl ho qF_0_21 (by decide) rfl rfl (fun _ => rfl) hc hd
theorem qF_6_91 : ab_lk ab_pF (1000 * 6 + 91) = some (0, 4, 0) := by decide +kernel
theorem gF_6_91 (ho : ab_ow k = 6) (hc : ab_code k = cc) (hd : decode cc pc = .ok (.getfield 91, 3)) : ab_Run X k pc bd L (ab_R a :: st) σ Q ↔ (ab_sh σ a).1 = 1 ∧ ab_Run X k (pc + 3) bd L (ab_R (ab_rd σ a 4) :: st) σ Q := ab_r_getR rfl ho qF_6_91 (by decide) rfl rfl (fun _ => rfl) hc hd
theorem qF_0_24 : ab_lk ab_pF (1000 * 0 + 24) = some (0, 5, 0) := by decide +kernel
theorem gF_0_24 (ho : ab_ow k = 0) (hc : ab_code k = cc) (hd : decode cc pc = .ok (.getfield 24, 3)) : ab_Run X k pc bd L (ab_R a :: st) σ Q ↔ (ab_sh σ a).1 = 1 ∧ ab_Run X k (pc + 3) bd L (ab_R (ab_rd σ a 5) :: st) σ Q := ab_r_getR rfl ho qF_0_24 (by decide) rfl rfl (fun _ => rfl) hc hd
theorem qF_6_94 : ab_lk ab_pF (1000 * 6 + 94) = some (0, 5, 0) := by decide +kernel
theorem gF_6_94 (ho : ab_ow k = 6) (hc : ab_code k = cc) (hd : decode cc pc = .ok (.getfield 94, 3)) : ab_Run X k pc bd L (ab_R a :: st) σ Q ↔ (ab_sh σ a).1 = 1 ∧ ab_Run X k (pc + 3) bd L (ab_R (ab_rd σ a 5) :: st) σ Q := ab_r_getR rfl ho qF_6_94 (by decide) rfl rfl (fun _ => rfl) hc hd
theorem qF_6_12 : ab_lk ab_pF (1000 * 6 + 12) = some (6, 0, 0) := by decide +kernel
theorem gF_6_12 (ho : ab_ow k = 6) (hc : ab_code k = cc) (hd : decode cc pc = .ok (.getfield 12, 3)) : ab_Run X k pc bd L (ab_R a :: st) σ Q ↔ (ab_sh σ a).1 = 7 ∧ ab_Run X k (pc + 3) bd L (ab_R (ab_rd σ a 0) :: st) σ Q := ab_r_getR rfl ho qF_6_12 (by decide) rfl rfl (fun _ => rfl) hc hd
theorem qF_11_171 : ab_lk ab_pF (1000 * 11 + 171) = some (6, 0, 0) := by decide +kernel
theorem gF_11_171 (ho : ab_ow k = 11) (hc : ab_code k = cc) (hd : decode cc pc = .ok (.getfield 171, 3)) : ab_Run X k pc bd L (ab_R a :: st) σ Q ↔ (ab_sh σ a).1 = 7 ∧ ab_Run X k (pc + 3) bd L (ab_R (ab_rd σ a 0) :: st) σ Q := ab_r_getR rfl ho qF_11_171 (by decide) rfl rfl (fun _ => rfl) hc hd
theorem qF_6_18 : ab_lk ab_pF (1000 * 6 + 18) = some (6, 1, 0) := by decide +kernel
theorem gF_6_18 (ho : ab_ow k = 6) (hc : ab_code k = cc) (hd : decode cc pc = .ok (.getfield 18, 3)) : ab_Run X k pc bd L (ab_R a :: st) σ Q ↔ (ab_sh σ a).1 = 7 ∧ ab_Run X k (pc + 3) bd L (ab_R (ab_rd σ a 1) :: st) σ Q := ab_r_getR rfl ho qF_6_18 (by decide) rfl rfl (fun _ => rfl) hc hd
theorem qF_2_69 : ab_lk ab_pF (1000 * 2 + 69) = some (6, 1, 0) := by decide +kernel
theorem gF_2_69 (ho : ab_ow k = 2) (hc : ab_code k = cc) (hd : decode cc pc = .ok (.getfield 69, 3)) : ab_Run X k pc bd L (ab_R a :: st) σ Q ↔ (ab_sh σ a).1 = 7 ∧ ab_Run X k (pc + 3) bd L (ab_R (ab_rd σ a 1) :: st) σ Q := ab_r_getR rfl ho qF_2_69 (by decide) rfl rfl (fun _ => rfl) hc hd
theorem qF_11_195 : ab_lk ab_pF (1000 * 11 + 195) = some (6, 1, 0) := by decide +kernel
theorem gF_11_195 (ho : ab_ow k = 11) (hc : ab_code k = cc) (hd : decode cc pc = .ok (.getfield 195, 3)) : ab_Run X k pc bd L (ab_R a :: st) σ Q ↔ (ab_sh σ a).1 = 7 ∧ ab_Run X k (pc + 3) bd L (ab_R (ab_rd σ a 1) :: st) σ Q := ab_r_getR rfl ho qF_11_195 (by decide) rfl rfl (fun _ => rfl) hc hd
theorem qF_6_21 : ab_lk ab_pF (1000 * 6 + 21) = some (6, 2, 0) := by decide +kernel
theorem gF_6_21 (ho : ab_ow k = 6) (hc : ab_code k = cc) (hd : decode cc pc = .ok (.getfield 21, 3)) : ab_Run X k pc bd L (ab_R a :: st) σ Q ↔ (ab_sh σ a).1 = 7 ∧ ab_Run X k (pc + 3) bd L (ab_R (ab_rd σ a 2) :: st) σ Q := ab_r_getR rfl ho qF_6_21 (by decide) rfl rfl (fun _ => rfl) hc hd
theorem qF_2_77 : ab_lk ab_pF (1000 * 2 + 77) = some (6, 2, 0) := by decide +kernel
theorem gF_2_77 (ho : ab_ow k = 2) (hc : ab_code k = cc) (hd : decode cc pc = .ok (.getfield 77, 3)) : ab_Run X k pc bd L (ab_R a :: st) σ Q ↔ (ab_sh σ a).1 = 7 ∧ ab_Run X k (pc + 3) bd L (ab_R (ab_rd σ a 2) :: st) σ Q := ab_r_getR rfl ho qF_2_77 (by decide) rfl rfl (fun _ => rfl) hc hd
theorem qF_11_212 : ab_lk ab_pF (1000 * 11 + 212) = some (6, 2, 0) := by decide +kernel
theorem gF_11_212 (ho : ab_ow k = 11) (hc : ab_code k = cc) (hd : decode cc pc = .ok (.getfield 212, 3)) : ab_Run X k pc bd L (ab_R a :: st) σ Q ↔ (ab_sh σ a).1 = 7 ∧ ab_Run X k (pc + 3) bd L (ab_R (ab_rd σ a 2) :: st) σ Q := ab_r_getR rfl ho qF_11_212 (by decide) rfl rfl (fun _ => rfl) hc hd
theorem qF_6_25 : ab_lk ab_pF (1000 * 6 + 25) = some (6, 3, 0) := by decide +kernel
theorem gF_6_25 (ho : ab_ow k = 6) (hc : ab_code k = cc) (hd : decode cc pc = .ok (.getfield 25, 3)) : ab_Run X k pc bd L (ab_R a :: st) σ Q ↔ (ab_sh σ a).1 = 7 ∧ ab_Run X k (pc + 3) bd L (ab_I (ab_rd σ a 3) :: st) σ Q := ab_r_getI rfl ho qF_6_25 (by decide) rfl rfl (fun _ => rfl) hc hd
theorem sF_6_25 (ho : ab_ow k = 6) (hc : ab_code k = cc) (hd : decode cc pc = .ok (.putfield 25, 3)) : ab_Run X k pc bd L (ab_I z :: ab_R a :: st) σ Q ↔ (ab_sh σ a).1 = 7 ∧ ab_Run X k (pc + 3) bd L st (ab_wr σ a 3 z) Q := ab_r_putI rfl ho qF_6_25 (by decide) rfl rfl rfl (fun _ => rfl) hc hd
theorem qF_11_215 : ab_lk ab_pF (1000 * 11 + 215) = some (6, 3, 0) := by decide +kernel
theorem gF_11_215 (ho : ab_ow k = 11) (hc : ab_code k = cc) (hd : decode cc pc = .ok (.getfield 215, 3)) : ab_Run X k pc bd L (ab_R a :: st) σ Q ↔ (ab_sh σ a).1 = 7 ∧ ab_Run X k (pc + 3) bd L (ab_I (ab_rd σ a 3) :: st) σ Q := ab_r_getI rfl ho qF_11_215 (by decide) rfl rfl (fun _ => rfl) hc hd
theorem sF_11_215 (ho : ab_ow k = 11) (hc : ab_code k = cc) (hd : decode cc pc = .ok (.putfield 215, 3)) : ab_Run X k pc bd L (ab_I z :: ab_R a :: st) σ Q ↔ (ab_sh σ a).1 = 7 ∧ ab_Run X k (pc + 3) bd L st (ab_wr σ a 3 z) Q := ab_r_putI rfl ho qF_11_215 (by decide) rfl rfl rfl (fun _ => rfl) hc hd
theorem qF_6_34 : ab_lk ab_pF (1000 * 6 + 34) = some (6, 4, 0) := by decide +kernel
theorem gF_6_34 (ho : ab_ow k = 6) (hc : ab_code k = cc) (hd : decode cc pc = .ok (.getfield 34, 3)) : ab_Run X k pc bd L (ab_R a :: st) σ Q ↔ (ab_sh σ a).1 = 7 ∧ ab_Run X k (pc + 3) bd L (ab_I (ab_rd σ a 4) :: st) σ Q := ab_r_getI rfl ho qF_6_34 (by decide) rfl rfl (fun _ => rfl) hc hd
theorem sF_6_34 (ho : ab_ow k = 6) (hc : ab_code k = cc) (hd : decode cc pc = .ok (.putfield 34, 3)) : ab_Run X k pc bd L (ab_I z :: ab_R a :: st) σ Q ↔ ((ab_sh σ a).1 = 7 ∧ (z = 0 ∨ z = 1)) ∧ ab_Run X k (pc + 3) bd L st (ab_wr σ a 4 z) Q := ab_r_putZ rfl ho qF_6_34 (by decide) rfl rfl rfl (fun _ => rfl) hc hd
theorem qF_6_41 : ab_lk ab_pF (1000 * 6 + 41) = some (6, 5, 0) := by decide +kernel
theorem gF_6_41 (ho : ab_ow k = 6) (hc : ab_code k = cc) (hd : decode cc pc = .ok (.getfield 41, 3)) : ab_Run X k pc bd L (ab_R a :: st) σ Q ↔ (ab_sh σ a).1 = 7 ∧ ab_Run X k (pc + 3) bd L (ab_I (ab_rd σ a 5) :: st) σ Q := ab_r_getI rfl ho qF_6_41 (by decide) rfl rfl (fun _ => rfl) hc hd
theorem sF_6_41 (ho : ab_ow k = 6) (hc : ab_code k = cc) (hd : decode cc pc = .ok (.putfield 41, 3)) : ab_Run X k pc bd L (ab_I z :: ab_R a :: st) σ Q ↔ (ab_sh σ a).1 = 7 ∧ ab_Run X k (pc + 3) bd L st (ab_wr σ a 5 z) Q := ab_r_putI rfl ho qF_6_41 (by decide) rfl rfl rfl (fun _ => rfl) hc hd
theorem qF_6_47 : ab_lk ab_pF (1000 * 6 + 47) = some (6, 6, 0) := by decide +kernel
theorem gF_6_47 (ho : ab_ow k = 6) (hc : ab_code k = cc) (hd : decode cc pc = .ok (.getfield 47, 3)) : ab_Run X k pc bd L (ab_R a :: st) σ Q ↔ (ab_sh σ a).1 = 7 ∧ ab_Run X k (pc + 3) bd L (ab_I (ab_rd σ a 6) :: st) σ Q := ab_r_getI rfl ho qF_6_47 (by decide) rfl rfl (fun _ => rfl) hc hd
theorem sF_6_47 (ho : ab_ow k = 6) (hc : ab_code k = cc) (hd : decode cc pc = .ok (.putfield 47, 3)) : ab_Run X k pc bd L (ab_I z :: ab_R a :: st) σ Q ↔ (ab_sh σ a).1 = 7 ∧ ab_Run X k (pc + 3) bd L st (ab_wr σ a 6 z) Q := ab_r_putI rfl ho qF_6_47 (by decide) rfl rfl rfl (fun _ => rfl) hc hd
theorem qF_6_51 : ab_lk ab_pF (1000 * 6 + 51) = some (6, 7, 0) := by decide +kernel
theorem gF_6_51 (ho : ab_ow k = 6) (hc : ab_code k = cc) (hd : decode cc pc = .ok (.getfield 51, 3)) : ab_Run X k pc bd L (ab_R a :: st) σ Q ↔ (ab_sh σ a).1 = 7 ∧ ab_Run X k (pc + 3) bd L (ab_I (ab_rd σ a 7) :: st) σ Q := ab_r_getI rfl ho qF_6_51 (by decide) rfl rfl (fun _ => rfl) hc hd
theorem sF_6_51 (ho : ab_ow k = 6) (hc : ab_code k = cc) (hd : decode cc pc = .ok (.putfield 51, 3)) : ab_Run X k pc bd L (ab_I z :: ab_R a :: st) σ Q ↔ (ab_sh σ a).1 = 7 ∧ ab_Run X k (pc + 3) bd L st (ab_wr σ a 7 z) Q := ab_r_putI rfl ho qF_6_51 (by decide) rfl rfl rfl (fun _ => rfl) hc hd
theorem qF_6_55 : ab_lk ab_pF (1000 * 6 + 55) = some (6, 8, 0) := by decide +kernel
theorem gF_6_55 (ho : ab_ow k = 6) (hc : ab_code k = cc) (hd : decode cc pc = .ok (.getfield 55, 3)) : ab_Run X k pc bd L (ab_R a :: st) σ Q ↔ (ab_sh σ a).1 = 7 ∧ ab_Run X k (pc + 3) bd L (ab_I (ab_rd σ a 8) :: st) σ Q := ab_r_getI rfl ho qF_6_55 (by decide) rfl rfl (fun _ => rfl) hc hd
theorem sF_6_55 (ho : ab_ow k = 6) (hc : ab_code k = cc) (hd : decode cc pc = .ok (.putfield 55, 3)) : ab_Run X k pc bd L (ab_I z :: ab_R a :: st) σ Q ↔ (ab_sh σ a).1 = 7 ∧ ab_Run X k (pc + 3) bd L st (ab_wr σ a 8 z) Q := ab_r_putI rfl ho qF_6_55 (by decide) rfl rfl rfl (fun _ => rfl) hc hd
theorem qF_6_61 : ab_lk ab_pF (1000 * 6 + 61) = some (6, 9, 0) := by decide +kernel
theorem gF_6_61 (ho : ab_ow k = 6) (hc : ab_code k = cc) (hd : decode cc pc = .ok (.getfield 61, 3)) : ab_Run X k pc bd L (ab_R a :: st) σ Q ↔ (ab_sh σ a).1 = 7 ∧ ab_Run X k (pc + 3) bd L (ab_I (ab_rd σ a 9) :: st) σ Q := ab_r_getI rfl ho qF_6_61 (by decide) rfl rfl (fun _ => rfl) hc hd
theorem sF_6_61 (ho : ab_ow k = 6) (hc : ab_code k = cc) (hd : decode cc pc = .ok (.putfield 61, 3)) : ab_Run X k pc bd L (ab_I z :: ab_R a :: st) σ Q ↔ (ab_sh σ a).1 = 7 ∧ ab_Run X k (pc + 3) bd L st (ab_wr σ a 9 z) Q := ab_r_putI rfl ho qF_6_61 (by decide) rfl rfl rfl (fun _ => rfl) hc hd
theorem qF_2_13 : ab_lk ab_pF (1000 * 2 + 13) = some (2, 0, 0) := by decide +kernel
theorem gF_2_13 (ho : ab_ow k = 2) (hc : ab_code k = cc) (hd : decode cc pc = .ok (.getfield 13, 3)) : ab_Run X k pc bd L (ab_R a :: st) σ Q ↔ (ab_sh σ a).1 = 3 ∧ ab_Run X k (pc + 3) bd L (ab_R (ab_rd σ a 0) :: st) σ Q := ab_r_getR rfl ho qF_2_13 (by decide) rfl rfl (fun _ => rfl) hc hd
theorem qF_2_17 : ab_lk ab_pF (1000 * 2 + 17) = some (2, 1, 0) := by decide +kernel
theorem gF_2_17 (ho : ab_ow k = 2) (hc : ab_code k = cc) (hd : decode cc pc = .ok (.getfield 17, 3)) : ab_Run X k pc bd L (ab_R a :: st) σ Q ↔ (ab_sh σ a).1 = 3 ∧ ab_Run X k (pc + 3) bd L (ab_R (ab_rd σ a 1) :: st) σ Q := ab_r_getR rfl ho qF_2_17 (by decide) rfl rfl (fun _ => rfl) hc hd
theorem qF_2_20 : ab_lk ab_pF (1000 * 2 + 20) = some (2, 2, 0) := by decide +kernel
theorem gF_2_20 (ho : ab_ow k = 2) (hc : ab_code k = cc) (hd : decode cc pc = .ok (.getfield 20, 3)) : ab_Run X k pc bd L (ab_R a :: st) σ Q ↔ (ab_sh σ a).1 = 3 ∧ ab_Run X k (pc + 3) bd L (ab_R (ab_rd σ a 2) :: st) σ Q := ab_r_getR rfl ho qF_2_20 (by decide) rfl rfl (fun _ => rfl) hc hd
theorem qF_2_24 : ab_lk ab_pF (1000 * 2 + 24) = some (2, 3, 0) := by decide +kernel
theorem gF_2_24 (ho : ab_ow k = 2) (hc : ab_code k = cc) (hd : decode cc pc = .ok (.getfield 24, 3)) : ab_Run X k pc bd L (ab_R a :: st) σ Q ↔ (ab_sh σ a).1 = 3 ∧ ab_Run X k (pc + 3) bd L (ab_R (ab_rd σ a 3) :: st) σ Q := ab_r_getR rfl ho qF_2_24 (by decide) rfl rfl (fun _ => rfl) hc hd
theorem qF_2_29 : ab_lk ab_pF (1000 * 2 + 29) = some (2, 4, 0) := by decide +kernel
theorem gF_2_29 (ho : ab_ow k = 2) (hc : ab_code k = cc) (hd : decode cc pc = .ok (.getfield 29, 3)) : ab_Run X k pc bd L (ab_R a :: st) σ Q ↔ (ab_sh σ a).1 = 3 ∧ ab_Run X k (pc + 3) bd L (ab_R (ab_rd σ a 4) :: st) σ Q := ab_r_getR rfl ho qF_2_29 (by decide) rfl rfl (fun _ => rfl) hc hd
theorem qF_2_32 : ab_lk ab_pF (1000 * 2 + 32) = some (2, 5, 0) := by decide +kernel
theorem gF_2_32 (ho : ab_ow k = 2) (hc : ab_code k = cc) (hd : decode cc pc = .ok (.getfield 32, 3)) : ab_Run X k pc bd L (ab_R a :: st) σ Q ↔ (ab_sh σ a).1 = 3 ∧ ab_Run X k (pc + 3) bd L (ab_R (ab_rd σ a 5) :: st) σ Q := ab_r_getR rfl ho qF_2_32 (by decide) rfl rfl (fun _ => rfl) hc hd
theorem qF_2_35 : ab_lk ab_pF (1000 * 2 + 35) = some (2, 6, 0) := by decide +kernel
theorem gF_2_35 (ho : ab_ow k = 2) (hc : ab_code k = cc) (hd : decode cc pc = .ok (.getfield 35, 3)) : ab_Run X k pc bd L (ab_R a :: st) σ Q ↔ (ab_sh σ a).1 = 3 ∧ ab_Run X k (pc + 3) bd L (ab_R (ab_rd σ a 6) :: st) σ Q := ab_r_getR rfl ho qF_2_35 (by decide) rfl rfl (fun _ => rfl) hc hd
theorem qF_2_38 : ab_lk ab_pF (1000 * 2 + 38) = some (2, 7, 0) := by decide +kernel
theorem gF_2_38 (ho : ab_ow k = 2) (hc : ab_code k = cc) (hd : decode cc pc = .ok (.getfield 38, 3)) : ab_Run X k pc bd L (ab_R a :: st) σ Q ↔ (ab_sh σ a).1 = 3 ∧ ab_Run X k (pc + 3) bd L (ab_R (ab_rd σ a 7) :: st) σ Q := ab_r_getR rfl ho qF_2_38 (by decide) rfl rfl (fun _ => rfl) hc hd
theorem qF_2_66 : ab_lk ab_pF (1000 * 2 + 66) = some (2, 8, 0) := by decide +kernel
theorem gF_2_66 (ho : ab_ow k = 2) (hc : ab_code k = cc) (hd : decode cc pc = .ok (.getfield 66, 3)) : ab_Run X k pc bd L (ab_R a :: st) σ Q ↔ (ab_sh σ a).1 = 3 ∧ ab_Run X k (pc + 3) bd L (ab_I (ab_rd σ a 8) :: st) σ Q := ab_r_getI rfl ho qF_2_66 (by decide) rfl rfl (fun _ => rfl) hc hd
theorem sF_2_66 (ho : ab_ow k = 2) (hc : ab_code k = cc) (hd : decode cc pc = .ok (.putfield 66, 3)) : ab_Run X k pc bd L (ab_I z :: ab_R a :: st) σ Q ↔ (ab_sh σ a).1 = 3 ∧ ab_Run X k (pc + 3) bd L st (ab_wr σ a 8 z) Q := ab_r_putI rfl ho qF_2_66 (by decide) rfl rfl rfl (fun _ => rfl) hc hd
theorem qF_2_84 : ab_lk ab_pF (1000 * 2 + 84) = some (2, 9, 0) := by decide +kernel
theorem gF_2_84 (ho : ab_ow k = 2) (hc : ab_code k = cc) (hd : decode cc pc = .ok (.getfield 84, 3)) : ab_Run X k pc bd L (ab_R a :: st) σ Q ↔ (ab_sh σ a).1 = 3 ∧ ab_Run X k (pc + 3) bd L (ab_I (ab_rd σ a 9) :: st) σ Q := ab_r_getI rfl ho qF_2_84 (by decide) rfl rfl (fun _ => rfl) hc hd
theorem sF_2_84 (ho : ab_ow k = 2) (hc : ab_code k = cc) (hd : decode cc pc = .ok (.putfield 84, 3)) : ab_Run X k pc bd L (ab_I z :: ab_R a :: st) σ Q ↔ (ab_sh σ a).1 = 3 ∧ ab_Run X k (pc + 3) bd L st (ab_wr σ a 9 z) Q := ab_r_putI rfl ho qF_2_84 (by decide) rfl rfl rfl (fun _ => rfl) hc hd
theorem qF_10_9 : ab_lk ab_pF (1000 * 10 + 9) = some (10, 0, 0) := by decide +kernel
theorem gF_10_9 (ho : ab_ow k = 10) (hc : ab_code k = cc) (hd : decode cc pc = .ok (.getfield 9, 3)) : ab_Run X k pc bd L (ab_R a :: st) σ Q ↔ (ab_sh σ a).1 = 11 ∧ ab_Run X k (pc + 3) bd L (ab_R (ab_rd σ a 0) :: st) σ Q := ab_r_getR rfl ho qF_10_9 (by decide) rfl rfl (fun _ => rfl) hc hd
theorem qF_11_277 : ab_lk ab_pF (1000 * 11 + 277) = some (10, 0, 0) := by decide +kernel
theorem gF_11_277 (ho : ab_ow k = 11) (hc : ab_code k = cc) (hd : decode cc pc = .ok (.getfield 277, 3)) : ab_Run X k pc bd L (ab_R a :: st) σ Q ↔ (ab_sh σ a).1 = 11 ∧ ab_Run X k (pc + 3) bd L (ab_R (ab_rd σ a 0) :: st) σ Q := ab_r_getR rfl ho qF_11_277 (by decide) rfl rfl (fun _ => rfl) hc hd
theorem qF_10_15 : ab_lk ab_pF (1000 * 10 + 15) = some (10, 1, 0) := by decide +kernel
theorem gF_10_15 (ho : ab_ow k = 10) (hc : ab_code k = cc) (hd : decode cc pc = .ok (.getfield 15, 3)) : ab_Run X k pc bd L (ab_R a :: st) σ Q ↔ (ab_sh σ a).1 = 11 ∧ ab_Run X k (pc + 3) bd L (ab_R (ab_rd σ a 1) :: st) σ Q := ab_r_getR rfl ho qF_10_15 (by decide) rfl rfl (fun _ => rfl) hc hd
theorem qF_10_24 : ab_lk ab_pF (1000 * 10 + 24) = some (10, 2, 0) := by decide +kernel
theorem gF_10_24 (ho : ab_ow k = 10) (hc : ab_code k = cc) (hd : decode cc pc = .ok (.getfield 24, 3)) : ab_Run X k pc bd L (ab_R a :: st) σ Q ↔ (ab_sh σ a).1 = 11 ∧ ab_Run X k (pc + 3) bd L (ab_I (ab_rd σ a 2) :: st) σ Q := ab_r_getI rfl ho qF_10_24 (by decide) rfl rfl (fun _ => rfl) hc hd
theorem sF_10_24 (ho : ab_ow k = 10) (hc : ab_code k = cc) (hd : decode cc pc = .ok (.putfield 24, 3)) : ab_Run X k pc bd L (ab_I z :: ab_R a :: st) σ Q ↔ (ab_sh σ a).1 = 11 ∧ ab_Run X k (pc + 3) bd L st (ab_wr σ a 2 z) Q := ab_r_putI rfl ho qF_10_24 (by decide) rfl rfl rfl (fun _ => rfl) hc hd
theorem qF_10_28 : ab_lk ab_pF (1000 * 10 + 28) = some (10, 3, 0) := by decide +kernel
theorem gF_10_28 (ho : ab_ow k = 10) (hc : ab_code k = cc) (hd : decode cc pc = .ok (.getfield 28, 3)) : ab_Run X k pc bd L (ab_R a :: st) σ Q ↔ (ab_sh σ a).1 = 11 ∧ ab_Run X k (pc + 3) bd L (ab_I (ab_rd σ a 3) :: st) σ Q := ab_r_getI rfl ho qF_10_28 (by decide) rfl rfl (fun _ => rfl) hc hd
theorem sF_10_28 (ho : ab_ow k = 10) (hc : ab_code k = cc) (hd : decode cc pc = .ok (.putfield 28, 3)) : ab_Run X k pc bd L (ab_I z :: ab_R a :: st) σ Q ↔ (ab_sh σ a).1 = 11 ∧ ab_Run X k (pc + 3) bd L st (ab_wr σ a 3 z) Q := ab_r_putI rfl ho qF_10_28 (by decide) rfl rfl rfl (fun _ => rfl) hc hd
theorem qF_11_10 : ab_lk ab_pF (1000 * 11 + 10) = some (11, 0, 0) := by decide +kernel
theorem gF_11_10 (ho : ab_ow k = 11) (hc : ab_code k = cc) (hd : decode cc pc = .ok (.getfield 10, 3)) : ab_Run X k pc bd L (ab_R a :: st) σ Q ↔ (ab_sh σ a).1 = 12 ∧ ab_Run X k (pc + 3) bd L (ab_R (ab_rd σ a 0) :: st) σ Q := ab_r_getR rfl ho qF_11_10 (by decide) rfl rfl (fun _ => rfl) hc hd
theorem qF_11_19 : ab_lk ab_pF (1000 * 11 + 19) = some (11, 1, 0) := by decide +kernel
theorem gF_11_19 (ho : ab_ow k = 11) (hc : ab_code k = cc) (hd : decode cc pc = .ok (.getfield 19, 3)) : ab_Run X k pc bd L (ab_R a :: st) σ Q ↔ (ab_sh σ a).1 = 12 ∧ ab_Run X k (pc + 3) bd L (ab_R (ab_rd σ a 1) :: st) σ Q := ab_r_getR rfl ho qF_11_19 (by decide) rfl rfl (fun _ => rfl) hc hd
theorem qF_11_26 : ab_lk ab_pF (1000 * 11 + 26) = some (11, 2, 0) := by decide +kernel
theorem gF_11_26 (ho : ab_ow k = 11) (hc : ab_code k = cc) (hd : decode cc pc = .ok (.getfield 26, 3)) : ab_Run X k pc bd L (ab_R a :: st) σ Q ↔ (ab_sh σ a).1 = 12 ∧ ab_Run X k (pc + 3) bd L (ab_R (ab_rd σ a 2) :: st) σ Q := ab_r_getR rfl ho qF_11_26 (by decide) rfl rfl (fun _ => rfl) hc hd
theorem qF_11_33 : ab_lk ab_pF (1000 * 11 + 33) = some (11, 3, 0) := by decide +kernel
theorem gF_11_33 (ho : ab_ow k = 11) (hc : ab_code k = cc) (hd : decode cc pc = .ok (.getfield 33, 3)) : ab_Run X k pc bd L (ab_R a :: st) σ Q ↔ (ab_sh σ a).1 = 12 ∧ ab_Run X k (pc + 3) bd L (ab_R (ab_rd σ a 3) :: st) σ Q := ab_r_getR rfl ho qF_11_33 (by decide) rfl rfl (fun _ => rfl) hc hd
theorem qF_11_40 : ab_lk ab_pF (1000 * 11 + 40) = some (11, 4, 0) := by decide +kernel
theorem gF_11_40 (ho : ab_ow k = 11) (hc : ab_code k = cc) (hd : decode cc pc = .ok (.getfield 40, 3)) : ab_Run X k pc bd L (ab_R a :: st) σ Q ↔ (ab_sh σ a).1 = 12 ∧ ab_Run X k (pc + 3) bd L (ab_R (ab_rd σ a 4) :: st) σ Q := ab_r_getR rfl ho qF_11_40 (by decide) rfl rfl (fun _ => rfl) hc hd
theorem qF_11_47 : ab_lk ab_pF (1000 * 11 + 47) = some (11, 5, 0) := by decide +kernel
theorem gF_11_47 (ho : ab_ow k = 11) (hc : ab_code k = cc) (hd : decode cc pc = .ok (.getfield 47, 3)) : ab_Run X k pc bd L (ab_R a :: st) σ Q ↔ (ab_sh σ a).1 = 12 ∧ ab_Run X k (pc + 3) bd L (ab_R (ab_rd σ a 5) :: st) σ Q := ab_r_getR rfl ho qF_11_47 (by decide) rfl rfl (fun _ => rfl) hc hd
theorem qF_11_51 : ab_lk ab_pF (1000 * 11 + 51) = some (11, 6, 0) := by decide +kernel
theorem gF_11_51 (ho : ab_ow k = 11) (hc : ab_code k = cc) (hd : decode cc pc = .ok (.getfield 51, 3)) : ab_Run X k pc bd L (ab_R a :: st) σ Q ↔ (ab_sh σ a).1 = 12 ∧ ab_Run X k (pc + 3) bd L (ab_R (ab_rd σ a 6) :: st) σ Q := ab_r_getR rfl ho qF_11_51 (by decide) rfl rfl (fun _ => rfl) hc hd
theorem qF_11_58 : ab_lk ab_pF (1000 * 11 + 58) = some (11, 7, 0) := by decide +kernel
theorem gF_11_58 (ho : ab_ow k = 11) (hc : ab_code k = cc) (hd : decode cc pc = .ok (.getfield 58, 3)) : ab_Run X k pc bd L (ab_R a :: st) σ Q ↔ (ab_sh σ a).1 = 12 ∧ ab_Run X k (pc + 3) bd L (ab_R (ab_rd σ a 7) :: st) σ Q := ab_r_getR rfl ho qF_11_58 (by decide) rfl rfl (fun _ => rfl) hc hd
theorem sF_11_58 (ho : ab_ow k = 11) (hc : ab_code k = cc) (hd : decode cc pc = .ok (.putfield 58, 3)) : ab_Run X k pc bd L (ab_R z :: ab_R a :: st) σ Q ↔ (ab_sh σ a).1 = 12 ∧ ab_Run X k (pc + 3) bd L st (ab_wr σ a 7 z) Q := ab_r_putR rfl ho qF_11_58 (by decide) rfl rfl rfl (fun _ => rfl) hc hd
theorem qF_11_62 : ab_lk ab_pF (1000 * 11 + 62) = some (11, 8, 0) := by decide +kernel
theorem gF_11_62 (ho : ab_ow k = 11) (hc : ab_code k = cc) (hd : decode cc pc = .ok (.getfield 62, 3)) : ab_Run X k pc bd L (ab_R a :: st) σ Q ↔ (ab_sh σ a).1 = 12 ∧ ab_Run X k (pc + 3) bd L (ab_I (ab_rd σ a 8) :: st) σ Q := ab_r_getI rfl ho qF_11_62 (by decide) rfl rfl (fun _ => rfl) hc hd
theorem sF_11_62 (ho : ab_ow k = 11) (hc : ab_code k = cc) (hd : decode cc pc = .ok (.putfield 62, 3)) : ab_Run X k pc bd L (ab_I z :: ab_R a :: st) σ Q ↔ (ab_sh σ a).1 = 12 ∧ ab_Run X k (pc + 3) bd L st (ab_wr σ a 8 z) Q := ab_r_putI rfl ho qF_11_62 (by decide) rfl rfl rfl (fun _ => rfl) hc hd
theorem qF_13_53 : ab_lk ab_pF (1000 * 13 + 53) = some (13, 0, 0) := by decide +kernel
theorem gF_13_53 (ho : ab_ow k = 13) (hc : ab_code k = cc) (hd : decode cc pc = .ok (.getfield 53, 3)) : ab_Run X k pc bd L (ab_R a :: st) σ Q ↔ (ab_sh σ a).1 = 14 ∧ ab_Run X k (pc + 3) bd L (ab_I (ab_rd σ a 0) :: st) σ Q := ab_r_getI rfl ho qF_13_53 (by decide) rfl rfl (fun _ => rfl) hc hd
theorem sF_13_53 (ho : ab_ow k = 13) (hc : ab_code k = cc) (hd : decode cc pc = .ok (.putfield 53, 3)) : ab_Run X k pc bd L (ab_I z :: ab_R a :: st) σ Q ↔ (ab_sh σ a).1 = 14 ∧ ab_Run X k (pc + 3) bd L st (ab_wr σ a 0 z) Q := ab_r_putI rfl ho qF_13_53 (by decide) rfl rfl rfl (fun _ => rfl) hc hd
theorem qF_13_56 : ab_lk ab_pF (1000 * 13 + 56) = some (13, 1, 0) := by decide +kernel
theorem gF_13_56 (ho : ab_ow k = 13) (hc : ab_code k = cc) (hd : decode cc pc = .ok (.getfield 56, 3)) : ab_Run X k pc bd L (ab_R a :: st) σ Q ↔ (ab_sh σ a).1 = 14 ∧ ab_Run X k (pc + 3) bd L (ab_I (ab_rd σ a 1) :: st) σ Q := ab_r_getI rfl ho qF_13_56 (by decide) rfl rfl (fun _ => rfl) hc hd
theorem sF_13_56 (ho : ab_ow k = 13) (hc : ab_code k = cc) (hd : decode cc pc = .ok (.putfield 56, 3)) : ab_Run X k pc bd L (ab_I z :: ab_R a :: st) σ Q ↔ (ab_sh σ a).1 = 14 ∧ ab_Run X k (pc + 3) bd L st (ab_wr σ a 1 z) Q := ab_r_putI rfl ho qF_13_56 (by decide) rfl rfl rfl (fun _ => rfl) hc hd
theorem qF_13_9 : ab_lk ab_pF (1000 * 13 + 9) = some (13, 2, 0) := by decide +kernel
theorem gF_13_9 (ho : ab_ow k = 13) (hc : ab_code k = cc) (hd : decode cc pc = .ok (.getfield 9, 3)) : ab_Run X k pc bd L (ab_R a :: st) σ Q ↔ (ab_sh σ a).1 = 14 ∧ ab_Run X k (pc + 3) bd L (ab_I (ab_rd σ a 2) :: st) σ Q := ab_r_getI rfl ho qF_13_9 (by decide) rfl rfl (fun _ => rfl) hc hd
theorem sF_13_9 (ho : ab_ow k = 13) (hc : ab_code k = cc) (hd : decode cc pc = .ok (.putfield 9, 3)) : ab_Run X k pc bd L (ab_I z :: ab_R a :: st) σ Q ↔ (ab_sh σ a).1 = 14 ∧ ab_Run X k (pc + 3) bd L st (ab_wr σ a 2 z) Q := ab_r_putI rfl ho qF_13_9 (by decide) rfl rfl rfl (fun _ => rfl) hc hd
theorem qF_13_373 : ab_lk ab_pF (1000 * 13 + 373) = some (13, 3, 0) := by decide +kernel
theorem gF_13_373 (ho : ab_ow k = 13) (hc : ab_code k = cc) (hd : decode cc pc = .ok (.getfield 373, 3)) : ab_Run X k pc bd L (ab_R a :: st) σ Q ↔ (ab_sh σ a).1 = 14 ∧ ab_Run X k (pc + 3) bd L (ab_R (ab_rd σ a 3) :: st) σ Q := ab_r_getR rfl ho qF_13_373 (by decide) rfl rfl (fun _ => rfl) hc hd
theorem sF_13_373 (ho : ab_ow k = 13) (hc : ab_code k = cc) (hd : decode cc pc = .ok (.putfield 373, 3)) : ab_Run X k pc bd L (ab_R z :: ab_R a :: st) σ Q ↔ (ab_sh σ a).1 = 14 ∧ ab_Run X k (pc + 3) bd L st (ab_wr σ a 3 z) Q := ab_r_putR rfl ho qF_13_373 (by decide) rfl rfl rfl (fun _ => rfl) hc hd
theorem qF_13_171 : ab_lk ab_pF (1000 * 13 + 171) = some (13, 4, 0) := by decide +kernel
theorem gF_13_171 (ho : ab_ow k = 13) (hc : ab_code k = cc) (hd : decode cc pc = .ok (.getfield 171, 3)) : ab_Run X k pc bd L (ab_R a :: st) σ Q ↔ (ab_sh σ a).1 = 14 ∧ ab_Run X k (pc + 3) bd L (ab_R (ab_rd σ a 4) :: st) σ Q := ab_r_getR rfl ho qF_13_171 (by decide) rfl rfl (fun _ => rfl) hc hd
theorem sF_13_171 (ho : ab_ow k = 13) (hc : ab_code k = cc) (hd : decode cc pc = .ok (.putfield 171, 3)) : ab_Run X k pc bd L (ab_R z :: ab_R a :: st) σ Q ↔ (ab_sh σ a).1 = 14 ∧ ab_Run X k (pc + 3) bd L st (ab_wr σ a 4 z) Q := ab_r_putR rfl ho qF_13_171 (by decide) rfl rfl rfl (fun _ => rfl) hc hd
theorem qF_13_13 : ab_lk ab_pF (1000 * 13 + 13) = some (13, 5, 0) := by decide +kernel
theorem gF_13_13 (ho : ab_ow k = 13) (hc : ab_code k = cc) (hd : decode cc pc = .ok (.getfield 13, 3)) : ab_Run X k pc bd L (ab_R a :: st) σ Q ↔ (ab_sh σ a).1 = 14 ∧ ab_Run X k (pc + 3) bd L (ab_R (ab_rd σ a 5) :: st) σ Q := ab_r_getR rfl ho qF_13_13 (by decide) rfl rfl (fun _ => rfl) hc hd
theorem qF_13_366 : ab_lk ab_pF (1000 * 13 + 366) = some (13, 6, 0) := by decide +kernel
theorem gF_13_366 (ho : ab_ow k = 13) (hc : ab_code k = cc) (hd : decode cc pc = .ok (.getfield 366, 3)) : ab_Run X k pc bd L (ab_R a :: st) σ Q ↔ (ab_sh σ a).1 = 14 ∧ ab_Run X k (pc + 3) bd L (ab_I (ab_rd σ a 6) :: st) σ Q := ab_r_getI rfl ho qF_13_366 (by decide) rfl rfl (fun _ => rfl) hc hd
theorem sF_13_366 (ho : ab_ow k = 13) (hc : ab_code k = cc) (hd : decode cc pc = .ok (.putfield 366, 3)) : ab_Run X k pc bd L (ab_I z :: ab_R a :: st) σ Q ↔ (ab_sh σ a).1 = 14 ∧ ab_Run X k (pc + 3) bd L st (ab_wr σ a 6 z) Q := ab_r_putI rfl ho qF_13_366 (by decide) rfl rfl rfl (fun _ => rfl) hc hd
theorem qF_13_70 : ab_lk ab_pF (1000 * 13 + 70) = some (13, 7, 0) := by decide +kernel
theorem gF_13_70 (ho : ab_ow k = 13) (hc : ab_code k = cc) (hd : decode cc pc = .ok (.getfield 70, 3)) : ab_Run X k pc bd L (ab_R a :: st) σ Q ↔ (ab_sh σ a).1 = 14 ∧ ab_Run X k (pc + 3) bd L (ab_I (ab_rd σ a 7) :: st) σ Q := ab_r_getI rfl ho qF_13_70 (by decide) rfl rfl (fun _ => rfl) hc hd
theorem sF_13_70 (ho : ab_ow k = 13) (hc : ab_code k = cc) (hd : decode cc pc = .ok (.putfield 70, 3)) : ab_Run X k pc bd L (ab_I z :: ab_R a :: st) σ Q ↔ (ab_sh σ a).1 = 14 ∧ ab_Run X k (pc + 3) bd L st (ab_wr σ a 7 z) Q := ab_r_putI rfl ho qF_13_70 (by decide) rfl rfl rfl (fun _ => rfl) hc hd
theorem qF_13_88 : ab_lk ab_pF (1000 * 13 + 88) = some (13, 8, 0) := by decide +kernel
theorem gF_13_88 (ho : ab_ow k = 13) (hc : ab_code k = cc) (hd : decode cc pc = .ok (.getfield 88, 3)) : ab_Run X k pc bd L (ab_R a :: st) σ Q ↔ (ab_sh σ a).1 = 14 ∧ ab_Run X k (pc + 3) bd L (ab_I (ab_rd σ a 8) :: st) σ Q := ab_r_getI rfl ho qF_13_88 (by decide) rfl rfl (fun _ => rfl) hc hd
theorem sF_13_88 (ho : ab_ow k = 13) (hc : ab_code k = cc) (hd : decode cc pc = .ok (.putfield 88, 3)) : ab_Run X k pc bd L (ab_I z :: ab_R a :: st) σ Q ↔ (ab_sh σ a).1 = 14 ∧ ab_Run X k (pc + 3) bd L st (ab_wr σ a 8 z) Q := ab_r_putI rfl ho qF_13_88 (by decide) rfl rfl rfl (fun _ => rfl) hc hd
theorem qF_13_85 : ab_lk ab_pF (1000 * 13 + 85) = some (13, 9, 0) := by decide +kernel
theorem gF_13_85 (ho : ab_ow k = 13) (hc : ab_code k = cc) (hd : decode cc pc = .ok (.getfield 85, 3)) : ab_Run X k pc bd L (ab_R a :: st) σ Q ↔ (ab_sh σ a).1 = 14 ∧ ab_Run X k (pc + 3) bd L (ab_I (ab_rd σ a 9) :: st) σ Q := ab_r_getI rfl ho qF_13_85 (by decide) rfl rfl (fun _ => rfl) hc hd
theorem sF_13_85 (ho : ab_ow k = 13) (hc : ab_code k = cc) (hd : decode cc pc = .ok (.putfield 85, 3)) : ab_Run X k pc bd L (ab_I z :: ab_R a :: st) σ Q ↔ (ab_sh σ a).1 = 14 ∧ ab_Run X k (pc + 3) bd L st (ab_wr σ a 9 z) Q := ab_r_putI rfl ho qF_13_85 (by decide) rfl rfl rfl (fun _ => rfl) hc hd
theorem qF_13_94 : ab_lk ab_pF (1000 * 13 + 94) = some (13, 10, 0) := by decide +kernel
theorem gF_13_94 (ho : ab_ow k = 13) (hc : ab_code k = cc) (hd : decode cc pc = .ok (.getfield 94, 3)) : ab_Run X k pc bd L (ab_R a :: st) σ Q ↔ (ab_sh σ a).1 = 14 ∧ ab_Run X k (pc + 3) bd L (ab_I (ab_rd σ a 10) :: st) σ Q := ab_r_getI rfl ho qF_13_94 (by decide) rfl rfl (fun _ => rfl) hc hd
theorem sF_13_94 (ho : ab_ow k = 13) (hc : ab_code k = cc) (hd : decode cc pc = .ok (.putfield 94, 3)) : ab_Run X k pc bd L (ab_I z :: ab_R a :: st) σ Q ↔ (ab_sh σ a).1 = 14 ∧ ab_Run X k (pc + 3) bd L st (ab_wr σ a 10 z) Q := ab_r_putI rfl ho qF_13_94 (by decide) rfl rfl rfl (fun _ => rfl) hc hd
theorem qF_13_97 : ab_lk ab_pF (1000 * 13 + 97) = some (13, 11, 0) := by decide +kernel
theorem gF_13_97 (ho : ab_ow k = 13) (hc : ab_code k = cc) (hd : decode cc pc = .ok (.getfield 97, 3)) : ab_Run X k pc bd L (ab_R a :: st) σ Q ↔ (ab_sh σ a).1 = 14 ∧ ab_Run X k (pc + 3) bd L (ab_I (ab_rd σ a 11) :: st) σ Q := ab_r_getI rfl ho qF_13_97 (by decide) rfl rfl (fun _ => rfl) hc hd
theorem sF_13_97 (ho : ab_ow k = 13) (hc : ab_code k = cc) (hd : decode cc pc = .ok (.putfield 97, 3)) : ab_Run X k pc bd L (ab_I z :: ab_R a :: st) σ Q ↔ (ab_sh σ a).1 = 14 ∧ ab_Run X k (pc + 3) bd L st (ab_wr σ a 11 z) Q := ab_r_putI rfl ho qF_13_97 (by decide) rfl rfl rfl (fun _ => rfl) hc hd
theorem qF_13_111 : ab_lk ab_pF (1000 * 13 + 111) = some (13, 12, 0) := by decide +kernel
theorem gF_13_111 (ho : ab_ow k = 13) (hc : ab_code k = cc) (hd : decode cc pc = .ok (.getfield 111, 3)) : ab_Run X k pc bd L (ab_R a :: st) σ Q ↔ (ab_sh σ a).1 = 14 ∧ ab_Run X k (pc + 3) bd L (ab_I (ab_rd σ a 12) :: st) σ Q := ab_r_getI rfl ho qF_13_111 (by decide) rfl rfl (fun _ => rfl) hc hd
theorem sF_13_111 (ho : ab_ow k = 13) (hc : ab_code k = cc) (hd : decode cc pc = .ok (.putfield 111, 3)) : ab_Run X k pc bd L (ab_I z :: ab_R a :: st) σ Q ↔ (ab_sh σ a).1 = 14 ∧ ab_Run X k (pc + 3) bd L st (ab_wr σ a 12 z) Q := ab_r_putI rfl ho qF_13_111 (by decide) rfl rfl rfl (fun _ => rfl) hc hd
theorem qF_13_114 : ab_lk ab_pF (1000 * 13 + 114) = some (13, 13, 0) := by decide +kernel
theorem gF_13_114 (ho : ab_ow k = 13) (hc : ab_code k = cc) (hd : decode cc pc = .ok (.getfield 114, 3)) : ab_Run X k pc bd L (ab_R a :: st) σ Q ↔ (ab_sh σ a).1 = 14 ∧ ab_Run X k (pc + 3) bd L (ab_I (ab_rd σ a 13) :: st) σ Q := ab_r_getI rfl ho qF_13_114 (by decide) rfl rfl (fun _ => rfl) hc hd
theorem sF_13_114 (ho : ab_ow k = 13) (hc : ab_code k = cc) (hd : decode cc pc = .ok (.putfield 114, 3)) : ab_Run X k pc bd L (ab_I z :: ab_R a :: st) σ Q ↔ (ab_sh σ a).1 = 14 ∧ ab_Run X k (pc + 3) bd L st (ab_wr σ a 13 z) Q := ab_r_putI rfl ho qF_13_114 (by decide) rfl rfl rfl (fun _ => rfl) hc hd
theorem qF_13_117 : ab_lk ab_pF (1000 * 13 + 117) = some (13, 14, 0) := by decide +kernel
theorem gF_13_117 (ho : ab_ow k = 13) (hc : ab_code k = cc) (hd : decode cc pc = .ok (.getfield 117, 3)) : ab_Run X k pc bd L (ab_R a :: st) σ Q ↔ (ab_sh σ a).1 = 14 ∧ ab_Run X k (pc + 3) bd L (ab_I (ab_rd σ a 14) :: st) σ Q := ab_r_getI rfl ho qF_13_117 (by decide) rfl rfl (fun _ => rfl) hc hd
theorem sF_13_117 (ho : ab_ow k = 13) (hc : ab_code k = cc) (hd : decode cc pc = .ok (.putfield 117, 3)) : ab_Run X k pc bd L (ab_I z :: ab_R a :: st) σ Q ↔ (ab_sh σ a).1 = 14 ∧ ab_Run X k (pc + 3) bd L st (ab_wr σ a 14 z) Q := ab_r_putI rfl ho qF_13_117 (by decide) rfl rfl rfl (fun _ => rfl) hc hd
theorem qF_13_104 : ab_lk ab_pF (1000 * 13 + 104) = some (13, 15, 0) := by decide +kernel
theorem gF_13_104 (ho : ab_ow k = 13) (hc : ab_code k = cc) (hd : decode cc pc = .ok (.getfield 104, 3)) : ab_Run X k pc bd L (ab_R a :: st) σ Q ↔ (ab_sh σ a).1 = 14 ∧ ab_Run X k (pc + 3) bd L (ab_J (ab_rd σ a 15) :: st) σ Q := ab_r_getJ rfl ho qF_13_104 (by decide) rfl rfl (fun _ => rfl) hc hd
theorem sF_13_104 (ho : ab_ow k = 13) (hc : ab_code k = cc) (hd : decode cc pc = .ok (.putfield 104, 3)) : ab_Run X k pc bd L (ab_J z :: ab_R a :: st) σ Q ↔ (ab_sh σ a).1 = 14 ∧ ab_Run X k (pc + 3) bd L st (ab_wr σ a 15 z) Q := ab_r_putJ rfl ho qF_13_104 (by decide) rfl rfl rfl (fun _ => rfl) hc hd
theorem qF_13_17 : ab_lk ab_pF (1000 * 13 + 17) = some (13, 16, 0) := by decide +kernel
theorem gF_13_17 (ho : ab_ow k = 13) (hc : ab_code k = cc) (hd : decode cc pc = .ok (.getfield 17, 3)) : ab_Run X k pc bd L (ab_R a :: st) σ Q ↔ (ab_sh σ a).1 = 14 ∧ ab_Run X k (pc + 3) bd L (ab_R (ab_rd σ a 16) :: st) σ Q := ab_r_getR rfl ho qF_13_17 (by decide) rfl rfl (fun _ => rfl) hc hd
theorem qF_13_21 : ab_lk ab_pF (1000 * 13 + 21) = some (13, 17, 0) := by decide +kernel
theorem gF_13_21 (ho : ab_ow k = 13) (hc : ab_code k = cc) (hd : decode cc pc = .ok (.getfield 21, 3)) : ab_Run X k pc bd L (ab_R a :: st) σ Q ↔ (ab_sh σ a).1 = 14 ∧ ab_Run X k (pc + 3) bd L (ab_R (ab_rd σ a 17) :: st) σ Q := ab_r_getR rfl ho qF_13_21 (by decide) rfl rfl (fun _ => rfl) hc hd
theorem qF_13_24 : ab_lk ab_pF (1000 * 13 + 24) = some (13, 18, 0) := by decide +kernel
theorem gF_13_24 (ho : ab_ow k = 13) (hc : ab_code k = cc) (hd : decode cc pc = .ok (.getfield 24, 3)) : ab_Run X k pc bd L (ab_R a :: st) σ Q ↔ (ab_sh σ a).1 = 14 ∧ ab_Run X k (pc + 3) bd L (ab_R (ab_rd σ a 18) :: st) σ Q := ab_r_getR rfl ho qF_13_24 (by decide) rfl rfl (fun _ => rfl) hc hd
theorem qF_13_375 : ab_lk ab_pF (1000 * 13 + 375) = some (13, 19, 0) := by decide +kernel
theorem gF_13_375 (ho : ab_ow k = 13) (hc : ab_code k = cc) (hd : decode cc pc = .ok (.getfield 375, 3)) : ab_Run X k pc bd L (ab_R a :: st) σ Q ↔ (ab_sh σ a).1 = 14 ∧ ab_Run X k (pc + 3) bd L (ab_I (ab_rd σ a 19) :: st) σ Q := ab_r_getI rfl ho qF_13_375 (by decide) rfl rfl (fun _ => rfl) hc hd
theorem sF_13_375 (ho : ab_ow k = 13) (hc : ab_code k = cc) (hd : decode cc pc = .ok (.putfield 375, 3)) : ab_Run X k pc bd L (ab_I z :: ab_R a :: st) σ Q ↔ (ab_sh σ a).1 = 14 ∧ ab_Run X k (pc + 3) bd L st (ab_wr σ a 19 z) Q := ab_r_putI rfl ho qF_13_375 (by decide) rfl rfl rfl (fun _ => rfl) hc hd
theorem qF_13_378 : ab_lk ab_pF (1000 * 13 + 378) = some (13, 20, 0) := by decide +kernel
theorem gF_13_378 (ho : ab_ow k = 13) (hc : ab_code k = cc) (hd : decode cc pc = .ok (.getfield 378, 3)) : ab_Run X k pc bd L (ab_R a :: st) σ Q ↔ (ab_sh σ a).1 = 14 ∧ ab_Run X k (pc + 3) bd L (ab_I (ab_rd σ a 20) :: st) σ Q := ab_r_getI rfl ho qF_13_378 (by decide) rfl rfl (fun _ => rfl) hc hd
theorem sF_13_378 (ho : ab_ow k = 13) (hc : ab_code k = cc) (hd : decode cc pc = .ok (.putfield 378, 3)) : ab_Run X k pc bd L (ab_I z :: ab_R a :: st) σ Q ↔ (ab_sh σ a).1 = 14 ∧ ab_Run X k (pc + 3) bd L st (ab_wr σ a 20 z) Q := ab_r_putI rfl ho qF_13_378 (by decide) rfl rfl rfl (fun _ => rfl) hc hd
theorem qF_13_381 : ab_lk ab_pF (1000 * 13 + 381) = some (13, 21, 0) := by decide +kernel
theorem gF_13_381 (ho : ab_ow k = 13) (hc : ab_code k = cc) (hd : decode cc pc = .ok (.getfield 381, 3)) : ab_Run X k pc bd L (ab_R a :: st) σ Q ↔ (ab_sh σ a).1 = 14 ∧ ab_Run X k (pc + 3) bd L (ab_I (ab_rd σ a 21) :: st) σ Q := ab_r_getI rfl ho qF_13_381 (by decide) rfl rfl (fun _ => rfl) hc hd
theorem sF_13_381 (ho : ab_ow k = 13) (hc : ab_code k = cc) (hd : decode cc pc = .ok (.putfield 381, 3)) : ab_Run X k pc bd L (ab_I z :: ab_R a :: st) σ Q ↔ (ab_sh σ a).1 = 14 ∧ ab_Run X k (pc + 3) bd L st (ab_wr σ a 21 z) Q := ab_r_putI rfl ho qF_13_381 (by decide) rfl rfl rfl (fun _ => rfl) hc hd
theorem qF_13_383 : ab_lk ab_pF (1000 * 13 + 383) = some (13, 22, 0) := by decide +kernel
theorem gF_13_383 (ho : ab_ow k = 13) (hc : ab_code k = cc) (hd : decode cc pc = .ok (.getfield 383, 3)) : ab_Run X k pc bd L (ab_R a :: st) σ Q ↔ (ab_sh σ a).1 = 14 ∧ ab_Run X k (pc + 3) bd L (ab_I (ab_rd σ a 22) :: st) σ Q := ab_r_getI rfl ho qF_13_383 (by decide) rfl rfl (fun _ => rfl) hc hd
theorem sF_13_383 (ho : ab_ow k = 13) (hc : ab_code k = cc) (hd : decode cc pc = .ok (.putfield 383, 3)) : ab_Run X k pc bd L (ab_I z :: ab_R a :: st) σ Q ↔ (ab_sh σ a).1 = 14 ∧ ab_Run X k (pc + 3) bd L st (ab_wr σ a 22 z) Q := ab_r_putI rfl ho qF_13_383 (by decide) rfl rfl rfl (fun _ => rfl) hc hd
theorem qF_13_389 : ab_lk ab_pF (1000 * 13 + 389) = some (13, 23, 0) := by decide +kernel
theorem gF_13_389 (ho : ab_ow k = 13) (hc : ab_code k = cc) (hd : decode cc pc = .ok (.getfield 389, 3)) : ab_Run X k pc bd L (ab_R a :: st) σ Q ↔ (ab_sh σ a).1 = 14 ∧ ab_Run X k (pc + 3) bd L (ab_I (ab_rd σ a 23) :: st) σ Q := ab_r_getI rfl ho qF_13_389 (by decide) rfl rfl (fun _ => rfl) hc hd
theorem sF_13_389 (ho : ab_ow k = 13) (hc : ab_code k = cc) (hd : decode cc pc = .ok (.putfield 389, 3)) : ab_Run X k pc bd L (ab_I z :: ab_R a :: st) σ Q ↔ (ab_sh σ a).1 = 14 ∧ ab_Run X k (pc + 3) bd L st (ab_wr σ a 23 z) Q := ab_r_putI rfl ho qF_13_389 (by decide) rfl rfl rfl (fun _ => rfl) hc hd
theorem qF_13_403 : ab_lk ab_pF (1000 * 13 + 403) = some (13, 24, 0) := by decide +kernel
theorem gF_13_403 (ho : ab_ow k = 13) (hc : ab_code k = cc) (hd : decode cc pc = .ok (.getfield 403, 3)) : ab_Run X k pc bd L (ab_R a :: st) σ Q ↔ (ab_sh σ a).1 = 14 ∧ ab_Run X k (pc + 3) bd L (ab_I (ab_rd σ a 24) :: st) σ Q := ab_r_getI rfl ho qF_13_403 (by decide) rfl rfl (fun _ => rfl) hc hd
theorem sF_13_403 (ho : ab_ow k = 13) (hc : ab_code k = cc) (hd : decode cc pc = .ok (.putfield 403, 3)) : ab_Run X k pc bd L (ab_I z :: ab_R a :: st) σ Q ↔ (ab_sh σ a).1 = 14 ∧ ab_Run X k (pc + 3) bd L st (ab_wr σ a 24 z) Q := ab_r_putI rfl ho qF_13_403 (by decide) rfl rfl rfl (fun _ => rfl) hc hd
theorem qF_13_419 : ab_lk ab_pF (1000 * 13 + 419) = some (13, 25, 0) := by decide +kernel
theorem gF_13_419 (ho : ab_ow k = 13) (hc : ab_code k = cc) (hd : decode cc pc = .ok (.getfield 419, 3)) : ab_Run X k pc bd L (ab_R a :: st) σ Q ↔ (ab_sh σ a).1 = 14 ∧ ab_Run X k (pc + 3) bd L (ab_I (ab_rd σ a 25) :: st) σ Q := ab_r_getI rfl ho qF_13_419 (by decide) rfl rfl (fun _ => rfl) hc hd
theorem sF_13_419 (ho : ab_ow k = 13) (hc : ab_code k = cc) (hd : decode cc pc = .ok (.putfield 419, 3)) : ab_Run X k pc bd L (ab_I z :: ab_R a :: st) σ Q ↔ (ab_sh σ a).1 = 14 ∧ ab_Run X k (pc + 3) bd L st (ab_wr σ a 25 z) Q := ab_r_putI rfl ho qF_13_419 (by decide) rfl rfl rfl (fun _ => rfl) hc hd
theorem qF_13_427 : ab_lk ab_pF (1000 * 13 + 427) = some (13, 26, 0) := by decide +kernel
theorem gF_13_427 (ho : ab_ow k = 13) (hc : ab_code k = cc) (hd : decode cc pc = .ok (.getfield 427, 3)) : ab_Run X k pc bd L (ab_R a :: st) σ Q ↔ (ab_sh σ a).1 = 14 ∧ ab_Run X k (pc + 3) bd L (ab_I (ab_rd σ a 26) :: st) σ Q := ab_r_getI rfl ho qF_13_427 (by decide) rfl rfl (fun _ => rfl) hc hd
theorem sF_13_427 (ho : ab_ow k = 13) (hc : ab_code k = cc) (hd : decode cc pc = .ok (.putfield 427, 3)) : ab_Run X k pc bd L (ab_I z :: ab_R a :: st) σ Q ↔ (ab_sh σ a).1 = 14 ∧ ab_Run X k (pc + 3) bd L st (ab_wr σ a 26 z) Q := ab_r_putI rfl ho qF_13_427 (by decide) rfl rfl rfl (fun _ => rfl) hc hd
theorem qF_13_27 : ab_lk ab_pF (1000 * 13 + 27) = some (13, 27, 0) := by decide +kernel
theorem gF_13_27 (ho : ab_ow k = 13) (hc : ab_code k = cc) (hd : decode cc pc = .ok (.getfield 27, 3)) : ab_Run X k pc bd L (ab_R a :: st) σ Q ↔ (ab_sh σ a).1 = 14 ∧ ab_Run X k (pc + 3) bd L (ab_R (ab_rd σ a 27) :: st) σ Q := ab_r_getR rfl ho qF_13_27 (by decide) rfl rfl (fun _ => rfl) hc hd
theorem qF_13_30 : ab_lk ab_pF (1000 * 13 + 30) = some (13, 28, 0) := by decide +kernel
theorem gF_13_30 (ho : ab_ow k = 13) (hc : ab_code k = cc) (hd : decode cc pc = .ok (.getfield 30, 3)) : ab_Run X k pc bd L (ab_R a :: st) σ Q ↔ (ab_sh σ a).1 = 14 ∧ ab_Run X k (pc + 3) bd L (ab_R (ab_rd σ a 28) :: st) σ Q := ab_r_getR rfl ho qF_13_30 (by decide) rfl rfl (fun _ => rfl) hc hd
theorem qF_13_33 : ab_lk ab_pF (1000 * 13 + 33) = some (13, 29, 0) := by decide +kernel
theorem gF_13_33 (ho : ab_ow k = 13) (hc : ab_code k = cc) (hd : decode cc pc = .ok (.getfield 33, 3)) : ab_Run X k pc bd L (ab_R a :: st) σ Q ↔ (ab_sh σ a).1 = 14 ∧ ab_Run X k (pc + 3) bd L (ab_R (ab_rd σ a 29) :: st) σ Q := ab_r_getR rfl ho qF_13_33 (by decide) rfl rfl (fun _ => rfl) hc hd
theorem qF_13_37 : ab_lk ab_pF (1000 * 13 + 37) = some (13, 30, 0) := by decide +kernel
theorem gF_13_37 (ho : ab_ow k = 13) (hc : ab_code k = cc) (hd : decode cc pc = .ok (.getfield 37, 3)) : ab_Run X k pc bd L (ab_R a :: st) σ Q ↔ (ab_sh σ a).1 = 14 ∧ ab_Run X k (pc + 3) bd L (ab_R (ab_rd σ a 30) :: st) σ Q := ab_r_getR rfl ho qF_13_37 (by decide) rfl rfl (fun _ => rfl) hc hd
theorem qF_13_41 : ab_lk ab_pF (1000 * 13 + 41) = some (13, 31, 0) := by decide +kernel
theorem gF_13_41 (ho : ab_ow k = 13) (hc : ab_code k = cc) (hd : decode cc pc = .ok (.getfield 41, 3)) : ab_Run X k pc bd L (ab_R a :: st) σ Q ↔ (ab_sh σ a).1 = 14 ∧ ab_Run X k (pc + 3) bd L (ab_R (ab_rd σ a 31) :: st) σ Q := ab_r_getR rfl ho qF_13_41 (by decide) rfl rfl (fun _ => rfl) hc hd
theorem qF_13_44 : ab_lk ab_pF (1000 * 13 + 44) = some (13, 32, 0) := by decide +kernel
theorem gF_13_44 (ho : ab_ow k = 13) (hc : ab_code k = cc) (hd : decode cc pc = .ok (.getfield 44, 3)) : ab_Run X k pc bd L (ab_R a :: st) σ Q ↔ (ab_sh σ a).1 = 14 ∧ ab_Run X k (pc + 3) bd L (ab_R (ab_rd σ a 32) :: st) σ Q := ab_r_getR rfl ho qF_13_44 (by decide) rfl rfl (fun _ => rfl) hc hd
theorem qF_13_47 : ab_lk ab_pF (1000 * 13 + 47) = some (13, 33, 0) := by decide +kernel
theorem gF_13_47 (ho : ab_ow k = 13) (hc : ab_code k = cc) (hd : decode cc pc = .ok (.getfield 47, 3)) : ab_Run X k pc bd L (ab_R a :: st) σ Q ↔ (ab_sh σ a).1 = 14 ∧ ab_Run X k (pc + 3) bd L (ab_R (ab_rd σ a 33) :: st) σ Q := ab_r_getR rfl ho qF_13_47 (by decide) rfl rfl (fun _ => rfl) hc hd
theorem qF_13_552 : ab_lk ab_pF (1000 * 13 + 552) = some (13, 34, 0) := by decide +kernel
theorem gF_13_552 (ho : ab_ow k = 13) (hc : ab_code k = cc) (hd : decode cc pc = .ok (.getfield 552, 3)) : ab_Run X k pc bd L (ab_R a :: st) σ Q ↔ (ab_sh σ a).1 = 14 ∧ ab_Run X k (pc + 3) bd L (ab_I (ab_rd σ a 34) :: st) σ Q := ab_r_getI rfl ho qF_13_552 (by decide) rfl rfl (fun _ => rfl) hc hd
theorem sF_13_552 (ho : ab_ow k = 13) (hc : ab_code k = cc) (hd : decode cc pc = .ok (.putfield 552, 3)) : ab_Run X k pc bd L (ab_I z :: ab_R a :: st) σ Q ↔ (ab_sh σ a).1 = 14 ∧ ab_Run X k (pc + 3) bd L st (ab_wr σ a 34 z) Q := ab_r_putI rfl ho qF_13_552 (by decide) rfl rfl rfl (fun _ => rfl) hc hd
theorem qF_13_563 : ab_lk ab_pF (1000 * 13 + 563) = some (13, 35, 0) := by decide +kernel
theorem gF_13_563 (ho : ab_ow k = 13) (hc : ab_code k = cc) (hd : decode cc pc = .ok (.getfield 563, 3)) : ab_Run X k pc bd L (ab_R a :: st) σ Q ↔ (ab_sh σ a).1 = 14 ∧ ab_Run X k (pc + 3) bd L (ab_I (ab_rd σ a 35) :: st) σ Q := ab_r_getI rfl ho qF_13_563 (by decide) rfl rfl (fun _ => rfl) hc hd
theorem sF_13_563 (ho : ab_ow k = 13) (hc : ab_code k = cc) (hd : decode cc pc = .ok (.putfield 563, 3)) : ab_Run X k pc bd L (ab_I z :: ab_R a :: st) σ Q ↔ (ab_sh σ a).1 = 14 ∧ ab_Run X k (pc + 3) bd L st (ab_wr σ a 35 z) Q := ab_r_putI rfl ho qF_13_563 (by decide) rfl rfl rfl (fun _ => rfl) hc hd
theorem qF_13_50 : ab_lk ab_pF (1000 * 13 + 50) = some (13, 36, 0) := by decide +kernel
theorem gF_13_50 (ho : ab_ow k = 13) (hc : ab_code k = cc) (hd : decode cc pc = .ok (.getfield 50, 3)) : ab_Run X k pc bd L (ab_R a :: st) σ Q ↔ (ab_sh σ a).1 = 14 ∧ ab_Run X k (pc + 3) bd L (ab_R (ab_rd σ a 36) :: st) σ Q := ab_r_getR rfl ho qF_13_50 (by decide) rfl rfl (fun _ => rfl) hc hd
theorem qF_13_573 : ab_lk ab_pF (1000 * 13 + 573) = some (13, 37, 0) := by decide +kernel
theorem gF_13_573 (ho : ab_ow k = 13) (hc : ab_code k = cc) (hd : decode cc pc = .ok (.getfield 573, 3)) : ab_Run X k pc bd L (ab_R a :: st) σ Q ↔ (ab_sh σ a).1 = 14 ∧ ab_Run X k (pc + 3) bd L (ab_I (ab_rd σ a 37) :: st) σ Q := ab_r_getI rfl ho qF_13_573 (by decide) rfl rfl (fun _ => rfl) hc hd
theorem sF_13_573 (ho : ab_ow k = 13) (hc : ab_code k = cc) (hd : decode cc pc = .ok (.putfield 573, 3)) : ab_Run X k pc bd L (ab_I z :: ab_R a :: st) σ Q ↔ (ab_sh σ a).1 = 14 ∧ ab_Run X k (pc + 3) bd L st (ab_wr σ a 37 z) Q := ab_r_putI rfl ho qF_13_573 (by decide) rfl rfl rfl (fun _ => rfl) hc hd
theorem qF_13_576 : ab_lk ab_pF (1000 * 13 + 576) = some (13, 38, 0) := by decide +kernel
theorem gF_13_576 (ho : ab_ow k = 13) (hc : ab_code k = cc) (hd : decode cc pc = .ok (.getfield 576, 3)) : ab_Run X k pc bd L (ab_R a :: st) σ Q ↔ (ab_sh σ a).1 = 14 ∧ ab_Run X k (pc + 3) bd L (ab_I (ab_rd σ a 38) :: st) σ Q := ab_r_getI rfl ho qF_13_576 (by decide) rfl rfl (fun _ => rfl) hc hd
theorem sF_13_576 (ho : ab_ow k = 13) (hc : ab_code k = cc) (hd : decode cc pc = .ok (.putfield 576, 3)) : ab_Run X k pc bd L (ab_I z :: ab_R a :: st) σ Q ↔ (ab_sh σ a).1 = 14 ∧ ab_Run X k (pc + 3) bd L st (ab_wr σ a 38 z) Q := ab_r_putI rfl ho qF_13_576 (by decide) rfl rfl rfl (fun _ => rfl) hc hd
theorem qF_12_77 : ab_lk ab_pF (1000 * 12 + 77) = some (12, 10, 0) := by decide +kernel
theorem gF_12_77 (ho : ab_ow k = 12) (hc : ab_code k = cc) (hd : decode cc pc = .ok (.getfield 77, 3)) : ab_Run X k pc bd L (ab_R a :: st) σ Q ↔ (ab_sh σ a).1 = 13 ∧ ab_Run X k (pc + 3) bd L (ab_I (ab_rd σ a 10) :: st) σ Q := ab_r_getI rfl ho qF_12_77 (by decide) rfl rfl (fun _ => rfl) hc hd
theorem sF_12_77 (ho : ab_ow k = 12) (hc : ab_code k = cc) (hd : decode cc pc = .ok (.putfield 77, 3)) : ab_Run X k pc bd L (ab_I z :: ab_R a :: st) σ Q ↔ (ab_sh σ a).1 = 13 ∧ ab_Run X k (pc + 3) bd L st (ab_wr σ a 10 z) Q := ab_r_putI rfl ho qF_12_77 (by decide) rfl rfl rfl (fun _ => rfl) hc hd
theorem qF_12_9 : ab_lk ab_pF (1000 * 12 + 9) = some (12, 12, 0) := by decide +kernel
theorem gF_12_9 (ho : ab_ow k = 12) (hc : ab_code k = cc) (hd : decode cc pc = .ok (.getfield 9, 3)) : ab_Run X k pc bd L (ab_R a :: st) σ Q ↔ (ab_sh σ a).1 = 13 ∧ ab_Run X k (pc + 3) bd L (ab_R (ab_rd σ a 12) :: st) σ Q := ab_r_getR rfl ho qF_12_9 (by decide) rfl rfl (fun _ => rfl) hc hd
theorem qF_12_15 : ab_lk ab_pF (1000 * 12 + 15) = some (12, 13, 0) := by decide +kernel
theorem gF_12_15 (ho : ab_ow k = 12) (hc : ab_code k = cc) (hd : decode cc pc = .ok (.getfield 15, 3)) : ab_Run X k pc bd L (ab_R a :: st) σ Q ↔ (ab_sh σ a).1 = 13 ∧ ab_Run X k (pc + 3) bd L (ab_R (ab_rd σ a 13) :: st) σ Q := ab_r_getR rfl ho qF_12_15 (by decide) rfl rfl (fun _ => rfl) hc hd
theorem qF_12_18 : ab_lk ab_pF (1000 * 12 + 18) = some (12, 14, 0) := by decide +kernel
theorem gF_12_18 (ho : ab_ow k = 12) (hc : ab_code k = cc) (hd : decode cc pc = .ok (.getfield 18, 3)) : ab_Run X k pc bd L (ab_R a :: st) σ Q ↔ (ab_sh σ a).1 = 13 ∧ ab_Run X k (pc + 3) bd L (ab_R (ab_rd σ a 14) :: st) σ Q := ab_r_getR rfl ho qF_12_18 (by decide) rfl rfl (fun _ => rfl) hc hd
theorem qF_12_21 : ab_lk ab_pF (1000 * 12 + 21) = some (12, 15, 0) := by decide +kernel
theorem gF_12_21 (ho : ab_ow k = 12) (hc : ab_code k = cc) (hd : decode cc pc = .ok (.getfield 21, 3)) : ab_Run X k pc bd L (ab_R a :: st) σ Q ↔ (ab_sh σ a).1 = 13 ∧ ab_Run X k (pc + 3) bd L (ab_R (ab_rd σ a 15) :: st) σ Q := ab_r_getR rfl ho qF_12_21 (by decide) rfl rfl (fun _ => rfl) hc hd
theorem qF_12_24 : ab_lk ab_pF (1000 * 12 + 24) = some (12, 16, 0) := by decide +kernel
theorem gF_12_24 (ho : ab_ow k = 12) (hc : ab_code k = cc) (hd : decode cc pc = .ok (.getfield 24, 3)) : ab_Run X k pc bd L (ab_R a :: st) σ Q ↔ (ab_sh σ a).1 = 13 ∧ ab_Run X k (pc + 3) bd L (ab_R (ab_rd σ a 16) :: st) σ Q := ab_r_getR rfl ho qF_12_24 (by decide) rfl rfl (fun _ => rfl) hc hd
theorem qF_12_27 : ab_lk ab_pF (1000 * 12 + 27) = some (12, 17, 0) := by decide +kernel
theorem gF_12_27 (ho : ab_ow k = 12) (hc : ab_code k = cc) (hd : decode cc pc = .ok (.getfield 27, 3)) : ab_Run X k pc bd L (ab_R a :: st) σ Q ↔ (ab_sh σ a).1 = 13 ∧ ab_Run X k (pc + 3) bd L (ab_R (ab_rd σ a 17) :: st) σ Q := ab_r_getR rfl ho qF_12_27 (by decide) rfl rfl (fun _ => rfl) hc hd
theorem qF_12_30 : ab_lk ab_pF (1000 * 12 + 30) = some (12, 18, 0) := by decide +kernel
theorem gF_12_30 (ho : ab_ow k = 12) (hc : ab_code k = cc) (hd : decode cc pc = .ok (.getfield 30, 3)) : ab_Run X k pc bd L (ab_R a :: st) σ Q ↔ (ab_sh σ a).1 = 13 ∧ ab_Run X k (pc + 3) bd L (ab_R (ab_rd σ a 18) :: st) σ Q := ab_r_getR rfl ho qF_12_30 (by decide) rfl rfl (fun _ => rfl) hc hd
theorem qF_12_33 : ab_lk ab_pF (1000 * 12 + 33) = some (12, 19, 0) := by decide +kernel
theorem gF_12_33 (ho : ab_ow k = 12) (hc : ab_code k = cc) (hd : decode cc pc = .ok (.getfield 33, 3)) : ab_Run X k pc bd L (ab_R a :: st) σ Q ↔ (ab_sh σ a).1 = 13 ∧ ab_Run X k (pc + 3) bd L (ab_R (ab_rd σ a 19) :: st) σ Q := ab_r_getR rfl ho qF_12_33 (by decide) rfl rfl (fun _ => rfl) hc hd
theorem qF_12_36 : ab_lk ab_pF (1000 * 12 + 36) = some (12, 20, 0) := by decide +kernel
theorem gF_12_36 (ho : ab_ow k = 12) (hc : ab_code k = cc) (hd : decode cc pc = .ok (.getfield 36, 3)) : ab_Run X k pc bd L (ab_R a :: st) σ Q ↔ (ab_sh σ a).1 = 13 ∧ ab_Run X k (pc + 3) bd L (ab_R (ab_rd σ a 20) :: st) σ Q := ab_r_getR rfl ho qF_12_36 (by decide) rfl rfl (fun _ => rfl) hc hd
theorem qF_12_39 : ab_lk ab_pF (1000 * 12 + 39) = some (12, 21, 0) := by decide +kernel
theorem gF_12_39 (ho : ab_ow k = 12) (hc : ab_code k = cc) (hd : decode cc pc = .ok (.getfield 39, 3)) : ab_Run X k pc bd L (ab_R a :: st) σ Q ↔ (ab_sh σ a).1 = 13 ∧ ab_Run X k (pc + 3) bd L (ab_R (ab_rd σ a 21) :: st) σ Q := ab_r_getR rfl ho qF_12_39 (by decide) rfl rfl (fun _ => rfl) hc hd
theorem qF_12_42 : ab_lk ab_pF (1000 * 12 + 42) = some (12, 22, 0) := by decide +kernel
theorem gF_12_42 (ho : ab_ow k = 12) (hc : ab_code k = cc) (hd : decode cc pc = .ok (.getfield 42, 3)) : ab_Run X k pc bd L (ab_R a :: st) σ Q ↔ (ab_sh σ a).1 = 13 ∧ ab_Run X k (pc + 3) bd L (ab_R (ab_rd σ a 22) :: st) σ Q := ab_r_getR rfl ho qF_12_42 (by decide) rfl rfl (fun _ => rfl) hc hd
theorem qF_12_45 : ab_lk ab_pF (1000 * 12 + 45) = some (12, 23, 0) := by decide +kernel
theorem gF_12_45 (ho : ab_ow k = 12) (hc : ab_code k = cc) (hd : decode cc pc = .ok (.getfield 45, 3)) : ab_Run X k pc bd L (ab_R a :: st) σ Q ↔ (ab_sh σ a).1 = 13 ∧ ab_Run X k (pc + 3) bd L (ab_R (ab_rd σ a 23) :: st) σ Q := ab_r_getR rfl ho qF_12_45 (by decide) rfl rfl (fun _ => rfl) hc hd
theorem qF_12_48 : ab_lk ab_pF (1000 * 12 + 48) = some (12, 24, 0) := by decide +kernel
theorem gF_12_48 (ho : ab_ow k = 12) (hc : ab_code k = cc) (hd : decode cc pc = .ok (.getfield 48, 3)) : ab_Run X k pc bd L (ab_R a :: st) σ Q ↔ (ab_sh σ a).1 = 13 ∧ ab_Run X k (pc + 3) bd L (ab_R (ab_rd σ a 24) :: st) σ Q := ab_r_getR rfl ho qF_12_48 (by decide) rfl rfl (fun _ => rfl) hc hd
theorem qF_12_51 : ab_lk ab_pF (1000 * 12 + 51) = some (12, 25, 0) := by decide +kernel
theorem gF_12_51 (ho : ab_ow k = 12) (hc : ab_code k = cc) (hd : decode cc pc = .ok (.getfield 51, 3)) : ab_Run X k pc bd L (ab_R a :: st) σ Q ↔ (ab_sh σ a).1 = 13 ∧ ab_Run X k (pc + 3) bd L (ab_R (ab_rd σ a 25) :: st) σ Q := ab_r_getR rfl ho qF_12_51 (by decide) rfl rfl (fun _ => rfl) hc hd
theorem qF_12_54 : ab_lk ab_pF (1000 * 12 + 54) = some (12, 26, 0) := by decide +kernel
theorem gF_12_54 (ho : ab_ow k = 12) (hc : ab_code k = cc) (hd : decode cc pc = .ok (.getfield 54, 3)) : ab_Run X k pc bd L (ab_R a :: st) σ Q ↔ (ab_sh σ a).1 = 13 ∧ ab_Run X k (pc + 3) bd L (ab_R (ab_rd σ a 26) :: st) σ Q := ab_r_getR rfl ho qF_12_54 (by decide) rfl rfl (fun _ => rfl) hc hd
theorem qF_12_57 : ab_lk ab_pF (1000 * 12 + 57) = some (12, 27, 0) := by decide +kernel
theorem gF_12_57 (ho : ab_ow k = 12) (hc : ab_code k = cc) (hd : decode cc pc = .ok (.getfield 57, 3)) : ab_Run X k pc bd L (ab_R a :: st) σ Q ↔ (ab_sh σ a).1 = 13 ∧ ab_Run X k (pc + 3) bd L (ab_R (ab_rd σ a 27) :: st) σ Q := ab_r_getR rfl ho qF_12_57 (by decide) rfl rfl (fun _ => rfl) hc hd
theorem qF_12_60 : ab_lk ab_pF (1000 * 12 + 60) = some (12, 28, 0) := by decide +kernel
theorem gF_12_60 (ho : ab_ow k = 12) (hc : ab_code k = cc) (hd : decode cc pc = .ok (.getfield 60, 3)) : ab_Run X k pc bd L (ab_R a :: st) σ Q ↔ (ab_sh σ a).1 = 13 ∧ ab_Run X k (pc + 3) bd L (ab_R (ab_rd σ a 28) :: st) σ Q := ab_r_getR rfl ho qF_12_60 (by decide) rfl rfl (fun _ => rfl) hc hd
theorem qF_12_63 : ab_lk ab_pF (1000 * 12 + 63) = some (12, 29, 0) := by decide +kernel
theorem gF_12_63 (ho : ab_ow k = 12) (hc : ab_code k = cc) (hd : decode cc pc = .ok (.getfield 63, 3)) : ab_Run X k pc bd L (ab_R a :: st) σ Q ↔ (ab_sh σ a).1 = 13 ∧ ab_Run X k (pc + 3) bd L (ab_R (ab_rd σ a 29) :: st) σ Q := ab_r_getR rfl ho qF_12_63 (by decide) rfl rfl (fun _ => rfl) hc hd
theorem qF_12_66 : ab_lk ab_pF (1000 * 12 + 66) = some (12, 30, 0) := by decide +kernel
theorem gF_12_66 (ho : ab_ow k = 12) (hc : ab_code k = cc) (hd : decode cc pc = .ok (.getfield 66, 3)) : ab_Run X k pc bd L (ab_R a :: st) σ Q ↔ (ab_sh σ a).1 = 13 ∧ ab_Run X k (pc + 3) bd L (ab_R (ab_rd σ a 30) :: st) σ Q := ab_r_getR rfl ho qF_12_66 (by decide) rfl rfl (fun _ => rfl) hc hd
theorem qF_12_70 : ab_lk ab_pF (1000 * 12 + 70) = some (12, 31, 0) := by decide +kernel
theorem gF_12_70 (ho : ab_ow k = 12) (hc : ab_code k = cc) (hd : decode cc pc = .ok (.getfield 70, 3)) : ab_Run X k pc bd L (ab_R a :: st) σ Q ↔ (ab_sh σ a).1 = 13 ∧ ab_Run X k (pc + 3) bd L (ab_R (ab_rd σ a 31) :: st) σ Q := ab_r_getR rfl ho qF_12_70 (by decide) rfl rfl (fun _ => rfl) hc hd
theorem qF_12_74 : ab_lk ab_pF (1000 * 12 + 74) = some (12, 32, 0) := by decide +kernel
theorem gF_12_74 (ho : ab_ow k = 12) (hc : ab_code k = cc) (hd : decode cc pc = .ok (.getfield 74, 3)) : ab_Run X k pc bd L (ab_R a :: st) σ Q ↔ (ab_sh σ a).1 = 13 ∧ ab_Run X k (pc + 3) bd L (ab_R (ab_rd σ a 32) :: st) σ Q := ab_r_getR rfl ho qF_12_74 (by decide) rfl rfl (fun _ => rfl) hc hd
theorem qF_13_250 : ab_lk ab_pF (1000 * 13 + 250) = some (12, 0, 1) := by decide +kernel
theorem gF_13_250 (ho : ab_ow k = 13) (hc : ab_code k = cc) (hd : decode cc pc = .ok (.getfield 250, 3)) : ab_Run X k pc bd L (ab_R a :: st) σ Q ↔ (ab_sh σ a).1 = 13 ∧ ab_Run X k (pc + 3) bd L (ab_I (ab_rd σ a 0) :: st) σ Q := ab_r_getI rfl ho qF_13_250 (by decide) rfl rfl (fun _ => rfl) hc hd
theorem sF_13_250 (ho : ab_ow k = 13) (hc : ab_code k = cc) (hd : decode cc pc = .ok (.putfield 250, 3)) : ab_Run X k pc bd L (ab_I z :: ab_R a :: st) σ Q ↔ (ab_sh σ a).1 = 13 ∧ ab_Run X k (pc + 3) bd L st (ab_wr σ a 0 z) Q := ab_r_putI rfl ho qF_13_250 (by decide) rfl rfl rfl (fun _ => rfl) hc hd
theorem qF_13_252 : ab_lk ab_pF (1000 * 13 + 252) = some (12, 1, 1) := by decide +kernel
theorem gF_13_252 (ho : ab_ow k = 13) (hc : ab_code k = cc) (hd : decode cc pc = .ok (.getfield 252, 3)) : ab_Run X k pc bd L (ab_R a :: st) σ Q ↔ (ab_sh σ a).1 = 13 ∧ ab_Run X k (pc + 3) bd L (ab_I (ab_rd σ a 1) :: st) σ Q := ab_r_getI rfl ho qF_13_252 (by decide) rfl rfl (fun _ => rfl) hc hd
theorem sF_13_252 (ho : ab_ow k = 13) (hc : ab_code k = cc) (hd : decode cc pc = .ok (.putfield 252, 3)) : ab_Run X k pc bd L (ab_I z :: ab_R a :: st) σ Q ↔ (ab_sh σ a).1 = 13 ∧ ab_Run X k (pc + 3) bd L st (ab_wr σ a 1 z) Q := ab_r_putI rfl ho qF_13_252 (by decide) rfl rfl rfl (fun _ => rfl) hc hd
theorem qF_13_254 : ab_lk ab_pF (1000 * 13 + 254) = some (12, 2, 1) := by decide +kernel
theorem gF_13_254 (ho : ab_ow k = 13) (hc : ab_code k = cc) (hd : decode cc pc = .ok (.getfield 254, 3)) : ab_Run X k pc bd L (ab_R a :: st) σ Q ↔ (ab_sh σ a).1 = 13 ∧ ab_Run X k (pc + 3) bd L (ab_I (ab_rd σ a 2) :: st) σ Q := ab_r_getI rfl ho qF_13_254 (by decide) rfl rfl (fun _ => rfl) hc hd
theorem sF_13_254 (ho : ab_ow k = 13) (hc : ab_code k = cc) (hd : decode cc pc = .ok (.putfield 254, 3)) : ab_Run X k pc bd L (ab_I z :: ab_R a :: st) σ Q ↔ (ab_sh σ a).1 = 13 ∧ ab_Run X k (pc + 3) bd L st (ab_wr σ a 2 z) Q := ab_r_putI rfl ho qF_13_254 (by decide) rfl rfl rfl (fun _ => rfl) hc hd
theorem qF_13_256 : ab_lk ab_pF (1000 * 13 + 256) = some (12, 3, 1) := by decide +kernel
theorem gF_13_256 (ho : ab_ow k = 13) (hc : ab_code k = cc) (hd : decode cc pc = .ok (.getfield 256, 3)) : ab_Run X k pc bd L (ab_R a :: st) σ Q ↔ (ab_sh σ a).1 = 13 ∧ ab_Run X k (pc + 3) bd L (ab_I (ab_rd σ a 3) :: st) σ Q := ab_r_getI rfl ho qF_13_256 (by decide) rfl rfl (fun _ => rfl) hc hd
theorem sF_13_256 (ho : ab_ow k = 13) (hc : ab_code k = cc) (hd : decode cc pc = .ok (.putfield 256, 3)) : ab_Run X k pc bd L (ab_I z :: ab_R a :: st) σ Q ↔ (ab_sh σ a).1 = 13 ∧ ab_Run X k (pc + 3) bd L st (ab_wr σ a 3 z) Q := ab_r_putI rfl ho qF_13_256 (by decide) rfl rfl rfl (fun _ => rfl) hc hd
theorem qF_13_258 : ab_lk ab_pF (1000 * 13 + 258) = some (12, 4, 1) := by decide +kernel
theorem gF_13_258 (ho : ab_ow k = 13) (hc : ab_code k = cc) (hd : decode cc pc = .ok (.getfield 258, 3)) : ab_Run X k pc bd L (ab_R a :: st) σ Q ↔ (ab_sh σ a).1 = 13 ∧ ab_Run X k (pc + 3) bd L (ab_I (ab_rd σ a 4) :: st) σ Q := ab_r_getI rfl ho qF_13_258 (by decide) rfl rfl (fun _ => rfl) hc hd
theorem sF_13_258 (ho : ab_ow k = 13) (hc : ab_code k = cc) (hd : decode cc pc = .ok (.putfield 258, 3)) : ab_Run X k pc bd L (ab_I z :: ab_R a :: st) σ Q ↔ (ab_sh σ a).1 = 13 ∧ ab_Run X k (pc + 3) bd L st (ab_wr σ a 4 z) Q := ab_r_putI rfl ho qF_13_258 (by decide) rfl rfl rfl (fun _ => rfl) hc hd
theorem qF_13_210 : ab_lk ab_pF (1000 * 13 + 210) = some (12, 5, 1) := by decide +kernel
theorem gF_13_210 (ho : ab_ow k = 13) (hc : ab_code k = cc) (hd : decode cc pc = .ok (.getfield 210, 3)) : ab_Run X k pc bd L (ab_R a :: st) σ Q ↔ (ab_sh σ a).1 = 13 ∧ ab_Run X k (pc + 3) bd L (ab_I (ab_rd σ a 5) :: st) σ Q := ab_r_getI rfl ho qF_13_210 (by decide) rfl rfl (fun _ => rfl) hc hd
theorem sF_13_210 (ho : ab_ow k = 13) (hc : ab_code k = cc) (hd : decode cc pc = .ok (.putfield 210, 3)) : ab_Run X k pc bd L (ab_I z :: ab_R a :: st) σ Q ↔ (ab_sh σ a).1 = 13 ∧ ab_Run X k (pc + 3) bd L st (ab_wr σ a 5 z) Q := ab_r_putI rfl ho qF_13_210 (by decide) rfl rfl rfl (fun _ => rfl) hc hd
theorem qF_13_213 : ab_lk ab_pF (1000 * 13 + 213) = some (12, 6, 1) := by decide +kernel
theorem gF_13_213 (ho : ab_ow k = 13) (hc : ab_code k = cc) (hd : decode cc pc = .ok (.getfield 213, 3)) : ab_Run X k pc bd L (ab_R a :: st) σ Q ↔ (ab_sh σ a).1 = 13 ∧ ab_Run X k (pc + 3) bd L (ab_I (ab_rd σ a 6) :: st) σ Q := ab_r_getI rfl ho qF_13_213 (by decide) rfl rfl (fun _ => rfl) hc hd
theorem sF_13_213 (ho : ab_ow k = 13) (hc : ab_code k = cc) (hd : decode cc pc = .ok (.putfield 213, 3)) : ab_Run X k pc bd L (ab_I z :: ab_R a :: st) σ Q ↔ (ab_sh σ a).1 = 13 ∧ ab_Run X k (pc + 3) bd L st (ab_wr σ a 6 z) Q := ab_r_putI rfl ho qF_13_213 (by decide) rfl rfl rfl (fun _ => rfl) hc hd
theorem qF_13_318 : ab_lk ab_pF (1000 * 13 + 318) = some (12, 7, 1) := by decide +kernel
theorem gF_13_318 (ho : ab_ow k = 13) (hc : ab_code k = cc) (hd : decode cc pc = .ok (.getfield 318, 3)) : ab_Run X k pc bd L (ab_R a :: st) σ Q ↔ (ab_sh σ a).1 = 13 ∧ ab_Run X k (pc + 3) bd L (ab_I (ab_rd σ a 7) :: st) σ Q := ab_r_getI rfl ho qF_13_318 (by decide) rfl rfl (fun _ => rfl) hc hd
theorem sF_13_318 (ho : ab_ow k = 13) (hc : ab_code k = cc) (hd : decode cc pc = .ok (.putfield 318, 3)) : ab_Run X k pc bd L (ab_I z :: ab_R a :: st) σ Q ↔ (ab_sh σ a).1 = 13 ∧ ab_Run X k (pc + 3) bd L st (ab_wr σ a 7 z) Q := ab_r_putI rfl ho qF_13_318 (by decide) rfl rfl rfl (fun _ => rfl) hc hd
theorem qF_13_334 : ab_lk ab_pF (1000 * 13 + 334) = some (12, 8, 1) := by decide +kernel
theorem gF_13_334 (ho : ab_ow k = 13) (hc : ab_code k = cc) (hd : decode cc pc = .ok (.getfield 334, 3)) : ab_Run X k pc bd L (ab_R a :: st) σ Q ↔ (ab_sh σ a).1 = 13 ∧ ab_Run X k (pc + 3) bd L (ab_I (ab_rd σ a 8) :: st) σ Q := ab_r_getI rfl ho qF_13_334 (by decide) rfl rfl (fun _ => rfl) hc hd
theorem sF_13_334 (ho : ab_ow k = 13) (hc : ab_code k = cc) (hd : decode cc pc = .ok (.putfield 334, 3)) : ab_Run X k pc bd L (ab_I z :: ab_R a :: st) σ Q ↔ (ab_sh σ a).1 = 13 ∧ ab_Run X k (pc + 3) bd L st (ab_wr σ a 8 z) Q := ab_r_putI rfl ho qF_13_334 (by decide) rfl rfl rfl (fun _ => rfl) hc hd
theorem qF_13_349 : ab_lk ab_pF (1000 * 13 + 349) = some (12, 9, 1) := by decide +kernel
theorem gF_13_349 (ho : ab_ow k = 13) (hc : ab_code k = cc) (hd : decode cc pc = .ok (.getfield 349, 3)) : ab_Run X k pc bd L (ab_R a :: st) σ Q ↔ (ab_sh σ a).1 = 13 ∧ ab_Run X k (pc + 3) bd L (ab_I (ab_rd σ a 9) :: st) σ Q := ab_r_getI rfl ho qF_13_349 (by decide) rfl rfl (fun _ => rfl) hc hd
theorem sF_13_349 (ho : ab_ow k = 13) (hc : ab_code k = cc) (hd : decode cc pc = .ok (.putfield 349, 3)) : ab_Run X k pc bd L (ab_I z :: ab_R a :: st) σ Q ↔ (ab_sh σ a).1 = 13 ∧ ab_Run X k (pc + 3) bd L st (ab_wr σ a 9 z) Q := ab_r_putI rfl ho qF_13_349 (by decide) rfl rfl rfl (fun _ => rfl) hc hd
theorem qF_13_192 : ab_lk ab_pF (1000 * 13 + 192) = some (12, 10, 1) := by decide +kernel
theorem gF_13_192 (ho : ab_ow k = 13) (hc : ab_code k = cc) (hd : decode cc pc = .ok (.getfield 192, 3)) : ab_Run X k pc bd L (ab_R a :: st) σ Q ↔ (ab_sh σ a).1 = 13 ∧ ab_Run X k (pc + 3) bd L (ab_I (ab_rd σ a 10) :: st) σ Q := ab_r_getI rfl ho qF_13_192 (by decide) rfl rfl (fun _ => rfl) hc hd
theorem sF_13_192 (ho : ab_ow k = 13) (hc : ab_code k = cc) (hd : decode cc pc = .ok (.putfield 192, 3)) : ab_Run X k pc bd L (ab_I z :: ab_R a :: st) σ Q ↔ (ab_sh σ a).1 = 13 ∧ ab_Run X k (pc + 3) bd L st (ab_wr σ a 10 z) Q := ab_r_putI rfl ho qF_13_192 (by decide) rfl rfl rfl (fun _ => rfl) hc hd
theorem qF_13_175 : ab_lk ab_pF (1000 * 13 + 175) = some (12, 11, 1) := by decide +kernel
theorem gF_13_175 (ho : ab_ow k = 13) (hc : ab_code k = cc) (hd : decode cc pc = .ok (.getfield 175, 3)) : ab_Run X k pc bd L (ab_R a :: st) σ Q ↔ (ab_sh σ a).1 = 13 ∧ ab_Run X k (pc + 3) bd L (ab_I (ab_rd σ a 11) :: st) σ Q := ab_r_getI rfl ho qF_13_175 (by decide) rfl rfl (fun _ => rfl) hc hd
theorem sF_13_175 (ho : ab_ow k = 13) (hc : ab_code k = cc) (hd : decode cc pc = .ok (.putfield 175, 3)) : ab_Run X k pc bd L (ab_I z :: ab_R a :: st) σ Q ↔ ((ab_sh σ a).1 = 13 ∧ (z = 0 ∨ z = 1)) ∧ ab_Run X k (pc + 3) bd L st (ab_wr σ a 11 z) Q := ab_r_putZ rfl ho qF_13_175 (by decide) rfl rfl rfl (fun _ => rfl) hc hd
theorem qF_13_288 : ab_lk ab_pF (1000 * 13 + 288) = some (12, 12, 1) := by decide +kernel
theorem gF_13_288 (ho : ab_ow k = 13) (hc : ab_code k = cc) (hd : decode cc pc = .ok (.getfield 288, 3)) : ab_Run X k pc bd L (ab_R a :: st) σ Q ↔ (ab_sh σ a).1 = 13 ∧ ab_Run X k (pc + 3) bd L (ab_R (ab_rd σ a 12) :: st) σ Q := ab_r_getR rfl ho qF_13_288 (by decide) rfl rfl (fun _ => rfl) hc hd
theorem qF_13_291 : ab_lk ab_pF (1000 * 13 + 291) = some (12, 13, 1) := by decide +kernel
theorem gF_13_291 (ho : ab_ow k = 13) (hc : ab_code k = cc) (hd : decode cc pc = .ok (.getfield 291, 3)) : ab_Run X k pc bd L (ab_R a :: st) σ Q ↔ (ab_sh σ a).1 = 13 ∧ ab_Run X k (pc + 3) bd L (ab_R (ab_rd σ a 13) :: st) σ Q := ab_r_getR rfl ho qF_13_291 (by decide) rfl rfl (fun _ => rfl) hc hd
theorem qF_13_263 : ab_lk ab_pF (1000 * 13 + 263) = some (12, 14, 1) := by decide +kernel
theorem gF_13_263 (ho : ab_ow k = 13) (hc : ab_code k = cc) (hd : decode cc pc = .ok (.getfield 263, 3)) : ab_Run X k pc bd L (ab_R a :: st) σ Q ↔ (ab_sh σ a).1 = 13 ∧ ab_Run X k (pc + 3) bd L (ab_R (ab_rd σ a 14) :: st) σ Q := ab_r_getR rfl ho qF_13_263 (by decide) rfl rfl (fun _ => rfl) hc hd
theorem qF_13_260 : ab_lk ab_pF (1000 * 13 + 260) = some (12, 15, 1) := by decide +kernel
theorem gF_13_260 (ho : ab_ow k = 13) (hc : ab_code k = cc) (hd : decode cc pc = .ok (.getfield 260, 3)) : ab_Run X k pc bd L (ab_R a :: st) σ Q ↔ (ab_sh σ a).1 = 13 ∧ ab_Run X k (pc + 3) bd L (ab_R (ab_rd σ a 15) :: st) σ Q := ab_r_getR rfl ho qF_13_260 (by decide) rfl rfl (fun _ => rfl) hc hd
theorem qF_13_307 : ab_lk ab_pF (1000 * 13 + 307) = some (12, 16, 1) := by decide +kernel
theorem gF_13_307 (ho : ab_ow k = 13) (hc : ab_code k = cc) (hd : decode cc pc = .ok (.getfield 307, 3)) : ab_Run X k pc bd L (ab_R a :: st) σ Q ↔ (ab_sh σ a).1 = 13 ∧ ab_Run X k (pc + 3) bd L (ab_R (ab_rd σ a 16) :: st) σ Q := ab_r_getR rfl ho qF_13_307 (by decide) rfl rfl (fun _ => rfl) hc hd
theorem qF_13_310 : ab_lk ab_pF (1000 * 13 + 310) = some (12, 17, 1) := by decide +kernel
theorem gF_13_310 (ho : ab_ow k = 13) (hc : ab_code k = cc) (hd : decode cc pc = .ok (.getfield 310, 3)) : ab_Run X k pc bd L (ab_R a :: st) σ Q ↔ (ab_sh σ a).1 = 13 ∧ ab_Run X k (pc + 3) bd L (ab_R (ab_rd σ a 17) :: st) σ Q := ab_r_getR rfl ho qF_13_310 (by decide) rfl rfl (fun _ => rfl) hc hd
theorem qF_13_312 : ab_lk ab_pF (1000 * 13 + 312) = some (12, 18, 1) := by decide +kernel
theorem gF_13_312 (ho : ab_ow k = 13) (hc : ab_code k = cc) (hd : decode cc pc = .ok (.getfield 312, 3)) : ab_Run X k pc bd L (ab_R a :: st) σ Q ↔ (ab_sh σ a).1 = 13 ∧ ab_Run X k (pc + 3) bd L (ab_R (ab_rd σ a 18) :: st) σ Q := ab_r_getR rfl ho qF_13_312 (by decide) rfl rfl (fun _ => rfl) hc hd
theorem qF_13_314 : ab_lk ab_pF (1000 * 13 + 314) = some (12, 19, 1) := by decide +kernel
theorem gF_13_314 (ho : ab_ow k = 13) (hc : ab_code k = cc) (hd : decode cc pc = .ok (.getfield 314, 3)) : ab_Run X k pc bd L (ab_R a :: st) σ Q ↔ (ab_sh σ a).1 = 13 ∧ ab_Run X k (pc + 3) bd L (ab_R (ab_rd σ a 19) :: st) σ Q := ab_r_getR rfl ho qF_13_314 (by decide) rfl rfl (fun _ => rfl) hc hd
theorem qF_13_324 : ab_lk ab_pF (1000 * 13 + 324) = some (12, 20, 1) := by decide +kernel
theorem gF_13_324 (ho : ab_ow k = 13) (hc : ab_code k = cc) (hd : decode cc pc = .ok (.getfield 324, 3)) : ab_Run X k pc bd L (ab_R a :: st) σ Q ↔ (ab_sh σ a).1 = 13 ∧ ab_Run X k (pc + 3) bd L (ab_R (ab_rd σ a 20) :: st) σ Q := ab_r_getR rfl ho qF_13_324 (by decide) rfl rfl (fun _ => rfl) hc hd
theorem qF_13_331 : ab_lk ab_pF (1000 * 13 + 331) = some (12, 21, 1) := by decide +kernel
theorem gF_13_331 (ho : ab_ow k = 13) (hc : ab_code k = cc) (hd : decode cc pc = .ok (.getfield 331, 3)) : ab_Run X k pc bd L (ab_R a :: st) σ Q ↔ (ab_sh σ a).1 = 13 ∧ ab_Run X k (pc + 3) bd L (ab_R (ab_rd σ a 21) :: st) σ Q := ab_r_getR rfl ho qF_13_331 (by decide) rfl rfl (fun _ => rfl) hc hd
theorem qF_13_340 : ab_lk ab_pF (1000 * 13 + 340) = some (12, 22, 1) := by decide +kernel
theorem gF_13_340 (ho : ab_ow k = 13) (hc : ab_code k = cc) (hd : decode cc pc = .ok (.getfield 340, 3)) : ab_Run X k pc bd L (ab_R a :: st) σ Q ↔ (ab_sh σ a).1 = 13 ∧ ab_Run X k (pc + 3) bd L (ab_R (ab_rd σ a 22) :: st) σ Q := ab_r_getR rfl ho qF_13_340 (by decide) rfl rfl (fun _ => rfl) hc hd
theorem qF_13_343 : ab_lk ab_pF (1000 * 13 + 343) = some (12, 23, 1) := by decide +kernel
theorem gF_13_343 (ho : ab_ow k = 13) (hc : ab_code k = cc) (hd : decode cc pc = .ok (.getfield 343, 3)) : ab_Run X k pc bd L (ab_R a :: st) σ Q ↔ (ab_sh σ a).1 = 13 ∧ ab_Run X k (pc + 3) bd L (ab_R (ab_rd σ a 23) :: st) σ Q := ab_r_getR rfl ho qF_13_343 (by decide) rfl rfl (fun _ => rfl) hc hd
theorem qF_13_346 : ab_lk ab_pF (1000 * 13 + 346) = some (12, 24, 1) := by decide +kernel
theorem gF_13_346 (ho : ab_ow k = 13) (hc : ab_code k = cc) (hd : decode cc pc = .ok (.getfield 346, 3)) : ab_Run X k pc bd L (ab_R a :: st) σ Q ↔ (ab_sh σ a).1 = 13 ∧ ab_Run X k (pc + 3) bd L (ab_R (ab_rd σ a 24) :: st) σ Q := ab_r_getR rfl ho qF_13_346 (by decide) rfl rfl (fun _ => rfl) hc hd
theorem qF_13_352 : ab_lk ab_pF (1000 * 13 + 352) = some (12, 25, 1) := by decide +kernel
theorem gF_13_352 (ho : ab_ow k = 13) (hc : ab_code k = cc) (hd : decode cc pc = .ok (.getfield 352, 3)) : ab_Run X k pc bd L (ab_R a :: st) σ Q ↔ (ab_sh σ a).1 = 13 ∧ ab_Run X k (pc + 3) bd L (ab_R (ab_rd σ a 25) :: st) σ Q := ab_r_getR rfl ho qF_13_352 (by decide) rfl rfl (fun _ => rfl) hc hd
theorem qF_13_355 : ab_lk ab_pF (1000 * 13 + 355) = some (12, 26, 1) := by decide +kernel
theorem gF_13_355 (ho : ab_ow k = 13) (hc : ab_code k = cc) (hd : decode cc pc = .ok (.getfield 355, 3)) : ab_Run X k pc bd L (ab_R a :: st) σ Q ↔ (ab_sh σ a).1 = 13 ∧ ab_Run X k (pc + 3) bd L (ab_R (ab_rd σ a 26) :: st) σ Q := ab_r_getR rfl ho qF_13_355 (by decide) rfl rfl (fun _ => rfl) hc hd
theorem qF_13_316 : ab_lk ab_pF (1000 * 13 + 316) = some (12, 27, 1) := by decide +kernel
theorem gF_13_316 (ho : ab_ow k = 13) (hc : ab_code k = cc) (hd : decode cc pc = .ok (.getfield 316, 3)) : ab_Run X k pc bd L (ab_R a :: st) σ Q ↔ (ab_sh σ a).1 = 13 ∧ ab_Run X k (pc + 3) bd L (ab_R (ab_rd σ a 27) :: st) σ Q := ab_r_getR rfl ho qF_13_316 (by decide) rfl rfl (fun _ => rfl) hc hd
theorem qF_13_360 : ab_lk ab_pF (1000 * 13 + 360) = some (12, 28, 1) := by decide +kernel
theorem gF_13_360 (ho : ab_ow k = 13) (hc : ab_code k = cc) (hd : decode cc pc = .ok (.getfield 360, 3)) : ab_Run X k pc bd L (ab_R a :: st) σ Q ↔ (ab_sh σ a).1 = 13 ∧ ab_Run X k (pc + 3) bd L (ab_R (ab_rd σ a 28) :: st) σ Q := ab_r_getR rfl ho qF_13_360 (by decide) rfl rfl (fun _ => rfl) hc hd
theorem qF_13_363 : ab_lk ab_pF (1000 * 13 + 363) = some (12, 29, 1) := by decide +kernel
theorem gF_13_363 (ho : ab_ow k = 13) (hc : ab_code k = cc) (hd : decode cc pc = .ok (.getfield 363, 3)) : ab_Run X k pc bd L (ab_R a :: st) σ Q ↔ (ab_sh σ a).1 = 13 ∧ ab_Run X k (pc + 3) bd L (ab_R (ab_rd σ a 29) :: st) σ Q := ab_r_getR rfl ho qF_13_363 (by decide) rfl rfl (fun _ => rfl) hc hd
theorem qF_13_189 : ab_lk ab_pF (1000 * 13 + 189) = some (12, 30, 1) := by decide +kernel
theorem gF_13_189 (ho : ab_ow k = 13) (hc : ab_code k = cc) (hd : decode cc pc = .ok (.getfield 189, 3)) : ab_Run X k pc bd L (ab_R a :: st) σ Q ↔ (ab_sh σ a).1 = 13 ∧ ab_Run X k (pc + 3) bd L (ab_R (ab_rd σ a 30) :: st) σ Q := ab_r_getR rfl ho qF_13_189 (by decide) rfl rfl (fun _ => rfl) hc hd
theorem qF_13_195 : ab_lk ab_pF (1000 * 13 + 195) = some (12, 31, 1) := by decide +kernel
theorem gF_13_195 (ho : ab_ow k = 13) (hc : ab_code k = cc) (hd : decode cc pc = .ok (.getfield 195, 3)) : ab_Run X k pc bd L (ab_R a :: st) σ Q ↔ (ab_sh σ a).1 = 13 ∧ ab_Run X k (pc + 3) bd L (ab_R (ab_rd σ a 31) :: st) σ Q := ab_r_getR rfl ho qF_13_195 (by decide) rfl rfl (fun _ => rfl) hc hd
theorem qF_13_198 : ab_lk ab_pF (1000 * 13 + 198) = some (12, 32, 1) := by decide +kernel
theorem gF_13_198 (ho : ab_ow k = 13) (hc : ab_code k = cc) (hd : decode cc pc = .ok (.getfield 198, 3)) : ab_Run X k pc bd L (ab_R a :: st) σ Q ↔ (ab_sh σ a).1 = 13 ∧ ab_Run X k (pc + 3) bd L (ab_R (ab_rd σ a 32) :: st) σ Q := ab_r_getR rfl ho qF_13_198 (by decide) rfl rfl (fun _ => rfl) hc hd
theorem qM_14_15 : ab_lk ab_pM (1000 * 14 + 15) = some (79, 0) := by decide +kernel
theorem qM_11_1 : ab_lk ab_pM (1000 * 11 + 1) = some (1000, 0) := by decide +kernel
theorem qM_7_3 : ab_lk ab_pM (1000 * 7 + 3) = some (1000, 0) := by decide +kernel
theorem qM_9_1 : ab_lk ab_pM (1000 * 9 + 1) = some (1000, 0) := by decide +kernel
theorem qM_7_20 : ab_lk ab_pM (1000 * 7 + 20) = some (26, 0) := by decide +kernel
theorem qM_4_3 : ab_lk ab_pM (1000 * 4 + 3) = some (1000, 0) := by decide +kernel
theorem qM_1_3 : ab_lk ab_pM (1000 * 1 + 3) = some (1000, 0) := by decide +kernel
theorem qM_5_3 : ab_lk ab_pM (1000 * 5 + 3) = some (1000, 0) := by decide +kernel
theorem qM_8_3 : ab_lk ab_pM (1000 * 8 + 3) = some (1000, 0) := by decide +kernel
theorem qM_11_25 : ab_lk ab_pM (1000 * 11 + 25) = some (19, 0) := by decide +kernel
theorem qM_3_1 : ab_lk ab_pM (1000 * 3 + 1) = some (1000, 0) := by decide +kernel
theorem qM_6_3 : ab_lk ab_pM (1000 * 6 + 3) = some (1000, 0) := by decide +kernel
theorem qM_0_3 : ab_lk ab_pM (1000 * 0 + 3) = some (1000, 0) := by decide +kernel
theorem qM_11_39 : ab_lk ab_pM (1000 * 11 + 39) = some (11, 0) := by decide +kernel
theorem qM_2_3 : ab_lk ab_pM (1000 * 2 + 3) = some (1000, 0) := by decide +kernel
theorem qM_10_3 : ab_lk ab_pM (1000 * 10 + 3) = some (1000, 0) := by decide +kernel
theorem qM_11_57 : ab_lk ab_pM (1000 * 11 + 57) = some (26, 0) := by decide +kernel
theorem qM_14_19 : ab_lk ab_pM (1000 * 14 + 19) = some (80, 0) := by decide +kernel
theorem qM_11_70 : ab_lk ab_pM (1000 * 11 + 70) = some (67, 0) := by decide +kernel
theorem qM_11_76 : ab_lk ab_pM (1000 * 11 + 76) = some (68, 0) := by decide +kernel
theorem qM_9_17 : ab_lk ab_pM (1000 * 9 + 17) = some (67, 0) := by decide +kernel
theorem qM_14_24 : ab_lk ab_pM (1000 * 14 + 24) = some (81, 0) := by decide +kernel
theorem qM_11_83 : ab_lk ab_pM (1000 * 11 + 83) = some (124, 0) := by decide +kernel
theorem qM_11_87 : ab_lk ab_pM (1000 * 11 + 87) = some (42, 0) := by decide +kernel
theorem qM_7_25 : ab_lk ab_pM (1000 * 7 + 25) = some (27, 0) := by decide +kernel
theorem qM_7_39 : ab_lk ab_pM (1000 * 7 + 39) = some (69, 0) := by decide +kernel
theorem qM_9_21 : ab_lk ab_pM (1000 * 9 + 21) = some (1005, 0) := by decide +kernel
theorem qM_9_27 : ab_lk ab_pM (1000 * 9 + 27) = some (1004, 0) := by decide +kernel
theorem qM_9_36 : ab_lk ab_pM (1000 * 9 + 36) = some (70, 0) := by decide +kernel
theorem qM_9_45 : ab_lk ab_pM (1000 * 9 + 45) = some (71, 0) := by decide +kernel
theorem qM_9_48 : ab_lk ab_pM (1000 * 9 + 48) = some (72, 0) := by decide +kernel
theorem qM_7_43 : ab_lk ab_pM (1000 * 7 + 43) = some (44, 0) := by decide +kernel
theorem qM_7_68 : ab_lk ab_pM (1000 * 7 + 68) = some (73, 0) := by decide +kernel
theorem qM_9_60 : ab_lk ab_pM (1000 * 9 + 60) = some (1001, 0) := by decide +kernel
theorem qM_9_65 : ab_lk ab_pM (1000 * 9 + 65) = some (1002, 0) := by decide +kernel
theorem qM_7_56 : ab_lk ab_pM (1000 * 7 + 56) = some (43, 0) := by decide +kernel
theorem qM_7_72 : ab_lk ab_pM (1000 * 7 + 72) = some (46, 0) := by decide +kernel
theorem qM_7_60 : ab_lk ab_pM (1000 * 7 + 60) = some (70, 0) := by decide +kernel
theorem qM_7_120 : ab_lk ab_pM (1000 * 7 + 120) = some (55, 0) := by decide +kernel
theorem qM_7_181 : ab_lk ab_pM (1000 * 7 + 181) = some (54, 0) := by decide +kernel
theorem qM_7_194 : ab_lk ab_pM (1000 * 7 + 194) = some (57, 0) := by decide +kernel
theorem qM_7_77 : ab_lk ab_pM (1000 * 7 + 77) = some (45, 0) := by decide +kernel
theorem qM_7_81 : ab_lk ab_pM (1000 * 7 + 81) = some (47, 0) := by decide +kernel
theorem qM_7_149 : ab_lk ab_pM (1000 * 7 + 149) = some (59, 0) := by decide +kernel
theorem qM_7_268 : ab_lk ab_pM (1000 * 7 + 268) = some (58, 0) := by decide +kernel
theorem qM_7_271 : ab_lk ab_pM (1000 * 7 + 271) = some (28, 0) := by decide +kernel
theorem qM_7_275 : ab_lk ab_pM (1000 * 7 + 275) = some (29, 0) := by decide +kernel
theorem qM_7_169 : ab_lk ab_pM (1000 * 7 + 169) = some (56, 0) := by decide +kernel
theorem qM_7_184 : ab_lk ab_pM (1000 * 7 + 184) = some (48, 0) := by decide +kernel
theorem qM_7_197 : ab_lk ab_pM (1000 * 7 + 197) = some (6, 0) := by decide +kernel
theorem qM_7_86 : ab_lk ab_pM (1000 * 7 + 86) = some (49, 0) := by decide +kernel
theorem qM_7_205 : ab_lk ab_pM (1000 * 7 + 205) = some (31, 0) := by decide +kernel
theorem qM_7_94 : ab_lk ab_pM (1000 * 7 + 94) = some (50, 0) := by decide +kernel
theorem qM_7_235 : ab_lk ab_pM (1000 * 7 + 235) = some (60, 0) := by decide +kernel
theorem qM_7_102 : ab_lk ab_pM (1000 * 7 + 102) = some (51, 0) := by decide +kernel
theorem qM_7_110 : ab_lk ab_pM (1000 * 7 + 110) = some (52, 0) := by decide +kernel
theorem qM_7_115 : ab_lk ab_pM (1000 * 7 + 115) = some (53, 0) := by decide +kernel
theorem qM_11_93 : ab_lk ab_pM (1000 * 11 + 93) = some (62, 0) := by decide +kernel
theorem qM_11_97 : ab_lk ab_pM (1000 * 11 + 97) = some (20, 0) := by decide +kernel
theorem qM_14_28 : ab_lk ab_pM (1000 * 14 + 28) = some (82, 0) := by decide +kernel
theorem qM_14_33 : ab_lk ab_pM (1000 * 14 + 33) = some (83, 0) := by decide +kernel
theorem qM_14_37 : ab_lk ab_pM (1000 * 14 + 37) = some (84, 0) := by decide +kernel
theorem qM_11_109 : ab_lk ab_pM (1000 * 11 + 109) = some (126, 0) := by decide +kernel
theorem qM_14_42 : ab_lk ab_pM (1000 * 14 + 42) = some (85, 0) := by decide +kernel
theorem qM_11_131 : ab_lk ab_pM (1000 * 11 + 131) = some (129, 0) := by decide +kernel
theorem qM_11_135 : ab_lk ab_pM (1000 * 11 + 135) = some (7, 0) := by decide +kernel
theorem qM_14_47 : ab_lk ab_pM (1000 * 14 + 47) = some (86, 0) := by decide +kernel
theorem qM_11_139 : ab_lk ab_pM (1000 * 11 + 139) = some (127, 0) := by decide +kernel
theorem qM_14_51 : ab_lk ab_pM (1000 * 14 + 51) = some (87, 0) := by decide +kernel
theorem qM_11_168 : ab_lk ab_pM (1000 * 11 + 168) = some (137, 0) := by decide +kernel
theorem qM_11_402 : ab_lk ab_pM (1000 * 11 + 402) = some (33, 0) := by decide +kernel
theorem qM_11_175 : ab_lk ab_pM (1000 * 11 + 175) = some (35, 0) := by decide +kernel
theorem qM_6_65 : ab_lk ab_pM (1000 * 6 + 65) = some (1, 0) := by decide +kernel
theorem qM_6_69 : ab_lk ab_pM (1000 * 6 + 69) = some (2, 0) := by decide +kernel
theorem qM_14_56 : ab_lk ab_pM (1000 * 14 + 56) = some (88, 0) := by decide +kernel
theorem qM_11_184 : ab_lk ab_pM (1000 * 11 + 184) = some (134, 0) := by decide +kernel
theorem qM_11_222 : ab_lk ab_pM (1000 * 11 + 222) = some (133, 0) := by decide +kernel
theorem qM_11_310 : ab_lk ab_pM (1000 * 11 + 310) = some (128, 0) := by decide +kernel
theorem qM_11_226 : ab_lk ab_pM (1000 * 11 + 226) = some (130, 0) := by decide +kernel
theorem qM_11_188 : ab_lk ab_pM (1000 * 11 + 188) = some (138, 0) := by decide +kernel
theorem qM_11_406 : ab_lk ab_pM (1000 * 11 + 406) = some (139, 0) := by decide +kernel
theorem qM_11_229 : ab_lk ab_pM (1000 * 11 + 229) = some (34, 0) := by decide +kernel
theorem qM_14_61 : ab_lk ab_pM (1000 * 14 + 61) = some (89, 0) := by decide +kernel
theorem qM_11_198 : ab_lk ab_pM (1000 * 11 + 198) = some (36, 0) := by decide +kernel
theorem qM_6_76 : ab_lk ab_pM (1000 * 6 + 76) = some (3, 0) := by decide +kernel
theorem qM_6_80 : ab_lk ab_pM (1000 * 6 + 80) = some (38, 0) := by decide +kernel
theorem qM_14_66 : ab_lk ab_pM (1000 * 14 + 66) = some (90, 0) := by decide +kernel
theorem qM_11_201 : ab_lk ab_pM (1000 * 11 + 201) = some (37, 0) := by decide +kernel
theorem qM_6_84 : ab_lk ab_pM (1000 * 6 + 84) = some (36, 0) := by decide +kernel
theorem qM_14_70 : ab_lk ab_pM (1000 * 14 + 70) = some (91, 0) := by decide +kernel
theorem qM_14_74 : ab_lk ab_pM (1000 * 14 + 74) = some (92, 0) := by decide +kernel
theorem qM_11_209 : ab_lk ab_pM (1000 * 11 + 209) = some (39, 0) := by decide +kernel
theorem qM_6_97 : ab_lk ab_pM (1000 * 6 + 97) = some (4, 0) := by decide +kernel
theorem qM_0_38 : ab_lk ab_pM (1000 * 0 + 38) = some (3, 0) := by decide +kernel
theorem qM_6_100 : ab_lk ab_pM (1000 * 6 + 100) = some (40, 0) := by decide +kernel
theorem qM_11_218 : ab_lk ab_pM (1000 * 11 + 218) = some (147, 0) := by decide +kernel
theorem qM_14_79 : ab_lk ab_pM (1000 * 14 + 79) = some (93, 0) := by decide +kernel
theorem qM_11_233 : ab_lk ab_pM (1000 * 11 + 233) = some (13, 0) := by decide +kernel
theorem qM_2_62 : ab_lk ab_pM (1000 * 2 + 62) = some (12, 0) := by decide +kernel
theorem qM_2_53 : ab_lk ab_pM (1000 * 2 + 53) = some (35, 0) := by decide +kernel
theorem qM_2_59 : ab_lk ab_pM (1000 * 2 + 59) = some (4, 0) := by decide +kernel
theorem qM_2_73 : ab_lk ab_pM (1000 * 2 + 73) = some (40, 0) := by decide +kernel
theorem qM_14_83 : ab_lk ab_pM (1000 * 14 + 83) = some (94, 0) := by decide +kernel
theorem qM_11_237 : ab_lk ab_pM (1000 * 11 + 237) = some (141, 0) := by decide +kernel
theorem qM_11_413 : ab_lk ab_pM (1000 * 11 + 413) = some (14, 0) := by decide +kernel
theorem qM_2_80 : ab_lk ab_pM (1000 * 2 + 80) = some (34, 0) := by decide +kernel
theorem qM_2_87 : ab_lk ab_pM (1000 * 2 + 87) = some (1004, 0) := by decide +kernel
theorem qM_11_241 : ab_lk ab_pM (1000 * 11 + 241) = some (16, 0) := by decide +kernel
theorem qM_2_93 : ab_lk ab_pM (1000 * 2 + 93) = some (15, 0) := by decide +kernel
theorem qM_14_87 : ab_lk ab_pM (1000 * 14 + 87) = some (95, 0) := by decide +kernel
theorem qM_11_244 : ab_lk ab_pM (1000 * 11 + 244) = some (17, 0) := by decide +kernel
theorem qM_14_91 : ab_lk ab_pM (1000 * 14 + 91) = some (96, 0) := by decide +kernel
theorem qM_11_247 : ab_lk ab_pM (1000 * 11 + 247) = some (18, 0) := by decide +kernel
theorem qM_2_100 : ab_lk ab_pM (1000 * 2 + 100) = some (1005, 0) := by decide +kernel
theorem qM_14_96 : ab_lk ab_pM (1000 * 14 + 96) = some (97, 0) := by decide +kernel
theorem qM_11_250 : ab_lk ab_pM (1000 * 11 + 250) = some (142, 0) := by decide +kernel
theorem qM_11_417 : ab_lk ab_pM (1000 * 11 + 417) = some (140, 0) := by decide +kernel
theorem qM_11_409 : ab_lk ab_pM (1000 * 11 + 409) = some (10, 0) := by decide +kernel
theorem qM_1_28 : ab_lk ab_pM (1000 * 1 + 28) = some (1005, 0) := by decide +kernel
theorem qM_14_101 : ab_lk ab_pM (1000 * 14 + 101) = some (98, 0) := by decide +kernel
theorem qM_14_105 : ab_lk ab_pM (1000 * 14 + 105) = some (99, 0) := by decide +kernel
theorem qM_11_254 : ab_lk ab_pM (1000 * 11 + 254) = some (143, 0) := by decide +kernel
theorem qM_11_420 : ab_lk ab_pM (1000 * 11 + 420) = some (144, 0) := by decide +kernel
theorem qM_11_424 : ab_lk ab_pM (1000 * 11 + 424) = some (9, 0) := by decide +kernel
theorem qM_1_18 : ab_lk ab_pM (1000 * 1 + 18) = some (7, 0) := by decide +kernel
theorem qM_14_109 : ab_lk ab_pM (1000 * 14 + 109) = some (100, 0) := by decide +kernel
theorem qM_11_262 : ab_lk ab_pM (1000 * 11 + 262) = some (1006, 0) := by decide +kernel
theorem qM_14_113 : ab_lk ab_pM (1000 * 14 + 113) = some (101, 0) := by decide +kernel
theorem qM_11_267 : ab_lk ab_pM (1000 * 11 + 267) = some (135, 0) := by decide +kernel
theorem qM_11_284 : ab_lk ab_pM (1000 * 11 + 284) = some (125, 0) := by decide +kernel
theorem qM_11_273 : ab_lk ab_pM (1000 * 11 + 273) = some (75, 0) := by decide +kernel
theorem qM_10_18 : ab_lk ab_pM (1000 * 10 + 18) = some (1005, 0) := by decide +kernel
theorem qM_10_31 : ab_lk ab_pM (1000 * 10 + 31) = some (76, 0) := by decide +kernel
theorem qM_10_35 : ab_lk ab_pM (1000 * 10 + 35) = some (78, 0) := by decide +kernel
theorem qM_10_46 : ab_lk ab_pM (1000 * 10 + 46) = some (1004, 0) := by decide +kernel
theorem qM_10_39 : ab_lk ab_pM (1000 * 10 + 39) = some (77, 0) := by decide +kernel
theorem qM_14_117 : ab_lk ab_pM (1000 * 14 + 117) = some (102, 0) := by decide +kernel
theorem qM_14_121 : ab_lk ab_pM (1000 * 14 + 121) = some (103, 0) := by decide +kernel
theorem qM_11_280 : ab_lk ab_pM (1000 * 11 + 280) = some (148, 0) := by decide +kernel
theorem qM_14_126 : ab_lk ab_pM (1000 * 14 + 126) = some (104, 0) := by decide +kernel
theorem qM_14_131 : ab_lk ab_pM (1000 * 14 + 131) = some (105, 0) := by decide +kernel
theorem qM_14_135 : ab_lk ab_pM (1000 * 14 + 135) = some (106, 0) := by decide +kernel
theorem qM_14_139 : ab_lk ab_pM (1000 * 14 + 139) = some (107, 0) := by decide +kernel
theorem qM_11_303 : ab_lk ab_pM (1000 * 11 + 303) = some (149, 0) := by decide +kernel
theorem qM_14_143 : ab_lk ab_pM (1000 * 14 + 143) = some (108, 0) := by decide +kernel
theorem qM_11_313 : ab_lk ab_pM (1000 * 11 + 313) = some (1005, 0) := by decide +kernel
theorem qM_11_316 : ab_lk ab_pM (1000 * 11 + 316) = some (1004, 0) := by decide +kernel
theorem qM_14_147 : ab_lk ab_pM (1000 * 14 + 147) = some (109, 0) := by decide +kernel
theorem qM_14_151 : ab_lk ab_pM (1000 * 14 + 151) = some (110, 0) := by decide +kernel
theorem qM_11_322 : ab_lk ab_pM (1000 * 11 + 322) = some (131, 0) := by decide +kernel
theorem qM_11_325 : ab_lk ab_pM (1000 * 11 + 325) = some (145, 0) := by decide +kernel
theorem qM_11_433 : ab_lk ab_pM (1000 * 11 + 433) = some (146, 0) := by decide +kernel
theorem qM_14_155 : ab_lk ab_pM (1000 * 14 + 155) = some (111, 0) := by decide +kernel
theorem qM_14_159 : ab_lk ab_pM (1000 * 14 + 159) = some (112, 0) := by decide +kernel
theorem qM_11_329 : ab_lk ab_pM (1000 * 11 + 329) = some (136, 0) := by decide +kernel
theorem qM_11_350 : ab_lk ab_pM (1000 * 11 + 350) = some (132, 0) := by decide +kernel
theorem qM_11_332 : ab_lk ab_pM (1000 * 11 + 332) = some (150, 0) := by decide +kernel
theorem qM_11_436 : ab_lk ab_pM (1000 * 11 + 436) = some (151, 0) := by decide +kernel
theorem qM_11_439 : ab_lk ab_pM (1000 * 11 + 439) = some (64, 0) := by decide +kernel
theorem qM_11_344 : ab_lk ab_pM (1000 * 11 + 344) = some (8, 0) := by decide +kernel
theorem qM_11_347 : ab_lk ab_pM (1000 * 11 + 347) = some (65, 0) := by decide +kernel
theorem qM_8_43 : ab_lk ab_pM (1000 * 8 + 43) = some (64, 0) := by decide +kernel
theorem qM_14_163 : ab_lk ab_pM (1000 * 14 + 163) = some (113, 0) := by decide +kernel
theorem qM_14_168 : ab_lk ab_pM (1000 * 14 + 168) = some (114, 0) := by decide +kernel
theorem qM_11_336 : ab_lk ab_pM (1000 * 11 + 336) = some (21, 0) := by decide +kernel
theorem qM_3_29 : ab_lk ab_pM (1000 * 3 + 29) = some (63, 0) := by decide +kernel
theorem qM_3_33 : ab_lk ab_pM (1000 * 3 + 33) = some (1005, 0) := by decide +kernel
theorem qM_14_173 : ab_lk ab_pM (1000 * 14 + 173) = some (115, 0) := by decide +kernel
theorem qM_14_177 : ab_lk ab_pM (1000 * 14 + 177) = some (116, 0) := by decide +kernel
theorem qM_14_181 : ab_lk ab_pM (1000 * 14 + 181) = some (117, 0) := by decide +kernel
theorem qM_14_185 : ab_lk ab_pM (1000 * 14 + 185) = some (118, 0) := by decide +kernel
theorem qM_11_359 : ab_lk ab_pM (1000 * 11 + 359) = some (22, 0) := by decide +kernel
theorem qM_14_190 : ab_lk ab_pM (1000 * 14 + 190) = some (119, 0) := by decide +kernel
theorem qM_11_362 : ab_lk ab_pM (1000 * 11 + 362) = some (23, 0) := by decide +kernel
theorem qM_11_365 : ab_lk ab_pM (1000 * 11 + 365) = some (24, 0) := by decide +kernel
theorem qM_14_194 : ab_lk ab_pM (1000 * 14 + 194) = some (120, 0) := by decide +kernel
theorem qM_11_372 : ab_lk ab_pM (1000 * 11 + 372) = some (25, 0) := by decide +kernel
theorem qM_14_207 : ab_lk ab_pM (1000 * 14 + 207) = some (122, 0) := by decide +kernel
theorem qM_14_211 : ab_lk ab_pM (1000 * 14 + 211) = some (123, 0) := by decide +kernel
theorem qM_14_198 : ab_lk ab_pM (1000 * 14 + 198) = some (1003, 0) := by decide +kernel
theorem qM_14_7 : ab_lk ab_pM (1000 * 14 + 7) = some (121, 0) := by decide +kernel
theorem qM_14_18 : ab_lk ab_pM (1000 * 14 + 18) = some (157, 0) := by decide +kernel
theorem qM_13_3 : ab_lk ab_pM (1000 * 13 + 3) = some (1000, 0) := by decide +kernel
theorem qM_14_204 : ab_lk ab_pM (1000 * 14 + 204) = some (158, 0) := by decide +kernel
theorem qM_14_23 : ab_lk ab_pM (1000 * 14 + 23) = some (197, 0) := by decide +kernel
theorem qM_14_27 : ab_lk ab_pM (1000 * 14 + 27) = some (198, 0) := by decide +kernel
theorem qM_13_59 : ab_lk ab_pM (1000 * 13 + 59) = some (159, 0) := by decide +kernel
theorem qM_12_3 : ab_lk ab_pM (1000 * 12 + 3) = some (1000, 0) := by decide +kernel
theorem qM_13_127 : ab_lk ab_pM (1000 * 13 + 127) = some (171, 0) := by decide +kernel
theorem qM_13_91 : ab_lk ab_pM (1000 * 13 + 91) = some (167, 0) := by decide +kernel
theorem qM_13_100 : ab_lk ab_pM (1000 * 13 + 100) = some (168, 0) := by decide +kernel
theorem qM_13_108 : ab_lk ab_pM (1000 * 13 + 108) = some (169, 0) := by decide +kernel
theorem qM_13_370 : ab_lk ab_pM (1000 * 13 + 370) = some (187, 0) := by decide +kernel
theorem qM_13_204 : ab_lk ab_pM (1000 * 13 + 204) = some (188, 0) := by decide +kernel
theorem qM_13_130 : ab_lk ab_pM (1000 * 13 + 130) = some (173, 0) := by decide +kernel
theorem qM_13_120 : ab_lk ab_pM (1000 * 13 + 120) = some (170, 0) := by decide +kernel
theorem qM_13_73 : ab_lk ab_pM (1000 * 13 + 73) = some (1001, 0) := by decide +kernel
theorem qM_13_81 : ab_lk ab_pM (1000 * 13 + 81) = some (1002, 0) := by decide +kernel
theorem qM_13_216 : ab_lk ab_pM (1000 * 13 + 216) = some (189, 0) := by decide +kernel
theorem qM_13_134 : ab_lk ab_pM (1000 * 13 + 134) = some (172, 0) := by decide +kernel
theorem qM_13_239 : ab_lk ab_pM (1000 * 13 + 239) = some (179, 0) := by decide +kernel
theorem qM_13_146 : ab_lk ab_pM (1000 * 13 + 146) = some (176, 0) := by decide +kernel
theorem qM_13_150 : ab_lk ab_pM (1000 * 13 + 150) = some (178, 0) := by decide +kernel
theorem qM_13_142 : ab_lk ab_pM (1000 * 13 + 142) = some (177, 0) := by decide +kernel
theorem qM_13_138 : ab_lk ab_pM (1000 * 13 + 138) = some (163, 0) := by decide +kernel
theorem qM_13_219 : ab_lk ab_pM (1000 * 13 + 219) = some (191, 0) := by decide +kernel
theorem qM_13_266 : ab_lk ab_pM (1000 * 13 + 266) = some (181, 0) := by decide +kernel
theorem qM_13_270 : ab_lk ab_pM (1000 * 13 + 270) = some (182, 0) := by decide +kernel
theorem qM_13_181 : ab_lk ab_pM (1000 * 13 + 181) = some (180, 0) := by decide +kernel
theorem qM_13_185 : ab_lk ab_pM (1000 * 13 + 185) = some (153, 0) := by decide +kernel
theorem qM_13_282 : ab_lk ab_pM (1000 * 13 + 282) = some (190, 0) := by decide +kernel
theorem qM_13_207 : ab_lk ab_pM (1000 * 13 + 207) = some (175, 0) := by decide +kernel
theorem qM_13_124 : ab_lk ab_pM (1000 * 13 + 124) = some (174, 0) := by decide +kernel
theorem qM_13_285 : ab_lk ab_pM (1000 * 13 + 285) = some (183, 0) := by decide +kernel
theorem qM_13_222 : ab_lk ab_pM (1000 * 13 + 222) = some (192, 0) := by decide +kernel
theorem qM_13_225 : ab_lk ab_pM (1000 * 13 + 225) = some (193, 0) := by decide +kernel
theorem qM_13_321 : ab_lk ab_pM (1000 * 13 + 321) = some (185, 0) := by decide +kernel
theorem qM_13_201 : ab_lk ab_pM (1000 * 13 + 201) = some (184, 0) := by decide +kernel
theorem qM_13_327 : ab_lk ab_pM (1000 * 13 + 327) = some (164, 0) := by decide +kernel
theorem qM_13_228 : ab_lk ab_pM (1000 * 13 + 228) = some (194, 0) := by decide +kernel
theorem qM_13_337 : ab_lk ab_pM (1000 * 13 + 337) = some (186, 0) := by decide +kernel
theorem qM_13_231 : ab_lk ab_pM (1000 * 13 + 231) = some (195, 0) := by decide +kernel
theorem qM_13_234 : ab_lk ab_pM (1000 * 13 + 234) = some (196, 0) := by decide +kernel
theorem qM_13_63 : ab_lk ab_pM (1000 * 13 + 63) = some (161, 0) := by decide +kernel
theorem qM_14_32 : ab_lk ab_pM (1000 * 14 + 32) = some (199, 0) := by decide +kernel
theorem qM_14_36 : ab_lk ab_pM (1000 * 14 + 36) = some (200, 0) := by decide +kernel
theorem qM_14_41 : ab_lk ab_pM (1000 * 14 + 41) = some (217, 0) := by decide +kernel
theorem qM_13_444 : ab_lk ab_pM (1000 * 13 + 444) = some (212, 0) := by decide +kernel
theorem qM_13_406 : ab_lk ab_pM (1000 * 13 + 406) = some (154, 0) := by decide +kernel
theorem qM_14_46 : ab_lk ab_pM (1000 * 14 + 46) = some (218, 0) := by decide +kernel
theorem qM_13_446 : ab_lk ab_pM (1000 * 13 + 446) = some (215, 0) := by decide +kernel
theorem qM_13_400 : ab_lk ab_pM (1000 * 13 + 400) = some (155, 0) := by decide +kernel
theorem qM_14_50 : ab_lk ab_pM (1000 * 14 + 50) = some (221, 0) := by decide +kernel
theorem qM_13_441 : ab_lk ab_pM (1000 * 13 + 441) = some (213, 0) := by decide +kernel
theorem qM_13_452 : ab_lk ab_pM (1000 * 13 + 452) = some (220, 0) := by decide +kernel
theorem qM_13_449 : ab_lk ab_pM (1000 * 13 + 449) = some (219, 0) := by decide +kernel
theorem qM_14_55 : ab_lk ab_pM (1000 * 14 + 55) = some (222, 0) := by decide +kernel
theorem qM_13_396 : ab_lk ab_pM (1000 * 13 + 396) = some (202, 0) := by decide +kernel
theorem qM_13_386 : ab_lk ab_pM (1000 * 13 + 386) = some (201, 0) := by decide +kernel
theorem qM_13_412 : ab_lk ab_pM (1000 * 13 + 412) = some (204, 0) := by decide +kernel
theorem qM_14_60 : ab_lk ab_pM (1000 * 14 + 60) = some (223, 0) := by decide +kernel
theorem qM_13_455 : ab_lk ab_pM (1000 * 13 + 455) = some (214, 0) := by decide +kernel
theorem qM_13_458 : ab_lk ab_pM (1000 * 13 + 458) = some (216, 0) := by decide +kernel
theorem qM_13_409 : ab_lk ab_pM (1000 * 13 + 409) = some (205, 0) := by decide +kernel
theorem qM_14_65 : ab_lk ab_pM (1000 * 14 + 65) = some (224, 0) := by decide +kernel
theorem qM_13_433 : ab_lk ab_pM (1000 * 13 + 433) = some (208, 0) := by decide +kernel
theorem qM_13_422 : ab_lk ab_pM (1000 * 13 + 422) = some (206, 0) := by decide +kernel
theorem qM_13_415 : ab_lk ab_pM (1000 * 13 + 415) = some (207, 0) := by decide +kernel
theorem qM_14_69 : ab_lk ab_pM (1000 * 14 + 69) = some (225, 0) := by decide +kernel
theorem qM_14_73 : ab_lk ab_pM (1000 * 14 + 73) = some (226, 0) := by decide +kernel
theorem qM_14_78 : ab_lk ab_pM (1000 * 14 + 78) = some (227, 0) := by decide +kernel
theorem qM_13_462 : ab_lk ab_pM (1000 * 13 + 462) = some (211, 0) := by decide +kernel
theorem qM_13_430 : ab_lk ab_pM (1000 * 13 + 430) = some (209, 0) := by decide +kernel
theorem qM_13_438 : ab_lk ab_pM (1000 * 13 + 438) = some (210, 0) := by decide +kernel
theorem qM_13_466 : ab_lk ab_pM (1000 * 13 + 466) = some (166, 0) := by decide +kernel
theorem qM_13_66 : ab_lk ab_pM (1000 * 13 + 66) = some (165, 0) := by decide +kernel
theorem qM_14_82 : ab_lk ab_pM (1000 * 14 + 82) = some (232, 0) := by decide +kernel
theorem qM_13_470 : ab_lk ab_pM (1000 * 13 + 470) = some (228, 0) := by decide +kernel
theorem qM_13_474 : ab_lk ab_pM (1000 * 13 + 474) = some (231, 0) := by decide +kernel
theorem qM_14_86 : ab_lk ab_pM (1000 * 14 + 86) = some (234, 0) := by decide +kernel
theorem qM_13_485 : ab_lk ab_pM (1000 * 13 + 485) = some (233, 0) := by decide +kernel
theorem qM_13_477 : ab_lk ab_pM (1000 * 13 + 477) = some (229, 0) := by decide +kernel
theorem qM_13_481 : ab_lk ab_pM (1000 * 13 + 481) = some (230, 0) := by decide +kernel
theorem qM_14_90 : ab_lk ab_pM (1000 * 14 + 90) = some (235, 0) := by decide +kernel
theorem qM_14_95 : ab_lk ab_pM (1000 * 14 + 95) = some (236, 0) := by decide +kernel
theorem qM_14_100 : ab_lk ab_pM (1000 * 14 + 100) = some (238, 0) := by decide +kernel
theorem qM_13_492 : ab_lk ab_pM (1000 * 13 + 492) = some (237, 0) := by decide +kernel
theorem qM_13_489 : ab_lk ab_pM (1000 * 13 + 489) = some (203, 0) := by decide +kernel
theorem qM_13_392 : ab_lk ab_pM (1000 * 13 + 392) = some (156, 0) := by decide +kernel
theorem qM_12_81 : ab_lk ab_pM (1000 * 12 + 81) = some (154, 0) := by decide +kernel
theorem qM_14_104 : ab_lk ab_pM (1000 * 14 + 104) = some (239, 0) := by decide +kernel
theorem qM_14_108 : ab_lk ab_pM (1000 * 14 + 108) = some (244, 0) := by decide +kernel
theorem qM_13_506 : ab_lk ab_pM (1000 * 13 + 506) = some (243, 0) := by decide +kernel
theorem qM_13_498 : ab_lk ab_pM (1000 * 13 + 498) = some (240, 0) := by decide +kernel
theorem qM_13_501 : ab_lk ab_pM (1000 * 13 + 501) = some (242, 0) := by decide +kernel
theorem qM_13_495 : ab_lk ab_pM (1000 * 13 + 495) = some (241, 0) := by decide +kernel
theorem qM_14_112 : ab_lk ab_pM (1000 * 14 + 112) = some (246, 0) := by decide +kernel
theorem qM_13_511 : ab_lk ab_pM (1000 * 13 + 511) = some (245, 0) := by decide +kernel
theorem qM_14_116 : ab_lk ab_pM (1000 * 14 + 116) = some (255, 0) := by decide +kernel
theorem qM_13_532 : ab_lk ab_pM (1000 * 13 + 532) = some (254, 0) := by decide +kernel
theorem qM_13_535 : ab_lk ab_pM (1000 * 13 + 535) = some (253, 0) := by decide +kernel
theorem qM_13_520 : ab_lk ab_pM (1000 * 13 + 520) = some (250, 0) := by decide +kernel
theorem qM_13_523 : ab_lk ab_pM (1000 * 13 + 523) = some (252, 0) := by decide +kernel
theorem qM_13_514 : ab_lk ab_pM (1000 * 13 + 514) = some (247, 0) := by decide +kernel
theorem qM_13_517 : ab_lk ab_pM (1000 * 13 + 517) = some (248, 0) := by decide +kernel
theorem qM_13_526 : ab_lk ab_pM (1000 * 13 + 526) = some (249, 0) := by decide +kernel
theorem qM_13_529 : ab_lk ab_pM (1000 * 13 + 529) = some (251, 0) := by decide +kernel
theorem qM_14_120 : ab_lk ab_pM (1000 * 14 + 120) = some (256, 0) := by decide +kernel
theorem qM_14_125 : ab_lk ab_pM (1000 * 14 + 125) = some (258, 0) := by decide +kernel
theorem qM_13_538 : ab_lk ab_pM (1000 * 13 + 538) = some (257, 0) := by decide +kernel
theorem qM_14_130 : ab_lk ab_pM (1000 * 14 + 130) = some (259, 0) := by decide +kernel
theorem qM_14_134 : ab_lk ab_pM (1000 * 14 + 134) = some (260, 0) := by decide +kernel
theorem qM_14_138 : ab_lk ab_pM (1000 * 14 + 138) = some (261, 0) := by decide +kernel
theorem qM_14_142 : ab_lk ab_pM (1000 * 14 + 142) = some (263, 0) := by decide +kernel
theorem qM_13_545 : ab_lk ab_pM (1000 * 13 + 545) = some (262, 0) := by decide +kernel
theorem qM_14_146 : ab_lk ab_pM (1000 * 14 + 146) = some (265, 0) := by decide +kernel
theorem qM_13_549 : ab_lk ab_pM (1000 * 13 + 549) = some (264, 0) := by decide +kernel
theorem qM_14_150 : ab_lk ab_pM (1000 * 14 + 150) = some (266, 0) := by decide +kernel
theorem qM_14_154 : ab_lk ab_pM (1000 * 14 + 154) = some (269, 0) := by decide +kernel
theorem qM_13_555 : ab_lk ab_pM (1000 * 13 + 555) = some (268, 0) := by decide +kernel
theorem qM_13_558 : ab_lk ab_pM (1000 * 13 + 558) = some (267, 0) := by decide +kernel
theorem qM_14_158 : ab_lk ab_pM (1000 * 14 + 158) = some (270, 0) := by decide +kernel
theorem qM_14_162 : ab_lk ab_pM (1000 * 14 + 162) = some (275, 0) := by decide +kernel
theorem qM_13_583 : ab_lk ab_pM (1000 * 13 + 583) = some (274, 0) := by decide +kernel
theorem qM_13_587 : ab_lk ab_pM (1000 * 13 + 587) = some (273, 0) := by decide +kernel
theorem qM_13_570 : ab_lk ab_pM (1000 * 13 + 570) = some (271, 0) := by decide +kernel
theorem qM_13_579 : ab_lk ab_pM (1000 * 13 + 579) = some (272, 0) := by decide +kernel
theorem qM_14_167 : ab_lk ab_pM (1000 * 14 + 167) = some (276, 0) := by decide +kernel
theorem qM_14_172 : ab_lk ab_pM (1000 * 14 + 172) = some (278, 0) := by decide +kernel
theorem qM_13_590 : ab_lk ab_pM (1000 * 13 + 590) = some (160, 0) := by decide +kernel
theorem qM_13_593 : ab_lk ab_pM (1000 * 13 + 593) = some (277, 0) := by decide +kernel
theorem qM_13_596 : ab_lk ab_pM (1000 * 13 + 596) = some (162, 0) := by decide +kernel
theorem qM_14_176 : ab_lk ab_pM (1000 * 14 + 176) = some (279, 0) := by decide +kernel
theorem qM_14_180 : ab_lk ab_pM (1000 * 14 + 180) = some (280, 0) := by decide +kernel
theorem qM_14_184 : ab_lk ab_pM (1000 * 14 + 184) = some (281, 0) := by decide +kernel
theorem qM_14_189 : ab_lk ab_pM (1000 * 14 + 189) = some (282, 0) := by decide +kernel
theorem qM_14_193 : ab_lk ab_pM (1000 * 14 + 193) = some (283, 0) := by decide +kernel
theorem qM_14_197 : ab_lk ab_pM (1000 * 14 + 197) = some (284, 0) := by decide +kernel
theorem qM_14_203 : ab_lk ab_pM (1000 * 14 + 203) = some (285, 0) := by decide +kernel
theorem qM_14_210 : ab_lk ab_pM (1000 * 14 + 210) = some (286, 0) := by decide +kernel
theorem qM_14_214 : ab_lk ab_pM (1000 * 14 + 214) = some (287, 0) := by decide +kernel
theorem qM_11_9 : ab_lk ab_pM (1000 * 11 + 9) = some (41, 1) := by decide +kernel
theorem qM_7_11 : ab_lk ab_pM (1000 * 7 + 11) = some (66, 1) := by decide +kernel
theorem qM_4_30 : ab_lk ab_pM (1000 * 4 + 30) = some (5, 1) := by decide +kernel
theorem qM_4_31 : ab_lk ab_pM (1000 * 4 + 31) = some (30, 1) := by decide +kernel
theorem qM_11_18 : ab_lk ab_pM (1000 * 11 + 18) = some (61, 1) := by decide +kernel
theorem qM_3_18 : ab_lk ab_pM (1000 * 3 + 18) = some (61, 1) := by decide +kernel
theorem qM_11_32 : ab_lk ab_pM (1000 * 11 + 32) = some (32, 1) := by decide +kernel
theorem qM_6_11 : ab_lk ab_pM (1000 * 6 + 11) = some (0, 1) := by decide +kernel
theorem qM_2_41 : ab_lk ab_pM (1000 * 2 + 41) = some (0, 1) := by decide +kernel
theorem qM_11_46 : ab_lk ab_pM (1000 * 11 + 46) = some (74, 1) := by decide +kernel
theorem qM_13_369 : ab_lk ab_pM (1000 * 13 + 369) = some (152, 1) := by decide +kernel
end
