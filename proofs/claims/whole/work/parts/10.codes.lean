theorem ab_c_0 : Cond.code (ab_nm 0) (ab_code 0) (ab_mx 0) (ab_rt 0) ∈ ab_ws := List.mem_filter.mpr ⟨List.mem_append_right _ (List.mem_append_right _ (List.mem_append_left _ (List.mem_of_getElem? (i := 103) rfl))), rfl⟩
theorem ab_c_1 : Cond.code (ab_nm 1) (ab_code 1) (ab_mx 1) (ab_rt 1) ∈ ab_ws := List.mem_filter.mpr ⟨List.mem_append_right _ (List.mem_append_right _ (List.mem_append_right _ (List.mem_append_right _ (List.mem_append_left _ (List.mem_of_getElem? (i := 63) rfl))))), rfl⟩
theorem ab_c_2 : Cond.code (ab_nm 2) (ab_code 2) (ab_mx 2) (ab_rt 2) ∈ ab_ws := List.mem_filter.mpr ⟨List.mem_append_right _ (List.mem_append_right _ (List.mem_append_right _ (List.mem_append_right _ (List.mem_append_left _ (List.mem_of_getElem? (i := 67) rfl))))), rfl⟩
theorem ab_c_3 : Cond.code (ab_nm 3) (ab_code 3) (ab_mx 3) (ab_rt 3) ∈ ab_ws := List.mem_filter.mpr ⟨List.mem_append_right _ (List.mem_append_right _ (List.mem_append_right _ (List.mem_append_right _ (List.mem_append_left _ (List.mem_of_getElem? (i := 111) rfl))))), rfl⟩
theorem ab_c_4 : Cond.code (ab_nm 4) (ab_code 4) (ab_mx 4) (ab_rt 4) ∈ ab_ws := List.mem_filter.mpr ⟨List.mem_append_right _ (List.mem_append_right _ (List.mem_append_right _ (List.mem_append_right _ (List.mem_append_left _ (List.mem_of_getElem? (i := 141) rfl))))), rfl⟩
theorem ab_c_5 : Cond.code (ab_nm 5) (ab_code 5) (ab_mx 5) (ab_rt 5) ∈ ab_ws := List.mem_filter.mpr ⟨List.mem_append_right _ (List.mem_append_left _ (List.mem_of_getElem? (i := 88) rfl)), rfl⟩
theorem ab_c_6 : Cond.code (ab_nm 6) (ab_code 6) (ab_mx 6) (ab_rt 6) ∈ ab_ws := List.mem_filter.mpr ⟨List.mem_append_right _ (List.mem_append_right _ (List.mem_append_right _ (List.mem_append_left _ (List.mem_of_getElem? (i := 203) rfl)))), rfl⟩
theorem ab_c_7 : Cond.code (ab_nm 7) (ab_code 7) (ab_mx 7) (ab_rt 7) ∈ ab_ws := List.mem_filter.mpr ⟨List.mem_append_right _ (List.mem_append_right _ (List.mem_append_right _ (List.mem_append_right _ (List.mem_append_left _ (List.mem_of_getElem? (i := 35) rfl))))), rfl⟩
theorem ab_c_8 : Cond.code (ab_nm 8) (ab_code 8) (ab_mx 8) (ab_rt 8) ∈ ab_ws := List.mem_filter.mpr ⟨List.mem_append_right _ (List.mem_append_right _ (List.mem_append_right _ (List.mem_append_right _ (List.mem_append_right _ (List.mem_append_left _ (List.mem_of_getElem? (i := 131) rfl)))))), rfl⟩
theorem ab_c_9 : Cond.code (ab_nm 9) (ab_code 9) (ab_mx 9) (ab_rt 9) ∈ ab_ws := List.mem_filter.mpr ⟨List.mem_append_right _ (List.mem_append_right _ (List.mem_append_right _ (List.mem_append_right _ (List.mem_append_right _ (List.mem_append_left _ (List.mem_of_getElem? (i := 0) rfl)))))), rfl⟩
theorem ab_c_10 : Cond.code (ab_nm 10) (ab_code 10) (ab_mx 10) (ab_rt 10) ∈ ab_ws := List.mem_filter.mpr ⟨List.mem_append_right _ (List.mem_append_right _ (List.mem_append_right _ (List.mem_append_right _ (List.mem_append_left _ (List.mem_of_getElem? (i := 219) rfl))))), rfl⟩
theorem ab_c_11 : Cond.code (ab_nm 11) (ab_code 11) (ab_mx 11) (ab_rt 11) ∈ ab_ws := List.mem_filter.mpr ⟨List.mem_append_right _ (List.mem_append_right _ (List.mem_append_left _ (List.mem_of_getElem? (i := 172) rfl))), rfl⟩
theorem ab_c_12 : Cond.code (ab_nm 12) (ab_code 12) (ab_mx 12) (ab_rt 12) ∈ ab_ws := List.mem_filter.mpr ⟨List.mem_append_right _ (List.mem_append_right _ (List.mem_append_right _ (List.mem_append_right _ (List.mem_append_left _ (List.mem_of_getElem? (i := 160) rfl))))), rfl⟩
theorem ab_c_13 : Cond.code (ab_nm 13) (ab_code 13) (ab_mx 13) (ab_rt 13) ∈ ab_ws := List.mem_filter.mpr ⟨List.mem_append_right _ (List.mem_append_right _ (List.mem_append_right _ (List.mem_append_right _ (List.mem_append_left _ (List.mem_of_getElem? (i := 157) rfl))))), rfl⟩
theorem ab_c_14 : Cond.code (ab_nm 14) (ab_code 14) (ab_mx 14) (ab_rt 14) ∈ ab_ws := List.mem_filter.mpr ⟨List.mem_append_right _ (List.mem_append_right _ (List.mem_append_right _ (List.mem_append_right _ (List.mem_append_left _ (List.mem_of_getElem? (i := 175) rfl))))), rfl⟩
theorem ab_c_15 : Cond.code (ab_nm 15) (ab_code 15) (ab_mx 15) (ab_rt 15) ∈ ab_ws := List.mem_filter.mpr ⟨List.mem_append_right _ (List.mem_append_right _ (List.mem_append_right _ (List.mem_append_right _ (List.mem_append_left _ (List.mem_of_getElem? (i := 185) rfl))))), rfl⟩
theorem ab_c_16 : Cond.code (ab_nm 16) (ab_code 16) (ab_mx 16) (ab_rt 16) ∈ ab_ws := List.mem_filter.mpr ⟨List.mem_append_right _ (List.mem_append_right _ (List.mem_append_right _ (List.mem_append_right _ (List.mem_append_left _ (List.mem_of_getElem? (i := 181) rfl))))), rfl⟩
theorem ab_c_17 : Cond.code (ab_nm 17) (ab_code 17) (ab_mx 17) (ab_rt 17) ∈ ab_ws := List.mem_filter.mpr ⟨List.mem_append_right _ (List.mem_append_right _ (List.mem_append_right _ (List.mem_append_right _ (List.mem_append_left _ (List.mem_of_getElem? (i := 193) rfl))))), rfl⟩
theorem ab_c_18 : Cond.code (ab_nm 18) (ab_code 18) (ab_mx 18) (ab_rt 18) ∈ ab_ws := List.mem_filter.mpr ⟨List.mem_append_right _ (List.mem_append_right _ (List.mem_append_right _ (List.mem_append_right _ (List.mem_append_left _ (List.mem_of_getElem? (i := 201) rfl))))), rfl⟩
theorem ab_c_19 : Cond.code (ab_nm 19) (ab_code 19) (ab_mx 19) (ab_rt 19) ∈ ab_ws := List.mem_filter.mpr ⟨List.mem_append_right _ (List.mem_append_right _ (List.mem_append_left _ (List.mem_of_getElem? (i := 70) rfl))), rfl⟩
theorem ab_c_20 : Cond.code (ab_nm 20) (ab_code 20) (ab_mx 20) (ab_rt 20) ∈ ab_ws := List.mem_filter.mpr ⟨List.mem_append_right _ (List.mem_append_right _ (List.mem_append_right _ (List.mem_append_right _ (List.mem_append_left _ (List.mem_of_getElem? (i := 7) rfl))))), rfl⟩
theorem ab_c_21 : Cond.code (ab_nm 21) (ab_code 21) (ab_mx 21) (ab_rt 21) ∈ ab_ws := List.mem_filter.mpr ⟨List.mem_append_right _ (List.mem_append_right _ (List.mem_append_right _ (List.mem_append_right _ (List.mem_append_right _ (List.mem_append_left _ (List.mem_of_getElem? (i := 148) rfl)))))), rfl⟩
theorem ab_c_22 : Cond.code (ab_nm 22) (ab_code 22) (ab_mx 22) (ab_rt 22) ∈ ab_ws := List.mem_filter.mpr ⟨List.mem_append_right _ (List.mem_append_right _ (List.mem_append_right _ (List.mem_append_right _ (List.mem_append_right _ (List.mem_append_left _ (List.mem_of_getElem? (i := 173) rfl)))))), rfl⟩
theorem ab_c_23 : Cond.code (ab_nm 23) (ab_code 23) (ab_mx 23) (ab_rt 23) ∈ ab_ws := List.mem_filter.mpr ⟨List.mem_append_right _ (List.mem_append_right _ (List.mem_append_right _ (List.mem_append_right _ (List.mem_append_right _ (List.mem_append_left _ (List.mem_of_getElem? (i := 181) rfl)))))), rfl⟩
theorem ab_c_24 : Cond.code (ab_nm 24) (ab_code 24) (ab_mx 24) (ab_rt 24) ∈ ab_ws := List.mem_filter.mpr ⟨List.mem_append_right _ (List.mem_append_right _ (List.mem_append_right _ (List.mem_append_right _ (List.mem_append_right _ (List.mem_append_left _ (List.mem_of_getElem? (i := 185) rfl)))))), rfl⟩
theorem ab_c_25 : Cond.code (ab_nm 25) (ab_code 25) (ab_mx 25) (ab_rt 25) ∈ ab_ws := List.mem_filter.mpr ⟨List.mem_append_right _ (List.mem_append_right _ (List.mem_append_right _ (List.mem_append_right _ (List.mem_append_right _ (List.mem_append_left _ (List.mem_of_getElem? (i := 193) rfl)))))), rfl⟩
theorem ab_c_26 : Cond.code (ab_nm 26) (ab_code 26) (ab_mx 26) (ab_rt 26) ∈ ab_ws := List.mem_filter.mpr ⟨List.mem_append_right _ (List.mem_append_left _ (List.mem_of_getElem? (i := 79) rfl)), rfl⟩
theorem ab_c_27 : Cond.code (ab_nm 27) (ab_code 27) (ab_mx 27) (ab_rt 27) ∈ ab_ws := List.mem_filter.mpr ⟨List.mem_append_right _ (List.mem_append_right _ (List.mem_append_right _ (List.mem_append_left _ (List.mem_of_getElem? (i := 48) rfl)))), rfl⟩
theorem ab_c_28 : Cond.code (ab_nm 28) (ab_code 28) (ab_mx 28) (ab_rt 28) ∈ ab_ws := List.mem_filter.mpr ⟨List.mem_append_right _ (List.mem_append_right _ (List.mem_append_right _ (List.mem_append_left _ (List.mem_of_getElem? (i := 182) rfl)))), rfl⟩
theorem ab_c_29 : Cond.code (ab_nm 29) (ab_code 29) (ab_mx 29) (ab_rt 29) ∈ ab_ws := List.mem_filter.mpr ⟨List.mem_append_right _ (List.mem_append_right _ (List.mem_append_right _ (List.mem_append_left _ (List.mem_of_getElem? (i := 186) rfl)))), rfl⟩
theorem ab_c_30 : Cond.code (ab_nm 30) (ab_code 30) (ab_mx 30) (ab_rt 30) ∈ ab_ws := List.mem_filter.mpr ⟨List.mem_append_right _ (List.mem_append_left _ (List.mem_of_getElem? (i := 119) rfl)), rfl⟩
theorem ab_c_31 : Cond.code (ab_nm 31) (ab_code 31) (ab_mx 31) (ab_rt 31) ∈ ab_ws := List.mem_filter.mpr ⟨List.mem_append_right _ (List.mem_append_right _ (List.mem_append_right _ (List.mem_append_left _ (List.mem_of_getElem? (i := 211) rfl)))), rfl⟩
theorem ab_c_32 : Cond.code (ab_nm 32) (ab_code 32) (ab_mx 32) (ab_rt 32) ∈ ab_ws := List.mem_filter.mpr ⟨List.mem_append_right _ (List.mem_append_right _ (List.mem_append_left _ (List.mem_of_getElem? (i := 97) rfl))), rfl⟩
theorem ab_c_33 : Cond.code (ab_nm 33) (ab_code 33) (ab_mx 33) (ab_rt 33) ∈ ab_ws := List.mem_filter.mpr ⟨List.mem_append_right _ (List.mem_append_right _ (List.mem_append_right _ (List.mem_append_right _ (List.mem_append_left _ (List.mem_of_getElem? (i := 55) rfl))))), rfl⟩
theorem ab_c_34 : Cond.code (ab_nm 34) (ab_code 34) (ab_mx 34) (ab_rt 34) ∈ ab_ws := List.mem_filter.mpr ⟨List.mem_append_right _ (List.mem_append_right _ (List.mem_append_right _ (List.mem_append_right _ (List.mem_append_left _ (List.mem_of_getElem? (i := 99) rfl))))), rfl⟩
theorem ab_c_35 : Cond.code (ab_nm 35) (ab_code 35) (ab_mx 35) (ab_rt 35) ∈ ab_ws := List.mem_filter.mpr ⟨List.mem_append_right _ (List.mem_append_right _ (List.mem_append_right _ (List.mem_append_right _ (List.mem_append_left _ (List.mem_of_getElem? (i := 59) rfl))))), rfl⟩
theorem ab_c_36 : Cond.code (ab_nm 36) (ab_code 36) (ab_mx 36) (ab_rt 36) ∈ ab_ws := List.mem_filter.mpr ⟨List.mem_append_right _ (List.mem_append_right _ (List.mem_append_right _ (List.mem_append_right _ (List.mem_append_left _ (List.mem_of_getElem? (i := 107) rfl))))), rfl⟩
theorem ab_c_37 : Cond.code (ab_nm 37) (ab_code 37) (ab_mx 37) (ab_rt 37) ∈ ab_ws := List.mem_filter.mpr ⟨List.mem_append_right _ (List.mem_append_right _ (List.mem_append_right _ (List.mem_append_right _ (List.mem_append_left _ (List.mem_of_getElem? (i := 123) rfl))))), rfl⟩
theorem ab_c_38 : Cond.code (ab_nm 38) (ab_code 38) (ab_mx 38) (ab_rt 38) ∈ ab_ws := List.mem_filter.mpr ⟨List.mem_append_right _ (List.mem_append_right _ (List.mem_append_right _ (List.mem_append_right _ (List.mem_append_left _ (List.mem_of_getElem? (i := 115) rfl))))), rfl⟩
theorem ab_c_39 : Cond.code (ab_nm 39) (ab_code 39) (ab_mx 39) (ab_rt 39) ∈ ab_ws := List.mem_filter.mpr ⟨List.mem_append_right _ (List.mem_append_right _ (List.mem_append_right _ (List.mem_append_right _ (List.mem_append_left _ (List.mem_of_getElem? (i := 137) rfl))))), rfl⟩
theorem ab_c_40 : Cond.code (ab_nm 40) (ab_code 40) (ab_mx 40) (ab_rt 40) ∈ ab_ws := List.mem_filter.mpr ⟨List.mem_append_right _ (List.mem_append_right _ (List.mem_append_right _ (List.mem_append_right _ (List.mem_append_left _ (List.mem_of_getElem? (i := 146) rfl))))), rfl⟩
theorem ab_c_41 : Cond.code (ab_nm 41) (ab_code 41) (ab_mx 41) (ab_rt 41) ∈ ab_ws := List.mem_filter.mpr ⟨List.mem_append_right _ (List.mem_append_left _ (List.mem_of_getElem? (i := 36) rfl)), rfl⟩
theorem ab_c_42 : Cond.code (ab_nm 42) (ab_code 42) (ab_mx 42) (ab_rt 42) ∈ ab_ws := List.mem_filter.mpr ⟨List.mem_append_right _ (List.mem_append_right _ (List.mem_append_right _ (List.mem_append_left _ (List.mem_of_getElem? (i := 44) rfl)))), rfl⟩
theorem ab_c_43 : Cond.code (ab_nm 43) (ab_code 43) (ab_mx 43) (ab_rt 43) ∈ ab_ws := List.mem_filter.mpr ⟨List.mem_append_right _ (List.mem_append_right _ (List.mem_append_right _ (List.mem_append_left _ (List.mem_of_getElem? (i := 132) rfl)))), rfl⟩
theorem ab_c_44 : Cond.code (ab_nm 44) (ab_code 44) (ab_mx 44) (ab_rt 44) ∈ ab_ws := List.mem_filter.mpr ⟨List.mem_append_right _ (List.mem_append_right _ (List.mem_append_right _ (List.mem_append_left _ (List.mem_of_getElem? (i := 75) rfl)))), rfl⟩
theorem ab_c_45 : Cond.code (ab_nm 45) (ab_code 45) (ab_mx 45) (ab_rt 45) ∈ ab_ws := List.mem_filter.mpr ⟨List.mem_append_right _ (List.mem_append_right _ (List.mem_append_right _ (List.mem_append_left _ (List.mem_of_getElem? (i := 159) rfl)))), rfl⟩
theorem ab_c_46 : Cond.code (ab_nm 46) (ab_code 46) (ab_mx 46) (ab_rt 46) ∈ ab_ws := List.mem_filter.mpr ⟨List.mem_append_right _ (List.mem_append_right _ (List.mem_append_right _ (List.mem_append_left _ (List.mem_of_getElem? (i := 136) rfl)))), rfl⟩
theorem ab_c_47 : Cond.code (ab_nm 47) (ab_code 47) (ab_mx 47) (ab_rt 47) ∈ ab_ws := List.mem_filter.mpr ⟨List.mem_append_right _ (List.mem_append_right _ (List.mem_append_right _ (List.mem_append_left _ (List.mem_of_getElem? (i := 163) rfl)))), rfl⟩
theorem ab_c_48 : Cond.code (ab_nm 48) (ab_code 48) (ab_mx 48) (ab_rt 48) ∈ ab_ws := List.mem_filter.mpr ⟨List.mem_append_right _ (List.mem_append_right _ (List.mem_append_right _ (List.mem_append_left _ (List.mem_of_getElem? (i := 199) rfl)))), rfl⟩
theorem ab_c_49 : Cond.code (ab_nm 49) (ab_code 49) (ab_mx 49) (ab_rt 49) ∈ ab_ws := List.mem_filter.mpr ⟨List.mem_append_right _ (List.mem_append_right _ (List.mem_append_right _ (List.mem_append_left _ (List.mem_of_getElem? (i := 207) rfl)))), rfl⟩
theorem ab_c_50 : Cond.code (ab_nm 50) (ab_code 50) (ab_mx 50) (ab_rt 50) ∈ ab_ws := List.mem_filter.mpr ⟨List.mem_append_right _ (List.mem_append_right _ (List.mem_append_right _ (List.mem_append_left _ (List.mem_of_getElem? (i := 222) rfl)))), rfl⟩
theorem ab_c_51 : Cond.code (ab_nm 51) (ab_code 51) (ab_mx 51) (ab_rt 51) ∈ ab_ws := List.mem_filter.mpr ⟨List.mem_append_right _ (List.mem_append_right _ (List.mem_append_right _ (List.mem_append_left _ (List.mem_of_getElem? (i := 230) rfl)))), rfl⟩
theorem ab_c_52 : Cond.code (ab_nm 52) (ab_code 52) (ab_mx 52) (ab_rt 52) ∈ ab_ws := List.mem_filter.mpr ⟨List.mem_append_right _ (List.mem_append_right _ (List.mem_append_right _ (List.mem_append_left _ (List.mem_of_getElem? (i := 234) rfl)))), rfl⟩
theorem ab_c_53 : Cond.code (ab_nm 53) (ab_code 53) (ab_mx 53) (ab_rt 53) ∈ ab_ws := List.mem_filter.mpr ⟨List.mem_append_right _ (List.mem_append_right _ (List.mem_append_right _ (List.mem_append_left _ (List.mem_of_getElem? (i := 238) rfl)))), rfl⟩
theorem ab_c_54 : Cond.code (ab_nm 54) (ab_code 54) (ab_mx 54) (ab_rt 54) ∈ ab_ws := List.mem_filter.mpr ⟨List.mem_append_right _ (List.mem_append_right _ (List.mem_append_right _ (List.mem_append_left _ (List.mem_of_getElem? (i := 146) rfl)))), rfl⟩
theorem ab_c_55 : Cond.code (ab_nm 55) (ab_code 55) (ab_mx 55) (ab_rt 55) ∈ ab_ws := List.mem_filter.mpr ⟨List.mem_append_right _ (List.mem_append_right _ (List.mem_append_right _ (List.mem_append_left _ (List.mem_of_getElem? (i := 142) rfl)))), rfl⟩
theorem ab_c_56 : Cond.code (ab_nm 56) (ab_code 56) (ab_mx 56) (ab_rt 56) ∈ ab_ws := List.mem_filter.mpr ⟨List.mem_append_right _ (List.mem_append_right _ (List.mem_append_right _ (List.mem_append_left _ (List.mem_of_getElem? (i := 194) rfl)))), rfl⟩
theorem ab_c_57 : Cond.code (ab_nm 57) (ab_code 57) (ab_mx 57) (ab_rt 57) ∈ ab_ws := List.mem_filter.mpr ⟨List.mem_append_right _ (List.mem_append_right _ (List.mem_append_right _ (List.mem_append_left _ (List.mem_of_getElem? (i := 150) rfl)))), rfl⟩
theorem ab_c_58 : Cond.code (ab_nm 58) (ab_code 58) (ab_mx 58) (ab_rt 58) ∈ ab_ws := List.mem_filter.mpr ⟨List.mem_append_right _ (List.mem_append_right _ (List.mem_append_right _ (List.mem_append_left _ (List.mem_of_getElem? (i := 171) rfl)))), rfl⟩
theorem ab_c_59 : Cond.code (ab_nm 59) (ab_code 59) (ab_mx 59) (ab_rt 59) ∈ ab_ws := List.mem_filter.mpr ⟨List.mem_append_right _ (List.mem_append_right _ (List.mem_append_right _ (List.mem_append_left _ (List.mem_of_getElem? (i := 167) rfl)))), rfl⟩
theorem ab_c_60 : Cond.code (ab_nm 60) (ab_code 60) (ab_mx 60) (ab_rt 60) ∈ ab_ws := List.mem_filter.mpr ⟨List.mem_append_right _ (List.mem_append_right _ (List.mem_append_right _ (List.mem_append_left _ (List.mem_of_getElem? (i := 226) rfl)))), rfl⟩
theorem ab_c_61 : Cond.code (ab_nm 61) (ab_code 61) (ab_mx 61) (ab_rt 61) ∈ ab_ws := List.mem_filter.mpr ⟨List.mem_append_right _ (List.mem_append_right _ (List.mem_append_left _ (List.mem_of_getElem? (i := 42) rfl))), rfl⟩
theorem ab_c_62 : Cond.code (ab_nm 62) (ab_code 62) (ab_mx 62) (ab_rt 62) ∈ ab_ws := List.mem_filter.mpr ⟨List.mem_append_right _ (List.mem_append_right _ (List.mem_append_right _ (List.mem_append_right _ (List.mem_append_left _ (List.mem_of_getElem? (i := 3) rfl))))), rfl⟩
theorem ab_c_63 : Cond.code (ab_nm 63) (ab_code 63) (ab_mx 63) (ab_rt 63) ∈ ab_ws := List.mem_filter.mpr ⟨List.mem_append_right _ (List.mem_append_right _ (List.mem_append_right _ (List.mem_append_right _ (List.mem_append_right _ (List.mem_append_left _ (List.mem_of_getElem? (i := 152) rfl)))))), rfl⟩
theorem ab_c_64 : Cond.code (ab_nm 64) (ab_code 64) (ab_mx 64) (ab_rt 64) ∈ ab_ws := List.mem_filter.mpr ⟨List.mem_append_right _ (List.mem_append_right _ (List.mem_append_right _ (List.mem_append_right _ (List.mem_append_right _ (List.mem_append_left _ (List.mem_of_getElem? (i := 126) rfl)))))), rfl⟩
theorem ab_c_65 : Cond.code (ab_nm 65) (ab_code 65) (ab_mx 65) (ab_rt 65) ∈ ab_ws := List.mem_filter.mpr ⟨List.mem_append_right _ (List.mem_append_right _ (List.mem_append_right _ (List.mem_append_right _ (List.mem_append_right _ (List.mem_append_left _ (List.mem_of_getElem? (i := 135) rfl)))))), rfl⟩
theorem ab_c_66 : Cond.code (ab_nm 66) (ab_code 66) (ab_mx 66) (ab_rt 66) ∈ ab_ws := List.mem_filter.mpr ⟨List.mem_append_right _ (List.mem_append_left _ (List.mem_of_getElem? (i := 42) rfl)), rfl⟩
theorem ab_c_67 : Cond.code (ab_nm 67) (ab_code 67) (ab_mx 67) (ab_rt 67) ∈ ab_ws := List.mem_filter.mpr ⟨List.mem_append_right _ (List.mem_append_right _ (List.mem_append_right _ (List.mem_append_left _ (List.mem_of_getElem? (i := 27) rfl)))), rfl⟩
theorem ab_c_68 : Cond.code (ab_nm 68) (ab_code 68) (ab_mx 68) (ab_rt 68) ∈ ab_ws := List.mem_filter.mpr ⟨List.mem_append_right _ (List.mem_append_right _ (List.mem_append_right _ (List.mem_append_left _ (List.mem_of_getElem? (i := 31) rfl)))), rfl⟩
theorem ab_c_69 : Cond.code (ab_nm 69) (ab_code 69) (ab_mx 69) (ab_rt 69) ∈ ab_ws := List.mem_filter.mpr ⟨List.mem_append_right _ (List.mem_append_right _ (List.mem_append_right _ (List.mem_append_left _ (List.mem_of_getElem? (i := 52) rfl)))), rfl⟩
theorem ab_c_70 : Cond.code (ab_nm 70) (ab_code 70) (ab_mx 70) (ab_rt 70) ∈ ab_ws := List.mem_filter.mpr ⟨List.mem_append_right _ (List.mem_append_right _ (List.mem_append_right _ (List.mem_append_left _ (List.mem_of_getElem? (i := 62) rfl)))), rfl⟩
theorem ab_c_71 : Cond.code (ab_nm 71) (ab_code 71) (ab_mx 71) (ab_rt 71) ∈ ab_ws := List.mem_filter.mpr ⟨List.mem_append_right _ (List.mem_append_right _ (List.mem_append_right _ (List.mem_append_left _ (List.mem_of_getElem? (i := 66) rfl)))), rfl⟩
theorem ab_c_72 : Cond.code (ab_nm 72) (ab_code 72) (ab_mx 72) (ab_rt 72) ∈ ab_ws := List.mem_filter.mpr ⟨List.mem_append_right _ (List.mem_append_right _ (List.mem_append_right _ (List.mem_append_left _ (List.mem_of_getElem? (i := 71) rfl)))), rfl⟩
theorem ab_c_73 : Cond.code (ab_nm 73) (ab_code 73) (ab_mx 73) (ab_rt 73) ∈ ab_ws := List.mem_filter.mpr ⟨List.mem_append_right _ (List.mem_append_right _ (List.mem_append_right _ (List.mem_append_left _ (List.mem_of_getElem? (i := 80) rfl)))), rfl⟩
theorem ab_c_74 : Cond.code (ab_nm 74) (ab_code 74) (ab_mx 74) (ab_rt 74) ∈ ab_ws := List.mem_filter.mpr ⟨List.mem_append_right _ (List.mem_append_right _ (List.mem_append_left _ (List.mem_of_getElem? (i := 214) rfl))), rfl⟩
theorem ab_c_75 : Cond.code (ab_nm 75) (ab_code 75) (ab_mx 75) (ab_rt 75) ∈ ab_ws := List.mem_filter.mpr ⟨List.mem_append_right _ (List.mem_append_right _ (List.mem_append_right _ (List.mem_append_right _ (List.mem_append_right _ (List.mem_append_left _ (List.mem_of_getElem? (i := 26) rfl)))))), rfl⟩
theorem ab_c_76 : Cond.code (ab_nm 76) (ab_code 76) (ab_mx 76) (ab_rt 76) ∈ ab_ws := List.mem_filter.mpr ⟨List.mem_append_right _ (List.mem_append_right _ (List.mem_append_right _ (List.mem_append_right _ (List.mem_append_right _ (List.mem_append_left _ (List.mem_of_getElem? (i := 31) rfl)))))), rfl⟩
theorem ab_c_77 : Cond.code (ab_nm 77) (ab_code 77) (ab_mx 77) (ab_rt 77) ∈ ab_ws := List.mem_filter.mpr ⟨List.mem_append_right _ (List.mem_append_right _ (List.mem_append_right _ (List.mem_append_right _ (List.mem_append_right _ (List.mem_append_left _ (List.mem_of_getElem? (i := 41) rfl)))))), rfl⟩
theorem ab_c_78 : Cond.code (ab_nm 78) (ab_code 78) (ab_mx 78) (ab_rt 78) ∈ ab_ws := List.mem_filter.mpr ⟨List.mem_append_right _ (List.mem_append_right _ (List.mem_append_right _ (List.mem_append_right _ (List.mem_append_right _ (List.mem_append_left _ (List.mem_of_getElem? (i := 35) rfl)))))), rfl⟩
theorem ab_c_79 : Cond.code (ab_nm 79) (ab_code 79) (ab_mx 79) (ab_rt 79) ∈ ab_ws := List.mem_filter.mpr ⟨List.mem_append_right _ (List.mem_append_left _ (List.mem_of_getElem? (i := 28) rfl)), rfl⟩
theorem ab_c_80 : Cond.code (ab_nm 80) (ab_code 80) (ab_mx 80) (ab_rt 80) ∈ ab_ws := List.mem_filter.mpr ⟨List.mem_append_right _ (List.mem_append_right _ (List.mem_append_right _ (List.mem_append_left _ (List.mem_of_getElem? (i := 23) rfl)))), rfl⟩
theorem ab_c_81 : Cond.code (ab_nm 81) (ab_code 81) (ab_mx 81) (ab_rt 81) ∈ ab_ws := List.mem_filter.mpr ⟨List.mem_append_right _ (List.mem_append_right _ (List.mem_append_right _ (List.mem_append_left _ (List.mem_of_getElem? (i := 36) rfl)))), rfl⟩
theorem ab_c_82 : Cond.code (ab_nm 82) (ab_code 82) (ab_mx 82) (ab_rt 82) ∈ ab_ws := List.mem_filter.mpr ⟨List.mem_append_right _ (List.mem_append_right _ (List.mem_append_right _ (List.mem_append_right _ (List.mem_append_left _ (List.mem_of_getElem? (i := 11) rfl))))), rfl⟩
theorem ab_c_83 : Cond.code (ab_nm 83) (ab_code 83) (ab_mx 83) (ab_rt 83) ∈ ab_ws := List.mem_filter.mpr ⟨List.mem_append_right _ (List.mem_append_right _ (List.mem_append_right _ (List.mem_append_right _ (List.mem_append_left _ (List.mem_of_getElem? (i := 15) rfl))))), rfl⟩
theorem ab_c_84 : Cond.code (ab_nm 84) (ab_code 84) (ab_mx 84) (ab_rt 84) ∈ ab_ws := List.mem_filter.mpr ⟨List.mem_append_right _ (List.mem_append_right _ (List.mem_append_right _ (List.mem_append_right _ (List.mem_append_left _ (List.mem_of_getElem? (i := 19) rfl))))), rfl⟩
theorem ab_c_85 : Cond.code (ab_nm 85) (ab_code 85) (ab_mx 85) (ab_rt 85) ∈ ab_ws := List.mem_filter.mpr ⟨List.mem_append_right _ (List.mem_append_right _ (List.mem_append_right _ (List.mem_append_right _ (List.mem_append_left _ (List.mem_of_getElem? (i := 27) rfl))))), rfl⟩
theorem ab_c_86 : Cond.code (ab_nm 86) (ab_code 86) (ab_mx 86) (ab_rt 86) ∈ ab_ws := List.mem_filter.mpr ⟨List.mem_append_right _ (List.mem_append_right _ (List.mem_append_right _ (List.mem_append_right _ (List.mem_append_left _ (List.mem_of_getElem? (i := 39) rfl))))), rfl⟩
theorem ab_c_87 : Cond.code (ab_nm 87) (ab_code 87) (ab_mx 87) (ab_rt 87) ∈ ab_ws := List.mem_filter.mpr ⟨List.mem_append_right _ (List.mem_append_right _ (List.mem_append_right _ (List.mem_append_right _ (List.mem_append_left _ (List.mem_of_getElem? (i := 47) rfl))))), rfl⟩
theorem ab_c_88 : Cond.code (ab_nm 88) (ab_code 88) (ab_mx 88) (ab_rt 88) ∈ ab_ws := List.mem_filter.mpr ⟨List.mem_append_right _ (List.mem_append_right _ (List.mem_append_right _ (List.mem_append_right _ (List.mem_append_left _ (List.mem_of_getElem? (i := 71) rfl))))), rfl⟩
theorem ab_c_89 : Cond.code (ab_nm 89) (ab_code 89) (ab_mx 89) (ab_rt 89) ∈ ab_ws := List.mem_filter.mpr ⟨List.mem_append_right _ (List.mem_append_right _ (List.mem_append_right _ (List.mem_append_right _ (List.mem_append_left _ (List.mem_of_getElem? (i := 103) rfl))))), rfl⟩
theorem ab_c_90 : Cond.code (ab_nm 90) (ab_code 90) (ab_mx 90) (ab_rt 90) ∈ ab_ws := List.mem_filter.mpr ⟨List.mem_append_right _ (List.mem_append_right _ (List.mem_append_right _ (List.mem_append_right _ (List.mem_append_left _ (List.mem_of_getElem? (i := 119) rfl))))), rfl⟩
theorem ab_c_91 : Cond.code (ab_nm 91) (ab_code 91) (ab_mx 91) (ab_rt 91) ∈ ab_ws := List.mem_filter.mpr ⟨List.mem_append_right _ (List.mem_append_right _ (List.mem_append_right _ (List.mem_append_right _ (List.mem_append_left _ (List.mem_of_getElem? (i := 128) rfl))))), rfl⟩
theorem ab_c_92 : Cond.code (ab_nm 92) (ab_code 92) (ab_mx 92) (ab_rt 92) ∈ ab_ws := List.mem_filter.mpr ⟨List.mem_append_right _ (List.mem_append_right _ (List.mem_append_right _ (List.mem_append_right _ (List.mem_append_left _ (List.mem_of_getElem? (i := 132) rfl))))), rfl⟩
theorem ab_c_93 : Cond.code (ab_nm 93) (ab_code 93) (ab_mx 93) (ab_rt 93) ∈ ab_ws := List.mem_filter.mpr ⟨List.mem_append_right _ (List.mem_append_right _ (List.mem_append_right _ (List.mem_append_right _ (List.mem_append_left _ (List.mem_of_getElem? (i := 153) rfl))))), rfl⟩
theorem ab_c_94 : Cond.code (ab_nm 94) (ab_code 94) (ab_mx 94) (ab_rt 94) ∈ ab_ws := List.mem_filter.mpr ⟨List.mem_append_right _ (List.mem_append_right _ (List.mem_append_right _ (List.mem_append_right _ (List.mem_append_left _ (List.mem_of_getElem? (i := 167) rfl))))), rfl⟩
theorem ab_c_95 : Cond.code (ab_nm 95) (ab_code 95) (ab_mx 95) (ab_rt 95) ∈ ab_ws := List.mem_filter.mpr ⟨List.mem_append_right _ (List.mem_append_right _ (List.mem_append_right _ (List.mem_append_right _ (List.mem_append_left _ (List.mem_of_getElem? (i := 189) rfl))))), rfl⟩
theorem ab_c_96 : Cond.code (ab_nm 96) (ab_code 96) (ab_mx 96) (ab_rt 96) ∈ ab_ws := List.mem_filter.mpr ⟨List.mem_append_right _ (List.mem_append_right _ (List.mem_append_right _ (List.mem_append_right _ (List.mem_append_left _ (List.mem_of_getElem? (i := 197) rfl))))), rfl⟩
theorem ab_c_97 : Cond.code (ab_nm 97) (ab_code 97) (ab_mx 97) (ab_rt 97) ∈ ab_ws := List.mem_filter.mpr ⟨List.mem_append_right _ (List.mem_append_right _ (List.mem_append_right _ (List.mem_append_right _ (List.mem_append_left _ (List.mem_of_getElem? (i := 207) rfl))))), rfl⟩
theorem ab_c_98 : Cond.code (ab_nm 98) (ab_code 98) (ab_mx 98) (ab_rt 98) ∈ ab_ws := List.mem_filter.mpr ⟨List.mem_append_right _ (List.mem_append_right _ (List.mem_append_right _ (List.mem_append_right _ (List.mem_append_left _ (List.mem_of_getElem? (i := 224) rfl))))), rfl⟩
theorem ab_c_99 : Cond.code (ab_nm 99) (ab_code 99) (ab_mx 99) (ab_rt 99) ∈ ab_ws := List.mem_filter.mpr ⟨List.mem_append_right _ (List.mem_append_right _ (List.mem_append_right _ (List.mem_append_right _ (List.mem_append_left _ (List.mem_of_getElem? (i := 228) rfl))))), rfl⟩
theorem ab_c_100 : Cond.code (ab_nm 100) (ab_code 100) (ab_mx 100) (ab_rt 100) ∈ ab_ws := List.mem_filter.mpr ⟨List.mem_append_right _ (List.mem_append_right _ (List.mem_append_right _ (List.mem_append_right _ (List.mem_append_right _ (List.mem_append_left _ (List.mem_of_getElem? (i := 6) rfl)))))), rfl⟩
theorem ab_c_101 : Cond.code (ab_nm 101) (ab_code 101) (ab_mx 101) (ab_rt 101) ∈ ab_ws := List.mem_filter.mpr ⟨List.mem_append_right _ (List.mem_append_right _ (List.mem_append_right _ (List.mem_append_right _ (List.mem_append_right _ (List.mem_append_left _ (List.mem_of_getElem? (i := 14) rfl)))))), rfl⟩
theorem ab_c_102 : Cond.code (ab_nm 102) (ab_code 102) (ab_mx 102) (ab_rt 102) ∈ ab_ws := List.mem_filter.mpr ⟨List.mem_append_right _ (List.mem_append_right _ (List.mem_append_right _ (List.mem_append_right _ (List.mem_append_right _ (List.mem_append_left _ (List.mem_of_getElem? (i := 45) rfl)))))), rfl⟩
theorem ab_c_103 : Cond.code (ab_nm 103) (ab_code 103) (ab_mx 103) (ab_rt 103) ∈ ab_ws := List.mem_filter.mpr ⟨List.mem_append_right _ (List.mem_append_right _ (List.mem_append_right _ (List.mem_append_right _ (List.mem_append_right _ (List.mem_append_left _ (List.mem_of_getElem? (i := 49) rfl)))))), rfl⟩
theorem ab_c_104 : Cond.code (ab_nm 104) (ab_code 104) (ab_mx 104) (ab_rt 104) ∈ ab_ws := List.mem_filter.mpr ⟨List.mem_append_right _ (List.mem_append_right _ (List.mem_append_right _ (List.mem_append_right _ (List.mem_append_right _ (List.mem_append_left _ (List.mem_of_getElem? (i := 56) rfl)))))), rfl⟩
theorem ab_c_105 : Cond.code (ab_nm 105) (ab_code 105) (ab_mx 105) (ab_rt 105) ∈ ab_ws := List.mem_filter.mpr ⟨List.mem_append_right _ (List.mem_append_right _ (List.mem_append_right _ (List.mem_append_right _ (List.mem_append_right _ (List.mem_append_left _ (List.mem_of_getElem? (i := 60) rfl)))))), rfl⟩
theorem ab_c_106 : Cond.code (ab_nm 106) (ab_code 106) (ab_mx 106) (ab_rt 106) ∈ ab_ws := List.mem_filter.mpr ⟨List.mem_append_right _ (List.mem_append_right _ (List.mem_append_right _ (List.mem_append_right _ (List.mem_append_right _ (List.mem_append_left _ (List.mem_of_getElem? (i := 65) rfl)))))), rfl⟩
theorem ab_c_107 : Cond.code (ab_nm 107) (ab_code 107) (ab_mx 107) (ab_rt 107) ∈ ab_ws := List.mem_filter.mpr ⟨List.mem_append_right _ (List.mem_append_right _ (List.mem_append_right _ (List.mem_append_right _ (List.mem_append_right _ (List.mem_append_left _ (List.mem_of_getElem? (i := 70) rfl)))))), rfl⟩
theorem ab_c_108 : Cond.code (ab_nm 108) (ab_code 108) (ab_mx 108) (ab_rt 108) ∈ ab_ws := List.mem_filter.mpr ⟨List.mem_append_right _ (List.mem_append_right _ (List.mem_append_right _ (List.mem_append_right _ (List.mem_append_right _ (List.mem_append_left _ (List.mem_of_getElem? (i := 77) rfl)))))), rfl⟩
theorem ab_c_109 : Cond.code (ab_nm 109) (ab_code 109) (ab_mx 109) (ab_rt 109) ∈ ab_ws := List.mem_filter.mpr ⟨List.mem_append_right _ (List.mem_append_right _ (List.mem_append_right _ (List.mem_append_right _ (List.mem_append_right _ (List.mem_append_left _ (List.mem_of_getElem? (i := 83) rfl)))))), rfl⟩
theorem ab_c_110 : Cond.code (ab_nm 110) (ab_code 110) (ab_mx 110) (ab_rt 110) ∈ ab_ws := List.mem_filter.mpr ⟨List.mem_append_right _ (List.mem_append_right _ (List.mem_append_right _ (List.mem_append_right _ (List.mem_append_right _ (List.mem_append_left _ (List.mem_of_getElem? (i := 87) rfl)))))), rfl⟩
theorem ab_c_111 : Cond.code (ab_nm 111) (ab_code 111) (ab_mx 111) (ab_rt 111) ∈ ab_ws := List.mem_filter.mpr ⟨List.mem_append_right _ (List.mem_append_right _ (List.mem_append_right _ (List.mem_append_right _ (List.mem_append_right _ (List.mem_append_left _ (List.mem_of_getElem? (i := 103) rfl)))))), rfl⟩
theorem ab_c_112 : Cond.code (ab_nm 112) (ab_code 112) (ab_mx 112) (ab_rt 112) ∈ ab_ws := List.mem_filter.mpr ⟨List.mem_append_right _ (List.mem_append_right _ (List.mem_append_right _ (List.mem_append_right _ (List.mem_append_right _ (List.mem_append_left _ (List.mem_of_getElem? (i := 107) rfl)))))), rfl⟩
theorem ab_c_113 : Cond.code (ab_nm 113) (ab_code 113) (ab_mx 113) (ab_rt 113) ∈ ab_ws := List.mem_filter.mpr ⟨List.mem_append_right _ (List.mem_append_right _ (List.mem_append_right _ (List.mem_append_right _ (List.mem_append_right _ (List.mem_append_left _ (List.mem_of_getElem? (i := 140) rfl)))))), rfl⟩
theorem ab_c_114 : Cond.code (ab_nm 114) (ab_code 114) (ab_mx 114) (ab_rt 114) ∈ ab_ws := List.mem_filter.mpr ⟨List.mem_append_right _ (List.mem_append_right _ (List.mem_append_right _ (List.mem_append_right _ (List.mem_append_right _ (List.mem_append_left _ (List.mem_of_getElem? (i := 144) rfl)))))), rfl⟩
theorem ab_c_115 : Cond.code (ab_nm 115) (ab_code 115) (ab_mx 115) (ab_rt 115) ∈ ab_ws := List.mem_filter.mpr ⟨List.mem_append_right _ (List.mem_append_right _ (List.mem_append_right _ (List.mem_append_right _ (List.mem_append_right _ (List.mem_append_left _ (List.mem_of_getElem? (i := 157) rfl)))))), rfl⟩
theorem ab_c_116 : Cond.code (ab_nm 116) (ab_code 116) (ab_mx 116) (ab_rt 116) ∈ ab_ws := List.mem_filter.mpr ⟨List.mem_append_right _ (List.mem_append_right _ (List.mem_append_right _ (List.mem_append_right _ (List.mem_append_right _ (List.mem_append_left _ (List.mem_of_getElem? (i := 161) rfl)))))), rfl⟩
theorem ab_c_117 : Cond.code (ab_nm 117) (ab_code 117) (ab_mx 117) (ab_rt 117) ∈ ab_ws := List.mem_filter.mpr ⟨List.mem_append_right _ (List.mem_append_right _ (List.mem_append_right _ (List.mem_append_right _ (List.mem_append_right _ (List.mem_append_left _ (List.mem_of_getElem? (i := 165) rfl)))))), rfl⟩
theorem ab_c_118 : Cond.code (ab_nm 118) (ab_code 118) (ab_mx 118) (ab_rt 118) ∈ ab_ws := List.mem_filter.mpr ⟨List.mem_append_right _ (List.mem_append_right _ (List.mem_append_right _ (List.mem_append_right _ (List.mem_append_right _ (List.mem_append_left _ (List.mem_of_getElem? (i := 169) rfl)))))), rfl⟩
theorem ab_c_119 : Cond.code (ab_nm 119) (ab_code 119) (ab_mx 119) (ab_rt 119) ∈ ab_ws := List.mem_filter.mpr ⟨List.mem_append_right _ (List.mem_append_right _ (List.mem_append_right _ (List.mem_append_right _ (List.mem_append_right _ (List.mem_append_left _ (List.mem_of_getElem? (i := 177) rfl)))))), rfl⟩
theorem ab_c_120 : Cond.code (ab_nm 120) (ab_code 120) (ab_mx 120) (ab_rt 120) ∈ ab_ws := List.mem_filter.mpr ⟨List.mem_append_right _ (List.mem_append_right _ (List.mem_append_right _ (List.mem_append_right _ (List.mem_append_right _ (List.mem_append_left _ (List.mem_of_getElem? (i := 189) rfl)))))), rfl⟩
theorem ab_c_121 : Cond.code (ab_nm 121) (ab_code 121) (ab_mx 121) (ab_rt 121) ∈ ab_ws := List.mem_filter.mpr ⟨List.mem_append_right _ (List.mem_append_right _ (List.mem_append_right _ (List.mem_append_right _ (List.mem_append_right _ (List.mem_append_left _ (List.mem_of_getElem? (i := 209) rfl)))))), rfl⟩
theorem ab_c_122 : Cond.code (ab_nm 122) (ab_code 122) (ab_mx 122) (ab_rt 122) ∈ ab_ws := List.mem_filter.mpr ⟨List.mem_append_right _ (List.mem_append_right _ (List.mem_append_right _ (List.mem_append_right _ (List.mem_append_right _ (List.mem_append_left _ (List.mem_of_getElem? (i := 197) rfl)))))), rfl⟩
theorem ab_c_123 : Cond.code (ab_nm 123) (ab_code 123) (ab_mx 123) (ab_rt 123) ∈ ab_ws := List.mem_filter.mpr ⟨List.mem_append_right _ (List.mem_append_right _ (List.mem_append_right _ (List.mem_append_right _ (List.mem_append_right _ (List.mem_append_left _ (List.mem_of_getElem? (i := 201) rfl)))))), rfl⟩
theorem ab_c_124 : Cond.code (ab_nm 124) (ab_code 124) (ab_mx 124) (ab_rt 124) ∈ ab_ws := List.mem_filter.mpr ⟨List.mem_append_right _ (List.mem_append_right _ (List.mem_append_right _ (List.mem_append_left _ (List.mem_of_getElem? (i := 40) rfl)))), rfl⟩
theorem ab_c_125 : Cond.code (ab_nm 125) (ab_code 125) (ab_mx 125) (ab_rt 125) ∈ ab_ws := List.mem_filter.mpr ⟨List.mem_append_right _ (List.mem_append_right _ (List.mem_append_right _ (List.mem_append_right _ (List.mem_append_right _ (List.mem_append_left _ (List.mem_of_getElem? (i := 22) rfl)))))), rfl⟩
theorem ab_c_126 : Cond.code (ab_nm 126) (ab_code 126) (ab_mx 126) (ab_rt 126) ∈ ab_ws := List.mem_filter.mpr ⟨List.mem_append_right _ (List.mem_append_right _ (List.mem_append_right _ (List.mem_append_right _ (List.mem_append_left _ (List.mem_of_getElem? (i := 23) rfl))))), rfl⟩
theorem ab_c_127 : Cond.code (ab_nm 127) (ab_code 127) (ab_mx 127) (ab_rt 127) ∈ ab_ws := List.mem_filter.mpr ⟨List.mem_append_right _ (List.mem_append_right _ (List.mem_append_right _ (List.mem_append_right _ (List.mem_append_left _ (List.mem_of_getElem? (i := 43) rfl))))), rfl⟩
theorem ab_c_128 : Cond.code (ab_nm 128) (ab_code 128) (ab_mx 128) (ab_rt 128) ∈ ab_ws := List.mem_filter.mpr ⟨List.mem_append_right _ (List.mem_append_right _ (List.mem_append_right _ (List.mem_append_right _ (List.mem_append_left _ (List.mem_of_getElem? (i := 83) rfl))))), rfl⟩
theorem ab_c_129 : Cond.code (ab_nm 129) (ab_code 129) (ab_mx 129) (ab_rt 129) ∈ ab_ws := List.mem_filter.mpr ⟨List.mem_append_right _ (List.mem_append_right _ (List.mem_append_right _ (List.mem_append_right _ (List.mem_append_left _ (List.mem_of_getElem? (i := 31) rfl))))), rfl⟩
theorem ab_c_130 : Cond.code (ab_nm 130) (ab_code 130) (ab_mx 130) (ab_rt 130) ∈ ab_ws := List.mem_filter.mpr ⟨List.mem_append_right _ (List.mem_append_right _ (List.mem_append_right _ (List.mem_append_right _ (List.mem_append_left _ (List.mem_of_getElem? (i := 87) rfl))))), rfl⟩
theorem ab_c_131 : Cond.code (ab_nm 131) (ab_code 131) (ab_mx 131) (ab_rt 131) ∈ ab_ws := List.mem_filter.mpr ⟨List.mem_append_right _ (List.mem_append_right _ (List.mem_append_right _ (List.mem_append_right _ (List.mem_append_right _ (List.mem_append_left _ (List.mem_of_getElem? (i := 91) rfl)))))), rfl⟩
theorem ab_c_132 : Cond.code (ab_nm 132) (ab_code 132) (ab_mx 132) (ab_rt 132) ∈ ab_ws := List.mem_filter.mpr ⟨List.mem_append_right _ (List.mem_append_right _ (List.mem_append_right _ (List.mem_append_right _ (List.mem_append_right _ (List.mem_append_left _ (List.mem_of_getElem? (i := 113) rfl)))))), rfl⟩
theorem ab_c_133 : Cond.code (ab_nm 133) (ab_code 133) (ab_mx 133) (ab_rt 133) ∈ ab_ws := List.mem_filter.mpr ⟨List.mem_append_right _ (List.mem_append_right _ (List.mem_append_right _ (List.mem_append_right _ (List.mem_append_left _ (List.mem_of_getElem? (i := 79) rfl))))), rfl⟩
theorem ab_c_134 : Cond.code (ab_nm 134) (ab_code 134) (ab_mx 134) (ab_rt 134) ∈ ab_ws := List.mem_filter.mpr ⟨List.mem_append_right _ (List.mem_append_right _ (List.mem_append_right _ (List.mem_append_right _ (List.mem_append_left _ (List.mem_of_getElem? (i := 75) rfl))))), rfl⟩
theorem ab_c_135 : Cond.code (ab_nm 135) (ab_code 135) (ab_mx 135) (ab_rt 135) ∈ ab_ws := List.mem_filter.mpr ⟨List.mem_append_right _ (List.mem_append_right _ (List.mem_append_right _ (List.mem_append_right _ (List.mem_append_right _ (List.mem_append_left _ (List.mem_of_getElem? (i := 18) rfl)))))), rfl⟩
theorem ab_c_136 : Cond.code (ab_nm 136) (ab_code 136) (ab_mx 136) (ab_rt 136) ∈ ab_ws := List.mem_filter.mpr ⟨List.mem_append_right _ (List.mem_append_right _ (List.mem_append_right _ (List.mem_append_right _ (List.mem_append_right _ (List.mem_append_left _ (List.mem_of_getElem? (i := 110) rfl)))))), rfl⟩
theorem ab_c_137 : Cond.code (ab_nm 137) (ab_code 137) (ab_mx 137) (ab_rt 137) ∈ ab_ws := List.mem_filter.mpr ⟨List.mem_append_right _ (List.mem_append_right _ (List.mem_append_right _ (List.mem_append_right _ (List.mem_append_left _ (List.mem_of_getElem? (i := 51) rfl))))), rfl⟩
theorem ab_c_138 : Cond.code (ab_nm 138) (ab_code 138) (ab_mx 138) (ab_rt 138) ∈ ab_ws := List.mem_filter.mpr ⟨List.mem_append_right _ (List.mem_append_right _ (List.mem_append_right _ (List.mem_append_right _ (List.mem_append_left _ (List.mem_of_getElem? (i := 91) rfl))))), rfl⟩
theorem ab_c_139 : Cond.code (ab_nm 139) (ab_code 139) (ab_mx 139) (ab_rt 139) ∈ ab_ws := List.mem_filter.mpr ⟨List.mem_append_right _ (List.mem_append_right _ (List.mem_append_right _ (List.mem_append_right _ (List.mem_append_left _ (List.mem_of_getElem? (i := 95) rfl))))), rfl⟩
theorem ab_c_140 : Cond.code (ab_nm 140) (ab_code 140) (ab_mx 140) (ab_rt 140) ∈ ab_ws := List.mem_filter.mpr ⟨List.mem_append_right _ (List.mem_append_right _ (List.mem_append_right _ (List.mem_append_right _ (List.mem_append_left _ (List.mem_of_getElem? (i := 215) rfl))))), rfl⟩
theorem ab_c_141 : Cond.code (ab_nm 141) (ab_code 141) (ab_mx 141) (ab_rt 141) ∈ ab_ws := List.mem_filter.mpr ⟨List.mem_append_right _ (List.mem_append_right _ (List.mem_append_right _ (List.mem_append_right _ (List.mem_append_left _ (List.mem_of_getElem? (i := 171) rfl))))), rfl⟩
theorem ab_c_142 : Cond.code (ab_nm 142) (ab_code 142) (ab_mx 142) (ab_rt 142) ∈ ab_ws := List.mem_filter.mpr ⟨List.mem_append_right _ (List.mem_append_right _ (List.mem_append_right _ (List.mem_append_right _ (List.mem_append_left _ (List.mem_of_getElem? (i := 211) rfl))))), rfl⟩
theorem ab_c_143 : Cond.code (ab_nm 143) (ab_code 143) (ab_mx 143) (ab_rt 143) ∈ ab_ws := List.mem_filter.mpr ⟨List.mem_append_right _ (List.mem_append_right _ (List.mem_append_right _ (List.mem_append_right _ (List.mem_append_left _ (List.mem_of_getElem? (i := 232) rfl))))), rfl⟩
theorem ab_c_144 : Cond.code (ab_nm 144) (ab_code 144) (ab_mx 144) (ab_rt 144) ∈ ab_ws := List.mem_filter.mpr ⟨List.mem_append_right _ (List.mem_append_right _ (List.mem_append_right _ (List.mem_append_right _ (List.mem_append_left _ (List.mem_of_getElem? (i := 236) rfl))))), rfl⟩
theorem ab_c_145 : Cond.code (ab_nm 145) (ab_code 145) (ab_mx 145) (ab_rt 145) ∈ ab_ws := List.mem_filter.mpr ⟨List.mem_append_right _ (List.mem_append_right _ (List.mem_append_right _ (List.mem_append_right _ (List.mem_append_right _ (List.mem_append_left _ (List.mem_of_getElem? (i := 95) rfl)))))), rfl⟩
theorem ab_c_146 : Cond.code (ab_nm 146) (ab_code 146) (ab_mx 146) (ab_rt 146) ∈ ab_ws := List.mem_filter.mpr ⟨List.mem_append_right _ (List.mem_append_right _ (List.mem_append_right _ (List.mem_append_right _ (List.mem_append_right _ (List.mem_append_left _ (List.mem_of_getElem? (i := 99) rfl)))))), rfl⟩
theorem ab_c_147 : Cond.code (ab_nm 147) (ab_code 147) (ab_mx 147) (ab_rt 147) ∈ ab_ws := List.mem_filter.mpr ⟨List.mem_append_right _ (List.mem_append_right _ (List.mem_append_right _ (List.mem_append_right _ (List.mem_append_left _ (List.mem_of_getElem? (i := 149) rfl))))), rfl⟩
theorem ab_c_148 : Cond.code (ab_nm 148) (ab_code 148) (ab_mx 148) (ab_rt 148) ∈ ab_ws := List.mem_filter.mpr ⟨List.mem_append_right _ (List.mem_append_right _ (List.mem_append_right _ (List.mem_append_right _ (List.mem_append_right _ (List.mem_append_left _ (List.mem_of_getElem? (i := 52) rfl)))))), rfl⟩
theorem ab_c_149 : Cond.code (ab_nm 149) (ab_code 149) (ab_mx 149) (ab_rt 149) ∈ ab_ws := List.mem_filter.mpr ⟨List.mem_append_right _ (List.mem_append_right _ (List.mem_append_right _ (List.mem_append_right _ (List.mem_append_right _ (List.mem_append_left _ (List.mem_of_getElem? (i := 73) rfl)))))), rfl⟩
theorem ab_c_150 : Cond.code (ab_nm 150) (ab_code 150) (ab_mx 150) (ab_rt 150) ∈ ab_ws := List.mem_filter.mpr ⟨List.mem_append_right _ (List.mem_append_right _ (List.mem_append_right _ (List.mem_append_right _ (List.mem_append_right _ (List.mem_append_left _ (List.mem_of_getElem? (i := 118) rfl)))))), rfl⟩
theorem ab_c_151 : Cond.code (ab_nm 151) (ab_code 151) (ab_mx 151) (ab_rt 151) ∈ ab_ws := List.mem_filter.mpr ⟨List.mem_append_right _ (List.mem_append_right _ (List.mem_append_right _ (List.mem_append_right _ (List.mem_append_right _ (List.mem_append_left _ (List.mem_of_getElem? (i := 122) rfl)))))), rfl⟩
theorem ab_c_152 : Cond.code (ab_nm 152) (ab_code 152) (ab_mx 152) (ab_rt 152) ∈ ab_ws := List.mem_filter.mpr ⟨List.mem_append_right _ (List.mem_append_right _ (List.mem_append_right _ (List.mem_append_right _ (List.mem_append_right _ (List.mem_append_right _ (List.mem_append_left _ (List.mem_of_getElem? (i := 180) rfl))))))), rfl⟩
theorem ab_c_153 : Cond.code (ab_nm 153) (ab_code 153) (ab_mx 153) (ab_rt 153) ∈ ab_ws := List.mem_filter.mpr ⟨List.mem_append_right _ (List.mem_append_right _ (List.mem_append_right _ (List.mem_append_right _ (List.mem_append_right _ (List.mem_append_right _ (List.mem_append_right _ (List.mem_append_left _ (List.mem_of_getElem? (i := 156) rfl)))))))), rfl⟩
theorem ab_c_154 : Cond.code (ab_nm 154) (ab_code 154) (ab_mx 154) (ab_rt 154) ∈ ab_ws := List.mem_filter.mpr ⟨List.mem_append_right _ (List.mem_append_right _ (List.mem_append_right _ (List.mem_append_right _ (List.mem_append_right _ (List.mem_append_right _ (List.mem_append_right _ (List.mem_append_right _ (List.mem_append_left _ (List.mem_of_getElem? (i := 3) rfl))))))))), rfl⟩
theorem ab_c_155 : Cond.code (ab_nm 155) (ab_code 155) (ab_mx 155) (ab_rt 155) ∈ ab_ws := List.mem_filter.mpr ⟨List.mem_append_right _ (List.mem_append_right _ (List.mem_append_right _ (List.mem_append_right _ (List.mem_append_right _ (List.mem_append_right _ (List.mem_append_right _ (List.mem_append_right _ (List.mem_append_left _ (List.mem_of_getElem? (i := 15) rfl))))))))), rfl⟩
theorem ab_c_156 : Cond.code (ab_nm 156) (ab_code 156) (ab_mx 156) (ab_rt 156) ∈ ab_ws := List.mem_filter.mpr ⟨List.mem_append_right _ (List.mem_append_right _ (List.mem_append_right _ (List.mem_append_right _ (List.mem_append_right _ (List.mem_append_right _ (List.mem_append_right _ (List.mem_append_right _ (List.mem_append_left _ (List.mem_of_getElem? (i := 163) rfl))))))))), rfl⟩
theorem ab_c_157 : Cond.code (ab_nm 157) (ab_code 157) (ab_mx 157) (ab_rt 157) ∈ ab_ws := List.mem_filter.mpr ⟨List.mem_append_right _ (List.mem_append_right _ (List.mem_append_right _ (List.mem_append_right _ (List.mem_append_right _ (List.mem_append_right _ (List.mem_append_left _ (List.mem_of_getElem? (i := 39) rfl))))))), rfl⟩
theorem ab_c_158 : Cond.code (ab_nm 158) (ab_code 158) (ab_mx 158) (ab_rt 158) ∈ ab_ws := List.mem_filter.mpr ⟨List.mem_append_right _ (List.mem_append_right _ (List.mem_append_right _ (List.mem_append_right _ (List.mem_append_right _ (List.mem_append_right _ (List.mem_append_left _ (List.mem_of_getElem? (i := 163) rfl))))))), rfl⟩
theorem ab_c_159 : Cond.code (ab_nm 159) (ab_code 159) (ab_mx 159) (ab_rt 159) ∈ ab_ws := List.mem_filter.mpr ⟨List.mem_append_right _ (List.mem_append_right _ (List.mem_append_right _ (List.mem_append_right _ (List.mem_append_right _ (List.mem_append_right _ (List.mem_append_left _ (List.mem_of_getElem? (i := 175) rfl))))))), rfl⟩
theorem ab_c_160 : Cond.code (ab_nm 160) (ab_code 160) (ab_mx 160) (ab_rt 160) ∈ ab_ws := List.mem_filter.mpr ⟨List.mem_append_right _ (List.mem_append_right _ (List.mem_append_right _ (List.mem_append_right _ (List.mem_append_right _ (List.mem_append_right _ (List.mem_append_right _ (List.mem_append_right _ (List.mem_append_right _ (List.mem_of_getElem? (i := 91) rfl))))))))), rfl⟩
theorem ab_c_161 : Cond.code (ab_nm 161) (ab_code 161) (ab_mx 161) (ab_rt 161) ∈ ab_ws := List.mem_filter.mpr ⟨List.mem_append_right _ (List.mem_append_right _ (List.mem_append_right _ (List.mem_append_right _ (List.mem_append_right _ (List.mem_append_right _ (List.mem_append_right _ (List.mem_append_left _ (List.mem_of_getElem? (i := 223) rfl)))))))), rfl⟩
theorem ab_c_162 : Cond.code (ab_nm 162) (ab_code 162) (ab_mx 162) (ab_rt 162) ∈ ab_ws := List.mem_filter.mpr ⟨List.mem_append_right _ (List.mem_append_right _ (List.mem_append_right _ (List.mem_append_right _ (List.mem_append_right _ (List.mem_append_right _ (List.mem_append_right _ (List.mem_append_right _ (List.mem_append_right _ (List.mem_of_getElem? (i := 99) rfl))))))))), rfl⟩
theorem ab_c_163 : Cond.code (ab_nm 163) (ab_code 163) (ab_mx 163) (ab_rt 163) ∈ ab_ws := List.mem_filter.mpr ⟨List.mem_append_right _ (List.mem_append_right _ (List.mem_append_right _ (List.mem_append_right _ (List.mem_append_right _ (List.mem_append_right _ (List.mem_append_right _ (List.mem_append_left _ (List.mem_of_getElem? (i := 124) rfl)))))))), rfl⟩
theorem ab_c_164 : Cond.code (ab_nm 164) (ab_code 164) (ab_mx 164) (ab_rt 164) ∈ ab_ws := List.mem_filter.mpr ⟨List.mem_append_right _ (List.mem_append_right _ (List.mem_append_right _ (List.mem_append_right _ (List.mem_append_right _ (List.mem_append_right _ (List.mem_append_right _ (List.mem_append_left _ (List.mem_of_getElem? (i := 202) rfl)))))))), rfl⟩
theorem ab_c_165 : Cond.code (ab_nm 165) (ab_code 165) (ab_mx 165) (ab_rt 165) ∈ ab_ws := List.mem_filter.mpr ⟨List.mem_append_right _ (List.mem_append_right _ (List.mem_append_right _ (List.mem_append_right _ (List.mem_append_right _ (List.mem_append_right _ (List.mem_append_right _ (List.mem_append_right _ (List.mem_append_left _ (List.mem_of_getElem? (i := 112) rfl))))))))), rfl⟩
theorem ab_c_166 : Cond.code (ab_nm 166) (ab_code 166) (ab_mx 166) (ab_rt 166) ∈ ab_ws := List.mem_filter.mpr ⟨List.mem_append_right _ (List.mem_append_right _ (List.mem_append_right _ (List.mem_append_right _ (List.mem_append_right _ (List.mem_append_right _ (List.mem_append_right _ (List.mem_append_right _ (List.mem_append_left _ (List.mem_of_getElem? (i := 109) rfl))))))))), rfl⟩
theorem ab_c_167 : Cond.code (ab_nm 167) (ab_code 167) (ab_mx 167) (ab_rt 167) ∈ ab_ws := List.mem_filter.mpr ⟨List.mem_append_right _ (List.mem_append_right _ (List.mem_append_right _ (List.mem_append_right _ (List.mem_append_right _ (List.mem_append_right _ (List.mem_append_right _ (List.mem_append_left _ (List.mem_of_getElem? (i := 71) rfl)))))))), rfl⟩
theorem ab_c_168 : Cond.code (ab_nm 168) (ab_code 168) (ab_mx 168) (ab_rt 168) ∈ ab_ws := List.mem_filter.mpr ⟨List.mem_append_right _ (List.mem_append_right _ (List.mem_append_right _ (List.mem_append_right _ (List.mem_append_right _ (List.mem_append_right _ (List.mem_append_right _ (List.mem_append_left _ (List.mem_of_getElem? (i := 74) rfl)))))))), rfl⟩
theorem ab_c_169 : Cond.code (ab_nm 169) (ab_code 169) (ab_mx 169) (ab_rt 169) ∈ ab_ws := List.mem_filter.mpr ⟨List.mem_append_right _ (List.mem_append_right _ (List.mem_append_right _ (List.mem_append_right _ (List.mem_append_right _ (List.mem_append_right _ (List.mem_append_right _ (List.mem_append_left _ (List.mem_of_getElem? (i := 78) rfl)))))))), rfl⟩
theorem ab_c_170 : Cond.code (ab_nm 170) (ab_code 170) (ab_mx 170) (ab_rt 170) ∈ ab_ws := List.mem_filter.mpr ⟨List.mem_append_right _ (List.mem_append_right _ (List.mem_append_right _ (List.mem_append_right _ (List.mem_append_right _ (List.mem_append_right _ (List.mem_append_right _ (List.mem_append_left _ (List.mem_of_getElem? (i := 94) rfl)))))))), rfl⟩
theorem ab_c_171 : Cond.code (ab_nm 171) (ab_code 171) (ab_mx 171) (ab_rt 171) ∈ ab_ws := List.mem_filter.mpr ⟨List.mem_append_right _ (List.mem_append_right _ (List.mem_append_right _ (List.mem_append_right _ (List.mem_append_right _ (List.mem_append_right _ (List.mem_append_right _ (List.mem_append_left _ (List.mem_of_getElem? (i := 67) rfl)))))))), rfl⟩
theorem ab_c_172 : Cond.code (ab_nm 172) (ab_code 172) (ab_mx 172) (ab_rt 172) ∈ ab_ws := List.mem_filter.mpr ⟨List.mem_append_right _ (List.mem_append_right _ (List.mem_append_right _ (List.mem_append_right _ (List.mem_append_right _ (List.mem_append_right _ (List.mem_append_right _ (List.mem_append_left _ (List.mem_of_getElem? (i := 104) rfl)))))))), rfl⟩
theorem ab_c_173 : Cond.code (ab_nm 173) (ab_code 173) (ab_mx 173) (ab_rt 173) ∈ ab_ws := List.mem_filter.mpr ⟨List.mem_append_right _ (List.mem_append_right _ (List.mem_append_right _ (List.mem_append_right _ (List.mem_append_right _ (List.mem_append_right _ (List.mem_append_right _ (List.mem_append_left _ (List.mem_of_getElem? (i := 91) rfl)))))))), rfl⟩
theorem ab_c_174 : Cond.code (ab_nm 174) (ab_code 174) (ab_mx 174) (ab_rt 174) ∈ ab_ws := List.mem_filter.mpr ⟨List.mem_append_right _ (List.mem_append_right _ (List.mem_append_right _ (List.mem_append_right _ (List.mem_append_right _ (List.mem_append_right _ (List.mem_append_right _ (List.mem_append_left _ (List.mem_of_getElem? (i := 172) rfl)))))))), rfl⟩
theorem ab_c_175 : Cond.code (ab_nm 175) (ab_code 175) (ab_mx 175) (ab_rt 175) ∈ ab_ws := List.mem_filter.mpr ⟨List.mem_append_right _ (List.mem_append_right _ (List.mem_append_right _ (List.mem_append_right _ (List.mem_append_right _ (List.mem_append_right _ (List.mem_append_right _ (List.mem_append_left _ (List.mem_of_getElem? (i := 168) rfl)))))))), rfl⟩
theorem ab_c_176 : Cond.code (ab_nm 176) (ab_code 176) (ab_mx 176) (ab_rt 176) ∈ ab_ws := List.mem_filter.mpr ⟨List.mem_append_right _ (List.mem_append_right _ (List.mem_append_right _ (List.mem_append_right _ (List.mem_append_right _ (List.mem_append_right _ (List.mem_append_right _ (List.mem_append_left _ (List.mem_of_getElem? (i := 113) rfl)))))))), rfl⟩
theorem ab_c_177 : Cond.code (ab_nm 177) (ab_code 177) (ab_mx 177) (ab_rt 177) ∈ ab_ws := List.mem_filter.mpr ⟨List.mem_append_right _ (List.mem_append_right _ (List.mem_append_right _ (List.mem_append_right _ (List.mem_append_right _ (List.mem_append_right _ (List.mem_append_right _ (List.mem_append_left _ (List.mem_of_getElem? (i := 121) rfl)))))))), rfl⟩
theorem ab_c_178 : Cond.code (ab_nm 178) (ab_code 178) (ab_mx 178) (ab_rt 178) ∈ ab_ws := List.mem_filter.mpr ⟨List.mem_append_right _ (List.mem_append_right _ (List.mem_append_right _ (List.mem_append_right _ (List.mem_append_right _ (List.mem_append_right _ (List.mem_append_right _ (List.mem_append_left _ (List.mem_of_getElem? (i := 117) rfl)))))))), rfl⟩
theorem ab_c_179 : Cond.code (ab_nm 179) (ab_code 179) (ab_mx 179) (ab_rt 179) ∈ ab_ws := List.mem_filter.mpr ⟨List.mem_append_right _ (List.mem_append_right _ (List.mem_append_right _ (List.mem_append_right _ (List.mem_append_right _ (List.mem_append_right _ (List.mem_append_right _ (List.mem_append_left _ (List.mem_of_getElem? (i := 109) rfl)))))))), rfl⟩
theorem ab_c_180 : Cond.code (ab_nm 180) (ab_code 180) (ab_mx 180) (ab_rt 180) ∈ ab_ws := List.mem_filter.mpr ⟨List.mem_append_right _ (List.mem_append_right _ (List.mem_append_right _ (List.mem_append_right _ (List.mem_append_right _ (List.mem_append_right _ (List.mem_append_right _ (List.mem_append_left _ (List.mem_of_getElem? (i := 145) rfl)))))))), rfl⟩
theorem ab_c_181 : Cond.code (ab_nm 181) (ab_code 181) (ab_mx 181) (ab_rt 181) ∈ ab_ws := List.mem_filter.mpr ⟨List.mem_append_right _ (List.mem_append_right _ (List.mem_append_right _ (List.mem_append_right _ (List.mem_append_right _ (List.mem_append_right _ (List.mem_append_right _ (List.mem_append_left _ (List.mem_of_getElem? (i := 137) rfl)))))))), rfl⟩
theorem ab_c_182 : Cond.code (ab_nm 182) (ab_code 182) (ab_mx 182) (ab_rt 182) ∈ ab_ws := List.mem_filter.mpr ⟨List.mem_append_right _ (List.mem_append_right _ (List.mem_append_right _ (List.mem_append_right _ (List.mem_append_right _ (List.mem_append_right _ (List.mem_append_right _ (List.mem_append_left _ (List.mem_of_getElem? (i := 141) rfl)))))))), rfl⟩
theorem ab_c_183 : Cond.code (ab_nm 183) (ab_code 183) (ab_mx 183) (ab_rt 183) ∈ ab_ws := List.mem_filter.mpr ⟨List.mem_append_right _ (List.mem_append_right _ (List.mem_append_right _ (List.mem_append_right _ (List.mem_append_right _ (List.mem_append_right _ (List.mem_append_right _ (List.mem_append_left _ (List.mem_of_getElem? (i := 176) rfl)))))))), rfl⟩
theorem ab_c_184 : Cond.code (ab_nm 184) (ab_code 184) (ab_mx 184) (ab_rt 184) ∈ ab_ws := List.mem_filter.mpr ⟨List.mem_append_right _ (List.mem_append_right _ (List.mem_append_right _ (List.mem_append_right _ (List.mem_append_right _ (List.mem_append_right _ (List.mem_append_right _ (List.mem_append_left _ (List.mem_of_getElem? (i := 199) rfl)))))))), rfl⟩
theorem ab_c_185 : Cond.code (ab_nm 185) (ab_code 185) (ab_mx 185) (ab_rt 185) ∈ ab_ws := List.mem_filter.mpr ⟨List.mem_append_right _ (List.mem_append_right _ (List.mem_append_right _ (List.mem_append_right _ (List.mem_append_right _ (List.mem_append_right _ (List.mem_append_right _ (List.mem_append_left _ (List.mem_of_getElem? (i := 195) rfl)))))))), rfl⟩
theorem ab_c_186 : Cond.code (ab_nm 186) (ab_code 186) (ab_mx 186) (ab_rt 186) ∈ ab_ws := List.mem_filter.mpr ⟨List.mem_append_right _ (List.mem_append_right _ (List.mem_append_right _ (List.mem_append_right _ (List.mem_append_right _ (List.mem_append_right _ (List.mem_append_right _ (List.mem_append_left _ (List.mem_of_getElem? (i := 210) rfl)))))))), rfl⟩
theorem ab_c_187 : Cond.code (ab_nm 187) (ab_code 187) (ab_mx 187) (ab_rt 187) ∈ ab_ws := List.mem_filter.mpr ⟨List.mem_append_right _ (List.mem_append_right _ (List.mem_append_right _ (List.mem_append_right _ (List.mem_append_right _ (List.mem_append_right _ (List.mem_append_right _ (List.mem_append_left _ (List.mem_of_getElem? (i := 82) rfl)))))))), rfl⟩
theorem ab_c_188 : Cond.code (ab_nm 188) (ab_code 188) (ab_mx 188) (ab_rt 188) ∈ ab_ws := List.mem_filter.mpr ⟨List.mem_append_right _ (List.mem_append_right _ (List.mem_append_right _ (List.mem_append_right _ (List.mem_append_right _ (List.mem_append_right _ (List.mem_append_right _ (List.mem_append_left _ (List.mem_of_getElem? (i := 86) rfl)))))))), rfl⟩
theorem ab_c_189 : Cond.code (ab_nm 189) (ab_code 189) (ab_mx 189) (ab_rt 189) ∈ ab_ws := List.mem_filter.mpr ⟨List.mem_append_right _ (List.mem_append_right _ (List.mem_append_right _ (List.mem_append_right _ (List.mem_append_right _ (List.mem_append_right _ (List.mem_append_right _ (List.mem_append_left _ (List.mem_of_getElem? (i := 100) rfl)))))))), rfl⟩
theorem ab_c_190 : Cond.code (ab_nm 190) (ab_code 190) (ab_mx 190) (ab_rt 190) ∈ ab_ws := List.mem_filter.mpr ⟨List.mem_append_right _ (List.mem_append_right _ (List.mem_append_right _ (List.mem_append_right _ (List.mem_append_right _ (List.mem_append_right _ (List.mem_append_right _ (List.mem_append_left _ (List.mem_of_getElem? (i := 164) rfl)))))))), rfl⟩
theorem ab_c_191 : Cond.code (ab_nm 191) (ab_code 191) (ab_mx 191) (ab_rt 191) ∈ ab_ws := List.mem_filter.mpr ⟨List.mem_append_right _ (List.mem_append_right _ (List.mem_append_right _ (List.mem_append_right _ (List.mem_append_right _ (List.mem_append_right _ (List.mem_append_right _ (List.mem_append_left _ (List.mem_of_getElem? (i := 133) rfl)))))))), rfl⟩
theorem ab_c_192 : Cond.code (ab_nm 192) (ab_code 192) (ab_mx 192) (ab_rt 192) ∈ ab_ws := List.mem_filter.mpr ⟨List.mem_append_right _ (List.mem_append_right _ (List.mem_append_right _ (List.mem_append_right _ (List.mem_append_right _ (List.mem_append_right _ (List.mem_append_right _ (List.mem_append_left _ (List.mem_of_getElem? (i := 180) rfl)))))))), rfl⟩
theorem ab_c_193 : Cond.code (ab_nm 193) (ab_code 193) (ab_mx 193) (ab_rt 193) ∈ ab_ws := List.mem_filter.mpr ⟨List.mem_append_right _ (List.mem_append_right _ (List.mem_append_right _ (List.mem_append_right _ (List.mem_append_right _ (List.mem_append_right _ (List.mem_append_right _ (List.mem_append_left _ (List.mem_of_getElem? (i := 191) rfl)))))))), rfl⟩
theorem ab_c_194 : Cond.code (ab_nm 194) (ab_code 194) (ab_mx 194) (ab_rt 194) ∈ ab_ws := List.mem_filter.mpr ⟨List.mem_append_right _ (List.mem_append_right _ (List.mem_append_right _ (List.mem_append_right _ (List.mem_append_right _ (List.mem_append_right _ (List.mem_append_right _ (List.mem_append_left _ (List.mem_of_getElem? (i := 206) rfl)))))))), rfl⟩
theorem ab_c_195 : Cond.code (ab_nm 195) (ab_code 195) (ab_mx 195) (ab_rt 195) ∈ ab_ws := List.mem_filter.mpr ⟨List.mem_append_right _ (List.mem_append_right _ (List.mem_append_right _ (List.mem_append_right _ (List.mem_append_right _ (List.mem_append_right _ (List.mem_append_right _ (List.mem_append_left _ (List.mem_of_getElem? (i := 214) rfl)))))))), rfl⟩
theorem ab_c_196 : Cond.code (ab_nm 196) (ab_code 196) (ab_mx 196) (ab_rt 196) ∈ ab_ws := List.mem_filter.mpr ⟨List.mem_append_right _ (List.mem_append_right _ (List.mem_append_right _ (List.mem_append_right _ (List.mem_append_right _ (List.mem_append_right _ (List.mem_append_right _ (List.mem_append_left _ (List.mem_of_getElem? (i := 218) rfl)))))))), rfl⟩
theorem ab_c_197 : Cond.code (ab_nm 197) (ab_code 197) (ab_mx 197) (ab_rt 197) ∈ ab_ws := List.mem_filter.mpr ⟨List.mem_append_right _ (List.mem_append_right _ (List.mem_append_right _ (List.mem_append_right _ (List.mem_append_right _ (List.mem_append_right _ (List.mem_append_left _ (List.mem_of_getElem? (i := 167) rfl))))))), rfl⟩
theorem ab_c_198 : Cond.code (ab_nm 198) (ab_code 198) (ab_mx 198) (ab_rt 198) ∈ ab_ws := List.mem_filter.mpr ⟨List.mem_append_right _ (List.mem_append_right _ (List.mem_append_right _ (List.mem_append_right _ (List.mem_append_right _ (List.mem_append_right _ (List.mem_append_left _ (List.mem_of_getElem? (i := 171) rfl))))))), rfl⟩
theorem ab_c_199 : Cond.code (ab_nm 199) (ab_code 199) (ab_mx 199) (ab_rt 199) ∈ ab_ws := List.mem_filter.mpr ⟨List.mem_append_right _ (List.mem_append_right _ (List.mem_append_right _ (List.mem_append_right _ (List.mem_append_right _ (List.mem_append_right _ (List.mem_append_right _ (List.mem_append_left _ (List.mem_of_getElem? (i := 227) rfl)))))))), rfl⟩
theorem ab_c_200 : Cond.code (ab_nm 200) (ab_code 200) (ab_mx 200) (ab_rt 200) ∈ ab_ws := List.mem_filter.mpr ⟨List.mem_append_right _ (List.mem_append_right _ (List.mem_append_right _ (List.mem_append_right _ (List.mem_append_right _ (List.mem_append_right _ (List.mem_append_right _ (List.mem_append_left _ (List.mem_of_getElem? (i := 231) rfl)))))))), rfl⟩
theorem ab_c_201 : Cond.code (ab_nm 201) (ab_code 201) (ab_mx 201) (ab_rt 201) ∈ ab_ws := List.mem_filter.mpr ⟨List.mem_append_right _ (List.mem_append_right _ (List.mem_append_right _ (List.mem_append_right _ (List.mem_append_right _ (List.mem_append_right _ (List.mem_append_right _ (List.mem_append_right _ (List.mem_append_left _ (List.mem_of_getElem? (i := 43) rfl))))))))), rfl⟩
theorem ab_c_202 : Cond.code (ab_nm 202) (ab_code 202) (ab_mx 202) (ab_rt 202) ∈ ab_ws := List.mem_filter.mpr ⟨List.mem_append_right _ (List.mem_append_right _ (List.mem_append_right _ (List.mem_append_right _ (List.mem_append_right _ (List.mem_append_right _ (List.mem_append_right _ (List.mem_append_right _ (List.mem_append_left _ (List.mem_of_getElem? (i := 39) rfl))))))))), rfl⟩
theorem ab_c_203 : Cond.code (ab_nm 203) (ab_code 203) (ab_mx 203) (ab_rt 203) ∈ ab_ws := List.mem_filter.mpr ⟨List.mem_append_right _ (List.mem_append_right _ (List.mem_append_right _ (List.mem_append_right _ (List.mem_append_right _ (List.mem_append_right _ (List.mem_append_right _ (List.mem_append_right _ (List.mem_append_left _ (List.mem_of_getElem? (i := 159) rfl))))))))), rfl⟩
theorem ab_c_204 : Cond.code (ab_nm 204) (ab_code 204) (ab_mx 204) (ab_rt 204) ∈ ab_ws := List.mem_filter.mpr ⟨List.mem_append_right _ (List.mem_append_right _ (List.mem_append_right _ (List.mem_append_right _ (List.mem_append_right _ (List.mem_append_right _ (List.mem_append_right _ (List.mem_append_right _ (List.mem_append_left _ (List.mem_of_getElem? (i := 47) rfl))))))))), rfl⟩
theorem ab_c_205 : Cond.code (ab_nm 205) (ab_code 205) (ab_mx 205) (ab_rt 205) ∈ ab_ws := List.mem_filter.mpr ⟨List.mem_append_right _ (List.mem_append_right _ (List.mem_append_right _ (List.mem_append_right _ (List.mem_append_right _ (List.mem_append_right _ (List.mem_append_right _ (List.mem_append_right _ (List.mem_append_left _ (List.mem_of_getElem? (i := 63) rfl))))))))), rfl⟩
theorem ab_c_206 : Cond.code (ab_nm 206) (ab_code 206) (ab_mx 206) (ab_rt 206) ∈ ab_ws := List.mem_filter.mpr ⟨List.mem_append_right _ (List.mem_append_right _ (List.mem_append_right _ (List.mem_append_right _ (List.mem_append_right _ (List.mem_append_right _ (List.mem_append_right _ (List.mem_append_right _ (List.mem_append_left _ (List.mem_of_getElem? (i := 75) rfl))))))))), rfl⟩
theorem ab_c_207 : Cond.code (ab_nm 207) (ab_code 207) (ab_mx 207) (ab_rt 207) ∈ ab_ws := List.mem_filter.mpr ⟨List.mem_append_right _ (List.mem_append_right _ (List.mem_append_right _ (List.mem_append_right _ (List.mem_append_right _ (List.mem_append_right _ (List.mem_append_right _ (List.mem_append_right _ (List.mem_append_left _ (List.mem_of_getElem? (i := 79) rfl))))))))), rfl⟩
theorem ab_c_208 : Cond.code (ab_nm 208) (ab_code 208) (ab_mx 208) (ab_rt 208) ∈ ab_ws := List.mem_filter.mpr ⟨List.mem_append_right _ (List.mem_append_right _ (List.mem_append_right _ (List.mem_append_right _ (List.mem_append_right _ (List.mem_append_right _ (List.mem_append_right _ (List.mem_append_right _ (List.mem_append_left _ (List.mem_of_getElem? (i := 71) rfl))))))))), rfl⟩
theorem ab_c_209 : Cond.code (ab_nm 209) (ab_code 209) (ab_mx 209) (ab_rt 209) ∈ ab_ws := List.mem_filter.mpr ⟨List.mem_append_right _ (List.mem_append_right _ (List.mem_append_right _ (List.mem_append_right _ (List.mem_append_right _ (List.mem_append_right _ (List.mem_append_right _ (List.mem_append_right _ (List.mem_append_left _ (List.mem_of_getElem? (i := 100) rfl))))))))), rfl⟩
theorem ab_c_210 : Cond.code (ab_nm 210) (ab_code 210) (ab_mx 210) (ab_rt 210) ∈ ab_ws := List.mem_filter.mpr ⟨List.mem_append_right _ (List.mem_append_right _ (List.mem_append_right _ (List.mem_append_right _ (List.mem_append_right _ (List.mem_append_right _ (List.mem_append_right _ (List.mem_append_right _ (List.mem_append_left _ (List.mem_of_getElem? (i := 105) rfl))))))))), rfl⟩
theorem ab_c_211 : Cond.code (ab_nm 211) (ab_code 211) (ab_mx 211) (ab_rt 211) ∈ ab_ws := List.mem_filter.mpr ⟨List.mem_append_right _ (List.mem_append_right _ (List.mem_append_right _ (List.mem_append_right _ (List.mem_append_right _ (List.mem_append_right _ (List.mem_append_right _ (List.mem_append_right _ (List.mem_append_left _ (List.mem_of_getElem? (i := 96) rfl))))))))), rfl⟩
theorem ab_c_212 : Cond.code (ab_nm 212) (ab_code 212) (ab_mx 212) (ab_rt 212) ∈ ab_ws := List.mem_filter.mpr ⟨List.mem_append_right _ (List.mem_append_right _ (List.mem_append_right _ (List.mem_append_right _ (List.mem_append_right _ (List.mem_append_right _ (List.mem_append_right _ (List.mem_append_left _ (List.mem_of_getElem? (i := 239) rfl)))))))), rfl⟩
theorem ab_c_213 : Cond.code (ab_nm 213) (ab_code 213) (ab_mx 213) (ab_rt 213) ∈ ab_ws := List.mem_filter.mpr ⟨List.mem_append_right _ (List.mem_append_right _ (List.mem_append_right _ (List.mem_append_right _ (List.mem_append_right _ (List.mem_append_right _ (List.mem_append_right _ (List.mem_append_right _ (List.mem_append_left _ (List.mem_of_getElem? (i := 23) rfl))))))))), rfl⟩
theorem ab_c_214 : Cond.code (ab_nm 214) (ab_code 214) (ab_mx 214) (ab_rt 214) ∈ ab_ws := List.mem_filter.mpr ⟨List.mem_append_right _ (List.mem_append_right _ (List.mem_append_right _ (List.mem_append_right _ (List.mem_append_right _ (List.mem_append_right _ (List.mem_append_right _ (List.mem_append_right _ (List.mem_append_left _ (List.mem_of_getElem? (i := 55) rfl))))))))), rfl⟩
theorem ab_c_215 : Cond.code (ab_nm 215) (ab_code 215) (ab_mx 215) (ab_rt 215) ∈ ab_ws := List.mem_filter.mpr ⟨List.mem_append_right _ (List.mem_append_right _ (List.mem_append_right _ (List.mem_append_right _ (List.mem_append_right _ (List.mem_append_right _ (List.mem_append_right _ (List.mem_append_right _ (List.mem_append_left _ (List.mem_of_getElem? (i := 11) rfl))))))))), rfl⟩
theorem ab_c_216 : Cond.code (ab_nm 216) (ab_code 216) (ab_mx 216) (ab_rt 216) ∈ ab_ws := List.mem_filter.mpr ⟨List.mem_append_right _ (List.mem_append_right _ (List.mem_append_right _ (List.mem_append_right _ (List.mem_append_right _ (List.mem_append_right _ (List.mem_append_right _ (List.mem_append_right _ (List.mem_append_left _ (List.mem_of_getElem? (i := 59) rfl))))))))), rfl⟩
theorem ab_c_217 : Cond.code (ab_nm 217) (ab_code 217) (ab_mx 217) (ab_rt 217) ∈ ab_ws := List.mem_filter.mpr ⟨List.mem_append_right _ (List.mem_append_right _ (List.mem_append_right _ (List.mem_append_right _ (List.mem_append_right _ (List.mem_append_right _ (List.mem_append_right _ (List.mem_append_left _ (List.mem_of_getElem? (i := 235) rfl)))))))), rfl⟩
theorem ab_c_218 : Cond.code (ab_nm 218) (ab_code 218) (ab_mx 218) (ab_rt 218) ∈ ab_ws := List.mem_filter.mpr ⟨List.mem_append_right _ (List.mem_append_right _ (List.mem_append_right _ (List.mem_append_right _ (List.mem_append_right _ (List.mem_append_right _ (List.mem_append_right _ (List.mem_append_right _ (List.mem_append_left _ (List.mem_of_getElem? (i := 7) rfl))))))))), rfl⟩
theorem ab_c_219 : Cond.code (ab_nm 219) (ab_code 219) (ab_mx 219) (ab_rt 219) ∈ ab_ws := List.mem_filter.mpr ⟨List.mem_append_right _ (List.mem_append_right _ (List.mem_append_right _ (List.mem_append_right _ (List.mem_append_right _ (List.mem_append_right _ (List.mem_append_right _ (List.mem_append_right _ (List.mem_append_left _ (List.mem_of_getElem? (i := 31) rfl))))))))), rfl⟩
theorem ab_c_220 : Cond.code (ab_nm 220) (ab_code 220) (ab_mx 220) (ab_rt 220) ∈ ab_ws := List.mem_filter.mpr ⟨List.mem_append_right _ (List.mem_append_right _ (List.mem_append_right _ (List.mem_append_right _ (List.mem_append_right _ (List.mem_append_right _ (List.mem_append_right _ (List.mem_append_right _ (List.mem_append_left _ (List.mem_of_getElem? (i := 27) rfl))))))))), rfl⟩
theorem ab_c_221 : Cond.code (ab_nm 221) (ab_code 221) (ab_mx 221) (ab_rt 221) ∈ ab_ws := List.mem_filter.mpr ⟨List.mem_append_right _ (List.mem_append_right _ (List.mem_append_right _ (List.mem_append_right _ (List.mem_append_right _ (List.mem_append_right _ (List.mem_append_right _ (List.mem_append_right _ (List.mem_append_left _ (List.mem_of_getElem? (i := 19) rfl))))))))), rfl⟩
theorem ab_c_222 : Cond.code (ab_nm 222) (ab_code 222) (ab_mx 222) (ab_rt 222) ∈ ab_ws := List.mem_filter.mpr ⟨List.mem_append_right _ (List.mem_append_right _ (List.mem_append_right _ (List.mem_append_right _ (List.mem_append_right _ (List.mem_append_right _ (List.mem_append_right _ (List.mem_append_right _ (List.mem_append_left _ (List.mem_of_getElem? (i := 35) rfl))))))))), rfl⟩
theorem ab_c_223 : Cond.code (ab_nm 223) (ab_code 223) (ab_mx 223) (ab_rt 223) ∈ ab_ws := List.mem_filter.mpr ⟨List.mem_append_right _ (List.mem_append_right _ (List.mem_append_right _ (List.mem_append_right _ (List.mem_append_right _ (List.mem_append_right _ (List.mem_append_right _ (List.mem_append_right _ (List.mem_append_left _ (List.mem_of_getElem? (i := 51) rfl))))))))), rfl⟩
theorem ab_c_224 : Cond.code (ab_nm 224) (ab_code 224) (ab_mx 224) (ab_rt 224) ∈ ab_ws := List.mem_filter.mpr ⟨List.mem_append_right _ (List.mem_append_right _ (List.mem_append_right _ (List.mem_append_right _ (List.mem_append_right _ (List.mem_append_right _ (List.mem_append_right _ (List.mem_append_right _ (List.mem_append_left _ (List.mem_of_getElem? (i := 67) rfl))))))))), rfl⟩
theorem ab_c_225 : Cond.code (ab_nm 225) (ab_code 225) (ab_mx 225) (ab_rt 225) ∈ ab_ws := List.mem_filter.mpr ⟨List.mem_append_right _ (List.mem_append_right _ (List.mem_append_right _ (List.mem_append_right _ (List.mem_append_right _ (List.mem_append_right _ (List.mem_append_right _ (List.mem_append_right _ (List.mem_append_left _ (List.mem_of_getElem? (i := 84) rfl))))))))), rfl⟩
theorem ab_c_226 : Cond.code (ab_nm 226) (ab_code 226) (ab_mx 226) (ab_rt 226) ∈ ab_ws := List.mem_filter.mpr ⟨List.mem_append_right _ (List.mem_append_right _ (List.mem_append_right _ (List.mem_append_right _ (List.mem_append_right _ (List.mem_append_right _ (List.mem_append_right _ (List.mem_append_right _ (List.mem_append_left _ (List.mem_of_getElem? (i := 88) rfl))))))))), rfl⟩
theorem ab_c_227 : Cond.code (ab_nm 227) (ab_code 227) (ab_mx 227) (ab_rt 227) ∈ ab_ws := List.mem_filter.mpr ⟨List.mem_append_right _ (List.mem_append_right _ (List.mem_append_right _ (List.mem_append_right _ (List.mem_append_right _ (List.mem_append_right _ (List.mem_append_right _ (List.mem_append_right _ (List.mem_append_left _ (List.mem_of_getElem? (i := 92) rfl))))))))), rfl⟩
theorem ab_c_228 : Cond.code (ab_nm 228) (ab_code 228) (ab_mx 228) (ab_rt 228) ∈ ab_ws := List.mem_filter.mpr ⟨List.mem_append_right _ (List.mem_append_right _ (List.mem_append_right _ (List.mem_append_right _ (List.mem_append_right _ (List.mem_append_right _ (List.mem_append_right _ (List.mem_append_right _ (List.mem_append_left _ (List.mem_of_getElem? (i := 120) rfl))))))))), rfl⟩
theorem ab_c_229 : Cond.code (ab_nm 229) (ab_code 229) (ab_mx 229) (ab_rt 229) ∈ ab_ws := List.mem_filter.mpr ⟨List.mem_append_right _ (List.mem_append_right _ (List.mem_append_right _ (List.mem_append_right _ (List.mem_append_right _ (List.mem_append_right _ (List.mem_append_right _ (List.mem_append_right _ (List.mem_append_left _ (List.mem_of_getElem? (i := 135) rfl))))))))), rfl⟩
theorem ab_c_230 : Cond.code (ab_nm 230) (ab_code 230) (ab_mx 230) (ab_rt 230) ∈ ab_ws := List.mem_filter.mpr ⟨List.mem_append_right _ (List.mem_append_right _ (List.mem_append_right _ (List.mem_append_right _ (List.mem_append_right _ (List.mem_append_right _ (List.mem_append_right _ (List.mem_append_right _ (List.mem_append_left _ (List.mem_of_getElem? (i := 139) rfl))))))))), rfl⟩
theorem ab_c_231 : Cond.code (ab_nm 231) (ab_code 231) (ab_mx 231) (ab_rt 231) ∈ ab_ws := List.mem_filter.mpr ⟨List.mem_append_right _ (List.mem_append_right _ (List.mem_append_right _ (List.mem_append_right _ (List.mem_append_right _ (List.mem_append_right _ (List.mem_append_right _ (List.mem_append_right _ (List.mem_append_left _ (List.mem_of_getElem? (i := 123) rfl))))))))), rfl⟩
theorem ab_c_232 : Cond.code (ab_nm 232) (ab_code 232) (ab_mx 232) (ab_rt 232) ∈ ab_ws := List.mem_filter.mpr ⟨List.mem_append_right _ (List.mem_append_right _ (List.mem_append_right _ (List.mem_append_right _ (List.mem_append_right _ (List.mem_append_right _ (List.mem_append_right _ (List.mem_append_right _ (List.mem_append_left _ (List.mem_of_getElem? (i := 116) rfl))))))))), rfl⟩
theorem ab_c_233 : Cond.code (ab_nm 233) (ab_code 233) (ab_mx 233) (ab_rt 233) ∈ ab_ws := List.mem_filter.mpr ⟨List.mem_append_right _ (List.mem_append_right _ (List.mem_append_right _ (List.mem_append_right _ (List.mem_append_right _ (List.mem_append_right _ (List.mem_append_right _ (List.mem_append_right _ (List.mem_append_left _ (List.mem_of_getElem? (i := 131) rfl))))))))), rfl⟩
theorem ab_c_234 : Cond.code (ab_nm 234) (ab_code 234) (ab_mx 234) (ab_rt 234) ∈ ab_ws := List.mem_filter.mpr ⟨List.mem_append_right _ (List.mem_append_right _ (List.mem_append_right _ (List.mem_append_right _ (List.mem_append_right _ (List.mem_append_right _ (List.mem_append_right _ (List.mem_append_right _ (List.mem_append_left _ (List.mem_of_getElem? (i := 127) rfl))))))))), rfl⟩
theorem ab_c_235 : Cond.code (ab_nm 235) (ab_code 235) (ab_mx 235) (ab_rt 235) ∈ ab_ws := List.mem_filter.mpr ⟨List.mem_append_right _ (List.mem_append_right _ (List.mem_append_right _ (List.mem_append_right _ (List.mem_append_right _ (List.mem_append_right _ (List.mem_append_right _ (List.mem_append_right _ (List.mem_append_left _ (List.mem_of_getElem? (i := 143) rfl))))))))), rfl⟩
theorem ab_c_236 : Cond.code (ab_nm 236) (ab_code 236) (ab_mx 236) (ab_rt 236) ∈ ab_ws := List.mem_filter.mpr ⟨List.mem_append_right _ (List.mem_append_right _ (List.mem_append_right _ (List.mem_append_right _ (List.mem_append_right _ (List.mem_append_right _ (List.mem_append_right _ (List.mem_append_right _ (List.mem_append_left _ (List.mem_of_getElem? (i := 147) rfl))))))))), rfl⟩
theorem ab_c_237 : Cond.code (ab_nm 237) (ab_code 237) (ab_mx 237) (ab_rt 237) ∈ ab_ws := List.mem_filter.mpr ⟨List.mem_append_right _ (List.mem_append_right _ (List.mem_append_right _ (List.mem_append_right _ (List.mem_append_right _ (List.mem_append_right _ (List.mem_append_right _ (List.mem_append_right _ (List.mem_append_left _ (List.mem_of_getElem? (i := 155) rfl))))))))), rfl⟩
theorem ab_c_238 : Cond.code (ab_nm 238) (ab_code 238) (ab_mx 238) (ab_rt 238) ∈ ab_ws := List.mem_filter.mpr ⟨List.mem_append_right _ (List.mem_append_right _ (List.mem_append_right _ (List.mem_append_right _ (List.mem_append_right _ (List.mem_append_right _ (List.mem_append_right _ (List.mem_append_right _ (List.mem_append_left _ (List.mem_of_getElem? (i := 151) rfl))))))))), rfl⟩
theorem ab_c_239 : Cond.code (ab_nm 239) (ab_code 239) (ab_mx 239) (ab_rt 239) ∈ ab_ws := List.mem_filter.mpr ⟨List.mem_append_right _ (List.mem_append_right _ (List.mem_append_right _ (List.mem_append_right _ (List.mem_append_right _ (List.mem_append_right _ (List.mem_append_right _ (List.mem_append_right _ (List.mem_append_left _ (List.mem_of_getElem? (i := 168) rfl))))))))), rfl⟩
theorem ab_c_240 : Cond.code (ab_nm 240) (ab_code 240) (ab_mx 240) (ab_rt 240) ∈ ab_ws := List.mem_filter.mpr ⟨List.mem_append_right _ (List.mem_append_right _ (List.mem_append_right _ (List.mem_append_right _ (List.mem_append_right _ (List.mem_append_right _ (List.mem_append_right _ (List.mem_append_right _ (List.mem_append_left _ (List.mem_of_getElem? (i := 180) rfl))))))))), rfl⟩
theorem ab_c_241 : Cond.code (ab_nm 241) (ab_code 241) (ab_mx 241) (ab_rt 241) ∈ ab_ws := List.mem_filter.mpr ⟨List.mem_append_right _ (List.mem_append_right _ (List.mem_append_right _ (List.mem_append_right _ (List.mem_append_right _ (List.mem_append_right _ (List.mem_append_right _ (List.mem_append_right _ (List.mem_append_left _ (List.mem_of_getElem? (i := 188) rfl))))))))), rfl⟩
theorem ab_c_242 : Cond.code (ab_nm 242) (ab_code 242) (ab_mx 242) (ab_rt 242) ∈ ab_ws := List.mem_filter.mpr ⟨List.mem_append_right _ (List.mem_append_right _ (List.mem_append_right _ (List.mem_append_right _ (List.mem_append_right _ (List.mem_append_right _ (List.mem_append_right _ (List.mem_append_right _ (List.mem_append_left _ (List.mem_of_getElem? (i := 184) rfl))))))))), rfl⟩
theorem ab_c_243 : Cond.code (ab_nm 243) (ab_code 243) (ab_mx 243) (ab_rt 243) ∈ ab_ws := List.mem_filter.mpr ⟨List.mem_append_right _ (List.mem_append_right _ (List.mem_append_right _ (List.mem_append_right _ (List.mem_append_right _ (List.mem_append_right _ (List.mem_append_right _ (List.mem_append_right _ (List.mem_append_left _ (List.mem_of_getElem? (i := 176) rfl))))))))), rfl⟩
theorem ab_c_244 : Cond.code (ab_nm 244) (ab_code 244) (ab_mx 244) (ab_rt 244) ∈ ab_ws := List.mem_filter.mpr ⟨List.mem_append_right _ (List.mem_append_right _ (List.mem_append_right _ (List.mem_append_right _ (List.mem_append_right _ (List.mem_append_right _ (List.mem_append_right _ (List.mem_append_right _ (List.mem_append_left _ (List.mem_of_getElem? (i := 172) rfl))))))))), rfl⟩
theorem ab_c_245 : Cond.code (ab_nm 245) (ab_code 245) (ab_mx 245) (ab_rt 245) ∈ ab_ws := List.mem_filter.mpr ⟨List.mem_append_right _ (List.mem_append_right _ (List.mem_append_right _ (List.mem_append_right _ (List.mem_append_right _ (List.mem_append_right _ (List.mem_append_right _ (List.mem_append_right _ (List.mem_append_left _ (List.mem_of_getElem? (i := 198) rfl))))))))), rfl⟩
theorem ab_c_246 : Cond.code (ab_nm 246) (ab_code 246) (ab_mx 246) (ab_rt 246) ∈ ab_ws := List.mem_filter.mpr ⟨List.mem_append_right _ (List.mem_append_right _ (List.mem_append_right _ (List.mem_append_right _ (List.mem_append_right _ (List.mem_append_right _ (List.mem_append_right _ (List.mem_append_right _ (List.mem_append_left _ (List.mem_of_getElem? (i := 194) rfl))))))))), rfl⟩
theorem ab_c_247 : Cond.code (ab_nm 247) (ab_code 247) (ab_mx 247) (ab_rt 247) ∈ ab_ws := List.mem_filter.mpr ⟨List.mem_append_right _ (List.mem_append_right _ (List.mem_append_right _ (List.mem_append_right _ (List.mem_append_right _ (List.mem_append_right _ (List.mem_append_right _ (List.mem_append_right _ (List.mem_append_left _ (List.mem_of_getElem? (i := 222) rfl))))))))), rfl⟩
theorem ab_c_248 : Cond.code (ab_nm 248) (ab_code 248) (ab_mx 248) (ab_rt 248) ∈ ab_ws := List.mem_filter.mpr ⟨List.mem_append_right _ (List.mem_append_right _ (List.mem_append_right _ (List.mem_append_right _ (List.mem_append_right _ (List.mem_append_right _ (List.mem_append_right _ (List.mem_append_right _ (List.mem_append_left _ (List.mem_of_getElem? (i := 226) rfl))))))))), rfl⟩
theorem ab_c_249 : Cond.code (ab_nm 249) (ab_code 249) (ab_mx 249) (ab_rt 249) ∈ ab_ws := List.mem_filter.mpr ⟨List.mem_append_right _ (List.mem_append_right _ (List.mem_append_right _ (List.mem_append_right _ (List.mem_append_right _ (List.mem_append_right _ (List.mem_append_right _ (List.mem_append_right _ (List.mem_append_left _ (List.mem_of_getElem? (i := 230) rfl))))))))), rfl⟩
theorem ab_c_250 : Cond.code (ab_nm 250) (ab_code 250) (ab_mx 250) (ab_rt 250) ∈ ab_ws := List.mem_filter.mpr ⟨List.mem_append_right _ (List.mem_append_right _ (List.mem_append_right _ (List.mem_append_right _ (List.mem_append_right _ (List.mem_append_right _ (List.mem_append_right _ (List.mem_append_right _ (List.mem_append_left _ (List.mem_of_getElem? (i := 214) rfl))))))))), rfl⟩
theorem ab_c_251 : Cond.code (ab_nm 251) (ab_code 251) (ab_mx 251) (ab_rt 251) ∈ ab_ws := List.mem_filter.mpr ⟨List.mem_append_right _ (List.mem_append_right _ (List.mem_append_right _ (List.mem_append_right _ (List.mem_append_right _ (List.mem_append_right _ (List.mem_append_right _ (List.mem_append_right _ (List.mem_append_left _ (List.mem_of_getElem? (i := 234) rfl))))))))), rfl⟩
theorem ab_c_252 : Cond.code (ab_nm 252) (ab_code 252) (ab_mx 252) (ab_rt 252) ∈ ab_ws := List.mem_filter.mpr ⟨List.mem_append_right _ (List.mem_append_right _ (List.mem_append_right _ (List.mem_append_right _ (List.mem_append_right _ (List.mem_append_right _ (List.mem_append_right _ (List.mem_append_right _ (List.mem_append_left _ (List.mem_of_getElem? (i := 218) rfl))))))))), rfl⟩
theorem ab_c_253 : Cond.code (ab_nm 253) (ab_code 253) (ab_mx 253) (ab_rt 253) ∈ ab_ws := List.mem_filter.mpr ⟨List.mem_append_right _ (List.mem_append_right _ (List.mem_append_right _ (List.mem_append_right _ (List.mem_append_right _ (List.mem_append_right _ (List.mem_append_right _ (List.mem_append_right _ (List.mem_append_left _ (List.mem_of_getElem? (i := 210) rfl))))))))), rfl⟩
theorem ab_c_254 : Cond.code (ab_nm 254) (ab_code 254) (ab_mx 254) (ab_rt 254) ∈ ab_ws := List.mem_filter.mpr ⟨List.mem_append_right _ (List.mem_append_right _ (List.mem_append_right _ (List.mem_append_right _ (List.mem_append_right _ (List.mem_append_right _ (List.mem_append_right _ (List.mem_append_right _ (List.mem_append_left _ (List.mem_of_getElem? (i := 206) rfl))))))))), rfl⟩
theorem ab_c_255 : Cond.code (ab_nm 255) (ab_code 255) (ab_mx 255) (ab_rt 255) ∈ ab_ws := List.mem_filter.mpr ⟨List.mem_append_right _ (List.mem_append_right _ (List.mem_append_right _ (List.mem_append_right _ (List.mem_append_right _ (List.mem_append_right _ (List.mem_append_right _ (List.mem_append_right _ (List.mem_append_left _ (List.mem_of_getElem? (i := 202) rfl))))))))), rfl⟩
theorem ab_c_256 : Cond.code (ab_nm 256) (ab_code 256) (ab_mx 256) (ab_rt 256) ∈ ab_ws := List.mem_filter.mpr ⟨List.mem_append_right _ (List.mem_append_right _ (List.mem_append_right _ (List.mem_append_right _ (List.mem_append_right _ (List.mem_append_right _ (List.mem_append_right _ (List.mem_append_right _ (List.mem_append_left _ (List.mem_of_getElem? (i := 238) rfl))))))))), rfl⟩
theorem ab_c_257 : Cond.code (ab_nm 257) (ab_code 257) (ab_mx 257) (ab_rt 257) ∈ ab_ws := List.mem_filter.mpr ⟨List.mem_append_right _ (List.mem_append_right _ (List.mem_append_right _ (List.mem_append_right _ (List.mem_append_right _ (List.mem_append_right _ (List.mem_append_right _ (List.mem_append_right _ (List.mem_append_right _ (List.mem_of_getElem? (i := 5) rfl))))))))), rfl⟩
theorem ab_c_258 : Cond.code (ab_nm 258) (ab_code 258) (ab_mx 258) (ab_rt 258) ∈ ab_ws := List.mem_filter.mpr ⟨List.mem_append_right _ (List.mem_append_right _ (List.mem_append_right _ (List.mem_append_right _ (List.mem_append_right _ (List.mem_append_right _ (List.mem_append_right _ (List.mem_append_right _ (List.mem_append_right _ (List.mem_of_getElem? (i := 2) rfl))))))))), rfl⟩
theorem ab_c_259 : Cond.code (ab_nm 259) (ab_code 259) (ab_mx 259) (ab_rt 259) ∈ ab_ws := List.mem_filter.mpr ⟨List.mem_append_right _ (List.mem_append_right _ (List.mem_append_right _ (List.mem_append_right _ (List.mem_append_right _ (List.mem_append_right _ (List.mem_append_right _ (List.mem_append_right _ (List.mem_append_right _ (List.mem_of_getElem? (i := 9) rfl))))))))), rfl⟩
theorem ab_c_260 : Cond.code (ab_nm 260) (ab_code 260) (ab_mx 260) (ab_rt 260) ∈ ab_ws := List.mem_filter.mpr ⟨List.mem_append_right _ (List.mem_append_right _ (List.mem_append_right _ (List.mem_append_right _ (List.mem_append_right _ (List.mem_append_right _ (List.mem_append_right _ (List.mem_append_right _ (List.mem_append_right _ (List.mem_of_getElem? (i := 13) rfl))))))))), rfl⟩
theorem ab_c_261 : Cond.code (ab_nm 261) (ab_code 261) (ab_mx 261) (ab_rt 261) ∈ ab_ws := List.mem_filter.mpr ⟨List.mem_append_right _ (List.mem_append_right _ (List.mem_append_right _ (List.mem_append_right _ (List.mem_append_right _ (List.mem_append_right _ (List.mem_append_right _ (List.mem_append_right _ (List.mem_append_right _ (List.mem_of_getElem? (i := 18) rfl))))))))), rfl⟩
theorem ab_c_262 : Cond.code (ab_nm 262) (ab_code 262) (ab_mx 262) (ab_rt 262) ∈ ab_ws := List.mem_filter.mpr ⟨List.mem_append_right _ (List.mem_append_right _ (List.mem_append_right _ (List.mem_append_right _ (List.mem_append_right _ (List.mem_append_right _ (List.mem_append_right _ (List.mem_append_right _ (List.mem_append_right _ (List.mem_of_getElem? (i := 27) rfl))))))))), rfl⟩
theorem ab_c_263 : Cond.code (ab_nm 263) (ab_code 263) (ab_mx 263) (ab_rt 263) ∈ ab_ws := List.mem_filter.mpr ⟨List.mem_append_right _ (List.mem_append_right _ (List.mem_append_right _ (List.mem_append_right _ (List.mem_append_right _ (List.mem_append_right _ (List.mem_append_right _ (List.mem_append_right _ (List.mem_append_right _ (List.mem_of_getElem? (i := 23) rfl))))))))), rfl⟩
theorem ab_c_264 : Cond.code (ab_nm 264) (ab_code 264) (ab_mx 264) (ab_rt 264) ∈ ab_ws := List.mem_filter.mpr ⟨List.mem_append_right _ (List.mem_append_right _ (List.mem_append_right _ (List.mem_append_right _ (List.mem_append_right _ (List.mem_append_right _ (List.mem_append_right _ (List.mem_append_right _ (List.mem_append_right _ (List.mem_of_getElem? (i := 35) rfl))))))))), rfl⟩
theorem ab_c_265 : Cond.code (ab_nm 265) (ab_code 265) (ab_mx 265) (ab_rt 265) ∈ ab_ws := List.mem_filter.mpr ⟨List.mem_append_right _ (List.mem_append_right _ (List.mem_append_right _ (List.mem_append_right _ (List.mem_append_right _ (List.mem_append_right _ (List.mem_append_right _ (List.mem_append_right _ (List.mem_append_right _ (List.mem_of_getElem? (i := 31) rfl))))))))), rfl⟩
theorem ab_c_266 : Cond.code (ab_nm 266) (ab_code 266) (ab_mx 266) (ab_rt 266) ∈ ab_ws := List.mem_filter.mpr ⟨List.mem_append_right _ (List.mem_append_right _ (List.mem_append_right _ (List.mem_append_right _ (List.mem_append_right _ (List.mem_append_right _ (List.mem_append_right _ (List.mem_append_right _ (List.mem_append_right _ (List.mem_of_getElem? (i := 39) rfl))))))))), rfl⟩
theorem ab_c_267 : Cond.code (ab_nm 267) (ab_code 267) (ab_mx 267) (ab_rt 267) ∈ ab_ws := List.mem_filter.mpr ⟨List.mem_append_right _ (List.mem_append_right _ (List.mem_append_right _ (List.mem_append_right _ (List.mem_append_right _ (List.mem_append_right _ (List.mem_append_right _ (List.mem_append_right _ (List.mem_append_right _ (List.mem_of_getElem? (i := 51) rfl))))))))), rfl⟩
theorem ab_c_268 : Cond.code (ab_nm 268) (ab_code 268) (ab_mx 268) (ab_rt 268) ∈ ab_ws := List.mem_filter.mpr ⟨List.mem_append_right _ (List.mem_append_right _ (List.mem_append_right _ (List.mem_append_right _ (List.mem_append_right _ (List.mem_append_right _ (List.mem_append_right _ (List.mem_append_right _ (List.mem_append_right _ (List.mem_of_getElem? (i := 47) rfl))))))))), rfl⟩
theorem ab_c_269 : Cond.code (ab_nm 269) (ab_code 269) (ab_mx 269) (ab_rt 269) ∈ ab_ws := List.mem_filter.mpr ⟨List.mem_append_right _ (List.mem_append_right _ (List.mem_append_right _ (List.mem_append_right _ (List.mem_append_right _ (List.mem_append_right _ (List.mem_append_right _ (List.mem_append_right _ (List.mem_append_right _ (List.mem_of_getElem? (i := 43) rfl))))))))), rfl⟩
theorem ab_c_270 : Cond.code (ab_nm 270) (ab_code 270) (ab_mx 270) (ab_rt 270) ∈ ab_ws := List.mem_filter.mpr ⟨List.mem_append_right _ (List.mem_append_right _ (List.mem_append_right _ (List.mem_append_right _ (List.mem_append_right _ (List.mem_append_right _ (List.mem_append_right _ (List.mem_append_right _ (List.mem_append_right _ (List.mem_of_getElem? (i := 55) rfl))))))))), rfl⟩
theorem ab_c_271 : Cond.code (ab_nm 271) (ab_code 271) (ab_mx 271) (ab_rt 271) ∈ ab_ws := List.mem_filter.mpr ⟨List.mem_append_right _ (List.mem_append_right _ (List.mem_append_right _ (List.mem_append_right _ (List.mem_append_right _ (List.mem_append_right _ (List.mem_append_right _ (List.mem_append_right _ (List.mem_append_right _ (List.mem_of_getElem? (i := 72) rfl))))))))), rfl⟩
theorem ab_c_272 : Cond.code (ab_nm 272) (ab_code 272) (ab_mx 272) (ab_rt 272) ∈ ab_ws := List.mem_filter.mpr ⟨List.mem_append_right _ (List.mem_append_right _ (List.mem_append_right _ (List.mem_append_right _ (List.mem_append_right _ (List.mem_append_right _ (List.mem_append_right _ (List.mem_append_right _ (List.mem_append_right _ (List.mem_of_getElem? (i := 79) rfl))))))))), rfl⟩
theorem ab_c_273 : Cond.code (ab_nm 273) (ab_code 273) (ab_mx 273) (ab_rt 273) ∈ ab_ws := List.mem_filter.mpr ⟨List.mem_append_right _ (List.mem_append_right _ (List.mem_append_right _ (List.mem_append_right _ (List.mem_append_right _ (List.mem_append_right _ (List.mem_append_right _ (List.mem_append_right _ (List.mem_append_right _ (List.mem_of_getElem? (i := 68) rfl))))))))), rfl⟩
theorem ab_c_274 : Cond.code (ab_nm 274) (ab_code 274) (ab_mx 274) (ab_rt 274) ∈ ab_ws := List.mem_filter.mpr ⟨List.mem_append_right _ (List.mem_append_right _ (List.mem_append_right _ (List.mem_append_right _ (List.mem_append_right _ (List.mem_append_right _ (List.mem_append_right _ (List.mem_append_right _ (List.mem_append_right _ (List.mem_of_getElem? (i := 63) rfl))))))))), rfl⟩
theorem ab_c_275 : Cond.code (ab_nm 275) (ab_code 275) (ab_mx 275) (ab_rt 275) ∈ ab_ws := List.mem_filter.mpr ⟨List.mem_append_right _ (List.mem_append_right _ (List.mem_append_right _ (List.mem_append_right _ (List.mem_append_right _ (List.mem_append_right _ (List.mem_append_right _ (List.mem_append_right _ (List.mem_append_right _ (List.mem_of_getElem? (i := 59) rfl))))))))), rfl⟩
theorem ab_c_276 : Cond.code (ab_nm 276) (ab_code 276) (ab_mx 276) (ab_rt 276) ∈ ab_ws := List.mem_filter.mpr ⟨List.mem_append_right _ (List.mem_append_right _ (List.mem_append_right _ (List.mem_append_right _ (List.mem_append_right _ (List.mem_append_right _ (List.mem_append_right _ (List.mem_append_right _ (List.mem_append_right _ (List.mem_of_getElem? (i := 83) rfl))))))))), rfl⟩
theorem ab_c_277 : Cond.code (ab_nm 277) (ab_code 277) (ab_mx 277) (ab_rt 277) ∈ ab_ws := List.mem_filter.mpr ⟨List.mem_append_right _ (List.mem_append_right _ (List.mem_append_right _ (List.mem_append_right _ (List.mem_append_right _ (List.mem_append_right _ (List.mem_append_right _ (List.mem_append_right _ (List.mem_append_right _ (List.mem_of_getElem? (i := 95) rfl))))))))), rfl⟩
theorem ab_c_278 : Cond.code (ab_nm 278) (ab_code 278) (ab_mx 278) (ab_rt 278) ∈ ab_ws := List.mem_filter.mpr ⟨List.mem_append_right _ (List.mem_append_right _ (List.mem_append_right _ (List.mem_append_right _ (List.mem_append_right _ (List.mem_append_right _ (List.mem_append_right _ (List.mem_append_right _ (List.mem_append_right _ (List.mem_of_getElem? (i := 87) rfl))))))))), rfl⟩
theorem ab_c_279 : Cond.code (ab_nm 279) (ab_code 279) (ab_mx 279) (ab_rt 279) ∈ ab_ws := List.mem_filter.mpr ⟨List.mem_append_right _ (List.mem_append_right _ (List.mem_append_right _ (List.mem_append_right _ (List.mem_append_right _ (List.mem_append_right _ (List.mem_append_right _ (List.mem_append_right _ (List.mem_append_right _ (List.mem_of_getElem? (i := 103) rfl))))))))), rfl⟩
theorem ab_c_280 : Cond.code (ab_nm 280) (ab_code 280) (ab_mx 280) (ab_rt 280) ∈ ab_ws := List.mem_filter.mpr ⟨List.mem_append_right _ (List.mem_append_right _ (List.mem_append_right _ (List.mem_append_right _ (List.mem_append_right _ (List.mem_append_right _ (List.mem_append_right _ (List.mem_append_right _ (List.mem_append_right _ (List.mem_of_getElem? (i := 107) rfl))))))))), rfl⟩
theorem ab_c_281 : Cond.code (ab_nm 281) (ab_code 281) (ab_mx 281) (ab_rt 281) ∈ ab_ws := List.mem_filter.mpr ⟨List.mem_append_right _ (List.mem_append_right _ (List.mem_append_right _ (List.mem_append_right _ (List.mem_append_right _ (List.mem_append_right _ (List.mem_append_right _ (List.mem_append_right _ (List.mem_append_right _ (List.mem_of_getElem? (i := 111) rfl))))))))), rfl⟩
theorem ab_c_282 : Cond.code (ab_nm 282) (ab_code 282) (ab_mx 282) (ab_rt 282) ∈ ab_ws := List.mem_filter.mpr ⟨List.mem_append_right _ (List.mem_append_right _ (List.mem_append_right _ (List.mem_append_right _ (List.mem_append_right _ (List.mem_append_right _ (List.mem_append_right _ (List.mem_append_right _ (List.mem_append_right _ (List.mem_of_getElem? (i := 115) rfl))))))))), rfl⟩
theorem ab_c_283 : Cond.code (ab_nm 283) (ab_code 283) (ab_mx 283) (ab_rt 283) ∈ ab_ws := List.mem_filter.mpr ⟨List.mem_append_right _ (List.mem_append_right _ (List.mem_append_right _ (List.mem_append_right _ (List.mem_append_right _ (List.mem_append_right _ (List.mem_append_right _ (List.mem_append_right _ (List.mem_append_right _ (List.mem_of_getElem? (i := 119) rfl))))))))), rfl⟩
theorem ab_c_284 : Cond.code (ab_nm 284) (ab_code 284) (ab_mx 284) (ab_rt 284) ∈ ab_ws := List.mem_filter.mpr ⟨List.mem_append_right _ (List.mem_append_right _ (List.mem_append_right _ (List.mem_append_right _ (List.mem_append_right _ (List.mem_append_right _ (List.mem_append_right _ (List.mem_append_right _ (List.mem_append_right _ (List.mem_of_getElem? (i := 123) rfl))))))))), rfl⟩
theorem ab_c_285 : Cond.code (ab_nm 285) (ab_code 285) (ab_mx 285) (ab_rt 285) ∈ ab_ws := List.mem_filter.mpr ⟨List.mem_append_right _ (List.mem_append_right _ (List.mem_append_right _ (List.mem_append_right _ (List.mem_append_right _ (List.mem_append_right _ (List.mem_append_right _ (List.mem_append_right _ (List.mem_append_right _ (List.mem_of_getElem? (i := 127) rfl))))))))), rfl⟩
theorem ab_c_286 : Cond.code (ab_nm 286) (ab_code 286) (ab_mx 286) (ab_rt 286) ∈ ab_ws := List.mem_filter.mpr ⟨List.mem_append_right _ (List.mem_append_right _ (List.mem_append_right _ (List.mem_append_right _ (List.mem_append_right _ (List.mem_append_right _ (List.mem_append_right _ (List.mem_append_right _ (List.mem_append_right _ (List.mem_of_getElem? (i := 131) rfl))))))))), rfl⟩
theorem ab_c_287 : Cond.code (ab_nm 287) (ab_code 287) (ab_mx 287) (ab_rt 287) ∈ ab_ws := List.mem_filter.mpr ⟨List.mem_append_right _ (List.mem_append_right _ (List.mem_append_right _ (List.mem_append_right _ (List.mem_append_right _ (List.mem_append_right _ (List.mem_append_right _ (List.mem_append_right _ (List.mem_append_right _ (List.mem_of_getElem? (i := 135) rfl))))))))), rfl⟩
theorem ab_cc_0 : ∀ k, 0 ≤ k → k < 24 → Cond.code (ab_nm k) (ab_code k) (ab_mx k) (ab_rt k) ∈ ab_ws := by
  intro k h1 h2
  obtain rfl | rfl | rfl | rfl | rfl | rfl | rfl | rfl | rfl | rfl | rfl | rfl | rfl | rfl | rfl | rfl | rfl | rfl | rfl | rfl | rfl | rfl | rfl | rfl : k = 0 ∨ k = 1 ∨ k = 2 ∨ k = 3 ∨ k = 4 ∨ k = 5 ∨ k = 6 ∨ k = 7 ∨ k = 8 ∨ k = 9 ∨ k = 10 ∨ k = 11 ∨ k = 12 ∨ k = 13 ∨ k = 14 ∨ k = 15 ∨ k = 16 ∨ k = 17 ∨ k = 18 ∨ k = 19 ∨ k = 20 ∨ k = 21 ∨ k = 22 ∨ k = 23 := by omega
  · exact ab_c_0
  · exact ab_c_1
  · exact ab_c_2
  · exact ab_c_3
  · exact ab_c_4
  · exact ab_c_5
  · exact ab_c_6
  · exact ab_c_7
  · exact ab_c_8
  · exact ab_c_9
  · exact ab_c_10
  · exact ab_c_11
  · exact ab_c_12
  · exact ab_c_13
  · exact ab_c_14
  · exact ab_c_15
  · exact ab_c_16
  · exact ab_c_17
  · exact ab_c_18
  · exact ab_c_19
  · exact ab_c_20
  · exact ab_c_21
  · exact ab_c_22
  · exact ab_c_23
theorem ab_cc_1 : ∀ k, 24 ≤ k → k < 48 → Cond.code (ab_nm k) (ab_code k) (ab_mx k) (ab_rt k) ∈ ab_ws := by
  intro k h1 h2
  obtain rfl | rfl | rfl | rfl | rfl | rfl | rfl | rfl | rfl | rfl | rfl | rfl | rfl | rfl | rfl | rfl | rfl | rfl | rfl | rfl | rfl | rfl | rfl | rfl : k = 24 ∨ k = 25 ∨ k = 26 ∨ k = 27 ∨ k = 28 ∨ k = 29 ∨ k = 30 ∨ k = 31 ∨ k = 32 ∨ k = 33 ∨ k = 34 ∨ k = 35 ∨ k = 36 ∨ k = 37 ∨ k = 38 ∨ k = 39 ∨ k = 40 ∨ k = 41 ∨ k = 42 ∨ k = 43 ∨ k = 44 ∨ k = 45 ∨ k = 46 ∨ k = 47 := by omega
  · exact ab_c_24
  · exact ab_c_25
  · exact ab_c_26
  · exact ab_c_27
  · exact ab_c_28
  · exact ab_c_29
  · exact ab_c_30
  · exact ab_c_31
  · exact ab_c_32
  · exact ab_c_33
  · exact ab_c_34
  · exact ab_c_35
  · exact ab_c_36
  · exact ab_c_37
  · exact ab_c_38
  · exact ab_c_39
  · exact ab_c_40
  · exact ab_c_41
  · exact ab_c_42
  · exact ab_c_43
  · exact ab_c_44
  · exact ab_c_45
  · exact ab_c_46
  · exact ab_c_47
theorem ab_cc_2 : ∀ k, 48 ≤ k → k < 72 → Cond.code (ab_nm k) (ab_code k) (ab_mx k) (ab_rt k) ∈ ab_ws := by
  intro k h1 h2
  obtain rfl | rfl | rfl | rfl | rfl | rfl | rfl | rfl | rfl | rfl | rfl | rfl | rfl | rfl | rfl | rfl | rfl | rfl | rfl | rfl | rfl | rfl | rfl | rfl : k = 48 ∨ k = 49 ∨ k = 50 ∨ k = 51 ∨ k = 52 ∨ k = 53 ∨ k = 54 ∨ k = 55 ∨ k = 56 ∨ k = 57 ∨ k = 58 ∨ k = 59 ∨ k = 60 ∨ k = 61 ∨ k = 62 ∨ k = 63 ∨ k = 64 ∨ k = 65 ∨ k = 66 ∨ k = 67 ∨ k = 68 ∨ k = 69 ∨ k = 70 ∨ k = 71 := by omega
  · exact ab_c_48
  · exact ab_c_49
  · exact ab_c_50
  · exact ab_c_51
  · exact ab_c_52
  · exact ab_c_53
  · exact ab_c_54
  · exact ab_c_55
  · exact ab_c_56
  · exact ab_c_57
  · exact ab_c_58
  · exact ab_c_59
  · exact ab_c_60
  · exact ab_c_61
  · exact ab_c_62
  · exact ab_c_63
  · exact ab_c_64
  · exact ab_c_65
  · exact ab_c_66
  · exact ab_c_67
  · exact ab_c_68
  · exact ab_c_69
  · exact ab_c_70
  · exact ab_c_71
theorem ab_cc_3 : ∀ k, 72 ≤ k → k < 96 → Cond.code (ab_nm k) (ab_code k) (ab_mx k) (ab_rt k) ∈ ab_ws := by
  intro k h1 h2
  obtain rfl | rfl | rfl | rfl | rfl | rfl | rfl | rfl | rfl | rfl | rfl | rfl | rfl | rfl | rfl | rfl | rfl | rfl | rfl | rfl | rfl | rfl | rfl | rfl : k = 72 ∨ k = 73 ∨ k = 74 ∨ k = 75 ∨ k = 76 ∨ k = 77 ∨ k = 78 ∨ k = 79 ∨ k = 80 ∨ k = 81 ∨ k = 82 ∨ k = 83 ∨ k = 84 ∨ k = 85 ∨ k = 86 ∨ k = 87 ∨ k = 88 ∨ k = 89 ∨ k = 90 ∨ k = 91 ∨ k = 92 ∨ k = 93 ∨ k = 94 ∨ k = 95 := by omega
  · exact ab_c_72
  · exact ab_c_73
  · exact ab_c_74
  · exact ab_c_75
  · exact ab_c_76
  · exact ab_c_77
  · exact ab_c_78
  · exact ab_c_79
  · exact ab_c_80
  · exact ab_c_81
  · exact ab_c_82
  · exact ab_c_83
  · exact ab_c_84
  · exact ab_c_85
  · exact ab_c_86
  · exact ab_c_87
  · exact ab_c_88
  · exact ab_c_89
  · exact ab_c_90
  · exact ab_c_91
  · exact ab_c_92
  · exact ab_c_93
  · exact ab_c_94
  · exact ab_c_95
theorem ab_cc_4 : ∀ k, 96 ≤ k → k < 120 → Cond.code (ab_nm k) (ab_code k) (ab_mx k) (ab_rt k) ∈ ab_ws := by
  intro k h1 h2
  obtain rfl | rfl | rfl | rfl | rfl | rfl | rfl | rfl | rfl | rfl | rfl | rfl | rfl | rfl | rfl | rfl | rfl | rfl | rfl | rfl | rfl | rfl | rfl | rfl : k = 96 ∨ k = 97 ∨ k = 98 ∨ k = 99 ∨ k = 100 ∨ k = 101 ∨ k = 102 ∨ k = 103 ∨ k = 104 ∨ k = 105 ∨ k = 106 ∨ k = 107 ∨ k = 108 ∨ k = 109 ∨ k = 110 ∨ k = 111 ∨ k = 112 ∨ k = 113 ∨ k = 114 ∨ k = 115 ∨ k = 116 ∨ k = 117 ∨ k = 118 ∨ k = 119 := by omega
  · exact ab_c_96
  · exact ab_c_97
  · exact ab_c_98
  · exact ab_c_99
  · exact ab_c_100
  · exact ab_c_101
  · exact ab_c_102
  · exact ab_c_103
  · exact ab_c_104
  · exact ab_c_105
  · exact ab_c_106
  · exact ab_c_107
  · exact ab_c_108
  · exact ab_c_109
  · exact ab_c_110
  · exact ab_c_111
  · exact ab_c_112
  · exact ab_c_113
  · exact ab_c_114
  · exact ab_c_115
  · exact ab_c_116
  · exact ab_c_117
  · exact ab_c_118
  · exact ab_c_119
theorem ab_cc_5 : ∀ k, 120 ≤ k → k < 144 → Cond.code (ab_nm k) (ab_code k) (ab_mx k) (ab_rt k) ∈ ab_ws := by
  intro k h1 h2
  obtain rfl | rfl | rfl | rfl | rfl | rfl | rfl | rfl | rfl | rfl | rfl | rfl | rfl | rfl | rfl | rfl | rfl | rfl | rfl | rfl | rfl | rfl | rfl | rfl : k = 120 ∨ k = 121 ∨ k = 122 ∨ k = 123 ∨ k = 124 ∨ k = 125 ∨ k = 126 ∨ k = 127 ∨ k = 128 ∨ k = 129 ∨ k = 130 ∨ k = 131 ∨ k = 132 ∨ k = 133 ∨ k = 134 ∨ k = 135 ∨ k = 136 ∨ k = 137 ∨ k = 138 ∨ k = 139 ∨ k = 140 ∨ k = 141 ∨ k = 142 ∨ k = 143 := by omega
  · exact ab_c_120
  · exact ab_c_121
  · exact ab_c_122
  · exact ab_c_123
  · exact ab_c_124
  · exact ab_c_125
  · exact ab_c_126
  · exact ab_c_127
  · exact ab_c_128
  · exact ab_c_129
  · exact ab_c_130
  · exact ab_c_131
  · exact ab_c_132
  · exact ab_c_133
  · exact ab_c_134
  · exact ab_c_135
  · exact ab_c_136
  · exact ab_c_137
  · exact ab_c_138
  · exact ab_c_139
  · exact ab_c_140
  · exact ab_c_141
  · exact ab_c_142
  · exact ab_c_143
theorem ab_cc_6 : ∀ k, 144 ≤ k → k < 168 → Cond.code (ab_nm k) (ab_code k) (ab_mx k) (ab_rt k) ∈ ab_ws := by
  intro k h1 h2
  obtain rfl | rfl | rfl | rfl | rfl | rfl | rfl | rfl | rfl | rfl | rfl | rfl | rfl | rfl | rfl | rfl | rfl | rfl | rfl | rfl | rfl | rfl | rfl | rfl : k = 144 ∨ k = 145 ∨ k = 146 ∨ k = 147 ∨ k = 148 ∨ k = 149 ∨ k = 150 ∨ k = 151 ∨ k = 152 ∨ k = 153 ∨ k = 154 ∨ k = 155 ∨ k = 156 ∨ k = 157 ∨ k = 158 ∨ k = 159 ∨ k = 160 ∨ k = 161 ∨ k = 162 ∨ k = 163 ∨ k = 164 ∨ k = 165 ∨ k = 166 ∨ k = 167 := by omega
  · exact ab_c_144
  · exact ab_c_145
  · exact ab_c_146
  · exact ab_c_147
  · exact ab_c_148
  · exact ab_c_149
  · exact ab_c_150
  · exact ab_c_151
  · exact ab_c_152
  · exact ab_c_153
  · exact ab_c_154
  · exact ab_c_155
  · exact ab_c_156
  · exact ab_c_157
  · exact ab_c_158
  · exact ab_c_159
  · exact ab_c_160
  · exact ab_c_161
  · exact ab_c_162
  · exact ab_c_163
  · exact ab_c_164
  · exact ab_c_165
  · exact ab_c_166
  · exact ab_c_167
theorem ab_cc_7 : ∀ k, 168 ≤ k → k < 192 → Cond.code (ab_nm k) (ab_code k) (ab_mx k) (ab_rt k) ∈ ab_ws := by
  intro k h1 h2
  obtain rfl | rfl | rfl | rfl | rfl | rfl | rfl | rfl | rfl | rfl | rfl | rfl | rfl | rfl | rfl | rfl | rfl | rfl | rfl | rfl | rfl | rfl | rfl | rfl : k = 168 ∨ k = 169 ∨ k = 170 ∨ k = 171 ∨ k = 172 ∨ k = 173 ∨ k = 174 ∨ k = 175 ∨ k = 176 ∨ k = 177 ∨ k = 178 ∨ k = 179 ∨ k = 180 ∨ k = 181 ∨ k = 182 ∨ k = 183 ∨ k = 184 ∨ k = 185 ∨ k = 186 ∨ k = 187 ∨ k = 188 ∨ k = 189 ∨ k = 190 ∨ k = 191 := by omega
  · exact ab_c_168
  · exact ab_c_169
  · exact ab_c_170
  · exact ab_c_171
  · exact ab_c_172
  · exact ab_c_173
  · exact ab_c_174
  · exact ab_c_175
  · exact ab_c_176
  · exact ab_c_177
  · exact ab_c_178
  · exact ab_c_179
  · exact ab_c_180
  · exact ab_c_181
  · exact ab_c_182
  · exact ab_c_183
  · exact ab_c_184
  · exact ab_c_185
  · exact ab_c_186
  · exact ab_c_187
  · exact ab_c_188
  · exact ab_c_189
  · exact ab_c_190
  · exact ab_c_191
theorem ab_cc_8 : ∀ k, 192 ≤ k → k < 216 → Cond.code (ab_nm k) (ab_code k) (ab_mx k) (ab_rt k) ∈ ab_ws := by
  intro k h1 h2
  obtain rfl | rfl | rfl | rfl | rfl | rfl | rfl | rfl | rfl | rfl | rfl | rfl | rfl | rfl | rfl | rfl | rfl | rfl | rfl | rfl | rfl | rfl | rfl | rfl : k = 192 ∨ k = 193 ∨ k = 194 ∨ k = 195 ∨ k = 196 ∨ k = 197 ∨ k = 198 ∨ k = 199 ∨ k = 200 ∨ k = 201 ∨ k = 202 ∨ k = 203 ∨ k = 204 ∨ k = 205 ∨ k = 206 ∨ k = 207 ∨ k = 208 ∨ k = 209 ∨ k = 210 ∨ k = 211 ∨ k = 212 ∨ k = 213 ∨ k = 214 ∨ k = 215 := by omega
  · exact ab_c_192
  · exact ab_c_193
  · exact ab_c_194
  · exact ab_c_195
  · exact ab_c_196
  · exact ab_c_197
  · exact ab_c_198
  · exact ab_c_199
  · exact ab_c_200
  · exact ab_c_201
  · exact ab_c_202
  · exact ab_c_203
  · exact ab_c_204
  · exact ab_c_205
  · exact ab_c_206
  · exact ab_c_207
  · exact ab_c_208
  · exact ab_c_209
  · exact ab_c_210
  · exact ab_c_211
  · exact ab_c_212
  · exact ab_c_213
  · exact ab_c_214
  · exact ab_c_215
theorem ab_cc_9 : ∀ k, 216 ≤ k → k < 240 → Cond.code (ab_nm k) (ab_code k) (ab_mx k) (ab_rt k) ∈ ab_ws := by
  intro k h1 h2
  obtain rfl | rfl | rfl | rfl | rfl | rfl | rfl | rfl | rfl | rfl | rfl | rfl | rfl | rfl | rfl | rfl | rfl | rfl | rfl | rfl | rfl | rfl | rfl | rfl : k = 216 ∨ k = 217 ∨ k = 218 ∨ k = 219 ∨ k = 220 ∨ k = 221 ∨ k = 222 ∨ k = 223 ∨ k = 224 ∨ k = 225 ∨ k = 226 ∨ k = 227 ∨ k = 228 ∨ k = 229 ∨ k = 230 ∨ k = 231 ∨ k = 232 ∨ k = 233 ∨ k = 234 ∨ k = 235 ∨ k = 236 ∨ k = 237 ∨ k = 238 ∨ k = 239 := by omega
  · exact ab_c_216
  · exact ab_c_217
  · exact ab_c_218
  · exact ab_c_219
  · exact ab_c_220
  · exact ab_c_221
  · exact ab_c_222
  · exact ab_c_223
  · exact ab_c_224
  · exact ab_c_225
  · exact ab_c_226
  · exact ab_c_227
  · exact ab_c_228
  · exact ab_c_229
  · exact ab_c_230
  · exact ab_c_231
  · exact ab_c_232
  · exact ab_c_233
  · exact ab_c_234
  · exact ab_c_235
  · exact ab_c_236
  · exact ab_c_237
  · exact ab_c_238
  · exact ab_c_239
theorem ab_cc_10 : ∀ k, 240 ≤ k → k < 264 → Cond.code (ab_nm k) (ab_code k) (ab_mx k) (ab_rt k) ∈ ab_ws := by
  intro k h1 h2
  obtain rfl | rfl | rfl | rfl | rfl | rfl | rfl | rfl | rfl | rfl | rfl | rfl | rfl | rfl | rfl | rfl | rfl | rfl | rfl | rfl | rfl | rfl | rfl | rfl : k = 240 ∨ k = 241 ∨ k = 242 ∨ k = 243 ∨ k = 244 ∨ k = 245 ∨ k = 246 ∨ k = 247 ∨ k = 248 ∨ k = 249 ∨ k = 250 ∨ k = 251 ∨ k = 252 ∨ k = 253 ∨ k = 254 ∨ k = 255 ∨ k = 256 ∨ k = 257 ∨ k = 258 ∨ k = 259 ∨ k = 260 ∨ k = 261 ∨ k = 262 ∨ k = 263 := by omega
  · exact ab_c_240
  · exact ab_c_241
  · exact ab_c_242
  · exact ab_c_243
  · exact ab_c_244
  · exact ab_c_245
  · exact ab_c_246
  · exact ab_c_247
  · exact ab_c_248
  · exact ab_c_249
  · exact ab_c_250
  · exact ab_c_251
  · exact ab_c_252
  · exact ab_c_253
  · exact ab_c_254
  · exact ab_c_255
  · exact ab_c_256
  · exact ab_c_257
  · exact ab_c_258
  · exact ab_c_259
  · exact ab_c_260
  · exact ab_c_261
  · exact ab_c_262
  · exact ab_c_263
theorem ab_cc_11 : ∀ k, 264 ≤ k → k < 288 → Cond.code (ab_nm k) (ab_code k) (ab_mx k) (ab_rt k) ∈ ab_ws := by
  intro k h1 h2
  obtain rfl | rfl | rfl | rfl | rfl | rfl | rfl | rfl | rfl | rfl | rfl | rfl | rfl | rfl | rfl | rfl | rfl | rfl | rfl | rfl | rfl | rfl | rfl | rfl : k = 264 ∨ k = 265 ∨ k = 266 ∨ k = 267 ∨ k = 268 ∨ k = 269 ∨ k = 270 ∨ k = 271 ∨ k = 272 ∨ k = 273 ∨ k = 274 ∨ k = 275 ∨ k = 276 ∨ k = 277 ∨ k = 278 ∨ k = 279 ∨ k = 280 ∨ k = 281 ∨ k = 282 ∨ k = 283 ∨ k = 284 ∨ k = 285 ∨ k = 286 ∨ k = 287 := by omega
  · exact ab_c_264
  · exact ab_c_265
  · exact ab_c_266
  · exact ab_c_267
  · exact ab_c_268
  · exact ab_c_269
  · exact ab_c_270
  · exact ab_c_271
  · exact ab_c_272
  · exact ab_c_273
  · exact ab_c_274
  · exact ab_c_275
  · exact ab_c_276
  · exact ab_c_277
  · exact ab_c_278
  · exact ab_c_279
  · exact ab_c_280
  · exact ab_c_281
  · exact ab_c_282
  · exact ab_c_283
  · exact ab_c_284
  · exact ab_c_285
  · exact ab_c_286
  · exact ab_c_287
theorem ab_l_code {k : Nat} (hk : k < 288) : Cond.code (ab_nm k) (ab_code k) (ab_mx k) (ab_rt k) ∈ ab_ws := by
  by_cases h0 : k < 24
  · exact ab_cc_0 k (by omega) h0
  by_cases h1 : k < 48
  · exact ab_cc_1 k (by omega) h1
  by_cases h2 : k < 72
  · exact ab_cc_2 k (by omega) h2
  by_cases h3 : k < 96
  · exact ab_cc_3 k (by omega) h3
  by_cases h4 : k < 120
  · exact ab_cc_4 k (by omega) h4
  by_cases h5 : k < 144
  · exact ab_cc_5 k (by omega) h5
  by_cases h6 : k < 168
  · exact ab_cc_6 k (by omega) h6
  by_cases h7 : k < 192
  · exact ab_cc_7 k (by omega) h7
  by_cases h8 : k < 216
  · exact ab_cc_8 k (by omega) h8
  by_cases h9 : k < 240
  · exact ab_cc_9 k (by omega) h9
  by_cases h10 : k < 264
  · exact ab_cc_10 k (by omega) h10
  by_cases h11 : k < 288
  · exact ab_cc_11 k (by omega) h11
  omega
