theorem dX13_back_0 : decode cX13_back 0 = .ok (.aload_n 0, 1) := by decide +kernel
theorem dX13_back_1 : decode cX13_back 1 = .ok (.iconst 0, 1) := by decide +kernel
theorem dX13_back_2 : decode cX13_back 2 = .ok (.putfield 53, 3) := by decide +kernel
theorem dX13_back_5 : decode cX13_back 5 = .ok (.aload_n 0, 1) := by decide +kernel
theorem dX13_back_6 : decode cX13_back 6 = .ok (.getfield 373, 3) := by decide +kernel
theorem dX13_back_9 : decode cX13_back 9 = .ok (.ifnull 15, 3) := by decide +kernel
theorem dX13_back_12 : decode cX13_back 12 = .ok (.iload_n 1, 1) := by decide +kernel
theorem dX13_back_13 : decode cX13_back 13 = .ok (.ifCond .lt 11, 3) := by decide +kernel
theorem dX13_back_16 : decode cX13_back 16 = .ok (.iload_n 1, 1) := by decide +kernel
theorem dX13_back_17 : decode cX13_back 17 = .ok (.aload_n 0, 1) := by decide +kernel
theorem dX13_back_18 : decode cX13_back 18 = .ok (.getfield 378, 3) := by decide +kernel
theorem dX13_back_21 : decode cX13_back 21 = .ok (.if_icmp .lt 9, 3) := by decide +kernel
theorem dX13_back_24 : decode cX13_back 24 = .ok (.aload_n 0, 1) := by decide +kernel
theorem dX13_back_25 : decode cX13_back 25 = .ok (.iconst 1, 1) := by decide +kernel
theorem dX13_back_26 : decode cX13_back 26 = .ok (.invokevirtual 590, 3) := by decide +kernel
theorem dX13_back_29 : decode cX13_back 29 = .ok (.ireturn, 1) := by decide +kernel
theorem dX13_back_30 : decode cX13_back 30 = .ok (.iconst 0, 1) := by decide +kernel
theorem dX13_back_31 : decode cX13_back 31 = .ok (.istore_n 2, 1) := by decide +kernel
theorem dX13_back_32 : decode cX13_back 32 = .ok (.iload_n 2, 1) := by decide +kernel
theorem dX13_back_33 : decode cX13_back 33 = .ok (.bipush 18, 2) := by decide +kernel
theorem dX13_back_35 : decode cX13_back 35 = .ok (.if_icmp .ge 26, 3) := by decide +kernel
theorem dX13_back_38 : decode cX13_back 38 = .ok (.aload_n 0, 1) := by decide +kernel
theorem dX13_back_39 : decode cX13_back 39 = .ok (.getfield 17, 3) := by decide +kernel
theorem dX13_back_42 : decode cX13_back 42 = .ok (.iload_n 2, 1) := by decide +kernel
theorem dX13_back_43 : decode cX13_back 43 = .ok (.aload_n 0, 1) := by decide +kernel
theorem dX13_back_44 : decode cX13_back 44 = .ok (.getfield 24, 3) := by decide +kernel
theorem dX13_back_47 : decode cX13_back 47 = .ok (.bipush 18, 2) := by decide +kernel
theorem dX13_back_49 : decode cX13_back 49 = .ok (.iload_n 1, 1) := by decide +kernel
theorem dX13_back_50 : decode cX13_back 50 = .ok (.imul, 1) := by decide +kernel
theorem dX13_back_51 : decode cX13_back 51 = .ok (.iload_n 2, 1) := by decide +kernel
theorem dX13_back_52 : decode cX13_back 52 = .ok (.iadd, 1) := by decide +kernel
theorem dX13_back_53 : decode cX13_back 53 = .ok (.iaload, 1) := by decide +kernel
theorem dX13_back_54 : decode cX13_back 54 = .ok (.iastore, 1) := by decide +kernel
theorem dX13_back_55 : decode cX13_back 55 = .ok (.iinc 2 1, 3) := by decide +kernel
theorem dX13_back_58 : decode cX13_back 58 = .ok (.goto (-26), 3) := by decide +kernel
theorem dX13_back_61 : decode cX13_back 61 = .ok (.aload_n 0, 1) := by decide +kernel
theorem dX13_back_62 : decode cX13_back 62 = .ok (.iconst 0, 1) := by decide +kernel
theorem dX13_back_63 : decode cX13_back 63 = .ok (.putfield 375, 3) := by decide +kernel
theorem dX13_back_66 : decode cX13_back 66 = .ok (.aload_n 0, 1) := by decide +kernel
theorem dX13_back_67 : decode cX13_back 67 = .ok (.invokevirtual 596, 3) := by decide +kernel
theorem dX13_back_70 : decode cX13_back 70 = .ok (.ireturn, 1) := by decide +kernel
theorem dX13_led_0 : decode cX13_led 0 = .ok (.aload_n 0, 1) := by decide +kernel
theorem dX13_led_1 : decode cX13_led 1 = .ok (.iconst 0, 1) := by decide +kernel
theorem dX13_led_2 : decode cX13_led 2 = .ok (.putfield 53, 3) := by decide +kernel
theorem dX13_led_5 : decode cX13_led 5 = .ok (.iconst 0, 1) := by decide +kernel
theorem dX13_led_6 : decode cX13_led 6 = .ok (.istore_n 2, 1) := by decide +kernel
theorem dX13_led_7 : decode cX13_led 7 = .ok (.iconst 0, 1) := by decide +kernel
theorem dX13_led_8 : decode cX13_led 8 = .ok (.istore_n 3, 1) := by decide +kernel
theorem dX13_led_9 : decode cX13_led 9 = .ok (.aload_n 0, 1) := by decide +kernel
theorem dX13_led_10 : decode cX13_led 10 = .ok (.getfield 373, 3) := by decide +kernel
theorem dX13_led_13 : decode cX13_led 13 = .ok (.ifnull 47, 3) := by decide +kernel
theorem dX13_led_16 : decode cX13_led 16 = .ok (.iload_n 3, 1) := by decide +kernel
theorem dX13_led_17 : decode cX13_led 17 = .ok (.aload_n 0, 1) := by decide +kernel
theorem dX13_led_18 : decode cX13_led 18 = .ok (.getfield 373, 3) := by decide +kernel
theorem dX13_led_21 : decode cX13_led 21 = .ok (.getfield 210, 3) := by decide +kernel
theorem dX13_led_24 : decode cX13_led 24 = .ok (.if_icmp .ge 36, 3) := by decide +kernel
theorem dX13_led_27 : decode cX13_led 27 = .ok (.aload_n 0, 1) := by decide +kernel
theorem dX13_led_28 : decode cX13_led 28 = .ok (.getfield 17, 3) := by decide +kernel
theorem dX13_led_31 : decode cX13_led 31 = .ok (.bipush 10, 2) := by decide +kernel
theorem dX13_led_33 : decode cX13_led 33 = .ok (.iaload, 1) := by decide +kernel
theorem dX13_led_34 : decode cX13_led 34 = .ok (.iload_n 3, 1) := by decide +kernel
theorem dX13_led_35 : decode cX13_led 35 = .ok (.invokestatic 327, 3) := by decide +kernel
theorem dX13_led_38 : decode cX13_led 38 = .ok (.ifCond .eq 6, 3) := by decide +kernel
theorem dX13_led_41 : decode cX13_led 41 = .ok (.goto 13, 3) := by decide +kernel
theorem dX13_led_44 : decode cX13_led 44 = .ok (.iload_n 2, 1) := by decide +kernel
theorem dX13_led_45 : decode cX13_led 45 = .ok (.iload_n 1, 1) := by decide +kernel
theorem dX13_led_46 : decode cX13_led 46 = .ok (.if_icmp .ne 5, 3) := by decide +kernel
theorem dX13_led_49 : decode cX13_led 49 = .ok (.iload_n 3, 1) := by decide +kernel
theorem dX13_led_50 : decode cX13_led 50 = .ok (.ireturn, 1) := by decide +kernel
theorem dX13_led_51 : decode cX13_led 51 = .ok (.iinc 2 1, 3) := by decide +kernel
theorem dX13_led_54 : decode cX13_led 54 = .ok (.iinc 3 1, 3) := by decide +kernel
theorem dX13_led_57 : decode cX13_led 57 = .ok (.goto (-48), 3) := by decide +kernel
theorem dX13_led_60 : decode cX13_led 60 = .ok (.aload_n 0, 1) := by decide +kernel
theorem dX13_led_61 : decode cX13_led 61 = .ok (.iconst 1, 1) := by decide +kernel
theorem dX13_led_62 : decode cX13_led 62 = .ok (.putfield 53, 3) := by decide +kernel
theorem dX13_led_65 : decode cX13_led 65 = .ok (.iconst 0, 1) := by decide +kernel
theorem dX13_led_66 : decode cX13_led 66 = .ok (.ireturn, 1) := by decide +kernel
theorem dX13_size_0 : decode cX13_size 0 = .ok (.aload_n 0, 1) := by decide +kernel
theorem dX13_size_1 : decode cX13_size 1 = .ok (.iconst 0, 1) := by decide +kernel
theorem dX13_size_2 : decode cX13_size 2 = .ok (.putfield 53, 3) := by decide +kernel
theorem dX13_size_5 : decode cX13_size 5 = .ok (.iload_n 1, 1) := by decide +kernel
theorem dX13_size_6 : decode cX13_size 6 = .ok (.bipush 13, 2) := by decide +kernel
theorem dX13_size_8 : decode cX13_size 8 = .ok (.if_icmp .ne 8, 3) := by decide +kernel
theorem dX13_size_11 : decode cX13_size 11 = .ok (.aload_n 0, 1) := by decide +kernel
theorem dX13_size_12 : decode cX13_size 12 = .ok (.getfield 366, 3) := by decide +kernel
theorem dX13_size_15 : decode cX13_size 15 = .ok (.ireturn, 1) := by decide +kernel
theorem dX13_size_16 : decode cX13_size 16 = .ok (.iload_n 1, 1) := by decide +kernel
theorem dX13_size_17 : decode cX13_size 17 = .ok (.iconst 0, 1) := by decide +kernel
theorem dX13_size_18 : decode cX13_size 18 = .ok (.bipush 12, 2) := by decide +kernel
theorem dX13_size_20 : decode cX13_size 20 = .ok (.invokestatic 138, 3) := by decide +kernel
theorem dX13_size_23 : decode cX13_size 23 = .ok (.ifCond .ne 5, 3) := by decide +kernel
theorem dX13_size_26 : decode cX13_size 26 = .ok (.iconst (-1), 1) := by decide +kernel
theorem dX13_size_27 : decode cX13_size 27 = .ok (.ireturn, 1) := by decide +kernel
theorem dX13_size_28 : decode cX13_size 28 = .ok (.aload_n 0, 1) := by decide +kernel
theorem dX13_size_29 : decode cX13_size 29 = .ok (.getfield 373, 3) := by decide +kernel
theorem dX13_size_32 : decode cX13_size 32 = .ok (.ifnonnull 5, 3) := by decide +kernel
theorem dX13_size_35 : decode cX13_size 35 = .ok (.iconst 0, 1) := by decide +kernel
theorem dX13_size_36 : decode cX13_size 36 = .ok (.ireturn, 1) := by decide +kernel
theorem dX13_size_37 : decode cX13_size 37 = .ok (.iload_n 1, 1) := by decide +kernel
theorem dX13_size_38 : decode cX13_size 38 = .ok (.tableswitch 155 0 11 #[62, 70, 78, 86, 94, 102, 110, 118, 126, 134, 142, 150], 62) := by decide +kernel
theorem dX13_size_100 : decode cX13_size 100 = .ok (.aload_n 0, 1) := by decide +kernel
theorem dX13_size_101 : decode cX13_size 101 = .ok (.getfield 373, 3) := by decide +kernel
theorem dX13_size_104 : decode cX13_size 104 = .ok (.getfield 250, 3) := by decide +kernel
theorem dX13_size_107 : decode cX13_size 107 = .ok (.ireturn, 1) := by decide +kernel
theorem dX13_size_108 : decode cX13_size 108 = .ok (.aload_n 0, 1) := by decide +kernel
theorem dX13_size_109 : decode cX13_size 109 = .ok (.getfield 373, 3) := by decide +kernel
theorem dX13_size_112 : decode cX13_size 112 = .ok (.getfield 252, 3) := by decide +kernel
theorem dX13_size_115 : decode cX13_size 115 = .ok (.ireturn, 1) := by decide +kernel
theorem dX13_size_116 : decode cX13_size 116 = .ok (.aload_n 0, 1) := by decide +kernel
theorem dX13_size_117 : decode cX13_size 117 = .ok (.getfield 373, 3) := by decide +kernel
theorem dX13_size_120 : decode cX13_size 120 = .ok (.getfield 254, 3) := by decide +kernel
theorem dX13_size_123 : decode cX13_size 123 = .ok (.ireturn, 1) := by decide +kernel
theorem dX13_size_124 : decode cX13_size 124 = .ok (.aload_n 0, 1) := by decide +kernel
theorem dX13_size_125 : decode cX13_size 125 = .ok (.getfield 373, 3) := by decide +kernel
theorem dX13_size_128 : decode cX13_size 128 = .ok (.getfield 256, 3) := by decide +kernel
theorem dX13_size_131 : decode cX13_size 131 = .ok (.ireturn, 1) := by decide +kernel
theorem dX13_size_132 : decode cX13_size 132 = .ok (.aload_n 0, 1) := by decide +kernel
theorem dX13_size_133 : decode cX13_size 133 = .ok (.getfield 373, 3) := by decide +kernel
theorem dX13_size_136 : decode cX13_size 136 = .ok (.getfield 258, 3) := by decide +kernel
theorem dX13_size_139 : decode cX13_size 139 = .ok (.ireturn, 1) := by decide +kernel
theorem dX13_size_140 : decode cX13_size 140 = .ok (.aload_n 0, 1) := by decide +kernel
theorem dX13_size_141 : decode cX13_size 141 = .ok (.getfield 373, 3) := by decide +kernel
theorem dX13_size_144 : decode cX13_size 144 = .ok (.getfield 210, 3) := by decide +kernel
theorem dX13_size_147 : decode cX13_size 147 = .ok (.ireturn, 1) := by decide +kernel
theorem dX13_size_148 : decode cX13_size 148 = .ok (.aload_n 0, 1) := by decide +kernel
theorem dX13_size_149 : decode cX13_size 149 = .ok (.getfield 373, 3) := by decide +kernel
theorem dX13_size_152 : decode cX13_size 152 = .ok (.getfield 213, 3) := by decide +kernel
theorem dX13_size_155 : decode cX13_size 155 = .ok (.ireturn, 1) := by decide +kernel
theorem dX13_size_156 : decode cX13_size 156 = .ok (.aload_n 0, 1) := by decide +kernel
theorem dX13_size_157 : decode cX13_size 157 = .ok (.getfield 373, 3) := by decide +kernel
theorem dX13_size_160 : decode cX13_size 160 = .ok (.getfield 318, 3) := by decide +kernel
theorem dX13_size_163 : decode cX13_size 163 = .ok (.ireturn, 1) := by decide +kernel
theorem dX13_size_164 : decode cX13_size 164 = .ok (.aload_n 0, 1) := by decide +kernel
theorem dX13_size_165 : decode cX13_size 165 = .ok (.getfield 373, 3) := by decide +kernel
theorem dX13_size_168 : decode cX13_size 168 = .ok (.getfield 334, 3) := by decide +kernel
theorem dX13_size_171 : decode cX13_size 171 = .ok (.ireturn, 1) := by decide +kernel
theorem dX13_size_172 : decode cX13_size 172 = .ok (.aload_n 0, 1) := by decide +kernel
theorem dX13_size_173 : decode cX13_size 173 = .ok (.getfield 373, 3) := by decide +kernel
theorem dX13_size_176 : decode cX13_size 176 = .ok (.getfield 349, 3) := by decide +kernel
theorem dX13_size_179 : decode cX13_size 179 = .ok (.ireturn, 1) := by decide +kernel
theorem dX13_size_180 : decode cX13_size 180 = .ok (.aload_n 0, 1) := by decide +kernel
theorem dX13_size_181 : decode cX13_size 181 = .ok (.getfield 17, 3) := by decide +kernel
theorem dX13_size_184 : decode cX13_size 184 = .ok (.bipush 17, 2) := by decide +kernel
theorem dX13_size_186 : decode cX13_size 186 = .ok (.iaload, 1) := by decide +kernel
theorem dX13_size_187 : decode cX13_size 187 = .ok (.ireturn, 1) := by decide +kernel
theorem dX13_size_188 : decode cX13_size 188 = .ok (.aload_n 0, 1) := by decide +kernel
theorem dX13_size_189 : decode cX13_size 189 = .ok (.getfield 375, 3) := by decide +kernel
theorem dX13_size_192 : decode cX13_size 192 = .ok (.ireturn, 1) := by decide +kernel
theorem dX13_size_193 : decode cX13_size 193 = .ok (.aload_n 0, 1) := by decide +kernel
theorem dX13_size_194 : decode cX13_size 194 = .ok (.getfield 378, 3) := by decide +kernel
theorem dX13_size_197 : decode cX13_size 197 = .ok (.ireturn, 1) := by decide +kernel
theorem dX13_trouble_0 : decode cX13_trouble 0 = .ok (.aload_n 0, 1) := by decide +kernel
theorem dX13_trouble_1 : decode cX13_trouble 1 = .ok (.iconst 0, 1) := by decide +kernel
theorem dX13_trouble_2 : decode cX13_trouble 2 = .ok (.putfield 53, 3) := by decide +kernel
theorem dX13_trouble_5 : decode cX13_trouble 5 = .ok (.aload_n 0, 1) := by decide +kernel
theorem dX13_trouble_6 : decode cX13_trouble 6 = .ok (.getfield 56, 3) := by decide +kernel
theorem dX13_trouble_9 : decode cX13_trouble 9 = .ok (.ireturn, 1) := by decide +kernel
section
variable {X : ab_X} {d : Nat} {σ : ab_S} {Q : Option ab_V → ab_S → Prop} {L st : List ab_V} {a b z v i j x1 x2 x3 x4 x5 x6 x7 x8 : Int} {l0 l1 l2 l3 l4 l5 l6 l7 l8 l9 l10 l11 l12 l13 l14 l15 l16 l17 l18 l19 l20 : ab_V}
theorem kc_X13_back : ab_code 284 = cX13_back := rfl
theorem ko_X13_back : ab_ow 284 = 13 := rfl
theorem rX13_back_0 : ab_Run X 284 0 (2, 0, 0) [ab_R z, l1, l2] st σ Q ↔ z ≠ 0 ∧ ab_Run X 284 1 (2, 0, 0) [ab_R z, l1, l2] (ab_R z :: st) σ Q := ab_r_aload_n rfl kc_X13_back dX13_back_0
theorem rX13_back_1 : ab_Run X 284 1 (2, 0, 0) L st σ Q ↔ ab_Run X 284 2 (2, 0, 0) L (ab_I 0 :: st) σ Q := ab_r_iconst (by decide) kc_X13_back dX13_back_1
theorem rX13_back_2 : ab_Run X 284 2 (2, 0, 0) L (ab_I z :: ab_R a :: st) σ Q ↔ (ab_sh σ a).1 = 14 ∧ ab_Run X 284 5 (2, 0, 0) L st (ab_wr σ a 0 z) Q := sF_13_53 ko_X13_back kc_X13_back dX13_back_2
theorem rX13_back_5 : ab_Run X 284 5 (2, 0, 0) [ab_R z, l1, l2] st σ Q ↔ z ≠ 0 ∧ ab_Run X 284 6 (2, 0, 0) [ab_R z, l1, l2] (ab_R z :: st) σ Q := ab_r_aload_n rfl kc_X13_back dX13_back_5
theorem rX13_back_6 : ab_Run X 284 6 (2, 0, 0) L (ab_R a :: st) σ Q ↔ (ab_sh σ a).1 = 14 ∧ ab_Run X 284 9 (2, 0, 0) L (ab_R (ab_rd σ a 3) :: st) σ Q := gF_13_373 ko_X13_back kc_X13_back dX13_back_6
theorem rX13_back_9 : ab_Run X 284 9 (2, 0, 0) L (ab_R a :: st) σ Q ↔ (a = 0 → ab_Run X 284 24 (2, 0, 0) L st σ Q) ∧ (¬ (a = 0) → ab_Run X 284 12 (2, 0, 0) L st σ Q) := ab_r_ifnull rfl kc_X13_back dX13_back_9
theorem rX13_back_12 : ab_Run X 284 12 (2, 0, 0) [l0, ab_I z, l2] st σ Q ↔ ab_Run X 284 13 (2, 0, 0) [l0, ab_I z, l2] (ab_I z :: st) σ Q := ab_r_iload_n rfl kc_X13_back dX13_back_12
theorem rX13_back_13 : ab_Run X 284 13 (2, 0, 0) L (ab_I a :: st) σ Q ↔ (a < 0 → ab_Run X 284 24 (2, 0, 0) L st σ Q) ∧ (¬ (a < 0) → ab_Run X 284 16 (2, 0, 0) L st σ Q) := ab_r_if_lt rfl kc_X13_back dX13_back_13
theorem rX13_back_16 : ab_Run X 284 16 (2, 0, 0) [l0, ab_I z, l2] st σ Q ↔ ab_Run X 284 17 (2, 0, 0) [l0, ab_I z, l2] (ab_I z :: st) σ Q := ab_r_iload_n rfl kc_X13_back dX13_back_16
theorem rX13_back_17 : ab_Run X 284 17 (2, 0, 0) [ab_R z, l1, l2] st σ Q ↔ z ≠ 0 ∧ ab_Run X 284 18 (2, 0, 0) [ab_R z, l1, l2] (ab_R z :: st) σ Q := ab_r_aload_n rfl kc_X13_back dX13_back_17
theorem rX13_back_18 : ab_Run X 284 18 (2, 0, 0) L (ab_R a :: st) σ Q ↔ (ab_sh σ a).1 = 14 ∧ ab_Run X 284 21 (2, 0, 0) L (ab_I (ab_rd σ a 20) :: st) σ Q := gF_13_378 ko_X13_back kc_X13_back dX13_back_18
theorem rX13_back_21 : ab_Run X 284 21 (2, 0, 0) L (ab_I b :: ab_I a :: st) σ Q ↔ (a < b → ab_Run X 284 30 (2, 0, 0) L st σ Q) ∧ (¬ (a < b) → ab_Run X 284 24 (2, 0, 0) L st σ Q) := ab_r_icmp_lt rfl kc_X13_back dX13_back_21
theorem rX13_back_24 : ab_Run X 284 24 (2, 0, 0) [ab_R z, l1, l2] st σ Q ↔ z ≠ 0 ∧ ab_Run X 284 25 (2, 0, 0) [ab_R z, l1, l2] (ab_R z :: st) σ Q := ab_r_aload_n rfl kc_X13_back dX13_back_24
theorem rX13_back_25 : ab_Run X 284 25 (2, 0, 0) L st σ Q ↔ ab_Run X 284 26 (2, 0, 0) L (ab_I 1 :: st) σ Q := ab_r_iconst (by decide) kc_X13_back dX13_back_25
theorem rX13_back_26 : ab_Run X 284 26 (2, 0, 0) L (ab_I x1 :: ab_R a :: st) σ Q ↔ ((ab_sh σ a).1 = 14 ∧ ab_cats st ≤ 8) ∧ ab_Do X 160 [ab_R a, ab_I x1] σ (fun r σ' => ab_Run X 284 29 (2, 0, 0) L (ab_psh r st) σ' Q) := ab_r_callV (w := [ab_I x1]) (as := [ab_I x1]) (b1 := (1, 0, 0)) 0 (Or.inl rfl) (by decide) ko_X13_back qM_13_590 (by decide) rfl rfl rfl rfl rfl (by decide) (Nat.le_of_ble_eq_true rfl) kc_X13_back dX13_back_26
theorem rX13_back_29 : ab_Run X 284 29 (2, 0, 0) L [ab_I v] σ Q ↔ (v = 0 ∨ v = 1) ∧ Q (some (ab_I v)) σ := ab_r_ireturnZ rfl kc_X13_back dX13_back_29
theorem rX13_back_30 : ab_Run X 284 30 (2, 0, 0) L st σ Q ↔ ab_Run X 284 31 (2, 0, 0) L (ab_I 0 :: st) σ Q := ab_r_iconst (by decide) kc_X13_back dX13_back_30
theorem rX13_back_31 : ab_Run X 284 31 (2, 0, 0) [l0, l1, l2] (ab_I z :: st) σ Q ↔ (!ab_isJ l1) = true ∧ ab_Run X 284 32 (2, 0, 0) [l0, l1, ab_I z] st σ Q := ab_r_istore_n (Nat.le_of_ble_eq_true rfl) kc_X13_back dX13_back_31
theorem rX13_back_32 : ab_Run X 284 32 (2, 0, 0) [l0, l1, ab_I z] st σ Q ↔ ab_Run X 284 33 (2, 0, 0) [l0, l1, ab_I z] (ab_I z :: st) σ Q := ab_r_iload_n rfl kc_X13_back dX13_back_32
theorem rX13_back_33 : ab_Run X 284 33 (2, 0, 0) L st σ Q ↔ ab_Run X 284 35 (2, 0, 0) L (ab_I 18 :: st) σ Q := ab_r_bipush (by decide) kc_X13_back dX13_back_33
theorem rX13_back_35 : ab_Run X 284 35 (2, 0, 0) L (ab_I b :: ab_I a :: st) σ Q ↔ (b ≤ a → ab_Run X 284 61 (2, 0, 0) L st σ Q) ∧ (¬ (b ≤ a) → ab_Run X 284 38 (2, 0, 0) L st σ Q) := ab_r_icmp_ge rfl kc_X13_back dX13_back_35
theorem rX13_back_38 : ab_Run X 284 38 (2, 0, 0) [ab_R z, l1, l2] st σ Q ↔ z ≠ 0 ∧ ab_Run X 284 39 (2, 0, 0) [ab_R z, l1, l2] (ab_R z :: st) σ Q := ab_r_aload_n rfl kc_X13_back dX13_back_38
theorem rX13_back_39 : ab_Run X 284 39 (2, 0, 0) L (ab_R a :: st) σ Q ↔ (ab_sh σ a).1 = 14 ∧ ab_Run X 284 42 (2, 0, 0) L (ab_R (ab_rd σ a 16) :: st) σ Q := gF_13_17 ko_X13_back kc_X13_back dX13_back_39
theorem rX13_back_42 : ab_Run X 284 42 (2, 0, 0) [l0, l1, ab_I z] st σ Q ↔ ab_Run X 284 43 (2, 0, 0) [l0, l1, ab_I z] (ab_I z :: st) σ Q := ab_r_iload_n rfl kc_X13_back dX13_back_42
theorem rX13_back_43 : ab_Run X 284 43 (2, 0, 0) [ab_R z, l1, l2] st σ Q ↔ z ≠ 0 ∧ ab_Run X 284 44 (2, 0, 0) [ab_R z, l1, l2] (ab_R z :: st) σ Q := ab_r_aload_n rfl kc_X13_back dX13_back_43
theorem rX13_back_44 : ab_Run X 284 44 (2, 0, 0) L (ab_R a :: st) σ Q ↔ (ab_sh σ a).1 = 14 ∧ ab_Run X 284 47 (2, 0, 0) L (ab_R (ab_rd σ a 18) :: st) σ Q := gF_13_24 ko_X13_back kc_X13_back dX13_back_44
theorem rX13_back_47 : ab_Run X 284 47 (2, 0, 0) L st σ Q ↔ ab_Run X 284 49 (2, 0, 0) L (ab_I 18 :: st) σ Q := ab_r_bipush (by decide) kc_X13_back dX13_back_47
theorem rX13_back_49 : ab_Run X 284 49 (2, 0, 0) [l0, ab_I z, l2] st σ Q ↔ ab_Run X 284 50 (2, 0, 0) [l0, ab_I z, l2] (ab_I z :: st) σ Q := ab_r_iload_n rfl kc_X13_back dX13_back_49
theorem rX13_back_50 : ab_Run X 284 50 (2, 0, 0) L (ab_I b :: ab_I a :: st) σ Q ↔ ab_Run X 284 51 (2, 0, 0) L (ab_I (ab_w32 (a * b)) :: st) σ Q := ab_r_imul kc_X13_back dX13_back_50
theorem rX13_back_51 : ab_Run X 284 51 (2, 0, 0) [l0, l1, ab_I z] st σ Q ↔ ab_Run X 284 52 (2, 0, 0) [l0, l1, ab_I z] (ab_I z :: st) σ Q := ab_r_iload_n rfl kc_X13_back dX13_back_51
theorem rX13_back_52 : ab_Run X 284 52 (2, 0, 0) L (ab_I b :: ab_I a :: st) σ Q ↔ ab_Run X 284 53 (2, 0, 0) L (ab_I (ab_w32 (a + b)) :: st) σ Q := ab_r_iadd kc_X13_back dX13_back_52
theorem rX13_back_53 : ab_Run X 284 53 (2, 0, 0) L (ab_I i :: ab_R a :: st) σ Q ↔ ((ab_sh σ a).1 = 21 ∧ 0 ≤ i ∧ i < (ab_sh σ a).2) ∧ ab_Run X 284 54 (2, 0, 0) L (ab_I (ab_rd σ a i) :: st) σ Q := ab_r_iaload (by decide) kc_X13_back dX13_back_53
theorem rX13_back_54 : ab_Run X 284 54 (2, 0, 0) L (ab_I v :: ab_I i :: ab_R a :: st) σ Q ↔ ((ab_sh σ a).1 = 21 ∧ 0 ≤ i ∧ i < (ab_sh σ a).2) ∧ ab_Run X 284 55 (2, 0, 0) L st (ab_wr σ a i v) Q := ab_r_iastore kc_X13_back dX13_back_54
theorem rX13_back_55 : ab_Run X 284 55 (2, 0, 0) [l0, l1, ab_I z] st σ Q ↔ (!ab_isJ l1) = true ∧ ab_Run X 284 58 (2, 0, 0) [l0, l1, ab_I (ab_w32 (z + 1))] st σ Q := ab_r_iinc rfl (by decide) kc_X13_back dX13_back_55
theorem rX13_back_58 : ab_Run X 284 58 (2, 0, 0) L st σ Q ↔ ab_Run X 284 32 (2, 0, 0) L st σ Q := ab_r_goto rfl kc_X13_back dX13_back_58
theorem rX13_back_61 : ab_Run X 284 61 (2, 0, 0) [ab_R z, l1, l2] st σ Q ↔ z ≠ 0 ∧ ab_Run X 284 62 (2, 0, 0) [ab_R z, l1, l2] (ab_R z :: st) σ Q := ab_r_aload_n rfl kc_X13_back dX13_back_61
theorem rX13_back_62 : ab_Run X 284 62 (2, 0, 0) L st σ Q ↔ ab_Run X 284 63 (2, 0, 0) L (ab_I 0 :: st) σ Q := ab_r_iconst (by decide) kc_X13_back dX13_back_62
theorem rX13_back_63 : ab_Run X 284 63 (2, 0, 0) L (ab_I z :: ab_R a :: st) σ Q ↔ (ab_sh σ a).1 = 14 ∧ ab_Run X 284 66 (2, 0, 0) L st (ab_wr σ a 19 z) Q := sF_13_375 ko_X13_back kc_X13_back dX13_back_63
theorem rX13_back_66 : ab_Run X 284 66 (2, 0, 0) [ab_R z, l1, l2] st σ Q ↔ z ≠ 0 ∧ ab_Run X 284 67 (2, 0, 0) [ab_R z, l1, l2] (ab_R z :: st) σ Q := ab_r_aload_n rfl kc_X13_back dX13_back_66
theorem rX13_back_67 : ab_Run X 284 67 (2, 0, 0) L (ab_R a :: st) σ Q ↔ ((ab_sh σ a).1 = 14 ∧ ab_cats st ≤ 8) ∧ ab_Do X 162 [ab_R a] σ (fun r σ' => ab_Run X 284 70 (2, 0, 0) L (ab_psh r st) σ' Q) := ab_r_callV (w := []) (as := []) (b1 := (1, 0, 0)) 0 (Or.inl rfl) (by decide) ko_X13_back qM_13_596 (by decide) rfl rfl rfl rfl rfl (by decide) (Nat.le_of_ble_eq_true rfl) kc_X13_back dX13_back_67
theorem rX13_back_70 : ab_Run X 284 70 (2, 0, 0) L [ab_I v] σ Q ↔ (v = 0 ∨ v = 1) ∧ Q (some (ab_I v)) σ := ab_r_ireturnZ rfl kc_X13_back dX13_back_70
theorem kc_X13_led : ab_code 285 = cX13_led := rfl
theorem ko_X13_led : ab_ow 285 = 13 := rfl
theorem rX13_led_0 : ab_Run X 285 0 (1, 0, 0) [ab_R z, l1, l2, l3] st σ Q ↔ z ≠ 0 ∧ ab_Run X 285 1 (1, 0, 0) [ab_R z, l1, l2, l3] (ab_R z :: st) σ Q := ab_r_aload_n rfl kc_X13_led dX13_led_0
theorem rX13_led_1 : ab_Run X 285 1 (1, 0, 0) L st σ Q ↔ ab_Run X 285 2 (1, 0, 0) L (ab_I 0 :: st) σ Q := ab_r_iconst (by decide) kc_X13_led dX13_led_1
theorem rX13_led_2 : ab_Run X 285 2 (1, 0, 0) L (ab_I z :: ab_R a :: st) σ Q ↔ (ab_sh σ a).1 = 14 ∧ ab_Run X 285 5 (1, 0, 0) L st (ab_wr σ a 0 z) Q := sF_13_53 ko_X13_led kc_X13_led dX13_led_2
theorem rX13_led_5 : ab_Run X 285 5 (1, 0, 0) L st σ Q ↔ ab_Run X 285 6 (1, 0, 0) L (ab_I 0 :: st) σ Q := ab_r_iconst (by decide) kc_X13_led dX13_led_5
theorem rX13_led_6 : ab_Run X 285 6 (1, 0, 0) [l0, l1, l2, l3] (ab_I z :: st) σ Q ↔ (!ab_isJ l1) = true ∧ ab_Run X 285 7 (1, 0, 0) [l0, l1, ab_I z, l3] st σ Q := ab_r_istore_n (Nat.le_of_ble_eq_true rfl) kc_X13_led dX13_led_6
theorem rX13_led_7 : ab_Run X 285 7 (1, 0, 0) L st σ Q ↔ ab_Run X 285 8 (1, 0, 0) L (ab_I 0 :: st) σ Q := ab_r_iconst (by decide) kc_X13_led dX13_led_7
theorem rX13_led_8 : ab_Run X 285 8 (1, 0, 0) [l0, l1, l2, l3] (ab_I z :: st) σ Q ↔ (!ab_isJ l2) = true ∧ ab_Run X 285 9 (1, 0, 0) [l0, l1, l2, ab_I z] st σ Q := ab_r_istore_n (Nat.le_of_ble_eq_true rfl) kc_X13_led dX13_led_8
theorem rX13_led_9 : ab_Run X 285 9 (1, 0, 0) [ab_R z, l1, l2, l3] st σ Q ↔ z ≠ 0 ∧ ab_Run X 285 10 (1, 0, 0) [ab_R z, l1, l2, l3] (ab_R z :: st) σ Q := ab_r_aload_n rfl kc_X13_led dX13_led_9
theorem rX13_led_10 : ab_Run X 285 10 (1, 0, 0) L (ab_R a :: st) σ Q ↔ (ab_sh σ a).1 = 14 ∧ ab_Run X 285 13 (1, 0, 0) L (ab_R (ab_rd σ a 3) :: st) σ Q := gF_13_373 ko_X13_led kc_X13_led dX13_led_10
theorem rX13_led_13 : ab_Run X 285 13 (1, 0, 0) L (ab_R a :: st) σ Q ↔ (a = 0 → ab_Run X 285 60 (1, 0, 0) L st σ Q) ∧ (¬ (a = 0) → ab_Run X 285 16 (1, 0, 0) L st σ Q) := ab_r_ifnull rfl kc_X13_led dX13_led_13
theorem rX13_led_16 : ab_Run X 285 16 (1, 0, 0) [l0, l1, l2, ab_I z] st σ Q ↔ ab_Run X 285 17 (1, 0, 0) [l0, l1, l2, ab_I z] (ab_I z :: st) σ Q := ab_r_iload_n rfl kc_X13_led dX13_led_16
theorem rX13_led_17 : ab_Run X 285 17 (1, 0, 0) [ab_R z, l1, l2, l3] st σ Q ↔ z ≠ 0 ∧ ab_Run X 285 18 (1, 0, 0) [ab_R z, l1, l2, l3] (ab_R z :: st) σ Q := ab_r_aload_n rfl kc_X13_led dX13_led_17
theorem rX13_led_18 : ab_Run X 285 18 (1, 0, 0) L (ab_R a :: st) σ Q ↔ (ab_sh σ a).1 = 14 ∧ ab_Run X 285 21 (1, 0, 0) L (ab_R (ab_rd σ a 3) :: st) σ Q := gF_13_373 ko_X13_led kc_X13_led dX13_led_18
theorem rX13_led_21 : ab_Run X 285 21 (1, 0, 0) L (ab_R a :: st) σ Q ↔ (ab_sh σ a).1 = 13 ∧ ab_Run X 285 24 (1, 0, 0) L (ab_I (ab_rd σ a 5) :: st) σ Q := gF_13_210 ko_X13_led kc_X13_led dX13_led_21
theorem rX13_led_24 : ab_Run X 285 24 (1, 0, 0) L (ab_I b :: ab_I a :: st) σ Q ↔ (b ≤ a → ab_Run X 285 60 (1, 0, 0) L st σ Q) ∧ (¬ (b ≤ a) → ab_Run X 285 27 (1, 0, 0) L st σ Q) := ab_r_icmp_ge rfl kc_X13_led dX13_led_24
theorem rX13_led_27 : ab_Run X 285 27 (1, 0, 0) [ab_R z, l1, l2, l3] st σ Q ↔ z ≠ 0 ∧ ab_Run X 285 28 (1, 0, 0) [ab_R z, l1, l2, l3] (ab_R z :: st) σ Q := ab_r_aload_n rfl kc_X13_led dX13_led_27
theorem rX13_led_28 : ab_Run X 285 28 (1, 0, 0) L (ab_R a :: st) σ Q ↔ (ab_sh σ a).1 = 14 ∧ ab_Run X 285 31 (1, 0, 0) L (ab_R (ab_rd σ a 16) :: st) σ Q := gF_13_17 ko_X13_led kc_X13_led dX13_led_28
theorem rX13_led_31 : ab_Run X 285 31 (1, 0, 0) L st σ Q ↔ ab_Run X 285 33 (1, 0, 0) L (ab_I 10 :: st) σ Q := ab_r_bipush (by decide) kc_X13_led dX13_led_31
theorem rX13_led_33 : ab_Run X 285 33 (1, 0, 0) L (ab_I i :: ab_R a :: st) σ Q ↔ ((ab_sh σ a).1 = 21 ∧ 0 ≤ i ∧ i < (ab_sh σ a).2) ∧ ab_Run X 285 34 (1, 0, 0) L (ab_I (ab_rd σ a i) :: st) σ Q := ab_r_iaload (by decide) kc_X13_led dX13_led_33
theorem rX13_led_34 : ab_Run X 285 34 (1, 0, 0) [l0, l1, l2, ab_I z] st σ Q ↔ ab_Run X 285 35 (1, 0, 0) [l0, l1, l2, ab_I z] (ab_I z :: st) σ Q := ab_r_iload_n rfl kc_X13_led dX13_led_34
theorem rX13_led_35 : ab_Run X 285 35 (1, 0, 0) L (ab_I x2 :: ab_I x1 :: st) σ Q ↔ ab_cats st ≤ 8 ∧ ab_Do X 164 [ab_I x1, ab_I x2] σ (fun r σ' => ab_Run X 285 38 (1, 0, 0) L (ab_psh r st) σ' Q) := ab_r_callS (w := [ab_I x2, ab_I x1]) (as := [ab_I x1, ab_I x2]) (b1 := (0, 0, 0)) (by decide) ko_X13_led qM_13_327 (by decide) rfl rfl rfl rfl (by decide) (Nat.le_of_ble_eq_true rfl) kc_X13_led dX13_led_35
theorem rX13_led_38 : ab_Run X 285 38 (1, 0, 0) L (ab_I a :: st) σ Q ↔ (a = 0 → ab_Run X 285 44 (1, 0, 0) L st σ Q) ∧ (¬ (a = 0) → ab_Run X 285 41 (1, 0, 0) L st σ Q) := ab_r_if_eq rfl kc_X13_led dX13_led_38
theorem rX13_led_41 : ab_Run X 285 41 (1, 0, 0) L st σ Q ↔ ab_Run X 285 54 (1, 0, 0) L st σ Q := ab_r_goto rfl kc_X13_led dX13_led_41
theorem rX13_led_44 : ab_Run X 285 44 (1, 0, 0) [l0, l1, ab_I z, l3] st σ Q ↔ ab_Run X 285 45 (1, 0, 0) [l0, l1, ab_I z, l3] (ab_I z :: st) σ Q := ab_r_iload_n rfl kc_X13_led dX13_led_44
theorem rX13_led_45 : ab_Run X 285 45 (1, 0, 0) [l0, ab_I z, l2, l3] st σ Q ↔ ab_Run X 285 46 (1, 0, 0) [l0, ab_I z, l2, l3] (ab_I z :: st) σ Q := ab_r_iload_n rfl kc_X13_led dX13_led_45
theorem rX13_led_46 : ab_Run X 285 46 (1, 0, 0) L (ab_I b :: ab_I a :: st) σ Q ↔ (¬ a = b → ab_Run X 285 51 (1, 0, 0) L st σ Q) ∧ (¬ (¬ a = b) → ab_Run X 285 49 (1, 0, 0) L st σ Q) := ab_r_icmp_ne rfl kc_X13_led dX13_led_46
theorem rX13_led_49 : ab_Run X 285 49 (1, 0, 0) [l0, l1, l2, ab_I z] st σ Q ↔ ab_Run X 285 50 (1, 0, 0) [l0, l1, l2, ab_I z] (ab_I z :: st) σ Q := ab_r_iload_n rfl kc_X13_led dX13_led_49
theorem rX13_led_50 : ab_Run X 285 50 (1, 0, 0) L [ab_I v] σ Q ↔ Q (some (ab_I v)) σ := ab_r_ireturnI rfl kc_X13_led dX13_led_50
theorem rX13_led_51 : ab_Run X 285 51 (1, 0, 0) [l0, l1, ab_I z, l3] st σ Q ↔ (!ab_isJ l1) = true ∧ ab_Run X 285 54 (1, 0, 0) [l0, l1, ab_I (ab_w32 (z + 1)), l3] st σ Q := ab_r_iinc rfl (by decide) kc_X13_led dX13_led_51
theorem rX13_led_54 : ab_Run X 285 54 (1, 0, 0) [l0, l1, l2, ab_I z] st σ Q ↔ (!ab_isJ l2) = true ∧ ab_Run X 285 57 (1, 0, 0) [l0, l1, l2, ab_I (ab_w32 (z + 1))] st σ Q := ab_r_iinc rfl (by decide) kc_X13_led dX13_led_54
theorem rX13_led_57 : ab_Run X 285 57 (1, 0, 0) L st σ Q ↔ ab_Run X 285 9 (1, 0, 0) L st σ Q := ab_r_goto rfl kc_X13_led dX13_led_57
theorem rX13_led_60 : ab_Run X 285 60 (1, 0, 0) [ab_R z, l1, l2, l3] st σ Q ↔ z ≠ 0 ∧ ab_Run X 285 61 (1, 0, 0) [ab_R z, l1, l2, l3] (ab_R z :: st) σ Q := ab_r_aload_n rfl kc_X13_led dX13_led_60
theorem rX13_led_61 : ab_Run X 285 61 (1, 0, 0) L st σ Q ↔ ab_Run X 285 62 (1, 0, 0) L (ab_I 1 :: st) σ Q := ab_r_iconst (by decide) kc_X13_led dX13_led_61
theorem rX13_led_62 : ab_Run X 285 62 (1, 0, 0) L (ab_I z :: ab_R a :: st) σ Q ↔ (ab_sh σ a).1 = 14 ∧ ab_Run X 285 65 (1, 0, 0) L st (ab_wr σ a 0 z) Q := sF_13_53 ko_X13_led kc_X13_led dX13_led_62
theorem rX13_led_65 : ab_Run X 285 65 (1, 0, 0) L st σ Q ↔ ab_Run X 285 66 (1, 0, 0) L (ab_I 0 :: st) σ Q := ab_r_iconst (by decide) kc_X13_led dX13_led_65
theorem rX13_led_66 : ab_Run X 285 66 (1, 0, 0) L [ab_I v] σ Q ↔ Q (some (ab_I v)) σ := ab_r_ireturnI rfl kc_X13_led dX13_led_66
theorem kc_X13_size : ab_code 286 = cX13_size := rfl
theorem ko_X13_size : ab_ow 286 = 13 := rfl
theorem rX13_size_0 : ab_Run X 286 0 (1, 0, 0) [ab_R z, l1] st σ Q ↔ z ≠ 0 ∧ ab_Run X 286 1 (1, 0, 0) [ab_R z, l1] (ab_R z :: st) σ Q := ab_r_aload_n rfl kc_X13_size dX13_size_0
theorem rX13_size_1 : ab_Run X 286 1 (1, 0, 0) L st σ Q ↔ ab_Run X 286 2 (1, 0, 0) L (ab_I 0 :: st) σ Q := ab_r_iconst (by decide) kc_X13_size dX13_size_1
theorem rX13_size_2 : ab_Run X 286 2 (1, 0, 0) L (ab_I z :: ab_R a :: st) σ Q ↔ (ab_sh σ a).1 = 14 ∧ ab_Run X 286 5 (1, 0, 0) L st (ab_wr σ a 0 z) Q := sF_13_53 ko_X13_size kc_X13_size dX13_size_2
theorem rX13_size_5 : ab_Run X 286 5 (1, 0, 0) [l0, ab_I z] st σ Q ↔ ab_Run X 286 6 (1, 0, 0) [l0, ab_I z] (ab_I z :: st) σ Q := ab_r_iload_n rfl kc_X13_size dX13_size_5
theorem rX13_size_6 : ab_Run X 286 6 (1, 0, 0) L st σ Q ↔ ab_Run X 286 8 (1, 0, 0) L (ab_I 13 :: st) σ Q := ab_r_bipush (by decide) kc_X13_size dX13_size_6
theorem rX13_size_8 : ab_Run X 286 8 (1, 0, 0) L (ab_I b :: ab_I a :: st) σ Q ↔ (¬ a = b → ab_Run X 286 16 (1, 0, 0) L st σ Q) ∧ (¬ (¬ a = b) → ab_Run X 286 11 (1, 0, 0) L st σ Q) := ab_r_icmp_ne rfl kc_X13_size dX13_size_8
theorem rX13_size_11 : ab_Run X 286 11 (1, 0, 0) [ab_R z, l1] st σ Q ↔ z ≠ 0 ∧ ab_Run X 286 12 (1, 0, 0) [ab_R z, l1] (ab_R z :: st) σ Q := ab_r_aload_n rfl kc_X13_size dX13_size_11
theorem rX13_size_12 : ab_Run X 286 12 (1, 0, 0) L (ab_R a :: st) σ Q ↔ (ab_sh σ a).1 = 14 ∧ ab_Run X 286 15 (1, 0, 0) L (ab_I (ab_rd σ a 6) :: st) σ Q := gF_13_366 ko_X13_size kc_X13_size dX13_size_12
theorem rX13_size_15 : ab_Run X 286 15 (1, 0, 0) L [ab_I v] σ Q ↔ Q (some (ab_I v)) σ := ab_r_ireturnI rfl kc_X13_size dX13_size_15
theorem rX13_size_16 : ab_Run X 286 16 (1, 0, 0) [l0, ab_I z] st σ Q ↔ ab_Run X 286 17 (1, 0, 0) [l0, ab_I z] (ab_I z :: st) σ Q := ab_r_iload_n rfl kc_X13_size dX13_size_16
theorem rX13_size_17 : ab_Run X 286 17 (1, 0, 0) L st σ Q ↔ ab_Run X 286 18 (1, 0, 0) L (ab_I 0 :: st) σ Q := ab_r_iconst (by decide) kc_X13_size dX13_size_17
theorem rX13_size_18 : ab_Run X 286 18 (1, 0, 0) L st σ Q ↔ ab_Run X 286 20 (1, 0, 0) L (ab_I 12 :: st) σ Q := ab_r_bipush (by decide) kc_X13_size dX13_size_18
theorem rX13_size_20 : ab_Run X 286 20 (1, 0, 0) L (ab_I x3 :: ab_I x2 :: ab_I x1 :: st) σ Q ↔ ab_cats st ≤ 8 ∧ ab_Do X 163 [ab_I x1, ab_I x2, ab_I x3] σ (fun r σ' => ab_Run X 286 23 (1, 0, 0) L (ab_psh r st) σ' Q) := ab_r_callS (w := [ab_I x3, ab_I x2, ab_I x1]) (as := [ab_I x1, ab_I x2, ab_I x3]) (b1 := (0, 0, 0)) (by decide) ko_X13_size qM_13_138 (by decide) rfl rfl rfl rfl (by decide) (Nat.le_of_ble_eq_true rfl) kc_X13_size dX13_size_20
theorem rX13_size_23 : ab_Run X 286 23 (1, 0, 0) L (ab_I a :: st) σ Q ↔ (¬ a = 0 → ab_Run X 286 28 (1, 0, 0) L st σ Q) ∧ (¬ (¬ a = 0) → ab_Run X 286 26 (1, 0, 0) L st σ Q) := ab_r_if_ne rfl kc_X13_size dX13_size_23
theorem rX13_size_26 : ab_Run X 286 26 (1, 0, 0) L st σ Q ↔ ab_Run X 286 27 (1, 0, 0) L (ab_I (-1) :: st) σ Q := ab_r_iconst (by decide) kc_X13_size dX13_size_26
theorem rX13_size_27 : ab_Run X 286 27 (1, 0, 0) L [ab_I v] σ Q ↔ Q (some (ab_I v)) σ := ab_r_ireturnI rfl kc_X13_size dX13_size_27
theorem rX13_size_28 : ab_Run X 286 28 (1, 0, 0) [ab_R z, l1] st σ Q ↔ z ≠ 0 ∧ ab_Run X 286 29 (1, 0, 0) [ab_R z, l1] (ab_R z :: st) σ Q := ab_r_aload_n rfl kc_X13_size dX13_size_28
theorem rX13_size_29 : ab_Run X 286 29 (1, 0, 0) L (ab_R a :: st) σ Q ↔ (ab_sh σ a).1 = 14 ∧ ab_Run X 286 32 (1, 0, 0) L (ab_R (ab_rd σ a 3) :: st) σ Q := gF_13_373 ko_X13_size kc_X13_size dX13_size_29
theorem rX13_size_32 : ab_Run X 286 32 (1, 0, 0) L (ab_R a :: st) σ Q ↔ (¬ a = 0 → ab_Run X 286 37 (1, 0, 0) L st σ Q) ∧ (¬ (¬ a = 0) → ab_Run X 286 35 (1, 0, 0) L st σ Q) := ab_r_ifnonnull rfl kc_X13_size dX13_size_32
theorem rX13_size_35 : ab_Run X 286 35 (1, 0, 0) L st σ Q ↔ ab_Run X 286 36 (1, 0, 0) L (ab_I 0 :: st) σ Q := ab_r_iconst (by decide) kc_X13_size dX13_size_35
theorem rX13_size_36 : ab_Run X 286 36 (1, 0, 0) L [ab_I v] σ Q ↔ Q (some (ab_I v)) σ := ab_r_ireturnI rfl kc_X13_size dX13_size_36
theorem rX13_size_37 : ab_Run X 286 37 (1, 0, 0) [l0, ab_I z] st σ Q ↔ ab_Run X 286 38 (1, 0, 0) [l0, ab_I z] (ab_I z :: st) σ Q := ab_r_iload_n rfl kc_X13_size dX13_size_37
theorem rX13_size_38_0 : ab_Run X 286 38 (1, 0, 0) L (ab_I 0 :: st) σ Q ↔ ab_Run X 286 100 (1, 0, 0) L st σ Q := ab_r_tsw (by decide) rfl rfl kc_X13_size dX13_size_38
theorem rX13_size_38_1 : ab_Run X 286 38 (1, 0, 0) L (ab_I 1 :: st) σ Q ↔ ab_Run X 286 108 (1, 0, 0) L st σ Q := ab_r_tsw (by decide) rfl rfl kc_X13_size dX13_size_38
theorem rX13_size_38_2 : ab_Run X 286 38 (1, 0, 0) L (ab_I 2 :: st) σ Q ↔ ab_Run X 286 116 (1, 0, 0) L st σ Q := ab_r_tsw (by decide) rfl rfl kc_X13_size dX13_size_38
theorem rX13_size_38_3 : ab_Run X 286 38 (1, 0, 0) L (ab_I 3 :: st) σ Q ↔ ab_Run X 286 124 (1, 0, 0) L st σ Q := ab_r_tsw (by decide) rfl rfl kc_X13_size dX13_size_38
theorem rX13_size_38_4 : ab_Run X 286 38 (1, 0, 0) L (ab_I 4 :: st) σ Q ↔ ab_Run X 286 132 (1, 0, 0) L st σ Q := ab_r_tsw (by decide) rfl rfl kc_X13_size dX13_size_38
theorem rX13_size_38_5 : ab_Run X 286 38 (1, 0, 0) L (ab_I 5 :: st) σ Q ↔ ab_Run X 286 140 (1, 0, 0) L st σ Q := ab_r_tsw (by decide) rfl rfl kc_X13_size dX13_size_38
theorem rX13_size_38_6 : ab_Run X 286 38 (1, 0, 0) L (ab_I 6 :: st) σ Q ↔ ab_Run X 286 148 (1, 0, 0) L st σ Q := ab_r_tsw (by decide) rfl rfl kc_X13_size dX13_size_38
theorem rX13_size_38_7 : ab_Run X 286 38 (1, 0, 0) L (ab_I 7 :: st) σ Q ↔ ab_Run X 286 156 (1, 0, 0) L st σ Q := ab_r_tsw (by decide) rfl rfl kc_X13_size dX13_size_38
theorem rX13_size_38_8 : ab_Run X 286 38 (1, 0, 0) L (ab_I 8 :: st) σ Q ↔ ab_Run X 286 164 (1, 0, 0) L st σ Q := ab_r_tsw (by decide) rfl rfl kc_X13_size dX13_size_38
theorem rX13_size_38_9 : ab_Run X 286 38 (1, 0, 0) L (ab_I 9 :: st) σ Q ↔ ab_Run X 286 172 (1, 0, 0) L st σ Q := ab_r_tsw (by decide) rfl rfl kc_X13_size dX13_size_38
theorem rX13_size_38_10 : ab_Run X 286 38 (1, 0, 0) L (ab_I 10 :: st) σ Q ↔ ab_Run X 286 180 (1, 0, 0) L st σ Q := ab_r_tsw (by decide) rfl rfl kc_X13_size dX13_size_38
theorem rX13_size_38_11 : ab_Run X 286 38 (1, 0, 0) L (ab_I 11 :: st) σ Q ↔ ab_Run X 286 188 (1, 0, 0) L st σ Q := ab_r_tsw (by decide) rfl rfl kc_X13_size dX13_size_38
theorem rX13_size_38_d (h : a < 0 ∨ 11 < a) : ab_Run X 286 38 (1, 0, 0) L (ab_I a :: st) σ Q ↔ ab_Run X 286 193 (1, 0, 0) L st σ Q := ab_r_tswd h rfl kc_X13_size dX13_size_38
theorem rX13_size_100 : ab_Run X 286 100 (1, 0, 0) [ab_R z, l1] st σ Q ↔ z ≠ 0 ∧ ab_Run X 286 101 (1, 0, 0) [ab_R z, l1] (ab_R z :: st) σ Q := ab_r_aload_n rfl kc_X13_size dX13_size_100
theorem rX13_size_101 : ab_Run X 286 101 (1, 0, 0) L (ab_R a :: st) σ Q ↔ (ab_sh σ a).1 = 14 ∧ ab_Run X 286 104 (1, 0, 0) L (ab_R (ab_rd σ a 3) :: st) σ Q := gF_13_373 ko_X13_size kc_X13_size dX13_size_101
theorem rX13_size_104 : ab_Run X 286 104 (1, 0, 0) L (ab_R a :: st) σ Q ↔ (ab_sh σ a).1 = 13 ∧ ab_Run X 286 107 (1, 0, 0) L (ab_I (ab_rd σ a 0) :: st) σ Q := gF_13_250 ko_X13_size kc_X13_size dX13_size_104
theorem rX13_size_107 : ab_Run X 286 107 (1, 0, 0) L [ab_I v] σ Q ↔ Q (some (ab_I v)) σ := ab_r_ireturnI rfl kc_X13_size dX13_size_107
theorem rX13_size_108 : ab_Run X 286 108 (1, 0, 0) [ab_R z, l1] st σ Q ↔ z ≠ 0 ∧ ab_Run X 286 109 (1, 0, 0) [ab_R z, l1] (ab_R z :: st) σ Q := ab_r_aload_n rfl kc_X13_size dX13_size_108
theorem rX13_size_109 : ab_Run X 286 109 (1, 0, 0) L (ab_R a :: st) σ Q ↔ (ab_sh σ a).1 = 14 ∧ ab_Run X 286 112 (1, 0, 0) L (ab_R (ab_rd σ a 3) :: st) σ Q := gF_13_373 ko_X13_size kc_X13_size dX13_size_109
theorem rX13_size_112 : ab_Run X 286 112 (1, 0, 0) L (ab_R a :: st) σ Q ↔ (ab_sh σ a).1 = 13 ∧ ab_Run X 286 115 (1, 0, 0) L (ab_I (ab_rd σ a 1) :: st) σ Q := gF_13_252 ko_X13_size kc_X13_size dX13_size_112
theorem rX13_size_115 : ab_Run X 286 115 (1, 0, 0) L [ab_I v] σ Q ↔ Q (some (ab_I v)) σ := ab_r_ireturnI rfl kc_X13_size dX13_size_115
theorem rX13_size_116 : ab_Run X 286 116 (1, 0, 0) [ab_R z, l1] st σ Q ↔ z ≠ 0 ∧ ab_Run X 286 117 (1, 0, 0) [ab_R z, l1] (ab_R z :: st) σ Q := ab_r_aload_n rfl kc_X13_size dX13_size_116
theorem rX13_size_117 : ab_Run X 286 117 (1, 0, 0) L (ab_R a :: st) σ Q ↔ (ab_sh σ a).1 = 14 ∧ ab_Run X 286 120 (1, 0, 0) L (ab_R (ab_rd σ a 3) :: st) σ Q := gF_13_373 ko_X13_size kc_X13_size dX13_size_117
theorem rX13_size_120 : ab_Run X 286 120 (1, 0, 0) L (ab_R a :: st) σ Q ↔ (ab_sh σ a).1 = 13 ∧ ab_Run X 286 123 (1, 0, 0) L (ab_I (ab_rd σ a 2) :: st) σ Q := gF_13_254 ko_X13_size kc_X13_size dX13_size_120
theorem rX13_size_123 : ab_Run X 286 123 (1, 0, 0) L [ab_I v] σ Q ↔ Q (some (ab_I v)) σ := ab_r_ireturnI rfl kc_X13_size dX13_size_123
theorem rX13_size_124 : ab_Run X 286 124 (1, 0, 0) [ab_R z, l1] st σ Q ↔ z ≠ 0 ∧ ab_Run X 286 125 (1, 0, 0) [ab_R z, l1] (ab_R z :: st) σ Q := ab_r_aload_n rfl kc_X13_size dX13_size_124
theorem rX13_size_125 : ab_Run X 286 125 (1, 0, 0) L (ab_R a :: st) σ Q ↔ (ab_sh σ a).1 = 14 ∧ ab_Run X 286 128 (1, 0, 0) L (ab_R (ab_rd σ a 3) :: st) σ Q := gF_13_373 ko_X13_size kc_X13_size dX13_size_125
theorem rX13_size_128 : ab_Run X 286 128 (1, 0, 0) L (ab_R a :: st) σ Q ↔ (ab_sh σ a).1 = 13 ∧ ab_Run X 286 131 (1, 0, 0) L (ab_I (ab_rd σ a 3) :: st) σ Q := gF_13_256 ko_X13_size kc_X13_size dX13_size_128
theorem rX13_size_131 : ab_Run X 286 131 (1, 0, 0) L [ab_I v] σ Q ↔ Q (some (ab_I v)) σ := ab_r_ireturnI rfl kc_X13_size dX13_size_131
theorem rX13_size_132 : ab_Run X 286 132 (1, 0, 0) [ab_R z, l1] st σ Q ↔ z ≠ 0 ∧ ab_Run X 286 133 (1, 0, 0) [ab_R z, l1] (ab_R z :: st) σ Q := ab_r_aload_n rfl kc_X13_size dX13_size_132
theorem rX13_size_133 : ab_Run X 286 133 (1, 0, 0) L (ab_R a :: st) σ Q ↔ (ab_sh σ a).1 = 14 ∧ ab_Run X 286 136 (1, 0, 0) L (ab_R (ab_rd σ a 3) :: st) σ Q := gF_13_373 ko_X13_size kc_X13_size dX13_size_133
theorem rX13_size_136 : ab_Run X 286 136 (1, 0, 0) L (ab_R a :: st) σ Q ↔ (ab_sh σ a).1 = 13 ∧ ab_Run X 286 139 (1, 0, 0) L (ab_I (ab_rd σ a 4) :: st) σ Q := gF_13_258 ko_X13_size kc_X13_size dX13_size_136
theorem rX13_size_139 : ab_Run X 286 139 (1, 0, 0) L [ab_I v] σ Q ↔ Q (some (ab_I v)) σ := ab_r_ireturnI rfl kc_X13_size dX13_size_139
theorem rX13_size_140 : ab_Run X 286 140 (1, 0, 0) [ab_R z, l1] st σ Q ↔ z ≠ 0 ∧ ab_Run X 286 141 (1, 0, 0) [ab_R z, l1] (ab_R z :: st) σ Q := ab_r_aload_n rfl kc_X13_size dX13_size_140
theorem rX13_size_141 : ab_Run X 286 141 (1, 0, 0) L (ab_R a :: st) σ Q ↔ (ab_sh σ a).1 = 14 ∧ ab_Run X 286 144 (1, 0, 0) L (ab_R (ab_rd σ a 3) :: st) σ Q := gF_13_373 ko_X13_size kc_X13_size dX13_size_141
theorem rX13_size_144 : ab_Run X 286 144 (1, 0, 0) L (ab_R a :: st) σ Q ↔ (ab_sh σ a).1 = 13 ∧ ab_Run X 286 147 (1, 0, 0) L (ab_I (ab_rd σ a 5) :: st) σ Q := gF_13_210 ko_X13_size kc_X13_size dX13_size_144
theorem rX13_size_147 : ab_Run X 286 147 (1, 0, 0) L [ab_I v] σ Q ↔ Q (some (ab_I v)) σ := ab_r_ireturnI rfl kc_X13_size dX13_size_147
theorem rX13_size_148 : ab_Run X 286 148 (1, 0, 0) [ab_R z, l1] st σ Q ↔ z ≠ 0 ∧ ab_Run X 286 149 (1, 0, 0) [ab_R z, l1] (ab_R z :: st) σ Q := ab_r_aload_n rfl kc_X13_size dX13_size_148
theorem rX13_size_149 : ab_Run X 286 149 (1, 0, 0) L (ab_R a :: st) σ Q ↔ (ab_sh σ a).1 = 14 ∧ ab_Run X 286 152 (1, 0, 0) L (ab_R (ab_rd σ a 3) :: st) σ Q := gF_13_373 ko_X13_size kc_X13_size dX13_size_149
theorem rX13_size_152 : ab_Run X 286 152 (1, 0, 0) L (ab_R a :: st) σ Q ↔ (ab_sh σ a).1 = 13 ∧ ab_Run X 286 155 (1, 0, 0) L (ab_I (ab_rd σ a 6) :: st) σ Q := gF_13_213 ko_X13_size kc_X13_size dX13_size_152
theorem rX13_size_155 : ab_Run X 286 155 (1, 0, 0) L [ab_I v] σ Q ↔ Q (some (ab_I v)) σ := ab_r_ireturnI rfl kc_X13_size dX13_size_155
theorem rX13_size_156 : ab_Run X 286 156 (1, 0, 0) [ab_R z, l1] st σ Q ↔ z ≠ 0 ∧ ab_Run X 286 157 (1, 0, 0) [ab_R z, l1] (ab_R z :: st) σ Q := ab_r_aload_n rfl kc_X13_size dX13_size_156
theorem rX13_size_157 : ab_Run X 286 157 (1, 0, 0) L (ab_R a :: st) σ Q ↔ (ab_sh σ a).1 = 14 ∧ ab_Run X 286 160 (1, 0, 0) L (ab_R (ab_rd σ a 3) :: st) σ Q := gF_13_373 ko_X13_size kc_X13_size dX13_size_157
theorem rX13_size_160 : ab_Run X 286 160 (1, 0, 0) L (ab_R a :: st) σ Q ↔ (ab_sh σ a).1 = 13 ∧ ab_Run X 286 163 (1, 0, 0) L (ab_I (ab_rd σ a 7) :: st) σ Q := gF_13_318 ko_X13_size kc_X13_size dX13_size_160
theorem rX13_size_163 : ab_Run X 286 163 (1, 0, 0) L [ab_I v] σ Q ↔ Q (some (ab_I v)) σ := ab_r_ireturnI rfl kc_X13_size dX13_size_163
theorem rX13_size_164 : ab_Run X 286 164 (1, 0, 0) [ab_R z, l1] st σ Q ↔ z ≠ 0 ∧ ab_Run X 286 165 (1, 0, 0) [ab_R z, l1] (ab_R z :: st) σ Q := ab_r_aload_n rfl kc_X13_size dX13_size_164
theorem rX13_size_165 : ab_Run X 286 165 (1, 0, 0) L (ab_R a :: st) σ Q ↔ (ab_sh σ a).1 = 14 ∧ ab_Run X 286 168 (1, 0, 0) L (ab_R (ab_rd σ a 3) :: st) σ Q := gF_13_373 ko_X13_size kc_X13_size dX13_size_165
theorem rX13_size_168 : ab_Run X 286 168 (1, 0, 0) L (ab_R a :: st) σ Q ↔ (ab_sh σ a).1 = 13 ∧ ab_Run X 286 171 (1, 0, 0) L (ab_I (ab_rd σ a 8) :: st) σ Q := gF_13_334 ko_X13_size kc_X13_size dX13_size_168
theorem rX13_size_171 : ab_Run X 286 171 (1, 0, 0) L [ab_I v] σ Q ↔ Q (some (ab_I v)) σ := ab_r_ireturnI rfl kc_X13_size dX13_size_171
theorem rX13_size_172 : ab_Run X 286 172 (1, 0, 0) [ab_R z, l1] st σ Q ↔ z ≠ 0 ∧ ab_Run X 286 173 (1, 0, 0) [ab_R z, l1] (ab_R z :: st) σ Q := ab_r_aload_n rfl kc_X13_size dX13_size_172
theorem rX13_size_173 : ab_Run X 286 173 (1, 0, 0) L (ab_R a :: st) σ Q ↔ (ab_sh σ a).1 = 14 ∧ ab_Run X 286 176 (1, 0, 0) L (ab_R (ab_rd σ a 3) :: st) σ Q := gF_13_373 ko_X13_size kc_X13_size dX13_size_173
theorem rX13_size_176 : ab_Run X 286 176 (1, 0, 0) L (ab_R a :: st) σ Q ↔ (ab_sh σ a).1 = 13 ∧ ab_Run X 286 179 (1, 0, 0) L (ab_I (ab_rd σ a 9) :: st) σ Q := gF_13_349 ko_X13_size kc_X13_size dX13_size_176
theorem rX13_size_179 : ab_Run X 286 179 (1, 0, 0) L [ab_I v] σ Q ↔ Q (some (ab_I v)) σ := ab_r_ireturnI rfl kc_X13_size dX13_size_179
theorem rX13_size_180 : ab_Run X 286 180 (1, 0, 0) [ab_R z, l1] st σ Q ↔ z ≠ 0 ∧ ab_Run X 286 181 (1, 0, 0) [ab_R z, l1] (ab_R z :: st) σ Q := ab_r_aload_n rfl kc_X13_size dX13_size_180
theorem rX13_size_181 : ab_Run X 286 181 (1, 0, 0) L (ab_R a :: st) σ Q ↔ (ab_sh σ a).1 = 14 ∧ ab_Run X 286 184 (1, 0, 0) L (ab_R (ab_rd σ a 16) :: st) σ Q := gF_13_17 ko_X13_size kc_X13_size dX13_size_181
theorem rX13_size_184 : ab_Run X 286 184 (1, 0, 0) L st σ Q ↔ ab_Run X 286 186 (1, 0, 0) L (ab_I 17 :: st) σ Q := ab_r_bipush (by decide) kc_X13_size dX13_size_184
theorem rX13_size_186 : ab_Run X 286 186 (1, 0, 0) L (ab_I i :: ab_R a :: st) σ Q ↔ ((ab_sh σ a).1 = 21 ∧ 0 ≤ i ∧ i < (ab_sh σ a).2) ∧ ab_Run X 286 187 (1, 0, 0) L (ab_I (ab_rd σ a i) :: st) σ Q := ab_r_iaload (by decide) kc_X13_size dX13_size_186
theorem rX13_size_187 : ab_Run X 286 187 (1, 0, 0) L [ab_I v] σ Q ↔ Q (some (ab_I v)) σ := ab_r_ireturnI rfl kc_X13_size dX13_size_187
theorem rX13_size_188 : ab_Run X 286 188 (1, 0, 0) [ab_R z, l1] st σ Q ↔ z ≠ 0 ∧ ab_Run X 286 189 (1, 0, 0) [ab_R z, l1] (ab_R z :: st) σ Q := ab_r_aload_n rfl kc_X13_size dX13_size_188
theorem rX13_size_189 : ab_Run X 286 189 (1, 0, 0) L (ab_R a :: st) σ Q ↔ (ab_sh σ a).1 = 14 ∧ ab_Run X 286 192 (1, 0, 0) L (ab_I (ab_rd σ a 19) :: st) σ Q := gF_13_375 ko_X13_size kc_X13_size dX13_size_189
theorem rX13_size_192 : ab_Run X 286 192 (1, 0, 0) L [ab_I v] σ Q ↔ Q (some (ab_I v)) σ := ab_r_ireturnI rfl kc_X13_size dX13_size_192
theorem rX13_size_193 : ab_Run X 286 193 (1, 0, 0) [ab_R z, l1] st σ Q ↔ z ≠ 0 ∧ ab_Run X 286 194 (1, 0, 0) [ab_R z, l1] (ab_R z :: st) σ Q := ab_r_aload_n rfl kc_X13_size dX13_size_193
theorem rX13_size_194 : ab_Run X 286 194 (1, 0, 0) L (ab_R a :: st) σ Q ↔ (ab_sh σ a).1 = 14 ∧ ab_Run X 286 197 (1, 0, 0) L (ab_I (ab_rd σ a 20) :: st) σ Q := gF_13_378 ko_X13_size kc_X13_size dX13_size_194
theorem rX13_size_197 : ab_Run X 286 197 (1, 0, 0) L [ab_I v] σ Q ↔ Q (some (ab_I v)) σ := ab_r_ireturnI rfl kc_X13_size dX13_size_197
theorem kc_X13_trouble : ab_code 287 = cX13_trouble := rfl
theorem ko_X13_trouble : ab_ow 287 = 13 := rfl
theorem rX13_trouble_0 : ab_Run X 287 0 (0, 0, 0) [ab_R z] st σ Q ↔ z ≠ 0 ∧ ab_Run X 287 1 (0, 0, 0) [ab_R z] (ab_R z :: st) σ Q := ab_r_aload_n rfl kc_X13_trouble dX13_trouble_0
theorem rX13_trouble_1 : ab_Run X 287 1 (0, 0, 0) L st σ Q ↔ ab_Run X 287 2 (0, 0, 0) L (ab_I 0 :: st) σ Q := ab_r_iconst (by decide) kc_X13_trouble dX13_trouble_1
theorem rX13_trouble_2 : ab_Run X 287 2 (0, 0, 0) L (ab_I z :: ab_R a :: st) σ Q ↔ (ab_sh σ a).1 = 14 ∧ ab_Run X 287 5 (0, 0, 0) L st (ab_wr σ a 0 z) Q := sF_13_53 ko_X13_trouble kc_X13_trouble dX13_trouble_2
theorem rX13_trouble_5 : ab_Run X 287 5 (0, 0, 0) [ab_R z] st σ Q ↔ z ≠ 0 ∧ ab_Run X 287 6 (0, 0, 0) [ab_R z] (ab_R z :: st) σ Q := ab_r_aload_n rfl kc_X13_trouble dX13_trouble_5
theorem rX13_trouble_6 : ab_Run X 287 6 (0, 0, 0) L (ab_R a :: st) σ Q ↔ (ab_sh σ a).1 = 14 ∧ ab_Run X 287 9 (0, 0, 0) L (ab_I (ab_rd σ a 1) :: st) σ Q := gF_13_56 ko_X13_trouble kc_X13_trouble dX13_trouble_6
theorem rX13_trouble_9 : ab_Run X 287 9 (0, 0, 0) L [ab_I v] σ Q ↔ Q (some (ab_I v)) σ := ab_r_ireturnI rfl kc_X13_trouble dX13_trouble_9
end
