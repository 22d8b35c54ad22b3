theorem dX11_dry_0 : decode cX11_dry 0 = .ok (.aload_n 0, 1) := by decide +kernel
theorem dX11_dry_1 : decode cX11_dry 1 = .ok (.aload_n 0, 1) := by decide +kernel
theorem dX11_dry_2 : decode cX11_dry 2 = .ok (.invokevirtual 284, 3) := by decide +kernel
theorem dX11_dry_5 : decode cX11_dry 5 = .ok (.ifCond .ne 7, 3) := by decide +kernel
theorem dX11_dry_8 : decode cX11_dry 8 = .ok (.iconst 1, 1) := by decide +kernel
theorem dX11_dry_9 : decode cX11_dry 9 = .ok (.goto 19, 3) := by decide +kernel
theorem dX11_dry_12 : decode cX11_dry 12 = .ok (.iload_n 1, 1) := by decide +kernel
theorem dX11_dry_13 : decode cX11_dry 13 = .ok (.iconst 1, 1) := by decide +kernel
theorem dX11_dry_14 : decode cX11_dry 14 = .ok (.if_icmp .lt 9, 3) := by decide +kernel
theorem dX11_dry_17 : decode cX11_dry 17 = .ok (.iload_n 1, 1) := by decide +kernel
theorem dX11_dry_18 : decode cX11_dry 18 = .ok (.bipush 24, 2) := by decide +kernel
theorem dX11_dry_20 : decode cX11_dry 20 = .ok (.if_icmp .le 7, 3) := by decide +kernel
theorem dX11_dry_23 : decode cX11_dry 23 = .ok (.iconst 2, 1) := by decide +kernel
theorem dX11_dry_24 : decode cX11_dry 24 = .ok (.goto 4, 3) := by decide +kernel
theorem dX11_dry_27 : decode cX11_dry 27 = .ok (.iconst 0, 1) := by decide +kernel
theorem dX11_dry_28 : decode cX11_dry 28 = .ok (.putfield 62, 3) := by decide +kernel
theorem dX11_dry_31 : decode cX11_dry 31 = .ok (.aload_n 0, 1) := by decide +kernel
theorem dX11_dry_32 : decode cX11_dry 32 = .ok (.getfield 62, 3) := by decide +kernel
theorem dX11_dry_35 : decode cX11_dry 35 = .ok (.ifCond .eq 5, 3) := by decide +kernel
theorem dX11_dry_38 : decode cX11_dry 38 = .ok (.iconst 0, 1) := by decide +kernel
theorem dX11_dry_39 : decode cX11_dry 39 = .ok (.ireturn, 1) := by decide +kernel
theorem dX11_dry_40 : decode cX11_dry 40 = .ok (.aload_n 0, 1) := by decide +kernel
theorem dX11_dry_41 : decode cX11_dry 41 = .ok (.getfield 26, 3) := by decide +kernel
theorem dX11_dry_44 : decode cX11_dry 44 = .ok (.aload_n 0, 1) := by decide +kernel
theorem dX11_dry_45 : decode cX11_dry 45 = .ok (.getfield 19, 3) := by decide +kernel
theorem dX11_dry_48 : decode cX11_dry 48 = .ok (.invokevirtual 336, 3) := by decide +kernel
theorem dX11_dry_51 : decode cX11_dry 51 = .ok (.iconst 0, 1) := by decide +kernel
theorem dX11_dry_52 : decode cX11_dry 52 = .ok (.istore_n 2, 1) := by decide +kernel
theorem dX11_dry_53 : decode cX11_dry 53 = .ok (.iload_n 2, 1) := by decide +kernel
theorem dX11_dry_54 : decode cX11_dry 54 = .ok (.aload_n 0, 1) := by decide +kernel
theorem dX11_dry_55 : decode cX11_dry 55 = .ok (.getfield 58, 3) := by decide +kernel
theorem dX11_dry_58 : decode cX11_dry 58 = .ok (.getfield 100, 3) := by decide +kernel
theorem dX11_dry_61 : decode cX11_dry 61 = .ok (.if_icmp .ge 46, 3) := by decide +kernel
theorem dX11_dry_64 : decode cX11_dry 64 = .ok (.aload_n 0, 1) := by decide +kernel
theorem dX11_dry_65 : decode cX11_dry 65 = .ok (.getfield 19, 3) := by decide +kernel
theorem dX11_dry_68 : decode cX11_dry 68 = .ok (.getfield 127, 3) := by decide +kernel
theorem dX11_dry_71 : decode cX11_dry 71 = .ok (.iload_n 2, 1) := by decide +kernel
theorem dX11_dry_72 : decode cX11_dry 72 = .ok (.baload, 1) := by decide +kernel
theorem dX11_dry_73 : decode cX11_dry 73 = .ok (.ifCond .ne 28, 3) := by decide +kernel
theorem dX11_dry_76 : decode cX11_dry 76 = .ok (.aload_n 0, 1) := by decide +kernel
theorem dX11_dry_77 : decode cX11_dry 77 = .ok (.getfield 19, 3) := by decide +kernel
theorem dX11_dry_80 : decode cX11_dry 80 = .ok (.getfield 115, 3) := by decide +kernel
theorem dX11_dry_83 : decode cX11_dry 83 = .ok (.iload_n 2, 1) := by decide +kernel
theorem dX11_dry_84 : decode cX11_dry 84 = .ok (.bipush 24, 2) := by decide +kernel
theorem dX11_dry_86 : decode cX11_dry 86 = .ok (.aload_n 0, 1) := by decide +kernel
theorem dX11_dry_87 : decode cX11_dry 87 = .ok (.getfield 19, 3) := by decide +kernel
theorem dX11_dry_90 : decode cX11_dry 90 = .ok (.getfield 115, 3) := by decide +kernel
theorem dX11_dry_93 : decode cX11_dry 93 = .ok (.iload_n 2, 1) := by decide +kernel
theorem dX11_dry_94 : decode cX11_dry 94 = .ok (.iaload, 1) := by decide +kernel
theorem dX11_dry_95 : decode cX11_dry 95 = .ok (.iload_n 1, 1) := by decide +kernel
theorem dX11_dry_96 : decode cX11_dry 96 = .ok (.iadd, 1) := by decide +kernel
theorem dX11_dry_97 : decode cX11_dry 97 = .ok (.invokestatic 313, 3) := by decide +kernel
theorem dX11_dry_100 : decode cX11_dry 100 = .ok (.iastore, 1) := by decide +kernel
theorem dX11_dry_101 : decode cX11_dry 101 = .ok (.iinc 2 1, 3) := by decide +kernel
theorem dX11_dry_104 : decode cX11_dry 104 = .ok (.goto (-51), 3) := by decide +kernel
theorem dX11_dry_107 : decode cX11_dry 107 = .ok (.iconst 1, 1) := by decide +kernel
theorem dX11_dry_108 : decode cX11_dry 108 = .ok (.ireturn, 1) := by decide +kernel
theorem dX11_boil_0 : decode cX11_boil 0 = .ok (.aload_n 0, 1) := by decide +kernel
theorem dX11_boil_1 : decode cX11_boil 1 = .ok (.aload_n 0, 1) := by decide +kernel
theorem dX11_boil_2 : decode cX11_boil 2 = .ok (.iload_n 1, 1) := by decide +kernel
theorem dX11_boil_3 : decode cX11_boil 3 = .ok (.invokevirtual 109, 3) := by decide +kernel
theorem dX11_boil_6 : decode cX11_boil 6 = .ok (.ifCond .ne 7, 3) := by decide +kernel
theorem dX11_boil_9 : decode cX11_boil 9 = .ok (.iconst 1, 1) := by decide +kernel
theorem dX11_boil_10 : decode cX11_boil 10 = .ok (.goto 33, 3) := by decide +kernel
theorem dX11_boil_13 : decode cX11_boil 13 = .ok (.aload_n 0, 1) := by decide +kernel
theorem dX11_boil_14 : decode cX11_boil 14 = .ok (.getfield 19, 3) := by decide +kernel
theorem dX11_boil_17 : decode cX11_boil 17 = .ok (.getfield 127, 3) := by decide +kernel
theorem dX11_boil_20 : decode cX11_boil 20 = .ok (.iload_n 1, 1) := by decide +kernel
theorem dX11_boil_21 : decode cX11_boil 21 = .ok (.baload, 1) := by decide +kernel
theorem dX11_boil_22 : decode cX11_boil 22 = .ok (.ifCond .ne 16, 3) := by decide +kernel
theorem dX11_boil_25 : decode cX11_boil 25 = .ok (.aload_n 0, 1) := by decide +kernel
theorem dX11_boil_26 : decode cX11_boil 26 = .ok (.getfield 19, 3) := by decide +kernel
theorem dX11_boil_29 : decode cX11_boil 29 = .ok (.getfield 112, 3) := by decide +kernel
theorem dX11_boil_32 : decode cX11_boil 32 = .ok (.iload_n 1, 1) := by decide +kernel
theorem dX11_boil_33 : decode cX11_boil 33 = .ok (.iaload, 1) := by decide +kernel
theorem dX11_boil_34 : decode cX11_boil 34 = .ok (.iconst 2, 1) := by decide +kernel
theorem dX11_boil_35 : decode cX11_boil 35 = .ok (.if_icmp .ne 7, 3) := by decide +kernel
theorem dX11_boil_38 : decode cX11_boil 38 = .ok (.iconst 5, 1) := by decide +kernel
theorem dX11_boil_39 : decode cX11_boil 39 = .ok (.goto 4, 3) := by decide +kernel
theorem dX11_boil_42 : decode cX11_boil 42 = .ok (.iconst 0, 1) := by decide +kernel
theorem dX11_boil_43 : decode cX11_boil 43 = .ok (.putfield 62, 3) := by decide +kernel
theorem dX11_boil_46 : decode cX11_boil 46 = .ok (.aload_n 0, 1) := by decide +kernel
theorem dX11_boil_47 : decode cX11_boil 47 = .ok (.getfield 62, 3) := by decide +kernel
theorem dX11_boil_50 : decode cX11_boil 50 = .ok (.ifCond .eq 5, 3) := by decide +kernel
theorem dX11_boil_53 : decode cX11_boil 53 = .ok (.iconst 0, 1) := by decide +kernel
theorem dX11_boil_54 : decode cX11_boil 54 = .ok (.ireturn, 1) := by decide +kernel
theorem dX11_boil_55 : decode cX11_boil 55 = .ok (.aload_n 0, 1) := by decide +kernel
theorem dX11_boil_56 : decode cX11_boil 56 = .ok (.getfield 26, 3) := by decide +kernel
theorem dX11_boil_59 : decode cX11_boil 59 = .ok (.aload_n 0, 1) := by decide +kernel
theorem dX11_boil_60 : decode cX11_boil 60 = .ok (.getfield 19, 3) := by decide +kernel
theorem dX11_boil_63 : decode cX11_boil 63 = .ok (.invokevirtual 336, 3) := by decide +kernel
theorem dX11_boil_66 : decode cX11_boil 66 = .ok (.aload_n 0, 1) := by decide +kernel
theorem dX11_boil_67 : decode cX11_boil 67 = .ok (.getfield 19, 3) := by decide +kernel
theorem dX11_boil_70 : decode cX11_boil 70 = .ok (.getfield 112, 3) := by decide +kernel
theorem dX11_boil_73 : decode cX11_boil 73 = .ok (.iload_n 1, 1) := by decide +kernel
theorem dX11_boil_74 : decode cX11_boil 74 = .ok (.iconst 2, 1) := by decide +kernel
theorem dX11_boil_75 : decode cX11_boil 75 = .ok (.iastore, 1) := by decide +kernel
theorem dX11_boil_76 : decode cX11_boil 76 = .ok (.iconst 1, 1) := by decide +kernel
theorem dX11_boil_77 : decode cX11_boil 77 = .ok (.ireturn, 1) := by decide +kernel
theorem dX11_pull_0 : decode cX11_pull 0 = .ok (.aload_n 0, 1) := by decide +kernel
theorem dX11_pull_1 : decode cX11_pull 1 = .ok (.aload_n 0, 1) := by decide +kernel
theorem dX11_pull_2 : decode cX11_pull 2 = .ok (.iload_n 1, 1) := by decide +kernel
theorem dX11_pull_3 : decode cX11_pull 3 = .ok (.iload_n 2, 1) := by decide +kernel
theorem dX11_pull_4 : decode cX11_pull 4 = .ok (.iload_n 3, 1) := by decide +kernel
theorem dX11_pull_5 : decode cX11_pull 5 = .ok (.iload 4, 2) := by decide +kernel
theorem dX11_pull_7 : decode cX11_pull 7 = .ok (.iload 5, 2) := by decide +kernel
theorem dX11_pull_9 : decode cX11_pull 9 = .ok (.iload 6, 2) := by decide +kernel
theorem dX11_pull_11 : decode cX11_pull 11 = .ok (.invokevirtual 184, 3) := by decide +kernel
theorem dX11_pull_14 : decode cX11_pull 14 = .ok (.putfield 62, 3) := by decide +kernel
theorem dX11_pull_17 : decode cX11_pull 17 = .ok (.aload_n 0, 1) := by decide +kernel
theorem dX11_pull_18 : decode cX11_pull 18 = .ok (.getfield 62, 3) := by decide +kernel
theorem dX11_pull_21 : decode cX11_pull 21 = .ok (.ifCond .ne 36, 3) := by decide +kernel
theorem dX11_pull_24 : decode cX11_pull 24 = .ok (.aload_n 0, 1) := by decide +kernel
theorem dX11_pull_25 : decode cX11_pull 25 = .ok (.getfield 58, 3) := by decide +kernel
theorem dX11_pull_28 : decode cX11_pull 28 = .ok (.getfield 118, 3) := by decide +kernel
theorem dX11_pull_31 : decode cX11_pull 31 = .ok (.iload_n 1, 1) := by decide +kernel
theorem dX11_pull_32 : decode cX11_pull 32 = .ok (.aaload, 1) := by decide +kernel
theorem dX11_pull_33 : decode cX11_pull 33 = .ok (.getfield 340, 3) := by decide +kernel
theorem dX11_pull_36 : decode cX11_pull 36 = .ok (.iconst 1, 1) := by decide +kernel
theorem dX11_pull_37 : decode cX11_pull 37 = .ok (.if_icmp .eq 15, 3) := by decide +kernel
theorem dX11_pull_40 : decode cX11_pull 40 = .ok (.aload_n 0, 1) := by decide +kernel
theorem dX11_pull_41 : decode cX11_pull 41 = .ok (.getfield 19, 3) := by decide +kernel
theorem dX11_pull_44 : decode cX11_pull 44 = .ok (.getfield 127, 3) := by decide +kernel
theorem dX11_pull_47 : decode cX11_pull 47 = .ok (.iload_n 1, 1) := by decide +kernel
theorem dX11_pull_48 : decode cX11_pull 48 = .ok (.baload, 1) := by decide +kernel
theorem dX11_pull_49 : decode cX11_pull 49 = .ok (.ifCond .eq 8, 3) := by decide +kernel
theorem dX11_pull_52 : decode cX11_pull 52 = .ok (.aload_n 0, 1) := by decide +kernel
theorem dX11_pull_53 : decode cX11_pull 53 = .ok (.iconst 5, 1) := by decide +kernel
theorem dX11_pull_54 : decode cX11_pull 54 = .ok (.putfield 62, 3) := by decide +kernel
theorem dX11_pull_57 : decode cX11_pull 57 = .ok (.aload_n 0, 1) := by decide +kernel
theorem dX11_pull_58 : decode cX11_pull 58 = .ok (.getfield 62, 3) := by decide +kernel
theorem dX11_pull_61 : decode cX11_pull 61 = .ok (.ifCond .eq 5, 3) := by decide +kernel
theorem dX11_pull_64 : decode cX11_pull 64 = .ok (.iconst (-1), 1) := by decide +kernel
theorem dX11_pull_65 : decode cX11_pull 65 = .ok (.ireturn, 1) := by decide +kernel
theorem dX11_pull_66 : decode cX11_pull 66 = .ok (.aload_n 0, 1) := by decide +kernel
theorem dX11_pull_67 : decode cX11_pull 67 = .ok (.getfield 26, 3) := by decide +kernel
theorem dX11_pull_70 : decode cX11_pull 70 = .ok (.aload_n 0, 1) := by decide +kernel
theorem dX11_pull_71 : decode cX11_pull 71 = .ok (.getfield 19, 3) := by decide +kernel
theorem dX11_pull_74 : decode cX11_pull 74 = .ok (.invokevirtual 336, 3) := by decide +kernel
theorem dX11_pull_77 : decode cX11_pull 77 = .ok (.aload_n 0, 1) := by decide +kernel
theorem dX11_pull_78 : decode cX11_pull 78 = .ok (.iload_n 1, 1) := by decide +kernel
theorem dX11_pull_79 : decode cX11_pull 79 = .ok (.iload_n 2, 1) := by decide +kernel
theorem dX11_pull_80 : decode cX11_pull 80 = .ok (.iload_n 3, 1) := by decide +kernel
theorem dX11_pull_81 : decode cX11_pull 81 = .ok (.iload 4, 2) := by decide +kernel
theorem dX11_pull_83 : decode cX11_pull 83 = .ok (.iload 5, 2) := by decide +kernel
theorem dX11_pull_85 : decode cX11_pull 85 = .ok (.iload 6, 2) := by decide +kernel
theorem dX11_pull_87 : decode cX11_pull 87 = .ok (.invokevirtual 188, 3) := by decide +kernel
theorem dX11_pull_90 : decode cX11_pull 90 = .ok (.aload_n 0, 1) := by decide +kernel
theorem dX11_pull_91 : decode cX11_pull 91 = .ok (.getfield 33, 3) := by decide +kernel
theorem dX11_pull_94 : decode cX11_pull 94 = .ok (.aload_n 0, 1) := by decide +kernel
theorem dX11_pull_95 : decode cX11_pull 95 = .ok (.getfield 19, 3) := by decide +kernel
theorem dX11_pull_98 : decode cX11_pull 98 = .ok (.aload_n 0, 1) := by decide +kernel
theorem dX11_pull_99 : decode cX11_pull 99 = .ok (.getfield 58, 3) := by decide +kernel
theorem dX11_pull_102 : decode cX11_pull 102 = .ok (.getfield 341, 3) := by decide +kernel
theorem dX11_pull_105 : decode cX11_pull 105 = .ok (.aload_n 0, 1) := by decide +kernel
theorem dX11_pull_106 : decode cX11_pull 106 = .ok (.getfield 58, 3) := by decide +kernel
theorem dX11_pull_109 : decode cX11_pull 109 = .ok (.getfield 118, 3) := by decide +kernel
theorem dX11_pull_112 : decode cX11_pull 112 = .ok (.iload_n 1, 1) := by decide +kernel
theorem dX11_pull_113 : decode cX11_pull 113 = .ok (.aaload, 1) := by decide +kernel
theorem dX11_pull_114 : decode cX11_pull 114 = .ok (.invokevirtual 344, 3) := by decide +kernel
theorem dX11_pull_117 : decode cX11_pull 117 = .ok (.invokevirtual 347, 3) := by decide +kernel
theorem dX11_pull_120 : decode cX11_pull 120 = .ok (.invokevirtual 198, 3) := by decide +kernel
theorem dX11_pull_123 : decode cX11_pull 123 = .ok (.istore 7, 2) := by decide +kernel
theorem dX11_pull_125 : decode cX11_pull 125 = .ok (.aload_n 0, 1) := by decide +kernel
theorem dX11_pull_126 : decode cX11_pull 126 = .ok (.getfield 19, 3) := by decide +kernel
theorem dX11_pull_129 : decode cX11_pull 129 = .ok (.getfield 127, 3) := by decide +kernel
theorem dX11_pull_132 : decode cX11_pull 132 = .ok (.iload_n 1, 1) := by decide +kernel
theorem dX11_pull_133 : decode cX11_pull 133 = .ok (.iload 7, 2) := by decide +kernel
theorem dX11_pull_135 : decode cX11_pull 135 = .ok (.iconst 3, 1) := by decide +kernel
theorem dX11_pull_136 : decode cX11_pull 136 = .ok (.if_icmp .eq 7, 3) := by decide +kernel
theorem dX11_pull_139 : decode cX11_pull 139 = .ok (.iconst 1, 1) := by decide +kernel
theorem dX11_pull_140 : decode cX11_pull 140 = .ok (.goto 4, 3) := by decide +kernel
theorem dX11_pull_143 : decode cX11_pull 143 = .ok (.iconst 0, 1) := by decide +kernel
theorem dX11_pull_144 : decode cX11_pull 144 = .ok (.bastore, 1) := by decide +kernel
theorem dX11_pull_145 : decode cX11_pull 145 = .ok (.iload 7, 2) := by decide +kernel
theorem dX11_pull_147 : decode cX11_pull 147 = .ok (.ifCond .ne 19, 3) := by decide +kernel
theorem dX11_pull_150 : decode cX11_pull 150 = .ok (.aload_n 0, 1) := by decide +kernel
theorem dX11_pull_151 : decode cX11_pull 151 = .ok (.getfield 19, 3) := by decide +kernel
theorem dX11_pull_154 : decode cX11_pull 154 = .ok (.getfield 166, 3) := by decide +kernel
theorem dX11_pull_157 : decode cX11_pull 157 = .ok (.iload_n 2, 1) := by decide +kernel
theorem dX11_pull_158 : decode cX11_pull 158 = .ok (.dup2, 1) := by decide +kernel
theorem dX11_pull_159 : decode cX11_pull 159 = .ok (.iaload, 1) := by decide +kernel
theorem dX11_pull_160 : decode cX11_pull 160 = .ok (.iconst 1, 1) := by decide +kernel
theorem dX11_pull_161 : decode cX11_pull 161 = .ok (.iadd, 1) := by decide +kernel
theorem dX11_pull_162 : decode cX11_pull 162 = .ok (.iastore, 1) := by decide +kernel
theorem dX11_pull_163 : decode cX11_pull 163 = .ok (.goto 23, 3) := by decide +kernel
theorem dX11_pull_166 : decode cX11_pull 166 = .ok (.iload 7, 2) := by decide +kernel
theorem dX11_pull_168 : decode cX11_pull 168 = .ok (.iconst 1, 1) := by decide +kernel
theorem dX11_pull_169 : decode cX11_pull 169 = .ok (.if_icmp .ne 17, 3) := by decide +kernel
theorem dX11_pull_172 : decode cX11_pull 172 = .ok (.aload_n 0, 1) := by decide +kernel
theorem dX11_pull_173 : decode cX11_pull 173 = .ok (.getfield 19, 3) := by decide +kernel
theorem dX11_pull_176 : decode cX11_pull 176 = .ok (.getfield 166, 3) := by decide +kernel
theorem dX11_pull_179 : decode cX11_pull 179 = .ok (.iload 4, 2) := by decide +kernel
theorem dX11_pull_181 : decode cX11_pull 181 = .ok (.dup2, 1) := by decide +kernel
theorem dX11_pull_182 : decode cX11_pull 182 = .ok (.iaload, 1) := by decide +kernel
theorem dX11_pull_183 : decode cX11_pull 183 = .ok (.iconst 1, 1) := by decide +kernel
theorem dX11_pull_184 : decode cX11_pull 184 = .ok (.iadd, 1) := by decide +kernel
theorem dX11_pull_185 : decode cX11_pull 185 = .ok (.iastore, 1) := by decide +kernel
theorem dX11_pull_186 : decode cX11_pull 186 = .ok (.iload 7, 2) := by decide +kernel
theorem dX11_pull_188 : decode cX11_pull 188 = .ok (.ireturn, 1) := by decide +kernel
theorem dX11_seed_0 : decode cX11_seed 0 = .ok (.aload_n 0, 1) := by decide +kernel
theorem dX11_seed_1 : decode cX11_seed 1 = .ok (.aload_n 0, 1) := by decide +kernel
theorem dX11_seed_2 : decode cX11_seed 2 = .ok (.invokevirtual 284, 3) := by decide +kernel
theorem dX11_seed_5 : decode cX11_seed 5 = .ok (.ifCond .ne 7, 3) := by decide +kernel
theorem dX11_seed_8 : decode cX11_seed 8 = .ok (.iconst 1, 1) := by decide +kernel
theorem dX11_seed_9 : decode cX11_seed 9 = .ok (.goto 15, 3) := by decide +kernel
theorem dX11_seed_12 : decode cX11_seed 12 = .ok (.iload_n 1, 1) := by decide +kernel
theorem dX11_seed_13 : decode cX11_seed 13 = .ok (.invokestatic 350, 3) := by decide +kernel
theorem dX11_seed_16 : decode cX11_seed 16 = .ok (.ifCond .eq 7, 3) := by decide +kernel
theorem dX11_seed_19 : decode cX11_seed 19 = .ok (.iconst 0, 1) := by decide +kernel
theorem dX11_seed_20 : decode cX11_seed 20 = .ok (.goto 4, 3) := by decide +kernel
theorem dX11_seed_23 : decode cX11_seed 23 = .ok (.iconst 2, 1) := by decide +kernel
theorem dX11_seed_24 : decode cX11_seed 24 = .ok (.putfield 62, 3) := by decide +kernel
theorem dX11_seed_27 : decode cX11_seed 27 = .ok (.aload_n 0, 1) := by decide +kernel
theorem dX11_seed_28 : decode cX11_seed 28 = .ok (.getfield 62, 3) := by decide +kernel
theorem dX11_seed_31 : decode cX11_seed 31 = .ok (.ifCond .eq 5, 3) := by decide +kernel
theorem dX11_seed_34 : decode cX11_seed 34 = .ok (.iconst 0, 1) := by decide +kernel
theorem dX11_seed_35 : decode cX11_seed 35 = .ok (.ireturn, 1) := by decide +kernel
theorem dX11_seed_36 : decode cX11_seed 36 = .ok (.aload_n 0, 1) := by decide +kernel
theorem dX11_seed_37 : decode cX11_seed 37 = .ok (.getfield 19, 3) := by decide +kernel
theorem dX11_seed_40 : decode cX11_seed 40 = .ok (.iload_n 1, 1) := by decide +kernel
theorem dX11_seed_41 : decode cX11_seed 41 = .ok (.putfield 353, 3) := by decide +kernel
theorem dX11_seed_44 : decode cX11_seed 44 = .ok (.iconst 1, 1) := by decide +kernel
theorem dX11_seed_45 : decode cX11_seed 45 = .ok (.ireturn, 1) := by decide +kernel
theorem dX11_undo_0 : decode cX11_undo 0 = .ok (.aload_n 0, 1) := by decide +kernel
theorem dX11_undo_1 : decode cX11_undo 1 = .ok (.aload_n 0, 1) := by decide +kernel
theorem dX11_undo_2 : decode cX11_undo 2 = .ok (.getfield 26, 3) := by decide +kernel
theorem dX11_undo_5 : decode cX11_undo 5 = .ok (.getfield 356, 3) := by decide +kernel
theorem dX11_undo_8 : decode cX11_undo 8 = .ok (.ifCond .le 7, 3) := by decide +kernel
theorem dX11_undo_11 : decode cX11_undo 11 = .ok (.iconst 0, 1) := by decide +kernel
theorem dX11_undo_12 : decode cX11_undo 12 = .ok (.goto 5, 3) := by decide +kernel
theorem dX11_undo_15 : decode cX11_undo 15 = .ok (.bipush 6, 2) := by decide +kernel
theorem dX11_undo_17 : decode cX11_undo 17 = .ok (.putfield 62, 3) := by decide +kernel
theorem dX11_undo_20 : decode cX11_undo 20 = .ok (.aload_n 0, 1) := by decide +kernel
theorem dX11_undo_21 : decode cX11_undo 21 = .ok (.getfield 62, 3) := by decide +kernel
theorem dX11_undo_24 : decode cX11_undo 24 = .ok (.ifCond .eq 5, 3) := by decide +kernel
theorem dX11_undo_27 : decode cX11_undo 27 = .ok (.iconst 0, 1) := by decide +kernel
theorem dX11_undo_28 : decode cX11_undo 28 = .ok (.ireturn, 1) := by decide +kernel
theorem dX11_undo_29 : decode cX11_undo 29 = .ok (.aload_n 0, 1) := by decide +kernel
theorem dX11_undo_30 : decode cX11_undo 30 = .ok (.getfield 26, 3) := by decide +kernel
theorem dX11_undo_33 : decode cX11_undo 33 = .ok (.aload_n 0, 1) := by decide +kernel
theorem dX11_undo_34 : decode cX11_undo 34 = .ok (.getfield 19, 3) := by decide +kernel
theorem dX11_undo_37 : decode cX11_undo 37 = .ok (.invokevirtual 359, 3) := by decide +kernel
theorem dX11_undo_40 : decode cX11_undo 40 = .ok (.iconst 1, 1) := by decide +kernel
theorem dX11_undo_41 : decode cX11_undo 41 = .ok (.ireturn, 1) := by decide +kernel
theorem dX11_mark_0 : decode cX11_mark 0 = .ok (.aload_n 0, 1) := by decide +kernel
theorem dX11_mark_1 : decode cX11_mark 1 = .ok (.aload_n 0, 1) := by decide +kernel
theorem dX11_mark_2 : decode cX11_mark 2 = .ok (.invokevirtual 284, 3) := by decide +kernel
theorem dX11_mark_5 : decode cX11_mark 5 = .ok (.ifCond .ne 7, 3) := by decide +kernel
theorem dX11_mark_8 : decode cX11_mark 8 = .ok (.iconst 1, 1) := by decide +kernel
theorem dX11_mark_9 : decode cX11_mark 9 = .ok (.goto 18, 3) := by decide +kernel
theorem dX11_mark_12 : decode cX11_mark 12 = .ok (.aload_n 0, 1) := by decide +kernel
theorem dX11_mark_13 : decode cX11_mark 13 = .ok (.getfield 26, 3) := by decide +kernel
theorem dX11_mark_16 : decode cX11_mark 16 = .ok (.invokevirtual 362, 3) := by decide +kernel
theorem dX11_mark_19 : decode cX11_mark 19 = .ok (.ifCond .eq 7, 3) := by decide +kernel
theorem dX11_mark_22 : decode cX11_mark 22 = .ok (.iconst 0, 1) := by decide +kernel
theorem dX11_mark_23 : decode cX11_mark 23 = .ok (.goto 4, 3) := by decide +kernel
theorem dX11_mark_26 : decode cX11_mark 26 = .ok (.iconst 3, 1) := by decide +kernel
theorem dX11_mark_27 : decode cX11_mark 27 = .ok (.putfield 62, 3) := by decide +kernel
theorem dX11_mark_30 : decode cX11_mark 30 = .ok (.aload_n 0, 1) := by decide +kernel
theorem dX11_mark_31 : decode cX11_mark 31 = .ok (.getfield 62, 3) := by decide +kernel
theorem dX11_mark_34 : decode cX11_mark 34 = .ok (.ifCond .ne 17, 3) := by decide +kernel
theorem dX11_mark_37 : decode cX11_mark 37 = .ok (.aload_n 0, 1) := by decide +kernel
theorem dX11_mark_38 : decode cX11_mark 38 = .ok (.getfield 26, 3) := by decide +kernel
theorem dX11_mark_41 : decode cX11_mark 41 = .ok (.aload_n 0, 1) := by decide +kernel
theorem dX11_mark_42 : decode cX11_mark 42 = .ok (.getfield 19, 3) := by decide +kernel
theorem dX11_mark_45 : decode cX11_mark 45 = .ok (.invokevirtual 365, 3) := by decide +kernel
theorem dX11_mark_48 : decode cX11_mark 48 = .ok (.goto 4, 3) := by decide +kernel
theorem dX11_mark_51 : decode cX11_mark 51 = .ok (.iconst (-1), 1) := by decide +kernel
theorem dX11_mark_52 : decode cX11_mark 52 = .ok (.ireturn, 1) := by decide +kernel
theorem dX11_back_0 : decode cX11_back 0 = .ok (.aload_n 0, 1) := by decide +kernel
theorem dX11_back_1 : decode cX11_back 1 = .ok (.iload_n 1, 1) := by decide +kernel
theorem dX11_back_2 : decode cX11_back 2 = .ok (.ifCond .lt 18, 3) := by decide +kernel
theorem dX11_back_5 : decode cX11_back 5 = .ok (.iload_n 1, 1) := by decide +kernel
theorem dX11_back_6 : decode cX11_back 6 = .ok (.aload_n 0, 1) := by decide +kernel
theorem dX11_back_7 : decode cX11_back 7 = .ok (.getfield 26, 3) := by decide +kernel
theorem dX11_back_10 : decode cX11_back 10 = .ok (.getfield 369, 3) := by decide +kernel
theorem dX11_back_13 : decode cX11_back 13 = .ok (.if_icmp .ge 7, 3) := by decide +kernel
theorem dX11_back_16 : decode cX11_back 16 = .ok (.iconst 0, 1) := by decide +kernel
theorem dX11_back_17 : decode cX11_back 17 = .ok (.goto 4, 3) := by decide +kernel
theorem dX11_back_20 : decode cX11_back 20 = .ok (.iconst 1, 1) := by decide +kernel
theorem dX11_back_21 : decode cX11_back 21 = .ok (.putfield 62, 3) := by decide +kernel
theorem dX11_back_24 : decode cX11_back 24 = .ok (.aload_n 0, 1) := by decide +kernel
theorem dX11_back_25 : decode cX11_back 25 = .ok (.getfield 62, 3) := by decide +kernel
theorem dX11_back_28 : decode cX11_back 28 = .ok (.ifCond .eq 5, 3) := by decide +kernel
theorem dX11_back_31 : decode cX11_back 31 = .ok (.iconst 0, 1) := by decide +kernel
theorem dX11_back_32 : decode cX11_back 32 = .ok (.ireturn, 1) := by decide +kernel
theorem dX11_back_33 : decode cX11_back 33 = .ok (.aload_n 0, 1) := by decide +kernel
theorem dX11_back_34 : decode cX11_back 34 = .ok (.getfield 26, 3) := by decide +kernel
theorem dX11_back_37 : decode cX11_back 37 = .ok (.iload_n 1, 1) := by decide +kernel
theorem dX11_back_38 : decode cX11_back 38 = .ok (.aload_n 0, 1) := by decide +kernel
theorem dX11_back_39 : decode cX11_back 39 = .ok (.getfield 19, 3) := by decide +kernel
theorem dX11_back_42 : decode cX11_back 42 = .ok (.invokevirtual 372, 3) := by decide +kernel
theorem dX11_back_45 : decode cX11_back 45 = .ok (.iconst 1, 1) := by decide +kernel
theorem dX11_back_46 : decode cX11_back 46 = .ok (.ireturn, 1) := by decide +kernel
theorem dX11_size_0 : decode cX11_size 0 = .ok (.iload_n 1, 1) := by decide +kernel
theorem dX11_size_1 : decode cX11_size 1 = .ok (.tableswitch 186 0 13 #[71, 79, 87, 95, 103, 111, 119, 127, 135, 143, 151, 159, 167, 175], 71) := by decide +kernel
theorem dX11_size_72 : decode cX11_size 72 = .ok (.aload_n 0, 1) := by decide +kernel
theorem dX11_size_73 : decode cX11_size 73 = .ok (.getfield 58, 3) := by decide +kernel
theorem dX11_size_76 : decode cX11_size 76 = .ok (.getfield 383, 3) := by decide +kernel
theorem dX11_size_79 : decode cX11_size 79 = .ok (.ireturn, 1) := by decide +kernel
theorem dX11_size_80 : decode cX11_size 80 = .ok (.aload_n 0, 1) := by decide +kernel
theorem dX11_size_81 : decode cX11_size 81 = .ok (.getfield 58, 3) := by decide +kernel
theorem dX11_size_84 : decode cX11_size 84 = .ok (.getfield 386, 3) := by decide +kernel
theorem dX11_size_87 : decode cX11_size 87 = .ok (.ireturn, 1) := by decide +kernel
theorem dX11_size_88 : decode cX11_size 88 = .ok (.aload_n 0, 1) := by decide +kernel
theorem dX11_size_89 : decode cX11_size 89 = .ok (.getfield 58, 3) := by decide +kernel
theorem dX11_size_92 : decode cX11_size 92 = .ok (.getfield 389, 3) := by decide +kernel
theorem dX11_size_95 : decode cX11_size 95 = .ok (.ireturn, 1) := by decide +kernel
theorem dX11_size_96 : decode cX11_size 96 = .ok (.aload_n 0, 1) := by decide +kernel
theorem dX11_size_97 : decode cX11_size 97 = .ok (.getfield 58, 3) := by decide +kernel
theorem dX11_size_100 : decode cX11_size 100 = .ok (.getfield 392, 3) := by decide +kernel
theorem dX11_size_103 : decode cX11_size 103 = .ok (.ireturn, 1) := by decide +kernel
theorem dX11_size_104 : decode cX11_size 104 = .ok (.aload_n 0, 1) := by decide +kernel
theorem dX11_size_105 : decode cX11_size 105 = .ok (.getfield 58, 3) := by decide +kernel
theorem dX11_size_108 : decode cX11_size 108 = .ok (.getfield 341, 3) := by decide +kernel
theorem dX11_size_111 : decode cX11_size 111 = .ok (.ireturn, 1) := by decide +kernel
theorem dX11_size_112 : decode cX11_size 112 = .ok (.aload_n 0, 1) := by decide +kernel
theorem dX11_size_113 : decode cX11_size 113 = .ok (.getfield 58, 3) := by decide +kernel
theorem dX11_size_116 : decode cX11_size 116 = .ok (.getfield 100, 3) := by decide +kernel
theorem dX11_size_119 : decode cX11_size 119 = .ok (.ireturn, 1) := by decide +kernel
theorem dX11_size_120 : decode cX11_size 120 = .ok (.aload_n 0, 1) := by decide +kernel
theorem dX11_size_121 : decode cX11_size 121 = .ok (.getfield 58, 3) := by decide +kernel
theorem dX11_size_124 : decode cX11_size 124 = .ok (.getfield 270, 3) := by decide +kernel
theorem dX11_size_127 : decode cX11_size 127 = .ok (.ireturn, 1) := by decide +kernel
theorem dX11_size_128 : decode cX11_size 128 = .ok (.aload_n 0, 1) := by decide +kernel
theorem dX11_size_129 : decode cX11_size 129 = .ok (.getfield 58, 3) := by decide +kernel
theorem dX11_size_132 : decode cX11_size 132 = .ok (.getfield 395, 3) := by decide +kernel
theorem dX11_size_135 : decode cX11_size 135 = .ok (.ireturn, 1) := by decide +kernel
theorem dX11_size_136 : decode cX11_size 136 = .ok (.aload_n 0, 1) := by decide +kernel
theorem dX11_size_137 : decode cX11_size 137 = .ok (.getfield 58, 3) := by decide +kernel
theorem dX11_size_140 : decode cX11_size 140 = .ok (.getfield 288, 3) := by decide +kernel
theorem dX11_size_143 : decode cX11_size 143 = .ok (.ireturn, 1) := by decide +kernel
theorem dX11_size_144 : decode cX11_size 144 = .ok (.aload_n 0, 1) := by decide +kernel
theorem dX11_size_145 : decode cX11_size 145 = .ok (.getfield 58, 3) := by decide +kernel
theorem dX11_size_148 : decode cX11_size 148 = .ok (.getfield 398, 3) := by decide +kernel
theorem dX11_size_151 : decode cX11_size 151 = .ok (.ireturn, 1) := by decide +kernel
theorem dX11_size_152 : decode cX11_size 152 = .ok (.aload_n 0, 1) := by decide +kernel
theorem dX11_size_153 : decode cX11_size 153 = .ok (.getfield 19, 3) := by decide +kernel
theorem dX11_size_156 : decode cX11_size 156 = .ok (.getfield 353, 3) := by decide +kernel
theorem dX11_size_159 : decode cX11_size 159 = .ok (.ireturn, 1) := by decide +kernel
theorem dX11_size_160 : decode cX11_size 160 = .ok (.aload_n 0, 1) := by decide +kernel
theorem dX11_size_161 : decode cX11_size 161 = .ok (.getfield 26, 3) := by decide +kernel
theorem dX11_size_164 : decode cX11_size 164 = .ok (.getfield 356, 3) := by decide +kernel
theorem dX11_size_167 : decode cX11_size 167 = .ok (.ireturn, 1) := by decide +kernel
theorem dX11_size_168 : decode cX11_size 168 = .ok (.aload_n 0, 1) := by decide +kernel
theorem dX11_size_169 : decode cX11_size 169 = .ok (.getfield 26, 3) := by decide +kernel
theorem dX11_size_172 : decode cX11_size 172 = .ok (.getfield 369, 3) := by decide +kernel
theorem dX11_size_175 : decode cX11_size 175 = .ok (.ireturn, 1) := by decide +kernel
theorem dX11_size_176 : decode cX11_size 176 = .ok (.aload_n 0, 1) := by decide +kernel
theorem dX11_size_177 : decode cX11_size 177 = .ok (.getfield 10, 3) := by decide +kernel
theorem dX11_size_180 : decode cX11_size 180 = .ok (.getfield 66, 3) := by decide +kernel
theorem dX11_size_183 : decode cX11_size 183 = .ok (.getfield 80, 3) := by decide +kernel
theorem dX11_size_186 : decode cX11_size 186 = .ok (.ireturn, 1) := by decide +kernel
theorem dX11_size_187 : decode cX11_size 187 = .ok (.iconst (-1), 1) := by decide +kernel
theorem dX11_size_188 : decode cX11_size 188 = .ok (.ireturn, 1) := by decide +kernel
theorem dX11_trouble_0 : decode cX11_trouble 0 = .ok (.aload_n 0, 1) := by decide +kernel
theorem dX11_trouble_1 : decode cX11_trouble 1 = .ok (.getfield 62, 3) := by decide +kernel
theorem dX11_trouble_4 : decode cX11_trouble 4 = .ok (.ireturn, 1) := by decide +kernel
theorem dX11_refuse_0 : decode cX11_refuse 0 = .ok (.aload_n 0, 1) := by decide +kernel
theorem dX11_refuse_1 : decode cX11_refuse 1 = .ok (.iload_n 1, 1) := by decide +kernel
theorem dX11_refuse_2 : decode cX11_refuse 2 = .ok (.putfield 62, 3) := by decide +kernel
theorem dX11_refuse_5 : decode cX11_refuse 5 = .ok (.iconst (-1), 1) := by decide +kernel
theorem dX11_refuse_6 : decode cX11_refuse 6 = .ok (.ireturn, 1) := by decide +kernel
theorem dX11_hasKitchen_0 : decode cX11_hasKitchen 0 = .ok (.aload_n 0, 1) := by decide +kernel
theorem dX11_hasKitchen_1 : decode cX11_hasKitchen 1 = .ok (.getfield 58, 3) := by decide +kernel
theorem dX11_hasKitchen_4 : decode cX11_hasKitchen 4 = .ok (.getfield 100, 3) := by decide +kernel
theorem dX11_hasKitchen_7 : decode cX11_hasKitchen 7 = .ok (.ifCond .le 7, 3) := by decide +kernel
theorem dX11_hasKitchen_10 : decode cX11_hasKitchen 10 = .ok (.iconst 1, 1) := by decide +kernel
theorem dX11_hasKitchen_11 : decode cX11_hasKitchen 11 = .ok (.goto 4, 3) := by decide +kernel
theorem dX11_hasKitchen_14 : decode cX11_hasKitchen 14 = .ok (.iconst 0, 1) := by decide +kernel
theorem dX11_hasKitchen_15 : decode cX11_hasKitchen 15 = .ok (.ireturn, 1) := by decide +kernel
theorem dX11_isBone_0 : decode cX11_isBone 0 = .ok (.iload_n 1, 1) := by decide +kernel
theorem dX11_isBone_1 : decode cX11_isBone 1 = .ok (.ifCond .lt 18, 3) := by decide +kernel
theorem dX11_isBone_4 : decode cX11_isBone 4 = .ok (.iload_n 1, 1) := by decide +kernel
theorem dX11_isBone_5 : decode cX11_isBone 5 = .ok (.aload_n 0, 1) := by decide +kernel
theorem dX11_isBone_6 : decode cX11_isBone 6 = .ok (.getfield 58, 3) := by decide +kernel
theorem dX11_isBone_9 : decode cX11_isBone 9 = .ok (.getfield 100, 3) := by decide +kernel
theorem dX11_isBone_12 : decode cX11_isBone 12 = .ok (.if_icmp .ge 7, 3) := by decide +kernel
theorem dX11_isBone_15 : decode cX11_isBone 15 = .ok (.iconst 1, 1) := by decide +kernel
theorem dX11_isBone_16 : decode cX11_isBone 16 = .ok (.goto 4, 3) := by decide +kernel
theorem dX11_isBone_19 : decode cX11_isBone 19 = .ok (.iconst 0, 1) := by decide +kernel
theorem dX11_isBone_20 : decode cX11_isBone 20 = .ok (.ireturn, 1) := by decide +kernel
theorem dX11_isPerson_0 : decode cX11_isPerson 0 = .ok (.iload_n 1, 1) := by decide +kernel
theorem dX11_isPerson_1 : decode cX11_isPerson 1 = .ok (.ifCond .lt 18, 3) := by decide +kernel
theorem dX11_isPerson_4 : decode cX11_isPerson 4 = .ok (.iload_n 1, 1) := by decide +kernel
theorem dX11_isPerson_5 : decode cX11_isPerson 5 = .ok (.aload_n 0, 1) := by decide +kernel
theorem dX11_isPerson_6 : decode cX11_isPerson 6 = .ok (.getfield 58, 3) := by decide +kernel
theorem dX11_isPerson_9 : decode cX11_isPerson 9 = .ok (.getfield 270, 3) := by decide +kernel
theorem dX11_isPerson_12 : decode cX11_isPerson 12 = .ok (.if_icmp .ge 7, 3) := by decide +kernel
theorem dX11_isPerson_15 : decode cX11_isPerson 15 = .ok (.iconst 1, 1) := by decide +kernel
theorem dX11_isPerson_16 : decode cX11_isPerson 16 = .ok (.goto 4, 3) := by decide +kernel
theorem dX11_isPerson_19 : decode cX11_isPerson 19 = .ok (.iconst 0, 1) := by decide +kernel
theorem dX11_isPerson_20 : decode cX11_isPerson 20 = .ok (.ireturn, 1) := by decide +kernel
theorem dX11_areUnlike_0 : decode cX11_areUnlike 0 = .ok (.aload_n 0, 1) := by decide +kernel
theorem dX11_areUnlike_1 : decode cX11_areUnlike 1 = .ok (.iload_n 1, 1) := by decide +kernel
theorem dX11_areUnlike_2 : decode cX11_areUnlike 2 = .ok (.invokevirtual 139, 3) := by decide +kernel
theorem dX11_areUnlike_5 : decode cX11_areUnlike 5 = .ok (.ifCond .eq 20, 3) := by decide +kernel
theorem dX11_areUnlike_8 : decode cX11_areUnlike 8 = .ok (.aload_n 0, 1) := by decide +kernel
theorem dX11_areUnlike_9 : decode cX11_areUnlike 9 = .ok (.iload_n 2, 1) := by decide +kernel
theorem dX11_areUnlike_10 : decode cX11_areUnlike 10 = .ok (.invokevirtual 139, 3) := by decide +kernel
theorem dX11_areUnlike_13 : decode cX11_areUnlike 13 = .ok (.ifCond .eq 12, 3) := by decide +kernel
theorem dX11_areUnlike_16 : decode cX11_areUnlike 16 = .ok (.iload_n 1, 1) := by decide +kernel
theorem dX11_areUnlike_17 : decode cX11_areUnlike 17 = .ok (.iload_n 2, 1) := by decide +kernel
theorem dX11_areUnlike_18 : decode cX11_areUnlike 18 = .ok (.if_icmp .eq 7, 3) := by decide +kernel
theorem dX11_areUnlike_21 : decode cX11_areUnlike 21 = .ok (.iconst 1, 1) := by decide +kernel
theorem dX11_areUnlike_22 : decode cX11_areUnlike 22 = .ok (.goto 4, 3) := by decide +kernel
theorem dX11_areUnlike_25 : decode cX11_areUnlike 25 = .ok (.iconst 0, 1) := by decide +kernel
theorem dX11_areUnlike_26 : decode cX11_areUnlike 26 = .ok (.ireturn, 1) := by decide +kernel
theorem dX11_isPlace_0 : decode cX11_isPlace 0 = .ok (.aload_n 0, 1) := by decide +kernel
theorem dX11_isPlace_1 : decode cX11_isPlace 1 = .ok (.iload_n 1, 1) := by decide +kernel
theorem dX11_isPlace_2 : decode cX11_isPlace 2 = .ok (.invokevirtual 109, 3) := by decide +kernel
theorem dX11_isPlace_5 : decode cX11_isPlace 5 = .ok (.ifCond .eq 38, 3) := by decide +kernel
theorem dX11_isPlace_8 : decode cX11_isPlace 8 = .ok (.iload_n 2, 1) := by decide +kernel
theorem dX11_isPlace_9 : decode cX11_isPlace 9 = .ok (.ifCond .eq 8, 3) := by decide +kernel
theorem dX11_isPlace_12 : decode cX11_isPlace 12 = .ok (.iload_n 2, 1) := by decide +kernel
theorem dX11_isPlace_13 : decode cX11_isPlace 13 = .ok (.iconst 1, 1) := by decide +kernel
theorem dX11_isPlace_14 : decode cX11_isPlace 14 = .ok (.if_icmp .ne 29, 3) := by decide +kernel
theorem dX11_isPlace_17 : decode cX11_isPlace 17 = .ok (.iload_n 3, 1) := by decide +kernel
theorem dX11_isPlace_18 : decode cX11_isPlace 18 = .ok (.ifCond .lt 25, 3) := by decide +kernel
theorem dX11_isPlace_21 : decode cX11_isPlace 21 = .ok (.iload_n 3, 1) := by decide +kernel
theorem dX11_isPlace_22 : decode cX11_isPlace 22 = .ok (.aload_n 0, 1) := by decide +kernel
theorem dX11_isPlace_23 : decode cX11_isPlace 23 = .ok (.getfield 58, 3) := by decide +kernel
theorem dX11_isPlace_26 : decode cX11_isPlace 26 = .ok (.getfield 118, 3) := by decide +kernel
theorem dX11_isPlace_29 : decode cX11_isPlace 29 = .ok (.iload_n 1, 1) := by decide +kernel
theorem dX11_isPlace_30 : decode cX11_isPlace 30 = .ok (.aaload, 1) := by decide +kernel
theorem dX11_isPlace_31 : decode cX11_isPlace 31 = .ok (.getfield 122, 3) := by decide +kernel
theorem dX11_isPlace_34 : decode cX11_isPlace 34 = .ok (.iload_n 2, 1) := by decide +kernel
theorem dX11_isPlace_35 : decode cX11_isPlace 35 = .ok (.iaload, 1) := by decide +kernel
theorem dX11_isPlace_36 : decode cX11_isPlace 36 = .ok (.if_icmp .ge 7, 3) := by decide +kernel
theorem dX11_isPlace_39 : decode cX11_isPlace 39 = .ok (.iconst 1, 1) := by decide +kernel
theorem dX11_isPlace_40 : decode cX11_isPlace 40 = .ok (.goto 4, 3) := by decide +kernel
theorem dX11_isPlace_43 : decode cX11_isPlace 43 = .ok (.iconst 0, 1) := by decide +kernel
theorem dX11_isPlace_44 : decode cX11_isPlace 44 = .ok (.ireturn, 1) := by decide +kernel
theorem dX11_isHold_0 : decode cX11_isHold 0 = .ok (.iload_n 3, 1) := by decide +kernel
theorem dX11_isHold_1 : decode cX11_isHold 1 = .ok (.iconst 1, 1) := by decide +kernel
theorem dX11_isHold_2 : decode cX11_isHold 2 = .ok (.if_icmp .lt 25, 3) := by decide +kernel
theorem dX11_isHold_5 : decode cX11_isHold 5 = .ok (.iload_n 3, 1) := by decide +kernel
theorem dX11_isHold_6 : decode cX11_isHold 6 = .ok (.aload_n 0, 1) := by decide +kernel
theorem dX11_isHold_7 : decode cX11_isHold 7 = .ok (.getfield 58, 3) := by decide +kernel
theorem dX11_isHold_10 : decode cX11_isHold 10 = .ok (.getfield 118, 3) := by decide +kernel
theorem dX11_isHold_13 : decode cX11_isHold 13 = .ok (.iload_n 1, 1) := by decide +kernel
theorem dX11_isHold_14 : decode cX11_isHold 14 = .ok (.aaload, 1) := by decide +kernel
theorem dX11_isHold_15 : decode cX11_isHold 15 = .ok (.getfield 122, 3) := by decide +kernel
theorem dX11_isHold_18 : decode cX11_isHold 18 = .ok (.iload_n 2, 1) := by decide +kernel
theorem dX11_isHold_19 : decode cX11_isHold 19 = .ok (.iaload, 1) := by decide +kernel
theorem dX11_isHold_20 : decode cX11_isHold 20 = .ok (.if_icmp .gt 7, 3) := by decide +kernel
theorem dX11_isHold_23 : decode cX11_isHold 23 = .ok (.iconst 1, 1) := by decide +kernel
theorem dX11_isHold_24 : decode cX11_isHold 24 = .ok (.goto 4, 3) := by decide +kernel
theorem dX11_isHold_27 : decode cX11_isHold 27 = .ok (.iconst 0, 1) := by decide +kernel
theorem dX11_isHold_28 : decode cX11_isHold 28 = .ok (.ireturn, 1) := by decide +kernel
theorem dX11_isPiece_0 : decode cX11_isPiece 0 = .ok (.iload_n 1, 1) := by decide +kernel
theorem dX11_isPiece_1 : decode cX11_isPiece 1 = .ok (.ifCond .lt 18, 3) := by decide +kernel
theorem dX11_isPiece_4 : decode cX11_isPiece 4 = .ok (.iload_n 1, 1) := by decide +kernel
theorem dX11_isPiece_5 : decode cX11_isPiece 5 = .ok (.aload_n 0, 1) := by decide +kernel
theorem dX11_isPiece_6 : decode cX11_isPiece 6 = .ok (.getfield 58, 3) := by decide +kernel
theorem dX11_isPiece_9 : decode cX11_isPiece 9 = .ok (.getfield 398, 3) := by decide +kernel
theorem dX11_isPiece_12 : decode cX11_isPiece 12 = .ok (.if_icmp .ge 7, 3) := by decide +kernel
theorem dX11_isPiece_15 : decode cX11_isPiece 15 = .ok (.iconst 1, 1) := by decide +kernel
theorem dX11_isPiece_16 : decode cX11_isPiece 16 = .ok (.goto 4, 3) := by decide +kernel
theorem dX11_isPiece_19 : decode cX11_isPiece 19 = .ok (.iconst 0, 1) := by decide +kernel
theorem dX11_isPiece_20 : decode cX11_isPiece 20 = .ok (.ireturn, 1) := by decide +kernel
theorem dX11_isSeed_0 : decode cX11_isSeed 0 = .ok (.iload_n 0, 1) := by decide +kernel
theorem dX11_isSeed_1 : decode cX11_isSeed 1 = .ok (.ifCond .lt 14, 3) := by decide +kernel
theorem dX11_isSeed_4 : decode cX11_isSeed 4 = .ok (.iload_n 0, 1) := by decide +kernel
theorem dX11_isSeed_5 : decode cX11_isSeed 5 = .ok (.ldc_w 401, 3) := by decide +kernel
theorem dX11_isSeed_8 : decode cX11_isSeed 8 = .ok (.if_icmp .gt 7, 3) := by decide +kernel
theorem dX11_isSeed_11 : decode cX11_isSeed 11 = .ok (.iconst 1, 1) := by decide +kernel
theorem dX11_isSeed_12 : decode cX11_isSeed 12 = .ok (.goto 4, 3) := by decide +kernel
theorem dX11_isSeed_15 : decode cX11_isSeed 15 = .ok (.iconst 0, 1) := by decide +kernel
theorem dX11_isSeed_16 : decode cX11_isSeed 16 = .ok (.ireturn, 1) := by decide +kernel
theorem dX11_pairTrouble_0 : decode cX11_pairTrouble 0 = .ok (.aload_n 0, 1) := by decide +kernel
theorem dX11_pairTrouble_1 : decode cX11_pairTrouble 1 = .ok (.iload_n 1, 1) := by decide +kernel
theorem dX11_pairTrouble_2 : decode cX11_pairTrouble 2 = .ok (.invokevirtual 109, 3) := by decide +kernel
theorem dX11_pairTrouble_5 : decode cX11_pairTrouble 5 = .ok (.ifCond .eq 16, 3) := by decide +kernel
theorem dX11_pairTrouble_8 : decode cX11_pairTrouble 8 = .ok (.aload_n 0, 1) := by decide +kernel
theorem dX11_pairTrouble_9 : decode cX11_pairTrouble 9 = .ok (.iload_n 2, 1) := by decide +kernel
theorem dX11_pairTrouble_10 : decode cX11_pairTrouble 10 = .ok (.iload_n 3, 1) := by decide +kernel
theorem dX11_pairTrouble_11 : decode cX11_pairTrouble 11 = .ok (.invokevirtual 310, 3) := by decide +kernel
theorem dX11_pairTrouble_14 : decode cX11_pairTrouble 14 = .ok (.ifCond .eq 7, 3) := by decide +kernel
theorem dX11_pairTrouble_17 : decode cX11_pairTrouble 17 = .ok (.iconst 0, 1) := by decide +kernel
theorem dX11_pairTrouble_18 : decode cX11_pairTrouble 18 = .ok (.goto 4, 3) := by decide +kernel
theorem dX11_pairTrouble_21 : decode cX11_pairTrouble 21 = .ok (.iconst 1, 1) := by decide +kernel
theorem dX11_pairTrouble_22 : decode cX11_pairTrouble 22 = .ok (.ireturn, 1) := by decide +kernel
theorem dX11_pullTrouble_0 : decode cX11_pullTrouble 0 = .ok (.aload_n 0, 1) := by decide +kernel
theorem dX11_pullTrouble_1 : decode cX11_pullTrouble 1 = .ok (.iload_n 1, 1) := by decide +kernel
theorem dX11_pullTrouble_2 : decode cX11_pullTrouble 2 = .ok (.iload_n 2, 1) := by decide +kernel
theorem dX11_pullTrouble_3 : decode cX11_pullTrouble 3 = .ok (.iload 4, 2) := by decide +kernel
theorem dX11_pullTrouble_5 : decode cX11_pullTrouble 5 = .ok (.invokevirtual 222, 3) := by decide +kernel
theorem dX11_pullTrouble_8 : decode cX11_pullTrouble 8 = .ok (.ifCond .eq 5, 3) := by decide +kernel
theorem dX11_pullTrouble_11 : decode cX11_pullTrouble 11 = .ok (.iconst 1, 1) := by decide +kernel
theorem dX11_pullTrouble_12 : decode cX11_pullTrouble 12 = .ok (.ireturn, 1) := by decide +kernel
theorem dX11_pullTrouble_13 : decode cX11_pullTrouble 13 = .ok (.aload_n 0, 1) := by decide +kernel
theorem dX11_pullTrouble_14 : decode cX11_pullTrouble 14 = .ok (.iload_n 1, 1) := by decide +kernel
theorem dX11_pullTrouble_15 : decode cX11_pullTrouble 15 = .ok (.iconst 0, 1) := by decide +kernel
theorem dX11_pullTrouble_16 : decode cX11_pullTrouble 16 = .ok (.iload_n 3, 1) := by decide +kernel
theorem dX11_pullTrouble_17 : decode cX11_pullTrouble 17 = .ok (.invokevirtual 226, 3) := by decide +kernel
theorem dX11_pullTrouble_20 : decode cX11_pullTrouble 20 = .ok (.ifCond .eq 29, 3) := by decide +kernel
theorem dX11_pullTrouble_23 : decode cX11_pullTrouble 23 = .ok (.aload_n 0, 1) := by decide +kernel
theorem dX11_pullTrouble_24 : decode cX11_pullTrouble 24 = .ok (.iload_n 1, 1) := by decide +kernel
theorem dX11_pullTrouble_25 : decode cX11_pullTrouble 25 = .ok (.iconst 1, 1) := by decide +kernel
theorem dX11_pullTrouble_26 : decode cX11_pullTrouble 26 = .ok (.iload 5, 2) := by decide +kernel
theorem dX11_pullTrouble_28 : decode cX11_pullTrouble 28 = .ok (.invokevirtual 226, 3) := by decide +kernel
theorem dX11_pullTrouble_31 : decode cX11_pullTrouble 31 = .ok (.ifCond .eq 18, 3) := by decide +kernel
theorem dX11_pullTrouble_34 : decode cX11_pullTrouble 34 = .ok (.iload 6, 2) := by decide +kernel
theorem dX11_pullTrouble_36 : decode cX11_pullTrouble 36 = .ok (.ifCond .lt 13, 3) := by decide +kernel
theorem dX11_pullTrouble_39 : decode cX11_pullTrouble 39 = .ok (.iload 6, 2) := by decide +kernel
theorem dX11_pullTrouble_41 : decode cX11_pullTrouble 41 = .ok (.iconst 3, 1) := by decide +kernel
theorem dX11_pullTrouble_42 : decode cX11_pullTrouble 42 = .ok (.if_icmp .gt 7, 3) := by decide +kernel
theorem dX11_pullTrouble_45 : decode cX11_pullTrouble 45 = .ok (.iconst 1, 1) := by decide +kernel
theorem dX11_pullTrouble_46 : decode cX11_pullTrouble 46 = .ok (.goto 4, 3) := by decide +kernel
theorem dX11_pullTrouble_49 : decode cX11_pullTrouble 49 = .ok (.iconst 0, 1) := by decide +kernel
theorem dX11_pullTrouble_50 : decode cX11_pullTrouble 50 = .ok (.istore 7, 2) := by decide +kernel
theorem dX11_pullTrouble_52 : decode cX11_pullTrouble 52 = .ok (.iload 7, 2) := by decide +kernel
theorem dX11_pullTrouble_54 : decode cX11_pullTrouble 54 = .ok (.ifCond .eq 7, 3) := by decide +kernel
theorem dX11_pullTrouble_57 : decode cX11_pullTrouble 57 = .ok (.iconst 0, 1) := by decide +kernel
theorem dX11_pullTrouble_58 : decode cX11_pullTrouble 58 = .ok (.goto 4, 3) := by decide +kernel
theorem dX11_pullTrouble_61 : decode cX11_pullTrouble 61 = .ok (.iconst 2, 1) := by decide +kernel
theorem dX11_pullTrouble_62 : decode cX11_pullTrouble 62 = .ok (.ireturn, 1) := by decide +kernel
theorem dX11_weeksTrouble_0 : decode cX11_weeksTrouble 0 = .ok (.aload_n 0, 1) := by decide +kernel
theorem dX11_weeksTrouble_1 : decode cX11_weeksTrouble 1 = .ok (.invokevirtual 284, 3) := by decide +kernel
theorem dX11_weeksTrouble_4 : decode cX11_weeksTrouble 4 = .ok (.ifCond .ne 5, 3) := by decide +kernel
theorem dX11_weeksTrouble_7 : decode cX11_weeksTrouble 7 = .ok (.iconst 1, 1) := by decide +kernel
theorem dX11_weeksTrouble_8 : decode cX11_weeksTrouble 8 = .ok (.ireturn, 1) := by decide +kernel
theorem dX11_weeksTrouble_9 : decode cX11_weeksTrouble 9 = .ok (.iload_n 1, 1) := by decide +kernel
theorem dX11_weeksTrouble_10 : decode cX11_weeksTrouble 10 = .ok (.iconst 1, 1) := by decide +kernel
theorem dX11_weeksTrouble_11 : decode cX11_weeksTrouble 11 = .ok (.if_icmp .lt 13, 3) := by decide +kernel
theorem dX11_weeksTrouble_14 : decode cX11_weeksTrouble 14 = .ok (.iload_n 1, 1) := by decide +kernel
theorem dX11_weeksTrouble_15 : decode cX11_weeksTrouble 15 = .ok (.bipush 9, 2) := by decide +kernel
theorem dX11_weeksTrouble_17 : decode cX11_weeksTrouble 17 = .ok (.if_icmp .gt 7, 3) := by decide +kernel
theorem dX11_weeksTrouble_20 : decode cX11_weeksTrouble 20 = .ok (.iconst 0, 1) := by decide +kernel
theorem dX11_weeksTrouble_21 : decode cX11_weeksTrouble 21 = .ok (.goto 4, 3) := by decide +kernel
theorem dX11_weeksTrouble_24 : decode cX11_weeksTrouble 24 = .ok (.iconst 2, 1) := by decide +kernel
theorem dX11_weeksTrouble_25 : decode cX11_weeksTrouble 25 = .ok (.ireturn, 1) := by decide +kernel
theorem dX11_yearTrouble_0 : decode cX11_yearTrouble 0 = .ok (.iload_n 0, 1) := by decide +kernel
theorem dX11_yearTrouble_1 : decode cX11_yearTrouble 1 = .ok (.invokestatic 350, 3) := by decide +kernel
theorem dX11_yearTrouble_4 : decode cX11_yearTrouble 4 = .ok (.ifCond .eq 18, 3) := by decide +kernel
theorem dX11_yearTrouble_7 : decode cX11_yearTrouble 7 = .ok (.iload_n 1, 1) := by decide +kernel
theorem dX11_yearTrouble_8 : decode cX11_yearTrouble 8 = .ok (.ifCond .lt 14, 3) := by decide +kernel
theorem dX11_yearTrouble_11 : decode cX11_yearTrouble 11 = .ok (.iload_n 1, 1) := by decide +kernel
theorem dX11_yearTrouble_12 : decode cX11_yearTrouble 12 = .ok (.sipush 200, 3) := by decide +kernel
theorem dX11_yearTrouble_15 : decode cX11_yearTrouble 15 = .ok (.if_icmp .gt 7, 3) := by decide +kernel
theorem dX11_yearTrouble_18 : decode cX11_yearTrouble 18 = .ok (.iconst 0, 1) := by decide +kernel
theorem dX11_yearTrouble_19 : decode cX11_yearTrouble 19 = .ok (.goto 4, 3) := by decide +kernel
theorem dX11_yearTrouble_22 : decode cX11_yearTrouble 22 = .ok (.iconst 2, 1) := by decide +kernel
theorem dX11_yearTrouble_23 : decode cX11_yearTrouble 23 = .ok (.ireturn, 1) := by decide +kernel
theorem dX11_takeNow_0 : decode cX11_takeNow 0 = .ok (.aload_n 0, 1) := by decide +kernel
theorem dX11_takeNow_1 : decode cX11_takeNow 1 = .ok (.getfield 33, 3) := by decide +kernel
theorem dX11_takeNow_4 : decode cX11_takeNow 4 = .ok (.aload_n 0, 1) := by decide +kernel
theorem dX11_takeNow_5 : decode cX11_takeNow 5 = .ok (.getfield 58, 3) := by decide +kernel
theorem dX11_takeNow_8 : decode cX11_takeNow 8 = .ok (.aload_n 0, 1) := by decide +kernel
theorem dX11_takeNow_9 : decode cX11_takeNow 9 = .ok (.getfield 19, 3) := by decide +kernel
theorem dX11_takeNow_12 : decode cX11_takeNow 12 = .ok (.getfield 112, 3) := by decide +kernel
theorem dX11_takeNow_15 : decode cX11_takeNow 15 = .ok (.iload_n 1, 1) := by decide +kernel
theorem dX11_takeNow_16 : decode cX11_takeNow 16 = .ok (.iaload, 1) := by decide +kernel
theorem dX11_takeNow_17 : decode cX11_takeNow 17 = .ok (.aload_n 0, 1) := by decide +kernel
theorem dX11_takeNow_18 : decode cX11_takeNow 18 = .ok (.getfield 19, 3) := by decide +kernel
theorem dX11_takeNow_21 : decode cX11_takeNow 21 = .ok (.getfield 115, 3) := by decide +kernel
theorem dX11_takeNow_24 : decode cX11_takeNow 24 = .ok (.iload_n 1, 1) := by decide +kernel
theorem dX11_takeNow_25 : decode cX11_takeNow 25 = .ok (.iaload, 1) := by decide +kernel
theorem dX11_takeNow_26 : decode cX11_takeNow 26 = .ok (.invokevirtual 402, 3) := by decide +kernel
theorem dX11_takeNow_29 : decode cX11_takeNow 29 = .ok (.return_, 1) := by decide +kernel
theorem dX11_lay_0 : decode cX11_lay 0 = .ok (.aload_n 0, 1) := by decide +kernel
theorem dX11_lay_1 : decode cX11_lay 1 = .ok (.iload_n 1, 1) := by decide +kernel
theorem dX11_lay_2 : decode cX11_lay 2 = .ok (.invokevirtual 168, 3) := by decide +kernel
theorem dX11_lay_5 : decode cX11_lay 5 = .ok (.aload_n 0, 1) := by decide +kernel
theorem dX11_lay_6 : decode cX11_lay 6 = .ok (.iload_n 1, 1) := by decide +kernel
theorem dX11_lay_7 : decode cX11_lay 7 = .ok (.iload_n 2, 1) := by decide +kernel
theorem dX11_lay_8 : decode cX11_lay 8 = .ok (.iload_n 3, 1) := by decide +kernel
theorem dX11_lay_9 : decode cX11_lay 9 = .ok (.iload 4, 2) := by decide +kernel
theorem dX11_lay_11 : decode cX11_lay 11 = .ok (.iload 5, 2) := by decide +kernel
theorem dX11_lay_13 : decode cX11_lay 13 = .ok (.iload 6, 2) := by decide +kernel
theorem dX11_lay_15 : decode cX11_lay 15 = .ok (.invokevirtual 406, 3) := by decide +kernel
theorem dX11_lay_18 : decode cX11_lay 18 = .ok (.return_, 1) := by decide +kernel
theorem dX11_grips_0 : decode cX11_grips 0 = .ok (.aload_n 0, 1) := by decide +kernel
theorem dX11_grips_1 : decode cX11_grips 1 = .ok (.getfield 58, 3) := by decide +kernel
theorem dX11_grips_4 : decode cX11_grips 4 = .ok (.getfield 118, 3) := by decide +kernel
theorem dX11_grips_7 : decode cX11_grips 7 = .ok (.iload_n 1, 1) := by decide +kernel
theorem dX11_grips_8 : decode cX11_grips 8 = .ok (.aaload, 1) := by decide +kernel
theorem dX11_grips_9 : decode cX11_grips 9 = .ok (.astore 7, 2) := by decide +kernel
theorem dX11_grips_11 : decode cX11_grips 11 = .ok (.aload_n 0, 1) := by decide +kernel
theorem dX11_grips_12 : decode cX11_grips 12 = .ok (.getfield 58, 3) := by decide +kernel
theorem dX11_grips_15 : decode cX11_grips 15 = .ok (.getfield 142, 3) := by decide +kernel
theorem dX11_grips_18 : decode cX11_grips 18 = .ok (.iload_n 2, 1) := by decide +kernel
theorem dX11_grips_19 : decode cX11_grips 19 = .ok (.aaload, 1) := by decide +kernel
theorem dX11_grips_20 : decode cX11_grips 20 = .ok (.astore 8, 2) := by decide +kernel
theorem dX11_grips_22 : decode cX11_grips 22 = .ok (.aload_n 0, 1) := by decide +kernel
theorem dX11_grips_23 : decode cX11_grips 23 = .ok (.getfield 58, 3) := by decide +kernel
theorem dX11_grips_26 : decode cX11_grips 26 = .ok (.getfield 142, 3) := by decide +kernel
theorem dX11_grips_29 : decode cX11_grips 29 = .ok (.iload 4, 2) := by decide +kernel
theorem dX11_grips_31 : decode cX11_grips 31 = .ok (.aaload, 1) := by decide +kernel
theorem dX11_grips_32 : decode cX11_grips 32 = .ok (.astore 9, 2) := by decide +kernel
theorem dX11_grips_34 : decode cX11_grips 34 = .ok (.aload_n 0, 1) := by decide +kernel
theorem dX11_grips_35 : decode cX11_grips 35 = .ok (.getfield 33, 3) := by decide +kernel
theorem dX11_grips_38 : decode cX11_grips 38 = .ok (.aload 8, 2) := by decide +kernel
theorem dX11_grips_40 : decode cX11_grips 40 = .ok (.aload 9, 2) := by decide +kernel
theorem dX11_grips_42 : decode cX11_grips 42 = .ok (.invokevirtual 229, 3) := by decide +kernel
theorem dX11_grips_45 : decode cX11_grips 45 = .ok (.aload_n 0, 1) := by decide +kernel
theorem dX11_grips_46 : decode cX11_grips 46 = .ok (.getfield 33, 3) := by decide +kernel
theorem dX11_grips_49 : decode cX11_grips 49 = .ok (.aload_n 0, 1) := by decide +kernel
theorem dX11_grips_50 : decode cX11_grips 50 = .ok (.getfield 33, 3) := by decide +kernel
theorem dX11_grips_53 : decode cX11_grips 53 = .ok (.getfield 171, 3) := by decide +kernel
theorem dX11_grips_56 : decode cX11_grips 56 = .ok (.aload 7, 2) := by decide +kernel
theorem dX11_grips_58 : decode cX11_grips 58 = .ok (.iconst 0, 1) := by decide +kernel
theorem dX11_grips_59 : decode cX11_grips 59 = .ok (.aload 8, 2) := by decide +kernel
theorem dX11_grips_61 : decode cX11_grips 61 = .ok (.iload_n 3, 1) := by decide +kernel
theorem dX11_grips_62 : decode cX11_grips 62 = .ok (.iload 6, 2) := by decide +kernel
theorem dX11_grips_64 : decode cX11_grips 64 = .ok (.ifCond .eq 9, 3) := by decide +kernel
theorem dX11_grips_67 : decode cX11_grips 67 = .ok (.iload 6, 2) := by decide +kernel
theorem dX11_grips_69 : decode cX11_grips 69 = .ok (.iconst 3, 1) := by decide +kernel
theorem dX11_grips_70 : decode cX11_grips 70 = .ok (.if_icmp .ne 7, 3) := by decide +kernel
theorem dX11_grips_73 : decode cX11_grips 73 = .ok (.iconst 1, 1) := by decide +kernel
theorem dX11_grips_74 : decode cX11_grips 74 = .ok (.goto 4, 3) := by decide +kernel
theorem dX11_grips_77 : decode cX11_grips 77 = .ok (.iconst 0, 1) := by decide +kernel
theorem dX11_grips_78 : decode cX11_grips 78 = .ok (.invokevirtual 175, 3) := by decide +kernel
theorem dX11_grips_81 : decode cX11_grips 81 = .ok (.aload_n 0, 1) := by decide +kernel
theorem dX11_grips_82 : decode cX11_grips 82 = .ok (.getfield 33, 3) := by decide +kernel
theorem dX11_grips_85 : decode cX11_grips 85 = .ok (.aload_n 0, 1) := by decide +kernel
theorem dX11_grips_86 : decode cX11_grips 86 = .ok (.getfield 33, 3) := by decide +kernel
theorem dX11_grips_89 : decode cX11_grips 89 = .ok (.getfield 195, 3) := by decide +kernel
theorem dX11_grips_92 : decode cX11_grips 92 = .ok (.aload 7, 2) := by decide +kernel
theorem dX11_grips_94 : decode cX11_grips 94 = .ok (.iconst 1, 1) := by decide +kernel
theorem dX11_grips_95 : decode cX11_grips 95 = .ok (.aload 9, 2) := by decide +kernel
theorem dX11_grips_97 : decode cX11_grips 97 = .ok (.iload 5, 2) := by decide +kernel
theorem dX11_grips_99 : decode cX11_grips 99 = .ok (.iload 6, 2) := by decide +kernel
theorem dX11_grips_101 : decode cX11_grips 101 = .ok (.iconst 1, 1) := by decide +kernel
theorem dX11_grips_102 : decode cX11_grips 102 = .ok (.if_icmp .eq 9, 3) := by decide +kernel
theorem dX11_grips_105 : decode cX11_grips 105 = .ok (.iload 6, 2) := by decide +kernel
theorem dX11_grips_107 : decode cX11_grips 107 = .ok (.iconst 3, 1) := by decide +kernel
theorem dX11_grips_108 : decode cX11_grips 108 = .ok (.if_icmp .ne 7, 3) := by decide +kernel
theorem dX11_grips_111 : decode cX11_grips 111 = .ok (.iconst 1, 1) := by decide +kernel
theorem dX11_grips_112 : decode cX11_grips 112 = .ok (.goto 4, 3) := by decide +kernel
theorem dX11_grips_115 : decode cX11_grips 115 = .ok (.iconst 0, 1) := by decide +kernel
theorem dX11_grips_116 : decode cX11_grips 116 = .ok (.invokevirtual 175, 3) := by decide +kernel
theorem dX11_grips_119 : decode cX11_grips 119 = .ok (.return_, 1) := by decide +kernel
theorem dX11_gripsAsTold_0 : decode cX11_gripsAsTold 0 = .ok (.aload_n 0, 1) := by decide +kernel
theorem dX11_gripsAsTold_1 : decode cX11_gripsAsTold 1 = .ok (.getfield 58, 3) := by decide +kernel
theorem dX11_gripsAsTold_4 : decode cX11_gripsAsTold 4 = .ok (.getfield 118, 3) := by decide +kernel
theorem dX11_gripsAsTold_7 : decode cX11_gripsAsTold 7 = .ok (.iload_n 1, 1) := by decide +kernel
theorem dX11_gripsAsTold_8 : decode cX11_gripsAsTold 8 = .ok (.aaload, 1) := by decide +kernel
theorem dX11_gripsAsTold_9 : decode cX11_gripsAsTold 9 = .ok (.astore 4, 2) := by decide +kernel
theorem dX11_gripsAsTold_11 : decode cX11_gripsAsTold 11 = .ok (.aload 4, 2) := by decide +kernel
theorem dX11_gripsAsTold_13 : decode cX11_gripsAsTold 13 = .ok (.iconst 0, 1) := by decide +kernel
theorem dX11_gripsAsTold_14 : decode cX11_gripsAsTold 14 = .ok (.aload_n 0, 1) := by decide +kernel
theorem dX11_gripsAsTold_15 : decode cX11_gripsAsTold 15 = .ok (.getfield 58, 3) := by decide +kernel
theorem dX11_gripsAsTold_18 : decode cX11_gripsAsTold 18 = .ok (.getfield 142, 3) := by decide +kernel
theorem dX11_gripsAsTold_21 : decode cX11_gripsAsTold 21 = .ok (.iload_n 2, 1) := by decide +kernel
theorem dX11_gripsAsTold_22 : decode cX11_gripsAsTold 22 = .ok (.aaload, 1) := by decide +kernel
theorem dX11_gripsAsTold_23 : decode cX11_gripsAsTold 23 = .ok (.invokevirtual 409, 3) := by decide +kernel
theorem dX11_gripsAsTold_26 : decode cX11_gripsAsTold 26 = .ok (.istore 5, 2) := by decide +kernel
theorem dX11_gripsAsTold_28 : decode cX11_gripsAsTold 28 = .ok (.aload 4, 2) := by decide +kernel
theorem dX11_gripsAsTold_30 : decode cX11_gripsAsTold 30 = .ok (.iconst 1, 1) := by decide +kernel
theorem dX11_gripsAsTold_31 : decode cX11_gripsAsTold 31 = .ok (.aload_n 0, 1) := by decide +kernel
theorem dX11_gripsAsTold_32 : decode cX11_gripsAsTold 32 = .ok (.getfield 58, 3) := by decide +kernel
theorem dX11_gripsAsTold_35 : decode cX11_gripsAsTold 35 = .ok (.getfield 142, 3) := by decide +kernel
theorem dX11_gripsAsTold_38 : decode cX11_gripsAsTold 38 = .ok (.iload_n 3, 1) := by decide +kernel
theorem dX11_gripsAsTold_39 : decode cX11_gripsAsTold 39 = .ok (.aaload, 1) := by decide +kernel
theorem dX11_gripsAsTold_40 : decode cX11_gripsAsTold 40 = .ok (.invokevirtual 409, 3) := by decide +kernel
theorem dX11_gripsAsTold_43 : decode cX11_gripsAsTold 43 = .ok (.istore 6, 2) := by decide +kernel
theorem dX11_gripsAsTold_45 : decode cX11_gripsAsTold 45 = .ok (.aload_n 0, 1) := by decide +kernel
theorem dX11_gripsAsTold_46 : decode cX11_gripsAsTold 46 = .ok (.iload_n 1, 1) := by decide +kernel
theorem dX11_gripsAsTold_47 : decode cX11_gripsAsTold 47 = .ok (.iload_n 2, 1) := by decide +kernel
theorem dX11_gripsAsTold_48 : decode cX11_gripsAsTold 48 = .ok (.iload 5, 2) := by decide +kernel
theorem dX11_gripsAsTold_50 : decode cX11_gripsAsTold 50 = .ok (.iload_n 3, 1) := by decide +kernel
theorem dX11_gripsAsTold_51 : decode cX11_gripsAsTold 51 = .ok (.iload 6, 2) := by decide +kernel
theorem dX11_gripsAsTold_53 : decode cX11_gripsAsTold 53 = .ok (.iconst 2, 1) := by decide +kernel
theorem dX11_gripsAsTold_54 : decode cX11_gripsAsTold 54 = .ok (.invokevirtual 406, 3) := by decide +kernel
theorem dX11_gripsAsTold_57 : decode cX11_gripsAsTold 57 = .ok (.return_, 1) := by decide +kernel
theorem dX11_playNow_0 : decode cX11_playNow 0 = .ok (.aload_n 0, 1) := by decide +kernel
theorem dX11_playNow_1 : decode cX11_playNow 1 = .ok (.iload_n 1, 1) := by decide +kernel
theorem dX11_playNow_2 : decode cX11_playNow 2 = .ok (.invokevirtual 168, 3) := by decide +kernel
theorem dX11_playNow_5 : decode cX11_playNow 5 = .ok (.aload_n 0, 1) := by decide +kernel
theorem dX11_playNow_6 : decode cX11_playNow 6 = .ok (.getfield 40, 3) := by decide +kernel
theorem dX11_playNow_9 : decode cX11_playNow 9 = .ok (.aload_n 0, 1) := by decide +kernel
theorem dX11_playNow_10 : decode cX11_playNow 10 = .ok (.getfield 33, 3) := by decide +kernel
theorem dX11_playNow_13 : decode cX11_playNow 13 = .ok (.aload_n 0, 1) := by decide +kernel
theorem dX11_playNow_14 : decode cX11_playNow 14 = .ok (.getfield 58, 3) := by decide +kernel
theorem dX11_playNow_17 : decode cX11_playNow 17 = .ok (.getfield 118, 3) := by decide +kernel
theorem dX11_playNow_20 : decode cX11_playNow 20 = .ok (.iload_n 1, 1) := by decide +kernel
theorem dX11_playNow_21 : decode cX11_playNow 21 = .ok (.aaload, 1) := by decide +kernel
theorem dX11_playNow_22 : decode cX11_playNow 22 = .ok (.aload_n 0, 1) := by decide +kernel
theorem dX11_playNow_23 : decode cX11_playNow 23 = .ok (.getfield 58, 3) := by decide +kernel
theorem dX11_playNow_26 : decode cX11_playNow 26 = .ok (.getfield 142, 3) := by decide +kernel
theorem dX11_playNow_29 : decode cX11_playNow 29 = .ok (.iload_n 2, 1) := by decide +kernel
theorem dX11_playNow_30 : decode cX11_playNow 30 = .ok (.aaload, 1) := by decide +kernel
theorem dX11_playNow_31 : decode cX11_playNow 31 = .ok (.aload_n 0, 1) := by decide +kernel
theorem dX11_playNow_32 : decode cX11_playNow 32 = .ok (.getfield 58, 3) := by decide +kernel
theorem dX11_playNow_35 : decode cX11_playNow 35 = .ok (.getfield 142, 3) := by decide +kernel
theorem dX11_playNow_38 : decode cX11_playNow 38 = .ok (.iload_n 3, 1) := by decide +kernel
theorem dX11_playNow_39 : decode cX11_playNow 39 = .ok (.aaload, 1) := by decide +kernel
theorem dX11_playNow_40 : decode cX11_playNow 40 = .ok (.invokevirtual 413, 3) := by decide +kernel
theorem dX11_playNow_43 : decode cX11_playNow 43 = .ok (.return_, 1) := by decide +kernel
theorem dX11_leftOddsDried_0 : decode cX11_leftOddsDried 0 = .ok (.aload_n 0, 1) := by decide +kernel
theorem dX11_leftOddsDried_1 : decode cX11_leftOddsDried 1 = .ok (.getfield 33, 3) := by decide +kernel
theorem dX11_leftOddsDried_4 : decode cX11_leftOddsDried 4 = .ok (.aload_n 0, 1) := by decide +kernel
theorem dX11_leftOddsDried_5 : decode cX11_leftOddsDried 5 = .ok (.getfield 58, 3) := by decide +kernel
theorem dX11_leftOddsDried_8 : decode cX11_leftOddsDried 8 = .ok (.aload_n 0, 1) := by decide +kernel
theorem dX11_leftOddsDried_9 : decode cX11_leftOddsDried 9 = .ok (.getfield 19, 3) := by decide +kernel
theorem dX11_leftOddsDried_12 : decode cX11_leftOddsDried 12 = .ok (.getfield 112, 3) := by decide +kernel
theorem dX11_leftOddsDried_15 : decode cX11_leftOddsDried 15 = .ok (.iload_n 1, 1) := by decide +kernel
theorem dX11_leftOddsDried_16 : decode cX11_leftOddsDried 16 = .ok (.iaload, 1) := by decide +kernel
theorem dX11_leftOddsDried_17 : decode cX11_leftOddsDried 17 = .ok (.iload 4, 2) := by decide +kernel
theorem dX11_leftOddsDried_19 : decode cX11_leftOddsDried 19 = .ok (.invokevirtual 402, 3) := by decide +kernel
theorem dX11_leftOddsDried_22 : decode cX11_leftOddsDried 22 = .ok (.aload_n 0, 1) := by decide +kernel
theorem dX11_leftOddsDried_23 : decode cX11_leftOddsDried 23 = .ok (.iload_n 1, 1) := by decide +kernel
theorem dX11_leftOddsDried_24 : decode cX11_leftOddsDried 24 = .ok (.iload_n 2, 1) := by decide +kernel
theorem dX11_leftOddsDried_25 : decode cX11_leftOddsDried 25 = .ok (.iload_n 3, 1) := by decide +kernel
theorem dX11_leftOddsDried_26 : decode cX11_leftOddsDried 26 = .ok (.invokevirtual 417, 3) := by decide +kernel
theorem dX11_leftOddsDried_29 : decode cX11_leftOddsDried 29 = .ok (.aload_n 0, 1) := by decide +kernel
theorem dX11_leftOddsDried_30 : decode cX11_leftOddsDried 30 = .ok (.getfield 33, 3) := by decide +kernel
theorem dX11_leftOddsDried_33 : decode cX11_leftOddsDried 33 = .ok (.invokevirtual 209, 3) := by decide +kernel
theorem dX11_leftOddsDried_36 : decode cX11_leftOddsDried 36 = .ok (.aload_n 0, 1) := by decide +kernel
theorem dX11_leftOddsDried_37 : decode cX11_leftOddsDried 37 = .ok (.getfield 33, 3) := by decide +kernel
theorem dX11_leftOddsDried_40 : decode cX11_leftOddsDried 40 = .ok (.getfield 212, 3) := by decide +kernel
theorem dX11_leftOddsDried_43 : decode cX11_leftOddsDried 43 = .ok (.iconst 0, 1) := by decide +kernel
theorem dX11_leftOddsDried_44 : decode cX11_leftOddsDried 44 = .ok (.iaload, 1) := by decide +kernel
theorem dX11_leftOddsDried_45 : decode cX11_leftOddsDried 45 = .ok (.ireturn, 1) := by decide +kernel
theorem dX11_twiceByLaw_0 : decode cX11_twiceByLaw 0 = .ok (.aload_n 0, 1) := by decide +kernel
theorem dX11_twiceByLaw_1 : decode cX11_twiceByLaw 1 = .ok (.iload_n 2, 1) := by decide +kernel
theorem dX11_twiceByLaw_2 : decode cX11_twiceByLaw 2 = .ok (.invokevirtual 168, 3) := by decide +kernel
theorem dX11_twiceByLaw_5 : decode cX11_twiceByLaw 5 = .ok (.aload_n 0, 1) := by decide +kernel
theorem dX11_twiceByLaw_6 : decode cX11_twiceByLaw 6 = .ok (.iload_n 2, 1) := by decide +kernel
theorem dX11_twiceByLaw_7 : decode cX11_twiceByLaw 7 = .ok (.iload 4, 2) := by decide +kernel
theorem dX11_twiceByLaw_9 : decode cX11_twiceByLaw 9 = .ok (.iload_n 3, 1) := by decide +kernel
theorem dX11_twiceByLaw_10 : decode cX11_twiceByLaw 10 = .ok (.invokevirtual 417, 3) := by decide +kernel
theorem dX11_twiceByLaw_13 : decode cX11_twiceByLaw 13 = .ok (.aload_n 0, 1) := by decide +kernel
theorem dX11_twiceByLaw_14 : decode cX11_twiceByLaw 14 = .ok (.getfield 33, 3) := by decide +kernel
theorem dX11_twiceByLaw_17 : decode cX11_twiceByLaw 17 = .ok (.invokevirtual 209, 3) := by decide +kernel
theorem dX11_twiceByLaw_20 : decode cX11_twiceByLaw 20 = .ok (.aload_n 0, 1) := by decide +kernel
theorem dX11_twiceByLaw_21 : decode cX11_twiceByLaw 21 = .ok (.getfield 33, 3) := by decide +kernel
theorem dX11_twiceByLaw_24 : decode cX11_twiceByLaw 24 = .ok (.getfield 212, 3) := by decide +kernel
theorem dX11_twiceByLaw_27 : decode cX11_twiceByLaw 27 = .ok (.iconst 0, 1) := by decide +kernel
theorem dX11_twiceByLaw_28 : decode cX11_twiceByLaw 28 = .ok (.iaload, 1) := by decide +kernel
theorem dX11_twiceByLaw_29 : decode cX11_twiceByLaw 29 = .ok (.istore 5, 2) := by decide +kernel
theorem dX11_twiceByLaw_31 : decode cX11_twiceByLaw 31 = .ok (.aload_n 0, 1) := by decide +kernel
theorem dX11_twiceByLaw_32 : decode cX11_twiceByLaw 32 = .ok (.getfield 33, 3) := by decide +kernel
theorem dX11_twiceByLaw_35 : decode cX11_twiceByLaw 35 = .ok (.getfield 212, 3) := by decide +kernel
theorem dX11_twiceByLaw_38 : decode cX11_twiceByLaw 38 = .ok (.iconst 1, 1) := by decide +kernel
theorem dX11_twiceByLaw_39 : decode cX11_twiceByLaw 39 = .ok (.iaload, 1) := by decide +kernel
theorem dX11_twiceByLaw_40 : decode cX11_twiceByLaw 40 = .ok (.istore 6, 2) := by decide +kernel
theorem dX11_twiceByLaw_42 : decode cX11_twiceByLaw 42 = .ok (.aload_n 0, 1) := by decide +kernel
theorem dX11_twiceByLaw_43 : decode cX11_twiceByLaw 43 = .ok (.iload_n 2, 1) := by decide +kernel
theorem dX11_twiceByLaw_44 : decode cX11_twiceByLaw 44 = .ok (.iload_n 3, 1) := by decide +kernel
theorem dX11_twiceByLaw_45 : decode cX11_twiceByLaw 45 = .ok (.iload 4, 2) := by decide +kernel
theorem dX11_twiceByLaw_47 : decode cX11_twiceByLaw 47 = .ok (.invokevirtual 417, 3) := by decide +kernel
theorem dX11_twiceByLaw_50 : decode cX11_twiceByLaw 50 = .ok (.aload_n 0, 1) := by decide +kernel
theorem dX11_twiceByLaw_51 : decode cX11_twiceByLaw 51 = .ok (.getfield 33, 3) := by decide +kernel
theorem dX11_twiceByLaw_54 : decode cX11_twiceByLaw 54 = .ok (.invokevirtual 209, 3) := by decide +kernel
theorem dX11_twiceByLaw_57 : decode cX11_twiceByLaw 57 = .ok (.aload_n 0, 1) := by decide +kernel
theorem dX11_twiceByLaw_58 : decode cX11_twiceByLaw 58 = .ok (.getfield 33, 3) := by decide +kernel
theorem dX11_twiceByLaw_61 : decode cX11_twiceByLaw 61 = .ok (.getfield 212, 3) := by decide +kernel
theorem dX11_twiceByLaw_64 : decode cX11_twiceByLaw 64 = .ok (.iconst 0, 1) := by decide +kernel
theorem dX11_twiceByLaw_65 : decode cX11_twiceByLaw 65 = .ok (.iaload, 1) := by decide +kernel
theorem dX11_twiceByLaw_66 : decode cX11_twiceByLaw 66 = .ok (.istore 7, 2) := by decide +kernel
theorem dX11_twiceByLaw_68 : decode cX11_twiceByLaw 68 = .ok (.aload_n 0, 1) := by decide +kernel
theorem dX11_twiceByLaw_69 : decode cX11_twiceByLaw 69 = .ok (.getfield 33, 3) := by decide +kernel
theorem dX11_twiceByLaw_72 : decode cX11_twiceByLaw 72 = .ok (.getfield 212, 3) := by decide +kernel
theorem dX11_twiceByLaw_75 : decode cX11_twiceByLaw 75 = .ok (.iconst 1, 1) := by decide +kernel
theorem dX11_twiceByLaw_76 : decode cX11_twiceByLaw 76 = .ok (.iaload, 1) := by decide +kernel
theorem dX11_twiceByLaw_77 : decode cX11_twiceByLaw 77 = .ok (.istore 8, 2) := by decide +kernel
theorem dX11_twiceByLaw_79 : decode cX11_twiceByLaw 79 = .ok (.iload_n 1, 1) := by decide +kernel
theorem dX11_twiceByLaw_80 : decode cX11_twiceByLaw 80 = .ok (.tableswitch 80 0 2 #[28, 33, 56], 28) := by decide +kernel
theorem dX11_twiceByLaw_108 : decode cX11_twiceByLaw 108 = .ok (.iconst 2, 1) := by decide +kernel
theorem dX11_twiceByLaw_109 : decode cX11_twiceByLaw 109 = .ok (.iload 7, 2) := by decide +kernel
theorem dX11_twiceByLaw_111 : decode cX11_twiceByLaw 111 = .ok (.imul, 1) := by decide +kernel
theorem dX11_twiceByLaw_112 : decode cX11_twiceByLaw 112 = .ok (.ireturn, 1) := by decide +kernel
theorem dX11_twiceByLaw_113 : decode cX11_twiceByLaw 113 = .ok (.iconst 2, 1) := by decide +kernel
theorem dX11_twiceByLaw_114 : decode cX11_twiceByLaw 114 = .ok (.aload_n 0, 1) := by decide +kernel
theorem dX11_twiceByLaw_115 : decode cX11_twiceByLaw 115 = .ok (.iload_n 2, 1) := by decide +kernel
theorem dX11_twiceByLaw_116 : decode cX11_twiceByLaw 116 = .ok (.iload_n 3, 1) := by decide +kernel
theorem dX11_twiceByLaw_117 : decode cX11_twiceByLaw 117 = .ok (.iload 7, 2) := by decide +kernel
theorem dX11_twiceByLaw_119 : decode cX11_twiceByLaw 119 = .ok (.iload 6, 2) := by decide +kernel
theorem dX11_twiceByLaw_121 : decode cX11_twiceByLaw 121 = .ok (.invokevirtual 420, 3) := by decide +kernel
theorem dX11_twiceByLaw_124 : decode cX11_twiceByLaw 124 = .ok (.ifCond .eq 8, 3) := by decide +kernel
theorem dX11_twiceByLaw_127 : decode cX11_twiceByLaw 127 = .ok (.iload 7, 2) := by decide +kernel
theorem dX11_twiceByLaw_129 : decode cX11_twiceByLaw 129 = .ok (.goto 5, 3) := by decide +kernel
theorem dX11_twiceByLaw_132 : decode cX11_twiceByLaw 132 = .ok (.iload 6, 2) := by decide +kernel
theorem dX11_twiceByLaw_134 : decode cX11_twiceByLaw 134 = .ok (.imul, 1) := by decide +kernel
theorem dX11_twiceByLaw_135 : decode cX11_twiceByLaw 135 = .ok (.ireturn, 1) := by decide +kernel
theorem dX11_twiceByLaw_136 : decode cX11_twiceByLaw 136 = .ok (.iconst 2, 1) := by decide +kernel
theorem dX11_twiceByLaw_137 : decode cX11_twiceByLaw 137 = .ok (.aload_n 0, 1) := by decide +kernel
theorem dX11_twiceByLaw_138 : decode cX11_twiceByLaw 138 = .ok (.iload_n 2, 1) := by decide +kernel
theorem dX11_twiceByLaw_139 : decode cX11_twiceByLaw 139 = .ok (.iload 4, 2) := by decide +kernel
theorem dX11_twiceByLaw_141 : decode cX11_twiceByLaw 141 = .ok (.iload 5, 2) := by decide +kernel
theorem dX11_twiceByLaw_143 : decode cX11_twiceByLaw 143 = .ok (.iload 8, 2) := by decide +kernel
theorem dX11_twiceByLaw_145 : decode cX11_twiceByLaw 145 = .ok (.invokevirtual 420, 3) := by decide +kernel
theorem dX11_twiceByLaw_148 : decode cX11_twiceByLaw 148 = .ok (.ifCond .eq 8, 3) := by decide +kernel
theorem dX11_twiceByLaw_151 : decode cX11_twiceByLaw 151 = .ok (.iload 6, 2) := by decide +kernel
theorem dX11_twiceByLaw_153 : decode cX11_twiceByLaw 153 = .ok (.goto 5, 3) := by decide +kernel
theorem dX11_twiceByLaw_156 : decode cX11_twiceByLaw 156 = .ok (.iload 7, 2) := by decide +kernel
theorem dX11_twiceByLaw_158 : decode cX11_twiceByLaw 158 = .ok (.imul, 1) := by decide +kernel
theorem dX11_twiceByLaw_159 : decode cX11_twiceByLaw 159 = .ok (.ireturn, 1) := by decide +kernel
theorem dX11_twiceByLaw_160 : decode cX11_twiceByLaw 160 = .ok (.iload 7, 2) := by decide +kernel
theorem dX11_twiceByLaw_162 : decode cX11_twiceByLaw 162 = .ok (.iload 6, 2) := by decide +kernel
theorem dX11_twiceByLaw_164 : decode cX11_twiceByLaw 164 = .ok (.iadd, 1) := by decide +kernel
theorem dX11_twiceByLaw_165 : decode cX11_twiceByLaw 165 = .ok (.ireturn, 1) := by decide +kernel
theorem dX11_takesLeft_0 : decode cX11_takesLeft 0 = .ok (.aload_n 0, 1) := by decide +kernel
theorem dX11_takesLeft_1 : decode cX11_takesLeft 1 = .ok (.getfield 58, 3) := by decide +kernel
theorem dX11_takesLeft_4 : decode cX11_takesLeft 4 = .ok (.getfield 142, 3) := by decide +kernel
theorem dX11_takesLeft_7 : decode cX11_takesLeft 7 = .ok (.iload_n 2, 1) := by decide +kernel
theorem dX11_takesLeft_8 : decode cX11_takesLeft 8 = .ok (.aaload, 1) := by decide +kernel
theorem dX11_takesLeft_9 : decode cX11_takesLeft 9 = .ok (.getfield 146, 3) := by decide +kernel
theorem dX11_takesLeft_12 : decode cX11_takesLeft 12 = .ok (.iconst 1, 1) := by decide +kernel
theorem dX11_takesLeft_13 : decode cX11_takesLeft 13 = .ok (.if_icmp .ne 38, 3) := by decide +kernel
theorem dX11_takesLeft_16 : decode cX11_takesLeft 16 = .ok (.aload_n 0, 1) := by decide +kernel
theorem dX11_takesLeft_17 : decode cX11_takesLeft 17 = .ok (.getfield 58, 3) := by decide +kernel
theorem dX11_takesLeft_20 : decode cX11_takesLeft 20 = .ok (.getfield 118, 3) := by decide +kernel
theorem dX11_takesLeft_23 : decode cX11_takesLeft 23 = .ok (.iload_n 1, 1) := by decide +kernel
theorem dX11_takesLeft_24 : decode cX11_takesLeft 24 = .ok (.aaload, 1) := by decide +kernel
theorem dX11_takesLeft_25 : decode cX11_takesLeft 25 = .ok (.iconst 0, 1) := by decide +kernel
theorem dX11_takesLeft_26 : decode cX11_takesLeft 26 = .ok (.invokevirtual 424, 3) := by decide +kernel
theorem dX11_takesLeft_29 : decode cX11_takesLeft 29 = .ok (.aload_n 0, 1) := by decide +kernel
theorem dX11_takesLeft_30 : decode cX11_takesLeft 30 = .ok (.getfield 58, 3) := by decide +kernel
theorem dX11_takesLeft_33 : decode cX11_takesLeft 33 = .ok (.getfield 118, 3) := by decide +kernel
theorem dX11_takesLeft_36 : decode cX11_takesLeft 36 = .ok (.iload_n 1, 1) := by decide +kernel
theorem dX11_takesLeft_37 : decode cX11_takesLeft 37 = .ok (.aaload, 1) := by decide +kernel
theorem dX11_takesLeft_38 : decode cX11_takesLeft 38 = .ok (.iconst 1, 1) := by decide +kernel
theorem dX11_takesLeft_39 : decode cX11_takesLeft 39 = .ok (.invokevirtual 424, 3) := by decide +kernel
theorem dX11_takesLeft_42 : decode cX11_takesLeft 42 = .ok (.if_icmp .lt 7, 3) := by decide +kernel
theorem dX11_takesLeft_45 : decode cX11_takesLeft 45 = .ok (.iconst 1, 1) := by decide +kernel
theorem dX11_takesLeft_46 : decode cX11_takesLeft 46 = .ok (.goto 4, 3) := by decide +kernel
theorem dX11_takesLeft_49 : decode cX11_takesLeft 49 = .ok (.iconst 0, 1) := by decide +kernel
theorem dX11_takesLeft_50 : decode cX11_takesLeft 50 = .ok (.ireturn, 1) := by decide +kernel
theorem dX11_takesLeft_51 : decode cX11_takesLeft 51 = .ok (.iload_n 3, 1) := by decide +kernel
theorem dX11_takesLeft_52 : decode cX11_takesLeft 52 = .ok (.iload 4, 2) := by decide +kernel
theorem dX11_takesLeft_54 : decode cX11_takesLeft 54 = .ok (.if_icmp .lt 7, 3) := by decide +kernel
theorem dX11_takesLeft_57 : decode cX11_takesLeft 57 = .ok (.iconst 1, 1) := by decide +kernel
theorem dX11_takesLeft_58 : decode cX11_takesLeft 58 = .ok (.goto 4, 3) := by decide +kernel
theorem dX11_takesLeft_61 : decode cX11_takesLeft 61 = .ok (.iconst 0, 1) := by decide +kernel
theorem dX11_takesLeft_62 : decode cX11_takesLeft 62 = .ok (.ireturn, 1) := by decide +kernel
theorem dX11_searchKnob_0 : decode cX11_searchKnob 0 = .ok (.bipush 10, 2) := by decide +kernel
theorem dX11_searchKnob_2 : decode cX11_searchKnob 2 = .ok (.aload_n 0, 1) := by decide +kernel
theorem dX11_searchKnob_3 : decode cX11_searchKnob 3 = .ok (.getfield 58, 3) := by decide +kernel
theorem dX11_searchKnob_6 : decode cX11_searchKnob 6 = .ok (.getfield 427, 3) := by decide +kernel
theorem dX11_searchKnob_9 : decode cX11_searchKnob 9 = .ok (.iload_n 1, 1) := by decide +kernel
theorem dX11_searchKnob_10 : decode cX11_searchKnob 10 = .ok (.iaload, 1) := by decide +kernel
theorem dX11_searchKnob_11 : decode cX11_searchKnob 11 = .ok (.imul, 1) := by decide +kernel
theorem dX11_searchKnob_12 : decode cX11_searchKnob 12 = .ok (.aload_n 0, 1) := by decide +kernel
theorem dX11_searchKnob_13 : decode cX11_searchKnob 13 = .ok (.getfield 58, 3) := by decide +kernel
theorem dX11_searchKnob_16 : decode cX11_searchKnob 16 = .ok (.getfield 430, 3) := by decide +kernel
theorem dX11_searchKnob_19 : decode cX11_searchKnob 19 = .ok (.iload_n 1, 1) := by decide +kernel
theorem dX11_searchKnob_20 : decode cX11_searchKnob 20 = .ok (.iaload, 1) := by decide +kernel
theorem dX11_searchKnob_21 : decode cX11_searchKnob 21 = .ok (.iadd, 1) := by decide +kernel
theorem dX11_searchKnob_22 : decode cX11_searchKnob 22 = .ok (.istore_n 3, 1) := by decide +kernel
theorem dX11_searchKnob_23 : decode cX11_searchKnob 23 = .ok (.iconst 0, 1) := by decide +kernel
theorem dX11_searchKnob_24 : decode cX11_searchKnob 24 = .ok (.istore 4, 2) := by decide +kernel
theorem dX11_searchKnob_26 : decode cX11_searchKnob 26 = .ok (.iconst 0, 1) := by decide +kernel
theorem dX11_searchKnob_27 : decode cX11_searchKnob 27 = .ok (.istore 5, 2) := by decide +kernel
theorem dX11_searchKnob_29 : decode cX11_searchKnob 29 = .ok (.iconst 0, 1) := by decide +kernel
theorem dX11_searchKnob_30 : decode cX11_searchKnob 30 = .ok (.istore 6, 2) := by decide +kernel
theorem dX11_searchKnob_32 : decode cX11_searchKnob 32 = .ok (.iload 6, 2) := by decide +kernel
theorem dX11_searchKnob_34 : decode cX11_searchKnob 34 = .ok (.aload_n 0, 1) := by decide +kernel
theorem dX11_searchKnob_35 : decode cX11_searchKnob 35 = .ok (.getfield 58, 3) := by decide +kernel
theorem dX11_searchKnob_38 : decode cX11_searchKnob 38 = .ok (.getfield 100, 3) := by decide +kernel
theorem dX11_searchKnob_41 : decode cX11_searchKnob 41 = .ok (.if_icmp .ge 107, 3) := by decide +kernel
theorem dX11_searchKnob_44 : decode cX11_searchKnob 44 = .ok (.aload_n 0, 1) := by decide +kernel
theorem dX11_searchKnob_45 : decode cX11_searchKnob 45 = .ok (.iload 6, 2) := by decide +kernel
theorem dX11_searchKnob_47 : decode cX11_searchKnob 47 = .ok (.invokevirtual 168, 3) := by decide +kernel
theorem dX11_searchKnob_50 : decode cX11_searchKnob 50 = .ok (.iconst 0, 1) := by decide +kernel
theorem dX11_searchKnob_51 : decode cX11_searchKnob 51 = .ok (.istore 7, 2) := by decide +kernel
theorem dX11_searchKnob_53 : decode cX11_searchKnob 53 = .ok (.iload 7, 2) := by decide +kernel
theorem dX11_searchKnob_55 : decode cX11_searchKnob 55 = .ok (.aload_n 0, 1) := by decide +kernel
theorem dX11_searchKnob_56 : decode cX11_searchKnob 56 = .ok (.getfield 58, 3) := by decide +kernel
theorem dX11_searchKnob_59 : decode cX11_searchKnob 59 = .ok (.getfield 270, 3) := by decide +kernel
theorem dX11_searchKnob_62 : decode cX11_searchKnob 62 = .ok (.if_icmp .ge 80, 3) := by decide +kernel
theorem dX11_searchKnob_65 : decode cX11_searchKnob 65 = .ok (.iconst 0, 1) := by decide +kernel
theorem dX11_searchKnob_66 : decode cX11_searchKnob 66 = .ok (.istore 8, 2) := by decide +kernel
theorem dX11_searchKnob_68 : decode cX11_searchKnob 68 = .ok (.iload 8, 2) := by decide +kernel
theorem dX11_searchKnob_70 : decode cX11_searchKnob 70 = .ok (.aload_n 0, 1) := by decide +kernel
theorem dX11_searchKnob_71 : decode cX11_searchKnob 71 = .ok (.getfield 58, 3) := by decide +kernel
theorem dX11_searchKnob_74 : decode cX11_searchKnob 74 = .ok (.getfield 270, 3) := by decide +kernel
theorem dX11_searchKnob_77 : decode cX11_searchKnob 77 = .ok (.if_icmp .ge 59, 3) := by decide +kernel
theorem dX11_searchKnob_80 : decode cX11_searchKnob 80 = .ok (.iload 7, 2) := by decide +kernel
theorem dX11_searchKnob_82 : decode cX11_searchKnob 82 = .ok (.iload 8, 2) := by decide +kernel
theorem dX11_searchKnob_84 : decode cX11_searchKnob 84 = .ok (.if_icmp .eq 46, 3) := by decide +kernel
theorem dX11_searchKnob_87 : decode cX11_searchKnob 87 = .ok (.aload_n 0, 1) := by decide +kernel
theorem dX11_searchKnob_88 : decode cX11_searchKnob 88 = .ok (.iload 6, 2) := by decide +kernel
theorem dX11_searchKnob_90 : decode cX11_searchKnob 90 = .ok (.iload 7, 2) := by decide +kernel
theorem dX11_searchKnob_92 : decode cX11_searchKnob 92 = .ok (.iload 8, 2) := by decide +kernel
theorem dX11_searchKnob_94 : decode cX11_searchKnob 94 = .ok (.invokevirtual 433, 3) := by decide +kernel
theorem dX11_searchKnob_97 : decode cX11_searchKnob 97 = .ok (.iload_n 3, 1) := by decide +kernel
theorem dX11_searchKnob_98 : decode cX11_searchKnob 98 = .ok (.if_icmp .ne 32, 3) := by decide +kernel
theorem dX11_searchKnob_101 : decode cX11_searchKnob 101 = .ok (.iinc 4 1, 3) := by decide +kernel
theorem dX11_searchKnob_104 : decode cX11_searchKnob 104 = .ok (.iload 5, 2) := by decide +kernel
theorem dX11_searchKnob_106 : decode cX11_searchKnob 106 = .ok (.iconst 1, 1) := by decide +kernel
theorem dX11_searchKnob_107 : decode cX11_searchKnob 107 = .ok (.aload_n 0, 1) := by decide +kernel
theorem dX11_searchKnob_108 : decode cX11_searchKnob 108 = .ok (.getfield 58, 3) := by decide +kernel
theorem dX11_searchKnob_111 : decode cX11_searchKnob 111 = .ok (.getfield 427, 3) := by decide +kernel
theorem dX11_searchKnob_114 : decode cX11_searchKnob 114 = .ok (.iload_n 1, 1) := by decide +kernel
theorem dX11_searchKnob_115 : decode cX11_searchKnob 115 = .ok (.iaload, 1) := by decide +kernel
theorem dX11_searchKnob_116 : decode cX11_searchKnob 116 = .ok (.ifCond .ne 8, 3) := by decide +kernel
theorem dX11_searchKnob_119 : decode cX11_searchKnob 119 = .ok (.iload 8, 2) := by decide +kernel
theorem dX11_searchKnob_121 : decode cX11_searchKnob 121 = .ok (.goto 5, 3) := by decide +kernel
theorem dX11_searchKnob_124 : decode cX11_searchKnob 124 = .ok (.iload 7, 2) := by decide +kernel
theorem dX11_searchKnob_126 : decode cX11_searchKnob 126 = .ok (.ishl, 1) := by decide +kernel
theorem dX11_searchKnob_127 : decode cX11_searchKnob 127 = .ok (.ior, 1) := by decide +kernel
theorem dX11_searchKnob_128 : decode cX11_searchKnob 128 = .ok (.istore 5, 2) := by decide +kernel
theorem dX11_searchKnob_130 : decode cX11_searchKnob 130 = .ok (.iinc 8 1, 3) := by decide +kernel
theorem dX11_searchKnob_133 : decode cX11_searchKnob 133 = .ok (.goto (-65), 3) := by decide +kernel
theorem dX11_searchKnob_136 : decode cX11_searchKnob 136 = .ok (.iinc 7 1, 3) := by decide +kernel
theorem dX11_searchKnob_139 : decode cX11_searchKnob 139 = .ok (.goto (-86), 3) := by decide +kernel
theorem dX11_searchKnob_142 : decode cX11_searchKnob 142 = .ok (.iinc 6 1, 3) := by decide +kernel
theorem dX11_searchKnob_145 : decode cX11_searchKnob 145 = .ok (.goto (-113), 3) := by decide +kernel
theorem dX11_searchKnob_148 : decode cX11_searchKnob 148 = .ok (.iload_n 2, 1) := by decide +kernel
theorem dX11_searchKnob_149 : decode cX11_searchKnob 149 = .ok (.ifCond .eq 8, 3) := by decide +kernel
theorem dX11_searchKnob_152 : decode cX11_searchKnob 152 = .ok (.iload 5, 2) := by decide +kernel
theorem dX11_searchKnob_154 : decode cX11_searchKnob 154 = .ok (.goto 5, 3) := by decide +kernel
theorem dX11_searchKnob_157 : decode cX11_searchKnob 157 = .ok (.iload 4, 2) := by decide +kernel
theorem dX11_searchKnob_159 : decode cX11_searchKnob 159 = .ok (.ireturn, 1) := by decide +kernel
theorem dX11_breaksAsTold_0 : decode cX11_breaksAsTold 0 = .ok (.aload_n 0, 1) := by decide +kernel
theorem dX11_breaksAsTold_1 : decode cX11_breaksAsTold 1 = .ok (.iload_n 1, 1) := by decide +kernel
theorem dX11_breaksAsTold_2 : decode cX11_breaksAsTold 2 = .ok (.iload_n 2, 1) := by decide +kernel
theorem dX11_breaksAsTold_3 : decode cX11_breaksAsTold 3 = .ok (.iload_n 3, 1) := by decide +kernel
theorem dX11_breaksAsTold_4 : decode cX11_breaksAsTold 4 = .ok (.invokevirtual 417, 3) := by decide +kernel
theorem dX11_breaksAsTold_7 : decode cX11_breaksAsTold 7 = .ok (.aload_n 0, 1) := by decide +kernel
theorem dX11_breaksAsTold_8 : decode cX11_breaksAsTold 8 = .ok (.getfield 33, 3) := by decide +kernel
theorem dX11_breaksAsTold_11 : decode cX11_breaksAsTold 11 = .ok (.invokevirtual 201, 3) := by decide +kernel
theorem dX11_breaksAsTold_14 : decode cX11_breaksAsTold 14 = .ok (.ireturn, 1) := by decide +kernel
theorem dX11_part_0 : decode cX11_part 0 = .ok (.lload_n 0, 1) := by decide +kernel
theorem dX11_part_1 : decode cX11_part 1 = .ok (.lstore 5, 2) := by decide +kernel
theorem dX11_part_3 : decode cX11_part 3 = .ok (.lload_n 2, 1) := by decide +kernel
theorem dX11_part_4 : decode cX11_part 4 = .ok (.lstore 7, 2) := by decide +kernel
theorem dX11_part_6 : decode cX11_part 6 = .ok (.iconst 0, 1) := by decide +kernel
theorem dX11_part_7 : decode cX11_part 7 = .ok (.istore 9, 2) := by decide +kernel
theorem dX11_part_9 : decode cX11_part 9 = .ok (.iload 9, 2) := by decide +kernel
theorem dX11_part_11 : decode cX11_part 11 = .ok (.bipush 100, 2) := by decide +kernel
theorem dX11_part_13 : decode cX11_part 13 = .ok (.if_icmp .ge 31, 3) := by decide +kernel
theorem dX11_part_16 : decode cX11_part 16 = .ok (.lload 7, 2) := by decide +kernel
theorem dX11_part_18 : decode cX11_part 18 = .ok (.lconst 0, 1) := by decide +kernel
theorem dX11_part_19 : decode cX11_part 19 = .ok (.lcmp, 1) := by decide +kernel
theorem dX11_part_20 : decode cX11_part 20 = .ok (.ifCond .le 24, 3) := by decide +kernel
theorem dX11_part_23 : decode cX11_part 23 = .ok (.lload 5, 2) := by decide +kernel
theorem dX11_part_25 : decode cX11_part 25 = .ok (.lload 7, 2) := by decide +kernel
theorem dX11_part_27 : decode cX11_part 27 = .ok (.lrem, 1) := by decide +kernel
theorem dX11_part_28 : decode cX11_part 28 = .ok (.lstore 10, 2) := by decide +kernel
theorem dX11_part_30 : decode cX11_part 30 = .ok (.lload 7, 2) := by decide +kernel
theorem dX11_part_32 : decode cX11_part 32 = .ok (.lstore 5, 2) := by decide +kernel
theorem dX11_part_34 : decode cX11_part 34 = .ok (.lload 10, 2) := by decide +kernel
theorem dX11_part_36 : decode cX11_part 36 = .ok (.lstore 7, 2) := by decide +kernel
theorem dX11_part_38 : decode cX11_part 38 = .ok (.iinc 9 1, 3) := by decide +kernel
theorem dX11_part_41 : decode cX11_part 41 = .ok (.goto (-32), 3) := by decide +kernel
theorem dX11_part_44 : decode cX11_part 44 = .ok (.lload 5, 2) := by decide +kernel
theorem dX11_part_46 : decode cX11_part 46 = .ok (.lconst 0, 1) := by decide +kernel
theorem dX11_part_47 : decode cX11_part 47 = .ok (.lcmp, 1) := by decide +kernel
theorem dX11_part_48 : decode cX11_part 48 = .ok (.ifCond .gt 14, 3) := by decide +kernel
theorem dX11_part_51 : decode cX11_part 51 = .ok (.iload 4, 2) := by decide +kernel
theorem dX11_part_53 : decode cX11_part 53 = .ok (.ifCond .eq 7, 3) := by decide +kernel
theorem dX11_part_56 : decode cX11_part 56 = .ok (.lconst 1, 1) := by decide +kernel
theorem dX11_part_57 : decode cX11_part 57 = .ok (.goto 4, 3) := by decide +kernel
theorem dX11_part_60 : decode cX11_part 60 = .ok (.lconst 0, 1) := by decide +kernel
theorem dX11_part_61 : decode cX11_part 61 = .ok (.lreturn, 1) := by decide +kernel
theorem dX11_part_62 : decode cX11_part 62 = .ok (.iload 4, 2) := by decide +kernel
theorem dX11_part_64 : decode cX11_part 64 = .ok (.ifCond .eq 10, 3) := by decide +kernel
theorem dX11_part_67 : decode cX11_part 67 = .ok (.lload_n 2, 1) := by decide +kernel
theorem dX11_part_68 : decode cX11_part 68 = .ok (.lload 5, 2) := by decide +kernel
theorem dX11_part_70 : decode cX11_part 70 = .ok (.ldiv, 1) := by decide +kernel
theorem dX11_part_71 : decode cX11_part 71 = .ok (.goto 7, 3) := by decide +kernel
theorem dX11_part_74 : decode cX11_part 74 = .ok (.lload_n 0, 1) := by decide +kernel
theorem dX11_part_75 : decode cX11_part 75 = .ok (.lload 5, 2) := by decide +kernel
theorem dX11_part_77 : decode cX11_part 77 = .ok (.ldiv, 1) := by decide +kernel
theorem dX11_part_78 : decode cX11_part 78 = .ok (.lreturn, 1) := by decide +kernel
theorem dX11_waysToWin_0 : decode cX11_waysToWin 0 = .ok (.lconst 1, 1) := by decide +kernel
theorem dX11_waysToWin_1 : decode cX11_waysToWin 1 = .ok (.lstore_n 2, 1) := by decide +kernel
theorem dX11_waysToWin_2 : decode cX11_waysToWin 2 = .ok (.lconst 0, 1) := by decide +kernel
theorem dX11_waysToWin_3 : decode cX11_waysToWin 3 = .ok (.lstore 4, 2) := by decide +kernel
theorem dX11_waysToWin_5 : decode cX11_waysToWin 5 = .ok (.iconst 0, 1) := by decide +kernel
theorem dX11_waysToWin_6 : decode cX11_waysToWin 6 = .ok (.istore 6, 2) := by decide +kernel
theorem dX11_waysToWin_8 : decode cX11_waysToWin 8 = .ok (.iload 6, 2) := by decide +kernel
theorem dX11_waysToWin_10 : decode cX11_waysToWin 10 = .ok (.iload_n 0, 1) := by decide +kernel
theorem dX11_waysToWin_11 : decode cX11_waysToWin 11 = .ok (.if_icmp .gt 35, 3) := by decide +kernel
theorem dX11_waysToWin_14 : decode cX11_waysToWin 14 = .ok (.iload 6, 2) := by decide +kernel
theorem dX11_waysToWin_16 : decode cX11_waysToWin 16 = .ok (.iload_n 1, 1) := by decide +kernel
theorem dX11_waysToWin_17 : decode cX11_waysToWin 17 = .ok (.if_icmp .lt 9, 3) := by decide +kernel
theorem dX11_waysToWin_20 : decode cX11_waysToWin 20 = .ok (.lload 4, 2) := by decide +kernel
theorem dX11_waysToWin_22 : decode cX11_waysToWin 22 = .ok (.lload_n 2, 1) := by decide +kernel
theorem dX11_waysToWin_23 : decode cX11_waysToWin 23 = .ok (.ladd, 1) := by decide +kernel
theorem dX11_waysToWin_24 : decode cX11_waysToWin 24 = .ok (.lstore 4, 2) := by decide +kernel
theorem dX11_waysToWin_26 : decode cX11_waysToWin 26 = .ok (.lload_n 2, 1) := by decide +kernel
theorem dX11_waysToWin_27 : decode cX11_waysToWin 27 = .ok (.iload_n 0, 1) := by decide +kernel
theorem dX11_waysToWin_28 : decode cX11_waysToWin 28 = .ok (.iload 6, 2) := by decide +kernel
theorem dX11_waysToWin_30 : decode cX11_waysToWin 30 = .ok (.isub, 1) := by decide +kernel
theorem dX11_waysToWin_31 : decode cX11_waysToWin 31 = .ok (.i2l, 1) := by decide +kernel
theorem dX11_waysToWin_32 : decode cX11_waysToWin 32 = .ok (.lmul, 1) := by decide +kernel
theorem dX11_waysToWin_33 : decode cX11_waysToWin 33 = .ok (.iload 6, 2) := by decide +kernel
theorem dX11_waysToWin_35 : decode cX11_waysToWin 35 = .ok (.iconst 1, 1) := by decide +kernel
theorem dX11_waysToWin_36 : decode cX11_waysToWin 36 = .ok (.iadd, 1) := by decide +kernel
theorem dX11_waysToWin_37 : decode cX11_waysToWin 37 = .ok (.i2l, 1) := by decide +kernel
theorem dX11_waysToWin_38 : decode cX11_waysToWin 38 = .ok (.ldiv, 1) := by decide +kernel
theorem dX11_waysToWin_39 : decode cX11_waysToWin 39 = .ok (.lstore_n 2, 1) := by decide +kernel
theorem dX11_waysToWin_40 : decode cX11_waysToWin 40 = .ok (.iinc 6 1, 3) := by decide +kernel
theorem dX11_waysToWin_43 : decode cX11_waysToWin 43 = .ok (.goto (-35), 3) := by decide +kernel
theorem dX11_waysToWin_46 : decode cX11_waysToWin 46 = .ok (.lload 4, 2) := by decide +kernel
theorem dX11_waysToWin_48 : decode cX11_waysToWin 48 = .ok (.lreturn, 1) := by decide +kernel
theorem dX11_likelihood_0 : decode cX11_likelihood 0 = .ok (.lconst 1, 1) := by decide +kernel
theorem dX11_likelihood_1 : decode cX11_likelihood 1 = .ok (.lstore_n 2, 1) := by decide +kernel
theorem dX11_likelihood_2 : decode cX11_likelihood 2 = .ok (.iconst 0, 1) := by decide +kernel
theorem dX11_likelihood_3 : decode cX11_likelihood 3 = .ok (.istore 4, 2) := by decide +kernel
theorem dX11_likelihood_5 : decode cX11_likelihood 5 = .ok (.iload 4, 2) := by decide +kernel
theorem dX11_likelihood_7 : decode cX11_likelihood 7 = .ok (.aload_n 1, 1) := by decide +kernel
theorem dX11_likelihood_8 : decode cX11_likelihood 8 = .ok (.getfield 160, 3) := by decide +kernel
theorem dX11_likelihood_11 : decode cX11_likelihood 11 = .ok (.if_icmp .ge 14, 3) := by decide +kernel
theorem dX11_likelihood_14 : decode cX11_likelihood 14 = .ok (.lload_n 2, 1) := by decide +kernel
theorem dX11_likelihood_15 : decode cX11_likelihood 15 = .ok (.iload_n 0, 1) := by decide +kernel
theorem dX11_likelihood_16 : decode cX11_likelihood 16 = .ok (.i2l, 1) := by decide +kernel
theorem dX11_likelihood_17 : decode cX11_likelihood 17 = .ok (.lmul, 1) := by decide +kernel
theorem dX11_likelihood_18 : decode cX11_likelihood 18 = .ok (.lstore_n 2, 1) := by decide +kernel
theorem dX11_likelihood_19 : decode cX11_likelihood 19 = .ok (.iinc 4 1, 3) := by decide +kernel
theorem dX11_likelihood_22 : decode cX11_likelihood 22 = .ok (.goto (-17), 3) := by decide +kernel
theorem dX11_likelihood_25 : decode cX11_likelihood 25 = .ok (.iconst 0, 1) := by decide +kernel
theorem dX11_likelihood_26 : decode cX11_likelihood 26 = .ok (.istore 4, 2) := by decide +kernel
theorem dX11_likelihood_28 : decode cX11_likelihood 28 = .ok (.iload 4, 2) := by decide +kernel
theorem dX11_likelihood_30 : decode cX11_likelihood 30 = .ok (.aload_n 1, 1) := by decide +kernel
theorem dX11_likelihood_31 : decode cX11_likelihood 31 = .ok (.getfield 163, 3) := by decide +kernel
theorem dX11_likelihood_34 : decode cX11_likelihood 34 = .ok (.if_icmp .ge 17, 3) := by decide +kernel
theorem dX11_likelihood_37 : decode cX11_likelihood 37 = .ok (.lload_n 2, 1) := by decide +kernel
theorem dX11_likelihood_38 : decode cX11_likelihood 38 = .ok (.bipush 10, 2) := by decide +kernel
theorem dX11_likelihood_40 : decode cX11_likelihood 40 = .ok (.iload_n 0, 1) := by decide +kernel
theorem dX11_likelihood_41 : decode cX11_likelihood 41 = .ok (.isub, 1) := by decide +kernel
theorem dX11_likelihood_42 : decode cX11_likelihood 42 = .ok (.i2l, 1) := by decide +kernel
theorem dX11_likelihood_43 : decode cX11_likelihood 43 = .ok (.lmul, 1) := by decide +kernel
theorem dX11_likelihood_44 : decode cX11_likelihood 44 = .ok (.lstore_n 2, 1) := by decide +kernel
theorem dX11_likelihood_45 : decode cX11_likelihood 45 = .ok (.iinc 4 1, 3) := by decide +kernel
theorem dX11_likelihood_48 : decode cX11_likelihood 48 = .ok (.goto (-20), 3) := by decide +kernel
theorem dX11_likelihood_51 : decode cX11_likelihood 51 = .ok (.lload_n 2, 1) := by decide +kernel
theorem dX11_likelihood_52 : decode cX11_likelihood 52 = .ok (.lreturn, 1) := by decide +kernel
theorem dX11_runYear_0 : decode cX11_runYear 0 = .ok (.iconst 0, 1) := by decide +kernel
theorem dX11_runYear_1 : decode cX11_runYear 1 = .ok (.istore_n 3, 1) := by decide +kernel
theorem dX11_runYear_2 : decode cX11_runYear 2 = .ok (.iload_n 3, 1) := by decide +kernel
theorem dX11_runYear_3 : decode cX11_runYear 3 = .ok (.aload_n 0, 1) := by decide +kernel
theorem dX11_runYear_4 : decode cX11_runYear 4 = .ok (.getfield 51, 3) := by decide +kernel
theorem dX11_runYear_7 : decode cX11_runYear 7 = .ok (.arraylength, 1) := by decide +kernel
theorem dX11_runYear_8 : decode cX11_runYear 8 = .ok (.if_icmp .ge 16, 3) := by decide +kernel
theorem dX11_runYear_11 : decode cX11_runYear 11 = .ok (.aload_n 0, 1) := by decide +kernel
theorem dX11_runYear_12 : decode cX11_runYear 12 = .ok (.getfield 51, 3) := by decide +kernel
theorem dX11_runYear_15 : decode cX11_runYear 15 = .ok (.iload_n 3, 1) := by decide +kernel
theorem dX11_runYear_16 : decode cX11_runYear 16 = .ok (.iconst 0, 1) := by decide +kernel
theorem dX11_runYear_17 : decode cX11_runYear 17 = .ok (.iastore, 1) := by decide +kernel
theorem dX11_runYear_18 : decode cX11_runYear 18 = .ok (.iinc 3 1, 3) := by decide +kernel
theorem dX11_runYear_21 : decode cX11_runYear 21 = .ok (.goto (-19), 3) := by decide +kernel
theorem dX11_runYear_24 : decode cX11_runYear 24 = .ok (.aload_n 0, 1) := by decide +kernel
theorem dX11_runYear_25 : decode cX11_runYear 25 = .ok (.getfield 19, 3) := by decide +kernel
theorem dX11_runYear_28 : decode cX11_runYear 28 = .ok (.getfield 353, 3) := by decide +kernel
theorem dX11_runYear_31 : decode cX11_runYear 31 = .ok (.istore_n 3, 1) := by decide +kernel
theorem dX11_runYear_32 : decode cX11_runYear 32 = .ok (.aload_n 0, 1) := by decide +kernel
theorem dX11_runYear_33 : decode cX11_runYear 33 = .ok (.getfield 19, 3) := by decide +kernel
theorem dX11_runYear_36 : decode cX11_runYear 36 = .ok (.iload_n 1, 1) := by decide +kernel
theorem dX11_runYear_37 : decode cX11_runYear 37 = .ok (.putfield 353, 3) := by decide +kernel
theorem dX11_runYear_40 : decode cX11_runYear 40 = .ok (.iconst 0, 1) := by decide +kernel
theorem dX11_runYear_41 : decode cX11_runYear 41 = .ok (.istore 4, 2) := by decide +kernel
theorem dX11_runYear_43 : decode cX11_runYear 43 = .ok (.iload 4, 2) := by decide +kernel
theorem dX11_runYear_45 : decode cX11_runYear 45 = .ok (.iload_n 2, 1) := by decide +kernel
theorem dX11_runYear_46 : decode cX11_runYear 46 = .ok (.if_icmp .ge 13, 3) := by decide +kernel
theorem dX11_runYear_49 : decode cX11_runYear 49 = .ok (.aload_n 0, 1) := by decide +kernel
theorem dX11_runYear_50 : decode cX11_runYear 50 = .ok (.invokevirtual 436, 3) := by decide +kernel
theorem dX11_runYear_53 : decode cX11_runYear 53 = .ok (.iinc 4 1, 3) := by decide +kernel
theorem dX11_runYear_56 : decode cX11_runYear 56 = .ok (.goto (-13), 3) := by decide +kernel
theorem dX11_runYear_59 : decode cX11_runYear 59 = .ok (.aload_n 0, 1) := by decide +kernel
theorem dX11_runYear_60 : decode cX11_runYear 60 = .ok (.getfield 19, 3) := by decide +kernel
theorem dX11_runYear_63 : decode cX11_runYear 63 = .ok (.iload_n 3, 1) := by decide +kernel
theorem dX11_runYear_64 : decode cX11_runYear 64 = .ok (.putfield 353, 3) := by decide +kernel
theorem dX11_runYear_67 : decode cX11_runYear 67 = .ok (.return_, 1) := by decide +kernel
theorem dX11_runSunday_0 : decode cX11_runSunday 0 = .ok (.aload_n 0, 1) := by decide +kernel
theorem dX11_runSunday_1 : decode cX11_runSunday 1 = .ok (.getfield 19, 3) := by decide +kernel
theorem dX11_runSunday_4 : decode cX11_runSunday 4 = .ok (.aload_n 0, 1) := by decide +kernel
theorem dX11_runSunday_5 : decode cX11_runSunday 5 = .ok (.getfield 58, 3) := by decide +kernel
theorem dX11_runSunday_8 : decode cX11_runSunday 8 = .ok (.getfield 100, 3) := by decide +kernel
theorem dX11_runSunday_11 : decode cX11_runSunday 11 = .ok (.invokevirtual 439, 3) := by decide +kernel
theorem dX11_runSunday_14 : decode cX11_runSunday 14 = .ok (.istore_n 1, 1) := by decide +kernel
theorem dX11_runSunday_15 : decode cX11_runSunday 15 = .ok (.aload_n 0, 1) := by decide +kernel
theorem dX11_runSunday_16 : decode cX11_runSunday 16 = .ok (.getfield 19, 3) := by decide +kernel
theorem dX11_runSunday_19 : decode cX11_runSunday 19 = .ok (.aload_n 0, 1) := by decide +kernel
theorem dX11_runSunday_20 : decode cX11_runSunday 20 = .ok (.getfield 58, 3) := by decide +kernel
theorem dX11_runSunday_23 : decode cX11_runSunday 23 = .ok (.getfield 270, 3) := by decide +kernel
theorem dX11_runSunday_26 : decode cX11_runSunday 26 = .ok (.invokevirtual 439, 3) := by decide +kernel
theorem dX11_runSunday_29 : decode cX11_runSunday 29 = .ok (.istore_n 2, 1) := by decide +kernel
theorem dX11_runSunday_30 : decode cX11_runSunday 30 = .ok (.aload_n 0, 1) := by decide +kernel
theorem dX11_runSunday_31 : decode cX11_runSunday 31 = .ok (.getfield 19, 3) := by decide +kernel
theorem dX11_runSunday_34 : decode cX11_runSunday 34 = .ok (.aload_n 0, 1) := by decide +kernel
theorem dX11_runSunday_35 : decode cX11_runSunday 35 = .ok (.getfield 58, 3) := by decide +kernel
theorem dX11_runSunday_38 : decode cX11_runSunday 38 = .ok (.getfield 270, 3) := by decide +kernel
theorem dX11_runSunday_41 : decode cX11_runSunday 41 = .ok (.iconst 1, 1) := by decide +kernel
theorem dX11_runSunday_42 : decode cX11_runSunday 42 = .ok (.isub, 1) := by decide +kernel
theorem dX11_runSunday_43 : decode cX11_runSunday 43 = .ok (.invokevirtual 439, 3) := by decide +kernel
theorem dX11_runSunday_46 : decode cX11_runSunday 46 = .ok (.istore_n 3, 1) := by decide +kernel
theorem dX11_runSunday_47 : decode cX11_runSunday 47 = .ok (.iload_n 3, 1) := by decide +kernel
theorem dX11_runSunday_48 : decode cX11_runSunday 48 = .ok (.iload_n 2, 1) := by decide +kernel
theorem dX11_runSunday_49 : decode cX11_runSunday 49 = .ok (.if_icmp .lt 6, 3) := by decide +kernel
theorem dX11_runSunday_52 : decode cX11_runSunday 52 = .ok (.iinc 3 1, 3) := by decide +kernel
theorem dX11_runSunday_55 : decode cX11_runSunday 55 = .ok (.aload_n 0, 1) := by decide +kernel
theorem dX11_runSunday_56 : decode cX11_runSunday 56 = .ok (.iload_n 1, 1) := by decide +kernel
theorem dX11_runSunday_57 : decode cX11_runSunday 57 = .ok (.invokevirtual 168, 3) := by decide +kernel
theorem dX11_runSunday_60 : decode cX11_runSunday 60 = .ok (.aload_n 0, 1) := by decide +kernel
theorem dX11_runSunday_61 : decode cX11_runSunday 61 = .ok (.iload_n 1, 1) := by decide +kernel
theorem dX11_runSunday_62 : decode cX11_runSunday 62 = .ok (.iload_n 2, 1) := by decide +kernel
theorem dX11_runSunday_63 : decode cX11_runSunday 63 = .ok (.iload_n 3, 1) := by decide +kernel
theorem dX11_runSunday_64 : decode cX11_runSunday 64 = .ok (.invokevirtual 417, 3) := by decide +kernel
theorem dX11_runSunday_67 : decode cX11_runSunday 67 = .ok (.aload_n 0, 1) := by decide +kernel
theorem dX11_runSunday_68 : decode cX11_runSunday 68 = .ok (.getfield 33, 3) := by decide +kernel
theorem dX11_runSunday_71 : decode cX11_runSunday 71 = .ok (.aload_n 0, 1) := by decide +kernel
theorem dX11_runSunday_72 : decode cX11_runSunday 72 = .ok (.getfield 19, 3) := by decide +kernel
theorem dX11_runSunday_75 : decode cX11_runSunday 75 = .ok (.aload_n 0, 1) := by decide +kernel
theorem dX11_runSunday_76 : decode cX11_runSunday 76 = .ok (.getfield 58, 3) := by decide +kernel
theorem dX11_runSunday_79 : decode cX11_runSunday 79 = .ok (.getfield 341, 3) := by decide +kernel
theorem dX11_runSunday_82 : decode cX11_runSunday 82 = .ok (.aload_n 0, 1) := by decide +kernel
theorem dX11_runSunday_83 : decode cX11_runSunday 83 = .ok (.getfield 58, 3) := by decide +kernel
theorem dX11_runSunday_86 : decode cX11_runSunday 86 = .ok (.getfield 118, 3) := by decide +kernel
theorem dX11_runSunday_89 : decode cX11_runSunday 89 = .ok (.iload_n 1, 1) := by decide +kernel
theorem dX11_runSunday_90 : decode cX11_runSunday 90 = .ok (.aaload, 1) := by decide +kernel
theorem dX11_runSunday_91 : decode cX11_runSunday 91 = .ok (.invokevirtual 344, 3) := by decide +kernel
theorem dX11_runSunday_94 : decode cX11_runSunday 94 = .ok (.invokevirtual 347, 3) := by decide +kernel
theorem dX11_runSunday_97 : decode cX11_runSunday 97 = .ok (.invokevirtual 198, 3) := by decide +kernel
theorem dX11_runSunday_100 : decode cX11_runSunday 100 = .ok (.istore 4, 2) := by decide +kernel
theorem dX11_runSunday_102 : decode cX11_runSunday 102 = .ok (.iload 4, 2) := by decide +kernel
theorem dX11_runSunday_104 : decode cX11_runSunday 104 = .ok (.ifCond .ne 16, 3) := by decide +kernel
theorem dX11_runSunday_107 : decode cX11_runSunday 107 = .ok (.aload_n 0, 1) := by decide +kernel
theorem dX11_runSunday_108 : decode cX11_runSunday 108 = .ok (.getfield 51, 3) := by decide +kernel
theorem dX11_runSunday_111 : decode cX11_runSunday 111 = .ok (.iload_n 2, 1) := by decide +kernel
theorem dX11_runSunday_112 : decode cX11_runSunday 112 = .ok (.dup2, 1) := by decide +kernel
theorem dX11_runSunday_113 : decode cX11_runSunday 113 = .ok (.iaload, 1) := by decide +kernel
theorem dX11_runSunday_114 : decode cX11_runSunday 114 = .ok (.iconst 1, 1) := by decide +kernel
theorem dX11_runSunday_115 : decode cX11_runSunday 115 = .ok (.iadd, 1) := by decide +kernel
theorem dX11_runSunday_116 : decode cX11_runSunday 116 = .ok (.iastore, 1) := by decide +kernel
theorem dX11_runSunday_117 : decode cX11_runSunday 117 = .ok (.goto 53, 3) := by decide +kernel
theorem dX11_runSunday_120 : decode cX11_runSunday 120 = .ok (.iload 4, 2) := by decide +kernel
theorem dX11_runSunday_122 : decode cX11_runSunday 122 = .ok (.iconst 1, 1) := by decide +kernel
theorem dX11_runSunday_123 : decode cX11_runSunday 123 = .ok (.if_icmp .ne 16, 3) := by decide +kernel
theorem dX11_runSunday_126 : decode cX11_runSunday 126 = .ok (.aload_n 0, 1) := by decide +kernel
theorem dX11_runSunday_127 : decode cX11_runSunday 127 = .ok (.getfield 51, 3) := by decide +kernel
theorem dX11_runSunday_130 : decode cX11_runSunday 130 = .ok (.iload_n 3, 1) := by decide +kernel
theorem dX11_runSunday_131 : decode cX11_runSunday 131 = .ok (.dup2, 1) := by decide +kernel
theorem dX11_runSunday_132 : decode cX11_runSunday 132 = .ok (.iaload, 1) := by decide +kernel
theorem dX11_runSunday_133 : decode cX11_runSunday 133 = .ok (.iconst 1, 1) := by decide +kernel
theorem dX11_runSunday_134 : decode cX11_runSunday 134 = .ok (.iadd, 1) := by decide +kernel
theorem dX11_runSunday_135 : decode cX11_runSunday 135 = .ok (.iastore, 1) := by decide +kernel
theorem dX11_runSunday_136 : decode cX11_runSunday 136 = .ok (.goto 34, 3) := by decide +kernel
theorem dX11_runSunday_139 : decode cX11_runSunday 139 = .ok (.iload 4, 2) := by decide +kernel
theorem dX11_runSunday_141 : decode cX11_runSunday 141 = .ok (.iconst 2, 1) := by decide +kernel
theorem dX11_runSunday_142 : decode cX11_runSunday 142 = .ok (.if_icmp .ne 17, 3) := by decide +kernel
theorem dX11_runSunday_145 : decode cX11_runSunday 145 = .ok (.aload_n 0, 1) := by decide +kernel
theorem dX11_runSunday_146 : decode cX11_runSunday 146 = .ok (.getfield 51, 3) := by decide +kernel
theorem dX11_runSunday_149 : decode cX11_runSunday 149 = .ok (.bipush 6, 2) := by decide +kernel
theorem dX11_runSunday_151 : decode cX11_runSunday 151 = .ok (.dup2, 1) := by decide +kernel
theorem dX11_runSunday_152 : decode cX11_runSunday 152 = .ok (.iaload, 1) := by decide +kernel
theorem dX11_runSunday_153 : decode cX11_runSunday 153 = .ok (.iconst 1, 1) := by decide +kernel
theorem dX11_runSunday_154 : decode cX11_runSunday 154 = .ok (.iadd, 1) := by decide +kernel
theorem dX11_runSunday_155 : decode cX11_runSunday 155 = .ok (.iastore, 1) := by decide +kernel
theorem dX11_runSunday_156 : decode cX11_runSunday 156 = .ok (.goto 14, 3) := by decide +kernel
theorem dX11_runSunday_159 : decode cX11_runSunday 159 = .ok (.aload_n 0, 1) := by decide +kernel
theorem dX11_runSunday_160 : decode cX11_runSunday 160 = .ok (.getfield 51, 3) := by decide +kernel
theorem dX11_runSunday_163 : decode cX11_runSunday 163 = .ok (.bipush 7, 2) := by decide +kernel
theorem dX11_runSunday_165 : decode cX11_runSunday 165 = .ok (.dup2, 1) := by decide +kernel
theorem dX11_runSunday_166 : decode cX11_runSunday 166 = .ok (.iaload, 1) := by decide +kernel
theorem dX11_runSunday_167 : decode cX11_runSunday 167 = .ok (.iconst 1, 1) := by decide +kernel
theorem dX11_runSunday_168 : decode cX11_runSunday 168 = .ok (.iadd, 1) := by decide +kernel
theorem dX11_runSunday_169 : decode cX11_runSunday 169 = .ok (.iastore, 1) := by decide +kernel
theorem dX11_runSunday_170 : decode cX11_runSunday 170 = .ok (.return_, 1) := by decide +kernel
section
variable {X : ab_X} {d : Nat} {σ : ab_S} {Q : Option ab_V → ab_S → Prop} {L st : List ab_V} {a b z v i j x1 x2 x3 x4 x5 x6 x7 x8 : Int} {l0 l1 l2 l3 l4 l5 l6 l7 l8 l9 l10 l11 l12 l13 l14 l15 l16 l17 l18 l19 l20 : ab_V}
theorem kc_X11_dry : ab_code 114 = cX11_dry := rfl
theorem ko_X11_dry : ab_ow 114 = 11 := rfl
theorem rX11_dry_0 : ab_Run X 114 0 (2, 0, 0) [ab_R z, l1, l2] st σ Q ↔ z ≠ 0 ∧ ab_Run X 114 1 (2, 0, 0) [ab_R z, l1, l2] (ab_R z :: st) σ Q := ab_r_aload_n rfl kc_X11_dry dX11_dry_0
theorem rX11_dry_1 : ab_Run X 114 1 (2, 0, 0) [ab_R z, l1, l2] st σ Q ↔ z ≠ 0 ∧ ab_Run X 114 2 (2, 0, 0) [ab_R z, l1, l2] (ab_R z :: st) σ Q := ab_r_aload_n rfl kc_X11_dry dX11_dry_1
theorem rX11_dry_2 : ab_Run X 114 2 (2, 0, 0) L (ab_R a :: st) σ Q ↔ ((ab_sh σ a).1 = 12 ∧ ab_cats st ≤ 8) ∧ ab_Do X 125 [ab_R a] σ (fun r σ' => ab_Run X 114 5 (2, 0, 0) L (ab_psh r st) σ' Q) := ab_r_callV (w := []) (as := []) (b1 := (0, 0, 0)) 0 (Or.inl rfl) (by decide) ko_X11_dry qM_11_284 (by decide) rfl rfl rfl rfl rfl (by decide) (Nat.le_of_ble_eq_true rfl) kc_X11_dry dX11_dry_2
theorem rX11_dry_5 : ab_Run X 114 5 (2, 0, 0) L (ab_I a :: st) σ Q ↔ (¬ a = 0 → ab_Run X 114 12 (2, 0, 0) L st σ Q) ∧ (¬ (¬ a = 0) → ab_Run X 114 8 (2, 0, 0) L st σ Q) := ab_r_if_ne rfl kc_X11_dry dX11_dry_5
theorem rX11_dry_8 : ab_Run X 114 8 (2, 0, 0) L st σ Q ↔ ab_Run X 114 9 (2, 0, 0) L (ab_I 1 :: st) σ Q := ab_r_iconst (by decide) kc_X11_dry dX11_dry_8
theorem rX11_dry_9 : ab_Run X 114 9 (2, 0, 0) L st σ Q ↔ ab_Run X 114 28 (2, 0, 0) L st σ Q := ab_r_goto rfl kc_X11_dry dX11_dry_9
theorem rX11_dry_12 : ab_Run X 114 12 (2, 0, 0) [l0, ab_I z, l2] st σ Q ↔ ab_Run X 114 13 (2, 0, 0) [l0, ab_I z, l2] (ab_I z :: st) σ Q := ab_r_iload_n rfl kc_X11_dry dX11_dry_12
theorem rX11_dry_13 : ab_Run X 114 13 (2, 0, 0) L st σ Q ↔ ab_Run X 114 14 (2, 0, 0) L (ab_I 1 :: st) σ Q := ab_r_iconst (by decide) kc_X11_dry dX11_dry_13
theorem rX11_dry_14 : ab_Run X 114 14 (2, 0, 0) L (ab_I b :: ab_I a :: st) σ Q ↔ (a < b → ab_Run X 114 23 (2, 0, 0) L st σ Q) ∧ (¬ (a < b) → ab_Run X 114 17 (2, 0, 0) L st σ Q) := ab_r_icmp_lt rfl kc_X11_dry dX11_dry_14
theorem rX11_dry_17 : ab_Run X 114 17 (2, 0, 0) [l0, ab_I z, l2] st σ Q ↔ ab_Run X 114 18 (2, 0, 0) [l0, ab_I z, l2] (ab_I z :: st) σ Q := ab_r_iload_n rfl kc_X11_dry dX11_dry_17
theorem rX11_dry_18 : ab_Run X 114 18 (2, 0, 0) L st σ Q ↔ ab_Run X 114 20 (2, 0, 0) L (ab_I 24 :: st) σ Q := ab_r_bipush (by decide) kc_X11_dry dX11_dry_18
theorem rX11_dry_20 : ab_Run X 114 20 (2, 0, 0) L (ab_I b :: ab_I a :: st) σ Q ↔ (a ≤ b → ab_Run X 114 27 (2, 0, 0) L st σ Q) ∧ (¬ (a ≤ b) → ab_Run X 114 23 (2, 0, 0) L st σ Q) := ab_r_icmp_le rfl kc_X11_dry dX11_dry_20
theorem rX11_dry_23 : ab_Run X 114 23 (2, 0, 0) L st σ Q ↔ ab_Run X 114 24 (2, 0, 0) L (ab_I 2 :: st) σ Q := ab_r_iconst (by decide) kc_X11_dry dX11_dry_23
theorem rX11_dry_24 : ab_Run X 114 24 (2, 0, 0) L st σ Q ↔ ab_Run X 114 28 (2, 0, 0) L st σ Q := ab_r_goto rfl kc_X11_dry dX11_dry_24
theorem rX11_dry_27 : ab_Run X 114 27 (2, 0, 0) L st σ Q ↔ ab_Run X 114 28 (2, 0, 0) L (ab_I 0 :: st) σ Q := ab_r_iconst (by decide) kc_X11_dry dX11_dry_27
theorem rX11_dry_28 : ab_Run X 114 28 (2, 0, 0) L (ab_I z :: ab_R a :: st) σ Q ↔ (ab_sh σ a).1 = 12 ∧ ab_Run X 114 31 (2, 0, 0) L st (ab_wr σ a 8 z) Q := sF_11_62 ko_X11_dry kc_X11_dry dX11_dry_28
theorem rX11_dry_31 : ab_Run X 114 31 (2, 0, 0) [ab_R z, l1, l2] st σ Q ↔ z ≠ 0 ∧ ab_Run X 114 32 (2, 0, 0) [ab_R z, l1, l2] (ab_R z :: st) σ Q := ab_r_aload_n rfl kc_X11_dry dX11_dry_31
theorem rX11_dry_32 : ab_Run X 114 32 (2, 0, 0) L (ab_R a :: st) σ Q ↔ (ab_sh σ a).1 = 12 ∧ ab_Run X 114 35 (2, 0, 0) L (ab_I (ab_rd σ a 8) :: st) σ Q := gF_11_62 ko_X11_dry kc_X11_dry dX11_dry_32
theorem rX11_dry_35 : ab_Run X 114 35 (2, 0, 0) L (ab_I a :: st) σ Q ↔ (a = 0 → ab_Run X 114 40 (2, 0, 0) L st σ Q) ∧ (¬ (a = 0) → ab_Run X 114 38 (2, 0, 0) L st σ Q) := ab_r_if_eq rfl kc_X11_dry dX11_dry_35
theorem rX11_dry_38 : ab_Run X 114 38 (2, 0, 0) L st σ Q ↔ ab_Run X 114 39 (2, 0, 0) L (ab_I 0 :: st) σ Q := ab_r_iconst (by decide) kc_X11_dry dX11_dry_38
theorem rX11_dry_39 : ab_Run X 114 39 (2, 0, 0) L [ab_I v] σ Q ↔ (v = 0 ∨ v = 1) ∧ Q (some (ab_I v)) σ := ab_r_ireturnZ rfl kc_X11_dry dX11_dry_39
theorem rX11_dry_40 : ab_Run X 114 40 (2, 0, 0) [ab_R z, l1, l2] st σ Q ↔ z ≠ 0 ∧ ab_Run X 114 41 (2, 0, 0) [ab_R z, l1, l2] (ab_R z :: st) σ Q := ab_r_aload_n rfl kc_X11_dry dX11_dry_40
theorem rX11_dry_41 : ab_Run X 114 41 (2, 0, 0) L (ab_R a :: st) σ Q ↔ (ab_sh σ a).1 = 12 ∧ ab_Run X 114 44 (2, 0, 0) L (ab_R (ab_rd σ a 2) :: st) σ Q := gF_11_26 ko_X11_dry kc_X11_dry dX11_dry_41
theorem rX11_dry_44 : ab_Run X 114 44 (2, 0, 0) [ab_R z, l1, l2] st σ Q ↔ z ≠ 0 ∧ ab_Run X 114 45 (2, 0, 0) [ab_R z, l1, l2] (ab_R z :: st) σ Q := ab_r_aload_n rfl kc_X11_dry dX11_dry_44
theorem rX11_dry_45 : ab_Run X 114 45 (2, 0, 0) L (ab_R a :: st) σ Q ↔ (ab_sh σ a).1 = 12 ∧ ab_Run X 114 48 (2, 0, 0) L (ab_R (ab_rd σ a 1) :: st) σ Q := gF_11_19 ko_X11_dry kc_X11_dry dX11_dry_45
theorem rX11_dry_48 : ab_Run X 114 48 (2, 0, 0) L (ab_R x1 :: ab_R a :: st) σ Q ↔ ((ab_sh σ a).1 = 4 ∧ ab_cats st ≤ 8) ∧ ab_Do X 21 [ab_R a, ab_R x1] σ (fun r σ' => ab_Run X 114 51 (2, 0, 0) L (ab_psh r st) σ' Q) := ab_r_callV (w := [ab_R x1]) (as := [ab_R x1]) (b1 := (1, 0, 0)) 0 (Or.inl rfl) (by decide) ko_X11_dry qM_11_336 (by decide) rfl rfl rfl rfl rfl (by decide) (Nat.le_of_ble_eq_true rfl) kc_X11_dry dX11_dry_48
theorem rX11_dry_51 : ab_Run X 114 51 (2, 0, 0) L st σ Q ↔ ab_Run X 114 52 (2, 0, 0) L (ab_I 0 :: st) σ Q := ab_r_iconst (by decide) kc_X11_dry dX11_dry_51
theorem rX11_dry_52 : ab_Run X 114 52 (2, 0, 0) [l0, l1, l2] (ab_I z :: st) σ Q ↔ (!ab_isJ l1) = true ∧ ab_Run X 114 53 (2, 0, 0) [l0, l1, ab_I z] st σ Q := ab_r_istore_n (Nat.le_of_ble_eq_true rfl) kc_X11_dry dX11_dry_52
theorem rX11_dry_53 : ab_Run X 114 53 (2, 0, 0) [l0, l1, ab_I z] st σ Q ↔ ab_Run X 114 54 (2, 0, 0) [l0, l1, ab_I z] (ab_I z :: st) σ Q := ab_r_iload_n rfl kc_X11_dry dX11_dry_53
theorem rX11_dry_54 : ab_Run X 114 54 (2, 0, 0) [ab_R z, l1, l2] st σ Q ↔ z ≠ 0 ∧ ab_Run X 114 55 (2, 0, 0) [ab_R z, l1, l2] (ab_R z :: st) σ Q := ab_r_aload_n rfl kc_X11_dry dX11_dry_54
theorem rX11_dry_55 : ab_Run X 114 55 (2, 0, 0) L (ab_R a :: st) σ Q ↔ (ab_sh σ a).1 = 12 ∧ ab_Run X 114 58 (2, 0, 0) L (ab_R (ab_rd σ a 7) :: st) σ Q := gF_11_58 ko_X11_dry kc_X11_dry dX11_dry_55
theorem rX11_dry_58 : ab_Run X 114 58 (2, 0, 0) L (ab_R a :: st) σ Q ↔ (ab_sh σ a).1 = 5 ∧ ab_Run X 114 61 (2, 0, 0) L (ab_I (ab_rd σ a 5) :: st) σ Q := gF_11_100 ko_X11_dry kc_X11_dry dX11_dry_58
theorem rX11_dry_61 : ab_Run X 114 61 (2, 0, 0) L (ab_I b :: ab_I a :: st) σ Q ↔ (b ≤ a → ab_Run X 114 107 (2, 0, 0) L st σ Q) ∧ (¬ (b ≤ a) → ab_Run X 114 64 (2, 0, 0) L st σ Q) := ab_r_icmp_ge rfl kc_X11_dry dX11_dry_61
theorem rX11_dry_64 : ab_Run X 114 64 (2, 0, 0) [ab_R z, l1, l2] st σ Q ↔ z ≠ 0 ∧ ab_Run X 114 65 (2, 0, 0) [ab_R z, l1, l2] (ab_R z :: st) σ Q := ab_r_aload_n rfl kc_X11_dry dX11_dry_64
theorem rX11_dry_65 : ab_Run X 114 65 (2, 0, 0) L (ab_R a :: st) σ Q ↔ (ab_sh σ a).1 = 12 ∧ ab_Run X 114 68 (2, 0, 0) L (ab_R (ab_rd σ a 1) :: st) σ Q := gF_11_19 ko_X11_dry kc_X11_dry dX11_dry_65
theorem rX11_dry_68 : ab_Run X 114 68 (2, 0, 0) L (ab_R a :: st) σ Q ↔ (ab_sh σ a).1 = 9 ∧ ab_Run X 114 71 (2, 0, 0) L (ab_R (ab_rd σ a 2) :: st) σ Q := gF_11_127 ko_X11_dry kc_X11_dry dX11_dry_68
theorem rX11_dry_71 : ab_Run X 114 71 (2, 0, 0) [l0, l1, ab_I z] st σ Q ↔ ab_Run X 114 72 (2, 0, 0) [l0, l1, ab_I z] (ab_I z :: st) σ Q := ab_r_iload_n rfl kc_X11_dry dX11_dry_71
theorem rX11_dry_72 : ab_Run X 114 72 (2, 0, 0) L (ab_I i :: ab_R a :: st) σ Q ↔ (((ab_sh σ a).1 = 23 ∨ (ab_sh σ a).1 = 24) ∧ 0 ≤ i ∧ i < (ab_sh σ a).2) ∧ ab_Run X 114 73 (2, 0, 0) L (ab_I (ab_rd σ a i) :: st) σ Q := ab_r_baload kc_X11_dry dX11_dry_72
theorem rX11_dry_73 : ab_Run X 114 73 (2, 0, 0) L (ab_I a :: st) σ Q ↔ (¬ a = 0 → ab_Run X 114 101 (2, 0, 0) L st σ Q) ∧ (¬ (¬ a = 0) → ab_Run X 114 76 (2, 0, 0) L st σ Q) := ab_r_if_ne rfl kc_X11_dry dX11_dry_73
theorem rX11_dry_76 : ab_Run X 114 76 (2, 0, 0) [ab_R z, l1, l2] st σ Q ↔ z ≠ 0 ∧ ab_Run X 114 77 (2, 0, 0) [ab_R z, l1, l2] (ab_R z :: st) σ Q := ab_r_aload_n rfl kc_X11_dry dX11_dry_76
theorem rX11_dry_77 : ab_Run X 114 77 (2, 0, 0) L (ab_R a :: st) σ Q ↔ (ab_sh σ a).1 = 12 ∧ ab_Run X 114 80 (2, 0, 0) L (ab_R (ab_rd σ a 1) :: st) σ Q := gF_11_19 ko_X11_dry kc_X11_dry dX11_dry_77
theorem rX11_dry_80 : ab_Run X 114 80 (2, 0, 0) L (ab_R a :: st) σ Q ↔ (ab_sh σ a).1 = 9 ∧ ab_Run X 114 83 (2, 0, 0) L (ab_R (ab_rd σ a 1) :: st) σ Q := gF_11_115 ko_X11_dry kc_X11_dry dX11_dry_80
theorem rX11_dry_83 : ab_Run X 114 83 (2, 0, 0) [l0, l1, ab_I z] st σ Q ↔ ab_Run X 114 84 (2, 0, 0) [l0, l1, ab_I z] (ab_I z :: st) σ Q := ab_r_iload_n rfl kc_X11_dry dX11_dry_83
theorem rX11_dry_84 : ab_Run X 114 84 (2, 0, 0) L st σ Q ↔ ab_Run X 114 86 (2, 0, 0) L (ab_I 24 :: st) σ Q := ab_r_bipush (by decide) kc_X11_dry dX11_dry_84
theorem rX11_dry_86 : ab_Run X 114 86 (2, 0, 0) [ab_R z, l1, l2] st σ Q ↔ z ≠ 0 ∧ ab_Run X 114 87 (2, 0, 0) [ab_R z, l1, l2] (ab_R z :: st) σ Q := ab_r_aload_n rfl kc_X11_dry dX11_dry_86
theorem rX11_dry_87 : ab_Run X 114 87 (2, 0, 0) L (ab_R a :: st) σ Q ↔ (ab_sh σ a).1 = 12 ∧ ab_Run X 114 90 (2, 0, 0) L (ab_R (ab_rd σ a 1) :: st) σ Q := gF_11_19 ko_X11_dry kc_X11_dry dX11_dry_87
theorem rX11_dry_90 : ab_Run X 114 90 (2, 0, 0) L (ab_R a :: st) σ Q ↔ (ab_sh σ a).1 = 9 ∧ ab_Run X 114 93 (2, 0, 0) L (ab_R (ab_rd σ a 1) :: st) σ Q := gF_11_115 ko_X11_dry kc_X11_dry dX11_dry_90
theorem rX11_dry_93 : ab_Run X 114 93 (2, 0, 0) [l0, l1, ab_I z] st σ Q ↔ ab_Run X 114 94 (2, 0, 0) [l0, l1, ab_I z] (ab_I z :: st) σ Q := ab_r_iload_n rfl kc_X11_dry dX11_dry_93
theorem rX11_dry_94 : ab_Run X 114 94 (2, 0, 0) L (ab_I i :: ab_R a :: st) σ Q ↔ ((ab_sh σ a).1 = 21 ∧ 0 ≤ i ∧ i < (ab_sh σ a).2) ∧ ab_Run X 114 95 (2, 0, 0) L (ab_I (ab_rd σ a i) :: st) σ Q := ab_r_iaload (by decide) kc_X11_dry dX11_dry_94
theorem rX11_dry_95 : ab_Run X 114 95 (2, 0, 0) [l0, ab_I z, l2] st σ Q ↔ ab_Run X 114 96 (2, 0, 0) [l0, ab_I z, l2] (ab_I z :: st) σ Q := ab_r_iload_n rfl kc_X11_dry dX11_dry_95
theorem rX11_dry_96 : ab_Run X 114 96 (2, 0, 0) L (ab_I b :: ab_I a :: st) σ Q ↔ ab_Run X 114 97 (2, 0, 0) L (ab_I (ab_w32 (a + b)) :: st) σ Q := ab_r_iadd kc_X11_dry dX11_dry_96
theorem rX11_dry_97 : ab_Run X 114 97 (2, 0, 0) L (ab_I b :: ab_I a :: st) σ Q ↔ ab_cats st ≤ 8 ∧ ab_Run X 114 100 (2, 0, 0) L (ab_I (if b < a then b else a) :: st) σ Q := ab_r_math 1005 (Or.inr ⟨rfl, rfl⟩) (by decide) ko_X11_dry qM_11_313 (by decide) kc_X11_dry dX11_dry_97
theorem rX11_dry_100 : ab_Run X 114 100 (2, 0, 0) L (ab_I v :: ab_I i :: ab_R a :: st) σ Q ↔ ((ab_sh σ a).1 = 21 ∧ 0 ≤ i ∧ i < (ab_sh σ a).2) ∧ ab_Run X 114 101 (2, 0, 0) L st (ab_wr σ a i v) Q := ab_r_iastore kc_X11_dry dX11_dry_100
theorem rX11_dry_101 : ab_Run X 114 101 (2, 0, 0) [l0, l1, ab_I z] st σ Q ↔ (!ab_isJ l1) = true ∧ ab_Run X 114 104 (2, 0, 0) [l0, l1, ab_I (ab_w32 (z + 1))] st σ Q := ab_r_iinc rfl (by decide) kc_X11_dry dX11_dry_101
theorem rX11_dry_104 : ab_Run X 114 104 (2, 0, 0) L st σ Q ↔ ab_Run X 114 53 (2, 0, 0) L st σ Q := ab_r_goto rfl kc_X11_dry dX11_dry_104
theorem rX11_dry_107 : ab_Run X 114 107 (2, 0, 0) L st σ Q ↔ ab_Run X 114 108 (2, 0, 0) L (ab_I 1 :: st) σ Q := ab_r_iconst (by decide) kc_X11_dry dX11_dry_107
theorem rX11_dry_108 : ab_Run X 114 108 (2, 0, 0) L [ab_I v] σ Q ↔ (v = 0 ∨ v = 1) ∧ Q (some (ab_I v)) σ := ab_r_ireturnZ rfl kc_X11_dry dX11_dry_108
theorem kc_X11_boil : ab_code 115 = cX11_boil := rfl
theorem ko_X11_boil : ab_ow 115 = 11 := rfl
theorem rX11_boil_0 : ab_Run X 115 0 (2, 0, 0) [ab_R z, l1] st σ Q ↔ z ≠ 0 ∧ ab_Run X 115 1 (2, 0, 0) [ab_R z, l1] (ab_R z :: st) σ Q := ab_r_aload_n rfl kc_X11_boil dX11_boil_0
theorem rX11_boil_1 : ab_Run X 115 1 (2, 0, 0) [ab_R z, l1] st σ Q ↔ z ≠ 0 ∧ ab_Run X 115 2 (2, 0, 0) [ab_R z, l1] (ab_R z :: st) σ Q := ab_r_aload_n rfl kc_X11_boil dX11_boil_1
theorem rX11_boil_2 : ab_Run X 115 2 (2, 0, 0) [l0, ab_I z] st σ Q ↔ ab_Run X 115 3 (2, 0, 0) [l0, ab_I z] (ab_I z :: st) σ Q := ab_r_iload_n rfl kc_X11_boil dX11_boil_2
theorem rX11_boil_3 : ab_Run X 115 3 (2, 0, 0) L (ab_I x1 :: ab_R a :: st) σ Q ↔ ((ab_sh σ a).1 = 12 ∧ ab_cats st ≤ 8) ∧ ab_Do X 126 [ab_R a, ab_I x1] σ (fun r σ' => ab_Run X 115 6 (2, 0, 0) L (ab_psh r st) σ' Q) := ab_r_callV (w := [ab_I x1]) (as := [ab_I x1]) (b1 := (0, 0, 0)) 0 (Or.inl rfl) (by decide) ko_X11_boil qM_11_109 (by decide) rfl rfl rfl rfl rfl (by decide) (Nat.le_of_ble_eq_true rfl) kc_X11_boil dX11_boil_3
theorem rX11_boil_6 : ab_Run X 115 6 (2, 0, 0) L (ab_I a :: st) σ Q ↔ (¬ a = 0 → ab_Run X 115 13 (2, 0, 0) L st σ Q) ∧ (¬ (¬ a = 0) → ab_Run X 115 9 (2, 0, 0) L st σ Q) := ab_r_if_ne rfl kc_X11_boil dX11_boil_6
theorem rX11_boil_9 : ab_Run X 115 9 (2, 0, 0) L st σ Q ↔ ab_Run X 115 10 (2, 0, 0) L (ab_I 1 :: st) σ Q := ab_r_iconst (by decide) kc_X11_boil dX11_boil_9
theorem rX11_boil_10 : ab_Run X 115 10 (2, 0, 0) L st σ Q ↔ ab_Run X 115 43 (2, 0, 0) L st σ Q := ab_r_goto rfl kc_X11_boil dX11_boil_10
theorem rX11_boil_13 : ab_Run X 115 13 (2, 0, 0) [ab_R z, l1] st σ Q ↔ z ≠ 0 ∧ ab_Run X 115 14 (2, 0, 0) [ab_R z, l1] (ab_R z :: st) σ Q := ab_r_aload_n rfl kc_X11_boil dX11_boil_13
theorem rX11_boil_14 : ab_Run X 115 14 (2, 0, 0) L (ab_R a :: st) σ Q ↔ (ab_sh σ a).1 = 12 ∧ ab_Run X 115 17 (2, 0, 0) L (ab_R (ab_rd σ a 1) :: st) σ Q := gF_11_19 ko_X11_boil kc_X11_boil dX11_boil_14
theorem rX11_boil_17 : ab_Run X 115 17 (2, 0, 0) L (ab_R a :: st) σ Q ↔ (ab_sh σ a).1 = 9 ∧ ab_Run X 115 20 (2, 0, 0) L (ab_R (ab_rd σ a 2) :: st) σ Q := gF_11_127 ko_X11_boil kc_X11_boil dX11_boil_17
theorem rX11_boil_20 : ab_Run X 115 20 (2, 0, 0) [l0, ab_I z] st σ Q ↔ ab_Run X 115 21 (2, 0, 0) [l0, ab_I z] (ab_I z :: st) σ Q := ab_r_iload_n rfl kc_X11_boil dX11_boil_20
theorem rX11_boil_21 : ab_Run X 115 21 (2, 0, 0) L (ab_I i :: ab_R a :: st) σ Q ↔ (((ab_sh σ a).1 = 23 ∨ (ab_sh σ a).1 = 24) ∧ 0 ≤ i ∧ i < (ab_sh σ a).2) ∧ ab_Run X 115 22 (2, 0, 0) L (ab_I (ab_rd σ a i) :: st) σ Q := ab_r_baload kc_X11_boil dX11_boil_21
theorem rX11_boil_22 : ab_Run X 115 22 (2, 0, 0) L (ab_I a :: st) σ Q ↔ (¬ a = 0 → ab_Run X 115 38 (2, 0, 0) L st σ Q) ∧ (¬ (¬ a = 0) → ab_Run X 115 25 (2, 0, 0) L st σ Q) := ab_r_if_ne rfl kc_X11_boil dX11_boil_22
theorem rX11_boil_25 : ab_Run X 115 25 (2, 0, 0) [ab_R z, l1] st σ Q ↔ z ≠ 0 ∧ ab_Run X 115 26 (2, 0, 0) [ab_R z, l1] (ab_R z :: st) σ Q := ab_r_aload_n rfl kc_X11_boil dX11_boil_25
theorem rX11_boil_26 : ab_Run X 115 26 (2, 0, 0) L (ab_R a :: st) σ Q ↔ (ab_sh σ a).1 = 12 ∧ ab_Run X 115 29 (2, 0, 0) L (ab_R (ab_rd σ a 1) :: st) σ Q := gF_11_19 ko_X11_boil kc_X11_boil dX11_boil_26
theorem rX11_boil_29 : ab_Run X 115 29 (2, 0, 0) L (ab_R a :: st) σ Q ↔ (ab_sh σ a).1 = 9 ∧ ab_Run X 115 32 (2, 0, 0) L (ab_R (ab_rd σ a 0) :: st) σ Q := gF_11_112 ko_X11_boil kc_X11_boil dX11_boil_29
theorem rX11_boil_32 : ab_Run X 115 32 (2, 0, 0) [l0, ab_I z] st σ Q ↔ ab_Run X 115 33 (2, 0, 0) [l0, ab_I z] (ab_I z :: st) σ Q := ab_r_iload_n rfl kc_X11_boil dX11_boil_32
theorem rX11_boil_33 : ab_Run X 115 33 (2, 0, 0) L (ab_I i :: ab_R a :: st) σ Q ↔ ((ab_sh σ a).1 = 21 ∧ 0 ≤ i ∧ i < (ab_sh σ a).2) ∧ ab_Run X 115 34 (2, 0, 0) L (ab_I (ab_rd σ a i) :: st) σ Q := ab_r_iaload (by decide) kc_X11_boil dX11_boil_33
theorem rX11_boil_34 : ab_Run X 115 34 (2, 0, 0) L st σ Q ↔ ab_Run X 115 35 (2, 0, 0) L (ab_I 2 :: st) σ Q := ab_r_iconst (by decide) kc_X11_boil dX11_boil_34
theorem rX11_boil_35 : ab_Run X 115 35 (2, 0, 0) L (ab_I b :: ab_I a :: st) σ Q ↔ (¬ a = b → ab_Run X 115 42 (2, 0, 0) L st σ Q) ∧ (¬ (¬ a = b) → ab_Run X 115 38 (2, 0, 0) L st σ Q) := ab_r_icmp_ne rfl kc_X11_boil dX11_boil_35
theorem rX11_boil_38 : ab_Run X 115 38 (2, 0, 0) L st σ Q ↔ ab_Run X 115 39 (2, 0, 0) L (ab_I 5 :: st) σ Q := ab_r_iconst (by decide) kc_X11_boil dX11_boil_38
theorem rX11_boil_39 : ab_Run X 115 39 (2, 0, 0) L st σ Q ↔ ab_Run X 115 43 (2, 0, 0) L st σ Q := ab_r_goto rfl kc_X11_boil dX11_boil_39
theorem rX11_boil_42 : ab_Run X 115 42 (2, 0, 0) L st σ Q ↔ ab_Run X 115 43 (2, 0, 0) L (ab_I 0 :: st) σ Q := ab_r_iconst (by decide) kc_X11_boil dX11_boil_42
theorem rX11_boil_43 : ab_Run X 115 43 (2, 0, 0) L (ab_I z :: ab_R a :: st) σ Q ↔ (ab_sh σ a).1 = 12 ∧ ab_Run X 115 46 (2, 0, 0) L st (ab_wr σ a 8 z) Q := sF_11_62 ko_X11_boil kc_X11_boil dX11_boil_43
theorem rX11_boil_46 : ab_Run X 115 46 (2, 0, 0) [ab_R z, l1] st σ Q ↔ z ≠ 0 ∧ ab_Run X 115 47 (2, 0, 0) [ab_R z, l1] (ab_R z :: st) σ Q := ab_r_aload_n rfl kc_X11_boil dX11_boil_46
theorem rX11_boil_47 : ab_Run X 115 47 (2, 0, 0) L (ab_R a :: st) σ Q ↔ (ab_sh σ a).1 = 12 ∧ ab_Run X 115 50 (2, 0, 0) L (ab_I (ab_rd σ a 8) :: st) σ Q := gF_11_62 ko_X11_boil kc_X11_boil dX11_boil_47
theorem rX11_boil_50 : ab_Run X 115 50 (2, 0, 0) L (ab_I a :: st) σ Q ↔ (a = 0 → ab_Run X 115 55 (2, 0, 0) L st σ Q) ∧ (¬ (a = 0) → ab_Run X 115 53 (2, 0, 0) L st σ Q) := ab_r_if_eq rfl kc_X11_boil dX11_boil_50
theorem rX11_boil_53 : ab_Run X 115 53 (2, 0, 0) L st σ Q ↔ ab_Run X 115 54 (2, 0, 0) L (ab_I 0 :: st) σ Q := ab_r_iconst (by decide) kc_X11_boil dX11_boil_53
theorem rX11_boil_54 : ab_Run X 115 54 (2, 0, 0) L [ab_I v] σ Q ↔ (v = 0 ∨ v = 1) ∧ Q (some (ab_I v)) σ := ab_r_ireturnZ rfl kc_X11_boil dX11_boil_54
theorem rX11_boil_55 : ab_Run X 115 55 (2, 0, 0) [ab_R z, l1] st σ Q ↔ z ≠ 0 ∧ ab_Run X 115 56 (2, 0, 0) [ab_R z, l1] (ab_R z :: st) σ Q := ab_r_aload_n rfl kc_X11_boil dX11_boil_55
theorem rX11_boil_56 : ab_Run X 115 56 (2, 0, 0) L (ab_R a :: st) σ Q ↔ (ab_sh σ a).1 = 12 ∧ ab_Run X 115 59 (2, 0, 0) L (ab_R (ab_rd σ a 2) :: st) σ Q := gF_11_26 ko_X11_boil kc_X11_boil dX11_boil_56
theorem rX11_boil_59 : ab_Run X 115 59 (2, 0, 0) [ab_R z, l1] st σ Q ↔ z ≠ 0 ∧ ab_Run X 115 60 (2, 0, 0) [ab_R z, l1] (ab_R z :: st) σ Q := ab_r_aload_n rfl kc_X11_boil dX11_boil_59
theorem rX11_boil_60 : ab_Run X 115 60 (2, 0, 0) L (ab_R a :: st) σ Q ↔ (ab_sh σ a).1 = 12 ∧ ab_Run X 115 63 (2, 0, 0) L (ab_R (ab_rd σ a 1) :: st) σ Q := gF_11_19 ko_X11_boil kc_X11_boil dX11_boil_60
theorem rX11_boil_63 : ab_Run X 115 63 (2, 0, 0) L (ab_R x1 :: ab_R a :: st) σ Q ↔ ((ab_sh σ a).1 = 4 ∧ ab_cats st ≤ 8) ∧ ab_Do X 21 [ab_R a, ab_R x1] σ (fun r σ' => ab_Run X 115 66 (2, 0, 0) L (ab_psh r st) σ' Q) := ab_r_callV (w := [ab_R x1]) (as := [ab_R x1]) (b1 := (1, 0, 0)) 0 (Or.inl rfl) (by decide) ko_X11_boil qM_11_336 (by decide) rfl rfl rfl rfl rfl (by decide) (Nat.le_of_ble_eq_true rfl) kc_X11_boil dX11_boil_63
theorem rX11_boil_66 : ab_Run X 115 66 (2, 0, 0) [ab_R z, l1] st σ Q ↔ z ≠ 0 ∧ ab_Run X 115 67 (2, 0, 0) [ab_R z, l1] (ab_R z :: st) σ Q := ab_r_aload_n rfl kc_X11_boil dX11_boil_66
theorem rX11_boil_67 : ab_Run X 115 67 (2, 0, 0) L (ab_R a :: st) σ Q ↔ (ab_sh σ a).1 = 12 ∧ ab_Run X 115 70 (2, 0, 0) L (ab_R (ab_rd σ a 1) :: st) σ Q := gF_11_19 ko_X11_boil kc_X11_boil dX11_boil_67
theorem rX11_boil_70 : ab_Run X 115 70 (2, 0, 0) L (ab_R a :: st) σ Q ↔ (ab_sh σ a).1 = 9 ∧ ab_Run X 115 73 (2, 0, 0) L (ab_R (ab_rd σ a 0) :: st) σ Q := gF_11_112 ko_X11_boil kc_X11_boil dX11_boil_70
theorem rX11_boil_73 : ab_Run X 115 73 (2, 0, 0) [l0, ab_I z] st σ Q ↔ ab_Run X 115 74 (2, 0, 0) [l0, ab_I z] (ab_I z :: st) σ Q := ab_r_iload_n rfl kc_X11_boil dX11_boil_73
theorem rX11_boil_74 : ab_Run X 115 74 (2, 0, 0) L st σ Q ↔ ab_Run X 115 75 (2, 0, 0) L (ab_I 2 :: st) σ Q := ab_r_iconst (by decide) kc_X11_boil dX11_boil_74
theorem rX11_boil_75 : ab_Run X 115 75 (2, 0, 0) L (ab_I v :: ab_I i :: ab_R a :: st) σ Q ↔ ((ab_sh σ a).1 = 21 ∧ 0 ≤ i ∧ i < (ab_sh σ a).2) ∧ ab_Run X 115 76 (2, 0, 0) L st (ab_wr σ a i v) Q := ab_r_iastore kc_X11_boil dX11_boil_75
theorem rX11_boil_76 : ab_Run X 115 76 (2, 0, 0) L st σ Q ↔ ab_Run X 115 77 (2, 0, 0) L (ab_I 1 :: st) σ Q := ab_r_iconst (by decide) kc_X11_boil dX11_boil_76
theorem rX11_boil_77 : ab_Run X 115 77 (2, 0, 0) L [ab_I v] σ Q ↔ (v = 0 ∨ v = 1) ∧ Q (some (ab_I v)) σ := ab_r_ireturnZ rfl kc_X11_boil dX11_boil_77
theorem kc_X11_pull : ab_code 116 = cX11_pull := rfl
theorem ko_X11_pull : ab_ow 116 = 11 := rfl
theorem rX11_pull_0 : ab_Run X 116 0 (4, 0, 0) [ab_R z, l1, l2, l3, l4, l5, l6, l7] st σ Q ↔ z ≠ 0 ∧ ab_Run X 116 1 (4, 0, 0) [ab_R z, l1, l2, l3, l4, l5, l6, l7] (ab_R z :: st) σ Q := ab_r_aload_n rfl kc_X11_pull dX11_pull_0
theorem rX11_pull_1 : ab_Run X 116 1 (4, 0, 0) [ab_R z, l1, l2, l3, l4, l5, l6, l7] st σ Q ↔ z ≠ 0 ∧ ab_Run X 116 2 (4, 0, 0) [ab_R z, l1, l2, l3, l4, l5, l6, l7] (ab_R z :: st) σ Q := ab_r_aload_n rfl kc_X11_pull dX11_pull_1
theorem rX11_pull_2 : ab_Run X 116 2 (4, 0, 0) [l0, ab_I z, l2, l3, l4, l5, l6, l7] st σ Q ↔ ab_Run X 116 3 (4, 0, 0) [l0, ab_I z, l2, l3, l4, l5, l6, l7] (ab_I z :: st) σ Q := ab_r_iload_n rfl kc_X11_pull dX11_pull_2
theorem rX11_pull_3 : ab_Run X 116 3 (4, 0, 0) [l0, l1, ab_I z, l3, l4, l5, l6, l7] st σ Q ↔ ab_Run X 116 4 (4, 0, 0) [l0, l1, ab_I z, l3, l4, l5, l6, l7] (ab_I z :: st) σ Q := ab_r_iload_n rfl kc_X11_pull dX11_pull_3
theorem rX11_pull_4 : ab_Run X 116 4 (4, 0, 0) [l0, l1, l2, ab_I z, l4, l5, l6, l7] st σ Q ↔ ab_Run X 116 5 (4, 0, 0) [l0, l1, l2, ab_I z, l4, l5, l6, l7] (ab_I z :: st) σ Q := ab_r_iload_n rfl kc_X11_pull dX11_pull_4
theorem rX11_pull_5 : ab_Run X 116 5 (4, 0, 0) [l0, l1, l2, l3, ab_I z, l5, l6, l7] st σ Q ↔ ab_Run X 116 7 (4, 0, 0) [l0, l1, l2, l3, ab_I z, l5, l6, l7] (ab_I z :: st) σ Q := ab_r_iload rfl kc_X11_pull dX11_pull_5
theorem rX11_pull_7 : ab_Run X 116 7 (4, 0, 0) [l0, l1, l2, l3, l4, ab_I z, l6, l7] st σ Q ↔ ab_Run X 116 9 (4, 0, 0) [l0, l1, l2, l3, l4, ab_I z, l6, l7] (ab_I z :: st) σ Q := ab_r_iload rfl kc_X11_pull dX11_pull_7
theorem rX11_pull_9 : ab_Run X 116 9 (4, 0, 0) [l0, l1, l2, l3, l4, l5, ab_I z, l7] st σ Q ↔ ab_Run X 116 11 (4, 0, 0) [l0, l1, l2, l3, l4, l5, ab_I z, l7] (ab_I z :: st) σ Q := ab_r_iload rfl kc_X11_pull dX11_pull_9
theorem rX11_pull_11 : ab_Run X 116 11 (4, 0, 0) L (ab_I x6 :: ab_I x5 :: ab_I x4 :: ab_I x3 :: ab_I x2 :: ab_I x1 :: ab_R a :: st) σ Q ↔ ((ab_sh σ a).1 = 12 ∧ ab_cats st ≤ 8) ∧ ab_Do X 134 [ab_R a, ab_I x1, ab_I x2, ab_I x3, ab_I x4, ab_I x5, ab_I x6] σ (fun r σ' => ab_Run X 116 14 (4, 0, 0) L (ab_psh r st) σ' Q) := ab_r_callV (w := [ab_I x6, ab_I x5, ab_I x4, ab_I x3, ab_I x2, ab_I x1]) (as := [ab_I x1, ab_I x2, ab_I x3, ab_I x4, ab_I x5, ab_I x6]) (b1 := (3, 0, 0)) 0 (Or.inl rfl) (by decide) ko_X11_pull qM_11_184 (by decide) rfl rfl rfl rfl rfl (by decide) (Nat.le_of_ble_eq_true rfl) kc_X11_pull dX11_pull_11
theorem rX11_pull_14 : ab_Run X 116 14 (4, 0, 0) L (ab_I z :: ab_R a :: st) σ Q ↔ (ab_sh σ a).1 = 12 ∧ ab_Run X 116 17 (4, 0, 0) L st (ab_wr σ a 8 z) Q := sF_11_62 ko_X11_pull kc_X11_pull dX11_pull_14
theorem rX11_pull_17 : ab_Run X 116 17 (4, 0, 0) [ab_R z, l1, l2, l3, l4, l5, l6, l7] st σ Q ↔ z ≠ 0 ∧ ab_Run X 116 18 (4, 0, 0) [ab_R z, l1, l2, l3, l4, l5, l6, l7] (ab_R z :: st) σ Q := ab_r_aload_n rfl kc_X11_pull dX11_pull_17
theorem rX11_pull_18 : ab_Run X 116 18 (4, 0, 0) L (ab_R a :: st) σ Q ↔ (ab_sh σ a).1 = 12 ∧ ab_Run X 116 21 (4, 0, 0) L (ab_I (ab_rd σ a 8) :: st) σ Q := gF_11_62 ko_X11_pull kc_X11_pull dX11_pull_18
theorem rX11_pull_21 : ab_Run X 116 21 (4, 0, 0) L (ab_I a :: st) σ Q ↔ (¬ a = 0 → ab_Run X 116 57 (4, 0, 0) L st σ Q) ∧ (¬ (¬ a = 0) → ab_Run X 116 24 (4, 0, 0) L st σ Q) := ab_r_if_ne rfl kc_X11_pull dX11_pull_21
theorem rX11_pull_24 : ab_Run X 116 24 (4, 0, 0) [ab_R z, l1, l2, l3, l4, l5, l6, l7] st σ Q ↔ z ≠ 0 ∧ ab_Run X 116 25 (4, 0, 0) [ab_R z, l1, l2, l3, l4, l5, l6, l7] (ab_R z :: st) σ Q := ab_r_aload_n rfl kc_X11_pull dX11_pull_24
theorem rX11_pull_25 : ab_Run X 116 25 (4, 0, 0) L (ab_R a :: st) σ Q ↔ (ab_sh σ a).1 = 12 ∧ ab_Run X 116 28 (4, 0, 0) L (ab_R (ab_rd σ a 7) :: st) σ Q := gF_11_58 ko_X11_pull kc_X11_pull dX11_pull_25
theorem rX11_pull_28 : ab_Run X 116 28 (4, 0, 0) L (ab_R a :: st) σ Q ↔ (ab_sh σ a).1 = 5 ∧ ab_Run X 116 31 (4, 0, 0) L (ab_R (ab_rd σ a 6) :: st) σ Q := gF_11_118 ko_X11_pull kc_X11_pull dX11_pull_28
theorem rX11_pull_31 : ab_Run X 116 31 (4, 0, 0) [l0, ab_I z, l2, l3, l4, l5, l6, l7] st σ Q ↔ ab_Run X 116 32 (4, 0, 0) [l0, ab_I z, l2, l3, l4, l5, l6, l7] (ab_I z :: st) σ Q := ab_r_iload_n rfl kc_X11_pull dX11_pull_31
theorem rX11_pull_32 : ab_Run X 116 32 (4, 0, 0) L (ab_I i :: ab_R a :: st) σ Q ↔ ((25 ≤ (ab_sh σ a).1 ∧ (ab_sh σ a).1 < 30) ∧ 0 ≤ i ∧ i < (ab_sh σ a).2) ∧ ab_Run X 116 33 (4, 0, 0) L (ab_R (ab_rd σ a i) :: st) σ Q := ab_r_aaload kc_X11_pull dX11_pull_32
theorem rX11_pull_33 : ab_Run X 116 33 (4, 0, 0) L (ab_R a :: st) σ Q ↔ (ab_sh σ a).1 = 2 ∧ ab_Run X 116 36 (4, 0, 0) L (ab_I (ab_rd σ a 1) :: st) σ Q := gF_11_340 ko_X11_pull kc_X11_pull dX11_pull_33
theorem rX11_pull_36 : ab_Run X 116 36 (4, 0, 0) L st σ Q ↔ ab_Run X 116 37 (4, 0, 0) L (ab_I 1 :: st) σ Q := ab_r_iconst (by decide) kc_X11_pull dX11_pull_36
theorem rX11_pull_37 : ab_Run X 116 37 (4, 0, 0) L (ab_I b :: ab_I a :: st) σ Q ↔ (a = b → ab_Run X 116 52 (4, 0, 0) L st σ Q) ∧ (¬ (a = b) → ab_Run X 116 40 (4, 0, 0) L st σ Q) := ab_r_icmp_eq rfl kc_X11_pull dX11_pull_37
theorem rX11_pull_40 : ab_Run X 116 40 (4, 0, 0) [ab_R z, l1, l2, l3, l4, l5, l6, l7] st σ Q ↔ z ≠ 0 ∧ ab_Run X 116 41 (4, 0, 0) [ab_R z, l1, l2, l3, l4, l5, l6, l7] (ab_R z :: st) σ Q := ab_r_aload_n rfl kc_X11_pull dX11_pull_40
theorem rX11_pull_41 : ab_Run X 116 41 (4, 0, 0) L (ab_R a :: st) σ Q ↔ (ab_sh σ a).1 = 12 ∧ ab_Run X 116 44 (4, 0, 0) L (ab_R (ab_rd σ a 1) :: st) σ Q := gF_11_19 ko_X11_pull kc_X11_pull dX11_pull_41
theorem rX11_pull_44 : ab_Run X 116 44 (4, 0, 0) L (ab_R a :: st) σ Q ↔ (ab_sh σ a).1 = 9 ∧ ab_Run X 116 47 (4, 0, 0) L (ab_R (ab_rd σ a 2) :: st) σ Q := gF_11_127 ko_X11_pull kc_X11_pull dX11_pull_44
theorem rX11_pull_47 : ab_Run X 116 47 (4, 0, 0) [l0, ab_I z, l2, l3, l4, l5, l6, l7] st σ Q ↔ ab_Run X 116 48 (4, 0, 0) [l0, ab_I z, l2, l3, l4, l5, l6, l7] (ab_I z :: st) σ Q := ab_r_iload_n rfl kc_X11_pull dX11_pull_47
theorem rX11_pull_48 : ab_Run X 116 48 (4, 0, 0) L (ab_I i :: ab_R a :: st) σ Q ↔ (((ab_sh σ a).1 = 23 ∨ (ab_sh σ a).1 = 24) ∧ 0 ≤ i ∧ i < (ab_sh σ a).2) ∧ ab_Run X 116 49 (4, 0, 0) L (ab_I (ab_rd σ a i) :: st) σ Q := ab_r_baload kc_X11_pull dX11_pull_48
theorem rX11_pull_49 : ab_Run X 116 49 (4, 0, 0) L (ab_I a :: st) σ Q ↔ (a = 0 → ab_Run X 116 57 (4, 0, 0) L st σ Q) ∧ (¬ (a = 0) → ab_Run X 116 52 (4, 0, 0) L st σ Q) := ab_r_if_eq rfl kc_X11_pull dX11_pull_49
theorem rX11_pull_52 : ab_Run X 116 52 (4, 0, 0) [ab_R z, l1, l2, l3, l4, l5, l6, l7] st σ Q ↔ z ≠ 0 ∧ ab_Run X 116 53 (4, 0, 0) [ab_R z, l1, l2, l3, l4, l5, l6, l7] (ab_R z :: st) σ Q := ab_r_aload_n rfl kc_X11_pull dX11_pull_52
theorem rX11_pull_53 : ab_Run X 116 53 (4, 0, 0) L st σ Q ↔ ab_Run X 116 54 (4, 0, 0) L (ab_I 5 :: st) σ Q := ab_r_iconst (by decide) kc_X11_pull dX11_pull_53
theorem rX11_pull_54 : ab_Run X 116 54 (4, 0, 0) L (ab_I z :: ab_R a :: st) σ Q ↔ (ab_sh σ a).1 = 12 ∧ ab_Run X 116 57 (4, 0, 0) L st (ab_wr σ a 8 z) Q := sF_11_62 ko_X11_pull kc_X11_pull dX11_pull_54
theorem rX11_pull_57 : ab_Run X 116 57 (4, 0, 0) [ab_R z, l1, l2, l3, l4, l5, l6, l7] st σ Q ↔ z ≠ 0 ∧ ab_Run X 116 58 (4, 0, 0) [ab_R z, l1, l2, l3, l4, l5, l6, l7] (ab_R z :: st) σ Q := ab_r_aload_n rfl kc_X11_pull dX11_pull_57
theorem rX11_pull_58 : ab_Run X 116 58 (4, 0, 0) L (ab_R a :: st) σ Q ↔ (ab_sh σ a).1 = 12 ∧ ab_Run X 116 61 (4, 0, 0) L (ab_I (ab_rd σ a 8) :: st) σ Q := gF_11_62 ko_X11_pull kc_X11_pull dX11_pull_58
theorem rX11_pull_61 : ab_Run X 116 61 (4, 0, 0) L (ab_I a :: st) σ Q ↔ (a = 0 → ab_Run X 116 66 (4, 0, 0) L st σ Q) ∧ (¬ (a = 0) → ab_Run X 116 64 (4, 0, 0) L st σ Q) := ab_r_if_eq rfl kc_X11_pull dX11_pull_61
theorem rX11_pull_64 : ab_Run X 116 64 (4, 0, 0) L st σ Q ↔ ab_Run X 116 65 (4, 0, 0) L (ab_I (-1) :: st) σ Q := ab_r_iconst (by decide) kc_X11_pull dX11_pull_64
theorem rX11_pull_65 : ab_Run X 116 65 (4, 0, 0) L [ab_I v] σ Q ↔ Q (some (ab_I v)) σ := ab_r_ireturnI rfl kc_X11_pull dX11_pull_65
theorem rX11_pull_66 : ab_Run X 116 66 (4, 0, 0) [ab_R z, l1, l2, l3, l4, l5, l6, l7] st σ Q ↔ z ≠ 0 ∧ ab_Run X 116 67 (4, 0, 0) [ab_R z, l1, l2, l3, l4, l5, l6, l7] (ab_R z :: st) σ Q := ab_r_aload_n rfl kc_X11_pull dX11_pull_66
theorem rX11_pull_67 : ab_Run X 116 67 (4, 0, 0) L (ab_R a :: st) σ Q ↔ (ab_sh σ a).1 = 12 ∧ ab_Run X 116 70 (4, 0, 0) L (ab_R (ab_rd σ a 2) :: st) σ Q := gF_11_26 ko_X11_pull kc_X11_pull dX11_pull_67
theorem rX11_pull_70 : ab_Run X 116 70 (4, 0, 0) [ab_R z, l1, l2, l3, l4, l5, l6, l7] st σ Q ↔ z ≠ 0 ∧ ab_Run X 116 71 (4, 0, 0) [ab_R z, l1, l2, l3, l4, l5, l6, l7] (ab_R z :: st) σ Q := ab_r_aload_n rfl kc_X11_pull dX11_pull_70
theorem rX11_pull_71 : ab_Run X 116 71 (4, 0, 0) L (ab_R a :: st) σ Q ↔ (ab_sh σ a).1 = 12 ∧ ab_Run X 116 74 (4, 0, 0) L (ab_R (ab_rd σ a 1) :: st) σ Q := gF_11_19 ko_X11_pull kc_X11_pull dX11_pull_71
theorem rX11_pull_74 : ab_Run X 116 74 (4, 0, 0) L (ab_R x1 :: ab_R a :: st) σ Q ↔ ((ab_sh σ a).1 = 4 ∧ ab_cats st ≤ 8) ∧ ab_Do X 21 [ab_R a, ab_R x1] σ (fun r σ' => ab_Run X 116 77 (4, 0, 0) L (ab_psh r st) σ' Q) := ab_r_callV (w := [ab_R x1]) (as := [ab_R x1]) (b1 := (1, 0, 0)) 0 (Or.inl rfl) (by decide) ko_X11_pull qM_11_336 (by decide) rfl rfl rfl rfl rfl (by decide) (Nat.le_of_ble_eq_true rfl) kc_X11_pull dX11_pull_74
theorem rX11_pull_77 : ab_Run X 116 77 (4, 0, 0) [ab_R z, l1, l2, l3, l4, l5, l6, l7] st σ Q ↔ z ≠ 0 ∧ ab_Run X 116 78 (4, 0, 0) [ab_R z, l1, l2, l3, l4, l5, l6, l7] (ab_R z :: st) σ Q := ab_r_aload_n rfl kc_X11_pull dX11_pull_77
theorem rX11_pull_78 : ab_Run X 116 78 (4, 0, 0) [l0, ab_I z, l2, l3, l4, l5, l6, l7] st σ Q ↔ ab_Run X 116 79 (4, 0, 0) [l0, ab_I z, l2, l3, l4, l5, l6, l7] (ab_I z :: st) σ Q := ab_r_iload_n rfl kc_X11_pull dX11_pull_78
theorem rX11_pull_79 : ab_Run X 116 79 (4, 0, 0) [l0, l1, ab_I z, l3, l4, l5, l6, l7] st σ Q ↔ ab_Run X 116 80 (4, 0, 0) [l0, l1, ab_I z, l3, l4, l5, l6, l7] (ab_I z :: st) σ Q := ab_r_iload_n rfl kc_X11_pull dX11_pull_79
theorem rX11_pull_80 : ab_Run X 116 80 (4, 0, 0) [l0, l1, l2, ab_I z, l4, l5, l6, l7] st σ Q ↔ ab_Run X 116 81 (4, 0, 0) [l0, l1, l2, ab_I z, l4, l5, l6, l7] (ab_I z :: st) σ Q := ab_r_iload_n rfl kc_X11_pull dX11_pull_80
theorem rX11_pull_81 : ab_Run X 116 81 (4, 0, 0) [l0, l1, l2, l3, ab_I z, l5, l6, l7] st σ Q ↔ ab_Run X 116 83 (4, 0, 0) [l0, l1, l2, l3, ab_I z, l5, l6, l7] (ab_I z :: st) σ Q := ab_r_iload rfl kc_X11_pull dX11_pull_81
theorem rX11_pull_83 : ab_Run X 116 83 (4, 0, 0) [l0, l1, l2, l3, l4, ab_I z, l6, l7] st σ Q ↔ ab_Run X 116 85 (4, 0, 0) [l0, l1, l2, l3, l4, ab_I z, l6, l7] (ab_I z :: st) σ Q := ab_r_iload rfl kc_X11_pull dX11_pull_83
theorem rX11_pull_85 : ab_Run X 116 85 (4, 0, 0) [l0, l1, l2, l3, l4, l5, ab_I z, l7] st σ Q ↔ ab_Run X 116 87 (4, 0, 0) [l0, l1, l2, l3, l4, l5, ab_I z, l7] (ab_I z :: st) σ Q := ab_r_iload rfl kc_X11_pull dX11_pull_85
theorem rX11_pull_87 : ab_Run X 116 87 (4, 0, 0) L (ab_I x6 :: ab_I x5 :: ab_I x4 :: ab_I x3 :: ab_I x2 :: ab_I x1 :: ab_R a :: st) σ Q ↔ ((ab_sh σ a).1 = 12 ∧ ab_cats st ≤ 8) ∧ ab_Do X 138 [ab_R a, ab_I x1, ab_I x2, ab_I x3, ab_I x4, ab_I x5, ab_I x6] σ (fun r σ' => ab_Run X 116 90 (4, 0, 0) L (ab_psh r st) σ' Q) := ab_r_callV (w := [ab_I x6, ab_I x5, ab_I x4, ab_I x3, ab_I x2, ab_I x1]) (as := [ab_I x1, ab_I x2, ab_I x3, ab_I x4, ab_I x5, ab_I x6]) (b1 := (3, 0, 0)) 0 (Or.inl rfl) (by decide) ko_X11_pull qM_11_188 (by decide) rfl rfl rfl rfl rfl (by decide) (Nat.le_of_ble_eq_true rfl) kc_X11_pull dX11_pull_87
theorem rX11_pull_90 : ab_Run X 116 90 (4, 0, 0) [ab_R z, l1, l2, l3, l4, l5, l6, l7] st σ Q ↔ z ≠ 0 ∧ ab_Run X 116 91 (4, 0, 0) [ab_R z, l1, l2, l3, l4, l5, l6, l7] (ab_R z :: st) σ Q := ab_r_aload_n rfl kc_X11_pull dX11_pull_90
theorem rX11_pull_91 : ab_Run X 116 91 (4, 0, 0) L (ab_R a :: st) σ Q ↔ (ab_sh σ a).1 = 12 ∧ ab_Run X 116 94 (4, 0, 0) L (ab_R (ab_rd σ a 3) :: st) σ Q := gF_11_33 ko_X11_pull kc_X11_pull dX11_pull_91
theorem rX11_pull_94 : ab_Run X 116 94 (4, 0, 0) [ab_R z, l1, l2, l3, l4, l5, l6, l7] st σ Q ↔ z ≠ 0 ∧ ab_Run X 116 95 (4, 0, 0) [ab_R z, l1, l2, l3, l4, l5, l6, l7] (ab_R z :: st) σ Q := ab_r_aload_n rfl kc_X11_pull dX11_pull_94
theorem rX11_pull_95 : ab_Run X 116 95 (4, 0, 0) L (ab_R a :: st) σ Q ↔ (ab_sh σ a).1 = 12 ∧ ab_Run X 116 98 (4, 0, 0) L (ab_R (ab_rd σ a 1) :: st) σ Q := gF_11_19 ko_X11_pull kc_X11_pull dX11_pull_95
theorem rX11_pull_98 : ab_Run X 116 98 (4, 0, 0) [ab_R z, l1, l2, l3, l4, l5, l6, l7] st σ Q ↔ z ≠ 0 ∧ ab_Run X 116 99 (4, 0, 0) [ab_R z, l1, l2, l3, l4, l5, l6, l7] (ab_R z :: st) σ Q := ab_r_aload_n rfl kc_X11_pull dX11_pull_98
theorem rX11_pull_99 : ab_Run X 116 99 (4, 0, 0) L (ab_R a :: st) σ Q ↔ (ab_sh σ a).1 = 12 ∧ ab_Run X 116 102 (4, 0, 0) L (ab_R (ab_rd σ a 7) :: st) σ Q := gF_11_58 ko_X11_pull kc_X11_pull dX11_pull_99
theorem rX11_pull_102 : ab_Run X 116 102 (4, 0, 0) L (ab_R a :: st) σ Q ↔ (ab_sh σ a).1 = 5 ∧ ab_Run X 116 105 (4, 0, 0) L (ab_I (ab_rd σ a 4) :: st) σ Q := gF_11_341 ko_X11_pull kc_X11_pull dX11_pull_102
theorem rX11_pull_105 : ab_Run X 116 105 (4, 0, 0) [ab_R z, l1, l2, l3, l4, l5, l6, l7] st σ Q ↔ z ≠ 0 ∧ ab_Run X 116 106 (4, 0, 0) [ab_R z, l1, l2, l3, l4, l5, l6, l7] (ab_R z :: st) σ Q := ab_r_aload_n rfl kc_X11_pull dX11_pull_105
theorem rX11_pull_106 : ab_Run X 116 106 (4, 0, 0) L (ab_R a :: st) σ Q ↔ (ab_sh σ a).1 = 12 ∧ ab_Run X 116 109 (4, 0, 0) L (ab_R (ab_rd σ a 7) :: st) σ Q := gF_11_58 ko_X11_pull kc_X11_pull dX11_pull_106
theorem rX11_pull_109 : ab_Run X 116 109 (4, 0, 0) L (ab_R a :: st) σ Q ↔ (ab_sh σ a).1 = 5 ∧ ab_Run X 116 112 (4, 0, 0) L (ab_R (ab_rd σ a 6) :: st) σ Q := gF_11_118 ko_X11_pull kc_X11_pull dX11_pull_109
theorem rX11_pull_112 : ab_Run X 116 112 (4, 0, 0) [l0, ab_I z, l2, l3, l4, l5, l6, l7] st σ Q ↔ ab_Run X 116 113 (4, 0, 0) [l0, ab_I z, l2, l3, l4, l5, l6, l7] (ab_I z :: st) σ Q := ab_r_iload_n rfl kc_X11_pull dX11_pull_112
theorem rX11_pull_113 : ab_Run X 116 113 (4, 0, 0) L (ab_I i :: ab_R a :: st) σ Q ↔ ((25 ≤ (ab_sh σ a).1 ∧ (ab_sh σ a).1 < 30) ∧ 0 ≤ i ∧ i < (ab_sh σ a).2) ∧ ab_Run X 116 114 (4, 0, 0) L (ab_R (ab_rd σ a i) :: st) σ Q := ab_r_aaload kc_X11_pull dX11_pull_113
theorem rX11_pull_114 : ab_Run X 116 114 (4, 0, 0) L (ab_R a :: st) σ Q ↔ ((ab_sh σ a).1 = 2 ∧ ab_cats st ≤ 8) ∧ ab_Do X 8 [ab_R a] σ (fun r σ' => ab_Run X 116 117 (4, 0, 0) L (ab_psh r st) σ' Q) := ab_r_callV (w := []) (as := []) (b1 := (0, 0, 0)) 0 (Or.inl rfl) (by decide) ko_X11_pull qM_11_344 (by decide) rfl rfl rfl rfl rfl (by decide) (Nat.le_of_ble_eq_true rfl) kc_X11_pull dX11_pull_114
theorem rX11_pull_117 : ab_Run X 116 117 (4, 0, 0) L (ab_I x2 :: ab_I x1 :: ab_R a :: st) σ Q ↔ ((ab_sh σ a).1 = 9 ∧ ab_cats st ≤ 8) ∧ ab_Do X 65 [ab_R a, ab_I x1, ab_I x2] σ (fun r σ' => ab_Run X 116 120 (4, 0, 0) L (ab_psh r st) σ' Q) := ab_r_callV (w := [ab_I x2, ab_I x1]) (as := [ab_I x1, ab_I x2]) (b1 := (1, 0, 0)) 0 (Or.inl rfl) (by decide) ko_X11_pull qM_11_347 (by decide) rfl rfl rfl rfl rfl (by decide) (Nat.le_of_ble_eq_true rfl) kc_X11_pull dX11_pull_117
theorem rX11_pull_120 : ab_Run X 116 120 (4, 0, 0) L (ab_I x1 :: ab_R a :: st) σ Q ↔ ((ab_sh σ a).1 = 7 ∧ ab_cats st ≤ 8) ∧ ab_Do X 36 [ab_R a, ab_I x1] σ (fun r σ' => ab_Run X 116 123 (4, 0, 0) L (ab_psh r st) σ' Q) := ab_r_callV (w := [ab_I x1]) (as := [ab_I x1]) (b1 := (1, 0, 0)) 0 (Or.inl rfl) (by decide) ko_X11_pull qM_11_198 (by decide) rfl rfl rfl rfl rfl (by decide) (Nat.le_of_ble_eq_true rfl) kc_X11_pull dX11_pull_120
theorem rX11_pull_123 : ab_Run X 116 123 (4, 0, 0) [l0, l1, l2, l3, l4, l5, l6, l7] (ab_I z :: st) σ Q ↔ (!ab_isJ l6) = true ∧ ab_Run X 116 125 (4, 0, 0) [l0, l1, l2, l3, l4, l5, l6, ab_I z] st σ Q := ab_r_istore (Nat.le_of_ble_eq_true rfl) kc_X11_pull dX11_pull_123
theorem rX11_pull_125 : ab_Run X 116 125 (4, 0, 0) [ab_R z, l1, l2, l3, l4, l5, l6, l7] st σ Q ↔ z ≠ 0 ∧ ab_Run X 116 126 (4, 0, 0) [ab_R z, l1, l2, l3, l4, l5, l6, l7] (ab_R z :: st) σ Q := ab_r_aload_n rfl kc_X11_pull dX11_pull_125
theorem rX11_pull_126 : ab_Run X 116 126 (4, 0, 0) L (ab_R a :: st) σ Q ↔ (ab_sh σ a).1 = 12 ∧ ab_Run X 116 129 (4, 0, 0) L (ab_R (ab_rd σ a 1) :: st) σ Q := gF_11_19 ko_X11_pull kc_X11_pull dX11_pull_126
theorem rX11_pull_129 : ab_Run X 116 129 (4, 0, 0) L (ab_R a :: st) σ Q ↔ (ab_sh σ a).1 = 9 ∧ ab_Run X 116 132 (4, 0, 0) L (ab_R (ab_rd σ a 2) :: st) σ Q := gF_11_127 ko_X11_pull kc_X11_pull dX11_pull_129
theorem rX11_pull_132 : ab_Run X 116 132 (4, 0, 0) [l0, ab_I z, l2, l3, l4, l5, l6, l7] st σ Q ↔ ab_Run X 116 133 (4, 0, 0) [l0, ab_I z, l2, l3, l4, l5, l6, l7] (ab_I z :: st) σ Q := ab_r_iload_n rfl kc_X11_pull dX11_pull_132
theorem rX11_pull_133 : ab_Run X 116 133 (4, 0, 0) [l0, l1, l2, l3, l4, l5, l6, ab_I z] st σ Q ↔ ab_Run X 116 135 (4, 0, 0) [l0, l1, l2, l3, l4, l5, l6, ab_I z] (ab_I z :: st) σ Q := ab_r_iload rfl kc_X11_pull dX11_pull_133
theorem rX11_pull_135 : ab_Run X 116 135 (4, 0, 0) L st σ Q ↔ ab_Run X 116 136 (4, 0, 0) L (ab_I 3 :: st) σ Q := ab_r_iconst (by decide) kc_X11_pull dX11_pull_135
theorem rX11_pull_136 : ab_Run X 116 136 (4, 0, 0) L (ab_I b :: ab_I a :: st) σ Q ↔ (a = b → ab_Run X 116 143 (4, 0, 0) L st σ Q) ∧ (¬ (a = b) → ab_Run X 116 139 (4, 0, 0) L st σ Q) := ab_r_icmp_eq rfl kc_X11_pull dX11_pull_136
theorem rX11_pull_139 : ab_Run X 116 139 (4, 0, 0) L st σ Q ↔ ab_Run X 116 140 (4, 0, 0) L (ab_I 1 :: st) σ Q := ab_r_iconst (by decide) kc_X11_pull dX11_pull_139
theorem rX11_pull_140 : ab_Run X 116 140 (4, 0, 0) L st σ Q ↔ ab_Run X 116 144 (4, 0, 0) L st σ Q := ab_r_goto rfl kc_X11_pull dX11_pull_140
theorem rX11_pull_143 : ab_Run X 116 143 (4, 0, 0) L st σ Q ↔ ab_Run X 116 144 (4, 0, 0) L (ab_I 0 :: st) σ Q := ab_r_iconst (by decide) kc_X11_pull dX11_pull_143
theorem rX11_pull_144B (h : (ab_sh σ a).1 = 23 ∧ 0 ≤ i ∧ i < (ab_sh σ a).2) : ab_Run X 116 144 (4, 0, 0) L (ab_I v :: ab_I i :: ab_R a :: st) σ Q ↔ ab_Run X 116 145 (4, 0, 0) L st (ab_wr σ a i (ab_w8 v)) Q := ab_r_bastoreB h kc_X11_pull dX11_pull_144
theorem rX11_pull_144Z (h : (ab_sh σ a).1 = 24 ∧ 0 ≤ i ∧ i < (ab_sh σ a).2 ∧ (v = 0 ∨ v = 1)) : ab_Run X 116 144 (4, 0, 0) L (ab_I v :: ab_I i :: ab_R a :: st) σ Q ↔ ab_Run X 116 145 (4, 0, 0) L st (ab_wr σ a i v) Q := ab_r_bastoreZ h kc_X11_pull dX11_pull_144
theorem rX11_pull_145 : ab_Run X 116 145 (4, 0, 0) [l0, l1, l2, l3, l4, l5, l6, ab_I z] st σ Q ↔ ab_Run X 116 147 (4, 0, 0) [l0, l1, l2, l3, l4, l5, l6, ab_I z] (ab_I z :: st) σ Q := ab_r_iload rfl kc_X11_pull dX11_pull_145
theorem rX11_pull_147 : ab_Run X 116 147 (4, 0, 0) L (ab_I a :: st) σ Q ↔ (¬ a = 0 → ab_Run X 116 166 (4, 0, 0) L st σ Q) ∧ (¬ (¬ a = 0) → ab_Run X 116 150 (4, 0, 0) L st σ Q) := ab_r_if_ne rfl kc_X11_pull dX11_pull_147
theorem rX11_pull_150 : ab_Run X 116 150 (4, 0, 0) [ab_R z, l1, l2, l3, l4, l5, l6, l7] st σ Q ↔ z ≠ 0 ∧ ab_Run X 116 151 (4, 0, 0) [ab_R z, l1, l2, l3, l4, l5, l6, l7] (ab_R z :: st) σ Q := ab_r_aload_n rfl kc_X11_pull dX11_pull_150
theorem rX11_pull_151 : ab_Run X 116 151 (4, 0, 0) L (ab_R a :: st) σ Q ↔ (ab_sh σ a).1 = 12 ∧ ab_Run X 116 154 (4, 0, 0) L (ab_R (ab_rd σ a 1) :: st) σ Q := gF_11_19 ko_X11_pull kc_X11_pull dX11_pull_151
theorem rX11_pull_154 : ab_Run X 116 154 (4, 0, 0) L (ab_R a :: st) σ Q ↔ (ab_sh σ a).1 = 9 ∧ ab_Run X 116 157 (4, 0, 0) L (ab_R (ab_rd σ a 3) :: st) σ Q := gF_11_166 ko_X11_pull kc_X11_pull dX11_pull_154
theorem rX11_pull_157 : ab_Run X 116 157 (4, 0, 0) [l0, l1, ab_I z, l3, l4, l5, l6, l7] st σ Q ↔ ab_Run X 116 158 (4, 0, 0) [l0, l1, ab_I z, l3, l4, l5, l6, l7] (ab_I z :: st) σ Q := ab_r_iload_n rfl kc_X11_pull dX11_pull_157
theorem rX11_pull_158 : ab_Run X 116 158 (4, 0, 0) L (ab_I b :: ab_R a :: st) σ Q ↔ ab_Run X 116 159 (4, 0, 0) L (ab_I b :: ab_R a :: ab_I b :: ab_R a :: st) σ Q := ab_r_dup2 kc_X11_pull dX11_pull_158
theorem rX11_pull_159 : ab_Run X 116 159 (4, 0, 0) L (ab_I i :: ab_R a :: st) σ Q ↔ ((ab_sh σ a).1 = 21 ∧ 0 ≤ i ∧ i < (ab_sh σ a).2) ∧ ab_Run X 116 160 (4, 0, 0) L (ab_I (ab_rd σ a i) :: st) σ Q := ab_r_iaload (by decide) kc_X11_pull dX11_pull_159
theorem rX11_pull_160 : ab_Run X 116 160 (4, 0, 0) L st σ Q ↔ ab_Run X 116 161 (4, 0, 0) L (ab_I 1 :: st) σ Q := ab_r_iconst (by decide) kc_X11_pull dX11_pull_160
theorem rX11_pull_161 : ab_Run X 116 161 (4, 0, 0) L (ab_I b :: ab_I a :: st) σ Q ↔ ab_Run X 116 162 (4, 0, 0) L (ab_I (ab_w32 (a + b)) :: st) σ Q := ab_r_iadd kc_X11_pull dX11_pull_161
theorem rX11_pull_162 : ab_Run X 116 162 (4, 0, 0) L (ab_I v :: ab_I i :: ab_R a :: st) σ Q ↔ ((ab_sh σ a).1 = 21 ∧ 0 ≤ i ∧ i < (ab_sh σ a).2) ∧ ab_Run X 116 163 (4, 0, 0) L st (ab_wr σ a i v) Q := ab_r_iastore kc_X11_pull dX11_pull_162
theorem rX11_pull_163 : ab_Run X 116 163 (4, 0, 0) L st σ Q ↔ ab_Run X 116 186 (4, 0, 0) L st σ Q := ab_r_goto rfl kc_X11_pull dX11_pull_163
theorem rX11_pull_166 : ab_Run X 116 166 (4, 0, 0) [l0, l1, l2, l3, l4, l5, l6, ab_I z] st σ Q ↔ ab_Run X 116 168 (4, 0, 0) [l0, l1, l2, l3, l4, l5, l6, ab_I z] (ab_I z :: st) σ Q := ab_r_iload rfl kc_X11_pull dX11_pull_166
theorem rX11_pull_168 : ab_Run X 116 168 (4, 0, 0) L st σ Q ↔ ab_Run X 116 169 (4, 0, 0) L (ab_I 1 :: st) σ Q := ab_r_iconst (by decide) kc_X11_pull dX11_pull_168
theorem rX11_pull_169 : ab_Run X 116 169 (4, 0, 0) L (ab_I b :: ab_I a :: st) σ Q ↔ (¬ a = b → ab_Run X 116 186 (4, 0, 0) L st σ Q) ∧ (¬ (¬ a = b) → ab_Run X 116 172 (4, 0, 0) L st σ Q) := ab_r_icmp_ne rfl kc_X11_pull dX11_pull_169
theorem rX11_pull_172 : ab_Run X 116 172 (4, 0, 0) [ab_R z, l1, l2, l3, l4, l5, l6, l7] st σ Q ↔ z ≠ 0 ∧ ab_Run X 116 173 (4, 0, 0) [ab_R z, l1, l2, l3, l4, l5, l6, l7] (ab_R z :: st) σ Q := ab_r_aload_n rfl kc_X11_pull dX11_pull_172
theorem rX11_pull_173 : ab_Run X 116 173 (4, 0, 0) L (ab_R a :: st) σ Q ↔ (ab_sh σ a).1 = 12 ∧ ab_Run X 116 176 (4, 0, 0) L (ab_R (ab_rd σ a 1) :: st) σ Q := gF_11_19 ko_X11_pull kc_X11_pull dX11_pull_173
theorem rX11_pull_176 : ab_Run X 116 176 (4, 0, 0) L (ab_R a :: st) σ Q ↔ (ab_sh σ a).1 = 9 ∧ ab_Run X 116 179 (4, 0, 0) L (ab_R (ab_rd σ a 3) :: st) σ Q := gF_11_166 ko_X11_pull kc_X11_pull dX11_pull_176
theorem rX11_pull_179 : ab_Run X 116 179 (4, 0, 0) [l0, l1, l2, l3, ab_I z, l5, l6, l7] st σ Q ↔ ab_Run X 116 181 (4, 0, 0) [l0, l1, l2, l3, ab_I z, l5, l6, l7] (ab_I z :: st) σ Q := ab_r_iload rfl kc_X11_pull dX11_pull_179
theorem rX11_pull_181 : ab_Run X 116 181 (4, 0, 0) L (ab_I b :: ab_R a :: st) σ Q ↔ ab_Run X 116 182 (4, 0, 0) L (ab_I b :: ab_R a :: ab_I b :: ab_R a :: st) σ Q := ab_r_dup2 kc_X11_pull dX11_pull_181
theorem rX11_pull_182 : ab_Run X 116 182 (4, 0, 0) L (ab_I i :: ab_R a :: st) σ Q ↔ ((ab_sh σ a).1 = 21 ∧ 0 ≤ i ∧ i < (ab_sh σ a).2) ∧ ab_Run X 116 183 (4, 0, 0) L (ab_I (ab_rd σ a i) :: st) σ Q := ab_r_iaload (by decide) kc_X11_pull dX11_pull_182
theorem rX11_pull_183 : ab_Run X 116 183 (4, 0, 0) L st σ Q ↔ ab_Run X 116 184 (4, 0, 0) L (ab_I 1 :: st) σ Q := ab_r_iconst (by decide) kc_X11_pull dX11_pull_183
theorem rX11_pull_184 : ab_Run X 116 184 (4, 0, 0) L (ab_I b :: ab_I a :: st) σ Q ↔ ab_Run X 116 185 (4, 0, 0) L (ab_I (ab_w32 (a + b)) :: st) σ Q := ab_r_iadd kc_X11_pull dX11_pull_184
theorem rX11_pull_185 : ab_Run X 116 185 (4, 0, 0) L (ab_I v :: ab_I i :: ab_R a :: st) σ Q ↔ ((ab_sh σ a).1 = 21 ∧ 0 ≤ i ∧ i < (ab_sh σ a).2) ∧ ab_Run X 116 186 (4, 0, 0) L st (ab_wr σ a i v) Q := ab_r_iastore kc_X11_pull dX11_pull_185
theorem rX11_pull_186 : ab_Run X 116 186 (4, 0, 0) [l0, l1, l2, l3, l4, l5, l6, ab_I z] st σ Q ↔ ab_Run X 116 188 (4, 0, 0) [l0, l1, l2, l3, l4, l5, l6, ab_I z] (ab_I z :: st) σ Q := ab_r_iload rfl kc_X11_pull dX11_pull_186
theorem rX11_pull_188 : ab_Run X 116 188 (4, 0, 0) L [ab_I v] σ Q ↔ Q (some (ab_I v)) σ := ab_r_ireturnI rfl kc_X11_pull dX11_pull_188
theorem kc_X11_seed : ab_code 117 = cX11_seed := rfl
theorem ko_X11_seed : ab_ow 117 = 11 := rfl
theorem rX11_seed_0 : ab_Run X 117 0 (1, 0, 0) [ab_R z, l1] st σ Q ↔ z ≠ 0 ∧ ab_Run X 117 1 (1, 0, 0) [ab_R z, l1] (ab_R z :: st) σ Q := ab_r_aload_n rfl kc_X11_seed dX11_seed_0
theorem rX11_seed_1 : ab_Run X 117 1 (1, 0, 0) [ab_R z, l1] st σ Q ↔ z ≠ 0 ∧ ab_Run X 117 2 (1, 0, 0) [ab_R z, l1] (ab_R z :: st) σ Q := ab_r_aload_n rfl kc_X11_seed dX11_seed_1
theorem rX11_seed_2 : ab_Run X 117 2 (1, 0, 0) L (ab_R a :: st) σ Q ↔ ((ab_sh σ a).1 = 12 ∧ ab_cats st ≤ 8) ∧ ab_Do X 125 [ab_R a] σ (fun r σ' => ab_Run X 117 5 (1, 0, 0) L (ab_psh r st) σ' Q) := ab_r_callV (w := []) (as := []) (b1 := (0, 0, 0)) 0 (Or.inl rfl) (by decide) ko_X11_seed qM_11_284 (by decide) rfl rfl rfl rfl rfl (by decide) (Nat.le_of_ble_eq_true rfl) kc_X11_seed dX11_seed_2
theorem rX11_seed_5 : ab_Run X 117 5 (1, 0, 0) L (ab_I a :: st) σ Q ↔ (¬ a = 0 → ab_Run X 117 12 (1, 0, 0) L st σ Q) ∧ (¬ (¬ a = 0) → ab_Run X 117 8 (1, 0, 0) L st σ Q) := ab_r_if_ne rfl kc_X11_seed dX11_seed_5
theorem rX11_seed_8 : ab_Run X 117 8 (1, 0, 0) L st σ Q ↔ ab_Run X 117 9 (1, 0, 0) L (ab_I 1 :: st) σ Q := ab_r_iconst (by decide) kc_X11_seed dX11_seed_8
theorem rX11_seed_9 : ab_Run X 117 9 (1, 0, 0) L st σ Q ↔ ab_Run X 117 24 (1, 0, 0) L st σ Q := ab_r_goto rfl kc_X11_seed dX11_seed_9
theorem rX11_seed_12 : ab_Run X 117 12 (1, 0, 0) [l0, ab_I z] st σ Q ↔ ab_Run X 117 13 (1, 0, 0) [l0, ab_I z] (ab_I z :: st) σ Q := ab_r_iload_n rfl kc_X11_seed dX11_seed_12
theorem rX11_seed_13 : ab_Run X 117 13 (1, 0, 0) L (ab_I x1 :: st) σ Q ↔ ab_cats st ≤ 8 ∧ ab_Do X 132 [ab_I x1] σ (fun r σ' => ab_Run X 117 16 (1, 0, 0) L (ab_psh r st) σ' Q) := ab_r_callS (w := [ab_I x1]) (as := [ab_I x1]) (b1 := (0, 0, 0)) (by decide) ko_X11_seed qM_11_350 (by decide) rfl rfl rfl rfl (by decide) (Nat.le_of_ble_eq_true rfl) kc_X11_seed dX11_seed_13
theorem rX11_seed_16 : ab_Run X 117 16 (1, 0, 0) L (ab_I a :: st) σ Q ↔ (a = 0 → ab_Run X 117 23 (1, 0, 0) L st σ Q) ∧ (¬ (a = 0) → ab_Run X 117 19 (1, 0, 0) L st σ Q) := ab_r_if_eq rfl kc_X11_seed dX11_seed_16
theorem rX11_seed_19 : ab_Run X 117 19 (1, 0, 0) L st σ Q ↔ ab_Run X 117 20 (1, 0, 0) L (ab_I 0 :: st) σ Q := ab_r_iconst (by decide) kc_X11_seed dX11_seed_19
theorem rX11_seed_20 : ab_Run X 117 20 (1, 0, 0) L st σ Q ↔ ab_Run X 117 24 (1, 0, 0) L st σ Q := ab_r_goto rfl kc_X11_seed dX11_seed_20
theorem rX11_seed_23 : ab_Run X 117 23 (1, 0, 0) L st σ Q ↔ ab_Run X 117 24 (1, 0, 0) L (ab_I 2 :: st) σ Q := ab_r_iconst (by decide) kc_X11_seed dX11_seed_23
theorem rX11_seed_24 : ab_Run X 117 24 (1, 0, 0) L (ab_I z :: ab_R a :: st) σ Q ↔ (ab_sh σ a).1 = 12 ∧ ab_Run X 117 27 (1, 0, 0) L st (ab_wr σ a 8 z) Q := sF_11_62 ko_X11_seed kc_X11_seed dX11_seed_24
theorem rX11_seed_27 : ab_Run X 117 27 (1, 0, 0) [ab_R z, l1] st σ Q ↔ z ≠ 0 ∧ ab_Run X 117 28 (1, 0, 0) [ab_R z, l1] (ab_R z :: st) σ Q := ab_r_aload_n rfl kc_X11_seed dX11_seed_27
theorem rX11_seed_28 : ab_Run X 117 28 (1, 0, 0) L (ab_R a :: st) σ Q ↔ (ab_sh σ a).1 = 12 ∧ ab_Run X 117 31 (1, 0, 0) L (ab_I (ab_rd σ a 8) :: st) σ Q := gF_11_62 ko_X11_seed kc_X11_seed dX11_seed_28
theorem rX11_seed_31 : ab_Run X 117 31 (1, 0, 0) L (ab_I a :: st) σ Q ↔ (a = 0 → ab_Run X 117 36 (1, 0, 0) L st σ Q) ∧ (¬ (a = 0) → ab_Run X 117 34 (1, 0, 0) L st σ Q) := ab_r_if_eq rfl kc_X11_seed dX11_seed_31
theorem rX11_seed_34 : ab_Run X 117 34 (1, 0, 0) L st σ Q ↔ ab_Run X 117 35 (1, 0, 0) L (ab_I 0 :: st) σ Q := ab_r_iconst (by decide) kc_X11_seed dX11_seed_34
theorem rX11_seed_35 : ab_Run X 117 35 (1, 0, 0) L [ab_I v] σ Q ↔ (v = 0 ∨ v = 1) ∧ Q (some (ab_I v)) σ := ab_r_ireturnZ rfl kc_X11_seed dX11_seed_35
theorem rX11_seed_36 : ab_Run X 117 36 (1, 0, 0) [ab_R z, l1] st σ Q ↔ z ≠ 0 ∧ ab_Run X 117 37 (1, 0, 0) [ab_R z, l1] (ab_R z :: st) σ Q := ab_r_aload_n rfl kc_X11_seed dX11_seed_36
theorem rX11_seed_37 : ab_Run X 117 37 (1, 0, 0) L (ab_R a :: st) σ Q ↔ (ab_sh σ a).1 = 12 ∧ ab_Run X 117 40 (1, 0, 0) L (ab_R (ab_rd σ a 1) :: st) σ Q := gF_11_19 ko_X11_seed kc_X11_seed dX11_seed_37
theorem rX11_seed_40 : ab_Run X 117 40 (1, 0, 0) [l0, ab_I z] st σ Q ↔ ab_Run X 117 41 (1, 0, 0) [l0, ab_I z] (ab_I z :: st) σ Q := ab_r_iload_n rfl kc_X11_seed dX11_seed_40
theorem rX11_seed_41 : ab_Run X 117 41 (1, 0, 0) L (ab_I z :: ab_R a :: st) σ Q ↔ (ab_sh σ a).1 = 9 ∧ ab_Run X 117 44 (1, 0, 0) L st (ab_wr σ a 4 z) Q := sF_11_353 ko_X11_seed kc_X11_seed dX11_seed_41
theorem rX11_seed_44 : ab_Run X 117 44 (1, 0, 0) L st σ Q ↔ ab_Run X 117 45 (1, 0, 0) L (ab_I 1 :: st) σ Q := ab_r_iconst (by decide) kc_X11_seed dX11_seed_44
theorem rX11_seed_45 : ab_Run X 117 45 (1, 0, 0) L [ab_I v] σ Q ↔ (v = 0 ∨ v = 1) ∧ Q (some (ab_I v)) σ := ab_r_ireturnZ rfl kc_X11_seed dX11_seed_45
theorem kc_X11_undo : ab_code 118 = cX11_undo := rfl
theorem ko_X11_undo : ab_ow 118 = 11 := rfl
theorem rX11_undo_0 : ab_Run X 118 0 (2, 0, 0) [ab_R z] st σ Q ↔ z ≠ 0 ∧ ab_Run X 118 1 (2, 0, 0) [ab_R z] (ab_R z :: st) σ Q := ab_r_aload_n rfl kc_X11_undo dX11_undo_0
theorem rX11_undo_1 : ab_Run X 118 1 (2, 0, 0) [ab_R z] st σ Q ↔ z ≠ 0 ∧ ab_Run X 118 2 (2, 0, 0) [ab_R z] (ab_R z :: st) σ Q := ab_r_aload_n rfl kc_X11_undo dX11_undo_1
theorem rX11_undo_2 : ab_Run X 118 2 (2, 0, 0) L (ab_R a :: st) σ Q ↔ (ab_sh σ a).1 = 12 ∧ ab_Run X 118 5 (2, 0, 0) L (ab_R (ab_rd σ a 2) :: st) σ Q := gF_11_26 ko_X11_undo kc_X11_undo dX11_undo_2
theorem rX11_undo_5 : ab_Run X 118 5 (2, 0, 0) L (ab_R a :: st) σ Q ↔ (ab_sh σ a).1 = 4 ∧ ab_Run X 118 8 (2, 0, 0) L (ab_I (ab_rd σ a 3) :: st) σ Q := gF_11_356 ko_X11_undo kc_X11_undo dX11_undo_5
theorem rX11_undo_8 : ab_Run X 118 8 (2, 0, 0) L (ab_I a :: st) σ Q ↔ (a ≤ 0 → ab_Run X 118 15 (2, 0, 0) L st σ Q) ∧ (¬ (a ≤ 0) → ab_Run X 118 11 (2, 0, 0) L st σ Q) := ab_r_if_le rfl kc_X11_undo dX11_undo_8
theorem rX11_undo_11 : ab_Run X 118 11 (2, 0, 0) L st σ Q ↔ ab_Run X 118 12 (2, 0, 0) L (ab_I 0 :: st) σ Q := ab_r_iconst (by decide) kc_X11_undo dX11_undo_11
theorem rX11_undo_12 : ab_Run X 118 12 (2, 0, 0) L st σ Q ↔ ab_Run X 118 17 (2, 0, 0) L st σ Q := ab_r_goto rfl kc_X11_undo dX11_undo_12
theorem rX11_undo_15 : ab_Run X 118 15 (2, 0, 0) L st σ Q ↔ ab_Run X 118 17 (2, 0, 0) L (ab_I 6 :: st) σ Q := ab_r_bipush (by decide) kc_X11_undo dX11_undo_15
theorem rX11_undo_17 : ab_Run X 118 17 (2, 0, 0) L (ab_I z :: ab_R a :: st) σ Q ↔ (ab_sh σ a).1 = 12 ∧ ab_Run X 118 20 (2, 0, 0) L st (ab_wr σ a 8 z) Q := sF_11_62 ko_X11_undo kc_X11_undo dX11_undo_17
theorem rX11_undo_20 : ab_Run X 118 20 (2, 0, 0) [ab_R z] st σ Q ↔ z ≠ 0 ∧ ab_Run X 118 21 (2, 0, 0) [ab_R z] (ab_R z :: st) σ Q := ab_r_aload_n rfl kc_X11_undo dX11_undo_20
theorem rX11_undo_21 : ab_Run X 118 21 (2, 0, 0) L (ab_R a :: st) σ Q ↔ (ab_sh σ a).1 = 12 ∧ ab_Run X 118 24 (2, 0, 0) L (ab_I (ab_rd σ a 8) :: st) σ Q := gF_11_62 ko_X11_undo kc_X11_undo dX11_undo_21
theorem rX11_undo_24 : ab_Run X 118 24 (2, 0, 0) L (ab_I a :: st) σ Q ↔ (a = 0 → ab_Run X 118 29 (2, 0, 0) L st σ Q) ∧ (¬ (a = 0) → ab_Run X 118 27 (2, 0, 0) L st σ Q) := ab_r_if_eq rfl kc_X11_undo dX11_undo_24
theorem rX11_undo_27 : ab_Run X 118 27 (2, 0, 0) L st σ Q ↔ ab_Run X 118 28 (2, 0, 0) L (ab_I 0 :: st) σ Q := ab_r_iconst (by decide) kc_X11_undo dX11_undo_27
theorem rX11_undo_28 : ab_Run X 118 28 (2, 0, 0) L [ab_I v] σ Q ↔ (v = 0 ∨ v = 1) ∧ Q (some (ab_I v)) σ := ab_r_ireturnZ rfl kc_X11_undo dX11_undo_28
theorem rX11_undo_29 : ab_Run X 118 29 (2, 0, 0) [ab_R z] st σ Q ↔ z ≠ 0 ∧ ab_Run X 118 30 (2, 0, 0) [ab_R z] (ab_R z :: st) σ Q := ab_r_aload_n rfl kc_X11_undo dX11_undo_29
theorem rX11_undo_30 : ab_Run X 118 30 (2, 0, 0) L (ab_R a :: st) σ Q ↔ (ab_sh σ a).1 = 12 ∧ ab_Run X 118 33 (2, 0, 0) L (ab_R (ab_rd σ a 2) :: st) σ Q := gF_11_26 ko_X11_undo kc_X11_undo dX11_undo_30
theorem rX11_undo_33 : ab_Run X 118 33 (2, 0, 0) [ab_R z] st σ Q ↔ z ≠ 0 ∧ ab_Run X 118 34 (2, 0, 0) [ab_R z] (ab_R z :: st) σ Q := ab_r_aload_n rfl kc_X11_undo dX11_undo_33
theorem rX11_undo_34 : ab_Run X 118 34 (2, 0, 0) L (ab_R a :: st) σ Q ↔ (ab_sh σ a).1 = 12 ∧ ab_Run X 118 37 (2, 0, 0) L (ab_R (ab_rd σ a 1) :: st) σ Q := gF_11_19 ko_X11_undo kc_X11_undo dX11_undo_34
theorem rX11_undo_37 : ab_Run X 118 37 (2, 0, 0) L (ab_R x1 :: ab_R a :: st) σ Q ↔ ((ab_sh σ a).1 = 4 ∧ ab_cats st ≤ 8) ∧ ab_Do X 22 [ab_R a, ab_R x1] σ (fun r σ' => ab_Run X 118 40 (2, 0, 0) L (ab_psh r st) σ' Q) := ab_r_callV (w := [ab_R x1]) (as := [ab_R x1]) (b1 := (1, 0, 0)) 0 (Or.inl rfl) (by decide) ko_X11_undo qM_11_359 (by decide) rfl rfl rfl rfl rfl (by decide) (Nat.le_of_ble_eq_true rfl) kc_X11_undo dX11_undo_37
theorem rX11_undo_40 : ab_Run X 118 40 (2, 0, 0) L st σ Q ↔ ab_Run X 118 41 (2, 0, 0) L (ab_I 1 :: st) σ Q := ab_r_iconst (by decide) kc_X11_undo dX11_undo_40
theorem rX11_undo_41 : ab_Run X 118 41 (2, 0, 0) L [ab_I v] σ Q ↔ (v = 0 ∨ v = 1) ∧ Q (some (ab_I v)) σ := ab_r_ireturnZ rfl kc_X11_undo dX11_undo_41
theorem kc_X11_mark : ab_code 119 = cX11_mark := rfl
theorem ko_X11_mark : ab_ow 119 = 11 := rfl
theorem rX11_mark_0 : ab_Run X 119 0 (2, 0, 0) [ab_R z] st σ Q ↔ z ≠ 0 ∧ ab_Run X 119 1 (2, 0, 0) [ab_R z] (ab_R z :: st) σ Q := ab_r_aload_n rfl kc_X11_mark dX11_mark_0
theorem rX11_mark_1 : ab_Run X 119 1 (2, 0, 0) [ab_R z] st σ Q ↔ z ≠ 0 ∧ ab_Run X 119 2 (2, 0, 0) [ab_R z] (ab_R z :: st) σ Q := ab_r_aload_n rfl kc_X11_mark dX11_mark_1
theorem rX11_mark_2 : ab_Run X 119 2 (2, 0, 0) L (ab_R a :: st) σ Q ↔ ((ab_sh σ a).1 = 12 ∧ ab_cats st ≤ 8) ∧ ab_Do X 125 [ab_R a] σ (fun r σ' => ab_Run X 119 5 (2, 0, 0) L (ab_psh r st) σ' Q) := ab_r_callV (w := []) (as := []) (b1 := (0, 0, 0)) 0 (Or.inl rfl) (by decide) ko_X11_mark qM_11_284 (by decide) rfl rfl rfl rfl rfl (by decide) (Nat.le_of_ble_eq_true rfl) kc_X11_mark dX11_mark_2
theorem rX11_mark_5 : ab_Run X 119 5 (2, 0, 0) L (ab_I a :: st) σ Q ↔ (¬ a = 0 → ab_Run X 119 12 (2, 0, 0) L st σ Q) ∧ (¬ (¬ a = 0) → ab_Run X 119 8 (2, 0, 0) L st σ Q) := ab_r_if_ne rfl kc_X11_mark dX11_mark_5
theorem rX11_mark_8 : ab_Run X 119 8 (2, 0, 0) L st σ Q ↔ ab_Run X 119 9 (2, 0, 0) L (ab_I 1 :: st) σ Q := ab_r_iconst (by decide) kc_X11_mark dX11_mark_8
theorem rX11_mark_9 : ab_Run X 119 9 (2, 0, 0) L st σ Q ↔ ab_Run X 119 27 (2, 0, 0) L st σ Q := ab_r_goto rfl kc_X11_mark dX11_mark_9
theorem rX11_mark_12 : ab_Run X 119 12 (2, 0, 0) [ab_R z] st σ Q ↔ z ≠ 0 ∧ ab_Run X 119 13 (2, 0, 0) [ab_R z] (ab_R z :: st) σ Q := ab_r_aload_n rfl kc_X11_mark dX11_mark_12
theorem rX11_mark_13 : ab_Run X 119 13 (2, 0, 0) L (ab_R a :: st) σ Q ↔ (ab_sh σ a).1 = 12 ∧ ab_Run X 119 16 (2, 0, 0) L (ab_R (ab_rd σ a 2) :: st) σ Q := gF_11_26 ko_X11_mark kc_X11_mark dX11_mark_13
theorem rX11_mark_16 : ab_Run X 119 16 (2, 0, 0) L (ab_R a :: st) σ Q ↔ ((ab_sh σ a).1 = 4 ∧ ab_cats st ≤ 8) ∧ ab_Do X 23 [ab_R a] σ (fun r σ' => ab_Run X 119 19 (2, 0, 0) L (ab_psh r st) σ' Q) := ab_r_callV (w := []) (as := []) (b1 := (0, 0, 0)) 0 (Or.inl rfl) (by decide) ko_X11_mark qM_11_362 (by decide) rfl rfl rfl rfl rfl (by decide) (Nat.le_of_ble_eq_true rfl) kc_X11_mark dX11_mark_16
theorem rX11_mark_19 : ab_Run X 119 19 (2, 0, 0) L (ab_I a :: st) σ Q ↔ (a = 0 → ab_Run X 119 26 (2, 0, 0) L st σ Q) ∧ (¬ (a = 0) → ab_Run X 119 22 (2, 0, 0) L st σ Q) := ab_r_if_eq rfl kc_X11_mark dX11_mark_19
theorem rX11_mark_22 : ab_Run X 119 22 (2, 0, 0) L st σ Q ↔ ab_Run X 119 23 (2, 0, 0) L (ab_I 0 :: st) σ Q := ab_r_iconst (by decide) kc_X11_mark dX11_mark_22
theorem rX11_mark_23 : ab_Run X 119 23 (2, 0, 0) L st σ Q ↔ ab_Run X 119 27 (2, 0, 0) L st σ Q := ab_r_goto rfl kc_X11_mark dX11_mark_23
theorem rX11_mark_26 : ab_Run X 119 26 (2, 0, 0) L st σ Q ↔ ab_Run X 119 27 (2, 0, 0) L (ab_I 3 :: st) σ Q := ab_r_iconst (by decide) kc_X11_mark dX11_mark_26
theorem rX11_mark_27 : ab_Run X 119 27 (2, 0, 0) L (ab_I z :: ab_R a :: st) σ Q ↔ (ab_sh σ a).1 = 12 ∧ ab_Run X 119 30 (2, 0, 0) L st (ab_wr σ a 8 z) Q := sF_11_62 ko_X11_mark kc_X11_mark dX11_mark_27
theorem rX11_mark_30 : ab_Run X 119 30 (2, 0, 0) [ab_R z] st σ Q ↔ z ≠ 0 ∧ ab_Run X 119 31 (2, 0, 0) [ab_R z] (ab_R z :: st) σ Q := ab_r_aload_n rfl kc_X11_mark dX11_mark_30
theorem rX11_mark_31 : ab_Run X 119 31 (2, 0, 0) L (ab_R a :: st) σ Q ↔ (ab_sh σ a).1 = 12 ∧ ab_Run X 119 34 (2, 0, 0) L (ab_I (ab_rd σ a 8) :: st) σ Q := gF_11_62 ko_X11_mark kc_X11_mark dX11_mark_31
theorem rX11_mark_34 : ab_Run X 119 34 (2, 0, 0) L (ab_I a :: st) σ Q ↔ (¬ a = 0 → ab_Run X 119 51 (2, 0, 0) L st σ Q) ∧ (¬ (¬ a = 0) → ab_Run X 119 37 (2, 0, 0) L st σ Q) := ab_r_if_ne rfl kc_X11_mark dX11_mark_34
theorem rX11_mark_37 : ab_Run X 119 37 (2, 0, 0) [ab_R z] st σ Q ↔ z ≠ 0 ∧ ab_Run X 119 38 (2, 0, 0) [ab_R z] (ab_R z :: st) σ Q := ab_r_aload_n rfl kc_X11_mark dX11_mark_37
theorem rX11_mark_38 : ab_Run X 119 38 (2, 0, 0) L (ab_R a :: st) σ Q ↔ (ab_sh σ a).1 = 12 ∧ ab_Run X 119 41 (2, 0, 0) L (ab_R (ab_rd σ a 2) :: st) σ Q := gF_11_26 ko_X11_mark kc_X11_mark dX11_mark_38
theorem rX11_mark_41 : ab_Run X 119 41 (2, 0, 0) [ab_R z] st σ Q ↔ z ≠ 0 ∧ ab_Run X 119 42 (2, 0, 0) [ab_R z] (ab_R z :: st) σ Q := ab_r_aload_n rfl kc_X11_mark dX11_mark_41
theorem rX11_mark_42 : ab_Run X 119 42 (2, 0, 0) L (ab_R a :: st) σ Q ↔ (ab_sh σ a).1 = 12 ∧ ab_Run X 119 45 (2, 0, 0) L (ab_R (ab_rd σ a 1) :: st) σ Q := gF_11_19 ko_X11_mark kc_X11_mark dX11_mark_42
theorem rX11_mark_45 : ab_Run X 119 45 (2, 0, 0) L (ab_R x1 :: ab_R a :: st) σ Q ↔ ((ab_sh σ a).1 = 4 ∧ ab_cats st ≤ 8) ∧ ab_Do X 24 [ab_R a, ab_R x1] σ (fun r σ' => ab_Run X 119 48 (2, 0, 0) L (ab_psh r st) σ' Q) := ab_r_callV (w := [ab_R x1]) (as := [ab_R x1]) (b1 := (1, 0, 0)) 0 (Or.inl rfl) (by decide) ko_X11_mark qM_11_365 (by decide) rfl rfl rfl rfl rfl (by decide) (Nat.le_of_ble_eq_true rfl) kc_X11_mark dX11_mark_45
theorem rX11_mark_48 : ab_Run X 119 48 (2, 0, 0) L st σ Q ↔ ab_Run X 119 52 (2, 0, 0) L st σ Q := ab_r_goto rfl kc_X11_mark dX11_mark_48
theorem rX11_mark_51 : ab_Run X 119 51 (2, 0, 0) L st σ Q ↔ ab_Run X 119 52 (2, 0, 0) L (ab_I (-1) :: st) σ Q := ab_r_iconst (by decide) kc_X11_mark dX11_mark_51
theorem rX11_mark_52 : ab_Run X 119 52 (2, 0, 0) L [ab_I v] σ Q ↔ Q (some (ab_I v)) σ := ab_r_ireturnI rfl kc_X11_mark dX11_mark_52
theorem kc_X11_back : ab_code 120 = cX11_back := rfl
theorem ko_X11_back : ab_ow 120 = 11 := rfl
theorem rX11_back_0 : ab_Run X 120 0 (2, 0, 0) [ab_R z, l1] st σ Q ↔ z ≠ 0 ∧ ab_Run X 120 1 (2, 0, 0) [ab_R z, l1] (ab_R z :: st) σ Q := ab_r_aload_n rfl kc_X11_back dX11_back_0
theorem rX11_back_1 : ab_Run X 120 1 (2, 0, 0) [l0, ab_I z] st σ Q ↔ ab_Run X 120 2 (2, 0, 0) [l0, ab_I z] (ab_I z :: st) σ Q := ab_r_iload_n rfl kc_X11_back dX11_back_1
theorem rX11_back_2 : ab_Run X 120 2 (2, 0, 0) L (ab_I a :: st) σ Q ↔ (a < 0 → ab_Run X 120 20 (2, 0, 0) L st σ Q) ∧ (¬ (a < 0) → ab_Run X 120 5 (2, 0, 0) L st σ Q) := ab_r_if_lt rfl kc_X11_back dX11_back_2
theorem rX11_back_5 : ab_Run X 120 5 (2, 0, 0) [l0, ab_I z] st σ Q ↔ ab_Run X 120 6 (2, 0, 0) [l0, ab_I z] (ab_I z :: st) σ Q := ab_r_iload_n rfl kc_X11_back dX11_back_5
theorem rX11_back_6 : ab_Run X 120 6 (2, 0, 0) [ab_R z, l1] st σ Q ↔ z ≠ 0 ∧ ab_Run X 120 7 (2, 0, 0) [ab_R z, l1] (ab_R z :: st) σ Q := ab_r_aload_n rfl kc_X11_back dX11_back_6
theorem rX11_back_7 : ab_Run X 120 7 (2, 0, 0) L (ab_R a :: st) σ Q ↔ (ab_sh σ a).1 = 12 ∧ ab_Run X 120 10 (2, 0, 0) L (ab_R (ab_rd σ a 2) :: st) σ Q := gF_11_26 ko_X11_back kc_X11_back dX11_back_7
theorem rX11_back_10 : ab_Run X 120 10 (2, 0, 0) L (ab_R a :: st) σ Q ↔ (ab_sh σ a).1 = 4 ∧ ab_Run X 120 13 (2, 0, 0) L (ab_I (ab_rd σ a 4) :: st) σ Q := gF_11_369 ko_X11_back kc_X11_back dX11_back_10
theorem rX11_back_13 : ab_Run X 120 13 (2, 0, 0) L (ab_I b :: ab_I a :: st) σ Q ↔ (b ≤ a → ab_Run X 120 20 (2, 0, 0) L st σ Q) ∧ (¬ (b ≤ a) → ab_Run X 120 16 (2, 0, 0) L st σ Q) := ab_r_icmp_ge rfl kc_X11_back dX11_back_13
theorem rX11_back_16 : ab_Run X 120 16 (2, 0, 0) L st σ Q ↔ ab_Run X 120 17 (2, 0, 0) L (ab_I 0 :: st) σ Q := ab_r_iconst (by decide) kc_X11_back dX11_back_16
theorem rX11_back_17 : ab_Run X 120 17 (2, 0, 0) L st σ Q ↔ ab_Run X 120 21 (2, 0, 0) L st σ Q := ab_r_goto rfl kc_X11_back dX11_back_17
theorem rX11_back_20 : ab_Run X 120 20 (2, 0, 0) L st σ Q ↔ ab_Run X 120 21 (2, 0, 0) L (ab_I 1 :: st) σ Q := ab_r_iconst (by decide) kc_X11_back dX11_back_20
theorem rX11_back_21 : ab_Run X 120 21 (2, 0, 0) L (ab_I z :: ab_R a :: st) σ Q ↔ (ab_sh σ a).1 = 12 ∧ ab_Run X 120 24 (2, 0, 0) L st (ab_wr σ a 8 z) Q := sF_11_62 ko_X11_back kc_X11_back dX11_back_21
theorem rX11_back_24 : ab_Run X 120 24 (2, 0, 0) [ab_R z, l1] st σ Q ↔ z ≠ 0 ∧ ab_Run X 120 25 (2, 0, 0) [ab_R z, l1] (ab_R z :: st) σ Q := ab_r_aload_n rfl kc_X11_back dX11_back_24
theorem rX11_back_25 : ab_Run X 120 25 (2, 0, 0) L (ab_R a :: st) σ Q ↔ (ab_sh σ a).1 = 12 ∧ ab_Run X 120 28 (2, 0, 0) L (ab_I (ab_rd σ a 8) :: st) σ Q := gF_11_62 ko_X11_back kc_X11_back dX11_back_25
theorem rX11_back_28 : ab_Run X 120 28 (2, 0, 0) L (ab_I a :: st) σ Q ↔ (a = 0 → ab_Run X 120 33 (2, 0, 0) L st σ Q) ∧ (¬ (a = 0) → ab_Run X 120 31 (2, 0, 0) L st σ Q) := ab_r_if_eq rfl kc_X11_back dX11_back_28
theorem rX11_back_31 : ab_Run X 120 31 (2, 0, 0) L st σ Q ↔ ab_Run X 120 32 (2, 0, 0) L (ab_I 0 :: st) σ Q := ab_r_iconst (by decide) kc_X11_back dX11_back_31
theorem rX11_back_32 : ab_Run X 120 32 (2, 0, 0) L [ab_I v] σ Q ↔ (v = 0 ∨ v = 1) ∧ Q (some (ab_I v)) σ := ab_r_ireturnZ rfl kc_X11_back dX11_back_32
theorem rX11_back_33 : ab_Run X 120 33 (2, 0, 0) [ab_R z, l1] st σ Q ↔ z ≠ 0 ∧ ab_Run X 120 34 (2, 0, 0) [ab_R z, l1] (ab_R z :: st) σ Q := ab_r_aload_n rfl kc_X11_back dX11_back_33
theorem rX11_back_34 : ab_Run X 120 34 (2, 0, 0) L (ab_R a :: st) σ Q ↔ (ab_sh σ a).1 = 12 ∧ ab_Run X 120 37 (2, 0, 0) L (ab_R (ab_rd σ a 2) :: st) σ Q := gF_11_26 ko_X11_back kc_X11_back dX11_back_34
theorem rX11_back_37 : ab_Run X 120 37 (2, 0, 0) [l0, ab_I z] st σ Q ↔ ab_Run X 120 38 (2, 0, 0) [l0, ab_I z] (ab_I z :: st) σ Q := ab_r_iload_n rfl kc_X11_back dX11_back_37
theorem rX11_back_38 : ab_Run X 120 38 (2, 0, 0) [ab_R z, l1] st σ Q ↔ z ≠ 0 ∧ ab_Run X 120 39 (2, 0, 0) [ab_R z, l1] (ab_R z :: st) σ Q := ab_r_aload_n rfl kc_X11_back dX11_back_38
theorem rX11_back_39 : ab_Run X 120 39 (2, 0, 0) L (ab_R a :: st) σ Q ↔ (ab_sh σ a).1 = 12 ∧ ab_Run X 120 42 (2, 0, 0) L (ab_R (ab_rd σ a 1) :: st) σ Q := gF_11_19 ko_X11_back kc_X11_back dX11_back_39
theorem rX11_back_42 : ab_Run X 120 42 (2, 0, 0) L (ab_R x2 :: ab_I x1 :: ab_R a :: st) σ Q ↔ ((ab_sh σ a).1 = 4 ∧ ab_cats st ≤ 8) ∧ ab_Do X 25 [ab_R a, ab_I x1, ab_R x2] σ (fun r σ' => ab_Run X 120 45 (2, 0, 0) L (ab_psh r st) σ' Q) := ab_r_callV (w := [ab_R x2, ab_I x1]) (as := [ab_I x1, ab_R x2]) (b1 := (1, 0, 0)) 0 (Or.inl rfl) (by decide) ko_X11_back qM_11_372 (by decide) rfl rfl rfl rfl rfl (by decide) (Nat.le_of_ble_eq_true rfl) kc_X11_back dX11_back_42
theorem rX11_back_45 : ab_Run X 120 45 (2, 0, 0) L st σ Q ↔ ab_Run X 120 46 (2, 0, 0) L (ab_I 1 :: st) σ Q := ab_r_iconst (by decide) kc_X11_back dX11_back_45
theorem rX11_back_46 : ab_Run X 120 46 (2, 0, 0) L [ab_I v] σ Q ↔ (v = 0 ∨ v = 1) ∧ Q (some (ab_I v)) σ := ab_r_ireturnZ rfl kc_X11_back dX11_back_46
theorem kc_X11_size : ab_code 122 = cX11_size := rfl
theorem ko_X11_size : ab_ow 122 = 11 := rfl
theorem rX11_size_0 : ab_Run X 122 0 (0, 0, 0) [l0, ab_I z] st σ Q ↔ ab_Run X 122 1 (0, 0, 0) [l0, ab_I z] (ab_I z :: st) σ Q := ab_r_iload_n rfl kc_X11_size dX11_size_0
theorem rX11_size_1_0 : ab_Run X 122 1 (0, 0, 0) L (ab_I 0 :: st) σ Q ↔ ab_Run X 122 72 (0, 0, 0) L st σ Q := ab_r_tsw (by decide) rfl rfl kc_X11_size dX11_size_1
theorem rX11_size_1_1 : ab_Run X 122 1 (0, 0, 0) L (ab_I 1 :: st) σ Q ↔ ab_Run X 122 80 (0, 0, 0) L st σ Q := ab_r_tsw (by decide) rfl rfl kc_X11_size dX11_size_1
theorem rX11_size_1_2 : ab_Run X 122 1 (0, 0, 0) L (ab_I 2 :: st) σ Q ↔ ab_Run X 122 88 (0, 0, 0) L st σ Q := ab_r_tsw (by decide) rfl rfl kc_X11_size dX11_size_1
theorem rX11_size_1_3 : ab_Run X 122 1 (0, 0, 0) L (ab_I 3 :: st) σ Q ↔ ab_Run X 122 96 (0, 0, 0) L st σ Q := ab_r_tsw (by decide) rfl rfl kc_X11_size dX11_size_1
theorem rX11_size_1_4 : ab_Run X 122 1 (0, 0, 0) L (ab_I 4 :: st) σ Q ↔ ab_Run X 122 104 (0, 0, 0) L st σ Q := ab_r_tsw (by decide) rfl rfl kc_X11_size dX11_size_1
theorem rX11_size_1_5 : ab_Run X 122 1 (0, 0, 0) L (ab_I 5 :: st) σ Q ↔ ab_Run X 122 112 (0, 0, 0) L st σ Q := ab_r_tsw (by decide) rfl rfl kc_X11_size dX11_size_1
theorem rX11_size_1_6 : ab_Run X 122 1 (0, 0, 0) L (ab_I 6 :: st) σ Q ↔ ab_Run X 122 120 (0, 0, 0) L st σ Q := ab_r_tsw (by decide) rfl rfl kc_X11_size dX11_size_1
theorem rX11_size_1_7 : ab_Run X 122 1 (0, 0, 0) L (ab_I 7 :: st) σ Q ↔ ab_Run X 122 128 (0, 0, 0) L st σ Q := ab_r_tsw (by decide) rfl rfl kc_X11_size dX11_size_1
theorem rX11_size_1_8 : ab_Run X 122 1 (0, 0, 0) L (ab_I 8 :: st) σ Q ↔ ab_Run X 122 136 (0, 0, 0) L st σ Q := ab_r_tsw (by decide) rfl rfl kc_X11_size dX11_size_1
theorem rX11_size_1_9 : ab_Run X 122 1 (0, 0, 0) L (ab_I 9 :: st) σ Q ↔ ab_Run X 122 144 (0, 0, 0) L st σ Q := ab_r_tsw (by decide) rfl rfl kc_X11_size dX11_size_1
theorem rX11_size_1_10 : ab_Run X 122 1 (0, 0, 0) L (ab_I 10 :: st) σ Q ↔ ab_Run X 122 152 (0, 0, 0) L st σ Q := ab_r_tsw (by decide) rfl rfl kc_X11_size dX11_size_1
theorem rX11_size_1_11 : ab_Run X 122 1 (0, 0, 0) L (ab_I 11 :: st) σ Q ↔ ab_Run X 122 160 (0, 0, 0) L st σ Q := ab_r_tsw (by decide) rfl rfl kc_X11_size dX11_size_1
theorem rX11_size_1_12 : ab_Run X 122 1 (0, 0, 0) L (ab_I 12 :: st) σ Q ↔ ab_Run X 122 168 (0, 0, 0) L st σ Q := ab_r_tsw (by decide) rfl rfl kc_X11_size dX11_size_1
theorem rX11_size_1_13 : ab_Run X 122 1 (0, 0, 0) L (ab_I 13 :: st) σ Q ↔ ab_Run X 122 176 (0, 0, 0) L st σ Q := ab_r_tsw (by decide) rfl rfl kc_X11_size dX11_size_1
theorem rX11_size_1_d (h : a < 0 ∨ 13 < a) : ab_Run X 122 1 (0, 0, 0) L (ab_I a :: st) σ Q ↔ ab_Run X 122 187 (0, 0, 0) L st σ Q := ab_r_tswd h rfl kc_X11_size dX11_size_1
theorem rX11_size_72 : ab_Run X 122 72 (0, 0, 0) [ab_R z, l1] st σ Q ↔ z ≠ 0 ∧ ab_Run X 122 73 (0, 0, 0) [ab_R z, l1] (ab_R z :: st) σ Q := ab_r_aload_n rfl kc_X11_size dX11_size_72
theorem rX11_size_73 : ab_Run X 122 73 (0, 0, 0) L (ab_R a :: st) σ Q ↔ (ab_sh σ a).1 = 12 ∧ ab_Run X 122 76 (0, 0, 0) L (ab_R (ab_rd σ a 7) :: st) σ Q := gF_11_58 ko_X11_size kc_X11_size dX11_size_73
theorem rX11_size_76 : ab_Run X 122 76 (0, 0, 0) L (ab_R a :: st) σ Q ↔ (ab_sh σ a).1 = 5 ∧ ab_Run X 122 79 (0, 0, 0) L (ab_I (ab_rd σ a 0) :: st) σ Q := gF_11_383 ko_X11_size kc_X11_size dX11_size_76
theorem rX11_size_79 : ab_Run X 122 79 (0, 0, 0) L [ab_I v] σ Q ↔ Q (some (ab_I v)) σ := ab_r_ireturnI rfl kc_X11_size dX11_size_79
theorem rX11_size_80 : ab_Run X 122 80 (0, 0, 0) [ab_R z, l1] st σ Q ↔ z ≠ 0 ∧ ab_Run X 122 81 (0, 0, 0) [ab_R z, l1] (ab_R z :: st) σ Q := ab_r_aload_n rfl kc_X11_size dX11_size_80
theorem rX11_size_81 : ab_Run X 122 81 (0, 0, 0) L (ab_R a :: st) σ Q ↔ (ab_sh σ a).1 = 12 ∧ ab_Run X 122 84 (0, 0, 0) L (ab_R (ab_rd σ a 7) :: st) σ Q := gF_11_58 ko_X11_size kc_X11_size dX11_size_81
theorem rX11_size_84 : ab_Run X 122 84 (0, 0, 0) L (ab_R a :: st) σ Q ↔ (ab_sh σ a).1 = 5 ∧ ab_Run X 122 87 (0, 0, 0) L (ab_I (ab_rd σ a 1) :: st) σ Q := gF_11_386 ko_X11_size kc_X11_size dX11_size_84
theorem rX11_size_87 : ab_Run X 122 87 (0, 0, 0) L [ab_I v] σ Q ↔ Q (some (ab_I v)) σ := ab_r_ireturnI rfl kc_X11_size dX11_size_87
theorem rX11_size_88 : ab_Run X 122 88 (0, 0, 0) [ab_R z, l1] st σ Q ↔ z ≠ 0 ∧ ab_Run X 122 89 (0, 0, 0) [ab_R z, l1] (ab_R z :: st) σ Q := ab_r_aload_n rfl kc_X11_size dX11_size_88
theorem rX11_size_89 : ab_Run X 122 89 (0, 0, 0) L (ab_R a :: st) σ Q ↔ (ab_sh σ a).1 = 12 ∧ ab_Run X 122 92 (0, 0, 0) L (ab_R (ab_rd σ a 7) :: st) σ Q := gF_11_58 ko_X11_size kc_X11_size dX11_size_89
theorem rX11_size_92 : ab_Run X 122 92 (0, 0, 0) L (ab_R a :: st) σ Q ↔ (ab_sh σ a).1 = 5 ∧ ab_Run X 122 95 (0, 0, 0) L (ab_I (ab_rd σ a 2) :: st) σ Q := gF_11_389 ko_X11_size kc_X11_size dX11_size_92
theorem rX11_size_95 : ab_Run X 122 95 (0, 0, 0) L [ab_I v] σ Q ↔ Q (some (ab_I v)) σ := ab_r_ireturnI rfl kc_X11_size dX11_size_95
theorem rX11_size_96 : ab_Run X 122 96 (0, 0, 0) [ab_R z, l1] st σ Q ↔ z ≠ 0 ∧ ab_Run X 122 97 (0, 0, 0) [ab_R z, l1] (ab_R z :: st) σ Q := ab_r_aload_n rfl kc_X11_size dX11_size_96
theorem rX11_size_97 : ab_Run X 122 97 (0, 0, 0) L (ab_R a :: st) σ Q ↔ (ab_sh σ a).1 = 12 ∧ ab_Run X 122 100 (0, 0, 0) L (ab_R (ab_rd σ a 7) :: st) σ Q := gF_11_58 ko_X11_size kc_X11_size dX11_size_97
theorem rX11_size_100 : ab_Run X 122 100 (0, 0, 0) L (ab_R a :: st) σ Q ↔ (ab_sh σ a).1 = 5 ∧ ab_Run X 122 103 (0, 0, 0) L (ab_I (ab_rd σ a 3) :: st) σ Q := gF_11_392 ko_X11_size kc_X11_size dX11_size_100
theorem rX11_size_103 : ab_Run X 122 103 (0, 0, 0) L [ab_I v] σ Q ↔ Q (some (ab_I v)) σ := ab_r_ireturnI rfl kc_X11_size dX11_size_103
theorem rX11_size_104 : ab_Run X 122 104 (0, 0, 0) [ab_R z, l1] st σ Q ↔ z ≠ 0 ∧ ab_Run X 122 105 (0, 0, 0) [ab_R z, l1] (ab_R z :: st) σ Q := ab_r_aload_n rfl kc_X11_size dX11_size_104
theorem rX11_size_105 : ab_Run X 122 105 (0, 0, 0) L (ab_R a :: st) σ Q ↔ (ab_sh σ a).1 = 12 ∧ ab_Run X 122 108 (0, 0, 0) L (ab_R (ab_rd σ a 7) :: st) σ Q := gF_11_58 ko_X11_size kc_X11_size dX11_size_105
theorem rX11_size_108 : ab_Run X 122 108 (0, 0, 0) L (ab_R a :: st) σ Q ↔ (ab_sh σ a).1 = 5 ∧ ab_Run X 122 111 (0, 0, 0) L (ab_I (ab_rd σ a 4) :: st) σ Q := gF_11_341 ko_X11_size kc_X11_size dX11_size_108
theorem rX11_size_111 : ab_Run X 122 111 (0, 0, 0) L [ab_I v] σ Q ↔ Q (some (ab_I v)) σ := ab_r_ireturnI rfl kc_X11_size dX11_size_111
theorem rX11_size_112 : ab_Run X 122 112 (0, 0, 0) [ab_R z, l1] st σ Q ↔ z ≠ 0 ∧ ab_Run X 122 113 (0, 0, 0) [ab_R z, l1] (ab_R z :: st) σ Q := ab_r_aload_n rfl kc_X11_size dX11_size_112
theorem rX11_size_113 : ab_Run X 122 113 (0, 0, 0) L (ab_R a :: st) σ Q ↔ (ab_sh σ a).1 = 12 ∧ ab_Run X 122 116 (0, 0, 0) L (ab_R (ab_rd σ a 7) :: st) σ Q := gF_11_58 ko_X11_size kc_X11_size dX11_size_113
theorem rX11_size_116 : ab_Run X 122 116 (0, 0, 0) L (ab_R a :: st) σ Q ↔ (ab_sh σ a).1 = 5 ∧ ab_Run X 122 119 (0, 0, 0) L (ab_I (ab_rd σ a 5) :: st) σ Q := gF_11_100 ko_X11_size kc_X11_size dX11_size_116
theorem rX11_size_119 : ab_Run X 122 119 (0, 0, 0) L [ab_I v] σ Q ↔ Q (some (ab_I v)) σ := ab_r_ireturnI rfl kc_X11_size dX11_size_119
theorem rX11_size_120 : ab_Run X 122 120 (0, 0, 0) [ab_R z, l1] st σ Q ↔ z ≠ 0 ∧ ab_Run X 122 121 (0, 0, 0) [ab_R z, l1] (ab_R z :: st) σ Q := ab_r_aload_n rfl kc_X11_size dX11_size_120
theorem rX11_size_121 : ab_Run X 122 121 (0, 0, 0) L (ab_R a :: st) σ Q ↔ (ab_sh σ a).1 = 12 ∧ ab_Run X 122 124 (0, 0, 0) L (ab_R (ab_rd σ a 7) :: st) σ Q := gF_11_58 ko_X11_size kc_X11_size dX11_size_121
theorem rX11_size_124 : ab_Run X 122 124 (0, 0, 0) L (ab_R a :: st) σ Q ↔ (ab_sh σ a).1 = 5 ∧ ab_Run X 122 127 (0, 0, 0) L (ab_I (ab_rd σ a 7) :: st) σ Q := gF_11_270 ko_X11_size kc_X11_size dX11_size_124
theorem rX11_size_127 : ab_Run X 122 127 (0, 0, 0) L [ab_I v] σ Q ↔ Q (some (ab_I v)) σ := ab_r_ireturnI rfl kc_X11_size dX11_size_127
theorem rX11_size_128 : ab_Run X 122 128 (0, 0, 0) [ab_R z, l1] st σ Q ↔ z ≠ 0 ∧ ab_Run X 122 129 (0, 0, 0) [ab_R z, l1] (ab_R z :: st) σ Q := ab_r_aload_n rfl kc_X11_size dX11_size_128
theorem rX11_size_129 : ab_Run X 122 129 (0, 0, 0) L (ab_R a :: st) σ Q ↔ (ab_sh σ a).1 = 12 ∧ ab_Run X 122 132 (0, 0, 0) L (ab_R (ab_rd σ a 7) :: st) σ Q := gF_11_58 ko_X11_size kc_X11_size dX11_size_129
theorem rX11_size_132 : ab_Run X 122 132 (0, 0, 0) L (ab_R a :: st) σ Q ↔ (ab_sh σ a).1 = 5 ∧ ab_Run X 122 135 (0, 0, 0) L (ab_I (ab_rd σ a 9) :: st) σ Q := gF_11_395 ko_X11_size kc_X11_size dX11_size_132
theorem rX11_size_135 : ab_Run X 122 135 (0, 0, 0) L [ab_I v] σ Q ↔ Q (some (ab_I v)) σ := ab_r_ireturnI rfl kc_X11_size dX11_size_135
theorem rX11_size_136 : ab_Run X 122 136 (0, 0, 0) [ab_R z, l1] st σ Q ↔ z ≠ 0 ∧ ab_Run X 122 137 (0, 0, 0) [ab_R z, l1] (ab_R z :: st) σ Q := ab_r_aload_n rfl kc_X11_size dX11_size_136
theorem rX11_size_137 : ab_Run X 122 137 (0, 0, 0) L (ab_R a :: st) σ Q ↔ (ab_sh σ a).1 = 12 ∧ ab_Run X 122 140 (0, 0, 0) L (ab_R (ab_rd σ a 7) :: st) σ Q := gF_11_58 ko_X11_size kc_X11_size dX11_size_137
theorem rX11_size_140 : ab_Run X 122 140 (0, 0, 0) L (ab_R a :: st) σ Q ↔ (ab_sh σ a).1 = 5 ∧ ab_Run X 122 143 (0, 0, 0) L (ab_I (ab_rd σ a 10) :: st) σ Q := gF_11_288 ko_X11_size kc_X11_size dX11_size_140
theorem rX11_size_143 : ab_Run X 122 143 (0, 0, 0) L [ab_I v] σ Q ↔ Q (some (ab_I v)) σ := ab_r_ireturnI rfl kc_X11_size dX11_size_143
theorem rX11_size_144 : ab_Run X 122 144 (0, 0, 0) [ab_R z, l1] st σ Q ↔ z ≠ 0 ∧ ab_Run X 122 145 (0, 0, 0) [ab_R z, l1] (ab_R z :: st) σ Q := ab_r_aload_n rfl kc_X11_size dX11_size_144
theorem rX11_size_145 : ab_Run X 122 145 (0, 0, 0) L (ab_R a :: st) σ Q ↔ (ab_sh σ a).1 = 12 ∧ ab_Run X 122 148 (0, 0, 0) L (ab_R (ab_rd σ a 7) :: st) σ Q := gF_11_58 ko_X11_size kc_X11_size dX11_size_145
theorem rX11_size_148 : ab_Run X 122 148 (0, 0, 0) L (ab_R a :: st) σ Q ↔ (ab_sh σ a).1 = 5 ∧ ab_Run X 122 151 (0, 0, 0) L (ab_I (ab_rd σ a 12) :: st) σ Q := gF_11_398 ko_X11_size kc_X11_size dX11_size_148
theorem rX11_size_151 : ab_Run X 122 151 (0, 0, 0) L [ab_I v] σ Q ↔ Q (some (ab_I v)) σ := ab_r_ireturnI rfl kc_X11_size dX11_size_151
theorem rX11_size_152 : ab_Run X 122 152 (0, 0, 0) [ab_R z, l1] st σ Q ↔ z ≠ 0 ∧ ab_Run X 122 153 (0, 0, 0) [ab_R z, l1] (ab_R z :: st) σ Q := ab_r_aload_n rfl kc_X11_size dX11_size_152
theorem rX11_size_153 : ab_Run X 122 153 (0, 0, 0) L (ab_R a :: st) σ Q ↔ (ab_sh σ a).1 = 12 ∧ ab_Run X 122 156 (0, 0, 0) L (ab_R (ab_rd σ a 1) :: st) σ Q := gF_11_19 ko_X11_size kc_X11_size dX11_size_153
theorem rX11_size_156 : ab_Run X 122 156 (0, 0, 0) L (ab_R a :: st) σ Q ↔ (ab_sh σ a).1 = 9 ∧ ab_Run X 122 159 (0, 0, 0) L (ab_I (ab_rd σ a 4) :: st) σ Q := gF_11_353 ko_X11_size kc_X11_size dX11_size_156
theorem rX11_size_159 : ab_Run X 122 159 (0, 0, 0) L [ab_I v] σ Q ↔ Q (some (ab_I v)) σ := ab_r_ireturnI rfl kc_X11_size dX11_size_159
theorem rX11_size_160 : ab_Run X 122 160 (0, 0, 0) [ab_R z, l1] st σ Q ↔ z ≠ 0 ∧ ab_Run X 122 161 (0, 0, 0) [ab_R z, l1] (ab_R z :: st) σ Q := ab_r_aload_n rfl kc_X11_size dX11_size_160
theorem rX11_size_161 : ab_Run X 122 161 (0, 0, 0) L (ab_R a :: st) σ Q ↔ (ab_sh σ a).1 = 12 ∧ ab_Run X 122 164 (0, 0, 0) L (ab_R (ab_rd σ a 2) :: st) σ Q := gF_11_26 ko_X11_size kc_X11_size dX11_size_161
theorem rX11_size_164 : ab_Run X 122 164 (0, 0, 0) L (ab_R a :: st) σ Q ↔ (ab_sh σ a).1 = 4 ∧ ab_Run X 122 167 (0, 0, 0) L (ab_I (ab_rd σ a 3) :: st) σ Q := gF_11_356 ko_X11_size kc_X11_size dX11_size_164
theorem rX11_size_167 : ab_Run X 122 167 (0, 0, 0) L [ab_I v] σ Q ↔ Q (some (ab_I v)) σ := ab_r_ireturnI rfl kc_X11_size dX11_size_167
theorem rX11_size_168 : ab_Run X 122 168 (0, 0, 0) [ab_R z, l1] st σ Q ↔ z ≠ 0 ∧ ab_Run X 122 169 (0, 0, 0) [ab_R z, l1] (ab_R z :: st) σ Q := ab_r_aload_n rfl kc_X11_size dX11_size_168
theorem rX11_size_169 : ab_Run X 122 169 (0, 0, 0) L (ab_R a :: st) σ Q ↔ (ab_sh σ a).1 = 12 ∧ ab_Run X 122 172 (0, 0, 0) L (ab_R (ab_rd σ a 2) :: st) σ Q := gF_11_26 ko_X11_size kc_X11_size dX11_size_169
theorem rX11_size_172 : ab_Run X 122 172 (0, 0, 0) L (ab_R a :: st) σ Q ↔ (ab_sh σ a).1 = 4 ∧ ab_Run X 122 175 (0, 0, 0) L (ab_I (ab_rd σ a 4) :: st) σ Q := gF_11_369 ko_X11_size kc_X11_size dX11_size_172
theorem rX11_size_175 : ab_Run X 122 175 (0, 0, 0) L [ab_I v] σ Q ↔ Q (some (ab_I v)) σ := ab_r_ireturnI rfl kc_X11_size dX11_size_175
theorem rX11_size_176 : ab_Run X 122 176 (0, 0, 0) [ab_R z, l1] st σ Q ↔ z ≠ 0 ∧ ab_Run X 122 177 (0, 0, 0) [ab_R z, l1] (ab_R z :: st) σ Q := ab_r_aload_n rfl kc_X11_size dX11_size_176
theorem rX11_size_177 : ab_Run X 122 177 (0, 0, 0) L (ab_R a :: st) σ Q ↔ (ab_sh σ a).1 = 12 ∧ ab_Run X 122 180 (0, 0, 0) L (ab_R (ab_rd σ a 0) :: st) σ Q := gF_11_10 ko_X11_size kc_X11_size dX11_size_177
theorem rX11_size_180 : ab_Run X 122 180 (0, 0, 0) L (ab_R a :: st) σ Q ↔ (ab_sh σ a).1 = 8 ∧ ab_Run X 122 183 (0, 0, 0) L (ab_R (ab_rd σ a 0) :: st) σ Q := gF_11_66 ko_X11_size kc_X11_size dX11_size_180
theorem rX11_size_183 : ab_Run X 122 183 (0, 0, 0) L (ab_R a :: st) σ Q ↔ (ab_sh σ a).1 = 10 ∧ ab_Run X 122 186 (0, 0, 0) L (ab_I (ab_rd σ a 1) :: st) σ Q := gF_11_80 ko_X11_size kc_X11_size dX11_size_183
theorem rX11_size_186 : ab_Run X 122 186 (0, 0, 0) L [ab_I v] σ Q ↔ Q (some (ab_I v)) σ := ab_r_ireturnI rfl kc_X11_size dX11_size_186
theorem rX11_size_187 : ab_Run X 122 187 (0, 0, 0) L st σ Q ↔ ab_Run X 122 188 (0, 0, 0) L (ab_I (-1) :: st) σ Q := ab_r_iconst (by decide) kc_X11_size dX11_size_187
theorem rX11_size_188 : ab_Run X 122 188 (0, 0, 0) L [ab_I v] σ Q ↔ Q (some (ab_I v)) σ := ab_r_ireturnI rfl kc_X11_size dX11_size_188
theorem kc_X11_trouble : ab_code 123 = cX11_trouble := rfl
theorem ko_X11_trouble : ab_ow 123 = 11 := rfl
theorem rX11_trouble_0 : ab_Run X 123 0 (0, 0, 0) [ab_R z] st σ Q ↔ z ≠ 0 ∧ ab_Run X 123 1 (0, 0, 0) [ab_R z] (ab_R z :: st) σ Q := ab_r_aload_n rfl kc_X11_trouble dX11_trouble_0
theorem rX11_trouble_1 : ab_Run X 123 1 (0, 0, 0) L (ab_R a :: st) σ Q ↔ (ab_sh σ a).1 = 12 ∧ ab_Run X 123 4 (0, 0, 0) L (ab_I (ab_rd σ a 8) :: st) σ Q := gF_11_62 ko_X11_trouble kc_X11_trouble dX11_trouble_1
theorem rX11_trouble_4 : ab_Run X 123 4 (0, 0, 0) L [ab_I v] σ Q ↔ Q (some (ab_I v)) σ := ab_r_ireturnI rfl kc_X11_trouble dX11_trouble_4
theorem kc_X11_refuse : ab_code 124 = cX11_refuse := rfl
theorem ko_X11_refuse : ab_ow 124 = 11 := rfl
theorem rX11_refuse_0 : ab_Run X 124 0 (0, 0, 0) [ab_R z, l1] st σ Q ↔ z ≠ 0 ∧ ab_Run X 124 1 (0, 0, 0) [ab_R z, l1] (ab_R z :: st) σ Q := ab_r_aload_n rfl kc_X11_refuse dX11_refuse_0
theorem rX11_refuse_1 : ab_Run X 124 1 (0, 0, 0) [l0, ab_I z] st σ Q ↔ ab_Run X 124 2 (0, 0, 0) [l0, ab_I z] (ab_I z :: st) σ Q := ab_r_iload_n rfl kc_X11_refuse dX11_refuse_1
theorem rX11_refuse_2 : ab_Run X 124 2 (0, 0, 0) L (ab_I z :: ab_R a :: st) σ Q ↔ (ab_sh σ a).1 = 12 ∧ ab_Run X 124 5 (0, 0, 0) L st (ab_wr σ a 8 z) Q := sF_11_62 ko_X11_refuse kc_X11_refuse dX11_refuse_2
theorem rX11_refuse_5 : ab_Run X 124 5 (0, 0, 0) L st σ Q ↔ ab_Run X 124 6 (0, 0, 0) L (ab_I (-1) :: st) σ Q := ab_r_iconst (by decide) kc_X11_refuse dX11_refuse_5
theorem rX11_refuse_6 : ab_Run X 124 6 (0, 0, 0) L [ab_I v] σ Q ↔ Q (some (ab_I v)) σ := ab_r_ireturnI rfl kc_X11_refuse dX11_refuse_6
theorem kc_X11_hasKitchen : ab_code 125 = cX11_hasKitchen := rfl
theorem ko_X11_hasKitchen : ab_ow 125 = 11 := rfl
theorem rX11_hasKitchen_0 : ab_Run X 125 0 (0, 0, 0) [ab_R z] st σ Q ↔ z ≠ 0 ∧ ab_Run X 125 1 (0, 0, 0) [ab_R z] (ab_R z :: st) σ Q := ab_r_aload_n rfl kc_X11_hasKitchen dX11_hasKitchen_0
theorem rX11_hasKitchen_1 : ab_Run X 125 1 (0, 0, 0) L (ab_R a :: st) σ Q ↔ (ab_sh σ a).1 = 12 ∧ ab_Run X 125 4 (0, 0, 0) L (ab_R (ab_rd σ a 7) :: st) σ Q := gF_11_58 ko_X11_hasKitchen kc_X11_hasKitchen dX11_hasKitchen_1
theorem rX11_hasKitchen_4 : ab_Run X 125 4 (0, 0, 0) L (ab_R a :: st) σ Q ↔ (ab_sh σ a).1 = 5 ∧ ab_Run X 125 7 (0, 0, 0) L (ab_I (ab_rd σ a 5) :: st) σ Q := gF_11_100 ko_X11_hasKitchen kc_X11_hasKitchen dX11_hasKitchen_4
theorem rX11_hasKitchen_7 : ab_Run X 125 7 (0, 0, 0) L (ab_I a :: st) σ Q ↔ (a ≤ 0 → ab_Run X 125 14 (0, 0, 0) L st σ Q) ∧ (¬ (a ≤ 0) → ab_Run X 125 10 (0, 0, 0) L st σ Q) := ab_r_if_le rfl kc_X11_hasKitchen dX11_hasKitchen_7
theorem rX11_hasKitchen_10 : ab_Run X 125 10 (0, 0, 0) L st σ Q ↔ ab_Run X 125 11 (0, 0, 0) L (ab_I 1 :: st) σ Q := ab_r_iconst (by decide) kc_X11_hasKitchen dX11_hasKitchen_10
theorem rX11_hasKitchen_11 : ab_Run X 125 11 (0, 0, 0) L st σ Q ↔ ab_Run X 125 15 (0, 0, 0) L st σ Q := ab_r_goto rfl kc_X11_hasKitchen dX11_hasKitchen_11
theorem rX11_hasKitchen_14 : ab_Run X 125 14 (0, 0, 0) L st σ Q ↔ ab_Run X 125 15 (0, 0, 0) L (ab_I 0 :: st) σ Q := ab_r_iconst (by decide) kc_X11_hasKitchen dX11_hasKitchen_14
theorem rX11_hasKitchen_15 : ab_Run X 125 15 (0, 0, 0) L [ab_I v] σ Q ↔ (v = 0 ∨ v = 1) ∧ Q (some (ab_I v)) σ := ab_r_ireturnZ rfl kc_X11_hasKitchen dX11_hasKitchen_15
theorem kc_X11_isBone : ab_code 126 = cX11_isBone := rfl
theorem ko_X11_isBone : ab_ow 126 = 11 := rfl
theorem rX11_isBone_0 : ab_Run X 126 0 (0, 0, 0) [l0, ab_I z] st σ Q ↔ ab_Run X 126 1 (0, 0, 0) [l0, ab_I z] (ab_I z :: st) σ Q := ab_r_iload_n rfl kc_X11_isBone dX11_isBone_0
theorem rX11_isBone_1 : ab_Run X 126 1 (0, 0, 0) L (ab_I a :: st) σ Q ↔ (a < 0 → ab_Run X 126 19 (0, 0, 0) L st σ Q) ∧ (¬ (a < 0) → ab_Run X 126 4 (0, 0, 0) L st σ Q) := ab_r_if_lt rfl kc_X11_isBone dX11_isBone_1
theorem rX11_isBone_4 : ab_Run X 126 4 (0, 0, 0) [l0, ab_I z] st σ Q ↔ ab_Run X 126 5 (0, 0, 0) [l0, ab_I z] (ab_I z :: st) σ Q := ab_r_iload_n rfl kc_X11_isBone dX11_isBone_4
theorem rX11_isBone_5 : ab_Run X 126 5 (0, 0, 0) [ab_R z, l1] st σ Q ↔ z ≠ 0 ∧ ab_Run X 126 6 (0, 0, 0) [ab_R z, l1] (ab_R z :: st) σ Q := ab_r_aload_n rfl kc_X11_isBone dX11_isBone_5
theorem rX11_isBone_6 : ab_Run X 126 6 (0, 0, 0) L (ab_R a :: st) σ Q ↔ (ab_sh σ a).1 = 12 ∧ ab_Run X 126 9 (0, 0, 0) L (ab_R (ab_rd σ a 7) :: st) σ Q := gF_11_58 ko_X11_isBone kc_X11_isBone dX11_isBone_6
theorem rX11_isBone_9 : ab_Run X 126 9 (0, 0, 0) L (ab_R a :: st) σ Q ↔ (ab_sh σ a).1 = 5 ∧ ab_Run X 126 12 (0, 0, 0) L (ab_I (ab_rd σ a 5) :: st) σ Q := gF_11_100 ko_X11_isBone kc_X11_isBone dX11_isBone_9
theorem rX11_isBone_12 : ab_Run X 126 12 (0, 0, 0) L (ab_I b :: ab_I a :: st) σ Q ↔ (b ≤ a → ab_Run X 126 19 (0, 0, 0) L st σ Q) ∧ (¬ (b ≤ a) → ab_Run X 126 15 (0, 0, 0) L st σ Q) := ab_r_icmp_ge rfl kc_X11_isBone dX11_isBone_12
theorem rX11_isBone_15 : ab_Run X 126 15 (0, 0, 0) L st σ Q ↔ ab_Run X 126 16 (0, 0, 0) L (ab_I 1 :: st) σ Q := ab_r_iconst (by decide) kc_X11_isBone dX11_isBone_15
theorem rX11_isBone_16 : ab_Run X 126 16 (0, 0, 0) L st σ Q ↔ ab_Run X 126 20 (0, 0, 0) L st σ Q := ab_r_goto rfl kc_X11_isBone dX11_isBone_16
theorem rX11_isBone_19 : ab_Run X 126 19 (0, 0, 0) L st σ Q ↔ ab_Run X 126 20 (0, 0, 0) L (ab_I 0 :: st) σ Q := ab_r_iconst (by decide) kc_X11_isBone dX11_isBone_19
theorem rX11_isBone_20 : ab_Run X 126 20 (0, 0, 0) L [ab_I v] σ Q ↔ (v = 0 ∨ v = 1) ∧ Q (some (ab_I v)) σ := ab_r_ireturnZ rfl kc_X11_isBone dX11_isBone_20
theorem kc_X11_isPerson : ab_code 127 = cX11_isPerson := rfl
theorem ko_X11_isPerson : ab_ow 127 = 11 := rfl
theorem rX11_isPerson_0 : ab_Run X 127 0 (0, 0, 0) [l0, ab_I z] st σ Q ↔ ab_Run X 127 1 (0, 0, 0) [l0, ab_I z] (ab_I z :: st) σ Q := ab_r_iload_n rfl kc_X11_isPerson dX11_isPerson_0
theorem rX11_isPerson_1 : ab_Run X 127 1 (0, 0, 0) L (ab_I a :: st) σ Q ↔ (a < 0 → ab_Run X 127 19 (0, 0, 0) L st σ Q) ∧ (¬ (a < 0) → ab_Run X 127 4 (0, 0, 0) L st σ Q) := ab_r_if_lt rfl kc_X11_isPerson dX11_isPerson_1
theorem rX11_isPerson_4 : ab_Run X 127 4 (0, 0, 0) [l0, ab_I z] st σ Q ↔ ab_Run X 127 5 (0, 0, 0) [l0, ab_I z] (ab_I z :: st) σ Q := ab_r_iload_n rfl kc_X11_isPerson dX11_isPerson_4
theorem rX11_isPerson_5 : ab_Run X 127 5 (0, 0, 0) [ab_R z, l1] st σ Q ↔ z ≠ 0 ∧ ab_Run X 127 6 (0, 0, 0) [ab_R z, l1] (ab_R z :: st) σ Q := ab_r_aload_n rfl kc_X11_isPerson dX11_isPerson_5
theorem rX11_isPerson_6 : ab_Run X 127 6 (0, 0, 0) L (ab_R a :: st) σ Q ↔ (ab_sh σ a).1 = 12 ∧ ab_Run X 127 9 (0, 0, 0) L (ab_R (ab_rd σ a 7) :: st) σ Q := gF_11_58 ko_X11_isPerson kc_X11_isPerson dX11_isPerson_6
theorem rX11_isPerson_9 : ab_Run X 127 9 (0, 0, 0) L (ab_R a :: st) σ Q ↔ (ab_sh σ a).1 = 5 ∧ ab_Run X 127 12 (0, 0, 0) L (ab_I (ab_rd σ a 7) :: st) σ Q := gF_11_270 ko_X11_isPerson kc_X11_isPerson dX11_isPerson_9
theorem rX11_isPerson_12 : ab_Run X 127 12 (0, 0, 0) L (ab_I b :: ab_I a :: st) σ Q ↔ (b ≤ a → ab_Run X 127 19 (0, 0, 0) L st σ Q) ∧ (¬ (b ≤ a) → ab_Run X 127 15 (0, 0, 0) L st σ Q) := ab_r_icmp_ge rfl kc_X11_isPerson dX11_isPerson_12
theorem rX11_isPerson_15 : ab_Run X 127 15 (0, 0, 0) L st σ Q ↔ ab_Run X 127 16 (0, 0, 0) L (ab_I 1 :: st) σ Q := ab_r_iconst (by decide) kc_X11_isPerson dX11_isPerson_15
theorem rX11_isPerson_16 : ab_Run X 127 16 (0, 0, 0) L st σ Q ↔ ab_Run X 127 20 (0, 0, 0) L st σ Q := ab_r_goto rfl kc_X11_isPerson dX11_isPerson_16
theorem rX11_isPerson_19 : ab_Run X 127 19 (0, 0, 0) L st σ Q ↔ ab_Run X 127 20 (0, 0, 0) L (ab_I 0 :: st) σ Q := ab_r_iconst (by decide) kc_X11_isPerson dX11_isPerson_19
theorem rX11_isPerson_20 : ab_Run X 127 20 (0, 0, 0) L [ab_I v] σ Q ↔ (v = 0 ∨ v = 1) ∧ Q (some (ab_I v)) σ := ab_r_ireturnZ rfl kc_X11_isPerson dX11_isPerson_20
theorem kc_X11_areUnlike : ab_code 128 = cX11_areUnlike := rfl
theorem ko_X11_areUnlike : ab_ow 128 = 11 := rfl
theorem rX11_areUnlike_0 : ab_Run X 128 0 (1, 0, 0) [ab_R z, l1, l2] st σ Q ↔ z ≠ 0 ∧ ab_Run X 128 1 (1, 0, 0) [ab_R z, l1, l2] (ab_R z :: st) σ Q := ab_r_aload_n rfl kc_X11_areUnlike dX11_areUnlike_0
theorem rX11_areUnlike_1 : ab_Run X 128 1 (1, 0, 0) [l0, ab_I z, l2] st σ Q ↔ ab_Run X 128 2 (1, 0, 0) [l0, ab_I z, l2] (ab_I z :: st) σ Q := ab_r_iload_n rfl kc_X11_areUnlike dX11_areUnlike_1
theorem rX11_areUnlike_2 : ab_Run X 128 2 (1, 0, 0) L (ab_I x1 :: ab_R a :: st) σ Q ↔ ((ab_sh σ a).1 = 12 ∧ ab_cats st ≤ 8) ∧ ab_Do X 127 [ab_R a, ab_I x1] σ (fun r σ' => ab_Run X 128 5 (1, 0, 0) L (ab_psh r st) σ' Q) := ab_r_callV (w := [ab_I x1]) (as := [ab_I x1]) (b1 := (0, 0, 0)) 0 (Or.inl rfl) (by decide) ko_X11_areUnlike qM_11_139 (by decide) rfl rfl rfl rfl rfl (by decide) (Nat.le_of_ble_eq_true rfl) kc_X11_areUnlike dX11_areUnlike_2
theorem rX11_areUnlike_5 : ab_Run X 128 5 (1, 0, 0) L (ab_I a :: st) σ Q ↔ (a = 0 → ab_Run X 128 25 (1, 0, 0) L st σ Q) ∧ (¬ (a = 0) → ab_Run X 128 8 (1, 0, 0) L st σ Q) := ab_r_if_eq rfl kc_X11_areUnlike dX11_areUnlike_5
theorem rX11_areUnlike_8 : ab_Run X 128 8 (1, 0, 0) [ab_R z, l1, l2] st σ Q ↔ z ≠ 0 ∧ ab_Run X 128 9 (1, 0, 0) [ab_R z, l1, l2] (ab_R z :: st) σ Q := ab_r_aload_n rfl kc_X11_areUnlike dX11_areUnlike_8
theorem rX11_areUnlike_9 : ab_Run X 128 9 (1, 0, 0) [l0, l1, ab_I z] st σ Q ↔ ab_Run X 128 10 (1, 0, 0) [l0, l1, ab_I z] (ab_I z :: st) σ Q := ab_r_iload_n rfl kc_X11_areUnlike dX11_areUnlike_9
theorem rX11_areUnlike_10 : ab_Run X 128 10 (1, 0, 0) L (ab_I x1 :: ab_R a :: st) σ Q ↔ ((ab_sh σ a).1 = 12 ∧ ab_cats st ≤ 8) ∧ ab_Do X 127 [ab_R a, ab_I x1] σ (fun r σ' => ab_Run X 128 13 (1, 0, 0) L (ab_psh r st) σ' Q) := ab_r_callV (w := [ab_I x1]) (as := [ab_I x1]) (b1 := (0, 0, 0)) 0 (Or.inl rfl) (by decide) ko_X11_areUnlike qM_11_139 (by decide) rfl rfl rfl rfl rfl (by decide) (Nat.le_of_ble_eq_true rfl) kc_X11_areUnlike dX11_areUnlike_10
theorem rX11_areUnlike_13 : ab_Run X 128 13 (1, 0, 0) L (ab_I a :: st) σ Q ↔ (a = 0 → ab_Run X 128 25 (1, 0, 0) L st σ Q) ∧ (¬ (a = 0) → ab_Run X 128 16 (1, 0, 0) L st σ Q) := ab_r_if_eq rfl kc_X11_areUnlike dX11_areUnlike_13
theorem rX11_areUnlike_16 : ab_Run X 128 16 (1, 0, 0) [l0, ab_I z, l2] st σ Q ↔ ab_Run X 128 17 (1, 0, 0) [l0, ab_I z, l2] (ab_I z :: st) σ Q := ab_r_iload_n rfl kc_X11_areUnlike dX11_areUnlike_16
theorem rX11_areUnlike_17 : ab_Run X 128 17 (1, 0, 0) [l0, l1, ab_I z] st σ Q ↔ ab_Run X 128 18 (1, 0, 0) [l0, l1, ab_I z] (ab_I z :: st) σ Q := ab_r_iload_n rfl kc_X11_areUnlike dX11_areUnlike_17
theorem rX11_areUnlike_18 : ab_Run X 128 18 (1, 0, 0) L (ab_I b :: ab_I a :: st) σ Q ↔ (a = b → ab_Run X 128 25 (1, 0, 0) L st σ Q) ∧ (¬ (a = b) → ab_Run X 128 21 (1, 0, 0) L st σ Q) := ab_r_icmp_eq rfl kc_X11_areUnlike dX11_areUnlike_18
theorem rX11_areUnlike_21 : ab_Run X 128 21 (1, 0, 0) L st σ Q ↔ ab_Run X 128 22 (1, 0, 0) L (ab_I 1 :: st) σ Q := ab_r_iconst (by decide) kc_X11_areUnlike dX11_areUnlike_21
theorem rX11_areUnlike_22 : ab_Run X 128 22 (1, 0, 0) L st σ Q ↔ ab_Run X 128 26 (1, 0, 0) L st σ Q := ab_r_goto rfl kc_X11_areUnlike dX11_areUnlike_22
theorem rX11_areUnlike_25 : ab_Run X 128 25 (1, 0, 0) L st σ Q ↔ ab_Run X 128 26 (1, 0, 0) L (ab_I 0 :: st) σ Q := ab_r_iconst (by decide) kc_X11_areUnlike dX11_areUnlike_25
theorem rX11_areUnlike_26 : ab_Run X 128 26 (1, 0, 0) L [ab_I v] σ Q ↔ (v = 0 ∨ v = 1) ∧ Q (some (ab_I v)) σ := ab_r_ireturnZ rfl kc_X11_areUnlike dX11_areUnlike_26
theorem kc_X11_isPlace : ab_code 129 = cX11_isPlace := rfl
theorem ko_X11_isPlace : ab_ow 129 = 11 := rfl
theorem rX11_isPlace_0 : ab_Run X 129 0 (1, 0, 0) [ab_R z, l1, l2, l3] st σ Q ↔ z ≠ 0 ∧ ab_Run X 129 1 (1, 0, 0) [ab_R z, l1, l2, l3] (ab_R z :: st) σ Q := ab_r_aload_n rfl kc_X11_isPlace dX11_isPlace_0
theorem rX11_isPlace_1 : ab_Run X 129 1 (1, 0, 0) [l0, ab_I z, l2, l3] st σ Q ↔ ab_Run X 129 2 (1, 0, 0) [l0, ab_I z, l2, l3] (ab_I z :: st) σ Q := ab_r_iload_n rfl kc_X11_isPlace dX11_isPlace_1
theorem rX11_isPlace_2 : ab_Run X 129 2 (1, 0, 0) L (ab_I x1 :: ab_R a :: st) σ Q ↔ ((ab_sh σ a).1 = 12 ∧ ab_cats st ≤ 8) ∧ ab_Do X 126 [ab_R a, ab_I x1] σ (fun r σ' => ab_Run X 129 5 (1, 0, 0) L (ab_psh r st) σ' Q) := ab_r_callV (w := [ab_I x1]) (as := [ab_I x1]) (b1 := (0, 0, 0)) 0 (Or.inl rfl) (by decide) ko_X11_isPlace qM_11_109 (by decide) rfl rfl rfl rfl rfl (by decide) (Nat.le_of_ble_eq_true rfl) kc_X11_isPlace dX11_isPlace_2
theorem rX11_isPlace_5 : ab_Run X 129 5 (1, 0, 0) L (ab_I a :: st) σ Q ↔ (a = 0 → ab_Run X 129 43 (1, 0, 0) L st σ Q) ∧ (¬ (a = 0) → ab_Run X 129 8 (1, 0, 0) L st σ Q) := ab_r_if_eq rfl kc_X11_isPlace dX11_isPlace_5
theorem rX11_isPlace_8 : ab_Run X 129 8 (1, 0, 0) [l0, l1, ab_I z, l3] st σ Q ↔ ab_Run X 129 9 (1, 0, 0) [l0, l1, ab_I z, l3] (ab_I z :: st) σ Q := ab_r_iload_n rfl kc_X11_isPlace dX11_isPlace_8
theorem rX11_isPlace_9 : ab_Run X 129 9 (1, 0, 0) L (ab_I a :: st) σ Q ↔ (a = 0 → ab_Run X 129 17 (1, 0, 0) L st σ Q) ∧ (¬ (a = 0) → ab_Run X 129 12 (1, 0, 0) L st σ Q) := ab_r_if_eq rfl kc_X11_isPlace dX11_isPlace_9
theorem rX11_isPlace_12 : ab_Run X 129 12 (1, 0, 0) [l0, l1, ab_I z, l3] st σ Q ↔ ab_Run X 129 13 (1, 0, 0) [l0, l1, ab_I z, l3] (ab_I z :: st) σ Q := ab_r_iload_n rfl kc_X11_isPlace dX11_isPlace_12
theorem rX11_isPlace_13 : ab_Run X 129 13 (1, 0, 0) L st σ Q ↔ ab_Run X 129 14 (1, 0, 0) L (ab_I 1 :: st) σ Q := ab_r_iconst (by decide) kc_X11_isPlace dX11_isPlace_13
theorem rX11_isPlace_14 : ab_Run X 129 14 (1, 0, 0) L (ab_I b :: ab_I a :: st) σ Q ↔ (¬ a = b → ab_Run X 129 43 (1, 0, 0) L st σ Q) ∧ (¬ (¬ a = b) → ab_Run X 129 17 (1, 0, 0) L st σ Q) := ab_r_icmp_ne rfl kc_X11_isPlace dX11_isPlace_14
theorem rX11_isPlace_17 : ab_Run X 129 17 (1, 0, 0) [l0, l1, l2, ab_I z] st σ Q ↔ ab_Run X 129 18 (1, 0, 0) [l0, l1, l2, ab_I z] (ab_I z :: st) σ Q := ab_r_iload_n rfl kc_X11_isPlace dX11_isPlace_17
theorem rX11_isPlace_18 : ab_Run X 129 18 (1, 0, 0) L (ab_I a :: st) σ Q ↔ (a < 0 → ab_Run X 129 43 (1, 0, 0) L st σ Q) ∧ (¬ (a < 0) → ab_Run X 129 21 (1, 0, 0) L st σ Q) := ab_r_if_lt rfl kc_X11_isPlace dX11_isPlace_18
theorem rX11_isPlace_21 : ab_Run X 129 21 (1, 0, 0) [l0, l1, l2, ab_I z] st σ Q ↔ ab_Run X 129 22 (1, 0, 0) [l0, l1, l2, ab_I z] (ab_I z :: st) σ Q := ab_r_iload_n rfl kc_X11_isPlace dX11_isPlace_21
theorem rX11_isPlace_22 : ab_Run X 129 22 (1, 0, 0) [ab_R z, l1, l2, l3] st σ Q ↔ z ≠ 0 ∧ ab_Run X 129 23 (1, 0, 0) [ab_R z, l1, l2, l3] (ab_R z :: st) σ Q := ab_r_aload_n rfl kc_X11_isPlace dX11_isPlace_22
theorem rX11_isPlace_23 : ab_Run X 129 23 (1, 0, 0) L (ab_R a :: st) σ Q ↔ (ab_sh σ a).1 = 12 ∧ ab_Run X 129 26 (1, 0, 0) L (ab_R (ab_rd σ a 7) :: st) σ Q := gF_11_58 ko_X11_isPlace kc_X11_isPlace dX11_isPlace_23
theorem rX11_isPlace_26 : ab_Run X 129 26 (1, 0, 0) L (ab_R a :: st) σ Q ↔ (ab_sh σ a).1 = 5 ∧ ab_Run X 129 29 (1, 0, 0) L (ab_R (ab_rd σ a 6) :: st) σ Q := gF_11_118 ko_X11_isPlace kc_X11_isPlace dX11_isPlace_26
theorem rX11_isPlace_29 : ab_Run X 129 29 (1, 0, 0) [l0, ab_I z, l2, l3] st σ Q ↔ ab_Run X 129 30 (1, 0, 0) [l0, ab_I z, l2, l3] (ab_I z :: st) σ Q := ab_r_iload_n rfl kc_X11_isPlace dX11_isPlace_29
theorem rX11_isPlace_30 : ab_Run X 129 30 (1, 0, 0) L (ab_I i :: ab_R a :: st) σ Q ↔ ((25 ≤ (ab_sh σ a).1 ∧ (ab_sh σ a).1 < 30) ∧ 0 ≤ i ∧ i < (ab_sh σ a).2) ∧ ab_Run X 129 31 (1, 0, 0) L (ab_R (ab_rd σ a i) :: st) σ Q := ab_r_aaload kc_X11_isPlace dX11_isPlace_30
theorem rX11_isPlace_31 : ab_Run X 129 31 (1, 0, 0) L (ab_R a :: st) σ Q ↔ (ab_sh σ a).1 = 2 ∧ ab_Run X 129 34 (1, 0, 0) L (ab_R (ab_rd σ a 3) :: st) σ Q := gF_11_122 ko_X11_isPlace kc_X11_isPlace dX11_isPlace_31
theorem rX11_isPlace_34 : ab_Run X 129 34 (1, 0, 0) [l0, l1, ab_I z, l3] st σ Q ↔ ab_Run X 129 35 (1, 0, 0) [l0, l1, ab_I z, l3] (ab_I z :: st) σ Q := ab_r_iload_n rfl kc_X11_isPlace dX11_isPlace_34
theorem rX11_isPlace_35 : ab_Run X 129 35 (1, 0, 0) L (ab_I i :: ab_R a :: st) σ Q ↔ ((ab_sh σ a).1 = 21 ∧ 0 ≤ i ∧ i < (ab_sh σ a).2) ∧ ab_Run X 129 36 (1, 0, 0) L (ab_I (ab_rd σ a i) :: st) σ Q := ab_r_iaload (by decide) kc_X11_isPlace dX11_isPlace_35
theorem rX11_isPlace_36 : ab_Run X 129 36 (1, 0, 0) L (ab_I b :: ab_I a :: st) σ Q ↔ (b ≤ a → ab_Run X 129 43 (1, 0, 0) L st σ Q) ∧ (¬ (b ≤ a) → ab_Run X 129 39 (1, 0, 0) L st σ Q) := ab_r_icmp_ge rfl kc_X11_isPlace dX11_isPlace_36
theorem rX11_isPlace_39 : ab_Run X 129 39 (1, 0, 0) L st σ Q ↔ ab_Run X 129 40 (1, 0, 0) L (ab_I 1 :: st) σ Q := ab_r_iconst (by decide) kc_X11_isPlace dX11_isPlace_39
theorem rX11_isPlace_40 : ab_Run X 129 40 (1, 0, 0) L st σ Q ↔ ab_Run X 129 44 (1, 0, 0) L st σ Q := ab_r_goto rfl kc_X11_isPlace dX11_isPlace_40
theorem rX11_isPlace_43 : ab_Run X 129 43 (1, 0, 0) L st σ Q ↔ ab_Run X 129 44 (1, 0, 0) L (ab_I 0 :: st) σ Q := ab_r_iconst (by decide) kc_X11_isPlace dX11_isPlace_43
theorem rX11_isPlace_44 : ab_Run X 129 44 (1, 0, 0) L [ab_I v] σ Q ↔ (v = 0 ∨ v = 1) ∧ Q (some (ab_I v)) σ := ab_r_ireturnZ rfl kc_X11_isPlace dX11_isPlace_44
theorem kc_X11_isHold : ab_code 130 = cX11_isHold := rfl
theorem ko_X11_isHold : ab_ow 130 = 11 := rfl
theorem rX11_isHold_0 : ab_Run X 130 0 (0, 0, 0) [l0, l1, l2, ab_I z] st σ Q ↔ ab_Run X 130 1 (0, 0, 0) [l0, l1, l2, ab_I z] (ab_I z :: st) σ Q := ab_r_iload_n rfl kc_X11_isHold dX11_isHold_0
theorem rX11_isHold_1 : ab_Run X 130 1 (0, 0, 0) L st σ Q ↔ ab_Run X 130 2 (0, 0, 0) L (ab_I 1 :: st) σ Q := ab_r_iconst (by decide) kc_X11_isHold dX11_isHold_1
theorem rX11_isHold_2 : ab_Run X 130 2 (0, 0, 0) L (ab_I b :: ab_I a :: st) σ Q ↔ (a < b → ab_Run X 130 27 (0, 0, 0) L st σ Q) ∧ (¬ (a < b) → ab_Run X 130 5 (0, 0, 0) L st σ Q) := ab_r_icmp_lt rfl kc_X11_isHold dX11_isHold_2
theorem rX11_isHold_5 : ab_Run X 130 5 (0, 0, 0) [l0, l1, l2, ab_I z] st σ Q ↔ ab_Run X 130 6 (0, 0, 0) [l0, l1, l2, ab_I z] (ab_I z :: st) σ Q := ab_r_iload_n rfl kc_X11_isHold dX11_isHold_5
theorem rX11_isHold_6 : ab_Run X 130 6 (0, 0, 0) [ab_R z, l1, l2, l3] st σ Q ↔ z ≠ 0 ∧ ab_Run X 130 7 (0, 0, 0) [ab_R z, l1, l2, l3] (ab_R z :: st) σ Q := ab_r_aload_n rfl kc_X11_isHold dX11_isHold_6
theorem rX11_isHold_7 : ab_Run X 130 7 (0, 0, 0) L (ab_R a :: st) σ Q ↔ (ab_sh σ a).1 = 12 ∧ ab_Run X 130 10 (0, 0, 0) L (ab_R (ab_rd σ a 7) :: st) σ Q := gF_11_58 ko_X11_isHold kc_X11_isHold dX11_isHold_7
theorem rX11_isHold_10 : ab_Run X 130 10 (0, 0, 0) L (ab_R a :: st) σ Q ↔ (ab_sh σ a).1 = 5 ∧ ab_Run X 130 13 (0, 0, 0) L (ab_R (ab_rd σ a 6) :: st) σ Q := gF_11_118 ko_X11_isHold kc_X11_isHold dX11_isHold_10
theorem rX11_isHold_13 : ab_Run X 130 13 (0, 0, 0) [l0, ab_I z, l2, l3] st σ Q ↔ ab_Run X 130 14 (0, 0, 0) [l0, ab_I z, l2, l3] (ab_I z :: st) σ Q := ab_r_iload_n rfl kc_X11_isHold dX11_isHold_13
theorem rX11_isHold_14 : ab_Run X 130 14 (0, 0, 0) L (ab_I i :: ab_R a :: st) σ Q ↔ ((25 ≤ (ab_sh σ a).1 ∧ (ab_sh σ a).1 < 30) ∧ 0 ≤ i ∧ i < (ab_sh σ a).2) ∧ ab_Run X 130 15 (0, 0, 0) L (ab_R (ab_rd σ a i) :: st) σ Q := ab_r_aaload kc_X11_isHold dX11_isHold_14
theorem rX11_isHold_15 : ab_Run X 130 15 (0, 0, 0) L (ab_R a :: st) σ Q ↔ (ab_sh σ a).1 = 2 ∧ ab_Run X 130 18 (0, 0, 0) L (ab_R (ab_rd σ a 3) :: st) σ Q := gF_11_122 ko_X11_isHold kc_X11_isHold dX11_isHold_15
theorem rX11_isHold_18 : ab_Run X 130 18 (0, 0, 0) [l0, l1, ab_I z, l3] st σ Q ↔ ab_Run X 130 19 (0, 0, 0) [l0, l1, ab_I z, l3] (ab_I z :: st) σ Q := ab_r_iload_n rfl kc_X11_isHold dX11_isHold_18
theorem rX11_isHold_19 : ab_Run X 130 19 (0, 0, 0) L (ab_I i :: ab_R a :: st) σ Q ↔ ((ab_sh σ a).1 = 21 ∧ 0 ≤ i ∧ i < (ab_sh σ a).2) ∧ ab_Run X 130 20 (0, 0, 0) L (ab_I (ab_rd σ a i) :: st) σ Q := ab_r_iaload (by decide) kc_X11_isHold dX11_isHold_19
theorem rX11_isHold_20 : ab_Run X 130 20 (0, 0, 0) L (ab_I b :: ab_I a :: st) σ Q ↔ (b < a → ab_Run X 130 27 (0, 0, 0) L st σ Q) ∧ (¬ (b < a) → ab_Run X 130 23 (0, 0, 0) L st σ Q) := ab_r_icmp_gt rfl kc_X11_isHold dX11_isHold_20
theorem rX11_isHold_23 : ab_Run X 130 23 (0, 0, 0) L st σ Q ↔ ab_Run X 130 24 (0, 0, 0) L (ab_I 1 :: st) σ Q := ab_r_iconst (by decide) kc_X11_isHold dX11_isHold_23
theorem rX11_isHold_24 : ab_Run X 130 24 (0, 0, 0) L st σ Q ↔ ab_Run X 130 28 (0, 0, 0) L st σ Q := ab_r_goto rfl kc_X11_isHold dX11_isHold_24
theorem rX11_isHold_27 : ab_Run X 130 27 (0, 0, 0) L st σ Q ↔ ab_Run X 130 28 (0, 0, 0) L (ab_I 0 :: st) σ Q := ab_r_iconst (by decide) kc_X11_isHold dX11_isHold_27
theorem rX11_isHold_28 : ab_Run X 130 28 (0, 0, 0) L [ab_I v] σ Q ↔ (v = 0 ∨ v = 1) ∧ Q (some (ab_I v)) σ := ab_r_ireturnZ rfl kc_X11_isHold dX11_isHold_28
theorem kc_X11_isPiece : ab_code 131 = cX11_isPiece := rfl
theorem ko_X11_isPiece : ab_ow 131 = 11 := rfl
theorem rX11_isPiece_0 : ab_Run X 131 0 (0, 0, 0) [l0, ab_I z] st σ Q ↔ ab_Run X 131 1 (0, 0, 0) [l0, ab_I z] (ab_I z :: st) σ Q := ab_r_iload_n rfl kc_X11_isPiece dX11_isPiece_0
theorem rX11_isPiece_1 : ab_Run X 131 1 (0, 0, 0) L (ab_I a :: st) σ Q ↔ (a < 0 → ab_Run X 131 19 (0, 0, 0) L st σ Q) ∧ (¬ (a < 0) → ab_Run X 131 4 (0, 0, 0) L st σ Q) := ab_r_if_lt rfl kc_X11_isPiece dX11_isPiece_1
theorem rX11_isPiece_4 : ab_Run X 131 4 (0, 0, 0) [l0, ab_I z] st σ Q ↔ ab_Run X 131 5 (0, 0, 0) [l0, ab_I z] (ab_I z :: st) σ Q := ab_r_iload_n rfl kc_X11_isPiece dX11_isPiece_4
theorem rX11_isPiece_5 : ab_Run X 131 5 (0, 0, 0) [ab_R z, l1] st σ Q ↔ z ≠ 0 ∧ ab_Run X 131 6 (0, 0, 0) [ab_R z, l1] (ab_R z :: st) σ Q := ab_r_aload_n rfl kc_X11_isPiece dX11_isPiece_5
theorem rX11_isPiece_6 : ab_Run X 131 6 (0, 0, 0) L (ab_R a :: st) σ Q ↔ (ab_sh σ a).1 = 12 ∧ ab_Run X 131 9 (0, 0, 0) L (ab_R (ab_rd σ a 7) :: st) σ Q := gF_11_58 ko_X11_isPiece kc_X11_isPiece dX11_isPiece_6
theorem rX11_isPiece_9 : ab_Run X 131 9 (0, 0, 0) L (ab_R a :: st) σ Q ↔ (ab_sh σ a).1 = 5 ∧ ab_Run X 131 12 (0, 0, 0) L (ab_I (ab_rd σ a 12) :: st) σ Q := gF_11_398 ko_X11_isPiece kc_X11_isPiece dX11_isPiece_9
theorem rX11_isPiece_12 : ab_Run X 131 12 (0, 0, 0) L (ab_I b :: ab_I a :: st) σ Q ↔ (b ≤ a → ab_Run X 131 19 (0, 0, 0) L st σ Q) ∧ (¬ (b ≤ a) → ab_Run X 131 15 (0, 0, 0) L st σ Q) := ab_r_icmp_ge rfl kc_X11_isPiece dX11_isPiece_12
theorem rX11_isPiece_15 : ab_Run X 131 15 (0, 0, 0) L st σ Q ↔ ab_Run X 131 16 (0, 0, 0) L (ab_I 1 :: st) σ Q := ab_r_iconst (by decide) kc_X11_isPiece dX11_isPiece_15
theorem rX11_isPiece_16 : ab_Run X 131 16 (0, 0, 0) L st σ Q ↔ ab_Run X 131 20 (0, 0, 0) L st σ Q := ab_r_goto rfl kc_X11_isPiece dX11_isPiece_16
theorem rX11_isPiece_19 : ab_Run X 131 19 (0, 0, 0) L st σ Q ↔ ab_Run X 131 20 (0, 0, 0) L (ab_I 0 :: st) σ Q := ab_r_iconst (by decide) kc_X11_isPiece dX11_isPiece_19
theorem rX11_isPiece_20 : ab_Run X 131 20 (0, 0, 0) L [ab_I v] σ Q ↔ (v = 0 ∨ v = 1) ∧ Q (some (ab_I v)) σ := ab_r_ireturnZ rfl kc_X11_isPiece dX11_isPiece_20
theorem kc_X11_isSeed : ab_code 132 = cX11_isSeed := rfl
theorem ko_X11_isSeed : ab_ow 132 = 11 := rfl
theorem rX11_isSeed_0 : ab_Run X 132 0 (0, 0, 0) [ab_I z] st σ Q ↔ ab_Run X 132 1 (0, 0, 0) [ab_I z] (ab_I z :: st) σ Q := ab_r_iload_n rfl kc_X11_isSeed dX11_isSeed_0
theorem rX11_isSeed_1 : ab_Run X 132 1 (0, 0, 0) L (ab_I a :: st) σ Q ↔ (a < 0 → ab_Run X 132 15 (0, 0, 0) L st σ Q) ∧ (¬ (a < 0) → ab_Run X 132 4 (0, 0, 0) L st σ Q) := ab_r_if_lt rfl kc_X11_isSeed dX11_isSeed_1
theorem rX11_isSeed_4 : ab_Run X 132 4 (0, 0, 0) [ab_I z] st σ Q ↔ ab_Run X 132 5 (0, 0, 0) [ab_I z] (ab_I z :: st) σ Q := ab_r_iload_n rfl kc_X11_isSeed dX11_isSeed_4
theorem rX11_isSeed_5 : ab_Run X 132 5 (0, 0, 0) L st σ Q ↔ ab_Run X 132 8 (0, 0, 0) L (ab_I 65536 :: st) σ Q := ab_r_ldc_w rfl ko_X11_isSeed (by decide +kernel) kc_X11_isSeed dX11_isSeed_5
theorem rX11_isSeed_8 : ab_Run X 132 8 (0, 0, 0) L (ab_I b :: ab_I a :: st) σ Q ↔ (b < a → ab_Run X 132 15 (0, 0, 0) L st σ Q) ∧ (¬ (b < a) → ab_Run X 132 11 (0, 0, 0) L st σ Q) := ab_r_icmp_gt rfl kc_X11_isSeed dX11_isSeed_8
theorem rX11_isSeed_11 : ab_Run X 132 11 (0, 0, 0) L st σ Q ↔ ab_Run X 132 12 (0, 0, 0) L (ab_I 1 :: st) σ Q := ab_r_iconst (by decide) kc_X11_isSeed dX11_isSeed_11
theorem rX11_isSeed_12 : ab_Run X 132 12 (0, 0, 0) L st σ Q ↔ ab_Run X 132 16 (0, 0, 0) L st σ Q := ab_r_goto rfl kc_X11_isSeed dX11_isSeed_12
theorem rX11_isSeed_15 : ab_Run X 132 15 (0, 0, 0) L st σ Q ↔ ab_Run X 132 16 (0, 0, 0) L (ab_I 0 :: st) σ Q := ab_r_iconst (by decide) kc_X11_isSeed dX11_isSeed_15
theorem rX11_isSeed_16 : ab_Run X 132 16 (0, 0, 0) L [ab_I v] σ Q ↔ (v = 0 ∨ v = 1) ∧ Q (some (ab_I v)) σ := ab_r_ireturnZ rfl kc_X11_isSeed dX11_isSeed_16
theorem kc_X11_pairTrouble : ab_code 133 = cX11_pairTrouble := rfl
theorem ko_X11_pairTrouble : ab_ow 133 = 11 := rfl
theorem rX11_pairTrouble_0 : ab_Run X 133 0 (2, 0, 0) [ab_R z, l1, l2, l3] st σ Q ↔ z ≠ 0 ∧ ab_Run X 133 1 (2, 0, 0) [ab_R z, l1, l2, l3] (ab_R z :: st) σ Q := ab_r_aload_n rfl kc_X11_pairTrouble dX11_pairTrouble_0
theorem rX11_pairTrouble_1 : ab_Run X 133 1 (2, 0, 0) [l0, ab_I z, l2, l3] st σ Q ↔ ab_Run X 133 2 (2, 0, 0) [l0, ab_I z, l2, l3] (ab_I z :: st) σ Q := ab_r_iload_n rfl kc_X11_pairTrouble dX11_pairTrouble_1
theorem rX11_pairTrouble_2 : ab_Run X 133 2 (2, 0, 0) L (ab_I x1 :: ab_R a :: st) σ Q ↔ ((ab_sh σ a).1 = 12 ∧ ab_cats st ≤ 8) ∧ ab_Do X 126 [ab_R a, ab_I x1] σ (fun r σ' => ab_Run X 133 5 (2, 0, 0) L (ab_psh r st) σ' Q) := ab_r_callV (w := [ab_I x1]) (as := [ab_I x1]) (b1 := (0, 0, 0)) 0 (Or.inl rfl) (by decide) ko_X11_pairTrouble qM_11_109 (by decide) rfl rfl rfl rfl rfl (by decide) (Nat.le_of_ble_eq_true rfl) kc_X11_pairTrouble dX11_pairTrouble_2
theorem rX11_pairTrouble_5 : ab_Run X 133 5 (2, 0, 0) L (ab_I a :: st) σ Q ↔ (a = 0 → ab_Run X 133 21 (2, 0, 0) L st σ Q) ∧ (¬ (a = 0) → ab_Run X 133 8 (2, 0, 0) L st σ Q) := ab_r_if_eq rfl kc_X11_pairTrouble dX11_pairTrouble_5
theorem rX11_pairTrouble_8 : ab_Run X 133 8 (2, 0, 0) [ab_R z, l1, l2, l3] st σ Q ↔ z ≠ 0 ∧ ab_Run X 133 9 (2, 0, 0) [ab_R z, l1, l2, l3] (ab_R z :: st) σ Q := ab_r_aload_n rfl kc_X11_pairTrouble dX11_pairTrouble_8
theorem rX11_pairTrouble_9 : ab_Run X 133 9 (2, 0, 0) [l0, l1, ab_I z, l3] st σ Q ↔ ab_Run X 133 10 (2, 0, 0) [l0, l1, ab_I z, l3] (ab_I z :: st) σ Q := ab_r_iload_n rfl kc_X11_pairTrouble dX11_pairTrouble_9
theorem rX11_pairTrouble_10 : ab_Run X 133 10 (2, 0, 0) [l0, l1, l2, ab_I z] st σ Q ↔ ab_Run X 133 11 (2, 0, 0) [l0, l1, l2, ab_I z] (ab_I z :: st) σ Q := ab_r_iload_n rfl kc_X11_pairTrouble dX11_pairTrouble_10
theorem rX11_pairTrouble_11 : ab_Run X 133 11 (2, 0, 0) L (ab_I x2 :: ab_I x1 :: ab_R a :: st) σ Q ↔ ((ab_sh σ a).1 = 12 ∧ ab_cats st ≤ 8) ∧ ab_Do X 128 [ab_R a, ab_I x1, ab_I x2] σ (fun r σ' => ab_Run X 133 14 (2, 0, 0) L (ab_psh r st) σ' Q) := ab_r_callV (w := [ab_I x2, ab_I x1]) (as := [ab_I x1, ab_I x2]) (b1 := (1, 0, 0)) 0 (Or.inl rfl) (by decide) ko_X11_pairTrouble qM_11_310 (by decide) rfl rfl rfl rfl rfl (by decide) (Nat.le_of_ble_eq_true rfl) kc_X11_pairTrouble dX11_pairTrouble_11
theorem rX11_pairTrouble_14 : ab_Run X 133 14 (2, 0, 0) L (ab_I a :: st) σ Q ↔ (a = 0 → ab_Run X 133 21 (2, 0, 0) L st σ Q) ∧ (¬ (a = 0) → ab_Run X 133 17 (2, 0, 0) L st σ Q) := ab_r_if_eq rfl kc_X11_pairTrouble dX11_pairTrouble_14
theorem rX11_pairTrouble_17 : ab_Run X 133 17 (2, 0, 0) L st σ Q ↔ ab_Run X 133 18 (2, 0, 0) L (ab_I 0 :: st) σ Q := ab_r_iconst (by decide) kc_X11_pairTrouble dX11_pairTrouble_17
theorem rX11_pairTrouble_18 : ab_Run X 133 18 (2, 0, 0) L st σ Q ↔ ab_Run X 133 22 (2, 0, 0) L st σ Q := ab_r_goto rfl kc_X11_pairTrouble dX11_pairTrouble_18
theorem rX11_pairTrouble_21 : ab_Run X 133 21 (2, 0, 0) L st σ Q ↔ ab_Run X 133 22 (2, 0, 0) L (ab_I 1 :: st) σ Q := ab_r_iconst (by decide) kc_X11_pairTrouble dX11_pairTrouble_21
theorem rX11_pairTrouble_22 : ab_Run X 133 22 (2, 0, 0) L [ab_I v] σ Q ↔ Q (some (ab_I v)) σ := ab_r_ireturnI rfl kc_X11_pairTrouble dX11_pairTrouble_22
theorem kc_X11_pullTrouble : ab_code 134 = cX11_pullTrouble := rfl
theorem ko_X11_pullTrouble : ab_ow 134 = 11 := rfl
theorem rX11_pullTrouble_0 : ab_Run X 134 0 (3, 0, 0) [ab_R z, l1, l2, l3, l4, l5, l6, l7] st σ Q ↔ z ≠ 0 ∧ ab_Run X 134 1 (3, 0, 0) [ab_R z, l1, l2, l3, l4, l5, l6, l7] (ab_R z :: st) σ Q := ab_r_aload_n rfl kc_X11_pullTrouble dX11_pullTrouble_0
theorem rX11_pullTrouble_1 : ab_Run X 134 1 (3, 0, 0) [l0, ab_I z, l2, l3, l4, l5, l6, l7] st σ Q ↔ ab_Run X 134 2 (3, 0, 0) [l0, ab_I z, l2, l3, l4, l5, l6, l7] (ab_I z :: st) σ Q := ab_r_iload_n rfl kc_X11_pullTrouble dX11_pullTrouble_1
theorem rX11_pullTrouble_2 : ab_Run X 134 2 (3, 0, 0) [l0, l1, ab_I z, l3, l4, l5, l6, l7] st σ Q ↔ ab_Run X 134 3 (3, 0, 0) [l0, l1, ab_I z, l3, l4, l5, l6, l7] (ab_I z :: st) σ Q := ab_r_iload_n rfl kc_X11_pullTrouble dX11_pullTrouble_2
theorem rX11_pullTrouble_3 : ab_Run X 134 3 (3, 0, 0) [l0, l1, l2, l3, ab_I z, l5, l6, l7] st σ Q ↔ ab_Run X 134 5 (3, 0, 0) [l0, l1, l2, l3, ab_I z, l5, l6, l7] (ab_I z :: st) σ Q := ab_r_iload rfl kc_X11_pullTrouble dX11_pullTrouble_3
theorem rX11_pullTrouble_5 : ab_Run X 134 5 (3, 0, 0) L (ab_I x3 :: ab_I x2 :: ab_I x1 :: ab_R a :: st) σ Q ↔ ((ab_sh σ a).1 = 12 ∧ ab_cats st ≤ 8) ∧ ab_Do X 133 [ab_R a, ab_I x1, ab_I x2, ab_I x3] σ (fun r σ' => ab_Run X 134 8 (3, 0, 0) L (ab_psh r st) σ' Q) := ab_r_callV (w := [ab_I x3, ab_I x2, ab_I x1]) (as := [ab_I x1, ab_I x2, ab_I x3]) (b1 := (2, 0, 0)) 0 (Or.inl rfl) (by decide) ko_X11_pullTrouble qM_11_222 (by decide) rfl rfl rfl rfl rfl (by decide) (Nat.le_of_ble_eq_true rfl) kc_X11_pullTrouble dX11_pullTrouble_5
theorem rX11_pullTrouble_8 : ab_Run X 134 8 (3, 0, 0) L (ab_I a :: st) σ Q ↔ (a = 0 → ab_Run X 134 13 (3, 0, 0) L st σ Q) ∧ (¬ (a = 0) → ab_Run X 134 11 (3, 0, 0) L st σ Q) := ab_r_if_eq rfl kc_X11_pullTrouble dX11_pullTrouble_8
theorem rX11_pullTrouble_11 : ab_Run X 134 11 (3, 0, 0) L st σ Q ↔ ab_Run X 134 12 (3, 0, 0) L (ab_I 1 :: st) σ Q := ab_r_iconst (by decide) kc_X11_pullTrouble dX11_pullTrouble_11
theorem rX11_pullTrouble_12 : ab_Run X 134 12 (3, 0, 0) L [ab_I v] σ Q ↔ Q (some (ab_I v)) σ := ab_r_ireturnI rfl kc_X11_pullTrouble dX11_pullTrouble_12
theorem rX11_pullTrouble_13 : ab_Run X 134 13 (3, 0, 0) [ab_R z, l1, l2, l3, l4, l5, l6, l7] st σ Q ↔ z ≠ 0 ∧ ab_Run X 134 14 (3, 0, 0) [ab_R z, l1, l2, l3, l4, l5, l6, l7] (ab_R z :: st) σ Q := ab_r_aload_n rfl kc_X11_pullTrouble dX11_pullTrouble_13
theorem rX11_pullTrouble_14 : ab_Run X 134 14 (3, 0, 0) [l0, ab_I z, l2, l3, l4, l5, l6, l7] st σ Q ↔ ab_Run X 134 15 (3, 0, 0) [l0, ab_I z, l2, l3, l4, l5, l6, l7] (ab_I z :: st) σ Q := ab_r_iload_n rfl kc_X11_pullTrouble dX11_pullTrouble_14
theorem rX11_pullTrouble_15 : ab_Run X 134 15 (3, 0, 0) L st σ Q ↔ ab_Run X 134 16 (3, 0, 0) L (ab_I 0 :: st) σ Q := ab_r_iconst (by decide) kc_X11_pullTrouble dX11_pullTrouble_15
theorem rX11_pullTrouble_16 : ab_Run X 134 16 (3, 0, 0) [l0, l1, l2, ab_I z, l4, l5, l6, l7] st σ Q ↔ ab_Run X 134 17 (3, 0, 0) [l0, l1, l2, ab_I z, l4, l5, l6, l7] (ab_I z :: st) σ Q := ab_r_iload_n rfl kc_X11_pullTrouble dX11_pullTrouble_16
theorem rX11_pullTrouble_17 : ab_Run X 134 17 (3, 0, 0) L (ab_I x3 :: ab_I x2 :: ab_I x1 :: ab_R a :: st) σ Q ↔ ((ab_sh σ a).1 = 12 ∧ ab_cats st ≤ 8) ∧ ab_Do X 130 [ab_R a, ab_I x1, ab_I x2, ab_I x3] σ (fun r σ' => ab_Run X 134 20 (3, 0, 0) L (ab_psh r st) σ' Q) := ab_r_callV (w := [ab_I x3, ab_I x2, ab_I x1]) (as := [ab_I x1, ab_I x2, ab_I x3]) (b1 := (0, 0, 0)) 0 (Or.inl rfl) (by decide) ko_X11_pullTrouble qM_11_226 (by decide) rfl rfl rfl rfl rfl (by decide) (Nat.le_of_ble_eq_true rfl) kc_X11_pullTrouble dX11_pullTrouble_17
theorem rX11_pullTrouble_20 : ab_Run X 134 20 (3, 0, 0) L (ab_I a :: st) σ Q ↔ (a = 0 → ab_Run X 134 49 (3, 0, 0) L st σ Q) ∧ (¬ (a = 0) → ab_Run X 134 23 (3, 0, 0) L st σ Q) := ab_r_if_eq rfl kc_X11_pullTrouble dX11_pullTrouble_20
theorem rX11_pullTrouble_23 : ab_Run X 134 23 (3, 0, 0) [ab_R z, l1, l2, l3, l4, l5, l6, l7] st σ Q ↔ z ≠ 0 ∧ ab_Run X 134 24 (3, 0, 0) [ab_R z, l1, l2, l3, l4, l5, l6, l7] (ab_R z :: st) σ Q := ab_r_aload_n rfl kc_X11_pullTrouble dX11_pullTrouble_23
theorem rX11_pullTrouble_24 : ab_Run X 134 24 (3, 0, 0) [l0, ab_I z, l2, l3, l4, l5, l6, l7] st σ Q ↔ ab_Run X 134 25 (3, 0, 0) [l0, ab_I z, l2, l3, l4, l5, l6, l7] (ab_I z :: st) σ Q := ab_r_iload_n rfl kc_X11_pullTrouble dX11_pullTrouble_24
theorem rX11_pullTrouble_25 : ab_Run X 134 25 (3, 0, 0) L st σ Q ↔ ab_Run X 134 26 (3, 0, 0) L (ab_I 1 :: st) σ Q := ab_r_iconst (by decide) kc_X11_pullTrouble dX11_pullTrouble_25
theorem rX11_pullTrouble_26 : ab_Run X 134 26 (3, 0, 0) [l0, l1, l2, l3, l4, ab_I z, l6, l7] st σ Q ↔ ab_Run X 134 28 (3, 0, 0) [l0, l1, l2, l3, l4, ab_I z, l6, l7] (ab_I z :: st) σ Q := ab_r_iload rfl kc_X11_pullTrouble dX11_pullTrouble_26
theorem rX11_pullTrouble_28 : ab_Run X 134 28 (3, 0, 0) L (ab_I x3 :: ab_I x2 :: ab_I x1 :: ab_R a :: st) σ Q ↔ ((ab_sh σ a).1 = 12 ∧ ab_cats st ≤ 8) ∧ ab_Do X 130 [ab_R a, ab_I x1, ab_I x2, ab_I x3] σ (fun r σ' => ab_Run X 134 31 (3, 0, 0) L (ab_psh r st) σ' Q) := ab_r_callV (w := [ab_I x3, ab_I x2, ab_I x1]) (as := [ab_I x1, ab_I x2, ab_I x3]) (b1 := (0, 0, 0)) 0 (Or.inl rfl) (by decide) ko_X11_pullTrouble qM_11_226 (by decide) rfl rfl rfl rfl rfl (by decide) (Nat.le_of_ble_eq_true rfl) kc_X11_pullTrouble dX11_pullTrouble_28
theorem rX11_pullTrouble_31 : ab_Run X 134 31 (3, 0, 0) L (ab_I a :: st) σ Q ↔ (a = 0 → ab_Run X 134 49 (3, 0, 0) L st σ Q) ∧ (¬ (a = 0) → ab_Run X 134 34 (3, 0, 0) L st σ Q) := ab_r_if_eq rfl kc_X11_pullTrouble dX11_pullTrouble_31
theorem rX11_pullTrouble_34 : ab_Run X 134 34 (3, 0, 0) [l0, l1, l2, l3, l4, l5, ab_I z, l7] st σ Q ↔ ab_Run X 134 36 (3, 0, 0) [l0, l1, l2, l3, l4, l5, ab_I z, l7] (ab_I z :: st) σ Q := ab_r_iload rfl kc_X11_pullTrouble dX11_pullTrouble_34
theorem rX11_pullTrouble_36 : ab_Run X 134 36 (3, 0, 0) L (ab_I a :: st) σ Q ↔ (a < 0 → ab_Run X 134 49 (3, 0, 0) L st σ Q) ∧ (¬ (a < 0) → ab_Run X 134 39 (3, 0, 0) L st σ Q) := ab_r_if_lt rfl kc_X11_pullTrouble dX11_pullTrouble_36
theorem rX11_pullTrouble_39 : ab_Run X 134 39 (3, 0, 0) [l0, l1, l2, l3, l4, l5, ab_I z, l7] st σ Q ↔ ab_Run X 134 41 (3, 0, 0) [l0, l1, l2, l3, l4, l5, ab_I z, l7] (ab_I z :: st) σ Q := ab_r_iload rfl kc_X11_pullTrouble dX11_pullTrouble_39
theorem rX11_pullTrouble_41 : ab_Run X 134 41 (3, 0, 0) L st σ Q ↔ ab_Run X 134 42 (3, 0, 0) L (ab_I 3 :: st) σ Q := ab_r_iconst (by decide) kc_X11_pullTrouble dX11_pullTrouble_41
theorem rX11_pullTrouble_42 : ab_Run X 134 42 (3, 0, 0) L (ab_I b :: ab_I a :: st) σ Q ↔ (b < a → ab_Run X 134 49 (3, 0, 0) L st σ Q) ∧ (¬ (b < a) → ab_Run X 134 45 (3, 0, 0) L st σ Q) := ab_r_icmp_gt rfl kc_X11_pullTrouble dX11_pullTrouble_42
theorem rX11_pullTrouble_45 : ab_Run X 134 45 (3, 0, 0) L st σ Q ↔ ab_Run X 134 46 (3, 0, 0) L (ab_I 1 :: st) σ Q := ab_r_iconst (by decide) kc_X11_pullTrouble dX11_pullTrouble_45
theorem rX11_pullTrouble_46 : ab_Run X 134 46 (3, 0, 0) L st σ Q ↔ ab_Run X 134 50 (3, 0, 0) L st σ Q := ab_r_goto rfl kc_X11_pullTrouble dX11_pullTrouble_46
theorem rX11_pullTrouble_49 : ab_Run X 134 49 (3, 0, 0) L st σ Q ↔ ab_Run X 134 50 (3, 0, 0) L (ab_I 0 :: st) σ Q := ab_r_iconst (by decide) kc_X11_pullTrouble dX11_pullTrouble_49
theorem rX11_pullTrouble_50 : ab_Run X 134 50 (3, 0, 0) [l0, l1, l2, l3, l4, l5, l6, l7] (ab_I z :: st) σ Q ↔ (!ab_isJ l6) = true ∧ ab_Run X 134 52 (3, 0, 0) [l0, l1, l2, l3, l4, l5, l6, ab_I z] st σ Q := ab_r_istore (Nat.le_of_ble_eq_true rfl) kc_X11_pullTrouble dX11_pullTrouble_50
theorem rX11_pullTrouble_52 : ab_Run X 134 52 (3, 0, 0) [l0, l1, l2, l3, l4, l5, l6, ab_I z] st σ Q ↔ ab_Run X 134 54 (3, 0, 0) [l0, l1, l2, l3, l4, l5, l6, ab_I z] (ab_I z :: st) σ Q := ab_r_iload rfl kc_X11_pullTrouble dX11_pullTrouble_52
theorem rX11_pullTrouble_54 : ab_Run X 134 54 (3, 0, 0) L (ab_I a :: st) σ Q ↔ (a = 0 → ab_Run X 134 61 (3, 0, 0) L st σ Q) ∧ (¬ (a = 0) → ab_Run X 134 57 (3, 0, 0) L st σ Q) := ab_r_if_eq rfl kc_X11_pullTrouble dX11_pullTrouble_54
theorem rX11_pullTrouble_57 : ab_Run X 134 57 (3, 0, 0) L st σ Q ↔ ab_Run X 134 58 (3, 0, 0) L (ab_I 0 :: st) σ Q := ab_r_iconst (by decide) kc_X11_pullTrouble dX11_pullTrouble_57
theorem rX11_pullTrouble_58 : ab_Run X 134 58 (3, 0, 0) L st σ Q ↔ ab_Run X 134 62 (3, 0, 0) L st σ Q := ab_r_goto rfl kc_X11_pullTrouble dX11_pullTrouble_58
theorem rX11_pullTrouble_61 : ab_Run X 134 61 (3, 0, 0) L st σ Q ↔ ab_Run X 134 62 (3, 0, 0) L (ab_I 2 :: st) σ Q := ab_r_iconst (by decide) kc_X11_pullTrouble dX11_pullTrouble_61
theorem rX11_pullTrouble_62 : ab_Run X 134 62 (3, 0, 0) L [ab_I v] σ Q ↔ Q (some (ab_I v)) σ := ab_r_ireturnI rfl kc_X11_pullTrouble dX11_pullTrouble_62
theorem kc_X11_weeksTrouble : ab_code 135 = cX11_weeksTrouble := rfl
theorem ko_X11_weeksTrouble : ab_ow 135 = 11 := rfl
theorem rX11_weeksTrouble_0 : ab_Run X 135 0 (1, 0, 0) [ab_R z, l1] st σ Q ↔ z ≠ 0 ∧ ab_Run X 135 1 (1, 0, 0) [ab_R z, l1] (ab_R z :: st) σ Q := ab_r_aload_n rfl kc_X11_weeksTrouble dX11_weeksTrouble_0
theorem rX11_weeksTrouble_1 : ab_Run X 135 1 (1, 0, 0) L (ab_R a :: st) σ Q ↔ ((ab_sh σ a).1 = 12 ∧ ab_cats st ≤ 8) ∧ ab_Do X 125 [ab_R a] σ (fun r σ' => ab_Run X 135 4 (1, 0, 0) L (ab_psh r st) σ' Q) := ab_r_callV (w := []) (as := []) (b1 := (0, 0, 0)) 0 (Or.inl rfl) (by decide) ko_X11_weeksTrouble qM_11_284 (by decide) rfl rfl rfl rfl rfl (by decide) (Nat.le_of_ble_eq_true rfl) kc_X11_weeksTrouble dX11_weeksTrouble_1
theorem rX11_weeksTrouble_4 : ab_Run X 135 4 (1, 0, 0) L (ab_I a :: st) σ Q ↔ (¬ a = 0 → ab_Run X 135 9 (1, 0, 0) L st σ Q) ∧ (¬ (¬ a = 0) → ab_Run X 135 7 (1, 0, 0) L st σ Q) := ab_r_if_ne rfl kc_X11_weeksTrouble dX11_weeksTrouble_4
theorem rX11_weeksTrouble_7 : ab_Run X 135 7 (1, 0, 0) L st σ Q ↔ ab_Run X 135 8 (1, 0, 0) L (ab_I 1 :: st) σ Q := ab_r_iconst (by decide) kc_X11_weeksTrouble dX11_weeksTrouble_7
theorem rX11_weeksTrouble_8 : ab_Run X 135 8 (1, 0, 0) L [ab_I v] σ Q ↔ Q (some (ab_I v)) σ := ab_r_ireturnI rfl kc_X11_weeksTrouble dX11_weeksTrouble_8
theorem rX11_weeksTrouble_9 : ab_Run X 135 9 (1, 0, 0) [l0, ab_I z] st σ Q ↔ ab_Run X 135 10 (1, 0, 0) [l0, ab_I z] (ab_I z :: st) σ Q := ab_r_iload_n rfl kc_X11_weeksTrouble dX11_weeksTrouble_9
theorem rX11_weeksTrouble_10 : ab_Run X 135 10 (1, 0, 0) L st σ Q ↔ ab_Run X 135 11 (1, 0, 0) L (ab_I 1 :: st) σ Q := ab_r_iconst (by decide) kc_X11_weeksTrouble dX11_weeksTrouble_10
theorem rX11_weeksTrouble_11 : ab_Run X 135 11 (1, 0, 0) L (ab_I b :: ab_I a :: st) σ Q ↔ (a < b → ab_Run X 135 24 (1, 0, 0) L st σ Q) ∧ (¬ (a < b) → ab_Run X 135 14 (1, 0, 0) L st σ Q) := ab_r_icmp_lt rfl kc_X11_weeksTrouble dX11_weeksTrouble_11
theorem rX11_weeksTrouble_14 : ab_Run X 135 14 (1, 0, 0) [l0, ab_I z] st σ Q ↔ ab_Run X 135 15 (1, 0, 0) [l0, ab_I z] (ab_I z :: st) σ Q := ab_r_iload_n rfl kc_X11_weeksTrouble dX11_weeksTrouble_14
theorem rX11_weeksTrouble_15 : ab_Run X 135 15 (1, 0, 0) L st σ Q ↔ ab_Run X 135 17 (1, 0, 0) L (ab_I 9 :: st) σ Q := ab_r_bipush (by decide) kc_X11_weeksTrouble dX11_weeksTrouble_15
theorem rX11_weeksTrouble_17 : ab_Run X 135 17 (1, 0, 0) L (ab_I b :: ab_I a :: st) σ Q ↔ (b < a → ab_Run X 135 24 (1, 0, 0) L st σ Q) ∧ (¬ (b < a) → ab_Run X 135 20 (1, 0, 0) L st σ Q) := ab_r_icmp_gt rfl kc_X11_weeksTrouble dX11_weeksTrouble_17
theorem rX11_weeksTrouble_20 : ab_Run X 135 20 (1, 0, 0) L st σ Q ↔ ab_Run X 135 21 (1, 0, 0) L (ab_I 0 :: st) σ Q := ab_r_iconst (by decide) kc_X11_weeksTrouble dX11_weeksTrouble_20
theorem rX11_weeksTrouble_21 : ab_Run X 135 21 (1, 0, 0) L st σ Q ↔ ab_Run X 135 25 (1, 0, 0) L st σ Q := ab_r_goto rfl kc_X11_weeksTrouble dX11_weeksTrouble_21
theorem rX11_weeksTrouble_24 : ab_Run X 135 24 (1, 0, 0) L st σ Q ↔ ab_Run X 135 25 (1, 0, 0) L (ab_I 2 :: st) σ Q := ab_r_iconst (by decide) kc_X11_weeksTrouble dX11_weeksTrouble_24
theorem rX11_weeksTrouble_25 : ab_Run X 135 25 (1, 0, 0) L [ab_I v] σ Q ↔ Q (some (ab_I v)) σ := ab_r_ireturnI rfl kc_X11_weeksTrouble dX11_weeksTrouble_25
theorem kc_X11_yearTrouble : ab_code 136 = cX11_yearTrouble := rfl
theorem ko_X11_yearTrouble : ab_ow 136 = 11 := rfl
theorem rX11_yearTrouble_0 : ab_Run X 136 0 (1, 0, 0) [ab_I z, l1] st σ Q ↔ ab_Run X 136 1 (1, 0, 0) [ab_I z, l1] (ab_I z :: st) σ Q := ab_r_iload_n rfl kc_X11_yearTrouble dX11_yearTrouble_0
theorem rX11_yearTrouble_1 : ab_Run X 136 1 (1, 0, 0) L (ab_I x1 :: st) σ Q ↔ ab_cats st ≤ 8 ∧ ab_Do X 132 [ab_I x1] σ (fun r σ' => ab_Run X 136 4 (1, 0, 0) L (ab_psh r st) σ' Q) := ab_r_callS (w := [ab_I x1]) (as := [ab_I x1]) (b1 := (0, 0, 0)) (by decide) ko_X11_yearTrouble qM_11_350 (by decide) rfl rfl rfl rfl (by decide) (Nat.le_of_ble_eq_true rfl) kc_X11_yearTrouble dX11_yearTrouble_1
theorem rX11_yearTrouble_4 : ab_Run X 136 4 (1, 0, 0) L (ab_I a :: st) σ Q ↔ (a = 0 → ab_Run X 136 22 (1, 0, 0) L st σ Q) ∧ (¬ (a = 0) → ab_Run X 136 7 (1, 0, 0) L st σ Q) := ab_r_if_eq rfl kc_X11_yearTrouble dX11_yearTrouble_4
theorem rX11_yearTrouble_7 : ab_Run X 136 7 (1, 0, 0) [l0, ab_I z] st σ Q ↔ ab_Run X 136 8 (1, 0, 0) [l0, ab_I z] (ab_I z :: st) σ Q := ab_r_iload_n rfl kc_X11_yearTrouble dX11_yearTrouble_7
theorem rX11_yearTrouble_8 : ab_Run X 136 8 (1, 0, 0) L (ab_I a :: st) σ Q ↔ (a < 0 → ab_Run X 136 22 (1, 0, 0) L st σ Q) ∧ (¬ (a < 0) → ab_Run X 136 11 (1, 0, 0) L st σ Q) := ab_r_if_lt rfl kc_X11_yearTrouble dX11_yearTrouble_8
theorem rX11_yearTrouble_11 : ab_Run X 136 11 (1, 0, 0) [l0, ab_I z] st σ Q ↔ ab_Run X 136 12 (1, 0, 0) [l0, ab_I z] (ab_I z :: st) σ Q := ab_r_iload_n rfl kc_X11_yearTrouble dX11_yearTrouble_11
theorem rX11_yearTrouble_12 : ab_Run X 136 12 (1, 0, 0) L st σ Q ↔ ab_Run X 136 15 (1, 0, 0) L (ab_I 200 :: st) σ Q := ab_r_sipush (by decide) kc_X11_yearTrouble dX11_yearTrouble_12
theorem rX11_yearTrouble_15 : ab_Run X 136 15 (1, 0, 0) L (ab_I b :: ab_I a :: st) σ Q ↔ (b < a → ab_Run X 136 22 (1, 0, 0) L st σ Q) ∧ (¬ (b < a) → ab_Run X 136 18 (1, 0, 0) L st σ Q) := ab_r_icmp_gt rfl kc_X11_yearTrouble dX11_yearTrouble_15
theorem rX11_yearTrouble_18 : ab_Run X 136 18 (1, 0, 0) L st σ Q ↔ ab_Run X 136 19 (1, 0, 0) L (ab_I 0 :: st) σ Q := ab_r_iconst (by decide) kc_X11_yearTrouble dX11_yearTrouble_18
theorem rX11_yearTrouble_19 : ab_Run X 136 19 (1, 0, 0) L st σ Q ↔ ab_Run X 136 23 (1, 0, 0) L st σ Q := ab_r_goto rfl kc_X11_yearTrouble dX11_yearTrouble_19
theorem rX11_yearTrouble_22 : ab_Run X 136 22 (1, 0, 0) L st σ Q ↔ ab_Run X 136 23 (1, 0, 0) L (ab_I 2 :: st) σ Q := ab_r_iconst (by decide) kc_X11_yearTrouble dX11_yearTrouble_22
theorem rX11_yearTrouble_23 : ab_Run X 136 23 (1, 0, 0) L [ab_I v] σ Q ↔ Q (some (ab_I v)) σ := ab_r_ireturnI rfl kc_X11_yearTrouble dX11_yearTrouble_23
theorem kc_X11_takeNow : ab_code 137 = cX11_takeNow := rfl
theorem ko_X11_takeNow : ab_ow 137 = 11 := rfl
theorem rX11_takeNow_0 : ab_Run X 137 0 (1, 0, 0) [ab_R z, l1] st σ Q ↔ z ≠ 0 ∧ ab_Run X 137 1 (1, 0, 0) [ab_R z, l1] (ab_R z :: st) σ Q := ab_r_aload_n rfl kc_X11_takeNow dX11_takeNow_0
theorem rX11_takeNow_1 : ab_Run X 137 1 (1, 0, 0) L (ab_R a :: st) σ Q ↔ (ab_sh σ a).1 = 12 ∧ ab_Run X 137 4 (1, 0, 0) L (ab_R (ab_rd σ a 3) :: st) σ Q := gF_11_33 ko_X11_takeNow kc_X11_takeNow dX11_takeNow_1
theorem rX11_takeNow_4 : ab_Run X 137 4 (1, 0, 0) [ab_R z, l1] st σ Q ↔ z ≠ 0 ∧ ab_Run X 137 5 (1, 0, 0) [ab_R z, l1] (ab_R z :: st) σ Q := ab_r_aload_n rfl kc_X11_takeNow dX11_takeNow_4
theorem rX11_takeNow_5 : ab_Run X 137 5 (1, 0, 0) L (ab_R a :: st) σ Q ↔ (ab_sh σ a).1 = 12 ∧ ab_Run X 137 8 (1, 0, 0) L (ab_R (ab_rd σ a 7) :: st) σ Q := gF_11_58 ko_X11_takeNow kc_X11_takeNow dX11_takeNow_5
theorem rX11_takeNow_8 : ab_Run X 137 8 (1, 0, 0) [ab_R z, l1] st σ Q ↔ z ≠ 0 ∧ ab_Run X 137 9 (1, 0, 0) [ab_R z, l1] (ab_R z :: st) σ Q := ab_r_aload_n rfl kc_X11_takeNow dX11_takeNow_8
theorem rX11_takeNow_9 : ab_Run X 137 9 (1, 0, 0) L (ab_R a :: st) σ Q ↔ (ab_sh σ a).1 = 12 ∧ ab_Run X 137 12 (1, 0, 0) L (ab_R (ab_rd σ a 1) :: st) σ Q := gF_11_19 ko_X11_takeNow kc_X11_takeNow dX11_takeNow_9
theorem rX11_takeNow_12 : ab_Run X 137 12 (1, 0, 0) L (ab_R a :: st) σ Q ↔ (ab_sh σ a).1 = 9 ∧ ab_Run X 137 15 (1, 0, 0) L (ab_R (ab_rd σ a 0) :: st) σ Q := gF_11_112 ko_X11_takeNow kc_X11_takeNow dX11_takeNow_12
theorem rX11_takeNow_15 : ab_Run X 137 15 (1, 0, 0) [l0, ab_I z] st σ Q ↔ ab_Run X 137 16 (1, 0, 0) [l0, ab_I z] (ab_I z :: st) σ Q := ab_r_iload_n rfl kc_X11_takeNow dX11_takeNow_15
theorem rX11_takeNow_16 : ab_Run X 137 16 (1, 0, 0) L (ab_I i :: ab_R a :: st) σ Q ↔ ((ab_sh σ a).1 = 21 ∧ 0 ≤ i ∧ i < (ab_sh σ a).2) ∧ ab_Run X 137 17 (1, 0, 0) L (ab_I (ab_rd σ a i) :: st) σ Q := ab_r_iaload (by decide) kc_X11_takeNow dX11_takeNow_16
theorem rX11_takeNow_17 : ab_Run X 137 17 (1, 0, 0) [ab_R z, l1] st σ Q ↔ z ≠ 0 ∧ ab_Run X 137 18 (1, 0, 0) [ab_R z, l1] (ab_R z :: st) σ Q := ab_r_aload_n rfl kc_X11_takeNow dX11_takeNow_17
theorem rX11_takeNow_18 : ab_Run X 137 18 (1, 0, 0) L (ab_R a :: st) σ Q ↔ (ab_sh σ a).1 = 12 ∧ ab_Run X 137 21 (1, 0, 0) L (ab_R (ab_rd σ a 1) :: st) σ Q := gF_11_19 ko_X11_takeNow kc_X11_takeNow dX11_takeNow_18
theorem rX11_takeNow_21 : ab_Run X 137 21 (1, 0, 0) L (ab_R a :: st) σ Q ↔ (ab_sh σ a).1 = 9 ∧ ab_Run X 137 24 (1, 0, 0) L (ab_R (ab_rd σ a 1) :: st) σ Q := gF_11_115 ko_X11_takeNow kc_X11_takeNow dX11_takeNow_21
theorem rX11_takeNow_24 : ab_Run X 137 24 (1, 0, 0) [l0, ab_I z] st σ Q ↔ ab_Run X 137 25 (1, 0, 0) [l0, ab_I z] (ab_I z :: st) σ Q := ab_r_iload_n rfl kc_X11_takeNow dX11_takeNow_24
theorem rX11_takeNow_25 : ab_Run X 137 25 (1, 0, 0) L (ab_I i :: ab_R a :: st) σ Q ↔ ((ab_sh σ a).1 = 21 ∧ 0 ≤ i ∧ i < (ab_sh σ a).2) ∧ ab_Run X 137 26 (1, 0, 0) L (ab_I (ab_rd σ a i) :: st) σ Q := ab_r_iaload (by decide) kc_X11_takeNow dX11_takeNow_25
theorem rX11_takeNow_26 : ab_Run X 137 26 (1, 0, 0) L (ab_I x3 :: ab_I x2 :: ab_R x1 :: ab_R a :: st) σ Q ↔ ((ab_sh σ a).1 = 7 ∧ ab_cats st ≤ 8) ∧ ab_Do X 33 [ab_R a, ab_R x1, ab_I x2, ab_I x3] σ (fun r σ' => ab_Run X 137 29 (1, 0, 0) L (ab_psh r st) σ' Q) := ab_r_callV (w := [ab_I x3, ab_I x2, ab_R x1]) (as := [ab_R x1, ab_I x2, ab_I x3]) (b1 := (0, 0, 0)) 0 (Or.inl rfl) (by decide) ko_X11_takeNow qM_11_402 (by decide) rfl rfl rfl rfl rfl (by decide) (Nat.le_of_ble_eq_true rfl) kc_X11_takeNow dX11_takeNow_26
theorem rX11_takeNow_29 : ab_Run X 137 29 (1, 0, 0) L [] σ Q ↔ Q none σ := ab_r_return rfl kc_X11_takeNow dX11_takeNow_29
theorem kc_X11_lay : ab_code 138 = cX11_lay := rfl
theorem ko_X11_lay : ab_ow 138 = 11 := rfl
theorem rX11_lay_0 : ab_Run X 138 0 (3, 0, 0) [ab_R z, l1, l2, l3, l4, l5, l6] st σ Q ↔ z ≠ 0 ∧ ab_Run X 138 1 (3, 0, 0) [ab_R z, l1, l2, l3, l4, l5, l6] (ab_R z :: st) σ Q := ab_r_aload_n rfl kc_X11_lay dX11_lay_0
theorem rX11_lay_1 : ab_Run X 138 1 (3, 0, 0) [l0, ab_I z, l2, l3, l4, l5, l6] st σ Q ↔ ab_Run X 138 2 (3, 0, 0) [l0, ab_I z, l2, l3, l4, l5, l6] (ab_I z :: st) σ Q := ab_r_iload_n rfl kc_X11_lay dX11_lay_1
theorem rX11_lay_2 : ab_Run X 138 2 (3, 0, 0) L (ab_I x1 :: ab_R a :: st) σ Q ↔ ((ab_sh σ a).1 = 12 ∧ ab_cats st ≤ 8) ∧ ab_Do X 137 [ab_R a, ab_I x1] σ (fun r σ' => ab_Run X 138 5 (3, 0, 0) L (ab_psh r st) σ' Q) := ab_r_callV (w := [ab_I x1]) (as := [ab_I x1]) (b1 := (1, 0, 0)) 0 (Or.inl rfl) (by decide) ko_X11_lay qM_11_168 (by decide) rfl rfl rfl rfl rfl (by decide) (Nat.le_of_ble_eq_true rfl) kc_X11_lay dX11_lay_2
theorem rX11_lay_5 : ab_Run X 138 5 (3, 0, 0) [ab_R z, l1, l2, l3, l4, l5, l6] st σ Q ↔ z ≠ 0 ∧ ab_Run X 138 6 (3, 0, 0) [ab_R z, l1, l2, l3, l4, l5, l6] (ab_R z :: st) σ Q := ab_r_aload_n rfl kc_X11_lay dX11_lay_5
theorem rX11_lay_6 : ab_Run X 138 6 (3, 0, 0) [l0, ab_I z, l2, l3, l4, l5, l6] st σ Q ↔ ab_Run X 138 7 (3, 0, 0) [l0, ab_I z, l2, l3, l4, l5, l6] (ab_I z :: st) σ Q := ab_r_iload_n rfl kc_X11_lay dX11_lay_6
theorem rX11_lay_7 : ab_Run X 138 7 (3, 0, 0) [l0, l1, ab_I z, l3, l4, l5, l6] st σ Q ↔ ab_Run X 138 8 (3, 0, 0) [l0, l1, ab_I z, l3, l4, l5, l6] (ab_I z :: st) σ Q := ab_r_iload_n rfl kc_X11_lay dX11_lay_7
theorem rX11_lay_8 : ab_Run X 138 8 (3, 0, 0) [l0, l1, l2, ab_I z, l4, l5, l6] st σ Q ↔ ab_Run X 138 9 (3, 0, 0) [l0, l1, l2, ab_I z, l4, l5, l6] (ab_I z :: st) σ Q := ab_r_iload_n rfl kc_X11_lay dX11_lay_8
theorem rX11_lay_9 : ab_Run X 138 9 (3, 0, 0) [l0, l1, l2, l3, ab_I z, l5, l6] st σ Q ↔ ab_Run X 138 11 (3, 0, 0) [l0, l1, l2, l3, ab_I z, l5, l6] (ab_I z :: st) σ Q := ab_r_iload rfl kc_X11_lay dX11_lay_9
theorem rX11_lay_11 : ab_Run X 138 11 (3, 0, 0) [l0, l1, l2, l3, l4, ab_I z, l6] st σ Q ↔ ab_Run X 138 13 (3, 0, 0) [l0, l1, l2, l3, l4, ab_I z, l6] (ab_I z :: st) σ Q := ab_r_iload rfl kc_X11_lay dX11_lay_11
theorem rX11_lay_13 : ab_Run X 138 13 (3, 0, 0) [l0, l1, l2, l3, l4, l5, ab_I z] st σ Q ↔ ab_Run X 138 15 (3, 0, 0) [l0, l1, l2, l3, l4, l5, ab_I z] (ab_I z :: st) σ Q := ab_r_iload rfl kc_X11_lay dX11_lay_13
theorem rX11_lay_15 : ab_Run X 138 15 (3, 0, 0) L (ab_I x6 :: ab_I x5 :: ab_I x4 :: ab_I x3 :: ab_I x2 :: ab_I x1 :: ab_R a :: st) σ Q ↔ ((ab_sh σ a).1 = 12 ∧ ab_cats st ≤ 8) ∧ ab_Do X 139 [ab_R a, ab_I x1, ab_I x2, ab_I x3, ab_I x4, ab_I x5, ab_I x6] σ (fun r σ' => ab_Run X 138 18 (3, 0, 0) L (ab_psh r st) σ' Q) := ab_r_callV (w := [ab_I x6, ab_I x5, ab_I x4, ab_I x3, ab_I x2, ab_I x1]) (as := [ab_I x1, ab_I x2, ab_I x3, ab_I x4, ab_I x5, ab_I x6]) (b1 := (2, 0, 0)) 0 (Or.inl rfl) (by decide) ko_X11_lay qM_11_406 (by decide) rfl rfl rfl rfl rfl (by decide) (Nat.le_of_ble_eq_true rfl) kc_X11_lay dX11_lay_15
theorem rX11_lay_18 : ab_Run X 138 18 (3, 0, 0) L [] σ Q ↔ Q none σ := ab_r_return rfl kc_X11_lay dX11_lay_18
theorem kc_X11_grips : ab_code 139 = cX11_grips := rfl
theorem ko_X11_grips : ab_ow 139 = 11 := rfl
theorem rX11_grips_0 : ab_Run X 139 0 (2, 0, 0) [ab_R z, l1, l2, l3, l4, l5, l6, l7, l8, l9] st σ Q ↔ z ≠ 0 ∧ ab_Run X 139 1 (2, 0, 0) [ab_R z, l1, l2, l3, l4, l5, l6, l7, l8, l9] (ab_R z :: st) σ Q := ab_r_aload_n rfl kc_X11_grips dX11_grips_0
theorem rX11_grips_1 : ab_Run X 139 1 (2, 0, 0) L (ab_R a :: st) σ Q ↔ (ab_sh σ a).1 = 12 ∧ ab_Run X 139 4 (2, 0, 0) L (ab_R (ab_rd σ a 7) :: st) σ Q := gF_11_58 ko_X11_grips kc_X11_grips dX11_grips_1
theorem rX11_grips_4 : ab_Run X 139 4 (2, 0, 0) L (ab_R a :: st) σ Q ↔ (ab_sh σ a).1 = 5 ∧ ab_Run X 139 7 (2, 0, 0) L (ab_R (ab_rd σ a 6) :: st) σ Q := gF_11_118 ko_X11_grips kc_X11_grips dX11_grips_4
theorem rX11_grips_7 : ab_Run X 139 7 (2, 0, 0) [l0, ab_I z, l2, l3, l4, l5, l6, l7, l8, l9] st σ Q ↔ ab_Run X 139 8 (2, 0, 0) [l0, ab_I z, l2, l3, l4, l5, l6, l7, l8, l9] (ab_I z :: st) σ Q := ab_r_iload_n rfl kc_X11_grips dX11_grips_7
theorem rX11_grips_8 : ab_Run X 139 8 (2, 0, 0) L (ab_I i :: ab_R a :: st) σ Q ↔ ((25 ≤ (ab_sh σ a).1 ∧ (ab_sh σ a).1 < 30) ∧ 0 ≤ i ∧ i < (ab_sh σ a).2) ∧ ab_Run X 139 9 (2, 0, 0) L (ab_R (ab_rd σ a i) :: st) σ Q := ab_r_aaload kc_X11_grips dX11_grips_8
theorem rX11_grips_9 : ab_Run X 139 9 (2, 0, 0) [l0, l1, l2, l3, l4, l5, l6, l7, l8, l9] (ab_R z :: st) σ Q ↔ (!ab_isJ l6) = true ∧ ab_Run X 139 11 (2, 0, 0) [l0, l1, l2, l3, l4, l5, l6, ab_R z, l8, l9] st σ Q := ab_r_astore (Nat.le_of_ble_eq_true rfl) kc_X11_grips dX11_grips_9
theorem rX11_grips_11 : ab_Run X 139 11 (2, 0, 0) [ab_R z, l1, l2, l3, l4, l5, l6, l7, l8, l9] st σ Q ↔ z ≠ 0 ∧ ab_Run X 139 12 (2, 0, 0) [ab_R z, l1, l2, l3, l4, l5, l6, l7, l8, l9] (ab_R z :: st) σ Q := ab_r_aload_n rfl kc_X11_grips dX11_grips_11
theorem rX11_grips_12 : ab_Run X 139 12 (2, 0, 0) L (ab_R a :: st) σ Q ↔ (ab_sh σ a).1 = 12 ∧ ab_Run X 139 15 (2, 0, 0) L (ab_R (ab_rd σ a 7) :: st) σ Q := gF_11_58 ko_X11_grips kc_X11_grips dX11_grips_12
theorem rX11_grips_15 : ab_Run X 139 15 (2, 0, 0) L (ab_R a :: st) σ Q ↔ (ab_sh σ a).1 = 5 ∧ ab_Run X 139 18 (2, 0, 0) L (ab_R (ab_rd σ a 8) :: st) σ Q := gF_11_142 ko_X11_grips kc_X11_grips dX11_grips_15
theorem rX11_grips_18 : ab_Run X 139 18 (2, 0, 0) [l0, l1, ab_I z, l3, l4, l5, l6, l7, l8, l9] st σ Q ↔ ab_Run X 139 19 (2, 0, 0) [l0, l1, ab_I z, l3, l4, l5, l6, l7, l8, l9] (ab_I z :: st) σ Q := ab_r_iload_n rfl kc_X11_grips dX11_grips_18
theorem rX11_grips_19 : ab_Run X 139 19 (2, 0, 0) L (ab_I i :: ab_R a :: st) σ Q ↔ ((25 ≤ (ab_sh σ a).1 ∧ (ab_sh σ a).1 < 30) ∧ 0 ≤ i ∧ i < (ab_sh σ a).2) ∧ ab_Run X 139 20 (2, 0, 0) L (ab_R (ab_rd σ a i) :: st) σ Q := ab_r_aaload kc_X11_grips dX11_grips_19
theorem rX11_grips_20 : ab_Run X 139 20 (2, 0, 0) [l0, l1, l2, l3, l4, l5, l6, l7, l8, l9] (ab_R z :: st) σ Q ↔ (!ab_isJ l7) = true ∧ ab_Run X 139 22 (2, 0, 0) [l0, l1, l2, l3, l4, l5, l6, l7, ab_R z, l9] st σ Q := ab_r_astore (Nat.le_of_ble_eq_true rfl) kc_X11_grips dX11_grips_20
theorem rX11_grips_22 : ab_Run X 139 22 (2, 0, 0) [ab_R z, l1, l2, l3, l4, l5, l6, l7, l8, l9] st σ Q ↔ z ≠ 0 ∧ ab_Run X 139 23 (2, 0, 0) [ab_R z, l1, l2, l3, l4, l5, l6, l7, l8, l9] (ab_R z :: st) σ Q := ab_r_aload_n rfl kc_X11_grips dX11_grips_22
theorem rX11_grips_23 : ab_Run X 139 23 (2, 0, 0) L (ab_R a :: st) σ Q ↔ (ab_sh σ a).1 = 12 ∧ ab_Run X 139 26 (2, 0, 0) L (ab_R (ab_rd σ a 7) :: st) σ Q := gF_11_58 ko_X11_grips kc_X11_grips dX11_grips_23
theorem rX11_grips_26 : ab_Run X 139 26 (2, 0, 0) L (ab_R a :: st) σ Q ↔ (ab_sh σ a).1 = 5 ∧ ab_Run X 139 29 (2, 0, 0) L (ab_R (ab_rd σ a 8) :: st) σ Q := gF_11_142 ko_X11_grips kc_X11_grips dX11_grips_26
theorem rX11_grips_29 : ab_Run X 139 29 (2, 0, 0) [l0, l1, l2, l3, ab_I z, l5, l6, l7, l8, l9] st σ Q ↔ ab_Run X 139 31 (2, 0, 0) [l0, l1, l2, l3, ab_I z, l5, l6, l7, l8, l9] (ab_I z :: st) σ Q := ab_r_iload rfl kc_X11_grips dX11_grips_29
theorem rX11_grips_31 : ab_Run X 139 31 (2, 0, 0) L (ab_I i :: ab_R a :: st) σ Q ↔ ((25 ≤ (ab_sh σ a).1 ∧ (ab_sh σ a).1 < 30) ∧ 0 ≤ i ∧ i < (ab_sh σ a).2) ∧ ab_Run X 139 32 (2, 0, 0) L (ab_R (ab_rd σ a i) :: st) σ Q := ab_r_aaload kc_X11_grips dX11_grips_31
theorem rX11_grips_32 : ab_Run X 139 32 (2, 0, 0) [l0, l1, l2, l3, l4, l5, l6, l7, l8, l9] (ab_R z :: st) σ Q ↔ (!ab_isJ l8) = true ∧ ab_Run X 139 34 (2, 0, 0) [l0, l1, l2, l3, l4, l5, l6, l7, l8, ab_R z] st σ Q := ab_r_astore (Nat.le_of_ble_eq_true rfl) kc_X11_grips dX11_grips_32
theorem rX11_grips_34 : ab_Run X 139 34 (2, 0, 0) [ab_R z, l1, l2, l3, l4, l5, l6, l7, l8, l9] st σ Q ↔ z ≠ 0 ∧ ab_Run X 139 35 (2, 0, 0) [ab_R z, l1, l2, l3, l4, l5, l6, l7, l8, l9] (ab_R z :: st) σ Q := ab_r_aload_n rfl kc_X11_grips dX11_grips_34
theorem rX11_grips_35 : ab_Run X 139 35 (2, 0, 0) L (ab_R a :: st) σ Q ↔ (ab_sh σ a).1 = 12 ∧ ab_Run X 139 38 (2, 0, 0) L (ab_R (ab_rd σ a 3) :: st) σ Q := gF_11_33 ko_X11_grips kc_X11_grips dX11_grips_35
theorem rX11_grips_38 : ab_Run X 139 38 (2, 0, 0) [l0, l1, l2, l3, l4, l5, l6, l7, ab_R z, l9] st σ Q ↔ z ≠ 0 ∧ ab_Run X 139 40 (2, 0, 0) [l0, l1, l2, l3, l4, l5, l6, l7, ab_R z, l9] (ab_R z :: st) σ Q := ab_r_aload rfl kc_X11_grips dX11_grips_38
theorem rX11_grips_40 : ab_Run X 139 40 (2, 0, 0) [l0, l1, l2, l3, l4, l5, l6, l7, l8, ab_R z] st σ Q ↔ z ≠ 0 ∧ ab_Run X 139 42 (2, 0, 0) [l0, l1, l2, l3, l4, l5, l6, l7, l8, ab_R z] (ab_R z :: st) σ Q := ab_r_aload rfl kc_X11_grips dX11_grips_40
theorem rX11_grips_42 : ab_Run X 139 42 (2, 0, 0) L (ab_R x2 :: ab_R x1 :: ab_R a :: st) σ Q ↔ ((ab_sh σ a).1 = 7 ∧ ab_cats st ≤ 8) ∧ ab_Do X 34 [ab_R a, ab_R x1, ab_R x2] σ (fun r σ' => ab_Run X 139 45 (2, 0, 0) L (ab_psh r st) σ' Q) := ab_r_callV (w := [ab_R x2, ab_R x1]) (as := [ab_R x1, ab_R x2]) (b1 := (0, 0, 0)) 0 (Or.inl rfl) (by decide) ko_X11_grips qM_11_229 (by decide) rfl rfl rfl rfl rfl (by decide) (Nat.le_of_ble_eq_true rfl) kc_X11_grips dX11_grips_42
theorem rX11_grips_45 : ab_Run X 139 45 (2, 0, 0) [ab_R z, l1, l2, l3, l4, l5, l6, l7, l8, l9] st σ Q ↔ z ≠ 0 ∧ ab_Run X 139 46 (2, 0, 0) [ab_R z, l1, l2, l3, l4, l5, l6, l7, l8, l9] (ab_R z :: st) σ Q := ab_r_aload_n rfl kc_X11_grips dX11_grips_45
theorem rX11_grips_46 : ab_Run X 139 46 (2, 0, 0) L (ab_R a :: st) σ Q ↔ (ab_sh σ a).1 = 12 ∧ ab_Run X 139 49 (2, 0, 0) L (ab_R (ab_rd σ a 3) :: st) σ Q := gF_11_33 ko_X11_grips kc_X11_grips dX11_grips_46
theorem rX11_grips_49 : ab_Run X 139 49 (2, 0, 0) [ab_R z, l1, l2, l3, l4, l5, l6, l7, l8, l9] st σ Q ↔ z ≠ 0 ∧ ab_Run X 139 50 (2, 0, 0) [ab_R z, l1, l2, l3, l4, l5, l6, l7, l8, l9] (ab_R z :: st) σ Q := ab_r_aload_n rfl kc_X11_grips dX11_grips_49
theorem rX11_grips_50 : ab_Run X 139 50 (2, 0, 0) L (ab_R a :: st) σ Q ↔ (ab_sh σ a).1 = 12 ∧ ab_Run X 139 53 (2, 0, 0) L (ab_R (ab_rd σ a 3) :: st) σ Q := gF_11_33 ko_X11_grips kc_X11_grips dX11_grips_50
theorem rX11_grips_53 : ab_Run X 139 53 (2, 0, 0) L (ab_R a :: st) σ Q ↔ (ab_sh σ a).1 = 7 ∧ ab_Run X 139 56 (2, 0, 0) L (ab_R (ab_rd σ a 0) :: st) σ Q := gF_11_171 ko_X11_grips kc_X11_grips dX11_grips_53
theorem rX11_grips_56 : ab_Run X 139 56 (2, 0, 0) [l0, l1, l2, l3, l4, l5, l6, ab_R z, l8, l9] st σ Q ↔ z ≠ 0 ∧ ab_Run X 139 58 (2, 0, 0) [l0, l1, l2, l3, l4, l5, l6, ab_R z, l8, l9] (ab_R z :: st) σ Q := ab_r_aload rfl kc_X11_grips dX11_grips_56
theorem rX11_grips_58 : ab_Run X 139 58 (2, 0, 0) L st σ Q ↔ ab_Run X 139 59 (2, 0, 0) L (ab_I 0 :: st) σ Q := ab_r_iconst (by decide) kc_X11_grips dX11_grips_58
theorem rX11_grips_59 : ab_Run X 139 59 (2, 0, 0) [l0, l1, l2, l3, l4, l5, l6, l7, ab_R z, l9] st σ Q ↔ z ≠ 0 ∧ ab_Run X 139 61 (2, 0, 0) [l0, l1, l2, l3, l4, l5, l6, l7, ab_R z, l9] (ab_R z :: st) σ Q := ab_r_aload rfl kc_X11_grips dX11_grips_59
theorem rX11_grips_61 : ab_Run X 139 61 (2, 0, 0) [l0, l1, l2, ab_I z, l4, l5, l6, l7, l8, l9] st σ Q ↔ ab_Run X 139 62 (2, 0, 0) [l0, l1, l2, ab_I z, l4, l5, l6, l7, l8, l9] (ab_I z :: st) σ Q := ab_r_iload_n rfl kc_X11_grips dX11_grips_61
theorem rX11_grips_62 : ab_Run X 139 62 (2, 0, 0) [l0, l1, l2, l3, l4, l5, ab_I z, l7, l8, l9] st σ Q ↔ ab_Run X 139 64 (2, 0, 0) [l0, l1, l2, l3, l4, l5, ab_I z, l7, l8, l9] (ab_I z :: st) σ Q := ab_r_iload rfl kc_X11_grips dX11_grips_62
theorem rX11_grips_64 : ab_Run X 139 64 (2, 0, 0) L (ab_I a :: st) σ Q ↔ (a = 0 → ab_Run X 139 73 (2, 0, 0) L st σ Q) ∧ (¬ (a = 0) → ab_Run X 139 67 (2, 0, 0) L st σ Q) := ab_r_if_eq rfl kc_X11_grips dX11_grips_64
theorem rX11_grips_67 : ab_Run X 139 67 (2, 0, 0) [l0, l1, l2, l3, l4, l5, ab_I z, l7, l8, l9] st σ Q ↔ ab_Run X 139 69 (2, 0, 0) [l0, l1, l2, l3, l4, l5, ab_I z, l7, l8, l9] (ab_I z :: st) σ Q := ab_r_iload rfl kc_X11_grips dX11_grips_67
theorem rX11_grips_69 : ab_Run X 139 69 (2, 0, 0) L st σ Q ↔ ab_Run X 139 70 (2, 0, 0) L (ab_I 3 :: st) σ Q := ab_r_iconst (by decide) kc_X11_grips dX11_grips_69
theorem rX11_grips_70 : ab_Run X 139 70 (2, 0, 0) L (ab_I b :: ab_I a :: st) σ Q ↔ (¬ a = b → ab_Run X 139 77 (2, 0, 0) L st σ Q) ∧ (¬ (¬ a = b) → ab_Run X 139 73 (2, 0, 0) L st σ Q) := ab_r_icmp_ne rfl kc_X11_grips dX11_grips_70
theorem rX11_grips_73 : ab_Run X 139 73 (2, 0, 0) L st σ Q ↔ ab_Run X 139 74 (2, 0, 0) L (ab_I 1 :: st) σ Q := ab_r_iconst (by decide) kc_X11_grips dX11_grips_73
theorem rX11_grips_74 : ab_Run X 139 74 (2, 0, 0) L st σ Q ↔ ab_Run X 139 78 (2, 0, 0) L st σ Q := ab_r_goto rfl kc_X11_grips dX11_grips_74
theorem rX11_grips_77 : ab_Run X 139 77 (2, 0, 0) L st σ Q ↔ ab_Run X 139 78 (2, 0, 0) L (ab_I 0 :: st) σ Q := ab_r_iconst (by decide) kc_X11_grips dX11_grips_77
theorem rX11_grips_78 : ab_Run X 139 78 (2, 0, 0) L (ab_I x6 :: ab_I x5 :: ab_R x4 :: ab_I x3 :: ab_R x2 :: ab_R x1 :: ab_R a :: st) σ Q ↔ ((ab_sh σ a).1 = 7 ∧ ab_cats st ≤ 8) ∧ ab_Do X 35 [ab_R a, ab_R x1, ab_R x2, ab_I x3, ab_R x4, ab_I x5, ab_I x6] σ (fun r σ' => ab_Run X 139 81 (2, 0, 0) L (ab_psh r st) σ' Q) := ab_r_callV (w := [ab_I x6, ab_I x5, ab_R x4, ab_I x3, ab_R x2, ab_R x1]) (as := [ab_R x1, ab_R x2, ab_I x3, ab_R x4, ab_I x5, ab_I x6]) (b1 := (1, 0, 0)) 0 (Or.inl rfl) (by decide) ko_X11_grips qM_11_175 (by decide) rfl rfl rfl rfl rfl (by decide) (Nat.le_of_ble_eq_true rfl) kc_X11_grips dX11_grips_78
theorem rX11_grips_81 : ab_Run X 139 81 (2, 0, 0) [ab_R z, l1, l2, l3, l4, l5, l6, l7, l8, l9] st σ Q ↔ z ≠ 0 ∧ ab_Run X 139 82 (2, 0, 0) [ab_R z, l1, l2, l3, l4, l5, l6, l7, l8, l9] (ab_R z :: st) σ Q := ab_r_aload_n rfl kc_X11_grips dX11_grips_81
theorem rX11_grips_82 : ab_Run X 139 82 (2, 0, 0) L (ab_R a :: st) σ Q ↔ (ab_sh σ a).1 = 12 ∧ ab_Run X 139 85 (2, 0, 0) L (ab_R (ab_rd σ a 3) :: st) σ Q := gF_11_33 ko_X11_grips kc_X11_grips dX11_grips_82
theorem rX11_grips_85 : ab_Run X 139 85 (2, 0, 0) [ab_R z, l1, l2, l3, l4, l5, l6, l7, l8, l9] st σ Q ↔ z ≠ 0 ∧ ab_Run X 139 86 (2, 0, 0) [ab_R z, l1, l2, l3, l4, l5, l6, l7, l8, l9] (ab_R z :: st) σ Q := ab_r_aload_n rfl kc_X11_grips dX11_grips_85
theorem rX11_grips_86 : ab_Run X 139 86 (2, 0, 0) L (ab_R a :: st) σ Q ↔ (ab_sh σ a).1 = 12 ∧ ab_Run X 139 89 (2, 0, 0) L (ab_R (ab_rd σ a 3) :: st) σ Q := gF_11_33 ko_X11_grips kc_X11_grips dX11_grips_86
theorem rX11_grips_89 : ab_Run X 139 89 (2, 0, 0) L (ab_R a :: st) σ Q ↔ (ab_sh σ a).1 = 7 ∧ ab_Run X 139 92 (2, 0, 0) L (ab_R (ab_rd σ a 1) :: st) σ Q := gF_11_195 ko_X11_grips kc_X11_grips dX11_grips_89
theorem rX11_grips_92 : ab_Run X 139 92 (2, 0, 0) [l0, l1, l2, l3, l4, l5, l6, ab_R z, l8, l9] st σ Q ↔ z ≠ 0 ∧ ab_Run X 139 94 (2, 0, 0) [l0, l1, l2, l3, l4, l5, l6, ab_R z, l8, l9] (ab_R z :: st) σ Q := ab_r_aload rfl kc_X11_grips dX11_grips_92
theorem rX11_grips_94 : ab_Run X 139 94 (2, 0, 0) L st σ Q ↔ ab_Run X 139 95 (2, 0, 0) L (ab_I 1 :: st) σ Q := ab_r_iconst (by decide) kc_X11_grips dX11_grips_94
theorem rX11_grips_95 : ab_Run X 139 95 (2, 0, 0) [l0, l1, l2, l3, l4, l5, l6, l7, l8, ab_R z] st σ Q ↔ z ≠ 0 ∧ ab_Run X 139 97 (2, 0, 0) [l0, l1, l2, l3, l4, l5, l6, l7, l8, ab_R z] (ab_R z :: st) σ Q := ab_r_aload rfl kc_X11_grips dX11_grips_95
theorem rX11_grips_97 : ab_Run X 139 97 (2, 0, 0) [l0, l1, l2, l3, l4, ab_I z, l6, l7, l8, l9] st σ Q ↔ ab_Run X 139 99 (2, 0, 0) [l0, l1, l2, l3, l4, ab_I z, l6, l7, l8, l9] (ab_I z :: st) σ Q := ab_r_iload rfl kc_X11_grips dX11_grips_97
theorem rX11_grips_99 : ab_Run X 139 99 (2, 0, 0) [l0, l1, l2, l3, l4, l5, ab_I z, l7, l8, l9] st σ Q ↔ ab_Run X 139 101 (2, 0, 0) [l0, l1, l2, l3, l4, l5, ab_I z, l7, l8, l9] (ab_I z :: st) σ Q := ab_r_iload rfl kc_X11_grips dX11_grips_99
theorem rX11_grips_101 : ab_Run X 139 101 (2, 0, 0) L st σ Q ↔ ab_Run X 139 102 (2, 0, 0) L (ab_I 1 :: st) σ Q := ab_r_iconst (by decide) kc_X11_grips dX11_grips_101
theorem rX11_grips_102 : ab_Run X 139 102 (2, 0, 0) L (ab_I b :: ab_I a :: st) σ Q ↔ (a = b → ab_Run X 139 111 (2, 0, 0) L st σ Q) ∧ (¬ (a = b) → ab_Run X 139 105 (2, 0, 0) L st σ Q) := ab_r_icmp_eq rfl kc_X11_grips dX11_grips_102
theorem rX11_grips_105 : ab_Run X 139 105 (2, 0, 0) [l0, l1, l2, l3, l4, l5, ab_I z, l7, l8, l9] st σ Q ↔ ab_Run X 139 107 (2, 0, 0) [l0, l1, l2, l3, l4, l5, ab_I z, l7, l8, l9] (ab_I z :: st) σ Q := ab_r_iload rfl kc_X11_grips dX11_grips_105
theorem rX11_grips_107 : ab_Run X 139 107 (2, 0, 0) L st σ Q ↔ ab_Run X 139 108 (2, 0, 0) L (ab_I 3 :: st) σ Q := ab_r_iconst (by decide) kc_X11_grips dX11_grips_107
theorem rX11_grips_108 : ab_Run X 139 108 (2, 0, 0) L (ab_I b :: ab_I a :: st) σ Q ↔ (¬ a = b → ab_Run X 139 115 (2, 0, 0) L st σ Q) ∧ (¬ (¬ a = b) → ab_Run X 139 111 (2, 0, 0) L st σ Q) := ab_r_icmp_ne rfl kc_X11_grips dX11_grips_108
theorem rX11_grips_111 : ab_Run X 139 111 (2, 0, 0) L st σ Q ↔ ab_Run X 139 112 (2, 0, 0) L (ab_I 1 :: st) σ Q := ab_r_iconst (by decide) kc_X11_grips dX11_grips_111
theorem rX11_grips_112 : ab_Run X 139 112 (2, 0, 0) L st σ Q ↔ ab_Run X 139 116 (2, 0, 0) L st σ Q := ab_r_goto rfl kc_X11_grips dX11_grips_112
theorem rX11_grips_115 : ab_Run X 139 115 (2, 0, 0) L st σ Q ↔ ab_Run X 139 116 (2, 0, 0) L (ab_I 0 :: st) σ Q := ab_r_iconst (by decide) kc_X11_grips dX11_grips_115
theorem rX11_grips_116 : ab_Run X 139 116 (2, 0, 0) L (ab_I x6 :: ab_I x5 :: ab_R x4 :: ab_I x3 :: ab_R x2 :: ab_R x1 :: ab_R a :: st) σ Q ↔ ((ab_sh σ a).1 = 7 ∧ ab_cats st ≤ 8) ∧ ab_Do X 35 [ab_R a, ab_R x1, ab_R x2, ab_I x3, ab_R x4, ab_I x5, ab_I x6] σ (fun r σ' => ab_Run X 139 119 (2, 0, 0) L (ab_psh r st) σ' Q) := ab_r_callV (w := [ab_I x6, ab_I x5, ab_R x4, ab_I x3, ab_R x2, ab_R x1]) (as := [ab_R x1, ab_R x2, ab_I x3, ab_R x4, ab_I x5, ab_I x6]) (b1 := (1, 0, 0)) 0 (Or.inl rfl) (by decide) ko_X11_grips qM_11_175 (by decide) rfl rfl rfl rfl rfl (by decide) (Nat.le_of_ble_eq_true rfl) kc_X11_grips dX11_grips_116
theorem rX11_grips_119 : ab_Run X 139 119 (2, 0, 0) L [] σ Q ↔ Q none σ := ab_r_return rfl kc_X11_grips dX11_grips_119
theorem kc_X11_gripsAsTold : ab_code 140 = cX11_gripsAsTold := rfl
theorem ko_X11_gripsAsTold : ab_ow 140 = 11 := rfl
theorem rX11_gripsAsTold_0 : ab_Run X 140 0 (3, 0, 0) [ab_R z, l1, l2, l3, l4, l5, l6] st σ Q ↔ z ≠ 0 ∧ ab_Run X 140 1 (3, 0, 0) [ab_R z, l1, l2, l3, l4, l5, l6] (ab_R z :: st) σ Q := ab_r_aload_n rfl kc_X11_gripsAsTold dX11_gripsAsTold_0
theorem rX11_gripsAsTold_1 : ab_Run X 140 1 (3, 0, 0) L (ab_R a :: st) σ Q ↔ (ab_sh σ a).1 = 12 ∧ ab_Run X 140 4 (3, 0, 0) L (ab_R (ab_rd σ a 7) :: st) σ Q := gF_11_58 ko_X11_gripsAsTold kc_X11_gripsAsTold dX11_gripsAsTold_1
theorem rX11_gripsAsTold_4 : ab_Run X 140 4 (3, 0, 0) L (ab_R a :: st) σ Q ↔ (ab_sh σ a).1 = 5 ∧ ab_Run X 140 7 (3, 0, 0) L (ab_R (ab_rd σ a 6) :: st) σ Q := gF_11_118 ko_X11_gripsAsTold kc_X11_gripsAsTold dX11_gripsAsTold_4
theorem rX11_gripsAsTold_7 : ab_Run X 140 7 (3, 0, 0) [l0, ab_I z, l2, l3, l4, l5, l6] st σ Q ↔ ab_Run X 140 8 (3, 0, 0) [l0, ab_I z, l2, l3, l4, l5, l6] (ab_I z :: st) σ Q := ab_r_iload_n rfl kc_X11_gripsAsTold dX11_gripsAsTold_7
theorem rX11_gripsAsTold_8 : ab_Run X 140 8 (3, 0, 0) L (ab_I i :: ab_R a :: st) σ Q ↔ ((25 ≤ (ab_sh σ a).1 ∧ (ab_sh σ a).1 < 30) ∧ 0 ≤ i ∧ i < (ab_sh σ a).2) ∧ ab_Run X 140 9 (3, 0, 0) L (ab_R (ab_rd σ a i) :: st) σ Q := ab_r_aaload kc_X11_gripsAsTold dX11_gripsAsTold_8
theorem rX11_gripsAsTold_9 : ab_Run X 140 9 (3, 0, 0) [l0, l1, l2, l3, l4, l5, l6] (ab_R z :: st) σ Q ↔ (!ab_isJ l3) = true ∧ ab_Run X 140 11 (3, 0, 0) [l0, l1, l2, l3, ab_R z, l5, l6] st σ Q := ab_r_astore (Nat.le_of_ble_eq_true rfl) kc_X11_gripsAsTold dX11_gripsAsTold_9
theorem rX11_gripsAsTold_11 : ab_Run X 140 11 (3, 0, 0) [l0, l1, l2, l3, ab_R z, l5, l6] st σ Q ↔ z ≠ 0 ∧ ab_Run X 140 13 (3, 0, 0) [l0, l1, l2, l3, ab_R z, l5, l6] (ab_R z :: st) σ Q := ab_r_aload rfl kc_X11_gripsAsTold dX11_gripsAsTold_11
theorem rX11_gripsAsTold_13 : ab_Run X 140 13 (3, 0, 0) L st σ Q ↔ ab_Run X 140 14 (3, 0, 0) L (ab_I 0 :: st) σ Q := ab_r_iconst (by decide) kc_X11_gripsAsTold dX11_gripsAsTold_13
theorem rX11_gripsAsTold_14 : ab_Run X 140 14 (3, 0, 0) [ab_R z, l1, l2, l3, l4, l5, l6] st σ Q ↔ z ≠ 0 ∧ ab_Run X 140 15 (3, 0, 0) [ab_R z, l1, l2, l3, l4, l5, l6] (ab_R z :: st) σ Q := ab_r_aload_n rfl kc_X11_gripsAsTold dX11_gripsAsTold_14
theorem rX11_gripsAsTold_15 : ab_Run X 140 15 (3, 0, 0) L (ab_R a :: st) σ Q ↔ (ab_sh σ a).1 = 12 ∧ ab_Run X 140 18 (3, 0, 0) L (ab_R (ab_rd σ a 7) :: st) σ Q := gF_11_58 ko_X11_gripsAsTold kc_X11_gripsAsTold dX11_gripsAsTold_15
theorem rX11_gripsAsTold_18 : ab_Run X 140 18 (3, 0, 0) L (ab_R a :: st) σ Q ↔ (ab_sh σ a).1 = 5 ∧ ab_Run X 140 21 (3, 0, 0) L (ab_R (ab_rd σ a 8) :: st) σ Q := gF_11_142 ko_X11_gripsAsTold kc_X11_gripsAsTold dX11_gripsAsTold_18
theorem rX11_gripsAsTold_21 : ab_Run X 140 21 (3, 0, 0) [l0, l1, ab_I z, l3, l4, l5, l6] st σ Q ↔ ab_Run X 140 22 (3, 0, 0) [l0, l1, ab_I z, l3, l4, l5, l6] (ab_I z :: st) σ Q := ab_r_iload_n rfl kc_X11_gripsAsTold dX11_gripsAsTold_21
theorem rX11_gripsAsTold_22 : ab_Run X 140 22 (3, 0, 0) L (ab_I i :: ab_R a :: st) σ Q ↔ ((25 ≤ (ab_sh σ a).1 ∧ (ab_sh σ a).1 < 30) ∧ 0 ≤ i ∧ i < (ab_sh σ a).2) ∧ ab_Run X 140 23 (3, 0, 0) L (ab_R (ab_rd σ a i) :: st) σ Q := ab_r_aaload kc_X11_gripsAsTold dX11_gripsAsTold_22
theorem rX11_gripsAsTold_23 : ab_Run X 140 23 (3, 0, 0) L (ab_R x2 :: ab_I x1 :: ab_R a :: st) σ Q ↔ ((ab_sh σ a).1 = 2 ∧ ab_cats st ≤ 8) ∧ ab_Do X 10 [ab_R a, ab_I x1, ab_R x2] σ (fun r σ' => ab_Run X 140 26 (3, 0, 0) L (ab_psh r st) σ' Q) := ab_r_callV (w := [ab_R x2, ab_I x1]) (as := [ab_I x1, ab_R x2]) (b1 := (1, 0, 0)) 0 (Or.inl rfl) (by decide) ko_X11_gripsAsTold qM_11_409 (by decide) rfl rfl rfl rfl rfl (by decide) (Nat.le_of_ble_eq_true rfl) kc_X11_gripsAsTold dX11_gripsAsTold_23
theorem rX11_gripsAsTold_26 : ab_Run X 140 26 (3, 0, 0) [l0, l1, l2, l3, l4, l5, l6] (ab_I z :: st) σ Q ↔ (!ab_isJ l4) = true ∧ ab_Run X 140 28 (3, 0, 0) [l0, l1, l2, l3, l4, ab_I z, l6] st σ Q := ab_r_istore (Nat.le_of_ble_eq_true rfl) kc_X11_gripsAsTold dX11_gripsAsTold_26
theorem rX11_gripsAsTold_28 : ab_Run X 140 28 (3, 0, 0) [l0, l1, l2, l3, ab_R z, l5, l6] st σ Q ↔ z ≠ 0 ∧ ab_Run X 140 30 (3, 0, 0) [l0, l1, l2, l3, ab_R z, l5, l6] (ab_R z :: st) σ Q := ab_r_aload rfl kc_X11_gripsAsTold dX11_gripsAsTold_28
theorem rX11_gripsAsTold_30 : ab_Run X 140 30 (3, 0, 0) L st σ Q ↔ ab_Run X 140 31 (3, 0, 0) L (ab_I 1 :: st) σ Q := ab_r_iconst (by decide) kc_X11_gripsAsTold dX11_gripsAsTold_30
theorem rX11_gripsAsTold_31 : ab_Run X 140 31 (3, 0, 0) [ab_R z, l1, l2, l3, l4, l5, l6] st σ Q ↔ z ≠ 0 ∧ ab_Run X 140 32 (3, 0, 0) [ab_R z, l1, l2, l3, l4, l5, l6] (ab_R z :: st) σ Q := ab_r_aload_n rfl kc_X11_gripsAsTold dX11_gripsAsTold_31
theorem rX11_gripsAsTold_32 : ab_Run X 140 32 (3, 0, 0) L (ab_R a :: st) σ Q ↔ (ab_sh σ a).1 = 12 ∧ ab_Run X 140 35 (3, 0, 0) L (ab_R (ab_rd σ a 7) :: st) σ Q := gF_11_58 ko_X11_gripsAsTold kc_X11_gripsAsTold dX11_gripsAsTold_32
theorem rX11_gripsAsTold_35 : ab_Run X 140 35 (3, 0, 0) L (ab_R a :: st) σ Q ↔ (ab_sh σ a).1 = 5 ∧ ab_Run X 140 38 (3, 0, 0) L (ab_R (ab_rd σ a 8) :: st) σ Q := gF_11_142 ko_X11_gripsAsTold kc_X11_gripsAsTold dX11_gripsAsTold_35
theorem rX11_gripsAsTold_38 : ab_Run X 140 38 (3, 0, 0) [l0, l1, l2, ab_I z, l4, l5, l6] st σ Q ↔ ab_Run X 140 39 (3, 0, 0) [l0, l1, l2, ab_I z, l4, l5, l6] (ab_I z :: st) σ Q := ab_r_iload_n rfl kc_X11_gripsAsTold dX11_gripsAsTold_38
theorem rX11_gripsAsTold_39 : ab_Run X 140 39 (3, 0, 0) L (ab_I i :: ab_R a :: st) σ Q ↔ ((25 ≤ (ab_sh σ a).1 ∧ (ab_sh σ a).1 < 30) ∧ 0 ≤ i ∧ i < (ab_sh σ a).2) ∧ ab_Run X 140 40 (3, 0, 0) L (ab_R (ab_rd σ a i) :: st) σ Q := ab_r_aaload kc_X11_gripsAsTold dX11_gripsAsTold_39
theorem rX11_gripsAsTold_40 : ab_Run X 140 40 (3, 0, 0) L (ab_R x2 :: ab_I x1 :: ab_R a :: st) σ Q ↔ ((ab_sh σ a).1 = 2 ∧ ab_cats st ≤ 8) ∧ ab_Do X 10 [ab_R a, ab_I x1, ab_R x2] σ (fun r σ' => ab_Run X 140 43 (3, 0, 0) L (ab_psh r st) σ' Q) := ab_r_callV (w := [ab_R x2, ab_I x1]) (as := [ab_I x1, ab_R x2]) (b1 := (1, 0, 0)) 0 (Or.inl rfl) (by decide) ko_X11_gripsAsTold qM_11_409 (by decide) rfl rfl rfl rfl rfl (by decide) (Nat.le_of_ble_eq_true rfl) kc_X11_gripsAsTold dX11_gripsAsTold_40
theorem rX11_gripsAsTold_43 : ab_Run X 140 43 (3, 0, 0) [l0, l1, l2, l3, l4, l5, l6] (ab_I z :: st) σ Q ↔ (!ab_isJ l5) = true ∧ ab_Run X 140 45 (3, 0, 0) [l0, l1, l2, l3, l4, l5, ab_I z] st σ Q := ab_r_istore (Nat.le_of_ble_eq_true rfl) kc_X11_gripsAsTold dX11_gripsAsTold_43
theorem rX11_gripsAsTold_45 : ab_Run X 140 45 (3, 0, 0) [ab_R z, l1, l2, l3, l4, l5, l6] st σ Q ↔ z ≠ 0 ∧ ab_Run X 140 46 (3, 0, 0) [ab_R z, l1, l2, l3, l4, l5, l6] (ab_R z :: st) σ Q := ab_r_aload_n rfl kc_X11_gripsAsTold dX11_gripsAsTold_45
theorem rX11_gripsAsTold_46 : ab_Run X 140 46 (3, 0, 0) [l0, ab_I z, l2, l3, l4, l5, l6] st σ Q ↔ ab_Run X 140 47 (3, 0, 0) [l0, ab_I z, l2, l3, l4, l5, l6] (ab_I z :: st) σ Q := ab_r_iload_n rfl kc_X11_gripsAsTold dX11_gripsAsTold_46
theorem rX11_gripsAsTold_47 : ab_Run X 140 47 (3, 0, 0) [l0, l1, ab_I z, l3, l4, l5, l6] st σ Q ↔ ab_Run X 140 48 (3, 0, 0) [l0, l1, ab_I z, l3, l4, l5, l6] (ab_I z :: st) σ Q := ab_r_iload_n rfl kc_X11_gripsAsTold dX11_gripsAsTold_47
theorem rX11_gripsAsTold_48 : ab_Run X 140 48 (3, 0, 0) [l0, l1, l2, l3, l4, ab_I z, l6] st σ Q ↔ ab_Run X 140 50 (3, 0, 0) [l0, l1, l2, l3, l4, ab_I z, l6] (ab_I z :: st) σ Q := ab_r_iload rfl kc_X11_gripsAsTold dX11_gripsAsTold_48
theorem rX11_gripsAsTold_50 : ab_Run X 140 50 (3, 0, 0) [l0, l1, l2, ab_I z, l4, l5, l6] st σ Q ↔ ab_Run X 140 51 (3, 0, 0) [l0, l1, l2, ab_I z, l4, l5, l6] (ab_I z :: st) σ Q := ab_r_iload_n rfl kc_X11_gripsAsTold dX11_gripsAsTold_50
theorem rX11_gripsAsTold_51 : ab_Run X 140 51 (3, 0, 0) [l0, l1, l2, l3, l4, l5, ab_I z] st σ Q ↔ ab_Run X 140 53 (3, 0, 0) [l0, l1, l2, l3, l4, l5, ab_I z] (ab_I z :: st) σ Q := ab_r_iload rfl kc_X11_gripsAsTold dX11_gripsAsTold_51
theorem rX11_gripsAsTold_53 : ab_Run X 140 53 (3, 0, 0) L st σ Q ↔ ab_Run X 140 54 (3, 0, 0) L (ab_I 2 :: st) σ Q := ab_r_iconst (by decide) kc_X11_gripsAsTold dX11_gripsAsTold_53
theorem rX11_gripsAsTold_54 : ab_Run X 140 54 (3, 0, 0) L (ab_I x6 :: ab_I x5 :: ab_I x4 :: ab_I x3 :: ab_I x2 :: ab_I x1 :: ab_R a :: st) σ Q ↔ ((ab_sh σ a).1 = 12 ∧ ab_cats st ≤ 8) ∧ ab_Do X 139 [ab_R a, ab_I x1, ab_I x2, ab_I x3, ab_I x4, ab_I x5, ab_I x6] σ (fun r σ' => ab_Run X 140 57 (3, 0, 0) L (ab_psh r st) σ' Q) := ab_r_callV (w := [ab_I x6, ab_I x5, ab_I x4, ab_I x3, ab_I x2, ab_I x1]) (as := [ab_I x1, ab_I x2, ab_I x3, ab_I x4, ab_I x5, ab_I x6]) (b1 := (2, 0, 0)) 0 (Or.inl rfl) (by decide) ko_X11_gripsAsTold qM_11_406 (by decide) rfl rfl rfl rfl rfl (by decide) (Nat.le_of_ble_eq_true rfl) kc_X11_gripsAsTold dX11_gripsAsTold_54
theorem rX11_gripsAsTold_57 : ab_Run X 140 57 (3, 0, 0) L [] σ Q ↔ Q none σ := ab_r_return rfl kc_X11_gripsAsTold dX11_gripsAsTold_57
theorem kc_X11_playNow : ab_code 141 = cX11_playNow := rfl
theorem ko_X11_playNow : ab_ow 141 = 11 := rfl
theorem rX11_playNow_0 : ab_Run X 141 0 (4, 0, 0) [ab_R z, l1, l2, l3] st σ Q ↔ z ≠ 0 ∧ ab_Run X 141 1 (4, 0, 0) [ab_R z, l1, l2, l3] (ab_R z :: st) σ Q := ab_r_aload_n rfl kc_X11_playNow dX11_playNow_0
theorem rX11_playNow_1 : ab_Run X 141 1 (4, 0, 0) [l0, ab_I z, l2, l3] st σ Q ↔ ab_Run X 141 2 (4, 0, 0) [l0, ab_I z, l2, l3] (ab_I z :: st) σ Q := ab_r_iload_n rfl kc_X11_playNow dX11_playNow_1
theorem rX11_playNow_2 : ab_Run X 141 2 (4, 0, 0) L (ab_I x1 :: ab_R a :: st) σ Q ↔ ((ab_sh σ a).1 = 12 ∧ ab_cats st ≤ 8) ∧ ab_Do X 137 [ab_R a, ab_I x1] σ (fun r σ' => ab_Run X 141 5 (4, 0, 0) L (ab_psh r st) σ' Q) := ab_r_callV (w := [ab_I x1]) (as := [ab_I x1]) (b1 := (1, 0, 0)) 0 (Or.inl rfl) (by decide) ko_X11_playNow qM_11_168 (by decide) rfl rfl rfl rfl rfl (by decide) (Nat.le_of_ble_eq_true rfl) kc_X11_playNow dX11_playNow_2
theorem rX11_playNow_5 : ab_Run X 141 5 (4, 0, 0) [ab_R z, l1, l2, l3] st σ Q ↔ z ≠ 0 ∧ ab_Run X 141 6 (4, 0, 0) [ab_R z, l1, l2, l3] (ab_R z :: st) σ Q := ab_r_aload_n rfl kc_X11_playNow dX11_playNow_5
theorem rX11_playNow_6 : ab_Run X 141 6 (4, 0, 0) L (ab_R a :: st) σ Q ↔ (ab_sh σ a).1 = 12 ∧ ab_Run X 141 9 (4, 0, 0) L (ab_R (ab_rd σ a 4) :: st) σ Q := gF_11_40 ko_X11_playNow kc_X11_playNow dX11_playNow_6
theorem rX11_playNow_9 : ab_Run X 141 9 (4, 0, 0) [ab_R z, l1, l2, l3] st σ Q ↔ z ≠ 0 ∧ ab_Run X 141 10 (4, 0, 0) [ab_R z, l1, l2, l3] (ab_R z :: st) σ Q := ab_r_aload_n rfl kc_X11_playNow dX11_playNow_9
theorem rX11_playNow_10 : ab_Run X 141 10 (4, 0, 0) L (ab_R a :: st) σ Q ↔ (ab_sh σ a).1 = 12 ∧ ab_Run X 141 13 (4, 0, 0) L (ab_R (ab_rd σ a 3) :: st) σ Q := gF_11_33 ko_X11_playNow kc_X11_playNow dX11_playNow_10
theorem rX11_playNow_13 : ab_Run X 141 13 (4, 0, 0) [ab_R z, l1, l2, l3] st σ Q ↔ z ≠ 0 ∧ ab_Run X 141 14 (4, 0, 0) [ab_R z, l1, l2, l3] (ab_R z :: st) σ Q := ab_r_aload_n rfl kc_X11_playNow dX11_playNow_13
theorem rX11_playNow_14 : ab_Run X 141 14 (4, 0, 0) L (ab_R a :: st) σ Q ↔ (ab_sh σ a).1 = 12 ∧ ab_Run X 141 17 (4, 0, 0) L (ab_R (ab_rd σ a 7) :: st) σ Q := gF_11_58 ko_X11_playNow kc_X11_playNow dX11_playNow_14
theorem rX11_playNow_17 : ab_Run X 141 17 (4, 0, 0) L (ab_R a :: st) σ Q ↔ (ab_sh σ a).1 = 5 ∧ ab_Run X 141 20 (4, 0, 0) L (ab_R (ab_rd σ a 6) :: st) σ Q := gF_11_118 ko_X11_playNow kc_X11_playNow dX11_playNow_17
theorem rX11_playNow_20 : ab_Run X 141 20 (4, 0, 0) [l0, ab_I z, l2, l3] st σ Q ↔ ab_Run X 141 21 (4, 0, 0) [l0, ab_I z, l2, l3] (ab_I z :: st) σ Q := ab_r_iload_n rfl kc_X11_playNow dX11_playNow_20
theorem rX11_playNow_21 : ab_Run X 141 21 (4, 0, 0) L (ab_I i :: ab_R a :: st) σ Q ↔ ((25 ≤ (ab_sh σ a).1 ∧ (ab_sh σ a).1 < 30) ∧ 0 ≤ i ∧ i < (ab_sh σ a).2) ∧ ab_Run X 141 22 (4, 0, 0) L (ab_R (ab_rd σ a i) :: st) σ Q := ab_r_aaload kc_X11_playNow dX11_playNow_21
theorem rX11_playNow_22 : ab_Run X 141 22 (4, 0, 0) [ab_R z, l1, l2, l3] st σ Q ↔ z ≠ 0 ∧ ab_Run X 141 23 (4, 0, 0) [ab_R z, l1, l2, l3] (ab_R z :: st) σ Q := ab_r_aload_n rfl kc_X11_playNow dX11_playNow_22
theorem rX11_playNow_23 : ab_Run X 141 23 (4, 0, 0) L (ab_R a :: st) σ Q ↔ (ab_sh σ a).1 = 12 ∧ ab_Run X 141 26 (4, 0, 0) L (ab_R (ab_rd σ a 7) :: st) σ Q := gF_11_58 ko_X11_playNow kc_X11_playNow dX11_playNow_23
theorem rX11_playNow_26 : ab_Run X 141 26 (4, 0, 0) L (ab_R a :: st) σ Q ↔ (ab_sh σ a).1 = 5 ∧ ab_Run X 141 29 (4, 0, 0) L (ab_R (ab_rd σ a 8) :: st) σ Q := gF_11_142 ko_X11_playNow kc_X11_playNow dX11_playNow_26
theorem rX11_playNow_29 : ab_Run X 141 29 (4, 0, 0) [l0, l1, ab_I z, l3] st σ Q ↔ ab_Run X 141 30 (4, 0, 0) [l0, l1, ab_I z, l3] (ab_I z :: st) σ Q := ab_r_iload_n rfl kc_X11_playNow dX11_playNow_29
theorem rX11_playNow_30 : ab_Run X 141 30 (4, 0, 0) L (ab_I i :: ab_R a :: st) σ Q ↔ ((25 ≤ (ab_sh σ a).1 ∧ (ab_sh σ a).1 < 30) ∧ 0 ≤ i ∧ i < (ab_sh σ a).2) ∧ ab_Run X 141 31 (4, 0, 0) L (ab_R (ab_rd σ a i) :: st) σ Q := ab_r_aaload kc_X11_playNow dX11_playNow_30
theorem rX11_playNow_31 : ab_Run X 141 31 (4, 0, 0) [ab_R z, l1, l2, l3] st σ Q ↔ z ≠ 0 ∧ ab_Run X 141 32 (4, 0, 0) [ab_R z, l1, l2, l3] (ab_R z :: st) σ Q := ab_r_aload_n rfl kc_X11_playNow dX11_playNow_31
theorem rX11_playNow_32 : ab_Run X 141 32 (4, 0, 0) L (ab_R a :: st) σ Q ↔ (ab_sh σ a).1 = 12 ∧ ab_Run X 141 35 (4, 0, 0) L (ab_R (ab_rd σ a 7) :: st) σ Q := gF_11_58 ko_X11_playNow kc_X11_playNow dX11_playNow_32
theorem rX11_playNow_35 : ab_Run X 141 35 (4, 0, 0) L (ab_R a :: st) σ Q ↔ (ab_sh σ a).1 = 5 ∧ ab_Run X 141 38 (4, 0, 0) L (ab_R (ab_rd σ a 8) :: st) σ Q := gF_11_142 ko_X11_playNow kc_X11_playNow dX11_playNow_35
theorem rX11_playNow_38 : ab_Run X 141 38 (4, 0, 0) [l0, l1, l2, ab_I z] st σ Q ↔ ab_Run X 141 39 (4, 0, 0) [l0, l1, l2, ab_I z] (ab_I z :: st) σ Q := ab_r_iload_n rfl kc_X11_playNow dX11_playNow_38
theorem rX11_playNow_39 : ab_Run X 141 39 (4, 0, 0) L (ab_I i :: ab_R a :: st) σ Q ↔ ((25 ≤ (ab_sh σ a).1 ∧ (ab_sh σ a).1 < 30) ∧ 0 ≤ i ∧ i < (ab_sh σ a).2) ∧ ab_Run X 141 40 (4, 0, 0) L (ab_R (ab_rd σ a i) :: st) σ Q := ab_r_aaload kc_X11_playNow dX11_playNow_39
theorem rX11_playNow_40 : ab_Run X 141 40 (4, 0, 0) L (ab_R x4 :: ab_R x3 :: ab_R x2 :: ab_R x1 :: ab_R a :: st) σ Q ↔ ((ab_sh σ a).1 = 3 ∧ ab_cats st ≤ 8) ∧ ab_Do X 14 [ab_R a, ab_R x1, ab_R x2, ab_R x3, ab_R x4] σ (fun r σ' => ab_Run X 141 43 (4, 0, 0) L (ab_psh r st) σ' Q) := ab_r_callV (w := [ab_R x4, ab_R x3, ab_R x2, ab_R x1]) (as := [ab_R x1, ab_R x2, ab_R x3, ab_R x4]) (b1 := (3, 0, 0)) 0 (Or.inl rfl) (by decide) ko_X11_playNow qM_11_413 (by decide) rfl rfl rfl rfl rfl (by decide) (Nat.le_of_ble_eq_true rfl) kc_X11_playNow dX11_playNow_40
theorem rX11_playNow_43 : ab_Run X 141 43 (4, 0, 0) L [] σ Q ↔ Q none σ := ab_r_return rfl kc_X11_playNow dX11_playNow_43
theorem kc_X11_leftOddsDried : ab_code 142 = cX11_leftOddsDried := rfl
theorem ko_X11_leftOddsDried : ab_ow 142 = 11 := rfl
theorem rX11_leftOddsDried_0 : ab_Run X 142 0 (4, 0, 0) [ab_R z, l1, l2, l3, l4] st σ Q ↔ z ≠ 0 ∧ ab_Run X 142 1 (4, 0, 0) [ab_R z, l1, l2, l3, l4] (ab_R z :: st) σ Q := ab_r_aload_n rfl kc_X11_leftOddsDried dX11_leftOddsDried_0
theorem rX11_leftOddsDried_1 : ab_Run X 142 1 (4, 0, 0) L (ab_R a :: st) σ Q ↔ (ab_sh σ a).1 = 12 ∧ ab_Run X 142 4 (4, 0, 0) L (ab_R (ab_rd σ a 3) :: st) σ Q := gF_11_33 ko_X11_leftOddsDried kc_X11_leftOddsDried dX11_leftOddsDried_1
theorem rX11_leftOddsDried_4 : ab_Run X 142 4 (4, 0, 0) [ab_R z, l1, l2, l3, l4] st σ Q ↔ z ≠ 0 ∧ ab_Run X 142 5 (4, 0, 0) [ab_R z, l1, l2, l3, l4] (ab_R z :: st) σ Q := ab_r_aload_n rfl kc_X11_leftOddsDried dX11_leftOddsDried_4
theorem rX11_leftOddsDried_5 : ab_Run X 142 5 (4, 0, 0) L (ab_R a :: st) σ Q ↔ (ab_sh σ a).1 = 12 ∧ ab_Run X 142 8 (4, 0, 0) L (ab_R (ab_rd σ a 7) :: st) σ Q := gF_11_58 ko_X11_leftOddsDried kc_X11_leftOddsDried dX11_leftOddsDried_5
theorem rX11_leftOddsDried_8 : ab_Run X 142 8 (4, 0, 0) [ab_R z, l1, l2, l3, l4] st σ Q ↔ z ≠ 0 ∧ ab_Run X 142 9 (4, 0, 0) [ab_R z, l1, l2, l3, l4] (ab_R z :: st) σ Q := ab_r_aload_n rfl kc_X11_leftOddsDried dX11_leftOddsDried_8
theorem rX11_leftOddsDried_9 : ab_Run X 142 9 (4, 0, 0) L (ab_R a :: st) σ Q ↔ (ab_sh σ a).1 = 12 ∧ ab_Run X 142 12 (4, 0, 0) L (ab_R (ab_rd σ a 1) :: st) σ Q := gF_11_19 ko_X11_leftOddsDried kc_X11_leftOddsDried dX11_leftOddsDried_9
theorem rX11_leftOddsDried_12 : ab_Run X 142 12 (4, 0, 0) L (ab_R a :: st) σ Q ↔ (ab_sh σ a).1 = 9 ∧ ab_Run X 142 15 (4, 0, 0) L (ab_R (ab_rd σ a 0) :: st) σ Q := gF_11_112 ko_X11_leftOddsDried kc_X11_leftOddsDried dX11_leftOddsDried_12
theorem rX11_leftOddsDried_15 : ab_Run X 142 15 (4, 0, 0) [l0, ab_I z, l2, l3, l4] st σ Q ↔ ab_Run X 142 16 (4, 0, 0) [l0, ab_I z, l2, l3, l4] (ab_I z :: st) σ Q := ab_r_iload_n rfl kc_X11_leftOddsDried dX11_leftOddsDried_15
theorem rX11_leftOddsDried_16 : ab_Run X 142 16 (4, 0, 0) L (ab_I i :: ab_R a :: st) σ Q ↔ ((ab_sh σ a).1 = 21 ∧ 0 ≤ i ∧ i < (ab_sh σ a).2) ∧ ab_Run X 142 17 (4, 0, 0) L (ab_I (ab_rd σ a i) :: st) σ Q := ab_r_iaload (by decide) kc_X11_leftOddsDried dX11_leftOddsDried_16
theorem rX11_leftOddsDried_17 : ab_Run X 142 17 (4, 0, 0) [l0, l1, l2, l3, ab_I z] st σ Q ↔ ab_Run X 142 19 (4, 0, 0) [l0, l1, l2, l3, ab_I z] (ab_I z :: st) σ Q := ab_r_iload rfl kc_X11_leftOddsDried dX11_leftOddsDried_17
theorem rX11_leftOddsDried_19 : ab_Run X 142 19 (4, 0, 0) L (ab_I x3 :: ab_I x2 :: ab_R x1 :: ab_R a :: st) σ Q ↔ ((ab_sh σ a).1 = 7 ∧ ab_cats st ≤ 8) ∧ ab_Do X 33 [ab_R a, ab_R x1, ab_I x2, ab_I x3] σ (fun r σ' => ab_Run X 142 22 (4, 0, 0) L (ab_psh r st) σ' Q) := ab_r_callV (w := [ab_I x3, ab_I x2, ab_R x1]) (as := [ab_R x1, ab_I x2, ab_I x3]) (b1 := (0, 0, 0)) 0 (Or.inl rfl) (by decide) ko_X11_leftOddsDried qM_11_402 (by decide) rfl rfl rfl rfl rfl (by decide) (Nat.le_of_ble_eq_true rfl) kc_X11_leftOddsDried dX11_leftOddsDried_19
theorem rX11_leftOddsDried_22 : ab_Run X 142 22 (4, 0, 0) [ab_R z, l1, l2, l3, l4] st σ Q ↔ z ≠ 0 ∧ ab_Run X 142 23 (4, 0, 0) [ab_R z, l1, l2, l3, l4] (ab_R z :: st) σ Q := ab_r_aload_n rfl kc_X11_leftOddsDried dX11_leftOddsDried_22
theorem rX11_leftOddsDried_23 : ab_Run X 142 23 (4, 0, 0) [l0, ab_I z, l2, l3, l4] st σ Q ↔ ab_Run X 142 24 (4, 0, 0) [l0, ab_I z, l2, l3, l4] (ab_I z :: st) σ Q := ab_r_iload_n rfl kc_X11_leftOddsDried dX11_leftOddsDried_23
theorem rX11_leftOddsDried_24 : ab_Run X 142 24 (4, 0, 0) [l0, l1, ab_I z, l3, l4] st σ Q ↔ ab_Run X 142 25 (4, 0, 0) [l0, l1, ab_I z, l3, l4] (ab_I z :: st) σ Q := ab_r_iload_n rfl kc_X11_leftOddsDried dX11_leftOddsDried_24
theorem rX11_leftOddsDried_25 : ab_Run X 142 25 (4, 0, 0) [l0, l1, l2, ab_I z, l4] st σ Q ↔ ab_Run X 142 26 (4, 0, 0) [l0, l1, l2, ab_I z, l4] (ab_I z :: st) σ Q := ab_r_iload_n rfl kc_X11_leftOddsDried dX11_leftOddsDried_25
theorem rX11_leftOddsDried_26 : ab_Run X 142 26 (4, 0, 0) L (ab_I x3 :: ab_I x2 :: ab_I x1 :: ab_R a :: st) σ Q ↔ ((ab_sh σ a).1 = 12 ∧ ab_cats st ≤ 8) ∧ ab_Do X 140 [ab_R a, ab_I x1, ab_I x2, ab_I x3] σ (fun r σ' => ab_Run X 142 29 (4, 0, 0) L (ab_psh r st) σ' Q) := ab_r_callV (w := [ab_I x3, ab_I x2, ab_I x1]) (as := [ab_I x1, ab_I x2, ab_I x3]) (b1 := (3, 0, 0)) 0 (Or.inl rfl) (by decide) ko_X11_leftOddsDried qM_11_417 (by decide) rfl rfl rfl rfl rfl (by decide) (Nat.le_of_ble_eq_true rfl) kc_X11_leftOddsDried dX11_leftOddsDried_26
theorem rX11_leftOddsDried_29 : ab_Run X 142 29 (4, 0, 0) [ab_R z, l1, l2, l3, l4] st σ Q ↔ z ≠ 0 ∧ ab_Run X 142 30 (4, 0, 0) [ab_R z, l1, l2, l3, l4] (ab_R z :: st) σ Q := ab_r_aload_n rfl kc_X11_leftOddsDried dX11_leftOddsDried_29
theorem rX11_leftOddsDried_30 : ab_Run X 142 30 (4, 0, 0) L (ab_R a :: st) σ Q ↔ (ab_sh σ a).1 = 12 ∧ ab_Run X 142 33 (4, 0, 0) L (ab_R (ab_rd σ a 3) :: st) σ Q := gF_11_33 ko_X11_leftOddsDried kc_X11_leftOddsDried dX11_leftOddsDried_30
theorem rX11_leftOddsDried_33 : ab_Run X 142 33 (4, 0, 0) L (ab_R a :: st) σ Q ↔ ((ab_sh σ a).1 = 7 ∧ ab_cats st ≤ 8) ∧ ab_Do X 39 [ab_R a] σ (fun r σ' => ab_Run X 142 36 (4, 0, 0) L (ab_psh r st) σ' Q) := ab_r_callV (w := []) (as := []) (b1 := (2, 0, 0)) 0 (Or.inl rfl) (by decide) ko_X11_leftOddsDried qM_11_209 (by decide) rfl rfl rfl rfl rfl (by decide) (Nat.le_of_ble_eq_true rfl) kc_X11_leftOddsDried dX11_leftOddsDried_33
theorem rX11_leftOddsDried_36 : ab_Run X 142 36 (4, 0, 0) [ab_R z, l1, l2, l3, l4] st σ Q ↔ z ≠ 0 ∧ ab_Run X 142 37 (4, 0, 0) [ab_R z, l1, l2, l3, l4] (ab_R z :: st) σ Q := ab_r_aload_n rfl kc_X11_leftOddsDried dX11_leftOddsDried_36
theorem rX11_leftOddsDried_37 : ab_Run X 142 37 (4, 0, 0) L (ab_R a :: st) σ Q ↔ (ab_sh σ a).1 = 12 ∧ ab_Run X 142 40 (4, 0, 0) L (ab_R (ab_rd σ a 3) :: st) σ Q := gF_11_33 ko_X11_leftOddsDried kc_X11_leftOddsDried dX11_leftOddsDried_37
theorem rX11_leftOddsDried_40 : ab_Run X 142 40 (4, 0, 0) L (ab_R a :: st) σ Q ↔ (ab_sh σ a).1 = 7 ∧ ab_Run X 142 43 (4, 0, 0) L (ab_R (ab_rd σ a 2) :: st) σ Q := gF_11_212 ko_X11_leftOddsDried kc_X11_leftOddsDried dX11_leftOddsDried_40
theorem rX11_leftOddsDried_43 : ab_Run X 142 43 (4, 0, 0) L st σ Q ↔ ab_Run X 142 44 (4, 0, 0) L (ab_I 0 :: st) σ Q := ab_r_iconst (by decide) kc_X11_leftOddsDried dX11_leftOddsDried_43
theorem rX11_leftOddsDried_44 : ab_Run X 142 44 (4, 0, 0) L (ab_I i :: ab_R a :: st) σ Q ↔ ((ab_sh σ a).1 = 21 ∧ 0 ≤ i ∧ i < (ab_sh σ a).2) ∧ ab_Run X 142 45 (4, 0, 0) L (ab_I (ab_rd σ a i) :: st) σ Q := ab_r_iaload (by decide) kc_X11_leftOddsDried dX11_leftOddsDried_44
theorem rX11_leftOddsDried_45 : ab_Run X 142 45 (4, 0, 0) L [ab_I v] σ Q ↔ Q (some (ab_I v)) σ := ab_r_ireturnI rfl kc_X11_leftOddsDried dX11_leftOddsDried_45
theorem kc_X11_twiceByLaw : ab_code 143 = cX11_twiceByLaw := rfl
theorem ko_X11_twiceByLaw : ab_ow 143 = 11 := rfl
theorem rX11_twiceByLaw_0 : ab_Run X 143 0 (4, 0, 0) [ab_R z, l1, l2, l3, l4, l5, l6, l7, l8] st σ Q ↔ z ≠ 0 ∧ ab_Run X 143 1 (4, 0, 0) [ab_R z, l1, l2, l3, l4, l5, l6, l7, l8] (ab_R z :: st) σ Q := ab_r_aload_n rfl kc_X11_twiceByLaw dX11_twiceByLaw_0
theorem rX11_twiceByLaw_1 : ab_Run X 143 1 (4, 0, 0) [l0, l1, ab_I z, l3, l4, l5, l6, l7, l8] st σ Q ↔ ab_Run X 143 2 (4, 0, 0) [l0, l1, ab_I z, l3, l4, l5, l6, l7, l8] (ab_I z :: st) σ Q := ab_r_iload_n rfl kc_X11_twiceByLaw dX11_twiceByLaw_1
theorem rX11_twiceByLaw_2 : ab_Run X 143 2 (4, 0, 0) L (ab_I x1 :: ab_R a :: st) σ Q ↔ ((ab_sh σ a).1 = 12 ∧ ab_cats st ≤ 8) ∧ ab_Do X 137 [ab_R a, ab_I x1] σ (fun r σ' => ab_Run X 143 5 (4, 0, 0) L (ab_psh r st) σ' Q) := ab_r_callV (w := [ab_I x1]) (as := [ab_I x1]) (b1 := (1, 0, 0)) 0 (Or.inl rfl) (by decide) ko_X11_twiceByLaw qM_11_168 (by decide) rfl rfl rfl rfl rfl (by decide) (Nat.le_of_ble_eq_true rfl) kc_X11_twiceByLaw dX11_twiceByLaw_2
theorem rX11_twiceByLaw_5 : ab_Run X 143 5 (4, 0, 0) [ab_R z, l1, l2, l3, l4, l5, l6, l7, l8] st σ Q ↔ z ≠ 0 ∧ ab_Run X 143 6 (4, 0, 0) [ab_R z, l1, l2, l3, l4, l5, l6, l7, l8] (ab_R z :: st) σ Q := ab_r_aload_n rfl kc_X11_twiceByLaw dX11_twiceByLaw_5
theorem rX11_twiceByLaw_6 : ab_Run X 143 6 (4, 0, 0) [l0, l1, ab_I z, l3, l4, l5, l6, l7, l8] st σ Q ↔ ab_Run X 143 7 (4, 0, 0) [l0, l1, ab_I z, l3, l4, l5, l6, l7, l8] (ab_I z :: st) σ Q := ab_r_iload_n rfl kc_X11_twiceByLaw dX11_twiceByLaw_6
theorem rX11_twiceByLaw_7 : ab_Run X 143 7 (4, 0, 0) [l0, l1, l2, l3, ab_I z, l5, l6, l7, l8] st σ Q ↔ ab_Run X 143 9 (4, 0, 0) [l0, l1, l2, l3, ab_I z, l5, l6, l7, l8] (ab_I z :: st) σ Q := ab_r_iload rfl kc_X11_twiceByLaw dX11_twiceByLaw_7
theorem rX11_twiceByLaw_9 : ab_Run X 143 9 (4, 0, 0) [l0, l1, l2, ab_I z, l4, l5, l6, l7, l8] st σ Q ↔ ab_Run X 143 10 (4, 0, 0) [l0, l1, l2, ab_I z, l4, l5, l6, l7, l8] (ab_I z :: st) σ Q := ab_r_iload_n rfl kc_X11_twiceByLaw dX11_twiceByLaw_9
theorem rX11_twiceByLaw_10 : ab_Run X 143 10 (4, 0, 0) L (ab_I x3 :: ab_I x2 :: ab_I x1 :: ab_R a :: st) σ Q ↔ ((ab_sh σ a).1 = 12 ∧ ab_cats st ≤ 8) ∧ ab_Do X 140 [ab_R a, ab_I x1, ab_I x2, ab_I x3] σ (fun r σ' => ab_Run X 143 13 (4, 0, 0) L (ab_psh r st) σ' Q) := ab_r_callV (w := [ab_I x3, ab_I x2, ab_I x1]) (as := [ab_I x1, ab_I x2, ab_I x3]) (b1 := (3, 0, 0)) 0 (Or.inl rfl) (by decide) ko_X11_twiceByLaw qM_11_417 (by decide) rfl rfl rfl rfl rfl (by decide) (Nat.le_of_ble_eq_true rfl) kc_X11_twiceByLaw dX11_twiceByLaw_10
theorem rX11_twiceByLaw_13 : ab_Run X 143 13 (4, 0, 0) [ab_R z, l1, l2, l3, l4, l5, l6, l7, l8] st σ Q ↔ z ≠ 0 ∧ ab_Run X 143 14 (4, 0, 0) [ab_R z, l1, l2, l3, l4, l5, l6, l7, l8] (ab_R z :: st) σ Q := ab_r_aload_n rfl kc_X11_twiceByLaw dX11_twiceByLaw_13
theorem rX11_twiceByLaw_14 : ab_Run X 143 14 (4, 0, 0) L (ab_R a :: st) σ Q ↔ (ab_sh σ a).1 = 12 ∧ ab_Run X 143 17 (4, 0, 0) L (ab_R (ab_rd σ a 3) :: st) σ Q := gF_11_33 ko_X11_twiceByLaw kc_X11_twiceByLaw dX11_twiceByLaw_14
theorem rX11_twiceByLaw_17 : ab_Run X 143 17 (4, 0, 0) L (ab_R a :: st) σ Q ↔ ((ab_sh σ a).1 = 7 ∧ ab_cats st ≤ 8) ∧ ab_Do X 39 [ab_R a] σ (fun r σ' => ab_Run X 143 20 (4, 0, 0) L (ab_psh r st) σ' Q) := ab_r_callV (w := []) (as := []) (b1 := (2, 0, 0)) 0 (Or.inl rfl) (by decide) ko_X11_twiceByLaw qM_11_209 (by decide) rfl rfl rfl rfl rfl (by decide) (Nat.le_of_ble_eq_true rfl) kc_X11_twiceByLaw dX11_twiceByLaw_17
theorem rX11_twiceByLaw_20 : ab_Run X 143 20 (4, 0, 0) [ab_R z, l1, l2, l3, l4, l5, l6, l7, l8] st σ Q ↔ z ≠ 0 ∧ ab_Run X 143 21 (4, 0, 0) [ab_R z, l1, l2, l3, l4, l5, l6, l7, l8] (ab_R z :: st) σ Q := ab_r_aload_n rfl kc_X11_twiceByLaw dX11_twiceByLaw_20
theorem rX11_twiceByLaw_21 : ab_Run X 143 21 (4, 0, 0) L (ab_R a :: st) σ Q ↔ (ab_sh σ a).1 = 12 ∧ ab_Run X 143 24 (4, 0, 0) L (ab_R (ab_rd σ a 3) :: st) σ Q := gF_11_33 ko_X11_twiceByLaw kc_X11_twiceByLaw dX11_twiceByLaw_21
theorem rX11_twiceByLaw_24 : ab_Run X 143 24 (4, 0, 0) L (ab_R a :: st) σ Q ↔ (ab_sh σ a).1 = 7 ∧ ab_Run X 143 27 (4, 0, 0) L (ab_R (ab_rd σ a 2) :: st) σ Q := gF_11_212 ko_X11_twiceByLaw kc_X11_twiceByLaw dX11_twiceByLaw_24
theorem rX11_twiceByLaw_27 : ab_Run X 143 27 (4, 0, 0) L st σ Q ↔ ab_Run X 143 28 (4, 0, 0) L (ab_I 0 :: st) σ Q := ab_r_iconst (by decide) kc_X11_twiceByLaw dX11_twiceByLaw_27
theorem rX11_twiceByLaw_28 : ab_Run X 143 28 (4, 0, 0) L (ab_I i :: ab_R a :: st) σ Q ↔ ((ab_sh σ a).1 = 21 ∧ 0 ≤ i ∧ i < (ab_sh σ a).2) ∧ ab_Run X 143 29 (4, 0, 0) L (ab_I (ab_rd σ a i) :: st) σ Q := ab_r_iaload (by decide) kc_X11_twiceByLaw dX11_twiceByLaw_28
theorem rX11_twiceByLaw_29 : ab_Run X 143 29 (4, 0, 0) [l0, l1, l2, l3, l4, l5, l6, l7, l8] (ab_I z :: st) σ Q ↔ (!ab_isJ l4) = true ∧ ab_Run X 143 31 (4, 0, 0) [l0, l1, l2, l3, l4, ab_I z, l6, l7, l8] st σ Q := ab_r_istore (Nat.le_of_ble_eq_true rfl) kc_X11_twiceByLaw dX11_twiceByLaw_29
theorem rX11_twiceByLaw_31 : ab_Run X 143 31 (4, 0, 0) [ab_R z, l1, l2, l3, l4, l5, l6, l7, l8] st σ Q ↔ z ≠ 0 ∧ ab_Run X 143 32 (4, 0, 0) [ab_R z, l1, l2, l3, l4, l5, l6, l7, l8] (ab_R z :: st) σ Q := ab_r_aload_n rfl kc_X11_twiceByLaw dX11_twiceByLaw_31
theorem rX11_twiceByLaw_32 : ab_Run X 143 32 (4, 0, 0) L (ab_R a :: st) σ Q ↔ (ab_sh σ a).1 = 12 ∧ ab_Run X 143 35 (4, 0, 0) L (ab_R (ab_rd σ a 3) :: st) σ Q := gF_11_33 ko_X11_twiceByLaw kc_X11_twiceByLaw dX11_twiceByLaw_32
theorem rX11_twiceByLaw_35 : ab_Run X 143 35 (4, 0, 0) L (ab_R a :: st) σ Q ↔ (ab_sh σ a).1 = 7 ∧ ab_Run X 143 38 (4, 0, 0) L (ab_R (ab_rd σ a 2) :: st) σ Q := gF_11_212 ko_X11_twiceByLaw kc_X11_twiceByLaw dX11_twiceByLaw_35
theorem rX11_twiceByLaw_38 : ab_Run X 143 38 (4, 0, 0) L st σ Q ↔ ab_Run X 143 39 (4, 0, 0) L (ab_I 1 :: st) σ Q := ab_r_iconst (by decide) kc_X11_twiceByLaw dX11_twiceByLaw_38
theorem rX11_twiceByLaw_39 : ab_Run X 143 39 (4, 0, 0) L (ab_I i :: ab_R a :: st) σ Q ↔ ((ab_sh σ a).1 = 21 ∧ 0 ≤ i ∧ i < (ab_sh σ a).2) ∧ ab_Run X 143 40 (4, 0, 0) L (ab_I (ab_rd σ a i) :: st) σ Q := ab_r_iaload (by decide) kc_X11_twiceByLaw dX11_twiceByLaw_39
theorem rX11_twiceByLaw_40 : ab_Run X 143 40 (4, 0, 0) [l0, l1, l2, l3, l4, l5, l6, l7, l8] (ab_I z :: st) σ Q ↔ (!ab_isJ l5) = true ∧ ab_Run X 143 42 (4, 0, 0) [l0, l1, l2, l3, l4, l5, ab_I z, l7, l8] st σ Q := ab_r_istore (Nat.le_of_ble_eq_true rfl) kc_X11_twiceByLaw dX11_twiceByLaw_40
theorem rX11_twiceByLaw_42 : ab_Run X 143 42 (4, 0, 0) [ab_R z, l1, l2, l3, l4, l5, l6, l7, l8] st σ Q ↔ z ≠ 0 ∧ ab_Run X 143 43 (4, 0, 0) [ab_R z, l1, l2, l3, l4, l5, l6, l7, l8] (ab_R z :: st) σ Q := ab_r_aload_n rfl kc_X11_twiceByLaw dX11_twiceByLaw_42
theorem rX11_twiceByLaw_43 : ab_Run X 143 43 (4, 0, 0) [l0, l1, ab_I z, l3, l4, l5, l6, l7, l8] st σ Q ↔ ab_Run X 143 44 (4, 0, 0) [l0, l1, ab_I z, l3, l4, l5, l6, l7, l8] (ab_I z :: st) σ Q := ab_r_iload_n rfl kc_X11_twiceByLaw dX11_twiceByLaw_43
theorem rX11_twiceByLaw_44 : ab_Run X 143 44 (4, 0, 0) [l0, l1, l2, ab_I z, l4, l5, l6, l7, l8] st σ Q ↔ ab_Run X 143 45 (4, 0, 0) [l0, l1, l2, ab_I z, l4, l5, l6, l7, l8] (ab_I z :: st) σ Q := ab_r_iload_n rfl kc_X11_twiceByLaw dX11_twiceByLaw_44
theorem rX11_twiceByLaw_45 : ab_Run X 143 45 (4, 0, 0) [l0, l1, l2, l3, ab_I z, l5, l6, l7, l8] st σ Q ↔ ab_Run X 143 47 (4, 0, 0) [l0, l1, l2, l3, ab_I z, l5, l6, l7, l8] (ab_I z :: st) σ Q := ab_r_iload rfl kc_X11_twiceByLaw dX11_twiceByLaw_45
theorem rX11_twiceByLaw_47 : ab_Run X 143 47 (4, 0, 0) L (ab_I x3 :: ab_I x2 :: ab_I x1 :: ab_R a :: st) σ Q ↔ ((ab_sh σ a).1 = 12 ∧ ab_cats st ≤ 8) ∧ ab_Do X 140 [ab_R a, ab_I x1, ab_I x2, ab_I x3] σ (fun r σ' => ab_Run X 143 50 (4, 0, 0) L (ab_psh r st) σ' Q) := ab_r_callV (w := [ab_I x3, ab_I x2, ab_I x1]) (as := [ab_I x1, ab_I x2, ab_I x3]) (b1 := (3, 0, 0)) 0 (Or.inl rfl) (by decide) ko_X11_twiceByLaw qM_11_417 (by decide) rfl rfl rfl rfl rfl (by decide) (Nat.le_of_ble_eq_true rfl) kc_X11_twiceByLaw dX11_twiceByLaw_47
theorem rX11_twiceByLaw_50 : ab_Run X 143 50 (4, 0, 0) [ab_R z, l1, l2, l3, l4, l5, l6, l7, l8] st σ Q ↔ z ≠ 0 ∧ ab_Run X 143 51 (4, 0, 0) [ab_R z, l1, l2, l3, l4, l5, l6, l7, l8] (ab_R z :: st) σ Q := ab_r_aload_n rfl kc_X11_twiceByLaw dX11_twiceByLaw_50
theorem rX11_twiceByLaw_51 : ab_Run X 143 51 (4, 0, 0) L (ab_R a :: st) σ Q ↔ (ab_sh σ a).1 = 12 ∧ ab_Run X 143 54 (4, 0, 0) L (ab_R (ab_rd σ a 3) :: st) σ Q := gF_11_33 ko_X11_twiceByLaw kc_X11_twiceByLaw dX11_twiceByLaw_51
theorem rX11_twiceByLaw_54 : ab_Run X 143 54 (4, 0, 0) L (ab_R a :: st) σ Q ↔ ((ab_sh σ a).1 = 7 ∧ ab_cats st ≤ 8) ∧ ab_Do X 39 [ab_R a] σ (fun r σ' => ab_Run X 143 57 (4, 0, 0) L (ab_psh r st) σ' Q) := ab_r_callV (w := []) (as := []) (b1 := (2, 0, 0)) 0 (Or.inl rfl) (by decide) ko_X11_twiceByLaw qM_11_209 (by decide) rfl rfl rfl rfl rfl (by decide) (Nat.le_of_ble_eq_true rfl) kc_X11_twiceByLaw dX11_twiceByLaw_54
theorem rX11_twiceByLaw_57 : ab_Run X 143 57 (4, 0, 0) [ab_R z, l1, l2, l3, l4, l5, l6, l7, l8] st σ Q ↔ z ≠ 0 ∧ ab_Run X 143 58 (4, 0, 0) [ab_R z, l1, l2, l3, l4, l5, l6, l7, l8] (ab_R z :: st) σ Q := ab_r_aload_n rfl kc_X11_twiceByLaw dX11_twiceByLaw_57
theorem rX11_twiceByLaw_58 : ab_Run X 143 58 (4, 0, 0) L (ab_R a :: st) σ Q ↔ (ab_sh σ a).1 = 12 ∧ ab_Run X 143 61 (4, 0, 0) L (ab_R (ab_rd σ a 3) :: st) σ Q := gF_11_33 ko_X11_twiceByLaw kc_X11_twiceByLaw dX11_twiceByLaw_58
theorem rX11_twiceByLaw_61 : ab_Run X 143 61 (4, 0, 0) L (ab_R a :: st) σ Q ↔ (ab_sh σ a).1 = 7 ∧ ab_Run X 143 64 (4, 0, 0) L (ab_R (ab_rd σ a 2) :: st) σ Q := gF_11_212 ko_X11_twiceByLaw kc_X11_twiceByLaw dX11_twiceByLaw_61
theorem rX11_twiceByLaw_64 : ab_Run X 143 64 (4, 0, 0) L st σ Q ↔ ab_Run X 143 65 (4, 0, 0) L (ab_I 0 :: st) σ Q := ab_r_iconst (by decide) kc_X11_twiceByLaw dX11_twiceByLaw_64
theorem rX11_twiceByLaw_65 : ab_Run X 143 65 (4, 0, 0) L (ab_I i :: ab_R a :: st) σ Q ↔ ((ab_sh σ a).1 = 21 ∧ 0 ≤ i ∧ i < (ab_sh σ a).2) ∧ ab_Run X 143 66 (4, 0, 0) L (ab_I (ab_rd σ a i) :: st) σ Q := ab_r_iaload (by decide) kc_X11_twiceByLaw dX11_twiceByLaw_65
theorem rX11_twiceByLaw_66 : ab_Run X 143 66 (4, 0, 0) [l0, l1, l2, l3, l4, l5, l6, l7, l8] (ab_I z :: st) σ Q ↔ (!ab_isJ l6) = true ∧ ab_Run X 143 68 (4, 0, 0) [l0, l1, l2, l3, l4, l5, l6, ab_I z, l8] st σ Q := ab_r_istore (Nat.le_of_ble_eq_true rfl) kc_X11_twiceByLaw dX11_twiceByLaw_66
theorem rX11_twiceByLaw_68 : ab_Run X 143 68 (4, 0, 0) [ab_R z, l1, l2, l3, l4, l5, l6, l7, l8] st σ Q ↔ z ≠ 0 ∧ ab_Run X 143 69 (4, 0, 0) [ab_R z, l1, l2, l3, l4, l5, l6, l7, l8] (ab_R z :: st) σ Q := ab_r_aload_n rfl kc_X11_twiceByLaw dX11_twiceByLaw_68
theorem rX11_twiceByLaw_69 : ab_Run X 143 69 (4, 0, 0) L (ab_R a :: st) σ Q ↔ (ab_sh σ a).1 = 12 ∧ ab_Run X 143 72 (4, 0, 0) L (ab_R (ab_rd σ a 3) :: st) σ Q := gF_11_33 ko_X11_twiceByLaw kc_X11_twiceByLaw dX11_twiceByLaw_69
theorem rX11_twiceByLaw_72 : ab_Run X 143 72 (4, 0, 0) L (ab_R a :: st) σ Q ↔ (ab_sh σ a).1 = 7 ∧ ab_Run X 143 75 (4, 0, 0) L (ab_R (ab_rd σ a 2) :: st) σ Q := gF_11_212 ko_X11_twiceByLaw kc_X11_twiceByLaw dX11_twiceByLaw_72
theorem rX11_twiceByLaw_75 : ab_Run X 143 75 (4, 0, 0) L st σ Q ↔ ab_Run X 143 76 (4, 0, 0) L (ab_I 1 :: st) σ Q := ab_r_iconst (by decide) kc_X11_twiceByLaw dX11_twiceByLaw_75
theorem rX11_twiceByLaw_76 : ab_Run X 143 76 (4, 0, 0) L (ab_I i :: ab_R a :: st) σ Q ↔ ((ab_sh σ a).1 = 21 ∧ 0 ≤ i ∧ i < (ab_sh σ a).2) ∧ ab_Run X 143 77 (4, 0, 0) L (ab_I (ab_rd σ a i) :: st) σ Q := ab_r_iaload (by decide) kc_X11_twiceByLaw dX11_twiceByLaw_76
theorem rX11_twiceByLaw_77 : ab_Run X 143 77 (4, 0, 0) [l0, l1, l2, l3, l4, l5, l6, l7, l8] (ab_I z :: st) σ Q ↔ (!ab_isJ l7) = true ∧ ab_Run X 143 79 (4, 0, 0) [l0, l1, l2, l3, l4, l5, l6, l7, ab_I z] st σ Q := ab_r_istore (Nat.le_of_ble_eq_true rfl) kc_X11_twiceByLaw dX11_twiceByLaw_77
theorem rX11_twiceByLaw_79 : ab_Run X 143 79 (4, 0, 0) [l0, ab_I z, l2, l3, l4, l5, l6, l7, l8] st σ Q ↔ ab_Run X 143 80 (4, 0, 0) [l0, ab_I z, l2, l3, l4, l5, l6, l7, l8] (ab_I z :: st) σ Q := ab_r_iload_n rfl kc_X11_twiceByLaw dX11_twiceByLaw_79
theorem rX11_twiceByLaw_80_0 : ab_Run X 143 80 (4, 0, 0) L (ab_I 0 :: st) σ Q ↔ ab_Run X 143 108 (4, 0, 0) L st σ Q := ab_r_tsw (by decide) rfl rfl kc_X11_twiceByLaw dX11_twiceByLaw_80
theorem rX11_twiceByLaw_80_1 : ab_Run X 143 80 (4, 0, 0) L (ab_I 1 :: st) σ Q ↔ ab_Run X 143 113 (4, 0, 0) L st σ Q := ab_r_tsw (by decide) rfl rfl kc_X11_twiceByLaw dX11_twiceByLaw_80
theorem rX11_twiceByLaw_80_2 : ab_Run X 143 80 (4, 0, 0) L (ab_I 2 :: st) σ Q ↔ ab_Run X 143 136 (4, 0, 0) L st σ Q := ab_r_tsw (by decide) rfl rfl kc_X11_twiceByLaw dX11_twiceByLaw_80
theorem rX11_twiceByLaw_80_d (h : a < 0 ∨ 2 < a) : ab_Run X 143 80 (4, 0, 0) L (ab_I a :: st) σ Q ↔ ab_Run X 143 160 (4, 0, 0) L st σ Q := ab_r_tswd h rfl kc_X11_twiceByLaw dX11_twiceByLaw_80
theorem rX11_twiceByLaw_108 : ab_Run X 143 108 (4, 0, 0) L st σ Q ↔ ab_Run X 143 109 (4, 0, 0) L (ab_I 2 :: st) σ Q := ab_r_iconst (by decide) kc_X11_twiceByLaw dX11_twiceByLaw_108
theorem rX11_twiceByLaw_109 : ab_Run X 143 109 (4, 0, 0) [l0, l1, l2, l3, l4, l5, l6, ab_I z, l8] st σ Q ↔ ab_Run X 143 111 (4, 0, 0) [l0, l1, l2, l3, l4, l5, l6, ab_I z, l8] (ab_I z :: st) σ Q := ab_r_iload rfl kc_X11_twiceByLaw dX11_twiceByLaw_109
theorem rX11_twiceByLaw_111 : ab_Run X 143 111 (4, 0, 0) L (ab_I b :: ab_I a :: st) σ Q ↔ ab_Run X 143 112 (4, 0, 0) L (ab_I (ab_w32 (a * b)) :: st) σ Q := ab_r_imul kc_X11_twiceByLaw dX11_twiceByLaw_111
theorem rX11_twiceByLaw_112 : ab_Run X 143 112 (4, 0, 0) L [ab_I v] σ Q ↔ Q (some (ab_I v)) σ := ab_r_ireturnI rfl kc_X11_twiceByLaw dX11_twiceByLaw_112
theorem rX11_twiceByLaw_113 : ab_Run X 143 113 (4, 0, 0) L st σ Q ↔ ab_Run X 143 114 (4, 0, 0) L (ab_I 2 :: st) σ Q := ab_r_iconst (by decide) kc_X11_twiceByLaw dX11_twiceByLaw_113
theorem rX11_twiceByLaw_114 : ab_Run X 143 114 (4, 0, 0) [ab_R z, l1, l2, l3, l4, l5, l6, l7, l8] st σ Q ↔ z ≠ 0 ∧ ab_Run X 143 115 (4, 0, 0) [ab_R z, l1, l2, l3, l4, l5, l6, l7, l8] (ab_R z :: st) σ Q := ab_r_aload_n rfl kc_X11_twiceByLaw dX11_twiceByLaw_114
theorem rX11_twiceByLaw_115 : ab_Run X 143 115 (4, 0, 0) [l0, l1, ab_I z, l3, l4, l5, l6, l7, l8] st σ Q ↔ ab_Run X 143 116 (4, 0, 0) [l0, l1, ab_I z, l3, l4, l5, l6, l7, l8] (ab_I z :: st) σ Q := ab_r_iload_n rfl kc_X11_twiceByLaw dX11_twiceByLaw_115
theorem rX11_twiceByLaw_116 : ab_Run X 143 116 (4, 0, 0) [l0, l1, l2, ab_I z, l4, l5, l6, l7, l8] st σ Q ↔ ab_Run X 143 117 (4, 0, 0) [l0, l1, l2, ab_I z, l4, l5, l6, l7, l8] (ab_I z :: st) σ Q := ab_r_iload_n rfl kc_X11_twiceByLaw dX11_twiceByLaw_116
theorem rX11_twiceByLaw_117 : ab_Run X 143 117 (4, 0, 0) [l0, l1, l2, l3, l4, l5, l6, ab_I z, l8] st σ Q ↔ ab_Run X 143 119 (4, 0, 0) [l0, l1, l2, l3, l4, l5, l6, ab_I z, l8] (ab_I z :: st) σ Q := ab_r_iload rfl kc_X11_twiceByLaw dX11_twiceByLaw_117
theorem rX11_twiceByLaw_119 : ab_Run X 143 119 (4, 0, 0) [l0, l1, l2, l3, l4, l5, ab_I z, l7, l8] st σ Q ↔ ab_Run X 143 121 (4, 0, 0) [l0, l1, l2, l3, l4, l5, ab_I z, l7, l8] (ab_I z :: st) σ Q := ab_r_iload rfl kc_X11_twiceByLaw dX11_twiceByLaw_119
theorem rX11_twiceByLaw_121 : ab_Run X 143 121 (4, 0, 0) L (ab_I x4 :: ab_I x3 :: ab_I x2 :: ab_I x1 :: ab_R a :: st) σ Q ↔ ((ab_sh σ a).1 = 12 ∧ ab_cats st ≤ 8) ∧ ab_Do X 144 [ab_R a, ab_I x1, ab_I x2, ab_I x3, ab_I x4] σ (fun r σ' => ab_Run X 143 124 (4, 0, 0) L (ab_psh r st) σ' Q) := ab_r_callV (w := [ab_I x4, ab_I x3, ab_I x2, ab_I x1]) (as := [ab_I x1, ab_I x2, ab_I x3, ab_I x4]) (b1 := (2, 0, 0)) 0 (Or.inl rfl) (by decide) ko_X11_twiceByLaw qM_11_420 (by decide) rfl rfl rfl rfl rfl (by decide) (Nat.le_of_ble_eq_true rfl) kc_X11_twiceByLaw dX11_twiceByLaw_121
theorem rX11_twiceByLaw_124 : ab_Run X 143 124 (4, 0, 0) L (ab_I a :: st) σ Q ↔ (a = 0 → ab_Run X 143 132 (4, 0, 0) L st σ Q) ∧ (¬ (a = 0) → ab_Run X 143 127 (4, 0, 0) L st σ Q) := ab_r_if_eq rfl kc_X11_twiceByLaw dX11_twiceByLaw_124
theorem rX11_twiceByLaw_127 : ab_Run X 143 127 (4, 0, 0) [l0, l1, l2, l3, l4, l5, l6, ab_I z, l8] st σ Q ↔ ab_Run X 143 129 (4, 0, 0) [l0, l1, l2, l3, l4, l5, l6, ab_I z, l8] (ab_I z :: st) σ Q := ab_r_iload rfl kc_X11_twiceByLaw dX11_twiceByLaw_127
theorem rX11_twiceByLaw_129 : ab_Run X 143 129 (4, 0, 0) L st σ Q ↔ ab_Run X 143 134 (4, 0, 0) L st σ Q := ab_r_goto rfl kc_X11_twiceByLaw dX11_twiceByLaw_129
theorem rX11_twiceByLaw_132 : ab_Run X 143 132 (4, 0, 0) [l0, l1, l2, l3, l4, l5, ab_I z, l7, l8] st σ Q ↔ ab_Run X 143 134 (4, 0, 0) [l0, l1, l2, l3, l4, l5, ab_I z, l7, l8] (ab_I z :: st) σ Q := ab_r_iload rfl kc_X11_twiceByLaw dX11_twiceByLaw_132
theorem rX11_twiceByLaw_134 : ab_Run X 143 134 (4, 0, 0) L (ab_I b :: ab_I a :: st) σ Q ↔ ab_Run X 143 135 (4, 0, 0) L (ab_I (ab_w32 (a * b)) :: st) σ Q := ab_r_imul kc_X11_twiceByLaw dX11_twiceByLaw_134
theorem rX11_twiceByLaw_135 : ab_Run X 143 135 (4, 0, 0) L [ab_I v] σ Q ↔ Q (some (ab_I v)) σ := ab_r_ireturnI rfl kc_X11_twiceByLaw dX11_twiceByLaw_135
theorem rX11_twiceByLaw_136 : ab_Run X 143 136 (4, 0, 0) L st σ Q ↔ ab_Run X 143 137 (4, 0, 0) L (ab_I 2 :: st) σ Q := ab_r_iconst (by decide) kc_X11_twiceByLaw dX11_twiceByLaw_136
theorem rX11_twiceByLaw_137 : ab_Run X 143 137 (4, 0, 0) [ab_R z, l1, l2, l3, l4, l5, l6, l7, l8] st σ Q ↔ z ≠ 0 ∧ ab_Run X 143 138 (4, 0, 0) [ab_R z, l1, l2, l3, l4, l5, l6, l7, l8] (ab_R z :: st) σ Q := ab_r_aload_n rfl kc_X11_twiceByLaw dX11_twiceByLaw_137
theorem rX11_twiceByLaw_138 : ab_Run X 143 138 (4, 0, 0) [l0, l1, ab_I z, l3, l4, l5, l6, l7, l8] st σ Q ↔ ab_Run X 143 139 (4, 0, 0) [l0, l1, ab_I z, l3, l4, l5, l6, l7, l8] (ab_I z :: st) σ Q := ab_r_iload_n rfl kc_X11_twiceByLaw dX11_twiceByLaw_138
theorem rX11_twiceByLaw_139 : ab_Run X 143 139 (4, 0, 0) [l0, l1, l2, l3, ab_I z, l5, l6, l7, l8] st σ Q ↔ ab_Run X 143 141 (4, 0, 0) [l0, l1, l2, l3, ab_I z, l5, l6, l7, l8] (ab_I z :: st) σ Q := ab_r_iload rfl kc_X11_twiceByLaw dX11_twiceByLaw_139
theorem rX11_twiceByLaw_141 : ab_Run X 143 141 (4, 0, 0) [l0, l1, l2, l3, l4, ab_I z, l6, l7, l8] st σ Q ↔ ab_Run X 143 143 (4, 0, 0) [l0, l1, l2, l3, l4, ab_I z, l6, l7, l8] (ab_I z :: st) σ Q := ab_r_iload rfl kc_X11_twiceByLaw dX11_twiceByLaw_141
theorem rX11_twiceByLaw_143 : ab_Run X 143 143 (4, 0, 0) [l0, l1, l2, l3, l4, l5, l6, l7, ab_I z] st σ Q ↔ ab_Run X 143 145 (4, 0, 0) [l0, l1, l2, l3, l4, l5, l6, l7, ab_I z] (ab_I z :: st) σ Q := ab_r_iload rfl kc_X11_twiceByLaw dX11_twiceByLaw_143
theorem rX11_twiceByLaw_145 : ab_Run X 143 145 (4, 0, 0) L (ab_I x4 :: ab_I x3 :: ab_I x2 :: ab_I x1 :: ab_R a :: st) σ Q ↔ ((ab_sh σ a).1 = 12 ∧ ab_cats st ≤ 8) ∧ ab_Do X 144 [ab_R a, ab_I x1, ab_I x2, ab_I x3, ab_I x4] σ (fun r σ' => ab_Run X 143 148 (4, 0, 0) L (ab_psh r st) σ' Q) := ab_r_callV (w := [ab_I x4, ab_I x3, ab_I x2, ab_I x1]) (as := [ab_I x1, ab_I x2, ab_I x3, ab_I x4]) (b1 := (2, 0, 0)) 0 (Or.inl rfl) (by decide) ko_X11_twiceByLaw qM_11_420 (by decide) rfl rfl rfl rfl rfl (by decide) (Nat.le_of_ble_eq_true rfl) kc_X11_twiceByLaw dX11_twiceByLaw_145
theorem rX11_twiceByLaw_148 : ab_Run X 143 148 (4, 0, 0) L (ab_I a :: st) σ Q ↔ (a = 0 → ab_Run X 143 156 (4, 0, 0) L st σ Q) ∧ (¬ (a = 0) → ab_Run X 143 151 (4, 0, 0) L st σ Q) := ab_r_if_eq rfl kc_X11_twiceByLaw dX11_twiceByLaw_148
theorem rX11_twiceByLaw_151 : ab_Run X 143 151 (4, 0, 0) [l0, l1, l2, l3, l4, l5, ab_I z, l7, l8] st σ Q ↔ ab_Run X 143 153 (4, 0, 0) [l0, l1, l2, l3, l4, l5, ab_I z, l7, l8] (ab_I z :: st) σ Q := ab_r_iload rfl kc_X11_twiceByLaw dX11_twiceByLaw_151
theorem rX11_twiceByLaw_153 : ab_Run X 143 153 (4, 0, 0) L st σ Q ↔ ab_Run X 143 158 (4, 0, 0) L st σ Q := ab_r_goto rfl kc_X11_twiceByLaw dX11_twiceByLaw_153
theorem rX11_twiceByLaw_156 : ab_Run X 143 156 (4, 0, 0) [l0, l1, l2, l3, l4, l5, l6, ab_I z, l8] st σ Q ↔ ab_Run X 143 158 (4, 0, 0) [l0, l1, l2, l3, l4, l5, l6, ab_I z, l8] (ab_I z :: st) σ Q := ab_r_iload rfl kc_X11_twiceByLaw dX11_twiceByLaw_156
theorem rX11_twiceByLaw_158 : ab_Run X 143 158 (4, 0, 0) L (ab_I b :: ab_I a :: st) σ Q ↔ ab_Run X 143 159 (4, 0, 0) L (ab_I (ab_w32 (a * b)) :: st) σ Q := ab_r_imul kc_X11_twiceByLaw dX11_twiceByLaw_158
theorem rX11_twiceByLaw_159 : ab_Run X 143 159 (4, 0, 0) L [ab_I v] σ Q ↔ Q (some (ab_I v)) σ := ab_r_ireturnI rfl kc_X11_twiceByLaw dX11_twiceByLaw_159
theorem rX11_twiceByLaw_160 : ab_Run X 143 160 (4, 0, 0) [l0, l1, l2, l3, l4, l5, l6, ab_I z, l8] st σ Q ↔ ab_Run X 143 162 (4, 0, 0) [l0, l1, l2, l3, l4, l5, l6, ab_I z, l8] (ab_I z :: st) σ Q := ab_r_iload rfl kc_X11_twiceByLaw dX11_twiceByLaw_160
theorem rX11_twiceByLaw_162 : ab_Run X 143 162 (4, 0, 0) [l0, l1, l2, l3, l4, l5, ab_I z, l7, l8] st σ Q ↔ ab_Run X 143 164 (4, 0, 0) [l0, l1, l2, l3, l4, l5, ab_I z, l7, l8] (ab_I z :: st) σ Q := ab_r_iload rfl kc_X11_twiceByLaw dX11_twiceByLaw_162
theorem rX11_twiceByLaw_164 : ab_Run X 143 164 (4, 0, 0) L (ab_I b :: ab_I a :: st) σ Q ↔ ab_Run X 143 165 (4, 0, 0) L (ab_I (ab_w32 (a + b)) :: st) σ Q := ab_r_iadd kc_X11_twiceByLaw dX11_twiceByLaw_164
theorem rX11_twiceByLaw_165 : ab_Run X 143 165 (4, 0, 0) L [ab_I v] σ Q ↔ Q (some (ab_I v)) σ := ab_r_ireturnI rfl kc_X11_twiceByLaw dX11_twiceByLaw_165
theorem kc_X11_takesLeft : ab_code 144 = cX11_takesLeft := rfl
theorem ko_X11_takesLeft : ab_ow 144 = 11 := rfl
theorem rX11_takesLeft_0 : ab_Run X 144 0 (2, 0, 0) [ab_R z, l1, l2, l3, l4] st σ Q ↔ z ≠ 0 ∧ ab_Run X 144 1 (2, 0, 0) [ab_R z, l1, l2, l3, l4] (ab_R z :: st) σ Q := ab_r_aload_n rfl kc_X11_takesLeft dX11_takesLeft_0
theorem rX11_takesLeft_1 : ab_Run X 144 1 (2, 0, 0) L (ab_R a :: st) σ Q ↔ (ab_sh σ a).1 = 12 ∧ ab_Run X 144 4 (2, 0, 0) L (ab_R (ab_rd σ a 7) :: st) σ Q := gF_11_58 ko_X11_takesLeft kc_X11_takesLeft dX11_takesLeft_1
theorem rX11_takesLeft_4 : ab_Run X 144 4 (2, 0, 0) L (ab_R a :: st) σ Q ↔ (ab_sh σ a).1 = 5 ∧ ab_Run X 144 7 (2, 0, 0) L (ab_R (ab_rd σ a 8) :: st) σ Q := gF_11_142 ko_X11_takesLeft kc_X11_takesLeft dX11_takesLeft_4
theorem rX11_takesLeft_7 : ab_Run X 144 7 (2, 0, 0) [l0, l1, ab_I z, l3, l4] st σ Q ↔ ab_Run X 144 8 (2, 0, 0) [l0, l1, ab_I z, l3, l4] (ab_I z :: st) σ Q := ab_r_iload_n rfl kc_X11_takesLeft dX11_takesLeft_7
theorem rX11_takesLeft_8 : ab_Run X 144 8 (2, 0, 0) L (ab_I i :: ab_R a :: st) σ Q ↔ ((25 ≤ (ab_sh σ a).1 ∧ (ab_sh σ a).1 < 30) ∧ 0 ≤ i ∧ i < (ab_sh σ a).2) ∧ ab_Run X 144 9 (2, 0, 0) L (ab_R (ab_rd σ a i) :: st) σ Q := ab_r_aaload kc_X11_takesLeft dX11_takesLeft_8
theorem rX11_takesLeft_9 : ab_Run X 144 9 (2, 0, 0) L (ab_R a :: st) σ Q ↔ (ab_sh σ a).1 = 6 ∧ ab_Run X 144 12 (2, 0, 0) L (ab_I (ab_rd σ a 1) :: st) σ Q := gF_11_146 ko_X11_takesLeft kc_X11_takesLeft dX11_takesLeft_9
theorem rX11_takesLeft_12 : ab_Run X 144 12 (2, 0, 0) L st σ Q ↔ ab_Run X 144 13 (2, 0, 0) L (ab_I 1 :: st) σ Q := ab_r_iconst (by decide) kc_X11_takesLeft dX11_takesLeft_12
theorem rX11_takesLeft_13 : ab_Run X 144 13 (2, 0, 0) L (ab_I b :: ab_I a :: st) σ Q ↔ (¬ a = b → ab_Run X 144 51 (2, 0, 0) L st σ Q) ∧ (¬ (¬ a = b) → ab_Run X 144 16 (2, 0, 0) L st σ Q) := ab_r_icmp_ne rfl kc_X11_takesLeft dX11_takesLeft_13
theorem rX11_takesLeft_16 : ab_Run X 144 16 (2, 0, 0) [ab_R z, l1, l2, l3, l4] st σ Q ↔ z ≠ 0 ∧ ab_Run X 144 17 (2, 0, 0) [ab_R z, l1, l2, l3, l4] (ab_R z :: st) σ Q := ab_r_aload_n rfl kc_X11_takesLeft dX11_takesLeft_16
theorem rX11_takesLeft_17 : ab_Run X 144 17 (2, 0, 0) L (ab_R a :: st) σ Q ↔ (ab_sh σ a).1 = 12 ∧ ab_Run X 144 20 (2, 0, 0) L (ab_R (ab_rd σ a 7) :: st) σ Q := gF_11_58 ko_X11_takesLeft kc_X11_takesLeft dX11_takesLeft_17
theorem rX11_takesLeft_20 : ab_Run X 144 20 (2, 0, 0) L (ab_R a :: st) σ Q ↔ (ab_sh σ a).1 = 5 ∧ ab_Run X 144 23 (2, 0, 0) L (ab_R (ab_rd σ a 6) :: st) σ Q := gF_11_118 ko_X11_takesLeft kc_X11_takesLeft dX11_takesLeft_20
theorem rX11_takesLeft_23 : ab_Run X 144 23 (2, 0, 0) [l0, ab_I z, l2, l3, l4] st σ Q ↔ ab_Run X 144 24 (2, 0, 0) [l0, ab_I z, l2, l3, l4] (ab_I z :: st) σ Q := ab_r_iload_n rfl kc_X11_takesLeft dX11_takesLeft_23
theorem rX11_takesLeft_24 : ab_Run X 144 24 (2, 0, 0) L (ab_I i :: ab_R a :: st) σ Q ↔ ((25 ≤ (ab_sh σ a).1 ∧ (ab_sh σ a).1 < 30) ∧ 0 ≤ i ∧ i < (ab_sh σ a).2) ∧ ab_Run X 144 25 (2, 0, 0) L (ab_R (ab_rd σ a i) :: st) σ Q := ab_r_aaload kc_X11_takesLeft dX11_takesLeft_24
theorem rX11_takesLeft_25 : ab_Run X 144 25 (2, 0, 0) L st σ Q ↔ ab_Run X 144 26 (2, 0, 0) L (ab_I 0 :: st) σ Q := ab_r_iconst (by decide) kc_X11_takesLeft dX11_takesLeft_25
theorem rX11_takesLeft_26 : ab_Run X 144 26 (2, 0, 0) L (ab_I x1 :: ab_R a :: st) σ Q ↔ ((ab_sh σ a).1 = 2 ∧ ab_cats st ≤ 8) ∧ ab_Do X 9 [ab_R a, ab_I x1] σ (fun r σ' => ab_Run X 144 29 (2, 0, 0) L (ab_psh r st) σ' Q) := ab_r_callV (w := [ab_I x1]) (as := [ab_I x1]) (b1 := (1, 0, 0)) 0 (Or.inl rfl) (by decide) ko_X11_takesLeft qM_11_424 (by decide) rfl rfl rfl rfl rfl (by decide) (Nat.le_of_ble_eq_true rfl) kc_X11_takesLeft dX11_takesLeft_26
theorem rX11_takesLeft_29 : ab_Run X 144 29 (2, 0, 0) [ab_R z, l1, l2, l3, l4] st σ Q ↔ z ≠ 0 ∧ ab_Run X 144 30 (2, 0, 0) [ab_R z, l1, l2, l3, l4] (ab_R z :: st) σ Q := ab_r_aload_n rfl kc_X11_takesLeft dX11_takesLeft_29
theorem rX11_takesLeft_30 : ab_Run X 144 30 (2, 0, 0) L (ab_R a :: st) σ Q ↔ (ab_sh σ a).1 = 12 ∧ ab_Run X 144 33 (2, 0, 0) L (ab_R (ab_rd σ a 7) :: st) σ Q := gF_11_58 ko_X11_takesLeft kc_X11_takesLeft dX11_takesLeft_30
theorem rX11_takesLeft_33 : ab_Run X 144 33 (2, 0, 0) L (ab_R a :: st) σ Q ↔ (ab_sh σ a).1 = 5 ∧ ab_Run X 144 36 (2, 0, 0) L (ab_R (ab_rd σ a 6) :: st) σ Q := gF_11_118 ko_X11_takesLeft kc_X11_takesLeft dX11_takesLeft_33
theorem rX11_takesLeft_36 : ab_Run X 144 36 (2, 0, 0) [l0, ab_I z, l2, l3, l4] st σ Q ↔ ab_Run X 144 37 (2, 0, 0) [l0, ab_I z, l2, l3, l4] (ab_I z :: st) σ Q := ab_r_iload_n rfl kc_X11_takesLeft dX11_takesLeft_36
theorem rX11_takesLeft_37 : ab_Run X 144 37 (2, 0, 0) L (ab_I i :: ab_R a :: st) σ Q ↔ ((25 ≤ (ab_sh σ a).1 ∧ (ab_sh σ a).1 < 30) ∧ 0 ≤ i ∧ i < (ab_sh σ a).2) ∧ ab_Run X 144 38 (2, 0, 0) L (ab_R (ab_rd σ a i) :: st) σ Q := ab_r_aaload kc_X11_takesLeft dX11_takesLeft_37
theorem rX11_takesLeft_38 : ab_Run X 144 38 (2, 0, 0) L st σ Q ↔ ab_Run X 144 39 (2, 0, 0) L (ab_I 1 :: st) σ Q := ab_r_iconst (by decide) kc_X11_takesLeft dX11_takesLeft_38
theorem rX11_takesLeft_39 : ab_Run X 144 39 (2, 0, 0) L (ab_I x1 :: ab_R a :: st) σ Q ↔ ((ab_sh σ a).1 = 2 ∧ ab_cats st ≤ 8) ∧ ab_Do X 9 [ab_R a, ab_I x1] σ (fun r σ' => ab_Run X 144 42 (2, 0, 0) L (ab_psh r st) σ' Q) := ab_r_callV (w := [ab_I x1]) (as := [ab_I x1]) (b1 := (1, 0, 0)) 0 (Or.inl rfl) (by decide) ko_X11_takesLeft qM_11_424 (by decide) rfl rfl rfl rfl rfl (by decide) (Nat.le_of_ble_eq_true rfl) kc_X11_takesLeft dX11_takesLeft_39
theorem rX11_takesLeft_42 : ab_Run X 144 42 (2, 0, 0) L (ab_I b :: ab_I a :: st) σ Q ↔ (a < b → ab_Run X 144 49 (2, 0, 0) L st σ Q) ∧ (¬ (a < b) → ab_Run X 144 45 (2, 0, 0) L st σ Q) := ab_r_icmp_lt rfl kc_X11_takesLeft dX11_takesLeft_42
theorem rX11_takesLeft_45 : ab_Run X 144 45 (2, 0, 0) L st σ Q ↔ ab_Run X 144 46 (2, 0, 0) L (ab_I 1 :: st) σ Q := ab_r_iconst (by decide) kc_X11_takesLeft dX11_takesLeft_45
theorem rX11_takesLeft_46 : ab_Run X 144 46 (2, 0, 0) L st σ Q ↔ ab_Run X 144 50 (2, 0, 0) L st σ Q := ab_r_goto rfl kc_X11_takesLeft dX11_takesLeft_46
theorem rX11_takesLeft_49 : ab_Run X 144 49 (2, 0, 0) L st σ Q ↔ ab_Run X 144 50 (2, 0, 0) L (ab_I 0 :: st) σ Q := ab_r_iconst (by decide) kc_X11_takesLeft dX11_takesLeft_49
theorem rX11_takesLeft_50 : ab_Run X 144 50 (2, 0, 0) L [ab_I v] σ Q ↔ (v = 0 ∨ v = 1) ∧ Q (some (ab_I v)) σ := ab_r_ireturnZ rfl kc_X11_takesLeft dX11_takesLeft_50
theorem rX11_takesLeft_51 : ab_Run X 144 51 (2, 0, 0) [l0, l1, l2, ab_I z, l4] st σ Q ↔ ab_Run X 144 52 (2, 0, 0) [l0, l1, l2, ab_I z, l4] (ab_I z :: st) σ Q := ab_r_iload_n rfl kc_X11_takesLeft dX11_takesLeft_51
theorem rX11_takesLeft_52 : ab_Run X 144 52 (2, 0, 0) [l0, l1, l2, l3, ab_I z] st σ Q ↔ ab_Run X 144 54 (2, 0, 0) [l0, l1, l2, l3, ab_I z] (ab_I z :: st) σ Q := ab_r_iload rfl kc_X11_takesLeft dX11_takesLeft_52
theorem rX11_takesLeft_54 : ab_Run X 144 54 (2, 0, 0) L (ab_I b :: ab_I a :: st) σ Q ↔ (a < b → ab_Run X 144 61 (2, 0, 0) L st σ Q) ∧ (¬ (a < b) → ab_Run X 144 57 (2, 0, 0) L st σ Q) := ab_r_icmp_lt rfl kc_X11_takesLeft dX11_takesLeft_54
theorem rX11_takesLeft_57 : ab_Run X 144 57 (2, 0, 0) L st σ Q ↔ ab_Run X 144 58 (2, 0, 0) L (ab_I 1 :: st) σ Q := ab_r_iconst (by decide) kc_X11_takesLeft dX11_takesLeft_57
theorem rX11_takesLeft_58 : ab_Run X 144 58 (2, 0, 0) L st σ Q ↔ ab_Run X 144 62 (2, 0, 0) L st σ Q := ab_r_goto rfl kc_X11_takesLeft dX11_takesLeft_58
theorem rX11_takesLeft_61 : ab_Run X 144 61 (2, 0, 0) L st σ Q ↔ ab_Run X 144 62 (2, 0, 0) L (ab_I 0 :: st) σ Q := ab_r_iconst (by decide) kc_X11_takesLeft dX11_takesLeft_61
theorem rX11_takesLeft_62 : ab_Run X 144 62 (2, 0, 0) L [ab_I v] σ Q ↔ (v = 0 ∨ v = 1) ∧ Q (some (ab_I v)) σ := ab_r_ireturnZ rfl kc_X11_takesLeft dX11_takesLeft_62
theorem kc_X11_searchKnob : ab_code 145 = cX11_searchKnob := rfl
theorem ko_X11_searchKnob : ab_ow 145 = 11 := rfl
theorem rX11_searchKnob_0 : ab_Run X 145 0 (5, 0, 0) L st σ Q ↔ ab_Run X 145 2 (5, 0, 0) L (ab_I 10 :: st) σ Q := ab_r_bipush (by decide) kc_X11_searchKnob dX11_searchKnob_0
theorem rX11_searchKnob_2 : ab_Run X 145 2 (5, 0, 0) [ab_R z, l1, l2, l3, l4, l5, l6, l7, l8] st σ Q ↔ z ≠ 0 ∧ ab_Run X 145 3 (5, 0, 0) [ab_R z, l1, l2, l3, l4, l5, l6, l7, l8] (ab_R z :: st) σ Q := ab_r_aload_n rfl kc_X11_searchKnob dX11_searchKnob_2
theorem rX11_searchKnob_3 : ab_Run X 145 3 (5, 0, 0) L (ab_R a :: st) σ Q ↔ (ab_sh σ a).1 = 12 ∧ ab_Run X 145 6 (5, 0, 0) L (ab_R (ab_rd σ a 7) :: st) σ Q := gF_11_58 ko_X11_searchKnob kc_X11_searchKnob dX11_searchKnob_3
theorem rX11_searchKnob_6 : ab_Run X 145 6 (5, 0, 0) L (ab_R a :: st) σ Q ↔ (ab_sh σ a).1 = 5 ∧ ab_Run X 145 9 (5, 0, 0) L (ab_R (ab_rd σ a 13) :: st) σ Q := gF_11_427 ko_X11_searchKnob kc_X11_searchKnob dX11_searchKnob_6
theorem rX11_searchKnob_9 : ab_Run X 145 9 (5, 0, 0) [l0, ab_I z, l2, l3, l4, l5, l6, l7, l8] st σ Q ↔ ab_Run X 145 10 (5, 0, 0) [l0, ab_I z, l2, l3, l4, l5, l6, l7, l8] (ab_I z :: st) σ Q := ab_r_iload_n rfl kc_X11_searchKnob dX11_searchKnob_9
theorem rX11_searchKnob_10 : ab_Run X 145 10 (5, 0, 0) L (ab_I i :: ab_R a :: st) σ Q ↔ ((ab_sh σ a).1 = 21 ∧ 0 ≤ i ∧ i < (ab_sh σ a).2) ∧ ab_Run X 145 11 (5, 0, 0) L (ab_I (ab_rd σ a i) :: st) σ Q := ab_r_iaload (by decide) kc_X11_searchKnob dX11_searchKnob_10
theorem rX11_searchKnob_11 : ab_Run X 145 11 (5, 0, 0) L (ab_I b :: ab_I a :: st) σ Q ↔ ab_Run X 145 12 (5, 0, 0) L (ab_I (ab_w32 (a * b)) :: st) σ Q := ab_r_imul kc_X11_searchKnob dX11_searchKnob_11
theorem rX11_searchKnob_12 : ab_Run X 145 12 (5, 0, 0) [ab_R z, l1, l2, l3, l4, l5, l6, l7, l8] st σ Q ↔ z ≠ 0 ∧ ab_Run X 145 13 (5, 0, 0) [ab_R z, l1, l2, l3, l4, l5, l6, l7, l8] (ab_R z :: st) σ Q := ab_r_aload_n rfl kc_X11_searchKnob dX11_searchKnob_12
theorem rX11_searchKnob_13 : ab_Run X 145 13 (5, 0, 0) L (ab_R a :: st) σ Q ↔ (ab_sh σ a).1 = 12 ∧ ab_Run X 145 16 (5, 0, 0) L (ab_R (ab_rd σ a 7) :: st) σ Q := gF_11_58 ko_X11_searchKnob kc_X11_searchKnob dX11_searchKnob_13
theorem rX11_searchKnob_16 : ab_Run X 145 16 (5, 0, 0) L (ab_R a :: st) σ Q ↔ (ab_sh σ a).1 = 5 ∧ ab_Run X 145 19 (5, 0, 0) L (ab_R (ab_rd σ a 14) :: st) σ Q := gF_11_430 ko_X11_searchKnob kc_X11_searchKnob dX11_searchKnob_16
theorem rX11_searchKnob_19 : ab_Run X 145 19 (5, 0, 0) [l0, ab_I z, l2, l3, l4, l5, l6, l7, l8] st σ Q ↔ ab_Run X 145 20 (5, 0, 0) [l0, ab_I z, l2, l3, l4, l5, l6, l7, l8] (ab_I z :: st) σ Q := ab_r_iload_n rfl kc_X11_searchKnob dX11_searchKnob_19
theorem rX11_searchKnob_20 : ab_Run X 145 20 (5, 0, 0) L (ab_I i :: ab_R a :: st) σ Q ↔ ((ab_sh σ a).1 = 21 ∧ 0 ≤ i ∧ i < (ab_sh σ a).2) ∧ ab_Run X 145 21 (5, 0, 0) L (ab_I (ab_rd σ a i) :: st) σ Q := ab_r_iaload (by decide) kc_X11_searchKnob dX11_searchKnob_20
theorem rX11_searchKnob_21 : ab_Run X 145 21 (5, 0, 0) L (ab_I b :: ab_I a :: st) σ Q ↔ ab_Run X 145 22 (5, 0, 0) L (ab_I (ab_w32 (a + b)) :: st) σ Q := ab_r_iadd kc_X11_searchKnob dX11_searchKnob_21
theorem rX11_searchKnob_22 : ab_Run X 145 22 (5, 0, 0) [l0, l1, l2, l3, l4, l5, l6, l7, l8] (ab_I z :: st) σ Q ↔ (!ab_isJ l2) = true ∧ ab_Run X 145 23 (5, 0, 0) [l0, l1, l2, ab_I z, l4, l5, l6, l7, l8] st σ Q := ab_r_istore_n (Nat.le_of_ble_eq_true rfl) kc_X11_searchKnob dX11_searchKnob_22
theorem rX11_searchKnob_23 : ab_Run X 145 23 (5, 0, 0) L st σ Q ↔ ab_Run X 145 24 (5, 0, 0) L (ab_I 0 :: st) σ Q := ab_r_iconst (by decide) kc_X11_searchKnob dX11_searchKnob_23
theorem rX11_searchKnob_24 : ab_Run X 145 24 (5, 0, 0) [l0, l1, l2, l3, l4, l5, l6, l7, l8] (ab_I z :: st) σ Q ↔ (!ab_isJ l3) = true ∧ ab_Run X 145 26 (5, 0, 0) [l0, l1, l2, l3, ab_I z, l5, l6, l7, l8] st σ Q := ab_r_istore (Nat.le_of_ble_eq_true rfl) kc_X11_searchKnob dX11_searchKnob_24
theorem rX11_searchKnob_26 : ab_Run X 145 26 (5, 0, 0) L st σ Q ↔ ab_Run X 145 27 (5, 0, 0) L (ab_I 0 :: st) σ Q := ab_r_iconst (by decide) kc_X11_searchKnob dX11_searchKnob_26
theorem rX11_searchKnob_27 : ab_Run X 145 27 (5, 0, 0) [l0, l1, l2, l3, l4, l5, l6, l7, l8] (ab_I z :: st) σ Q ↔ (!ab_isJ l4) = true ∧ ab_Run X 145 29 (5, 0, 0) [l0, l1, l2, l3, l4, ab_I z, l6, l7, l8] st σ Q := ab_r_istore (Nat.le_of_ble_eq_true rfl) kc_X11_searchKnob dX11_searchKnob_27
theorem rX11_searchKnob_29 : ab_Run X 145 29 (5, 0, 0) L st σ Q ↔ ab_Run X 145 30 (5, 0, 0) L (ab_I 0 :: st) σ Q := ab_r_iconst (by decide) kc_X11_searchKnob dX11_searchKnob_29
theorem rX11_searchKnob_30 : ab_Run X 145 30 (5, 0, 0) [l0, l1, l2, l3, l4, l5, l6, l7, l8] (ab_I z :: st) σ Q ↔ (!ab_isJ l5) = true ∧ ab_Run X 145 32 (5, 0, 0) [l0, l1, l2, l3, l4, l5, ab_I z, l7, l8] st σ Q := ab_r_istore (Nat.le_of_ble_eq_true rfl) kc_X11_searchKnob dX11_searchKnob_30
theorem rX11_searchKnob_32 : ab_Run X 145 32 (5, 0, 0) [l0, l1, l2, l3, l4, l5, ab_I z, l7, l8] st σ Q ↔ ab_Run X 145 34 (5, 0, 0) [l0, l1, l2, l3, l4, l5, ab_I z, l7, l8] (ab_I z :: st) σ Q := ab_r_iload rfl kc_X11_searchKnob dX11_searchKnob_32
theorem rX11_searchKnob_34 : ab_Run X 145 34 (5, 0, 0) [ab_R z, l1, l2, l3, l4, l5, l6, l7, l8] st σ Q ↔ z ≠ 0 ∧ ab_Run X 145 35 (5, 0, 0) [ab_R z, l1, l2, l3, l4, l5, l6, l7, l8] (ab_R z :: st) σ Q := ab_r_aload_n rfl kc_X11_searchKnob dX11_searchKnob_34
theorem rX11_searchKnob_35 : ab_Run X 145 35 (5, 0, 0) L (ab_R a :: st) σ Q ↔ (ab_sh σ a).1 = 12 ∧ ab_Run X 145 38 (5, 0, 0) L (ab_R (ab_rd σ a 7) :: st) σ Q := gF_11_58 ko_X11_searchKnob kc_X11_searchKnob dX11_searchKnob_35
theorem rX11_searchKnob_38 : ab_Run X 145 38 (5, 0, 0) L (ab_R a :: st) σ Q ↔ (ab_sh σ a).1 = 5 ∧ ab_Run X 145 41 (5, 0, 0) L (ab_I (ab_rd σ a 5) :: st) σ Q := gF_11_100 ko_X11_searchKnob kc_X11_searchKnob dX11_searchKnob_38
theorem rX11_searchKnob_41 : ab_Run X 145 41 (5, 0, 0) L (ab_I b :: ab_I a :: st) σ Q ↔ (b ≤ a → ab_Run X 145 148 (5, 0, 0) L st σ Q) ∧ (¬ (b ≤ a) → ab_Run X 145 44 (5, 0, 0) L st σ Q) := ab_r_icmp_ge rfl kc_X11_searchKnob dX11_searchKnob_41
theorem rX11_searchKnob_44 : ab_Run X 145 44 (5, 0, 0) [ab_R z, l1, l2, l3, l4, l5, l6, l7, l8] st σ Q ↔ z ≠ 0 ∧ ab_Run X 145 45 (5, 0, 0) [ab_R z, l1, l2, l3, l4, l5, l6, l7, l8] (ab_R z :: st) σ Q := ab_r_aload_n rfl kc_X11_searchKnob dX11_searchKnob_44
theorem rX11_searchKnob_45 : ab_Run X 145 45 (5, 0, 0) [l0, l1, l2, l3, l4, l5, ab_I z, l7, l8] st σ Q ↔ ab_Run X 145 47 (5, 0, 0) [l0, l1, l2, l3, l4, l5, ab_I z, l7, l8] (ab_I z :: st) σ Q := ab_r_iload rfl kc_X11_searchKnob dX11_searchKnob_45
theorem rX11_searchKnob_47 : ab_Run X 145 47 (5, 0, 0) L (ab_I x1 :: ab_R a :: st) σ Q ↔ ((ab_sh σ a).1 = 12 ∧ ab_cats st ≤ 8) ∧ ab_Do X 137 [ab_R a, ab_I x1] σ (fun r σ' => ab_Run X 145 50 (5, 0, 0) L (ab_psh r st) σ' Q) := ab_r_callV (w := [ab_I x1]) (as := [ab_I x1]) (b1 := (1, 0, 0)) 0 (Or.inl rfl) (by decide) ko_X11_searchKnob qM_11_168 (by decide) rfl rfl rfl rfl rfl (by decide) (Nat.le_of_ble_eq_true rfl) kc_X11_searchKnob dX11_searchKnob_47
theorem rX11_searchKnob_50 : ab_Run X 145 50 (5, 0, 0) L st σ Q ↔ ab_Run X 145 51 (5, 0, 0) L (ab_I 0 :: st) σ Q := ab_r_iconst (by decide) kc_X11_searchKnob dX11_searchKnob_50
theorem rX11_searchKnob_51 : ab_Run X 145 51 (5, 0, 0) [l0, l1, l2, l3, l4, l5, l6, l7, l8] (ab_I z :: st) σ Q ↔ (!ab_isJ l6) = true ∧ ab_Run X 145 53 (5, 0, 0) [l0, l1, l2, l3, l4, l5, l6, ab_I z, l8] st σ Q := ab_r_istore (Nat.le_of_ble_eq_true rfl) kc_X11_searchKnob dX11_searchKnob_51
theorem rX11_searchKnob_53 : ab_Run X 145 53 (5, 0, 0) [l0, l1, l2, l3, l4, l5, l6, ab_I z, l8] st σ Q ↔ ab_Run X 145 55 (5, 0, 0) [l0, l1, l2, l3, l4, l5, l6, ab_I z, l8] (ab_I z :: st) σ Q := ab_r_iload rfl kc_X11_searchKnob dX11_searchKnob_53
theorem rX11_searchKnob_55 : ab_Run X 145 55 (5, 0, 0) [ab_R z, l1, l2, l3, l4, l5, l6, l7, l8] st σ Q ↔ z ≠ 0 ∧ ab_Run X 145 56 (5, 0, 0) [ab_R z, l1, l2, l3, l4, l5, l6, l7, l8] (ab_R z :: st) σ Q := ab_r_aload_n rfl kc_X11_searchKnob dX11_searchKnob_55
theorem rX11_searchKnob_56 : ab_Run X 145 56 (5, 0, 0) L (ab_R a :: st) σ Q ↔ (ab_sh σ a).1 = 12 ∧ ab_Run X 145 59 (5, 0, 0) L (ab_R (ab_rd σ a 7) :: st) σ Q := gF_11_58 ko_X11_searchKnob kc_X11_searchKnob dX11_searchKnob_56
theorem rX11_searchKnob_59 : ab_Run X 145 59 (5, 0, 0) L (ab_R a :: st) σ Q ↔ (ab_sh σ a).1 = 5 ∧ ab_Run X 145 62 (5, 0, 0) L (ab_I (ab_rd σ a 7) :: st) σ Q := gF_11_270 ko_X11_searchKnob kc_X11_searchKnob dX11_searchKnob_59
theorem rX11_searchKnob_62 : ab_Run X 145 62 (5, 0, 0) L (ab_I b :: ab_I a :: st) σ Q ↔ (b ≤ a → ab_Run X 145 142 (5, 0, 0) L st σ Q) ∧ (¬ (b ≤ a) → ab_Run X 145 65 (5, 0, 0) L st σ Q) := ab_r_icmp_ge rfl kc_X11_searchKnob dX11_searchKnob_62
theorem rX11_searchKnob_65 : ab_Run X 145 65 (5, 0, 0) L st σ Q ↔ ab_Run X 145 66 (5, 0, 0) L (ab_I 0 :: st) σ Q := ab_r_iconst (by decide) kc_X11_searchKnob dX11_searchKnob_65
theorem rX11_searchKnob_66 : ab_Run X 145 66 (5, 0, 0) [l0, l1, l2, l3, l4, l5, l6, l7, l8] (ab_I z :: st) σ Q ↔ (!ab_isJ l7) = true ∧ ab_Run X 145 68 (5, 0, 0) [l0, l1, l2, l3, l4, l5, l6, l7, ab_I z] st σ Q := ab_r_istore (Nat.le_of_ble_eq_true rfl) kc_X11_searchKnob dX11_searchKnob_66
theorem rX11_searchKnob_68 : ab_Run X 145 68 (5, 0, 0) [l0, l1, l2, l3, l4, l5, l6, l7, ab_I z] st σ Q ↔ ab_Run X 145 70 (5, 0, 0) [l0, l1, l2, l3, l4, l5, l6, l7, ab_I z] (ab_I z :: st) σ Q := ab_r_iload rfl kc_X11_searchKnob dX11_searchKnob_68
theorem rX11_searchKnob_70 : ab_Run X 145 70 (5, 0, 0) [ab_R z, l1, l2, l3, l4, l5, l6, l7, l8] st σ Q ↔ z ≠ 0 ∧ ab_Run X 145 71 (5, 0, 0) [ab_R z, l1, l2, l3, l4, l5, l6, l7, l8] (ab_R z :: st) σ Q := ab_r_aload_n rfl kc_X11_searchKnob dX11_searchKnob_70
theorem rX11_searchKnob_71 : ab_Run X 145 71 (5, 0, 0) L (ab_R a :: st) σ Q ↔ (ab_sh σ a).1 = 12 ∧ ab_Run X 145 74 (5, 0, 0) L (ab_R (ab_rd σ a 7) :: st) σ Q := gF_11_58 ko_X11_searchKnob kc_X11_searchKnob dX11_searchKnob_71
theorem rX11_searchKnob_74 : ab_Run X 145 74 (5, 0, 0) L (ab_R a :: st) σ Q ↔ (ab_sh σ a).1 = 5 ∧ ab_Run X 145 77 (5, 0, 0) L (ab_I (ab_rd σ a 7) :: st) σ Q := gF_11_270 ko_X11_searchKnob kc_X11_searchKnob dX11_searchKnob_74
theorem rX11_searchKnob_77 : ab_Run X 145 77 (5, 0, 0) L (ab_I b :: ab_I a :: st) σ Q ↔ (b ≤ a → ab_Run X 145 136 (5, 0, 0) L st σ Q) ∧ (¬ (b ≤ a) → ab_Run X 145 80 (5, 0, 0) L st σ Q) := ab_r_icmp_ge rfl kc_X11_searchKnob dX11_searchKnob_77
theorem rX11_searchKnob_80 : ab_Run X 145 80 (5, 0, 0) [l0, l1, l2, l3, l4, l5, l6, ab_I z, l8] st σ Q ↔ ab_Run X 145 82 (5, 0, 0) [l0, l1, l2, l3, l4, l5, l6, ab_I z, l8] (ab_I z :: st) σ Q := ab_r_iload rfl kc_X11_searchKnob dX11_searchKnob_80
theorem rX11_searchKnob_82 : ab_Run X 145 82 (5, 0, 0) [l0, l1, l2, l3, l4, l5, l6, l7, ab_I z] st σ Q ↔ ab_Run X 145 84 (5, 0, 0) [l0, l1, l2, l3, l4, l5, l6, l7, ab_I z] (ab_I z :: st) σ Q := ab_r_iload rfl kc_X11_searchKnob dX11_searchKnob_82
theorem rX11_searchKnob_84 : ab_Run X 145 84 (5, 0, 0) L (ab_I b :: ab_I a :: st) σ Q ↔ (a = b → ab_Run X 145 130 (5, 0, 0) L st σ Q) ∧ (¬ (a = b) → ab_Run X 145 87 (5, 0, 0) L st σ Q) := ab_r_icmp_eq rfl kc_X11_searchKnob dX11_searchKnob_84
theorem rX11_searchKnob_87 : ab_Run X 145 87 (5, 0, 0) [ab_R z, l1, l2, l3, l4, l5, l6, l7, l8] st σ Q ↔ z ≠ 0 ∧ ab_Run X 145 88 (5, 0, 0) [ab_R z, l1, l2, l3, l4, l5, l6, l7, l8] (ab_R z :: st) σ Q := ab_r_aload_n rfl kc_X11_searchKnob dX11_searchKnob_87
theorem rX11_searchKnob_88 : ab_Run X 145 88 (5, 0, 0) [l0, l1, l2, l3, l4, l5, ab_I z, l7, l8] st σ Q ↔ ab_Run X 145 90 (5, 0, 0) [l0, l1, l2, l3, l4, l5, ab_I z, l7, l8] (ab_I z :: st) σ Q := ab_r_iload rfl kc_X11_searchKnob dX11_searchKnob_88
theorem rX11_searchKnob_90 : ab_Run X 145 90 (5, 0, 0) [l0, l1, l2, l3, l4, l5, l6, ab_I z, l8] st σ Q ↔ ab_Run X 145 92 (5, 0, 0) [l0, l1, l2, l3, l4, l5, l6, ab_I z, l8] (ab_I z :: st) σ Q := ab_r_iload rfl kc_X11_searchKnob dX11_searchKnob_90
theorem rX11_searchKnob_92 : ab_Run X 145 92 (5, 0, 0) [l0, l1, l2, l3, l4, l5, l6, l7, ab_I z] st σ Q ↔ ab_Run X 145 94 (5, 0, 0) [l0, l1, l2, l3, l4, l5, l6, l7, ab_I z] (ab_I z :: st) σ Q := ab_r_iload rfl kc_X11_searchKnob dX11_searchKnob_92
theorem rX11_searchKnob_94 : ab_Run X 145 94 (5, 0, 0) L (ab_I x3 :: ab_I x2 :: ab_I x1 :: ab_R a :: st) σ Q ↔ ((ab_sh σ a).1 = 12 ∧ ab_cats st ≤ 8) ∧ ab_Do X 146 [ab_R a, ab_I x1, ab_I x2, ab_I x3] σ (fun r σ' => ab_Run X 145 97 (5, 0, 0) L (ab_psh r st) σ' Q) := ab_r_callV (w := [ab_I x3, ab_I x2, ab_I x1]) (as := [ab_I x1, ab_I x2, ab_I x3]) (b1 := (4, 0, 0)) 0 (Or.inl rfl) (by decide) ko_X11_searchKnob qM_11_433 (by decide) rfl rfl rfl rfl rfl (by decide) (Nat.le_of_ble_eq_true rfl) kc_X11_searchKnob dX11_searchKnob_94
theorem rX11_searchKnob_97 : ab_Run X 145 97 (5, 0, 0) [l0, l1, l2, ab_I z, l4, l5, l6, l7, l8] st σ Q ↔ ab_Run X 145 98 (5, 0, 0) [l0, l1, l2, ab_I z, l4, l5, l6, l7, l8] (ab_I z :: st) σ Q := ab_r_iload_n rfl kc_X11_searchKnob dX11_searchKnob_97
theorem rX11_searchKnob_98 : ab_Run X 145 98 (5, 0, 0) L (ab_I b :: ab_I a :: st) σ Q ↔ (¬ a = b → ab_Run X 145 130 (5, 0, 0) L st σ Q) ∧ (¬ (¬ a = b) → ab_Run X 145 101 (5, 0, 0) L st σ Q) := ab_r_icmp_ne rfl kc_X11_searchKnob dX11_searchKnob_98
theorem rX11_searchKnob_101 : ab_Run X 145 101 (5, 0, 0) [l0, l1, l2, l3, ab_I z, l5, l6, l7, l8] st σ Q ↔ (!ab_isJ l3) = true ∧ ab_Run X 145 104 (5, 0, 0) [l0, l1, l2, l3, ab_I (ab_w32 (z + 1)), l5, l6, l7, l8] st σ Q := ab_r_iinc rfl (by decide) kc_X11_searchKnob dX11_searchKnob_101
theorem rX11_searchKnob_104 : ab_Run X 145 104 (5, 0, 0) [l0, l1, l2, l3, l4, ab_I z, l6, l7, l8] st σ Q ↔ ab_Run X 145 106 (5, 0, 0) [l0, l1, l2, l3, l4, ab_I z, l6, l7, l8] (ab_I z :: st) σ Q := ab_r_iload rfl kc_X11_searchKnob dX11_searchKnob_104
theorem rX11_searchKnob_106 : ab_Run X 145 106 (5, 0, 0) L st σ Q ↔ ab_Run X 145 107 (5, 0, 0) L (ab_I 1 :: st) σ Q := ab_r_iconst (by decide) kc_X11_searchKnob dX11_searchKnob_106
theorem rX11_searchKnob_107 : ab_Run X 145 107 (5, 0, 0) [ab_R z, l1, l2, l3, l4, l5, l6, l7, l8] st σ Q ↔ z ≠ 0 ∧ ab_Run X 145 108 (5, 0, 0) [ab_R z, l1, l2, l3, l4, l5, l6, l7, l8] (ab_R z :: st) σ Q := ab_r_aload_n rfl kc_X11_searchKnob dX11_searchKnob_107
theorem rX11_searchKnob_108 : ab_Run X 145 108 (5, 0, 0) L (ab_R a :: st) σ Q ↔ (ab_sh σ a).1 = 12 ∧ ab_Run X 145 111 (5, 0, 0) L (ab_R (ab_rd σ a 7) :: st) σ Q := gF_11_58 ko_X11_searchKnob kc_X11_searchKnob dX11_searchKnob_108
theorem rX11_searchKnob_111 : ab_Run X 145 111 (5, 0, 0) L (ab_R a :: st) σ Q ↔ (ab_sh σ a).1 = 5 ∧ ab_Run X 145 114 (5, 0, 0) L (ab_R (ab_rd σ a 13) :: st) σ Q := gF_11_427 ko_X11_searchKnob kc_X11_searchKnob dX11_searchKnob_111
theorem rX11_searchKnob_114 : ab_Run X 145 114 (5, 0, 0) [l0, ab_I z, l2, l3, l4, l5, l6, l7, l8] st σ Q ↔ ab_Run X 145 115 (5, 0, 0) [l0, ab_I z, l2, l3, l4, l5, l6, l7, l8] (ab_I z :: st) σ Q := ab_r_iload_n rfl kc_X11_searchKnob dX11_searchKnob_114
theorem rX11_searchKnob_115 : ab_Run X 145 115 (5, 0, 0) L (ab_I i :: ab_R a :: st) σ Q ↔ ((ab_sh σ a).1 = 21 ∧ 0 ≤ i ∧ i < (ab_sh σ a).2) ∧ ab_Run X 145 116 (5, 0, 0) L (ab_I (ab_rd σ a i) :: st) σ Q := ab_r_iaload (by decide) kc_X11_searchKnob dX11_searchKnob_115
theorem rX11_searchKnob_116 : ab_Run X 145 116 (5, 0, 0) L (ab_I a :: st) σ Q ↔ (¬ a = 0 → ab_Run X 145 124 (5, 0, 0) L st σ Q) ∧ (¬ (¬ a = 0) → ab_Run X 145 119 (5, 0, 0) L st σ Q) := ab_r_if_ne rfl kc_X11_searchKnob dX11_searchKnob_116
theorem rX11_searchKnob_119 : ab_Run X 145 119 (5, 0, 0) [l0, l1, l2, l3, l4, l5, l6, l7, ab_I z] st σ Q ↔ ab_Run X 145 121 (5, 0, 0) [l0, l1, l2, l3, l4, l5, l6, l7, ab_I z] (ab_I z :: st) σ Q := ab_r_iload rfl kc_X11_searchKnob dX11_searchKnob_119
theorem rX11_searchKnob_121 : ab_Run X 145 121 (5, 0, 0) L st σ Q ↔ ab_Run X 145 126 (5, 0, 0) L st σ Q := ab_r_goto rfl kc_X11_searchKnob dX11_searchKnob_121
theorem rX11_searchKnob_124 : ab_Run X 145 124 (5, 0, 0) [l0, l1, l2, l3, l4, l5, l6, ab_I z, l8] st σ Q ↔ ab_Run X 145 126 (5, 0, 0) [l0, l1, l2, l3, l4, l5, l6, ab_I z, l8] (ab_I z :: st) σ Q := ab_r_iload rfl kc_X11_searchKnob dX11_searchKnob_124
theorem rX11_searchKnob_126 : ab_Run X 145 126 (5, 0, 0) L (ab_I b :: ab_I a :: st) σ Q ↔ ab_Run X 145 127 (5, 0, 0) L (ab_I (ab_ok32 (fun x y => x <<< (y &&& 31)) a b) :: st) σ Q := ab_r_ishl kc_X11_searchKnob dX11_searchKnob_126
theorem rX11_searchKnob_127 : ab_Run X 145 127 (5, 0, 0) L (ab_I b :: ab_I a :: st) σ Q ↔ ab_Run X 145 128 (5, 0, 0) L (ab_I (ab_ok32 (fun x y => x ||| y) a b) :: st) σ Q := ab_r_ior kc_X11_searchKnob dX11_searchKnob_127
theorem rX11_searchKnob_128 : ab_Run X 145 128 (5, 0, 0) [l0, l1, l2, l3, l4, l5, l6, l7, l8] (ab_I z :: st) σ Q ↔ (!ab_isJ l4) = true ∧ ab_Run X 145 130 (5, 0, 0) [l0, l1, l2, l3, l4, ab_I z, l6, l7, l8] st σ Q := ab_r_istore (Nat.le_of_ble_eq_true rfl) kc_X11_searchKnob dX11_searchKnob_128
theorem rX11_searchKnob_130 : ab_Run X 145 130 (5, 0, 0) [l0, l1, l2, l3, l4, l5, l6, l7, ab_I z] st σ Q ↔ (!ab_isJ l7) = true ∧ ab_Run X 145 133 (5, 0, 0) [l0, l1, l2, l3, l4, l5, l6, l7, ab_I (ab_w32 (z + 1))] st σ Q := ab_r_iinc rfl (by decide) kc_X11_searchKnob dX11_searchKnob_130
theorem rX11_searchKnob_133 : ab_Run X 145 133 (5, 0, 0) L st σ Q ↔ ab_Run X 145 68 (5, 0, 0) L st σ Q := ab_r_goto rfl kc_X11_searchKnob dX11_searchKnob_133
theorem rX11_searchKnob_136 : ab_Run X 145 136 (5, 0, 0) [l0, l1, l2, l3, l4, l5, l6, ab_I z, l8] st σ Q ↔ (!ab_isJ l6) = true ∧ ab_Run X 145 139 (5, 0, 0) [l0, l1, l2, l3, l4, l5, l6, ab_I (ab_w32 (z + 1)), l8] st σ Q := ab_r_iinc rfl (by decide) kc_X11_searchKnob dX11_searchKnob_136
theorem rX11_searchKnob_139 : ab_Run X 145 139 (5, 0, 0) L st σ Q ↔ ab_Run X 145 53 (5, 0, 0) L st σ Q := ab_r_goto rfl kc_X11_searchKnob dX11_searchKnob_139
theorem rX11_searchKnob_142 : ab_Run X 145 142 (5, 0, 0) [l0, l1, l2, l3, l4, l5, ab_I z, l7, l8] st σ Q ↔ (!ab_isJ l5) = true ∧ ab_Run X 145 145 (5, 0, 0) [l0, l1, l2, l3, l4, l5, ab_I (ab_w32 (z + 1)), l7, l8] st σ Q := ab_r_iinc rfl (by decide) kc_X11_searchKnob dX11_searchKnob_142
theorem rX11_searchKnob_145 : ab_Run X 145 145 (5, 0, 0) L st σ Q ↔ ab_Run X 145 32 (5, 0, 0) L st σ Q := ab_r_goto rfl kc_X11_searchKnob dX11_searchKnob_145
theorem rX11_searchKnob_148 : ab_Run X 145 148 (5, 0, 0) [l0, l1, ab_I z, l3, l4, l5, l6, l7, l8] st σ Q ↔ ab_Run X 145 149 (5, 0, 0) [l0, l1, ab_I z, l3, l4, l5, l6, l7, l8] (ab_I z :: st) σ Q := ab_r_iload_n rfl kc_X11_searchKnob dX11_searchKnob_148
theorem rX11_searchKnob_149 : ab_Run X 145 149 (5, 0, 0) L (ab_I a :: st) σ Q ↔ (a = 0 → ab_Run X 145 157 (5, 0, 0) L st σ Q) ∧ (¬ (a = 0) → ab_Run X 145 152 (5, 0, 0) L st σ Q) := ab_r_if_eq rfl kc_X11_searchKnob dX11_searchKnob_149
theorem rX11_searchKnob_152 : ab_Run X 145 152 (5, 0, 0) [l0, l1, l2, l3, l4, ab_I z, l6, l7, l8] st σ Q ↔ ab_Run X 145 154 (5, 0, 0) [l0, l1, l2, l3, l4, ab_I z, l6, l7, l8] (ab_I z :: st) σ Q := ab_r_iload rfl kc_X11_searchKnob dX11_searchKnob_152
theorem rX11_searchKnob_154 : ab_Run X 145 154 (5, 0, 0) L st σ Q ↔ ab_Run X 145 159 (5, 0, 0) L st σ Q := ab_r_goto rfl kc_X11_searchKnob dX11_searchKnob_154
theorem rX11_searchKnob_157 : ab_Run X 145 157 (5, 0, 0) [l0, l1, l2, l3, ab_I z, l5, l6, l7, l8] st σ Q ↔ ab_Run X 145 159 (5, 0, 0) [l0, l1, l2, l3, ab_I z, l5, l6, l7, l8] (ab_I z :: st) σ Q := ab_r_iload rfl kc_X11_searchKnob dX11_searchKnob_157
theorem rX11_searchKnob_159 : ab_Run X 145 159 (5, 0, 0) L [ab_I v] σ Q ↔ Q (some (ab_I v)) σ := ab_r_ireturnI rfl kc_X11_searchKnob dX11_searchKnob_159
theorem kc_X11_breaksAsTold : ab_code 146 = cX11_breaksAsTold := rfl
theorem ko_X11_breaksAsTold : ab_ow 146 = 11 := rfl
theorem rX11_breaksAsTold_0 : ab_Run X 146 0 (4, 0, 0) [ab_R z, l1, l2, l3] st σ Q ↔ z ≠ 0 ∧ ab_Run X 146 1 (4, 0, 0) [ab_R z, l1, l2, l3] (ab_R z :: st) σ Q := ab_r_aload_n rfl kc_X11_breaksAsTold dX11_breaksAsTold_0
theorem rX11_breaksAsTold_1 : ab_Run X 146 1 (4, 0, 0) [l0, ab_I z, l2, l3] st σ Q ↔ ab_Run X 146 2 (4, 0, 0) [l0, ab_I z, l2, l3] (ab_I z :: st) σ Q := ab_r_iload_n rfl kc_X11_breaksAsTold dX11_breaksAsTold_1
theorem rX11_breaksAsTold_2 : ab_Run X 146 2 (4, 0, 0) [l0, l1, ab_I z, l3] st σ Q ↔ ab_Run X 146 3 (4, 0, 0) [l0, l1, ab_I z, l3] (ab_I z :: st) σ Q := ab_r_iload_n rfl kc_X11_breaksAsTold dX11_breaksAsTold_2
theorem rX11_breaksAsTold_3 : ab_Run X 146 3 (4, 0, 0) [l0, l1, l2, ab_I z] st σ Q ↔ ab_Run X 146 4 (4, 0, 0) [l0, l1, l2, ab_I z] (ab_I z :: st) σ Q := ab_r_iload_n rfl kc_X11_breaksAsTold dX11_breaksAsTold_3
theorem rX11_breaksAsTold_4 : ab_Run X 146 4 (4, 0, 0) L (ab_I x3 :: ab_I x2 :: ab_I x1 :: ab_R a :: st) σ Q ↔ ((ab_sh σ a).1 = 12 ∧ ab_cats st ≤ 8) ∧ ab_Do X 140 [ab_R a, ab_I x1, ab_I x2, ab_I x3] σ (fun r σ' => ab_Run X 146 7 (4, 0, 0) L (ab_psh r st) σ' Q) := ab_r_callV (w := [ab_I x3, ab_I x2, ab_I x1]) (as := [ab_I x1, ab_I x2, ab_I x3]) (b1 := (3, 0, 0)) 0 (Or.inl rfl) (by decide) ko_X11_breaksAsTold qM_11_417 (by decide) rfl rfl rfl rfl rfl (by decide) (Nat.le_of_ble_eq_true rfl) kc_X11_breaksAsTold dX11_breaksAsTold_4
theorem rX11_breaksAsTold_7 : ab_Run X 146 7 (4, 0, 0) [ab_R z, l1, l2, l3] st σ Q ↔ z ≠ 0 ∧ ab_Run X 146 8 (4, 0, 0) [ab_R z, l1, l2, l3] (ab_R z :: st) σ Q := ab_r_aload_n rfl kc_X11_breaksAsTold dX11_breaksAsTold_7
theorem rX11_breaksAsTold_8 : ab_Run X 146 8 (4, 0, 0) L (ab_R a :: st) σ Q ↔ (ab_sh σ a).1 = 12 ∧ ab_Run X 146 11 (4, 0, 0) L (ab_R (ab_rd σ a 3) :: st) σ Q := gF_11_33 ko_X11_breaksAsTold kc_X11_breaksAsTold dX11_breaksAsTold_8
theorem rX11_breaksAsTold_11 : ab_Run X 146 11 (4, 0, 0) L (ab_R a :: st) σ Q ↔ ((ab_sh σ a).1 = 7 ∧ ab_cats st ≤ 8) ∧ ab_Do X 37 [ab_R a] σ (fun r σ' => ab_Run X 146 14 (4, 0, 0) L (ab_psh r st) σ' Q) := ab_r_callV (w := []) (as := []) (b1 := (2, 0, 0)) 0 (Or.inl rfl) (by decide) ko_X11_breaksAsTold qM_11_201 (by decide) rfl rfl rfl rfl rfl (by decide) (Nat.le_of_ble_eq_true rfl) kc_X11_breaksAsTold dX11_breaksAsTold_11
theorem rX11_breaksAsTold_14 : ab_Run X 146 14 (4, 0, 0) L [ab_I v] σ Q ↔ Q (some (ab_I v)) σ := ab_r_ireturnI rfl kc_X11_breaksAsTold dX11_breaksAsTold_14
theorem kc_X11_part : ab_code 147 = cX11_part := rfl
theorem ko_X11_part : ab_ow 147 = 11 := rfl
theorem rX11_part_0 : ab_Run X 147 0 (0, 0, 0) [ab_J z, l1, l2, l3, l4, l5, l6, l7, l8, l9, l10, l11] st σ Q ↔ ab_Run X 147 1 (0, 0, 0) [ab_J z, l1, l2, l3, l4, l5, l6, l7, l8, l9, l10, l11] (ab_J z :: st) σ Q := ab_r_lload_n rfl kc_X11_part dX11_part_0
theorem rX11_part_1 : ab_Run X 147 1 (0, 0, 0) [l0, l1, l2, l3, l4, l5, l6, l7, l8, l9, l10, l11] (ab_J z :: st) σ Q ↔ (!ab_isJ l4) = true ∧ ab_Run X 147 3 (0, 0, 0) [l0, l1, l2, l3, l4, ab_J z, ab_R 0, l7, l8, l9, l10, l11] st σ Q := ab_r_lstore (Nat.le_of_ble_eq_true rfl) kc_X11_part dX11_part_1
theorem rX11_part_3 : ab_Run X 147 3 (0, 0, 0) [l0, l1, ab_J z, l3, l4, l5, l6, l7, l8, l9, l10, l11] st σ Q ↔ ab_Run X 147 4 (0, 0, 0) [l0, l1, ab_J z, l3, l4, l5, l6, l7, l8, l9, l10, l11] (ab_J z :: st) σ Q := ab_r_lload_n rfl kc_X11_part dX11_part_3
theorem rX11_part_4 : ab_Run X 147 4 (0, 0, 0) [l0, l1, l2, l3, l4, l5, l6, l7, l8, l9, l10, l11] (ab_J z :: st) σ Q ↔ (!ab_isJ l6) = true ∧ ab_Run X 147 6 (0, 0, 0) [l0, l1, l2, l3, l4, l5, l6, ab_J z, ab_R 0, l9, l10, l11] st σ Q := ab_r_lstore (Nat.le_of_ble_eq_true rfl) kc_X11_part dX11_part_4
theorem rX11_part_6 : ab_Run X 147 6 (0, 0, 0) L st σ Q ↔ ab_Run X 147 7 (0, 0, 0) L (ab_I 0 :: st) σ Q := ab_r_iconst (by decide) kc_X11_part dX11_part_6
theorem rX11_part_7 : ab_Run X 147 7 (0, 0, 0) [l0, l1, l2, l3, l4, l5, l6, l7, l8, l9, l10, l11] (ab_I z :: st) σ Q ↔ (!ab_isJ l8) = true ∧ ab_Run X 147 9 (0, 0, 0) [l0, l1, l2, l3, l4, l5, l6, l7, l8, ab_I z, l10, l11] st σ Q := ab_r_istore (Nat.le_of_ble_eq_true rfl) kc_X11_part dX11_part_7
theorem rX11_part_9 : ab_Run X 147 9 (0, 0, 0) [l0, l1, l2, l3, l4, l5, l6, l7, l8, ab_I z, l10, l11] st σ Q ↔ ab_Run X 147 11 (0, 0, 0) [l0, l1, l2, l3, l4, l5, l6, l7, l8, ab_I z, l10, l11] (ab_I z :: st) σ Q := ab_r_iload rfl kc_X11_part dX11_part_9
theorem rX11_part_11 : ab_Run X 147 11 (0, 0, 0) L st σ Q ↔ ab_Run X 147 13 (0, 0, 0) L (ab_I 100 :: st) σ Q := ab_r_bipush (by decide) kc_X11_part dX11_part_11
theorem rX11_part_13 : ab_Run X 147 13 (0, 0, 0) L (ab_I b :: ab_I a :: st) σ Q ↔ (b ≤ a → ab_Run X 147 44 (0, 0, 0) L st σ Q) ∧ (¬ (b ≤ a) → ab_Run X 147 16 (0, 0, 0) L st σ Q) := ab_r_icmp_ge rfl kc_X11_part dX11_part_13
theorem rX11_part_16 : ab_Run X 147 16 (0, 0, 0) [l0, l1, l2, l3, l4, l5, l6, ab_J z, l8, l9, l10, l11] st σ Q ↔ ab_Run X 147 18 (0, 0, 0) [l0, l1, l2, l3, l4, l5, l6, ab_J z, l8, l9, l10, l11] (ab_J z :: st) σ Q := ab_r_lload rfl kc_X11_part dX11_part_16
theorem rX11_part_18 : ab_Run X 147 18 (0, 0, 0) L st σ Q ↔ ab_Run X 147 19 (0, 0, 0) L (ab_J 0 :: st) σ Q := ab_r_lconst kc_X11_part dX11_part_18
theorem rX11_part_19 : ab_Run X 147 19 (0, 0, 0) L (ab_J b :: ab_J a :: st) σ Q ↔ ab_Run X 147 20 (0, 0, 0) L (ab_I (if b < a then 1 else if a = b then 0 else -1) :: st) σ Q := ab_r_lcmp kc_X11_part dX11_part_19
theorem rX11_part_20 : ab_Run X 147 20 (0, 0, 0) L (ab_I a :: st) σ Q ↔ (a ≤ 0 → ab_Run X 147 44 (0, 0, 0) L st σ Q) ∧ (¬ (a ≤ 0) → ab_Run X 147 23 (0, 0, 0) L st σ Q) := ab_r_if_le rfl kc_X11_part dX11_part_20
theorem rX11_part_23 : ab_Run X 147 23 (0, 0, 0) [l0, l1, l2, l3, l4, ab_J z, l6, l7, l8, l9, l10, l11] st σ Q ↔ ab_Run X 147 25 (0, 0, 0) [l0, l1, l2, l3, l4, ab_J z, l6, l7, l8, l9, l10, l11] (ab_J z :: st) σ Q := ab_r_lload rfl kc_X11_part dX11_part_23
theorem rX11_part_25 : ab_Run X 147 25 (0, 0, 0) [l0, l1, l2, l3, l4, l5, l6, ab_J z, l8, l9, l10, l11] st σ Q ↔ ab_Run X 147 27 (0, 0, 0) [l0, l1, l2, l3, l4, l5, l6, ab_J z, l8, l9, l10, l11] (ab_J z :: st) σ Q := ab_r_lload rfl kc_X11_part dX11_part_25
theorem rX11_part_27 : ab_Run X 147 27 (0, 0, 0) L (ab_J b :: ab_J a :: st) σ Q ↔ b ≠ 0 ∧ ab_Run X 147 28 (0, 0, 0) L (ab_J (a.tmod b) :: st) σ Q := ab_r_lrem kc_X11_part dX11_part_27
theorem rX11_part_28 : ab_Run X 147 28 (0, 0, 0) [l0, l1, l2, l3, l4, l5, l6, l7, l8, l9, l10, l11] (ab_J z :: st) σ Q ↔ (!ab_isJ l9) = true ∧ ab_Run X 147 30 (0, 0, 0) [l0, l1, l2, l3, l4, l5, l6, l7, l8, l9, ab_J z, ab_R 0] st σ Q := ab_r_lstore (Nat.le_of_ble_eq_true rfl) kc_X11_part dX11_part_28
theorem rX11_part_30 : ab_Run X 147 30 (0, 0, 0) [l0, l1, l2, l3, l4, l5, l6, ab_J z, l8, l9, l10, l11] st σ Q ↔ ab_Run X 147 32 (0, 0, 0) [l0, l1, l2, l3, l4, l5, l6, ab_J z, l8, l9, l10, l11] (ab_J z :: st) σ Q := ab_r_lload rfl kc_X11_part dX11_part_30
theorem rX11_part_32 : ab_Run X 147 32 (0, 0, 0) [l0, l1, l2, l3, l4, l5, l6, l7, l8, l9, l10, l11] (ab_J z :: st) σ Q ↔ (!ab_isJ l4) = true ∧ ab_Run X 147 34 (0, 0, 0) [l0, l1, l2, l3, l4, ab_J z, ab_R 0, l7, l8, l9, l10, l11] st σ Q := ab_r_lstore (Nat.le_of_ble_eq_true rfl) kc_X11_part dX11_part_32
theorem rX11_part_34 : ab_Run X 147 34 (0, 0, 0) [l0, l1, l2, l3, l4, l5, l6, l7, l8, l9, ab_J z, l11] st σ Q ↔ ab_Run X 147 36 (0, 0, 0) [l0, l1, l2, l3, l4, l5, l6, l7, l8, l9, ab_J z, l11] (ab_J z :: st) σ Q := ab_r_lload rfl kc_X11_part dX11_part_34
theorem rX11_part_36 : ab_Run X 147 36 (0, 0, 0) [l0, l1, l2, l3, l4, l5, l6, l7, l8, l9, l10, l11] (ab_J z :: st) σ Q ↔ (!ab_isJ l6) = true ∧ ab_Run X 147 38 (0, 0, 0) [l0, l1, l2, l3, l4, l5, l6, ab_J z, ab_R 0, l9, l10, l11] st σ Q := ab_r_lstore (Nat.le_of_ble_eq_true rfl) kc_X11_part dX11_part_36
theorem rX11_part_38 : ab_Run X 147 38 (0, 0, 0) [l0, l1, l2, l3, l4, l5, l6, l7, l8, ab_I z, l10, l11] st σ Q ↔ (!ab_isJ l8) = true ∧ ab_Run X 147 41 (0, 0, 0) [l0, l1, l2, l3, l4, l5, l6, l7, l8, ab_I (ab_w32 (z + 1)), l10, l11] st σ Q := ab_r_iinc rfl (by decide) kc_X11_part dX11_part_38
theorem rX11_part_41 : ab_Run X 147 41 (0, 0, 0) L st σ Q ↔ ab_Run X 147 9 (0, 0, 0) L st σ Q := ab_r_goto rfl kc_X11_part dX11_part_41
theorem rX11_part_44 : ab_Run X 147 44 (0, 0, 0) [l0, l1, l2, l3, l4, ab_J z, l6, l7, l8, l9, l10, l11] st σ Q ↔ ab_Run X 147 46 (0, 0, 0) [l0, l1, l2, l3, l4, ab_J z, l6, l7, l8, l9, l10, l11] (ab_J z :: st) σ Q := ab_r_lload rfl kc_X11_part dX11_part_44
theorem rX11_part_46 : ab_Run X 147 46 (0, 0, 0) L st σ Q ↔ ab_Run X 147 47 (0, 0, 0) L (ab_J 0 :: st) σ Q := ab_r_lconst kc_X11_part dX11_part_46
theorem rX11_part_47 : ab_Run X 147 47 (0, 0, 0) L (ab_J b :: ab_J a :: st) σ Q ↔ ab_Run X 147 48 (0, 0, 0) L (ab_I (if b < a then 1 else if a = b then 0 else -1) :: st) σ Q := ab_r_lcmp kc_X11_part dX11_part_47
theorem rX11_part_48 : ab_Run X 147 48 (0, 0, 0) L (ab_I a :: st) σ Q ↔ (0 < a → ab_Run X 147 62 (0, 0, 0) L st σ Q) ∧ (¬ (0 < a) → ab_Run X 147 51 (0, 0, 0) L st σ Q) := ab_r_if_gt rfl kc_X11_part dX11_part_48
theorem rX11_part_51 : ab_Run X 147 51 (0, 0, 0) [l0, l1, l2, l3, ab_I z, l5, l6, l7, l8, l9, l10, l11] st σ Q ↔ ab_Run X 147 53 (0, 0, 0) [l0, l1, l2, l3, ab_I z, l5, l6, l7, l8, l9, l10, l11] (ab_I z :: st) σ Q := ab_r_iload rfl kc_X11_part dX11_part_51
theorem rX11_part_53 : ab_Run X 147 53 (0, 0, 0) L (ab_I a :: st) σ Q ↔ (a = 0 → ab_Run X 147 60 (0, 0, 0) L st σ Q) ∧ (¬ (a = 0) → ab_Run X 147 56 (0, 0, 0) L st σ Q) := ab_r_if_eq rfl kc_X11_part dX11_part_53
theorem rX11_part_56 : ab_Run X 147 56 (0, 0, 0) L st σ Q ↔ ab_Run X 147 57 (0, 0, 0) L (ab_J 1 :: st) σ Q := ab_r_lconst kc_X11_part dX11_part_56
theorem rX11_part_57 : ab_Run X 147 57 (0, 0, 0) L st σ Q ↔ ab_Run X 147 61 (0, 0, 0) L st σ Q := ab_r_goto rfl kc_X11_part dX11_part_57
theorem rX11_part_60 : ab_Run X 147 60 (0, 0, 0) L st σ Q ↔ ab_Run X 147 61 (0, 0, 0) L (ab_J 0 :: st) σ Q := ab_r_lconst kc_X11_part dX11_part_60
theorem rX11_part_61 : ab_Run X 147 61 (0, 0, 0) L [ab_J v] σ Q ↔ Q (some (ab_J v)) σ := ab_r_lreturn rfl kc_X11_part dX11_part_61
theorem rX11_part_62 : ab_Run X 147 62 (0, 0, 0) [l0, l1, l2, l3, ab_I z, l5, l6, l7, l8, l9, l10, l11] st σ Q ↔ ab_Run X 147 64 (0, 0, 0) [l0, l1, l2, l3, ab_I z, l5, l6, l7, l8, l9, l10, l11] (ab_I z :: st) σ Q := ab_r_iload rfl kc_X11_part dX11_part_62
theorem rX11_part_64 : ab_Run X 147 64 (0, 0, 0) L (ab_I a :: st) σ Q ↔ (a = 0 → ab_Run X 147 74 (0, 0, 0) L st σ Q) ∧ (¬ (a = 0) → ab_Run X 147 67 (0, 0, 0) L st σ Q) := ab_r_if_eq rfl kc_X11_part dX11_part_64
theorem rX11_part_67 : ab_Run X 147 67 (0, 0, 0) [l0, l1, ab_J z, l3, l4, l5, l6, l7, l8, l9, l10, l11] st σ Q ↔ ab_Run X 147 68 (0, 0, 0) [l0, l1, ab_J z, l3, l4, l5, l6, l7, l8, l9, l10, l11] (ab_J z :: st) σ Q := ab_r_lload_n rfl kc_X11_part dX11_part_67
theorem rX11_part_68 : ab_Run X 147 68 (0, 0, 0) [l0, l1, l2, l3, l4, ab_J z, l6, l7, l8, l9, l10, l11] st σ Q ↔ ab_Run X 147 70 (0, 0, 0) [l0, l1, l2, l3, l4, ab_J z, l6, l7, l8, l9, l10, l11] (ab_J z :: st) σ Q := ab_r_lload rfl kc_X11_part dX11_part_68
theorem rX11_part_70 : ab_Run X 147 70 (0, 0, 0) L (ab_J b :: ab_J a :: st) σ Q ↔ b ≠ 0 ∧ ab_Run X 147 71 (0, 0, 0) L (ab_J (ab_w64 (a.tdiv b)) :: st) σ Q := ab_r_ldiv kc_X11_part dX11_part_70
theorem rX11_part_71 : ab_Run X 147 71 (0, 0, 0) L st σ Q ↔ ab_Run X 147 78 (0, 0, 0) L st σ Q := ab_r_goto rfl kc_X11_part dX11_part_71
theorem rX11_part_74 : ab_Run X 147 74 (0, 0, 0) [ab_J z, l1, l2, l3, l4, l5, l6, l7, l8, l9, l10, l11] st σ Q ↔ ab_Run X 147 75 (0, 0, 0) [ab_J z, l1, l2, l3, l4, l5, l6, l7, l8, l9, l10, l11] (ab_J z :: st) σ Q := ab_r_lload_n rfl kc_X11_part dX11_part_74
theorem rX11_part_75 : ab_Run X 147 75 (0, 0, 0) [l0, l1, l2, l3, l4, ab_J z, l6, l7, l8, l9, l10, l11] st σ Q ↔ ab_Run X 147 77 (0, 0, 0) [l0, l1, l2, l3, l4, ab_J z, l6, l7, l8, l9, l10, l11] (ab_J z :: st) σ Q := ab_r_lload rfl kc_X11_part dX11_part_75
theorem rX11_part_77 : ab_Run X 147 77 (0, 0, 0) L (ab_J b :: ab_J a :: st) σ Q ↔ b ≠ 0 ∧ ab_Run X 147 78 (0, 0, 0) L (ab_J (ab_w64 (a.tdiv b)) :: st) σ Q := ab_r_ldiv kc_X11_part dX11_part_77
theorem rX11_part_78 : ab_Run X 147 78 (0, 0, 0) L [ab_J v] σ Q ↔ Q (some (ab_J v)) σ := ab_r_lreturn rfl kc_X11_part dX11_part_78
theorem kc_X11_waysToWin : ab_code 148 = cX11_waysToWin := rfl
theorem ko_X11_waysToWin : ab_ow 148 = 11 := rfl
theorem rX11_waysToWin_0 : ab_Run X 148 0 (0, 0, 0) L st σ Q ↔ ab_Run X 148 1 (0, 0, 0) L (ab_J 1 :: st) σ Q := ab_r_lconst kc_X11_waysToWin dX11_waysToWin_0
theorem rX11_waysToWin_1 : ab_Run X 148 1 (0, 0, 0) [l0, l1, l2, l3, l4, l5, l6] (ab_J z :: st) σ Q ↔ (!ab_isJ l1) = true ∧ ab_Run X 148 2 (0, 0, 0) [l0, l1, ab_J z, ab_R 0, l4, l5, l6] st σ Q := ab_r_lstore_n (Nat.le_of_ble_eq_true rfl) kc_X11_waysToWin dX11_waysToWin_1
theorem rX11_waysToWin_2 : ab_Run X 148 2 (0, 0, 0) L st σ Q ↔ ab_Run X 148 3 (0, 0, 0) L (ab_J 0 :: st) σ Q := ab_r_lconst kc_X11_waysToWin dX11_waysToWin_2
theorem rX11_waysToWin_3 : ab_Run X 148 3 (0, 0, 0) [l0, l1, l2, l3, l4, l5, l6] (ab_J z :: st) σ Q ↔ (!ab_isJ l3) = true ∧ ab_Run X 148 5 (0, 0, 0) [l0, l1, l2, l3, ab_J z, ab_R 0, l6] st σ Q := ab_r_lstore (Nat.le_of_ble_eq_true rfl) kc_X11_waysToWin dX11_waysToWin_3
theorem rX11_waysToWin_5 : ab_Run X 148 5 (0, 0, 0) L st σ Q ↔ ab_Run X 148 6 (0, 0, 0) L (ab_I 0 :: st) σ Q := ab_r_iconst (by decide) kc_X11_waysToWin dX11_waysToWin_5
theorem rX11_waysToWin_6 : ab_Run X 148 6 (0, 0, 0) [l0, l1, l2, l3, l4, l5, l6] (ab_I z :: st) σ Q ↔ (!ab_isJ l5) = true ∧ ab_Run X 148 8 (0, 0, 0) [l0, l1, l2, l3, l4, l5, ab_I z] st σ Q := ab_r_istore (Nat.le_of_ble_eq_true rfl) kc_X11_waysToWin dX11_waysToWin_6
theorem rX11_waysToWin_8 : ab_Run X 148 8 (0, 0, 0) [l0, l1, l2, l3, l4, l5, ab_I z] st σ Q ↔ ab_Run X 148 10 (0, 0, 0) [l0, l1, l2, l3, l4, l5, ab_I z] (ab_I z :: st) σ Q := ab_r_iload rfl kc_X11_waysToWin dX11_waysToWin_8
theorem rX11_waysToWin_10 : ab_Run X 148 10 (0, 0, 0) [ab_I z, l1, l2, l3, l4, l5, l6] st σ Q ↔ ab_Run X 148 11 (0, 0, 0) [ab_I z, l1, l2, l3, l4, l5, l6] (ab_I z :: st) σ Q := ab_r_iload_n rfl kc_X11_waysToWin dX11_waysToWin_10
theorem rX11_waysToWin_11 : ab_Run X 148 11 (0, 0, 0) L (ab_I b :: ab_I a :: st) σ Q ↔ (b < a → ab_Run X 148 46 (0, 0, 0) L st σ Q) ∧ (¬ (b < a) → ab_Run X 148 14 (0, 0, 0) L st σ Q) := ab_r_icmp_gt rfl kc_X11_waysToWin dX11_waysToWin_11
theorem rX11_waysToWin_14 : ab_Run X 148 14 (0, 0, 0) [l0, l1, l2, l3, l4, l5, ab_I z] st σ Q ↔ ab_Run X 148 16 (0, 0, 0) [l0, l1, l2, l3, l4, l5, ab_I z] (ab_I z :: st) σ Q := ab_r_iload rfl kc_X11_waysToWin dX11_waysToWin_14
theorem rX11_waysToWin_16 : ab_Run X 148 16 (0, 0, 0) [l0, ab_I z, l2, l3, l4, l5, l6] st σ Q ↔ ab_Run X 148 17 (0, 0, 0) [l0, ab_I z, l2, l3, l4, l5, l6] (ab_I z :: st) σ Q := ab_r_iload_n rfl kc_X11_waysToWin dX11_waysToWin_16
theorem rX11_waysToWin_17 : ab_Run X 148 17 (0, 0, 0) L (ab_I b :: ab_I a :: st) σ Q ↔ (a < b → ab_Run X 148 26 (0, 0, 0) L st σ Q) ∧ (¬ (a < b) → ab_Run X 148 20 (0, 0, 0) L st σ Q) := ab_r_icmp_lt rfl kc_X11_waysToWin dX11_waysToWin_17
theorem rX11_waysToWin_20 : ab_Run X 148 20 (0, 0, 0) [l0, l1, l2, l3, ab_J z, l5, l6] st σ Q ↔ ab_Run X 148 22 (0, 0, 0) [l0, l1, l2, l3, ab_J z, l5, l6] (ab_J z :: st) σ Q := ab_r_lload rfl kc_X11_waysToWin dX11_waysToWin_20
theorem rX11_waysToWin_22 : ab_Run X 148 22 (0, 0, 0) [l0, l1, ab_J z, l3, l4, l5, l6] st σ Q ↔ ab_Run X 148 23 (0, 0, 0) [l0, l1, ab_J z, l3, l4, l5, l6] (ab_J z :: st) σ Q := ab_r_lload_n rfl kc_X11_waysToWin dX11_waysToWin_22
theorem rX11_waysToWin_23 : ab_Run X 148 23 (0, 0, 0) L (ab_J b :: ab_J a :: st) σ Q ↔ ab_Run X 148 24 (0, 0, 0) L (ab_J (ab_w64 (a + b)) :: st) σ Q := ab_r_ladd kc_X11_waysToWin dX11_waysToWin_23
theorem rX11_waysToWin_24 : ab_Run X 148 24 (0, 0, 0) [l0, l1, l2, l3, l4, l5, l6] (ab_J z :: st) σ Q ↔ (!ab_isJ l3) = true ∧ ab_Run X 148 26 (0, 0, 0) [l0, l1, l2, l3, ab_J z, ab_R 0, l6] st σ Q := ab_r_lstore (Nat.le_of_ble_eq_true rfl) kc_X11_waysToWin dX11_waysToWin_24
theorem rX11_waysToWin_26 : ab_Run X 148 26 (0, 0, 0) [l0, l1, ab_J z, l3, l4, l5, l6] st σ Q ↔ ab_Run X 148 27 (0, 0, 0) [l0, l1, ab_J z, l3, l4, l5, l6] (ab_J z :: st) σ Q := ab_r_lload_n rfl kc_X11_waysToWin dX11_waysToWin_26
theorem rX11_waysToWin_27 : ab_Run X 148 27 (0, 0, 0) [ab_I z, l1, l2, l3, l4, l5, l6] st σ Q ↔ ab_Run X 148 28 (0, 0, 0) [ab_I z, l1, l2, l3, l4, l5, l6] (ab_I z :: st) σ Q := ab_r_iload_n rfl kc_X11_waysToWin dX11_waysToWin_27
theorem rX11_waysToWin_28 : ab_Run X 148 28 (0, 0, 0) [l0, l1, l2, l3, l4, l5, ab_I z] st σ Q ↔ ab_Run X 148 30 (0, 0, 0) [l0, l1, l2, l3, l4, l5, ab_I z] (ab_I z :: st) σ Q := ab_r_iload rfl kc_X11_waysToWin dX11_waysToWin_28
theorem rX11_waysToWin_30 : ab_Run X 148 30 (0, 0, 0) L (ab_I b :: ab_I a :: st) σ Q ↔ ab_Run X 148 31 (0, 0, 0) L (ab_I (ab_w32 (a - b)) :: st) σ Q := ab_r_isub kc_X11_waysToWin dX11_waysToWin_30
theorem rX11_waysToWin_31 : ab_Run X 148 31 (0, 0, 0) L (ab_I a :: st) σ Q ↔ ab_Run X 148 32 (0, 0, 0) L (ab_J a :: st) σ Q := ab_r_i2l kc_X11_waysToWin dX11_waysToWin_31
theorem rX11_waysToWin_32 : ab_Run X 148 32 (0, 0, 0) L (ab_J b :: ab_J a :: st) σ Q ↔ ab_Run X 148 33 (0, 0, 0) L (ab_J (ab_w64 (a * b)) :: st) σ Q := ab_r_lmul kc_X11_waysToWin dX11_waysToWin_32
theorem rX11_waysToWin_33 : ab_Run X 148 33 (0, 0, 0) [l0, l1, l2, l3, l4, l5, ab_I z] st σ Q ↔ ab_Run X 148 35 (0, 0, 0) [l0, l1, l2, l3, l4, l5, ab_I z] (ab_I z :: st) σ Q := ab_r_iload rfl kc_X11_waysToWin dX11_waysToWin_33
theorem rX11_waysToWin_35 : ab_Run X 148 35 (0, 0, 0) L st σ Q ↔ ab_Run X 148 36 (0, 0, 0) L (ab_I 1 :: st) σ Q := ab_r_iconst (by decide) kc_X11_waysToWin dX11_waysToWin_35
theorem rX11_waysToWin_36 : ab_Run X 148 36 (0, 0, 0) L (ab_I b :: ab_I a :: st) σ Q ↔ ab_Run X 148 37 (0, 0, 0) L (ab_I (ab_w32 (a + b)) :: st) σ Q := ab_r_iadd kc_X11_waysToWin dX11_waysToWin_36
theorem rX11_waysToWin_37 : ab_Run X 148 37 (0, 0, 0) L (ab_I a :: st) σ Q ↔ ab_Run X 148 38 (0, 0, 0) L (ab_J a :: st) σ Q := ab_r_i2l kc_X11_waysToWin dX11_waysToWin_37
theorem rX11_waysToWin_38 : ab_Run X 148 38 (0, 0, 0) L (ab_J b :: ab_J a :: st) σ Q ↔ b ≠ 0 ∧ ab_Run X 148 39 (0, 0, 0) L (ab_J (ab_w64 (a.tdiv b)) :: st) σ Q := ab_r_ldiv kc_X11_waysToWin dX11_waysToWin_38
theorem rX11_waysToWin_39 : ab_Run X 148 39 (0, 0, 0) [l0, l1, l2, l3, l4, l5, l6] (ab_J z :: st) σ Q ↔ (!ab_isJ l1) = true ∧ ab_Run X 148 40 (0, 0, 0) [l0, l1, ab_J z, ab_R 0, l4, l5, l6] st σ Q := ab_r_lstore_n (Nat.le_of_ble_eq_true rfl) kc_X11_waysToWin dX11_waysToWin_39
theorem rX11_waysToWin_40 : ab_Run X 148 40 (0, 0, 0) [l0, l1, l2, l3, l4, l5, ab_I z] st σ Q ↔ (!ab_isJ l5) = true ∧ ab_Run X 148 43 (0, 0, 0) [l0, l1, l2, l3, l4, l5, ab_I (ab_w32 (z + 1))] st σ Q := ab_r_iinc rfl (by decide) kc_X11_waysToWin dX11_waysToWin_40
theorem rX11_waysToWin_43 : ab_Run X 148 43 (0, 0, 0) L st σ Q ↔ ab_Run X 148 8 (0, 0, 0) L st σ Q := ab_r_goto rfl kc_X11_waysToWin dX11_waysToWin_43
theorem rX11_waysToWin_46 : ab_Run X 148 46 (0, 0, 0) [l0, l1, l2, l3, ab_J z, l5, l6] st σ Q ↔ ab_Run X 148 48 (0, 0, 0) [l0, l1, l2, l3, ab_J z, l5, l6] (ab_J z :: st) σ Q := ab_r_lload rfl kc_X11_waysToWin dX11_waysToWin_46
theorem rX11_waysToWin_48 : ab_Run X 148 48 (0, 0, 0) L [ab_J v] σ Q ↔ Q (some (ab_J v)) σ := ab_r_lreturn rfl kc_X11_waysToWin dX11_waysToWin_48
theorem kc_X11_likelihood : ab_code 149 = cX11_likelihood := rfl
theorem ko_X11_likelihood : ab_ow 149 = 11 := rfl
theorem rX11_likelihood_0 : ab_Run X 149 0 (0, 0, 0) L st σ Q ↔ ab_Run X 149 1 (0, 0, 0) L (ab_J 1 :: st) σ Q := ab_r_lconst kc_X11_likelihood dX11_likelihood_0
theorem rX11_likelihood_1 : ab_Run X 149 1 (0, 0, 0) [l0, l1, l2, l3, l4] (ab_J z :: st) σ Q ↔ (!ab_isJ l1) = true ∧ ab_Run X 149 2 (0, 0, 0) [l0, l1, ab_J z, ab_R 0, l4] st σ Q := ab_r_lstore_n (Nat.le_of_ble_eq_true rfl) kc_X11_likelihood dX11_likelihood_1
theorem rX11_likelihood_2 : ab_Run X 149 2 (0, 0, 0) L st σ Q ↔ ab_Run X 149 3 (0, 0, 0) L (ab_I 0 :: st) σ Q := ab_r_iconst (by decide) kc_X11_likelihood dX11_likelihood_2
theorem rX11_likelihood_3 : ab_Run X 149 3 (0, 0, 0) [l0, l1, l2, l3, l4] (ab_I z :: st) σ Q ↔ (!ab_isJ l3) = true ∧ ab_Run X 149 5 (0, 0, 0) [l0, l1, l2, l3, ab_I z] st σ Q := ab_r_istore (Nat.le_of_ble_eq_true rfl) kc_X11_likelihood dX11_likelihood_3
theorem rX11_likelihood_5 : ab_Run X 149 5 (0, 0, 0) [l0, l1, l2, l3, ab_I z] st σ Q ↔ ab_Run X 149 7 (0, 0, 0) [l0, l1, l2, l3, ab_I z] (ab_I z :: st) σ Q := ab_r_iload rfl kc_X11_likelihood dX11_likelihood_5
theorem rX11_likelihood_7 : ab_Run X 149 7 (0, 0, 0) [l0, ab_R z, l2, l3, l4] st σ Q ↔ z ≠ 0 ∧ ab_Run X 149 8 (0, 0, 0) [l0, ab_R z, l2, l3, l4] (ab_R z :: st) σ Q := ab_r_aload_n rfl kc_X11_likelihood dX11_likelihood_7
theorem rX11_likelihood_8 : ab_Run X 149 8 (0, 0, 0) L (ab_R a :: st) σ Q ↔ (ab_sh σ a).1 = 6 ∧ ab_Run X 149 11 (0, 0, 0) L (ab_I (ab_rd σ a 7) :: st) σ Q := gF_11_160 ko_X11_likelihood kc_X11_likelihood dX11_likelihood_8
theorem rX11_likelihood_11 : ab_Run X 149 11 (0, 0, 0) L (ab_I b :: ab_I a :: st) σ Q ↔ (b ≤ a → ab_Run X 149 25 (0, 0, 0) L st σ Q) ∧ (¬ (b ≤ a) → ab_Run X 149 14 (0, 0, 0) L st σ Q) := ab_r_icmp_ge rfl kc_X11_likelihood dX11_likelihood_11
theorem rX11_likelihood_14 : ab_Run X 149 14 (0, 0, 0) [l0, l1, ab_J z, l3, l4] st σ Q ↔ ab_Run X 149 15 (0, 0, 0) [l0, l1, ab_J z, l3, l4] (ab_J z :: st) σ Q := ab_r_lload_n rfl kc_X11_likelihood dX11_likelihood_14
theorem rX11_likelihood_15 : ab_Run X 149 15 (0, 0, 0) [ab_I z, l1, l2, l3, l4] st σ Q ↔ ab_Run X 149 16 (0, 0, 0) [ab_I z, l1, l2, l3, l4] (ab_I z :: st) σ Q := ab_r_iload_n rfl kc_X11_likelihood dX11_likelihood_15
theorem rX11_likelihood_16 : ab_Run X 149 16 (0, 0, 0) L (ab_I a :: st) σ Q ↔ ab_Run X 149 17 (0, 0, 0) L (ab_J a :: st) σ Q := ab_r_i2l kc_X11_likelihood dX11_likelihood_16
theorem rX11_likelihood_17 : ab_Run X 149 17 (0, 0, 0) L (ab_J b :: ab_J a :: st) σ Q ↔ ab_Run X 149 18 (0, 0, 0) L (ab_J (ab_w64 (a * b)) :: st) σ Q := ab_r_lmul kc_X11_likelihood dX11_likelihood_17
theorem rX11_likelihood_18 : ab_Run X 149 18 (0, 0, 0) [l0, l1, l2, l3, l4] (ab_J z :: st) σ Q ↔ (!ab_isJ l1) = true ∧ ab_Run X 149 19 (0, 0, 0) [l0, l1, ab_J z, ab_R 0, l4] st σ Q := ab_r_lstore_n (Nat.le_of_ble_eq_true rfl) kc_X11_likelihood dX11_likelihood_18
theorem rX11_likelihood_19 : ab_Run X 149 19 (0, 0, 0) [l0, l1, l2, l3, ab_I z] st σ Q ↔ (!ab_isJ l3) = true ∧ ab_Run X 149 22 (0, 0, 0) [l0, l1, l2, l3, ab_I (ab_w32 (z + 1))] st σ Q := ab_r_iinc rfl (by decide) kc_X11_likelihood dX11_likelihood_19
theorem rX11_likelihood_22 : ab_Run X 149 22 (0, 0, 0) L st σ Q ↔ ab_Run X 149 5 (0, 0, 0) L st σ Q := ab_r_goto rfl kc_X11_likelihood dX11_likelihood_22
theorem rX11_likelihood_25 : ab_Run X 149 25 (0, 0, 0) L st σ Q ↔ ab_Run X 149 26 (0, 0, 0) L (ab_I 0 :: st) σ Q := ab_r_iconst (by decide) kc_X11_likelihood dX11_likelihood_25
theorem rX11_likelihood_26 : ab_Run X 149 26 (0, 0, 0) [l0, l1, l2, l3, l4] (ab_I z :: st) σ Q ↔ (!ab_isJ l3) = true ∧ ab_Run X 149 28 (0, 0, 0) [l0, l1, l2, l3, ab_I z] st σ Q := ab_r_istore (Nat.le_of_ble_eq_true rfl) kc_X11_likelihood dX11_likelihood_26
theorem rX11_likelihood_28 : ab_Run X 149 28 (0, 0, 0) [l0, l1, l2, l3, ab_I z] st σ Q ↔ ab_Run X 149 30 (0, 0, 0) [l0, l1, l2, l3, ab_I z] (ab_I z :: st) σ Q := ab_r_iload rfl kc_X11_likelihood dX11_likelihood_28
theorem rX11_likelihood_30 : ab_Run X 149 30 (0, 0, 0) [l0, ab_R z, l2, l3, l4] st σ Q ↔ z ≠ 0 ∧ ab_Run X 149 31 (0, 0, 0) [l0, ab_R z, l2, l3, l4] (ab_R z :: st) σ Q := ab_r_aload_n rfl kc_X11_likelihood dX11_likelihood_30
theorem rX11_likelihood_31 : ab_Run X 149 31 (0, 0, 0) L (ab_R a :: st) σ Q ↔ (ab_sh σ a).1 = 6 ∧ ab_Run X 149 34 (0, 0, 0) L (ab_I (ab_rd σ a 8) :: st) σ Q := gF_11_163 ko_X11_likelihood kc_X11_likelihood dX11_likelihood_31
theorem rX11_likelihood_34 : ab_Run X 149 34 (0, 0, 0) L (ab_I b :: ab_I a :: st) σ Q ↔ (b ≤ a → ab_Run X 149 51 (0, 0, 0) L st σ Q) ∧ (¬ (b ≤ a) → ab_Run X 149 37 (0, 0, 0) L st σ Q) := ab_r_icmp_ge rfl kc_X11_likelihood dX11_likelihood_34
theorem rX11_likelihood_37 : ab_Run X 149 37 (0, 0, 0) [l0, l1, ab_J z, l3, l4] st σ Q ↔ ab_Run X 149 38 (0, 0, 0) [l0, l1, ab_J z, l3, l4] (ab_J z :: st) σ Q := ab_r_lload_n rfl kc_X11_likelihood dX11_likelihood_37
theorem rX11_likelihood_38 : ab_Run X 149 38 (0, 0, 0) L st σ Q ↔ ab_Run X 149 40 (0, 0, 0) L (ab_I 10 :: st) σ Q := ab_r_bipush (by decide) kc_X11_likelihood dX11_likelihood_38
theorem rX11_likelihood_40 : ab_Run X 149 40 (0, 0, 0) [ab_I z, l1, l2, l3, l4] st σ Q ↔ ab_Run X 149 41 (0, 0, 0) [ab_I z, l1, l2, l3, l4] (ab_I z :: st) σ Q := ab_r_iload_n rfl kc_X11_likelihood dX11_likelihood_40
theorem rX11_likelihood_41 : ab_Run X 149 41 (0, 0, 0) L (ab_I b :: ab_I a :: st) σ Q ↔ ab_Run X 149 42 (0, 0, 0) L (ab_I (ab_w32 (a - b)) :: st) σ Q := ab_r_isub kc_X11_likelihood dX11_likelihood_41
theorem rX11_likelihood_42 : ab_Run X 149 42 (0, 0, 0) L (ab_I a :: st) σ Q ↔ ab_Run X 149 43 (0, 0, 0) L (ab_J a :: st) σ Q := ab_r_i2l kc_X11_likelihood dX11_likelihood_42
theorem rX11_likelihood_43 : ab_Run X 149 43 (0, 0, 0) L (ab_J b :: ab_J a :: st) σ Q ↔ ab_Run X 149 44 (0, 0, 0) L (ab_J (ab_w64 (a * b)) :: st) σ Q := ab_r_lmul kc_X11_likelihood dX11_likelihood_43
theorem rX11_likelihood_44 : ab_Run X 149 44 (0, 0, 0) [l0, l1, l2, l3, l4] (ab_J z :: st) σ Q ↔ (!ab_isJ l1) = true ∧ ab_Run X 149 45 (0, 0, 0) [l0, l1, ab_J z, ab_R 0, l4] st σ Q := ab_r_lstore_n (Nat.le_of_ble_eq_true rfl) kc_X11_likelihood dX11_likelihood_44
theorem rX11_likelihood_45 : ab_Run X 149 45 (0, 0, 0) [l0, l1, l2, l3, ab_I z] st σ Q ↔ (!ab_isJ l3) = true ∧ ab_Run X 149 48 (0, 0, 0) [l0, l1, l2, l3, ab_I (ab_w32 (z + 1))] st σ Q := ab_r_iinc rfl (by decide) kc_X11_likelihood dX11_likelihood_45
theorem rX11_likelihood_48 : ab_Run X 149 48 (0, 0, 0) L st σ Q ↔ ab_Run X 149 28 (0, 0, 0) L st σ Q := ab_r_goto rfl kc_X11_likelihood dX11_likelihood_48
theorem rX11_likelihood_51 : ab_Run X 149 51 (0, 0, 0) [l0, l1, ab_J z, l3, l4] st σ Q ↔ ab_Run X 149 52 (0, 0, 0) [l0, l1, ab_J z, l3, l4] (ab_J z :: st) σ Q := ab_r_lload_n rfl kc_X11_likelihood dX11_likelihood_51
theorem rX11_likelihood_52 : ab_Run X 149 52 (0, 0, 0) L [ab_J v] σ Q ↔ Q (some (ab_J v)) σ := ab_r_lreturn rfl kc_X11_likelihood dX11_likelihood_52
theorem kc_X11_runYear : ab_code 150 = cX11_runYear := rfl
theorem ko_X11_runYear : ab_ow 150 = 11 := rfl
theorem rX11_runYear_0 : ab_Run X 150 0 (5, 0, 0) L st σ Q ↔ ab_Run X 150 1 (5, 0, 0) L (ab_I 0 :: st) σ Q := ab_r_iconst (by decide) kc_X11_runYear dX11_runYear_0
theorem rX11_runYear_1 : ab_Run X 150 1 (5, 0, 0) [l0, l1, l2, l3, l4] (ab_I z :: st) σ Q ↔ (!ab_isJ l2) = true ∧ ab_Run X 150 2 (5, 0, 0) [l0, l1, l2, ab_I z, l4] st σ Q := ab_r_istore_n (Nat.le_of_ble_eq_true rfl) kc_X11_runYear dX11_runYear_1
theorem rX11_runYear_2 : ab_Run X 150 2 (5, 0, 0) [l0, l1, l2, ab_I z, l4] st σ Q ↔ ab_Run X 150 3 (5, 0, 0) [l0, l1, l2, ab_I z, l4] (ab_I z :: st) σ Q := ab_r_iload_n rfl kc_X11_runYear dX11_runYear_2
theorem rX11_runYear_3 : ab_Run X 150 3 (5, 0, 0) [ab_R z, l1, l2, l3, l4] st σ Q ↔ z ≠ 0 ∧ ab_Run X 150 4 (5, 0, 0) [ab_R z, l1, l2, l3, l4] (ab_R z :: st) σ Q := ab_r_aload_n rfl kc_X11_runYear dX11_runYear_3
theorem rX11_runYear_4 : ab_Run X 150 4 (5, 0, 0) L (ab_R a :: st) σ Q ↔ (ab_sh σ a).1 = 12 ∧ ab_Run X 150 7 (5, 0, 0) L (ab_R (ab_rd σ a 6) :: st) σ Q := gF_11_51 ko_X11_runYear kc_X11_runYear dX11_runYear_4
theorem rX11_runYear_7 : ab_Run X 150 7 (5, 0, 0) L (ab_R a :: st) σ Q ↔ (21 ≤ (ab_sh σ a).1 ∧ (ab_sh σ a).1 < 30) ∧ ab_Run X 150 8 (5, 0, 0) L (ab_I (ab_sh σ a).2 :: st) σ Q := ab_r_arraylength (by decide) kc_X11_runYear dX11_runYear_7
theorem rX11_runYear_8 : ab_Run X 150 8 (5, 0, 0) L (ab_I b :: ab_I a :: st) σ Q ↔ (b ≤ a → ab_Run X 150 24 (5, 0, 0) L st σ Q) ∧ (¬ (b ≤ a) → ab_Run X 150 11 (5, 0, 0) L st σ Q) := ab_r_icmp_ge rfl kc_X11_runYear dX11_runYear_8
theorem rX11_runYear_11 : ab_Run X 150 11 (5, 0, 0) [ab_R z, l1, l2, l3, l4] st σ Q ↔ z ≠ 0 ∧ ab_Run X 150 12 (5, 0, 0) [ab_R z, l1, l2, l3, l4] (ab_R z :: st) σ Q := ab_r_aload_n rfl kc_X11_runYear dX11_runYear_11
theorem rX11_runYear_12 : ab_Run X 150 12 (5, 0, 0) L (ab_R a :: st) σ Q ↔ (ab_sh σ a).1 = 12 ∧ ab_Run X 150 15 (5, 0, 0) L (ab_R (ab_rd σ a 6) :: st) σ Q := gF_11_51 ko_X11_runYear kc_X11_runYear dX11_runYear_12
theorem rX11_runYear_15 : ab_Run X 150 15 (5, 0, 0) [l0, l1, l2, ab_I z, l4] st σ Q ↔ ab_Run X 150 16 (5, 0, 0) [l0, l1, l2, ab_I z, l4] (ab_I z :: st) σ Q := ab_r_iload_n rfl kc_X11_runYear dX11_runYear_15
theorem rX11_runYear_16 : ab_Run X 150 16 (5, 0, 0) L st σ Q ↔ ab_Run X 150 17 (5, 0, 0) L (ab_I 0 :: st) σ Q := ab_r_iconst (by decide) kc_X11_runYear dX11_runYear_16
theorem rX11_runYear_17 : ab_Run X 150 17 (5, 0, 0) L (ab_I v :: ab_I i :: ab_R a :: st) σ Q ↔ ((ab_sh σ a).1 = 21 ∧ 0 ≤ i ∧ i < (ab_sh σ a).2) ∧ ab_Run X 150 18 (5, 0, 0) L st (ab_wr σ a i v) Q := ab_r_iastore kc_X11_runYear dX11_runYear_17
theorem rX11_runYear_18 : ab_Run X 150 18 (5, 0, 0) [l0, l1, l2, ab_I z, l4] st σ Q ↔ (!ab_isJ l2) = true ∧ ab_Run X 150 21 (5, 0, 0) [l0, l1, l2, ab_I (ab_w32 (z + 1)), l4] st σ Q := ab_r_iinc rfl (by decide) kc_X11_runYear dX11_runYear_18
theorem rX11_runYear_21 : ab_Run X 150 21 (5, 0, 0) L st σ Q ↔ ab_Run X 150 2 (5, 0, 0) L st σ Q := ab_r_goto rfl kc_X11_runYear dX11_runYear_21
theorem rX11_runYear_24 : ab_Run X 150 24 (5, 0, 0) [ab_R z, l1, l2, l3, l4] st σ Q ↔ z ≠ 0 ∧ ab_Run X 150 25 (5, 0, 0) [ab_R z, l1, l2, l3, l4] (ab_R z :: st) σ Q := ab_r_aload_n rfl kc_X11_runYear dX11_runYear_24
theorem rX11_runYear_25 : ab_Run X 150 25 (5, 0, 0) L (ab_R a :: st) σ Q ↔ (ab_sh σ a).1 = 12 ∧ ab_Run X 150 28 (5, 0, 0) L (ab_R (ab_rd σ a 1) :: st) σ Q := gF_11_19 ko_X11_runYear kc_X11_runYear dX11_runYear_25
theorem rX11_runYear_28 : ab_Run X 150 28 (5, 0, 0) L (ab_R a :: st) σ Q ↔ (ab_sh σ a).1 = 9 ∧ ab_Run X 150 31 (5, 0, 0) L (ab_I (ab_rd σ a 4) :: st) σ Q := gF_11_353 ko_X11_runYear kc_X11_runYear dX11_runYear_28
theorem rX11_runYear_31 : ab_Run X 150 31 (5, 0, 0) [l0, l1, l2, l3, l4] (ab_I z :: st) σ Q ↔ (!ab_isJ l2) = true ∧ ab_Run X 150 32 (5, 0, 0) [l0, l1, l2, ab_I z, l4] st σ Q := ab_r_istore_n (Nat.le_of_ble_eq_true rfl) kc_X11_runYear dX11_runYear_31
theorem rX11_runYear_32 : ab_Run X 150 32 (5, 0, 0) [ab_R z, l1, l2, l3, l4] st σ Q ↔ z ≠ 0 ∧ ab_Run X 150 33 (5, 0, 0) [ab_R z, l1, l2, l3, l4] (ab_R z :: st) σ Q := ab_r_aload_n rfl kc_X11_runYear dX11_runYear_32
theorem rX11_runYear_33 : ab_Run X 150 33 (5, 0, 0) L (ab_R a :: st) σ Q ↔ (ab_sh σ a).1 = 12 ∧ ab_Run X 150 36 (5, 0, 0) L (ab_R (ab_rd σ a 1) :: st) σ Q := gF_11_19 ko_X11_runYear kc_X11_runYear dX11_runYear_33
theorem rX11_runYear_36 : ab_Run X 150 36 (5, 0, 0) [l0, ab_I z, l2, l3, l4] st σ Q ↔ ab_Run X 150 37 (5, 0, 0) [l0, ab_I z, l2, l3, l4] (ab_I z :: st) σ Q := ab_r_iload_n rfl kc_X11_runYear dX11_runYear_36
theorem rX11_runYear_37 : ab_Run X 150 37 (5, 0, 0) L (ab_I z :: ab_R a :: st) σ Q ↔ (ab_sh σ a).1 = 9 ∧ ab_Run X 150 40 (5, 0, 0) L st (ab_wr σ a 4 z) Q := sF_11_353 ko_X11_runYear kc_X11_runYear dX11_runYear_37
theorem rX11_runYear_40 : ab_Run X 150 40 (5, 0, 0) L st σ Q ↔ ab_Run X 150 41 (5, 0, 0) L (ab_I 0 :: st) σ Q := ab_r_iconst (by decide) kc_X11_runYear dX11_runYear_40
theorem rX11_runYear_41 : ab_Run X 150 41 (5, 0, 0) [l0, l1, l2, l3, l4] (ab_I z :: st) σ Q ↔ (!ab_isJ l3) = true ∧ ab_Run X 150 43 (5, 0, 0) [l0, l1, l2, l3, ab_I z] st σ Q := ab_r_istore (Nat.le_of_ble_eq_true rfl) kc_X11_runYear dX11_runYear_41
theorem rX11_runYear_43 : ab_Run X 150 43 (5, 0, 0) [l0, l1, l2, l3, ab_I z] st σ Q ↔ ab_Run X 150 45 (5, 0, 0) [l0, l1, l2, l3, ab_I z] (ab_I z :: st) σ Q := ab_r_iload rfl kc_X11_runYear dX11_runYear_43
theorem rX11_runYear_45 : ab_Run X 150 45 (5, 0, 0) [l0, l1, ab_I z, l3, l4] st σ Q ↔ ab_Run X 150 46 (5, 0, 0) [l0, l1, ab_I z, l3, l4] (ab_I z :: st) σ Q := ab_r_iload_n rfl kc_X11_runYear dX11_runYear_45
theorem rX11_runYear_46 : ab_Run X 150 46 (5, 0, 0) L (ab_I b :: ab_I a :: st) σ Q ↔ (b ≤ a → ab_Run X 150 59 (5, 0, 0) L st σ Q) ∧ (¬ (b ≤ a) → ab_Run X 150 49 (5, 0, 0) L st σ Q) := ab_r_icmp_ge rfl kc_X11_runYear dX11_runYear_46
theorem rX11_runYear_49 : ab_Run X 150 49 (5, 0, 0) [ab_R z, l1, l2, l3, l4] st σ Q ↔ z ≠ 0 ∧ ab_Run X 150 50 (5, 0, 0) [ab_R z, l1, l2, l3, l4] (ab_R z :: st) σ Q := ab_r_aload_n rfl kc_X11_runYear dX11_runYear_49
theorem rX11_runYear_50 : ab_Run X 150 50 (5, 0, 0) L (ab_R a :: st) σ Q ↔ ((ab_sh σ a).1 = 12 ∧ ab_cats st ≤ 8) ∧ ab_Do X 151 [ab_R a] σ (fun r σ' => ab_Run X 150 53 (5, 0, 0) L (ab_psh r st) σ' Q) := ab_r_callV (w := []) (as := []) (b1 := (4, 0, 0)) 0 (Or.inl rfl) (by decide) ko_X11_runYear qM_11_436 (by decide) rfl rfl rfl rfl rfl (by decide) (Nat.le_of_ble_eq_true rfl) kc_X11_runYear dX11_runYear_50
theorem rX11_runYear_53 : ab_Run X 150 53 (5, 0, 0) [l0, l1, l2, l3, ab_I z] st σ Q ↔ (!ab_isJ l3) = true ∧ ab_Run X 150 56 (5, 0, 0) [l0, l1, l2, l3, ab_I (ab_w32 (z + 1))] st σ Q := ab_r_iinc rfl (by decide) kc_X11_runYear dX11_runYear_53
theorem rX11_runYear_56 : ab_Run X 150 56 (5, 0, 0) L st σ Q ↔ ab_Run X 150 43 (5, 0, 0) L st σ Q := ab_r_goto rfl kc_X11_runYear dX11_runYear_56
theorem rX11_runYear_59 : ab_Run X 150 59 (5, 0, 0) [ab_R z, l1, l2, l3, l4] st σ Q ↔ z ≠ 0 ∧ ab_Run X 150 60 (5, 0, 0) [ab_R z, l1, l2, l3, l4] (ab_R z :: st) σ Q := ab_r_aload_n rfl kc_X11_runYear dX11_runYear_59
theorem rX11_runYear_60 : ab_Run X 150 60 (5, 0, 0) L (ab_R a :: st) σ Q ↔ (ab_sh σ a).1 = 12 ∧ ab_Run X 150 63 (5, 0, 0) L (ab_R (ab_rd σ a 1) :: st) σ Q := gF_11_19 ko_X11_runYear kc_X11_runYear dX11_runYear_60
theorem rX11_runYear_63 : ab_Run X 150 63 (5, 0, 0) [l0, l1, l2, ab_I z, l4] st σ Q ↔ ab_Run X 150 64 (5, 0, 0) [l0, l1, l2, ab_I z, l4] (ab_I z :: st) σ Q := ab_r_iload_n rfl kc_X11_runYear dX11_runYear_63
theorem rX11_runYear_64 : ab_Run X 150 64 (5, 0, 0) L (ab_I z :: ab_R a :: st) σ Q ↔ (ab_sh σ a).1 = 9 ∧ ab_Run X 150 67 (5, 0, 0) L st (ab_wr σ a 4 z) Q := sF_11_353 ko_X11_runYear kc_X11_runYear dX11_runYear_64
theorem rX11_runYear_67 : ab_Run X 150 67 (5, 0, 0) L [] σ Q ↔ Q none σ := ab_r_return rfl kc_X11_runYear dX11_runYear_67
theorem kc_X11_runSunday : ab_code 151 = cX11_runSunday := rfl
theorem ko_X11_runSunday : ab_ow 151 = 11 := rfl
theorem rX11_runSunday_0 : ab_Run X 151 0 (4, 0, 0) [ab_R z, l1, l2, l3, l4] st σ Q ↔ z ≠ 0 ∧ ab_Run X 151 1 (4, 0, 0) [ab_R z, l1, l2, l3, l4] (ab_R z :: st) σ Q := ab_r_aload_n rfl kc_X11_runSunday dX11_runSunday_0
theorem rX11_runSunday_1 : ab_Run X 151 1 (4, 0, 0) L (ab_R a :: st) σ Q ↔ (ab_sh σ a).1 = 12 ∧ ab_Run X 151 4 (4, 0, 0) L (ab_R (ab_rd σ a 1) :: st) σ Q := gF_11_19 ko_X11_runSunday kc_X11_runSunday dX11_runSunday_1
theorem rX11_runSunday_4 : ab_Run X 151 4 (4, 0, 0) [ab_R z, l1, l2, l3, l4] st σ Q ↔ z ≠ 0 ∧ ab_Run X 151 5 (4, 0, 0) [ab_R z, l1, l2, l3, l4] (ab_R z :: st) σ Q := ab_r_aload_n rfl kc_X11_runSunday dX11_runSunday_4
theorem rX11_runSunday_5 : ab_Run X 151 5 (4, 0, 0) L (ab_R a :: st) σ Q ↔ (ab_sh σ a).1 = 12 ∧ ab_Run X 151 8 (4, 0, 0) L (ab_R (ab_rd σ a 7) :: st) σ Q := gF_11_58 ko_X11_runSunday kc_X11_runSunday dX11_runSunday_5
theorem rX11_runSunday_8 : ab_Run X 151 8 (4, 0, 0) L (ab_R a :: st) σ Q ↔ (ab_sh σ a).1 = 5 ∧ ab_Run X 151 11 (4, 0, 0) L (ab_I (ab_rd σ a 5) :: st) σ Q := gF_11_100 ko_X11_runSunday kc_X11_runSunday dX11_runSunday_8
theorem rX11_runSunday_11 : ab_Run X 151 11 (4, 0, 0) L (ab_I x1 :: ab_R a :: st) σ Q ↔ ((ab_sh σ a).1 = 9 ∧ ab_cats st ≤ 8) ∧ ab_Do X 64 [ab_R a, ab_I x1] σ (fun r σ' => ab_Run X 151 14 (4, 0, 0) L (ab_psh r st) σ' Q) := ab_r_callV (w := [ab_I x1]) (as := [ab_I x1]) (b1 := (0, 0, 0)) 0 (Or.inl rfl) (by decide) ko_X11_runSunday qM_11_439 (by decide) rfl rfl rfl rfl rfl (by decide) (Nat.le_of_ble_eq_true rfl) kc_X11_runSunday dX11_runSunday_11
theorem rX11_runSunday_14 : ab_Run X 151 14 (4, 0, 0) [l0, l1, l2, l3, l4] (ab_I z :: st) σ Q ↔ (!ab_isJ l0) = true ∧ ab_Run X 151 15 (4, 0, 0) [l0, ab_I z, l2, l3, l4] st σ Q := ab_r_istore_n (Nat.le_of_ble_eq_true rfl) kc_X11_runSunday dX11_runSunday_14
theorem rX11_runSunday_15 : ab_Run X 151 15 (4, 0, 0) [ab_R z, l1, l2, l3, l4] st σ Q ↔ z ≠ 0 ∧ ab_Run X 151 16 (4, 0, 0) [ab_R z, l1, l2, l3, l4] (ab_R z :: st) σ Q := ab_r_aload_n rfl kc_X11_runSunday dX11_runSunday_15
theorem rX11_runSunday_16 : ab_Run X 151 16 (4, 0, 0) L (ab_R a :: st) σ Q ↔ (ab_sh σ a).1 = 12 ∧ ab_Run X 151 19 (4, 0, 0) L (ab_R (ab_rd σ a 1) :: st) σ Q := gF_11_19 ko_X11_runSunday kc_X11_runSunday dX11_runSunday_16
theorem rX11_runSunday_19 : ab_Run X 151 19 (4, 0, 0) [ab_R z, l1, l2, l3, l4] st σ Q ↔ z ≠ 0 ∧ ab_Run X 151 20 (4, 0, 0) [ab_R z, l1, l2, l3, l4] (ab_R z :: st) σ Q := ab_r_aload_n rfl kc_X11_runSunday dX11_runSunday_19
theorem rX11_runSunday_20 : ab_Run X 151 20 (4, 0, 0) L (ab_R a :: st) σ Q ↔ (ab_sh σ a).1 = 12 ∧ ab_Run X 151 23 (4, 0, 0) L (ab_R (ab_rd σ a 7) :: st) σ Q := gF_11_58 ko_X11_runSunday kc_X11_runSunday dX11_runSunday_20
theorem rX11_runSunday_23 : ab_Run X 151 23 (4, 0, 0) L (ab_R a :: st) σ Q ↔ (ab_sh σ a).1 = 5 ∧ ab_Run X 151 26 (4, 0, 0) L (ab_I (ab_rd σ a 7) :: st) σ Q := gF_11_270 ko_X11_runSunday kc_X11_runSunday dX11_runSunday_23
theorem rX11_runSunday_26 : ab_Run X 151 26 (4, 0, 0) L (ab_I x1 :: ab_R a :: st) σ Q ↔ ((ab_sh σ a).1 = 9 ∧ ab_cats st ≤ 8) ∧ ab_Do X 64 [ab_R a, ab_I x1] σ (fun r σ' => ab_Run X 151 29 (4, 0, 0) L (ab_psh r st) σ' Q) := ab_r_callV (w := [ab_I x1]) (as := [ab_I x1]) (b1 := (0, 0, 0)) 0 (Or.inl rfl) (by decide) ko_X11_runSunday qM_11_439 (by decide) rfl rfl rfl rfl rfl (by decide) (Nat.le_of_ble_eq_true rfl) kc_X11_runSunday dX11_runSunday_26
theorem rX11_runSunday_29 : ab_Run X 151 29 (4, 0, 0) [l0, l1, l2, l3, l4] (ab_I z :: st) σ Q ↔ (!ab_isJ l1) = true ∧ ab_Run X 151 30 (4, 0, 0) [l0, l1, ab_I z, l3, l4] st σ Q := ab_r_istore_n (Nat.le_of_ble_eq_true rfl) kc_X11_runSunday dX11_runSunday_29
theorem rX11_runSunday_30 : ab_Run X 151 30 (4, 0, 0) [ab_R z, l1, l2, l3, l4] st σ Q ↔ z ≠ 0 ∧ ab_Run X 151 31 (4, 0, 0) [ab_R z, l1, l2, l3, l4] (ab_R z :: st) σ Q := ab_r_aload_n rfl kc_X11_runSunday dX11_runSunday_30
theorem rX11_runSunday_31 : ab_Run X 151 31 (4, 0, 0) L (ab_R a :: st) σ Q ↔ (ab_sh σ a).1 = 12 ∧ ab_Run X 151 34 (4, 0, 0) L (ab_R (ab_rd σ a 1) :: st) σ Q := gF_11_19 ko_X11_runSunday kc_X11_runSunday dX11_runSunday_31
theorem rX11_runSunday_34 : ab_Run X 151 34 (4, 0, 0) [ab_R z, l1, l2, l3, l4] st σ Q ↔ z ≠ 0 ∧ ab_Run X 151 35 (4, 0, 0) [ab_R z, l1, l2, l3, l4] (ab_R z :: st) σ Q := ab_r_aload_n rfl kc_X11_runSunday dX11_runSunday_34
theorem rX11_runSunday_35 : ab_Run X 151 35 (4, 0, 0) L (ab_R a :: st) σ Q ↔ (ab_sh σ a).1 = 12 ∧ ab_Run X 151 38 (4, 0, 0) L (ab_R (ab_rd σ a 7) :: st) σ Q := gF_11_58 ko_X11_runSunday kc_X11_runSunday dX11_runSunday_35
theorem rX11_runSunday_38 : ab_Run X 151 38 (4, 0, 0) L (ab_R a :: st) σ Q ↔ (ab_sh σ a).1 = 5 ∧ ab_Run X 151 41 (4, 0, 0) L (ab_I (ab_rd σ a 7) :: st) σ Q := gF_11_270 ko_X11_runSunday kc_X11_runSunday dX11_runSunday_38
theorem rX11_runSunday_41 : ab_Run X 151 41 (4, 0, 0) L st σ Q ↔ ab_Run X 151 42 (4, 0, 0) L (ab_I 1 :: st) σ Q := ab_r_iconst (by decide) kc_X11_runSunday dX11_runSunday_41
theorem rX11_runSunday_42 : ab_Run X 151 42 (4, 0, 0) L (ab_I b :: ab_I a :: st) σ Q ↔ ab_Run X 151 43 (4, 0, 0) L (ab_I (ab_w32 (a - b)) :: st) σ Q := ab_r_isub kc_X11_runSunday dX11_runSunday_42
theorem rX11_runSunday_43 : ab_Run X 151 43 (4, 0, 0) L (ab_I x1 :: ab_R a :: st) σ Q ↔ ((ab_sh σ a).1 = 9 ∧ ab_cats st ≤ 8) ∧ ab_Do X 64 [ab_R a, ab_I x1] σ (fun r σ' => ab_Run X 151 46 (4, 0, 0) L (ab_psh r st) σ' Q) := ab_r_callV (w := [ab_I x1]) (as := [ab_I x1]) (b1 := (0, 0, 0)) 0 (Or.inl rfl) (by decide) ko_X11_runSunday qM_11_439 (by decide) rfl rfl rfl rfl rfl (by decide) (Nat.le_of_ble_eq_true rfl) kc_X11_runSunday dX11_runSunday_43
theorem rX11_runSunday_46 : ab_Run X 151 46 (4, 0, 0) [l0, l1, l2, l3, l4] (ab_I z :: st) σ Q ↔ (!ab_isJ l2) = true ∧ ab_Run X 151 47 (4, 0, 0) [l0, l1, l2, ab_I z, l4] st σ Q := ab_r_istore_n (Nat.le_of_ble_eq_true rfl) kc_X11_runSunday dX11_runSunday_46
theorem rX11_runSunday_47 : ab_Run X 151 47 (4, 0, 0) [l0, l1, l2, ab_I z, l4] st σ Q ↔ ab_Run X 151 48 (4, 0, 0) [l0, l1, l2, ab_I z, l4] (ab_I z :: st) σ Q := ab_r_iload_n rfl kc_X11_runSunday dX11_runSunday_47
theorem rX11_runSunday_48 : ab_Run X 151 48 (4, 0, 0) [l0, l1, ab_I z, l3, l4] st σ Q ↔ ab_Run X 151 49 (4, 0, 0) [l0, l1, ab_I z, l3, l4] (ab_I z :: st) σ Q := ab_r_iload_n rfl kc_X11_runSunday dX11_runSunday_48
theorem rX11_runSunday_49 : ab_Run X 151 49 (4, 0, 0) L (ab_I b :: ab_I a :: st) σ Q ↔ (a < b → ab_Run X 151 55 (4, 0, 0) L st σ Q) ∧ (¬ (a < b) → ab_Run X 151 52 (4, 0, 0) L st σ Q) := ab_r_icmp_lt rfl kc_X11_runSunday dX11_runSunday_49
theorem rX11_runSunday_52 : ab_Run X 151 52 (4, 0, 0) [l0, l1, l2, ab_I z, l4] st σ Q ↔ (!ab_isJ l2) = true ∧ ab_Run X 151 55 (4, 0, 0) [l0, l1, l2, ab_I (ab_w32 (z + 1)), l4] st σ Q := ab_r_iinc rfl (by decide) kc_X11_runSunday dX11_runSunday_52
theorem rX11_runSunday_55 : ab_Run X 151 55 (4, 0, 0) [ab_R z, l1, l2, l3, l4] st σ Q ↔ z ≠ 0 ∧ ab_Run X 151 56 (4, 0, 0) [ab_R z, l1, l2, l3, l4] (ab_R z :: st) σ Q := ab_r_aload_n rfl kc_X11_runSunday dX11_runSunday_55
theorem rX11_runSunday_56 : ab_Run X 151 56 (4, 0, 0) [l0, ab_I z, l2, l3, l4] st σ Q ↔ ab_Run X 151 57 (4, 0, 0) [l0, ab_I z, l2, l3, l4] (ab_I z :: st) σ Q := ab_r_iload_n rfl kc_X11_runSunday dX11_runSunday_56
theorem rX11_runSunday_57 : ab_Run X 151 57 (4, 0, 0) L (ab_I x1 :: ab_R a :: st) σ Q ↔ ((ab_sh σ a).1 = 12 ∧ ab_cats st ≤ 8) ∧ ab_Do X 137 [ab_R a, ab_I x1] σ (fun r σ' => ab_Run X 151 60 (4, 0, 0) L (ab_psh r st) σ' Q) := ab_r_callV (w := [ab_I x1]) (as := [ab_I x1]) (b1 := (1, 0, 0)) 0 (Or.inl rfl) (by decide) ko_X11_runSunday qM_11_168 (by decide) rfl rfl rfl rfl rfl (by decide) (Nat.le_of_ble_eq_true rfl) kc_X11_runSunday dX11_runSunday_57
theorem rX11_runSunday_60 : ab_Run X 151 60 (4, 0, 0) [ab_R z, l1, l2, l3, l4] st σ Q ↔ z ≠ 0 ∧ ab_Run X 151 61 (4, 0, 0) [ab_R z, l1, l2, l3, l4] (ab_R z :: st) σ Q := ab_r_aload_n rfl kc_X11_runSunday dX11_runSunday_60
theorem rX11_runSunday_61 : ab_Run X 151 61 (4, 0, 0) [l0, ab_I z, l2, l3, l4] st σ Q ↔ ab_Run X 151 62 (4, 0, 0) [l0, ab_I z, l2, l3, l4] (ab_I z :: st) σ Q := ab_r_iload_n rfl kc_X11_runSunday dX11_runSunday_61
theorem rX11_runSunday_62 : ab_Run X 151 62 (4, 0, 0) [l0, l1, ab_I z, l3, l4] st σ Q ↔ ab_Run X 151 63 (4, 0, 0) [l0, l1, ab_I z, l3, l4] (ab_I z :: st) σ Q := ab_r_iload_n rfl kc_X11_runSunday dX11_runSunday_62
theorem rX11_runSunday_63 : ab_Run X 151 63 (4, 0, 0) [l0, l1, l2, ab_I z, l4] st σ Q ↔ ab_Run X 151 64 (4, 0, 0) [l0, l1, l2, ab_I z, l4] (ab_I z :: st) σ Q := ab_r_iload_n rfl kc_X11_runSunday dX11_runSunday_63
theorem rX11_runSunday_64 : ab_Run X 151 64 (4, 0, 0) L (ab_I x3 :: ab_I x2 :: ab_I x1 :: ab_R a :: st) σ Q ↔ ((ab_sh σ a).1 = 12 ∧ ab_cats st ≤ 8) ∧ ab_Do X 140 [ab_R a, ab_I x1, ab_I x2, ab_I x3] σ (fun r σ' => ab_Run X 151 67 (4, 0, 0) L (ab_psh r st) σ' Q) := ab_r_callV (w := [ab_I x3, ab_I x2, ab_I x1]) (as := [ab_I x1, ab_I x2, ab_I x3]) (b1 := (3, 0, 0)) 0 (Or.inl rfl) (by decide) ko_X11_runSunday qM_11_417 (by decide) rfl rfl rfl rfl rfl (by decide) (Nat.le_of_ble_eq_true rfl) kc_X11_runSunday dX11_runSunday_64
theorem rX11_runSunday_67 : ab_Run X 151 67 (4, 0, 0) [ab_R z, l1, l2, l3, l4] st σ Q ↔ z ≠ 0 ∧ ab_Run X 151 68 (4, 0, 0) [ab_R z, l1, l2, l3, l4] (ab_R z :: st) σ Q := ab_r_aload_n rfl kc_X11_runSunday dX11_runSunday_67
theorem rX11_runSunday_68 : ab_Run X 151 68 (4, 0, 0) L (ab_R a :: st) σ Q ↔ (ab_sh σ a).1 = 12 ∧ ab_Run X 151 71 (4, 0, 0) L (ab_R (ab_rd σ a 3) :: st) σ Q := gF_11_33 ko_X11_runSunday kc_X11_runSunday dX11_runSunday_68
theorem rX11_runSunday_71 : ab_Run X 151 71 (4, 0, 0) [ab_R z, l1, l2, l3, l4] st σ Q ↔ z ≠ 0 ∧ ab_Run X 151 72 (4, 0, 0) [ab_R z, l1, l2, l3, l4] (ab_R z :: st) σ Q := ab_r_aload_n rfl kc_X11_runSunday dX11_runSunday_71
theorem rX11_runSunday_72 : ab_Run X 151 72 (4, 0, 0) L (ab_R a :: st) σ Q ↔ (ab_sh σ a).1 = 12 ∧ ab_Run X 151 75 (4, 0, 0) L (ab_R (ab_rd σ a 1) :: st) σ Q := gF_11_19 ko_X11_runSunday kc_X11_runSunday dX11_runSunday_72
theorem rX11_runSunday_75 : ab_Run X 151 75 (4, 0, 0) [ab_R z, l1, l2, l3, l4] st σ Q ↔ z ≠ 0 ∧ ab_Run X 151 76 (4, 0, 0) [ab_R z, l1, l2, l3, l4] (ab_R z :: st) σ Q := ab_r_aload_n rfl kc_X11_runSunday dX11_runSunday_75
theorem rX11_runSunday_76 : ab_Run X 151 76 (4, 0, 0) L (ab_R a :: st) σ Q ↔ (ab_sh σ a).1 = 12 ∧ ab_Run X 151 79 (4, 0, 0) L (ab_R (ab_rd σ a 7) :: st) σ Q := gF_11_58 ko_X11_runSunday kc_X11_runSunday dX11_runSunday_76
theorem rX11_runSunday_79 : ab_Run X 151 79 (4, 0, 0) L (ab_R a :: st) σ Q ↔ (ab_sh σ a).1 = 5 ∧ ab_Run X 151 82 (4, 0, 0) L (ab_I (ab_rd σ a 4) :: st) σ Q := gF_11_341 ko_X11_runSunday kc_X11_runSunday dX11_runSunday_79
theorem rX11_runSunday_82 : ab_Run X 151 82 (4, 0, 0) [ab_R z, l1, l2, l3, l4] st σ Q ↔ z ≠ 0 ∧ ab_Run X 151 83 (4, 0, 0) [ab_R z, l1, l2, l3, l4] (ab_R z :: st) σ Q := ab_r_aload_n rfl kc_X11_runSunday dX11_runSunday_82
theorem rX11_runSunday_83 : ab_Run X 151 83 (4, 0, 0) L (ab_R a :: st) σ Q ↔ (ab_sh σ a).1 = 12 ∧ ab_Run X 151 86 (4, 0, 0) L (ab_R (ab_rd σ a 7) :: st) σ Q := gF_11_58 ko_X11_runSunday kc_X11_runSunday dX11_runSunday_83
theorem rX11_runSunday_86 : ab_Run X 151 86 (4, 0, 0) L (ab_R a :: st) σ Q ↔ (ab_sh σ a).1 = 5 ∧ ab_Run X 151 89 (4, 0, 0) L (ab_R (ab_rd σ a 6) :: st) σ Q := gF_11_118 ko_X11_runSunday kc_X11_runSunday dX11_runSunday_86
theorem rX11_runSunday_89 : ab_Run X 151 89 (4, 0, 0) [l0, ab_I z, l2, l3, l4] st σ Q ↔ ab_Run X 151 90 (4, 0, 0) [l0, ab_I z, l2, l3, l4] (ab_I z :: st) σ Q := ab_r_iload_n rfl kc_X11_runSunday dX11_runSunday_89
theorem rX11_runSunday_90 : ab_Run X 151 90 (4, 0, 0) L (ab_I i :: ab_R a :: st) σ Q ↔ ((25 ≤ (ab_sh σ a).1 ∧ (ab_sh σ a).1 < 30) ∧ 0 ≤ i ∧ i < (ab_sh σ a).2) ∧ ab_Run X 151 91 (4, 0, 0) L (ab_R (ab_rd σ a i) :: st) σ Q := ab_r_aaload kc_X11_runSunday dX11_runSunday_90
theorem rX11_runSunday_91 : ab_Run X 151 91 (4, 0, 0) L (ab_R a :: st) σ Q ↔ ((ab_sh σ a).1 = 2 ∧ ab_cats st ≤ 8) ∧ ab_Do X 8 [ab_R a] σ (fun r σ' => ab_Run X 151 94 (4, 0, 0) L (ab_psh r st) σ' Q) := ab_r_callV (w := []) (as := []) (b1 := (0, 0, 0)) 0 (Or.inl rfl) (by decide) ko_X11_runSunday qM_11_344 (by decide) rfl rfl rfl rfl rfl (by decide) (Nat.le_of_ble_eq_true rfl) kc_X11_runSunday dX11_runSunday_91
theorem rX11_runSunday_94 : ab_Run X 151 94 (4, 0, 0) L (ab_I x2 :: ab_I x1 :: ab_R a :: st) σ Q ↔ ((ab_sh σ a).1 = 9 ∧ ab_cats st ≤ 8) ∧ ab_Do X 65 [ab_R a, ab_I x1, ab_I x2] σ (fun r σ' => ab_Run X 151 97 (4, 0, 0) L (ab_psh r st) σ' Q) := ab_r_callV (w := [ab_I x2, ab_I x1]) (as := [ab_I x1, ab_I x2]) (b1 := (1, 0, 0)) 0 (Or.inl rfl) (by decide) ko_X11_runSunday qM_11_347 (by decide) rfl rfl rfl rfl rfl (by decide) (Nat.le_of_ble_eq_true rfl) kc_X11_runSunday dX11_runSunday_94
theorem rX11_runSunday_97 : ab_Run X 151 97 (4, 0, 0) L (ab_I x1 :: ab_R a :: st) σ Q ↔ ((ab_sh σ a).1 = 7 ∧ ab_cats st ≤ 8) ∧ ab_Do X 36 [ab_R a, ab_I x1] σ (fun r σ' => ab_Run X 151 100 (4, 0, 0) L (ab_psh r st) σ' Q) := ab_r_callV (w := [ab_I x1]) (as := [ab_I x1]) (b1 := (1, 0, 0)) 0 (Or.inl rfl) (by decide) ko_X11_runSunday qM_11_198 (by decide) rfl rfl rfl rfl rfl (by decide) (Nat.le_of_ble_eq_true rfl) kc_X11_runSunday dX11_runSunday_97
theorem rX11_runSunday_100 : ab_Run X 151 100 (4, 0, 0) [l0, l1, l2, l3, l4] (ab_I z :: st) σ Q ↔ (!ab_isJ l3) = true ∧ ab_Run X 151 102 (4, 0, 0) [l0, l1, l2, l3, ab_I z] st σ Q := ab_r_istore (Nat.le_of_ble_eq_true rfl) kc_X11_runSunday dX11_runSunday_100
theorem rX11_runSunday_102 : ab_Run X 151 102 (4, 0, 0) [l0, l1, l2, l3, ab_I z] st σ Q ↔ ab_Run X 151 104 (4, 0, 0) [l0, l1, l2, l3, ab_I z] (ab_I z :: st) σ Q := ab_r_iload rfl kc_X11_runSunday dX11_runSunday_102
theorem rX11_runSunday_104 : ab_Run X 151 104 (4, 0, 0) L (ab_I a :: st) σ Q ↔ (¬ a = 0 → ab_Run X 151 120 (4, 0, 0) L st σ Q) ∧ (¬ (¬ a = 0) → ab_Run X 151 107 (4, 0, 0) L st σ Q) := ab_r_if_ne rfl kc_X11_runSunday dX11_runSunday_104
theorem rX11_runSunday_107 : ab_Run X 151 107 (4, 0, 0) [ab_R z, l1, l2, l3, l4] st σ Q ↔ z ≠ 0 ∧ ab_Run X 151 108 (4, 0, 0) [ab_R z, l1, l2, l3, l4] (ab_R z :: st) σ Q := ab_r_aload_n rfl kc_X11_runSunday dX11_runSunday_107
theorem rX11_runSunday_108 : ab_Run X 151 108 (4, 0, 0) L (ab_R a :: st) σ Q ↔ (ab_sh σ a).1 = 12 ∧ ab_Run X 151 111 (4, 0, 0) L (ab_R (ab_rd σ a 6) :: st) σ Q := gF_11_51 ko_X11_runSunday kc_X11_runSunday dX11_runSunday_108
theorem rX11_runSunday_111 : ab_Run X 151 111 (4, 0, 0) [l0, l1, ab_I z, l3, l4] st σ Q ↔ ab_Run X 151 112 (4, 0, 0) [l0, l1, ab_I z, l3, l4] (ab_I z :: st) σ Q := ab_r_iload_n rfl kc_X11_runSunday dX11_runSunday_111
theorem rX11_runSunday_112 : ab_Run X 151 112 (4, 0, 0) L (ab_I b :: ab_R a :: st) σ Q ↔ ab_Run X 151 113 (4, 0, 0) L (ab_I b :: ab_R a :: ab_I b :: ab_R a :: st) σ Q := ab_r_dup2 kc_X11_runSunday dX11_runSunday_112
theorem rX11_runSunday_113 : ab_Run X 151 113 (4, 0, 0) L (ab_I i :: ab_R a :: st) σ Q ↔ ((ab_sh σ a).1 = 21 ∧ 0 ≤ i ∧ i < (ab_sh σ a).2) ∧ ab_Run X 151 114 (4, 0, 0) L (ab_I (ab_rd σ a i) :: st) σ Q := ab_r_iaload (by decide) kc_X11_runSunday dX11_runSunday_113
theorem rX11_runSunday_114 : ab_Run X 151 114 (4, 0, 0) L st σ Q ↔ ab_Run X 151 115 (4, 0, 0) L (ab_I 1 :: st) σ Q := ab_r_iconst (by decide) kc_X11_runSunday dX11_runSunday_114
theorem rX11_runSunday_115 : ab_Run X 151 115 (4, 0, 0) L (ab_I b :: ab_I a :: st) σ Q ↔ ab_Run X 151 116 (4, 0, 0) L (ab_I (ab_w32 (a + b)) :: st) σ Q := ab_r_iadd kc_X11_runSunday dX11_runSunday_115
theorem rX11_runSunday_116 : ab_Run X 151 116 (4, 0, 0) L (ab_I v :: ab_I i :: ab_R a :: st) σ Q ↔ ((ab_sh σ a).1 = 21 ∧ 0 ≤ i ∧ i < (ab_sh σ a).2) ∧ ab_Run X 151 117 (4, 0, 0) L st (ab_wr σ a i v) Q := ab_r_iastore kc_X11_runSunday dX11_runSunday_116
theorem rX11_runSunday_117 : ab_Run X 151 117 (4, 0, 0) L st σ Q ↔ ab_Run X 151 170 (4, 0, 0) L st σ Q := ab_r_goto rfl kc_X11_runSunday dX11_runSunday_117
theorem rX11_runSunday_120 : ab_Run X 151 120 (4, 0, 0) [l0, l1, l2, l3, ab_I z] st σ Q ↔ ab_Run X 151 122 (4, 0, 0) [l0, l1, l2, l3, ab_I z] (ab_I z :: st) σ Q := ab_r_iload rfl kc_X11_runSunday dX11_runSunday_120
theorem rX11_runSunday_122 : ab_Run X 151 122 (4, 0, 0) L st σ Q ↔ ab_Run X 151 123 (4, 0, 0) L (ab_I 1 :: st) σ Q := ab_r_iconst (by decide) kc_X11_runSunday dX11_runSunday_122
theorem rX11_runSunday_123 : ab_Run X 151 123 (4, 0, 0) L (ab_I b :: ab_I a :: st) σ Q ↔ (¬ a = b → ab_Run X 151 139 (4, 0, 0) L st σ Q) ∧ (¬ (¬ a = b) → ab_Run X 151 126 (4, 0, 0) L st σ Q) := ab_r_icmp_ne rfl kc_X11_runSunday dX11_runSunday_123
theorem rX11_runSunday_126 : ab_Run X 151 126 (4, 0, 0) [ab_R z, l1, l2, l3, l4] st σ Q ↔ z ≠ 0 ∧ ab_Run X 151 127 (4, 0, 0) [ab_R z, l1, l2, l3, l4] (ab_R z :: st) σ Q := ab_r_aload_n rfl kc_X11_runSunday dX11_runSunday_126
theorem rX11_runSunday_127 : ab_Run X 151 127 (4, 0, 0) L (ab_R a :: st) σ Q ↔ (ab_sh σ a).1 = 12 ∧ ab_Run X 151 130 (4, 0, 0) L (ab_R (ab_rd σ a 6) :: st) σ Q := gF_11_51 ko_X11_runSunday kc_X11_runSunday dX11_runSunday_127
theorem rX11_runSunday_130 : ab_Run X 151 130 (4, 0, 0) [l0, l1, l2, ab_I z, l4] st σ Q ↔ ab_Run X 151 131 (4, 0, 0) [l0, l1, l2, ab_I z, l4] (ab_I z :: st) σ Q := ab_r_iload_n rfl kc_X11_runSunday dX11_runSunday_130
theorem rX11_runSunday_131 : ab_Run X 151 131 (4, 0, 0) L (ab_I b :: ab_R a :: st) σ Q ↔ ab_Run X 151 132 (4, 0, 0) L (ab_I b :: ab_R a :: ab_I b :: ab_R a :: st) σ Q := ab_r_dup2 kc_X11_runSunday dX11_runSunday_131
theorem rX11_runSunday_132 : ab_Run X 151 132 (4, 0, 0) L (ab_I i :: ab_R a :: st) σ Q ↔ ((ab_sh σ a).1 = 21 ∧ 0 ≤ i ∧ i < (ab_sh σ a).2) ∧ ab_Run X 151 133 (4, 0, 0) L (ab_I (ab_rd σ a i) :: st) σ Q := ab_r_iaload (by decide) kc_X11_runSunday dX11_runSunday_132
theorem rX11_runSunday_133 : ab_Run X 151 133 (4, 0, 0) L st σ Q ↔ ab_Run X 151 134 (4, 0, 0) L (ab_I 1 :: st) σ Q := ab_r_iconst (by decide) kc_X11_runSunday dX11_runSunday_133
theorem rX11_runSunday_134 : ab_Run X 151 134 (4, 0, 0) L (ab_I b :: ab_I a :: st) σ Q ↔ ab_Run X 151 135 (4, 0, 0) L (ab_I (ab_w32 (a + b)) :: st) σ Q := ab_r_iadd kc_X11_runSunday dX11_runSunday_134
theorem rX11_runSunday_135 : ab_Run X 151 135 (4, 0, 0) L (ab_I v :: ab_I i :: ab_R a :: st) σ Q ↔ ((ab_sh σ a).1 = 21 ∧ 0 ≤ i ∧ i < (ab_sh σ a).2) ∧ ab_Run X 151 136 (4, 0, 0) L st (ab_wr σ a i v) Q := ab_r_iastore kc_X11_runSunday dX11_runSunday_135
theorem rX11_runSunday_136 : ab_Run X 151 136 (4, 0, 0) L st σ Q ↔ ab_Run X 151 170 (4, 0, 0) L st σ Q := ab_r_goto rfl kc_X11_runSunday dX11_runSunday_136
theorem rX11_runSunday_139 : ab_Run X 151 139 (4, 0, 0) [l0, l1, l2, l3, ab_I z] st σ Q ↔ ab_Run X 151 141 (4, 0, 0) [l0, l1, l2, l3, ab_I z] (ab_I z :: st) σ Q := ab_r_iload rfl kc_X11_runSunday dX11_runSunday_139
theorem rX11_runSunday_141 : ab_Run X 151 141 (4, 0, 0) L st σ Q ↔ ab_Run X 151 142 (4, 0, 0) L (ab_I 2 :: st) σ Q := ab_r_iconst (by decide) kc_X11_runSunday dX11_runSunday_141
theorem rX11_runSunday_142 : ab_Run X 151 142 (4, 0, 0) L (ab_I b :: ab_I a :: st) σ Q ↔ (¬ a = b → ab_Run X 151 159 (4, 0, 0) L st σ Q) ∧ (¬ (¬ a = b) → ab_Run X 151 145 (4, 0, 0) L st σ Q) := ab_r_icmp_ne rfl kc_X11_runSunday dX11_runSunday_142
theorem rX11_runSunday_145 : ab_Run X 151 145 (4, 0, 0) [ab_R z, l1, l2, l3, l4] st σ Q ↔ z ≠ 0 ∧ ab_Run X 151 146 (4, 0, 0) [ab_R z, l1, l2, l3, l4] (ab_R z :: st) σ Q := ab_r_aload_n rfl kc_X11_runSunday dX11_runSunday_145
theorem rX11_runSunday_146 : ab_Run X 151 146 (4, 0, 0) L (ab_R a :: st) σ Q ↔ (ab_sh σ a).1 = 12 ∧ ab_Run X 151 149 (4, 0, 0) L (ab_R (ab_rd σ a 6) :: st) σ Q := gF_11_51 ko_X11_runSunday kc_X11_runSunday dX11_runSunday_146
theorem rX11_runSunday_149 : ab_Run X 151 149 (4, 0, 0) L st σ Q ↔ ab_Run X 151 151 (4, 0, 0) L (ab_I 6 :: st) σ Q := ab_r_bipush (by decide) kc_X11_runSunday dX11_runSunday_149
theorem rX11_runSunday_151 : ab_Run X 151 151 (4, 0, 0) L (ab_I b :: ab_R a :: st) σ Q ↔ ab_Run X 151 152 (4, 0, 0) L (ab_I b :: ab_R a :: ab_I b :: ab_R a :: st) σ Q := ab_r_dup2 kc_X11_runSunday dX11_runSunday_151
theorem rX11_runSunday_152 : ab_Run X 151 152 (4, 0, 0) L (ab_I i :: ab_R a :: st) σ Q ↔ ((ab_sh σ a).1 = 21 ∧ 0 ≤ i ∧ i < (ab_sh σ a).2) ∧ ab_Run X 151 153 (4, 0, 0) L (ab_I (ab_rd σ a i) :: st) σ Q := ab_r_iaload (by decide) kc_X11_runSunday dX11_runSunday_152
theorem rX11_runSunday_153 : ab_Run X 151 153 (4, 0, 0) L st σ Q ↔ ab_Run X 151 154 (4, 0, 0) L (ab_I 1 :: st) σ Q := ab_r_iconst (by decide) kc_X11_runSunday dX11_runSunday_153
theorem rX11_runSunday_154 : ab_Run X 151 154 (4, 0, 0) L (ab_I b :: ab_I a :: st) σ Q ↔ ab_Run X 151 155 (4, 0, 0) L (ab_I (ab_w32 (a + b)) :: st) σ Q := ab_r_iadd kc_X11_runSunday dX11_runSunday_154
theorem rX11_runSunday_155 : ab_Run X 151 155 (4, 0, 0) L (ab_I v :: ab_I i :: ab_R a :: st) σ Q ↔ ((ab_sh σ a).1 = 21 ∧ 0 ≤ i ∧ i < (ab_sh σ a).2) ∧ ab_Run X 151 156 (4, 0, 0) L st (ab_wr σ a i v) Q := ab_r_iastore kc_X11_runSunday dX11_runSunday_155
theorem rX11_runSunday_156 : ab_Run X 151 156 (4, 0, 0) L st σ Q ↔ ab_Run X 151 170 (4, 0, 0) L st σ Q := ab_r_goto rfl kc_X11_runSunday dX11_runSunday_156
theorem rX11_runSunday_159 : ab_Run X 151 159 (4, 0, 0) [ab_R z, l1, l2, l3, l4] st σ Q ↔ z ≠ 0 ∧ ab_Run X 151 160 (4, 0, 0) [ab_R z, l1, l2, l3, l4] (ab_R z :: st) σ Q := ab_r_aload_n rfl kc_X11_runSunday dX11_runSunday_159
theorem rX11_runSunday_160 : ab_Run X 151 160 (4, 0, 0) L (ab_R a :: st) σ Q ↔ (ab_sh σ a).1 = 12 ∧ ab_Run X 151 163 (4, 0, 0) L (ab_R (ab_rd σ a 6) :: st) σ Q := gF_11_51 ko_X11_runSunday kc_X11_runSunday dX11_runSunday_160
theorem rX11_runSunday_163 : ab_Run X 151 163 (4, 0, 0) L st σ Q ↔ ab_Run X 151 165 (4, 0, 0) L (ab_I 7 :: st) σ Q := ab_r_bipush (by decide) kc_X11_runSunday dX11_runSunday_163
theorem rX11_runSunday_165 : ab_Run X 151 165 (4, 0, 0) L (ab_I b :: ab_R a :: st) σ Q ↔ ab_Run X 151 166 (4, 0, 0) L (ab_I b :: ab_R a :: ab_I b :: ab_R a :: st) σ Q := ab_r_dup2 kc_X11_runSunday dX11_runSunday_165
theorem rX11_runSunday_166 : ab_Run X 151 166 (4, 0, 0) L (ab_I i :: ab_R a :: st) σ Q ↔ ((ab_sh σ a).1 = 21 ∧ 0 ≤ i ∧ i < (ab_sh σ a).2) ∧ ab_Run X 151 167 (4, 0, 0) L (ab_I (ab_rd σ a i) :: st) σ Q := ab_r_iaload (by decide) kc_X11_runSunday dX11_runSunday_166
theorem rX11_runSunday_167 : ab_Run X 151 167 (4, 0, 0) L st σ Q ↔ ab_Run X 151 168 (4, 0, 0) L (ab_I 1 :: st) σ Q := ab_r_iconst (by decide) kc_X11_runSunday dX11_runSunday_167
theorem rX11_runSunday_168 : ab_Run X 151 168 (4, 0, 0) L (ab_I b :: ab_I a :: st) σ Q ↔ ab_Run X 151 169 (4, 0, 0) L (ab_I (ab_w32 (a + b)) :: st) σ Q := ab_r_iadd kc_X11_runSunday dX11_runSunday_168
theorem rX11_runSunday_169 : ab_Run X 151 169 (4, 0, 0) L (ab_I v :: ab_I i :: ab_R a :: st) σ Q ↔ ((ab_sh σ a).1 = 21 ∧ 0 ≤ i ∧ i < (ab_sh σ a).2) ∧ ab_Run X 151 170 (4, 0, 0) L st (ab_wr σ a i v) Q := ab_r_iastore kc_X11_runSunday dX11_runSunday_169
theorem rX11_runSunday_170 : ab_Run X 151 170 (4, 0, 0) L [] σ Q ↔ Q none σ := ab_r_return rfl kc_X11_runSunday dX11_runSunday_170
end
