theorem dX13_odds_0 : decode cX13_odds 0 = .ok (.aload_n 0, 1) := by decide +kernel
theorem dX13_odds_1 : decode cX13_odds 1 = .ok (.iconst 0, 1) := by decide +kernel
theorem dX13_odds_2 : decode cX13_odds 2 = .ok (.putfield 53, 3) := by decide +kernel
theorem dX13_odds_5 : decode cX13_odds 5 = .ok (.aload_n 0, 1) := by decide +kernel
theorem dX13_odds_6 : decode cX13_odds 6 = .ok (.aload_n 0, 1) := by decide +kernel
theorem dX13_odds_7 : decode cX13_odds 7 = .ok (.iload_n 1, 1) := by decide +kernel
theorem dX13_odds_8 : decode cX13_odds 8 = .ok (.invokevirtual 444, 3) := by decide +kernel
theorem dX13_odds_11 : decode cX13_odds 11 = .ok (.ifCond .eq 27, 3) := by decide +kernel
theorem dX13_odds_14 : decode cX13_odds 14 = .ok (.aload_n 0, 1) := by decide +kernel
theorem dX13_odds_15 : decode cX13_odds 15 = .ok (.iload_n 2, 1) := by decide +kernel
theorem dX13_odds_16 : decode cX13_odds 16 = .ok (.iload 4, 2) := by decide +kernel
theorem dX13_odds_18 : decode cX13_odds 18 = .ok (.invokevirtual 455, 3) := by decide +kernel
theorem dX13_odds_21 : decode cX13_odds 21 = .ok (.ifCond .eq 17, 3) := by decide +kernel
theorem dX13_odds_24 : decode cX13_odds 24 = .ok (.iload 7, 2) := by decide +kernel
theorem dX13_odds_26 : decode cX13_odds 26 = .ok (.iconst 0, 1) := by decide +kernel
theorem dX13_odds_27 : decode cX13_odds 27 = .ok (.iconst 3, 1) := by decide +kernel
theorem dX13_odds_28 : decode cX13_odds 28 = .ok (.invokestatic 138, 3) := by decide +kernel
theorem dX13_odds_31 : decode cX13_odds 31 = .ok (.ifCond .eq 7, 3) := by decide +kernel
theorem dX13_odds_34 : decode cX13_odds 34 = .ok (.iconst 1, 1) := by decide +kernel
theorem dX13_odds_35 : decode cX13_odds 35 = .ok (.goto 4, 3) := by decide +kernel
theorem dX13_odds_38 : decode cX13_odds 38 = .ok (.iconst 0, 1) := by decide +kernel
theorem dX13_odds_39 : decode cX13_odds 39 = .ok (.iload_n 1, 1) := by decide +kernel
theorem dX13_odds_40 : decode cX13_odds 40 = .ok (.iload_n 3, 1) := by decide +kernel
theorem dX13_odds_41 : decode cX13_odds 41 = .ok (.iload 5, 2) := by decide +kernel
theorem dX13_odds_43 : decode cX13_odds 43 = .ok (.iload 6, 2) := by decide +kernel
theorem dX13_odds_45 : decode cX13_odds 45 = .ok (.invokevirtual 458, 3) := by decide +kernel
theorem dX13_odds_48 : decode cX13_odds 48 = .ok (.istore 9, 2) := by decide +kernel
theorem dX13_odds_50 : decode cX13_odds 50 = .ok (.iload 9, 2) := by decide +kernel
theorem dX13_odds_52 : decode cX13_odds 52 = .ok (.ifCond .le 11, 3) := by decide +kernel
theorem dX13_odds_55 : decode cX13_odds 55 = .ok (.aload_n 0, 1) := by decide +kernel
theorem dX13_odds_56 : decode cX13_odds 56 = .ok (.iload 9, 2) := by decide +kernel
theorem dX13_odds_58 : decode cX13_odds 58 = .ok (.invokevirtual 59, 3) := by decide +kernel
theorem dX13_odds_61 : decode cX13_odds 61 = .ok (.i2l, 1) := by decide +kernel
theorem dX13_odds_62 : decode cX13_odds 62 = .ok (.lreturn, 1) := by decide +kernel
theorem dX13_odds_63 : decode cX13_odds 63 = .ok (.aload_n 0, 1) := by decide +kernel
theorem dX13_odds_64 : decode cX13_odds 64 = .ok (.iload_n 1, 1) := by decide +kernel
theorem dX13_odds_65 : decode cX13_odds 65 = .ok (.iload_n 2, 1) := by decide +kernel
theorem dX13_odds_66 : decode cX13_odds 66 = .ok (.iload_n 3, 1) := by decide +kernel
theorem dX13_odds_67 : decode cX13_odds 67 = .ok (.iload 4, 2) := by decide +kernel
theorem dX13_odds_69 : decode cX13_odds 69 = .ok (.iload 5, 2) := by decide +kernel
theorem dX13_odds_71 : decode cX13_odds 71 = .ok (.iload 6, 2) := by decide +kernel
theorem dX13_odds_73 : decode cX13_odds 73 = .ok (.invokevirtual 396, 3) := by decide +kernel
theorem dX13_odds_76 : decode cX13_odds 76 = .ok (.aload_n 0, 1) := by decide +kernel
theorem dX13_odds_77 : decode cX13_odds 77 = .ok (.aload_n 0, 1) := by decide +kernel
theorem dX13_odds_78 : decode cX13_odds 78 = .ok (.iload 7, 2) := by decide +kernel
theorem dX13_odds_80 : decode cX13_odds 80 = .ok (.invokevirtual 462, 3) := by decide +kernel
theorem dX13_odds_83 : decode cX13_odds 83 = .ok (.ldc2_w 436, 3) := by decide +kernel
theorem dX13_odds_86 : decode cX13_odds 86 = .ok (.aload_n 0, 1) := by decide +kernel
theorem dX13_odds_87 : decode cX13_odds 87 = .ok (.invokevirtual 430, 3) := by decide +kernel
theorem dX13_odds_90 : decode cX13_odds 90 = .ok (.i2l, 1) := by decide +kernel
theorem dX13_odds_91 : decode cX13_odds 91 = .ok (.lmul, 1) := by decide +kernel
theorem dX13_odds_92 : decode cX13_odds 92 = .ok (.iload 8, 2) := by decide +kernel
theorem dX13_odds_94 : decode cX13_odds 94 = .ok (.invokevirtual 466, 3) := by decide +kernel
theorem dX13_odds_97 : decode cX13_odds 97 = .ok (.lreturn, 1) := by decide +kernel
theorem dX13_isChoice_0 : decode cX13_isChoice 0 = .ok (.iload 4, 2) := by decide +kernel
theorem dX13_isChoice_2 : decode cX13_isChoice 2 = .ok (.iconst 2, 1) := by decide +kernel
theorem dX13_isChoice_3 : decode cX13_isChoice 3 = .ok (.idiv, 1) := by decide +kernel
theorem dX13_isChoice_4 : decode cX13_isChoice 4 = .ok (.aload_n 0, 1) := by decide +kernel
theorem dX13_isChoice_5 : decode cX13_isChoice 5 = .ok (.getfield 373, 3) := by decide +kernel
theorem dX13_isChoice_8 : decode cX13_isChoice 8 = .ok (.iload_n 2, 1) := by decide +kernel
theorem dX13_isChoice_9 : decode cX13_isChoice 9 = .ok (.iload_n 3, 1) := by decide +kernel
theorem dX13_isChoice_10 : decode cX13_isChoice 10 = .ok (.invokevirtual 406, 3) := by decide +kernel
theorem dX13_isChoice_13 : decode cX13_isChoice 13 = .ok (.if_icmp .ge 23, 3) := by decide +kernel
theorem dX13_isChoice_16 : decode cX13_isChoice 16 = .ok (.iload 4, 2) := by decide +kernel
theorem dX13_isChoice_18 : decode cX13_isChoice 18 = .ok (.iconst 2, 1) := by decide +kernel
theorem dX13_isChoice_19 : decode cX13_isChoice 19 = .ok (.irem, 1) := by decide +kernel
theorem dX13_isChoice_20 : decode cX13_isChoice 20 = .ok (.iconst 1, 1) := by decide +kernel
theorem dX13_isChoice_21 : decode cX13_isChoice 21 = .ok (.if_icmp .eq 11, 3) := by decide +kernel
theorem dX13_isChoice_24 : decode cX13_isChoice 24 = .ok (.aload_n 0, 1) := by decide +kernel
theorem dX13_isChoice_25 : decode cX13_isChoice 25 = .ok (.iload_n 1, 1) := by decide +kernel
theorem dX13_isChoice_26 : decode cX13_isChoice 26 = .ok (.invokevirtual 386, 3) := by decide +kernel
theorem dX13_isChoice_29 : decode cX13_isChoice 29 = .ok (.ifCond .ne 7, 3) := by decide +kernel
theorem dX13_isChoice_32 : decode cX13_isChoice 32 = .ok (.iconst 1, 1) := by decide +kernel
theorem dX13_isChoice_33 : decode cX13_isChoice 33 = .ok (.goto 4, 3) := by decide +kernel
theorem dX13_isChoice_36 : decode cX13_isChoice 36 = .ok (.iconst 0, 1) := by decide +kernel
theorem dX13_isChoice_37 : decode cX13_isChoice 37 = .ok (.ireturn, 1) := by decide +kernel
theorem dX13_laysGame_0 : decode cX13_laysGame 0 = .ok (.iconst 0, 1) := by decide +kernel
theorem dX13_laysGame_1 : decode cX13_laysGame 1 = .ok (.istore 4, 2) := by decide +kernel
theorem dX13_laysGame_3 : decode cX13_laysGame 3 = .ok (.iload 4, 2) := by decide +kernel
theorem dX13_laysGame_5 : decode cX13_laysGame 5 = .ok (.bipush 12, 2) := by decide +kernel
theorem dX13_laysGame_7 : decode cX13_laysGame 7 = .ok (.if_icmp .ge 148, 3) := by decide +kernel
theorem dX13_laysGame_10 : decode cX13_laysGame 10 = .ok (.iconst 0, 1) := by decide +kernel
theorem dX13_laysGame_11 : decode cX13_laysGame 11 = .ok (.istore 5, 2) := by decide +kernel
theorem dX13_laysGame_13 : decode cX13_laysGame 13 = .ok (.iload 5, 2) := by decide +kernel
theorem dX13_laysGame_15 : decode cX13_laysGame 15 = .ok (.bipush 12, 2) := by decide +kernel
theorem dX13_laysGame_17 : decode cX13_laysGame 17 = .ok (.if_icmp .ge 132, 3) := by decide +kernel
theorem dX13_laysGame_20 : decode cX13_laysGame 20 = .ok (.aload_n 0, 1) := by decide +kernel
theorem dX13_laysGame_21 : decode cX13_laysGame 21 = .ok (.iload_n 2, 1) := by decide +kernel
theorem dX13_laysGame_22 : decode cX13_laysGame 22 = .ok (.iload_n 1, 1) := by decide +kernel
theorem dX13_laysGame_23 : decode cX13_laysGame 23 = .ok (.iconst 0, 1) := by decide +kernel
theorem dX13_laysGame_24 : decode cX13_laysGame 24 = .ok (.iload 4, 2) := by decide +kernel
theorem dX13_laysGame_26 : decode cX13_laysGame 26 = .ok (.invokevirtual 470, 3) := by decide +kernel
theorem dX13_laysGame_29 : decode cX13_laysGame 29 = .ok (.ifCond .eq 114, 3) := by decide +kernel
theorem dX13_laysGame_32 : decode cX13_laysGame 32 = .ok (.aload_n 0, 1) := by decide +kernel
theorem dX13_laysGame_33 : decode cX13_laysGame 33 = .ok (.iload_n 3, 1) := by decide +kernel
theorem dX13_laysGame_34 : decode cX13_laysGame 34 = .ok (.iload_n 1, 1) := by decide +kernel
theorem dX13_laysGame_35 : decode cX13_laysGame 35 = .ok (.iconst 1, 1) := by decide +kernel
theorem dX13_laysGame_36 : decode cX13_laysGame 36 = .ok (.iload 5, 2) := by decide +kernel
theorem dX13_laysGame_38 : decode cX13_laysGame 38 = .ok (.invokevirtual 470, 3) := by decide +kernel
theorem dX13_laysGame_41 : decode cX13_laysGame 41 = .ok (.ifCond .ne 6, 3) := by decide +kernel
theorem dX13_laysGame_44 : decode cX13_laysGame 44 = .ok (.goto 99, 3) := by decide +kernel
theorem dX13_laysGame_47 : decode cX13_laysGame 47 = .ok (.iload 4, 2) := by decide +kernel
theorem dX13_laysGame_49 : decode cX13_laysGame 49 = .ok (.iconst 2, 1) := by decide +kernel
theorem dX13_laysGame_50 : decode cX13_laysGame 50 = .ok (.irem, 1) := by decide +kernel
theorem dX13_laysGame_51 : decode cX13_laysGame 51 = .ok (.iconst 1, 1) := by decide +kernel
theorem dX13_laysGame_52 : decode cX13_laysGame 52 = .ok (.if_icmp .ne 19, 3) := by decide +kernel
theorem dX13_laysGame_55 : decode cX13_laysGame 55 = .ok (.iload 5, 2) := by decide +kernel
theorem dX13_laysGame_57 : decode cX13_laysGame 57 = .ok (.iconst 2, 1) := by decide +kernel
theorem dX13_laysGame_58 : decode cX13_laysGame 58 = .ok (.irem, 1) := by decide +kernel
theorem dX13_laysGame_59 : decode cX13_laysGame 59 = .ok (.iconst 1, 1) := by decide +kernel
theorem dX13_laysGame_60 : decode cX13_laysGame 60 = .ok (.if_icmp .ne 7, 3) := by decide +kernel
theorem dX13_laysGame_63 : decode cX13_laysGame 63 = .ok (.iconst 3, 1) := by decide +kernel
theorem dX13_laysGame_64 : decode cX13_laysGame 64 = .ok (.goto 20, 3) := by decide +kernel
theorem dX13_laysGame_67 : decode cX13_laysGame 67 = .ok (.iconst 0, 1) := by decide +kernel
theorem dX13_laysGame_68 : decode cX13_laysGame 68 = .ok (.goto 16, 3) := by decide +kernel
theorem dX13_laysGame_71 : decode cX13_laysGame 71 = .ok (.iload 5, 2) := by decide +kernel
theorem dX13_laysGame_73 : decode cX13_laysGame 73 = .ok (.iconst 2, 1) := by decide +kernel
theorem dX13_laysGame_74 : decode cX13_laysGame 74 = .ok (.irem, 1) := by decide +kernel
theorem dX13_laysGame_75 : decode cX13_laysGame 75 = .ok (.iconst 1, 1) := by decide +kernel
theorem dX13_laysGame_76 : decode cX13_laysGame 76 = .ok (.if_icmp .ne 7, 3) := by decide +kernel
theorem dX13_laysGame_79 : decode cX13_laysGame 79 = .ok (.iconst 1, 1) := by decide +kernel
theorem dX13_laysGame_80 : decode cX13_laysGame 80 = .ok (.goto 4, 3) := by decide +kernel
theorem dX13_laysGame_83 : decode cX13_laysGame 83 = .ok (.iconst 2, 1) := by decide +kernel
theorem dX13_laysGame_84 : decode cX13_laysGame 84 = .ok (.istore 6, 2) := by decide +kernel
theorem dX13_laysGame_86 : decode cX13_laysGame 86 = .ok (.aload_n 0, 1) := by decide +kernel
theorem dX13_laysGame_87 : decode cX13_laysGame 87 = .ok (.iload_n 1, 1) := by decide +kernel
theorem dX13_laysGame_88 : decode cX13_laysGame 88 = .ok (.iload_n 2, 1) := by decide +kernel
theorem dX13_laysGame_89 : decode cX13_laysGame 89 = .ok (.iload 4, 2) := by decide +kernel
theorem dX13_laysGame_91 : decode cX13_laysGame 91 = .ok (.iconst 2, 1) := by decide +kernel
theorem dX13_laysGame_92 : decode cX13_laysGame 92 = .ok (.idiv, 1) := by decide +kernel
theorem dX13_laysGame_93 : decode cX13_laysGame 93 = .ok (.iconst 1, 1) := by decide +kernel
theorem dX13_laysGame_94 : decode cX13_laysGame 94 = .ok (.iadd, 1) := by decide +kernel
theorem dX13_laysGame_95 : decode cX13_laysGame 95 = .ok (.iload_n 3, 1) := by decide +kernel
theorem dX13_laysGame_96 : decode cX13_laysGame 96 = .ok (.iload 5, 2) := by decide +kernel
theorem dX13_laysGame_98 : decode cX13_laysGame 98 = .ok (.iconst 2, 1) := by decide +kernel
theorem dX13_laysGame_99 : decode cX13_laysGame 99 = .ok (.idiv, 1) := by decide +kernel
theorem dX13_laysGame_100 : decode cX13_laysGame 100 = .ok (.iconst 1, 1) := by decide +kernel
theorem dX13_laysGame_101 : decode cX13_laysGame 101 = .ok (.iadd, 1) := by decide +kernel
theorem dX13_laysGame_102 : decode cX13_laysGame 102 = .ok (.iload 6, 2) := by decide +kernel
theorem dX13_laysGame_104 : decode cX13_laysGame 104 = .ok (.invokevirtual 396, 3) := by decide +kernel
theorem dX13_laysGame_107 : decode cX13_laysGame 107 = .ok (.aload_n 0, 1) := by decide +kernel
theorem dX13_laysGame_108 : decode cX13_laysGame 108 = .ok (.getfield 37, 3) := by decide +kernel
theorem dX13_laysGame_111 : decode cX13_laysGame 111 = .ok (.bipush 12, 2) := by decide +kernel
theorem dX13_laysGame_113 : decode cX13_laysGame 113 = .ok (.iload 4, 2) := by decide +kernel
theorem dX13_laysGame_115 : decode cX13_laysGame 115 = .ok (.imul, 1) := by decide +kernel
theorem dX13_laysGame_116 : decode cX13_laysGame 116 = .ok (.iload 5, 2) := by decide +kernel
theorem dX13_laysGame_118 : decode cX13_laysGame 118 = .ok (.iadd, 1) := by decide +kernel
theorem dX13_laysGame_119 : decode cX13_laysGame 119 = .ok (.aload_n 0, 1) := by decide +kernel
theorem dX13_laysGame_120 : decode cX13_laysGame 120 = .ok (.iconst 0, 1) := by decide +kernel
theorem dX13_laysGame_121 : decode cX13_laysGame 121 = .ok (.invokevirtual 462, 3) := by decide +kernel
theorem dX13_laysGame_124 : decode cX13_laysGame 124 = .ok (.lastore, 1) := by decide +kernel
theorem dX13_laysGame_125 : decode cX13_laysGame 125 = .ok (.aload_n 0, 1) := by decide +kernel
theorem dX13_laysGame_126 : decode cX13_laysGame 126 = .ok (.getfield 41, 3) := by decide +kernel
theorem dX13_laysGame_129 : decode cX13_laysGame 129 = .ok (.bipush 12, 2) := by decide +kernel
theorem dX13_laysGame_131 : decode cX13_laysGame 131 = .ok (.iload 4, 2) := by decide +kernel
theorem dX13_laysGame_133 : decode cX13_laysGame 133 = .ok (.imul, 1) := by decide +kernel
theorem dX13_laysGame_134 : decode cX13_laysGame 134 = .ok (.iload 5, 2) := by decide +kernel
theorem dX13_laysGame_136 : decode cX13_laysGame 136 = .ok (.iadd, 1) := by decide +kernel
theorem dX13_laysGame_137 : decode cX13_laysGame 137 = .ok (.aload_n 0, 1) := by decide +kernel
theorem dX13_laysGame_138 : decode cX13_laysGame 138 = .ok (.iconst 1, 1) := by decide +kernel
theorem dX13_laysGame_139 : decode cX13_laysGame 139 = .ok (.invokevirtual 462, 3) := by decide +kernel
theorem dX13_laysGame_142 : decode cX13_laysGame 142 = .ok (.lastore, 1) := by decide +kernel
theorem dX13_laysGame_143 : decode cX13_laysGame 143 = .ok (.iinc 5 1, 3) := by decide +kernel
theorem dX13_laysGame_146 : decode cX13_laysGame 146 = .ok (.goto (-133), 3) := by decide +kernel
theorem dX13_laysGame_149 : decode cX13_laysGame 149 = .ok (.iinc 4 1, 3) := by decide +kernel
theorem dX13_laysGame_152 : decode cX13_laysGame 152 = .ok (.goto (-149), 3) := by decide +kernel
theorem dX13_laysGame_155 : decode cX13_laysGame 155 = .ok (.return_, 1) := by decide +kernel
theorem dX13_isRest_0 : decode cX13_isRest 0 = .ok (.iconst 0, 1) := by decide +kernel
theorem dX13_isRest_1 : decode cX13_isRest 1 = .ok (.istore 6, 2) := by decide +kernel
theorem dX13_isRest_3 : decode cX13_isRest 3 = .ok (.iload 6, 2) := by decide +kernel
theorem dX13_isRest_5 : decode cX13_isRest 5 = .ok (.bipush 12, 2) := by decide +kernel
theorem dX13_isRest_7 : decode cX13_isRest 7 = .ok (.if_icmp .ge 97, 3) := by decide +kernel
theorem dX13_isRest_10 : decode cX13_isRest 10 = .ok (.aload_n 0, 1) := by decide +kernel
theorem dX13_isRest_11 : decode cX13_isRest 11 = .ok (.iload_n 2, 1) := by decide +kernel
theorem dX13_isRest_12 : decode cX13_isRest 12 = .ok (.iload_n 1, 1) := by decide +kernel
theorem dX13_isRest_13 : decode cX13_isRest 13 = .ok (.iconst 0, 1) := by decide +kernel
theorem dX13_isRest_14 : decode cX13_isRest 14 = .ok (.iload 6, 2) := by decide +kernel
theorem dX13_isRest_16 : decode cX13_isRest 16 = .ok (.invokevirtual 470, 3) := by decide +kernel
theorem dX13_isRest_19 : decode cX13_isRest 19 = .ok (.ifCond .eq 35, 3) := by decide +kernel
theorem dX13_isRest_22 : decode cX13_isRest 22 = .ok (.aload_n 0, 1) := by decide +kernel
theorem dX13_isRest_23 : decode cX13_isRest 23 = .ok (.getfield 37, 3) := by decide +kernel
theorem dX13_isRest_26 : decode cX13_isRest 26 = .ok (.bipush 12, 2) := by decide +kernel
theorem dX13_isRest_28 : decode cX13_isRest 28 = .ok (.iload 6, 2) := by decide +kernel
theorem dX13_isRest_30 : decode cX13_isRest 30 = .ok (.imul, 1) := by decide +kernel
theorem dX13_isRest_31 : decode cX13_isRest 31 = .ok (.iload 5, 2) := by decide +kernel
theorem dX13_isRest_33 : decode cX13_isRest 33 = .ok (.iadd, 1) := by decide +kernel
theorem dX13_isRest_34 : decode cX13_isRest 34 = .ok (.laload, 1) := by decide +kernel
theorem dX13_isRest_35 : decode cX13_isRest 35 = .ok (.aload_n 0, 1) := by decide +kernel
theorem dX13_isRest_36 : decode cX13_isRest 36 = .ok (.getfield 37, 3) := by decide +kernel
theorem dX13_isRest_39 : decode cX13_isRest 39 = .ok (.bipush 12, 2) := by decide +kernel
theorem dX13_isRest_41 : decode cX13_isRest 41 = .ok (.iload 4, 2) := by decide +kernel
theorem dX13_isRest_43 : decode cX13_isRest 43 = .ok (.imul, 1) := by decide +kernel
theorem dX13_isRest_44 : decode cX13_isRest 44 = .ok (.iload 5, 2) := by decide +kernel
theorem dX13_isRest_46 : decode cX13_isRest 46 = .ok (.iadd, 1) := by decide +kernel
theorem dX13_isRest_47 : decode cX13_isRest 47 = .ok (.laload, 1) := by decide +kernel
theorem dX13_isRest_48 : decode cX13_isRest 48 = .ok (.lcmp, 1) := by decide +kernel
theorem dX13_isRest_49 : decode cX13_isRest 49 = .ok (.ifCond .le 5, 3) := by decide +kernel
theorem dX13_isRest_52 : decode cX13_isRest 52 = .ok (.iconst 0, 1) := by decide +kernel
theorem dX13_isRest_53 : decode cX13_isRest 53 = .ok (.ireturn, 1) := by decide +kernel
theorem dX13_isRest_54 : decode cX13_isRest 54 = .ok (.aload_n 0, 1) := by decide +kernel
theorem dX13_isRest_55 : decode cX13_isRest 55 = .ok (.iload_n 3, 1) := by decide +kernel
theorem dX13_isRest_56 : decode cX13_isRest 56 = .ok (.iload_n 1, 1) := by decide +kernel
theorem dX13_isRest_57 : decode cX13_isRest 57 = .ok (.iconst 1, 1) := by decide +kernel
theorem dX13_isRest_58 : decode cX13_isRest 58 = .ok (.iload 6, 2) := by decide +kernel
theorem dX13_isRest_60 : decode cX13_isRest 60 = .ok (.invokevirtual 470, 3) := by decide +kernel
theorem dX13_isRest_63 : decode cX13_isRest 63 = .ok (.ifCond .eq 35, 3) := by decide +kernel
theorem dX13_isRest_66 : decode cX13_isRest 66 = .ok (.aload_n 0, 1) := by decide +kernel
theorem dX13_isRest_67 : decode cX13_isRest 67 = .ok (.getfield 41, 3) := by decide +kernel
theorem dX13_isRest_70 : decode cX13_isRest 70 = .ok (.bipush 12, 2) := by decide +kernel
theorem dX13_isRest_72 : decode cX13_isRest 72 = .ok (.iload 4, 2) := by decide +kernel
theorem dX13_isRest_74 : decode cX13_isRest 74 = .ok (.imul, 1) := by decide +kernel
theorem dX13_isRest_75 : decode cX13_isRest 75 = .ok (.iload 6, 2) := by decide +kernel
theorem dX13_isRest_77 : decode cX13_isRest 77 = .ok (.iadd, 1) := by decide +kernel
theorem dX13_isRest_78 : decode cX13_isRest 78 = .ok (.laload, 1) := by decide +kernel
theorem dX13_isRest_79 : decode cX13_isRest 79 = .ok (.aload_n 0, 1) := by decide +kernel
theorem dX13_isRest_80 : decode cX13_isRest 80 = .ok (.getfield 41, 3) := by decide +kernel
theorem dX13_isRest_83 : decode cX13_isRest 83 = .ok (.bipush 12, 2) := by decide +kernel
theorem dX13_isRest_85 : decode cX13_isRest 85 = .ok (.iload 4, 2) := by decide +kernel
theorem dX13_isRest_87 : decode cX13_isRest 87 = .ok (.imul, 1) := by decide +kernel
theorem dX13_isRest_88 : decode cX13_isRest 88 = .ok (.iload 5, 2) := by decide +kernel
theorem dX13_isRest_90 : decode cX13_isRest 90 = .ok (.iadd, 1) := by decide +kernel
theorem dX13_isRest_91 : decode cX13_isRest 91 = .ok (.laload, 1) := by decide +kernel
theorem dX13_isRest_92 : decode cX13_isRest 92 = .ok (.lcmp, 1) := by decide +kernel
theorem dX13_isRest_93 : decode cX13_isRest 93 = .ok (.ifCond .le 5, 3) := by decide +kernel
theorem dX13_isRest_96 : decode cX13_isRest 96 = .ok (.iconst 0, 1) := by decide +kernel
theorem dX13_isRest_97 : decode cX13_isRest 97 = .ok (.ireturn, 1) := by decide +kernel
theorem dX13_isRest_98 : decode cX13_isRest 98 = .ok (.iinc 6 1, 3) := by decide +kernel
theorem dX13_isRest_101 : decode cX13_isRest 101 = .ok (.goto (-98), 3) := by decide +kernel
theorem dX13_isRest_104 : decode cX13_isRest 104 = .ok (.iconst 1, 1) := by decide +kernel
theorem dX13_isRest_105 : decode cX13_isRest 105 = .ok (.ireturn, 1) := by decide +kernel
theorem dX13_told_0 : decode cX13_told 0 = .ok (.bipush 10, 2) := by decide +kernel
theorem dX13_told_2 : decode cX13_told 2 = .ok (.iload_n 0, 1) := by decide +kernel
theorem dX13_told_3 : decode cX13_told 3 = .ok (.iconst 2, 1) := by decide +kernel
theorem dX13_told_4 : decode cX13_told 4 = .ok (.idiv, 1) := by decide +kernel
theorem dX13_told_5 : decode cX13_told 5 = .ok (.iconst 1, 1) := by decide +kernel
theorem dX13_told_6 : decode cX13_told 6 = .ok (.iadd, 1) := by decide +kernel
theorem dX13_told_7 : decode cX13_told 7 = .ok (.imul, 1) := by decide +kernel
theorem dX13_told_8 : decode cX13_told 8 = .ok (.iload_n 0, 1) := by decide +kernel
theorem dX13_told_9 : decode cX13_told 9 = .ok (.iconst 2, 1) := by decide +kernel
theorem dX13_told_10 : decode cX13_told 10 = .ok (.irem, 1) := by decide +kernel
theorem dX13_told_11 : decode cX13_told 11 = .ok (.iadd, 1) := by decide +kernel
theorem dX13_told_12 : decode cX13_told 12 = .ok (.ireturn, 1) := by decide +kernel
theorem dX13_best_0 : decode cX13_best 0 = .ok (.aload_n 0, 1) := by decide +kernel
theorem dX13_best_1 : decode cX13_best 1 = .ok (.iconst 0, 1) := by decide +kernel
theorem dX13_best_2 : decode cX13_best 2 = .ok (.putfield 53, 3) := by decide +kernel
theorem dX13_best_5 : decode cX13_best 5 = .ok (.aload_n 0, 1) := by decide +kernel
theorem dX13_best_6 : decode cX13_best 6 = .ok (.iload_n 1, 1) := by decide +kernel
theorem dX13_best_7 : decode cX13_best 7 = .ok (.invokevirtual 444, 3) := by decide +kernel
theorem dX13_best_10 : decode cX13_best 10 = .ok (.ifCond .eq 12, 3) := by decide +kernel
theorem dX13_best_13 : decode cX13_best 13 = .ok (.aload_n 0, 1) := by decide +kernel
theorem dX13_best_14 : decode cX13_best 14 = .ok (.iload_n 2, 1) := by decide +kernel
theorem dX13_best_15 : decode cX13_best 15 = .ok (.iload_n 3, 1) := by decide +kernel
theorem dX13_best_16 : decode cX13_best 16 = .ok (.invokevirtual 455, 3) := by decide +kernel
theorem dX13_best_19 : decode cX13_best 19 = .ok (.ifCond .ne 9, 3) := by decide +kernel
theorem dX13_best_22 : decode cX13_best 22 = .ok (.aload_n 0, 1) := by decide +kernel
theorem dX13_best_23 : decode cX13_best 23 = .ok (.iconst 1, 1) := by decide +kernel
theorem dX13_best_24 : decode cX13_best 24 = .ok (.invokevirtual 59, 3) := by decide +kernel
theorem dX13_best_27 : decode cX13_best 27 = .ok (.ireturn, 1) := by decide +kernel
theorem dX13_best_28 : decode cX13_best 28 = .ok (.iload 4, 2) := by decide +kernel
theorem dX13_best_30 : decode cX13_best 30 = .ok (.iconst 1, 1) := by decide +kernel
theorem dX13_best_31 : decode cX13_best 31 = .ok (.aload_n 0, 1) := by decide +kernel
theorem dX13_best_32 : decode cX13_best 32 = .ok (.getfield 373, 3) := by decide +kernel
theorem dX13_best_35 : decode cX13_best 35 = .ok (.iload_n 1, 1) := by decide +kernel
theorem dX13_best_36 : decode cX13_best 36 = .ok (.iconst 1, 1) := by decide +kernel
theorem dX13_best_37 : decode cX13_best 37 = .ok (.invokevirtual 406, 3) := by decide +kernel
theorem dX13_best_40 : decode cX13_best 40 = .ok (.invokestatic 138, 3) := by decide +kernel
theorem dX13_best_43 : decode cX13_best 43 = .ok (.ifCond .ne 9, 3) := by decide +kernel
theorem dX13_best_46 : decode cX13_best 46 = .ok (.aload_n 0, 1) := by decide +kernel
theorem dX13_best_47 : decode cX13_best 47 = .ok (.iconst 2, 1) := by decide +kernel
theorem dX13_best_48 : decode cX13_best 48 = .ok (.invokevirtual 59, 3) := by decide +kernel
theorem dX13_best_51 : decode cX13_best 51 = .ok (.ireturn, 1) := by decide +kernel
theorem dX13_best_52 : decode cX13_best 52 = .ok (.iconst (-1), 1) := by decide +kernel
theorem dX13_best_53 : decode cX13_best 53 = .ok (.istore 5, 2) := by decide +kernel
theorem dX13_best_55 : decode cX13_best 55 = .ok (.lconst 0, 1) := by decide +kernel
theorem dX13_best_56 : decode cX13_best 56 = .ok (.lstore 6, 2) := by decide +kernel
theorem dX13_best_58 : decode cX13_best 58 = .ok (.iconst 0, 1) := by decide +kernel
theorem dX13_best_59 : decode cX13_best 59 = .ok (.istore 8, 2) := by decide +kernel
theorem dX13_best_61 : decode cX13_best 61 = .ok (.iload 8, 2) := by decide +kernel
theorem dX13_best_63 : decode cX13_best 63 = .ok (.bipush 12, 2) := by decide +kernel
theorem dX13_best_65 : decode cX13_best 65 = .ok (.if_icmp .ge 84, 3) := by decide +kernel
theorem dX13_best_68 : decode cX13_best 68 = .ok (.aload_n 0, 1) := by decide +kernel
theorem dX13_best_69 : decode cX13_best 69 = .ok (.iload_n 2, 1) := by decide +kernel
theorem dX13_best_70 : decode cX13_best 70 = .ok (.iload_n 1, 1) := by decide +kernel
theorem dX13_best_71 : decode cX13_best 71 = .ok (.iconst 0, 1) := by decide +kernel
theorem dX13_best_72 : decode cX13_best 72 = .ok (.iload 8, 2) := by decide +kernel
theorem dX13_best_74 : decode cX13_best 74 = .ok (.invokevirtual 470, 3) := by decide +kernel
theorem dX13_best_77 : decode cX13_best 77 = .ok (.ifCond .ne 6, 3) := by decide +kernel
theorem dX13_best_80 : decode cX13_best 80 = .ok (.goto 63, 3) := by decide +kernel
theorem dX13_best_83 : decode cX13_best 83 = .ok (.aload_n 0, 1) := by decide +kernel
theorem dX13_best_84 : decode cX13_best 84 = .ok (.iload_n 1, 1) := by decide +kernel
theorem dX13_best_85 : decode cX13_best 85 = .ok (.iload_n 2, 1) := by decide +kernel
theorem dX13_best_86 : decode cX13_best 86 = .ok (.iload 8, 2) := by decide +kernel
theorem dX13_best_88 : decode cX13_best 88 = .ok (.iconst 2, 1) := by decide +kernel
theorem dX13_best_89 : decode cX13_best 89 = .ok (.idiv, 1) := by decide +kernel
theorem dX13_best_90 : decode cX13_best 90 = .ok (.iconst 1, 1) := by decide +kernel
theorem dX13_best_91 : decode cX13_best 91 = .ok (.iadd, 1) := by decide +kernel
theorem dX13_best_92 : decode cX13_best 92 = .ok (.iload_n 3, 1) := by decide +kernel
theorem dX13_best_93 : decode cX13_best 93 = .ok (.iload 4, 2) := by decide +kernel
theorem dX13_best_95 : decode cX13_best 95 = .ok (.iload 8, 2) := by decide +kernel
theorem dX13_best_97 : decode cX13_best 97 = .ok (.iconst 2, 1) := by decide +kernel
theorem dX13_best_98 : decode cX13_best 98 = .ok (.irem, 1) := by decide +kernel
theorem dX13_best_99 : decode cX13_best 99 = .ok (.iconst 1, 1) := by decide +kernel
theorem dX13_best_100 : decode cX13_best 100 = .ok (.if_icmp .ne 7, 3) := by decide +kernel
theorem dX13_best_103 : decode cX13_best 103 = .ok (.iconst 0, 1) := by decide +kernel
theorem dX13_best_104 : decode cX13_best 104 = .ok (.goto 4, 3) := by decide +kernel
theorem dX13_best_107 : decode cX13_best 107 = .ok (.iconst 2, 1) := by decide +kernel
theorem dX13_best_108 : decode cX13_best 108 = .ok (.invokevirtual 396, 3) := by decide +kernel
theorem dX13_best_111 : decode cX13_best 111 = .ok (.aload_n 0, 1) := by decide +kernel
theorem dX13_best_112 : decode cX13_best 112 = .ok (.iconst 0, 1) := by decide +kernel
theorem dX13_best_113 : decode cX13_best 113 = .ok (.invokevirtual 462, 3) := by decide +kernel
theorem dX13_best_116 : decode cX13_best 116 = .ok (.lstore 9, 2) := by decide +kernel
theorem dX13_best_118 : decode cX13_best 118 = .ok (.iload 5, 2) := by decide +kernel
theorem dX13_best_120 : decode cX13_best 120 = .ok (.iconst (-1), 1) := by decide +kernel
theorem dX13_best_121 : decode cX13_best 121 = .ok (.if_icmp .eq 14, 3) := by decide +kernel
theorem dX13_best_124 : decode cX13_best 124 = .ok (.lload 9, 2) := by decide +kernel
theorem dX13_best_126 : decode cX13_best 126 = .ok (.lload 6, 2) := by decide +kernel
theorem dX13_best_128 : decode cX13_best 128 = .ok (.lcmp, 1) := by decide +kernel
theorem dX13_best_129 : decode cX13_best 129 = .ok (.ifCond .gt 6, 3) := by decide +kernel
theorem dX13_best_132 : decode cX13_best 132 = .ok (.goto 11, 3) := by decide +kernel
theorem dX13_best_135 : decode cX13_best 135 = .ok (.iload 8, 2) := by decide +kernel
theorem dX13_best_137 : decode cX13_best 137 = .ok (.istore 5, 2) := by decide +kernel
theorem dX13_best_139 : decode cX13_best 139 = .ok (.lload 9, 2) := by decide +kernel
theorem dX13_best_141 : decode cX13_best 141 = .ok (.lstore 6, 2) := by decide +kernel
theorem dX13_best_143 : decode cX13_best 143 = .ok (.iinc 8 1, 3) := by decide +kernel
theorem dX13_best_146 : decode cX13_best 146 = .ok (.goto (-85), 3) := by decide +kernel
theorem dX13_best_149 : decode cX13_best 149 = .ok (.aload_n 0, 1) := by decide +kernel
theorem dX13_best_150 : decode cX13_best 150 = .ok (.iload 5, 2) := by decide +kernel
theorem dX13_best_152 : decode cX13_best 152 = .ok (.invokestatic 474, 3) := by decide +kernel
theorem dX13_best_155 : decode cX13_best 155 = .ok (.invokevirtual 63, 3) := by decide +kernel
theorem dX13_best_158 : decode cX13_best 158 = .ok (.ireturn, 1) := by decide +kernel
theorem dX13_restAt_0 : decode cX13_restAt 0 = .ok (.aload_n 0, 1) := by decide +kernel
theorem dX13_restAt_1 : decode cX13_restAt 1 = .ok (.iload_n 1, 1) := by decide +kernel
theorem dX13_restAt_2 : decode cX13_restAt 2 = .ok (.iload_n 2, 1) := by decide +kernel
theorem dX13_restAt_3 : decode cX13_restAt 3 = .ok (.iload_n 3, 1) := by decide +kernel
theorem dX13_restAt_4 : decode cX13_restAt 4 = .ok (.invokevirtual 477, 3) := by decide +kernel
theorem dX13_restAt_7 : decode cX13_restAt 7 = .ok (.iconst 0, 1) := by decide +kernel
theorem dX13_restAt_8 : decode cX13_restAt 8 = .ok (.istore 5, 2) := by decide +kernel
theorem dX13_restAt_10 : decode cX13_restAt 10 = .ok (.iconst 0, 1) := by decide +kernel
theorem dX13_restAt_11 : decode cX13_restAt 11 = .ok (.istore 6, 2) := by decide +kernel
theorem dX13_restAt_13 : decode cX13_restAt 13 = .ok (.iload 6, 2) := by decide +kernel
theorem dX13_restAt_15 : decode cX13_restAt 15 = .ok (.bipush 12, 2) := by decide +kernel
theorem dX13_restAt_17 : decode cX13_restAt 17 = .ok (.if_icmp .ge 91, 3) := by decide +kernel
theorem dX13_restAt_20 : decode cX13_restAt 20 = .ok (.iconst 0, 1) := by decide +kernel
theorem dX13_restAt_21 : decode cX13_restAt 21 = .ok (.istore 7, 2) := by decide +kernel
theorem dX13_restAt_23 : decode cX13_restAt 23 = .ok (.iload 7, 2) := by decide +kernel
theorem dX13_restAt_25 : decode cX13_restAt 25 = .ok (.bipush 12, 2) := by decide +kernel
theorem dX13_restAt_27 : decode cX13_restAt 27 = .ok (.if_icmp .ge 75, 3) := by decide +kernel
theorem dX13_restAt_30 : decode cX13_restAt 30 = .ok (.aload_n 0, 1) := by decide +kernel
theorem dX13_restAt_31 : decode cX13_restAt 31 = .ok (.iload_n 2, 1) := by decide +kernel
theorem dX13_restAt_32 : decode cX13_restAt 32 = .ok (.iload_n 1, 1) := by decide +kernel
theorem dX13_restAt_33 : decode cX13_restAt 33 = .ok (.iconst 0, 1) := by decide +kernel
theorem dX13_restAt_34 : decode cX13_restAt 34 = .ok (.iload 6, 2) := by decide +kernel
theorem dX13_restAt_36 : decode cX13_restAt 36 = .ok (.invokevirtual 470, 3) := by decide +kernel
theorem dX13_restAt_39 : decode cX13_restAt 39 = .ok (.ifCond .eq 57, 3) := by decide +kernel
theorem dX13_restAt_42 : decode cX13_restAt 42 = .ok (.aload_n 0, 1) := by decide +kernel
theorem dX13_restAt_43 : decode cX13_restAt 43 = .ok (.iload_n 3, 1) := by decide +kernel
theorem dX13_restAt_44 : decode cX13_restAt 44 = .ok (.iload_n 1, 1) := by decide +kernel
theorem dX13_restAt_45 : decode cX13_restAt 45 = .ok (.iconst 1, 1) := by decide +kernel
theorem dX13_restAt_46 : decode cX13_restAt 46 = .ok (.iload 7, 2) := by decide +kernel
theorem dX13_restAt_48 : decode cX13_restAt 48 = .ok (.invokevirtual 470, 3) := by decide +kernel
theorem dX13_restAt_51 : decode cX13_restAt 51 = .ok (.ifCond .eq 45, 3) := by decide +kernel
theorem dX13_restAt_54 : decode cX13_restAt 54 = .ok (.aload_n 0, 1) := by decide +kernel
theorem dX13_restAt_55 : decode cX13_restAt 55 = .ok (.iload_n 1, 1) := by decide +kernel
theorem dX13_restAt_56 : decode cX13_restAt 56 = .ok (.iload_n 2, 1) := by decide +kernel
theorem dX13_restAt_57 : decode cX13_restAt 57 = .ok (.iload_n 3, 1) := by decide +kernel
theorem dX13_restAt_58 : decode cX13_restAt 58 = .ok (.iload 6, 2) := by decide +kernel
theorem dX13_restAt_60 : decode cX13_restAt 60 = .ok (.iload 7, 2) := by decide +kernel
theorem dX13_restAt_62 : decode cX13_restAt 62 = .ok (.invokevirtual 481, 3) := by decide +kernel
theorem dX13_restAt_65 : decode cX13_restAt 65 = .ok (.ifCond .ne 6, 3) := by decide +kernel
theorem dX13_restAt_68 : decode cX13_restAt 68 = .ok (.goto 28, 3) := by decide +kernel
theorem dX13_restAt_71 : decode cX13_restAt 71 = .ok (.iload 5, 2) := by decide +kernel
theorem dX13_restAt_73 : decode cX13_restAt 73 = .ok (.iload 4, 2) := by decide +kernel
theorem dX13_restAt_75 : decode cX13_restAt 75 = .ok (.if_icmp .ne 18, 3) := by decide +kernel
theorem dX13_restAt_78 : decode cX13_restAt 78 = .ok (.bipush 100, 2) := by decide +kernel
theorem dX13_restAt_80 : decode cX13_restAt 80 = .ok (.iload 6, 2) := by decide +kernel
theorem dX13_restAt_82 : decode cX13_restAt 82 = .ok (.invokestatic 474, 3) := by decide +kernel
theorem dX13_restAt_85 : decode cX13_restAt 85 = .ok (.imul, 1) := by decide +kernel
theorem dX13_restAt_86 : decode cX13_restAt 86 = .ok (.iload 7, 2) := by decide +kernel
theorem dX13_restAt_88 : decode cX13_restAt 88 = .ok (.invokestatic 474, 3) := by decide +kernel
theorem dX13_restAt_91 : decode cX13_restAt 91 = .ok (.iadd, 1) := by decide +kernel
theorem dX13_restAt_92 : decode cX13_restAt 92 = .ok (.ireturn, 1) := by decide +kernel
theorem dX13_restAt_93 : decode cX13_restAt 93 = .ok (.iinc 5 1, 3) := by decide +kernel
theorem dX13_restAt_96 : decode cX13_restAt 96 = .ok (.iinc 7 1, 3) := by decide +kernel
theorem dX13_restAt_99 : decode cX13_restAt 99 = .ok (.goto (-76), 3) := by decide +kernel
theorem dX13_restAt_102 : decode cX13_restAt 102 = .ok (.iinc 6 1, 3) := by decide +kernel
theorem dX13_restAt_105 : decode cX13_restAt 105 = .ok (.goto (-92), 3) := by decide +kernel
theorem dX13_restAt_108 : decode cX13_restAt 108 = .ok (.iload 4, 2) := by decide +kernel
theorem dX13_restAt_110 : decode cX13_restAt 110 = .ok (.iconst (-1), 1) := by decide +kernel
theorem dX13_restAt_111 : decode cX13_restAt 111 = .ok (.if_icmp .ne 8, 3) := by decide +kernel
theorem dX13_restAt_114 : decode cX13_restAt 114 = .ok (.iload 5, 2) := by decide +kernel
theorem dX13_restAt_116 : decode cX13_restAt 116 = .ok (.goto 5, 3) := by decide +kernel
theorem dX13_restAt_119 : decode cX13_restAt 119 = .ok (.bipush (-2), 2) := by decide +kernel
theorem dX13_restAt_121 : decode cX13_restAt 121 = .ok (.ireturn, 1) := by decide +kernel
theorem dX13_rests_0 : decode cX13_rests 0 = .ok (.aload_n 0, 1) := by decide +kernel
theorem dX13_rests_1 : decode cX13_rests 1 = .ok (.iconst 0, 1) := by decide +kernel
theorem dX13_rests_2 : decode cX13_rests 2 = .ok (.putfield 53, 3) := by decide +kernel
theorem dX13_rests_5 : decode cX13_rests 5 = .ok (.aload_n 0, 1) := by decide +kernel
theorem dX13_rests_6 : decode cX13_rests 6 = .ok (.iload_n 1, 1) := by decide +kernel
theorem dX13_rests_7 : decode cX13_rests 7 = .ok (.invokevirtual 444, 3) := by decide +kernel
theorem dX13_rests_10 : decode cX13_rests 10 = .ok (.ifCond .eq 27, 3) := by decide +kernel
theorem dX13_rests_13 : decode cX13_rests 13 = .ok (.aload_n 0, 1) := by decide +kernel
theorem dX13_rests_14 : decode cX13_rests 14 = .ok (.iload_n 2, 1) := by decide +kernel
theorem dX13_rests_15 : decode cX13_rests 15 = .ok (.iload_n 3, 1) := by decide +kernel
theorem dX13_rests_16 : decode cX13_rests 16 = .ok (.invokevirtual 455, 3) := by decide +kernel
theorem dX13_rests_19 : decode cX13_rests 19 = .ok (.ifCond .eq 18, 3) := by decide +kernel
theorem dX13_rests_22 : decode cX13_rests 22 = .ok (.aload_n 0, 1) := by decide +kernel
theorem dX13_rests_23 : decode cX13_rests 23 = .ok (.aload_n 0, 1) := by decide +kernel
theorem dX13_rests_24 : decode cX13_rests 24 = .ok (.iload_n 1, 1) := by decide +kernel
theorem dX13_rests_25 : decode cX13_rests 25 = .ok (.iload_n 2, 1) := by decide +kernel
theorem dX13_rests_26 : decode cX13_rests 26 = .ok (.iload_n 3, 1) := by decide +kernel
theorem dX13_rests_27 : decode cX13_rests 27 = .ok (.iconst (-1), 1) := by decide +kernel
theorem dX13_rests_28 : decode cX13_rests 28 = .ok (.invokevirtual 485, 3) := by decide +kernel
theorem dX13_rests_31 : decode cX13_rests 31 = .ok (.invokevirtual 63, 3) := by decide +kernel
theorem dX13_rests_34 : decode cX13_rests 34 = .ok (.goto 8, 3) := by decide +kernel
theorem dX13_rests_37 : decode cX13_rests 37 = .ok (.aload_n 0, 1) := by decide +kernel
theorem dX13_rests_38 : decode cX13_rests 38 = .ok (.iconst 1, 1) := by decide +kernel
theorem dX13_rests_39 : decode cX13_rests 39 = .ok (.invokevirtual 59, 3) := by decide +kernel
theorem dX13_rests_42 : decode cX13_rests 42 = .ok (.ireturn, 1) := by decide +kernel
theorem dX13_rest_0 : decode cX13_rest 0 = .ok (.aload_n 0, 1) := by decide +kernel
theorem dX13_rest_1 : decode cX13_rest 1 = .ok (.iconst 0, 1) := by decide +kernel
theorem dX13_rest_2 : decode cX13_rest 2 = .ok (.putfield 53, 3) := by decide +kernel
theorem dX13_rest_5 : decode cX13_rest 5 = .ok (.aload_n 0, 1) := by decide +kernel
theorem dX13_rest_6 : decode cX13_rest 6 = .ok (.iload_n 1, 1) := by decide +kernel
theorem dX13_rest_7 : decode cX13_rest 7 = .ok (.invokevirtual 444, 3) := by decide +kernel
theorem dX13_rest_10 : decode cX13_rest 10 = .ok (.ifCond .eq 27, 3) := by decide +kernel
theorem dX13_rest_13 : decode cX13_rest 13 = .ok (.aload_n 0, 1) := by decide +kernel
theorem dX13_rest_14 : decode cX13_rest 14 = .ok (.iload_n 2, 1) := by decide +kernel
theorem dX13_rest_15 : decode cX13_rest 15 = .ok (.iload_n 3, 1) := by decide +kernel
theorem dX13_rest_16 : decode cX13_rest 16 = .ok (.invokevirtual 455, 3) := by decide +kernel
theorem dX13_rest_19 : decode cX13_rest 19 = .ok (.ifCond .eq 18, 3) := by decide +kernel
theorem dX13_rest_22 : decode cX13_rest 22 = .ok (.aload_n 0, 1) := by decide +kernel
theorem dX13_rest_23 : decode cX13_rest 23 = .ok (.aload_n 0, 1) := by decide +kernel
theorem dX13_rest_24 : decode cX13_rest 24 = .ok (.iload_n 1, 1) := by decide +kernel
theorem dX13_rest_25 : decode cX13_rest 25 = .ok (.iload_n 2, 1) := by decide +kernel
theorem dX13_rest_26 : decode cX13_rest 26 = .ok (.iload_n 3, 1) := by decide +kernel
theorem dX13_rest_27 : decode cX13_rest 27 = .ok (.iconst 0, 1) := by decide +kernel
theorem dX13_rest_28 : decode cX13_rest 28 = .ok (.invokevirtual 485, 3) := by decide +kernel
theorem dX13_rest_31 : decode cX13_rest 31 = .ok (.invokevirtual 63, 3) := by decide +kernel
theorem dX13_rest_34 : decode cX13_rest 34 = .ok (.goto 8, 3) := by decide +kernel
theorem dX13_rest_37 : decode cX13_rest 37 = .ok (.aload_n 0, 1) := by decide +kernel
theorem dX13_rest_38 : decode cX13_rest 38 = .ok (.iconst 1, 1) := by decide +kernel
theorem dX13_rest_39 : decode cX13_rest 39 = .ok (.invokevirtual 59, 3) := by decide +kernel
theorem dX13_rest_42 : decode cX13_rest 42 = .ok (.ireturn, 1) := by decide +kernel
theorem dX13_sure_0 : decode cX13_sure 0 = .ok (.aload_n 0, 1) := by decide +kernel
theorem dX13_sure_1 : decode cX13_sure 1 = .ok (.iconst 0, 1) := by decide +kernel
theorem dX13_sure_2 : decode cX13_sure 2 = .ok (.putfield 53, 3) := by decide +kernel
theorem dX13_sure_5 : decode cX13_sure 5 = .ok (.aload_n 0, 1) := by decide +kernel
theorem dX13_sure_6 : decode cX13_sure 6 = .ok (.iload_n 1, 1) := by decide +kernel
theorem dX13_sure_7 : decode cX13_sure 7 = .ok (.invokevirtual 444, 3) := by decide +kernel
theorem dX13_sure_10 : decode cX13_sure 10 = .ok (.ifCond .eq 12, 3) := by decide +kernel
theorem dX13_sure_13 : decode cX13_sure 13 = .ok (.aload_n 0, 1) := by decide +kernel
theorem dX13_sure_14 : decode cX13_sure 14 = .ok (.iload_n 2, 1) := by decide +kernel
theorem dX13_sure_15 : decode cX13_sure 15 = .ok (.iload_n 3, 1) := by decide +kernel
theorem dX13_sure_16 : decode cX13_sure 16 = .ok (.invokevirtual 455, 3) := by decide +kernel
theorem dX13_sure_19 : decode cX13_sure 19 = .ok (.ifCond .ne 10, 3) := by decide +kernel
theorem dX13_sure_22 : decode cX13_sure 22 = .ok (.aload_n 0, 1) := by decide +kernel
theorem dX13_sure_23 : decode cX13_sure 23 = .ok (.iconst 1, 1) := by decide +kernel
theorem dX13_sure_24 : decode cX13_sure 24 = .ok (.invokevirtual 59, 3) := by decide +kernel
theorem dX13_sure_27 : decode cX13_sure 27 = .ok (.i2l, 1) := by decide +kernel
theorem dX13_sure_28 : decode cX13_sure 28 = .ok (.lreturn, 1) := by decide +kernel
theorem dX13_sure_29 : decode cX13_sure 29 = .ok (.aload_n 0, 1) := by decide +kernel
theorem dX13_sure_30 : decode cX13_sure 30 = .ok (.iload_n 1, 1) := by decide +kernel
theorem dX13_sure_31 : decode cX13_sure 31 = .ok (.iload_n 2, 1) := by decide +kernel
theorem dX13_sure_32 : decode cX13_sure 32 = .ok (.iload_n 3, 1) := by decide +kernel
theorem dX13_sure_33 : decode cX13_sure 33 = .ok (.invokevirtual 477, 3) := by decide +kernel
theorem dX13_sure_36 : decode cX13_sure 36 = .ok (.ldc2_w 425, 3) := by decide +kernel
theorem dX13_sure_39 : decode cX13_sure 39 = .ok (.lstore 5, 2) := by decide +kernel
theorem dX13_sure_41 : decode cX13_sure 41 = .ok (.iconst 0, 1) := by decide +kernel
theorem dX13_sure_42 : decode cX13_sure 42 = .ok (.istore 7, 2) := by decide +kernel
theorem dX13_sure_44 : decode cX13_sure 44 = .ok (.iload 7, 2) := by decide +kernel
theorem dX13_sure_46 : decode cX13_sure 46 = .ok (.bipush 12, 2) := by decide +kernel
theorem dX13_sure_48 : decode cX13_sure 48 = .ok (.if_icmp .ge 115, 3) := by decide +kernel
theorem dX13_sure_51 : decode cX13_sure 51 = .ok (.aload_n 0, 1) := by decide +kernel
theorem dX13_sure_52 : decode cX13_sure 52 = .ok (.iload_n 2, 1) := by decide +kernel
theorem dX13_sure_53 : decode cX13_sure 53 = .ok (.iload_n 1, 1) := by decide +kernel
theorem dX13_sure_54 : decode cX13_sure 54 = .ok (.iconst 0, 1) := by decide +kernel
theorem dX13_sure_55 : decode cX13_sure 55 = .ok (.iload 7, 2) := by decide +kernel
theorem dX13_sure_57 : decode cX13_sure 57 = .ok (.invokevirtual 470, 3) := by decide +kernel
theorem dX13_sure_60 : decode cX13_sure 60 = .ok (.ifCond .ne 6, 3) := by decide +kernel
theorem dX13_sure_63 : decode cX13_sure 63 = .ok (.goto 94, 3) := by decide +kernel
theorem dX13_sure_66 : decode cX13_sure 66 = .ok (.ldc2_w 425, 3) := by decide +kernel
theorem dX13_sure_69 : decode cX13_sure 69 = .ok (.lstore 8, 2) := by decide +kernel
theorem dX13_sure_71 : decode cX13_sure 71 = .ok (.iconst 0, 1) := by decide +kernel
theorem dX13_sure_72 : decode cX13_sure 72 = .ok (.istore 10, 2) := by decide +kernel
theorem dX13_sure_74 : decode cX13_sure 74 = .ok (.iload 10, 2) := by decide +kernel
theorem dX13_sure_76 : decode cX13_sure 76 = .ok (.bipush 12, 2) := by decide +kernel
theorem dX13_sure_78 : decode cX13_sure 78 = .ok (.if_icmp .ge 62, 3) := by decide +kernel
theorem dX13_sure_81 : decode cX13_sure 81 = .ok (.aload_n 0, 1) := by decide +kernel
theorem dX13_sure_82 : decode cX13_sure 82 = .ok (.iload_n 3, 1) := by decide +kernel
theorem dX13_sure_83 : decode cX13_sure 83 = .ok (.iload_n 1, 1) := by decide +kernel
theorem dX13_sure_84 : decode cX13_sure 84 = .ok (.iconst 1, 1) := by decide +kernel
theorem dX13_sure_85 : decode cX13_sure 85 = .ok (.iload 10, 2) := by decide +kernel
theorem dX13_sure_87 : decode cX13_sure 87 = .ok (.invokevirtual 470, 3) := by decide +kernel
theorem dX13_sure_90 : decode cX13_sure 90 = .ok (.ifCond .eq 44, 3) := by decide +kernel
theorem dX13_sure_93 : decode cX13_sure 93 = .ok (.lload 8, 2) := by decide +kernel
theorem dX13_sure_95 : decode cX13_sure 95 = .ok (.lconst 0, 1) := by decide +kernel
theorem dX13_sure_96 : decode cX13_sure 96 = .ok (.lcmp, 1) := by decide +kernel
theorem dX13_sure_97 : decode cX13_sure 97 = .ok (.ifCond .lt 22, 3) := by decide +kernel
theorem dX13_sure_100 : decode cX13_sure 100 = .ok (.aload_n 0, 1) := by decide +kernel
theorem dX13_sure_101 : decode cX13_sure 101 = .ok (.getfield 37, 3) := by decide +kernel
theorem dX13_sure_104 : decode cX13_sure 104 = .ok (.bipush 12, 2) := by decide +kernel
theorem dX13_sure_106 : decode cX13_sure 106 = .ok (.iload 7, 2) := by decide +kernel
theorem dX13_sure_108 : decode cX13_sure 108 = .ok (.imul, 1) := by decide +kernel
theorem dX13_sure_109 : decode cX13_sure 109 = .ok (.iload 10, 2) := by decide +kernel
theorem dX13_sure_111 : decode cX13_sure 111 = .ok (.iadd, 1) := by decide +kernel
theorem dX13_sure_112 : decode cX13_sure 112 = .ok (.laload, 1) := by decide +kernel
theorem dX13_sure_113 : decode cX13_sure 113 = .ok (.lload 8, 2) := by decide +kernel
theorem dX13_sure_115 : decode cX13_sure 115 = .ok (.lcmp, 1) := by decide +kernel
theorem dX13_sure_116 : decode cX13_sure 116 = .ok (.ifCond .ge 18, 3) := by decide +kernel
theorem dX13_sure_119 : decode cX13_sure 119 = .ok (.aload_n 0, 1) := by decide +kernel
theorem dX13_sure_120 : decode cX13_sure 120 = .ok (.getfield 37, 3) := by decide +kernel
theorem dX13_sure_123 : decode cX13_sure 123 = .ok (.bipush 12, 2) := by decide +kernel
theorem dX13_sure_125 : decode cX13_sure 125 = .ok (.iload 7, 2) := by decide +kernel
theorem dX13_sure_127 : decode cX13_sure 127 = .ok (.imul, 1) := by decide +kernel
theorem dX13_sure_128 : decode cX13_sure 128 = .ok (.iload 10, 2) := by decide +kernel
theorem dX13_sure_130 : decode cX13_sure 130 = .ok (.iadd, 1) := by decide +kernel
theorem dX13_sure_131 : decode cX13_sure 131 = .ok (.laload, 1) := by decide +kernel
theorem dX13_sure_132 : decode cX13_sure 132 = .ok (.lstore 8, 2) := by decide +kernel
theorem dX13_sure_134 : decode cX13_sure 134 = .ok (.iinc 10 1, 3) := by decide +kernel
theorem dX13_sure_137 : decode cX13_sure 137 = .ok (.goto (-63), 3) := by decide +kernel
theorem dX13_sure_140 : decode cX13_sure 140 = .ok (.lload 8, 2) := by decide +kernel
theorem dX13_sure_142 : decode cX13_sure 142 = .ok (.lload 5, 2) := by decide +kernel
theorem dX13_sure_144 : decode cX13_sure 144 = .ok (.lcmp, 1) := by decide +kernel
theorem dX13_sure_145 : decode cX13_sure 145 = .ok (.ifCond .le 8, 3) := by decide +kernel
theorem dX13_sure_148 : decode cX13_sure 148 = .ok (.lload 8, 2) := by decide +kernel
theorem dX13_sure_150 : decode cX13_sure 150 = .ok (.goto 5, 3) := by decide +kernel
theorem dX13_sure_153 : decode cX13_sure 153 = .ok (.lload 5, 2) := by decide +kernel
theorem dX13_sure_155 : decode cX13_sure 155 = .ok (.lstore 5, 2) := by decide +kernel
theorem dX13_sure_157 : decode cX13_sure 157 = .ok (.iinc 7 1, 3) := by decide +kernel
theorem dX13_sure_160 : decode cX13_sure 160 = .ok (.goto (-116), 3) := by decide +kernel
theorem dX13_sure_163 : decode cX13_sure 163 = .ok (.aload_n 0, 1) := by decide +kernel
theorem dX13_sure_164 : decode cX13_sure 164 = .ok (.lload 5, 2) := by decide +kernel
theorem dX13_sure_166 : decode cX13_sure 166 = .ok (.ldc2_w 436, 3) := by decide +kernel
theorem dX13_sure_169 : decode cX13_sure 169 = .ok (.aload_n 0, 1) := by decide +kernel
theorem dX13_sure_170 : decode cX13_sure 170 = .ok (.getfield 373, 3) := by decide +kernel
theorem dX13_sure_173 : decode cX13_sure 173 = .ok (.iload_n 1, 1) := by decide +kernel
theorem dX13_sure_174 : decode cX13_sure 174 = .ok (.iconst 0, 1) := by decide +kernel
theorem dX13_sure_175 : decode cX13_sure 175 = .ok (.invokevirtual 406, 3) := by decide +kernel
theorem dX13_sure_178 : decode cX13_sure 178 = .ok (.aload_n 0, 1) := by decide +kernel
theorem dX13_sure_179 : decode cX13_sure 179 = .ok (.getfield 373, 3) := by decide +kernel
theorem dX13_sure_182 : decode cX13_sure 182 = .ok (.iload_n 1, 1) := by decide +kernel
theorem dX13_sure_183 : decode cX13_sure 183 = .ok (.iconst 1, 1) := by decide +kernel
theorem dX13_sure_184 : decode cX13_sure 184 = .ok (.invokevirtual 406, 3) := by decide +kernel
theorem dX13_sure_187 : decode cX13_sure 187 = .ok (.iadd, 1) := by decide +kernel
theorem dX13_sure_188 : decode cX13_sure 188 = .ok (.i2l, 1) := by decide +kernel
theorem dX13_sure_189 : decode cX13_sure 189 = .ok (.lmul, 1) := by decide +kernel
theorem dX13_sure_190 : decode cX13_sure 190 = .ok (.iload 4, 2) := by decide +kernel
theorem dX13_sure_192 : decode cX13_sure 192 = .ok (.invokevirtual 466, 3) := by decide +kernel
theorem dX13_sure_195 : decode cX13_sure 195 = .ok (.lreturn, 1) := by decide +kernel
theorem dX13_curveOf_0 : decode cX13_curveOf 0 = .ok (.aload_n 0, 1) := by decide +kernel
theorem dX13_curveOf_1 : decode cX13_curveOf 1 = .ok (.iload_n 1, 1) := by decide +kernel
theorem dX13_curveOf_2 : decode cX13_curveOf 2 = .ok (.iload_n 2, 1) := by decide +kernel
theorem dX13_curveOf_3 : decode cX13_curveOf 3 = .ok (.iload_n 3, 1) := by decide +kernel
theorem dX13_curveOf_4 : decode cX13_curveOf 4 = .ok (.invokevirtual 489, 3) := by decide +kernel
theorem dX13_curveOf_7 : decode cX13_curveOf 7 = .ok (.aload_n 0, 1) := by decide +kernel
theorem dX13_curveOf_8 : decode cX13_curveOf 8 = .ok (.iload 4, 2) := by decide +kernel
theorem dX13_curveOf_10 : decode cX13_curveOf 10 = .ok (.putfield 383, 3) := by decide +kernel
theorem dX13_curveOf_13 : decode cX13_curveOf 13 = .ok (.aload_n 0, 1) := by decide +kernel
theorem dX13_curveOf_14 : decode cX13_curveOf 14 = .ok (.iconst 0, 1) := by decide +kernel
theorem dX13_curveOf_15 : decode cX13_curveOf 15 = .ok (.invokevirtual 462, 3) := by decide +kernel
theorem dX13_curveOf_18 : decode cX13_curveOf 18 = .ok (.lreturn, 1) := by decide +kernel
theorem dX13_curve_0 : decode cX13_curve 0 = .ok (.aload_n 0, 1) := by decide +kernel
theorem dX13_curve_1 : decode cX13_curve 1 = .ok (.iconst 0, 1) := by decide +kernel
theorem dX13_curve_2 : decode cX13_curve 2 = .ok (.putfield 53, 3) := by decide +kernel
theorem dX13_curve_5 : decode cX13_curve 5 = .ok (.aload_n 0, 1) := by decide +kernel
theorem dX13_curve_6 : decode cX13_curve 6 = .ok (.iload_n 1, 1) := by decide +kernel
theorem dX13_curve_7 : decode cX13_curve 7 = .ok (.invokevirtual 444, 3) := by decide +kernel
theorem dX13_curve_10 : decode cX13_curve 10 = .ok (.ifCond .eq 12, 3) := by decide +kernel
theorem dX13_curve_13 : decode cX13_curve 13 = .ok (.aload_n 0, 1) := by decide +kernel
theorem dX13_curve_14 : decode cX13_curve 14 = .ok (.iload_n 2, 1) := by decide +kernel
theorem dX13_curve_15 : decode cX13_curve 15 = .ok (.iload_n 3, 1) := by decide +kernel
theorem dX13_curve_16 : decode cX13_curve 16 = .ok (.invokevirtual 455, 3) := by decide +kernel
theorem dX13_curve_19 : decode cX13_curve 19 = .ok (.ifCond .ne 10, 3) := by decide +kernel
theorem dX13_curve_22 : decode cX13_curve 22 = .ok (.aload_n 0, 1) := by decide +kernel
theorem dX13_curve_23 : decode cX13_curve 23 = .ok (.iconst 1, 1) := by decide +kernel
theorem dX13_curve_24 : decode cX13_curve 24 = .ok (.invokevirtual 59, 3) := by decide +kernel
theorem dX13_curve_27 : decode cX13_curve 27 = .ok (.i2l, 1) := by decide +kernel
theorem dX13_curve_28 : decode cX13_curve 28 = .ok (.lreturn, 1) := by decide +kernel
theorem dX13_curve_29 : decode cX13_curve 29 = .ok (.iload 4, 2) := by decide +kernel
theorem dX13_curve_31 : decode cX13_curve 31 = .ok (.iconst 0, 1) := by decide +kernel
theorem dX13_curve_32 : decode cX13_curve 32 = .ok (.bipush 24, 2) := by decide +kernel
theorem dX13_curve_34 : decode cX13_curve 34 = .ok (.invokestatic 138, 3) := by decide +kernel
theorem dX13_curve_37 : decode cX13_curve 37 = .ok (.ifCond .ne 10, 3) := by decide +kernel
theorem dX13_curve_40 : decode cX13_curve 40 = .ok (.aload_n 0, 1) := by decide +kernel
theorem dX13_curve_41 : decode cX13_curve 41 = .ok (.iconst 2, 1) := by decide +kernel
theorem dX13_curve_42 : decode cX13_curve 42 = .ok (.invokevirtual 59, 3) := by decide +kernel
theorem dX13_curve_45 : decode cX13_curve 45 = .ok (.i2l, 1) := by decide +kernel
theorem dX13_curve_46 : decode cX13_curve 46 = .ok (.lreturn, 1) := by decide +kernel
theorem dX13_curve_47 : decode cX13_curve 47 = .ok (.aload_n 0, 1) := by decide +kernel
theorem dX13_curve_48 : decode cX13_curve 48 = .ok (.iload_n 1, 1) := by decide +kernel
theorem dX13_curve_49 : decode cX13_curve 49 = .ok (.iload_n 2, 1) := by decide +kernel
theorem dX13_curve_50 : decode cX13_curve 50 = .ok (.iload_n 3, 1) := by decide +kernel
theorem dX13_curve_51 : decode cX13_curve 51 = .ok (.iload 4, 2) := by decide +kernel
theorem dX13_curve_53 : decode cX13_curve 53 = .ok (.invokevirtual 492, 3) := by decide +kernel
theorem dX13_curve_56 : decode cX13_curve 56 = .ok (.lstore 6, 2) := by decide +kernel
theorem dX13_curve_58 : decode cX13_curve 58 = .ok (.aload_n 0, 1) := by decide +kernel
theorem dX13_curve_59 : decode cX13_curve 59 = .ok (.lload 6, 2) := by decide +kernel
theorem dX13_curve_61 : decode cX13_curve 61 = .ok (.ldc2_w 436, 3) := by decide +kernel
theorem dX13_curve_64 : decode cX13_curve 64 = .ok (.aload_n 0, 1) := by decide +kernel
theorem dX13_curve_65 : decode cX13_curve 65 = .ok (.invokevirtual 430, 3) := by decide +kernel
theorem dX13_curve_68 : decode cX13_curve 68 = .ok (.i2l, 1) := by decide +kernel
theorem dX13_curve_69 : decode cX13_curve 69 = .ok (.lmul, 1) := by decide +kernel
theorem dX13_curve_70 : decode cX13_curve 70 = .ok (.iload 5, 2) := by decide +kernel
theorem dX13_curve_72 : decode cX13_curve 72 = .ok (.invokevirtual 466, 3) := by decide +kernel
theorem dX13_curve_75 : decode cX13_curve 75 = .ok (.lreturn, 1) := by decide +kernel
theorem dX13_bestDay_0 : decode cX13_bestDay 0 = .ok (.aload_n 0, 1) := by decide +kernel
theorem dX13_bestDay_1 : decode cX13_bestDay 1 = .ok (.iconst 0, 1) := by decide +kernel
theorem dX13_bestDay_2 : decode cX13_bestDay 2 = .ok (.putfield 53, 3) := by decide +kernel
theorem dX13_bestDay_5 : decode cX13_bestDay 5 = .ok (.aload_n 0, 1) := by decide +kernel
theorem dX13_bestDay_6 : decode cX13_bestDay 6 = .ok (.iload_n 1, 1) := by decide +kernel
theorem dX13_bestDay_7 : decode cX13_bestDay 7 = .ok (.invokevirtual 444, 3) := by decide +kernel
theorem dX13_bestDay_10 : decode cX13_bestDay 10 = .ok (.ifCond .eq 12, 3) := by decide +kernel
theorem dX13_bestDay_13 : decode cX13_bestDay 13 = .ok (.aload_n 0, 1) := by decide +kernel
theorem dX13_bestDay_14 : decode cX13_bestDay 14 = .ok (.iload_n 2, 1) := by decide +kernel
theorem dX13_bestDay_15 : decode cX13_bestDay 15 = .ok (.iload_n 3, 1) := by decide +kernel
theorem dX13_bestDay_16 : decode cX13_bestDay 16 = .ok (.invokevirtual 455, 3) := by decide +kernel
theorem dX13_bestDay_19 : decode cX13_bestDay 19 = .ok (.ifCond .ne 9, 3) := by decide +kernel
theorem dX13_bestDay_22 : decode cX13_bestDay 22 = .ok (.aload_n 0, 1) := by decide +kernel
theorem dX13_bestDay_23 : decode cX13_bestDay 23 = .ok (.iconst 1, 1) := by decide +kernel
theorem dX13_bestDay_24 : decode cX13_bestDay 24 = .ok (.invokevirtual 59, 3) := by decide +kernel
theorem dX13_bestDay_27 : decode cX13_bestDay 27 = .ok (.ireturn, 1) := by decide +kernel
theorem dX13_bestDay_28 : decode cX13_bestDay 28 = .ok (.iconst 0, 1) := by decide +kernel
theorem dX13_bestDay_29 : decode cX13_bestDay 29 = .ok (.istore 4, 2) := by decide +kernel
theorem dX13_bestDay_31 : decode cX13_bestDay 31 = .ok (.iconst 1, 1) := by decide +kernel
theorem dX13_bestDay_32 : decode cX13_bestDay 32 = .ok (.istore 5, 2) := by decide +kernel
theorem dX13_bestDay_34 : decode cX13_bestDay 34 = .ok (.iload 5, 2) := by decide +kernel
theorem dX13_bestDay_36 : decode cX13_bestDay 36 = .ok (.bipush 24, 2) := by decide +kernel
theorem dX13_bestDay_38 : decode cX13_bestDay 38 = .ok (.if_icmp .gt 35, 3) := by decide +kernel
theorem dX13_bestDay_41 : decode cX13_bestDay 41 = .ok (.aload_n 0, 1) := by decide +kernel
theorem dX13_bestDay_42 : decode cX13_bestDay 42 = .ok (.iload_n 1, 1) := by decide +kernel
theorem dX13_bestDay_43 : decode cX13_bestDay 43 = .ok (.iload_n 2, 1) := by decide +kernel
theorem dX13_bestDay_44 : decode cX13_bestDay 44 = .ok (.iload_n 3, 1) := by decide +kernel
theorem dX13_bestDay_45 : decode cX13_bestDay 45 = .ok (.iload 5, 2) := by decide +kernel
theorem dX13_bestDay_47 : decode cX13_bestDay 47 = .ok (.invokevirtual 492, 3) := by decide +kernel
theorem dX13_bestDay_50 : decode cX13_bestDay 50 = .ok (.aload_n 0, 1) := by decide +kernel
theorem dX13_bestDay_51 : decode cX13_bestDay 51 = .ok (.iload_n 1, 1) := by decide +kernel
theorem dX13_bestDay_52 : decode cX13_bestDay 52 = .ok (.iload_n 2, 1) := by decide +kernel
theorem dX13_bestDay_53 : decode cX13_bestDay 53 = .ok (.iload_n 3, 1) := by decide +kernel
theorem dX13_bestDay_54 : decode cX13_bestDay 54 = .ok (.iload 4, 2) := by decide +kernel
theorem dX13_bestDay_56 : decode cX13_bestDay 56 = .ok (.invokevirtual 492, 3) := by decide +kernel
theorem dX13_bestDay_59 : decode cX13_bestDay 59 = .ok (.lcmp, 1) := by decide +kernel
theorem dX13_bestDay_60 : decode cX13_bestDay 60 = .ok (.ifCond .le 7, 3) := by decide +kernel
theorem dX13_bestDay_63 : decode cX13_bestDay 63 = .ok (.iload 5, 2) := by decide +kernel
theorem dX13_bestDay_65 : decode cX13_bestDay 65 = .ok (.istore 4, 2) := by decide +kernel
theorem dX13_bestDay_67 : decode cX13_bestDay 67 = .ok (.iinc 5 1, 3) := by decide +kernel
theorem dX13_bestDay_70 : decode cX13_bestDay 70 = .ok (.goto (-36), 3) := by decide +kernel
theorem dX13_bestDay_73 : decode cX13_bestDay 73 = .ok (.aload_n 0, 1) := by decide +kernel
theorem dX13_bestDay_74 : decode cX13_bestDay 74 = .ok (.iload 4, 2) := by decide +kernel
theorem dX13_bestDay_76 : decode cX13_bestDay 76 = .ok (.invokevirtual 63, 3) := by decide +kernel
theorem dX13_bestDay_79 : decode cX13_bestDay 79 = .ok (.ireturn, 1) := by decide +kernel
theorem dX13_oddsWith_0 : decode cX13_oddsWith 0 = .ok (.aload_n 0, 1) := by decide +kernel
theorem dX13_oddsWith_1 : decode cX13_oddsWith 1 = .ok (.iload_n 1, 1) := by decide +kernel
theorem dX13_oddsWith_2 : decode cX13_oddsWith 2 = .ok (.iload 4, 2) := by decide +kernel
theorem dX13_oddsWith_4 : decode cX13_oddsWith 4 = .ok (.ifCond .ne 7, 3) := by decide +kernel
theorem dX13_oddsWith_7 : decode cX13_oddsWith 7 = .ok (.iload_n 2, 1) := by decide +kernel
theorem dX13_oddsWith_8 : decode cX13_oddsWith 8 = .ok (.goto 4, 3) := by decide +kernel
theorem dX13_oddsWith_11 : decode cX13_oddsWith 11 = .ok (.iload_n 3, 1) := by decide +kernel
theorem dX13_oddsWith_12 : decode cX13_oddsWith 12 = .ok (.iload 4, 2) := by decide +kernel
theorem dX13_oddsWith_14 : decode cX13_oddsWith 14 = .ok (.ifCond .ne 7, 3) := by decide +kernel
theorem dX13_oddsWith_17 : decode cX13_oddsWith 17 = .ok (.iload_n 3, 1) := by decide +kernel
theorem dX13_oddsWith_18 : decode cX13_oddsWith 18 = .ok (.goto 4, 3) := by decide +kernel
theorem dX13_oddsWith_21 : decode cX13_oddsWith 21 = .ok (.iload_n 2, 1) := by decide +kernel
theorem dX13_oddsWith_22 : decode cX13_oddsWith 22 = .ok (.invokevirtual 489, 3) := by decide +kernel
theorem dX13_oddsWith_25 : decode cX13_oddsWith 25 = .ok (.aload_n 0, 1) := by decide +kernel
theorem dX13_oddsWith_26 : decode cX13_oddsWith 26 = .ok (.iload 4, 2) := by decide +kernel
theorem dX13_oddsWith_28 : decode cX13_oddsWith 28 = .ok (.invokevirtual 462, 3) := by decide +kernel
theorem dX13_oddsWith_31 : decode cX13_oddsWith 31 = .ok (.lreturn, 1) := by decide +kernel
theorem dX13_thickness_0 : decode cX13_thickness 0 = .ok (.iconst 0, 1) := by decide +kernel
theorem dX13_thickness_1 : decode cX13_thickness 1 = .ok (.istore_n 3, 1) := by decide +kernel
theorem dX13_thickness_2 : decode cX13_thickness 2 = .ok (.iconst 0, 1) := by decide +kernel
theorem dX13_thickness_3 : decode cX13_thickness 3 = .ok (.istore 4, 2) := by decide +kernel
theorem dX13_thickness_5 : decode cX13_thickness 5 = .ok (.iload 4, 2) := by decide +kernel
theorem dX13_thickness_7 : decode cX13_thickness 7 = .ok (.aload_n 0, 1) := by decide +kernel
theorem dX13_thickness_8 : decode cX13_thickness 8 = .ok (.getfield 373, 3) := by decide +kernel
theorem dX13_thickness_11 : decode cX13_thickness 11 = .ok (.iload_n 1, 1) := by decide +kernel
theorem dX13_thickness_12 : decode cX13_thickness 12 = .ok (.iload_n 2, 1) := by decide +kernel
theorem dX13_thickness_13 : decode cX13_thickness 13 = .ok (.invokevirtual 406, 3) := by decide +kernel
theorem dX13_thickness_16 : decode cX13_thickness 16 = .ok (.if_icmp .ge 23, 3) := by decide +kernel
theorem dX13_thickness_19 : decode cX13_thickness 19 = .ok (.iload_n 3, 1) := by decide +kernel
theorem dX13_thickness_20 : decode cX13_thickness 20 = .ok (.aload_n 0, 1) := by decide +kernel
theorem dX13_thickness_21 : decode cX13_thickness 21 = .ok (.getfield 373, 3) := by decide +kernel
theorem dX13_thickness_24 : decode cX13_thickness 24 = .ok (.iload_n 1, 1) := by decide +kernel
theorem dX13_thickness_25 : decode cX13_thickness 25 = .ok (.iload_n 2, 1) := by decide +kernel
theorem dX13_thickness_26 : decode cX13_thickness 26 = .ok (.iload 4, 2) := by decide +kernel
theorem dX13_thickness_28 : decode cX13_thickness 28 = .ok (.invokevirtual 400, 3) := by decide +kernel
theorem dX13_thickness_31 : decode cX13_thickness 31 = .ok (.iadd, 1) := by decide +kernel
theorem dX13_thickness_32 : decode cX13_thickness 32 = .ok (.istore_n 3, 1) := by decide +kernel
theorem dX13_thickness_33 : decode cX13_thickness 33 = .ok (.iinc 4 1, 3) := by decide +kernel
theorem dX13_thickness_36 : decode cX13_thickness 36 = .ok (.goto (-31), 3) := by decide +kernel
theorem dX13_thickness_39 : decode cX13_thickness 39 = .ok (.iload_n 3, 1) := by decide +kernel
theorem dX13_thickness_40 : decode cX13_thickness 40 = .ok (.ireturn, 1) := by decide +kernel
theorem dX13_chosen_0 : decode cX13_chosen 0 = .ok (.aload_n 0, 1) := by decide +kernel
theorem dX13_chosen_1 : decode cX13_chosen 1 = .ok (.getfield 373, 3) := by decide +kernel
theorem dX13_chosen_4 : decode cX13_chosen 4 = .ok (.getfield 307, 3) := by decide +kernel
theorem dX13_chosen_7 : decode cX13_chosen 7 = .ok (.iload_n 2, 1) := by decide +kernel
theorem dX13_chosen_8 : decode cX13_chosen 8 = .ok (.iaload, 1) := by decide +kernel
theorem dX13_chosen_9 : decode cX13_chosen 9 = .ok (.iconst 1, 1) := by decide +kernel
theorem dX13_chosen_10 : decode cX13_chosen 10 = .ok (.if_icmp .ne 24, 3) := by decide +kernel
theorem dX13_chosen_13 : decode cX13_chosen 13 = .ok (.aload_n 0, 1) := by decide +kernel
theorem dX13_chosen_14 : decode cX13_chosen 14 = .ok (.iload_n 1, 1) := by decide +kernel
theorem dX13_chosen_15 : decode cX13_chosen 15 = .ok (.iconst 1, 1) := by decide +kernel
theorem dX13_chosen_16 : decode cX13_chosen 16 = .ok (.invokevirtual 495, 3) := by decide +kernel
theorem dX13_chosen_19 : decode cX13_chosen 19 = .ok (.aload_n 0, 1) := by decide +kernel
theorem dX13_chosen_20 : decode cX13_chosen 20 = .ok (.iload_n 1, 1) := by decide +kernel
theorem dX13_chosen_21 : decode cX13_chosen 21 = .ok (.iconst 0, 1) := by decide +kernel
theorem dX13_chosen_22 : decode cX13_chosen 22 = .ok (.invokevirtual 495, 3) := by decide +kernel
theorem dX13_chosen_25 : decode cX13_chosen 25 = .ok (.if_icmp .le 7, 3) := by decide +kernel
theorem dX13_chosen_28 : decode cX13_chosen 28 = .ok (.iconst 1, 1) := by decide +kernel
theorem dX13_chosen_29 : decode cX13_chosen 29 = .ok (.goto 4, 3) := by decide +kernel
theorem dX13_chosen_32 : decode cX13_chosen 32 = .ok (.iconst 0, 1) := by decide +kernel
theorem dX13_chosen_33 : decode cX13_chosen 33 = .ok (.ireturn, 1) := by decide +kernel
theorem dX13_chosen_34 : decode cX13_chosen 34 = .ok (.aload_n 0, 1) := by decide +kernel
theorem dX13_chosen_35 : decode cX13_chosen 35 = .ok (.iload_n 1, 1) := by decide +kernel
theorem dX13_chosen_36 : decode cX13_chosen 36 = .ok (.iload_n 2, 1) := by decide +kernel
theorem dX13_chosen_37 : decode cX13_chosen 37 = .ok (.iload_n 3, 1) := by decide +kernel
theorem dX13_chosen_38 : decode cX13_chosen 38 = .ok (.iconst 1, 1) := by decide +kernel
theorem dX13_chosen_39 : decode cX13_chosen 39 = .ok (.invokevirtual 498, 3) := by decide +kernel
theorem dX13_chosen_42 : decode cX13_chosen 42 = .ok (.aload_n 0, 1) := by decide +kernel
theorem dX13_chosen_43 : decode cX13_chosen 43 = .ok (.iload_n 1, 1) := by decide +kernel
theorem dX13_chosen_44 : decode cX13_chosen 44 = .ok (.iload_n 2, 1) := by decide +kernel
theorem dX13_chosen_45 : decode cX13_chosen 45 = .ok (.iload_n 3, 1) := by decide +kernel
theorem dX13_chosen_46 : decode cX13_chosen 46 = .ok (.iconst 0, 1) := by decide +kernel
theorem dX13_chosen_47 : decode cX13_chosen 47 = .ok (.invokevirtual 498, 3) := by decide +kernel
theorem dX13_chosen_50 : decode cX13_chosen 50 = .ok (.lcmp, 1) := by decide +kernel
theorem dX13_chosen_51 : decode cX13_chosen 51 = .ok (.ifCond .le 7, 3) := by decide +kernel
theorem dX13_chosen_54 : decode cX13_chosen 54 = .ok (.iconst 1, 1) := by decide +kernel
theorem dX13_chosen_55 : decode cX13_chosen 55 = .ok (.goto 4, 3) := by decide +kernel
theorem dX13_chosen_58 : decode cX13_chosen 58 = .ok (.iconst 0, 1) := by decide +kernel
theorem dX13_chosen_59 : decode cX13_chosen 59 = .ok (.ireturn, 1) := by decide +kernel
theorem dX13_byLaw_0 : decode cX13_byLaw 0 = .ok (.iload_n 1, 1) := by decide +kernel
theorem dX13_byLaw_1 : decode cX13_byLaw 1 = .ok (.iconst 3, 1) := by decide +kernel
theorem dX13_byLaw_2 : decode cX13_byLaw 2 = .ok (.if_icmp .ne 23, 3) := by decide +kernel
theorem dX13_byLaw_5 : decode cX13_byLaw 5 = .ok (.aload_n 0, 1) := by decide +kernel
theorem dX13_byLaw_6 : decode cX13_byLaw 6 = .ok (.iload_n 2, 1) := by decide +kernel
theorem dX13_byLaw_7 : decode cX13_byLaw 7 = .ok (.iload_n 3, 1) := by decide +kernel
theorem dX13_byLaw_8 : decode cX13_byLaw 8 = .ok (.iload 4, 2) := by decide +kernel
theorem dX13_byLaw_10 : decode cX13_byLaw 10 = .ok (.iconst 0, 1) := by decide +kernel
theorem dX13_byLaw_11 : decode cX13_byLaw 11 = .ok (.invokevirtual 498, 3) := by decide +kernel
theorem dX13_byLaw_14 : decode cX13_byLaw 14 = .ok (.aload_n 0, 1) := by decide +kernel
theorem dX13_byLaw_15 : decode cX13_byLaw 15 = .ok (.iload_n 2, 1) := by decide +kernel
theorem dX13_byLaw_16 : decode cX13_byLaw 16 = .ok (.iload_n 3, 1) := by decide +kernel
theorem dX13_byLaw_17 : decode cX13_byLaw 17 = .ok (.iload 4, 2) := by decide +kernel
theorem dX13_byLaw_19 : decode cX13_byLaw 19 = .ok (.iconst 1, 1) := by decide +kernel
theorem dX13_byLaw_20 : decode cX13_byLaw 20 = .ok (.invokevirtual 498, 3) := by decide +kernel
theorem dX13_byLaw_23 : decode cX13_byLaw 23 = .ok (.ladd, 1) := by decide +kernel
theorem dX13_byLaw_24 : decode cX13_byLaw 24 = .ok (.lreturn, 1) := by decide +kernel
theorem dX13_byLaw_25 : decode cX13_byLaw 25 = .ok (.iload_n 1, 1) := by decide +kernel
theorem dX13_byLaw_26 : decode cX13_byLaw 26 = .ok (.ifCond .ne 7, 3) := by decide +kernel
theorem dX13_byLaw_29 : decode cX13_byLaw 29 = .ok (.iconst 0, 1) := by decide +kernel
theorem dX13_byLaw_30 : decode cX13_byLaw 30 = .ok (.goto 29, 3) := by decide +kernel
theorem dX13_byLaw_33 : decode cX13_byLaw 33 = .ok (.iload_n 1, 1) := by decide +kernel
theorem dX13_byLaw_34 : decode cX13_byLaw 34 = .ok (.iconst 1, 1) := by decide +kernel
theorem dX13_byLaw_35 : decode cX13_byLaw 35 = .ok (.if_icmp .ne 14, 3) := by decide +kernel
theorem dX13_byLaw_38 : decode cX13_byLaw 38 = .ok (.aload_n 0, 1) := by decide +kernel
theorem dX13_byLaw_39 : decode cX13_byLaw 39 = .ok (.iload_n 2, 1) := by decide +kernel
theorem dX13_byLaw_40 : decode cX13_byLaw 40 = .ok (.iload_n 3, 1) := by decide +kernel
theorem dX13_byLaw_41 : decode cX13_byLaw 41 = .ok (.iload 4, 2) := by decide +kernel
theorem dX13_byLaw_43 : decode cX13_byLaw 43 = .ok (.invokevirtual 501, 3) := by decide +kernel
theorem dX13_byLaw_46 : decode cX13_byLaw 46 = .ok (.goto 13, 3) := by decide +kernel
theorem dX13_byLaw_49 : decode cX13_byLaw 49 = .ok (.iconst 1, 1) := by decide +kernel
theorem dX13_byLaw_50 : decode cX13_byLaw 50 = .ok (.aload_n 0, 1) := by decide +kernel
theorem dX13_byLaw_51 : decode cX13_byLaw 51 = .ok (.iload_n 2, 1) := by decide +kernel
theorem dX13_byLaw_52 : decode cX13_byLaw 52 = .ok (.iload 4, 2) := by decide +kernel
theorem dX13_byLaw_54 : decode cX13_byLaw 54 = .ok (.iload_n 3, 1) := by decide +kernel
theorem dX13_byLaw_55 : decode cX13_byLaw 55 = .ok (.invokevirtual 501, 3) := by decide +kernel
theorem dX13_byLaw_58 : decode cX13_byLaw 58 = .ok (.isub, 1) := by decide +kernel
theorem dX13_byLaw_59 : decode cX13_byLaw 59 = .ok (.istore 5, 2) := by decide +kernel
theorem dX13_byLaw_61 : decode cX13_byLaw 61 = .ok (.ldc2_w 504, 3) := by decide +kernel
theorem dX13_byLaw_64 : decode cX13_byLaw 64 = .ok (.aload_n 0, 1) := by decide +kernel
theorem dX13_byLaw_65 : decode cX13_byLaw 65 = .ok (.iload_n 2, 1) := by decide +kernel
theorem dX13_byLaw_66 : decode cX13_byLaw 66 = .ok (.iload_n 3, 1) := by decide +kernel
theorem dX13_byLaw_67 : decode cX13_byLaw 67 = .ok (.iload 4, 2) := by decide +kernel
theorem dX13_byLaw_69 : decode cX13_byLaw 69 = .ok (.iload 5, 2) := by decide +kernel
theorem dX13_byLaw_71 : decode cX13_byLaw 71 = .ok (.invokevirtual 498, 3) := by decide +kernel
theorem dX13_byLaw_74 : decode cX13_byLaw 74 = .ok (.lmul, 1) := by decide +kernel
theorem dX13_byLaw_75 : decode cX13_byLaw 75 = .ok (.lreturn, 1) := by decide +kernel
theorem dX13_lawOdds_0 : decode cX13_lawOdds 0 = .ok (.aload_n 0, 1) := by decide +kernel
theorem dX13_lawOdds_1 : decode cX13_lawOdds 1 = .ok (.iconst 0, 1) := by decide +kernel
theorem dX13_lawOdds_2 : decode cX13_lawOdds 2 = .ok (.putfield 53, 3) := by decide +kernel
theorem dX13_lawOdds_5 : decode cX13_lawOdds 5 = .ok (.iload_n 1, 1) := by decide +kernel
theorem dX13_lawOdds_6 : decode cX13_lawOdds 6 = .ok (.iconst 0, 1) := by decide +kernel
theorem dX13_lawOdds_7 : decode cX13_lawOdds 7 = .ok (.iconst 3, 1) := by decide +kernel
theorem dX13_lawOdds_8 : decode cX13_lawOdds 8 = .ok (.invokestatic 138, 3) := by decide +kernel
theorem dX13_lawOdds_11 : decode cX13_lawOdds 11 = .ok (.ifCond .eq 21, 3) := by decide +kernel
theorem dX13_lawOdds_14 : decode cX13_lawOdds 14 = .ok (.aload_n 0, 1) := by decide +kernel
theorem dX13_lawOdds_15 : decode cX13_lawOdds 15 = .ok (.iload_n 2, 1) := by decide +kernel
theorem dX13_lawOdds_16 : decode cX13_lawOdds 16 = .ok (.invokevirtual 444, 3) := by decide +kernel
theorem dX13_lawOdds_19 : decode cX13_lawOdds 19 = .ok (.ifCond .eq 13, 3) := by decide +kernel
theorem dX13_lawOdds_22 : decode cX13_lawOdds 22 = .ok (.aload_n 0, 1) := by decide +kernel
theorem dX13_lawOdds_23 : decode cX13_lawOdds 23 = .ok (.iload_n 3, 1) := by decide +kernel
theorem dX13_lawOdds_24 : decode cX13_lawOdds 24 = .ok (.iload 4, 2) := by decide +kernel
theorem dX13_lawOdds_26 : decode cX13_lawOdds 26 = .ok (.invokevirtual 455, 3) := by decide +kernel
theorem dX13_lawOdds_29 : decode cX13_lawOdds 29 = .ok (.ifCond .ne 10, 3) := by decide +kernel
theorem dX13_lawOdds_32 : decode cX13_lawOdds 32 = .ok (.aload_n 0, 1) := by decide +kernel
theorem dX13_lawOdds_33 : decode cX13_lawOdds 33 = .ok (.iconst 1, 1) := by decide +kernel
theorem dX13_lawOdds_34 : decode cX13_lawOdds 34 = .ok (.invokevirtual 59, 3) := by decide +kernel
theorem dX13_lawOdds_37 : decode cX13_lawOdds 37 = .ok (.i2l, 1) := by decide +kernel
theorem dX13_lawOdds_38 : decode cX13_lawOdds 38 = .ok (.lreturn, 1) := by decide +kernel
theorem dX13_lawOdds_39 : decode cX13_lawOdds 39 = .ok (.aload_n 0, 1) := by decide +kernel
theorem dX13_lawOdds_40 : decode cX13_lawOdds 40 = .ok (.iload_n 1, 1) := by decide +kernel
theorem dX13_lawOdds_41 : decode cX13_lawOdds 41 = .ok (.iload_n 2, 1) := by decide +kernel
theorem dX13_lawOdds_42 : decode cX13_lawOdds 42 = .ok (.iload_n 3, 1) := by decide +kernel
theorem dX13_lawOdds_43 : decode cX13_lawOdds 43 = .ok (.iload 4, 2) := by decide +kernel
theorem dX13_lawOdds_45 : decode cX13_lawOdds 45 = .ok (.invokevirtual 506, 3) := by decide +kernel
theorem dX13_lawOdds_48 : decode cX13_lawOdds 48 = .ok (.lstore 6, 2) := by decide +kernel
theorem dX13_lawOdds_50 : decode cX13_lawOdds 50 = .ok (.aload_n 0, 1) := by decide +kernel
theorem dX13_lawOdds_51 : decode cX13_lawOdds 51 = .ok (.lload 6, 2) := by decide +kernel
theorem dX13_lawOdds_53 : decode cX13_lawOdds 53 = .ok (.ldc2_w 509, 3) := by decide +kernel
theorem dX13_lawOdds_56 : decode cX13_lawOdds 56 = .ok (.aload_n 0, 1) := by decide +kernel
theorem dX13_lawOdds_57 : decode cX13_lawOdds 57 = .ok (.invokevirtual 430, 3) := by decide +kernel
theorem dX13_lawOdds_60 : decode cX13_lawOdds 60 = .ok (.i2l, 1) := by decide +kernel
theorem dX13_lawOdds_61 : decode cX13_lawOdds 61 = .ok (.lmul, 1) := by decide +kernel
theorem dX13_lawOdds_62 : decode cX13_lawOdds 62 = .ok (.iload 5, 2) := by decide +kernel
theorem dX13_lawOdds_64 : decode cX13_lawOdds 64 = .ok (.invokevirtual 466, 3) := by decide +kernel
theorem dX13_lawOdds_67 : decode cX13_lawOdds 67 = .ok (.lreturn, 1) := by decide +kernel
theorem dX13_fromHalf_0 : decode cX13_fromHalf 0 = .ok (.aload_n 0, 1) := by decide +kernel
theorem dX13_fromHalf_1 : decode cX13_fromHalf 1 = .ok (.iload_n 1, 1) := by decide +kernel
theorem dX13_fromHalf_2 : decode cX13_fromHalf 2 = .ok (.iload_n 2, 1) := by decide +kernel
theorem dX13_fromHalf_3 : decode cX13_fromHalf 3 = .ok (.iload_n 3, 1) := by decide +kernel
theorem dX13_fromHalf_4 : decode cX13_fromHalf 4 = .ok (.iload 4, 2) := by decide +kernel
theorem dX13_fromHalf_6 : decode cX13_fromHalf 6 = .ok (.invokevirtual 506, 3) := by decide +kernel
theorem dX13_fromHalf_9 : decode cX13_fromHalf 9 = .ok (.ldc2_w 436, 3) := by decide +kernel
theorem dX13_fromHalf_12 : decode cX13_fromHalf 12 = .ok (.aload_n 0, 1) := by decide +kernel
theorem dX13_fromHalf_13 : decode cX13_fromHalf 13 = .ok (.invokevirtual 430, 3) := by decide +kernel
theorem dX13_fromHalf_16 : decode cX13_fromHalf 16 = .ok (.i2l, 1) := by decide +kernel
theorem dX13_fromHalf_17 : decode cX13_fromHalf 17 = .ok (.lmul, 1) := by decide +kernel
theorem dX13_fromHalf_18 : decode cX13_fromHalf 18 = .ok (.lsub, 1) := by decide +kernel
theorem dX13_fromHalf_19 : decode cX13_fromHalf 19 = .ok (.lstore 5, 2) := by decide +kernel
theorem dX13_fromHalf_21 : decode cX13_fromHalf 21 = .ok (.lload 5, 2) := by decide +kernel
theorem dX13_fromHalf_23 : decode cX13_fromHalf 23 = .ok (.lconst 0, 1) := by decide +kernel
theorem dX13_fromHalf_24 : decode cX13_fromHalf 24 = .ok (.lcmp, 1) := by decide +kernel
theorem dX13_fromHalf_25 : decode cX13_fromHalf 25 = .ok (.ifCond .ge 9, 3) := by decide +kernel
theorem dX13_fromHalf_28 : decode cX13_fromHalf 28 = .ok (.lload 5, 2) := by decide +kernel
theorem dX13_fromHalf_30 : decode cX13_fromHalf 30 = .ok (.lneg, 1) := by decide +kernel
theorem dX13_fromHalf_31 : decode cX13_fromHalf 31 = .ok (.goto 5, 3) := by decide +kernel
theorem dX13_fromHalf_34 : decode cX13_fromHalf 34 = .ok (.lload 5, 2) := by decide +kernel
theorem dX13_fromHalf_36 : decode cX13_fromHalf 36 = .ok (.lreturn, 1) := by decide +kernel
theorem dX13_fairest_0 : decode cX13_fairest 0 = .ok (.aload_n 0, 1) := by decide +kernel
theorem dX13_fairest_1 : decode cX13_fairest 1 = .ok (.iconst 0, 1) := by decide +kernel
theorem dX13_fairest_2 : decode cX13_fairest 2 = .ok (.putfield 53, 3) := by decide +kernel
theorem dX13_fairest_5 : decode cX13_fairest 5 = .ok (.aload_n 0, 1) := by decide +kernel
theorem dX13_fairest_6 : decode cX13_fairest 6 = .ok (.iload_n 1, 1) := by decide +kernel
theorem dX13_fairest_7 : decode cX13_fairest 7 = .ok (.invokevirtual 444, 3) := by decide +kernel
theorem dX13_fairest_10 : decode cX13_fairest 10 = .ok (.ifCond .eq 12, 3) := by decide +kernel
theorem dX13_fairest_13 : decode cX13_fairest 13 = .ok (.aload_n 0, 1) := by decide +kernel
theorem dX13_fairest_14 : decode cX13_fairest 14 = .ok (.iload_n 2, 1) := by decide +kernel
theorem dX13_fairest_15 : decode cX13_fairest 15 = .ok (.iload_n 3, 1) := by decide +kernel
theorem dX13_fairest_16 : decode cX13_fairest 16 = .ok (.invokevirtual 455, 3) := by decide +kernel
theorem dX13_fairest_19 : decode cX13_fairest 19 = .ok (.ifCond .ne 9, 3) := by decide +kernel
theorem dX13_fairest_22 : decode cX13_fairest 22 = .ok (.aload_n 0, 1) := by decide +kernel
theorem dX13_fairest_23 : decode cX13_fairest 23 = .ok (.iconst 1, 1) := by decide +kernel
theorem dX13_fairest_24 : decode cX13_fairest 24 = .ok (.invokevirtual 59, 3) := by decide +kernel
theorem dX13_fairest_27 : decode cX13_fairest 27 = .ok (.ireturn, 1) := by decide +kernel
theorem dX13_fairest_28 : decode cX13_fairest 28 = .ok (.iconst 0, 1) := by decide +kernel
theorem dX13_fairest_29 : decode cX13_fairest 29 = .ok (.istore 4, 2) := by decide +kernel
theorem dX13_fairest_31 : decode cX13_fairest 31 = .ok (.iconst 1, 1) := by decide +kernel
theorem dX13_fairest_32 : decode cX13_fairest 32 = .ok (.istore 5, 2) := by decide +kernel
theorem dX13_fairest_34 : decode cX13_fairest 34 = .ok (.iload 5, 2) := by decide +kernel
theorem dX13_fairest_36 : decode cX13_fairest 36 = .ok (.iconst 4, 1) := by decide +kernel
theorem dX13_fairest_37 : decode cX13_fairest 37 = .ok (.if_icmp .ge 35, 3) := by decide +kernel
theorem dX13_fairest_40 : decode cX13_fairest 40 = .ok (.aload_n 0, 1) := by decide +kernel
theorem dX13_fairest_41 : decode cX13_fairest 41 = .ok (.iload 5, 2) := by decide +kernel
theorem dX13_fairest_43 : decode cX13_fairest 43 = .ok (.iload_n 1, 1) := by decide +kernel
theorem dX13_fairest_44 : decode cX13_fairest 44 = .ok (.iload_n 2, 1) := by decide +kernel
theorem dX13_fairest_45 : decode cX13_fairest 45 = .ok (.iload_n 3, 1) := by decide +kernel
theorem dX13_fairest_46 : decode cX13_fairest 46 = .ok (.invokevirtual 511, 3) := by decide +kernel
theorem dX13_fairest_49 : decode cX13_fairest 49 = .ok (.aload_n 0, 1) := by decide +kernel
theorem dX13_fairest_50 : decode cX13_fairest 50 = .ok (.iload 4, 2) := by decide +kernel
theorem dX13_fairest_52 : decode cX13_fairest 52 = .ok (.iload_n 1, 1) := by decide +kernel
theorem dX13_fairest_53 : decode cX13_fairest 53 = .ok (.iload_n 2, 1) := by decide +kernel
theorem dX13_fairest_54 : decode cX13_fairest 54 = .ok (.iload_n 3, 1) := by decide +kernel
theorem dX13_fairest_55 : decode cX13_fairest 55 = .ok (.invokevirtual 511, 3) := by decide +kernel
theorem dX13_fairest_58 : decode cX13_fairest 58 = .ok (.lcmp, 1) := by decide +kernel
theorem dX13_fairest_59 : decode cX13_fairest 59 = .ok (.ifCond .ge 7, 3) := by decide +kernel
theorem dX13_fairest_62 : decode cX13_fairest 62 = .ok (.iload 5, 2) := by decide +kernel
theorem dX13_fairest_64 : decode cX13_fairest 64 = .ok (.istore 4, 2) := by decide +kernel
theorem dX13_fairest_66 : decode cX13_fairest 66 = .ok (.iinc 5 1, 3) := by decide +kernel
theorem dX13_fairest_69 : decode cX13_fairest 69 = .ok (.goto (-35), 3) := by decide +kernel
theorem dX13_fairest_72 : decode cX13_fairest 72 = .ok (.aload_n 0, 1) := by decide +kernel
theorem dX13_fairest_73 : decode cX13_fairest 73 = .ok (.iload 4, 2) := by decide +kernel
theorem dX13_fairest_75 : decode cX13_fairest 75 = .ok (.invokevirtual 63, 3) := by decide +kernel
theorem dX13_fairest_78 : decode cX13_fairest 78 = .ok (.ireturn, 1) := by decide +kernel
theorem dX13_lesser_0 : decode cX13_lesser 0 = .ok (.iload_n 1, 1) := by decide +kernel
theorem dX13_lesser_1 : decode cX13_lesser 1 = .ok (.istore_n 2, 1) := by decide +kernel
theorem dX13_lesser_2 : decode cX13_lesser 2 = .ok (.iconst 0, 1) := by decide +kernel
theorem dX13_lesser_3 : decode cX13_lesser 3 = .ok (.istore_n 3, 1) := by decide +kernel
theorem dX13_lesser_4 : decode cX13_lesser 4 = .ok (.iload_n 3, 1) := by decide +kernel
theorem dX13_lesser_5 : decode cX13_lesser 5 = .ok (.aload_n 0, 1) := by decide +kernel
theorem dX13_lesser_6 : decode cX13_lesser 6 = .ok (.getfield 373, 3) := by decide +kernel
theorem dX13_lesser_9 : decode cX13_lesser 9 = .ok (.getfield 213, 3) := by decide +kernel
theorem dX13_lesser_12 : decode cX13_lesser 12 = .ok (.if_icmp .ge 40, 3) := by decide +kernel
theorem dX13_lesser_15 : decode cX13_lesser 15 = .ok (.iload_n 2, 1) := by decide +kernel
theorem dX13_lesser_16 : decode cX13_lesser 16 = .ok (.aload_n 0, 1) := by decide +kernel
theorem dX13_lesser_17 : decode cX13_lesser 17 = .ok (.getfield 373, 3) := by decide +kernel
theorem dX13_lesser_20 : decode cX13_lesser 20 = .ok (.getfield 213, 3) := by decide +kernel
theorem dX13_lesser_23 : decode cX13_lesser 23 = .ok (.iconst 1, 1) := by decide +kernel
theorem dX13_lesser_24 : decode cX13_lesser 24 = .ok (.isub, 1) := by decide +kernel
theorem dX13_lesser_25 : decode cX13_lesser 25 = .ok (.iload_n 3, 1) := by decide +kernel
theorem dX13_lesser_26 : decode cX13_lesser 26 = .ok (.isub, 1) := by decide +kernel
theorem dX13_lesser_27 : decode cX13_lesser 27 = .ok (.if_icmp .ge 5, 3) := by decide +kernel
theorem dX13_lesser_30 : decode cX13_lesser 30 = .ok (.iload_n 3, 1) := by decide +kernel
theorem dX13_lesser_31 : decode cX13_lesser 31 = .ok (.ireturn, 1) := by decide +kernel
theorem dX13_lesser_32 : decode cX13_lesser 32 = .ok (.iload_n 2, 1) := by decide +kernel
theorem dX13_lesser_33 : decode cX13_lesser 33 = .ok (.aload_n 0, 1) := by decide +kernel
theorem dX13_lesser_34 : decode cX13_lesser 34 = .ok (.getfield 373, 3) := by decide +kernel
theorem dX13_lesser_37 : decode cX13_lesser 37 = .ok (.getfield 213, 3) := by decide +kernel
theorem dX13_lesser_40 : decode cX13_lesser 40 = .ok (.iconst 1, 1) := by decide +kernel
theorem dX13_lesser_41 : decode cX13_lesser 41 = .ok (.isub, 1) := by decide +kernel
theorem dX13_lesser_42 : decode cX13_lesser 42 = .ok (.iload_n 3, 1) := by decide +kernel
theorem dX13_lesser_43 : decode cX13_lesser 43 = .ok (.isub, 1) := by decide +kernel
theorem dX13_lesser_44 : decode cX13_lesser 44 = .ok (.isub, 1) := by decide +kernel
theorem dX13_lesser_45 : decode cX13_lesser 45 = .ok (.istore_n 2, 1) := by decide +kernel
theorem dX13_lesser_46 : decode cX13_lesser 46 = .ok (.iinc 3 1, 3) := by decide +kernel
theorem dX13_lesser_49 : decode cX13_lesser 49 = .ok (.goto (-45), 3) := by decide +kernel
theorem dX13_lesser_52 : decode cX13_lesser 52 = .ok (.iconst (-1), 1) := by decide +kernel
theorem dX13_lesser_53 : decode cX13_lesser 53 = .ok (.ireturn, 1) := by decide +kernel
theorem dX13_greater_0 : decode cX13_greater 0 = .ok (.iload_n 1, 1) := by decide +kernel
theorem dX13_greater_1 : decode cX13_greater 1 = .ok (.istore_n 2, 1) := by decide +kernel
theorem dX13_greater_2 : decode cX13_greater 2 = .ok (.iconst 0, 1) := by decide +kernel
theorem dX13_greater_3 : decode cX13_greater 3 = .ok (.istore_n 3, 1) := by decide +kernel
theorem dX13_greater_4 : decode cX13_greater 4 = .ok (.iload_n 3, 1) := by decide +kernel
theorem dX13_greater_5 : decode cX13_greater 5 = .ok (.aload_n 0, 1) := by decide +kernel
theorem dX13_greater_6 : decode cX13_greater 6 = .ok (.getfield 373, 3) := by decide +kernel
theorem dX13_greater_9 : decode cX13_greater 9 = .ok (.getfield 213, 3) := by decide +kernel
theorem dX13_greater_12 : decode cX13_greater 12 = .ok (.if_icmp .ge 44, 3) := by decide +kernel
theorem dX13_greater_15 : decode cX13_greater 15 = .ok (.iload_n 2, 1) := by decide +kernel
theorem dX13_greater_16 : decode cX13_greater 16 = .ok (.aload_n 0, 1) := by decide +kernel
theorem dX13_greater_17 : decode cX13_greater 17 = .ok (.getfield 373, 3) := by decide +kernel
theorem dX13_greater_20 : decode cX13_greater 20 = .ok (.getfield 213, 3) := by decide +kernel
theorem dX13_greater_23 : decode cX13_greater 23 = .ok (.iconst 1, 1) := by decide +kernel
theorem dX13_greater_24 : decode cX13_greater 24 = .ok (.isub, 1) := by decide +kernel
theorem dX13_greater_25 : decode cX13_greater 25 = .ok (.iload_n 3, 1) := by decide +kernel
theorem dX13_greater_26 : decode cX13_greater 26 = .ok (.isub, 1) := by decide +kernel
theorem dX13_greater_27 : decode cX13_greater 27 = .ok (.if_icmp .ge 9, 3) := by decide +kernel
theorem dX13_greater_30 : decode cX13_greater 30 = .ok (.iload_n 3, 1) := by decide +kernel
theorem dX13_greater_31 : decode cX13_greater 31 = .ok (.iconst 1, 1) := by decide +kernel
theorem dX13_greater_32 : decode cX13_greater 32 = .ok (.iadd, 1) := by decide +kernel
theorem dX13_greater_33 : decode cX13_greater 33 = .ok (.iload_n 2, 1) := by decide +kernel
theorem dX13_greater_34 : decode cX13_greater 34 = .ok (.iadd, 1) := by decide +kernel
theorem dX13_greater_35 : decode cX13_greater 35 = .ok (.ireturn, 1) := by decide +kernel
theorem dX13_greater_36 : decode cX13_greater 36 = .ok (.iload_n 2, 1) := by decide +kernel
theorem dX13_greater_37 : decode cX13_greater 37 = .ok (.aload_n 0, 1) := by decide +kernel
theorem dX13_greater_38 : decode cX13_greater 38 = .ok (.getfield 373, 3) := by decide +kernel
theorem dX13_greater_41 : decode cX13_greater 41 = .ok (.getfield 213, 3) := by decide +kernel
theorem dX13_greater_44 : decode cX13_greater 44 = .ok (.iconst 1, 1) := by decide +kernel
theorem dX13_greater_45 : decode cX13_greater 45 = .ok (.isub, 1) := by decide +kernel
theorem dX13_greater_46 : decode cX13_greater 46 = .ok (.iload_n 3, 1) := by decide +kernel
theorem dX13_greater_47 : decode cX13_greater 47 = .ok (.isub, 1) := by decide +kernel
theorem dX13_greater_48 : decode cX13_greater 48 = .ok (.isub, 1) := by decide +kernel
theorem dX13_greater_49 : decode cX13_greater 49 = .ok (.istore_n 2, 1) := by decide +kernel
theorem dX13_greater_50 : decode cX13_greater 50 = .ok (.iinc 3 1, 3) := by decide +kernel
theorem dX13_greater_53 : decode cX13_greater 53 = .ok (.goto (-49), 3) := by decide +kernel
theorem dX13_greater_56 : decode cX13_greater 56 = .ok (.iconst (-1), 1) := by decide +kernel
theorem dX13_greater_57 : decode cX13_greater 57 = .ok (.ireturn, 1) := by decide +kernel
theorem dX13_isIn_0 : decode cX13_isIn 0 = .ok (.aload_n 0, 1) := by decide +kernel
theorem dX13_isIn_1 : decode cX13_isIn 1 = .ok (.iload_n 1, 1) := by decide +kernel
theorem dX13_isIn_2 : decode cX13_isIn 2 = .ok (.invokevirtual 514, 3) := by decide +kernel
theorem dX13_isIn_5 : decode cX13_isIn 5 = .ok (.iload_n 2, 1) := by decide +kernel
theorem dX13_isIn_6 : decode cX13_isIn 6 = .ok (.if_icmp .eq 12, 3) := by decide +kernel
theorem dX13_isIn_9 : decode cX13_isIn 9 = .ok (.aload_n 0, 1) := by decide +kernel
theorem dX13_isIn_10 : decode cX13_isIn 10 = .ok (.iload_n 1, 1) := by decide +kernel
theorem dX13_isIn_11 : decode cX13_isIn 11 = .ok (.invokevirtual 517, 3) := by decide +kernel
theorem dX13_isIn_14 : decode cX13_isIn 14 = .ok (.iload_n 2, 1) := by decide +kernel
theorem dX13_isIn_15 : decode cX13_isIn 15 = .ok (.if_icmp .ne 7, 3) := by decide +kernel
theorem dX13_isIn_18 : decode cX13_isIn 18 = .ok (.iconst 1, 1) := by decide +kernel
theorem dX13_isIn_19 : decode cX13_isIn 19 = .ok (.goto 4, 3) := by decide +kernel
theorem dX13_isIn_22 : decode cX13_isIn 22 = .ok (.iconst 0, 1) := by decide +kernel
theorem dX13_isIn_23 : decode cX13_isIn 23 = .ok (.ireturn, 1) := by decide +kernel
theorem dX13_isFair_0 : decode cX13_isFair 0 = .ok (.iconst 0, 1) := by decide +kernel
theorem dX13_isFair_1 : decode cX13_isFair 1 = .ok (.istore_n 1, 1) := by decide +kernel
theorem dX13_isFair_2 : decode cX13_isFair 2 = .ok (.bipush 9, 2) := by decide +kernel
theorem dX13_isFair_4 : decode cX13_isFair 4 = .ok (.istore_n 2, 1) := by decide +kernel
theorem dX13_isFair_5 : decode cX13_isFair 5 = .ok (.iconst 0, 1) := by decide +kernel
theorem dX13_isFair_6 : decode cX13_isFair 6 = .ok (.istore_n 3, 1) := by decide +kernel
theorem dX13_isFair_7 : decode cX13_isFair 7 = .ok (.iload_n 3, 1) := by decide +kernel
theorem dX13_isFair_8 : decode cX13_isFair 8 = .ok (.aload_n 0, 1) := by decide +kernel
theorem dX13_isFair_9 : decode cX13_isFair 9 = .ok (.getfield 373, 3) := by decide +kernel
theorem dX13_isFair_12 : decode cX13_isFair 12 = .ok (.getfield 213, 3) := by decide +kernel
theorem dX13_isFair_15 : decode cX13_isFair 15 = .ok (.if_icmp .ge 51, 3) := by decide +kernel
theorem dX13_isFair_18 : decode cX13_isFair 18 = .ok (.aload_n 0, 1) := by decide +kernel
theorem dX13_isFair_19 : decode cX13_isFair 19 = .ok (.getfield 47, 3) := by decide +kernel
theorem dX13_isFair_22 : decode cX13_isFair 22 = .ok (.iload_n 3, 1) := by decide +kernel
theorem dX13_isFair_23 : decode cX13_isFair 23 = .ok (.iaload, 1) := by decide +kernel
theorem dX13_isFair_24 : decode cX13_isFair 24 = .ok (.iload_n 1, 1) := by decide +kernel
theorem dX13_isFair_25 : decode cX13_isFair 25 = .ok (.if_icmp .le 12, 3) := by decide +kernel
theorem dX13_isFair_28 : decode cX13_isFair 28 = .ok (.aload_n 0, 1) := by decide +kernel
theorem dX13_isFair_29 : decode cX13_isFair 29 = .ok (.getfield 47, 3) := by decide +kernel
theorem dX13_isFair_32 : decode cX13_isFair 32 = .ok (.iload_n 3, 1) := by decide +kernel
theorem dX13_isFair_33 : decode cX13_isFair 33 = .ok (.iaload, 1) := by decide +kernel
theorem dX13_isFair_34 : decode cX13_isFair 34 = .ok (.goto 4, 3) := by decide +kernel
theorem dX13_isFair_37 : decode cX13_isFair 37 = .ok (.iload_n 1, 1) := by decide +kernel
theorem dX13_isFair_38 : decode cX13_isFair 38 = .ok (.istore_n 1, 1) := by decide +kernel
theorem dX13_isFair_39 : decode cX13_isFair 39 = .ok (.aload_n 0, 1) := by decide +kernel
theorem dX13_isFair_40 : decode cX13_isFair 40 = .ok (.getfield 47, 3) := by decide +kernel
theorem dX13_isFair_43 : decode cX13_isFair 43 = .ok (.iload_n 3, 1) := by decide +kernel
theorem dX13_isFair_44 : decode cX13_isFair 44 = .ok (.iaload, 1) := by decide +kernel
theorem dX13_isFair_45 : decode cX13_isFair 45 = .ok (.iload_n 2, 1) := by decide +kernel
theorem dX13_isFair_46 : decode cX13_isFair 46 = .ok (.if_icmp .ge 12, 3) := by decide +kernel
theorem dX13_isFair_49 : decode cX13_isFair 49 = .ok (.aload_n 0, 1) := by decide +kernel
theorem dX13_isFair_50 : decode cX13_isFair 50 = .ok (.getfield 47, 3) := by decide +kernel
theorem dX13_isFair_53 : decode cX13_isFair 53 = .ok (.iload_n 3, 1) := by decide +kernel
theorem dX13_isFair_54 : decode cX13_isFair 54 = .ok (.iaload, 1) := by decide +kernel
theorem dX13_isFair_55 : decode cX13_isFair 55 = .ok (.goto 4, 3) := by decide +kernel
theorem dX13_isFair_58 : decode cX13_isFair 58 = .ok (.iload_n 2, 1) := by decide +kernel
theorem dX13_isFair_59 : decode cX13_isFair 59 = .ok (.istore_n 2, 1) := by decide +kernel
theorem dX13_isFair_60 : decode cX13_isFair 60 = .ok (.iinc 3 1, 3) := by decide +kernel
theorem dX13_isFair_63 : decode cX13_isFair 63 = .ok (.goto (-56), 3) := by decide +kernel
theorem dX13_isFair_66 : decode cX13_isFair 66 = .ok (.iload_n 1, 1) := by decide +kernel
theorem dX13_isFair_67 : decode cX13_isFair 67 = .ok (.iload_n 2, 1) := by decide +kernel
theorem dX13_isFair_68 : decode cX13_isFair 68 = .ok (.isub, 1) := by decide +kernel
theorem dX13_isFair_69 : decode cX13_isFair 69 = .ok (.iconst 1, 1) := by decide +kernel
theorem dX13_isFair_70 : decode cX13_isFair 70 = .ok (.if_icmp .gt 7, 3) := by decide +kernel
theorem dX13_isFair_73 : decode cX13_isFair 73 = .ok (.iconst 1, 1) := by decide +kernel
theorem dX13_isFair_74 : decode cX13_isFair 74 = .ok (.goto 4, 3) := by decide +kernel
theorem dX13_isFair_77 : decode cX13_isFair 77 = .ok (.iconst 0, 1) := by decide +kernel
theorem dX13_isFair_78 : decode cX13_isFair 78 = .ok (.ireturn, 1) := by decide +kernel
theorem dX13_isLow_0 : decode cX13_isLow 0 = .ok (.iconst 2, 1) := by decide +kernel
theorem dX13_isLow_1 : decode cX13_isLow 1 = .ok (.iload_n 1, 1) := by decide +kernel
theorem dX13_isLow_2 : decode cX13_isLow 2 = .ok (.imul, 1) := by decide +kernel
theorem dX13_isLow_3 : decode cX13_isLow 3 = .ok (.aload_n 0, 1) := by decide +kernel
theorem dX13_isLow_4 : decode cX13_isLow 4 = .ok (.getfield 373, 3) := by decide +kernel
theorem dX13_isLow_7 : decode cX13_isLow 7 = .ok (.getfield 213, 3) := by decide +kernel
theorem dX13_isLow_10 : decode cX13_isLow 10 = .ok (.iadd, 1) := by decide +kernel
theorem dX13_isLow_11 : decode cX13_isLow 11 = .ok (.iconst 1, 1) := by decide +kernel
theorem dX13_isLow_12 : decode cX13_isLow 12 = .ok (.isub, 1) := by decide +kernel
theorem dX13_isLow_13 : decode cX13_isLow 13 = .ok (.aload_n 0, 1) := by decide +kernel
theorem dX13_isLow_14 : decode cX13_isLow 14 = .ok (.getfield 373, 3) := by decide +kernel
theorem dX13_isLow_17 : decode cX13_isLow 17 = .ok (.getfield 213, 3) := by decide +kernel
theorem dX13_isLow_20 : decode cX13_isLow 20 = .ok (.idiv, 1) := by decide +kernel
theorem dX13_isLow_21 : decode cX13_isLow 21 = .ok (.istore_n 2, 1) := by decide +kernel
theorem dX13_isLow_22 : decode cX13_isLow 22 = .ok (.iconst 0, 1) := by decide +kernel
theorem dX13_isLow_23 : decode cX13_isLow 23 = .ok (.istore_n 3, 1) := by decide +kernel
theorem dX13_isLow_24 : decode cX13_isLow 24 = .ok (.iload_n 3, 1) := by decide +kernel
theorem dX13_isLow_25 : decode cX13_isLow 25 = .ok (.aload_n 0, 1) := by decide +kernel
theorem dX13_isLow_26 : decode cX13_isLow 26 = .ok (.getfield 373, 3) := by decide +kernel
theorem dX13_isLow_29 : decode cX13_isLow 29 = .ok (.getfield 213, 3) := by decide +kernel
theorem dX13_isLow_32 : decode cX13_isLow 32 = .ok (.if_icmp .ge 21, 3) := by decide +kernel
theorem dX13_isLow_35 : decode cX13_isLow 35 = .ok (.aload_n 0, 1) := by decide +kernel
theorem dX13_isLow_36 : decode cX13_isLow 36 = .ok (.getfield 47, 3) := by decide +kernel
theorem dX13_isLow_39 : decode cX13_isLow 39 = .ok (.iload_n 3, 1) := by decide +kernel
theorem dX13_isLow_40 : decode cX13_isLow 40 = .ok (.iaload, 1) := by decide +kernel
theorem dX13_isLow_41 : decode cX13_isLow 41 = .ok (.iload_n 2, 1) := by decide +kernel
theorem dX13_isLow_42 : decode cX13_isLow 42 = .ok (.if_icmp .le 5, 3) := by decide +kernel
theorem dX13_isLow_45 : decode cX13_isLow 45 = .ok (.iconst 0, 1) := by decide +kernel
theorem dX13_isLow_46 : decode cX13_isLow 46 = .ok (.ireturn, 1) := by decide +kernel
theorem dX13_isLow_47 : decode cX13_isLow 47 = .ok (.iinc 3 1, 3) := by decide +kernel
theorem dX13_isLow_50 : decode cX13_isLow 50 = .ok (.goto (-26), 3) := by decide +kernel
theorem dX13_isLow_53 : decode cX13_isLow 53 = .ok (.iconst 1, 1) := by decide +kernel
theorem dX13_isLow_54 : decode cX13_isLow 54 = .ok (.ireturn, 1) := by decide +kernel
theorem dX13_counts_0 : decode cX13_counts 0 = .ok (.aload_n 0, 1) := by decide +kernel
theorem dX13_counts_1 : decode cX13_counts 1 = .ok (.getfield 47, 3) := by decide +kernel
theorem dX13_counts_4 : decode cX13_counts 4 = .ok (.aload_n 0, 1) := by decide +kernel
theorem dX13_counts_5 : decode cX13_counts 5 = .ok (.iload_n 1, 1) := by decide +kernel
theorem dX13_counts_6 : decode cX13_counts 6 = .ok (.invokevirtual 514, 3) := by decide +kernel
theorem dX13_counts_9 : decode cX13_counts 9 = .ok (.dup2, 1) := by decide +kernel
theorem dX13_counts_10 : decode cX13_counts 10 = .ok (.iaload, 1) := by decide +kernel
theorem dX13_counts_11 : decode cX13_counts 11 = .ok (.iload_n 2, 1) := by decide +kernel
theorem dX13_counts_12 : decode cX13_counts 12 = .ok (.iadd, 1) := by decide +kernel
theorem dX13_counts_13 : decode cX13_counts 13 = .ok (.iastore, 1) := by decide +kernel
theorem dX13_counts_14 : decode cX13_counts 14 = .ok (.aload_n 0, 1) := by decide +kernel
theorem dX13_counts_15 : decode cX13_counts 15 = .ok (.getfield 47, 3) := by decide +kernel
theorem dX13_counts_18 : decode cX13_counts 18 = .ok (.aload_n 0, 1) := by decide +kernel
theorem dX13_counts_19 : decode cX13_counts 19 = .ok (.iload_n 1, 1) := by decide +kernel
theorem dX13_counts_20 : decode cX13_counts 20 = .ok (.invokevirtual 517, 3) := by decide +kernel
theorem dX13_counts_23 : decode cX13_counts 23 = .ok (.dup2, 1) := by decide +kernel
theorem dX13_counts_24 : decode cX13_counts 24 = .ok (.iaload, 1) := by decide +kernel
theorem dX13_counts_25 : decode cX13_counts 25 = .ok (.iload_n 2, 1) := by decide +kernel
theorem dX13_counts_26 : decode cX13_counts 26 = .ok (.iadd, 1) := by decide +kernel
theorem dX13_counts_27 : decode cX13_counts 27 = .ok (.iastore, 1) := by decide +kernel
theorem dX13_counts_28 : decode cX13_counts 28 = .ok (.return_, 1) := by decide +kernel
theorem dX13_laysTurns_0 : decode cX13_laysTurns 0 = .ok (.aload_n 0, 1) := by decide +kernel
theorem dX13_laysTurns_1 : decode cX13_laysTurns 1 = .ok (.getfield 373, 3) := by decide +kernel
theorem dX13_laysTurns_4 : decode cX13_laysTurns 4 = .ok (.getfield 213, 3) := by decide +kernel
theorem dX13_laysTurns_7 : decode cX13_laysTurns 7 = .ok (.aload_n 0, 1) := by decide +kernel
theorem dX13_laysTurns_8 : decode cX13_laysTurns 8 = .ok (.getfield 373, 3) := by decide +kernel
theorem dX13_laysTurns_11 : decode cX13_laysTurns 11 = .ok (.getfield 213, 3) := by decide +kernel
theorem dX13_laysTurns_14 : decode cX13_laysTurns 14 = .ok (.iconst 1, 1) := by decide +kernel
theorem dX13_laysTurns_15 : decode cX13_laysTurns 15 = .ok (.isub, 1) := by decide +kernel
theorem dX13_laysTurns_16 : decode cX13_laysTurns 16 = .ok (.imul, 1) := by decide +kernel
theorem dX13_laysTurns_17 : decode cX13_laysTurns 17 = .ok (.iconst 2, 1) := by decide +kernel
theorem dX13_laysTurns_18 : decode cX13_laysTurns 18 = .ok (.idiv, 1) := by decide +kernel
theorem dX13_laysTurns_19 : decode cX13_laysTurns 19 = .ok (.istore_n 2, 1) := by decide +kernel
theorem dX13_laysTurns_20 : decode cX13_laysTurns 20 = .ok (.iconst 0, 1) := by decide +kernel
theorem dX13_laysTurns_21 : decode cX13_laysTurns 21 = .ok (.istore_n 3, 1) := by decide +kernel
theorem dX13_laysTurns_22 : decode cX13_laysTurns 22 = .ok (.iload_n 3, 1) := by decide +kernel
theorem dX13_laysTurns_23 : decode cX13_laysTurns 23 = .ok (.bipush 6, 2) := by decide +kernel
theorem dX13_laysTurns_25 : decode cX13_laysTurns 25 = .ok (.if_icmp .ge 16, 3) := by decide +kernel
theorem dX13_laysTurns_28 : decode cX13_laysTurns 28 = .ok (.aload_n 0, 1) := by decide +kernel
theorem dX13_laysTurns_29 : decode cX13_laysTurns 29 = .ok (.getfield 47, 3) := by decide +kernel
theorem dX13_laysTurns_32 : decode cX13_laysTurns 32 = .ok (.iload_n 3, 1) := by decide +kernel
theorem dX13_laysTurns_33 : decode cX13_laysTurns 33 = .ok (.iconst 0, 1) := by decide +kernel
theorem dX13_laysTurns_34 : decode cX13_laysTurns 34 = .ok (.iastore, 1) := by decide +kernel
theorem dX13_laysTurns_35 : decode cX13_laysTurns 35 = .ok (.iinc 3 1, 3) := by decide +kernel
theorem dX13_laysTurns_38 : decode cX13_laysTurns 38 = .ok (.goto (-16), 3) := by decide +kernel
theorem dX13_laysTurns_41 : decode cX13_laysTurns 41 = .ok (.iconst 0, 1) := by decide +kernel
theorem dX13_laysTurns_42 : decode cX13_laysTurns 42 = .ok (.istore_n 3, 1) := by decide +kernel
theorem dX13_laysTurns_43 : decode cX13_laysTurns 43 = .ok (.iload_n 3, 1) := by decide +kernel
theorem dX13_laysTurns_44 : decode cX13_laysTurns 44 = .ok (.bipush 9, 2) := by decide +kernel
theorem dX13_laysTurns_46 : decode cX13_laysTurns 46 = .ok (.if_icmp .ge 16, 3) := by decide +kernel
theorem dX13_laysTurns_49 : decode cX13_laysTurns 49 = .ok (.aload_n 0, 1) := by decide +kernel
theorem dX13_laysTurns_50 : decode cX13_laysTurns 50 = .ok (.getfield 44, 3) := by decide +kernel
theorem dX13_laysTurns_53 : decode cX13_laysTurns 53 = .ok (.iload_n 3, 1) := by decide +kernel
theorem dX13_laysTurns_54 : decode cX13_laysTurns 54 = .ok (.iconst (-1), 1) := by decide +kernel
theorem dX13_laysTurns_55 : decode cX13_laysTurns 55 = .ok (.iastore, 1) := by decide +kernel
theorem dX13_laysTurns_56 : decode cX13_laysTurns 56 = .ok (.iinc 3 1, 3) := by decide +kernel
theorem dX13_laysTurns_59 : decode cX13_laysTurns 59 = .ok (.goto (-16), 3) := by decide +kernel
theorem dX13_laysTurns_62 : decode cX13_laysTurns 62 = .ok (.iconst 0, 1) := by decide +kernel
theorem dX13_laysTurns_63 : decode cX13_laysTurns 63 = .ok (.istore_n 3, 1) := by decide +kernel
theorem dX13_laysTurns_64 : decode cX13_laysTurns 64 = .ok (.iload_n 3, 1) := by decide +kernel
theorem dX13_laysTurns_65 : decode cX13_laysTurns 65 = .ok (.ifCond .lt 179, 3) := by decide +kernel
theorem dX13_laysTurns_68 : decode cX13_laysTurns 68 = .ok (.iload_n 3, 1) := by decide +kernel
theorem dX13_laysTurns_69 : decode cX13_laysTurns 69 = .ok (.iload_n 1, 1) := by decide +kernel
theorem dX13_laysTurns_70 : decode cX13_laysTurns 70 = .ok (.if_icmp .ne 18, 3) := by decide +kernel
theorem dX13_laysTurns_73 : decode cX13_laysTurns 73 = .ok (.aload_n 0, 1) := by decide +kernel
theorem dX13_laysTurns_74 : decode cX13_laysTurns 74 = .ok (.invokevirtual 520, 3) := by decide +kernel
theorem dX13_laysTurns_77 : decode cX13_laysTurns 77 = .ok (.ifCond .eq 5, 3) := by decide +kernel
theorem dX13_laysTurns_80 : decode cX13_laysTurns 80 = .ok (.iconst 1, 1) := by decide +kernel
theorem dX13_laysTurns_81 : decode cX13_laysTurns 81 = .ok (.ireturn, 1) := by decide +kernel
theorem dX13_laysTurns_82 : decode cX13_laysTurns 82 = .ok (.iinc 3 (-1), 3) := by decide +kernel
theorem dX13_laysTurns_85 : decode cX13_laysTurns 85 = .ok (.goto (-21), 3) := by decide +kernel
theorem dX13_laysTurns_88 : decode cX13_laysTurns 88 = .ok (.aload_n 0, 1) := by decide +kernel
theorem dX13_laysTurns_89 : decode cX13_laysTurns 89 = .ok (.getfield 44, 3) := by decide +kernel
theorem dX13_laysTurns_92 : decode cX13_laysTurns 92 = .ok (.iload_n 3, 1) := by decide +kernel
theorem dX13_laysTurns_93 : decode cX13_laysTurns 93 = .ok (.iaload, 1) := by decide +kernel
theorem dX13_laysTurns_94 : decode cX13_laysTurns 94 = .ok (.iconst (-1), 1) := by decide +kernel
theorem dX13_laysTurns_95 : decode cX13_laysTurns 95 = .ok (.if_icmp .eq 14, 3) := by decide +kernel
theorem dX13_laysTurns_98 : decode cX13_laysTurns 98 = .ok (.aload_n 0, 1) := by decide +kernel
theorem dX13_laysTurns_99 : decode cX13_laysTurns 99 = .ok (.aload_n 0, 1) := by decide +kernel
theorem dX13_laysTurns_100 : decode cX13_laysTurns 100 = .ok (.getfield 44, 3) := by decide +kernel
theorem dX13_laysTurns_103 : decode cX13_laysTurns 103 = .ok (.iload_n 3, 1) := by decide +kernel
theorem dX13_laysTurns_104 : decode cX13_laysTurns 104 = .ok (.iaload, 1) := by decide +kernel
theorem dX13_laysTurns_105 : decode cX13_laysTurns 105 = .ok (.iconst (-1), 1) := by decide +kernel
theorem dX13_laysTurns_106 : decode cX13_laysTurns 106 = .ok (.invokevirtual 523, 3) := by decide +kernel
theorem dX13_laysTurns_109 : decode cX13_laysTurns 109 = .ok (.aload_n 0, 1) := by decide +kernel
theorem dX13_laysTurns_110 : decode cX13_laysTurns 110 = .ok (.getfield 44, 3) := by decide +kernel
theorem dX13_laysTurns_113 : decode cX13_laysTurns 113 = .ok (.iload_n 3, 1) := by decide +kernel
theorem dX13_laysTurns_114 : decode cX13_laysTurns 114 = .ok (.dup2, 1) := by decide +kernel
theorem dX13_laysTurns_115 : decode cX13_laysTurns 115 = .ok (.iaload, 1) := by decide +kernel
theorem dX13_laysTurns_116 : decode cX13_laysTurns 116 = .ok (.iconst 1, 1) := by decide +kernel
theorem dX13_laysTurns_117 : decode cX13_laysTurns 117 = .ok (.iadd, 1) := by decide +kernel
theorem dX13_laysTurns_118 : decode cX13_laysTurns 118 = .ok (.iastore, 1) := by decide +kernel
theorem dX13_laysTurns_119 : decode cX13_laysTurns 119 = .ok (.aload_n 0, 1) := by decide +kernel
theorem dX13_laysTurns_120 : decode cX13_laysTurns 120 = .ok (.getfield 44, 3) := by decide +kernel
theorem dX13_laysTurns_123 : decode cX13_laysTurns 123 = .ok (.iload_n 3, 1) := by decide +kernel
theorem dX13_laysTurns_124 : decode cX13_laysTurns 124 = .ok (.iaload, 1) := by decide +kernel
theorem dX13_laysTurns_125 : decode cX13_laysTurns 125 = .ok (.iload_n 2, 1) := by decide +kernel
theorem dX13_laysTurns_126 : decode cX13_laysTurns 126 = .ok (.if_icmp .ge 70, 3) := by decide +kernel
theorem dX13_laysTurns_129 : decode cX13_laysTurns 129 = .ok (.iload_n 3, 1) := by decide +kernel
theorem dX13_laysTurns_130 : decode cX13_laysTurns 130 = .ok (.ifCond .le 66, 3) := by decide +kernel
theorem dX13_laysTurns_133 : decode cX13_laysTurns 133 = .ok (.aload_n 0, 1) := by decide +kernel
theorem dX13_laysTurns_134 : decode cX13_laysTurns 134 = .ok (.aload_n 0, 1) := by decide +kernel
theorem dX13_laysTurns_135 : decode cX13_laysTurns 135 = .ok (.getfield 44, 3) := by decide +kernel
theorem dX13_laysTurns_138 : decode cX13_laysTurns 138 = .ok (.iload_n 3, 1) := by decide +kernel
theorem dX13_laysTurns_139 : decode cX13_laysTurns 139 = .ok (.iconst 1, 1) := by decide +kernel
theorem dX13_laysTurns_140 : decode cX13_laysTurns 140 = .ok (.isub, 1) := by decide +kernel
theorem dX13_laysTurns_141 : decode cX13_laysTurns 141 = .ok (.iaload, 1) := by decide +kernel
theorem dX13_laysTurns_142 : decode cX13_laysTurns 142 = .ok (.aload_n 0, 1) := by decide +kernel
theorem dX13_laysTurns_143 : decode cX13_laysTurns 143 = .ok (.aload_n 0, 1) := by decide +kernel
theorem dX13_laysTurns_144 : decode cX13_laysTurns 144 = .ok (.getfield 44, 3) := by decide +kernel
theorem dX13_laysTurns_147 : decode cX13_laysTurns 147 = .ok (.iload_n 3, 1) := by decide +kernel
theorem dX13_laysTurns_148 : decode cX13_laysTurns 148 = .ok (.iaload, 1) := by decide +kernel
theorem dX13_laysTurns_149 : decode cX13_laysTurns 149 = .ok (.invokevirtual 514, 3) := by decide +kernel
theorem dX13_laysTurns_152 : decode cX13_laysTurns 152 = .ok (.invokevirtual 526, 3) := by decide +kernel
theorem dX13_laysTurns_155 : decode cX13_laysTurns 155 = .ok (.ifCond .ne 28, 3) := by decide +kernel
theorem dX13_laysTurns_158 : decode cX13_laysTurns 158 = .ok (.aload_n 0, 1) := by decide +kernel
theorem dX13_laysTurns_159 : decode cX13_laysTurns 159 = .ok (.aload_n 0, 1) := by decide +kernel
theorem dX13_laysTurns_160 : decode cX13_laysTurns 160 = .ok (.getfield 44, 3) := by decide +kernel
theorem dX13_laysTurns_163 : decode cX13_laysTurns 163 = .ok (.iload_n 3, 1) := by decide +kernel
theorem dX13_laysTurns_164 : decode cX13_laysTurns 164 = .ok (.iconst 1, 1) := by decide +kernel
theorem dX13_laysTurns_165 : decode cX13_laysTurns 165 = .ok (.isub, 1) := by decide +kernel
theorem dX13_laysTurns_166 : decode cX13_laysTurns 166 = .ok (.iaload, 1) := by decide +kernel
theorem dX13_laysTurns_167 : decode cX13_laysTurns 167 = .ok (.aload_n 0, 1) := by decide +kernel
theorem dX13_laysTurns_168 : decode cX13_laysTurns 168 = .ok (.aload_n 0, 1) := by decide +kernel
theorem dX13_laysTurns_169 : decode cX13_laysTurns 169 = .ok (.getfield 44, 3) := by decide +kernel
theorem dX13_laysTurns_172 : decode cX13_laysTurns 172 = .ok (.iload_n 3, 1) := by decide +kernel
theorem dX13_laysTurns_173 : decode cX13_laysTurns 173 = .ok (.iaload, 1) := by decide +kernel
theorem dX13_laysTurns_174 : decode cX13_laysTurns 174 = .ok (.invokevirtual 517, 3) := by decide +kernel
theorem dX13_laysTurns_177 : decode cX13_laysTurns 177 = .ok (.invokevirtual 526, 3) := by decide +kernel
theorem dX13_laysTurns_180 : decode cX13_laysTurns 180 = .ok (.ifCond .eq 16, 3) := by decide +kernel
theorem dX13_laysTurns_183 : decode cX13_laysTurns 183 = .ok (.aload_n 0, 1) := by decide +kernel
theorem dX13_laysTurns_184 : decode cX13_laysTurns 184 = .ok (.getfield 44, 3) := by decide +kernel
theorem dX13_laysTurns_187 : decode cX13_laysTurns 187 = .ok (.iload_n 3, 1) := by decide +kernel
theorem dX13_laysTurns_188 : decode cX13_laysTurns 188 = .ok (.dup2, 1) := by decide +kernel
theorem dX13_laysTurns_189 : decode cX13_laysTurns 189 = .ok (.iaload, 1) := by decide +kernel
theorem dX13_laysTurns_190 : decode cX13_laysTurns 190 = .ok (.iconst 1, 1) := by decide +kernel
theorem dX13_laysTurns_191 : decode cX13_laysTurns 191 = .ok (.iadd, 1) := by decide +kernel
theorem dX13_laysTurns_192 : decode cX13_laysTurns 192 = .ok (.iastore, 1) := by decide +kernel
theorem dX13_laysTurns_193 : decode cX13_laysTurns 193 = .ok (.goto (-74), 3) := by decide +kernel
theorem dX13_laysTurns_196 : decode cX13_laysTurns 196 = .ok (.aload_n 0, 1) := by decide +kernel
theorem dX13_laysTurns_197 : decode cX13_laysTurns 197 = .ok (.getfield 44, 3) := by decide +kernel
theorem dX13_laysTurns_200 : decode cX13_laysTurns 200 = .ok (.iload_n 3, 1) := by decide +kernel
theorem dX13_laysTurns_201 : decode cX13_laysTurns 201 = .ok (.iaload, 1) := by decide +kernel
theorem dX13_laysTurns_202 : decode cX13_laysTurns 202 = .ok (.iload_n 2, 1) := by decide +kernel
theorem dX13_laysTurns_203 : decode cX13_laysTurns 203 = .ok (.if_icmp .lt 16, 3) := by decide +kernel
theorem dX13_laysTurns_206 : decode cX13_laysTurns 206 = .ok (.aload_n 0, 1) := by decide +kernel
theorem dX13_laysTurns_207 : decode cX13_laysTurns 207 = .ok (.getfield 44, 3) := by decide +kernel
theorem dX13_laysTurns_210 : decode cX13_laysTurns 210 = .ok (.iload_n 3, 1) := by decide +kernel
theorem dX13_laysTurns_211 : decode cX13_laysTurns 211 = .ok (.iconst (-1), 1) := by decide +kernel
theorem dX13_laysTurns_212 : decode cX13_laysTurns 212 = .ok (.iastore, 1) := by decide +kernel
theorem dX13_laysTurns_213 : decode cX13_laysTurns 213 = .ok (.iinc 3 (-1), 3) := by decide +kernel
theorem dX13_laysTurns_216 : decode cX13_laysTurns 216 = .ok (.goto (-152), 3) := by decide +kernel
theorem dX13_laysTurns_219 : decode cX13_laysTurns 219 = .ok (.aload_n 0, 1) := by decide +kernel
theorem dX13_laysTurns_220 : decode cX13_laysTurns 220 = .ok (.aload_n 0, 1) := by decide +kernel
theorem dX13_laysTurns_221 : decode cX13_laysTurns 221 = .ok (.getfield 44, 3) := by decide +kernel
theorem dX13_laysTurns_224 : decode cX13_laysTurns 224 = .ok (.iload_n 3, 1) := by decide +kernel
theorem dX13_laysTurns_225 : decode cX13_laysTurns 225 = .ok (.iaload, 1) := by decide +kernel
theorem dX13_laysTurns_226 : decode cX13_laysTurns 226 = .ok (.iconst 1, 1) := by decide +kernel
theorem dX13_laysTurns_227 : decode cX13_laysTurns 227 = .ok (.invokevirtual 523, 3) := by decide +kernel
theorem dX13_laysTurns_230 : decode cX13_laysTurns 230 = .ok (.aload_n 0, 1) := by decide +kernel
theorem dX13_laysTurns_231 : decode cX13_laysTurns 231 = .ok (.iload_n 1, 1) := by decide +kernel
theorem dX13_laysTurns_232 : decode cX13_laysTurns 232 = .ok (.invokevirtual 529, 3) := by decide +kernel
theorem dX13_laysTurns_235 : decode cX13_laysTurns 235 = .ok (.ifCond .eq (-171), 3) := by decide +kernel
theorem dX13_laysTurns_238 : decode cX13_laysTurns 238 = .ok (.iinc 3 1, 3) := by decide +kernel
theorem dX13_laysTurns_241 : decode cX13_laysTurns 241 = .ok (.goto (-177), 3) := by decide +kernel
theorem dX13_laysTurns_244 : decode cX13_laysTurns 244 = .ok (.iconst 0, 1) := by decide +kernel
theorem dX13_laysTurns_245 : decode cX13_laysTurns 245 = .ok (.ireturn, 1) := by decide +kernel
section
variable {X : ab_X} {d : Nat} {σ : ab_S} {Q : Option ab_V → ab_S → Prop} {L st : List ab_V} {a b z v i j x1 x2 x3 x4 x5 x6 x7 x8 : Int} {l0 l1 l2 l3 l4 l5 l6 l7 l8 l9 l10 l11 l12 l13 l14 l15 l16 l17 l18 l19 l20 : ab_V}
theorem kc_X13_odds : ab_code 227 = cX13_odds := rfl
theorem ko_X13_odds : ab_ow 227 = 13 := rfl
theorem rX13_odds_0 : ab_Run X 227 0 (6, 0, 0) [ab_R z, l1, l2, l3, l4, l5, l6, l7, l8, l9] st σ Q ↔ z ≠ 0 ∧ ab_Run X 227 1 (6, 0, 0) [ab_R z, l1, l2, l3, l4, l5, l6, l7, l8, l9] (ab_R z :: st) σ Q := ab_r_aload_n rfl kc_X13_odds dX13_odds_0
theorem rX13_odds_1 : ab_Run X 227 1 (6, 0, 0) L st σ Q ↔ ab_Run X 227 2 (6, 0, 0) L (ab_I 0 :: st) σ Q := ab_r_iconst (by decide) kc_X13_odds dX13_odds_1
theorem rX13_odds_2 : ab_Run X 227 2 (6, 0, 0) L (ab_I z :: ab_R a :: st) σ Q ↔ (ab_sh σ a).1 = 14 ∧ ab_Run X 227 5 (6, 0, 0) L st (ab_wr σ a 0 z) Q := sF_13_53 ko_X13_odds kc_X13_odds dX13_odds_2
theorem rX13_odds_5 : ab_Run X 227 5 (6, 0, 0) [ab_R z, l1, l2, l3, l4, l5, l6, l7, l8, l9] st σ Q ↔ z ≠ 0 ∧ ab_Run X 227 6 (6, 0, 0) [ab_R z, l1, l2, l3, l4, l5, l6, l7, l8, l9] (ab_R z :: st) σ Q := ab_r_aload_n rfl kc_X13_odds dX13_odds_5
theorem rX13_odds_6 : ab_Run X 227 6 (6, 0, 0) [ab_R z, l1, l2, l3, l4, l5, l6, l7, l8, l9] st σ Q ↔ z ≠ 0 ∧ ab_Run X 227 7 (6, 0, 0) [ab_R z, l1, l2, l3, l4, l5, l6, l7, l8, l9] (ab_R z :: st) σ Q := ab_r_aload_n rfl kc_X13_odds dX13_odds_6
theorem rX13_odds_7 : ab_Run X 227 7 (6, 0, 0) [l0, ab_I z, l2, l3, l4, l5, l6, l7, l8, l9] st σ Q ↔ ab_Run X 227 8 (6, 0, 0) [l0, ab_I z, l2, l3, l4, l5, l6, l7, l8, l9] (ab_I z :: st) σ Q := ab_r_iload_n rfl kc_X13_odds dX13_odds_7
theorem rX13_odds_8 : ab_Run X 227 8 (6, 0, 0) L (ab_I x1 :: ab_R a :: st) σ Q ↔ ((ab_sh σ a).1 = 14 ∧ ab_cats st ≤ 8) ∧ ab_Do X 212 [ab_R a, ab_I x1] σ (fun r σ' => ab_Run X 227 11 (6, 0, 0) L (ab_psh r st) σ' Q) := ab_r_callV (w := [ab_I x1]) (as := [ab_I x1]) (b1 := (0, 0, 0)) 0 (Or.inl rfl) (by decide) ko_X13_odds qM_13_444 (by decide) rfl rfl rfl rfl rfl (by decide) (Nat.le_of_ble_eq_true rfl) kc_X13_odds dX13_odds_8
theorem rX13_odds_11 : ab_Run X 227 11 (6, 0, 0) L (ab_I a :: st) σ Q ↔ (a = 0 → ab_Run X 227 38 (6, 0, 0) L st σ Q) ∧ (¬ (a = 0) → ab_Run X 227 14 (6, 0, 0) L st σ Q) := ab_r_if_eq rfl kc_X13_odds dX13_odds_11
theorem rX13_odds_14 : ab_Run X 227 14 (6, 0, 0) [ab_R z, l1, l2, l3, l4, l5, l6, l7, l8, l9] st σ Q ↔ z ≠ 0 ∧ ab_Run X 227 15 (6, 0, 0) [ab_R z, l1, l2, l3, l4, l5, l6, l7, l8, l9] (ab_R z :: st) σ Q := ab_r_aload_n rfl kc_X13_odds dX13_odds_14
theorem rX13_odds_15 : ab_Run X 227 15 (6, 0, 0) [l0, l1, ab_I z, l3, l4, l5, l6, l7, l8, l9] st σ Q ↔ ab_Run X 227 16 (6, 0, 0) [l0, l1, ab_I z, l3, l4, l5, l6, l7, l8, l9] (ab_I z :: st) σ Q := ab_r_iload_n rfl kc_X13_odds dX13_odds_15
theorem rX13_odds_16 : ab_Run X 227 16 (6, 0, 0) [l0, l1, l2, l3, ab_I z, l5, l6, l7, l8, l9] st σ Q ↔ ab_Run X 227 18 (6, 0, 0) [l0, l1, l2, l3, ab_I z, l5, l6, l7, l8, l9] (ab_I z :: st) σ Q := ab_r_iload rfl kc_X13_odds dX13_odds_16
theorem rX13_odds_18 : ab_Run X 227 18 (6, 0, 0) L (ab_I x2 :: ab_I x1 :: ab_R a :: st) σ Q ↔ ((ab_sh σ a).1 = 14 ∧ ab_cats st ≤ 8) ∧ ab_Do X 214 [ab_R a, ab_I x1, ab_I x2] σ (fun r σ' => ab_Run X 227 21 (6, 0, 0) L (ab_psh r st) σ' Q) := ab_r_callV (w := [ab_I x2, ab_I x1]) (as := [ab_I x1, ab_I x2]) (b1 := (1, 0, 0)) 0 (Or.inl rfl) (by decide) ko_X13_odds qM_13_455 (by decide) rfl rfl rfl rfl rfl (by decide) (Nat.le_of_ble_eq_true rfl) kc_X13_odds dX13_odds_18
theorem rX13_odds_21 : ab_Run X 227 21 (6, 0, 0) L (ab_I a :: st) σ Q ↔ (a = 0 → ab_Run X 227 38 (6, 0, 0) L st σ Q) ∧ (¬ (a = 0) → ab_Run X 227 24 (6, 0, 0) L st σ Q) := ab_r_if_eq rfl kc_X13_odds dX13_odds_21
theorem rX13_odds_24 : ab_Run X 227 24 (6, 0, 0) [l0, l1, l2, l3, l4, l5, l6, ab_I z, l8, l9] st σ Q ↔ ab_Run X 227 26 (6, 0, 0) [l0, l1, l2, l3, l4, l5, l6, ab_I z, l8, l9] (ab_I z :: st) σ Q := ab_r_iload rfl kc_X13_odds dX13_odds_24
theorem rX13_odds_26 : ab_Run X 227 26 (6, 0, 0) L st σ Q ↔ ab_Run X 227 27 (6, 0, 0) L (ab_I 0 :: st) σ Q := ab_r_iconst (by decide) kc_X13_odds dX13_odds_26
theorem rX13_odds_27 : ab_Run X 227 27 (6, 0, 0) L st σ Q ↔ ab_Run X 227 28 (6, 0, 0) L (ab_I 3 :: st) σ Q := ab_r_iconst (by decide) kc_X13_odds dX13_odds_27
theorem rX13_odds_28 : ab_Run X 227 28 (6, 0, 0) L (ab_I x3 :: ab_I x2 :: ab_I x1 :: st) σ Q ↔ ab_cats st ≤ 8 ∧ ab_Do X 163 [ab_I x1, ab_I x2, ab_I x3] σ (fun r σ' => ab_Run X 227 31 (6, 0, 0) L (ab_psh r st) σ' Q) := ab_r_callS (w := [ab_I x3, ab_I x2, ab_I x1]) (as := [ab_I x1, ab_I x2, ab_I x3]) (b1 := (0, 0, 0)) (by decide) ko_X13_odds qM_13_138 (by decide) rfl rfl rfl rfl (by decide) (Nat.le_of_ble_eq_true rfl) kc_X13_odds dX13_odds_28
theorem rX13_odds_31 : ab_Run X 227 31 (6, 0, 0) L (ab_I a :: st) σ Q ↔ (a = 0 → ab_Run X 227 38 (6, 0, 0) L st σ Q) ∧ (¬ (a = 0) → ab_Run X 227 34 (6, 0, 0) L st σ Q) := ab_r_if_eq rfl kc_X13_odds dX13_odds_31
theorem rX13_odds_34 : ab_Run X 227 34 (6, 0, 0) L st σ Q ↔ ab_Run X 227 35 (6, 0, 0) L (ab_I 1 :: st) σ Q := ab_r_iconst (by decide) kc_X13_odds dX13_odds_34
theorem rX13_odds_35 : ab_Run X 227 35 (6, 0, 0) L st σ Q ↔ ab_Run X 227 39 (6, 0, 0) L st σ Q := ab_r_goto rfl kc_X13_odds dX13_odds_35
theorem rX13_odds_38 : ab_Run X 227 38 (6, 0, 0) L st σ Q ↔ ab_Run X 227 39 (6, 0, 0) L (ab_I 0 :: st) σ Q := ab_r_iconst (by decide) kc_X13_odds dX13_odds_38
theorem rX13_odds_39 : ab_Run X 227 39 (6, 0, 0) [l0, ab_I z, l2, l3, l4, l5, l6, l7, l8, l9] st σ Q ↔ ab_Run X 227 40 (6, 0, 0) [l0, ab_I z, l2, l3, l4, l5, l6, l7, l8, l9] (ab_I z :: st) σ Q := ab_r_iload_n rfl kc_X13_odds dX13_odds_39
theorem rX13_odds_40 : ab_Run X 227 40 (6, 0, 0) [l0, l1, l2, ab_I z, l4, l5, l6, l7, l8, l9] st σ Q ↔ ab_Run X 227 41 (6, 0, 0) [l0, l1, l2, ab_I z, l4, l5, l6, l7, l8, l9] (ab_I z :: st) σ Q := ab_r_iload_n rfl kc_X13_odds dX13_odds_40
theorem rX13_odds_41 : ab_Run X 227 41 (6, 0, 0) [l0, l1, l2, l3, l4, ab_I z, l6, l7, l8, l9] st σ Q ↔ ab_Run X 227 43 (6, 0, 0) [l0, l1, l2, l3, l4, ab_I z, l6, l7, l8, l9] (ab_I z :: st) σ Q := ab_r_iload rfl kc_X13_odds dX13_odds_41
theorem rX13_odds_43 : ab_Run X 227 43 (6, 0, 0) [l0, l1, l2, l3, l4, l5, ab_I z, l7, l8, l9] st σ Q ↔ ab_Run X 227 45 (6, 0, 0) [l0, l1, l2, l3, l4, l5, ab_I z, l7, l8, l9] (ab_I z :: st) σ Q := ab_r_iload rfl kc_X13_odds dX13_odds_43
theorem rX13_odds_45 : ab_Run X 227 45 (6, 0, 0) L (ab_I x5 :: ab_I x4 :: ab_I x3 :: ab_I x2 :: ab_I x1 :: ab_R a :: st) σ Q ↔ ((ab_sh σ a).1 = 14 ∧ ab_cats st ≤ 8) ∧ ab_Do X 216 [ab_R a, ab_I x1, ab_I x2, ab_I x3, ab_I x4, ab_I x5] σ (fun r σ' => ab_Run X 227 48 (6, 0, 0) L (ab_psh r st) σ' Q) := ab_r_callV (w := [ab_I x5, ab_I x4, ab_I x3, ab_I x2, ab_I x1]) (as := [ab_I x1, ab_I x2, ab_I x3, ab_I x4, ab_I x5]) (b1 := (1, 0, 0)) 0 (Or.inl rfl) (by decide) ko_X13_odds qM_13_458 (by decide) rfl rfl rfl rfl rfl (by decide) (Nat.le_of_ble_eq_true rfl) kc_X13_odds dX13_odds_45
theorem rX13_odds_48 : ab_Run X 227 48 (6, 0, 0) [l0, l1, l2, l3, l4, l5, l6, l7, l8, l9] (ab_I z :: st) σ Q ↔ (!ab_isJ l8) = true ∧ ab_Run X 227 50 (6, 0, 0) [l0, l1, l2, l3, l4, l5, l6, l7, l8, ab_I z] st σ Q := ab_r_istore (Nat.le_of_ble_eq_true rfl) kc_X13_odds dX13_odds_48
theorem rX13_odds_50 : ab_Run X 227 50 (6, 0, 0) [l0, l1, l2, l3, l4, l5, l6, l7, l8, ab_I z] st σ Q ↔ ab_Run X 227 52 (6, 0, 0) [l0, l1, l2, l3, l4, l5, l6, l7, l8, ab_I z] (ab_I z :: st) σ Q := ab_r_iload rfl kc_X13_odds dX13_odds_50
theorem rX13_odds_52 : ab_Run X 227 52 (6, 0, 0) L (ab_I a :: st) σ Q ↔ (a ≤ 0 → ab_Run X 227 63 (6, 0, 0) L st σ Q) ∧ (¬ (a ≤ 0) → ab_Run X 227 55 (6, 0, 0) L st σ Q) := ab_r_if_le rfl kc_X13_odds dX13_odds_52
theorem rX13_odds_55 : ab_Run X 227 55 (6, 0, 0) [ab_R z, l1, l2, l3, l4, l5, l6, l7, l8, l9] st σ Q ↔ z ≠ 0 ∧ ab_Run X 227 56 (6, 0, 0) [ab_R z, l1, l2, l3, l4, l5, l6, l7, l8, l9] (ab_R z :: st) σ Q := ab_r_aload_n rfl kc_X13_odds dX13_odds_55
theorem rX13_odds_56 : ab_Run X 227 56 (6, 0, 0) [l0, l1, l2, l3, l4, l5, l6, l7, l8, ab_I z] st σ Q ↔ ab_Run X 227 58 (6, 0, 0) [l0, l1, l2, l3, l4, l5, l6, l7, l8, ab_I z] (ab_I z :: st) σ Q := ab_r_iload rfl kc_X13_odds dX13_odds_56
theorem rX13_odds_58 : ab_Run X 227 58 (6, 0, 0) L (ab_I x1 :: ab_R a :: st) σ Q ↔ ((ab_sh σ a).1 = 14 ∧ ab_cats st ≤ 8) ∧ ab_Do X 159 [ab_R a, ab_I x1] σ (fun r σ' => ab_Run X 227 61 (6, 0, 0) L (ab_psh r st) σ' Q) := ab_r_callV (w := [ab_I x1]) (as := [ab_I x1]) (b1 := (0, 0, 0)) 0 (Or.inl rfl) (by decide) ko_X13_odds qM_13_59 (by decide) rfl rfl rfl rfl rfl (by decide) (Nat.le_of_ble_eq_true rfl) kc_X13_odds dX13_odds_58
theorem rX13_odds_61 : ab_Run X 227 61 (6, 0, 0) L (ab_I a :: st) σ Q ↔ ab_Run X 227 62 (6, 0, 0) L (ab_J a :: st) σ Q := ab_r_i2l kc_X13_odds dX13_odds_61
theorem rX13_odds_62 : ab_Run X 227 62 (6, 0, 0) L [ab_J v] σ Q ↔ Q (some (ab_J v)) σ := ab_r_lreturn rfl kc_X13_odds dX13_odds_62
theorem rX13_odds_63 : ab_Run X 227 63 (6, 0, 0) [ab_R z, l1, l2, l3, l4, l5, l6, l7, l8, l9] st σ Q ↔ z ≠ 0 ∧ ab_Run X 227 64 (6, 0, 0) [ab_R z, l1, l2, l3, l4, l5, l6, l7, l8, l9] (ab_R z :: st) σ Q := ab_r_aload_n rfl kc_X13_odds dX13_odds_63
theorem rX13_odds_64 : ab_Run X 227 64 (6, 0, 0) [l0, ab_I z, l2, l3, l4, l5, l6, l7, l8, l9] st σ Q ↔ ab_Run X 227 65 (6, 0, 0) [l0, ab_I z, l2, l3, l4, l5, l6, l7, l8, l9] (ab_I z :: st) σ Q := ab_r_iload_n rfl kc_X13_odds dX13_odds_64
theorem rX13_odds_65 : ab_Run X 227 65 (6, 0, 0) [l0, l1, ab_I z, l3, l4, l5, l6, l7, l8, l9] st σ Q ↔ ab_Run X 227 66 (6, 0, 0) [l0, l1, ab_I z, l3, l4, l5, l6, l7, l8, l9] (ab_I z :: st) σ Q := ab_r_iload_n rfl kc_X13_odds dX13_odds_65
theorem rX13_odds_66 : ab_Run X 227 66 (6, 0, 0) [l0, l1, l2, ab_I z, l4, l5, l6, l7, l8, l9] st σ Q ↔ ab_Run X 227 67 (6, 0, 0) [l0, l1, l2, ab_I z, l4, l5, l6, l7, l8, l9] (ab_I z :: st) σ Q := ab_r_iload_n rfl kc_X13_odds dX13_odds_66
theorem rX13_odds_67 : ab_Run X 227 67 (6, 0, 0) [l0, l1, l2, l3, ab_I z, l5, l6, l7, l8, l9] st σ Q ↔ ab_Run X 227 69 (6, 0, 0) [l0, l1, l2, l3, ab_I z, l5, l6, l7, l8, l9] (ab_I z :: st) σ Q := ab_r_iload rfl kc_X13_odds dX13_odds_67
theorem rX13_odds_69 : ab_Run X 227 69 (6, 0, 0) [l0, l1, l2, l3, l4, ab_I z, l6, l7, l8, l9] st σ Q ↔ ab_Run X 227 71 (6, 0, 0) [l0, l1, l2, l3, l4, ab_I z, l6, l7, l8, l9] (ab_I z :: st) σ Q := ab_r_iload rfl kc_X13_odds dX13_odds_69
theorem rX13_odds_71 : ab_Run X 227 71 (6, 0, 0) [l0, l1, l2, l3, l4, l5, ab_I z, l7, l8, l9] st σ Q ↔ ab_Run X 227 73 (6, 0, 0) [l0, l1, l2, l3, l4, l5, ab_I z, l7, l8, l9] (ab_I z :: st) σ Q := ab_r_iload rfl kc_X13_odds dX13_odds_71
theorem rX13_odds_73 : ab_Run X 227 73 (6, 0, 0) L (ab_I x6 :: ab_I x5 :: ab_I x4 :: ab_I x3 :: ab_I x2 :: ab_I x1 :: ab_R a :: st) σ Q ↔ ((ab_sh σ a).1 = 14 ∧ ab_cats st ≤ 8) ∧ ab_Do X 202 [ab_R a, ab_I x1, ab_I x2, ab_I x3, ab_I x4, ab_I x5, ab_I x6] σ (fun r σ' => ab_Run X 227 76 (6, 0, 0) L (ab_psh r st) σ' Q) := ab_r_callV (w := [ab_I x6, ab_I x5, ab_I x4, ab_I x3, ab_I x2, ab_I x1]) (as := [ab_I x1, ab_I x2, ab_I x3, ab_I x4, ab_I x5, ab_I x6]) (b1 := (1, 0, 0)) 0 (Or.inl rfl) (by decide) ko_X13_odds qM_13_396 (by decide) rfl rfl rfl rfl rfl (by decide) (Nat.le_of_ble_eq_true rfl) kc_X13_odds dX13_odds_73
theorem rX13_odds_76 : ab_Run X 227 76 (6, 0, 0) [ab_R z, l1, l2, l3, l4, l5, l6, l7, l8, l9] st σ Q ↔ z ≠ 0 ∧ ab_Run X 227 77 (6, 0, 0) [ab_R z, l1, l2, l3, l4, l5, l6, l7, l8, l9] (ab_R z :: st) σ Q := ab_r_aload_n rfl kc_X13_odds dX13_odds_76
theorem rX13_odds_77 : ab_Run X 227 77 (6, 0, 0) [ab_R z, l1, l2, l3, l4, l5, l6, l7, l8, l9] st σ Q ↔ z ≠ 0 ∧ ab_Run X 227 78 (6, 0, 0) [ab_R z, l1, l2, l3, l4, l5, l6, l7, l8, l9] (ab_R z :: st) σ Q := ab_r_aload_n rfl kc_X13_odds dX13_odds_77
theorem rX13_odds_78 : ab_Run X 227 78 (6, 0, 0) [l0, l1, l2, l3, l4, l5, l6, ab_I z, l8, l9] st σ Q ↔ ab_Run X 227 80 (6, 0, 0) [l0, l1, l2, l3, l4, l5, l6, ab_I z, l8, l9] (ab_I z :: st) σ Q := ab_r_iload rfl kc_X13_odds dX13_odds_78
theorem rX13_odds_80 : ab_Run X 227 80 (6, 0, 0) L (ab_I x1 :: ab_R a :: st) σ Q ↔ ((ab_sh σ a).1 = 14 ∧ ab_cats st ≤ 8) ∧ ab_Do X 211 [ab_R a, ab_I x1] σ (fun r σ' => ab_Run X 227 83 (6, 0, 0) L (ab_psh r st) σ' Q) := ab_r_callV (w := [ab_I x1]) (as := [ab_I x1]) (b1 := (5, 0, 0)) 0 (Or.inl rfl) (by decide) ko_X13_odds qM_13_462 (by decide) rfl rfl rfl rfl rfl (by decide) (Nat.le_of_ble_eq_true rfl) kc_X13_odds dX13_odds_80
theorem rX13_odds_83 : ab_Run X 227 83 (6, 0, 0) L st σ Q ↔ ab_Run X 227 86 (6, 0, 0) L (ab_J 100 :: st) σ Q := ab_r_ldc2_w rfl ko_X13_odds (by decide +kernel) kc_X13_odds dX13_odds_83
theorem rX13_odds_86 : ab_Run X 227 86 (6, 0, 0) [ab_R z, l1, l2, l3, l4, l5, l6, l7, l8, l9] st σ Q ↔ z ≠ 0 ∧ ab_Run X 227 87 (6, 0, 0) [ab_R z, l1, l2, l3, l4, l5, l6, l7, l8, l9] (ab_R z :: st) σ Q := ab_r_aload_n rfl kc_X13_odds dX13_odds_86
theorem rX13_odds_87 : ab_Run X 227 87 (6, 0, 0) L (ab_R a :: st) σ Q ↔ ((ab_sh σ a).1 = 14 ∧ ab_cats st ≤ 8) ∧ ab_Do X 209 [ab_R a] σ (fun r σ' => ab_Run X 227 90 (6, 0, 0) L (ab_psh r st) σ' Q) := ab_r_callV (w := []) (as := []) (b1 := (1, 0, 0)) 0 (Or.inl rfl) (by decide) ko_X13_odds qM_13_430 (by decide) rfl rfl rfl rfl rfl (by decide) (Nat.le_of_ble_eq_true rfl) kc_X13_odds dX13_odds_87
theorem rX13_odds_90 : ab_Run X 227 90 (6, 0, 0) L (ab_I a :: st) σ Q ↔ ab_Run X 227 91 (6, 0, 0) L (ab_J a :: st) σ Q := ab_r_i2l kc_X13_odds dX13_odds_90
theorem rX13_odds_91 : ab_Run X 227 91 (6, 0, 0) L (ab_J b :: ab_J a :: st) σ Q ↔ ab_Run X 227 92 (6, 0, 0) L (ab_J (ab_w64 (a * b)) :: st) σ Q := ab_r_lmul kc_X13_odds dX13_odds_91
theorem rX13_odds_92 : ab_Run X 227 92 (6, 0, 0) [l0, l1, l2, l3, l4, l5, l6, l7, ab_I z, l9] st σ Q ↔ ab_Run X 227 94 (6, 0, 0) [l0, l1, l2, l3, l4, l5, l6, l7, ab_I z, l9] (ab_I z :: st) σ Q := ab_r_iload rfl kc_X13_odds dX13_odds_92
theorem rX13_odds_94 : ab_Run X 227 94 (6, 0, 0) L (ab_I x3 :: ab_J x2 :: ab_J x1 :: ab_R a :: st) σ Q ↔ ((ab_sh σ a).1 = 14 ∧ ab_cats st ≤ 8) ∧ ab_Do X 166 [ab_R a, ab_J x1, ab_J x2, ab_I x3] σ (fun r σ' => ab_Run X 227 97 (6, 0, 0) L (ab_psh r st) σ' Q) := ab_r_callV (w := [ab_I x3, ab_J x2, ab_J x1]) (as := [ab_J x1, ab_J x2, ab_I x3]) (b1 := (1, 0, 0)) 0 (Or.inl rfl) (by decide) ko_X13_odds qM_13_466 (by decide) rfl rfl rfl rfl rfl (by decide) (Nat.le_of_ble_eq_true rfl) kc_X13_odds dX13_odds_94
theorem rX13_odds_97 : ab_Run X 227 97 (6, 0, 0) L [ab_J v] σ Q ↔ Q (some (ab_J v)) σ := ab_r_lreturn rfl kc_X13_odds dX13_odds_97
theorem kc_X13_isChoice : ab_code 228 = cX13_isChoice := rfl
theorem ko_X13_isChoice : ab_ow 228 = 13 := rfl
theorem rX13_isChoice_0 : ab_Run X 228 0 (1, 0, 0) [l0, l1, l2, l3, ab_I z] st σ Q ↔ ab_Run X 228 2 (1, 0, 0) [l0, l1, l2, l3, ab_I z] (ab_I z :: st) σ Q := ab_r_iload rfl kc_X13_isChoice dX13_isChoice_0
theorem rX13_isChoice_2 : ab_Run X 228 2 (1, 0, 0) L st σ Q ↔ ab_Run X 228 3 (1, 0, 0) L (ab_I 2 :: st) σ Q := ab_r_iconst (by decide) kc_X13_isChoice dX13_isChoice_2
theorem rX13_isChoice_3 : ab_Run X 228 3 (1, 0, 0) L (ab_I b :: ab_I a :: st) σ Q ↔ b ≠ 0 ∧ ab_Run X 228 4 (1, 0, 0) L (ab_I (ab_w32 (a.tdiv b)) :: st) σ Q := ab_r_idiv kc_X13_isChoice dX13_isChoice_3
theorem rX13_isChoice_4 : ab_Run X 228 4 (1, 0, 0) [ab_R z, l1, l2, l3, l4] st σ Q ↔ z ≠ 0 ∧ ab_Run X 228 5 (1, 0, 0) [ab_R z, l1, l2, l3, l4] (ab_R z :: st) σ Q := ab_r_aload_n rfl kc_X13_isChoice dX13_isChoice_4
theorem rX13_isChoice_5 : ab_Run X 228 5 (1, 0, 0) L (ab_R a :: st) σ Q ↔ (ab_sh σ a).1 = 14 ∧ ab_Run X 228 8 (1, 0, 0) L (ab_R (ab_rd σ a 3) :: st) σ Q := gF_13_373 ko_X13_isChoice kc_X13_isChoice dX13_isChoice_5
theorem rX13_isChoice_8 : ab_Run X 228 8 (1, 0, 0) [l0, l1, ab_I z, l3, l4] st σ Q ↔ ab_Run X 228 9 (1, 0, 0) [l0, l1, ab_I z, l3, l4] (ab_I z :: st) σ Q := ab_r_iload_n rfl kc_X13_isChoice dX13_isChoice_8
theorem rX13_isChoice_9 : ab_Run X 228 9 (1, 0, 0) [l0, l1, l2, ab_I z, l4] st σ Q ↔ ab_Run X 228 10 (1, 0, 0) [l0, l1, l2, ab_I z, l4] (ab_I z :: st) σ Q := ab_r_iload_n rfl kc_X13_isChoice dX13_isChoice_9
theorem rX13_isChoice_10 : ab_Run X 228 10 (1, 0, 0) L (ab_I x2 :: ab_I x1 :: ab_R a :: st) σ Q ↔ ((ab_sh σ a).1 = 13 ∧ ab_cats st ≤ 8) ∧ ab_Do X 154 [ab_R a, ab_I x1, ab_I x2] σ (fun r σ' => ab_Run X 228 13 (1, 0, 0) L (ab_psh r st) σ' Q) := ab_r_callV (w := [ab_I x2, ab_I x1]) (as := [ab_I x1, ab_I x2]) (b1 := (0, 0, 0)) 0 (Or.inl rfl) (by decide) ko_X13_isChoice qM_13_406 (by decide) rfl rfl rfl rfl rfl (by decide) (Nat.le_of_ble_eq_true rfl) kc_X13_isChoice dX13_isChoice_10
theorem rX13_isChoice_13 : ab_Run X 228 13 (1, 0, 0) L (ab_I b :: ab_I a :: st) σ Q ↔ (b ≤ a → ab_Run X 228 36 (1, 0, 0) L st σ Q) ∧ (¬ (b ≤ a) → ab_Run X 228 16 (1, 0, 0) L st σ Q) := ab_r_icmp_ge rfl kc_X13_isChoice dX13_isChoice_13
theorem rX13_isChoice_16 : ab_Run X 228 16 (1, 0, 0) [l0, l1, l2, l3, ab_I z] st σ Q ↔ ab_Run X 228 18 (1, 0, 0) [l0, l1, l2, l3, ab_I z] (ab_I z :: st) σ Q := ab_r_iload rfl kc_X13_isChoice dX13_isChoice_16
theorem rX13_isChoice_18 : ab_Run X 228 18 (1, 0, 0) L st σ Q ↔ ab_Run X 228 19 (1, 0, 0) L (ab_I 2 :: st) σ Q := ab_r_iconst (by decide) kc_X13_isChoice dX13_isChoice_18
theorem rX13_isChoice_19 : ab_Run X 228 19 (1, 0, 0) L (ab_I b :: ab_I a :: st) σ Q ↔ b ≠ 0 ∧ ab_Run X 228 20 (1, 0, 0) L (ab_I (a.tmod b) :: st) σ Q := ab_r_irem kc_X13_isChoice dX13_isChoice_19
theorem rX13_isChoice_20 : ab_Run X 228 20 (1, 0, 0) L st σ Q ↔ ab_Run X 228 21 (1, 0, 0) L (ab_I 1 :: st) σ Q := ab_r_iconst (by decide) kc_X13_isChoice dX13_isChoice_20
theorem rX13_isChoice_21 : ab_Run X 228 21 (1, 0, 0) L (ab_I b :: ab_I a :: st) σ Q ↔ (a = b → ab_Run X 228 32 (1, 0, 0) L st σ Q) ∧ (¬ (a = b) → ab_Run X 228 24 (1, 0, 0) L st σ Q) := ab_r_icmp_eq rfl kc_X13_isChoice dX13_isChoice_21
theorem rX13_isChoice_24 : ab_Run X 228 24 (1, 0, 0) [ab_R z, l1, l2, l3, l4] st σ Q ↔ z ≠ 0 ∧ ab_Run X 228 25 (1, 0, 0) [ab_R z, l1, l2, l3, l4] (ab_R z :: st) σ Q := ab_r_aload_n rfl kc_X13_isChoice dX13_isChoice_24
theorem rX13_isChoice_25 : ab_Run X 228 25 (1, 0, 0) [l0, ab_I z, l2, l3, l4] st σ Q ↔ ab_Run X 228 26 (1, 0, 0) [l0, ab_I z, l2, l3, l4] (ab_I z :: st) σ Q := ab_r_iload_n rfl kc_X13_isChoice dX13_isChoice_25
theorem rX13_isChoice_26 : ab_Run X 228 26 (1, 0, 0) L (ab_I x1 :: ab_R a :: st) σ Q ↔ ((ab_sh σ a).1 = 14 ∧ ab_cats st ≤ 8) ∧ ab_Do X 201 [ab_R a, ab_I x1] σ (fun r σ' => ab_Run X 228 29 (1, 0, 0) L (ab_psh r st) σ' Q) := ab_r_callV (w := [ab_I x1]) (as := [ab_I x1]) (b1 := (0, 0, 0)) 0 (Or.inl rfl) (by decide) ko_X13_isChoice qM_13_386 (by decide) rfl rfl rfl rfl rfl (by decide) (Nat.le_of_ble_eq_true rfl) kc_X13_isChoice dX13_isChoice_26
theorem rX13_isChoice_29 : ab_Run X 228 29 (1, 0, 0) L (ab_I a :: st) σ Q ↔ (¬ a = 0 → ab_Run X 228 36 (1, 0, 0) L st σ Q) ∧ (¬ (¬ a = 0) → ab_Run X 228 32 (1, 0, 0) L st σ Q) := ab_r_if_ne rfl kc_X13_isChoice dX13_isChoice_29
theorem rX13_isChoice_32 : ab_Run X 228 32 (1, 0, 0) L st σ Q ↔ ab_Run X 228 33 (1, 0, 0) L (ab_I 1 :: st) σ Q := ab_r_iconst (by decide) kc_X13_isChoice dX13_isChoice_32
theorem rX13_isChoice_33 : ab_Run X 228 33 (1, 0, 0) L st σ Q ↔ ab_Run X 228 37 (1, 0, 0) L st σ Q := ab_r_goto rfl kc_X13_isChoice dX13_isChoice_33
theorem rX13_isChoice_36 : ab_Run X 228 36 (1, 0, 0) L st σ Q ↔ ab_Run X 228 37 (1, 0, 0) L (ab_I 0 :: st) σ Q := ab_r_iconst (by decide) kc_X13_isChoice dX13_isChoice_36
theorem rX13_isChoice_37 : ab_Run X 228 37 (1, 0, 0) L [ab_I v] σ Q ↔ (v = 0 ∨ v = 1) ∧ Q (some (ab_I v)) σ := ab_r_ireturnZ rfl kc_X13_isChoice dX13_isChoice_37
theorem kc_X13_laysGame : ab_code 229 = cX13_laysGame := rfl
theorem ko_X13_laysGame : ab_ow 229 = 13 := rfl
theorem rX13_laysGame_0 : ab_Run X 229 0 (6, 0, 0) L st σ Q ↔ ab_Run X 229 1 (6, 0, 0) L (ab_I 0 :: st) σ Q := ab_r_iconst (by decide) kc_X13_laysGame dX13_laysGame_0
theorem rX13_laysGame_1 : ab_Run X 229 1 (6, 0, 0) [l0, l1, l2, l3, l4, l5, l6] (ab_I z :: st) σ Q ↔ (!ab_isJ l3) = true ∧ ab_Run X 229 3 (6, 0, 0) [l0, l1, l2, l3, ab_I z, l5, l6] st σ Q := ab_r_istore (Nat.le_of_ble_eq_true rfl) kc_X13_laysGame dX13_laysGame_1
theorem rX13_laysGame_3 : ab_Run X 229 3 (6, 0, 0) [l0, l1, l2, l3, ab_I z, l5, l6] st σ Q ↔ ab_Run X 229 5 (6, 0, 0) [l0, l1, l2, l3, ab_I z, l5, l6] (ab_I z :: st) σ Q := ab_r_iload rfl kc_X13_laysGame dX13_laysGame_3
theorem rX13_laysGame_5 : ab_Run X 229 5 (6, 0, 0) L st σ Q ↔ ab_Run X 229 7 (6, 0, 0) L (ab_I 12 :: st) σ Q := ab_r_bipush (by decide) kc_X13_laysGame dX13_laysGame_5
theorem rX13_laysGame_7 : ab_Run X 229 7 (6, 0, 0) L (ab_I b :: ab_I a :: st) σ Q ↔ (b ≤ a → ab_Run X 229 155 (6, 0, 0) L st σ Q) ∧ (¬ (b ≤ a) → ab_Run X 229 10 (6, 0, 0) L st σ Q) := ab_r_icmp_ge rfl kc_X13_laysGame dX13_laysGame_7
theorem rX13_laysGame_10 : ab_Run X 229 10 (6, 0, 0) L st σ Q ↔ ab_Run X 229 11 (6, 0, 0) L (ab_I 0 :: st) σ Q := ab_r_iconst (by decide) kc_X13_laysGame dX13_laysGame_10
theorem rX13_laysGame_11 : ab_Run X 229 11 (6, 0, 0) [l0, l1, l2, l3, l4, l5, l6] (ab_I z :: st) σ Q ↔ (!ab_isJ l4) = true ∧ ab_Run X 229 13 (6, 0, 0) [l0, l1, l2, l3, l4, ab_I z, l6] st σ Q := ab_r_istore (Nat.le_of_ble_eq_true rfl) kc_X13_laysGame dX13_laysGame_11
theorem rX13_laysGame_13 : ab_Run X 229 13 (6, 0, 0) [l0, l1, l2, l3, l4, ab_I z, l6] st σ Q ↔ ab_Run X 229 15 (6, 0, 0) [l0, l1, l2, l3, l4, ab_I z, l6] (ab_I z :: st) σ Q := ab_r_iload rfl kc_X13_laysGame dX13_laysGame_13
theorem rX13_laysGame_15 : ab_Run X 229 15 (6, 0, 0) L st σ Q ↔ ab_Run X 229 17 (6, 0, 0) L (ab_I 12 :: st) σ Q := ab_r_bipush (by decide) kc_X13_laysGame dX13_laysGame_15
theorem rX13_laysGame_17 : ab_Run X 229 17 (6, 0, 0) L (ab_I b :: ab_I a :: st) σ Q ↔ (b ≤ a → ab_Run X 229 149 (6, 0, 0) L st σ Q) ∧ (¬ (b ≤ a) → ab_Run X 229 20 (6, 0, 0) L st σ Q) := ab_r_icmp_ge rfl kc_X13_laysGame dX13_laysGame_17
theorem rX13_laysGame_20 : ab_Run X 229 20 (6, 0, 0) [ab_R z, l1, l2, l3, l4, l5, l6] st σ Q ↔ z ≠ 0 ∧ ab_Run X 229 21 (6, 0, 0) [ab_R z, l1, l2, l3, l4, l5, l6] (ab_R z :: st) σ Q := ab_r_aload_n rfl kc_X13_laysGame dX13_laysGame_20
theorem rX13_laysGame_21 : ab_Run X 229 21 (6, 0, 0) [l0, l1, ab_I z, l3, l4, l5, l6] st σ Q ↔ ab_Run X 229 22 (6, 0, 0) [l0, l1, ab_I z, l3, l4, l5, l6] (ab_I z :: st) σ Q := ab_r_iload_n rfl kc_X13_laysGame dX13_laysGame_21
theorem rX13_laysGame_22 : ab_Run X 229 22 (6, 0, 0) [l0, ab_I z, l2, l3, l4, l5, l6] st σ Q ↔ ab_Run X 229 23 (6, 0, 0) [l0, ab_I z, l2, l3, l4, l5, l6] (ab_I z :: st) σ Q := ab_r_iload_n rfl kc_X13_laysGame dX13_laysGame_22
theorem rX13_laysGame_23 : ab_Run X 229 23 (6, 0, 0) L st σ Q ↔ ab_Run X 229 24 (6, 0, 0) L (ab_I 0 :: st) σ Q := ab_r_iconst (by decide) kc_X13_laysGame dX13_laysGame_23
theorem rX13_laysGame_24 : ab_Run X 229 24 (6, 0, 0) [l0, l1, l2, l3, ab_I z, l5, l6] st σ Q ↔ ab_Run X 229 26 (6, 0, 0) [l0, l1, l2, l3, ab_I z, l5, l6] (ab_I z :: st) σ Q := ab_r_iload rfl kc_X13_laysGame dX13_laysGame_24
theorem rX13_laysGame_26 : ab_Run X 229 26 (6, 0, 0) L (ab_I x4 :: ab_I x3 :: ab_I x2 :: ab_I x1 :: ab_R a :: st) σ Q ↔ ((ab_sh σ a).1 = 14 ∧ ab_cats st ≤ 8) ∧ ab_Do X 228 [ab_R a, ab_I x1, ab_I x2, ab_I x3, ab_I x4] σ (fun r σ' => ab_Run X 229 29 (6, 0, 0) L (ab_psh r st) σ' Q) := ab_r_callV (w := [ab_I x4, ab_I x3, ab_I x2, ab_I x1]) (as := [ab_I x1, ab_I x2, ab_I x3, ab_I x4]) (b1 := (1, 0, 0)) 0 (Or.inl rfl) (by decide) ko_X13_laysGame qM_13_470 (by decide) rfl rfl rfl rfl rfl (by decide) (Nat.le_of_ble_eq_true rfl) kc_X13_laysGame dX13_laysGame_26
theorem rX13_laysGame_29 : ab_Run X 229 29 (6, 0, 0) L (ab_I a :: st) σ Q ↔ (a = 0 → ab_Run X 229 143 (6, 0, 0) L st σ Q) ∧ (¬ (a = 0) → ab_Run X 229 32 (6, 0, 0) L st σ Q) := ab_r_if_eq rfl kc_X13_laysGame dX13_laysGame_29
theorem rX13_laysGame_32 : ab_Run X 229 32 (6, 0, 0) [ab_R z, l1, l2, l3, l4, l5, l6] st σ Q ↔ z ≠ 0 ∧ ab_Run X 229 33 (6, 0, 0) [ab_R z, l1, l2, l3, l4, l5, l6] (ab_R z :: st) σ Q := ab_r_aload_n rfl kc_X13_laysGame dX13_laysGame_32
theorem rX13_laysGame_33 : ab_Run X 229 33 (6, 0, 0) [l0, l1, l2, ab_I z, l4, l5, l6] st σ Q ↔ ab_Run X 229 34 (6, 0, 0) [l0, l1, l2, ab_I z, l4, l5, l6] (ab_I z :: st) σ Q := ab_r_iload_n rfl kc_X13_laysGame dX13_laysGame_33
theorem rX13_laysGame_34 : ab_Run X 229 34 (6, 0, 0) [l0, ab_I z, l2, l3, l4, l5, l6] st σ Q ↔ ab_Run X 229 35 (6, 0, 0) [l0, ab_I z, l2, l3, l4, l5, l6] (ab_I z :: st) σ Q := ab_r_iload_n rfl kc_X13_laysGame dX13_laysGame_34
theorem rX13_laysGame_35 : ab_Run X 229 35 (6, 0, 0) L st σ Q ↔ ab_Run X 229 36 (6, 0, 0) L (ab_I 1 :: st) σ Q := ab_r_iconst (by decide) kc_X13_laysGame dX13_laysGame_35
theorem rX13_laysGame_36 : ab_Run X 229 36 (6, 0, 0) [l0, l1, l2, l3, l4, ab_I z, l6] st σ Q ↔ ab_Run X 229 38 (6, 0, 0) [l0, l1, l2, l3, l4, ab_I z, l6] (ab_I z :: st) σ Q := ab_r_iload rfl kc_X13_laysGame dX13_laysGame_36
theorem rX13_laysGame_38 : ab_Run X 229 38 (6, 0, 0) L (ab_I x4 :: ab_I x3 :: ab_I x2 :: ab_I x1 :: ab_R a :: st) σ Q ↔ ((ab_sh σ a).1 = 14 ∧ ab_cats st ≤ 8) ∧ ab_Do X 228 [ab_R a, ab_I x1, ab_I x2, ab_I x3, ab_I x4] σ (fun r σ' => ab_Run X 229 41 (6, 0, 0) L (ab_psh r st) σ' Q) := ab_r_callV (w := [ab_I x4, ab_I x3, ab_I x2, ab_I x1]) (as := [ab_I x1, ab_I x2, ab_I x3, ab_I x4]) (b1 := (1, 0, 0)) 0 (Or.inl rfl) (by decide) ko_X13_laysGame qM_13_470 (by decide) rfl rfl rfl rfl rfl (by decide) (Nat.le_of_ble_eq_true rfl) kc_X13_laysGame dX13_laysGame_38
theorem rX13_laysGame_41 : ab_Run X 229 41 (6, 0, 0) L (ab_I a :: st) σ Q ↔ (¬ a = 0 → ab_Run X 229 47 (6, 0, 0) L st σ Q) ∧ (¬ (¬ a = 0) → ab_Run X 229 44 (6, 0, 0) L st σ Q) := ab_r_if_ne rfl kc_X13_laysGame dX13_laysGame_41
theorem rX13_laysGame_44 : ab_Run X 229 44 (6, 0, 0) L st σ Q ↔ ab_Run X 229 143 (6, 0, 0) L st σ Q := ab_r_goto rfl kc_X13_laysGame dX13_laysGame_44
theorem rX13_laysGame_47 : ab_Run X 229 47 (6, 0, 0) [l0, l1, l2, l3, ab_I z, l5, l6] st σ Q ↔ ab_Run X 229 49 (6, 0, 0) [l0, l1, l2, l3, ab_I z, l5, l6] (ab_I z :: st) σ Q := ab_r_iload rfl kc_X13_laysGame dX13_laysGame_47
theorem rX13_laysGame_49 : ab_Run X 229 49 (6, 0, 0) L st σ Q ↔ ab_Run X 229 50 (6, 0, 0) L (ab_I 2 :: st) σ Q := ab_r_iconst (by decide) kc_X13_laysGame dX13_laysGame_49
theorem rX13_laysGame_50 : ab_Run X 229 50 (6, 0, 0) L (ab_I b :: ab_I a :: st) σ Q ↔ b ≠ 0 ∧ ab_Run X 229 51 (6, 0, 0) L (ab_I (a.tmod b) :: st) σ Q := ab_r_irem kc_X13_laysGame dX13_laysGame_50
theorem rX13_laysGame_51 : ab_Run X 229 51 (6, 0, 0) L st σ Q ↔ ab_Run X 229 52 (6, 0, 0) L (ab_I 1 :: st) σ Q := ab_r_iconst (by decide) kc_X13_laysGame dX13_laysGame_51
theorem rX13_laysGame_52 : ab_Run X 229 52 (6, 0, 0) L (ab_I b :: ab_I a :: st) σ Q ↔ (¬ a = b → ab_Run X 229 71 (6, 0, 0) L st σ Q) ∧ (¬ (¬ a = b) → ab_Run X 229 55 (6, 0, 0) L st σ Q) := ab_r_icmp_ne rfl kc_X13_laysGame dX13_laysGame_52
theorem rX13_laysGame_55 : ab_Run X 229 55 (6, 0, 0) [l0, l1, l2, l3, l4, ab_I z, l6] st σ Q ↔ ab_Run X 229 57 (6, 0, 0) [l0, l1, l2, l3, l4, ab_I z, l6] (ab_I z :: st) σ Q := ab_r_iload rfl kc_X13_laysGame dX13_laysGame_55
theorem rX13_laysGame_57 : ab_Run X 229 57 (6, 0, 0) L st σ Q ↔ ab_Run X 229 58 (6, 0, 0) L (ab_I 2 :: st) σ Q := ab_r_iconst (by decide) kc_X13_laysGame dX13_laysGame_57
theorem rX13_laysGame_58 : ab_Run X 229 58 (6, 0, 0) L (ab_I b :: ab_I a :: st) σ Q ↔ b ≠ 0 ∧ ab_Run X 229 59 (6, 0, 0) L (ab_I (a.tmod b) :: st) σ Q := ab_r_irem kc_X13_laysGame dX13_laysGame_58
theorem rX13_laysGame_59 : ab_Run X 229 59 (6, 0, 0) L st σ Q ↔ ab_Run X 229 60 (6, 0, 0) L (ab_I 1 :: st) σ Q := ab_r_iconst (by decide) kc_X13_laysGame dX13_laysGame_59
theorem rX13_laysGame_60 : ab_Run X 229 60 (6, 0, 0) L (ab_I b :: ab_I a :: st) σ Q ↔ (¬ a = b → ab_Run X 229 67 (6, 0, 0) L st σ Q) ∧ (¬ (¬ a = b) → ab_Run X 229 63 (6, 0, 0) L st σ Q) := ab_r_icmp_ne rfl kc_X13_laysGame dX13_laysGame_60
theorem rX13_laysGame_63 : ab_Run X 229 63 (6, 0, 0) L st σ Q ↔ ab_Run X 229 64 (6, 0, 0) L (ab_I 3 :: st) σ Q := ab_r_iconst (by decide) kc_X13_laysGame dX13_laysGame_63
theorem rX13_laysGame_64 : ab_Run X 229 64 (6, 0, 0) L st σ Q ↔ ab_Run X 229 84 (6, 0, 0) L st σ Q := ab_r_goto rfl kc_X13_laysGame dX13_laysGame_64
theorem rX13_laysGame_67 : ab_Run X 229 67 (6, 0, 0) L st σ Q ↔ ab_Run X 229 68 (6, 0, 0) L (ab_I 0 :: st) σ Q := ab_r_iconst (by decide) kc_X13_laysGame dX13_laysGame_67
theorem rX13_laysGame_68 : ab_Run X 229 68 (6, 0, 0) L st σ Q ↔ ab_Run X 229 84 (6, 0, 0) L st σ Q := ab_r_goto rfl kc_X13_laysGame dX13_laysGame_68
theorem rX13_laysGame_71 : ab_Run X 229 71 (6, 0, 0) [l0, l1, l2, l3, l4, ab_I z, l6] st σ Q ↔ ab_Run X 229 73 (6, 0, 0) [l0, l1, l2, l3, l4, ab_I z, l6] (ab_I z :: st) σ Q := ab_r_iload rfl kc_X13_laysGame dX13_laysGame_71
theorem rX13_laysGame_73 : ab_Run X 229 73 (6, 0, 0) L st σ Q ↔ ab_Run X 229 74 (6, 0, 0) L (ab_I 2 :: st) σ Q := ab_r_iconst (by decide) kc_X13_laysGame dX13_laysGame_73
theorem rX13_laysGame_74 : ab_Run X 229 74 (6, 0, 0) L (ab_I b :: ab_I a :: st) σ Q ↔ b ≠ 0 ∧ ab_Run X 229 75 (6, 0, 0) L (ab_I (a.tmod b) :: st) σ Q := ab_r_irem kc_X13_laysGame dX13_laysGame_74
theorem rX13_laysGame_75 : ab_Run X 229 75 (6, 0, 0) L st σ Q ↔ ab_Run X 229 76 (6, 0, 0) L (ab_I 1 :: st) σ Q := ab_r_iconst (by decide) kc_X13_laysGame dX13_laysGame_75
theorem rX13_laysGame_76 : ab_Run X 229 76 (6, 0, 0) L (ab_I b :: ab_I a :: st) σ Q ↔ (¬ a = b → ab_Run X 229 83 (6, 0, 0) L st σ Q) ∧ (¬ (¬ a = b) → ab_Run X 229 79 (6, 0, 0) L st σ Q) := ab_r_icmp_ne rfl kc_X13_laysGame dX13_laysGame_76
theorem rX13_laysGame_79 : ab_Run X 229 79 (6, 0, 0) L st σ Q ↔ ab_Run X 229 80 (6, 0, 0) L (ab_I 1 :: st) σ Q := ab_r_iconst (by decide) kc_X13_laysGame dX13_laysGame_79
theorem rX13_laysGame_80 : ab_Run X 229 80 (6, 0, 0) L st σ Q ↔ ab_Run X 229 84 (6, 0, 0) L st σ Q := ab_r_goto rfl kc_X13_laysGame dX13_laysGame_80
theorem rX13_laysGame_83 : ab_Run X 229 83 (6, 0, 0) L st σ Q ↔ ab_Run X 229 84 (6, 0, 0) L (ab_I 2 :: st) σ Q := ab_r_iconst (by decide) kc_X13_laysGame dX13_laysGame_83
theorem rX13_laysGame_84 : ab_Run X 229 84 (6, 0, 0) [l0, l1, l2, l3, l4, l5, l6] (ab_I z :: st) σ Q ↔ (!ab_isJ l5) = true ∧ ab_Run X 229 86 (6, 0, 0) [l0, l1, l2, l3, l4, l5, ab_I z] st σ Q := ab_r_istore (Nat.le_of_ble_eq_true rfl) kc_X13_laysGame dX13_laysGame_84
theorem rX13_laysGame_86 : ab_Run X 229 86 (6, 0, 0) [ab_R z, l1, l2, l3, l4, l5, l6] st σ Q ↔ z ≠ 0 ∧ ab_Run X 229 87 (6, 0, 0) [ab_R z, l1, l2, l3, l4, l5, l6] (ab_R z :: st) σ Q := ab_r_aload_n rfl kc_X13_laysGame dX13_laysGame_86
theorem rX13_laysGame_87 : ab_Run X 229 87 (6, 0, 0) [l0, ab_I z, l2, l3, l4, l5, l6] st σ Q ↔ ab_Run X 229 88 (6, 0, 0) [l0, ab_I z, l2, l3, l4, l5, l6] (ab_I z :: st) σ Q := ab_r_iload_n rfl kc_X13_laysGame dX13_laysGame_87
theorem rX13_laysGame_88 : ab_Run X 229 88 (6, 0, 0) [l0, l1, ab_I z, l3, l4, l5, l6] st σ Q ↔ ab_Run X 229 89 (6, 0, 0) [l0, l1, ab_I z, l3, l4, l5, l6] (ab_I z :: st) σ Q := ab_r_iload_n rfl kc_X13_laysGame dX13_laysGame_88
theorem rX13_laysGame_89 : ab_Run X 229 89 (6, 0, 0) [l0, l1, l2, l3, ab_I z, l5, l6] st σ Q ↔ ab_Run X 229 91 (6, 0, 0) [l0, l1, l2, l3, ab_I z, l5, l6] (ab_I z :: st) σ Q := ab_r_iload rfl kc_X13_laysGame dX13_laysGame_89
theorem rX13_laysGame_91 : ab_Run X 229 91 (6, 0, 0) L st σ Q ↔ ab_Run X 229 92 (6, 0, 0) L (ab_I 2 :: st) σ Q := ab_r_iconst (by decide) kc_X13_laysGame dX13_laysGame_91
theorem rX13_laysGame_92 : ab_Run X 229 92 (6, 0, 0) L (ab_I b :: ab_I a :: st) σ Q ↔ b ≠ 0 ∧ ab_Run X 229 93 (6, 0, 0) L (ab_I (ab_w32 (a.tdiv b)) :: st) σ Q := ab_r_idiv kc_X13_laysGame dX13_laysGame_92
theorem rX13_laysGame_93 : ab_Run X 229 93 (6, 0, 0) L st σ Q ↔ ab_Run X 229 94 (6, 0, 0) L (ab_I 1 :: st) σ Q := ab_r_iconst (by decide) kc_X13_laysGame dX13_laysGame_93
theorem rX13_laysGame_94 : ab_Run X 229 94 (6, 0, 0) L (ab_I b :: ab_I a :: st) σ Q ↔ ab_Run X 229 95 (6, 0, 0) L (ab_I (ab_w32 (a + b)) :: st) σ Q := ab_r_iadd kc_X13_laysGame dX13_laysGame_94
theorem rX13_laysGame_95 : ab_Run X 229 95 (6, 0, 0) [l0, l1, l2, ab_I z, l4, l5, l6] st σ Q ↔ ab_Run X 229 96 (6, 0, 0) [l0, l1, l2, ab_I z, l4, l5, l6] (ab_I z :: st) σ Q := ab_r_iload_n rfl kc_X13_laysGame dX13_laysGame_95
theorem rX13_laysGame_96 : ab_Run X 229 96 (6, 0, 0) [l0, l1, l2, l3, l4, ab_I z, l6] st σ Q ↔ ab_Run X 229 98 (6, 0, 0) [l0, l1, l2, l3, l4, ab_I z, l6] (ab_I z :: st) σ Q := ab_r_iload rfl kc_X13_laysGame dX13_laysGame_96
theorem rX13_laysGame_98 : ab_Run X 229 98 (6, 0, 0) L st σ Q ↔ ab_Run X 229 99 (6, 0, 0) L (ab_I 2 :: st) σ Q := ab_r_iconst (by decide) kc_X13_laysGame dX13_laysGame_98
theorem rX13_laysGame_99 : ab_Run X 229 99 (6, 0, 0) L (ab_I b :: ab_I a :: st) σ Q ↔ b ≠ 0 ∧ ab_Run X 229 100 (6, 0, 0) L (ab_I (ab_w32 (a.tdiv b)) :: st) σ Q := ab_r_idiv kc_X13_laysGame dX13_laysGame_99
theorem rX13_laysGame_100 : ab_Run X 229 100 (6, 0, 0) L st σ Q ↔ ab_Run X 229 101 (6, 0, 0) L (ab_I 1 :: st) σ Q := ab_r_iconst (by decide) kc_X13_laysGame dX13_laysGame_100
theorem rX13_laysGame_101 : ab_Run X 229 101 (6, 0, 0) L (ab_I b :: ab_I a :: st) σ Q ↔ ab_Run X 229 102 (6, 0, 0) L (ab_I (ab_w32 (a + b)) :: st) σ Q := ab_r_iadd kc_X13_laysGame dX13_laysGame_101
theorem rX13_laysGame_102 : ab_Run X 229 102 (6, 0, 0) [l0, l1, l2, l3, l4, l5, ab_I z] st σ Q ↔ ab_Run X 229 104 (6, 0, 0) [l0, l1, l2, l3, l4, l5, ab_I z] (ab_I z :: st) σ Q := ab_r_iload rfl kc_X13_laysGame dX13_laysGame_102
theorem rX13_laysGame_104 : ab_Run X 229 104 (6, 0, 0) L (ab_I x6 :: ab_I x5 :: ab_I x4 :: ab_I x3 :: ab_I x2 :: ab_I x1 :: ab_R a :: st) σ Q ↔ ((ab_sh σ a).1 = 14 ∧ ab_cats st ≤ 8) ∧ ab_Do X 202 [ab_R a, ab_I x1, ab_I x2, ab_I x3, ab_I x4, ab_I x5, ab_I x6] σ (fun r σ' => ab_Run X 229 107 (6, 0, 0) L (ab_psh r st) σ' Q) := ab_r_callV (w := [ab_I x6, ab_I x5, ab_I x4, ab_I x3, ab_I x2, ab_I x1]) (as := [ab_I x1, ab_I x2, ab_I x3, ab_I x4, ab_I x5, ab_I x6]) (b1 := (1, 0, 0)) 0 (Or.inl rfl) (by decide) ko_X13_laysGame qM_13_396 (by decide) rfl rfl rfl rfl rfl (by decide) (Nat.le_of_ble_eq_true rfl) kc_X13_laysGame dX13_laysGame_104
theorem rX13_laysGame_107 : ab_Run X 229 107 (6, 0, 0) [ab_R z, l1, l2, l3, l4, l5, l6] st σ Q ↔ z ≠ 0 ∧ ab_Run X 229 108 (6, 0, 0) [ab_R z, l1, l2, l3, l4, l5, l6] (ab_R z :: st) σ Q := ab_r_aload_n rfl kc_X13_laysGame dX13_laysGame_107
theorem rX13_laysGame_108 : ab_Run X 229 108 (6, 0, 0) L (ab_R a :: st) σ Q ↔ (ab_sh σ a).1 = 14 ∧ ab_Run X 229 111 (6, 0, 0) L (ab_R (ab_rd σ a 30) :: st) σ Q := gF_13_37 ko_X13_laysGame kc_X13_laysGame dX13_laysGame_108
theorem rX13_laysGame_111 : ab_Run X 229 111 (6, 0, 0) L st σ Q ↔ ab_Run X 229 113 (6, 0, 0) L (ab_I 12 :: st) σ Q := ab_r_bipush (by decide) kc_X13_laysGame dX13_laysGame_111
theorem rX13_laysGame_113 : ab_Run X 229 113 (6, 0, 0) [l0, l1, l2, l3, ab_I z, l5, l6] st σ Q ↔ ab_Run X 229 115 (6, 0, 0) [l0, l1, l2, l3, ab_I z, l5, l6] (ab_I z :: st) σ Q := ab_r_iload rfl kc_X13_laysGame dX13_laysGame_113
theorem rX13_laysGame_115 : ab_Run X 229 115 (6, 0, 0) L (ab_I b :: ab_I a :: st) σ Q ↔ ab_Run X 229 116 (6, 0, 0) L (ab_I (ab_w32 (a * b)) :: st) σ Q := ab_r_imul kc_X13_laysGame dX13_laysGame_115
theorem rX13_laysGame_116 : ab_Run X 229 116 (6, 0, 0) [l0, l1, l2, l3, l4, ab_I z, l6] st σ Q ↔ ab_Run X 229 118 (6, 0, 0) [l0, l1, l2, l3, l4, ab_I z, l6] (ab_I z :: st) σ Q := ab_r_iload rfl kc_X13_laysGame dX13_laysGame_116
theorem rX13_laysGame_118 : ab_Run X 229 118 (6, 0, 0) L (ab_I b :: ab_I a :: st) σ Q ↔ ab_Run X 229 119 (6, 0, 0) L (ab_I (ab_w32 (a + b)) :: st) σ Q := ab_r_iadd kc_X13_laysGame dX13_laysGame_118
theorem rX13_laysGame_119 : ab_Run X 229 119 (6, 0, 0) [ab_R z, l1, l2, l3, l4, l5, l6] st σ Q ↔ z ≠ 0 ∧ ab_Run X 229 120 (6, 0, 0) [ab_R z, l1, l2, l3, l4, l5, l6] (ab_R z :: st) σ Q := ab_r_aload_n rfl kc_X13_laysGame dX13_laysGame_119
theorem rX13_laysGame_120 : ab_Run X 229 120 (6, 0, 0) L st σ Q ↔ ab_Run X 229 121 (6, 0, 0) L (ab_I 0 :: st) σ Q := ab_r_iconst (by decide) kc_X13_laysGame dX13_laysGame_120
theorem rX13_laysGame_121 : ab_Run X 229 121 (6, 0, 0) L (ab_I x1 :: ab_R a :: st) σ Q ↔ ((ab_sh σ a).1 = 14 ∧ ab_cats st ≤ 8) ∧ ab_Do X 211 [ab_R a, ab_I x1] σ (fun r σ' => ab_Run X 229 124 (6, 0, 0) L (ab_psh r st) σ' Q) := ab_r_callV (w := [ab_I x1]) (as := [ab_I x1]) (b1 := (5, 0, 0)) 0 (Or.inl rfl) (by decide) ko_X13_laysGame qM_13_462 (by decide) rfl rfl rfl rfl rfl (by decide) (Nat.le_of_ble_eq_true rfl) kc_X13_laysGame dX13_laysGame_121
theorem rX13_laysGame_124 : ab_Run X 229 124 (6, 0, 0) L (ab_J v :: ab_I i :: ab_R a :: st) σ Q ↔ ((ab_sh σ a).1 = 22 ∧ 0 ≤ i ∧ i < (ab_sh σ a).2) ∧ ab_Run X 229 125 (6, 0, 0) L st (ab_wr σ a i v) Q := ab_r_lastore kc_X13_laysGame dX13_laysGame_124
theorem rX13_laysGame_125 : ab_Run X 229 125 (6, 0, 0) [ab_R z, l1, l2, l3, l4, l5, l6] st σ Q ↔ z ≠ 0 ∧ ab_Run X 229 126 (6, 0, 0) [ab_R z, l1, l2, l3, l4, l5, l6] (ab_R z :: st) σ Q := ab_r_aload_n rfl kc_X13_laysGame dX13_laysGame_125
theorem rX13_laysGame_126 : ab_Run X 229 126 (6, 0, 0) L (ab_R a :: st) σ Q ↔ (ab_sh σ a).1 = 14 ∧ ab_Run X 229 129 (6, 0, 0) L (ab_R (ab_rd σ a 31) :: st) σ Q := gF_13_41 ko_X13_laysGame kc_X13_laysGame dX13_laysGame_126
theorem rX13_laysGame_129 : ab_Run X 229 129 (6, 0, 0) L st σ Q ↔ ab_Run X 229 131 (6, 0, 0) L (ab_I 12 :: st) σ Q := ab_r_bipush (by decide) kc_X13_laysGame dX13_laysGame_129
theorem rX13_laysGame_131 : ab_Run X 229 131 (6, 0, 0) [l0, l1, l2, l3, ab_I z, l5, l6] st σ Q ↔ ab_Run X 229 133 (6, 0, 0) [l0, l1, l2, l3, ab_I z, l5, l6] (ab_I z :: st) σ Q := ab_r_iload rfl kc_X13_laysGame dX13_laysGame_131
theorem rX13_laysGame_133 : ab_Run X 229 133 (6, 0, 0) L (ab_I b :: ab_I a :: st) σ Q ↔ ab_Run X 229 134 (6, 0, 0) L (ab_I (ab_w32 (a * b)) :: st) σ Q := ab_r_imul kc_X13_laysGame dX13_laysGame_133
theorem rX13_laysGame_134 : ab_Run X 229 134 (6, 0, 0) [l0, l1, l2, l3, l4, ab_I z, l6] st σ Q ↔ ab_Run X 229 136 (6, 0, 0) [l0, l1, l2, l3, l4, ab_I z, l6] (ab_I z :: st) σ Q := ab_r_iload rfl kc_X13_laysGame dX13_laysGame_134
theorem rX13_laysGame_136 : ab_Run X 229 136 (6, 0, 0) L (ab_I b :: ab_I a :: st) σ Q ↔ ab_Run X 229 137 (6, 0, 0) L (ab_I (ab_w32 (a + b)) :: st) σ Q := ab_r_iadd kc_X13_laysGame dX13_laysGame_136
theorem rX13_laysGame_137 : ab_Run X 229 137 (6, 0, 0) [ab_R z, l1, l2, l3, l4, l5, l6] st σ Q ↔ z ≠ 0 ∧ ab_Run X 229 138 (6, 0, 0) [ab_R z, l1, l2, l3, l4, l5, l6] (ab_R z :: st) σ Q := ab_r_aload_n rfl kc_X13_laysGame dX13_laysGame_137
theorem rX13_laysGame_138 : ab_Run X 229 138 (6, 0, 0) L st σ Q ↔ ab_Run X 229 139 (6, 0, 0) L (ab_I 1 :: st) σ Q := ab_r_iconst (by decide) kc_X13_laysGame dX13_laysGame_138
theorem rX13_laysGame_139 : ab_Run X 229 139 (6, 0, 0) L (ab_I x1 :: ab_R a :: st) σ Q ↔ ((ab_sh σ a).1 = 14 ∧ ab_cats st ≤ 8) ∧ ab_Do X 211 [ab_R a, ab_I x1] σ (fun r σ' => ab_Run X 229 142 (6, 0, 0) L (ab_psh r st) σ' Q) := ab_r_callV (w := [ab_I x1]) (as := [ab_I x1]) (b1 := (5, 0, 0)) 0 (Or.inl rfl) (by decide) ko_X13_laysGame qM_13_462 (by decide) rfl rfl rfl rfl rfl (by decide) (Nat.le_of_ble_eq_true rfl) kc_X13_laysGame dX13_laysGame_139
theorem rX13_laysGame_142 : ab_Run X 229 142 (6, 0, 0) L (ab_J v :: ab_I i :: ab_R a :: st) σ Q ↔ ((ab_sh σ a).1 = 22 ∧ 0 ≤ i ∧ i < (ab_sh σ a).2) ∧ ab_Run X 229 143 (6, 0, 0) L st (ab_wr σ a i v) Q := ab_r_lastore kc_X13_laysGame dX13_laysGame_142
theorem rX13_laysGame_143 : ab_Run X 229 143 (6, 0, 0) [l0, l1, l2, l3, l4, ab_I z, l6] st σ Q ↔ (!ab_isJ l4) = true ∧ ab_Run X 229 146 (6, 0, 0) [l0, l1, l2, l3, l4, ab_I (ab_w32 (z + 1)), l6] st σ Q := ab_r_iinc rfl (by decide) kc_X13_laysGame dX13_laysGame_143
theorem rX13_laysGame_146 : ab_Run X 229 146 (6, 0, 0) L st σ Q ↔ ab_Run X 229 13 (6, 0, 0) L st σ Q := ab_r_goto rfl kc_X13_laysGame dX13_laysGame_146
theorem rX13_laysGame_149 : ab_Run X 229 149 (6, 0, 0) [l0, l1, l2, l3, ab_I z, l5, l6] st σ Q ↔ (!ab_isJ l3) = true ∧ ab_Run X 229 152 (6, 0, 0) [l0, l1, l2, l3, ab_I (ab_w32 (z + 1)), l5, l6] st σ Q := ab_r_iinc rfl (by decide) kc_X13_laysGame dX13_laysGame_149
theorem rX13_laysGame_152 : ab_Run X 229 152 (6, 0, 0) L st σ Q ↔ ab_Run X 229 3 (6, 0, 0) L st σ Q := ab_r_goto rfl kc_X13_laysGame dX13_laysGame_152
theorem rX13_laysGame_155 : ab_Run X 229 155 (6, 0, 0) L [] σ Q ↔ Q none σ := ab_r_return rfl kc_X13_laysGame dX13_laysGame_155
theorem kc_X13_isRest : ab_code 230 = cX13_isRest := rfl
theorem ko_X13_isRest : ab_ow 230 = 13 := rfl
theorem rX13_isRest_0 : ab_Run X 230 0 (2, 0, 0) L st σ Q ↔ ab_Run X 230 1 (2, 0, 0) L (ab_I 0 :: st) σ Q := ab_r_iconst (by decide) kc_X13_isRest dX13_isRest_0
theorem rX13_isRest_1 : ab_Run X 230 1 (2, 0, 0) [l0, l1, l2, l3, l4, l5, l6] (ab_I z :: st) σ Q ↔ (!ab_isJ l5) = true ∧ ab_Run X 230 3 (2, 0, 0) [l0, l1, l2, l3, l4, l5, ab_I z] st σ Q := ab_r_istore (Nat.le_of_ble_eq_true rfl) kc_X13_isRest dX13_isRest_1
theorem rX13_isRest_3 : ab_Run X 230 3 (2, 0, 0) [l0, l1, l2, l3, l4, l5, ab_I z] st σ Q ↔ ab_Run X 230 5 (2, 0, 0) [l0, l1, l2, l3, l4, l5, ab_I z] (ab_I z :: st) σ Q := ab_r_iload rfl kc_X13_isRest dX13_isRest_3
theorem rX13_isRest_5 : ab_Run X 230 5 (2, 0, 0) L st σ Q ↔ ab_Run X 230 7 (2, 0, 0) L (ab_I 12 :: st) σ Q := ab_r_bipush (by decide) kc_X13_isRest dX13_isRest_5
theorem rX13_isRest_7 : ab_Run X 230 7 (2, 0, 0) L (ab_I b :: ab_I a :: st) σ Q ↔ (b ≤ a → ab_Run X 230 104 (2, 0, 0) L st σ Q) ∧ (¬ (b ≤ a) → ab_Run X 230 10 (2, 0, 0) L st σ Q) := ab_r_icmp_ge rfl kc_X13_isRest dX13_isRest_7
theorem rX13_isRest_10 : ab_Run X 230 10 (2, 0, 0) [ab_R z, l1, l2, l3, l4, l5, l6] st σ Q ↔ z ≠ 0 ∧ ab_Run X 230 11 (2, 0, 0) [ab_R z, l1, l2, l3, l4, l5, l6] (ab_R z :: st) σ Q := ab_r_aload_n rfl kc_X13_isRest dX13_isRest_10
theorem rX13_isRest_11 : ab_Run X 230 11 (2, 0, 0) [l0, l1, ab_I z, l3, l4, l5, l6] st σ Q ↔ ab_Run X 230 12 (2, 0, 0) [l0, l1, ab_I z, l3, l4, l5, l6] (ab_I z :: st) σ Q := ab_r_iload_n rfl kc_X13_isRest dX13_isRest_11
theorem rX13_isRest_12 : ab_Run X 230 12 (2, 0, 0) [l0, ab_I z, l2, l3, l4, l5, l6] st σ Q ↔ ab_Run X 230 13 (2, 0, 0) [l0, ab_I z, l2, l3, l4, l5, l6] (ab_I z :: st) σ Q := ab_r_iload_n rfl kc_X13_isRest dX13_isRest_12
theorem rX13_isRest_13 : ab_Run X 230 13 (2, 0, 0) L st σ Q ↔ ab_Run X 230 14 (2, 0, 0) L (ab_I 0 :: st) σ Q := ab_r_iconst (by decide) kc_X13_isRest dX13_isRest_13
theorem rX13_isRest_14 : ab_Run X 230 14 (2, 0, 0) [l0, l1, l2, l3, l4, l5, ab_I z] st σ Q ↔ ab_Run X 230 16 (2, 0, 0) [l0, l1, l2, l3, l4, l5, ab_I z] (ab_I z :: st) σ Q := ab_r_iload rfl kc_X13_isRest dX13_isRest_14
theorem rX13_isRest_16 : ab_Run X 230 16 (2, 0, 0) L (ab_I x4 :: ab_I x3 :: ab_I x2 :: ab_I x1 :: ab_R a :: st) σ Q ↔ ((ab_sh σ a).1 = 14 ∧ ab_cats st ≤ 8) ∧ ab_Do X 228 [ab_R a, ab_I x1, ab_I x2, ab_I x3, ab_I x4] σ (fun r σ' => ab_Run X 230 19 (2, 0, 0) L (ab_psh r st) σ' Q) := ab_r_callV (w := [ab_I x4, ab_I x3, ab_I x2, ab_I x1]) (as := [ab_I x1, ab_I x2, ab_I x3, ab_I x4]) (b1 := (1, 0, 0)) 0 (Or.inl rfl) (by decide) ko_X13_isRest qM_13_470 (by decide) rfl rfl rfl rfl rfl (by decide) (Nat.le_of_ble_eq_true rfl) kc_X13_isRest dX13_isRest_16
theorem rX13_isRest_19 : ab_Run X 230 19 (2, 0, 0) L (ab_I a :: st) σ Q ↔ (a = 0 → ab_Run X 230 54 (2, 0, 0) L st σ Q) ∧ (¬ (a = 0) → ab_Run X 230 22 (2, 0, 0) L st σ Q) := ab_r_if_eq rfl kc_X13_isRest dX13_isRest_19
theorem rX13_isRest_22 : ab_Run X 230 22 (2, 0, 0) [ab_R z, l1, l2, l3, l4, l5, l6] st σ Q ↔ z ≠ 0 ∧ ab_Run X 230 23 (2, 0, 0) [ab_R z, l1, l2, l3, l4, l5, l6] (ab_R z :: st) σ Q := ab_r_aload_n rfl kc_X13_isRest dX13_isRest_22
theorem rX13_isRest_23 : ab_Run X 230 23 (2, 0, 0) L (ab_R a :: st) σ Q ↔ (ab_sh σ a).1 = 14 ∧ ab_Run X 230 26 (2, 0, 0) L (ab_R (ab_rd σ a 30) :: st) σ Q := gF_13_37 ko_X13_isRest kc_X13_isRest dX13_isRest_23
theorem rX13_isRest_26 : ab_Run X 230 26 (2, 0, 0) L st σ Q ↔ ab_Run X 230 28 (2, 0, 0) L (ab_I 12 :: st) σ Q := ab_r_bipush (by decide) kc_X13_isRest dX13_isRest_26
theorem rX13_isRest_28 : ab_Run X 230 28 (2, 0, 0) [l0, l1, l2, l3, l4, l5, ab_I z] st σ Q ↔ ab_Run X 230 30 (2, 0, 0) [l0, l1, l2, l3, l4, l5, ab_I z] (ab_I z :: st) σ Q := ab_r_iload rfl kc_X13_isRest dX13_isRest_28
theorem rX13_isRest_30 : ab_Run X 230 30 (2, 0, 0) L (ab_I b :: ab_I a :: st) σ Q ↔ ab_Run X 230 31 (2, 0, 0) L (ab_I (ab_w32 (a * b)) :: st) σ Q := ab_r_imul kc_X13_isRest dX13_isRest_30
theorem rX13_isRest_31 : ab_Run X 230 31 (2, 0, 0) [l0, l1, l2, l3, l4, ab_I z, l6] st σ Q ↔ ab_Run X 230 33 (2, 0, 0) [l0, l1, l2, l3, l4, ab_I z, l6] (ab_I z :: st) σ Q := ab_r_iload rfl kc_X13_isRest dX13_isRest_31
theorem rX13_isRest_33 : ab_Run X 230 33 (2, 0, 0) L (ab_I b :: ab_I a :: st) σ Q ↔ ab_Run X 230 34 (2, 0, 0) L (ab_I (ab_w32 (a + b)) :: st) σ Q := ab_r_iadd kc_X13_isRest dX13_isRest_33
theorem rX13_isRest_34 : ab_Run X 230 34 (2, 0, 0) L (ab_I i :: ab_R a :: st) σ Q ↔ ((ab_sh σ a).1 = 22 ∧ 0 ≤ i ∧ i < (ab_sh σ a).2) ∧ ab_Run X 230 35 (2, 0, 0) L (ab_J (ab_rd σ a i) :: st) σ Q := ab_r_laload kc_X13_isRest dX13_isRest_34
theorem rX13_isRest_35 : ab_Run X 230 35 (2, 0, 0) [ab_R z, l1, l2, l3, l4, l5, l6] st σ Q ↔ z ≠ 0 ∧ ab_Run X 230 36 (2, 0, 0) [ab_R z, l1, l2, l3, l4, l5, l6] (ab_R z :: st) σ Q := ab_r_aload_n rfl kc_X13_isRest dX13_isRest_35
theorem rX13_isRest_36 : ab_Run X 230 36 (2, 0, 0) L (ab_R a :: st) σ Q ↔ (ab_sh σ a).1 = 14 ∧ ab_Run X 230 39 (2, 0, 0) L (ab_R (ab_rd σ a 30) :: st) σ Q := gF_13_37 ko_X13_isRest kc_X13_isRest dX13_isRest_36
theorem rX13_isRest_39 : ab_Run X 230 39 (2, 0, 0) L st σ Q ↔ ab_Run X 230 41 (2, 0, 0) L (ab_I 12 :: st) σ Q := ab_r_bipush (by decide) kc_X13_isRest dX13_isRest_39
theorem rX13_isRest_41 : ab_Run X 230 41 (2, 0, 0) [l0, l1, l2, l3, ab_I z, l5, l6] st σ Q ↔ ab_Run X 230 43 (2, 0, 0) [l0, l1, l2, l3, ab_I z, l5, l6] (ab_I z :: st) σ Q := ab_r_iload rfl kc_X13_isRest dX13_isRest_41
theorem rX13_isRest_43 : ab_Run X 230 43 (2, 0, 0) L (ab_I b :: ab_I a :: st) σ Q ↔ ab_Run X 230 44 (2, 0, 0) L (ab_I (ab_w32 (a * b)) :: st) σ Q := ab_r_imul kc_X13_isRest dX13_isRest_43
theorem rX13_isRest_44 : ab_Run X 230 44 (2, 0, 0) [l0, l1, l2, l3, l4, ab_I z, l6] st σ Q ↔ ab_Run X 230 46 (2, 0, 0) [l0, l1, l2, l3, l4, ab_I z, l6] (ab_I z :: st) σ Q := ab_r_iload rfl kc_X13_isRest dX13_isRest_44
theorem rX13_isRest_46 : ab_Run X 230 46 (2, 0, 0) L (ab_I b :: ab_I a :: st) σ Q ↔ ab_Run X 230 47 (2, 0, 0) L (ab_I (ab_w32 (a + b)) :: st) σ Q := ab_r_iadd kc_X13_isRest dX13_isRest_46
theorem rX13_isRest_47 : ab_Run X 230 47 (2, 0, 0) L (ab_I i :: ab_R a :: st) σ Q ↔ ((ab_sh σ a).1 = 22 ∧ 0 ≤ i ∧ i < (ab_sh σ a).2) ∧ ab_Run X 230 48 (2, 0, 0) L (ab_J (ab_rd σ a i) :: st) σ Q := ab_r_laload kc_X13_isRest dX13_isRest_47
theorem rX13_isRest_48 : ab_Run X 230 48 (2, 0, 0) L (ab_J b :: ab_J a :: st) σ Q ↔ ab_Run X 230 49 (2, 0, 0) L (ab_I (if b < a then 1 else if a = b then 0 else -1) :: st) σ Q := ab_r_lcmp kc_X13_isRest dX13_isRest_48
theorem rX13_isRest_49 : ab_Run X 230 49 (2, 0, 0) L (ab_I a :: st) σ Q ↔ (a ≤ 0 → ab_Run X 230 54 (2, 0, 0) L st σ Q) ∧ (¬ (a ≤ 0) → ab_Run X 230 52 (2, 0, 0) L st σ Q) := ab_r_if_le rfl kc_X13_isRest dX13_isRest_49
theorem rX13_isRest_52 : ab_Run X 230 52 (2, 0, 0) L st σ Q ↔ ab_Run X 230 53 (2, 0, 0) L (ab_I 0 :: st) σ Q := ab_r_iconst (by decide) kc_X13_isRest dX13_isRest_52
theorem rX13_isRest_53 : ab_Run X 230 53 (2, 0, 0) L [ab_I v] σ Q ↔ (v = 0 ∨ v = 1) ∧ Q (some (ab_I v)) σ := ab_r_ireturnZ rfl kc_X13_isRest dX13_isRest_53
theorem rX13_isRest_54 : ab_Run X 230 54 (2, 0, 0) [ab_R z, l1, l2, l3, l4, l5, l6] st σ Q ↔ z ≠ 0 ∧ ab_Run X 230 55 (2, 0, 0) [ab_R z, l1, l2, l3, l4, l5, l6] (ab_R z :: st) σ Q := ab_r_aload_n rfl kc_X13_isRest dX13_isRest_54
theorem rX13_isRest_55 : ab_Run X 230 55 (2, 0, 0) [l0, l1, l2, ab_I z, l4, l5, l6] st σ Q ↔ ab_Run X 230 56 (2, 0, 0) [l0, l1, l2, ab_I z, l4, l5, l6] (ab_I z :: st) σ Q := ab_r_iload_n rfl kc_X13_isRest dX13_isRest_55
theorem rX13_isRest_56 : ab_Run X 230 56 (2, 0, 0) [l0, ab_I z, l2, l3, l4, l5, l6] st σ Q ↔ ab_Run X 230 57 (2, 0, 0) [l0, ab_I z, l2, l3, l4, l5, l6] (ab_I z :: st) σ Q := ab_r_iload_n rfl kc_X13_isRest dX13_isRest_56
theorem rX13_isRest_57 : ab_Run X 230 57 (2, 0, 0) L st σ Q ↔ ab_Run X 230 58 (2, 0, 0) L (ab_I 1 :: st) σ Q := ab_r_iconst (by decide) kc_X13_isRest dX13_isRest_57
theorem rX13_isRest_58 : ab_Run X 230 58 (2, 0, 0) [l0, l1, l2, l3, l4, l5, ab_I z] st σ Q ↔ ab_Run X 230 60 (2, 0, 0) [l0, l1, l2, l3, l4, l5, ab_I z] (ab_I z :: st) σ Q := ab_r_iload rfl kc_X13_isRest dX13_isRest_58
theorem rX13_isRest_60 : ab_Run X 230 60 (2, 0, 0) L (ab_I x4 :: ab_I x3 :: ab_I x2 :: ab_I x1 :: ab_R a :: st) σ Q ↔ ((ab_sh σ a).1 = 14 ∧ ab_cats st ≤ 8) ∧ ab_Do X 228 [ab_R a, ab_I x1, ab_I x2, ab_I x3, ab_I x4] σ (fun r σ' => ab_Run X 230 63 (2, 0, 0) L (ab_psh r st) σ' Q) := ab_r_callV (w := [ab_I x4, ab_I x3, ab_I x2, ab_I x1]) (as := [ab_I x1, ab_I x2, ab_I x3, ab_I x4]) (b1 := (1, 0, 0)) 0 (Or.inl rfl) (by decide) ko_X13_isRest qM_13_470 (by decide) rfl rfl rfl rfl rfl (by decide) (Nat.le_of_ble_eq_true rfl) kc_X13_isRest dX13_isRest_60
theorem rX13_isRest_63 : ab_Run X 230 63 (2, 0, 0) L (ab_I a :: st) σ Q ↔ (a = 0 → ab_Run X 230 98 (2, 0, 0) L st σ Q) ∧ (¬ (a = 0) → ab_Run X 230 66 (2, 0, 0) L st σ Q) := ab_r_if_eq rfl kc_X13_isRest dX13_isRest_63
theorem rX13_isRest_66 : ab_Run X 230 66 (2, 0, 0) [ab_R z, l1, l2, l3, l4, l5, l6] st σ Q ↔ z ≠ 0 ∧ ab_Run X 230 67 (2, 0, 0) [ab_R z, l1, l2, l3, l4, l5, l6] (ab_R z :: st) σ Q := ab_r_aload_n rfl kc_X13_isRest dX13_isRest_66
theorem rX13_isRest_67 : ab_Run X 230 67 (2, 0, 0) L (ab_R a :: st) σ Q ↔ (ab_sh σ a).1 = 14 ∧ ab_Run X 230 70 (2, 0, 0) L (ab_R (ab_rd σ a 31) :: st) σ Q := gF_13_41 ko_X13_isRest kc_X13_isRest dX13_isRest_67
theorem rX13_isRest_70 : ab_Run X 230 70 (2, 0, 0) L st σ Q ↔ ab_Run X 230 72 (2, 0, 0) L (ab_I 12 :: st) σ Q := ab_r_bipush (by decide) kc_X13_isRest dX13_isRest_70
theorem rX13_isRest_72 : ab_Run X 230 72 (2, 0, 0) [l0, l1, l2, l3, ab_I z, l5, l6] st σ Q ↔ ab_Run X 230 74 (2, 0, 0) [l0, l1, l2, l3, ab_I z, l5, l6] (ab_I z :: st) σ Q := ab_r_iload rfl kc_X13_isRest dX13_isRest_72
theorem rX13_isRest_74 : ab_Run X 230 74 (2, 0, 0) L (ab_I b :: ab_I a :: st) σ Q ↔ ab_Run X 230 75 (2, 0, 0) L (ab_I (ab_w32 (a * b)) :: st) σ Q := ab_r_imul kc_X13_isRest dX13_isRest_74
theorem rX13_isRest_75 : ab_Run X 230 75 (2, 0, 0) [l0, l1, l2, l3, l4, l5, ab_I z] st σ Q ↔ ab_Run X 230 77 (2, 0, 0) [l0, l1, l2, l3, l4, l5, ab_I z] (ab_I z :: st) σ Q := ab_r_iload rfl kc_X13_isRest dX13_isRest_75
theorem rX13_isRest_77 : ab_Run X 230 77 (2, 0, 0) L (ab_I b :: ab_I a :: st) σ Q ↔ ab_Run X 230 78 (2, 0, 0) L (ab_I (ab_w32 (a + b)) :: st) σ Q := ab_r_iadd kc_X13_isRest dX13_isRest_77
theorem rX13_isRest_78 : ab_Run X 230 78 (2, 0, 0) L (ab_I i :: ab_R a :: st) σ Q ↔ ((ab_sh σ a).1 = 22 ∧ 0 ≤ i ∧ i < (ab_sh σ a).2) ∧ ab_Run X 230 79 (2, 0, 0) L (ab_J (ab_rd σ a i) :: st) σ Q := ab_r_laload kc_X13_isRest dX13_isRest_78
theorem rX13_isRest_79 : ab_Run X 230 79 (2, 0, 0) [ab_R z, l1, l2, l3, l4, l5, l6] st σ Q ↔ z ≠ 0 ∧ ab_Run X 230 80 (2, 0, 0) [ab_R z, l1, l2, l3, l4, l5, l6] (ab_R z :: st) σ Q := ab_r_aload_n rfl kc_X13_isRest dX13_isRest_79
theorem rX13_isRest_80 : ab_Run X 230 80 (2, 0, 0) L (ab_R a :: st) σ Q ↔ (ab_sh σ a).1 = 14 ∧ ab_Run X 230 83 (2, 0, 0) L (ab_R (ab_rd σ a 31) :: st) σ Q := gF_13_41 ko_X13_isRest kc_X13_isRest dX13_isRest_80
theorem rX13_isRest_83 : ab_Run X 230 83 (2, 0, 0) L st σ Q ↔ ab_Run X 230 85 (2, 0, 0) L (ab_I 12 :: st) σ Q := ab_r_bipush (by decide) kc_X13_isRest dX13_isRest_83
theorem rX13_isRest_85 : ab_Run X 230 85 (2, 0, 0) [l0, l1, l2, l3, ab_I z, l5, l6] st σ Q ↔ ab_Run X 230 87 (2, 0, 0) [l0, l1, l2, l3, ab_I z, l5, l6] (ab_I z :: st) σ Q := ab_r_iload rfl kc_X13_isRest dX13_isRest_85
theorem rX13_isRest_87 : ab_Run X 230 87 (2, 0, 0) L (ab_I b :: ab_I a :: st) σ Q ↔ ab_Run X 230 88 (2, 0, 0) L (ab_I (ab_w32 (a * b)) :: st) σ Q := ab_r_imul kc_X13_isRest dX13_isRest_87
theorem rX13_isRest_88 : ab_Run X 230 88 (2, 0, 0) [l0, l1, l2, l3, l4, ab_I z, l6] st σ Q ↔ ab_Run X 230 90 (2, 0, 0) [l0, l1, l2, l3, l4, ab_I z, l6] (ab_I z :: st) σ Q := ab_r_iload rfl kc_X13_isRest dX13_isRest_88
theorem rX13_isRest_90 : ab_Run X 230 90 (2, 0, 0) L (ab_I b :: ab_I a :: st) σ Q ↔ ab_Run X 230 91 (2, 0, 0) L (ab_I (ab_w32 (a + b)) :: st) σ Q := ab_r_iadd kc_X13_isRest dX13_isRest_90
theorem rX13_isRest_91 : ab_Run X 230 91 (2, 0, 0) L (ab_I i :: ab_R a :: st) σ Q ↔ ((ab_sh σ a).1 = 22 ∧ 0 ≤ i ∧ i < (ab_sh σ a).2) ∧ ab_Run X 230 92 (2, 0, 0) L (ab_J (ab_rd σ a i) :: st) σ Q := ab_r_laload kc_X13_isRest dX13_isRest_91
theorem rX13_isRest_92 : ab_Run X 230 92 (2, 0, 0) L (ab_J b :: ab_J a :: st) σ Q ↔ ab_Run X 230 93 (2, 0, 0) L (ab_I (if b < a then 1 else if a = b then 0 else -1) :: st) σ Q := ab_r_lcmp kc_X13_isRest dX13_isRest_92
theorem rX13_isRest_93 : ab_Run X 230 93 (2, 0, 0) L (ab_I a :: st) σ Q ↔ (a ≤ 0 → ab_Run X 230 98 (2, 0, 0) L st σ Q) ∧ (¬ (a ≤ 0) → ab_Run X 230 96 (2, 0, 0) L st σ Q) := ab_r_if_le rfl kc_X13_isRest dX13_isRest_93
theorem rX13_isRest_96 : ab_Run X 230 96 (2, 0, 0) L st σ Q ↔ ab_Run X 230 97 (2, 0, 0) L (ab_I 0 :: st) σ Q := ab_r_iconst (by decide) kc_X13_isRest dX13_isRest_96
theorem rX13_isRest_97 : ab_Run X 230 97 (2, 0, 0) L [ab_I v] σ Q ↔ (v = 0 ∨ v = 1) ∧ Q (some (ab_I v)) σ := ab_r_ireturnZ rfl kc_X13_isRest dX13_isRest_97
theorem rX13_isRest_98 : ab_Run X 230 98 (2, 0, 0) [l0, l1, l2, l3, l4, l5, ab_I z] st σ Q ↔ (!ab_isJ l5) = true ∧ ab_Run X 230 101 (2, 0, 0) [l0, l1, l2, l3, l4, l5, ab_I (ab_w32 (z + 1))] st σ Q := ab_r_iinc rfl (by decide) kc_X13_isRest dX13_isRest_98
theorem rX13_isRest_101 : ab_Run X 230 101 (2, 0, 0) L st σ Q ↔ ab_Run X 230 3 (2, 0, 0) L st σ Q := ab_r_goto rfl kc_X13_isRest dX13_isRest_101
theorem rX13_isRest_104 : ab_Run X 230 104 (2, 0, 0) L st σ Q ↔ ab_Run X 230 105 (2, 0, 0) L (ab_I 1 :: st) σ Q := ab_r_iconst (by decide) kc_X13_isRest dX13_isRest_104
theorem rX13_isRest_105 : ab_Run X 230 105 (2, 0, 0) L [ab_I v] σ Q ↔ (v = 0 ∨ v = 1) ∧ Q (some (ab_I v)) σ := ab_r_ireturnZ rfl kc_X13_isRest dX13_isRest_105
theorem kc_X13_told : ab_code 231 = cX13_told := rfl
theorem ko_X13_told : ab_ow 231 = 13 := rfl
theorem rX13_told_0 : ab_Run X 231 0 (0, 0, 0) L st σ Q ↔ ab_Run X 231 2 (0, 0, 0) L (ab_I 10 :: st) σ Q := ab_r_bipush (by decide) kc_X13_told dX13_told_0
theorem rX13_told_2 : ab_Run X 231 2 (0, 0, 0) [ab_I z] st σ Q ↔ ab_Run X 231 3 (0, 0, 0) [ab_I z] (ab_I z :: st) σ Q := ab_r_iload_n rfl kc_X13_told dX13_told_2
theorem rX13_told_3 : ab_Run X 231 3 (0, 0, 0) L st σ Q ↔ ab_Run X 231 4 (0, 0, 0) L (ab_I 2 :: st) σ Q := ab_r_iconst (by decide) kc_X13_told dX13_told_3
theorem rX13_told_4 : ab_Run X 231 4 (0, 0, 0) L (ab_I b :: ab_I a :: st) σ Q ↔ b ≠ 0 ∧ ab_Run X 231 5 (0, 0, 0) L (ab_I (ab_w32 (a.tdiv b)) :: st) σ Q := ab_r_idiv kc_X13_told dX13_told_4
theorem rX13_told_5 : ab_Run X 231 5 (0, 0, 0) L st σ Q ↔ ab_Run X 231 6 (0, 0, 0) L (ab_I 1 :: st) σ Q := ab_r_iconst (by decide) kc_X13_told dX13_told_5
theorem rX13_told_6 : ab_Run X 231 6 (0, 0, 0) L (ab_I b :: ab_I a :: st) σ Q ↔ ab_Run X 231 7 (0, 0, 0) L (ab_I (ab_w32 (a + b)) :: st) σ Q := ab_r_iadd kc_X13_told dX13_told_6
theorem rX13_told_7 : ab_Run X 231 7 (0, 0, 0) L (ab_I b :: ab_I a :: st) σ Q ↔ ab_Run X 231 8 (0, 0, 0) L (ab_I (ab_w32 (a * b)) :: st) σ Q := ab_r_imul kc_X13_told dX13_told_7
theorem rX13_told_8 : ab_Run X 231 8 (0, 0, 0) [ab_I z] st σ Q ↔ ab_Run X 231 9 (0, 0, 0) [ab_I z] (ab_I z :: st) σ Q := ab_r_iload_n rfl kc_X13_told dX13_told_8
theorem rX13_told_9 : ab_Run X 231 9 (0, 0, 0) L st σ Q ↔ ab_Run X 231 10 (0, 0, 0) L (ab_I 2 :: st) σ Q := ab_r_iconst (by decide) kc_X13_told dX13_told_9
theorem rX13_told_10 : ab_Run X 231 10 (0, 0, 0) L (ab_I b :: ab_I a :: st) σ Q ↔ b ≠ 0 ∧ ab_Run X 231 11 (0, 0, 0) L (ab_I (a.tmod b) :: st) σ Q := ab_r_irem kc_X13_told dX13_told_10
theorem rX13_told_11 : ab_Run X 231 11 (0, 0, 0) L (ab_I b :: ab_I a :: st) σ Q ↔ ab_Run X 231 12 (0, 0, 0) L (ab_I (ab_w32 (a + b)) :: st) σ Q := ab_r_iadd kc_X13_told dX13_told_11
theorem rX13_told_12 : ab_Run X 231 12 (0, 0, 0) L [ab_I v] σ Q ↔ Q (some (ab_I v)) σ := ab_r_ireturnI rfl kc_X13_told dX13_told_12
theorem kc_X13_best : ab_code 232 = cX13_best := rfl
theorem ko_X13_best : ab_ow 232 = 13 := rfl
theorem rX13_best_0 : ab_Run X 232 0 (6, 0, 0) [ab_R z, l1, l2, l3, l4, l5, l6, l7, l8, l9, l10] st σ Q ↔ z ≠ 0 ∧ ab_Run X 232 1 (6, 0, 0) [ab_R z, l1, l2, l3, l4, l5, l6, l7, l8, l9, l10] (ab_R z :: st) σ Q := ab_r_aload_n rfl kc_X13_best dX13_best_0
theorem rX13_best_1 : ab_Run X 232 1 (6, 0, 0) L st σ Q ↔ ab_Run X 232 2 (6, 0, 0) L (ab_I 0 :: st) σ Q := ab_r_iconst (by decide) kc_X13_best dX13_best_1
theorem rX13_best_2 : ab_Run X 232 2 (6, 0, 0) L (ab_I z :: ab_R a :: st) σ Q ↔ (ab_sh σ a).1 = 14 ∧ ab_Run X 232 5 (6, 0, 0) L st (ab_wr σ a 0 z) Q := sF_13_53 ko_X13_best kc_X13_best dX13_best_2
theorem rX13_best_5 : ab_Run X 232 5 (6, 0, 0) [ab_R z, l1, l2, l3, l4, l5, l6, l7, l8, l9, l10] st σ Q ↔ z ≠ 0 ∧ ab_Run X 232 6 (6, 0, 0) [ab_R z, l1, l2, l3, l4, l5, l6, l7, l8, l9, l10] (ab_R z :: st) σ Q := ab_r_aload_n rfl kc_X13_best dX13_best_5
theorem rX13_best_6 : ab_Run X 232 6 (6, 0, 0) [l0, ab_I z, l2, l3, l4, l5, l6, l7, l8, l9, l10] st σ Q ↔ ab_Run X 232 7 (6, 0, 0) [l0, ab_I z, l2, l3, l4, l5, l6, l7, l8, l9, l10] (ab_I z :: st) σ Q := ab_r_iload_n rfl kc_X13_best dX13_best_6
theorem rX13_best_7 : ab_Run X 232 7 (6, 0, 0) L (ab_I x1 :: ab_R a :: st) σ Q ↔ ((ab_sh σ a).1 = 14 ∧ ab_cats st ≤ 8) ∧ ab_Do X 212 [ab_R a, ab_I x1] σ (fun r σ' => ab_Run X 232 10 (6, 0, 0) L (ab_psh r st) σ' Q) := ab_r_callV (w := [ab_I x1]) (as := [ab_I x1]) (b1 := (0, 0, 0)) 0 (Or.inl rfl) (by decide) ko_X13_best qM_13_444 (by decide) rfl rfl rfl rfl rfl (by decide) (Nat.le_of_ble_eq_true rfl) kc_X13_best dX13_best_7
theorem rX13_best_10 : ab_Run X 232 10 (6, 0, 0) L (ab_I a :: st) σ Q ↔ (a = 0 → ab_Run X 232 22 (6, 0, 0) L st σ Q) ∧ (¬ (a = 0) → ab_Run X 232 13 (6, 0, 0) L st σ Q) := ab_r_if_eq rfl kc_X13_best dX13_best_10
theorem rX13_best_13 : ab_Run X 232 13 (6, 0, 0) [ab_R z, l1, l2, l3, l4, l5, l6, l7, l8, l9, l10] st σ Q ↔ z ≠ 0 ∧ ab_Run X 232 14 (6, 0, 0) [ab_R z, l1, l2, l3, l4, l5, l6, l7, l8, l9, l10] (ab_R z :: st) σ Q := ab_r_aload_n rfl kc_X13_best dX13_best_13
theorem rX13_best_14 : ab_Run X 232 14 (6, 0, 0) [l0, l1, ab_I z, l3, l4, l5, l6, l7, l8, l9, l10] st σ Q ↔ ab_Run X 232 15 (6, 0, 0) [l0, l1, ab_I z, l3, l4, l5, l6, l7, l8, l9, l10] (ab_I z :: st) σ Q := ab_r_iload_n rfl kc_X13_best dX13_best_14
theorem rX13_best_15 : ab_Run X 232 15 (6, 0, 0) [l0, l1, l2, ab_I z, l4, l5, l6, l7, l8, l9, l10] st σ Q ↔ ab_Run X 232 16 (6, 0, 0) [l0, l1, l2, ab_I z, l4, l5, l6, l7, l8, l9, l10] (ab_I z :: st) σ Q := ab_r_iload_n rfl kc_X13_best dX13_best_15
theorem rX13_best_16 : ab_Run X 232 16 (6, 0, 0) L (ab_I x2 :: ab_I x1 :: ab_R a :: st) σ Q ↔ ((ab_sh σ a).1 = 14 ∧ ab_cats st ≤ 8) ∧ ab_Do X 214 [ab_R a, ab_I x1, ab_I x2] σ (fun r σ' => ab_Run X 232 19 (6, 0, 0) L (ab_psh r st) σ' Q) := ab_r_callV (w := [ab_I x2, ab_I x1]) (as := [ab_I x1, ab_I x2]) (b1 := (1, 0, 0)) 0 (Or.inl rfl) (by decide) ko_X13_best qM_13_455 (by decide) rfl rfl rfl rfl rfl (by decide) (Nat.le_of_ble_eq_true rfl) kc_X13_best dX13_best_16
theorem rX13_best_19 : ab_Run X 232 19 (6, 0, 0) L (ab_I a :: st) σ Q ↔ (¬ a = 0 → ab_Run X 232 28 (6, 0, 0) L st σ Q) ∧ (¬ (¬ a = 0) → ab_Run X 232 22 (6, 0, 0) L st σ Q) := ab_r_if_ne rfl kc_X13_best dX13_best_19
theorem rX13_best_22 : ab_Run X 232 22 (6, 0, 0) [ab_R z, l1, l2, l3, l4, l5, l6, l7, l8, l9, l10] st σ Q ↔ z ≠ 0 ∧ ab_Run X 232 23 (6, 0, 0) [ab_R z, l1, l2, l3, l4, l5, l6, l7, l8, l9, l10] (ab_R z :: st) σ Q := ab_r_aload_n rfl kc_X13_best dX13_best_22
theorem rX13_best_23 : ab_Run X 232 23 (6, 0, 0) L st σ Q ↔ ab_Run X 232 24 (6, 0, 0) L (ab_I 1 :: st) σ Q := ab_r_iconst (by decide) kc_X13_best dX13_best_23
theorem rX13_best_24 : ab_Run X 232 24 (6, 0, 0) L (ab_I x1 :: ab_R a :: st) σ Q ↔ ((ab_sh σ a).1 = 14 ∧ ab_cats st ≤ 8) ∧ ab_Do X 159 [ab_R a, ab_I x1] σ (fun r σ' => ab_Run X 232 27 (6, 0, 0) L (ab_psh r st) σ' Q) := ab_r_callV (w := [ab_I x1]) (as := [ab_I x1]) (b1 := (0, 0, 0)) 0 (Or.inl rfl) (by decide) ko_X13_best qM_13_59 (by decide) rfl rfl rfl rfl rfl (by decide) (Nat.le_of_ble_eq_true rfl) kc_X13_best dX13_best_24
theorem rX13_best_27 : ab_Run X 232 27 (6, 0, 0) L [ab_I v] σ Q ↔ Q (some (ab_I v)) σ := ab_r_ireturnI rfl kc_X13_best dX13_best_27
theorem rX13_best_28 : ab_Run X 232 28 (6, 0, 0) [l0, l1, l2, l3, ab_I z, l5, l6, l7, l8, l9, l10] st σ Q ↔ ab_Run X 232 30 (6, 0, 0) [l0, l1, l2, l3, ab_I z, l5, l6, l7, l8, l9, l10] (ab_I z :: st) σ Q := ab_r_iload rfl kc_X13_best dX13_best_28
theorem rX13_best_30 : ab_Run X 232 30 (6, 0, 0) L st σ Q ↔ ab_Run X 232 31 (6, 0, 0) L (ab_I 1 :: st) σ Q := ab_r_iconst (by decide) kc_X13_best dX13_best_30
theorem rX13_best_31 : ab_Run X 232 31 (6, 0, 0) [ab_R z, l1, l2, l3, l4, l5, l6, l7, l8, l9, l10] st σ Q ↔ z ≠ 0 ∧ ab_Run X 232 32 (6, 0, 0) [ab_R z, l1, l2, l3, l4, l5, l6, l7, l8, l9, l10] (ab_R z :: st) σ Q := ab_r_aload_n rfl kc_X13_best dX13_best_31
theorem rX13_best_32 : ab_Run X 232 32 (6, 0, 0) L (ab_R a :: st) σ Q ↔ (ab_sh σ a).1 = 14 ∧ ab_Run X 232 35 (6, 0, 0) L (ab_R (ab_rd σ a 3) :: st) σ Q := gF_13_373 ko_X13_best kc_X13_best dX13_best_32
theorem rX13_best_35 : ab_Run X 232 35 (6, 0, 0) [l0, ab_I z, l2, l3, l4, l5, l6, l7, l8, l9, l10] st σ Q ↔ ab_Run X 232 36 (6, 0, 0) [l0, ab_I z, l2, l3, l4, l5, l6, l7, l8, l9, l10] (ab_I z :: st) σ Q := ab_r_iload_n rfl kc_X13_best dX13_best_35
theorem rX13_best_36 : ab_Run X 232 36 (6, 0, 0) L st σ Q ↔ ab_Run X 232 37 (6, 0, 0) L (ab_I 1 :: st) σ Q := ab_r_iconst (by decide) kc_X13_best dX13_best_36
theorem rX13_best_37 : ab_Run X 232 37 (6, 0, 0) L (ab_I x2 :: ab_I x1 :: ab_R a :: st) σ Q ↔ ((ab_sh σ a).1 = 13 ∧ ab_cats st ≤ 8) ∧ ab_Do X 154 [ab_R a, ab_I x1, ab_I x2] σ (fun r σ' => ab_Run X 232 40 (6, 0, 0) L (ab_psh r st) σ' Q) := ab_r_callV (w := [ab_I x2, ab_I x1]) (as := [ab_I x1, ab_I x2]) (b1 := (0, 0, 0)) 0 (Or.inl rfl) (by decide) ko_X13_best qM_13_406 (by decide) rfl rfl rfl rfl rfl (by decide) (Nat.le_of_ble_eq_true rfl) kc_X13_best dX13_best_37
theorem rX13_best_40 : ab_Run X 232 40 (6, 0, 0) L (ab_I x3 :: ab_I x2 :: ab_I x1 :: st) σ Q ↔ ab_cats st ≤ 8 ∧ ab_Do X 163 [ab_I x1, ab_I x2, ab_I x3] σ (fun r σ' => ab_Run X 232 43 (6, 0, 0) L (ab_psh r st) σ' Q) := ab_r_callS (w := [ab_I x3, ab_I x2, ab_I x1]) (as := [ab_I x1, ab_I x2, ab_I x3]) (b1 := (0, 0, 0)) (by decide) ko_X13_best qM_13_138 (by decide) rfl rfl rfl rfl (by decide) (Nat.le_of_ble_eq_true rfl) kc_X13_best dX13_best_40
theorem rX13_best_43 : ab_Run X 232 43 (6, 0, 0) L (ab_I a :: st) σ Q ↔ (¬ a = 0 → ab_Run X 232 52 (6, 0, 0) L st σ Q) ∧ (¬ (¬ a = 0) → ab_Run X 232 46 (6, 0, 0) L st σ Q) := ab_r_if_ne rfl kc_X13_best dX13_best_43
theorem rX13_best_46 : ab_Run X 232 46 (6, 0, 0) [ab_R z, l1, l2, l3, l4, l5, l6, l7, l8, l9, l10] st σ Q ↔ z ≠ 0 ∧ ab_Run X 232 47 (6, 0, 0) [ab_R z, l1, l2, l3, l4, l5, l6, l7, l8, l9, l10] (ab_R z :: st) σ Q := ab_r_aload_n rfl kc_X13_best dX13_best_46
theorem rX13_best_47 : ab_Run X 232 47 (6, 0, 0) L st σ Q ↔ ab_Run X 232 48 (6, 0, 0) L (ab_I 2 :: st) σ Q := ab_r_iconst (by decide) kc_X13_best dX13_best_47
theorem rX13_best_48 : ab_Run X 232 48 (6, 0, 0) L (ab_I x1 :: ab_R a :: st) σ Q ↔ ((ab_sh σ a).1 = 14 ∧ ab_cats st ≤ 8) ∧ ab_Do X 159 [ab_R a, ab_I x1] σ (fun r σ' => ab_Run X 232 51 (6, 0, 0) L (ab_psh r st) σ' Q) := ab_r_callV (w := [ab_I x1]) (as := [ab_I x1]) (b1 := (0, 0, 0)) 0 (Or.inl rfl) (by decide) ko_X13_best qM_13_59 (by decide) rfl rfl rfl rfl rfl (by decide) (Nat.le_of_ble_eq_true rfl) kc_X13_best dX13_best_48
theorem rX13_best_51 : ab_Run X 232 51 (6, 0, 0) L [ab_I v] σ Q ↔ Q (some (ab_I v)) σ := ab_r_ireturnI rfl kc_X13_best dX13_best_51
theorem rX13_best_52 : ab_Run X 232 52 (6, 0, 0) L st σ Q ↔ ab_Run X 232 53 (6, 0, 0) L (ab_I (-1) :: st) σ Q := ab_r_iconst (by decide) kc_X13_best dX13_best_52
theorem rX13_best_53 : ab_Run X 232 53 (6, 0, 0) [l0, l1, l2, l3, l4, l5, l6, l7, l8, l9, l10] (ab_I z :: st) σ Q ↔ (!ab_isJ l4) = true ∧ ab_Run X 232 55 (6, 0, 0) [l0, l1, l2, l3, l4, ab_I z, l6, l7, l8, l9, l10] st σ Q := ab_r_istore (Nat.le_of_ble_eq_true rfl) kc_X13_best dX13_best_53
theorem rX13_best_55 : ab_Run X 232 55 (6, 0, 0) L st σ Q ↔ ab_Run X 232 56 (6, 0, 0) L (ab_J 0 :: st) σ Q := ab_r_lconst kc_X13_best dX13_best_55
theorem rX13_best_56 : ab_Run X 232 56 (6, 0, 0) [l0, l1, l2, l3, l4, l5, l6, l7, l8, l9, l10] (ab_J z :: st) σ Q ↔ (!ab_isJ l5) = true ∧ ab_Run X 232 58 (6, 0, 0) [l0, l1, l2, l3, l4, l5, ab_J z, ab_R 0, l8, l9, l10] st σ Q := ab_r_lstore (Nat.le_of_ble_eq_true rfl) kc_X13_best dX13_best_56
theorem rX13_best_58 : ab_Run X 232 58 (6, 0, 0) L st σ Q ↔ ab_Run X 232 59 (6, 0, 0) L (ab_I 0 :: st) σ Q := ab_r_iconst (by decide) kc_X13_best dX13_best_58
theorem rX13_best_59 : ab_Run X 232 59 (6, 0, 0) [l0, l1, l2, l3, l4, l5, l6, l7, l8, l9, l10] (ab_I z :: st) σ Q ↔ (!ab_isJ l7) = true ∧ ab_Run X 232 61 (6, 0, 0) [l0, l1, l2, l3, l4, l5, l6, l7, ab_I z, l9, l10] st σ Q := ab_r_istore (Nat.le_of_ble_eq_true rfl) kc_X13_best dX13_best_59
theorem rX13_best_61 : ab_Run X 232 61 (6, 0, 0) [l0, l1, l2, l3, l4, l5, l6, l7, ab_I z, l9, l10] st σ Q ↔ ab_Run X 232 63 (6, 0, 0) [l0, l1, l2, l3, l4, l5, l6, l7, ab_I z, l9, l10] (ab_I z :: st) σ Q := ab_r_iload rfl kc_X13_best dX13_best_61
theorem rX13_best_63 : ab_Run X 232 63 (6, 0, 0) L st σ Q ↔ ab_Run X 232 65 (6, 0, 0) L (ab_I 12 :: st) σ Q := ab_r_bipush (by decide) kc_X13_best dX13_best_63
theorem rX13_best_65 : ab_Run X 232 65 (6, 0, 0) L (ab_I b :: ab_I a :: st) σ Q ↔ (b ≤ a → ab_Run X 232 149 (6, 0, 0) L st σ Q) ∧ (¬ (b ≤ a) → ab_Run X 232 68 (6, 0, 0) L st σ Q) := ab_r_icmp_ge rfl kc_X13_best dX13_best_65
theorem rX13_best_68 : ab_Run X 232 68 (6, 0, 0) [ab_R z, l1, l2, l3, l4, l5, l6, l7, l8, l9, l10] st σ Q ↔ z ≠ 0 ∧ ab_Run X 232 69 (6, 0, 0) [ab_R z, l1, l2, l3, l4, l5, l6, l7, l8, l9, l10] (ab_R z :: st) σ Q := ab_r_aload_n rfl kc_X13_best dX13_best_68
theorem rX13_best_69 : ab_Run X 232 69 (6, 0, 0) [l0, l1, ab_I z, l3, l4, l5, l6, l7, l8, l9, l10] st σ Q ↔ ab_Run X 232 70 (6, 0, 0) [l0, l1, ab_I z, l3, l4, l5, l6, l7, l8, l9, l10] (ab_I z :: st) σ Q := ab_r_iload_n rfl kc_X13_best dX13_best_69
theorem rX13_best_70 : ab_Run X 232 70 (6, 0, 0) [l0, ab_I z, l2, l3, l4, l5, l6, l7, l8, l9, l10] st σ Q ↔ ab_Run X 232 71 (6, 0, 0) [l0, ab_I z, l2, l3, l4, l5, l6, l7, l8, l9, l10] (ab_I z :: st) σ Q := ab_r_iload_n rfl kc_X13_best dX13_best_70
theorem rX13_best_71 : ab_Run X 232 71 (6, 0, 0) L st σ Q ↔ ab_Run X 232 72 (6, 0, 0) L (ab_I 0 :: st) σ Q := ab_r_iconst (by decide) kc_X13_best dX13_best_71
theorem rX13_best_72 : ab_Run X 232 72 (6, 0, 0) [l0, l1, l2, l3, l4, l5, l6, l7, ab_I z, l9, l10] st σ Q ↔ ab_Run X 232 74 (6, 0, 0) [l0, l1, l2, l3, l4, l5, l6, l7, ab_I z, l9, l10] (ab_I z :: st) σ Q := ab_r_iload rfl kc_X13_best dX13_best_72
theorem rX13_best_74 : ab_Run X 232 74 (6, 0, 0) L (ab_I x4 :: ab_I x3 :: ab_I x2 :: ab_I x1 :: ab_R a :: st) σ Q ↔ ((ab_sh σ a).1 = 14 ∧ ab_cats st ≤ 8) ∧ ab_Do X 228 [ab_R a, ab_I x1, ab_I x2, ab_I x3, ab_I x4] σ (fun r σ' => ab_Run X 232 77 (6, 0, 0) L (ab_psh r st) σ' Q) := ab_r_callV (w := [ab_I x4, ab_I x3, ab_I x2, ab_I x1]) (as := [ab_I x1, ab_I x2, ab_I x3, ab_I x4]) (b1 := (1, 0, 0)) 0 (Or.inl rfl) (by decide) ko_X13_best qM_13_470 (by decide) rfl rfl rfl rfl rfl (by decide) (Nat.le_of_ble_eq_true rfl) kc_X13_best dX13_best_74
theorem rX13_best_77 : ab_Run X 232 77 (6, 0, 0) L (ab_I a :: st) σ Q ↔ (¬ a = 0 → ab_Run X 232 83 (6, 0, 0) L st σ Q) ∧ (¬ (¬ a = 0) → ab_Run X 232 80 (6, 0, 0) L st σ Q) := ab_r_if_ne rfl kc_X13_best dX13_best_77
theorem rX13_best_80 : ab_Run X 232 80 (6, 0, 0) L st σ Q ↔ ab_Run X 232 143 (6, 0, 0) L st σ Q := ab_r_goto rfl kc_X13_best dX13_best_80
theorem rX13_best_83 : ab_Run X 232 83 (6, 0, 0) [ab_R z, l1, l2, l3, l4, l5, l6, l7, l8, l9, l10] st σ Q ↔ z ≠ 0 ∧ ab_Run X 232 84 (6, 0, 0) [ab_R z, l1, l2, l3, l4, l5, l6, l7, l8, l9, l10] (ab_R z :: st) σ Q := ab_r_aload_n rfl kc_X13_best dX13_best_83
theorem rX13_best_84 : ab_Run X 232 84 (6, 0, 0) [l0, ab_I z, l2, l3, l4, l5, l6, l7, l8, l9, l10] st σ Q ↔ ab_Run X 232 85 (6, 0, 0) [l0, ab_I z, l2, l3, l4, l5, l6, l7, l8, l9, l10] (ab_I z :: st) σ Q := ab_r_iload_n rfl kc_X13_best dX13_best_84
theorem rX13_best_85 : ab_Run X 232 85 (6, 0, 0) [l0, l1, ab_I z, l3, l4, l5, l6, l7, l8, l9, l10] st σ Q ↔ ab_Run X 232 86 (6, 0, 0) [l0, l1, ab_I z, l3, l4, l5, l6, l7, l8, l9, l10] (ab_I z :: st) σ Q := ab_r_iload_n rfl kc_X13_best dX13_best_85
theorem rX13_best_86 : ab_Run X 232 86 (6, 0, 0) [l0, l1, l2, l3, l4, l5, l6, l7, ab_I z, l9, l10] st σ Q ↔ ab_Run X 232 88 (6, 0, 0) [l0, l1, l2, l3, l4, l5, l6, l7, ab_I z, l9, l10] (ab_I z :: st) σ Q := ab_r_iload rfl kc_X13_best dX13_best_86
theorem rX13_best_88 : ab_Run X 232 88 (6, 0, 0) L st σ Q ↔ ab_Run X 232 89 (6, 0, 0) L (ab_I 2 :: st) σ Q := ab_r_iconst (by decide) kc_X13_best dX13_best_88
theorem rX13_best_89 : ab_Run X 232 89 (6, 0, 0) L (ab_I b :: ab_I a :: st) σ Q ↔ b ≠ 0 ∧ ab_Run X 232 90 (6, 0, 0) L (ab_I (ab_w32 (a.tdiv b)) :: st) σ Q := ab_r_idiv kc_X13_best dX13_best_89
theorem rX13_best_90 : ab_Run X 232 90 (6, 0, 0) L st σ Q ↔ ab_Run X 232 91 (6, 0, 0) L (ab_I 1 :: st) σ Q := ab_r_iconst (by decide) kc_X13_best dX13_best_90
theorem rX13_best_91 : ab_Run X 232 91 (6, 0, 0) L (ab_I b :: ab_I a :: st) σ Q ↔ ab_Run X 232 92 (6, 0, 0) L (ab_I (ab_w32 (a + b)) :: st) σ Q := ab_r_iadd kc_X13_best dX13_best_91
theorem rX13_best_92 : ab_Run X 232 92 (6, 0, 0) [l0, l1, l2, ab_I z, l4, l5, l6, l7, l8, l9, l10] st σ Q ↔ ab_Run X 232 93 (6, 0, 0) [l0, l1, l2, ab_I z, l4, l5, l6, l7, l8, l9, l10] (ab_I z :: st) σ Q := ab_r_iload_n rfl kc_X13_best dX13_best_92
theorem rX13_best_93 : ab_Run X 232 93 (6, 0, 0) [l0, l1, l2, l3, ab_I z, l5, l6, l7, l8, l9, l10] st σ Q ↔ ab_Run X 232 95 (6, 0, 0) [l0, l1, l2, l3, ab_I z, l5, l6, l7, l8, l9, l10] (ab_I z :: st) σ Q := ab_r_iload rfl kc_X13_best dX13_best_93
theorem rX13_best_95 : ab_Run X 232 95 (6, 0, 0) [l0, l1, l2, l3, l4, l5, l6, l7, ab_I z, l9, l10] st σ Q ↔ ab_Run X 232 97 (6, 0, 0) [l0, l1, l2, l3, l4, l5, l6, l7, ab_I z, l9, l10] (ab_I z :: st) σ Q := ab_r_iload rfl kc_X13_best dX13_best_95
theorem rX13_best_97 : ab_Run X 232 97 (6, 0, 0) L st σ Q ↔ ab_Run X 232 98 (6, 0, 0) L (ab_I 2 :: st) σ Q := ab_r_iconst (by decide) kc_X13_best dX13_best_97
theorem rX13_best_98 : ab_Run X 232 98 (6, 0, 0) L (ab_I b :: ab_I a :: st) σ Q ↔ b ≠ 0 ∧ ab_Run X 232 99 (6, 0, 0) L (ab_I (a.tmod b) :: st) σ Q := ab_r_irem kc_X13_best dX13_best_98
theorem rX13_best_99 : ab_Run X 232 99 (6, 0, 0) L st σ Q ↔ ab_Run X 232 100 (6, 0, 0) L (ab_I 1 :: st) σ Q := ab_r_iconst (by decide) kc_X13_best dX13_best_99
theorem rX13_best_100 : ab_Run X 232 100 (6, 0, 0) L (ab_I b :: ab_I a :: st) σ Q ↔ (¬ a = b → ab_Run X 232 107 (6, 0, 0) L st σ Q) ∧ (¬ (¬ a = b) → ab_Run X 232 103 (6, 0, 0) L st σ Q) := ab_r_icmp_ne rfl kc_X13_best dX13_best_100
theorem rX13_best_103 : ab_Run X 232 103 (6, 0, 0) L st σ Q ↔ ab_Run X 232 104 (6, 0, 0) L (ab_I 0 :: st) σ Q := ab_r_iconst (by decide) kc_X13_best dX13_best_103
theorem rX13_best_104 : ab_Run X 232 104 (6, 0, 0) L st σ Q ↔ ab_Run X 232 108 (6, 0, 0) L st σ Q := ab_r_goto rfl kc_X13_best dX13_best_104
theorem rX13_best_107 : ab_Run X 232 107 (6, 0, 0) L st σ Q ↔ ab_Run X 232 108 (6, 0, 0) L (ab_I 2 :: st) σ Q := ab_r_iconst (by decide) kc_X13_best dX13_best_107
theorem rX13_best_108 : ab_Run X 232 108 (6, 0, 0) L (ab_I x6 :: ab_I x5 :: ab_I x4 :: ab_I x3 :: ab_I x2 :: ab_I x1 :: ab_R a :: st) σ Q ↔ ((ab_sh σ a).1 = 14 ∧ ab_cats st ≤ 8) ∧ ab_Do X 202 [ab_R a, ab_I x1, ab_I x2, ab_I x3, ab_I x4, ab_I x5, ab_I x6] σ (fun r σ' => ab_Run X 232 111 (6, 0, 0) L (ab_psh r st) σ' Q) := ab_r_callV (w := [ab_I x6, ab_I x5, ab_I x4, ab_I x3, ab_I x2, ab_I x1]) (as := [ab_I x1, ab_I x2, ab_I x3, ab_I x4, ab_I x5, ab_I x6]) (b1 := (1, 0, 0)) 0 (Or.inl rfl) (by decide) ko_X13_best qM_13_396 (by decide) rfl rfl rfl rfl rfl (by decide) (Nat.le_of_ble_eq_true rfl) kc_X13_best dX13_best_108
theorem rX13_best_111 : ab_Run X 232 111 (6, 0, 0) [ab_R z, l1, l2, l3, l4, l5, l6, l7, l8, l9, l10] st σ Q ↔ z ≠ 0 ∧ ab_Run X 232 112 (6, 0, 0) [ab_R z, l1, l2, l3, l4, l5, l6, l7, l8, l9, l10] (ab_R z :: st) σ Q := ab_r_aload_n rfl kc_X13_best dX13_best_111
theorem rX13_best_112 : ab_Run X 232 112 (6, 0, 0) L st σ Q ↔ ab_Run X 232 113 (6, 0, 0) L (ab_I 0 :: st) σ Q := ab_r_iconst (by decide) kc_X13_best dX13_best_112
theorem rX13_best_113 : ab_Run X 232 113 (6, 0, 0) L (ab_I x1 :: ab_R a :: st) σ Q ↔ ((ab_sh σ a).1 = 14 ∧ ab_cats st ≤ 8) ∧ ab_Do X 211 [ab_R a, ab_I x1] σ (fun r σ' => ab_Run X 232 116 (6, 0, 0) L (ab_psh r st) σ' Q) := ab_r_callV (w := [ab_I x1]) (as := [ab_I x1]) (b1 := (5, 0, 0)) 0 (Or.inl rfl) (by decide) ko_X13_best qM_13_462 (by decide) rfl rfl rfl rfl rfl (by decide) (Nat.le_of_ble_eq_true rfl) kc_X13_best dX13_best_113
theorem rX13_best_116 : ab_Run X 232 116 (6, 0, 0) [l0, l1, l2, l3, l4, l5, l6, l7, l8, l9, l10] (ab_J z :: st) σ Q ↔ (!ab_isJ l8) = true ∧ ab_Run X 232 118 (6, 0, 0) [l0, l1, l2, l3, l4, l5, l6, l7, l8, ab_J z, ab_R 0] st σ Q := ab_r_lstore (Nat.le_of_ble_eq_true rfl) kc_X13_best dX13_best_116
theorem rX13_best_118 : ab_Run X 232 118 (6, 0, 0) [l0, l1, l2, l3, l4, ab_I z, l6, l7, l8, l9, l10] st σ Q ↔ ab_Run X 232 120 (6, 0, 0) [l0, l1, l2, l3, l4, ab_I z, l6, l7, l8, l9, l10] (ab_I z :: st) σ Q := ab_r_iload rfl kc_X13_best dX13_best_118
theorem rX13_best_120 : ab_Run X 232 120 (6, 0, 0) L st σ Q ↔ ab_Run X 232 121 (6, 0, 0) L (ab_I (-1) :: st) σ Q := ab_r_iconst (by decide) kc_X13_best dX13_best_120
theorem rX13_best_121 : ab_Run X 232 121 (6, 0, 0) L (ab_I b :: ab_I a :: st) σ Q ↔ (a = b → ab_Run X 232 135 (6, 0, 0) L st σ Q) ∧ (¬ (a = b) → ab_Run X 232 124 (6, 0, 0) L st σ Q) := ab_r_icmp_eq rfl kc_X13_best dX13_best_121
theorem rX13_best_124 : ab_Run X 232 124 (6, 0, 0) [l0, l1, l2, l3, l4, l5, l6, l7, l8, ab_J z, l10] st σ Q ↔ ab_Run X 232 126 (6, 0, 0) [l0, l1, l2, l3, l4, l5, l6, l7, l8, ab_J z, l10] (ab_J z :: st) σ Q := ab_r_lload rfl kc_X13_best dX13_best_124
theorem rX13_best_126 : ab_Run X 232 126 (6, 0, 0) [l0, l1, l2, l3, l4, l5, ab_J z, l7, l8, l9, l10] st σ Q ↔ ab_Run X 232 128 (6, 0, 0) [l0, l1, l2, l3, l4, l5, ab_J z, l7, l8, l9, l10] (ab_J z :: st) σ Q := ab_r_lload rfl kc_X13_best dX13_best_126
theorem rX13_best_128 : ab_Run X 232 128 (6, 0, 0) L (ab_J b :: ab_J a :: st) σ Q ↔ ab_Run X 232 129 (6, 0, 0) L (ab_I (if b < a then 1 else if a = b then 0 else -1) :: st) σ Q := ab_r_lcmp kc_X13_best dX13_best_128
theorem rX13_best_129 : ab_Run X 232 129 (6, 0, 0) L (ab_I a :: st) σ Q ↔ (0 < a → ab_Run X 232 135 (6, 0, 0) L st σ Q) ∧ (¬ (0 < a) → ab_Run X 232 132 (6, 0, 0) L st σ Q) := ab_r_if_gt rfl kc_X13_best dX13_best_129
theorem rX13_best_132 : ab_Run X 232 132 (6, 0, 0) L st σ Q ↔ ab_Run X 232 143 (6, 0, 0) L st σ Q := ab_r_goto rfl kc_X13_best dX13_best_132
theorem rX13_best_135 : ab_Run X 232 135 (6, 0, 0) [l0, l1, l2, l3, l4, l5, l6, l7, ab_I z, l9, l10] st σ Q ↔ ab_Run X 232 137 (6, 0, 0) [l0, l1, l2, l3, l4, l5, l6, l7, ab_I z, l9, l10] (ab_I z :: st) σ Q := ab_r_iload rfl kc_X13_best dX13_best_135
theorem rX13_best_137 : ab_Run X 232 137 (6, 0, 0) [l0, l1, l2, l3, l4, l5, l6, l7, l8, l9, l10] (ab_I z :: st) σ Q ↔ (!ab_isJ l4) = true ∧ ab_Run X 232 139 (6, 0, 0) [l0, l1, l2, l3, l4, ab_I z, l6, l7, l8, l9, l10] st σ Q := ab_r_istore (Nat.le_of_ble_eq_true rfl) kc_X13_best dX13_best_137
theorem rX13_best_139 : ab_Run X 232 139 (6, 0, 0) [l0, l1, l2, l3, l4, l5, l6, l7, l8, ab_J z, l10] st σ Q ↔ ab_Run X 232 141 (6, 0, 0) [l0, l1, l2, l3, l4, l5, l6, l7, l8, ab_J z, l10] (ab_J z :: st) σ Q := ab_r_lload rfl kc_X13_best dX13_best_139
theorem rX13_best_141 : ab_Run X 232 141 (6, 0, 0) [l0, l1, l2, l3, l4, l5, l6, l7, l8, l9, l10] (ab_J z :: st) σ Q ↔ (!ab_isJ l5) = true ∧ ab_Run X 232 143 (6, 0, 0) [l0, l1, l2, l3, l4, l5, ab_J z, ab_R 0, l8, l9, l10] st σ Q := ab_r_lstore (Nat.le_of_ble_eq_true rfl) kc_X13_best dX13_best_141
theorem rX13_best_143 : ab_Run X 232 143 (6, 0, 0) [l0, l1, l2, l3, l4, l5, l6, l7, ab_I z, l9, l10] st σ Q ↔ (!ab_isJ l7) = true ∧ ab_Run X 232 146 (6, 0, 0) [l0, l1, l2, l3, l4, l5, l6, l7, ab_I (ab_w32 (z + 1)), l9, l10] st σ Q := ab_r_iinc rfl (by decide) kc_X13_best dX13_best_143
theorem rX13_best_146 : ab_Run X 232 146 (6, 0, 0) L st σ Q ↔ ab_Run X 232 61 (6, 0, 0) L st σ Q := ab_r_goto rfl kc_X13_best dX13_best_146
theorem rX13_best_149 : ab_Run X 232 149 (6, 0, 0) [ab_R z, l1, l2, l3, l4, l5, l6, l7, l8, l9, l10] st σ Q ↔ z ≠ 0 ∧ ab_Run X 232 150 (6, 0, 0) [ab_R z, l1, l2, l3, l4, l5, l6, l7, l8, l9, l10] (ab_R z :: st) σ Q := ab_r_aload_n rfl kc_X13_best dX13_best_149
theorem rX13_best_150 : ab_Run X 232 150 (6, 0, 0) [l0, l1, l2, l3, l4, ab_I z, l6, l7, l8, l9, l10] st σ Q ↔ ab_Run X 232 152 (6, 0, 0) [l0, l1, l2, l3, l4, ab_I z, l6, l7, l8, l9, l10] (ab_I z :: st) σ Q := ab_r_iload rfl kc_X13_best dX13_best_150
theorem rX13_best_152 : ab_Run X 232 152 (6, 0, 0) L (ab_I x1 :: st) σ Q ↔ ab_cats st ≤ 8 ∧ ab_Do X 231 [ab_I x1] σ (fun r σ' => ab_Run X 232 155 (6, 0, 0) L (ab_psh r st) σ' Q) := ab_r_callS (w := [ab_I x1]) (as := [ab_I x1]) (b1 := (0, 0, 0)) (by decide) ko_X13_best qM_13_474 (by decide) rfl rfl rfl rfl (by decide) (Nat.le_of_ble_eq_true rfl) kc_X13_best dX13_best_152
theorem rX13_best_155 : ab_Run X 232 155 (6, 0, 0) L (ab_I x1 :: ab_R a :: st) σ Q ↔ ((ab_sh σ a).1 = 14 ∧ ab_cats st ≤ 8) ∧ ab_Do X 161 [ab_R a, ab_I x1] σ (fun r σ' => ab_Run X 232 158 (6, 0, 0) L (ab_psh r st) σ' Q) := ab_r_callV (w := [ab_I x1]) (as := [ab_I x1]) (b1 := (0, 0, 0)) 0 (Or.inl rfl) (by decide) ko_X13_best qM_13_63 (by decide) rfl rfl rfl rfl rfl (by decide) (Nat.le_of_ble_eq_true rfl) kc_X13_best dX13_best_155
theorem rX13_best_158 : ab_Run X 232 158 (6, 0, 0) L [ab_I v] σ Q ↔ Q (some (ab_I v)) σ := ab_r_ireturnI rfl kc_X13_best dX13_best_158
theorem kc_X13_restAt : ab_code 233 = cX13_restAt := rfl
theorem ko_X13_restAt : ab_ow 233 = 13 := rfl
theorem rX13_restAt_0 : ab_Run X 233 0 (7, 0, 0) [ab_R z, l1, l2, l3, l4, l5, l6, l7] st σ Q ↔ z ≠ 0 ∧ ab_Run X 233 1 (7, 0, 0) [ab_R z, l1, l2, l3, l4, l5, l6, l7] (ab_R z :: st) σ Q := ab_r_aload_n rfl kc_X13_restAt dX13_restAt_0
theorem rX13_restAt_1 : ab_Run X 233 1 (7, 0, 0) [l0, ab_I z, l2, l3, l4, l5, l6, l7] st σ Q ↔ ab_Run X 233 2 (7, 0, 0) [l0, ab_I z, l2, l3, l4, l5, l6, l7] (ab_I z :: st) σ Q := ab_r_iload_n rfl kc_X13_restAt dX13_restAt_1
theorem rX13_restAt_2 : ab_Run X 233 2 (7, 0, 0) [l0, l1, ab_I z, l3, l4, l5, l6, l7] st σ Q ↔ ab_Run X 233 3 (7, 0, 0) [l0, l1, ab_I z, l3, l4, l5, l6, l7] (ab_I z :: st) σ Q := ab_r_iload_n rfl kc_X13_restAt dX13_restAt_2
theorem rX13_restAt_3 : ab_Run X 233 3 (7, 0, 0) [l0, l1, l2, ab_I z, l4, l5, l6, l7] st σ Q ↔ ab_Run X 233 4 (7, 0, 0) [l0, l1, l2, ab_I z, l4, l5, l6, l7] (ab_I z :: st) σ Q := ab_r_iload_n rfl kc_X13_restAt dX13_restAt_3
theorem rX13_restAt_4 : ab_Run X 233 4 (7, 0, 0) L (ab_I x3 :: ab_I x2 :: ab_I x1 :: ab_R a :: st) σ Q ↔ ((ab_sh σ a).1 = 14 ∧ ab_cats st ≤ 8) ∧ ab_Do X 229 [ab_R a, ab_I x1, ab_I x2, ab_I x3] σ (fun r σ' => ab_Run X 233 7 (7, 0, 0) L (ab_psh r st) σ' Q) := ab_r_callV (w := [ab_I x3, ab_I x2, ab_I x1]) (as := [ab_I x1, ab_I x2, ab_I x3]) (b1 := (6, 0, 0)) 0 (Or.inl rfl) (by decide) ko_X13_restAt qM_13_477 (by decide) rfl rfl rfl rfl rfl (by decide) (Nat.le_of_ble_eq_true rfl) kc_X13_restAt dX13_restAt_4
theorem rX13_restAt_7 : ab_Run X 233 7 (7, 0, 0) L st σ Q ↔ ab_Run X 233 8 (7, 0, 0) L (ab_I 0 :: st) σ Q := ab_r_iconst (by decide) kc_X13_restAt dX13_restAt_7
theorem rX13_restAt_8 : ab_Run X 233 8 (7, 0, 0) [l0, l1, l2, l3, l4, l5, l6, l7] (ab_I z :: st) σ Q ↔ (!ab_isJ l4) = true ∧ ab_Run X 233 10 (7, 0, 0) [l0, l1, l2, l3, l4, ab_I z, l6, l7] st σ Q := ab_r_istore (Nat.le_of_ble_eq_true rfl) kc_X13_restAt dX13_restAt_8
theorem rX13_restAt_10 : ab_Run X 233 10 (7, 0, 0) L st σ Q ↔ ab_Run X 233 11 (7, 0, 0) L (ab_I 0 :: st) σ Q := ab_r_iconst (by decide) kc_X13_restAt dX13_restAt_10
theorem rX13_restAt_11 : ab_Run X 233 11 (7, 0, 0) [l0, l1, l2, l3, l4, l5, l6, l7] (ab_I z :: st) σ Q ↔ (!ab_isJ l5) = true ∧ ab_Run X 233 13 (7, 0, 0) [l0, l1, l2, l3, l4, l5, ab_I z, l7] st σ Q := ab_r_istore (Nat.le_of_ble_eq_true rfl) kc_X13_restAt dX13_restAt_11
theorem rX13_restAt_13 : ab_Run X 233 13 (7, 0, 0) [l0, l1, l2, l3, l4, l5, ab_I z, l7] st σ Q ↔ ab_Run X 233 15 (7, 0, 0) [l0, l1, l2, l3, l4, l5, ab_I z, l7] (ab_I z :: st) σ Q := ab_r_iload rfl kc_X13_restAt dX13_restAt_13
theorem rX13_restAt_15 : ab_Run X 233 15 (7, 0, 0) L st σ Q ↔ ab_Run X 233 17 (7, 0, 0) L (ab_I 12 :: st) σ Q := ab_r_bipush (by decide) kc_X13_restAt dX13_restAt_15
theorem rX13_restAt_17 : ab_Run X 233 17 (7, 0, 0) L (ab_I b :: ab_I a :: st) σ Q ↔ (b ≤ a → ab_Run X 233 108 (7, 0, 0) L st σ Q) ∧ (¬ (b ≤ a) → ab_Run X 233 20 (7, 0, 0) L st σ Q) := ab_r_icmp_ge rfl kc_X13_restAt dX13_restAt_17
theorem rX13_restAt_20 : ab_Run X 233 20 (7, 0, 0) L st σ Q ↔ ab_Run X 233 21 (7, 0, 0) L (ab_I 0 :: st) σ Q := ab_r_iconst (by decide) kc_X13_restAt dX13_restAt_20
theorem rX13_restAt_21 : ab_Run X 233 21 (7, 0, 0) [l0, l1, l2, l3, l4, l5, l6, l7] (ab_I z :: st) σ Q ↔ (!ab_isJ l6) = true ∧ ab_Run X 233 23 (7, 0, 0) [l0, l1, l2, l3, l4, l5, l6, ab_I z] st σ Q := ab_r_istore (Nat.le_of_ble_eq_true rfl) kc_X13_restAt dX13_restAt_21
theorem rX13_restAt_23 : ab_Run X 233 23 (7, 0, 0) [l0, l1, l2, l3, l4, l5, l6, ab_I z] st σ Q ↔ ab_Run X 233 25 (7, 0, 0) [l0, l1, l2, l3, l4, l5, l6, ab_I z] (ab_I z :: st) σ Q := ab_r_iload rfl kc_X13_restAt dX13_restAt_23
theorem rX13_restAt_25 : ab_Run X 233 25 (7, 0, 0) L st σ Q ↔ ab_Run X 233 27 (7, 0, 0) L (ab_I 12 :: st) σ Q := ab_r_bipush (by decide) kc_X13_restAt dX13_restAt_25
theorem rX13_restAt_27 : ab_Run X 233 27 (7, 0, 0) L (ab_I b :: ab_I a :: st) σ Q ↔ (b ≤ a → ab_Run X 233 102 (7, 0, 0) L st σ Q) ∧ (¬ (b ≤ a) → ab_Run X 233 30 (7, 0, 0) L st σ Q) := ab_r_icmp_ge rfl kc_X13_restAt dX13_restAt_27
theorem rX13_restAt_30 : ab_Run X 233 30 (7, 0, 0) [ab_R z, l1, l2, l3, l4, l5, l6, l7] st σ Q ↔ z ≠ 0 ∧ ab_Run X 233 31 (7, 0, 0) [ab_R z, l1, l2, l3, l4, l5, l6, l7] (ab_R z :: st) σ Q := ab_r_aload_n rfl kc_X13_restAt dX13_restAt_30
theorem rX13_restAt_31 : ab_Run X 233 31 (7, 0, 0) [l0, l1, ab_I z, l3, l4, l5, l6, l7] st σ Q ↔ ab_Run X 233 32 (7, 0, 0) [l0, l1, ab_I z, l3, l4, l5, l6, l7] (ab_I z :: st) σ Q := ab_r_iload_n rfl kc_X13_restAt dX13_restAt_31
theorem rX13_restAt_32 : ab_Run X 233 32 (7, 0, 0) [l0, ab_I z, l2, l3, l4, l5, l6, l7] st σ Q ↔ ab_Run X 233 33 (7, 0, 0) [l0, ab_I z, l2, l3, l4, l5, l6, l7] (ab_I z :: st) σ Q := ab_r_iload_n rfl kc_X13_restAt dX13_restAt_32
theorem rX13_restAt_33 : ab_Run X 233 33 (7, 0, 0) L st σ Q ↔ ab_Run X 233 34 (7, 0, 0) L (ab_I 0 :: st) σ Q := ab_r_iconst (by decide) kc_X13_restAt dX13_restAt_33
theorem rX13_restAt_34 : ab_Run X 233 34 (7, 0, 0) [l0, l1, l2, l3, l4, l5, ab_I z, l7] st σ Q ↔ ab_Run X 233 36 (7, 0, 0) [l0, l1, l2, l3, l4, l5, ab_I z, l7] (ab_I z :: st) σ Q := ab_r_iload rfl kc_X13_restAt dX13_restAt_34
theorem rX13_restAt_36 : ab_Run X 233 36 (7, 0, 0) L (ab_I x4 :: ab_I x3 :: ab_I x2 :: ab_I x1 :: ab_R a :: st) σ Q ↔ ((ab_sh σ a).1 = 14 ∧ ab_cats st ≤ 8) ∧ ab_Do X 228 [ab_R a, ab_I x1, ab_I x2, ab_I x3, ab_I x4] σ (fun r σ' => ab_Run X 233 39 (7, 0, 0) L (ab_psh r st) σ' Q) := ab_r_callV (w := [ab_I x4, ab_I x3, ab_I x2, ab_I x1]) (as := [ab_I x1, ab_I x2, ab_I x3, ab_I x4]) (b1 := (1, 0, 0)) 0 (Or.inl rfl) (by decide) ko_X13_restAt qM_13_470 (by decide) rfl rfl rfl rfl rfl (by decide) (Nat.le_of_ble_eq_true rfl) kc_X13_restAt dX13_restAt_36
theorem rX13_restAt_39 : ab_Run X 233 39 (7, 0, 0) L (ab_I a :: st) σ Q ↔ (a = 0 → ab_Run X 233 96 (7, 0, 0) L st σ Q) ∧ (¬ (a = 0) → ab_Run X 233 42 (7, 0, 0) L st σ Q) := ab_r_if_eq rfl kc_X13_restAt dX13_restAt_39
theorem rX13_restAt_42 : ab_Run X 233 42 (7, 0, 0) [ab_R z, l1, l2, l3, l4, l5, l6, l7] st σ Q ↔ z ≠ 0 ∧ ab_Run X 233 43 (7, 0, 0) [ab_R z, l1, l2, l3, l4, l5, l6, l7] (ab_R z :: st) σ Q := ab_r_aload_n rfl kc_X13_restAt dX13_restAt_42
theorem rX13_restAt_43 : ab_Run X 233 43 (7, 0, 0) [l0, l1, l2, ab_I z, l4, l5, l6, l7] st σ Q ↔ ab_Run X 233 44 (7, 0, 0) [l0, l1, l2, ab_I z, l4, l5, l6, l7] (ab_I z :: st) σ Q := ab_r_iload_n rfl kc_X13_restAt dX13_restAt_43
theorem rX13_restAt_44 : ab_Run X 233 44 (7, 0, 0) [l0, ab_I z, l2, l3, l4, l5, l6, l7] st σ Q ↔ ab_Run X 233 45 (7, 0, 0) [l0, ab_I z, l2, l3, l4, l5, l6, l7] (ab_I z :: st) σ Q := ab_r_iload_n rfl kc_X13_restAt dX13_restAt_44
theorem rX13_restAt_45 : ab_Run X 233 45 (7, 0, 0) L st σ Q ↔ ab_Run X 233 46 (7, 0, 0) L (ab_I 1 :: st) σ Q := ab_r_iconst (by decide) kc_X13_restAt dX13_restAt_45
theorem rX13_restAt_46 : ab_Run X 233 46 (7, 0, 0) [l0, l1, l2, l3, l4, l5, l6, ab_I z] st σ Q ↔ ab_Run X 233 48 (7, 0, 0) [l0, l1, l2, l3, l4, l5, l6, ab_I z] (ab_I z :: st) σ Q := ab_r_iload rfl kc_X13_restAt dX13_restAt_46
theorem rX13_restAt_48 : ab_Run X 233 48 (7, 0, 0) L (ab_I x4 :: ab_I x3 :: ab_I x2 :: ab_I x1 :: ab_R a :: st) σ Q ↔ ((ab_sh σ a).1 = 14 ∧ ab_cats st ≤ 8) ∧ ab_Do X 228 [ab_R a, ab_I x1, ab_I x2, ab_I x3, ab_I x4] σ (fun r σ' => ab_Run X 233 51 (7, 0, 0) L (ab_psh r st) σ' Q) := ab_r_callV (w := [ab_I x4, ab_I x3, ab_I x2, ab_I x1]) (as := [ab_I x1, ab_I x2, ab_I x3, ab_I x4]) (b1 := (1, 0, 0)) 0 (Or.inl rfl) (by decide) ko_X13_restAt qM_13_470 (by decide) rfl rfl rfl rfl rfl (by decide) (Nat.le_of_ble_eq_true rfl) kc_X13_restAt dX13_restAt_48
theorem rX13_restAt_51 : ab_Run X 233 51 (7, 0, 0) L (ab_I a :: st) σ Q ↔ (a = 0 → ab_Run X 233 96 (7, 0, 0) L st σ Q) ∧ (¬ (a = 0) → ab_Run X 233 54 (7, 0, 0) L st σ Q) := ab_r_if_eq rfl kc_X13_restAt dX13_restAt_51
theorem rX13_restAt_54 : ab_Run X 233 54 (7, 0, 0) [ab_R z, l1, l2, l3, l4, l5, l6, l7] st σ Q ↔ z ≠ 0 ∧ ab_Run X 233 55 (7, 0, 0) [ab_R z, l1, l2, l3, l4, l5, l6, l7] (ab_R z :: st) σ Q := ab_r_aload_n rfl kc_X13_restAt dX13_restAt_54
theorem rX13_restAt_55 : ab_Run X 233 55 (7, 0, 0) [l0, ab_I z, l2, l3, l4, l5, l6, l7] st σ Q ↔ ab_Run X 233 56 (7, 0, 0) [l0, ab_I z, l2, l3, l4, l5, l6, l7] (ab_I z :: st) σ Q := ab_r_iload_n rfl kc_X13_restAt dX13_restAt_55
theorem rX13_restAt_56 : ab_Run X 233 56 (7, 0, 0) [l0, l1, ab_I z, l3, l4, l5, l6, l7] st σ Q ↔ ab_Run X 233 57 (7, 0, 0) [l0, l1, ab_I z, l3, l4, l5, l6, l7] (ab_I z :: st) σ Q := ab_r_iload_n rfl kc_X13_restAt dX13_restAt_56
theorem rX13_restAt_57 : ab_Run X 233 57 (7, 0, 0) [l0, l1, l2, ab_I z, l4, l5, l6, l7] st σ Q ↔ ab_Run X 233 58 (7, 0, 0) [l0, l1, l2, ab_I z, l4, l5, l6, l7] (ab_I z :: st) σ Q := ab_r_iload_n rfl kc_X13_restAt dX13_restAt_57
theorem rX13_restAt_58 : ab_Run X 233 58 (7, 0, 0) [l0, l1, l2, l3, l4, l5, ab_I z, l7] st σ Q ↔ ab_Run X 233 60 (7, 0, 0) [l0, l1, l2, l3, l4, l5, ab_I z, l7] (ab_I z :: st) σ Q := ab_r_iload rfl kc_X13_restAt dX13_restAt_58
theorem rX13_restAt_60 : ab_Run X 233 60 (7, 0, 0) [l0, l1, l2, l3, l4, l5, l6, ab_I z] st σ Q ↔ ab_Run X 233 62 (7, 0, 0) [l0, l1, l2, l3, l4, l5, l6, ab_I z] (ab_I z :: st) σ Q := ab_r_iload rfl kc_X13_restAt dX13_restAt_60
theorem rX13_restAt_62 : ab_Run X 233 62 (7, 0, 0) L (ab_I x5 :: ab_I x4 :: ab_I x3 :: ab_I x2 :: ab_I x1 :: ab_R a :: st) σ Q ↔ ((ab_sh σ a).1 = 14 ∧ ab_cats st ≤ 8) ∧ ab_Do X 230 [ab_R a, ab_I x1, ab_I x2, ab_I x3, ab_I x4, ab_I x5] σ (fun r σ' => ab_Run X 233 65 (7, 0, 0) L (ab_psh r st) σ' Q) := ab_r_callV (w := [ab_I x5, ab_I x4, ab_I x3, ab_I x2, ab_I x1]) (as := [ab_I x1, ab_I x2, ab_I x3, ab_I x4, ab_I x5]) (b1 := (2, 0, 0)) 0 (Or.inl rfl) (by decide) ko_X13_restAt qM_13_481 (by decide) rfl rfl rfl rfl rfl (by decide) (Nat.le_of_ble_eq_true rfl) kc_X13_restAt dX13_restAt_62
theorem rX13_restAt_65 : ab_Run X 233 65 (7, 0, 0) L (ab_I a :: st) σ Q ↔ (¬ a = 0 → ab_Run X 233 71 (7, 0, 0) L st σ Q) ∧ (¬ (¬ a = 0) → ab_Run X 233 68 (7, 0, 0) L st σ Q) := ab_r_if_ne rfl kc_X13_restAt dX13_restAt_65
theorem rX13_restAt_68 : ab_Run X 233 68 (7, 0, 0) L st σ Q ↔ ab_Run X 233 96 (7, 0, 0) L st σ Q := ab_r_goto rfl kc_X13_restAt dX13_restAt_68
theorem rX13_restAt_71 : ab_Run X 233 71 (7, 0, 0) [l0, l1, l2, l3, l4, ab_I z, l6, l7] st σ Q ↔ ab_Run X 233 73 (7, 0, 0) [l0, l1, l2, l3, l4, ab_I z, l6, l7] (ab_I z :: st) σ Q := ab_r_iload rfl kc_X13_restAt dX13_restAt_71
theorem rX13_restAt_73 : ab_Run X 233 73 (7, 0, 0) [l0, l1, l2, l3, ab_I z, l5, l6, l7] st σ Q ↔ ab_Run X 233 75 (7, 0, 0) [l0, l1, l2, l3, ab_I z, l5, l6, l7] (ab_I z :: st) σ Q := ab_r_iload rfl kc_X13_restAt dX13_restAt_73
theorem rX13_restAt_75 : ab_Run X 233 75 (7, 0, 0) L (ab_I b :: ab_I a :: st) σ Q ↔ (¬ a = b → ab_Run X 233 93 (7, 0, 0) L st σ Q) ∧ (¬ (¬ a = b) → ab_Run X 233 78 (7, 0, 0) L st σ Q) := ab_r_icmp_ne rfl kc_X13_restAt dX13_restAt_75
theorem rX13_restAt_78 : ab_Run X 233 78 (7, 0, 0) L st σ Q ↔ ab_Run X 233 80 (7, 0, 0) L (ab_I 100 :: st) σ Q := ab_r_bipush (by decide) kc_X13_restAt dX13_restAt_78
theorem rX13_restAt_80 : ab_Run X 233 80 (7, 0, 0) [l0, l1, l2, l3, l4, l5, ab_I z, l7] st σ Q ↔ ab_Run X 233 82 (7, 0, 0) [l0, l1, l2, l3, l4, l5, ab_I z, l7] (ab_I z :: st) σ Q := ab_r_iload rfl kc_X13_restAt dX13_restAt_80
theorem rX13_restAt_82 : ab_Run X 233 82 (7, 0, 0) L (ab_I x1 :: st) σ Q ↔ ab_cats st ≤ 8 ∧ ab_Do X 231 [ab_I x1] σ (fun r σ' => ab_Run X 233 85 (7, 0, 0) L (ab_psh r st) σ' Q) := ab_r_callS (w := [ab_I x1]) (as := [ab_I x1]) (b1 := (0, 0, 0)) (by decide) ko_X13_restAt qM_13_474 (by decide) rfl rfl rfl rfl (by decide) (Nat.le_of_ble_eq_true rfl) kc_X13_restAt dX13_restAt_82
theorem rX13_restAt_85 : ab_Run X 233 85 (7, 0, 0) L (ab_I b :: ab_I a :: st) σ Q ↔ ab_Run X 233 86 (7, 0, 0) L (ab_I (ab_w32 (a * b)) :: st) σ Q := ab_r_imul kc_X13_restAt dX13_restAt_85
theorem rX13_restAt_86 : ab_Run X 233 86 (7, 0, 0) [l0, l1, l2, l3, l4, l5, l6, ab_I z] st σ Q ↔ ab_Run X 233 88 (7, 0, 0) [l0, l1, l2, l3, l4, l5, l6, ab_I z] (ab_I z :: st) σ Q := ab_r_iload rfl kc_X13_restAt dX13_restAt_86
theorem rX13_restAt_88 : ab_Run X 233 88 (7, 0, 0) L (ab_I x1 :: st) σ Q ↔ ab_cats st ≤ 8 ∧ ab_Do X 231 [ab_I x1] σ (fun r σ' => ab_Run X 233 91 (7, 0, 0) L (ab_psh r st) σ' Q) := ab_r_callS (w := [ab_I x1]) (as := [ab_I x1]) (b1 := (0, 0, 0)) (by decide) ko_X13_restAt qM_13_474 (by decide) rfl rfl rfl rfl (by decide) (Nat.le_of_ble_eq_true rfl) kc_X13_restAt dX13_restAt_88
theorem rX13_restAt_91 : ab_Run X 233 91 (7, 0, 0) L (ab_I b :: ab_I a :: st) σ Q ↔ ab_Run X 233 92 (7, 0, 0) L (ab_I (ab_w32 (a + b)) :: st) σ Q := ab_r_iadd kc_X13_restAt dX13_restAt_91
theorem rX13_restAt_92 : ab_Run X 233 92 (7, 0, 0) L [ab_I v] σ Q ↔ Q (some (ab_I v)) σ := ab_r_ireturnI rfl kc_X13_restAt dX13_restAt_92
theorem rX13_restAt_93 : ab_Run X 233 93 (7, 0, 0) [l0, l1, l2, l3, l4, ab_I z, l6, l7] st σ Q ↔ (!ab_isJ l4) = true ∧ ab_Run X 233 96 (7, 0, 0) [l0, l1, l2, l3, l4, ab_I (ab_w32 (z + 1)), l6, l7] st σ Q := ab_r_iinc rfl (by decide) kc_X13_restAt dX13_restAt_93
theorem rX13_restAt_96 : ab_Run X 233 96 (7, 0, 0) [l0, l1, l2, l3, l4, l5, l6, ab_I z] st σ Q ↔ (!ab_isJ l6) = true ∧ ab_Run X 233 99 (7, 0, 0) [l0, l1, l2, l3, l4, l5, l6, ab_I (ab_w32 (z + 1))] st σ Q := ab_r_iinc rfl (by decide) kc_X13_restAt dX13_restAt_96
theorem rX13_restAt_99 : ab_Run X 233 99 (7, 0, 0) L st σ Q ↔ ab_Run X 233 23 (7, 0, 0) L st σ Q := ab_r_goto rfl kc_X13_restAt dX13_restAt_99
theorem rX13_restAt_102 : ab_Run X 233 102 (7, 0, 0) [l0, l1, l2, l3, l4, l5, ab_I z, l7] st σ Q ↔ (!ab_isJ l5) = true ∧ ab_Run X 233 105 (7, 0, 0) [l0, l1, l2, l3, l4, l5, ab_I (ab_w32 (z + 1)), l7] st σ Q := ab_r_iinc rfl (by decide) kc_X13_restAt dX13_restAt_102
theorem rX13_restAt_105 : ab_Run X 233 105 (7, 0, 0) L st σ Q ↔ ab_Run X 233 13 (7, 0, 0) L st σ Q := ab_r_goto rfl kc_X13_restAt dX13_restAt_105
theorem rX13_restAt_108 : ab_Run X 233 108 (7, 0, 0) [l0, l1, l2, l3, ab_I z, l5, l6, l7] st σ Q ↔ ab_Run X 233 110 (7, 0, 0) [l0, l1, l2, l3, ab_I z, l5, l6, l7] (ab_I z :: st) σ Q := ab_r_iload rfl kc_X13_restAt dX13_restAt_108
theorem rX13_restAt_110 : ab_Run X 233 110 (7, 0, 0) L st σ Q ↔ ab_Run X 233 111 (7, 0, 0) L (ab_I (-1) :: st) σ Q := ab_r_iconst (by decide) kc_X13_restAt dX13_restAt_110
theorem rX13_restAt_111 : ab_Run X 233 111 (7, 0, 0) L (ab_I b :: ab_I a :: st) σ Q ↔ (¬ a = b → ab_Run X 233 119 (7, 0, 0) L st σ Q) ∧ (¬ (¬ a = b) → ab_Run X 233 114 (7, 0, 0) L st σ Q) := ab_r_icmp_ne rfl kc_X13_restAt dX13_restAt_111
theorem rX13_restAt_114 : ab_Run X 233 114 (7, 0, 0) [l0, l1, l2, l3, l4, ab_I z, l6, l7] st σ Q ↔ ab_Run X 233 116 (7, 0, 0) [l0, l1, l2, l3, l4, ab_I z, l6, l7] (ab_I z :: st) σ Q := ab_r_iload rfl kc_X13_restAt dX13_restAt_114
theorem rX13_restAt_116 : ab_Run X 233 116 (7, 0, 0) L st σ Q ↔ ab_Run X 233 121 (7, 0, 0) L st σ Q := ab_r_goto rfl kc_X13_restAt dX13_restAt_116
theorem rX13_restAt_119 : ab_Run X 233 119 (7, 0, 0) L st σ Q ↔ ab_Run X 233 121 (7, 0, 0) L (ab_I (-2) :: st) σ Q := ab_r_bipush (by decide) kc_X13_restAt dX13_restAt_119
theorem rX13_restAt_121 : ab_Run X 233 121 (7, 0, 0) L [ab_I v] σ Q ↔ Q (some (ab_I v)) σ := ab_r_ireturnI rfl kc_X13_restAt dX13_restAt_121
theorem kc_X13_rests : ab_code 234 = cX13_rests := rfl
theorem ko_X13_rests : ab_ow 234 = 13 := rfl
theorem rX13_rests_0 : ab_Run X 234 0 (8, 0, 0) [ab_R z, l1, l2, l3] st σ Q ↔ z ≠ 0 ∧ ab_Run X 234 1 (8, 0, 0) [ab_R z, l1, l2, l3] (ab_R z :: st) σ Q := ab_r_aload_n rfl kc_X13_rests dX13_rests_0
theorem rX13_rests_1 : ab_Run X 234 1 (8, 0, 0) L st σ Q ↔ ab_Run X 234 2 (8, 0, 0) L (ab_I 0 :: st) σ Q := ab_r_iconst (by decide) kc_X13_rests dX13_rests_1
theorem rX13_rests_2 : ab_Run X 234 2 (8, 0, 0) L (ab_I z :: ab_R a :: st) σ Q ↔ (ab_sh σ a).1 = 14 ∧ ab_Run X 234 5 (8, 0, 0) L st (ab_wr σ a 0 z) Q := sF_13_53 ko_X13_rests kc_X13_rests dX13_rests_2
theorem rX13_rests_5 : ab_Run X 234 5 (8, 0, 0) [ab_R z, l1, l2, l3] st σ Q ↔ z ≠ 0 ∧ ab_Run X 234 6 (8, 0, 0) [ab_R z, l1, l2, l3] (ab_R z :: st) σ Q := ab_r_aload_n rfl kc_X13_rests dX13_rests_5
theorem rX13_rests_6 : ab_Run X 234 6 (8, 0, 0) [l0, ab_I z, l2, l3] st σ Q ↔ ab_Run X 234 7 (8, 0, 0) [l0, ab_I z, l2, l3] (ab_I z :: st) σ Q := ab_r_iload_n rfl kc_X13_rests dX13_rests_6
theorem rX13_rests_7 : ab_Run X 234 7 (8, 0, 0) L (ab_I x1 :: ab_R a :: st) σ Q ↔ ((ab_sh σ a).1 = 14 ∧ ab_cats st ≤ 8) ∧ ab_Do X 212 [ab_R a, ab_I x1] σ (fun r σ' => ab_Run X 234 10 (8, 0, 0) L (ab_psh r st) σ' Q) := ab_r_callV (w := [ab_I x1]) (as := [ab_I x1]) (b1 := (0, 0, 0)) 0 (Or.inl rfl) (by decide) ko_X13_rests qM_13_444 (by decide) rfl rfl rfl rfl rfl (by decide) (Nat.le_of_ble_eq_true rfl) kc_X13_rests dX13_rests_7
theorem rX13_rests_10 : ab_Run X 234 10 (8, 0, 0) L (ab_I a :: st) σ Q ↔ (a = 0 → ab_Run X 234 37 (8, 0, 0) L st σ Q) ∧ (¬ (a = 0) → ab_Run X 234 13 (8, 0, 0) L st σ Q) := ab_r_if_eq rfl kc_X13_rests dX13_rests_10
theorem rX13_rests_13 : ab_Run X 234 13 (8, 0, 0) [ab_R z, l1, l2, l3] st σ Q ↔ z ≠ 0 ∧ ab_Run X 234 14 (8, 0, 0) [ab_R z, l1, l2, l3] (ab_R z :: st) σ Q := ab_r_aload_n rfl kc_X13_rests dX13_rests_13
theorem rX13_rests_14 : ab_Run X 234 14 (8, 0, 0) [l0, l1, ab_I z, l3] st σ Q ↔ ab_Run X 234 15 (8, 0, 0) [l0, l1, ab_I z, l3] (ab_I z :: st) σ Q := ab_r_iload_n rfl kc_X13_rests dX13_rests_14
theorem rX13_rests_15 : ab_Run X 234 15 (8, 0, 0) [l0, l1, l2, ab_I z] st σ Q ↔ ab_Run X 234 16 (8, 0, 0) [l0, l1, l2, ab_I z] (ab_I z :: st) σ Q := ab_r_iload_n rfl kc_X13_rests dX13_rests_15
theorem rX13_rests_16 : ab_Run X 234 16 (8, 0, 0) L (ab_I x2 :: ab_I x1 :: ab_R a :: st) σ Q ↔ ((ab_sh σ a).1 = 14 ∧ ab_cats st ≤ 8) ∧ ab_Do X 214 [ab_R a, ab_I x1, ab_I x2] σ (fun r σ' => ab_Run X 234 19 (8, 0, 0) L (ab_psh r st) σ' Q) := ab_r_callV (w := [ab_I x2, ab_I x1]) (as := [ab_I x1, ab_I x2]) (b1 := (1, 0, 0)) 0 (Or.inl rfl) (by decide) ko_X13_rests qM_13_455 (by decide) rfl rfl rfl rfl rfl (by decide) (Nat.le_of_ble_eq_true rfl) kc_X13_rests dX13_rests_16
theorem rX13_rests_19 : ab_Run X 234 19 (8, 0, 0) L (ab_I a :: st) σ Q ↔ (a = 0 → ab_Run X 234 37 (8, 0, 0) L st σ Q) ∧ (¬ (a = 0) → ab_Run X 234 22 (8, 0, 0) L st σ Q) := ab_r_if_eq rfl kc_X13_rests dX13_rests_19
theorem rX13_rests_22 : ab_Run X 234 22 (8, 0, 0) [ab_R z, l1, l2, l3] st σ Q ↔ z ≠ 0 ∧ ab_Run X 234 23 (8, 0, 0) [ab_R z, l1, l2, l3] (ab_R z :: st) σ Q := ab_r_aload_n rfl kc_X13_rests dX13_rests_22
theorem rX13_rests_23 : ab_Run X 234 23 (8, 0, 0) [ab_R z, l1, l2, l3] st σ Q ↔ z ≠ 0 ∧ ab_Run X 234 24 (8, 0, 0) [ab_R z, l1, l2, l3] (ab_R z :: st) σ Q := ab_r_aload_n rfl kc_X13_rests dX13_rests_23
theorem rX13_rests_24 : ab_Run X 234 24 (8, 0, 0) [l0, ab_I z, l2, l3] st σ Q ↔ ab_Run X 234 25 (8, 0, 0) [l0, ab_I z, l2, l3] (ab_I z :: st) σ Q := ab_r_iload_n rfl kc_X13_rests dX13_rests_24
theorem rX13_rests_25 : ab_Run X 234 25 (8, 0, 0) [l0, l1, ab_I z, l3] st σ Q ↔ ab_Run X 234 26 (8, 0, 0) [l0, l1, ab_I z, l3] (ab_I z :: st) σ Q := ab_r_iload_n rfl kc_X13_rests dX13_rests_25
theorem rX13_rests_26 : ab_Run X 234 26 (8, 0, 0) [l0, l1, l2, ab_I z] st σ Q ↔ ab_Run X 234 27 (8, 0, 0) [l0, l1, l2, ab_I z] (ab_I z :: st) σ Q := ab_r_iload_n rfl kc_X13_rests dX13_rests_26
theorem rX13_rests_27 : ab_Run X 234 27 (8, 0, 0) L st σ Q ↔ ab_Run X 234 28 (8, 0, 0) L (ab_I (-1) :: st) σ Q := ab_r_iconst (by decide) kc_X13_rests dX13_rests_27
theorem rX13_rests_28 : ab_Run X 234 28 (8, 0, 0) L (ab_I x4 :: ab_I x3 :: ab_I x2 :: ab_I x1 :: ab_R a :: st) σ Q ↔ ((ab_sh σ a).1 = 14 ∧ ab_cats st ≤ 8) ∧ ab_Do X 233 [ab_R a, ab_I x1, ab_I x2, ab_I x3, ab_I x4] σ (fun r σ' => ab_Run X 234 31 (8, 0, 0) L (ab_psh r st) σ' Q) := ab_r_callV (w := [ab_I x4, ab_I x3, ab_I x2, ab_I x1]) (as := [ab_I x1, ab_I x2, ab_I x3, ab_I x4]) (b1 := (7, 0, 0)) 0 (Or.inl rfl) (by decide) ko_X13_rests qM_13_485 (by decide) rfl rfl rfl rfl rfl (by decide) (Nat.le_of_ble_eq_true rfl) kc_X13_rests dX13_rests_28
theorem rX13_rests_31 : ab_Run X 234 31 (8, 0, 0) L (ab_I x1 :: ab_R a :: st) σ Q ↔ ((ab_sh σ a).1 = 14 ∧ ab_cats st ≤ 8) ∧ ab_Do X 161 [ab_R a, ab_I x1] σ (fun r σ' => ab_Run X 234 34 (8, 0, 0) L (ab_psh r st) σ' Q) := ab_r_callV (w := [ab_I x1]) (as := [ab_I x1]) (b1 := (0, 0, 0)) 0 (Or.inl rfl) (by decide) ko_X13_rests qM_13_63 (by decide) rfl rfl rfl rfl rfl (by decide) (Nat.le_of_ble_eq_true rfl) kc_X13_rests dX13_rests_31
theorem rX13_rests_34 : ab_Run X 234 34 (8, 0, 0) L st σ Q ↔ ab_Run X 234 42 (8, 0, 0) L st σ Q := ab_r_goto rfl kc_X13_rests dX13_rests_34
theorem rX13_rests_37 : ab_Run X 234 37 (8, 0, 0) [ab_R z, l1, l2, l3] st σ Q ↔ z ≠ 0 ∧ ab_Run X 234 38 (8, 0, 0) [ab_R z, l1, l2, l3] (ab_R z :: st) σ Q := ab_r_aload_n rfl kc_X13_rests dX13_rests_37
theorem rX13_rests_38 : ab_Run X 234 38 (8, 0, 0) L st σ Q ↔ ab_Run X 234 39 (8, 0, 0) L (ab_I 1 :: st) σ Q := ab_r_iconst (by decide) kc_X13_rests dX13_rests_38
theorem rX13_rests_39 : ab_Run X 234 39 (8, 0, 0) L (ab_I x1 :: ab_R a :: st) σ Q ↔ ((ab_sh σ a).1 = 14 ∧ ab_cats st ≤ 8) ∧ ab_Do X 159 [ab_R a, ab_I x1] σ (fun r σ' => ab_Run X 234 42 (8, 0, 0) L (ab_psh r st) σ' Q) := ab_r_callV (w := [ab_I x1]) (as := [ab_I x1]) (b1 := (0, 0, 0)) 0 (Or.inl rfl) (by decide) ko_X13_rests qM_13_59 (by decide) rfl rfl rfl rfl rfl (by decide) (Nat.le_of_ble_eq_true rfl) kc_X13_rests dX13_rests_39
theorem rX13_rests_42 : ab_Run X 234 42 (8, 0, 0) L [ab_I v] σ Q ↔ Q (some (ab_I v)) σ := ab_r_ireturnI rfl kc_X13_rests dX13_rests_42
theorem kc_X13_rest : ab_code 235 = cX13_rest := rfl
theorem ko_X13_rest : ab_ow 235 = 13 := rfl
theorem rX13_rest_0 : ab_Run X 235 0 (8, 0, 0) [ab_R z, l1, l2, l3] st σ Q ↔ z ≠ 0 ∧ ab_Run X 235 1 (8, 0, 0) [ab_R z, l1, l2, l3] (ab_R z :: st) σ Q := ab_r_aload_n rfl kc_X13_rest dX13_rest_0
theorem rX13_rest_1 : ab_Run X 235 1 (8, 0, 0) L st σ Q ↔ ab_Run X 235 2 (8, 0, 0) L (ab_I 0 :: st) σ Q := ab_r_iconst (by decide) kc_X13_rest dX13_rest_1
theorem rX13_rest_2 : ab_Run X 235 2 (8, 0, 0) L (ab_I z :: ab_R a :: st) σ Q ↔ (ab_sh σ a).1 = 14 ∧ ab_Run X 235 5 (8, 0, 0) L st (ab_wr σ a 0 z) Q := sF_13_53 ko_X13_rest kc_X13_rest dX13_rest_2
theorem rX13_rest_5 : ab_Run X 235 5 (8, 0, 0) [ab_R z, l1, l2, l3] st σ Q ↔ z ≠ 0 ∧ ab_Run X 235 6 (8, 0, 0) [ab_R z, l1, l2, l3] (ab_R z :: st) σ Q := ab_r_aload_n rfl kc_X13_rest dX13_rest_5
theorem rX13_rest_6 : ab_Run X 235 6 (8, 0, 0) [l0, ab_I z, l2, l3] st σ Q ↔ ab_Run X 235 7 (8, 0, 0) [l0, ab_I z, l2, l3] (ab_I z :: st) σ Q := ab_r_iload_n rfl kc_X13_rest dX13_rest_6
theorem rX13_rest_7 : ab_Run X 235 7 (8, 0, 0) L (ab_I x1 :: ab_R a :: st) σ Q ↔ ((ab_sh σ a).1 = 14 ∧ ab_cats st ≤ 8) ∧ ab_Do X 212 [ab_R a, ab_I x1] σ (fun r σ' => ab_Run X 235 10 (8, 0, 0) L (ab_psh r st) σ' Q) := ab_r_callV (w := [ab_I x1]) (as := [ab_I x1]) (b1 := (0, 0, 0)) 0 (Or.inl rfl) (by decide) ko_X13_rest qM_13_444 (by decide) rfl rfl rfl rfl rfl (by decide) (Nat.le_of_ble_eq_true rfl) kc_X13_rest dX13_rest_7
theorem rX13_rest_10 : ab_Run X 235 10 (8, 0, 0) L (ab_I a :: st) σ Q ↔ (a = 0 → ab_Run X 235 37 (8, 0, 0) L st σ Q) ∧ (¬ (a = 0) → ab_Run X 235 13 (8, 0, 0) L st σ Q) := ab_r_if_eq rfl kc_X13_rest dX13_rest_10
theorem rX13_rest_13 : ab_Run X 235 13 (8, 0, 0) [ab_R z, l1, l2, l3] st σ Q ↔ z ≠ 0 ∧ ab_Run X 235 14 (8, 0, 0) [ab_R z, l1, l2, l3] (ab_R z :: st) σ Q := ab_r_aload_n rfl kc_X13_rest dX13_rest_13
theorem rX13_rest_14 : ab_Run X 235 14 (8, 0, 0) [l0, l1, ab_I z, l3] st σ Q ↔ ab_Run X 235 15 (8, 0, 0) [l0, l1, ab_I z, l3] (ab_I z :: st) σ Q := ab_r_iload_n rfl kc_X13_rest dX13_rest_14
theorem rX13_rest_15 : ab_Run X 235 15 (8, 0, 0) [l0, l1, l2, ab_I z] st σ Q ↔ ab_Run X 235 16 (8, 0, 0) [l0, l1, l2, ab_I z] (ab_I z :: st) σ Q := ab_r_iload_n rfl kc_X13_rest dX13_rest_15
theorem rX13_rest_16 : ab_Run X 235 16 (8, 0, 0) L (ab_I x2 :: ab_I x1 :: ab_R a :: st) σ Q ↔ ((ab_sh σ a).1 = 14 ∧ ab_cats st ≤ 8) ∧ ab_Do X 214 [ab_R a, ab_I x1, ab_I x2] σ (fun r σ' => ab_Run X 235 19 (8, 0, 0) L (ab_psh r st) σ' Q) := ab_r_callV (w := [ab_I x2, ab_I x1]) (as := [ab_I x1, ab_I x2]) (b1 := (1, 0, 0)) 0 (Or.inl rfl) (by decide) ko_X13_rest qM_13_455 (by decide) rfl rfl rfl rfl rfl (by decide) (Nat.le_of_ble_eq_true rfl) kc_X13_rest dX13_rest_16
theorem rX13_rest_19 : ab_Run X 235 19 (8, 0, 0) L (ab_I a :: st) σ Q ↔ (a = 0 → ab_Run X 235 37 (8, 0, 0) L st σ Q) ∧ (¬ (a = 0) → ab_Run X 235 22 (8, 0, 0) L st σ Q) := ab_r_if_eq rfl kc_X13_rest dX13_rest_19
theorem rX13_rest_22 : ab_Run X 235 22 (8, 0, 0) [ab_R z, l1, l2, l3] st σ Q ↔ z ≠ 0 ∧ ab_Run X 235 23 (8, 0, 0) [ab_R z, l1, l2, l3] (ab_R z :: st) σ Q := ab_r_aload_n rfl kc_X13_rest dX13_rest_22
theorem rX13_rest_23 : ab_Run X 235 23 (8, 0, 0) [ab_R z, l1, l2, l3] st σ Q ↔ z ≠ 0 ∧ ab_Run X 235 24 (8, 0, 0) [ab_R z, l1, l2, l3] (ab_R z :: st) σ Q := ab_r_aload_n rfl kc_X13_rest dX13_rest_23
theorem rX13_rest_24 : ab_Run X 235 24 (8, 0, 0) [l0, ab_I z, l2, l3] st σ Q ↔ ab_Run X 235 25 (8, 0, 0) [l0, ab_I z, l2, l3] (ab_I z :: st) σ Q := ab_r_iload_n rfl kc_X13_rest dX13_rest_24
theorem rX13_rest_25 : ab_Run X 235 25 (8, 0, 0) [l0, l1, ab_I z, l3] st σ Q ↔ ab_Run X 235 26 (8, 0, 0) [l0, l1, ab_I z, l3] (ab_I z :: st) σ Q := ab_r_iload_n rfl kc_X13_rest dX13_rest_25
theorem rX13_rest_26 : ab_Run X 235 26 (8, 0, 0) [l0, l1, l2, ab_I z] st σ Q ↔ ab_Run X 235 27 (8, 0, 0) [l0, l1, l2, ab_I z] (ab_I z :: st) σ Q := ab_r_iload_n rfl kc_X13_rest dX13_rest_26
theorem rX13_rest_27 : ab_Run X 235 27 (8, 0, 0) L st σ Q ↔ ab_Run X 235 28 (8, 0, 0) L (ab_I 0 :: st) σ Q := ab_r_iconst (by decide) kc_X13_rest dX13_rest_27
theorem rX13_rest_28 : ab_Run X 235 28 (8, 0, 0) L (ab_I x4 :: ab_I x3 :: ab_I x2 :: ab_I x1 :: ab_R a :: st) σ Q ↔ ((ab_sh σ a).1 = 14 ∧ ab_cats st ≤ 8) ∧ ab_Do X 233 [ab_R a, ab_I x1, ab_I x2, ab_I x3, ab_I x4] σ (fun r σ' => ab_Run X 235 31 (8, 0, 0) L (ab_psh r st) σ' Q) := ab_r_callV (w := [ab_I x4, ab_I x3, ab_I x2, ab_I x1]) (as := [ab_I x1, ab_I x2, ab_I x3, ab_I x4]) (b1 := (7, 0, 0)) 0 (Or.inl rfl) (by decide) ko_X13_rest qM_13_485 (by decide) rfl rfl rfl rfl rfl (by decide) (Nat.le_of_ble_eq_true rfl) kc_X13_rest dX13_rest_28
theorem rX13_rest_31 : ab_Run X 235 31 (8, 0, 0) L (ab_I x1 :: ab_R a :: st) σ Q ↔ ((ab_sh σ a).1 = 14 ∧ ab_cats st ≤ 8) ∧ ab_Do X 161 [ab_R a, ab_I x1] σ (fun r σ' => ab_Run X 235 34 (8, 0, 0) L (ab_psh r st) σ' Q) := ab_r_callV (w := [ab_I x1]) (as := [ab_I x1]) (b1 := (0, 0, 0)) 0 (Or.inl rfl) (by decide) ko_X13_rest qM_13_63 (by decide) rfl rfl rfl rfl rfl (by decide) (Nat.le_of_ble_eq_true rfl) kc_X13_rest dX13_rest_31
theorem rX13_rest_34 : ab_Run X 235 34 (8, 0, 0) L st σ Q ↔ ab_Run X 235 42 (8, 0, 0) L st σ Q := ab_r_goto rfl kc_X13_rest dX13_rest_34
theorem rX13_rest_37 : ab_Run X 235 37 (8, 0, 0) [ab_R z, l1, l2, l3] st σ Q ↔ z ≠ 0 ∧ ab_Run X 235 38 (8, 0, 0) [ab_R z, l1, l2, l3] (ab_R z :: st) σ Q := ab_r_aload_n rfl kc_X13_rest dX13_rest_37
theorem rX13_rest_38 : ab_Run X 235 38 (8, 0, 0) L st σ Q ↔ ab_Run X 235 39 (8, 0, 0) L (ab_I 1 :: st) σ Q := ab_r_iconst (by decide) kc_X13_rest dX13_rest_38
theorem rX13_rest_39 : ab_Run X 235 39 (8, 0, 0) L (ab_I x1 :: ab_R a :: st) σ Q ↔ ((ab_sh σ a).1 = 14 ∧ ab_cats st ≤ 8) ∧ ab_Do X 159 [ab_R a, ab_I x1] σ (fun r σ' => ab_Run X 235 42 (8, 0, 0) L (ab_psh r st) σ' Q) := ab_r_callV (w := [ab_I x1]) (as := [ab_I x1]) (b1 := (0, 0, 0)) 0 (Or.inl rfl) (by decide) ko_X13_rest qM_13_59 (by decide) rfl rfl rfl rfl rfl (by decide) (Nat.le_of_ble_eq_true rfl) kc_X13_rest dX13_rest_39
theorem rX13_rest_42 : ab_Run X 235 42 (8, 0, 0) L [ab_I v] σ Q ↔ Q (some (ab_I v)) σ := ab_r_ireturnI rfl kc_X13_rest dX13_rest_42
theorem kc_X13_sure : ab_code 236 = cX13_sure := rfl
theorem ko_X13_sure : ab_ow 236 = 13 := rfl
theorem rX13_sure_0 : ab_Run X 236 0 (7, 0, 0) [ab_R z, l1, l2, l3, l4, l5, l6, l7, l8, l9, l10] st σ Q ↔ z ≠ 0 ∧ ab_Run X 236 1 (7, 0, 0) [ab_R z, l1, l2, l3, l4, l5, l6, l7, l8, l9, l10] (ab_R z :: st) σ Q := ab_r_aload_n rfl kc_X13_sure dX13_sure_0
theorem rX13_sure_1 : ab_Run X 236 1 (7, 0, 0) L st σ Q ↔ ab_Run X 236 2 (7, 0, 0) L (ab_I 0 :: st) σ Q := ab_r_iconst (by decide) kc_X13_sure dX13_sure_1
theorem rX13_sure_2 : ab_Run X 236 2 (7, 0, 0) L (ab_I z :: ab_R a :: st) σ Q ↔ (ab_sh σ a).1 = 14 ∧ ab_Run X 236 5 (7, 0, 0) L st (ab_wr σ a 0 z) Q := sF_13_53 ko_X13_sure kc_X13_sure dX13_sure_2
theorem rX13_sure_5 : ab_Run X 236 5 (7, 0, 0) [ab_R z, l1, l2, l3, l4, l5, l6, l7, l8, l9, l10] st σ Q ↔ z ≠ 0 ∧ ab_Run X 236 6 (7, 0, 0) [ab_R z, l1, l2, l3, l4, l5, l6, l7, l8, l9, l10] (ab_R z :: st) σ Q := ab_r_aload_n rfl kc_X13_sure dX13_sure_5
theorem rX13_sure_6 : ab_Run X 236 6 (7, 0, 0) [l0, ab_I z, l2, l3, l4, l5, l6, l7, l8, l9, l10] st σ Q ↔ ab_Run X 236 7 (7, 0, 0) [l0, ab_I z, l2, l3, l4, l5, l6, l7, l8, l9, l10] (ab_I z :: st) σ Q := ab_r_iload_n rfl kc_X13_sure dX13_sure_6
theorem rX13_sure_7 : ab_Run X 236 7 (7, 0, 0) L (ab_I x1 :: ab_R a :: st) σ Q ↔ ((ab_sh σ a).1 = 14 ∧ ab_cats st ≤ 8) ∧ ab_Do X 212 [ab_R a, ab_I x1] σ (fun r σ' => ab_Run X 236 10 (7, 0, 0) L (ab_psh r st) σ' Q) := ab_r_callV (w := [ab_I x1]) (as := [ab_I x1]) (b1 := (0, 0, 0)) 0 (Or.inl rfl) (by decide) ko_X13_sure qM_13_444 (by decide) rfl rfl rfl rfl rfl (by decide) (Nat.le_of_ble_eq_true rfl) kc_X13_sure dX13_sure_7
theorem rX13_sure_10 : ab_Run X 236 10 (7, 0, 0) L (ab_I a :: st) σ Q ↔ (a = 0 → ab_Run X 236 22 (7, 0, 0) L st σ Q) ∧ (¬ (a = 0) → ab_Run X 236 13 (7, 0, 0) L st σ Q) := ab_r_if_eq rfl kc_X13_sure dX13_sure_10
theorem rX13_sure_13 : ab_Run X 236 13 (7, 0, 0) [ab_R z, l1, l2, l3, l4, l5, l6, l7, l8, l9, l10] st σ Q ↔ z ≠ 0 ∧ ab_Run X 236 14 (7, 0, 0) [ab_R z, l1, l2, l3, l4, l5, l6, l7, l8, l9, l10] (ab_R z :: st) σ Q := ab_r_aload_n rfl kc_X13_sure dX13_sure_13
theorem rX13_sure_14 : ab_Run X 236 14 (7, 0, 0) [l0, l1, ab_I z, l3, l4, l5, l6, l7, l8, l9, l10] st σ Q ↔ ab_Run X 236 15 (7, 0, 0) [l0, l1, ab_I z, l3, l4, l5, l6, l7, l8, l9, l10] (ab_I z :: st) σ Q := ab_r_iload_n rfl kc_X13_sure dX13_sure_14
theorem rX13_sure_15 : ab_Run X 236 15 (7, 0, 0) [l0, l1, l2, ab_I z, l4, l5, l6, l7, l8, l9, l10] st σ Q ↔ ab_Run X 236 16 (7, 0, 0) [l0, l1, l2, ab_I z, l4, l5, l6, l7, l8, l9, l10] (ab_I z :: st) σ Q := ab_r_iload_n rfl kc_X13_sure dX13_sure_15
theorem rX13_sure_16 : ab_Run X 236 16 (7, 0, 0) L (ab_I x2 :: ab_I x1 :: ab_R a :: st) σ Q ↔ ((ab_sh σ a).1 = 14 ∧ ab_cats st ≤ 8) ∧ ab_Do X 214 [ab_R a, ab_I x1, ab_I x2] σ (fun r σ' => ab_Run X 236 19 (7, 0, 0) L (ab_psh r st) σ' Q) := ab_r_callV (w := [ab_I x2, ab_I x1]) (as := [ab_I x1, ab_I x2]) (b1 := (1, 0, 0)) 0 (Or.inl rfl) (by decide) ko_X13_sure qM_13_455 (by decide) rfl rfl rfl rfl rfl (by decide) (Nat.le_of_ble_eq_true rfl) kc_X13_sure dX13_sure_16
theorem rX13_sure_19 : ab_Run X 236 19 (7, 0, 0) L (ab_I a :: st) σ Q ↔ (¬ a = 0 → ab_Run X 236 29 (7, 0, 0) L st σ Q) ∧ (¬ (¬ a = 0) → ab_Run X 236 22 (7, 0, 0) L st σ Q) := ab_r_if_ne rfl kc_X13_sure dX13_sure_19
theorem rX13_sure_22 : ab_Run X 236 22 (7, 0, 0) [ab_R z, l1, l2, l3, l4, l5, l6, l7, l8, l9, l10] st σ Q ↔ z ≠ 0 ∧ ab_Run X 236 23 (7, 0, 0) [ab_R z, l1, l2, l3, l4, l5, l6, l7, l8, l9, l10] (ab_R z :: st) σ Q := ab_r_aload_n rfl kc_X13_sure dX13_sure_22
theorem rX13_sure_23 : ab_Run X 236 23 (7, 0, 0) L st σ Q ↔ ab_Run X 236 24 (7, 0, 0) L (ab_I 1 :: st) σ Q := ab_r_iconst (by decide) kc_X13_sure dX13_sure_23
theorem rX13_sure_24 : ab_Run X 236 24 (7, 0, 0) L (ab_I x1 :: ab_R a :: st) σ Q ↔ ((ab_sh σ a).1 = 14 ∧ ab_cats st ≤ 8) ∧ ab_Do X 159 [ab_R a, ab_I x1] σ (fun r σ' => ab_Run X 236 27 (7, 0, 0) L (ab_psh r st) σ' Q) := ab_r_callV (w := [ab_I x1]) (as := [ab_I x1]) (b1 := (0, 0, 0)) 0 (Or.inl rfl) (by decide) ko_X13_sure qM_13_59 (by decide) rfl rfl rfl rfl rfl (by decide) (Nat.le_of_ble_eq_true rfl) kc_X13_sure dX13_sure_24
theorem rX13_sure_27 : ab_Run X 236 27 (7, 0, 0) L (ab_I a :: st) σ Q ↔ ab_Run X 236 28 (7, 0, 0) L (ab_J a :: st) σ Q := ab_r_i2l kc_X13_sure dX13_sure_27
theorem rX13_sure_28 : ab_Run X 236 28 (7, 0, 0) L [ab_J v] σ Q ↔ Q (some (ab_J v)) σ := ab_r_lreturn rfl kc_X13_sure dX13_sure_28
theorem rX13_sure_29 : ab_Run X 236 29 (7, 0, 0) [ab_R z, l1, l2, l3, l4, l5, l6, l7, l8, l9, l10] st σ Q ↔ z ≠ 0 ∧ ab_Run X 236 30 (7, 0, 0) [ab_R z, l1, l2, l3, l4, l5, l6, l7, l8, l9, l10] (ab_R z :: st) σ Q := ab_r_aload_n rfl kc_X13_sure dX13_sure_29
theorem rX13_sure_30 : ab_Run X 236 30 (7, 0, 0) [l0, ab_I z, l2, l3, l4, l5, l6, l7, l8, l9, l10] st σ Q ↔ ab_Run X 236 31 (7, 0, 0) [l0, ab_I z, l2, l3, l4, l5, l6, l7, l8, l9, l10] (ab_I z :: st) σ Q := ab_r_iload_n rfl kc_X13_sure dX13_sure_30
theorem rX13_sure_31 : ab_Run X 236 31 (7, 0, 0) [l0, l1, ab_I z, l3, l4, l5, l6, l7, l8, l9, l10] st σ Q ↔ ab_Run X 236 32 (7, 0, 0) [l0, l1, ab_I z, l3, l4, l5, l6, l7, l8, l9, l10] (ab_I z :: st) σ Q := ab_r_iload_n rfl kc_X13_sure dX13_sure_31
theorem rX13_sure_32 : ab_Run X 236 32 (7, 0, 0) [l0, l1, l2, ab_I z, l4, l5, l6, l7, l8, l9, l10] st σ Q ↔ ab_Run X 236 33 (7, 0, 0) [l0, l1, l2, ab_I z, l4, l5, l6, l7, l8, l9, l10] (ab_I z :: st) σ Q := ab_r_iload_n rfl kc_X13_sure dX13_sure_32
theorem rX13_sure_33 : ab_Run X 236 33 (7, 0, 0) L (ab_I x3 :: ab_I x2 :: ab_I x1 :: ab_R a :: st) σ Q ↔ ((ab_sh σ a).1 = 14 ∧ ab_cats st ≤ 8) ∧ ab_Do X 229 [ab_R a, ab_I x1, ab_I x2, ab_I x3] σ (fun r σ' => ab_Run X 236 36 (7, 0, 0) L (ab_psh r st) σ' Q) := ab_r_callV (w := [ab_I x3, ab_I x2, ab_I x1]) (as := [ab_I x1, ab_I x2, ab_I x3]) (b1 := (6, 0, 0)) 0 (Or.inl rfl) (by decide) ko_X13_sure qM_13_477 (by decide) rfl rfl rfl rfl rfl (by decide) (Nat.le_of_ble_eq_true rfl) kc_X13_sure dX13_sure_33
theorem rX13_sure_36 : ab_Run X 236 36 (7, 0, 0) L st σ Q ↔ ab_Run X 236 39 (7, 0, 0) L (ab_J (-1) :: st) σ Q := ab_r_ldc2_w rfl ko_X13_sure (by decide +kernel) kc_X13_sure dX13_sure_36
theorem rX13_sure_39 : ab_Run X 236 39 (7, 0, 0) [l0, l1, l2, l3, l4, l5, l6, l7, l8, l9, l10] (ab_J z :: st) σ Q ↔ (!ab_isJ l4) = true ∧ ab_Run X 236 41 (7, 0, 0) [l0, l1, l2, l3, l4, ab_J z, ab_R 0, l7, l8, l9, l10] st σ Q := ab_r_lstore (Nat.le_of_ble_eq_true rfl) kc_X13_sure dX13_sure_39
theorem rX13_sure_41 : ab_Run X 236 41 (7, 0, 0) L st σ Q ↔ ab_Run X 236 42 (7, 0, 0) L (ab_I 0 :: st) σ Q := ab_r_iconst (by decide) kc_X13_sure dX13_sure_41
theorem rX13_sure_42 : ab_Run X 236 42 (7, 0, 0) [l0, l1, l2, l3, l4, l5, l6, l7, l8, l9, l10] (ab_I z :: st) σ Q ↔ (!ab_isJ l6) = true ∧ ab_Run X 236 44 (7, 0, 0) [l0, l1, l2, l3, l4, l5, l6, ab_I z, l8, l9, l10] st σ Q := ab_r_istore (Nat.le_of_ble_eq_true rfl) kc_X13_sure dX13_sure_42
theorem rX13_sure_44 : ab_Run X 236 44 (7, 0, 0) [l0, l1, l2, l3, l4, l5, l6, ab_I z, l8, l9, l10] st σ Q ↔ ab_Run X 236 46 (7, 0, 0) [l0, l1, l2, l3, l4, l5, l6, ab_I z, l8, l9, l10] (ab_I z :: st) σ Q := ab_r_iload rfl kc_X13_sure dX13_sure_44
theorem rX13_sure_46 : ab_Run X 236 46 (7, 0, 0) L st σ Q ↔ ab_Run X 236 48 (7, 0, 0) L (ab_I 12 :: st) σ Q := ab_r_bipush (by decide) kc_X13_sure dX13_sure_46
theorem rX13_sure_48 : ab_Run X 236 48 (7, 0, 0) L (ab_I b :: ab_I a :: st) σ Q ↔ (b ≤ a → ab_Run X 236 163 (7, 0, 0) L st σ Q) ∧ (¬ (b ≤ a) → ab_Run X 236 51 (7, 0, 0) L st σ Q) := ab_r_icmp_ge rfl kc_X13_sure dX13_sure_48
theorem rX13_sure_51 : ab_Run X 236 51 (7, 0, 0) [ab_R z, l1, l2, l3, l4, l5, l6, l7, l8, l9, l10] st σ Q ↔ z ≠ 0 ∧ ab_Run X 236 52 (7, 0, 0) [ab_R z, l1, l2, l3, l4, l5, l6, l7, l8, l9, l10] (ab_R z :: st) σ Q := ab_r_aload_n rfl kc_X13_sure dX13_sure_51
theorem rX13_sure_52 : ab_Run X 236 52 (7, 0, 0) [l0, l1, ab_I z, l3, l4, l5, l6, l7, l8, l9, l10] st σ Q ↔ ab_Run X 236 53 (7, 0, 0) [l0, l1, ab_I z, l3, l4, l5, l6, l7, l8, l9, l10] (ab_I z :: st) σ Q := ab_r_iload_n rfl kc_X13_sure dX13_sure_52
theorem rX13_sure_53 : ab_Run X 236 53 (7, 0, 0) [l0, ab_I z, l2, l3, l4, l5, l6, l7, l8, l9, l10] st σ Q ↔ ab_Run X 236 54 (7, 0, 0) [l0, ab_I z, l2, l3, l4, l5, l6, l7, l8, l9, l10] (ab_I z :: st) σ Q := ab_r_iload_n rfl kc_X13_sure dX13_sure_53
theorem rX13_sure_54 : ab_Run X 236 54 (7, 0, 0) L st σ Q ↔ ab_Run X 236 55 (7, 0, 0) L (ab_I 0 :: st) σ Q := ab_r_iconst (by decide) kc_X13_sure dX13_sure_54
theorem rX13_sure_55 : ab_Run X 236 55 (7, 0, 0) [l0, l1, l2, l3, l4, l5, l6, ab_I z, l8, l9, l10] st σ Q ↔ ab_Run X 236 57 (7, 0, 0) [l0, l1, l2, l3, l4, l5, l6, ab_I z, l8, l9, l10] (ab_I z :: st) σ Q := ab_r_iload rfl kc_X13_sure dX13_sure_55
theorem rX13_sure_57 : ab_Run X 236 57 (7, 0, 0) L (ab_I x4 :: ab_I x3 :: ab_I x2 :: ab_I x1 :: ab_R a :: st) σ Q ↔ ((ab_sh σ a).1 = 14 ∧ ab_cats st ≤ 8) ∧ ab_Do X 228 [ab_R a, ab_I x1, ab_I x2, ab_I x3, ab_I x4] σ (fun r σ' => ab_Run X 236 60 (7, 0, 0) L (ab_psh r st) σ' Q) := ab_r_callV (w := [ab_I x4, ab_I x3, ab_I x2, ab_I x1]) (as := [ab_I x1, ab_I x2, ab_I x3, ab_I x4]) (b1 := (1, 0, 0)) 0 (Or.inl rfl) (by decide) ko_X13_sure qM_13_470 (by decide) rfl rfl rfl rfl rfl (by decide) (Nat.le_of_ble_eq_true rfl) kc_X13_sure dX13_sure_57
theorem rX13_sure_60 : ab_Run X 236 60 (7, 0, 0) L (ab_I a :: st) σ Q ↔ (¬ a = 0 → ab_Run X 236 66 (7, 0, 0) L st σ Q) ∧ (¬ (¬ a = 0) → ab_Run X 236 63 (7, 0, 0) L st σ Q) := ab_r_if_ne rfl kc_X13_sure dX13_sure_60
theorem rX13_sure_63 : ab_Run X 236 63 (7, 0, 0) L st σ Q ↔ ab_Run X 236 157 (7, 0, 0) L st σ Q := ab_r_goto rfl kc_X13_sure dX13_sure_63
theorem rX13_sure_66 : ab_Run X 236 66 (7, 0, 0) L st σ Q ↔ ab_Run X 236 69 (7, 0, 0) L (ab_J (-1) :: st) σ Q := ab_r_ldc2_w rfl ko_X13_sure (by decide +kernel) kc_X13_sure dX13_sure_66
theorem rX13_sure_69 : ab_Run X 236 69 (7, 0, 0) [l0, l1, l2, l3, l4, l5, l6, l7, l8, l9, l10] (ab_J z :: st) σ Q ↔ (!ab_isJ l7) = true ∧ ab_Run X 236 71 (7, 0, 0) [l0, l1, l2, l3, l4, l5, l6, l7, ab_J z, ab_R 0, l10] st σ Q := ab_r_lstore (Nat.le_of_ble_eq_true rfl) kc_X13_sure dX13_sure_69
theorem rX13_sure_71 : ab_Run X 236 71 (7, 0, 0) L st σ Q ↔ ab_Run X 236 72 (7, 0, 0) L (ab_I 0 :: st) σ Q := ab_r_iconst (by decide) kc_X13_sure dX13_sure_71
theorem rX13_sure_72 : ab_Run X 236 72 (7, 0, 0) [l0, l1, l2, l3, l4, l5, l6, l7, l8, l9, l10] (ab_I z :: st) σ Q ↔ (!ab_isJ l9) = true ∧ ab_Run X 236 74 (7, 0, 0) [l0, l1, l2, l3, l4, l5, l6, l7, l8, l9, ab_I z] st σ Q := ab_r_istore (Nat.le_of_ble_eq_true rfl) kc_X13_sure dX13_sure_72
theorem rX13_sure_74 : ab_Run X 236 74 (7, 0, 0) [l0, l1, l2, l3, l4, l5, l6, l7, l8, l9, ab_I z] st σ Q ↔ ab_Run X 236 76 (7, 0, 0) [l0, l1, l2, l3, l4, l5, l6, l7, l8, l9, ab_I z] (ab_I z :: st) σ Q := ab_r_iload rfl kc_X13_sure dX13_sure_74
theorem rX13_sure_76 : ab_Run X 236 76 (7, 0, 0) L st σ Q ↔ ab_Run X 236 78 (7, 0, 0) L (ab_I 12 :: st) σ Q := ab_r_bipush (by decide) kc_X13_sure dX13_sure_76
theorem rX13_sure_78 : ab_Run X 236 78 (7, 0, 0) L (ab_I b :: ab_I a :: st) σ Q ↔ (b ≤ a → ab_Run X 236 140 (7, 0, 0) L st σ Q) ∧ (¬ (b ≤ a) → ab_Run X 236 81 (7, 0, 0) L st σ Q) := ab_r_icmp_ge rfl kc_X13_sure dX13_sure_78
theorem rX13_sure_81 : ab_Run X 236 81 (7, 0, 0) [ab_R z, l1, l2, l3, l4, l5, l6, l7, l8, l9, l10] st σ Q ↔ z ≠ 0 ∧ ab_Run X 236 82 (7, 0, 0) [ab_R z, l1, l2, l3, l4, l5, l6, l7, l8, l9, l10] (ab_R z :: st) σ Q := ab_r_aload_n rfl kc_X13_sure dX13_sure_81
theorem rX13_sure_82 : ab_Run X 236 82 (7, 0, 0) [l0, l1, l2, ab_I z, l4, l5, l6, l7, l8, l9, l10] st σ Q ↔ ab_Run X 236 83 (7, 0, 0) [l0, l1, l2, ab_I z, l4, l5, l6, l7, l8, l9, l10] (ab_I z :: st) σ Q := ab_r_iload_n rfl kc_X13_sure dX13_sure_82
theorem rX13_sure_83 : ab_Run X 236 83 (7, 0, 0) [l0, ab_I z, l2, l3, l4, l5, l6, l7, l8, l9, l10] st σ Q ↔ ab_Run X 236 84 (7, 0, 0) [l0, ab_I z, l2, l3, l4, l5, l6, l7, l8, l9, l10] (ab_I z :: st) σ Q := ab_r_iload_n rfl kc_X13_sure dX13_sure_83
theorem rX13_sure_84 : ab_Run X 236 84 (7, 0, 0) L st σ Q ↔ ab_Run X 236 85 (7, 0, 0) L (ab_I 1 :: st) σ Q := ab_r_iconst (by decide) kc_X13_sure dX13_sure_84
theorem rX13_sure_85 : ab_Run X 236 85 (7, 0, 0) [l0, l1, l2, l3, l4, l5, l6, l7, l8, l9, ab_I z] st σ Q ↔ ab_Run X 236 87 (7, 0, 0) [l0, l1, l2, l3, l4, l5, l6, l7, l8, l9, ab_I z] (ab_I z :: st) σ Q := ab_r_iload rfl kc_X13_sure dX13_sure_85
theorem rX13_sure_87 : ab_Run X 236 87 (7, 0, 0) L (ab_I x4 :: ab_I x3 :: ab_I x2 :: ab_I x1 :: ab_R a :: st) σ Q ↔ ((ab_sh σ a).1 = 14 ∧ ab_cats st ≤ 8) ∧ ab_Do X 228 [ab_R a, ab_I x1, ab_I x2, ab_I x3, ab_I x4] σ (fun r σ' => ab_Run X 236 90 (7, 0, 0) L (ab_psh r st) σ' Q) := ab_r_callV (w := [ab_I x4, ab_I x3, ab_I x2, ab_I x1]) (as := [ab_I x1, ab_I x2, ab_I x3, ab_I x4]) (b1 := (1, 0, 0)) 0 (Or.inl rfl) (by decide) ko_X13_sure qM_13_470 (by decide) rfl rfl rfl rfl rfl (by decide) (Nat.le_of_ble_eq_true rfl) kc_X13_sure dX13_sure_87
theorem rX13_sure_90 : ab_Run X 236 90 (7, 0, 0) L (ab_I a :: st) σ Q ↔ (a = 0 → ab_Run X 236 134 (7, 0, 0) L st σ Q) ∧ (¬ (a = 0) → ab_Run X 236 93 (7, 0, 0) L st σ Q) := ab_r_if_eq rfl kc_X13_sure dX13_sure_90
theorem rX13_sure_93 : ab_Run X 236 93 (7, 0, 0) [l0, l1, l2, l3, l4, l5, l6, l7, ab_J z, l9, l10] st σ Q ↔ ab_Run X 236 95 (7, 0, 0) [l0, l1, l2, l3, l4, l5, l6, l7, ab_J z, l9, l10] (ab_J z :: st) σ Q := ab_r_lload rfl kc_X13_sure dX13_sure_93
theorem rX13_sure_95 : ab_Run X 236 95 (7, 0, 0) L st σ Q ↔ ab_Run X 236 96 (7, 0, 0) L (ab_J 0 :: st) σ Q := ab_r_lconst kc_X13_sure dX13_sure_95
theorem rX13_sure_96 : ab_Run X 236 96 (7, 0, 0) L (ab_J b :: ab_J a :: st) σ Q ↔ ab_Run X 236 97 (7, 0, 0) L (ab_I (if b < a then 1 else if a = b then 0 else -1) :: st) σ Q := ab_r_lcmp kc_X13_sure dX13_sure_96
theorem rX13_sure_97 : ab_Run X 236 97 (7, 0, 0) L (ab_I a :: st) σ Q ↔ (a < 0 → ab_Run X 236 119 (7, 0, 0) L st σ Q) ∧ (¬ (a < 0) → ab_Run X 236 100 (7, 0, 0) L st σ Q) := ab_r_if_lt rfl kc_X13_sure dX13_sure_97
theorem rX13_sure_100 : ab_Run X 236 100 (7, 0, 0) [ab_R z, l1, l2, l3, l4, l5, l6, l7, l8, l9, l10] st σ Q ↔ z ≠ 0 ∧ ab_Run X 236 101 (7, 0, 0) [ab_R z, l1, l2, l3, l4, l5, l6, l7, l8, l9, l10] (ab_R z :: st) σ Q := ab_r_aload_n rfl kc_X13_sure dX13_sure_100
theorem rX13_sure_101 : ab_Run X 236 101 (7, 0, 0) L (ab_R a :: st) σ Q ↔ (ab_sh σ a).1 = 14 ∧ ab_Run X 236 104 (7, 0, 0) L (ab_R (ab_rd σ a 30) :: st) σ Q := gF_13_37 ko_X13_sure kc_X13_sure dX13_sure_101
theorem rX13_sure_104 : ab_Run X 236 104 (7, 0, 0) L st σ Q ↔ ab_Run X 236 106 (7, 0, 0) L (ab_I 12 :: st) σ Q := ab_r_bipush (by decide) kc_X13_sure dX13_sure_104
theorem rX13_sure_106 : ab_Run X 236 106 (7, 0, 0) [l0, l1, l2, l3, l4, l5, l6, ab_I z, l8, l9, l10] st σ Q ↔ ab_Run X 236 108 (7, 0, 0) [l0, l1, l2, l3, l4, l5, l6, ab_I z, l8, l9, l10] (ab_I z :: st) σ Q := ab_r_iload rfl kc_X13_sure dX13_sure_106
theorem rX13_sure_108 : ab_Run X 236 108 (7, 0, 0) L (ab_I b :: ab_I a :: st) σ Q ↔ ab_Run X 236 109 (7, 0, 0) L (ab_I (ab_w32 (a * b)) :: st) σ Q := ab_r_imul kc_X13_sure dX13_sure_108
theorem rX13_sure_109 : ab_Run X 236 109 (7, 0, 0) [l0, l1, l2, l3, l4, l5, l6, l7, l8, l9, ab_I z] st σ Q ↔ ab_Run X 236 111 (7, 0, 0) [l0, l1, l2, l3, l4, l5, l6, l7, l8, l9, ab_I z] (ab_I z :: st) σ Q := ab_r_iload rfl kc_X13_sure dX13_sure_109
theorem rX13_sure_111 : ab_Run X 236 111 (7, 0, 0) L (ab_I b :: ab_I a :: st) σ Q ↔ ab_Run X 236 112 (7, 0, 0) L (ab_I (ab_w32 (a + b)) :: st) σ Q := ab_r_iadd kc_X13_sure dX13_sure_111
theorem rX13_sure_112 : ab_Run X 236 112 (7, 0, 0) L (ab_I i :: ab_R a :: st) σ Q ↔ ((ab_sh σ a).1 = 22 ∧ 0 ≤ i ∧ i < (ab_sh σ a).2) ∧ ab_Run X 236 113 (7, 0, 0) L (ab_J (ab_rd σ a i) :: st) σ Q := ab_r_laload kc_X13_sure dX13_sure_112
theorem rX13_sure_113 : ab_Run X 236 113 (7, 0, 0) [l0, l1, l2, l3, l4, l5, l6, l7, ab_J z, l9, l10] st σ Q ↔ ab_Run X 236 115 (7, 0, 0) [l0, l1, l2, l3, l4, l5, l6, l7, ab_J z, l9, l10] (ab_J z :: st) σ Q := ab_r_lload rfl kc_X13_sure dX13_sure_113
theorem rX13_sure_115 : ab_Run X 236 115 (7, 0, 0) L (ab_J b :: ab_J a :: st) σ Q ↔ ab_Run X 236 116 (7, 0, 0) L (ab_I (if b < a then 1 else if a = b then 0 else -1) :: st) σ Q := ab_r_lcmp kc_X13_sure dX13_sure_115
theorem rX13_sure_116 : ab_Run X 236 116 (7, 0, 0) L (ab_I a :: st) σ Q ↔ (0 ≤ a → ab_Run X 236 134 (7, 0, 0) L st σ Q) ∧ (¬ (0 ≤ a) → ab_Run X 236 119 (7, 0, 0) L st σ Q) := ab_r_if_ge rfl kc_X13_sure dX13_sure_116
theorem rX13_sure_119 : ab_Run X 236 119 (7, 0, 0) [ab_R z, l1, l2, l3, l4, l5, l6, l7, l8, l9, l10] st σ Q ↔ z ≠ 0 ∧ ab_Run X 236 120 (7, 0, 0) [ab_R z, l1, l2, l3, l4, l5, l6, l7, l8, l9, l10] (ab_R z :: st) σ Q := ab_r_aload_n rfl kc_X13_sure dX13_sure_119
theorem rX13_sure_120 : ab_Run X 236 120 (7, 0, 0) L (ab_R a :: st) σ Q ↔ (ab_sh σ a).1 = 14 ∧ ab_Run X 236 123 (7, 0, 0) L (ab_R (ab_rd σ a 30) :: st) σ Q := gF_13_37 ko_X13_sure kc_X13_sure dX13_sure_120
theorem rX13_sure_123 : ab_Run X 236 123 (7, 0, 0) L st σ Q ↔ ab_Run X 236 125 (7, 0, 0) L (ab_I 12 :: st) σ Q := ab_r_bipush (by decide) kc_X13_sure dX13_sure_123
theorem rX13_sure_125 : ab_Run X 236 125 (7, 0, 0) [l0, l1, l2, l3, l4, l5, l6, ab_I z, l8, l9, l10] st σ Q ↔ ab_Run X 236 127 (7, 0, 0) [l0, l1, l2, l3, l4, l5, l6, ab_I z, l8, l9, l10] (ab_I z :: st) σ Q := ab_r_iload rfl kc_X13_sure dX13_sure_125
theorem rX13_sure_127 : ab_Run X 236 127 (7, 0, 0) L (ab_I b :: ab_I a :: st) σ Q ↔ ab_Run X 236 128 (7, 0, 0) L (ab_I (ab_w32 (a * b)) :: st) σ Q := ab_r_imul kc_X13_sure dX13_sure_127
theorem rX13_sure_128 : ab_Run X 236 128 (7, 0, 0) [l0, l1, l2, l3, l4, l5, l6, l7, l8, l9, ab_I z] st σ Q ↔ ab_Run X 236 130 (7, 0, 0) [l0, l1, l2, l3, l4, l5, l6, l7, l8, l9, ab_I z] (ab_I z :: st) σ Q := ab_r_iload rfl kc_X13_sure dX13_sure_128
theorem rX13_sure_130 : ab_Run X 236 130 (7, 0, 0) L (ab_I b :: ab_I a :: st) σ Q ↔ ab_Run X 236 131 (7, 0, 0) L (ab_I (ab_w32 (a + b)) :: st) σ Q := ab_r_iadd kc_X13_sure dX13_sure_130
theorem rX13_sure_131 : ab_Run X 236 131 (7, 0, 0) L (ab_I i :: ab_R a :: st) σ Q ↔ ((ab_sh σ a).1 = 22 ∧ 0 ≤ i ∧ i < (ab_sh σ a).2) ∧ ab_Run X 236 132 (7, 0, 0) L (ab_J (ab_rd σ a i) :: st) σ Q := ab_r_laload kc_X13_sure dX13_sure_131
theorem rX13_sure_132 : ab_Run X 236 132 (7, 0, 0) [l0, l1, l2, l3, l4, l5, l6, l7, l8, l9, l10] (ab_J z :: st) σ Q ↔ (!ab_isJ l7) = true ∧ ab_Run X 236 134 (7, 0, 0) [l0, l1, l2, l3, l4, l5, l6, l7, ab_J z, ab_R 0, l10] st σ Q := ab_r_lstore (Nat.le_of_ble_eq_true rfl) kc_X13_sure dX13_sure_132
theorem rX13_sure_134 : ab_Run X 236 134 (7, 0, 0) [l0, l1, l2, l3, l4, l5, l6, l7, l8, l9, ab_I z] st σ Q ↔ (!ab_isJ l9) = true ∧ ab_Run X 236 137 (7, 0, 0) [l0, l1, l2, l3, l4, l5, l6, l7, l8, l9, ab_I (ab_w32 (z + 1))] st σ Q := ab_r_iinc rfl (by decide) kc_X13_sure dX13_sure_134
theorem rX13_sure_137 : ab_Run X 236 137 (7, 0, 0) L st σ Q ↔ ab_Run X 236 74 (7, 0, 0) L st σ Q := ab_r_goto rfl kc_X13_sure dX13_sure_137
theorem rX13_sure_140 : ab_Run X 236 140 (7, 0, 0) [l0, l1, l2, l3, l4, l5, l6, l7, ab_J z, l9, l10] st σ Q ↔ ab_Run X 236 142 (7, 0, 0) [l0, l1, l2, l3, l4, l5, l6, l7, ab_J z, l9, l10] (ab_J z :: st) σ Q := ab_r_lload rfl kc_X13_sure dX13_sure_140
theorem rX13_sure_142 : ab_Run X 236 142 (7, 0, 0) [l0, l1, l2, l3, l4, ab_J z, l6, l7, l8, l9, l10] st σ Q ↔ ab_Run X 236 144 (7, 0, 0) [l0, l1, l2, l3, l4, ab_J z, l6, l7, l8, l9, l10] (ab_J z :: st) σ Q := ab_r_lload rfl kc_X13_sure dX13_sure_142
theorem rX13_sure_144 : ab_Run X 236 144 (7, 0, 0) L (ab_J b :: ab_J a :: st) σ Q ↔ ab_Run X 236 145 (7, 0, 0) L (ab_I (if b < a then 1 else if a = b then 0 else -1) :: st) σ Q := ab_r_lcmp kc_X13_sure dX13_sure_144
theorem rX13_sure_145 : ab_Run X 236 145 (7, 0, 0) L (ab_I a :: st) σ Q ↔ (a ≤ 0 → ab_Run X 236 153 (7, 0, 0) L st σ Q) ∧ (¬ (a ≤ 0) → ab_Run X 236 148 (7, 0, 0) L st σ Q) := ab_r_if_le rfl kc_X13_sure dX13_sure_145
theorem rX13_sure_148 : ab_Run X 236 148 (7, 0, 0) [l0, l1, l2, l3, l4, l5, l6, l7, ab_J z, l9, l10] st σ Q ↔ ab_Run X 236 150 (7, 0, 0) [l0, l1, l2, l3, l4, l5, l6, l7, ab_J z, l9, l10] (ab_J z :: st) σ Q := ab_r_lload rfl kc_X13_sure dX13_sure_148
theorem rX13_sure_150 : ab_Run X 236 150 (7, 0, 0) L st σ Q ↔ ab_Run X 236 155 (7, 0, 0) L st σ Q := ab_r_goto rfl kc_X13_sure dX13_sure_150
theorem rX13_sure_153 : ab_Run X 236 153 (7, 0, 0) [l0, l1, l2, l3, l4, ab_J z, l6, l7, l8, l9, l10] st σ Q ↔ ab_Run X 236 155 (7, 0, 0) [l0, l1, l2, l3, l4, ab_J z, l6, l7, l8, l9, l10] (ab_J z :: st) σ Q := ab_r_lload rfl kc_X13_sure dX13_sure_153
theorem rX13_sure_155 : ab_Run X 236 155 (7, 0, 0) [l0, l1, l2, l3, l4, l5, l6, l7, l8, l9, l10] (ab_J z :: st) σ Q ↔ (!ab_isJ l4) = true ∧ ab_Run X 236 157 (7, 0, 0) [l0, l1, l2, l3, l4, ab_J z, ab_R 0, l7, l8, l9, l10] st σ Q := ab_r_lstore (Nat.le_of_ble_eq_true rfl) kc_X13_sure dX13_sure_155
theorem rX13_sure_157 : ab_Run X 236 157 (7, 0, 0) [l0, l1, l2, l3, l4, l5, l6, ab_I z, l8, l9, l10] st σ Q ↔ (!ab_isJ l6) = true ∧ ab_Run X 236 160 (7, 0, 0) [l0, l1, l2, l3, l4, l5, l6, ab_I (ab_w32 (z + 1)), l8, l9, l10] st σ Q := ab_r_iinc rfl (by decide) kc_X13_sure dX13_sure_157
theorem rX13_sure_160 : ab_Run X 236 160 (7, 0, 0) L st σ Q ↔ ab_Run X 236 44 (7, 0, 0) L st σ Q := ab_r_goto rfl kc_X13_sure dX13_sure_160
theorem rX13_sure_163 : ab_Run X 236 163 (7, 0, 0) [ab_R z, l1, l2, l3, l4, l5, l6, l7, l8, l9, l10] st σ Q ↔ z ≠ 0 ∧ ab_Run X 236 164 (7, 0, 0) [ab_R z, l1, l2, l3, l4, l5, l6, l7, l8, l9, l10] (ab_R z :: st) σ Q := ab_r_aload_n rfl kc_X13_sure dX13_sure_163
theorem rX13_sure_164 : ab_Run X 236 164 (7, 0, 0) [l0, l1, l2, l3, l4, ab_J z, l6, l7, l8, l9, l10] st σ Q ↔ ab_Run X 236 166 (7, 0, 0) [l0, l1, l2, l3, l4, ab_J z, l6, l7, l8, l9, l10] (ab_J z :: st) σ Q := ab_r_lload rfl kc_X13_sure dX13_sure_164
theorem rX13_sure_166 : ab_Run X 236 166 (7, 0, 0) L st σ Q ↔ ab_Run X 236 169 (7, 0, 0) L (ab_J 100 :: st) σ Q := ab_r_ldc2_w rfl ko_X13_sure (by decide +kernel) kc_X13_sure dX13_sure_166
theorem rX13_sure_169 : ab_Run X 236 169 (7, 0, 0) [ab_R z, l1, l2, l3, l4, l5, l6, l7, l8, l9, l10] st σ Q ↔ z ≠ 0 ∧ ab_Run X 236 170 (7, 0, 0) [ab_R z, l1, l2, l3, l4, l5, l6, l7, l8, l9, l10] (ab_R z :: st) σ Q := ab_r_aload_n rfl kc_X13_sure dX13_sure_169
theorem rX13_sure_170 : ab_Run X 236 170 (7, 0, 0) L (ab_R a :: st) σ Q ↔ (ab_sh σ a).1 = 14 ∧ ab_Run X 236 173 (7, 0, 0) L (ab_R (ab_rd σ a 3) :: st) σ Q := gF_13_373 ko_X13_sure kc_X13_sure dX13_sure_170
theorem rX13_sure_173 : ab_Run X 236 173 (7, 0, 0) [l0, ab_I z, l2, l3, l4, l5, l6, l7, l8, l9, l10] st σ Q ↔ ab_Run X 236 174 (7, 0, 0) [l0, ab_I z, l2, l3, l4, l5, l6, l7, l8, l9, l10] (ab_I z :: st) σ Q := ab_r_iload_n rfl kc_X13_sure dX13_sure_173
theorem rX13_sure_174 : ab_Run X 236 174 (7, 0, 0) L st σ Q ↔ ab_Run X 236 175 (7, 0, 0) L (ab_I 0 :: st) σ Q := ab_r_iconst (by decide) kc_X13_sure dX13_sure_174
theorem rX13_sure_175 : ab_Run X 236 175 (7, 0, 0) L (ab_I x2 :: ab_I x1 :: ab_R a :: st) σ Q ↔ ((ab_sh σ a).1 = 13 ∧ ab_cats st ≤ 8) ∧ ab_Do X 154 [ab_R a, ab_I x1, ab_I x2] σ (fun r σ' => ab_Run X 236 178 (7, 0, 0) L (ab_psh r st) σ' Q) := ab_r_callV (w := [ab_I x2, ab_I x1]) (as := [ab_I x1, ab_I x2]) (b1 := (0, 0, 0)) 0 (Or.inl rfl) (by decide) ko_X13_sure qM_13_406 (by decide) rfl rfl rfl rfl rfl (by decide) (Nat.le_of_ble_eq_true rfl) kc_X13_sure dX13_sure_175
theorem rX13_sure_178 : ab_Run X 236 178 (7, 0, 0) [ab_R z, l1, l2, l3, l4, l5, l6, l7, l8, l9, l10] st σ Q ↔ z ≠ 0 ∧ ab_Run X 236 179 (7, 0, 0) [ab_R z, l1, l2, l3, l4, l5, l6, l7, l8, l9, l10] (ab_R z :: st) σ Q := ab_r_aload_n rfl kc_X13_sure dX13_sure_178
theorem rX13_sure_179 : ab_Run X 236 179 (7, 0, 0) L (ab_R a :: st) σ Q ↔ (ab_sh σ a).1 = 14 ∧ ab_Run X 236 182 (7, 0, 0) L (ab_R (ab_rd σ a 3) :: st) σ Q := gF_13_373 ko_X13_sure kc_X13_sure dX13_sure_179
theorem rX13_sure_182 : ab_Run X 236 182 (7, 0, 0) [l0, ab_I z, l2, l3, l4, l5, l6, l7, l8, l9, l10] st σ Q ↔ ab_Run X 236 183 (7, 0, 0) [l0, ab_I z, l2, l3, l4, l5, l6, l7, l8, l9, l10] (ab_I z :: st) σ Q := ab_r_iload_n rfl kc_X13_sure dX13_sure_182
theorem rX13_sure_183 : ab_Run X 236 183 (7, 0, 0) L st σ Q ↔ ab_Run X 236 184 (7, 0, 0) L (ab_I 1 :: st) σ Q := ab_r_iconst (by decide) kc_X13_sure dX13_sure_183
theorem rX13_sure_184 : ab_Run X 236 184 (7, 0, 0) L (ab_I x2 :: ab_I x1 :: ab_R a :: st) σ Q ↔ ((ab_sh σ a).1 = 13 ∧ ab_cats st ≤ 8) ∧ ab_Do X 154 [ab_R a, ab_I x1, ab_I x2] σ (fun r σ' => ab_Run X 236 187 (7, 0, 0) L (ab_psh r st) σ' Q) := ab_r_callV (w := [ab_I x2, ab_I x1]) (as := [ab_I x1, ab_I x2]) (b1 := (0, 0, 0)) 0 (Or.inl rfl) (by decide) ko_X13_sure qM_13_406 (by decide) rfl rfl rfl rfl rfl (by decide) (Nat.le_of_ble_eq_true rfl) kc_X13_sure dX13_sure_184
theorem rX13_sure_187 : ab_Run X 236 187 (7, 0, 0) L (ab_I b :: ab_I a :: st) σ Q ↔ ab_Run X 236 188 (7, 0, 0) L (ab_I (ab_w32 (a + b)) :: st) σ Q := ab_r_iadd kc_X13_sure dX13_sure_187
theorem rX13_sure_188 : ab_Run X 236 188 (7, 0, 0) L (ab_I a :: st) σ Q ↔ ab_Run X 236 189 (7, 0, 0) L (ab_J a :: st) σ Q := ab_r_i2l kc_X13_sure dX13_sure_188
theorem rX13_sure_189 : ab_Run X 236 189 (7, 0, 0) L (ab_J b :: ab_J a :: st) σ Q ↔ ab_Run X 236 190 (7, 0, 0) L (ab_J (ab_w64 (a * b)) :: st) σ Q := ab_r_lmul kc_X13_sure dX13_sure_189
theorem rX13_sure_190 : ab_Run X 236 190 (7, 0, 0) [l0, l1, l2, l3, ab_I z, l5, l6, l7, l8, l9, l10] st σ Q ↔ ab_Run X 236 192 (7, 0, 0) [l0, l1, l2, l3, ab_I z, l5, l6, l7, l8, l9, l10] (ab_I z :: st) σ Q := ab_r_iload rfl kc_X13_sure dX13_sure_190
theorem rX13_sure_192 : ab_Run X 236 192 (7, 0, 0) L (ab_I x3 :: ab_J x2 :: ab_J x1 :: ab_R a :: st) σ Q ↔ ((ab_sh σ a).1 = 14 ∧ ab_cats st ≤ 8) ∧ ab_Do X 166 [ab_R a, ab_J x1, ab_J x2, ab_I x3] σ (fun r σ' => ab_Run X 236 195 (7, 0, 0) L (ab_psh r st) σ' Q) := ab_r_callV (w := [ab_I x3, ab_J x2, ab_J x1]) (as := [ab_J x1, ab_J x2, ab_I x3]) (b1 := (1, 0, 0)) 0 (Or.inl rfl) (by decide) ko_X13_sure qM_13_466 (by decide) rfl rfl rfl rfl rfl (by decide) (Nat.le_of_ble_eq_true rfl) kc_X13_sure dX13_sure_192
theorem rX13_sure_195 : ab_Run X 236 195 (7, 0, 0) L [ab_J v] σ Q ↔ Q (some (ab_J v)) σ := ab_r_lreturn rfl kc_X13_sure dX13_sure_195
theorem kc_X13_curveOf : ab_code 237 = cX13_curveOf := rfl
theorem ko_X13_curveOf : ab_ow 237 = 13 := rfl
theorem rX13_curveOf_0 : ab_Run X 237 0 (6, 0, 0) [ab_R z, l1, l2, l3, l4] st σ Q ↔ z ≠ 0 ∧ ab_Run X 237 1 (6, 0, 0) [ab_R z, l1, l2, l3, l4] (ab_R z :: st) σ Q := ab_r_aload_n rfl kc_X13_curveOf dX13_curveOf_0
theorem rX13_curveOf_1 : ab_Run X 237 1 (6, 0, 0) [l0, ab_I z, l2, l3, l4] st σ Q ↔ ab_Run X 237 2 (6, 0, 0) [l0, ab_I z, l2, l3, l4] (ab_I z :: st) σ Q := ab_r_iload_n rfl kc_X13_curveOf dX13_curveOf_1
theorem rX13_curveOf_2 : ab_Run X 237 2 (6, 0, 0) [l0, l1, ab_I z, l3, l4] st σ Q ↔ ab_Run X 237 3 (6, 0, 0) [l0, l1, ab_I z, l3, l4] (ab_I z :: st) σ Q := ab_r_iload_n rfl kc_X13_curveOf dX13_curveOf_2
theorem rX13_curveOf_3 : ab_Run X 237 3 (6, 0, 0) [l0, l1, l2, ab_I z, l4] st σ Q ↔ ab_Run X 237 4 (6, 0, 0) [l0, l1, l2, ab_I z, l4] (ab_I z :: st) σ Q := ab_r_iload_n rfl kc_X13_curveOf dX13_curveOf_3
theorem rX13_curveOf_4 : ab_Run X 237 4 (6, 0, 0) L (ab_I x3 :: ab_I x2 :: ab_I x1 :: ab_R a :: st) σ Q ↔ ((ab_sh σ a).1 = 14 ∧ ab_cats st ≤ 8) ∧ ab_Do X 203 [ab_R a, ab_I x1, ab_I x2, ab_I x3] σ (fun r σ' => ab_Run X 237 7 (6, 0, 0) L (ab_psh r st) σ' Q) := ab_r_callV (w := [ab_I x3, ab_I x2, ab_I x1]) (as := [ab_I x1, ab_I x2, ab_I x3]) (b1 := (2, 0, 0)) 0 (Or.inl rfl) (by decide) ko_X13_curveOf qM_13_489 (by decide) rfl rfl rfl rfl rfl (by decide) (Nat.le_of_ble_eq_true rfl) kc_X13_curveOf dX13_curveOf_4
theorem rX13_curveOf_7 : ab_Run X 237 7 (6, 0, 0) [ab_R z, l1, l2, l3, l4] st σ Q ↔ z ≠ 0 ∧ ab_Run X 237 8 (6, 0, 0) [ab_R z, l1, l2, l3, l4] (ab_R z :: st) σ Q := ab_r_aload_n rfl kc_X13_curveOf dX13_curveOf_7
theorem rX13_curveOf_8 : ab_Run X 237 8 (6, 0, 0) [l0, l1, l2, l3, ab_I z] st σ Q ↔ ab_Run X 237 10 (6, 0, 0) [l0, l1, l2, l3, ab_I z] (ab_I z :: st) σ Q := ab_r_iload rfl kc_X13_curveOf dX13_curveOf_8
theorem rX13_curveOf_10 : ab_Run X 237 10 (6, 0, 0) L (ab_I z :: ab_R a :: st) σ Q ↔ (ab_sh σ a).1 = 14 ∧ ab_Run X 237 13 (6, 0, 0) L st (ab_wr σ a 22 z) Q := sF_13_383 ko_X13_curveOf kc_X13_curveOf dX13_curveOf_10
theorem rX13_curveOf_13 : ab_Run X 237 13 (6, 0, 0) [ab_R z, l1, l2, l3, l4] st σ Q ↔ z ≠ 0 ∧ ab_Run X 237 14 (6, 0, 0) [ab_R z, l1, l2, l3, l4] (ab_R z :: st) σ Q := ab_r_aload_n rfl kc_X13_curveOf dX13_curveOf_13
theorem rX13_curveOf_14 : ab_Run X 237 14 (6, 0, 0) L st σ Q ↔ ab_Run X 237 15 (6, 0, 0) L (ab_I 0 :: st) σ Q := ab_r_iconst (by decide) kc_X13_curveOf dX13_curveOf_14
theorem rX13_curveOf_15 : ab_Run X 237 15 (6, 0, 0) L (ab_I x1 :: ab_R a :: st) σ Q ↔ ((ab_sh σ a).1 = 14 ∧ ab_cats st ≤ 8) ∧ ab_Do X 211 [ab_R a, ab_I x1] σ (fun r σ' => ab_Run X 237 18 (6, 0, 0) L (ab_psh r st) σ' Q) := ab_r_callV (w := [ab_I x1]) (as := [ab_I x1]) (b1 := (5, 0, 0)) 0 (Or.inl rfl) (by decide) ko_X13_curveOf qM_13_462 (by decide) rfl rfl rfl rfl rfl (by decide) (Nat.le_of_ble_eq_true rfl) kc_X13_curveOf dX13_curveOf_15
theorem rX13_curveOf_18 : ab_Run X 237 18 (6, 0, 0) L [ab_J v] σ Q ↔ Q (some (ab_J v)) σ := ab_r_lreturn rfl kc_X13_curveOf dX13_curveOf_18
theorem kc_X13_curve : ab_code 238 = cX13_curve := rfl
theorem ko_X13_curve : ab_ow 238 = 13 := rfl
theorem rX13_curve_0 : ab_Run X 238 0 (7, 0, 0) [ab_R z, l1, l2, l3, l4, l5, l6, l7] st σ Q ↔ z ≠ 0 ∧ ab_Run X 238 1 (7, 0, 0) [ab_R z, l1, l2, l3, l4, l5, l6, l7] (ab_R z :: st) σ Q := ab_r_aload_n rfl kc_X13_curve dX13_curve_0
theorem rX13_curve_1 : ab_Run X 238 1 (7, 0, 0) L st σ Q ↔ ab_Run X 238 2 (7, 0, 0) L (ab_I 0 :: st) σ Q := ab_r_iconst (by decide) kc_X13_curve dX13_curve_1
theorem rX13_curve_2 : ab_Run X 238 2 (7, 0, 0) L (ab_I z :: ab_R a :: st) σ Q ↔ (ab_sh σ a).1 = 14 ∧ ab_Run X 238 5 (7, 0, 0) L st (ab_wr σ a 0 z) Q := sF_13_53 ko_X13_curve kc_X13_curve dX13_curve_2
theorem rX13_curve_5 : ab_Run X 238 5 (7, 0, 0) [ab_R z, l1, l2, l3, l4, l5, l6, l7] st σ Q ↔ z ≠ 0 ∧ ab_Run X 238 6 (7, 0, 0) [ab_R z, l1, l2, l3, l4, l5, l6, l7] (ab_R z :: st) σ Q := ab_r_aload_n rfl kc_X13_curve dX13_curve_5
theorem rX13_curve_6 : ab_Run X 238 6 (7, 0, 0) [l0, ab_I z, l2, l3, l4, l5, l6, l7] st σ Q ↔ ab_Run X 238 7 (7, 0, 0) [l0, ab_I z, l2, l3, l4, l5, l6, l7] (ab_I z :: st) σ Q := ab_r_iload_n rfl kc_X13_curve dX13_curve_6
theorem rX13_curve_7 : ab_Run X 238 7 (7, 0, 0) L (ab_I x1 :: ab_R a :: st) σ Q ↔ ((ab_sh σ a).1 = 14 ∧ ab_cats st ≤ 8) ∧ ab_Do X 212 [ab_R a, ab_I x1] σ (fun r σ' => ab_Run X 238 10 (7, 0, 0) L (ab_psh r st) σ' Q) := ab_r_callV (w := [ab_I x1]) (as := [ab_I x1]) (b1 := (0, 0, 0)) 0 (Or.inl rfl) (by decide) ko_X13_curve qM_13_444 (by decide) rfl rfl rfl rfl rfl (by decide) (Nat.le_of_ble_eq_true rfl) kc_X13_curve dX13_curve_7
theorem rX13_curve_10 : ab_Run X 238 10 (7, 0, 0) L (ab_I a :: st) σ Q ↔ (a = 0 → ab_Run X 238 22 (7, 0, 0) L st σ Q) ∧ (¬ (a = 0) → ab_Run X 238 13 (7, 0, 0) L st σ Q) := ab_r_if_eq rfl kc_X13_curve dX13_curve_10
theorem rX13_curve_13 : ab_Run X 238 13 (7, 0, 0) [ab_R z, l1, l2, l3, l4, l5, l6, l7] st σ Q ↔ z ≠ 0 ∧ ab_Run X 238 14 (7, 0, 0) [ab_R z, l1, l2, l3, l4, l5, l6, l7] (ab_R z :: st) σ Q := ab_r_aload_n rfl kc_X13_curve dX13_curve_13
theorem rX13_curve_14 : ab_Run X 238 14 (7, 0, 0) [l0, l1, ab_I z, l3, l4, l5, l6, l7] st σ Q ↔ ab_Run X 238 15 (7, 0, 0) [l0, l1, ab_I z, l3, l4, l5, l6, l7] (ab_I z :: st) σ Q := ab_r_iload_n rfl kc_X13_curve dX13_curve_14
theorem rX13_curve_15 : ab_Run X 238 15 (7, 0, 0) [l0, l1, l2, ab_I z, l4, l5, l6, l7] st σ Q ↔ ab_Run X 238 16 (7, 0, 0) [l0, l1, l2, ab_I z, l4, l5, l6, l7] (ab_I z :: st) σ Q := ab_r_iload_n rfl kc_X13_curve dX13_curve_15
theorem rX13_curve_16 : ab_Run X 238 16 (7, 0, 0) L (ab_I x2 :: ab_I x1 :: ab_R a :: st) σ Q ↔ ((ab_sh σ a).1 = 14 ∧ ab_cats st ≤ 8) ∧ ab_Do X 214 [ab_R a, ab_I x1, ab_I x2] σ (fun r σ' => ab_Run X 238 19 (7, 0, 0) L (ab_psh r st) σ' Q) := ab_r_callV (w := [ab_I x2, ab_I x1]) (as := [ab_I x1, ab_I x2]) (b1 := (1, 0, 0)) 0 (Or.inl rfl) (by decide) ko_X13_curve qM_13_455 (by decide) rfl rfl rfl rfl rfl (by decide) (Nat.le_of_ble_eq_true rfl) kc_X13_curve dX13_curve_16
theorem rX13_curve_19 : ab_Run X 238 19 (7, 0, 0) L (ab_I a :: st) σ Q ↔ (¬ a = 0 → ab_Run X 238 29 (7, 0, 0) L st σ Q) ∧ (¬ (¬ a = 0) → ab_Run X 238 22 (7, 0, 0) L st σ Q) := ab_r_if_ne rfl kc_X13_curve dX13_curve_19
theorem rX13_curve_22 : ab_Run X 238 22 (7, 0, 0) [ab_R z, l1, l2, l3, l4, l5, l6, l7] st σ Q ↔ z ≠ 0 ∧ ab_Run X 238 23 (7, 0, 0) [ab_R z, l1, l2, l3, l4, l5, l6, l7] (ab_R z :: st) σ Q := ab_r_aload_n rfl kc_X13_curve dX13_curve_22
theorem rX13_curve_23 : ab_Run X 238 23 (7, 0, 0) L st σ Q ↔ ab_Run X 238 24 (7, 0, 0) L (ab_I 1 :: st) σ Q := ab_r_iconst (by decide) kc_X13_curve dX13_curve_23
theorem rX13_curve_24 : ab_Run X 238 24 (7, 0, 0) L (ab_I x1 :: ab_R a :: st) σ Q ↔ ((ab_sh σ a).1 = 14 ∧ ab_cats st ≤ 8) ∧ ab_Do X 159 [ab_R a, ab_I x1] σ (fun r σ' => ab_Run X 238 27 (7, 0, 0) L (ab_psh r st) σ' Q) := ab_r_callV (w := [ab_I x1]) (as := [ab_I x1]) (b1 := (0, 0, 0)) 0 (Or.inl rfl) (by decide) ko_X13_curve qM_13_59 (by decide) rfl rfl rfl rfl rfl (by decide) (Nat.le_of_ble_eq_true rfl) kc_X13_curve dX13_curve_24
theorem rX13_curve_27 : ab_Run X 238 27 (7, 0, 0) L (ab_I a :: st) σ Q ↔ ab_Run X 238 28 (7, 0, 0) L (ab_J a :: st) σ Q := ab_r_i2l kc_X13_curve dX13_curve_27
theorem rX13_curve_28 : ab_Run X 238 28 (7, 0, 0) L [ab_J v] σ Q ↔ Q (some (ab_J v)) σ := ab_r_lreturn rfl kc_X13_curve dX13_curve_28
theorem rX13_curve_29 : ab_Run X 238 29 (7, 0, 0) [l0, l1, l2, l3, ab_I z, l5, l6, l7] st σ Q ↔ ab_Run X 238 31 (7, 0, 0) [l0, l1, l2, l3, ab_I z, l5, l6, l7] (ab_I z :: st) σ Q := ab_r_iload rfl kc_X13_curve dX13_curve_29
theorem rX13_curve_31 : ab_Run X 238 31 (7, 0, 0) L st σ Q ↔ ab_Run X 238 32 (7, 0, 0) L (ab_I 0 :: st) σ Q := ab_r_iconst (by decide) kc_X13_curve dX13_curve_31
theorem rX13_curve_32 : ab_Run X 238 32 (7, 0, 0) L st σ Q ↔ ab_Run X 238 34 (7, 0, 0) L (ab_I 24 :: st) σ Q := ab_r_bipush (by decide) kc_X13_curve dX13_curve_32
theorem rX13_curve_34 : ab_Run X 238 34 (7, 0, 0) L (ab_I x3 :: ab_I x2 :: ab_I x1 :: st) σ Q ↔ ab_cats st ≤ 8 ∧ ab_Do X 163 [ab_I x1, ab_I x2, ab_I x3] σ (fun r σ' => ab_Run X 238 37 (7, 0, 0) L (ab_psh r st) σ' Q) := ab_r_callS (w := [ab_I x3, ab_I x2, ab_I x1]) (as := [ab_I x1, ab_I x2, ab_I x3]) (b1 := (0, 0, 0)) (by decide) ko_X13_curve qM_13_138 (by decide) rfl rfl rfl rfl (by decide) (Nat.le_of_ble_eq_true rfl) kc_X13_curve dX13_curve_34
theorem rX13_curve_37 : ab_Run X 238 37 (7, 0, 0) L (ab_I a :: st) σ Q ↔ (¬ a = 0 → ab_Run X 238 47 (7, 0, 0) L st σ Q) ∧ (¬ (¬ a = 0) → ab_Run X 238 40 (7, 0, 0) L st σ Q) := ab_r_if_ne rfl kc_X13_curve dX13_curve_37
theorem rX13_curve_40 : ab_Run X 238 40 (7, 0, 0) [ab_R z, l1, l2, l3, l4, l5, l6, l7] st σ Q ↔ z ≠ 0 ∧ ab_Run X 238 41 (7, 0, 0) [ab_R z, l1, l2, l3, l4, l5, l6, l7] (ab_R z :: st) σ Q := ab_r_aload_n rfl kc_X13_curve dX13_curve_40
theorem rX13_curve_41 : ab_Run X 238 41 (7, 0, 0) L st σ Q ↔ ab_Run X 238 42 (7, 0, 0) L (ab_I 2 :: st) σ Q := ab_r_iconst (by decide) kc_X13_curve dX13_curve_41
theorem rX13_curve_42 : ab_Run X 238 42 (7, 0, 0) L (ab_I x1 :: ab_R a :: st) σ Q ↔ ((ab_sh σ a).1 = 14 ∧ ab_cats st ≤ 8) ∧ ab_Do X 159 [ab_R a, ab_I x1] σ (fun r σ' => ab_Run X 238 45 (7, 0, 0) L (ab_psh r st) σ' Q) := ab_r_callV (w := [ab_I x1]) (as := [ab_I x1]) (b1 := (0, 0, 0)) 0 (Or.inl rfl) (by decide) ko_X13_curve qM_13_59 (by decide) rfl rfl rfl rfl rfl (by decide) (Nat.le_of_ble_eq_true rfl) kc_X13_curve dX13_curve_42
theorem rX13_curve_45 : ab_Run X 238 45 (7, 0, 0) L (ab_I a :: st) σ Q ↔ ab_Run X 238 46 (7, 0, 0) L (ab_J a :: st) σ Q := ab_r_i2l kc_X13_curve dX13_curve_45
theorem rX13_curve_46 : ab_Run X 238 46 (7, 0, 0) L [ab_J v] σ Q ↔ Q (some (ab_J v)) σ := ab_r_lreturn rfl kc_X13_curve dX13_curve_46
theorem rX13_curve_47 : ab_Run X 238 47 (7, 0, 0) [ab_R z, l1, l2, l3, l4, l5, l6, l7] st σ Q ↔ z ≠ 0 ∧ ab_Run X 238 48 (7, 0, 0) [ab_R z, l1, l2, l3, l4, l5, l6, l7] (ab_R z :: st) σ Q := ab_r_aload_n rfl kc_X13_curve dX13_curve_47
theorem rX13_curve_48 : ab_Run X 238 48 (7, 0, 0) [l0, ab_I z, l2, l3, l4, l5, l6, l7] st σ Q ↔ ab_Run X 238 49 (7, 0, 0) [l0, ab_I z, l2, l3, l4, l5, l6, l7] (ab_I z :: st) σ Q := ab_r_iload_n rfl kc_X13_curve dX13_curve_48
theorem rX13_curve_49 : ab_Run X 238 49 (7, 0, 0) [l0, l1, ab_I z, l3, l4, l5, l6, l7] st σ Q ↔ ab_Run X 238 50 (7, 0, 0) [l0, l1, ab_I z, l3, l4, l5, l6, l7] (ab_I z :: st) σ Q := ab_r_iload_n rfl kc_X13_curve dX13_curve_49
theorem rX13_curve_50 : ab_Run X 238 50 (7, 0, 0) [l0, l1, l2, ab_I z, l4, l5, l6, l7] st σ Q ↔ ab_Run X 238 51 (7, 0, 0) [l0, l1, l2, ab_I z, l4, l5, l6, l7] (ab_I z :: st) σ Q := ab_r_iload_n rfl kc_X13_curve dX13_curve_50
theorem rX13_curve_51 : ab_Run X 238 51 (7, 0, 0) [l0, l1, l2, l3, ab_I z, l5, l6, l7] st σ Q ↔ ab_Run X 238 53 (7, 0, 0) [l0, l1, l2, l3, ab_I z, l5, l6, l7] (ab_I z :: st) σ Q := ab_r_iload rfl kc_X13_curve dX13_curve_51
theorem rX13_curve_53 : ab_Run X 238 53 (7, 0, 0) L (ab_I x4 :: ab_I x3 :: ab_I x2 :: ab_I x1 :: ab_R a :: st) σ Q ↔ ((ab_sh σ a).1 = 14 ∧ ab_cats st ≤ 8) ∧ ab_Do X 237 [ab_R a, ab_I x1, ab_I x2, ab_I x3, ab_I x4] σ (fun r σ' => ab_Run X 238 56 (7, 0, 0) L (ab_psh r st) σ' Q) := ab_r_callV (w := [ab_I x4, ab_I x3, ab_I x2, ab_I x1]) (as := [ab_I x1, ab_I x2, ab_I x3, ab_I x4]) (b1 := (6, 0, 0)) 0 (Or.inl rfl) (by decide) ko_X13_curve qM_13_492 (by decide) rfl rfl rfl rfl rfl (by decide) (Nat.le_of_ble_eq_true rfl) kc_X13_curve dX13_curve_53
theorem rX13_curve_56 : ab_Run X 238 56 (7, 0, 0) [l0, l1, l2, l3, l4, l5, l6, l7] (ab_J z :: st) σ Q ↔ (!ab_isJ l5) = true ∧ ab_Run X 238 58 (7, 0, 0) [l0, l1, l2, l3, l4, l5, ab_J z, ab_R 0] st σ Q := ab_r_lstore (Nat.le_of_ble_eq_true rfl) kc_X13_curve dX13_curve_56
theorem rX13_curve_58 : ab_Run X 238 58 (7, 0, 0) [ab_R z, l1, l2, l3, l4, l5, l6, l7] st σ Q ↔ z ≠ 0 ∧ ab_Run X 238 59 (7, 0, 0) [ab_R z, l1, l2, l3, l4, l5, l6, l7] (ab_R z :: st) σ Q := ab_r_aload_n rfl kc_X13_curve dX13_curve_58
theorem rX13_curve_59 : ab_Run X 238 59 (7, 0, 0) [l0, l1, l2, l3, l4, l5, ab_J z, l7] st σ Q ↔ ab_Run X 238 61 (7, 0, 0) [l0, l1, l2, l3, l4, l5, ab_J z, l7] (ab_J z :: st) σ Q := ab_r_lload rfl kc_X13_curve dX13_curve_59
theorem rX13_curve_61 : ab_Run X 238 61 (7, 0, 0) L st σ Q ↔ ab_Run X 238 64 (7, 0, 0) L (ab_J 100 :: st) σ Q := ab_r_ldc2_w rfl ko_X13_curve (by decide +kernel) kc_X13_curve dX13_curve_61
theorem rX13_curve_64 : ab_Run X 238 64 (7, 0, 0) [ab_R z, l1, l2, l3, l4, l5, l6, l7] st σ Q ↔ z ≠ 0 ∧ ab_Run X 238 65 (7, 0, 0) [ab_R z, l1, l2, l3, l4, l5, l6, l7] (ab_R z :: st) σ Q := ab_r_aload_n rfl kc_X13_curve dX13_curve_64
theorem rX13_curve_65 : ab_Run X 238 65 (7, 0, 0) L (ab_R a :: st) σ Q ↔ ((ab_sh σ a).1 = 14 ∧ ab_cats st ≤ 8) ∧ ab_Do X 209 [ab_R a] σ (fun r σ' => ab_Run X 238 68 (7, 0, 0) L (ab_psh r st) σ' Q) := ab_r_callV (w := []) (as := []) (b1 := (1, 0, 0)) 0 (Or.inl rfl) (by decide) ko_X13_curve qM_13_430 (by decide) rfl rfl rfl rfl rfl (by decide) (Nat.le_of_ble_eq_true rfl) kc_X13_curve dX13_curve_65
theorem rX13_curve_68 : ab_Run X 238 68 (7, 0, 0) L (ab_I a :: st) σ Q ↔ ab_Run X 238 69 (7, 0, 0) L (ab_J a :: st) σ Q := ab_r_i2l kc_X13_curve dX13_curve_68
theorem rX13_curve_69 : ab_Run X 238 69 (7, 0, 0) L (ab_J b :: ab_J a :: st) σ Q ↔ ab_Run X 238 70 (7, 0, 0) L (ab_J (ab_w64 (a * b)) :: st) σ Q := ab_r_lmul kc_X13_curve dX13_curve_69
theorem rX13_curve_70 : ab_Run X 238 70 (7, 0, 0) [l0, l1, l2, l3, l4, ab_I z, l6, l7] st σ Q ↔ ab_Run X 238 72 (7, 0, 0) [l0, l1, l2, l3, l4, ab_I z, l6, l7] (ab_I z :: st) σ Q := ab_r_iload rfl kc_X13_curve dX13_curve_70
theorem rX13_curve_72 : ab_Run X 238 72 (7, 0, 0) L (ab_I x3 :: ab_J x2 :: ab_J x1 :: ab_R a :: st) σ Q ↔ ((ab_sh σ a).1 = 14 ∧ ab_cats st ≤ 8) ∧ ab_Do X 166 [ab_R a, ab_J x1, ab_J x2, ab_I x3] σ (fun r σ' => ab_Run X 238 75 (7, 0, 0) L (ab_psh r st) σ' Q) := ab_r_callV (w := [ab_I x3, ab_J x2, ab_J x1]) (as := [ab_J x1, ab_J x2, ab_I x3]) (b1 := (1, 0, 0)) 0 (Or.inl rfl) (by decide) ko_X13_curve qM_13_466 (by decide) rfl rfl rfl rfl rfl (by decide) (Nat.le_of_ble_eq_true rfl) kc_X13_curve dX13_curve_72
theorem rX13_curve_75 : ab_Run X 238 75 (7, 0, 0) L [ab_J v] σ Q ↔ Q (some (ab_J v)) σ := ab_r_lreturn rfl kc_X13_curve dX13_curve_75
theorem kc_X13_bestDay : ab_code 239 = cX13_bestDay := rfl
theorem ko_X13_bestDay : ab_ow 239 = 13 := rfl
theorem rX13_bestDay_0 : ab_Run X 239 0 (7, 0, 0) [ab_R z, l1, l2, l3, l4, l5] st σ Q ↔ z ≠ 0 ∧ ab_Run X 239 1 (7, 0, 0) [ab_R z, l1, l2, l3, l4, l5] (ab_R z :: st) σ Q := ab_r_aload_n rfl kc_X13_bestDay dX13_bestDay_0
theorem rX13_bestDay_1 : ab_Run X 239 1 (7, 0, 0) L st σ Q ↔ ab_Run X 239 2 (7, 0, 0) L (ab_I 0 :: st) σ Q := ab_r_iconst (by decide) kc_X13_bestDay dX13_bestDay_1
theorem rX13_bestDay_2 : ab_Run X 239 2 (7, 0, 0) L (ab_I z :: ab_R a :: st) σ Q ↔ (ab_sh σ a).1 = 14 ∧ ab_Run X 239 5 (7, 0, 0) L st (ab_wr σ a 0 z) Q := sF_13_53 ko_X13_bestDay kc_X13_bestDay dX13_bestDay_2
theorem rX13_bestDay_5 : ab_Run X 239 5 (7, 0, 0) [ab_R z, l1, l2, l3, l4, l5] st σ Q ↔ z ≠ 0 ∧ ab_Run X 239 6 (7, 0, 0) [ab_R z, l1, l2, l3, l4, l5] (ab_R z :: st) σ Q := ab_r_aload_n rfl kc_X13_bestDay dX13_bestDay_5
theorem rX13_bestDay_6 : ab_Run X 239 6 (7, 0, 0) [l0, ab_I z, l2, l3, l4, l5] st σ Q ↔ ab_Run X 239 7 (7, 0, 0) [l0, ab_I z, l2, l3, l4, l5] (ab_I z :: st) σ Q := ab_r_iload_n rfl kc_X13_bestDay dX13_bestDay_6
theorem rX13_bestDay_7 : ab_Run X 239 7 (7, 0, 0) L (ab_I x1 :: ab_R a :: st) σ Q ↔ ((ab_sh σ a).1 = 14 ∧ ab_cats st ≤ 8) ∧ ab_Do X 212 [ab_R a, ab_I x1] σ (fun r σ' => ab_Run X 239 10 (7, 0, 0) L (ab_psh r st) σ' Q) := ab_r_callV (w := [ab_I x1]) (as := [ab_I x1]) (b1 := (0, 0, 0)) 0 (Or.inl rfl) (by decide) ko_X13_bestDay qM_13_444 (by decide) rfl rfl rfl rfl rfl (by decide) (Nat.le_of_ble_eq_true rfl) kc_X13_bestDay dX13_bestDay_7
theorem rX13_bestDay_10 : ab_Run X 239 10 (7, 0, 0) L (ab_I a :: st) σ Q ↔ (a = 0 → ab_Run X 239 22 (7, 0, 0) L st σ Q) ∧ (¬ (a = 0) → ab_Run X 239 13 (7, 0, 0) L st σ Q) := ab_r_if_eq rfl kc_X13_bestDay dX13_bestDay_10
theorem rX13_bestDay_13 : ab_Run X 239 13 (7, 0, 0) [ab_R z, l1, l2, l3, l4, l5] st σ Q ↔ z ≠ 0 ∧ ab_Run X 239 14 (7, 0, 0) [ab_R z, l1, l2, l3, l4, l5] (ab_R z :: st) σ Q := ab_r_aload_n rfl kc_X13_bestDay dX13_bestDay_13
theorem rX13_bestDay_14 : ab_Run X 239 14 (7, 0, 0) [l0, l1, ab_I z, l3, l4, l5] st σ Q ↔ ab_Run X 239 15 (7, 0, 0) [l0, l1, ab_I z, l3, l4, l5] (ab_I z :: st) σ Q := ab_r_iload_n rfl kc_X13_bestDay dX13_bestDay_14
theorem rX13_bestDay_15 : ab_Run X 239 15 (7, 0, 0) [l0, l1, l2, ab_I z, l4, l5] st σ Q ↔ ab_Run X 239 16 (7, 0, 0) [l0, l1, l2, ab_I z, l4, l5] (ab_I z :: st) σ Q := ab_r_iload_n rfl kc_X13_bestDay dX13_bestDay_15
theorem rX13_bestDay_16 : ab_Run X 239 16 (7, 0, 0) L (ab_I x2 :: ab_I x1 :: ab_R a :: st) σ Q ↔ ((ab_sh σ a).1 = 14 ∧ ab_cats st ≤ 8) ∧ ab_Do X 214 [ab_R a, ab_I x1, ab_I x2] σ (fun r σ' => ab_Run X 239 19 (7, 0, 0) L (ab_psh r st) σ' Q) := ab_r_callV (w := [ab_I x2, ab_I x1]) (as := [ab_I x1, ab_I x2]) (b1 := (1, 0, 0)) 0 (Or.inl rfl) (by decide) ko_X13_bestDay qM_13_455 (by decide) rfl rfl rfl rfl rfl (by decide) (Nat.le_of_ble_eq_true rfl) kc_X13_bestDay dX13_bestDay_16
theorem rX13_bestDay_19 : ab_Run X 239 19 (7, 0, 0) L (ab_I a :: st) σ Q ↔ (¬ a = 0 → ab_Run X 239 28 (7, 0, 0) L st σ Q) ∧ (¬ (¬ a = 0) → ab_Run X 239 22 (7, 0, 0) L st σ Q) := ab_r_if_ne rfl kc_X13_bestDay dX13_bestDay_19
theorem rX13_bestDay_22 : ab_Run X 239 22 (7, 0, 0) [ab_R z, l1, l2, l3, l4, l5] st σ Q ↔ z ≠ 0 ∧ ab_Run X 239 23 (7, 0, 0) [ab_R z, l1, l2, l3, l4, l5] (ab_R z :: st) σ Q := ab_r_aload_n rfl kc_X13_bestDay dX13_bestDay_22
theorem rX13_bestDay_23 : ab_Run X 239 23 (7, 0, 0) L st σ Q ↔ ab_Run X 239 24 (7, 0, 0) L (ab_I 1 :: st) σ Q := ab_r_iconst (by decide) kc_X13_bestDay dX13_bestDay_23
theorem rX13_bestDay_24 : ab_Run X 239 24 (7, 0, 0) L (ab_I x1 :: ab_R a :: st) σ Q ↔ ((ab_sh σ a).1 = 14 ∧ ab_cats st ≤ 8) ∧ ab_Do X 159 [ab_R a, ab_I x1] σ (fun r σ' => ab_Run X 239 27 (7, 0, 0) L (ab_psh r st) σ' Q) := ab_r_callV (w := [ab_I x1]) (as := [ab_I x1]) (b1 := (0, 0, 0)) 0 (Or.inl rfl) (by decide) ko_X13_bestDay qM_13_59 (by decide) rfl rfl rfl rfl rfl (by decide) (Nat.le_of_ble_eq_true rfl) kc_X13_bestDay dX13_bestDay_24
theorem rX13_bestDay_27 : ab_Run X 239 27 (7, 0, 0) L [ab_I v] σ Q ↔ Q (some (ab_I v)) σ := ab_r_ireturnI rfl kc_X13_bestDay dX13_bestDay_27
theorem rX13_bestDay_28 : ab_Run X 239 28 (7, 0, 0) L st σ Q ↔ ab_Run X 239 29 (7, 0, 0) L (ab_I 0 :: st) σ Q := ab_r_iconst (by decide) kc_X13_bestDay dX13_bestDay_28
theorem rX13_bestDay_29 : ab_Run X 239 29 (7, 0, 0) [l0, l1, l2, l3, l4, l5] (ab_I z :: st) σ Q ↔ (!ab_isJ l3) = true ∧ ab_Run X 239 31 (7, 0, 0) [l0, l1, l2, l3, ab_I z, l5] st σ Q := ab_r_istore (Nat.le_of_ble_eq_true rfl) kc_X13_bestDay dX13_bestDay_29
theorem rX13_bestDay_31 : ab_Run X 239 31 (7, 0, 0) L st σ Q ↔ ab_Run X 239 32 (7, 0, 0) L (ab_I 1 :: st) σ Q := ab_r_iconst (by decide) kc_X13_bestDay dX13_bestDay_31
theorem rX13_bestDay_32 : ab_Run X 239 32 (7, 0, 0) [l0, l1, l2, l3, l4, l5] (ab_I z :: st) σ Q ↔ (!ab_isJ l4) = true ∧ ab_Run X 239 34 (7, 0, 0) [l0, l1, l2, l3, l4, ab_I z] st σ Q := ab_r_istore (Nat.le_of_ble_eq_true rfl) kc_X13_bestDay dX13_bestDay_32
theorem rX13_bestDay_34 : ab_Run X 239 34 (7, 0, 0) [l0, l1, l2, l3, l4, ab_I z] st σ Q ↔ ab_Run X 239 36 (7, 0, 0) [l0, l1, l2, l3, l4, ab_I z] (ab_I z :: st) σ Q := ab_r_iload rfl kc_X13_bestDay dX13_bestDay_34
theorem rX13_bestDay_36 : ab_Run X 239 36 (7, 0, 0) L st σ Q ↔ ab_Run X 239 38 (7, 0, 0) L (ab_I 24 :: st) σ Q := ab_r_bipush (by decide) kc_X13_bestDay dX13_bestDay_36
theorem rX13_bestDay_38 : ab_Run X 239 38 (7, 0, 0) L (ab_I b :: ab_I a :: st) σ Q ↔ (b < a → ab_Run X 239 73 (7, 0, 0) L st σ Q) ∧ (¬ (b < a) → ab_Run X 239 41 (7, 0, 0) L st σ Q) := ab_r_icmp_gt rfl kc_X13_bestDay dX13_bestDay_38
theorem rX13_bestDay_41 : ab_Run X 239 41 (7, 0, 0) [ab_R z, l1, l2, l3, l4, l5] st σ Q ↔ z ≠ 0 ∧ ab_Run X 239 42 (7, 0, 0) [ab_R z, l1, l2, l3, l4, l5] (ab_R z :: st) σ Q := ab_r_aload_n rfl kc_X13_bestDay dX13_bestDay_41
theorem rX13_bestDay_42 : ab_Run X 239 42 (7, 0, 0) [l0, ab_I z, l2, l3, l4, l5] st σ Q ↔ ab_Run X 239 43 (7, 0, 0) [l0, ab_I z, l2, l3, l4, l5] (ab_I z :: st) σ Q := ab_r_iload_n rfl kc_X13_bestDay dX13_bestDay_42
theorem rX13_bestDay_43 : ab_Run X 239 43 (7, 0, 0) [l0, l1, ab_I z, l3, l4, l5] st σ Q ↔ ab_Run X 239 44 (7, 0, 0) [l0, l1, ab_I z, l3, l4, l5] (ab_I z :: st) σ Q := ab_r_iload_n rfl kc_X13_bestDay dX13_bestDay_43
theorem rX13_bestDay_44 : ab_Run X 239 44 (7, 0, 0) [l0, l1, l2, ab_I z, l4, l5] st σ Q ↔ ab_Run X 239 45 (7, 0, 0) [l0, l1, l2, ab_I z, l4, l5] (ab_I z :: st) σ Q := ab_r_iload_n rfl kc_X13_bestDay dX13_bestDay_44
theorem rX13_bestDay_45 : ab_Run X 239 45 (7, 0, 0) [l0, l1, l2, l3, l4, ab_I z] st σ Q ↔ ab_Run X 239 47 (7, 0, 0) [l0, l1, l2, l3, l4, ab_I z] (ab_I z :: st) σ Q := ab_r_iload rfl kc_X13_bestDay dX13_bestDay_45
theorem rX13_bestDay_47 : ab_Run X 239 47 (7, 0, 0) L (ab_I x4 :: ab_I x3 :: ab_I x2 :: ab_I x1 :: ab_R a :: st) σ Q ↔ ((ab_sh σ a).1 = 14 ∧ ab_cats st ≤ 8) ∧ ab_Do X 237 [ab_R a, ab_I x1, ab_I x2, ab_I x3, ab_I x4] σ (fun r σ' => ab_Run X 239 50 (7, 0, 0) L (ab_psh r st) σ' Q) := ab_r_callV (w := [ab_I x4, ab_I x3, ab_I x2, ab_I x1]) (as := [ab_I x1, ab_I x2, ab_I x3, ab_I x4]) (b1 := (6, 0, 0)) 0 (Or.inl rfl) (by decide) ko_X13_bestDay qM_13_492 (by decide) rfl rfl rfl rfl rfl (by decide) (Nat.le_of_ble_eq_true rfl) kc_X13_bestDay dX13_bestDay_47
theorem rX13_bestDay_50 : ab_Run X 239 50 (7, 0, 0) [ab_R z, l1, l2, l3, l4, l5] st σ Q ↔ z ≠ 0 ∧ ab_Run X 239 51 (7, 0, 0) [ab_R z, l1, l2, l3, l4, l5] (ab_R z :: st) σ Q := ab_r_aload_n rfl kc_X13_bestDay dX13_bestDay_50
theorem rX13_bestDay_51 : ab_Run X 239 51 (7, 0, 0) [l0, ab_I z, l2, l3, l4, l5] st σ Q ↔ ab_Run X 239 52 (7, 0, 0) [l0, ab_I z, l2, l3, l4, l5] (ab_I z :: st) σ Q := ab_r_iload_n rfl kc_X13_bestDay dX13_bestDay_51
theorem rX13_bestDay_52 : ab_Run X 239 52 (7, 0, 0) [l0, l1, ab_I z, l3, l4, l5] st σ Q ↔ ab_Run X 239 53 (7, 0, 0) [l0, l1, ab_I z, l3, l4, l5] (ab_I z :: st) σ Q := ab_r_iload_n rfl kc_X13_bestDay dX13_bestDay_52
theorem rX13_bestDay_53 : ab_Run X 239 53 (7, 0, 0) [l0, l1, l2, ab_I z, l4, l5] st σ Q ↔ ab_Run X 239 54 (7, 0, 0) [l0, l1, l2, ab_I z, l4, l5] (ab_I z :: st) σ Q := ab_r_iload_n rfl kc_X13_bestDay dX13_bestDay_53
theorem rX13_bestDay_54 : ab_Run X 239 54 (7, 0, 0) [l0, l1, l2, l3, ab_I z, l5] st σ Q ↔ ab_Run X 239 56 (7, 0, 0) [l0, l1, l2, l3, ab_I z, l5] (ab_I z :: st) σ Q := ab_r_iload rfl kc_X13_bestDay dX13_bestDay_54
theorem rX13_bestDay_56 : ab_Run X 239 56 (7, 0, 0) L (ab_I x4 :: ab_I x3 :: ab_I x2 :: ab_I x1 :: ab_R a :: st) σ Q ↔ ((ab_sh σ a).1 = 14 ∧ ab_cats st ≤ 8) ∧ ab_Do X 237 [ab_R a, ab_I x1, ab_I x2, ab_I x3, ab_I x4] σ (fun r σ' => ab_Run X 239 59 (7, 0, 0) L (ab_psh r st) σ' Q) := ab_r_callV (w := [ab_I x4, ab_I x3, ab_I x2, ab_I x1]) (as := [ab_I x1, ab_I x2, ab_I x3, ab_I x4]) (b1 := (6, 0, 0)) 0 (Or.inl rfl) (by decide) ko_X13_bestDay qM_13_492 (by decide) rfl rfl rfl rfl rfl (by decide) (Nat.le_of_ble_eq_true rfl) kc_X13_bestDay dX13_bestDay_56
theorem rX13_bestDay_59 : ab_Run X 239 59 (7, 0, 0) L (ab_J b :: ab_J a :: st) σ Q ↔ ab_Run X 239 60 (7, 0, 0) L (ab_I (if b < a then 1 else if a = b then 0 else -1) :: st) σ Q := ab_r_lcmp kc_X13_bestDay dX13_bestDay_59
theorem rX13_bestDay_60 : ab_Run X 239 60 (7, 0, 0) L (ab_I a :: st) σ Q ↔ (a ≤ 0 → ab_Run X 239 67 (7, 0, 0) L st σ Q) ∧ (¬ (a ≤ 0) → ab_Run X 239 63 (7, 0, 0) L st σ Q) := ab_r_if_le rfl kc_X13_bestDay dX13_bestDay_60
theorem rX13_bestDay_63 : ab_Run X 239 63 (7, 0, 0) [l0, l1, l2, l3, l4, ab_I z] st σ Q ↔ ab_Run X 239 65 (7, 0, 0) [l0, l1, l2, l3, l4, ab_I z] (ab_I z :: st) σ Q := ab_r_iload rfl kc_X13_bestDay dX13_bestDay_63
theorem rX13_bestDay_65 : ab_Run X 239 65 (7, 0, 0) [l0, l1, l2, l3, l4, l5] (ab_I z :: st) σ Q ↔ (!ab_isJ l3) = true ∧ ab_Run X 239 67 (7, 0, 0) [l0, l1, l2, l3, ab_I z, l5] st σ Q := ab_r_istore (Nat.le_of_ble_eq_true rfl) kc_X13_bestDay dX13_bestDay_65
theorem rX13_bestDay_67 : ab_Run X 239 67 (7, 0, 0) [l0, l1, l2, l3, l4, ab_I z] st σ Q ↔ (!ab_isJ l4) = true ∧ ab_Run X 239 70 (7, 0, 0) [l0, l1, l2, l3, l4, ab_I (ab_w32 (z + 1))] st σ Q := ab_r_iinc rfl (by decide) kc_X13_bestDay dX13_bestDay_67
theorem rX13_bestDay_70 : ab_Run X 239 70 (7, 0, 0) L st σ Q ↔ ab_Run X 239 34 (7, 0, 0) L st σ Q := ab_r_goto rfl kc_X13_bestDay dX13_bestDay_70
theorem rX13_bestDay_73 : ab_Run X 239 73 (7, 0, 0) [ab_R z, l1, l2, l3, l4, l5] st σ Q ↔ z ≠ 0 ∧ ab_Run X 239 74 (7, 0, 0) [ab_R z, l1, l2, l3, l4, l5] (ab_R z :: st) σ Q := ab_r_aload_n rfl kc_X13_bestDay dX13_bestDay_73
theorem rX13_bestDay_74 : ab_Run X 239 74 (7, 0, 0) [l0, l1, l2, l3, ab_I z, l5] st σ Q ↔ ab_Run X 239 76 (7, 0, 0) [l0, l1, l2, l3, ab_I z, l5] (ab_I z :: st) σ Q := ab_r_iload rfl kc_X13_bestDay dX13_bestDay_74
theorem rX13_bestDay_76 : ab_Run X 239 76 (7, 0, 0) L (ab_I x1 :: ab_R a :: st) σ Q ↔ ((ab_sh σ a).1 = 14 ∧ ab_cats st ≤ 8) ∧ ab_Do X 161 [ab_R a, ab_I x1] σ (fun r σ' => ab_Run X 239 79 (7, 0, 0) L (ab_psh r st) σ' Q) := ab_r_callV (w := [ab_I x1]) (as := [ab_I x1]) (b1 := (0, 0, 0)) 0 (Or.inl rfl) (by decide) ko_X13_bestDay qM_13_63 (by decide) rfl rfl rfl rfl rfl (by decide) (Nat.le_of_ble_eq_true rfl) kc_X13_bestDay dX13_bestDay_76
theorem rX13_bestDay_79 : ab_Run X 239 79 (7, 0, 0) L [ab_I v] σ Q ↔ Q (some (ab_I v)) σ := ab_r_ireturnI rfl kc_X13_bestDay dX13_bestDay_79
theorem kc_X13_oddsWith : ab_code 240 = cX13_oddsWith := rfl
theorem ko_X13_oddsWith : ab_ow 240 = 13 := rfl
theorem rX13_oddsWith_0 : ab_Run X 240 0 (6, 0, 0) [ab_R z, l1, l2, l3, l4] st σ Q ↔ z ≠ 0 ∧ ab_Run X 240 1 (6, 0, 0) [ab_R z, l1, l2, l3, l4] (ab_R z :: st) σ Q := ab_r_aload_n rfl kc_X13_oddsWith dX13_oddsWith_0
theorem rX13_oddsWith_1 : ab_Run X 240 1 (6, 0, 0) [l0, ab_I z, l2, l3, l4] st σ Q ↔ ab_Run X 240 2 (6, 0, 0) [l0, ab_I z, l2, l3, l4] (ab_I z :: st) σ Q := ab_r_iload_n rfl kc_X13_oddsWith dX13_oddsWith_1
theorem rX13_oddsWith_2 : ab_Run X 240 2 (6, 0, 0) [l0, l1, l2, l3, ab_I z] st σ Q ↔ ab_Run X 240 4 (6, 0, 0) [l0, l1, l2, l3, ab_I z] (ab_I z :: st) σ Q := ab_r_iload rfl kc_X13_oddsWith dX13_oddsWith_2
theorem rX13_oddsWith_4 : ab_Run X 240 4 (6, 0, 0) L (ab_I a :: st) σ Q ↔ (¬ a = 0 → ab_Run X 240 11 (6, 0, 0) L st σ Q) ∧ (¬ (¬ a = 0) → ab_Run X 240 7 (6, 0, 0) L st σ Q) := ab_r_if_ne rfl kc_X13_oddsWith dX13_oddsWith_4
theorem rX13_oddsWith_7 : ab_Run X 240 7 (6, 0, 0) [l0, l1, ab_I z, l3, l4] st σ Q ↔ ab_Run X 240 8 (6, 0, 0) [l0, l1, ab_I z, l3, l4] (ab_I z :: st) σ Q := ab_r_iload_n rfl kc_X13_oddsWith dX13_oddsWith_7
theorem rX13_oddsWith_8 : ab_Run X 240 8 (6, 0, 0) L st σ Q ↔ ab_Run X 240 12 (6, 0, 0) L st σ Q := ab_r_goto rfl kc_X13_oddsWith dX13_oddsWith_8
theorem rX13_oddsWith_11 : ab_Run X 240 11 (6, 0, 0) [l0, l1, l2, ab_I z, l4] st σ Q ↔ ab_Run X 240 12 (6, 0, 0) [l0, l1, l2, ab_I z, l4] (ab_I z :: st) σ Q := ab_r_iload_n rfl kc_X13_oddsWith dX13_oddsWith_11
theorem rX13_oddsWith_12 : ab_Run X 240 12 (6, 0, 0) [l0, l1, l2, l3, ab_I z] st σ Q ↔ ab_Run X 240 14 (6, 0, 0) [l0, l1, l2, l3, ab_I z] (ab_I z :: st) σ Q := ab_r_iload rfl kc_X13_oddsWith dX13_oddsWith_12
theorem rX13_oddsWith_14 : ab_Run X 240 14 (6, 0, 0) L (ab_I a :: st) σ Q ↔ (¬ a = 0 → ab_Run X 240 21 (6, 0, 0) L st σ Q) ∧ (¬ (¬ a = 0) → ab_Run X 240 17 (6, 0, 0) L st σ Q) := ab_r_if_ne rfl kc_X13_oddsWith dX13_oddsWith_14
theorem rX13_oddsWith_17 : ab_Run X 240 17 (6, 0, 0) [l0, l1, l2, ab_I z, l4] st σ Q ↔ ab_Run X 240 18 (6, 0, 0) [l0, l1, l2, ab_I z, l4] (ab_I z :: st) σ Q := ab_r_iload_n rfl kc_X13_oddsWith dX13_oddsWith_17
theorem rX13_oddsWith_18 : ab_Run X 240 18 (6, 0, 0) L st σ Q ↔ ab_Run X 240 22 (6, 0, 0) L st σ Q := ab_r_goto rfl kc_X13_oddsWith dX13_oddsWith_18
theorem rX13_oddsWith_21 : ab_Run X 240 21 (6, 0, 0) [l0, l1, ab_I z, l3, l4] st σ Q ↔ ab_Run X 240 22 (6, 0, 0) [l0, l1, ab_I z, l3, l4] (ab_I z :: st) σ Q := ab_r_iload_n rfl kc_X13_oddsWith dX13_oddsWith_21
theorem rX13_oddsWith_22 : ab_Run X 240 22 (6, 0, 0) L (ab_I x3 :: ab_I x2 :: ab_I x1 :: ab_R a :: st) σ Q ↔ ((ab_sh σ a).1 = 14 ∧ ab_cats st ≤ 8) ∧ ab_Do X 203 [ab_R a, ab_I x1, ab_I x2, ab_I x3] σ (fun r σ' => ab_Run X 240 25 (6, 0, 0) L (ab_psh r st) σ' Q) := ab_r_callV (w := [ab_I x3, ab_I x2, ab_I x1]) (as := [ab_I x1, ab_I x2, ab_I x3]) (b1 := (2, 0, 0)) 0 (Or.inl rfl) (by decide) ko_X13_oddsWith qM_13_489 (by decide) rfl rfl rfl rfl rfl (by decide) (Nat.le_of_ble_eq_true rfl) kc_X13_oddsWith dX13_oddsWith_22
theorem rX13_oddsWith_25 : ab_Run X 240 25 (6, 0, 0) [ab_R z, l1, l2, l3, l4] st σ Q ↔ z ≠ 0 ∧ ab_Run X 240 26 (6, 0, 0) [ab_R z, l1, l2, l3, l4] (ab_R z :: st) σ Q := ab_r_aload_n rfl kc_X13_oddsWith dX13_oddsWith_25
theorem rX13_oddsWith_26 : ab_Run X 240 26 (6, 0, 0) [l0, l1, l2, l3, ab_I z] st σ Q ↔ ab_Run X 240 28 (6, 0, 0) [l0, l1, l2, l3, ab_I z] (ab_I z :: st) σ Q := ab_r_iload rfl kc_X13_oddsWith dX13_oddsWith_26
theorem rX13_oddsWith_28 : ab_Run X 240 28 (6, 0, 0) L (ab_I x1 :: ab_R a :: st) σ Q ↔ ((ab_sh σ a).1 = 14 ∧ ab_cats st ≤ 8) ∧ ab_Do X 211 [ab_R a, ab_I x1] σ (fun r σ' => ab_Run X 240 31 (6, 0, 0) L (ab_psh r st) σ' Q) := ab_r_callV (w := [ab_I x1]) (as := [ab_I x1]) (b1 := (5, 0, 0)) 0 (Or.inl rfl) (by decide) ko_X13_oddsWith qM_13_462 (by decide) rfl rfl rfl rfl rfl (by decide) (Nat.le_of_ble_eq_true rfl) kc_X13_oddsWith dX13_oddsWith_28
theorem rX13_oddsWith_31 : ab_Run X 240 31 (6, 0, 0) L [ab_J v] σ Q ↔ Q (some (ab_J v)) σ := ab_r_lreturn rfl kc_X13_oddsWith dX13_oddsWith_31
theorem kc_X13_thickness : ab_code 241 = cX13_thickness := rfl
theorem ko_X13_thickness : ab_ow 241 = 13 := rfl
theorem rX13_thickness_0 : ab_Run X 241 0 (1, 0, 0) L st σ Q ↔ ab_Run X 241 1 (1, 0, 0) L (ab_I 0 :: st) σ Q := ab_r_iconst (by decide) kc_X13_thickness dX13_thickness_0
theorem rX13_thickness_1 : ab_Run X 241 1 (1, 0, 0) [l0, l1, l2, l3, l4] (ab_I z :: st) σ Q ↔ (!ab_isJ l2) = true ∧ ab_Run X 241 2 (1, 0, 0) [l0, l1, l2, ab_I z, l4] st σ Q := ab_r_istore_n (Nat.le_of_ble_eq_true rfl) kc_X13_thickness dX13_thickness_1
theorem rX13_thickness_2 : ab_Run X 241 2 (1, 0, 0) L st σ Q ↔ ab_Run X 241 3 (1, 0, 0) L (ab_I 0 :: st) σ Q := ab_r_iconst (by decide) kc_X13_thickness dX13_thickness_2
theorem rX13_thickness_3 : ab_Run X 241 3 (1, 0, 0) [l0, l1, l2, l3, l4] (ab_I z :: st) σ Q ↔ (!ab_isJ l3) = true ∧ ab_Run X 241 5 (1, 0, 0) [l0, l1, l2, l3, ab_I z] st σ Q := ab_r_istore (Nat.le_of_ble_eq_true rfl) kc_X13_thickness dX13_thickness_3
theorem rX13_thickness_5 : ab_Run X 241 5 (1, 0, 0) [l0, l1, l2, l3, ab_I z] st σ Q ↔ ab_Run X 241 7 (1, 0, 0) [l0, l1, l2, l3, ab_I z] (ab_I z :: st) σ Q := ab_r_iload rfl kc_X13_thickness dX13_thickness_5
theorem rX13_thickness_7 : ab_Run X 241 7 (1, 0, 0) [ab_R z, l1, l2, l3, l4] st σ Q ↔ z ≠ 0 ∧ ab_Run X 241 8 (1, 0, 0) [ab_R z, l1, l2, l3, l4] (ab_R z :: st) σ Q := ab_r_aload_n rfl kc_X13_thickness dX13_thickness_7
theorem rX13_thickness_8 : ab_Run X 241 8 (1, 0, 0) L (ab_R a :: st) σ Q ↔ (ab_sh σ a).1 = 14 ∧ ab_Run X 241 11 (1, 0, 0) L (ab_R (ab_rd σ a 3) :: st) σ Q := gF_13_373 ko_X13_thickness kc_X13_thickness dX13_thickness_8
theorem rX13_thickness_11 : ab_Run X 241 11 (1, 0, 0) [l0, ab_I z, l2, l3, l4] st σ Q ↔ ab_Run X 241 12 (1, 0, 0) [l0, ab_I z, l2, l3, l4] (ab_I z :: st) σ Q := ab_r_iload_n rfl kc_X13_thickness dX13_thickness_11
theorem rX13_thickness_12 : ab_Run X 241 12 (1, 0, 0) [l0, l1, ab_I z, l3, l4] st σ Q ↔ ab_Run X 241 13 (1, 0, 0) [l0, l1, ab_I z, l3, l4] (ab_I z :: st) σ Q := ab_r_iload_n rfl kc_X13_thickness dX13_thickness_12
theorem rX13_thickness_13 : ab_Run X 241 13 (1, 0, 0) L (ab_I x2 :: ab_I x1 :: ab_R a :: st) σ Q ↔ ((ab_sh σ a).1 = 13 ∧ ab_cats st ≤ 8) ∧ ab_Do X 154 [ab_R a, ab_I x1, ab_I x2] σ (fun r σ' => ab_Run X 241 16 (1, 0, 0) L (ab_psh r st) σ' Q) := ab_r_callV (w := [ab_I x2, ab_I x1]) (as := [ab_I x1, ab_I x2]) (b1 := (0, 0, 0)) 0 (Or.inl rfl) (by decide) ko_X13_thickness qM_13_406 (by decide) rfl rfl rfl rfl rfl (by decide) (Nat.le_of_ble_eq_true rfl) kc_X13_thickness dX13_thickness_13
theorem rX13_thickness_16 : ab_Run X 241 16 (1, 0, 0) L (ab_I b :: ab_I a :: st) σ Q ↔ (b ≤ a → ab_Run X 241 39 (1, 0, 0) L st σ Q) ∧ (¬ (b ≤ a) → ab_Run X 241 19 (1, 0, 0) L st σ Q) := ab_r_icmp_ge rfl kc_X13_thickness dX13_thickness_16
theorem rX13_thickness_19 : ab_Run X 241 19 (1, 0, 0) [l0, l1, l2, ab_I z, l4] st σ Q ↔ ab_Run X 241 20 (1, 0, 0) [l0, l1, l2, ab_I z, l4] (ab_I z :: st) σ Q := ab_r_iload_n rfl kc_X13_thickness dX13_thickness_19
theorem rX13_thickness_20 : ab_Run X 241 20 (1, 0, 0) [ab_R z, l1, l2, l3, l4] st σ Q ↔ z ≠ 0 ∧ ab_Run X 241 21 (1, 0, 0) [ab_R z, l1, l2, l3, l4] (ab_R z :: st) σ Q := ab_r_aload_n rfl kc_X13_thickness dX13_thickness_20
theorem rX13_thickness_21 : ab_Run X 241 21 (1, 0, 0) L (ab_R a :: st) σ Q ↔ (ab_sh σ a).1 = 14 ∧ ab_Run X 241 24 (1, 0, 0) L (ab_R (ab_rd σ a 3) :: st) σ Q := gF_13_373 ko_X13_thickness kc_X13_thickness dX13_thickness_21
theorem rX13_thickness_24 : ab_Run X 241 24 (1, 0, 0) [l0, ab_I z, l2, l3, l4] st σ Q ↔ ab_Run X 241 25 (1, 0, 0) [l0, ab_I z, l2, l3, l4] (ab_I z :: st) σ Q := ab_r_iload_n rfl kc_X13_thickness dX13_thickness_24
theorem rX13_thickness_25 : ab_Run X 241 25 (1, 0, 0) [l0, l1, ab_I z, l3, l4] st σ Q ↔ ab_Run X 241 26 (1, 0, 0) [l0, l1, ab_I z, l3, l4] (ab_I z :: st) σ Q := ab_r_iload_n rfl kc_X13_thickness dX13_thickness_25
theorem rX13_thickness_26 : ab_Run X 241 26 (1, 0, 0) [l0, l1, l2, l3, ab_I z] st σ Q ↔ ab_Run X 241 28 (1, 0, 0) [l0, l1, l2, l3, ab_I z] (ab_I z :: st) σ Q := ab_r_iload rfl kc_X13_thickness dX13_thickness_26
theorem rX13_thickness_28 : ab_Run X 241 28 (1, 0, 0) L (ab_I x3 :: ab_I x2 :: ab_I x1 :: ab_R a :: st) σ Q ↔ ((ab_sh σ a).1 = 13 ∧ ab_cats st ≤ 8) ∧ ab_Do X 155 [ab_R a, ab_I x1, ab_I x2, ab_I x3] σ (fun r σ' => ab_Run X 241 31 (1, 0, 0) L (ab_psh r st) σ' Q) := ab_r_callV (w := [ab_I x3, ab_I x2, ab_I x1]) (as := [ab_I x1, ab_I x2, ab_I x3]) (b1 := (0, 0, 0)) 0 (Or.inl rfl) (by decide) ko_X13_thickness qM_13_400 (by decide) rfl rfl rfl rfl rfl (by decide) (Nat.le_of_ble_eq_true rfl) kc_X13_thickness dX13_thickness_28
theorem rX13_thickness_31 : ab_Run X 241 31 (1, 0, 0) L (ab_I b :: ab_I a :: st) σ Q ↔ ab_Run X 241 32 (1, 0, 0) L (ab_I (ab_w32 (a + b)) :: st) σ Q := ab_r_iadd kc_X13_thickness dX13_thickness_31
theorem rX13_thickness_32 : ab_Run X 241 32 (1, 0, 0) [l0, l1, l2, l3, l4] (ab_I z :: st) σ Q ↔ (!ab_isJ l2) = true ∧ ab_Run X 241 33 (1, 0, 0) [l0, l1, l2, ab_I z, l4] st σ Q := ab_r_istore_n (Nat.le_of_ble_eq_true rfl) kc_X13_thickness dX13_thickness_32
theorem rX13_thickness_33 : ab_Run X 241 33 (1, 0, 0) [l0, l1, l2, l3, ab_I z] st σ Q ↔ (!ab_isJ l3) = true ∧ ab_Run X 241 36 (1, 0, 0) [l0, l1, l2, l3, ab_I (ab_w32 (z + 1))] st σ Q := ab_r_iinc rfl (by decide) kc_X13_thickness dX13_thickness_33
theorem rX13_thickness_36 : ab_Run X 241 36 (1, 0, 0) L st σ Q ↔ ab_Run X 241 5 (1, 0, 0) L st σ Q := ab_r_goto rfl kc_X13_thickness dX13_thickness_36
theorem rX13_thickness_39 : ab_Run X 241 39 (1, 0, 0) [l0, l1, l2, ab_I z, l4] st σ Q ↔ ab_Run X 241 40 (1, 0, 0) [l0, l1, l2, ab_I z, l4] (ab_I z :: st) σ Q := ab_r_iload_n rfl kc_X13_thickness dX13_thickness_39
theorem rX13_thickness_40 : ab_Run X 241 40 (1, 0, 0) L [ab_I v] σ Q ↔ Q (some (ab_I v)) σ := ab_r_ireturnI rfl kc_X13_thickness dX13_thickness_40
theorem kc_X13_chosen : ab_code 242 = cX13_chosen := rfl
theorem ko_X13_chosen : ab_ow 242 = 13 := rfl
theorem rX13_chosen_0 : ab_Run X 242 0 (7, 0, 0) [ab_R z, l1, l2, l3] st σ Q ↔ z ≠ 0 ∧ ab_Run X 242 1 (7, 0, 0) [ab_R z, l1, l2, l3] (ab_R z :: st) σ Q := ab_r_aload_n rfl kc_X13_chosen dX13_chosen_0
theorem rX13_chosen_1 : ab_Run X 242 1 (7, 0, 0) L (ab_R a :: st) σ Q ↔ (ab_sh σ a).1 = 14 ∧ ab_Run X 242 4 (7, 0, 0) L (ab_R (ab_rd σ a 3) :: st) σ Q := gF_13_373 ko_X13_chosen kc_X13_chosen dX13_chosen_1
theorem rX13_chosen_4 : ab_Run X 242 4 (7, 0, 0) L (ab_R a :: st) σ Q ↔ (ab_sh σ a).1 = 13 ∧ ab_Run X 242 7 (7, 0, 0) L (ab_R (ab_rd σ a 16) :: st) σ Q := gF_13_307 ko_X13_chosen kc_X13_chosen dX13_chosen_4
theorem rX13_chosen_7 : ab_Run X 242 7 (7, 0, 0) [l0, l1, ab_I z, l3] st σ Q ↔ ab_Run X 242 8 (7, 0, 0) [l0, l1, ab_I z, l3] (ab_I z :: st) σ Q := ab_r_iload_n rfl kc_X13_chosen dX13_chosen_7
theorem rX13_chosen_8 : ab_Run X 242 8 (7, 0, 0) L (ab_I i :: ab_R a :: st) σ Q ↔ ((ab_sh σ a).1 = 21 ∧ 0 ≤ i ∧ i < (ab_sh σ a).2) ∧ ab_Run X 242 9 (7, 0, 0) L (ab_I (ab_rd σ a i) :: st) σ Q := ab_r_iaload (by decide) kc_X13_chosen dX13_chosen_8
theorem rX13_chosen_9 : ab_Run X 242 9 (7, 0, 0) L st σ Q ↔ ab_Run X 242 10 (7, 0, 0) L (ab_I 1 :: st) σ Q := ab_r_iconst (by decide) kc_X13_chosen dX13_chosen_9
theorem rX13_chosen_10 : ab_Run X 242 10 (7, 0, 0) L (ab_I b :: ab_I a :: st) σ Q ↔ (¬ a = b → ab_Run X 242 34 (7, 0, 0) L st σ Q) ∧ (¬ (¬ a = b) → ab_Run X 242 13 (7, 0, 0) L st σ Q) := ab_r_icmp_ne rfl kc_X13_chosen dX13_chosen_10
theorem rX13_chosen_13 : ab_Run X 242 13 (7, 0, 0) [ab_R z, l1, l2, l3] st σ Q ↔ z ≠ 0 ∧ ab_Run X 242 14 (7, 0, 0) [ab_R z, l1, l2, l3] (ab_R z :: st) σ Q := ab_r_aload_n rfl kc_X13_chosen dX13_chosen_13
theorem rX13_chosen_14 : ab_Run X 242 14 (7, 0, 0) [l0, ab_I z, l2, l3] st σ Q ↔ ab_Run X 242 15 (7, 0, 0) [l0, ab_I z, l2, l3] (ab_I z :: st) σ Q := ab_r_iload_n rfl kc_X13_chosen dX13_chosen_14
theorem rX13_chosen_15 : ab_Run X 242 15 (7, 0, 0) L st σ Q ↔ ab_Run X 242 16 (7, 0, 0) L (ab_I 1 :: st) σ Q := ab_r_iconst (by decide) kc_X13_chosen dX13_chosen_15
theorem rX13_chosen_16 : ab_Run X 242 16 (7, 0, 0) L (ab_I x2 :: ab_I x1 :: ab_R a :: st) σ Q ↔ ((ab_sh σ a).1 = 14 ∧ ab_cats st ≤ 8) ∧ ab_Do X 241 [ab_R a, ab_I x1, ab_I x2] σ (fun r σ' => ab_Run X 242 19 (7, 0, 0) L (ab_psh r st) σ' Q) := ab_r_callV (w := [ab_I x2, ab_I x1]) (as := [ab_I x1, ab_I x2]) (b1 := (1, 0, 0)) 0 (Or.inl rfl) (by decide) ko_X13_chosen qM_13_495 (by decide) rfl rfl rfl rfl rfl (by decide) (Nat.le_of_ble_eq_true rfl) kc_X13_chosen dX13_chosen_16
theorem rX13_chosen_19 : ab_Run X 242 19 (7, 0, 0) [ab_R z, l1, l2, l3] st σ Q ↔ z ≠ 0 ∧ ab_Run X 242 20 (7, 0, 0) [ab_R z, l1, l2, l3] (ab_R z :: st) σ Q := ab_r_aload_n rfl kc_X13_chosen dX13_chosen_19
theorem rX13_chosen_20 : ab_Run X 242 20 (7, 0, 0) [l0, ab_I z, l2, l3] st σ Q ↔ ab_Run X 242 21 (7, 0, 0) [l0, ab_I z, l2, l3] (ab_I z :: st) σ Q := ab_r_iload_n rfl kc_X13_chosen dX13_chosen_20
theorem rX13_chosen_21 : ab_Run X 242 21 (7, 0, 0) L st σ Q ↔ ab_Run X 242 22 (7, 0, 0) L (ab_I 0 :: st) σ Q := ab_r_iconst (by decide) kc_X13_chosen dX13_chosen_21
theorem rX13_chosen_22 : ab_Run X 242 22 (7, 0, 0) L (ab_I x2 :: ab_I x1 :: ab_R a :: st) σ Q ↔ ((ab_sh σ a).1 = 14 ∧ ab_cats st ≤ 8) ∧ ab_Do X 241 [ab_R a, ab_I x1, ab_I x2] σ (fun r σ' => ab_Run X 242 25 (7, 0, 0) L (ab_psh r st) σ' Q) := ab_r_callV (w := [ab_I x2, ab_I x1]) (as := [ab_I x1, ab_I x2]) (b1 := (1, 0, 0)) 0 (Or.inl rfl) (by decide) ko_X13_chosen qM_13_495 (by decide) rfl rfl rfl rfl rfl (by decide) (Nat.le_of_ble_eq_true rfl) kc_X13_chosen dX13_chosen_22
theorem rX13_chosen_25 : ab_Run X 242 25 (7, 0, 0) L (ab_I b :: ab_I a :: st) σ Q ↔ (a ≤ b → ab_Run X 242 32 (7, 0, 0) L st σ Q) ∧ (¬ (a ≤ b) → ab_Run X 242 28 (7, 0, 0) L st σ Q) := ab_r_icmp_le rfl kc_X13_chosen dX13_chosen_25
theorem rX13_chosen_28 : ab_Run X 242 28 (7, 0, 0) L st σ Q ↔ ab_Run X 242 29 (7, 0, 0) L (ab_I 1 :: st) σ Q := ab_r_iconst (by decide) kc_X13_chosen dX13_chosen_28
theorem rX13_chosen_29 : ab_Run X 242 29 (7, 0, 0) L st σ Q ↔ ab_Run X 242 33 (7, 0, 0) L st σ Q := ab_r_goto rfl kc_X13_chosen dX13_chosen_29
theorem rX13_chosen_32 : ab_Run X 242 32 (7, 0, 0) L st σ Q ↔ ab_Run X 242 33 (7, 0, 0) L (ab_I 0 :: st) σ Q := ab_r_iconst (by decide) kc_X13_chosen dX13_chosen_32
theorem rX13_chosen_33 : ab_Run X 242 33 (7, 0, 0) L [ab_I v] σ Q ↔ Q (some (ab_I v)) σ := ab_r_ireturnI rfl kc_X13_chosen dX13_chosen_33
theorem rX13_chosen_34 : ab_Run X 242 34 (7, 0, 0) [ab_R z, l1, l2, l3] st σ Q ↔ z ≠ 0 ∧ ab_Run X 242 35 (7, 0, 0) [ab_R z, l1, l2, l3] (ab_R z :: st) σ Q := ab_r_aload_n rfl kc_X13_chosen dX13_chosen_34
theorem rX13_chosen_35 : ab_Run X 242 35 (7, 0, 0) [l0, ab_I z, l2, l3] st σ Q ↔ ab_Run X 242 36 (7, 0, 0) [l0, ab_I z, l2, l3] (ab_I z :: st) σ Q := ab_r_iload_n rfl kc_X13_chosen dX13_chosen_35
theorem rX13_chosen_36 : ab_Run X 242 36 (7, 0, 0) [l0, l1, ab_I z, l3] st σ Q ↔ ab_Run X 242 37 (7, 0, 0) [l0, l1, ab_I z, l3] (ab_I z :: st) σ Q := ab_r_iload_n rfl kc_X13_chosen dX13_chosen_36
theorem rX13_chosen_37 : ab_Run X 242 37 (7, 0, 0) [l0, l1, l2, ab_I z] st σ Q ↔ ab_Run X 242 38 (7, 0, 0) [l0, l1, l2, ab_I z] (ab_I z :: st) σ Q := ab_r_iload_n rfl kc_X13_chosen dX13_chosen_37
theorem rX13_chosen_38 : ab_Run X 242 38 (7, 0, 0) L st σ Q ↔ ab_Run X 242 39 (7, 0, 0) L (ab_I 1 :: st) σ Q := ab_r_iconst (by decide) kc_X13_chosen dX13_chosen_38
theorem rX13_chosen_39 : ab_Run X 242 39 (7, 0, 0) L (ab_I x4 :: ab_I x3 :: ab_I x2 :: ab_I x1 :: ab_R a :: st) σ Q ↔ ((ab_sh σ a).1 = 14 ∧ ab_cats st ≤ 8) ∧ ab_Do X 240 [ab_R a, ab_I x1, ab_I x2, ab_I x3, ab_I x4] σ (fun r σ' => ab_Run X 242 42 (7, 0, 0) L (ab_psh r st) σ' Q) := ab_r_callV (w := [ab_I x4, ab_I x3, ab_I x2, ab_I x1]) (as := [ab_I x1, ab_I x2, ab_I x3, ab_I x4]) (b1 := (6, 0, 0)) 0 (Or.inl rfl) (by decide) ko_X13_chosen qM_13_498 (by decide) rfl rfl rfl rfl rfl (by decide) (Nat.le_of_ble_eq_true rfl) kc_X13_chosen dX13_chosen_39
theorem rX13_chosen_42 : ab_Run X 242 42 (7, 0, 0) [ab_R z, l1, l2, l3] st σ Q ↔ z ≠ 0 ∧ ab_Run X 242 43 (7, 0, 0) [ab_R z, l1, l2, l3] (ab_R z :: st) σ Q := ab_r_aload_n rfl kc_X13_chosen dX13_chosen_42
theorem rX13_chosen_43 : ab_Run X 242 43 (7, 0, 0) [l0, ab_I z, l2, l3] st σ Q ↔ ab_Run X 242 44 (7, 0, 0) [l0, ab_I z, l2, l3] (ab_I z :: st) σ Q := ab_r_iload_n rfl kc_X13_chosen dX13_chosen_43
theorem rX13_chosen_44 : ab_Run X 242 44 (7, 0, 0) [l0, l1, ab_I z, l3] st σ Q ↔ ab_Run X 242 45 (7, 0, 0) [l0, l1, ab_I z, l3] (ab_I z :: st) σ Q := ab_r_iload_n rfl kc_X13_chosen dX13_chosen_44
theorem rX13_chosen_45 : ab_Run X 242 45 (7, 0, 0) [l0, l1, l2, ab_I z] st σ Q ↔ ab_Run X 242 46 (7, 0, 0) [l0, l1, l2, ab_I z] (ab_I z :: st) σ Q := ab_r_iload_n rfl kc_X13_chosen dX13_chosen_45
theorem rX13_chosen_46 : ab_Run X 242 46 (7, 0, 0) L st σ Q ↔ ab_Run X 242 47 (7, 0, 0) L (ab_I 0 :: st) σ Q := ab_r_iconst (by decide) kc_X13_chosen dX13_chosen_46
theorem rX13_chosen_47 : ab_Run X 242 47 (7, 0, 0) L (ab_I x4 :: ab_I x3 :: ab_I x2 :: ab_I x1 :: ab_R a :: st) σ Q ↔ ((ab_sh σ a).1 = 14 ∧ ab_cats st ≤ 8) ∧ ab_Do X 240 [ab_R a, ab_I x1, ab_I x2, ab_I x3, ab_I x4] σ (fun r σ' => ab_Run X 242 50 (7, 0, 0) L (ab_psh r st) σ' Q) := ab_r_callV (w := [ab_I x4, ab_I x3, ab_I x2, ab_I x1]) (as := [ab_I x1, ab_I x2, ab_I x3, ab_I x4]) (b1 := (6, 0, 0)) 0 (Or.inl rfl) (by decide) ko_X13_chosen qM_13_498 (by decide) rfl rfl rfl rfl rfl (by decide) (Nat.le_of_ble_eq_true rfl) kc_X13_chosen dX13_chosen_47
theorem rX13_chosen_50 : ab_Run X 242 50 (7, 0, 0) L (ab_J b :: ab_J a :: st) σ Q ↔ ab_Run X 242 51 (7, 0, 0) L (ab_I (if b < a then 1 else if a = b then 0 else -1) :: st) σ Q := ab_r_lcmp kc_X13_chosen dX13_chosen_50
theorem rX13_chosen_51 : ab_Run X 242 51 (7, 0, 0) L (ab_I a :: st) σ Q ↔ (a ≤ 0 → ab_Run X 242 58 (7, 0, 0) L st σ Q) ∧ (¬ (a ≤ 0) → ab_Run X 242 54 (7, 0, 0) L st σ Q) := ab_r_if_le rfl kc_X13_chosen dX13_chosen_51
theorem rX13_chosen_54 : ab_Run X 242 54 (7, 0, 0) L st σ Q ↔ ab_Run X 242 55 (7, 0, 0) L (ab_I 1 :: st) σ Q := ab_r_iconst (by decide) kc_X13_chosen dX13_chosen_54
theorem rX13_chosen_55 : ab_Run X 242 55 (7, 0, 0) L st σ Q ↔ ab_Run X 242 59 (7, 0, 0) L st σ Q := ab_r_goto rfl kc_X13_chosen dX13_chosen_55
theorem rX13_chosen_58 : ab_Run X 242 58 (7, 0, 0) L st σ Q ↔ ab_Run X 242 59 (7, 0, 0) L (ab_I 0 :: st) σ Q := ab_r_iconst (by decide) kc_X13_chosen dX13_chosen_58
theorem rX13_chosen_59 : ab_Run X 242 59 (7, 0, 0) L [ab_I v] σ Q ↔ Q (some (ab_I v)) σ := ab_r_ireturnI rfl kc_X13_chosen dX13_chosen_59
theorem kc_X13_byLaw : ab_code 243 = cX13_byLaw := rfl
theorem ko_X13_byLaw : ab_ow 243 = 13 := rfl
theorem rX13_byLaw_0 : ab_Run X 243 0 (8, 0, 0) [l0, ab_I z, l2, l3, l4, l5] st σ Q ↔ ab_Run X 243 1 (8, 0, 0) [l0, ab_I z, l2, l3, l4, l5] (ab_I z :: st) σ Q := ab_r_iload_n rfl kc_X13_byLaw dX13_byLaw_0
theorem rX13_byLaw_1 : ab_Run X 243 1 (8, 0, 0) L st σ Q ↔ ab_Run X 243 2 (8, 0, 0) L (ab_I 3 :: st) σ Q := ab_r_iconst (by decide) kc_X13_byLaw dX13_byLaw_1
theorem rX13_byLaw_2 : ab_Run X 243 2 (8, 0, 0) L (ab_I b :: ab_I a :: st) σ Q ↔ (¬ a = b → ab_Run X 243 25 (8, 0, 0) L st σ Q) ∧ (¬ (¬ a = b) → ab_Run X 243 5 (8, 0, 0) L st σ Q) := ab_r_icmp_ne rfl kc_X13_byLaw dX13_byLaw_2
theorem rX13_byLaw_5 : ab_Run X 243 5 (8, 0, 0) [ab_R z, l1, l2, l3, l4, l5] st σ Q ↔ z ≠ 0 ∧ ab_Run X 243 6 (8, 0, 0) [ab_R z, l1, l2, l3, l4, l5] (ab_R z :: st) σ Q := ab_r_aload_n rfl kc_X13_byLaw dX13_byLaw_5
theorem rX13_byLaw_6 : ab_Run X 243 6 (8, 0, 0) [l0, l1, ab_I z, l3, l4, l5] st σ Q ↔ ab_Run X 243 7 (8, 0, 0) [l0, l1, ab_I z, l3, l4, l5] (ab_I z :: st) σ Q := ab_r_iload_n rfl kc_X13_byLaw dX13_byLaw_6
theorem rX13_byLaw_7 : ab_Run X 243 7 (8, 0, 0) [l0, l1, l2, ab_I z, l4, l5] st σ Q ↔ ab_Run X 243 8 (8, 0, 0) [l0, l1, l2, ab_I z, l4, l5] (ab_I z :: st) σ Q := ab_r_iload_n rfl kc_X13_byLaw dX13_byLaw_7
theorem rX13_byLaw_8 : ab_Run X 243 8 (8, 0, 0) [l0, l1, l2, l3, ab_I z, l5] st σ Q ↔ ab_Run X 243 10 (8, 0, 0) [l0, l1, l2, l3, ab_I z, l5] (ab_I z :: st) σ Q := ab_r_iload rfl kc_X13_byLaw dX13_byLaw_8
theorem rX13_byLaw_10 : ab_Run X 243 10 (8, 0, 0) L st σ Q ↔ ab_Run X 243 11 (8, 0, 0) L (ab_I 0 :: st) σ Q := ab_r_iconst (by decide) kc_X13_byLaw dX13_byLaw_10
theorem rX13_byLaw_11 : ab_Run X 243 11 (8, 0, 0) L (ab_I x4 :: ab_I x3 :: ab_I x2 :: ab_I x1 :: ab_R a :: st) σ Q ↔ ((ab_sh σ a).1 = 14 ∧ ab_cats st ≤ 8) ∧ ab_Do X 240 [ab_R a, ab_I x1, ab_I x2, ab_I x3, ab_I x4] σ (fun r σ' => ab_Run X 243 14 (8, 0, 0) L (ab_psh r st) σ' Q) := ab_r_callV (w := [ab_I x4, ab_I x3, ab_I x2, ab_I x1]) (as := [ab_I x1, ab_I x2, ab_I x3, ab_I x4]) (b1 := (6, 0, 0)) 0 (Or.inl rfl) (by decide) ko_X13_byLaw qM_13_498 (by decide) rfl rfl rfl rfl rfl (by decide) (Nat.le_of_ble_eq_true rfl) kc_X13_byLaw dX13_byLaw_11
theorem rX13_byLaw_14 : ab_Run X 243 14 (8, 0, 0) [ab_R z, l1, l2, l3, l4, l5] st σ Q ↔ z ≠ 0 ∧ ab_Run X 243 15 (8, 0, 0) [ab_R z, l1, l2, l3, l4, l5] (ab_R z :: st) σ Q := ab_r_aload_n rfl kc_X13_byLaw dX13_byLaw_14
theorem rX13_byLaw_15 : ab_Run X 243 15 (8, 0, 0) [l0, l1, ab_I z, l3, l4, l5] st σ Q ↔ ab_Run X 243 16 (8, 0, 0) [l0, l1, ab_I z, l3, l4, l5] (ab_I z :: st) σ Q := ab_r_iload_n rfl kc_X13_byLaw dX13_byLaw_15
theorem rX13_byLaw_16 : ab_Run X 243 16 (8, 0, 0) [l0, l1, l2, ab_I z, l4, l5] st σ Q ↔ ab_Run X 243 17 (8, 0, 0) [l0, l1, l2, ab_I z, l4, l5] (ab_I z :: st) σ Q := ab_r_iload_n rfl kc_X13_byLaw dX13_byLaw_16
theorem rX13_byLaw_17 : ab_Run X 243 17 (8, 0, 0) [l0, l1, l2, l3, ab_I z, l5] st σ Q ↔ ab_Run X 243 19 (8, 0, 0) [l0, l1, l2, l3, ab_I z, l5] (ab_I z :: st) σ Q := ab_r_iload rfl kc_X13_byLaw dX13_byLaw_17
theorem rX13_byLaw_19 : ab_Run X 243 19 (8, 0, 0) L st σ Q ↔ ab_Run X 243 20 (8, 0, 0) L (ab_I 1 :: st) σ Q := ab_r_iconst (by decide) kc_X13_byLaw dX13_byLaw_19
theorem rX13_byLaw_20 : ab_Run X 243 20 (8, 0, 0) L (ab_I x4 :: ab_I x3 :: ab_I x2 :: ab_I x1 :: ab_R a :: st) σ Q ↔ ((ab_sh σ a).1 = 14 ∧ ab_cats st ≤ 8) ∧ ab_Do X 240 [ab_R a, ab_I x1, ab_I x2, ab_I x3, ab_I x4] σ (fun r σ' => ab_Run X 243 23 (8, 0, 0) L (ab_psh r st) σ' Q) := ab_r_callV (w := [ab_I x4, ab_I x3, ab_I x2, ab_I x1]) (as := [ab_I x1, ab_I x2, ab_I x3, ab_I x4]) (b1 := (6, 0, 0)) 0 (Or.inl rfl) (by decide) ko_X13_byLaw qM_13_498 (by decide) rfl rfl rfl rfl rfl (by decide) (Nat.le_of_ble_eq_true rfl) kc_X13_byLaw dX13_byLaw_20
theorem rX13_byLaw_23 : ab_Run X 243 23 (8, 0, 0) L (ab_J b :: ab_J a :: st) σ Q ↔ ab_Run X 243 24 (8, 0, 0) L (ab_J (ab_w64 (a + b)) :: st) σ Q := ab_r_ladd kc_X13_byLaw dX13_byLaw_23
theorem rX13_byLaw_24 : ab_Run X 243 24 (8, 0, 0) L [ab_J v] σ Q ↔ Q (some (ab_J v)) σ := ab_r_lreturn rfl kc_X13_byLaw dX13_byLaw_24
theorem rX13_byLaw_25 : ab_Run X 243 25 (8, 0, 0) [l0, ab_I z, l2, l3, l4, l5] st σ Q ↔ ab_Run X 243 26 (8, 0, 0) [l0, ab_I z, l2, l3, l4, l5] (ab_I z :: st) σ Q := ab_r_iload_n rfl kc_X13_byLaw dX13_byLaw_25
theorem rX13_byLaw_26 : ab_Run X 243 26 (8, 0, 0) L (ab_I a :: st) σ Q ↔ (¬ a = 0 → ab_Run X 243 33 (8, 0, 0) L st σ Q) ∧ (¬ (¬ a = 0) → ab_Run X 243 29 (8, 0, 0) L st σ Q) := ab_r_if_ne rfl kc_X13_byLaw dX13_byLaw_26
theorem rX13_byLaw_29 : ab_Run X 243 29 (8, 0, 0) L st σ Q ↔ ab_Run X 243 30 (8, 0, 0) L (ab_I 0 :: st) σ Q := ab_r_iconst (by decide) kc_X13_byLaw dX13_byLaw_29
theorem rX13_byLaw_30 : ab_Run X 243 30 (8, 0, 0) L st σ Q ↔ ab_Run X 243 59 (8, 0, 0) L st σ Q := ab_r_goto rfl kc_X13_byLaw dX13_byLaw_30
theorem rX13_byLaw_33 : ab_Run X 243 33 (8, 0, 0) [l0, ab_I z, l2, l3, l4, l5] st σ Q ↔ ab_Run X 243 34 (8, 0, 0) [l0, ab_I z, l2, l3, l4, l5] (ab_I z :: st) σ Q := ab_r_iload_n rfl kc_X13_byLaw dX13_byLaw_33
theorem rX13_byLaw_34 : ab_Run X 243 34 (8, 0, 0) L st σ Q ↔ ab_Run X 243 35 (8, 0, 0) L (ab_I 1 :: st) σ Q := ab_r_iconst (by decide) kc_X13_byLaw dX13_byLaw_34
theorem rX13_byLaw_35 : ab_Run X 243 35 (8, 0, 0) L (ab_I b :: ab_I a :: st) σ Q ↔ (¬ a = b → ab_Run X 243 49 (8, 0, 0) L st σ Q) ∧ (¬ (¬ a = b) → ab_Run X 243 38 (8, 0, 0) L st σ Q) := ab_r_icmp_ne rfl kc_X13_byLaw dX13_byLaw_35
theorem rX13_byLaw_38 : ab_Run X 243 38 (8, 0, 0) [ab_R z, l1, l2, l3, l4, l5] st σ Q ↔ z ≠ 0 ∧ ab_Run X 243 39 (8, 0, 0) [ab_R z, l1, l2, l3, l4, l5] (ab_R z :: st) σ Q := ab_r_aload_n rfl kc_X13_byLaw dX13_byLaw_38
theorem rX13_byLaw_39 : ab_Run X 243 39 (8, 0, 0) [l0, l1, ab_I z, l3, l4, l5] st σ Q ↔ ab_Run X 243 40 (8, 0, 0) [l0, l1, ab_I z, l3, l4, l5] (ab_I z :: st) σ Q := ab_r_iload_n rfl kc_X13_byLaw dX13_byLaw_39
theorem rX13_byLaw_40 : ab_Run X 243 40 (8, 0, 0) [l0, l1, l2, ab_I z, l4, l5] st σ Q ↔ ab_Run X 243 41 (8, 0, 0) [l0, l1, l2, ab_I z, l4, l5] (ab_I z :: st) σ Q := ab_r_iload_n rfl kc_X13_byLaw dX13_byLaw_40
theorem rX13_byLaw_41 : ab_Run X 243 41 (8, 0, 0) [l0, l1, l2, l3, ab_I z, l5] st σ Q ↔ ab_Run X 243 43 (8, 0, 0) [l0, l1, l2, l3, ab_I z, l5] (ab_I z :: st) σ Q := ab_r_iload rfl kc_X13_byLaw dX13_byLaw_41
theorem rX13_byLaw_43 : ab_Run X 243 43 (8, 0, 0) L (ab_I x3 :: ab_I x2 :: ab_I x1 :: ab_R a :: st) σ Q ↔ ((ab_sh σ a).1 = 14 ∧ ab_cats st ≤ 8) ∧ ab_Do X 242 [ab_R a, ab_I x1, ab_I x2, ab_I x3] σ (fun r σ' => ab_Run X 243 46 (8, 0, 0) L (ab_psh r st) σ' Q) := ab_r_callV (w := [ab_I x3, ab_I x2, ab_I x1]) (as := [ab_I x1, ab_I x2, ab_I x3]) (b1 := (7, 0, 0)) 0 (Or.inl rfl) (by decide) ko_X13_byLaw qM_13_501 (by decide) rfl rfl rfl rfl rfl (by decide) (Nat.le_of_ble_eq_true rfl) kc_X13_byLaw dX13_byLaw_43
theorem rX13_byLaw_46 : ab_Run X 243 46 (8, 0, 0) L st σ Q ↔ ab_Run X 243 59 (8, 0, 0) L st σ Q := ab_r_goto rfl kc_X13_byLaw dX13_byLaw_46
theorem rX13_byLaw_49 : ab_Run X 243 49 (8, 0, 0) L st σ Q ↔ ab_Run X 243 50 (8, 0, 0) L (ab_I 1 :: st) σ Q := ab_r_iconst (by decide) kc_X13_byLaw dX13_byLaw_49
theorem rX13_byLaw_50 : ab_Run X 243 50 (8, 0, 0) [ab_R z, l1, l2, l3, l4, l5] st σ Q ↔ z ≠ 0 ∧ ab_Run X 243 51 (8, 0, 0) [ab_R z, l1, l2, l3, l4, l5] (ab_R z :: st) σ Q := ab_r_aload_n rfl kc_X13_byLaw dX13_byLaw_50
theorem rX13_byLaw_51 : ab_Run X 243 51 (8, 0, 0) [l0, l1, ab_I z, l3, l4, l5] st σ Q ↔ ab_Run X 243 52 (8, 0, 0) [l0, l1, ab_I z, l3, l4, l5] (ab_I z :: st) σ Q := ab_r_iload_n rfl kc_X13_byLaw dX13_byLaw_51
theorem rX13_byLaw_52 : ab_Run X 243 52 (8, 0, 0) [l0, l1, l2, l3, ab_I z, l5] st σ Q ↔ ab_Run X 243 54 (8, 0, 0) [l0, l1, l2, l3, ab_I z, l5] (ab_I z :: st) σ Q := ab_r_iload rfl kc_X13_byLaw dX13_byLaw_52
theorem rX13_byLaw_54 : ab_Run X 243 54 (8, 0, 0) [l0, l1, l2, ab_I z, l4, l5] st σ Q ↔ ab_Run X 243 55 (8, 0, 0) [l0, l1, l2, ab_I z, l4, l5] (ab_I z :: st) σ Q := ab_r_iload_n rfl kc_X13_byLaw dX13_byLaw_54
theorem rX13_byLaw_55 : ab_Run X 243 55 (8, 0, 0) L (ab_I x3 :: ab_I x2 :: ab_I x1 :: ab_R a :: st) σ Q ↔ ((ab_sh σ a).1 = 14 ∧ ab_cats st ≤ 8) ∧ ab_Do X 242 [ab_R a, ab_I x1, ab_I x2, ab_I x3] σ (fun r σ' => ab_Run X 243 58 (8, 0, 0) L (ab_psh r st) σ' Q) := ab_r_callV (w := [ab_I x3, ab_I x2, ab_I x1]) (as := [ab_I x1, ab_I x2, ab_I x3]) (b1 := (7, 0, 0)) 0 (Or.inl rfl) (by decide) ko_X13_byLaw qM_13_501 (by decide) rfl rfl rfl rfl rfl (by decide) (Nat.le_of_ble_eq_true rfl) kc_X13_byLaw dX13_byLaw_55
theorem rX13_byLaw_58 : ab_Run X 243 58 (8, 0, 0) L (ab_I b :: ab_I a :: st) σ Q ↔ ab_Run X 243 59 (8, 0, 0) L (ab_I (ab_w32 (a - b)) :: st) σ Q := ab_r_isub kc_X13_byLaw dX13_byLaw_58
theorem rX13_byLaw_59 : ab_Run X 243 59 (8, 0, 0) [l0, l1, l2, l3, l4, l5] (ab_I z :: st) σ Q ↔ (!ab_isJ l4) = true ∧ ab_Run X 243 61 (8, 0, 0) [l0, l1, l2, l3, l4, ab_I z] st σ Q := ab_r_istore (Nat.le_of_ble_eq_true rfl) kc_X13_byLaw dX13_byLaw_59
theorem rX13_byLaw_61 : ab_Run X 243 61 (8, 0, 0) L st σ Q ↔ ab_Run X 243 64 (8, 0, 0) L (ab_J 2 :: st) σ Q := ab_r_ldc2_w rfl ko_X13_byLaw (by decide +kernel) kc_X13_byLaw dX13_byLaw_61
theorem rX13_byLaw_64 : ab_Run X 243 64 (8, 0, 0) [ab_R z, l1, l2, l3, l4, l5] st σ Q ↔ z ≠ 0 ∧ ab_Run X 243 65 (8, 0, 0) [ab_R z, l1, l2, l3, l4, l5] (ab_R z :: st) σ Q := ab_r_aload_n rfl kc_X13_byLaw dX13_byLaw_64
theorem rX13_byLaw_65 : ab_Run X 243 65 (8, 0, 0) [l0, l1, ab_I z, l3, l4, l5] st σ Q ↔ ab_Run X 243 66 (8, 0, 0) [l0, l1, ab_I z, l3, l4, l5] (ab_I z :: st) σ Q := ab_r_iload_n rfl kc_X13_byLaw dX13_byLaw_65
theorem rX13_byLaw_66 : ab_Run X 243 66 (8, 0, 0) [l0, l1, l2, ab_I z, l4, l5] st σ Q ↔ ab_Run X 243 67 (8, 0, 0) [l0, l1, l2, ab_I z, l4, l5] (ab_I z :: st) σ Q := ab_r_iload_n rfl kc_X13_byLaw dX13_byLaw_66
theorem rX13_byLaw_67 : ab_Run X 243 67 (8, 0, 0) [l0, l1, l2, l3, ab_I z, l5] st σ Q ↔ ab_Run X 243 69 (8, 0, 0) [l0, l1, l2, l3, ab_I z, l5] (ab_I z :: st) σ Q := ab_r_iload rfl kc_X13_byLaw dX13_byLaw_67
theorem rX13_byLaw_69 : ab_Run X 243 69 (8, 0, 0) [l0, l1, l2, l3, l4, ab_I z] st σ Q ↔ ab_Run X 243 71 (8, 0, 0) [l0, l1, l2, l3, l4, ab_I z] (ab_I z :: st) σ Q := ab_r_iload rfl kc_X13_byLaw dX13_byLaw_69
theorem rX13_byLaw_71 : ab_Run X 243 71 (8, 0, 0) L (ab_I x4 :: ab_I x3 :: ab_I x2 :: ab_I x1 :: ab_R a :: st) σ Q ↔ ((ab_sh σ a).1 = 14 ∧ ab_cats st ≤ 8) ∧ ab_Do X 240 [ab_R a, ab_I x1, ab_I x2, ab_I x3, ab_I x4] σ (fun r σ' => ab_Run X 243 74 (8, 0, 0) L (ab_psh r st) σ' Q) := ab_r_callV (w := [ab_I x4, ab_I x3, ab_I x2, ab_I x1]) (as := [ab_I x1, ab_I x2, ab_I x3, ab_I x4]) (b1 := (6, 0, 0)) 0 (Or.inl rfl) (by decide) ko_X13_byLaw qM_13_498 (by decide) rfl rfl rfl rfl rfl (by decide) (Nat.le_of_ble_eq_true rfl) kc_X13_byLaw dX13_byLaw_71
theorem rX13_byLaw_74 : ab_Run X 243 74 (8, 0, 0) L (ab_J b :: ab_J a :: st) σ Q ↔ ab_Run X 243 75 (8, 0, 0) L (ab_J (ab_w64 (a * b)) :: st) σ Q := ab_r_lmul kc_X13_byLaw dX13_byLaw_74
theorem rX13_byLaw_75 : ab_Run X 243 75 (8, 0, 0) L [ab_J v] σ Q ↔ Q (some (ab_J v)) σ := ab_r_lreturn rfl kc_X13_byLaw dX13_byLaw_75
theorem kc_X13_lawOdds : ab_code 244 = cX13_lawOdds := rfl
theorem ko_X13_lawOdds : ab_ow 244 = 13 := rfl
theorem rX13_lawOdds_0 : ab_Run X 244 0 (9, 0, 0) [ab_R z, l1, l2, l3, l4, l5, l6, l7] st σ Q ↔ z ≠ 0 ∧ ab_Run X 244 1 (9, 0, 0) [ab_R z, l1, l2, l3, l4, l5, l6, l7] (ab_R z :: st) σ Q := ab_r_aload_n rfl kc_X13_lawOdds dX13_lawOdds_0
theorem rX13_lawOdds_1 : ab_Run X 244 1 (9, 0, 0) L st σ Q ↔ ab_Run X 244 2 (9, 0, 0) L (ab_I 0 :: st) σ Q := ab_r_iconst (by decide) kc_X13_lawOdds dX13_lawOdds_1
theorem rX13_lawOdds_2 : ab_Run X 244 2 (9, 0, 0) L (ab_I z :: ab_R a :: st) σ Q ↔ (ab_sh σ a).1 = 14 ∧ ab_Run X 244 5 (9, 0, 0) L st (ab_wr σ a 0 z) Q := sF_13_53 ko_X13_lawOdds kc_X13_lawOdds dX13_lawOdds_2
theorem rX13_lawOdds_5 : ab_Run X 244 5 (9, 0, 0) [l0, ab_I z, l2, l3, l4, l5, l6, l7] st σ Q ↔ ab_Run X 244 6 (9, 0, 0) [l0, ab_I z, l2, l3, l4, l5, l6, l7] (ab_I z :: st) σ Q := ab_r_iload_n rfl kc_X13_lawOdds dX13_lawOdds_5
theorem rX13_lawOdds_6 : ab_Run X 244 6 (9, 0, 0) L st σ Q ↔ ab_Run X 244 7 (9, 0, 0) L (ab_I 0 :: st) σ Q := ab_r_iconst (by decide) kc_X13_lawOdds dX13_lawOdds_6
theorem rX13_lawOdds_7 : ab_Run X 244 7 (9, 0, 0) L st σ Q ↔ ab_Run X 244 8 (9, 0, 0) L (ab_I 3 :: st) σ Q := ab_r_iconst (by decide) kc_X13_lawOdds dX13_lawOdds_7
theorem rX13_lawOdds_8 : ab_Run X 244 8 (9, 0, 0) L (ab_I x3 :: ab_I x2 :: ab_I x1 :: st) σ Q ↔ ab_cats st ≤ 8 ∧ ab_Do X 163 [ab_I x1, ab_I x2, ab_I x3] σ (fun r σ' => ab_Run X 244 11 (9, 0, 0) L (ab_psh r st) σ' Q) := ab_r_callS (w := [ab_I x3, ab_I x2, ab_I x1]) (as := [ab_I x1, ab_I x2, ab_I x3]) (b1 := (0, 0, 0)) (by decide) ko_X13_lawOdds qM_13_138 (by decide) rfl rfl rfl rfl (by decide) (Nat.le_of_ble_eq_true rfl) kc_X13_lawOdds dX13_lawOdds_8
theorem rX13_lawOdds_11 : ab_Run X 244 11 (9, 0, 0) L (ab_I a :: st) σ Q ↔ (a = 0 → ab_Run X 244 32 (9, 0, 0) L st σ Q) ∧ (¬ (a = 0) → ab_Run X 244 14 (9, 0, 0) L st σ Q) := ab_r_if_eq rfl kc_X13_lawOdds dX13_lawOdds_11
theorem rX13_lawOdds_14 : ab_Run X 244 14 (9, 0, 0) [ab_R z, l1, l2, l3, l4, l5, l6, l7] st σ Q ↔ z ≠ 0 ∧ ab_Run X 244 15 (9, 0, 0) [ab_R z, l1, l2, l3, l4, l5, l6, l7] (ab_R z :: st) σ Q := ab_r_aload_n rfl kc_X13_lawOdds dX13_lawOdds_14
theorem rX13_lawOdds_15 : ab_Run X 244 15 (9, 0, 0) [l0, l1, ab_I z, l3, l4, l5, l6, l7] st σ Q ↔ ab_Run X 244 16 (9, 0, 0) [l0, l1, ab_I z, l3, l4, l5, l6, l7] (ab_I z :: st) σ Q := ab_r_iload_n rfl kc_X13_lawOdds dX13_lawOdds_15
theorem rX13_lawOdds_16 : ab_Run X 244 16 (9, 0, 0) L (ab_I x1 :: ab_R a :: st) σ Q ↔ ((ab_sh σ a).1 = 14 ∧ ab_cats st ≤ 8) ∧ ab_Do X 212 [ab_R a, ab_I x1] σ (fun r σ' => ab_Run X 244 19 (9, 0, 0) L (ab_psh r st) σ' Q) := ab_r_callV (w := [ab_I x1]) (as := [ab_I x1]) (b1 := (0, 0, 0)) 0 (Or.inl rfl) (by decide) ko_X13_lawOdds qM_13_444 (by decide) rfl rfl rfl rfl rfl (by decide) (Nat.le_of_ble_eq_true rfl) kc_X13_lawOdds dX13_lawOdds_16
theorem rX13_lawOdds_19 : ab_Run X 244 19 (9, 0, 0) L (ab_I a :: st) σ Q ↔ (a = 0 → ab_Run X 244 32 (9, 0, 0) L st σ Q) ∧ (¬ (a = 0) → ab_Run X 244 22 (9, 0, 0) L st σ Q) := ab_r_if_eq rfl kc_X13_lawOdds dX13_lawOdds_19
theorem rX13_lawOdds_22 : ab_Run X 244 22 (9, 0, 0) [ab_R z, l1, l2, l3, l4, l5, l6, l7] st σ Q ↔ z ≠ 0 ∧ ab_Run X 244 23 (9, 0, 0) [ab_R z, l1, l2, l3, l4, l5, l6, l7] (ab_R z :: st) σ Q := ab_r_aload_n rfl kc_X13_lawOdds dX13_lawOdds_22
theorem rX13_lawOdds_23 : ab_Run X 244 23 (9, 0, 0) [l0, l1, l2, ab_I z, l4, l5, l6, l7] st σ Q ↔ ab_Run X 244 24 (9, 0, 0) [l0, l1, l2, ab_I z, l4, l5, l6, l7] (ab_I z :: st) σ Q := ab_r_iload_n rfl kc_X13_lawOdds dX13_lawOdds_23
theorem rX13_lawOdds_24 : ab_Run X 244 24 (9, 0, 0) [l0, l1, l2, l3, ab_I z, l5, l6, l7] st σ Q ↔ ab_Run X 244 26 (9, 0, 0) [l0, l1, l2, l3, ab_I z, l5, l6, l7] (ab_I z :: st) σ Q := ab_r_iload rfl kc_X13_lawOdds dX13_lawOdds_24
theorem rX13_lawOdds_26 : ab_Run X 244 26 (9, 0, 0) L (ab_I x2 :: ab_I x1 :: ab_R a :: st) σ Q ↔ ((ab_sh σ a).1 = 14 ∧ ab_cats st ≤ 8) ∧ ab_Do X 214 [ab_R a, ab_I x1, ab_I x2] σ (fun r σ' => ab_Run X 244 29 (9, 0, 0) L (ab_psh r st) σ' Q) := ab_r_callV (w := [ab_I x2, ab_I x1]) (as := [ab_I x1, ab_I x2]) (b1 := (1, 0, 0)) 0 (Or.inl rfl) (by decide) ko_X13_lawOdds qM_13_455 (by decide) rfl rfl rfl rfl rfl (by decide) (Nat.le_of_ble_eq_true rfl) kc_X13_lawOdds dX13_lawOdds_26
theorem rX13_lawOdds_29 : ab_Run X 244 29 (9, 0, 0) L (ab_I a :: st) σ Q ↔ (¬ a = 0 → ab_Run X 244 39 (9, 0, 0) L st σ Q) ∧ (¬ (¬ a = 0) → ab_Run X 244 32 (9, 0, 0) L st σ Q) := ab_r_if_ne rfl kc_X13_lawOdds dX13_lawOdds_29
theorem rX13_lawOdds_32 : ab_Run X 244 32 (9, 0, 0) [ab_R z, l1, l2, l3, l4, l5, l6, l7] st σ Q ↔ z ≠ 0 ∧ ab_Run X 244 33 (9, 0, 0) [ab_R z, l1, l2, l3, l4, l5, l6, l7] (ab_R z :: st) σ Q := ab_r_aload_n rfl kc_X13_lawOdds dX13_lawOdds_32
theorem rX13_lawOdds_33 : ab_Run X 244 33 (9, 0, 0) L st σ Q ↔ ab_Run X 244 34 (9, 0, 0) L (ab_I 1 :: st) σ Q := ab_r_iconst (by decide) kc_X13_lawOdds dX13_lawOdds_33
theorem rX13_lawOdds_34 : ab_Run X 244 34 (9, 0, 0) L (ab_I x1 :: ab_R a :: st) σ Q ↔ ((ab_sh σ a).1 = 14 ∧ ab_cats st ≤ 8) ∧ ab_Do X 159 [ab_R a, ab_I x1] σ (fun r σ' => ab_Run X 244 37 (9, 0, 0) L (ab_psh r st) σ' Q) := ab_r_callV (w := [ab_I x1]) (as := [ab_I x1]) (b1 := (0, 0, 0)) 0 (Or.inl rfl) (by decide) ko_X13_lawOdds qM_13_59 (by decide) rfl rfl rfl rfl rfl (by decide) (Nat.le_of_ble_eq_true rfl) kc_X13_lawOdds dX13_lawOdds_34
theorem rX13_lawOdds_37 : ab_Run X 244 37 (9, 0, 0) L (ab_I a :: st) σ Q ↔ ab_Run X 244 38 (9, 0, 0) L (ab_J a :: st) σ Q := ab_r_i2l kc_X13_lawOdds dX13_lawOdds_37
theorem rX13_lawOdds_38 : ab_Run X 244 38 (9, 0, 0) L [ab_J v] σ Q ↔ Q (some (ab_J v)) σ := ab_r_lreturn rfl kc_X13_lawOdds dX13_lawOdds_38
theorem rX13_lawOdds_39 : ab_Run X 244 39 (9, 0, 0) [ab_R z, l1, l2, l3, l4, l5, l6, l7] st σ Q ↔ z ≠ 0 ∧ ab_Run X 244 40 (9, 0, 0) [ab_R z, l1, l2, l3, l4, l5, l6, l7] (ab_R z :: st) σ Q := ab_r_aload_n rfl kc_X13_lawOdds dX13_lawOdds_39
theorem rX13_lawOdds_40 : ab_Run X 244 40 (9, 0, 0) [l0, ab_I z, l2, l3, l4, l5, l6, l7] st σ Q ↔ ab_Run X 244 41 (9, 0, 0) [l0, ab_I z, l2, l3, l4, l5, l6, l7] (ab_I z :: st) σ Q := ab_r_iload_n rfl kc_X13_lawOdds dX13_lawOdds_40
theorem rX13_lawOdds_41 : ab_Run X 244 41 (9, 0, 0) [l0, l1, ab_I z, l3, l4, l5, l6, l7] st σ Q ↔ ab_Run X 244 42 (9, 0, 0) [l0, l1, ab_I z, l3, l4, l5, l6, l7] (ab_I z :: st) σ Q := ab_r_iload_n rfl kc_X13_lawOdds dX13_lawOdds_41
theorem rX13_lawOdds_42 : ab_Run X 244 42 (9, 0, 0) [l0, l1, l2, ab_I z, l4, l5, l6, l7] st σ Q ↔ ab_Run X 244 43 (9, 0, 0) [l0, l1, l2, ab_I z, l4, l5, l6, l7] (ab_I z :: st) σ Q := ab_r_iload_n rfl kc_X13_lawOdds dX13_lawOdds_42
theorem rX13_lawOdds_43 : ab_Run X 244 43 (9, 0, 0) [l0, l1, l2, l3, ab_I z, l5, l6, l7] st σ Q ↔ ab_Run X 244 45 (9, 0, 0) [l0, l1, l2, l3, ab_I z, l5, l6, l7] (ab_I z :: st) σ Q := ab_r_iload rfl kc_X13_lawOdds dX13_lawOdds_43
theorem rX13_lawOdds_45 : ab_Run X 244 45 (9, 0, 0) L (ab_I x4 :: ab_I x3 :: ab_I x2 :: ab_I x1 :: ab_R a :: st) σ Q ↔ ((ab_sh σ a).1 = 14 ∧ ab_cats st ≤ 8) ∧ ab_Do X 243 [ab_R a, ab_I x1, ab_I x2, ab_I x3, ab_I x4] σ (fun r σ' => ab_Run X 244 48 (9, 0, 0) L (ab_psh r st) σ' Q) := ab_r_callV (w := [ab_I x4, ab_I x3, ab_I x2, ab_I x1]) (as := [ab_I x1, ab_I x2, ab_I x3, ab_I x4]) (b1 := (8, 0, 0)) 0 (Or.inl rfl) (by decide) ko_X13_lawOdds qM_13_506 (by decide) rfl rfl rfl rfl rfl (by decide) (Nat.le_of_ble_eq_true rfl) kc_X13_lawOdds dX13_lawOdds_45
theorem rX13_lawOdds_48 : ab_Run X 244 48 (9, 0, 0) [l0, l1, l2, l3, l4, l5, l6, l7] (ab_J z :: st) σ Q ↔ (!ab_isJ l5) = true ∧ ab_Run X 244 50 (9, 0, 0) [l0, l1, l2, l3, l4, l5, ab_J z, ab_R 0] st σ Q := ab_r_lstore (Nat.le_of_ble_eq_true rfl) kc_X13_lawOdds dX13_lawOdds_48
theorem rX13_lawOdds_50 : ab_Run X 244 50 (9, 0, 0) [ab_R z, l1, l2, l3, l4, l5, l6, l7] st σ Q ↔ z ≠ 0 ∧ ab_Run X 244 51 (9, 0, 0) [ab_R z, l1, l2, l3, l4, l5, l6, l7] (ab_R z :: st) σ Q := ab_r_aload_n rfl kc_X13_lawOdds dX13_lawOdds_50
theorem rX13_lawOdds_51 : ab_Run X 244 51 (9, 0, 0) [l0, l1, l2, l3, l4, l5, ab_J z, l7] st σ Q ↔ ab_Run X 244 53 (9, 0, 0) [l0, l1, l2, l3, l4, l5, ab_J z, l7] (ab_J z :: st) σ Q := ab_r_lload rfl kc_X13_lawOdds dX13_lawOdds_51
theorem rX13_lawOdds_53 : ab_Run X 244 53 (9, 0, 0) L st σ Q ↔ ab_Run X 244 56 (9, 0, 0) L (ab_J 200 :: st) σ Q := ab_r_ldc2_w rfl ko_X13_lawOdds (by decide +kernel) kc_X13_lawOdds dX13_lawOdds_53
theorem rX13_lawOdds_56 : ab_Run X 244 56 (9, 0, 0) [ab_R z, l1, l2, l3, l4, l5, l6, l7] st σ Q ↔ z ≠ 0 ∧ ab_Run X 244 57 (9, 0, 0) [ab_R z, l1, l2, l3, l4, l5, l6, l7] (ab_R z :: st) σ Q := ab_r_aload_n rfl kc_X13_lawOdds dX13_lawOdds_56
theorem rX13_lawOdds_57 : ab_Run X 244 57 (9, 0, 0) L (ab_R a :: st) σ Q ↔ ((ab_sh σ a).1 = 14 ∧ ab_cats st ≤ 8) ∧ ab_Do X 209 [ab_R a] σ (fun r σ' => ab_Run X 244 60 (9, 0, 0) L (ab_psh r st) σ' Q) := ab_r_callV (w := []) (as := []) (b1 := (1, 0, 0)) 0 (Or.inl rfl) (by decide) ko_X13_lawOdds qM_13_430 (by decide) rfl rfl rfl rfl rfl (by decide) (Nat.le_of_ble_eq_true rfl) kc_X13_lawOdds dX13_lawOdds_57
theorem rX13_lawOdds_60 : ab_Run X 244 60 (9, 0, 0) L (ab_I a :: st) σ Q ↔ ab_Run X 244 61 (9, 0, 0) L (ab_J a :: st) σ Q := ab_r_i2l kc_X13_lawOdds dX13_lawOdds_60
theorem rX13_lawOdds_61 : ab_Run X 244 61 (9, 0, 0) L (ab_J b :: ab_J a :: st) σ Q ↔ ab_Run X 244 62 (9, 0, 0) L (ab_J (ab_w64 (a * b)) :: st) σ Q := ab_r_lmul kc_X13_lawOdds dX13_lawOdds_61
theorem rX13_lawOdds_62 : ab_Run X 244 62 (9, 0, 0) [l0, l1, l2, l3, l4, ab_I z, l6, l7] st σ Q ↔ ab_Run X 244 64 (9, 0, 0) [l0, l1, l2, l3, l4, ab_I z, l6, l7] (ab_I z :: st) σ Q := ab_r_iload rfl kc_X13_lawOdds dX13_lawOdds_62
theorem rX13_lawOdds_64 : ab_Run X 244 64 (9, 0, 0) L (ab_I x3 :: ab_J x2 :: ab_J x1 :: ab_R a :: st) σ Q ↔ ((ab_sh σ a).1 = 14 ∧ ab_cats st ≤ 8) ∧ ab_Do X 166 [ab_R a, ab_J x1, ab_J x2, ab_I x3] σ (fun r σ' => ab_Run X 244 67 (9, 0, 0) L (ab_psh r st) σ' Q) := ab_r_callV (w := [ab_I x3, ab_J x2, ab_J x1]) (as := [ab_J x1, ab_J x2, ab_I x3]) (b1 := (1, 0, 0)) 0 (Or.inl rfl) (by decide) ko_X13_lawOdds qM_13_466 (by decide) rfl rfl rfl rfl rfl (by decide) (Nat.le_of_ble_eq_true rfl) kc_X13_lawOdds dX13_lawOdds_64
theorem rX13_lawOdds_67 : ab_Run X 244 67 (9, 0, 0) L [ab_J v] σ Q ↔ Q (some (ab_J v)) σ := ab_r_lreturn rfl kc_X13_lawOdds dX13_lawOdds_67
theorem kc_X13_fromHalf : ab_code 245 = cX13_fromHalf := rfl
theorem ko_X13_fromHalf : ab_ow 245 = 13 := rfl
theorem rX13_fromHalf_0 : ab_Run X 245 0 (9, 0, 0) [ab_R z, l1, l2, l3, l4, l5, l6] st σ Q ↔ z ≠ 0 ∧ ab_Run X 245 1 (9, 0, 0) [ab_R z, l1, l2, l3, l4, l5, l6] (ab_R z :: st) σ Q := ab_r_aload_n rfl kc_X13_fromHalf dX13_fromHalf_0
theorem rX13_fromHalf_1 : ab_Run X 245 1 (9, 0, 0) [l0, ab_I z, l2, l3, l4, l5, l6] st σ Q ↔ ab_Run X 245 2 (9, 0, 0) [l0, ab_I z, l2, l3, l4, l5, l6] (ab_I z :: st) σ Q := ab_r_iload_n rfl kc_X13_fromHalf dX13_fromHalf_1
theorem rX13_fromHalf_2 : ab_Run X 245 2 (9, 0, 0) [l0, l1, ab_I z, l3, l4, l5, l6] st σ Q ↔ ab_Run X 245 3 (9, 0, 0) [l0, l1, ab_I z, l3, l4, l5, l6] (ab_I z :: st) σ Q := ab_r_iload_n rfl kc_X13_fromHalf dX13_fromHalf_2
theorem rX13_fromHalf_3 : ab_Run X 245 3 (9, 0, 0) [l0, l1, l2, ab_I z, l4, l5, l6] st σ Q ↔ ab_Run X 245 4 (9, 0, 0) [l0, l1, l2, ab_I z, l4, l5, l6] (ab_I z :: st) σ Q := ab_r_iload_n rfl kc_X13_fromHalf dX13_fromHalf_3
theorem rX13_fromHalf_4 : ab_Run X 245 4 (9, 0, 0) [l0, l1, l2, l3, ab_I z, l5, l6] st σ Q ↔ ab_Run X 245 6 (9, 0, 0) [l0, l1, l2, l3, ab_I z, l5, l6] (ab_I z :: st) σ Q := ab_r_iload rfl kc_X13_fromHalf dX13_fromHalf_4
theorem rX13_fromHalf_6 : ab_Run X 245 6 (9, 0, 0) L (ab_I x4 :: ab_I x3 :: ab_I x2 :: ab_I x1 :: ab_R a :: st) σ Q ↔ ((ab_sh σ a).1 = 14 ∧ ab_cats st ≤ 8) ∧ ab_Do X 243 [ab_R a, ab_I x1, ab_I x2, ab_I x3, ab_I x4] σ (fun r σ' => ab_Run X 245 9 (9, 0, 0) L (ab_psh r st) σ' Q) := ab_r_callV (w := [ab_I x4, ab_I x3, ab_I x2, ab_I x1]) (as := [ab_I x1, ab_I x2, ab_I x3, ab_I x4]) (b1 := (8, 0, 0)) 0 (Or.inl rfl) (by decide) ko_X13_fromHalf qM_13_506 (by decide) rfl rfl rfl rfl rfl (by decide) (Nat.le_of_ble_eq_true rfl) kc_X13_fromHalf dX13_fromHalf_6
theorem rX13_fromHalf_9 : ab_Run X 245 9 (9, 0, 0) L st σ Q ↔ ab_Run X 245 12 (9, 0, 0) L (ab_J 100 :: st) σ Q := ab_r_ldc2_w rfl ko_X13_fromHalf (by decide +kernel) kc_X13_fromHalf dX13_fromHalf_9
theorem rX13_fromHalf_12 : ab_Run X 245 12 (9, 0, 0) [ab_R z, l1, l2, l3, l4, l5, l6] st σ Q ↔ z ≠ 0 ∧ ab_Run X 245 13 (9, 0, 0) [ab_R z, l1, l2, l3, l4, l5, l6] (ab_R z :: st) σ Q := ab_r_aload_n rfl kc_X13_fromHalf dX13_fromHalf_12
theorem rX13_fromHalf_13 : ab_Run X 245 13 (9, 0, 0) L (ab_R a :: st) σ Q ↔ ((ab_sh σ a).1 = 14 ∧ ab_cats st ≤ 8) ∧ ab_Do X 209 [ab_R a] σ (fun r σ' => ab_Run X 245 16 (9, 0, 0) L (ab_psh r st) σ' Q) := ab_r_callV (w := []) (as := []) (b1 := (1, 0, 0)) 0 (Or.inl rfl) (by decide) ko_X13_fromHalf qM_13_430 (by decide) rfl rfl rfl rfl rfl (by decide) (Nat.le_of_ble_eq_true rfl) kc_X13_fromHalf dX13_fromHalf_13
theorem rX13_fromHalf_16 : ab_Run X 245 16 (9, 0, 0) L (ab_I a :: st) σ Q ↔ ab_Run X 245 17 (9, 0, 0) L (ab_J a :: st) σ Q := ab_r_i2l kc_X13_fromHalf dX13_fromHalf_16
theorem rX13_fromHalf_17 : ab_Run X 245 17 (9, 0, 0) L (ab_J b :: ab_J a :: st) σ Q ↔ ab_Run X 245 18 (9, 0, 0) L (ab_J (ab_w64 (a * b)) :: st) σ Q := ab_r_lmul kc_X13_fromHalf dX13_fromHalf_17
theorem rX13_fromHalf_18 : ab_Run X 245 18 (9, 0, 0) L (ab_J b :: ab_J a :: st) σ Q ↔ ab_Run X 245 19 (9, 0, 0) L (ab_J (ab_w64 (a - b)) :: st) σ Q := ab_r_lsub kc_X13_fromHalf dX13_fromHalf_18
theorem rX13_fromHalf_19 : ab_Run X 245 19 (9, 0, 0) [l0, l1, l2, l3, l4, l5, l6] (ab_J z :: st) σ Q ↔ (!ab_isJ l4) = true ∧ ab_Run X 245 21 (9, 0, 0) [l0, l1, l2, l3, l4, ab_J z, ab_R 0] st σ Q := ab_r_lstore (Nat.le_of_ble_eq_true rfl) kc_X13_fromHalf dX13_fromHalf_19
theorem rX13_fromHalf_21 : ab_Run X 245 21 (9, 0, 0) [l0, l1, l2, l3, l4, ab_J z, l6] st σ Q ↔ ab_Run X 245 23 (9, 0, 0) [l0, l1, l2, l3, l4, ab_J z, l6] (ab_J z :: st) σ Q := ab_r_lload rfl kc_X13_fromHalf dX13_fromHalf_21
theorem rX13_fromHalf_23 : ab_Run X 245 23 (9, 0, 0) L st σ Q ↔ ab_Run X 245 24 (9, 0, 0) L (ab_J 0 :: st) σ Q := ab_r_lconst kc_X13_fromHalf dX13_fromHalf_23
theorem rX13_fromHalf_24 : ab_Run X 245 24 (9, 0, 0) L (ab_J b :: ab_J a :: st) σ Q ↔ ab_Run X 245 25 (9, 0, 0) L (ab_I (if b < a then 1 else if a = b then 0 else -1) :: st) σ Q := ab_r_lcmp kc_X13_fromHalf dX13_fromHalf_24
theorem rX13_fromHalf_25 : ab_Run X 245 25 (9, 0, 0) L (ab_I a :: st) σ Q ↔ (0 ≤ a → ab_Run X 245 34 (9, 0, 0) L st σ Q) ∧ (¬ (0 ≤ a) → ab_Run X 245 28 (9, 0, 0) L st σ Q) := ab_r_if_ge rfl kc_X13_fromHalf dX13_fromHalf_25
theorem rX13_fromHalf_28 : ab_Run X 245 28 (9, 0, 0) [l0, l1, l2, l3, l4, ab_J z, l6] st σ Q ↔ ab_Run X 245 30 (9, 0, 0) [l0, l1, l2, l3, l4, ab_J z, l6] (ab_J z :: st) σ Q := ab_r_lload rfl kc_X13_fromHalf dX13_fromHalf_28
theorem rX13_fromHalf_30 : ab_Run X 245 30 (9, 0, 0) L (ab_J a :: st) σ Q ↔ ab_Run X 245 31 (9, 0, 0) L (ab_J (ab_w64 (-a)) :: st) σ Q := ab_r_lneg kc_X13_fromHalf dX13_fromHalf_30
theorem rX13_fromHalf_31 : ab_Run X 245 31 (9, 0, 0) L st σ Q ↔ ab_Run X 245 36 (9, 0, 0) L st σ Q := ab_r_goto rfl kc_X13_fromHalf dX13_fromHalf_31
theorem rX13_fromHalf_34 : ab_Run X 245 34 (9, 0, 0) [l0, l1, l2, l3, l4, ab_J z, l6] st σ Q ↔ ab_Run X 245 36 (9, 0, 0) [l0, l1, l2, l3, l4, ab_J z, l6] (ab_J z :: st) σ Q := ab_r_lload rfl kc_X13_fromHalf dX13_fromHalf_34
theorem rX13_fromHalf_36 : ab_Run X 245 36 (9, 0, 0) L [ab_J v] σ Q ↔ Q (some (ab_J v)) σ := ab_r_lreturn rfl kc_X13_fromHalf dX13_fromHalf_36
theorem kc_X13_fairest : ab_code 246 = cX13_fairest := rfl
theorem ko_X13_fairest : ab_ow 246 = 13 := rfl
theorem rX13_fairest_0 : ab_Run X 246 0 (10, 0, 0) [ab_R z, l1, l2, l3, l4, l5] st σ Q ↔ z ≠ 0 ∧ ab_Run X 246 1 (10, 0, 0) [ab_R z, l1, l2, l3, l4, l5] (ab_R z :: st) σ Q := ab_r_aload_n rfl kc_X13_fairest dX13_fairest_0
theorem rX13_fairest_1 : ab_Run X 246 1 (10, 0, 0) L st σ Q ↔ ab_Run X 246 2 (10, 0, 0) L (ab_I 0 :: st) σ Q := ab_r_iconst (by decide) kc_X13_fairest dX13_fairest_1
theorem rX13_fairest_2 : ab_Run X 246 2 (10, 0, 0) L (ab_I z :: ab_R a :: st) σ Q ↔ (ab_sh σ a).1 = 14 ∧ ab_Run X 246 5 (10, 0, 0) L st (ab_wr σ a 0 z) Q := sF_13_53 ko_X13_fairest kc_X13_fairest dX13_fairest_2
theorem rX13_fairest_5 : ab_Run X 246 5 (10, 0, 0) [ab_R z, l1, l2, l3, l4, l5] st σ Q ↔ z ≠ 0 ∧ ab_Run X 246 6 (10, 0, 0) [ab_R z, l1, l2, l3, l4, l5] (ab_R z :: st) σ Q := ab_r_aload_n rfl kc_X13_fairest dX13_fairest_5
theorem rX13_fairest_6 : ab_Run X 246 6 (10, 0, 0) [l0, ab_I z, l2, l3, l4, l5] st σ Q ↔ ab_Run X 246 7 (10, 0, 0) [l0, ab_I z, l2, l3, l4, l5] (ab_I z :: st) σ Q := ab_r_iload_n rfl kc_X13_fairest dX13_fairest_6
theorem rX13_fairest_7 : ab_Run X 246 7 (10, 0, 0) L (ab_I x1 :: ab_R a :: st) σ Q ↔ ((ab_sh σ a).1 = 14 ∧ ab_cats st ≤ 8) ∧ ab_Do X 212 [ab_R a, ab_I x1] σ (fun r σ' => ab_Run X 246 10 (10, 0, 0) L (ab_psh r st) σ' Q) := ab_r_callV (w := [ab_I x1]) (as := [ab_I x1]) (b1 := (0, 0, 0)) 0 (Or.inl rfl) (by decide) ko_X13_fairest qM_13_444 (by decide) rfl rfl rfl rfl rfl (by decide) (Nat.le_of_ble_eq_true rfl) kc_X13_fairest dX13_fairest_7
theorem rX13_fairest_10 : ab_Run X 246 10 (10, 0, 0) L (ab_I a :: st) σ Q ↔ (a = 0 → ab_Run X 246 22 (10, 0, 0) L st σ Q) ∧ (¬ (a = 0) → ab_Run X 246 13 (10, 0, 0) L st σ Q) := ab_r_if_eq rfl kc_X13_fairest dX13_fairest_10
theorem rX13_fairest_13 : ab_Run X 246 13 (10, 0, 0) [ab_R z, l1, l2, l3, l4, l5] st σ Q ↔ z ≠ 0 ∧ ab_Run X 246 14 (10, 0, 0) [ab_R z, l1, l2, l3, l4, l5] (ab_R z :: st) σ Q := ab_r_aload_n rfl kc_X13_fairest dX13_fairest_13
theorem rX13_fairest_14 : ab_Run X 246 14 (10, 0, 0) [l0, l1, ab_I z, l3, l4, l5] st σ Q ↔ ab_Run X 246 15 (10, 0, 0) [l0, l1, ab_I z, l3, l4, l5] (ab_I z :: st) σ Q := ab_r_iload_n rfl kc_X13_fairest dX13_fairest_14
theorem rX13_fairest_15 : ab_Run X 246 15 (10, 0, 0) [l0, l1, l2, ab_I z, l4, l5] st σ Q ↔ ab_Run X 246 16 (10, 0, 0) [l0, l1, l2, ab_I z, l4, l5] (ab_I z :: st) σ Q := ab_r_iload_n rfl kc_X13_fairest dX13_fairest_15
theorem rX13_fairest_16 : ab_Run X 246 16 (10, 0, 0) L (ab_I x2 :: ab_I x1 :: ab_R a :: st) σ Q ↔ ((ab_sh σ a).1 = 14 ∧ ab_cats st ≤ 8) ∧ ab_Do X 214 [ab_R a, ab_I x1, ab_I x2] σ (fun r σ' => ab_Run X 246 19 (10, 0, 0) L (ab_psh r st) σ' Q) := ab_r_callV (w := [ab_I x2, ab_I x1]) (as := [ab_I x1, ab_I x2]) (b1 := (1, 0, 0)) 0 (Or.inl rfl) (by decide) ko_X13_fairest qM_13_455 (by decide) rfl rfl rfl rfl rfl (by decide) (Nat.le_of_ble_eq_true rfl) kc_X13_fairest dX13_fairest_16
theorem rX13_fairest_19 : ab_Run X 246 19 (10, 0, 0) L (ab_I a :: st) σ Q ↔ (¬ a = 0 → ab_Run X 246 28 (10, 0, 0) L st σ Q) ∧ (¬ (¬ a = 0) → ab_Run X 246 22 (10, 0, 0) L st σ Q) := ab_r_if_ne rfl kc_X13_fairest dX13_fairest_19
theorem rX13_fairest_22 : ab_Run X 246 22 (10, 0, 0) [ab_R z, l1, l2, l3, l4, l5] st σ Q ↔ z ≠ 0 ∧ ab_Run X 246 23 (10, 0, 0) [ab_R z, l1, l2, l3, l4, l5] (ab_R z :: st) σ Q := ab_r_aload_n rfl kc_X13_fairest dX13_fairest_22
theorem rX13_fairest_23 : ab_Run X 246 23 (10, 0, 0) L st σ Q ↔ ab_Run X 246 24 (10, 0, 0) L (ab_I 1 :: st) σ Q := ab_r_iconst (by decide) kc_X13_fairest dX13_fairest_23
theorem rX13_fairest_24 : ab_Run X 246 24 (10, 0, 0) L (ab_I x1 :: ab_R a :: st) σ Q ↔ ((ab_sh σ a).1 = 14 ∧ ab_cats st ≤ 8) ∧ ab_Do X 159 [ab_R a, ab_I x1] σ (fun r σ' => ab_Run X 246 27 (10, 0, 0) L (ab_psh r st) σ' Q) := ab_r_callV (w := [ab_I x1]) (as := [ab_I x1]) (b1 := (0, 0, 0)) 0 (Or.inl rfl) (by decide) ko_X13_fairest qM_13_59 (by decide) rfl rfl rfl rfl rfl (by decide) (Nat.le_of_ble_eq_true rfl) kc_X13_fairest dX13_fairest_24
theorem rX13_fairest_27 : ab_Run X 246 27 (10, 0, 0) L [ab_I v] σ Q ↔ Q (some (ab_I v)) σ := ab_r_ireturnI rfl kc_X13_fairest dX13_fairest_27
theorem rX13_fairest_28 : ab_Run X 246 28 (10, 0, 0) L st σ Q ↔ ab_Run X 246 29 (10, 0, 0) L (ab_I 0 :: st) σ Q := ab_r_iconst (by decide) kc_X13_fairest dX13_fairest_28
theorem rX13_fairest_29 : ab_Run X 246 29 (10, 0, 0) [l0, l1, l2, l3, l4, l5] (ab_I z :: st) σ Q ↔ (!ab_isJ l3) = true ∧ ab_Run X 246 31 (10, 0, 0) [l0, l1, l2, l3, ab_I z, l5] st σ Q := ab_r_istore (Nat.le_of_ble_eq_true rfl) kc_X13_fairest dX13_fairest_29
theorem rX13_fairest_31 : ab_Run X 246 31 (10, 0, 0) L st σ Q ↔ ab_Run X 246 32 (10, 0, 0) L (ab_I 1 :: st) σ Q := ab_r_iconst (by decide) kc_X13_fairest dX13_fairest_31
theorem rX13_fairest_32 : ab_Run X 246 32 (10, 0, 0) [l0, l1, l2, l3, l4, l5] (ab_I z :: st) σ Q ↔ (!ab_isJ l4) = true ∧ ab_Run X 246 34 (10, 0, 0) [l0, l1, l2, l3, l4, ab_I z] st σ Q := ab_r_istore (Nat.le_of_ble_eq_true rfl) kc_X13_fairest dX13_fairest_32
theorem rX13_fairest_34 : ab_Run X 246 34 (10, 0, 0) [l0, l1, l2, l3, l4, ab_I z] st σ Q ↔ ab_Run X 246 36 (10, 0, 0) [l0, l1, l2, l3, l4, ab_I z] (ab_I z :: st) σ Q := ab_r_iload rfl kc_X13_fairest dX13_fairest_34
theorem rX13_fairest_36 : ab_Run X 246 36 (10, 0, 0) L st σ Q ↔ ab_Run X 246 37 (10, 0, 0) L (ab_I 4 :: st) σ Q := ab_r_iconst (by decide) kc_X13_fairest dX13_fairest_36
theorem rX13_fairest_37 : ab_Run X 246 37 (10, 0, 0) L (ab_I b :: ab_I a :: st) σ Q ↔ (b ≤ a → ab_Run X 246 72 (10, 0, 0) L st σ Q) ∧ (¬ (b ≤ a) → ab_Run X 246 40 (10, 0, 0) L st σ Q) := ab_r_icmp_ge rfl kc_X13_fairest dX13_fairest_37
theorem rX13_fairest_40 : ab_Run X 246 40 (10, 0, 0) [ab_R z, l1, l2, l3, l4, l5] st σ Q ↔ z ≠ 0 ∧ ab_Run X 246 41 (10, 0, 0) [ab_R z, l1, l2, l3, l4, l5] (ab_R z :: st) σ Q := ab_r_aload_n rfl kc_X13_fairest dX13_fairest_40
theorem rX13_fairest_41 : ab_Run X 246 41 (10, 0, 0) [l0, l1, l2, l3, l4, ab_I z] st σ Q ↔ ab_Run X 246 43 (10, 0, 0) [l0, l1, l2, l3, l4, ab_I z] (ab_I z :: st) σ Q := ab_r_iload rfl kc_X13_fairest dX13_fairest_41
theorem rX13_fairest_43 : ab_Run X 246 43 (10, 0, 0) [l0, ab_I z, l2, l3, l4, l5] st σ Q ↔ ab_Run X 246 44 (10, 0, 0) [l0, ab_I z, l2, l3, l4, l5] (ab_I z :: st) σ Q := ab_r_iload_n rfl kc_X13_fairest dX13_fairest_43
theorem rX13_fairest_44 : ab_Run X 246 44 (10, 0, 0) [l0, l1, ab_I z, l3, l4, l5] st σ Q ↔ ab_Run X 246 45 (10, 0, 0) [l0, l1, ab_I z, l3, l4, l5] (ab_I z :: st) σ Q := ab_r_iload_n rfl kc_X13_fairest dX13_fairest_44
theorem rX13_fairest_45 : ab_Run X 246 45 (10, 0, 0) [l0, l1, l2, ab_I z, l4, l5] st σ Q ↔ ab_Run X 246 46 (10, 0, 0) [l0, l1, l2, ab_I z, l4, l5] (ab_I z :: st) σ Q := ab_r_iload_n rfl kc_X13_fairest dX13_fairest_45
theorem rX13_fairest_46 : ab_Run X 246 46 (10, 0, 0) L (ab_I x4 :: ab_I x3 :: ab_I x2 :: ab_I x1 :: ab_R a :: st) σ Q ↔ ((ab_sh σ a).1 = 14 ∧ ab_cats st ≤ 8) ∧ ab_Do X 245 [ab_R a, ab_I x1, ab_I x2, ab_I x3, ab_I x4] σ (fun r σ' => ab_Run X 246 49 (10, 0, 0) L (ab_psh r st) σ' Q) := ab_r_callV (w := [ab_I x4, ab_I x3, ab_I x2, ab_I x1]) (as := [ab_I x1, ab_I x2, ab_I x3, ab_I x4]) (b1 := (9, 0, 0)) 0 (Or.inl rfl) (by decide) ko_X13_fairest qM_13_511 (by decide) rfl rfl rfl rfl rfl (by decide) (Nat.le_of_ble_eq_true rfl) kc_X13_fairest dX13_fairest_46
theorem rX13_fairest_49 : ab_Run X 246 49 (10, 0, 0) [ab_R z, l1, l2, l3, l4, l5] st σ Q ↔ z ≠ 0 ∧ ab_Run X 246 50 (10, 0, 0) [ab_R z, l1, l2, l3, l4, l5] (ab_R z :: st) σ Q := ab_r_aload_n rfl kc_X13_fairest dX13_fairest_49
theorem rX13_fairest_50 : ab_Run X 246 50 (10, 0, 0) [l0, l1, l2, l3, ab_I z, l5] st σ Q ↔ ab_Run X 246 52 (10, 0, 0) [l0, l1, l2, l3, ab_I z, l5] (ab_I z :: st) σ Q := ab_r_iload rfl kc_X13_fairest dX13_fairest_50
theorem rX13_fairest_52 : ab_Run X 246 52 (10, 0, 0) [l0, ab_I z, l2, l3, l4, l5] st σ Q ↔ ab_Run X 246 53 (10, 0, 0) [l0, ab_I z, l2, l3, l4, l5] (ab_I z :: st) σ Q := ab_r_iload_n rfl kc_X13_fairest dX13_fairest_52
theorem rX13_fairest_53 : ab_Run X 246 53 (10, 0, 0) [l0, l1, ab_I z, l3, l4, l5] st σ Q ↔ ab_Run X 246 54 (10, 0, 0) [l0, l1, ab_I z, l3, l4, l5] (ab_I z :: st) σ Q := ab_r_iload_n rfl kc_X13_fairest dX13_fairest_53
theorem rX13_fairest_54 : ab_Run X 246 54 (10, 0, 0) [l0, l1, l2, ab_I z, l4, l5] st σ Q ↔ ab_Run X 246 55 (10, 0, 0) [l0, l1, l2, ab_I z, l4, l5] (ab_I z :: st) σ Q := ab_r_iload_n rfl kc_X13_fairest dX13_fairest_54
theorem rX13_fairest_55 : ab_Run X 246 55 (10, 0, 0) L (ab_I x4 :: ab_I x3 :: ab_I x2 :: ab_I x1 :: ab_R a :: st) σ Q ↔ ((ab_sh σ a).1 = 14 ∧ ab_cats st ≤ 8) ∧ ab_Do X 245 [ab_R a, ab_I x1, ab_I x2, ab_I x3, ab_I x4] σ (fun r σ' => ab_Run X 246 58 (10, 0, 0) L (ab_psh r st) σ' Q) := ab_r_callV (w := [ab_I x4, ab_I x3, ab_I x2, ab_I x1]) (as := [ab_I x1, ab_I x2, ab_I x3, ab_I x4]) (b1 := (9, 0, 0)) 0 (Or.inl rfl) (by decide) ko_X13_fairest qM_13_511 (by decide) rfl rfl rfl rfl rfl (by decide) (Nat.le_of_ble_eq_true rfl) kc_X13_fairest dX13_fairest_55
theorem rX13_fairest_58 : ab_Run X 246 58 (10, 0, 0) L (ab_J b :: ab_J a :: st) σ Q ↔ ab_Run X 246 59 (10, 0, 0) L (ab_I (if b < a then 1 else if a = b then 0 else -1) :: st) σ Q := ab_r_lcmp kc_X13_fairest dX13_fairest_58
theorem rX13_fairest_59 : ab_Run X 246 59 (10, 0, 0) L (ab_I a :: st) σ Q ↔ (0 ≤ a → ab_Run X 246 66 (10, 0, 0) L st σ Q) ∧ (¬ (0 ≤ a) → ab_Run X 246 62 (10, 0, 0) L st σ Q) := ab_r_if_ge rfl kc_X13_fairest dX13_fairest_59
theorem rX13_fairest_62 : ab_Run X 246 62 (10, 0, 0) [l0, l1, l2, l3, l4, ab_I z] st σ Q ↔ ab_Run X 246 64 (10, 0, 0) [l0, l1, l2, l3, l4, ab_I z] (ab_I z :: st) σ Q := ab_r_iload rfl kc_X13_fairest dX13_fairest_62
theorem rX13_fairest_64 : ab_Run X 246 64 (10, 0, 0) [l0, l1, l2, l3, l4, l5] (ab_I z :: st) σ Q ↔ (!ab_isJ l3) = true ∧ ab_Run X 246 66 (10, 0, 0) [l0, l1, l2, l3, ab_I z, l5] st σ Q := ab_r_istore (Nat.le_of_ble_eq_true rfl) kc_X13_fairest dX13_fairest_64
theorem rX13_fairest_66 : ab_Run X 246 66 (10, 0, 0) [l0, l1, l2, l3, l4, ab_I z] st σ Q ↔ (!ab_isJ l4) = true ∧ ab_Run X 246 69 (10, 0, 0) [l0, l1, l2, l3, l4, ab_I (ab_w32 (z + 1))] st σ Q := ab_r_iinc rfl (by decide) kc_X13_fairest dX13_fairest_66
theorem rX13_fairest_69 : ab_Run X 246 69 (10, 0, 0) L st σ Q ↔ ab_Run X 246 34 (10, 0, 0) L st σ Q := ab_r_goto rfl kc_X13_fairest dX13_fairest_69
theorem rX13_fairest_72 : ab_Run X 246 72 (10, 0, 0) [ab_R z, l1, l2, l3, l4, l5] st σ Q ↔ z ≠ 0 ∧ ab_Run X 246 73 (10, 0, 0) [ab_R z, l1, l2, l3, l4, l5] (ab_R z :: st) σ Q := ab_r_aload_n rfl kc_X13_fairest dX13_fairest_72
theorem rX13_fairest_73 : ab_Run X 246 73 (10, 0, 0) [l0, l1, l2, l3, ab_I z, l5] st σ Q ↔ ab_Run X 246 75 (10, 0, 0) [l0, l1, l2, l3, ab_I z, l5] (ab_I z :: st) σ Q := ab_r_iload rfl kc_X13_fairest dX13_fairest_73
theorem rX13_fairest_75 : ab_Run X 246 75 (10, 0, 0) L (ab_I x1 :: ab_R a :: st) σ Q ↔ ((ab_sh σ a).1 = 14 ∧ ab_cats st ≤ 8) ∧ ab_Do X 161 [ab_R a, ab_I x1] σ (fun r σ' => ab_Run X 246 78 (10, 0, 0) L (ab_psh r st) σ' Q) := ab_r_callV (w := [ab_I x1]) (as := [ab_I x1]) (b1 := (0, 0, 0)) 0 (Or.inl rfl) (by decide) ko_X13_fairest qM_13_63 (by decide) rfl rfl rfl rfl rfl (by decide) (Nat.le_of_ble_eq_true rfl) kc_X13_fairest dX13_fairest_75
theorem rX13_fairest_78 : ab_Run X 246 78 (10, 0, 0) L [ab_I v] σ Q ↔ Q (some (ab_I v)) σ := ab_r_ireturnI rfl kc_X13_fairest dX13_fairest_78
theorem kc_X13_lesser : ab_code 247 = cX13_lesser := rfl
theorem ko_X13_lesser : ab_ow 247 = 13 := rfl
theorem rX13_lesser_0 : ab_Run X 247 0 (0, 0, 0) [l0, ab_I z, l2, l3] st σ Q ↔ ab_Run X 247 1 (0, 0, 0) [l0, ab_I z, l2, l3] (ab_I z :: st) σ Q := ab_r_iload_n rfl kc_X13_lesser dX13_lesser_0
theorem rX13_lesser_1 : ab_Run X 247 1 (0, 0, 0) [l0, l1, l2, l3] (ab_I z :: st) σ Q ↔ (!ab_isJ l1) = true ∧ ab_Run X 247 2 (0, 0, 0) [l0, l1, ab_I z, l3] st σ Q := ab_r_istore_n (Nat.le_of_ble_eq_true rfl) kc_X13_lesser dX13_lesser_1
theorem rX13_lesser_2 : ab_Run X 247 2 (0, 0, 0) L st σ Q ↔ ab_Run X 247 3 (0, 0, 0) L (ab_I 0 :: st) σ Q := ab_r_iconst (by decide) kc_X13_lesser dX13_lesser_2
theorem rX13_lesser_3 : ab_Run X 247 3 (0, 0, 0) [l0, l1, l2, l3] (ab_I z :: st) σ Q ↔ (!ab_isJ l2) = true ∧ ab_Run X 247 4 (0, 0, 0) [l0, l1, l2, ab_I z] st σ Q := ab_r_istore_n (Nat.le_of_ble_eq_true rfl) kc_X13_lesser dX13_lesser_3
theorem rX13_lesser_4 : ab_Run X 247 4 (0, 0, 0) [l0, l1, l2, ab_I z] st σ Q ↔ ab_Run X 247 5 (0, 0, 0) [l0, l1, l2, ab_I z] (ab_I z :: st) σ Q := ab_r_iload_n rfl kc_X13_lesser dX13_lesser_4
theorem rX13_lesser_5 : ab_Run X 247 5 (0, 0, 0) [ab_R z, l1, l2, l3] st σ Q ↔ z ≠ 0 ∧ ab_Run X 247 6 (0, 0, 0) [ab_R z, l1, l2, l3] (ab_R z :: st) σ Q := ab_r_aload_n rfl kc_X13_lesser dX13_lesser_5
theorem rX13_lesser_6 : ab_Run X 247 6 (0, 0, 0) L (ab_R a :: st) σ Q ↔ (ab_sh σ a).1 = 14 ∧ ab_Run X 247 9 (0, 0, 0) L (ab_R (ab_rd σ a 3) :: st) σ Q := gF_13_373 ko_X13_lesser kc_X13_lesser dX13_lesser_6
theorem rX13_lesser_9 : ab_Run X 247 9 (0, 0, 0) L (ab_R a :: st) σ Q ↔ (ab_sh σ a).1 = 13 ∧ ab_Run X 247 12 (0, 0, 0) L (ab_I (ab_rd σ a 6) :: st) σ Q := gF_13_213 ko_X13_lesser kc_X13_lesser dX13_lesser_9
theorem rX13_lesser_12 : ab_Run X 247 12 (0, 0, 0) L (ab_I b :: ab_I a :: st) σ Q ↔ (b ≤ a → ab_Run X 247 52 (0, 0, 0) L st σ Q) ∧ (¬ (b ≤ a) → ab_Run X 247 15 (0, 0, 0) L st σ Q) := ab_r_icmp_ge rfl kc_X13_lesser dX13_lesser_12
theorem rX13_lesser_15 : ab_Run X 247 15 (0, 0, 0) [l0, l1, ab_I z, l3] st σ Q ↔ ab_Run X 247 16 (0, 0, 0) [l0, l1, ab_I z, l3] (ab_I z :: st) σ Q := ab_r_iload_n rfl kc_X13_lesser dX13_lesser_15
theorem rX13_lesser_16 : ab_Run X 247 16 (0, 0, 0) [ab_R z, l1, l2, l3] st σ Q ↔ z ≠ 0 ∧ ab_Run X 247 17 (0, 0, 0) [ab_R z, l1, l2, l3] (ab_R z :: st) σ Q := ab_r_aload_n rfl kc_X13_lesser dX13_lesser_16
theorem rX13_lesser_17 : ab_Run X 247 17 (0, 0, 0) L (ab_R a :: st) σ Q ↔ (ab_sh σ a).1 = 14 ∧ ab_Run X 247 20 (0, 0, 0) L (ab_R (ab_rd σ a 3) :: st) σ Q := gF_13_373 ko_X13_lesser kc_X13_lesser dX13_lesser_17
theorem rX13_lesser_20 : ab_Run X 247 20 (0, 0, 0) L (ab_R a :: st) σ Q ↔ (ab_sh σ a).1 = 13 ∧ ab_Run X 247 23 (0, 0, 0) L (ab_I (ab_rd σ a 6) :: st) σ Q := gF_13_213 ko_X13_lesser kc_X13_lesser dX13_lesser_20
theorem rX13_lesser_23 : ab_Run X 247 23 (0, 0, 0) L st σ Q ↔ ab_Run X 247 24 (0, 0, 0) L (ab_I 1 :: st) σ Q := ab_r_iconst (by decide) kc_X13_lesser dX13_lesser_23
theorem rX13_lesser_24 : ab_Run X 247 24 (0, 0, 0) L (ab_I b :: ab_I a :: st) σ Q ↔ ab_Run X 247 25 (0, 0, 0) L (ab_I (ab_w32 (a - b)) :: st) σ Q := ab_r_isub kc_X13_lesser dX13_lesser_24
theorem rX13_lesser_25 : ab_Run X 247 25 (0, 0, 0) [l0, l1, l2, ab_I z] st σ Q ↔ ab_Run X 247 26 (0, 0, 0) [l0, l1, l2, ab_I z] (ab_I z :: st) σ Q := ab_r_iload_n rfl kc_X13_lesser dX13_lesser_25
theorem rX13_lesser_26 : ab_Run X 247 26 (0, 0, 0) L (ab_I b :: ab_I a :: st) σ Q ↔ ab_Run X 247 27 (0, 0, 0) L (ab_I (ab_w32 (a - b)) :: st) σ Q := ab_r_isub kc_X13_lesser dX13_lesser_26
theorem rX13_lesser_27 : ab_Run X 247 27 (0, 0, 0) L (ab_I b :: ab_I a :: st) σ Q ↔ (b ≤ a → ab_Run X 247 32 (0, 0, 0) L st σ Q) ∧ (¬ (b ≤ a) → ab_Run X 247 30 (0, 0, 0) L st σ Q) := ab_r_icmp_ge rfl kc_X13_lesser dX13_lesser_27
theorem rX13_lesser_30 : ab_Run X 247 30 (0, 0, 0) [l0, l1, l2, ab_I z] st σ Q ↔ ab_Run X 247 31 (0, 0, 0) [l0, l1, l2, ab_I z] (ab_I z :: st) σ Q := ab_r_iload_n rfl kc_X13_lesser dX13_lesser_30
theorem rX13_lesser_31 : ab_Run X 247 31 (0, 0, 0) L [ab_I v] σ Q ↔ Q (some (ab_I v)) σ := ab_r_ireturnI rfl kc_X13_lesser dX13_lesser_31
theorem rX13_lesser_32 : ab_Run X 247 32 (0, 0, 0) [l0, l1, ab_I z, l3] st σ Q ↔ ab_Run X 247 33 (0, 0, 0) [l0, l1, ab_I z, l3] (ab_I z :: st) σ Q := ab_r_iload_n rfl kc_X13_lesser dX13_lesser_32
theorem rX13_lesser_33 : ab_Run X 247 33 (0, 0, 0) [ab_R z, l1, l2, l3] st σ Q ↔ z ≠ 0 ∧ ab_Run X 247 34 (0, 0, 0) [ab_R z, l1, l2, l3] (ab_R z :: st) σ Q := ab_r_aload_n rfl kc_X13_lesser dX13_lesser_33
theorem rX13_lesser_34 : ab_Run X 247 34 (0, 0, 0) L (ab_R a :: st) σ Q ↔ (ab_sh σ a).1 = 14 ∧ ab_Run X 247 37 (0, 0, 0) L (ab_R (ab_rd σ a 3) :: st) σ Q := gF_13_373 ko_X13_lesser kc_X13_lesser dX13_lesser_34
theorem rX13_lesser_37 : ab_Run X 247 37 (0, 0, 0) L (ab_R a :: st) σ Q ↔ (ab_sh σ a).1 = 13 ∧ ab_Run X 247 40 (0, 0, 0) L (ab_I (ab_rd σ a 6) :: st) σ Q := gF_13_213 ko_X13_lesser kc_X13_lesser dX13_lesser_37
theorem rX13_lesser_40 : ab_Run X 247 40 (0, 0, 0) L st σ Q ↔ ab_Run X 247 41 (0, 0, 0) L (ab_I 1 :: st) σ Q := ab_r_iconst (by decide) kc_X13_lesser dX13_lesser_40
theorem rX13_lesser_41 : ab_Run X 247 41 (0, 0, 0) L (ab_I b :: ab_I a :: st) σ Q ↔ ab_Run X 247 42 (0, 0, 0) L (ab_I (ab_w32 (a - b)) :: st) σ Q := ab_r_isub kc_X13_lesser dX13_lesser_41
theorem rX13_lesser_42 : ab_Run X 247 42 (0, 0, 0) [l0, l1, l2, ab_I z] st σ Q ↔ ab_Run X 247 43 (0, 0, 0) [l0, l1, l2, ab_I z] (ab_I z :: st) σ Q := ab_r_iload_n rfl kc_X13_lesser dX13_lesser_42
theorem rX13_lesser_43 : ab_Run X 247 43 (0, 0, 0) L (ab_I b :: ab_I a :: st) σ Q ↔ ab_Run X 247 44 (0, 0, 0) L (ab_I (ab_w32 (a - b)) :: st) σ Q := ab_r_isub kc_X13_lesser dX13_lesser_43
theorem rX13_lesser_44 : ab_Run X 247 44 (0, 0, 0) L (ab_I b :: ab_I a :: st) σ Q ↔ ab_Run X 247 45 (0, 0, 0) L (ab_I (ab_w32 (a - b)) :: st) σ Q := ab_r_isub kc_X13_lesser dX13_lesser_44
theorem rX13_lesser_45 : ab_Run X 247 45 (0, 0, 0) [l0, l1, l2, l3] (ab_I z :: st) σ Q ↔ (!ab_isJ l1) = true ∧ ab_Run X 247 46 (0, 0, 0) [l0, l1, ab_I z, l3] st σ Q := ab_r_istore_n (Nat.le_of_ble_eq_true rfl) kc_X13_lesser dX13_lesser_45
theorem rX13_lesser_46 : ab_Run X 247 46 (0, 0, 0) [l0, l1, l2, ab_I z] st σ Q ↔ (!ab_isJ l2) = true ∧ ab_Run X 247 49 (0, 0, 0) [l0, l1, l2, ab_I (ab_w32 (z + 1))] st σ Q := ab_r_iinc rfl (by decide) kc_X13_lesser dX13_lesser_46
theorem rX13_lesser_49 : ab_Run X 247 49 (0, 0, 0) L st σ Q ↔ ab_Run X 247 4 (0, 0, 0) L st σ Q := ab_r_goto rfl kc_X13_lesser dX13_lesser_49
theorem rX13_lesser_52 : ab_Run X 247 52 (0, 0, 0) L st σ Q ↔ ab_Run X 247 53 (0, 0, 0) L (ab_I (-1) :: st) σ Q := ab_r_iconst (by decide) kc_X13_lesser dX13_lesser_52
theorem rX13_lesser_53 : ab_Run X 247 53 (0, 0, 0) L [ab_I v] σ Q ↔ Q (some (ab_I v)) σ := ab_r_ireturnI rfl kc_X13_lesser dX13_lesser_53
theorem kc_X13_greater : ab_code 248 = cX13_greater := rfl
theorem ko_X13_greater : ab_ow 248 = 13 := rfl
theorem rX13_greater_0 : ab_Run X 248 0 (0, 0, 0) [l0, ab_I z, l2, l3] st σ Q ↔ ab_Run X 248 1 (0, 0, 0) [l0, ab_I z, l2, l3] (ab_I z :: st) σ Q := ab_r_iload_n rfl kc_X13_greater dX13_greater_0
theorem rX13_greater_1 : ab_Run X 248 1 (0, 0, 0) [l0, l1, l2, l3] (ab_I z :: st) σ Q ↔ (!ab_isJ l1) = true ∧ ab_Run X 248 2 (0, 0, 0) [l0, l1, ab_I z, l3] st σ Q := ab_r_istore_n (Nat.le_of_ble_eq_true rfl) kc_X13_greater dX13_greater_1
theorem rX13_greater_2 : ab_Run X 248 2 (0, 0, 0) L st σ Q ↔ ab_Run X 248 3 (0, 0, 0) L (ab_I 0 :: st) σ Q := ab_r_iconst (by decide) kc_X13_greater dX13_greater_2
theorem rX13_greater_3 : ab_Run X 248 3 (0, 0, 0) [l0, l1, l2, l3] (ab_I z :: st) σ Q ↔ (!ab_isJ l2) = true ∧ ab_Run X 248 4 (0, 0, 0) [l0, l1, l2, ab_I z] st σ Q := ab_r_istore_n (Nat.le_of_ble_eq_true rfl) kc_X13_greater dX13_greater_3
theorem rX13_greater_4 : ab_Run X 248 4 (0, 0, 0) [l0, l1, l2, ab_I z] st σ Q ↔ ab_Run X 248 5 (0, 0, 0) [l0, l1, l2, ab_I z] (ab_I z :: st) σ Q := ab_r_iload_n rfl kc_X13_greater dX13_greater_4
theorem rX13_greater_5 : ab_Run X 248 5 (0, 0, 0) [ab_R z, l1, l2, l3] st σ Q ↔ z ≠ 0 ∧ ab_Run X 248 6 (0, 0, 0) [ab_R z, l1, l2, l3] (ab_R z :: st) σ Q := ab_r_aload_n rfl kc_X13_greater dX13_greater_5
theorem rX13_greater_6 : ab_Run X 248 6 (0, 0, 0) L (ab_R a :: st) σ Q ↔ (ab_sh σ a).1 = 14 ∧ ab_Run X 248 9 (0, 0, 0) L (ab_R (ab_rd σ a 3) :: st) σ Q := gF_13_373 ko_X13_greater kc_X13_greater dX13_greater_6
theorem rX13_greater_9 : ab_Run X 248 9 (0, 0, 0) L (ab_R a :: st) σ Q ↔ (ab_sh σ a).1 = 13 ∧ ab_Run X 248 12 (0, 0, 0) L (ab_I (ab_rd σ a 6) :: st) σ Q := gF_13_213 ko_X13_greater kc_X13_greater dX13_greater_9
theorem rX13_greater_12 : ab_Run X 248 12 (0, 0, 0) L (ab_I b :: ab_I a :: st) σ Q ↔ (b ≤ a → ab_Run X 248 56 (0, 0, 0) L st σ Q) ∧ (¬ (b ≤ a) → ab_Run X 248 15 (0, 0, 0) L st σ Q) := ab_r_icmp_ge rfl kc_X13_greater dX13_greater_12
theorem rX13_greater_15 : ab_Run X 248 15 (0, 0, 0) [l0, l1, ab_I z, l3] st σ Q ↔ ab_Run X 248 16 (0, 0, 0) [l0, l1, ab_I z, l3] (ab_I z :: st) σ Q := ab_r_iload_n rfl kc_X13_greater dX13_greater_15
theorem rX13_greater_16 : ab_Run X 248 16 (0, 0, 0) [ab_R z, l1, l2, l3] st σ Q ↔ z ≠ 0 ∧ ab_Run X 248 17 (0, 0, 0) [ab_R z, l1, l2, l3] (ab_R z :: st) σ Q := ab_r_aload_n rfl kc_X13_greater dX13_greater_16
theorem rX13_greater_17 : ab_Run X 248 17 (0, 0, 0) L (ab_R a :: st) σ Q ↔ (ab_sh σ a).1 = 14 ∧ ab_Run X 248 20 (0, 0, 0) L (ab_R (ab_rd σ a 3) :: st) σ Q := gF_13_373 ko_X13_greater kc_X13_greater dX13_greater_17
theorem rX13_greater_20 : ab_Run X 248 20 (0, 0, 0) L (ab_R a :: st) σ Q ↔ (ab_sh σ a).1 = 13 ∧ ab_Run X 248 23 (0, 0, 0) L (ab_I (ab_rd σ a 6) :: st) σ Q := gF_13_213 ko_X13_greater kc_X13_greater dX13_greater_20
theorem rX13_greater_23 : ab_Run X 248 23 (0, 0, 0) L st σ Q ↔ ab_Run X 248 24 (0, 0, 0) L (ab_I 1 :: st) σ Q := ab_r_iconst (by decide) kc_X13_greater dX13_greater_23
theorem rX13_greater_24 : ab_Run X 248 24 (0, 0, 0) L (ab_I b :: ab_I a :: st) σ Q ↔ ab_Run X 248 25 (0, 0, 0) L (ab_I (ab_w32 (a - b)) :: st) σ Q := ab_r_isub kc_X13_greater dX13_greater_24
theorem rX13_greater_25 : ab_Run X 248 25 (0, 0, 0) [l0, l1, l2, ab_I z] st σ Q ↔ ab_Run X 248 26 (0, 0, 0) [l0, l1, l2, ab_I z] (ab_I z :: st) σ Q := ab_r_iload_n rfl kc_X13_greater dX13_greater_25
theorem rX13_greater_26 : ab_Run X 248 26 (0, 0, 0) L (ab_I b :: ab_I a :: st) σ Q ↔ ab_Run X 248 27 (0, 0, 0) L (ab_I (ab_w32 (a - b)) :: st) σ Q := ab_r_isub kc_X13_greater dX13_greater_26
theorem rX13_greater_27 : ab_Run X 248 27 (0, 0, 0) L (ab_I b :: ab_I a :: st) σ Q ↔ (b ≤ a → ab_Run X 248 36 (0, 0, 0) L st σ Q) ∧ (¬ (b ≤ a) → ab_Run X 248 30 (0, 0, 0) L st σ Q) := ab_r_icmp_ge rfl kc_X13_greater dX13_greater_27
theorem rX13_greater_30 : ab_Run X 248 30 (0, 0, 0) [l0, l1, l2, ab_I z] st σ Q ↔ ab_Run X 248 31 (0, 0, 0) [l0, l1, l2, ab_I z] (ab_I z :: st) σ Q := ab_r_iload_n rfl kc_X13_greater dX13_greater_30
theorem rX13_greater_31 : ab_Run X 248 31 (0, 0, 0) L st σ Q ↔ ab_Run X 248 32 (0, 0, 0) L (ab_I 1 :: st) σ Q := ab_r_iconst (by decide) kc_X13_greater dX13_greater_31
theorem rX13_greater_32 : ab_Run X 248 32 (0, 0, 0) L (ab_I b :: ab_I a :: st) σ Q ↔ ab_Run X 248 33 (0, 0, 0) L (ab_I (ab_w32 (a + b)) :: st) σ Q := ab_r_iadd kc_X13_greater dX13_greater_32
theorem rX13_greater_33 : ab_Run X 248 33 (0, 0, 0) [l0, l1, ab_I z, l3] st σ Q ↔ ab_Run X 248 34 (0, 0, 0) [l0, l1, ab_I z, l3] (ab_I z :: st) σ Q := ab_r_iload_n rfl kc_X13_greater dX13_greater_33
theorem rX13_greater_34 : ab_Run X 248 34 (0, 0, 0) L (ab_I b :: ab_I a :: st) σ Q ↔ ab_Run X 248 35 (0, 0, 0) L (ab_I (ab_w32 (a + b)) :: st) σ Q := ab_r_iadd kc_X13_greater dX13_greater_34
theorem rX13_greater_35 : ab_Run X 248 35 (0, 0, 0) L [ab_I v] σ Q ↔ Q (some (ab_I v)) σ := ab_r_ireturnI rfl kc_X13_greater dX13_greater_35
theorem rX13_greater_36 : ab_Run X 248 36 (0, 0, 0) [l0, l1, ab_I z, l3] st σ Q ↔ ab_Run X 248 37 (0, 0, 0) [l0, l1, ab_I z, l3] (ab_I z :: st) σ Q := ab_r_iload_n rfl kc_X13_greater dX13_greater_36
theorem rX13_greater_37 : ab_Run X 248 37 (0, 0, 0) [ab_R z, l1, l2, l3] st σ Q ↔ z ≠ 0 ∧ ab_Run X 248 38 (0, 0, 0) [ab_R z, l1, l2, l3] (ab_R z :: st) σ Q := ab_r_aload_n rfl kc_X13_greater dX13_greater_37
theorem rX13_greater_38 : ab_Run X 248 38 (0, 0, 0) L (ab_R a :: st) σ Q ↔ (ab_sh σ a).1 = 14 ∧ ab_Run X 248 41 (0, 0, 0) L (ab_R (ab_rd σ a 3) :: st) σ Q := gF_13_373 ko_X13_greater kc_X13_greater dX13_greater_38
theorem rX13_greater_41 : ab_Run X 248 41 (0, 0, 0) L (ab_R a :: st) σ Q ↔ (ab_sh σ a).1 = 13 ∧ ab_Run X 248 44 (0, 0, 0) L (ab_I (ab_rd σ a 6) :: st) σ Q := gF_13_213 ko_X13_greater kc_X13_greater dX13_greater_41
theorem rX13_greater_44 : ab_Run X 248 44 (0, 0, 0) L st σ Q ↔ ab_Run X 248 45 (0, 0, 0) L (ab_I 1 :: st) σ Q := ab_r_iconst (by decide) kc_X13_greater dX13_greater_44
theorem rX13_greater_45 : ab_Run X 248 45 (0, 0, 0) L (ab_I b :: ab_I a :: st) σ Q ↔ ab_Run X 248 46 (0, 0, 0) L (ab_I (ab_w32 (a - b)) :: st) σ Q := ab_r_isub kc_X13_greater dX13_greater_45
theorem rX13_greater_46 : ab_Run X 248 46 (0, 0, 0) [l0, l1, l2, ab_I z] st σ Q ↔ ab_Run X 248 47 (0, 0, 0) [l0, l1, l2, ab_I z] (ab_I z :: st) σ Q := ab_r_iload_n rfl kc_X13_greater dX13_greater_46
theorem rX13_greater_47 : ab_Run X 248 47 (0, 0, 0) L (ab_I b :: ab_I a :: st) σ Q ↔ ab_Run X 248 48 (0, 0, 0) L (ab_I (ab_w32 (a - b)) :: st) σ Q := ab_r_isub kc_X13_greater dX13_greater_47
theorem rX13_greater_48 : ab_Run X 248 48 (0, 0, 0) L (ab_I b :: ab_I a :: st) σ Q ↔ ab_Run X 248 49 (0, 0, 0) L (ab_I (ab_w32 (a - b)) :: st) σ Q := ab_r_isub kc_X13_greater dX13_greater_48
theorem rX13_greater_49 : ab_Run X 248 49 (0, 0, 0) [l0, l1, l2, l3] (ab_I z :: st) σ Q ↔ (!ab_isJ l1) = true ∧ ab_Run X 248 50 (0, 0, 0) [l0, l1, ab_I z, l3] st σ Q := ab_r_istore_n (Nat.le_of_ble_eq_true rfl) kc_X13_greater dX13_greater_49
theorem rX13_greater_50 : ab_Run X 248 50 (0, 0, 0) [l0, l1, l2, ab_I z] st σ Q ↔ (!ab_isJ l2) = true ∧ ab_Run X 248 53 (0, 0, 0) [l0, l1, l2, ab_I (ab_w32 (z + 1))] st σ Q := ab_r_iinc rfl (by decide) kc_X13_greater dX13_greater_50
theorem rX13_greater_53 : ab_Run X 248 53 (0, 0, 0) L st σ Q ↔ ab_Run X 248 4 (0, 0, 0) L st σ Q := ab_r_goto rfl kc_X13_greater dX13_greater_53
theorem rX13_greater_56 : ab_Run X 248 56 (0, 0, 0) L st σ Q ↔ ab_Run X 248 57 (0, 0, 0) L (ab_I (-1) :: st) σ Q := ab_r_iconst (by decide) kc_X13_greater dX13_greater_56
theorem rX13_greater_57 : ab_Run X 248 57 (0, 0, 0) L [ab_I v] σ Q ↔ Q (some (ab_I v)) σ := ab_r_ireturnI rfl kc_X13_greater dX13_greater_57
theorem kc_X13_isIn : ab_code 249 = cX13_isIn := rfl
theorem ko_X13_isIn : ab_ow 249 = 13 := rfl
theorem rX13_isIn_0 : ab_Run X 249 0 (1, 0, 0) [ab_R z, l1, l2] st σ Q ↔ z ≠ 0 ∧ ab_Run X 249 1 (1, 0, 0) [ab_R z, l1, l2] (ab_R z :: st) σ Q := ab_r_aload_n rfl kc_X13_isIn dX13_isIn_0
theorem rX13_isIn_1 : ab_Run X 249 1 (1, 0, 0) [l0, ab_I z, l2] st σ Q ↔ ab_Run X 249 2 (1, 0, 0) [l0, ab_I z, l2] (ab_I z :: st) σ Q := ab_r_iload_n rfl kc_X13_isIn dX13_isIn_1
theorem rX13_isIn_2 : ab_Run X 249 2 (1, 0, 0) L (ab_I x1 :: ab_R a :: st) σ Q ↔ ((ab_sh σ a).1 = 14 ∧ ab_cats st ≤ 8) ∧ ab_Do X 247 [ab_R a, ab_I x1] σ (fun r σ' => ab_Run X 249 5 (1, 0, 0) L (ab_psh r st) σ' Q) := ab_r_callV (w := [ab_I x1]) (as := [ab_I x1]) (b1 := (0, 0, 0)) 0 (Or.inl rfl) (by decide) ko_X13_isIn qM_13_514 (by decide) rfl rfl rfl rfl rfl (by decide) (Nat.le_of_ble_eq_true rfl) kc_X13_isIn dX13_isIn_2
theorem rX13_isIn_5 : ab_Run X 249 5 (1, 0, 0) [l0, l1, ab_I z] st σ Q ↔ ab_Run X 249 6 (1, 0, 0) [l0, l1, ab_I z] (ab_I z :: st) σ Q := ab_r_iload_n rfl kc_X13_isIn dX13_isIn_5
theorem rX13_isIn_6 : ab_Run X 249 6 (1, 0, 0) L (ab_I b :: ab_I a :: st) σ Q ↔ (a = b → ab_Run X 249 18 (1, 0, 0) L st σ Q) ∧ (¬ (a = b) → ab_Run X 249 9 (1, 0, 0) L st σ Q) := ab_r_icmp_eq rfl kc_X13_isIn dX13_isIn_6
theorem rX13_isIn_9 : ab_Run X 249 9 (1, 0, 0) [ab_R z, l1, l2] st σ Q ↔ z ≠ 0 ∧ ab_Run X 249 10 (1, 0, 0) [ab_R z, l1, l2] (ab_R z :: st) σ Q := ab_r_aload_n rfl kc_X13_isIn dX13_isIn_9
theorem rX13_isIn_10 : ab_Run X 249 10 (1, 0, 0) [l0, ab_I z, l2] st σ Q ↔ ab_Run X 249 11 (1, 0, 0) [l0, ab_I z, l2] (ab_I z :: st) σ Q := ab_r_iload_n rfl kc_X13_isIn dX13_isIn_10
theorem rX13_isIn_11 : ab_Run X 249 11 (1, 0, 0) L (ab_I x1 :: ab_R a :: st) σ Q ↔ ((ab_sh σ a).1 = 14 ∧ ab_cats st ≤ 8) ∧ ab_Do X 248 [ab_R a, ab_I x1] σ (fun r σ' => ab_Run X 249 14 (1, 0, 0) L (ab_psh r st) σ' Q) := ab_r_callV (w := [ab_I x1]) (as := [ab_I x1]) (b1 := (0, 0, 0)) 0 (Or.inl rfl) (by decide) ko_X13_isIn qM_13_517 (by decide) rfl rfl rfl rfl rfl (by decide) (Nat.le_of_ble_eq_true rfl) kc_X13_isIn dX13_isIn_11
theorem rX13_isIn_14 : ab_Run X 249 14 (1, 0, 0) [l0, l1, ab_I z] st σ Q ↔ ab_Run X 249 15 (1, 0, 0) [l0, l1, ab_I z] (ab_I z :: st) σ Q := ab_r_iload_n rfl kc_X13_isIn dX13_isIn_14
theorem rX13_isIn_15 : ab_Run X 249 15 (1, 0, 0) L (ab_I b :: ab_I a :: st) σ Q ↔ (¬ a = b → ab_Run X 249 22 (1, 0, 0) L st σ Q) ∧ (¬ (¬ a = b) → ab_Run X 249 18 (1, 0, 0) L st σ Q) := ab_r_icmp_ne rfl kc_X13_isIn dX13_isIn_15
theorem rX13_isIn_18 : ab_Run X 249 18 (1, 0, 0) L st σ Q ↔ ab_Run X 249 19 (1, 0, 0) L (ab_I 1 :: st) σ Q := ab_r_iconst (by decide) kc_X13_isIn dX13_isIn_18
theorem rX13_isIn_19 : ab_Run X 249 19 (1, 0, 0) L st σ Q ↔ ab_Run X 249 23 (1, 0, 0) L st σ Q := ab_r_goto rfl kc_X13_isIn dX13_isIn_19
theorem rX13_isIn_22 : ab_Run X 249 22 (1, 0, 0) L st σ Q ↔ ab_Run X 249 23 (1, 0, 0) L (ab_I 0 :: st) σ Q := ab_r_iconst (by decide) kc_X13_isIn dX13_isIn_22
theorem rX13_isIn_23 : ab_Run X 249 23 (1, 0, 0) L [ab_I v] σ Q ↔ (v = 0 ∨ v = 1) ∧ Q (some (ab_I v)) σ := ab_r_ireturnZ rfl kc_X13_isIn dX13_isIn_23
theorem kc_X13_isFair : ab_code 250 = cX13_isFair := rfl
theorem ko_X13_isFair : ab_ow 250 = 13 := rfl
theorem rX13_isFair_0 : ab_Run X 250 0 (0, 0, 0) L st σ Q ↔ ab_Run X 250 1 (0, 0, 0) L (ab_I 0 :: st) σ Q := ab_r_iconst (by decide) kc_X13_isFair dX13_isFair_0
theorem rX13_isFair_1 : ab_Run X 250 1 (0, 0, 0) [l0, l1, l2, l3] (ab_I z :: st) σ Q ↔ (!ab_isJ l0) = true ∧ ab_Run X 250 2 (0, 0, 0) [l0, ab_I z, l2, l3] st σ Q := ab_r_istore_n (Nat.le_of_ble_eq_true rfl) kc_X13_isFair dX13_isFair_1
theorem rX13_isFair_2 : ab_Run X 250 2 (0, 0, 0) L st σ Q ↔ ab_Run X 250 4 (0, 0, 0) L (ab_I 9 :: st) σ Q := ab_r_bipush (by decide) kc_X13_isFair dX13_isFair_2
theorem rX13_isFair_4 : ab_Run X 250 4 (0, 0, 0) [l0, l1, l2, l3] (ab_I z :: st) σ Q ↔ (!ab_isJ l1) = true ∧ ab_Run X 250 5 (0, 0, 0) [l0, l1, ab_I z, l3] st σ Q := ab_r_istore_n (Nat.le_of_ble_eq_true rfl) kc_X13_isFair dX13_isFair_4
theorem rX13_isFair_5 : ab_Run X 250 5 (0, 0, 0) L st σ Q ↔ ab_Run X 250 6 (0, 0, 0) L (ab_I 0 :: st) σ Q := ab_r_iconst (by decide) kc_X13_isFair dX13_isFair_5
theorem rX13_isFair_6 : ab_Run X 250 6 (0, 0, 0) [l0, l1, l2, l3] (ab_I z :: st) σ Q ↔ (!ab_isJ l2) = true ∧ ab_Run X 250 7 (0, 0, 0) [l0, l1, l2, ab_I z] st σ Q := ab_r_istore_n (Nat.le_of_ble_eq_true rfl) kc_X13_isFair dX13_isFair_6
theorem rX13_isFair_7 : ab_Run X 250 7 (0, 0, 0) [l0, l1, l2, ab_I z] st σ Q ↔ ab_Run X 250 8 (0, 0, 0) [l0, l1, l2, ab_I z] (ab_I z :: st) σ Q := ab_r_iload_n rfl kc_X13_isFair dX13_isFair_7
theorem rX13_isFair_8 : ab_Run X 250 8 (0, 0, 0) [ab_R z, l1, l2, l3] st σ Q ↔ z ≠ 0 ∧ ab_Run X 250 9 (0, 0, 0) [ab_R z, l1, l2, l3] (ab_R z :: st) σ Q := ab_r_aload_n rfl kc_X13_isFair dX13_isFair_8
theorem rX13_isFair_9 : ab_Run X 250 9 (0, 0, 0) L (ab_R a :: st) σ Q ↔ (ab_sh σ a).1 = 14 ∧ ab_Run X 250 12 (0, 0, 0) L (ab_R (ab_rd σ a 3) :: st) σ Q := gF_13_373 ko_X13_isFair kc_X13_isFair dX13_isFair_9
theorem rX13_isFair_12 : ab_Run X 250 12 (0, 0, 0) L (ab_R a :: st) σ Q ↔ (ab_sh σ a).1 = 13 ∧ ab_Run X 250 15 (0, 0, 0) L (ab_I (ab_rd σ a 6) :: st) σ Q := gF_13_213 ko_X13_isFair kc_X13_isFair dX13_isFair_12
theorem rX13_isFair_15 : ab_Run X 250 15 (0, 0, 0) L (ab_I b :: ab_I a :: st) σ Q ↔ (b ≤ a → ab_Run X 250 66 (0, 0, 0) L st σ Q) ∧ (¬ (b ≤ a) → ab_Run X 250 18 (0, 0, 0) L st σ Q) := ab_r_icmp_ge rfl kc_X13_isFair dX13_isFair_15
theorem rX13_isFair_18 : ab_Run X 250 18 (0, 0, 0) [ab_R z, l1, l2, l3] st σ Q ↔ z ≠ 0 ∧ ab_Run X 250 19 (0, 0, 0) [ab_R z, l1, l2, l3] (ab_R z :: st) σ Q := ab_r_aload_n rfl kc_X13_isFair dX13_isFair_18
theorem rX13_isFair_19 : ab_Run X 250 19 (0, 0, 0) L (ab_R a :: st) σ Q ↔ (ab_sh σ a).1 = 14 ∧ ab_Run X 250 22 (0, 0, 0) L (ab_R (ab_rd σ a 33) :: st) σ Q := gF_13_47 ko_X13_isFair kc_X13_isFair dX13_isFair_19
theorem rX13_isFair_22 : ab_Run X 250 22 (0, 0, 0) [l0, l1, l2, ab_I z] st σ Q ↔ ab_Run X 250 23 (0, 0, 0) [l0, l1, l2, ab_I z] (ab_I z :: st) σ Q := ab_r_iload_n rfl kc_X13_isFair dX13_isFair_22
theorem rX13_isFair_23 : ab_Run X 250 23 (0, 0, 0) L (ab_I i :: ab_R a :: st) σ Q ↔ ((ab_sh σ a).1 = 21 ∧ 0 ≤ i ∧ i < (ab_sh σ a).2) ∧ ab_Run X 250 24 (0, 0, 0) L (ab_I (ab_rd σ a i) :: st) σ Q := ab_r_iaload (by decide) kc_X13_isFair dX13_isFair_23
theorem rX13_isFair_24 : ab_Run X 250 24 (0, 0, 0) [l0, ab_I z, l2, l3] st σ Q ↔ ab_Run X 250 25 (0, 0, 0) [l0, ab_I z, l2, l3] (ab_I z :: st) σ Q := ab_r_iload_n rfl kc_X13_isFair dX13_isFair_24
theorem rX13_isFair_25 : ab_Run X 250 25 (0, 0, 0) L (ab_I b :: ab_I a :: st) σ Q ↔ (a ≤ b → ab_Run X 250 37 (0, 0, 0) L st σ Q) ∧ (¬ (a ≤ b) → ab_Run X 250 28 (0, 0, 0) L st σ Q) := ab_r_icmp_le rfl kc_X13_isFair dX13_isFair_25
theorem rX13_isFair_28 : ab_Run X 250 28 (0, 0, 0) [ab_R z, l1, l2, l3] st σ Q ↔ z ≠ 0 ∧ ab_Run X 250 29 (0, 0, 0) [ab_R z, l1, l2, l3] (ab_R z :: st) σ Q := ab_r_aload_n rfl kc_X13_isFair dX13_isFair_28
theorem rX13_isFair_29 : ab_Run X 250 29 (0, 0, 0) L (ab_R a :: st) σ Q ↔ (ab_sh σ a).1 = 14 ∧ ab_Run X 250 32 (0, 0, 0) L (ab_R (ab_rd σ a 33) :: st) σ Q := gF_13_47 ko_X13_isFair kc_X13_isFair dX13_isFair_29
theorem rX13_isFair_32 : ab_Run X 250 32 (0, 0, 0) [l0, l1, l2, ab_I z] st σ Q ↔ ab_Run X 250 33 (0, 0, 0) [l0, l1, l2, ab_I z] (ab_I z :: st) σ Q := ab_r_iload_n rfl kc_X13_isFair dX13_isFair_32
theorem rX13_isFair_33 : ab_Run X 250 33 (0, 0, 0) L (ab_I i :: ab_R a :: st) σ Q ↔ ((ab_sh σ a).1 = 21 ∧ 0 ≤ i ∧ i < (ab_sh σ a).2) ∧ ab_Run X 250 34 (0, 0, 0) L (ab_I (ab_rd σ a i) :: st) σ Q := ab_r_iaload (by decide) kc_X13_isFair dX13_isFair_33
theorem rX13_isFair_34 : ab_Run X 250 34 (0, 0, 0) L st σ Q ↔ ab_Run X 250 38 (0, 0, 0) L st σ Q := ab_r_goto rfl kc_X13_isFair dX13_isFair_34
theorem rX13_isFair_37 : ab_Run X 250 37 (0, 0, 0) [l0, ab_I z, l2, l3] st σ Q ↔ ab_Run X 250 38 (0, 0, 0) [l0, ab_I z, l2, l3] (ab_I z :: st) σ Q := ab_r_iload_n rfl kc_X13_isFair dX13_isFair_37
theorem rX13_isFair_38 : ab_Run X 250 38 (0, 0, 0) [l0, l1, l2, l3] (ab_I z :: st) σ Q ↔ (!ab_isJ l0) = true ∧ ab_Run X 250 39 (0, 0, 0) [l0, ab_I z, l2, l3] st σ Q := ab_r_istore_n (Nat.le_of_ble_eq_true rfl) kc_X13_isFair dX13_isFair_38
theorem rX13_isFair_39 : ab_Run X 250 39 (0, 0, 0) [ab_R z, l1, l2, l3] st σ Q ↔ z ≠ 0 ∧ ab_Run X 250 40 (0, 0, 0) [ab_R z, l1, l2, l3] (ab_R z :: st) σ Q := ab_r_aload_n rfl kc_X13_isFair dX13_isFair_39
theorem rX13_isFair_40 : ab_Run X 250 40 (0, 0, 0) L (ab_R a :: st) σ Q ↔ (ab_sh σ a).1 = 14 ∧ ab_Run X 250 43 (0, 0, 0) L (ab_R (ab_rd σ a 33) :: st) σ Q := gF_13_47 ko_X13_isFair kc_X13_isFair dX13_isFair_40
theorem rX13_isFair_43 : ab_Run X 250 43 (0, 0, 0) [l0, l1, l2, ab_I z] st σ Q ↔ ab_Run X 250 44 (0, 0, 0) [l0, l1, l2, ab_I z] (ab_I z :: st) σ Q := ab_r_iload_n rfl kc_X13_isFair dX13_isFair_43
theorem rX13_isFair_44 : ab_Run X 250 44 (0, 0, 0) L (ab_I i :: ab_R a :: st) σ Q ↔ ((ab_sh σ a).1 = 21 ∧ 0 ≤ i ∧ i < (ab_sh σ a).2) ∧ ab_Run X 250 45 (0, 0, 0) L (ab_I (ab_rd σ a i) :: st) σ Q := ab_r_iaload (by decide) kc_X13_isFair dX13_isFair_44
theorem rX13_isFair_45 : ab_Run X 250 45 (0, 0, 0) [l0, l1, ab_I z, l3] st σ Q ↔ ab_Run X 250 46 (0, 0, 0) [l0, l1, ab_I z, l3] (ab_I z :: st) σ Q := ab_r_iload_n rfl kc_X13_isFair dX13_isFair_45
theorem rX13_isFair_46 : ab_Run X 250 46 (0, 0, 0) L (ab_I b :: ab_I a :: st) σ Q ↔ (b ≤ a → ab_Run X 250 58 (0, 0, 0) L st σ Q) ∧ (¬ (b ≤ a) → ab_Run X 250 49 (0, 0, 0) L st σ Q) := ab_r_icmp_ge rfl kc_X13_isFair dX13_isFair_46
theorem rX13_isFair_49 : ab_Run X 250 49 (0, 0, 0) [ab_R z, l1, l2, l3] st σ Q ↔ z ≠ 0 ∧ ab_Run X 250 50 (0, 0, 0) [ab_R z, l1, l2, l3] (ab_R z :: st) σ Q := ab_r_aload_n rfl kc_X13_isFair dX13_isFair_49
theorem rX13_isFair_50 : ab_Run X 250 50 (0, 0, 0) L (ab_R a :: st) σ Q ↔ (ab_sh σ a).1 = 14 ∧ ab_Run X 250 53 (0, 0, 0) L (ab_R (ab_rd σ a 33) :: st) σ Q := gF_13_47 ko_X13_isFair kc_X13_isFair dX13_isFair_50
theorem rX13_isFair_53 : ab_Run X 250 53 (0, 0, 0) [l0, l1, l2, ab_I z] st σ Q ↔ ab_Run X 250 54 (0, 0, 0) [l0, l1, l2, ab_I z] (ab_I z :: st) σ Q := ab_r_iload_n rfl kc_X13_isFair dX13_isFair_53
theorem rX13_isFair_54 : ab_Run X 250 54 (0, 0, 0) L (ab_I i :: ab_R a :: st) σ Q ↔ ((ab_sh σ a).1 = 21 ∧ 0 ≤ i ∧ i < (ab_sh σ a).2) ∧ ab_Run X 250 55 (0, 0, 0) L (ab_I (ab_rd σ a i) :: st) σ Q := ab_r_iaload (by decide) kc_X13_isFair dX13_isFair_54
theorem rX13_isFair_55 : ab_Run X 250 55 (0, 0, 0) L st σ Q ↔ ab_Run X 250 59 (0, 0, 0) L st σ Q := ab_r_goto rfl kc_X13_isFair dX13_isFair_55
theorem rX13_isFair_58 : ab_Run X 250 58 (0, 0, 0) [l0, l1, ab_I z, l3] st σ Q ↔ ab_Run X 250 59 (0, 0, 0) [l0, l1, ab_I z, l3] (ab_I z :: st) σ Q := ab_r_iload_n rfl kc_X13_isFair dX13_isFair_58
theorem rX13_isFair_59 : ab_Run X 250 59 (0, 0, 0) [l0, l1, l2, l3] (ab_I z :: st) σ Q ↔ (!ab_isJ l1) = true ∧ ab_Run X 250 60 (0, 0, 0) [l0, l1, ab_I z, l3] st σ Q := ab_r_istore_n (Nat.le_of_ble_eq_true rfl) kc_X13_isFair dX13_isFair_59
theorem rX13_isFair_60 : ab_Run X 250 60 (0, 0, 0) [l0, l1, l2, ab_I z] st σ Q ↔ (!ab_isJ l2) = true ∧ ab_Run X 250 63 (0, 0, 0) [l0, l1, l2, ab_I (ab_w32 (z + 1))] st σ Q := ab_r_iinc rfl (by decide) kc_X13_isFair dX13_isFair_60
theorem rX13_isFair_63 : ab_Run X 250 63 (0, 0, 0) L st σ Q ↔ ab_Run X 250 7 (0, 0, 0) L st σ Q := ab_r_goto rfl kc_X13_isFair dX13_isFair_63
theorem rX13_isFair_66 : ab_Run X 250 66 (0, 0, 0) [l0, ab_I z, l2, l3] st σ Q ↔ ab_Run X 250 67 (0, 0, 0) [l0, ab_I z, l2, l3] (ab_I z :: st) σ Q := ab_r_iload_n rfl kc_X13_isFair dX13_isFair_66
theorem rX13_isFair_67 : ab_Run X 250 67 (0, 0, 0) [l0, l1, ab_I z, l3] st σ Q ↔ ab_Run X 250 68 (0, 0, 0) [l0, l1, ab_I z, l3] (ab_I z :: st) σ Q := ab_r_iload_n rfl kc_X13_isFair dX13_isFair_67
theorem rX13_isFair_68 : ab_Run X 250 68 (0, 0, 0) L (ab_I b :: ab_I a :: st) σ Q ↔ ab_Run X 250 69 (0, 0, 0) L (ab_I (ab_w32 (a - b)) :: st) σ Q := ab_r_isub kc_X13_isFair dX13_isFair_68
theorem rX13_isFair_69 : ab_Run X 250 69 (0, 0, 0) L st σ Q ↔ ab_Run X 250 70 (0, 0, 0) L (ab_I 1 :: st) σ Q := ab_r_iconst (by decide) kc_X13_isFair dX13_isFair_69
theorem rX13_isFair_70 : ab_Run X 250 70 (0, 0, 0) L (ab_I b :: ab_I a :: st) σ Q ↔ (b < a → ab_Run X 250 77 (0, 0, 0) L st σ Q) ∧ (¬ (b < a) → ab_Run X 250 73 (0, 0, 0) L st σ Q) := ab_r_icmp_gt rfl kc_X13_isFair dX13_isFair_70
theorem rX13_isFair_73 : ab_Run X 250 73 (0, 0, 0) L st σ Q ↔ ab_Run X 250 74 (0, 0, 0) L (ab_I 1 :: st) σ Q := ab_r_iconst (by decide) kc_X13_isFair dX13_isFair_73
theorem rX13_isFair_74 : ab_Run X 250 74 (0, 0, 0) L st σ Q ↔ ab_Run X 250 78 (0, 0, 0) L st σ Q := ab_r_goto rfl kc_X13_isFair dX13_isFair_74
theorem rX13_isFair_77 : ab_Run X 250 77 (0, 0, 0) L st σ Q ↔ ab_Run X 250 78 (0, 0, 0) L (ab_I 0 :: st) σ Q := ab_r_iconst (by decide) kc_X13_isFair dX13_isFair_77
theorem rX13_isFair_78 : ab_Run X 250 78 (0, 0, 0) L [ab_I v] σ Q ↔ (v = 0 ∨ v = 1) ∧ Q (some (ab_I v)) σ := ab_r_ireturnZ rfl kc_X13_isFair dX13_isFair_78
theorem kc_X13_isLow : ab_code 251 = cX13_isLow := rfl
theorem ko_X13_isLow : ab_ow 251 = 13 := rfl
theorem rX13_isLow_0 : ab_Run X 251 0 (0, 0, 0) L st σ Q ↔ ab_Run X 251 1 (0, 0, 0) L (ab_I 2 :: st) σ Q := ab_r_iconst (by decide) kc_X13_isLow dX13_isLow_0
theorem rX13_isLow_1 : ab_Run X 251 1 (0, 0, 0) [l0, ab_I z, l2, l3] st σ Q ↔ ab_Run X 251 2 (0, 0, 0) [l0, ab_I z, l2, l3] (ab_I z :: st) σ Q := ab_r_iload_n rfl kc_X13_isLow dX13_isLow_1
theorem rX13_isLow_2 : ab_Run X 251 2 (0, 0, 0) L (ab_I b :: ab_I a :: st) σ Q ↔ ab_Run X 251 3 (0, 0, 0) L (ab_I (ab_w32 (a * b)) :: st) σ Q := ab_r_imul kc_X13_isLow dX13_isLow_2
theorem rX13_isLow_3 : ab_Run X 251 3 (0, 0, 0) [ab_R z, l1, l2, l3] st σ Q ↔ z ≠ 0 ∧ ab_Run X 251 4 (0, 0, 0) [ab_R z, l1, l2, l3] (ab_R z :: st) σ Q := ab_r_aload_n rfl kc_X13_isLow dX13_isLow_3
theorem rX13_isLow_4 : ab_Run X 251 4 (0, 0, 0) L (ab_R a :: st) σ Q ↔ (ab_sh σ a).1 = 14 ∧ ab_Run X 251 7 (0, 0, 0) L (ab_R (ab_rd σ a 3) :: st) σ Q := gF_13_373 ko_X13_isLow kc_X13_isLow dX13_isLow_4
theorem rX13_isLow_7 : ab_Run X 251 7 (0, 0, 0) L (ab_R a :: st) σ Q ↔ (ab_sh σ a).1 = 13 ∧ ab_Run X 251 10 (0, 0, 0) L (ab_I (ab_rd σ a 6) :: st) σ Q := gF_13_213 ko_X13_isLow kc_X13_isLow dX13_isLow_7
theorem rX13_isLow_10 : ab_Run X 251 10 (0, 0, 0) L (ab_I b :: ab_I a :: st) σ Q ↔ ab_Run X 251 11 (0, 0, 0) L (ab_I (ab_w32 (a + b)) :: st) σ Q := ab_r_iadd kc_X13_isLow dX13_isLow_10
theorem rX13_isLow_11 : ab_Run X 251 11 (0, 0, 0) L st σ Q ↔ ab_Run X 251 12 (0, 0, 0) L (ab_I 1 :: st) σ Q := ab_r_iconst (by decide) kc_X13_isLow dX13_isLow_11
theorem rX13_isLow_12 : ab_Run X 251 12 (0, 0, 0) L (ab_I b :: ab_I a :: st) σ Q ↔ ab_Run X 251 13 (0, 0, 0) L (ab_I (ab_w32 (a - b)) :: st) σ Q := ab_r_isub kc_X13_isLow dX13_isLow_12
theorem rX13_isLow_13 : ab_Run X 251 13 (0, 0, 0) [ab_R z, l1, l2, l3] st σ Q ↔ z ≠ 0 ∧ ab_Run X 251 14 (0, 0, 0) [ab_R z, l1, l2, l3] (ab_R z :: st) σ Q := ab_r_aload_n rfl kc_X13_isLow dX13_isLow_13
theorem rX13_isLow_14 : ab_Run X 251 14 (0, 0, 0) L (ab_R a :: st) σ Q ↔ (ab_sh σ a).1 = 14 ∧ ab_Run X 251 17 (0, 0, 0) L (ab_R (ab_rd σ a 3) :: st) σ Q := gF_13_373 ko_X13_isLow kc_X13_isLow dX13_isLow_14
theorem rX13_isLow_17 : ab_Run X 251 17 (0, 0, 0) L (ab_R a :: st) σ Q ↔ (ab_sh σ a).1 = 13 ∧ ab_Run X 251 20 (0, 0, 0) L (ab_I (ab_rd σ a 6) :: st) σ Q := gF_13_213 ko_X13_isLow kc_X13_isLow dX13_isLow_17
theorem rX13_isLow_20 : ab_Run X 251 20 (0, 0, 0) L (ab_I b :: ab_I a :: st) σ Q ↔ b ≠ 0 ∧ ab_Run X 251 21 (0, 0, 0) L (ab_I (ab_w32 (a.tdiv b)) :: st) σ Q := ab_r_idiv kc_X13_isLow dX13_isLow_20
theorem rX13_isLow_21 : ab_Run X 251 21 (0, 0, 0) [l0, l1, l2, l3] (ab_I z :: st) σ Q ↔ (!ab_isJ l1) = true ∧ ab_Run X 251 22 (0, 0, 0) [l0, l1, ab_I z, l3] st σ Q := ab_r_istore_n (Nat.le_of_ble_eq_true rfl) kc_X13_isLow dX13_isLow_21
theorem rX13_isLow_22 : ab_Run X 251 22 (0, 0, 0) L st σ Q ↔ ab_Run X 251 23 (0, 0, 0) L (ab_I 0 :: st) σ Q := ab_r_iconst (by decide) kc_X13_isLow dX13_isLow_22
theorem rX13_isLow_23 : ab_Run X 251 23 (0, 0, 0) [l0, l1, l2, l3] (ab_I z :: st) σ Q ↔ (!ab_isJ l2) = true ∧ ab_Run X 251 24 (0, 0, 0) [l0, l1, l2, ab_I z] st σ Q := ab_r_istore_n (Nat.le_of_ble_eq_true rfl) kc_X13_isLow dX13_isLow_23
theorem rX13_isLow_24 : ab_Run X 251 24 (0, 0, 0) [l0, l1, l2, ab_I z] st σ Q ↔ ab_Run X 251 25 (0, 0, 0) [l0, l1, l2, ab_I z] (ab_I z :: st) σ Q := ab_r_iload_n rfl kc_X13_isLow dX13_isLow_24
theorem rX13_isLow_25 : ab_Run X 251 25 (0, 0, 0) [ab_R z, l1, l2, l3] st σ Q ↔ z ≠ 0 ∧ ab_Run X 251 26 (0, 0, 0) [ab_R z, l1, l2, l3] (ab_R z :: st) σ Q := ab_r_aload_n rfl kc_X13_isLow dX13_isLow_25
theorem rX13_isLow_26 : ab_Run X 251 26 (0, 0, 0) L (ab_R a :: st) σ Q ↔ (ab_sh σ a).1 = 14 ∧ ab_Run X 251 29 (0, 0, 0) L (ab_R (ab_rd σ a 3) :: st) σ Q := gF_13_373 ko_X13_isLow kc_X13_isLow dX13_isLow_26
theorem rX13_isLow_29 : ab_Run X 251 29 (0, 0, 0) L (ab_R a :: st) σ Q ↔ (ab_sh σ a).1 = 13 ∧ ab_Run X 251 32 (0, 0, 0) L (ab_I (ab_rd σ a 6) :: st) σ Q := gF_13_213 ko_X13_isLow kc_X13_isLow dX13_isLow_29
theorem rX13_isLow_32 : ab_Run X 251 32 (0, 0, 0) L (ab_I b :: ab_I a :: st) σ Q ↔ (b ≤ a → ab_Run X 251 53 (0, 0, 0) L st σ Q) ∧ (¬ (b ≤ a) → ab_Run X 251 35 (0, 0, 0) L st σ Q) := ab_r_icmp_ge rfl kc_X13_isLow dX13_isLow_32
theorem rX13_isLow_35 : ab_Run X 251 35 (0, 0, 0) [ab_R z, l1, l2, l3] st σ Q ↔ z ≠ 0 ∧ ab_Run X 251 36 (0, 0, 0) [ab_R z, l1, l2, l3] (ab_R z :: st) σ Q := ab_r_aload_n rfl kc_X13_isLow dX13_isLow_35
theorem rX13_isLow_36 : ab_Run X 251 36 (0, 0, 0) L (ab_R a :: st) σ Q ↔ (ab_sh σ a).1 = 14 ∧ ab_Run X 251 39 (0, 0, 0) L (ab_R (ab_rd σ a 33) :: st) σ Q := gF_13_47 ko_X13_isLow kc_X13_isLow dX13_isLow_36
theorem rX13_isLow_39 : ab_Run X 251 39 (0, 0, 0) [l0, l1, l2, ab_I z] st σ Q ↔ ab_Run X 251 40 (0, 0, 0) [l0, l1, l2, ab_I z] (ab_I z :: st) σ Q := ab_r_iload_n rfl kc_X13_isLow dX13_isLow_39
theorem rX13_isLow_40 : ab_Run X 251 40 (0, 0, 0) L (ab_I i :: ab_R a :: st) σ Q ↔ ((ab_sh σ a).1 = 21 ∧ 0 ≤ i ∧ i < (ab_sh σ a).2) ∧ ab_Run X 251 41 (0, 0, 0) L (ab_I (ab_rd σ a i) :: st) σ Q := ab_r_iaload (by decide) kc_X13_isLow dX13_isLow_40
theorem rX13_isLow_41 : ab_Run X 251 41 (0, 0, 0) [l0, l1, ab_I z, l3] st σ Q ↔ ab_Run X 251 42 (0, 0, 0) [l0, l1, ab_I z, l3] (ab_I z :: st) σ Q := ab_r_iload_n rfl kc_X13_isLow dX13_isLow_41
theorem rX13_isLow_42 : ab_Run X 251 42 (0, 0, 0) L (ab_I b :: ab_I a :: st) σ Q ↔ (a ≤ b → ab_Run X 251 47 (0, 0, 0) L st σ Q) ∧ (¬ (a ≤ b) → ab_Run X 251 45 (0, 0, 0) L st σ Q) := ab_r_icmp_le rfl kc_X13_isLow dX13_isLow_42
theorem rX13_isLow_45 : ab_Run X 251 45 (0, 0, 0) L st σ Q ↔ ab_Run X 251 46 (0, 0, 0) L (ab_I 0 :: st) σ Q := ab_r_iconst (by decide) kc_X13_isLow dX13_isLow_45
theorem rX13_isLow_46 : ab_Run X 251 46 (0, 0, 0) L [ab_I v] σ Q ↔ (v = 0 ∨ v = 1) ∧ Q (some (ab_I v)) σ := ab_r_ireturnZ rfl kc_X13_isLow dX13_isLow_46
theorem rX13_isLow_47 : ab_Run X 251 47 (0, 0, 0) [l0, l1, l2, ab_I z] st σ Q ↔ (!ab_isJ l2) = true ∧ ab_Run X 251 50 (0, 0, 0) [l0, l1, l2, ab_I (ab_w32 (z + 1))] st σ Q := ab_r_iinc rfl (by decide) kc_X13_isLow dX13_isLow_47
theorem rX13_isLow_50 : ab_Run X 251 50 (0, 0, 0) L st σ Q ↔ ab_Run X 251 24 (0, 0, 0) L st σ Q := ab_r_goto rfl kc_X13_isLow dX13_isLow_50
theorem rX13_isLow_53 : ab_Run X 251 53 (0, 0, 0) L st σ Q ↔ ab_Run X 251 54 (0, 0, 0) L (ab_I 1 :: st) σ Q := ab_r_iconst (by decide) kc_X13_isLow dX13_isLow_53
theorem rX13_isLow_54 : ab_Run X 251 54 (0, 0, 0) L [ab_I v] σ Q ↔ (v = 0 ∨ v = 1) ∧ Q (some (ab_I v)) σ := ab_r_ireturnZ rfl kc_X13_isLow dX13_isLow_54
theorem kc_X13_counts : ab_code 252 = cX13_counts := rfl
theorem ko_X13_counts : ab_ow 252 = 13 := rfl
theorem rX13_counts_0 : ab_Run X 252 0 (1, 0, 0) [ab_R z, l1, l2] st σ Q ↔ z ≠ 0 ∧ ab_Run X 252 1 (1, 0, 0) [ab_R z, l1, l2] (ab_R z :: st) σ Q := ab_r_aload_n rfl kc_X13_counts dX13_counts_0
theorem rX13_counts_1 : ab_Run X 252 1 (1, 0, 0) L (ab_R a :: st) σ Q ↔ (ab_sh σ a).1 = 14 ∧ ab_Run X 252 4 (1, 0, 0) L (ab_R (ab_rd σ a 33) :: st) σ Q := gF_13_47 ko_X13_counts kc_X13_counts dX13_counts_1
theorem rX13_counts_4 : ab_Run X 252 4 (1, 0, 0) [ab_R z, l1, l2] st σ Q ↔ z ≠ 0 ∧ ab_Run X 252 5 (1, 0, 0) [ab_R z, l1, l2] (ab_R z :: st) σ Q := ab_r_aload_n rfl kc_X13_counts dX13_counts_4
theorem rX13_counts_5 : ab_Run X 252 5 (1, 0, 0) [l0, ab_I z, l2] st σ Q ↔ ab_Run X 252 6 (1, 0, 0) [l0, ab_I z, l2] (ab_I z :: st) σ Q := ab_r_iload_n rfl kc_X13_counts dX13_counts_5
theorem rX13_counts_6 : ab_Run X 252 6 (1, 0, 0) L (ab_I x1 :: ab_R a :: st) σ Q ↔ ((ab_sh σ a).1 = 14 ∧ ab_cats st ≤ 8) ∧ ab_Do X 247 [ab_R a, ab_I x1] σ (fun r σ' => ab_Run X 252 9 (1, 0, 0) L (ab_psh r st) σ' Q) := ab_r_callV (w := [ab_I x1]) (as := [ab_I x1]) (b1 := (0, 0, 0)) 0 (Or.inl rfl) (by decide) ko_X13_counts qM_13_514 (by decide) rfl rfl rfl rfl rfl (by decide) (Nat.le_of_ble_eq_true rfl) kc_X13_counts dX13_counts_6
theorem rX13_counts_9 : ab_Run X 252 9 (1, 0, 0) L (ab_I b :: ab_R a :: st) σ Q ↔ ab_Run X 252 10 (1, 0, 0) L (ab_I b :: ab_R a :: ab_I b :: ab_R a :: st) σ Q := ab_r_dup2 kc_X13_counts dX13_counts_9
theorem rX13_counts_10 : ab_Run X 252 10 (1, 0, 0) L (ab_I i :: ab_R a :: st) σ Q ↔ ((ab_sh σ a).1 = 21 ∧ 0 ≤ i ∧ i < (ab_sh σ a).2) ∧ ab_Run X 252 11 (1, 0, 0) L (ab_I (ab_rd σ a i) :: st) σ Q := ab_r_iaload (by decide) kc_X13_counts dX13_counts_10
theorem rX13_counts_11 : ab_Run X 252 11 (1, 0, 0) [l0, l1, ab_I z] st σ Q ↔ ab_Run X 252 12 (1, 0, 0) [l0, l1, ab_I z] (ab_I z :: st) σ Q := ab_r_iload_n rfl kc_X13_counts dX13_counts_11
theorem rX13_counts_12 : ab_Run X 252 12 (1, 0, 0) L (ab_I b :: ab_I a :: st) σ Q ↔ ab_Run X 252 13 (1, 0, 0) L (ab_I (ab_w32 (a + b)) :: st) σ Q := ab_r_iadd kc_X13_counts dX13_counts_12
theorem rX13_counts_13 : ab_Run X 252 13 (1, 0, 0) L (ab_I v :: ab_I i :: ab_R a :: st) σ Q ↔ ((ab_sh σ a).1 = 21 ∧ 0 ≤ i ∧ i < (ab_sh σ a).2) ∧ ab_Run X 252 14 (1, 0, 0) L st (ab_wr σ a i v) Q := ab_r_iastore kc_X13_counts dX13_counts_13
theorem rX13_counts_14 : ab_Run X 252 14 (1, 0, 0) [ab_R z, l1, l2] st σ Q ↔ z ≠ 0 ∧ ab_Run X 252 15 (1, 0, 0) [ab_R z, l1, l2] (ab_R z :: st) σ Q := ab_r_aload_n rfl kc_X13_counts dX13_counts_14
theorem rX13_counts_15 : ab_Run X 252 15 (1, 0, 0) L (ab_R a :: st) σ Q ↔ (ab_sh σ a).1 = 14 ∧ ab_Run X 252 18 (1, 0, 0) L (ab_R (ab_rd σ a 33) :: st) σ Q := gF_13_47 ko_X13_counts kc_X13_counts dX13_counts_15
theorem rX13_counts_18 : ab_Run X 252 18 (1, 0, 0) [ab_R z, l1, l2] st σ Q ↔ z ≠ 0 ∧ ab_Run X 252 19 (1, 0, 0) [ab_R z, l1, l2] (ab_R z :: st) σ Q := ab_r_aload_n rfl kc_X13_counts dX13_counts_18
theorem rX13_counts_19 : ab_Run X 252 19 (1, 0, 0) [l0, ab_I z, l2] st σ Q ↔ ab_Run X 252 20 (1, 0, 0) [l0, ab_I z, l2] (ab_I z :: st) σ Q := ab_r_iload_n rfl kc_X13_counts dX13_counts_19
theorem rX13_counts_20 : ab_Run X 252 20 (1, 0, 0) L (ab_I x1 :: ab_R a :: st) σ Q ↔ ((ab_sh σ a).1 = 14 ∧ ab_cats st ≤ 8) ∧ ab_Do X 248 [ab_R a, ab_I x1] σ (fun r σ' => ab_Run X 252 23 (1, 0, 0) L (ab_psh r st) σ' Q) := ab_r_callV (w := [ab_I x1]) (as := [ab_I x1]) (b1 := (0, 0, 0)) 0 (Or.inl rfl) (by decide) ko_X13_counts qM_13_517 (by decide) rfl rfl rfl rfl rfl (by decide) (Nat.le_of_ble_eq_true rfl) kc_X13_counts dX13_counts_20
theorem rX13_counts_23 : ab_Run X 252 23 (1, 0, 0) L (ab_I b :: ab_R a :: st) σ Q ↔ ab_Run X 252 24 (1, 0, 0) L (ab_I b :: ab_R a :: ab_I b :: ab_R a :: st) σ Q := ab_r_dup2 kc_X13_counts dX13_counts_23
theorem rX13_counts_24 : ab_Run X 252 24 (1, 0, 0) L (ab_I i :: ab_R a :: st) σ Q ↔ ((ab_sh σ a).1 = 21 ∧ 0 ≤ i ∧ i < (ab_sh σ a).2) ∧ ab_Run X 252 25 (1, 0, 0) L (ab_I (ab_rd σ a i) :: st) σ Q := ab_r_iaload (by decide) kc_X13_counts dX13_counts_24
theorem rX13_counts_25 : ab_Run X 252 25 (1, 0, 0) [l0, l1, ab_I z] st σ Q ↔ ab_Run X 252 26 (1, 0, 0) [l0, l1, ab_I z] (ab_I z :: st) σ Q := ab_r_iload_n rfl kc_X13_counts dX13_counts_25
theorem rX13_counts_26 : ab_Run X 252 26 (1, 0, 0) L (ab_I b :: ab_I a :: st) σ Q ↔ ab_Run X 252 27 (1, 0, 0) L (ab_I (ab_w32 (a + b)) :: st) σ Q := ab_r_iadd kc_X13_counts dX13_counts_26
theorem rX13_counts_27 : ab_Run X 252 27 (1, 0, 0) L (ab_I v :: ab_I i :: ab_R a :: st) σ Q ↔ ((ab_sh σ a).1 = 21 ∧ 0 ≤ i ∧ i < (ab_sh σ a).2) ∧ ab_Run X 252 28 (1, 0, 0) L st (ab_wr σ a i v) Q := ab_r_iastore kc_X13_counts dX13_counts_27
theorem rX13_counts_28 : ab_Run X 252 28 (1, 0, 0) L [] σ Q ↔ Q none σ := ab_r_return rfl kc_X13_counts dX13_counts_28
theorem kc_X13_laysTurns : ab_code 253 = cX13_laysTurns := rfl
theorem ko_X13_laysTurns : ab_ow 253 = 13 := rfl
theorem rX13_laysTurns_0 : ab_Run X 253 0 (2, 0, 0) [ab_R z, l1, l2, l3] st σ Q ↔ z ≠ 0 ∧ ab_Run X 253 1 (2, 0, 0) [ab_R z, l1, l2, l3] (ab_R z :: st) σ Q := ab_r_aload_n rfl kc_X13_laysTurns dX13_laysTurns_0
theorem rX13_laysTurns_1 : ab_Run X 253 1 (2, 0, 0) L (ab_R a :: st) σ Q ↔ (ab_sh σ a).1 = 14 ∧ ab_Run X 253 4 (2, 0, 0) L (ab_R (ab_rd σ a 3) :: st) σ Q := gF_13_373 ko_X13_laysTurns kc_X13_laysTurns dX13_laysTurns_1
theorem rX13_laysTurns_4 : ab_Run X 253 4 (2, 0, 0) L (ab_R a :: st) σ Q ↔ (ab_sh σ a).1 = 13 ∧ ab_Run X 253 7 (2, 0, 0) L (ab_I (ab_rd σ a 6) :: st) σ Q := gF_13_213 ko_X13_laysTurns kc_X13_laysTurns dX13_laysTurns_4
theorem rX13_laysTurns_7 : ab_Run X 253 7 (2, 0, 0) [ab_R z, l1, l2, l3] st σ Q ↔ z ≠ 0 ∧ ab_Run X 253 8 (2, 0, 0) [ab_R z, l1, l2, l3] (ab_R z :: st) σ Q := ab_r_aload_n rfl kc_X13_laysTurns dX13_laysTurns_7
theorem rX13_laysTurns_8 : ab_Run X 253 8 (2, 0, 0) L (ab_R a :: st) σ Q ↔ (ab_sh σ a).1 = 14 ∧ ab_Run X 253 11 (2, 0, 0) L (ab_R (ab_rd σ a 3) :: st) σ Q := gF_13_373 ko_X13_laysTurns kc_X13_laysTurns dX13_laysTurns_8
theorem rX13_laysTurns_11 : ab_Run X 253 11 (2, 0, 0) L (ab_R a :: st) σ Q ↔ (ab_sh σ a).1 = 13 ∧ ab_Run X 253 14 (2, 0, 0) L (ab_I (ab_rd σ a 6) :: st) σ Q := gF_13_213 ko_X13_laysTurns kc_X13_laysTurns dX13_laysTurns_11
theorem rX13_laysTurns_14 : ab_Run X 253 14 (2, 0, 0) L st σ Q ↔ ab_Run X 253 15 (2, 0, 0) L (ab_I 1 :: st) σ Q := ab_r_iconst (by decide) kc_X13_laysTurns dX13_laysTurns_14
theorem rX13_laysTurns_15 : ab_Run X 253 15 (2, 0, 0) L (ab_I b :: ab_I a :: st) σ Q ↔ ab_Run X 253 16 (2, 0, 0) L (ab_I (ab_w32 (a - b)) :: st) σ Q := ab_r_isub kc_X13_laysTurns dX13_laysTurns_15
theorem rX13_laysTurns_16 : ab_Run X 253 16 (2, 0, 0) L (ab_I b :: ab_I a :: st) σ Q ↔ ab_Run X 253 17 (2, 0, 0) L (ab_I (ab_w32 (a * b)) :: st) σ Q := ab_r_imul kc_X13_laysTurns dX13_laysTurns_16
theorem rX13_laysTurns_17 : ab_Run X 253 17 (2, 0, 0) L st σ Q ↔ ab_Run X 253 18 (2, 0, 0) L (ab_I 2 :: st) σ Q := ab_r_iconst (by decide) kc_X13_laysTurns dX13_laysTurns_17
theorem rX13_laysTurns_18 : ab_Run X 253 18 (2, 0, 0) L (ab_I b :: ab_I a :: st) σ Q ↔ b ≠ 0 ∧ ab_Run X 253 19 (2, 0, 0) L (ab_I (ab_w32 (a.tdiv b)) :: st) σ Q := ab_r_idiv kc_X13_laysTurns dX13_laysTurns_18
theorem rX13_laysTurns_19 : ab_Run X 253 19 (2, 0, 0) [l0, l1, l2, l3] (ab_I z :: st) σ Q ↔ (!ab_isJ l1) = true ∧ ab_Run X 253 20 (2, 0, 0) [l0, l1, ab_I z, l3] st σ Q := ab_r_istore_n (Nat.le_of_ble_eq_true rfl) kc_X13_laysTurns dX13_laysTurns_19
theorem rX13_laysTurns_20 : ab_Run X 253 20 (2, 0, 0) L st σ Q ↔ ab_Run X 253 21 (2, 0, 0) L (ab_I 0 :: st) σ Q := ab_r_iconst (by decide) kc_X13_laysTurns dX13_laysTurns_20
theorem rX13_laysTurns_21 : ab_Run X 253 21 (2, 0, 0) [l0, l1, l2, l3] (ab_I z :: st) σ Q ↔ (!ab_isJ l2) = true ∧ ab_Run X 253 22 (2, 0, 0) [l0, l1, l2, ab_I z] st σ Q := ab_r_istore_n (Nat.le_of_ble_eq_true rfl) kc_X13_laysTurns dX13_laysTurns_21
theorem rX13_laysTurns_22 : ab_Run X 253 22 (2, 0, 0) [l0, l1, l2, ab_I z] st σ Q ↔ ab_Run X 253 23 (2, 0, 0) [l0, l1, l2, ab_I z] (ab_I z :: st) σ Q := ab_r_iload_n rfl kc_X13_laysTurns dX13_laysTurns_22
theorem rX13_laysTurns_23 : ab_Run X 253 23 (2, 0, 0) L st σ Q ↔ ab_Run X 253 25 (2, 0, 0) L (ab_I 6 :: st) σ Q := ab_r_bipush (by decide) kc_X13_laysTurns dX13_laysTurns_23
theorem rX13_laysTurns_25 : ab_Run X 253 25 (2, 0, 0) L (ab_I b :: ab_I a :: st) σ Q ↔ (b ≤ a → ab_Run X 253 41 (2, 0, 0) L st σ Q) ∧ (¬ (b ≤ a) → ab_Run X 253 28 (2, 0, 0) L st σ Q) := ab_r_icmp_ge rfl kc_X13_laysTurns dX13_laysTurns_25
theorem rX13_laysTurns_28 : ab_Run X 253 28 (2, 0, 0) [ab_R z, l1, l2, l3] st σ Q ↔ z ≠ 0 ∧ ab_Run X 253 29 (2, 0, 0) [ab_R z, l1, l2, l3] (ab_R z :: st) σ Q := ab_r_aload_n rfl kc_X13_laysTurns dX13_laysTurns_28
theorem rX13_laysTurns_29 : ab_Run X 253 29 (2, 0, 0) L (ab_R a :: st) σ Q ↔ (ab_sh σ a).1 = 14 ∧ ab_Run X 253 32 (2, 0, 0) L (ab_R (ab_rd σ a 33) :: st) σ Q := gF_13_47 ko_X13_laysTurns kc_X13_laysTurns dX13_laysTurns_29
theorem rX13_laysTurns_32 : ab_Run X 253 32 (2, 0, 0) [l0, l1, l2, ab_I z] st σ Q ↔ ab_Run X 253 33 (2, 0, 0) [l0, l1, l2, ab_I z] (ab_I z :: st) σ Q := ab_r_iload_n rfl kc_X13_laysTurns dX13_laysTurns_32
theorem rX13_laysTurns_33 : ab_Run X 253 33 (2, 0, 0) L st σ Q ↔ ab_Run X 253 34 (2, 0, 0) L (ab_I 0 :: st) σ Q := ab_r_iconst (by decide) kc_X13_laysTurns dX13_laysTurns_33
theorem rX13_laysTurns_34 : ab_Run X 253 34 (2, 0, 0) L (ab_I v :: ab_I i :: ab_R a :: st) σ Q ↔ ((ab_sh σ a).1 = 21 ∧ 0 ≤ i ∧ i < (ab_sh σ a).2) ∧ ab_Run X 253 35 (2, 0, 0) L st (ab_wr σ a i v) Q := ab_r_iastore kc_X13_laysTurns dX13_laysTurns_34
theorem rX13_laysTurns_35 : ab_Run X 253 35 (2, 0, 0) [l0, l1, l2, ab_I z] st σ Q ↔ (!ab_isJ l2) = true ∧ ab_Run X 253 38 (2, 0, 0) [l0, l1, l2, ab_I (ab_w32 (z + 1))] st σ Q := ab_r_iinc rfl (by decide) kc_X13_laysTurns dX13_laysTurns_35
theorem rX13_laysTurns_38 : ab_Run X 253 38 (2, 0, 0) L st σ Q ↔ ab_Run X 253 22 (2, 0, 0) L st σ Q := ab_r_goto rfl kc_X13_laysTurns dX13_laysTurns_38
theorem rX13_laysTurns_41 : ab_Run X 253 41 (2, 0, 0) L st σ Q ↔ ab_Run X 253 42 (2, 0, 0) L (ab_I 0 :: st) σ Q := ab_r_iconst (by decide) kc_X13_laysTurns dX13_laysTurns_41
theorem rX13_laysTurns_42 : ab_Run X 253 42 (2, 0, 0) [l0, l1, l2, l3] (ab_I z :: st) σ Q ↔ (!ab_isJ l2) = true ∧ ab_Run X 253 43 (2, 0, 0) [l0, l1, l2, ab_I z] st σ Q := ab_r_istore_n (Nat.le_of_ble_eq_true rfl) kc_X13_laysTurns dX13_laysTurns_42
theorem rX13_laysTurns_43 : ab_Run X 253 43 (2, 0, 0) [l0, l1, l2, ab_I z] st σ Q ↔ ab_Run X 253 44 (2, 0, 0) [l0, l1, l2, ab_I z] (ab_I z :: st) σ Q := ab_r_iload_n rfl kc_X13_laysTurns dX13_laysTurns_43
theorem rX13_laysTurns_44 : ab_Run X 253 44 (2, 0, 0) L st σ Q ↔ ab_Run X 253 46 (2, 0, 0) L (ab_I 9 :: st) σ Q := ab_r_bipush (by decide) kc_X13_laysTurns dX13_laysTurns_44
theorem rX13_laysTurns_46 : ab_Run X 253 46 (2, 0, 0) L (ab_I b :: ab_I a :: st) σ Q ↔ (b ≤ a → ab_Run X 253 62 (2, 0, 0) L st σ Q) ∧ (¬ (b ≤ a) → ab_Run X 253 49 (2, 0, 0) L st σ Q) := ab_r_icmp_ge rfl kc_X13_laysTurns dX13_laysTurns_46
theorem rX13_laysTurns_49 : ab_Run X 253 49 (2, 0, 0) [ab_R z, l1, l2, l3] st σ Q ↔ z ≠ 0 ∧ ab_Run X 253 50 (2, 0, 0) [ab_R z, l1, l2, l3] (ab_R z :: st) σ Q := ab_r_aload_n rfl kc_X13_laysTurns dX13_laysTurns_49
theorem rX13_laysTurns_50 : ab_Run X 253 50 (2, 0, 0) L (ab_R a :: st) σ Q ↔ (ab_sh σ a).1 = 14 ∧ ab_Run X 253 53 (2, 0, 0) L (ab_R (ab_rd σ a 32) :: st) σ Q := gF_13_44 ko_X13_laysTurns kc_X13_laysTurns dX13_laysTurns_50
theorem rX13_laysTurns_53 : ab_Run X 253 53 (2, 0, 0) [l0, l1, l2, ab_I z] st σ Q ↔ ab_Run X 253 54 (2, 0, 0) [l0, l1, l2, ab_I z] (ab_I z :: st) σ Q := ab_r_iload_n rfl kc_X13_laysTurns dX13_laysTurns_53
theorem rX13_laysTurns_54 : ab_Run X 253 54 (2, 0, 0) L st σ Q ↔ ab_Run X 253 55 (2, 0, 0) L (ab_I (-1) :: st) σ Q := ab_r_iconst (by decide) kc_X13_laysTurns dX13_laysTurns_54
theorem rX13_laysTurns_55 : ab_Run X 253 55 (2, 0, 0) L (ab_I v :: ab_I i :: ab_R a :: st) σ Q ↔ ((ab_sh σ a).1 = 21 ∧ 0 ≤ i ∧ i < (ab_sh σ a).2) ∧ ab_Run X 253 56 (2, 0, 0) L st (ab_wr σ a i v) Q := ab_r_iastore kc_X13_laysTurns dX13_laysTurns_55
theorem rX13_laysTurns_56 : ab_Run X 253 56 (2, 0, 0) [l0, l1, l2, ab_I z] st σ Q ↔ (!ab_isJ l2) = true ∧ ab_Run X 253 59 (2, 0, 0) [l0, l1, l2, ab_I (ab_w32 (z + 1))] st σ Q := ab_r_iinc rfl (by decide) kc_X13_laysTurns dX13_laysTurns_56
theorem rX13_laysTurns_59 : ab_Run X 253 59 (2, 0, 0) L st σ Q ↔ ab_Run X 253 43 (2, 0, 0) L st σ Q := ab_r_goto rfl kc_X13_laysTurns dX13_laysTurns_59
theorem rX13_laysTurns_62 : ab_Run X 253 62 (2, 0, 0) L st σ Q ↔ ab_Run X 253 63 (2, 0, 0) L (ab_I 0 :: st) σ Q := ab_r_iconst (by decide) kc_X13_laysTurns dX13_laysTurns_62
theorem rX13_laysTurns_63 : ab_Run X 253 63 (2, 0, 0) [l0, l1, l2, l3] (ab_I z :: st) σ Q ↔ (!ab_isJ l2) = true ∧ ab_Run X 253 64 (2, 0, 0) [l0, l1, l2, ab_I z] st σ Q := ab_r_istore_n (Nat.le_of_ble_eq_true rfl) kc_X13_laysTurns dX13_laysTurns_63
theorem rX13_laysTurns_64 : ab_Run X 253 64 (2, 0, 0) [l0, l1, l2, ab_I z] st σ Q ↔ ab_Run X 253 65 (2, 0, 0) [l0, l1, l2, ab_I z] (ab_I z :: st) σ Q := ab_r_iload_n rfl kc_X13_laysTurns dX13_laysTurns_64
theorem rX13_laysTurns_65 : ab_Run X 253 65 (2, 0, 0) L (ab_I a :: st) σ Q ↔ (a < 0 → ab_Run X 253 244 (2, 0, 0) L st σ Q) ∧ (¬ (a < 0) → ab_Run X 253 68 (2, 0, 0) L st σ Q) := ab_r_if_lt rfl kc_X13_laysTurns dX13_laysTurns_65
theorem rX13_laysTurns_68 : ab_Run X 253 68 (2, 0, 0) [l0, l1, l2, ab_I z] st σ Q ↔ ab_Run X 253 69 (2, 0, 0) [l0, l1, l2, ab_I z] (ab_I z :: st) σ Q := ab_r_iload_n rfl kc_X13_laysTurns dX13_laysTurns_68
theorem rX13_laysTurns_69 : ab_Run X 253 69 (2, 0, 0) [l0, ab_I z, l2, l3] st σ Q ↔ ab_Run X 253 70 (2, 0, 0) [l0, ab_I z, l2, l3] (ab_I z :: st) σ Q := ab_r_iload_n rfl kc_X13_laysTurns dX13_laysTurns_69
theorem rX13_laysTurns_70 : ab_Run X 253 70 (2, 0, 0) L (ab_I b :: ab_I a :: st) σ Q ↔ (¬ a = b → ab_Run X 253 88 (2, 0, 0) L st σ Q) ∧ (¬ (¬ a = b) → ab_Run X 253 73 (2, 0, 0) L st σ Q) := ab_r_icmp_ne rfl kc_X13_laysTurns dX13_laysTurns_70
theorem rX13_laysTurns_73 : ab_Run X 253 73 (2, 0, 0) [ab_R z, l1, l2, l3] st σ Q ↔ z ≠ 0 ∧ ab_Run X 253 74 (2, 0, 0) [ab_R z, l1, l2, l3] (ab_R z :: st) σ Q := ab_r_aload_n rfl kc_X13_laysTurns dX13_laysTurns_73
theorem rX13_laysTurns_74 : ab_Run X 253 74 (2, 0, 0) L (ab_R a :: st) σ Q ↔ ((ab_sh σ a).1 = 14 ∧ ab_cats st ≤ 8) ∧ ab_Do X 250 [ab_R a] σ (fun r σ' => ab_Run X 253 77 (2, 0, 0) L (ab_psh r st) σ' Q) := ab_r_callV (w := []) (as := []) (b1 := (0, 0, 0)) 0 (Or.inl rfl) (by decide) ko_X13_laysTurns qM_13_520 (by decide) rfl rfl rfl rfl rfl (by decide) (Nat.le_of_ble_eq_true rfl) kc_X13_laysTurns dX13_laysTurns_74
theorem rX13_laysTurns_77 : ab_Run X 253 77 (2, 0, 0) L (ab_I a :: st) σ Q ↔ (a = 0 → ab_Run X 253 82 (2, 0, 0) L st σ Q) ∧ (¬ (a = 0) → ab_Run X 253 80 (2, 0, 0) L st σ Q) := ab_r_if_eq rfl kc_X13_laysTurns dX13_laysTurns_77
theorem rX13_laysTurns_80 : ab_Run X 253 80 (2, 0, 0) L st σ Q ↔ ab_Run X 253 81 (2, 0, 0) L (ab_I 1 :: st) σ Q := ab_r_iconst (by decide) kc_X13_laysTurns dX13_laysTurns_80
theorem rX13_laysTurns_81 : ab_Run X 253 81 (2, 0, 0) L [ab_I v] σ Q ↔ (v = 0 ∨ v = 1) ∧ Q (some (ab_I v)) σ := ab_r_ireturnZ rfl kc_X13_laysTurns dX13_laysTurns_81
theorem rX13_laysTurns_82 : ab_Run X 253 82 (2, 0, 0) [l0, l1, l2, ab_I z] st σ Q ↔ (!ab_isJ l2) = true ∧ ab_Run X 253 85 (2, 0, 0) [l0, l1, l2, ab_I (ab_w32 (z + (-1)))] st σ Q := ab_r_iinc rfl (by decide) kc_X13_laysTurns dX13_laysTurns_82
theorem rX13_laysTurns_85 : ab_Run X 253 85 (2, 0, 0) L st σ Q ↔ ab_Run X 253 64 (2, 0, 0) L st σ Q := ab_r_goto rfl kc_X13_laysTurns dX13_laysTurns_85
theorem rX13_laysTurns_88 : ab_Run X 253 88 (2, 0, 0) [ab_R z, l1, l2, l3] st σ Q ↔ z ≠ 0 ∧ ab_Run X 253 89 (2, 0, 0) [ab_R z, l1, l2, l3] (ab_R z :: st) σ Q := ab_r_aload_n rfl kc_X13_laysTurns dX13_laysTurns_88
theorem rX13_laysTurns_89 : ab_Run X 253 89 (2, 0, 0) L (ab_R a :: st) σ Q ↔ (ab_sh σ a).1 = 14 ∧ ab_Run X 253 92 (2, 0, 0) L (ab_R (ab_rd σ a 32) :: st) σ Q := gF_13_44 ko_X13_laysTurns kc_X13_laysTurns dX13_laysTurns_89
theorem rX13_laysTurns_92 : ab_Run X 253 92 (2, 0, 0) [l0, l1, l2, ab_I z] st σ Q ↔ ab_Run X 253 93 (2, 0, 0) [l0, l1, l2, ab_I z] (ab_I z :: st) σ Q := ab_r_iload_n rfl kc_X13_laysTurns dX13_laysTurns_92
theorem rX13_laysTurns_93 : ab_Run X 253 93 (2, 0, 0) L (ab_I i :: ab_R a :: st) σ Q ↔ ((ab_sh σ a).1 = 21 ∧ 0 ≤ i ∧ i < (ab_sh σ a).2) ∧ ab_Run X 253 94 (2, 0, 0) L (ab_I (ab_rd σ a i) :: st) σ Q := ab_r_iaload (by decide) kc_X13_laysTurns dX13_laysTurns_93
theorem rX13_laysTurns_94 : ab_Run X 253 94 (2, 0, 0) L st σ Q ↔ ab_Run X 253 95 (2, 0, 0) L (ab_I (-1) :: st) σ Q := ab_r_iconst (by decide) kc_X13_laysTurns dX13_laysTurns_94
theorem rX13_laysTurns_95 : ab_Run X 253 95 (2, 0, 0) L (ab_I b :: ab_I a :: st) σ Q ↔ (a = b → ab_Run X 253 109 (2, 0, 0) L st σ Q) ∧ (¬ (a = b) → ab_Run X 253 98 (2, 0, 0) L st σ Q) := ab_r_icmp_eq rfl kc_X13_laysTurns dX13_laysTurns_95
theorem rX13_laysTurns_98 : ab_Run X 253 98 (2, 0, 0) [ab_R z, l1, l2, l3] st σ Q ↔ z ≠ 0 ∧ ab_Run X 253 99 (2, 0, 0) [ab_R z, l1, l2, l3] (ab_R z :: st) σ Q := ab_r_aload_n rfl kc_X13_laysTurns dX13_laysTurns_98
theorem rX13_laysTurns_99 : ab_Run X 253 99 (2, 0, 0) [ab_R z, l1, l2, l3] st σ Q ↔ z ≠ 0 ∧ ab_Run X 253 100 (2, 0, 0) [ab_R z, l1, l2, l3] (ab_R z :: st) σ Q := ab_r_aload_n rfl kc_X13_laysTurns dX13_laysTurns_99
theorem rX13_laysTurns_100 : ab_Run X 253 100 (2, 0, 0) L (ab_R a :: st) σ Q ↔ (ab_sh σ a).1 = 14 ∧ ab_Run X 253 103 (2, 0, 0) L (ab_R (ab_rd σ a 32) :: st) σ Q := gF_13_44 ko_X13_laysTurns kc_X13_laysTurns dX13_laysTurns_100
theorem rX13_laysTurns_103 : ab_Run X 253 103 (2, 0, 0) [l0, l1, l2, ab_I z] st σ Q ↔ ab_Run X 253 104 (2, 0, 0) [l0, l1, l2, ab_I z] (ab_I z :: st) σ Q := ab_r_iload_n rfl kc_X13_laysTurns dX13_laysTurns_103
theorem rX13_laysTurns_104 : ab_Run X 253 104 (2, 0, 0) L (ab_I i :: ab_R a :: st) σ Q ↔ ((ab_sh σ a).1 = 21 ∧ 0 ≤ i ∧ i < (ab_sh σ a).2) ∧ ab_Run X 253 105 (2, 0, 0) L (ab_I (ab_rd σ a i) :: st) σ Q := ab_r_iaload (by decide) kc_X13_laysTurns dX13_laysTurns_104
theorem rX13_laysTurns_105 : ab_Run X 253 105 (2, 0, 0) L st σ Q ↔ ab_Run X 253 106 (2, 0, 0) L (ab_I (-1) :: st) σ Q := ab_r_iconst (by decide) kc_X13_laysTurns dX13_laysTurns_105
theorem rX13_laysTurns_106 : ab_Run X 253 106 (2, 0, 0) L (ab_I x2 :: ab_I x1 :: ab_R a :: st) σ Q ↔ ((ab_sh σ a).1 = 14 ∧ ab_cats st ≤ 8) ∧ ab_Do X 252 [ab_R a, ab_I x1, ab_I x2] σ (fun r σ' => ab_Run X 253 109 (2, 0, 0) L (ab_psh r st) σ' Q) := ab_r_callV (w := [ab_I x2, ab_I x1]) (as := [ab_I x1, ab_I x2]) (b1 := (1, 0, 0)) 0 (Or.inl rfl) (by decide) ko_X13_laysTurns qM_13_523 (by decide) rfl rfl rfl rfl rfl (by decide) (Nat.le_of_ble_eq_true rfl) kc_X13_laysTurns dX13_laysTurns_106
theorem rX13_laysTurns_109 : ab_Run X 253 109 (2, 0, 0) [ab_R z, l1, l2, l3] st σ Q ↔ z ≠ 0 ∧ ab_Run X 253 110 (2, 0, 0) [ab_R z, l1, l2, l3] (ab_R z :: st) σ Q := ab_r_aload_n rfl kc_X13_laysTurns dX13_laysTurns_109
theorem rX13_laysTurns_110 : ab_Run X 253 110 (2, 0, 0) L (ab_R a :: st) σ Q ↔ (ab_sh σ a).1 = 14 ∧ ab_Run X 253 113 (2, 0, 0) L (ab_R (ab_rd σ a 32) :: st) σ Q := gF_13_44 ko_X13_laysTurns kc_X13_laysTurns dX13_laysTurns_110
theorem rX13_laysTurns_113 : ab_Run X 253 113 (2, 0, 0) [l0, l1, l2, ab_I z] st σ Q ↔ ab_Run X 253 114 (2, 0, 0) [l0, l1, l2, ab_I z] (ab_I z :: st) σ Q := ab_r_iload_n rfl kc_X13_laysTurns dX13_laysTurns_113
theorem rX13_laysTurns_114 : ab_Run X 253 114 (2, 0, 0) L (ab_I b :: ab_R a :: st) σ Q ↔ ab_Run X 253 115 (2, 0, 0) L (ab_I b :: ab_R a :: ab_I b :: ab_R a :: st) σ Q := ab_r_dup2 kc_X13_laysTurns dX13_laysTurns_114
theorem rX13_laysTurns_115 : ab_Run X 253 115 (2, 0, 0) L (ab_I i :: ab_R a :: st) σ Q ↔ ((ab_sh σ a).1 = 21 ∧ 0 ≤ i ∧ i < (ab_sh σ a).2) ∧ ab_Run X 253 116 (2, 0, 0) L (ab_I (ab_rd σ a i) :: st) σ Q := ab_r_iaload (by decide) kc_X13_laysTurns dX13_laysTurns_115
theorem rX13_laysTurns_116 : ab_Run X 253 116 (2, 0, 0) L st σ Q ↔ ab_Run X 253 117 (2, 0, 0) L (ab_I 1 :: st) σ Q := ab_r_iconst (by decide) kc_X13_laysTurns dX13_laysTurns_116
theorem rX13_laysTurns_117 : ab_Run X 253 117 (2, 0, 0) L (ab_I b :: ab_I a :: st) σ Q ↔ ab_Run X 253 118 (2, 0, 0) L (ab_I (ab_w32 (a + b)) :: st) σ Q := ab_r_iadd kc_X13_laysTurns dX13_laysTurns_117
theorem rX13_laysTurns_118 : ab_Run X 253 118 (2, 0, 0) L (ab_I v :: ab_I i :: ab_R a :: st) σ Q ↔ ((ab_sh σ a).1 = 21 ∧ 0 ≤ i ∧ i < (ab_sh σ a).2) ∧ ab_Run X 253 119 (2, 0, 0) L st (ab_wr σ a i v) Q := ab_r_iastore kc_X13_laysTurns dX13_laysTurns_118
theorem rX13_laysTurns_119 : ab_Run X 253 119 (2, 0, 0) [ab_R z, l1, l2, l3] st σ Q ↔ z ≠ 0 ∧ ab_Run X 253 120 (2, 0, 0) [ab_R z, l1, l2, l3] (ab_R z :: st) σ Q := ab_r_aload_n rfl kc_X13_laysTurns dX13_laysTurns_119
theorem rX13_laysTurns_120 : ab_Run X 253 120 (2, 0, 0) L (ab_R a :: st) σ Q ↔ (ab_sh σ a).1 = 14 ∧ ab_Run X 253 123 (2, 0, 0) L (ab_R (ab_rd σ a 32) :: st) σ Q := gF_13_44 ko_X13_laysTurns kc_X13_laysTurns dX13_laysTurns_120
theorem rX13_laysTurns_123 : ab_Run X 253 123 (2, 0, 0) [l0, l1, l2, ab_I z] st σ Q ↔ ab_Run X 253 124 (2, 0, 0) [l0, l1, l2, ab_I z] (ab_I z :: st) σ Q := ab_r_iload_n rfl kc_X13_laysTurns dX13_laysTurns_123
theorem rX13_laysTurns_124 : ab_Run X 253 124 (2, 0, 0) L (ab_I i :: ab_R a :: st) σ Q ↔ ((ab_sh σ a).1 = 21 ∧ 0 ≤ i ∧ i < (ab_sh σ a).2) ∧ ab_Run X 253 125 (2, 0, 0) L (ab_I (ab_rd σ a i) :: st) σ Q := ab_r_iaload (by decide) kc_X13_laysTurns dX13_laysTurns_124
theorem rX13_laysTurns_125 : ab_Run X 253 125 (2, 0, 0) [l0, l1, ab_I z, l3] st σ Q ↔ ab_Run X 253 126 (2, 0, 0) [l0, l1, ab_I z, l3] (ab_I z :: st) σ Q := ab_r_iload_n rfl kc_X13_laysTurns dX13_laysTurns_125
theorem rX13_laysTurns_126 : ab_Run X 253 126 (2, 0, 0) L (ab_I b :: ab_I a :: st) σ Q ↔ (b ≤ a → ab_Run X 253 196 (2, 0, 0) L st σ Q) ∧ (¬ (b ≤ a) → ab_Run X 253 129 (2, 0, 0) L st σ Q) := ab_r_icmp_ge rfl kc_X13_laysTurns dX13_laysTurns_126
theorem rX13_laysTurns_129 : ab_Run X 253 129 (2, 0, 0) [l0, l1, l2, ab_I z] st σ Q ↔ ab_Run X 253 130 (2, 0, 0) [l0, l1, l2, ab_I z] (ab_I z :: st) σ Q := ab_r_iload_n rfl kc_X13_laysTurns dX13_laysTurns_129
theorem rX13_laysTurns_130 : ab_Run X 253 130 (2, 0, 0) L (ab_I a :: st) σ Q ↔ (a ≤ 0 → ab_Run X 253 196 (2, 0, 0) L st σ Q) ∧ (¬ (a ≤ 0) → ab_Run X 253 133 (2, 0, 0) L st σ Q) := ab_r_if_le rfl kc_X13_laysTurns dX13_laysTurns_130
theorem rX13_laysTurns_133 : ab_Run X 253 133 (2, 0, 0) [ab_R z, l1, l2, l3] st σ Q ↔ z ≠ 0 ∧ ab_Run X 253 134 (2, 0, 0) [ab_R z, l1, l2, l3] (ab_R z :: st) σ Q := ab_r_aload_n rfl kc_X13_laysTurns dX13_laysTurns_133
theorem rX13_laysTurns_134 : ab_Run X 253 134 (2, 0, 0) [ab_R z, l1, l2, l3] st σ Q ↔ z ≠ 0 ∧ ab_Run X 253 135 (2, 0, 0) [ab_R z, l1, l2, l3] (ab_R z :: st) σ Q := ab_r_aload_n rfl kc_X13_laysTurns dX13_laysTurns_134
theorem rX13_laysTurns_135 : ab_Run X 253 135 (2, 0, 0) L (ab_R a :: st) σ Q ↔ (ab_sh σ a).1 = 14 ∧ ab_Run X 253 138 (2, 0, 0) L (ab_R (ab_rd σ a 32) :: st) σ Q := gF_13_44 ko_X13_laysTurns kc_X13_laysTurns dX13_laysTurns_135
theorem rX13_laysTurns_138 : ab_Run X 253 138 (2, 0, 0) [l0, l1, l2, ab_I z] st σ Q ↔ ab_Run X 253 139 (2, 0, 0) [l0, l1, l2, ab_I z] (ab_I z :: st) σ Q := ab_r_iload_n rfl kc_X13_laysTurns dX13_laysTurns_138
theorem rX13_laysTurns_139 : ab_Run X 253 139 (2, 0, 0) L st σ Q ↔ ab_Run X 253 140 (2, 0, 0) L (ab_I 1 :: st) σ Q := ab_r_iconst (by decide) kc_X13_laysTurns dX13_laysTurns_139
theorem rX13_laysTurns_140 : ab_Run X 253 140 (2, 0, 0) L (ab_I b :: ab_I a :: st) σ Q ↔ ab_Run X 253 141 (2, 0, 0) L (ab_I (ab_w32 (a - b)) :: st) σ Q := ab_r_isub kc_X13_laysTurns dX13_laysTurns_140
theorem rX13_laysTurns_141 : ab_Run X 253 141 (2, 0, 0) L (ab_I i :: ab_R a :: st) σ Q ↔ ((ab_sh σ a).1 = 21 ∧ 0 ≤ i ∧ i < (ab_sh σ a).2) ∧ ab_Run X 253 142 (2, 0, 0) L (ab_I (ab_rd σ a i) :: st) σ Q := ab_r_iaload (by decide) kc_X13_laysTurns dX13_laysTurns_141
theorem rX13_laysTurns_142 : ab_Run X 253 142 (2, 0, 0) [ab_R z, l1, l2, l3] st σ Q ↔ z ≠ 0 ∧ ab_Run X 253 143 (2, 0, 0) [ab_R z, l1, l2, l3] (ab_R z :: st) σ Q := ab_r_aload_n rfl kc_X13_laysTurns dX13_laysTurns_142
theorem rX13_laysTurns_143 : ab_Run X 253 143 (2, 0, 0) [ab_R z, l1, l2, l3] st σ Q ↔ z ≠ 0 ∧ ab_Run X 253 144 (2, 0, 0) [ab_R z, l1, l2, l3] (ab_R z :: st) σ Q := ab_r_aload_n rfl kc_X13_laysTurns dX13_laysTurns_143
theorem rX13_laysTurns_144 : ab_Run X 253 144 (2, 0, 0) L (ab_R a :: st) σ Q ↔ (ab_sh σ a).1 = 14 ∧ ab_Run X 253 147 (2, 0, 0) L (ab_R (ab_rd σ a 32) :: st) σ Q := gF_13_44 ko_X13_laysTurns kc_X13_laysTurns dX13_laysTurns_144
theorem rX13_laysTurns_147 : ab_Run X 253 147 (2, 0, 0) [l0, l1, l2, ab_I z] st σ Q ↔ ab_Run X 253 148 (2, 0, 0) [l0, l1, l2, ab_I z] (ab_I z :: st) σ Q := ab_r_iload_n rfl kc_X13_laysTurns dX13_laysTurns_147
theorem rX13_laysTurns_148 : ab_Run X 253 148 (2, 0, 0) L (ab_I i :: ab_R a :: st) σ Q ↔ ((ab_sh σ a).1 = 21 ∧ 0 ≤ i ∧ i < (ab_sh σ a).2) ∧ ab_Run X 253 149 (2, 0, 0) L (ab_I (ab_rd σ a i) :: st) σ Q := ab_r_iaload (by decide) kc_X13_laysTurns dX13_laysTurns_148
theorem rX13_laysTurns_149 : ab_Run X 253 149 (2, 0, 0) L (ab_I x1 :: ab_R a :: st) σ Q ↔ ((ab_sh σ a).1 = 14 ∧ ab_cats st ≤ 8) ∧ ab_Do X 247 [ab_R a, ab_I x1] σ (fun r σ' => ab_Run X 253 152 (2, 0, 0) L (ab_psh r st) σ' Q) := ab_r_callV (w := [ab_I x1]) (as := [ab_I x1]) (b1 := (0, 0, 0)) 0 (Or.inl rfl) (by decide) ko_X13_laysTurns qM_13_514 (by decide) rfl rfl rfl rfl rfl (by decide) (Nat.le_of_ble_eq_true rfl) kc_X13_laysTurns dX13_laysTurns_149
theorem rX13_laysTurns_152 : ab_Run X 253 152 (2, 0, 0) L (ab_I x2 :: ab_I x1 :: ab_R a :: st) σ Q ↔ ((ab_sh σ a).1 = 14 ∧ ab_cats st ≤ 8) ∧ ab_Do X 249 [ab_R a, ab_I x1, ab_I x2] σ (fun r σ' => ab_Run X 253 155 (2, 0, 0) L (ab_psh r st) σ' Q) := ab_r_callV (w := [ab_I x2, ab_I x1]) (as := [ab_I x1, ab_I x2]) (b1 := (1, 0, 0)) 0 (Or.inl rfl) (by decide) ko_X13_laysTurns qM_13_526 (by decide) rfl rfl rfl rfl rfl (by decide) (Nat.le_of_ble_eq_true rfl) kc_X13_laysTurns dX13_laysTurns_152
theorem rX13_laysTurns_155 : ab_Run X 253 155 (2, 0, 0) L (ab_I a :: st) σ Q ↔ (¬ a = 0 → ab_Run X 253 183 (2, 0, 0) L st σ Q) ∧ (¬ (¬ a = 0) → ab_Run X 253 158 (2, 0, 0) L st σ Q) := ab_r_if_ne rfl kc_X13_laysTurns dX13_laysTurns_155
theorem rX13_laysTurns_158 : ab_Run X 253 158 (2, 0, 0) [ab_R z, l1, l2, l3] st σ Q ↔ z ≠ 0 ∧ ab_Run X 253 159 (2, 0, 0) [ab_R z, l1, l2, l3] (ab_R z :: st) σ Q := ab_r_aload_n rfl kc_X13_laysTurns dX13_laysTurns_158
theorem rX13_laysTurns_159 : ab_Run X 253 159 (2, 0, 0) [ab_R z, l1, l2, l3] st σ Q ↔ z ≠ 0 ∧ ab_Run X 253 160 (2, 0, 0) [ab_R z, l1, l2, l3] (ab_R z :: st) σ Q := ab_r_aload_n rfl kc_X13_laysTurns dX13_laysTurns_159
theorem rX13_laysTurns_160 : ab_Run X 253 160 (2, 0, 0) L (ab_R a :: st) σ Q ↔ (ab_sh σ a).1 = 14 ∧ ab_Run X 253 163 (2, 0, 0) L (ab_R (ab_rd σ a 32) :: st) σ Q := gF_13_44 ko_X13_laysTurns kc_X13_laysTurns dX13_laysTurns_160
theorem rX13_laysTurns_163 : ab_Run X 253 163 (2, 0, 0) [l0, l1, l2, ab_I z] st σ Q ↔ ab_Run X 253 164 (2, 0, 0) [l0, l1, l2, ab_I z] (ab_I z :: st) σ Q := ab_r_iload_n rfl kc_X13_laysTurns dX13_laysTurns_163
theorem rX13_laysTurns_164 : ab_Run X 253 164 (2, 0, 0) L st σ Q ↔ ab_Run X 253 165 (2, 0, 0) L (ab_I 1 :: st) σ Q := ab_r_iconst (by decide) kc_X13_laysTurns dX13_laysTurns_164
theorem rX13_laysTurns_165 : ab_Run X 253 165 (2, 0, 0) L (ab_I b :: ab_I a :: st) σ Q ↔ ab_Run X 253 166 (2, 0, 0) L (ab_I (ab_w32 (a - b)) :: st) σ Q := ab_r_isub kc_X13_laysTurns dX13_laysTurns_165
theorem rX13_laysTurns_166 : ab_Run X 253 166 (2, 0, 0) L (ab_I i :: ab_R a :: st) σ Q ↔ ((ab_sh σ a).1 = 21 ∧ 0 ≤ i ∧ i < (ab_sh σ a).2) ∧ ab_Run X 253 167 (2, 0, 0) L (ab_I (ab_rd σ a i) :: st) σ Q := ab_r_iaload (by decide) kc_X13_laysTurns dX13_laysTurns_166
theorem rX13_laysTurns_167 : ab_Run X 253 167 (2, 0, 0) [ab_R z, l1, l2, l3] st σ Q ↔ z ≠ 0 ∧ ab_Run X 253 168 (2, 0, 0) [ab_R z, l1, l2, l3] (ab_R z :: st) σ Q := ab_r_aload_n rfl kc_X13_laysTurns dX13_laysTurns_167
theorem rX13_laysTurns_168 : ab_Run X 253 168 (2, 0, 0) [ab_R z, l1, l2, l3] st σ Q ↔ z ≠ 0 ∧ ab_Run X 253 169 (2, 0, 0) [ab_R z, l1, l2, l3] (ab_R z :: st) σ Q := ab_r_aload_n rfl kc_X13_laysTurns dX13_laysTurns_168
theorem rX13_laysTurns_169 : ab_Run X 253 169 (2, 0, 0) L (ab_R a :: st) σ Q ↔ (ab_sh σ a).1 = 14 ∧ ab_Run X 253 172 (2, 0, 0) L (ab_R (ab_rd σ a 32) :: st) σ Q := gF_13_44 ko_X13_laysTurns kc_X13_laysTurns dX13_laysTurns_169
theorem rX13_laysTurns_172 : ab_Run X 253 172 (2, 0, 0) [l0, l1, l2, ab_I z] st σ Q ↔ ab_Run X 253 173 (2, 0, 0) [l0, l1, l2, ab_I z] (ab_I z :: st) σ Q := ab_r_iload_n rfl kc_X13_laysTurns dX13_laysTurns_172
theorem rX13_laysTurns_173 : ab_Run X 253 173 (2, 0, 0) L (ab_I i :: ab_R a :: st) σ Q ↔ ((ab_sh σ a).1 = 21 ∧ 0 ≤ i ∧ i < (ab_sh σ a).2) ∧ ab_Run X 253 174 (2, 0, 0) L (ab_I (ab_rd σ a i) :: st) σ Q := ab_r_iaload (by decide) kc_X13_laysTurns dX13_laysTurns_173
theorem rX13_laysTurns_174 : ab_Run X 253 174 (2, 0, 0) L (ab_I x1 :: ab_R a :: st) σ Q ↔ ((ab_sh σ a).1 = 14 ∧ ab_cats st ≤ 8) ∧ ab_Do X 248 [ab_R a, ab_I x1] σ (fun r σ' => ab_Run X 253 177 (2, 0, 0) L (ab_psh r st) σ' Q) := ab_r_callV (w := [ab_I x1]) (as := [ab_I x1]) (b1 := (0, 0, 0)) 0 (Or.inl rfl) (by decide) ko_X13_laysTurns qM_13_517 (by decide) rfl rfl rfl rfl rfl (by decide) (Nat.le_of_ble_eq_true rfl) kc_X13_laysTurns dX13_laysTurns_174
theorem rX13_laysTurns_177 : ab_Run X 253 177 (2, 0, 0) L (ab_I x2 :: ab_I x1 :: ab_R a :: st) σ Q ↔ ((ab_sh σ a).1 = 14 ∧ ab_cats st ≤ 8) ∧ ab_Do X 249 [ab_R a, ab_I x1, ab_I x2] σ (fun r σ' => ab_Run X 253 180 (2, 0, 0) L (ab_psh r st) σ' Q) := ab_r_callV (w := [ab_I x2, ab_I x1]) (as := [ab_I x1, ab_I x2]) (b1 := (1, 0, 0)) 0 (Or.inl rfl) (by decide) ko_X13_laysTurns qM_13_526 (by decide) rfl rfl rfl rfl rfl (by decide) (Nat.le_of_ble_eq_true rfl) kc_X13_laysTurns dX13_laysTurns_177
theorem rX13_laysTurns_180 : ab_Run X 253 180 (2, 0, 0) L (ab_I a :: st) σ Q ↔ (a = 0 → ab_Run X 253 196 (2, 0, 0) L st σ Q) ∧ (¬ (a = 0) → ab_Run X 253 183 (2, 0, 0) L st σ Q) := ab_r_if_eq rfl kc_X13_laysTurns dX13_laysTurns_180
theorem rX13_laysTurns_183 : ab_Run X 253 183 (2, 0, 0) [ab_R z, l1, l2, l3] st σ Q ↔ z ≠ 0 ∧ ab_Run X 253 184 (2, 0, 0) [ab_R z, l1, l2, l3] (ab_R z :: st) σ Q := ab_r_aload_n rfl kc_X13_laysTurns dX13_laysTurns_183
theorem rX13_laysTurns_184 : ab_Run X 253 184 (2, 0, 0) L (ab_R a :: st) σ Q ↔ (ab_sh σ a).1 = 14 ∧ ab_Run X 253 187 (2, 0, 0) L (ab_R (ab_rd σ a 32) :: st) σ Q := gF_13_44 ko_X13_laysTurns kc_X13_laysTurns dX13_laysTurns_184
theorem rX13_laysTurns_187 : ab_Run X 253 187 (2, 0, 0) [l0, l1, l2, ab_I z] st σ Q ↔ ab_Run X 253 188 (2, 0, 0) [l0, l1, l2, ab_I z] (ab_I z :: st) σ Q := ab_r_iload_n rfl kc_X13_laysTurns dX13_laysTurns_187
theorem rX13_laysTurns_188 : ab_Run X 253 188 (2, 0, 0) L (ab_I b :: ab_R a :: st) σ Q ↔ ab_Run X 253 189 (2, 0, 0) L (ab_I b :: ab_R a :: ab_I b :: ab_R a :: st) σ Q := ab_r_dup2 kc_X13_laysTurns dX13_laysTurns_188
theorem rX13_laysTurns_189 : ab_Run X 253 189 (2, 0, 0) L (ab_I i :: ab_R a :: st) σ Q ↔ ((ab_sh σ a).1 = 21 ∧ 0 ≤ i ∧ i < (ab_sh σ a).2) ∧ ab_Run X 253 190 (2, 0, 0) L (ab_I (ab_rd σ a i) :: st) σ Q := ab_r_iaload (by decide) kc_X13_laysTurns dX13_laysTurns_189
theorem rX13_laysTurns_190 : ab_Run X 253 190 (2, 0, 0) L st σ Q ↔ ab_Run X 253 191 (2, 0, 0) L (ab_I 1 :: st) σ Q := ab_r_iconst (by decide) kc_X13_laysTurns dX13_laysTurns_190
theorem rX13_laysTurns_191 : ab_Run X 253 191 (2, 0, 0) L (ab_I b :: ab_I a :: st) σ Q ↔ ab_Run X 253 192 (2, 0, 0) L (ab_I (ab_w32 (a + b)) :: st) σ Q := ab_r_iadd kc_X13_laysTurns dX13_laysTurns_191
theorem rX13_laysTurns_192 : ab_Run X 253 192 (2, 0, 0) L (ab_I v :: ab_I i :: ab_R a :: st) σ Q ↔ ((ab_sh σ a).1 = 21 ∧ 0 ≤ i ∧ i < (ab_sh σ a).2) ∧ ab_Run X 253 193 (2, 0, 0) L st (ab_wr σ a i v) Q := ab_r_iastore kc_X13_laysTurns dX13_laysTurns_192
theorem rX13_laysTurns_193 : ab_Run X 253 193 (2, 0, 0) L st σ Q ↔ ab_Run X 253 119 (2, 0, 0) L st σ Q := ab_r_goto rfl kc_X13_laysTurns dX13_laysTurns_193
theorem rX13_laysTurns_196 : ab_Run X 253 196 (2, 0, 0) [ab_R z, l1, l2, l3] st σ Q ↔ z ≠ 0 ∧ ab_Run X 253 197 (2, 0, 0) [ab_R z, l1, l2, l3] (ab_R z :: st) σ Q := ab_r_aload_n rfl kc_X13_laysTurns dX13_laysTurns_196
theorem rX13_laysTurns_197 : ab_Run X 253 197 (2, 0, 0) L (ab_R a :: st) σ Q ↔ (ab_sh σ a).1 = 14 ∧ ab_Run X 253 200 (2, 0, 0) L (ab_R (ab_rd σ a 32) :: st) σ Q := gF_13_44 ko_X13_laysTurns kc_X13_laysTurns dX13_laysTurns_197
theorem rX13_laysTurns_200 : ab_Run X 253 200 (2, 0, 0) [l0, l1, l2, ab_I z] st σ Q ↔ ab_Run X 253 201 (2, 0, 0) [l0, l1, l2, ab_I z] (ab_I z :: st) σ Q := ab_r_iload_n rfl kc_X13_laysTurns dX13_laysTurns_200
theorem rX13_laysTurns_201 : ab_Run X 253 201 (2, 0, 0) L (ab_I i :: ab_R a :: st) σ Q ↔ ((ab_sh σ a).1 = 21 ∧ 0 ≤ i ∧ i < (ab_sh σ a).2) ∧ ab_Run X 253 202 (2, 0, 0) L (ab_I (ab_rd σ a i) :: st) σ Q := ab_r_iaload (by decide) kc_X13_laysTurns dX13_laysTurns_201
theorem rX13_laysTurns_202 : ab_Run X 253 202 (2, 0, 0) [l0, l1, ab_I z, l3] st σ Q ↔ ab_Run X 253 203 (2, 0, 0) [l0, l1, ab_I z, l3] (ab_I z :: st) σ Q := ab_r_iload_n rfl kc_X13_laysTurns dX13_laysTurns_202
theorem rX13_laysTurns_203 : ab_Run X 253 203 (2, 0, 0) L (ab_I b :: ab_I a :: st) σ Q ↔ (a < b → ab_Run X 253 219 (2, 0, 0) L st σ Q) ∧ (¬ (a < b) → ab_Run X 253 206 (2, 0, 0) L st σ Q) := ab_r_icmp_lt rfl kc_X13_laysTurns dX13_laysTurns_203
theorem rX13_laysTurns_206 : ab_Run X 253 206 (2, 0, 0) [ab_R z, l1, l2, l3] st σ Q ↔ z ≠ 0 ∧ ab_Run X 253 207 (2, 0, 0) [ab_R z, l1, l2, l3] (ab_R z :: st) σ Q := ab_r_aload_n rfl kc_X13_laysTurns dX13_laysTurns_206
theorem rX13_laysTurns_207 : ab_Run X 253 207 (2, 0, 0) L (ab_R a :: st) σ Q ↔ (ab_sh σ a).1 = 14 ∧ ab_Run X 253 210 (2, 0, 0) L (ab_R (ab_rd σ a 32) :: st) σ Q := gF_13_44 ko_X13_laysTurns kc_X13_laysTurns dX13_laysTurns_207
theorem rX13_laysTurns_210 : ab_Run X 253 210 (2, 0, 0) [l0, l1, l2, ab_I z] st σ Q ↔ ab_Run X 253 211 (2, 0, 0) [l0, l1, l2, ab_I z] (ab_I z :: st) σ Q := ab_r_iload_n rfl kc_X13_laysTurns dX13_laysTurns_210
theorem rX13_laysTurns_211 : ab_Run X 253 211 (2, 0, 0) L st σ Q ↔ ab_Run X 253 212 (2, 0, 0) L (ab_I (-1) :: st) σ Q := ab_r_iconst (by decide) kc_X13_laysTurns dX13_laysTurns_211
theorem rX13_laysTurns_212 : ab_Run X 253 212 (2, 0, 0) L (ab_I v :: ab_I i :: ab_R a :: st) σ Q ↔ ((ab_sh σ a).1 = 21 ∧ 0 ≤ i ∧ i < (ab_sh σ a).2) ∧ ab_Run X 253 213 (2, 0, 0) L st (ab_wr σ a i v) Q := ab_r_iastore kc_X13_laysTurns dX13_laysTurns_212
theorem rX13_laysTurns_213 : ab_Run X 253 213 (2, 0, 0) [l0, l1, l2, ab_I z] st σ Q ↔ (!ab_isJ l2) = true ∧ ab_Run X 253 216 (2, 0, 0) [l0, l1, l2, ab_I (ab_w32 (z + (-1)))] st σ Q := ab_r_iinc rfl (by decide) kc_X13_laysTurns dX13_laysTurns_213
theorem rX13_laysTurns_216 : ab_Run X 253 216 (2, 0, 0) L st σ Q ↔ ab_Run X 253 64 (2, 0, 0) L st σ Q := ab_r_goto rfl kc_X13_laysTurns dX13_laysTurns_216
theorem rX13_laysTurns_219 : ab_Run X 253 219 (2, 0, 0) [ab_R z, l1, l2, l3] st σ Q ↔ z ≠ 0 ∧ ab_Run X 253 220 (2, 0, 0) [ab_R z, l1, l2, l3] (ab_R z :: st) σ Q := ab_r_aload_n rfl kc_X13_laysTurns dX13_laysTurns_219
theorem rX13_laysTurns_220 : ab_Run X 253 220 (2, 0, 0) [ab_R z, l1, l2, l3] st σ Q ↔ z ≠ 0 ∧ ab_Run X 253 221 (2, 0, 0) [ab_R z, l1, l2, l3] (ab_R z :: st) σ Q := ab_r_aload_n rfl kc_X13_laysTurns dX13_laysTurns_220
theorem rX13_laysTurns_221 : ab_Run X 253 221 (2, 0, 0) L (ab_R a :: st) σ Q ↔ (ab_sh σ a).1 = 14 ∧ ab_Run X 253 224 (2, 0, 0) L (ab_R (ab_rd σ a 32) :: st) σ Q := gF_13_44 ko_X13_laysTurns kc_X13_laysTurns dX13_laysTurns_221
theorem rX13_laysTurns_224 : ab_Run X 253 224 (2, 0, 0) [l0, l1, l2, ab_I z] st σ Q ↔ ab_Run X 253 225 (2, 0, 0) [l0, l1, l2, ab_I z] (ab_I z :: st) σ Q := ab_r_iload_n rfl kc_X13_laysTurns dX13_laysTurns_224
theorem rX13_laysTurns_225 : ab_Run X 253 225 (2, 0, 0) L (ab_I i :: ab_R a :: st) σ Q ↔ ((ab_sh σ a).1 = 21 ∧ 0 ≤ i ∧ i < (ab_sh σ a).2) ∧ ab_Run X 253 226 (2, 0, 0) L (ab_I (ab_rd σ a i) :: st) σ Q := ab_r_iaload (by decide) kc_X13_laysTurns dX13_laysTurns_225
theorem rX13_laysTurns_226 : ab_Run X 253 226 (2, 0, 0) L st σ Q ↔ ab_Run X 253 227 (2, 0, 0) L (ab_I 1 :: st) σ Q := ab_r_iconst (by decide) kc_X13_laysTurns dX13_laysTurns_226
theorem rX13_laysTurns_227 : ab_Run X 253 227 (2, 0, 0) L (ab_I x2 :: ab_I x1 :: ab_R a :: st) σ Q ↔ ((ab_sh σ a).1 = 14 ∧ ab_cats st ≤ 8) ∧ ab_Do X 252 [ab_R a, ab_I x1, ab_I x2] σ (fun r σ' => ab_Run X 253 230 (2, 0, 0) L (ab_psh r st) σ' Q) := ab_r_callV (w := [ab_I x2, ab_I x1]) (as := [ab_I x1, ab_I x2]) (b1 := (1, 0, 0)) 0 (Or.inl rfl) (by decide) ko_X13_laysTurns qM_13_523 (by decide) rfl rfl rfl rfl rfl (by decide) (Nat.le_of_ble_eq_true rfl) kc_X13_laysTurns dX13_laysTurns_227
theorem rX13_laysTurns_230 : ab_Run X 253 230 (2, 0, 0) [ab_R z, l1, l2, l3] st σ Q ↔ z ≠ 0 ∧ ab_Run X 253 231 (2, 0, 0) [ab_R z, l1, l2, l3] (ab_R z :: st) σ Q := ab_r_aload_n rfl kc_X13_laysTurns dX13_laysTurns_230
theorem rX13_laysTurns_231 : ab_Run X 253 231 (2, 0, 0) [l0, ab_I z, l2, l3] st σ Q ↔ ab_Run X 253 232 (2, 0, 0) [l0, ab_I z, l2, l3] (ab_I z :: st) σ Q := ab_r_iload_n rfl kc_X13_laysTurns dX13_laysTurns_231
theorem rX13_laysTurns_232 : ab_Run X 253 232 (2, 0, 0) L (ab_I x1 :: ab_R a :: st) σ Q ↔ ((ab_sh σ a).1 = 14 ∧ ab_cats st ≤ 8) ∧ ab_Do X 251 [ab_R a, ab_I x1] σ (fun r σ' => ab_Run X 253 235 (2, 0, 0) L (ab_psh r st) σ' Q) := ab_r_callV (w := [ab_I x1]) (as := [ab_I x1]) (b1 := (0, 0, 0)) 0 (Or.inl rfl) (by decide) ko_X13_laysTurns qM_13_529 (by decide) rfl rfl rfl rfl rfl (by decide) (Nat.le_of_ble_eq_true rfl) kc_X13_laysTurns dX13_laysTurns_232
theorem rX13_laysTurns_235 : ab_Run X 253 235 (2, 0, 0) L (ab_I a :: st) σ Q ↔ (a = 0 → ab_Run X 253 64 (2, 0, 0) L st σ Q) ∧ (¬ (a = 0) → ab_Run X 253 238 (2, 0, 0) L st σ Q) := ab_r_if_eq rfl kc_X13_laysTurns dX13_laysTurns_235
theorem rX13_laysTurns_238 : ab_Run X 253 238 (2, 0, 0) [l0, l1, l2, ab_I z] st σ Q ↔ (!ab_isJ l2) = true ∧ ab_Run X 253 241 (2, 0, 0) [l0, l1, l2, ab_I (ab_w32 (z + 1))] st σ Q := ab_r_iinc rfl (by decide) kc_X13_laysTurns dX13_laysTurns_238
theorem rX13_laysTurns_241 : ab_Run X 253 241 (2, 0, 0) L st σ Q ↔ ab_Run X 253 64 (2, 0, 0) L st σ Q := ab_r_goto rfl kc_X13_laysTurns dX13_laysTurns_241
theorem rX13_laysTurns_244 : ab_Run X 253 244 (2, 0, 0) L st σ Q ↔ ab_Run X 253 245 (2, 0, 0) L (ab_I 0 :: st) σ Q := ab_r_iconst (by decide) kc_X13_laysTurns dX13_laysTurns_244
theorem rX13_laysTurns_245 : ab_Run X 253 245 (2, 0, 0) L [ab_I v] σ Q ↔ (v = 0 ∨ v = 1) ∧ Q (some (ab_I v)) σ := ab_r_ireturnZ rfl kc_X13_laysTurns dX13_laysTurns_245
end
