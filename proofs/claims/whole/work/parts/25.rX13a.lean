theorem dX13_thrown_0 : decode cX13_thrown 0 = .ok (.aload_n 0, 1) := by decide +kernel
theorem dX13_thrown_1 : decode cX13_thrown 1 = .ok (.getfield 53, 3) := by decide +kernel
theorem dX13_thrown_4 : decode cX13_thrown 4 = .ok (.ireturn, 1) := by decide +kernel
theorem dX13_refused_0 : decode cX13_refused 0 = .ok (.aload_n 0, 1) := by decide +kernel
theorem dX13_refused_1 : decode cX13_refused 1 = .ok (.iload_n 1, 1) := by decide +kernel
theorem dX13_refused_2 : decode cX13_refused 2 = .ok (.putfield 56, 3) := by decide +kernel
theorem dX13_refused_5 : decode cX13_refused 5 = .ok (.aload_n 0, 1) := by decide +kernel
theorem dX13_refused_6 : decode cX13_refused 6 = .ok (.iconst (-1), 1) := by decide +kernel
theorem dX13_refused_7 : decode cX13_refused 7 = .ok (.putfield 9, 3) := by decide +kernel
theorem dX13_refused_10 : decode cX13_refused 10 = .ok (.iconst (-1), 1) := by decide +kernel
theorem dX13_refused_11 : decode cX13_refused 11 = .ok (.ireturn, 1) := by decide +kernel
theorem dX13_denied_0 : decode cX13_denied 0 = .ok (.aload_n 0, 1) := by decide +kernel
theorem dX13_denied_1 : decode cX13_denied 1 = .ok (.iload_n 1, 1) := by decide +kernel
theorem dX13_denied_2 : decode cX13_denied 2 = .ok (.invokevirtual 59, 3) := by decide +kernel
theorem dX13_denied_5 : decode cX13_denied 5 = .ok (.pop, 1) := by decide +kernel
theorem dX13_denied_6 : decode cX13_denied 6 = .ok (.iconst 0, 1) := by decide +kernel
theorem dX13_denied_7 : decode cX13_denied 7 = .ok (.ireturn, 1) := by decide +kernel
theorem dX13_good_0 : decode cX13_good 0 = .ok (.aload_n 0, 1) := by decide +kernel
theorem dX13_good_1 : decode cX13_good 1 = .ok (.iconst 0, 1) := by decide +kernel
theorem dX13_good_2 : decode cX13_good 2 = .ok (.putfield 56, 3) := by decide +kernel
theorem dX13_good_5 : decode cX13_good 5 = .ok (.aload_n 0, 1) := by decide +kernel
theorem dX13_good_6 : decode cX13_good 6 = .ok (.iconst (-1), 1) := by decide +kernel
theorem dX13_good_7 : decode cX13_good 7 = .ok (.putfield 9, 3) := by decide +kernel
theorem dX13_good_10 : decode cX13_good 10 = .ok (.iload_n 1, 1) := by decide +kernel
theorem dX13_good_11 : decode cX13_good 11 = .ok (.ireturn, 1) := by decide +kernel
theorem dX13_granted_0 : decode cX13_granted 0 = .ok (.aload_n 0, 1) := by decide +kernel
theorem dX13_granted_1 : decode cX13_granted 1 = .ok (.iconst 0, 1) := by decide +kernel
theorem dX13_granted_2 : decode cX13_granted 2 = .ok (.invokevirtual 63, 3) := by decide +kernel
theorem dX13_granted_5 : decode cX13_granted 5 = .ok (.pop, 1) := by decide +kernel
theorem dX13_granted_6 : decode cX13_granted 6 = .ok (.iconst 1, 1) := by decide +kernel
theorem dX13_granted_7 : decode cX13_granted 7 = .ok (.ireturn, 1) := by decide +kernel
theorem dX13_in_0 : decode cX13_in 0 = .ok (.iload_n 0, 1) := by decide +kernel
theorem dX13_in_1 : decode cX13_in 1 = .ok (.iload_n 1, 1) := by decide +kernel
theorem dX13_in_2 : decode cX13_in 2 = .ok (.if_icmp .lt 12, 3) := by decide +kernel
theorem dX13_in_5 : decode cX13_in 5 = .ok (.iload_n 0, 1) := by decide +kernel
theorem dX13_in_6 : decode cX13_in 6 = .ok (.iload_n 2, 1) := by decide +kernel
theorem dX13_in_7 : decode cX13_in 7 = .ok (.if_icmp .gt 7, 3) := by decide +kernel
theorem dX13_in_10 : decode cX13_in 10 = .ok (.iconst 1, 1) := by decide +kernel
theorem dX13_in_11 : decode cX13_in 11 = .ok (.goto 4, 3) := by decide +kernel
theorem dX13_in_14 : decode cX13_in 14 = .ok (.iconst 0, 1) := by decide +kernel
theorem dX13_in_15 : decode cX13_in 15 = .ok (.ireturn, 1) := by decide +kernel
theorem dX13_bit_0 : decode cX13_bit 0 = .ok (.iload_n 0, 1) := by decide +kernel
theorem dX13_bit_1 : decode cX13_bit 1 = .ok (.iload_n 1, 1) := by decide +kernel
theorem dX13_bit_2 : decode cX13_bit 2 = .ok (.ishr, 1) := by decide +kernel
theorem dX13_bit_3 : decode cX13_bit 3 = .ok (.iconst 1, 1) := by decide +kernel
theorem dX13_bit_4 : decode cX13_bit 4 = .ok (.iand, 1) := by decide +kernel
theorem dX13_bit_5 : decode cX13_bit 5 = .ok (.iconst 1, 1) := by decide +kernel
theorem dX13_bit_6 : decode cX13_bit 6 = .ok (.if_icmp .ne 7, 3) := by decide +kernel
theorem dX13_bit_9 : decode cX13_bit 9 = .ok (.iconst 1, 1) := by decide +kernel
theorem dX13_bit_10 : decode cX13_bit 10 = .ok (.goto 4, 3) := by decide +kernel
theorem dX13_bit_13 : decode cX13_bit 13 = .ok (.iconst 0, 1) := by decide +kernel
theorem dX13_bit_14 : decode cX13_bit 14 = .ok (.ireturn, 1) := by decide +kernel
theorem dX13_common_0 : decode cX13_common 0 = .ok (.lload_n 0, 1) := by decide +kernel
theorem dX13_common_1 : decode cX13_common 1 = .ok (.lstore 4, 2) := by decide +kernel
theorem dX13_common_3 : decode cX13_common 3 = .ok (.lload_n 2, 1) := by decide +kernel
theorem dX13_common_4 : decode cX13_common 4 = .ok (.lstore 6, 2) := by decide +kernel
theorem dX13_common_6 : decode cX13_common 6 = .ok (.lload 6, 2) := by decide +kernel
theorem dX13_common_8 : decode cX13_common 8 = .ok (.lconst 0, 1) := by decide +kernel
theorem dX13_common_9 : decode cX13_common 9 = .ok (.lcmp, 1) := by decide +kernel
theorem dX13_common_10 : decode cX13_common 10 = .ok (.ifCond .eq 21, 3) := by decide +kernel
theorem dX13_common_13 : decode cX13_common 13 = .ok (.lload 4, 2) := by decide +kernel
theorem dX13_common_15 : decode cX13_common 15 = .ok (.lload 6, 2) := by decide +kernel
theorem dX13_common_17 : decode cX13_common 17 = .ok (.lrem, 1) := by decide +kernel
theorem dX13_common_18 : decode cX13_common 18 = .ok (.lstore 8, 2) := by decide +kernel
theorem dX13_common_20 : decode cX13_common 20 = .ok (.lload 6, 2) := by decide +kernel
theorem dX13_common_22 : decode cX13_common 22 = .ok (.lstore 4, 2) := by decide +kernel
theorem dX13_common_24 : decode cX13_common 24 = .ok (.lload 8, 2) := by decide +kernel
theorem dX13_common_26 : decode cX13_common 26 = .ok (.lstore 6, 2) := by decide +kernel
theorem dX13_common_28 : decode cX13_common 28 = .ok (.goto (-22), 3) := by decide +kernel
theorem dX13_common_31 : decode cX13_common 31 = .ok (.lload 4, 2) := by decide +kernel
theorem dX13_common_33 : decode cX13_common 33 = .ok (.lreturn, 1) := by decide +kernel
theorem dX13_fraction_0 : decode cX13_fraction 0 = .ok (.aload_n 0, 1) := by decide +kernel
theorem dX13_fraction_1 : decode cX13_fraction 1 = .ok (.iconst 0, 1) := by decide +kernel
theorem dX13_fraction_2 : decode cX13_fraction 2 = .ok (.invokevirtual 63, 3) := by decide +kernel
theorem dX13_fraction_5 : decode cX13_fraction 5 = .ok (.pop, 1) := by decide +kernel
theorem dX13_fraction_6 : decode cX13_fraction 6 = .ok (.iload 5, 2) := by decide +kernel
theorem dX13_fraction_8 : decode cX13_fraction 8 = .ok (.ifCond .eq 7, 3) := by decide +kernel
theorem dX13_fraction_11 : decode cX13_fraction 11 = .ok (.lload_n 3, 1) := by decide +kernel
theorem dX13_fraction_12 : decode cX13_fraction 12 = .ok (.goto 4, 3) := by decide +kernel
theorem dX13_fraction_15 : decode cX13_fraction 15 = .ok (.lload_n 1, 1) := by decide +kernel
theorem dX13_fraction_16 : decode cX13_fraction 16 = .ok (.lload_n 1, 1) := by decide +kernel
theorem dX13_fraction_17 : decode cX13_fraction 17 = .ok (.lload_n 3, 1) := by decide +kernel
theorem dX13_fraction_18 : decode cX13_fraction 18 = .ok (.invokestatic 66, 3) := by decide +kernel
theorem dX13_fraction_21 : decode cX13_fraction 21 = .ok (.ldiv, 1) := by decide +kernel
theorem dX13_fraction_22 : decode cX13_fraction 22 = .ok (.lreturn, 1) := by decide +kernel
theorem dX13_byteAt_0 : decode cX13_byteAt 0 = .ok (.iload_n 1, 1) := by decide +kernel
theorem dX13_byteAt_1 : decode cX13_byteAt 1 = .ok (.aload_n 0, 1) := by decide +kernel
theorem dX13_byteAt_2 : decode cX13_byteAt 2 = .ok (.getfield 70, 3) := by decide +kernel
theorem dX13_byteAt_5 : decode cX13_byteAt 5 = .ok (.if_icmp .ge 16, 3) := by decide +kernel
theorem dX13_byteAt_8 : decode cX13_byteAt 8 = .ok (.aload_n 0, 1) := by decide +kernel
theorem dX13_byteAt_9 : decode cX13_byteAt 9 = .ok (.getfield 13, 3) := by decide +kernel
theorem dX13_byteAt_12 : decode cX13_byteAt 12 = .ok (.iload_n 1, 1) := by decide +kernel
theorem dX13_byteAt_13 : decode cX13_byteAt 13 = .ok (.baload, 1) := by decide +kernel
theorem dX13_byteAt_14 : decode cX13_byteAt 14 = .ok (.sipush 255, 3) := by decide +kernel
theorem dX13_byteAt_17 : decode cX13_byteAt 17 = .ok (.iand, 1) := by decide +kernel
theorem dX13_byteAt_18 : decode cX13_byteAt 18 = .ok (.goto 4, 3) := by decide +kernel
theorem dX13_byteAt_21 : decode cX13_byteAt 21 = .ok (.iconst (-1), 1) := by decide +kernel
theorem dX13_byteAt_22 : decode cX13_byteAt 22 = .ok (.ireturn, 1) := by decide +kernel
theorem dX13_isLetter_0 : decode cX13_isLetter 0 = .ok (.iload_n 0, 1) := by decide +kernel
theorem dX13_isLetter_1 : decode cX13_isLetter 1 = .ok (.bipush 97, 2) := by decide +kernel
theorem dX13_isLetter_3 : decode cX13_isLetter 3 = .ok (.if_icmp .lt 13, 3) := by decide +kernel
theorem dX13_isLetter_6 : decode cX13_isLetter 6 = .ok (.iload_n 0, 1) := by decide +kernel
theorem dX13_isLetter_7 : decode cX13_isLetter 7 = .ok (.bipush 122, 2) := by decide +kernel
theorem dX13_isLetter_9 : decode cX13_isLetter 9 = .ok (.if_icmp .gt 7, 3) := by decide +kernel
theorem dX13_isLetter_12 : decode cX13_isLetter 12 = .ok (.iconst 1, 1) := by decide +kernel
theorem dX13_isLetter_13 : decode cX13_isLetter 13 = .ok (.goto 4, 3) := by decide +kernel
theorem dX13_isLetter_16 : decode cX13_isLetter 16 = .ok (.iconst 0, 1) := by decide +kernel
theorem dX13_isLetter_17 : decode cX13_isLetter 17 = .ok (.ireturn, 1) := by decide +kernel
theorem dX13_isDigit_0 : decode cX13_isDigit 0 = .ok (.iload_n 0, 1) := by decide +kernel
theorem dX13_isDigit_1 : decode cX13_isDigit 1 = .ok (.bipush 48, 2) := by decide +kernel
theorem dX13_isDigit_3 : decode cX13_isDigit 3 = .ok (.if_icmp .lt 13, 3) := by decide +kernel
theorem dX13_isDigit_6 : decode cX13_isDigit 6 = .ok (.iload_n 0, 1) := by decide +kernel
theorem dX13_isDigit_7 : decode cX13_isDigit 7 = .ok (.bipush 57, 2) := by decide +kernel
theorem dX13_isDigit_9 : decode cX13_isDigit 9 = .ok (.if_icmp .gt 7, 3) := by decide +kernel
theorem dX13_isDigit_12 : decode cX13_isDigit 12 = .ok (.iconst 1, 1) := by decide +kernel
theorem dX13_isDigit_13 : decode cX13_isDigit 13 = .ok (.goto 4, 3) := by decide +kernel
theorem dX13_isDigit_16 : decode cX13_isDigit 16 = .ok (.iconst 0, 1) := by decide +kernel
theorem dX13_isDigit_17 : decode cX13_isDigit 17 = .ok (.ireturn, 1) := by decide +kernel
theorem dX13_wordOf_0 : decode cX13_wordOf 0 = .ok (.lconst 0, 1) := by decide +kernel
theorem dX13_wordOf_1 : decode cX13_wordOf 1 = .ok (.lstore_n 1, 1) := by decide +kernel
theorem dX13_wordOf_2 : decode cX13_wordOf 2 = .ok (.iconst 0, 1) := by decide +kernel
theorem dX13_wordOf_3 : decode cX13_wordOf 3 = .ok (.istore_n 3, 1) := by decide +kernel
theorem dX13_wordOf_4 : decode cX13_wordOf 4 = .ok (.iload_n 3, 1) := by decide +kernel
theorem dX13_wordOf_5 : decode cX13_wordOf 5 = .ok (.aload_n 0, 1) := by decide +kernel
theorem dX13_wordOf_6 : decode cX13_wordOf 6 = .ok (.invokevirtual 73, 3) := by decide +kernel
theorem dX13_wordOf_9 : decode cX13_wordOf 9 = .ok (.if_icmp .ge 27, 3) := by decide +kernel
theorem dX13_wordOf_12 : decode cX13_wordOf 12 = .ok (.ldc2_w 79, 3) := by decide +kernel
theorem dX13_wordOf_15 : decode cX13_wordOf 15 = .ok (.lload_n 1, 1) := by decide +kernel
theorem dX13_wordOf_16 : decode cX13_wordOf 16 = .ok (.lmul, 1) := by decide +kernel
theorem dX13_wordOf_17 : decode cX13_wordOf 17 = .ok (.aload_n 0, 1) := by decide +kernel
theorem dX13_wordOf_18 : decode cX13_wordOf 18 = .ok (.iload_n 3, 1) := by decide +kernel
theorem dX13_wordOf_19 : decode cX13_wordOf 19 = .ok (.invokevirtual 81, 3) := by decide +kernel
theorem dX13_wordOf_22 : decode cX13_wordOf 22 = .ok (.bipush 97, 2) := by decide +kernel
theorem dX13_wordOf_24 : decode cX13_wordOf 24 = .ok (.isub, 1) := by decide +kernel
theorem dX13_wordOf_25 : decode cX13_wordOf 25 = .ok (.iconst 1, 1) := by decide +kernel
theorem dX13_wordOf_26 : decode cX13_wordOf 26 = .ok (.iadd, 1) := by decide +kernel
theorem dX13_wordOf_27 : decode cX13_wordOf 27 = .ok (.i2l, 1) := by decide +kernel
theorem dX13_wordOf_28 : decode cX13_wordOf 28 = .ok (.ladd, 1) := by decide +kernel
theorem dX13_wordOf_29 : decode cX13_wordOf 29 = .ok (.lstore_n 1, 1) := by decide +kernel
theorem dX13_wordOf_30 : decode cX13_wordOf 30 = .ok (.iinc 3 1, 3) := by decide +kernel
theorem dX13_wordOf_33 : decode cX13_wordOf 33 = .ok (.goto (-29), 3) := by decide +kernel
theorem dX13_wordOf_36 : decode cX13_wordOf 36 = .ok (.lload_n 1, 1) := by decide +kernel
theorem dX13_wordOf_37 : decode cX13_wordOf 37 = .ok (.lreturn, 1) := by decide +kernel
theorem dX13_goesOn_0 : decode cX13_goesOn 0 = .ok (.aload_n 0, 1) := by decide +kernel
theorem dX13_goesOn_1 : decode cX13_goesOn 1 = .ok (.getfield 85, 3) := by decide +kernel
theorem dX13_goesOn_4 : decode cX13_goesOn 4 = .ok (.iconst 5, 1) := by decide +kernel
theorem dX13_goesOn_5 : decode cX13_goesOn 5 = .ok (.if_icmp .ne 4, 3) := by decide +kernel
theorem dX13_goesOn_8 : decode cX13_goesOn 8 = .ok (.return_, 1) := by decide +kernel
theorem dX13_goesOn_9 : decode cX13_goesOn 9 = .ok (.aload_n 0, 1) := by decide +kernel
theorem dX13_goesOn_10 : decode cX13_goesOn 10 = .ok (.aload_n 0, 1) := by decide +kernel
theorem dX13_goesOn_11 : decode cX13_goesOn 11 = .ok (.getfield 88, 3) := by decide +kernel
theorem dX13_goesOn_14 : decode cX13_goesOn 14 = .ok (.invokevirtual 91, 3) := by decide +kernel
theorem dX13_goesOn_17 : decode cX13_goesOn 17 = .ok (.bipush 32, 2) := by decide +kernel
theorem dX13_goesOn_19 : decode cX13_goesOn 19 = .ok (.if_icmp .ne 16, 3) := by decide +kernel
theorem dX13_goesOn_22 : decode cX13_goesOn 22 = .ok (.aload_n 0, 1) := by decide +kernel
theorem dX13_goesOn_23 : decode cX13_goesOn 23 = .ok (.dup, 1) := by decide +kernel
theorem dX13_goesOn_24 : decode cX13_goesOn 24 = .ok (.getfield 88, 3) := by decide +kernel
theorem dX13_goesOn_27 : decode cX13_goesOn 27 = .ok (.iconst 1, 1) := by decide +kernel
theorem dX13_goesOn_28 : decode cX13_goesOn 28 = .ok (.iadd, 1) := by decide +kernel
theorem dX13_goesOn_29 : decode cX13_goesOn 29 = .ok (.putfield 88, 3) := by decide +kernel
theorem dX13_goesOn_32 : decode cX13_goesOn 32 = .ok (.goto (-23), 3) := by decide +kernel
theorem dX13_goesOn_35 : decode cX13_goesOn 35 = .ok (.aload_n 0, 1) := by decide +kernel
theorem dX13_goesOn_36 : decode cX13_goesOn 36 = .ok (.aload_n 0, 1) := by decide +kernel
theorem dX13_goesOn_37 : decode cX13_goesOn 37 = .ok (.getfield 88, 3) := by decide +kernel
theorem dX13_goesOn_40 : decode cX13_goesOn 40 = .ok (.putfield 94, 3) := by decide +kernel
theorem dX13_goesOn_43 : decode cX13_goesOn 43 = .ok (.aload_n 0, 1) := by decide +kernel
theorem dX13_goesOn_44 : decode cX13_goesOn 44 = .ok (.iconst 0, 1) := by decide +kernel
theorem dX13_goesOn_45 : decode cX13_goesOn 45 = .ok (.putfield 85, 3) := by decide +kernel
theorem dX13_goesOn_48 : decode cX13_goesOn 48 = .ok (.aload_n 0, 1) := by decide +kernel
theorem dX13_goesOn_49 : decode cX13_goesOn 49 = .ok (.iconst 0, 1) := by decide +kernel
theorem dX13_goesOn_50 : decode cX13_goesOn 50 = .ok (.putfield 97, 3) := by decide +kernel
theorem dX13_goesOn_53 : decode cX13_goesOn 53 = .ok (.aload_n 0, 1) := by decide +kernel
theorem dX13_goesOn_54 : decode cX13_goesOn 54 = .ok (.aload_n 0, 1) := by decide +kernel
theorem dX13_goesOn_55 : decode cX13_goesOn 55 = .ok (.getfield 88, 3) := by decide +kernel
theorem dX13_goesOn_58 : decode cX13_goesOn 58 = .ok (.invokevirtual 91, 3) := by decide +kernel
theorem dX13_goesOn_61 : decode cX13_goesOn 61 = .ok (.istore_n 1, 1) := by decide +kernel
theorem dX13_goesOn_62 : decode cX13_goesOn 62 = .ok (.iconst 0, 1) := by decide +kernel
theorem dX13_goesOn_63 : decode cX13_goesOn 63 = .ok (.istore_n 2, 1) := by decide +kernel
theorem dX13_goesOn_64 : decode cX13_goesOn 64 = .ok (.iload_n 1, 1) := by decide +kernel
theorem dX13_goesOn_65 : decode cX13_goesOn 65 = .ok (.iconst (-1), 1) := by decide +kernel
theorem dX13_goesOn_66 : decode cX13_goesOn 66 = .ok (.if_icmp .ne 11, 3) := by decide +kernel
theorem dX13_goesOn_69 : decode cX13_goesOn 69 = .ok (.aload_n 0, 1) := by decide +kernel
theorem dX13_goesOn_70 : decode cX13_goesOn 70 = .ok (.iconst 1, 1) := by decide +kernel
theorem dX13_goesOn_71 : decode cX13_goesOn 71 = .ok (.putfield 85, 3) := by decide +kernel
theorem dX13_goesOn_74 : decode cX13_goesOn 74 = .ok (.goto 207, 3) := by decide +kernel
theorem dX13_goesOn_77 : decode cX13_goesOn 77 = .ok (.iload_n 1, 1) := by decide +kernel
theorem dX13_goesOn_78 : decode cX13_goesOn 78 = .ok (.invokestatic 100, 3) := by decide +kernel
theorem dX13_goesOn_81 : decode cX13_goesOn 81 = .ok (.ifCond .eq 85, 3) := by decide +kernel
theorem dX13_goesOn_84 : decode cX13_goesOn 84 = .ok (.aload_n 0, 1) := by decide +kernel
theorem dX13_goesOn_85 : decode cX13_goesOn 85 = .ok (.lconst 0, 1) := by decide +kernel
theorem dX13_goesOn_86 : decode cX13_goesOn 86 = .ok (.putfield 104, 3) := by decide +kernel
theorem dX13_goesOn_89 : decode cX13_goesOn 89 = .ok (.aload_n 0, 1) := by decide +kernel
theorem dX13_goesOn_90 : decode cX13_goesOn 90 = .ok (.aload_n 0, 1) := by decide +kernel
theorem dX13_goesOn_91 : decode cX13_goesOn 91 = .ok (.getfield 88, 3) := by decide +kernel
theorem dX13_goesOn_94 : decode cX13_goesOn 94 = .ok (.invokevirtual 91, 3) := by decide +kernel
theorem dX13_goesOn_97 : decode cX13_goesOn 97 = .ok (.invokestatic 100, 3) := by decide +kernel
theorem dX13_goesOn_100 : decode cX13_goesOn 100 = .ok (.ifCond .eq 52, 3) := by decide +kernel
theorem dX13_goesOn_103 : decode cX13_goesOn 103 = .ok (.iload_n 2, 1) := by decide +kernel
theorem dX13_goesOn_104 : decode cX13_goesOn 104 = .ok (.bipush 8, 2) := by decide +kernel
theorem dX13_goesOn_106 : decode cX13_goesOn 106 = .ok (.if_icmp .ge 30, 3) := by decide +kernel
theorem dX13_goesOn_109 : decode cX13_goesOn 109 = .ok (.aload_n 0, 1) := by decide +kernel
theorem dX13_goesOn_110 : decode cX13_goesOn 110 = .ok (.ldc2_w 79, 3) := by decide +kernel
theorem dX13_goesOn_113 : decode cX13_goesOn 113 = .ok (.aload_n 0, 1) := by decide +kernel
theorem dX13_goesOn_114 : decode cX13_goesOn 114 = .ok (.getfield 104, 3) := by decide +kernel
theorem dX13_goesOn_117 : decode cX13_goesOn 117 = .ok (.lmul, 1) := by decide +kernel
theorem dX13_goesOn_118 : decode cX13_goesOn 118 = .ok (.aload_n 0, 1) := by decide +kernel
theorem dX13_goesOn_119 : decode cX13_goesOn 119 = .ok (.aload_n 0, 1) := by decide +kernel
theorem dX13_goesOn_120 : decode cX13_goesOn 120 = .ok (.getfield 88, 3) := by decide +kernel
theorem dX13_goesOn_123 : decode cX13_goesOn 123 = .ok (.invokevirtual 91, 3) := by decide +kernel
theorem dX13_goesOn_126 : decode cX13_goesOn 126 = .ok (.bipush 97, 2) := by decide +kernel
theorem dX13_goesOn_128 : decode cX13_goesOn 128 = .ok (.isub, 1) := by decide +kernel
theorem dX13_goesOn_129 : decode cX13_goesOn 129 = .ok (.iconst 1, 1) := by decide +kernel
theorem dX13_goesOn_130 : decode cX13_goesOn 130 = .ok (.iadd, 1) := by decide +kernel
theorem dX13_goesOn_131 : decode cX13_goesOn 131 = .ok (.i2l, 1) := by decide +kernel
theorem dX13_goesOn_132 : decode cX13_goesOn 132 = .ok (.ladd, 1) := by decide +kernel
theorem dX13_goesOn_133 : decode cX13_goesOn 133 = .ok (.putfield 104, 3) := by decide +kernel
theorem dX13_goesOn_136 : decode cX13_goesOn 136 = .ok (.iinc 2 1, 3) := by decide +kernel
theorem dX13_goesOn_139 : decode cX13_goesOn 139 = .ok (.aload_n 0, 1) := by decide +kernel
theorem dX13_goesOn_140 : decode cX13_goesOn 140 = .ok (.dup, 1) := by decide +kernel
theorem dX13_goesOn_141 : decode cX13_goesOn 141 = .ok (.getfield 88, 3) := by decide +kernel
theorem dX13_goesOn_144 : decode cX13_goesOn 144 = .ok (.iconst 1, 1) := by decide +kernel
theorem dX13_goesOn_145 : decode cX13_goesOn 145 = .ok (.iadd, 1) := by decide +kernel
theorem dX13_goesOn_146 : decode cX13_goesOn 146 = .ok (.putfield 88, 3) := by decide +kernel
theorem dX13_goesOn_149 : decode cX13_goesOn 149 = .ok (.goto (-60), 3) := by decide +kernel
theorem dX13_goesOn_152 : decode cX13_goesOn 152 = .ok (.iload_n 2, 1) := by decide +kernel
theorem dX13_goesOn_153 : decode cX13_goesOn 153 = .ok (.bipush 8, 2) := by decide +kernel
theorem dX13_goesOn_155 : decode cX13_goesOn 155 = .ok (.if_icmp .gt 126, 3) := by decide +kernel
theorem dX13_goesOn_158 : decode cX13_goesOn 158 = .ok (.aload_n 0, 1) := by decide +kernel
theorem dX13_goesOn_159 : decode cX13_goesOn 159 = .ok (.iconst 2, 1) := by decide +kernel
theorem dX13_goesOn_160 : decode cX13_goesOn 160 = .ok (.putfield 85, 3) := by decide +kernel
theorem dX13_goesOn_163 : decode cX13_goesOn 163 = .ok (.goto 118, 3) := by decide +kernel
theorem dX13_goesOn_166 : decode cX13_goesOn 166 = .ok (.iload_n 1, 1) := by decide +kernel
theorem dX13_goesOn_167 : decode cX13_goesOn 167 = .ok (.invokestatic 108, 3) := by decide +kernel
theorem dX13_goesOn_170 : decode cX13_goesOn 170 = .ok (.ifCond .eq 79, 3) := by decide +kernel
theorem dX13_goesOn_173 : decode cX13_goesOn 173 = .ok (.aload_n 0, 1) := by decide +kernel
theorem dX13_goesOn_174 : decode cX13_goesOn 174 = .ok (.iconst 0, 1) := by decide +kernel
theorem dX13_goesOn_175 : decode cX13_goesOn 175 = .ok (.putfield 111, 3) := by decide +kernel
theorem dX13_goesOn_178 : decode cX13_goesOn 178 = .ok (.aload_n 0, 1) := by decide +kernel
theorem dX13_goesOn_179 : decode cX13_goesOn 179 = .ok (.aload_n 0, 1) := by decide +kernel
theorem dX13_goesOn_180 : decode cX13_goesOn 180 = .ok (.getfield 88, 3) := by decide +kernel
theorem dX13_goesOn_183 : decode cX13_goesOn 183 = .ok (.invokevirtual 91, 3) := by decide +kernel
theorem dX13_goesOn_186 : decode cX13_goesOn 186 = .ok (.invokestatic 108, 3) := by decide +kernel
theorem dX13_goesOn_189 : decode cX13_goesOn 189 = .ok (.ifCond .eq 47, 3) := by decide +kernel
theorem dX13_goesOn_192 : decode cX13_goesOn 192 = .ok (.iload_n 2, 1) := by decide +kernel
theorem dX13_goesOn_193 : decode cX13_goesOn 193 = .ok (.iconst 2, 1) := by decide +kernel
theorem dX13_goesOn_194 : decode cX13_goesOn 194 = .ok (.if_icmp .ge 26, 3) := by decide +kernel
theorem dX13_goesOn_197 : decode cX13_goesOn 197 = .ok (.aload_n 0, 1) := by decide +kernel
theorem dX13_goesOn_198 : decode cX13_goesOn 198 = .ok (.bipush 10, 2) := by decide +kernel
theorem dX13_goesOn_200 : decode cX13_goesOn 200 = .ok (.aload_n 0, 1) := by decide +kernel
theorem dX13_goesOn_201 : decode cX13_goesOn 201 = .ok (.getfield 111, 3) := by decide +kernel
theorem dX13_goesOn_204 : decode cX13_goesOn 204 = .ok (.imul, 1) := by decide +kernel
theorem dX13_goesOn_205 : decode cX13_goesOn 205 = .ok (.aload_n 0, 1) := by decide +kernel
theorem dX13_goesOn_206 : decode cX13_goesOn 206 = .ok (.aload_n 0, 1) := by decide +kernel
theorem dX13_goesOn_207 : decode cX13_goesOn 207 = .ok (.getfield 88, 3) := by decide +kernel
theorem dX13_goesOn_210 : decode cX13_goesOn 210 = .ok (.invokevirtual 91, 3) := by decide +kernel
theorem dX13_goesOn_213 : decode cX13_goesOn 213 = .ok (.iadd, 1) := by decide +kernel
theorem dX13_goesOn_214 : decode cX13_goesOn 214 = .ok (.bipush 48, 2) := by decide +kernel
theorem dX13_goesOn_216 : decode cX13_goesOn 216 = .ok (.isub, 1) := by decide +kernel
theorem dX13_goesOn_217 : decode cX13_goesOn 217 = .ok (.putfield 111, 3) := by decide +kernel
theorem dX13_goesOn_220 : decode cX13_goesOn 220 = .ok (.iinc 2 1, 3) := by decide +kernel
theorem dX13_goesOn_223 : decode cX13_goesOn 223 = .ok (.aload_n 0, 1) := by decide +kernel
theorem dX13_goesOn_224 : decode cX13_goesOn 224 = .ok (.dup, 1) := by decide +kernel
theorem dX13_goesOn_225 : decode cX13_goesOn 225 = .ok (.getfield 88, 3) := by decide +kernel
theorem dX13_goesOn_228 : decode cX13_goesOn 228 = .ok (.iconst 1, 1) := by decide +kernel
theorem dX13_goesOn_229 : decode cX13_goesOn 229 = .ok (.iadd, 1) := by decide +kernel
theorem dX13_goesOn_230 : decode cX13_goesOn 230 = .ok (.putfield 88, 3) := by decide +kernel
theorem dX13_goesOn_233 : decode cX13_goesOn 233 = .ok (.goto (-55), 3) := by decide +kernel
theorem dX13_goesOn_236 : decode cX13_goesOn 236 = .ok (.iload_n 2, 1) := by decide +kernel
theorem dX13_goesOn_237 : decode cX13_goesOn 237 = .ok (.iconst 2, 1) := by decide +kernel
theorem dX13_goesOn_238 : decode cX13_goesOn 238 = .ok (.if_icmp .gt 43, 3) := by decide +kernel
theorem dX13_goesOn_241 : decode cX13_goesOn 241 = .ok (.aload_n 0, 1) := by decide +kernel
theorem dX13_goesOn_242 : decode cX13_goesOn 242 = .ok (.iconst 3, 1) := by decide +kernel
theorem dX13_goesOn_243 : decode cX13_goesOn 243 = .ok (.putfield 85, 3) := by decide +kernel
theorem dX13_goesOn_246 : decode cX13_goesOn 246 = .ok (.goto 35, 3) := by decide +kernel
theorem dX13_goesOn_249 : decode cX13_goesOn 249 = .ok (.iload_n 1, 1) := by decide +kernel
theorem dX13_goesOn_250 : decode cX13_goesOn 250 = .ok (.bipush 59, 2) := by decide +kernel
theorem dX13_goesOn_252 : decode cX13_goesOn 252 = .ok (.if_icmp .eq 9, 3) := by decide +kernel
theorem dX13_goesOn_255 : decode cX13_goesOn 255 = .ok (.iload_n 1, 1) := by decide +kernel
theorem dX13_goesOn_256 : decode cX13_goesOn 256 = .ok (.bipush 44, 2) := by decide +kernel
theorem dX13_goesOn_258 : decode cX13_goesOn 258 = .ok (.if_icmp .ne 23, 3) := by decide +kernel
theorem dX13_goesOn_261 : decode cX13_goesOn 261 = .ok (.aload_n 0, 1) := by decide +kernel
theorem dX13_goesOn_262 : decode cX13_goesOn 262 = .ok (.iconst 4, 1) := by decide +kernel
theorem dX13_goesOn_263 : decode cX13_goesOn 263 = .ok (.putfield 85, 3) := by decide +kernel
theorem dX13_goesOn_266 : decode cX13_goesOn 266 = .ok (.aload_n 0, 1) := by decide +kernel
theorem dX13_goesOn_267 : decode cX13_goesOn 267 = .ok (.iload_n 1, 1) := by decide +kernel
theorem dX13_goesOn_268 : decode cX13_goesOn 268 = .ok (.putfield 97, 3) := by decide +kernel
theorem dX13_goesOn_271 : decode cX13_goesOn 271 = .ok (.aload_n 0, 1) := by decide +kernel
theorem dX13_goesOn_272 : decode cX13_goesOn 272 = .ok (.dup, 1) := by decide +kernel
theorem dX13_goesOn_273 : decode cX13_goesOn 273 = .ok (.getfield 88, 3) := by decide +kernel
theorem dX13_goesOn_276 : decode cX13_goesOn 276 = .ok (.iconst 1, 1) := by decide +kernel
theorem dX13_goesOn_277 : decode cX13_goesOn 277 = .ok (.iadd, 1) := by decide +kernel
theorem dX13_goesOn_278 : decode cX13_goesOn 278 = .ok (.putfield 88, 3) := by decide +kernel
theorem dX13_goesOn_281 : decode cX13_goesOn 281 = .ok (.return_, 1) := by decide +kernel
theorem dX13_flaw_0 : decode cX13_flaw 0 = .ok (.aload_n 0, 1) := by decide +kernel
theorem dX13_flaw_1 : decode cX13_flaw 1 = .ok (.getfield 85, 3) := by decide +kernel
theorem dX13_flaw_4 : decode cX13_flaw 4 = .ok (.iconst 5, 1) := by decide +kernel
theorem dX13_flaw_5 : decode cX13_flaw 5 = .ok (.if_icmp .ne 4, 3) := by decide +kernel
theorem dX13_flaw_8 : decode cX13_flaw 8 = .ok (.return_, 1) := by decide +kernel
theorem dX13_flaw_9 : decode cX13_flaw 9 = .ok (.aload_n 0, 1) := by decide +kernel
theorem dX13_flaw_10 : decode cX13_flaw 10 = .ok (.iload_n 1, 1) := by decide +kernel
theorem dX13_flaw_11 : decode cX13_flaw 11 = .ok (.putfield 114, 3) := by decide +kernel
theorem dX13_flaw_14 : decode cX13_flaw 14 = .ok (.aload_n 0, 1) := by decide +kernel
theorem dX13_flaw_15 : decode cX13_flaw 15 = .ok (.aload_n 0, 1) := by decide +kernel
theorem dX13_flaw_16 : decode cX13_flaw 16 = .ok (.getfield 94, 3) := by decide +kernel
theorem dX13_flaw_19 : decode cX13_flaw 19 = .ok (.putfield 117, 3) := by decide +kernel
theorem dX13_flaw_22 : decode cX13_flaw 22 = .ok (.aload_n 0, 1) := by decide +kernel
theorem dX13_flaw_23 : decode cX13_flaw 23 = .ok (.iconst 5, 1) := by decide +kernel
theorem dX13_flaw_24 : decode cX13_flaw 24 = .ok (.putfield 85, 3) := by decide +kernel
theorem dX13_flaw_27 : decode cX13_flaw 27 = .ok (.return_, 1) := by decide +kernel
theorem dX13_isWord_0 : decode cX13_isWord 0 = .ok (.aload_n 0, 1) := by decide +kernel
theorem dX13_isWord_1 : decode cX13_isWord 1 = .ok (.getfield 85, 3) := by decide +kernel
theorem dX13_isWord_4 : decode cX13_isWord 4 = .ok (.iconst 2, 1) := by decide +kernel
theorem dX13_isWord_5 : decode cX13_isWord 5 = .ok (.if_icmp .ne 19, 3) := by decide +kernel
theorem dX13_isWord_8 : decode cX13_isWord 8 = .ok (.aload_n 0, 1) := by decide +kernel
theorem dX13_isWord_9 : decode cX13_isWord 9 = .ok (.getfield 104, 3) := by decide +kernel
theorem dX13_isWord_12 : decode cX13_isWord 12 = .ok (.aload_n 1, 1) := by decide +kernel
theorem dX13_isWord_13 : decode cX13_isWord 13 = .ok (.invokestatic 120, 3) := by decide +kernel
theorem dX13_isWord_16 : decode cX13_isWord 16 = .ok (.lcmp, 1) := by decide +kernel
theorem dX13_isWord_17 : decode cX13_isWord 17 = .ok (.ifCond .ne 7, 3) := by decide +kernel
theorem dX13_isWord_20 : decode cX13_isWord 20 = .ok (.iconst 1, 1) := by decide +kernel
theorem dX13_isWord_21 : decode cX13_isWord 21 = .ok (.goto 4, 3) := by decide +kernel
theorem dX13_isWord_24 : decode cX13_isWord 24 = .ok (.iconst 0, 1) := by decide +kernel
theorem dX13_isWord_25 : decode cX13_isWord 25 = .ok (.ireturn, 1) := by decide +kernel
theorem dX13_isSign_0 : decode cX13_isSign 0 = .ok (.aload_n 0, 1) := by decide +kernel
theorem dX13_isSign_1 : decode cX13_isSign 1 = .ok (.getfield 85, 3) := by decide +kernel
theorem dX13_isSign_4 : decode cX13_isSign 4 = .ok (.iconst 4, 1) := by decide +kernel
theorem dX13_isSign_5 : decode cX13_isSign 5 = .ok (.if_icmp .ne 15, 3) := by decide +kernel
theorem dX13_isSign_8 : decode cX13_isSign 8 = .ok (.aload_n 0, 1) := by decide +kernel
theorem dX13_isSign_9 : decode cX13_isSign 9 = .ok (.getfield 97, 3) := by decide +kernel
theorem dX13_isSign_12 : decode cX13_isSign 12 = .ok (.iload_n 1, 1) := by decide +kernel
theorem dX13_isSign_13 : decode cX13_isSign 13 = .ok (.if_icmp .ne 7, 3) := by decide +kernel
theorem dX13_isSign_16 : decode cX13_isSign 16 = .ok (.iconst 1, 1) := by decide +kernel
theorem dX13_isSign_17 : decode cX13_isSign 17 = .ok (.goto 4, 3) := by decide +kernel
theorem dX13_isSign_20 : decode cX13_isSign 20 = .ok (.iconst 0, 1) := by decide +kernel
theorem dX13_isSign_21 : decode cX13_isSign 21 = .ok (.ireturn, 1) := by decide +kernel
theorem dX13_eatsSign_0 : decode cX13_eatsSign 0 = .ok (.aload_n 0, 1) := by decide +kernel
theorem dX13_eatsSign_1 : decode cX13_eatsSign 1 = .ok (.iload_n 1, 1) := by decide +kernel
theorem dX13_eatsSign_2 : decode cX13_eatsSign 2 = .ok (.invokevirtual 124, 3) := by decide +kernel
theorem dX13_eatsSign_5 : decode cX13_eatsSign 5 = .ok (.istore_n 2, 1) := by decide +kernel
theorem dX13_eatsSign_6 : decode cX13_eatsSign 6 = .ok (.iload_n 2, 1) := by decide +kernel
theorem dX13_eatsSign_7 : decode cX13_eatsSign 7 = .ok (.ifCond .eq 7, 3) := by decide +kernel
theorem dX13_eatsSign_10 : decode cX13_eatsSign 10 = .ok (.aload_n 0, 1) := by decide +kernel
theorem dX13_eatsSign_11 : decode cX13_eatsSign 11 = .ok (.invokevirtual 127, 3) := by decide +kernel
theorem dX13_eatsSign_14 : decode cX13_eatsSign 14 = .ok (.iload_n 2, 1) := by decide +kernel
theorem dX13_eatsSign_15 : decode cX13_eatsSign 15 = .ok (.ireturn, 1) := by decide +kernel
theorem dX13_needs_0 : decode cX13_needs 0 = .ok (.aload_n 0, 1) := by decide +kernel
theorem dX13_needs_1 : decode cX13_needs 1 = .ok (.aload_n 1, 1) := by decide +kernel
theorem dX13_needs_2 : decode cX13_needs 2 = .ok (.invokevirtual 130, 3) := by decide +kernel
theorem dX13_needs_5 : decode cX13_needs 5 = .ok (.ifCond .ne 8, 3) := by decide +kernel
theorem dX13_needs_8 : decode cX13_needs 8 = .ok (.aload_n 0, 1) := by decide +kernel
theorem dX13_needs_9 : decode cX13_needs 9 = .ok (.iconst 1, 1) := by decide +kernel
theorem dX13_needs_10 : decode cX13_needs 10 = .ok (.invokevirtual 134, 3) := by decide +kernel
theorem dX13_needs_13 : decode cX13_needs 13 = .ok (.aload_n 0, 1) := by decide +kernel
theorem dX13_needs_14 : decode cX13_needs 14 = .ok (.invokevirtual 127, 3) := by decide +kernel
theorem dX13_needs_17 : decode cX13_needs 17 = .ok (.return_, 1) := by decide +kernel
theorem dX13_bounded_0 : decode cX13_bounded 0 = .ok (.aload_n 0, 1) := by decide +kernel
theorem dX13_bounded_1 : decode cX13_bounded 1 = .ok (.getfield 85, 3) := by decide +kernel
theorem dX13_bounded_4 : decode cX13_bounded 4 = .ok (.iconst 3, 1) := by decide +kernel
theorem dX13_bounded_5 : decode cX13_bounded 5 = .ok (.if_icmp .eq 11, 3) := by decide +kernel
theorem dX13_bounded_8 : decode cX13_bounded 8 = .ok (.aload_n 0, 1) := by decide +kernel
theorem dX13_bounded_9 : decode cX13_bounded 9 = .ok (.iconst 1, 1) := by decide +kernel
theorem dX13_bounded_10 : decode cX13_bounded 10 = .ok (.invokevirtual 134, 3) := by decide +kernel
theorem dX13_bounded_13 : decode cX13_bounded 13 = .ok (.goto 20, 3) := by decide +kernel
theorem dX13_bounded_16 : decode cX13_bounded 16 = .ok (.aload_n 0, 1) := by decide +kernel
theorem dX13_bounded_17 : decode cX13_bounded 17 = .ok (.getfield 111, 3) := by decide +kernel
theorem dX13_bounded_20 : decode cX13_bounded 20 = .ok (.iload_n 1, 1) := by decide +kernel
theorem dX13_bounded_21 : decode cX13_bounded 21 = .ok (.iload_n 2, 1) := by decide +kernel
theorem dX13_bounded_22 : decode cX13_bounded 22 = .ok (.invokestatic 138, 3) := by decide +kernel
theorem dX13_bounded_25 : decode cX13_bounded 25 = .ok (.ifCond .ne 8, 3) := by decide +kernel
theorem dX13_bounded_28 : decode cX13_bounded 28 = .ok (.aload_n 0, 1) := by decide +kernel
theorem dX13_bounded_29 : decode cX13_bounded 29 = .ok (.iconst 4, 1) := by decide +kernel
theorem dX13_bounded_30 : decode cX13_bounded 30 = .ok (.invokevirtual 134, 3) := by decide +kernel
theorem dX13_bounded_33 : decode cX13_bounded 33 = .ok (.aload_n 0, 1) := by decide +kernel
theorem dX13_bounded_34 : decode cX13_bounded 34 = .ok (.getfield 85, 3) := by decide +kernel
theorem dX13_bounded_37 : decode cX13_bounded 37 = .ok (.iconst 5, 1) := by decide +kernel
theorem dX13_bounded_38 : decode cX13_bounded 38 = .ok (.if_icmp .ne 7, 3) := by decide +kernel
theorem dX13_bounded_41 : decode cX13_bounded 41 = .ok (.iload_n 1, 1) := by decide +kernel
theorem dX13_bounded_42 : decode cX13_bounded 42 = .ok (.goto 7, 3) := by decide +kernel
theorem dX13_bounded_45 : decode cX13_bounded 45 = .ok (.aload_n 0, 1) := by decide +kernel
theorem dX13_bounded_46 : decode cX13_bounded 46 = .ok (.getfield 111, 3) := by decide +kernel
theorem dX13_bounded_49 : decode cX13_bounded 49 = .ok (.ireturn, 1) := by decide +kernel
theorem dX13_readWhole_0 : decode cX13_readWhole 0 = .ok (.aload_n 0, 1) := by decide +kernel
theorem dX13_readWhole_1 : decode cX13_readWhole 1 = .ok (.iload_n 1, 1) := by decide +kernel
theorem dX13_readWhole_2 : decode cX13_readWhole 2 = .ok (.iload_n 2, 1) := by decide +kernel
theorem dX13_readWhole_3 : decode cX13_readWhole 3 = .ok (.invokevirtual 142, 3) := by decide +kernel
theorem dX13_readWhole_6 : decode cX13_readWhole 6 = .ok (.istore_n 3, 1) := by decide +kernel
theorem dX13_readWhole_7 : decode cX13_readWhole 7 = .ok (.aload_n 0, 1) := by decide +kernel
theorem dX13_readWhole_8 : decode cX13_readWhole 8 = .ok (.invokevirtual 127, 3) := by decide +kernel
theorem dX13_readWhole_11 : decode cX13_readWhole 11 = .ok (.iload_n 3, 1) := by decide +kernel
theorem dX13_readWhole_12 : decode cX13_readWhole 12 = .ok (.ireturn, 1) := by decide +kernel
theorem dX13_readPart_0 : decode cX13_readPart 0 = .ok (.aload_n 0, 1) := by decide +kernel
theorem dX13_readPart_1 : decode cX13_readPart 1 = .ok (.aload_n 1, 1) := by decide +kernel
theorem dX13_readPart_2 : decode cX13_readPart 2 = .ok (.invokevirtual 146, 3) := by decide +kernel
theorem dX13_readPart_5 : decode cX13_readPart 5 = .ok (.aload_n 0, 1) := by decide +kernel
theorem dX13_readPart_6 : decode cX13_readPart 6 = .ok (.iload_n 2, 1) := by decide +kernel
theorem dX13_readPart_7 : decode cX13_readPart 7 = .ok (.iload_n 3, 1) := by decide +kernel
theorem dX13_readPart_8 : decode cX13_readPart 8 = .ok (.invokevirtual 150, 3) := by decide +kernel
theorem dX13_readPart_11 : decode cX13_readPart 11 = .ok (.ireturn, 1) := by decide +kernel
theorem dX13_isName_0 : decode cX13_isName 0 = .ok (.aload_n 0, 1) := by decide +kernel
theorem dX13_isName_1 : decode cX13_isName 1 = .ok (.getfield 85, 3) := by decide +kernel
theorem dX13_isName_4 : decode cX13_isName 4 = .ok (.iconst 2, 1) := by decide +kernel
theorem dX13_isName_5 : decode cX13_isName 5 = .ok (.if_icmp .ne 48, 3) := by decide +kernel
theorem dX13_isName_8 : decode cX13_isName 8 = .ok (.aload_n 0, 1) := by decide +kernel
theorem dX13_isName_9 : decode cX13_isName 9 = .ok (.ldc 153, 2) := by decide +kernel
theorem dX13_isName_11 : decode cX13_isName 11 = .ok (.invokevirtual 130, 3) := by decide +kernel
theorem dX13_isName_14 : decode cX13_isName 14 = .ok (.ifCond .ne 39, 3) := by decide +kernel
theorem dX13_isName_17 : decode cX13_isName 17 = .ok (.aload_n 0, 1) := by decide +kernel
theorem dX13_isName_18 : decode cX13_isName 18 = .ok (.ldc 155, 2) := by decide +kernel
theorem dX13_isName_20 : decode cX13_isName 20 = .ok (.invokevirtual 130, 3) := by decide +kernel
theorem dX13_isName_23 : decode cX13_isName 23 = .ok (.ifCond .ne 30, 3) := by decide +kernel
theorem dX13_isName_26 : decode cX13_isName 26 = .ok (.aload_n 0, 1) := by decide +kernel
theorem dX13_isName_27 : decode cX13_isName 27 = .ok (.ldc 157, 2) := by decide +kernel
theorem dX13_isName_29 : decode cX13_isName 29 = .ok (.invokevirtual 130, 3) := by decide +kernel
theorem dX13_isName_32 : decode cX13_isName 32 = .ok (.ifCond .ne 21, 3) := by decide +kernel
theorem dX13_isName_35 : decode cX13_isName 35 = .ok (.aload_n 0, 1) := by decide +kernel
theorem dX13_isName_36 : decode cX13_isName 36 = .ok (.ldc 159, 2) := by decide +kernel
theorem dX13_isName_38 : decode cX13_isName 38 = .ok (.invokevirtual 130, 3) := by decide +kernel
theorem dX13_isName_41 : decode cX13_isName 41 = .ok (.ifCond .ne 12, 3) := by decide +kernel
theorem dX13_isName_44 : decode cX13_isName 44 = .ok (.aload_n 0, 1) := by decide +kernel
theorem dX13_isName_45 : decode cX13_isName 45 = .ok (.ldc 161, 2) := by decide +kernel
theorem dX13_isName_47 : decode cX13_isName 47 = .ok (.invokevirtual 130, 3) := by decide +kernel
theorem dX13_isName_50 : decode cX13_isName 50 = .ok (.ifCond .eq 5, 3) := by decide +kernel
theorem dX13_isName_53 : decode cX13_isName 53 = .ok (.iconst 0, 1) := by decide +kernel
theorem dX13_isName_54 : decode cX13_isName 54 = .ok (.ireturn, 1) := by decide +kernel
theorem dX13_isName_55 : decode cX13_isName 55 = .ok (.aload_n 0, 1) := by decide +kernel
theorem dX13_isName_56 : decode cX13_isName 56 = .ok (.ldc 163, 2) := by decide +kernel
theorem dX13_isName_58 : decode cX13_isName 58 = .ok (.invokevirtual 130, 3) := by decide +kernel
theorem dX13_isName_61 : decode cX13_isName 61 = .ok (.ifCond .ne 34, 3) := by decide +kernel
theorem dX13_isName_64 : decode cX13_isName 64 = .ok (.aload_n 0, 1) := by decide +kernel
theorem dX13_isName_65 : decode cX13_isName 65 = .ok (.ldc 165, 2) := by decide +kernel
theorem dX13_isName_67 : decode cX13_isName 67 = .ok (.invokevirtual 130, 3) := by decide +kernel
theorem dX13_isName_70 : decode cX13_isName 70 = .ok (.ifCond .ne 25, 3) := by decide +kernel
theorem dX13_isName_73 : decode cX13_isName 73 = .ok (.aload_n 0, 1) := by decide +kernel
theorem dX13_isName_74 : decode cX13_isName 74 = .ok (.ldc 167, 2) := by decide +kernel
theorem dX13_isName_76 : decode cX13_isName 76 = .ok (.invokevirtual 130, 3) := by decide +kernel
theorem dX13_isName_79 : decode cX13_isName 79 = .ok (.ifCond .ne 16, 3) := by decide +kernel
theorem dX13_isName_82 : decode cX13_isName 82 = .ok (.aload_n 0, 1) := by decide +kernel
theorem dX13_isName_83 : decode cX13_isName 83 = .ok (.ldc 169, 2) := by decide +kernel
theorem dX13_isName_85 : decode cX13_isName 85 = .ok (.invokevirtual 130, 3) := by decide +kernel
theorem dX13_isName_88 : decode cX13_isName 88 = .ok (.ifCond .ne 7, 3) := by decide +kernel
theorem dX13_isName_91 : decode cX13_isName 91 = .ok (.iconst 1, 1) := by decide +kernel
theorem dX13_isName_92 : decode cX13_isName 92 = .ok (.goto 4, 3) := by decide +kernel
theorem dX13_isName_95 : decode cX13_isName 95 = .ok (.iconst 0, 1) := by decide +kernel
theorem dX13_isName_96 : decode cX13_isName 96 = .ok (.ireturn, 1) := by decide +kernel
theorem dX13_begins_0 : decode cX13_begins 0 = .ok (.iload_n 1, 1) := by decide +kernel
theorem dX13_begins_1 : decode cX13_begins 1 = .ok (.iload_n 2, 1) := by decide +kernel
theorem dX13_begins_2 : decode cX13_begins 2 = .ok (.if_icmp .ne 8, 3) := by decide +kernel
theorem dX13_begins_5 : decode cX13_begins 5 = .ok (.aload_n 0, 1) := by decide +kernel
theorem dX13_begins_6 : decode cX13_begins 6 = .ok (.iconst 5, 1) := by decide +kernel
theorem dX13_begins_7 : decode cX13_begins 7 = .ok (.invokevirtual 134, 3) := by decide +kernel
theorem dX13_begins_10 : decode cX13_begins 10 = .ok (.aload_n 0, 1) := by decide +kernel
theorem dX13_begins_11 : decode cX13_begins 11 = .ok (.getfield 171, 3) := by decide +kernel
theorem dX13_begins_14 : decode cX13_begins 14 = .ok (.getfield 175, 3) := by decide +kernel
theorem dX13_begins_17 : decode cX13_begins 17 = .ok (.ifCond .ne 9, 3) := by decide +kernel
theorem dX13_begins_20 : decode cX13_begins 20 = .ok (.aload_n 0, 1) := by decide +kernel
theorem dX13_begins_21 : decode cX13_begins 21 = .ok (.bipush 6, 2) := by decide +kernel
theorem dX13_begins_23 : decode cX13_begins 23 = .ok (.invokevirtual 134, 3) := by decide +kernel
theorem dX13_begins_26 : decode cX13_begins 26 = .ok (.aload_n 0, 1) := by decide +kernel
theorem dX13_begins_27 : decode cX13_begins 27 = .ok (.invokevirtual 127, 3) := by decide +kernel
theorem dX13_begins_30 : decode cX13_begins 30 = .ok (.return_, 1) := by decide +kernel
theorem dX13_readFresh_0 : decode cX13_readFresh 0 = .ok (.aload_n 0, 1) := by decide +kernel
theorem dX13_readFresh_1 : decode cX13_readFresh 1 = .ok (.invokevirtual 181, 3) := by decide +kernel
theorem dX13_readFresh_4 : decode cX13_readFresh 4 = .ok (.ifCond .ne 8, 3) := by decide +kernel
theorem dX13_readFresh_7 : decode cX13_readFresh 7 = .ok (.aload_n 0, 1) := by decide +kernel
theorem dX13_readFresh_8 : decode cX13_readFresh 8 = .ok (.iconst 1, 1) := by decide +kernel
theorem dX13_readFresh_9 : decode cX13_readFresh 9 = .ok (.invokevirtual 134, 3) := by decide +kernel
theorem dX13_readFresh_12 : decode cX13_readFresh 12 = .ok (.aload_n 0, 1) := by decide +kernel
theorem dX13_readFresh_13 : decode cX13_readFresh 13 = .ok (.getfield 171, 3) := by decide +kernel
theorem dX13_readFresh_16 : decode cX13_readFresh 16 = .ok (.aload_n 0, 1) := by decide +kernel
theorem dX13_readFresh_17 : decode cX13_readFresh 17 = .ok (.getfield 104, 3) := by decide +kernel
theorem dX13_readFresh_20 : decode cX13_readFresh 20 = .ok (.invokevirtual 185, 3) := by decide +kernel
theorem dX13_readFresh_23 : decode cX13_readFresh 23 = .ok (.iconst (-1), 1) := by decide +kernel
theorem dX13_readFresh_24 : decode cX13_readFresh 24 = .ok (.if_icmp .eq 8, 3) := by decide +kernel
theorem dX13_readFresh_27 : decode cX13_readFresh 27 = .ok (.aload_n 0, 1) := by decide +kernel
theorem dX13_readFresh_28 : decode cX13_readFresh 28 = .ok (.iconst 3, 1) := by decide +kernel
theorem dX13_readFresh_29 : decode cX13_readFresh 29 = .ok (.invokevirtual 134, 3) := by decide +kernel
theorem dX13_readFresh_32 : decode cX13_readFresh 32 = .ok (.aload_n 0, 1) := by decide +kernel
theorem dX13_readFresh_33 : decode cX13_readFresh 33 = .ok (.getfield 104, 3) := by decide +kernel
theorem dX13_readFresh_36 : decode cX13_readFresh 36 = .ok (.lstore_n 1, 1) := by decide +kernel
theorem dX13_readFresh_37 : decode cX13_readFresh 37 = .ok (.aload_n 0, 1) := by decide +kernel
theorem dX13_readFresh_38 : decode cX13_readFresh 38 = .ok (.invokevirtual 127, 3) := by decide +kernel
theorem dX13_readFresh_41 : decode cX13_readFresh 41 = .ok (.lload_n 1, 1) := by decide +kernel
theorem dX13_readFresh_42 : decode cX13_readFresh 42 = .ok (.lreturn, 1) := by decide +kernel
theorem dX13_names_0 : decode cX13_names 0 = .ok (.aload_n 0, 1) := by decide +kernel
theorem dX13_names_1 : decode cX13_names 1 = .ok (.getfield 171, 3) := by decide +kernel
theorem dX13_names_4 : decode cX13_names 4 = .ok (.getfield 189, 3) := by decide +kernel
theorem dX13_names_7 : decode cX13_names 7 = .ok (.aload_n 0, 1) := by decide +kernel
theorem dX13_names_8 : decode cX13_names 8 = .ok (.getfield 171, 3) := by decide +kernel
theorem dX13_names_11 : decode cX13_names 11 = .ok (.getfield 192, 3) := by decide +kernel
theorem dX13_names_14 : decode cX13_names 14 = .ok (.lload_n 1, 1) := by decide +kernel
theorem dX13_names_15 : decode cX13_names 15 = .ok (.lastore, 1) := by decide +kernel
theorem dX13_names_16 : decode cX13_names 16 = .ok (.aload_n 0, 1) := by decide +kernel
theorem dX13_names_17 : decode cX13_names 17 = .ok (.getfield 171, 3) := by decide +kernel
theorem dX13_names_20 : decode cX13_names 20 = .ok (.getfield 195, 3) := by decide +kernel
theorem dX13_names_23 : decode cX13_names 23 = .ok (.aload_n 0, 1) := by decide +kernel
theorem dX13_names_24 : decode cX13_names 24 = .ok (.getfield 171, 3) := by decide +kernel
theorem dX13_names_27 : decode cX13_names 27 = .ok (.getfield 192, 3) := by decide +kernel
theorem dX13_names_30 : decode cX13_names 30 = .ok (.iload_n 3, 1) := by decide +kernel
theorem dX13_names_31 : decode cX13_names 31 = .ok (.bastore, 1) := by decide +kernel
theorem dX13_names_32 : decode cX13_names 32 = .ok (.aload_n 0, 1) := by decide +kernel
theorem dX13_names_33 : decode cX13_names 33 = .ok (.getfield 171, 3) := by decide +kernel
theorem dX13_names_36 : decode cX13_names 36 = .ok (.getfield 198, 3) := by decide +kernel
theorem dX13_names_39 : decode cX13_names 39 = .ok (.aload_n 0, 1) := by decide +kernel
theorem dX13_names_40 : decode cX13_names 40 = .ok (.getfield 171, 3) := by decide +kernel
theorem dX13_names_43 : decode cX13_names 43 = .ok (.getfield 192, 3) := by decide +kernel
theorem dX13_names_46 : decode cX13_names 46 = .ok (.iload 4, 2) := by decide +kernel
theorem dX13_names_48 : decode cX13_names 48 = .ok (.iastore, 1) := by decide +kernel
theorem dX13_names_49 : decode cX13_names 49 = .ok (.aload_n 0, 1) := by decide +kernel
theorem dX13_names_50 : decode cX13_names 50 = .ok (.getfield 171, 3) := by decide +kernel
theorem dX13_names_53 : decode cX13_names 53 = .ok (.dup, 1) := by decide +kernel
theorem dX13_names_54 : decode cX13_names 54 = .ok (.getfield 192, 3) := by decide +kernel
theorem dX13_names_57 : decode cX13_names 57 = .ok (.iconst 1, 1) := by decide +kernel
theorem dX13_names_58 : decode cX13_names 58 = .ok (.iadd, 1) := by decide +kernel
theorem dX13_names_59 : decode cX13_names 59 = .ok (.putfield 192, 3) := by decide +kernel
theorem dX13_names_62 : decode cX13_names 62 = .ok (.return_, 1) := by decide +kernel
theorem dX13_knownOne_0 : decode cX13_knownOne 0 = .ok (.aload_n 0, 1) := by decide +kernel
theorem dX13_knownOne_1 : decode cX13_knownOne 1 = .ok (.invokevirtual 181, 3) := by decide +kernel
theorem dX13_knownOne_4 : decode cX13_knownOne 4 = .ok (.ifCond .ne 8, 3) := by decide +kernel
theorem dX13_knownOne_7 : decode cX13_knownOne 7 = .ok (.aload_n 0, 1) := by decide +kernel
theorem dX13_knownOne_8 : decode cX13_knownOne 8 = .ok (.iconst 1, 1) := by decide +kernel
theorem dX13_knownOne_9 : decode cX13_knownOne 9 = .ok (.invokevirtual 134, 3) := by decide +kernel
theorem dX13_knownOne_12 : decode cX13_knownOne 12 = .ok (.aload_n 0, 1) := by decide +kernel
theorem dX13_knownOne_13 : decode cX13_knownOne 13 = .ok (.getfield 171, 3) := by decide +kernel
theorem dX13_knownOne_16 : decode cX13_knownOne 16 = .ok (.aload_n 0, 1) := by decide +kernel
theorem dX13_knownOne_17 : decode cX13_knownOne 17 = .ok (.getfield 104, 3) := by decide +kernel
theorem dX13_knownOne_20 : decode cX13_knownOne 20 = .ok (.invokevirtual 185, 3) := by decide +kernel
theorem dX13_knownOne_23 : decode cX13_knownOne 23 = .ok (.istore_n 1, 1) := by decide +kernel
theorem dX13_knownOne_24 : decode cX13_knownOne 24 = .ok (.iload_n 1, 1) := by decide +kernel
theorem dX13_knownOne_25 : decode cX13_knownOne 25 = .ok (.iconst (-1), 1) := by decide +kernel
theorem dX13_knownOne_26 : decode cX13_knownOne 26 = .ok (.if_icmp .eq 15, 3) := by decide +kernel
theorem dX13_knownOne_29 : decode cX13_knownOne 29 = .ok (.aload_n 0, 1) := by decide +kernel
theorem dX13_knownOne_30 : decode cX13_knownOne 30 = .ok (.getfield 171, 3) := by decide +kernel
theorem dX13_knownOne_33 : decode cX13_knownOne 33 = .ok (.getfield 195, 3) := by decide +kernel
theorem dX13_knownOne_36 : decode cX13_knownOne 36 = .ok (.iload_n 1, 1) := by decide +kernel
theorem dX13_knownOne_37 : decode cX13_knownOne 37 = .ok (.baload, 1) := by decide +kernel
theorem dX13_knownOne_38 : decode cX13_knownOne 38 = .ok (.ifCond .eq 8, 3) := by decide +kernel
theorem dX13_knownOne_41 : decode cX13_knownOne 41 = .ok (.aload_n 0, 1) := by decide +kernel
theorem dX13_knownOne_42 : decode cX13_knownOne 42 = .ok (.iconst 2, 1) := by decide +kernel
theorem dX13_knownOne_43 : decode cX13_knownOne 43 = .ok (.invokevirtual 134, 3) := by decide +kernel
theorem dX13_knownOne_46 : decode cX13_knownOne 46 = .ok (.aload_n 0, 1) := by decide +kernel
theorem dX13_knownOne_47 : decode cX13_knownOne 47 = .ok (.getfield 85, 3) := by decide +kernel
theorem dX13_knownOne_50 : decode cX13_knownOne 50 = .ok (.iconst 5, 1) := by decide +kernel
theorem dX13_knownOne_51 : decode cX13_knownOne 51 = .ok (.if_icmp .ne 7, 3) := by decide +kernel
theorem dX13_knownOne_54 : decode cX13_knownOne 54 = .ok (.iconst 0, 1) := by decide +kernel
theorem dX13_knownOne_55 : decode cX13_knownOne 55 = .ok (.goto 12, 3) := by decide +kernel
theorem dX13_knownOne_58 : decode cX13_knownOne 58 = .ok (.aload_n 0, 1) := by decide +kernel
theorem dX13_knownOne_59 : decode cX13_knownOne 59 = .ok (.getfield 171, 3) := by decide +kernel
theorem dX13_knownOne_62 : decode cX13_knownOne 62 = .ok (.getfield 198, 3) := by decide +kernel
theorem dX13_knownOne_65 : decode cX13_knownOne 65 = .ok (.iload_n 1, 1) := by decide +kernel
theorem dX13_knownOne_66 : decode cX13_knownOne 66 = .ok (.iaload, 1) := by decide +kernel
theorem dX13_knownOne_67 : decode cX13_knownOne 67 = .ok (.ireturn, 1) := by decide +kernel
theorem dX13_readPerson_0 : decode cX13_readPerson 0 = .ok (.aload_n 0, 1) := by decide +kernel
theorem dX13_readPerson_1 : decode cX13_readPerson 1 = .ok (.invokevirtual 201, 3) := by decide +kernel
theorem dX13_readPerson_4 : decode cX13_readPerson 4 = .ok (.istore_n 1, 1) := by decide +kernel
theorem dX13_readPerson_5 : decode cX13_readPerson 5 = .ok (.aload_n 0, 1) := by decide +kernel
theorem dX13_readPerson_6 : decode cX13_readPerson 6 = .ok (.invokevirtual 127, 3) := by decide +kernel
theorem dX13_readPerson_9 : decode cX13_readPerson 9 = .ok (.iload_n 1, 1) := by decide +kernel
theorem dX13_readPerson_10 : decode cX13_readPerson 10 = .ok (.ireturn, 1) := by decide +kernel
theorem dX13_readSide_0 : decode cX13_readSide 0 = .ok (.aload_n 0, 1) := by decide +kernel
theorem dX13_readSide_1 : decode cX13_readSide 1 = .ok (.ldc 169, 2) := by decide +kernel
theorem dX13_readSide_3 : decode cX13_readSide 3 = .ok (.invokevirtual 130, 3) := by decide +kernel
theorem dX13_readSide_6 : decode cX13_readSide 6 = .ok (.ifCond .eq 7, 3) := by decide +kernel
theorem dX13_readSide_9 : decode cX13_readSide 9 = .ok (.iconst 1, 1) := by decide +kernel
theorem dX13_readSide_10 : decode cX13_readSide 10 = .ok (.goto 4, 3) := by decide +kernel
theorem dX13_readSide_13 : decode cX13_readSide 13 = .ok (.iconst 0, 1) := by decide +kernel
theorem dX13_readSide_14 : decode cX13_readSide 14 = .ok (.istore_n 1, 1) := by decide +kernel
theorem dX13_readSide_15 : decode cX13_readSide 15 = .ok (.iload_n 1, 1) := by decide +kernel
theorem dX13_readSide_16 : decode cX13_readSide 16 = .ok (.ifCond .ne 17, 3) := by decide +kernel
theorem dX13_readSide_19 : decode cX13_readSide 19 = .ok (.aload_n 0, 1) := by decide +kernel
theorem dX13_readSide_20 : decode cX13_readSide 20 = .ok (.ldc 167, 2) := by decide +kernel
theorem dX13_readSide_22 : decode cX13_readSide 22 = .ok (.invokevirtual 130, 3) := by decide +kernel
theorem dX13_readSide_25 : decode cX13_readSide 25 = .ok (.ifCond .ne 8, 3) := by decide +kernel
theorem dX13_readSide_28 : decode cX13_readSide 28 = .ok (.aload_n 0, 1) := by decide +kernel
theorem dX13_readSide_29 : decode cX13_readSide 29 = .ok (.iconst 1, 1) := by decide +kernel
theorem dX13_readSide_30 : decode cX13_readSide 30 = .ok (.invokevirtual 134, 3) := by decide +kernel
theorem dX13_readSide_33 : decode cX13_readSide 33 = .ok (.aload_n 0, 1) := by decide +kernel
theorem dX13_readSide_34 : decode cX13_readSide 34 = .ok (.invokevirtual 127, 3) := by decide +kernel
theorem dX13_readSide_37 : decode cX13_readSide 37 = .ok (.iload_n 1, 1) := by decide +kernel
theorem dX13_readSide_38 : decode cX13_readSide 38 = .ok (.ireturn, 1) := by decide +kernel
theorem dX13_readAll_0 : decode cX13_readAll 0 = .ok (.iconst 1, 1) := by decide +kernel
theorem dX13_readAll_1 : decode cX13_readAll 1 = .ok (.istore_n 1, 1) := by decide +kernel
theorem dX13_readAll_2 : decode cX13_readAll 2 = .ok (.iload_n 1, 1) := by decide +kernel
theorem dX13_readAll_3 : decode cX13_readAll 3 = .ok (.ifCond .eq 17, 3) := by decide +kernel
theorem dX13_readAll_6 : decode cX13_readAll 6 = .ok (.aload_n 0, 1) := by decide +kernel
theorem dX13_readAll_7 : decode cX13_readAll 7 = .ok (.invokevirtual 204, 3) := by decide +kernel
theorem dX13_readAll_10 : decode cX13_readAll 10 = .ok (.aload_n 0, 1) := by decide +kernel
theorem dX13_readAll_11 : decode cX13_readAll 11 = .ok (.bipush 59, 2) := by decide +kernel
theorem dX13_readAll_13 : decode cX13_readAll 13 = .ok (.invokevirtual 207, 3) := by decide +kernel
theorem dX13_readAll_16 : decode cX13_readAll 16 = .ok (.istore_n 1, 1) := by decide +kernel
theorem dX13_readAll_17 : decode cX13_readAll 17 = .ok (.goto (-15), 3) := by decide +kernel
theorem dX13_readAll_20 : decode cX13_readAll 20 = .ok (.aload_n 0, 1) := by decide +kernel
theorem dX13_readAll_21 : decode cX13_readAll 21 = .ok (.getfield 85, 3) := by decide +kernel
theorem dX13_readAll_24 : decode cX13_readAll 24 = .ok (.iconst 1, 1) := by decide +kernel
theorem dX13_readAll_25 : decode cX13_readAll 25 = .ok (.if_icmp .eq 8, 3) := by decide +kernel
theorem dX13_readAll_28 : decode cX13_readAll 28 = .ok (.aload_n 0, 1) := by decide +kernel
theorem dX13_readAll_29 : decode cX13_readAll 29 = .ok (.iconst 1, 1) := by decide +kernel
theorem dX13_readAll_30 : decode cX13_readAll 30 = .ok (.invokevirtual 134, 3) := by decide +kernel
theorem dX13_readAll_33 : decode cX13_readAll 33 = .ok (.aload_n 0, 1) := by decide +kernel
theorem dX13_readAll_34 : decode cX13_readAll 34 = .ok (.getfield 171, 3) := by decide +kernel
theorem dX13_readAll_37 : decode cX13_readAll 37 = .ok (.getfield 210, 3) := by decide +kernel
theorem dX13_readAll_40 : decode cX13_readAll 40 = .ok (.ifCond .eq 14, 3) := by decide +kernel
theorem dX13_readAll_43 : decode cX13_readAll 43 = .ok (.aload_n 0, 1) := by decide +kernel
theorem dX13_readAll_44 : decode cX13_readAll 44 = .ok (.getfield 171, 3) := by decide +kernel
theorem dX13_readAll_47 : decode cX13_readAll 47 = .ok (.getfield 213, 3) := by decide +kernel
theorem dX13_readAll_50 : decode cX13_readAll 50 = .ok (.iconst 2, 1) := by decide +kernel
theorem dX13_readAll_51 : decode cX13_readAll 51 = .ok (.if_icmp .ge 9, 3) := by decide +kernel
theorem dX13_readAll_54 : decode cX13_readAll 54 = .ok (.aload_n 0, 1) := by decide +kernel
theorem dX13_readAll_55 : decode cX13_readAll 55 = .ok (.bipush 6, 2) := by decide +kernel
theorem dX13_readAll_57 : decode cX13_readAll 57 = .ok (.invokevirtual 134, 3) := by decide +kernel
theorem dX13_readAll_60 : decode cX13_readAll 60 = .ok (.return_, 1) := by decide +kernel
theorem dX13_readLine_0 : decode cX13_readLine 0 = .ok (.aload_n 0, 1) := by decide +kernel
theorem dX13_readLine_1 : decode cX13_readLine 1 = .ok (.ldc 153, 2) := by decide +kernel
theorem dX13_readLine_3 : decode cX13_readLine 3 = .ok (.invokevirtual 130, 3) := by decide +kernel
theorem dX13_readLine_6 : decode cX13_readLine 6 = .ok (.ifCond .eq 10, 3) := by decide +kernel
theorem dX13_readLine_9 : decode cX13_readLine 9 = .ok (.aload_n 0, 1) := by decide +kernel
theorem dX13_readLine_10 : decode cX13_readLine 10 = .ok (.invokevirtual 216, 3) := by decide +kernel
theorem dX13_readLine_13 : decode cX13_readLine 13 = .ok (.goto 104, 3) := by decide +kernel
theorem dX13_readLine_16 : decode cX13_readLine 16 = .ok (.aload_n 0, 1) := by decide +kernel
theorem dX13_readLine_17 : decode cX13_readLine 17 = .ok (.ldc 155, 2) := by decide +kernel
theorem dX13_readLine_19 : decode cX13_readLine 19 = .ok (.invokevirtual 130, 3) := by decide +kernel
theorem dX13_readLine_22 : decode cX13_readLine 22 = .ok (.ifCond .eq 10, 3) := by decide +kernel
theorem dX13_readLine_25 : decode cX13_readLine 25 = .ok (.aload_n 0, 1) := by decide +kernel
theorem dX13_readLine_26 : decode cX13_readLine 26 = .ok (.invokevirtual 219, 3) := by decide +kernel
theorem dX13_readLine_29 : decode cX13_readLine 29 = .ok (.goto 88, 3) := by decide +kernel
theorem dX13_readLine_32 : decode cX13_readLine 32 = .ok (.aload_n 0, 1) := by decide +kernel
theorem dX13_readLine_33 : decode cX13_readLine 33 = .ok (.ldc 157, 2) := by decide +kernel
theorem dX13_readLine_35 : decode cX13_readLine 35 = .ok (.invokevirtual 130, 3) := by decide +kernel
theorem dX13_readLine_38 : decode cX13_readLine 38 = .ok (.ifCond .eq 10, 3) := by decide +kernel
theorem dX13_readLine_41 : decode cX13_readLine 41 = .ok (.aload_n 0, 1) := by decide +kernel
theorem dX13_readLine_42 : decode cX13_readLine 42 = .ok (.invokevirtual 222, 3) := by decide +kernel
theorem dX13_readLine_45 : decode cX13_readLine 45 = .ok (.goto 72, 3) := by decide +kernel
theorem dX13_readLine_48 : decode cX13_readLine 48 = .ok (.aload_n 0, 1) := by decide +kernel
theorem dX13_readLine_49 : decode cX13_readLine 49 = .ok (.ldc 159, 2) := by decide +kernel
theorem dX13_readLine_51 : decode cX13_readLine 51 = .ok (.invokevirtual 130, 3) := by decide +kernel
theorem dX13_readLine_54 : decode cX13_readLine 54 = .ok (.ifCond .eq 10, 3) := by decide +kernel
theorem dX13_readLine_57 : decode cX13_readLine 57 = .ok (.aload_n 0, 1) := by decide +kernel
theorem dX13_readLine_58 : decode cX13_readLine 58 = .ok (.invokevirtual 225, 3) := by decide +kernel
theorem dX13_readLine_61 : decode cX13_readLine 61 = .ok (.goto 56, 3) := by decide +kernel
theorem dX13_readLine_64 : decode cX13_readLine 64 = .ok (.aload_n 0, 1) := by decide +kernel
theorem dX13_readLine_65 : decode cX13_readLine 65 = .ok (.ldc 161, 2) := by decide +kernel
theorem dX13_readLine_67 : decode cX13_readLine 67 = .ok (.invokevirtual 130, 3) := by decide +kernel
theorem dX13_readLine_70 : decode cX13_readLine 70 = .ok (.ifCond .eq 10, 3) := by decide +kernel
theorem dX13_readLine_73 : decode cX13_readLine 73 = .ok (.aload_n 0, 1) := by decide +kernel
theorem dX13_readLine_74 : decode cX13_readLine 74 = .ok (.invokevirtual 228, 3) := by decide +kernel
theorem dX13_readLine_77 : decode cX13_readLine 77 = .ok (.goto 40, 3) := by decide +kernel
theorem dX13_readLine_80 : decode cX13_readLine 80 = .ok (.aload_n 0, 1) := by decide +kernel
theorem dX13_readLine_81 : decode cX13_readLine 81 = .ok (.ldc 163, 2) := by decide +kernel
theorem dX13_readLine_83 : decode cX13_readLine 83 = .ok (.invokevirtual 130, 3) := by decide +kernel
theorem dX13_readLine_86 : decode cX13_readLine 86 = .ok (.ifCond .eq 10, 3) := by decide +kernel
theorem dX13_readLine_89 : decode cX13_readLine 89 = .ok (.aload_n 0, 1) := by decide +kernel
theorem dX13_readLine_90 : decode cX13_readLine 90 = .ok (.invokevirtual 231, 3) := by decide +kernel
theorem dX13_readLine_93 : decode cX13_readLine 93 = .ok (.goto 24, 3) := by decide +kernel
theorem dX13_readLine_96 : decode cX13_readLine 96 = .ok (.aload_n 0, 1) := by decide +kernel
theorem dX13_readLine_97 : decode cX13_readLine 97 = .ok (.ldc 165, 2) := by decide +kernel
theorem dX13_readLine_99 : decode cX13_readLine 99 = .ok (.invokevirtual 130, 3) := by decide +kernel
theorem dX13_readLine_102 : decode cX13_readLine 102 = .ok (.ifCond .eq 10, 3) := by decide +kernel
theorem dX13_readLine_105 : decode cX13_readLine 105 = .ok (.aload_n 0, 1) := by decide +kernel
theorem dX13_readLine_106 : decode cX13_readLine 106 = .ok (.invokevirtual 234, 3) := by decide +kernel
theorem dX13_readLine_109 : decode cX13_readLine 109 = .ok (.goto 8, 3) := by decide +kernel
theorem dX13_readLine_112 : decode cX13_readLine 112 = .ok (.aload_n 0, 1) := by decide +kernel
theorem dX13_readLine_113 : decode cX13_readLine 113 = .ok (.iconst 1, 1) := by decide +kernel
theorem dX13_readLine_114 : decode cX13_readLine 114 = .ok (.invokevirtual 134, 3) := by decide +kernel
theorem dX13_readLine_117 : decode cX13_readLine 117 = .ok (.return_, 1) := by decide +kernel
theorem dX13_readKitchen_0 : decode cX13_readKitchen 0 = .ok (.aload_n 0, 1) := by decide +kernel
theorem dX13_readKitchen_1 : decode cX13_readKitchen 1 = .ok (.getfield 171, 3) := by decide +kernel
theorem dX13_readKitchen_4 : decode cX13_readKitchen 4 = .ok (.getfield 175, 3) := by decide +kernel
theorem dX13_readKitchen_7 : decode cX13_readKitchen 7 = .ok (.ifCond .eq 8, 3) := by decide +kernel
theorem dX13_readKitchen_10 : decode cX13_readKitchen 10 = .ok (.aload_n 0, 1) := by decide +kernel
theorem dX13_readKitchen_11 : decode cX13_readKitchen 11 = .ok (.iconst 3, 1) := by decide +kernel
theorem dX13_readKitchen_12 : decode cX13_readKitchen 12 = .ok (.invokevirtual 134, 3) := by decide +kernel
theorem dX13_readKitchen_15 : decode cX13_readKitchen 15 = .ok (.aload_n 0, 1) := by decide +kernel
theorem dX13_readKitchen_16 : decode cX13_readKitchen 16 = .ok (.invokevirtual 127, 3) := by decide +kernel
theorem dX13_readKitchen_19 : decode cX13_readKitchen 19 = .ok (.aload_n 0, 1) := by decide +kernel
theorem dX13_readKitchen_20 : decode cX13_readKitchen 20 = .ok (.ldc 237, 2) := by decide +kernel
theorem dX13_readKitchen_22 : decode cX13_readKitchen 22 = .ok (.iconst 0, 1) := by decide +kernel
theorem dX13_readKitchen_23 : decode cX13_readKitchen 23 = .ok (.bipush 9, 2) := by decide +kernel
theorem dX13_readKitchen_25 : decode cX13_readKitchen 25 = .ok (.invokevirtual 239, 3) := by decide +kernel
theorem dX13_readKitchen_28 : decode cX13_readKitchen 28 = .ok (.istore_n 1, 1) := by decide +kernel
theorem dX13_readKitchen_29 : decode cX13_readKitchen 29 = .ok (.aload_n 0, 1) := by decide +kernel
theorem dX13_readKitchen_30 : decode cX13_readKitchen 30 = .ok (.ldc 243, 2) := by decide +kernel
theorem dX13_readKitchen_32 : decode cX13_readKitchen 32 = .ok (.bipush 25, 2) := by decide +kernel
theorem dX13_readKitchen_34 : decode cX13_readKitchen 34 = .ok (.bipush 60, 2) := by decide +kernel
theorem dX13_readKitchen_36 : decode cX13_readKitchen 36 = .ok (.invokevirtual 239, 3) := by decide +kernel
theorem dX13_readKitchen_39 : decode cX13_readKitchen 39 = .ok (.istore_n 2, 1) := by decide +kernel
theorem dX13_readKitchen_40 : decode cX13_readKitchen 40 = .ok (.aload_n 0, 1) := by decide +kernel
theorem dX13_readKitchen_41 : decode cX13_readKitchen 41 = .ok (.ldc 245, 2) := by decide +kernel
theorem dX13_readKitchen_43 : decode cX13_readKitchen 43 = .ok (.iconst 0, 1) := by decide +kernel
theorem dX13_readKitchen_44 : decode cX13_readKitchen 44 = .ok (.bipush 99, 2) := by decide +kernel
theorem dX13_readKitchen_46 : decode cX13_readKitchen 46 = .ok (.invokevirtual 239, 3) := by decide +kernel
theorem dX13_readKitchen_49 : decode cX13_readKitchen 49 = .ok (.istore_n 3, 1) := by decide +kernel
theorem dX13_readKitchen_50 : decode cX13_readKitchen 50 = .ok (.aload_n 0, 1) := by decide +kernel
theorem dX13_readKitchen_51 : decode cX13_readKitchen 51 = .ok (.ldc 247, 2) := by decide +kernel
theorem dX13_readKitchen_53 : decode cX13_readKitchen 53 = .ok (.iconst 0, 1) := by decide +kernel
theorem dX13_readKitchen_54 : decode cX13_readKitchen 54 = .ok (.bipush 99, 2) := by decide +kernel
theorem dX13_readKitchen_56 : decode cX13_readKitchen 56 = .ok (.invokevirtual 239, 3) := by decide +kernel
theorem dX13_readKitchen_59 : decode cX13_readKitchen 59 = .ok (.istore 4, 2) := by decide +kernel
theorem dX13_readKitchen_61 : decode cX13_readKitchen 61 = .ok (.aload_n 0, 1) := by decide +kernel
theorem dX13_readKitchen_62 : decode cX13_readKitchen 62 = .ok (.ldc 249, 2) := by decide +kernel
theorem dX13_readKitchen_64 : decode cX13_readKitchen 64 = .ok (.iconst 0, 1) := by decide +kernel
theorem dX13_readKitchen_65 : decode cX13_readKitchen 65 = .ok (.bipush 99, 2) := by decide +kernel
theorem dX13_readKitchen_67 : decode cX13_readKitchen 67 = .ok (.invokevirtual 239, 3) := by decide +kernel
theorem dX13_readKitchen_70 : decode cX13_readKitchen 70 = .ok (.istore 5, 2) := by decide +kernel
theorem dX13_readKitchen_72 : decode cX13_readKitchen 72 = .ok (.aload_n 0, 1) := by decide +kernel
theorem dX13_readKitchen_73 : decode cX13_readKitchen 73 = .ok (.getfield 85, 3) := by decide +kernel
theorem dX13_readKitchen_76 : decode cX13_readKitchen 76 = .ok (.iconst 5, 1) := by decide +kernel
theorem dX13_readKitchen_77 : decode cX13_readKitchen 77 = .ok (.if_icmp .ne 4, 3) := by decide +kernel
theorem dX13_readKitchen_80 : decode cX13_readKitchen 80 = .ok (.return_, 1) := by decide +kernel
theorem dX13_readKitchen_81 : decode cX13_readKitchen 81 = .ok (.aload_n 0, 1) := by decide +kernel
theorem dX13_readKitchen_82 : decode cX13_readKitchen 82 = .ok (.getfield 171, 3) := by decide +kernel
theorem dX13_readKitchen_85 : decode cX13_readKitchen 85 = .ok (.iconst 1, 1) := by decide +kernel
theorem dX13_readKitchen_86 : decode cX13_readKitchen 86 = .ok (.putfield 175, 3) := by decide +kernel
theorem dX13_readKitchen_89 : decode cX13_readKitchen 89 = .ok (.aload_n 0, 1) := by decide +kernel
theorem dX13_readKitchen_90 : decode cX13_readKitchen 90 = .ok (.getfield 171, 3) := by decide +kernel
theorem dX13_readKitchen_93 : decode cX13_readKitchen 93 = .ok (.iload_n 1, 1) := by decide +kernel
theorem dX13_readKitchen_94 : decode cX13_readKitchen 94 = .ok (.putfield 250, 3) := by decide +kernel
theorem dX13_readKitchen_97 : decode cX13_readKitchen 97 = .ok (.aload_n 0, 1) := by decide +kernel
theorem dX13_readKitchen_98 : decode cX13_readKitchen 98 = .ok (.getfield 171, 3) := by decide +kernel
theorem dX13_readKitchen_101 : decode cX13_readKitchen 101 = .ok (.iload_n 2, 1) := by decide +kernel
theorem dX13_readKitchen_102 : decode cX13_readKitchen 102 = .ok (.putfield 252, 3) := by decide +kernel
theorem dX13_readKitchen_105 : decode cX13_readKitchen 105 = .ok (.aload_n 0, 1) := by decide +kernel
theorem dX13_readKitchen_106 : decode cX13_readKitchen 106 = .ok (.getfield 171, 3) := by decide +kernel
theorem dX13_readKitchen_109 : decode cX13_readKitchen 109 = .ok (.iload_n 3, 1) := by decide +kernel
theorem dX13_readKitchen_110 : decode cX13_readKitchen 110 = .ok (.putfield 254, 3) := by decide +kernel
theorem dX13_readKitchen_113 : decode cX13_readKitchen 113 = .ok (.aload_n 0, 1) := by decide +kernel
theorem dX13_readKitchen_114 : decode cX13_readKitchen 114 = .ok (.getfield 171, 3) := by decide +kernel
theorem dX13_readKitchen_117 : decode cX13_readKitchen 117 = .ok (.iload 4, 2) := by decide +kernel
theorem dX13_readKitchen_119 : decode cX13_readKitchen 119 = .ok (.putfield 256, 3) := by decide +kernel
theorem dX13_readKitchen_122 : decode cX13_readKitchen 122 = .ok (.aload_n 0, 1) := by decide +kernel
theorem dX13_readKitchen_123 : decode cX13_readKitchen 123 = .ok (.getfield 171, 3) := by decide +kernel
theorem dX13_readKitchen_126 : decode cX13_readKitchen 126 = .ok (.iload 5, 2) := by decide +kernel
theorem dX13_readKitchen_128 : decode cX13_readKitchen 128 = .ok (.putfield 258, 3) := by decide +kernel
theorem dX13_readKitchen_131 : decode cX13_readKitchen 131 = .ok (.return_, 1) := by decide +kernel
theorem dX13_readArm_0 : decode cX13_readArm 0 = .ok (.aload_n 0, 1) := by decide +kernel
theorem dX13_readArm_1 : decode cX13_readArm 1 = .ok (.iload_n 1, 1) := by decide +kernel
theorem dX13_readArm_2 : decode cX13_readArm 2 = .ok (.ifCond .ne 8, 3) := by decide +kernel
theorem dX13_readArm_5 : decode cX13_readArm 5 = .ok (.ldc 167, 2) := by decide +kernel
theorem dX13_readArm_7 : decode cX13_readArm 7 = .ok (.goto 5, 3) := by decide +kernel
theorem dX13_readArm_10 : decode cX13_readArm 10 = .ok (.ldc 169, 2) := by decide +kernel
theorem dX13_readArm_12 : decode cX13_readArm 12 = .ok (.invokevirtual 146, 3) := by decide +kernel
theorem dX13_readArm_15 : decode cX13_readArm 15 = .ok (.aload_n 0, 1) := by decide +kernel
theorem dX13_readArm_16 : decode cX13_readArm 16 = .ok (.getfield 171, 3) := by decide +kernel
theorem dX13_readArm_19 : decode cX13_readArm 19 = .ok (.getfield 210, 3) := by decide +kernel
theorem dX13_readArm_22 : decode cX13_readArm 22 = .ok (.iconst 5, 1) := by decide +kernel
theorem dX13_readArm_23 : decode cX13_readArm 23 = .ok (.if_icmp .ge 13, 3) := by decide +kernel
theorem dX13_readArm_26 : decode cX13_readArm 26 = .ok (.aload_n 0, 1) := by decide +kernel
theorem dX13_readArm_27 : decode cX13_readArm 27 = .ok (.getfield 171, 3) := by decide +kernel
theorem dX13_readArm_30 : decode cX13_readArm 30 = .ok (.getfield 210, 3) := by decide +kernel
theorem dX13_readArm_33 : decode cX13_readArm 33 = .ok (.goto 4, 3) := by decide +kernel
theorem dX13_readArm_36 : decode cX13_readArm 36 = .ok (.iconst 0, 1) := by decide +kernel
theorem dX13_readArm_37 : decode cX13_readArm 37 = .ok (.istore_n 2, 1) := by decide +kernel
theorem dX13_readArm_38 : decode cX13_readArm 38 = .ok (.iconst 0, 1) := by decide +kernel
theorem dX13_readArm_39 : decode cX13_readArm 39 = .ok (.istore_n 3, 1) := by decide +kernel
theorem dX13_readArm_40 : decode cX13_readArm 40 = .ok (.iconst 1, 1) := by decide +kernel
theorem dX13_readArm_41 : decode cX13_readArm 41 = .ok (.istore 4, 2) := by decide +kernel
theorem dX13_readArm_43 : decode cX13_readArm 43 = .ok (.iload 4, 2) := by decide +kernel
theorem dX13_readArm_45 : decode cX13_readArm 45 = .ok (.ifCond .eq 70, 3) := by decide +kernel
theorem dX13_readArm_48 : decode cX13_readArm 48 = .ok (.aload_n 0, 1) := by decide +kernel
theorem dX13_readArm_49 : decode cX13_readArm 49 = .ok (.iconst 1, 1) := by decide +kernel
theorem dX13_readArm_50 : decode cX13_readArm 50 = .ok (.bipush 9, 2) := by decide +kernel
theorem dX13_readArm_52 : decode cX13_readArm 52 = .ok (.invokevirtual 142, 3) := by decide +kernel
theorem dX13_readArm_55 : decode cX13_readArm 55 = .ok (.istore 5, 2) := by decide +kernel
theorem dX13_readArm_57 : decode cX13_readArm 57 = .ok (.iload_n 3, 1) := by decide +kernel
theorem dX13_readArm_58 : decode cX13_readArm 58 = .ok (.bipush 6, 2) := by decide +kernel
theorem dX13_readArm_60 : decode cX13_readArm 60 = .ok (.if_icmp .ne 8, 3) := by decide +kernel
theorem dX13_readArm_63 : decode cX13_readArm 63 = .ok (.aload_n 0, 1) := by decide +kernel
theorem dX13_readArm_64 : decode cX13_readArm 64 = .ok (.iconst 5, 1) := by decide +kernel
theorem dX13_readArm_65 : decode cX13_readArm 65 = .ok (.invokevirtual 134, 3) := by decide +kernel
theorem dX13_readArm_68 : decode cX13_readArm 68 = .ok (.aload_n 0, 1) := by decide +kernel
theorem dX13_readArm_69 : decode cX13_readArm 69 = .ok (.invokevirtual 127, 3) := by decide +kernel
theorem dX13_readArm_72 : decode cX13_readArm 72 = .ok (.aload_n 0, 1) := by decide +kernel
theorem dX13_readArm_73 : decode cX13_readArm 73 = .ok (.getfield 85, 3) := by decide +kernel
theorem dX13_readArm_76 : decode cX13_readArm 76 = .ok (.iconst 5, 1) := by decide +kernel
theorem dX13_readArm_77 : decode cX13_readArm 77 = .ok (.if_icmp .ne 4, 3) := by decide +kernel
theorem dX13_readArm_80 : decode cX13_readArm 80 = .ok (.return_, 1) := by decide +kernel
theorem dX13_readArm_81 : decode cX13_readArm 81 = .ok (.aload_n 0, 1) := by decide +kernel
theorem dX13_readArm_82 : decode cX13_readArm 82 = .ok (.getfield 171, 3) := by decide +kernel
theorem dX13_readArm_85 : decode cX13_readArm 85 = .ok (.getfield 260, 3) := by decide +kernel
theorem dX13_readArm_88 : decode cX13_readArm 88 = .ok (.bipush 6, 2) := by decide +kernel
theorem dX13_readArm_90 : decode cX13_readArm 90 = .ok (.iconst 2, 1) := by decide +kernel
theorem dX13_readArm_91 : decode cX13_readArm 91 = .ok (.iload_n 2, 1) := by decide +kernel
theorem dX13_readArm_92 : decode cX13_readArm 92 = .ok (.imul, 1) := by decide +kernel
theorem dX13_readArm_93 : decode cX13_readArm 93 = .ok (.iload_n 1, 1) := by decide +kernel
theorem dX13_readArm_94 : decode cX13_readArm 94 = .ok (.iadd, 1) := by decide +kernel
theorem dX13_readArm_95 : decode cX13_readArm 95 = .ok (.imul, 1) := by decide +kernel
theorem dX13_readArm_96 : decode cX13_readArm 96 = .ok (.iload_n 3, 1) := by decide +kernel
theorem dX13_readArm_97 : decode cX13_readArm 97 = .ok (.iadd, 1) := by decide +kernel
theorem dX13_readArm_98 : decode cX13_readArm 98 = .ok (.iload 5, 2) := by decide +kernel
theorem dX13_readArm_100 : decode cX13_readArm 100 = .ok (.iastore, 1) := by decide +kernel
theorem dX13_readArm_101 : decode cX13_readArm 101 = .ok (.iinc 3 1, 3) := by decide +kernel
theorem dX13_readArm_104 : decode cX13_readArm 104 = .ok (.aload_n 0, 1) := by decide +kernel
theorem dX13_readArm_105 : decode cX13_readArm 105 = .ok (.bipush 44, 2) := by decide +kernel
theorem dX13_readArm_107 : decode cX13_readArm 107 = .ok (.invokevirtual 207, 3) := by decide +kernel
theorem dX13_readArm_110 : decode cX13_readArm 110 = .ok (.istore 4, 2) := by decide +kernel
theorem dX13_readArm_112 : decode cX13_readArm 112 = .ok (.goto (-69), 3) := by decide +kernel
theorem dX13_readArm_115 : decode cX13_readArm 115 = .ok (.aload_n 0, 1) := by decide +kernel
theorem dX13_readArm_116 : decode cX13_readArm 116 = .ok (.getfield 171, 3) := by decide +kernel
theorem dX13_readArm_119 : decode cX13_readArm 119 = .ok (.getfield 263, 3) := by decide +kernel
theorem dX13_readArm_122 : decode cX13_readArm 122 = .ok (.iconst 2, 1) := by decide +kernel
theorem dX13_readArm_123 : decode cX13_readArm 123 = .ok (.iload_n 2, 1) := by decide +kernel
theorem dX13_readArm_124 : decode cX13_readArm 124 = .ok (.imul, 1) := by decide +kernel
theorem dX13_readArm_125 : decode cX13_readArm 125 = .ok (.iload_n 1, 1) := by decide +kernel
theorem dX13_readArm_126 : decode cX13_readArm 126 = .ok (.iadd, 1) := by decide +kernel
theorem dX13_readArm_127 : decode cX13_readArm 127 = .ok (.iload_n 3, 1) := by decide +kernel
theorem dX13_readArm_128 : decode cX13_readArm 128 = .ok (.iastore, 1) := by decide +kernel
theorem dX13_readArm_129 : decode cX13_readArm 129 = .ok (.iload_n 3, 1) := by decide +kernel
theorem dX13_readArm_130 : decode cX13_readArm 130 = .ok (.iconst 1, 1) := by decide +kernel
theorem dX13_readArm_131 : decode cX13_readArm 131 = .ok (.if_icmp .le 4, 3) := by decide +kernel
theorem dX13_readArm_134 : decode cX13_readArm 134 = .ok (.return_, 1) := by decide +kernel
theorem dX13_readArm_135 : decode cX13_readArm 135 = .ok (.iload_n 1, 1) := by decide +kernel
theorem dX13_readArm_136 : decode cX13_readArm 136 = .ok (.ifCond .ne 12, 3) := by decide +kernel
theorem dX13_readArm_139 : decode cX13_readArm 139 = .ok (.aload_n 0, 1) := by decide +kernel
theorem dX13_readArm_140 : decode cX13_readArm 140 = .ok (.ldc 169, 2) := by decide +kernel
theorem dX13_readArm_142 : decode cX13_readArm 142 = .ok (.invokevirtual 130, 3) := by decide +kernel
theorem dX13_readArm_145 : decode cX13_readArm 145 = .ok (.goto 25, 3) := by decide +kernel
theorem dX13_readArm_148 : decode cX13_readArm 148 = .ok (.aload_n 0, 1) := by decide +kernel
theorem dX13_readArm_149 : decode cX13_readArm 149 = .ok (.bipush 59, 2) := by decide +kernel
theorem dX13_readArm_151 : decode cX13_readArm 151 = .ok (.invokevirtual 124, 3) := by decide +kernel
theorem dX13_readArm_154 : decode cX13_readArm 154 = .ok (.ifCond .ne 11, 3) := by decide +kernel
theorem dX13_readArm_157 : decode cX13_readArm 157 = .ok (.aload_n 0, 1) := by decide +kernel
theorem dX13_readArm_158 : decode cX13_readArm 158 = .ok (.getfield 85, 3) := by decide +kernel
theorem dX13_readArm_161 : decode cX13_readArm 161 = .ok (.iconst 1, 1) := by decide +kernel
theorem dX13_readArm_162 : decode cX13_readArm 162 = .ok (.if_icmp .ne 7, 3) := by decide +kernel
theorem dX13_readArm_165 : decode cX13_readArm 165 = .ok (.iconst 1, 1) := by decide +kernel
theorem dX13_readArm_166 : decode cX13_readArm 166 = .ok (.goto 4, 3) := by decide +kernel
theorem dX13_readArm_169 : decode cX13_readArm 169 = .ok (.iconst 0, 1) := by decide +kernel
theorem dX13_readArm_170 : decode cX13_readArm 170 = .ok (.istore 5, 2) := by decide +kernel
theorem dX13_readArm_172 : decode cX13_readArm 172 = .ok (.aload_n 0, 1) := by decide +kernel
theorem dX13_readArm_173 : decode cX13_readArm 173 = .ok (.iload 5, 2) := by decide +kernel
theorem dX13_readArm_175 : decode cX13_readArm 175 = .ok (.ifCond .eq 8, 3) := by decide +kernel
theorem dX13_readArm_178 : decode cX13_readArm 178 = .ok (.bipush 6, 2) := by decide +kernel
theorem dX13_readArm_180 : decode cX13_readArm 180 = .ok (.goto 4, 3) := by decide +kernel
theorem dX13_readArm_183 : decode cX13_readArm 183 = .ok (.iconst 1, 1) := by decide +kernel
theorem dX13_readArm_184 : decode cX13_readArm 184 = .ok (.invokevirtual 134, 3) := by decide +kernel
theorem dX13_readArm_187 : decode cX13_readArm 187 = .ok (.return_, 1) := by decide +kernel
theorem dX13_readBone_0 : decode cX13_readBone 0 = .ok (.aload_n 0, 1) := by decide +kernel
theorem dX13_readBone_1 : decode cX13_readBone 1 = .ok (.aload_n 0, 1) := by decide +kernel
theorem dX13_readBone_2 : decode cX13_readBone 2 = .ok (.getfield 171, 3) := by decide +kernel
theorem dX13_readBone_5 : decode cX13_readBone 5 = .ok (.getfield 210, 3) := by decide +kernel
theorem dX13_readBone_8 : decode cX13_readBone 8 = .ok (.iconst 5, 1) := by decide +kernel
theorem dX13_readBone_9 : decode cX13_readBone 9 = .ok (.invokevirtual 266, 3) := by decide +kernel
theorem dX13_readBone_12 : decode cX13_readBone 12 = .ok (.aload_n 0, 1) := by decide +kernel
theorem dX13_readBone_13 : decode cX13_readBone 13 = .ok (.invokevirtual 270, 3) := by decide +kernel
theorem dX13_readBone_16 : decode cX13_readBone 16 = .ok (.lstore_n 1, 1) := by decide +kernel
theorem dX13_readBone_17 : decode cX13_readBone 17 = .ok (.aload_n 0, 1) := by decide +kernel
theorem dX13_readBone_18 : decode cX13_readBone 18 = .ok (.ldc_w 274, 3) := by decide +kernel
theorem dX13_readBone_21 : decode cX13_readBone 21 = .ok (.invokevirtual 130, 3) := by decide +kernel
theorem dX13_readBone_24 : decode cX13_readBone 24 = .ok (.ifCond .eq 7, 3) := by decide +kernel
theorem dX13_readBone_27 : decode cX13_readBone 27 = .ok (.iconst 0, 1) := by decide +kernel
theorem dX13_readBone_28 : decode cX13_readBone 28 = .ok (.goto 32, 3) := by decide +kernel
theorem dX13_readBone_31 : decode cX13_readBone 31 = .ok (.aload_n 0, 1) := by decide +kernel
theorem dX13_readBone_32 : decode cX13_readBone 32 = .ok (.ldc_w 276, 3) := by decide +kernel
theorem dX13_readBone_35 : decode cX13_readBone 35 = .ok (.invokevirtual 130, 3) := by decide +kernel
theorem dX13_readBone_38 : decode cX13_readBone 38 = .ok (.ifCond .eq 7, 3) := by decide +kernel
theorem dX13_readBone_41 : decode cX13_readBone 41 = .ok (.iconst 1, 1) := by decide +kernel
theorem dX13_readBone_42 : decode cX13_readBone 42 = .ok (.goto 18, 3) := by decide +kernel
theorem dX13_readBone_45 : decode cX13_readBone 45 = .ok (.aload_n 0, 1) := by decide +kernel
theorem dX13_readBone_46 : decode cX13_readBone 46 = .ok (.ldc_w 278, 3) := by decide +kernel
theorem dX13_readBone_49 : decode cX13_readBone 49 = .ok (.invokevirtual 130, 3) := by decide +kernel
theorem dX13_readBone_52 : decode cX13_readBone 52 = .ok (.ifCond .eq 7, 3) := by decide +kernel
theorem dX13_readBone_55 : decode cX13_readBone 55 = .ok (.iconst 2, 1) := by decide +kernel
theorem dX13_readBone_56 : decode cX13_readBone 56 = .ok (.goto 4, 3) := by decide +kernel
theorem dX13_readBone_59 : decode cX13_readBone 59 = .ok (.iconst (-1), 1) := by decide +kernel
theorem dX13_readBone_60 : decode cX13_readBone 60 = .ok (.istore_n 3, 1) := by decide +kernel
theorem dX13_readBone_61 : decode cX13_readBone 61 = .ok (.iload_n 3, 1) := by decide +kernel
theorem dX13_readBone_62 : decode cX13_readBone 62 = .ok (.iconst (-1), 1) := by decide +kernel
theorem dX13_readBone_63 : decode cX13_readBone 63 = .ok (.if_icmp .ne 8, 3) := by decide +kernel
theorem dX13_readBone_66 : decode cX13_readBone 66 = .ok (.aload_n 0, 1) := by decide +kernel
theorem dX13_readBone_67 : decode cX13_readBone 67 = .ok (.iconst 1, 1) := by decide +kernel
theorem dX13_readBone_68 : decode cX13_readBone 68 = .ok (.invokevirtual 134, 3) := by decide +kernel
theorem dX13_readBone_71 : decode cX13_readBone 71 = .ok (.aload_n 0, 1) := by decide +kernel
theorem dX13_readBone_72 : decode cX13_readBone 72 = .ok (.invokevirtual 127, 3) := by decide +kernel
theorem dX13_readBone_75 : decode cX13_readBone 75 = .ok (.aload_n 0, 1) := by decide +kernel
theorem dX13_readBone_76 : decode cX13_readBone 76 = .ok (.ldc_w 280, 3) := by decide +kernel
theorem dX13_readBone_79 : decode cX13_readBone 79 = .ok (.iconst 0, 1) := by decide +kernel
theorem dX13_readBone_80 : decode cX13_readBone 80 = .ok (.bipush 24, 2) := by decide +kernel
theorem dX13_readBone_82 : decode cX13_readBone 82 = .ok (.invokevirtual 239, 3) := by decide +kernel
theorem dX13_readBone_85 : decode cX13_readBone 85 = .ok (.istore 4, 2) := by decide +kernel
theorem dX13_readBone_87 : decode cX13_readBone 87 = .ok (.aload_n 0, 1) := by decide +kernel
theorem dX13_readBone_88 : decode cX13_readBone 88 = .ok (.iconst 0, 1) := by decide +kernel
theorem dX13_readBone_89 : decode cX13_readBone 89 = .ok (.invokevirtual 282, 3) := by decide +kernel
theorem dX13_readBone_92 : decode cX13_readBone 92 = .ok (.aload_n 0, 1) := by decide +kernel
theorem dX13_readBone_93 : decode cX13_readBone 93 = .ok (.iconst 1, 1) := by decide +kernel
theorem dX13_readBone_94 : decode cX13_readBone 94 = .ok (.invokevirtual 282, 3) := by decide +kernel
theorem dX13_readBone_97 : decode cX13_readBone 97 = .ok (.aload_n 0, 1) := by decide +kernel
theorem dX13_readBone_98 : decode cX13_readBone 98 = .ok (.getfield 85, 3) := by decide +kernel
theorem dX13_readBone_101 : decode cX13_readBone 101 = .ok (.iconst 5, 1) := by decide +kernel
theorem dX13_readBone_102 : decode cX13_readBone 102 = .ok (.if_icmp .ne 4, 3) := by decide +kernel
theorem dX13_readBone_105 : decode cX13_readBone 105 = .ok (.return_, 1) := by decide +kernel
theorem dX13_readBone_106 : decode cX13_readBone 106 = .ok (.aload_n 0, 1) := by decide +kernel
theorem dX13_readBone_107 : decode cX13_readBone 107 = .ok (.lload_n 1, 1) := by decide +kernel
theorem dX13_readBone_108 : decode cX13_readBone 108 = .ok (.iconst 1, 1) := by decide +kernel
theorem dX13_readBone_109 : decode cX13_readBone 109 = .ok (.aload_n 0, 1) := by decide +kernel
theorem dX13_readBone_110 : decode cX13_readBone 110 = .ok (.getfield 171, 3) := by decide +kernel
theorem dX13_readBone_113 : decode cX13_readBone 113 = .ok (.getfield 210, 3) := by decide +kernel
theorem dX13_readBone_116 : decode cX13_readBone 116 = .ok (.invokevirtual 285, 3) := by decide +kernel
theorem dX13_readBone_119 : decode cX13_readBone 119 = .ok (.aload_n 0, 1) := by decide +kernel
theorem dX13_readBone_120 : decode cX13_readBone 120 = .ok (.getfield 171, 3) := by decide +kernel
theorem dX13_readBone_123 : decode cX13_readBone 123 = .ok (.getfield 288, 3) := by decide +kernel
theorem dX13_readBone_126 : decode cX13_readBone 126 = .ok (.aload_n 0, 1) := by decide +kernel
theorem dX13_readBone_127 : decode cX13_readBone 127 = .ok (.getfield 171, 3) := by decide +kernel
theorem dX13_readBone_130 : decode cX13_readBone 130 = .ok (.getfield 210, 3) := by decide +kernel
theorem dX13_readBone_133 : decode cX13_readBone 133 = .ok (.iload_n 3, 1) := by decide +kernel
theorem dX13_readBone_134 : decode cX13_readBone 134 = .ok (.iastore, 1) := by decide +kernel
theorem dX13_readBone_135 : decode cX13_readBone 135 = .ok (.aload_n 0, 1) := by decide +kernel
theorem dX13_readBone_136 : decode cX13_readBone 136 = .ok (.getfield 171, 3) := by decide +kernel
theorem dX13_readBone_139 : decode cX13_readBone 139 = .ok (.getfield 291, 3) := by decide +kernel
theorem dX13_readBone_142 : decode cX13_readBone 142 = .ok (.aload_n 0, 1) := by decide +kernel
theorem dX13_readBone_143 : decode cX13_readBone 143 = .ok (.getfield 171, 3) := by decide +kernel
theorem dX13_readBone_146 : decode cX13_readBone 146 = .ok (.getfield 210, 3) := by decide +kernel
theorem dX13_readBone_149 : decode cX13_readBone 149 = .ok (.iload 4, 2) := by decide +kernel
theorem dX13_readBone_151 : decode cX13_readBone 151 = .ok (.iastore, 1) := by decide +kernel
theorem dX13_readBone_152 : decode cX13_readBone 152 = .ok (.aload_n 0, 1) := by decide +kernel
theorem dX13_readBone_153 : decode cX13_readBone 153 = .ok (.getfield 171, 3) := by decide +kernel
theorem dX13_readBone_156 : decode cX13_readBone 156 = .ok (.dup, 1) := by decide +kernel
theorem dX13_readBone_157 : decode cX13_readBone 157 = .ok (.getfield 210, 3) := by decide +kernel
theorem dX13_readBone_160 : decode cX13_readBone 160 = .ok (.iconst 1, 1) := by decide +kernel
theorem dX13_readBone_161 : decode cX13_readBone 161 = .ok (.iadd, 1) := by decide +kernel
theorem dX13_readBone_162 : decode cX13_readBone 162 = .ok (.putfield 210, 3) := by decide +kernel
theorem dX13_readBone_165 : decode cX13_readBone 165 = .ok (.return_, 1) := by decide +kernel
theorem dX13_readPersonLine_0 : decode cX13_readPersonLine 0 = .ok (.aload_n 0, 1) := by decide +kernel
theorem dX13_readPersonLine_1 : decode cX13_readPersonLine 1 = .ok (.aload_n 0, 1) := by decide +kernel
theorem dX13_readPersonLine_2 : decode cX13_readPersonLine 2 = .ok (.getfield 171, 3) := by decide +kernel
theorem dX13_readPersonLine_5 : decode cX13_readPersonLine 5 = .ok (.getfield 213, 3) := by decide +kernel
theorem dX13_readPersonLine_8 : decode cX13_readPersonLine 8 = .ok (.bipush 6, 2) := by decide +kernel
theorem dX13_readPersonLine_10 : decode cX13_readPersonLine 10 = .ok (.invokevirtual 266, 3) := by decide +kernel
theorem dX13_readPersonLine_13 : decode cX13_readPersonLine 13 = .ok (.aload_n 0, 1) := by decide +kernel
theorem dX13_readPersonLine_14 : decode cX13_readPersonLine 14 = .ok (.invokevirtual 270, 3) := by decide +kernel
theorem dX13_readPersonLine_17 : decode cX13_readPersonLine 17 = .ok (.lstore_n 1, 1) := by decide +kernel
theorem dX13_readPersonLine_18 : decode cX13_readPersonLine 18 = .ok (.aload_n 0, 1) := by decide +kernel
theorem dX13_readPersonLine_19 : decode cX13_readPersonLine 19 = .ok (.ldc_w 293, 3) := by decide +kernel
theorem dX13_readPersonLine_22 : decode cX13_readPersonLine 22 = .ok (.invokevirtual 130, 3) := by decide +kernel
theorem dX13_readPersonLine_25 : decode cX13_readPersonLine 25 = .ok (.ifCond .eq 7, 3) := by decide +kernel
theorem dX13_readPersonLine_28 : decode cX13_readPersonLine 28 = .ok (.iconst 0, 1) := by decide +kernel
theorem dX13_readPersonLine_29 : decode cX13_readPersonLine 29 = .ok (.goto 46, 3) := by decide +kernel
theorem dX13_readPersonLine_32 : decode cX13_readPersonLine 32 = .ok (.aload_n 0, 1) := by decide +kernel
theorem dX13_readPersonLine_33 : decode cX13_readPersonLine 33 = .ok (.ldc_w 295, 3) := by decide +kernel
theorem dX13_readPersonLine_36 : decode cX13_readPersonLine 36 = .ok (.invokevirtual 130, 3) := by decide +kernel
theorem dX13_readPersonLine_39 : decode cX13_readPersonLine 39 = .ok (.ifCond .eq 7, 3) := by decide +kernel
theorem dX13_readPersonLine_42 : decode cX13_readPersonLine 42 = .ok (.iconst 1, 1) := by decide +kernel
theorem dX13_readPersonLine_43 : decode cX13_readPersonLine 43 = .ok (.goto 32, 3) := by decide +kernel
theorem dX13_readPersonLine_46 : decode cX13_readPersonLine 46 = .ok (.aload_n 0, 1) := by decide +kernel
theorem dX13_readPersonLine_47 : decode cX13_readPersonLine 47 = .ok (.ldc_w 297, 3) := by decide +kernel
theorem dX13_readPersonLine_50 : decode cX13_readPersonLine 50 = .ok (.invokevirtual 130, 3) := by decide +kernel
theorem dX13_readPersonLine_53 : decode cX13_readPersonLine 53 = .ok (.ifCond .eq 7, 3) := by decide +kernel
theorem dX13_readPersonLine_56 : decode cX13_readPersonLine 56 = .ok (.iconst 2, 1) := by decide +kernel
theorem dX13_readPersonLine_57 : decode cX13_readPersonLine 57 = .ok (.goto 18, 3) := by decide +kernel
theorem dX13_readPersonLine_60 : decode cX13_readPersonLine 60 = .ok (.aload_n 0, 1) := by decide +kernel
theorem dX13_readPersonLine_61 : decode cX13_readPersonLine 61 = .ok (.ldc_w 299, 3) := by decide +kernel
theorem dX13_readPersonLine_64 : decode cX13_readPersonLine 64 = .ok (.invokevirtual 130, 3) := by decide +kernel
theorem dX13_readPersonLine_67 : decode cX13_readPersonLine 67 = .ok (.ifCond .eq 7, 3) := by decide +kernel
theorem dX13_readPersonLine_70 : decode cX13_readPersonLine 70 = .ok (.iconst 3, 1) := by decide +kernel
theorem dX13_readPersonLine_71 : decode cX13_readPersonLine 71 = .ok (.goto 4, 3) := by decide +kernel
theorem dX13_readPersonLine_74 : decode cX13_readPersonLine 74 = .ok (.iconst (-1), 1) := by decide +kernel
theorem dX13_readPersonLine_75 : decode cX13_readPersonLine 75 = .ok (.istore_n 3, 1) := by decide +kernel
theorem dX13_readPersonLine_76 : decode cX13_readPersonLine 76 = .ok (.iload_n 3, 1) := by decide +kernel
theorem dX13_readPersonLine_77 : decode cX13_readPersonLine 77 = .ok (.iconst (-1), 1) := by decide +kernel
theorem dX13_readPersonLine_78 : decode cX13_readPersonLine 78 = .ok (.if_icmp .ne 8, 3) := by decide +kernel
theorem dX13_readPersonLine_81 : decode cX13_readPersonLine 81 = .ok (.aload_n 0, 1) := by decide +kernel
theorem dX13_readPersonLine_82 : decode cX13_readPersonLine 82 = .ok (.iconst 1, 1) := by decide +kernel
theorem dX13_readPersonLine_83 : decode cX13_readPersonLine 83 = .ok (.invokevirtual 134, 3) := by decide +kernel
theorem dX13_readPersonLine_86 : decode cX13_readPersonLine 86 = .ok (.aload_n 0, 1) := by decide +kernel
theorem dX13_readPersonLine_87 : decode cX13_readPersonLine 87 = .ok (.invokevirtual 127, 3) := by decide +kernel
theorem dX13_readPersonLine_90 : decode cX13_readPersonLine 90 = .ok (.aload_n 0, 1) := by decide +kernel
theorem dX13_readPersonLine_91 : decode cX13_readPersonLine 91 = .ok (.ldc_w 301, 3) := by decide +kernel
theorem dX13_readPersonLine_94 : decode cX13_readPersonLine 94 = .ok (.iconst 1, 1) := by decide +kernel
theorem dX13_readPersonLine_95 : decode cX13_readPersonLine 95 = .ok (.bipush 40, 2) := by decide +kernel
theorem dX13_readPersonLine_97 : decode cX13_readPersonLine 97 = .ok (.invokevirtual 239, 3) := by decide +kernel
theorem dX13_readPersonLine_100 : decode cX13_readPersonLine 100 = .ok (.istore 4, 2) := by decide +kernel
theorem dX13_readPersonLine_102 : decode cX13_readPersonLine 102 = .ok (.aload_n 0, 1) := by decide +kernel
theorem dX13_readPersonLine_103 : decode cX13_readPersonLine 103 = .ok (.ldc_w 303, 3) := by decide +kernel
theorem dX13_readPersonLine_106 : decode cX13_readPersonLine 106 = .ok (.iconst 1, 1) := by decide +kernel
theorem dX13_readPersonLine_107 : decode cX13_readPersonLine 107 = .ok (.bipush 6, 2) := by decide +kernel
theorem dX13_readPersonLine_109 : decode cX13_readPersonLine 109 = .ok (.invokevirtual 239, 3) := by decide +kernel
theorem dX13_readPersonLine_112 : decode cX13_readPersonLine 112 = .ok (.istore 5, 2) := by decide +kernel
theorem dX13_readPersonLine_114 : decode cX13_readPersonLine 114 = .ok (.aload_n 0, 1) := by decide +kernel
theorem dX13_readPersonLine_115 : decode cX13_readPersonLine 115 = .ok (.ldc_w 305, 3) := by decide +kernel
theorem dX13_readPersonLine_118 : decode cX13_readPersonLine 118 = .ok (.iconst 0, 1) := by decide +kernel
theorem dX13_readPersonLine_119 : decode cX13_readPersonLine 119 = .ok (.bipush 99, 2) := by decide +kernel
theorem dX13_readPersonLine_121 : decode cX13_readPersonLine 121 = .ok (.invokevirtual 239, 3) := by decide +kernel
theorem dX13_readPersonLine_124 : decode cX13_readPersonLine 124 = .ok (.istore 6, 2) := by decide +kernel
theorem dX13_readPersonLine_126 : decode cX13_readPersonLine 126 = .ok (.aload_n 0, 1) := by decide +kernel
theorem dX13_readPersonLine_127 : decode cX13_readPersonLine 127 = .ok (.getfield 85, 3) := by decide +kernel
theorem dX13_readPersonLine_130 : decode cX13_readPersonLine 130 = .ok (.iconst 5, 1) := by decide +kernel
theorem dX13_readPersonLine_131 : decode cX13_readPersonLine 131 = .ok (.if_icmp .ne 4, 3) := by decide +kernel
theorem dX13_readPersonLine_134 : decode cX13_readPersonLine 134 = .ok (.return_, 1) := by decide +kernel
theorem dX13_readPersonLine_135 : decode cX13_readPersonLine 135 = .ok (.aload_n 0, 1) := by decide +kernel
theorem dX13_readPersonLine_136 : decode cX13_readPersonLine 136 = .ok (.getfield 171, 3) := by decide +kernel
theorem dX13_readPersonLine_139 : decode cX13_readPersonLine 139 = .ok (.getfield 213, 3) := by decide +kernel
theorem dX13_readPersonLine_142 : decode cX13_readPersonLine 142 = .ok (.istore 7, 2) := by decide +kernel
theorem dX13_readPersonLine_144 : decode cX13_readPersonLine 144 = .ok (.aload_n 0, 1) := by decide +kernel
theorem dX13_readPersonLine_145 : decode cX13_readPersonLine 145 = .ok (.lload_n 1, 1) := by decide +kernel
theorem dX13_readPersonLine_146 : decode cX13_readPersonLine 146 = .ok (.iconst 0, 1) := by decide +kernel
theorem dX13_readPersonLine_147 : decode cX13_readPersonLine 147 = .ok (.iload 7, 2) := by decide +kernel
theorem dX13_readPersonLine_149 : decode cX13_readPersonLine 149 = .ok (.invokevirtual 285, 3) := by decide +kernel
theorem dX13_readPersonLine_152 : decode cX13_readPersonLine 152 = .ok (.aload_n 0, 1) := by decide +kernel
theorem dX13_readPersonLine_153 : decode cX13_readPersonLine 153 = .ok (.getfield 171, 3) := by decide +kernel
theorem dX13_readPersonLine_156 : decode cX13_readPersonLine 156 = .ok (.getfield 307, 3) := by decide +kernel
theorem dX13_readPersonLine_159 : decode cX13_readPersonLine 159 = .ok (.iload 7, 2) := by decide +kernel
theorem dX13_readPersonLine_161 : decode cX13_readPersonLine 161 = .ok (.iload_n 3, 1) := by decide +kernel
theorem dX13_readPersonLine_162 : decode cX13_readPersonLine 162 = .ok (.iastore, 1) := by decide +kernel
theorem dX13_readPersonLine_163 : decode cX13_readPersonLine 163 = .ok (.aload_n 0, 1) := by decide +kernel
theorem dX13_readPersonLine_164 : decode cX13_readPersonLine 164 = .ok (.getfield 171, 3) := by decide +kernel
theorem dX13_readPersonLine_167 : decode cX13_readPersonLine 167 = .ok (.getfield 310, 3) := by decide +kernel
theorem dX13_readPersonLine_170 : decode cX13_readPersonLine 170 = .ok (.iload 7, 2) := by decide +kernel
theorem dX13_readPersonLine_172 : decode cX13_readPersonLine 172 = .ok (.iload 4, 2) := by decide +kernel
theorem dX13_readPersonLine_174 : decode cX13_readPersonLine 174 = .ok (.iastore, 1) := by decide +kernel
theorem dX13_readPersonLine_175 : decode cX13_readPersonLine 175 = .ok (.aload_n 0, 1) := by decide +kernel
theorem dX13_readPersonLine_176 : decode cX13_readPersonLine 176 = .ok (.getfield 171, 3) := by decide +kernel
theorem dX13_readPersonLine_179 : decode cX13_readPersonLine 179 = .ok (.getfield 312, 3) := by decide +kernel
theorem dX13_readPersonLine_182 : decode cX13_readPersonLine 182 = .ok (.iload 7, 2) := by decide +kernel
theorem dX13_readPersonLine_184 : decode cX13_readPersonLine 184 = .ok (.iload 5, 2) := by decide +kernel
theorem dX13_readPersonLine_186 : decode cX13_readPersonLine 186 = .ok (.iastore, 1) := by decide +kernel
theorem dX13_readPersonLine_187 : decode cX13_readPersonLine 187 = .ok (.aload_n 0, 1) := by decide +kernel
theorem dX13_readPersonLine_188 : decode cX13_readPersonLine 188 = .ok (.getfield 171, 3) := by decide +kernel
theorem dX13_readPersonLine_191 : decode cX13_readPersonLine 191 = .ok (.getfield 314, 3) := by decide +kernel
theorem dX13_readPersonLine_194 : decode cX13_readPersonLine 194 = .ok (.iload 7, 2) := by decide +kernel
theorem dX13_readPersonLine_196 : decode cX13_readPersonLine 196 = .ok (.iload 6, 2) := by decide +kernel
theorem dX13_readPersonLine_198 : decode cX13_readPersonLine 198 = .ok (.iastore, 1) := by decide +kernel
theorem dX13_readPersonLine_199 : decode cX13_readPersonLine 199 = .ok (.aload_n 0, 1) := by decide +kernel
theorem dX13_readPersonLine_200 : decode cX13_readPersonLine 200 = .ok (.getfield 171, 3) := by decide +kernel
theorem dX13_readPersonLine_203 : decode cX13_readPersonLine 203 = .ok (.getfield 316, 3) := by decide +kernel
theorem dX13_readPersonLine_206 : decode cX13_readPersonLine 206 = .ok (.iload 7, 2) := by decide +kernel
theorem dX13_readPersonLine_208 : decode cX13_readPersonLine 208 = .ok (.iconst (-1), 1) := by decide +kernel
theorem dX13_readPersonLine_209 : decode cX13_readPersonLine 209 = .ok (.iastore, 1) := by decide +kernel
theorem dX13_readPersonLine_210 : decode cX13_readPersonLine 210 = .ok (.aload_n 0, 1) := by decide +kernel
theorem dX13_readPersonLine_211 : decode cX13_readPersonLine 211 = .ok (.getfield 171, 3) := by decide +kernel
theorem dX13_readPersonLine_214 : decode cX13_readPersonLine 214 = .ok (.dup, 1) := by decide +kernel
theorem dX13_readPersonLine_215 : decode cX13_readPersonLine 215 = .ok (.getfield 213, 3) := by decide +kernel
theorem dX13_readPersonLine_218 : decode cX13_readPersonLine 218 = .ok (.iconst 1, 1) := by decide +kernel
theorem dX13_readPersonLine_219 : decode cX13_readPersonLine 219 = .ok (.iadd, 1) := by decide +kernel
theorem dX13_readPersonLine_220 : decode cX13_readPersonLine 220 = .ok (.putfield 213, 3) := by decide +kernel
theorem dX13_readPersonLine_223 : decode cX13_readPersonLine 223 = .ok (.return_, 1) := by decide +kernel
theorem dX13_readFor_0 : decode cX13_readFor 0 = .ok (.aload_n 0, 1) := by decide +kernel
theorem dX13_readFor_1 : decode cX13_readFor 1 = .ok (.aload_n 0, 1) := by decide +kernel
theorem dX13_readFor_2 : decode cX13_readFor 2 = .ok (.getfield 171, 3) := by decide +kernel
theorem dX13_readFor_5 : decode cX13_readFor 5 = .ok (.getfield 318, 3) := by decide +kernel
theorem dX13_readFor_8 : decode cX13_readFor 8 = .ok (.bipush 10, 2) := by decide +kernel
theorem dX13_readFor_10 : decode cX13_readFor 10 = .ok (.invokevirtual 266, 3) := by decide +kernel
theorem dX13_readFor_13 : decode cX13_readFor 13 = .ok (.aload_n 0, 1) := by decide +kernel
theorem dX13_readFor_14 : decode cX13_readFor 14 = .ok (.invokevirtual 321, 3) := by decide +kernel
theorem dX13_readFor_17 : decode cX13_readFor 17 = .ok (.istore_n 1, 1) := by decide +kernel
theorem dX13_readFor_18 : decode cX13_readFor 18 = .ok (.aload_n 0, 1) := by decide +kernel
theorem dX13_readFor_19 : decode cX13_readFor 19 = .ok (.invokevirtual 201, 3) := by decide +kernel
theorem dX13_readFor_22 : decode cX13_readFor 22 = .ok (.istore_n 2, 1) := by decide +kernel
theorem dX13_readFor_23 : decode cX13_readFor 23 = .ok (.aload_n 0, 1) := by decide +kernel
theorem dX13_readFor_24 : decode cX13_readFor 24 = .ok (.getfield 85, 3) := by decide +kernel
theorem dX13_readFor_27 : decode cX13_readFor 27 = .ok (.iconst 5, 1) := by decide +kernel
theorem dX13_readFor_28 : decode cX13_readFor 28 = .ok (.if_icmp .eq 29, 3) := by decide +kernel
theorem dX13_readFor_31 : decode cX13_readFor 31 = .ok (.iload_n 1, 1) := by decide +kernel
theorem dX13_readFor_32 : decode cX13_readFor 32 = .ok (.iload_n 2, 1) := by decide +kernel
theorem dX13_readFor_33 : decode cX13_readFor 33 = .ok (.if_icmp .eq 19, 3) := by decide +kernel
theorem dX13_readFor_36 : decode cX13_readFor 36 = .ok (.aload_n 0, 1) := by decide +kernel
theorem dX13_readFor_37 : decode cX13_readFor 37 = .ok (.getfield 171, 3) := by decide +kernel
theorem dX13_readFor_40 : decode cX13_readFor 40 = .ok (.getfield 324, 3) := by decide +kernel
theorem dX13_readFor_43 : decode cX13_readFor 43 = .ok (.iload_n 1, 1) := by decide +kernel
theorem dX13_readFor_44 : decode cX13_readFor 44 = .ok (.iaload, 1) := by decide +kernel
theorem dX13_readFor_45 : decode cX13_readFor 45 = .ok (.iload_n 2, 1) := by decide +kernel
theorem dX13_readFor_46 : decode cX13_readFor 46 = .ok (.invokestatic 327, 3) := by decide +kernel
theorem dX13_readFor_49 : decode cX13_readFor 49 = .ok (.ifCond .eq 8, 3) := by decide +kernel
theorem dX13_readFor_52 : decode cX13_readFor 52 = .ok (.aload_n 0, 1) := by decide +kernel
theorem dX13_readFor_53 : decode cX13_readFor 53 = .ok (.iconst 3, 1) := by decide +kernel
theorem dX13_readFor_54 : decode cX13_readFor 54 = .ok (.invokevirtual 134, 3) := by decide +kernel
theorem dX13_readFor_57 : decode cX13_readFor 57 = .ok (.aload_n 0, 1) := by decide +kernel
theorem dX13_readFor_58 : decode cX13_readFor 58 = .ok (.invokevirtual 127, 3) := by decide +kernel
theorem dX13_readFor_61 : decode cX13_readFor 61 = .ok (.aload_n 0, 1) := by decide +kernel
theorem dX13_readFor_62 : decode cX13_readFor 62 = .ok (.iconst 0, 1) := by decide +kernel
theorem dX13_readFor_63 : decode cX13_readFor 63 = .ok (.bipush 99, 2) := by decide +kernel
theorem dX13_readFor_65 : decode cX13_readFor 65 = .ok (.invokevirtual 150, 3) := by decide +kernel
theorem dX13_readFor_68 : decode cX13_readFor 68 = .ok (.istore_n 3, 1) := by decide +kernel
theorem dX13_readFor_69 : decode cX13_readFor 69 = .ok (.aload_n 0, 1) := by decide +kernel
theorem dX13_readFor_70 : decode cX13_readFor 70 = .ok (.getfield 85, 3) := by decide +kernel
theorem dX13_readFor_73 : decode cX13_readFor 73 = .ok (.iconst 5, 1) := by decide +kernel
theorem dX13_readFor_74 : decode cX13_readFor 74 = .ok (.if_icmp .ne 4, 3) := by decide +kernel
theorem dX13_readFor_77 : decode cX13_readFor 77 = .ok (.return_, 1) := by decide +kernel
theorem dX13_readFor_78 : decode cX13_readFor 78 = .ok (.aload_n 0, 1) := by decide +kernel
theorem dX13_readFor_79 : decode cX13_readFor 79 = .ok (.getfield 171, 3) := by decide +kernel
theorem dX13_readFor_82 : decode cX13_readFor 82 = .ok (.getfield 324, 3) := by decide +kernel
theorem dX13_readFor_85 : decode cX13_readFor 85 = .ok (.iload_n 1, 1) := by decide +kernel
theorem dX13_readFor_86 : decode cX13_readFor 86 = .ok (.dup2, 1) := by decide +kernel
theorem dX13_readFor_87 : decode cX13_readFor 87 = .ok (.iaload, 1) := by decide +kernel
theorem dX13_readFor_88 : decode cX13_readFor 88 = .ok (.iconst 1, 1) := by decide +kernel
theorem dX13_readFor_89 : decode cX13_readFor 89 = .ok (.iload_n 2, 1) := by decide +kernel
theorem dX13_readFor_90 : decode cX13_readFor 90 = .ok (.ishl, 1) := by decide +kernel
theorem dX13_readFor_91 : decode cX13_readFor 91 = .ok (.ior, 1) := by decide +kernel
theorem dX13_readFor_92 : decode cX13_readFor 92 = .ok (.iastore, 1) := by decide +kernel
theorem dX13_readFor_93 : decode cX13_readFor 93 = .ok (.aload_n 0, 1) := by decide +kernel
theorem dX13_readFor_94 : decode cX13_readFor 94 = .ok (.getfield 171, 3) := by decide +kernel
theorem dX13_readFor_97 : decode cX13_readFor 97 = .ok (.getfield 331, 3) := by decide +kernel
theorem dX13_readFor_100 : decode cX13_readFor 100 = .ok (.iload_n 1, 1) := by decide +kernel
theorem dX13_readFor_101 : decode cX13_readFor 101 = .ok (.dup2, 1) := by decide +kernel
theorem dX13_readFor_102 : decode cX13_readFor 102 = .ok (.iaload, 1) := by decide +kernel
theorem dX13_readFor_103 : decode cX13_readFor 103 = .ok (.iload_n 3, 1) := by decide +kernel
theorem dX13_readFor_104 : decode cX13_readFor 104 = .ok (.iadd, 1) := by decide +kernel
theorem dX13_readFor_105 : decode cX13_readFor 105 = .ok (.iastore, 1) := by decide +kernel
theorem dX13_readFor_106 : decode cX13_readFor 106 = .ok (.aload_n 0, 1) := by decide +kernel
theorem dX13_readFor_107 : decode cX13_readFor 107 = .ok (.getfield 171, 3) := by decide +kernel
theorem dX13_readFor_110 : decode cX13_readFor 110 = .ok (.dup, 1) := by decide +kernel
theorem dX13_readFor_111 : decode cX13_readFor 111 = .ok (.getfield 318, 3) := by decide +kernel
theorem dX13_readFor_114 : decode cX13_readFor 114 = .ok (.iconst 1, 1) := by decide +kernel
theorem dX13_readFor_115 : decode cX13_readFor 115 = .ok (.iadd, 1) := by decide +kernel
theorem dX13_readFor_116 : decode cX13_readFor 116 = .ok (.putfield 318, 3) := by decide +kernel
theorem dX13_readFor_119 : decode cX13_readFor 119 = .ok (.return_, 1) := by decide +kernel
theorem dX13_readWon_0 : decode cX13_readWon 0 = .ok (.aload_n 0, 1) := by decide +kernel
theorem dX13_readWon_1 : decode cX13_readWon 1 = .ok (.aload_n 0, 1) := by decide +kernel
theorem dX13_readWon_2 : decode cX13_readWon 2 = .ok (.getfield 171, 3) := by decide +kernel
theorem dX13_readWon_5 : decode cX13_readWon 5 = .ok (.getfield 334, 3) := by decide +kernel
theorem dX13_readWon_8 : decode cX13_readWon 8 = .ok (.bipush 12, 2) := by decide +kernel
theorem dX13_readWon_10 : decode cX13_readWon 10 = .ok (.invokevirtual 266, 3) := by decide +kernel
theorem dX13_readWon_13 : decode cX13_readWon 13 = .ok (.aload_n 0, 1) := by decide +kernel
theorem dX13_readWon_14 : decode cX13_readWon 14 = .ok (.invokevirtual 321, 3) := by decide +kernel
theorem dX13_readWon_17 : decode cX13_readWon 17 = .ok (.istore_n 1, 1) := by decide +kernel
theorem dX13_readWon_18 : decode cX13_readWon 18 = .ok (.aload_n 0, 1) := by decide +kernel
theorem dX13_readWon_19 : decode cX13_readWon 19 = .ok (.invokevirtual 201, 3) := by decide +kernel
theorem dX13_readWon_22 : decode cX13_readWon 22 = .ok (.istore_n 2, 1) := by decide +kernel
theorem dX13_readWon_23 : decode cX13_readWon 23 = .ok (.aload_n 0, 1) := by decide +kernel
theorem dX13_readWon_24 : decode cX13_readWon 24 = .ok (.getfield 85, 3) := by decide +kernel
theorem dX13_readWon_27 : decode cX13_readWon 27 = .ok (.iconst 5, 1) := by decide +kernel
theorem dX13_readWon_28 : decode cX13_readWon 28 = .ok (.if_icmp .eq 13, 3) := by decide +kernel
theorem dX13_readWon_31 : decode cX13_readWon 31 = .ok (.iload_n 1, 1) := by decide +kernel
theorem dX13_readWon_32 : decode cX13_readWon 32 = .ok (.iload_n 2, 1) := by decide +kernel
theorem dX13_readWon_33 : decode cX13_readWon 33 = .ok (.if_icmp .ne 8, 3) := by decide +kernel
theorem dX13_readWon_36 : decode cX13_readWon 36 = .ok (.aload_n 0, 1) := by decide +kernel
theorem dX13_readWon_37 : decode cX13_readWon 37 = .ok (.iconst 3, 1) := by decide +kernel
theorem dX13_readWon_38 : decode cX13_readWon 38 = .ok (.invokevirtual 134, 3) := by decide +kernel
theorem dX13_readWon_41 : decode cX13_readWon 41 = .ok (.aload_n 0, 1) := by decide +kernel
theorem dX13_readWon_42 : decode cX13_readWon 42 = .ok (.invokevirtual 127, 3) := by decide +kernel
theorem dX13_readWon_45 : decode cX13_readWon 45 = .ok (.aload_n 0, 1) := by decide +kernel
theorem dX13_readWon_46 : decode cX13_readWon 46 = .ok (.invokevirtual 337, 3) := by decide +kernel
theorem dX13_readWon_49 : decode cX13_readWon 49 = .ok (.istore_n 3, 1) := by decide +kernel
theorem dX13_readWon_50 : decode cX13_readWon 50 = .ok (.aload_n 0, 1) := by decide +kernel
theorem dX13_readWon_51 : decode cX13_readWon 51 = .ok (.getfield 85, 3) := by decide +kernel
theorem dX13_readWon_54 : decode cX13_readWon 54 = .ok (.iconst 5, 1) := by decide +kernel
theorem dX13_readWon_55 : decode cX13_readWon 55 = .ok (.if_icmp .ne 4, 3) := by decide +kernel
theorem dX13_readWon_58 : decode cX13_readWon 58 = .ok (.return_, 1) := by decide +kernel
theorem dX13_readWon_59 : decode cX13_readWon 59 = .ok (.aload_n 0, 1) := by decide +kernel
theorem dX13_readWon_60 : decode cX13_readWon 60 = .ok (.getfield 171, 3) := by decide +kernel
theorem dX13_readWon_63 : decode cX13_readWon 63 = .ok (.getfield 340, 3) := by decide +kernel
theorem dX13_readWon_66 : decode cX13_readWon 66 = .ok (.aload_n 0, 1) := by decide +kernel
theorem dX13_readWon_67 : decode cX13_readWon 67 = .ok (.getfield 171, 3) := by decide +kernel
theorem dX13_readWon_70 : decode cX13_readWon 70 = .ok (.getfield 334, 3) := by decide +kernel
theorem dX13_readWon_73 : decode cX13_readWon 73 = .ok (.iload_n 1, 1) := by decide +kernel
theorem dX13_readWon_74 : decode cX13_readWon 74 = .ok (.iastore, 1) := by decide +kernel
theorem dX13_readWon_75 : decode cX13_readWon 75 = .ok (.aload_n 0, 1) := by decide +kernel
theorem dX13_readWon_76 : decode cX13_readWon 76 = .ok (.getfield 171, 3) := by decide +kernel
theorem dX13_readWon_79 : decode cX13_readWon 79 = .ok (.getfield 343, 3) := by decide +kernel
theorem dX13_readWon_82 : decode cX13_readWon 82 = .ok (.aload_n 0, 1) := by decide +kernel
theorem dX13_readWon_83 : decode cX13_readWon 83 = .ok (.getfield 171, 3) := by decide +kernel
theorem dX13_readWon_86 : decode cX13_readWon 86 = .ok (.getfield 334, 3) := by decide +kernel
theorem dX13_readWon_89 : decode cX13_readWon 89 = .ok (.iload_n 2, 1) := by decide +kernel
theorem dX13_readWon_90 : decode cX13_readWon 90 = .ok (.iastore, 1) := by decide +kernel
theorem dX13_readWon_91 : decode cX13_readWon 91 = .ok (.aload_n 0, 1) := by decide +kernel
theorem dX13_readWon_92 : decode cX13_readWon 92 = .ok (.getfield 171, 3) := by decide +kernel
theorem dX13_readWon_95 : decode cX13_readWon 95 = .ok (.getfield 346, 3) := by decide +kernel
theorem dX13_readWon_98 : decode cX13_readWon 98 = .ok (.aload_n 0, 1) := by decide +kernel
theorem dX13_readWon_99 : decode cX13_readWon 99 = .ok (.getfield 171, 3) := by decide +kernel
theorem dX13_readWon_102 : decode cX13_readWon 102 = .ok (.getfield 334, 3) := by decide +kernel
theorem dX13_readWon_105 : decode cX13_readWon 105 = .ok (.iload_n 3, 1) := by decide +kernel
theorem dX13_readWon_106 : decode cX13_readWon 106 = .ok (.iastore, 1) := by decide +kernel
theorem dX13_readWon_107 : decode cX13_readWon 107 = .ok (.aload_n 0, 1) := by decide +kernel
theorem dX13_readWon_108 : decode cX13_readWon 108 = .ok (.getfield 171, 3) := by decide +kernel
theorem dX13_readWon_111 : decode cX13_readWon 111 = .ok (.dup, 1) := by decide +kernel
theorem dX13_readWon_112 : decode cX13_readWon 112 = .ok (.getfield 334, 3) := by decide +kernel
theorem dX13_readWon_115 : decode cX13_readWon 115 = .ok (.iconst 1, 1) := by decide +kernel
theorem dX13_readWon_116 : decode cX13_readWon 116 = .ok (.iadd, 1) := by decide +kernel
theorem dX13_readWon_117 : decode cX13_readWon 117 = .ok (.putfield 334, 3) := by decide +kernel
theorem dX13_readWon_120 : decode cX13_readWon 120 = .ok (.return_, 1) := by decide +kernel
theorem dX13_readPiece_0 : decode cX13_readPiece 0 = .ok (.aload_n 0, 1) := by decide +kernel
theorem dX13_readPiece_1 : decode cX13_readPiece 1 = .ok (.aload_n 0, 1) := by decide +kernel
theorem dX13_readPiece_2 : decode cX13_readPiece 2 = .ok (.getfield 171, 3) := by decide +kernel
theorem dX13_readPiece_5 : decode cX13_readPiece 5 = .ok (.getfield 349, 3) := by decide +kernel
theorem dX13_readPiece_8 : decode cX13_readPiece 8 = .ok (.iconst 4, 1) := by decide +kernel
theorem dX13_readPiece_9 : decode cX13_readPiece 9 = .ok (.invokevirtual 266, 3) := by decide +kernel
theorem dX13_readPiece_12 : decode cX13_readPiece 12 = .ok (.aload_n 0, 1) := by decide +kernel
theorem dX13_readPiece_13 : decode cX13_readPiece 13 = .ok (.invokevirtual 337, 3) := by decide +kernel
theorem dX13_readPiece_16 : decode cX13_readPiece 16 = .ok (.istore_n 1, 1) := by decide +kernel
theorem dX13_readPiece_17 : decode cX13_readPiece 17 = .ok (.aload_n 0, 1) := by decide +kernel
theorem dX13_readPiece_18 : decode cX13_readPiece 18 = .ok (.iconst 0, 1) := by decide +kernel
theorem dX13_readPiece_19 : decode cX13_readPiece 19 = .ok (.iconst 5, 1) := by decide +kernel
theorem dX13_readPiece_20 : decode cX13_readPiece 20 = .ok (.invokevirtual 150, 3) := by decide +kernel
theorem dX13_readPiece_23 : decode cX13_readPiece 23 = .ok (.istore_n 2, 1) := by decide +kernel
theorem dX13_readPiece_24 : decode cX13_readPiece 24 = .ok (.aload_n 0, 1) := by decide +kernel
theorem dX13_readPiece_25 : decode cX13_readPiece 25 = .ok (.getfield 85, 3) := by decide +kernel
theorem dX13_readPiece_28 : decode cX13_readPiece 28 = .ok (.iconst 5, 1) := by decide +kernel
theorem dX13_readPiece_29 : decode cX13_readPiece 29 = .ok (.if_icmp .ne 4, 3) := by decide +kernel
theorem dX13_readPiece_32 : decode cX13_readPiece 32 = .ok (.return_, 1) := by decide +kernel
theorem dX13_readPiece_33 : decode cX13_readPiece 33 = .ok (.aload_n 0, 1) := by decide +kernel
theorem dX13_readPiece_34 : decode cX13_readPiece 34 = .ok (.getfield 171, 3) := by decide +kernel
theorem dX13_readPiece_37 : decode cX13_readPiece 37 = .ok (.getfield 352, 3) := by decide +kernel
theorem dX13_readPiece_40 : decode cX13_readPiece 40 = .ok (.aload_n 0, 1) := by decide +kernel
theorem dX13_readPiece_41 : decode cX13_readPiece 41 = .ok (.getfield 171, 3) := by decide +kernel
theorem dX13_readPiece_44 : decode cX13_readPiece 44 = .ok (.getfield 349, 3) := by decide +kernel
theorem dX13_readPiece_47 : decode cX13_readPiece 47 = .ok (.iload_n 1, 1) := by decide +kernel
theorem dX13_readPiece_48 : decode cX13_readPiece 48 = .ok (.iastore, 1) := by decide +kernel
theorem dX13_readPiece_49 : decode cX13_readPiece 49 = .ok (.aload_n 0, 1) := by decide +kernel
theorem dX13_readPiece_50 : decode cX13_readPiece 50 = .ok (.getfield 171, 3) := by decide +kernel
theorem dX13_readPiece_53 : decode cX13_readPiece 53 = .ok (.getfield 355, 3) := by decide +kernel
theorem dX13_readPiece_56 : decode cX13_readPiece 56 = .ok (.aload_n 0, 1) := by decide +kernel
theorem dX13_readPiece_57 : decode cX13_readPiece 57 = .ok (.getfield 171, 3) := by decide +kernel
theorem dX13_readPiece_60 : decode cX13_readPiece 60 = .ok (.getfield 349, 3) := by decide +kernel
theorem dX13_readPiece_63 : decode cX13_readPiece 63 = .ok (.iload_n 2, 1) := by decide +kernel
theorem dX13_readPiece_64 : decode cX13_readPiece 64 = .ok (.iastore, 1) := by decide +kernel
theorem dX13_readPiece_65 : decode cX13_readPiece 65 = .ok (.aload_n 0, 1) := by decide +kernel
theorem dX13_readPiece_66 : decode cX13_readPiece 66 = .ok (.getfield 171, 3) := by decide +kernel
theorem dX13_readPiece_69 : decode cX13_readPiece 69 = .ok (.dup, 1) := by decide +kernel
theorem dX13_readPiece_70 : decode cX13_readPiece 70 = .ok (.getfield 349, 3) := by decide +kernel
theorem dX13_readPiece_73 : decode cX13_readPiece 73 = .ok (.iconst 1, 1) := by decide +kernel
theorem dX13_readPiece_74 : decode cX13_readPiece 74 = .ok (.iadd, 1) := by decide +kernel
theorem dX13_readPiece_75 : decode cX13_readPiece 75 = .ok (.putfield 349, 3) := by decide +kernel
theorem dX13_readPiece_78 : decode cX13_readPiece 78 = .ok (.return_, 1) := by decide +kernel
section
variable {X : ab_X} {d : Nat} {σ : ab_S} {Q : Option ab_V → ab_S → Prop} {L st : List ab_V} {a b z v i j x1 x2 x3 x4 x5 x6 x7 x8 : Int} {l0 l1 l2 l3 l4 l5 l6 l7 l8 l9 l10 l11 l12 l13 l14 l15 l16 l17 l18 l19 l20 : ab_V}
theorem kc_X13_thrown : ab_code 158 = cX13_thrown := rfl
theorem ko_X13_thrown : ab_ow 158 = 13 := rfl
theorem rX13_thrown_0 : ab_Run X 158 0 (0, 0, 0) [ab_R z] st σ Q ↔ z ≠ 0 ∧ ab_Run X 158 1 (0, 0, 0) [ab_R z] (ab_R z :: st) σ Q := ab_r_aload_n rfl kc_X13_thrown dX13_thrown_0
theorem rX13_thrown_1 : ab_Run X 158 1 (0, 0, 0) L (ab_R a :: st) σ Q ↔ (ab_sh σ a).1 = 14 ∧ ab_Run X 158 4 (0, 0, 0) L (ab_I (ab_rd σ a 0) :: st) σ Q := gF_13_53 ko_X13_thrown kc_X13_thrown dX13_thrown_1
theorem rX13_thrown_4 : ab_Run X 158 4 (0, 0, 0) L [ab_I v] σ Q ↔ Q (some (ab_I v)) σ := ab_r_ireturnI rfl kc_X13_thrown dX13_thrown_4
theorem kc_X13_refused : ab_code 159 = cX13_refused := rfl
theorem ko_X13_refused : ab_ow 159 = 13 := rfl
theorem rX13_refused_0 : ab_Run X 159 0 (0, 0, 0) [ab_R z, l1] st σ Q ↔ z ≠ 0 ∧ ab_Run X 159 1 (0, 0, 0) [ab_R z, l1] (ab_R z :: st) σ Q := ab_r_aload_n rfl kc_X13_refused dX13_refused_0
theorem rX13_refused_1 : ab_Run X 159 1 (0, 0, 0) [l0, ab_I z] st σ Q ↔ ab_Run X 159 2 (0, 0, 0) [l0, ab_I z] (ab_I z :: st) σ Q := ab_r_iload_n rfl kc_X13_refused dX13_refused_1
theorem rX13_refused_2 : ab_Run X 159 2 (0, 0, 0) L (ab_I z :: ab_R a :: st) σ Q ↔ (ab_sh σ a).1 = 14 ∧ ab_Run X 159 5 (0, 0, 0) L st (ab_wr σ a 1 z) Q := sF_13_56 ko_X13_refused kc_X13_refused dX13_refused_2
theorem rX13_refused_5 : ab_Run X 159 5 (0, 0, 0) [ab_R z, l1] st σ Q ↔ z ≠ 0 ∧ ab_Run X 159 6 (0, 0, 0) [ab_R z, l1] (ab_R z :: st) σ Q := ab_r_aload_n rfl kc_X13_refused dX13_refused_5
theorem rX13_refused_6 : ab_Run X 159 6 (0, 0, 0) L st σ Q ↔ ab_Run X 159 7 (0, 0, 0) L (ab_I (-1) :: st) σ Q := ab_r_iconst (by decide) kc_X13_refused dX13_refused_6
theorem rX13_refused_7 : ab_Run X 159 7 (0, 0, 0) L (ab_I z :: ab_R a :: st) σ Q ↔ (ab_sh σ a).1 = 14 ∧ ab_Run X 159 10 (0, 0, 0) L st (ab_wr σ a 2 z) Q := sF_13_9 ko_X13_refused kc_X13_refused dX13_refused_7
theorem rX13_refused_10 : ab_Run X 159 10 (0, 0, 0) L st σ Q ↔ ab_Run X 159 11 (0, 0, 0) L (ab_I (-1) :: st) σ Q := ab_r_iconst (by decide) kc_X13_refused dX13_refused_10
theorem rX13_refused_11 : ab_Run X 159 11 (0, 0, 0) L [ab_I v] σ Q ↔ Q (some (ab_I v)) σ := ab_r_ireturnI rfl kc_X13_refused dX13_refused_11
theorem kc_X13_denied : ab_code 160 = cX13_denied := rfl
theorem ko_X13_denied : ab_ow 160 = 13 := rfl
theorem rX13_denied_0 : ab_Run X 160 0 (1, 0, 0) [ab_R z, l1] st σ Q ↔ z ≠ 0 ∧ ab_Run X 160 1 (1, 0, 0) [ab_R z, l1] (ab_R z :: st) σ Q := ab_r_aload_n rfl kc_X13_denied dX13_denied_0
theorem rX13_denied_1 : ab_Run X 160 1 (1, 0, 0) [l0, ab_I z] st σ Q ↔ ab_Run X 160 2 (1, 0, 0) [l0, ab_I z] (ab_I z :: st) σ Q := ab_r_iload_n rfl kc_X13_denied dX13_denied_1
theorem rX13_denied_2 : ab_Run X 160 2 (1, 0, 0) L (ab_I x1 :: ab_R a :: st) σ Q ↔ ((ab_sh σ a).1 = 14 ∧ ab_cats st ≤ 8) ∧ ab_Do X 159 [ab_R a, ab_I x1] σ (fun r σ' => ab_Run X 160 5 (1, 0, 0) L (ab_psh r st) σ' Q) := ab_r_callV (w := [ab_I x1]) (as := [ab_I x1]) (b1 := (0, 0, 0)) 0 (Or.inl rfl) (by decide) ko_X13_denied qM_13_59 (by decide) rfl rfl rfl rfl rfl (by decide) (Nat.le_of_ble_eq_true rfl) kc_X13_denied dX13_denied_2
theorem rX13_denied_5I : ab_Run X 160 5 (1, 0, 0) L (ab_I a :: st) σ Q ↔ ab_Run X 160 6 (1, 0, 0) L st σ Q := ab_r_popI kc_X13_denied dX13_denied_5
theorem rX13_denied_5R : ab_Run X 160 5 (1, 0, 0) L (ab_R a :: st) σ Q ↔ ab_Run X 160 6 (1, 0, 0) L st σ Q := ab_r_popR kc_X13_denied dX13_denied_5
theorem rX13_denied_6 : ab_Run X 160 6 (1, 0, 0) L st σ Q ↔ ab_Run X 160 7 (1, 0, 0) L (ab_I 0 :: st) σ Q := ab_r_iconst (by decide) kc_X13_denied dX13_denied_6
theorem rX13_denied_7 : ab_Run X 160 7 (1, 0, 0) L [ab_I v] σ Q ↔ (v = 0 ∨ v = 1) ∧ Q (some (ab_I v)) σ := ab_r_ireturnZ rfl kc_X13_denied dX13_denied_7
theorem kc_X13_good : ab_code 161 = cX13_good := rfl
theorem ko_X13_good : ab_ow 161 = 13 := rfl
theorem rX13_good_0 : ab_Run X 161 0 (0, 0, 0) [ab_R z, l1] st σ Q ↔ z ≠ 0 ∧ ab_Run X 161 1 (0, 0, 0) [ab_R z, l1] (ab_R z :: st) σ Q := ab_r_aload_n rfl kc_X13_good dX13_good_0
theorem rX13_good_1 : ab_Run X 161 1 (0, 0, 0) L st σ Q ↔ ab_Run X 161 2 (0, 0, 0) L (ab_I 0 :: st) σ Q := ab_r_iconst (by decide) kc_X13_good dX13_good_1
theorem rX13_good_2 : ab_Run X 161 2 (0, 0, 0) L (ab_I z :: ab_R a :: st) σ Q ↔ (ab_sh σ a).1 = 14 ∧ ab_Run X 161 5 (0, 0, 0) L st (ab_wr σ a 1 z) Q := sF_13_56 ko_X13_good kc_X13_good dX13_good_2
theorem rX13_good_5 : ab_Run X 161 5 (0, 0, 0) [ab_R z, l1] st σ Q ↔ z ≠ 0 ∧ ab_Run X 161 6 (0, 0, 0) [ab_R z, l1] (ab_R z :: st) σ Q := ab_r_aload_n rfl kc_X13_good dX13_good_5
theorem rX13_good_6 : ab_Run X 161 6 (0, 0, 0) L st σ Q ↔ ab_Run X 161 7 (0, 0, 0) L (ab_I (-1) :: st) σ Q := ab_r_iconst (by decide) kc_X13_good dX13_good_6
theorem rX13_good_7 : ab_Run X 161 7 (0, 0, 0) L (ab_I z :: ab_R a :: st) σ Q ↔ (ab_sh σ a).1 = 14 ∧ ab_Run X 161 10 (0, 0, 0) L st (ab_wr σ a 2 z) Q := sF_13_9 ko_X13_good kc_X13_good dX13_good_7
theorem rX13_good_10 : ab_Run X 161 10 (0, 0, 0) [l0, ab_I z] st σ Q ↔ ab_Run X 161 11 (0, 0, 0) [l0, ab_I z] (ab_I z :: st) σ Q := ab_r_iload_n rfl kc_X13_good dX13_good_10
theorem rX13_good_11 : ab_Run X 161 11 (0, 0, 0) L [ab_I v] σ Q ↔ Q (some (ab_I v)) σ := ab_r_ireturnI rfl kc_X13_good dX13_good_11
theorem kc_X13_granted : ab_code 162 = cX13_granted := rfl
theorem ko_X13_granted : ab_ow 162 = 13 := rfl
theorem rX13_granted_0 : ab_Run X 162 0 (1, 0, 0) [ab_R z] st σ Q ↔ z ≠ 0 ∧ ab_Run X 162 1 (1, 0, 0) [ab_R z] (ab_R z :: st) σ Q := ab_r_aload_n rfl kc_X13_granted dX13_granted_0
theorem rX13_granted_1 : ab_Run X 162 1 (1, 0, 0) L st σ Q ↔ ab_Run X 162 2 (1, 0, 0) L (ab_I 0 :: st) σ Q := ab_r_iconst (by decide) kc_X13_granted dX13_granted_1
theorem rX13_granted_2 : ab_Run X 162 2 (1, 0, 0) L (ab_I x1 :: ab_R a :: st) σ Q ↔ ((ab_sh σ a).1 = 14 ∧ ab_cats st ≤ 8) ∧ ab_Do X 161 [ab_R a, ab_I x1] σ (fun r σ' => ab_Run X 162 5 (1, 0, 0) L (ab_psh r st) σ' Q) := ab_r_callV (w := [ab_I x1]) (as := [ab_I x1]) (b1 := (0, 0, 0)) 0 (Or.inl rfl) (by decide) ko_X13_granted qM_13_63 (by decide) rfl rfl rfl rfl rfl (by decide) (Nat.le_of_ble_eq_true rfl) kc_X13_granted dX13_granted_2
theorem rX13_granted_5I : ab_Run X 162 5 (1, 0, 0) L (ab_I a :: st) σ Q ↔ ab_Run X 162 6 (1, 0, 0) L st σ Q := ab_r_popI kc_X13_granted dX13_granted_5
theorem rX13_granted_5R : ab_Run X 162 5 (1, 0, 0) L (ab_R a :: st) σ Q ↔ ab_Run X 162 6 (1, 0, 0) L st σ Q := ab_r_popR kc_X13_granted dX13_granted_5
theorem rX13_granted_6 : ab_Run X 162 6 (1, 0, 0) L st σ Q ↔ ab_Run X 162 7 (1, 0, 0) L (ab_I 1 :: st) σ Q := ab_r_iconst (by decide) kc_X13_granted dX13_granted_6
theorem rX13_granted_7 : ab_Run X 162 7 (1, 0, 0) L [ab_I v] σ Q ↔ (v = 0 ∨ v = 1) ∧ Q (some (ab_I v)) σ := ab_r_ireturnZ rfl kc_X13_granted dX13_granted_7
theorem kc_X13_in : ab_code 163 = cX13_in := rfl
theorem ko_X13_in : ab_ow 163 = 13 := rfl
theorem rX13_in_0 : ab_Run X 163 0 (0, 0, 0) [ab_I z, l1, l2] st σ Q ↔ ab_Run X 163 1 (0, 0, 0) [ab_I z, l1, l2] (ab_I z :: st) σ Q := ab_r_iload_n rfl kc_X13_in dX13_in_0
theorem rX13_in_1 : ab_Run X 163 1 (0, 0, 0) [l0, ab_I z, l2] st σ Q ↔ ab_Run X 163 2 (0, 0, 0) [l0, ab_I z, l2] (ab_I z :: st) σ Q := ab_r_iload_n rfl kc_X13_in dX13_in_1
theorem rX13_in_2 : ab_Run X 163 2 (0, 0, 0) L (ab_I b :: ab_I a :: st) σ Q ↔ (a < b → ab_Run X 163 14 (0, 0, 0) L st σ Q) ∧ (¬ (a < b) → ab_Run X 163 5 (0, 0, 0) L st σ Q) := ab_r_icmp_lt rfl kc_X13_in dX13_in_2
theorem rX13_in_5 : ab_Run X 163 5 (0, 0, 0) [ab_I z, l1, l2] st σ Q ↔ ab_Run X 163 6 (0, 0, 0) [ab_I z, l1, l2] (ab_I z :: st) σ Q := ab_r_iload_n rfl kc_X13_in dX13_in_5
theorem rX13_in_6 : ab_Run X 163 6 (0, 0, 0) [l0, l1, ab_I z] st σ Q ↔ ab_Run X 163 7 (0, 0, 0) [l0, l1, ab_I z] (ab_I z :: st) σ Q := ab_r_iload_n rfl kc_X13_in dX13_in_6
theorem rX13_in_7 : ab_Run X 163 7 (0, 0, 0) L (ab_I b :: ab_I a :: st) σ Q ↔ (b < a → ab_Run X 163 14 (0, 0, 0) L st σ Q) ∧ (¬ (b < a) → ab_Run X 163 10 (0, 0, 0) L st σ Q) := ab_r_icmp_gt rfl kc_X13_in dX13_in_7
theorem rX13_in_10 : ab_Run X 163 10 (0, 0, 0) L st σ Q ↔ ab_Run X 163 11 (0, 0, 0) L (ab_I 1 :: st) σ Q := ab_r_iconst (by decide) kc_X13_in dX13_in_10
theorem rX13_in_11 : ab_Run X 163 11 (0, 0, 0) L st σ Q ↔ ab_Run X 163 15 (0, 0, 0) L st σ Q := ab_r_goto rfl kc_X13_in dX13_in_11
theorem rX13_in_14 : ab_Run X 163 14 (0, 0, 0) L st σ Q ↔ ab_Run X 163 15 (0, 0, 0) L (ab_I 0 :: st) σ Q := ab_r_iconst (by decide) kc_X13_in dX13_in_14
theorem rX13_in_15 : ab_Run X 163 15 (0, 0, 0) L [ab_I v] σ Q ↔ (v = 0 ∨ v = 1) ∧ Q (some (ab_I v)) σ := ab_r_ireturnZ rfl kc_X13_in dX13_in_15
theorem kc_X13_bit : ab_code 164 = cX13_bit := rfl
theorem ko_X13_bit : ab_ow 164 = 13 := rfl
theorem rX13_bit_0 : ab_Run X 164 0 (0, 0, 0) [ab_I z, l1] st σ Q ↔ ab_Run X 164 1 (0, 0, 0) [ab_I z, l1] (ab_I z :: st) σ Q := ab_r_iload_n rfl kc_X13_bit dX13_bit_0
theorem rX13_bit_1 : ab_Run X 164 1 (0, 0, 0) [l0, ab_I z] st σ Q ↔ ab_Run X 164 2 (0, 0, 0) [l0, ab_I z] (ab_I z :: st) σ Q := ab_r_iload_n rfl kc_X13_bit dX13_bit_1
theorem rX13_bit_2 : ab_Run X 164 2 (0, 0, 0) L (ab_I b :: ab_I a :: st) σ Q ↔ ab_Run X 164 3 (0, 0, 0) L (ab_I (ab_ok32 (fun x y => x >>> (y &&& 31)) a b) :: st) σ Q := ab_r_ishr kc_X13_bit dX13_bit_2
theorem rX13_bit_3 : ab_Run X 164 3 (0, 0, 0) L st σ Q ↔ ab_Run X 164 4 (0, 0, 0) L (ab_I 1 :: st) σ Q := ab_r_iconst (by decide) kc_X13_bit dX13_bit_3
theorem rX13_bit_4 : ab_Run X 164 4 (0, 0, 0) L (ab_I b :: ab_I a :: st) σ Q ↔ ab_Run X 164 5 (0, 0, 0) L (ab_I (ab_ok32 (fun x y => x &&& y) a b) :: st) σ Q := ab_r_iand kc_X13_bit dX13_bit_4
theorem rX13_bit_5 : ab_Run X 164 5 (0, 0, 0) L st σ Q ↔ ab_Run X 164 6 (0, 0, 0) L (ab_I 1 :: st) σ Q := ab_r_iconst (by decide) kc_X13_bit dX13_bit_5
theorem rX13_bit_6 : ab_Run X 164 6 (0, 0, 0) L (ab_I b :: ab_I a :: st) σ Q ↔ (¬ a = b → ab_Run X 164 13 (0, 0, 0) L st σ Q) ∧ (¬ (¬ a = b) → ab_Run X 164 9 (0, 0, 0) L st σ Q) := ab_r_icmp_ne rfl kc_X13_bit dX13_bit_6
theorem rX13_bit_9 : ab_Run X 164 9 (0, 0, 0) L st σ Q ↔ ab_Run X 164 10 (0, 0, 0) L (ab_I 1 :: st) σ Q := ab_r_iconst (by decide) kc_X13_bit dX13_bit_9
theorem rX13_bit_10 : ab_Run X 164 10 (0, 0, 0) L st σ Q ↔ ab_Run X 164 14 (0, 0, 0) L st σ Q := ab_r_goto rfl kc_X13_bit dX13_bit_10
theorem rX13_bit_13 : ab_Run X 164 13 (0, 0, 0) L st σ Q ↔ ab_Run X 164 14 (0, 0, 0) L (ab_I 0 :: st) σ Q := ab_r_iconst (by decide) kc_X13_bit dX13_bit_13
theorem rX13_bit_14 : ab_Run X 164 14 (0, 0, 0) L [ab_I v] σ Q ↔ (v = 0 ∨ v = 1) ∧ Q (some (ab_I v)) σ := ab_r_ireturnZ rfl kc_X13_bit dX13_bit_14
theorem kc_X13_common : ab_code 165 = cX13_common := rfl
theorem ko_X13_common : ab_ow 165 = 13 := rfl
theorem rX13_common_0 : ab_Run X 165 0 (0, 0, 0) [ab_J z, l1, l2, l3, l4, l5, l6, l7, l8, l9] st σ Q ↔ ab_Run X 165 1 (0, 0, 0) [ab_J z, l1, l2, l3, l4, l5, l6, l7, l8, l9] (ab_J z :: st) σ Q := ab_r_lload_n rfl kc_X13_common dX13_common_0
theorem rX13_common_1 : ab_Run X 165 1 (0, 0, 0) [l0, l1, l2, l3, l4, l5, l6, l7, l8, l9] (ab_J z :: st) σ Q ↔ (!ab_isJ l3) = true ∧ ab_Run X 165 3 (0, 0, 0) [l0, l1, l2, l3, ab_J z, ab_R 0, l6, l7, l8, l9] st σ Q := ab_r_lstore (Nat.le_of_ble_eq_true rfl) kc_X13_common dX13_common_1
theorem rX13_common_3 : ab_Run X 165 3 (0, 0, 0) [l0, l1, ab_J z, l3, l4, l5, l6, l7, l8, l9] st σ Q ↔ ab_Run X 165 4 (0, 0, 0) [l0, l1, ab_J z, l3, l4, l5, l6, l7, l8, l9] (ab_J z :: st) σ Q := ab_r_lload_n rfl kc_X13_common dX13_common_3
theorem rX13_common_4 : ab_Run X 165 4 (0, 0, 0) [l0, l1, l2, l3, l4, l5, l6, l7, l8, l9] (ab_J z :: st) σ Q ↔ (!ab_isJ l5) = true ∧ ab_Run X 165 6 (0, 0, 0) [l0, l1, l2, l3, l4, l5, ab_J z, ab_R 0, l8, l9] st σ Q := ab_r_lstore (Nat.le_of_ble_eq_true rfl) kc_X13_common dX13_common_4
theorem rX13_common_6 : ab_Run X 165 6 (0, 0, 0) [l0, l1, l2, l3, l4, l5, ab_J z, l7, l8, l9] st σ Q ↔ ab_Run X 165 8 (0, 0, 0) [l0, l1, l2, l3, l4, l5, ab_J z, l7, l8, l9] (ab_J z :: st) σ Q := ab_r_lload rfl kc_X13_common dX13_common_6
theorem rX13_common_8 : ab_Run X 165 8 (0, 0, 0) L st σ Q ↔ ab_Run X 165 9 (0, 0, 0) L (ab_J 0 :: st) σ Q := ab_r_lconst kc_X13_common dX13_common_8
theorem rX13_common_9 : ab_Run X 165 9 (0, 0, 0) L (ab_J b :: ab_J a :: st) σ Q ↔ ab_Run X 165 10 (0, 0, 0) L (ab_I (if b < a then 1 else if a = b then 0 else -1) :: st) σ Q := ab_r_lcmp kc_X13_common dX13_common_9
theorem rX13_common_10 : ab_Run X 165 10 (0, 0, 0) L (ab_I a :: st) σ Q ↔ (a = 0 → ab_Run X 165 31 (0, 0, 0) L st σ Q) ∧ (¬ (a = 0) → ab_Run X 165 13 (0, 0, 0) L st σ Q) := ab_r_if_eq rfl kc_X13_common dX13_common_10
theorem rX13_common_13 : ab_Run X 165 13 (0, 0, 0) [l0, l1, l2, l3, ab_J z, l5, l6, l7, l8, l9] st σ Q ↔ ab_Run X 165 15 (0, 0, 0) [l0, l1, l2, l3, ab_J z, l5, l6, l7, l8, l9] (ab_J z :: st) σ Q := ab_r_lload rfl kc_X13_common dX13_common_13
theorem rX13_common_15 : ab_Run X 165 15 (0, 0, 0) [l0, l1, l2, l3, l4, l5, ab_J z, l7, l8, l9] st σ Q ↔ ab_Run X 165 17 (0, 0, 0) [l0, l1, l2, l3, l4, l5, ab_J z, l7, l8, l9] (ab_J z :: st) σ Q := ab_r_lload rfl kc_X13_common dX13_common_15
theorem rX13_common_17 : ab_Run X 165 17 (0, 0, 0) L (ab_J b :: ab_J a :: st) σ Q ↔ b ≠ 0 ∧ ab_Run X 165 18 (0, 0, 0) L (ab_J (a.tmod b) :: st) σ Q := ab_r_lrem kc_X13_common dX13_common_17
theorem rX13_common_18 : ab_Run X 165 18 (0, 0, 0) [l0, l1, l2, l3, l4, l5, l6, l7, l8, l9] (ab_J z :: st) σ Q ↔ (!ab_isJ l7) = true ∧ ab_Run X 165 20 (0, 0, 0) [l0, l1, l2, l3, l4, l5, l6, l7, ab_J z, ab_R 0] st σ Q := ab_r_lstore (Nat.le_of_ble_eq_true rfl) kc_X13_common dX13_common_18
theorem rX13_common_20 : ab_Run X 165 20 (0, 0, 0) [l0, l1, l2, l3, l4, l5, ab_J z, l7, l8, l9] st σ Q ↔ ab_Run X 165 22 (0, 0, 0) [l0, l1, l2, l3, l4, l5, ab_J z, l7, l8, l9] (ab_J z :: st) σ Q := ab_r_lload rfl kc_X13_common dX13_common_20
theorem rX13_common_22 : ab_Run X 165 22 (0, 0, 0) [l0, l1, l2, l3, l4, l5, l6, l7, l8, l9] (ab_J z :: st) σ Q ↔ (!ab_isJ l3) = true ∧ ab_Run X 165 24 (0, 0, 0) [l0, l1, l2, l3, ab_J z, ab_R 0, l6, l7, l8, l9] st σ Q := ab_r_lstore (Nat.le_of_ble_eq_true rfl) kc_X13_common dX13_common_22
theorem rX13_common_24 : ab_Run X 165 24 (0, 0, 0) [l0, l1, l2, l3, l4, l5, l6, l7, ab_J z, l9] st σ Q ↔ ab_Run X 165 26 (0, 0, 0) [l0, l1, l2, l3, l4, l5, l6, l7, ab_J z, l9] (ab_J z :: st) σ Q := ab_r_lload rfl kc_X13_common dX13_common_24
theorem rX13_common_26 : ab_Run X 165 26 (0, 0, 0) [l0, l1, l2, l3, l4, l5, l6, l7, l8, l9] (ab_J z :: st) σ Q ↔ (!ab_isJ l5) = true ∧ ab_Run X 165 28 (0, 0, 0) [l0, l1, l2, l3, l4, l5, ab_J z, ab_R 0, l8, l9] st σ Q := ab_r_lstore (Nat.le_of_ble_eq_true rfl) kc_X13_common dX13_common_26
theorem rX13_common_28 : ab_Run X 165 28 (0, 0, 0) L st σ Q ↔ ab_Run X 165 6 (0, 0, 0) L st σ Q := ab_r_goto rfl kc_X13_common dX13_common_28
theorem rX13_common_31 : ab_Run X 165 31 (0, 0, 0) [l0, l1, l2, l3, ab_J z, l5, l6, l7, l8, l9] st σ Q ↔ ab_Run X 165 33 (0, 0, 0) [l0, l1, l2, l3, ab_J z, l5, l6, l7, l8, l9] (ab_J z :: st) σ Q := ab_r_lload rfl kc_X13_common dX13_common_31
theorem rX13_common_33 : ab_Run X 165 33 (0, 0, 0) L [ab_J v] σ Q ↔ Q (some (ab_J v)) σ := ab_r_lreturn rfl kc_X13_common dX13_common_33
theorem kc_X13_fraction : ab_code 166 = cX13_fraction := rfl
theorem ko_X13_fraction : ab_ow 166 = 13 := rfl
theorem rX13_fraction_0 : ab_Run X 166 0 (1, 0, 0) [ab_R z, l1, l2, l3, l4, l5] st σ Q ↔ z ≠ 0 ∧ ab_Run X 166 1 (1, 0, 0) [ab_R z, l1, l2, l3, l4, l5] (ab_R z :: st) σ Q := ab_r_aload_n rfl kc_X13_fraction dX13_fraction_0
theorem rX13_fraction_1 : ab_Run X 166 1 (1, 0, 0) L st σ Q ↔ ab_Run X 166 2 (1, 0, 0) L (ab_I 0 :: st) σ Q := ab_r_iconst (by decide) kc_X13_fraction dX13_fraction_1
theorem rX13_fraction_2 : ab_Run X 166 2 (1, 0, 0) L (ab_I x1 :: ab_R a :: st) σ Q ↔ ((ab_sh σ a).1 = 14 ∧ ab_cats st ≤ 8) ∧ ab_Do X 161 [ab_R a, ab_I x1] σ (fun r σ' => ab_Run X 166 5 (1, 0, 0) L (ab_psh r st) σ' Q) := ab_r_callV (w := [ab_I x1]) (as := [ab_I x1]) (b1 := (0, 0, 0)) 0 (Or.inl rfl) (by decide) ko_X13_fraction qM_13_63 (by decide) rfl rfl rfl rfl rfl (by decide) (Nat.le_of_ble_eq_true rfl) kc_X13_fraction dX13_fraction_2
theorem rX13_fraction_5I : ab_Run X 166 5 (1, 0, 0) L (ab_I a :: st) σ Q ↔ ab_Run X 166 6 (1, 0, 0) L st σ Q := ab_r_popI kc_X13_fraction dX13_fraction_5
theorem rX13_fraction_5R : ab_Run X 166 5 (1, 0, 0) L (ab_R a :: st) σ Q ↔ ab_Run X 166 6 (1, 0, 0) L st σ Q := ab_r_popR kc_X13_fraction dX13_fraction_5
theorem rX13_fraction_6 : ab_Run X 166 6 (1, 0, 0) [l0, l1, l2, l3, l4, ab_I z] st σ Q ↔ ab_Run X 166 8 (1, 0, 0) [l0, l1, l2, l3, l4, ab_I z] (ab_I z :: st) σ Q := ab_r_iload rfl kc_X13_fraction dX13_fraction_6
theorem rX13_fraction_8 : ab_Run X 166 8 (1, 0, 0) L (ab_I a :: st) σ Q ↔ (a = 0 → ab_Run X 166 15 (1, 0, 0) L st σ Q) ∧ (¬ (a = 0) → ab_Run X 166 11 (1, 0, 0) L st σ Q) := ab_r_if_eq rfl kc_X13_fraction dX13_fraction_8
theorem rX13_fraction_11 : ab_Run X 166 11 (1, 0, 0) [l0, l1, l2, ab_J z, l4, l5] st σ Q ↔ ab_Run X 166 12 (1, 0, 0) [l0, l1, l2, ab_J z, l4, l5] (ab_J z :: st) σ Q := ab_r_lload_n rfl kc_X13_fraction dX13_fraction_11
theorem rX13_fraction_12 : ab_Run X 166 12 (1, 0, 0) L st σ Q ↔ ab_Run X 166 16 (1, 0, 0) L st σ Q := ab_r_goto rfl kc_X13_fraction dX13_fraction_12
theorem rX13_fraction_15 : ab_Run X 166 15 (1, 0, 0) [l0, ab_J z, l2, l3, l4, l5] st σ Q ↔ ab_Run X 166 16 (1, 0, 0) [l0, ab_J z, l2, l3, l4, l5] (ab_J z :: st) σ Q := ab_r_lload_n rfl kc_X13_fraction dX13_fraction_15
theorem rX13_fraction_16 : ab_Run X 166 16 (1, 0, 0) [l0, ab_J z, l2, l3, l4, l5] st σ Q ↔ ab_Run X 166 17 (1, 0, 0) [l0, ab_J z, l2, l3, l4, l5] (ab_J z :: st) σ Q := ab_r_lload_n rfl kc_X13_fraction dX13_fraction_16
theorem rX13_fraction_17 : ab_Run X 166 17 (1, 0, 0) [l0, l1, l2, ab_J z, l4, l5] st σ Q ↔ ab_Run X 166 18 (1, 0, 0) [l0, l1, l2, ab_J z, l4, l5] (ab_J z :: st) σ Q := ab_r_lload_n rfl kc_X13_fraction dX13_fraction_17
theorem rX13_fraction_18 : ab_Run X 166 18 (1, 0, 0) L (ab_J x2 :: ab_J x1 :: st) σ Q ↔ ab_cats st ≤ 8 ∧ ab_Do X 165 [ab_J x1, ab_J x2] σ (fun r σ' => ab_Run X 166 21 (1, 0, 0) L (ab_psh r st) σ' Q) := ab_r_callS (w := [ab_J x2, ab_J x1]) (as := [ab_J x1, ab_J x2]) (b1 := (0, 0, 0)) (by decide) ko_X13_fraction qM_13_66 (by decide) rfl rfl rfl rfl (by decide) (Nat.le_of_ble_eq_true rfl) kc_X13_fraction dX13_fraction_18
theorem rX13_fraction_21 : ab_Run X 166 21 (1, 0, 0) L (ab_J b :: ab_J a :: st) σ Q ↔ b ≠ 0 ∧ ab_Run X 166 22 (1, 0, 0) L (ab_J (ab_w64 (a.tdiv b)) :: st) σ Q := ab_r_ldiv kc_X13_fraction dX13_fraction_21
theorem rX13_fraction_22 : ab_Run X 166 22 (1, 0, 0) L [ab_J v] σ Q ↔ Q (some (ab_J v)) σ := ab_r_lreturn rfl kc_X13_fraction dX13_fraction_22
theorem kc_X13_byteAt : ab_code 167 = cX13_byteAt := rfl
theorem ko_X13_byteAt : ab_ow 167 = 13 := rfl
theorem rX13_byteAt_0 : ab_Run X 167 0 (0, 0, 0) [l0, ab_I z] st σ Q ↔ ab_Run X 167 1 (0, 0, 0) [l0, ab_I z] (ab_I z :: st) σ Q := ab_r_iload_n rfl kc_X13_byteAt dX13_byteAt_0
theorem rX13_byteAt_1 : ab_Run X 167 1 (0, 0, 0) [ab_R z, l1] st σ Q ↔ z ≠ 0 ∧ ab_Run X 167 2 (0, 0, 0) [ab_R z, l1] (ab_R z :: st) σ Q := ab_r_aload_n rfl kc_X13_byteAt dX13_byteAt_1
theorem rX13_byteAt_2 : ab_Run X 167 2 (0, 0, 0) L (ab_R a :: st) σ Q ↔ (ab_sh σ a).1 = 14 ∧ ab_Run X 167 5 (0, 0, 0) L (ab_I (ab_rd σ a 7) :: st) σ Q := gF_13_70 ko_X13_byteAt kc_X13_byteAt dX13_byteAt_2
theorem rX13_byteAt_5 : ab_Run X 167 5 (0, 0, 0) L (ab_I b :: ab_I a :: st) σ Q ↔ (b ≤ a → ab_Run X 167 21 (0, 0, 0) L st σ Q) ∧ (¬ (b ≤ a) → ab_Run X 167 8 (0, 0, 0) L st σ Q) := ab_r_icmp_ge rfl kc_X13_byteAt dX13_byteAt_5
theorem rX13_byteAt_8 : ab_Run X 167 8 (0, 0, 0) [ab_R z, l1] st σ Q ↔ z ≠ 0 ∧ ab_Run X 167 9 (0, 0, 0) [ab_R z, l1] (ab_R z :: st) σ Q := ab_r_aload_n rfl kc_X13_byteAt dX13_byteAt_8
theorem rX13_byteAt_9 : ab_Run X 167 9 (0, 0, 0) L (ab_R a :: st) σ Q ↔ (ab_sh σ a).1 = 14 ∧ ab_Run X 167 12 (0, 0, 0) L (ab_R (ab_rd σ a 5) :: st) σ Q := gF_13_13 ko_X13_byteAt kc_X13_byteAt dX13_byteAt_9
theorem rX13_byteAt_12 : ab_Run X 167 12 (0, 0, 0) [l0, ab_I z] st σ Q ↔ ab_Run X 167 13 (0, 0, 0) [l0, ab_I z] (ab_I z :: st) σ Q := ab_r_iload_n rfl kc_X13_byteAt dX13_byteAt_12
theorem rX13_byteAt_13 : ab_Run X 167 13 (0, 0, 0) L (ab_I i :: ab_R a :: st) σ Q ↔ (((ab_sh σ a).1 = 23 ∨ (ab_sh σ a).1 = 24) ∧ 0 ≤ i ∧ i < (ab_sh σ a).2) ∧ ab_Run X 167 14 (0, 0, 0) L (ab_I (ab_rd σ a i) :: st) σ Q := ab_r_baload kc_X13_byteAt dX13_byteAt_13
theorem rX13_byteAt_14 : ab_Run X 167 14 (0, 0, 0) L st σ Q ↔ ab_Run X 167 17 (0, 0, 0) L (ab_I 255 :: st) σ Q := ab_r_sipush (by decide) kc_X13_byteAt dX13_byteAt_14
theorem rX13_byteAt_17 : ab_Run X 167 17 (0, 0, 0) L (ab_I b :: ab_I a :: st) σ Q ↔ ab_Run X 167 18 (0, 0, 0) L (ab_I (ab_ok32 (fun x y => x &&& y) a b) :: st) σ Q := ab_r_iand kc_X13_byteAt dX13_byteAt_17
theorem rX13_byteAt_18 : ab_Run X 167 18 (0, 0, 0) L st σ Q ↔ ab_Run X 167 22 (0, 0, 0) L st σ Q := ab_r_goto rfl kc_X13_byteAt dX13_byteAt_18
theorem rX13_byteAt_21 : ab_Run X 167 21 (0, 0, 0) L st σ Q ↔ ab_Run X 167 22 (0, 0, 0) L (ab_I (-1) :: st) σ Q := ab_r_iconst (by decide) kc_X13_byteAt dX13_byteAt_21
theorem rX13_byteAt_22 : ab_Run X 167 22 (0, 0, 0) L [ab_I v] σ Q ↔ Q (some (ab_I v)) σ := ab_r_ireturnI rfl kc_X13_byteAt dX13_byteAt_22
theorem kc_X13_isLetter : ab_code 168 = cX13_isLetter := rfl
theorem ko_X13_isLetter : ab_ow 168 = 13 := rfl
theorem rX13_isLetter_0 : ab_Run X 168 0 (0, 0, 0) [ab_I z] st σ Q ↔ ab_Run X 168 1 (0, 0, 0) [ab_I z] (ab_I z :: st) σ Q := ab_r_iload_n rfl kc_X13_isLetter dX13_isLetter_0
theorem rX13_isLetter_1 : ab_Run X 168 1 (0, 0, 0) L st σ Q ↔ ab_Run X 168 3 (0, 0, 0) L (ab_I 97 :: st) σ Q := ab_r_bipush (by decide) kc_X13_isLetter dX13_isLetter_1
theorem rX13_isLetter_3 : ab_Run X 168 3 (0, 0, 0) L (ab_I b :: ab_I a :: st) σ Q ↔ (a < b → ab_Run X 168 16 (0, 0, 0) L st σ Q) ∧ (¬ (a < b) → ab_Run X 168 6 (0, 0, 0) L st σ Q) := ab_r_icmp_lt rfl kc_X13_isLetter dX13_isLetter_3
theorem rX13_isLetter_6 : ab_Run X 168 6 (0, 0, 0) [ab_I z] st σ Q ↔ ab_Run X 168 7 (0, 0, 0) [ab_I z] (ab_I z :: st) σ Q := ab_r_iload_n rfl kc_X13_isLetter dX13_isLetter_6
theorem rX13_isLetter_7 : ab_Run X 168 7 (0, 0, 0) L st σ Q ↔ ab_Run X 168 9 (0, 0, 0) L (ab_I 122 :: st) σ Q := ab_r_bipush (by decide) kc_X13_isLetter dX13_isLetter_7
theorem rX13_isLetter_9 : ab_Run X 168 9 (0, 0, 0) L (ab_I b :: ab_I a :: st) σ Q ↔ (b < a → ab_Run X 168 16 (0, 0, 0) L st σ Q) ∧ (¬ (b < a) → ab_Run X 168 12 (0, 0, 0) L st σ Q) := ab_r_icmp_gt rfl kc_X13_isLetter dX13_isLetter_9
theorem rX13_isLetter_12 : ab_Run X 168 12 (0, 0, 0) L st σ Q ↔ ab_Run X 168 13 (0, 0, 0) L (ab_I 1 :: st) σ Q := ab_r_iconst (by decide) kc_X13_isLetter dX13_isLetter_12
theorem rX13_isLetter_13 : ab_Run X 168 13 (0, 0, 0) L st σ Q ↔ ab_Run X 168 17 (0, 0, 0) L st σ Q := ab_r_goto rfl kc_X13_isLetter dX13_isLetter_13
theorem rX13_isLetter_16 : ab_Run X 168 16 (0, 0, 0) L st σ Q ↔ ab_Run X 168 17 (0, 0, 0) L (ab_I 0 :: st) σ Q := ab_r_iconst (by decide) kc_X13_isLetter dX13_isLetter_16
theorem rX13_isLetter_17 : ab_Run X 168 17 (0, 0, 0) L [ab_I v] σ Q ↔ (v = 0 ∨ v = 1) ∧ Q (some (ab_I v)) σ := ab_r_ireturnZ rfl kc_X13_isLetter dX13_isLetter_17
theorem kc_X13_isDigit : ab_code 169 = cX13_isDigit := rfl
theorem ko_X13_isDigit : ab_ow 169 = 13 := rfl
theorem rX13_isDigit_0 : ab_Run X 169 0 (0, 0, 0) [ab_I z] st σ Q ↔ ab_Run X 169 1 (0, 0, 0) [ab_I z] (ab_I z :: st) σ Q := ab_r_iload_n rfl kc_X13_isDigit dX13_isDigit_0
theorem rX13_isDigit_1 : ab_Run X 169 1 (0, 0, 0) L st σ Q ↔ ab_Run X 169 3 (0, 0, 0) L (ab_I 48 :: st) σ Q := ab_r_bipush (by decide) kc_X13_isDigit dX13_isDigit_1
theorem rX13_isDigit_3 : ab_Run X 169 3 (0, 0, 0) L (ab_I b :: ab_I a :: st) σ Q ↔ (a < b → ab_Run X 169 16 (0, 0, 0) L st σ Q) ∧ (¬ (a < b) → ab_Run X 169 6 (0, 0, 0) L st σ Q) := ab_r_icmp_lt rfl kc_X13_isDigit dX13_isDigit_3
theorem rX13_isDigit_6 : ab_Run X 169 6 (0, 0, 0) [ab_I z] st σ Q ↔ ab_Run X 169 7 (0, 0, 0) [ab_I z] (ab_I z :: st) σ Q := ab_r_iload_n rfl kc_X13_isDigit dX13_isDigit_6
theorem rX13_isDigit_7 : ab_Run X 169 7 (0, 0, 0) L st σ Q ↔ ab_Run X 169 9 (0, 0, 0) L (ab_I 57 :: st) σ Q := ab_r_bipush (by decide) kc_X13_isDigit dX13_isDigit_7
theorem rX13_isDigit_9 : ab_Run X 169 9 (0, 0, 0) L (ab_I b :: ab_I a :: st) σ Q ↔ (b < a → ab_Run X 169 16 (0, 0, 0) L st σ Q) ∧ (¬ (b < a) → ab_Run X 169 12 (0, 0, 0) L st σ Q) := ab_r_icmp_gt rfl kc_X13_isDigit dX13_isDigit_9
theorem rX13_isDigit_12 : ab_Run X 169 12 (0, 0, 0) L st σ Q ↔ ab_Run X 169 13 (0, 0, 0) L (ab_I 1 :: st) σ Q := ab_r_iconst (by decide) kc_X13_isDigit dX13_isDigit_12
theorem rX13_isDigit_13 : ab_Run X 169 13 (0, 0, 0) L st σ Q ↔ ab_Run X 169 17 (0, 0, 0) L st σ Q := ab_r_goto rfl kc_X13_isDigit dX13_isDigit_13
theorem rX13_isDigit_16 : ab_Run X 169 16 (0, 0, 0) L st σ Q ↔ ab_Run X 169 17 (0, 0, 0) L (ab_I 0 :: st) σ Q := ab_r_iconst (by decide) kc_X13_isDigit dX13_isDigit_16
theorem rX13_isDigit_17 : ab_Run X 169 17 (0, 0, 0) L [ab_I v] σ Q ↔ (v = 0 ∨ v = 1) ∧ Q (some (ab_I v)) σ := ab_r_ireturnZ rfl kc_X13_isDigit dX13_isDigit_17
theorem kc_X13_wordOf : ab_code 170 = cX13_wordOf := rfl
theorem ko_X13_wordOf : ab_ow 170 = 13 := rfl
theorem rX13_wordOf_0 : ab_Run X 170 0 (10, 0, 0) L st σ Q ↔ ab_Run X 170 1 (10, 0, 0) L (ab_J 0 :: st) σ Q := ab_r_lconst kc_X13_wordOf dX13_wordOf_0
theorem rX13_wordOf_1 : ab_Run X 170 1 (10, 0, 0) [l0, l1, l2, l3] (ab_J z :: st) σ Q ↔ (!ab_isJ l0) = true ∧ ab_Run X 170 2 (10, 0, 0) [l0, ab_J z, ab_R 0, l3] st σ Q := ab_r_lstore_n (Nat.le_of_ble_eq_true rfl) kc_X13_wordOf dX13_wordOf_1
theorem rX13_wordOf_2 : ab_Run X 170 2 (10, 0, 0) L st σ Q ↔ ab_Run X 170 3 (10, 0, 0) L (ab_I 0 :: st) σ Q := ab_r_iconst (by decide) kc_X13_wordOf dX13_wordOf_2
theorem rX13_wordOf_3 : ab_Run X 170 3 (10, 0, 0) [l0, l1, l2, l3] (ab_I z :: st) σ Q ↔ (!ab_isJ l2) = true ∧ ab_Run X 170 4 (10, 0, 0) [l0, l1, l2, ab_I z] st σ Q := ab_r_istore_n (Nat.le_of_ble_eq_true rfl) kc_X13_wordOf dX13_wordOf_3
theorem rX13_wordOf_4 : ab_Run X 170 4 (10, 0, 0) [l0, l1, l2, ab_I z] st σ Q ↔ ab_Run X 170 5 (10, 0, 0) [l0, l1, l2, ab_I z] (ab_I z :: st) σ Q := ab_r_iload_n rfl kc_X13_wordOf dX13_wordOf_4
theorem rX13_wordOf_5 : ab_Run X 170 5 (10, 0, 0) [ab_R z, l1, l2, l3] st σ Q ↔ z ≠ 0 ∧ ab_Run X 170 6 (10, 0, 0) [ab_R z, l1, l2, l3] (ab_R z :: st) σ Q := ab_r_aload_n rfl kc_X13_wordOf dX13_wordOf_5
theorem rX13_wordOf_6 : ab_Run X 170 6 (10, 0, 0) L (ab_R a :: st) σ Q ↔ (a ≤ -2 ∧ (-2 - a).toNat < ab_txt.length ∧ ab_cats st ≤ 8) ∧ ab_Run X 170 9 (10, 0, 0) L (ab_I (ab_txt.getD (-2 - a).toNat []).length :: st) σ Q := ab_r_strlen (by decide) ko_X13_wordOf qM_13_73 (by decide) kc_X13_wordOf dX13_wordOf_6
theorem rX13_wordOf_9 : ab_Run X 170 9 (10, 0, 0) L (ab_I b :: ab_I a :: st) σ Q ↔ (b ≤ a → ab_Run X 170 36 (10, 0, 0) L st σ Q) ∧ (¬ (b ≤ a) → ab_Run X 170 12 (10, 0, 0) L st σ Q) := ab_r_icmp_ge rfl kc_X13_wordOf dX13_wordOf_9
theorem rX13_wordOf_12 : ab_Run X 170 12 (10, 0, 0) L st σ Q ↔ ab_Run X 170 15 (10, 0, 0) L (ab_J 32 :: st) σ Q := ab_r_ldc2_w rfl ko_X13_wordOf (by decide +kernel) kc_X13_wordOf dX13_wordOf_12
theorem rX13_wordOf_15 : ab_Run X 170 15 (10, 0, 0) [l0, ab_J z, l2, l3] st σ Q ↔ ab_Run X 170 16 (10, 0, 0) [l0, ab_J z, l2, l3] (ab_J z :: st) σ Q := ab_r_lload_n rfl kc_X13_wordOf dX13_wordOf_15
theorem rX13_wordOf_16 : ab_Run X 170 16 (10, 0, 0) L (ab_J b :: ab_J a :: st) σ Q ↔ ab_Run X 170 17 (10, 0, 0) L (ab_J (ab_w64 (a * b)) :: st) σ Q := ab_r_lmul kc_X13_wordOf dX13_wordOf_16
theorem rX13_wordOf_17 : ab_Run X 170 17 (10, 0, 0) [ab_R z, l1, l2, l3] st σ Q ↔ z ≠ 0 ∧ ab_Run X 170 18 (10, 0, 0) [ab_R z, l1, l2, l3] (ab_R z :: st) σ Q := ab_r_aload_n rfl kc_X13_wordOf dX13_wordOf_17
theorem rX13_wordOf_18 : ab_Run X 170 18 (10, 0, 0) [l0, l1, l2, ab_I z] st σ Q ↔ ab_Run X 170 19 (10, 0, 0) [l0, l1, l2, ab_I z] (ab_I z :: st) σ Q := ab_r_iload_n rfl kc_X13_wordOf dX13_wordOf_18
theorem rX13_wordOf_19 : ab_Run X 170 19 (10, 0, 0) L (ab_I j :: ab_R a :: st) σ Q ↔ (a ≤ -2 ∧ (-2 - a).toNat < ab_txt.length ∧ ab_cats st ≤ 8 ∧ 0 ≤ j ∧ j < (ab_txt.getD (-2 - a).toNat []).length) ∧ ab_Run X 170 22 (10, 0, 0) L (ab_I ((ab_txt.getD (-2 - a).toNat []).getD j.toNat 0) :: st) σ Q := ab_r_charAt (by decide) ko_X13_wordOf qM_13_81 (by decide) kc_X13_wordOf dX13_wordOf_19
theorem rX13_wordOf_22 : ab_Run X 170 22 (10, 0, 0) L st σ Q ↔ ab_Run X 170 24 (10, 0, 0) L (ab_I 97 :: st) σ Q := ab_r_bipush (by decide) kc_X13_wordOf dX13_wordOf_22
theorem rX13_wordOf_24 : ab_Run X 170 24 (10, 0, 0) L (ab_I b :: ab_I a :: st) σ Q ↔ ab_Run X 170 25 (10, 0, 0) L (ab_I (ab_w32 (a - b)) :: st) σ Q := ab_r_isub kc_X13_wordOf dX13_wordOf_24
theorem rX13_wordOf_25 : ab_Run X 170 25 (10, 0, 0) L st σ Q ↔ ab_Run X 170 26 (10, 0, 0) L (ab_I 1 :: st) σ Q := ab_r_iconst (by decide) kc_X13_wordOf dX13_wordOf_25
theorem rX13_wordOf_26 : ab_Run X 170 26 (10, 0, 0) L (ab_I b :: ab_I a :: st) σ Q ↔ ab_Run X 170 27 (10, 0, 0) L (ab_I (ab_w32 (a + b)) :: st) σ Q := ab_r_iadd kc_X13_wordOf dX13_wordOf_26
theorem rX13_wordOf_27 : ab_Run X 170 27 (10, 0, 0) L (ab_I a :: st) σ Q ↔ ab_Run X 170 28 (10, 0, 0) L (ab_J a :: st) σ Q := ab_r_i2l kc_X13_wordOf dX13_wordOf_27
theorem rX13_wordOf_28 : ab_Run X 170 28 (10, 0, 0) L (ab_J b :: ab_J a :: st) σ Q ↔ ab_Run X 170 29 (10, 0, 0) L (ab_J (ab_w64 (a + b)) :: st) σ Q := ab_r_ladd kc_X13_wordOf dX13_wordOf_28
theorem rX13_wordOf_29 : ab_Run X 170 29 (10, 0, 0) [l0, l1, l2, l3] (ab_J z :: st) σ Q ↔ (!ab_isJ l0) = true ∧ ab_Run X 170 30 (10, 0, 0) [l0, ab_J z, ab_R 0, l3] st σ Q := ab_r_lstore_n (Nat.le_of_ble_eq_true rfl) kc_X13_wordOf dX13_wordOf_29
theorem rX13_wordOf_30 : ab_Run X 170 30 (10, 0, 0) [l0, l1, l2, ab_I z] st σ Q ↔ (!ab_isJ l2) = true ∧ ab_Run X 170 33 (10, 0, 0) [l0, l1, l2, ab_I (ab_w32 (z + 1))] st σ Q := ab_r_iinc rfl (by decide) kc_X13_wordOf dX13_wordOf_30
theorem rX13_wordOf_33 : ab_Run X 170 33 (10, 0, 0) L st σ Q ↔ ab_Run X 170 4 (10, 0, 0) L st σ Q := ab_r_goto rfl kc_X13_wordOf dX13_wordOf_33
theorem rX13_wordOf_36 : ab_Run X 170 36 (10, 0, 0) [l0, ab_J z, l2, l3] st σ Q ↔ ab_Run X 170 37 (10, 0, 0) [l0, ab_J z, l2, l3] (ab_J z :: st) σ Q := ab_r_lload_n rfl kc_X13_wordOf dX13_wordOf_36
theorem rX13_wordOf_37 : ab_Run X 170 37 (10, 0, 0) L [ab_J v] σ Q ↔ Q (some (ab_J v)) σ := ab_r_lreturn rfl kc_X13_wordOf dX13_wordOf_37
theorem kc_X13_goesOn : ab_code 171 = cX13_goesOn := rfl
theorem ko_X13_goesOn : ab_ow 171 = 13 := rfl
theorem rX13_goesOn_0 : ab_Run X 171 0 (1, 0, 0) [ab_R z, l1, l2] st σ Q ↔ z ≠ 0 ∧ ab_Run X 171 1 (1, 0, 0) [ab_R z, l1, l2] (ab_R z :: st) σ Q := ab_r_aload_n rfl kc_X13_goesOn dX13_goesOn_0
theorem rX13_goesOn_1 : ab_Run X 171 1 (1, 0, 0) L (ab_R a :: st) σ Q ↔ (ab_sh σ a).1 = 14 ∧ ab_Run X 171 4 (1, 0, 0) L (ab_I (ab_rd σ a 9) :: st) σ Q := gF_13_85 ko_X13_goesOn kc_X13_goesOn dX13_goesOn_1
theorem rX13_goesOn_4 : ab_Run X 171 4 (1, 0, 0) L st σ Q ↔ ab_Run X 171 5 (1, 0, 0) L (ab_I 5 :: st) σ Q := ab_r_iconst (by decide) kc_X13_goesOn dX13_goesOn_4
theorem rX13_goesOn_5 : ab_Run X 171 5 (1, 0, 0) L (ab_I b :: ab_I a :: st) σ Q ↔ (¬ a = b → ab_Run X 171 9 (1, 0, 0) L st σ Q) ∧ (¬ (¬ a = b) → ab_Run X 171 8 (1, 0, 0) L st σ Q) := ab_r_icmp_ne rfl kc_X13_goesOn dX13_goesOn_5
theorem rX13_goesOn_8 : ab_Run X 171 8 (1, 0, 0) L [] σ Q ↔ Q none σ := ab_r_return rfl kc_X13_goesOn dX13_goesOn_8
theorem rX13_goesOn_9 : ab_Run X 171 9 (1, 0, 0) [ab_R z, l1, l2] st σ Q ↔ z ≠ 0 ∧ ab_Run X 171 10 (1, 0, 0) [ab_R z, l1, l2] (ab_R z :: st) σ Q := ab_r_aload_n rfl kc_X13_goesOn dX13_goesOn_9
theorem rX13_goesOn_10 : ab_Run X 171 10 (1, 0, 0) [ab_R z, l1, l2] st σ Q ↔ z ≠ 0 ∧ ab_Run X 171 11 (1, 0, 0) [ab_R z, l1, l2] (ab_R z :: st) σ Q := ab_r_aload_n rfl kc_X13_goesOn dX13_goesOn_10
theorem rX13_goesOn_11 : ab_Run X 171 11 (1, 0, 0) L (ab_R a :: st) σ Q ↔ (ab_sh σ a).1 = 14 ∧ ab_Run X 171 14 (1, 0, 0) L (ab_I (ab_rd σ a 8) :: st) σ Q := gF_13_88 ko_X13_goesOn kc_X13_goesOn dX13_goesOn_11
theorem rX13_goesOn_14 : ab_Run X 171 14 (1, 0, 0) L (ab_I x1 :: ab_R a :: st) σ Q ↔ ((ab_sh σ a).1 = 14 ∧ ab_cats st ≤ 8) ∧ ab_Do X 167 [ab_R a, ab_I x1] σ (fun r σ' => ab_Run X 171 17 (1, 0, 0) L (ab_psh r st) σ' Q) := ab_r_callV (w := [ab_I x1]) (as := [ab_I x1]) (b1 := (0, 0, 0)) 0 (Or.inl rfl) (by decide) ko_X13_goesOn qM_13_91 (by decide) rfl rfl rfl rfl rfl (by decide) (Nat.le_of_ble_eq_true rfl) kc_X13_goesOn dX13_goesOn_14
theorem rX13_goesOn_17 : ab_Run X 171 17 (1, 0, 0) L st σ Q ↔ ab_Run X 171 19 (1, 0, 0) L (ab_I 32 :: st) σ Q := ab_r_bipush (by decide) kc_X13_goesOn dX13_goesOn_17
theorem rX13_goesOn_19 : ab_Run X 171 19 (1, 0, 0) L (ab_I b :: ab_I a :: st) σ Q ↔ (¬ a = b → ab_Run X 171 35 (1, 0, 0) L st σ Q) ∧ (¬ (¬ a = b) → ab_Run X 171 22 (1, 0, 0) L st σ Q) := ab_r_icmp_ne rfl kc_X13_goesOn dX13_goesOn_19
theorem rX13_goesOn_22 : ab_Run X 171 22 (1, 0, 0) [ab_R z, l1, l2] st σ Q ↔ z ≠ 0 ∧ ab_Run X 171 23 (1, 0, 0) [ab_R z, l1, l2] (ab_R z :: st) σ Q := ab_r_aload_n rfl kc_X13_goesOn dX13_goesOn_22
theorem rX13_goesOn_23I : ab_Run X 171 23 (1, 0, 0) L (ab_I a :: st) σ Q ↔ ab_Run X 171 24 (1, 0, 0) L (ab_I a :: ab_I a :: st) σ Q := ab_r_dupI kc_X13_goesOn dX13_goesOn_23
theorem rX13_goesOn_23R : ab_Run X 171 23 (1, 0, 0) L (ab_R a :: st) σ Q ↔ ab_Run X 171 24 (1, 0, 0) L (ab_R a :: ab_R a :: st) σ Q := ab_r_dupR kc_X13_goesOn dX13_goesOn_23
theorem rX13_goesOn_24 : ab_Run X 171 24 (1, 0, 0) L (ab_R a :: st) σ Q ↔ (ab_sh σ a).1 = 14 ∧ ab_Run X 171 27 (1, 0, 0) L (ab_I (ab_rd σ a 8) :: st) σ Q := gF_13_88 ko_X13_goesOn kc_X13_goesOn dX13_goesOn_24
theorem rX13_goesOn_27 : ab_Run X 171 27 (1, 0, 0) L st σ Q ↔ ab_Run X 171 28 (1, 0, 0) L (ab_I 1 :: st) σ Q := ab_r_iconst (by decide) kc_X13_goesOn dX13_goesOn_27
theorem rX13_goesOn_28 : ab_Run X 171 28 (1, 0, 0) L (ab_I b :: ab_I a :: st) σ Q ↔ ab_Run X 171 29 (1, 0, 0) L (ab_I (ab_w32 (a + b)) :: st) σ Q := ab_r_iadd kc_X13_goesOn dX13_goesOn_28
theorem rX13_goesOn_29 : ab_Run X 171 29 (1, 0, 0) L (ab_I z :: ab_R a :: st) σ Q ↔ (ab_sh σ a).1 = 14 ∧ ab_Run X 171 32 (1, 0, 0) L st (ab_wr σ a 8 z) Q := sF_13_88 ko_X13_goesOn kc_X13_goesOn dX13_goesOn_29
theorem rX13_goesOn_32 : ab_Run X 171 32 (1, 0, 0) L st σ Q ↔ ab_Run X 171 9 (1, 0, 0) L st σ Q := ab_r_goto rfl kc_X13_goesOn dX13_goesOn_32
theorem rX13_goesOn_35 : ab_Run X 171 35 (1, 0, 0) [ab_R z, l1, l2] st σ Q ↔ z ≠ 0 ∧ ab_Run X 171 36 (1, 0, 0) [ab_R z, l1, l2] (ab_R z :: st) σ Q := ab_r_aload_n rfl kc_X13_goesOn dX13_goesOn_35
theorem rX13_goesOn_36 : ab_Run X 171 36 (1, 0, 0) [ab_R z, l1, l2] st σ Q ↔ z ≠ 0 ∧ ab_Run X 171 37 (1, 0, 0) [ab_R z, l1, l2] (ab_R z :: st) σ Q := ab_r_aload_n rfl kc_X13_goesOn dX13_goesOn_36
theorem rX13_goesOn_37 : ab_Run X 171 37 (1, 0, 0) L (ab_R a :: st) σ Q ↔ (ab_sh σ a).1 = 14 ∧ ab_Run X 171 40 (1, 0, 0) L (ab_I (ab_rd σ a 8) :: st) σ Q := gF_13_88 ko_X13_goesOn kc_X13_goesOn dX13_goesOn_37
theorem rX13_goesOn_40 : ab_Run X 171 40 (1, 0, 0) L (ab_I z :: ab_R a :: st) σ Q ↔ (ab_sh σ a).1 = 14 ∧ ab_Run X 171 43 (1, 0, 0) L st (ab_wr σ a 10 z) Q := sF_13_94 ko_X13_goesOn kc_X13_goesOn dX13_goesOn_40
theorem rX13_goesOn_43 : ab_Run X 171 43 (1, 0, 0) [ab_R z, l1, l2] st σ Q ↔ z ≠ 0 ∧ ab_Run X 171 44 (1, 0, 0) [ab_R z, l1, l2] (ab_R z :: st) σ Q := ab_r_aload_n rfl kc_X13_goesOn dX13_goesOn_43
theorem rX13_goesOn_44 : ab_Run X 171 44 (1, 0, 0) L st σ Q ↔ ab_Run X 171 45 (1, 0, 0) L (ab_I 0 :: st) σ Q := ab_r_iconst (by decide) kc_X13_goesOn dX13_goesOn_44
theorem rX13_goesOn_45 : ab_Run X 171 45 (1, 0, 0) L (ab_I z :: ab_R a :: st) σ Q ↔ (ab_sh σ a).1 = 14 ∧ ab_Run X 171 48 (1, 0, 0) L st (ab_wr σ a 9 z) Q := sF_13_85 ko_X13_goesOn kc_X13_goesOn dX13_goesOn_45
theorem rX13_goesOn_48 : ab_Run X 171 48 (1, 0, 0) [ab_R z, l1, l2] st σ Q ↔ z ≠ 0 ∧ ab_Run X 171 49 (1, 0, 0) [ab_R z, l1, l2] (ab_R z :: st) σ Q := ab_r_aload_n rfl kc_X13_goesOn dX13_goesOn_48
theorem rX13_goesOn_49 : ab_Run X 171 49 (1, 0, 0) L st σ Q ↔ ab_Run X 171 50 (1, 0, 0) L (ab_I 0 :: st) σ Q := ab_r_iconst (by decide) kc_X13_goesOn dX13_goesOn_49
theorem rX13_goesOn_50 : ab_Run X 171 50 (1, 0, 0) L (ab_I z :: ab_R a :: st) σ Q ↔ (ab_sh σ a).1 = 14 ∧ ab_Run X 171 53 (1, 0, 0) L st (ab_wr σ a 11 z) Q := sF_13_97 ko_X13_goesOn kc_X13_goesOn dX13_goesOn_50
theorem rX13_goesOn_53 : ab_Run X 171 53 (1, 0, 0) [ab_R z, l1, l2] st σ Q ↔ z ≠ 0 ∧ ab_Run X 171 54 (1, 0, 0) [ab_R z, l1, l2] (ab_R z :: st) σ Q := ab_r_aload_n rfl kc_X13_goesOn dX13_goesOn_53
theorem rX13_goesOn_54 : ab_Run X 171 54 (1, 0, 0) [ab_R z, l1, l2] st σ Q ↔ z ≠ 0 ∧ ab_Run X 171 55 (1, 0, 0) [ab_R z, l1, l2] (ab_R z :: st) σ Q := ab_r_aload_n rfl kc_X13_goesOn dX13_goesOn_54
theorem rX13_goesOn_55 : ab_Run X 171 55 (1, 0, 0) L (ab_R a :: st) σ Q ↔ (ab_sh σ a).1 = 14 ∧ ab_Run X 171 58 (1, 0, 0) L (ab_I (ab_rd σ a 8) :: st) σ Q := gF_13_88 ko_X13_goesOn kc_X13_goesOn dX13_goesOn_55
theorem rX13_goesOn_58 : ab_Run X 171 58 (1, 0, 0) L (ab_I x1 :: ab_R a :: st) σ Q ↔ ((ab_sh σ a).1 = 14 ∧ ab_cats st ≤ 8) ∧ ab_Do X 167 [ab_R a, ab_I x1] σ (fun r σ' => ab_Run X 171 61 (1, 0, 0) L (ab_psh r st) σ' Q) := ab_r_callV (w := [ab_I x1]) (as := [ab_I x1]) (b1 := (0, 0, 0)) 0 (Or.inl rfl) (by decide) ko_X13_goesOn qM_13_91 (by decide) rfl rfl rfl rfl rfl (by decide) (Nat.le_of_ble_eq_true rfl) kc_X13_goesOn dX13_goesOn_58
theorem rX13_goesOn_61 : ab_Run X 171 61 (1, 0, 0) [l0, l1, l2] (ab_I z :: st) σ Q ↔ (!ab_isJ l0) = true ∧ ab_Run X 171 62 (1, 0, 0) [l0, ab_I z, l2] st σ Q := ab_r_istore_n (Nat.le_of_ble_eq_true rfl) kc_X13_goesOn dX13_goesOn_61
theorem rX13_goesOn_62 : ab_Run X 171 62 (1, 0, 0) L st σ Q ↔ ab_Run X 171 63 (1, 0, 0) L (ab_I 0 :: st) σ Q := ab_r_iconst (by decide) kc_X13_goesOn dX13_goesOn_62
theorem rX13_goesOn_63 : ab_Run X 171 63 (1, 0, 0) [l0, l1, l2] (ab_I z :: st) σ Q ↔ (!ab_isJ l1) = true ∧ ab_Run X 171 64 (1, 0, 0) [l0, l1, ab_I z] st σ Q := ab_r_istore_n (Nat.le_of_ble_eq_true rfl) kc_X13_goesOn dX13_goesOn_63
theorem rX13_goesOn_64 : ab_Run X 171 64 (1, 0, 0) [l0, ab_I z, l2] st σ Q ↔ ab_Run X 171 65 (1, 0, 0) [l0, ab_I z, l2] (ab_I z :: st) σ Q := ab_r_iload_n rfl kc_X13_goesOn dX13_goesOn_64
theorem rX13_goesOn_65 : ab_Run X 171 65 (1, 0, 0) L st σ Q ↔ ab_Run X 171 66 (1, 0, 0) L (ab_I (-1) :: st) σ Q := ab_r_iconst (by decide) kc_X13_goesOn dX13_goesOn_65
theorem rX13_goesOn_66 : ab_Run X 171 66 (1, 0, 0) L (ab_I b :: ab_I a :: st) σ Q ↔ (¬ a = b → ab_Run X 171 77 (1, 0, 0) L st σ Q) ∧ (¬ (¬ a = b) → ab_Run X 171 69 (1, 0, 0) L st σ Q) := ab_r_icmp_ne rfl kc_X13_goesOn dX13_goesOn_66
theorem rX13_goesOn_69 : ab_Run X 171 69 (1, 0, 0) [ab_R z, l1, l2] st σ Q ↔ z ≠ 0 ∧ ab_Run X 171 70 (1, 0, 0) [ab_R z, l1, l2] (ab_R z :: st) σ Q := ab_r_aload_n rfl kc_X13_goesOn dX13_goesOn_69
theorem rX13_goesOn_70 : ab_Run X 171 70 (1, 0, 0) L st σ Q ↔ ab_Run X 171 71 (1, 0, 0) L (ab_I 1 :: st) σ Q := ab_r_iconst (by decide) kc_X13_goesOn dX13_goesOn_70
theorem rX13_goesOn_71 : ab_Run X 171 71 (1, 0, 0) L (ab_I z :: ab_R a :: st) σ Q ↔ (ab_sh σ a).1 = 14 ∧ ab_Run X 171 74 (1, 0, 0) L st (ab_wr σ a 9 z) Q := sF_13_85 ko_X13_goesOn kc_X13_goesOn dX13_goesOn_71
theorem rX13_goesOn_74 : ab_Run X 171 74 (1, 0, 0) L st σ Q ↔ ab_Run X 171 281 (1, 0, 0) L st σ Q := ab_r_goto rfl kc_X13_goesOn dX13_goesOn_74
theorem rX13_goesOn_77 : ab_Run X 171 77 (1, 0, 0) [l0, ab_I z, l2] st σ Q ↔ ab_Run X 171 78 (1, 0, 0) [l0, ab_I z, l2] (ab_I z :: st) σ Q := ab_r_iload_n rfl kc_X13_goesOn dX13_goesOn_77
theorem rX13_goesOn_78 : ab_Run X 171 78 (1, 0, 0) L (ab_I x1 :: st) σ Q ↔ ab_cats st ≤ 8 ∧ ab_Do X 168 [ab_I x1] σ (fun r σ' => ab_Run X 171 81 (1, 0, 0) L (ab_psh r st) σ' Q) := ab_r_callS (w := [ab_I x1]) (as := [ab_I x1]) (b1 := (0, 0, 0)) (by decide) ko_X13_goesOn qM_13_100 (by decide) rfl rfl rfl rfl (by decide) (Nat.le_of_ble_eq_true rfl) kc_X13_goesOn dX13_goesOn_78
theorem rX13_goesOn_81 : ab_Run X 171 81 (1, 0, 0) L (ab_I a :: st) σ Q ↔ (a = 0 → ab_Run X 171 166 (1, 0, 0) L st σ Q) ∧ (¬ (a = 0) → ab_Run X 171 84 (1, 0, 0) L st σ Q) := ab_r_if_eq rfl kc_X13_goesOn dX13_goesOn_81
theorem rX13_goesOn_84 : ab_Run X 171 84 (1, 0, 0) [ab_R z, l1, l2] st σ Q ↔ z ≠ 0 ∧ ab_Run X 171 85 (1, 0, 0) [ab_R z, l1, l2] (ab_R z :: st) σ Q := ab_r_aload_n rfl kc_X13_goesOn dX13_goesOn_84
theorem rX13_goesOn_85 : ab_Run X 171 85 (1, 0, 0) L st σ Q ↔ ab_Run X 171 86 (1, 0, 0) L (ab_J 0 :: st) σ Q := ab_r_lconst kc_X13_goesOn dX13_goesOn_85
theorem rX13_goesOn_86 : ab_Run X 171 86 (1, 0, 0) L (ab_J z :: ab_R a :: st) σ Q ↔ (ab_sh σ a).1 = 14 ∧ ab_Run X 171 89 (1, 0, 0) L st (ab_wr σ a 15 z) Q := sF_13_104 ko_X13_goesOn kc_X13_goesOn dX13_goesOn_86
theorem rX13_goesOn_89 : ab_Run X 171 89 (1, 0, 0) [ab_R z, l1, l2] st σ Q ↔ z ≠ 0 ∧ ab_Run X 171 90 (1, 0, 0) [ab_R z, l1, l2] (ab_R z :: st) σ Q := ab_r_aload_n rfl kc_X13_goesOn dX13_goesOn_89
theorem rX13_goesOn_90 : ab_Run X 171 90 (1, 0, 0) [ab_R z, l1, l2] st σ Q ↔ z ≠ 0 ∧ ab_Run X 171 91 (1, 0, 0) [ab_R z, l1, l2] (ab_R z :: st) σ Q := ab_r_aload_n rfl kc_X13_goesOn dX13_goesOn_90
theorem rX13_goesOn_91 : ab_Run X 171 91 (1, 0, 0) L (ab_R a :: st) σ Q ↔ (ab_sh σ a).1 = 14 ∧ ab_Run X 171 94 (1, 0, 0) L (ab_I (ab_rd σ a 8) :: st) σ Q := gF_13_88 ko_X13_goesOn kc_X13_goesOn dX13_goesOn_91
theorem rX13_goesOn_94 : ab_Run X 171 94 (1, 0, 0) L (ab_I x1 :: ab_R a :: st) σ Q ↔ ((ab_sh σ a).1 = 14 ∧ ab_cats st ≤ 8) ∧ ab_Do X 167 [ab_R a, ab_I x1] σ (fun r σ' => ab_Run X 171 97 (1, 0, 0) L (ab_psh r st) σ' Q) := ab_r_callV (w := [ab_I x1]) (as := [ab_I x1]) (b1 := (0, 0, 0)) 0 (Or.inl rfl) (by decide) ko_X13_goesOn qM_13_91 (by decide) rfl rfl rfl rfl rfl (by decide) (Nat.le_of_ble_eq_true rfl) kc_X13_goesOn dX13_goesOn_94
theorem rX13_goesOn_97 : ab_Run X 171 97 (1, 0, 0) L (ab_I x1 :: st) σ Q ↔ ab_cats st ≤ 8 ∧ ab_Do X 168 [ab_I x1] σ (fun r σ' => ab_Run X 171 100 (1, 0, 0) L (ab_psh r st) σ' Q) := ab_r_callS (w := [ab_I x1]) (as := [ab_I x1]) (b1 := (0, 0, 0)) (by decide) ko_X13_goesOn qM_13_100 (by decide) rfl rfl rfl rfl (by decide) (Nat.le_of_ble_eq_true rfl) kc_X13_goesOn dX13_goesOn_97
theorem rX13_goesOn_100 : ab_Run X 171 100 (1, 0, 0) L (ab_I a :: st) σ Q ↔ (a = 0 → ab_Run X 171 152 (1, 0, 0) L st σ Q) ∧ (¬ (a = 0) → ab_Run X 171 103 (1, 0, 0) L st σ Q) := ab_r_if_eq rfl kc_X13_goesOn dX13_goesOn_100
theorem rX13_goesOn_103 : ab_Run X 171 103 (1, 0, 0) [l0, l1, ab_I z] st σ Q ↔ ab_Run X 171 104 (1, 0, 0) [l0, l1, ab_I z] (ab_I z :: st) σ Q := ab_r_iload_n rfl kc_X13_goesOn dX13_goesOn_103
theorem rX13_goesOn_104 : ab_Run X 171 104 (1, 0, 0) L st σ Q ↔ ab_Run X 171 106 (1, 0, 0) L (ab_I 8 :: st) σ Q := ab_r_bipush (by decide) kc_X13_goesOn dX13_goesOn_104
theorem rX13_goesOn_106 : ab_Run X 171 106 (1, 0, 0) L (ab_I b :: ab_I a :: st) σ Q ↔ (b ≤ a → ab_Run X 171 136 (1, 0, 0) L st σ Q) ∧ (¬ (b ≤ a) → ab_Run X 171 109 (1, 0, 0) L st σ Q) := ab_r_icmp_ge rfl kc_X13_goesOn dX13_goesOn_106
theorem rX13_goesOn_109 : ab_Run X 171 109 (1, 0, 0) [ab_R z, l1, l2] st σ Q ↔ z ≠ 0 ∧ ab_Run X 171 110 (1, 0, 0) [ab_R z, l1, l2] (ab_R z :: st) σ Q := ab_r_aload_n rfl kc_X13_goesOn dX13_goesOn_109
theorem rX13_goesOn_110 : ab_Run X 171 110 (1, 0, 0) L st σ Q ↔ ab_Run X 171 113 (1, 0, 0) L (ab_J 32 :: st) σ Q := ab_r_ldc2_w rfl ko_X13_goesOn (by decide +kernel) kc_X13_goesOn dX13_goesOn_110
theorem rX13_goesOn_113 : ab_Run X 171 113 (1, 0, 0) [ab_R z, l1, l2] st σ Q ↔ z ≠ 0 ∧ ab_Run X 171 114 (1, 0, 0) [ab_R z, l1, l2] (ab_R z :: st) σ Q := ab_r_aload_n rfl kc_X13_goesOn dX13_goesOn_113
theorem rX13_goesOn_114 : ab_Run X 171 114 (1, 0, 0) L (ab_R a :: st) σ Q ↔ (ab_sh σ a).1 = 14 ∧ ab_Run X 171 117 (1, 0, 0) L (ab_J (ab_rd σ a 15) :: st) σ Q := gF_13_104 ko_X13_goesOn kc_X13_goesOn dX13_goesOn_114
theorem rX13_goesOn_117 : ab_Run X 171 117 (1, 0, 0) L (ab_J b :: ab_J a :: st) σ Q ↔ ab_Run X 171 118 (1, 0, 0) L (ab_J (ab_w64 (a * b)) :: st) σ Q := ab_r_lmul kc_X13_goesOn dX13_goesOn_117
theorem rX13_goesOn_118 : ab_Run X 171 118 (1, 0, 0) [ab_R z, l1, l2] st σ Q ↔ z ≠ 0 ∧ ab_Run X 171 119 (1, 0, 0) [ab_R z, l1, l2] (ab_R z :: st) σ Q := ab_r_aload_n rfl kc_X13_goesOn dX13_goesOn_118
theorem rX13_goesOn_119 : ab_Run X 171 119 (1, 0, 0) [ab_R z, l1, l2] st σ Q ↔ z ≠ 0 ∧ ab_Run X 171 120 (1, 0, 0) [ab_R z, l1, l2] (ab_R z :: st) σ Q := ab_r_aload_n rfl kc_X13_goesOn dX13_goesOn_119
theorem rX13_goesOn_120 : ab_Run X 171 120 (1, 0, 0) L (ab_R a :: st) σ Q ↔ (ab_sh σ a).1 = 14 ∧ ab_Run X 171 123 (1, 0, 0) L (ab_I (ab_rd σ a 8) :: st) σ Q := gF_13_88 ko_X13_goesOn kc_X13_goesOn dX13_goesOn_120
theorem rX13_goesOn_123 : ab_Run X 171 123 (1, 0, 0) L (ab_I x1 :: ab_R a :: st) σ Q ↔ ((ab_sh σ a).1 = 14 ∧ ab_cats st ≤ 8) ∧ ab_Do X 167 [ab_R a, ab_I x1] σ (fun r σ' => ab_Run X 171 126 (1, 0, 0) L (ab_psh r st) σ' Q) := ab_r_callV (w := [ab_I x1]) (as := [ab_I x1]) (b1 := (0, 0, 0)) 0 (Or.inl rfl) (by decide) ko_X13_goesOn qM_13_91 (by decide) rfl rfl rfl rfl rfl (by decide) (Nat.le_of_ble_eq_true rfl) kc_X13_goesOn dX13_goesOn_123
theorem rX13_goesOn_126 : ab_Run X 171 126 (1, 0, 0) L st σ Q ↔ ab_Run X 171 128 (1, 0, 0) L (ab_I 97 :: st) σ Q := ab_r_bipush (by decide) kc_X13_goesOn dX13_goesOn_126
theorem rX13_goesOn_128 : ab_Run X 171 128 (1, 0, 0) L (ab_I b :: ab_I a :: st) σ Q ↔ ab_Run X 171 129 (1, 0, 0) L (ab_I (ab_w32 (a - b)) :: st) σ Q := ab_r_isub kc_X13_goesOn dX13_goesOn_128
theorem rX13_goesOn_129 : ab_Run X 171 129 (1, 0, 0) L st σ Q ↔ ab_Run X 171 130 (1, 0, 0) L (ab_I 1 :: st) σ Q := ab_r_iconst (by decide) kc_X13_goesOn dX13_goesOn_129
theorem rX13_goesOn_130 : ab_Run X 171 130 (1, 0, 0) L (ab_I b :: ab_I a :: st) σ Q ↔ ab_Run X 171 131 (1, 0, 0) L (ab_I (ab_w32 (a + b)) :: st) σ Q := ab_r_iadd kc_X13_goesOn dX13_goesOn_130
theorem rX13_goesOn_131 : ab_Run X 171 131 (1, 0, 0) L (ab_I a :: st) σ Q ↔ ab_Run X 171 132 (1, 0, 0) L (ab_J a :: st) σ Q := ab_r_i2l kc_X13_goesOn dX13_goesOn_131
theorem rX13_goesOn_132 : ab_Run X 171 132 (1, 0, 0) L (ab_J b :: ab_J a :: st) σ Q ↔ ab_Run X 171 133 (1, 0, 0) L (ab_J (ab_w64 (a + b)) :: st) σ Q := ab_r_ladd kc_X13_goesOn dX13_goesOn_132
theorem rX13_goesOn_133 : ab_Run X 171 133 (1, 0, 0) L (ab_J z :: ab_R a :: st) σ Q ↔ (ab_sh σ a).1 = 14 ∧ ab_Run X 171 136 (1, 0, 0) L st (ab_wr σ a 15 z) Q := sF_13_104 ko_X13_goesOn kc_X13_goesOn dX13_goesOn_133
theorem rX13_goesOn_136 : ab_Run X 171 136 (1, 0, 0) [l0, l1, ab_I z] st σ Q ↔ (!ab_isJ l1) = true ∧ ab_Run X 171 139 (1, 0, 0) [l0, l1, ab_I (ab_w32 (z + 1))] st σ Q := ab_r_iinc rfl (by decide) kc_X13_goesOn dX13_goesOn_136
theorem rX13_goesOn_139 : ab_Run X 171 139 (1, 0, 0) [ab_R z, l1, l2] st σ Q ↔ z ≠ 0 ∧ ab_Run X 171 140 (1, 0, 0) [ab_R z, l1, l2] (ab_R z :: st) σ Q := ab_r_aload_n rfl kc_X13_goesOn dX13_goesOn_139
theorem rX13_goesOn_140I : ab_Run X 171 140 (1, 0, 0) L (ab_I a :: st) σ Q ↔ ab_Run X 171 141 (1, 0, 0) L (ab_I a :: ab_I a :: st) σ Q := ab_r_dupI kc_X13_goesOn dX13_goesOn_140
theorem rX13_goesOn_140R : ab_Run X 171 140 (1, 0, 0) L (ab_R a :: st) σ Q ↔ ab_Run X 171 141 (1, 0, 0) L (ab_R a :: ab_R a :: st) σ Q := ab_r_dupR kc_X13_goesOn dX13_goesOn_140
theorem rX13_goesOn_141 : ab_Run X 171 141 (1, 0, 0) L (ab_R a :: st) σ Q ↔ (ab_sh σ a).1 = 14 ∧ ab_Run X 171 144 (1, 0, 0) L (ab_I (ab_rd σ a 8) :: st) σ Q := gF_13_88 ko_X13_goesOn kc_X13_goesOn dX13_goesOn_141
theorem rX13_goesOn_144 : ab_Run X 171 144 (1, 0, 0) L st σ Q ↔ ab_Run X 171 145 (1, 0, 0) L (ab_I 1 :: st) σ Q := ab_r_iconst (by decide) kc_X13_goesOn dX13_goesOn_144
theorem rX13_goesOn_145 : ab_Run X 171 145 (1, 0, 0) L (ab_I b :: ab_I a :: st) σ Q ↔ ab_Run X 171 146 (1, 0, 0) L (ab_I (ab_w32 (a + b)) :: st) σ Q := ab_r_iadd kc_X13_goesOn dX13_goesOn_145
theorem rX13_goesOn_146 : ab_Run X 171 146 (1, 0, 0) L (ab_I z :: ab_R a :: st) σ Q ↔ (ab_sh σ a).1 = 14 ∧ ab_Run X 171 149 (1, 0, 0) L st (ab_wr σ a 8 z) Q := sF_13_88 ko_X13_goesOn kc_X13_goesOn dX13_goesOn_146
theorem rX13_goesOn_149 : ab_Run X 171 149 (1, 0, 0) L st σ Q ↔ ab_Run X 171 89 (1, 0, 0) L st σ Q := ab_r_goto rfl kc_X13_goesOn dX13_goesOn_149
theorem rX13_goesOn_152 : ab_Run X 171 152 (1, 0, 0) [l0, l1, ab_I z] st σ Q ↔ ab_Run X 171 153 (1, 0, 0) [l0, l1, ab_I z] (ab_I z :: st) σ Q := ab_r_iload_n rfl kc_X13_goesOn dX13_goesOn_152
theorem rX13_goesOn_153 : ab_Run X 171 153 (1, 0, 0) L st σ Q ↔ ab_Run X 171 155 (1, 0, 0) L (ab_I 8 :: st) σ Q := ab_r_bipush (by decide) kc_X13_goesOn dX13_goesOn_153
theorem rX13_goesOn_155 : ab_Run X 171 155 (1, 0, 0) L (ab_I b :: ab_I a :: st) σ Q ↔ (b < a → ab_Run X 171 281 (1, 0, 0) L st σ Q) ∧ (¬ (b < a) → ab_Run X 171 158 (1, 0, 0) L st σ Q) := ab_r_icmp_gt rfl kc_X13_goesOn dX13_goesOn_155
theorem rX13_goesOn_158 : ab_Run X 171 158 (1, 0, 0) [ab_R z, l1, l2] st σ Q ↔ z ≠ 0 ∧ ab_Run X 171 159 (1, 0, 0) [ab_R z, l1, l2] (ab_R z :: st) σ Q := ab_r_aload_n rfl kc_X13_goesOn dX13_goesOn_158
theorem rX13_goesOn_159 : ab_Run X 171 159 (1, 0, 0) L st σ Q ↔ ab_Run X 171 160 (1, 0, 0) L (ab_I 2 :: st) σ Q := ab_r_iconst (by decide) kc_X13_goesOn dX13_goesOn_159
theorem rX13_goesOn_160 : ab_Run X 171 160 (1, 0, 0) L (ab_I z :: ab_R a :: st) σ Q ↔ (ab_sh σ a).1 = 14 ∧ ab_Run X 171 163 (1, 0, 0) L st (ab_wr σ a 9 z) Q := sF_13_85 ko_X13_goesOn kc_X13_goesOn dX13_goesOn_160
theorem rX13_goesOn_163 : ab_Run X 171 163 (1, 0, 0) L st σ Q ↔ ab_Run X 171 281 (1, 0, 0) L st σ Q := ab_r_goto rfl kc_X13_goesOn dX13_goesOn_163
theorem rX13_goesOn_166 : ab_Run X 171 166 (1, 0, 0) [l0, ab_I z, l2] st σ Q ↔ ab_Run X 171 167 (1, 0, 0) [l0, ab_I z, l2] (ab_I z :: st) σ Q := ab_r_iload_n rfl kc_X13_goesOn dX13_goesOn_166
theorem rX13_goesOn_167 : ab_Run X 171 167 (1, 0, 0) L (ab_I x1 :: st) σ Q ↔ ab_cats st ≤ 8 ∧ ab_Do X 169 [ab_I x1] σ (fun r σ' => ab_Run X 171 170 (1, 0, 0) L (ab_psh r st) σ' Q) := ab_r_callS (w := [ab_I x1]) (as := [ab_I x1]) (b1 := (0, 0, 0)) (by decide) ko_X13_goesOn qM_13_108 (by decide) rfl rfl rfl rfl (by decide) (Nat.le_of_ble_eq_true rfl) kc_X13_goesOn dX13_goesOn_167
theorem rX13_goesOn_170 : ab_Run X 171 170 (1, 0, 0) L (ab_I a :: st) σ Q ↔ (a = 0 → ab_Run X 171 249 (1, 0, 0) L st σ Q) ∧ (¬ (a = 0) → ab_Run X 171 173 (1, 0, 0) L st σ Q) := ab_r_if_eq rfl kc_X13_goesOn dX13_goesOn_170
theorem rX13_goesOn_173 : ab_Run X 171 173 (1, 0, 0) [ab_R z, l1, l2] st σ Q ↔ z ≠ 0 ∧ ab_Run X 171 174 (1, 0, 0) [ab_R z, l1, l2] (ab_R z :: st) σ Q := ab_r_aload_n rfl kc_X13_goesOn dX13_goesOn_173
theorem rX13_goesOn_174 : ab_Run X 171 174 (1, 0, 0) L st σ Q ↔ ab_Run X 171 175 (1, 0, 0) L (ab_I 0 :: st) σ Q := ab_r_iconst (by decide) kc_X13_goesOn dX13_goesOn_174
theorem rX13_goesOn_175 : ab_Run X 171 175 (1, 0, 0) L (ab_I z :: ab_R a :: st) σ Q ↔ (ab_sh σ a).1 = 14 ∧ ab_Run X 171 178 (1, 0, 0) L st (ab_wr σ a 12 z) Q := sF_13_111 ko_X13_goesOn kc_X13_goesOn dX13_goesOn_175
theorem rX13_goesOn_178 : ab_Run X 171 178 (1, 0, 0) [ab_R z, l1, l2] st σ Q ↔ z ≠ 0 ∧ ab_Run X 171 179 (1, 0, 0) [ab_R z, l1, l2] (ab_R z :: st) σ Q := ab_r_aload_n rfl kc_X13_goesOn dX13_goesOn_178
theorem rX13_goesOn_179 : ab_Run X 171 179 (1, 0, 0) [ab_R z, l1, l2] st σ Q ↔ z ≠ 0 ∧ ab_Run X 171 180 (1, 0, 0) [ab_R z, l1, l2] (ab_R z :: st) σ Q := ab_r_aload_n rfl kc_X13_goesOn dX13_goesOn_179
theorem rX13_goesOn_180 : ab_Run X 171 180 (1, 0, 0) L (ab_R a :: st) σ Q ↔ (ab_sh σ a).1 = 14 ∧ ab_Run X 171 183 (1, 0, 0) L (ab_I (ab_rd σ a 8) :: st) σ Q := gF_13_88 ko_X13_goesOn kc_X13_goesOn dX13_goesOn_180
theorem rX13_goesOn_183 : ab_Run X 171 183 (1, 0, 0) L (ab_I x1 :: ab_R a :: st) σ Q ↔ ((ab_sh σ a).1 = 14 ∧ ab_cats st ≤ 8) ∧ ab_Do X 167 [ab_R a, ab_I x1] σ (fun r σ' => ab_Run X 171 186 (1, 0, 0) L (ab_psh r st) σ' Q) := ab_r_callV (w := [ab_I x1]) (as := [ab_I x1]) (b1 := (0, 0, 0)) 0 (Or.inl rfl) (by decide) ko_X13_goesOn qM_13_91 (by decide) rfl rfl rfl rfl rfl (by decide) (Nat.le_of_ble_eq_true rfl) kc_X13_goesOn dX13_goesOn_183
theorem rX13_goesOn_186 : ab_Run X 171 186 (1, 0, 0) L (ab_I x1 :: st) σ Q ↔ ab_cats st ≤ 8 ∧ ab_Do X 169 [ab_I x1] σ (fun r σ' => ab_Run X 171 189 (1, 0, 0) L (ab_psh r st) σ' Q) := ab_r_callS (w := [ab_I x1]) (as := [ab_I x1]) (b1 := (0, 0, 0)) (by decide) ko_X13_goesOn qM_13_108 (by decide) rfl rfl rfl rfl (by decide) (Nat.le_of_ble_eq_true rfl) kc_X13_goesOn dX13_goesOn_186
theorem rX13_goesOn_189 : ab_Run X 171 189 (1, 0, 0) L (ab_I a :: st) σ Q ↔ (a = 0 → ab_Run X 171 236 (1, 0, 0) L st σ Q) ∧ (¬ (a = 0) → ab_Run X 171 192 (1, 0, 0) L st σ Q) := ab_r_if_eq rfl kc_X13_goesOn dX13_goesOn_189
theorem rX13_goesOn_192 : ab_Run X 171 192 (1, 0, 0) [l0, l1, ab_I z] st σ Q ↔ ab_Run X 171 193 (1, 0, 0) [l0, l1, ab_I z] (ab_I z :: st) σ Q := ab_r_iload_n rfl kc_X13_goesOn dX13_goesOn_192
theorem rX13_goesOn_193 : ab_Run X 171 193 (1, 0, 0) L st σ Q ↔ ab_Run X 171 194 (1, 0, 0) L (ab_I 2 :: st) σ Q := ab_r_iconst (by decide) kc_X13_goesOn dX13_goesOn_193
theorem rX13_goesOn_194 : ab_Run X 171 194 (1, 0, 0) L (ab_I b :: ab_I a :: st) σ Q ↔ (b ≤ a → ab_Run X 171 220 (1, 0, 0) L st σ Q) ∧ (¬ (b ≤ a) → ab_Run X 171 197 (1, 0, 0) L st σ Q) := ab_r_icmp_ge rfl kc_X13_goesOn dX13_goesOn_194
theorem rX13_goesOn_197 : ab_Run X 171 197 (1, 0, 0) [ab_R z, l1, l2] st σ Q ↔ z ≠ 0 ∧ ab_Run X 171 198 (1, 0, 0) [ab_R z, l1, l2] (ab_R z :: st) σ Q := ab_r_aload_n rfl kc_X13_goesOn dX13_goesOn_197
theorem rX13_goesOn_198 : ab_Run X 171 198 (1, 0, 0) L st σ Q ↔ ab_Run X 171 200 (1, 0, 0) L (ab_I 10 :: st) σ Q := ab_r_bipush (by decide) kc_X13_goesOn dX13_goesOn_198
theorem rX13_goesOn_200 : ab_Run X 171 200 (1, 0, 0) [ab_R z, l1, l2] st σ Q ↔ z ≠ 0 ∧ ab_Run X 171 201 (1, 0, 0) [ab_R z, l1, l2] (ab_R z :: st) σ Q := ab_r_aload_n rfl kc_X13_goesOn dX13_goesOn_200
theorem rX13_goesOn_201 : ab_Run X 171 201 (1, 0, 0) L (ab_R a :: st) σ Q ↔ (ab_sh σ a).1 = 14 ∧ ab_Run X 171 204 (1, 0, 0) L (ab_I (ab_rd σ a 12) :: st) σ Q := gF_13_111 ko_X13_goesOn kc_X13_goesOn dX13_goesOn_201
theorem rX13_goesOn_204 : ab_Run X 171 204 (1, 0, 0) L (ab_I b :: ab_I a :: st) σ Q ↔ ab_Run X 171 205 (1, 0, 0) L (ab_I (ab_w32 (a * b)) :: st) σ Q := ab_r_imul kc_X13_goesOn dX13_goesOn_204
theorem rX13_goesOn_205 : ab_Run X 171 205 (1, 0, 0) [ab_R z, l1, l2] st σ Q ↔ z ≠ 0 ∧ ab_Run X 171 206 (1, 0, 0) [ab_R z, l1, l2] (ab_R z :: st) σ Q := ab_r_aload_n rfl kc_X13_goesOn dX13_goesOn_205
theorem rX13_goesOn_206 : ab_Run X 171 206 (1, 0, 0) [ab_R z, l1, l2] st σ Q ↔ z ≠ 0 ∧ ab_Run X 171 207 (1, 0, 0) [ab_R z, l1, l2] (ab_R z :: st) σ Q := ab_r_aload_n rfl kc_X13_goesOn dX13_goesOn_206
theorem rX13_goesOn_207 : ab_Run X 171 207 (1, 0, 0) L (ab_R a :: st) σ Q ↔ (ab_sh σ a).1 = 14 ∧ ab_Run X 171 210 (1, 0, 0) L (ab_I (ab_rd σ a 8) :: st) σ Q := gF_13_88 ko_X13_goesOn kc_X13_goesOn dX13_goesOn_207
theorem rX13_goesOn_210 : ab_Run X 171 210 (1, 0, 0) L (ab_I x1 :: ab_R a :: st) σ Q ↔ ((ab_sh σ a).1 = 14 ∧ ab_cats st ≤ 8) ∧ ab_Do X 167 [ab_R a, ab_I x1] σ (fun r σ' => ab_Run X 171 213 (1, 0, 0) L (ab_psh r st) σ' Q) := ab_r_callV (w := [ab_I x1]) (as := [ab_I x1]) (b1 := (0, 0, 0)) 0 (Or.inl rfl) (by decide) ko_X13_goesOn qM_13_91 (by decide) rfl rfl rfl rfl rfl (by decide) (Nat.le_of_ble_eq_true rfl) kc_X13_goesOn dX13_goesOn_210
theorem rX13_goesOn_213 : ab_Run X 171 213 (1, 0, 0) L (ab_I b :: ab_I a :: st) σ Q ↔ ab_Run X 171 214 (1, 0, 0) L (ab_I (ab_w32 (a + b)) :: st) σ Q := ab_r_iadd kc_X13_goesOn dX13_goesOn_213
theorem rX13_goesOn_214 : ab_Run X 171 214 (1, 0, 0) L st σ Q ↔ ab_Run X 171 216 (1, 0, 0) L (ab_I 48 :: st) σ Q := ab_r_bipush (by decide) kc_X13_goesOn dX13_goesOn_214
theorem rX13_goesOn_216 : ab_Run X 171 216 (1, 0, 0) L (ab_I b :: ab_I a :: st) σ Q ↔ ab_Run X 171 217 (1, 0, 0) L (ab_I (ab_w32 (a - b)) :: st) σ Q := ab_r_isub kc_X13_goesOn dX13_goesOn_216
theorem rX13_goesOn_217 : ab_Run X 171 217 (1, 0, 0) L (ab_I z :: ab_R a :: st) σ Q ↔ (ab_sh σ a).1 = 14 ∧ ab_Run X 171 220 (1, 0, 0) L st (ab_wr σ a 12 z) Q := sF_13_111 ko_X13_goesOn kc_X13_goesOn dX13_goesOn_217
theorem rX13_goesOn_220 : ab_Run X 171 220 (1, 0, 0) [l0, l1, ab_I z] st σ Q ↔ (!ab_isJ l1) = true ∧ ab_Run X 171 223 (1, 0, 0) [l0, l1, ab_I (ab_w32 (z + 1))] st σ Q := ab_r_iinc rfl (by decide) kc_X13_goesOn dX13_goesOn_220
theorem rX13_goesOn_223 : ab_Run X 171 223 (1, 0, 0) [ab_R z, l1, l2] st σ Q ↔ z ≠ 0 ∧ ab_Run X 171 224 (1, 0, 0) [ab_R z, l1, l2] (ab_R z :: st) σ Q := ab_r_aload_n rfl kc_X13_goesOn dX13_goesOn_223
theorem rX13_goesOn_224I : ab_Run X 171 224 (1, 0, 0) L (ab_I a :: st) σ Q ↔ ab_Run X 171 225 (1, 0, 0) L (ab_I a :: ab_I a :: st) σ Q := ab_r_dupI kc_X13_goesOn dX13_goesOn_224
theorem rX13_goesOn_224R : ab_Run X 171 224 (1, 0, 0) L (ab_R a :: st) σ Q ↔ ab_Run X 171 225 (1, 0, 0) L (ab_R a :: ab_R a :: st) σ Q := ab_r_dupR kc_X13_goesOn dX13_goesOn_224
theorem rX13_goesOn_225 : ab_Run X 171 225 (1, 0, 0) L (ab_R a :: st) σ Q ↔ (ab_sh σ a).1 = 14 ∧ ab_Run X 171 228 (1, 0, 0) L (ab_I (ab_rd σ a 8) :: st) σ Q := gF_13_88 ko_X13_goesOn kc_X13_goesOn dX13_goesOn_225
theorem rX13_goesOn_228 : ab_Run X 171 228 (1, 0, 0) L st σ Q ↔ ab_Run X 171 229 (1, 0, 0) L (ab_I 1 :: st) σ Q := ab_r_iconst (by decide) kc_X13_goesOn dX13_goesOn_228
theorem rX13_goesOn_229 : ab_Run X 171 229 (1, 0, 0) L (ab_I b :: ab_I a :: st) σ Q ↔ ab_Run X 171 230 (1, 0, 0) L (ab_I (ab_w32 (a + b)) :: st) σ Q := ab_r_iadd kc_X13_goesOn dX13_goesOn_229
theorem rX13_goesOn_230 : ab_Run X 171 230 (1, 0, 0) L (ab_I z :: ab_R a :: st) σ Q ↔ (ab_sh σ a).1 = 14 ∧ ab_Run X 171 233 (1, 0, 0) L st (ab_wr σ a 8 z) Q := sF_13_88 ko_X13_goesOn kc_X13_goesOn dX13_goesOn_230
theorem rX13_goesOn_233 : ab_Run X 171 233 (1, 0, 0) L st σ Q ↔ ab_Run X 171 178 (1, 0, 0) L st σ Q := ab_r_goto rfl kc_X13_goesOn dX13_goesOn_233
theorem rX13_goesOn_236 : ab_Run X 171 236 (1, 0, 0) [l0, l1, ab_I z] st σ Q ↔ ab_Run X 171 237 (1, 0, 0) [l0, l1, ab_I z] (ab_I z :: st) σ Q := ab_r_iload_n rfl kc_X13_goesOn dX13_goesOn_236
theorem rX13_goesOn_237 : ab_Run X 171 237 (1, 0, 0) L st σ Q ↔ ab_Run X 171 238 (1, 0, 0) L (ab_I 2 :: st) σ Q := ab_r_iconst (by decide) kc_X13_goesOn dX13_goesOn_237
theorem rX13_goesOn_238 : ab_Run X 171 238 (1, 0, 0) L (ab_I b :: ab_I a :: st) σ Q ↔ (b < a → ab_Run X 171 281 (1, 0, 0) L st σ Q) ∧ (¬ (b < a) → ab_Run X 171 241 (1, 0, 0) L st σ Q) := ab_r_icmp_gt rfl kc_X13_goesOn dX13_goesOn_238
theorem rX13_goesOn_241 : ab_Run X 171 241 (1, 0, 0) [ab_R z, l1, l2] st σ Q ↔ z ≠ 0 ∧ ab_Run X 171 242 (1, 0, 0) [ab_R z, l1, l2] (ab_R z :: st) σ Q := ab_r_aload_n rfl kc_X13_goesOn dX13_goesOn_241
theorem rX13_goesOn_242 : ab_Run X 171 242 (1, 0, 0) L st σ Q ↔ ab_Run X 171 243 (1, 0, 0) L (ab_I 3 :: st) σ Q := ab_r_iconst (by decide) kc_X13_goesOn dX13_goesOn_242
theorem rX13_goesOn_243 : ab_Run X 171 243 (1, 0, 0) L (ab_I z :: ab_R a :: st) σ Q ↔ (ab_sh σ a).1 = 14 ∧ ab_Run X 171 246 (1, 0, 0) L st (ab_wr σ a 9 z) Q := sF_13_85 ko_X13_goesOn kc_X13_goesOn dX13_goesOn_243
theorem rX13_goesOn_246 : ab_Run X 171 246 (1, 0, 0) L st σ Q ↔ ab_Run X 171 281 (1, 0, 0) L st σ Q := ab_r_goto rfl kc_X13_goesOn dX13_goesOn_246
theorem rX13_goesOn_249 : ab_Run X 171 249 (1, 0, 0) [l0, ab_I z, l2] st σ Q ↔ ab_Run X 171 250 (1, 0, 0) [l0, ab_I z, l2] (ab_I z :: st) σ Q := ab_r_iload_n rfl kc_X13_goesOn dX13_goesOn_249
theorem rX13_goesOn_250 : ab_Run X 171 250 (1, 0, 0) L st σ Q ↔ ab_Run X 171 252 (1, 0, 0) L (ab_I 59 :: st) σ Q := ab_r_bipush (by decide) kc_X13_goesOn dX13_goesOn_250
theorem rX13_goesOn_252 : ab_Run X 171 252 (1, 0, 0) L (ab_I b :: ab_I a :: st) σ Q ↔ (a = b → ab_Run X 171 261 (1, 0, 0) L st σ Q) ∧ (¬ (a = b) → ab_Run X 171 255 (1, 0, 0) L st σ Q) := ab_r_icmp_eq rfl kc_X13_goesOn dX13_goesOn_252
theorem rX13_goesOn_255 : ab_Run X 171 255 (1, 0, 0) [l0, ab_I z, l2] st σ Q ↔ ab_Run X 171 256 (1, 0, 0) [l0, ab_I z, l2] (ab_I z :: st) σ Q := ab_r_iload_n rfl kc_X13_goesOn dX13_goesOn_255
theorem rX13_goesOn_256 : ab_Run X 171 256 (1, 0, 0) L st σ Q ↔ ab_Run X 171 258 (1, 0, 0) L (ab_I 44 :: st) σ Q := ab_r_bipush (by decide) kc_X13_goesOn dX13_goesOn_256
theorem rX13_goesOn_258 : ab_Run X 171 258 (1, 0, 0) L (ab_I b :: ab_I a :: st) σ Q ↔ (¬ a = b → ab_Run X 171 281 (1, 0, 0) L st σ Q) ∧ (¬ (¬ a = b) → ab_Run X 171 261 (1, 0, 0) L st σ Q) := ab_r_icmp_ne rfl kc_X13_goesOn dX13_goesOn_258
theorem rX13_goesOn_261 : ab_Run X 171 261 (1, 0, 0) [ab_R z, l1, l2] st σ Q ↔ z ≠ 0 ∧ ab_Run X 171 262 (1, 0, 0) [ab_R z, l1, l2] (ab_R z :: st) σ Q := ab_r_aload_n rfl kc_X13_goesOn dX13_goesOn_261
theorem rX13_goesOn_262 : ab_Run X 171 262 (1, 0, 0) L st σ Q ↔ ab_Run X 171 263 (1, 0, 0) L (ab_I 4 :: st) σ Q := ab_r_iconst (by decide) kc_X13_goesOn dX13_goesOn_262
theorem rX13_goesOn_263 : ab_Run X 171 263 (1, 0, 0) L (ab_I z :: ab_R a :: st) σ Q ↔ (ab_sh σ a).1 = 14 ∧ ab_Run X 171 266 (1, 0, 0) L st (ab_wr σ a 9 z) Q := sF_13_85 ko_X13_goesOn kc_X13_goesOn dX13_goesOn_263
theorem rX13_goesOn_266 : ab_Run X 171 266 (1, 0, 0) [ab_R z, l1, l2] st σ Q ↔ z ≠ 0 ∧ ab_Run X 171 267 (1, 0, 0) [ab_R z, l1, l2] (ab_R z :: st) σ Q := ab_r_aload_n rfl kc_X13_goesOn dX13_goesOn_266
theorem rX13_goesOn_267 : ab_Run X 171 267 (1, 0, 0) [l0, ab_I z, l2] st σ Q ↔ ab_Run X 171 268 (1, 0, 0) [l0, ab_I z, l2] (ab_I z :: st) σ Q := ab_r_iload_n rfl kc_X13_goesOn dX13_goesOn_267
theorem rX13_goesOn_268 : ab_Run X 171 268 (1, 0, 0) L (ab_I z :: ab_R a :: st) σ Q ↔ (ab_sh σ a).1 = 14 ∧ ab_Run X 171 271 (1, 0, 0) L st (ab_wr σ a 11 z) Q := sF_13_97 ko_X13_goesOn kc_X13_goesOn dX13_goesOn_268
theorem rX13_goesOn_271 : ab_Run X 171 271 (1, 0, 0) [ab_R z, l1, l2] st σ Q ↔ z ≠ 0 ∧ ab_Run X 171 272 (1, 0, 0) [ab_R z, l1, l2] (ab_R z :: st) σ Q := ab_r_aload_n rfl kc_X13_goesOn dX13_goesOn_271
theorem rX13_goesOn_272I : ab_Run X 171 272 (1, 0, 0) L (ab_I a :: st) σ Q ↔ ab_Run X 171 273 (1, 0, 0) L (ab_I a :: ab_I a :: st) σ Q := ab_r_dupI kc_X13_goesOn dX13_goesOn_272
theorem rX13_goesOn_272R : ab_Run X 171 272 (1, 0, 0) L (ab_R a :: st) σ Q ↔ ab_Run X 171 273 (1, 0, 0) L (ab_R a :: ab_R a :: st) σ Q := ab_r_dupR kc_X13_goesOn dX13_goesOn_272
theorem rX13_goesOn_273 : ab_Run X 171 273 (1, 0, 0) L (ab_R a :: st) σ Q ↔ (ab_sh σ a).1 = 14 ∧ ab_Run X 171 276 (1, 0, 0) L (ab_I (ab_rd σ a 8) :: st) σ Q := gF_13_88 ko_X13_goesOn kc_X13_goesOn dX13_goesOn_273
theorem rX13_goesOn_276 : ab_Run X 171 276 (1, 0, 0) L st σ Q ↔ ab_Run X 171 277 (1, 0, 0) L (ab_I 1 :: st) σ Q := ab_r_iconst (by decide) kc_X13_goesOn dX13_goesOn_276
theorem rX13_goesOn_277 : ab_Run X 171 277 (1, 0, 0) L (ab_I b :: ab_I a :: st) σ Q ↔ ab_Run X 171 278 (1, 0, 0) L (ab_I (ab_w32 (a + b)) :: st) σ Q := ab_r_iadd kc_X13_goesOn dX13_goesOn_277
theorem rX13_goesOn_278 : ab_Run X 171 278 (1, 0, 0) L (ab_I z :: ab_R a :: st) σ Q ↔ (ab_sh σ a).1 = 14 ∧ ab_Run X 171 281 (1, 0, 0) L st (ab_wr σ a 8 z) Q := sF_13_88 ko_X13_goesOn kc_X13_goesOn dX13_goesOn_278
theorem rX13_goesOn_281 : ab_Run X 171 281 (1, 0, 0) L [] σ Q ↔ Q none σ := ab_r_return rfl kc_X13_goesOn dX13_goesOn_281
theorem kc_X13_flaw : ab_code 172 = cX13_flaw := rfl
theorem ko_X13_flaw : ab_ow 172 = 13 := rfl
theorem rX13_flaw_0 : ab_Run X 172 0 (0, 0, 0) [ab_R z, l1] st σ Q ↔ z ≠ 0 ∧ ab_Run X 172 1 (0, 0, 0) [ab_R z, l1] (ab_R z :: st) σ Q := ab_r_aload_n rfl kc_X13_flaw dX13_flaw_0
theorem rX13_flaw_1 : ab_Run X 172 1 (0, 0, 0) L (ab_R a :: st) σ Q ↔ (ab_sh σ a).1 = 14 ∧ ab_Run X 172 4 (0, 0, 0) L (ab_I (ab_rd σ a 9) :: st) σ Q := gF_13_85 ko_X13_flaw kc_X13_flaw dX13_flaw_1
theorem rX13_flaw_4 : ab_Run X 172 4 (0, 0, 0) L st σ Q ↔ ab_Run X 172 5 (0, 0, 0) L (ab_I 5 :: st) σ Q := ab_r_iconst (by decide) kc_X13_flaw dX13_flaw_4
theorem rX13_flaw_5 : ab_Run X 172 5 (0, 0, 0) L (ab_I b :: ab_I a :: st) σ Q ↔ (¬ a = b → ab_Run X 172 9 (0, 0, 0) L st σ Q) ∧ (¬ (¬ a = b) → ab_Run X 172 8 (0, 0, 0) L st σ Q) := ab_r_icmp_ne rfl kc_X13_flaw dX13_flaw_5
theorem rX13_flaw_8 : ab_Run X 172 8 (0, 0, 0) L [] σ Q ↔ Q none σ := ab_r_return rfl kc_X13_flaw dX13_flaw_8
theorem rX13_flaw_9 : ab_Run X 172 9 (0, 0, 0) [ab_R z, l1] st σ Q ↔ z ≠ 0 ∧ ab_Run X 172 10 (0, 0, 0) [ab_R z, l1] (ab_R z :: st) σ Q := ab_r_aload_n rfl kc_X13_flaw dX13_flaw_9
theorem rX13_flaw_10 : ab_Run X 172 10 (0, 0, 0) [l0, ab_I z] st σ Q ↔ ab_Run X 172 11 (0, 0, 0) [l0, ab_I z] (ab_I z :: st) σ Q := ab_r_iload_n rfl kc_X13_flaw dX13_flaw_10
theorem rX13_flaw_11 : ab_Run X 172 11 (0, 0, 0) L (ab_I z :: ab_R a :: st) σ Q ↔ (ab_sh σ a).1 = 14 ∧ ab_Run X 172 14 (0, 0, 0) L st (ab_wr σ a 13 z) Q := sF_13_114 ko_X13_flaw kc_X13_flaw dX13_flaw_11
theorem rX13_flaw_14 : ab_Run X 172 14 (0, 0, 0) [ab_R z, l1] st σ Q ↔ z ≠ 0 ∧ ab_Run X 172 15 (0, 0, 0) [ab_R z, l1] (ab_R z :: st) σ Q := ab_r_aload_n rfl kc_X13_flaw dX13_flaw_14
theorem rX13_flaw_15 : ab_Run X 172 15 (0, 0, 0) [ab_R z, l1] st σ Q ↔ z ≠ 0 ∧ ab_Run X 172 16 (0, 0, 0) [ab_R z, l1] (ab_R z :: st) σ Q := ab_r_aload_n rfl kc_X13_flaw dX13_flaw_15
theorem rX13_flaw_16 : ab_Run X 172 16 (0, 0, 0) L (ab_R a :: st) σ Q ↔ (ab_sh σ a).1 = 14 ∧ ab_Run X 172 19 (0, 0, 0) L (ab_I (ab_rd σ a 10) :: st) σ Q := gF_13_94 ko_X13_flaw kc_X13_flaw dX13_flaw_16
theorem rX13_flaw_19 : ab_Run X 172 19 (0, 0, 0) L (ab_I z :: ab_R a :: st) σ Q ↔ (ab_sh σ a).1 = 14 ∧ ab_Run X 172 22 (0, 0, 0) L st (ab_wr σ a 14 z) Q := sF_13_117 ko_X13_flaw kc_X13_flaw dX13_flaw_19
theorem rX13_flaw_22 : ab_Run X 172 22 (0, 0, 0) [ab_R z, l1] st σ Q ↔ z ≠ 0 ∧ ab_Run X 172 23 (0, 0, 0) [ab_R z, l1] (ab_R z :: st) σ Q := ab_r_aload_n rfl kc_X13_flaw dX13_flaw_22
theorem rX13_flaw_23 : ab_Run X 172 23 (0, 0, 0) L st σ Q ↔ ab_Run X 172 24 (0, 0, 0) L (ab_I 5 :: st) σ Q := ab_r_iconst (by decide) kc_X13_flaw dX13_flaw_23
theorem rX13_flaw_24 : ab_Run X 172 24 (0, 0, 0) L (ab_I z :: ab_R a :: st) σ Q ↔ (ab_sh σ a).1 = 14 ∧ ab_Run X 172 27 (0, 0, 0) L st (ab_wr σ a 9 z) Q := sF_13_85 ko_X13_flaw kc_X13_flaw dX13_flaw_24
theorem rX13_flaw_27 : ab_Run X 172 27 (0, 0, 0) L [] σ Q ↔ Q none σ := ab_r_return rfl kc_X13_flaw dX13_flaw_27
theorem kc_X13_isWord : ab_code 173 = cX13_isWord := rfl
theorem ko_X13_isWord : ab_ow 173 = 13 := rfl
theorem rX13_isWord_0 : ab_Run X 173 0 (11, 0, 0) [ab_R z, l1] st σ Q ↔ z ≠ 0 ∧ ab_Run X 173 1 (11, 0, 0) [ab_R z, l1] (ab_R z :: st) σ Q := ab_r_aload_n rfl kc_X13_isWord dX13_isWord_0
theorem rX13_isWord_1 : ab_Run X 173 1 (11, 0, 0) L (ab_R a :: st) σ Q ↔ (ab_sh σ a).1 = 14 ∧ ab_Run X 173 4 (11, 0, 0) L (ab_I (ab_rd σ a 9) :: st) σ Q := gF_13_85 ko_X13_isWord kc_X13_isWord dX13_isWord_1
theorem rX13_isWord_4 : ab_Run X 173 4 (11, 0, 0) L st σ Q ↔ ab_Run X 173 5 (11, 0, 0) L (ab_I 2 :: st) σ Q := ab_r_iconst (by decide) kc_X13_isWord dX13_isWord_4
theorem rX13_isWord_5 : ab_Run X 173 5 (11, 0, 0) L (ab_I b :: ab_I a :: st) σ Q ↔ (¬ a = b → ab_Run X 173 24 (11, 0, 0) L st σ Q) ∧ (¬ (¬ a = b) → ab_Run X 173 8 (11, 0, 0) L st σ Q) := ab_r_icmp_ne rfl kc_X13_isWord dX13_isWord_5
theorem rX13_isWord_8 : ab_Run X 173 8 (11, 0, 0) [ab_R z, l1] st σ Q ↔ z ≠ 0 ∧ ab_Run X 173 9 (11, 0, 0) [ab_R z, l1] (ab_R z :: st) σ Q := ab_r_aload_n rfl kc_X13_isWord dX13_isWord_8
theorem rX13_isWord_9 : ab_Run X 173 9 (11, 0, 0) L (ab_R a :: st) σ Q ↔ (ab_sh σ a).1 = 14 ∧ ab_Run X 173 12 (11, 0, 0) L (ab_J (ab_rd σ a 15) :: st) σ Q := gF_13_104 ko_X13_isWord kc_X13_isWord dX13_isWord_9
theorem rX13_isWord_12 : ab_Run X 173 12 (11, 0, 0) [l0, ab_R z] st σ Q ↔ z ≠ 0 ∧ ab_Run X 173 13 (11, 0, 0) [l0, ab_R z] (ab_R z :: st) σ Q := ab_r_aload_n rfl kc_X13_isWord dX13_isWord_12
theorem rX13_isWord_13 : ab_Run X 173 13 (11, 0, 0) L (ab_R x1 :: st) σ Q ↔ ab_cats st ≤ 8 ∧ ab_Do X 170 [ab_R x1] σ (fun r σ' => ab_Run X 173 16 (11, 0, 0) L (ab_psh r st) σ' Q) := ab_r_callS (w := [ab_R x1]) (as := [ab_R x1]) (b1 := (10, 0, 0)) (by decide) ko_X13_isWord qM_13_120 (by decide) rfl rfl rfl rfl (by decide) (Nat.le_of_ble_eq_true rfl) kc_X13_isWord dX13_isWord_13
theorem rX13_isWord_16 : ab_Run X 173 16 (11, 0, 0) L (ab_J b :: ab_J a :: st) σ Q ↔ ab_Run X 173 17 (11, 0, 0) L (ab_I (if b < a then 1 else if a = b then 0 else -1) :: st) σ Q := ab_r_lcmp kc_X13_isWord dX13_isWord_16
theorem rX13_isWord_17 : ab_Run X 173 17 (11, 0, 0) L (ab_I a :: st) σ Q ↔ (¬ a = 0 → ab_Run X 173 24 (11, 0, 0) L st σ Q) ∧ (¬ (¬ a = 0) → ab_Run X 173 20 (11, 0, 0) L st σ Q) := ab_r_if_ne rfl kc_X13_isWord dX13_isWord_17
theorem rX13_isWord_20 : ab_Run X 173 20 (11, 0, 0) L st σ Q ↔ ab_Run X 173 21 (11, 0, 0) L (ab_I 1 :: st) σ Q := ab_r_iconst (by decide) kc_X13_isWord dX13_isWord_20
theorem rX13_isWord_21 : ab_Run X 173 21 (11, 0, 0) L st σ Q ↔ ab_Run X 173 25 (11, 0, 0) L st σ Q := ab_r_goto rfl kc_X13_isWord dX13_isWord_21
theorem rX13_isWord_24 : ab_Run X 173 24 (11, 0, 0) L st σ Q ↔ ab_Run X 173 25 (11, 0, 0) L (ab_I 0 :: st) σ Q := ab_r_iconst (by decide) kc_X13_isWord dX13_isWord_24
theorem rX13_isWord_25 : ab_Run X 173 25 (11, 0, 0) L [ab_I v] σ Q ↔ (v = 0 ∨ v = 1) ∧ Q (some (ab_I v)) σ := ab_r_ireturnZ rfl kc_X13_isWord dX13_isWord_25
theorem kc_X13_isSign : ab_code 174 = cX13_isSign := rfl
theorem ko_X13_isSign : ab_ow 174 = 13 := rfl
theorem rX13_isSign_0 : ab_Run X 174 0 (0, 0, 0) [ab_R z, l1] st σ Q ↔ z ≠ 0 ∧ ab_Run X 174 1 (0, 0, 0) [ab_R z, l1] (ab_R z :: st) σ Q := ab_r_aload_n rfl kc_X13_isSign dX13_isSign_0
theorem rX13_isSign_1 : ab_Run X 174 1 (0, 0, 0) L (ab_R a :: st) σ Q ↔ (ab_sh σ a).1 = 14 ∧ ab_Run X 174 4 (0, 0, 0) L (ab_I (ab_rd σ a 9) :: st) σ Q := gF_13_85 ko_X13_isSign kc_X13_isSign dX13_isSign_1
theorem rX13_isSign_4 : ab_Run X 174 4 (0, 0, 0) L st σ Q ↔ ab_Run X 174 5 (0, 0, 0) L (ab_I 4 :: st) σ Q := ab_r_iconst (by decide) kc_X13_isSign dX13_isSign_4
theorem rX13_isSign_5 : ab_Run X 174 5 (0, 0, 0) L (ab_I b :: ab_I a :: st) σ Q ↔ (¬ a = b → ab_Run X 174 20 (0, 0, 0) L st σ Q) ∧ (¬ (¬ a = b) → ab_Run X 174 8 (0, 0, 0) L st σ Q) := ab_r_icmp_ne rfl kc_X13_isSign dX13_isSign_5
theorem rX13_isSign_8 : ab_Run X 174 8 (0, 0, 0) [ab_R z, l1] st σ Q ↔ z ≠ 0 ∧ ab_Run X 174 9 (0, 0, 0) [ab_R z, l1] (ab_R z :: st) σ Q := ab_r_aload_n rfl kc_X13_isSign dX13_isSign_8
theorem rX13_isSign_9 : ab_Run X 174 9 (0, 0, 0) L (ab_R a :: st) σ Q ↔ (ab_sh σ a).1 = 14 ∧ ab_Run X 174 12 (0, 0, 0) L (ab_I (ab_rd σ a 11) :: st) σ Q := gF_13_97 ko_X13_isSign kc_X13_isSign dX13_isSign_9
theorem rX13_isSign_12 : ab_Run X 174 12 (0, 0, 0) [l0, ab_I z] st σ Q ↔ ab_Run X 174 13 (0, 0, 0) [l0, ab_I z] (ab_I z :: st) σ Q := ab_r_iload_n rfl kc_X13_isSign dX13_isSign_12
theorem rX13_isSign_13 : ab_Run X 174 13 (0, 0, 0) L (ab_I b :: ab_I a :: st) σ Q ↔ (¬ a = b → ab_Run X 174 20 (0, 0, 0) L st σ Q) ∧ (¬ (¬ a = b) → ab_Run X 174 16 (0, 0, 0) L st σ Q) := ab_r_icmp_ne rfl kc_X13_isSign dX13_isSign_13
theorem rX13_isSign_16 : ab_Run X 174 16 (0, 0, 0) L st σ Q ↔ ab_Run X 174 17 (0, 0, 0) L (ab_I 1 :: st) σ Q := ab_r_iconst (by decide) kc_X13_isSign dX13_isSign_16
theorem rX13_isSign_17 : ab_Run X 174 17 (0, 0, 0) L st σ Q ↔ ab_Run X 174 21 (0, 0, 0) L st σ Q := ab_r_goto rfl kc_X13_isSign dX13_isSign_17
theorem rX13_isSign_20 : ab_Run X 174 20 (0, 0, 0) L st σ Q ↔ ab_Run X 174 21 (0, 0, 0) L (ab_I 0 :: st) σ Q := ab_r_iconst (by decide) kc_X13_isSign dX13_isSign_20
theorem rX13_isSign_21 : ab_Run X 174 21 (0, 0, 0) L [ab_I v] σ Q ↔ (v = 0 ∨ v = 1) ∧ Q (some (ab_I v)) σ := ab_r_ireturnZ rfl kc_X13_isSign dX13_isSign_21
theorem kc_X13_eatsSign : ab_code 175 = cX13_eatsSign := rfl
theorem ko_X13_eatsSign : ab_ow 175 = 13 := rfl
theorem rX13_eatsSign_0 : ab_Run X 175 0 (2, 0, 0) [ab_R z, l1, l2] st σ Q ↔ z ≠ 0 ∧ ab_Run X 175 1 (2, 0, 0) [ab_R z, l1, l2] (ab_R z :: st) σ Q := ab_r_aload_n rfl kc_X13_eatsSign dX13_eatsSign_0
theorem rX13_eatsSign_1 : ab_Run X 175 1 (2, 0, 0) [l0, ab_I z, l2] st σ Q ↔ ab_Run X 175 2 (2, 0, 0) [l0, ab_I z, l2] (ab_I z :: st) σ Q := ab_r_iload_n rfl kc_X13_eatsSign dX13_eatsSign_1
theorem rX13_eatsSign_2 : ab_Run X 175 2 (2, 0, 0) L (ab_I x1 :: ab_R a :: st) σ Q ↔ ((ab_sh σ a).1 = 14 ∧ ab_cats st ≤ 8) ∧ ab_Do X 174 [ab_R a, ab_I x1] σ (fun r σ' => ab_Run X 175 5 (2, 0, 0) L (ab_psh r st) σ' Q) := ab_r_callV (w := [ab_I x1]) (as := [ab_I x1]) (b1 := (0, 0, 0)) 0 (Or.inl rfl) (by decide) ko_X13_eatsSign qM_13_124 (by decide) rfl rfl rfl rfl rfl (by decide) (Nat.le_of_ble_eq_true rfl) kc_X13_eatsSign dX13_eatsSign_2
theorem rX13_eatsSign_5 : ab_Run X 175 5 (2, 0, 0) [l0, l1, l2] (ab_I z :: st) σ Q ↔ (!ab_isJ l1) = true ∧ ab_Run X 175 6 (2, 0, 0) [l0, l1, ab_I z] st σ Q := ab_r_istore_n (Nat.le_of_ble_eq_true rfl) kc_X13_eatsSign dX13_eatsSign_5
theorem rX13_eatsSign_6 : ab_Run X 175 6 (2, 0, 0) [l0, l1, ab_I z] st σ Q ↔ ab_Run X 175 7 (2, 0, 0) [l0, l1, ab_I z] (ab_I z :: st) σ Q := ab_r_iload_n rfl kc_X13_eatsSign dX13_eatsSign_6
theorem rX13_eatsSign_7 : ab_Run X 175 7 (2, 0, 0) L (ab_I a :: st) σ Q ↔ (a = 0 → ab_Run X 175 14 (2, 0, 0) L st σ Q) ∧ (¬ (a = 0) → ab_Run X 175 10 (2, 0, 0) L st σ Q) := ab_r_if_eq rfl kc_X13_eatsSign dX13_eatsSign_7
theorem rX13_eatsSign_10 : ab_Run X 175 10 (2, 0, 0) [ab_R z, l1, l2] st σ Q ↔ z ≠ 0 ∧ ab_Run X 175 11 (2, 0, 0) [ab_R z, l1, l2] (ab_R z :: st) σ Q := ab_r_aload_n rfl kc_X13_eatsSign dX13_eatsSign_10
theorem rX13_eatsSign_11 : ab_Run X 175 11 (2, 0, 0) L (ab_R a :: st) σ Q ↔ ((ab_sh σ a).1 = 14 ∧ ab_cats st ≤ 8) ∧ ab_Do X 171 [ab_R a] σ (fun r σ' => ab_Run X 175 14 (2, 0, 0) L (ab_psh r st) σ' Q) := ab_r_callV (w := []) (as := []) (b1 := (1, 0, 0)) 0 (Or.inl rfl) (by decide) ko_X13_eatsSign qM_13_127 (by decide) rfl rfl rfl rfl rfl (by decide) (Nat.le_of_ble_eq_true rfl) kc_X13_eatsSign dX13_eatsSign_11
theorem rX13_eatsSign_14 : ab_Run X 175 14 (2, 0, 0) [l0, l1, ab_I z] st σ Q ↔ ab_Run X 175 15 (2, 0, 0) [l0, l1, ab_I z] (ab_I z :: st) σ Q := ab_r_iload_n rfl kc_X13_eatsSign dX13_eatsSign_14
theorem rX13_eatsSign_15 : ab_Run X 175 15 (2, 0, 0) L [ab_I v] σ Q ↔ (v = 0 ∨ v = 1) ∧ Q (some (ab_I v)) σ := ab_r_ireturnZ rfl kc_X13_eatsSign dX13_eatsSign_15
theorem kc_X13_needs : ab_code 176 = cX13_needs := rfl
theorem ko_X13_needs : ab_ow 176 = 13 := rfl
theorem rX13_needs_0 : ab_Run X 176 0 (12, 0, 0) [ab_R z, l1] st σ Q ↔ z ≠ 0 ∧ ab_Run X 176 1 (12, 0, 0) [ab_R z, l1] (ab_R z :: st) σ Q := ab_r_aload_n rfl kc_X13_needs dX13_needs_0
theorem rX13_needs_1 : ab_Run X 176 1 (12, 0, 0) [l0, ab_R z] st σ Q ↔ z ≠ 0 ∧ ab_Run X 176 2 (12, 0, 0) [l0, ab_R z] (ab_R z :: st) σ Q := ab_r_aload_n rfl kc_X13_needs dX13_needs_1
theorem rX13_needs_2 : ab_Run X 176 2 (12, 0, 0) L (ab_R x1 :: ab_R a :: st) σ Q ↔ ((ab_sh σ a).1 = 14 ∧ ab_cats st ≤ 8) ∧ ab_Do X 173 [ab_R a, ab_R x1] σ (fun r σ' => ab_Run X 176 5 (12, 0, 0) L (ab_psh r st) σ' Q) := ab_r_callV (w := [ab_R x1]) (as := [ab_R x1]) (b1 := (11, 0, 0)) 0 (Or.inl rfl) (by decide) ko_X13_needs qM_13_130 (by decide) rfl rfl rfl rfl rfl (by decide) (Nat.le_of_ble_eq_true rfl) kc_X13_needs dX13_needs_2
theorem rX13_needs_5 : ab_Run X 176 5 (12, 0, 0) L (ab_I a :: st) σ Q ↔ (¬ a = 0 → ab_Run X 176 13 (12, 0, 0) L st σ Q) ∧ (¬ (¬ a = 0) → ab_Run X 176 8 (12, 0, 0) L st σ Q) := ab_r_if_ne rfl kc_X13_needs dX13_needs_5
theorem rX13_needs_8 : ab_Run X 176 8 (12, 0, 0) [ab_R z, l1] st σ Q ↔ z ≠ 0 ∧ ab_Run X 176 9 (12, 0, 0) [ab_R z, l1] (ab_R z :: st) σ Q := ab_r_aload_n rfl kc_X13_needs dX13_needs_8
theorem rX13_needs_9 : ab_Run X 176 9 (12, 0, 0) L st σ Q ↔ ab_Run X 176 10 (12, 0, 0) L (ab_I 1 :: st) σ Q := ab_r_iconst (by decide) kc_X13_needs dX13_needs_9
theorem rX13_needs_10 : ab_Run X 176 10 (12, 0, 0) L (ab_I x1 :: ab_R a :: st) σ Q ↔ ((ab_sh σ a).1 = 14 ∧ ab_cats st ≤ 8) ∧ ab_Do X 172 [ab_R a, ab_I x1] σ (fun r σ' => ab_Run X 176 13 (12, 0, 0) L (ab_psh r st) σ' Q) := ab_r_callV (w := [ab_I x1]) (as := [ab_I x1]) (b1 := (0, 0, 0)) 0 (Or.inl rfl) (by decide) ko_X13_needs qM_13_134 (by decide) rfl rfl rfl rfl rfl (by decide) (Nat.le_of_ble_eq_true rfl) kc_X13_needs dX13_needs_10
theorem rX13_needs_13 : ab_Run X 176 13 (12, 0, 0) [ab_R z, l1] st σ Q ↔ z ≠ 0 ∧ ab_Run X 176 14 (12, 0, 0) [ab_R z, l1] (ab_R z :: st) σ Q := ab_r_aload_n rfl kc_X13_needs dX13_needs_13
theorem rX13_needs_14 : ab_Run X 176 14 (12, 0, 0) L (ab_R a :: st) σ Q ↔ ((ab_sh σ a).1 = 14 ∧ ab_cats st ≤ 8) ∧ ab_Do X 171 [ab_R a] σ (fun r σ' => ab_Run X 176 17 (12, 0, 0) L (ab_psh r st) σ' Q) := ab_r_callV (w := []) (as := []) (b1 := (1, 0, 0)) 0 (Or.inl rfl) (by decide) ko_X13_needs qM_13_127 (by decide) rfl rfl rfl rfl rfl (by decide) (Nat.le_of_ble_eq_true rfl) kc_X13_needs dX13_needs_14
theorem rX13_needs_17 : ab_Run X 176 17 (12, 0, 0) L [] σ Q ↔ Q none σ := ab_r_return rfl kc_X13_needs dX13_needs_17
theorem kc_X13_bounded : ab_code 177 = cX13_bounded := rfl
theorem ko_X13_bounded : ab_ow 177 = 13 := rfl
theorem rX13_bounded_0 : ab_Run X 177 0 (1, 0, 0) [ab_R z, l1, l2] st σ Q ↔ z ≠ 0 ∧ ab_Run X 177 1 (1, 0, 0) [ab_R z, l1, l2] (ab_R z :: st) σ Q := ab_r_aload_n rfl kc_X13_bounded dX13_bounded_0
theorem rX13_bounded_1 : ab_Run X 177 1 (1, 0, 0) L (ab_R a :: st) σ Q ↔ (ab_sh σ a).1 = 14 ∧ ab_Run X 177 4 (1, 0, 0) L (ab_I (ab_rd σ a 9) :: st) σ Q := gF_13_85 ko_X13_bounded kc_X13_bounded dX13_bounded_1
theorem rX13_bounded_4 : ab_Run X 177 4 (1, 0, 0) L st σ Q ↔ ab_Run X 177 5 (1, 0, 0) L (ab_I 3 :: st) σ Q := ab_r_iconst (by decide) kc_X13_bounded dX13_bounded_4
theorem rX13_bounded_5 : ab_Run X 177 5 (1, 0, 0) L (ab_I b :: ab_I a :: st) σ Q ↔ (a = b → ab_Run X 177 16 (1, 0, 0) L st σ Q) ∧ (¬ (a = b) → ab_Run X 177 8 (1, 0, 0) L st σ Q) := ab_r_icmp_eq rfl kc_X13_bounded dX13_bounded_5
theorem rX13_bounded_8 : ab_Run X 177 8 (1, 0, 0) [ab_R z, l1, l2] st σ Q ↔ z ≠ 0 ∧ ab_Run X 177 9 (1, 0, 0) [ab_R z, l1, l2] (ab_R z :: st) σ Q := ab_r_aload_n rfl kc_X13_bounded dX13_bounded_8
theorem rX13_bounded_9 : ab_Run X 177 9 (1, 0, 0) L st σ Q ↔ ab_Run X 177 10 (1, 0, 0) L (ab_I 1 :: st) σ Q := ab_r_iconst (by decide) kc_X13_bounded dX13_bounded_9
theorem rX13_bounded_10 : ab_Run X 177 10 (1, 0, 0) L (ab_I x1 :: ab_R a :: st) σ Q ↔ ((ab_sh σ a).1 = 14 ∧ ab_cats st ≤ 8) ∧ ab_Do X 172 [ab_R a, ab_I x1] σ (fun r σ' => ab_Run X 177 13 (1, 0, 0) L (ab_psh r st) σ' Q) := ab_r_callV (w := [ab_I x1]) (as := [ab_I x1]) (b1 := (0, 0, 0)) 0 (Or.inl rfl) (by decide) ko_X13_bounded qM_13_134 (by decide) rfl rfl rfl rfl rfl (by decide) (Nat.le_of_ble_eq_true rfl) kc_X13_bounded dX13_bounded_10
theorem rX13_bounded_13 : ab_Run X 177 13 (1, 0, 0) L st σ Q ↔ ab_Run X 177 33 (1, 0, 0) L st σ Q := ab_r_goto rfl kc_X13_bounded dX13_bounded_13
theorem rX13_bounded_16 : ab_Run X 177 16 (1, 0, 0) [ab_R z, l1, l2] st σ Q ↔ z ≠ 0 ∧ ab_Run X 177 17 (1, 0, 0) [ab_R z, l1, l2] (ab_R z :: st) σ Q := ab_r_aload_n rfl kc_X13_bounded dX13_bounded_16
theorem rX13_bounded_17 : ab_Run X 177 17 (1, 0, 0) L (ab_R a :: st) σ Q ↔ (ab_sh σ a).1 = 14 ∧ ab_Run X 177 20 (1, 0, 0) L (ab_I (ab_rd σ a 12) :: st) σ Q := gF_13_111 ko_X13_bounded kc_X13_bounded dX13_bounded_17
theorem rX13_bounded_20 : ab_Run X 177 20 (1, 0, 0) [l0, ab_I z, l2] st σ Q ↔ ab_Run X 177 21 (1, 0, 0) [l0, ab_I z, l2] (ab_I z :: st) σ Q := ab_r_iload_n rfl kc_X13_bounded dX13_bounded_20
theorem rX13_bounded_21 : ab_Run X 177 21 (1, 0, 0) [l0, l1, ab_I z] st σ Q ↔ ab_Run X 177 22 (1, 0, 0) [l0, l1, ab_I z] (ab_I z :: st) σ Q := ab_r_iload_n rfl kc_X13_bounded dX13_bounded_21
theorem rX13_bounded_22 : ab_Run X 177 22 (1, 0, 0) L (ab_I x3 :: ab_I x2 :: ab_I x1 :: st) σ Q ↔ ab_cats st ≤ 8 ∧ ab_Do X 163 [ab_I x1, ab_I x2, ab_I x3] σ (fun r σ' => ab_Run X 177 25 (1, 0, 0) L (ab_psh r st) σ' Q) := ab_r_callS (w := [ab_I x3, ab_I x2, ab_I x1]) (as := [ab_I x1, ab_I x2, ab_I x3]) (b1 := (0, 0, 0)) (by decide) ko_X13_bounded qM_13_138 (by decide) rfl rfl rfl rfl (by decide) (Nat.le_of_ble_eq_true rfl) kc_X13_bounded dX13_bounded_22
theorem rX13_bounded_25 : ab_Run X 177 25 (1, 0, 0) L (ab_I a :: st) σ Q ↔ (¬ a = 0 → ab_Run X 177 33 (1, 0, 0) L st σ Q) ∧ (¬ (¬ a = 0) → ab_Run X 177 28 (1, 0, 0) L st σ Q) := ab_r_if_ne rfl kc_X13_bounded dX13_bounded_25
theorem rX13_bounded_28 : ab_Run X 177 28 (1, 0, 0) [ab_R z, l1, l2] st σ Q ↔ z ≠ 0 ∧ ab_Run X 177 29 (1, 0, 0) [ab_R z, l1, l2] (ab_R z :: st) σ Q := ab_r_aload_n rfl kc_X13_bounded dX13_bounded_28
theorem rX13_bounded_29 : ab_Run X 177 29 (1, 0, 0) L st σ Q ↔ ab_Run X 177 30 (1, 0, 0) L (ab_I 4 :: st) σ Q := ab_r_iconst (by decide) kc_X13_bounded dX13_bounded_29
theorem rX13_bounded_30 : ab_Run X 177 30 (1, 0, 0) L (ab_I x1 :: ab_R a :: st) σ Q ↔ ((ab_sh σ a).1 = 14 ∧ ab_cats st ≤ 8) ∧ ab_Do X 172 [ab_R a, ab_I x1] σ (fun r σ' => ab_Run X 177 33 (1, 0, 0) L (ab_psh r st) σ' Q) := ab_r_callV (w := [ab_I x1]) (as := [ab_I x1]) (b1 := (0, 0, 0)) 0 (Or.inl rfl) (by decide) ko_X13_bounded qM_13_134 (by decide) rfl rfl rfl rfl rfl (by decide) (Nat.le_of_ble_eq_true rfl) kc_X13_bounded dX13_bounded_30
theorem rX13_bounded_33 : ab_Run X 177 33 (1, 0, 0) [ab_R z, l1, l2] st σ Q ↔ z ≠ 0 ∧ ab_Run X 177 34 (1, 0, 0) [ab_R z, l1, l2] (ab_R z :: st) σ Q := ab_r_aload_n rfl kc_X13_bounded dX13_bounded_33
theorem rX13_bounded_34 : ab_Run X 177 34 (1, 0, 0) L (ab_R a :: st) σ Q ↔ (ab_sh σ a).1 = 14 ∧ ab_Run X 177 37 (1, 0, 0) L (ab_I (ab_rd σ a 9) :: st) σ Q := gF_13_85 ko_X13_bounded kc_X13_bounded dX13_bounded_34
theorem rX13_bounded_37 : ab_Run X 177 37 (1, 0, 0) L st σ Q ↔ ab_Run X 177 38 (1, 0, 0) L (ab_I 5 :: st) σ Q := ab_r_iconst (by decide) kc_X13_bounded dX13_bounded_37
theorem rX13_bounded_38 : ab_Run X 177 38 (1, 0, 0) L (ab_I b :: ab_I a :: st) σ Q ↔ (¬ a = b → ab_Run X 177 45 (1, 0, 0) L st σ Q) ∧ (¬ (¬ a = b) → ab_Run X 177 41 (1, 0, 0) L st σ Q) := ab_r_icmp_ne rfl kc_X13_bounded dX13_bounded_38
theorem rX13_bounded_41 : ab_Run X 177 41 (1, 0, 0) [l0, ab_I z, l2] st σ Q ↔ ab_Run X 177 42 (1, 0, 0) [l0, ab_I z, l2] (ab_I z :: st) σ Q := ab_r_iload_n rfl kc_X13_bounded dX13_bounded_41
theorem rX13_bounded_42 : ab_Run X 177 42 (1, 0, 0) L st σ Q ↔ ab_Run X 177 49 (1, 0, 0) L st σ Q := ab_r_goto rfl kc_X13_bounded dX13_bounded_42
theorem rX13_bounded_45 : ab_Run X 177 45 (1, 0, 0) [ab_R z, l1, l2] st σ Q ↔ z ≠ 0 ∧ ab_Run X 177 46 (1, 0, 0) [ab_R z, l1, l2] (ab_R z :: st) σ Q := ab_r_aload_n rfl kc_X13_bounded dX13_bounded_45
theorem rX13_bounded_46 : ab_Run X 177 46 (1, 0, 0) L (ab_R a :: st) σ Q ↔ (ab_sh σ a).1 = 14 ∧ ab_Run X 177 49 (1, 0, 0) L (ab_I (ab_rd σ a 12) :: st) σ Q := gF_13_111 ko_X13_bounded kc_X13_bounded dX13_bounded_46
theorem rX13_bounded_49 : ab_Run X 177 49 (1, 0, 0) L [ab_I v] σ Q ↔ Q (some (ab_I v)) σ := ab_r_ireturnI rfl kc_X13_bounded dX13_bounded_49
theorem kc_X13_readWhole : ab_code 178 = cX13_readWhole := rfl
theorem ko_X13_readWhole : ab_ow 178 = 13 := rfl
theorem rX13_readWhole_0 : ab_Run X 178 0 (2, 0, 0) [ab_R z, l1, l2, l3] st σ Q ↔ z ≠ 0 ∧ ab_Run X 178 1 (2, 0, 0) [ab_R z, l1, l2, l3] (ab_R z :: st) σ Q := ab_r_aload_n rfl kc_X13_readWhole dX13_readWhole_0
theorem rX13_readWhole_1 : ab_Run X 178 1 (2, 0, 0) [l0, ab_I z, l2, l3] st σ Q ↔ ab_Run X 178 2 (2, 0, 0) [l0, ab_I z, l2, l3] (ab_I z :: st) σ Q := ab_r_iload_n rfl kc_X13_readWhole dX13_readWhole_1
theorem rX13_readWhole_2 : ab_Run X 178 2 (2, 0, 0) [l0, l1, ab_I z, l3] st σ Q ↔ ab_Run X 178 3 (2, 0, 0) [l0, l1, ab_I z, l3] (ab_I z :: st) σ Q := ab_r_iload_n rfl kc_X13_readWhole dX13_readWhole_2
theorem rX13_readWhole_3 : ab_Run X 178 3 (2, 0, 0) L (ab_I x2 :: ab_I x1 :: ab_R a :: st) σ Q ↔ ((ab_sh σ a).1 = 14 ∧ ab_cats st ≤ 8) ∧ ab_Do X 177 [ab_R a, ab_I x1, ab_I x2] σ (fun r σ' => ab_Run X 178 6 (2, 0, 0) L (ab_psh r st) σ' Q) := ab_r_callV (w := [ab_I x2, ab_I x1]) (as := [ab_I x1, ab_I x2]) (b1 := (1, 0, 0)) 0 (Or.inl rfl) (by decide) ko_X13_readWhole qM_13_142 (by decide) rfl rfl rfl rfl rfl (by decide) (Nat.le_of_ble_eq_true rfl) kc_X13_readWhole dX13_readWhole_3
theorem rX13_readWhole_6 : ab_Run X 178 6 (2, 0, 0) [l0, l1, l2, l3] (ab_I z :: st) σ Q ↔ (!ab_isJ l2) = true ∧ ab_Run X 178 7 (2, 0, 0) [l0, l1, l2, ab_I z] st σ Q := ab_r_istore_n (Nat.le_of_ble_eq_true rfl) kc_X13_readWhole dX13_readWhole_6
theorem rX13_readWhole_7 : ab_Run X 178 7 (2, 0, 0) [ab_R z, l1, l2, l3] st σ Q ↔ z ≠ 0 ∧ ab_Run X 178 8 (2, 0, 0) [ab_R z, l1, l2, l3] (ab_R z :: st) σ Q := ab_r_aload_n rfl kc_X13_readWhole dX13_readWhole_7
theorem rX13_readWhole_8 : ab_Run X 178 8 (2, 0, 0) L (ab_R a :: st) σ Q ↔ ((ab_sh σ a).1 = 14 ∧ ab_cats st ≤ 8) ∧ ab_Do X 171 [ab_R a] σ (fun r σ' => ab_Run X 178 11 (2, 0, 0) L (ab_psh r st) σ' Q) := ab_r_callV (w := []) (as := []) (b1 := (1, 0, 0)) 0 (Or.inl rfl) (by decide) ko_X13_readWhole qM_13_127 (by decide) rfl rfl rfl rfl rfl (by decide) (Nat.le_of_ble_eq_true rfl) kc_X13_readWhole dX13_readWhole_8
theorem rX13_readWhole_11 : ab_Run X 178 11 (2, 0, 0) [l0, l1, l2, ab_I z] st σ Q ↔ ab_Run X 178 12 (2, 0, 0) [l0, l1, l2, ab_I z] (ab_I z :: st) σ Q := ab_r_iload_n rfl kc_X13_readWhole dX13_readWhole_11
theorem rX13_readWhole_12 : ab_Run X 178 12 (2, 0, 0) L [ab_I v] σ Q ↔ Q (some (ab_I v)) σ := ab_r_ireturnI rfl kc_X13_readWhole dX13_readWhole_12
theorem kc_X13_readPart : ab_code 179 = cX13_readPart := rfl
theorem ko_X13_readPart : ab_ow 179 = 13 := rfl
theorem rX13_readPart_0 : ab_Run X 179 0 (13, 0, 0) [ab_R z, l1, l2, l3] st σ Q ↔ z ≠ 0 ∧ ab_Run X 179 1 (13, 0, 0) [ab_R z, l1, l2, l3] (ab_R z :: st) σ Q := ab_r_aload_n rfl kc_X13_readPart dX13_readPart_0
theorem rX13_readPart_1 : ab_Run X 179 1 (13, 0, 0) [l0, ab_R z, l2, l3] st σ Q ↔ z ≠ 0 ∧ ab_Run X 179 2 (13, 0, 0) [l0, ab_R z, l2, l3] (ab_R z :: st) σ Q := ab_r_aload_n rfl kc_X13_readPart dX13_readPart_1
theorem rX13_readPart_2 : ab_Run X 179 2 (13, 0, 0) L (ab_R x1 :: ab_R a :: st) σ Q ↔ ((ab_sh σ a).1 = 14 ∧ ab_cats st ≤ 8) ∧ ab_Do X 176 [ab_R a, ab_R x1] σ (fun r σ' => ab_Run X 179 5 (13, 0, 0) L (ab_psh r st) σ' Q) := ab_r_callV (w := [ab_R x1]) (as := [ab_R x1]) (b1 := (12, 0, 0)) 0 (Or.inl rfl) (by decide) ko_X13_readPart qM_13_146 (by decide) rfl rfl rfl rfl rfl (by decide) (Nat.le_of_ble_eq_true rfl) kc_X13_readPart dX13_readPart_2
theorem rX13_readPart_5 : ab_Run X 179 5 (13, 0, 0) [ab_R z, l1, l2, l3] st σ Q ↔ z ≠ 0 ∧ ab_Run X 179 6 (13, 0, 0) [ab_R z, l1, l2, l3] (ab_R z :: st) σ Q := ab_r_aload_n rfl kc_X13_readPart dX13_readPart_5
theorem rX13_readPart_6 : ab_Run X 179 6 (13, 0, 0) [l0, l1, ab_I z, l3] st σ Q ↔ ab_Run X 179 7 (13, 0, 0) [l0, l1, ab_I z, l3] (ab_I z :: st) σ Q := ab_r_iload_n rfl kc_X13_readPart dX13_readPart_6
theorem rX13_readPart_7 : ab_Run X 179 7 (13, 0, 0) [l0, l1, l2, ab_I z] st σ Q ↔ ab_Run X 179 8 (13, 0, 0) [l0, l1, l2, ab_I z] (ab_I z :: st) σ Q := ab_r_iload_n rfl kc_X13_readPart dX13_readPart_7
theorem rX13_readPart_8 : ab_Run X 179 8 (13, 0, 0) L (ab_I x2 :: ab_I x1 :: ab_R a :: st) σ Q ↔ ((ab_sh σ a).1 = 14 ∧ ab_cats st ≤ 8) ∧ ab_Do X 178 [ab_R a, ab_I x1, ab_I x2] σ (fun r σ' => ab_Run X 179 11 (13, 0, 0) L (ab_psh r st) σ' Q) := ab_r_callV (w := [ab_I x2, ab_I x1]) (as := [ab_I x1, ab_I x2]) (b1 := (2, 0, 0)) 0 (Or.inl rfl) (by decide) ko_X13_readPart qM_13_150 (by decide) rfl rfl rfl rfl rfl (by decide) (Nat.le_of_ble_eq_true rfl) kc_X13_readPart dX13_readPart_8
theorem rX13_readPart_11 : ab_Run X 179 11 (13, 0, 0) L [ab_I v] σ Q ↔ Q (some (ab_I v)) σ := ab_r_ireturnI rfl kc_X13_readPart dX13_readPart_11
theorem kc_X13_isName : ab_code 180 = cX13_isName := rfl
theorem ko_X13_isName : ab_ow 180 = 13 := rfl
theorem rX13_isName_0 : ab_Run X 180 0 (12, 0, 0) [ab_R z] st σ Q ↔ z ≠ 0 ∧ ab_Run X 180 1 (12, 0, 0) [ab_R z] (ab_R z :: st) σ Q := ab_r_aload_n rfl kc_X13_isName dX13_isName_0
theorem rX13_isName_1 : ab_Run X 180 1 (12, 0, 0) L (ab_R a :: st) σ Q ↔ (ab_sh σ a).1 = 14 ∧ ab_Run X 180 4 (12, 0, 0) L (ab_I (ab_rd σ a 9) :: st) σ Q := gF_13_85 ko_X13_isName kc_X13_isName dX13_isName_1
theorem rX13_isName_4 : ab_Run X 180 4 (12, 0, 0) L st σ Q ↔ ab_Run X 180 5 (12, 0, 0) L (ab_I 2 :: st) σ Q := ab_r_iconst (by decide) kc_X13_isName dX13_isName_4
theorem rX13_isName_5 : ab_Run X 180 5 (12, 0, 0) L (ab_I b :: ab_I a :: st) σ Q ↔ (¬ a = b → ab_Run X 180 53 (12, 0, 0) L st σ Q) ∧ (¬ (¬ a = b) → ab_Run X 180 8 (12, 0, 0) L st σ Q) := ab_r_icmp_ne rfl kc_X13_isName dX13_isName_5
theorem rX13_isName_8 : ab_Run X 180 8 (12, 0, 0) [ab_R z] st σ Q ↔ z ≠ 0 ∧ ab_Run X 180 9 (12, 0, 0) [ab_R z] (ab_R z :: st) σ Q := ab_r_aload_n rfl kc_X13_isName dX13_isName_8
theorem rX13_isName_9 : ab_Run X 180 9 (12, 0, 0) L st σ Q ↔ ab_Run X 180 11 (12, 0, 0) L (ab_R (-2) :: st) σ Q := ab_r_ldcS (n := 0) rfl ko_X13_isName (by decide +kernel) (by decide +kernel) rfl kc_X13_isName dX13_isName_9
theorem rX13_isName_11 : ab_Run X 180 11 (12, 0, 0) L (ab_R x1 :: ab_R a :: st) σ Q ↔ ((ab_sh σ a).1 = 14 ∧ ab_cats st ≤ 8) ∧ ab_Do X 173 [ab_R a, ab_R x1] σ (fun r σ' => ab_Run X 180 14 (12, 0, 0) L (ab_psh r st) σ' Q) := ab_r_callV (w := [ab_R x1]) (as := [ab_R x1]) (b1 := (11, 0, 0)) 0 (Or.inl rfl) (by decide) ko_X13_isName qM_13_130 (by decide) rfl rfl rfl rfl rfl (by decide) (Nat.le_of_ble_eq_true rfl) kc_X13_isName dX13_isName_11
theorem rX13_isName_14 : ab_Run X 180 14 (12, 0, 0) L (ab_I a :: st) σ Q ↔ (¬ a = 0 → ab_Run X 180 53 (12, 0, 0) L st σ Q) ∧ (¬ (¬ a = 0) → ab_Run X 180 17 (12, 0, 0) L st σ Q) := ab_r_if_ne rfl kc_X13_isName dX13_isName_14
theorem rX13_isName_17 : ab_Run X 180 17 (12, 0, 0) [ab_R z] st σ Q ↔ z ≠ 0 ∧ ab_Run X 180 18 (12, 0, 0) [ab_R z] (ab_R z :: st) σ Q := ab_r_aload_n rfl kc_X13_isName dX13_isName_17
theorem rX13_isName_18 : ab_Run X 180 18 (12, 0, 0) L st σ Q ↔ ab_Run X 180 20 (12, 0, 0) L (ab_R (-8) :: st) σ Q := ab_r_ldcS (n := 6) rfl ko_X13_isName (by decide +kernel) (by decide +kernel) rfl kc_X13_isName dX13_isName_18
theorem rX13_isName_20 : ab_Run X 180 20 (12, 0, 0) L (ab_R x1 :: ab_R a :: st) σ Q ↔ ((ab_sh σ a).1 = 14 ∧ ab_cats st ≤ 8) ∧ ab_Do X 173 [ab_R a, ab_R x1] σ (fun r σ' => ab_Run X 180 23 (12, 0, 0) L (ab_psh r st) σ' Q) := ab_r_callV (w := [ab_R x1]) (as := [ab_R x1]) (b1 := (11, 0, 0)) 0 (Or.inl rfl) (by decide) ko_X13_isName qM_13_130 (by decide) rfl rfl rfl rfl rfl (by decide) (Nat.le_of_ble_eq_true rfl) kc_X13_isName dX13_isName_20
theorem rX13_isName_23 : ab_Run X 180 23 (12, 0, 0) L (ab_I a :: st) σ Q ↔ (¬ a = 0 → ab_Run X 180 53 (12, 0, 0) L st σ Q) ∧ (¬ (¬ a = 0) → ab_Run X 180 26 (12, 0, 0) L st σ Q) := ab_r_if_ne rfl kc_X13_isName dX13_isName_23
theorem rX13_isName_26 : ab_Run X 180 26 (12, 0, 0) [ab_R z] st σ Q ↔ z ≠ 0 ∧ ab_Run X 180 27 (12, 0, 0) [ab_R z] (ab_R z :: st) σ Q := ab_r_aload_n rfl kc_X13_isName dX13_isName_26
theorem rX13_isName_27 : ab_Run X 180 27 (12, 0, 0) L st σ Q ↔ ab_Run X 180 29 (12, 0, 0) L (ab_R (-9) :: st) σ Q := ab_r_ldcS (n := 7) rfl ko_X13_isName (by decide +kernel) (by decide +kernel) rfl kc_X13_isName dX13_isName_27
theorem rX13_isName_29 : ab_Run X 180 29 (12, 0, 0) L (ab_R x1 :: ab_R a :: st) σ Q ↔ ((ab_sh σ a).1 = 14 ∧ ab_cats st ≤ 8) ∧ ab_Do X 173 [ab_R a, ab_R x1] σ (fun r σ' => ab_Run X 180 32 (12, 0, 0) L (ab_psh r st) σ' Q) := ab_r_callV (w := [ab_R x1]) (as := [ab_R x1]) (b1 := (11, 0, 0)) 0 (Or.inl rfl) (by decide) ko_X13_isName qM_13_130 (by decide) rfl rfl rfl rfl rfl (by decide) (Nat.le_of_ble_eq_true rfl) kc_X13_isName dX13_isName_29
theorem rX13_isName_32 : ab_Run X 180 32 (12, 0, 0) L (ab_I a :: st) σ Q ↔ (¬ a = 0 → ab_Run X 180 53 (12, 0, 0) L st σ Q) ∧ (¬ (¬ a = 0) → ab_Run X 180 35 (12, 0, 0) L st σ Q) := ab_r_if_ne rfl kc_X13_isName dX13_isName_32
theorem rX13_isName_35 : ab_Run X 180 35 (12, 0, 0) [ab_R z] st σ Q ↔ z ≠ 0 ∧ ab_Run X 180 36 (12, 0, 0) [ab_R z] (ab_R z :: st) σ Q := ab_r_aload_n rfl kc_X13_isName dX13_isName_35
theorem rX13_isName_36 : ab_Run X 180 36 (12, 0, 0) L st σ Q ↔ ab_Run X 180 38 (12, 0, 0) L (ab_R (-10) :: st) σ Q := ab_r_ldcS (n := 8) rfl ko_X13_isName (by decide +kernel) (by decide +kernel) rfl kc_X13_isName dX13_isName_36
theorem rX13_isName_38 : ab_Run X 180 38 (12, 0, 0) L (ab_R x1 :: ab_R a :: st) σ Q ↔ ((ab_sh σ a).1 = 14 ∧ ab_cats st ≤ 8) ∧ ab_Do X 173 [ab_R a, ab_R x1] σ (fun r σ' => ab_Run X 180 41 (12, 0, 0) L (ab_psh r st) σ' Q) := ab_r_callV (w := [ab_R x1]) (as := [ab_R x1]) (b1 := (11, 0, 0)) 0 (Or.inl rfl) (by decide) ko_X13_isName qM_13_130 (by decide) rfl rfl rfl rfl rfl (by decide) (Nat.le_of_ble_eq_true rfl) kc_X13_isName dX13_isName_38
theorem rX13_isName_41 : ab_Run X 180 41 (12, 0, 0) L (ab_I a :: st) σ Q ↔ (¬ a = 0 → ab_Run X 180 53 (12, 0, 0) L st σ Q) ∧ (¬ (¬ a = 0) → ab_Run X 180 44 (12, 0, 0) L st σ Q) := ab_r_if_ne rfl kc_X13_isName dX13_isName_41
theorem rX13_isName_44 : ab_Run X 180 44 (12, 0, 0) [ab_R z] st σ Q ↔ z ≠ 0 ∧ ab_Run X 180 45 (12, 0, 0) [ab_R z] (ab_R z :: st) σ Q := ab_r_aload_n rfl kc_X13_isName dX13_isName_44
theorem rX13_isName_45 : ab_Run X 180 45 (12, 0, 0) L st σ Q ↔ ab_Run X 180 47 (12, 0, 0) L (ab_R (-11) :: st) σ Q := ab_r_ldcS (n := 9) rfl ko_X13_isName (by decide +kernel) (by decide +kernel) rfl kc_X13_isName dX13_isName_45
theorem rX13_isName_47 : ab_Run X 180 47 (12, 0, 0) L (ab_R x1 :: ab_R a :: st) σ Q ↔ ((ab_sh σ a).1 = 14 ∧ ab_cats st ≤ 8) ∧ ab_Do X 173 [ab_R a, ab_R x1] σ (fun r σ' => ab_Run X 180 50 (12, 0, 0) L (ab_psh r st) σ' Q) := ab_r_callV (w := [ab_R x1]) (as := [ab_R x1]) (b1 := (11, 0, 0)) 0 (Or.inl rfl) (by decide) ko_X13_isName qM_13_130 (by decide) rfl rfl rfl rfl rfl (by decide) (Nat.le_of_ble_eq_true rfl) kc_X13_isName dX13_isName_47
theorem rX13_isName_50 : ab_Run X 180 50 (12, 0, 0) L (ab_I a :: st) σ Q ↔ (a = 0 → ab_Run X 180 55 (12, 0, 0) L st σ Q) ∧ (¬ (a = 0) → ab_Run X 180 53 (12, 0, 0) L st σ Q) := ab_r_if_eq rfl kc_X13_isName dX13_isName_50
theorem rX13_isName_53 : ab_Run X 180 53 (12, 0, 0) L st σ Q ↔ ab_Run X 180 54 (12, 0, 0) L (ab_I 0 :: st) σ Q := ab_r_iconst (by decide) kc_X13_isName dX13_isName_53
theorem rX13_isName_54 : ab_Run X 180 54 (12, 0, 0) L [ab_I v] σ Q ↔ (v = 0 ∨ v = 1) ∧ Q (some (ab_I v)) σ := ab_r_ireturnZ rfl kc_X13_isName dX13_isName_54
theorem rX13_isName_55 : ab_Run X 180 55 (12, 0, 0) [ab_R z] st σ Q ↔ z ≠ 0 ∧ ab_Run X 180 56 (12, 0, 0) [ab_R z] (ab_R z :: st) σ Q := ab_r_aload_n rfl kc_X13_isName dX13_isName_55
theorem rX13_isName_56 : ab_Run X 180 56 (12, 0, 0) L st σ Q ↔ ab_Run X 180 58 (12, 0, 0) L (ab_R (-12) :: st) σ Q := ab_r_ldcS (n := 10) rfl ko_X13_isName (by decide +kernel) (by decide +kernel) rfl kc_X13_isName dX13_isName_56
theorem rX13_isName_58 : ab_Run X 180 58 (12, 0, 0) L (ab_R x1 :: ab_R a :: st) σ Q ↔ ((ab_sh σ a).1 = 14 ∧ ab_cats st ≤ 8) ∧ ab_Do X 173 [ab_R a, ab_R x1] σ (fun r σ' => ab_Run X 180 61 (12, 0, 0) L (ab_psh r st) σ' Q) := ab_r_callV (w := [ab_R x1]) (as := [ab_R x1]) (b1 := (11, 0, 0)) 0 (Or.inl rfl) (by decide) ko_X13_isName qM_13_130 (by decide) rfl rfl rfl rfl rfl (by decide) (Nat.le_of_ble_eq_true rfl) kc_X13_isName dX13_isName_58
theorem rX13_isName_61 : ab_Run X 180 61 (12, 0, 0) L (ab_I a :: st) σ Q ↔ (¬ a = 0 → ab_Run X 180 95 (12, 0, 0) L st σ Q) ∧ (¬ (¬ a = 0) → ab_Run X 180 64 (12, 0, 0) L st σ Q) := ab_r_if_ne rfl kc_X13_isName dX13_isName_61
theorem rX13_isName_64 : ab_Run X 180 64 (12, 0, 0) [ab_R z] st σ Q ↔ z ≠ 0 ∧ ab_Run X 180 65 (12, 0, 0) [ab_R z] (ab_R z :: st) σ Q := ab_r_aload_n rfl kc_X13_isName dX13_isName_64
theorem rX13_isName_65 : ab_Run X 180 65 (12, 0, 0) L st σ Q ↔ ab_Run X 180 67 (12, 0, 0) L (ab_R (-13) :: st) σ Q := ab_r_ldcS (n := 11) rfl ko_X13_isName (by decide +kernel) (by decide +kernel) rfl kc_X13_isName dX13_isName_65
theorem rX13_isName_67 : ab_Run X 180 67 (12, 0, 0) L (ab_R x1 :: ab_R a :: st) σ Q ↔ ((ab_sh σ a).1 = 14 ∧ ab_cats st ≤ 8) ∧ ab_Do X 173 [ab_R a, ab_R x1] σ (fun r σ' => ab_Run X 180 70 (12, 0, 0) L (ab_psh r st) σ' Q) := ab_r_callV (w := [ab_R x1]) (as := [ab_R x1]) (b1 := (11, 0, 0)) 0 (Or.inl rfl) (by decide) ko_X13_isName qM_13_130 (by decide) rfl rfl rfl rfl rfl (by decide) (Nat.le_of_ble_eq_true rfl) kc_X13_isName dX13_isName_67
theorem rX13_isName_70 : ab_Run X 180 70 (12, 0, 0) L (ab_I a :: st) σ Q ↔ (¬ a = 0 → ab_Run X 180 95 (12, 0, 0) L st σ Q) ∧ (¬ (¬ a = 0) → ab_Run X 180 73 (12, 0, 0) L st σ Q) := ab_r_if_ne rfl kc_X13_isName dX13_isName_70
theorem rX13_isName_73 : ab_Run X 180 73 (12, 0, 0) [ab_R z] st σ Q ↔ z ≠ 0 ∧ ab_Run X 180 74 (12, 0, 0) [ab_R z] (ab_R z :: st) σ Q := ab_r_aload_n rfl kc_X13_isName dX13_isName_73
theorem rX13_isName_74 : ab_Run X 180 74 (12, 0, 0) L st σ Q ↔ ab_Run X 180 76 (12, 0, 0) L (ab_R (-14) :: st) σ Q := ab_r_ldcS (n := 12) rfl ko_X13_isName (by decide +kernel) (by decide +kernel) rfl kc_X13_isName dX13_isName_74
theorem rX13_isName_76 : ab_Run X 180 76 (12, 0, 0) L (ab_R x1 :: ab_R a :: st) σ Q ↔ ((ab_sh σ a).1 = 14 ∧ ab_cats st ≤ 8) ∧ ab_Do X 173 [ab_R a, ab_R x1] σ (fun r σ' => ab_Run X 180 79 (12, 0, 0) L (ab_psh r st) σ' Q) := ab_r_callV (w := [ab_R x1]) (as := [ab_R x1]) (b1 := (11, 0, 0)) 0 (Or.inl rfl) (by decide) ko_X13_isName qM_13_130 (by decide) rfl rfl rfl rfl rfl (by decide) (Nat.le_of_ble_eq_true rfl) kc_X13_isName dX13_isName_76
theorem rX13_isName_79 : ab_Run X 180 79 (12, 0, 0) L (ab_I a :: st) σ Q ↔ (¬ a = 0 → ab_Run X 180 95 (12, 0, 0) L st σ Q) ∧ (¬ (¬ a = 0) → ab_Run X 180 82 (12, 0, 0) L st σ Q) := ab_r_if_ne rfl kc_X13_isName dX13_isName_79
theorem rX13_isName_82 : ab_Run X 180 82 (12, 0, 0) [ab_R z] st σ Q ↔ z ≠ 0 ∧ ab_Run X 180 83 (12, 0, 0) [ab_R z] (ab_R z :: st) σ Q := ab_r_aload_n rfl kc_X13_isName dX13_isName_82
theorem rX13_isName_83 : ab_Run X 180 83 (12, 0, 0) L st σ Q ↔ ab_Run X 180 85 (12, 0, 0) L (ab_R (-15) :: st) σ Q := ab_r_ldcS (n := 13) rfl ko_X13_isName (by decide +kernel) (by decide +kernel) rfl kc_X13_isName dX13_isName_83
theorem rX13_isName_85 : ab_Run X 180 85 (12, 0, 0) L (ab_R x1 :: ab_R a :: st) σ Q ↔ ((ab_sh σ a).1 = 14 ∧ ab_cats st ≤ 8) ∧ ab_Do X 173 [ab_R a, ab_R x1] σ (fun r σ' => ab_Run X 180 88 (12, 0, 0) L (ab_psh r st) σ' Q) := ab_r_callV (w := [ab_R x1]) (as := [ab_R x1]) (b1 := (11, 0, 0)) 0 (Or.inl rfl) (by decide) ko_X13_isName qM_13_130 (by decide) rfl rfl rfl rfl rfl (by decide) (Nat.le_of_ble_eq_true rfl) kc_X13_isName dX13_isName_85
theorem rX13_isName_88 : ab_Run X 180 88 (12, 0, 0) L (ab_I a :: st) σ Q ↔ (¬ a = 0 → ab_Run X 180 95 (12, 0, 0) L st σ Q) ∧ (¬ (¬ a = 0) → ab_Run X 180 91 (12, 0, 0) L st σ Q) := ab_r_if_ne rfl kc_X13_isName dX13_isName_88
theorem rX13_isName_91 : ab_Run X 180 91 (12, 0, 0) L st σ Q ↔ ab_Run X 180 92 (12, 0, 0) L (ab_I 1 :: st) σ Q := ab_r_iconst (by decide) kc_X13_isName dX13_isName_91
theorem rX13_isName_92 : ab_Run X 180 92 (12, 0, 0) L st σ Q ↔ ab_Run X 180 96 (12, 0, 0) L st σ Q := ab_r_goto rfl kc_X13_isName dX13_isName_92
theorem rX13_isName_95 : ab_Run X 180 95 (12, 0, 0) L st σ Q ↔ ab_Run X 180 96 (12, 0, 0) L (ab_I 0 :: st) σ Q := ab_r_iconst (by decide) kc_X13_isName dX13_isName_95
theorem rX13_isName_96 : ab_Run X 180 96 (12, 0, 0) L [ab_I v] σ Q ↔ (v = 0 ∨ v = 1) ∧ Q (some (ab_I v)) σ := ab_r_ireturnZ rfl kc_X13_isName dX13_isName_96
theorem kc_X13_begins : ab_code 181 = cX13_begins := rfl
theorem ko_X13_begins : ab_ow 181 = 13 := rfl
theorem rX13_begins_0 : ab_Run X 181 0 (2, 0, 0) [l0, ab_I z, l2] st σ Q ↔ ab_Run X 181 1 (2, 0, 0) [l0, ab_I z, l2] (ab_I z :: st) σ Q := ab_r_iload_n rfl kc_X13_begins dX13_begins_0
theorem rX13_begins_1 : ab_Run X 181 1 (2, 0, 0) [l0, l1, ab_I z] st σ Q ↔ ab_Run X 181 2 (2, 0, 0) [l0, l1, ab_I z] (ab_I z :: st) σ Q := ab_r_iload_n rfl kc_X13_begins dX13_begins_1
theorem rX13_begins_2 : ab_Run X 181 2 (2, 0, 0) L (ab_I b :: ab_I a :: st) σ Q ↔ (¬ a = b → ab_Run X 181 10 (2, 0, 0) L st σ Q) ∧ (¬ (¬ a = b) → ab_Run X 181 5 (2, 0, 0) L st σ Q) := ab_r_icmp_ne rfl kc_X13_begins dX13_begins_2
theorem rX13_begins_5 : ab_Run X 181 5 (2, 0, 0) [ab_R z, l1, l2] st σ Q ↔ z ≠ 0 ∧ ab_Run X 181 6 (2, 0, 0) [ab_R z, l1, l2] (ab_R z :: st) σ Q := ab_r_aload_n rfl kc_X13_begins dX13_begins_5
theorem rX13_begins_6 : ab_Run X 181 6 (2, 0, 0) L st σ Q ↔ ab_Run X 181 7 (2, 0, 0) L (ab_I 5 :: st) σ Q := ab_r_iconst (by decide) kc_X13_begins dX13_begins_6
theorem rX13_begins_7 : ab_Run X 181 7 (2, 0, 0) L (ab_I x1 :: ab_R a :: st) σ Q ↔ ((ab_sh σ a).1 = 14 ∧ ab_cats st ≤ 8) ∧ ab_Do X 172 [ab_R a, ab_I x1] σ (fun r σ' => ab_Run X 181 10 (2, 0, 0) L (ab_psh r st) σ' Q) := ab_r_callV (w := [ab_I x1]) (as := [ab_I x1]) (b1 := (0, 0, 0)) 0 (Or.inl rfl) (by decide) ko_X13_begins qM_13_134 (by decide) rfl rfl rfl rfl rfl (by decide) (Nat.le_of_ble_eq_true rfl) kc_X13_begins dX13_begins_7
theorem rX13_begins_10 : ab_Run X 181 10 (2, 0, 0) [ab_R z, l1, l2] st σ Q ↔ z ≠ 0 ∧ ab_Run X 181 11 (2, 0, 0) [ab_R z, l1, l2] (ab_R z :: st) σ Q := ab_r_aload_n rfl kc_X13_begins dX13_begins_10
theorem rX13_begins_11 : ab_Run X 181 11 (2, 0, 0) L (ab_R a :: st) σ Q ↔ (ab_sh σ a).1 = 14 ∧ ab_Run X 181 14 (2, 0, 0) L (ab_R (ab_rd σ a 4) :: st) σ Q := gF_13_171 ko_X13_begins kc_X13_begins dX13_begins_11
theorem rX13_begins_14 : ab_Run X 181 14 (2, 0, 0) L (ab_R a :: st) σ Q ↔ (ab_sh σ a).1 = 13 ∧ ab_Run X 181 17 (2, 0, 0) L (ab_I (ab_rd σ a 11) :: st) σ Q := gF_13_175 ko_X13_begins kc_X13_begins dX13_begins_14
theorem rX13_begins_17 : ab_Run X 181 17 (2, 0, 0) L (ab_I a :: st) σ Q ↔ (¬ a = 0 → ab_Run X 181 26 (2, 0, 0) L st σ Q) ∧ (¬ (¬ a = 0) → ab_Run X 181 20 (2, 0, 0) L st σ Q) := ab_r_if_ne rfl kc_X13_begins dX13_begins_17
theorem rX13_begins_20 : ab_Run X 181 20 (2, 0, 0) [ab_R z, l1, l2] st σ Q ↔ z ≠ 0 ∧ ab_Run X 181 21 (2, 0, 0) [ab_R z, l1, l2] (ab_R z :: st) σ Q := ab_r_aload_n rfl kc_X13_begins dX13_begins_20
theorem rX13_begins_21 : ab_Run X 181 21 (2, 0, 0) L st σ Q ↔ ab_Run X 181 23 (2, 0, 0) L (ab_I 6 :: st) σ Q := ab_r_bipush (by decide) kc_X13_begins dX13_begins_21
theorem rX13_begins_23 : ab_Run X 181 23 (2, 0, 0) L (ab_I x1 :: ab_R a :: st) σ Q ↔ ((ab_sh σ a).1 = 14 ∧ ab_cats st ≤ 8) ∧ ab_Do X 172 [ab_R a, ab_I x1] σ (fun r σ' => ab_Run X 181 26 (2, 0, 0) L (ab_psh r st) σ' Q) := ab_r_callV (w := [ab_I x1]) (as := [ab_I x1]) (b1 := (0, 0, 0)) 0 (Or.inl rfl) (by decide) ko_X13_begins qM_13_134 (by decide) rfl rfl rfl rfl rfl (by decide) (Nat.le_of_ble_eq_true rfl) kc_X13_begins dX13_begins_23
theorem rX13_begins_26 : ab_Run X 181 26 (2, 0, 0) [ab_R z, l1, l2] st σ Q ↔ z ≠ 0 ∧ ab_Run X 181 27 (2, 0, 0) [ab_R z, l1, l2] (ab_R z :: st) σ Q := ab_r_aload_n rfl kc_X13_begins dX13_begins_26
theorem rX13_begins_27 : ab_Run X 181 27 (2, 0, 0) L (ab_R a :: st) σ Q ↔ ((ab_sh σ a).1 = 14 ∧ ab_cats st ≤ 8) ∧ ab_Do X 171 [ab_R a] σ (fun r σ' => ab_Run X 181 30 (2, 0, 0) L (ab_psh r st) σ' Q) := ab_r_callV (w := []) (as := []) (b1 := (1, 0, 0)) 0 (Or.inl rfl) (by decide) ko_X13_begins qM_13_127 (by decide) rfl rfl rfl rfl rfl (by decide) (Nat.le_of_ble_eq_true rfl) kc_X13_begins dX13_begins_27
theorem rX13_begins_30 : ab_Run X 181 30 (2, 0, 0) L [] σ Q ↔ Q none σ := ab_r_return rfl kc_X13_begins dX13_begins_30
theorem kc_X13_readFresh : ab_code 182 = cX13_readFresh := rfl
theorem ko_X13_readFresh : ab_ow 182 = 13 := rfl
theorem rX13_readFresh_0 : ab_Run X 182 0 (13, 0, 0) [ab_R z, l1, l2] st σ Q ↔ z ≠ 0 ∧ ab_Run X 182 1 (13, 0, 0) [ab_R z, l1, l2] (ab_R z :: st) σ Q := ab_r_aload_n rfl kc_X13_readFresh dX13_readFresh_0
theorem rX13_readFresh_1 : ab_Run X 182 1 (13, 0, 0) L (ab_R a :: st) σ Q ↔ ((ab_sh σ a).1 = 14 ∧ ab_cats st ≤ 8) ∧ ab_Do X 180 [ab_R a] σ (fun r σ' => ab_Run X 182 4 (13, 0, 0) L (ab_psh r st) σ' Q) := ab_r_callV (w := []) (as := []) (b1 := (12, 0, 0)) 0 (Or.inl rfl) (by decide) ko_X13_readFresh qM_13_181 (by decide) rfl rfl rfl rfl rfl (by decide) (Nat.le_of_ble_eq_true rfl) kc_X13_readFresh dX13_readFresh_1
theorem rX13_readFresh_4 : ab_Run X 182 4 (13, 0, 0) L (ab_I a :: st) σ Q ↔ (¬ a = 0 → ab_Run X 182 12 (13, 0, 0) L st σ Q) ∧ (¬ (¬ a = 0) → ab_Run X 182 7 (13, 0, 0) L st σ Q) := ab_r_if_ne rfl kc_X13_readFresh dX13_readFresh_4
theorem rX13_readFresh_7 : ab_Run X 182 7 (13, 0, 0) [ab_R z, l1, l2] st σ Q ↔ z ≠ 0 ∧ ab_Run X 182 8 (13, 0, 0) [ab_R z, l1, l2] (ab_R z :: st) σ Q := ab_r_aload_n rfl kc_X13_readFresh dX13_readFresh_7
theorem rX13_readFresh_8 : ab_Run X 182 8 (13, 0, 0) L st σ Q ↔ ab_Run X 182 9 (13, 0, 0) L (ab_I 1 :: st) σ Q := ab_r_iconst (by decide) kc_X13_readFresh dX13_readFresh_8
theorem rX13_readFresh_9 : ab_Run X 182 9 (13, 0, 0) L (ab_I x1 :: ab_R a :: st) σ Q ↔ ((ab_sh σ a).1 = 14 ∧ ab_cats st ≤ 8) ∧ ab_Do X 172 [ab_R a, ab_I x1] σ (fun r σ' => ab_Run X 182 12 (13, 0, 0) L (ab_psh r st) σ' Q) := ab_r_callV (w := [ab_I x1]) (as := [ab_I x1]) (b1 := (0, 0, 0)) 0 (Or.inl rfl) (by decide) ko_X13_readFresh qM_13_134 (by decide) rfl rfl rfl rfl rfl (by decide) (Nat.le_of_ble_eq_true rfl) kc_X13_readFresh dX13_readFresh_9
theorem rX13_readFresh_12 : ab_Run X 182 12 (13, 0, 0) [ab_R z, l1, l2] st σ Q ↔ z ≠ 0 ∧ ab_Run X 182 13 (13, 0, 0) [ab_R z, l1, l2] (ab_R z :: st) σ Q := ab_r_aload_n rfl kc_X13_readFresh dX13_readFresh_12
theorem rX13_readFresh_13 : ab_Run X 182 13 (13, 0, 0) L (ab_R a :: st) σ Q ↔ (ab_sh σ a).1 = 14 ∧ ab_Run X 182 16 (13, 0, 0) L (ab_R (ab_rd σ a 4) :: st) σ Q := gF_13_171 ko_X13_readFresh kc_X13_readFresh dX13_readFresh_13
theorem rX13_readFresh_16 : ab_Run X 182 16 (13, 0, 0) [ab_R z, l1, l2] st σ Q ↔ z ≠ 0 ∧ ab_Run X 182 17 (13, 0, 0) [ab_R z, l1, l2] (ab_R z :: st) σ Q := ab_r_aload_n rfl kc_X13_readFresh dX13_readFresh_16
theorem rX13_readFresh_17 : ab_Run X 182 17 (13, 0, 0) L (ab_R a :: st) σ Q ↔ (ab_sh σ a).1 = 14 ∧ ab_Run X 182 20 (13, 0, 0) L (ab_J (ab_rd σ a 15) :: st) σ Q := gF_13_104 ko_X13_readFresh kc_X13_readFresh dX13_readFresh_17
theorem rX13_readFresh_20 : ab_Run X 182 20 (13, 0, 0) L (ab_J x1 :: ab_R a :: st) σ Q ↔ ((ab_sh σ a).1 = 13 ∧ ab_cats st ≤ 8) ∧ ab_Do X 153 [ab_R a, ab_J x1] σ (fun r σ' => ab_Run X 182 23 (13, 0, 0) L (ab_psh r st) σ' Q) := ab_r_callV (w := [ab_J x1]) (as := [ab_J x1]) (b1 := (0, 0, 0)) 0 (Or.inl rfl) (by decide) ko_X13_readFresh qM_13_185 (by decide) rfl rfl rfl rfl rfl (by decide) (Nat.le_of_ble_eq_true rfl) kc_X13_readFresh dX13_readFresh_20
theorem rX13_readFresh_23 : ab_Run X 182 23 (13, 0, 0) L st σ Q ↔ ab_Run X 182 24 (13, 0, 0) L (ab_I (-1) :: st) σ Q := ab_r_iconst (by decide) kc_X13_readFresh dX13_readFresh_23
theorem rX13_readFresh_24 : ab_Run X 182 24 (13, 0, 0) L (ab_I b :: ab_I a :: st) σ Q ↔ (a = b → ab_Run X 182 32 (13, 0, 0) L st σ Q) ∧ (¬ (a = b) → ab_Run X 182 27 (13, 0, 0) L st σ Q) := ab_r_icmp_eq rfl kc_X13_readFresh dX13_readFresh_24
theorem rX13_readFresh_27 : ab_Run X 182 27 (13, 0, 0) [ab_R z, l1, l2] st σ Q ↔ z ≠ 0 ∧ ab_Run X 182 28 (13, 0, 0) [ab_R z, l1, l2] (ab_R z :: st) σ Q := ab_r_aload_n rfl kc_X13_readFresh dX13_readFresh_27
theorem rX13_readFresh_28 : ab_Run X 182 28 (13, 0, 0) L st σ Q ↔ ab_Run X 182 29 (13, 0, 0) L (ab_I 3 :: st) σ Q := ab_r_iconst (by decide) kc_X13_readFresh dX13_readFresh_28
theorem rX13_readFresh_29 : ab_Run X 182 29 (13, 0, 0) L (ab_I x1 :: ab_R a :: st) σ Q ↔ ((ab_sh σ a).1 = 14 ∧ ab_cats st ≤ 8) ∧ ab_Do X 172 [ab_R a, ab_I x1] σ (fun r σ' => ab_Run X 182 32 (13, 0, 0) L (ab_psh r st) σ' Q) := ab_r_callV (w := [ab_I x1]) (as := [ab_I x1]) (b1 := (0, 0, 0)) 0 (Or.inl rfl) (by decide) ko_X13_readFresh qM_13_134 (by decide) rfl rfl rfl rfl rfl (by decide) (Nat.le_of_ble_eq_true rfl) kc_X13_readFresh dX13_readFresh_29
theorem rX13_readFresh_32 : ab_Run X 182 32 (13, 0, 0) [ab_R z, l1, l2] st σ Q ↔ z ≠ 0 ∧ ab_Run X 182 33 (13, 0, 0) [ab_R z, l1, l2] (ab_R z :: st) σ Q := ab_r_aload_n rfl kc_X13_readFresh dX13_readFresh_32
theorem rX13_readFresh_33 : ab_Run X 182 33 (13, 0, 0) L (ab_R a :: st) σ Q ↔ (ab_sh σ a).1 = 14 ∧ ab_Run X 182 36 (13, 0, 0) L (ab_J (ab_rd σ a 15) :: st) σ Q := gF_13_104 ko_X13_readFresh kc_X13_readFresh dX13_readFresh_33
theorem rX13_readFresh_36 : ab_Run X 182 36 (13, 0, 0) [l0, l1, l2] (ab_J z :: st) σ Q ↔ (!ab_isJ l0) = true ∧ ab_Run X 182 37 (13, 0, 0) [l0, ab_J z, ab_R 0] st σ Q := ab_r_lstore_n (Nat.le_of_ble_eq_true rfl) kc_X13_readFresh dX13_readFresh_36
theorem rX13_readFresh_37 : ab_Run X 182 37 (13, 0, 0) [ab_R z, l1, l2] st σ Q ↔ z ≠ 0 ∧ ab_Run X 182 38 (13, 0, 0) [ab_R z, l1, l2] (ab_R z :: st) σ Q := ab_r_aload_n rfl kc_X13_readFresh dX13_readFresh_37
theorem rX13_readFresh_38 : ab_Run X 182 38 (13, 0, 0) L (ab_R a :: st) σ Q ↔ ((ab_sh σ a).1 = 14 ∧ ab_cats st ≤ 8) ∧ ab_Do X 171 [ab_R a] σ (fun r σ' => ab_Run X 182 41 (13, 0, 0) L (ab_psh r st) σ' Q) := ab_r_callV (w := []) (as := []) (b1 := (1, 0, 0)) 0 (Or.inl rfl) (by decide) ko_X13_readFresh qM_13_127 (by decide) rfl rfl rfl rfl rfl (by decide) (Nat.le_of_ble_eq_true rfl) kc_X13_readFresh dX13_readFresh_38
theorem rX13_readFresh_41 : ab_Run X 182 41 (13, 0, 0) [l0, ab_J z, l2] st σ Q ↔ ab_Run X 182 42 (13, 0, 0) [l0, ab_J z, l2] (ab_J z :: st) σ Q := ab_r_lload_n rfl kc_X13_readFresh dX13_readFresh_41
theorem rX13_readFresh_42 : ab_Run X 182 42 (13, 0, 0) L [ab_J v] σ Q ↔ Q (some (ab_J v)) σ := ab_r_lreturn rfl kc_X13_readFresh dX13_readFresh_42
theorem kc_X13_names : ab_code 183 = cX13_names := rfl
theorem ko_X13_names : ab_ow 183 = 13 := rfl
theorem rX13_names_0 : ab_Run X 183 0 (0, 0, 0) [ab_R z, l1, l2, l3, l4] st σ Q ↔ z ≠ 0 ∧ ab_Run X 183 1 (0, 0, 0) [ab_R z, l1, l2, l3, l4] (ab_R z :: st) σ Q := ab_r_aload_n rfl kc_X13_names dX13_names_0
theorem rX13_names_1 : ab_Run X 183 1 (0, 0, 0) L (ab_R a :: st) σ Q ↔ (ab_sh σ a).1 = 14 ∧ ab_Run X 183 4 (0, 0, 0) L (ab_R (ab_rd σ a 4) :: st) σ Q := gF_13_171 ko_X13_names kc_X13_names dX13_names_1
theorem rX13_names_4 : ab_Run X 183 4 (0, 0, 0) L (ab_R a :: st) σ Q ↔ (ab_sh σ a).1 = 13 ∧ ab_Run X 183 7 (0, 0, 0) L (ab_R (ab_rd σ a 30) :: st) σ Q := gF_13_189 ko_X13_names kc_X13_names dX13_names_4
theorem rX13_names_7 : ab_Run X 183 7 (0, 0, 0) [ab_R z, l1, l2, l3, l4] st σ Q ↔ z ≠ 0 ∧ ab_Run X 183 8 (0, 0, 0) [ab_R z, l1, l2, l3, l4] (ab_R z :: st) σ Q := ab_r_aload_n rfl kc_X13_names dX13_names_7
theorem rX13_names_8 : ab_Run X 183 8 (0, 0, 0) L (ab_R a :: st) σ Q ↔ (ab_sh σ a).1 = 14 ∧ ab_Run X 183 11 (0, 0, 0) L (ab_R (ab_rd σ a 4) :: st) σ Q := gF_13_171 ko_X13_names kc_X13_names dX13_names_8
theorem rX13_names_11 : ab_Run X 183 11 (0, 0, 0) L (ab_R a :: st) σ Q ↔ (ab_sh σ a).1 = 13 ∧ ab_Run X 183 14 (0, 0, 0) L (ab_I (ab_rd σ a 10) :: st) σ Q := gF_13_192 ko_X13_names kc_X13_names dX13_names_11
theorem rX13_names_14 : ab_Run X 183 14 (0, 0, 0) [l0, ab_J z, l2, l3, l4] st σ Q ↔ ab_Run X 183 15 (0, 0, 0) [l0, ab_J z, l2, l3, l4] (ab_J z :: st) σ Q := ab_r_lload_n rfl kc_X13_names dX13_names_14
theorem rX13_names_15 : ab_Run X 183 15 (0, 0, 0) L (ab_J v :: ab_I i :: ab_R a :: st) σ Q ↔ ((ab_sh σ a).1 = 22 ∧ 0 ≤ i ∧ i < (ab_sh σ a).2) ∧ ab_Run X 183 16 (0, 0, 0) L st (ab_wr σ a i v) Q := ab_r_lastore kc_X13_names dX13_names_15
theorem rX13_names_16 : ab_Run X 183 16 (0, 0, 0) [ab_R z, l1, l2, l3, l4] st σ Q ↔ z ≠ 0 ∧ ab_Run X 183 17 (0, 0, 0) [ab_R z, l1, l2, l3, l4] (ab_R z :: st) σ Q := ab_r_aload_n rfl kc_X13_names dX13_names_16
theorem rX13_names_17 : ab_Run X 183 17 (0, 0, 0) L (ab_R a :: st) σ Q ↔ (ab_sh σ a).1 = 14 ∧ ab_Run X 183 20 (0, 0, 0) L (ab_R (ab_rd σ a 4) :: st) σ Q := gF_13_171 ko_X13_names kc_X13_names dX13_names_17
theorem rX13_names_20 : ab_Run X 183 20 (0, 0, 0) L (ab_R a :: st) σ Q ↔ (ab_sh σ a).1 = 13 ∧ ab_Run X 183 23 (0, 0, 0) L (ab_R (ab_rd σ a 31) :: st) σ Q := gF_13_195 ko_X13_names kc_X13_names dX13_names_20
theorem rX13_names_23 : ab_Run X 183 23 (0, 0, 0) [ab_R z, l1, l2, l3, l4] st σ Q ↔ z ≠ 0 ∧ ab_Run X 183 24 (0, 0, 0) [ab_R z, l1, l2, l3, l4] (ab_R z :: st) σ Q := ab_r_aload_n rfl kc_X13_names dX13_names_23
theorem rX13_names_24 : ab_Run X 183 24 (0, 0, 0) L (ab_R a :: st) σ Q ↔ (ab_sh σ a).1 = 14 ∧ ab_Run X 183 27 (0, 0, 0) L (ab_R (ab_rd σ a 4) :: st) σ Q := gF_13_171 ko_X13_names kc_X13_names dX13_names_24
theorem rX13_names_27 : ab_Run X 183 27 (0, 0, 0) L (ab_R a :: st) σ Q ↔ (ab_sh σ a).1 = 13 ∧ ab_Run X 183 30 (0, 0, 0) L (ab_I (ab_rd σ a 10) :: st) σ Q := gF_13_192 ko_X13_names kc_X13_names dX13_names_27
theorem rX13_names_30 : ab_Run X 183 30 (0, 0, 0) [l0, l1, l2, ab_I z, l4] st σ Q ↔ ab_Run X 183 31 (0, 0, 0) [l0, l1, l2, ab_I z, l4] (ab_I z :: st) σ Q := ab_r_iload_n rfl kc_X13_names dX13_names_30
theorem rX13_names_31B (h : (ab_sh σ a).1 = 23 ∧ 0 ≤ i ∧ i < (ab_sh σ a).2) : ab_Run X 183 31 (0, 0, 0) L (ab_I v :: ab_I i :: ab_R a :: st) σ Q ↔ ab_Run X 183 32 (0, 0, 0) L st (ab_wr σ a i (ab_w8 v)) Q := ab_r_bastoreB h kc_X13_names dX13_names_31
theorem rX13_names_31Z (h : (ab_sh σ a).1 = 24 ∧ 0 ≤ i ∧ i < (ab_sh σ a).2 ∧ (v = 0 ∨ v = 1)) : ab_Run X 183 31 (0, 0, 0) L (ab_I v :: ab_I i :: ab_R a :: st) σ Q ↔ ab_Run X 183 32 (0, 0, 0) L st (ab_wr σ a i v) Q := ab_r_bastoreZ h kc_X13_names dX13_names_31
theorem rX13_names_32 : ab_Run X 183 32 (0, 0, 0) [ab_R z, l1, l2, l3, l4] st σ Q ↔ z ≠ 0 ∧ ab_Run X 183 33 (0, 0, 0) [ab_R z, l1, l2, l3, l4] (ab_R z :: st) σ Q := ab_r_aload_n rfl kc_X13_names dX13_names_32
theorem rX13_names_33 : ab_Run X 183 33 (0, 0, 0) L (ab_R a :: st) σ Q ↔ (ab_sh σ a).1 = 14 ∧ ab_Run X 183 36 (0, 0, 0) L (ab_R (ab_rd σ a 4) :: st) σ Q := gF_13_171 ko_X13_names kc_X13_names dX13_names_33
theorem rX13_names_36 : ab_Run X 183 36 (0, 0, 0) L (ab_R a :: st) σ Q ↔ (ab_sh σ a).1 = 13 ∧ ab_Run X 183 39 (0, 0, 0) L (ab_R (ab_rd σ a 32) :: st) σ Q := gF_13_198 ko_X13_names kc_X13_names dX13_names_36
theorem rX13_names_39 : ab_Run X 183 39 (0, 0, 0) [ab_R z, l1, l2, l3, l4] st σ Q ↔ z ≠ 0 ∧ ab_Run X 183 40 (0, 0, 0) [ab_R z, l1, l2, l3, l4] (ab_R z :: st) σ Q := ab_r_aload_n rfl kc_X13_names dX13_names_39
theorem rX13_names_40 : ab_Run X 183 40 (0, 0, 0) L (ab_R a :: st) σ Q ↔ (ab_sh σ a).1 = 14 ∧ ab_Run X 183 43 (0, 0, 0) L (ab_R (ab_rd σ a 4) :: st) σ Q := gF_13_171 ko_X13_names kc_X13_names dX13_names_40
theorem rX13_names_43 : ab_Run X 183 43 (0, 0, 0) L (ab_R a :: st) σ Q ↔ (ab_sh σ a).1 = 13 ∧ ab_Run X 183 46 (0, 0, 0) L (ab_I (ab_rd σ a 10) :: st) σ Q := gF_13_192 ko_X13_names kc_X13_names dX13_names_43
theorem rX13_names_46 : ab_Run X 183 46 (0, 0, 0) [l0, l1, l2, l3, ab_I z] st σ Q ↔ ab_Run X 183 48 (0, 0, 0) [l0, l1, l2, l3, ab_I z] (ab_I z :: st) σ Q := ab_r_iload rfl kc_X13_names dX13_names_46
theorem rX13_names_48 : ab_Run X 183 48 (0, 0, 0) L (ab_I v :: ab_I i :: ab_R a :: st) σ Q ↔ ((ab_sh σ a).1 = 21 ∧ 0 ≤ i ∧ i < (ab_sh σ a).2) ∧ ab_Run X 183 49 (0, 0, 0) L st (ab_wr σ a i v) Q := ab_r_iastore kc_X13_names dX13_names_48
theorem rX13_names_49 : ab_Run X 183 49 (0, 0, 0) [ab_R z, l1, l2, l3, l4] st σ Q ↔ z ≠ 0 ∧ ab_Run X 183 50 (0, 0, 0) [ab_R z, l1, l2, l3, l4] (ab_R z :: st) σ Q := ab_r_aload_n rfl kc_X13_names dX13_names_49
theorem rX13_names_50 : ab_Run X 183 50 (0, 0, 0) L (ab_R a :: st) σ Q ↔ (ab_sh σ a).1 = 14 ∧ ab_Run X 183 53 (0, 0, 0) L (ab_R (ab_rd σ a 4) :: st) σ Q := gF_13_171 ko_X13_names kc_X13_names dX13_names_50
theorem rX13_names_53I : ab_Run X 183 53 (0, 0, 0) L (ab_I a :: st) σ Q ↔ ab_Run X 183 54 (0, 0, 0) L (ab_I a :: ab_I a :: st) σ Q := ab_r_dupI kc_X13_names dX13_names_53
theorem rX13_names_53R : ab_Run X 183 53 (0, 0, 0) L (ab_R a :: st) σ Q ↔ ab_Run X 183 54 (0, 0, 0) L (ab_R a :: ab_R a :: st) σ Q := ab_r_dupR kc_X13_names dX13_names_53
theorem rX13_names_54 : ab_Run X 183 54 (0, 0, 0) L (ab_R a :: st) σ Q ↔ (ab_sh σ a).1 = 13 ∧ ab_Run X 183 57 (0, 0, 0) L (ab_I (ab_rd σ a 10) :: st) σ Q := gF_13_192 ko_X13_names kc_X13_names dX13_names_54
theorem rX13_names_57 : ab_Run X 183 57 (0, 0, 0) L st σ Q ↔ ab_Run X 183 58 (0, 0, 0) L (ab_I 1 :: st) σ Q := ab_r_iconst (by decide) kc_X13_names dX13_names_57
theorem rX13_names_58 : ab_Run X 183 58 (0, 0, 0) L (ab_I b :: ab_I a :: st) σ Q ↔ ab_Run X 183 59 (0, 0, 0) L (ab_I (ab_w32 (a + b)) :: st) σ Q := ab_r_iadd kc_X13_names dX13_names_58
theorem rX13_names_59 : ab_Run X 183 59 (0, 0, 0) L (ab_I z :: ab_R a :: st) σ Q ↔ (ab_sh σ a).1 = 13 ∧ ab_Run X 183 62 (0, 0, 0) L st (ab_wr σ a 10 z) Q := sF_13_192 ko_X13_names kc_X13_names dX13_names_59
theorem rX13_names_62 : ab_Run X 183 62 (0, 0, 0) L [] σ Q ↔ Q none σ := ab_r_return rfl kc_X13_names dX13_names_62
theorem kc_X13_knownOne : ab_code 184 = cX13_knownOne := rfl
theorem ko_X13_knownOne : ab_ow 184 = 13 := rfl
theorem rX13_knownOne_0 : ab_Run X 184 0 (13, 0, 0) [ab_R z, l1] st σ Q ↔ z ≠ 0 ∧ ab_Run X 184 1 (13, 0, 0) [ab_R z, l1] (ab_R z :: st) σ Q := ab_r_aload_n rfl kc_X13_knownOne dX13_knownOne_0
theorem rX13_knownOne_1 : ab_Run X 184 1 (13, 0, 0) L (ab_R a :: st) σ Q ↔ ((ab_sh σ a).1 = 14 ∧ ab_cats st ≤ 8) ∧ ab_Do X 180 [ab_R a] σ (fun r σ' => ab_Run X 184 4 (13, 0, 0) L (ab_psh r st) σ' Q) := ab_r_callV (w := []) (as := []) (b1 := (12, 0, 0)) 0 (Or.inl rfl) (by decide) ko_X13_knownOne qM_13_181 (by decide) rfl rfl rfl rfl rfl (by decide) (Nat.le_of_ble_eq_true rfl) kc_X13_knownOne dX13_knownOne_1
theorem rX13_knownOne_4 : ab_Run X 184 4 (13, 0, 0) L (ab_I a :: st) σ Q ↔ (¬ a = 0 → ab_Run X 184 12 (13, 0, 0) L st σ Q) ∧ (¬ (¬ a = 0) → ab_Run X 184 7 (13, 0, 0) L st σ Q) := ab_r_if_ne rfl kc_X13_knownOne dX13_knownOne_4
theorem rX13_knownOne_7 : ab_Run X 184 7 (13, 0, 0) [ab_R z, l1] st σ Q ↔ z ≠ 0 ∧ ab_Run X 184 8 (13, 0, 0) [ab_R z, l1] (ab_R z :: st) σ Q := ab_r_aload_n rfl kc_X13_knownOne dX13_knownOne_7
theorem rX13_knownOne_8 : ab_Run X 184 8 (13, 0, 0) L st σ Q ↔ ab_Run X 184 9 (13, 0, 0) L (ab_I 1 :: st) σ Q := ab_r_iconst (by decide) kc_X13_knownOne dX13_knownOne_8
theorem rX13_knownOne_9 : ab_Run X 184 9 (13, 0, 0) L (ab_I x1 :: ab_R a :: st) σ Q ↔ ((ab_sh σ a).1 = 14 ∧ ab_cats st ≤ 8) ∧ ab_Do X 172 [ab_R a, ab_I x1] σ (fun r σ' => ab_Run X 184 12 (13, 0, 0) L (ab_psh r st) σ' Q) := ab_r_callV (w := [ab_I x1]) (as := [ab_I x1]) (b1 := (0, 0, 0)) 0 (Or.inl rfl) (by decide) ko_X13_knownOne qM_13_134 (by decide) rfl rfl rfl rfl rfl (by decide) (Nat.le_of_ble_eq_true rfl) kc_X13_knownOne dX13_knownOne_9
theorem rX13_knownOne_12 : ab_Run X 184 12 (13, 0, 0) [ab_R z, l1] st σ Q ↔ z ≠ 0 ∧ ab_Run X 184 13 (13, 0, 0) [ab_R z, l1] (ab_R z :: st) σ Q := ab_r_aload_n rfl kc_X13_knownOne dX13_knownOne_12
theorem rX13_knownOne_13 : ab_Run X 184 13 (13, 0, 0) L (ab_R a :: st) σ Q ↔ (ab_sh σ a).1 = 14 ∧ ab_Run X 184 16 (13, 0, 0) L (ab_R (ab_rd σ a 4) :: st) σ Q := gF_13_171 ko_X13_knownOne kc_X13_knownOne dX13_knownOne_13
theorem rX13_knownOne_16 : ab_Run X 184 16 (13, 0, 0) [ab_R z, l1] st σ Q ↔ z ≠ 0 ∧ ab_Run X 184 17 (13, 0, 0) [ab_R z, l1] (ab_R z :: st) σ Q := ab_r_aload_n rfl kc_X13_knownOne dX13_knownOne_16
theorem rX13_knownOne_17 : ab_Run X 184 17 (13, 0, 0) L (ab_R a :: st) σ Q ↔ (ab_sh σ a).1 = 14 ∧ ab_Run X 184 20 (13, 0, 0) L (ab_J (ab_rd σ a 15) :: st) σ Q := gF_13_104 ko_X13_knownOne kc_X13_knownOne dX13_knownOne_17
theorem rX13_knownOne_20 : ab_Run X 184 20 (13, 0, 0) L (ab_J x1 :: ab_R a :: st) σ Q ↔ ((ab_sh σ a).1 = 13 ∧ ab_cats st ≤ 8) ∧ ab_Do X 153 [ab_R a, ab_J x1] σ (fun r σ' => ab_Run X 184 23 (13, 0, 0) L (ab_psh r st) σ' Q) := ab_r_callV (w := [ab_J x1]) (as := [ab_J x1]) (b1 := (0, 0, 0)) 0 (Or.inl rfl) (by decide) ko_X13_knownOne qM_13_185 (by decide) rfl rfl rfl rfl rfl (by decide) (Nat.le_of_ble_eq_true rfl) kc_X13_knownOne dX13_knownOne_20
theorem rX13_knownOne_23 : ab_Run X 184 23 (13, 0, 0) [l0, l1] (ab_I z :: st) σ Q ↔ (!ab_isJ l0) = true ∧ ab_Run X 184 24 (13, 0, 0) [l0, ab_I z] st σ Q := ab_r_istore_n (Nat.le_of_ble_eq_true rfl) kc_X13_knownOne dX13_knownOne_23
theorem rX13_knownOne_24 : ab_Run X 184 24 (13, 0, 0) [l0, ab_I z] st σ Q ↔ ab_Run X 184 25 (13, 0, 0) [l0, ab_I z] (ab_I z :: st) σ Q := ab_r_iload_n rfl kc_X13_knownOne dX13_knownOne_24
theorem rX13_knownOne_25 : ab_Run X 184 25 (13, 0, 0) L st σ Q ↔ ab_Run X 184 26 (13, 0, 0) L (ab_I (-1) :: st) σ Q := ab_r_iconst (by decide) kc_X13_knownOne dX13_knownOne_25
theorem rX13_knownOne_26 : ab_Run X 184 26 (13, 0, 0) L (ab_I b :: ab_I a :: st) σ Q ↔ (a = b → ab_Run X 184 41 (13, 0, 0) L st σ Q) ∧ (¬ (a = b) → ab_Run X 184 29 (13, 0, 0) L st σ Q) := ab_r_icmp_eq rfl kc_X13_knownOne dX13_knownOne_26
theorem rX13_knownOne_29 : ab_Run X 184 29 (13, 0, 0) [ab_R z, l1] st σ Q ↔ z ≠ 0 ∧ ab_Run X 184 30 (13, 0, 0) [ab_R z, l1] (ab_R z :: st) σ Q := ab_r_aload_n rfl kc_X13_knownOne dX13_knownOne_29
theorem rX13_knownOne_30 : ab_Run X 184 30 (13, 0, 0) L (ab_R a :: st) σ Q ↔ (ab_sh σ a).1 = 14 ∧ ab_Run X 184 33 (13, 0, 0) L (ab_R (ab_rd σ a 4) :: st) σ Q := gF_13_171 ko_X13_knownOne kc_X13_knownOne dX13_knownOne_30
theorem rX13_knownOne_33 : ab_Run X 184 33 (13, 0, 0) L (ab_R a :: st) σ Q ↔ (ab_sh σ a).1 = 13 ∧ ab_Run X 184 36 (13, 0, 0) L (ab_R (ab_rd σ a 31) :: st) σ Q := gF_13_195 ko_X13_knownOne kc_X13_knownOne dX13_knownOne_33
theorem rX13_knownOne_36 : ab_Run X 184 36 (13, 0, 0) [l0, ab_I z] st σ Q ↔ ab_Run X 184 37 (13, 0, 0) [l0, ab_I z] (ab_I z :: st) σ Q := ab_r_iload_n rfl kc_X13_knownOne dX13_knownOne_36
theorem rX13_knownOne_37 : ab_Run X 184 37 (13, 0, 0) L (ab_I i :: ab_R a :: st) σ Q ↔ (((ab_sh σ a).1 = 23 ∨ (ab_sh σ a).1 = 24) ∧ 0 ≤ i ∧ i < (ab_sh σ a).2) ∧ ab_Run X 184 38 (13, 0, 0) L (ab_I (ab_rd σ a i) :: st) σ Q := ab_r_baload kc_X13_knownOne dX13_knownOne_37
theorem rX13_knownOne_38 : ab_Run X 184 38 (13, 0, 0) L (ab_I a :: st) σ Q ↔ (a = 0 → ab_Run X 184 46 (13, 0, 0) L st σ Q) ∧ (¬ (a = 0) → ab_Run X 184 41 (13, 0, 0) L st σ Q) := ab_r_if_eq rfl kc_X13_knownOne dX13_knownOne_38
theorem rX13_knownOne_41 : ab_Run X 184 41 (13, 0, 0) [ab_R z, l1] st σ Q ↔ z ≠ 0 ∧ ab_Run X 184 42 (13, 0, 0) [ab_R z, l1] (ab_R z :: st) σ Q := ab_r_aload_n rfl kc_X13_knownOne dX13_knownOne_41
theorem rX13_knownOne_42 : ab_Run X 184 42 (13, 0, 0) L st σ Q ↔ ab_Run X 184 43 (13, 0, 0) L (ab_I 2 :: st) σ Q := ab_r_iconst (by decide) kc_X13_knownOne dX13_knownOne_42
theorem rX13_knownOne_43 : ab_Run X 184 43 (13, 0, 0) L (ab_I x1 :: ab_R a :: st) σ Q ↔ ((ab_sh σ a).1 = 14 ∧ ab_cats st ≤ 8) ∧ ab_Do X 172 [ab_R a, ab_I x1] σ (fun r σ' => ab_Run X 184 46 (13, 0, 0) L (ab_psh r st) σ' Q) := ab_r_callV (w := [ab_I x1]) (as := [ab_I x1]) (b1 := (0, 0, 0)) 0 (Or.inl rfl) (by decide) ko_X13_knownOne qM_13_134 (by decide) rfl rfl rfl rfl rfl (by decide) (Nat.le_of_ble_eq_true rfl) kc_X13_knownOne dX13_knownOne_43
theorem rX13_knownOne_46 : ab_Run X 184 46 (13, 0, 0) [ab_R z, l1] st σ Q ↔ z ≠ 0 ∧ ab_Run X 184 47 (13, 0, 0) [ab_R z, l1] (ab_R z :: st) σ Q := ab_r_aload_n rfl kc_X13_knownOne dX13_knownOne_46
theorem rX13_knownOne_47 : ab_Run X 184 47 (13, 0, 0) L (ab_R a :: st) σ Q ↔ (ab_sh σ a).1 = 14 ∧ ab_Run X 184 50 (13, 0, 0) L (ab_I (ab_rd σ a 9) :: st) σ Q := gF_13_85 ko_X13_knownOne kc_X13_knownOne dX13_knownOne_47
theorem rX13_knownOne_50 : ab_Run X 184 50 (13, 0, 0) L st σ Q ↔ ab_Run X 184 51 (13, 0, 0) L (ab_I 5 :: st) σ Q := ab_r_iconst (by decide) kc_X13_knownOne dX13_knownOne_50
theorem rX13_knownOne_51 : ab_Run X 184 51 (13, 0, 0) L (ab_I b :: ab_I a :: st) σ Q ↔ (¬ a = b → ab_Run X 184 58 (13, 0, 0) L st σ Q) ∧ (¬ (¬ a = b) → ab_Run X 184 54 (13, 0, 0) L st σ Q) := ab_r_icmp_ne rfl kc_X13_knownOne dX13_knownOne_51
theorem rX13_knownOne_54 : ab_Run X 184 54 (13, 0, 0) L st σ Q ↔ ab_Run X 184 55 (13, 0, 0) L (ab_I 0 :: st) σ Q := ab_r_iconst (by decide) kc_X13_knownOne dX13_knownOne_54
theorem rX13_knownOne_55 : ab_Run X 184 55 (13, 0, 0) L st σ Q ↔ ab_Run X 184 67 (13, 0, 0) L st σ Q := ab_r_goto rfl kc_X13_knownOne dX13_knownOne_55
theorem rX13_knownOne_58 : ab_Run X 184 58 (13, 0, 0) [ab_R z, l1] st σ Q ↔ z ≠ 0 ∧ ab_Run X 184 59 (13, 0, 0) [ab_R z, l1] (ab_R z :: st) σ Q := ab_r_aload_n rfl kc_X13_knownOne dX13_knownOne_58
theorem rX13_knownOne_59 : ab_Run X 184 59 (13, 0, 0) L (ab_R a :: st) σ Q ↔ (ab_sh σ a).1 = 14 ∧ ab_Run X 184 62 (13, 0, 0) L (ab_R (ab_rd σ a 4) :: st) σ Q := gF_13_171 ko_X13_knownOne kc_X13_knownOne dX13_knownOne_59
theorem rX13_knownOne_62 : ab_Run X 184 62 (13, 0, 0) L (ab_R a :: st) σ Q ↔ (ab_sh σ a).1 = 13 ∧ ab_Run X 184 65 (13, 0, 0) L (ab_R (ab_rd σ a 32) :: st) σ Q := gF_13_198 ko_X13_knownOne kc_X13_knownOne dX13_knownOne_62
theorem rX13_knownOne_65 : ab_Run X 184 65 (13, 0, 0) [l0, ab_I z] st σ Q ↔ ab_Run X 184 66 (13, 0, 0) [l0, ab_I z] (ab_I z :: st) σ Q := ab_r_iload_n rfl kc_X13_knownOne dX13_knownOne_65
theorem rX13_knownOne_66 : ab_Run X 184 66 (13, 0, 0) L (ab_I i :: ab_R a :: st) σ Q ↔ ((ab_sh σ a).1 = 21 ∧ 0 ≤ i ∧ i < (ab_sh σ a).2) ∧ ab_Run X 184 67 (13, 0, 0) L (ab_I (ab_rd σ a i) :: st) σ Q := ab_r_iaload (by decide) kc_X13_knownOne dX13_knownOne_66
theorem rX13_knownOne_67 : ab_Run X 184 67 (13, 0, 0) L [ab_I v] σ Q ↔ Q (some (ab_I v)) σ := ab_r_ireturnI rfl kc_X13_knownOne dX13_knownOne_67
theorem kc_X13_readPerson : ab_code 185 = cX13_readPerson := rfl
theorem ko_X13_readPerson : ab_ow 185 = 13 := rfl
theorem rX13_readPerson_0 : ab_Run X 185 0 (14, 0, 0) [ab_R z, l1] st σ Q ↔ z ≠ 0 ∧ ab_Run X 185 1 (14, 0, 0) [ab_R z, l1] (ab_R z :: st) σ Q := ab_r_aload_n rfl kc_X13_readPerson dX13_readPerson_0
theorem rX13_readPerson_1 : ab_Run X 185 1 (14, 0, 0) L (ab_R a :: st) σ Q ↔ ((ab_sh σ a).1 = 14 ∧ ab_cats st ≤ 8) ∧ ab_Do X 184 [ab_R a] σ (fun r σ' => ab_Run X 185 4 (14, 0, 0) L (ab_psh r st) σ' Q) := ab_r_callV (w := []) (as := []) (b1 := (13, 0, 0)) 0 (Or.inl rfl) (by decide) ko_X13_readPerson qM_13_201 (by decide) rfl rfl rfl rfl rfl (by decide) (Nat.le_of_ble_eq_true rfl) kc_X13_readPerson dX13_readPerson_1
theorem rX13_readPerson_4 : ab_Run X 185 4 (14, 0, 0) [l0, l1] (ab_I z :: st) σ Q ↔ (!ab_isJ l0) = true ∧ ab_Run X 185 5 (14, 0, 0) [l0, ab_I z] st σ Q := ab_r_istore_n (Nat.le_of_ble_eq_true rfl) kc_X13_readPerson dX13_readPerson_4
theorem rX13_readPerson_5 : ab_Run X 185 5 (14, 0, 0) [ab_R z, l1] st σ Q ↔ z ≠ 0 ∧ ab_Run X 185 6 (14, 0, 0) [ab_R z, l1] (ab_R z :: st) σ Q := ab_r_aload_n rfl kc_X13_readPerson dX13_readPerson_5
theorem rX13_readPerson_6 : ab_Run X 185 6 (14, 0, 0) L (ab_R a :: st) σ Q ↔ ((ab_sh σ a).1 = 14 ∧ ab_cats st ≤ 8) ∧ ab_Do X 171 [ab_R a] σ (fun r σ' => ab_Run X 185 9 (14, 0, 0) L (ab_psh r st) σ' Q) := ab_r_callV (w := []) (as := []) (b1 := (1, 0, 0)) 0 (Or.inl rfl) (by decide) ko_X13_readPerson qM_13_127 (by decide) rfl rfl rfl rfl rfl (by decide) (Nat.le_of_ble_eq_true rfl) kc_X13_readPerson dX13_readPerson_6
theorem rX13_readPerson_9 : ab_Run X 185 9 (14, 0, 0) [l0, ab_I z] st σ Q ↔ ab_Run X 185 10 (14, 0, 0) [l0, ab_I z] (ab_I z :: st) σ Q := ab_r_iload_n rfl kc_X13_readPerson dX13_readPerson_9
theorem rX13_readPerson_10 : ab_Run X 185 10 (14, 0, 0) L [ab_I v] σ Q ↔ Q (some (ab_I v)) σ := ab_r_ireturnI rfl kc_X13_readPerson dX13_readPerson_10
theorem kc_X13_readSide : ab_code 186 = cX13_readSide := rfl
theorem ko_X13_readSide : ab_ow 186 = 13 := rfl
theorem rX13_readSide_0 : ab_Run X 186 0 (12, 0, 0) [ab_R z, l1] st σ Q ↔ z ≠ 0 ∧ ab_Run X 186 1 (12, 0, 0) [ab_R z, l1] (ab_R z :: st) σ Q := ab_r_aload_n rfl kc_X13_readSide dX13_readSide_0
theorem rX13_readSide_1 : ab_Run X 186 1 (12, 0, 0) L st σ Q ↔ ab_Run X 186 3 (12, 0, 0) L (ab_R (-15) :: st) σ Q := ab_r_ldcS (n := 13) rfl ko_X13_readSide (by decide +kernel) (by decide +kernel) rfl kc_X13_readSide dX13_readSide_1
theorem rX13_readSide_3 : ab_Run X 186 3 (12, 0, 0) L (ab_R x1 :: ab_R a :: st) σ Q ↔ ((ab_sh σ a).1 = 14 ∧ ab_cats st ≤ 8) ∧ ab_Do X 173 [ab_R a, ab_R x1] σ (fun r σ' => ab_Run X 186 6 (12, 0, 0) L (ab_psh r st) σ' Q) := ab_r_callV (w := [ab_R x1]) (as := [ab_R x1]) (b1 := (11, 0, 0)) 0 (Or.inl rfl) (by decide) ko_X13_readSide qM_13_130 (by decide) rfl rfl rfl rfl rfl (by decide) (Nat.le_of_ble_eq_true rfl) kc_X13_readSide dX13_readSide_3
theorem rX13_readSide_6 : ab_Run X 186 6 (12, 0, 0) L (ab_I a :: st) σ Q ↔ (a = 0 → ab_Run X 186 13 (12, 0, 0) L st σ Q) ∧ (¬ (a = 0) → ab_Run X 186 9 (12, 0, 0) L st σ Q) := ab_r_if_eq rfl kc_X13_readSide dX13_readSide_6
theorem rX13_readSide_9 : ab_Run X 186 9 (12, 0, 0) L st σ Q ↔ ab_Run X 186 10 (12, 0, 0) L (ab_I 1 :: st) σ Q := ab_r_iconst (by decide) kc_X13_readSide dX13_readSide_9
theorem rX13_readSide_10 : ab_Run X 186 10 (12, 0, 0) L st σ Q ↔ ab_Run X 186 14 (12, 0, 0) L st σ Q := ab_r_goto rfl kc_X13_readSide dX13_readSide_10
theorem rX13_readSide_13 : ab_Run X 186 13 (12, 0, 0) L st σ Q ↔ ab_Run X 186 14 (12, 0, 0) L (ab_I 0 :: st) σ Q := ab_r_iconst (by decide) kc_X13_readSide dX13_readSide_13
theorem rX13_readSide_14 : ab_Run X 186 14 (12, 0, 0) [l0, l1] (ab_I z :: st) σ Q ↔ (!ab_isJ l0) = true ∧ ab_Run X 186 15 (12, 0, 0) [l0, ab_I z] st σ Q := ab_r_istore_n (Nat.le_of_ble_eq_true rfl) kc_X13_readSide dX13_readSide_14
theorem rX13_readSide_15 : ab_Run X 186 15 (12, 0, 0) [l0, ab_I z] st σ Q ↔ ab_Run X 186 16 (12, 0, 0) [l0, ab_I z] (ab_I z :: st) σ Q := ab_r_iload_n rfl kc_X13_readSide dX13_readSide_15
theorem rX13_readSide_16 : ab_Run X 186 16 (12, 0, 0) L (ab_I a :: st) σ Q ↔ (¬ a = 0 → ab_Run X 186 33 (12, 0, 0) L st σ Q) ∧ (¬ (¬ a = 0) → ab_Run X 186 19 (12, 0, 0) L st σ Q) := ab_r_if_ne rfl kc_X13_readSide dX13_readSide_16
theorem rX13_readSide_19 : ab_Run X 186 19 (12, 0, 0) [ab_R z, l1] st σ Q ↔ z ≠ 0 ∧ ab_Run X 186 20 (12, 0, 0) [ab_R z, l1] (ab_R z :: st) σ Q := ab_r_aload_n rfl kc_X13_readSide dX13_readSide_19
theorem rX13_readSide_20 : ab_Run X 186 20 (12, 0, 0) L st σ Q ↔ ab_Run X 186 22 (12, 0, 0) L (ab_R (-14) :: st) σ Q := ab_r_ldcS (n := 12) rfl ko_X13_readSide (by decide +kernel) (by decide +kernel) rfl kc_X13_readSide dX13_readSide_20
theorem rX13_readSide_22 : ab_Run X 186 22 (12, 0, 0) L (ab_R x1 :: ab_R a :: st) σ Q ↔ ((ab_sh σ a).1 = 14 ∧ ab_cats st ≤ 8) ∧ ab_Do X 173 [ab_R a, ab_R x1] σ (fun r σ' => ab_Run X 186 25 (12, 0, 0) L (ab_psh r st) σ' Q) := ab_r_callV (w := [ab_R x1]) (as := [ab_R x1]) (b1 := (11, 0, 0)) 0 (Or.inl rfl) (by decide) ko_X13_readSide qM_13_130 (by decide) rfl rfl rfl rfl rfl (by decide) (Nat.le_of_ble_eq_true rfl) kc_X13_readSide dX13_readSide_22
theorem rX13_readSide_25 : ab_Run X 186 25 (12, 0, 0) L (ab_I a :: st) σ Q ↔ (¬ a = 0 → ab_Run X 186 33 (12, 0, 0) L st σ Q) ∧ (¬ (¬ a = 0) → ab_Run X 186 28 (12, 0, 0) L st σ Q) := ab_r_if_ne rfl kc_X13_readSide dX13_readSide_25
theorem rX13_readSide_28 : ab_Run X 186 28 (12, 0, 0) [ab_R z, l1] st σ Q ↔ z ≠ 0 ∧ ab_Run X 186 29 (12, 0, 0) [ab_R z, l1] (ab_R z :: st) σ Q := ab_r_aload_n rfl kc_X13_readSide dX13_readSide_28
theorem rX13_readSide_29 : ab_Run X 186 29 (12, 0, 0) L st σ Q ↔ ab_Run X 186 30 (12, 0, 0) L (ab_I 1 :: st) σ Q := ab_r_iconst (by decide) kc_X13_readSide dX13_readSide_29
theorem rX13_readSide_30 : ab_Run X 186 30 (12, 0, 0) L (ab_I x1 :: ab_R a :: st) σ Q ↔ ((ab_sh σ a).1 = 14 ∧ ab_cats st ≤ 8) ∧ ab_Do X 172 [ab_R a, ab_I x1] σ (fun r σ' => ab_Run X 186 33 (12, 0, 0) L (ab_psh r st) σ' Q) := ab_r_callV (w := [ab_I x1]) (as := [ab_I x1]) (b1 := (0, 0, 0)) 0 (Or.inl rfl) (by decide) ko_X13_readSide qM_13_134 (by decide) rfl rfl rfl rfl rfl (by decide) (Nat.le_of_ble_eq_true rfl) kc_X13_readSide dX13_readSide_30
theorem rX13_readSide_33 : ab_Run X 186 33 (12, 0, 0) [ab_R z, l1] st σ Q ↔ z ≠ 0 ∧ ab_Run X 186 34 (12, 0, 0) [ab_R z, l1] (ab_R z :: st) σ Q := ab_r_aload_n rfl kc_X13_readSide dX13_readSide_33
theorem rX13_readSide_34 : ab_Run X 186 34 (12, 0, 0) L (ab_R a :: st) σ Q ↔ ((ab_sh σ a).1 = 14 ∧ ab_cats st ≤ 8) ∧ ab_Do X 171 [ab_R a] σ (fun r σ' => ab_Run X 186 37 (12, 0, 0) L (ab_psh r st) σ' Q) := ab_r_callV (w := []) (as := []) (b1 := (1, 0, 0)) 0 (Or.inl rfl) (by decide) ko_X13_readSide qM_13_127 (by decide) rfl rfl rfl rfl rfl (by decide) (Nat.le_of_ble_eq_true rfl) kc_X13_readSide dX13_readSide_34
theorem rX13_readSide_37 : ab_Run X 186 37 (12, 0, 0) [l0, ab_I z] st σ Q ↔ ab_Run X 186 38 (12, 0, 0) [l0, ab_I z] (ab_I z :: st) σ Q := ab_r_iload_n rfl kc_X13_readSide dX13_readSide_37
theorem rX13_readSide_38 : ab_Run X 186 38 (12, 0, 0) L [ab_I v] σ Q ↔ Q (some (ab_I v)) σ := ab_r_ireturnI rfl kc_X13_readSide dX13_readSide_38
theorem kc_X13_readAll : ab_code 187 = cX13_readAll := rfl
theorem ko_X13_readAll : ab_ow 187 = 13 := rfl
theorem rX13_readAll_0 : ab_Run X 187 0 (17, 0, 0) L st σ Q ↔ ab_Run X 187 1 (17, 0, 0) L (ab_I 1 :: st) σ Q := ab_r_iconst (by decide) kc_X13_readAll dX13_readAll_0
theorem rX13_readAll_1 : ab_Run X 187 1 (17, 0, 0) [l0, l1] (ab_I z :: st) σ Q ↔ (!ab_isJ l0) = true ∧ ab_Run X 187 2 (17, 0, 0) [l0, ab_I z] st σ Q := ab_r_istore_n (Nat.le_of_ble_eq_true rfl) kc_X13_readAll dX13_readAll_1
theorem rX13_readAll_2 : ab_Run X 187 2 (17, 0, 0) [l0, ab_I z] st σ Q ↔ ab_Run X 187 3 (17, 0, 0) [l0, ab_I z] (ab_I z :: st) σ Q := ab_r_iload_n rfl kc_X13_readAll dX13_readAll_2
theorem rX13_readAll_3 : ab_Run X 187 3 (17, 0, 0) L (ab_I a :: st) σ Q ↔ (a = 0 → ab_Run X 187 20 (17, 0, 0) L st σ Q) ∧ (¬ (a = 0) → ab_Run X 187 6 (17, 0, 0) L st σ Q) := ab_r_if_eq rfl kc_X13_readAll dX13_readAll_3
theorem rX13_readAll_6 : ab_Run X 187 6 (17, 0, 0) [ab_R z, l1] st σ Q ↔ z ≠ 0 ∧ ab_Run X 187 7 (17, 0, 0) [ab_R z, l1] (ab_R z :: st) σ Q := ab_r_aload_n rfl kc_X13_readAll dX13_readAll_6
theorem rX13_readAll_7 : ab_Run X 187 7 (17, 0, 0) L (ab_R a :: st) σ Q ↔ ((ab_sh σ a).1 = 14 ∧ ab_cats st ≤ 8) ∧ ab_Do X 188 [ab_R a] σ (fun r σ' => ab_Run X 187 10 (17, 0, 0) L (ab_psh r st) σ' Q) := ab_r_callV (w := []) (as := []) (b1 := (16, 0, 0)) 0 (Or.inl rfl) (by decide) ko_X13_readAll qM_13_204 (by decide) rfl rfl rfl rfl rfl (by decide) (Nat.le_of_ble_eq_true rfl) kc_X13_readAll dX13_readAll_7
theorem rX13_readAll_10 : ab_Run X 187 10 (17, 0, 0) [ab_R z, l1] st σ Q ↔ z ≠ 0 ∧ ab_Run X 187 11 (17, 0, 0) [ab_R z, l1] (ab_R z :: st) σ Q := ab_r_aload_n rfl kc_X13_readAll dX13_readAll_10
theorem rX13_readAll_11 : ab_Run X 187 11 (17, 0, 0) L st σ Q ↔ ab_Run X 187 13 (17, 0, 0) L (ab_I 59 :: st) σ Q := ab_r_bipush (by decide) kc_X13_readAll dX13_readAll_11
theorem rX13_readAll_13 : ab_Run X 187 13 (17, 0, 0) L (ab_I x1 :: ab_R a :: st) σ Q ↔ ((ab_sh σ a).1 = 14 ∧ ab_cats st ≤ 8) ∧ ab_Do X 175 [ab_R a, ab_I x1] σ (fun r σ' => ab_Run X 187 16 (17, 0, 0) L (ab_psh r st) σ' Q) := ab_r_callV (w := [ab_I x1]) (as := [ab_I x1]) (b1 := (2, 0, 0)) 0 (Or.inl rfl) (by decide) ko_X13_readAll qM_13_207 (by decide) rfl rfl rfl rfl rfl (by decide) (Nat.le_of_ble_eq_true rfl) kc_X13_readAll dX13_readAll_13
theorem rX13_readAll_16 : ab_Run X 187 16 (17, 0, 0) [l0, l1] (ab_I z :: st) σ Q ↔ (!ab_isJ l0) = true ∧ ab_Run X 187 17 (17, 0, 0) [l0, ab_I z] st σ Q := ab_r_istore_n (Nat.le_of_ble_eq_true rfl) kc_X13_readAll dX13_readAll_16
theorem rX13_readAll_17 : ab_Run X 187 17 (17, 0, 0) L st σ Q ↔ ab_Run X 187 2 (17, 0, 0) L st σ Q := ab_r_goto rfl kc_X13_readAll dX13_readAll_17
theorem rX13_readAll_20 : ab_Run X 187 20 (17, 0, 0) [ab_R z, l1] st σ Q ↔ z ≠ 0 ∧ ab_Run X 187 21 (17, 0, 0) [ab_R z, l1] (ab_R z :: st) σ Q := ab_r_aload_n rfl kc_X13_readAll dX13_readAll_20
theorem rX13_readAll_21 : ab_Run X 187 21 (17, 0, 0) L (ab_R a :: st) σ Q ↔ (ab_sh σ a).1 = 14 ∧ ab_Run X 187 24 (17, 0, 0) L (ab_I (ab_rd σ a 9) :: st) σ Q := gF_13_85 ko_X13_readAll kc_X13_readAll dX13_readAll_21
theorem rX13_readAll_24 : ab_Run X 187 24 (17, 0, 0) L st σ Q ↔ ab_Run X 187 25 (17, 0, 0) L (ab_I 1 :: st) σ Q := ab_r_iconst (by decide) kc_X13_readAll dX13_readAll_24
theorem rX13_readAll_25 : ab_Run X 187 25 (17, 0, 0) L (ab_I b :: ab_I a :: st) σ Q ↔ (a = b → ab_Run X 187 33 (17, 0, 0) L st σ Q) ∧ (¬ (a = b) → ab_Run X 187 28 (17, 0, 0) L st σ Q) := ab_r_icmp_eq rfl kc_X13_readAll dX13_readAll_25
theorem rX13_readAll_28 : ab_Run X 187 28 (17, 0, 0) [ab_R z, l1] st σ Q ↔ z ≠ 0 ∧ ab_Run X 187 29 (17, 0, 0) [ab_R z, l1] (ab_R z :: st) σ Q := ab_r_aload_n rfl kc_X13_readAll dX13_readAll_28
theorem rX13_readAll_29 : ab_Run X 187 29 (17, 0, 0) L st σ Q ↔ ab_Run X 187 30 (17, 0, 0) L (ab_I 1 :: st) σ Q := ab_r_iconst (by decide) kc_X13_readAll dX13_readAll_29
theorem rX13_readAll_30 : ab_Run X 187 30 (17, 0, 0) L (ab_I x1 :: ab_R a :: st) σ Q ↔ ((ab_sh σ a).1 = 14 ∧ ab_cats st ≤ 8) ∧ ab_Do X 172 [ab_R a, ab_I x1] σ (fun r σ' => ab_Run X 187 33 (17, 0, 0) L (ab_psh r st) σ' Q) := ab_r_callV (w := [ab_I x1]) (as := [ab_I x1]) (b1 := (0, 0, 0)) 0 (Or.inl rfl) (by decide) ko_X13_readAll qM_13_134 (by decide) rfl rfl rfl rfl rfl (by decide) (Nat.le_of_ble_eq_true rfl) kc_X13_readAll dX13_readAll_30
theorem rX13_readAll_33 : ab_Run X 187 33 (17, 0, 0) [ab_R z, l1] st σ Q ↔ z ≠ 0 ∧ ab_Run X 187 34 (17, 0, 0) [ab_R z, l1] (ab_R z :: st) σ Q := ab_r_aload_n rfl kc_X13_readAll dX13_readAll_33
theorem rX13_readAll_34 : ab_Run X 187 34 (17, 0, 0) L (ab_R a :: st) σ Q ↔ (ab_sh σ a).1 = 14 ∧ ab_Run X 187 37 (17, 0, 0) L (ab_R (ab_rd σ a 4) :: st) σ Q := gF_13_171 ko_X13_readAll kc_X13_readAll dX13_readAll_34
theorem rX13_readAll_37 : ab_Run X 187 37 (17, 0, 0) L (ab_R a :: st) σ Q ↔ (ab_sh σ a).1 = 13 ∧ ab_Run X 187 40 (17, 0, 0) L (ab_I (ab_rd σ a 5) :: st) σ Q := gF_13_210 ko_X13_readAll kc_X13_readAll dX13_readAll_37
theorem rX13_readAll_40 : ab_Run X 187 40 (17, 0, 0) L (ab_I a :: st) σ Q ↔ (a = 0 → ab_Run X 187 54 (17, 0, 0) L st σ Q) ∧ (¬ (a = 0) → ab_Run X 187 43 (17, 0, 0) L st σ Q) := ab_r_if_eq rfl kc_X13_readAll dX13_readAll_40
theorem rX13_readAll_43 : ab_Run X 187 43 (17, 0, 0) [ab_R z, l1] st σ Q ↔ z ≠ 0 ∧ ab_Run X 187 44 (17, 0, 0) [ab_R z, l1] (ab_R z :: st) σ Q := ab_r_aload_n rfl kc_X13_readAll dX13_readAll_43
theorem rX13_readAll_44 : ab_Run X 187 44 (17, 0, 0) L (ab_R a :: st) σ Q ↔ (ab_sh σ a).1 = 14 ∧ ab_Run X 187 47 (17, 0, 0) L (ab_R (ab_rd σ a 4) :: st) σ Q := gF_13_171 ko_X13_readAll kc_X13_readAll dX13_readAll_44
theorem rX13_readAll_47 : ab_Run X 187 47 (17, 0, 0) L (ab_R a :: st) σ Q ↔ (ab_sh σ a).1 = 13 ∧ ab_Run X 187 50 (17, 0, 0) L (ab_I (ab_rd σ a 6) :: st) σ Q := gF_13_213 ko_X13_readAll kc_X13_readAll dX13_readAll_47
theorem rX13_readAll_50 : ab_Run X 187 50 (17, 0, 0) L st σ Q ↔ ab_Run X 187 51 (17, 0, 0) L (ab_I 2 :: st) σ Q := ab_r_iconst (by decide) kc_X13_readAll dX13_readAll_50
theorem rX13_readAll_51 : ab_Run X 187 51 (17, 0, 0) L (ab_I b :: ab_I a :: st) σ Q ↔ (b ≤ a → ab_Run X 187 60 (17, 0, 0) L st σ Q) ∧ (¬ (b ≤ a) → ab_Run X 187 54 (17, 0, 0) L st σ Q) := ab_r_icmp_ge rfl kc_X13_readAll dX13_readAll_51
theorem rX13_readAll_54 : ab_Run X 187 54 (17, 0, 0) [ab_R z, l1] st σ Q ↔ z ≠ 0 ∧ ab_Run X 187 55 (17, 0, 0) [ab_R z, l1] (ab_R z :: st) σ Q := ab_r_aload_n rfl kc_X13_readAll dX13_readAll_54
theorem rX13_readAll_55 : ab_Run X 187 55 (17, 0, 0) L st σ Q ↔ ab_Run X 187 57 (17, 0, 0) L (ab_I 6 :: st) σ Q := ab_r_bipush (by decide) kc_X13_readAll dX13_readAll_55
theorem rX13_readAll_57 : ab_Run X 187 57 (17, 0, 0) L (ab_I x1 :: ab_R a :: st) σ Q ↔ ((ab_sh σ a).1 = 14 ∧ ab_cats st ≤ 8) ∧ ab_Do X 172 [ab_R a, ab_I x1] σ (fun r σ' => ab_Run X 187 60 (17, 0, 0) L (ab_psh r st) σ' Q) := ab_r_callV (w := [ab_I x1]) (as := [ab_I x1]) (b1 := (0, 0, 0)) 0 (Or.inl rfl) (by decide) ko_X13_readAll qM_13_134 (by decide) rfl rfl rfl rfl rfl (by decide) (Nat.le_of_ble_eq_true rfl) kc_X13_readAll dX13_readAll_57
theorem rX13_readAll_60 : ab_Run X 187 60 (17, 0, 0) L [] σ Q ↔ Q none σ := ab_r_return rfl kc_X13_readAll dX13_readAll_60
theorem kc_X13_readLine : ab_code 188 = cX13_readLine := rfl
theorem ko_X13_readLine : ab_ow 188 = 13 := rfl
theorem rX13_readLine_0 : ab_Run X 188 0 (16, 0, 0) [ab_R z] st σ Q ↔ z ≠ 0 ∧ ab_Run X 188 1 (16, 0, 0) [ab_R z] (ab_R z :: st) σ Q := ab_r_aload_n rfl kc_X13_readLine dX13_readLine_0
theorem rX13_readLine_1 : ab_Run X 188 1 (16, 0, 0) L st σ Q ↔ ab_Run X 188 3 (16, 0, 0) L (ab_R (-2) :: st) σ Q := ab_r_ldcS (n := 0) rfl ko_X13_readLine (by decide +kernel) (by decide +kernel) rfl kc_X13_readLine dX13_readLine_1
theorem rX13_readLine_3 : ab_Run X 188 3 (16, 0, 0) L (ab_R x1 :: ab_R a :: st) σ Q ↔ ((ab_sh σ a).1 = 14 ∧ ab_cats st ≤ 8) ∧ ab_Do X 173 [ab_R a, ab_R x1] σ (fun r σ' => ab_Run X 188 6 (16, 0, 0) L (ab_psh r st) σ' Q) := ab_r_callV (w := [ab_R x1]) (as := [ab_R x1]) (b1 := (11, 0, 0)) 0 (Or.inl rfl) (by decide) ko_X13_readLine qM_13_130 (by decide) rfl rfl rfl rfl rfl (by decide) (Nat.le_of_ble_eq_true rfl) kc_X13_readLine dX13_readLine_3
theorem rX13_readLine_6 : ab_Run X 188 6 (16, 0, 0) L (ab_I a :: st) σ Q ↔ (a = 0 → ab_Run X 188 16 (16, 0, 0) L st σ Q) ∧ (¬ (a = 0) → ab_Run X 188 9 (16, 0, 0) L st σ Q) := ab_r_if_eq rfl kc_X13_readLine dX13_readLine_6
theorem rX13_readLine_9 : ab_Run X 188 9 (16, 0, 0) [ab_R z] st σ Q ↔ z ≠ 0 ∧ ab_Run X 188 10 (16, 0, 0) [ab_R z] (ab_R z :: st) σ Q := ab_r_aload_n rfl kc_X13_readLine dX13_readLine_9
theorem rX13_readLine_10 : ab_Run X 188 10 (16, 0, 0) L (ab_R a :: st) σ Q ↔ ((ab_sh σ a).1 = 14 ∧ ab_cats st ≤ 8) ∧ ab_Do X 189 [ab_R a] σ (fun r σ' => ab_Run X 188 13 (16, 0, 0) L (ab_psh r st) σ' Q) := ab_r_callV (w := []) (as := []) (b1 := (14, 0, 0)) 0 (Or.inl rfl) (by decide) ko_X13_readLine qM_13_216 (by decide) rfl rfl rfl rfl rfl (by decide) (Nat.le_of_ble_eq_true rfl) kc_X13_readLine dX13_readLine_10
theorem rX13_readLine_13 : ab_Run X 188 13 (16, 0, 0) L st σ Q ↔ ab_Run X 188 117 (16, 0, 0) L st σ Q := ab_r_goto rfl kc_X13_readLine dX13_readLine_13
theorem rX13_readLine_16 : ab_Run X 188 16 (16, 0, 0) [ab_R z] st σ Q ↔ z ≠ 0 ∧ ab_Run X 188 17 (16, 0, 0) [ab_R z] (ab_R z :: st) σ Q := ab_r_aload_n rfl kc_X13_readLine dX13_readLine_16
theorem rX13_readLine_17 : ab_Run X 188 17 (16, 0, 0) L st σ Q ↔ ab_Run X 188 19 (16, 0, 0) L (ab_R (-8) :: st) σ Q := ab_r_ldcS (n := 6) rfl ko_X13_readLine (by decide +kernel) (by decide +kernel) rfl kc_X13_readLine dX13_readLine_17
theorem rX13_readLine_19 : ab_Run X 188 19 (16, 0, 0) L (ab_R x1 :: ab_R a :: st) σ Q ↔ ((ab_sh σ a).1 = 14 ∧ ab_cats st ≤ 8) ∧ ab_Do X 173 [ab_R a, ab_R x1] σ (fun r σ' => ab_Run X 188 22 (16, 0, 0) L (ab_psh r st) σ' Q) := ab_r_callV (w := [ab_R x1]) (as := [ab_R x1]) (b1 := (11, 0, 0)) 0 (Or.inl rfl) (by decide) ko_X13_readLine qM_13_130 (by decide) rfl rfl rfl rfl rfl (by decide) (Nat.le_of_ble_eq_true rfl) kc_X13_readLine dX13_readLine_19
theorem rX13_readLine_22 : ab_Run X 188 22 (16, 0, 0) L (ab_I a :: st) σ Q ↔ (a = 0 → ab_Run X 188 32 (16, 0, 0) L st σ Q) ∧ (¬ (a = 0) → ab_Run X 188 25 (16, 0, 0) L st σ Q) := ab_r_if_eq rfl kc_X13_readLine dX13_readLine_22
theorem rX13_readLine_25 : ab_Run X 188 25 (16, 0, 0) [ab_R z] st σ Q ↔ z ≠ 0 ∧ ab_Run X 188 26 (16, 0, 0) [ab_R z] (ab_R z :: st) σ Q := ab_r_aload_n rfl kc_X13_readLine dX13_readLine_25
theorem rX13_readLine_26 : ab_Run X 188 26 (16, 0, 0) L (ab_R a :: st) σ Q ↔ ((ab_sh σ a).1 = 14 ∧ ab_cats st ≤ 8) ∧ ab_Do X 191 [ab_R a] σ (fun r σ' => ab_Run X 188 29 (16, 0, 0) L (ab_psh r st) σ' Q) := ab_r_callV (w := []) (as := []) (b1 := (14, 0, 0)) 0 (Or.inl rfl) (by decide) ko_X13_readLine qM_13_219 (by decide) rfl rfl rfl rfl rfl (by decide) (Nat.le_of_ble_eq_true rfl) kc_X13_readLine dX13_readLine_26
theorem rX13_readLine_29 : ab_Run X 188 29 (16, 0, 0) L st σ Q ↔ ab_Run X 188 117 (16, 0, 0) L st σ Q := ab_r_goto rfl kc_X13_readLine dX13_readLine_29
theorem rX13_readLine_32 : ab_Run X 188 32 (16, 0, 0) [ab_R z] st σ Q ↔ z ≠ 0 ∧ ab_Run X 188 33 (16, 0, 0) [ab_R z] (ab_R z :: st) σ Q := ab_r_aload_n rfl kc_X13_readLine dX13_readLine_32
theorem rX13_readLine_33 : ab_Run X 188 33 (16, 0, 0) L st σ Q ↔ ab_Run X 188 35 (16, 0, 0) L (ab_R (-9) :: st) σ Q := ab_r_ldcS (n := 7) rfl ko_X13_readLine (by decide +kernel) (by decide +kernel) rfl kc_X13_readLine dX13_readLine_33
theorem rX13_readLine_35 : ab_Run X 188 35 (16, 0, 0) L (ab_R x1 :: ab_R a :: st) σ Q ↔ ((ab_sh σ a).1 = 14 ∧ ab_cats st ≤ 8) ∧ ab_Do X 173 [ab_R a, ab_R x1] σ (fun r σ' => ab_Run X 188 38 (16, 0, 0) L (ab_psh r st) σ' Q) := ab_r_callV (w := [ab_R x1]) (as := [ab_R x1]) (b1 := (11, 0, 0)) 0 (Or.inl rfl) (by decide) ko_X13_readLine qM_13_130 (by decide) rfl rfl rfl rfl rfl (by decide) (Nat.le_of_ble_eq_true rfl) kc_X13_readLine dX13_readLine_35
theorem rX13_readLine_38 : ab_Run X 188 38 (16, 0, 0) L (ab_I a :: st) σ Q ↔ (a = 0 → ab_Run X 188 48 (16, 0, 0) L st σ Q) ∧ (¬ (a = 0) → ab_Run X 188 41 (16, 0, 0) L st σ Q) := ab_r_if_eq rfl kc_X13_readLine dX13_readLine_38
theorem rX13_readLine_41 : ab_Run X 188 41 (16, 0, 0) [ab_R z] st σ Q ↔ z ≠ 0 ∧ ab_Run X 188 42 (16, 0, 0) [ab_R z] (ab_R z :: st) σ Q := ab_r_aload_n rfl kc_X13_readLine dX13_readLine_41
theorem rX13_readLine_42 : ab_Run X 188 42 (16, 0, 0) L (ab_R a :: st) σ Q ↔ ((ab_sh σ a).1 = 14 ∧ ab_cats st ≤ 8) ∧ ab_Do X 192 [ab_R a] σ (fun r σ' => ab_Run X 188 45 (16, 0, 0) L (ab_psh r st) σ' Q) := ab_r_callV (w := []) (as := []) (b1 := (14, 0, 0)) 0 (Or.inl rfl) (by decide) ko_X13_readLine qM_13_222 (by decide) rfl rfl rfl rfl rfl (by decide) (Nat.le_of_ble_eq_true rfl) kc_X13_readLine dX13_readLine_42
theorem rX13_readLine_45 : ab_Run X 188 45 (16, 0, 0) L st σ Q ↔ ab_Run X 188 117 (16, 0, 0) L st σ Q := ab_r_goto rfl kc_X13_readLine dX13_readLine_45
theorem rX13_readLine_48 : ab_Run X 188 48 (16, 0, 0) [ab_R z] st σ Q ↔ z ≠ 0 ∧ ab_Run X 188 49 (16, 0, 0) [ab_R z] (ab_R z :: st) σ Q := ab_r_aload_n rfl kc_X13_readLine dX13_readLine_48
theorem rX13_readLine_49 : ab_Run X 188 49 (16, 0, 0) L st σ Q ↔ ab_Run X 188 51 (16, 0, 0) L (ab_R (-10) :: st) σ Q := ab_r_ldcS (n := 8) rfl ko_X13_readLine (by decide +kernel) (by decide +kernel) rfl kc_X13_readLine dX13_readLine_49
theorem rX13_readLine_51 : ab_Run X 188 51 (16, 0, 0) L (ab_R x1 :: ab_R a :: st) σ Q ↔ ((ab_sh σ a).1 = 14 ∧ ab_cats st ≤ 8) ∧ ab_Do X 173 [ab_R a, ab_R x1] σ (fun r σ' => ab_Run X 188 54 (16, 0, 0) L (ab_psh r st) σ' Q) := ab_r_callV (w := [ab_R x1]) (as := [ab_R x1]) (b1 := (11, 0, 0)) 0 (Or.inl rfl) (by decide) ko_X13_readLine qM_13_130 (by decide) rfl rfl rfl rfl rfl (by decide) (Nat.le_of_ble_eq_true rfl) kc_X13_readLine dX13_readLine_51
theorem rX13_readLine_54 : ab_Run X 188 54 (16, 0, 0) L (ab_I a :: st) σ Q ↔ (a = 0 → ab_Run X 188 64 (16, 0, 0) L st σ Q) ∧ (¬ (a = 0) → ab_Run X 188 57 (16, 0, 0) L st σ Q) := ab_r_if_eq rfl kc_X13_readLine dX13_readLine_54
theorem rX13_readLine_57 : ab_Run X 188 57 (16, 0, 0) [ab_R z] st σ Q ↔ z ≠ 0 ∧ ab_Run X 188 58 (16, 0, 0) [ab_R z] (ab_R z :: st) σ Q := ab_r_aload_n rfl kc_X13_readLine dX13_readLine_57
theorem rX13_readLine_58 : ab_Run X 188 58 (16, 0, 0) L (ab_R a :: st) σ Q ↔ ((ab_sh σ a).1 = 14 ∧ ab_cats st ≤ 8) ∧ ab_Do X 193 [ab_R a] σ (fun r σ' => ab_Run X 188 61 (16, 0, 0) L (ab_psh r st) σ' Q) := ab_r_callV (w := []) (as := []) (b1 := (15, 0, 0)) 0 (Or.inl rfl) (by decide) ko_X13_readLine qM_13_225 (by decide) rfl rfl rfl rfl rfl (by decide) (Nat.le_of_ble_eq_true rfl) kc_X13_readLine dX13_readLine_58
theorem rX13_readLine_61 : ab_Run X 188 61 (16, 0, 0) L st σ Q ↔ ab_Run X 188 117 (16, 0, 0) L st σ Q := ab_r_goto rfl kc_X13_readLine dX13_readLine_61
theorem rX13_readLine_64 : ab_Run X 188 64 (16, 0, 0) [ab_R z] st σ Q ↔ z ≠ 0 ∧ ab_Run X 188 65 (16, 0, 0) [ab_R z] (ab_R z :: st) σ Q := ab_r_aload_n rfl kc_X13_readLine dX13_readLine_64
theorem rX13_readLine_65 : ab_Run X 188 65 (16, 0, 0) L st σ Q ↔ ab_Run X 188 67 (16, 0, 0) L (ab_R (-11) :: st) σ Q := ab_r_ldcS (n := 9) rfl ko_X13_readLine (by decide +kernel) (by decide +kernel) rfl kc_X13_readLine dX13_readLine_65
theorem rX13_readLine_67 : ab_Run X 188 67 (16, 0, 0) L (ab_R x1 :: ab_R a :: st) σ Q ↔ ((ab_sh σ a).1 = 14 ∧ ab_cats st ≤ 8) ∧ ab_Do X 173 [ab_R a, ab_R x1] σ (fun r σ' => ab_Run X 188 70 (16, 0, 0) L (ab_psh r st) σ' Q) := ab_r_callV (w := [ab_R x1]) (as := [ab_R x1]) (b1 := (11, 0, 0)) 0 (Or.inl rfl) (by decide) ko_X13_readLine qM_13_130 (by decide) rfl rfl rfl rfl rfl (by decide) (Nat.le_of_ble_eq_true rfl) kc_X13_readLine dX13_readLine_67
theorem rX13_readLine_70 : ab_Run X 188 70 (16, 0, 0) L (ab_I a :: st) σ Q ↔ (a = 0 → ab_Run X 188 80 (16, 0, 0) L st σ Q) ∧ (¬ (a = 0) → ab_Run X 188 73 (16, 0, 0) L st σ Q) := ab_r_if_eq rfl kc_X13_readLine dX13_readLine_70
theorem rX13_readLine_73 : ab_Run X 188 73 (16, 0, 0) [ab_R z] st σ Q ↔ z ≠ 0 ∧ ab_Run X 188 74 (16, 0, 0) [ab_R z] (ab_R z :: st) σ Q := ab_r_aload_n rfl kc_X13_readLine dX13_readLine_73
theorem rX13_readLine_74 : ab_Run X 188 74 (16, 0, 0) L (ab_R a :: st) σ Q ↔ ((ab_sh σ a).1 = 14 ∧ ab_cats st ≤ 8) ∧ ab_Do X 194 [ab_R a] σ (fun r σ' => ab_Run X 188 77 (16, 0, 0) L (ab_psh r st) σ' Q) := ab_r_callV (w := []) (as := []) (b1 := (15, 0, 0)) 0 (Or.inl rfl) (by decide) ko_X13_readLine qM_13_228 (by decide) rfl rfl rfl rfl rfl (by decide) (Nat.le_of_ble_eq_true rfl) kc_X13_readLine dX13_readLine_74
theorem rX13_readLine_77 : ab_Run X 188 77 (16, 0, 0) L st σ Q ↔ ab_Run X 188 117 (16, 0, 0) L st σ Q := ab_r_goto rfl kc_X13_readLine dX13_readLine_77
theorem rX13_readLine_80 : ab_Run X 188 80 (16, 0, 0) [ab_R z] st σ Q ↔ z ≠ 0 ∧ ab_Run X 188 81 (16, 0, 0) [ab_R z] (ab_R z :: st) σ Q := ab_r_aload_n rfl kc_X13_readLine dX13_readLine_80
theorem rX13_readLine_81 : ab_Run X 188 81 (16, 0, 0) L st σ Q ↔ ab_Run X 188 83 (16, 0, 0) L (ab_R (-12) :: st) σ Q := ab_r_ldcS (n := 10) rfl ko_X13_readLine (by decide +kernel) (by decide +kernel) rfl kc_X13_readLine dX13_readLine_81
theorem rX13_readLine_83 : ab_Run X 188 83 (16, 0, 0) L (ab_R x1 :: ab_R a :: st) σ Q ↔ ((ab_sh σ a).1 = 14 ∧ ab_cats st ≤ 8) ∧ ab_Do X 173 [ab_R a, ab_R x1] σ (fun r σ' => ab_Run X 188 86 (16, 0, 0) L (ab_psh r st) σ' Q) := ab_r_callV (w := [ab_R x1]) (as := [ab_R x1]) (b1 := (11, 0, 0)) 0 (Or.inl rfl) (by decide) ko_X13_readLine qM_13_130 (by decide) rfl rfl rfl rfl rfl (by decide) (Nat.le_of_ble_eq_true rfl) kc_X13_readLine dX13_readLine_83
theorem rX13_readLine_86 : ab_Run X 188 86 (16, 0, 0) L (ab_I a :: st) σ Q ↔ (a = 0 → ab_Run X 188 96 (16, 0, 0) L st σ Q) ∧ (¬ (a = 0) → ab_Run X 188 89 (16, 0, 0) L st σ Q) := ab_r_if_eq rfl kc_X13_readLine dX13_readLine_86
theorem rX13_readLine_89 : ab_Run X 188 89 (16, 0, 0) [ab_R z] st σ Q ↔ z ≠ 0 ∧ ab_Run X 188 90 (16, 0, 0) [ab_R z] (ab_R z :: st) σ Q := ab_r_aload_n rfl kc_X13_readLine dX13_readLine_89
theorem rX13_readLine_90 : ab_Run X 188 90 (16, 0, 0) L (ab_R a :: st) σ Q ↔ ((ab_sh σ a).1 = 14 ∧ ab_cats st ≤ 8) ∧ ab_Do X 195 [ab_R a] σ (fun r σ' => ab_Run X 188 93 (16, 0, 0) L (ab_psh r st) σ' Q) := ab_r_callV (w := []) (as := []) (b1 := (13, 0, 0)) 0 (Or.inl rfl) (by decide) ko_X13_readLine qM_13_231 (by decide) rfl rfl rfl rfl rfl (by decide) (Nat.le_of_ble_eq_true rfl) kc_X13_readLine dX13_readLine_90
theorem rX13_readLine_93 : ab_Run X 188 93 (16, 0, 0) L st σ Q ↔ ab_Run X 188 117 (16, 0, 0) L st σ Q := ab_r_goto rfl kc_X13_readLine dX13_readLine_93
theorem rX13_readLine_96 : ab_Run X 188 96 (16, 0, 0) [ab_R z] st σ Q ↔ z ≠ 0 ∧ ab_Run X 188 97 (16, 0, 0) [ab_R z] (ab_R z :: st) σ Q := ab_r_aload_n rfl kc_X13_readLine dX13_readLine_96
theorem rX13_readLine_97 : ab_Run X 188 97 (16, 0, 0) L st σ Q ↔ ab_Run X 188 99 (16, 0, 0) L (ab_R (-13) :: st) σ Q := ab_r_ldcS (n := 11) rfl ko_X13_readLine (by decide +kernel) (by decide +kernel) rfl kc_X13_readLine dX13_readLine_97
theorem rX13_readLine_99 : ab_Run X 188 99 (16, 0, 0) L (ab_R x1 :: ab_R a :: st) σ Q ↔ ((ab_sh σ a).1 = 14 ∧ ab_cats st ≤ 8) ∧ ab_Do X 173 [ab_R a, ab_R x1] σ (fun r σ' => ab_Run X 188 102 (16, 0, 0) L (ab_psh r st) σ' Q) := ab_r_callV (w := [ab_R x1]) (as := [ab_R x1]) (b1 := (11, 0, 0)) 0 (Or.inl rfl) (by decide) ko_X13_readLine qM_13_130 (by decide) rfl rfl rfl rfl rfl (by decide) (Nat.le_of_ble_eq_true rfl) kc_X13_readLine dX13_readLine_99
theorem rX13_readLine_102 : ab_Run X 188 102 (16, 0, 0) L (ab_I a :: st) σ Q ↔ (a = 0 → ab_Run X 188 112 (16, 0, 0) L st σ Q) ∧ (¬ (a = 0) → ab_Run X 188 105 (16, 0, 0) L st σ Q) := ab_r_if_eq rfl kc_X13_readLine dX13_readLine_102
theorem rX13_readLine_105 : ab_Run X 188 105 (16, 0, 0) [ab_R z] st σ Q ↔ z ≠ 0 ∧ ab_Run X 188 106 (16, 0, 0) [ab_R z] (ab_R z :: st) σ Q := ab_r_aload_n rfl kc_X13_readLine dX13_readLine_105
theorem rX13_readLine_106 : ab_Run X 188 106 (16, 0, 0) L (ab_R a :: st) σ Q ↔ ((ab_sh σ a).1 = 14 ∧ ab_cats st ≤ 8) ∧ ab_Do X 196 [ab_R a] σ (fun r σ' => ab_Run X 188 109 (16, 0, 0) L (ab_psh r st) σ' Q) := ab_r_callV (w := []) (as := []) (b1 := (14, 0, 0)) 0 (Or.inl rfl) (by decide) ko_X13_readLine qM_13_234 (by decide) rfl rfl rfl rfl rfl (by decide) (Nat.le_of_ble_eq_true rfl) kc_X13_readLine dX13_readLine_106
theorem rX13_readLine_109 : ab_Run X 188 109 (16, 0, 0) L st σ Q ↔ ab_Run X 188 117 (16, 0, 0) L st σ Q := ab_r_goto rfl kc_X13_readLine dX13_readLine_109
theorem rX13_readLine_112 : ab_Run X 188 112 (16, 0, 0) [ab_R z] st σ Q ↔ z ≠ 0 ∧ ab_Run X 188 113 (16, 0, 0) [ab_R z] (ab_R z :: st) σ Q := ab_r_aload_n rfl kc_X13_readLine dX13_readLine_112
theorem rX13_readLine_113 : ab_Run X 188 113 (16, 0, 0) L st σ Q ↔ ab_Run X 188 114 (16, 0, 0) L (ab_I 1 :: st) σ Q := ab_r_iconst (by decide) kc_X13_readLine dX13_readLine_113
theorem rX13_readLine_114 : ab_Run X 188 114 (16, 0, 0) L (ab_I x1 :: ab_R a :: st) σ Q ↔ ((ab_sh σ a).1 = 14 ∧ ab_cats st ≤ 8) ∧ ab_Do X 172 [ab_R a, ab_I x1] σ (fun r σ' => ab_Run X 188 117 (16, 0, 0) L (ab_psh r st) σ' Q) := ab_r_callV (w := [ab_I x1]) (as := [ab_I x1]) (b1 := (0, 0, 0)) 0 (Or.inl rfl) (by decide) ko_X13_readLine qM_13_134 (by decide) rfl rfl rfl rfl rfl (by decide) (Nat.le_of_ble_eq_true rfl) kc_X13_readLine dX13_readLine_114
theorem rX13_readLine_117 : ab_Run X 188 117 (16, 0, 0) L [] σ Q ↔ Q none σ := ab_r_return rfl kc_X13_readLine dX13_readLine_117
theorem kc_X13_readKitchen : ab_code 189 = cX13_readKitchen := rfl
theorem ko_X13_readKitchen : ab_ow 189 = 13 := rfl
theorem rX13_readKitchen_0 : ab_Run X 189 0 (14, 0, 0) [ab_R z, l1, l2, l3, l4, l5] st σ Q ↔ z ≠ 0 ∧ ab_Run X 189 1 (14, 0, 0) [ab_R z, l1, l2, l3, l4, l5] (ab_R z :: st) σ Q := ab_r_aload_n rfl kc_X13_readKitchen dX13_readKitchen_0
theorem rX13_readKitchen_1 : ab_Run X 189 1 (14, 0, 0) L (ab_R a :: st) σ Q ↔ (ab_sh σ a).1 = 14 ∧ ab_Run X 189 4 (14, 0, 0) L (ab_R (ab_rd σ a 4) :: st) σ Q := gF_13_171 ko_X13_readKitchen kc_X13_readKitchen dX13_readKitchen_1
theorem rX13_readKitchen_4 : ab_Run X 189 4 (14, 0, 0) L (ab_R a :: st) σ Q ↔ (ab_sh σ a).1 = 13 ∧ ab_Run X 189 7 (14, 0, 0) L (ab_I (ab_rd σ a 11) :: st) σ Q := gF_13_175 ko_X13_readKitchen kc_X13_readKitchen dX13_readKitchen_4
theorem rX13_readKitchen_7 : ab_Run X 189 7 (14, 0, 0) L (ab_I a :: st) σ Q ↔ (a = 0 → ab_Run X 189 15 (14, 0, 0) L st σ Q) ∧ (¬ (a = 0) → ab_Run X 189 10 (14, 0, 0) L st σ Q) := ab_r_if_eq rfl kc_X13_readKitchen dX13_readKitchen_7
theorem rX13_readKitchen_10 : ab_Run X 189 10 (14, 0, 0) [ab_R z, l1, l2, l3, l4, l5] st σ Q ↔ z ≠ 0 ∧ ab_Run X 189 11 (14, 0, 0) [ab_R z, l1, l2, l3, l4, l5] (ab_R z :: st) σ Q := ab_r_aload_n rfl kc_X13_readKitchen dX13_readKitchen_10
theorem rX13_readKitchen_11 : ab_Run X 189 11 (14, 0, 0) L st σ Q ↔ ab_Run X 189 12 (14, 0, 0) L (ab_I 3 :: st) σ Q := ab_r_iconst (by decide) kc_X13_readKitchen dX13_readKitchen_11
theorem rX13_readKitchen_12 : ab_Run X 189 12 (14, 0, 0) L (ab_I x1 :: ab_R a :: st) σ Q ↔ ((ab_sh σ a).1 = 14 ∧ ab_cats st ≤ 8) ∧ ab_Do X 172 [ab_R a, ab_I x1] σ (fun r σ' => ab_Run X 189 15 (14, 0, 0) L (ab_psh r st) σ' Q) := ab_r_callV (w := [ab_I x1]) (as := [ab_I x1]) (b1 := (0, 0, 0)) 0 (Or.inl rfl) (by decide) ko_X13_readKitchen qM_13_134 (by decide) rfl rfl rfl rfl rfl (by decide) (Nat.le_of_ble_eq_true rfl) kc_X13_readKitchen dX13_readKitchen_12
theorem rX13_readKitchen_15 : ab_Run X 189 15 (14, 0, 0) [ab_R z, l1, l2, l3, l4, l5] st σ Q ↔ z ≠ 0 ∧ ab_Run X 189 16 (14, 0, 0) [ab_R z, l1, l2, l3, l4, l5] (ab_R z :: st) σ Q := ab_r_aload_n rfl kc_X13_readKitchen dX13_readKitchen_15
theorem rX13_readKitchen_16 : ab_Run X 189 16 (14, 0, 0) L (ab_R a :: st) σ Q ↔ ((ab_sh σ a).1 = 14 ∧ ab_cats st ≤ 8) ∧ ab_Do X 171 [ab_R a] σ (fun r σ' => ab_Run X 189 19 (14, 0, 0) L (ab_psh r st) σ' Q) := ab_r_callV (w := []) (as := []) (b1 := (1, 0, 0)) 0 (Or.inl rfl) (by decide) ko_X13_readKitchen qM_13_127 (by decide) rfl rfl rfl rfl rfl (by decide) (Nat.le_of_ble_eq_true rfl) kc_X13_readKitchen dX13_readKitchen_16
theorem rX13_readKitchen_19 : ab_Run X 189 19 (14, 0, 0) [ab_R z, l1, l2, l3, l4, l5] st σ Q ↔ z ≠ 0 ∧ ab_Run X 189 20 (14, 0, 0) [ab_R z, l1, l2, l3, l4, l5] (ab_R z :: st) σ Q := ab_r_aload_n rfl kc_X13_readKitchen dX13_readKitchen_19
theorem rX13_readKitchen_20 : ab_Run X 189 20 (14, 0, 0) L st σ Q ↔ ab_Run X 189 22 (14, 0, 0) L (ab_R (-3) :: st) σ Q := ab_r_ldcS (n := 1) rfl ko_X13_readKitchen (by decide +kernel) (by decide +kernel) rfl kc_X13_readKitchen dX13_readKitchen_20
theorem rX13_readKitchen_22 : ab_Run X 189 22 (14, 0, 0) L st σ Q ↔ ab_Run X 189 23 (14, 0, 0) L (ab_I 0 :: st) σ Q := ab_r_iconst (by decide) kc_X13_readKitchen dX13_readKitchen_22
theorem rX13_readKitchen_23 : ab_Run X 189 23 (14, 0, 0) L st σ Q ↔ ab_Run X 189 25 (14, 0, 0) L (ab_I 9 :: st) σ Q := ab_r_bipush (by decide) kc_X13_readKitchen dX13_readKitchen_23
theorem rX13_readKitchen_25 : ab_Run X 189 25 (14, 0, 0) L (ab_I x3 :: ab_I x2 :: ab_R x1 :: ab_R a :: st) σ Q ↔ ((ab_sh σ a).1 = 14 ∧ ab_cats st ≤ 8) ∧ ab_Do X 179 [ab_R a, ab_R x1, ab_I x2, ab_I x3] σ (fun r σ' => ab_Run X 189 28 (14, 0, 0) L (ab_psh r st) σ' Q) := ab_r_callV (w := [ab_I x3, ab_I x2, ab_R x1]) (as := [ab_R x1, ab_I x2, ab_I x3]) (b1 := (13, 0, 0)) 0 (Or.inl rfl) (by decide) ko_X13_readKitchen qM_13_239 (by decide) rfl rfl rfl rfl rfl (by decide) (Nat.le_of_ble_eq_true rfl) kc_X13_readKitchen dX13_readKitchen_25
theorem rX13_readKitchen_28 : ab_Run X 189 28 (14, 0, 0) [l0, l1, l2, l3, l4, l5] (ab_I z :: st) σ Q ↔ (!ab_isJ l0) = true ∧ ab_Run X 189 29 (14, 0, 0) [l0, ab_I z, l2, l3, l4, l5] st σ Q := ab_r_istore_n (Nat.le_of_ble_eq_true rfl) kc_X13_readKitchen dX13_readKitchen_28
theorem rX13_readKitchen_29 : ab_Run X 189 29 (14, 0, 0) [ab_R z, l1, l2, l3, l4, l5] st σ Q ↔ z ≠ 0 ∧ ab_Run X 189 30 (14, 0, 0) [ab_R z, l1, l2, l3, l4, l5] (ab_R z :: st) σ Q := ab_r_aload_n rfl kc_X13_readKitchen dX13_readKitchen_29
theorem rX13_readKitchen_30 : ab_Run X 189 30 (14, 0, 0) L st σ Q ↔ ab_Run X 189 32 (14, 0, 0) L (ab_R (-4) :: st) σ Q := ab_r_ldcS (n := 2) rfl ko_X13_readKitchen (by decide +kernel) (by decide +kernel) rfl kc_X13_readKitchen dX13_readKitchen_30
theorem rX13_readKitchen_32 : ab_Run X 189 32 (14, 0, 0) L st σ Q ↔ ab_Run X 189 34 (14, 0, 0) L (ab_I 25 :: st) σ Q := ab_r_bipush (by decide) kc_X13_readKitchen dX13_readKitchen_32
theorem rX13_readKitchen_34 : ab_Run X 189 34 (14, 0, 0) L st σ Q ↔ ab_Run X 189 36 (14, 0, 0) L (ab_I 60 :: st) σ Q := ab_r_bipush (by decide) kc_X13_readKitchen dX13_readKitchen_34
theorem rX13_readKitchen_36 : ab_Run X 189 36 (14, 0, 0) L (ab_I x3 :: ab_I x2 :: ab_R x1 :: ab_R a :: st) σ Q ↔ ((ab_sh σ a).1 = 14 ∧ ab_cats st ≤ 8) ∧ ab_Do X 179 [ab_R a, ab_R x1, ab_I x2, ab_I x3] σ (fun r σ' => ab_Run X 189 39 (14, 0, 0) L (ab_psh r st) σ' Q) := ab_r_callV (w := [ab_I x3, ab_I x2, ab_R x1]) (as := [ab_R x1, ab_I x2, ab_I x3]) (b1 := (13, 0, 0)) 0 (Or.inl rfl) (by decide) ko_X13_readKitchen qM_13_239 (by decide) rfl rfl rfl rfl rfl (by decide) (Nat.le_of_ble_eq_true rfl) kc_X13_readKitchen dX13_readKitchen_36
theorem rX13_readKitchen_39 : ab_Run X 189 39 (14, 0, 0) [l0, l1, l2, l3, l4, l5] (ab_I z :: st) σ Q ↔ (!ab_isJ l1) = true ∧ ab_Run X 189 40 (14, 0, 0) [l0, l1, ab_I z, l3, l4, l5] st σ Q := ab_r_istore_n (Nat.le_of_ble_eq_true rfl) kc_X13_readKitchen dX13_readKitchen_39
theorem rX13_readKitchen_40 : ab_Run X 189 40 (14, 0, 0) [ab_R z, l1, l2, l3, l4, l5] st σ Q ↔ z ≠ 0 ∧ ab_Run X 189 41 (14, 0, 0) [ab_R z, l1, l2, l3, l4, l5] (ab_R z :: st) σ Q := ab_r_aload_n rfl kc_X13_readKitchen dX13_readKitchen_40
theorem rX13_readKitchen_41 : ab_Run X 189 41 (14, 0, 0) L st σ Q ↔ ab_Run X 189 43 (14, 0, 0) L (ab_R (-5) :: st) σ Q := ab_r_ldcS (n := 3) rfl ko_X13_readKitchen (by decide +kernel) (by decide +kernel) rfl kc_X13_readKitchen dX13_readKitchen_41
theorem rX13_readKitchen_43 : ab_Run X 189 43 (14, 0, 0) L st σ Q ↔ ab_Run X 189 44 (14, 0, 0) L (ab_I 0 :: st) σ Q := ab_r_iconst (by decide) kc_X13_readKitchen dX13_readKitchen_43
theorem rX13_readKitchen_44 : ab_Run X 189 44 (14, 0, 0) L st σ Q ↔ ab_Run X 189 46 (14, 0, 0) L (ab_I 99 :: st) σ Q := ab_r_bipush (by decide) kc_X13_readKitchen dX13_readKitchen_44
theorem rX13_readKitchen_46 : ab_Run X 189 46 (14, 0, 0) L (ab_I x3 :: ab_I x2 :: ab_R x1 :: ab_R a :: st) σ Q ↔ ((ab_sh σ a).1 = 14 ∧ ab_cats st ≤ 8) ∧ ab_Do X 179 [ab_R a, ab_R x1, ab_I x2, ab_I x3] σ (fun r σ' => ab_Run X 189 49 (14, 0, 0) L (ab_psh r st) σ' Q) := ab_r_callV (w := [ab_I x3, ab_I x2, ab_R x1]) (as := [ab_R x1, ab_I x2, ab_I x3]) (b1 := (13, 0, 0)) 0 (Or.inl rfl) (by decide) ko_X13_readKitchen qM_13_239 (by decide) rfl rfl rfl rfl rfl (by decide) (Nat.le_of_ble_eq_true rfl) kc_X13_readKitchen dX13_readKitchen_46
theorem rX13_readKitchen_49 : ab_Run X 189 49 (14, 0, 0) [l0, l1, l2, l3, l4, l5] (ab_I z :: st) σ Q ↔ (!ab_isJ l2) = true ∧ ab_Run X 189 50 (14, 0, 0) [l0, l1, l2, ab_I z, l4, l5] st σ Q := ab_r_istore_n (Nat.le_of_ble_eq_true rfl) kc_X13_readKitchen dX13_readKitchen_49
theorem rX13_readKitchen_50 : ab_Run X 189 50 (14, 0, 0) [ab_R z, l1, l2, l3, l4, l5] st σ Q ↔ z ≠ 0 ∧ ab_Run X 189 51 (14, 0, 0) [ab_R z, l1, l2, l3, l4, l5] (ab_R z :: st) σ Q := ab_r_aload_n rfl kc_X13_readKitchen dX13_readKitchen_50
theorem rX13_readKitchen_51 : ab_Run X 189 51 (14, 0, 0) L st σ Q ↔ ab_Run X 189 53 (14, 0, 0) L (ab_R (-6) :: st) σ Q := ab_r_ldcS (n := 4) rfl ko_X13_readKitchen (by decide +kernel) (by decide +kernel) rfl kc_X13_readKitchen dX13_readKitchen_51
theorem rX13_readKitchen_53 : ab_Run X 189 53 (14, 0, 0) L st σ Q ↔ ab_Run X 189 54 (14, 0, 0) L (ab_I 0 :: st) σ Q := ab_r_iconst (by decide) kc_X13_readKitchen dX13_readKitchen_53
theorem rX13_readKitchen_54 : ab_Run X 189 54 (14, 0, 0) L st σ Q ↔ ab_Run X 189 56 (14, 0, 0) L (ab_I 99 :: st) σ Q := ab_r_bipush (by decide) kc_X13_readKitchen dX13_readKitchen_54
theorem rX13_readKitchen_56 : ab_Run X 189 56 (14, 0, 0) L (ab_I x3 :: ab_I x2 :: ab_R x1 :: ab_R a :: st) σ Q ↔ ((ab_sh σ a).1 = 14 ∧ ab_cats st ≤ 8) ∧ ab_Do X 179 [ab_R a, ab_R x1, ab_I x2, ab_I x3] σ (fun r σ' => ab_Run X 189 59 (14, 0, 0) L (ab_psh r st) σ' Q) := ab_r_callV (w := [ab_I x3, ab_I x2, ab_R x1]) (as := [ab_R x1, ab_I x2, ab_I x3]) (b1 := (13, 0, 0)) 0 (Or.inl rfl) (by decide) ko_X13_readKitchen qM_13_239 (by decide) rfl rfl rfl rfl rfl (by decide) (Nat.le_of_ble_eq_true rfl) kc_X13_readKitchen dX13_readKitchen_56
theorem rX13_readKitchen_59 : ab_Run X 189 59 (14, 0, 0) [l0, l1, l2, l3, l4, l5] (ab_I z :: st) σ Q ↔ (!ab_isJ l3) = true ∧ ab_Run X 189 61 (14, 0, 0) [l0, l1, l2, l3, ab_I z, l5] st σ Q := ab_r_istore (Nat.le_of_ble_eq_true rfl) kc_X13_readKitchen dX13_readKitchen_59
theorem rX13_readKitchen_61 : ab_Run X 189 61 (14, 0, 0) [ab_R z, l1, l2, l3, l4, l5] st σ Q ↔ z ≠ 0 ∧ ab_Run X 189 62 (14, 0, 0) [ab_R z, l1, l2, l3, l4, l5] (ab_R z :: st) σ Q := ab_r_aload_n rfl kc_X13_readKitchen dX13_readKitchen_61
theorem rX13_readKitchen_62 : ab_Run X 189 62 (14, 0, 0) L st σ Q ↔ ab_Run X 189 64 (14, 0, 0) L (ab_R (-7) :: st) σ Q := ab_r_ldcS (n := 5) rfl ko_X13_readKitchen (by decide +kernel) (by decide +kernel) rfl kc_X13_readKitchen dX13_readKitchen_62
theorem rX13_readKitchen_64 : ab_Run X 189 64 (14, 0, 0) L st σ Q ↔ ab_Run X 189 65 (14, 0, 0) L (ab_I 0 :: st) σ Q := ab_r_iconst (by decide) kc_X13_readKitchen dX13_readKitchen_64
theorem rX13_readKitchen_65 : ab_Run X 189 65 (14, 0, 0) L st σ Q ↔ ab_Run X 189 67 (14, 0, 0) L (ab_I 99 :: st) σ Q := ab_r_bipush (by decide) kc_X13_readKitchen dX13_readKitchen_65
theorem rX13_readKitchen_67 : ab_Run X 189 67 (14, 0, 0) L (ab_I x3 :: ab_I x2 :: ab_R x1 :: ab_R a :: st) σ Q ↔ ((ab_sh σ a).1 = 14 ∧ ab_cats st ≤ 8) ∧ ab_Do X 179 [ab_R a, ab_R x1, ab_I x2, ab_I x3] σ (fun r σ' => ab_Run X 189 70 (14, 0, 0) L (ab_psh r st) σ' Q) := ab_r_callV (w := [ab_I x3, ab_I x2, ab_R x1]) (as := [ab_R x1, ab_I x2, ab_I x3]) (b1 := (13, 0, 0)) 0 (Or.inl rfl) (by decide) ko_X13_readKitchen qM_13_239 (by decide) rfl rfl rfl rfl rfl (by decide) (Nat.le_of_ble_eq_true rfl) kc_X13_readKitchen dX13_readKitchen_67
theorem rX13_readKitchen_70 : ab_Run X 189 70 (14, 0, 0) [l0, l1, l2, l3, l4, l5] (ab_I z :: st) σ Q ↔ (!ab_isJ l4) = true ∧ ab_Run X 189 72 (14, 0, 0) [l0, l1, l2, l3, l4, ab_I z] st σ Q := ab_r_istore (Nat.le_of_ble_eq_true rfl) kc_X13_readKitchen dX13_readKitchen_70
theorem rX13_readKitchen_72 : ab_Run X 189 72 (14, 0, 0) [ab_R z, l1, l2, l3, l4, l5] st σ Q ↔ z ≠ 0 ∧ ab_Run X 189 73 (14, 0, 0) [ab_R z, l1, l2, l3, l4, l5] (ab_R z :: st) σ Q := ab_r_aload_n rfl kc_X13_readKitchen dX13_readKitchen_72
theorem rX13_readKitchen_73 : ab_Run X 189 73 (14, 0, 0) L (ab_R a :: st) σ Q ↔ (ab_sh σ a).1 = 14 ∧ ab_Run X 189 76 (14, 0, 0) L (ab_I (ab_rd σ a 9) :: st) σ Q := gF_13_85 ko_X13_readKitchen kc_X13_readKitchen dX13_readKitchen_73
theorem rX13_readKitchen_76 : ab_Run X 189 76 (14, 0, 0) L st σ Q ↔ ab_Run X 189 77 (14, 0, 0) L (ab_I 5 :: st) σ Q := ab_r_iconst (by decide) kc_X13_readKitchen dX13_readKitchen_76
theorem rX13_readKitchen_77 : ab_Run X 189 77 (14, 0, 0) L (ab_I b :: ab_I a :: st) σ Q ↔ (¬ a = b → ab_Run X 189 81 (14, 0, 0) L st σ Q) ∧ (¬ (¬ a = b) → ab_Run X 189 80 (14, 0, 0) L st σ Q) := ab_r_icmp_ne rfl kc_X13_readKitchen dX13_readKitchen_77
theorem rX13_readKitchen_80 : ab_Run X 189 80 (14, 0, 0) L [] σ Q ↔ Q none σ := ab_r_return rfl kc_X13_readKitchen dX13_readKitchen_80
theorem rX13_readKitchen_81 : ab_Run X 189 81 (14, 0, 0) [ab_R z, l1, l2, l3, l4, l5] st σ Q ↔ z ≠ 0 ∧ ab_Run X 189 82 (14, 0, 0) [ab_R z, l1, l2, l3, l4, l5] (ab_R z :: st) σ Q := ab_r_aload_n rfl kc_X13_readKitchen dX13_readKitchen_81
theorem rX13_readKitchen_82 : ab_Run X 189 82 (14, 0, 0) L (ab_R a :: st) σ Q ↔ (ab_sh σ a).1 = 14 ∧ ab_Run X 189 85 (14, 0, 0) L (ab_R (ab_rd σ a 4) :: st) σ Q := gF_13_171 ko_X13_readKitchen kc_X13_readKitchen dX13_readKitchen_82
theorem rX13_readKitchen_85 : ab_Run X 189 85 (14, 0, 0) L st σ Q ↔ ab_Run X 189 86 (14, 0, 0) L (ab_I 1 :: st) σ Q := ab_r_iconst (by decide) kc_X13_readKitchen dX13_readKitchen_85
theorem rX13_readKitchen_86 : ab_Run X 189 86 (14, 0, 0) L (ab_I z :: ab_R a :: st) σ Q ↔ ((ab_sh σ a).1 = 13 ∧ (z = 0 ∨ z = 1)) ∧ ab_Run X 189 89 (14, 0, 0) L st (ab_wr σ a 11 z) Q := sF_13_175 ko_X13_readKitchen kc_X13_readKitchen dX13_readKitchen_86
theorem rX13_readKitchen_89 : ab_Run X 189 89 (14, 0, 0) [ab_R z, l1, l2, l3, l4, l5] st σ Q ↔ z ≠ 0 ∧ ab_Run X 189 90 (14, 0, 0) [ab_R z, l1, l2, l3, l4, l5] (ab_R z :: st) σ Q := ab_r_aload_n rfl kc_X13_readKitchen dX13_readKitchen_89
theorem rX13_readKitchen_90 : ab_Run X 189 90 (14, 0, 0) L (ab_R a :: st) σ Q ↔ (ab_sh σ a).1 = 14 ∧ ab_Run X 189 93 (14, 0, 0) L (ab_R (ab_rd σ a 4) :: st) σ Q := gF_13_171 ko_X13_readKitchen kc_X13_readKitchen dX13_readKitchen_90
theorem rX13_readKitchen_93 : ab_Run X 189 93 (14, 0, 0) [l0, ab_I z, l2, l3, l4, l5] st σ Q ↔ ab_Run X 189 94 (14, 0, 0) [l0, ab_I z, l2, l3, l4, l5] (ab_I z :: st) σ Q := ab_r_iload_n rfl kc_X13_readKitchen dX13_readKitchen_93
theorem rX13_readKitchen_94 : ab_Run X 189 94 (14, 0, 0) L (ab_I z :: ab_R a :: st) σ Q ↔ (ab_sh σ a).1 = 13 ∧ ab_Run X 189 97 (14, 0, 0) L st (ab_wr σ a 0 z) Q := sF_13_250 ko_X13_readKitchen kc_X13_readKitchen dX13_readKitchen_94
theorem rX13_readKitchen_97 : ab_Run X 189 97 (14, 0, 0) [ab_R z, l1, l2, l3, l4, l5] st σ Q ↔ z ≠ 0 ∧ ab_Run X 189 98 (14, 0, 0) [ab_R z, l1, l2, l3, l4, l5] (ab_R z :: st) σ Q := ab_r_aload_n rfl kc_X13_readKitchen dX13_readKitchen_97
theorem rX13_readKitchen_98 : ab_Run X 189 98 (14, 0, 0) L (ab_R a :: st) σ Q ↔ (ab_sh σ a).1 = 14 ∧ ab_Run X 189 101 (14, 0, 0) L (ab_R (ab_rd σ a 4) :: st) σ Q := gF_13_171 ko_X13_readKitchen kc_X13_readKitchen dX13_readKitchen_98
theorem rX13_readKitchen_101 : ab_Run X 189 101 (14, 0, 0) [l0, l1, ab_I z, l3, l4, l5] st σ Q ↔ ab_Run X 189 102 (14, 0, 0) [l0, l1, ab_I z, l3, l4, l5] (ab_I z :: st) σ Q := ab_r_iload_n rfl kc_X13_readKitchen dX13_readKitchen_101
theorem rX13_readKitchen_102 : ab_Run X 189 102 (14, 0, 0) L (ab_I z :: ab_R a :: st) σ Q ↔ (ab_sh σ a).1 = 13 ∧ ab_Run X 189 105 (14, 0, 0) L st (ab_wr σ a 1 z) Q := sF_13_252 ko_X13_readKitchen kc_X13_readKitchen dX13_readKitchen_102
theorem rX13_readKitchen_105 : ab_Run X 189 105 (14, 0, 0) [ab_R z, l1, l2, l3, l4, l5] st σ Q ↔ z ≠ 0 ∧ ab_Run X 189 106 (14, 0, 0) [ab_R z, l1, l2, l3, l4, l5] (ab_R z :: st) σ Q := ab_r_aload_n rfl kc_X13_readKitchen dX13_readKitchen_105
theorem rX13_readKitchen_106 : ab_Run X 189 106 (14, 0, 0) L (ab_R a :: st) σ Q ↔ (ab_sh σ a).1 = 14 ∧ ab_Run X 189 109 (14, 0, 0) L (ab_R (ab_rd σ a 4) :: st) σ Q := gF_13_171 ko_X13_readKitchen kc_X13_readKitchen dX13_readKitchen_106
theorem rX13_readKitchen_109 : ab_Run X 189 109 (14, 0, 0) [l0, l1, l2, ab_I z, l4, l5] st σ Q ↔ ab_Run X 189 110 (14, 0, 0) [l0, l1, l2, ab_I z, l4, l5] (ab_I z :: st) σ Q := ab_r_iload_n rfl kc_X13_readKitchen dX13_readKitchen_109
theorem rX13_readKitchen_110 : ab_Run X 189 110 (14, 0, 0) L (ab_I z :: ab_R a :: st) σ Q ↔ (ab_sh σ a).1 = 13 ∧ ab_Run X 189 113 (14, 0, 0) L st (ab_wr σ a 2 z) Q := sF_13_254 ko_X13_readKitchen kc_X13_readKitchen dX13_readKitchen_110
theorem rX13_readKitchen_113 : ab_Run X 189 113 (14, 0, 0) [ab_R z, l1, l2, l3, l4, l5] st σ Q ↔ z ≠ 0 ∧ ab_Run X 189 114 (14, 0, 0) [ab_R z, l1, l2, l3, l4, l5] (ab_R z :: st) σ Q := ab_r_aload_n rfl kc_X13_readKitchen dX13_readKitchen_113
theorem rX13_readKitchen_114 : ab_Run X 189 114 (14, 0, 0) L (ab_R a :: st) σ Q ↔ (ab_sh σ a).1 = 14 ∧ ab_Run X 189 117 (14, 0, 0) L (ab_R (ab_rd σ a 4) :: st) σ Q := gF_13_171 ko_X13_readKitchen kc_X13_readKitchen dX13_readKitchen_114
theorem rX13_readKitchen_117 : ab_Run X 189 117 (14, 0, 0) [l0, l1, l2, l3, ab_I z, l5] st σ Q ↔ ab_Run X 189 119 (14, 0, 0) [l0, l1, l2, l3, ab_I z, l5] (ab_I z :: st) σ Q := ab_r_iload rfl kc_X13_readKitchen dX13_readKitchen_117
theorem rX13_readKitchen_119 : ab_Run X 189 119 (14, 0, 0) L (ab_I z :: ab_R a :: st) σ Q ↔ (ab_sh σ a).1 = 13 ∧ ab_Run X 189 122 (14, 0, 0) L st (ab_wr σ a 3 z) Q := sF_13_256 ko_X13_readKitchen kc_X13_readKitchen dX13_readKitchen_119
theorem rX13_readKitchen_122 : ab_Run X 189 122 (14, 0, 0) [ab_R z, l1, l2, l3, l4, l5] st σ Q ↔ z ≠ 0 ∧ ab_Run X 189 123 (14, 0, 0) [ab_R z, l1, l2, l3, l4, l5] (ab_R z :: st) σ Q := ab_r_aload_n rfl kc_X13_readKitchen dX13_readKitchen_122
theorem rX13_readKitchen_123 : ab_Run X 189 123 (14, 0, 0) L (ab_R a :: st) σ Q ↔ (ab_sh σ a).1 = 14 ∧ ab_Run X 189 126 (14, 0, 0) L (ab_R (ab_rd σ a 4) :: st) σ Q := gF_13_171 ko_X13_readKitchen kc_X13_readKitchen dX13_readKitchen_123
theorem rX13_readKitchen_126 : ab_Run X 189 126 (14, 0, 0) [l0, l1, l2, l3, l4, ab_I z] st σ Q ↔ ab_Run X 189 128 (14, 0, 0) [l0, l1, l2, l3, l4, ab_I z] (ab_I z :: st) σ Q := ab_r_iload rfl kc_X13_readKitchen dX13_readKitchen_126
theorem rX13_readKitchen_128 : ab_Run X 189 128 (14, 0, 0) L (ab_I z :: ab_R a :: st) σ Q ↔ (ab_sh σ a).1 = 13 ∧ ab_Run X 189 131 (14, 0, 0) L st (ab_wr σ a 4 z) Q := sF_13_258 ko_X13_readKitchen kc_X13_readKitchen dX13_readKitchen_128
theorem rX13_readKitchen_131 : ab_Run X 189 131 (14, 0, 0) L [] σ Q ↔ Q none σ := ab_r_return rfl kc_X13_readKitchen dX13_readKitchen_131
theorem kc_X13_readArm : ab_code 190 = cX13_readArm := rfl
theorem ko_X13_readArm : ab_ow 190 = 13 := rfl
theorem rX13_readArm_0 : ab_Run X 190 0 (13, 0, 0) [ab_R z, l1, l2, l3, l4, l5] st σ Q ↔ z ≠ 0 ∧ ab_Run X 190 1 (13, 0, 0) [ab_R z, l1, l2, l3, l4, l5] (ab_R z :: st) σ Q := ab_r_aload_n rfl kc_X13_readArm dX13_readArm_0
theorem rX13_readArm_1 : ab_Run X 190 1 (13, 0, 0) [l0, ab_I z, l2, l3, l4, l5] st σ Q ↔ ab_Run X 190 2 (13, 0, 0) [l0, ab_I z, l2, l3, l4, l5] (ab_I z :: st) σ Q := ab_r_iload_n rfl kc_X13_readArm dX13_readArm_1
theorem rX13_readArm_2 : ab_Run X 190 2 (13, 0, 0) L (ab_I a :: st) σ Q ↔ (¬ a = 0 → ab_Run X 190 10 (13, 0, 0) L st σ Q) ∧ (¬ (¬ a = 0) → ab_Run X 190 5 (13, 0, 0) L st σ Q) := ab_r_if_ne rfl kc_X13_readArm dX13_readArm_2
theorem rX13_readArm_5 : ab_Run X 190 5 (13, 0, 0) L st σ Q ↔ ab_Run X 190 7 (13, 0, 0) L (ab_R (-14) :: st) σ Q := ab_r_ldcS (n := 12) rfl ko_X13_readArm (by decide +kernel) (by decide +kernel) rfl kc_X13_readArm dX13_readArm_5
theorem rX13_readArm_7 : ab_Run X 190 7 (13, 0, 0) L st σ Q ↔ ab_Run X 190 12 (13, 0, 0) L st σ Q := ab_r_goto rfl kc_X13_readArm dX13_readArm_7
theorem rX13_readArm_10 : ab_Run X 190 10 (13, 0, 0) L st σ Q ↔ ab_Run X 190 12 (13, 0, 0) L (ab_R (-15) :: st) σ Q := ab_r_ldcS (n := 13) rfl ko_X13_readArm (by decide +kernel) (by decide +kernel) rfl kc_X13_readArm dX13_readArm_10
theorem rX13_readArm_12 : ab_Run X 190 12 (13, 0, 0) L (ab_R x1 :: ab_R a :: st) σ Q ↔ ((ab_sh σ a).1 = 14 ∧ ab_cats st ≤ 8) ∧ ab_Do X 176 [ab_R a, ab_R x1] σ (fun r σ' => ab_Run X 190 15 (13, 0, 0) L (ab_psh r st) σ' Q) := ab_r_callV (w := [ab_R x1]) (as := [ab_R x1]) (b1 := (12, 0, 0)) 0 (Or.inl rfl) (by decide) ko_X13_readArm qM_13_146 (by decide) rfl rfl rfl rfl rfl (by decide) (Nat.le_of_ble_eq_true rfl) kc_X13_readArm dX13_readArm_12
theorem rX13_readArm_15 : ab_Run X 190 15 (13, 0, 0) [ab_R z, l1, l2, l3, l4, l5] st σ Q ↔ z ≠ 0 ∧ ab_Run X 190 16 (13, 0, 0) [ab_R z, l1, l2, l3, l4, l5] (ab_R z :: st) σ Q := ab_r_aload_n rfl kc_X13_readArm dX13_readArm_15
theorem rX13_readArm_16 : ab_Run X 190 16 (13, 0, 0) L (ab_R a :: st) σ Q ↔ (ab_sh σ a).1 = 14 ∧ ab_Run X 190 19 (13, 0, 0) L (ab_R (ab_rd σ a 4) :: st) σ Q := gF_13_171 ko_X13_readArm kc_X13_readArm dX13_readArm_16
theorem rX13_readArm_19 : ab_Run X 190 19 (13, 0, 0) L (ab_R a :: st) σ Q ↔ (ab_sh σ a).1 = 13 ∧ ab_Run X 190 22 (13, 0, 0) L (ab_I (ab_rd σ a 5) :: st) σ Q := gF_13_210 ko_X13_readArm kc_X13_readArm dX13_readArm_19
theorem rX13_readArm_22 : ab_Run X 190 22 (13, 0, 0) L st σ Q ↔ ab_Run X 190 23 (13, 0, 0) L (ab_I 5 :: st) σ Q := ab_r_iconst (by decide) kc_X13_readArm dX13_readArm_22
theorem rX13_readArm_23 : ab_Run X 190 23 (13, 0, 0) L (ab_I b :: ab_I a :: st) σ Q ↔ (b ≤ a → ab_Run X 190 36 (13, 0, 0) L st σ Q) ∧ (¬ (b ≤ a) → ab_Run X 190 26 (13, 0, 0) L st σ Q) := ab_r_icmp_ge rfl kc_X13_readArm dX13_readArm_23
theorem rX13_readArm_26 : ab_Run X 190 26 (13, 0, 0) [ab_R z, l1, l2, l3, l4, l5] st σ Q ↔ z ≠ 0 ∧ ab_Run X 190 27 (13, 0, 0) [ab_R z, l1, l2, l3, l4, l5] (ab_R z :: st) σ Q := ab_r_aload_n rfl kc_X13_readArm dX13_readArm_26
theorem rX13_readArm_27 : ab_Run X 190 27 (13, 0, 0) L (ab_R a :: st) σ Q ↔ (ab_sh σ a).1 = 14 ∧ ab_Run X 190 30 (13, 0, 0) L (ab_R (ab_rd σ a 4) :: st) σ Q := gF_13_171 ko_X13_readArm kc_X13_readArm dX13_readArm_27
theorem rX13_readArm_30 : ab_Run X 190 30 (13, 0, 0) L (ab_R a :: st) σ Q ↔ (ab_sh σ a).1 = 13 ∧ ab_Run X 190 33 (13, 0, 0) L (ab_I (ab_rd σ a 5) :: st) σ Q := gF_13_210 ko_X13_readArm kc_X13_readArm dX13_readArm_30
theorem rX13_readArm_33 : ab_Run X 190 33 (13, 0, 0) L st σ Q ↔ ab_Run X 190 37 (13, 0, 0) L st σ Q := ab_r_goto rfl kc_X13_readArm dX13_readArm_33
theorem rX13_readArm_36 : ab_Run X 190 36 (13, 0, 0) L st σ Q ↔ ab_Run X 190 37 (13, 0, 0) L (ab_I 0 :: st) σ Q := ab_r_iconst (by decide) kc_X13_readArm dX13_readArm_36
theorem rX13_readArm_37 : ab_Run X 190 37 (13, 0, 0) [l0, l1, l2, l3, l4, l5] (ab_I z :: st) σ Q ↔ (!ab_isJ l1) = true ∧ ab_Run X 190 38 (13, 0, 0) [l0, l1, ab_I z, l3, l4, l5] st σ Q := ab_r_istore_n (Nat.le_of_ble_eq_true rfl) kc_X13_readArm dX13_readArm_37
theorem rX13_readArm_38 : ab_Run X 190 38 (13, 0, 0) L st σ Q ↔ ab_Run X 190 39 (13, 0, 0) L (ab_I 0 :: st) σ Q := ab_r_iconst (by decide) kc_X13_readArm dX13_readArm_38
theorem rX13_readArm_39 : ab_Run X 190 39 (13, 0, 0) [l0, l1, l2, l3, l4, l5] (ab_I z :: st) σ Q ↔ (!ab_isJ l2) = true ∧ ab_Run X 190 40 (13, 0, 0) [l0, l1, l2, ab_I z, l4, l5] st σ Q := ab_r_istore_n (Nat.le_of_ble_eq_true rfl) kc_X13_readArm dX13_readArm_39
theorem rX13_readArm_40 : ab_Run X 190 40 (13, 0, 0) L st σ Q ↔ ab_Run X 190 41 (13, 0, 0) L (ab_I 1 :: st) σ Q := ab_r_iconst (by decide) kc_X13_readArm dX13_readArm_40
theorem rX13_readArm_41 : ab_Run X 190 41 (13, 0, 0) [l0, l1, l2, l3, l4, l5] (ab_I z :: st) σ Q ↔ (!ab_isJ l3) = true ∧ ab_Run X 190 43 (13, 0, 0) [l0, l1, l2, l3, ab_I z, l5] st σ Q := ab_r_istore (Nat.le_of_ble_eq_true rfl) kc_X13_readArm dX13_readArm_41
theorem rX13_readArm_43 : ab_Run X 190 43 (13, 0, 0) [l0, l1, l2, l3, ab_I z, l5] st σ Q ↔ ab_Run X 190 45 (13, 0, 0) [l0, l1, l2, l3, ab_I z, l5] (ab_I z :: st) σ Q := ab_r_iload rfl kc_X13_readArm dX13_readArm_43
theorem rX13_readArm_45 : ab_Run X 190 45 (13, 0, 0) L (ab_I a :: st) σ Q ↔ (a = 0 → ab_Run X 190 115 (13, 0, 0) L st σ Q) ∧ (¬ (a = 0) → ab_Run X 190 48 (13, 0, 0) L st σ Q) := ab_r_if_eq rfl kc_X13_readArm dX13_readArm_45
theorem rX13_readArm_48 : ab_Run X 190 48 (13, 0, 0) [ab_R z, l1, l2, l3, l4, l5] st σ Q ↔ z ≠ 0 ∧ ab_Run X 190 49 (13, 0, 0) [ab_R z, l1, l2, l3, l4, l5] (ab_R z :: st) σ Q := ab_r_aload_n rfl kc_X13_readArm dX13_readArm_48
theorem rX13_readArm_49 : ab_Run X 190 49 (13, 0, 0) L st σ Q ↔ ab_Run X 190 50 (13, 0, 0) L (ab_I 1 :: st) σ Q := ab_r_iconst (by decide) kc_X13_readArm dX13_readArm_49
theorem rX13_readArm_50 : ab_Run X 190 50 (13, 0, 0) L st σ Q ↔ ab_Run X 190 52 (13, 0, 0) L (ab_I 9 :: st) σ Q := ab_r_bipush (by decide) kc_X13_readArm dX13_readArm_50
theorem rX13_readArm_52 : ab_Run X 190 52 (13, 0, 0) L (ab_I x2 :: ab_I x1 :: ab_R a :: st) σ Q ↔ ((ab_sh σ a).1 = 14 ∧ ab_cats st ≤ 8) ∧ ab_Do X 177 [ab_R a, ab_I x1, ab_I x2] σ (fun r σ' => ab_Run X 190 55 (13, 0, 0) L (ab_psh r st) σ' Q) := ab_r_callV (w := [ab_I x2, ab_I x1]) (as := [ab_I x1, ab_I x2]) (b1 := (1, 0, 0)) 0 (Or.inl rfl) (by decide) ko_X13_readArm qM_13_142 (by decide) rfl rfl rfl rfl rfl (by decide) (Nat.le_of_ble_eq_true rfl) kc_X13_readArm dX13_readArm_52
theorem rX13_readArm_55 : ab_Run X 190 55 (13, 0, 0) [l0, l1, l2, l3, l4, l5] (ab_I z :: st) σ Q ↔ (!ab_isJ l4) = true ∧ ab_Run X 190 57 (13, 0, 0) [l0, l1, l2, l3, l4, ab_I z] st σ Q := ab_r_istore (Nat.le_of_ble_eq_true rfl) kc_X13_readArm dX13_readArm_55
theorem rX13_readArm_57 : ab_Run X 190 57 (13, 0, 0) [l0, l1, l2, ab_I z, l4, l5] st σ Q ↔ ab_Run X 190 58 (13, 0, 0) [l0, l1, l2, ab_I z, l4, l5] (ab_I z :: st) σ Q := ab_r_iload_n rfl kc_X13_readArm dX13_readArm_57
theorem rX13_readArm_58 : ab_Run X 190 58 (13, 0, 0) L st σ Q ↔ ab_Run X 190 60 (13, 0, 0) L (ab_I 6 :: st) σ Q := ab_r_bipush (by decide) kc_X13_readArm dX13_readArm_58
theorem rX13_readArm_60 : ab_Run X 190 60 (13, 0, 0) L (ab_I b :: ab_I a :: st) σ Q ↔ (¬ a = b → ab_Run X 190 68 (13, 0, 0) L st σ Q) ∧ (¬ (¬ a = b) → ab_Run X 190 63 (13, 0, 0) L st σ Q) := ab_r_icmp_ne rfl kc_X13_readArm dX13_readArm_60
theorem rX13_readArm_63 : ab_Run X 190 63 (13, 0, 0) [ab_R z, l1, l2, l3, l4, l5] st σ Q ↔ z ≠ 0 ∧ ab_Run X 190 64 (13, 0, 0) [ab_R z, l1, l2, l3, l4, l5] (ab_R z :: st) σ Q := ab_r_aload_n rfl kc_X13_readArm dX13_readArm_63
theorem rX13_readArm_64 : ab_Run X 190 64 (13, 0, 0) L st σ Q ↔ ab_Run X 190 65 (13, 0, 0) L (ab_I 5 :: st) σ Q := ab_r_iconst (by decide) kc_X13_readArm dX13_readArm_64
theorem rX13_readArm_65 : ab_Run X 190 65 (13, 0, 0) L (ab_I x1 :: ab_R a :: st) σ Q ↔ ((ab_sh σ a).1 = 14 ∧ ab_cats st ≤ 8) ∧ ab_Do X 172 [ab_R a, ab_I x1] σ (fun r σ' => ab_Run X 190 68 (13, 0, 0) L (ab_psh r st) σ' Q) := ab_r_callV (w := [ab_I x1]) (as := [ab_I x1]) (b1 := (0, 0, 0)) 0 (Or.inl rfl) (by decide) ko_X13_readArm qM_13_134 (by decide) rfl rfl rfl rfl rfl (by decide) (Nat.le_of_ble_eq_true rfl) kc_X13_readArm dX13_readArm_65
theorem rX13_readArm_68 : ab_Run X 190 68 (13, 0, 0) [ab_R z, l1, l2, l3, l4, l5] st σ Q ↔ z ≠ 0 ∧ ab_Run X 190 69 (13, 0, 0) [ab_R z, l1, l2, l3, l4, l5] (ab_R z :: st) σ Q := ab_r_aload_n rfl kc_X13_readArm dX13_readArm_68
theorem rX13_readArm_69 : ab_Run X 190 69 (13, 0, 0) L (ab_R a :: st) σ Q ↔ ((ab_sh σ a).1 = 14 ∧ ab_cats st ≤ 8) ∧ ab_Do X 171 [ab_R a] σ (fun r σ' => ab_Run X 190 72 (13, 0, 0) L (ab_psh r st) σ' Q) := ab_r_callV (w := []) (as := []) (b1 := (1, 0, 0)) 0 (Or.inl rfl) (by decide) ko_X13_readArm qM_13_127 (by decide) rfl rfl rfl rfl rfl (by decide) (Nat.le_of_ble_eq_true rfl) kc_X13_readArm dX13_readArm_69
theorem rX13_readArm_72 : ab_Run X 190 72 (13, 0, 0) [ab_R z, l1, l2, l3, l4, l5] st σ Q ↔ z ≠ 0 ∧ ab_Run X 190 73 (13, 0, 0) [ab_R z, l1, l2, l3, l4, l5] (ab_R z :: st) σ Q := ab_r_aload_n rfl kc_X13_readArm dX13_readArm_72
theorem rX13_readArm_73 : ab_Run X 190 73 (13, 0, 0) L (ab_R a :: st) σ Q ↔ (ab_sh σ a).1 = 14 ∧ ab_Run X 190 76 (13, 0, 0) L (ab_I (ab_rd σ a 9) :: st) σ Q := gF_13_85 ko_X13_readArm kc_X13_readArm dX13_readArm_73
theorem rX13_readArm_76 : ab_Run X 190 76 (13, 0, 0) L st σ Q ↔ ab_Run X 190 77 (13, 0, 0) L (ab_I 5 :: st) σ Q := ab_r_iconst (by decide) kc_X13_readArm dX13_readArm_76
theorem rX13_readArm_77 : ab_Run X 190 77 (13, 0, 0) L (ab_I b :: ab_I a :: st) σ Q ↔ (¬ a = b → ab_Run X 190 81 (13, 0, 0) L st σ Q) ∧ (¬ (¬ a = b) → ab_Run X 190 80 (13, 0, 0) L st σ Q) := ab_r_icmp_ne rfl kc_X13_readArm dX13_readArm_77
theorem rX13_readArm_80 : ab_Run X 190 80 (13, 0, 0) L [] σ Q ↔ Q none σ := ab_r_return rfl kc_X13_readArm dX13_readArm_80
theorem rX13_readArm_81 : ab_Run X 190 81 (13, 0, 0) [ab_R z, l1, l2, l3, l4, l5] st σ Q ↔ z ≠ 0 ∧ ab_Run X 190 82 (13, 0, 0) [ab_R z, l1, l2, l3, l4, l5] (ab_R z :: st) σ Q := ab_r_aload_n rfl kc_X13_readArm dX13_readArm_81
theorem rX13_readArm_82 : ab_Run X 190 82 (13, 0, 0) L (ab_R a :: st) σ Q ↔ (ab_sh σ a).1 = 14 ∧ ab_Run X 190 85 (13, 0, 0) L (ab_R (ab_rd σ a 4) :: st) σ Q := gF_13_171 ko_X13_readArm kc_X13_readArm dX13_readArm_82
theorem rX13_readArm_85 : ab_Run X 190 85 (13, 0, 0) L (ab_R a :: st) σ Q ↔ (ab_sh σ a).1 = 13 ∧ ab_Run X 190 88 (13, 0, 0) L (ab_R (ab_rd σ a 15) :: st) σ Q := gF_13_260 ko_X13_readArm kc_X13_readArm dX13_readArm_85
theorem rX13_readArm_88 : ab_Run X 190 88 (13, 0, 0) L st σ Q ↔ ab_Run X 190 90 (13, 0, 0) L (ab_I 6 :: st) σ Q := ab_r_bipush (by decide) kc_X13_readArm dX13_readArm_88
theorem rX13_readArm_90 : ab_Run X 190 90 (13, 0, 0) L st σ Q ↔ ab_Run X 190 91 (13, 0, 0) L (ab_I 2 :: st) σ Q := ab_r_iconst (by decide) kc_X13_readArm dX13_readArm_90
theorem rX13_readArm_91 : ab_Run X 190 91 (13, 0, 0) [l0, l1, ab_I z, l3, l4, l5] st σ Q ↔ ab_Run X 190 92 (13, 0, 0) [l0, l1, ab_I z, l3, l4, l5] (ab_I z :: st) σ Q := ab_r_iload_n rfl kc_X13_readArm dX13_readArm_91
theorem rX13_readArm_92 : ab_Run X 190 92 (13, 0, 0) L (ab_I b :: ab_I a :: st) σ Q ↔ ab_Run X 190 93 (13, 0, 0) L (ab_I (ab_w32 (a * b)) :: st) σ Q := ab_r_imul kc_X13_readArm dX13_readArm_92
theorem rX13_readArm_93 : ab_Run X 190 93 (13, 0, 0) [l0, ab_I z, l2, l3, l4, l5] st σ Q ↔ ab_Run X 190 94 (13, 0, 0) [l0, ab_I z, l2, l3, l4, l5] (ab_I z :: st) σ Q := ab_r_iload_n rfl kc_X13_readArm dX13_readArm_93
theorem rX13_readArm_94 : ab_Run X 190 94 (13, 0, 0) L (ab_I b :: ab_I a :: st) σ Q ↔ ab_Run X 190 95 (13, 0, 0) L (ab_I (ab_w32 (a + b)) :: st) σ Q := ab_r_iadd kc_X13_readArm dX13_readArm_94
theorem rX13_readArm_95 : ab_Run X 190 95 (13, 0, 0) L (ab_I b :: ab_I a :: st) σ Q ↔ ab_Run X 190 96 (13, 0, 0) L (ab_I (ab_w32 (a * b)) :: st) σ Q := ab_r_imul kc_X13_readArm dX13_readArm_95
theorem rX13_readArm_96 : ab_Run X 190 96 (13, 0, 0) [l0, l1, l2, ab_I z, l4, l5] st σ Q ↔ ab_Run X 190 97 (13, 0, 0) [l0, l1, l2, ab_I z, l4, l5] (ab_I z :: st) σ Q := ab_r_iload_n rfl kc_X13_readArm dX13_readArm_96
theorem rX13_readArm_97 : ab_Run X 190 97 (13, 0, 0) L (ab_I b :: ab_I a :: st) σ Q ↔ ab_Run X 190 98 (13, 0, 0) L (ab_I (ab_w32 (a + b)) :: st) σ Q := ab_r_iadd kc_X13_readArm dX13_readArm_97
theorem rX13_readArm_98 : ab_Run X 190 98 (13, 0, 0) [l0, l1, l2, l3, l4, ab_I z] st σ Q ↔ ab_Run X 190 100 (13, 0, 0) [l0, l1, l2, l3, l4, ab_I z] (ab_I z :: st) σ Q := ab_r_iload rfl kc_X13_readArm dX13_readArm_98
theorem rX13_readArm_100 : ab_Run X 190 100 (13, 0, 0) L (ab_I v :: ab_I i :: ab_R a :: st) σ Q ↔ ((ab_sh σ a).1 = 21 ∧ 0 ≤ i ∧ i < (ab_sh σ a).2) ∧ ab_Run X 190 101 (13, 0, 0) L st (ab_wr σ a i v) Q := ab_r_iastore kc_X13_readArm dX13_readArm_100
theorem rX13_readArm_101 : ab_Run X 190 101 (13, 0, 0) [l0, l1, l2, ab_I z, l4, l5] st σ Q ↔ (!ab_isJ l2) = true ∧ ab_Run X 190 104 (13, 0, 0) [l0, l1, l2, ab_I (ab_w32 (z + 1)), l4, l5] st σ Q := ab_r_iinc rfl (by decide) kc_X13_readArm dX13_readArm_101
theorem rX13_readArm_104 : ab_Run X 190 104 (13, 0, 0) [ab_R z, l1, l2, l3, l4, l5] st σ Q ↔ z ≠ 0 ∧ ab_Run X 190 105 (13, 0, 0) [ab_R z, l1, l2, l3, l4, l5] (ab_R z :: st) σ Q := ab_r_aload_n rfl kc_X13_readArm dX13_readArm_104
theorem rX13_readArm_105 : ab_Run X 190 105 (13, 0, 0) L st σ Q ↔ ab_Run X 190 107 (13, 0, 0) L (ab_I 44 :: st) σ Q := ab_r_bipush (by decide) kc_X13_readArm dX13_readArm_105
theorem rX13_readArm_107 : ab_Run X 190 107 (13, 0, 0) L (ab_I x1 :: ab_R a :: st) σ Q ↔ ((ab_sh σ a).1 = 14 ∧ ab_cats st ≤ 8) ∧ ab_Do X 175 [ab_R a, ab_I x1] σ (fun r σ' => ab_Run X 190 110 (13, 0, 0) L (ab_psh r st) σ' Q) := ab_r_callV (w := [ab_I x1]) (as := [ab_I x1]) (b1 := (2, 0, 0)) 0 (Or.inl rfl) (by decide) ko_X13_readArm qM_13_207 (by decide) rfl rfl rfl rfl rfl (by decide) (Nat.le_of_ble_eq_true rfl) kc_X13_readArm dX13_readArm_107
theorem rX13_readArm_110 : ab_Run X 190 110 (13, 0, 0) [l0, l1, l2, l3, l4, l5] (ab_I z :: st) σ Q ↔ (!ab_isJ l3) = true ∧ ab_Run X 190 112 (13, 0, 0) [l0, l1, l2, l3, ab_I z, l5] st σ Q := ab_r_istore (Nat.le_of_ble_eq_true rfl) kc_X13_readArm dX13_readArm_110
theorem rX13_readArm_112 : ab_Run X 190 112 (13, 0, 0) L st σ Q ↔ ab_Run X 190 43 (13, 0, 0) L st σ Q := ab_r_goto rfl kc_X13_readArm dX13_readArm_112
theorem rX13_readArm_115 : ab_Run X 190 115 (13, 0, 0) [ab_R z, l1, l2, l3, l4, l5] st σ Q ↔ z ≠ 0 ∧ ab_Run X 190 116 (13, 0, 0) [ab_R z, l1, l2, l3, l4, l5] (ab_R z :: st) σ Q := ab_r_aload_n rfl kc_X13_readArm dX13_readArm_115
theorem rX13_readArm_116 : ab_Run X 190 116 (13, 0, 0) L (ab_R a :: st) σ Q ↔ (ab_sh σ a).1 = 14 ∧ ab_Run X 190 119 (13, 0, 0) L (ab_R (ab_rd σ a 4) :: st) σ Q := gF_13_171 ko_X13_readArm kc_X13_readArm dX13_readArm_116
theorem rX13_readArm_119 : ab_Run X 190 119 (13, 0, 0) L (ab_R a :: st) σ Q ↔ (ab_sh σ a).1 = 13 ∧ ab_Run X 190 122 (13, 0, 0) L (ab_R (ab_rd σ a 14) :: st) σ Q := gF_13_263 ko_X13_readArm kc_X13_readArm dX13_readArm_119
theorem rX13_readArm_122 : ab_Run X 190 122 (13, 0, 0) L st σ Q ↔ ab_Run X 190 123 (13, 0, 0) L (ab_I 2 :: st) σ Q := ab_r_iconst (by decide) kc_X13_readArm dX13_readArm_122
theorem rX13_readArm_123 : ab_Run X 190 123 (13, 0, 0) [l0, l1, ab_I z, l3, l4, l5] st σ Q ↔ ab_Run X 190 124 (13, 0, 0) [l0, l1, ab_I z, l3, l4, l5] (ab_I z :: st) σ Q := ab_r_iload_n rfl kc_X13_readArm dX13_readArm_123
theorem rX13_readArm_124 : ab_Run X 190 124 (13, 0, 0) L (ab_I b :: ab_I a :: st) σ Q ↔ ab_Run X 190 125 (13, 0, 0) L (ab_I (ab_w32 (a * b)) :: st) σ Q := ab_r_imul kc_X13_readArm dX13_readArm_124
theorem rX13_readArm_125 : ab_Run X 190 125 (13, 0, 0) [l0, ab_I z, l2, l3, l4, l5] st σ Q ↔ ab_Run X 190 126 (13, 0, 0) [l0, ab_I z, l2, l3, l4, l5] (ab_I z :: st) σ Q := ab_r_iload_n rfl kc_X13_readArm dX13_readArm_125
theorem rX13_readArm_126 : ab_Run X 190 126 (13, 0, 0) L (ab_I b :: ab_I a :: st) σ Q ↔ ab_Run X 190 127 (13, 0, 0) L (ab_I (ab_w32 (a + b)) :: st) σ Q := ab_r_iadd kc_X13_readArm dX13_readArm_126
theorem rX13_readArm_127 : ab_Run X 190 127 (13, 0, 0) [l0, l1, l2, ab_I z, l4, l5] st σ Q ↔ ab_Run X 190 128 (13, 0, 0) [l0, l1, l2, ab_I z, l4, l5] (ab_I z :: st) σ Q := ab_r_iload_n rfl kc_X13_readArm dX13_readArm_127
theorem rX13_readArm_128 : ab_Run X 190 128 (13, 0, 0) L (ab_I v :: ab_I i :: ab_R a :: st) σ Q ↔ ((ab_sh σ a).1 = 21 ∧ 0 ≤ i ∧ i < (ab_sh σ a).2) ∧ ab_Run X 190 129 (13, 0, 0) L st (ab_wr σ a i v) Q := ab_r_iastore kc_X13_readArm dX13_readArm_128
theorem rX13_readArm_129 : ab_Run X 190 129 (13, 0, 0) [l0, l1, l2, ab_I z, l4, l5] st σ Q ↔ ab_Run X 190 130 (13, 0, 0) [l0, l1, l2, ab_I z, l4, l5] (ab_I z :: st) σ Q := ab_r_iload_n rfl kc_X13_readArm dX13_readArm_129
theorem rX13_readArm_130 : ab_Run X 190 130 (13, 0, 0) L st σ Q ↔ ab_Run X 190 131 (13, 0, 0) L (ab_I 1 :: st) σ Q := ab_r_iconst (by decide) kc_X13_readArm dX13_readArm_130
theorem rX13_readArm_131 : ab_Run X 190 131 (13, 0, 0) L (ab_I b :: ab_I a :: st) σ Q ↔ (a ≤ b → ab_Run X 190 135 (13, 0, 0) L st σ Q) ∧ (¬ (a ≤ b) → ab_Run X 190 134 (13, 0, 0) L st σ Q) := ab_r_icmp_le rfl kc_X13_readArm dX13_readArm_131
theorem rX13_readArm_134 : ab_Run X 190 134 (13, 0, 0) L [] σ Q ↔ Q none σ := ab_r_return rfl kc_X13_readArm dX13_readArm_134
theorem rX13_readArm_135 : ab_Run X 190 135 (13, 0, 0) [l0, ab_I z, l2, l3, l4, l5] st σ Q ↔ ab_Run X 190 136 (13, 0, 0) [l0, ab_I z, l2, l3, l4, l5] (ab_I z :: st) σ Q := ab_r_iload_n rfl kc_X13_readArm dX13_readArm_135
theorem rX13_readArm_136 : ab_Run X 190 136 (13, 0, 0) L (ab_I a :: st) σ Q ↔ (¬ a = 0 → ab_Run X 190 148 (13, 0, 0) L st σ Q) ∧ (¬ (¬ a = 0) → ab_Run X 190 139 (13, 0, 0) L st σ Q) := ab_r_if_ne rfl kc_X13_readArm dX13_readArm_136
theorem rX13_readArm_139 : ab_Run X 190 139 (13, 0, 0) [ab_R z, l1, l2, l3, l4, l5] st σ Q ↔ z ≠ 0 ∧ ab_Run X 190 140 (13, 0, 0) [ab_R z, l1, l2, l3, l4, l5] (ab_R z :: st) σ Q := ab_r_aload_n rfl kc_X13_readArm dX13_readArm_139
theorem rX13_readArm_140 : ab_Run X 190 140 (13, 0, 0) L st σ Q ↔ ab_Run X 190 142 (13, 0, 0) L (ab_R (-15) :: st) σ Q := ab_r_ldcS (n := 13) rfl ko_X13_readArm (by decide +kernel) (by decide +kernel) rfl kc_X13_readArm dX13_readArm_140
theorem rX13_readArm_142 : ab_Run X 190 142 (13, 0, 0) L (ab_R x1 :: ab_R a :: st) σ Q ↔ ((ab_sh σ a).1 = 14 ∧ ab_cats st ≤ 8) ∧ ab_Do X 173 [ab_R a, ab_R x1] σ (fun r σ' => ab_Run X 190 145 (13, 0, 0) L (ab_psh r st) σ' Q) := ab_r_callV (w := [ab_R x1]) (as := [ab_R x1]) (b1 := (11, 0, 0)) 0 (Or.inl rfl) (by decide) ko_X13_readArm qM_13_130 (by decide) rfl rfl rfl rfl rfl (by decide) (Nat.le_of_ble_eq_true rfl) kc_X13_readArm dX13_readArm_142
theorem rX13_readArm_145 : ab_Run X 190 145 (13, 0, 0) L st σ Q ↔ ab_Run X 190 170 (13, 0, 0) L st σ Q := ab_r_goto rfl kc_X13_readArm dX13_readArm_145
theorem rX13_readArm_148 : ab_Run X 190 148 (13, 0, 0) [ab_R z, l1, l2, l3, l4, l5] st σ Q ↔ z ≠ 0 ∧ ab_Run X 190 149 (13, 0, 0) [ab_R z, l1, l2, l3, l4, l5] (ab_R z :: st) σ Q := ab_r_aload_n rfl kc_X13_readArm dX13_readArm_148
theorem rX13_readArm_149 : ab_Run X 190 149 (13, 0, 0) L st σ Q ↔ ab_Run X 190 151 (13, 0, 0) L (ab_I 59 :: st) σ Q := ab_r_bipush (by decide) kc_X13_readArm dX13_readArm_149
theorem rX13_readArm_151 : ab_Run X 190 151 (13, 0, 0) L (ab_I x1 :: ab_R a :: st) σ Q ↔ ((ab_sh σ a).1 = 14 ∧ ab_cats st ≤ 8) ∧ ab_Do X 174 [ab_R a, ab_I x1] σ (fun r σ' => ab_Run X 190 154 (13, 0, 0) L (ab_psh r st) σ' Q) := ab_r_callV (w := [ab_I x1]) (as := [ab_I x1]) (b1 := (0, 0, 0)) 0 (Or.inl rfl) (by decide) ko_X13_readArm qM_13_124 (by decide) rfl rfl rfl rfl rfl (by decide) (Nat.le_of_ble_eq_true rfl) kc_X13_readArm dX13_readArm_151
theorem rX13_readArm_154 : ab_Run X 190 154 (13, 0, 0) L (ab_I a :: st) σ Q ↔ (¬ a = 0 → ab_Run X 190 165 (13, 0, 0) L st σ Q) ∧ (¬ (¬ a = 0) → ab_Run X 190 157 (13, 0, 0) L st σ Q) := ab_r_if_ne rfl kc_X13_readArm dX13_readArm_154
theorem rX13_readArm_157 : ab_Run X 190 157 (13, 0, 0) [ab_R z, l1, l2, l3, l4, l5] st σ Q ↔ z ≠ 0 ∧ ab_Run X 190 158 (13, 0, 0) [ab_R z, l1, l2, l3, l4, l5] (ab_R z :: st) σ Q := ab_r_aload_n rfl kc_X13_readArm dX13_readArm_157
theorem rX13_readArm_158 : ab_Run X 190 158 (13, 0, 0) L (ab_R a :: st) σ Q ↔ (ab_sh σ a).1 = 14 ∧ ab_Run X 190 161 (13, 0, 0) L (ab_I (ab_rd σ a 9) :: st) σ Q := gF_13_85 ko_X13_readArm kc_X13_readArm dX13_readArm_158
theorem rX13_readArm_161 : ab_Run X 190 161 (13, 0, 0) L st σ Q ↔ ab_Run X 190 162 (13, 0, 0) L (ab_I 1 :: st) σ Q := ab_r_iconst (by decide) kc_X13_readArm dX13_readArm_161
theorem rX13_readArm_162 : ab_Run X 190 162 (13, 0, 0) L (ab_I b :: ab_I a :: st) σ Q ↔ (¬ a = b → ab_Run X 190 169 (13, 0, 0) L st σ Q) ∧ (¬ (¬ a = b) → ab_Run X 190 165 (13, 0, 0) L st σ Q) := ab_r_icmp_ne rfl kc_X13_readArm dX13_readArm_162
theorem rX13_readArm_165 : ab_Run X 190 165 (13, 0, 0) L st σ Q ↔ ab_Run X 190 166 (13, 0, 0) L (ab_I 1 :: st) σ Q := ab_r_iconst (by decide) kc_X13_readArm dX13_readArm_165
theorem rX13_readArm_166 : ab_Run X 190 166 (13, 0, 0) L st σ Q ↔ ab_Run X 190 170 (13, 0, 0) L st σ Q := ab_r_goto rfl kc_X13_readArm dX13_readArm_166
theorem rX13_readArm_169 : ab_Run X 190 169 (13, 0, 0) L st σ Q ↔ ab_Run X 190 170 (13, 0, 0) L (ab_I 0 :: st) σ Q := ab_r_iconst (by decide) kc_X13_readArm dX13_readArm_169
theorem rX13_readArm_170 : ab_Run X 190 170 (13, 0, 0) [l0, l1, l2, l3, l4, l5] (ab_I z :: st) σ Q ↔ (!ab_isJ l4) = true ∧ ab_Run X 190 172 (13, 0, 0) [l0, l1, l2, l3, l4, ab_I z] st σ Q := ab_r_istore (Nat.le_of_ble_eq_true rfl) kc_X13_readArm dX13_readArm_170
theorem rX13_readArm_172 : ab_Run X 190 172 (13, 0, 0) [ab_R z, l1, l2, l3, l4, l5] st σ Q ↔ z ≠ 0 ∧ ab_Run X 190 173 (13, 0, 0) [ab_R z, l1, l2, l3, l4, l5] (ab_R z :: st) σ Q := ab_r_aload_n rfl kc_X13_readArm dX13_readArm_172
theorem rX13_readArm_173 : ab_Run X 190 173 (13, 0, 0) [l0, l1, l2, l3, l4, ab_I z] st σ Q ↔ ab_Run X 190 175 (13, 0, 0) [l0, l1, l2, l3, l4, ab_I z] (ab_I z :: st) σ Q := ab_r_iload rfl kc_X13_readArm dX13_readArm_173
theorem rX13_readArm_175 : ab_Run X 190 175 (13, 0, 0) L (ab_I a :: st) σ Q ↔ (a = 0 → ab_Run X 190 183 (13, 0, 0) L st σ Q) ∧ (¬ (a = 0) → ab_Run X 190 178 (13, 0, 0) L st σ Q) := ab_r_if_eq rfl kc_X13_readArm dX13_readArm_175
theorem rX13_readArm_178 : ab_Run X 190 178 (13, 0, 0) L st σ Q ↔ ab_Run X 190 180 (13, 0, 0) L (ab_I 6 :: st) σ Q := ab_r_bipush (by decide) kc_X13_readArm dX13_readArm_178
theorem rX13_readArm_180 : ab_Run X 190 180 (13, 0, 0) L st σ Q ↔ ab_Run X 190 184 (13, 0, 0) L st σ Q := ab_r_goto rfl kc_X13_readArm dX13_readArm_180
theorem rX13_readArm_183 : ab_Run X 190 183 (13, 0, 0) L st σ Q ↔ ab_Run X 190 184 (13, 0, 0) L (ab_I 1 :: st) σ Q := ab_r_iconst (by decide) kc_X13_readArm dX13_readArm_183
theorem rX13_readArm_184 : ab_Run X 190 184 (13, 0, 0) L (ab_I x1 :: ab_R a :: st) σ Q ↔ ((ab_sh σ a).1 = 14 ∧ ab_cats st ≤ 8) ∧ ab_Do X 172 [ab_R a, ab_I x1] σ (fun r σ' => ab_Run X 190 187 (13, 0, 0) L (ab_psh r st) σ' Q) := ab_r_callV (w := [ab_I x1]) (as := [ab_I x1]) (b1 := (0, 0, 0)) 0 (Or.inl rfl) (by decide) ko_X13_readArm qM_13_134 (by decide) rfl rfl rfl rfl rfl (by decide) (Nat.le_of_ble_eq_true rfl) kc_X13_readArm dX13_readArm_184
theorem rX13_readArm_187 : ab_Run X 190 187 (13, 0, 0) L [] σ Q ↔ Q none σ := ab_r_return rfl kc_X13_readArm dX13_readArm_187
theorem kc_X13_readBone : ab_code 191 = cX13_readBone := rfl
theorem ko_X13_readBone : ab_ow 191 = 13 := rfl
theorem rX13_readBone_0 : ab_Run X 191 0 (14, 0, 0) [ab_R z, l1, l2, l3, l4] st σ Q ↔ z ≠ 0 ∧ ab_Run X 191 1 (14, 0, 0) [ab_R z, l1, l2, l3, l4] (ab_R z :: st) σ Q := ab_r_aload_n rfl kc_X13_readBone dX13_readBone_0
theorem rX13_readBone_1 : ab_Run X 191 1 (14, 0, 0) [ab_R z, l1, l2, l3, l4] st σ Q ↔ z ≠ 0 ∧ ab_Run X 191 2 (14, 0, 0) [ab_R z, l1, l2, l3, l4] (ab_R z :: st) σ Q := ab_r_aload_n rfl kc_X13_readBone dX13_readBone_1
theorem rX13_readBone_2 : ab_Run X 191 2 (14, 0, 0) L (ab_R a :: st) σ Q ↔ (ab_sh σ a).1 = 14 ∧ ab_Run X 191 5 (14, 0, 0) L (ab_R (ab_rd σ a 4) :: st) σ Q := gF_13_171 ko_X13_readBone kc_X13_readBone dX13_readBone_2
theorem rX13_readBone_5 : ab_Run X 191 5 (14, 0, 0) L (ab_R a :: st) σ Q ↔ (ab_sh σ a).1 = 13 ∧ ab_Run X 191 8 (14, 0, 0) L (ab_I (ab_rd σ a 5) :: st) σ Q := gF_13_210 ko_X13_readBone kc_X13_readBone dX13_readBone_5
theorem rX13_readBone_8 : ab_Run X 191 8 (14, 0, 0) L st σ Q ↔ ab_Run X 191 9 (14, 0, 0) L (ab_I 5 :: st) σ Q := ab_r_iconst (by decide) kc_X13_readBone dX13_readBone_8
theorem rX13_readBone_9 : ab_Run X 191 9 (14, 0, 0) L (ab_I x2 :: ab_I x1 :: ab_R a :: st) σ Q ↔ ((ab_sh σ a).1 = 14 ∧ ab_cats st ≤ 8) ∧ ab_Do X 181 [ab_R a, ab_I x1, ab_I x2] σ (fun r σ' => ab_Run X 191 12 (14, 0, 0) L (ab_psh r st) σ' Q) := ab_r_callV (w := [ab_I x2, ab_I x1]) (as := [ab_I x1, ab_I x2]) (b1 := (2, 0, 0)) 0 (Or.inl rfl) (by decide) ko_X13_readBone qM_13_266 (by decide) rfl rfl rfl rfl rfl (by decide) (Nat.le_of_ble_eq_true rfl) kc_X13_readBone dX13_readBone_9
theorem rX13_readBone_12 : ab_Run X 191 12 (14, 0, 0) [ab_R z, l1, l2, l3, l4] st σ Q ↔ z ≠ 0 ∧ ab_Run X 191 13 (14, 0, 0) [ab_R z, l1, l2, l3, l4] (ab_R z :: st) σ Q := ab_r_aload_n rfl kc_X13_readBone dX13_readBone_12
theorem rX13_readBone_13 : ab_Run X 191 13 (14, 0, 0) L (ab_R a :: st) σ Q ↔ ((ab_sh σ a).1 = 14 ∧ ab_cats st ≤ 8) ∧ ab_Do X 182 [ab_R a] σ (fun r σ' => ab_Run X 191 16 (14, 0, 0) L (ab_psh r st) σ' Q) := ab_r_callV (w := []) (as := []) (b1 := (13, 0, 0)) 0 (Or.inl rfl) (by decide) ko_X13_readBone qM_13_270 (by decide) rfl rfl rfl rfl rfl (by decide) (Nat.le_of_ble_eq_true rfl) kc_X13_readBone dX13_readBone_13
theorem rX13_readBone_16 : ab_Run X 191 16 (14, 0, 0) [l0, l1, l2, l3, l4] (ab_J z :: st) σ Q ↔ (!ab_isJ l0) = true ∧ ab_Run X 191 17 (14, 0, 0) [l0, ab_J z, ab_R 0, l3, l4] st σ Q := ab_r_lstore_n (Nat.le_of_ble_eq_true rfl) kc_X13_readBone dX13_readBone_16
theorem rX13_readBone_17 : ab_Run X 191 17 (14, 0, 0) [ab_R z, l1, l2, l3, l4] st σ Q ↔ z ≠ 0 ∧ ab_Run X 191 18 (14, 0, 0) [ab_R z, l1, l2, l3, l4] (ab_R z :: st) σ Q := ab_r_aload_n rfl kc_X13_readBone dX13_readBone_17
theorem rX13_readBone_18 : ab_Run X 191 18 (14, 0, 0) L st σ Q ↔ ab_Run X 191 21 (14, 0, 0) L (ab_R (-16) :: st) σ Q := ab_r_ldc_wS (n := 14) rfl ko_X13_readBone (by decide +kernel) (by decide +kernel) rfl kc_X13_readBone dX13_readBone_18
theorem rX13_readBone_21 : ab_Run X 191 21 (14, 0, 0) L (ab_R x1 :: ab_R a :: st) σ Q ↔ ((ab_sh σ a).1 = 14 ∧ ab_cats st ≤ 8) ∧ ab_Do X 173 [ab_R a, ab_R x1] σ (fun r σ' => ab_Run X 191 24 (14, 0, 0) L (ab_psh r st) σ' Q) := ab_r_callV (w := [ab_R x1]) (as := [ab_R x1]) (b1 := (11, 0, 0)) 0 (Or.inl rfl) (by decide) ko_X13_readBone qM_13_130 (by decide) rfl rfl rfl rfl rfl (by decide) (Nat.le_of_ble_eq_true rfl) kc_X13_readBone dX13_readBone_21
theorem rX13_readBone_24 : ab_Run X 191 24 (14, 0, 0) L (ab_I a :: st) σ Q ↔ (a = 0 → ab_Run X 191 31 (14, 0, 0) L st σ Q) ∧ (¬ (a = 0) → ab_Run X 191 27 (14, 0, 0) L st σ Q) := ab_r_if_eq rfl kc_X13_readBone dX13_readBone_24
theorem rX13_readBone_27 : ab_Run X 191 27 (14, 0, 0) L st σ Q ↔ ab_Run X 191 28 (14, 0, 0) L (ab_I 0 :: st) σ Q := ab_r_iconst (by decide) kc_X13_readBone dX13_readBone_27
theorem rX13_readBone_28 : ab_Run X 191 28 (14, 0, 0) L st σ Q ↔ ab_Run X 191 60 (14, 0, 0) L st σ Q := ab_r_goto rfl kc_X13_readBone dX13_readBone_28
theorem rX13_readBone_31 : ab_Run X 191 31 (14, 0, 0) [ab_R z, l1, l2, l3, l4] st σ Q ↔ z ≠ 0 ∧ ab_Run X 191 32 (14, 0, 0) [ab_R z, l1, l2, l3, l4] (ab_R z :: st) σ Q := ab_r_aload_n rfl kc_X13_readBone dX13_readBone_31
theorem rX13_readBone_32 : ab_Run X 191 32 (14, 0, 0) L st σ Q ↔ ab_Run X 191 35 (14, 0, 0) L (ab_R (-17) :: st) σ Q := ab_r_ldc_wS (n := 15) rfl ko_X13_readBone (by decide +kernel) (by decide +kernel) rfl kc_X13_readBone dX13_readBone_32
theorem rX13_readBone_35 : ab_Run X 191 35 (14, 0, 0) L (ab_R x1 :: ab_R a :: st) σ Q ↔ ((ab_sh σ a).1 = 14 ∧ ab_cats st ≤ 8) ∧ ab_Do X 173 [ab_R a, ab_R x1] σ (fun r σ' => ab_Run X 191 38 (14, 0, 0) L (ab_psh r st) σ' Q) := ab_r_callV (w := [ab_R x1]) (as := [ab_R x1]) (b1 := (11, 0, 0)) 0 (Or.inl rfl) (by decide) ko_X13_readBone qM_13_130 (by decide) rfl rfl rfl rfl rfl (by decide) (Nat.le_of_ble_eq_true rfl) kc_X13_readBone dX13_readBone_35
theorem rX13_readBone_38 : ab_Run X 191 38 (14, 0, 0) L (ab_I a :: st) σ Q ↔ (a = 0 → ab_Run X 191 45 (14, 0, 0) L st σ Q) ∧ (¬ (a = 0) → ab_Run X 191 41 (14, 0, 0) L st σ Q) := ab_r_if_eq rfl kc_X13_readBone dX13_readBone_38
theorem rX13_readBone_41 : ab_Run X 191 41 (14, 0, 0) L st σ Q ↔ ab_Run X 191 42 (14, 0, 0) L (ab_I 1 :: st) σ Q := ab_r_iconst (by decide) kc_X13_readBone dX13_readBone_41
theorem rX13_readBone_42 : ab_Run X 191 42 (14, 0, 0) L st σ Q ↔ ab_Run X 191 60 (14, 0, 0) L st σ Q := ab_r_goto rfl kc_X13_readBone dX13_readBone_42
theorem rX13_readBone_45 : ab_Run X 191 45 (14, 0, 0) [ab_R z, l1, l2, l3, l4] st σ Q ↔ z ≠ 0 ∧ ab_Run X 191 46 (14, 0, 0) [ab_R z, l1, l2, l3, l4] (ab_R z :: st) σ Q := ab_r_aload_n rfl kc_X13_readBone dX13_readBone_45
theorem rX13_readBone_46 : ab_Run X 191 46 (14, 0, 0) L st σ Q ↔ ab_Run X 191 49 (14, 0, 0) L (ab_R (-18) :: st) σ Q := ab_r_ldc_wS (n := 16) rfl ko_X13_readBone (by decide +kernel) (by decide +kernel) rfl kc_X13_readBone dX13_readBone_46
theorem rX13_readBone_49 : ab_Run X 191 49 (14, 0, 0) L (ab_R x1 :: ab_R a :: st) σ Q ↔ ((ab_sh σ a).1 = 14 ∧ ab_cats st ≤ 8) ∧ ab_Do X 173 [ab_R a, ab_R x1] σ (fun r σ' => ab_Run X 191 52 (14, 0, 0) L (ab_psh r st) σ' Q) := ab_r_callV (w := [ab_R x1]) (as := [ab_R x1]) (b1 := (11, 0, 0)) 0 (Or.inl rfl) (by decide) ko_X13_readBone qM_13_130 (by decide) rfl rfl rfl rfl rfl (by decide) (Nat.le_of_ble_eq_true rfl) kc_X13_readBone dX13_readBone_49
theorem rX13_readBone_52 : ab_Run X 191 52 (14, 0, 0) L (ab_I a :: st) σ Q ↔ (a = 0 → ab_Run X 191 59 (14, 0, 0) L st σ Q) ∧ (¬ (a = 0) → ab_Run X 191 55 (14, 0, 0) L st σ Q) := ab_r_if_eq rfl kc_X13_readBone dX13_readBone_52
theorem rX13_readBone_55 : ab_Run X 191 55 (14, 0, 0) L st σ Q ↔ ab_Run X 191 56 (14, 0, 0) L (ab_I 2 :: st) σ Q := ab_r_iconst (by decide) kc_X13_readBone dX13_readBone_55
theorem rX13_readBone_56 : ab_Run X 191 56 (14, 0, 0) L st σ Q ↔ ab_Run X 191 60 (14, 0, 0) L st σ Q := ab_r_goto rfl kc_X13_readBone dX13_readBone_56
theorem rX13_readBone_59 : ab_Run X 191 59 (14, 0, 0) L st σ Q ↔ ab_Run X 191 60 (14, 0, 0) L (ab_I (-1) :: st) σ Q := ab_r_iconst (by decide) kc_X13_readBone dX13_readBone_59
theorem rX13_readBone_60 : ab_Run X 191 60 (14, 0, 0) [l0, l1, l2, l3, l4] (ab_I z :: st) σ Q ↔ (!ab_isJ l2) = true ∧ ab_Run X 191 61 (14, 0, 0) [l0, l1, l2, ab_I z, l4] st σ Q := ab_r_istore_n (Nat.le_of_ble_eq_true rfl) kc_X13_readBone dX13_readBone_60
theorem rX13_readBone_61 : ab_Run X 191 61 (14, 0, 0) [l0, l1, l2, ab_I z, l4] st σ Q ↔ ab_Run X 191 62 (14, 0, 0) [l0, l1, l2, ab_I z, l4] (ab_I z :: st) σ Q := ab_r_iload_n rfl kc_X13_readBone dX13_readBone_61
theorem rX13_readBone_62 : ab_Run X 191 62 (14, 0, 0) L st σ Q ↔ ab_Run X 191 63 (14, 0, 0) L (ab_I (-1) :: st) σ Q := ab_r_iconst (by decide) kc_X13_readBone dX13_readBone_62
theorem rX13_readBone_63 : ab_Run X 191 63 (14, 0, 0) L (ab_I b :: ab_I a :: st) σ Q ↔ (¬ a = b → ab_Run X 191 71 (14, 0, 0) L st σ Q) ∧ (¬ (¬ a = b) → ab_Run X 191 66 (14, 0, 0) L st σ Q) := ab_r_icmp_ne rfl kc_X13_readBone dX13_readBone_63
theorem rX13_readBone_66 : ab_Run X 191 66 (14, 0, 0) [ab_R z, l1, l2, l3, l4] st σ Q ↔ z ≠ 0 ∧ ab_Run X 191 67 (14, 0, 0) [ab_R z, l1, l2, l3, l4] (ab_R z :: st) σ Q := ab_r_aload_n rfl kc_X13_readBone dX13_readBone_66
theorem rX13_readBone_67 : ab_Run X 191 67 (14, 0, 0) L st σ Q ↔ ab_Run X 191 68 (14, 0, 0) L (ab_I 1 :: st) σ Q := ab_r_iconst (by decide) kc_X13_readBone dX13_readBone_67
theorem rX13_readBone_68 : ab_Run X 191 68 (14, 0, 0) L (ab_I x1 :: ab_R a :: st) σ Q ↔ ((ab_sh σ a).1 = 14 ∧ ab_cats st ≤ 8) ∧ ab_Do X 172 [ab_R a, ab_I x1] σ (fun r σ' => ab_Run X 191 71 (14, 0, 0) L (ab_psh r st) σ' Q) := ab_r_callV (w := [ab_I x1]) (as := [ab_I x1]) (b1 := (0, 0, 0)) 0 (Or.inl rfl) (by decide) ko_X13_readBone qM_13_134 (by decide) rfl rfl rfl rfl rfl (by decide) (Nat.le_of_ble_eq_true rfl) kc_X13_readBone dX13_readBone_68
theorem rX13_readBone_71 : ab_Run X 191 71 (14, 0, 0) [ab_R z, l1, l2, l3, l4] st σ Q ↔ z ≠ 0 ∧ ab_Run X 191 72 (14, 0, 0) [ab_R z, l1, l2, l3, l4] (ab_R z :: st) σ Q := ab_r_aload_n rfl kc_X13_readBone dX13_readBone_71
theorem rX13_readBone_72 : ab_Run X 191 72 (14, 0, 0) L (ab_R a :: st) σ Q ↔ ((ab_sh σ a).1 = 14 ∧ ab_cats st ≤ 8) ∧ ab_Do X 171 [ab_R a] σ (fun r σ' => ab_Run X 191 75 (14, 0, 0) L (ab_psh r st) σ' Q) := ab_r_callV (w := []) (as := []) (b1 := (1, 0, 0)) 0 (Or.inl rfl) (by decide) ko_X13_readBone qM_13_127 (by decide) rfl rfl rfl rfl rfl (by decide) (Nat.le_of_ble_eq_true rfl) kc_X13_readBone dX13_readBone_72
theorem rX13_readBone_75 : ab_Run X 191 75 (14, 0, 0) [ab_R z, l1, l2, l3, l4] st σ Q ↔ z ≠ 0 ∧ ab_Run X 191 76 (14, 0, 0) [ab_R z, l1, l2, l3, l4] (ab_R z :: st) σ Q := ab_r_aload_n rfl kc_X13_readBone dX13_readBone_75
theorem rX13_readBone_76 : ab_Run X 191 76 (14, 0, 0) L st σ Q ↔ ab_Run X 191 79 (14, 0, 0) L (ab_R (-20) :: st) σ Q := ab_r_ldc_wS (n := 18) rfl ko_X13_readBone (by decide +kernel) (by decide +kernel) rfl kc_X13_readBone dX13_readBone_76
theorem rX13_readBone_79 : ab_Run X 191 79 (14, 0, 0) L st σ Q ↔ ab_Run X 191 80 (14, 0, 0) L (ab_I 0 :: st) σ Q := ab_r_iconst (by decide) kc_X13_readBone dX13_readBone_79
theorem rX13_readBone_80 : ab_Run X 191 80 (14, 0, 0) L st σ Q ↔ ab_Run X 191 82 (14, 0, 0) L (ab_I 24 :: st) σ Q := ab_r_bipush (by decide) kc_X13_readBone dX13_readBone_80
theorem rX13_readBone_82 : ab_Run X 191 82 (14, 0, 0) L (ab_I x3 :: ab_I x2 :: ab_R x1 :: ab_R a :: st) σ Q ↔ ((ab_sh σ a).1 = 14 ∧ ab_cats st ≤ 8) ∧ ab_Do X 179 [ab_R a, ab_R x1, ab_I x2, ab_I x3] σ (fun r σ' => ab_Run X 191 85 (14, 0, 0) L (ab_psh r st) σ' Q) := ab_r_callV (w := [ab_I x3, ab_I x2, ab_R x1]) (as := [ab_R x1, ab_I x2, ab_I x3]) (b1 := (13, 0, 0)) 0 (Or.inl rfl) (by decide) ko_X13_readBone qM_13_239 (by decide) rfl rfl rfl rfl rfl (by decide) (Nat.le_of_ble_eq_true rfl) kc_X13_readBone dX13_readBone_82
theorem rX13_readBone_85 : ab_Run X 191 85 (14, 0, 0) [l0, l1, l2, l3, l4] (ab_I z :: st) σ Q ↔ (!ab_isJ l3) = true ∧ ab_Run X 191 87 (14, 0, 0) [l0, l1, l2, l3, ab_I z] st σ Q := ab_r_istore (Nat.le_of_ble_eq_true rfl) kc_X13_readBone dX13_readBone_85
theorem rX13_readBone_87 : ab_Run X 191 87 (14, 0, 0) [ab_R z, l1, l2, l3, l4] st σ Q ↔ z ≠ 0 ∧ ab_Run X 191 88 (14, 0, 0) [ab_R z, l1, l2, l3, l4] (ab_R z :: st) σ Q := ab_r_aload_n rfl kc_X13_readBone dX13_readBone_87
theorem rX13_readBone_88 : ab_Run X 191 88 (14, 0, 0) L st σ Q ↔ ab_Run X 191 89 (14, 0, 0) L (ab_I 0 :: st) σ Q := ab_r_iconst (by decide) kc_X13_readBone dX13_readBone_88
theorem rX13_readBone_89 : ab_Run X 191 89 (14, 0, 0) L (ab_I x1 :: ab_R a :: st) σ Q ↔ ((ab_sh σ a).1 = 14 ∧ ab_cats st ≤ 8) ∧ ab_Do X 190 [ab_R a, ab_I x1] σ (fun r σ' => ab_Run X 191 92 (14, 0, 0) L (ab_psh r st) σ' Q) := ab_r_callV (w := [ab_I x1]) (as := [ab_I x1]) (b1 := (13, 0, 0)) 0 (Or.inl rfl) (by decide) ko_X13_readBone qM_13_282 (by decide) rfl rfl rfl rfl rfl (by decide) (Nat.le_of_ble_eq_true rfl) kc_X13_readBone dX13_readBone_89
theorem rX13_readBone_92 : ab_Run X 191 92 (14, 0, 0) [ab_R z, l1, l2, l3, l4] st σ Q ↔ z ≠ 0 ∧ ab_Run X 191 93 (14, 0, 0) [ab_R z, l1, l2, l3, l4] (ab_R z :: st) σ Q := ab_r_aload_n rfl kc_X13_readBone dX13_readBone_92
theorem rX13_readBone_93 : ab_Run X 191 93 (14, 0, 0) L st σ Q ↔ ab_Run X 191 94 (14, 0, 0) L (ab_I 1 :: st) σ Q := ab_r_iconst (by decide) kc_X13_readBone dX13_readBone_93
theorem rX13_readBone_94 : ab_Run X 191 94 (14, 0, 0) L (ab_I x1 :: ab_R a :: st) σ Q ↔ ((ab_sh σ a).1 = 14 ∧ ab_cats st ≤ 8) ∧ ab_Do X 190 [ab_R a, ab_I x1] σ (fun r σ' => ab_Run X 191 97 (14, 0, 0) L (ab_psh r st) σ' Q) := ab_r_callV (w := [ab_I x1]) (as := [ab_I x1]) (b1 := (13, 0, 0)) 0 (Or.inl rfl) (by decide) ko_X13_readBone qM_13_282 (by decide) rfl rfl rfl rfl rfl (by decide) (Nat.le_of_ble_eq_true rfl) kc_X13_readBone dX13_readBone_94
theorem rX13_readBone_97 : ab_Run X 191 97 (14, 0, 0) [ab_R z, l1, l2, l3, l4] st σ Q ↔ z ≠ 0 ∧ ab_Run X 191 98 (14, 0, 0) [ab_R z, l1, l2, l3, l4] (ab_R z :: st) σ Q := ab_r_aload_n rfl kc_X13_readBone dX13_readBone_97
theorem rX13_readBone_98 : ab_Run X 191 98 (14, 0, 0) L (ab_R a :: st) σ Q ↔ (ab_sh σ a).1 = 14 ∧ ab_Run X 191 101 (14, 0, 0) L (ab_I (ab_rd σ a 9) :: st) σ Q := gF_13_85 ko_X13_readBone kc_X13_readBone dX13_readBone_98
theorem rX13_readBone_101 : ab_Run X 191 101 (14, 0, 0) L st σ Q ↔ ab_Run X 191 102 (14, 0, 0) L (ab_I 5 :: st) σ Q := ab_r_iconst (by decide) kc_X13_readBone dX13_readBone_101
theorem rX13_readBone_102 : ab_Run X 191 102 (14, 0, 0) L (ab_I b :: ab_I a :: st) σ Q ↔ (¬ a = b → ab_Run X 191 106 (14, 0, 0) L st σ Q) ∧ (¬ (¬ a = b) → ab_Run X 191 105 (14, 0, 0) L st σ Q) := ab_r_icmp_ne rfl kc_X13_readBone dX13_readBone_102
theorem rX13_readBone_105 : ab_Run X 191 105 (14, 0, 0) L [] σ Q ↔ Q none σ := ab_r_return rfl kc_X13_readBone dX13_readBone_105
theorem rX13_readBone_106 : ab_Run X 191 106 (14, 0, 0) [ab_R z, l1, l2, l3, l4] st σ Q ↔ z ≠ 0 ∧ ab_Run X 191 107 (14, 0, 0) [ab_R z, l1, l2, l3, l4] (ab_R z :: st) σ Q := ab_r_aload_n rfl kc_X13_readBone dX13_readBone_106
theorem rX13_readBone_107 : ab_Run X 191 107 (14, 0, 0) [l0, ab_J z, l2, l3, l4] st σ Q ↔ ab_Run X 191 108 (14, 0, 0) [l0, ab_J z, l2, l3, l4] (ab_J z :: st) σ Q := ab_r_lload_n rfl kc_X13_readBone dX13_readBone_107
theorem rX13_readBone_108 : ab_Run X 191 108 (14, 0, 0) L st σ Q ↔ ab_Run X 191 109 (14, 0, 0) L (ab_I 1 :: st) σ Q := ab_r_iconst (by decide) kc_X13_readBone dX13_readBone_108
theorem rX13_readBone_109 : ab_Run X 191 109 (14, 0, 0) [ab_R z, l1, l2, l3, l4] st σ Q ↔ z ≠ 0 ∧ ab_Run X 191 110 (14, 0, 0) [ab_R z, l1, l2, l3, l4] (ab_R z :: st) σ Q := ab_r_aload_n rfl kc_X13_readBone dX13_readBone_109
theorem rX13_readBone_110 : ab_Run X 191 110 (14, 0, 0) L (ab_R a :: st) σ Q ↔ (ab_sh σ a).1 = 14 ∧ ab_Run X 191 113 (14, 0, 0) L (ab_R (ab_rd σ a 4) :: st) σ Q := gF_13_171 ko_X13_readBone kc_X13_readBone dX13_readBone_110
theorem rX13_readBone_113 : ab_Run X 191 113 (14, 0, 0) L (ab_R a :: st) σ Q ↔ (ab_sh σ a).1 = 13 ∧ ab_Run X 191 116 (14, 0, 0) L (ab_I (ab_rd σ a 5) :: st) σ Q := gF_13_210 ko_X13_readBone kc_X13_readBone dX13_readBone_113
theorem rX13_readBone_116 : ab_Run X 191 116 (14, 0, 0) L (ab_I x3 :: ab_I x2 :: ab_J x1 :: ab_R a :: st) σ Q ↔ ((ab_sh σ a).1 = 14 ∧ ab_cats st ≤ 8) ∧ ab_Do X 183 [ab_R a, ab_J x1, ab_I x2, ab_I x3] σ (fun r σ' => ab_Run X 191 119 (14, 0, 0) L (ab_psh r st) σ' Q) := ab_r_callV (w := [ab_I x3, ab_I x2, ab_J x1]) (as := [ab_J x1, ab_I x2, ab_I x3]) (b1 := (0, 0, 0)) 0 (Or.inl rfl) (by decide) ko_X13_readBone qM_13_285 (by decide) rfl rfl rfl rfl rfl (by decide) (Nat.le_of_ble_eq_true rfl) kc_X13_readBone dX13_readBone_116
theorem rX13_readBone_119 : ab_Run X 191 119 (14, 0, 0) [ab_R z, l1, l2, l3, l4] st σ Q ↔ z ≠ 0 ∧ ab_Run X 191 120 (14, 0, 0) [ab_R z, l1, l2, l3, l4] (ab_R z :: st) σ Q := ab_r_aload_n rfl kc_X13_readBone dX13_readBone_119
theorem rX13_readBone_120 : ab_Run X 191 120 (14, 0, 0) L (ab_R a :: st) σ Q ↔ (ab_sh σ a).1 = 14 ∧ ab_Run X 191 123 (14, 0, 0) L (ab_R (ab_rd σ a 4) :: st) σ Q := gF_13_171 ko_X13_readBone kc_X13_readBone dX13_readBone_120
theorem rX13_readBone_123 : ab_Run X 191 123 (14, 0, 0) L (ab_R a :: st) σ Q ↔ (ab_sh σ a).1 = 13 ∧ ab_Run X 191 126 (14, 0, 0) L (ab_R (ab_rd σ a 12) :: st) σ Q := gF_13_288 ko_X13_readBone kc_X13_readBone dX13_readBone_123
theorem rX13_readBone_126 : ab_Run X 191 126 (14, 0, 0) [ab_R z, l1, l2, l3, l4] st σ Q ↔ z ≠ 0 ∧ ab_Run X 191 127 (14, 0, 0) [ab_R z, l1, l2, l3, l4] (ab_R z :: st) σ Q := ab_r_aload_n rfl kc_X13_readBone dX13_readBone_126
theorem rX13_readBone_127 : ab_Run X 191 127 (14, 0, 0) L (ab_R a :: st) σ Q ↔ (ab_sh σ a).1 = 14 ∧ ab_Run X 191 130 (14, 0, 0) L (ab_R (ab_rd σ a 4) :: st) σ Q := gF_13_171 ko_X13_readBone kc_X13_readBone dX13_readBone_127
theorem rX13_readBone_130 : ab_Run X 191 130 (14, 0, 0) L (ab_R a :: st) σ Q ↔ (ab_sh σ a).1 = 13 ∧ ab_Run X 191 133 (14, 0, 0) L (ab_I (ab_rd σ a 5) :: st) σ Q := gF_13_210 ko_X13_readBone kc_X13_readBone dX13_readBone_130
theorem rX13_readBone_133 : ab_Run X 191 133 (14, 0, 0) [l0, l1, l2, ab_I z, l4] st σ Q ↔ ab_Run X 191 134 (14, 0, 0) [l0, l1, l2, ab_I z, l4] (ab_I z :: st) σ Q := ab_r_iload_n rfl kc_X13_readBone dX13_readBone_133
theorem rX13_readBone_134 : ab_Run X 191 134 (14, 0, 0) L (ab_I v :: ab_I i :: ab_R a :: st) σ Q ↔ ((ab_sh σ a).1 = 21 ∧ 0 ≤ i ∧ i < (ab_sh σ a).2) ∧ ab_Run X 191 135 (14, 0, 0) L st (ab_wr σ a i v) Q := ab_r_iastore kc_X13_readBone dX13_readBone_134
theorem rX13_readBone_135 : ab_Run X 191 135 (14, 0, 0) [ab_R z, l1, l2, l3, l4] st σ Q ↔ z ≠ 0 ∧ ab_Run X 191 136 (14, 0, 0) [ab_R z, l1, l2, l3, l4] (ab_R z :: st) σ Q := ab_r_aload_n rfl kc_X13_readBone dX13_readBone_135
theorem rX13_readBone_136 : ab_Run X 191 136 (14, 0, 0) L (ab_R a :: st) σ Q ↔ (ab_sh σ a).1 = 14 ∧ ab_Run X 191 139 (14, 0, 0) L (ab_R (ab_rd σ a 4) :: st) σ Q := gF_13_171 ko_X13_readBone kc_X13_readBone dX13_readBone_136
theorem rX13_readBone_139 : ab_Run X 191 139 (14, 0, 0) L (ab_R a :: st) σ Q ↔ (ab_sh σ a).1 = 13 ∧ ab_Run X 191 142 (14, 0, 0) L (ab_R (ab_rd σ a 13) :: st) σ Q := gF_13_291 ko_X13_readBone kc_X13_readBone dX13_readBone_139
theorem rX13_readBone_142 : ab_Run X 191 142 (14, 0, 0) [ab_R z, l1, l2, l3, l4] st σ Q ↔ z ≠ 0 ∧ ab_Run X 191 143 (14, 0, 0) [ab_R z, l1, l2, l3, l4] (ab_R z :: st) σ Q := ab_r_aload_n rfl kc_X13_readBone dX13_readBone_142
theorem rX13_readBone_143 : ab_Run X 191 143 (14, 0, 0) L (ab_R a :: st) σ Q ↔ (ab_sh σ a).1 = 14 ∧ ab_Run X 191 146 (14, 0, 0) L (ab_R (ab_rd σ a 4) :: st) σ Q := gF_13_171 ko_X13_readBone kc_X13_readBone dX13_readBone_143
theorem rX13_readBone_146 : ab_Run X 191 146 (14, 0, 0) L (ab_R a :: st) σ Q ↔ (ab_sh σ a).1 = 13 ∧ ab_Run X 191 149 (14, 0, 0) L (ab_I (ab_rd σ a 5) :: st) σ Q := gF_13_210 ko_X13_readBone kc_X13_readBone dX13_readBone_146
theorem rX13_readBone_149 : ab_Run X 191 149 (14, 0, 0) [l0, l1, l2, l3, ab_I z] st σ Q ↔ ab_Run X 191 151 (14, 0, 0) [l0, l1, l2, l3, ab_I z] (ab_I z :: st) σ Q := ab_r_iload rfl kc_X13_readBone dX13_readBone_149
theorem rX13_readBone_151 : ab_Run X 191 151 (14, 0, 0) L (ab_I v :: ab_I i :: ab_R a :: st) σ Q ↔ ((ab_sh σ a).1 = 21 ∧ 0 ≤ i ∧ i < (ab_sh σ a).2) ∧ ab_Run X 191 152 (14, 0, 0) L st (ab_wr σ a i v) Q := ab_r_iastore kc_X13_readBone dX13_readBone_151
theorem rX13_readBone_152 : ab_Run X 191 152 (14, 0, 0) [ab_R z, l1, l2, l3, l4] st σ Q ↔ z ≠ 0 ∧ ab_Run X 191 153 (14, 0, 0) [ab_R z, l1, l2, l3, l4] (ab_R z :: st) σ Q := ab_r_aload_n rfl kc_X13_readBone dX13_readBone_152
theorem rX13_readBone_153 : ab_Run X 191 153 (14, 0, 0) L (ab_R a :: st) σ Q ↔ (ab_sh σ a).1 = 14 ∧ ab_Run X 191 156 (14, 0, 0) L (ab_R (ab_rd σ a 4) :: st) σ Q := gF_13_171 ko_X13_readBone kc_X13_readBone dX13_readBone_153
theorem rX13_readBone_156I : ab_Run X 191 156 (14, 0, 0) L (ab_I a :: st) σ Q ↔ ab_Run X 191 157 (14, 0, 0) L (ab_I a :: ab_I a :: st) σ Q := ab_r_dupI kc_X13_readBone dX13_readBone_156
theorem rX13_readBone_156R : ab_Run X 191 156 (14, 0, 0) L (ab_R a :: st) σ Q ↔ ab_Run X 191 157 (14, 0, 0) L (ab_R a :: ab_R a :: st) σ Q := ab_r_dupR kc_X13_readBone dX13_readBone_156
theorem rX13_readBone_157 : ab_Run X 191 157 (14, 0, 0) L (ab_R a :: st) σ Q ↔ (ab_sh σ a).1 = 13 ∧ ab_Run X 191 160 (14, 0, 0) L (ab_I (ab_rd σ a 5) :: st) σ Q := gF_13_210 ko_X13_readBone kc_X13_readBone dX13_readBone_157
theorem rX13_readBone_160 : ab_Run X 191 160 (14, 0, 0) L st σ Q ↔ ab_Run X 191 161 (14, 0, 0) L (ab_I 1 :: st) σ Q := ab_r_iconst (by decide) kc_X13_readBone dX13_readBone_160
theorem rX13_readBone_161 : ab_Run X 191 161 (14, 0, 0) L (ab_I b :: ab_I a :: st) σ Q ↔ ab_Run X 191 162 (14, 0, 0) L (ab_I (ab_w32 (a + b)) :: st) σ Q := ab_r_iadd kc_X13_readBone dX13_readBone_161
theorem rX13_readBone_162 : ab_Run X 191 162 (14, 0, 0) L (ab_I z :: ab_R a :: st) σ Q ↔ (ab_sh σ a).1 = 13 ∧ ab_Run X 191 165 (14, 0, 0) L st (ab_wr σ a 5 z) Q := sF_13_210 ko_X13_readBone kc_X13_readBone dX13_readBone_162
theorem rX13_readBone_165 : ab_Run X 191 165 (14, 0, 0) L [] σ Q ↔ Q none σ := ab_r_return rfl kc_X13_readBone dX13_readBone_165
theorem kc_X13_readPersonLine : ab_code 192 = cX13_readPersonLine := rfl
theorem ko_X13_readPersonLine : ab_ow 192 = 13 := rfl
theorem rX13_readPersonLine_0 : ab_Run X 192 0 (14, 0, 0) [ab_R z, l1, l2, l3, l4, l5, l6, l7] st σ Q ↔ z ≠ 0 ∧ ab_Run X 192 1 (14, 0, 0) [ab_R z, l1, l2, l3, l4, l5, l6, l7] (ab_R z :: st) σ Q := ab_r_aload_n rfl kc_X13_readPersonLine dX13_readPersonLine_0
theorem rX13_readPersonLine_1 : ab_Run X 192 1 (14, 0, 0) [ab_R z, l1, l2, l3, l4, l5, l6, l7] st σ Q ↔ z ≠ 0 ∧ ab_Run X 192 2 (14, 0, 0) [ab_R z, l1, l2, l3, l4, l5, l6, l7] (ab_R z :: st) σ Q := ab_r_aload_n rfl kc_X13_readPersonLine dX13_readPersonLine_1
theorem rX13_readPersonLine_2 : ab_Run X 192 2 (14, 0, 0) L (ab_R a :: st) σ Q ↔ (ab_sh σ a).1 = 14 ∧ ab_Run X 192 5 (14, 0, 0) L (ab_R (ab_rd σ a 4) :: st) σ Q := gF_13_171 ko_X13_readPersonLine kc_X13_readPersonLine dX13_readPersonLine_2
theorem rX13_readPersonLine_5 : ab_Run X 192 5 (14, 0, 0) L (ab_R a :: st) σ Q ↔ (ab_sh σ a).1 = 13 ∧ ab_Run X 192 8 (14, 0, 0) L (ab_I (ab_rd σ a 6) :: st) σ Q := gF_13_213 ko_X13_readPersonLine kc_X13_readPersonLine dX13_readPersonLine_5
theorem rX13_readPersonLine_8 : ab_Run X 192 8 (14, 0, 0) L st σ Q ↔ ab_Run X 192 10 (14, 0, 0) L (ab_I 6 :: st) σ Q := ab_r_bipush (by decide) kc_X13_readPersonLine dX13_readPersonLine_8
theorem rX13_readPersonLine_10 : ab_Run X 192 10 (14, 0, 0) L (ab_I x2 :: ab_I x1 :: ab_R a :: st) σ Q ↔ ((ab_sh σ a).1 = 14 ∧ ab_cats st ≤ 8) ∧ ab_Do X 181 [ab_R a, ab_I x1, ab_I x2] σ (fun r σ' => ab_Run X 192 13 (14, 0, 0) L (ab_psh r st) σ' Q) := ab_r_callV (w := [ab_I x2, ab_I x1]) (as := [ab_I x1, ab_I x2]) (b1 := (2, 0, 0)) 0 (Or.inl rfl) (by decide) ko_X13_readPersonLine qM_13_266 (by decide) rfl rfl rfl rfl rfl (by decide) (Nat.le_of_ble_eq_true rfl) kc_X13_readPersonLine dX13_readPersonLine_10
theorem rX13_readPersonLine_13 : ab_Run X 192 13 (14, 0, 0) [ab_R z, l1, l2, l3, l4, l5, l6, l7] st σ Q ↔ z ≠ 0 ∧ ab_Run X 192 14 (14, 0, 0) [ab_R z, l1, l2, l3, l4, l5, l6, l7] (ab_R z :: st) σ Q := ab_r_aload_n rfl kc_X13_readPersonLine dX13_readPersonLine_13
theorem rX13_readPersonLine_14 : ab_Run X 192 14 (14, 0, 0) L (ab_R a :: st) σ Q ↔ ((ab_sh σ a).1 = 14 ∧ ab_cats st ≤ 8) ∧ ab_Do X 182 [ab_R a] σ (fun r σ' => ab_Run X 192 17 (14, 0, 0) L (ab_psh r st) σ' Q) := ab_r_callV (w := []) (as := []) (b1 := (13, 0, 0)) 0 (Or.inl rfl) (by decide) ko_X13_readPersonLine qM_13_270 (by decide) rfl rfl rfl rfl rfl (by decide) (Nat.le_of_ble_eq_true rfl) kc_X13_readPersonLine dX13_readPersonLine_14
theorem rX13_readPersonLine_17 : ab_Run X 192 17 (14, 0, 0) [l0, l1, l2, l3, l4, l5, l6, l7] (ab_J z :: st) σ Q ↔ (!ab_isJ l0) = true ∧ ab_Run X 192 18 (14, 0, 0) [l0, ab_J z, ab_R 0, l3, l4, l5, l6, l7] st σ Q := ab_r_lstore_n (Nat.le_of_ble_eq_true rfl) kc_X13_readPersonLine dX13_readPersonLine_17
theorem rX13_readPersonLine_18 : ab_Run X 192 18 (14, 0, 0) [ab_R z, l1, l2, l3, l4, l5, l6, l7] st σ Q ↔ z ≠ 0 ∧ ab_Run X 192 19 (14, 0, 0) [ab_R z, l1, l2, l3, l4, l5, l6, l7] (ab_R z :: st) σ Q := ab_r_aload_n rfl kc_X13_readPersonLine dX13_readPersonLine_18
theorem rX13_readPersonLine_19 : ab_Run X 192 19 (14, 0, 0) L st σ Q ↔ ab_Run X 192 22 (14, 0, 0) L (ab_R (-21) :: st) σ Q := ab_r_ldc_wS (n := 19) rfl ko_X13_readPersonLine (by decide +kernel) (by decide +kernel) rfl kc_X13_readPersonLine dX13_readPersonLine_19
theorem rX13_readPersonLine_22 : ab_Run X 192 22 (14, 0, 0) L (ab_R x1 :: ab_R a :: st) σ Q ↔ ((ab_sh σ a).1 = 14 ∧ ab_cats st ≤ 8) ∧ ab_Do X 173 [ab_R a, ab_R x1] σ (fun r σ' => ab_Run X 192 25 (14, 0, 0) L (ab_psh r st) σ' Q) := ab_r_callV (w := [ab_R x1]) (as := [ab_R x1]) (b1 := (11, 0, 0)) 0 (Or.inl rfl) (by decide) ko_X13_readPersonLine qM_13_130 (by decide) rfl rfl rfl rfl rfl (by decide) (Nat.le_of_ble_eq_true rfl) kc_X13_readPersonLine dX13_readPersonLine_22
theorem rX13_readPersonLine_25 : ab_Run X 192 25 (14, 0, 0) L (ab_I a :: st) σ Q ↔ (a = 0 → ab_Run X 192 32 (14, 0, 0) L st σ Q) ∧ (¬ (a = 0) → ab_Run X 192 28 (14, 0, 0) L st σ Q) := ab_r_if_eq rfl kc_X13_readPersonLine dX13_readPersonLine_25
theorem rX13_readPersonLine_28 : ab_Run X 192 28 (14, 0, 0) L st σ Q ↔ ab_Run X 192 29 (14, 0, 0) L (ab_I 0 :: st) σ Q := ab_r_iconst (by decide) kc_X13_readPersonLine dX13_readPersonLine_28
theorem rX13_readPersonLine_29 : ab_Run X 192 29 (14, 0, 0) L st σ Q ↔ ab_Run X 192 75 (14, 0, 0) L st σ Q := ab_r_goto rfl kc_X13_readPersonLine dX13_readPersonLine_29
theorem rX13_readPersonLine_32 : ab_Run X 192 32 (14, 0, 0) [ab_R z, l1, l2, l3, l4, l5, l6, l7] st σ Q ↔ z ≠ 0 ∧ ab_Run X 192 33 (14, 0, 0) [ab_R z, l1, l2, l3, l4, l5, l6, l7] (ab_R z :: st) σ Q := ab_r_aload_n rfl kc_X13_readPersonLine dX13_readPersonLine_32
theorem rX13_readPersonLine_33 : ab_Run X 192 33 (14, 0, 0) L st σ Q ↔ ab_Run X 192 36 (14, 0, 0) L (ab_R (-22) :: st) σ Q := ab_r_ldc_wS (n := 20) rfl ko_X13_readPersonLine (by decide +kernel) (by decide +kernel) rfl kc_X13_readPersonLine dX13_readPersonLine_33
theorem rX13_readPersonLine_36 : ab_Run X 192 36 (14, 0, 0) L (ab_R x1 :: ab_R a :: st) σ Q ↔ ((ab_sh σ a).1 = 14 ∧ ab_cats st ≤ 8) ∧ ab_Do X 173 [ab_R a, ab_R x1] σ (fun r σ' => ab_Run X 192 39 (14, 0, 0) L (ab_psh r st) σ' Q) := ab_r_callV (w := [ab_R x1]) (as := [ab_R x1]) (b1 := (11, 0, 0)) 0 (Or.inl rfl) (by decide) ko_X13_readPersonLine qM_13_130 (by decide) rfl rfl rfl rfl rfl (by decide) (Nat.le_of_ble_eq_true rfl) kc_X13_readPersonLine dX13_readPersonLine_36
theorem rX13_readPersonLine_39 : ab_Run X 192 39 (14, 0, 0) L (ab_I a :: st) σ Q ↔ (a = 0 → ab_Run X 192 46 (14, 0, 0) L st σ Q) ∧ (¬ (a = 0) → ab_Run X 192 42 (14, 0, 0) L st σ Q) := ab_r_if_eq rfl kc_X13_readPersonLine dX13_readPersonLine_39
theorem rX13_readPersonLine_42 : ab_Run X 192 42 (14, 0, 0) L st σ Q ↔ ab_Run X 192 43 (14, 0, 0) L (ab_I 1 :: st) σ Q := ab_r_iconst (by decide) kc_X13_readPersonLine dX13_readPersonLine_42
theorem rX13_readPersonLine_43 : ab_Run X 192 43 (14, 0, 0) L st σ Q ↔ ab_Run X 192 75 (14, 0, 0) L st σ Q := ab_r_goto rfl kc_X13_readPersonLine dX13_readPersonLine_43
theorem rX13_readPersonLine_46 : ab_Run X 192 46 (14, 0, 0) [ab_R z, l1, l2, l3, l4, l5, l6, l7] st σ Q ↔ z ≠ 0 ∧ ab_Run X 192 47 (14, 0, 0) [ab_R z, l1, l2, l3, l4, l5, l6, l7] (ab_R z :: st) σ Q := ab_r_aload_n rfl kc_X13_readPersonLine dX13_readPersonLine_46
theorem rX13_readPersonLine_47 : ab_Run X 192 47 (14, 0, 0) L st σ Q ↔ ab_Run X 192 50 (14, 0, 0) L (ab_R (-23) :: st) σ Q := ab_r_ldc_wS (n := 21) rfl ko_X13_readPersonLine (by decide +kernel) (by decide +kernel) rfl kc_X13_readPersonLine dX13_readPersonLine_47
theorem rX13_readPersonLine_50 : ab_Run X 192 50 (14, 0, 0) L (ab_R x1 :: ab_R a :: st) σ Q ↔ ((ab_sh σ a).1 = 14 ∧ ab_cats st ≤ 8) ∧ ab_Do X 173 [ab_R a, ab_R x1] σ (fun r σ' => ab_Run X 192 53 (14, 0, 0) L (ab_psh r st) σ' Q) := ab_r_callV (w := [ab_R x1]) (as := [ab_R x1]) (b1 := (11, 0, 0)) 0 (Or.inl rfl) (by decide) ko_X13_readPersonLine qM_13_130 (by decide) rfl rfl rfl rfl rfl (by decide) (Nat.le_of_ble_eq_true rfl) kc_X13_readPersonLine dX13_readPersonLine_50
theorem rX13_readPersonLine_53 : ab_Run X 192 53 (14, 0, 0) L (ab_I a :: st) σ Q ↔ (a = 0 → ab_Run X 192 60 (14, 0, 0) L st σ Q) ∧ (¬ (a = 0) → ab_Run X 192 56 (14, 0, 0) L st σ Q) := ab_r_if_eq rfl kc_X13_readPersonLine dX13_readPersonLine_53
theorem rX13_readPersonLine_56 : ab_Run X 192 56 (14, 0, 0) L st σ Q ↔ ab_Run X 192 57 (14, 0, 0) L (ab_I 2 :: st) σ Q := ab_r_iconst (by decide) kc_X13_readPersonLine dX13_readPersonLine_56
theorem rX13_readPersonLine_57 : ab_Run X 192 57 (14, 0, 0) L st σ Q ↔ ab_Run X 192 75 (14, 0, 0) L st σ Q := ab_r_goto rfl kc_X13_readPersonLine dX13_readPersonLine_57
theorem rX13_readPersonLine_60 : ab_Run X 192 60 (14, 0, 0) [ab_R z, l1, l2, l3, l4, l5, l6, l7] st σ Q ↔ z ≠ 0 ∧ ab_Run X 192 61 (14, 0, 0) [ab_R z, l1, l2, l3, l4, l5, l6, l7] (ab_R z :: st) σ Q := ab_r_aload_n rfl kc_X13_readPersonLine dX13_readPersonLine_60
theorem rX13_readPersonLine_61 : ab_Run X 192 61 (14, 0, 0) L st σ Q ↔ ab_Run X 192 64 (14, 0, 0) L (ab_R (-24) :: st) σ Q := ab_r_ldc_wS (n := 22) rfl ko_X13_readPersonLine (by decide +kernel) (by decide +kernel) rfl kc_X13_readPersonLine dX13_readPersonLine_61
theorem rX13_readPersonLine_64 : ab_Run X 192 64 (14, 0, 0) L (ab_R x1 :: ab_R a :: st) σ Q ↔ ((ab_sh σ a).1 = 14 ∧ ab_cats st ≤ 8) ∧ ab_Do X 173 [ab_R a, ab_R x1] σ (fun r σ' => ab_Run X 192 67 (14, 0, 0) L (ab_psh r st) σ' Q) := ab_r_callV (w := [ab_R x1]) (as := [ab_R x1]) (b1 := (11, 0, 0)) 0 (Or.inl rfl) (by decide) ko_X13_readPersonLine qM_13_130 (by decide) rfl rfl rfl rfl rfl (by decide) (Nat.le_of_ble_eq_true rfl) kc_X13_readPersonLine dX13_readPersonLine_64
theorem rX13_readPersonLine_67 : ab_Run X 192 67 (14, 0, 0) L (ab_I a :: st) σ Q ↔ (a = 0 → ab_Run X 192 74 (14, 0, 0) L st σ Q) ∧ (¬ (a = 0) → ab_Run X 192 70 (14, 0, 0) L st σ Q) := ab_r_if_eq rfl kc_X13_readPersonLine dX13_readPersonLine_67
theorem rX13_readPersonLine_70 : ab_Run X 192 70 (14, 0, 0) L st σ Q ↔ ab_Run X 192 71 (14, 0, 0) L (ab_I 3 :: st) σ Q := ab_r_iconst (by decide) kc_X13_readPersonLine dX13_readPersonLine_70
theorem rX13_readPersonLine_71 : ab_Run X 192 71 (14, 0, 0) L st σ Q ↔ ab_Run X 192 75 (14, 0, 0) L st σ Q := ab_r_goto rfl kc_X13_readPersonLine dX13_readPersonLine_71
theorem rX13_readPersonLine_74 : ab_Run X 192 74 (14, 0, 0) L st σ Q ↔ ab_Run X 192 75 (14, 0, 0) L (ab_I (-1) :: st) σ Q := ab_r_iconst (by decide) kc_X13_readPersonLine dX13_readPersonLine_74
theorem rX13_readPersonLine_75 : ab_Run X 192 75 (14, 0, 0) [l0, l1, l2, l3, l4, l5, l6, l7] (ab_I z :: st) σ Q ↔ (!ab_isJ l2) = true ∧ ab_Run X 192 76 (14, 0, 0) [l0, l1, l2, ab_I z, l4, l5, l6, l7] st σ Q := ab_r_istore_n (Nat.le_of_ble_eq_true rfl) kc_X13_readPersonLine dX13_readPersonLine_75
theorem rX13_readPersonLine_76 : ab_Run X 192 76 (14, 0, 0) [l0, l1, l2, ab_I z, l4, l5, l6, l7] st σ Q ↔ ab_Run X 192 77 (14, 0, 0) [l0, l1, l2, ab_I z, l4, l5, l6, l7] (ab_I z :: st) σ Q := ab_r_iload_n rfl kc_X13_readPersonLine dX13_readPersonLine_76
theorem rX13_readPersonLine_77 : ab_Run X 192 77 (14, 0, 0) L st σ Q ↔ ab_Run X 192 78 (14, 0, 0) L (ab_I (-1) :: st) σ Q := ab_r_iconst (by decide) kc_X13_readPersonLine dX13_readPersonLine_77
theorem rX13_readPersonLine_78 : ab_Run X 192 78 (14, 0, 0) L (ab_I b :: ab_I a :: st) σ Q ↔ (¬ a = b → ab_Run X 192 86 (14, 0, 0) L st σ Q) ∧ (¬ (¬ a = b) → ab_Run X 192 81 (14, 0, 0) L st σ Q) := ab_r_icmp_ne rfl kc_X13_readPersonLine dX13_readPersonLine_78
theorem rX13_readPersonLine_81 : ab_Run X 192 81 (14, 0, 0) [ab_R z, l1, l2, l3, l4, l5, l6, l7] st σ Q ↔ z ≠ 0 ∧ ab_Run X 192 82 (14, 0, 0) [ab_R z, l1, l2, l3, l4, l5, l6, l7] (ab_R z :: st) σ Q := ab_r_aload_n rfl kc_X13_readPersonLine dX13_readPersonLine_81
theorem rX13_readPersonLine_82 : ab_Run X 192 82 (14, 0, 0) L st σ Q ↔ ab_Run X 192 83 (14, 0, 0) L (ab_I 1 :: st) σ Q := ab_r_iconst (by decide) kc_X13_readPersonLine dX13_readPersonLine_82
theorem rX13_readPersonLine_83 : ab_Run X 192 83 (14, 0, 0) L (ab_I x1 :: ab_R a :: st) σ Q ↔ ((ab_sh σ a).1 = 14 ∧ ab_cats st ≤ 8) ∧ ab_Do X 172 [ab_R a, ab_I x1] σ (fun r σ' => ab_Run X 192 86 (14, 0, 0) L (ab_psh r st) σ' Q) := ab_r_callV (w := [ab_I x1]) (as := [ab_I x1]) (b1 := (0, 0, 0)) 0 (Or.inl rfl) (by decide) ko_X13_readPersonLine qM_13_134 (by decide) rfl rfl rfl rfl rfl (by decide) (Nat.le_of_ble_eq_true rfl) kc_X13_readPersonLine dX13_readPersonLine_83
theorem rX13_readPersonLine_86 : ab_Run X 192 86 (14, 0, 0) [ab_R z, l1, l2, l3, l4, l5, l6, l7] st σ Q ↔ z ≠ 0 ∧ ab_Run X 192 87 (14, 0, 0) [ab_R z, l1, l2, l3, l4, l5, l6, l7] (ab_R z :: st) σ Q := ab_r_aload_n rfl kc_X13_readPersonLine dX13_readPersonLine_86
theorem rX13_readPersonLine_87 : ab_Run X 192 87 (14, 0, 0) L (ab_R a :: st) σ Q ↔ ((ab_sh σ a).1 = 14 ∧ ab_cats st ≤ 8) ∧ ab_Do X 171 [ab_R a] σ (fun r σ' => ab_Run X 192 90 (14, 0, 0) L (ab_psh r st) σ' Q) := ab_r_callV (w := []) (as := []) (b1 := (1, 0, 0)) 0 (Or.inl rfl) (by decide) ko_X13_readPersonLine qM_13_127 (by decide) rfl rfl rfl rfl rfl (by decide) (Nat.le_of_ble_eq_true rfl) kc_X13_readPersonLine dX13_readPersonLine_87
theorem rX13_readPersonLine_90 : ab_Run X 192 90 (14, 0, 0) [ab_R z, l1, l2, l3, l4, l5, l6, l7] st σ Q ↔ z ≠ 0 ∧ ab_Run X 192 91 (14, 0, 0) [ab_R z, l1, l2, l3, l4, l5, l6, l7] (ab_R z :: st) σ Q := ab_r_aload_n rfl kc_X13_readPersonLine dX13_readPersonLine_90
theorem rX13_readPersonLine_91 : ab_Run X 192 91 (14, 0, 0) L st σ Q ↔ ab_Run X 192 94 (14, 0, 0) L (ab_R (-25) :: st) σ Q := ab_r_ldc_wS (n := 23) rfl ko_X13_readPersonLine (by decide +kernel) (by decide +kernel) rfl kc_X13_readPersonLine dX13_readPersonLine_91
theorem rX13_readPersonLine_94 : ab_Run X 192 94 (14, 0, 0) L st σ Q ↔ ab_Run X 192 95 (14, 0, 0) L (ab_I 1 :: st) σ Q := ab_r_iconst (by decide) kc_X13_readPersonLine dX13_readPersonLine_94
theorem rX13_readPersonLine_95 : ab_Run X 192 95 (14, 0, 0) L st σ Q ↔ ab_Run X 192 97 (14, 0, 0) L (ab_I 40 :: st) σ Q := ab_r_bipush (by decide) kc_X13_readPersonLine dX13_readPersonLine_95
theorem rX13_readPersonLine_97 : ab_Run X 192 97 (14, 0, 0) L (ab_I x3 :: ab_I x2 :: ab_R x1 :: ab_R a :: st) σ Q ↔ ((ab_sh σ a).1 = 14 ∧ ab_cats st ≤ 8) ∧ ab_Do X 179 [ab_R a, ab_R x1, ab_I x2, ab_I x3] σ (fun r σ' => ab_Run X 192 100 (14, 0, 0) L (ab_psh r st) σ' Q) := ab_r_callV (w := [ab_I x3, ab_I x2, ab_R x1]) (as := [ab_R x1, ab_I x2, ab_I x3]) (b1 := (13, 0, 0)) 0 (Or.inl rfl) (by decide) ko_X13_readPersonLine qM_13_239 (by decide) rfl rfl rfl rfl rfl (by decide) (Nat.le_of_ble_eq_true rfl) kc_X13_readPersonLine dX13_readPersonLine_97
theorem rX13_readPersonLine_100 : ab_Run X 192 100 (14, 0, 0) [l0, l1, l2, l3, l4, l5, l6, l7] (ab_I z :: st) σ Q ↔ (!ab_isJ l3) = true ∧ ab_Run X 192 102 (14, 0, 0) [l0, l1, l2, l3, ab_I z, l5, l6, l7] st σ Q := ab_r_istore (Nat.le_of_ble_eq_true rfl) kc_X13_readPersonLine dX13_readPersonLine_100
theorem rX13_readPersonLine_102 : ab_Run X 192 102 (14, 0, 0) [ab_R z, l1, l2, l3, l4, l5, l6, l7] st σ Q ↔ z ≠ 0 ∧ ab_Run X 192 103 (14, 0, 0) [ab_R z, l1, l2, l3, l4, l5, l6, l7] (ab_R z :: st) σ Q := ab_r_aload_n rfl kc_X13_readPersonLine dX13_readPersonLine_102
theorem rX13_readPersonLine_103 : ab_Run X 192 103 (14, 0, 0) L st σ Q ↔ ab_Run X 192 106 (14, 0, 0) L (ab_R (-26) :: st) σ Q := ab_r_ldc_wS (n := 24) rfl ko_X13_readPersonLine (by decide +kernel) (by decide +kernel) rfl kc_X13_readPersonLine dX13_readPersonLine_103
theorem rX13_readPersonLine_106 : ab_Run X 192 106 (14, 0, 0) L st σ Q ↔ ab_Run X 192 107 (14, 0, 0) L (ab_I 1 :: st) σ Q := ab_r_iconst (by decide) kc_X13_readPersonLine dX13_readPersonLine_106
theorem rX13_readPersonLine_107 : ab_Run X 192 107 (14, 0, 0) L st σ Q ↔ ab_Run X 192 109 (14, 0, 0) L (ab_I 6 :: st) σ Q := ab_r_bipush (by decide) kc_X13_readPersonLine dX13_readPersonLine_107
theorem rX13_readPersonLine_109 : ab_Run X 192 109 (14, 0, 0) L (ab_I x3 :: ab_I x2 :: ab_R x1 :: ab_R a :: st) σ Q ↔ ((ab_sh σ a).1 = 14 ∧ ab_cats st ≤ 8) ∧ ab_Do X 179 [ab_R a, ab_R x1, ab_I x2, ab_I x3] σ (fun r σ' => ab_Run X 192 112 (14, 0, 0) L (ab_psh r st) σ' Q) := ab_r_callV (w := [ab_I x3, ab_I x2, ab_R x1]) (as := [ab_R x1, ab_I x2, ab_I x3]) (b1 := (13, 0, 0)) 0 (Or.inl rfl) (by decide) ko_X13_readPersonLine qM_13_239 (by decide) rfl rfl rfl rfl rfl (by decide) (Nat.le_of_ble_eq_true rfl) kc_X13_readPersonLine dX13_readPersonLine_109
theorem rX13_readPersonLine_112 : ab_Run X 192 112 (14, 0, 0) [l0, l1, l2, l3, l4, l5, l6, l7] (ab_I z :: st) σ Q ↔ (!ab_isJ l4) = true ∧ ab_Run X 192 114 (14, 0, 0) [l0, l1, l2, l3, l4, ab_I z, l6, l7] st σ Q := ab_r_istore (Nat.le_of_ble_eq_true rfl) kc_X13_readPersonLine dX13_readPersonLine_112
theorem rX13_readPersonLine_114 : ab_Run X 192 114 (14, 0, 0) [ab_R z, l1, l2, l3, l4, l5, l6, l7] st σ Q ↔ z ≠ 0 ∧ ab_Run X 192 115 (14, 0, 0) [ab_R z, l1, l2, l3, l4, l5, l6, l7] (ab_R z :: st) σ Q := ab_r_aload_n rfl kc_X13_readPersonLine dX13_readPersonLine_114
theorem rX13_readPersonLine_115 : ab_Run X 192 115 (14, 0, 0) L st σ Q ↔ ab_Run X 192 118 (14, 0, 0) L (ab_R (-27) :: st) σ Q := ab_r_ldc_wS (n := 25) rfl ko_X13_readPersonLine (by decide +kernel) (by decide +kernel) rfl kc_X13_readPersonLine dX13_readPersonLine_115
theorem rX13_readPersonLine_118 : ab_Run X 192 118 (14, 0, 0) L st σ Q ↔ ab_Run X 192 119 (14, 0, 0) L (ab_I 0 :: st) σ Q := ab_r_iconst (by decide) kc_X13_readPersonLine dX13_readPersonLine_118
theorem rX13_readPersonLine_119 : ab_Run X 192 119 (14, 0, 0) L st σ Q ↔ ab_Run X 192 121 (14, 0, 0) L (ab_I 99 :: st) σ Q := ab_r_bipush (by decide) kc_X13_readPersonLine dX13_readPersonLine_119
theorem rX13_readPersonLine_121 : ab_Run X 192 121 (14, 0, 0) L (ab_I x3 :: ab_I x2 :: ab_R x1 :: ab_R a :: st) σ Q ↔ ((ab_sh σ a).1 = 14 ∧ ab_cats st ≤ 8) ∧ ab_Do X 179 [ab_R a, ab_R x1, ab_I x2, ab_I x3] σ (fun r σ' => ab_Run X 192 124 (14, 0, 0) L (ab_psh r st) σ' Q) := ab_r_callV (w := [ab_I x3, ab_I x2, ab_R x1]) (as := [ab_R x1, ab_I x2, ab_I x3]) (b1 := (13, 0, 0)) 0 (Or.inl rfl) (by decide) ko_X13_readPersonLine qM_13_239 (by decide) rfl rfl rfl rfl rfl (by decide) (Nat.le_of_ble_eq_true rfl) kc_X13_readPersonLine dX13_readPersonLine_121
theorem rX13_readPersonLine_124 : ab_Run X 192 124 (14, 0, 0) [l0, l1, l2, l3, l4, l5, l6, l7] (ab_I z :: st) σ Q ↔ (!ab_isJ l5) = true ∧ ab_Run X 192 126 (14, 0, 0) [l0, l1, l2, l3, l4, l5, ab_I z, l7] st σ Q := ab_r_istore (Nat.le_of_ble_eq_true rfl) kc_X13_readPersonLine dX13_readPersonLine_124
theorem rX13_readPersonLine_126 : ab_Run X 192 126 (14, 0, 0) [ab_R z, l1, l2, l3, l4, l5, l6, l7] st σ Q ↔ z ≠ 0 ∧ ab_Run X 192 127 (14, 0, 0) [ab_R z, l1, l2, l3, l4, l5, l6, l7] (ab_R z :: st) σ Q := ab_r_aload_n rfl kc_X13_readPersonLine dX13_readPersonLine_126
theorem rX13_readPersonLine_127 : ab_Run X 192 127 (14, 0, 0) L (ab_R a :: st) σ Q ↔ (ab_sh σ a).1 = 14 ∧ ab_Run X 192 130 (14, 0, 0) L (ab_I (ab_rd σ a 9) :: st) σ Q := gF_13_85 ko_X13_readPersonLine kc_X13_readPersonLine dX13_readPersonLine_127
theorem rX13_readPersonLine_130 : ab_Run X 192 130 (14, 0, 0) L st σ Q ↔ ab_Run X 192 131 (14, 0, 0) L (ab_I 5 :: st) σ Q := ab_r_iconst (by decide) kc_X13_readPersonLine dX13_readPersonLine_130
theorem rX13_readPersonLine_131 : ab_Run X 192 131 (14, 0, 0) L (ab_I b :: ab_I a :: st) σ Q ↔ (¬ a = b → ab_Run X 192 135 (14, 0, 0) L st σ Q) ∧ (¬ (¬ a = b) → ab_Run X 192 134 (14, 0, 0) L st σ Q) := ab_r_icmp_ne rfl kc_X13_readPersonLine dX13_readPersonLine_131
theorem rX13_readPersonLine_134 : ab_Run X 192 134 (14, 0, 0) L [] σ Q ↔ Q none σ := ab_r_return rfl kc_X13_readPersonLine dX13_readPersonLine_134
theorem rX13_readPersonLine_135 : ab_Run X 192 135 (14, 0, 0) [ab_R z, l1, l2, l3, l4, l5, l6, l7] st σ Q ↔ z ≠ 0 ∧ ab_Run X 192 136 (14, 0, 0) [ab_R z, l1, l2, l3, l4, l5, l6, l7] (ab_R z :: st) σ Q := ab_r_aload_n rfl kc_X13_readPersonLine dX13_readPersonLine_135
theorem rX13_readPersonLine_136 : ab_Run X 192 136 (14, 0, 0) L (ab_R a :: st) σ Q ↔ (ab_sh σ a).1 = 14 ∧ ab_Run X 192 139 (14, 0, 0) L (ab_R (ab_rd σ a 4) :: st) σ Q := gF_13_171 ko_X13_readPersonLine kc_X13_readPersonLine dX13_readPersonLine_136
theorem rX13_readPersonLine_139 : ab_Run X 192 139 (14, 0, 0) L (ab_R a :: st) σ Q ↔ (ab_sh σ a).1 = 13 ∧ ab_Run X 192 142 (14, 0, 0) L (ab_I (ab_rd σ a 6) :: st) σ Q := gF_13_213 ko_X13_readPersonLine kc_X13_readPersonLine dX13_readPersonLine_139
theorem rX13_readPersonLine_142 : ab_Run X 192 142 (14, 0, 0) [l0, l1, l2, l3, l4, l5, l6, l7] (ab_I z :: st) σ Q ↔ (!ab_isJ l6) = true ∧ ab_Run X 192 144 (14, 0, 0) [l0, l1, l2, l3, l4, l5, l6, ab_I z] st σ Q := ab_r_istore (Nat.le_of_ble_eq_true rfl) kc_X13_readPersonLine dX13_readPersonLine_142
theorem rX13_readPersonLine_144 : ab_Run X 192 144 (14, 0, 0) [ab_R z, l1, l2, l3, l4, l5, l6, l7] st σ Q ↔ z ≠ 0 ∧ ab_Run X 192 145 (14, 0, 0) [ab_R z, l1, l2, l3, l4, l5, l6, l7] (ab_R z :: st) σ Q := ab_r_aload_n rfl kc_X13_readPersonLine dX13_readPersonLine_144
theorem rX13_readPersonLine_145 : ab_Run X 192 145 (14, 0, 0) [l0, ab_J z, l2, l3, l4, l5, l6, l7] st σ Q ↔ ab_Run X 192 146 (14, 0, 0) [l0, ab_J z, l2, l3, l4, l5, l6, l7] (ab_J z :: st) σ Q := ab_r_lload_n rfl kc_X13_readPersonLine dX13_readPersonLine_145
theorem rX13_readPersonLine_146 : ab_Run X 192 146 (14, 0, 0) L st σ Q ↔ ab_Run X 192 147 (14, 0, 0) L (ab_I 0 :: st) σ Q := ab_r_iconst (by decide) kc_X13_readPersonLine dX13_readPersonLine_146
theorem rX13_readPersonLine_147 : ab_Run X 192 147 (14, 0, 0) [l0, l1, l2, l3, l4, l5, l6, ab_I z] st σ Q ↔ ab_Run X 192 149 (14, 0, 0) [l0, l1, l2, l3, l4, l5, l6, ab_I z] (ab_I z :: st) σ Q := ab_r_iload rfl kc_X13_readPersonLine dX13_readPersonLine_147
theorem rX13_readPersonLine_149 : ab_Run X 192 149 (14, 0, 0) L (ab_I x3 :: ab_I x2 :: ab_J x1 :: ab_R a :: st) σ Q ↔ ((ab_sh σ a).1 = 14 ∧ ab_cats st ≤ 8) ∧ ab_Do X 183 [ab_R a, ab_J x1, ab_I x2, ab_I x3] σ (fun r σ' => ab_Run X 192 152 (14, 0, 0) L (ab_psh r st) σ' Q) := ab_r_callV (w := [ab_I x3, ab_I x2, ab_J x1]) (as := [ab_J x1, ab_I x2, ab_I x3]) (b1 := (0, 0, 0)) 0 (Or.inl rfl) (by decide) ko_X13_readPersonLine qM_13_285 (by decide) rfl rfl rfl rfl rfl (by decide) (Nat.le_of_ble_eq_true rfl) kc_X13_readPersonLine dX13_readPersonLine_149
theorem rX13_readPersonLine_152 : ab_Run X 192 152 (14, 0, 0) [ab_R z, l1, l2, l3, l4, l5, l6, l7] st σ Q ↔ z ≠ 0 ∧ ab_Run X 192 153 (14, 0, 0) [ab_R z, l1, l2, l3, l4, l5, l6, l7] (ab_R z :: st) σ Q := ab_r_aload_n rfl kc_X13_readPersonLine dX13_readPersonLine_152
theorem rX13_readPersonLine_153 : ab_Run X 192 153 (14, 0, 0) L (ab_R a :: st) σ Q ↔ (ab_sh σ a).1 = 14 ∧ ab_Run X 192 156 (14, 0, 0) L (ab_R (ab_rd σ a 4) :: st) σ Q := gF_13_171 ko_X13_readPersonLine kc_X13_readPersonLine dX13_readPersonLine_153
theorem rX13_readPersonLine_156 : ab_Run X 192 156 (14, 0, 0) L (ab_R a :: st) σ Q ↔ (ab_sh σ a).1 = 13 ∧ ab_Run X 192 159 (14, 0, 0) L (ab_R (ab_rd σ a 16) :: st) σ Q := gF_13_307 ko_X13_readPersonLine kc_X13_readPersonLine dX13_readPersonLine_156
theorem rX13_readPersonLine_159 : ab_Run X 192 159 (14, 0, 0) [l0, l1, l2, l3, l4, l5, l6, ab_I z] st σ Q ↔ ab_Run X 192 161 (14, 0, 0) [l0, l1, l2, l3, l4, l5, l6, ab_I z] (ab_I z :: st) σ Q := ab_r_iload rfl kc_X13_readPersonLine dX13_readPersonLine_159
theorem rX13_readPersonLine_161 : ab_Run X 192 161 (14, 0, 0) [l0, l1, l2, ab_I z, l4, l5, l6, l7] st σ Q ↔ ab_Run X 192 162 (14, 0, 0) [l0, l1, l2, ab_I z, l4, l5, l6, l7] (ab_I z :: st) σ Q := ab_r_iload_n rfl kc_X13_readPersonLine dX13_readPersonLine_161
theorem rX13_readPersonLine_162 : ab_Run X 192 162 (14, 0, 0) L (ab_I v :: ab_I i :: ab_R a :: st) σ Q ↔ ((ab_sh σ a).1 = 21 ∧ 0 ≤ i ∧ i < (ab_sh σ a).2) ∧ ab_Run X 192 163 (14, 0, 0) L st (ab_wr σ a i v) Q := ab_r_iastore kc_X13_readPersonLine dX13_readPersonLine_162
theorem rX13_readPersonLine_163 : ab_Run X 192 163 (14, 0, 0) [ab_R z, l1, l2, l3, l4, l5, l6, l7] st σ Q ↔ z ≠ 0 ∧ ab_Run X 192 164 (14, 0, 0) [ab_R z, l1, l2, l3, l4, l5, l6, l7] (ab_R z :: st) σ Q := ab_r_aload_n rfl kc_X13_readPersonLine dX13_readPersonLine_163
theorem rX13_readPersonLine_164 : ab_Run X 192 164 (14, 0, 0) L (ab_R a :: st) σ Q ↔ (ab_sh σ a).1 = 14 ∧ ab_Run X 192 167 (14, 0, 0) L (ab_R (ab_rd σ a 4) :: st) σ Q := gF_13_171 ko_X13_readPersonLine kc_X13_readPersonLine dX13_readPersonLine_164
theorem rX13_readPersonLine_167 : ab_Run X 192 167 (14, 0, 0) L (ab_R a :: st) σ Q ↔ (ab_sh σ a).1 = 13 ∧ ab_Run X 192 170 (14, 0, 0) L (ab_R (ab_rd σ a 17) :: st) σ Q := gF_13_310 ko_X13_readPersonLine kc_X13_readPersonLine dX13_readPersonLine_167
theorem rX13_readPersonLine_170 : ab_Run X 192 170 (14, 0, 0) [l0, l1, l2, l3, l4, l5, l6, ab_I z] st σ Q ↔ ab_Run X 192 172 (14, 0, 0) [l0, l1, l2, l3, l4, l5, l6, ab_I z] (ab_I z :: st) σ Q := ab_r_iload rfl kc_X13_readPersonLine dX13_readPersonLine_170
theorem rX13_readPersonLine_172 : ab_Run X 192 172 (14, 0, 0) [l0, l1, l2, l3, ab_I z, l5, l6, l7] st σ Q ↔ ab_Run X 192 174 (14, 0, 0) [l0, l1, l2, l3, ab_I z, l5, l6, l7] (ab_I z :: st) σ Q := ab_r_iload rfl kc_X13_readPersonLine dX13_readPersonLine_172
theorem rX13_readPersonLine_174 : ab_Run X 192 174 (14, 0, 0) L (ab_I v :: ab_I i :: ab_R a :: st) σ Q ↔ ((ab_sh σ a).1 = 21 ∧ 0 ≤ i ∧ i < (ab_sh σ a).2) ∧ ab_Run X 192 175 (14, 0, 0) L st (ab_wr σ a i v) Q := ab_r_iastore kc_X13_readPersonLine dX13_readPersonLine_174
theorem rX13_readPersonLine_175 : ab_Run X 192 175 (14, 0, 0) [ab_R z, l1, l2, l3, l4, l5, l6, l7] st σ Q ↔ z ≠ 0 ∧ ab_Run X 192 176 (14, 0, 0) [ab_R z, l1, l2, l3, l4, l5, l6, l7] (ab_R z :: st) σ Q := ab_r_aload_n rfl kc_X13_readPersonLine dX13_readPersonLine_175
theorem rX13_readPersonLine_176 : ab_Run X 192 176 (14, 0, 0) L (ab_R a :: st) σ Q ↔ (ab_sh σ a).1 = 14 ∧ ab_Run X 192 179 (14, 0, 0) L (ab_R (ab_rd σ a 4) :: st) σ Q := gF_13_171 ko_X13_readPersonLine kc_X13_readPersonLine dX13_readPersonLine_176
theorem rX13_readPersonLine_179 : ab_Run X 192 179 (14, 0, 0) L (ab_R a :: st) σ Q ↔ (ab_sh σ a).1 = 13 ∧ ab_Run X 192 182 (14, 0, 0) L (ab_R (ab_rd σ a 18) :: st) σ Q := gF_13_312 ko_X13_readPersonLine kc_X13_readPersonLine dX13_readPersonLine_179
theorem rX13_readPersonLine_182 : ab_Run X 192 182 (14, 0, 0) [l0, l1, l2, l3, l4, l5, l6, ab_I z] st σ Q ↔ ab_Run X 192 184 (14, 0, 0) [l0, l1, l2, l3, l4, l5, l6, ab_I z] (ab_I z :: st) σ Q := ab_r_iload rfl kc_X13_readPersonLine dX13_readPersonLine_182
theorem rX13_readPersonLine_184 : ab_Run X 192 184 (14, 0, 0) [l0, l1, l2, l3, l4, ab_I z, l6, l7] st σ Q ↔ ab_Run X 192 186 (14, 0, 0) [l0, l1, l2, l3, l4, ab_I z, l6, l7] (ab_I z :: st) σ Q := ab_r_iload rfl kc_X13_readPersonLine dX13_readPersonLine_184
theorem rX13_readPersonLine_186 : ab_Run X 192 186 (14, 0, 0) L (ab_I v :: ab_I i :: ab_R a :: st) σ Q ↔ ((ab_sh σ a).1 = 21 ∧ 0 ≤ i ∧ i < (ab_sh σ a).2) ∧ ab_Run X 192 187 (14, 0, 0) L st (ab_wr σ a i v) Q := ab_r_iastore kc_X13_readPersonLine dX13_readPersonLine_186
theorem rX13_readPersonLine_187 : ab_Run X 192 187 (14, 0, 0) [ab_R z, l1, l2, l3, l4, l5, l6, l7] st σ Q ↔ z ≠ 0 ∧ ab_Run X 192 188 (14, 0, 0) [ab_R z, l1, l2, l3, l4, l5, l6, l7] (ab_R z :: st) σ Q := ab_r_aload_n rfl kc_X13_readPersonLine dX13_readPersonLine_187
theorem rX13_readPersonLine_188 : ab_Run X 192 188 (14, 0, 0) L (ab_R a :: st) σ Q ↔ (ab_sh σ a).1 = 14 ∧ ab_Run X 192 191 (14, 0, 0) L (ab_R (ab_rd σ a 4) :: st) σ Q := gF_13_171 ko_X13_readPersonLine kc_X13_readPersonLine dX13_readPersonLine_188
theorem rX13_readPersonLine_191 : ab_Run X 192 191 (14, 0, 0) L (ab_R a :: st) σ Q ↔ (ab_sh σ a).1 = 13 ∧ ab_Run X 192 194 (14, 0, 0) L (ab_R (ab_rd σ a 19) :: st) σ Q := gF_13_314 ko_X13_readPersonLine kc_X13_readPersonLine dX13_readPersonLine_191
theorem rX13_readPersonLine_194 : ab_Run X 192 194 (14, 0, 0) [l0, l1, l2, l3, l4, l5, l6, ab_I z] st σ Q ↔ ab_Run X 192 196 (14, 0, 0) [l0, l1, l2, l3, l4, l5, l6, ab_I z] (ab_I z :: st) σ Q := ab_r_iload rfl kc_X13_readPersonLine dX13_readPersonLine_194
theorem rX13_readPersonLine_196 : ab_Run X 192 196 (14, 0, 0) [l0, l1, l2, l3, l4, l5, ab_I z, l7] st σ Q ↔ ab_Run X 192 198 (14, 0, 0) [l0, l1, l2, l3, l4, l5, ab_I z, l7] (ab_I z :: st) σ Q := ab_r_iload rfl kc_X13_readPersonLine dX13_readPersonLine_196
theorem rX13_readPersonLine_198 : ab_Run X 192 198 (14, 0, 0) L (ab_I v :: ab_I i :: ab_R a :: st) σ Q ↔ ((ab_sh σ a).1 = 21 ∧ 0 ≤ i ∧ i < (ab_sh σ a).2) ∧ ab_Run X 192 199 (14, 0, 0) L st (ab_wr σ a i v) Q := ab_r_iastore kc_X13_readPersonLine dX13_readPersonLine_198
theorem rX13_readPersonLine_199 : ab_Run X 192 199 (14, 0, 0) [ab_R z, l1, l2, l3, l4, l5, l6, l7] st σ Q ↔ z ≠ 0 ∧ ab_Run X 192 200 (14, 0, 0) [ab_R z, l1, l2, l3, l4, l5, l6, l7] (ab_R z :: st) σ Q := ab_r_aload_n rfl kc_X13_readPersonLine dX13_readPersonLine_199
theorem rX13_readPersonLine_200 : ab_Run X 192 200 (14, 0, 0) L (ab_R a :: st) σ Q ↔ (ab_sh σ a).1 = 14 ∧ ab_Run X 192 203 (14, 0, 0) L (ab_R (ab_rd σ a 4) :: st) σ Q := gF_13_171 ko_X13_readPersonLine kc_X13_readPersonLine dX13_readPersonLine_200
theorem rX13_readPersonLine_203 : ab_Run X 192 203 (14, 0, 0) L (ab_R a :: st) σ Q ↔ (ab_sh σ a).1 = 13 ∧ ab_Run X 192 206 (14, 0, 0) L (ab_R (ab_rd σ a 27) :: st) σ Q := gF_13_316 ko_X13_readPersonLine kc_X13_readPersonLine dX13_readPersonLine_203
theorem rX13_readPersonLine_206 : ab_Run X 192 206 (14, 0, 0) [l0, l1, l2, l3, l4, l5, l6, ab_I z] st σ Q ↔ ab_Run X 192 208 (14, 0, 0) [l0, l1, l2, l3, l4, l5, l6, ab_I z] (ab_I z :: st) σ Q := ab_r_iload rfl kc_X13_readPersonLine dX13_readPersonLine_206
theorem rX13_readPersonLine_208 : ab_Run X 192 208 (14, 0, 0) L st σ Q ↔ ab_Run X 192 209 (14, 0, 0) L (ab_I (-1) :: st) σ Q := ab_r_iconst (by decide) kc_X13_readPersonLine dX13_readPersonLine_208
theorem rX13_readPersonLine_209 : ab_Run X 192 209 (14, 0, 0) L (ab_I v :: ab_I i :: ab_R a :: st) σ Q ↔ ((ab_sh σ a).1 = 21 ∧ 0 ≤ i ∧ i < (ab_sh σ a).2) ∧ ab_Run X 192 210 (14, 0, 0) L st (ab_wr σ a i v) Q := ab_r_iastore kc_X13_readPersonLine dX13_readPersonLine_209
theorem rX13_readPersonLine_210 : ab_Run X 192 210 (14, 0, 0) [ab_R z, l1, l2, l3, l4, l5, l6, l7] st σ Q ↔ z ≠ 0 ∧ ab_Run X 192 211 (14, 0, 0) [ab_R z, l1, l2, l3, l4, l5, l6, l7] (ab_R z :: st) σ Q := ab_r_aload_n rfl kc_X13_readPersonLine dX13_readPersonLine_210
theorem rX13_readPersonLine_211 : ab_Run X 192 211 (14, 0, 0) L (ab_R a :: st) σ Q ↔ (ab_sh σ a).1 = 14 ∧ ab_Run X 192 214 (14, 0, 0) L (ab_R (ab_rd σ a 4) :: st) σ Q := gF_13_171 ko_X13_readPersonLine kc_X13_readPersonLine dX13_readPersonLine_211
theorem rX13_readPersonLine_214I : ab_Run X 192 214 (14, 0, 0) L (ab_I a :: st) σ Q ↔ ab_Run X 192 215 (14, 0, 0) L (ab_I a :: ab_I a :: st) σ Q := ab_r_dupI kc_X13_readPersonLine dX13_readPersonLine_214
theorem rX13_readPersonLine_214R : ab_Run X 192 214 (14, 0, 0) L (ab_R a :: st) σ Q ↔ ab_Run X 192 215 (14, 0, 0) L (ab_R a :: ab_R a :: st) σ Q := ab_r_dupR kc_X13_readPersonLine dX13_readPersonLine_214
theorem rX13_readPersonLine_215 : ab_Run X 192 215 (14, 0, 0) L (ab_R a :: st) σ Q ↔ (ab_sh σ a).1 = 13 ∧ ab_Run X 192 218 (14, 0, 0) L (ab_I (ab_rd σ a 6) :: st) σ Q := gF_13_213 ko_X13_readPersonLine kc_X13_readPersonLine dX13_readPersonLine_215
theorem rX13_readPersonLine_218 : ab_Run X 192 218 (14, 0, 0) L st σ Q ↔ ab_Run X 192 219 (14, 0, 0) L (ab_I 1 :: st) σ Q := ab_r_iconst (by decide) kc_X13_readPersonLine dX13_readPersonLine_218
theorem rX13_readPersonLine_219 : ab_Run X 192 219 (14, 0, 0) L (ab_I b :: ab_I a :: st) σ Q ↔ ab_Run X 192 220 (14, 0, 0) L (ab_I (ab_w32 (a + b)) :: st) σ Q := ab_r_iadd kc_X13_readPersonLine dX13_readPersonLine_219
theorem rX13_readPersonLine_220 : ab_Run X 192 220 (14, 0, 0) L (ab_I z :: ab_R a :: st) σ Q ↔ (ab_sh σ a).1 = 13 ∧ ab_Run X 192 223 (14, 0, 0) L st (ab_wr σ a 6 z) Q := sF_13_213 ko_X13_readPersonLine kc_X13_readPersonLine dX13_readPersonLine_220
theorem rX13_readPersonLine_223 : ab_Run X 192 223 (14, 0, 0) L [] σ Q ↔ Q none σ := ab_r_return rfl kc_X13_readPersonLine dX13_readPersonLine_223
theorem kc_X13_readFor : ab_code 193 = cX13_readFor := rfl
theorem ko_X13_readFor : ab_ow 193 = 13 := rfl
theorem rX13_readFor_0 : ab_Run X 193 0 (15, 0, 0) [ab_R z, l1, l2, l3] st σ Q ↔ z ≠ 0 ∧ ab_Run X 193 1 (15, 0, 0) [ab_R z, l1, l2, l3] (ab_R z :: st) σ Q := ab_r_aload_n rfl kc_X13_readFor dX13_readFor_0
theorem rX13_readFor_1 : ab_Run X 193 1 (15, 0, 0) [ab_R z, l1, l2, l3] st σ Q ↔ z ≠ 0 ∧ ab_Run X 193 2 (15, 0, 0) [ab_R z, l1, l2, l3] (ab_R z :: st) σ Q := ab_r_aload_n rfl kc_X13_readFor dX13_readFor_1
theorem rX13_readFor_2 : ab_Run X 193 2 (15, 0, 0) L (ab_R a :: st) σ Q ↔ (ab_sh σ a).1 = 14 ∧ ab_Run X 193 5 (15, 0, 0) L (ab_R (ab_rd σ a 4) :: st) σ Q := gF_13_171 ko_X13_readFor kc_X13_readFor dX13_readFor_2
theorem rX13_readFor_5 : ab_Run X 193 5 (15, 0, 0) L (ab_R a :: st) σ Q ↔ (ab_sh σ a).1 = 13 ∧ ab_Run X 193 8 (15, 0, 0) L (ab_I (ab_rd σ a 7) :: st) σ Q := gF_13_318 ko_X13_readFor kc_X13_readFor dX13_readFor_5
theorem rX13_readFor_8 : ab_Run X 193 8 (15, 0, 0) L st σ Q ↔ ab_Run X 193 10 (15, 0, 0) L (ab_I 10 :: st) σ Q := ab_r_bipush (by decide) kc_X13_readFor dX13_readFor_8
theorem rX13_readFor_10 : ab_Run X 193 10 (15, 0, 0) L (ab_I x2 :: ab_I x1 :: ab_R a :: st) σ Q ↔ ((ab_sh σ a).1 = 14 ∧ ab_cats st ≤ 8) ∧ ab_Do X 181 [ab_R a, ab_I x1, ab_I x2] σ (fun r σ' => ab_Run X 193 13 (15, 0, 0) L (ab_psh r st) σ' Q) := ab_r_callV (w := [ab_I x2, ab_I x1]) (as := [ab_I x1, ab_I x2]) (b1 := (2, 0, 0)) 0 (Or.inl rfl) (by decide) ko_X13_readFor qM_13_266 (by decide) rfl rfl rfl rfl rfl (by decide) (Nat.le_of_ble_eq_true rfl) kc_X13_readFor dX13_readFor_10
theorem rX13_readFor_13 : ab_Run X 193 13 (15, 0, 0) [ab_R z, l1, l2, l3] st σ Q ↔ z ≠ 0 ∧ ab_Run X 193 14 (15, 0, 0) [ab_R z, l1, l2, l3] (ab_R z :: st) σ Q := ab_r_aload_n rfl kc_X13_readFor dX13_readFor_13
theorem rX13_readFor_14 : ab_Run X 193 14 (15, 0, 0) L (ab_R a :: st) σ Q ↔ ((ab_sh σ a).1 = 14 ∧ ab_cats st ≤ 8) ∧ ab_Do X 185 [ab_R a] σ (fun r σ' => ab_Run X 193 17 (15, 0, 0) L (ab_psh r st) σ' Q) := ab_r_callV (w := []) (as := []) (b1 := (14, 0, 0)) 0 (Or.inl rfl) (by decide) ko_X13_readFor qM_13_321 (by decide) rfl rfl rfl rfl rfl (by decide) (Nat.le_of_ble_eq_true rfl) kc_X13_readFor dX13_readFor_14
theorem rX13_readFor_17 : ab_Run X 193 17 (15, 0, 0) [l0, l1, l2, l3] (ab_I z :: st) σ Q ↔ (!ab_isJ l0) = true ∧ ab_Run X 193 18 (15, 0, 0) [l0, ab_I z, l2, l3] st σ Q := ab_r_istore_n (Nat.le_of_ble_eq_true rfl) kc_X13_readFor dX13_readFor_17
theorem rX13_readFor_18 : ab_Run X 193 18 (15, 0, 0) [ab_R z, l1, l2, l3] st σ Q ↔ z ≠ 0 ∧ ab_Run X 193 19 (15, 0, 0) [ab_R z, l1, l2, l3] (ab_R z :: st) σ Q := ab_r_aload_n rfl kc_X13_readFor dX13_readFor_18
theorem rX13_readFor_19 : ab_Run X 193 19 (15, 0, 0) L (ab_R a :: st) σ Q ↔ ((ab_sh σ a).1 = 14 ∧ ab_cats st ≤ 8) ∧ ab_Do X 184 [ab_R a] σ (fun r σ' => ab_Run X 193 22 (15, 0, 0) L (ab_psh r st) σ' Q) := ab_r_callV (w := []) (as := []) (b1 := (13, 0, 0)) 0 (Or.inl rfl) (by decide) ko_X13_readFor qM_13_201 (by decide) rfl rfl rfl rfl rfl (by decide) (Nat.le_of_ble_eq_true rfl) kc_X13_readFor dX13_readFor_19
theorem rX13_readFor_22 : ab_Run X 193 22 (15, 0, 0) [l0, l1, l2, l3] (ab_I z :: st) σ Q ↔ (!ab_isJ l1) = true ∧ ab_Run X 193 23 (15, 0, 0) [l0, l1, ab_I z, l3] st σ Q := ab_r_istore_n (Nat.le_of_ble_eq_true rfl) kc_X13_readFor dX13_readFor_22
theorem rX13_readFor_23 : ab_Run X 193 23 (15, 0, 0) [ab_R z, l1, l2, l3] st σ Q ↔ z ≠ 0 ∧ ab_Run X 193 24 (15, 0, 0) [ab_R z, l1, l2, l3] (ab_R z :: st) σ Q := ab_r_aload_n rfl kc_X13_readFor dX13_readFor_23
theorem rX13_readFor_24 : ab_Run X 193 24 (15, 0, 0) L (ab_R a :: st) σ Q ↔ (ab_sh σ a).1 = 14 ∧ ab_Run X 193 27 (15, 0, 0) L (ab_I (ab_rd σ a 9) :: st) σ Q := gF_13_85 ko_X13_readFor kc_X13_readFor dX13_readFor_24
theorem rX13_readFor_27 : ab_Run X 193 27 (15, 0, 0) L st σ Q ↔ ab_Run X 193 28 (15, 0, 0) L (ab_I 5 :: st) σ Q := ab_r_iconst (by decide) kc_X13_readFor dX13_readFor_27
theorem rX13_readFor_28 : ab_Run X 193 28 (15, 0, 0) L (ab_I b :: ab_I a :: st) σ Q ↔ (a = b → ab_Run X 193 57 (15, 0, 0) L st σ Q) ∧ (¬ (a = b) → ab_Run X 193 31 (15, 0, 0) L st σ Q) := ab_r_icmp_eq rfl kc_X13_readFor dX13_readFor_28
theorem rX13_readFor_31 : ab_Run X 193 31 (15, 0, 0) [l0, ab_I z, l2, l3] st σ Q ↔ ab_Run X 193 32 (15, 0, 0) [l0, ab_I z, l2, l3] (ab_I z :: st) σ Q := ab_r_iload_n rfl kc_X13_readFor dX13_readFor_31
theorem rX13_readFor_32 : ab_Run X 193 32 (15, 0, 0) [l0, l1, ab_I z, l3] st σ Q ↔ ab_Run X 193 33 (15, 0, 0) [l0, l1, ab_I z, l3] (ab_I z :: st) σ Q := ab_r_iload_n rfl kc_X13_readFor dX13_readFor_32
theorem rX13_readFor_33 : ab_Run X 193 33 (15, 0, 0) L (ab_I b :: ab_I a :: st) σ Q ↔ (a = b → ab_Run X 193 52 (15, 0, 0) L st σ Q) ∧ (¬ (a = b) → ab_Run X 193 36 (15, 0, 0) L st σ Q) := ab_r_icmp_eq rfl kc_X13_readFor dX13_readFor_33
theorem rX13_readFor_36 : ab_Run X 193 36 (15, 0, 0) [ab_R z, l1, l2, l3] st σ Q ↔ z ≠ 0 ∧ ab_Run X 193 37 (15, 0, 0) [ab_R z, l1, l2, l3] (ab_R z :: st) σ Q := ab_r_aload_n rfl kc_X13_readFor dX13_readFor_36
theorem rX13_readFor_37 : ab_Run X 193 37 (15, 0, 0) L (ab_R a :: st) σ Q ↔ (ab_sh σ a).1 = 14 ∧ ab_Run X 193 40 (15, 0, 0) L (ab_R (ab_rd σ a 4) :: st) σ Q := gF_13_171 ko_X13_readFor kc_X13_readFor dX13_readFor_37
theorem rX13_readFor_40 : ab_Run X 193 40 (15, 0, 0) L (ab_R a :: st) σ Q ↔ (ab_sh σ a).1 = 13 ∧ ab_Run X 193 43 (15, 0, 0) L (ab_R (ab_rd σ a 20) :: st) σ Q := gF_13_324 ko_X13_readFor kc_X13_readFor dX13_readFor_40
theorem rX13_readFor_43 : ab_Run X 193 43 (15, 0, 0) [l0, ab_I z, l2, l3] st σ Q ↔ ab_Run X 193 44 (15, 0, 0) [l0, ab_I z, l2, l3] (ab_I z :: st) σ Q := ab_r_iload_n rfl kc_X13_readFor dX13_readFor_43
theorem rX13_readFor_44 : ab_Run X 193 44 (15, 0, 0) L (ab_I i :: ab_R a :: st) σ Q ↔ ((ab_sh σ a).1 = 21 ∧ 0 ≤ i ∧ i < (ab_sh σ a).2) ∧ ab_Run X 193 45 (15, 0, 0) L (ab_I (ab_rd σ a i) :: st) σ Q := ab_r_iaload (by decide) kc_X13_readFor dX13_readFor_44
theorem rX13_readFor_45 : ab_Run X 193 45 (15, 0, 0) [l0, l1, ab_I z, l3] st σ Q ↔ ab_Run X 193 46 (15, 0, 0) [l0, l1, ab_I z, l3] (ab_I z :: st) σ Q := ab_r_iload_n rfl kc_X13_readFor dX13_readFor_45
theorem rX13_readFor_46 : ab_Run X 193 46 (15, 0, 0) L (ab_I x2 :: ab_I x1 :: st) σ Q ↔ ab_cats st ≤ 8 ∧ ab_Do X 164 [ab_I x1, ab_I x2] σ (fun r σ' => ab_Run X 193 49 (15, 0, 0) L (ab_psh r st) σ' Q) := ab_r_callS (w := [ab_I x2, ab_I x1]) (as := [ab_I x1, ab_I x2]) (b1 := (0, 0, 0)) (by decide) ko_X13_readFor qM_13_327 (by decide) rfl rfl rfl rfl (by decide) (Nat.le_of_ble_eq_true rfl) kc_X13_readFor dX13_readFor_46
theorem rX13_readFor_49 : ab_Run X 193 49 (15, 0, 0) L (ab_I a :: st) σ Q ↔ (a = 0 → ab_Run X 193 57 (15, 0, 0) L st σ Q) ∧ (¬ (a = 0) → ab_Run X 193 52 (15, 0, 0) L st σ Q) := ab_r_if_eq rfl kc_X13_readFor dX13_readFor_49
theorem rX13_readFor_52 : ab_Run X 193 52 (15, 0, 0) [ab_R z, l1, l2, l3] st σ Q ↔ z ≠ 0 ∧ ab_Run X 193 53 (15, 0, 0) [ab_R z, l1, l2, l3] (ab_R z :: st) σ Q := ab_r_aload_n rfl kc_X13_readFor dX13_readFor_52
theorem rX13_readFor_53 : ab_Run X 193 53 (15, 0, 0) L st σ Q ↔ ab_Run X 193 54 (15, 0, 0) L (ab_I 3 :: st) σ Q := ab_r_iconst (by decide) kc_X13_readFor dX13_readFor_53
theorem rX13_readFor_54 : ab_Run X 193 54 (15, 0, 0) L (ab_I x1 :: ab_R a :: st) σ Q ↔ ((ab_sh σ a).1 = 14 ∧ ab_cats st ≤ 8) ∧ ab_Do X 172 [ab_R a, ab_I x1] σ (fun r σ' => ab_Run X 193 57 (15, 0, 0) L (ab_psh r st) σ' Q) := ab_r_callV (w := [ab_I x1]) (as := [ab_I x1]) (b1 := (0, 0, 0)) 0 (Or.inl rfl) (by decide) ko_X13_readFor qM_13_134 (by decide) rfl rfl rfl rfl rfl (by decide) (Nat.le_of_ble_eq_true rfl) kc_X13_readFor dX13_readFor_54
theorem rX13_readFor_57 : ab_Run X 193 57 (15, 0, 0) [ab_R z, l1, l2, l3] st σ Q ↔ z ≠ 0 ∧ ab_Run X 193 58 (15, 0, 0) [ab_R z, l1, l2, l3] (ab_R z :: st) σ Q := ab_r_aload_n rfl kc_X13_readFor dX13_readFor_57
theorem rX13_readFor_58 : ab_Run X 193 58 (15, 0, 0) L (ab_R a :: st) σ Q ↔ ((ab_sh σ a).1 = 14 ∧ ab_cats st ≤ 8) ∧ ab_Do X 171 [ab_R a] σ (fun r σ' => ab_Run X 193 61 (15, 0, 0) L (ab_psh r st) σ' Q) := ab_r_callV (w := []) (as := []) (b1 := (1, 0, 0)) 0 (Or.inl rfl) (by decide) ko_X13_readFor qM_13_127 (by decide) rfl rfl rfl rfl rfl (by decide) (Nat.le_of_ble_eq_true rfl) kc_X13_readFor dX13_readFor_58
theorem rX13_readFor_61 : ab_Run X 193 61 (15, 0, 0) [ab_R z, l1, l2, l3] st σ Q ↔ z ≠ 0 ∧ ab_Run X 193 62 (15, 0, 0) [ab_R z, l1, l2, l3] (ab_R z :: st) σ Q := ab_r_aload_n rfl kc_X13_readFor dX13_readFor_61
theorem rX13_readFor_62 : ab_Run X 193 62 (15, 0, 0) L st σ Q ↔ ab_Run X 193 63 (15, 0, 0) L (ab_I 0 :: st) σ Q := ab_r_iconst (by decide) kc_X13_readFor dX13_readFor_62
theorem rX13_readFor_63 : ab_Run X 193 63 (15, 0, 0) L st σ Q ↔ ab_Run X 193 65 (15, 0, 0) L (ab_I 99 :: st) σ Q := ab_r_bipush (by decide) kc_X13_readFor dX13_readFor_63
theorem rX13_readFor_65 : ab_Run X 193 65 (15, 0, 0) L (ab_I x2 :: ab_I x1 :: ab_R a :: st) σ Q ↔ ((ab_sh σ a).1 = 14 ∧ ab_cats st ≤ 8) ∧ ab_Do X 178 [ab_R a, ab_I x1, ab_I x2] σ (fun r σ' => ab_Run X 193 68 (15, 0, 0) L (ab_psh r st) σ' Q) := ab_r_callV (w := [ab_I x2, ab_I x1]) (as := [ab_I x1, ab_I x2]) (b1 := (2, 0, 0)) 0 (Or.inl rfl) (by decide) ko_X13_readFor qM_13_150 (by decide) rfl rfl rfl rfl rfl (by decide) (Nat.le_of_ble_eq_true rfl) kc_X13_readFor dX13_readFor_65
theorem rX13_readFor_68 : ab_Run X 193 68 (15, 0, 0) [l0, l1, l2, l3] (ab_I z :: st) σ Q ↔ (!ab_isJ l2) = true ∧ ab_Run X 193 69 (15, 0, 0) [l0, l1, l2, ab_I z] st σ Q := ab_r_istore_n (Nat.le_of_ble_eq_true rfl) kc_X13_readFor dX13_readFor_68
theorem rX13_readFor_69 : ab_Run X 193 69 (15, 0, 0) [ab_R z, l1, l2, l3] st σ Q ↔ z ≠ 0 ∧ ab_Run X 193 70 (15, 0, 0) [ab_R z, l1, l2, l3] (ab_R z :: st) σ Q := ab_r_aload_n rfl kc_X13_readFor dX13_readFor_69
theorem rX13_readFor_70 : ab_Run X 193 70 (15, 0, 0) L (ab_R a :: st) σ Q ↔ (ab_sh σ a).1 = 14 ∧ ab_Run X 193 73 (15, 0, 0) L (ab_I (ab_rd σ a 9) :: st) σ Q := gF_13_85 ko_X13_readFor kc_X13_readFor dX13_readFor_70
theorem rX13_readFor_73 : ab_Run X 193 73 (15, 0, 0) L st σ Q ↔ ab_Run X 193 74 (15, 0, 0) L (ab_I 5 :: st) σ Q := ab_r_iconst (by decide) kc_X13_readFor dX13_readFor_73
theorem rX13_readFor_74 : ab_Run X 193 74 (15, 0, 0) L (ab_I b :: ab_I a :: st) σ Q ↔ (¬ a = b → ab_Run X 193 78 (15, 0, 0) L st σ Q) ∧ (¬ (¬ a = b) → ab_Run X 193 77 (15, 0, 0) L st σ Q) := ab_r_icmp_ne rfl kc_X13_readFor dX13_readFor_74
theorem rX13_readFor_77 : ab_Run X 193 77 (15, 0, 0) L [] σ Q ↔ Q none σ := ab_r_return rfl kc_X13_readFor dX13_readFor_77
theorem rX13_readFor_78 : ab_Run X 193 78 (15, 0, 0) [ab_R z, l1, l2, l3] st σ Q ↔ z ≠ 0 ∧ ab_Run X 193 79 (15, 0, 0) [ab_R z, l1, l2, l3] (ab_R z :: st) σ Q := ab_r_aload_n rfl kc_X13_readFor dX13_readFor_78
theorem rX13_readFor_79 : ab_Run X 193 79 (15, 0, 0) L (ab_R a :: st) σ Q ↔ (ab_sh σ a).1 = 14 ∧ ab_Run X 193 82 (15, 0, 0) L (ab_R (ab_rd σ a 4) :: st) σ Q := gF_13_171 ko_X13_readFor kc_X13_readFor dX13_readFor_79
theorem rX13_readFor_82 : ab_Run X 193 82 (15, 0, 0) L (ab_R a :: st) σ Q ↔ (ab_sh σ a).1 = 13 ∧ ab_Run X 193 85 (15, 0, 0) L (ab_R (ab_rd σ a 20) :: st) σ Q := gF_13_324 ko_X13_readFor kc_X13_readFor dX13_readFor_82
theorem rX13_readFor_85 : ab_Run X 193 85 (15, 0, 0) [l0, ab_I z, l2, l3] st σ Q ↔ ab_Run X 193 86 (15, 0, 0) [l0, ab_I z, l2, l3] (ab_I z :: st) σ Q := ab_r_iload_n rfl kc_X13_readFor dX13_readFor_85
theorem rX13_readFor_86 : ab_Run X 193 86 (15, 0, 0) L (ab_I b :: ab_R a :: st) σ Q ↔ ab_Run X 193 87 (15, 0, 0) L (ab_I b :: ab_R a :: ab_I b :: ab_R a :: st) σ Q := ab_r_dup2 kc_X13_readFor dX13_readFor_86
theorem rX13_readFor_87 : ab_Run X 193 87 (15, 0, 0) L (ab_I i :: ab_R a :: st) σ Q ↔ ((ab_sh σ a).1 = 21 ∧ 0 ≤ i ∧ i < (ab_sh σ a).2) ∧ ab_Run X 193 88 (15, 0, 0) L (ab_I (ab_rd σ a i) :: st) σ Q := ab_r_iaload (by decide) kc_X13_readFor dX13_readFor_87
theorem rX13_readFor_88 : ab_Run X 193 88 (15, 0, 0) L st σ Q ↔ ab_Run X 193 89 (15, 0, 0) L (ab_I 1 :: st) σ Q := ab_r_iconst (by decide) kc_X13_readFor dX13_readFor_88
theorem rX13_readFor_89 : ab_Run X 193 89 (15, 0, 0) [l0, l1, ab_I z, l3] st σ Q ↔ ab_Run X 193 90 (15, 0, 0) [l0, l1, ab_I z, l3] (ab_I z :: st) σ Q := ab_r_iload_n rfl kc_X13_readFor dX13_readFor_89
theorem rX13_readFor_90 : ab_Run X 193 90 (15, 0, 0) L (ab_I b :: ab_I a :: st) σ Q ↔ ab_Run X 193 91 (15, 0, 0) L (ab_I (ab_ok32 (fun x y => x <<< (y &&& 31)) a b) :: st) σ Q := ab_r_ishl kc_X13_readFor dX13_readFor_90
theorem rX13_readFor_91 : ab_Run X 193 91 (15, 0, 0) L (ab_I b :: ab_I a :: st) σ Q ↔ ab_Run X 193 92 (15, 0, 0) L (ab_I (ab_ok32 (fun x y => x ||| y) a b) :: st) σ Q := ab_r_ior kc_X13_readFor dX13_readFor_91
theorem rX13_readFor_92 : ab_Run X 193 92 (15, 0, 0) L (ab_I v :: ab_I i :: ab_R a :: st) σ Q ↔ ((ab_sh σ a).1 = 21 ∧ 0 ≤ i ∧ i < (ab_sh σ a).2) ∧ ab_Run X 193 93 (15, 0, 0) L st (ab_wr σ a i v) Q := ab_r_iastore kc_X13_readFor dX13_readFor_92
theorem rX13_readFor_93 : ab_Run X 193 93 (15, 0, 0) [ab_R z, l1, l2, l3] st σ Q ↔ z ≠ 0 ∧ ab_Run X 193 94 (15, 0, 0) [ab_R z, l1, l2, l3] (ab_R z :: st) σ Q := ab_r_aload_n rfl kc_X13_readFor dX13_readFor_93
theorem rX13_readFor_94 : ab_Run X 193 94 (15, 0, 0) L (ab_R a :: st) σ Q ↔ (ab_sh σ a).1 = 14 ∧ ab_Run X 193 97 (15, 0, 0) L (ab_R (ab_rd σ a 4) :: st) σ Q := gF_13_171 ko_X13_readFor kc_X13_readFor dX13_readFor_94
theorem rX13_readFor_97 : ab_Run X 193 97 (15, 0, 0) L (ab_R a :: st) σ Q ↔ (ab_sh σ a).1 = 13 ∧ ab_Run X 193 100 (15, 0, 0) L (ab_R (ab_rd σ a 21) :: st) σ Q := gF_13_331 ko_X13_readFor kc_X13_readFor dX13_readFor_97
theorem rX13_readFor_100 : ab_Run X 193 100 (15, 0, 0) [l0, ab_I z, l2, l3] st σ Q ↔ ab_Run X 193 101 (15, 0, 0) [l0, ab_I z, l2, l3] (ab_I z :: st) σ Q := ab_r_iload_n rfl kc_X13_readFor dX13_readFor_100
theorem rX13_readFor_101 : ab_Run X 193 101 (15, 0, 0) L (ab_I b :: ab_R a :: st) σ Q ↔ ab_Run X 193 102 (15, 0, 0) L (ab_I b :: ab_R a :: ab_I b :: ab_R a :: st) σ Q := ab_r_dup2 kc_X13_readFor dX13_readFor_101
theorem rX13_readFor_102 : ab_Run X 193 102 (15, 0, 0) L (ab_I i :: ab_R a :: st) σ Q ↔ ((ab_sh σ a).1 = 21 ∧ 0 ≤ i ∧ i < (ab_sh σ a).2) ∧ ab_Run X 193 103 (15, 0, 0) L (ab_I (ab_rd σ a i) :: st) σ Q := ab_r_iaload (by decide) kc_X13_readFor dX13_readFor_102
theorem rX13_readFor_103 : ab_Run X 193 103 (15, 0, 0) [l0, l1, l2, ab_I z] st σ Q ↔ ab_Run X 193 104 (15, 0, 0) [l0, l1, l2, ab_I z] (ab_I z :: st) σ Q := ab_r_iload_n rfl kc_X13_readFor dX13_readFor_103
theorem rX13_readFor_104 : ab_Run X 193 104 (15, 0, 0) L (ab_I b :: ab_I a :: st) σ Q ↔ ab_Run X 193 105 (15, 0, 0) L (ab_I (ab_w32 (a + b)) :: st) σ Q := ab_r_iadd kc_X13_readFor dX13_readFor_104
theorem rX13_readFor_105 : ab_Run X 193 105 (15, 0, 0) L (ab_I v :: ab_I i :: ab_R a :: st) σ Q ↔ ((ab_sh σ a).1 = 21 ∧ 0 ≤ i ∧ i < (ab_sh σ a).2) ∧ ab_Run X 193 106 (15, 0, 0) L st (ab_wr σ a i v) Q := ab_r_iastore kc_X13_readFor dX13_readFor_105
theorem rX13_readFor_106 : ab_Run X 193 106 (15, 0, 0) [ab_R z, l1, l2, l3] st σ Q ↔ z ≠ 0 ∧ ab_Run X 193 107 (15, 0, 0) [ab_R z, l1, l2, l3] (ab_R z :: st) σ Q := ab_r_aload_n rfl kc_X13_readFor dX13_readFor_106
theorem rX13_readFor_107 : ab_Run X 193 107 (15, 0, 0) L (ab_R a :: st) σ Q ↔ (ab_sh σ a).1 = 14 ∧ ab_Run X 193 110 (15, 0, 0) L (ab_R (ab_rd σ a 4) :: st) σ Q := gF_13_171 ko_X13_readFor kc_X13_readFor dX13_readFor_107
theorem rX13_readFor_110I : ab_Run X 193 110 (15, 0, 0) L (ab_I a :: st) σ Q ↔ ab_Run X 193 111 (15, 0, 0) L (ab_I a :: ab_I a :: st) σ Q := ab_r_dupI kc_X13_readFor dX13_readFor_110
theorem rX13_readFor_110R : ab_Run X 193 110 (15, 0, 0) L (ab_R a :: st) σ Q ↔ ab_Run X 193 111 (15, 0, 0) L (ab_R a :: ab_R a :: st) σ Q := ab_r_dupR kc_X13_readFor dX13_readFor_110
theorem rX13_readFor_111 : ab_Run X 193 111 (15, 0, 0) L (ab_R a :: st) σ Q ↔ (ab_sh σ a).1 = 13 ∧ ab_Run X 193 114 (15, 0, 0) L (ab_I (ab_rd σ a 7) :: st) σ Q := gF_13_318 ko_X13_readFor kc_X13_readFor dX13_readFor_111
theorem rX13_readFor_114 : ab_Run X 193 114 (15, 0, 0) L st σ Q ↔ ab_Run X 193 115 (15, 0, 0) L (ab_I 1 :: st) σ Q := ab_r_iconst (by decide) kc_X13_readFor dX13_readFor_114
theorem rX13_readFor_115 : ab_Run X 193 115 (15, 0, 0) L (ab_I b :: ab_I a :: st) σ Q ↔ ab_Run X 193 116 (15, 0, 0) L (ab_I (ab_w32 (a + b)) :: st) σ Q := ab_r_iadd kc_X13_readFor dX13_readFor_115
theorem rX13_readFor_116 : ab_Run X 193 116 (15, 0, 0) L (ab_I z :: ab_R a :: st) σ Q ↔ (ab_sh σ a).1 = 13 ∧ ab_Run X 193 119 (15, 0, 0) L st (ab_wr σ a 7 z) Q := sF_13_318 ko_X13_readFor kc_X13_readFor dX13_readFor_116
theorem rX13_readFor_119 : ab_Run X 193 119 (15, 0, 0) L [] σ Q ↔ Q none σ := ab_r_return rfl kc_X13_readFor dX13_readFor_119
theorem kc_X13_readWon : ab_code 194 = cX13_readWon := rfl
theorem ko_X13_readWon : ab_ow 194 = 13 := rfl
theorem rX13_readWon_0 : ab_Run X 194 0 (15, 0, 0) [ab_R z, l1, l2, l3] st σ Q ↔ z ≠ 0 ∧ ab_Run X 194 1 (15, 0, 0) [ab_R z, l1, l2, l3] (ab_R z :: st) σ Q := ab_r_aload_n rfl kc_X13_readWon dX13_readWon_0
theorem rX13_readWon_1 : ab_Run X 194 1 (15, 0, 0) [ab_R z, l1, l2, l3] st σ Q ↔ z ≠ 0 ∧ ab_Run X 194 2 (15, 0, 0) [ab_R z, l1, l2, l3] (ab_R z :: st) σ Q := ab_r_aload_n rfl kc_X13_readWon dX13_readWon_1
theorem rX13_readWon_2 : ab_Run X 194 2 (15, 0, 0) L (ab_R a :: st) σ Q ↔ (ab_sh σ a).1 = 14 ∧ ab_Run X 194 5 (15, 0, 0) L (ab_R (ab_rd σ a 4) :: st) σ Q := gF_13_171 ko_X13_readWon kc_X13_readWon dX13_readWon_2
theorem rX13_readWon_5 : ab_Run X 194 5 (15, 0, 0) L (ab_R a :: st) σ Q ↔ (ab_sh σ a).1 = 13 ∧ ab_Run X 194 8 (15, 0, 0) L (ab_I (ab_rd σ a 8) :: st) σ Q := gF_13_334 ko_X13_readWon kc_X13_readWon dX13_readWon_5
theorem rX13_readWon_8 : ab_Run X 194 8 (15, 0, 0) L st σ Q ↔ ab_Run X 194 10 (15, 0, 0) L (ab_I 12 :: st) σ Q := ab_r_bipush (by decide) kc_X13_readWon dX13_readWon_8
theorem rX13_readWon_10 : ab_Run X 194 10 (15, 0, 0) L (ab_I x2 :: ab_I x1 :: ab_R a :: st) σ Q ↔ ((ab_sh σ a).1 = 14 ∧ ab_cats st ≤ 8) ∧ ab_Do X 181 [ab_R a, ab_I x1, ab_I x2] σ (fun r σ' => ab_Run X 194 13 (15, 0, 0) L (ab_psh r st) σ' Q) := ab_r_callV (w := [ab_I x2, ab_I x1]) (as := [ab_I x1, ab_I x2]) (b1 := (2, 0, 0)) 0 (Or.inl rfl) (by decide) ko_X13_readWon qM_13_266 (by decide) rfl rfl rfl rfl rfl (by decide) (Nat.le_of_ble_eq_true rfl) kc_X13_readWon dX13_readWon_10
theorem rX13_readWon_13 : ab_Run X 194 13 (15, 0, 0) [ab_R z, l1, l2, l3] st σ Q ↔ z ≠ 0 ∧ ab_Run X 194 14 (15, 0, 0) [ab_R z, l1, l2, l3] (ab_R z :: st) σ Q := ab_r_aload_n rfl kc_X13_readWon dX13_readWon_13
theorem rX13_readWon_14 : ab_Run X 194 14 (15, 0, 0) L (ab_R a :: st) σ Q ↔ ((ab_sh σ a).1 = 14 ∧ ab_cats st ≤ 8) ∧ ab_Do X 185 [ab_R a] σ (fun r σ' => ab_Run X 194 17 (15, 0, 0) L (ab_psh r st) σ' Q) := ab_r_callV (w := []) (as := []) (b1 := (14, 0, 0)) 0 (Or.inl rfl) (by decide) ko_X13_readWon qM_13_321 (by decide) rfl rfl rfl rfl rfl (by decide) (Nat.le_of_ble_eq_true rfl) kc_X13_readWon dX13_readWon_14
theorem rX13_readWon_17 : ab_Run X 194 17 (15, 0, 0) [l0, l1, l2, l3] (ab_I z :: st) σ Q ↔ (!ab_isJ l0) = true ∧ ab_Run X 194 18 (15, 0, 0) [l0, ab_I z, l2, l3] st σ Q := ab_r_istore_n (Nat.le_of_ble_eq_true rfl) kc_X13_readWon dX13_readWon_17
theorem rX13_readWon_18 : ab_Run X 194 18 (15, 0, 0) [ab_R z, l1, l2, l3] st σ Q ↔ z ≠ 0 ∧ ab_Run X 194 19 (15, 0, 0) [ab_R z, l1, l2, l3] (ab_R z :: st) σ Q := ab_r_aload_n rfl kc_X13_readWon dX13_readWon_18
theorem rX13_readWon_19 : ab_Run X 194 19 (15, 0, 0) L (ab_R a :: st) σ Q ↔ ((ab_sh σ a).1 = 14 ∧ ab_cats st ≤ 8) ∧ ab_Do X 184 [ab_R a] σ (fun r σ' => ab_Run X 194 22 (15, 0, 0) L (ab_psh r st) σ' Q) := ab_r_callV (w := []) (as := []) (b1 := (13, 0, 0)) 0 (Or.inl rfl) (by decide) ko_X13_readWon qM_13_201 (by decide) rfl rfl rfl rfl rfl (by decide) (Nat.le_of_ble_eq_true rfl) kc_X13_readWon dX13_readWon_19
theorem rX13_readWon_22 : ab_Run X 194 22 (15, 0, 0) [l0, l1, l2, l3] (ab_I z :: st) σ Q ↔ (!ab_isJ l1) = true ∧ ab_Run X 194 23 (15, 0, 0) [l0, l1, ab_I z, l3] st σ Q := ab_r_istore_n (Nat.le_of_ble_eq_true rfl) kc_X13_readWon dX13_readWon_22
theorem rX13_readWon_23 : ab_Run X 194 23 (15, 0, 0) [ab_R z, l1, l2, l3] st σ Q ↔ z ≠ 0 ∧ ab_Run X 194 24 (15, 0, 0) [ab_R z, l1, l2, l3] (ab_R z :: st) σ Q := ab_r_aload_n rfl kc_X13_readWon dX13_readWon_23
theorem rX13_readWon_24 : ab_Run X 194 24 (15, 0, 0) L (ab_R a :: st) σ Q ↔ (ab_sh σ a).1 = 14 ∧ ab_Run X 194 27 (15, 0, 0) L (ab_I (ab_rd σ a 9) :: st) σ Q := gF_13_85 ko_X13_readWon kc_X13_readWon dX13_readWon_24
theorem rX13_readWon_27 : ab_Run X 194 27 (15, 0, 0) L st σ Q ↔ ab_Run X 194 28 (15, 0, 0) L (ab_I 5 :: st) σ Q := ab_r_iconst (by decide) kc_X13_readWon dX13_readWon_27
theorem rX13_readWon_28 : ab_Run X 194 28 (15, 0, 0) L (ab_I b :: ab_I a :: st) σ Q ↔ (a = b → ab_Run X 194 41 (15, 0, 0) L st σ Q) ∧ (¬ (a = b) → ab_Run X 194 31 (15, 0, 0) L st σ Q) := ab_r_icmp_eq rfl kc_X13_readWon dX13_readWon_28
theorem rX13_readWon_31 : ab_Run X 194 31 (15, 0, 0) [l0, ab_I z, l2, l3] st σ Q ↔ ab_Run X 194 32 (15, 0, 0) [l0, ab_I z, l2, l3] (ab_I z :: st) σ Q := ab_r_iload_n rfl kc_X13_readWon dX13_readWon_31
theorem rX13_readWon_32 : ab_Run X 194 32 (15, 0, 0) [l0, l1, ab_I z, l3] st σ Q ↔ ab_Run X 194 33 (15, 0, 0) [l0, l1, ab_I z, l3] (ab_I z :: st) σ Q := ab_r_iload_n rfl kc_X13_readWon dX13_readWon_32
theorem rX13_readWon_33 : ab_Run X 194 33 (15, 0, 0) L (ab_I b :: ab_I a :: st) σ Q ↔ (¬ a = b → ab_Run X 194 41 (15, 0, 0) L st σ Q) ∧ (¬ (¬ a = b) → ab_Run X 194 36 (15, 0, 0) L st σ Q) := ab_r_icmp_ne rfl kc_X13_readWon dX13_readWon_33
theorem rX13_readWon_36 : ab_Run X 194 36 (15, 0, 0) [ab_R z, l1, l2, l3] st σ Q ↔ z ≠ 0 ∧ ab_Run X 194 37 (15, 0, 0) [ab_R z, l1, l2, l3] (ab_R z :: st) σ Q := ab_r_aload_n rfl kc_X13_readWon dX13_readWon_36
theorem rX13_readWon_37 : ab_Run X 194 37 (15, 0, 0) L st σ Q ↔ ab_Run X 194 38 (15, 0, 0) L (ab_I 3 :: st) σ Q := ab_r_iconst (by decide) kc_X13_readWon dX13_readWon_37
theorem rX13_readWon_38 : ab_Run X 194 38 (15, 0, 0) L (ab_I x1 :: ab_R a :: st) σ Q ↔ ((ab_sh σ a).1 = 14 ∧ ab_cats st ≤ 8) ∧ ab_Do X 172 [ab_R a, ab_I x1] σ (fun r σ' => ab_Run X 194 41 (15, 0, 0) L (ab_psh r st) σ' Q) := ab_r_callV (w := [ab_I x1]) (as := [ab_I x1]) (b1 := (0, 0, 0)) 0 (Or.inl rfl) (by decide) ko_X13_readWon qM_13_134 (by decide) rfl rfl rfl rfl rfl (by decide) (Nat.le_of_ble_eq_true rfl) kc_X13_readWon dX13_readWon_38
theorem rX13_readWon_41 : ab_Run X 194 41 (15, 0, 0) [ab_R z, l1, l2, l3] st σ Q ↔ z ≠ 0 ∧ ab_Run X 194 42 (15, 0, 0) [ab_R z, l1, l2, l3] (ab_R z :: st) σ Q := ab_r_aload_n rfl kc_X13_readWon dX13_readWon_41
theorem rX13_readWon_42 : ab_Run X 194 42 (15, 0, 0) L (ab_R a :: st) σ Q ↔ ((ab_sh σ a).1 = 14 ∧ ab_cats st ≤ 8) ∧ ab_Do X 171 [ab_R a] σ (fun r σ' => ab_Run X 194 45 (15, 0, 0) L (ab_psh r st) σ' Q) := ab_r_callV (w := []) (as := []) (b1 := (1, 0, 0)) 0 (Or.inl rfl) (by decide) ko_X13_readWon qM_13_127 (by decide) rfl rfl rfl rfl rfl (by decide) (Nat.le_of_ble_eq_true rfl) kc_X13_readWon dX13_readWon_42
theorem rX13_readWon_45 : ab_Run X 194 45 (15, 0, 0) [ab_R z, l1, l2, l3] st σ Q ↔ z ≠ 0 ∧ ab_Run X 194 46 (15, 0, 0) [ab_R z, l1, l2, l3] (ab_R z :: st) σ Q := ab_r_aload_n rfl kc_X13_readWon dX13_readWon_45
theorem rX13_readWon_46 : ab_Run X 194 46 (15, 0, 0) L (ab_R a :: st) σ Q ↔ ((ab_sh σ a).1 = 14 ∧ ab_cats st ≤ 8) ∧ ab_Do X 186 [ab_R a] σ (fun r σ' => ab_Run X 194 49 (15, 0, 0) L (ab_psh r st) σ' Q) := ab_r_callV (w := []) (as := []) (b1 := (12, 0, 0)) 0 (Or.inl rfl) (by decide) ko_X13_readWon qM_13_337 (by decide) rfl rfl rfl rfl rfl (by decide) (Nat.le_of_ble_eq_true rfl) kc_X13_readWon dX13_readWon_46
theorem rX13_readWon_49 : ab_Run X 194 49 (15, 0, 0) [l0, l1, l2, l3] (ab_I z :: st) σ Q ↔ (!ab_isJ l2) = true ∧ ab_Run X 194 50 (15, 0, 0) [l0, l1, l2, ab_I z] st σ Q := ab_r_istore_n (Nat.le_of_ble_eq_true rfl) kc_X13_readWon dX13_readWon_49
theorem rX13_readWon_50 : ab_Run X 194 50 (15, 0, 0) [ab_R z, l1, l2, l3] st σ Q ↔ z ≠ 0 ∧ ab_Run X 194 51 (15, 0, 0) [ab_R z, l1, l2, l3] (ab_R z :: st) σ Q := ab_r_aload_n rfl kc_X13_readWon dX13_readWon_50
theorem rX13_readWon_51 : ab_Run X 194 51 (15, 0, 0) L (ab_R a :: st) σ Q ↔ (ab_sh σ a).1 = 14 ∧ ab_Run X 194 54 (15, 0, 0) L (ab_I (ab_rd σ a 9) :: st) σ Q := gF_13_85 ko_X13_readWon kc_X13_readWon dX13_readWon_51
theorem rX13_readWon_54 : ab_Run X 194 54 (15, 0, 0) L st σ Q ↔ ab_Run X 194 55 (15, 0, 0) L (ab_I 5 :: st) σ Q := ab_r_iconst (by decide) kc_X13_readWon dX13_readWon_54
theorem rX13_readWon_55 : ab_Run X 194 55 (15, 0, 0) L (ab_I b :: ab_I a :: st) σ Q ↔ (¬ a = b → ab_Run X 194 59 (15, 0, 0) L st σ Q) ∧ (¬ (¬ a = b) → ab_Run X 194 58 (15, 0, 0) L st σ Q) := ab_r_icmp_ne rfl kc_X13_readWon dX13_readWon_55
theorem rX13_readWon_58 : ab_Run X 194 58 (15, 0, 0) L [] σ Q ↔ Q none σ := ab_r_return rfl kc_X13_readWon dX13_readWon_58
theorem rX13_readWon_59 : ab_Run X 194 59 (15, 0, 0) [ab_R z, l1, l2, l3] st σ Q ↔ z ≠ 0 ∧ ab_Run X 194 60 (15, 0, 0) [ab_R z, l1, l2, l3] (ab_R z :: st) σ Q := ab_r_aload_n rfl kc_X13_readWon dX13_readWon_59
theorem rX13_readWon_60 : ab_Run X 194 60 (15, 0, 0) L (ab_R a :: st) σ Q ↔ (ab_sh σ a).1 = 14 ∧ ab_Run X 194 63 (15, 0, 0) L (ab_R (ab_rd σ a 4) :: st) σ Q := gF_13_171 ko_X13_readWon kc_X13_readWon dX13_readWon_60
theorem rX13_readWon_63 : ab_Run X 194 63 (15, 0, 0) L (ab_R a :: st) σ Q ↔ (ab_sh σ a).1 = 13 ∧ ab_Run X 194 66 (15, 0, 0) L (ab_R (ab_rd σ a 22) :: st) σ Q := gF_13_340 ko_X13_readWon kc_X13_readWon dX13_readWon_63
theorem rX13_readWon_66 : ab_Run X 194 66 (15, 0, 0) [ab_R z, l1, l2, l3] st σ Q ↔ z ≠ 0 ∧ ab_Run X 194 67 (15, 0, 0) [ab_R z, l1, l2, l3] (ab_R z :: st) σ Q := ab_r_aload_n rfl kc_X13_readWon dX13_readWon_66
theorem rX13_readWon_67 : ab_Run X 194 67 (15, 0, 0) L (ab_R a :: st) σ Q ↔ (ab_sh σ a).1 = 14 ∧ ab_Run X 194 70 (15, 0, 0) L (ab_R (ab_rd σ a 4) :: st) σ Q := gF_13_171 ko_X13_readWon kc_X13_readWon dX13_readWon_67
theorem rX13_readWon_70 : ab_Run X 194 70 (15, 0, 0) L (ab_R a :: st) σ Q ↔ (ab_sh σ a).1 = 13 ∧ ab_Run X 194 73 (15, 0, 0) L (ab_I (ab_rd σ a 8) :: st) σ Q := gF_13_334 ko_X13_readWon kc_X13_readWon dX13_readWon_70
theorem rX13_readWon_73 : ab_Run X 194 73 (15, 0, 0) [l0, ab_I z, l2, l3] st σ Q ↔ ab_Run X 194 74 (15, 0, 0) [l0, ab_I z, l2, l3] (ab_I z :: st) σ Q := ab_r_iload_n rfl kc_X13_readWon dX13_readWon_73
theorem rX13_readWon_74 : ab_Run X 194 74 (15, 0, 0) L (ab_I v :: ab_I i :: ab_R a :: st) σ Q ↔ ((ab_sh σ a).1 = 21 ∧ 0 ≤ i ∧ i < (ab_sh σ a).2) ∧ ab_Run X 194 75 (15, 0, 0) L st (ab_wr σ a i v) Q := ab_r_iastore kc_X13_readWon dX13_readWon_74
theorem rX13_readWon_75 : ab_Run X 194 75 (15, 0, 0) [ab_R z, l1, l2, l3] st σ Q ↔ z ≠ 0 ∧ ab_Run X 194 76 (15, 0, 0) [ab_R z, l1, l2, l3] (ab_R z :: st) σ Q := ab_r_aload_n rfl kc_X13_readWon dX13_readWon_75
theorem rX13_readWon_76 : ab_Run X 194 76 (15, 0, 0) L (ab_R a :: st) σ Q ↔ (ab_sh σ a).1 = 14 ∧ ab_Run X 194 79 (15, 0, 0) L (ab_R (ab_rd σ a 4) :: st) σ Q := gF_13_171 ko_X13_readWon kc_X13_readWon dX13_readWon_76
theorem rX13_readWon_79 : ab_Run X 194 79 (15, 0, 0) L (ab_R a :: st) σ Q ↔ (ab_sh σ a).1 = 13 ∧ ab_Run X 194 82 (15, 0, 0) L (ab_R (ab_rd σ a 23) :: st) σ Q := gF_13_343 ko_X13_readWon kc_X13_readWon dX13_readWon_79
theorem rX13_readWon_82 : ab_Run X 194 82 (15, 0, 0) [ab_R z, l1, l2, l3] st σ Q ↔ z ≠ 0 ∧ ab_Run X 194 83 (15, 0, 0) [ab_R z, l1, l2, l3] (ab_R z :: st) σ Q := ab_r_aload_n rfl kc_X13_readWon dX13_readWon_82
theorem rX13_readWon_83 : ab_Run X 194 83 (15, 0, 0) L (ab_R a :: st) σ Q ↔ (ab_sh σ a).1 = 14 ∧ ab_Run X 194 86 (15, 0, 0) L (ab_R (ab_rd σ a 4) :: st) σ Q := gF_13_171 ko_X13_readWon kc_X13_readWon dX13_readWon_83
theorem rX13_readWon_86 : ab_Run X 194 86 (15, 0, 0) L (ab_R a :: st) σ Q ↔ (ab_sh σ a).1 = 13 ∧ ab_Run X 194 89 (15, 0, 0) L (ab_I (ab_rd σ a 8) :: st) σ Q := gF_13_334 ko_X13_readWon kc_X13_readWon dX13_readWon_86
theorem rX13_readWon_89 : ab_Run X 194 89 (15, 0, 0) [l0, l1, ab_I z, l3] st σ Q ↔ ab_Run X 194 90 (15, 0, 0) [l0, l1, ab_I z, l3] (ab_I z :: st) σ Q := ab_r_iload_n rfl kc_X13_readWon dX13_readWon_89
theorem rX13_readWon_90 : ab_Run X 194 90 (15, 0, 0) L (ab_I v :: ab_I i :: ab_R a :: st) σ Q ↔ ((ab_sh σ a).1 = 21 ∧ 0 ≤ i ∧ i < (ab_sh σ a).2) ∧ ab_Run X 194 91 (15, 0, 0) L st (ab_wr σ a i v) Q := ab_r_iastore kc_X13_readWon dX13_readWon_90
theorem rX13_readWon_91 : ab_Run X 194 91 (15, 0, 0) [ab_R z, l1, l2, l3] st σ Q ↔ z ≠ 0 ∧ ab_Run X 194 92 (15, 0, 0) [ab_R z, l1, l2, l3] (ab_R z :: st) σ Q := ab_r_aload_n rfl kc_X13_readWon dX13_readWon_91
theorem rX13_readWon_92 : ab_Run X 194 92 (15, 0, 0) L (ab_R a :: st) σ Q ↔ (ab_sh σ a).1 = 14 ∧ ab_Run X 194 95 (15, 0, 0) L (ab_R (ab_rd σ a 4) :: st) σ Q := gF_13_171 ko_X13_readWon kc_X13_readWon dX13_readWon_92
theorem rX13_readWon_95 : ab_Run X 194 95 (15, 0, 0) L (ab_R a :: st) σ Q ↔ (ab_sh σ a).1 = 13 ∧ ab_Run X 194 98 (15, 0, 0) L (ab_R (ab_rd σ a 24) :: st) σ Q := gF_13_346 ko_X13_readWon kc_X13_readWon dX13_readWon_95
theorem rX13_readWon_98 : ab_Run X 194 98 (15, 0, 0) [ab_R z, l1, l2, l3] st σ Q ↔ z ≠ 0 ∧ ab_Run X 194 99 (15, 0, 0) [ab_R z, l1, l2, l3] (ab_R z :: st) σ Q := ab_r_aload_n rfl kc_X13_readWon dX13_readWon_98
theorem rX13_readWon_99 : ab_Run X 194 99 (15, 0, 0) L (ab_R a :: st) σ Q ↔ (ab_sh σ a).1 = 14 ∧ ab_Run X 194 102 (15, 0, 0) L (ab_R (ab_rd σ a 4) :: st) σ Q := gF_13_171 ko_X13_readWon kc_X13_readWon dX13_readWon_99
theorem rX13_readWon_102 : ab_Run X 194 102 (15, 0, 0) L (ab_R a :: st) σ Q ↔ (ab_sh σ a).1 = 13 ∧ ab_Run X 194 105 (15, 0, 0) L (ab_I (ab_rd σ a 8) :: st) σ Q := gF_13_334 ko_X13_readWon kc_X13_readWon dX13_readWon_102
theorem rX13_readWon_105 : ab_Run X 194 105 (15, 0, 0) [l0, l1, l2, ab_I z] st σ Q ↔ ab_Run X 194 106 (15, 0, 0) [l0, l1, l2, ab_I z] (ab_I z :: st) σ Q := ab_r_iload_n rfl kc_X13_readWon dX13_readWon_105
theorem rX13_readWon_106 : ab_Run X 194 106 (15, 0, 0) L (ab_I v :: ab_I i :: ab_R a :: st) σ Q ↔ ((ab_sh σ a).1 = 21 ∧ 0 ≤ i ∧ i < (ab_sh σ a).2) ∧ ab_Run X 194 107 (15, 0, 0) L st (ab_wr σ a i v) Q := ab_r_iastore kc_X13_readWon dX13_readWon_106
theorem rX13_readWon_107 : ab_Run X 194 107 (15, 0, 0) [ab_R z, l1, l2, l3] st σ Q ↔ z ≠ 0 ∧ ab_Run X 194 108 (15, 0, 0) [ab_R z, l1, l2, l3] (ab_R z :: st) σ Q := ab_r_aload_n rfl kc_X13_readWon dX13_readWon_107
theorem rX13_readWon_108 : ab_Run X 194 108 (15, 0, 0) L (ab_R a :: st) σ Q ↔ (ab_sh σ a).1 = 14 ∧ ab_Run X 194 111 (15, 0, 0) L (ab_R (ab_rd σ a 4) :: st) σ Q := gF_13_171 ko_X13_readWon kc_X13_readWon dX13_readWon_108
theorem rX13_readWon_111I : ab_Run X 194 111 (15, 0, 0) L (ab_I a :: st) σ Q ↔ ab_Run X 194 112 (15, 0, 0) L (ab_I a :: ab_I a :: st) σ Q := ab_r_dupI kc_X13_readWon dX13_readWon_111
theorem rX13_readWon_111R : ab_Run X 194 111 (15, 0, 0) L (ab_R a :: st) σ Q ↔ ab_Run X 194 112 (15, 0, 0) L (ab_R a :: ab_R a :: st) σ Q := ab_r_dupR kc_X13_readWon dX13_readWon_111
theorem rX13_readWon_112 : ab_Run X 194 112 (15, 0, 0) L (ab_R a :: st) σ Q ↔ (ab_sh σ a).1 = 13 ∧ ab_Run X 194 115 (15, 0, 0) L (ab_I (ab_rd σ a 8) :: st) σ Q := gF_13_334 ko_X13_readWon kc_X13_readWon dX13_readWon_112
theorem rX13_readWon_115 : ab_Run X 194 115 (15, 0, 0) L st σ Q ↔ ab_Run X 194 116 (15, 0, 0) L (ab_I 1 :: st) σ Q := ab_r_iconst (by decide) kc_X13_readWon dX13_readWon_115
theorem rX13_readWon_116 : ab_Run X 194 116 (15, 0, 0) L (ab_I b :: ab_I a :: st) σ Q ↔ ab_Run X 194 117 (15, 0, 0) L (ab_I (ab_w32 (a + b)) :: st) σ Q := ab_r_iadd kc_X13_readWon dX13_readWon_116
theorem rX13_readWon_117 : ab_Run X 194 117 (15, 0, 0) L (ab_I z :: ab_R a :: st) σ Q ↔ (ab_sh σ a).1 = 13 ∧ ab_Run X 194 120 (15, 0, 0) L st (ab_wr σ a 8 z) Q := sF_13_334 ko_X13_readWon kc_X13_readWon dX13_readWon_117
theorem rX13_readWon_120 : ab_Run X 194 120 (15, 0, 0) L [] σ Q ↔ Q none σ := ab_r_return rfl kc_X13_readWon dX13_readWon_120
theorem kc_X13_readPiece : ab_code 195 = cX13_readPiece := rfl
theorem ko_X13_readPiece : ab_ow 195 = 13 := rfl
theorem rX13_readPiece_0 : ab_Run X 195 0 (13, 0, 0) [ab_R z, l1, l2] st σ Q ↔ z ≠ 0 ∧ ab_Run X 195 1 (13, 0, 0) [ab_R z, l1, l2] (ab_R z :: st) σ Q := ab_r_aload_n rfl kc_X13_readPiece dX13_readPiece_0
theorem rX13_readPiece_1 : ab_Run X 195 1 (13, 0, 0) [ab_R z, l1, l2] st σ Q ↔ z ≠ 0 ∧ ab_Run X 195 2 (13, 0, 0) [ab_R z, l1, l2] (ab_R z :: st) σ Q := ab_r_aload_n rfl kc_X13_readPiece dX13_readPiece_1
theorem rX13_readPiece_2 : ab_Run X 195 2 (13, 0, 0) L (ab_R a :: st) σ Q ↔ (ab_sh σ a).1 = 14 ∧ ab_Run X 195 5 (13, 0, 0) L (ab_R (ab_rd σ a 4) :: st) σ Q := gF_13_171 ko_X13_readPiece kc_X13_readPiece dX13_readPiece_2
theorem rX13_readPiece_5 : ab_Run X 195 5 (13, 0, 0) L (ab_R a :: st) σ Q ↔ (ab_sh σ a).1 = 13 ∧ ab_Run X 195 8 (13, 0, 0) L (ab_I (ab_rd σ a 9) :: st) σ Q := gF_13_349 ko_X13_readPiece kc_X13_readPiece dX13_readPiece_5
theorem rX13_readPiece_8 : ab_Run X 195 8 (13, 0, 0) L st σ Q ↔ ab_Run X 195 9 (13, 0, 0) L (ab_I 4 :: st) σ Q := ab_r_iconst (by decide) kc_X13_readPiece dX13_readPiece_8
theorem rX13_readPiece_9 : ab_Run X 195 9 (13, 0, 0) L (ab_I x2 :: ab_I x1 :: ab_R a :: st) σ Q ↔ ((ab_sh σ a).1 = 14 ∧ ab_cats st ≤ 8) ∧ ab_Do X 181 [ab_R a, ab_I x1, ab_I x2] σ (fun r σ' => ab_Run X 195 12 (13, 0, 0) L (ab_psh r st) σ' Q) := ab_r_callV (w := [ab_I x2, ab_I x1]) (as := [ab_I x1, ab_I x2]) (b1 := (2, 0, 0)) 0 (Or.inl rfl) (by decide) ko_X13_readPiece qM_13_266 (by decide) rfl rfl rfl rfl rfl (by decide) (Nat.le_of_ble_eq_true rfl) kc_X13_readPiece dX13_readPiece_9
theorem rX13_readPiece_12 : ab_Run X 195 12 (13, 0, 0) [ab_R z, l1, l2] st σ Q ↔ z ≠ 0 ∧ ab_Run X 195 13 (13, 0, 0) [ab_R z, l1, l2] (ab_R z :: st) σ Q := ab_r_aload_n rfl kc_X13_readPiece dX13_readPiece_12
theorem rX13_readPiece_13 : ab_Run X 195 13 (13, 0, 0) L (ab_R a :: st) σ Q ↔ ((ab_sh σ a).1 = 14 ∧ ab_cats st ≤ 8) ∧ ab_Do X 186 [ab_R a] σ (fun r σ' => ab_Run X 195 16 (13, 0, 0) L (ab_psh r st) σ' Q) := ab_r_callV (w := []) (as := []) (b1 := (12, 0, 0)) 0 (Or.inl rfl) (by decide) ko_X13_readPiece qM_13_337 (by decide) rfl rfl rfl rfl rfl (by decide) (Nat.le_of_ble_eq_true rfl) kc_X13_readPiece dX13_readPiece_13
theorem rX13_readPiece_16 : ab_Run X 195 16 (13, 0, 0) [l0, l1, l2] (ab_I z :: st) σ Q ↔ (!ab_isJ l0) = true ∧ ab_Run X 195 17 (13, 0, 0) [l0, ab_I z, l2] st σ Q := ab_r_istore_n (Nat.le_of_ble_eq_true rfl) kc_X13_readPiece dX13_readPiece_16
theorem rX13_readPiece_17 : ab_Run X 195 17 (13, 0, 0) [ab_R z, l1, l2] st σ Q ↔ z ≠ 0 ∧ ab_Run X 195 18 (13, 0, 0) [ab_R z, l1, l2] (ab_R z :: st) σ Q := ab_r_aload_n rfl kc_X13_readPiece dX13_readPiece_17
theorem rX13_readPiece_18 : ab_Run X 195 18 (13, 0, 0) L st σ Q ↔ ab_Run X 195 19 (13, 0, 0) L (ab_I 0 :: st) σ Q := ab_r_iconst (by decide) kc_X13_readPiece dX13_readPiece_18
theorem rX13_readPiece_19 : ab_Run X 195 19 (13, 0, 0) L st σ Q ↔ ab_Run X 195 20 (13, 0, 0) L (ab_I 5 :: st) σ Q := ab_r_iconst (by decide) kc_X13_readPiece dX13_readPiece_19
theorem rX13_readPiece_20 : ab_Run X 195 20 (13, 0, 0) L (ab_I x2 :: ab_I x1 :: ab_R a :: st) σ Q ↔ ((ab_sh σ a).1 = 14 ∧ ab_cats st ≤ 8) ∧ ab_Do X 178 [ab_R a, ab_I x1, ab_I x2] σ (fun r σ' => ab_Run X 195 23 (13, 0, 0) L (ab_psh r st) σ' Q) := ab_r_callV (w := [ab_I x2, ab_I x1]) (as := [ab_I x1, ab_I x2]) (b1 := (2, 0, 0)) 0 (Or.inl rfl) (by decide) ko_X13_readPiece qM_13_150 (by decide) rfl rfl rfl rfl rfl (by decide) (Nat.le_of_ble_eq_true rfl) kc_X13_readPiece dX13_readPiece_20
theorem rX13_readPiece_23 : ab_Run X 195 23 (13, 0, 0) [l0, l1, l2] (ab_I z :: st) σ Q ↔ (!ab_isJ l1) = true ∧ ab_Run X 195 24 (13, 0, 0) [l0, l1, ab_I z] st σ Q := ab_r_istore_n (Nat.le_of_ble_eq_true rfl) kc_X13_readPiece dX13_readPiece_23
theorem rX13_readPiece_24 : ab_Run X 195 24 (13, 0, 0) [ab_R z, l1, l2] st σ Q ↔ z ≠ 0 ∧ ab_Run X 195 25 (13, 0, 0) [ab_R z, l1, l2] (ab_R z :: st) σ Q := ab_r_aload_n rfl kc_X13_readPiece dX13_readPiece_24
theorem rX13_readPiece_25 : ab_Run X 195 25 (13, 0, 0) L (ab_R a :: st) σ Q ↔ (ab_sh σ a).1 = 14 ∧ ab_Run X 195 28 (13, 0, 0) L (ab_I (ab_rd σ a 9) :: st) σ Q := gF_13_85 ko_X13_readPiece kc_X13_readPiece dX13_readPiece_25
theorem rX13_readPiece_28 : ab_Run X 195 28 (13, 0, 0) L st σ Q ↔ ab_Run X 195 29 (13, 0, 0) L (ab_I 5 :: st) σ Q := ab_r_iconst (by decide) kc_X13_readPiece dX13_readPiece_28
theorem rX13_readPiece_29 : ab_Run X 195 29 (13, 0, 0) L (ab_I b :: ab_I a :: st) σ Q ↔ (¬ a = b → ab_Run X 195 33 (13, 0, 0) L st σ Q) ∧ (¬ (¬ a = b) → ab_Run X 195 32 (13, 0, 0) L st σ Q) := ab_r_icmp_ne rfl kc_X13_readPiece dX13_readPiece_29
theorem rX13_readPiece_32 : ab_Run X 195 32 (13, 0, 0) L [] σ Q ↔ Q none σ := ab_r_return rfl kc_X13_readPiece dX13_readPiece_32
theorem rX13_readPiece_33 : ab_Run X 195 33 (13, 0, 0) [ab_R z, l1, l2] st σ Q ↔ z ≠ 0 ∧ ab_Run X 195 34 (13, 0, 0) [ab_R z, l1, l2] (ab_R z :: st) σ Q := ab_r_aload_n rfl kc_X13_readPiece dX13_readPiece_33
theorem rX13_readPiece_34 : ab_Run X 195 34 (13, 0, 0) L (ab_R a :: st) σ Q ↔ (ab_sh σ a).1 = 14 ∧ ab_Run X 195 37 (13, 0, 0) L (ab_R (ab_rd σ a 4) :: st) σ Q := gF_13_171 ko_X13_readPiece kc_X13_readPiece dX13_readPiece_34
theorem rX13_readPiece_37 : ab_Run X 195 37 (13, 0, 0) L (ab_R a :: st) σ Q ↔ (ab_sh σ a).1 = 13 ∧ ab_Run X 195 40 (13, 0, 0) L (ab_R (ab_rd σ a 25) :: st) σ Q := gF_13_352 ko_X13_readPiece kc_X13_readPiece dX13_readPiece_37
theorem rX13_readPiece_40 : ab_Run X 195 40 (13, 0, 0) [ab_R z, l1, l2] st σ Q ↔ z ≠ 0 ∧ ab_Run X 195 41 (13, 0, 0) [ab_R z, l1, l2] (ab_R z :: st) σ Q := ab_r_aload_n rfl kc_X13_readPiece dX13_readPiece_40
theorem rX13_readPiece_41 : ab_Run X 195 41 (13, 0, 0) L (ab_R a :: st) σ Q ↔ (ab_sh σ a).1 = 14 ∧ ab_Run X 195 44 (13, 0, 0) L (ab_R (ab_rd σ a 4) :: st) σ Q := gF_13_171 ko_X13_readPiece kc_X13_readPiece dX13_readPiece_41
theorem rX13_readPiece_44 : ab_Run X 195 44 (13, 0, 0) L (ab_R a :: st) σ Q ↔ (ab_sh σ a).1 = 13 ∧ ab_Run X 195 47 (13, 0, 0) L (ab_I (ab_rd σ a 9) :: st) σ Q := gF_13_349 ko_X13_readPiece kc_X13_readPiece dX13_readPiece_44
theorem rX13_readPiece_47 : ab_Run X 195 47 (13, 0, 0) [l0, ab_I z, l2] st σ Q ↔ ab_Run X 195 48 (13, 0, 0) [l0, ab_I z, l2] (ab_I z :: st) σ Q := ab_r_iload_n rfl kc_X13_readPiece dX13_readPiece_47
theorem rX13_readPiece_48 : ab_Run X 195 48 (13, 0, 0) L (ab_I v :: ab_I i :: ab_R a :: st) σ Q ↔ ((ab_sh σ a).1 = 21 ∧ 0 ≤ i ∧ i < (ab_sh σ a).2) ∧ ab_Run X 195 49 (13, 0, 0) L st (ab_wr σ a i v) Q := ab_r_iastore kc_X13_readPiece dX13_readPiece_48
theorem rX13_readPiece_49 : ab_Run X 195 49 (13, 0, 0) [ab_R z, l1, l2] st σ Q ↔ z ≠ 0 ∧ ab_Run X 195 50 (13, 0, 0) [ab_R z, l1, l2] (ab_R z :: st) σ Q := ab_r_aload_n rfl kc_X13_readPiece dX13_readPiece_49
theorem rX13_readPiece_50 : ab_Run X 195 50 (13, 0, 0) L (ab_R a :: st) σ Q ↔ (ab_sh σ a).1 = 14 ∧ ab_Run X 195 53 (13, 0, 0) L (ab_R (ab_rd σ a 4) :: st) σ Q := gF_13_171 ko_X13_readPiece kc_X13_readPiece dX13_readPiece_50
theorem rX13_readPiece_53 : ab_Run X 195 53 (13, 0, 0) L (ab_R a :: st) σ Q ↔ (ab_sh σ a).1 = 13 ∧ ab_Run X 195 56 (13, 0, 0) L (ab_R (ab_rd σ a 26) :: st) σ Q := gF_13_355 ko_X13_readPiece kc_X13_readPiece dX13_readPiece_53
theorem rX13_readPiece_56 : ab_Run X 195 56 (13, 0, 0) [ab_R z, l1, l2] st σ Q ↔ z ≠ 0 ∧ ab_Run X 195 57 (13, 0, 0) [ab_R z, l1, l2] (ab_R z :: st) σ Q := ab_r_aload_n rfl kc_X13_readPiece dX13_readPiece_56
theorem rX13_readPiece_57 : ab_Run X 195 57 (13, 0, 0) L (ab_R a :: st) σ Q ↔ (ab_sh σ a).1 = 14 ∧ ab_Run X 195 60 (13, 0, 0) L (ab_R (ab_rd σ a 4) :: st) σ Q := gF_13_171 ko_X13_readPiece kc_X13_readPiece dX13_readPiece_57
theorem rX13_readPiece_60 : ab_Run X 195 60 (13, 0, 0) L (ab_R a :: st) σ Q ↔ (ab_sh σ a).1 = 13 ∧ ab_Run X 195 63 (13, 0, 0) L (ab_I (ab_rd σ a 9) :: st) σ Q := gF_13_349 ko_X13_readPiece kc_X13_readPiece dX13_readPiece_60
theorem rX13_readPiece_63 : ab_Run X 195 63 (13, 0, 0) [l0, l1, ab_I z] st σ Q ↔ ab_Run X 195 64 (13, 0, 0) [l0, l1, ab_I z] (ab_I z :: st) σ Q := ab_r_iload_n rfl kc_X13_readPiece dX13_readPiece_63
theorem rX13_readPiece_64 : ab_Run X 195 64 (13, 0, 0) L (ab_I v :: ab_I i :: ab_R a :: st) σ Q ↔ ((ab_sh σ a).1 = 21 ∧ 0 ≤ i ∧ i < (ab_sh σ a).2) ∧ ab_Run X 195 65 (13, 0, 0) L st (ab_wr σ a i v) Q := ab_r_iastore kc_X13_readPiece dX13_readPiece_64
theorem rX13_readPiece_65 : ab_Run X 195 65 (13, 0, 0) [ab_R z, l1, l2] st σ Q ↔ z ≠ 0 ∧ ab_Run X 195 66 (13, 0, 0) [ab_R z, l1, l2] (ab_R z :: st) σ Q := ab_r_aload_n rfl kc_X13_readPiece dX13_readPiece_65
theorem rX13_readPiece_66 : ab_Run X 195 66 (13, 0, 0) L (ab_R a :: st) σ Q ↔ (ab_sh σ a).1 = 14 ∧ ab_Run X 195 69 (13, 0, 0) L (ab_R (ab_rd σ a 4) :: st) σ Q := gF_13_171 ko_X13_readPiece kc_X13_readPiece dX13_readPiece_66
theorem rX13_readPiece_69I : ab_Run X 195 69 (13, 0, 0) L (ab_I a :: st) σ Q ↔ ab_Run X 195 70 (13, 0, 0) L (ab_I a :: ab_I a :: st) σ Q := ab_r_dupI kc_X13_readPiece dX13_readPiece_69
theorem rX13_readPiece_69R : ab_Run X 195 69 (13, 0, 0) L (ab_R a :: st) σ Q ↔ ab_Run X 195 70 (13, 0, 0) L (ab_R a :: ab_R a :: st) σ Q := ab_r_dupR kc_X13_readPiece dX13_readPiece_69
theorem rX13_readPiece_70 : ab_Run X 195 70 (13, 0, 0) L (ab_R a :: st) σ Q ↔ (ab_sh σ a).1 = 13 ∧ ab_Run X 195 73 (13, 0, 0) L (ab_I (ab_rd σ a 9) :: st) σ Q := gF_13_349 ko_X13_readPiece kc_X13_readPiece dX13_readPiece_70
theorem rX13_readPiece_73 : ab_Run X 195 73 (13, 0, 0) L st σ Q ↔ ab_Run X 195 74 (13, 0, 0) L (ab_I 1 :: st) σ Q := ab_r_iconst (by decide) kc_X13_readPiece dX13_readPiece_73
theorem rX13_readPiece_74 : ab_Run X 195 74 (13, 0, 0) L (ab_I b :: ab_I a :: st) σ Q ↔ ab_Run X 195 75 (13, 0, 0) L (ab_I (ab_w32 (a + b)) :: st) σ Q := ab_r_iadd kc_X13_readPiece dX13_readPiece_74
theorem rX13_readPiece_75 : ab_Run X 195 75 (13, 0, 0) L (ab_I z :: ab_R a :: st) σ Q ↔ (ab_sh σ a).1 = 13 ∧ ab_Run X 195 78 (13, 0, 0) L st (ab_wr σ a 9 z) Q := sF_13_349 ko_X13_readPiece kc_X13_readPiece dX13_readPiece_75
theorem rX13_readPiece_78 : ab_Run X 195 78 (13, 0, 0) L [] σ Q ↔ Q none σ := ab_r_return rfl kc_X13_readPiece dX13_readPiece_78
end
