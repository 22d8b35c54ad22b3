theorem dX13_refusesTurns_0 : decode cX13_refusesTurns 0 = .ok (.aload_n 0, 1) := by decide +kernel
theorem dX13_refusesTurns_1 : decode cX13_refusesTurns 1 = .ok (.getfield 373, 3) := by decide +kernel
theorem dX13_refusesTurns_4 : decode cX13_refusesTurns 4 = .ok (.ifnonnull 7, 3) := by decide +kernel
theorem dX13_refusesTurns_7 : decode cX13_refusesTurns 7 = .ok (.iconst 1, 1) := by decide +kernel
theorem dX13_refusesTurns_8 : decode cX13_refusesTurns 8 = .ok (.goto 18, 3) := by decide +kernel
theorem dX13_refusesTurns_11 : decode cX13_refusesTurns 11 = .ok (.iload_n 1, 1) := by decide +kernel
theorem dX13_refusesTurns_12 : decode cX13_refusesTurns 12 = .ok (.iconst 1, 1) := by decide +kernel
theorem dX13_refusesTurns_13 : decode cX13_refusesTurns 13 = .ok (.bipush 9, 2) := by decide +kernel
theorem dX13_refusesTurns_15 : decode cX13_refusesTurns 15 = .ok (.invokestatic 138, 3) := by decide +kernel
theorem dX13_refusesTurns_18 : decode cX13_refusesTurns 18 = .ok (.ifCond .eq 7, 3) := by decide +kernel
theorem dX13_refusesTurns_21 : decode cX13_refusesTurns 21 = .ok (.iconst 0, 1) := by decide +kernel
theorem dX13_refusesTurns_22 : decode cX13_refusesTurns 22 = .ok (.goto 4, 3) := by decide +kernel
theorem dX13_refusesTurns_25 : decode cX13_refusesTurns 25 = .ok (.iconst 2, 1) := by decide +kernel
theorem dX13_refusesTurns_26 : decode cX13_refusesTurns 26 = .ok (.ireturn, 1) := by decide +kernel
theorem dX13_turnsOf_0 : decode cX13_turnsOf 0 = .ok (.aload_n 0, 1) := by decide +kernel
theorem dX13_turnsOf_1 : decode cX13_turnsOf 1 = .ok (.iconst 0, 1) := by decide +kernel
theorem dX13_turnsOf_2 : decode cX13_turnsOf 2 = .ok (.putfield 53, 3) := by decide +kernel
theorem dX13_turnsOf_5 : decode cX13_turnsOf 5 = .ok (.aload_n 0, 1) := by decide +kernel
theorem dX13_turnsOf_6 : decode cX13_turnsOf 6 = .ok (.iload_n 1, 1) := by decide +kernel
theorem dX13_turnsOf_7 : decode cX13_turnsOf 7 = .ok (.invokevirtual 532, 3) := by decide +kernel
theorem dX13_turnsOf_10 : decode cX13_turnsOf 10 = .ok (.istore_n 2, 1) := by decide +kernel
theorem dX13_turnsOf_11 : decode cX13_turnsOf 11 = .ok (.iload_n 2, 1) := by decide +kernel
theorem dX13_turnsOf_12 : decode cX13_turnsOf 12 = .ok (.ifCond .le 11, 3) := by decide +kernel
theorem dX13_turnsOf_15 : decode cX13_turnsOf 15 = .ok (.aload_n 0, 1) := by decide +kernel
theorem dX13_turnsOf_16 : decode cX13_turnsOf 16 = .ok (.iload_n 2, 1) := by decide +kernel
theorem dX13_turnsOf_17 : decode cX13_turnsOf 17 = .ok (.invokevirtual 59, 3) := by decide +kernel
theorem dX13_turnsOf_20 : decode cX13_turnsOf 20 = .ok (.goto 20, 3) := by decide +kernel
theorem dX13_turnsOf_23 : decode cX13_turnsOf 23 = .ok (.aload_n 0, 1) := by decide +kernel
theorem dX13_turnsOf_24 : decode cX13_turnsOf 24 = .ok (.aload_n 0, 1) := by decide +kernel
theorem dX13_turnsOf_25 : decode cX13_turnsOf 25 = .ok (.iload_n 1, 1) := by decide +kernel
theorem dX13_turnsOf_26 : decode cX13_turnsOf 26 = .ok (.invokevirtual 535, 3) := by decide +kernel
theorem dX13_turnsOf_29 : decode cX13_turnsOf 29 = .ok (.ifCond .eq 7, 3) := by decide +kernel
theorem dX13_turnsOf_32 : decode cX13_turnsOf 32 = .ok (.iconst 1, 1) := by decide +kernel
theorem dX13_turnsOf_33 : decode cX13_turnsOf 33 = .ok (.goto 4, 3) := by decide +kernel
theorem dX13_turnsOf_36 : decode cX13_turnsOf 36 = .ok (.iconst 0, 1) := by decide +kernel
theorem dX13_turnsOf_37 : decode cX13_turnsOf 37 = .ok (.invokevirtual 63, 3) := by decide +kernel
theorem dX13_turnsOf_40 : decode cX13_turnsOf 40 = .ok (.ireturn, 1) := by decide +kernel
theorem dX13_turnAt_0 : decode cX13_turnAt 0 = .ok (.aload_n 0, 1) := by decide +kernel
theorem dX13_turnAt_1 : decode cX13_turnAt 1 = .ok (.iconst 0, 1) := by decide +kernel
theorem dX13_turnAt_2 : decode cX13_turnAt 2 = .ok (.putfield 53, 3) := by decide +kernel
theorem dX13_turnAt_5 : decode cX13_turnAt 5 = .ok (.aload_n 0, 1) := by decide +kernel
theorem dX13_turnAt_6 : decode cX13_turnAt 6 = .ok (.iload_n 1, 1) := by decide +kernel
theorem dX13_turnAt_7 : decode cX13_turnAt 7 = .ok (.invokevirtual 532, 3) := by decide +kernel
theorem dX13_turnAt_10 : decode cX13_turnAt 10 = .ok (.istore_n 3, 1) := by decide +kernel
theorem dX13_turnAt_11 : decode cX13_turnAt 11 = .ok (.iload_n 3, 1) := by decide +kernel
theorem dX13_turnAt_12 : decode cX13_turnAt 12 = .ok (.ifCond .le 9, 3) := by decide +kernel
theorem dX13_turnAt_15 : decode cX13_turnAt 15 = .ok (.aload_n 0, 1) := by decide +kernel
theorem dX13_turnAt_16 : decode cX13_turnAt 16 = .ok (.iload_n 3, 1) := by decide +kernel
theorem dX13_turnAt_17 : decode cX13_turnAt 17 = .ok (.invokevirtual 59, 3) := by decide +kernel
theorem dX13_turnAt_20 : decode cX13_turnAt 20 = .ok (.ireturn, 1) := by decide +kernel
theorem dX13_turnAt_21 : decode cX13_turnAt 21 = .ok (.iload_n 2, 1) := by decide +kernel
theorem dX13_turnAt_22 : decode cX13_turnAt 22 = .ok (.ifCond .lt 8, 3) := by decide +kernel
theorem dX13_turnAt_25 : decode cX13_turnAt 25 = .ok (.iload_n 2, 1) := by decide +kernel
theorem dX13_turnAt_26 : decode cX13_turnAt 26 = .ok (.iload_n 1, 1) := by decide +kernel
theorem dX13_turnAt_27 : decode cX13_turnAt 27 = .ok (.if_icmp .lt 9, 3) := by decide +kernel
theorem dX13_turnAt_30 : decode cX13_turnAt 30 = .ok (.aload_n 0, 1) := by decide +kernel
theorem dX13_turnAt_31 : decode cX13_turnAt 31 = .ok (.iconst 1, 1) := by decide +kernel
theorem dX13_turnAt_32 : decode cX13_turnAt 32 = .ok (.invokevirtual 59, 3) := by decide +kernel
theorem dX13_turnAt_35 : decode cX13_turnAt 35 = .ok (.ireturn, 1) := by decide +kernel
theorem dX13_turnAt_36 : decode cX13_turnAt 36 = .ok (.aload_n 0, 1) := by decide +kernel
theorem dX13_turnAt_37 : decode cX13_turnAt 37 = .ok (.iload_n 1, 1) := by decide +kernel
theorem dX13_turnAt_38 : decode cX13_turnAt 38 = .ok (.invokevirtual 535, 3) := by decide +kernel
theorem dX13_turnAt_41 : decode cX13_turnAt 41 = .ok (.ifCond .eq 34, 3) := by decide +kernel
theorem dX13_turnAt_44 : decode cX13_turnAt 44 = .ok (.aload_n 0, 1) := by decide +kernel
theorem dX13_turnAt_45 : decode cX13_turnAt 45 = .ok (.bipush 10, 2) := by decide +kernel
theorem dX13_turnAt_47 : decode cX13_turnAt 47 = .ok (.aload_n 0, 1) := by decide +kernel
theorem dX13_turnAt_48 : decode cX13_turnAt 48 = .ok (.aload_n 0, 1) := by decide +kernel
theorem dX13_turnAt_49 : decode cX13_turnAt 49 = .ok (.getfield 44, 3) := by decide +kernel
theorem dX13_turnAt_52 : decode cX13_turnAt 52 = .ok (.iload_n 2, 1) := by decide +kernel
theorem dX13_turnAt_53 : decode cX13_turnAt 53 = .ok (.iaload, 1) := by decide +kernel
theorem dX13_turnAt_54 : decode cX13_turnAt 54 = .ok (.invokevirtual 514, 3) := by decide +kernel
theorem dX13_turnAt_57 : decode cX13_turnAt 57 = .ok (.imul, 1) := by decide +kernel
theorem dX13_turnAt_58 : decode cX13_turnAt 58 = .ok (.aload_n 0, 1) := by decide +kernel
theorem dX13_turnAt_59 : decode cX13_turnAt 59 = .ok (.aload_n 0, 1) := by decide +kernel
theorem dX13_turnAt_60 : decode cX13_turnAt 60 = .ok (.getfield 44, 3) := by decide +kernel
theorem dX13_turnAt_63 : decode cX13_turnAt 63 = .ok (.iload_n 2, 1) := by decide +kernel
theorem dX13_turnAt_64 : decode cX13_turnAt 64 = .ok (.iaload, 1) := by decide +kernel
theorem dX13_turnAt_65 : decode cX13_turnAt 65 = .ok (.invokevirtual 517, 3) := by decide +kernel
theorem dX13_turnAt_68 : decode cX13_turnAt 68 = .ok (.iadd, 1) := by decide +kernel
theorem dX13_turnAt_69 : decode cX13_turnAt 69 = .ok (.invokevirtual 63, 3) := by decide +kernel
theorem dX13_turnAt_72 : decode cX13_turnAt 72 = .ok (.goto 9, 3) := by decide +kernel
theorem dX13_turnAt_75 : decode cX13_turnAt 75 = .ok (.aload_n 0, 1) := by decide +kernel
theorem dX13_turnAt_76 : decode cX13_turnAt 76 = .ok (.bipush 6, 2) := by decide +kernel
theorem dX13_turnAt_78 : decode cX13_turnAt 78 = .ok (.invokevirtual 59, 3) := by decide +kernel
theorem dX13_turnAt_81 : decode cX13_turnAt 81 = .ok (.ireturn, 1) := by decide +kernel
theorem dX13_rowsOf_0 : decode cX13_rowsOf 0 = .ok (.lconst 0, 1) := by decide +kernel
theorem dX13_rowsOf_1 : decode cX13_rowsOf 1 = .ok (.lstore_n 2, 1) := by decide +kernel
theorem dX13_rowsOf_2 : decode cX13_rowsOf 2 = .ok (.lconst 1, 1) := by decide +kernel
theorem dX13_rowsOf_3 : decode cX13_rowsOf 3 = .ok (.lstore 4, 2) := by decide +kernel
theorem dX13_rowsOf_5 : decode cX13_rowsOf 5 = .ok (.iconst 0, 1) := by decide +kernel
theorem dX13_rowsOf_6 : decode cX13_rowsOf 6 = .ok (.istore 6, 2) := by decide +kernel
theorem dX13_rowsOf_8 : decode cX13_rowsOf 8 = .ok (.iload 6, 2) := by decide +kernel
theorem dX13_rowsOf_10 : decode cX13_rowsOf 10 = .ok (.iload_n 0, 1) := by decide +kernel
theorem dX13_rowsOf_11 : decode cX13_rowsOf 11 = .ok (.if_icmp .gt 36, 3) := by decide +kernel
theorem dX13_rowsOf_14 : decode cX13_rowsOf 14 = .ok (.iload 6, 2) := by decide +kernel
theorem dX13_rowsOf_16 : decode cX13_rowsOf 16 = .ok (.iload_n 1, 1) := by decide +kernel
theorem dX13_rowsOf_17 : decode cX13_rowsOf 17 = .ok (.if_icmp .lt 8, 3) := by decide +kernel
theorem dX13_rowsOf_20 : decode cX13_rowsOf 20 = .ok (.lload_n 2, 1) := by decide +kernel
theorem dX13_rowsOf_21 : decode cX13_rowsOf 21 = .ok (.lload 4, 2) := by decide +kernel
theorem dX13_rowsOf_23 : decode cX13_rowsOf 23 = .ok (.ladd, 1) := by decide +kernel
theorem dX13_rowsOf_24 : decode cX13_rowsOf 24 = .ok (.lstore_n 2, 1) := by decide +kernel
theorem dX13_rowsOf_25 : decode cX13_rowsOf 25 = .ok (.lload 4, 2) := by decide +kernel
theorem dX13_rowsOf_27 : decode cX13_rowsOf 27 = .ok (.iload_n 0, 1) := by decide +kernel
theorem dX13_rowsOf_28 : decode cX13_rowsOf 28 = .ok (.iload 6, 2) := by decide +kernel
theorem dX13_rowsOf_30 : decode cX13_rowsOf 30 = .ok (.isub, 1) := by decide +kernel
theorem dX13_rowsOf_31 : decode cX13_rowsOf 31 = .ok (.i2l, 1) := by decide +kernel
theorem dX13_rowsOf_32 : decode cX13_rowsOf 32 = .ok (.lmul, 1) := by decide +kernel
theorem dX13_rowsOf_33 : decode cX13_rowsOf 33 = .ok (.iload 6, 2) := by decide +kernel
theorem dX13_rowsOf_35 : decode cX13_rowsOf 35 = .ok (.iconst 1, 1) := by decide +kernel
theorem dX13_rowsOf_36 : decode cX13_rowsOf 36 = .ok (.iadd, 1) := by decide +kernel
theorem dX13_rowsOf_37 : decode cX13_rowsOf 37 = .ok (.i2l, 1) := by decide +kernel
theorem dX13_rowsOf_38 : decode cX13_rowsOf 38 = .ok (.ldiv, 1) := by decide +kernel
theorem dX13_rowsOf_39 : decode cX13_rowsOf 39 = .ok (.lstore 4, 2) := by decide +kernel
theorem dX13_rowsOf_41 : decode cX13_rowsOf 41 = .ok (.iinc 6 1, 3) := by decide +kernel
theorem dX13_rowsOf_44 : decode cX13_rowsOf 44 = .ok (.goto (-36), 3) := by decide +kernel
theorem dX13_rowsOf_47 : decode cX13_rowsOf 47 = .ok (.lload_n 2, 1) := by decide +kernel
theorem dX13_rowsOf_48 : decode cX13_rowsOf 48 = .ok (.lreturn, 1) := by decide +kernel
theorem dX13_hand_0 : decode cX13_hand 0 = .ok (.aload_n 0, 1) := by decide +kernel
theorem dX13_hand_1 : decode cX13_hand 1 = .ok (.iconst 0, 1) := by decide +kernel
theorem dX13_hand_2 : decode cX13_hand 2 = .ok (.putfield 53, 3) := by decide +kernel
theorem dX13_hand_5 : decode cX13_hand 5 = .ok (.aload_n 0, 1) := by decide +kernel
theorem dX13_hand_6 : decode cX13_hand 6 = .ok (.iload_n 1, 1) := by decide +kernel
theorem dX13_hand_7 : decode cX13_hand 7 = .ok (.invokevirtual 441, 3) := by decide +kernel
theorem dX13_hand_10 : decode cX13_hand 10 = .ok (.ifCond .ne 10, 3) := by decide +kernel
theorem dX13_hand_13 : decode cX13_hand 13 = .ok (.aload_n 0, 1) := by decide +kernel
theorem dX13_hand_14 : decode cX13_hand 14 = .ok (.iconst 1, 1) := by decide +kernel
theorem dX13_hand_15 : decode cX13_hand 15 = .ok (.invokevirtual 59, 3) := by decide +kernel
theorem dX13_hand_18 : decode cX13_hand 18 = .ok (.i2l, 1) := by decide +kernel
theorem dX13_hand_19 : decode cX13_hand 19 = .ok (.lreturn, 1) := by decide +kernel
theorem dX13_hand_20 : decode cX13_hand 20 = .ok (.aload_n 0, 1) := by decide +kernel
theorem dX13_hand_21 : decode cX13_hand 21 = .ok (.aload_n 0, 1) := by decide +kernel
theorem dX13_hand_22 : decode cX13_hand 22 = .ok (.iload_n 1, 1) := by decide +kernel
theorem dX13_hand_23 : decode cX13_hand 23 = .ok (.invokevirtual 452, 3) := by decide +kernel
theorem dX13_hand_26 : decode cX13_hand 26 = .ok (.aload_n 0, 1) := by decide +kernel
theorem dX13_hand_27 : decode cX13_hand 27 = .ok (.iload_n 1, 1) := by decide +kernel
theorem dX13_hand_28 : decode cX13_hand 28 = .ok (.invokevirtual 449, 3) := by decide +kernel
theorem dX13_hand_31 : decode cX13_hand 31 = .ok (.invokestatic 538, 3) := by decide +kernel
theorem dX13_hand_34 : decode cX13_hand 34 = .ok (.lconst 1, 1) := by decide +kernel
theorem dX13_hand_35 : decode cX13_hand 35 = .ok (.aload_n 0, 1) := by decide +kernel
theorem dX13_hand_36 : decode cX13_hand 36 = .ok (.iload_n 1, 1) := by decide +kernel
theorem dX13_hand_37 : decode cX13_hand 37 = .ok (.invokevirtual 452, 3) := by decide +kernel
theorem dX13_hand_40 : decode cX13_hand 40 = .ok (.lshl, 1) := by decide +kernel
theorem dX13_hand_41 : decode cX13_hand 41 = .ok (.iload_n 2, 1) := by decide +kernel
theorem dX13_hand_42 : decode cX13_hand 42 = .ok (.invokevirtual 466, 3) := by decide +kernel
theorem dX13_hand_45 : decode cX13_hand 45 = .ok (.lreturn, 1) := by decide +kernel
theorem dX13_side_0 : decode cX13_side 0 = .ok (.aload_n 0, 1) := by decide +kernel
theorem dX13_side_1 : decode cX13_side 1 = .ok (.iconst 0, 1) := by decide +kernel
theorem dX13_side_2 : decode cX13_side 2 = .ok (.putfield 53, 3) := by decide +kernel
theorem dX13_side_5 : decode cX13_side 5 = .ok (.aload_n 0, 1) := by decide +kernel
theorem dX13_side_6 : decode cX13_side 6 = .ok (.getfield 373, 3) := by decide +kernel
theorem dX13_side_9 : decode cX13_side 9 = .ok (.ifnonnull 10, 3) := by decide +kernel
theorem dX13_side_12 : decode cX13_side 12 = .ok (.aload_n 0, 1) := by decide +kernel
theorem dX13_side_13 : decode cX13_side 13 = .ok (.iconst 1, 1) := by decide +kernel
theorem dX13_side_14 : decode cX13_side 14 = .ok (.invokevirtual 59, 3) := by decide +kernel
theorem dX13_side_17 : decode cX13_side 17 = .ok (.i2l, 1) := by decide +kernel
theorem dX13_side_18 : decode cX13_side 18 = .ok (.lreturn, 1) := by decide +kernel
theorem dX13_side_19 : decode cX13_side 19 = .ok (.iconst 0, 1) := by decide +kernel
theorem dX13_side_20 : decode cX13_side 20 = .ok (.istore_n 2, 1) := by decide +kernel
theorem dX13_side_21 : decode cX13_side 21 = .ok (.iconst 0, 1) := by decide +kernel
theorem dX13_side_22 : decode cX13_side 22 = .ok (.istore_n 3, 1) := by decide +kernel
theorem dX13_side_23 : decode cX13_side 23 = .ok (.iload_n 3, 1) := by decide +kernel
theorem dX13_side_24 : decode cX13_side 24 = .ok (.aload_n 0, 1) := by decide +kernel
theorem dX13_side_25 : decode cX13_side 25 = .ok (.getfield 373, 3) := by decide +kernel
theorem dX13_side_28 : decode cX13_side 28 = .ok (.getfield 334, 3) := by decide +kernel
theorem dX13_side_31 : decode cX13_side 31 = .ok (.if_icmp .ge 29, 3) := by decide +kernel
theorem dX13_side_34 : decode cX13_side 34 = .ok (.iload_n 2, 1) := by decide +kernel
theorem dX13_side_35 : decode cX13_side 35 = .ok (.aload_n 0, 1) := by decide +kernel
theorem dX13_side_36 : decode cX13_side 36 = .ok (.getfield 373, 3) := by decide +kernel
theorem dX13_side_39 : decode cX13_side 39 = .ok (.getfield 346, 3) := by decide +kernel
theorem dX13_side_42 : decode cX13_side 42 = .ok (.iload_n 3, 1) := by decide +kernel
theorem dX13_side_43 : decode cX13_side 43 = .ok (.iaload, 1) := by decide +kernel
theorem dX13_side_44 : decode cX13_side 44 = .ok (.ifCond .ne 7, 3) := by decide +kernel
theorem dX13_side_47 : decode cX13_side 47 = .ok (.iconst 1, 1) := by decide +kernel
theorem dX13_side_48 : decode cX13_side 48 = .ok (.goto 4, 3) := by decide +kernel
theorem dX13_side_51 : decode cX13_side 51 = .ok (.iconst 0, 1) := by decide +kernel
theorem dX13_side_52 : decode cX13_side 52 = .ok (.iadd, 1) := by decide +kernel
theorem dX13_side_53 : decode cX13_side 53 = .ok (.istore_n 2, 1) := by decide +kernel
theorem dX13_side_54 : decode cX13_side 54 = .ok (.iinc 3 1, 3) := by decide +kernel
theorem dX13_side_57 : decode cX13_side 57 = .ok (.goto (-34), 3) := by decide +kernel
theorem dX13_side_60 : decode cX13_side 60 = .ok (.aload_n 0, 1) := by decide +kernel
theorem dX13_side_61 : decode cX13_side 61 = .ok (.aload_n 0, 1) := by decide +kernel
theorem dX13_side_62 : decode cX13_side 62 = .ok (.getfield 373, 3) := by decide +kernel
theorem dX13_side_65 : decode cX13_side 65 = .ok (.getfield 334, 3) := by decide +kernel
theorem dX13_side_68 : decode cX13_side 68 = .ok (.iload_n 2, 1) := by decide +kernel
theorem dX13_side_69 : decode cX13_side 69 = .ok (.invokestatic 538, 3) := by decide +kernel
theorem dX13_side_72 : decode cX13_side 72 = .ok (.lconst 1, 1) := by decide +kernel
theorem dX13_side_73 : decode cX13_side 73 = .ok (.aload_n 0, 1) := by decide +kernel
theorem dX13_side_74 : decode cX13_side 74 = .ok (.getfield 373, 3) := by decide +kernel
theorem dX13_side_77 : decode cX13_side 77 = .ok (.getfield 334, 3) := by decide +kernel
theorem dX13_side_80 : decode cX13_side 80 = .ok (.lshl, 1) := by decide +kernel
theorem dX13_side_81 : decode cX13_side 81 = .ok (.iload_n 1, 1) := by decide +kernel
theorem dX13_side_82 : decode cX13_side 82 = .ok (.invokevirtual 466, 3) := by decide +kernel
theorem dX13_side_85 : decode cX13_side 85 = .ok (.lreturn, 1) := by decide +kernel
theorem dX13_known_0 : decode cX13_known 0 = .ok (.aload_n 0, 1) := by decide +kernel
theorem dX13_known_1 : decode cX13_known 1 = .ok (.iconst 0, 1) := by decide +kernel
theorem dX13_known_2 : decode cX13_known 2 = .ok (.putfield 53, 3) := by decide +kernel
theorem dX13_known_5 : decode cX13_known 5 = .ok (.aload_n 0, 1) := by decide +kernel
theorem dX13_known_6 : decode cX13_known 6 = .ok (.getfield 373, 3) := by decide +kernel
theorem dX13_known_9 : decode cX13_known 9 = .ok (.ifnonnull 9, 3) := by decide +kernel
theorem dX13_known_12 : decode cX13_known 12 = .ok (.aload_n 0, 1) := by decide +kernel
theorem dX13_known_13 : decode cX13_known 13 = .ok (.iconst 1, 1) := by decide +kernel
theorem dX13_known_14 : decode cX13_known 14 = .ok (.invokevirtual 59, 3) := by decide +kernel
theorem dX13_known_17 : decode cX13_known 17 = .ok (.ireturn, 1) := by decide +kernel
theorem dX13_known_18 : decode cX13_known 18 = .ok (.iconst 0, 1) := by decide +kernel
theorem dX13_known_19 : decode cX13_known 19 = .ok (.istore_n 1, 1) := by decide +kernel
theorem dX13_known_20 : decode cX13_known 20 = .ok (.iconst 0, 1) := by decide +kernel
theorem dX13_known_21 : decode cX13_known 21 = .ok (.istore_n 2, 1) := by decide +kernel
theorem dX13_known_22 : decode cX13_known 22 = .ok (.iload_n 2, 1) := by decide +kernel
theorem dX13_known_23 : decode cX13_known 23 = .ok (.aload_n 0, 1) := by decide +kernel
theorem dX13_known_24 : decode cX13_known 24 = .ok (.getfield 373, 3) := by decide +kernel
theorem dX13_known_27 : decode cX13_known 27 = .ok (.getfield 213, 3) := by decide +kernel
theorem dX13_known_30 : decode cX13_known 30 = .ok (.if_icmp .ge 47, 3) := by decide +kernel
theorem dX13_known_33 : decode cX13_known 33 = .ok (.iload_n 1, 1) := by decide +kernel
theorem dX13_known_34 : decode cX13_known 34 = .ok (.ldc2_w 542, 3) := by decide +kernel
theorem dX13_known_37 : decode cX13_known 37 = .ok (.aload_n 0, 1) := by decide +kernel
theorem dX13_known_38 : decode cX13_known 38 = .ok (.iload_n 2, 1) := by decide +kernel
theorem dX13_known_39 : decode cX13_known 39 = .ok (.invokevirtual 452, 3) := by decide +kernel
theorem dX13_known_42 : decode cX13_known 42 = .ok (.aload_n 0, 1) := by decide +kernel
theorem dX13_known_43 : decode cX13_known 43 = .ok (.iload_n 2, 1) := by decide +kernel
theorem dX13_known_44 : decode cX13_known 44 = .ok (.invokevirtual 449, 3) := by decide +kernel
theorem dX13_known_47 : decode cX13_known 47 = .ok (.invokestatic 538, 3) := by decide +kernel
theorem dX13_known_50 : decode cX13_known 50 = .ok (.lmul, 1) := by decide +kernel
theorem dX13_known_51 : decode cX13_known 51 = .ok (.lconst 1, 1) := by decide +kernel
theorem dX13_known_52 : decode cX13_known 52 = .ok (.aload_n 0, 1) := by decide +kernel
theorem dX13_known_53 : decode cX13_known 53 = .ok (.iload_n 2, 1) := by decide +kernel
theorem dX13_known_54 : decode cX13_known 54 = .ok (.invokevirtual 452, 3) := by decide +kernel
theorem dX13_known_57 : decode cX13_known 57 = .ok (.lshl, 1) := by decide +kernel
theorem dX13_known_58 : decode cX13_known 58 = .ok (.lcmp, 1) := by decide +kernel
theorem dX13_known_59 : decode cX13_known 59 = .ok (.ifCond .gt 9, 3) := by decide +kernel
theorem dX13_known_62 : decode cX13_known 62 = .ok (.iconst 1, 1) := by decide +kernel
theorem dX13_known_63 : decode cX13_known 63 = .ok (.iload_n 2, 1) := by decide +kernel
theorem dX13_known_64 : decode cX13_known 64 = .ok (.ishl, 1) := by decide +kernel
theorem dX13_known_65 : decode cX13_known 65 = .ok (.goto 4, 3) := by decide +kernel
theorem dX13_known_68 : decode cX13_known 68 = .ok (.iconst 0, 1) := by decide +kernel
theorem dX13_known_69 : decode cX13_known 69 = .ok (.ior, 1) := by decide +kernel
theorem dX13_known_70 : decode cX13_known 70 = .ok (.istore_n 1, 1) := by decide +kernel
theorem dX13_known_71 : decode cX13_known 71 = .ok (.iinc 2 1, 3) := by decide +kernel
theorem dX13_known_74 : decode cX13_known 74 = .ok (.goto (-52), 3) := by decide +kernel
theorem dX13_known_77 : decode cX13_known 77 = .ok (.aload_n 0, 1) := by decide +kernel
theorem dX13_known_78 : decode cX13_known 78 = .ok (.iload_n 1, 1) := by decide +kernel
theorem dX13_known_79 : decode cX13_known 79 = .ok (.invokevirtual 63, 3) := by decide +kernel
theorem dX13_known_82 : decode cX13_known 82 = .ok (.ireturn, 1) := by decide +kernel
theorem dX13_hens_0 : decode cX13_hens 0 = .ok (.aload_n 0, 1) := by decide +kernel
theorem dX13_hens_1 : decode cX13_hens 1 = .ok (.iconst 0, 1) := by decide +kernel
theorem dX13_hens_2 : decode cX13_hens 2 = .ok (.putfield 53, 3) := by decide +kernel
theorem dX13_hens_5 : decode cX13_hens 5 = .ok (.aload_n 0, 1) := by decide +kernel
theorem dX13_hens_6 : decode cX13_hens 6 = .ok (.getfield 373, 3) := by decide +kernel
theorem dX13_hens_9 : decode cX13_hens 9 = .ok (.ifnonnull 9, 3) := by decide +kernel
theorem dX13_hens_12 : decode cX13_hens 12 = .ok (.aload_n 0, 1) := by decide +kernel
theorem dX13_hens_13 : decode cX13_hens 13 = .ok (.iconst 1, 1) := by decide +kernel
theorem dX13_hens_14 : decode cX13_hens 14 = .ok (.invokevirtual 59, 3) := by decide +kernel
theorem dX13_hens_17 : decode cX13_hens 17 = .ok (.ireturn, 1) := by decide +kernel
theorem dX13_hens_18 : decode cX13_hens 18 = .ok (.iload_n 1, 1) := by decide +kernel
theorem dX13_hens_19 : decode cX13_hens 19 = .ok (.iconst 1, 1) := by decide +kernel
theorem dX13_hens_20 : decode cX13_hens 20 = .ok (.ldc_w 544, 3) := by decide +kernel
theorem dX13_hens_23 : decode cX13_hens 23 = .ok (.invokestatic 138, 3) := by decide +kernel
theorem dX13_hens_26 : decode cX13_hens 26 = .ok (.ifCond .ne 9, 3) := by decide +kernel
theorem dX13_hens_29 : decode cX13_hens 29 = .ok (.aload_n 0, 1) := by decide +kernel
theorem dX13_hens_30 : decode cX13_hens 30 = .ok (.iconst 2, 1) := by decide +kernel
theorem dX13_hens_31 : decode cX13_hens 31 = .ok (.invokevirtual 59, 3) := by decide +kernel
theorem dX13_hens_34 : decode cX13_hens 34 = .ok (.ireturn, 1) := by decide +kernel
theorem dX13_hens_35 : decode cX13_hens 35 = .ok (.iconst 0, 1) := by decide +kernel
theorem dX13_hens_36 : decode cX13_hens 36 = .ok (.istore_n 2, 1) := by decide +kernel
theorem dX13_hens_37 : decode cX13_hens 37 = .ok (.iconst 1, 1) := by decide +kernel
theorem dX13_hens_38 : decode cX13_hens 38 = .ok (.iload_n 2, 1) := by decide +kernel
theorem dX13_hens_39 : decode cX13_hens 39 = .ok (.ishl, 1) := by decide +kernel
theorem dX13_hens_40 : decode cX13_hens 40 = .ok (.iload_n 1, 1) := by decide +kernel
theorem dX13_hens_41 : decode cX13_hens 41 = .ok (.if_icmp .ge 9, 3) := by decide +kernel
theorem dX13_hens_44 : decode cX13_hens 44 = .ok (.iinc 2 1, 3) := by decide +kernel
theorem dX13_hens_47 : decode cX13_hens 47 = .ok (.goto (-10), 3) := by decide +kernel
theorem dX13_hens_50 : decode cX13_hens 50 = .ok (.aload_n 0, 1) := by decide +kernel
theorem dX13_hens_51 : decode cX13_hens 51 = .ok (.iload_n 2, 1) := by decide +kernel
theorem dX13_hens_52 : decode cX13_hens 52 = .ok (.invokevirtual 63, 3) := by decide +kernel
theorem dX13_hens_55 : decode cX13_hens 55 = .ok (.ireturn, 1) := by decide +kernel
theorem dX13_byTenths_0 : decode cX13_byTenths 0 = .ok (.lconst 1, 1) := by decide +kernel
theorem dX13_byTenths_1 : decode cX13_byTenths 1 = .ok (.lstore 4, 2) := by decide +kernel
theorem dX13_byTenths_3 : decode cX13_byTenths 3 = .ok (.iconst 0, 1) := by decide +kernel
theorem dX13_byTenths_4 : decode cX13_byTenths 4 = .ok (.istore 6, 2) := by decide +kernel
theorem dX13_byTenths_6 : decode cX13_byTenths 6 = .ok (.iload 6, 2) := by decide +kernel
theorem dX13_byTenths_8 : decode cX13_byTenths 8 = .ok (.iload_n 2, 1) := by decide +kernel
theorem dX13_byTenths_9 : decode cX13_byTenths 9 = .ok (.if_icmp .ge 16, 3) := by decide +kernel
theorem dX13_byTenths_12 : decode cX13_byTenths 12 = .ok (.lload 4, 2) := by decide +kernel
theorem dX13_byTenths_14 : decode cX13_byTenths 14 = .ok (.iload_n 1, 1) := by decide +kernel
theorem dX13_byTenths_15 : decode cX13_byTenths 15 = .ok (.i2l, 1) := by decide +kernel
theorem dX13_byTenths_16 : decode cX13_byTenths 16 = .ok (.lmul, 1) := by decide +kernel
theorem dX13_byTenths_17 : decode cX13_byTenths 17 = .ok (.lstore 4, 2) := by decide +kernel
theorem dX13_byTenths_19 : decode cX13_byTenths 19 = .ok (.iinc 6 1, 3) := by decide +kernel
theorem dX13_byTenths_22 : decode cX13_byTenths 22 = .ok (.goto (-16), 3) := by decide +kernel
theorem dX13_byTenths_25 : decode cX13_byTenths 25 = .ok (.iconst 0, 1) := by decide +kernel
theorem dX13_byTenths_26 : decode cX13_byTenths 26 = .ok (.istore 6, 2) := by decide +kernel
theorem dX13_byTenths_28 : decode cX13_byTenths 28 = .ok (.iload 6, 2) := by decide +kernel
theorem dX13_byTenths_30 : decode cX13_byTenths 30 = .ok (.iload_n 3, 1) := by decide +kernel
theorem dX13_byTenths_31 : decode cX13_byTenths 31 = .ok (.if_icmp .ge 19, 3) := by decide +kernel
theorem dX13_byTenths_34 : decode cX13_byTenths 34 = .ok (.lload 4, 2) := by decide +kernel
theorem dX13_byTenths_36 : decode cX13_byTenths 36 = .ok (.bipush 10, 2) := by decide +kernel
theorem dX13_byTenths_38 : decode cX13_byTenths 38 = .ok (.iload_n 1, 1) := by decide +kernel
theorem dX13_byTenths_39 : decode cX13_byTenths 39 = .ok (.isub, 1) := by decide +kernel
theorem dX13_byTenths_40 : decode cX13_byTenths 40 = .ok (.i2l, 1) := by decide +kernel
theorem dX13_byTenths_41 : decode cX13_byTenths 41 = .ok (.lmul, 1) := by decide +kernel
theorem dX13_byTenths_42 : decode cX13_byTenths 42 = .ok (.lstore 4, 2) := by decide +kernel
theorem dX13_byTenths_44 : decode cX13_byTenths 44 = .ok (.iinc 6 1, 3) := by decide +kernel
theorem dX13_byTenths_47 : decode cX13_byTenths 47 = .ok (.goto (-19), 3) := by decide +kernel
theorem dX13_byTenths_50 : decode cX13_byTenths 50 = .ok (.lload 4, 2) := by decide +kernel
theorem dX13_byTenths_52 : decode cX13_byTenths 52 = .ok (.lreturn, 1) := by decide +kernel
theorem dX13_thumbs_0 : decode cX13_thumbs 0 = .ok (.aload_n 0, 1) := by decide +kernel
theorem dX13_thumbs_1 : decode cX13_thumbs 1 = .ok (.iconst 0, 1) := by decide +kernel
theorem dX13_thumbs_2 : decode cX13_thumbs 2 = .ok (.putfield 53, 3) := by decide +kernel
theorem dX13_thumbs_5 : decode cX13_thumbs 5 = .ok (.aload_n 0, 1) := by decide +kernel
theorem dX13_thumbs_6 : decode cX13_thumbs 6 = .ok (.iload_n 1, 1) := by decide +kernel
theorem dX13_thumbs_7 : decode cX13_thumbs 7 = .ok (.invokevirtual 441, 3) := by decide +kernel
theorem dX13_thumbs_10 : decode cX13_thumbs 10 = .ok (.ifCond .ne 10, 3) := by decide +kernel
theorem dX13_thumbs_13 : decode cX13_thumbs 13 = .ok (.aload_n 0, 1) := by decide +kernel
theorem dX13_thumbs_14 : decode cX13_thumbs 14 = .ok (.iconst 1, 1) := by decide +kernel
theorem dX13_thumbs_15 : decode cX13_thumbs 15 = .ok (.invokevirtual 59, 3) := by decide +kernel
theorem dX13_thumbs_18 : decode cX13_thumbs 18 = .ok (.i2l, 1) := by decide +kernel
theorem dX13_thumbs_19 : decode cX13_thumbs 19 = .ok (.lreturn, 1) := by decide +kernel
theorem dX13_thumbs_20 : decode cX13_thumbs 20 = .ok (.aload_n 0, 1) := by decide +kernel
theorem dX13_thumbs_21 : decode cX13_thumbs 21 = .ok (.getfield 373, 3) := by decide +kernel
theorem dX13_thumbs_24 : decode cX13_thumbs 24 = .ok (.getfield 316, 3) := by decide +kernel
theorem dX13_thumbs_27 : decode cX13_thumbs 27 = .ok (.iload_n 1, 1) := by decide +kernel
theorem dX13_thumbs_28 : decode cX13_thumbs 28 = .ok (.iaload, 1) := by decide +kernel
theorem dX13_thumbs_29 : decode cX13_thumbs 29 = .ok (.iconst (-1), 1) := by decide +kernel
theorem dX13_thumbs_30 : decode cX13_thumbs 30 = .ok (.if_icmp .ne 11, 3) := by decide +kernel
theorem dX13_thumbs_33 : decode cX13_thumbs 33 = .ok (.aload_n 0, 1) := by decide +kernel
theorem dX13_thumbs_34 : decode cX13_thumbs 34 = .ok (.bipush 6, 2) := by decide +kernel
theorem dX13_thumbs_36 : decode cX13_thumbs 36 = .ok (.invokevirtual 59, 3) := by decide +kernel
theorem dX13_thumbs_39 : decode cX13_thumbs 39 = .ok (.i2l, 1) := by decide +kernel
theorem dX13_thumbs_40 : decode cX13_thumbs 40 = .ok (.lreturn, 1) := by decide +kernel
theorem dX13_thumbs_41 : decode cX13_thumbs 41 = .ok (.aload_n 0, 1) := by decide +kernel
theorem dX13_thumbs_42 : decode cX13_thumbs 42 = .ok (.iload_n 1, 1) := by decide +kernel
theorem dX13_thumbs_43 : decode cX13_thumbs 43 = .ok (.invokevirtual 449, 3) := by decide +kernel
theorem dX13_thumbs_46 : decode cX13_thumbs 46 = .ok (.istore_n 3, 1) := by decide +kernel
theorem dX13_thumbs_47 : decode cX13_thumbs 47 = .ok (.aload_n 0, 1) := by decide +kernel
theorem dX13_thumbs_48 : decode cX13_thumbs 48 = .ok (.iload_n 1, 1) := by decide +kernel
theorem dX13_thumbs_49 : decode cX13_thumbs 49 = .ok (.invokevirtual 452, 3) := by decide +kernel
theorem dX13_thumbs_52 : decode cX13_thumbs 52 = .ok (.iload_n 3, 1) := by decide +kernel
theorem dX13_thumbs_53 : decode cX13_thumbs 53 = .ok (.isub, 1) := by decide +kernel
theorem dX13_thumbs_54 : decode cX13_thumbs 54 = .ok (.istore 4, 2) := by decide +kernel
theorem dX13_thumbs_56 : decode cX13_thumbs 56 = .ok (.aload_n 0, 1) := by decide +kernel
theorem dX13_thumbs_57 : decode cX13_thumbs 57 = .ok (.getfield 373, 3) := by decide +kernel
theorem dX13_thumbs_60 : decode cX13_thumbs 60 = .ok (.getfield 316, 3) := by decide +kernel
theorem dX13_thumbs_63 : decode cX13_thumbs 63 = .ok (.iload_n 1, 1) := by decide +kernel
theorem dX13_thumbs_64 : decode cX13_thumbs 64 = .ok (.iaload, 1) := by decide +kernel
theorem dX13_thumbs_65 : decode cX13_thumbs 65 = .ok (.i2l, 1) := by decide +kernel
theorem dX13_thumbs_66 : decode cX13_thumbs 66 = .ok (.aload_n 0, 1) := by decide +kernel
theorem dX13_thumbs_67 : decode cX13_thumbs 67 = .ok (.aload_n 0, 1) := by decide +kernel
theorem dX13_thumbs_68 : decode cX13_thumbs 68 = .ok (.getfield 373, 3) := by decide +kernel
theorem dX13_thumbs_71 : decode cX13_thumbs 71 = .ok (.getfield 360, 3) := by decide +kernel
theorem dX13_thumbs_74 : decode cX13_thumbs 74 = .ok (.iload_n 1, 1) := by decide +kernel
theorem dX13_thumbs_75 : decode cX13_thumbs 75 = .ok (.iaload, 1) := by decide +kernel
theorem dX13_thumbs_76 : decode cX13_thumbs 76 = .ok (.iload_n 3, 1) := by decide +kernel
theorem dX13_thumbs_77 : decode cX13_thumbs 77 = .ok (.iload 4, 2) := by decide +kernel
theorem dX13_thumbs_79 : decode cX13_thumbs 79 = .ok (.invokevirtual 545, 3) := by decide +kernel
theorem dX13_thumbs_82 : decode cX13_thumbs 82 = .ok (.lmul, 1) := by decide +kernel
theorem dX13_thumbs_83 : decode cX13_thumbs 83 = .ok (.lstore 5, 2) := by decide +kernel
theorem dX13_thumbs_85 : decode cX13_thumbs 85 = .ok (.bipush 100, 2) := by decide +kernel
theorem dX13_thumbs_87 : decode cX13_thumbs 87 = .ok (.aload_n 0, 1) := by decide +kernel
theorem dX13_thumbs_88 : decode cX13_thumbs 88 = .ok (.getfield 373, 3) := by decide +kernel
theorem dX13_thumbs_91 : decode cX13_thumbs 91 = .ok (.getfield 316, 3) := by decide +kernel
theorem dX13_thumbs_94 : decode cX13_thumbs 94 = .ok (.iload_n 1, 1) := by decide +kernel
theorem dX13_thumbs_95 : decode cX13_thumbs 95 = .ok (.iaload, 1) := by decide +kernel
theorem dX13_thumbs_96 : decode cX13_thumbs 96 = .ok (.isub, 1) := by decide +kernel
theorem dX13_thumbs_97 : decode cX13_thumbs 97 = .ok (.i2l, 1) := by decide +kernel
theorem dX13_thumbs_98 : decode cX13_thumbs 98 = .ok (.aload_n 0, 1) := by decide +kernel
theorem dX13_thumbs_99 : decode cX13_thumbs 99 = .ok (.aload_n 0, 1) := by decide +kernel
theorem dX13_thumbs_100 : decode cX13_thumbs 100 = .ok (.getfield 373, 3) := by decide +kernel
theorem dX13_thumbs_103 : decode cX13_thumbs 103 = .ok (.getfield 363, 3) := by decide +kernel
theorem dX13_thumbs_106 : decode cX13_thumbs 106 = .ok (.iload_n 1, 1) := by decide +kernel
theorem dX13_thumbs_107 : decode cX13_thumbs 107 = .ok (.iaload, 1) := by decide +kernel
theorem dX13_thumbs_108 : decode cX13_thumbs 108 = .ok (.iload_n 3, 1) := by decide +kernel
theorem dX13_thumbs_109 : decode cX13_thumbs 109 = .ok (.iload 4, 2) := by decide +kernel
theorem dX13_thumbs_111 : decode cX13_thumbs 111 = .ok (.invokevirtual 545, 3) := by decide +kernel
theorem dX13_thumbs_114 : decode cX13_thumbs 114 = .ok (.lmul, 1) := by decide +kernel
theorem dX13_thumbs_115 : decode cX13_thumbs 115 = .ok (.lstore 7, 2) := by decide +kernel
theorem dX13_thumbs_117 : decode cX13_thumbs 117 = .ok (.aload_n 0, 1) := by decide +kernel
theorem dX13_thumbs_118 : decode cX13_thumbs 118 = .ok (.lload 5, 2) := by decide +kernel
theorem dX13_thumbs_120 : decode cX13_thumbs 120 = .ok (.lload 5, 2) := by decide +kernel
theorem dX13_thumbs_122 : decode cX13_thumbs 122 = .ok (.lload 7, 2) := by decide +kernel
theorem dX13_thumbs_124 : decode cX13_thumbs 124 = .ok (.ladd, 1) := by decide +kernel
theorem dX13_thumbs_125 : decode cX13_thumbs 125 = .ok (.iload_n 2, 1) := by decide +kernel
theorem dX13_thumbs_126 : decode cX13_thumbs 126 = .ok (.invokevirtual 466, 3) := by decide +kernel
theorem dX13_thumbs_129 : decode cX13_thumbs 129 = .ok (.lreturn, 1) := by decide +kernel
theorem dX13_worthOf_0 : decode cX13_worthOf 0 = .ok (.aload_n 0, 1) := by decide +kernel
theorem dX13_worthOf_1 : decode cX13_worthOf 1 = .ok (.getfield 373, 3) := by decide +kernel
theorem dX13_worthOf_4 : decode cX13_worthOf 4 = .ok (.getfield 314, 3) := by decide +kernel
theorem dX13_worthOf_7 : decode cX13_worthOf 7 = .ok (.iload_n 1, 1) := by decide +kernel
theorem dX13_worthOf_8 : decode cX13_worthOf 8 = .ok (.iaload, 1) := by decide +kernel
theorem dX13_worthOf_9 : decode cX13_worthOf 9 = .ok (.aload_n 0, 1) := by decide +kernel
theorem dX13_worthOf_10 : decode cX13_worthOf 10 = .ok (.getfield 373, 3) := by decide +kernel
theorem dX13_worthOf_13 : decode cX13_worthOf 13 = .ok (.getfield 331, 3) := by decide +kernel
theorem dX13_worthOf_16 : decode cX13_worthOf 16 = .ok (.iload_n 1, 1) := by decide +kernel
theorem dX13_worthOf_17 : decode cX13_worthOf 17 = .ok (.iaload, 1) := by decide +kernel
theorem dX13_worthOf_18 : decode cX13_worthOf 18 = .ok (.iadd, 1) := by decide +kernel
theorem dX13_worthOf_19 : decode cX13_worthOf 19 = .ok (.ireturn, 1) := by decide +kernel
theorem dX13_let_0 : decode cX13_let 0 = .ok (.aload_n 0, 1) := by decide +kernel
theorem dX13_let_1 : decode cX13_let 1 = .ok (.iconst 0, 1) := by decide +kernel
theorem dX13_let_2 : decode cX13_let 2 = .ok (.putfield 53, 3) := by decide +kernel
theorem dX13_let_5 : decode cX13_let 5 = .ok (.aload_n 0, 1) := by decide +kernel
theorem dX13_let_6 : decode cX13_let 6 = .ok (.iload_n 1, 1) := by decide +kernel
theorem dX13_let_7 : decode cX13_let 7 = .ok (.iload_n 2, 1) := by decide +kernel
theorem dX13_let_8 : decode cX13_let 8 = .ok (.invokevirtual 455, 3) := by decide +kernel
theorem dX13_let_11 : decode cX13_let 11 = .ok (.ifCond .ne 9, 3) := by decide +kernel
theorem dX13_let_14 : decode cX13_let 14 = .ok (.aload_n 0, 1) := by decide +kernel
theorem dX13_let_15 : decode cX13_let 15 = .ok (.iconst 1, 1) := by decide +kernel
theorem dX13_let_16 : decode cX13_let 16 = .ok (.invokevirtual 59, 3) := by decide +kernel
theorem dX13_let_19 : decode cX13_let 19 = .ok (.ireturn, 1) := by decide +kernel
theorem dX13_let_20 : decode cX13_let 20 = .ok (.iload_n 1, 1) := by decide +kernel
theorem dX13_let_21 : decode cX13_let 21 = .ok (.iload_n 2, 1) := by decide +kernel
theorem dX13_let_22 : decode cX13_let 22 = .ok (.if_icmp .ge 7, 3) := by decide +kernel
theorem dX13_let_25 : decode cX13_let 25 = .ok (.iload_n 1, 1) := by decide +kernel
theorem dX13_let_26 : decode cX13_let 26 = .ok (.goto 4, 3) := by decide +kernel
theorem dX13_let_29 : decode cX13_let 29 = .ok (.iload_n 2, 1) := by decide +kernel
theorem dX13_let_30 : decode cX13_let 30 = .ok (.istore_n 3, 1) := by decide +kernel
theorem dX13_let_31 : decode cX13_let 31 = .ok (.iload_n 1, 1) := by decide +kernel
theorem dX13_let_32 : decode cX13_let 32 = .ok (.iload_n 2, 1) := by decide +kernel
theorem dX13_let_33 : decode cX13_let 33 = .ok (.if_icmp .ge 7, 3) := by decide +kernel
theorem dX13_let_36 : decode cX13_let 36 = .ok (.iload_n 2, 1) := by decide +kernel
theorem dX13_let_37 : decode cX13_let 37 = .ok (.goto 4, 3) := by decide +kernel
theorem dX13_let_40 : decode cX13_let 40 = .ok (.iload_n 1, 1) := by decide +kernel
theorem dX13_let_41 : decode cX13_let 41 = .ok (.istore 4, 2) := by decide +kernel
theorem dX13_let_43 : decode cX13_let 43 = .ok (.aload_n 0, 1) := by decide +kernel
theorem dX13_let_44 : decode cX13_let 44 = .ok (.aload_n 0, 1) := by decide +kernel
theorem dX13_let_45 : decode cX13_let 45 = .ok (.iload 4, 2) := by decide +kernel
theorem dX13_let_47 : decode cX13_let 47 = .ok (.invokevirtual 549, 3) := by decide +kernel
theorem dX13_let_50 : decode cX13_let 50 = .ok (.aload_n 0, 1) := by decide +kernel
theorem dX13_let_51 : decode cX13_let 51 = .ok (.iload_n 3, 1) := by decide +kernel
theorem dX13_let_52 : decode cX13_let 52 = .ok (.invokevirtual 549, 3) := by decide +kernel
theorem dX13_let_55 : decode cX13_let 55 = .ok (.if_icmp .le 8, 3) := by decide +kernel
theorem dX13_let_58 : decode cX13_let 58 = .ok (.iload 4, 2) := by decide +kernel
theorem dX13_let_60 : decode cX13_let 60 = .ok (.goto 4, 3) := by decide +kernel
theorem dX13_let_63 : decode cX13_let 63 = .ok (.iload_n 3, 1) := by decide +kernel
theorem dX13_let_64 : decode cX13_let 64 = .ok (.invokevirtual 63, 3) := by decide +kernel
theorem dX13_let_67 : decode cX13_let 67 = .ok (.ireturn, 1) := by decide +kernel
theorem dX13_worth_0 : decode cX13_worth 0 = .ok (.aload_n 0, 1) := by decide +kernel
theorem dX13_worth_1 : decode cX13_worth 1 = .ok (.iconst 0, 1) := by decide +kernel
theorem dX13_worth_2 : decode cX13_worth 2 = .ok (.putfield 53, 3) := by decide +kernel
theorem dX13_worth_5 : decode cX13_worth 5 = .ok (.aload_n 0, 1) := by decide +kernel
theorem dX13_worth_6 : decode cX13_worth 6 = .ok (.iload_n 1, 1) := by decide +kernel
theorem dX13_worth_7 : decode cX13_worth 7 = .ok (.invokevirtual 441, 3) := by decide +kernel
theorem dX13_worth_10 : decode cX13_worth 10 = .ok (.ifCond .eq 15, 3) := by decide +kernel
theorem dX13_worth_13 : decode cX13_worth 13 = .ok (.aload_n 0, 1) := by decide +kernel
theorem dX13_worth_14 : decode cX13_worth 14 = .ok (.aload_n 0, 1) := by decide +kernel
theorem dX13_worth_15 : decode cX13_worth 15 = .ok (.iload_n 1, 1) := by decide +kernel
theorem dX13_worth_16 : decode cX13_worth 16 = .ok (.invokevirtual 549, 3) := by decide +kernel
theorem dX13_worth_19 : decode cX13_worth 19 = .ok (.invokevirtual 63, 3) := by decide +kernel
theorem dX13_worth_22 : decode cX13_worth 22 = .ok (.goto 8, 3) := by decide +kernel
theorem dX13_worth_25 : decode cX13_worth 25 = .ok (.aload_n 0, 1) := by decide +kernel
theorem dX13_worth_26 : decode cX13_worth 26 = .ok (.iconst 1, 1) := by decide +kernel
theorem dX13_worth_27 : decode cX13_worth 27 = .ok (.invokevirtual 59, 3) := by decide +kernel
theorem dX13_worth_30 : decode cX13_worth 30 = .ok (.ireturn, 1) := by decide +kernel
theorem dX13_knobs_0 : decode cX13_knobs 0 = .ok (.iconst 0, 1) := by decide +kernel
theorem dX13_knobs_1 : decode cX13_knobs 1 = .ok (.istore_n 2, 1) := by decide +kernel
theorem dX13_knobs_2 : decode cX13_knobs 2 = .ok (.aload_n 0, 1) := by decide +kernel
theorem dX13_knobs_3 : decode cX13_knobs 3 = .ok (.iconst 0, 1) := by decide +kernel
theorem dX13_knobs_4 : decode cX13_knobs 4 = .ok (.putfield 552, 3) := by decide +kernel
theorem dX13_knobs_7 : decode cX13_knobs 7 = .ok (.iconst 0, 1) := by decide +kernel
theorem dX13_knobs_8 : decode cX13_knobs 8 = .ok (.istore_n 3, 1) := by decide +kernel
theorem dX13_knobs_9 : decode cX13_knobs 9 = .ok (.iload_n 3, 1) := by decide +kernel
theorem dX13_knobs_10 : decode cX13_knobs 10 = .ok (.aload_n 0, 1) := by decide +kernel
theorem dX13_knobs_11 : decode cX13_knobs 11 = .ok (.getfield 373, 3) := by decide +kernel
theorem dX13_knobs_14 : decode cX13_knobs 14 = .ok (.getfield 210, 3) := by decide +kernel
theorem dX13_knobs_17 : decode cX13_knobs 17 = .ok (.if_icmp .ge 137, 3) := by decide +kernel
theorem dX13_knobs_20 : decode cX13_knobs 20 = .ok (.iconst 0, 1) := by decide +kernel
theorem dX13_knobs_21 : decode cX13_knobs 21 = .ok (.istore 4, 2) := by decide +kernel
theorem dX13_knobs_23 : decode cX13_knobs 23 = .ok (.iload 4, 2) := by decide +kernel
theorem dX13_knobs_25 : decode cX13_knobs 25 = .ok (.aload_n 0, 1) := by decide +kernel
theorem dX13_knobs_26 : decode cX13_knobs 26 = .ok (.getfield 373, 3) := by decide +kernel
theorem dX13_knobs_29 : decode cX13_knobs 29 = .ok (.getfield 213, 3) := by decide +kernel
theorem dX13_knobs_32 : decode cX13_knobs 32 = .ok (.if_icmp .ge 116, 3) := by decide +kernel
theorem dX13_knobs_35 : decode cX13_knobs 35 = .ok (.iconst 0, 1) := by decide +kernel
theorem dX13_knobs_36 : decode cX13_knobs 36 = .ok (.istore 5, 2) := by decide +kernel
theorem dX13_knobs_38 : decode cX13_knobs 38 = .ok (.iload 5, 2) := by decide +kernel
theorem dX13_knobs_40 : decode cX13_knobs 40 = .ok (.aload_n 0, 1) := by decide +kernel
theorem dX13_knobs_41 : decode cX13_knobs 41 = .ok (.getfield 373, 3) := by decide +kernel
theorem dX13_knobs_44 : decode cX13_knobs 44 = .ok (.getfield 213, 3) := by decide +kernel
theorem dX13_knobs_47 : decode cX13_knobs 47 = .ok (.if_icmp .ge 95, 3) := by decide +kernel
theorem dX13_knobs_50 : decode cX13_knobs 50 = .ok (.iload 4, 2) := by decide +kernel
theorem dX13_knobs_52 : decode cX13_knobs 52 = .ok (.iload 5, 2) := by decide +kernel
theorem dX13_knobs_54 : decode cX13_knobs 54 = .ok (.if_icmp .ne 6, 3) := by decide +kernel
theorem dX13_knobs_57 : decode cX13_knobs 57 = .ok (.goto 79, 3) := by decide +kernel
theorem dX13_knobs_60 : decode cX13_knobs 60 = .ok (.aload_n 0, 1) := by decide +kernel
theorem dX13_knobs_61 : decode cX13_knobs 61 = .ok (.iload_n 3, 1) := by decide +kernel
theorem dX13_knobs_62 : decode cX13_knobs 62 = .ok (.iload 4, 2) := by decide +kernel
theorem dX13_knobs_64 : decode cX13_knobs 64 = .ok (.iload 5, 2) := by decide +kernel
theorem dX13_knobs_66 : decode cX13_knobs 66 = .ok (.invokevirtual 489, 3) := by decide +kernel
theorem dX13_knobs_69 : decode cX13_knobs 69 = .ok (.aload_n 0, 1) := by decide +kernel
theorem dX13_knobs_70 : decode cX13_knobs 70 = .ok (.invokevirtual 433, 3) := by decide +kernel
theorem dX13_knobs_73 : decode cX13_knobs 73 = .ok (.istore 6, 2) := by decide +kernel
theorem dX13_knobs_75 : decode cX13_knobs 75 = .ok (.aload_n 0, 1) := by decide +kernel
theorem dX13_knobs_76 : decode cX13_knobs 76 = .ok (.getfield 419, 3) := by decide +kernel
theorem dX13_knobs_79 : decode cX13_knobs 79 = .ok (.aload_n 0, 1) := by decide +kernel
theorem dX13_knobs_80 : decode cX13_knobs 80 = .ok (.getfield 373, 3) := by decide +kernel
theorem dX13_knobs_83 : decode cX13_knobs 83 = .ok (.getfield 352, 3) := by decide +kernel
theorem dX13_knobs_86 : decode cX13_knobs 86 = .ok (.iload_n 1, 1) := by decide +kernel
theorem dX13_knobs_87 : decode cX13_knobs 87 = .ok (.iaload, 1) := by decide +kernel
theorem dX13_knobs_88 : decode cX13_knobs 88 = .ok (.if_icmp .ne 48, 3) := by decide +kernel
theorem dX13_knobs_91 : decode cX13_knobs 91 = .ok (.aload_n 0, 1) := by decide +kernel
theorem dX13_knobs_92 : decode cX13_knobs 92 = .ok (.getfield 427, 3) := by decide +kernel
theorem dX13_knobs_95 : decode cX13_knobs 95 = .ok (.aload_n 0, 1) := by decide +kernel
theorem dX13_knobs_96 : decode cX13_knobs 96 = .ok (.getfield 373, 3) := by decide +kernel
theorem dX13_knobs_99 : decode cX13_knobs 99 = .ok (.getfield 355, 3) := by decide +kernel
theorem dX13_knobs_102 : decode cX13_knobs 102 = .ok (.iload_n 1, 1) := by decide +kernel
theorem dX13_knobs_103 : decode cX13_knobs 103 = .ok (.iaload, 1) := by decide +kernel
theorem dX13_knobs_104 : decode cX13_knobs 104 = .ok (.if_icmp .eq 6, 3) := by decide +kernel
theorem dX13_knobs_107 : decode cX13_knobs 107 = .ok (.goto 29, 3) := by decide +kernel
theorem dX13_knobs_110 : decode cX13_knobs 110 = .ok (.aload_n 0, 1) := by decide +kernel
theorem dX13_knobs_111 : decode cX13_knobs 111 = .ok (.dup, 1) := by decide +kernel
theorem dX13_knobs_112 : decode cX13_knobs 112 = .ok (.getfield 552, 3) := by decide +kernel
theorem dX13_knobs_115 : decode cX13_knobs 115 = .ok (.iconst 1, 1) := by decide +kernel
theorem dX13_knobs_116 : decode cX13_knobs 116 = .ok (.iload 6, 2) := by decide +kernel
theorem dX13_knobs_118 : decode cX13_knobs 118 = .ok (.ifCond .ne 8, 3) := by decide +kernel
theorem dX13_knobs_121 : decode cX13_knobs 121 = .ok (.iload 4, 2) := by decide +kernel
theorem dX13_knobs_123 : decode cX13_knobs 123 = .ok (.goto 5, 3) := by decide +kernel
theorem dX13_knobs_126 : decode cX13_knobs 126 = .ok (.iload 5, 2) := by decide +kernel
theorem dX13_knobs_128 : decode cX13_knobs 128 = .ok (.ishl, 1) := by decide +kernel
theorem dX13_knobs_129 : decode cX13_knobs 129 = .ok (.ior, 1) := by decide +kernel
theorem dX13_knobs_130 : decode cX13_knobs 130 = .ok (.putfield 552, 3) := by decide +kernel
theorem dX13_knobs_133 : decode cX13_knobs 133 = .ok (.iinc 2 1, 3) := by decide +kernel
theorem dX13_knobs_136 : decode cX13_knobs 136 = .ok (.iinc 5 1, 3) := by decide +kernel
theorem dX13_knobs_139 : decode cX13_knobs 139 = .ok (.goto (-101), 3) := by decide +kernel
theorem dX13_knobs_142 : decode cX13_knobs 142 = .ok (.iinc 4 1, 3) := by decide +kernel
theorem dX13_knobs_145 : decode cX13_knobs 145 = .ok (.goto (-122), 3) := by decide +kernel
theorem dX13_knobs_148 : decode cX13_knobs 148 = .ok (.iinc 3 1, 3) := by decide +kernel
theorem dX13_knobs_151 : decode cX13_knobs 151 = .ok (.goto (-142), 3) := by decide +kernel
theorem dX13_knobs_154 : decode cX13_knobs 154 = .ok (.iload_n 2, 1) := by decide +kernel
theorem dX13_knobs_155 : decode cX13_knobs 155 = .ok (.ireturn, 1) := by decide +kernel
theorem dX13_isPiece_0 : decode cX13_isPiece 0 = .ok (.aload_n 0, 1) := by decide +kernel
theorem dX13_isPiece_1 : decode cX13_isPiece 1 = .ok (.getfield 373, 3) := by decide +kernel
theorem dX13_isPiece_4 : decode cX13_isPiece 4 = .ok (.ifnull 22, 3) := by decide +kernel
theorem dX13_isPiece_7 : decode cX13_isPiece 7 = .ok (.iload_n 1, 1) := by decide +kernel
theorem dX13_isPiece_8 : decode cX13_isPiece 8 = .ok (.ifCond .lt 18, 3) := by decide +kernel
theorem dX13_isPiece_11 : decode cX13_isPiece 11 = .ok (.iload_n 1, 1) := by decide +kernel
theorem dX13_isPiece_12 : decode cX13_isPiece 12 = .ok (.aload_n 0, 1) := by decide +kernel
theorem dX13_isPiece_13 : decode cX13_isPiece 13 = .ok (.getfield 373, 3) := by decide +kernel
theorem dX13_isPiece_16 : decode cX13_isPiece 16 = .ok (.getfield 349, 3) := by decide +kernel
theorem dX13_isPiece_19 : decode cX13_isPiece 19 = .ok (.if_icmp .ge 7, 3) := by decide +kernel
theorem dX13_isPiece_22 : decode cX13_isPiece 22 = .ok (.iconst 1, 1) := by decide +kernel
theorem dX13_isPiece_23 : decode cX13_isPiece 23 = .ok (.goto 4, 3) := by decide +kernel
theorem dX13_isPiece_26 : decode cX13_isPiece 26 = .ok (.iconst 0, 1) := by decide +kernel
theorem dX13_isPiece_27 : decode cX13_isPiece 27 = .ok (.ireturn, 1) := by decide +kernel
theorem dX13_knob_0 : decode cX13_knob 0 = .ok (.aload_n 0, 1) := by decide +kernel
theorem dX13_knob_1 : decode cX13_knob 1 = .ok (.iconst 0, 1) := by decide +kernel
theorem dX13_knob_2 : decode cX13_knob 2 = .ok (.putfield 53, 3) := by decide +kernel
theorem dX13_knob_5 : decode cX13_knob 5 = .ok (.aload_n 0, 1) := by decide +kernel
theorem dX13_knob_6 : decode cX13_knob 6 = .ok (.iload_n 1, 1) := by decide +kernel
theorem dX13_knob_7 : decode cX13_knob 7 = .ok (.invokevirtual 555, 3) := by decide +kernel
theorem dX13_knob_10 : decode cX13_knob 10 = .ok (.ifCond .eq 15, 3) := by decide +kernel
theorem dX13_knob_13 : decode cX13_knob 13 = .ok (.aload_n 0, 1) := by decide +kernel
theorem dX13_knob_14 : decode cX13_knob 14 = .ok (.aload_n 0, 1) := by decide +kernel
theorem dX13_knob_15 : decode cX13_knob 15 = .ok (.iload_n 1, 1) := by decide +kernel
theorem dX13_knob_16 : decode cX13_knob 16 = .ok (.invokevirtual 558, 3) := by decide +kernel
theorem dX13_knob_19 : decode cX13_knob 19 = .ok (.invokevirtual 63, 3) := by decide +kernel
theorem dX13_knob_22 : decode cX13_knob 22 = .ok (.goto 8, 3) := by decide +kernel
theorem dX13_knob_25 : decode cX13_knob 25 = .ok (.aload_n 0, 1) := by decide +kernel
theorem dX13_knob_26 : decode cX13_knob 26 = .ok (.iconst 1, 1) := by decide +kernel
theorem dX13_knob_27 : decode cX13_knob 27 = .ok (.invokevirtual 59, 3) := by decide +kernel
theorem dX13_knob_30 : decode cX13_knob 30 = .ok (.ireturn, 1) := by decide +kernel
theorem dX13_owners_0 : decode cX13_owners 0 = .ok (.aload_n 0, 1) := by decide +kernel
theorem dX13_owners_1 : decode cX13_owners 1 = .ok (.iconst 0, 1) := by decide +kernel
theorem dX13_owners_2 : decode cX13_owners 2 = .ok (.putfield 53, 3) := by decide +kernel
theorem dX13_owners_5 : decode cX13_owners 5 = .ok (.aload_n 0, 1) := by decide +kernel
theorem dX13_owners_6 : decode cX13_owners 6 = .ok (.iload_n 1, 1) := by decide +kernel
theorem dX13_owners_7 : decode cX13_owners 7 = .ok (.invokevirtual 555, 3) := by decide +kernel
theorem dX13_owners_10 : decode cX13_owners 10 = .ok (.ifCond .ne 9, 3) := by decide +kernel
theorem dX13_owners_13 : decode cX13_owners 13 = .ok (.aload_n 0, 1) := by decide +kernel
theorem dX13_owners_14 : decode cX13_owners 14 = .ok (.iconst 1, 1) := by decide +kernel
theorem dX13_owners_15 : decode cX13_owners 15 = .ok (.invokevirtual 59, 3) := by decide +kernel
theorem dX13_owners_18 : decode cX13_owners 18 = .ok (.ireturn, 1) := by decide +kernel
theorem dX13_owners_19 : decode cX13_owners 19 = .ok (.aload_n 0, 1) := by decide +kernel
theorem dX13_owners_20 : decode cX13_owners 20 = .ok (.iload_n 1, 1) := by decide +kernel
theorem dX13_owners_21 : decode cX13_owners 21 = .ok (.invokevirtual 558, 3) := by decide +kernel
theorem dX13_owners_24 : decode cX13_owners 24 = .ok (.pop, 1) := by decide +kernel
theorem dX13_owners_25 : decode cX13_owners 25 = .ok (.aload_n 0, 1) := by decide +kernel
theorem dX13_owners_26 : decode cX13_owners 26 = .ok (.aload_n 0, 1) := by decide +kernel
theorem dX13_owners_27 : decode cX13_owners 27 = .ok (.getfield 552, 3) := by decide +kernel
theorem dX13_owners_30 : decode cX13_owners 30 = .ok (.invokevirtual 63, 3) := by decide +kernel
theorem dX13_owners_33 : decode cX13_owners 33 = .ok (.ireturn, 1) := by decide +kernel
theorem dX13_drawn_0 : decode cX13_drawn 0 = .ok (.aload_n 0, 1) := by decide +kernel
theorem dX13_drawn_1 : decode cX13_drawn 1 = .ok (.ldc2_w 561, 3) := by decide +kernel
theorem dX13_drawn_4 : decode cX13_drawn 4 = .ok (.aload_n 0, 1) := by decide +kernel
theorem dX13_drawn_5 : decode cX13_drawn 5 = .ok (.getfield 563, 3) := by decide +kernel
theorem dX13_drawn_8 : decode cX13_drawn 8 = .ok (.i2l, 1) := by decide +kernel
theorem dX13_drawn_9 : decode cX13_drawn 9 = .ok (.lmul, 1) := by decide +kernel
theorem dX13_drawn_10 : decode cX13_drawn 10 = .ok (.ldc2_w 566, 3) := by decide +kernel
theorem dX13_drawn_13 : decode cX13_drawn 13 = .ok (.ladd, 1) := by decide +kernel
theorem dX13_drawn_14 : decode cX13_drawn 14 = .ok (.ldc2_w 568, 3) := by decide +kernel
theorem dX13_drawn_17 : decode cX13_drawn 17 = .ok (.lrem, 1) := by decide +kernel
theorem dX13_drawn_18 : decode cX13_drawn 18 = .ok (.l2i, 1) := by decide +kernel
theorem dX13_drawn_19 : decode cX13_drawn 19 = .ok (.putfield 563, 3) := by decide +kernel
theorem dX13_drawn_22 : decode cX13_drawn 22 = .ok (.aload_n 0, 1) := by decide +kernel
theorem dX13_drawn_23 : decode cX13_drawn 23 = .ok (.getfield 563, 3) := by decide +kernel
theorem dX13_drawn_26 : decode cX13_drawn 26 = .ok (.iload_n 1, 1) := by decide +kernel
theorem dX13_drawn_27 : decode cX13_drawn 27 = .ok (.irem, 1) := by decide +kernel
theorem dX13_drawn_28 : decode cX13_drawn 28 = .ok (.ireturn, 1) := by decide +kernel
theorem dX13_flawsByDraws_0 : decode cX13_flawsByDraws 0 = .ok (.aload_n 0, 1) := by decide +kernel
theorem dX13_flawsByDraws_1 : decode cX13_flawsByDraws 1 = .ok (.iconst (-1), 1) := by decide +kernel
theorem dX13_flawsByDraws_2 : decode cX13_flawsByDraws 2 = .ok (.putfield 389, 3) := by decide +kernel
theorem dX13_flawsByDraws_5 : decode cX13_flawsByDraws 5 = .ok (.aload_n 0, 1) := by decide +kernel
theorem dX13_flawsByDraws_6 : decode cX13_flawsByDraws 6 = .ok (.bipush 100, 2) := by decide +kernel
theorem dX13_flawsByDraws_8 : decode cX13_flawsByDraws 8 = .ok (.invokevirtual 570, 3) := by decide +kernel
theorem dX13_flawsByDraws_11 : decode cX13_flawsByDraws 11 = .ok (.aload_n 0, 1) := by decide +kernel
theorem dX13_flawsByDraws_12 : decode cX13_flawsByDraws 12 = .ok (.getfield 373, 3) := by decide +kernel
theorem dX13_flawsByDraws_15 : decode cX13_flawsByDraws 15 = .ok (.getfield 258, 3) := by decide +kernel
theorem dX13_flawsByDraws_18 : decode cX13_flawsByDraws 18 = .ok (.if_icmp .ge 15, 3) := by decide +kernel
theorem dX13_flawsByDraws_21 : decode cX13_flawsByDraws 21 = .ok (.aload_n 0, 1) := by decide +kernel
theorem dX13_flawsByDraws_22 : decode cX13_flawsByDraws 22 = .ok (.aload_n 0, 1) := by decide +kernel
theorem dX13_flawsByDraws_23 : decode cX13_flawsByDraws 23 = .ok (.aload_n 0, 1) := by decide +kernel
theorem dX13_flawsByDraws_24 : decode cX13_flawsByDraws 24 = .ok (.invokevirtual 430, 3) := by decide +kernel
theorem dX13_flawsByDraws_27 : decode cX13_flawsByDraws 27 = .ok (.invokevirtual 570, 3) := by decide +kernel
theorem dX13_flawsByDraws_30 : decode cX13_flawsByDraws 30 = .ok (.invokevirtual 438, 3) := by decide +kernel
theorem dX13_flawsByDraws_33 : decode cX13_flawsByDraws 33 = .ok (.return_, 1) := by decide +kernel
theorem dX13_year_0 : decode cX13_year 0 = .ok (.aload_n 0, 1) := by decide +kernel
theorem dX13_year_1 : decode cX13_year 1 = .ok (.iload_n 1, 1) := by decide +kernel
theorem dX13_year_2 : decode cX13_year 2 = .ok (.putfield 563, 3) := by decide +kernel
theorem dX13_year_5 : decode cX13_year 5 = .ok (.aload_n 0, 1) := by decide +kernel
theorem dX13_year_6 : decode cX13_year 6 = .ok (.iconst 0, 1) := by decide +kernel
theorem dX13_year_7 : decode cX13_year 7 = .ok (.putfield 573, 3) := by decide +kernel
theorem dX13_year_10 : decode cX13_year 10 = .ok (.aload_n 0, 1) := by decide +kernel
theorem dX13_year_11 : decode cX13_year 11 = .ok (.iconst 0, 1) := by decide +kernel
theorem dX13_year_12 : decode cX13_year 12 = .ok (.putfield 576, 3) := by decide +kernel
theorem dX13_year_15 : decode cX13_year 15 = .ok (.iconst 0, 1) := by decide +kernel
theorem dX13_year_16 : decode cX13_year 16 = .ok (.istore_n 3, 1) := by decide +kernel
theorem dX13_year_17 : decode cX13_year 17 = .ok (.iload_n 3, 1) := by decide +kernel
theorem dX13_year_18 : decode cX13_year 18 = .ok (.bipush 6, 2) := by decide +kernel
theorem dX13_year_20 : decode cX13_year 20 = .ok (.if_icmp .ge 16, 3) := by decide +kernel
theorem dX13_year_23 : decode cX13_year 23 = .ok (.aload_n 0, 1) := by decide +kernel
theorem dX13_year_24 : decode cX13_year 24 = .ok (.getfield 50, 3) := by decide +kernel
theorem dX13_year_27 : decode cX13_year 27 = .ok (.iload_n 3, 1) := by decide +kernel
theorem dX13_year_28 : decode cX13_year 28 = .ok (.iconst 0, 1) := by decide +kernel
theorem dX13_year_29 : decode cX13_year 29 = .ok (.iastore, 1) := by decide +kernel
theorem dX13_year_30 : decode cX13_year 30 = .ok (.iinc 3 1, 3) := by decide +kernel
theorem dX13_year_33 : decode cX13_year 33 = .ok (.goto (-16), 3) := by decide +kernel
theorem dX13_year_36 : decode cX13_year 36 = .ok (.iconst 0, 1) := by decide +kernel
theorem dX13_year_37 : decode cX13_year 37 = .ok (.istore_n 3, 1) := by decide +kernel
theorem dX13_year_38 : decode cX13_year 38 = .ok (.iload_n 3, 1) := by decide +kernel
theorem dX13_year_39 : decode cX13_year 39 = .ok (.iload_n 2, 1) := by decide +kernel
theorem dX13_year_40 : decode cX13_year 40 = .ok (.if_icmp .ge 163, 3) := by decide +kernel
theorem dX13_year_43 : decode cX13_year 43 = .ok (.aload_n 0, 1) := by decide +kernel
theorem dX13_year_44 : decode cX13_year 44 = .ok (.aload_n 0, 1) := by decide +kernel
theorem dX13_year_45 : decode cX13_year 45 = .ok (.getfield 373, 3) := by decide +kernel
theorem dX13_year_48 : decode cX13_year 48 = .ok (.getfield 210, 3) := by decide +kernel
theorem dX13_year_51 : decode cX13_year 51 = .ok (.invokevirtual 570, 3) := by decide +kernel
theorem dX13_year_54 : decode cX13_year 54 = .ok (.istore 4, 2) := by decide +kernel
theorem dX13_year_56 : decode cX13_year 56 = .ok (.aload_n 0, 1) := by decide +kernel
theorem dX13_year_57 : decode cX13_year 57 = .ok (.aload_n 0, 1) := by decide +kernel
theorem dX13_year_58 : decode cX13_year 58 = .ok (.getfield 373, 3) := by decide +kernel
theorem dX13_year_61 : decode cX13_year 61 = .ok (.getfield 213, 3) := by decide +kernel
theorem dX13_year_64 : decode cX13_year 64 = .ok (.invokevirtual 570, 3) := by decide +kernel
theorem dX13_year_67 : decode cX13_year 67 = .ok (.istore 5, 2) := by decide +kernel
theorem dX13_year_69 : decode cX13_year 69 = .ok (.aload_n 0, 1) := by decide +kernel
theorem dX13_year_70 : decode cX13_year 70 = .ok (.aload_n 0, 1) := by decide +kernel
theorem dX13_year_71 : decode cX13_year 71 = .ok (.getfield 373, 3) := by decide +kernel
theorem dX13_year_74 : decode cX13_year 74 = .ok (.getfield 213, 3) := by decide +kernel
theorem dX13_year_77 : decode cX13_year 77 = .ok (.iconst 1, 1) := by decide +kernel
theorem dX13_year_78 : decode cX13_year 78 = .ok (.isub, 1) := by decide +kernel
theorem dX13_year_79 : decode cX13_year 79 = .ok (.invokevirtual 570, 3) := by decide +kernel
theorem dX13_year_82 : decode cX13_year 82 = .ok (.istore 6, 2) := by decide +kernel
theorem dX13_year_84 : decode cX13_year 84 = .ok (.iload 6, 2) := by decide +kernel
theorem dX13_year_86 : decode cX13_year 86 = .ok (.iload 6, 2) := by decide +kernel
theorem dX13_year_88 : decode cX13_year 88 = .ok (.iload 5, 2) := by decide +kernel
theorem dX13_year_90 : decode cX13_year 90 = .ok (.if_icmp .lt 7, 3) := by decide +kernel
theorem dX13_year_93 : decode cX13_year 93 = .ok (.iconst 1, 1) := by decide +kernel
theorem dX13_year_94 : decode cX13_year 94 = .ok (.goto 4, 3) := by decide +kernel
theorem dX13_year_97 : decode cX13_year 97 = .ok (.iconst 0, 1) := by decide +kernel
theorem dX13_year_98 : decode cX13_year 98 = .ok (.iadd, 1) := by decide +kernel
theorem dX13_year_99 : decode cX13_year 99 = .ok (.istore 6, 2) := by decide +kernel
theorem dX13_year_101 : decode cX13_year 101 = .ok (.aload_n 0, 1) := by decide +kernel
theorem dX13_year_102 : decode cX13_year 102 = .ok (.iload 4, 2) := by decide +kernel
theorem dX13_year_104 : decode cX13_year 104 = .ok (.iload 5, 2) := by decide +kernel
theorem dX13_year_106 : decode cX13_year 106 = .ok (.iload 6, 2) := by decide +kernel
theorem dX13_year_108 : decode cX13_year 108 = .ok (.invokevirtual 489, 3) := by decide +kernel
theorem dX13_year_111 : decode cX13_year 111 = .ok (.aload_n 0, 1) := by decide +kernel
theorem dX13_year_112 : decode cX13_year 112 = .ok (.invokevirtual 579, 3) := by decide +kernel
theorem dX13_year_115 : decode cX13_year 115 = .ok (.aload_n 0, 1) := by decide +kernel
theorem dX13_year_116 : decode cX13_year 116 = .ok (.invokevirtual 433, 3) := by decide +kernel
theorem dX13_year_119 : decode cX13_year 119 = .ok (.istore 7, 2) := by decide +kernel
theorem dX13_year_121 : decode cX13_year 121 = .ok (.aload_n 0, 1) := by decide +kernel
theorem dX13_year_122 : decode cX13_year 122 = .ok (.dup, 1) := by decide +kernel
theorem dX13_year_123 : decode cX13_year 123 = .ok (.getfield 573, 3) := by decide +kernel
theorem dX13_year_126 : decode cX13_year 126 = .ok (.iload 7, 2) := by decide +kernel
theorem dX13_year_128 : decode cX13_year 128 = .ok (.iconst 2, 1) := by decide +kernel
theorem dX13_year_129 : decode cX13_year 129 = .ok (.if_icmp .ne 7, 3) := by decide +kernel
theorem dX13_year_132 : decode cX13_year 132 = .ok (.iconst 1, 1) := by decide +kernel
theorem dX13_year_133 : decode cX13_year 133 = .ok (.goto 4, 3) := by decide +kernel
theorem dX13_year_136 : decode cX13_year 136 = .ok (.iconst 0, 1) := by decide +kernel
theorem dX13_year_137 : decode cX13_year 137 = .ok (.iadd, 1) := by decide +kernel
theorem dX13_year_138 : decode cX13_year 138 = .ok (.putfield 573, 3) := by decide +kernel
theorem dX13_year_141 : decode cX13_year 141 = .ok (.aload_n 0, 1) := by decide +kernel
theorem dX13_year_142 : decode cX13_year 142 = .ok (.dup, 1) := by decide +kernel
theorem dX13_year_143 : decode cX13_year 143 = .ok (.getfield 576, 3) := by decide +kernel
theorem dX13_year_146 : decode cX13_year 146 = .ok (.iload 7, 2) := by decide +kernel
theorem dX13_year_148 : decode cX13_year 148 = .ok (.iconst 3, 1) := by decide +kernel
theorem dX13_year_149 : decode cX13_year 149 = .ok (.if_icmp .ne 7, 3) := by decide +kernel
theorem dX13_year_152 : decode cX13_year 152 = .ok (.iconst 1, 1) := by decide +kernel
theorem dX13_year_153 : decode cX13_year 153 = .ok (.goto 4, 3) := by decide +kernel
theorem dX13_year_156 : decode cX13_year 156 = .ok (.iconst 0, 1) := by decide +kernel
theorem dX13_year_157 : decode cX13_year 157 = .ok (.iadd, 1) := by decide +kernel
theorem dX13_year_158 : decode cX13_year 158 = .ok (.putfield 576, 3) := by decide +kernel
theorem dX13_year_161 : decode cX13_year 161 = .ok (.iload 7, 2) := by decide +kernel
theorem dX13_year_163 : decode cX13_year 163 = .ok (.ifCond .ne 17, 3) := by decide +kernel
theorem dX13_year_166 : decode cX13_year 166 = .ok (.aload_n 0, 1) := by decide +kernel
theorem dX13_year_167 : decode cX13_year 167 = .ok (.getfield 50, 3) := by decide +kernel
theorem dX13_year_170 : decode cX13_year 170 = .ok (.iload 5, 2) := by decide +kernel
theorem dX13_year_172 : decode cX13_year 172 = .ok (.dup2, 1) := by decide +kernel
theorem dX13_year_173 : decode cX13_year 173 = .ok (.iaload, 1) := by decide +kernel
theorem dX13_year_174 : decode cX13_year 174 = .ok (.iconst 1, 1) := by decide +kernel
theorem dX13_year_175 : decode cX13_year 175 = .ok (.iadd, 1) := by decide +kernel
theorem dX13_year_176 : decode cX13_year 176 = .ok (.iastore, 1) := by decide +kernel
theorem dX13_year_177 : decode cX13_year 177 = .ok (.goto 20, 3) := by decide +kernel
theorem dX13_year_180 : decode cX13_year 180 = .ok (.iload 7, 2) := by decide +kernel
theorem dX13_year_182 : decode cX13_year 182 = .ok (.iconst 1, 1) := by decide +kernel
theorem dX13_year_183 : decode cX13_year 183 = .ok (.if_icmp .ne 14, 3) := by decide +kernel
theorem dX13_year_186 : decode cX13_year 186 = .ok (.aload_n 0, 1) := by decide +kernel
theorem dX13_year_187 : decode cX13_year 187 = .ok (.getfield 50, 3) := by decide +kernel
theorem dX13_year_190 : decode cX13_year 190 = .ok (.iload 6, 2) := by decide +kernel
theorem dX13_year_192 : decode cX13_year 192 = .ok (.dup2, 1) := by decide +kernel
theorem dX13_year_193 : decode cX13_year 193 = .ok (.iaload, 1) := by decide +kernel
theorem dX13_year_194 : decode cX13_year 194 = .ok (.iconst 1, 1) := by decide +kernel
theorem dX13_year_195 : decode cX13_year 195 = .ok (.iadd, 1) := by decide +kernel
theorem dX13_year_196 : decode cX13_year 196 = .ok (.iastore, 1) := by decide +kernel
theorem dX13_year_197 : decode cX13_year 197 = .ok (.iinc 3 1, 3) := by decide +kernel
theorem dX13_year_200 : decode cX13_year 200 = .ok (.goto (-162), 3) := by decide +kernel
theorem dX13_year_203 : decode cX13_year 203 = .ok (.return_, 1) := by decide +kernel
theorem dX13_refusesYear_0 : decode cX13_refusesYear 0 = .ok (.iload_n 1, 1) := by decide +kernel
theorem dX13_refusesYear_1 : decode cX13_refusesYear 1 = .ok (.ifCond .ne 7, 3) := by decide +kernel
theorem dX13_refusesYear_4 : decode cX13_refusesYear 4 = .ok (.iconst 1, 1) := by decide +kernel
theorem dX13_refusesYear_5 : decode cX13_refusesYear 5 = .ok (.goto 30, 3) := by decide +kernel
theorem dX13_refusesYear_8 : decode cX13_refusesYear 8 = .ok (.iload_n 2, 1) := by decide +kernel
theorem dX13_refusesYear_9 : decode cX13_refusesYear 9 = .ok (.iconst 0, 1) := by decide +kernel
theorem dX13_refusesYear_10 : decode cX13_refusesYear 10 = .ok (.ldc_w 582, 3) := by decide +kernel
theorem dX13_refusesYear_13 : decode cX13_refusesYear 13 = .ok (.invokestatic 138, 3) := by decide +kernel
theorem dX13_refusesYear_16 : decode cX13_refusesYear 16 = .ok (.ifCond .eq 18, 3) := by decide +kernel
theorem dX13_refusesYear_19 : decode cX13_refusesYear 19 = .ok (.iload_n 3, 1) := by decide +kernel
theorem dX13_refusesYear_20 : decode cX13_refusesYear 20 = .ok (.iconst 0, 1) := by decide +kernel
theorem dX13_refusesYear_21 : decode cX13_refusesYear 21 = .ok (.sipush 200, 3) := by decide +kernel
theorem dX13_refusesYear_24 : decode cX13_refusesYear 24 = .ok (.invokestatic 138, 3) := by decide +kernel
theorem dX13_refusesYear_27 : decode cX13_refusesYear 27 = .ok (.ifCond .eq 7, 3) := by decide +kernel
theorem dX13_refusesYear_30 : decode cX13_refusesYear 30 = .ok (.iconst 0, 1) := by decide +kernel
theorem dX13_refusesYear_31 : decode cX13_refusesYear 31 = .ok (.goto 4, 3) := by decide +kernel
theorem dX13_refusesYear_34 : decode cX13_refusesYear 34 = .ok (.iconst 2, 1) := by decide +kernel
theorem dX13_refusesYear_35 : decode cX13_refusesYear 35 = .ok (.ireturn, 1) := by decide +kernel
theorem dX13_wins_0 : decode cX13_wins 0 = .ok (.aload_n 0, 1) := by decide +kernel
theorem dX13_wins_1 : decode cX13_wins 1 = .ok (.iconst 0, 1) := by decide +kernel
theorem dX13_wins_2 : decode cX13_wins 2 = .ok (.putfield 53, 3) := by decide +kernel
theorem dX13_wins_5 : decode cX13_wins 5 = .ok (.aload_n 0, 1) := by decide +kernel
theorem dX13_wins_6 : decode cX13_wins 6 = .ok (.aload_n 0, 1) := by decide +kernel
theorem dX13_wins_7 : decode cX13_wins 7 = .ok (.iload_n 1, 1) := by decide +kernel
theorem dX13_wins_8 : decode cX13_wins 8 = .ok (.invokevirtual 441, 3) := by decide +kernel
theorem dX13_wins_11 : decode cX13_wins 11 = .ok (.iload_n 2, 1) := by decide +kernel
theorem dX13_wins_12 : decode cX13_wins 12 = .ok (.iload_n 3, 1) := by decide +kernel
theorem dX13_wins_13 : decode cX13_wins 13 = .ok (.invokevirtual 583, 3) := by decide +kernel
theorem dX13_wins_16 : decode cX13_wins 16 = .ok (.istore 4, 2) := by decide +kernel
theorem dX13_wins_18 : decode cX13_wins 18 = .ok (.iload 4, 2) := by decide +kernel
theorem dX13_wins_20 : decode cX13_wins 20 = .ok (.ifCond .le 10, 3) := by decide +kernel
theorem dX13_wins_23 : decode cX13_wins 23 = .ok (.aload_n 0, 1) := by decide +kernel
theorem dX13_wins_24 : decode cX13_wins 24 = .ok (.iload 4, 2) := by decide +kernel
theorem dX13_wins_26 : decode cX13_wins 26 = .ok (.invokevirtual 59, 3) := by decide +kernel
theorem dX13_wins_29 : decode cX13_wins 29 = .ok (.ireturn, 1) := by decide +kernel
theorem dX13_wins_30 : decode cX13_wins 30 = .ok (.aload_n 0, 1) := by decide +kernel
theorem dX13_wins_31 : decode cX13_wins 31 = .ok (.iload_n 2, 1) := by decide +kernel
theorem dX13_wins_32 : decode cX13_wins 32 = .ok (.iload_n 3, 1) := by decide +kernel
theorem dX13_wins_33 : decode cX13_wins 33 = .ok (.invokevirtual 587, 3) := by decide +kernel
theorem dX13_wins_36 : decode cX13_wins 36 = .ok (.aload_n 0, 1) := by decide +kernel
theorem dX13_wins_37 : decode cX13_wins 37 = .ok (.aload_n 0, 1) := by decide +kernel
theorem dX13_wins_38 : decode cX13_wins 38 = .ok (.getfield 50, 3) := by decide +kernel
theorem dX13_wins_41 : decode cX13_wins 41 = .ok (.iload_n 1, 1) := by decide +kernel
theorem dX13_wins_42 : decode cX13_wins 42 = .ok (.iaload, 1) := by decide +kernel
theorem dX13_wins_43 : decode cX13_wins 43 = .ok (.invokevirtual 63, 3) := by decide +kernel
theorem dX13_wins_46 : decode cX13_wins 46 = .ok (.ireturn, 1) := by decide +kernel
theorem dX13_spoilt_0 : decode cX13_spoilt 0 = .ok (.aload_n 0, 1) := by decide +kernel
theorem dX13_spoilt_1 : decode cX13_spoilt 1 = .ok (.iconst 0, 1) := by decide +kernel
theorem dX13_spoilt_2 : decode cX13_spoilt 2 = .ok (.putfield 53, 3) := by decide +kernel
theorem dX13_spoilt_5 : decode cX13_spoilt 5 = .ok (.aload_n 0, 1) := by decide +kernel
theorem dX13_spoilt_6 : decode cX13_spoilt 6 = .ok (.aload_n 0, 1) := by decide +kernel
theorem dX13_spoilt_7 : decode cX13_spoilt 7 = .ok (.getfield 373, 3) := by decide +kernel
theorem dX13_spoilt_10 : decode cX13_spoilt 10 = .ok (.ifnull 7, 3) := by decide +kernel
theorem dX13_spoilt_13 : decode cX13_spoilt 13 = .ok (.iconst 1, 1) := by decide +kernel
theorem dX13_spoilt_14 : decode cX13_spoilt 14 = .ok (.goto 4, 3) := by decide +kernel
theorem dX13_spoilt_17 : decode cX13_spoilt 17 = .ok (.iconst 0, 1) := by decide +kernel
theorem dX13_spoilt_18 : decode cX13_spoilt 18 = .ok (.iload_n 1, 1) := by decide +kernel
theorem dX13_spoilt_19 : decode cX13_spoilt 19 = .ok (.iload_n 2, 1) := by decide +kernel
theorem dX13_spoilt_20 : decode cX13_spoilt 20 = .ok (.invokevirtual 583, 3) := by decide +kernel
theorem dX13_spoilt_23 : decode cX13_spoilt 23 = .ok (.istore 4, 2) := by decide +kernel
theorem dX13_spoilt_25 : decode cX13_spoilt 25 = .ok (.iload 4, 2) := by decide +kernel
theorem dX13_spoilt_27 : decode cX13_spoilt 27 = .ok (.ifCond .le 10, 3) := by decide +kernel
theorem dX13_spoilt_30 : decode cX13_spoilt 30 = .ok (.aload_n 0, 1) := by decide +kernel
theorem dX13_spoilt_31 : decode cX13_spoilt 31 = .ok (.iload 4, 2) := by decide +kernel
theorem dX13_spoilt_33 : decode cX13_spoilt 33 = .ok (.invokevirtual 59, 3) := by decide +kernel
theorem dX13_spoilt_36 : decode cX13_spoilt 36 = .ok (.ireturn, 1) := by decide +kernel
theorem dX13_spoilt_37 : decode cX13_spoilt 37 = .ok (.aload_n 0, 1) := by decide +kernel
theorem dX13_spoilt_38 : decode cX13_spoilt 38 = .ok (.iload_n 1, 1) := by decide +kernel
theorem dX13_spoilt_39 : decode cX13_spoilt 39 = .ok (.iload_n 2, 1) := by decide +kernel
theorem dX13_spoilt_40 : decode cX13_spoilt 40 = .ok (.invokevirtual 587, 3) := by decide +kernel
theorem dX13_spoilt_43 : decode cX13_spoilt 43 = .ok (.aload_n 0, 1) := by decide +kernel
theorem dX13_spoilt_44 : decode cX13_spoilt 44 = .ok (.iload_n 3, 1) := by decide +kernel
theorem dX13_spoilt_45 : decode cX13_spoilt 45 = .ok (.ifCond .eq 10, 3) := by decide +kernel
theorem dX13_spoilt_48 : decode cX13_spoilt 48 = .ok (.aload_n 0, 1) := by decide +kernel
theorem dX13_spoilt_49 : decode cX13_spoilt 49 = .ok (.getfield 576, 3) := by decide +kernel
theorem dX13_spoilt_52 : decode cX13_spoilt 52 = .ok (.goto 7, 3) := by decide +kernel
theorem dX13_spoilt_55 : decode cX13_spoilt 55 = .ok (.aload_n 0, 1) := by decide +kernel
theorem dX13_spoilt_56 : decode cX13_spoilt 56 = .ok (.getfield 573, 3) := by decide +kernel
theorem dX13_spoilt_59 : decode cX13_spoilt 59 = .ok (.invokevirtual 63, 3) := by decide +kernel
theorem dX13_spoilt_62 : decode cX13_spoilt 62 = .ok (.ireturn, 1) := by decide +kernel
theorem dX13_keeps_0 : decode cX13_keeps 0 = .ok (.aload_n 0, 1) := by decide +kernel
theorem dX13_keeps_1 : decode cX13_keeps 1 = .ok (.getfield 375, 3) := by decide +kernel
theorem dX13_keeps_4 : decode cX13_keeps 4 = .ok (.bipush 16, 2) := by decide +kernel
theorem dX13_keeps_6 : decode cX13_keeps 6 = .ok (.if_icmp .ne 43, 3) := by decide +kernel
theorem dX13_keeps_9 : decode cX13_keeps 9 = .ok (.iconst 0, 1) := by decide +kernel
theorem dX13_keeps_10 : decode cX13_keeps 10 = .ok (.istore_n 1, 1) := by decide +kernel
theorem dX13_keeps_11 : decode cX13_keeps 11 = .ok (.iload_n 1, 1) := by decide +kernel
theorem dX13_keeps_12 : decode cX13_keeps 12 = .ok (.sipush 270, 3) := by decide +kernel
theorem dX13_keeps_15 : decode cX13_keeps 15 = .ok (.if_icmp .ge 24, 3) := by decide +kernel
theorem dX13_keeps_18 : decode cX13_keeps 18 = .ok (.aload_n 0, 1) := by decide +kernel
theorem dX13_keeps_19 : decode cX13_keeps 19 = .ok (.getfield 21, 3) := by decide +kernel
theorem dX13_keeps_22 : decode cX13_keeps 22 = .ok (.iload_n 1, 1) := by decide +kernel
theorem dX13_keeps_23 : decode cX13_keeps 23 = .ok (.aload_n 0, 1) := by decide +kernel
theorem dX13_keeps_24 : decode cX13_keeps 24 = .ok (.getfield 21, 3) := by decide +kernel
theorem dX13_keeps_27 : decode cX13_keeps 27 = .ok (.iload_n 1, 1) := by decide +kernel
theorem dX13_keeps_28 : decode cX13_keeps 28 = .ok (.bipush 18, 2) := by decide +kernel
theorem dX13_keeps_30 : decode cX13_keeps 30 = .ok (.iadd, 1) := by decide +kernel
theorem dX13_keeps_31 : decode cX13_keeps 31 = .ok (.iaload, 1) := by decide +kernel
theorem dX13_keeps_32 : decode cX13_keeps 32 = .ok (.iastore, 1) := by decide +kernel
theorem dX13_keeps_33 : decode cX13_keeps 33 = .ok (.iinc 1 1, 3) := by decide +kernel
theorem dX13_keeps_36 : decode cX13_keeps 36 = .ok (.goto (-25), 3) := by decide +kernel
theorem dX13_keeps_39 : decode cX13_keeps 39 = .ok (.aload_n 0, 1) := by decide +kernel
theorem dX13_keeps_40 : decode cX13_keeps 40 = .ok (.dup, 1) := by decide +kernel
theorem dX13_keeps_41 : decode cX13_keeps 41 = .ok (.getfield 375, 3) := by decide +kernel
theorem dX13_keeps_44 : decode cX13_keeps 44 = .ok (.iconst 1, 1) := by decide +kernel
theorem dX13_keeps_45 : decode cX13_keeps 45 = .ok (.isub, 1) := by decide +kernel
theorem dX13_keeps_46 : decode cX13_keeps 46 = .ok (.putfield 375, 3) := by decide +kernel
theorem dX13_keeps_49 : decode cX13_keeps 49 = .ok (.iconst 0, 1) := by decide +kernel
theorem dX13_keeps_50 : decode cX13_keeps 50 = .ok (.istore_n 1, 1) := by decide +kernel
theorem dX13_keeps_51 : decode cX13_keeps 51 = .ok (.iload_n 1, 1) := by decide +kernel
theorem dX13_keeps_52 : decode cX13_keeps 52 = .ok (.bipush 18, 2) := by decide +kernel
theorem dX13_keeps_54 : decode cX13_keeps 54 = .ok (.if_icmp .ge 29, 3) := by decide +kernel
theorem dX13_keeps_57 : decode cX13_keeps 57 = .ok (.aload_n 0, 1) := by decide +kernel
theorem dX13_keeps_58 : decode cX13_keeps 58 = .ok (.getfield 21, 3) := by decide +kernel
theorem dX13_keeps_61 : decode cX13_keeps 61 = .ok (.bipush 18, 2) := by decide +kernel
theorem dX13_keeps_63 : decode cX13_keeps 63 = .ok (.aload_n 0, 1) := by decide +kernel
theorem dX13_keeps_64 : decode cX13_keeps 64 = .ok (.getfield 375, 3) := by decide +kernel
theorem dX13_keeps_67 : decode cX13_keeps 67 = .ok (.imul, 1) := by decide +kernel
theorem dX13_keeps_68 : decode cX13_keeps 68 = .ok (.iload_n 1, 1) := by decide +kernel
theorem dX13_keeps_69 : decode cX13_keeps 69 = .ok (.iadd, 1) := by decide +kernel
theorem dX13_keeps_70 : decode cX13_keeps 70 = .ok (.aload_n 0, 1) := by decide +kernel
theorem dX13_keeps_71 : decode cX13_keeps 71 = .ok (.getfield 17, 3) := by decide +kernel
theorem dX13_keeps_74 : decode cX13_keeps 74 = .ok (.iload_n 1, 1) := by decide +kernel
theorem dX13_keeps_75 : decode cX13_keeps 75 = .ok (.iaload, 1) := by decide +kernel
theorem dX13_keeps_76 : decode cX13_keeps 76 = .ok (.iastore, 1) := by decide +kernel
theorem dX13_keeps_77 : decode cX13_keeps 77 = .ok (.iinc 1 1, 3) := by decide +kernel
theorem dX13_keeps_80 : decode cX13_keeps 80 = .ok (.goto (-29), 3) := by decide +kernel
theorem dX13_keeps_83 : decode cX13_keeps 83 = .ok (.aload_n 0, 1) := by decide +kernel
theorem dX13_keeps_84 : decode cX13_keeps 84 = .ok (.dup, 1) := by decide +kernel
theorem dX13_keeps_85 : decode cX13_keeps 85 = .ok (.getfield 375, 3) := by decide +kernel
theorem dX13_keeps_88 : decode cX13_keeps 88 = .ok (.iconst 1, 1) := by decide +kernel
theorem dX13_keeps_89 : decode cX13_keeps 89 = .ok (.iadd, 1) := by decide +kernel
theorem dX13_keeps_90 : decode cX13_keeps 90 = .ok (.putfield 375, 3) := by decide +kernel
theorem dX13_keeps_93 : decode cX13_keeps 93 = .ok (.return_, 1) := by decide +kernel
theorem dX13_dry_0 : decode cX13_dry 0 = .ok (.aload_n 0, 1) := by decide +kernel
theorem dX13_dry_1 : decode cX13_dry 1 = .ok (.iconst 0, 1) := by decide +kernel
theorem dX13_dry_2 : decode cX13_dry 2 = .ok (.putfield 53, 3) := by decide +kernel
theorem dX13_dry_5 : decode cX13_dry 5 = .ok (.aload_n 0, 1) := by decide +kernel
theorem dX13_dry_6 : decode cX13_dry 6 = .ok (.getfield 373, 3) := by decide +kernel
theorem dX13_dry_9 : decode cX13_dry 9 = .ok (.ifnonnull 9, 3) := by decide +kernel
theorem dX13_dry_12 : decode cX13_dry 12 = .ok (.aload_n 0, 1) := by decide +kernel
theorem dX13_dry_13 : decode cX13_dry 13 = .ok (.iconst 1, 1) := by decide +kernel
theorem dX13_dry_14 : decode cX13_dry 14 = .ok (.invokevirtual 590, 3) := by decide +kernel
theorem dX13_dry_17 : decode cX13_dry 17 = .ok (.ireturn, 1) := by decide +kernel
theorem dX13_dry_18 : decode cX13_dry 18 = .ok (.iload_n 1, 1) := by decide +kernel
theorem dX13_dry_19 : decode cX13_dry 19 = .ok (.iconst 1, 1) := by decide +kernel
theorem dX13_dry_20 : decode cX13_dry 20 = .ok (.bipush 24, 2) := by decide +kernel
theorem dX13_dry_22 : decode cX13_dry 22 = .ok (.invokestatic 138, 3) := by decide +kernel
theorem dX13_dry_25 : decode cX13_dry 25 = .ok (.ifCond .ne 9, 3) := by decide +kernel
theorem dX13_dry_28 : decode cX13_dry 28 = .ok (.aload_n 0, 1) := by decide +kernel
theorem dX13_dry_29 : decode cX13_dry 29 = .ok (.iconst 2, 1) := by decide +kernel
theorem dX13_dry_30 : decode cX13_dry 30 = .ok (.invokevirtual 590, 3) := by decide +kernel
theorem dX13_dry_33 : decode cX13_dry 33 = .ok (.ireturn, 1) := by decide +kernel
theorem dX13_dry_34 : decode cX13_dry 34 = .ok (.aload_n 0, 1) := by decide +kernel
theorem dX13_dry_35 : decode cX13_dry 35 = .ok (.invokevirtual 593, 3) := by decide +kernel
theorem dX13_dry_38 : decode cX13_dry 38 = .ok (.iconst 0, 1) := by decide +kernel
theorem dX13_dry_39 : decode cX13_dry 39 = .ok (.istore_n 2, 1) := by decide +kernel
theorem dX13_dry_40 : decode cX13_dry 40 = .ok (.iload_n 2, 1) := by decide +kernel
theorem dX13_dry_41 : decode cX13_dry 41 = .ok (.aload_n 0, 1) := by decide +kernel
theorem dX13_dry_42 : decode cX13_dry 42 = .ok (.getfield 373, 3) := by decide +kernel
theorem dX13_dry_45 : decode cX13_dry 45 = .ok (.getfield 210, 3) := by decide +kernel
theorem dX13_dry_48 : decode cX13_dry 48 = .ok (.if_icmp .ge 61, 3) := by decide +kernel
theorem dX13_dry_51 : decode cX13_dry 51 = .ok (.aload_n 0, 1) := by decide +kernel
theorem dX13_dry_52 : decode cX13_dry 52 = .ok (.getfield 17, 3) := by decide +kernel
theorem dX13_dry_55 : decode cX13_dry 55 = .ok (.bipush 10, 2) := by decide +kernel
theorem dX13_dry_57 : decode cX13_dry 57 = .ok (.iaload, 1) := by decide +kernel
theorem dX13_dry_58 : decode cX13_dry 58 = .ok (.iload_n 2, 1) := by decide +kernel
theorem dX13_dry_59 : decode cX13_dry 59 = .ok (.invokestatic 327, 3) := by decide +kernel
theorem dX13_dry_62 : decode cX13_dry 62 = .ok (.ifCond .ne 41, 3) := by decide +kernel
theorem dX13_dry_65 : decode cX13_dry 65 = .ok (.aload_n 0, 1) := by decide +kernel
theorem dX13_dry_66 : decode cX13_dry 66 = .ok (.getfield 17, 3) := by decide +kernel
theorem dX13_dry_69 : decode cX13_dry 69 = .ok (.iconst 5, 1) := by decide +kernel
theorem dX13_dry_70 : decode cX13_dry 70 = .ok (.iload_n 2, 1) := by decide +kernel
theorem dX13_dry_71 : decode cX13_dry 71 = .ok (.iadd, 1) := by decide +kernel
theorem dX13_dry_72 : decode cX13_dry 72 = .ok (.aload_n 0, 1) := by decide +kernel
theorem dX13_dry_73 : decode cX13_dry 73 = .ok (.getfield 17, 3) := by decide +kernel
theorem dX13_dry_76 : decode cX13_dry 76 = .ok (.iconst 5, 1) := by decide +kernel
theorem dX13_dry_77 : decode cX13_dry 77 = .ok (.iload_n 2, 1) := by decide +kernel
theorem dX13_dry_78 : decode cX13_dry 78 = .ok (.iadd, 1) := by decide +kernel
theorem dX13_dry_79 : decode cX13_dry 79 = .ok (.iaload, 1) := by decide +kernel
theorem dX13_dry_80 : decode cX13_dry 80 = .ok (.iload_n 1, 1) := by decide +kernel
theorem dX13_dry_81 : decode cX13_dry 81 = .ok (.iadd, 1) := by decide +kernel
theorem dX13_dry_82 : decode cX13_dry 82 = .ok (.bipush 24, 2) := by decide +kernel
theorem dX13_dry_84 : decode cX13_dry 84 = .ok (.if_icmp .le 8, 3) := by decide +kernel
theorem dX13_dry_87 : decode cX13_dry 87 = .ok (.bipush 24, 2) := by decide +kernel
theorem dX13_dry_89 : decode cX13_dry 89 = .ok (.goto 13, 3) := by decide +kernel
theorem dX13_dry_92 : decode cX13_dry 92 = .ok (.aload_n 0, 1) := by decide +kernel
theorem dX13_dry_93 : decode cX13_dry 93 = .ok (.getfield 17, 3) := by decide +kernel
theorem dX13_dry_96 : decode cX13_dry 96 = .ok (.iconst 5, 1) := by decide +kernel
theorem dX13_dry_97 : decode cX13_dry 97 = .ok (.iload_n 2, 1) := by decide +kernel
theorem dX13_dry_98 : decode cX13_dry 98 = .ok (.iadd, 1) := by decide +kernel
theorem dX13_dry_99 : decode cX13_dry 99 = .ok (.iaload, 1) := by decide +kernel
theorem dX13_dry_100 : decode cX13_dry 100 = .ok (.iload_n 1, 1) := by decide +kernel
theorem dX13_dry_101 : decode cX13_dry 101 = .ok (.iadd, 1) := by decide +kernel
theorem dX13_dry_102 : decode cX13_dry 102 = .ok (.iastore, 1) := by decide +kernel
theorem dX13_dry_103 : decode cX13_dry 103 = .ok (.iinc 2 1, 3) := by decide +kernel
theorem dX13_dry_106 : decode cX13_dry 106 = .ok (.goto (-66), 3) := by decide +kernel
theorem dX13_dry_109 : decode cX13_dry 109 = .ok (.aload_n 0, 1) := by decide +kernel
theorem dX13_dry_110 : decode cX13_dry 110 = .ok (.invokevirtual 596, 3) := by decide +kernel
theorem dX13_dry_113 : decode cX13_dry 113 = .ok (.ireturn, 1) := by decide +kernel
theorem dX13_boil_0 : decode cX13_boil 0 = .ok (.aload_n 0, 1) := by decide +kernel
theorem dX13_boil_1 : decode cX13_boil 1 = .ok (.iconst 0, 1) := by decide +kernel
theorem dX13_boil_2 : decode cX13_boil 2 = .ok (.putfield 53, 3) := by decide +kernel
theorem dX13_boil_5 : decode cX13_boil 5 = .ok (.aload_n 0, 1) := by decide +kernel
theorem dX13_boil_6 : decode cX13_boil 6 = .ok (.iload_n 1, 1) := by decide +kernel
theorem dX13_boil_7 : decode cX13_boil 7 = .ok (.invokevirtual 444, 3) := by decide +kernel
theorem dX13_boil_10 : decode cX13_boil 10 = .ok (.ifCond .ne 9, 3) := by decide +kernel
theorem dX13_boil_13 : decode cX13_boil 13 = .ok (.aload_n 0, 1) := by decide +kernel
theorem dX13_boil_14 : decode cX13_boil 14 = .ok (.iconst 1, 1) := by decide +kernel
theorem dX13_boil_15 : decode cX13_boil 15 = .ok (.invokevirtual 590, 3) := by decide +kernel
theorem dX13_boil_18 : decode cX13_boil 18 = .ok (.ireturn, 1) := by decide +kernel
theorem dX13_boil_19 : decode cX13_boil 19 = .ok (.aload_n 0, 1) := by decide +kernel
theorem dX13_boil_20 : decode cX13_boil 20 = .ok (.getfield 17, 3) := by decide +kernel
theorem dX13_boil_23 : decode cX13_boil 23 = .ok (.bipush 10, 2) := by decide +kernel
theorem dX13_boil_25 : decode cX13_boil 25 = .ok (.iaload, 1) := by decide +kernel
theorem dX13_boil_26 : decode cX13_boil 26 = .ok (.iload_n 1, 1) := by decide +kernel
theorem dX13_boil_27 : decode cX13_boil 27 = .ok (.invokestatic 327, 3) := by decide +kernel
theorem dX13_boil_30 : decode cX13_boil 30 = .ok (.ifCond .ne 15, 3) := by decide +kernel
theorem dX13_boil_33 : decode cX13_boil 33 = .ok (.aload_n 0, 1) := by decide +kernel
theorem dX13_boil_34 : decode cX13_boil 34 = .ok (.getfield 17, 3) := by decide +kernel
theorem dX13_boil_37 : decode cX13_boil 37 = .ok (.iconst 0, 1) := by decide +kernel
theorem dX13_boil_38 : decode cX13_boil 38 = .ok (.iload_n 1, 1) := by decide +kernel
theorem dX13_boil_39 : decode cX13_boil 39 = .ok (.iadd, 1) := by decide +kernel
theorem dX13_boil_40 : decode cX13_boil 40 = .ok (.iaload, 1) := by decide +kernel
theorem dX13_boil_41 : decode cX13_boil 41 = .ok (.iconst 2, 1) := by decide +kernel
theorem dX13_boil_42 : decode cX13_boil 42 = .ok (.if_icmp .ne 9, 3) := by decide +kernel
theorem dX13_boil_45 : decode cX13_boil 45 = .ok (.aload_n 0, 1) := by decide +kernel
theorem dX13_boil_46 : decode cX13_boil 46 = .ok (.iconst 5, 1) := by decide +kernel
theorem dX13_boil_47 : decode cX13_boil 47 = .ok (.invokevirtual 590, 3) := by decide +kernel
theorem dX13_boil_50 : decode cX13_boil 50 = .ok (.ireturn, 1) := by decide +kernel
theorem dX13_boil_51 : decode cX13_boil 51 = .ok (.aload_n 0, 1) := by decide +kernel
theorem dX13_boil_52 : decode cX13_boil 52 = .ok (.invokevirtual 593, 3) := by decide +kernel
theorem dX13_boil_55 : decode cX13_boil 55 = .ok (.aload_n 0, 1) := by decide +kernel
theorem dX13_boil_56 : decode cX13_boil 56 = .ok (.getfield 17, 3) := by decide +kernel
theorem dX13_boil_59 : decode cX13_boil 59 = .ok (.iconst 0, 1) := by decide +kernel
theorem dX13_boil_60 : decode cX13_boil 60 = .ok (.iload_n 1, 1) := by decide +kernel
theorem dX13_boil_61 : decode cX13_boil 61 = .ok (.iadd, 1) := by decide +kernel
theorem dX13_boil_62 : decode cX13_boil 62 = .ok (.iconst 2, 1) := by decide +kernel
theorem dX13_boil_63 : decode cX13_boil 63 = .ok (.iastore, 1) := by decide +kernel
theorem dX13_boil_64 : decode cX13_boil 64 = .ok (.aload_n 0, 1) := by decide +kernel
theorem dX13_boil_65 : decode cX13_boil 65 = .ok (.invokevirtual 596, 3) := by decide +kernel
theorem dX13_boil_68 : decode cX13_boil 68 = .ok (.ireturn, 1) := by decide +kernel
theorem dX13_pull_0 : decode cX13_pull 0 = .ok (.aload_n 0, 1) := by decide +kernel
theorem dX13_pull_1 : decode cX13_pull 1 = .ok (.iconst 0, 1) := by decide +kernel
theorem dX13_pull_2 : decode cX13_pull 2 = .ok (.putfield 53, 3) := by decide +kernel
theorem dX13_pull_5 : decode cX13_pull 5 = .ok (.aload_n 0, 1) := by decide +kernel
theorem dX13_pull_6 : decode cX13_pull 6 = .ok (.aload_n 0, 1) := by decide +kernel
theorem dX13_pull_7 : decode cX13_pull 7 = .ok (.iload_n 1, 1) := by decide +kernel
theorem dX13_pull_8 : decode cX13_pull 8 = .ok (.invokevirtual 444, 3) := by decide +kernel
theorem dX13_pull_11 : decode cX13_pull 11 = .ok (.ifCond .eq 17, 3) := by decide +kernel
theorem dX13_pull_14 : decode cX13_pull 14 = .ok (.aload_n 0, 1) := by decide +kernel
theorem dX13_pull_15 : decode cX13_pull 15 = .ok (.iload_n 2, 1) := by decide +kernel
theorem dX13_pull_16 : decode cX13_pull 16 = .ok (.iload 4, 2) := by decide +kernel
theorem dX13_pull_18 : decode cX13_pull 18 = .ok (.invokevirtual 455, 3) := by decide +kernel
theorem dX13_pull_21 : decode cX13_pull 21 = .ok (.ifCond .eq 7, 3) := by decide +kernel
theorem dX13_pull_24 : decode cX13_pull 24 = .ok (.iconst 1, 1) := by decide +kernel
theorem dX13_pull_25 : decode cX13_pull 25 = .ok (.goto 4, 3) := by decide +kernel
theorem dX13_pull_28 : decode cX13_pull 28 = .ok (.iconst 0, 1) := by decide +kernel
theorem dX13_pull_29 : decode cX13_pull 29 = .ok (.iload_n 1, 1) := by decide +kernel
theorem dX13_pull_30 : decode cX13_pull 30 = .ok (.iload_n 3, 1) := by decide +kernel
theorem dX13_pull_31 : decode cX13_pull 31 = .ok (.iload 5, 2) := by decide +kernel
theorem dX13_pull_33 : decode cX13_pull 33 = .ok (.iload 6, 2) := by decide +kernel
theorem dX13_pull_35 : decode cX13_pull 35 = .ok (.invokevirtual 458, 3) := by decide +kernel
theorem dX13_pull_38 : decode cX13_pull 38 = .ok (.istore 7, 2) := by decide +kernel
theorem dX13_pull_40 : decode cX13_pull 40 = .ok (.iload 7, 2) := by decide +kernel
theorem dX13_pull_42 : decode cX13_pull 42 = .ok (.ifCond .le 10, 3) := by decide +kernel
theorem dX13_pull_45 : decode cX13_pull 45 = .ok (.aload_n 0, 1) := by decide +kernel
theorem dX13_pull_46 : decode cX13_pull 46 = .ok (.iload 7, 2) := by decide +kernel
theorem dX13_pull_48 : decode cX13_pull 48 = .ok (.invokevirtual 59, 3) := by decide +kernel
theorem dX13_pull_51 : decode cX13_pull 51 = .ok (.ireturn, 1) := by decide +kernel
theorem dX13_pull_52 : decode cX13_pull 52 = .ok (.aload_n 0, 1) := by decide +kernel
theorem dX13_pull_53 : decode cX13_pull 53 = .ok (.getfield 373, 3) := by decide +kernel
theorem dX13_pull_56 : decode cX13_pull 56 = .ok (.getfield 288, 3) := by decide +kernel
theorem dX13_pull_59 : decode cX13_pull 59 = .ok (.iload_n 1, 1) := by decide +kernel
theorem dX13_pull_60 : decode cX13_pull 60 = .ok (.iaload, 1) := by decide +kernel
theorem dX13_pull_61 : decode cX13_pull 61 = .ok (.iconst 1, 1) := by decide +kernel
theorem dX13_pull_62 : decode cX13_pull 62 = .ok (.if_icmp .eq 17, 3) := by decide +kernel
theorem dX13_pull_65 : decode cX13_pull 65 = .ok (.aload_n 0, 1) := by decide +kernel
theorem dX13_pull_66 : decode cX13_pull 66 = .ok (.getfield 17, 3) := by decide +kernel
theorem dX13_pull_69 : decode cX13_pull 69 = .ok (.bipush 10, 2) := by decide +kernel
theorem dX13_pull_71 : decode cX13_pull 71 = .ok (.iaload, 1) := by decide +kernel
theorem dX13_pull_72 : decode cX13_pull 72 = .ok (.iload_n 1, 1) := by decide +kernel
theorem dX13_pull_73 : decode cX13_pull 73 = .ok (.invokestatic 327, 3) := by decide +kernel
theorem dX13_pull_76 : decode cX13_pull 76 = .ok (.ifCond .eq 9, 3) := by decide +kernel
theorem dX13_pull_79 : decode cX13_pull 79 = .ok (.aload_n 0, 1) := by decide +kernel
theorem dX13_pull_80 : decode cX13_pull 80 = .ok (.iconst 5, 1) := by decide +kernel
theorem dX13_pull_81 : decode cX13_pull 81 = .ok (.invokevirtual 59, 3) := by decide +kernel
theorem dX13_pull_84 : decode cX13_pull 84 = .ok (.ireturn, 1) := by decide +kernel
theorem dX13_pull_85 : decode cX13_pull 85 = .ok (.aload_n 0, 1) := by decide +kernel
theorem dX13_pull_86 : decode cX13_pull 86 = .ok (.invokevirtual 593, 3) := by decide +kernel
theorem dX13_pull_89 : decode cX13_pull 89 = .ok (.aload_n 0, 1) := by decide +kernel
theorem dX13_pull_90 : decode cX13_pull 90 = .ok (.aload_n 0, 1) := by decide +kernel
theorem dX13_pull_91 : decode cX13_pull 91 = .ok (.getfield 17, 3) := by decide +kernel
theorem dX13_pull_94 : decode cX13_pull 94 = .ok (.bipush 17, 2) := by decide +kernel
theorem dX13_pull_96 : decode cX13_pull 96 = .ok (.iaload, 1) := by decide +kernel
theorem dX13_pull_97 : decode cX13_pull 97 = .ok (.putfield 563, 3) := by decide +kernel
theorem dX13_pull_100 : decode cX13_pull 100 = .ok (.aload_n 0, 1) := by decide +kernel
theorem dX13_pull_101 : decode cX13_pull 101 = .ok (.iload_n 1, 1) := by decide +kernel
theorem dX13_pull_102 : decode cX13_pull 102 = .ok (.iload_n 2, 1) := by decide +kernel
theorem dX13_pull_103 : decode cX13_pull 103 = .ok (.iload_n 3, 1) := by decide +kernel
theorem dX13_pull_104 : decode cX13_pull 104 = .ok (.iload 4, 2) := by decide +kernel
theorem dX13_pull_106 : decode cX13_pull 106 = .ok (.iload 5, 2) := by decide +kernel
theorem dX13_pull_108 : decode cX13_pull 108 = .ok (.iload 6, 2) := by decide +kernel
theorem dX13_pull_110 : decode cX13_pull 110 = .ok (.invokevirtual 396, 3) := by decide +kernel
theorem dX13_pull_113 : decode cX13_pull 113 = .ok (.aload_n 0, 1) := by decide +kernel
theorem dX13_pull_114 : decode cX13_pull 114 = .ok (.invokevirtual 579, 3) := by decide +kernel
theorem dX13_pull_117 : decode cX13_pull 117 = .ok (.aload_n 0, 1) := by decide +kernel
theorem dX13_pull_118 : decode cX13_pull 118 = .ok (.getfield 17, 3) := by decide +kernel
theorem dX13_pull_121 : decode cX13_pull 121 = .ok (.bipush 17, 2) := by decide +kernel
theorem dX13_pull_123 : decode cX13_pull 123 = .ok (.aload_n 0, 1) := by decide +kernel
theorem dX13_pull_124 : decode cX13_pull 124 = .ok (.getfield 563, 3) := by decide +kernel
theorem dX13_pull_127 : decode cX13_pull 127 = .ok (.iastore, 1) := by decide +kernel
theorem dX13_pull_128 : decode cX13_pull 128 = .ok (.aload_n 0, 1) := by decide +kernel
theorem dX13_pull_129 : decode cX13_pull 129 = .ok (.invokevirtual 433, 3) := by decide +kernel
theorem dX13_pull_132 : decode cX13_pull 132 = .ok (.istore 8, 2) := by decide +kernel
theorem dX13_pull_134 : decode cX13_pull 134 = .ok (.iload 8, 2) := by decide +kernel
theorem dX13_pull_136 : decode cX13_pull 136 = .ok (.iconst 3, 1) := by decide +kernel
theorem dX13_pull_137 : decode cX13_pull 137 = .ok (.if_icmp .eq 16, 3) := by decide +kernel
theorem dX13_pull_140 : decode cX13_pull 140 = .ok (.aload_n 0, 1) := by decide +kernel
theorem dX13_pull_141 : decode cX13_pull 141 = .ok (.getfield 17, 3) := by decide +kernel
theorem dX13_pull_144 : decode cX13_pull 144 = .ok (.bipush 10, 2) := by decide +kernel
theorem dX13_pull_146 : decode cX13_pull 146 = .ok (.dup2, 1) := by decide +kernel
theorem dX13_pull_147 : decode cX13_pull 147 = .ok (.iaload, 1) := by decide +kernel
theorem dX13_pull_148 : decode cX13_pull 148 = .ok (.iconst 1, 1) := by decide +kernel
theorem dX13_pull_149 : decode cX13_pull 149 = .ok (.iload_n 1, 1) := by decide +kernel
theorem dX13_pull_150 : decode cX13_pull 150 = .ok (.ishl, 1) := by decide +kernel
theorem dX13_pull_151 : decode cX13_pull 151 = .ok (.ior, 1) := by decide +kernel
theorem dX13_pull_152 : decode cX13_pull 152 = .ok (.iastore, 1) := by decide +kernel
theorem dX13_pull_153 : decode cX13_pull 153 = .ok (.iload 8, 2) := by decide +kernel
theorem dX13_pull_155 : decode cX13_pull 155 = .ok (.ifCond .ne 19, 3) := by decide +kernel
theorem dX13_pull_158 : decode cX13_pull 158 = .ok (.aload_n 0, 1) := by decide +kernel
theorem dX13_pull_159 : decode cX13_pull 159 = .ok (.getfield 17, 3) := by decide +kernel
theorem dX13_pull_162 : decode cX13_pull 162 = .ok (.bipush 11, 2) := by decide +kernel
theorem dX13_pull_164 : decode cX13_pull 164 = .ok (.iload_n 2, 1) := by decide +kernel
theorem dX13_pull_165 : decode cX13_pull 165 = .ok (.iadd, 1) := by decide +kernel
theorem dX13_pull_166 : decode cX13_pull 166 = .ok (.dup2, 1) := by decide +kernel
theorem dX13_pull_167 : decode cX13_pull 167 = .ok (.iaload, 1) := by decide +kernel
theorem dX13_pull_168 : decode cX13_pull 168 = .ok (.iconst 1, 1) := by decide +kernel
theorem dX13_pull_169 : decode cX13_pull 169 = .ok (.iadd, 1) := by decide +kernel
theorem dX13_pull_170 : decode cX13_pull 170 = .ok (.iastore, 1) := by decide +kernel
theorem dX13_pull_171 : decode cX13_pull 171 = .ok (.goto 23, 3) := by decide +kernel
theorem dX13_pull_174 : decode cX13_pull 174 = .ok (.iload 8, 2) := by decide +kernel
theorem dX13_pull_176 : decode cX13_pull 176 = .ok (.iconst 1, 1) := by decide +kernel
theorem dX13_pull_177 : decode cX13_pull 177 = .ok (.if_icmp .ne 17, 3) := by decide +kernel
theorem dX13_pull_180 : decode cX13_pull 180 = .ok (.aload_n 0, 1) := by decide +kernel
theorem dX13_pull_181 : decode cX13_pull 181 = .ok (.getfield 17, 3) := by decide +kernel
theorem dX13_pull_184 : decode cX13_pull 184 = .ok (.bipush 11, 2) := by decide +kernel
theorem dX13_pull_186 : decode cX13_pull 186 = .ok (.iload 4, 2) := by decide +kernel
theorem dX13_pull_188 : decode cX13_pull 188 = .ok (.iadd, 1) := by decide +kernel
theorem dX13_pull_189 : decode cX13_pull 189 = .ok (.dup2, 1) := by decide +kernel
theorem dX13_pull_190 : decode cX13_pull 190 = .ok (.iaload, 1) := by decide +kernel
theorem dX13_pull_191 : decode cX13_pull 191 = .ok (.iconst 1, 1) := by decide +kernel
theorem dX13_pull_192 : decode cX13_pull 192 = .ok (.iadd, 1) := by decide +kernel
theorem dX13_pull_193 : decode cX13_pull 193 = .ok (.iastore, 1) := by decide +kernel
theorem dX13_pull_194 : decode cX13_pull 194 = .ok (.aload_n 0, 1) := by decide +kernel
theorem dX13_pull_195 : decode cX13_pull 195 = .ok (.iload 8, 2) := by decide +kernel
theorem dX13_pull_197 : decode cX13_pull 197 = .ok (.invokevirtual 63, 3) := by decide +kernel
theorem dX13_pull_200 : decode cX13_pull 200 = .ok (.ireturn, 1) := by decide +kernel
theorem dX13_seed_0 : decode cX13_seed 0 = .ok (.aload_n 0, 1) := by decide +kernel
theorem dX13_seed_1 : decode cX13_seed 1 = .ok (.iconst 0, 1) := by decide +kernel
theorem dX13_seed_2 : decode cX13_seed 2 = .ok (.putfield 53, 3) := by decide +kernel
theorem dX13_seed_5 : decode cX13_seed 5 = .ok (.aload_n 0, 1) := by decide +kernel
theorem dX13_seed_6 : decode cX13_seed 6 = .ok (.getfield 373, 3) := by decide +kernel
theorem dX13_seed_9 : decode cX13_seed 9 = .ok (.ifnonnull 9, 3) := by decide +kernel
theorem dX13_seed_12 : decode cX13_seed 12 = .ok (.aload_n 0, 1) := by decide +kernel
theorem dX13_seed_13 : decode cX13_seed 13 = .ok (.iconst 1, 1) := by decide +kernel
theorem dX13_seed_14 : decode cX13_seed 14 = .ok (.invokevirtual 590, 3) := by decide +kernel
theorem dX13_seed_17 : decode cX13_seed 17 = .ok (.ireturn, 1) := by decide +kernel
theorem dX13_seed_18 : decode cX13_seed 18 = .ok (.iload_n 1, 1) := by decide +kernel
theorem dX13_seed_19 : decode cX13_seed 19 = .ok (.iconst 0, 1) := by decide +kernel
theorem dX13_seed_20 : decode cX13_seed 20 = .ok (.ldc_w 582, 3) := by decide +kernel
theorem dX13_seed_23 : decode cX13_seed 23 = .ok (.invokestatic 138, 3) := by decide +kernel
theorem dX13_seed_26 : decode cX13_seed 26 = .ok (.ifCond .ne 9, 3) := by decide +kernel
theorem dX13_seed_29 : decode cX13_seed 29 = .ok (.aload_n 0, 1) := by decide +kernel
theorem dX13_seed_30 : decode cX13_seed 30 = .ok (.iconst 2, 1) := by decide +kernel
theorem dX13_seed_31 : decode cX13_seed 31 = .ok (.invokevirtual 590, 3) := by decide +kernel
theorem dX13_seed_34 : decode cX13_seed 34 = .ok (.ireturn, 1) := by decide +kernel
theorem dX13_seed_35 : decode cX13_seed 35 = .ok (.aload_n 0, 1) := by decide +kernel
theorem dX13_seed_36 : decode cX13_seed 36 = .ok (.getfield 17, 3) := by decide +kernel
theorem dX13_seed_39 : decode cX13_seed 39 = .ok (.bipush 17, 2) := by decide +kernel
theorem dX13_seed_41 : decode cX13_seed 41 = .ok (.iload_n 1, 1) := by decide +kernel
theorem dX13_seed_42 : decode cX13_seed 42 = .ok (.iastore, 1) := by decide +kernel
theorem dX13_seed_43 : decode cX13_seed 43 = .ok (.aload_n 0, 1) := by decide +kernel
theorem dX13_seed_44 : decode cX13_seed 44 = .ok (.invokevirtual 596, 3) := by decide +kernel
theorem dX13_seed_47 : decode cX13_seed 47 = .ok (.ireturn, 1) := by decide +kernel
theorem dX13_undo_0 : decode cX13_undo 0 = .ok (.aload_n 0, 1) := by decide +kernel
theorem dX13_undo_1 : decode cX13_undo 1 = .ok (.iconst 0, 1) := by decide +kernel
theorem dX13_undo_2 : decode cX13_undo 2 = .ok (.putfield 53, 3) := by decide +kernel
theorem dX13_undo_5 : decode cX13_undo 5 = .ok (.aload_n 0, 1) := by decide +kernel
theorem dX13_undo_6 : decode cX13_undo 6 = .ok (.getfield 373, 3) := by decide +kernel
theorem dX13_undo_9 : decode cX13_undo 9 = .ok (.ifnull 10, 3) := by decide +kernel
theorem dX13_undo_12 : decode cX13_undo 12 = .ok (.aload_n 0, 1) := by decide +kernel
theorem dX13_undo_13 : decode cX13_undo 13 = .ok (.getfield 375, 3) := by decide +kernel
theorem dX13_undo_16 : decode cX13_undo 16 = .ok (.ifCond .ne 10, 3) := by decide +kernel
theorem dX13_undo_19 : decode cX13_undo 19 = .ok (.aload_n 0, 1) := by decide +kernel
theorem dX13_undo_20 : decode cX13_undo 20 = .ok (.bipush 6, 2) := by decide +kernel
theorem dX13_undo_22 : decode cX13_undo 22 = .ok (.invokevirtual 590, 3) := by decide +kernel
theorem dX13_undo_25 : decode cX13_undo 25 = .ok (.ireturn, 1) := by decide +kernel
theorem dX13_undo_26 : decode cX13_undo 26 = .ok (.aload_n 0, 1) := by decide +kernel
theorem dX13_undo_27 : decode cX13_undo 27 = .ok (.dup, 1) := by decide +kernel
theorem dX13_undo_28 : decode cX13_undo 28 = .ok (.getfield 375, 3) := by decide +kernel
theorem dX13_undo_31 : decode cX13_undo 31 = .ok (.iconst 1, 1) := by decide +kernel
theorem dX13_undo_32 : decode cX13_undo 32 = .ok (.isub, 1) := by decide +kernel
theorem dX13_undo_33 : decode cX13_undo 33 = .ok (.putfield 375, 3) := by decide +kernel
theorem dX13_undo_36 : decode cX13_undo 36 = .ok (.iconst 0, 1) := by decide +kernel
theorem dX13_undo_37 : decode cX13_undo 37 = .ok (.istore_n 1, 1) := by decide +kernel
theorem dX13_undo_38 : decode cX13_undo 38 = .ok (.iload_n 1, 1) := by decide +kernel
theorem dX13_undo_39 : decode cX13_undo 39 = .ok (.bipush 18, 2) := by decide +kernel
theorem dX13_undo_41 : decode cX13_undo 41 = .ok (.if_icmp .ge 29, 3) := by decide +kernel
theorem dX13_undo_44 : decode cX13_undo 44 = .ok (.aload_n 0, 1) := by decide +kernel
theorem dX13_undo_45 : decode cX13_undo 45 = .ok (.getfield 17, 3) := by decide +kernel
theorem dX13_undo_48 : decode cX13_undo 48 = .ok (.iload_n 1, 1) := by decide +kernel
theorem dX13_undo_49 : decode cX13_undo 49 = .ok (.aload_n 0, 1) := by decide +kernel
theorem dX13_undo_50 : decode cX13_undo 50 = .ok (.getfield 21, 3) := by decide +kernel
theorem dX13_undo_53 : decode cX13_undo 53 = .ok (.bipush 18, 2) := by decide +kernel
theorem dX13_undo_55 : decode cX13_undo 55 = .ok (.aload_n 0, 1) := by decide +kernel
theorem dX13_undo_56 : decode cX13_undo 56 = .ok (.getfield 375, 3) := by decide +kernel
theorem dX13_undo_59 : decode cX13_undo 59 = .ok (.imul, 1) := by decide +kernel
theorem dX13_undo_60 : decode cX13_undo 60 = .ok (.iload_n 1, 1) := by decide +kernel
theorem dX13_undo_61 : decode cX13_undo 61 = .ok (.iadd, 1) := by decide +kernel
theorem dX13_undo_62 : decode cX13_undo 62 = .ok (.iaload, 1) := by decide +kernel
theorem dX13_undo_63 : decode cX13_undo 63 = .ok (.iastore, 1) := by decide +kernel
theorem dX13_undo_64 : decode cX13_undo 64 = .ok (.iinc 1 1, 3) := by decide +kernel
theorem dX13_undo_67 : decode cX13_undo 67 = .ok (.goto (-29), 3) := by decide +kernel
theorem dX13_undo_70 : decode cX13_undo 70 = .ok (.aload_n 0, 1) := by decide +kernel
theorem dX13_undo_71 : decode cX13_undo 71 = .ok (.invokevirtual 596, 3) := by decide +kernel
theorem dX13_undo_74 : decode cX13_undo 74 = .ok (.ireturn, 1) := by decide +kernel
theorem dX13_mark_0 : decode cX13_mark 0 = .ok (.aload_n 0, 1) := by decide +kernel
theorem dX13_mark_1 : decode cX13_mark 1 = .ok (.iconst 0, 1) := by decide +kernel
theorem dX13_mark_2 : decode cX13_mark 2 = .ok (.putfield 53, 3) := by decide +kernel
theorem dX13_mark_5 : decode cX13_mark 5 = .ok (.aload_n 0, 1) := by decide +kernel
theorem dX13_mark_6 : decode cX13_mark 6 = .ok (.getfield 373, 3) := by decide +kernel
theorem dX13_mark_9 : decode cX13_mark 9 = .ok (.ifnonnull 9, 3) := by decide +kernel
theorem dX13_mark_12 : decode cX13_mark 12 = .ok (.aload_n 0, 1) := by decide +kernel
theorem dX13_mark_13 : decode cX13_mark 13 = .ok (.iconst 1, 1) := by decide +kernel
theorem dX13_mark_14 : decode cX13_mark 14 = .ok (.invokevirtual 59, 3) := by decide +kernel
theorem dX13_mark_17 : decode cX13_mark 17 = .ok (.ireturn, 1) := by decide +kernel
theorem dX13_mark_18 : decode cX13_mark 18 = .ok (.aload_n 0, 1) := by decide +kernel
theorem dX13_mark_19 : decode cX13_mark 19 = .ok (.getfield 378, 3) := by decide +kernel
theorem dX13_mark_22 : decode cX13_mark 22 = .ok (.iconst 3, 1) := by decide +kernel
theorem dX13_mark_23 : decode cX13_mark 23 = .ok (.if_icmp .ne 9, 3) := by decide +kernel
theorem dX13_mark_26 : decode cX13_mark 26 = .ok (.aload_n 0, 1) := by decide +kernel
theorem dX13_mark_27 : decode cX13_mark 27 = .ok (.iconst 3, 1) := by decide +kernel
theorem dX13_mark_28 : decode cX13_mark 28 = .ok (.invokevirtual 59, 3) := by decide +kernel
theorem dX13_mark_31 : decode cX13_mark 31 = .ok (.ireturn, 1) := by decide +kernel
theorem dX13_mark_32 : decode cX13_mark 32 = .ok (.iconst 0, 1) := by decide +kernel
theorem dX13_mark_33 : decode cX13_mark 33 = .ok (.istore_n 1, 1) := by decide +kernel
theorem dX13_mark_34 : decode cX13_mark 34 = .ok (.iload_n 1, 1) := by decide +kernel
theorem dX13_mark_35 : decode cX13_mark 35 = .ok (.bipush 18, 2) := by decide +kernel
theorem dX13_mark_37 : decode cX13_mark 37 = .ok (.if_icmp .ge 29, 3) := by decide +kernel
theorem dX13_mark_40 : decode cX13_mark 40 = .ok (.aload_n 0, 1) := by decide +kernel
theorem dX13_mark_41 : decode cX13_mark 41 = .ok (.getfield 24, 3) := by decide +kernel
theorem dX13_mark_44 : decode cX13_mark 44 = .ok (.bipush 18, 2) := by decide +kernel
theorem dX13_mark_46 : decode cX13_mark 46 = .ok (.aload_n 0, 1) := by decide +kernel
theorem dX13_mark_47 : decode cX13_mark 47 = .ok (.getfield 378, 3) := by decide +kernel
theorem dX13_mark_50 : decode cX13_mark 50 = .ok (.imul, 1) := by decide +kernel
theorem dX13_mark_51 : decode cX13_mark 51 = .ok (.iload_n 1, 1) := by decide +kernel
theorem dX13_mark_52 : decode cX13_mark 52 = .ok (.iadd, 1) := by decide +kernel
theorem dX13_mark_53 : decode cX13_mark 53 = .ok (.aload_n 0, 1) := by decide +kernel
theorem dX13_mark_54 : decode cX13_mark 54 = .ok (.getfield 17, 3) := by decide +kernel
theorem dX13_mark_57 : decode cX13_mark 57 = .ok (.iload_n 1, 1) := by decide +kernel
theorem dX13_mark_58 : decode cX13_mark 58 = .ok (.iaload, 1) := by decide +kernel
theorem dX13_mark_59 : decode cX13_mark 59 = .ok (.iastore, 1) := by decide +kernel
theorem dX13_mark_60 : decode cX13_mark 60 = .ok (.iinc 1 1, 3) := by decide +kernel
theorem dX13_mark_63 : decode cX13_mark 63 = .ok (.goto (-29), 3) := by decide +kernel
theorem dX13_mark_66 : decode cX13_mark 66 = .ok (.aload_n 0, 1) := by decide +kernel
theorem dX13_mark_67 : decode cX13_mark 67 = .ok (.dup, 1) := by decide +kernel
theorem dX13_mark_68 : decode cX13_mark 68 = .ok (.getfield 378, 3) := by decide +kernel
theorem dX13_mark_71 : decode cX13_mark 71 = .ok (.iconst 1, 1) := by decide +kernel
theorem dX13_mark_72 : decode cX13_mark 72 = .ok (.iadd, 1) := by decide +kernel
theorem dX13_mark_73 : decode cX13_mark 73 = .ok (.putfield 378, 3) := by decide +kernel
theorem dX13_mark_76 : decode cX13_mark 76 = .ok (.aload_n 0, 1) := by decide +kernel
theorem dX13_mark_77 : decode cX13_mark 77 = .ok (.aload_n 0, 1) := by decide +kernel
theorem dX13_mark_78 : decode cX13_mark 78 = .ok (.getfield 378, 3) := by decide +kernel
theorem dX13_mark_81 : decode cX13_mark 81 = .ok (.iconst 1, 1) := by decide +kernel
theorem dX13_mark_82 : decode cX13_mark 82 = .ok (.isub, 1) := by decide +kernel
theorem dX13_mark_83 : decode cX13_mark 83 = .ok (.invokevirtual 63, 3) := by decide +kernel
theorem dX13_mark_86 : decode cX13_mark 86 = .ok (.ireturn, 1) := by decide +kernel
section
variable {X : ab_X} {d : Nat} {σ : ab_S} {Q : Option ab_V → ab_S → Prop} {L st : List ab_V} {a b z v i j x1 x2 x3 x4 x5 x6 x7 x8 : Int} {l0 l1 l2 l3 l4 l5 l6 l7 l8 l9 l10 l11 l12 l13 l14 l15 l16 l17 l18 l19 l20 : ab_V}
theorem kc_X13_refusesTurns : ab_code 254 = cX13_refusesTurns := rfl
theorem ko_X13_refusesTurns : ab_ow 254 = 13 := rfl
theorem rX13_refusesTurns_0 : ab_Run X 254 0 (1, 0, 0) [ab_R z, l1] st σ Q ↔ z ≠ 0 ∧ ab_Run X 254 1 (1, 0, 0) [ab_R z, l1] (ab_R z :: st) σ Q := ab_r_aload_n rfl kc_X13_refusesTurns dX13_refusesTurns_0
theorem rX13_refusesTurns_1 : ab_Run X 254 1 (1, 0, 0) L (ab_R a :: st) σ Q ↔ (ab_sh σ a).1 = 14 ∧ ab_Run X 254 4 (1, 0, 0) L (ab_R (ab_rd σ a 3) :: st) σ Q := gF_13_373 ko_X13_refusesTurns kc_X13_refusesTurns dX13_refusesTurns_1
theorem rX13_refusesTurns_4 : ab_Run X 254 4 (1, 0, 0) L (ab_R a :: st) σ Q ↔ (¬ a = 0 → ab_Run X 254 11 (1, 0, 0) L st σ Q) ∧ (¬ (¬ a = 0) → ab_Run X 254 7 (1, 0, 0) L st σ Q) := ab_r_ifnonnull rfl kc_X13_refusesTurns dX13_refusesTurns_4
theorem rX13_refusesTurns_7 : ab_Run X 254 7 (1, 0, 0) L st σ Q ↔ ab_Run X 254 8 (1, 0, 0) L (ab_I 1 :: st) σ Q := ab_r_iconst (by decide) kc_X13_refusesTurns dX13_refusesTurns_7
theorem rX13_refusesTurns_8 : ab_Run X 254 8 (1, 0, 0) L st σ Q ↔ ab_Run X 254 26 (1, 0, 0) L st σ Q := ab_r_goto rfl kc_X13_refusesTurns dX13_refusesTurns_8
theorem rX13_refusesTurns_11 : ab_Run X 254 11 (1, 0, 0) [l0, ab_I z] st σ Q ↔ ab_Run X 254 12 (1, 0, 0) [l0, ab_I z] (ab_I z :: st) σ Q := ab_r_iload_n rfl kc_X13_refusesTurns dX13_refusesTurns_11
theorem rX13_refusesTurns_12 : ab_Run X 254 12 (1, 0, 0) L st σ Q ↔ ab_Run X 254 13 (1, 0, 0) L (ab_I 1 :: st) σ Q := ab_r_iconst (by decide) kc_X13_refusesTurns dX13_refusesTurns_12
theorem rX13_refusesTurns_13 : ab_Run X 254 13 (1, 0, 0) L st σ Q ↔ ab_Run X 254 15 (1, 0, 0) L (ab_I 9 :: st) σ Q := ab_r_bipush (by decide) kc_X13_refusesTurns dX13_refusesTurns_13
theorem rX13_refusesTurns_15 : ab_Run X 254 15 (1, 0, 0) L (ab_I x3 :: ab_I x2 :: ab_I x1 :: st) σ Q ↔ ab_cats st ≤ 8 ∧ ab_Do X 163 [ab_I x1, ab_I x2, ab_I x3] σ (fun r σ' => ab_Run X 254 18 (1, 0, 0) L (ab_psh r st) σ' Q) := ab_r_callS (w := [ab_I x3, ab_I x2, ab_I x1]) (as := [ab_I x1, ab_I x2, ab_I x3]) (b1 := (0, 0, 0)) (by decide) ko_X13_refusesTurns qM_13_138 (by decide) rfl rfl rfl rfl (by decide) (Nat.le_of_ble_eq_true rfl) kc_X13_refusesTurns dX13_refusesTurns_15
theorem rX13_refusesTurns_18 : ab_Run X 254 18 (1, 0, 0) L (ab_I a :: st) σ Q ↔ (a = 0 → ab_Run X 254 25 (1, 0, 0) L st σ Q) ∧ (¬ (a = 0) → ab_Run X 254 21 (1, 0, 0) L st σ Q) := ab_r_if_eq rfl kc_X13_refusesTurns dX13_refusesTurns_18
theorem rX13_refusesTurns_21 : ab_Run X 254 21 (1, 0, 0) L st σ Q ↔ ab_Run X 254 22 (1, 0, 0) L (ab_I 0 :: st) σ Q := ab_r_iconst (by decide) kc_X13_refusesTurns dX13_refusesTurns_21
theorem rX13_refusesTurns_22 : ab_Run X 254 22 (1, 0, 0) L st σ Q ↔ ab_Run X 254 26 (1, 0, 0) L st σ Q := ab_r_goto rfl kc_X13_refusesTurns dX13_refusesTurns_22
theorem rX13_refusesTurns_25 : ab_Run X 254 25 (1, 0, 0) L st σ Q ↔ ab_Run X 254 26 (1, 0, 0) L (ab_I 2 :: st) σ Q := ab_r_iconst (by decide) kc_X13_refusesTurns dX13_refusesTurns_25
theorem rX13_refusesTurns_26 : ab_Run X 254 26 (1, 0, 0) L [ab_I v] σ Q ↔ Q (some (ab_I v)) σ := ab_r_ireturnI rfl kc_X13_refusesTurns dX13_refusesTurns_26
theorem kc_X13_turnsOf : ab_code 255 = cX13_turnsOf := rfl
theorem ko_X13_turnsOf : ab_ow 255 = 13 := rfl
theorem rX13_turnsOf_0 : ab_Run X 255 0 (3, 0, 0) [ab_R z, l1, l2] st σ Q ↔ z ≠ 0 ∧ ab_Run X 255 1 (3, 0, 0) [ab_R z, l1, l2] (ab_R z :: st) σ Q := ab_r_aload_n rfl kc_X13_turnsOf dX13_turnsOf_0
theorem rX13_turnsOf_1 : ab_Run X 255 1 (3, 0, 0) L st σ Q ↔ ab_Run X 255 2 (3, 0, 0) L (ab_I 0 :: st) σ Q := ab_r_iconst (by decide) kc_X13_turnsOf dX13_turnsOf_1
theorem rX13_turnsOf_2 : ab_Run X 255 2 (3, 0, 0) L (ab_I z :: ab_R a :: st) σ Q ↔ (ab_sh σ a).1 = 14 ∧ ab_Run X 255 5 (3, 0, 0) L st (ab_wr σ a 0 z) Q := sF_13_53 ko_X13_turnsOf kc_X13_turnsOf dX13_turnsOf_2
theorem rX13_turnsOf_5 : ab_Run X 255 5 (3, 0, 0) [ab_R z, l1, l2] st σ Q ↔ z ≠ 0 ∧ ab_Run X 255 6 (3, 0, 0) [ab_R z, l1, l2] (ab_R z :: st) σ Q := ab_r_aload_n rfl kc_X13_turnsOf dX13_turnsOf_5
theorem rX13_turnsOf_6 : ab_Run X 255 6 (3, 0, 0) [l0, ab_I z, l2] st σ Q ↔ ab_Run X 255 7 (3, 0, 0) [l0, ab_I z, l2] (ab_I z :: st) σ Q := ab_r_iload_n rfl kc_X13_turnsOf dX13_turnsOf_6
theorem rX13_turnsOf_7 : ab_Run X 255 7 (3, 0, 0) L (ab_I x1 :: ab_R a :: st) σ Q ↔ ((ab_sh σ a).1 = 14 ∧ ab_cats st ≤ 8) ∧ ab_Do X 254 [ab_R a, ab_I x1] σ (fun r σ' => ab_Run X 255 10 (3, 0, 0) L (ab_psh r st) σ' Q) := ab_r_callV (w := [ab_I x1]) (as := [ab_I x1]) (b1 := (1, 0, 0)) 0 (Or.inl rfl) (by decide) ko_X13_turnsOf qM_13_532 (by decide) rfl rfl rfl rfl rfl (by decide) (Nat.le_of_ble_eq_true rfl) kc_X13_turnsOf dX13_turnsOf_7
theorem rX13_turnsOf_10 : ab_Run X 255 10 (3, 0, 0) [l0, l1, l2] (ab_I z :: st) σ Q ↔ (!ab_isJ l1) = true ∧ ab_Run X 255 11 (3, 0, 0) [l0, l1, ab_I z] st σ Q := ab_r_istore_n (Nat.le_of_ble_eq_true rfl) kc_X13_turnsOf dX13_turnsOf_10
theorem rX13_turnsOf_11 : ab_Run X 255 11 (3, 0, 0) [l0, l1, ab_I z] st σ Q ↔ ab_Run X 255 12 (3, 0, 0) [l0, l1, ab_I z] (ab_I z :: st) σ Q := ab_r_iload_n rfl kc_X13_turnsOf dX13_turnsOf_11
theorem rX13_turnsOf_12 : ab_Run X 255 12 (3, 0, 0) L (ab_I a :: st) σ Q ↔ (a ≤ 0 → ab_Run X 255 23 (3, 0, 0) L st σ Q) ∧ (¬ (a ≤ 0) → ab_Run X 255 15 (3, 0, 0) L st σ Q) := ab_r_if_le rfl kc_X13_turnsOf dX13_turnsOf_12
theorem rX13_turnsOf_15 : ab_Run X 255 15 (3, 0, 0) [ab_R z, l1, l2] st σ Q ↔ z ≠ 0 ∧ ab_Run X 255 16 (3, 0, 0) [ab_R z, l1, l2] (ab_R z :: st) σ Q := ab_r_aload_n rfl kc_X13_turnsOf dX13_turnsOf_15
theorem rX13_turnsOf_16 : ab_Run X 255 16 (3, 0, 0) [l0, l1, ab_I z] st σ Q ↔ ab_Run X 255 17 (3, 0, 0) [l0, l1, ab_I z] (ab_I z :: st) σ Q := ab_r_iload_n rfl kc_X13_turnsOf dX13_turnsOf_16
theorem rX13_turnsOf_17 : ab_Run X 255 17 (3, 0, 0) L (ab_I x1 :: ab_R a :: st) σ Q ↔ ((ab_sh σ a).1 = 14 ∧ ab_cats st ≤ 8) ∧ ab_Do X 159 [ab_R a, ab_I x1] σ (fun r σ' => ab_Run X 255 20 (3, 0, 0) L (ab_psh r st) σ' Q) := ab_r_callV (w := [ab_I x1]) (as := [ab_I x1]) (b1 := (0, 0, 0)) 0 (Or.inl rfl) (by decide) ko_X13_turnsOf qM_13_59 (by decide) rfl rfl rfl rfl rfl (by decide) (Nat.le_of_ble_eq_true rfl) kc_X13_turnsOf dX13_turnsOf_17
theorem rX13_turnsOf_20 : ab_Run X 255 20 (3, 0, 0) L st σ Q ↔ ab_Run X 255 40 (3, 0, 0) L st σ Q := ab_r_goto rfl kc_X13_turnsOf dX13_turnsOf_20
theorem rX13_turnsOf_23 : ab_Run X 255 23 (3, 0, 0) [ab_R z, l1, l2] st σ Q ↔ z ≠ 0 ∧ ab_Run X 255 24 (3, 0, 0) [ab_R z, l1, l2] (ab_R z :: st) σ Q := ab_r_aload_n rfl kc_X13_turnsOf dX13_turnsOf_23
theorem rX13_turnsOf_24 : ab_Run X 255 24 (3, 0, 0) [ab_R z, l1, l2] st σ Q ↔ z ≠ 0 ∧ ab_Run X 255 25 (3, 0, 0) [ab_R z, l1, l2] (ab_R z :: st) σ Q := ab_r_aload_n rfl kc_X13_turnsOf dX13_turnsOf_24
theorem rX13_turnsOf_25 : ab_Run X 255 25 (3, 0, 0) [l0, ab_I z, l2] st σ Q ↔ ab_Run X 255 26 (3, 0, 0) [l0, ab_I z, l2] (ab_I z :: st) σ Q := ab_r_iload_n rfl kc_X13_turnsOf dX13_turnsOf_25
theorem rX13_turnsOf_26 : ab_Run X 255 26 (3, 0, 0) L (ab_I x1 :: ab_R a :: st) σ Q ↔ ((ab_sh σ a).1 = 14 ∧ ab_cats st ≤ 8) ∧ ab_Do X 253 [ab_R a, ab_I x1] σ (fun r σ' => ab_Run X 255 29 (3, 0, 0) L (ab_psh r st) σ' Q) := ab_r_callV (w := [ab_I x1]) (as := [ab_I x1]) (b1 := (2, 0, 0)) 0 (Or.inl rfl) (by decide) ko_X13_turnsOf qM_13_535 (by decide) rfl rfl rfl rfl rfl (by decide) (Nat.le_of_ble_eq_true rfl) kc_X13_turnsOf dX13_turnsOf_26
theorem rX13_turnsOf_29 : ab_Run X 255 29 (3, 0, 0) L (ab_I a :: st) σ Q ↔ (a = 0 → ab_Run X 255 36 (3, 0, 0) L st σ Q) ∧ (¬ (a = 0) → ab_Run X 255 32 (3, 0, 0) L st σ Q) := ab_r_if_eq rfl kc_X13_turnsOf dX13_turnsOf_29
theorem rX13_turnsOf_32 : ab_Run X 255 32 (3, 0, 0) L st σ Q ↔ ab_Run X 255 33 (3, 0, 0) L (ab_I 1 :: st) σ Q := ab_r_iconst (by decide) kc_X13_turnsOf dX13_turnsOf_32
theorem rX13_turnsOf_33 : ab_Run X 255 33 (3, 0, 0) L st σ Q ↔ ab_Run X 255 37 (3, 0, 0) L st σ Q := ab_r_goto rfl kc_X13_turnsOf dX13_turnsOf_33
theorem rX13_turnsOf_36 : ab_Run X 255 36 (3, 0, 0) L st σ Q ↔ ab_Run X 255 37 (3, 0, 0) L (ab_I 0 :: st) σ Q := ab_r_iconst (by decide) kc_X13_turnsOf dX13_turnsOf_36
theorem rX13_turnsOf_37 : ab_Run X 255 37 (3, 0, 0) L (ab_I x1 :: ab_R a :: st) σ Q ↔ ((ab_sh σ a).1 = 14 ∧ ab_cats st ≤ 8) ∧ ab_Do X 161 [ab_R a, ab_I x1] σ (fun r σ' => ab_Run X 255 40 (3, 0, 0) L (ab_psh r st) σ' Q) := ab_r_callV (w := [ab_I x1]) (as := [ab_I x1]) (b1 := (0, 0, 0)) 0 (Or.inl rfl) (by decide) ko_X13_turnsOf qM_13_63 (by decide) rfl rfl rfl rfl rfl (by decide) (Nat.le_of_ble_eq_true rfl) kc_X13_turnsOf dX13_turnsOf_37
theorem rX13_turnsOf_40 : ab_Run X 255 40 (3, 0, 0) L [ab_I v] σ Q ↔ Q (some (ab_I v)) σ := ab_r_ireturnI rfl kc_X13_turnsOf dX13_turnsOf_40
theorem kc_X13_turnAt : ab_code 256 = cX13_turnAt := rfl
theorem ko_X13_turnAt : ab_ow 256 = 13 := rfl
theorem rX13_turnAt_0 : ab_Run X 256 0 (3, 0, 0) [ab_R z, l1, l2, l3] st σ Q ↔ z ≠ 0 ∧ ab_Run X 256 1 (3, 0, 0) [ab_R z, l1, l2, l3] (ab_R z :: st) σ Q := ab_r_aload_n rfl kc_X13_turnAt dX13_turnAt_0
theorem rX13_turnAt_1 : ab_Run X 256 1 (3, 0, 0) L st σ Q ↔ ab_Run X 256 2 (3, 0, 0) L (ab_I 0 :: st) σ Q := ab_r_iconst (by decide) kc_X13_turnAt dX13_turnAt_1
theorem rX13_turnAt_2 : ab_Run X 256 2 (3, 0, 0) L (ab_I z :: ab_R a :: st) σ Q ↔ (ab_sh σ a).1 = 14 ∧ ab_Run X 256 5 (3, 0, 0) L st (ab_wr σ a 0 z) Q := sF_13_53 ko_X13_turnAt kc_X13_turnAt dX13_turnAt_2
theorem rX13_turnAt_5 : ab_Run X 256 5 (3, 0, 0) [ab_R z, l1, l2, l3] st σ Q ↔ z ≠ 0 ∧ ab_Run X 256 6 (3, 0, 0) [ab_R z, l1, l2, l3] (ab_R z :: st) σ Q := ab_r_aload_n rfl kc_X13_turnAt dX13_turnAt_5
theorem rX13_turnAt_6 : ab_Run X 256 6 (3, 0, 0) [l0, ab_I z, l2, l3] st σ Q ↔ ab_Run X 256 7 (3, 0, 0) [l0, ab_I z, l2, l3] (ab_I z :: st) σ Q := ab_r_iload_n rfl kc_X13_turnAt dX13_turnAt_6
theorem rX13_turnAt_7 : ab_Run X 256 7 (3, 0, 0) L (ab_I x1 :: ab_R a :: st) σ Q ↔ ((ab_sh σ a).1 = 14 ∧ ab_cats st ≤ 8) ∧ ab_Do X 254 [ab_R a, ab_I x1] σ (fun r σ' => ab_Run X 256 10 (3, 0, 0) L (ab_psh r st) σ' Q) := ab_r_callV (w := [ab_I x1]) (as := [ab_I x1]) (b1 := (1, 0, 0)) 0 (Or.inl rfl) (by decide) ko_X13_turnAt qM_13_532 (by decide) rfl rfl rfl rfl rfl (by decide) (Nat.le_of_ble_eq_true rfl) kc_X13_turnAt dX13_turnAt_7
theorem rX13_turnAt_10 : ab_Run X 256 10 (3, 0, 0) [l0, l1, l2, l3] (ab_I z :: st) σ Q ↔ (!ab_isJ l2) = true ∧ ab_Run X 256 11 (3, 0, 0) [l0, l1, l2, ab_I z] st σ Q := ab_r_istore_n (Nat.le_of_ble_eq_true rfl) kc_X13_turnAt dX13_turnAt_10
theorem rX13_turnAt_11 : ab_Run X 256 11 (3, 0, 0) [l0, l1, l2, ab_I z] st σ Q ↔ ab_Run X 256 12 (3, 0, 0) [l0, l1, l2, ab_I z] (ab_I z :: st) σ Q := ab_r_iload_n rfl kc_X13_turnAt dX13_turnAt_11
theorem rX13_turnAt_12 : ab_Run X 256 12 (3, 0, 0) L (ab_I a :: st) σ Q ↔ (a ≤ 0 → ab_Run X 256 21 (3, 0, 0) L st σ Q) ∧ (¬ (a ≤ 0) → ab_Run X 256 15 (3, 0, 0) L st σ Q) := ab_r_if_le rfl kc_X13_turnAt dX13_turnAt_12
theorem rX13_turnAt_15 : ab_Run X 256 15 (3, 0, 0) [ab_R z, l1, l2, l3] st σ Q ↔ z ≠ 0 ∧ ab_Run X 256 16 (3, 0, 0) [ab_R z, l1, l2, l3] (ab_R z :: st) σ Q := ab_r_aload_n rfl kc_X13_turnAt dX13_turnAt_15
theorem rX13_turnAt_16 : ab_Run X 256 16 (3, 0, 0) [l0, l1, l2, ab_I z] st σ Q ↔ ab_Run X 256 17 (3, 0, 0) [l0, l1, l2, ab_I z] (ab_I z :: st) σ Q := ab_r_iload_n rfl kc_X13_turnAt dX13_turnAt_16
theorem rX13_turnAt_17 : ab_Run X 256 17 (3, 0, 0) L (ab_I x1 :: ab_R a :: st) σ Q ↔ ((ab_sh σ a).1 = 14 ∧ ab_cats st ≤ 8) ∧ ab_Do X 159 [ab_R a, ab_I x1] σ (fun r σ' => ab_Run X 256 20 (3, 0, 0) L (ab_psh r st) σ' Q) := ab_r_callV (w := [ab_I x1]) (as := [ab_I x1]) (b1 := (0, 0, 0)) 0 (Or.inl rfl) (by decide) ko_X13_turnAt qM_13_59 (by decide) rfl rfl rfl rfl rfl (by decide) (Nat.le_of_ble_eq_true rfl) kc_X13_turnAt dX13_turnAt_17
theorem rX13_turnAt_20 : ab_Run X 256 20 (3, 0, 0) L [ab_I v] σ Q ↔ Q (some (ab_I v)) σ := ab_r_ireturnI rfl kc_X13_turnAt dX13_turnAt_20
theorem rX13_turnAt_21 : ab_Run X 256 21 (3, 0, 0) [l0, l1, ab_I z, l3] st σ Q ↔ ab_Run X 256 22 (3, 0, 0) [l0, l1, ab_I z, l3] (ab_I z :: st) σ Q := ab_r_iload_n rfl kc_X13_turnAt dX13_turnAt_21
theorem rX13_turnAt_22 : ab_Run X 256 22 (3, 0, 0) L (ab_I a :: st) σ Q ↔ (a < 0 → ab_Run X 256 30 (3, 0, 0) L st σ Q) ∧ (¬ (a < 0) → ab_Run X 256 25 (3, 0, 0) L st σ Q) := ab_r_if_lt rfl kc_X13_turnAt dX13_turnAt_22
theorem rX13_turnAt_25 : ab_Run X 256 25 (3, 0, 0) [l0, l1, ab_I z, l3] st σ Q ↔ ab_Run X 256 26 (3, 0, 0) [l0, l1, ab_I z, l3] (ab_I z :: st) σ Q := ab_r_iload_n rfl kc_X13_turnAt dX13_turnAt_25
theorem rX13_turnAt_26 : ab_Run X 256 26 (3, 0, 0) [l0, ab_I z, l2, l3] st σ Q ↔ ab_Run X 256 27 (3, 0, 0) [l0, ab_I z, l2, l3] (ab_I z :: st) σ Q := ab_r_iload_n rfl kc_X13_turnAt dX13_turnAt_26
theorem rX13_turnAt_27 : ab_Run X 256 27 (3, 0, 0) L (ab_I b :: ab_I a :: st) σ Q ↔ (a < b → ab_Run X 256 36 (3, 0, 0) L st σ Q) ∧ (¬ (a < b) → ab_Run X 256 30 (3, 0, 0) L st σ Q) := ab_r_icmp_lt rfl kc_X13_turnAt dX13_turnAt_27
theorem rX13_turnAt_30 : ab_Run X 256 30 (3, 0, 0) [ab_R z, l1, l2, l3] st σ Q ↔ z ≠ 0 ∧ ab_Run X 256 31 (3, 0, 0) [ab_R z, l1, l2, l3] (ab_R z :: st) σ Q := ab_r_aload_n rfl kc_X13_turnAt dX13_turnAt_30
theorem rX13_turnAt_31 : ab_Run X 256 31 (3, 0, 0) L st σ Q ↔ ab_Run X 256 32 (3, 0, 0) L (ab_I 1 :: st) σ Q := ab_r_iconst (by decide) kc_X13_turnAt dX13_turnAt_31
theorem rX13_turnAt_32 : ab_Run X 256 32 (3, 0, 0) L (ab_I x1 :: ab_R a :: st) σ Q ↔ ((ab_sh σ a).1 = 14 ∧ ab_cats st ≤ 8) ∧ ab_Do X 159 [ab_R a, ab_I x1] σ (fun r σ' => ab_Run X 256 35 (3, 0, 0) L (ab_psh r st) σ' Q) := ab_r_callV (w := [ab_I x1]) (as := [ab_I x1]) (b1 := (0, 0, 0)) 0 (Or.inl rfl) (by decide) ko_X13_turnAt qM_13_59 (by decide) rfl rfl rfl rfl rfl (by decide) (Nat.le_of_ble_eq_true rfl) kc_X13_turnAt dX13_turnAt_32
theorem rX13_turnAt_35 : ab_Run X 256 35 (3, 0, 0) L [ab_I v] σ Q ↔ Q (some (ab_I v)) σ := ab_r_ireturnI rfl kc_X13_turnAt dX13_turnAt_35
theorem rX13_turnAt_36 : ab_Run X 256 36 (3, 0, 0) [ab_R z, l1, l2, l3] st σ Q ↔ z ≠ 0 ∧ ab_Run X 256 37 (3, 0, 0) [ab_R z, l1, l2, l3] (ab_R z :: st) σ Q := ab_r_aload_n rfl kc_X13_turnAt dX13_turnAt_36
theorem rX13_turnAt_37 : ab_Run X 256 37 (3, 0, 0) [l0, ab_I z, l2, l3] st σ Q ↔ ab_Run X 256 38 (3, 0, 0) [l0, ab_I z, l2, l3] (ab_I z :: st) σ Q := ab_r_iload_n rfl kc_X13_turnAt dX13_turnAt_37
theorem rX13_turnAt_38 : ab_Run X 256 38 (3, 0, 0) L (ab_I x1 :: ab_R a :: st) σ Q ↔ ((ab_sh σ a).1 = 14 ∧ ab_cats st ≤ 8) ∧ ab_Do X 253 [ab_R a, ab_I x1] σ (fun r σ' => ab_Run X 256 41 (3, 0, 0) L (ab_psh r st) σ' Q) := ab_r_callV (w := [ab_I x1]) (as := [ab_I x1]) (b1 := (2, 0, 0)) 0 (Or.inl rfl) (by decide) ko_X13_turnAt qM_13_535 (by decide) rfl rfl rfl rfl rfl (by decide) (Nat.le_of_ble_eq_true rfl) kc_X13_turnAt dX13_turnAt_38
theorem rX13_turnAt_41 : ab_Run X 256 41 (3, 0, 0) L (ab_I a :: st) σ Q ↔ (a = 0 → ab_Run X 256 75 (3, 0, 0) L st σ Q) ∧ (¬ (a = 0) → ab_Run X 256 44 (3, 0, 0) L st σ Q) := ab_r_if_eq rfl kc_X13_turnAt dX13_turnAt_41
theorem rX13_turnAt_44 : ab_Run X 256 44 (3, 0, 0) [ab_R z, l1, l2, l3] st σ Q ↔ z ≠ 0 ∧ ab_Run X 256 45 (3, 0, 0) [ab_R z, l1, l2, l3] (ab_R z :: st) σ Q := ab_r_aload_n rfl kc_X13_turnAt dX13_turnAt_44
theorem rX13_turnAt_45 : ab_Run X 256 45 (3, 0, 0) L st σ Q ↔ ab_Run X 256 47 (3, 0, 0) L (ab_I 10 :: st) σ Q := ab_r_bipush (by decide) kc_X13_turnAt dX13_turnAt_45
theorem rX13_turnAt_47 : ab_Run X 256 47 (3, 0, 0) [ab_R z, l1, l2, l3] st σ Q ↔ z ≠ 0 ∧ ab_Run X 256 48 (3, 0, 0) [ab_R z, l1, l2, l3] (ab_R z :: st) σ Q := ab_r_aload_n rfl kc_X13_turnAt dX13_turnAt_47
theorem rX13_turnAt_48 : ab_Run X 256 48 (3, 0, 0) [ab_R z, l1, l2, l3] st σ Q ↔ z ≠ 0 ∧ ab_Run X 256 49 (3, 0, 0) [ab_R z, l1, l2, l3] (ab_R z :: st) σ Q := ab_r_aload_n rfl kc_X13_turnAt dX13_turnAt_48
theorem rX13_turnAt_49 : ab_Run X 256 49 (3, 0, 0) L (ab_R a :: st) σ Q ↔ (ab_sh σ a).1 = 14 ∧ ab_Run X 256 52 (3, 0, 0) L (ab_R (ab_rd σ a 32) :: st) σ Q := gF_13_44 ko_X13_turnAt kc_X13_turnAt dX13_turnAt_49
theorem rX13_turnAt_52 : ab_Run X 256 52 (3, 0, 0) [l0, l1, ab_I z, l3] st σ Q ↔ ab_Run X 256 53 (3, 0, 0) [l0, l1, ab_I z, l3] (ab_I z :: st) σ Q := ab_r_iload_n rfl kc_X13_turnAt dX13_turnAt_52
theorem rX13_turnAt_53 : ab_Run X 256 53 (3, 0, 0) L (ab_I i :: ab_R a :: st) σ Q ↔ ((ab_sh σ a).1 = 21 ∧ 0 ≤ i ∧ i < (ab_sh σ a).2) ∧ ab_Run X 256 54 (3, 0, 0) L (ab_I (ab_rd σ a i) :: st) σ Q := ab_r_iaload (by decide) kc_X13_turnAt dX13_turnAt_53
theorem rX13_turnAt_54 : ab_Run X 256 54 (3, 0, 0) L (ab_I x1 :: ab_R a :: st) σ Q ↔ ((ab_sh σ a).1 = 14 ∧ ab_cats st ≤ 8) ∧ ab_Do X 247 [ab_R a, ab_I x1] σ (fun r σ' => ab_Run X 256 57 (3, 0, 0) L (ab_psh r st) σ' Q) := ab_r_callV (w := [ab_I x1]) (as := [ab_I x1]) (b1 := (0, 0, 0)) 0 (Or.inl rfl) (by decide) ko_X13_turnAt qM_13_514 (by decide) rfl rfl rfl rfl rfl (by decide) (Nat.le_of_ble_eq_true rfl) kc_X13_turnAt dX13_turnAt_54
theorem rX13_turnAt_57 : ab_Run X 256 57 (3, 0, 0) L (ab_I b :: ab_I a :: st) σ Q ↔ ab_Run X 256 58 (3, 0, 0) L (ab_I (ab_w32 (a * b)) :: st) σ Q := ab_r_imul kc_X13_turnAt dX13_turnAt_57
theorem rX13_turnAt_58 : ab_Run X 256 58 (3, 0, 0) [ab_R z, l1, l2, l3] st σ Q ↔ z ≠ 0 ∧ ab_Run X 256 59 (3, 0, 0) [ab_R z, l1, l2, l3] (ab_R z :: st) σ Q := ab_r_aload_n rfl kc_X13_turnAt dX13_turnAt_58
theorem rX13_turnAt_59 : ab_Run X 256 59 (3, 0, 0) [ab_R z, l1, l2, l3] st σ Q ↔ z ≠ 0 ∧ ab_Run X 256 60 (3, 0, 0) [ab_R z, l1, l2, l3] (ab_R z :: st) σ Q := ab_r_aload_n rfl kc_X13_turnAt dX13_turnAt_59
theorem rX13_turnAt_60 : ab_Run X 256 60 (3, 0, 0) L (ab_R a :: st) σ Q ↔ (ab_sh σ a).1 = 14 ∧ ab_Run X 256 63 (3, 0, 0) L (ab_R (ab_rd σ a 32) :: st) σ Q := gF_13_44 ko_X13_turnAt kc_X13_turnAt dX13_turnAt_60
theorem rX13_turnAt_63 : ab_Run X 256 63 (3, 0, 0) [l0, l1, ab_I z, l3] st σ Q ↔ ab_Run X 256 64 (3, 0, 0) [l0, l1, ab_I z, l3] (ab_I z :: st) σ Q := ab_r_iload_n rfl kc_X13_turnAt dX13_turnAt_63
theorem rX13_turnAt_64 : ab_Run X 256 64 (3, 0, 0) L (ab_I i :: ab_R a :: st) σ Q ↔ ((ab_sh σ a).1 = 21 ∧ 0 ≤ i ∧ i < (ab_sh σ a).2) ∧ ab_Run X 256 65 (3, 0, 0) L (ab_I (ab_rd σ a i) :: st) σ Q := ab_r_iaload (by decide) kc_X13_turnAt dX13_turnAt_64
theorem rX13_turnAt_65 : ab_Run X 256 65 (3, 0, 0) L (ab_I x1 :: ab_R a :: st) σ Q ↔ ((ab_sh σ a).1 = 14 ∧ ab_cats st ≤ 8) ∧ ab_Do X 248 [ab_R a, ab_I x1] σ (fun r σ' => ab_Run X 256 68 (3, 0, 0) L (ab_psh r st) σ' Q) := ab_r_callV (w := [ab_I x1]) (as := [ab_I x1]) (b1 := (0, 0, 0)) 0 (Or.inl rfl) (by decide) ko_X13_turnAt qM_13_517 (by decide) rfl rfl rfl rfl rfl (by decide) (Nat.le_of_ble_eq_true rfl) kc_X13_turnAt dX13_turnAt_65
theorem rX13_turnAt_68 : ab_Run X 256 68 (3, 0, 0) L (ab_I b :: ab_I a :: st) σ Q ↔ ab_Run X 256 69 (3, 0, 0) L (ab_I (ab_w32 (a + b)) :: st) σ Q := ab_r_iadd kc_X13_turnAt dX13_turnAt_68
theorem rX13_turnAt_69 : ab_Run X 256 69 (3, 0, 0) L (ab_I x1 :: ab_R a :: st) σ Q ↔ ((ab_sh σ a).1 = 14 ∧ ab_cats st ≤ 8) ∧ ab_Do X 161 [ab_R a, ab_I x1] σ (fun r σ' => ab_Run X 256 72 (3, 0, 0) L (ab_psh r st) σ' Q) := ab_r_callV (w := [ab_I x1]) (as := [ab_I x1]) (b1 := (0, 0, 0)) 0 (Or.inl rfl) (by decide) ko_X13_turnAt qM_13_63 (by decide) rfl rfl rfl rfl rfl (by decide) (Nat.le_of_ble_eq_true rfl) kc_X13_turnAt dX13_turnAt_69
theorem rX13_turnAt_72 : ab_Run X 256 72 (3, 0, 0) L st σ Q ↔ ab_Run X 256 81 (3, 0, 0) L st σ Q := ab_r_goto rfl kc_X13_turnAt dX13_turnAt_72
theorem rX13_turnAt_75 : ab_Run X 256 75 (3, 0, 0) [ab_R z, l1, l2, l3] st σ Q ↔ z ≠ 0 ∧ ab_Run X 256 76 (3, 0, 0) [ab_R z, l1, l2, l3] (ab_R z :: st) σ Q := ab_r_aload_n rfl kc_X13_turnAt dX13_turnAt_75
theorem rX13_turnAt_76 : ab_Run X 256 76 (3, 0, 0) L st σ Q ↔ ab_Run X 256 78 (3, 0, 0) L (ab_I 6 :: st) σ Q := ab_r_bipush (by decide) kc_X13_turnAt dX13_turnAt_76
theorem rX13_turnAt_78 : ab_Run X 256 78 (3, 0, 0) L (ab_I x1 :: ab_R a :: st) σ Q ↔ ((ab_sh σ a).1 = 14 ∧ ab_cats st ≤ 8) ∧ ab_Do X 159 [ab_R a, ab_I x1] σ (fun r σ' => ab_Run X 256 81 (3, 0, 0) L (ab_psh r st) σ' Q) := ab_r_callV (w := [ab_I x1]) (as := [ab_I x1]) (b1 := (0, 0, 0)) 0 (Or.inl rfl) (by decide) ko_X13_turnAt qM_13_59 (by decide) rfl rfl rfl rfl rfl (by decide) (Nat.le_of_ble_eq_true rfl) kc_X13_turnAt dX13_turnAt_78
theorem rX13_turnAt_81 : ab_Run X 256 81 (3, 0, 0) L [ab_I v] σ Q ↔ Q (some (ab_I v)) σ := ab_r_ireturnI rfl kc_X13_turnAt dX13_turnAt_81
theorem kc_X13_rowsOf : ab_code 257 = cX13_rowsOf := rfl
theorem ko_X13_rowsOf : ab_ow 257 = 13 := rfl
theorem rX13_rowsOf_0 : ab_Run X 257 0 (0, 0, 0) L st σ Q ↔ ab_Run X 257 1 (0, 0, 0) L (ab_J 0 :: st) σ Q := ab_r_lconst kc_X13_rowsOf dX13_rowsOf_0
theorem rX13_rowsOf_1 : ab_Run X 257 1 (0, 0, 0) [l0, l1, l2, l3, l4, l5, l6] (ab_J z :: st) σ Q ↔ (!ab_isJ l1) = true ∧ ab_Run X 257 2 (0, 0, 0) [l0, l1, ab_J z, ab_R 0, l4, l5, l6] st σ Q := ab_r_lstore_n (Nat.le_of_ble_eq_true rfl) kc_X13_rowsOf dX13_rowsOf_1
theorem rX13_rowsOf_2 : ab_Run X 257 2 (0, 0, 0) L st σ Q ↔ ab_Run X 257 3 (0, 0, 0) L (ab_J 1 :: st) σ Q := ab_r_lconst kc_X13_rowsOf dX13_rowsOf_2
theorem rX13_rowsOf_3 : ab_Run X 257 3 (0, 0, 0) [l0, l1, l2, l3, l4, l5, l6] (ab_J z :: st) σ Q ↔ (!ab_isJ l3) = true ∧ ab_Run X 257 5 (0, 0, 0) [l0, l1, l2, l3, ab_J z, ab_R 0, l6] st σ Q := ab_r_lstore (Nat.le_of_ble_eq_true rfl) kc_X13_rowsOf dX13_rowsOf_3
theorem rX13_rowsOf_5 : ab_Run X 257 5 (0, 0, 0) L st σ Q ↔ ab_Run X 257 6 (0, 0, 0) L (ab_I 0 :: st) σ Q := ab_r_iconst (by decide) kc_X13_rowsOf dX13_rowsOf_5
theorem rX13_rowsOf_6 : ab_Run X 257 6 (0, 0, 0) [l0, l1, l2, l3, l4, l5, l6] (ab_I z :: st) σ Q ↔ (!ab_isJ l5) = true ∧ ab_Run X 257 8 (0, 0, 0) [l0, l1, l2, l3, l4, l5, ab_I z] st σ Q := ab_r_istore (Nat.le_of_ble_eq_true rfl) kc_X13_rowsOf dX13_rowsOf_6
theorem rX13_rowsOf_8 : ab_Run X 257 8 (0, 0, 0) [l0, l1, l2, l3, l4, l5, ab_I z] st σ Q ↔ ab_Run X 257 10 (0, 0, 0) [l0, l1, l2, l3, l4, l5, ab_I z] (ab_I z :: st) σ Q := ab_r_iload rfl kc_X13_rowsOf dX13_rowsOf_8
theorem rX13_rowsOf_10 : ab_Run X 257 10 (0, 0, 0) [ab_I z, l1, l2, l3, l4, l5, l6] st σ Q ↔ ab_Run X 257 11 (0, 0, 0) [ab_I z, l1, l2, l3, l4, l5, l6] (ab_I z :: st) σ Q := ab_r_iload_n rfl kc_X13_rowsOf dX13_rowsOf_10
theorem rX13_rowsOf_11 : ab_Run X 257 11 (0, 0, 0) L (ab_I b :: ab_I a :: st) σ Q ↔ (b < a → ab_Run X 257 47 (0, 0, 0) L st σ Q) ∧ (¬ (b < a) → ab_Run X 257 14 (0, 0, 0) L st σ Q) := ab_r_icmp_gt rfl kc_X13_rowsOf dX13_rowsOf_11
theorem rX13_rowsOf_14 : ab_Run X 257 14 (0, 0, 0) [l0, l1, l2, l3, l4, l5, ab_I z] st σ Q ↔ ab_Run X 257 16 (0, 0, 0) [l0, l1, l2, l3, l4, l5, ab_I z] (ab_I z :: st) σ Q := ab_r_iload rfl kc_X13_rowsOf dX13_rowsOf_14
theorem rX13_rowsOf_16 : ab_Run X 257 16 (0, 0, 0) [l0, ab_I z, l2, l3, l4, l5, l6] st σ Q ↔ ab_Run X 257 17 (0, 0, 0) [l0, ab_I z, l2, l3, l4, l5, l6] (ab_I z :: st) σ Q := ab_r_iload_n rfl kc_X13_rowsOf dX13_rowsOf_16
theorem rX13_rowsOf_17 : ab_Run X 257 17 (0, 0, 0) L (ab_I b :: ab_I a :: st) σ Q ↔ (a < b → ab_Run X 257 25 (0, 0, 0) L st σ Q) ∧ (¬ (a < b) → ab_Run X 257 20 (0, 0, 0) L st σ Q) := ab_r_icmp_lt rfl kc_X13_rowsOf dX13_rowsOf_17
theorem rX13_rowsOf_20 : ab_Run X 257 20 (0, 0, 0) [l0, l1, ab_J z, l3, l4, l5, l6] st σ Q ↔ ab_Run X 257 21 (0, 0, 0) [l0, l1, ab_J z, l3, l4, l5, l6] (ab_J z :: st) σ Q := ab_r_lload_n rfl kc_X13_rowsOf dX13_rowsOf_20
theorem rX13_rowsOf_21 : ab_Run X 257 21 (0, 0, 0) [l0, l1, l2, l3, ab_J z, l5, l6] st σ Q ↔ ab_Run X 257 23 (0, 0, 0) [l0, l1, l2, l3, ab_J z, l5, l6] (ab_J z :: st) σ Q := ab_r_lload rfl kc_X13_rowsOf dX13_rowsOf_21
theorem rX13_rowsOf_23 : ab_Run X 257 23 (0, 0, 0) L (ab_J b :: ab_J a :: st) σ Q ↔ ab_Run X 257 24 (0, 0, 0) L (ab_J (ab_w64 (a + b)) :: st) σ Q := ab_r_ladd kc_X13_rowsOf dX13_rowsOf_23
theorem rX13_rowsOf_24 : ab_Run X 257 24 (0, 0, 0) [l0, l1, l2, l3, l4, l5, l6] (ab_J z :: st) σ Q ↔ (!ab_isJ l1) = true ∧ ab_Run X 257 25 (0, 0, 0) [l0, l1, ab_J z, ab_R 0, l4, l5, l6] st σ Q := ab_r_lstore_n (Nat.le_of_ble_eq_true rfl) kc_X13_rowsOf dX13_rowsOf_24
theorem rX13_rowsOf_25 : ab_Run X 257 25 (0, 0, 0) [l0, l1, l2, l3, ab_J z, l5, l6] st σ Q ↔ ab_Run X 257 27 (0, 0, 0) [l0, l1, l2, l3, ab_J z, l5, l6] (ab_J z :: st) σ Q := ab_r_lload rfl kc_X13_rowsOf dX13_rowsOf_25
theorem rX13_rowsOf_27 : ab_Run X 257 27 (0, 0, 0) [ab_I z, l1, l2, l3, l4, l5, l6] st σ Q ↔ ab_Run X 257 28 (0, 0, 0) [ab_I z, l1, l2, l3, l4, l5, l6] (ab_I z :: st) σ Q := ab_r_iload_n rfl kc_X13_rowsOf dX13_rowsOf_27
theorem rX13_rowsOf_28 : ab_Run X 257 28 (0, 0, 0) [l0, l1, l2, l3, l4, l5, ab_I z] st σ Q ↔ ab_Run X 257 30 (0, 0, 0) [l0, l1, l2, l3, l4, l5, ab_I z] (ab_I z :: st) σ Q := ab_r_iload rfl kc_X13_rowsOf dX13_rowsOf_28
theorem rX13_rowsOf_30 : ab_Run X 257 30 (0, 0, 0) L (ab_I b :: ab_I a :: st) σ Q ↔ ab_Run X 257 31 (0, 0, 0) L (ab_I (ab_w32 (a - b)) :: st) σ Q := ab_r_isub kc_X13_rowsOf dX13_rowsOf_30
theorem rX13_rowsOf_31 : ab_Run X 257 31 (0, 0, 0) L (ab_I a :: st) σ Q ↔ ab_Run X 257 32 (0, 0, 0) L (ab_J a :: st) σ Q := ab_r_i2l kc_X13_rowsOf dX13_rowsOf_31
theorem rX13_rowsOf_32 : ab_Run X 257 32 (0, 0, 0) L (ab_J b :: ab_J a :: st) σ Q ↔ ab_Run X 257 33 (0, 0, 0) L (ab_J (ab_w64 (a * b)) :: st) σ Q := ab_r_lmul kc_X13_rowsOf dX13_rowsOf_32
theorem rX13_rowsOf_33 : ab_Run X 257 33 (0, 0, 0) [l0, l1, l2, l3, l4, l5, ab_I z] st σ Q ↔ ab_Run X 257 35 (0, 0, 0) [l0, l1, l2, l3, l4, l5, ab_I z] (ab_I z :: st) σ Q := ab_r_iload rfl kc_X13_rowsOf dX13_rowsOf_33
theorem rX13_rowsOf_35 : ab_Run X 257 35 (0, 0, 0) L st σ Q ↔ ab_Run X 257 36 (0, 0, 0) L (ab_I 1 :: st) σ Q := ab_r_iconst (by decide) kc_X13_rowsOf dX13_rowsOf_35
theorem rX13_rowsOf_36 : ab_Run X 257 36 (0, 0, 0) L (ab_I b :: ab_I a :: st) σ Q ↔ ab_Run X 257 37 (0, 0, 0) L (ab_I (ab_w32 (a + b)) :: st) σ Q := ab_r_iadd kc_X13_rowsOf dX13_rowsOf_36
theorem rX13_rowsOf_37 : ab_Run X 257 37 (0, 0, 0) L (ab_I a :: st) σ Q ↔ ab_Run X 257 38 (0, 0, 0) L (ab_J a :: st) σ Q := ab_r_i2l kc_X13_rowsOf dX13_rowsOf_37
theorem rX13_rowsOf_38 : ab_Run X 257 38 (0, 0, 0) L (ab_J b :: ab_J a :: st) σ Q ↔ b ≠ 0 ∧ ab_Run X 257 39 (0, 0, 0) L (ab_J (ab_w64 (a.tdiv b)) :: st) σ Q := ab_r_ldiv kc_X13_rowsOf dX13_rowsOf_38
theorem rX13_rowsOf_39 : ab_Run X 257 39 (0, 0, 0) [l0, l1, l2, l3, l4, l5, l6] (ab_J z :: st) σ Q ↔ (!ab_isJ l3) = true ∧ ab_Run X 257 41 (0, 0, 0) [l0, l1, l2, l3, ab_J z, ab_R 0, l6] st σ Q := ab_r_lstore (Nat.le_of_ble_eq_true rfl) kc_X13_rowsOf dX13_rowsOf_39
theorem rX13_rowsOf_41 : ab_Run X 257 41 (0, 0, 0) [l0, l1, l2, l3, l4, l5, ab_I z] st σ Q ↔ (!ab_isJ l5) = true ∧ ab_Run X 257 44 (0, 0, 0) [l0, l1, l2, l3, l4, l5, ab_I (ab_w32 (z + 1))] st σ Q := ab_r_iinc rfl (by decide) kc_X13_rowsOf dX13_rowsOf_41
theorem rX13_rowsOf_44 : ab_Run X 257 44 (0, 0, 0) L st σ Q ↔ ab_Run X 257 8 (0, 0, 0) L st σ Q := ab_r_goto rfl kc_X13_rowsOf dX13_rowsOf_44
theorem rX13_rowsOf_47 : ab_Run X 257 47 (0, 0, 0) [l0, l1, ab_J z, l3, l4, l5, l6] st σ Q ↔ ab_Run X 257 48 (0, 0, 0) [l0, l1, ab_J z, l3, l4, l5, l6] (ab_J z :: st) σ Q := ab_r_lload_n rfl kc_X13_rowsOf dX13_rowsOf_47
theorem rX13_rowsOf_48 : ab_Run X 257 48 (0, 0, 0) L [ab_J v] σ Q ↔ Q (some (ab_J v)) σ := ab_r_lreturn rfl kc_X13_rowsOf dX13_rowsOf_48
theorem kc_X13_hand : ab_code 258 = cX13_hand := rfl
theorem ko_X13_hand : ab_ow 258 = 13 := rfl
theorem rX13_hand_0 : ab_Run X 258 0 (2, 0, 0) [ab_R z, l1, l2] st σ Q ↔ z ≠ 0 ∧ ab_Run X 258 1 (2, 0, 0) [ab_R z, l1, l2] (ab_R z :: st) σ Q := ab_r_aload_n rfl kc_X13_hand dX13_hand_0
theorem rX13_hand_1 : ab_Run X 258 1 (2, 0, 0) L st σ Q ↔ ab_Run X 258 2 (2, 0, 0) L (ab_I 0 :: st) σ Q := ab_r_iconst (by decide) kc_X13_hand dX13_hand_1
theorem rX13_hand_2 : ab_Run X 258 2 (2, 0, 0) L (ab_I z :: ab_R a :: st) σ Q ↔ (ab_sh σ a).1 = 14 ∧ ab_Run X 258 5 (2, 0, 0) L st (ab_wr σ a 0 z) Q := sF_13_53 ko_X13_hand kc_X13_hand dX13_hand_2
theorem rX13_hand_5 : ab_Run X 258 5 (2, 0, 0) [ab_R z, l1, l2] st σ Q ↔ z ≠ 0 ∧ ab_Run X 258 6 (2, 0, 0) [ab_R z, l1, l2] (ab_R z :: st) σ Q := ab_r_aload_n rfl kc_X13_hand dX13_hand_5
theorem rX13_hand_6 : ab_Run X 258 6 (2, 0, 0) [l0, ab_I z, l2] st σ Q ↔ ab_Run X 258 7 (2, 0, 0) [l0, ab_I z, l2] (ab_I z :: st) σ Q := ab_r_iload_n rfl kc_X13_hand dX13_hand_6
theorem rX13_hand_7 : ab_Run X 258 7 (2, 0, 0) L (ab_I x1 :: ab_R a :: st) σ Q ↔ ((ab_sh σ a).1 = 14 ∧ ab_cats st ≤ 8) ∧ ab_Do X 213 [ab_R a, ab_I x1] σ (fun r σ' => ab_Run X 258 10 (2, 0, 0) L (ab_psh r st) σ' Q) := ab_r_callV (w := [ab_I x1]) (as := [ab_I x1]) (b1 := (0, 0, 0)) 0 (Or.inl rfl) (by decide) ko_X13_hand qM_13_441 (by decide) rfl rfl rfl rfl rfl (by decide) (Nat.le_of_ble_eq_true rfl) kc_X13_hand dX13_hand_7
theorem rX13_hand_10 : ab_Run X 258 10 (2, 0, 0) L (ab_I a :: st) σ Q ↔ (¬ a = 0 → ab_Run X 258 20 (2, 0, 0) L st σ Q) ∧ (¬ (¬ a = 0) → ab_Run X 258 13 (2, 0, 0) L st σ Q) := ab_r_if_ne rfl kc_X13_hand dX13_hand_10
theorem rX13_hand_13 : ab_Run X 258 13 (2, 0, 0) [ab_R z, l1, l2] st σ Q ↔ z ≠ 0 ∧ ab_Run X 258 14 (2, 0, 0) [ab_R z, l1, l2] (ab_R z :: st) σ Q := ab_r_aload_n rfl kc_X13_hand dX13_hand_13
theorem rX13_hand_14 : ab_Run X 258 14 (2, 0, 0) L st σ Q ↔ ab_Run X 258 15 (2, 0, 0) L (ab_I 1 :: st) σ Q := ab_r_iconst (by decide) kc_X13_hand dX13_hand_14
theorem rX13_hand_15 : ab_Run X 258 15 (2, 0, 0) L (ab_I x1 :: ab_R a :: st) σ Q ↔ ((ab_sh σ a).1 = 14 ∧ ab_cats st ≤ 8) ∧ ab_Do X 159 [ab_R a, ab_I x1] σ (fun r σ' => ab_Run X 258 18 (2, 0, 0) L (ab_psh r st) σ' Q) := ab_r_callV (w := [ab_I x1]) (as := [ab_I x1]) (b1 := (0, 0, 0)) 0 (Or.inl rfl) (by decide) ko_X13_hand qM_13_59 (by decide) rfl rfl rfl rfl rfl (by decide) (Nat.le_of_ble_eq_true rfl) kc_X13_hand dX13_hand_15
theorem rX13_hand_18 : ab_Run X 258 18 (2, 0, 0) L (ab_I a :: st) σ Q ↔ ab_Run X 258 19 (2, 0, 0) L (ab_J a :: st) σ Q := ab_r_i2l kc_X13_hand dX13_hand_18
theorem rX13_hand_19 : ab_Run X 258 19 (2, 0, 0) L [ab_J v] σ Q ↔ Q (some (ab_J v)) σ := ab_r_lreturn rfl kc_X13_hand dX13_hand_19
theorem rX13_hand_20 : ab_Run X 258 20 (2, 0, 0) [ab_R z, l1, l2] st σ Q ↔ z ≠ 0 ∧ ab_Run X 258 21 (2, 0, 0) [ab_R z, l1, l2] (ab_R z :: st) σ Q := ab_r_aload_n rfl kc_X13_hand dX13_hand_20
theorem rX13_hand_21 : ab_Run X 258 21 (2, 0, 0) [ab_R z, l1, l2] st σ Q ↔ z ≠ 0 ∧ ab_Run X 258 22 (2, 0, 0) [ab_R z, l1, l2] (ab_R z :: st) σ Q := ab_r_aload_n rfl kc_X13_hand dX13_hand_21
theorem rX13_hand_22 : ab_Run X 258 22 (2, 0, 0) [l0, ab_I z, l2] st σ Q ↔ ab_Run X 258 23 (2, 0, 0) [l0, ab_I z, l2] (ab_I z :: st) σ Q := ab_r_iload_n rfl kc_X13_hand dX13_hand_22
theorem rX13_hand_23 : ab_Run X 258 23 (2, 0, 0) L (ab_I x1 :: ab_R a :: st) σ Q ↔ ((ab_sh σ a).1 = 14 ∧ ab_cats st ≤ 8) ∧ ab_Do X 220 [ab_R a, ab_I x1] σ (fun r σ' => ab_Run X 258 26 (2, 0, 0) L (ab_psh r st) σ' Q) := ab_r_callV (w := [ab_I x1]) (as := [ab_I x1]) (b1 := (1, 0, 0)) 0 (Or.inl rfl) (by decide) ko_X13_hand qM_13_452 (by decide) rfl rfl rfl rfl rfl (by decide) (Nat.le_of_ble_eq_true rfl) kc_X13_hand dX13_hand_23
theorem rX13_hand_26 : ab_Run X 258 26 (2, 0, 0) [ab_R z, l1, l2] st σ Q ↔ z ≠ 0 ∧ ab_Run X 258 27 (2, 0, 0) [ab_R z, l1, l2] (ab_R z :: st) σ Q := ab_r_aload_n rfl kc_X13_hand dX13_hand_26
theorem rX13_hand_27 : ab_Run X 258 27 (2, 0, 0) [l0, ab_I z, l2] st σ Q ↔ ab_Run X 258 28 (2, 0, 0) [l0, ab_I z, l2] (ab_I z :: st) σ Q := ab_r_iload_n rfl kc_X13_hand dX13_hand_27
theorem rX13_hand_28 : ab_Run X 258 28 (2, 0, 0) L (ab_I x1 :: ab_R a :: st) σ Q ↔ ((ab_sh σ a).1 = 14 ∧ ab_cats st ≤ 8) ∧ ab_Do X 219 [ab_R a, ab_I x1] σ (fun r σ' => ab_Run X 258 31 (2, 0, 0) L (ab_psh r st) σ' Q) := ab_r_callV (w := [ab_I x1]) (as := [ab_I x1]) (b1 := (0, 0, 0)) 0 (Or.inl rfl) (by decide) ko_X13_hand qM_13_449 (by decide) rfl rfl rfl rfl rfl (by decide) (Nat.le_of_ble_eq_true rfl) kc_X13_hand dX13_hand_28
theorem rX13_hand_31 : ab_Run X 258 31 (2, 0, 0) L (ab_I x2 :: ab_I x1 :: st) σ Q ↔ ab_cats st ≤ 8 ∧ ab_Do X 257 [ab_I x1, ab_I x2] σ (fun r σ' => ab_Run X 258 34 (2, 0, 0) L (ab_psh r st) σ' Q) := ab_r_callS (w := [ab_I x2, ab_I x1]) (as := [ab_I x1, ab_I x2]) (b1 := (0, 0, 0)) (by decide) ko_X13_hand qM_13_538 (by decide) rfl rfl rfl rfl (by decide) (Nat.le_of_ble_eq_true rfl) kc_X13_hand dX13_hand_31
theorem rX13_hand_34 : ab_Run X 258 34 (2, 0, 0) L st σ Q ↔ ab_Run X 258 35 (2, 0, 0) L (ab_J 1 :: st) σ Q := ab_r_lconst kc_X13_hand dX13_hand_34
theorem rX13_hand_35 : ab_Run X 258 35 (2, 0, 0) [ab_R z, l1, l2] st σ Q ↔ z ≠ 0 ∧ ab_Run X 258 36 (2, 0, 0) [ab_R z, l1, l2] (ab_R z :: st) σ Q := ab_r_aload_n rfl kc_X13_hand dX13_hand_35
theorem rX13_hand_36 : ab_Run X 258 36 (2, 0, 0) [l0, ab_I z, l2] st σ Q ↔ ab_Run X 258 37 (2, 0, 0) [l0, ab_I z, l2] (ab_I z :: st) σ Q := ab_r_iload_n rfl kc_X13_hand dX13_hand_36
theorem rX13_hand_37 : ab_Run X 258 37 (2, 0, 0) L (ab_I x1 :: ab_R a :: st) σ Q ↔ ((ab_sh σ a).1 = 14 ∧ ab_cats st ≤ 8) ∧ ab_Do X 220 [ab_R a, ab_I x1] σ (fun r σ' => ab_Run X 258 40 (2, 0, 0) L (ab_psh r st) σ' Q) := ab_r_callV (w := [ab_I x1]) (as := [ab_I x1]) (b1 := (1, 0, 0)) 0 (Or.inl rfl) (by decide) ko_X13_hand qM_13_452 (by decide) rfl rfl rfl rfl rfl (by decide) (Nat.le_of_ble_eq_true rfl) kc_X13_hand dX13_hand_37
theorem rX13_hand_40 : ab_Run X 258 40 (2, 0, 0) L (ab_I b :: ab_J a :: st) σ Q ↔ ab_Run X 258 41 (2, 0, 0) L (ab_J (Int64.ofInt a <<< ((Int32.ofInt b).toInt64 &&& 63)).toInt :: st) σ Q := ab_r_lshl kc_X13_hand dX13_hand_40
theorem rX13_hand_41 : ab_Run X 258 41 (2, 0, 0) [l0, l1, ab_I z] st σ Q ↔ ab_Run X 258 42 (2, 0, 0) [l0, l1, ab_I z] (ab_I z :: st) σ Q := ab_r_iload_n rfl kc_X13_hand dX13_hand_41
theorem rX13_hand_42 : ab_Run X 258 42 (2, 0, 0) L (ab_I x3 :: ab_J x2 :: ab_J x1 :: ab_R a :: st) σ Q ↔ ((ab_sh σ a).1 = 14 ∧ ab_cats st ≤ 8) ∧ ab_Do X 166 [ab_R a, ab_J x1, ab_J x2, ab_I x3] σ (fun r σ' => ab_Run X 258 45 (2, 0, 0) L (ab_psh r st) σ' Q) := ab_r_callV (w := [ab_I x3, ab_J x2, ab_J x1]) (as := [ab_J x1, ab_J x2, ab_I x3]) (b1 := (1, 0, 0)) 0 (Or.inl rfl) (by decide) ko_X13_hand qM_13_466 (by decide) rfl rfl rfl rfl rfl (by decide) (Nat.le_of_ble_eq_true rfl) kc_X13_hand dX13_hand_42
theorem rX13_hand_45 : ab_Run X 258 45 (2, 0, 0) L [ab_J v] σ Q ↔ Q (some (ab_J v)) σ := ab_r_lreturn rfl kc_X13_hand dX13_hand_45
theorem kc_X13_side : ab_code 259 = cX13_side := rfl
theorem ko_X13_side : ab_ow 259 = 13 := rfl
theorem rX13_side_0 : ab_Run X 259 0 (2, 0, 0) [ab_R z, l1, l2, l3] st σ Q ↔ z ≠ 0 ∧ ab_Run X 259 1 (2, 0, 0) [ab_R z, l1, l2, l3] (ab_R z :: st) σ Q := ab_r_aload_n rfl kc_X13_side dX13_side_0
theorem rX13_side_1 : ab_Run X 259 1 (2, 0, 0) L st σ Q ↔ ab_Run X 259 2 (2, 0, 0) L (ab_I 0 :: st) σ Q := ab_r_iconst (by decide) kc_X13_side dX13_side_1
theorem rX13_side_2 : ab_Run X 259 2 (2, 0, 0) L (ab_I z :: ab_R a :: st) σ Q ↔ (ab_sh σ a).1 = 14 ∧ ab_Run X 259 5 (2, 0, 0) L st (ab_wr σ a 0 z) Q := sF_13_53 ko_X13_side kc_X13_side dX13_side_2
theorem rX13_side_5 : ab_Run X 259 5 (2, 0, 0) [ab_R z, l1, l2, l3] st σ Q ↔ z ≠ 0 ∧ ab_Run X 259 6 (2, 0, 0) [ab_R z, l1, l2, l3] (ab_R z :: st) σ Q := ab_r_aload_n rfl kc_X13_side dX13_side_5
theorem rX13_side_6 : ab_Run X 259 6 (2, 0, 0) L (ab_R a :: st) σ Q ↔ (ab_sh σ a).1 = 14 ∧ ab_Run X 259 9 (2, 0, 0) L (ab_R (ab_rd σ a 3) :: st) σ Q := gF_13_373 ko_X13_side kc_X13_side dX13_side_6
theorem rX13_side_9 : ab_Run X 259 9 (2, 0, 0) L (ab_R a :: st) σ Q ↔ (¬ a = 0 → ab_Run X 259 19 (2, 0, 0) L st σ Q) ∧ (¬ (¬ a = 0) → ab_Run X 259 12 (2, 0, 0) L st σ Q) := ab_r_ifnonnull rfl kc_X13_side dX13_side_9
theorem rX13_side_12 : ab_Run X 259 12 (2, 0, 0) [ab_R z, l1, l2, l3] st σ Q ↔ z ≠ 0 ∧ ab_Run X 259 13 (2, 0, 0) [ab_R z, l1, l2, l3] (ab_R z :: st) σ Q := ab_r_aload_n rfl kc_X13_side dX13_side_12
theorem rX13_side_13 : ab_Run X 259 13 (2, 0, 0) L st σ Q ↔ ab_Run X 259 14 (2, 0, 0) L (ab_I 1 :: st) σ Q := ab_r_iconst (by decide) kc_X13_side dX13_side_13
theorem rX13_side_14 : ab_Run X 259 14 (2, 0, 0) L (ab_I x1 :: ab_R a :: st) σ Q ↔ ((ab_sh σ a).1 = 14 ∧ ab_cats st ≤ 8) ∧ ab_Do X 159 [ab_R a, ab_I x1] σ (fun r σ' => ab_Run X 259 17 (2, 0, 0) L (ab_psh r st) σ' Q) := ab_r_callV (w := [ab_I x1]) (as := [ab_I x1]) (b1 := (0, 0, 0)) 0 (Or.inl rfl) (by decide) ko_X13_side qM_13_59 (by decide) rfl rfl rfl rfl rfl (by decide) (Nat.le_of_ble_eq_true rfl) kc_X13_side dX13_side_14
theorem rX13_side_17 : ab_Run X 259 17 (2, 0, 0) L (ab_I a :: st) σ Q ↔ ab_Run X 259 18 (2, 0, 0) L (ab_J a :: st) σ Q := ab_r_i2l kc_X13_side dX13_side_17
theorem rX13_side_18 : ab_Run X 259 18 (2, 0, 0) L [ab_J v] σ Q ↔ Q (some (ab_J v)) σ := ab_r_lreturn rfl kc_X13_side dX13_side_18
theorem rX13_side_19 : ab_Run X 259 19 (2, 0, 0) L st σ Q ↔ ab_Run X 259 20 (2, 0, 0) L (ab_I 0 :: st) σ Q := ab_r_iconst (by decide) kc_X13_side dX13_side_19
theorem rX13_side_20 : ab_Run X 259 20 (2, 0, 0) [l0, l1, l2, l3] (ab_I z :: st) σ Q ↔ (!ab_isJ l1) = true ∧ ab_Run X 259 21 (2, 0, 0) [l0, l1, ab_I z, l3] st σ Q := ab_r_istore_n (Nat.le_of_ble_eq_true rfl) kc_X13_side dX13_side_20
theorem rX13_side_21 : ab_Run X 259 21 (2, 0, 0) L st σ Q ↔ ab_Run X 259 22 (2, 0, 0) L (ab_I 0 :: st) σ Q := ab_r_iconst (by decide) kc_X13_side dX13_side_21
theorem rX13_side_22 : ab_Run X 259 22 (2, 0, 0) [l0, l1, l2, l3] (ab_I z :: st) σ Q ↔ (!ab_isJ l2) = true ∧ ab_Run X 259 23 (2, 0, 0) [l0, l1, l2, ab_I z] st σ Q := ab_r_istore_n (Nat.le_of_ble_eq_true rfl) kc_X13_side dX13_side_22
theorem rX13_side_23 : ab_Run X 259 23 (2, 0, 0) [l0, l1, l2, ab_I z] st σ Q ↔ ab_Run X 259 24 (2, 0, 0) [l0, l1, l2, ab_I z] (ab_I z :: st) σ Q := ab_r_iload_n rfl kc_X13_side dX13_side_23
theorem rX13_side_24 : ab_Run X 259 24 (2, 0, 0) [ab_R z, l1, l2, l3] st σ Q ↔ z ≠ 0 ∧ ab_Run X 259 25 (2, 0, 0) [ab_R z, l1, l2, l3] (ab_R z :: st) σ Q := ab_r_aload_n rfl kc_X13_side dX13_side_24
theorem rX13_side_25 : ab_Run X 259 25 (2, 0, 0) L (ab_R a :: st) σ Q ↔ (ab_sh σ a).1 = 14 ∧ ab_Run X 259 28 (2, 0, 0) L (ab_R (ab_rd σ a 3) :: st) σ Q := gF_13_373 ko_X13_side kc_X13_side dX13_side_25
theorem rX13_side_28 : ab_Run X 259 28 (2, 0, 0) L (ab_R a :: st) σ Q ↔ (ab_sh σ a).1 = 13 ∧ ab_Run X 259 31 (2, 0, 0) L (ab_I (ab_rd σ a 8) :: st) σ Q := gF_13_334 ko_X13_side kc_X13_side dX13_side_28
theorem rX13_side_31 : ab_Run X 259 31 (2, 0, 0) L (ab_I b :: ab_I a :: st) σ Q ↔ (b ≤ a → ab_Run X 259 60 (2, 0, 0) L st σ Q) ∧ (¬ (b ≤ a) → ab_Run X 259 34 (2, 0, 0) L st σ Q) := ab_r_icmp_ge rfl kc_X13_side dX13_side_31
theorem rX13_side_34 : ab_Run X 259 34 (2, 0, 0) [l0, l1, ab_I z, l3] st σ Q ↔ ab_Run X 259 35 (2, 0, 0) [l0, l1, ab_I z, l3] (ab_I z :: st) σ Q := ab_r_iload_n rfl kc_X13_side dX13_side_34
theorem rX13_side_35 : ab_Run X 259 35 (2, 0, 0) [ab_R z, l1, l2, l3] st σ Q ↔ z ≠ 0 ∧ ab_Run X 259 36 (2, 0, 0) [ab_R z, l1, l2, l3] (ab_R z :: st) σ Q := ab_r_aload_n rfl kc_X13_side dX13_side_35
theorem rX13_side_36 : ab_Run X 259 36 (2, 0, 0) L (ab_R a :: st) σ Q ↔ (ab_sh σ a).1 = 14 ∧ ab_Run X 259 39 (2, 0, 0) L (ab_R (ab_rd σ a 3) :: st) σ Q := gF_13_373 ko_X13_side kc_X13_side dX13_side_36
theorem rX13_side_39 : ab_Run X 259 39 (2, 0, 0) L (ab_R a :: st) σ Q ↔ (ab_sh σ a).1 = 13 ∧ ab_Run X 259 42 (2, 0, 0) L (ab_R (ab_rd σ a 24) :: st) σ Q := gF_13_346 ko_X13_side kc_X13_side dX13_side_39
theorem rX13_side_42 : ab_Run X 259 42 (2, 0, 0) [l0, l1, l2, ab_I z] st σ Q ↔ ab_Run X 259 43 (2, 0, 0) [l0, l1, l2, ab_I z] (ab_I z :: st) σ Q := ab_r_iload_n rfl kc_X13_side dX13_side_42
theorem rX13_side_43 : ab_Run X 259 43 (2, 0, 0) L (ab_I i :: ab_R a :: st) σ Q ↔ ((ab_sh σ a).1 = 21 ∧ 0 ≤ i ∧ i < (ab_sh σ a).2) ∧ ab_Run X 259 44 (2, 0, 0) L (ab_I (ab_rd σ a i) :: st) σ Q := ab_r_iaload (by decide) kc_X13_side dX13_side_43
theorem rX13_side_44 : ab_Run X 259 44 (2, 0, 0) L (ab_I a :: st) σ Q ↔ (¬ a = 0 → ab_Run X 259 51 (2, 0, 0) L st σ Q) ∧ (¬ (¬ a = 0) → ab_Run X 259 47 (2, 0, 0) L st σ Q) := ab_r_if_ne rfl kc_X13_side dX13_side_44
theorem rX13_side_47 : ab_Run X 259 47 (2, 0, 0) L st σ Q ↔ ab_Run X 259 48 (2, 0, 0) L (ab_I 1 :: st) σ Q := ab_r_iconst (by decide) kc_X13_side dX13_side_47
theorem rX13_side_48 : ab_Run X 259 48 (2, 0, 0) L st σ Q ↔ ab_Run X 259 52 (2, 0, 0) L st σ Q := ab_r_goto rfl kc_X13_side dX13_side_48
theorem rX13_side_51 : ab_Run X 259 51 (2, 0, 0) L st σ Q ↔ ab_Run X 259 52 (2, 0, 0) L (ab_I 0 :: st) σ Q := ab_r_iconst (by decide) kc_X13_side dX13_side_51
theorem rX13_side_52 : ab_Run X 259 52 (2, 0, 0) L (ab_I b :: ab_I a :: st) σ Q ↔ ab_Run X 259 53 (2, 0, 0) L (ab_I (ab_w32 (a + b)) :: st) σ Q := ab_r_iadd kc_X13_side dX13_side_52
theorem rX13_side_53 : ab_Run X 259 53 (2, 0, 0) [l0, l1, l2, l3] (ab_I z :: st) σ Q ↔ (!ab_isJ l1) = true ∧ ab_Run X 259 54 (2, 0, 0) [l0, l1, ab_I z, l3] st σ Q := ab_r_istore_n (Nat.le_of_ble_eq_true rfl) kc_X13_side dX13_side_53
theorem rX13_side_54 : ab_Run X 259 54 (2, 0, 0) [l0, l1, l2, ab_I z] st σ Q ↔ (!ab_isJ l2) = true ∧ ab_Run X 259 57 (2, 0, 0) [l0, l1, l2, ab_I (ab_w32 (z + 1))] st σ Q := ab_r_iinc rfl (by decide) kc_X13_side dX13_side_54
theorem rX13_side_57 : ab_Run X 259 57 (2, 0, 0) L st σ Q ↔ ab_Run X 259 23 (2, 0, 0) L st σ Q := ab_r_goto rfl kc_X13_side dX13_side_57
theorem rX13_side_60 : ab_Run X 259 60 (2, 0, 0) [ab_R z, l1, l2, l3] st σ Q ↔ z ≠ 0 ∧ ab_Run X 259 61 (2, 0, 0) [ab_R z, l1, l2, l3] (ab_R z :: st) σ Q := ab_r_aload_n rfl kc_X13_side dX13_side_60
theorem rX13_side_61 : ab_Run X 259 61 (2, 0, 0) [ab_R z, l1, l2, l3] st σ Q ↔ z ≠ 0 ∧ ab_Run X 259 62 (2, 0, 0) [ab_R z, l1, l2, l3] (ab_R z :: st) σ Q := ab_r_aload_n rfl kc_X13_side dX13_side_61
theorem rX13_side_62 : ab_Run X 259 62 (2, 0, 0) L (ab_R a :: st) σ Q ↔ (ab_sh σ a).1 = 14 ∧ ab_Run X 259 65 (2, 0, 0) L (ab_R (ab_rd σ a 3) :: st) σ Q := gF_13_373 ko_X13_side kc_X13_side dX13_side_62
theorem rX13_side_65 : ab_Run X 259 65 (2, 0, 0) L (ab_R a :: st) σ Q ↔ (ab_sh σ a).1 = 13 ∧ ab_Run X 259 68 (2, 0, 0) L (ab_I (ab_rd σ a 8) :: st) σ Q := gF_13_334 ko_X13_side kc_X13_side dX13_side_65
theorem rX13_side_68 : ab_Run X 259 68 (2, 0, 0) [l0, l1, ab_I z, l3] st σ Q ↔ ab_Run X 259 69 (2, 0, 0) [l0, l1, ab_I z, l3] (ab_I z :: st) σ Q := ab_r_iload_n rfl kc_X13_side dX13_side_68
theorem rX13_side_69 : ab_Run X 259 69 (2, 0, 0) L (ab_I x2 :: ab_I x1 :: st) σ Q ↔ ab_cats st ≤ 8 ∧ ab_Do X 257 [ab_I x1, ab_I x2] σ (fun r σ' => ab_Run X 259 72 (2, 0, 0) L (ab_psh r st) σ' Q) := ab_r_callS (w := [ab_I x2, ab_I x1]) (as := [ab_I x1, ab_I x2]) (b1 := (0, 0, 0)) (by decide) ko_X13_side qM_13_538 (by decide) rfl rfl rfl rfl (by decide) (Nat.le_of_ble_eq_true rfl) kc_X13_side dX13_side_69
theorem rX13_side_72 : ab_Run X 259 72 (2, 0, 0) L st σ Q ↔ ab_Run X 259 73 (2, 0, 0) L (ab_J 1 :: st) σ Q := ab_r_lconst kc_X13_side dX13_side_72
theorem rX13_side_73 : ab_Run X 259 73 (2, 0, 0) [ab_R z, l1, l2, l3] st σ Q ↔ z ≠ 0 ∧ ab_Run X 259 74 (2, 0, 0) [ab_R z, l1, l2, l3] (ab_R z :: st) σ Q := ab_r_aload_n rfl kc_X13_side dX13_side_73
theorem rX13_side_74 : ab_Run X 259 74 (2, 0, 0) L (ab_R a :: st) σ Q ↔ (ab_sh σ a).1 = 14 ∧ ab_Run X 259 77 (2, 0, 0) L (ab_R (ab_rd σ a 3) :: st) σ Q := gF_13_373 ko_X13_side kc_X13_side dX13_side_74
theorem rX13_side_77 : ab_Run X 259 77 (2, 0, 0) L (ab_R a :: st) σ Q ↔ (ab_sh σ a).1 = 13 ∧ ab_Run X 259 80 (2, 0, 0) L (ab_I (ab_rd σ a 8) :: st) σ Q := gF_13_334 ko_X13_side kc_X13_side dX13_side_77
theorem rX13_side_80 : ab_Run X 259 80 (2, 0, 0) L (ab_I b :: ab_J a :: st) σ Q ↔ ab_Run X 259 81 (2, 0, 0) L (ab_J (Int64.ofInt a <<< ((Int32.ofInt b).toInt64 &&& 63)).toInt :: st) σ Q := ab_r_lshl kc_X13_side dX13_side_80
theorem rX13_side_81 : ab_Run X 259 81 (2, 0, 0) [l0, ab_I z, l2, l3] st σ Q ↔ ab_Run X 259 82 (2, 0, 0) [l0, ab_I z, l2, l3] (ab_I z :: st) σ Q := ab_r_iload_n rfl kc_X13_side dX13_side_81
theorem rX13_side_82 : ab_Run X 259 82 (2, 0, 0) L (ab_I x3 :: ab_J x2 :: ab_J x1 :: ab_R a :: st) σ Q ↔ ((ab_sh σ a).1 = 14 ∧ ab_cats st ≤ 8) ∧ ab_Do X 166 [ab_R a, ab_J x1, ab_J x2, ab_I x3] σ (fun r σ' => ab_Run X 259 85 (2, 0, 0) L (ab_psh r st) σ' Q) := ab_r_callV (w := [ab_I x3, ab_J x2, ab_J x1]) (as := [ab_J x1, ab_J x2, ab_I x3]) (b1 := (1, 0, 0)) 0 (Or.inl rfl) (by decide) ko_X13_side qM_13_466 (by decide) rfl rfl rfl rfl rfl (by decide) (Nat.le_of_ble_eq_true rfl) kc_X13_side dX13_side_82
theorem rX13_side_85 : ab_Run X 259 85 (2, 0, 0) L [ab_J v] σ Q ↔ Q (some (ab_J v)) σ := ab_r_lreturn rfl kc_X13_side dX13_side_85
theorem kc_X13_known : ab_code 260 = cX13_known := rfl
theorem ko_X13_known : ab_ow 260 = 13 := rfl
theorem rX13_known_0 : ab_Run X 260 0 (2, 0, 0) [ab_R z, l1, l2] st σ Q ↔ z ≠ 0 ∧ ab_Run X 260 1 (2, 0, 0) [ab_R z, l1, l2] (ab_R z :: st) σ Q := ab_r_aload_n rfl kc_X13_known dX13_known_0
theorem rX13_known_1 : ab_Run X 260 1 (2, 0, 0) L st σ Q ↔ ab_Run X 260 2 (2, 0, 0) L (ab_I 0 :: st) σ Q := ab_r_iconst (by decide) kc_X13_known dX13_known_1
theorem rX13_known_2 : ab_Run X 260 2 (2, 0, 0) L (ab_I z :: ab_R a :: st) σ Q ↔ (ab_sh σ a).1 = 14 ∧ ab_Run X 260 5 (2, 0, 0) L st (ab_wr σ a 0 z) Q := sF_13_53 ko_X13_known kc_X13_known dX13_known_2
theorem rX13_known_5 : ab_Run X 260 5 (2, 0, 0) [ab_R z, l1, l2] st σ Q ↔ z ≠ 0 ∧ ab_Run X 260 6 (2, 0, 0) [ab_R z, l1, l2] (ab_R z :: st) σ Q := ab_r_aload_n rfl kc_X13_known dX13_known_5
theorem rX13_known_6 : ab_Run X 260 6 (2, 0, 0) L (ab_R a :: st) σ Q ↔ (ab_sh σ a).1 = 14 ∧ ab_Run X 260 9 (2, 0, 0) L (ab_R (ab_rd σ a 3) :: st) σ Q := gF_13_373 ko_X13_known kc_X13_known dX13_known_6
theorem rX13_known_9 : ab_Run X 260 9 (2, 0, 0) L (ab_R a :: st) σ Q ↔ (¬ a = 0 → ab_Run X 260 18 (2, 0, 0) L st σ Q) ∧ (¬ (¬ a = 0) → ab_Run X 260 12 (2, 0, 0) L st σ Q) := ab_r_ifnonnull rfl kc_X13_known dX13_known_9
theorem rX13_known_12 : ab_Run X 260 12 (2, 0, 0) [ab_R z, l1, l2] st σ Q ↔ z ≠ 0 ∧ ab_Run X 260 13 (2, 0, 0) [ab_R z, l1, l2] (ab_R z :: st) σ Q := ab_r_aload_n rfl kc_X13_known dX13_known_12
theorem rX13_known_13 : ab_Run X 260 13 (2, 0, 0) L st σ Q ↔ ab_Run X 260 14 (2, 0, 0) L (ab_I 1 :: st) σ Q := ab_r_iconst (by decide) kc_X13_known dX13_known_13
theorem rX13_known_14 : ab_Run X 260 14 (2, 0, 0) L (ab_I x1 :: ab_R a :: st) σ Q ↔ ((ab_sh σ a).1 = 14 ∧ ab_cats st ≤ 8) ∧ ab_Do X 159 [ab_R a, ab_I x1] σ (fun r σ' => ab_Run X 260 17 (2, 0, 0) L (ab_psh r st) σ' Q) := ab_r_callV (w := [ab_I x1]) (as := [ab_I x1]) (b1 := (0, 0, 0)) 0 (Or.inl rfl) (by decide) ko_X13_known qM_13_59 (by decide) rfl rfl rfl rfl rfl (by decide) (Nat.le_of_ble_eq_true rfl) kc_X13_known dX13_known_14
theorem rX13_known_17 : ab_Run X 260 17 (2, 0, 0) L [ab_I v] σ Q ↔ Q (some (ab_I v)) σ := ab_r_ireturnI rfl kc_X13_known dX13_known_17
theorem rX13_known_18 : ab_Run X 260 18 (2, 0, 0) L st σ Q ↔ ab_Run X 260 19 (2, 0, 0) L (ab_I 0 :: st) σ Q := ab_r_iconst (by decide) kc_X13_known dX13_known_18
theorem rX13_known_19 : ab_Run X 260 19 (2, 0, 0) [l0, l1, l2] (ab_I z :: st) σ Q ↔ (!ab_isJ l0) = true ∧ ab_Run X 260 20 (2, 0, 0) [l0, ab_I z, l2] st σ Q := ab_r_istore_n (Nat.le_of_ble_eq_true rfl) kc_X13_known dX13_known_19
theorem rX13_known_20 : ab_Run X 260 20 (2, 0, 0) L st σ Q ↔ ab_Run X 260 21 (2, 0, 0) L (ab_I 0 :: st) σ Q := ab_r_iconst (by decide) kc_X13_known dX13_known_20
theorem rX13_known_21 : ab_Run X 260 21 (2, 0, 0) [l0, l1, l2] (ab_I z :: st) σ Q ↔ (!ab_isJ l1) = true ∧ ab_Run X 260 22 (2, 0, 0) [l0, l1, ab_I z] st σ Q := ab_r_istore_n (Nat.le_of_ble_eq_true rfl) kc_X13_known dX13_known_21
theorem rX13_known_22 : ab_Run X 260 22 (2, 0, 0) [l0, l1, ab_I z] st σ Q ↔ ab_Run X 260 23 (2, 0, 0) [l0, l1, ab_I z] (ab_I z :: st) σ Q := ab_r_iload_n rfl kc_X13_known dX13_known_22
theorem rX13_known_23 : ab_Run X 260 23 (2, 0, 0) [ab_R z, l1, l2] st σ Q ↔ z ≠ 0 ∧ ab_Run X 260 24 (2, 0, 0) [ab_R z, l1, l2] (ab_R z :: st) σ Q := ab_r_aload_n rfl kc_X13_known dX13_known_23
theorem rX13_known_24 : ab_Run X 260 24 (2, 0, 0) L (ab_R a :: st) σ Q ↔ (ab_sh σ a).1 = 14 ∧ ab_Run X 260 27 (2, 0, 0) L (ab_R (ab_rd σ a 3) :: st) σ Q := gF_13_373 ko_X13_known kc_X13_known dX13_known_24
theorem rX13_known_27 : ab_Run X 260 27 (2, 0, 0) L (ab_R a :: st) σ Q ↔ (ab_sh σ a).1 = 13 ∧ ab_Run X 260 30 (2, 0, 0) L (ab_I (ab_rd σ a 6) :: st) σ Q := gF_13_213 ko_X13_known kc_X13_known dX13_known_27
theorem rX13_known_30 : ab_Run X 260 30 (2, 0, 0) L (ab_I b :: ab_I a :: st) σ Q ↔ (b ≤ a → ab_Run X 260 77 (2, 0, 0) L st σ Q) ∧ (¬ (b ≤ a) → ab_Run X 260 33 (2, 0, 0) L st σ Q) := ab_r_icmp_ge rfl kc_X13_known dX13_known_30
theorem rX13_known_33 : ab_Run X 260 33 (2, 0, 0) [l0, ab_I z, l2] st σ Q ↔ ab_Run X 260 34 (2, 0, 0) [l0, ab_I z, l2] (ab_I z :: st) σ Q := ab_r_iload_n rfl kc_X13_known dX13_known_33
theorem rX13_known_34 : ab_Run X 260 34 (2, 0, 0) L st σ Q ↔ ab_Run X 260 37 (2, 0, 0) L (ab_J 20 :: st) σ Q := ab_r_ldc2_w rfl ko_X13_known (by decide +kernel) kc_X13_known dX13_known_34
theorem rX13_known_37 : ab_Run X 260 37 (2, 0, 0) [ab_R z, l1, l2] st σ Q ↔ z ≠ 0 ∧ ab_Run X 260 38 (2, 0, 0) [ab_R z, l1, l2] (ab_R z :: st) σ Q := ab_r_aload_n rfl kc_X13_known dX13_known_37
theorem rX13_known_38 : ab_Run X 260 38 (2, 0, 0) [l0, l1, ab_I z] st σ Q ↔ ab_Run X 260 39 (2, 0, 0) [l0, l1, ab_I z] (ab_I z :: st) σ Q := ab_r_iload_n rfl kc_X13_known dX13_known_38
theorem rX13_known_39 : ab_Run X 260 39 (2, 0, 0) L (ab_I x1 :: ab_R a :: st) σ Q ↔ ((ab_sh σ a).1 = 14 ∧ ab_cats st ≤ 8) ∧ ab_Do X 220 [ab_R a, ab_I x1] σ (fun r σ' => ab_Run X 260 42 (2, 0, 0) L (ab_psh r st) σ' Q) := ab_r_callV (w := [ab_I x1]) (as := [ab_I x1]) (b1 := (1, 0, 0)) 0 (Or.inl rfl) (by decide) ko_X13_known qM_13_452 (by decide) rfl rfl rfl rfl rfl (by decide) (Nat.le_of_ble_eq_true rfl) kc_X13_known dX13_known_39
theorem rX13_known_42 : ab_Run X 260 42 (2, 0, 0) [ab_R z, l1, l2] st σ Q ↔ z ≠ 0 ∧ ab_Run X 260 43 (2, 0, 0) [ab_R z, l1, l2] (ab_R z :: st) σ Q := ab_r_aload_n rfl kc_X13_known dX13_known_42
theorem rX13_known_43 : ab_Run X 260 43 (2, 0, 0) [l0, l1, ab_I z] st σ Q ↔ ab_Run X 260 44 (2, 0, 0) [l0, l1, ab_I z] (ab_I z :: st) σ Q := ab_r_iload_n rfl kc_X13_known dX13_known_43
theorem rX13_known_44 : ab_Run X 260 44 (2, 0, 0) L (ab_I x1 :: ab_R a :: st) σ Q ↔ ((ab_sh σ a).1 = 14 ∧ ab_cats st ≤ 8) ∧ ab_Do X 219 [ab_R a, ab_I x1] σ (fun r σ' => ab_Run X 260 47 (2, 0, 0) L (ab_psh r st) σ' Q) := ab_r_callV (w := [ab_I x1]) (as := [ab_I x1]) (b1 := (0, 0, 0)) 0 (Or.inl rfl) (by decide) ko_X13_known qM_13_449 (by decide) rfl rfl rfl rfl rfl (by decide) (Nat.le_of_ble_eq_true rfl) kc_X13_known dX13_known_44
theorem rX13_known_47 : ab_Run X 260 47 (2, 0, 0) L (ab_I x2 :: ab_I x1 :: st) σ Q ↔ ab_cats st ≤ 8 ∧ ab_Do X 257 [ab_I x1, ab_I x2] σ (fun r σ' => ab_Run X 260 50 (2, 0, 0) L (ab_psh r st) σ' Q) := ab_r_callS (w := [ab_I x2, ab_I x1]) (as := [ab_I x1, ab_I x2]) (b1 := (0, 0, 0)) (by decide) ko_X13_known qM_13_538 (by decide) rfl rfl rfl rfl (by decide) (Nat.le_of_ble_eq_true rfl) kc_X13_known dX13_known_47
theorem rX13_known_50 : ab_Run X 260 50 (2, 0, 0) L (ab_J b :: ab_J a :: st) σ Q ↔ ab_Run X 260 51 (2, 0, 0) L (ab_J (ab_w64 (a * b)) :: st) σ Q := ab_r_lmul kc_X13_known dX13_known_50
theorem rX13_known_51 : ab_Run X 260 51 (2, 0, 0) L st σ Q ↔ ab_Run X 260 52 (2, 0, 0) L (ab_J 1 :: st) σ Q := ab_r_lconst kc_X13_known dX13_known_51
theorem rX13_known_52 : ab_Run X 260 52 (2, 0, 0) [ab_R z, l1, l2] st σ Q ↔ z ≠ 0 ∧ ab_Run X 260 53 (2, 0, 0) [ab_R z, l1, l2] (ab_R z :: st) σ Q := ab_r_aload_n rfl kc_X13_known dX13_known_52
theorem rX13_known_53 : ab_Run X 260 53 (2, 0, 0) [l0, l1, ab_I z] st σ Q ↔ ab_Run X 260 54 (2, 0, 0) [l0, l1, ab_I z] (ab_I z :: st) σ Q := ab_r_iload_n rfl kc_X13_known dX13_known_53
theorem rX13_known_54 : ab_Run X 260 54 (2, 0, 0) L (ab_I x1 :: ab_R a :: st) σ Q ↔ ((ab_sh σ a).1 = 14 ∧ ab_cats st ≤ 8) ∧ ab_Do X 220 [ab_R a, ab_I x1] σ (fun r σ' => ab_Run X 260 57 (2, 0, 0) L (ab_psh r st) σ' Q) := ab_r_callV (w := [ab_I x1]) (as := [ab_I x1]) (b1 := (1, 0, 0)) 0 (Or.inl rfl) (by decide) ko_X13_known qM_13_452 (by decide) rfl rfl rfl rfl rfl (by decide) (Nat.le_of_ble_eq_true rfl) kc_X13_known dX13_known_54
theorem rX13_known_57 : ab_Run X 260 57 (2, 0, 0) L (ab_I b :: ab_J a :: st) σ Q ↔ ab_Run X 260 58 (2, 0, 0) L (ab_J (Int64.ofInt a <<< ((Int32.ofInt b).toInt64 &&& 63)).toInt :: st) σ Q := ab_r_lshl kc_X13_known dX13_known_57
theorem rX13_known_58 : ab_Run X 260 58 (2, 0, 0) L (ab_J b :: ab_J a :: st) σ Q ↔ ab_Run X 260 59 (2, 0, 0) L (ab_I (if b < a then 1 else if a = b then 0 else -1) :: st) σ Q := ab_r_lcmp kc_X13_known dX13_known_58
theorem rX13_known_59 : ab_Run X 260 59 (2, 0, 0) L (ab_I a :: st) σ Q ↔ (0 < a → ab_Run X 260 68 (2, 0, 0) L st σ Q) ∧ (¬ (0 < a) → ab_Run X 260 62 (2, 0, 0) L st σ Q) := ab_r_if_gt rfl kc_X13_known dX13_known_59
theorem rX13_known_62 : ab_Run X 260 62 (2, 0, 0) L st σ Q ↔ ab_Run X 260 63 (2, 0, 0) L (ab_I 1 :: st) σ Q := ab_r_iconst (by decide) kc_X13_known dX13_known_62
theorem rX13_known_63 : ab_Run X 260 63 (2, 0, 0) [l0, l1, ab_I z] st σ Q ↔ ab_Run X 260 64 (2, 0, 0) [l0, l1, ab_I z] (ab_I z :: st) σ Q := ab_r_iload_n rfl kc_X13_known dX13_known_63
theorem rX13_known_64 : ab_Run X 260 64 (2, 0, 0) L (ab_I b :: ab_I a :: st) σ Q ↔ ab_Run X 260 65 (2, 0, 0) L (ab_I (ab_ok32 (fun x y => x <<< (y &&& 31)) a b) :: st) σ Q := ab_r_ishl kc_X13_known dX13_known_64
theorem rX13_known_65 : ab_Run X 260 65 (2, 0, 0) L st σ Q ↔ ab_Run X 260 69 (2, 0, 0) L st σ Q := ab_r_goto rfl kc_X13_known dX13_known_65
theorem rX13_known_68 : ab_Run X 260 68 (2, 0, 0) L st σ Q ↔ ab_Run X 260 69 (2, 0, 0) L (ab_I 0 :: st) σ Q := ab_r_iconst (by decide) kc_X13_known dX13_known_68
theorem rX13_known_69 : ab_Run X 260 69 (2, 0, 0) L (ab_I b :: ab_I a :: st) σ Q ↔ ab_Run X 260 70 (2, 0, 0) L (ab_I (ab_ok32 (fun x y => x ||| y) a b) :: st) σ Q := ab_r_ior kc_X13_known dX13_known_69
theorem rX13_known_70 : ab_Run X 260 70 (2, 0, 0) [l0, l1, l2] (ab_I z :: st) σ Q ↔ (!ab_isJ l0) = true ∧ ab_Run X 260 71 (2, 0, 0) [l0, ab_I z, l2] st σ Q := ab_r_istore_n (Nat.le_of_ble_eq_true rfl) kc_X13_known dX13_known_70
theorem rX13_known_71 : ab_Run X 260 71 (2, 0, 0) [l0, l1, ab_I z] st σ Q ↔ (!ab_isJ l1) = true ∧ ab_Run X 260 74 (2, 0, 0) [l0, l1, ab_I (ab_w32 (z + 1))] st σ Q := ab_r_iinc rfl (by decide) kc_X13_known dX13_known_71
theorem rX13_known_74 : ab_Run X 260 74 (2, 0, 0) L st σ Q ↔ ab_Run X 260 22 (2, 0, 0) L st σ Q := ab_r_goto rfl kc_X13_known dX13_known_74
theorem rX13_known_77 : ab_Run X 260 77 (2, 0, 0) [ab_R z, l1, l2] st σ Q ↔ z ≠ 0 ∧ ab_Run X 260 78 (2, 0, 0) [ab_R z, l1, l2] (ab_R z :: st) σ Q := ab_r_aload_n rfl kc_X13_known dX13_known_77
theorem rX13_known_78 : ab_Run X 260 78 (2, 0, 0) [l0, ab_I z, l2] st σ Q ↔ ab_Run X 260 79 (2, 0, 0) [l0, ab_I z, l2] (ab_I z :: st) σ Q := ab_r_iload_n rfl kc_X13_known dX13_known_78
theorem rX13_known_79 : ab_Run X 260 79 (2, 0, 0) L (ab_I x1 :: ab_R a :: st) σ Q ↔ ((ab_sh σ a).1 = 14 ∧ ab_cats st ≤ 8) ∧ ab_Do X 161 [ab_R a, ab_I x1] σ (fun r σ' => ab_Run X 260 82 (2, 0, 0) L (ab_psh r st) σ' Q) := ab_r_callV (w := [ab_I x1]) (as := [ab_I x1]) (b1 := (0, 0, 0)) 0 (Or.inl rfl) (by decide) ko_X13_known qM_13_63 (by decide) rfl rfl rfl rfl rfl (by decide) (Nat.le_of_ble_eq_true rfl) kc_X13_known dX13_known_79
theorem rX13_known_82 : ab_Run X 260 82 (2, 0, 0) L [ab_I v] σ Q ↔ Q (some (ab_I v)) σ := ab_r_ireturnI rfl kc_X13_known dX13_known_82
theorem kc_X13_hens : ab_code 261 = cX13_hens := rfl
theorem ko_X13_hens : ab_ow 261 = 13 := rfl
theorem rX13_hens_0 : ab_Run X 261 0 (1, 0, 0) [ab_R z, l1, l2] st σ Q ↔ z ≠ 0 ∧ ab_Run X 261 1 (1, 0, 0) [ab_R z, l1, l2] (ab_R z :: st) σ Q := ab_r_aload_n rfl kc_X13_hens dX13_hens_0
theorem rX13_hens_1 : ab_Run X 261 1 (1, 0, 0) L st σ Q ↔ ab_Run X 261 2 (1, 0, 0) L (ab_I 0 :: st) σ Q := ab_r_iconst (by decide) kc_X13_hens dX13_hens_1
theorem rX13_hens_2 : ab_Run X 261 2 (1, 0, 0) L (ab_I z :: ab_R a :: st) σ Q ↔ (ab_sh σ a).1 = 14 ∧ ab_Run X 261 5 (1, 0, 0) L st (ab_wr σ a 0 z) Q := sF_13_53 ko_X13_hens kc_X13_hens dX13_hens_2
theorem rX13_hens_5 : ab_Run X 261 5 (1, 0, 0) [ab_R z, l1, l2] st σ Q ↔ z ≠ 0 ∧ ab_Run X 261 6 (1, 0, 0) [ab_R z, l1, l2] (ab_R z :: st) σ Q := ab_r_aload_n rfl kc_X13_hens dX13_hens_5
theorem rX13_hens_6 : ab_Run X 261 6 (1, 0, 0) L (ab_R a :: st) σ Q ↔ (ab_sh σ a).1 = 14 ∧ ab_Run X 261 9 (1, 0, 0) L (ab_R (ab_rd σ a 3) :: st) σ Q := gF_13_373 ko_X13_hens kc_X13_hens dX13_hens_6
theorem rX13_hens_9 : ab_Run X 261 9 (1, 0, 0) L (ab_R a :: st) σ Q ↔ (¬ a = 0 → ab_Run X 261 18 (1, 0, 0) L st σ Q) ∧ (¬ (¬ a = 0) → ab_Run X 261 12 (1, 0, 0) L st σ Q) := ab_r_ifnonnull rfl kc_X13_hens dX13_hens_9
theorem rX13_hens_12 : ab_Run X 261 12 (1, 0, 0) [ab_R z, l1, l2] st σ Q ↔ z ≠ 0 ∧ ab_Run X 261 13 (1, 0, 0) [ab_R z, l1, l2] (ab_R z :: st) σ Q := ab_r_aload_n rfl kc_X13_hens dX13_hens_12
theorem rX13_hens_13 : ab_Run X 261 13 (1, 0, 0) L st σ Q ↔ ab_Run X 261 14 (1, 0, 0) L (ab_I 1 :: st) σ Q := ab_r_iconst (by decide) kc_X13_hens dX13_hens_13
theorem rX13_hens_14 : ab_Run X 261 14 (1, 0, 0) L (ab_I x1 :: ab_R a :: st) σ Q ↔ ((ab_sh σ a).1 = 14 ∧ ab_cats st ≤ 8) ∧ ab_Do X 159 [ab_R a, ab_I x1] σ (fun r σ' => ab_Run X 261 17 (1, 0, 0) L (ab_psh r st) σ' Q) := ab_r_callV (w := [ab_I x1]) (as := [ab_I x1]) (b1 := (0, 0, 0)) 0 (Or.inl rfl) (by decide) ko_X13_hens qM_13_59 (by decide) rfl rfl rfl rfl rfl (by decide) (Nat.le_of_ble_eq_true rfl) kc_X13_hens dX13_hens_14
theorem rX13_hens_17 : ab_Run X 261 17 (1, 0, 0) L [ab_I v] σ Q ↔ Q (some (ab_I v)) σ := ab_r_ireturnI rfl kc_X13_hens dX13_hens_17
theorem rX13_hens_18 : ab_Run X 261 18 (1, 0, 0) [l0, ab_I z, l2] st σ Q ↔ ab_Run X 261 19 (1, 0, 0) [l0, ab_I z, l2] (ab_I z :: st) σ Q := ab_r_iload_n rfl kc_X13_hens dX13_hens_18
theorem rX13_hens_19 : ab_Run X 261 19 (1, 0, 0) L st σ Q ↔ ab_Run X 261 20 (1, 0, 0) L (ab_I 1 :: st) σ Q := ab_r_iconst (by decide) kc_X13_hens dX13_hens_19
theorem rX13_hens_20 : ab_Run X 261 20 (1, 0, 0) L st σ Q ↔ ab_Run X 261 23 (1, 0, 0) L (ab_I 1000000 :: st) σ Q := ab_r_ldc_w rfl ko_X13_hens (by decide +kernel) kc_X13_hens dX13_hens_20
theorem rX13_hens_23 : ab_Run X 261 23 (1, 0, 0) L (ab_I x3 :: ab_I x2 :: ab_I x1 :: st) σ Q ↔ ab_cats st ≤ 8 ∧ ab_Do X 163 [ab_I x1, ab_I x2, ab_I x3] σ (fun r σ' => ab_Run X 261 26 (1, 0, 0) L (ab_psh r st) σ' Q) := ab_r_callS (w := [ab_I x3, ab_I x2, ab_I x1]) (as := [ab_I x1, ab_I x2, ab_I x3]) (b1 := (0, 0, 0)) (by decide) ko_X13_hens qM_13_138 (by decide) rfl rfl rfl rfl (by decide) (Nat.le_of_ble_eq_true rfl) kc_X13_hens dX13_hens_23
theorem rX13_hens_26 : ab_Run X 261 26 (1, 0, 0) L (ab_I a :: st) σ Q ↔ (¬ a = 0 → ab_Run X 261 35 (1, 0, 0) L st σ Q) ∧ (¬ (¬ a = 0) → ab_Run X 261 29 (1, 0, 0) L st σ Q) := ab_r_if_ne rfl kc_X13_hens dX13_hens_26
theorem rX13_hens_29 : ab_Run X 261 29 (1, 0, 0) [ab_R z, l1, l2] st σ Q ↔ z ≠ 0 ∧ ab_Run X 261 30 (1, 0, 0) [ab_R z, l1, l2] (ab_R z :: st) σ Q := ab_r_aload_n rfl kc_X13_hens dX13_hens_29
theorem rX13_hens_30 : ab_Run X 261 30 (1, 0, 0) L st σ Q ↔ ab_Run X 261 31 (1, 0, 0) L (ab_I 2 :: st) σ Q := ab_r_iconst (by decide) kc_X13_hens dX13_hens_30
theorem rX13_hens_31 : ab_Run X 261 31 (1, 0, 0) L (ab_I x1 :: ab_R a :: st) σ Q ↔ ((ab_sh σ a).1 = 14 ∧ ab_cats st ≤ 8) ∧ ab_Do X 159 [ab_R a, ab_I x1] σ (fun r σ' => ab_Run X 261 34 (1, 0, 0) L (ab_psh r st) σ' Q) := ab_r_callV (w := [ab_I x1]) (as := [ab_I x1]) (b1 := (0, 0, 0)) 0 (Or.inl rfl) (by decide) ko_X13_hens qM_13_59 (by decide) rfl rfl rfl rfl rfl (by decide) (Nat.le_of_ble_eq_true rfl) kc_X13_hens dX13_hens_31
theorem rX13_hens_34 : ab_Run X 261 34 (1, 0, 0) L [ab_I v] σ Q ↔ Q (some (ab_I v)) σ := ab_r_ireturnI rfl kc_X13_hens dX13_hens_34
theorem rX13_hens_35 : ab_Run X 261 35 (1, 0, 0) L st σ Q ↔ ab_Run X 261 36 (1, 0, 0) L (ab_I 0 :: st) σ Q := ab_r_iconst (by decide) kc_X13_hens dX13_hens_35
theorem rX13_hens_36 : ab_Run X 261 36 (1, 0, 0) [l0, l1, l2] (ab_I z :: st) σ Q ↔ (!ab_isJ l1) = true ∧ ab_Run X 261 37 (1, 0, 0) [l0, l1, ab_I z] st σ Q := ab_r_istore_n (Nat.le_of_ble_eq_true rfl) kc_X13_hens dX13_hens_36
theorem rX13_hens_37 : ab_Run X 261 37 (1, 0, 0) L st σ Q ↔ ab_Run X 261 38 (1, 0, 0) L (ab_I 1 :: st) σ Q := ab_r_iconst (by decide) kc_X13_hens dX13_hens_37
theorem rX13_hens_38 : ab_Run X 261 38 (1, 0, 0) [l0, l1, ab_I z] st σ Q ↔ ab_Run X 261 39 (1, 0, 0) [l0, l1, ab_I z] (ab_I z :: st) σ Q := ab_r_iload_n rfl kc_X13_hens dX13_hens_38
theorem rX13_hens_39 : ab_Run X 261 39 (1, 0, 0) L (ab_I b :: ab_I a :: st) σ Q ↔ ab_Run X 261 40 (1, 0, 0) L (ab_I (ab_ok32 (fun x y => x <<< (y &&& 31)) a b) :: st) σ Q := ab_r_ishl kc_X13_hens dX13_hens_39
theorem rX13_hens_40 : ab_Run X 261 40 (1, 0, 0) [l0, ab_I z, l2] st σ Q ↔ ab_Run X 261 41 (1, 0, 0) [l0, ab_I z, l2] (ab_I z :: st) σ Q := ab_r_iload_n rfl kc_X13_hens dX13_hens_40
theorem rX13_hens_41 : ab_Run X 261 41 (1, 0, 0) L (ab_I b :: ab_I a :: st) σ Q ↔ (b ≤ a → ab_Run X 261 50 (1, 0, 0) L st σ Q) ∧ (¬ (b ≤ a) → ab_Run X 261 44 (1, 0, 0) L st σ Q) := ab_r_icmp_ge rfl kc_X13_hens dX13_hens_41
theorem rX13_hens_44 : ab_Run X 261 44 (1, 0, 0) [l0, l1, ab_I z] st σ Q ↔ (!ab_isJ l1) = true ∧ ab_Run X 261 47 (1, 0, 0) [l0, l1, ab_I (ab_w32 (z + 1))] st σ Q := ab_r_iinc rfl (by decide) kc_X13_hens dX13_hens_44
theorem rX13_hens_47 : ab_Run X 261 47 (1, 0, 0) L st σ Q ↔ ab_Run X 261 37 (1, 0, 0) L st σ Q := ab_r_goto rfl kc_X13_hens dX13_hens_47
theorem rX13_hens_50 : ab_Run X 261 50 (1, 0, 0) [ab_R z, l1, l2] st σ Q ↔ z ≠ 0 ∧ ab_Run X 261 51 (1, 0, 0) [ab_R z, l1, l2] (ab_R z :: st) σ Q := ab_r_aload_n rfl kc_X13_hens dX13_hens_50
theorem rX13_hens_51 : ab_Run X 261 51 (1, 0, 0) [l0, l1, ab_I z] st σ Q ↔ ab_Run X 261 52 (1, 0, 0) [l0, l1, ab_I z] (ab_I z :: st) σ Q := ab_r_iload_n rfl kc_X13_hens dX13_hens_51
theorem rX13_hens_52 : ab_Run X 261 52 (1, 0, 0) L (ab_I x1 :: ab_R a :: st) σ Q ↔ ((ab_sh σ a).1 = 14 ∧ ab_cats st ≤ 8) ∧ ab_Do X 161 [ab_R a, ab_I x1] σ (fun r σ' => ab_Run X 261 55 (1, 0, 0) L (ab_psh r st) σ' Q) := ab_r_callV (w := [ab_I x1]) (as := [ab_I x1]) (b1 := (0, 0, 0)) 0 (Or.inl rfl) (by decide) ko_X13_hens qM_13_63 (by decide) rfl rfl rfl rfl rfl (by decide) (Nat.le_of_ble_eq_true rfl) kc_X13_hens dX13_hens_52
theorem rX13_hens_55 : ab_Run X 261 55 (1, 0, 0) L [ab_I v] σ Q ↔ Q (some (ab_I v)) σ := ab_r_ireturnI rfl kc_X13_hens dX13_hens_55
theorem kc_X13_byTenths : ab_code 262 = cX13_byTenths := rfl
theorem ko_X13_byTenths : ab_ow 262 = 13 := rfl
theorem rX13_byTenths_0 : ab_Run X 262 0 (0, 0, 0) L st σ Q ↔ ab_Run X 262 1 (0, 0, 0) L (ab_J 1 :: st) σ Q := ab_r_lconst kc_X13_byTenths dX13_byTenths_0
theorem rX13_byTenths_1 : ab_Run X 262 1 (0, 0, 0) [l0, l1, l2, l3, l4, l5, l6] (ab_J z :: st) σ Q ↔ (!ab_isJ l3) = true ∧ ab_Run X 262 3 (0, 0, 0) [l0, l1, l2, l3, ab_J z, ab_R 0, l6] st σ Q := ab_r_lstore (Nat.le_of_ble_eq_true rfl) kc_X13_byTenths dX13_byTenths_1
theorem rX13_byTenths_3 : ab_Run X 262 3 (0, 0, 0) L st σ Q ↔ ab_Run X 262 4 (0, 0, 0) L (ab_I 0 :: st) σ Q := ab_r_iconst (by decide) kc_X13_byTenths dX13_byTenths_3
theorem rX13_byTenths_4 : ab_Run X 262 4 (0, 0, 0) [l0, l1, l2, l3, l4, l5, l6] (ab_I z :: st) σ Q ↔ (!ab_isJ l5) = true ∧ ab_Run X 262 6 (0, 0, 0) [l0, l1, l2, l3, l4, l5, ab_I z] st σ Q := ab_r_istore (Nat.le_of_ble_eq_true rfl) kc_X13_byTenths dX13_byTenths_4
theorem rX13_byTenths_6 : ab_Run X 262 6 (0, 0, 0) [l0, l1, l2, l3, l4, l5, ab_I z] st σ Q ↔ ab_Run X 262 8 (0, 0, 0) [l0, l1, l2, l3, l4, l5, ab_I z] (ab_I z :: st) σ Q := ab_r_iload rfl kc_X13_byTenths dX13_byTenths_6
theorem rX13_byTenths_8 : ab_Run X 262 8 (0, 0, 0) [l0, l1, ab_I z, l3, l4, l5, l6] st σ Q ↔ ab_Run X 262 9 (0, 0, 0) [l0, l1, ab_I z, l3, l4, l5, l6] (ab_I z :: st) σ Q := ab_r_iload_n rfl kc_X13_byTenths dX13_byTenths_8
theorem rX13_byTenths_9 : ab_Run X 262 9 (0, 0, 0) L (ab_I b :: ab_I a :: st) σ Q ↔ (b ≤ a → ab_Run X 262 25 (0, 0, 0) L st σ Q) ∧ (¬ (b ≤ a) → ab_Run X 262 12 (0, 0, 0) L st σ Q) := ab_r_icmp_ge rfl kc_X13_byTenths dX13_byTenths_9
theorem rX13_byTenths_12 : ab_Run X 262 12 (0, 0, 0) [l0, l1, l2, l3, ab_J z, l5, l6] st σ Q ↔ ab_Run X 262 14 (0, 0, 0) [l0, l1, l2, l3, ab_J z, l5, l6] (ab_J z :: st) σ Q := ab_r_lload rfl kc_X13_byTenths dX13_byTenths_12
theorem rX13_byTenths_14 : ab_Run X 262 14 (0, 0, 0) [l0, ab_I z, l2, l3, l4, l5, l6] st σ Q ↔ ab_Run X 262 15 (0, 0, 0) [l0, ab_I z, l2, l3, l4, l5, l6] (ab_I z :: st) σ Q := ab_r_iload_n rfl kc_X13_byTenths dX13_byTenths_14
theorem rX13_byTenths_15 : ab_Run X 262 15 (0, 0, 0) L (ab_I a :: st) σ Q ↔ ab_Run X 262 16 (0, 0, 0) L (ab_J a :: st) σ Q := ab_r_i2l kc_X13_byTenths dX13_byTenths_15
theorem rX13_byTenths_16 : ab_Run X 262 16 (0, 0, 0) L (ab_J b :: ab_J a :: st) σ Q ↔ ab_Run X 262 17 (0, 0, 0) L (ab_J (ab_w64 (a * b)) :: st) σ Q := ab_r_lmul kc_X13_byTenths dX13_byTenths_16
theorem rX13_byTenths_17 : ab_Run X 262 17 (0, 0, 0) [l0, l1, l2, l3, l4, l5, l6] (ab_J z :: st) σ Q ↔ (!ab_isJ l3) = true ∧ ab_Run X 262 19 (0, 0, 0) [l0, l1, l2, l3, ab_J z, ab_R 0, l6] st σ Q := ab_r_lstore (Nat.le_of_ble_eq_true rfl) kc_X13_byTenths dX13_byTenths_17
theorem rX13_byTenths_19 : ab_Run X 262 19 (0, 0, 0) [l0, l1, l2, l3, l4, l5, ab_I z] st σ Q ↔ (!ab_isJ l5) = true ∧ ab_Run X 262 22 (0, 0, 0) [l0, l1, l2, l3, l4, l5, ab_I (ab_w32 (z + 1))] st σ Q := ab_r_iinc rfl (by decide) kc_X13_byTenths dX13_byTenths_19
theorem rX13_byTenths_22 : ab_Run X 262 22 (0, 0, 0) L st σ Q ↔ ab_Run X 262 6 (0, 0, 0) L st σ Q := ab_r_goto rfl kc_X13_byTenths dX13_byTenths_22
theorem rX13_byTenths_25 : ab_Run X 262 25 (0, 0, 0) L st σ Q ↔ ab_Run X 262 26 (0, 0, 0) L (ab_I 0 :: st) σ Q := ab_r_iconst (by decide) kc_X13_byTenths dX13_byTenths_25
theorem rX13_byTenths_26 : ab_Run X 262 26 (0, 0, 0) [l0, l1, l2, l3, l4, l5, l6] (ab_I z :: st) σ Q ↔ (!ab_isJ l5) = true ∧ ab_Run X 262 28 (0, 0, 0) [l0, l1, l2, l3, l4, l5, ab_I z] st σ Q := ab_r_istore (Nat.le_of_ble_eq_true rfl) kc_X13_byTenths dX13_byTenths_26
theorem rX13_byTenths_28 : ab_Run X 262 28 (0, 0, 0) [l0, l1, l2, l3, l4, l5, ab_I z] st σ Q ↔ ab_Run X 262 30 (0, 0, 0) [l0, l1, l2, l3, l4, l5, ab_I z] (ab_I z :: st) σ Q := ab_r_iload rfl kc_X13_byTenths dX13_byTenths_28
theorem rX13_byTenths_30 : ab_Run X 262 30 (0, 0, 0) [l0, l1, l2, ab_I z, l4, l5, l6] st σ Q ↔ ab_Run X 262 31 (0, 0, 0) [l0, l1, l2, ab_I z, l4, l5, l6] (ab_I z :: st) σ Q := ab_r_iload_n rfl kc_X13_byTenths dX13_byTenths_30
theorem rX13_byTenths_31 : ab_Run X 262 31 (0, 0, 0) L (ab_I b :: ab_I a :: st) σ Q ↔ (b ≤ a → ab_Run X 262 50 (0, 0, 0) L st σ Q) ∧ (¬ (b ≤ a) → ab_Run X 262 34 (0, 0, 0) L st σ Q) := ab_r_icmp_ge rfl kc_X13_byTenths dX13_byTenths_31
theorem rX13_byTenths_34 : ab_Run X 262 34 (0, 0, 0) [l0, l1, l2, l3, ab_J z, l5, l6] st σ Q ↔ ab_Run X 262 36 (0, 0, 0) [l0, l1, l2, l3, ab_J z, l5, l6] (ab_J z :: st) σ Q := ab_r_lload rfl kc_X13_byTenths dX13_byTenths_34
theorem rX13_byTenths_36 : ab_Run X 262 36 (0, 0, 0) L st σ Q ↔ ab_Run X 262 38 (0, 0, 0) L (ab_I 10 :: st) σ Q := ab_r_bipush (by decide) kc_X13_byTenths dX13_byTenths_36
theorem rX13_byTenths_38 : ab_Run X 262 38 (0, 0, 0) [l0, ab_I z, l2, l3, l4, l5, l6] st σ Q ↔ ab_Run X 262 39 (0, 0, 0) [l0, ab_I z, l2, l3, l4, l5, l6] (ab_I z :: st) σ Q := ab_r_iload_n rfl kc_X13_byTenths dX13_byTenths_38
theorem rX13_byTenths_39 : ab_Run X 262 39 (0, 0, 0) L (ab_I b :: ab_I a :: st) σ Q ↔ ab_Run X 262 40 (0, 0, 0) L (ab_I (ab_w32 (a - b)) :: st) σ Q := ab_r_isub kc_X13_byTenths dX13_byTenths_39
theorem rX13_byTenths_40 : ab_Run X 262 40 (0, 0, 0) L (ab_I a :: st) σ Q ↔ ab_Run X 262 41 (0, 0, 0) L (ab_J a :: st) σ Q := ab_r_i2l kc_X13_byTenths dX13_byTenths_40
theorem rX13_byTenths_41 : ab_Run X 262 41 (0, 0, 0) L (ab_J b :: ab_J a :: st) σ Q ↔ ab_Run X 262 42 (0, 0, 0) L (ab_J (ab_w64 (a * b)) :: st) σ Q := ab_r_lmul kc_X13_byTenths dX13_byTenths_41
theorem rX13_byTenths_42 : ab_Run X 262 42 (0, 0, 0) [l0, l1, l2, l3, l4, l5, l6] (ab_J z :: st) σ Q ↔ (!ab_isJ l3) = true ∧ ab_Run X 262 44 (0, 0, 0) [l0, l1, l2, l3, ab_J z, ab_R 0, l6] st σ Q := ab_r_lstore (Nat.le_of_ble_eq_true rfl) kc_X13_byTenths dX13_byTenths_42
theorem rX13_byTenths_44 : ab_Run X 262 44 (0, 0, 0) [l0, l1, l2, l3, l4, l5, ab_I z] st σ Q ↔ (!ab_isJ l5) = true ∧ ab_Run X 262 47 (0, 0, 0) [l0, l1, l2, l3, l4, l5, ab_I (ab_w32 (z + 1))] st σ Q := ab_r_iinc rfl (by decide) kc_X13_byTenths dX13_byTenths_44
theorem rX13_byTenths_47 : ab_Run X 262 47 (0, 0, 0) L st σ Q ↔ ab_Run X 262 28 (0, 0, 0) L st σ Q := ab_r_goto rfl kc_X13_byTenths dX13_byTenths_47
theorem rX13_byTenths_50 : ab_Run X 262 50 (0, 0, 0) [l0, l1, l2, l3, ab_J z, l5, l6] st σ Q ↔ ab_Run X 262 52 (0, 0, 0) [l0, l1, l2, l3, ab_J z, l5, l6] (ab_J z :: st) σ Q := ab_r_lload rfl kc_X13_byTenths dX13_byTenths_50
theorem rX13_byTenths_52 : ab_Run X 262 52 (0, 0, 0) L [ab_J v] σ Q ↔ Q (some (ab_J v)) σ := ab_r_lreturn rfl kc_X13_byTenths dX13_byTenths_52
theorem kc_X13_thumbs : ab_code 263 = cX13_thumbs := rfl
theorem ko_X13_thumbs : ab_ow 263 = 13 := rfl
theorem rX13_thumbs_0 : ab_Run X 263 0 (2, 0, 0) [ab_R z, l1, l2, l3, l4, l5, l6, l7, l8] st σ Q ↔ z ≠ 0 ∧ ab_Run X 263 1 (2, 0, 0) [ab_R z, l1, l2, l3, l4, l5, l6, l7, l8] (ab_R z :: st) σ Q := ab_r_aload_n rfl kc_X13_thumbs dX13_thumbs_0
theorem rX13_thumbs_1 : ab_Run X 263 1 (2, 0, 0) L st σ Q ↔ ab_Run X 263 2 (2, 0, 0) L (ab_I 0 :: st) σ Q := ab_r_iconst (by decide) kc_X13_thumbs dX13_thumbs_1
theorem rX13_thumbs_2 : ab_Run X 263 2 (2, 0, 0) L (ab_I z :: ab_R a :: st) σ Q ↔ (ab_sh σ a).1 = 14 ∧ ab_Run X 263 5 (2, 0, 0) L st (ab_wr σ a 0 z) Q := sF_13_53 ko_X13_thumbs kc_X13_thumbs dX13_thumbs_2
theorem rX13_thumbs_5 : ab_Run X 263 5 (2, 0, 0) [ab_R z, l1, l2, l3, l4, l5, l6, l7, l8] st σ Q ↔ z ≠ 0 ∧ ab_Run X 263 6 (2, 0, 0) [ab_R z, l1, l2, l3, l4, l5, l6, l7, l8] (ab_R z :: st) σ Q := ab_r_aload_n rfl kc_X13_thumbs dX13_thumbs_5
theorem rX13_thumbs_6 : ab_Run X 263 6 (2, 0, 0) [l0, ab_I z, l2, l3, l4, l5, l6, l7, l8] st σ Q ↔ ab_Run X 263 7 (2, 0, 0) [l0, ab_I z, l2, l3, l4, l5, l6, l7, l8] (ab_I z :: st) σ Q := ab_r_iload_n rfl kc_X13_thumbs dX13_thumbs_6
theorem rX13_thumbs_7 : ab_Run X 263 7 (2, 0, 0) L (ab_I x1 :: ab_R a :: st) σ Q ↔ ((ab_sh σ a).1 = 14 ∧ ab_cats st ≤ 8) ∧ ab_Do X 213 [ab_R a, ab_I x1] σ (fun r σ' => ab_Run X 263 10 (2, 0, 0) L (ab_psh r st) σ' Q) := ab_r_callV (w := [ab_I x1]) (as := [ab_I x1]) (b1 := (0, 0, 0)) 0 (Or.inl rfl) (by decide) ko_X13_thumbs qM_13_441 (by decide) rfl rfl rfl rfl rfl (by decide) (Nat.le_of_ble_eq_true rfl) kc_X13_thumbs dX13_thumbs_7
theorem rX13_thumbs_10 : ab_Run X 263 10 (2, 0, 0) L (ab_I a :: st) σ Q ↔ (¬ a = 0 → ab_Run X 263 20 (2, 0, 0) L st σ Q) ∧ (¬ (¬ a = 0) → ab_Run X 263 13 (2, 0, 0) L st σ Q) := ab_r_if_ne rfl kc_X13_thumbs dX13_thumbs_10
theorem rX13_thumbs_13 : ab_Run X 263 13 (2, 0, 0) [ab_R z, l1, l2, l3, l4, l5, l6, l7, l8] st σ Q ↔ z ≠ 0 ∧ ab_Run X 263 14 (2, 0, 0) [ab_R z, l1, l2, l3, l4, l5, l6, l7, l8] (ab_R z :: st) σ Q := ab_r_aload_n rfl kc_X13_thumbs dX13_thumbs_13
theorem rX13_thumbs_14 : ab_Run X 263 14 (2, 0, 0) L st σ Q ↔ ab_Run X 263 15 (2, 0, 0) L (ab_I 1 :: st) σ Q := ab_r_iconst (by decide) kc_X13_thumbs dX13_thumbs_14
theorem rX13_thumbs_15 : ab_Run X 263 15 (2, 0, 0) L (ab_I x1 :: ab_R a :: st) σ Q ↔ ((ab_sh σ a).1 = 14 ∧ ab_cats st ≤ 8) ∧ ab_Do X 159 [ab_R a, ab_I x1] σ (fun r σ' => ab_Run X 263 18 (2, 0, 0) L (ab_psh r st) σ' Q) := ab_r_callV (w := [ab_I x1]) (as := [ab_I x1]) (b1 := (0, 0, 0)) 0 (Or.inl rfl) (by decide) ko_X13_thumbs qM_13_59 (by decide) rfl rfl rfl rfl rfl (by decide) (Nat.le_of_ble_eq_true rfl) kc_X13_thumbs dX13_thumbs_15
theorem rX13_thumbs_18 : ab_Run X 263 18 (2, 0, 0) L (ab_I a :: st) σ Q ↔ ab_Run X 263 19 (2, 0, 0) L (ab_J a :: st) σ Q := ab_r_i2l kc_X13_thumbs dX13_thumbs_18
theorem rX13_thumbs_19 : ab_Run X 263 19 (2, 0, 0) L [ab_J v] σ Q ↔ Q (some (ab_J v)) σ := ab_r_lreturn rfl kc_X13_thumbs dX13_thumbs_19
theorem rX13_thumbs_20 : ab_Run X 263 20 (2, 0, 0) [ab_R z, l1, l2, l3, l4, l5, l6, l7, l8] st σ Q ↔ z ≠ 0 ∧ ab_Run X 263 21 (2, 0, 0) [ab_R z, l1, l2, l3, l4, l5, l6, l7, l8] (ab_R z :: st) σ Q := ab_r_aload_n rfl kc_X13_thumbs dX13_thumbs_20
theorem rX13_thumbs_21 : ab_Run X 263 21 (2, 0, 0) L (ab_R a :: st) σ Q ↔ (ab_sh σ a).1 = 14 ∧ ab_Run X 263 24 (2, 0, 0) L (ab_R (ab_rd σ a 3) :: st) σ Q := gF_13_373 ko_X13_thumbs kc_X13_thumbs dX13_thumbs_21
theorem rX13_thumbs_24 : ab_Run X 263 24 (2, 0, 0) L (ab_R a :: st) σ Q ↔ (ab_sh σ a).1 = 13 ∧ ab_Run X 263 27 (2, 0, 0) L (ab_R (ab_rd σ a 27) :: st) σ Q := gF_13_316 ko_X13_thumbs kc_X13_thumbs dX13_thumbs_24
theorem rX13_thumbs_27 : ab_Run X 263 27 (2, 0, 0) [l0, ab_I z, l2, l3, l4, l5, l6, l7, l8] st σ Q ↔ ab_Run X 263 28 (2, 0, 0) [l0, ab_I z, l2, l3, l4, l5, l6, l7, l8] (ab_I z :: st) σ Q := ab_r_iload_n rfl kc_X13_thumbs dX13_thumbs_27
theorem rX13_thumbs_28 : ab_Run X 263 28 (2, 0, 0) L (ab_I i :: ab_R a :: st) σ Q ↔ ((ab_sh σ a).1 = 21 ∧ 0 ≤ i ∧ i < (ab_sh σ a).2) ∧ ab_Run X 263 29 (2, 0, 0) L (ab_I (ab_rd σ a i) :: st) σ Q := ab_r_iaload (by decide) kc_X13_thumbs dX13_thumbs_28
theorem rX13_thumbs_29 : ab_Run X 263 29 (2, 0, 0) L st σ Q ↔ ab_Run X 263 30 (2, 0, 0) L (ab_I (-1) :: st) σ Q := ab_r_iconst (by decide) kc_X13_thumbs dX13_thumbs_29
theorem rX13_thumbs_30 : ab_Run X 263 30 (2, 0, 0) L (ab_I b :: ab_I a :: st) σ Q ↔ (¬ a = b → ab_Run X 263 41 (2, 0, 0) L st σ Q) ∧ (¬ (¬ a = b) → ab_Run X 263 33 (2, 0, 0) L st σ Q) := ab_r_icmp_ne rfl kc_X13_thumbs dX13_thumbs_30
theorem rX13_thumbs_33 : ab_Run X 263 33 (2, 0, 0) [ab_R z, l1, l2, l3, l4, l5, l6, l7, l8] st σ Q ↔ z ≠ 0 ∧ ab_Run X 263 34 (2, 0, 0) [ab_R z, l1, l2, l3, l4, l5, l6, l7, l8] (ab_R z :: st) σ Q := ab_r_aload_n rfl kc_X13_thumbs dX13_thumbs_33
theorem rX13_thumbs_34 : ab_Run X 263 34 (2, 0, 0) L st σ Q ↔ ab_Run X 263 36 (2, 0, 0) L (ab_I 6 :: st) σ Q := ab_r_bipush (by decide) kc_X13_thumbs dX13_thumbs_34
theorem rX13_thumbs_36 : ab_Run X 263 36 (2, 0, 0) L (ab_I x1 :: ab_R a :: st) σ Q ↔ ((ab_sh σ a).1 = 14 ∧ ab_cats st ≤ 8) ∧ ab_Do X 159 [ab_R a, ab_I x1] σ (fun r σ' => ab_Run X 263 39 (2, 0, 0) L (ab_psh r st) σ' Q) := ab_r_callV (w := [ab_I x1]) (as := [ab_I x1]) (b1 := (0, 0, 0)) 0 (Or.inl rfl) (by decide) ko_X13_thumbs qM_13_59 (by decide) rfl rfl rfl rfl rfl (by decide) (Nat.le_of_ble_eq_true rfl) kc_X13_thumbs dX13_thumbs_36
theorem rX13_thumbs_39 : ab_Run X 263 39 (2, 0, 0) L (ab_I a :: st) σ Q ↔ ab_Run X 263 40 (2, 0, 0) L (ab_J a :: st) σ Q := ab_r_i2l kc_X13_thumbs dX13_thumbs_39
theorem rX13_thumbs_40 : ab_Run X 263 40 (2, 0, 0) L [ab_J v] σ Q ↔ Q (some (ab_J v)) σ := ab_r_lreturn rfl kc_X13_thumbs dX13_thumbs_40
theorem rX13_thumbs_41 : ab_Run X 263 41 (2, 0, 0) [ab_R z, l1, l2, l3, l4, l5, l6, l7, l8] st σ Q ↔ z ≠ 0 ∧ ab_Run X 263 42 (2, 0, 0) [ab_R z, l1, l2, l3, l4, l5, l6, l7, l8] (ab_R z :: st) σ Q := ab_r_aload_n rfl kc_X13_thumbs dX13_thumbs_41
theorem rX13_thumbs_42 : ab_Run X 263 42 (2, 0, 0) [l0, ab_I z, l2, l3, l4, l5, l6, l7, l8] st σ Q ↔ ab_Run X 263 43 (2, 0, 0) [l0, ab_I z, l2, l3, l4, l5, l6, l7, l8] (ab_I z :: st) σ Q := ab_r_iload_n rfl kc_X13_thumbs dX13_thumbs_42
theorem rX13_thumbs_43 : ab_Run X 263 43 (2, 0, 0) L (ab_I x1 :: ab_R a :: st) σ Q ↔ ((ab_sh σ a).1 = 14 ∧ ab_cats st ≤ 8) ∧ ab_Do X 219 [ab_R a, ab_I x1] σ (fun r σ' => ab_Run X 263 46 (2, 0, 0) L (ab_psh r st) σ' Q) := ab_r_callV (w := [ab_I x1]) (as := [ab_I x1]) (b1 := (0, 0, 0)) 0 (Or.inl rfl) (by decide) ko_X13_thumbs qM_13_449 (by decide) rfl rfl rfl rfl rfl (by decide) (Nat.le_of_ble_eq_true rfl) kc_X13_thumbs dX13_thumbs_43
theorem rX13_thumbs_46 : ab_Run X 263 46 (2, 0, 0) [l0, l1, l2, l3, l4, l5, l6, l7, l8] (ab_I z :: st) σ Q ↔ (!ab_isJ l2) = true ∧ ab_Run X 263 47 (2, 0, 0) [l0, l1, l2, ab_I z, l4, l5, l6, l7, l8] st σ Q := ab_r_istore_n (Nat.le_of_ble_eq_true rfl) kc_X13_thumbs dX13_thumbs_46
theorem rX13_thumbs_47 : ab_Run X 263 47 (2, 0, 0) [ab_R z, l1, l2, l3, l4, l5, l6, l7, l8] st σ Q ↔ z ≠ 0 ∧ ab_Run X 263 48 (2, 0, 0) [ab_R z, l1, l2, l3, l4, l5, l6, l7, l8] (ab_R z :: st) σ Q := ab_r_aload_n rfl kc_X13_thumbs dX13_thumbs_47
theorem rX13_thumbs_48 : ab_Run X 263 48 (2, 0, 0) [l0, ab_I z, l2, l3, l4, l5, l6, l7, l8] st σ Q ↔ ab_Run X 263 49 (2, 0, 0) [l0, ab_I z, l2, l3, l4, l5, l6, l7, l8] (ab_I z :: st) σ Q := ab_r_iload_n rfl kc_X13_thumbs dX13_thumbs_48
theorem rX13_thumbs_49 : ab_Run X 263 49 (2, 0, 0) L (ab_I x1 :: ab_R a :: st) σ Q ↔ ((ab_sh σ a).1 = 14 ∧ ab_cats st ≤ 8) ∧ ab_Do X 220 [ab_R a, ab_I x1] σ (fun r σ' => ab_Run X 263 52 (2, 0, 0) L (ab_psh r st) σ' Q) := ab_r_callV (w := [ab_I x1]) (as := [ab_I x1]) (b1 := (1, 0, 0)) 0 (Or.inl rfl) (by decide) ko_X13_thumbs qM_13_452 (by decide) rfl rfl rfl rfl rfl (by decide) (Nat.le_of_ble_eq_true rfl) kc_X13_thumbs dX13_thumbs_49
theorem rX13_thumbs_52 : ab_Run X 263 52 (2, 0, 0) [l0, l1, l2, ab_I z, l4, l5, l6, l7, l8] st σ Q ↔ ab_Run X 263 53 (2, 0, 0) [l0, l1, l2, ab_I z, l4, l5, l6, l7, l8] (ab_I z :: st) σ Q := ab_r_iload_n rfl kc_X13_thumbs dX13_thumbs_52
theorem rX13_thumbs_53 : ab_Run X 263 53 (2, 0, 0) L (ab_I b :: ab_I a :: st) σ Q ↔ ab_Run X 263 54 (2, 0, 0) L (ab_I (ab_w32 (a - b)) :: st) σ Q := ab_r_isub kc_X13_thumbs dX13_thumbs_53
theorem rX13_thumbs_54 : ab_Run X 263 54 (2, 0, 0) [l0, l1, l2, l3, l4, l5, l6, l7, l8] (ab_I z :: st) σ Q ↔ (!ab_isJ l3) = true ∧ ab_Run X 263 56 (2, 0, 0) [l0, l1, l2, l3, ab_I z, l5, l6, l7, l8] st σ Q := ab_r_istore (Nat.le_of_ble_eq_true rfl) kc_X13_thumbs dX13_thumbs_54
theorem rX13_thumbs_56 : ab_Run X 263 56 (2, 0, 0) [ab_R z, l1, l2, l3, l4, l5, l6, l7, l8] st σ Q ↔ z ≠ 0 ∧ ab_Run X 263 57 (2, 0, 0) [ab_R z, l1, l2, l3, l4, l5, l6, l7, l8] (ab_R z :: st) σ Q := ab_r_aload_n rfl kc_X13_thumbs dX13_thumbs_56
theorem rX13_thumbs_57 : ab_Run X 263 57 (2, 0, 0) L (ab_R a :: st) σ Q ↔ (ab_sh σ a).1 = 14 ∧ ab_Run X 263 60 (2, 0, 0) L (ab_R (ab_rd σ a 3) :: st) σ Q := gF_13_373 ko_X13_thumbs kc_X13_thumbs dX13_thumbs_57
theorem rX13_thumbs_60 : ab_Run X 263 60 (2, 0, 0) L (ab_R a :: st) σ Q ↔ (ab_sh σ a).1 = 13 ∧ ab_Run X 263 63 (2, 0, 0) L (ab_R (ab_rd σ a 27) :: st) σ Q := gF_13_316 ko_X13_thumbs kc_X13_thumbs dX13_thumbs_60
theorem rX13_thumbs_63 : ab_Run X 263 63 (2, 0, 0) [l0, ab_I z, l2, l3, l4, l5, l6, l7, l8] st σ Q ↔ ab_Run X 263 64 (2, 0, 0) [l0, ab_I z, l2, l3, l4, l5, l6, l7, l8] (ab_I z :: st) σ Q := ab_r_iload_n rfl kc_X13_thumbs dX13_thumbs_63
theorem rX13_thumbs_64 : ab_Run X 263 64 (2, 0, 0) L (ab_I i :: ab_R a :: st) σ Q ↔ ((ab_sh σ a).1 = 21 ∧ 0 ≤ i ∧ i < (ab_sh σ a).2) ∧ ab_Run X 263 65 (2, 0, 0) L (ab_I (ab_rd σ a i) :: st) σ Q := ab_r_iaload (by decide) kc_X13_thumbs dX13_thumbs_64
theorem rX13_thumbs_65 : ab_Run X 263 65 (2, 0, 0) L (ab_I a :: st) σ Q ↔ ab_Run X 263 66 (2, 0, 0) L (ab_J a :: st) σ Q := ab_r_i2l kc_X13_thumbs dX13_thumbs_65
theorem rX13_thumbs_66 : ab_Run X 263 66 (2, 0, 0) [ab_R z, l1, l2, l3, l4, l5, l6, l7, l8] st σ Q ↔ z ≠ 0 ∧ ab_Run X 263 67 (2, 0, 0) [ab_R z, l1, l2, l3, l4, l5, l6, l7, l8] (ab_R z :: st) σ Q := ab_r_aload_n rfl kc_X13_thumbs dX13_thumbs_66
theorem rX13_thumbs_67 : ab_Run X 263 67 (2, 0, 0) [ab_R z, l1, l2, l3, l4, l5, l6, l7, l8] st σ Q ↔ z ≠ 0 ∧ ab_Run X 263 68 (2, 0, 0) [ab_R z, l1, l2, l3, l4, l5, l6, l7, l8] (ab_R z :: st) σ Q := ab_r_aload_n rfl kc_X13_thumbs dX13_thumbs_67
theorem rX13_thumbs_68 : ab_Run X 263 68 (2, 0, 0) L (ab_R a :: st) σ Q ↔ (ab_sh σ a).1 = 14 ∧ ab_Run X 263 71 (2, 0, 0) L (ab_R (ab_rd σ a 3) :: st) σ Q := gF_13_373 ko_X13_thumbs kc_X13_thumbs dX13_thumbs_68
theorem rX13_thumbs_71 : ab_Run X 263 71 (2, 0, 0) L (ab_R a :: st) σ Q ↔ (ab_sh σ a).1 = 13 ∧ ab_Run X 263 74 (2, 0, 0) L (ab_R (ab_rd σ a 28) :: st) σ Q := gF_13_360 ko_X13_thumbs kc_X13_thumbs dX13_thumbs_71
theorem rX13_thumbs_74 : ab_Run X 263 74 (2, 0, 0) [l0, ab_I z, l2, l3, l4, l5, l6, l7, l8] st σ Q ↔ ab_Run X 263 75 (2, 0, 0) [l0, ab_I z, l2, l3, l4, l5, l6, l7, l8] (ab_I z :: st) σ Q := ab_r_iload_n rfl kc_X13_thumbs dX13_thumbs_74
theorem rX13_thumbs_75 : ab_Run X 263 75 (2, 0, 0) L (ab_I i :: ab_R a :: st) σ Q ↔ ((ab_sh σ a).1 = 21 ∧ 0 ≤ i ∧ i < (ab_sh σ a).2) ∧ ab_Run X 263 76 (2, 0, 0) L (ab_I (ab_rd σ a i) :: st) σ Q := ab_r_iaload (by decide) kc_X13_thumbs dX13_thumbs_75
theorem rX13_thumbs_76 : ab_Run X 263 76 (2, 0, 0) [l0, l1, l2, ab_I z, l4, l5, l6, l7, l8] st σ Q ↔ ab_Run X 263 77 (2, 0, 0) [l0, l1, l2, ab_I z, l4, l5, l6, l7, l8] (ab_I z :: st) σ Q := ab_r_iload_n rfl kc_X13_thumbs dX13_thumbs_76
theorem rX13_thumbs_77 : ab_Run X 263 77 (2, 0, 0) [l0, l1, l2, l3, ab_I z, l5, l6, l7, l8] st σ Q ↔ ab_Run X 263 79 (2, 0, 0) [l0, l1, l2, l3, ab_I z, l5, l6, l7, l8] (ab_I z :: st) σ Q := ab_r_iload rfl kc_X13_thumbs dX13_thumbs_77
theorem rX13_thumbs_79 : ab_Run X 263 79 (2, 0, 0) L (ab_I x3 :: ab_I x2 :: ab_I x1 :: ab_R a :: st) σ Q ↔ ((ab_sh σ a).1 = 14 ∧ ab_cats st ≤ 8) ∧ ab_Do X 262 [ab_R a, ab_I x1, ab_I x2, ab_I x3] σ (fun r σ' => ab_Run X 263 82 (2, 0, 0) L (ab_psh r st) σ' Q) := ab_r_callV (w := [ab_I x3, ab_I x2, ab_I x1]) (as := [ab_I x1, ab_I x2, ab_I x3]) (b1 := (0, 0, 0)) 0 (Or.inl rfl) (by decide) ko_X13_thumbs qM_13_545 (by decide) rfl rfl rfl rfl rfl (by decide) (Nat.le_of_ble_eq_true rfl) kc_X13_thumbs dX13_thumbs_79
theorem rX13_thumbs_82 : ab_Run X 263 82 (2, 0, 0) L (ab_J b :: ab_J a :: st) σ Q ↔ ab_Run X 263 83 (2, 0, 0) L (ab_J (ab_w64 (a * b)) :: st) σ Q := ab_r_lmul kc_X13_thumbs dX13_thumbs_82
theorem rX13_thumbs_83 : ab_Run X 263 83 (2, 0, 0) [l0, l1, l2, l3, l4, l5, l6, l7, l8] (ab_J z :: st) σ Q ↔ (!ab_isJ l4) = true ∧ ab_Run X 263 85 (2, 0, 0) [l0, l1, l2, l3, l4, ab_J z, ab_R 0, l7, l8] st σ Q := ab_r_lstore (Nat.le_of_ble_eq_true rfl) kc_X13_thumbs dX13_thumbs_83
theorem rX13_thumbs_85 : ab_Run X 263 85 (2, 0, 0) L st σ Q ↔ ab_Run X 263 87 (2, 0, 0) L (ab_I 100 :: st) σ Q := ab_r_bipush (by decide) kc_X13_thumbs dX13_thumbs_85
theorem rX13_thumbs_87 : ab_Run X 263 87 (2, 0, 0) [ab_R z, l1, l2, l3, l4, l5, l6, l7, l8] st σ Q ↔ z ≠ 0 ∧ ab_Run X 263 88 (2, 0, 0) [ab_R z, l1, l2, l3, l4, l5, l6, l7, l8] (ab_R z :: st) σ Q := ab_r_aload_n rfl kc_X13_thumbs dX13_thumbs_87
theorem rX13_thumbs_88 : ab_Run X 263 88 (2, 0, 0) L (ab_R a :: st) σ Q ↔ (ab_sh σ a).1 = 14 ∧ ab_Run X 263 91 (2, 0, 0) L (ab_R (ab_rd σ a 3) :: st) σ Q := gF_13_373 ko_X13_thumbs kc_X13_thumbs dX13_thumbs_88
theorem rX13_thumbs_91 : ab_Run X 263 91 (2, 0, 0) L (ab_R a :: st) σ Q ↔ (ab_sh σ a).1 = 13 ∧ ab_Run X 263 94 (2, 0, 0) L (ab_R (ab_rd σ a 27) :: st) σ Q := gF_13_316 ko_X13_thumbs kc_X13_thumbs dX13_thumbs_91
theorem rX13_thumbs_94 : ab_Run X 263 94 (2, 0, 0) [l0, ab_I z, l2, l3, l4, l5, l6, l7, l8] st σ Q ↔ ab_Run X 263 95 (2, 0, 0) [l0, ab_I z, l2, l3, l4, l5, l6, l7, l8] (ab_I z :: st) σ Q := ab_r_iload_n rfl kc_X13_thumbs dX13_thumbs_94
theorem rX13_thumbs_95 : ab_Run X 263 95 (2, 0, 0) L (ab_I i :: ab_R a :: st) σ Q ↔ ((ab_sh σ a).1 = 21 ∧ 0 ≤ i ∧ i < (ab_sh σ a).2) ∧ ab_Run X 263 96 (2, 0, 0) L (ab_I (ab_rd σ a i) :: st) σ Q := ab_r_iaload (by decide) kc_X13_thumbs dX13_thumbs_95
theorem rX13_thumbs_96 : ab_Run X 263 96 (2, 0, 0) L (ab_I b :: ab_I a :: st) σ Q ↔ ab_Run X 263 97 (2, 0, 0) L (ab_I (ab_w32 (a - b)) :: st) σ Q := ab_r_isub kc_X13_thumbs dX13_thumbs_96
theorem rX13_thumbs_97 : ab_Run X 263 97 (2, 0, 0) L (ab_I a :: st) σ Q ↔ ab_Run X 263 98 (2, 0, 0) L (ab_J a :: st) σ Q := ab_r_i2l kc_X13_thumbs dX13_thumbs_97
theorem rX13_thumbs_98 : ab_Run X 263 98 (2, 0, 0) [ab_R z, l1, l2, l3, l4, l5, l6, l7, l8] st σ Q ↔ z ≠ 0 ∧ ab_Run X 263 99 (2, 0, 0) [ab_R z, l1, l2, l3, l4, l5, l6, l7, l8] (ab_R z :: st) σ Q := ab_r_aload_n rfl kc_X13_thumbs dX13_thumbs_98
theorem rX13_thumbs_99 : ab_Run X 263 99 (2, 0, 0) [ab_R z, l1, l2, l3, l4, l5, l6, l7, l8] st σ Q ↔ z ≠ 0 ∧ ab_Run X 263 100 (2, 0, 0) [ab_R z, l1, l2, l3, l4, l5, l6, l7, l8] (ab_R z :: st) σ Q := ab_r_aload_n rfl kc_X13_thumbs dX13_thumbs_99
theorem rX13_thumbs_100 : ab_Run X 263 100 (2, 0, 0) L (ab_R a :: st) σ Q ↔ (ab_sh σ a).1 = 14 ∧ ab_Run X 263 103 (2, 0, 0) L (ab_R (ab_rd σ a 3) :: st) σ Q := gF_13_373 ko_X13_thumbs kc_X13_thumbs dX13_thumbs_100
theorem rX13_thumbs_103 : ab_Run X 263 103 (2, 0, 0) L (ab_R a :: st) σ Q ↔ (ab_sh σ a).1 = 13 ∧ ab_Run X 263 106 (2, 0, 0) L (ab_R (ab_rd σ a 29) :: st) σ Q := gF_13_363 ko_X13_thumbs kc_X13_thumbs dX13_thumbs_103
theorem rX13_thumbs_106 : ab_Run X 263 106 (2, 0, 0) [l0, ab_I z, l2, l3, l4, l5, l6, l7, l8] st σ Q ↔ ab_Run X 263 107 (2, 0, 0) [l0, ab_I z, l2, l3, l4, l5, l6, l7, l8] (ab_I z :: st) σ Q := ab_r_iload_n rfl kc_X13_thumbs dX13_thumbs_106
theorem rX13_thumbs_107 : ab_Run X 263 107 (2, 0, 0) L (ab_I i :: ab_R a :: st) σ Q ↔ ((ab_sh σ a).1 = 21 ∧ 0 ≤ i ∧ i < (ab_sh σ a).2) ∧ ab_Run X 263 108 (2, 0, 0) L (ab_I (ab_rd σ a i) :: st) σ Q := ab_r_iaload (by decide) kc_X13_thumbs dX13_thumbs_107
theorem rX13_thumbs_108 : ab_Run X 263 108 (2, 0, 0) [l0, l1, l2, ab_I z, l4, l5, l6, l7, l8] st σ Q ↔ ab_Run X 263 109 (2, 0, 0) [l0, l1, l2, ab_I z, l4, l5, l6, l7, l8] (ab_I z :: st) σ Q := ab_r_iload_n rfl kc_X13_thumbs dX13_thumbs_108
theorem rX13_thumbs_109 : ab_Run X 263 109 (2, 0, 0) [l0, l1, l2, l3, ab_I z, l5, l6, l7, l8] st σ Q ↔ ab_Run X 263 111 (2, 0, 0) [l0, l1, l2, l3, ab_I z, l5, l6, l7, l8] (ab_I z :: st) σ Q := ab_r_iload rfl kc_X13_thumbs dX13_thumbs_109
theorem rX13_thumbs_111 : ab_Run X 263 111 (2, 0, 0) L (ab_I x3 :: ab_I x2 :: ab_I x1 :: ab_R a :: st) σ Q ↔ ((ab_sh σ a).1 = 14 ∧ ab_cats st ≤ 8) ∧ ab_Do X 262 [ab_R a, ab_I x1, ab_I x2, ab_I x3] σ (fun r σ' => ab_Run X 263 114 (2, 0, 0) L (ab_psh r st) σ' Q) := ab_r_callV (w := [ab_I x3, ab_I x2, ab_I x1]) (as := [ab_I x1, ab_I x2, ab_I x3]) (b1 := (0, 0, 0)) 0 (Or.inl rfl) (by decide) ko_X13_thumbs qM_13_545 (by decide) rfl rfl rfl rfl rfl (by decide) (Nat.le_of_ble_eq_true rfl) kc_X13_thumbs dX13_thumbs_111
theorem rX13_thumbs_114 : ab_Run X 263 114 (2, 0, 0) L (ab_J b :: ab_J a :: st) σ Q ↔ ab_Run X 263 115 (2, 0, 0) L (ab_J (ab_w64 (a * b)) :: st) σ Q := ab_r_lmul kc_X13_thumbs dX13_thumbs_114
theorem rX13_thumbs_115 : ab_Run X 263 115 (2, 0, 0) [l0, l1, l2, l3, l4, l5, l6, l7, l8] (ab_J z :: st) σ Q ↔ (!ab_isJ l6) = true ∧ ab_Run X 263 117 (2, 0, 0) [l0, l1, l2, l3, l4, l5, l6, ab_J z, ab_R 0] st σ Q := ab_r_lstore (Nat.le_of_ble_eq_true rfl) kc_X13_thumbs dX13_thumbs_115
theorem rX13_thumbs_117 : ab_Run X 263 117 (2, 0, 0) [ab_R z, l1, l2, l3, l4, l5, l6, l7, l8] st σ Q ↔ z ≠ 0 ∧ ab_Run X 263 118 (2, 0, 0) [ab_R z, l1, l2, l3, l4, l5, l6, l7, l8] (ab_R z :: st) σ Q := ab_r_aload_n rfl kc_X13_thumbs dX13_thumbs_117
theorem rX13_thumbs_118 : ab_Run X 263 118 (2, 0, 0) [l0, l1, l2, l3, l4, ab_J z, l6, l7, l8] st σ Q ↔ ab_Run X 263 120 (2, 0, 0) [l0, l1, l2, l3, l4, ab_J z, l6, l7, l8] (ab_J z :: st) σ Q := ab_r_lload rfl kc_X13_thumbs dX13_thumbs_118
theorem rX13_thumbs_120 : ab_Run X 263 120 (2, 0, 0) [l0, l1, l2, l3, l4, ab_J z, l6, l7, l8] st σ Q ↔ ab_Run X 263 122 (2, 0, 0) [l0, l1, l2, l3, l4, ab_J z, l6, l7, l8] (ab_J z :: st) σ Q := ab_r_lload rfl kc_X13_thumbs dX13_thumbs_120
theorem rX13_thumbs_122 : ab_Run X 263 122 (2, 0, 0) [l0, l1, l2, l3, l4, l5, l6, ab_J z, l8] st σ Q ↔ ab_Run X 263 124 (2, 0, 0) [l0, l1, l2, l3, l4, l5, l6, ab_J z, l8] (ab_J z :: st) σ Q := ab_r_lload rfl kc_X13_thumbs dX13_thumbs_122
theorem rX13_thumbs_124 : ab_Run X 263 124 (2, 0, 0) L (ab_J b :: ab_J a :: st) σ Q ↔ ab_Run X 263 125 (2, 0, 0) L (ab_J (ab_w64 (a + b)) :: st) σ Q := ab_r_ladd kc_X13_thumbs dX13_thumbs_124
theorem rX13_thumbs_125 : ab_Run X 263 125 (2, 0, 0) [l0, l1, ab_I z, l3, l4, l5, l6, l7, l8] st σ Q ↔ ab_Run X 263 126 (2, 0, 0) [l0, l1, ab_I z, l3, l4, l5, l6, l7, l8] (ab_I z :: st) σ Q := ab_r_iload_n rfl kc_X13_thumbs dX13_thumbs_125
theorem rX13_thumbs_126 : ab_Run X 263 126 (2, 0, 0) L (ab_I x3 :: ab_J x2 :: ab_J x1 :: ab_R a :: st) σ Q ↔ ((ab_sh σ a).1 = 14 ∧ ab_cats st ≤ 8) ∧ ab_Do X 166 [ab_R a, ab_J x1, ab_J x2, ab_I x3] σ (fun r σ' => ab_Run X 263 129 (2, 0, 0) L (ab_psh r st) σ' Q) := ab_r_callV (w := [ab_I x3, ab_J x2, ab_J x1]) (as := [ab_J x1, ab_J x2, ab_I x3]) (b1 := (1, 0, 0)) 0 (Or.inl rfl) (by decide) ko_X13_thumbs qM_13_466 (by decide) rfl rfl rfl rfl rfl (by decide) (Nat.le_of_ble_eq_true rfl) kc_X13_thumbs dX13_thumbs_126
theorem rX13_thumbs_129 : ab_Run X 263 129 (2, 0, 0) L [ab_J v] σ Q ↔ Q (some (ab_J v)) σ := ab_r_lreturn rfl kc_X13_thumbs dX13_thumbs_129
theorem kc_X13_worthOf : ab_code 264 = cX13_worthOf := rfl
theorem ko_X13_worthOf : ab_ow 264 = 13 := rfl
theorem rX13_worthOf_0 : ab_Run X 264 0 (0, 0, 0) [ab_R z, l1] st σ Q ↔ z ≠ 0 ∧ ab_Run X 264 1 (0, 0, 0) [ab_R z, l1] (ab_R z :: st) σ Q := ab_r_aload_n rfl kc_X13_worthOf dX13_worthOf_0
theorem rX13_worthOf_1 : ab_Run X 264 1 (0, 0, 0) L (ab_R a :: st) σ Q ↔ (ab_sh σ a).1 = 14 ∧ ab_Run X 264 4 (0, 0, 0) L (ab_R (ab_rd σ a 3) :: st) σ Q := gF_13_373 ko_X13_worthOf kc_X13_worthOf dX13_worthOf_1
theorem rX13_worthOf_4 : ab_Run X 264 4 (0, 0, 0) L (ab_R a :: st) σ Q ↔ (ab_sh σ a).1 = 13 ∧ ab_Run X 264 7 (0, 0, 0) L (ab_R (ab_rd σ a 19) :: st) σ Q := gF_13_314 ko_X13_worthOf kc_X13_worthOf dX13_worthOf_4
theorem rX13_worthOf_7 : ab_Run X 264 7 (0, 0, 0) [l0, ab_I z] st σ Q ↔ ab_Run X 264 8 (0, 0, 0) [l0, ab_I z] (ab_I z :: st) σ Q := ab_r_iload_n rfl kc_X13_worthOf dX13_worthOf_7
theorem rX13_worthOf_8 : ab_Run X 264 8 (0, 0, 0) L (ab_I i :: ab_R a :: st) σ Q ↔ ((ab_sh σ a).1 = 21 ∧ 0 ≤ i ∧ i < (ab_sh σ a).2) ∧ ab_Run X 264 9 (0, 0, 0) L (ab_I (ab_rd σ a i) :: st) σ Q := ab_r_iaload (by decide) kc_X13_worthOf dX13_worthOf_8
theorem rX13_worthOf_9 : ab_Run X 264 9 (0, 0, 0) [ab_R z, l1] st σ Q ↔ z ≠ 0 ∧ ab_Run X 264 10 (0, 0, 0) [ab_R z, l1] (ab_R z :: st) σ Q := ab_r_aload_n rfl kc_X13_worthOf dX13_worthOf_9
theorem rX13_worthOf_10 : ab_Run X 264 10 (0, 0, 0) L (ab_R a :: st) σ Q ↔ (ab_sh σ a).1 = 14 ∧ ab_Run X 264 13 (0, 0, 0) L (ab_R (ab_rd σ a 3) :: st) σ Q := gF_13_373 ko_X13_worthOf kc_X13_worthOf dX13_worthOf_10
theorem rX13_worthOf_13 : ab_Run X 264 13 (0, 0, 0) L (ab_R a :: st) σ Q ↔ (ab_sh σ a).1 = 13 ∧ ab_Run X 264 16 (0, 0, 0) L (ab_R (ab_rd σ a 21) :: st) σ Q := gF_13_331 ko_X13_worthOf kc_X13_worthOf dX13_worthOf_13
theorem rX13_worthOf_16 : ab_Run X 264 16 (0, 0, 0) [l0, ab_I z] st σ Q ↔ ab_Run X 264 17 (0, 0, 0) [l0, ab_I z] (ab_I z :: st) σ Q := ab_r_iload_n rfl kc_X13_worthOf dX13_worthOf_16
theorem rX13_worthOf_17 : ab_Run X 264 17 (0, 0, 0) L (ab_I i :: ab_R a :: st) σ Q ↔ ((ab_sh σ a).1 = 21 ∧ 0 ≤ i ∧ i < (ab_sh σ a).2) ∧ ab_Run X 264 18 (0, 0, 0) L (ab_I (ab_rd σ a i) :: st) σ Q := ab_r_iaload (by decide) kc_X13_worthOf dX13_worthOf_17
theorem rX13_worthOf_18 : ab_Run X 264 18 (0, 0, 0) L (ab_I b :: ab_I a :: st) σ Q ↔ ab_Run X 264 19 (0, 0, 0) L (ab_I (ab_w32 (a + b)) :: st) σ Q := ab_r_iadd kc_X13_worthOf dX13_worthOf_18
theorem rX13_worthOf_19 : ab_Run X 264 19 (0, 0, 0) L [ab_I v] σ Q ↔ Q (some (ab_I v)) σ := ab_r_ireturnI rfl kc_X13_worthOf dX13_worthOf_19
theorem kc_X13_let : ab_code 265 = cX13_let := rfl
theorem ko_X13_let : ab_ow 265 = 13 := rfl
theorem rX13_let_0 : ab_Run X 265 0 (2, 0, 0) [ab_R z, l1, l2, l3, l4] st σ Q ↔ z ≠ 0 ∧ ab_Run X 265 1 (2, 0, 0) [ab_R z, l1, l2, l3, l4] (ab_R z :: st) σ Q := ab_r_aload_n rfl kc_X13_let dX13_let_0
theorem rX13_let_1 : ab_Run X 265 1 (2, 0, 0) L st σ Q ↔ ab_Run X 265 2 (2, 0, 0) L (ab_I 0 :: st) σ Q := ab_r_iconst (by decide) kc_X13_let dX13_let_1
theorem rX13_let_2 : ab_Run X 265 2 (2, 0, 0) L (ab_I z :: ab_R a :: st) σ Q ↔ (ab_sh σ a).1 = 14 ∧ ab_Run X 265 5 (2, 0, 0) L st (ab_wr σ a 0 z) Q := sF_13_53 ko_X13_let kc_X13_let dX13_let_2
theorem rX13_let_5 : ab_Run X 265 5 (2, 0, 0) [ab_R z, l1, l2, l3, l4] st σ Q ↔ z ≠ 0 ∧ ab_Run X 265 6 (2, 0, 0) [ab_R z, l1, l2, l3, l4] (ab_R z :: st) σ Q := ab_r_aload_n rfl kc_X13_let dX13_let_5
theorem rX13_let_6 : ab_Run X 265 6 (2, 0, 0) [l0, ab_I z, l2, l3, l4] st σ Q ↔ ab_Run X 265 7 (2, 0, 0) [l0, ab_I z, l2, l3, l4] (ab_I z :: st) σ Q := ab_r_iload_n rfl kc_X13_let dX13_let_6
theorem rX13_let_7 : ab_Run X 265 7 (2, 0, 0) [l0, l1, ab_I z, l3, l4] st σ Q ↔ ab_Run X 265 8 (2, 0, 0) [l0, l1, ab_I z, l3, l4] (ab_I z :: st) σ Q := ab_r_iload_n rfl kc_X13_let dX13_let_7
theorem rX13_let_8 : ab_Run X 265 8 (2, 0, 0) L (ab_I x2 :: ab_I x1 :: ab_R a :: st) σ Q ↔ ((ab_sh σ a).1 = 14 ∧ ab_cats st ≤ 8) ∧ ab_Do X 214 [ab_R a, ab_I x1, ab_I x2] σ (fun r σ' => ab_Run X 265 11 (2, 0, 0) L (ab_psh r st) σ' Q) := ab_r_callV (w := [ab_I x2, ab_I x1]) (as := [ab_I x1, ab_I x2]) (b1 := (1, 0, 0)) 0 (Or.inl rfl) (by decide) ko_X13_let qM_13_455 (by decide) rfl rfl rfl rfl rfl (by decide) (Nat.le_of_ble_eq_true rfl) kc_X13_let dX13_let_8
theorem rX13_let_11 : ab_Run X 265 11 (2, 0, 0) L (ab_I a :: st) σ Q ↔ (¬ a = 0 → ab_Run X 265 20 (2, 0, 0) L st σ Q) ∧ (¬ (¬ a = 0) → ab_Run X 265 14 (2, 0, 0) L st σ Q) := ab_r_if_ne rfl kc_X13_let dX13_let_11
theorem rX13_let_14 : ab_Run X 265 14 (2, 0, 0) [ab_R z, l1, l2, l3, l4] st σ Q ↔ z ≠ 0 ∧ ab_Run X 265 15 (2, 0, 0) [ab_R z, l1, l2, l3, l4] (ab_R z :: st) σ Q := ab_r_aload_n rfl kc_X13_let dX13_let_14
theorem rX13_let_15 : ab_Run X 265 15 (2, 0, 0) L st σ Q ↔ ab_Run X 265 16 (2, 0, 0) L (ab_I 1 :: st) σ Q := ab_r_iconst (by decide) kc_X13_let dX13_let_15
theorem rX13_let_16 : ab_Run X 265 16 (2, 0, 0) L (ab_I x1 :: ab_R a :: st) σ Q ↔ ((ab_sh σ a).1 = 14 ∧ ab_cats st ≤ 8) ∧ ab_Do X 159 [ab_R a, ab_I x1] σ (fun r σ' => ab_Run X 265 19 (2, 0, 0) L (ab_psh r st) σ' Q) := ab_r_callV (w := [ab_I x1]) (as := [ab_I x1]) (b1 := (0, 0, 0)) 0 (Or.inl rfl) (by decide) ko_X13_let qM_13_59 (by decide) rfl rfl rfl rfl rfl (by decide) (Nat.le_of_ble_eq_true rfl) kc_X13_let dX13_let_16
theorem rX13_let_19 : ab_Run X 265 19 (2, 0, 0) L [ab_I v] σ Q ↔ Q (some (ab_I v)) σ := ab_r_ireturnI rfl kc_X13_let dX13_let_19
theorem rX13_let_20 : ab_Run X 265 20 (2, 0, 0) [l0, ab_I z, l2, l3, l4] st σ Q ↔ ab_Run X 265 21 (2, 0, 0) [l0, ab_I z, l2, l3, l4] (ab_I z :: st) σ Q := ab_r_iload_n rfl kc_X13_let dX13_let_20
theorem rX13_let_21 : ab_Run X 265 21 (2, 0, 0) [l0, l1, ab_I z, l3, l4] st σ Q ↔ ab_Run X 265 22 (2, 0, 0) [l0, l1, ab_I z, l3, l4] (ab_I z :: st) σ Q := ab_r_iload_n rfl kc_X13_let dX13_let_21
theorem rX13_let_22 : ab_Run X 265 22 (2, 0, 0) L (ab_I b :: ab_I a :: st) σ Q ↔ (b ≤ a → ab_Run X 265 29 (2, 0, 0) L st σ Q) ∧ (¬ (b ≤ a) → ab_Run X 265 25 (2, 0, 0) L st σ Q) := ab_r_icmp_ge rfl kc_X13_let dX13_let_22
theorem rX13_let_25 : ab_Run X 265 25 (2, 0, 0) [l0, ab_I z, l2, l3, l4] st σ Q ↔ ab_Run X 265 26 (2, 0, 0) [l0, ab_I z, l2, l3, l4] (ab_I z :: st) σ Q := ab_r_iload_n rfl kc_X13_let dX13_let_25
theorem rX13_let_26 : ab_Run X 265 26 (2, 0, 0) L st σ Q ↔ ab_Run X 265 30 (2, 0, 0) L st σ Q := ab_r_goto rfl kc_X13_let dX13_let_26
theorem rX13_let_29 : ab_Run X 265 29 (2, 0, 0) [l0, l1, ab_I z, l3, l4] st σ Q ↔ ab_Run X 265 30 (2, 0, 0) [l0, l1, ab_I z, l3, l4] (ab_I z :: st) σ Q := ab_r_iload_n rfl kc_X13_let dX13_let_29
theorem rX13_let_30 : ab_Run X 265 30 (2, 0, 0) [l0, l1, l2, l3, l4] (ab_I z :: st) σ Q ↔ (!ab_isJ l2) = true ∧ ab_Run X 265 31 (2, 0, 0) [l0, l1, l2, ab_I z, l4] st σ Q := ab_r_istore_n (Nat.le_of_ble_eq_true rfl) kc_X13_let dX13_let_30
theorem rX13_let_31 : ab_Run X 265 31 (2, 0, 0) [l0, ab_I z, l2, l3, l4] st σ Q ↔ ab_Run X 265 32 (2, 0, 0) [l0, ab_I z, l2, l3, l4] (ab_I z :: st) σ Q := ab_r_iload_n rfl kc_X13_let dX13_let_31
theorem rX13_let_32 : ab_Run X 265 32 (2, 0, 0) [l0, l1, ab_I z, l3, l4] st σ Q ↔ ab_Run X 265 33 (2, 0, 0) [l0, l1, ab_I z, l3, l4] (ab_I z :: st) σ Q := ab_r_iload_n rfl kc_X13_let dX13_let_32
theorem rX13_let_33 : ab_Run X 265 33 (2, 0, 0) L (ab_I b :: ab_I a :: st) σ Q ↔ (b ≤ a → ab_Run X 265 40 (2, 0, 0) L st σ Q) ∧ (¬ (b ≤ a) → ab_Run X 265 36 (2, 0, 0) L st σ Q) := ab_r_icmp_ge rfl kc_X13_let dX13_let_33
theorem rX13_let_36 : ab_Run X 265 36 (2, 0, 0) [l0, l1, ab_I z, l3, l4] st σ Q ↔ ab_Run X 265 37 (2, 0, 0) [l0, l1, ab_I z, l3, l4] (ab_I z :: st) σ Q := ab_r_iload_n rfl kc_X13_let dX13_let_36
theorem rX13_let_37 : ab_Run X 265 37 (2, 0, 0) L st σ Q ↔ ab_Run X 265 41 (2, 0, 0) L st σ Q := ab_r_goto rfl kc_X13_let dX13_let_37
theorem rX13_let_40 : ab_Run X 265 40 (2, 0, 0) [l0, ab_I z, l2, l3, l4] st σ Q ↔ ab_Run X 265 41 (2, 0, 0) [l0, ab_I z, l2, l3, l4] (ab_I z :: st) σ Q := ab_r_iload_n rfl kc_X13_let dX13_let_40
theorem rX13_let_41 : ab_Run X 265 41 (2, 0, 0) [l0, l1, l2, l3, l4] (ab_I z :: st) σ Q ↔ (!ab_isJ l3) = true ∧ ab_Run X 265 43 (2, 0, 0) [l0, l1, l2, l3, ab_I z] st σ Q := ab_r_istore (Nat.le_of_ble_eq_true rfl) kc_X13_let dX13_let_41
theorem rX13_let_43 : ab_Run X 265 43 (2, 0, 0) [ab_R z, l1, l2, l3, l4] st σ Q ↔ z ≠ 0 ∧ ab_Run X 265 44 (2, 0, 0) [ab_R z, l1, l2, l3, l4] (ab_R z :: st) σ Q := ab_r_aload_n rfl kc_X13_let dX13_let_43
theorem rX13_let_44 : ab_Run X 265 44 (2, 0, 0) [ab_R z, l1, l2, l3, l4] st σ Q ↔ z ≠ 0 ∧ ab_Run X 265 45 (2, 0, 0) [ab_R z, l1, l2, l3, l4] (ab_R z :: st) σ Q := ab_r_aload_n rfl kc_X13_let dX13_let_44
theorem rX13_let_45 : ab_Run X 265 45 (2, 0, 0) [l0, l1, l2, l3, ab_I z] st σ Q ↔ ab_Run X 265 47 (2, 0, 0) [l0, l1, l2, l3, ab_I z] (ab_I z :: st) σ Q := ab_r_iload rfl kc_X13_let dX13_let_45
theorem rX13_let_47 : ab_Run X 265 47 (2, 0, 0) L (ab_I x1 :: ab_R a :: st) σ Q ↔ ((ab_sh σ a).1 = 14 ∧ ab_cats st ≤ 8) ∧ ab_Do X 264 [ab_R a, ab_I x1] σ (fun r σ' => ab_Run X 265 50 (2, 0, 0) L (ab_psh r st) σ' Q) := ab_r_callV (w := [ab_I x1]) (as := [ab_I x1]) (b1 := (0, 0, 0)) 0 (Or.inl rfl) (by decide) ko_X13_let qM_13_549 (by decide) rfl rfl rfl rfl rfl (by decide) (Nat.le_of_ble_eq_true rfl) kc_X13_let dX13_let_47
theorem rX13_let_50 : ab_Run X 265 50 (2, 0, 0) [ab_R z, l1, l2, l3, l4] st σ Q ↔ z ≠ 0 ∧ ab_Run X 265 51 (2, 0, 0) [ab_R z, l1, l2, l3, l4] (ab_R z :: st) σ Q := ab_r_aload_n rfl kc_X13_let dX13_let_50
theorem rX13_let_51 : ab_Run X 265 51 (2, 0, 0) [l0, l1, l2, ab_I z, l4] st σ Q ↔ ab_Run X 265 52 (2, 0, 0) [l0, l1, l2, ab_I z, l4] (ab_I z :: st) σ Q := ab_r_iload_n rfl kc_X13_let dX13_let_51
theorem rX13_let_52 : ab_Run X 265 52 (2, 0, 0) L (ab_I x1 :: ab_R a :: st) σ Q ↔ ((ab_sh σ a).1 = 14 ∧ ab_cats st ≤ 8) ∧ ab_Do X 264 [ab_R a, ab_I x1] σ (fun r σ' => ab_Run X 265 55 (2, 0, 0) L (ab_psh r st) σ' Q) := ab_r_callV (w := [ab_I x1]) (as := [ab_I x1]) (b1 := (0, 0, 0)) 0 (Or.inl rfl) (by decide) ko_X13_let qM_13_549 (by decide) rfl rfl rfl rfl rfl (by decide) (Nat.le_of_ble_eq_true rfl) kc_X13_let dX13_let_52
theorem rX13_let_55 : ab_Run X 265 55 (2, 0, 0) L (ab_I b :: ab_I a :: st) σ Q ↔ (a ≤ b → ab_Run X 265 63 (2, 0, 0) L st σ Q) ∧ (¬ (a ≤ b) → ab_Run X 265 58 (2, 0, 0) L st σ Q) := ab_r_icmp_le rfl kc_X13_let dX13_let_55
theorem rX13_let_58 : ab_Run X 265 58 (2, 0, 0) [l0, l1, l2, l3, ab_I z] st σ Q ↔ ab_Run X 265 60 (2, 0, 0) [l0, l1, l2, l3, ab_I z] (ab_I z :: st) σ Q := ab_r_iload rfl kc_X13_let dX13_let_58
theorem rX13_let_60 : ab_Run X 265 60 (2, 0, 0) L st σ Q ↔ ab_Run X 265 64 (2, 0, 0) L st σ Q := ab_r_goto rfl kc_X13_let dX13_let_60
theorem rX13_let_63 : ab_Run X 265 63 (2, 0, 0) [l0, l1, l2, ab_I z, l4] st σ Q ↔ ab_Run X 265 64 (2, 0, 0) [l0, l1, l2, ab_I z, l4] (ab_I z :: st) σ Q := ab_r_iload_n rfl kc_X13_let dX13_let_63
theorem rX13_let_64 : ab_Run X 265 64 (2, 0, 0) L (ab_I x1 :: ab_R a :: st) σ Q ↔ ((ab_sh σ a).1 = 14 ∧ ab_cats st ≤ 8) ∧ ab_Do X 161 [ab_R a, ab_I x1] σ (fun r σ' => ab_Run X 265 67 (2, 0, 0) L (ab_psh r st) σ' Q) := ab_r_callV (w := [ab_I x1]) (as := [ab_I x1]) (b1 := (0, 0, 0)) 0 (Or.inl rfl) (by decide) ko_X13_let qM_13_63 (by decide) rfl rfl rfl rfl rfl (by decide) (Nat.le_of_ble_eq_true rfl) kc_X13_let dX13_let_64
theorem rX13_let_67 : ab_Run X 265 67 (2, 0, 0) L [ab_I v] σ Q ↔ Q (some (ab_I v)) σ := ab_r_ireturnI rfl kc_X13_let dX13_let_67
theorem kc_X13_worth : ab_code 266 = cX13_worth := rfl
theorem ko_X13_worth : ab_ow 266 = 13 := rfl
theorem rX13_worth_0 : ab_Run X 266 0 (1, 0, 0) [ab_R z, l1] st σ Q ↔ z ≠ 0 ∧ ab_Run X 266 1 (1, 0, 0) [ab_R z, l1] (ab_R z :: st) σ Q := ab_r_aload_n rfl kc_X13_worth dX13_worth_0
theorem rX13_worth_1 : ab_Run X 266 1 (1, 0, 0) L st σ Q ↔ ab_Run X 266 2 (1, 0, 0) L (ab_I 0 :: st) σ Q := ab_r_iconst (by decide) kc_X13_worth dX13_worth_1
theorem rX13_worth_2 : ab_Run X 266 2 (1, 0, 0) L (ab_I z :: ab_R a :: st) σ Q ↔ (ab_sh σ a).1 = 14 ∧ ab_Run X 266 5 (1, 0, 0) L st (ab_wr σ a 0 z) Q := sF_13_53 ko_X13_worth kc_X13_worth dX13_worth_2
theorem rX13_worth_5 : ab_Run X 266 5 (1, 0, 0) [ab_R z, l1] st σ Q ↔ z ≠ 0 ∧ ab_Run X 266 6 (1, 0, 0) [ab_R z, l1] (ab_R z :: st) σ Q := ab_r_aload_n rfl kc_X13_worth dX13_worth_5
theorem rX13_worth_6 : ab_Run X 266 6 (1, 0, 0) [l0, ab_I z] st σ Q ↔ ab_Run X 266 7 (1, 0, 0) [l0, ab_I z] (ab_I z :: st) σ Q := ab_r_iload_n rfl kc_X13_worth dX13_worth_6
theorem rX13_worth_7 : ab_Run X 266 7 (1, 0, 0) L (ab_I x1 :: ab_R a :: st) σ Q ↔ ((ab_sh σ a).1 = 14 ∧ ab_cats st ≤ 8) ∧ ab_Do X 213 [ab_R a, ab_I x1] σ (fun r σ' => ab_Run X 266 10 (1, 0, 0) L (ab_psh r st) σ' Q) := ab_r_callV (w := [ab_I x1]) (as := [ab_I x1]) (b1 := (0, 0, 0)) 0 (Or.inl rfl) (by decide) ko_X13_worth qM_13_441 (by decide) rfl rfl rfl rfl rfl (by decide) (Nat.le_of_ble_eq_true rfl) kc_X13_worth dX13_worth_7
theorem rX13_worth_10 : ab_Run X 266 10 (1, 0, 0) L (ab_I a :: st) σ Q ↔ (a = 0 → ab_Run X 266 25 (1, 0, 0) L st σ Q) ∧ (¬ (a = 0) → ab_Run X 266 13 (1, 0, 0) L st σ Q) := ab_r_if_eq rfl kc_X13_worth dX13_worth_10
theorem rX13_worth_13 : ab_Run X 266 13 (1, 0, 0) [ab_R z, l1] st σ Q ↔ z ≠ 0 ∧ ab_Run X 266 14 (1, 0, 0) [ab_R z, l1] (ab_R z :: st) σ Q := ab_r_aload_n rfl kc_X13_worth dX13_worth_13
theorem rX13_worth_14 : ab_Run X 266 14 (1, 0, 0) [ab_R z, l1] st σ Q ↔ z ≠ 0 ∧ ab_Run X 266 15 (1, 0, 0) [ab_R z, l1] (ab_R z :: st) σ Q := ab_r_aload_n rfl kc_X13_worth dX13_worth_14
theorem rX13_worth_15 : ab_Run X 266 15 (1, 0, 0) [l0, ab_I z] st σ Q ↔ ab_Run X 266 16 (1, 0, 0) [l0, ab_I z] (ab_I z :: st) σ Q := ab_r_iload_n rfl kc_X13_worth dX13_worth_15
theorem rX13_worth_16 : ab_Run X 266 16 (1, 0, 0) L (ab_I x1 :: ab_R a :: st) σ Q ↔ ((ab_sh σ a).1 = 14 ∧ ab_cats st ≤ 8) ∧ ab_Do X 264 [ab_R a, ab_I x1] σ (fun r σ' => ab_Run X 266 19 (1, 0, 0) L (ab_psh r st) σ' Q) := ab_r_callV (w := [ab_I x1]) (as := [ab_I x1]) (b1 := (0, 0, 0)) 0 (Or.inl rfl) (by decide) ko_X13_worth qM_13_549 (by decide) rfl rfl rfl rfl rfl (by decide) (Nat.le_of_ble_eq_true rfl) kc_X13_worth dX13_worth_16
theorem rX13_worth_19 : ab_Run X 266 19 (1, 0, 0) L (ab_I x1 :: ab_R a :: st) σ Q ↔ ((ab_sh σ a).1 = 14 ∧ ab_cats st ≤ 8) ∧ ab_Do X 161 [ab_R a, ab_I x1] σ (fun r σ' => ab_Run X 266 22 (1, 0, 0) L (ab_psh r st) σ' Q) := ab_r_callV (w := [ab_I x1]) (as := [ab_I x1]) (b1 := (0, 0, 0)) 0 (Or.inl rfl) (by decide) ko_X13_worth qM_13_63 (by decide) rfl rfl rfl rfl rfl (by decide) (Nat.le_of_ble_eq_true rfl) kc_X13_worth dX13_worth_19
theorem rX13_worth_22 : ab_Run X 266 22 (1, 0, 0) L st σ Q ↔ ab_Run X 266 30 (1, 0, 0) L st σ Q := ab_r_goto rfl kc_X13_worth dX13_worth_22
theorem rX13_worth_25 : ab_Run X 266 25 (1, 0, 0) [ab_R z, l1] st σ Q ↔ z ≠ 0 ∧ ab_Run X 266 26 (1, 0, 0) [ab_R z, l1] (ab_R z :: st) σ Q := ab_r_aload_n rfl kc_X13_worth dX13_worth_25
theorem rX13_worth_26 : ab_Run X 266 26 (1, 0, 0) L st σ Q ↔ ab_Run X 266 27 (1, 0, 0) L (ab_I 1 :: st) σ Q := ab_r_iconst (by decide) kc_X13_worth dX13_worth_26
theorem rX13_worth_27 : ab_Run X 266 27 (1, 0, 0) L (ab_I x1 :: ab_R a :: st) σ Q ↔ ((ab_sh σ a).1 = 14 ∧ ab_cats st ≤ 8) ∧ ab_Do X 159 [ab_R a, ab_I x1] σ (fun r σ' => ab_Run X 266 30 (1, 0, 0) L (ab_psh r st) σ' Q) := ab_r_callV (w := [ab_I x1]) (as := [ab_I x1]) (b1 := (0, 0, 0)) 0 (Or.inl rfl) (by decide) ko_X13_worth qM_13_59 (by decide) rfl rfl rfl rfl rfl (by decide) (Nat.le_of_ble_eq_true rfl) kc_X13_worth dX13_worth_27
theorem rX13_worth_30 : ab_Run X 266 30 (1, 0, 0) L [ab_I v] σ Q ↔ Q (some (ab_I v)) σ := ab_r_ireturnI rfl kc_X13_worth dX13_worth_30
theorem kc_X13_knobs : ab_code 267 = cX13_knobs := rfl
theorem ko_X13_knobs : ab_ow 267 = 13 := rfl
theorem rX13_knobs_0 : ab_Run X 267 0 (5, 0, 0) L st σ Q ↔ ab_Run X 267 1 (5, 0, 0) L (ab_I 0 :: st) σ Q := ab_r_iconst (by decide) kc_X13_knobs dX13_knobs_0
theorem rX13_knobs_1 : ab_Run X 267 1 (5, 0, 0) [l0, l1, l2, l3, l4, l5, l6] (ab_I z :: st) σ Q ↔ (!ab_isJ l1) = true ∧ ab_Run X 267 2 (5, 0, 0) [l0, l1, ab_I z, l3, l4, l5, l6] st σ Q := ab_r_istore_n (Nat.le_of_ble_eq_true rfl) kc_X13_knobs dX13_knobs_1
theorem rX13_knobs_2 : ab_Run X 267 2 (5, 0, 0) [ab_R z, l1, l2, l3, l4, l5, l6] st σ Q ↔ z ≠ 0 ∧ ab_Run X 267 3 (5, 0, 0) [ab_R z, l1, l2, l3, l4, l5, l6] (ab_R z :: st) σ Q := ab_r_aload_n rfl kc_X13_knobs dX13_knobs_2
theorem rX13_knobs_3 : ab_Run X 267 3 (5, 0, 0) L st σ Q ↔ ab_Run X 267 4 (5, 0, 0) L (ab_I 0 :: st) σ Q := ab_r_iconst (by decide) kc_X13_knobs dX13_knobs_3
theorem rX13_knobs_4 : ab_Run X 267 4 (5, 0, 0) L (ab_I z :: ab_R a :: st) σ Q ↔ (ab_sh σ a).1 = 14 ∧ ab_Run X 267 7 (5, 0, 0) L st (ab_wr σ a 34 z) Q := sF_13_552 ko_X13_knobs kc_X13_knobs dX13_knobs_4
theorem rX13_knobs_7 : ab_Run X 267 7 (5, 0, 0) L st σ Q ↔ ab_Run X 267 8 (5, 0, 0) L (ab_I 0 :: st) σ Q := ab_r_iconst (by decide) kc_X13_knobs dX13_knobs_7
theorem rX13_knobs_8 : ab_Run X 267 8 (5, 0, 0) [l0, l1, l2, l3, l4, l5, l6] (ab_I z :: st) σ Q ↔ (!ab_isJ l2) = true ∧ ab_Run X 267 9 (5, 0, 0) [l0, l1, l2, ab_I z, l4, l5, l6] st σ Q := ab_r_istore_n (Nat.le_of_ble_eq_true rfl) kc_X13_knobs dX13_knobs_8
theorem rX13_knobs_9 : ab_Run X 267 9 (5, 0, 0) [l0, l1, l2, ab_I z, l4, l5, l6] st σ Q ↔ ab_Run X 267 10 (5, 0, 0) [l0, l1, l2, ab_I z, l4, l5, l6] (ab_I z :: st) σ Q := ab_r_iload_n rfl kc_X13_knobs dX13_knobs_9
theorem rX13_knobs_10 : ab_Run X 267 10 (5, 0, 0) [ab_R z, l1, l2, l3, l4, l5, l6] st σ Q ↔ z ≠ 0 ∧ ab_Run X 267 11 (5, 0, 0) [ab_R z, l1, l2, l3, l4, l5, l6] (ab_R z :: st) σ Q := ab_r_aload_n rfl kc_X13_knobs dX13_knobs_10
theorem rX13_knobs_11 : ab_Run X 267 11 (5, 0, 0) L (ab_R a :: st) σ Q ↔ (ab_sh σ a).1 = 14 ∧ ab_Run X 267 14 (5, 0, 0) L (ab_R (ab_rd σ a 3) :: st) σ Q := gF_13_373 ko_X13_knobs kc_X13_knobs dX13_knobs_11
theorem rX13_knobs_14 : ab_Run X 267 14 (5, 0, 0) L (ab_R a :: st) σ Q ↔ (ab_sh σ a).1 = 13 ∧ ab_Run X 267 17 (5, 0, 0) L (ab_I (ab_rd σ a 5) :: st) σ Q := gF_13_210 ko_X13_knobs kc_X13_knobs dX13_knobs_14
theorem rX13_knobs_17 : ab_Run X 267 17 (5, 0, 0) L (ab_I b :: ab_I a :: st) σ Q ↔ (b ≤ a → ab_Run X 267 154 (5, 0, 0) L st σ Q) ∧ (¬ (b ≤ a) → ab_Run X 267 20 (5, 0, 0) L st σ Q) := ab_r_icmp_ge rfl kc_X13_knobs dX13_knobs_17
theorem rX13_knobs_20 : ab_Run X 267 20 (5, 0, 0) L st σ Q ↔ ab_Run X 267 21 (5, 0, 0) L (ab_I 0 :: st) σ Q := ab_r_iconst (by decide) kc_X13_knobs dX13_knobs_20
theorem rX13_knobs_21 : ab_Run X 267 21 (5, 0, 0) [l0, l1, l2, l3, l4, l5, l6] (ab_I z :: st) σ Q ↔ (!ab_isJ l3) = true ∧ ab_Run X 267 23 (5, 0, 0) [l0, l1, l2, l3, ab_I z, l5, l6] st σ Q := ab_r_istore (Nat.le_of_ble_eq_true rfl) kc_X13_knobs dX13_knobs_21
theorem rX13_knobs_23 : ab_Run X 267 23 (5, 0, 0) [l0, l1, l2, l3, ab_I z, l5, l6] st σ Q ↔ ab_Run X 267 25 (5, 0, 0) [l0, l1, l2, l3, ab_I z, l5, l6] (ab_I z :: st) σ Q := ab_r_iload rfl kc_X13_knobs dX13_knobs_23
theorem rX13_knobs_25 : ab_Run X 267 25 (5, 0, 0) [ab_R z, l1, l2, l3, l4, l5, l6] st σ Q ↔ z ≠ 0 ∧ ab_Run X 267 26 (5, 0, 0) [ab_R z, l1, l2, l3, l4, l5, l6] (ab_R z :: st) σ Q := ab_r_aload_n rfl kc_X13_knobs dX13_knobs_25
theorem rX13_knobs_26 : ab_Run X 267 26 (5, 0, 0) L (ab_R a :: st) σ Q ↔ (ab_sh σ a).1 = 14 ∧ ab_Run X 267 29 (5, 0, 0) L (ab_R (ab_rd σ a 3) :: st) σ Q := gF_13_373 ko_X13_knobs kc_X13_knobs dX13_knobs_26
theorem rX13_knobs_29 : ab_Run X 267 29 (5, 0, 0) L (ab_R a :: st) σ Q ↔ (ab_sh σ a).1 = 13 ∧ ab_Run X 267 32 (5, 0, 0) L (ab_I (ab_rd σ a 6) :: st) σ Q := gF_13_213 ko_X13_knobs kc_X13_knobs dX13_knobs_29
theorem rX13_knobs_32 : ab_Run X 267 32 (5, 0, 0) L (ab_I b :: ab_I a :: st) σ Q ↔ (b ≤ a → ab_Run X 267 148 (5, 0, 0) L st σ Q) ∧ (¬ (b ≤ a) → ab_Run X 267 35 (5, 0, 0) L st σ Q) := ab_r_icmp_ge rfl kc_X13_knobs dX13_knobs_32
theorem rX13_knobs_35 : ab_Run X 267 35 (5, 0, 0) L st σ Q ↔ ab_Run X 267 36 (5, 0, 0) L (ab_I 0 :: st) σ Q := ab_r_iconst (by decide) kc_X13_knobs dX13_knobs_35
theorem rX13_knobs_36 : ab_Run X 267 36 (5, 0, 0) [l0, l1, l2, l3, l4, l5, l6] (ab_I z :: st) σ Q ↔ (!ab_isJ l4) = true ∧ ab_Run X 267 38 (5, 0, 0) [l0, l1, l2, l3, l4, ab_I z, l6] st σ Q := ab_r_istore (Nat.le_of_ble_eq_true rfl) kc_X13_knobs dX13_knobs_36
theorem rX13_knobs_38 : ab_Run X 267 38 (5, 0, 0) [l0, l1, l2, l3, l4, ab_I z, l6] st σ Q ↔ ab_Run X 267 40 (5, 0, 0) [l0, l1, l2, l3, l4, ab_I z, l6] (ab_I z :: st) σ Q := ab_r_iload rfl kc_X13_knobs dX13_knobs_38
theorem rX13_knobs_40 : ab_Run X 267 40 (5, 0, 0) [ab_R z, l1, l2, l3, l4, l5, l6] st σ Q ↔ z ≠ 0 ∧ ab_Run X 267 41 (5, 0, 0) [ab_R z, l1, l2, l3, l4, l5, l6] (ab_R z :: st) σ Q := ab_r_aload_n rfl kc_X13_knobs dX13_knobs_40
theorem rX13_knobs_41 : ab_Run X 267 41 (5, 0, 0) L (ab_R a :: st) σ Q ↔ (ab_sh σ a).1 = 14 ∧ ab_Run X 267 44 (5, 0, 0) L (ab_R (ab_rd σ a 3) :: st) σ Q := gF_13_373 ko_X13_knobs kc_X13_knobs dX13_knobs_41
theorem rX13_knobs_44 : ab_Run X 267 44 (5, 0, 0) L (ab_R a :: st) σ Q ↔ (ab_sh σ a).1 = 13 ∧ ab_Run X 267 47 (5, 0, 0) L (ab_I (ab_rd σ a 6) :: st) σ Q := gF_13_213 ko_X13_knobs kc_X13_knobs dX13_knobs_44
theorem rX13_knobs_47 : ab_Run X 267 47 (5, 0, 0) L (ab_I b :: ab_I a :: st) σ Q ↔ (b ≤ a → ab_Run X 267 142 (5, 0, 0) L st σ Q) ∧ (¬ (b ≤ a) → ab_Run X 267 50 (5, 0, 0) L st σ Q) := ab_r_icmp_ge rfl kc_X13_knobs dX13_knobs_47
theorem rX13_knobs_50 : ab_Run X 267 50 (5, 0, 0) [l0, l1, l2, l3, ab_I z, l5, l6] st σ Q ↔ ab_Run X 267 52 (5, 0, 0) [l0, l1, l2, l3, ab_I z, l5, l6] (ab_I z :: st) σ Q := ab_r_iload rfl kc_X13_knobs dX13_knobs_50
theorem rX13_knobs_52 : ab_Run X 267 52 (5, 0, 0) [l0, l1, l2, l3, l4, ab_I z, l6] st σ Q ↔ ab_Run X 267 54 (5, 0, 0) [l0, l1, l2, l3, l4, ab_I z, l6] (ab_I z :: st) σ Q := ab_r_iload rfl kc_X13_knobs dX13_knobs_52
theorem rX13_knobs_54 : ab_Run X 267 54 (5, 0, 0) L (ab_I b :: ab_I a :: st) σ Q ↔ (¬ a = b → ab_Run X 267 60 (5, 0, 0) L st σ Q) ∧ (¬ (¬ a = b) → ab_Run X 267 57 (5, 0, 0) L st σ Q) := ab_r_icmp_ne rfl kc_X13_knobs dX13_knobs_54
theorem rX13_knobs_57 : ab_Run X 267 57 (5, 0, 0) L st σ Q ↔ ab_Run X 267 136 (5, 0, 0) L st σ Q := ab_r_goto rfl kc_X13_knobs dX13_knobs_57
theorem rX13_knobs_60 : ab_Run X 267 60 (5, 0, 0) [ab_R z, l1, l2, l3, l4, l5, l6] st σ Q ↔ z ≠ 0 ∧ ab_Run X 267 61 (5, 0, 0) [ab_R z, l1, l2, l3, l4, l5, l6] (ab_R z :: st) σ Q := ab_r_aload_n rfl kc_X13_knobs dX13_knobs_60
theorem rX13_knobs_61 : ab_Run X 267 61 (5, 0, 0) [l0, l1, l2, ab_I z, l4, l5, l6] st σ Q ↔ ab_Run X 267 62 (5, 0, 0) [l0, l1, l2, ab_I z, l4, l5, l6] (ab_I z :: st) σ Q := ab_r_iload_n rfl kc_X13_knobs dX13_knobs_61
theorem rX13_knobs_62 : ab_Run X 267 62 (5, 0, 0) [l0, l1, l2, l3, ab_I z, l5, l6] st σ Q ↔ ab_Run X 267 64 (5, 0, 0) [l0, l1, l2, l3, ab_I z, l5, l6] (ab_I z :: st) σ Q := ab_r_iload rfl kc_X13_knobs dX13_knobs_62
theorem rX13_knobs_64 : ab_Run X 267 64 (5, 0, 0) [l0, l1, l2, l3, l4, ab_I z, l6] st σ Q ↔ ab_Run X 267 66 (5, 0, 0) [l0, l1, l2, l3, l4, ab_I z, l6] (ab_I z :: st) σ Q := ab_r_iload rfl kc_X13_knobs dX13_knobs_64
theorem rX13_knobs_66 : ab_Run X 267 66 (5, 0, 0) L (ab_I x3 :: ab_I x2 :: ab_I x1 :: ab_R a :: st) σ Q ↔ ((ab_sh σ a).1 = 14 ∧ ab_cats st ≤ 8) ∧ ab_Do X 203 [ab_R a, ab_I x1, ab_I x2, ab_I x3] σ (fun r σ' => ab_Run X 267 69 (5, 0, 0) L (ab_psh r st) σ' Q) := ab_r_callV (w := [ab_I x3, ab_I x2, ab_I x1]) (as := [ab_I x1, ab_I x2, ab_I x3]) (b1 := (2, 0, 0)) 0 (Or.inl rfl) (by decide) ko_X13_knobs qM_13_489 (by decide) rfl rfl rfl rfl rfl (by decide) (Nat.le_of_ble_eq_true rfl) kc_X13_knobs dX13_knobs_66
theorem rX13_knobs_69 : ab_Run X 267 69 (5, 0, 0) [ab_R z, l1, l2, l3, l4, l5, l6] st σ Q ↔ z ≠ 0 ∧ ab_Run X 267 70 (5, 0, 0) [ab_R z, l1, l2, l3, l4, l5, l6] (ab_R z :: st) σ Q := ab_r_aload_n rfl kc_X13_knobs dX13_knobs_69
theorem rX13_knobs_70 : ab_Run X 267 70 (5, 0, 0) L (ab_R a :: st) σ Q ↔ ((ab_sh σ a).1 = 14 ∧ ab_cats st ≤ 8) ∧ ab_Do X 208 [ab_R a] σ (fun r σ' => ab_Run X 267 73 (5, 0, 0) L (ab_psh r st) σ' Q) := ab_r_callV (w := []) (as := []) (b1 := (4, 0, 0)) 0 (Or.inl rfl) (by decide) ko_X13_knobs qM_13_433 (by decide) rfl rfl rfl rfl rfl (by decide) (Nat.le_of_ble_eq_true rfl) kc_X13_knobs dX13_knobs_70
theorem rX13_knobs_73 : ab_Run X 267 73 (5, 0, 0) [l0, l1, l2, l3, l4, l5, l6] (ab_I z :: st) σ Q ↔ (!ab_isJ l5) = true ∧ ab_Run X 267 75 (5, 0, 0) [l0, l1, l2, l3, l4, l5, ab_I z] st σ Q := ab_r_istore (Nat.le_of_ble_eq_true rfl) kc_X13_knobs dX13_knobs_73
theorem rX13_knobs_75 : ab_Run X 267 75 (5, 0, 0) [ab_R z, l1, l2, l3, l4, l5, l6] st σ Q ↔ z ≠ 0 ∧ ab_Run X 267 76 (5, 0, 0) [ab_R z, l1, l2, l3, l4, l5, l6] (ab_R z :: st) σ Q := ab_r_aload_n rfl kc_X13_knobs dX13_knobs_75
theorem rX13_knobs_76 : ab_Run X 267 76 (5, 0, 0) L (ab_R a :: st) σ Q ↔ (ab_sh σ a).1 = 14 ∧ ab_Run X 267 79 (5, 0, 0) L (ab_I (ab_rd σ a 25) :: st) σ Q := gF_13_419 ko_X13_knobs kc_X13_knobs dX13_knobs_76
theorem rX13_knobs_79 : ab_Run X 267 79 (5, 0, 0) [ab_R z, l1, l2, l3, l4, l5, l6] st σ Q ↔ z ≠ 0 ∧ ab_Run X 267 80 (5, 0, 0) [ab_R z, l1, l2, l3, l4, l5, l6] (ab_R z :: st) σ Q := ab_r_aload_n rfl kc_X13_knobs dX13_knobs_79
theorem rX13_knobs_80 : ab_Run X 267 80 (5, 0, 0) L (ab_R a :: st) σ Q ↔ (ab_sh σ a).1 = 14 ∧ ab_Run X 267 83 (5, 0, 0) L (ab_R (ab_rd σ a 3) :: st) σ Q := gF_13_373 ko_X13_knobs kc_X13_knobs dX13_knobs_80
theorem rX13_knobs_83 : ab_Run X 267 83 (5, 0, 0) L (ab_R a :: st) σ Q ↔ (ab_sh σ a).1 = 13 ∧ ab_Run X 267 86 (5, 0, 0) L (ab_R (ab_rd σ a 25) :: st) σ Q := gF_13_352 ko_X13_knobs kc_X13_knobs dX13_knobs_83
theorem rX13_knobs_86 : ab_Run X 267 86 (5, 0, 0) [l0, ab_I z, l2, l3, l4, l5, l6] st σ Q ↔ ab_Run X 267 87 (5, 0, 0) [l0, ab_I z, l2, l3, l4, l5, l6] (ab_I z :: st) σ Q := ab_r_iload_n rfl kc_X13_knobs dX13_knobs_86
theorem rX13_knobs_87 : ab_Run X 267 87 (5, 0, 0) L (ab_I i :: ab_R a :: st) σ Q ↔ ((ab_sh σ a).1 = 21 ∧ 0 ≤ i ∧ i < (ab_sh σ a).2) ∧ ab_Run X 267 88 (5, 0, 0) L (ab_I (ab_rd σ a i) :: st) σ Q := ab_r_iaload (by decide) kc_X13_knobs dX13_knobs_87
theorem rX13_knobs_88 : ab_Run X 267 88 (5, 0, 0) L (ab_I b :: ab_I a :: st) σ Q ↔ (¬ a = b → ab_Run X 267 136 (5, 0, 0) L st σ Q) ∧ (¬ (¬ a = b) → ab_Run X 267 91 (5, 0, 0) L st σ Q) := ab_r_icmp_ne rfl kc_X13_knobs dX13_knobs_88
theorem rX13_knobs_91 : ab_Run X 267 91 (5, 0, 0) [ab_R z, l1, l2, l3, l4, l5, l6] st σ Q ↔ z ≠ 0 ∧ ab_Run X 267 92 (5, 0, 0) [ab_R z, l1, l2, l3, l4, l5, l6] (ab_R z :: st) σ Q := ab_r_aload_n rfl kc_X13_knobs dX13_knobs_91
theorem rX13_knobs_92 : ab_Run X 267 92 (5, 0, 0) L (ab_R a :: st) σ Q ↔ (ab_sh σ a).1 = 14 ∧ ab_Run X 267 95 (5, 0, 0) L (ab_I (ab_rd σ a 26) :: st) σ Q := gF_13_427 ko_X13_knobs kc_X13_knobs dX13_knobs_92
theorem rX13_knobs_95 : ab_Run X 267 95 (5, 0, 0) [ab_R z, l1, l2, l3, l4, l5, l6] st σ Q ↔ z ≠ 0 ∧ ab_Run X 267 96 (5, 0, 0) [ab_R z, l1, l2, l3, l4, l5, l6] (ab_R z :: st) σ Q := ab_r_aload_n rfl kc_X13_knobs dX13_knobs_95
theorem rX13_knobs_96 : ab_Run X 267 96 (5, 0, 0) L (ab_R a :: st) σ Q ↔ (ab_sh σ a).1 = 14 ∧ ab_Run X 267 99 (5, 0, 0) L (ab_R (ab_rd σ a 3) :: st) σ Q := gF_13_373 ko_X13_knobs kc_X13_knobs dX13_knobs_96
theorem rX13_knobs_99 : ab_Run X 267 99 (5, 0, 0) L (ab_R a :: st) σ Q ↔ (ab_sh σ a).1 = 13 ∧ ab_Run X 267 102 (5, 0, 0) L (ab_R (ab_rd σ a 26) :: st) σ Q := gF_13_355 ko_X13_knobs kc_X13_knobs dX13_knobs_99
theorem rX13_knobs_102 : ab_Run X 267 102 (5, 0, 0) [l0, ab_I z, l2, l3, l4, l5, l6] st σ Q ↔ ab_Run X 267 103 (5, 0, 0) [l0, ab_I z, l2, l3, l4, l5, l6] (ab_I z :: st) σ Q := ab_r_iload_n rfl kc_X13_knobs dX13_knobs_102
theorem rX13_knobs_103 : ab_Run X 267 103 (5, 0, 0) L (ab_I i :: ab_R a :: st) σ Q ↔ ((ab_sh σ a).1 = 21 ∧ 0 ≤ i ∧ i < (ab_sh σ a).2) ∧ ab_Run X 267 104 (5, 0, 0) L (ab_I (ab_rd σ a i) :: st) σ Q := ab_r_iaload (by decide) kc_X13_knobs dX13_knobs_103
theorem rX13_knobs_104 : ab_Run X 267 104 (5, 0, 0) L (ab_I b :: ab_I a :: st) σ Q ↔ (a = b → ab_Run X 267 110 (5, 0, 0) L st σ Q) ∧ (¬ (a = b) → ab_Run X 267 107 (5, 0, 0) L st σ Q) := ab_r_icmp_eq rfl kc_X13_knobs dX13_knobs_104
theorem rX13_knobs_107 : ab_Run X 267 107 (5, 0, 0) L st σ Q ↔ ab_Run X 267 136 (5, 0, 0) L st σ Q := ab_r_goto rfl kc_X13_knobs dX13_knobs_107
theorem rX13_knobs_110 : ab_Run X 267 110 (5, 0, 0) [ab_R z, l1, l2, l3, l4, l5, l6] st σ Q ↔ z ≠ 0 ∧ ab_Run X 267 111 (5, 0, 0) [ab_R z, l1, l2, l3, l4, l5, l6] (ab_R z :: st) σ Q := ab_r_aload_n rfl kc_X13_knobs dX13_knobs_110
theorem rX13_knobs_111I : ab_Run X 267 111 (5, 0, 0) L (ab_I a :: st) σ Q ↔ ab_Run X 267 112 (5, 0, 0) L (ab_I a :: ab_I a :: st) σ Q := ab_r_dupI kc_X13_knobs dX13_knobs_111
theorem rX13_knobs_111R : ab_Run X 267 111 (5, 0, 0) L (ab_R a :: st) σ Q ↔ ab_Run X 267 112 (5, 0, 0) L (ab_R a :: ab_R a :: st) σ Q := ab_r_dupR kc_X13_knobs dX13_knobs_111
theorem rX13_knobs_112 : ab_Run X 267 112 (5, 0, 0) L (ab_R a :: st) σ Q ↔ (ab_sh σ a).1 = 14 ∧ ab_Run X 267 115 (5, 0, 0) L (ab_I (ab_rd σ a 34) :: st) σ Q := gF_13_552 ko_X13_knobs kc_X13_knobs dX13_knobs_112
theorem rX13_knobs_115 : ab_Run X 267 115 (5, 0, 0) L st σ Q ↔ ab_Run X 267 116 (5, 0, 0) L (ab_I 1 :: st) σ Q := ab_r_iconst (by decide) kc_X13_knobs dX13_knobs_115
theorem rX13_knobs_116 : ab_Run X 267 116 (5, 0, 0) [l0, l1, l2, l3, l4, l5, ab_I z] st σ Q ↔ ab_Run X 267 118 (5, 0, 0) [l0, l1, l2, l3, l4, l5, ab_I z] (ab_I z :: st) σ Q := ab_r_iload rfl kc_X13_knobs dX13_knobs_116
theorem rX13_knobs_118 : ab_Run X 267 118 (5, 0, 0) L (ab_I a :: st) σ Q ↔ (¬ a = 0 → ab_Run X 267 126 (5, 0, 0) L st σ Q) ∧ (¬ (¬ a = 0) → ab_Run X 267 121 (5, 0, 0) L st σ Q) := ab_r_if_ne rfl kc_X13_knobs dX13_knobs_118
theorem rX13_knobs_121 : ab_Run X 267 121 (5, 0, 0) [l0, l1, l2, l3, ab_I z, l5, l6] st σ Q ↔ ab_Run X 267 123 (5, 0, 0) [l0, l1, l2, l3, ab_I z, l5, l6] (ab_I z :: st) σ Q := ab_r_iload rfl kc_X13_knobs dX13_knobs_121
theorem rX13_knobs_123 : ab_Run X 267 123 (5, 0, 0) L st σ Q ↔ ab_Run X 267 128 (5, 0, 0) L st σ Q := ab_r_goto rfl kc_X13_knobs dX13_knobs_123
theorem rX13_knobs_126 : ab_Run X 267 126 (5, 0, 0) [l0, l1, l2, l3, l4, ab_I z, l6] st σ Q ↔ ab_Run X 267 128 (5, 0, 0) [l0, l1, l2, l3, l4, ab_I z, l6] (ab_I z :: st) σ Q := ab_r_iload rfl kc_X13_knobs dX13_knobs_126
theorem rX13_knobs_128 : ab_Run X 267 128 (5, 0, 0) L (ab_I b :: ab_I a :: st) σ Q ↔ ab_Run X 267 129 (5, 0, 0) L (ab_I (ab_ok32 (fun x y => x <<< (y &&& 31)) a b) :: st) σ Q := ab_r_ishl kc_X13_knobs dX13_knobs_128
theorem rX13_knobs_129 : ab_Run X 267 129 (5, 0, 0) L (ab_I b :: ab_I a :: st) σ Q ↔ ab_Run X 267 130 (5, 0, 0) L (ab_I (ab_ok32 (fun x y => x ||| y) a b) :: st) σ Q := ab_r_ior kc_X13_knobs dX13_knobs_129
theorem rX13_knobs_130 : ab_Run X 267 130 (5, 0, 0) L (ab_I z :: ab_R a :: st) σ Q ↔ (ab_sh σ a).1 = 14 ∧ ab_Run X 267 133 (5, 0, 0) L st (ab_wr σ a 34 z) Q := sF_13_552 ko_X13_knobs kc_X13_knobs dX13_knobs_130
theorem rX13_knobs_133 : ab_Run X 267 133 (5, 0, 0) [l0, l1, ab_I z, l3, l4, l5, l6] st σ Q ↔ (!ab_isJ l1) = true ∧ ab_Run X 267 136 (5, 0, 0) [l0, l1, ab_I (ab_w32 (z + 1)), l3, l4, l5, l6] st σ Q := ab_r_iinc rfl (by decide) kc_X13_knobs dX13_knobs_133
theorem rX13_knobs_136 : ab_Run X 267 136 (5, 0, 0) [l0, l1, l2, l3, l4, ab_I z, l6] st σ Q ↔ (!ab_isJ l4) = true ∧ ab_Run X 267 139 (5, 0, 0) [l0, l1, l2, l3, l4, ab_I (ab_w32 (z + 1)), l6] st σ Q := ab_r_iinc rfl (by decide) kc_X13_knobs dX13_knobs_136
theorem rX13_knobs_139 : ab_Run X 267 139 (5, 0, 0) L st σ Q ↔ ab_Run X 267 38 (5, 0, 0) L st σ Q := ab_r_goto rfl kc_X13_knobs dX13_knobs_139
theorem rX13_knobs_142 : ab_Run X 267 142 (5, 0, 0) [l0, l1, l2, l3, ab_I z, l5, l6] st σ Q ↔ (!ab_isJ l3) = true ∧ ab_Run X 267 145 (5, 0, 0) [l0, l1, l2, l3, ab_I (ab_w32 (z + 1)), l5, l6] st σ Q := ab_r_iinc rfl (by decide) kc_X13_knobs dX13_knobs_142
theorem rX13_knobs_145 : ab_Run X 267 145 (5, 0, 0) L st σ Q ↔ ab_Run X 267 23 (5, 0, 0) L st σ Q := ab_r_goto rfl kc_X13_knobs dX13_knobs_145
theorem rX13_knobs_148 : ab_Run X 267 148 (5, 0, 0) [l0, l1, l2, ab_I z, l4, l5, l6] st σ Q ↔ (!ab_isJ l2) = true ∧ ab_Run X 267 151 (5, 0, 0) [l0, l1, l2, ab_I (ab_w32 (z + 1)), l4, l5, l6] st σ Q := ab_r_iinc rfl (by decide) kc_X13_knobs dX13_knobs_148
theorem rX13_knobs_151 : ab_Run X 267 151 (5, 0, 0) L st σ Q ↔ ab_Run X 267 9 (5, 0, 0) L st σ Q := ab_r_goto rfl kc_X13_knobs dX13_knobs_151
theorem rX13_knobs_154 : ab_Run X 267 154 (5, 0, 0) [l0, l1, ab_I z, l3, l4, l5, l6] st σ Q ↔ ab_Run X 267 155 (5, 0, 0) [l0, l1, ab_I z, l3, l4, l5, l6] (ab_I z :: st) σ Q := ab_r_iload_n rfl kc_X13_knobs dX13_knobs_154
theorem rX13_knobs_155 : ab_Run X 267 155 (5, 0, 0) L [ab_I v] σ Q ↔ Q (some (ab_I v)) σ := ab_r_ireturnI rfl kc_X13_knobs dX13_knobs_155
theorem kc_X13_isPiece : ab_code 268 = cX13_isPiece := rfl
theorem ko_X13_isPiece : ab_ow 268 = 13 := rfl
theorem rX13_isPiece_0 : ab_Run X 268 0 (0, 0, 0) [ab_R z, l1] st σ Q ↔ z ≠ 0 ∧ ab_Run X 268 1 (0, 0, 0) [ab_R z, l1] (ab_R z :: st) σ Q := ab_r_aload_n rfl kc_X13_isPiece dX13_isPiece_0
theorem rX13_isPiece_1 : ab_Run X 268 1 (0, 0, 0) L (ab_R a :: st) σ Q ↔ (ab_sh σ a).1 = 14 ∧ ab_Run X 268 4 (0, 0, 0) L (ab_R (ab_rd σ a 3) :: st) σ Q := gF_13_373 ko_X13_isPiece kc_X13_isPiece dX13_isPiece_1
theorem rX13_isPiece_4 : ab_Run X 268 4 (0, 0, 0) L (ab_R a :: st) σ Q ↔ (a = 0 → ab_Run X 268 26 (0, 0, 0) L st σ Q) ∧ (¬ (a = 0) → ab_Run X 268 7 (0, 0, 0) L st σ Q) := ab_r_ifnull rfl kc_X13_isPiece dX13_isPiece_4
theorem rX13_isPiece_7 : ab_Run X 268 7 (0, 0, 0) [l0, ab_I z] st σ Q ↔ ab_Run X 268 8 (0, 0, 0) [l0, ab_I z] (ab_I z :: st) σ Q := ab_r_iload_n rfl kc_X13_isPiece dX13_isPiece_7
theorem rX13_isPiece_8 : ab_Run X 268 8 (0, 0, 0) L (ab_I a :: st) σ Q ↔ (a < 0 → ab_Run X 268 26 (0, 0, 0) L st σ Q) ∧ (¬ (a < 0) → ab_Run X 268 11 (0, 0, 0) L st σ Q) := ab_r_if_lt rfl kc_X13_isPiece dX13_isPiece_8
theorem rX13_isPiece_11 : ab_Run X 268 11 (0, 0, 0) [l0, ab_I z] st σ Q ↔ ab_Run X 268 12 (0, 0, 0) [l0, ab_I z] (ab_I z :: st) σ Q := ab_r_iload_n rfl kc_X13_isPiece dX13_isPiece_11
theorem rX13_isPiece_12 : ab_Run X 268 12 (0, 0, 0) [ab_R z, l1] st σ Q ↔ z ≠ 0 ∧ ab_Run X 268 13 (0, 0, 0) [ab_R z, l1] (ab_R z :: st) σ Q := ab_r_aload_n rfl kc_X13_isPiece dX13_isPiece_12
theorem rX13_isPiece_13 : ab_Run X 268 13 (0, 0, 0) L (ab_R a :: st) σ Q ↔ (ab_sh σ a).1 = 14 ∧ ab_Run X 268 16 (0, 0, 0) L (ab_R (ab_rd σ a 3) :: st) σ Q := gF_13_373 ko_X13_isPiece kc_X13_isPiece dX13_isPiece_13
theorem rX13_isPiece_16 : ab_Run X 268 16 (0, 0, 0) L (ab_R a :: st) σ Q ↔ (ab_sh σ a).1 = 13 ∧ ab_Run X 268 19 (0, 0, 0) L (ab_I (ab_rd σ a 9) :: st) σ Q := gF_13_349 ko_X13_isPiece kc_X13_isPiece dX13_isPiece_16
theorem rX13_isPiece_19 : ab_Run X 268 19 (0, 0, 0) L (ab_I b :: ab_I a :: st) σ Q ↔ (b ≤ a → ab_Run X 268 26 (0, 0, 0) L st σ Q) ∧ (¬ (b ≤ a) → ab_Run X 268 22 (0, 0, 0) L st σ Q) := ab_r_icmp_ge rfl kc_X13_isPiece dX13_isPiece_19
theorem rX13_isPiece_22 : ab_Run X 268 22 (0, 0, 0) L st σ Q ↔ ab_Run X 268 23 (0, 0, 0) L (ab_I 1 :: st) σ Q := ab_r_iconst (by decide) kc_X13_isPiece dX13_isPiece_22
theorem rX13_isPiece_23 : ab_Run X 268 23 (0, 0, 0) L st σ Q ↔ ab_Run X 268 27 (0, 0, 0) L st σ Q := ab_r_goto rfl kc_X13_isPiece dX13_isPiece_23
theorem rX13_isPiece_26 : ab_Run X 268 26 (0, 0, 0) L st σ Q ↔ ab_Run X 268 27 (0, 0, 0) L (ab_I 0 :: st) σ Q := ab_r_iconst (by decide) kc_X13_isPiece dX13_isPiece_26
theorem rX13_isPiece_27 : ab_Run X 268 27 (0, 0, 0) L [ab_I v] σ Q ↔ (v = 0 ∨ v = 1) ∧ Q (some (ab_I v)) σ := ab_r_ireturnZ rfl kc_X13_isPiece dX13_isPiece_27
theorem kc_X13_knob : ab_code 269 = cX13_knob := rfl
theorem ko_X13_knob : ab_ow 269 = 13 := rfl
theorem rX13_knob_0 : ab_Run X 269 0 (6, 0, 0) [ab_R z, l1] st σ Q ↔ z ≠ 0 ∧ ab_Run X 269 1 (6, 0, 0) [ab_R z, l1] (ab_R z :: st) σ Q := ab_r_aload_n rfl kc_X13_knob dX13_knob_0
theorem rX13_knob_1 : ab_Run X 269 1 (6, 0, 0) L st σ Q ↔ ab_Run X 269 2 (6, 0, 0) L (ab_I 0 :: st) σ Q := ab_r_iconst (by decide) kc_X13_knob dX13_knob_1
theorem rX13_knob_2 : ab_Run X 269 2 (6, 0, 0) L (ab_I z :: ab_R a :: st) σ Q ↔ (ab_sh σ a).1 = 14 ∧ ab_Run X 269 5 (6, 0, 0) L st (ab_wr σ a 0 z) Q := sF_13_53 ko_X13_knob kc_X13_knob dX13_knob_2
theorem rX13_knob_5 : ab_Run X 269 5 (6, 0, 0) [ab_R z, l1] st σ Q ↔ z ≠ 0 ∧ ab_Run X 269 6 (6, 0, 0) [ab_R z, l1] (ab_R z :: st) σ Q := ab_r_aload_n rfl kc_X13_knob dX13_knob_5
theorem rX13_knob_6 : ab_Run X 269 6 (6, 0, 0) [l0, ab_I z] st σ Q ↔ ab_Run X 269 7 (6, 0, 0) [l0, ab_I z] (ab_I z :: st) σ Q := ab_r_iload_n rfl kc_X13_knob dX13_knob_6
theorem rX13_knob_7 : ab_Run X 269 7 (6, 0, 0) L (ab_I x1 :: ab_R a :: st) σ Q ↔ ((ab_sh σ a).1 = 14 ∧ ab_cats st ≤ 8) ∧ ab_Do X 268 [ab_R a, ab_I x1] σ (fun r σ' => ab_Run X 269 10 (6, 0, 0) L (ab_psh r st) σ' Q) := ab_r_callV (w := [ab_I x1]) (as := [ab_I x1]) (b1 := (0, 0, 0)) 0 (Or.inl rfl) (by decide) ko_X13_knob qM_13_555 (by decide) rfl rfl rfl rfl rfl (by decide) (Nat.le_of_ble_eq_true rfl) kc_X13_knob dX13_knob_7
theorem rX13_knob_10 : ab_Run X 269 10 (6, 0, 0) L (ab_I a :: st) σ Q ↔ (a = 0 → ab_Run X 269 25 (6, 0, 0) L st σ Q) ∧ (¬ (a = 0) → ab_Run X 269 13 (6, 0, 0) L st σ Q) := ab_r_if_eq rfl kc_X13_knob dX13_knob_10
theorem rX13_knob_13 : ab_Run X 269 13 (6, 0, 0) [ab_R z, l1] st σ Q ↔ z ≠ 0 ∧ ab_Run X 269 14 (6, 0, 0) [ab_R z, l1] (ab_R z :: st) σ Q := ab_r_aload_n rfl kc_X13_knob dX13_knob_13
theorem rX13_knob_14 : ab_Run X 269 14 (6, 0, 0) [ab_R z, l1] st σ Q ↔ z ≠ 0 ∧ ab_Run X 269 15 (6, 0, 0) [ab_R z, l1] (ab_R z :: st) σ Q := ab_r_aload_n rfl kc_X13_knob dX13_knob_14
theorem rX13_knob_15 : ab_Run X 269 15 (6, 0, 0) [l0, ab_I z] st σ Q ↔ ab_Run X 269 16 (6, 0, 0) [l0, ab_I z] (ab_I z :: st) σ Q := ab_r_iload_n rfl kc_X13_knob dX13_knob_15
theorem rX13_knob_16 : ab_Run X 269 16 (6, 0, 0) L (ab_I x1 :: ab_R a :: st) σ Q ↔ ((ab_sh σ a).1 = 14 ∧ ab_cats st ≤ 8) ∧ ab_Do X 267 [ab_R a, ab_I x1] σ (fun r σ' => ab_Run X 269 19 (6, 0, 0) L (ab_psh r st) σ' Q) := ab_r_callV (w := [ab_I x1]) (as := [ab_I x1]) (b1 := (5, 0, 0)) 0 (Or.inl rfl) (by decide) ko_X13_knob qM_13_558 (by decide) rfl rfl rfl rfl rfl (by decide) (Nat.le_of_ble_eq_true rfl) kc_X13_knob dX13_knob_16
theorem rX13_knob_19 : ab_Run X 269 19 (6, 0, 0) L (ab_I x1 :: ab_R a :: st) σ Q ↔ ((ab_sh σ a).1 = 14 ∧ ab_cats st ≤ 8) ∧ ab_Do X 161 [ab_R a, ab_I x1] σ (fun r σ' => ab_Run X 269 22 (6, 0, 0) L (ab_psh r st) σ' Q) := ab_r_callV (w := [ab_I x1]) (as := [ab_I x1]) (b1 := (0, 0, 0)) 0 (Or.inl rfl) (by decide) ko_X13_knob qM_13_63 (by decide) rfl rfl rfl rfl rfl (by decide) (Nat.le_of_ble_eq_true rfl) kc_X13_knob dX13_knob_19
theorem rX13_knob_22 : ab_Run X 269 22 (6, 0, 0) L st σ Q ↔ ab_Run X 269 30 (6, 0, 0) L st σ Q := ab_r_goto rfl kc_X13_knob dX13_knob_22
theorem rX13_knob_25 : ab_Run X 269 25 (6, 0, 0) [ab_R z, l1] st σ Q ↔ z ≠ 0 ∧ ab_Run X 269 26 (6, 0, 0) [ab_R z, l1] (ab_R z :: st) σ Q := ab_r_aload_n rfl kc_X13_knob dX13_knob_25
theorem rX13_knob_26 : ab_Run X 269 26 (6, 0, 0) L st σ Q ↔ ab_Run X 269 27 (6, 0, 0) L (ab_I 1 :: st) σ Q := ab_r_iconst (by decide) kc_X13_knob dX13_knob_26
theorem rX13_knob_27 : ab_Run X 269 27 (6, 0, 0) L (ab_I x1 :: ab_R a :: st) σ Q ↔ ((ab_sh σ a).1 = 14 ∧ ab_cats st ≤ 8) ∧ ab_Do X 159 [ab_R a, ab_I x1] σ (fun r σ' => ab_Run X 269 30 (6, 0, 0) L (ab_psh r st) σ' Q) := ab_r_callV (w := [ab_I x1]) (as := [ab_I x1]) (b1 := (0, 0, 0)) 0 (Or.inl rfl) (by decide) ko_X13_knob qM_13_59 (by decide) rfl rfl rfl rfl rfl (by decide) (Nat.le_of_ble_eq_true rfl) kc_X13_knob dX13_knob_27
theorem rX13_knob_30 : ab_Run X 269 30 (6, 0, 0) L [ab_I v] σ Q ↔ Q (some (ab_I v)) σ := ab_r_ireturnI rfl kc_X13_knob dX13_knob_30
theorem kc_X13_owners : ab_code 270 = cX13_owners := rfl
theorem ko_X13_owners : ab_ow 270 = 13 := rfl
theorem rX13_owners_0 : ab_Run X 270 0 (6, 0, 0) [ab_R z, l1] st σ Q ↔ z ≠ 0 ∧ ab_Run X 270 1 (6, 0, 0) [ab_R z, l1] (ab_R z :: st) σ Q := ab_r_aload_n rfl kc_X13_owners dX13_owners_0
theorem rX13_owners_1 : ab_Run X 270 1 (6, 0, 0) L st σ Q ↔ ab_Run X 270 2 (6, 0, 0) L (ab_I 0 :: st) σ Q := ab_r_iconst (by decide) kc_X13_owners dX13_owners_1
theorem rX13_owners_2 : ab_Run X 270 2 (6, 0, 0) L (ab_I z :: ab_R a :: st) σ Q ↔ (ab_sh σ a).1 = 14 ∧ ab_Run X 270 5 (6, 0, 0) L st (ab_wr σ a 0 z) Q := sF_13_53 ko_X13_owners kc_X13_owners dX13_owners_2
theorem rX13_owners_5 : ab_Run X 270 5 (6, 0, 0) [ab_R z, l1] st σ Q ↔ z ≠ 0 ∧ ab_Run X 270 6 (6, 0, 0) [ab_R z, l1] (ab_R z :: st) σ Q := ab_r_aload_n rfl kc_X13_owners dX13_owners_5
theorem rX13_owners_6 : ab_Run X 270 6 (6, 0, 0) [l0, ab_I z] st σ Q ↔ ab_Run X 270 7 (6, 0, 0) [l0, ab_I z] (ab_I z :: st) σ Q := ab_r_iload_n rfl kc_X13_owners dX13_owners_6
theorem rX13_owners_7 : ab_Run X 270 7 (6, 0, 0) L (ab_I x1 :: ab_R a :: st) σ Q ↔ ((ab_sh σ a).1 = 14 ∧ ab_cats st ≤ 8) ∧ ab_Do X 268 [ab_R a, ab_I x1] σ (fun r σ' => ab_Run X 270 10 (6, 0, 0) L (ab_psh r st) σ' Q) := ab_r_callV (w := [ab_I x1]) (as := [ab_I x1]) (b1 := (0, 0, 0)) 0 (Or.inl rfl) (by decide) ko_X13_owners qM_13_555 (by decide) rfl rfl rfl rfl rfl (by decide) (Nat.le_of_ble_eq_true rfl) kc_X13_owners dX13_owners_7
theorem rX13_owners_10 : ab_Run X 270 10 (6, 0, 0) L (ab_I a :: st) σ Q ↔ (¬ a = 0 → ab_Run X 270 19 (6, 0, 0) L st σ Q) ∧ (¬ (¬ a = 0) → ab_Run X 270 13 (6, 0, 0) L st σ Q) := ab_r_if_ne rfl kc_X13_owners dX13_owners_10
theorem rX13_owners_13 : ab_Run X 270 13 (6, 0, 0) [ab_R z, l1] st σ Q ↔ z ≠ 0 ∧ ab_Run X 270 14 (6, 0, 0) [ab_R z, l1] (ab_R z :: st) σ Q := ab_r_aload_n rfl kc_X13_owners dX13_owners_13
theorem rX13_owners_14 : ab_Run X 270 14 (6, 0, 0) L st σ Q ↔ ab_Run X 270 15 (6, 0, 0) L (ab_I 1 :: st) σ Q := ab_r_iconst (by decide) kc_X13_owners dX13_owners_14
theorem rX13_owners_15 : ab_Run X 270 15 (6, 0, 0) L (ab_I x1 :: ab_R a :: st) σ Q ↔ ((ab_sh σ a).1 = 14 ∧ ab_cats st ≤ 8) ∧ ab_Do X 159 [ab_R a, ab_I x1] σ (fun r σ' => ab_Run X 270 18 (6, 0, 0) L (ab_psh r st) σ' Q) := ab_r_callV (w := [ab_I x1]) (as := [ab_I x1]) (b1 := (0, 0, 0)) 0 (Or.inl rfl) (by decide) ko_X13_owners qM_13_59 (by decide) rfl rfl rfl rfl rfl (by decide) (Nat.le_of_ble_eq_true rfl) kc_X13_owners dX13_owners_15
theorem rX13_owners_18 : ab_Run X 270 18 (6, 0, 0) L [ab_I v] σ Q ↔ Q (some (ab_I v)) σ := ab_r_ireturnI rfl kc_X13_owners dX13_owners_18
theorem rX13_owners_19 : ab_Run X 270 19 (6, 0, 0) [ab_R z, l1] st σ Q ↔ z ≠ 0 ∧ ab_Run X 270 20 (6, 0, 0) [ab_R z, l1] (ab_R z :: st) σ Q := ab_r_aload_n rfl kc_X13_owners dX13_owners_19
theorem rX13_owners_20 : ab_Run X 270 20 (6, 0, 0) [l0, ab_I z] st σ Q ↔ ab_Run X 270 21 (6, 0, 0) [l0, ab_I z] (ab_I z :: st) σ Q := ab_r_iload_n rfl kc_X13_owners dX13_owners_20
theorem rX13_owners_21 : ab_Run X 270 21 (6, 0, 0) L (ab_I x1 :: ab_R a :: st) σ Q ↔ ((ab_sh σ a).1 = 14 ∧ ab_cats st ≤ 8) ∧ ab_Do X 267 [ab_R a, ab_I x1] σ (fun r σ' => ab_Run X 270 24 (6, 0, 0) L (ab_psh r st) σ' Q) := ab_r_callV (w := [ab_I x1]) (as := [ab_I x1]) (b1 := (5, 0, 0)) 0 (Or.inl rfl) (by decide) ko_X13_owners qM_13_558 (by decide) rfl rfl rfl rfl rfl (by decide) (Nat.le_of_ble_eq_true rfl) kc_X13_owners dX13_owners_21
theorem rX13_owners_24I : ab_Run X 270 24 (6, 0, 0) L (ab_I a :: st) σ Q ↔ ab_Run X 270 25 (6, 0, 0) L st σ Q := ab_r_popI kc_X13_owners dX13_owners_24
theorem rX13_owners_24R : ab_Run X 270 24 (6, 0, 0) L (ab_R a :: st) σ Q ↔ ab_Run X 270 25 (6, 0, 0) L st σ Q := ab_r_popR kc_X13_owners dX13_owners_24
theorem rX13_owners_25 : ab_Run X 270 25 (6, 0, 0) [ab_R z, l1] st σ Q ↔ z ≠ 0 ∧ ab_Run X 270 26 (6, 0, 0) [ab_R z, l1] (ab_R z :: st) σ Q := ab_r_aload_n rfl kc_X13_owners dX13_owners_25
theorem rX13_owners_26 : ab_Run X 270 26 (6, 0, 0) [ab_R z, l1] st σ Q ↔ z ≠ 0 ∧ ab_Run X 270 27 (6, 0, 0) [ab_R z, l1] (ab_R z :: st) σ Q := ab_r_aload_n rfl kc_X13_owners dX13_owners_26
theorem rX13_owners_27 : ab_Run X 270 27 (6, 0, 0) L (ab_R a :: st) σ Q ↔ (ab_sh σ a).1 = 14 ∧ ab_Run X 270 30 (6, 0, 0) L (ab_I (ab_rd σ a 34) :: st) σ Q := gF_13_552 ko_X13_owners kc_X13_owners dX13_owners_27
theorem rX13_owners_30 : ab_Run X 270 30 (6, 0, 0) L (ab_I x1 :: ab_R a :: st) σ Q ↔ ((ab_sh σ a).1 = 14 ∧ ab_cats st ≤ 8) ∧ ab_Do X 161 [ab_R a, ab_I x1] σ (fun r σ' => ab_Run X 270 33 (6, 0, 0) L (ab_psh r st) σ' Q) := ab_r_callV (w := [ab_I x1]) (as := [ab_I x1]) (b1 := (0, 0, 0)) 0 (Or.inl rfl) (by decide) ko_X13_owners qM_13_63 (by decide) rfl rfl rfl rfl rfl (by decide) (Nat.le_of_ble_eq_true rfl) kc_X13_owners dX13_owners_30
theorem rX13_owners_33 : ab_Run X 270 33 (6, 0, 0) L [ab_I v] σ Q ↔ Q (some (ab_I v)) σ := ab_r_ireturnI rfl kc_X13_owners dX13_owners_33
theorem kc_X13_drawn : ab_code 271 = cX13_drawn := rfl
theorem ko_X13_drawn : ab_ow 271 = 13 := rfl
theorem rX13_drawn_0 : ab_Run X 271 0 (0, 0, 0) [ab_R z, l1] st σ Q ↔ z ≠ 0 ∧ ab_Run X 271 1 (0, 0, 0) [ab_R z, l1] (ab_R z :: st) σ Q := ab_r_aload_n rfl kc_X13_drawn dX13_drawn_0
theorem rX13_drawn_1 : ab_Run X 271 1 (0, 0, 0) L st σ Q ↔ ab_Run X 271 4 (0, 0, 0) L (ab_J 75 :: st) σ Q := ab_r_ldc2_w rfl ko_X13_drawn (by decide +kernel) kc_X13_drawn dX13_drawn_1
theorem rX13_drawn_4 : ab_Run X 271 4 (0, 0, 0) [ab_R z, l1] st σ Q ↔ z ≠ 0 ∧ ab_Run X 271 5 (0, 0, 0) [ab_R z, l1] (ab_R z :: st) σ Q := ab_r_aload_n rfl kc_X13_drawn dX13_drawn_4
theorem rX13_drawn_5 : ab_Run X 271 5 (0, 0, 0) L (ab_R a :: st) σ Q ↔ (ab_sh σ a).1 = 14 ∧ ab_Run X 271 8 (0, 0, 0) L (ab_I (ab_rd σ a 35) :: st) σ Q := gF_13_563 ko_X13_drawn kc_X13_drawn dX13_drawn_5
theorem rX13_drawn_8 : ab_Run X 271 8 (0, 0, 0) L (ab_I a :: st) σ Q ↔ ab_Run X 271 9 (0, 0, 0) L (ab_J a :: st) σ Q := ab_r_i2l kc_X13_drawn dX13_drawn_8
theorem rX13_drawn_9 : ab_Run X 271 9 (0, 0, 0) L (ab_J b :: ab_J a :: st) σ Q ↔ ab_Run X 271 10 (0, 0, 0) L (ab_J (ab_w64 (a * b)) :: st) σ Q := ab_r_lmul kc_X13_drawn dX13_drawn_9
theorem rX13_drawn_10 : ab_Run X 271 10 (0, 0, 0) L st σ Q ↔ ab_Run X 271 13 (0, 0, 0) L (ab_J 74 :: st) σ Q := ab_r_ldc2_w rfl ko_X13_drawn (by decide +kernel) kc_X13_drawn dX13_drawn_10
theorem rX13_drawn_13 : ab_Run X 271 13 (0, 0, 0) L (ab_J b :: ab_J a :: st) σ Q ↔ ab_Run X 271 14 (0, 0, 0) L (ab_J (ab_w64 (a + b)) :: st) σ Q := ab_r_ladd kc_X13_drawn dX13_drawn_13
theorem rX13_drawn_14 : ab_Run X 271 14 (0, 0, 0) L st σ Q ↔ ab_Run X 271 17 (0, 0, 0) L (ab_J 65537 :: st) σ Q := ab_r_ldc2_w rfl ko_X13_drawn (by decide +kernel) kc_X13_drawn dX13_drawn_14
theorem rX13_drawn_17 : ab_Run X 271 17 (0, 0, 0) L (ab_J b :: ab_J a :: st) σ Q ↔ b ≠ 0 ∧ ab_Run X 271 18 (0, 0, 0) L (ab_J (a.tmod b) :: st) σ Q := ab_r_lrem kc_X13_drawn dX13_drawn_17
theorem rX13_drawn_18 : ab_Run X 271 18 (0, 0, 0) L (ab_J a :: st) σ Q ↔ ab_Run X 271 19 (0, 0, 0) L (ab_I (ab_w32 a) :: st) σ Q := ab_r_l2i kc_X13_drawn dX13_drawn_18
theorem rX13_drawn_19 : ab_Run X 271 19 (0, 0, 0) L (ab_I z :: ab_R a :: st) σ Q ↔ (ab_sh σ a).1 = 14 ∧ ab_Run X 271 22 (0, 0, 0) L st (ab_wr σ a 35 z) Q := sF_13_563 ko_X13_drawn kc_X13_drawn dX13_drawn_19
theorem rX13_drawn_22 : ab_Run X 271 22 (0, 0, 0) [ab_R z, l1] st σ Q ↔ z ≠ 0 ∧ ab_Run X 271 23 (0, 0, 0) [ab_R z, l1] (ab_R z :: st) σ Q := ab_r_aload_n rfl kc_X13_drawn dX13_drawn_22
theorem rX13_drawn_23 : ab_Run X 271 23 (0, 0, 0) L (ab_R a :: st) σ Q ↔ (ab_sh σ a).1 = 14 ∧ ab_Run X 271 26 (0, 0, 0) L (ab_I (ab_rd σ a 35) :: st) σ Q := gF_13_563 ko_X13_drawn kc_X13_drawn dX13_drawn_23
theorem rX13_drawn_26 : ab_Run X 271 26 (0, 0, 0) [l0, ab_I z] st σ Q ↔ ab_Run X 271 27 (0, 0, 0) [l0, ab_I z] (ab_I z :: st) σ Q := ab_r_iload_n rfl kc_X13_drawn dX13_drawn_26
theorem rX13_drawn_27 : ab_Run X 271 27 (0, 0, 0) L (ab_I b :: ab_I a :: st) σ Q ↔ b ≠ 0 ∧ ab_Run X 271 28 (0, 0, 0) L (ab_I (a.tmod b) :: st) σ Q := ab_r_irem kc_X13_drawn dX13_drawn_27
theorem rX13_drawn_28 : ab_Run X 271 28 (0, 0, 0) L [ab_I v] σ Q ↔ Q (some (ab_I v)) σ := ab_r_ireturnI rfl kc_X13_drawn dX13_drawn_28
theorem kc_X13_flawsByDraws : ab_code 272 = cX13_flawsByDraws := rfl
theorem ko_X13_flawsByDraws : ab_ow 272 = 13 := rfl
theorem rX13_flawsByDraws_0 : ab_Run X 272 0 (2, 0, 0) [ab_R z] st σ Q ↔ z ≠ 0 ∧ ab_Run X 272 1 (2, 0, 0) [ab_R z] (ab_R z :: st) σ Q := ab_r_aload_n rfl kc_X13_flawsByDraws dX13_flawsByDraws_0
theorem rX13_flawsByDraws_1 : ab_Run X 272 1 (2, 0, 0) L st σ Q ↔ ab_Run X 272 2 (2, 0, 0) L (ab_I (-1) :: st) σ Q := ab_r_iconst (by decide) kc_X13_flawsByDraws dX13_flawsByDraws_1
theorem rX13_flawsByDraws_2 : ab_Run X 272 2 (2, 0, 0) L (ab_I z :: ab_R a :: st) σ Q ↔ (ab_sh σ a).1 = 14 ∧ ab_Run X 272 5 (2, 0, 0) L st (ab_wr σ a 23 z) Q := sF_13_389 ko_X13_flawsByDraws kc_X13_flawsByDraws dX13_flawsByDraws_2
theorem rX13_flawsByDraws_5 : ab_Run X 272 5 (2, 0, 0) [ab_R z] st σ Q ↔ z ≠ 0 ∧ ab_Run X 272 6 (2, 0, 0) [ab_R z] (ab_R z :: st) σ Q := ab_r_aload_n rfl kc_X13_flawsByDraws dX13_flawsByDraws_5
theorem rX13_flawsByDraws_6 : ab_Run X 272 6 (2, 0, 0) L st σ Q ↔ ab_Run X 272 8 (2, 0, 0) L (ab_I 100 :: st) σ Q := ab_r_bipush (by decide) kc_X13_flawsByDraws dX13_flawsByDraws_6
theorem rX13_flawsByDraws_8 : ab_Run X 272 8 (2, 0, 0) L (ab_I x1 :: ab_R a :: st) σ Q ↔ ((ab_sh σ a).1 = 14 ∧ ab_cats st ≤ 8) ∧ ab_Do X 271 [ab_R a, ab_I x1] σ (fun r σ' => ab_Run X 272 11 (2, 0, 0) L (ab_psh r st) σ' Q) := ab_r_callV (w := [ab_I x1]) (as := [ab_I x1]) (b1 := (0, 0, 0)) 0 (Or.inl rfl) (by decide) ko_X13_flawsByDraws qM_13_570 (by decide) rfl rfl rfl rfl rfl (by decide) (Nat.le_of_ble_eq_true rfl) kc_X13_flawsByDraws dX13_flawsByDraws_8
theorem rX13_flawsByDraws_11 : ab_Run X 272 11 (2, 0, 0) [ab_R z] st σ Q ↔ z ≠ 0 ∧ ab_Run X 272 12 (2, 0, 0) [ab_R z] (ab_R z :: st) σ Q := ab_r_aload_n rfl kc_X13_flawsByDraws dX13_flawsByDraws_11
theorem rX13_flawsByDraws_12 : ab_Run X 272 12 (2, 0, 0) L (ab_R a :: st) σ Q ↔ (ab_sh σ a).1 = 14 ∧ ab_Run X 272 15 (2, 0, 0) L (ab_R (ab_rd σ a 3) :: st) σ Q := gF_13_373 ko_X13_flawsByDraws kc_X13_flawsByDraws dX13_flawsByDraws_12
theorem rX13_flawsByDraws_15 : ab_Run X 272 15 (2, 0, 0) L (ab_R a :: st) σ Q ↔ (ab_sh σ a).1 = 13 ∧ ab_Run X 272 18 (2, 0, 0) L (ab_I (ab_rd σ a 4) :: st) σ Q := gF_13_258 ko_X13_flawsByDraws kc_X13_flawsByDraws dX13_flawsByDraws_15
theorem rX13_flawsByDraws_18 : ab_Run X 272 18 (2, 0, 0) L (ab_I b :: ab_I a :: st) σ Q ↔ (b ≤ a → ab_Run X 272 33 (2, 0, 0) L st σ Q) ∧ (¬ (b ≤ a) → ab_Run X 272 21 (2, 0, 0) L st σ Q) := ab_r_icmp_ge rfl kc_X13_flawsByDraws dX13_flawsByDraws_18
theorem rX13_flawsByDraws_21 : ab_Run X 272 21 (2, 0, 0) [ab_R z] st σ Q ↔ z ≠ 0 ∧ ab_Run X 272 22 (2, 0, 0) [ab_R z] (ab_R z :: st) σ Q := ab_r_aload_n rfl kc_X13_flawsByDraws dX13_flawsByDraws_21
theorem rX13_flawsByDraws_22 : ab_Run X 272 22 (2, 0, 0) [ab_R z] st σ Q ↔ z ≠ 0 ∧ ab_Run X 272 23 (2, 0, 0) [ab_R z] (ab_R z :: st) σ Q := ab_r_aload_n rfl kc_X13_flawsByDraws dX13_flawsByDraws_22
theorem rX13_flawsByDraws_23 : ab_Run X 272 23 (2, 0, 0) [ab_R z] st σ Q ↔ z ≠ 0 ∧ ab_Run X 272 24 (2, 0, 0) [ab_R z] (ab_R z :: st) σ Q := ab_r_aload_n rfl kc_X13_flawsByDraws dX13_flawsByDraws_23
theorem rX13_flawsByDraws_24 : ab_Run X 272 24 (2, 0, 0) L (ab_R a :: st) σ Q ↔ ((ab_sh σ a).1 = 14 ∧ ab_cats st ≤ 8) ∧ ab_Do X 209 [ab_R a] σ (fun r σ' => ab_Run X 272 27 (2, 0, 0) L (ab_psh r st) σ' Q) := ab_r_callV (w := []) (as := []) (b1 := (1, 0, 0)) 0 (Or.inl rfl) (by decide) ko_X13_flawsByDraws qM_13_430 (by decide) rfl rfl rfl rfl rfl (by decide) (Nat.le_of_ble_eq_true rfl) kc_X13_flawsByDraws dX13_flawsByDraws_24
theorem rX13_flawsByDraws_27 : ab_Run X 272 27 (2, 0, 0) L (ab_I x1 :: ab_R a :: st) σ Q ↔ ((ab_sh σ a).1 = 14 ∧ ab_cats st ≤ 8) ∧ ab_Do X 271 [ab_R a, ab_I x1] σ (fun r σ' => ab_Run X 272 30 (2, 0, 0) L (ab_psh r st) σ' Q) := ab_r_callV (w := [ab_I x1]) (as := [ab_I x1]) (b1 := (0, 0, 0)) 0 (Or.inl rfl) (by decide) ko_X13_flawsByDraws qM_13_570 (by decide) rfl rfl rfl rfl rfl (by decide) (Nat.le_of_ble_eq_true rfl) kc_X13_flawsByDraws dX13_flawsByDraws_27
theorem rX13_flawsByDraws_30 : ab_Run X 272 30 (2, 0, 0) L (ab_I x1 :: ab_R a :: st) σ Q ↔ ((ab_sh σ a).1 = 14 ∧ ab_cats st ≤ 8) ∧ ab_Do X 210 [ab_R a, ab_I x1] σ (fun r σ' => ab_Run X 272 33 (2, 0, 0) L (ab_psh r st) σ' Q) := ab_r_callV (w := [ab_I x1]) (as := [ab_I x1]) (b1 := (1, 0, 0)) 0 (Or.inl rfl) (by decide) ko_X13_flawsByDraws qM_13_438 (by decide) rfl rfl rfl rfl rfl (by decide) (Nat.le_of_ble_eq_true rfl) kc_X13_flawsByDraws dX13_flawsByDraws_30
theorem rX13_flawsByDraws_33 : ab_Run X 272 33 (2, 0, 0) L [] σ Q ↔ Q none σ := ab_r_return rfl kc_X13_flawsByDraws dX13_flawsByDraws_33
theorem kc_X13_year : ab_code 273 = cX13_year := rfl
theorem ko_X13_year : ab_ow 273 = 13 := rfl
theorem rX13_year_0 : ab_Run X 273 0 (5, 0, 0) [ab_R z, l1, l2, l3, l4, l5, l6, l7] st σ Q ↔ z ≠ 0 ∧ ab_Run X 273 1 (5, 0, 0) [ab_R z, l1, l2, l3, l4, l5, l6, l7] (ab_R z :: st) σ Q := ab_r_aload_n rfl kc_X13_year dX13_year_0
theorem rX13_year_1 : ab_Run X 273 1 (5, 0, 0) [l0, ab_I z, l2, l3, l4, l5, l6, l7] st σ Q ↔ ab_Run X 273 2 (5, 0, 0) [l0, ab_I z, l2, l3, l4, l5, l6, l7] (ab_I z :: st) σ Q := ab_r_iload_n rfl kc_X13_year dX13_year_1
theorem rX13_year_2 : ab_Run X 273 2 (5, 0, 0) L (ab_I z :: ab_R a :: st) σ Q ↔ (ab_sh σ a).1 = 14 ∧ ab_Run X 273 5 (5, 0, 0) L st (ab_wr σ a 35 z) Q := sF_13_563 ko_X13_year kc_X13_year dX13_year_2
theorem rX13_year_5 : ab_Run X 273 5 (5, 0, 0) [ab_R z, l1, l2, l3, l4, l5, l6, l7] st σ Q ↔ z ≠ 0 ∧ ab_Run X 273 6 (5, 0, 0) [ab_R z, l1, l2, l3, l4, l5, l6, l7] (ab_R z :: st) σ Q := ab_r_aload_n rfl kc_X13_year dX13_year_5
theorem rX13_year_6 : ab_Run X 273 6 (5, 0, 0) L st σ Q ↔ ab_Run X 273 7 (5, 0, 0) L (ab_I 0 :: st) σ Q := ab_r_iconst (by decide) kc_X13_year dX13_year_6
theorem rX13_year_7 : ab_Run X 273 7 (5, 0, 0) L (ab_I z :: ab_R a :: st) σ Q ↔ (ab_sh σ a).1 = 14 ∧ ab_Run X 273 10 (5, 0, 0) L st (ab_wr σ a 37 z) Q := sF_13_573 ko_X13_year kc_X13_year dX13_year_7
theorem rX13_year_10 : ab_Run X 273 10 (5, 0, 0) [ab_R z, l1, l2, l3, l4, l5, l6, l7] st σ Q ↔ z ≠ 0 ∧ ab_Run X 273 11 (5, 0, 0) [ab_R z, l1, l2, l3, l4, l5, l6, l7] (ab_R z :: st) σ Q := ab_r_aload_n rfl kc_X13_year dX13_year_10
theorem rX13_year_11 : ab_Run X 273 11 (5, 0, 0) L st σ Q ↔ ab_Run X 273 12 (5, 0, 0) L (ab_I 0 :: st) σ Q := ab_r_iconst (by decide) kc_X13_year dX13_year_11
theorem rX13_year_12 : ab_Run X 273 12 (5, 0, 0) L (ab_I z :: ab_R a :: st) σ Q ↔ (ab_sh σ a).1 = 14 ∧ ab_Run X 273 15 (5, 0, 0) L st (ab_wr σ a 38 z) Q := sF_13_576 ko_X13_year kc_X13_year dX13_year_12
theorem rX13_year_15 : ab_Run X 273 15 (5, 0, 0) L st σ Q ↔ ab_Run X 273 16 (5, 0, 0) L (ab_I 0 :: st) σ Q := ab_r_iconst (by decide) kc_X13_year dX13_year_15
theorem rX13_year_16 : ab_Run X 273 16 (5, 0, 0) [l0, l1, l2, l3, l4, l5, l6, l7] (ab_I z :: st) σ Q ↔ (!ab_isJ l2) = true ∧ ab_Run X 273 17 (5, 0, 0) [l0, l1, l2, ab_I z, l4, l5, l6, l7] st σ Q := ab_r_istore_n (Nat.le_of_ble_eq_true rfl) kc_X13_year dX13_year_16
theorem rX13_year_17 : ab_Run X 273 17 (5, 0, 0) [l0, l1, l2, ab_I z, l4, l5, l6, l7] st σ Q ↔ ab_Run X 273 18 (5, 0, 0) [l0, l1, l2, ab_I z, l4, l5, l6, l7] (ab_I z :: st) σ Q := ab_r_iload_n rfl kc_X13_year dX13_year_17
theorem rX13_year_18 : ab_Run X 273 18 (5, 0, 0) L st σ Q ↔ ab_Run X 273 20 (5, 0, 0) L (ab_I 6 :: st) σ Q := ab_r_bipush (by decide) kc_X13_year dX13_year_18
theorem rX13_year_20 : ab_Run X 273 20 (5, 0, 0) L (ab_I b :: ab_I a :: st) σ Q ↔ (b ≤ a → ab_Run X 273 36 (5, 0, 0) L st σ Q) ∧ (¬ (b ≤ a) → ab_Run X 273 23 (5, 0, 0) L st σ Q) := ab_r_icmp_ge rfl kc_X13_year dX13_year_20
theorem rX13_year_23 : ab_Run X 273 23 (5, 0, 0) [ab_R z, l1, l2, l3, l4, l5, l6, l7] st σ Q ↔ z ≠ 0 ∧ ab_Run X 273 24 (5, 0, 0) [ab_R z, l1, l2, l3, l4, l5, l6, l7] (ab_R z :: st) σ Q := ab_r_aload_n rfl kc_X13_year dX13_year_23
theorem rX13_year_24 : ab_Run X 273 24 (5, 0, 0) L (ab_R a :: st) σ Q ↔ (ab_sh σ a).1 = 14 ∧ ab_Run X 273 27 (5, 0, 0) L (ab_R (ab_rd σ a 36) :: st) σ Q := gF_13_50 ko_X13_year kc_X13_year dX13_year_24
theorem rX13_year_27 : ab_Run X 273 27 (5, 0, 0) [l0, l1, l2, ab_I z, l4, l5, l6, l7] st σ Q ↔ ab_Run X 273 28 (5, 0, 0) [l0, l1, l2, ab_I z, l4, l5, l6, l7] (ab_I z :: st) σ Q := ab_r_iload_n rfl kc_X13_year dX13_year_27
theorem rX13_year_28 : ab_Run X 273 28 (5, 0, 0) L st σ Q ↔ ab_Run X 273 29 (5, 0, 0) L (ab_I 0 :: st) σ Q := ab_r_iconst (by decide) kc_X13_year dX13_year_28
theorem rX13_year_29 : ab_Run X 273 29 (5, 0, 0) L (ab_I v :: ab_I i :: ab_R a :: st) σ Q ↔ ((ab_sh σ a).1 = 21 ∧ 0 ≤ i ∧ i < (ab_sh σ a).2) ∧ ab_Run X 273 30 (5, 0, 0) L st (ab_wr σ a i v) Q := ab_r_iastore kc_X13_year dX13_year_29
theorem rX13_year_30 : ab_Run X 273 30 (5, 0, 0) [l0, l1, l2, ab_I z, l4, l5, l6, l7] st σ Q ↔ (!ab_isJ l2) = true ∧ ab_Run X 273 33 (5, 0, 0) [l0, l1, l2, ab_I (ab_w32 (z + 1)), l4, l5, l6, l7] st σ Q := ab_r_iinc rfl (by decide) kc_X13_year dX13_year_30
theorem rX13_year_33 : ab_Run X 273 33 (5, 0, 0) L st σ Q ↔ ab_Run X 273 17 (5, 0, 0) L st σ Q := ab_r_goto rfl kc_X13_year dX13_year_33
theorem rX13_year_36 : ab_Run X 273 36 (5, 0, 0) L st σ Q ↔ ab_Run X 273 37 (5, 0, 0) L (ab_I 0 :: st) σ Q := ab_r_iconst (by decide) kc_X13_year dX13_year_36
theorem rX13_year_37 : ab_Run X 273 37 (5, 0, 0) [l0, l1, l2, l3, l4, l5, l6, l7] (ab_I z :: st) σ Q ↔ (!ab_isJ l2) = true ∧ ab_Run X 273 38 (5, 0, 0) [l0, l1, l2, ab_I z, l4, l5, l6, l7] st σ Q := ab_r_istore_n (Nat.le_of_ble_eq_true rfl) kc_X13_year dX13_year_37
theorem rX13_year_38 : ab_Run X 273 38 (5, 0, 0) [l0, l1, l2, ab_I z, l4, l5, l6, l7] st σ Q ↔ ab_Run X 273 39 (5, 0, 0) [l0, l1, l2, ab_I z, l4, l5, l6, l7] (ab_I z :: st) σ Q := ab_r_iload_n rfl kc_X13_year dX13_year_38
theorem rX13_year_39 : ab_Run X 273 39 (5, 0, 0) [l0, l1, ab_I z, l3, l4, l5, l6, l7] st σ Q ↔ ab_Run X 273 40 (5, 0, 0) [l0, l1, ab_I z, l3, l4, l5, l6, l7] (ab_I z :: st) σ Q := ab_r_iload_n rfl kc_X13_year dX13_year_39
theorem rX13_year_40 : ab_Run X 273 40 (5, 0, 0) L (ab_I b :: ab_I a :: st) σ Q ↔ (b ≤ a → ab_Run X 273 203 (5, 0, 0) L st σ Q) ∧ (¬ (b ≤ a) → ab_Run X 273 43 (5, 0, 0) L st σ Q) := ab_r_icmp_ge rfl kc_X13_year dX13_year_40
theorem rX13_year_43 : ab_Run X 273 43 (5, 0, 0) [ab_R z, l1, l2, l3, l4, l5, l6, l7] st σ Q ↔ z ≠ 0 ∧ ab_Run X 273 44 (5, 0, 0) [ab_R z, l1, l2, l3, l4, l5, l6, l7] (ab_R z :: st) σ Q := ab_r_aload_n rfl kc_X13_year dX13_year_43
theorem rX13_year_44 : ab_Run X 273 44 (5, 0, 0) [ab_R z, l1, l2, l3, l4, l5, l6, l7] st σ Q ↔ z ≠ 0 ∧ ab_Run X 273 45 (5, 0, 0) [ab_R z, l1, l2, l3, l4, l5, l6, l7] (ab_R z :: st) σ Q := ab_r_aload_n rfl kc_X13_year dX13_year_44
theorem rX13_year_45 : ab_Run X 273 45 (5, 0, 0) L (ab_R a :: st) σ Q ↔ (ab_sh σ a).1 = 14 ∧ ab_Run X 273 48 (5, 0, 0) L (ab_R (ab_rd σ a 3) :: st) σ Q := gF_13_373 ko_X13_year kc_X13_year dX13_year_45
theorem rX13_year_48 : ab_Run X 273 48 (5, 0, 0) L (ab_R a :: st) σ Q ↔ (ab_sh σ a).1 = 13 ∧ ab_Run X 273 51 (5, 0, 0) L (ab_I (ab_rd σ a 5) :: st) σ Q := gF_13_210 ko_X13_year kc_X13_year dX13_year_48
theorem rX13_year_51 : ab_Run X 273 51 (5, 0, 0) L (ab_I x1 :: ab_R a :: st) σ Q ↔ ((ab_sh σ a).1 = 14 ∧ ab_cats st ≤ 8) ∧ ab_Do X 271 [ab_R a, ab_I x1] σ (fun r σ' => ab_Run X 273 54 (5, 0, 0) L (ab_psh r st) σ' Q) := ab_r_callV (w := [ab_I x1]) (as := [ab_I x1]) (b1 := (0, 0, 0)) 0 (Or.inl rfl) (by decide) ko_X13_year qM_13_570 (by decide) rfl rfl rfl rfl rfl (by decide) (Nat.le_of_ble_eq_true rfl) kc_X13_year dX13_year_51
theorem rX13_year_54 : ab_Run X 273 54 (5, 0, 0) [l0, l1, l2, l3, l4, l5, l6, l7] (ab_I z :: st) σ Q ↔ (!ab_isJ l3) = true ∧ ab_Run X 273 56 (5, 0, 0) [l0, l1, l2, l3, ab_I z, l5, l6, l7] st σ Q := ab_r_istore (Nat.le_of_ble_eq_true rfl) kc_X13_year dX13_year_54
theorem rX13_year_56 : ab_Run X 273 56 (5, 0, 0) [ab_R z, l1, l2, l3, l4, l5, l6, l7] st σ Q ↔ z ≠ 0 ∧ ab_Run X 273 57 (5, 0, 0) [ab_R z, l1, l2, l3, l4, l5, l6, l7] (ab_R z :: st) σ Q := ab_r_aload_n rfl kc_X13_year dX13_year_56
theorem rX13_year_57 : ab_Run X 273 57 (5, 0, 0) [ab_R z, l1, l2, l3, l4, l5, l6, l7] st σ Q ↔ z ≠ 0 ∧ ab_Run X 273 58 (5, 0, 0) [ab_R z, l1, l2, l3, l4, l5, l6, l7] (ab_R z :: st) σ Q := ab_r_aload_n rfl kc_X13_year dX13_year_57
theorem rX13_year_58 : ab_Run X 273 58 (5, 0, 0) L (ab_R a :: st) σ Q ↔ (ab_sh σ a).1 = 14 ∧ ab_Run X 273 61 (5, 0, 0) L (ab_R (ab_rd σ a 3) :: st) σ Q := gF_13_373 ko_X13_year kc_X13_year dX13_year_58
theorem rX13_year_61 : ab_Run X 273 61 (5, 0, 0) L (ab_R a :: st) σ Q ↔ (ab_sh σ a).1 = 13 ∧ ab_Run X 273 64 (5, 0, 0) L (ab_I (ab_rd σ a 6) :: st) σ Q := gF_13_213 ko_X13_year kc_X13_year dX13_year_61
theorem rX13_year_64 : ab_Run X 273 64 (5, 0, 0) L (ab_I x1 :: ab_R a :: st) σ Q ↔ ((ab_sh σ a).1 = 14 ∧ ab_cats st ≤ 8) ∧ ab_Do X 271 [ab_R a, ab_I x1] σ (fun r σ' => ab_Run X 273 67 (5, 0, 0) L (ab_psh r st) σ' Q) := ab_r_callV (w := [ab_I x1]) (as := [ab_I x1]) (b1 := (0, 0, 0)) 0 (Or.inl rfl) (by decide) ko_X13_year qM_13_570 (by decide) rfl rfl rfl rfl rfl (by decide) (Nat.le_of_ble_eq_true rfl) kc_X13_year dX13_year_64
theorem rX13_year_67 : ab_Run X 273 67 (5, 0, 0) [l0, l1, l2, l3, l4, l5, l6, l7] (ab_I z :: st) σ Q ↔ (!ab_isJ l4) = true ∧ ab_Run X 273 69 (5, 0, 0) [l0, l1, l2, l3, l4, ab_I z, l6, l7] st σ Q := ab_r_istore (Nat.le_of_ble_eq_true rfl) kc_X13_year dX13_year_67
theorem rX13_year_69 : ab_Run X 273 69 (5, 0, 0) [ab_R z, l1, l2, l3, l4, l5, l6, l7] st σ Q ↔ z ≠ 0 ∧ ab_Run X 273 70 (5, 0, 0) [ab_R z, l1, l2, l3, l4, l5, l6, l7] (ab_R z :: st) σ Q := ab_r_aload_n rfl kc_X13_year dX13_year_69
theorem rX13_year_70 : ab_Run X 273 70 (5, 0, 0) [ab_R z, l1, l2, l3, l4, l5, l6, l7] st σ Q ↔ z ≠ 0 ∧ ab_Run X 273 71 (5, 0, 0) [ab_R z, l1, l2, l3, l4, l5, l6, l7] (ab_R z :: st) σ Q := ab_r_aload_n rfl kc_X13_year dX13_year_70
theorem rX13_year_71 : ab_Run X 273 71 (5, 0, 0) L (ab_R a :: st) σ Q ↔ (ab_sh σ a).1 = 14 ∧ ab_Run X 273 74 (5, 0, 0) L (ab_R (ab_rd σ a 3) :: st) σ Q := gF_13_373 ko_X13_year kc_X13_year dX13_year_71
theorem rX13_year_74 : ab_Run X 273 74 (5, 0, 0) L (ab_R a :: st) σ Q ↔ (ab_sh σ a).1 = 13 ∧ ab_Run X 273 77 (5, 0, 0) L (ab_I (ab_rd σ a 6) :: st) σ Q := gF_13_213 ko_X13_year kc_X13_year dX13_year_74
theorem rX13_year_77 : ab_Run X 273 77 (5, 0, 0) L st σ Q ↔ ab_Run X 273 78 (5, 0, 0) L (ab_I 1 :: st) σ Q := ab_r_iconst (by decide) kc_X13_year dX13_year_77
theorem rX13_year_78 : ab_Run X 273 78 (5, 0, 0) L (ab_I b :: ab_I a :: st) σ Q ↔ ab_Run X 273 79 (5, 0, 0) L (ab_I (ab_w32 (a - b)) :: st) σ Q := ab_r_isub kc_X13_year dX13_year_78
theorem rX13_year_79 : ab_Run X 273 79 (5, 0, 0) L (ab_I x1 :: ab_R a :: st) σ Q ↔ ((ab_sh σ a).1 = 14 ∧ ab_cats st ≤ 8) ∧ ab_Do X 271 [ab_R a, ab_I x1] σ (fun r σ' => ab_Run X 273 82 (5, 0, 0) L (ab_psh r st) σ' Q) := ab_r_callV (w := [ab_I x1]) (as := [ab_I x1]) (b1 := (0, 0, 0)) 0 (Or.inl rfl) (by decide) ko_X13_year qM_13_570 (by decide) rfl rfl rfl rfl rfl (by decide) (Nat.le_of_ble_eq_true rfl) kc_X13_year dX13_year_79
theorem rX13_year_82 : ab_Run X 273 82 (5, 0, 0) [l0, l1, l2, l3, l4, l5, l6, l7] (ab_I z :: st) σ Q ↔ (!ab_isJ l5) = true ∧ ab_Run X 273 84 (5, 0, 0) [l0, l1, l2, l3, l4, l5, ab_I z, l7] st σ Q := ab_r_istore (Nat.le_of_ble_eq_true rfl) kc_X13_year dX13_year_82
theorem rX13_year_84 : ab_Run X 273 84 (5, 0, 0) [l0, l1, l2, l3, l4, l5, ab_I z, l7] st σ Q ↔ ab_Run X 273 86 (5, 0, 0) [l0, l1, l2, l3, l4, l5, ab_I z, l7] (ab_I z :: st) σ Q := ab_r_iload rfl kc_X13_year dX13_year_84
theorem rX13_year_86 : ab_Run X 273 86 (5, 0, 0) [l0, l1, l2, l3, l4, l5, ab_I z, l7] st σ Q ↔ ab_Run X 273 88 (5, 0, 0) [l0, l1, l2, l3, l4, l5, ab_I z, l7] (ab_I z :: st) σ Q := ab_r_iload rfl kc_X13_year dX13_year_86
theorem rX13_year_88 : ab_Run X 273 88 (5, 0, 0) [l0, l1, l2, l3, l4, ab_I z, l6, l7] st σ Q ↔ ab_Run X 273 90 (5, 0, 0) [l0, l1, l2, l3, l4, ab_I z, l6, l7] (ab_I z :: st) σ Q := ab_r_iload rfl kc_X13_year dX13_year_88
theorem rX13_year_90 : ab_Run X 273 90 (5, 0, 0) L (ab_I b :: ab_I a :: st) σ Q ↔ (a < b → ab_Run X 273 97 (5, 0, 0) L st σ Q) ∧ (¬ (a < b) → ab_Run X 273 93 (5, 0, 0) L st σ Q) := ab_r_icmp_lt rfl kc_X13_year dX13_year_90
theorem rX13_year_93 : ab_Run X 273 93 (5, 0, 0) L st σ Q ↔ ab_Run X 273 94 (5, 0, 0) L (ab_I 1 :: st) σ Q := ab_r_iconst (by decide) kc_X13_year dX13_year_93
theorem rX13_year_94 : ab_Run X 273 94 (5, 0, 0) L st σ Q ↔ ab_Run X 273 98 (5, 0, 0) L st σ Q := ab_r_goto rfl kc_X13_year dX13_year_94
theorem rX13_year_97 : ab_Run X 273 97 (5, 0, 0) L st σ Q ↔ ab_Run X 273 98 (5, 0, 0) L (ab_I 0 :: st) σ Q := ab_r_iconst (by decide) kc_X13_year dX13_year_97
theorem rX13_year_98 : ab_Run X 273 98 (5, 0, 0) L (ab_I b :: ab_I a :: st) σ Q ↔ ab_Run X 273 99 (5, 0, 0) L (ab_I (ab_w32 (a + b)) :: st) σ Q := ab_r_iadd kc_X13_year dX13_year_98
theorem rX13_year_99 : ab_Run X 273 99 (5, 0, 0) [l0, l1, l2, l3, l4, l5, l6, l7] (ab_I z :: st) σ Q ↔ (!ab_isJ l5) = true ∧ ab_Run X 273 101 (5, 0, 0) [l0, l1, l2, l3, l4, l5, ab_I z, l7] st σ Q := ab_r_istore (Nat.le_of_ble_eq_true rfl) kc_X13_year dX13_year_99
theorem rX13_year_101 : ab_Run X 273 101 (5, 0, 0) [ab_R z, l1, l2, l3, l4, l5, l6, l7] st σ Q ↔ z ≠ 0 ∧ ab_Run X 273 102 (5, 0, 0) [ab_R z, l1, l2, l3, l4, l5, l6, l7] (ab_R z :: st) σ Q := ab_r_aload_n rfl kc_X13_year dX13_year_101
theorem rX13_year_102 : ab_Run X 273 102 (5, 0, 0) [l0, l1, l2, l3, ab_I z, l5, l6, l7] st σ Q ↔ ab_Run X 273 104 (5, 0, 0) [l0, l1, l2, l3, ab_I z, l5, l6, l7] (ab_I z :: st) σ Q := ab_r_iload rfl kc_X13_year dX13_year_102
theorem rX13_year_104 : ab_Run X 273 104 (5, 0, 0) [l0, l1, l2, l3, l4, ab_I z, l6, l7] st σ Q ↔ ab_Run X 273 106 (5, 0, 0) [l0, l1, l2, l3, l4, ab_I z, l6, l7] (ab_I z :: st) σ Q := ab_r_iload rfl kc_X13_year dX13_year_104
theorem rX13_year_106 : ab_Run X 273 106 (5, 0, 0) [l0, l1, l2, l3, l4, l5, ab_I z, l7] st σ Q ↔ ab_Run X 273 108 (5, 0, 0) [l0, l1, l2, l3, l4, l5, ab_I z, l7] (ab_I z :: st) σ Q := ab_r_iload rfl kc_X13_year dX13_year_106
theorem rX13_year_108 : ab_Run X 273 108 (5, 0, 0) L (ab_I x3 :: ab_I x2 :: ab_I x1 :: ab_R a :: st) σ Q ↔ ((ab_sh σ a).1 = 14 ∧ ab_cats st ≤ 8) ∧ ab_Do X 203 [ab_R a, ab_I x1, ab_I x2, ab_I x3] σ (fun r σ' => ab_Run X 273 111 (5, 0, 0) L (ab_psh r st) σ' Q) := ab_r_callV (w := [ab_I x3, ab_I x2, ab_I x1]) (as := [ab_I x1, ab_I x2, ab_I x3]) (b1 := (2, 0, 0)) 0 (Or.inl rfl) (by decide) ko_X13_year qM_13_489 (by decide) rfl rfl rfl rfl rfl (by decide) (Nat.le_of_ble_eq_true rfl) kc_X13_year dX13_year_108
theorem rX13_year_111 : ab_Run X 273 111 (5, 0, 0) [ab_R z, l1, l2, l3, l4, l5, l6, l7] st σ Q ↔ z ≠ 0 ∧ ab_Run X 273 112 (5, 0, 0) [ab_R z, l1, l2, l3, l4, l5, l6, l7] (ab_R z :: st) σ Q := ab_r_aload_n rfl kc_X13_year dX13_year_111
theorem rX13_year_112 : ab_Run X 273 112 (5, 0, 0) L (ab_R a :: st) σ Q ↔ ((ab_sh σ a).1 = 14 ∧ ab_cats st ≤ 8) ∧ ab_Do X 272 [ab_R a] σ (fun r σ' => ab_Run X 273 115 (5, 0, 0) L (ab_psh r st) σ' Q) := ab_r_callV (w := []) (as := []) (b1 := (2, 0, 0)) 0 (Or.inl rfl) (by decide) ko_X13_year qM_13_579 (by decide) rfl rfl rfl rfl rfl (by decide) (Nat.le_of_ble_eq_true rfl) kc_X13_year dX13_year_112
theorem rX13_year_115 : ab_Run X 273 115 (5, 0, 0) [ab_R z, l1, l2, l3, l4, l5, l6, l7] st σ Q ↔ z ≠ 0 ∧ ab_Run X 273 116 (5, 0, 0) [ab_R z, l1, l2, l3, l4, l5, l6, l7] (ab_R z :: st) σ Q := ab_r_aload_n rfl kc_X13_year dX13_year_115
theorem rX13_year_116 : ab_Run X 273 116 (5, 0, 0) L (ab_R a :: st) σ Q ↔ ((ab_sh σ a).1 = 14 ∧ ab_cats st ≤ 8) ∧ ab_Do X 208 [ab_R a] σ (fun r σ' => ab_Run X 273 119 (5, 0, 0) L (ab_psh r st) σ' Q) := ab_r_callV (w := []) (as := []) (b1 := (4, 0, 0)) 0 (Or.inl rfl) (by decide) ko_X13_year qM_13_433 (by decide) rfl rfl rfl rfl rfl (by decide) (Nat.le_of_ble_eq_true rfl) kc_X13_year dX13_year_116
theorem rX13_year_119 : ab_Run X 273 119 (5, 0, 0) [l0, l1, l2, l3, l4, l5, l6, l7] (ab_I z :: st) σ Q ↔ (!ab_isJ l6) = true ∧ ab_Run X 273 121 (5, 0, 0) [l0, l1, l2, l3, l4, l5, l6, ab_I z] st σ Q := ab_r_istore (Nat.le_of_ble_eq_true rfl) kc_X13_year dX13_year_119
theorem rX13_year_121 : ab_Run X 273 121 (5, 0, 0) [ab_R z, l1, l2, l3, l4, l5, l6, l7] st σ Q ↔ z ≠ 0 ∧ ab_Run X 273 122 (5, 0, 0) [ab_R z, l1, l2, l3, l4, l5, l6, l7] (ab_R z :: st) σ Q := ab_r_aload_n rfl kc_X13_year dX13_year_121
theorem rX13_year_122I : ab_Run X 273 122 (5, 0, 0) L (ab_I a :: st) σ Q ↔ ab_Run X 273 123 (5, 0, 0) L (ab_I a :: ab_I a :: st) σ Q := ab_r_dupI kc_X13_year dX13_year_122
theorem rX13_year_122R : ab_Run X 273 122 (5, 0, 0) L (ab_R a :: st) σ Q ↔ ab_Run X 273 123 (5, 0, 0) L (ab_R a :: ab_R a :: st) σ Q := ab_r_dupR kc_X13_year dX13_year_122
theorem rX13_year_123 : ab_Run X 273 123 (5, 0, 0) L (ab_R a :: st) σ Q ↔ (ab_sh σ a).1 = 14 ∧ ab_Run X 273 126 (5, 0, 0) L (ab_I (ab_rd σ a 37) :: st) σ Q := gF_13_573 ko_X13_year kc_X13_year dX13_year_123
theorem rX13_year_126 : ab_Run X 273 126 (5, 0, 0) [l0, l1, l2, l3, l4, l5, l6, ab_I z] st σ Q ↔ ab_Run X 273 128 (5, 0, 0) [l0, l1, l2, l3, l4, l5, l6, ab_I z] (ab_I z :: st) σ Q := ab_r_iload rfl kc_X13_year dX13_year_126
theorem rX13_year_128 : ab_Run X 273 128 (5, 0, 0) L st σ Q ↔ ab_Run X 273 129 (5, 0, 0) L (ab_I 2 :: st) σ Q := ab_r_iconst (by decide) kc_X13_year dX13_year_128
theorem rX13_year_129 : ab_Run X 273 129 (5, 0, 0) L (ab_I b :: ab_I a :: st) σ Q ↔ (¬ a = b → ab_Run X 273 136 (5, 0, 0) L st σ Q) ∧ (¬ (¬ a = b) → ab_Run X 273 132 (5, 0, 0) L st σ Q) := ab_r_icmp_ne rfl kc_X13_year dX13_year_129
theorem rX13_year_132 : ab_Run X 273 132 (5, 0, 0) L st σ Q ↔ ab_Run X 273 133 (5, 0, 0) L (ab_I 1 :: st) σ Q := ab_r_iconst (by decide) kc_X13_year dX13_year_132
theorem rX13_year_133 : ab_Run X 273 133 (5, 0, 0) L st σ Q ↔ ab_Run X 273 137 (5, 0, 0) L st σ Q := ab_r_goto rfl kc_X13_year dX13_year_133
theorem rX13_year_136 : ab_Run X 273 136 (5, 0, 0) L st σ Q ↔ ab_Run X 273 137 (5, 0, 0) L (ab_I 0 :: st) σ Q := ab_r_iconst (by decide) kc_X13_year dX13_year_136
theorem rX13_year_137 : ab_Run X 273 137 (5, 0, 0) L (ab_I b :: ab_I a :: st) σ Q ↔ ab_Run X 273 138 (5, 0, 0) L (ab_I (ab_w32 (a + b)) :: st) σ Q := ab_r_iadd kc_X13_year dX13_year_137
theorem rX13_year_138 : ab_Run X 273 138 (5, 0, 0) L (ab_I z :: ab_R a :: st) σ Q ↔ (ab_sh σ a).1 = 14 ∧ ab_Run X 273 141 (5, 0, 0) L st (ab_wr σ a 37 z) Q := sF_13_573 ko_X13_year kc_X13_year dX13_year_138
theorem rX13_year_141 : ab_Run X 273 141 (5, 0, 0) [ab_R z, l1, l2, l3, l4, l5, l6, l7] st σ Q ↔ z ≠ 0 ∧ ab_Run X 273 142 (5, 0, 0) [ab_R z, l1, l2, l3, l4, l5, l6, l7] (ab_R z :: st) σ Q := ab_r_aload_n rfl kc_X13_year dX13_year_141
theorem rX13_year_142I : ab_Run X 273 142 (5, 0, 0) L (ab_I a :: st) σ Q ↔ ab_Run X 273 143 (5, 0, 0) L (ab_I a :: ab_I a :: st) σ Q := ab_r_dupI kc_X13_year dX13_year_142
theorem rX13_year_142R : ab_Run X 273 142 (5, 0, 0) L (ab_R a :: st) σ Q ↔ ab_Run X 273 143 (5, 0, 0) L (ab_R a :: ab_R a :: st) σ Q := ab_r_dupR kc_X13_year dX13_year_142
theorem rX13_year_143 : ab_Run X 273 143 (5, 0, 0) L (ab_R a :: st) σ Q ↔ (ab_sh σ a).1 = 14 ∧ ab_Run X 273 146 (5, 0, 0) L (ab_I (ab_rd σ a 38) :: st) σ Q := gF_13_576 ko_X13_year kc_X13_year dX13_year_143
theorem rX13_year_146 : ab_Run X 273 146 (5, 0, 0) [l0, l1, l2, l3, l4, l5, l6, ab_I z] st σ Q ↔ ab_Run X 273 148 (5, 0, 0) [l0, l1, l2, l3, l4, l5, l6, ab_I z] (ab_I z :: st) σ Q := ab_r_iload rfl kc_X13_year dX13_year_146
theorem rX13_year_148 : ab_Run X 273 148 (5, 0, 0) L st σ Q ↔ ab_Run X 273 149 (5, 0, 0) L (ab_I 3 :: st) σ Q := ab_r_iconst (by decide) kc_X13_year dX13_year_148
theorem rX13_year_149 : ab_Run X 273 149 (5, 0, 0) L (ab_I b :: ab_I a :: st) σ Q ↔ (¬ a = b → ab_Run X 273 156 (5, 0, 0) L st σ Q) ∧ (¬ (¬ a = b) → ab_Run X 273 152 (5, 0, 0) L st σ Q) := ab_r_icmp_ne rfl kc_X13_year dX13_year_149
theorem rX13_year_152 : ab_Run X 273 152 (5, 0, 0) L st σ Q ↔ ab_Run X 273 153 (5, 0, 0) L (ab_I 1 :: st) σ Q := ab_r_iconst (by decide) kc_X13_year dX13_year_152
theorem rX13_year_153 : ab_Run X 273 153 (5, 0, 0) L st σ Q ↔ ab_Run X 273 157 (5, 0, 0) L st σ Q := ab_r_goto rfl kc_X13_year dX13_year_153
theorem rX13_year_156 : ab_Run X 273 156 (5, 0, 0) L st σ Q ↔ ab_Run X 273 157 (5, 0, 0) L (ab_I 0 :: st) σ Q := ab_r_iconst (by decide) kc_X13_year dX13_year_156
theorem rX13_year_157 : ab_Run X 273 157 (5, 0, 0) L (ab_I b :: ab_I a :: st) σ Q ↔ ab_Run X 273 158 (5, 0, 0) L (ab_I (ab_w32 (a + b)) :: st) σ Q := ab_r_iadd kc_X13_year dX13_year_157
theorem rX13_year_158 : ab_Run X 273 158 (5, 0, 0) L (ab_I z :: ab_R a :: st) σ Q ↔ (ab_sh σ a).1 = 14 ∧ ab_Run X 273 161 (5, 0, 0) L st (ab_wr σ a 38 z) Q := sF_13_576 ko_X13_year kc_X13_year dX13_year_158
theorem rX13_year_161 : ab_Run X 273 161 (5, 0, 0) [l0, l1, l2, l3, l4, l5, l6, ab_I z] st σ Q ↔ ab_Run X 273 163 (5, 0, 0) [l0, l1, l2, l3, l4, l5, l6, ab_I z] (ab_I z :: st) σ Q := ab_r_iload rfl kc_X13_year dX13_year_161
theorem rX13_year_163 : ab_Run X 273 163 (5, 0, 0) L (ab_I a :: st) σ Q ↔ (¬ a = 0 → ab_Run X 273 180 (5, 0, 0) L st σ Q) ∧ (¬ (¬ a = 0) → ab_Run X 273 166 (5, 0, 0) L st σ Q) := ab_r_if_ne rfl kc_X13_year dX13_year_163
theorem rX13_year_166 : ab_Run X 273 166 (5, 0, 0) [ab_R z, l1, l2, l3, l4, l5, l6, l7] st σ Q ↔ z ≠ 0 ∧ ab_Run X 273 167 (5, 0, 0) [ab_R z, l1, l2, l3, l4, l5, l6, l7] (ab_R z :: st) σ Q := ab_r_aload_n rfl kc_X13_year dX13_year_166
theorem rX13_year_167 : ab_Run X 273 167 (5, 0, 0) L (ab_R a :: st) σ Q ↔ (ab_sh σ a).1 = 14 ∧ ab_Run X 273 170 (5, 0, 0) L (ab_R (ab_rd σ a 36) :: st) σ Q := gF_13_50 ko_X13_year kc_X13_year dX13_year_167
theorem rX13_year_170 : ab_Run X 273 170 (5, 0, 0) [l0, l1, l2, l3, l4, ab_I z, l6, l7] st σ Q ↔ ab_Run X 273 172 (5, 0, 0) [l0, l1, l2, l3, l4, ab_I z, l6, l7] (ab_I z :: st) σ Q := ab_r_iload rfl kc_X13_year dX13_year_170
theorem rX13_year_172 : ab_Run X 273 172 (5, 0, 0) L (ab_I b :: ab_R a :: st) σ Q ↔ ab_Run X 273 173 (5, 0, 0) L (ab_I b :: ab_R a :: ab_I b :: ab_R a :: st) σ Q := ab_r_dup2 kc_X13_year dX13_year_172
theorem rX13_year_173 : ab_Run X 273 173 (5, 0, 0) L (ab_I i :: ab_R a :: st) σ Q ↔ ((ab_sh σ a).1 = 21 ∧ 0 ≤ i ∧ i < (ab_sh σ a).2) ∧ ab_Run X 273 174 (5, 0, 0) L (ab_I (ab_rd σ a i) :: st) σ Q := ab_r_iaload (by decide) kc_X13_year dX13_year_173
theorem rX13_year_174 : ab_Run X 273 174 (5, 0, 0) L st σ Q ↔ ab_Run X 273 175 (5, 0, 0) L (ab_I 1 :: st) σ Q := ab_r_iconst (by decide) kc_X13_year dX13_year_174
theorem rX13_year_175 : ab_Run X 273 175 (5, 0, 0) L (ab_I b :: ab_I a :: st) σ Q ↔ ab_Run X 273 176 (5, 0, 0) L (ab_I (ab_w32 (a + b)) :: st) σ Q := ab_r_iadd kc_X13_year dX13_year_175
theorem rX13_year_176 : ab_Run X 273 176 (5, 0, 0) L (ab_I v :: ab_I i :: ab_R a :: st) σ Q ↔ ((ab_sh σ a).1 = 21 ∧ 0 ≤ i ∧ i < (ab_sh σ a).2) ∧ ab_Run X 273 177 (5, 0, 0) L st (ab_wr σ a i v) Q := ab_r_iastore kc_X13_year dX13_year_176
theorem rX13_year_177 : ab_Run X 273 177 (5, 0, 0) L st σ Q ↔ ab_Run X 273 197 (5, 0, 0) L st σ Q := ab_r_goto rfl kc_X13_year dX13_year_177
theorem rX13_year_180 : ab_Run X 273 180 (5, 0, 0) [l0, l1, l2, l3, l4, l5, l6, ab_I z] st σ Q ↔ ab_Run X 273 182 (5, 0, 0) [l0, l1, l2, l3, l4, l5, l6, ab_I z] (ab_I z :: st) σ Q := ab_r_iload rfl kc_X13_year dX13_year_180
theorem rX13_year_182 : ab_Run X 273 182 (5, 0, 0) L st σ Q ↔ ab_Run X 273 183 (5, 0, 0) L (ab_I 1 :: st) σ Q := ab_r_iconst (by decide) kc_X13_year dX13_year_182
theorem rX13_year_183 : ab_Run X 273 183 (5, 0, 0) L (ab_I b :: ab_I a :: st) σ Q ↔ (¬ a = b → ab_Run X 273 197 (5, 0, 0) L st σ Q) ∧ (¬ (¬ a = b) → ab_Run X 273 186 (5, 0, 0) L st σ Q) := ab_r_icmp_ne rfl kc_X13_year dX13_year_183
theorem rX13_year_186 : ab_Run X 273 186 (5, 0, 0) [ab_R z, l1, l2, l3, l4, l5, l6, l7] st σ Q ↔ z ≠ 0 ∧ ab_Run X 273 187 (5, 0, 0) [ab_R z, l1, l2, l3, l4, l5, l6, l7] (ab_R z :: st) σ Q := ab_r_aload_n rfl kc_X13_year dX13_year_186
theorem rX13_year_187 : ab_Run X 273 187 (5, 0, 0) L (ab_R a :: st) σ Q ↔ (ab_sh σ a).1 = 14 ∧ ab_Run X 273 190 (5, 0, 0) L (ab_R (ab_rd σ a 36) :: st) σ Q := gF_13_50 ko_X13_year kc_X13_year dX13_year_187
theorem rX13_year_190 : ab_Run X 273 190 (5, 0, 0) [l0, l1, l2, l3, l4, l5, ab_I z, l7] st σ Q ↔ ab_Run X 273 192 (5, 0, 0) [l0, l1, l2, l3, l4, l5, ab_I z, l7] (ab_I z :: st) σ Q := ab_r_iload rfl kc_X13_year dX13_year_190
theorem rX13_year_192 : ab_Run X 273 192 (5, 0, 0) L (ab_I b :: ab_R a :: st) σ Q ↔ ab_Run X 273 193 (5, 0, 0) L (ab_I b :: ab_R a :: ab_I b :: ab_R a :: st) σ Q := ab_r_dup2 kc_X13_year dX13_year_192
theorem rX13_year_193 : ab_Run X 273 193 (5, 0, 0) L (ab_I i :: ab_R a :: st) σ Q ↔ ((ab_sh σ a).1 = 21 ∧ 0 ≤ i ∧ i < (ab_sh σ a).2) ∧ ab_Run X 273 194 (5, 0, 0) L (ab_I (ab_rd σ a i) :: st) σ Q := ab_r_iaload (by decide) kc_X13_year dX13_year_193
theorem rX13_year_194 : ab_Run X 273 194 (5, 0, 0) L st σ Q ↔ ab_Run X 273 195 (5, 0, 0) L (ab_I 1 :: st) σ Q := ab_r_iconst (by decide) kc_X13_year dX13_year_194
theorem rX13_year_195 : ab_Run X 273 195 (5, 0, 0) L (ab_I b :: ab_I a :: st) σ Q ↔ ab_Run X 273 196 (5, 0, 0) L (ab_I (ab_w32 (a + b)) :: st) σ Q := ab_r_iadd kc_X13_year dX13_year_195
theorem rX13_year_196 : ab_Run X 273 196 (5, 0, 0) L (ab_I v :: ab_I i :: ab_R a :: st) σ Q ↔ ((ab_sh σ a).1 = 21 ∧ 0 ≤ i ∧ i < (ab_sh σ a).2) ∧ ab_Run X 273 197 (5, 0, 0) L st (ab_wr σ a i v) Q := ab_r_iastore kc_X13_year dX13_year_196
theorem rX13_year_197 : ab_Run X 273 197 (5, 0, 0) [l0, l1, l2, ab_I z, l4, l5, l6, l7] st σ Q ↔ (!ab_isJ l2) = true ∧ ab_Run X 273 200 (5, 0, 0) [l0, l1, l2, ab_I (ab_w32 (z + 1)), l4, l5, l6, l7] st σ Q := ab_r_iinc rfl (by decide) kc_X13_year dX13_year_197
theorem rX13_year_200 : ab_Run X 273 200 (5, 0, 0) L st σ Q ↔ ab_Run X 273 38 (5, 0, 0) L st σ Q := ab_r_goto rfl kc_X13_year dX13_year_200
theorem rX13_year_203 : ab_Run X 273 203 (5, 0, 0) L [] σ Q ↔ Q none σ := ab_r_return rfl kc_X13_year dX13_year_203
theorem kc_X13_refusesYear : ab_code 274 = cX13_refusesYear := rfl
theorem ko_X13_refusesYear : ab_ow 274 = 13 := rfl
theorem rX13_refusesYear_0 : ab_Run X 274 0 (1, 0, 0) [l0, ab_I z, l2, l3] st σ Q ↔ ab_Run X 274 1 (1, 0, 0) [l0, ab_I z, l2, l3] (ab_I z :: st) σ Q := ab_r_iload_n rfl kc_X13_refusesYear dX13_refusesYear_0
theorem rX13_refusesYear_1 : ab_Run X 274 1 (1, 0, 0) L (ab_I a :: st) σ Q ↔ (¬ a = 0 → ab_Run X 274 8 (1, 0, 0) L st σ Q) ∧ (¬ (¬ a = 0) → ab_Run X 274 4 (1, 0, 0) L st σ Q) := ab_r_if_ne rfl kc_X13_refusesYear dX13_refusesYear_1
theorem rX13_refusesYear_4 : ab_Run X 274 4 (1, 0, 0) L st σ Q ↔ ab_Run X 274 5 (1, 0, 0) L (ab_I 1 :: st) σ Q := ab_r_iconst (by decide) kc_X13_refusesYear dX13_refusesYear_4
theorem rX13_refusesYear_5 : ab_Run X 274 5 (1, 0, 0) L st σ Q ↔ ab_Run X 274 35 (1, 0, 0) L st σ Q := ab_r_goto rfl kc_X13_refusesYear dX13_refusesYear_5
theorem rX13_refusesYear_8 : ab_Run X 274 8 (1, 0, 0) [l0, l1, ab_I z, l3] st σ Q ↔ ab_Run X 274 9 (1, 0, 0) [l0, l1, ab_I z, l3] (ab_I z :: st) σ Q := ab_r_iload_n rfl kc_X13_refusesYear dX13_refusesYear_8
theorem rX13_refusesYear_9 : ab_Run X 274 9 (1, 0, 0) L st σ Q ↔ ab_Run X 274 10 (1, 0, 0) L (ab_I 0 :: st) σ Q := ab_r_iconst (by decide) kc_X13_refusesYear dX13_refusesYear_9
theorem rX13_refusesYear_10 : ab_Run X 274 10 (1, 0, 0) L st σ Q ↔ ab_Run X 274 13 (1, 0, 0) L (ab_I 65536 :: st) σ Q := ab_r_ldc_w rfl ko_X13_refusesYear (by decide +kernel) kc_X13_refusesYear dX13_refusesYear_10
theorem rX13_refusesYear_13 : ab_Run X 274 13 (1, 0, 0) L (ab_I x3 :: ab_I x2 :: ab_I x1 :: st) σ Q ↔ ab_cats st ≤ 8 ∧ ab_Do X 163 [ab_I x1, ab_I x2, ab_I x3] σ (fun r σ' => ab_Run X 274 16 (1, 0, 0) L (ab_psh r st) σ' Q) := ab_r_callS (w := [ab_I x3, ab_I x2, ab_I x1]) (as := [ab_I x1, ab_I x2, ab_I x3]) (b1 := (0, 0, 0)) (by decide) ko_X13_refusesYear qM_13_138 (by decide) rfl rfl rfl rfl (by decide) (Nat.le_of_ble_eq_true rfl) kc_X13_refusesYear dX13_refusesYear_13
theorem rX13_refusesYear_16 : ab_Run X 274 16 (1, 0, 0) L (ab_I a :: st) σ Q ↔ (a = 0 → ab_Run X 274 34 (1, 0, 0) L st σ Q) ∧ (¬ (a = 0) → ab_Run X 274 19 (1, 0, 0) L st σ Q) := ab_r_if_eq rfl kc_X13_refusesYear dX13_refusesYear_16
theorem rX13_refusesYear_19 : ab_Run X 274 19 (1, 0, 0) [l0, l1, l2, ab_I z] st σ Q ↔ ab_Run X 274 20 (1, 0, 0) [l0, l1, l2, ab_I z] (ab_I z :: st) σ Q := ab_r_iload_n rfl kc_X13_refusesYear dX13_refusesYear_19
theorem rX13_refusesYear_20 : ab_Run X 274 20 (1, 0, 0) L st σ Q ↔ ab_Run X 274 21 (1, 0, 0) L (ab_I 0 :: st) σ Q := ab_r_iconst (by decide) kc_X13_refusesYear dX13_refusesYear_20
theorem rX13_refusesYear_21 : ab_Run X 274 21 (1, 0, 0) L st σ Q ↔ ab_Run X 274 24 (1, 0, 0) L (ab_I 200 :: st) σ Q := ab_r_sipush (by decide) kc_X13_refusesYear dX13_refusesYear_21
theorem rX13_refusesYear_24 : ab_Run X 274 24 (1, 0, 0) L (ab_I x3 :: ab_I x2 :: ab_I x1 :: st) σ Q ↔ ab_cats st ≤ 8 ∧ ab_Do X 163 [ab_I x1, ab_I x2, ab_I x3] σ (fun r σ' => ab_Run X 274 27 (1, 0, 0) L (ab_psh r st) σ' Q) := ab_r_callS (w := [ab_I x3, ab_I x2, ab_I x1]) (as := [ab_I x1, ab_I x2, ab_I x3]) (b1 := (0, 0, 0)) (by decide) ko_X13_refusesYear qM_13_138 (by decide) rfl rfl rfl rfl (by decide) (Nat.le_of_ble_eq_true rfl) kc_X13_refusesYear dX13_refusesYear_24
theorem rX13_refusesYear_27 : ab_Run X 274 27 (1, 0, 0) L (ab_I a :: st) σ Q ↔ (a = 0 → ab_Run X 274 34 (1, 0, 0) L st σ Q) ∧ (¬ (a = 0) → ab_Run X 274 30 (1, 0, 0) L st σ Q) := ab_r_if_eq rfl kc_X13_refusesYear dX13_refusesYear_27
theorem rX13_refusesYear_30 : ab_Run X 274 30 (1, 0, 0) L st σ Q ↔ ab_Run X 274 31 (1, 0, 0) L (ab_I 0 :: st) σ Q := ab_r_iconst (by decide) kc_X13_refusesYear dX13_refusesYear_30
theorem rX13_refusesYear_31 : ab_Run X 274 31 (1, 0, 0) L st σ Q ↔ ab_Run X 274 35 (1, 0, 0) L st σ Q := ab_r_goto rfl kc_X13_refusesYear dX13_refusesYear_31
theorem rX13_refusesYear_34 : ab_Run X 274 34 (1, 0, 0) L st σ Q ↔ ab_Run X 274 35 (1, 0, 0) L (ab_I 2 :: st) σ Q := ab_r_iconst (by decide) kc_X13_refusesYear dX13_refusesYear_34
theorem rX13_refusesYear_35 : ab_Run X 274 35 (1, 0, 0) L [ab_I v] σ Q ↔ Q (some (ab_I v)) σ := ab_r_ireturnI rfl kc_X13_refusesYear dX13_refusesYear_35
theorem kc_X13_wins : ab_code 275 = cX13_wins := rfl
theorem ko_X13_wins : ab_ow 275 = 13 := rfl
theorem rX13_wins_0 : ab_Run X 275 0 (6, 0, 0) [ab_R z, l1, l2, l3, l4] st σ Q ↔ z ≠ 0 ∧ ab_Run X 275 1 (6, 0, 0) [ab_R z, l1, l2, l3, l4] (ab_R z :: st) σ Q := ab_r_aload_n rfl kc_X13_wins dX13_wins_0
theorem rX13_wins_1 : ab_Run X 275 1 (6, 0, 0) L st σ Q ↔ ab_Run X 275 2 (6, 0, 0) L (ab_I 0 :: st) σ Q := ab_r_iconst (by decide) kc_X13_wins dX13_wins_1
theorem rX13_wins_2 : ab_Run X 275 2 (6, 0, 0) L (ab_I z :: ab_R a :: st) σ Q ↔ (ab_sh σ a).1 = 14 ∧ ab_Run X 275 5 (6, 0, 0) L st (ab_wr σ a 0 z) Q := sF_13_53 ko_X13_wins kc_X13_wins dX13_wins_2
theorem rX13_wins_5 : ab_Run X 275 5 (6, 0, 0) [ab_R z, l1, l2, l3, l4] st σ Q ↔ z ≠ 0 ∧ ab_Run X 275 6 (6, 0, 0) [ab_R z, l1, l2, l3, l4] (ab_R z :: st) σ Q := ab_r_aload_n rfl kc_X13_wins dX13_wins_5
theorem rX13_wins_6 : ab_Run X 275 6 (6, 0, 0) [ab_R z, l1, l2, l3, l4] st σ Q ↔ z ≠ 0 ∧ ab_Run X 275 7 (6, 0, 0) [ab_R z, l1, l2, l3, l4] (ab_R z :: st) σ Q := ab_r_aload_n rfl kc_X13_wins dX13_wins_6
theorem rX13_wins_7 : ab_Run X 275 7 (6, 0, 0) [l0, ab_I z, l2, l3, l4] st σ Q ↔ ab_Run X 275 8 (6, 0, 0) [l0, ab_I z, l2, l3, l4] (ab_I z :: st) σ Q := ab_r_iload_n rfl kc_X13_wins dX13_wins_7
theorem rX13_wins_8 : ab_Run X 275 8 (6, 0, 0) L (ab_I x1 :: ab_R a :: st) σ Q ↔ ((ab_sh σ a).1 = 14 ∧ ab_cats st ≤ 8) ∧ ab_Do X 213 [ab_R a, ab_I x1] σ (fun r σ' => ab_Run X 275 11 (6, 0, 0) L (ab_psh r st) σ' Q) := ab_r_callV (w := [ab_I x1]) (as := [ab_I x1]) (b1 := (0, 0, 0)) 0 (Or.inl rfl) (by decide) ko_X13_wins qM_13_441 (by decide) rfl rfl rfl rfl rfl (by decide) (Nat.le_of_ble_eq_true rfl) kc_X13_wins dX13_wins_8
theorem rX13_wins_11 : ab_Run X 275 11 (6, 0, 0) [l0, l1, ab_I z, l3, l4] st σ Q ↔ ab_Run X 275 12 (6, 0, 0) [l0, l1, ab_I z, l3, l4] (ab_I z :: st) σ Q := ab_r_iload_n rfl kc_X13_wins dX13_wins_11
theorem rX13_wins_12 : ab_Run X 275 12 (6, 0, 0) [l0, l1, l2, ab_I z, l4] st σ Q ↔ ab_Run X 275 13 (6, 0, 0) [l0, l1, l2, ab_I z, l4] (ab_I z :: st) σ Q := ab_r_iload_n rfl kc_X13_wins dX13_wins_12
theorem rX13_wins_13 : ab_Run X 275 13 (6, 0, 0) L (ab_I x3 :: ab_I x2 :: ab_I x1 :: ab_R a :: st) σ Q ↔ ((ab_sh σ a).1 = 14 ∧ ab_cats st ≤ 8) ∧ ab_Do X 274 [ab_R a, ab_I x1, ab_I x2, ab_I x3] σ (fun r σ' => ab_Run X 275 16 (6, 0, 0) L (ab_psh r st) σ' Q) := ab_r_callV (w := [ab_I x3, ab_I x2, ab_I x1]) (as := [ab_I x1, ab_I x2, ab_I x3]) (b1 := (1, 0, 0)) 0 (Or.inl rfl) (by decide) ko_X13_wins qM_13_583 (by decide) rfl rfl rfl rfl rfl (by decide) (Nat.le_of_ble_eq_true rfl) kc_X13_wins dX13_wins_13
theorem rX13_wins_16 : ab_Run X 275 16 (6, 0, 0) [l0, l1, l2, l3, l4] (ab_I z :: st) σ Q ↔ (!ab_isJ l3) = true ∧ ab_Run X 275 18 (6, 0, 0) [l0, l1, l2, l3, ab_I z] st σ Q := ab_r_istore (Nat.le_of_ble_eq_true rfl) kc_X13_wins dX13_wins_16
theorem rX13_wins_18 : ab_Run X 275 18 (6, 0, 0) [l0, l1, l2, l3, ab_I z] st σ Q ↔ ab_Run X 275 20 (6, 0, 0) [l0, l1, l2, l3, ab_I z] (ab_I z :: st) σ Q := ab_r_iload rfl kc_X13_wins dX13_wins_18
theorem rX13_wins_20 : ab_Run X 275 20 (6, 0, 0) L (ab_I a :: st) σ Q ↔ (a ≤ 0 → ab_Run X 275 30 (6, 0, 0) L st σ Q) ∧ (¬ (a ≤ 0) → ab_Run X 275 23 (6, 0, 0) L st σ Q) := ab_r_if_le rfl kc_X13_wins dX13_wins_20
theorem rX13_wins_23 : ab_Run X 275 23 (6, 0, 0) [ab_R z, l1, l2, l3, l4] st σ Q ↔ z ≠ 0 ∧ ab_Run X 275 24 (6, 0, 0) [ab_R z, l1, l2, l3, l4] (ab_R z :: st) σ Q := ab_r_aload_n rfl kc_X13_wins dX13_wins_23
theorem rX13_wins_24 : ab_Run X 275 24 (6, 0, 0) [l0, l1, l2, l3, ab_I z] st σ Q ↔ ab_Run X 275 26 (6, 0, 0) [l0, l1, l2, l3, ab_I z] (ab_I z :: st) σ Q := ab_r_iload rfl kc_X13_wins dX13_wins_24
theorem rX13_wins_26 : ab_Run X 275 26 (6, 0, 0) L (ab_I x1 :: ab_R a :: st) σ Q ↔ ((ab_sh σ a).1 = 14 ∧ ab_cats st ≤ 8) ∧ ab_Do X 159 [ab_R a, ab_I x1] σ (fun r σ' => ab_Run X 275 29 (6, 0, 0) L (ab_psh r st) σ' Q) := ab_r_callV (w := [ab_I x1]) (as := [ab_I x1]) (b1 := (0, 0, 0)) 0 (Or.inl rfl) (by decide) ko_X13_wins qM_13_59 (by decide) rfl rfl rfl rfl rfl (by decide) (Nat.le_of_ble_eq_true rfl) kc_X13_wins dX13_wins_26
theorem rX13_wins_29 : ab_Run X 275 29 (6, 0, 0) L [ab_I v] σ Q ↔ Q (some (ab_I v)) σ := ab_r_ireturnI rfl kc_X13_wins dX13_wins_29
theorem rX13_wins_30 : ab_Run X 275 30 (6, 0, 0) [ab_R z, l1, l2, l3, l4] st σ Q ↔ z ≠ 0 ∧ ab_Run X 275 31 (6, 0, 0) [ab_R z, l1, l2, l3, l4] (ab_R z :: st) σ Q := ab_r_aload_n rfl kc_X13_wins dX13_wins_30
theorem rX13_wins_31 : ab_Run X 275 31 (6, 0, 0) [l0, l1, ab_I z, l3, l4] st σ Q ↔ ab_Run X 275 32 (6, 0, 0) [l0, l1, ab_I z, l3, l4] (ab_I z :: st) σ Q := ab_r_iload_n rfl kc_X13_wins dX13_wins_31
theorem rX13_wins_32 : ab_Run X 275 32 (6, 0, 0) [l0, l1, l2, ab_I z, l4] st σ Q ↔ ab_Run X 275 33 (6, 0, 0) [l0, l1, l2, ab_I z, l4] (ab_I z :: st) σ Q := ab_r_iload_n rfl kc_X13_wins dX13_wins_32
theorem rX13_wins_33 : ab_Run X 275 33 (6, 0, 0) L (ab_I x2 :: ab_I x1 :: ab_R a :: st) σ Q ↔ ((ab_sh σ a).1 = 14 ∧ ab_cats st ≤ 8) ∧ ab_Do X 273 [ab_R a, ab_I x1, ab_I x2] σ (fun r σ' => ab_Run X 275 36 (6, 0, 0) L (ab_psh r st) σ' Q) := ab_r_callV (w := [ab_I x2, ab_I x1]) (as := [ab_I x1, ab_I x2]) (b1 := (5, 0, 0)) 0 (Or.inl rfl) (by decide) ko_X13_wins qM_13_587 (by decide) rfl rfl rfl rfl rfl (by decide) (Nat.le_of_ble_eq_true rfl) kc_X13_wins dX13_wins_33
theorem rX13_wins_36 : ab_Run X 275 36 (6, 0, 0) [ab_R z, l1, l2, l3, l4] st σ Q ↔ z ≠ 0 ∧ ab_Run X 275 37 (6, 0, 0) [ab_R z, l1, l2, l3, l4] (ab_R z :: st) σ Q := ab_r_aload_n rfl kc_X13_wins dX13_wins_36
theorem rX13_wins_37 : ab_Run X 275 37 (6, 0, 0) [ab_R z, l1, l2, l3, l4] st σ Q ↔ z ≠ 0 ∧ ab_Run X 275 38 (6, 0, 0) [ab_R z, l1, l2, l3, l4] (ab_R z :: st) σ Q := ab_r_aload_n rfl kc_X13_wins dX13_wins_37
theorem rX13_wins_38 : ab_Run X 275 38 (6, 0, 0) L (ab_R a :: st) σ Q ↔ (ab_sh σ a).1 = 14 ∧ ab_Run X 275 41 (6, 0, 0) L (ab_R (ab_rd σ a 36) :: st) σ Q := gF_13_50 ko_X13_wins kc_X13_wins dX13_wins_38
theorem rX13_wins_41 : ab_Run X 275 41 (6, 0, 0) [l0, ab_I z, l2, l3, l4] st σ Q ↔ ab_Run X 275 42 (6, 0, 0) [l0, ab_I z, l2, l3, l4] (ab_I z :: st) σ Q := ab_r_iload_n rfl kc_X13_wins dX13_wins_41
theorem rX13_wins_42 : ab_Run X 275 42 (6, 0, 0) L (ab_I i :: ab_R a :: st) σ Q ↔ ((ab_sh σ a).1 = 21 ∧ 0 ≤ i ∧ i < (ab_sh σ a).2) ∧ ab_Run X 275 43 (6, 0, 0) L (ab_I (ab_rd σ a i) :: st) σ Q := ab_r_iaload (by decide) kc_X13_wins dX13_wins_42
theorem rX13_wins_43 : ab_Run X 275 43 (6, 0, 0) L (ab_I x1 :: ab_R a :: st) σ Q ↔ ((ab_sh σ a).1 = 14 ∧ ab_cats st ≤ 8) ∧ ab_Do X 161 [ab_R a, ab_I x1] σ (fun r σ' => ab_Run X 275 46 (6, 0, 0) L (ab_psh r st) σ' Q) := ab_r_callV (w := [ab_I x1]) (as := [ab_I x1]) (b1 := (0, 0, 0)) 0 (Or.inl rfl) (by decide) ko_X13_wins qM_13_63 (by decide) rfl rfl rfl rfl rfl (by decide) (Nat.le_of_ble_eq_true rfl) kc_X13_wins dX13_wins_43
theorem rX13_wins_46 : ab_Run X 275 46 (6, 0, 0) L [ab_I v] σ Q ↔ Q (some (ab_I v)) σ := ab_r_ireturnI rfl kc_X13_wins dX13_wins_46
theorem kc_X13_spoilt : ab_code 276 = cX13_spoilt := rfl
theorem ko_X13_spoilt : ab_ow 276 = 13 := rfl
theorem rX13_spoilt_0 : ab_Run X 276 0 (6, 0, 0) [ab_R z, l1, l2, l3, l4] st σ Q ↔ z ≠ 0 ∧ ab_Run X 276 1 (6, 0, 0) [ab_R z, l1, l2, l3, l4] (ab_R z :: st) σ Q := ab_r_aload_n rfl kc_X13_spoilt dX13_spoilt_0
theorem rX13_spoilt_1 : ab_Run X 276 1 (6, 0, 0) L st σ Q ↔ ab_Run X 276 2 (6, 0, 0) L (ab_I 0 :: st) σ Q := ab_r_iconst (by decide) kc_X13_spoilt dX13_spoilt_1
theorem rX13_spoilt_2 : ab_Run X 276 2 (6, 0, 0) L (ab_I z :: ab_R a :: st) σ Q ↔ (ab_sh σ a).1 = 14 ∧ ab_Run X 276 5 (6, 0, 0) L st (ab_wr σ a 0 z) Q := sF_13_53 ko_X13_spoilt kc_X13_spoilt dX13_spoilt_2
theorem rX13_spoilt_5 : ab_Run X 276 5 (6, 0, 0) [ab_R z, l1, l2, l3, l4] st σ Q ↔ z ≠ 0 ∧ ab_Run X 276 6 (6, 0, 0) [ab_R z, l1, l2, l3, l4] (ab_R z :: st) σ Q := ab_r_aload_n rfl kc_X13_spoilt dX13_spoilt_5
theorem rX13_spoilt_6 : ab_Run X 276 6 (6, 0, 0) [ab_R z, l1, l2, l3, l4] st σ Q ↔ z ≠ 0 ∧ ab_Run X 276 7 (6, 0, 0) [ab_R z, l1, l2, l3, l4] (ab_R z :: st) σ Q := ab_r_aload_n rfl kc_X13_spoilt dX13_spoilt_6
theorem rX13_spoilt_7 : ab_Run X 276 7 (6, 0, 0) L (ab_R a :: st) σ Q ↔ (ab_sh σ a).1 = 14 ∧ ab_Run X 276 10 (6, 0, 0) L (ab_R (ab_rd σ a 3) :: st) σ Q := gF_13_373 ko_X13_spoilt kc_X13_spoilt dX13_spoilt_7
theorem rX13_spoilt_10 : ab_Run X 276 10 (6, 0, 0) L (ab_R a :: st) σ Q ↔ (a = 0 → ab_Run X 276 17 (6, 0, 0) L st σ Q) ∧ (¬ (a = 0) → ab_Run X 276 13 (6, 0, 0) L st σ Q) := ab_r_ifnull rfl kc_X13_spoilt dX13_spoilt_10
theorem rX13_spoilt_13 : ab_Run X 276 13 (6, 0, 0) L st σ Q ↔ ab_Run X 276 14 (6, 0, 0) L (ab_I 1 :: st) σ Q := ab_r_iconst (by decide) kc_X13_spoilt dX13_spoilt_13
theorem rX13_spoilt_14 : ab_Run X 276 14 (6, 0, 0) L st σ Q ↔ ab_Run X 276 18 (6, 0, 0) L st σ Q := ab_r_goto rfl kc_X13_spoilt dX13_spoilt_14
theorem rX13_spoilt_17 : ab_Run X 276 17 (6, 0, 0) L st σ Q ↔ ab_Run X 276 18 (6, 0, 0) L (ab_I 0 :: st) σ Q := ab_r_iconst (by decide) kc_X13_spoilt dX13_spoilt_17
theorem rX13_spoilt_18 : ab_Run X 276 18 (6, 0, 0) [l0, ab_I z, l2, l3, l4] st σ Q ↔ ab_Run X 276 19 (6, 0, 0) [l0, ab_I z, l2, l3, l4] (ab_I z :: st) σ Q := ab_r_iload_n rfl kc_X13_spoilt dX13_spoilt_18
theorem rX13_spoilt_19 : ab_Run X 276 19 (6, 0, 0) [l0, l1, ab_I z, l3, l4] st σ Q ↔ ab_Run X 276 20 (6, 0, 0) [l0, l1, ab_I z, l3, l4] (ab_I z :: st) σ Q := ab_r_iload_n rfl kc_X13_spoilt dX13_spoilt_19
theorem rX13_spoilt_20 : ab_Run X 276 20 (6, 0, 0) L (ab_I x3 :: ab_I x2 :: ab_I x1 :: ab_R a :: st) σ Q ↔ ((ab_sh σ a).1 = 14 ∧ ab_cats st ≤ 8) ∧ ab_Do X 274 [ab_R a, ab_I x1, ab_I x2, ab_I x3] σ (fun r σ' => ab_Run X 276 23 (6, 0, 0) L (ab_psh r st) σ' Q) := ab_r_callV (w := [ab_I x3, ab_I x2, ab_I x1]) (as := [ab_I x1, ab_I x2, ab_I x3]) (b1 := (1, 0, 0)) 0 (Or.inl rfl) (by decide) ko_X13_spoilt qM_13_583 (by decide) rfl rfl rfl rfl rfl (by decide) (Nat.le_of_ble_eq_true rfl) kc_X13_spoilt dX13_spoilt_20
theorem rX13_spoilt_23 : ab_Run X 276 23 (6, 0, 0) [l0, l1, l2, l3, l4] (ab_I z :: st) σ Q ↔ (!ab_isJ l3) = true ∧ ab_Run X 276 25 (6, 0, 0) [l0, l1, l2, l3, ab_I z] st σ Q := ab_r_istore (Nat.le_of_ble_eq_true rfl) kc_X13_spoilt dX13_spoilt_23
theorem rX13_spoilt_25 : ab_Run X 276 25 (6, 0, 0) [l0, l1, l2, l3, ab_I z] st σ Q ↔ ab_Run X 276 27 (6, 0, 0) [l0, l1, l2, l3, ab_I z] (ab_I z :: st) σ Q := ab_r_iload rfl kc_X13_spoilt dX13_spoilt_25
theorem rX13_spoilt_27 : ab_Run X 276 27 (6, 0, 0) L (ab_I a :: st) σ Q ↔ (a ≤ 0 → ab_Run X 276 37 (6, 0, 0) L st σ Q) ∧ (¬ (a ≤ 0) → ab_Run X 276 30 (6, 0, 0) L st σ Q) := ab_r_if_le rfl kc_X13_spoilt dX13_spoilt_27
theorem rX13_spoilt_30 : ab_Run X 276 30 (6, 0, 0) [ab_R z, l1, l2, l3, l4] st σ Q ↔ z ≠ 0 ∧ ab_Run X 276 31 (6, 0, 0) [ab_R z, l1, l2, l3, l4] (ab_R z :: st) σ Q := ab_r_aload_n rfl kc_X13_spoilt dX13_spoilt_30
theorem rX13_spoilt_31 : ab_Run X 276 31 (6, 0, 0) [l0, l1, l2, l3, ab_I z] st σ Q ↔ ab_Run X 276 33 (6, 0, 0) [l0, l1, l2, l3, ab_I z] (ab_I z :: st) σ Q := ab_r_iload rfl kc_X13_spoilt dX13_spoilt_31
theorem rX13_spoilt_33 : ab_Run X 276 33 (6, 0, 0) L (ab_I x1 :: ab_R a :: st) σ Q ↔ ((ab_sh σ a).1 = 14 ∧ ab_cats st ≤ 8) ∧ ab_Do X 159 [ab_R a, ab_I x1] σ (fun r σ' => ab_Run X 276 36 (6, 0, 0) L (ab_psh r st) σ' Q) := ab_r_callV (w := [ab_I x1]) (as := [ab_I x1]) (b1 := (0, 0, 0)) 0 (Or.inl rfl) (by decide) ko_X13_spoilt qM_13_59 (by decide) rfl rfl rfl rfl rfl (by decide) (Nat.le_of_ble_eq_true rfl) kc_X13_spoilt dX13_spoilt_33
theorem rX13_spoilt_36 : ab_Run X 276 36 (6, 0, 0) L [ab_I v] σ Q ↔ Q (some (ab_I v)) σ := ab_r_ireturnI rfl kc_X13_spoilt dX13_spoilt_36
theorem rX13_spoilt_37 : ab_Run X 276 37 (6, 0, 0) [ab_R z, l1, l2, l3, l4] st σ Q ↔ z ≠ 0 ∧ ab_Run X 276 38 (6, 0, 0) [ab_R z, l1, l2, l3, l4] (ab_R z :: st) σ Q := ab_r_aload_n rfl kc_X13_spoilt dX13_spoilt_37
theorem rX13_spoilt_38 : ab_Run X 276 38 (6, 0, 0) [l0, ab_I z, l2, l3, l4] st σ Q ↔ ab_Run X 276 39 (6, 0, 0) [l0, ab_I z, l2, l3, l4] (ab_I z :: st) σ Q := ab_r_iload_n rfl kc_X13_spoilt dX13_spoilt_38
theorem rX13_spoilt_39 : ab_Run X 276 39 (6, 0, 0) [l0, l1, ab_I z, l3, l4] st σ Q ↔ ab_Run X 276 40 (6, 0, 0) [l0, l1, ab_I z, l3, l4] (ab_I z :: st) σ Q := ab_r_iload_n rfl kc_X13_spoilt dX13_spoilt_39
theorem rX13_spoilt_40 : ab_Run X 276 40 (6, 0, 0) L (ab_I x2 :: ab_I x1 :: ab_R a :: st) σ Q ↔ ((ab_sh σ a).1 = 14 ∧ ab_cats st ≤ 8) ∧ ab_Do X 273 [ab_R a, ab_I x1, ab_I x2] σ (fun r σ' => ab_Run X 276 43 (6, 0, 0) L (ab_psh r st) σ' Q) := ab_r_callV (w := [ab_I x2, ab_I x1]) (as := [ab_I x1, ab_I x2]) (b1 := (5, 0, 0)) 0 (Or.inl rfl) (by decide) ko_X13_spoilt qM_13_587 (by decide) rfl rfl rfl rfl rfl (by decide) (Nat.le_of_ble_eq_true rfl) kc_X13_spoilt dX13_spoilt_40
theorem rX13_spoilt_43 : ab_Run X 276 43 (6, 0, 0) [ab_R z, l1, l2, l3, l4] st σ Q ↔ z ≠ 0 ∧ ab_Run X 276 44 (6, 0, 0) [ab_R z, l1, l2, l3, l4] (ab_R z :: st) σ Q := ab_r_aload_n rfl kc_X13_spoilt dX13_spoilt_43
theorem rX13_spoilt_44 : ab_Run X 276 44 (6, 0, 0) [l0, l1, l2, ab_I z, l4] st σ Q ↔ ab_Run X 276 45 (6, 0, 0) [l0, l1, l2, ab_I z, l4] (ab_I z :: st) σ Q := ab_r_iload_n rfl kc_X13_spoilt dX13_spoilt_44
theorem rX13_spoilt_45 : ab_Run X 276 45 (6, 0, 0) L (ab_I a :: st) σ Q ↔ (a = 0 → ab_Run X 276 55 (6, 0, 0) L st σ Q) ∧ (¬ (a = 0) → ab_Run X 276 48 (6, 0, 0) L st σ Q) := ab_r_if_eq rfl kc_X13_spoilt dX13_spoilt_45
theorem rX13_spoilt_48 : ab_Run X 276 48 (6, 0, 0) [ab_R z, l1, l2, l3, l4] st σ Q ↔ z ≠ 0 ∧ ab_Run X 276 49 (6, 0, 0) [ab_R z, l1, l2, l3, l4] (ab_R z :: st) σ Q := ab_r_aload_n rfl kc_X13_spoilt dX13_spoilt_48
theorem rX13_spoilt_49 : ab_Run X 276 49 (6, 0, 0) L (ab_R a :: st) σ Q ↔ (ab_sh σ a).1 = 14 ∧ ab_Run X 276 52 (6, 0, 0) L (ab_I (ab_rd σ a 38) :: st) σ Q := gF_13_576 ko_X13_spoilt kc_X13_spoilt dX13_spoilt_49
theorem rX13_spoilt_52 : ab_Run X 276 52 (6, 0, 0) L st σ Q ↔ ab_Run X 276 59 (6, 0, 0) L st σ Q := ab_r_goto rfl kc_X13_spoilt dX13_spoilt_52
theorem rX13_spoilt_55 : ab_Run X 276 55 (6, 0, 0) [ab_R z, l1, l2, l3, l4] st σ Q ↔ z ≠ 0 ∧ ab_Run X 276 56 (6, 0, 0) [ab_R z, l1, l2, l3, l4] (ab_R z :: st) σ Q := ab_r_aload_n rfl kc_X13_spoilt dX13_spoilt_55
theorem rX13_spoilt_56 : ab_Run X 276 56 (6, 0, 0) L (ab_R a :: st) σ Q ↔ (ab_sh σ a).1 = 14 ∧ ab_Run X 276 59 (6, 0, 0) L (ab_I (ab_rd σ a 37) :: st) σ Q := gF_13_573 ko_X13_spoilt kc_X13_spoilt dX13_spoilt_56
theorem rX13_spoilt_59 : ab_Run X 276 59 (6, 0, 0) L (ab_I x1 :: ab_R a :: st) σ Q ↔ ((ab_sh σ a).1 = 14 ∧ ab_cats st ≤ 8) ∧ ab_Do X 161 [ab_R a, ab_I x1] σ (fun r σ' => ab_Run X 276 62 (6, 0, 0) L (ab_psh r st) σ' Q) := ab_r_callV (w := [ab_I x1]) (as := [ab_I x1]) (b1 := (0, 0, 0)) 0 (Or.inl rfl) (by decide) ko_X13_spoilt qM_13_63 (by decide) rfl rfl rfl rfl rfl (by decide) (Nat.le_of_ble_eq_true rfl) kc_X13_spoilt dX13_spoilt_59
theorem rX13_spoilt_62 : ab_Run X 276 62 (6, 0, 0) L [ab_I v] σ Q ↔ Q (some (ab_I v)) σ := ab_r_ireturnI rfl kc_X13_spoilt dX13_spoilt_62
theorem kc_X13_keeps : ab_code 277 = cX13_keeps := rfl
theorem ko_X13_keeps : ab_ow 277 = 13 := rfl
theorem rX13_keeps_0 : ab_Run X 277 0 (0, 0, 0) [ab_R z, l1] st σ Q ↔ z ≠ 0 ∧ ab_Run X 277 1 (0, 0, 0) [ab_R z, l1] (ab_R z :: st) σ Q := ab_r_aload_n rfl kc_X13_keeps dX13_keeps_0
theorem rX13_keeps_1 : ab_Run X 277 1 (0, 0, 0) L (ab_R a :: st) σ Q ↔ (ab_sh σ a).1 = 14 ∧ ab_Run X 277 4 (0, 0, 0) L (ab_I (ab_rd σ a 19) :: st) σ Q := gF_13_375 ko_X13_keeps kc_X13_keeps dX13_keeps_1
theorem rX13_keeps_4 : ab_Run X 277 4 (0, 0, 0) L st σ Q ↔ ab_Run X 277 6 (0, 0, 0) L (ab_I 16 :: st) σ Q := ab_r_bipush (by decide) kc_X13_keeps dX13_keeps_4
theorem rX13_keeps_6 : ab_Run X 277 6 (0, 0, 0) L (ab_I b :: ab_I a :: st) σ Q ↔ (¬ a = b → ab_Run X 277 49 (0, 0, 0) L st σ Q) ∧ (¬ (¬ a = b) → ab_Run X 277 9 (0, 0, 0) L st σ Q) := ab_r_icmp_ne rfl kc_X13_keeps dX13_keeps_6
theorem rX13_keeps_9 : ab_Run X 277 9 (0, 0, 0) L st σ Q ↔ ab_Run X 277 10 (0, 0, 0) L (ab_I 0 :: st) σ Q := ab_r_iconst (by decide) kc_X13_keeps dX13_keeps_9
theorem rX13_keeps_10 : ab_Run X 277 10 (0, 0, 0) [l0, l1] (ab_I z :: st) σ Q ↔ (!ab_isJ l0) = true ∧ ab_Run X 277 11 (0, 0, 0) [l0, ab_I z] st σ Q := ab_r_istore_n (Nat.le_of_ble_eq_true rfl) kc_X13_keeps dX13_keeps_10
theorem rX13_keeps_11 : ab_Run X 277 11 (0, 0, 0) [l0, ab_I z] st σ Q ↔ ab_Run X 277 12 (0, 0, 0) [l0, ab_I z] (ab_I z :: st) σ Q := ab_r_iload_n rfl kc_X13_keeps dX13_keeps_11
theorem rX13_keeps_12 : ab_Run X 277 12 (0, 0, 0) L st σ Q ↔ ab_Run X 277 15 (0, 0, 0) L (ab_I 270 :: st) σ Q := ab_r_sipush (by decide) kc_X13_keeps dX13_keeps_12
theorem rX13_keeps_15 : ab_Run X 277 15 (0, 0, 0) L (ab_I b :: ab_I a :: st) σ Q ↔ (b ≤ a → ab_Run X 277 39 (0, 0, 0) L st σ Q) ∧ (¬ (b ≤ a) → ab_Run X 277 18 (0, 0, 0) L st σ Q) := ab_r_icmp_ge rfl kc_X13_keeps dX13_keeps_15
theorem rX13_keeps_18 : ab_Run X 277 18 (0, 0, 0) [ab_R z, l1] st σ Q ↔ z ≠ 0 ∧ ab_Run X 277 19 (0, 0, 0) [ab_R z, l1] (ab_R z :: st) σ Q := ab_r_aload_n rfl kc_X13_keeps dX13_keeps_18
theorem rX13_keeps_19 : ab_Run X 277 19 (0, 0, 0) L (ab_R a :: st) σ Q ↔ (ab_sh σ a).1 = 14 ∧ ab_Run X 277 22 (0, 0, 0) L (ab_R (ab_rd σ a 17) :: st) σ Q := gF_13_21 ko_X13_keeps kc_X13_keeps dX13_keeps_19
theorem rX13_keeps_22 : ab_Run X 277 22 (0, 0, 0) [l0, ab_I z] st σ Q ↔ ab_Run X 277 23 (0, 0, 0) [l0, ab_I z] (ab_I z :: st) σ Q := ab_r_iload_n rfl kc_X13_keeps dX13_keeps_22
theorem rX13_keeps_23 : ab_Run X 277 23 (0, 0, 0) [ab_R z, l1] st σ Q ↔ z ≠ 0 ∧ ab_Run X 277 24 (0, 0, 0) [ab_R z, l1] (ab_R z :: st) σ Q := ab_r_aload_n rfl kc_X13_keeps dX13_keeps_23
theorem rX13_keeps_24 : ab_Run X 277 24 (0, 0, 0) L (ab_R a :: st) σ Q ↔ (ab_sh σ a).1 = 14 ∧ ab_Run X 277 27 (0, 0, 0) L (ab_R (ab_rd σ a 17) :: st) σ Q := gF_13_21 ko_X13_keeps kc_X13_keeps dX13_keeps_24
theorem rX13_keeps_27 : ab_Run X 277 27 (0, 0, 0) [l0, ab_I z] st σ Q ↔ ab_Run X 277 28 (0, 0, 0) [l0, ab_I z] (ab_I z :: st) σ Q := ab_r_iload_n rfl kc_X13_keeps dX13_keeps_27
theorem rX13_keeps_28 : ab_Run X 277 28 (0, 0, 0) L st σ Q ↔ ab_Run X 277 30 (0, 0, 0) L (ab_I 18 :: st) σ Q := ab_r_bipush (by decide) kc_X13_keeps dX13_keeps_28
theorem rX13_keeps_30 : ab_Run X 277 30 (0, 0, 0) L (ab_I b :: ab_I a :: st) σ Q ↔ ab_Run X 277 31 (0, 0, 0) L (ab_I (ab_w32 (a + b)) :: st) σ Q := ab_r_iadd kc_X13_keeps dX13_keeps_30
theorem rX13_keeps_31 : ab_Run X 277 31 (0, 0, 0) L (ab_I i :: ab_R a :: st) σ Q ↔ ((ab_sh σ a).1 = 21 ∧ 0 ≤ i ∧ i < (ab_sh σ a).2) ∧ ab_Run X 277 32 (0, 0, 0) L (ab_I (ab_rd σ a i) :: st) σ Q := ab_r_iaload (by decide) kc_X13_keeps dX13_keeps_31
theorem rX13_keeps_32 : ab_Run X 277 32 (0, 0, 0) L (ab_I v :: ab_I i :: ab_R a :: st) σ Q ↔ ((ab_sh σ a).1 = 21 ∧ 0 ≤ i ∧ i < (ab_sh σ a).2) ∧ ab_Run X 277 33 (0, 0, 0) L st (ab_wr σ a i v) Q := ab_r_iastore kc_X13_keeps dX13_keeps_32
theorem rX13_keeps_33 : ab_Run X 277 33 (0, 0, 0) [l0, ab_I z] st σ Q ↔ (!ab_isJ l0) = true ∧ ab_Run X 277 36 (0, 0, 0) [l0, ab_I (ab_w32 (z + 1))] st σ Q := ab_r_iinc rfl (by decide) kc_X13_keeps dX13_keeps_33
theorem rX13_keeps_36 : ab_Run X 277 36 (0, 0, 0) L st σ Q ↔ ab_Run X 277 11 (0, 0, 0) L st σ Q := ab_r_goto rfl kc_X13_keeps dX13_keeps_36
theorem rX13_keeps_39 : ab_Run X 277 39 (0, 0, 0) [ab_R z, l1] st σ Q ↔ z ≠ 0 ∧ ab_Run X 277 40 (0, 0, 0) [ab_R z, l1] (ab_R z :: st) σ Q := ab_r_aload_n rfl kc_X13_keeps dX13_keeps_39
theorem rX13_keeps_40I : ab_Run X 277 40 (0, 0, 0) L (ab_I a :: st) σ Q ↔ ab_Run X 277 41 (0, 0, 0) L (ab_I a :: ab_I a :: st) σ Q := ab_r_dupI kc_X13_keeps dX13_keeps_40
theorem rX13_keeps_40R : ab_Run X 277 40 (0, 0, 0) L (ab_R a :: st) σ Q ↔ ab_Run X 277 41 (0, 0, 0) L (ab_R a :: ab_R a :: st) σ Q := ab_r_dupR kc_X13_keeps dX13_keeps_40
theorem rX13_keeps_41 : ab_Run X 277 41 (0, 0, 0) L (ab_R a :: st) σ Q ↔ (ab_sh σ a).1 = 14 ∧ ab_Run X 277 44 (0, 0, 0) L (ab_I (ab_rd σ a 19) :: st) σ Q := gF_13_375 ko_X13_keeps kc_X13_keeps dX13_keeps_41
theorem rX13_keeps_44 : ab_Run X 277 44 (0, 0, 0) L st σ Q ↔ ab_Run X 277 45 (0, 0, 0) L (ab_I 1 :: st) σ Q := ab_r_iconst (by decide) kc_X13_keeps dX13_keeps_44
theorem rX13_keeps_45 : ab_Run X 277 45 (0, 0, 0) L (ab_I b :: ab_I a :: st) σ Q ↔ ab_Run X 277 46 (0, 0, 0) L (ab_I (ab_w32 (a - b)) :: st) σ Q := ab_r_isub kc_X13_keeps dX13_keeps_45
theorem rX13_keeps_46 : ab_Run X 277 46 (0, 0, 0) L (ab_I z :: ab_R a :: st) σ Q ↔ (ab_sh σ a).1 = 14 ∧ ab_Run X 277 49 (0, 0, 0) L st (ab_wr σ a 19 z) Q := sF_13_375 ko_X13_keeps kc_X13_keeps dX13_keeps_46
theorem rX13_keeps_49 : ab_Run X 277 49 (0, 0, 0) L st σ Q ↔ ab_Run X 277 50 (0, 0, 0) L (ab_I 0 :: st) σ Q := ab_r_iconst (by decide) kc_X13_keeps dX13_keeps_49
theorem rX13_keeps_50 : ab_Run X 277 50 (0, 0, 0) [l0, l1] (ab_I z :: st) σ Q ↔ (!ab_isJ l0) = true ∧ ab_Run X 277 51 (0, 0, 0) [l0, ab_I z] st σ Q := ab_r_istore_n (Nat.le_of_ble_eq_true rfl) kc_X13_keeps dX13_keeps_50
theorem rX13_keeps_51 : ab_Run X 277 51 (0, 0, 0) [l0, ab_I z] st σ Q ↔ ab_Run X 277 52 (0, 0, 0) [l0, ab_I z] (ab_I z :: st) σ Q := ab_r_iload_n rfl kc_X13_keeps dX13_keeps_51
theorem rX13_keeps_52 : ab_Run X 277 52 (0, 0, 0) L st σ Q ↔ ab_Run X 277 54 (0, 0, 0) L (ab_I 18 :: st) σ Q := ab_r_bipush (by decide) kc_X13_keeps dX13_keeps_52
theorem rX13_keeps_54 : ab_Run X 277 54 (0, 0, 0) L (ab_I b :: ab_I a :: st) σ Q ↔ (b ≤ a → ab_Run X 277 83 (0, 0, 0) L st σ Q) ∧ (¬ (b ≤ a) → ab_Run X 277 57 (0, 0, 0) L st σ Q) := ab_r_icmp_ge rfl kc_X13_keeps dX13_keeps_54
theorem rX13_keeps_57 : ab_Run X 277 57 (0, 0, 0) [ab_R z, l1] st σ Q ↔ z ≠ 0 ∧ ab_Run X 277 58 (0, 0, 0) [ab_R z, l1] (ab_R z :: st) σ Q := ab_r_aload_n rfl kc_X13_keeps dX13_keeps_57
theorem rX13_keeps_58 : ab_Run X 277 58 (0, 0, 0) L (ab_R a :: st) σ Q ↔ (ab_sh σ a).1 = 14 ∧ ab_Run X 277 61 (0, 0, 0) L (ab_R (ab_rd σ a 17) :: st) σ Q := gF_13_21 ko_X13_keeps kc_X13_keeps dX13_keeps_58
theorem rX13_keeps_61 : ab_Run X 277 61 (0, 0, 0) L st σ Q ↔ ab_Run X 277 63 (0, 0, 0) L (ab_I 18 :: st) σ Q := ab_r_bipush (by decide) kc_X13_keeps dX13_keeps_61
theorem rX13_keeps_63 : ab_Run X 277 63 (0, 0, 0) [ab_R z, l1] st σ Q ↔ z ≠ 0 ∧ ab_Run X 277 64 (0, 0, 0) [ab_R z, l1] (ab_R z :: st) σ Q := ab_r_aload_n rfl kc_X13_keeps dX13_keeps_63
theorem rX13_keeps_64 : ab_Run X 277 64 (0, 0, 0) L (ab_R a :: st) σ Q ↔ (ab_sh σ a).1 = 14 ∧ ab_Run X 277 67 (0, 0, 0) L (ab_I (ab_rd σ a 19) :: st) σ Q := gF_13_375 ko_X13_keeps kc_X13_keeps dX13_keeps_64
theorem rX13_keeps_67 : ab_Run X 277 67 (0, 0, 0) L (ab_I b :: ab_I a :: st) σ Q ↔ ab_Run X 277 68 (0, 0, 0) L (ab_I (ab_w32 (a * b)) :: st) σ Q := ab_r_imul kc_X13_keeps dX13_keeps_67
theorem rX13_keeps_68 : ab_Run X 277 68 (0, 0, 0) [l0, ab_I z] st σ Q ↔ ab_Run X 277 69 (0, 0, 0) [l0, ab_I z] (ab_I z :: st) σ Q := ab_r_iload_n rfl kc_X13_keeps dX13_keeps_68
theorem rX13_keeps_69 : ab_Run X 277 69 (0, 0, 0) L (ab_I b :: ab_I a :: st) σ Q ↔ ab_Run X 277 70 (0, 0, 0) L (ab_I (ab_w32 (a + b)) :: st) σ Q := ab_r_iadd kc_X13_keeps dX13_keeps_69
theorem rX13_keeps_70 : ab_Run X 277 70 (0, 0, 0) [ab_R z, l1] st σ Q ↔ z ≠ 0 ∧ ab_Run X 277 71 (0, 0, 0) [ab_R z, l1] (ab_R z :: st) σ Q := ab_r_aload_n rfl kc_X13_keeps dX13_keeps_70
theorem rX13_keeps_71 : ab_Run X 277 71 (0, 0, 0) L (ab_R a :: st) σ Q ↔ (ab_sh σ a).1 = 14 ∧ ab_Run X 277 74 (0, 0, 0) L (ab_R (ab_rd σ a 16) :: st) σ Q := gF_13_17 ko_X13_keeps kc_X13_keeps dX13_keeps_71
theorem rX13_keeps_74 : ab_Run X 277 74 (0, 0, 0) [l0, ab_I z] st σ Q ↔ ab_Run X 277 75 (0, 0, 0) [l0, ab_I z] (ab_I z :: st) σ Q := ab_r_iload_n rfl kc_X13_keeps dX13_keeps_74
theorem rX13_keeps_75 : ab_Run X 277 75 (0, 0, 0) L (ab_I i :: ab_R a :: st) σ Q ↔ ((ab_sh σ a).1 = 21 ∧ 0 ≤ i ∧ i < (ab_sh σ a).2) ∧ ab_Run X 277 76 (0, 0, 0) L (ab_I (ab_rd σ a i) :: st) σ Q := ab_r_iaload (by decide) kc_X13_keeps dX13_keeps_75
theorem rX13_keeps_76 : ab_Run X 277 76 (0, 0, 0) L (ab_I v :: ab_I i :: ab_R a :: st) σ Q ↔ ((ab_sh σ a).1 = 21 ∧ 0 ≤ i ∧ i < (ab_sh σ a).2) ∧ ab_Run X 277 77 (0, 0, 0) L st (ab_wr σ a i v) Q := ab_r_iastore kc_X13_keeps dX13_keeps_76
theorem rX13_keeps_77 : ab_Run X 277 77 (0, 0, 0) [l0, ab_I z] st σ Q ↔ (!ab_isJ l0) = true ∧ ab_Run X 277 80 (0, 0, 0) [l0, ab_I (ab_w32 (z + 1))] st σ Q := ab_r_iinc rfl (by decide) kc_X13_keeps dX13_keeps_77
theorem rX13_keeps_80 : ab_Run X 277 80 (0, 0, 0) L st σ Q ↔ ab_Run X 277 51 (0, 0, 0) L st σ Q := ab_r_goto rfl kc_X13_keeps dX13_keeps_80
theorem rX13_keeps_83 : ab_Run X 277 83 (0, 0, 0) [ab_R z, l1] st σ Q ↔ z ≠ 0 ∧ ab_Run X 277 84 (0, 0, 0) [ab_R z, l1] (ab_R z :: st) σ Q := ab_r_aload_n rfl kc_X13_keeps dX13_keeps_83
theorem rX13_keeps_84I : ab_Run X 277 84 (0, 0, 0) L (ab_I a :: st) σ Q ↔ ab_Run X 277 85 (0, 0, 0) L (ab_I a :: ab_I a :: st) σ Q := ab_r_dupI kc_X13_keeps dX13_keeps_84
theorem rX13_keeps_84R : ab_Run X 277 84 (0, 0, 0) L (ab_R a :: st) σ Q ↔ ab_Run X 277 85 (0, 0, 0) L (ab_R a :: ab_R a :: st) σ Q := ab_r_dupR kc_X13_keeps dX13_keeps_84
theorem rX13_keeps_85 : ab_Run X 277 85 (0, 0, 0) L (ab_R a :: st) σ Q ↔ (ab_sh σ a).1 = 14 ∧ ab_Run X 277 88 (0, 0, 0) L (ab_I (ab_rd σ a 19) :: st) σ Q := gF_13_375 ko_X13_keeps kc_X13_keeps dX13_keeps_85
theorem rX13_keeps_88 : ab_Run X 277 88 (0, 0, 0) L st σ Q ↔ ab_Run X 277 89 (0, 0, 0) L (ab_I 1 :: st) σ Q := ab_r_iconst (by decide) kc_X13_keeps dX13_keeps_88
theorem rX13_keeps_89 : ab_Run X 277 89 (0, 0, 0) L (ab_I b :: ab_I a :: st) σ Q ↔ ab_Run X 277 90 (0, 0, 0) L (ab_I (ab_w32 (a + b)) :: st) σ Q := ab_r_iadd kc_X13_keeps dX13_keeps_89
theorem rX13_keeps_90 : ab_Run X 277 90 (0, 0, 0) L (ab_I z :: ab_R a :: st) σ Q ↔ (ab_sh σ a).1 = 14 ∧ ab_Run X 277 93 (0, 0, 0) L st (ab_wr σ a 19 z) Q := sF_13_375 ko_X13_keeps kc_X13_keeps dX13_keeps_90
theorem rX13_keeps_93 : ab_Run X 277 93 (0, 0, 0) L [] σ Q ↔ Q none σ := ab_r_return rfl kc_X13_keeps dX13_keeps_93
theorem kc_X13_dry : ab_code 278 = cX13_dry := rfl
theorem ko_X13_dry : ab_ow 278 = 13 := rfl
theorem rX13_dry_0 : ab_Run X 278 0 (2, 0, 0) [ab_R z, l1, l2] st σ Q ↔ z ≠ 0 ∧ ab_Run X 278 1 (2, 0, 0) [ab_R z, l1, l2] (ab_R z :: st) σ Q := ab_r_aload_n rfl kc_X13_dry dX13_dry_0
theorem rX13_dry_1 : ab_Run X 278 1 (2, 0, 0) L st σ Q ↔ ab_Run X 278 2 (2, 0, 0) L (ab_I 0 :: st) σ Q := ab_r_iconst (by decide) kc_X13_dry dX13_dry_1
theorem rX13_dry_2 : ab_Run X 278 2 (2, 0, 0) L (ab_I z :: ab_R a :: st) σ Q ↔ (ab_sh σ a).1 = 14 ∧ ab_Run X 278 5 (2, 0, 0) L st (ab_wr σ a 0 z) Q := sF_13_53 ko_X13_dry kc_X13_dry dX13_dry_2
theorem rX13_dry_5 : ab_Run X 278 5 (2, 0, 0) [ab_R z, l1, l2] st σ Q ↔ z ≠ 0 ∧ ab_Run X 278 6 (2, 0, 0) [ab_R z, l1, l2] (ab_R z :: st) σ Q := ab_r_aload_n rfl kc_X13_dry dX13_dry_5
theorem rX13_dry_6 : ab_Run X 278 6 (2, 0, 0) L (ab_R a :: st) σ Q ↔ (ab_sh σ a).1 = 14 ∧ ab_Run X 278 9 (2, 0, 0) L (ab_R (ab_rd σ a 3) :: st) σ Q := gF_13_373 ko_X13_dry kc_X13_dry dX13_dry_6
theorem rX13_dry_9 : ab_Run X 278 9 (2, 0, 0) L (ab_R a :: st) σ Q ↔ (¬ a = 0 → ab_Run X 278 18 (2, 0, 0) L st σ Q) ∧ (¬ (¬ a = 0) → ab_Run X 278 12 (2, 0, 0) L st σ Q) := ab_r_ifnonnull rfl kc_X13_dry dX13_dry_9
theorem rX13_dry_12 : ab_Run X 278 12 (2, 0, 0) [ab_R z, l1, l2] st σ Q ↔ z ≠ 0 ∧ ab_Run X 278 13 (2, 0, 0) [ab_R z, l1, l2] (ab_R z :: st) σ Q := ab_r_aload_n rfl kc_X13_dry dX13_dry_12
theorem rX13_dry_13 : ab_Run X 278 13 (2, 0, 0) L st σ Q ↔ ab_Run X 278 14 (2, 0, 0) L (ab_I 1 :: st) σ Q := ab_r_iconst (by decide) kc_X13_dry dX13_dry_13
theorem rX13_dry_14 : ab_Run X 278 14 (2, 0, 0) L (ab_I x1 :: ab_R a :: st) σ Q ↔ ((ab_sh σ a).1 = 14 ∧ ab_cats st ≤ 8) ∧ ab_Do X 160 [ab_R a, ab_I x1] σ (fun r σ' => ab_Run X 278 17 (2, 0, 0) L (ab_psh r st) σ' Q) := ab_r_callV (w := [ab_I x1]) (as := [ab_I x1]) (b1 := (1, 0, 0)) 0 (Or.inl rfl) (by decide) ko_X13_dry qM_13_590 (by decide) rfl rfl rfl rfl rfl (by decide) (Nat.le_of_ble_eq_true rfl) kc_X13_dry dX13_dry_14
theorem rX13_dry_17 : ab_Run X 278 17 (2, 0, 0) L [ab_I v] σ Q ↔ (v = 0 ∨ v = 1) ∧ Q (some (ab_I v)) σ := ab_r_ireturnZ rfl kc_X13_dry dX13_dry_17
theorem rX13_dry_18 : ab_Run X 278 18 (2, 0, 0) [l0, ab_I z, l2] st σ Q ↔ ab_Run X 278 19 (2, 0, 0) [l0, ab_I z, l2] (ab_I z :: st) σ Q := ab_r_iload_n rfl kc_X13_dry dX13_dry_18
theorem rX13_dry_19 : ab_Run X 278 19 (2, 0, 0) L st σ Q ↔ ab_Run X 278 20 (2, 0, 0) L (ab_I 1 :: st) σ Q := ab_r_iconst (by decide) kc_X13_dry dX13_dry_19
theorem rX13_dry_20 : ab_Run X 278 20 (2, 0, 0) L st σ Q ↔ ab_Run X 278 22 (2, 0, 0) L (ab_I 24 :: st) σ Q := ab_r_bipush (by decide) kc_X13_dry dX13_dry_20
theorem rX13_dry_22 : ab_Run X 278 22 (2, 0, 0) L (ab_I x3 :: ab_I x2 :: ab_I x1 :: st) σ Q ↔ ab_cats st ≤ 8 ∧ ab_Do X 163 [ab_I x1, ab_I x2, ab_I x3] σ (fun r σ' => ab_Run X 278 25 (2, 0, 0) L (ab_psh r st) σ' Q) := ab_r_callS (w := [ab_I x3, ab_I x2, ab_I x1]) (as := [ab_I x1, ab_I x2, ab_I x3]) (b1 := (0, 0, 0)) (by decide) ko_X13_dry qM_13_138 (by decide) rfl rfl rfl rfl (by decide) (Nat.le_of_ble_eq_true rfl) kc_X13_dry dX13_dry_22
theorem rX13_dry_25 : ab_Run X 278 25 (2, 0, 0) L (ab_I a :: st) σ Q ↔ (¬ a = 0 → ab_Run X 278 34 (2, 0, 0) L st σ Q) ∧ (¬ (¬ a = 0) → ab_Run X 278 28 (2, 0, 0) L st σ Q) := ab_r_if_ne rfl kc_X13_dry dX13_dry_25
theorem rX13_dry_28 : ab_Run X 278 28 (2, 0, 0) [ab_R z, l1, l2] st σ Q ↔ z ≠ 0 ∧ ab_Run X 278 29 (2, 0, 0) [ab_R z, l1, l2] (ab_R z :: st) σ Q := ab_r_aload_n rfl kc_X13_dry dX13_dry_28
theorem rX13_dry_29 : ab_Run X 278 29 (2, 0, 0) L st σ Q ↔ ab_Run X 278 30 (2, 0, 0) L (ab_I 2 :: st) σ Q := ab_r_iconst (by decide) kc_X13_dry dX13_dry_29
theorem rX13_dry_30 : ab_Run X 278 30 (2, 0, 0) L (ab_I x1 :: ab_R a :: st) σ Q ↔ ((ab_sh σ a).1 = 14 ∧ ab_cats st ≤ 8) ∧ ab_Do X 160 [ab_R a, ab_I x1] σ (fun r σ' => ab_Run X 278 33 (2, 0, 0) L (ab_psh r st) σ' Q) := ab_r_callV (w := [ab_I x1]) (as := [ab_I x1]) (b1 := (1, 0, 0)) 0 (Or.inl rfl) (by decide) ko_X13_dry qM_13_590 (by decide) rfl rfl rfl rfl rfl (by decide) (Nat.le_of_ble_eq_true rfl) kc_X13_dry dX13_dry_30
theorem rX13_dry_33 : ab_Run X 278 33 (2, 0, 0) L [ab_I v] σ Q ↔ (v = 0 ∨ v = 1) ∧ Q (some (ab_I v)) σ := ab_r_ireturnZ rfl kc_X13_dry dX13_dry_33
theorem rX13_dry_34 : ab_Run X 278 34 (2, 0, 0) [ab_R z, l1, l2] st σ Q ↔ z ≠ 0 ∧ ab_Run X 278 35 (2, 0, 0) [ab_R z, l1, l2] (ab_R z :: st) σ Q := ab_r_aload_n rfl kc_X13_dry dX13_dry_34
theorem rX13_dry_35 : ab_Run X 278 35 (2, 0, 0) L (ab_R a :: st) σ Q ↔ ((ab_sh σ a).1 = 14 ∧ ab_cats st ≤ 8) ∧ ab_Do X 277 [ab_R a] σ (fun r σ' => ab_Run X 278 38 (2, 0, 0) L (ab_psh r st) σ' Q) := ab_r_callV (w := []) (as := []) (b1 := (0, 0, 0)) 0 (Or.inl rfl) (by decide) ko_X13_dry qM_13_593 (by decide) rfl rfl rfl rfl rfl (by decide) (Nat.le_of_ble_eq_true rfl) kc_X13_dry dX13_dry_35
theorem rX13_dry_38 : ab_Run X 278 38 (2, 0, 0) L st σ Q ↔ ab_Run X 278 39 (2, 0, 0) L (ab_I 0 :: st) σ Q := ab_r_iconst (by decide) kc_X13_dry dX13_dry_38
theorem rX13_dry_39 : ab_Run X 278 39 (2, 0, 0) [l0, l1, l2] (ab_I z :: st) σ Q ↔ (!ab_isJ l1) = true ∧ ab_Run X 278 40 (2, 0, 0) [l0, l1, ab_I z] st σ Q := ab_r_istore_n (Nat.le_of_ble_eq_true rfl) kc_X13_dry dX13_dry_39
theorem rX13_dry_40 : ab_Run X 278 40 (2, 0, 0) [l0, l1, ab_I z] st σ Q ↔ ab_Run X 278 41 (2, 0, 0) [l0, l1, ab_I z] (ab_I z :: st) σ Q := ab_r_iload_n rfl kc_X13_dry dX13_dry_40
theorem rX13_dry_41 : ab_Run X 278 41 (2, 0, 0) [ab_R z, l1, l2] st σ Q ↔ z ≠ 0 ∧ ab_Run X 278 42 (2, 0, 0) [ab_R z, l1, l2] (ab_R z :: st) σ Q := ab_r_aload_n rfl kc_X13_dry dX13_dry_41
theorem rX13_dry_42 : ab_Run X 278 42 (2, 0, 0) L (ab_R a :: st) σ Q ↔ (ab_sh σ a).1 = 14 ∧ ab_Run X 278 45 (2, 0, 0) L (ab_R (ab_rd σ a 3) :: st) σ Q := gF_13_373 ko_X13_dry kc_X13_dry dX13_dry_42
theorem rX13_dry_45 : ab_Run X 278 45 (2, 0, 0) L (ab_R a :: st) σ Q ↔ (ab_sh σ a).1 = 13 ∧ ab_Run X 278 48 (2, 0, 0) L (ab_I (ab_rd σ a 5) :: st) σ Q := gF_13_210 ko_X13_dry kc_X13_dry dX13_dry_45
theorem rX13_dry_48 : ab_Run X 278 48 (2, 0, 0) L (ab_I b :: ab_I a :: st) σ Q ↔ (b ≤ a → ab_Run X 278 109 (2, 0, 0) L st σ Q) ∧ (¬ (b ≤ a) → ab_Run X 278 51 (2, 0, 0) L st σ Q) := ab_r_icmp_ge rfl kc_X13_dry dX13_dry_48
theorem rX13_dry_51 : ab_Run X 278 51 (2, 0, 0) [ab_R z, l1, l2] st σ Q ↔ z ≠ 0 ∧ ab_Run X 278 52 (2, 0, 0) [ab_R z, l1, l2] (ab_R z :: st) σ Q := ab_r_aload_n rfl kc_X13_dry dX13_dry_51
theorem rX13_dry_52 : ab_Run X 278 52 (2, 0, 0) L (ab_R a :: st) σ Q ↔ (ab_sh σ a).1 = 14 ∧ ab_Run X 278 55 (2, 0, 0) L (ab_R (ab_rd σ a 16) :: st) σ Q := gF_13_17 ko_X13_dry kc_X13_dry dX13_dry_52
theorem rX13_dry_55 : ab_Run X 278 55 (2, 0, 0) L st σ Q ↔ ab_Run X 278 57 (2, 0, 0) L (ab_I 10 :: st) σ Q := ab_r_bipush (by decide) kc_X13_dry dX13_dry_55
theorem rX13_dry_57 : ab_Run X 278 57 (2, 0, 0) L (ab_I i :: ab_R a :: st) σ Q ↔ ((ab_sh σ a).1 = 21 ∧ 0 ≤ i ∧ i < (ab_sh σ a).2) ∧ ab_Run X 278 58 (2, 0, 0) L (ab_I (ab_rd σ a i) :: st) σ Q := ab_r_iaload (by decide) kc_X13_dry dX13_dry_57
theorem rX13_dry_58 : ab_Run X 278 58 (2, 0, 0) [l0, l1, ab_I z] st σ Q ↔ ab_Run X 278 59 (2, 0, 0) [l0, l1, ab_I z] (ab_I z :: st) σ Q := ab_r_iload_n rfl kc_X13_dry dX13_dry_58
theorem rX13_dry_59 : ab_Run X 278 59 (2, 0, 0) L (ab_I x2 :: ab_I x1 :: st) σ Q ↔ ab_cats st ≤ 8 ∧ ab_Do X 164 [ab_I x1, ab_I x2] σ (fun r σ' => ab_Run X 278 62 (2, 0, 0) L (ab_psh r st) σ' Q) := ab_r_callS (w := [ab_I x2, ab_I x1]) (as := [ab_I x1, ab_I x2]) (b1 := (0, 0, 0)) (by decide) ko_X13_dry qM_13_327 (by decide) rfl rfl rfl rfl (by decide) (Nat.le_of_ble_eq_true rfl) kc_X13_dry dX13_dry_59
theorem rX13_dry_62 : ab_Run X 278 62 (2, 0, 0) L (ab_I a :: st) σ Q ↔ (¬ a = 0 → ab_Run X 278 103 (2, 0, 0) L st σ Q) ∧ (¬ (¬ a = 0) → ab_Run X 278 65 (2, 0, 0) L st σ Q) := ab_r_if_ne rfl kc_X13_dry dX13_dry_62
theorem rX13_dry_65 : ab_Run X 278 65 (2, 0, 0) [ab_R z, l1, l2] st σ Q ↔ z ≠ 0 ∧ ab_Run X 278 66 (2, 0, 0) [ab_R z, l1, l2] (ab_R z :: st) σ Q := ab_r_aload_n rfl kc_X13_dry dX13_dry_65
theorem rX13_dry_66 : ab_Run X 278 66 (2, 0, 0) L (ab_R a :: st) σ Q ↔ (ab_sh σ a).1 = 14 ∧ ab_Run X 278 69 (2, 0, 0) L (ab_R (ab_rd σ a 16) :: st) σ Q := gF_13_17 ko_X13_dry kc_X13_dry dX13_dry_66
theorem rX13_dry_69 : ab_Run X 278 69 (2, 0, 0) L st σ Q ↔ ab_Run X 278 70 (2, 0, 0) L (ab_I 5 :: st) σ Q := ab_r_iconst (by decide) kc_X13_dry dX13_dry_69
theorem rX13_dry_70 : ab_Run X 278 70 (2, 0, 0) [l0, l1, ab_I z] st σ Q ↔ ab_Run X 278 71 (2, 0, 0) [l0, l1, ab_I z] (ab_I z :: st) σ Q := ab_r_iload_n rfl kc_X13_dry dX13_dry_70
theorem rX13_dry_71 : ab_Run X 278 71 (2, 0, 0) L (ab_I b :: ab_I a :: st) σ Q ↔ ab_Run X 278 72 (2, 0, 0) L (ab_I (ab_w32 (a + b)) :: st) σ Q := ab_r_iadd kc_X13_dry dX13_dry_71
theorem rX13_dry_72 : ab_Run X 278 72 (2, 0, 0) [ab_R z, l1, l2] st σ Q ↔ z ≠ 0 ∧ ab_Run X 278 73 (2, 0, 0) [ab_R z, l1, l2] (ab_R z :: st) σ Q := ab_r_aload_n rfl kc_X13_dry dX13_dry_72
theorem rX13_dry_73 : ab_Run X 278 73 (2, 0, 0) L (ab_R a :: st) σ Q ↔ (ab_sh σ a).1 = 14 ∧ ab_Run X 278 76 (2, 0, 0) L (ab_R (ab_rd σ a 16) :: st) σ Q := gF_13_17 ko_X13_dry kc_X13_dry dX13_dry_73
theorem rX13_dry_76 : ab_Run X 278 76 (2, 0, 0) L st σ Q ↔ ab_Run X 278 77 (2, 0, 0) L (ab_I 5 :: st) σ Q := ab_r_iconst (by decide) kc_X13_dry dX13_dry_76
theorem rX13_dry_77 : ab_Run X 278 77 (2, 0, 0) [l0, l1, ab_I z] st σ Q ↔ ab_Run X 278 78 (2, 0, 0) [l0, l1, ab_I z] (ab_I z :: st) σ Q := ab_r_iload_n rfl kc_X13_dry dX13_dry_77
theorem rX13_dry_78 : ab_Run X 278 78 (2, 0, 0) L (ab_I b :: ab_I a :: st) σ Q ↔ ab_Run X 278 79 (2, 0, 0) L (ab_I (ab_w32 (a + b)) :: st) σ Q := ab_r_iadd kc_X13_dry dX13_dry_78
theorem rX13_dry_79 : ab_Run X 278 79 (2, 0, 0) L (ab_I i :: ab_R a :: st) σ Q ↔ ((ab_sh σ a).1 = 21 ∧ 0 ≤ i ∧ i < (ab_sh σ a).2) ∧ ab_Run X 278 80 (2, 0, 0) L (ab_I (ab_rd σ a i) :: st) σ Q := ab_r_iaload (by decide) kc_X13_dry dX13_dry_79
theorem rX13_dry_80 : ab_Run X 278 80 (2, 0, 0) [l0, ab_I z, l2] st σ Q ↔ ab_Run X 278 81 (2, 0, 0) [l0, ab_I z, l2] (ab_I z :: st) σ Q := ab_r_iload_n rfl kc_X13_dry dX13_dry_80
theorem rX13_dry_81 : ab_Run X 278 81 (2, 0, 0) L (ab_I b :: ab_I a :: st) σ Q ↔ ab_Run X 278 82 (2, 0, 0) L (ab_I (ab_w32 (a + b)) :: st) σ Q := ab_r_iadd kc_X13_dry dX13_dry_81
theorem rX13_dry_82 : ab_Run X 278 82 (2, 0, 0) L st σ Q ↔ ab_Run X 278 84 (2, 0, 0) L (ab_I 24 :: st) σ Q := ab_r_bipush (by decide) kc_X13_dry dX13_dry_82
theorem rX13_dry_84 : ab_Run X 278 84 (2, 0, 0) L (ab_I b :: ab_I a :: st) σ Q ↔ (a ≤ b → ab_Run X 278 92 (2, 0, 0) L st σ Q) ∧ (¬ (a ≤ b) → ab_Run X 278 87 (2, 0, 0) L st σ Q) := ab_r_icmp_le rfl kc_X13_dry dX13_dry_84
theorem rX13_dry_87 : ab_Run X 278 87 (2, 0, 0) L st σ Q ↔ ab_Run X 278 89 (2, 0, 0) L (ab_I 24 :: st) σ Q := ab_r_bipush (by decide) kc_X13_dry dX13_dry_87
theorem rX13_dry_89 : ab_Run X 278 89 (2, 0, 0) L st σ Q ↔ ab_Run X 278 102 (2, 0, 0) L st σ Q := ab_r_goto rfl kc_X13_dry dX13_dry_89
theorem rX13_dry_92 : ab_Run X 278 92 (2, 0, 0) [ab_R z, l1, l2] st σ Q ↔ z ≠ 0 ∧ ab_Run X 278 93 (2, 0, 0) [ab_R z, l1, l2] (ab_R z :: st) σ Q := ab_r_aload_n rfl kc_X13_dry dX13_dry_92
theorem rX13_dry_93 : ab_Run X 278 93 (2, 0, 0) L (ab_R a :: st) σ Q ↔ (ab_sh σ a).1 = 14 ∧ ab_Run X 278 96 (2, 0, 0) L (ab_R (ab_rd σ a 16) :: st) σ Q := gF_13_17 ko_X13_dry kc_X13_dry dX13_dry_93
theorem rX13_dry_96 : ab_Run X 278 96 (2, 0, 0) L st σ Q ↔ ab_Run X 278 97 (2, 0, 0) L (ab_I 5 :: st) σ Q := ab_r_iconst (by decide) kc_X13_dry dX13_dry_96
theorem rX13_dry_97 : ab_Run X 278 97 (2, 0, 0) [l0, l1, ab_I z] st σ Q ↔ ab_Run X 278 98 (2, 0, 0) [l0, l1, ab_I z] (ab_I z :: st) σ Q := ab_r_iload_n rfl kc_X13_dry dX13_dry_97
theorem rX13_dry_98 : ab_Run X 278 98 (2, 0, 0) L (ab_I b :: ab_I a :: st) σ Q ↔ ab_Run X 278 99 (2, 0, 0) L (ab_I (ab_w32 (a + b)) :: st) σ Q := ab_r_iadd kc_X13_dry dX13_dry_98
theorem rX13_dry_99 : ab_Run X 278 99 (2, 0, 0) L (ab_I i :: ab_R a :: st) σ Q ↔ ((ab_sh σ a).1 = 21 ∧ 0 ≤ i ∧ i < (ab_sh σ a).2) ∧ ab_Run X 278 100 (2, 0, 0) L (ab_I (ab_rd σ a i) :: st) σ Q := ab_r_iaload (by decide) kc_X13_dry dX13_dry_99
theorem rX13_dry_100 : ab_Run X 278 100 (2, 0, 0) [l0, ab_I z, l2] st σ Q ↔ ab_Run X 278 101 (2, 0, 0) [l0, ab_I z, l2] (ab_I z :: st) σ Q := ab_r_iload_n rfl kc_X13_dry dX13_dry_100
theorem rX13_dry_101 : ab_Run X 278 101 (2, 0, 0) L (ab_I b :: ab_I a :: st) σ Q ↔ ab_Run X 278 102 (2, 0, 0) L (ab_I (ab_w32 (a + b)) :: st) σ Q := ab_r_iadd kc_X13_dry dX13_dry_101
theorem rX13_dry_102 : ab_Run X 278 102 (2, 0, 0) L (ab_I v :: ab_I i :: ab_R a :: st) σ Q ↔ ((ab_sh σ a).1 = 21 ∧ 0 ≤ i ∧ i < (ab_sh σ a).2) ∧ ab_Run X 278 103 (2, 0, 0) L st (ab_wr σ a i v) Q := ab_r_iastore kc_X13_dry dX13_dry_102
theorem rX13_dry_103 : ab_Run X 278 103 (2, 0, 0) [l0, l1, ab_I z] st σ Q ↔ (!ab_isJ l1) = true ∧ ab_Run X 278 106 (2, 0, 0) [l0, l1, ab_I (ab_w32 (z + 1))] st σ Q := ab_r_iinc rfl (by decide) kc_X13_dry dX13_dry_103
theorem rX13_dry_106 : ab_Run X 278 106 (2, 0, 0) L st σ Q ↔ ab_Run X 278 40 (2, 0, 0) L st σ Q := ab_r_goto rfl kc_X13_dry dX13_dry_106
theorem rX13_dry_109 : ab_Run X 278 109 (2, 0, 0) [ab_R z, l1, l2] st σ Q ↔ z ≠ 0 ∧ ab_Run X 278 110 (2, 0, 0) [ab_R z, l1, l2] (ab_R z :: st) σ Q := ab_r_aload_n rfl kc_X13_dry dX13_dry_109
theorem rX13_dry_110 : ab_Run X 278 110 (2, 0, 0) L (ab_R a :: st) σ Q ↔ ((ab_sh σ a).1 = 14 ∧ ab_cats st ≤ 8) ∧ ab_Do X 162 [ab_R a] σ (fun r σ' => ab_Run X 278 113 (2, 0, 0) L (ab_psh r st) σ' Q) := ab_r_callV (w := []) (as := []) (b1 := (1, 0, 0)) 0 (Or.inl rfl) (by decide) ko_X13_dry qM_13_596 (by decide) rfl rfl rfl rfl rfl (by decide) (Nat.le_of_ble_eq_true rfl) kc_X13_dry dX13_dry_110
theorem rX13_dry_113 : ab_Run X 278 113 (2, 0, 0) L [ab_I v] σ Q ↔ (v = 0 ∨ v = 1) ∧ Q (some (ab_I v)) σ := ab_r_ireturnZ rfl kc_X13_dry dX13_dry_113
theorem kc_X13_boil : ab_code 279 = cX13_boil := rfl
theorem ko_X13_boil : ab_ow 279 = 13 := rfl
theorem rX13_boil_0 : ab_Run X 279 0 (2, 0, 0) [ab_R z, l1] st σ Q ↔ z ≠ 0 ∧ ab_Run X 279 1 (2, 0, 0) [ab_R z, l1] (ab_R z :: st) σ Q := ab_r_aload_n rfl kc_X13_boil dX13_boil_0
theorem rX13_boil_1 : ab_Run X 279 1 (2, 0, 0) L st σ Q ↔ ab_Run X 279 2 (2, 0, 0) L (ab_I 0 :: st) σ Q := ab_r_iconst (by decide) kc_X13_boil dX13_boil_1
theorem rX13_boil_2 : ab_Run X 279 2 (2, 0, 0) L (ab_I z :: ab_R a :: st) σ Q ↔ (ab_sh σ a).1 = 14 ∧ ab_Run X 279 5 (2, 0, 0) L st (ab_wr σ a 0 z) Q := sF_13_53 ko_X13_boil kc_X13_boil dX13_boil_2
theorem rX13_boil_5 : ab_Run X 279 5 (2, 0, 0) [ab_R z, l1] st σ Q ↔ z ≠ 0 ∧ ab_Run X 279 6 (2, 0, 0) [ab_R z, l1] (ab_R z :: st) σ Q := ab_r_aload_n rfl kc_X13_boil dX13_boil_5
theorem rX13_boil_6 : ab_Run X 279 6 (2, 0, 0) [l0, ab_I z] st σ Q ↔ ab_Run X 279 7 (2, 0, 0) [l0, ab_I z] (ab_I z :: st) σ Q := ab_r_iload_n rfl kc_X13_boil dX13_boil_6
theorem rX13_boil_7 : ab_Run X 279 7 (2, 0, 0) L (ab_I x1 :: ab_R a :: st) σ Q ↔ ((ab_sh σ a).1 = 14 ∧ ab_cats st ≤ 8) ∧ ab_Do X 212 [ab_R a, ab_I x1] σ (fun r σ' => ab_Run X 279 10 (2, 0, 0) L (ab_psh r st) σ' Q) := ab_r_callV (w := [ab_I x1]) (as := [ab_I x1]) (b1 := (0, 0, 0)) 0 (Or.inl rfl) (by decide) ko_X13_boil qM_13_444 (by decide) rfl rfl rfl rfl rfl (by decide) (Nat.le_of_ble_eq_true rfl) kc_X13_boil dX13_boil_7
theorem rX13_boil_10 : ab_Run X 279 10 (2, 0, 0) L (ab_I a :: st) σ Q ↔ (¬ a = 0 → ab_Run X 279 19 (2, 0, 0) L st σ Q) ∧ (¬ (¬ a = 0) → ab_Run X 279 13 (2, 0, 0) L st σ Q) := ab_r_if_ne rfl kc_X13_boil dX13_boil_10
theorem rX13_boil_13 : ab_Run X 279 13 (2, 0, 0) [ab_R z, l1] st σ Q ↔ z ≠ 0 ∧ ab_Run X 279 14 (2, 0, 0) [ab_R z, l1] (ab_R z :: st) σ Q := ab_r_aload_n rfl kc_X13_boil dX13_boil_13
theorem rX13_boil_14 : ab_Run X 279 14 (2, 0, 0) L st σ Q ↔ ab_Run X 279 15 (2, 0, 0) L (ab_I 1 :: st) σ Q := ab_r_iconst (by decide) kc_X13_boil dX13_boil_14
theorem rX13_boil_15 : ab_Run X 279 15 (2, 0, 0) L (ab_I x1 :: ab_R a :: st) σ Q ↔ ((ab_sh σ a).1 = 14 ∧ ab_cats st ≤ 8) ∧ ab_Do X 160 [ab_R a, ab_I x1] σ (fun r σ' => ab_Run X 279 18 (2, 0, 0) L (ab_psh r st) σ' Q) := ab_r_callV (w := [ab_I x1]) (as := [ab_I x1]) (b1 := (1, 0, 0)) 0 (Or.inl rfl) (by decide) ko_X13_boil qM_13_590 (by decide) rfl rfl rfl rfl rfl (by decide) (Nat.le_of_ble_eq_true rfl) kc_X13_boil dX13_boil_15
theorem rX13_boil_18 : ab_Run X 279 18 (2, 0, 0) L [ab_I v] σ Q ↔ (v = 0 ∨ v = 1) ∧ Q (some (ab_I v)) σ := ab_r_ireturnZ rfl kc_X13_boil dX13_boil_18
theorem rX13_boil_19 : ab_Run X 279 19 (2, 0, 0) [ab_R z, l1] st σ Q ↔ z ≠ 0 ∧ ab_Run X 279 20 (2, 0, 0) [ab_R z, l1] (ab_R z :: st) σ Q := ab_r_aload_n rfl kc_X13_boil dX13_boil_19
theorem rX13_boil_20 : ab_Run X 279 20 (2, 0, 0) L (ab_R a :: st) σ Q ↔ (ab_sh σ a).1 = 14 ∧ ab_Run X 279 23 (2, 0, 0) L (ab_R (ab_rd σ a 16) :: st) σ Q := gF_13_17 ko_X13_boil kc_X13_boil dX13_boil_20
theorem rX13_boil_23 : ab_Run X 279 23 (2, 0, 0) L st σ Q ↔ ab_Run X 279 25 (2, 0, 0) L (ab_I 10 :: st) σ Q := ab_r_bipush (by decide) kc_X13_boil dX13_boil_23
theorem rX13_boil_25 : ab_Run X 279 25 (2, 0, 0) L (ab_I i :: ab_R a :: st) σ Q ↔ ((ab_sh σ a).1 = 21 ∧ 0 ≤ i ∧ i < (ab_sh σ a).2) ∧ ab_Run X 279 26 (2, 0, 0) L (ab_I (ab_rd σ a i) :: st) σ Q := ab_r_iaload (by decide) kc_X13_boil dX13_boil_25
theorem rX13_boil_26 : ab_Run X 279 26 (2, 0, 0) [l0, ab_I z] st σ Q ↔ ab_Run X 279 27 (2, 0, 0) [l0, ab_I z] (ab_I z :: st) σ Q := ab_r_iload_n rfl kc_X13_boil dX13_boil_26
theorem rX13_boil_27 : ab_Run X 279 27 (2, 0, 0) L (ab_I x2 :: ab_I x1 :: st) σ Q ↔ ab_cats st ≤ 8 ∧ ab_Do X 164 [ab_I x1, ab_I x2] σ (fun r σ' => ab_Run X 279 30 (2, 0, 0) L (ab_psh r st) σ' Q) := ab_r_callS (w := [ab_I x2, ab_I x1]) (as := [ab_I x1, ab_I x2]) (b1 := (0, 0, 0)) (by decide) ko_X13_boil qM_13_327 (by decide) rfl rfl rfl rfl (by decide) (Nat.le_of_ble_eq_true rfl) kc_X13_boil dX13_boil_27
theorem rX13_boil_30 : ab_Run X 279 30 (2, 0, 0) L (ab_I a :: st) σ Q ↔ (¬ a = 0 → ab_Run X 279 45 (2, 0, 0) L st σ Q) ∧ (¬ (¬ a = 0) → ab_Run X 279 33 (2, 0, 0) L st σ Q) := ab_r_if_ne rfl kc_X13_boil dX13_boil_30
theorem rX13_boil_33 : ab_Run X 279 33 (2, 0, 0) [ab_R z, l1] st σ Q ↔ z ≠ 0 ∧ ab_Run X 279 34 (2, 0, 0) [ab_R z, l1] (ab_R z :: st) σ Q := ab_r_aload_n rfl kc_X13_boil dX13_boil_33
theorem rX13_boil_34 : ab_Run X 279 34 (2, 0, 0) L (ab_R a :: st) σ Q ↔ (ab_sh σ a).1 = 14 ∧ ab_Run X 279 37 (2, 0, 0) L (ab_R (ab_rd σ a 16) :: st) σ Q := gF_13_17 ko_X13_boil kc_X13_boil dX13_boil_34
theorem rX13_boil_37 : ab_Run X 279 37 (2, 0, 0) L st σ Q ↔ ab_Run X 279 38 (2, 0, 0) L (ab_I 0 :: st) σ Q := ab_r_iconst (by decide) kc_X13_boil dX13_boil_37
theorem rX13_boil_38 : ab_Run X 279 38 (2, 0, 0) [l0, ab_I z] st σ Q ↔ ab_Run X 279 39 (2, 0, 0) [l0, ab_I z] (ab_I z :: st) σ Q := ab_r_iload_n rfl kc_X13_boil dX13_boil_38
theorem rX13_boil_39 : ab_Run X 279 39 (2, 0, 0) L (ab_I b :: ab_I a :: st) σ Q ↔ ab_Run X 279 40 (2, 0, 0) L (ab_I (ab_w32 (a + b)) :: st) σ Q := ab_r_iadd kc_X13_boil dX13_boil_39
theorem rX13_boil_40 : ab_Run X 279 40 (2, 0, 0) L (ab_I i :: ab_R a :: st) σ Q ↔ ((ab_sh σ a).1 = 21 ∧ 0 ≤ i ∧ i < (ab_sh σ a).2) ∧ ab_Run X 279 41 (2, 0, 0) L (ab_I (ab_rd σ a i) :: st) σ Q := ab_r_iaload (by decide) kc_X13_boil dX13_boil_40
theorem rX13_boil_41 : ab_Run X 279 41 (2, 0, 0) L st σ Q ↔ ab_Run X 279 42 (2, 0, 0) L (ab_I 2 :: st) σ Q := ab_r_iconst (by decide) kc_X13_boil dX13_boil_41
theorem rX13_boil_42 : ab_Run X 279 42 (2, 0, 0) L (ab_I b :: ab_I a :: st) σ Q ↔ (¬ a = b → ab_Run X 279 51 (2, 0, 0) L st σ Q) ∧ (¬ (¬ a = b) → ab_Run X 279 45 (2, 0, 0) L st σ Q) := ab_r_icmp_ne rfl kc_X13_boil dX13_boil_42
theorem rX13_boil_45 : ab_Run X 279 45 (2, 0, 0) [ab_R z, l1] st σ Q ↔ z ≠ 0 ∧ ab_Run X 279 46 (2, 0, 0) [ab_R z, l1] (ab_R z :: st) σ Q := ab_r_aload_n rfl kc_X13_boil dX13_boil_45
theorem rX13_boil_46 : ab_Run X 279 46 (2, 0, 0) L st σ Q ↔ ab_Run X 279 47 (2, 0, 0) L (ab_I 5 :: st) σ Q := ab_r_iconst (by decide) kc_X13_boil dX13_boil_46
theorem rX13_boil_47 : ab_Run X 279 47 (2, 0, 0) L (ab_I x1 :: ab_R a :: st) σ Q ↔ ((ab_sh σ a).1 = 14 ∧ ab_cats st ≤ 8) ∧ ab_Do X 160 [ab_R a, ab_I x1] σ (fun r σ' => ab_Run X 279 50 (2, 0, 0) L (ab_psh r st) σ' Q) := ab_r_callV (w := [ab_I x1]) (as := [ab_I x1]) (b1 := (1, 0, 0)) 0 (Or.inl rfl) (by decide) ko_X13_boil qM_13_590 (by decide) rfl rfl rfl rfl rfl (by decide) (Nat.le_of_ble_eq_true rfl) kc_X13_boil dX13_boil_47
theorem rX13_boil_50 : ab_Run X 279 50 (2, 0, 0) L [ab_I v] σ Q ↔ (v = 0 ∨ v = 1) ∧ Q (some (ab_I v)) σ := ab_r_ireturnZ rfl kc_X13_boil dX13_boil_50
theorem rX13_boil_51 : ab_Run X 279 51 (2, 0, 0) [ab_R z, l1] st σ Q ↔ z ≠ 0 ∧ ab_Run X 279 52 (2, 0, 0) [ab_R z, l1] (ab_R z :: st) σ Q := ab_r_aload_n rfl kc_X13_boil dX13_boil_51
theorem rX13_boil_52 : ab_Run X 279 52 (2, 0, 0) L (ab_R a :: st) σ Q ↔ ((ab_sh σ a).1 = 14 ∧ ab_cats st ≤ 8) ∧ ab_Do X 277 [ab_R a] σ (fun r σ' => ab_Run X 279 55 (2, 0, 0) L (ab_psh r st) σ' Q) := ab_r_callV (w := []) (as := []) (b1 := (0, 0, 0)) 0 (Or.inl rfl) (by decide) ko_X13_boil qM_13_593 (by decide) rfl rfl rfl rfl rfl (by decide) (Nat.le_of_ble_eq_true rfl) kc_X13_boil dX13_boil_52
theorem rX13_boil_55 : ab_Run X 279 55 (2, 0, 0) [ab_R z, l1] st σ Q ↔ z ≠ 0 ∧ ab_Run X 279 56 (2, 0, 0) [ab_R z, l1] (ab_R z :: st) σ Q := ab_r_aload_n rfl kc_X13_boil dX13_boil_55
theorem rX13_boil_56 : ab_Run X 279 56 (2, 0, 0) L (ab_R a :: st) σ Q ↔ (ab_sh σ a).1 = 14 ∧ ab_Run X 279 59 (2, 0, 0) L (ab_R (ab_rd σ a 16) :: st) σ Q := gF_13_17 ko_X13_boil kc_X13_boil dX13_boil_56
theorem rX13_boil_59 : ab_Run X 279 59 (2, 0, 0) L st σ Q ↔ ab_Run X 279 60 (2, 0, 0) L (ab_I 0 :: st) σ Q := ab_r_iconst (by decide) kc_X13_boil dX13_boil_59
theorem rX13_boil_60 : ab_Run X 279 60 (2, 0, 0) [l0, ab_I z] st σ Q ↔ ab_Run X 279 61 (2, 0, 0) [l0, ab_I z] (ab_I z :: st) σ Q := ab_r_iload_n rfl kc_X13_boil dX13_boil_60
theorem rX13_boil_61 : ab_Run X 279 61 (2, 0, 0) L (ab_I b :: ab_I a :: st) σ Q ↔ ab_Run X 279 62 (2, 0, 0) L (ab_I (ab_w32 (a + b)) :: st) σ Q := ab_r_iadd kc_X13_boil dX13_boil_61
theorem rX13_boil_62 : ab_Run X 279 62 (2, 0, 0) L st σ Q ↔ ab_Run X 279 63 (2, 0, 0) L (ab_I 2 :: st) σ Q := ab_r_iconst (by decide) kc_X13_boil dX13_boil_62
theorem rX13_boil_63 : ab_Run X 279 63 (2, 0, 0) L (ab_I v :: ab_I i :: ab_R a :: st) σ Q ↔ ((ab_sh σ a).1 = 21 ∧ 0 ≤ i ∧ i < (ab_sh σ a).2) ∧ ab_Run X 279 64 (2, 0, 0) L st (ab_wr σ a i v) Q := ab_r_iastore kc_X13_boil dX13_boil_63
theorem rX13_boil_64 : ab_Run X 279 64 (2, 0, 0) [ab_R z, l1] st σ Q ↔ z ≠ 0 ∧ ab_Run X 279 65 (2, 0, 0) [ab_R z, l1] (ab_R z :: st) σ Q := ab_r_aload_n rfl kc_X13_boil dX13_boil_64
theorem rX13_boil_65 : ab_Run X 279 65 (2, 0, 0) L (ab_R a :: st) σ Q ↔ ((ab_sh σ a).1 = 14 ∧ ab_cats st ≤ 8) ∧ ab_Do X 162 [ab_R a] σ (fun r σ' => ab_Run X 279 68 (2, 0, 0) L (ab_psh r st) σ' Q) := ab_r_callV (w := []) (as := []) (b1 := (1, 0, 0)) 0 (Or.inl rfl) (by decide) ko_X13_boil qM_13_596 (by decide) rfl rfl rfl rfl rfl (by decide) (Nat.le_of_ble_eq_true rfl) kc_X13_boil dX13_boil_65
theorem rX13_boil_68 : ab_Run X 279 68 (2, 0, 0) L [ab_I v] σ Q ↔ (v = 0 ∨ v = 1) ∧ Q (some (ab_I v)) σ := ab_r_ireturnZ rfl kc_X13_boil dX13_boil_68
theorem kc_X13_pull : ab_code 280 = cX13_pull := rfl
theorem ko_X13_pull : ab_ow 280 = 13 := rfl
theorem rX13_pull_0 : ab_Run X 280 0 (5, 0, 0) [ab_R z, l1, l2, l3, l4, l5, l6, l7, l8] st σ Q ↔ z ≠ 0 ∧ ab_Run X 280 1 (5, 0, 0) [ab_R z, l1, l2, l3, l4, l5, l6, l7, l8] (ab_R z :: st) σ Q := ab_r_aload_n rfl kc_X13_pull dX13_pull_0
theorem rX13_pull_1 : ab_Run X 280 1 (5, 0, 0) L st σ Q ↔ ab_Run X 280 2 (5, 0, 0) L (ab_I 0 :: st) σ Q := ab_r_iconst (by decide) kc_X13_pull dX13_pull_1
theorem rX13_pull_2 : ab_Run X 280 2 (5, 0, 0) L (ab_I z :: ab_R a :: st) σ Q ↔ (ab_sh σ a).1 = 14 ∧ ab_Run X 280 5 (5, 0, 0) L st (ab_wr σ a 0 z) Q := sF_13_53 ko_X13_pull kc_X13_pull dX13_pull_2
theorem rX13_pull_5 : ab_Run X 280 5 (5, 0, 0) [ab_R z, l1, l2, l3, l4, l5, l6, l7, l8] st σ Q ↔ z ≠ 0 ∧ ab_Run X 280 6 (5, 0, 0) [ab_R z, l1, l2, l3, l4, l5, l6, l7, l8] (ab_R z :: st) σ Q := ab_r_aload_n rfl kc_X13_pull dX13_pull_5
theorem rX13_pull_6 : ab_Run X 280 6 (5, 0, 0) [ab_R z, l1, l2, l3, l4, l5, l6, l7, l8] st σ Q ↔ z ≠ 0 ∧ ab_Run X 280 7 (5, 0, 0) [ab_R z, l1, l2, l3, l4, l5, l6, l7, l8] (ab_R z :: st) σ Q := ab_r_aload_n rfl kc_X13_pull dX13_pull_6
theorem rX13_pull_7 : ab_Run X 280 7 (5, 0, 0) [l0, ab_I z, l2, l3, l4, l5, l6, l7, l8] st σ Q ↔ ab_Run X 280 8 (5, 0, 0) [l0, ab_I z, l2, l3, l4, l5, l6, l7, l8] (ab_I z :: st) σ Q := ab_r_iload_n rfl kc_X13_pull dX13_pull_7
theorem rX13_pull_8 : ab_Run X 280 8 (5, 0, 0) L (ab_I x1 :: ab_R a :: st) σ Q ↔ ((ab_sh σ a).1 = 14 ∧ ab_cats st ≤ 8) ∧ ab_Do X 212 [ab_R a, ab_I x1] σ (fun r σ' => ab_Run X 280 11 (5, 0, 0) L (ab_psh r st) σ' Q) := ab_r_callV (w := [ab_I x1]) (as := [ab_I x1]) (b1 := (0, 0, 0)) 0 (Or.inl rfl) (by decide) ko_X13_pull qM_13_444 (by decide) rfl rfl rfl rfl rfl (by decide) (Nat.le_of_ble_eq_true rfl) kc_X13_pull dX13_pull_8
theorem rX13_pull_11 : ab_Run X 280 11 (5, 0, 0) L (ab_I a :: st) σ Q ↔ (a = 0 → ab_Run X 280 28 (5, 0, 0) L st σ Q) ∧ (¬ (a = 0) → ab_Run X 280 14 (5, 0, 0) L st σ Q) := ab_r_if_eq rfl kc_X13_pull dX13_pull_11
theorem rX13_pull_14 : ab_Run X 280 14 (5, 0, 0) [ab_R z, l1, l2, l3, l4, l5, l6, l7, l8] st σ Q ↔ z ≠ 0 ∧ ab_Run X 280 15 (5, 0, 0) [ab_R z, l1, l2, l3, l4, l5, l6, l7, l8] (ab_R z :: st) σ Q := ab_r_aload_n rfl kc_X13_pull dX13_pull_14
theorem rX13_pull_15 : ab_Run X 280 15 (5, 0, 0) [l0, l1, ab_I z, l3, l4, l5, l6, l7, l8] st σ Q ↔ ab_Run X 280 16 (5, 0, 0) [l0, l1, ab_I z, l3, l4, l5, l6, l7, l8] (ab_I z :: st) σ Q := ab_r_iload_n rfl kc_X13_pull dX13_pull_15
theorem rX13_pull_16 : ab_Run X 280 16 (5, 0, 0) [l0, l1, l2, l3, ab_I z, l5, l6, l7, l8] st σ Q ↔ ab_Run X 280 18 (5, 0, 0) [l0, l1, l2, l3, ab_I z, l5, l6, l7, l8] (ab_I z :: st) σ Q := ab_r_iload rfl kc_X13_pull dX13_pull_16
theorem rX13_pull_18 : ab_Run X 280 18 (5, 0, 0) L (ab_I x2 :: ab_I x1 :: ab_R a :: st) σ Q ↔ ((ab_sh σ a).1 = 14 ∧ ab_cats st ≤ 8) ∧ ab_Do X 214 [ab_R a, ab_I x1, ab_I x2] σ (fun r σ' => ab_Run X 280 21 (5, 0, 0) L (ab_psh r st) σ' Q) := ab_r_callV (w := [ab_I x2, ab_I x1]) (as := [ab_I x1, ab_I x2]) (b1 := (1, 0, 0)) 0 (Or.inl rfl) (by decide) ko_X13_pull qM_13_455 (by decide) rfl rfl rfl rfl rfl (by decide) (Nat.le_of_ble_eq_true rfl) kc_X13_pull dX13_pull_18
theorem rX13_pull_21 : ab_Run X 280 21 (5, 0, 0) L (ab_I a :: st) σ Q ↔ (a = 0 → ab_Run X 280 28 (5, 0, 0) L st σ Q) ∧ (¬ (a = 0) → ab_Run X 280 24 (5, 0, 0) L st σ Q) := ab_r_if_eq rfl kc_X13_pull dX13_pull_21
theorem rX13_pull_24 : ab_Run X 280 24 (5, 0, 0) L st σ Q ↔ ab_Run X 280 25 (5, 0, 0) L (ab_I 1 :: st) σ Q := ab_r_iconst (by decide) kc_X13_pull dX13_pull_24
theorem rX13_pull_25 : ab_Run X 280 25 (5, 0, 0) L st σ Q ↔ ab_Run X 280 29 (5, 0, 0) L st σ Q := ab_r_goto rfl kc_X13_pull dX13_pull_25
theorem rX13_pull_28 : ab_Run X 280 28 (5, 0, 0) L st σ Q ↔ ab_Run X 280 29 (5, 0, 0) L (ab_I 0 :: st) σ Q := ab_r_iconst (by decide) kc_X13_pull dX13_pull_28
theorem rX13_pull_29 : ab_Run X 280 29 (5, 0, 0) [l0, ab_I z, l2, l3, l4, l5, l6, l7, l8] st σ Q ↔ ab_Run X 280 30 (5, 0, 0) [l0, ab_I z, l2, l3, l4, l5, l6, l7, l8] (ab_I z :: st) σ Q := ab_r_iload_n rfl kc_X13_pull dX13_pull_29
theorem rX13_pull_30 : ab_Run X 280 30 (5, 0, 0) [l0, l1, l2, ab_I z, l4, l5, l6, l7, l8] st σ Q ↔ ab_Run X 280 31 (5, 0, 0) [l0, l1, l2, ab_I z, l4, l5, l6, l7, l8] (ab_I z :: st) σ Q := ab_r_iload_n rfl kc_X13_pull dX13_pull_30
theorem rX13_pull_31 : ab_Run X 280 31 (5, 0, 0) [l0, l1, l2, l3, l4, ab_I z, l6, l7, l8] st σ Q ↔ ab_Run X 280 33 (5, 0, 0) [l0, l1, l2, l3, l4, ab_I z, l6, l7, l8] (ab_I z :: st) σ Q := ab_r_iload rfl kc_X13_pull dX13_pull_31
theorem rX13_pull_33 : ab_Run X 280 33 (5, 0, 0) [l0, l1, l2, l3, l4, l5, ab_I z, l7, l8] st σ Q ↔ ab_Run X 280 35 (5, 0, 0) [l0, l1, l2, l3, l4, l5, ab_I z, l7, l8] (ab_I z :: st) σ Q := ab_r_iload rfl kc_X13_pull dX13_pull_33
theorem rX13_pull_35 : ab_Run X 280 35 (5, 0, 0) L (ab_I x5 :: ab_I x4 :: ab_I x3 :: ab_I x2 :: ab_I x1 :: ab_R a :: st) σ Q ↔ ((ab_sh σ a).1 = 14 ∧ ab_cats st ≤ 8) ∧ ab_Do X 216 [ab_R a, ab_I x1, ab_I x2, ab_I x3, ab_I x4, ab_I x5] σ (fun r σ' => ab_Run X 280 38 (5, 0, 0) L (ab_psh r st) σ' Q) := ab_r_callV (w := [ab_I x5, ab_I x4, ab_I x3, ab_I x2, ab_I x1]) (as := [ab_I x1, ab_I x2, ab_I x3, ab_I x4, ab_I x5]) (b1 := (1, 0, 0)) 0 (Or.inl rfl) (by decide) ko_X13_pull qM_13_458 (by decide) rfl rfl rfl rfl rfl (by decide) (Nat.le_of_ble_eq_true rfl) kc_X13_pull dX13_pull_35
theorem rX13_pull_38 : ab_Run X 280 38 (5, 0, 0) [l0, l1, l2, l3, l4, l5, l6, l7, l8] (ab_I z :: st) σ Q ↔ (!ab_isJ l6) = true ∧ ab_Run X 280 40 (5, 0, 0) [l0, l1, l2, l3, l4, l5, l6, ab_I z, l8] st σ Q := ab_r_istore (Nat.le_of_ble_eq_true rfl) kc_X13_pull dX13_pull_38
theorem rX13_pull_40 : ab_Run X 280 40 (5, 0, 0) [l0, l1, l2, l3, l4, l5, l6, ab_I z, l8] st σ Q ↔ ab_Run X 280 42 (5, 0, 0) [l0, l1, l2, l3, l4, l5, l6, ab_I z, l8] (ab_I z :: st) σ Q := ab_r_iload rfl kc_X13_pull dX13_pull_40
theorem rX13_pull_42 : ab_Run X 280 42 (5, 0, 0) L (ab_I a :: st) σ Q ↔ (a ≤ 0 → ab_Run X 280 52 (5, 0, 0) L st σ Q) ∧ (¬ (a ≤ 0) → ab_Run X 280 45 (5, 0, 0) L st σ Q) := ab_r_if_le rfl kc_X13_pull dX13_pull_42
theorem rX13_pull_45 : ab_Run X 280 45 (5, 0, 0) [ab_R z, l1, l2, l3, l4, l5, l6, l7, l8] st σ Q ↔ z ≠ 0 ∧ ab_Run X 280 46 (5, 0, 0) [ab_R z, l1, l2, l3, l4, l5, l6, l7, l8] (ab_R z :: st) σ Q := ab_r_aload_n rfl kc_X13_pull dX13_pull_45
theorem rX13_pull_46 : ab_Run X 280 46 (5, 0, 0) [l0, l1, l2, l3, l4, l5, l6, ab_I z, l8] st σ Q ↔ ab_Run X 280 48 (5, 0, 0) [l0, l1, l2, l3, l4, l5, l6, ab_I z, l8] (ab_I z :: st) σ Q := ab_r_iload rfl kc_X13_pull dX13_pull_46
theorem rX13_pull_48 : ab_Run X 280 48 (5, 0, 0) L (ab_I x1 :: ab_R a :: st) σ Q ↔ ((ab_sh σ a).1 = 14 ∧ ab_cats st ≤ 8) ∧ ab_Do X 159 [ab_R a, ab_I x1] σ (fun r σ' => ab_Run X 280 51 (5, 0, 0) L (ab_psh r st) σ' Q) := ab_r_callV (w := [ab_I x1]) (as := [ab_I x1]) (b1 := (0, 0, 0)) 0 (Or.inl rfl) (by decide) ko_X13_pull qM_13_59 (by decide) rfl rfl rfl rfl rfl (by decide) (Nat.le_of_ble_eq_true rfl) kc_X13_pull dX13_pull_48
theorem rX13_pull_51 : ab_Run X 280 51 (5, 0, 0) L [ab_I v] σ Q ↔ Q (some (ab_I v)) σ := ab_r_ireturnI rfl kc_X13_pull dX13_pull_51
theorem rX13_pull_52 : ab_Run X 280 52 (5, 0, 0) [ab_R z, l1, l2, l3, l4, l5, l6, l7, l8] st σ Q ↔ z ≠ 0 ∧ ab_Run X 280 53 (5, 0, 0) [ab_R z, l1, l2, l3, l4, l5, l6, l7, l8] (ab_R z :: st) σ Q := ab_r_aload_n rfl kc_X13_pull dX13_pull_52
theorem rX13_pull_53 : ab_Run X 280 53 (5, 0, 0) L (ab_R a :: st) σ Q ↔ (ab_sh σ a).1 = 14 ∧ ab_Run X 280 56 (5, 0, 0) L (ab_R (ab_rd σ a 3) :: st) σ Q := gF_13_373 ko_X13_pull kc_X13_pull dX13_pull_53
theorem rX13_pull_56 : ab_Run X 280 56 (5, 0, 0) L (ab_R a :: st) σ Q ↔ (ab_sh σ a).1 = 13 ∧ ab_Run X 280 59 (5, 0, 0) L (ab_R (ab_rd σ a 12) :: st) σ Q := gF_13_288 ko_X13_pull kc_X13_pull dX13_pull_56
theorem rX13_pull_59 : ab_Run X 280 59 (5, 0, 0) [l0, ab_I z, l2, l3, l4, l5, l6, l7, l8] st σ Q ↔ ab_Run X 280 60 (5, 0, 0) [l0, ab_I z, l2, l3, l4, l5, l6, l7, l8] (ab_I z :: st) σ Q := ab_r_iload_n rfl kc_X13_pull dX13_pull_59
theorem rX13_pull_60 : ab_Run X 280 60 (5, 0, 0) L (ab_I i :: ab_R a :: st) σ Q ↔ ((ab_sh σ a).1 = 21 ∧ 0 ≤ i ∧ i < (ab_sh σ a).2) ∧ ab_Run X 280 61 (5, 0, 0) L (ab_I (ab_rd σ a i) :: st) σ Q := ab_r_iaload (by decide) kc_X13_pull dX13_pull_60
theorem rX13_pull_61 : ab_Run X 280 61 (5, 0, 0) L st σ Q ↔ ab_Run X 280 62 (5, 0, 0) L (ab_I 1 :: st) σ Q := ab_r_iconst (by decide) kc_X13_pull dX13_pull_61
theorem rX13_pull_62 : ab_Run X 280 62 (5, 0, 0) L (ab_I b :: ab_I a :: st) σ Q ↔ (a = b → ab_Run X 280 79 (5, 0, 0) L st σ Q) ∧ (¬ (a = b) → ab_Run X 280 65 (5, 0, 0) L st σ Q) := ab_r_icmp_eq rfl kc_X13_pull dX13_pull_62
theorem rX13_pull_65 : ab_Run X 280 65 (5, 0, 0) [ab_R z, l1, l2, l3, l4, l5, l6, l7, l8] st σ Q ↔ z ≠ 0 ∧ ab_Run X 280 66 (5, 0, 0) [ab_R z, l1, l2, l3, l4, l5, l6, l7, l8] (ab_R z :: st) σ Q := ab_r_aload_n rfl kc_X13_pull dX13_pull_65
theorem rX13_pull_66 : ab_Run X 280 66 (5, 0, 0) L (ab_R a :: st) σ Q ↔ (ab_sh σ a).1 = 14 ∧ ab_Run X 280 69 (5, 0, 0) L (ab_R (ab_rd σ a 16) :: st) σ Q := gF_13_17 ko_X13_pull kc_X13_pull dX13_pull_66
theorem rX13_pull_69 : ab_Run X 280 69 (5, 0, 0) L st σ Q ↔ ab_Run X 280 71 (5, 0, 0) L (ab_I 10 :: st) σ Q := ab_r_bipush (by decide) kc_X13_pull dX13_pull_69
theorem rX13_pull_71 : ab_Run X 280 71 (5, 0, 0) L (ab_I i :: ab_R a :: st) σ Q ↔ ((ab_sh σ a).1 = 21 ∧ 0 ≤ i ∧ i < (ab_sh σ a).2) ∧ ab_Run X 280 72 (5, 0, 0) L (ab_I (ab_rd σ a i) :: st) σ Q := ab_r_iaload (by decide) kc_X13_pull dX13_pull_71
theorem rX13_pull_72 : ab_Run X 280 72 (5, 0, 0) [l0, ab_I z, l2, l3, l4, l5, l6, l7, l8] st σ Q ↔ ab_Run X 280 73 (5, 0, 0) [l0, ab_I z, l2, l3, l4, l5, l6, l7, l8] (ab_I z :: st) σ Q := ab_r_iload_n rfl kc_X13_pull dX13_pull_72
theorem rX13_pull_73 : ab_Run X 280 73 (5, 0, 0) L (ab_I x2 :: ab_I x1 :: st) σ Q ↔ ab_cats st ≤ 8 ∧ ab_Do X 164 [ab_I x1, ab_I x2] σ (fun r σ' => ab_Run X 280 76 (5, 0, 0) L (ab_psh r st) σ' Q) := ab_r_callS (w := [ab_I x2, ab_I x1]) (as := [ab_I x1, ab_I x2]) (b1 := (0, 0, 0)) (by decide) ko_X13_pull qM_13_327 (by decide) rfl rfl rfl rfl (by decide) (Nat.le_of_ble_eq_true rfl) kc_X13_pull dX13_pull_73
theorem rX13_pull_76 : ab_Run X 280 76 (5, 0, 0) L (ab_I a :: st) σ Q ↔ (a = 0 → ab_Run X 280 85 (5, 0, 0) L st σ Q) ∧ (¬ (a = 0) → ab_Run X 280 79 (5, 0, 0) L st σ Q) := ab_r_if_eq rfl kc_X13_pull dX13_pull_76
theorem rX13_pull_79 : ab_Run X 280 79 (5, 0, 0) [ab_R z, l1, l2, l3, l4, l5, l6, l7, l8] st σ Q ↔ z ≠ 0 ∧ ab_Run X 280 80 (5, 0, 0) [ab_R z, l1, l2, l3, l4, l5, l6, l7, l8] (ab_R z :: st) σ Q := ab_r_aload_n rfl kc_X13_pull dX13_pull_79
theorem rX13_pull_80 : ab_Run X 280 80 (5, 0, 0) L st σ Q ↔ ab_Run X 280 81 (5, 0, 0) L (ab_I 5 :: st) σ Q := ab_r_iconst (by decide) kc_X13_pull dX13_pull_80
theorem rX13_pull_81 : ab_Run X 280 81 (5, 0, 0) L (ab_I x1 :: ab_R a :: st) σ Q ↔ ((ab_sh σ a).1 = 14 ∧ ab_cats st ≤ 8) ∧ ab_Do X 159 [ab_R a, ab_I x1] σ (fun r σ' => ab_Run X 280 84 (5, 0, 0) L (ab_psh r st) σ' Q) := ab_r_callV (w := [ab_I x1]) (as := [ab_I x1]) (b1 := (0, 0, 0)) 0 (Or.inl rfl) (by decide) ko_X13_pull qM_13_59 (by decide) rfl rfl rfl rfl rfl (by decide) (Nat.le_of_ble_eq_true rfl) kc_X13_pull dX13_pull_81
theorem rX13_pull_84 : ab_Run X 280 84 (5, 0, 0) L [ab_I v] σ Q ↔ Q (some (ab_I v)) σ := ab_r_ireturnI rfl kc_X13_pull dX13_pull_84
theorem rX13_pull_85 : ab_Run X 280 85 (5, 0, 0) [ab_R z, l1, l2, l3, l4, l5, l6, l7, l8] st σ Q ↔ z ≠ 0 ∧ ab_Run X 280 86 (5, 0, 0) [ab_R z, l1, l2, l3, l4, l5, l6, l7, l8] (ab_R z :: st) σ Q := ab_r_aload_n rfl kc_X13_pull dX13_pull_85
theorem rX13_pull_86 : ab_Run X 280 86 (5, 0, 0) L (ab_R a :: st) σ Q ↔ ((ab_sh σ a).1 = 14 ∧ ab_cats st ≤ 8) ∧ ab_Do X 277 [ab_R a] σ (fun r σ' => ab_Run X 280 89 (5, 0, 0) L (ab_psh r st) σ' Q) := ab_r_callV (w := []) (as := []) (b1 := (0, 0, 0)) 0 (Or.inl rfl) (by decide) ko_X13_pull qM_13_593 (by decide) rfl rfl rfl rfl rfl (by decide) (Nat.le_of_ble_eq_true rfl) kc_X13_pull dX13_pull_86
theorem rX13_pull_89 : ab_Run X 280 89 (5, 0, 0) [ab_R z, l1, l2, l3, l4, l5, l6, l7, l8] st σ Q ↔ z ≠ 0 ∧ ab_Run X 280 90 (5, 0, 0) [ab_R z, l1, l2, l3, l4, l5, l6, l7, l8] (ab_R z :: st) σ Q := ab_r_aload_n rfl kc_X13_pull dX13_pull_89
theorem rX13_pull_90 : ab_Run X 280 90 (5, 0, 0) [ab_R z, l1, l2, l3, l4, l5, l6, l7, l8] st σ Q ↔ z ≠ 0 ∧ ab_Run X 280 91 (5, 0, 0) [ab_R z, l1, l2, l3, l4, l5, l6, l7, l8] (ab_R z :: st) σ Q := ab_r_aload_n rfl kc_X13_pull dX13_pull_90
theorem rX13_pull_91 : ab_Run X 280 91 (5, 0, 0) L (ab_R a :: st) σ Q ↔ (ab_sh σ a).1 = 14 ∧ ab_Run X 280 94 (5, 0, 0) L (ab_R (ab_rd σ a 16) :: st) σ Q := gF_13_17 ko_X13_pull kc_X13_pull dX13_pull_91
theorem rX13_pull_94 : ab_Run X 280 94 (5, 0, 0) L st σ Q ↔ ab_Run X 280 96 (5, 0, 0) L (ab_I 17 :: st) σ Q := ab_r_bipush (by decide) kc_X13_pull dX13_pull_94
theorem rX13_pull_96 : ab_Run X 280 96 (5, 0, 0) L (ab_I i :: ab_R a :: st) σ Q ↔ ((ab_sh σ a).1 = 21 ∧ 0 ≤ i ∧ i < (ab_sh σ a).2) ∧ ab_Run X 280 97 (5, 0, 0) L (ab_I (ab_rd σ a i) :: st) σ Q := ab_r_iaload (by decide) kc_X13_pull dX13_pull_96
theorem rX13_pull_97 : ab_Run X 280 97 (5, 0, 0) L (ab_I z :: ab_R a :: st) σ Q ↔ (ab_sh σ a).1 = 14 ∧ ab_Run X 280 100 (5, 0, 0) L st (ab_wr σ a 35 z) Q := sF_13_563 ko_X13_pull kc_X13_pull dX13_pull_97
theorem rX13_pull_100 : ab_Run X 280 100 (5, 0, 0) [ab_R z, l1, l2, l3, l4, l5, l6, l7, l8] st σ Q ↔ z ≠ 0 ∧ ab_Run X 280 101 (5, 0, 0) [ab_R z, l1, l2, l3, l4, l5, l6, l7, l8] (ab_R z :: st) σ Q := ab_r_aload_n rfl kc_X13_pull dX13_pull_100
theorem rX13_pull_101 : ab_Run X 280 101 (5, 0, 0) [l0, ab_I z, l2, l3, l4, l5, l6, l7, l8] st σ Q ↔ ab_Run X 280 102 (5, 0, 0) [l0, ab_I z, l2, l3, l4, l5, l6, l7, l8] (ab_I z :: st) σ Q := ab_r_iload_n rfl kc_X13_pull dX13_pull_101
theorem rX13_pull_102 : ab_Run X 280 102 (5, 0, 0) [l0, l1, ab_I z, l3, l4, l5, l6, l7, l8] st σ Q ↔ ab_Run X 280 103 (5, 0, 0) [l0, l1, ab_I z, l3, l4, l5, l6, l7, l8] (ab_I z :: st) σ Q := ab_r_iload_n rfl kc_X13_pull dX13_pull_102
theorem rX13_pull_103 : ab_Run X 280 103 (5, 0, 0) [l0, l1, l2, ab_I z, l4, l5, l6, l7, l8] st σ Q ↔ ab_Run X 280 104 (5, 0, 0) [l0, l1, l2, ab_I z, l4, l5, l6, l7, l8] (ab_I z :: st) σ Q := ab_r_iload_n rfl kc_X13_pull dX13_pull_103
theorem rX13_pull_104 : ab_Run X 280 104 (5, 0, 0) [l0, l1, l2, l3, ab_I z, l5, l6, l7, l8] st σ Q ↔ ab_Run X 280 106 (5, 0, 0) [l0, l1, l2, l3, ab_I z, l5, l6, l7, l8] (ab_I z :: st) σ Q := ab_r_iload rfl kc_X13_pull dX13_pull_104
theorem rX13_pull_106 : ab_Run X 280 106 (5, 0, 0) [l0, l1, l2, l3, l4, ab_I z, l6, l7, l8] st σ Q ↔ ab_Run X 280 108 (5, 0, 0) [l0, l1, l2, l3, l4, ab_I z, l6, l7, l8] (ab_I z :: st) σ Q := ab_r_iload rfl kc_X13_pull dX13_pull_106
theorem rX13_pull_108 : ab_Run X 280 108 (5, 0, 0) [l0, l1, l2, l3, l4, l5, ab_I z, l7, l8] st σ Q ↔ ab_Run X 280 110 (5, 0, 0) [l0, l1, l2, l3, l4, l5, ab_I z, l7, l8] (ab_I z :: st) σ Q := ab_r_iload rfl kc_X13_pull dX13_pull_108
theorem rX13_pull_110 : ab_Run X 280 110 (5, 0, 0) L (ab_I x6 :: ab_I x5 :: ab_I x4 :: ab_I x3 :: ab_I x2 :: ab_I x1 :: ab_R a :: st) σ Q ↔ ((ab_sh σ a).1 = 14 ∧ ab_cats st ≤ 8) ∧ ab_Do X 202 [ab_R a, ab_I x1, ab_I x2, ab_I x3, ab_I x4, ab_I x5, ab_I x6] σ (fun r σ' => ab_Run X 280 113 (5, 0, 0) L (ab_psh r st) σ' Q) := ab_r_callV (w := [ab_I x6, ab_I x5, ab_I x4, ab_I x3, ab_I x2, ab_I x1]) (as := [ab_I x1, ab_I x2, ab_I x3, ab_I x4, ab_I x5, ab_I x6]) (b1 := (1, 0, 0)) 0 (Or.inl rfl) (by decide) ko_X13_pull qM_13_396 (by decide) rfl rfl rfl rfl rfl (by decide) (Nat.le_of_ble_eq_true rfl) kc_X13_pull dX13_pull_110
theorem rX13_pull_113 : ab_Run X 280 113 (5, 0, 0) [ab_R z, l1, l2, l3, l4, l5, l6, l7, l8] st σ Q ↔ z ≠ 0 ∧ ab_Run X 280 114 (5, 0, 0) [ab_R z, l1, l2, l3, l4, l5, l6, l7, l8] (ab_R z :: st) σ Q := ab_r_aload_n rfl kc_X13_pull dX13_pull_113
theorem rX13_pull_114 : ab_Run X 280 114 (5, 0, 0) L (ab_R a :: st) σ Q ↔ ((ab_sh σ a).1 = 14 ∧ ab_cats st ≤ 8) ∧ ab_Do X 272 [ab_R a] σ (fun r σ' => ab_Run X 280 117 (5, 0, 0) L (ab_psh r st) σ' Q) := ab_r_callV (w := []) (as := []) (b1 := (2, 0, 0)) 0 (Or.inl rfl) (by decide) ko_X13_pull qM_13_579 (by decide) rfl rfl rfl rfl rfl (by decide) (Nat.le_of_ble_eq_true rfl) kc_X13_pull dX13_pull_114
theorem rX13_pull_117 : ab_Run X 280 117 (5, 0, 0) [ab_R z, l1, l2, l3, l4, l5, l6, l7, l8] st σ Q ↔ z ≠ 0 ∧ ab_Run X 280 118 (5, 0, 0) [ab_R z, l1, l2, l3, l4, l5, l6, l7, l8] (ab_R z :: st) σ Q := ab_r_aload_n rfl kc_X13_pull dX13_pull_117
theorem rX13_pull_118 : ab_Run X 280 118 (5, 0, 0) L (ab_R a :: st) σ Q ↔ (ab_sh σ a).1 = 14 ∧ ab_Run X 280 121 (5, 0, 0) L (ab_R (ab_rd σ a 16) :: st) σ Q := gF_13_17 ko_X13_pull kc_X13_pull dX13_pull_118
theorem rX13_pull_121 : ab_Run X 280 121 (5, 0, 0) L st σ Q ↔ ab_Run X 280 123 (5, 0, 0) L (ab_I 17 :: st) σ Q := ab_r_bipush (by decide) kc_X13_pull dX13_pull_121
theorem rX13_pull_123 : ab_Run X 280 123 (5, 0, 0) [ab_R z, l1, l2, l3, l4, l5, l6, l7, l8] st σ Q ↔ z ≠ 0 ∧ ab_Run X 280 124 (5, 0, 0) [ab_R z, l1, l2, l3, l4, l5, l6, l7, l8] (ab_R z :: st) σ Q := ab_r_aload_n rfl kc_X13_pull dX13_pull_123
theorem rX13_pull_124 : ab_Run X 280 124 (5, 0, 0) L (ab_R a :: st) σ Q ↔ (ab_sh σ a).1 = 14 ∧ ab_Run X 280 127 (5, 0, 0) L (ab_I (ab_rd σ a 35) :: st) σ Q := gF_13_563 ko_X13_pull kc_X13_pull dX13_pull_124
theorem rX13_pull_127 : ab_Run X 280 127 (5, 0, 0) L (ab_I v :: ab_I i :: ab_R a :: st) σ Q ↔ ((ab_sh σ a).1 = 21 ∧ 0 ≤ i ∧ i < (ab_sh σ a).2) ∧ ab_Run X 280 128 (5, 0, 0) L st (ab_wr σ a i v) Q := ab_r_iastore kc_X13_pull dX13_pull_127
theorem rX13_pull_128 : ab_Run X 280 128 (5, 0, 0) [ab_R z, l1, l2, l3, l4, l5, l6, l7, l8] st σ Q ↔ z ≠ 0 ∧ ab_Run X 280 129 (5, 0, 0) [ab_R z, l1, l2, l3, l4, l5, l6, l7, l8] (ab_R z :: st) σ Q := ab_r_aload_n rfl kc_X13_pull dX13_pull_128
theorem rX13_pull_129 : ab_Run X 280 129 (5, 0, 0) L (ab_R a :: st) σ Q ↔ ((ab_sh σ a).1 = 14 ∧ ab_cats st ≤ 8) ∧ ab_Do X 208 [ab_R a] σ (fun r σ' => ab_Run X 280 132 (5, 0, 0) L (ab_psh r st) σ' Q) := ab_r_callV (w := []) (as := []) (b1 := (4, 0, 0)) 0 (Or.inl rfl) (by decide) ko_X13_pull qM_13_433 (by decide) rfl rfl rfl rfl rfl (by decide) (Nat.le_of_ble_eq_true rfl) kc_X13_pull dX13_pull_129
theorem rX13_pull_132 : ab_Run X 280 132 (5, 0, 0) [l0, l1, l2, l3, l4, l5, l6, l7, l8] (ab_I z :: st) σ Q ↔ (!ab_isJ l7) = true ∧ ab_Run X 280 134 (5, 0, 0) [l0, l1, l2, l3, l4, l5, l6, l7, ab_I z] st σ Q := ab_r_istore (Nat.le_of_ble_eq_true rfl) kc_X13_pull dX13_pull_132
theorem rX13_pull_134 : ab_Run X 280 134 (5, 0, 0) [l0, l1, l2, l3, l4, l5, l6, l7, ab_I z] st σ Q ↔ ab_Run X 280 136 (5, 0, 0) [l0, l1, l2, l3, l4, l5, l6, l7, ab_I z] (ab_I z :: st) σ Q := ab_r_iload rfl kc_X13_pull dX13_pull_134
theorem rX13_pull_136 : ab_Run X 280 136 (5, 0, 0) L st σ Q ↔ ab_Run X 280 137 (5, 0, 0) L (ab_I 3 :: st) σ Q := ab_r_iconst (by decide) kc_X13_pull dX13_pull_136
theorem rX13_pull_137 : ab_Run X 280 137 (5, 0, 0) L (ab_I b :: ab_I a :: st) σ Q ↔ (a = b → ab_Run X 280 153 (5, 0, 0) L st σ Q) ∧ (¬ (a = b) → ab_Run X 280 140 (5, 0, 0) L st σ Q) := ab_r_icmp_eq rfl kc_X13_pull dX13_pull_137
theorem rX13_pull_140 : ab_Run X 280 140 (5, 0, 0) [ab_R z, l1, l2, l3, l4, l5, l6, l7, l8] st σ Q ↔ z ≠ 0 ∧ ab_Run X 280 141 (5, 0, 0) [ab_R z, l1, l2, l3, l4, l5, l6, l7, l8] (ab_R z :: st) σ Q := ab_r_aload_n rfl kc_X13_pull dX13_pull_140
theorem rX13_pull_141 : ab_Run X 280 141 (5, 0, 0) L (ab_R a :: st) σ Q ↔ (ab_sh σ a).1 = 14 ∧ ab_Run X 280 144 (5, 0, 0) L (ab_R (ab_rd σ a 16) :: st) σ Q := gF_13_17 ko_X13_pull kc_X13_pull dX13_pull_141
theorem rX13_pull_144 : ab_Run X 280 144 (5, 0, 0) L st σ Q ↔ ab_Run X 280 146 (5, 0, 0) L (ab_I 10 :: st) σ Q := ab_r_bipush (by decide) kc_X13_pull dX13_pull_144
theorem rX13_pull_146 : ab_Run X 280 146 (5, 0, 0) L (ab_I b :: ab_R a :: st) σ Q ↔ ab_Run X 280 147 (5, 0, 0) L (ab_I b :: ab_R a :: ab_I b :: ab_R a :: st) σ Q := ab_r_dup2 kc_X13_pull dX13_pull_146
theorem rX13_pull_147 : ab_Run X 280 147 (5, 0, 0) L (ab_I i :: ab_R a :: st) σ Q ↔ ((ab_sh σ a).1 = 21 ∧ 0 ≤ i ∧ i < (ab_sh σ a).2) ∧ ab_Run X 280 148 (5, 0, 0) L (ab_I (ab_rd σ a i) :: st) σ Q := ab_r_iaload (by decide) kc_X13_pull dX13_pull_147
theorem rX13_pull_148 : ab_Run X 280 148 (5, 0, 0) L st σ Q ↔ ab_Run X 280 149 (5, 0, 0) L (ab_I 1 :: st) σ Q := ab_r_iconst (by decide) kc_X13_pull dX13_pull_148
theorem rX13_pull_149 : ab_Run X 280 149 (5, 0, 0) [l0, ab_I z, l2, l3, l4, l5, l6, l7, l8] st σ Q ↔ ab_Run X 280 150 (5, 0, 0) [l0, ab_I z, l2, l3, l4, l5, l6, l7, l8] (ab_I z :: st) σ Q := ab_r_iload_n rfl kc_X13_pull dX13_pull_149
theorem rX13_pull_150 : ab_Run X 280 150 (5, 0, 0) L (ab_I b :: ab_I a :: st) σ Q ↔ ab_Run X 280 151 (5, 0, 0) L (ab_I (ab_ok32 (fun x y => x <<< (y &&& 31)) a b) :: st) σ Q := ab_r_ishl kc_X13_pull dX13_pull_150
theorem rX13_pull_151 : ab_Run X 280 151 (5, 0, 0) L (ab_I b :: ab_I a :: st) σ Q ↔ ab_Run X 280 152 (5, 0, 0) L (ab_I (ab_ok32 (fun x y => x ||| y) a b) :: st) σ Q := ab_r_ior kc_X13_pull dX13_pull_151
theorem rX13_pull_152 : ab_Run X 280 152 (5, 0, 0) L (ab_I v :: ab_I i :: ab_R a :: st) σ Q ↔ ((ab_sh σ a).1 = 21 ∧ 0 ≤ i ∧ i < (ab_sh σ a).2) ∧ ab_Run X 280 153 (5, 0, 0) L st (ab_wr σ a i v) Q := ab_r_iastore kc_X13_pull dX13_pull_152
theorem rX13_pull_153 : ab_Run X 280 153 (5, 0, 0) [l0, l1, l2, l3, l4, l5, l6, l7, ab_I z] st σ Q ↔ ab_Run X 280 155 (5, 0, 0) [l0, l1, l2, l3, l4, l5, l6, l7, ab_I z] (ab_I z :: st) σ Q := ab_r_iload rfl kc_X13_pull dX13_pull_153
theorem rX13_pull_155 : ab_Run X 280 155 (5, 0, 0) L (ab_I a :: st) σ Q ↔ (¬ a = 0 → ab_Run X 280 174 (5, 0, 0) L st σ Q) ∧ (¬ (¬ a = 0) → ab_Run X 280 158 (5, 0, 0) L st σ Q) := ab_r_if_ne rfl kc_X13_pull dX13_pull_155
theorem rX13_pull_158 : ab_Run X 280 158 (5, 0, 0) [ab_R z, l1, l2, l3, l4, l5, l6, l7, l8] st σ Q ↔ z ≠ 0 ∧ ab_Run X 280 159 (5, 0, 0) [ab_R z, l1, l2, l3, l4, l5, l6, l7, l8] (ab_R z :: st) σ Q := ab_r_aload_n rfl kc_X13_pull dX13_pull_158
theorem rX13_pull_159 : ab_Run X 280 159 (5, 0, 0) L (ab_R a :: st) σ Q ↔ (ab_sh σ a).1 = 14 ∧ ab_Run X 280 162 (5, 0, 0) L (ab_R (ab_rd σ a 16) :: st) σ Q := gF_13_17 ko_X13_pull kc_X13_pull dX13_pull_159
theorem rX13_pull_162 : ab_Run X 280 162 (5, 0, 0) L st σ Q ↔ ab_Run X 280 164 (5, 0, 0) L (ab_I 11 :: st) σ Q := ab_r_bipush (by decide) kc_X13_pull dX13_pull_162
theorem rX13_pull_164 : ab_Run X 280 164 (5, 0, 0) [l0, l1, ab_I z, l3, l4, l5, l6, l7, l8] st σ Q ↔ ab_Run X 280 165 (5, 0, 0) [l0, l1, ab_I z, l3, l4, l5, l6, l7, l8] (ab_I z :: st) σ Q := ab_r_iload_n rfl kc_X13_pull dX13_pull_164
theorem rX13_pull_165 : ab_Run X 280 165 (5, 0, 0) L (ab_I b :: ab_I a :: st) σ Q ↔ ab_Run X 280 166 (5, 0, 0) L (ab_I (ab_w32 (a + b)) :: st) σ Q := ab_r_iadd kc_X13_pull dX13_pull_165
theorem rX13_pull_166 : ab_Run X 280 166 (5, 0, 0) L (ab_I b :: ab_R a :: st) σ Q ↔ ab_Run X 280 167 (5, 0, 0) L (ab_I b :: ab_R a :: ab_I b :: ab_R a :: st) σ Q := ab_r_dup2 kc_X13_pull dX13_pull_166
theorem rX13_pull_167 : ab_Run X 280 167 (5, 0, 0) L (ab_I i :: ab_R a :: st) σ Q ↔ ((ab_sh σ a).1 = 21 ∧ 0 ≤ i ∧ i < (ab_sh σ a).2) ∧ ab_Run X 280 168 (5, 0, 0) L (ab_I (ab_rd σ a i) :: st) σ Q := ab_r_iaload (by decide) kc_X13_pull dX13_pull_167
theorem rX13_pull_168 : ab_Run X 280 168 (5, 0, 0) L st σ Q ↔ ab_Run X 280 169 (5, 0, 0) L (ab_I 1 :: st) σ Q := ab_r_iconst (by decide) kc_X13_pull dX13_pull_168
theorem rX13_pull_169 : ab_Run X 280 169 (5, 0, 0) L (ab_I b :: ab_I a :: st) σ Q ↔ ab_Run X 280 170 (5, 0, 0) L (ab_I (ab_w32 (a + b)) :: st) σ Q := ab_r_iadd kc_X13_pull dX13_pull_169
theorem rX13_pull_170 : ab_Run X 280 170 (5, 0, 0) L (ab_I v :: ab_I i :: ab_R a :: st) σ Q ↔ ((ab_sh σ a).1 = 21 ∧ 0 ≤ i ∧ i < (ab_sh σ a).2) ∧ ab_Run X 280 171 (5, 0, 0) L st (ab_wr σ a i v) Q := ab_r_iastore kc_X13_pull dX13_pull_170
theorem rX13_pull_171 : ab_Run X 280 171 (5, 0, 0) L st σ Q ↔ ab_Run X 280 194 (5, 0, 0) L st σ Q := ab_r_goto rfl kc_X13_pull dX13_pull_171
theorem rX13_pull_174 : ab_Run X 280 174 (5, 0, 0) [l0, l1, l2, l3, l4, l5, l6, l7, ab_I z] st σ Q ↔ ab_Run X 280 176 (5, 0, 0) [l0, l1, l2, l3, l4, l5, l6, l7, ab_I z] (ab_I z :: st) σ Q := ab_r_iload rfl kc_X13_pull dX13_pull_174
theorem rX13_pull_176 : ab_Run X 280 176 (5, 0, 0) L st σ Q ↔ ab_Run X 280 177 (5, 0, 0) L (ab_I 1 :: st) σ Q := ab_r_iconst (by decide) kc_X13_pull dX13_pull_176
theorem rX13_pull_177 : ab_Run X 280 177 (5, 0, 0) L (ab_I b :: ab_I a :: st) σ Q ↔ (¬ a = b → ab_Run X 280 194 (5, 0, 0) L st σ Q) ∧ (¬ (¬ a = b) → ab_Run X 280 180 (5, 0, 0) L st σ Q) := ab_r_icmp_ne rfl kc_X13_pull dX13_pull_177
theorem rX13_pull_180 : ab_Run X 280 180 (5, 0, 0) [ab_R z, l1, l2, l3, l4, l5, l6, l7, l8] st σ Q ↔ z ≠ 0 ∧ ab_Run X 280 181 (5, 0, 0) [ab_R z, l1, l2, l3, l4, l5, l6, l7, l8] (ab_R z :: st) σ Q := ab_r_aload_n rfl kc_X13_pull dX13_pull_180
theorem rX13_pull_181 : ab_Run X 280 181 (5, 0, 0) L (ab_R a :: st) σ Q ↔ (ab_sh σ a).1 = 14 ∧ ab_Run X 280 184 (5, 0, 0) L (ab_R (ab_rd σ a 16) :: st) σ Q := gF_13_17 ko_X13_pull kc_X13_pull dX13_pull_181
theorem rX13_pull_184 : ab_Run X 280 184 (5, 0, 0) L st σ Q ↔ ab_Run X 280 186 (5, 0, 0) L (ab_I 11 :: st) σ Q := ab_r_bipush (by decide) kc_X13_pull dX13_pull_184
theorem rX13_pull_186 : ab_Run X 280 186 (5, 0, 0) [l0, l1, l2, l3, ab_I z, l5, l6, l7, l8] st σ Q ↔ ab_Run X 280 188 (5, 0, 0) [l0, l1, l2, l3, ab_I z, l5, l6, l7, l8] (ab_I z :: st) σ Q := ab_r_iload rfl kc_X13_pull dX13_pull_186
theorem rX13_pull_188 : ab_Run X 280 188 (5, 0, 0) L (ab_I b :: ab_I a :: st) σ Q ↔ ab_Run X 280 189 (5, 0, 0) L (ab_I (ab_w32 (a + b)) :: st) σ Q := ab_r_iadd kc_X13_pull dX13_pull_188
theorem rX13_pull_189 : ab_Run X 280 189 (5, 0, 0) L (ab_I b :: ab_R a :: st) σ Q ↔ ab_Run X 280 190 (5, 0, 0) L (ab_I b :: ab_R a :: ab_I b :: ab_R a :: st) σ Q := ab_r_dup2 kc_X13_pull dX13_pull_189
theorem rX13_pull_190 : ab_Run X 280 190 (5, 0, 0) L (ab_I i :: ab_R a :: st) σ Q ↔ ((ab_sh σ a).1 = 21 ∧ 0 ≤ i ∧ i < (ab_sh σ a).2) ∧ ab_Run X 280 191 (5, 0, 0) L (ab_I (ab_rd σ a i) :: st) σ Q := ab_r_iaload (by decide) kc_X13_pull dX13_pull_190
theorem rX13_pull_191 : ab_Run X 280 191 (5, 0, 0) L st σ Q ↔ ab_Run X 280 192 (5, 0, 0) L (ab_I 1 :: st) σ Q := ab_r_iconst (by decide) kc_X13_pull dX13_pull_191
theorem rX13_pull_192 : ab_Run X 280 192 (5, 0, 0) L (ab_I b :: ab_I a :: st) σ Q ↔ ab_Run X 280 193 (5, 0, 0) L (ab_I (ab_w32 (a + b)) :: st) σ Q := ab_r_iadd kc_X13_pull dX13_pull_192
theorem rX13_pull_193 : ab_Run X 280 193 (5, 0, 0) L (ab_I v :: ab_I i :: ab_R a :: st) σ Q ↔ ((ab_sh σ a).1 = 21 ∧ 0 ≤ i ∧ i < (ab_sh σ a).2) ∧ ab_Run X 280 194 (5, 0, 0) L st (ab_wr σ a i v) Q := ab_r_iastore kc_X13_pull dX13_pull_193
theorem rX13_pull_194 : ab_Run X 280 194 (5, 0, 0) [ab_R z, l1, l2, l3, l4, l5, l6, l7, l8] st σ Q ↔ z ≠ 0 ∧ ab_Run X 280 195 (5, 0, 0) [ab_R z, l1, l2, l3, l4, l5, l6, l7, l8] (ab_R z :: st) σ Q := ab_r_aload_n rfl kc_X13_pull dX13_pull_194
theorem rX13_pull_195 : ab_Run X 280 195 (5, 0, 0) [l0, l1, l2, l3, l4, l5, l6, l7, ab_I z] st σ Q ↔ ab_Run X 280 197 (5, 0, 0) [l0, l1, l2, l3, l4, l5, l6, l7, ab_I z] (ab_I z :: st) σ Q := ab_r_iload rfl kc_X13_pull dX13_pull_195
theorem rX13_pull_197 : ab_Run X 280 197 (5, 0, 0) L (ab_I x1 :: ab_R a :: st) σ Q ↔ ((ab_sh σ a).1 = 14 ∧ ab_cats st ≤ 8) ∧ ab_Do X 161 [ab_R a, ab_I x1] σ (fun r σ' => ab_Run X 280 200 (5, 0, 0) L (ab_psh r st) σ' Q) := ab_r_callV (w := [ab_I x1]) (as := [ab_I x1]) (b1 := (0, 0, 0)) 0 (Or.inl rfl) (by decide) ko_X13_pull qM_13_63 (by decide) rfl rfl rfl rfl rfl (by decide) (Nat.le_of_ble_eq_true rfl) kc_X13_pull dX13_pull_197
theorem rX13_pull_200 : ab_Run X 280 200 (5, 0, 0) L [ab_I v] σ Q ↔ Q (some (ab_I v)) σ := ab_r_ireturnI rfl kc_X13_pull dX13_pull_200
theorem kc_X13_seed : ab_code 281 = cX13_seed := rfl
theorem ko_X13_seed : ab_ow 281 = 13 := rfl
theorem rX13_seed_0 : ab_Run X 281 0 (2, 0, 0) [ab_R z, l1] st σ Q ↔ z ≠ 0 ∧ ab_Run X 281 1 (2, 0, 0) [ab_R z, l1] (ab_R z :: st) σ Q := ab_r_aload_n rfl kc_X13_seed dX13_seed_0
theorem rX13_seed_1 : ab_Run X 281 1 (2, 0, 0) L st σ Q ↔ ab_Run X 281 2 (2, 0, 0) L (ab_I 0 :: st) σ Q := ab_r_iconst (by decide) kc_X13_seed dX13_seed_1
theorem rX13_seed_2 : ab_Run X 281 2 (2, 0, 0) L (ab_I z :: ab_R a :: st) σ Q ↔ (ab_sh σ a).1 = 14 ∧ ab_Run X 281 5 (2, 0, 0) L st (ab_wr σ a 0 z) Q := sF_13_53 ko_X13_seed kc_X13_seed dX13_seed_2
theorem rX13_seed_5 : ab_Run X 281 5 (2, 0, 0) [ab_R z, l1] st σ Q ↔ z ≠ 0 ∧ ab_Run X 281 6 (2, 0, 0) [ab_R z, l1] (ab_R z :: st) σ Q := ab_r_aload_n rfl kc_X13_seed dX13_seed_5
theorem rX13_seed_6 : ab_Run X 281 6 (2, 0, 0) L (ab_R a :: st) σ Q ↔ (ab_sh σ a).1 = 14 ∧ ab_Run X 281 9 (2, 0, 0) L (ab_R (ab_rd σ a 3) :: st) σ Q := gF_13_373 ko_X13_seed kc_X13_seed dX13_seed_6
theorem rX13_seed_9 : ab_Run X 281 9 (2, 0, 0) L (ab_R a :: st) σ Q ↔ (¬ a = 0 → ab_Run X 281 18 (2, 0, 0) L st σ Q) ∧ (¬ (¬ a = 0) → ab_Run X 281 12 (2, 0, 0) L st σ Q) := ab_r_ifnonnull rfl kc_X13_seed dX13_seed_9
theorem rX13_seed_12 : ab_Run X 281 12 (2, 0, 0) [ab_R z, l1] st σ Q ↔ z ≠ 0 ∧ ab_Run X 281 13 (2, 0, 0) [ab_R z, l1] (ab_R z :: st) σ Q := ab_r_aload_n rfl kc_X13_seed dX13_seed_12
theorem rX13_seed_13 : ab_Run X 281 13 (2, 0, 0) L st σ Q ↔ ab_Run X 281 14 (2, 0, 0) L (ab_I 1 :: st) σ Q := ab_r_iconst (by decide) kc_X13_seed dX13_seed_13
theorem rX13_seed_14 : ab_Run X 281 14 (2, 0, 0) L (ab_I x1 :: ab_R a :: st) σ Q ↔ ((ab_sh σ a).1 = 14 ∧ ab_cats st ≤ 8) ∧ ab_Do X 160 [ab_R a, ab_I x1] σ (fun r σ' => ab_Run X 281 17 (2, 0, 0) L (ab_psh r st) σ' Q) := ab_r_callV (w := [ab_I x1]) (as := [ab_I x1]) (b1 := (1, 0, 0)) 0 (Or.inl rfl) (by decide) ko_X13_seed qM_13_590 (by decide) rfl rfl rfl rfl rfl (by decide) (Nat.le_of_ble_eq_true rfl) kc_X13_seed dX13_seed_14
theorem rX13_seed_17 : ab_Run X 281 17 (2, 0, 0) L [ab_I v] σ Q ↔ (v = 0 ∨ v = 1) ∧ Q (some (ab_I v)) σ := ab_r_ireturnZ rfl kc_X13_seed dX13_seed_17
theorem rX13_seed_18 : ab_Run X 281 18 (2, 0, 0) [l0, ab_I z] st σ Q ↔ ab_Run X 281 19 (2, 0, 0) [l0, ab_I z] (ab_I z :: st) σ Q := ab_r_iload_n rfl kc_X13_seed dX13_seed_18
theorem rX13_seed_19 : ab_Run X 281 19 (2, 0, 0) L st σ Q ↔ ab_Run X 281 20 (2, 0, 0) L (ab_I 0 :: st) σ Q := ab_r_iconst (by decide) kc_X13_seed dX13_seed_19
theorem rX13_seed_20 : ab_Run X 281 20 (2, 0, 0) L st σ Q ↔ ab_Run X 281 23 (2, 0, 0) L (ab_I 65536 :: st) σ Q := ab_r_ldc_w rfl ko_X13_seed (by decide +kernel) kc_X13_seed dX13_seed_20
theorem rX13_seed_23 : ab_Run X 281 23 (2, 0, 0) L (ab_I x3 :: ab_I x2 :: ab_I x1 :: st) σ Q ↔ ab_cats st ≤ 8 ∧ ab_Do X 163 [ab_I x1, ab_I x2, ab_I x3] σ (fun r σ' => ab_Run X 281 26 (2, 0, 0) L (ab_psh r st) σ' Q) := ab_r_callS (w := [ab_I x3, ab_I x2, ab_I x1]) (as := [ab_I x1, ab_I x2, ab_I x3]) (b1 := (0, 0, 0)) (by decide) ko_X13_seed qM_13_138 (by decide) rfl rfl rfl rfl (by decide) (Nat.le_of_ble_eq_true rfl) kc_X13_seed dX13_seed_23
theorem rX13_seed_26 : ab_Run X 281 26 (2, 0, 0) L (ab_I a :: st) σ Q ↔ (¬ a = 0 → ab_Run X 281 35 (2, 0, 0) L st σ Q) ∧ (¬ (¬ a = 0) → ab_Run X 281 29 (2, 0, 0) L st σ Q) := ab_r_if_ne rfl kc_X13_seed dX13_seed_26
theorem rX13_seed_29 : ab_Run X 281 29 (2, 0, 0) [ab_R z, l1] st σ Q ↔ z ≠ 0 ∧ ab_Run X 281 30 (2, 0, 0) [ab_R z, l1] (ab_R z :: st) σ Q := ab_r_aload_n rfl kc_X13_seed dX13_seed_29
theorem rX13_seed_30 : ab_Run X 281 30 (2, 0, 0) L st σ Q ↔ ab_Run X 281 31 (2, 0, 0) L (ab_I 2 :: st) σ Q := ab_r_iconst (by decide) kc_X13_seed dX13_seed_30
theorem rX13_seed_31 : ab_Run X 281 31 (2, 0, 0) L (ab_I x1 :: ab_R a :: st) σ Q ↔ ((ab_sh σ a).1 = 14 ∧ ab_cats st ≤ 8) ∧ ab_Do X 160 [ab_R a, ab_I x1] σ (fun r σ' => ab_Run X 281 34 (2, 0, 0) L (ab_psh r st) σ' Q) := ab_r_callV (w := [ab_I x1]) (as := [ab_I x1]) (b1 := (1, 0, 0)) 0 (Or.inl rfl) (by decide) ko_X13_seed qM_13_590 (by decide) rfl rfl rfl rfl rfl (by decide) (Nat.le_of_ble_eq_true rfl) kc_X13_seed dX13_seed_31
theorem rX13_seed_34 : ab_Run X 281 34 (2, 0, 0) L [ab_I v] σ Q ↔ (v = 0 ∨ v = 1) ∧ Q (some (ab_I v)) σ := ab_r_ireturnZ rfl kc_X13_seed dX13_seed_34
theorem rX13_seed_35 : ab_Run X 281 35 (2, 0, 0) [ab_R z, l1] st σ Q ↔ z ≠ 0 ∧ ab_Run X 281 36 (2, 0, 0) [ab_R z, l1] (ab_R z :: st) σ Q := ab_r_aload_n rfl kc_X13_seed dX13_seed_35
theorem rX13_seed_36 : ab_Run X 281 36 (2, 0, 0) L (ab_R a :: st) σ Q ↔ (ab_sh σ a).1 = 14 ∧ ab_Run X 281 39 (2, 0, 0) L (ab_R (ab_rd σ a 16) :: st) σ Q := gF_13_17 ko_X13_seed kc_X13_seed dX13_seed_36
theorem rX13_seed_39 : ab_Run X 281 39 (2, 0, 0) L st σ Q ↔ ab_Run X 281 41 (2, 0, 0) L (ab_I 17 :: st) σ Q := ab_r_bipush (by decide) kc_X13_seed dX13_seed_39
theorem rX13_seed_41 : ab_Run X 281 41 (2, 0, 0) [l0, ab_I z] st σ Q ↔ ab_Run X 281 42 (2, 0, 0) [l0, ab_I z] (ab_I z :: st) σ Q := ab_r_iload_n rfl kc_X13_seed dX13_seed_41
theorem rX13_seed_42 : ab_Run X 281 42 (2, 0, 0) L (ab_I v :: ab_I i :: ab_R a :: st) σ Q ↔ ((ab_sh σ a).1 = 21 ∧ 0 ≤ i ∧ i < (ab_sh σ a).2) ∧ ab_Run X 281 43 (2, 0, 0) L st (ab_wr σ a i v) Q := ab_r_iastore kc_X13_seed dX13_seed_42
theorem rX13_seed_43 : ab_Run X 281 43 (2, 0, 0) [ab_R z, l1] st σ Q ↔ z ≠ 0 ∧ ab_Run X 281 44 (2, 0, 0) [ab_R z, l1] (ab_R z :: st) σ Q := ab_r_aload_n rfl kc_X13_seed dX13_seed_43
theorem rX13_seed_44 : ab_Run X 281 44 (2, 0, 0) L (ab_R a :: st) σ Q ↔ ((ab_sh σ a).1 = 14 ∧ ab_cats st ≤ 8) ∧ ab_Do X 162 [ab_R a] σ (fun r σ' => ab_Run X 281 47 (2, 0, 0) L (ab_psh r st) σ' Q) := ab_r_callV (w := []) (as := []) (b1 := (1, 0, 0)) 0 (Or.inl rfl) (by decide) ko_X13_seed qM_13_596 (by decide) rfl rfl rfl rfl rfl (by decide) (Nat.le_of_ble_eq_true rfl) kc_X13_seed dX13_seed_44
theorem rX13_seed_47 : ab_Run X 281 47 (2, 0, 0) L [ab_I v] σ Q ↔ (v = 0 ∨ v = 1) ∧ Q (some (ab_I v)) σ := ab_r_ireturnZ rfl kc_X13_seed dX13_seed_47
theorem kc_X13_undo : ab_code 282 = cX13_undo := rfl
theorem ko_X13_undo : ab_ow 282 = 13 := rfl
theorem rX13_undo_0 : ab_Run X 282 0 (2, 0, 0) [ab_R z, l1] st σ Q ↔ z ≠ 0 ∧ ab_Run X 282 1 (2, 0, 0) [ab_R z, l1] (ab_R z :: st) σ Q := ab_r_aload_n rfl kc_X13_undo dX13_undo_0
theorem rX13_undo_1 : ab_Run X 282 1 (2, 0, 0) L st σ Q ↔ ab_Run X 282 2 (2, 0, 0) L (ab_I 0 :: st) σ Q := ab_r_iconst (by decide) kc_X13_undo dX13_undo_1
theorem rX13_undo_2 : ab_Run X 282 2 (2, 0, 0) L (ab_I z :: ab_R a :: st) σ Q ↔ (ab_sh σ a).1 = 14 ∧ ab_Run X 282 5 (2, 0, 0) L st (ab_wr σ a 0 z) Q := sF_13_53 ko_X13_undo kc_X13_undo dX13_undo_2
theorem rX13_undo_5 : ab_Run X 282 5 (2, 0, 0) [ab_R z, l1] st σ Q ↔ z ≠ 0 ∧ ab_Run X 282 6 (2, 0, 0) [ab_R z, l1] (ab_R z :: st) σ Q := ab_r_aload_n rfl kc_X13_undo dX13_undo_5
theorem rX13_undo_6 : ab_Run X 282 6 (2, 0, 0) L (ab_R a :: st) σ Q ↔ (ab_sh σ a).1 = 14 ∧ ab_Run X 282 9 (2, 0, 0) L (ab_R (ab_rd σ a 3) :: st) σ Q := gF_13_373 ko_X13_undo kc_X13_undo dX13_undo_6
theorem rX13_undo_9 : ab_Run X 282 9 (2, 0, 0) L (ab_R a :: st) σ Q ↔ (a = 0 → ab_Run X 282 19 (2, 0, 0) L st σ Q) ∧ (¬ (a = 0) → ab_Run X 282 12 (2, 0, 0) L st σ Q) := ab_r_ifnull rfl kc_X13_undo dX13_undo_9
theorem rX13_undo_12 : ab_Run X 282 12 (2, 0, 0) [ab_R z, l1] st σ Q ↔ z ≠ 0 ∧ ab_Run X 282 13 (2, 0, 0) [ab_R z, l1] (ab_R z :: st) σ Q := ab_r_aload_n rfl kc_X13_undo dX13_undo_12
theorem rX13_undo_13 : ab_Run X 282 13 (2, 0, 0) L (ab_R a :: st) σ Q ↔ (ab_sh σ a).1 = 14 ∧ ab_Run X 282 16 (2, 0, 0) L (ab_I (ab_rd σ a 19) :: st) σ Q := gF_13_375 ko_X13_undo kc_X13_undo dX13_undo_13
theorem rX13_undo_16 : ab_Run X 282 16 (2, 0, 0) L (ab_I a :: st) σ Q ↔ (¬ a = 0 → ab_Run X 282 26 (2, 0, 0) L st σ Q) ∧ (¬ (¬ a = 0) → ab_Run X 282 19 (2, 0, 0) L st σ Q) := ab_r_if_ne rfl kc_X13_undo dX13_undo_16
theorem rX13_undo_19 : ab_Run X 282 19 (2, 0, 0) [ab_R z, l1] st σ Q ↔ z ≠ 0 ∧ ab_Run X 282 20 (2, 0, 0) [ab_R z, l1] (ab_R z :: st) σ Q := ab_r_aload_n rfl kc_X13_undo dX13_undo_19
theorem rX13_undo_20 : ab_Run X 282 20 (2, 0, 0) L st σ Q ↔ ab_Run X 282 22 (2, 0, 0) L (ab_I 6 :: st) σ Q := ab_r_bipush (by decide) kc_X13_undo dX13_undo_20
theorem rX13_undo_22 : ab_Run X 282 22 (2, 0, 0) L (ab_I x1 :: ab_R a :: st) σ Q ↔ ((ab_sh σ a).1 = 14 ∧ ab_cats st ≤ 8) ∧ ab_Do X 160 [ab_R a, ab_I x1] σ (fun r σ' => ab_Run X 282 25 (2, 0, 0) L (ab_psh r st) σ' Q) := ab_r_callV (w := [ab_I x1]) (as := [ab_I x1]) (b1 := (1, 0, 0)) 0 (Or.inl rfl) (by decide) ko_X13_undo qM_13_590 (by decide) rfl rfl rfl rfl rfl (by decide) (Nat.le_of_ble_eq_true rfl) kc_X13_undo dX13_undo_22
theorem rX13_undo_25 : ab_Run X 282 25 (2, 0, 0) L [ab_I v] σ Q ↔ (v = 0 ∨ v = 1) ∧ Q (some (ab_I v)) σ := ab_r_ireturnZ rfl kc_X13_undo dX13_undo_25
theorem rX13_undo_26 : ab_Run X 282 26 (2, 0, 0) [ab_R z, l1] st σ Q ↔ z ≠ 0 ∧ ab_Run X 282 27 (2, 0, 0) [ab_R z, l1] (ab_R z :: st) σ Q := ab_r_aload_n rfl kc_X13_undo dX13_undo_26
theorem rX13_undo_27I : ab_Run X 282 27 (2, 0, 0) L (ab_I a :: st) σ Q ↔ ab_Run X 282 28 (2, 0, 0) L (ab_I a :: ab_I a :: st) σ Q := ab_r_dupI kc_X13_undo dX13_undo_27
theorem rX13_undo_27R : ab_Run X 282 27 (2, 0, 0) L (ab_R a :: st) σ Q ↔ ab_Run X 282 28 (2, 0, 0) L (ab_R a :: ab_R a :: st) σ Q := ab_r_dupR kc_X13_undo dX13_undo_27
theorem rX13_undo_28 : ab_Run X 282 28 (2, 0, 0) L (ab_R a :: st) σ Q ↔ (ab_sh σ a).1 = 14 ∧ ab_Run X 282 31 (2, 0, 0) L (ab_I (ab_rd σ a 19) :: st) σ Q := gF_13_375 ko_X13_undo kc_X13_undo dX13_undo_28
theorem rX13_undo_31 : ab_Run X 282 31 (2, 0, 0) L st σ Q ↔ ab_Run X 282 32 (2, 0, 0) L (ab_I 1 :: st) σ Q := ab_r_iconst (by decide) kc_X13_undo dX13_undo_31
theorem rX13_undo_32 : ab_Run X 282 32 (2, 0, 0) L (ab_I b :: ab_I a :: st) σ Q ↔ ab_Run X 282 33 (2, 0, 0) L (ab_I (ab_w32 (a - b)) :: st) σ Q := ab_r_isub kc_X13_undo dX13_undo_32
theorem rX13_undo_33 : ab_Run X 282 33 (2, 0, 0) L (ab_I z :: ab_R a :: st) σ Q ↔ (ab_sh σ a).1 = 14 ∧ ab_Run X 282 36 (2, 0, 0) L st (ab_wr σ a 19 z) Q := sF_13_375 ko_X13_undo kc_X13_undo dX13_undo_33
theorem rX13_undo_36 : ab_Run X 282 36 (2, 0, 0) L st σ Q ↔ ab_Run X 282 37 (2, 0, 0) L (ab_I 0 :: st) σ Q := ab_r_iconst (by decide) kc_X13_undo dX13_undo_36
theorem rX13_undo_37 : ab_Run X 282 37 (2, 0, 0) [l0, l1] (ab_I z :: st) σ Q ↔ (!ab_isJ l0) = true ∧ ab_Run X 282 38 (2, 0, 0) [l0, ab_I z] st σ Q := ab_r_istore_n (Nat.le_of_ble_eq_true rfl) kc_X13_undo dX13_undo_37
theorem rX13_undo_38 : ab_Run X 282 38 (2, 0, 0) [l0, ab_I z] st σ Q ↔ ab_Run X 282 39 (2, 0, 0) [l0, ab_I z] (ab_I z :: st) σ Q := ab_r_iload_n rfl kc_X13_undo dX13_undo_38
theorem rX13_undo_39 : ab_Run X 282 39 (2, 0, 0) L st σ Q ↔ ab_Run X 282 41 (2, 0, 0) L (ab_I 18 :: st) σ Q := ab_r_bipush (by decide) kc_X13_undo dX13_undo_39
theorem rX13_undo_41 : ab_Run X 282 41 (2, 0, 0) L (ab_I b :: ab_I a :: st) σ Q ↔ (b ≤ a → ab_Run X 282 70 (2, 0, 0) L st σ Q) ∧ (¬ (b ≤ a) → ab_Run X 282 44 (2, 0, 0) L st σ Q) := ab_r_icmp_ge rfl kc_X13_undo dX13_undo_41
theorem rX13_undo_44 : ab_Run X 282 44 (2, 0, 0) [ab_R z, l1] st σ Q ↔ z ≠ 0 ∧ ab_Run X 282 45 (2, 0, 0) [ab_R z, l1] (ab_R z :: st) σ Q := ab_r_aload_n rfl kc_X13_undo dX13_undo_44
theorem rX13_undo_45 : ab_Run X 282 45 (2, 0, 0) L (ab_R a :: st) σ Q ↔ (ab_sh σ a).1 = 14 ∧ ab_Run X 282 48 (2, 0, 0) L (ab_R (ab_rd σ a 16) :: st) σ Q := gF_13_17 ko_X13_undo kc_X13_undo dX13_undo_45
theorem rX13_undo_48 : ab_Run X 282 48 (2, 0, 0) [l0, ab_I z] st σ Q ↔ ab_Run X 282 49 (2, 0, 0) [l0, ab_I z] (ab_I z :: st) σ Q := ab_r_iload_n rfl kc_X13_undo dX13_undo_48
theorem rX13_undo_49 : ab_Run X 282 49 (2, 0, 0) [ab_R z, l1] st σ Q ↔ z ≠ 0 ∧ ab_Run X 282 50 (2, 0, 0) [ab_R z, l1] (ab_R z :: st) σ Q := ab_r_aload_n rfl kc_X13_undo dX13_undo_49
theorem rX13_undo_50 : ab_Run X 282 50 (2, 0, 0) L (ab_R a :: st) σ Q ↔ (ab_sh σ a).1 = 14 ∧ ab_Run X 282 53 (2, 0, 0) L (ab_R (ab_rd σ a 17) :: st) σ Q := gF_13_21 ko_X13_undo kc_X13_undo dX13_undo_50
theorem rX13_undo_53 : ab_Run X 282 53 (2, 0, 0) L st σ Q ↔ ab_Run X 282 55 (2, 0, 0) L (ab_I 18 :: st) σ Q := ab_r_bipush (by decide) kc_X13_undo dX13_undo_53
theorem rX13_undo_55 : ab_Run X 282 55 (2, 0, 0) [ab_R z, l1] st σ Q ↔ z ≠ 0 ∧ ab_Run X 282 56 (2, 0, 0) [ab_R z, l1] (ab_R z :: st) σ Q := ab_r_aload_n rfl kc_X13_undo dX13_undo_55
theorem rX13_undo_56 : ab_Run X 282 56 (2, 0, 0) L (ab_R a :: st) σ Q ↔ (ab_sh σ a).1 = 14 ∧ ab_Run X 282 59 (2, 0, 0) L (ab_I (ab_rd σ a 19) :: st) σ Q := gF_13_375 ko_X13_undo kc_X13_undo dX13_undo_56
theorem rX13_undo_59 : ab_Run X 282 59 (2, 0, 0) L (ab_I b :: ab_I a :: st) σ Q ↔ ab_Run X 282 60 (2, 0, 0) L (ab_I (ab_w32 (a * b)) :: st) σ Q := ab_r_imul kc_X13_undo dX13_undo_59
theorem rX13_undo_60 : ab_Run X 282 60 (2, 0, 0) [l0, ab_I z] st σ Q ↔ ab_Run X 282 61 (2, 0, 0) [l0, ab_I z] (ab_I z :: st) σ Q := ab_r_iload_n rfl kc_X13_undo dX13_undo_60
theorem rX13_undo_61 : ab_Run X 282 61 (2, 0, 0) L (ab_I b :: ab_I a :: st) σ Q ↔ ab_Run X 282 62 (2, 0, 0) L (ab_I (ab_w32 (a + b)) :: st) σ Q := ab_r_iadd kc_X13_undo dX13_undo_61
theorem rX13_undo_62 : ab_Run X 282 62 (2, 0, 0) L (ab_I i :: ab_R a :: st) σ Q ↔ ((ab_sh σ a).1 = 21 ∧ 0 ≤ i ∧ i < (ab_sh σ a).2) ∧ ab_Run X 282 63 (2, 0, 0) L (ab_I (ab_rd σ a i) :: st) σ Q := ab_r_iaload (by decide) kc_X13_undo dX13_undo_62
theorem rX13_undo_63 : ab_Run X 282 63 (2, 0, 0) L (ab_I v :: ab_I i :: ab_R a :: st) σ Q ↔ ((ab_sh σ a).1 = 21 ∧ 0 ≤ i ∧ i < (ab_sh σ a).2) ∧ ab_Run X 282 64 (2, 0, 0) L st (ab_wr σ a i v) Q := ab_r_iastore kc_X13_undo dX13_undo_63
theorem rX13_undo_64 : ab_Run X 282 64 (2, 0, 0) [l0, ab_I z] st σ Q ↔ (!ab_isJ l0) = true ∧ ab_Run X 282 67 (2, 0, 0) [l0, ab_I (ab_w32 (z + 1))] st σ Q := ab_r_iinc rfl (by decide) kc_X13_undo dX13_undo_64
theorem rX13_undo_67 : ab_Run X 282 67 (2, 0, 0) L st σ Q ↔ ab_Run X 282 38 (2, 0, 0) L st σ Q := ab_r_goto rfl kc_X13_undo dX13_undo_67
theorem rX13_undo_70 : ab_Run X 282 70 (2, 0, 0) [ab_R z, l1] st σ Q ↔ z ≠ 0 ∧ ab_Run X 282 71 (2, 0, 0) [ab_R z, l1] (ab_R z :: st) σ Q := ab_r_aload_n rfl kc_X13_undo dX13_undo_70
theorem rX13_undo_71 : ab_Run X 282 71 (2, 0, 0) L (ab_R a :: st) σ Q ↔ ((ab_sh σ a).1 = 14 ∧ ab_cats st ≤ 8) ∧ ab_Do X 162 [ab_R a] σ (fun r σ' => ab_Run X 282 74 (2, 0, 0) L (ab_psh r st) σ' Q) := ab_r_callV (w := []) (as := []) (b1 := (1, 0, 0)) 0 (Or.inl rfl) (by decide) ko_X13_undo qM_13_596 (by decide) rfl rfl rfl rfl rfl (by decide) (Nat.le_of_ble_eq_true rfl) kc_X13_undo dX13_undo_71
theorem rX13_undo_74 : ab_Run X 282 74 (2, 0, 0) L [ab_I v] σ Q ↔ (v = 0 ∨ v = 1) ∧ Q (some (ab_I v)) σ := ab_r_ireturnZ rfl kc_X13_undo dX13_undo_74
theorem kc_X13_mark : ab_code 283 = cX13_mark := rfl
theorem ko_X13_mark : ab_ow 283 = 13 := rfl
theorem rX13_mark_0 : ab_Run X 283 0 (1, 0, 0) [ab_R z, l1] st σ Q ↔ z ≠ 0 ∧ ab_Run X 283 1 (1, 0, 0) [ab_R z, l1] (ab_R z :: st) σ Q := ab_r_aload_n rfl kc_X13_mark dX13_mark_0
theorem rX13_mark_1 : ab_Run X 283 1 (1, 0, 0) L st σ Q ↔ ab_Run X 283 2 (1, 0, 0) L (ab_I 0 :: st) σ Q := ab_r_iconst (by decide) kc_X13_mark dX13_mark_1
theorem rX13_mark_2 : ab_Run X 283 2 (1, 0, 0) L (ab_I z :: ab_R a :: st) σ Q ↔ (ab_sh σ a).1 = 14 ∧ ab_Run X 283 5 (1, 0, 0) L st (ab_wr σ a 0 z) Q := sF_13_53 ko_X13_mark kc_X13_mark dX13_mark_2
theorem rX13_mark_5 : ab_Run X 283 5 (1, 0, 0) [ab_R z, l1] st σ Q ↔ z ≠ 0 ∧ ab_Run X 283 6 (1, 0, 0) [ab_R z, l1] (ab_R z :: st) σ Q := ab_r_aload_n rfl kc_X13_mark dX13_mark_5
theorem rX13_mark_6 : ab_Run X 283 6 (1, 0, 0) L (ab_R a :: st) σ Q ↔ (ab_sh σ a).1 = 14 ∧ ab_Run X 283 9 (1, 0, 0) L (ab_R (ab_rd σ a 3) :: st) σ Q := gF_13_373 ko_X13_mark kc_X13_mark dX13_mark_6
theorem rX13_mark_9 : ab_Run X 283 9 (1, 0, 0) L (ab_R a :: st) σ Q ↔ (¬ a = 0 → ab_Run X 283 18 (1, 0, 0) L st σ Q) ∧ (¬ (¬ a = 0) → ab_Run X 283 12 (1, 0, 0) L st σ Q) := ab_r_ifnonnull rfl kc_X13_mark dX13_mark_9
theorem rX13_mark_12 : ab_Run X 283 12 (1, 0, 0) [ab_R z, l1] st σ Q ↔ z ≠ 0 ∧ ab_Run X 283 13 (1, 0, 0) [ab_R z, l1] (ab_R z :: st) σ Q := ab_r_aload_n rfl kc_X13_mark dX13_mark_12
theorem rX13_mark_13 : ab_Run X 283 13 (1, 0, 0) L st σ Q ↔ ab_Run X 283 14 (1, 0, 0) L (ab_I 1 :: st) σ Q := ab_r_iconst (by decide) kc_X13_mark dX13_mark_13
theorem rX13_mark_14 : ab_Run X 283 14 (1, 0, 0) L (ab_I x1 :: ab_R a :: st) σ Q ↔ ((ab_sh σ a).1 = 14 ∧ ab_cats st ≤ 8) ∧ ab_Do X 159 [ab_R a, ab_I x1] σ (fun r σ' => ab_Run X 283 17 (1, 0, 0) L (ab_psh r st) σ' Q) := ab_r_callV (w := [ab_I x1]) (as := [ab_I x1]) (b1 := (0, 0, 0)) 0 (Or.inl rfl) (by decide) ko_X13_mark qM_13_59 (by decide) rfl rfl rfl rfl rfl (by decide) (Nat.le_of_ble_eq_true rfl) kc_X13_mark dX13_mark_14
theorem rX13_mark_17 : ab_Run X 283 17 (1, 0, 0) L [ab_I v] σ Q ↔ Q (some (ab_I v)) σ := ab_r_ireturnI rfl kc_X13_mark dX13_mark_17
theorem rX13_mark_18 : ab_Run X 283 18 (1, 0, 0) [ab_R z, l1] st σ Q ↔ z ≠ 0 ∧ ab_Run X 283 19 (1, 0, 0) [ab_R z, l1] (ab_R z :: st) σ Q := ab_r_aload_n rfl kc_X13_mark dX13_mark_18
theorem rX13_mark_19 : ab_Run X 283 19 (1, 0, 0) L (ab_R a :: st) σ Q ↔ (ab_sh σ a).1 = 14 ∧ ab_Run X 283 22 (1, 0, 0) L (ab_I (ab_rd σ a 20) :: st) σ Q := gF_13_378 ko_X13_mark kc_X13_mark dX13_mark_19
theorem rX13_mark_22 : ab_Run X 283 22 (1, 0, 0) L st σ Q ↔ ab_Run X 283 23 (1, 0, 0) L (ab_I 3 :: st) σ Q := ab_r_iconst (by decide) kc_X13_mark dX13_mark_22
theorem rX13_mark_23 : ab_Run X 283 23 (1, 0, 0) L (ab_I b :: ab_I a :: st) σ Q ↔ (¬ a = b → ab_Run X 283 32 (1, 0, 0) L st σ Q) ∧ (¬ (¬ a = b) → ab_Run X 283 26 (1, 0, 0) L st σ Q) := ab_r_icmp_ne rfl kc_X13_mark dX13_mark_23
theorem rX13_mark_26 : ab_Run X 283 26 (1, 0, 0) [ab_R z, l1] st σ Q ↔ z ≠ 0 ∧ ab_Run X 283 27 (1, 0, 0) [ab_R z, l1] (ab_R z :: st) σ Q := ab_r_aload_n rfl kc_X13_mark dX13_mark_26
theorem rX13_mark_27 : ab_Run X 283 27 (1, 0, 0) L st σ Q ↔ ab_Run X 283 28 (1, 0, 0) L (ab_I 3 :: st) σ Q := ab_r_iconst (by decide) kc_X13_mark dX13_mark_27
theorem rX13_mark_28 : ab_Run X 283 28 (1, 0, 0) L (ab_I x1 :: ab_R a :: st) σ Q ↔ ((ab_sh σ a).1 = 14 ∧ ab_cats st ≤ 8) ∧ ab_Do X 159 [ab_R a, ab_I x1] σ (fun r σ' => ab_Run X 283 31 (1, 0, 0) L (ab_psh r st) σ' Q) := ab_r_callV (w := [ab_I x1]) (as := [ab_I x1]) (b1 := (0, 0, 0)) 0 (Or.inl rfl) (by decide) ko_X13_mark qM_13_59 (by decide) rfl rfl rfl rfl rfl (by decide) (Nat.le_of_ble_eq_true rfl) kc_X13_mark dX13_mark_28
theorem rX13_mark_31 : ab_Run X 283 31 (1, 0, 0) L [ab_I v] σ Q ↔ Q (some (ab_I v)) σ := ab_r_ireturnI rfl kc_X13_mark dX13_mark_31
theorem rX13_mark_32 : ab_Run X 283 32 (1, 0, 0) L st σ Q ↔ ab_Run X 283 33 (1, 0, 0) L (ab_I 0 :: st) σ Q := ab_r_iconst (by decide) kc_X13_mark dX13_mark_32
theorem rX13_mark_33 : ab_Run X 283 33 (1, 0, 0) [l0, l1] (ab_I z :: st) σ Q ↔ (!ab_isJ l0) = true ∧ ab_Run X 283 34 (1, 0, 0) [l0, ab_I z] st σ Q := ab_r_istore_n (Nat.le_of_ble_eq_true rfl) kc_X13_mark dX13_mark_33
theorem rX13_mark_34 : ab_Run X 283 34 (1, 0, 0) [l0, ab_I z] st σ Q ↔ ab_Run X 283 35 (1, 0, 0) [l0, ab_I z] (ab_I z :: st) σ Q := ab_r_iload_n rfl kc_X13_mark dX13_mark_34
theorem rX13_mark_35 : ab_Run X 283 35 (1, 0, 0) L st σ Q ↔ ab_Run X 283 37 (1, 0, 0) L (ab_I 18 :: st) σ Q := ab_r_bipush (by decide) kc_X13_mark dX13_mark_35
theorem rX13_mark_37 : ab_Run X 283 37 (1, 0, 0) L (ab_I b :: ab_I a :: st) σ Q ↔ (b ≤ a → ab_Run X 283 66 (1, 0, 0) L st σ Q) ∧ (¬ (b ≤ a) → ab_Run X 283 40 (1, 0, 0) L st σ Q) := ab_r_icmp_ge rfl kc_X13_mark dX13_mark_37
theorem rX13_mark_40 : ab_Run X 283 40 (1, 0, 0) [ab_R z, l1] st σ Q ↔ z ≠ 0 ∧ ab_Run X 283 41 (1, 0, 0) [ab_R z, l1] (ab_R z :: st) σ Q := ab_r_aload_n rfl kc_X13_mark dX13_mark_40
theorem rX13_mark_41 : ab_Run X 283 41 (1, 0, 0) L (ab_R a :: st) σ Q ↔ (ab_sh σ a).1 = 14 ∧ ab_Run X 283 44 (1, 0, 0) L (ab_R (ab_rd σ a 18) :: st) σ Q := gF_13_24 ko_X13_mark kc_X13_mark dX13_mark_41
theorem rX13_mark_44 : ab_Run X 283 44 (1, 0, 0) L st σ Q ↔ ab_Run X 283 46 (1, 0, 0) L (ab_I 18 :: st) σ Q := ab_r_bipush (by decide) kc_X13_mark dX13_mark_44
theorem rX13_mark_46 : ab_Run X 283 46 (1, 0, 0) [ab_R z, l1] st σ Q ↔ z ≠ 0 ∧ ab_Run X 283 47 (1, 0, 0) [ab_R z, l1] (ab_R z :: st) σ Q := ab_r_aload_n rfl kc_X13_mark dX13_mark_46
theorem rX13_mark_47 : ab_Run X 283 47 (1, 0, 0) L (ab_R a :: st) σ Q ↔ (ab_sh σ a).1 = 14 ∧ ab_Run X 283 50 (1, 0, 0) L (ab_I (ab_rd σ a 20) :: st) σ Q := gF_13_378 ko_X13_mark kc_X13_mark dX13_mark_47
theorem rX13_mark_50 : ab_Run X 283 50 (1, 0, 0) L (ab_I b :: ab_I a :: st) σ Q ↔ ab_Run X 283 51 (1, 0, 0) L (ab_I (ab_w32 (a * b)) :: st) σ Q := ab_r_imul kc_X13_mark dX13_mark_50
theorem rX13_mark_51 : ab_Run X 283 51 (1, 0, 0) [l0, ab_I z] st σ Q ↔ ab_Run X 283 52 (1, 0, 0) [l0, ab_I z] (ab_I z :: st) σ Q := ab_r_iload_n rfl kc_X13_mark dX13_mark_51
theorem rX13_mark_52 : ab_Run X 283 52 (1, 0, 0) L (ab_I b :: ab_I a :: st) σ Q ↔ ab_Run X 283 53 (1, 0, 0) L (ab_I (ab_w32 (a + b)) :: st) σ Q := ab_r_iadd kc_X13_mark dX13_mark_52
theorem rX13_mark_53 : ab_Run X 283 53 (1, 0, 0) [ab_R z, l1] st σ Q ↔ z ≠ 0 ∧ ab_Run X 283 54 (1, 0, 0) [ab_R z, l1] (ab_R z :: st) σ Q := ab_r_aload_n rfl kc_X13_mark dX13_mark_53
theorem rX13_mark_54 : ab_Run X 283 54 (1, 0, 0) L (ab_R a :: st) σ Q ↔ (ab_sh σ a).1 = 14 ∧ ab_Run X 283 57 (1, 0, 0) L (ab_R (ab_rd σ a 16) :: st) σ Q := gF_13_17 ko_X13_mark kc_X13_mark dX13_mark_54
theorem rX13_mark_57 : ab_Run X 283 57 (1, 0, 0) [l0, ab_I z] st σ Q ↔ ab_Run X 283 58 (1, 0, 0) [l0, ab_I z] (ab_I z :: st) σ Q := ab_r_iload_n rfl kc_X13_mark dX13_mark_57
theorem rX13_mark_58 : ab_Run X 283 58 (1, 0, 0) L (ab_I i :: ab_R a :: st) σ Q ↔ ((ab_sh σ a).1 = 21 ∧ 0 ≤ i ∧ i < (ab_sh σ a).2) ∧ ab_Run X 283 59 (1, 0, 0) L (ab_I (ab_rd σ a i) :: st) σ Q := ab_r_iaload (by decide) kc_X13_mark dX13_mark_58
theorem rX13_mark_59 : ab_Run X 283 59 (1, 0, 0) L (ab_I v :: ab_I i :: ab_R a :: st) σ Q ↔ ((ab_sh σ a).1 = 21 ∧ 0 ≤ i ∧ i < (ab_sh σ a).2) ∧ ab_Run X 283 60 (1, 0, 0) L st (ab_wr σ a i v) Q := ab_r_iastore kc_X13_mark dX13_mark_59
theorem rX13_mark_60 : ab_Run X 283 60 (1, 0, 0) [l0, ab_I z] st σ Q ↔ (!ab_isJ l0) = true ∧ ab_Run X 283 63 (1, 0, 0) [l0, ab_I (ab_w32 (z + 1))] st σ Q := ab_r_iinc rfl (by decide) kc_X13_mark dX13_mark_60
theorem rX13_mark_63 : ab_Run X 283 63 (1, 0, 0) L st σ Q ↔ ab_Run X 283 34 (1, 0, 0) L st σ Q := ab_r_goto rfl kc_X13_mark dX13_mark_63
theorem rX13_mark_66 : ab_Run X 283 66 (1, 0, 0) [ab_R z, l1] st σ Q ↔ z ≠ 0 ∧ ab_Run X 283 67 (1, 0, 0) [ab_R z, l1] (ab_R z :: st) σ Q := ab_r_aload_n rfl kc_X13_mark dX13_mark_66
theorem rX13_mark_67I : ab_Run X 283 67 (1, 0, 0) L (ab_I a :: st) σ Q ↔ ab_Run X 283 68 (1, 0, 0) L (ab_I a :: ab_I a :: st) σ Q := ab_r_dupI kc_X13_mark dX13_mark_67
theorem rX13_mark_67R : ab_Run X 283 67 (1, 0, 0) L (ab_R a :: st) σ Q ↔ ab_Run X 283 68 (1, 0, 0) L (ab_R a :: ab_R a :: st) σ Q := ab_r_dupR kc_X13_mark dX13_mark_67
theorem rX13_mark_68 : ab_Run X 283 68 (1, 0, 0) L (ab_R a :: st) σ Q ↔ (ab_sh σ a).1 = 14 ∧ ab_Run X 283 71 (1, 0, 0) L (ab_I (ab_rd σ a 20) :: st) σ Q := gF_13_378 ko_X13_mark kc_X13_mark dX13_mark_68
theorem rX13_mark_71 : ab_Run X 283 71 (1, 0, 0) L st σ Q ↔ ab_Run X 283 72 (1, 0, 0) L (ab_I 1 :: st) σ Q := ab_r_iconst (by decide) kc_X13_mark dX13_mark_71
theorem rX13_mark_72 : ab_Run X 283 72 (1, 0, 0) L (ab_I b :: ab_I a :: st) σ Q ↔ ab_Run X 283 73 (1, 0, 0) L (ab_I (ab_w32 (a + b)) :: st) σ Q := ab_r_iadd kc_X13_mark dX13_mark_72
theorem rX13_mark_73 : ab_Run X 283 73 (1, 0, 0) L (ab_I z :: ab_R a :: st) σ Q ↔ (ab_sh σ a).1 = 14 ∧ ab_Run X 283 76 (1, 0, 0) L st (ab_wr σ a 20 z) Q := sF_13_378 ko_X13_mark kc_X13_mark dX13_mark_73
theorem rX13_mark_76 : ab_Run X 283 76 (1, 0, 0) [ab_R z, l1] st σ Q ↔ z ≠ 0 ∧ ab_Run X 283 77 (1, 0, 0) [ab_R z, l1] (ab_R z :: st) σ Q := ab_r_aload_n rfl kc_X13_mark dX13_mark_76
theorem rX13_mark_77 : ab_Run X 283 77 (1, 0, 0) [ab_R z, l1] st σ Q ↔ z ≠ 0 ∧ ab_Run X 283 78 (1, 0, 0) [ab_R z, l1] (ab_R z :: st) σ Q := ab_r_aload_n rfl kc_X13_mark dX13_mark_77
theorem rX13_mark_78 : ab_Run X 283 78 (1, 0, 0) L (ab_R a :: st) σ Q ↔ (ab_sh σ a).1 = 14 ∧ ab_Run X 283 81 (1, 0, 0) L (ab_I (ab_rd σ a 20) :: st) σ Q := gF_13_378 ko_X13_mark kc_X13_mark dX13_mark_78
theorem rX13_mark_81 : ab_Run X 283 81 (1, 0, 0) L st σ Q ↔ ab_Run X 283 82 (1, 0, 0) L (ab_I 1 :: st) σ Q := ab_r_iconst (by decide) kc_X13_mark dX13_mark_81
theorem rX13_mark_82 : ab_Run X 283 82 (1, 0, 0) L (ab_I b :: ab_I a :: st) σ Q ↔ ab_Run X 283 83 (1, 0, 0) L (ab_I (ab_w32 (a - b)) :: st) σ Q := ab_r_isub kc_X13_mark dX13_mark_82
theorem rX13_mark_83 : ab_Run X 283 83 (1, 0, 0) L (ab_I x1 :: ab_R a :: st) σ Q ↔ ((ab_sh σ a).1 = 14 ∧ ab_cats st ≤ 8) ∧ ab_Do X 161 [ab_R a, ab_I x1] σ (fun r σ' => ab_Run X 283 86 (1, 0, 0) L (ab_psh r st) σ' Q) := ab_r_callV (w := [ab_I x1]) (as := [ab_I x1]) (b1 := (0, 0, 0)) 0 (Or.inl rfl) (by decide) ko_X13_mark qM_13_63 (by decide) rfl rfl rfl rfl rfl (by decide) (Nat.le_of_ble_eq_true rfl) kc_X13_mark dX13_mark_83
theorem rX13_mark_86 : ab_Run X 283 86 (1, 0, 0) L [ab_I v] σ Q ↔ Q (some (ab_I v)) σ := ab_r_ireturnI rfl kc_X13_mark dX13_mark_86
end
