theorem dX13_readCheats_0 : decode cX13_readCheats 0 = .ok (.aload_n 0, 1) := by decide +kernel
theorem dX13_readCheats_1 : decode cX13_readCheats 1 = .ok (.iconst 0, 1) := by decide +kernel
theorem dX13_readCheats_2 : decode cX13_readCheats 2 = .ok (.iconst 1, 1) := by decide +kernel
theorem dX13_readCheats_3 : decode cX13_readCheats 3 = .ok (.invokevirtual 266, 3) := by decide +kernel
theorem dX13_readCheats_6 : decode cX13_readCheats 6 = .ok (.aload_n 0, 1) := by decide +kernel
theorem dX13_readCheats_7 : decode cX13_readCheats 7 = .ok (.invokevirtual 201, 3) := by decide +kernel
theorem dX13_readCheats_10 : decode cX13_readCheats 10 = .ok (.istore_n 1, 1) := by decide +kernel
theorem dX13_readCheats_11 : decode cX13_readCheats 11 = .ok (.aload_n 0, 1) := by decide +kernel
theorem dX13_readCheats_12 : decode cX13_readCheats 12 = .ok (.getfield 85, 3) := by decide +kernel
theorem dX13_readCheats_15 : decode cX13_readCheats 15 = .ok (.iconst 5, 1) := by decide +kernel
theorem dX13_readCheats_16 : decode cX13_readCheats 16 = .ok (.if_icmp .eq 21, 3) := by decide +kernel
theorem dX13_readCheats_19 : decode cX13_readCheats 19 = .ok (.aload_n 0, 1) := by decide +kernel
theorem dX13_readCheats_20 : decode cX13_readCheats 20 = .ok (.getfield 171, 3) := by decide +kernel
theorem dX13_readCheats_23 : decode cX13_readCheats 23 = .ok (.getfield 316, 3) := by decide +kernel
theorem dX13_readCheats_26 : decode cX13_readCheats 26 = .ok (.iload_n 1, 1) := by decide +kernel
theorem dX13_readCheats_27 : decode cX13_readCheats 27 = .ok (.iaload, 1) := by decide +kernel
theorem dX13_readCheats_28 : decode cX13_readCheats 28 = .ok (.iconst (-1), 1) := by decide +kernel
theorem dX13_readCheats_29 : decode cX13_readCheats 29 = .ok (.if_icmp .eq 8, 3) := by decide +kernel
theorem dX13_readCheats_32 : decode cX13_readCheats 32 = .ok (.aload_n 0, 1) := by decide +kernel
theorem dX13_readCheats_33 : decode cX13_readCheats 33 = .ok (.iconst 3, 1) := by decide +kernel
theorem dX13_readCheats_34 : decode cX13_readCheats 34 = .ok (.invokevirtual 134, 3) := by decide +kernel
theorem dX13_readCheats_37 : decode cX13_readCheats 37 = .ok (.aload_n 0, 1) := by decide +kernel
theorem dX13_readCheats_38 : decode cX13_readCheats 38 = .ok (.invokevirtual 127, 3) := by decide +kernel
theorem dX13_readCheats_41 : decode cX13_readCheats 41 = .ok (.aload_n 0, 1) := by decide +kernel
theorem dX13_readCheats_42 : decode cX13_readCheats 42 = .ok (.iconst 0, 1) := by decide +kernel
theorem dX13_readCheats_43 : decode cX13_readCheats 43 = .ok (.bipush 99, 2) := by decide +kernel
theorem dX13_readCheats_45 : decode cX13_readCheats 45 = .ok (.invokevirtual 150, 3) := by decide +kernel
theorem dX13_readCheats_48 : decode cX13_readCheats 48 = .ok (.istore_n 2, 1) := by decide +kernel
theorem dX13_readCheats_49 : decode cX13_readCheats 49 = .ok (.aload_n 0, 1) := by decide +kernel
theorem dX13_readCheats_50 : decode cX13_readCheats 50 = .ok (.ldc 247, 2) := by decide +kernel
theorem dX13_readCheats_52 : decode cX13_readCheats 52 = .ok (.iconst 1, 1) := by decide +kernel
theorem dX13_readCheats_53 : decode cX13_readCheats 53 = .ok (.bipush 9, 2) := by decide +kernel
theorem dX13_readCheats_55 : decode cX13_readCheats 55 = .ok (.invokevirtual 239, 3) := by decide +kernel
theorem dX13_readCheats_58 : decode cX13_readCheats 58 = .ok (.istore_n 3, 1) := by decide +kernel
theorem dX13_readCheats_59 : decode cX13_readCheats 59 = .ok (.aload_n 0, 1) := by decide +kernel
theorem dX13_readCheats_60 : decode cX13_readCheats 60 = .ok (.ldc_w 358, 3) := by decide +kernel
theorem dX13_readCheats_63 : decode cX13_readCheats 63 = .ok (.iconst 1, 1) := by decide +kernel
theorem dX13_readCheats_64 : decode cX13_readCheats 64 = .ok (.bipush 9, 2) := by decide +kernel
theorem dX13_readCheats_66 : decode cX13_readCheats 66 = .ok (.invokevirtual 239, 3) := by decide +kernel
theorem dX13_readCheats_69 : decode cX13_readCheats 69 = .ok (.istore 4, 2) := by decide +kernel
theorem dX13_readCheats_71 : decode cX13_readCheats 71 = .ok (.aload_n 0, 1) := by decide +kernel
theorem dX13_readCheats_72 : decode cX13_readCheats 72 = .ok (.getfield 85, 3) := by decide +kernel
theorem dX13_readCheats_75 : decode cX13_readCheats 75 = .ok (.iconst 5, 1) := by decide +kernel
theorem dX13_readCheats_76 : decode cX13_readCheats 76 = .ok (.if_icmp .ne 4, 3) := by decide +kernel
theorem dX13_readCheats_79 : decode cX13_readCheats 79 = .ok (.return_, 1) := by decide +kernel
theorem dX13_readCheats_80 : decode cX13_readCheats 80 = .ok (.aload_n 0, 1) := by decide +kernel
theorem dX13_readCheats_81 : decode cX13_readCheats 81 = .ok (.getfield 171, 3) := by decide +kernel
theorem dX13_readCheats_84 : decode cX13_readCheats 84 = .ok (.getfield 316, 3) := by decide +kernel
theorem dX13_readCheats_87 : decode cX13_readCheats 87 = .ok (.iload_n 1, 1) := by decide +kernel
theorem dX13_readCheats_88 : decode cX13_readCheats 88 = .ok (.iload_n 2, 1) := by decide +kernel
theorem dX13_readCheats_89 : decode cX13_readCheats 89 = .ok (.iastore, 1) := by decide +kernel
theorem dX13_readCheats_90 : decode cX13_readCheats 90 = .ok (.aload_n 0, 1) := by decide +kernel
theorem dX13_readCheats_91 : decode cX13_readCheats 91 = .ok (.getfield 171, 3) := by decide +kernel
theorem dX13_readCheats_94 : decode cX13_readCheats 94 = .ok (.getfield 360, 3) := by decide +kernel
theorem dX13_readCheats_97 : decode cX13_readCheats 97 = .ok (.iload_n 1, 1) := by decide +kernel
theorem dX13_readCheats_98 : decode cX13_readCheats 98 = .ok (.iload_n 3, 1) := by decide +kernel
theorem dX13_readCheats_99 : decode cX13_readCheats 99 = .ok (.iastore, 1) := by decide +kernel
theorem dX13_readCheats_100 : decode cX13_readCheats 100 = .ok (.aload_n 0, 1) := by decide +kernel
theorem dX13_readCheats_101 : decode cX13_readCheats 101 = .ok (.getfield 171, 3) := by decide +kernel
theorem dX13_readCheats_104 : decode cX13_readCheats 104 = .ok (.getfield 363, 3) := by decide +kernel
theorem dX13_readCheats_107 : decode cX13_readCheats 107 = .ok (.iload_n 1, 1) := by decide +kernel
theorem dX13_readCheats_108 : decode cX13_readCheats 108 = .ok (.iload 4, 2) := by decide +kernel
theorem dX13_readCheats_110 : decode cX13_readCheats 110 = .ok (.iastore, 1) := by decide +kernel
theorem dX13_readCheats_111 : decode cX13_readCheats 111 = .ok (.return_, 1) := by decide +kernel
theorem dX13_feed_0 : decode cX13_feed 0 = .ok (.aload_n 0, 1) := by decide +kernel
theorem dX13_feed_1 : decode cX13_feed 1 = .ok (.iconst 0, 1) := by decide +kernel
theorem dX13_feed_2 : decode cX13_feed 2 = .ok (.putfield 53, 3) := by decide +kernel
theorem dX13_feed_5 : decode cX13_feed 5 = .ok (.aload_n 0, 1) := by decide +kernel
theorem dX13_feed_6 : decode cX13_feed 6 = .ok (.getfield 366, 3) := by decide +kernel
theorem dX13_feed_9 : decode cX13_feed 9 = .ok (.bipush 20, 2) := by decide +kernel
theorem dX13_feed_11 : decode cX13_feed 11 = .ok (.iadd, 1) := by decide +kernel
theorem dX13_feed_12 : decode cX13_feed 12 = .ok (.sipush 1000, 3) := by decide +kernel
theorem dX13_feed_15 : decode cX13_feed 15 = .ok (.if_icmp .le 5, 3) := by decide +kernel
theorem dX13_feed_18 : decode cX13_feed 18 = .ok (.iconst (-1), 1) := by decide +kernel
theorem dX13_feed_19 : decode cX13_feed 19 = .ok (.ireturn, 1) := by decide +kernel
theorem dX13_feed_20 : decode cX13_feed 20 = .ok (.iconst 0, 1) := by decide +kernel
theorem dX13_feed_21 : decode cX13_feed 21 = .ok (.istore 6, 2) := by decide +kernel
theorem dX13_feed_23 : decode cX13_feed 23 = .ok (.iload 6, 2) := by decide +kernel
theorem dX13_feed_25 : decode cX13_feed 25 = .ok (.bipush 20, 2) := by decide +kernel
theorem dX13_feed_27 : decode cX13_feed 27 = .ok (.if_icmp .ge 90, 3) := by decide +kernel
theorem dX13_feed_30 : decode cX13_feed 30 = .ok (.iload 6, 2) := by decide +kernel
theorem dX13_feed_32 : decode cX13_feed 32 = .ok (.iconst 4, 1) := by decide +kernel
theorem dX13_feed_33 : decode cX13_feed 33 = .ok (.if_icmp .ge 7, 3) := by decide +kernel
theorem dX13_feed_36 : decode cX13_feed 36 = .ok (.iload_n 1, 1) := by decide +kernel
theorem dX13_feed_37 : decode cX13_feed 37 = .ok (.goto 39, 3) := by decide +kernel
theorem dX13_feed_40 : decode cX13_feed 40 = .ok (.iload 6, 2) := by decide +kernel
theorem dX13_feed_42 : decode cX13_feed 42 = .ok (.bipush 8, 2) := by decide +kernel
theorem dX13_feed_44 : decode cX13_feed 44 = .ok (.if_icmp .ge 7, 3) := by decide +kernel
theorem dX13_feed_47 : decode cX13_feed 47 = .ok (.iload_n 2, 1) := by decide +kernel
theorem dX13_feed_48 : decode cX13_feed 48 = .ok (.goto 28, 3) := by decide +kernel
theorem dX13_feed_51 : decode cX13_feed 51 = .ok (.iload 6, 2) := by decide +kernel
theorem dX13_feed_53 : decode cX13_feed 53 = .ok (.bipush 12, 2) := by decide +kernel
theorem dX13_feed_55 : decode cX13_feed 55 = .ok (.if_icmp .ge 7, 3) := by decide +kernel
theorem dX13_feed_58 : decode cX13_feed 58 = .ok (.iload_n 3, 1) := by decide +kernel
theorem dX13_feed_59 : decode cX13_feed 59 = .ok (.goto 17, 3) := by decide +kernel
theorem dX13_feed_62 : decode cX13_feed 62 = .ok (.iload 6, 2) := by decide +kernel
theorem dX13_feed_64 : decode cX13_feed 64 = .ok (.bipush 16, 2) := by decide +kernel
theorem dX13_feed_66 : decode cX13_feed 66 = .ok (.if_icmp .ge 8, 3) := by decide +kernel
theorem dX13_feed_69 : decode cX13_feed 69 = .ok (.iload 4, 2) := by decide +kernel
theorem dX13_feed_71 : decode cX13_feed 71 = .ok (.goto 5, 3) := by decide +kernel
theorem dX13_feed_74 : decode cX13_feed 74 = .ok (.iload 5, 2) := by decide +kernel
theorem dX13_feed_76 : decode cX13_feed 76 = .ok (.istore 7, 2) := by decide +kernel
theorem dX13_feed_78 : decode cX13_feed 78 = .ok (.aload_n 0, 1) := by decide +kernel
theorem dX13_feed_79 : decode cX13_feed 79 = .ok (.getfield 13, 3) := by decide +kernel
theorem dX13_feed_82 : decode cX13_feed 82 = .ok (.aload_n 0, 1) := by decide +kernel
theorem dX13_feed_83 : decode cX13_feed 83 = .ok (.getfield 366, 3) := by decide +kernel
theorem dX13_feed_86 : decode cX13_feed 86 = .ok (.iload 7, 2) := by decide +kernel
theorem dX13_feed_88 : decode cX13_feed 88 = .ok (.bipush 24, 2) := by decide +kernel
theorem dX13_feed_90 : decode cX13_feed 90 = .ok (.bipush 8, 2) := by decide +kernel
theorem dX13_feed_92 : decode cX13_feed 92 = .ok (.iload 6, 2) := by decide +kernel
theorem dX13_feed_94 : decode cX13_feed 94 = .ok (.iconst 4, 1) := by decide +kernel
theorem dX13_feed_95 : decode cX13_feed 95 = .ok (.irem, 1) := by decide +kernel
theorem dX13_feed_96 : decode cX13_feed 96 = .ok (.imul, 1) := by decide +kernel
theorem dX13_feed_97 : decode cX13_feed 97 = .ok (.isub, 1) := by decide +kernel
theorem dX13_feed_98 : decode cX13_feed 98 = .ok (.ishr, 1) := by decide +kernel
theorem dX13_feed_99 : decode cX13_feed 99 = .ok (.i2b, 1) := by decide +kernel
theorem dX13_feed_100 : decode cX13_feed 100 = .ok (.bastore, 1) := by decide +kernel
theorem dX13_feed_101 : decode cX13_feed 101 = .ok (.aload_n 0, 1) := by decide +kernel
theorem dX13_feed_102 : decode cX13_feed 102 = .ok (.dup, 1) := by decide +kernel
theorem dX13_feed_103 : decode cX13_feed 103 = .ok (.getfield 366, 3) := by decide +kernel
theorem dX13_feed_106 : decode cX13_feed 106 = .ok (.iconst 1, 1) := by decide +kernel
theorem dX13_feed_107 : decode cX13_feed 107 = .ok (.iadd, 1) := by decide +kernel
theorem dX13_feed_108 : decode cX13_feed 108 = .ok (.putfield 366, 3) := by decide +kernel
theorem dX13_feed_111 : decode cX13_feed 111 = .ok (.iinc 6 1, 3) := by decide +kernel
theorem dX13_feed_114 : decode cX13_feed 114 = .ok (.goto (-91), 3) := by decide +kernel
theorem dX13_feed_117 : decode cX13_feed 117 = .ok (.aload_n 0, 1) := by decide +kernel
theorem dX13_feed_118 : decode cX13_feed 118 = .ok (.getfield 366, 3) := by decide +kernel
theorem dX13_feed_121 : decode cX13_feed 121 = .ok (.ireturn, 1) := by decide +kernel
theorem dX13_kitchen_0 : decode cX13_kitchen 0 = .ok (.aload_n 0, 1) := by decide +kernel
theorem dX13_kitchen_1 : decode cX13_kitchen 1 = .ok (.iconst 0, 1) := by decide +kernel
theorem dX13_kitchen_2 : decode cX13_kitchen 2 = .ok (.putfield 53, 3) := by decide +kernel
theorem dX13_kitchen_5 : decode cX13_kitchen 5 = .ok (.iload_n 1, 1) := by decide +kernel
theorem dX13_kitchen_6 : decode cX13_kitchen 6 = .ok (.ifCond .lt 11, 3) := by decide +kernel
theorem dX13_kitchen_9 : decode cX13_kitchen 9 = .ok (.iload_n 1, 1) := by decide +kernel
theorem dX13_kitchen_10 : decode cX13_kitchen 10 = .ok (.aload_n 0, 1) := by decide +kernel
theorem dX13_kitchen_11 : decode cX13_kitchen 11 = .ok (.getfield 366, 3) := by decide +kernel
theorem dX13_kitchen_14 : decode cX13_kitchen 14 = .ok (.if_icmp .le 9, 3) := by decide +kernel
theorem dX13_kitchen_17 : decode cX13_kitchen 17 = .ok (.aload_n 0, 1) := by decide +kernel
theorem dX13_kitchen_18 : decode cX13_kitchen 18 = .ok (.iconst 2, 1) := by decide +kernel
theorem dX13_kitchen_19 : decode cX13_kitchen 19 = .ok (.invokevirtual 59, 3) := by decide +kernel
theorem dX13_kitchen_22 : decode cX13_kitchen 22 = .ok (.ireturn, 1) := by decide +kernel
theorem dX13_kitchen_23 : decode cX13_kitchen 23 = .ok (.aload_n 0, 1) := by decide +kernel
theorem dX13_kitchen_24 : decode cX13_kitchen 24 = .ok (.iload_n 1, 1) := by decide +kernel
theorem dX13_kitchen_25 : decode cX13_kitchen 25 = .ok (.putfield 70, 3) := by decide +kernel
theorem dX13_kitchen_28 : decode cX13_kitchen 28 = .ok (.aload_n 0, 1) := by decide +kernel
theorem dX13_kitchen_29 : decode cX13_kitchen 29 = .ok (.iconst 0, 1) := by decide +kernel
theorem dX13_kitchen_30 : decode cX13_kitchen 30 = .ok (.putfield 366, 3) := by decide +kernel
theorem dX13_kitchen_33 : decode cX13_kitchen 33 = .ok (.aload_n 0, 1) := by decide +kernel
theorem dX13_kitchen_34 : decode cX13_kitchen 34 = .ok (.iconst 0, 1) := by decide +kernel
theorem dX13_kitchen_35 : decode cX13_kitchen 35 = .ok (.putfield 88, 3) := by decide +kernel
theorem dX13_kitchen_38 : decode cX13_kitchen 38 = .ok (.aload_n 0, 1) := by decide +kernel
theorem dX13_kitchen_39 : decode cX13_kitchen 39 = .ok (.iconst 0, 1) := by decide +kernel
theorem dX13_kitchen_40 : decode cX13_kitchen 40 = .ok (.putfield 114, 3) := by decide +kernel
theorem dX13_kitchen_43 : decode cX13_kitchen 43 = .ok (.aload_n 0, 1) := by decide +kernel
theorem dX13_kitchen_44 : decode cX13_kitchen 44 = .ok (.new 176, 3) := by decide +kernel
theorem dX13_kitchen_47 : decode cX13_kitchen 47 = .ok (.dup, 1) := by decide +kernel
theorem dX13_kitchen_48 : decode cX13_kitchen 48 = .ok (.invokespecial 369, 3) := by decide +kernel
theorem dX13_kitchen_51 : decode cX13_kitchen 51 = .ok (.putfield 171, 3) := by decide +kernel
theorem dX13_kitchen_54 : decode cX13_kitchen 54 = .ok (.aload_n 0, 1) := by decide +kernel
theorem dX13_kitchen_55 : decode cX13_kitchen 55 = .ok (.iconst 0, 1) := by decide +kernel
theorem dX13_kitchen_56 : decode cX13_kitchen 56 = .ok (.putfield 85, 3) := by decide +kernel
theorem dX13_kitchen_59 : decode cX13_kitchen 59 = .ok (.aload_n 0, 1) := by decide +kernel
theorem dX13_kitchen_60 : decode cX13_kitchen 60 = .ok (.invokevirtual 127, 3) := by decide +kernel
theorem dX13_kitchen_63 : decode cX13_kitchen 63 = .ok (.aload_n 0, 1) := by decide +kernel
theorem dX13_kitchen_64 : decode cX13_kitchen 64 = .ok (.invokevirtual 370, 3) := by decide +kernel
theorem dX13_kitchen_67 : decode cX13_kitchen 67 = .ok (.aload_n 0, 1) := by decide +kernel
theorem dX13_kitchen_68 : decode cX13_kitchen 68 = .ok (.getfield 114, 3) := by decide +kernel
theorem dX13_kitchen_71 : decode cX13_kitchen 71 = .ok (.ifCond .le 18, 3) := by decide +kernel
theorem dX13_kitchen_74 : decode cX13_kitchen 74 = .ok (.aload_n 0, 1) := by decide +kernel
theorem dX13_kitchen_75 : decode cX13_kitchen 75 = .ok (.iconst 4, 1) := by decide +kernel
theorem dX13_kitchen_76 : decode cX13_kitchen 76 = .ok (.putfield 56, 3) := by decide +kernel
theorem dX13_kitchen_79 : decode cX13_kitchen 79 = .ok (.aload_n 0, 1) := by decide +kernel
theorem dX13_kitchen_80 : decode cX13_kitchen 80 = .ok (.aload_n 0, 1) := by decide +kernel
theorem dX13_kitchen_81 : decode cX13_kitchen 81 = .ok (.getfield 117, 3) := by decide +kernel
theorem dX13_kitchen_84 : decode cX13_kitchen 84 = .ok (.putfield 9, 3) := by decide +kernel
theorem dX13_kitchen_87 : decode cX13_kitchen 87 = .ok (.iconst (-1), 1) := by decide +kernel
theorem dX13_kitchen_88 : decode cX13_kitchen 88 = .ok (.ireturn, 1) := by decide +kernel
theorem dX13_kitchen_89 : decode cX13_kitchen 89 = .ok (.aload_n 0, 1) := by decide +kernel
theorem dX13_kitchen_90 : decode cX13_kitchen 90 = .ok (.aload_n 0, 1) := by decide +kernel
theorem dX13_kitchen_91 : decode cX13_kitchen 91 = .ok (.getfield 171, 3) := by decide +kernel
theorem dX13_kitchen_94 : decode cX13_kitchen 94 = .ok (.putfield 373, 3) := by decide +kernel
theorem dX13_kitchen_97 : decode cX13_kitchen 97 = .ok (.iconst 0, 1) := by decide +kernel
theorem dX13_kitchen_98 : decode cX13_kitchen 98 = .ok (.istore_n 2, 1) := by decide +kernel
theorem dX13_kitchen_99 : decode cX13_kitchen 99 = .ok (.iload_n 2, 1) := by decide +kernel
theorem dX13_kitchen_100 : decode cX13_kitchen 100 = .ok (.bipush 18, 2) := by decide +kernel
theorem dX13_kitchen_102 : decode cX13_kitchen 102 = .ok (.if_icmp .ge 16, 3) := by decide +kernel
theorem dX13_kitchen_105 : decode cX13_kitchen 105 = .ok (.aload_n 0, 1) := by decide +kernel
theorem dX13_kitchen_106 : decode cX13_kitchen 106 = .ok (.getfield 17, 3) := by decide +kernel
theorem dX13_kitchen_109 : decode cX13_kitchen 109 = .ok (.iload_n 2, 1) := by decide +kernel
theorem dX13_kitchen_110 : decode cX13_kitchen 110 = .ok (.iconst 0, 1) := by decide +kernel
theorem dX13_kitchen_111 : decode cX13_kitchen 111 = .ok (.iastore, 1) := by decide +kernel
theorem dX13_kitchen_112 : decode cX13_kitchen 112 = .ok (.iinc 2 1, 3) := by decide +kernel
theorem dX13_kitchen_115 : decode cX13_kitchen 115 = .ok (.goto (-16), 3) := by decide +kernel
theorem dX13_kitchen_118 : decode cX13_kitchen 118 = .ok (.iconst 0, 1) := by decide +kernel
theorem dX13_kitchen_119 : decode cX13_kitchen 119 = .ok (.istore_n 2, 1) := by decide +kernel
theorem dX13_kitchen_120 : decode cX13_kitchen 120 = .ok (.iload_n 2, 1) := by decide +kernel
theorem dX13_kitchen_121 : decode cX13_kitchen 121 = .ok (.iconst 5, 1) := by decide +kernel
theorem dX13_kitchen_122 : decode cX13_kitchen 122 = .ok (.if_icmp .ge 43, 3) := by decide +kernel
theorem dX13_kitchen_125 : decode cX13_kitchen 125 = .ok (.aload_n 0, 1) := by decide +kernel
theorem dX13_kitchen_126 : decode cX13_kitchen 126 = .ok (.getfield 17, 3) := by decide +kernel
theorem dX13_kitchen_129 : decode cX13_kitchen 129 = .ok (.iconst 0, 1) := by decide +kernel
theorem dX13_kitchen_130 : decode cX13_kitchen 130 = .ok (.iload_n 2, 1) := by decide +kernel
theorem dX13_kitchen_131 : decode cX13_kitchen 131 = .ok (.iadd, 1) := by decide +kernel
theorem dX13_kitchen_132 : decode cX13_kitchen 132 = .ok (.aload_n 0, 1) := by decide +kernel
theorem dX13_kitchen_133 : decode cX13_kitchen 133 = .ok (.getfield 373, 3) := by decide +kernel
theorem dX13_kitchen_136 : decode cX13_kitchen 136 = .ok (.getfield 288, 3) := by decide +kernel
theorem dX13_kitchen_139 : decode cX13_kitchen 139 = .ok (.iload_n 2, 1) := by decide +kernel
theorem dX13_kitchen_140 : decode cX13_kitchen 140 = .ok (.iaload, 1) := by decide +kernel
theorem dX13_kitchen_141 : decode cX13_kitchen 141 = .ok (.iastore, 1) := by decide +kernel
theorem dX13_kitchen_142 : decode cX13_kitchen 142 = .ok (.aload_n 0, 1) := by decide +kernel
theorem dX13_kitchen_143 : decode cX13_kitchen 143 = .ok (.getfield 17, 3) := by decide +kernel
theorem dX13_kitchen_146 : decode cX13_kitchen 146 = .ok (.iconst 5, 1) := by decide +kernel
theorem dX13_kitchen_147 : decode cX13_kitchen 147 = .ok (.iload_n 2, 1) := by decide +kernel
theorem dX13_kitchen_148 : decode cX13_kitchen 148 = .ok (.iadd, 1) := by decide +kernel
theorem dX13_kitchen_149 : decode cX13_kitchen 149 = .ok (.aload_n 0, 1) := by decide +kernel
theorem dX13_kitchen_150 : decode cX13_kitchen 150 = .ok (.getfield 373, 3) := by decide +kernel
theorem dX13_kitchen_153 : decode cX13_kitchen 153 = .ok (.getfield 291, 3) := by decide +kernel
theorem dX13_kitchen_156 : decode cX13_kitchen 156 = .ok (.iload_n 2, 1) := by decide +kernel
theorem dX13_kitchen_157 : decode cX13_kitchen 157 = .ok (.iaload, 1) := by decide +kernel
theorem dX13_kitchen_158 : decode cX13_kitchen 158 = .ok (.iastore, 1) := by decide +kernel
theorem dX13_kitchen_159 : decode cX13_kitchen 159 = .ok (.iinc 2 1, 3) := by decide +kernel
theorem dX13_kitchen_162 : decode cX13_kitchen 162 = .ok (.goto (-42), 3) := by decide +kernel
theorem dX13_kitchen_165 : decode cX13_kitchen 165 = .ok (.aload_n 0, 1) := by decide +kernel
theorem dX13_kitchen_166 : decode cX13_kitchen 166 = .ok (.iconst 0, 1) := by decide +kernel
theorem dX13_kitchen_167 : decode cX13_kitchen 167 = .ok (.putfield 375, 3) := by decide +kernel
theorem dX13_kitchen_170 : decode cX13_kitchen 170 = .ok (.aload_n 0, 1) := by decide +kernel
theorem dX13_kitchen_171 : decode cX13_kitchen 171 = .ok (.iconst 0, 1) := by decide +kernel
theorem dX13_kitchen_172 : decode cX13_kitchen 172 = .ok (.putfield 378, 3) := by decide +kernel
theorem dX13_kitchen_175 : decode cX13_kitchen 175 = .ok (.aload_n 0, 1) := by decide +kernel
theorem dX13_kitchen_176 : decode cX13_kitchen 176 = .ok (.aload_n 0, 1) := by decide +kernel
theorem dX13_kitchen_177 : decode cX13_kitchen 177 = .ok (.getfield 373, 3) := by decide +kernel
theorem dX13_kitchen_180 : decode cX13_kitchen 180 = .ok (.getfield 210, 3) := by decide +kernel
theorem dX13_kitchen_183 : decode cX13_kitchen 183 = .ok (.invokevirtual 63, 3) := by decide +kernel
theorem dX13_kitchen_186 : decode cX13_kitchen 186 = .ok (.ireturn, 1) := by decide +kernel
theorem dX13_fault_0 : decode cX13_fault 0 = .ok (.aload_n 0, 1) := by decide +kernel
theorem dX13_fault_1 : decode cX13_fault 1 = .ok (.iconst 0, 1) := by decide +kernel
theorem dX13_fault_2 : decode cX13_fault 2 = .ok (.putfield 53, 3) := by decide +kernel
theorem dX13_fault_5 : decode cX13_fault 5 = .ok (.aload_n 0, 1) := by decide +kernel
theorem dX13_fault_6 : decode cX13_fault 6 = .ok (.getfield 114, 3) := by decide +kernel
theorem dX13_fault_9 : decode cX13_fault 9 = .ok (.ireturn, 1) := by decide +kernel
theorem dX13_where_0 : decode cX13_where 0 = .ok (.aload_n 0, 1) := by decide +kernel
theorem dX13_where_1 : decode cX13_where 1 = .ok (.iconst 0, 1) := by decide +kernel
theorem dX13_where_2 : decode cX13_where 2 = .ok (.putfield 53, 3) := by decide +kernel
theorem dX13_where_5 : decode cX13_where 5 = .ok (.aload_n 0, 1) := by decide +kernel
theorem dX13_where_6 : decode cX13_where 6 = .ok (.getfield 9, 3) := by decide +kernel
theorem dX13_where_9 : decode cX13_where 9 = .ok (.ireturn, 1) := by decide +kernel
theorem dX13_isChild_0 : decode cX13_isChild 0 = .ok (.aload_n 0, 1) := by decide +kernel
theorem dX13_isChild_1 : decode cX13_isChild 1 = .ok (.getfield 373, 3) := by decide +kernel
theorem dX13_isChild_4 : decode cX13_isChild 4 = .ok (.getfield 307, 3) := by decide +kernel
theorem dX13_isChild_7 : decode cX13_isChild 7 = .ok (.iload_n 1, 1) := by decide +kernel
theorem dX13_isChild_8 : decode cX13_isChild 8 = .ok (.iaload, 1) := by decide +kernel
theorem dX13_isChild_9 : decode cX13_isChild 9 = .ok (.iconst 2, 1) := by decide +kernel
theorem dX13_isChild_10 : decode cX13_isChild 10 = .ok (.if_icmp .ne 7, 3) := by decide +kernel
theorem dX13_isChild_13 : decode cX13_isChild 13 = .ok (.iconst 1, 1) := by decide +kernel
theorem dX13_isChild_14 : decode cX13_isChild 14 = .ok (.goto 4, 3) := by decide +kernel
theorem dX13_isChild_17 : decode cX13_isChild 17 = .ok (.iconst 0, 1) := by decide +kernel
theorem dX13_isChild_18 : decode cX13_isChild 18 = .ok (.ireturn, 1) := by decide +kernel
theorem dX13_lays_0 : decode cX13_lays 0 = .ok (.aload_n 0, 1) := by decide +kernel
theorem dX13_lays_1 : decode cX13_lays 1 = .ok (.iload_n 1, 1) := by decide +kernel
theorem dX13_lays_2 : decode cX13_lays 2 = .ok (.putfield 381, 3) := by decide +kernel
theorem dX13_lays_5 : decode cX13_lays 5 = .ok (.aload_n 0, 1) := by decide +kernel
theorem dX13_lays_6 : decode cX13_lays 6 = .ok (.aload_n 0, 1) := by decide +kernel
theorem dX13_lays_7 : decode cX13_lays 7 = .ok (.getfield 17, 3) := by decide +kernel
theorem dX13_lays_10 : decode cX13_lays 10 = .ok (.iconst 5, 1) := by decide +kernel
theorem dX13_lays_11 : decode cX13_lays 11 = .ok (.iload_n 1, 1) := by decide +kernel
theorem dX13_lays_12 : decode cX13_lays 12 = .ok (.iadd, 1) := by decide +kernel
theorem dX13_lays_13 : decode cX13_lays 13 = .ok (.iaload, 1) := by decide +kernel
theorem dX13_lays_14 : decode cX13_lays 14 = .ok (.putfield 383, 3) := by decide +kernel
theorem dX13_lays_17 : decode cX13_lays 17 = .ok (.aload_n 0, 1) := by decide +kernel
theorem dX13_lays_18 : decode cX13_lays 18 = .ok (.getfield 27, 3) := by decide +kernel
theorem dX13_lays_21 : decode cX13_lays 21 = .ok (.iconst 0, 1) := by decide +kernel
theorem dX13_lays_22 : decode cX13_lays 22 = .ok (.iload_n 2, 1) := by decide +kernel
theorem dX13_lays_23 : decode cX13_lays 23 = .ok (.iastore, 1) := by decide +kernel
theorem dX13_lays_24 : decode cX13_lays 24 = .ok (.aload_n 0, 1) := by decide +kernel
theorem dX13_lays_25 : decode cX13_lays 25 = .ok (.getfield 27, 3) := by decide +kernel
theorem dX13_lays_28 : decode cX13_lays 28 = .ok (.iconst 1, 1) := by decide +kernel
theorem dX13_lays_29 : decode cX13_lays 29 = .ok (.iload 4, 2) := by decide +kernel
theorem dX13_lays_31 : decode cX13_lays 31 = .ok (.iastore, 1) := by decide +kernel
theorem dX13_lays_32 : decode cX13_lays 32 = .ok (.aload_n 0, 1) := by decide +kernel
theorem dX13_lays_33 : decode cX13_lays 33 = .ok (.getfield 30, 3) := by decide +kernel
theorem dX13_lays_36 : decode cX13_lays 36 = .ok (.iconst 0, 1) := by decide +kernel
theorem dX13_lays_37 : decode cX13_lays 37 = .ok (.iload_n 3, 1) := by decide +kernel
theorem dX13_lays_38 : decode cX13_lays 38 = .ok (.iastore, 1) := by decide +kernel
theorem dX13_lays_39 : decode cX13_lays 39 = .ok (.aload_n 0, 1) := by decide +kernel
theorem dX13_lays_40 : decode cX13_lays 40 = .ok (.getfield 30, 3) := by decide +kernel
theorem dX13_lays_43 : decode cX13_lays 43 = .ok (.iconst 1, 1) := by decide +kernel
theorem dX13_lays_44 : decode cX13_lays 44 = .ok (.iload 5, 2) := by decide +kernel
theorem dX13_lays_46 : decode cX13_lays 46 = .ok (.iastore, 1) := by decide +kernel
theorem dX13_lays_47 : decode cX13_lays 47 = .ok (.aload_n 0, 1) := by decide +kernel
theorem dX13_lays_48 : decode cX13_lays 48 = .ok (.getfield 33, 3) := by decide +kernel
theorem dX13_lays_51 : decode cX13_lays 51 = .ok (.iconst 0, 1) := by decide +kernel
theorem dX13_lays_52 : decode cX13_lays 52 = .ok (.iload 6, 2) := by decide +kernel
theorem dX13_lays_54 : decode cX13_lays 54 = .ok (.ifCond .eq 17, 3) := by decide +kernel
theorem dX13_lays_57 : decode cX13_lays 57 = .ok (.iload 6, 2) := by decide +kernel
theorem dX13_lays_59 : decode cX13_lays 59 = .ok (.iconst 3, 1) := by decide +kernel
theorem dX13_lays_60 : decode cX13_lays 60 = .ok (.if_icmp .eq 11, 3) := by decide +kernel
theorem dX13_lays_63 : decode cX13_lays 63 = .ok (.aload_n 0, 1) := by decide +kernel
theorem dX13_lays_64 : decode cX13_lays 64 = .ok (.iload_n 2, 1) := by decide +kernel
theorem dX13_lays_65 : decode cX13_lays 65 = .ok (.invokevirtual 386, 3) := by decide +kernel
theorem dX13_lays_68 : decode cX13_lays 68 = .ok (.ifCond .eq 7, 3) := by decide +kernel
theorem dX13_lays_71 : decode cX13_lays 71 = .ok (.iconst 1, 1) := by decide +kernel
theorem dX13_lays_72 : decode cX13_lays 72 = .ok (.goto 4, 3) := by decide +kernel
theorem dX13_lays_75 : decode cX13_lays 75 = .ok (.iconst 0, 1) := by decide +kernel
theorem dX13_lays_76 : decode cX13_lays 76 = .ok (.bastore, 1) := by decide +kernel
theorem dX13_lays_77 : decode cX13_lays 77 = .ok (.aload_n 0, 1) := by decide +kernel
theorem dX13_lays_78 : decode cX13_lays 78 = .ok (.getfield 33, 3) := by decide +kernel
theorem dX13_lays_81 : decode cX13_lays 81 = .ok (.iconst 1, 1) := by decide +kernel
theorem dX13_lays_82 : decode cX13_lays 82 = .ok (.iload 6, 2) := by decide +kernel
theorem dX13_lays_84 : decode cX13_lays 84 = .ok (.iconst 1, 1) := by decide +kernel
theorem dX13_lays_85 : decode cX13_lays 85 = .ok (.if_icmp .eq 18, 3) := by decide +kernel
theorem dX13_lays_88 : decode cX13_lays 88 = .ok (.iload 6, 2) := by decide +kernel
theorem dX13_lays_90 : decode cX13_lays 90 = .ok (.iconst 3, 1) := by decide +kernel
theorem dX13_lays_91 : decode cX13_lays 91 = .ok (.if_icmp .eq 12, 3) := by decide +kernel
theorem dX13_lays_94 : decode cX13_lays 94 = .ok (.aload_n 0, 1) := by decide +kernel
theorem dX13_lays_95 : decode cX13_lays 95 = .ok (.iload 4, 2) := by decide +kernel
theorem dX13_lays_97 : decode cX13_lays 97 = .ok (.invokevirtual 386, 3) := by decide +kernel
theorem dX13_lays_100 : decode cX13_lays 100 = .ok (.ifCond .eq 7, 3) := by decide +kernel
theorem dX13_lays_103 : decode cX13_lays 103 = .ok (.iconst 1, 1) := by decide +kernel
theorem dX13_lays_104 : decode cX13_lays 104 = .ok (.goto 4, 3) := by decide +kernel
theorem dX13_lays_107 : decode cX13_lays 107 = .ok (.iconst 0, 1) := by decide +kernel
theorem dX13_lays_108 : decode cX13_lays 108 = .ok (.bastore, 1) := by decide +kernel
theorem dX13_lays_109 : decode cX13_lays 109 = .ok (.aload_n 0, 1) := by decide +kernel
theorem dX13_lays_110 : decode cX13_lays 110 = .ok (.iconst (-1), 1) := by decide +kernel
theorem dX13_lays_111 : decode cX13_lays 111 = .ok (.putfield 389, 3) := by decide +kernel
theorem dX13_lays_114 : decode cX13_lays 114 = .ok (.return_, 1) := by decide +kernel
theorem dX13_laysTold_0 : decode cX13_laysTold 0 = .ok (.aload_n 0, 1) := by decide +kernel
theorem dX13_laysTold_1 : decode cX13_laysTold 1 = .ok (.iload_n 1, 1) := by decide +kernel
theorem dX13_laysTold_2 : decode cX13_laysTold 2 = .ok (.iload_n 2, 1) := by decide +kernel
theorem dX13_laysTold_3 : decode cX13_laysTold 3 = .ok (.aload_n 0, 1) := by decide +kernel
theorem dX13_laysTold_4 : decode cX13_laysTold 4 = .ok (.getfield 373, 3) := by decide +kernel
theorem dX13_laysTold_7 : decode cX13_laysTold 7 = .ok (.iload_n 2, 1) := by decide +kernel
theorem dX13_laysTold_8 : decode cX13_laysTold 8 = .ok (.iload_n 1, 1) := by decide +kernel
theorem dX13_laysTold_9 : decode cX13_laysTold 9 = .ok (.iconst 0, 1) := by decide +kernel
theorem dX13_laysTold_10 : decode cX13_laysTold 10 = .ok (.invokevirtual 392, 3) := by decide +kernel
theorem dX13_laysTold_13 : decode cX13_laysTold 13 = .ok (.iload_n 3, 1) := by decide +kernel
theorem dX13_laysTold_14 : decode cX13_laysTold 14 = .ok (.aload_n 0, 1) := by decide +kernel
theorem dX13_laysTold_15 : decode cX13_laysTold 15 = .ok (.getfield 373, 3) := by decide +kernel
theorem dX13_laysTold_18 : decode cX13_laysTold 18 = .ok (.iload_n 3, 1) := by decide +kernel
theorem dX13_laysTold_19 : decode cX13_laysTold 19 = .ok (.iload_n 1, 1) := by decide +kernel
theorem dX13_laysTold_20 : decode cX13_laysTold 20 = .ok (.iconst 1, 1) := by decide +kernel
theorem dX13_laysTold_21 : decode cX13_laysTold 21 = .ok (.invokevirtual 392, 3) := by decide +kernel
theorem dX13_laysTold_24 : decode cX13_laysTold 24 = .ok (.iconst 2, 1) := by decide +kernel
theorem dX13_laysTold_25 : decode cX13_laysTold 25 = .ok (.invokevirtual 396, 3) := by decide +kernel
theorem dX13_laysTold_28 : decode cX13_laysTold 28 = .ok (.return_, 1) := by decide +kernel
theorem dX13_strengthAt_0 : decode cX13_strengthAt 0 = .ok (.aload_n 0, 1) := by decide +kernel
theorem dX13_strengthAt_1 : decode cX13_strengthAt 1 = .ok (.getfield 373, 3) := by decide +kernel
theorem dX13_strengthAt_4 : decode cX13_strengthAt 4 = .ok (.aload_n 0, 1) := by decide +kernel
theorem dX13_strengthAt_5 : decode cX13_strengthAt 5 = .ok (.getfield 381, 3) := by decide +kernel
theorem dX13_strengthAt_8 : decode cX13_strengthAt 8 = .ok (.iload_n 1, 1) := by decide +kernel
theorem dX13_strengthAt_9 : decode cX13_strengthAt 9 = .ok (.iload_n 2, 1) := by decide +kernel
theorem dX13_strengthAt_10 : decode cX13_strengthAt 10 = .ok (.invokevirtual 400, 3) := by decide +kernel
theorem dX13_strengthAt_13 : decode cX13_strengthAt 13 = .ok (.aload_n 0, 1) := by decide +kernel
theorem dX13_strengthAt_14 : decode cX13_strengthAt 14 = .ok (.getfield 373, 3) := by decide +kernel
theorem dX13_strengthAt_17 : decode cX13_strengthAt 17 = .ok (.getfield 252, 3) := by decide +kernel
theorem dX13_strengthAt_20 : decode cX13_strengthAt 20 = .ok (.aload_n 0, 1) := by decide +kernel
theorem dX13_strengthAt_21 : decode cX13_strengthAt 21 = .ok (.getfield 383, 3) := by decide +kernel
theorem dX13_strengthAt_24 : decode cX13_strengthAt 24 = .ok (.isub, 1) := by decide +kernel
theorem dX13_strengthAt_25 : decode cX13_strengthAt 25 = .ok (.imul, 1) := by decide +kernel
theorem dX13_strengthAt_26 : decode cX13_strengthAt 26 = .ok (.iload_n 2, 1) := by decide +kernel
theorem dX13_strengthAt_27 : decode cX13_strengthAt 27 = .ok (.iconst 2, 1) := by decide +kernel
theorem dX13_strengthAt_28 : decode cX13_strengthAt 28 = .ok (.if_icmp .ge 31, 3) := by decide +kernel
theorem dX13_strengthAt_31 : decode cX13_strengthAt 31 = .ok (.aload_n 0, 1) := by decide +kernel
theorem dX13_strengthAt_32 : decode cX13_strengthAt 32 = .ok (.getfield 373, 3) := by decide +kernel
theorem dX13_strengthAt_35 : decode cX13_strengthAt 35 = .ok (.getfield 307, 3) := by decide +kernel
theorem dX13_strengthAt_38 : decode cX13_strengthAt 38 = .ok (.aload_n 0, 1) := by decide +kernel
theorem dX13_strengthAt_39 : decode cX13_strengthAt 39 = .ok (.getfield 27, 3) := by decide +kernel
theorem dX13_strengthAt_42 : decode cX13_strengthAt 42 = .ok (.iload_n 1, 1) := by decide +kernel
theorem dX13_strengthAt_43 : decode cX13_strengthAt 43 = .ok (.iaload, 1) := by decide +kernel
theorem dX13_strengthAt_44 : decode cX13_strengthAt 44 = .ok (.iaload, 1) := by decide +kernel
theorem dX13_strengthAt_45 : decode cX13_strengthAt 45 = .ok (.iconst 3, 1) := by decide +kernel
theorem dX13_strengthAt_46 : decode cX13_strengthAt 46 = .ok (.if_icmp .ne 13, 3) := by decide +kernel
theorem dX13_strengthAt_49 : decode cX13_strengthAt 49 = .ok (.aload_n 0, 1) := by decide +kernel
theorem dX13_strengthAt_50 : decode cX13_strengthAt 50 = .ok (.getfield 373, 3) := by decide +kernel
theorem dX13_strengthAt_53 : decode cX13_strengthAt 53 = .ok (.getfield 256, 3) := by decide +kernel
theorem dX13_strengthAt_56 : decode cX13_strengthAt 56 = .ok (.goto 4, 3) := by decide +kernel
theorem dX13_strengthAt_59 : decode cX13_strengthAt 59 = .ok (.iconst 0, 1) := by decide +kernel
theorem dX13_strengthAt_60 : decode cX13_strengthAt 60 = .ok (.iadd, 1) := by decide +kernel
theorem dX13_strengthAt_61 : decode cX13_strengthAt 61 = .ok (.istore_n 3, 1) := by decide +kernel
theorem dX13_strengthAt_62 : decode cX13_strengthAt 62 = .ok (.iload_n 1, 1) := by decide +kernel
theorem dX13_strengthAt_63 : decode cX13_strengthAt 63 = .ok (.aload_n 0, 1) := by decide +kernel
theorem dX13_strengthAt_64 : decode cX13_strengthAt 64 = .ok (.getfield 389, 3) := by decide +kernel
theorem dX13_strengthAt_67 : decode cX13_strengthAt 67 = .ok (.if_icmp .ne 17, 3) := by decide +kernel
theorem dX13_strengthAt_70 : decode cX13_strengthAt 70 = .ok (.iload_n 2, 1) := by decide +kernel
theorem dX13_strengthAt_71 : decode cX13_strengthAt 71 = .ok (.aload_n 0, 1) := by decide +kernel
theorem dX13_strengthAt_72 : decode cX13_strengthAt 72 = .ok (.getfield 403, 3) := by decide +kernel
theorem dX13_strengthAt_75 : decode cX13_strengthAt 75 = .ok (.if_icmp .ne 9, 3) := by decide +kernel
theorem dX13_strengthAt_78 : decode cX13_strengthAt 78 = .ok (.iload_n 3, 1) := by decide +kernel
theorem dX13_strengthAt_79 : decode cX13_strengthAt 79 = .ok (.iconst 2, 1) := by decide +kernel
theorem dX13_strengthAt_80 : decode cX13_strengthAt 80 = .ok (.idiv, 1) := by decide +kernel
theorem dX13_strengthAt_81 : decode cX13_strengthAt 81 = .ok (.goto 4, 3) := by decide +kernel
theorem dX13_strengthAt_84 : decode cX13_strengthAt 84 = .ok (.iload_n 3, 1) := by decide +kernel
theorem dX13_strengthAt_85 : decode cX13_strengthAt 85 = .ok (.ireturn, 1) := by decide +kernel
theorem dX13_strainAt_0 : decode cX13_strainAt 0 = .ok (.iload_n 2, 1) := by decide +kernel
theorem dX13_strainAt_1 : decode cX13_strainAt 1 = .ok (.aload_n 0, 1) := by decide +kernel
theorem dX13_strainAt_2 : decode cX13_strainAt 2 = .ok (.getfield 30, 3) := by decide +kernel
theorem dX13_strainAt_5 : decode cX13_strainAt 5 = .ok (.iload_n 1, 1) := by decide +kernel
theorem dX13_strainAt_6 : decode cX13_strainAt 6 = .ok (.iaload, 1) := by decide +kernel
theorem dX13_strainAt_7 : decode cX13_strainAt 7 = .ok (.if_icmp .lt 5, 3) := by decide +kernel
theorem dX13_strainAt_10 : decode cX13_strainAt 10 = .ok (.iconst 0, 1) := by decide +kernel
theorem dX13_strainAt_11 : decode cX13_strainAt 11 = .ok (.ireturn, 1) := by decide +kernel
theorem dX13_strainAt_12 : decode cX13_strainAt 12 = .ok (.aload_n 0, 1) := by decide +kernel
theorem dX13_strainAt_13 : decode cX13_strainAt 13 = .ok (.getfield 373, 3) := by decide +kernel
theorem dX13_strainAt_16 : decode cX13_strainAt 16 = .ok (.getfield 310, 3) := by decide +kernel
theorem dX13_strainAt_19 : decode cX13_strainAt 19 = .ok (.aload_n 0, 1) := by decide +kernel
theorem dX13_strainAt_20 : decode cX13_strainAt 20 = .ok (.getfield 27, 3) := by decide +kernel
theorem dX13_strainAt_23 : decode cX13_strainAt 23 = .ok (.iconst 0, 1) := by decide +kernel
theorem dX13_strainAt_24 : decode cX13_strainAt 24 = .ok (.iaload, 1) := by decide +kernel
theorem dX13_strainAt_25 : decode cX13_strainAt 25 = .ok (.iaload, 1) := by decide +kernel
theorem dX13_strainAt_26 : decode cX13_strainAt 26 = .ok (.aload_n 0, 1) := by decide +kernel
theorem dX13_strainAt_27 : decode cX13_strainAt 27 = .ok (.getfield 373, 3) := by decide +kernel
theorem dX13_strainAt_30 : decode cX13_strainAt 30 = .ok (.getfield 310, 3) := by decide +kernel
theorem dX13_strainAt_33 : decode cX13_strainAt 33 = .ok (.aload_n 0, 1) := by decide +kernel
theorem dX13_strainAt_34 : decode cX13_strainAt 34 = .ok (.getfield 27, 3) := by decide +kernel
theorem dX13_strainAt_37 : decode cX13_strainAt 37 = .ok (.iconst 1, 1) := by decide +kernel
theorem dX13_strainAt_38 : decode cX13_strainAt 38 = .ok (.iaload, 1) := by decide +kernel
theorem dX13_strainAt_39 : decode cX13_strainAt 39 = .ok (.iaload, 1) := by decide +kernel
theorem dX13_strainAt_40 : decode cX13_strainAt 40 = .ok (.iadd, 1) := by decide +kernel
theorem dX13_strainAt_41 : decode cX13_strainAt 41 = .ok (.aload_n 0, 1) := by decide +kernel
theorem dX13_strainAt_42 : decode cX13_strainAt 42 = .ok (.getfield 30, 3) := by decide +kernel
theorem dX13_strainAt_45 : decode cX13_strainAt 45 = .ok (.iload_n 1, 1) := by decide +kernel
theorem dX13_strainAt_46 : decode cX13_strainAt 46 = .ok (.iaload, 1) := by decide +kernel
theorem dX13_strainAt_47 : decode cX13_strainAt 47 = .ok (.iload_n 2, 1) := by decide +kernel
theorem dX13_strainAt_48 : decode cX13_strainAt 48 = .ok (.isub, 1) := by decide +kernel
theorem dX13_strainAt_49 : decode cX13_strainAt 49 = .ok (.imul, 1) := by decide +kernel
theorem dX13_strainAt_50 : decode cX13_strainAt 50 = .ok (.aload_n 0, 1) := by decide +kernel
theorem dX13_strainAt_51 : decode cX13_strainAt 51 = .ok (.getfield 33, 3) := by decide +kernel
theorem dX13_strainAt_54 : decode cX13_strainAt 54 = .ok (.iload_n 1, 1) := by decide +kernel
theorem dX13_strainAt_55 : decode cX13_strainAt 55 = .ok (.baload, 1) := by decide +kernel
theorem dX13_strainAt_56 : decode cX13_strainAt 56 = .ok (.ifCond .eq 13, 3) := by decide +kernel
theorem dX13_strainAt_59 : decode cX13_strainAt 59 = .ok (.aload_n 0, 1) := by decide +kernel
theorem dX13_strainAt_60 : decode cX13_strainAt 60 = .ok (.getfield 373, 3) := by decide +kernel
theorem dX13_strainAt_63 : decode cX13_strainAt 63 = .ok (.getfield 254, 3) := by decide +kernel
theorem dX13_strainAt_66 : decode cX13_strainAt 66 = .ok (.goto 4, 3) := by decide +kernel
theorem dX13_strainAt_69 : decode cX13_strainAt 69 = .ok (.iconst 0, 1) := by decide +kernel
theorem dX13_strainAt_70 : decode cX13_strainAt 70 = .ok (.iadd, 1) := by decide +kernel
theorem dX13_strainAt_71 : decode cX13_strainAt 71 = .ok (.ireturn, 1) := by decide +kernel
theorem dX13_worst_0 : decode cX13_worst 0 = .ok (.iconst (-1), 1) := by decide +kernel
theorem dX13_worst_1 : decode cX13_worst 1 = .ok (.istore_n 2, 1) := by decide +kernel
theorem dX13_worst_2 : decode cX13_worst 2 = .ok (.iconst 0, 1) := by decide +kernel
theorem dX13_worst_3 : decode cX13_worst 3 = .ok (.istore_n 3, 1) := by decide +kernel
theorem dX13_worst_4 : decode cX13_worst 4 = .ok (.iload_n 3, 1) := by decide +kernel
theorem dX13_worst_5 : decode cX13_worst 5 = .ok (.aload_n 0, 1) := by decide +kernel
theorem dX13_worst_6 : decode cX13_worst 6 = .ok (.getfield 373, 3) := by decide +kernel
theorem dX13_worst_9 : decode cX13_worst 9 = .ok (.aload_n 0, 1) := by decide +kernel
theorem dX13_worst_10 : decode cX13_worst 10 = .ok (.getfield 381, 3) := by decide +kernel
theorem dX13_worst_13 : decode cX13_worst 13 = .ok (.iload_n 1, 1) := by decide +kernel
theorem dX13_worst_14 : decode cX13_worst 14 = .ok (.invokevirtual 406, 3) := by decide +kernel
theorem dX13_worst_17 : decode cX13_worst 17 = .ok (.if_icmp .ge 47, 3) := by decide +kernel
theorem dX13_worst_20 : decode cX13_worst 20 = .ok (.aload_n 0, 1) := by decide +kernel
theorem dX13_worst_21 : decode cX13_worst 21 = .ok (.iload_n 1, 1) := by decide +kernel
theorem dX13_worst_22 : decode cX13_worst 22 = .ok (.iload_n 3, 1) := by decide +kernel
theorem dX13_worst_23 : decode cX13_worst 23 = .ok (.invokevirtual 409, 3) := by decide +kernel
theorem dX13_worst_26 : decode cX13_worst 26 = .ok (.aload_n 0, 1) := by decide +kernel
theorem dX13_worst_27 : decode cX13_worst 27 = .ok (.iload_n 1, 1) := by decide +kernel
theorem dX13_worst_28 : decode cX13_worst 28 = .ok (.iload_n 3, 1) := by decide +kernel
theorem dX13_worst_29 : decode cX13_worst 29 = .ok (.invokevirtual 412, 3) := by decide +kernel
theorem dX13_worst_32 : decode cX13_worst 32 = .ok (.if_icmp .gt 6, 3) := by decide +kernel
theorem dX13_worst_35 : decode cX13_worst 35 = .ok (.goto 23, 3) := by decide +kernel
theorem dX13_worst_38 : decode cX13_worst 38 = .ok (.iload_n 2, 1) := by decide +kernel
theorem dX13_worst_39 : decode cX13_worst 39 = .ok (.iconst (-1), 1) := by decide +kernel
theorem dX13_worst_40 : decode cX13_worst 40 = .ok (.if_icmp .eq 16, 3) := by decide +kernel
theorem dX13_worst_43 : decode cX13_worst 43 = .ok (.aload_n 0, 1) := by decide +kernel
theorem dX13_worst_44 : decode cX13_worst 44 = .ok (.iload_n 1, 1) := by decide +kernel
theorem dX13_worst_45 : decode cX13_worst 45 = .ok (.iload_n 3, 1) := by decide +kernel
theorem dX13_worst_46 : decode cX13_worst 46 = .ok (.iload_n 1, 1) := by decide +kernel
theorem dX13_worst_47 : decode cX13_worst 47 = .ok (.iload_n 2, 1) := by decide +kernel
theorem dX13_worst_48 : decode cX13_worst 48 = .ok (.invokevirtual 415, 3) := by decide +kernel
theorem dX13_worst_51 : decode cX13_worst 51 = .ok (.lconst 0, 1) := by decide +kernel
theorem dX13_worst_52 : decode cX13_worst 52 = .ok (.lcmp, 1) := by decide +kernel
theorem dX13_worst_53 : decode cX13_worst 53 = .ok (.ifCond .le 5, 3) := by decide +kernel
theorem dX13_worst_56 : decode cX13_worst 56 = .ok (.iload_n 3, 1) := by decide +kernel
theorem dX13_worst_57 : decode cX13_worst 57 = .ok (.istore_n 2, 1) := by decide +kernel
theorem dX13_worst_58 : decode cX13_worst 58 = .ok (.iinc 3 1, 3) := by decide +kernel
theorem dX13_worst_61 : decode cX13_worst 61 = .ok (.goto (-57), 3) := by decide +kernel
theorem dX13_worst_64 : decode cX13_worst 64 = .ok (.iload_n 2, 1) := by decide +kernel
theorem dX13_worst_65 : decode cX13_worst 65 = .ok (.ireturn, 1) := by decide +kernel
theorem dX13_compares_0 : decode cX13_compares 0 = .ok (.aload_n 0, 1) := by decide +kernel
theorem dX13_compares_1 : decode cX13_compares 1 = .ok (.iload_n 1, 1) := by decide +kernel
theorem dX13_compares_2 : decode cX13_compares 2 = .ok (.iload_n 2, 1) := by decide +kernel
theorem dX13_compares_3 : decode cX13_compares 3 = .ok (.invokevirtual 412, 3) := by decide +kernel
theorem dX13_compares_6 : decode cX13_compares 6 = .ok (.i2l, 1) := by decide +kernel
theorem dX13_compares_7 : decode cX13_compares 7 = .ok (.lstore 5, 2) := by decide +kernel
theorem dX13_compares_9 : decode cX13_compares 9 = .ok (.aload_n 0, 1) := by decide +kernel
theorem dX13_compares_10 : decode cX13_compares 10 = .ok (.iload_n 3, 1) := by decide +kernel
theorem dX13_compares_11 : decode cX13_compares 11 = .ok (.iload 4, 2) := by decide +kernel
theorem dX13_compares_13 : decode cX13_compares 13 = .ok (.invokevirtual 412, 3) := by decide +kernel
theorem dX13_compares_16 : decode cX13_compares 16 = .ok (.i2l, 1) := by decide +kernel
theorem dX13_compares_17 : decode cX13_compares 17 = .ok (.lstore 7, 2) := by decide +kernel
theorem dX13_compares_19 : decode cX13_compares 19 = .ok (.lload 5, 2) := by decide +kernel
theorem dX13_compares_21 : decode cX13_compares 21 = .ok (.lconst 0, 1) := by decide +kernel
theorem dX13_compares_22 : decode cX13_compares 22 = .ok (.lcmp, 1) := by decide +kernel
theorem dX13_compares_23 : decode cX13_compares 23 = .ok (.ifCond .eq 10, 3) := by decide +kernel
theorem dX13_compares_26 : decode cX13_compares 26 = .ok (.lload 7, 2) := by decide +kernel
theorem dX13_compares_28 : decode cX13_compares 28 = .ok (.lconst 0, 1) := by decide +kernel
theorem dX13_compares_29 : decode cX13_compares 29 = .ok (.lcmp, 1) := by decide +kernel
theorem dX13_compares_30 : decode cX13_compares 30 = .ok (.ifCond .ne 29, 3) := by decide +kernel
theorem dX13_compares_33 : decode cX13_compares 33 = .ok (.lload 5, 2) := by decide +kernel
theorem dX13_compares_35 : decode cX13_compares 35 = .ok (.lconst 0, 1) := by decide +kernel
theorem dX13_compares_36 : decode cX13_compares 36 = .ok (.lcmp, 1) := by decide +kernel
theorem dX13_compares_37 : decode cX13_compares 37 = .ok (.ifCond .ne 7, 3) := by decide +kernel
theorem dX13_compares_40 : decode cX13_compares 40 = .ok (.lconst 1, 1) := by decide +kernel
theorem dX13_compares_41 : decode cX13_compares 41 = .ok (.goto 4, 3) := by decide +kernel
theorem dX13_compares_44 : decode cX13_compares 44 = .ok (.lconst 0, 1) := by decide +kernel
theorem dX13_compares_45 : decode cX13_compares 45 = .ok (.lload 7, 2) := by decide +kernel
theorem dX13_compares_47 : decode cX13_compares 47 = .ok (.lconst 0, 1) := by decide +kernel
theorem dX13_compares_48 : decode cX13_compares 48 = .ok (.lcmp, 1) := by decide +kernel
theorem dX13_compares_49 : decode cX13_compares 49 = .ok (.ifCond .ne 7, 3) := by decide +kernel
theorem dX13_compares_52 : decode cX13_compares 52 = .ok (.lconst 1, 1) := by decide +kernel
theorem dX13_compares_53 : decode cX13_compares 53 = .ok (.goto 4, 3) := by decide +kernel
theorem dX13_compares_56 : decode cX13_compares 56 = .ok (.lconst 0, 1) := by decide +kernel
theorem dX13_compares_57 : decode cX13_compares 57 = .ok (.lsub, 1) := by decide +kernel
theorem dX13_compares_58 : decode cX13_compares 58 = .ok (.lreturn, 1) := by decide +kernel
theorem dX13_compares_59 : decode cX13_compares 59 = .ok (.aload_n 0, 1) := by decide +kernel
theorem dX13_compares_60 : decode cX13_compares 60 = .ok (.iload_n 1, 1) := by decide +kernel
theorem dX13_compares_61 : decode cX13_compares 61 = .ok (.iload_n 2, 1) := by decide +kernel
theorem dX13_compares_62 : decode cX13_compares 62 = .ok (.invokevirtual 409, 3) := by decide +kernel
theorem dX13_compares_65 : decode cX13_compares 65 = .ok (.i2l, 1) := by decide +kernel
theorem dX13_compares_66 : decode cX13_compares 66 = .ok (.lload 7, 2) := by decide +kernel
theorem dX13_compares_68 : decode cX13_compares 68 = .ok (.lmul, 1) := by decide +kernel
theorem dX13_compares_69 : decode cX13_compares 69 = .ok (.aload_n 0, 1) := by decide +kernel
theorem dX13_compares_70 : decode cX13_compares 70 = .ok (.iload_n 3, 1) := by decide +kernel
theorem dX13_compares_71 : decode cX13_compares 71 = .ok (.iload 4, 2) := by decide +kernel
theorem dX13_compares_73 : decode cX13_compares 73 = .ok (.invokevirtual 409, 3) := by decide +kernel
theorem dX13_compares_76 : decode cX13_compares 76 = .ok (.i2l, 1) := by decide +kernel
theorem dX13_compares_77 : decode cX13_compares 77 = .ok (.lload 5, 2) := by decide +kernel
theorem dX13_compares_79 : decode cX13_compares 79 = .ok (.lmul, 1) := by decide +kernel
theorem dX13_compares_80 : decode cX13_compares 80 = .ok (.lsub, 1) := by decide +kernel
theorem dX13_compares_81 : decode cX13_compares 81 = .ok (.lreturn, 1) := by decide +kernel
theorem dX13_comes_0 : decode cX13_comes 0 = .ok (.aload_n 0, 1) := by decide +kernel
theorem dX13_comes_1 : decode cX13_comes 1 = .ok (.iconst (-1), 1) := by decide +kernel
theorem dX13_comes_2 : decode cX13_comes 2 = .ok (.putfield 419, 3) := by decide +kernel
theorem dX13_comes_5 : decode cX13_comes 5 = .ok (.aload_n 0, 1) := by decide +kernel
theorem dX13_comes_6 : decode cX13_comes 6 = .ok (.getfield 383, 3) := by decide +kernel
theorem dX13_comes_9 : decode cX13_comes 9 = .ok (.aload_n 0, 1) := by decide +kernel
theorem dX13_comes_10 : decode cX13_comes 10 = .ok (.getfield 373, 3) := by decide +kernel
theorem dX13_comes_13 : decode cX13_comes 13 = .ok (.getfield 250, 3) := by decide +kernel
theorem dX13_comes_16 : decode cX13_comes 16 = .ok (.if_icmp .lt 18, 3) := by decide +kernel
theorem dX13_comes_19 : decode cX13_comes 19 = .ok (.aload_n 0, 1) := by decide +kernel
theorem dX13_comes_20 : decode cX13_comes 20 = .ok (.getfield 17, 3) := by decide +kernel
theorem dX13_comes_23 : decode cX13_comes 23 = .ok (.iconst 0, 1) := by decide +kernel
theorem dX13_comes_24 : decode cX13_comes 24 = .ok (.aload_n 0, 1) := by decide +kernel
theorem dX13_comes_25 : decode cX13_comes 25 = .ok (.getfield 381, 3) := by decide +kernel
theorem dX13_comes_28 : decode cX13_comes 28 = .ok (.iadd, 1) := by decide +kernel
theorem dX13_comes_29 : decode cX13_comes 29 = .ok (.iaload, 1) := by decide +kernel
theorem dX13_comes_30 : decode cX13_comes 30 = .ok (.iconst 2, 1) := by decide +kernel
theorem dX13_comes_31 : decode cX13_comes 31 = .ok (.if_icmp .ne 5, 3) := by decide +kernel
theorem dX13_comes_34 : decode cX13_comes 34 = .ok (.iconst 3, 1) := by decide +kernel
theorem dX13_comes_35 : decode cX13_comes 35 = .ok (.ireturn, 1) := by decide +kernel
theorem dX13_comes_36 : decode cX13_comes 36 = .ok (.aload_n 0, 1) := by decide +kernel
theorem dX13_comes_37 : decode cX13_comes 37 = .ok (.iconst 0, 1) := by decide +kernel
theorem dX13_comes_38 : decode cX13_comes 38 = .ok (.invokevirtual 422, 3) := by decide +kernel
theorem dX13_comes_41 : decode cX13_comes 41 = .ok (.istore_n 1, 1) := by decide +kernel
theorem dX13_comes_42 : decode cX13_comes 42 = .ok (.aload_n 0, 1) := by decide +kernel
theorem dX13_comes_43 : decode cX13_comes 43 = .ok (.iconst 1, 1) := by decide +kernel
theorem dX13_comes_44 : decode cX13_comes 44 = .ok (.invokevirtual 422, 3) := by decide +kernel
theorem dX13_comes_47 : decode cX13_comes 47 = .ok (.istore_n 2, 1) := by decide +kernel
theorem dX13_comes_48 : decode cX13_comes 48 = .ok (.iload_n 1, 1) := by decide +kernel
theorem dX13_comes_49 : decode cX13_comes 49 = .ok (.iconst (-1), 1) := by decide +kernel
theorem dX13_comes_50 : decode cX13_comes 50 = .ok (.if_icmp .ne 10, 3) := by decide +kernel
theorem dX13_comes_53 : decode cX13_comes 53 = .ok (.iload_n 2, 1) := by decide +kernel
theorem dX13_comes_54 : decode cX13_comes 54 = .ok (.iconst (-1), 1) := by decide +kernel
theorem dX13_comes_55 : decode cX13_comes 55 = .ok (.if_icmp .ne 5, 3) := by decide +kernel
theorem dX13_comes_58 : decode cX13_comes 58 = .ok (.iconst 3, 1) := by decide +kernel
theorem dX13_comes_59 : decode cX13_comes 59 = .ok (.ireturn, 1) := by decide +kernel
theorem dX13_comes_60 : decode cX13_comes 60 = .ok (.iload_n 1, 1) := by decide +kernel
theorem dX13_comes_61 : decode cX13_comes 61 = .ok (.iconst (-1), 1) := by decide +kernel
theorem dX13_comes_62 : decode cX13_comes 62 = .ok (.if_icmp .ne 9, 3) := by decide +kernel
theorem dX13_comes_65 : decode cX13_comes 65 = .ok (.ldc2_w 425, 3) := by decide +kernel
theorem dX13_comes_68 : decode cX13_comes 68 = .ok (.goto 20, 3) := by decide +kernel
theorem dX13_comes_71 : decode cX13_comes 71 = .ok (.iload_n 2, 1) := by decide +kernel
theorem dX13_comes_72 : decode cX13_comes 72 = .ok (.iconst (-1), 1) := by decide +kernel
theorem dX13_comes_73 : decode cX13_comes 73 = .ok (.if_icmp .ne 7, 3) := by decide +kernel
theorem dX13_comes_76 : decode cX13_comes 76 = .ok (.lconst 1, 1) := by decide +kernel
theorem dX13_comes_77 : decode cX13_comes 77 = .ok (.goto 11, 3) := by decide +kernel
theorem dX13_comes_80 : decode cX13_comes 80 = .ok (.aload_n 0, 1) := by decide +kernel
theorem dX13_comes_81 : decode cX13_comes 81 = .ok (.iconst 0, 1) := by decide +kernel
theorem dX13_comes_82 : decode cX13_comes 82 = .ok (.iload_n 1, 1) := by decide +kernel
theorem dX13_comes_83 : decode cX13_comes 83 = .ok (.iconst 1, 1) := by decide +kernel
theorem dX13_comes_84 : decode cX13_comes 84 = .ok (.iload_n 2, 1) := by decide +kernel
theorem dX13_comes_85 : decode cX13_comes 85 = .ok (.invokevirtual 415, 3) := by decide +kernel
theorem dX13_comes_88 : decode cX13_comes 88 = .ok (.lstore_n 3, 1) := by decide +kernel
theorem dX13_comes_89 : decode cX13_comes 89 = .ok (.lload_n 3, 1) := by decide +kernel
theorem dX13_comes_90 : decode cX13_comes 90 = .ok (.lconst 0, 1) := by decide +kernel
theorem dX13_comes_91 : decode cX13_comes 91 = .ok (.lcmp, 1) := by decide +kernel
theorem dX13_comes_92 : decode cX13_comes 92 = .ok (.ifCond .ne 5, 3) := by decide +kernel
theorem dX13_comes_95 : decode cX13_comes 95 = .ok (.iconst 2, 1) := by decide +kernel
theorem dX13_comes_96 : decode cX13_comes 96 = .ok (.ireturn, 1) := by decide +kernel
theorem dX13_comes_97 : decode cX13_comes 97 = .ok (.aload_n 0, 1) := by decide +kernel
theorem dX13_comes_98 : decode cX13_comes 98 = .ok (.lload_n 3, 1) := by decide +kernel
theorem dX13_comes_99 : decode cX13_comes 99 = .ok (.lconst 0, 1) := by decide +kernel
theorem dX13_comes_100 : decode cX13_comes 100 = .ok (.lcmp, 1) := by decide +kernel
theorem dX13_comes_101 : decode cX13_comes 101 = .ok (.ifCond .le 7, 3) := by decide +kernel
theorem dX13_comes_104 : decode cX13_comes 104 = .ok (.iconst 0, 1) := by decide +kernel
theorem dX13_comes_105 : decode cX13_comes 105 = .ok (.goto 4, 3) := by decide +kernel
theorem dX13_comes_108 : decode cX13_comes 108 = .ok (.iconst 1, 1) := by decide +kernel
theorem dX13_comes_109 : decode cX13_comes 109 = .ok (.putfield 419, 3) := by decide +kernel
theorem dX13_comes_112 : decode cX13_comes 112 = .ok (.aload_n 0, 1) := by decide +kernel
theorem dX13_comes_113 : decode cX13_comes 113 = .ok (.lload_n 3, 1) := by decide +kernel
theorem dX13_comes_114 : decode cX13_comes 114 = .ok (.lconst 0, 1) := by decide +kernel
theorem dX13_comes_115 : decode cX13_comes 115 = .ok (.lcmp, 1) := by decide +kernel
theorem dX13_comes_116 : decode cX13_comes 116 = .ok (.ifCond .le 7, 3) := by decide +kernel
theorem dX13_comes_119 : decode cX13_comes 119 = .ok (.iload_n 1, 1) := by decide +kernel
theorem dX13_comes_120 : decode cX13_comes 120 = .ok (.goto 4, 3) := by decide +kernel
theorem dX13_comes_123 : decode cX13_comes 123 = .ok (.iload_n 2, 1) := by decide +kernel
theorem dX13_comes_124 : decode cX13_comes 124 = .ok (.putfield 427, 3) := by decide +kernel
theorem dX13_comes_127 : decode cX13_comes 127 = .ok (.lload_n 3, 1) := by decide +kernel
theorem dX13_comes_128 : decode cX13_comes 128 = .ok (.lconst 0, 1) := by decide +kernel
theorem dX13_comes_129 : decode cX13_comes 129 = .ok (.lcmp, 1) := by decide +kernel
theorem dX13_comes_130 : decode cX13_comes 130 = .ok (.ifCond .le 7, 3) := by decide +kernel
theorem dX13_comes_133 : decode cX13_comes 133 = .ok (.iconst 1, 1) := by decide +kernel
theorem dX13_comes_134 : decode cX13_comes 134 = .ok (.goto 4, 3) := by decide +kernel
theorem dX13_comes_137 : decode cX13_comes 137 = .ok (.iconst 0, 1) := by decide +kernel
theorem dX13_comes_138 : decode cX13_comes 138 = .ok (.ireturn, 1) := by decide +kernel
theorem dX13_allPlaces_0 : decode cX13_allPlaces 0 = .ok (.aload_n 0, 1) := by decide +kernel
theorem dX13_allPlaces_1 : decode cX13_allPlaces 1 = .ok (.getfield 373, 3) := by decide +kernel
theorem dX13_allPlaces_4 : decode cX13_allPlaces 4 = .ok (.aload_n 0, 1) := by decide +kernel
theorem dX13_allPlaces_5 : decode cX13_allPlaces 5 = .ok (.getfield 381, 3) := by decide +kernel
theorem dX13_allPlaces_8 : decode cX13_allPlaces 8 = .ok (.iconst 0, 1) := by decide +kernel
theorem dX13_allPlaces_9 : decode cX13_allPlaces 9 = .ok (.invokevirtual 406, 3) := by decide +kernel
theorem dX13_allPlaces_12 : decode cX13_allPlaces 12 = .ok (.aload_n 0, 1) := by decide +kernel
theorem dX13_allPlaces_13 : decode cX13_allPlaces 13 = .ok (.getfield 373, 3) := by decide +kernel
theorem dX13_allPlaces_16 : decode cX13_allPlaces 16 = .ok (.aload_n 0, 1) := by decide +kernel
theorem dX13_allPlaces_17 : decode cX13_allPlaces 17 = .ok (.getfield 381, 3) := by decide +kernel
theorem dX13_allPlaces_20 : decode cX13_allPlaces 20 = .ok (.iconst 1, 1) := by decide +kernel
theorem dX13_allPlaces_21 : decode cX13_allPlaces 21 = .ok (.invokevirtual 406, 3) := by decide +kernel
theorem dX13_allPlaces_24 : decode cX13_allPlaces 24 = .ok (.iadd, 1) := by decide +kernel
theorem dX13_allPlaces_25 : decode cX13_allPlaces 25 = .ok (.ireturn, 1) := by decide +kernel
theorem dX13_flaws_0 : decode cX13_flaws 0 = .ok (.aload_n 0, 1) := by decide +kernel
theorem dX13_flaws_1 : decode cX13_flaws 1 = .ok (.iload_n 1, 1) := by decide +kernel
theorem dX13_flaws_2 : decode cX13_flaws 2 = .ok (.aload_n 0, 1) := by decide +kernel
theorem dX13_flaws_3 : decode cX13_flaws 3 = .ok (.getfield 373, 3) := by decide +kernel
theorem dX13_flaws_6 : decode cX13_flaws 6 = .ok (.aload_n 0, 1) := by decide +kernel
theorem dX13_flaws_7 : decode cX13_flaws 7 = .ok (.getfield 381, 3) := by decide +kernel
theorem dX13_flaws_10 : decode cX13_flaws 10 = .ok (.iconst 0, 1) := by decide +kernel
theorem dX13_flaws_11 : decode cX13_flaws 11 = .ok (.invokevirtual 406, 3) := by decide +kernel
theorem dX13_flaws_14 : decode cX13_flaws 14 = .ok (.if_icmp .ge 7, 3) := by decide +kernel
theorem dX13_flaws_17 : decode cX13_flaws 17 = .ok (.iconst 0, 1) := by decide +kernel
theorem dX13_flaws_18 : decode cX13_flaws 18 = .ok (.goto 4, 3) := by decide +kernel
theorem dX13_flaws_21 : decode cX13_flaws 21 = .ok (.iconst 1, 1) := by decide +kernel
theorem dX13_flaws_22 : decode cX13_flaws 22 = .ok (.putfield 389, 3) := by decide +kernel
theorem dX13_flaws_25 : decode cX13_flaws 25 = .ok (.aload_n 0, 1) := by decide +kernel
theorem dX13_flaws_26 : decode cX13_flaws 26 = .ok (.aload_n 0, 1) := by decide +kernel
theorem dX13_flaws_27 : decode cX13_flaws 27 = .ok (.getfield 389, 3) := by decide +kernel
theorem dX13_flaws_30 : decode cX13_flaws 30 = .ok (.ifCond .ne 7, 3) := by decide +kernel
theorem dX13_flaws_33 : decode cX13_flaws 33 = .ok (.iload_n 1, 1) := by decide +kernel
theorem dX13_flaws_34 : decode cX13_flaws 34 = .ok (.goto 17, 3) := by decide +kernel
theorem dX13_flaws_37 : decode cX13_flaws 37 = .ok (.iload_n 1, 1) := by decide +kernel
theorem dX13_flaws_38 : decode cX13_flaws 38 = .ok (.aload_n 0, 1) := by decide +kernel
theorem dX13_flaws_39 : decode cX13_flaws 39 = .ok (.getfield 373, 3) := by decide +kernel
theorem dX13_flaws_42 : decode cX13_flaws 42 = .ok (.aload_n 0, 1) := by decide +kernel
theorem dX13_flaws_43 : decode cX13_flaws 43 = .ok (.getfield 381, 3) := by decide +kernel
theorem dX13_flaws_46 : decode cX13_flaws 46 = .ok (.iconst 0, 1) := by decide +kernel
theorem dX13_flaws_47 : decode cX13_flaws 47 = .ok (.invokevirtual 406, 3) := by decide +kernel
theorem dX13_flaws_50 : decode cX13_flaws 50 = .ok (.isub, 1) := by decide +kernel
theorem dX13_flaws_51 : decode cX13_flaws 51 = .ok (.putfield 403, 3) := by decide +kernel
theorem dX13_flaws_54 : decode cX13_flaws 54 = .ok (.return_, 1) := by decide +kernel
theorem dX13_oddsOf_0 : decode cX13_oddsOf 0 = .ok (.aload_n 0, 1) := by decide +kernel
theorem dX13_oddsOf_1 : decode cX13_oddsOf 1 = .ok (.invokevirtual 430, 3) := by decide +kernel
theorem dX13_oddsOf_4 : decode cX13_oddsOf 4 = .ok (.istore_n 2, 1) := by decide +kernel
theorem dX13_oddsOf_5 : decode cX13_oddsOf 5 = .ok (.aload_n 0, 1) := by decide +kernel
theorem dX13_oddsOf_6 : decode cX13_oddsOf 6 = .ok (.iconst (-1), 1) := by decide +kernel
theorem dX13_oddsOf_7 : decode cX13_oddsOf 7 = .ok (.putfield 389, 3) := by decide +kernel
theorem dX13_oddsOf_10 : decode cX13_oddsOf 10 = .ok (.aload_n 0, 1) := by decide +kernel
theorem dX13_oddsOf_11 : decode cX13_oddsOf 11 = .ok (.invokevirtual 433, 3) := by decide +kernel
theorem dX13_oddsOf_14 : decode cX13_oddsOf 14 = .ok (.iload_n 1, 1) := by decide +kernel
theorem dX13_oddsOf_15 : decode cX13_oddsOf 15 = .ok (.if_icmp .ne 21, 3) := by decide +kernel
theorem dX13_oddsOf_18 : decode cX13_oddsOf 18 = .ok (.ldc2_w 436, 3) := by decide +kernel
theorem dX13_oddsOf_21 : decode cX13_oddsOf 21 = .ok (.aload_n 0, 1) := by decide +kernel
theorem dX13_oddsOf_22 : decode cX13_oddsOf 22 = .ok (.getfield 373, 3) := by decide +kernel
theorem dX13_oddsOf_25 : decode cX13_oddsOf 25 = .ok (.getfield 258, 3) := by decide +kernel
theorem dX13_oddsOf_28 : decode cX13_oddsOf 28 = .ok (.i2l, 1) := by decide +kernel
theorem dX13_oddsOf_29 : decode cX13_oddsOf 29 = .ok (.lsub, 1) := by decide +kernel
theorem dX13_oddsOf_30 : decode cX13_oddsOf 30 = .ok (.iload_n 2, 1) := by decide +kernel
theorem dX13_oddsOf_31 : decode cX13_oddsOf 31 = .ok (.i2l, 1) := by decide +kernel
theorem dX13_oddsOf_32 : decode cX13_oddsOf 32 = .ok (.lmul, 1) := by decide +kernel
theorem dX13_oddsOf_33 : decode cX13_oddsOf 33 = .ok (.goto 4, 3) := by decide +kernel
theorem dX13_oddsOf_36 : decode cX13_oddsOf 36 = .ok (.lconst 0, 1) := by decide +kernel
theorem dX13_oddsOf_37 : decode cX13_oddsOf 37 = .ok (.lstore_n 3, 1) := by decide +kernel
theorem dX13_oddsOf_38 : decode cX13_oddsOf 38 = .ok (.iconst 0, 1) := by decide +kernel
theorem dX13_oddsOf_39 : decode cX13_oddsOf 39 = .ok (.istore 5, 2) := by decide +kernel
theorem dX13_oddsOf_41 : decode cX13_oddsOf 41 = .ok (.iload 5, 2) := by decide +kernel
theorem dX13_oddsOf_43 : decode cX13_oddsOf 43 = .ok (.iload_n 2, 1) := by decide +kernel
theorem dX13_oddsOf_44 : decode cX13_oddsOf 44 = .ok (.if_icmp .ge 38, 3) := by decide +kernel
theorem dX13_oddsOf_47 : decode cX13_oddsOf 47 = .ok (.aload_n 0, 1) := by decide +kernel
theorem dX13_oddsOf_48 : decode cX13_oddsOf 48 = .ok (.iload 5, 2) := by decide +kernel
theorem dX13_oddsOf_50 : decode cX13_oddsOf 50 = .ok (.invokevirtual 438, 3) := by decide +kernel
theorem dX13_oddsOf_53 : decode cX13_oddsOf 53 = .ok (.lload_n 3, 1) := by decide +kernel
theorem dX13_oddsOf_54 : decode cX13_oddsOf 54 = .ok (.aload_n 0, 1) := by decide +kernel
theorem dX13_oddsOf_55 : decode cX13_oddsOf 55 = .ok (.invokevirtual 433, 3) := by decide +kernel
theorem dX13_oddsOf_58 : decode cX13_oddsOf 58 = .ok (.iload_n 1, 1) := by decide +kernel
theorem dX13_oddsOf_59 : decode cX13_oddsOf 59 = .ok (.if_icmp .ne 14, 3) := by decide +kernel
theorem dX13_oddsOf_62 : decode cX13_oddsOf 62 = .ok (.aload_n 0, 1) := by decide +kernel
theorem dX13_oddsOf_63 : decode cX13_oddsOf 63 = .ok (.getfield 373, 3) := by decide +kernel
theorem dX13_oddsOf_66 : decode cX13_oddsOf 66 = .ok (.getfield 258, 3) := by decide +kernel
theorem dX13_oddsOf_69 : decode cX13_oddsOf 69 = .ok (.i2l, 1) := by decide +kernel
theorem dX13_oddsOf_70 : decode cX13_oddsOf 70 = .ok (.goto 4, 3) := by decide +kernel
theorem dX13_oddsOf_73 : decode cX13_oddsOf 73 = .ok (.lconst 0, 1) := by decide +kernel
theorem dX13_oddsOf_74 : decode cX13_oddsOf 74 = .ok (.ladd, 1) := by decide +kernel
theorem dX13_oddsOf_75 : decode cX13_oddsOf 75 = .ok (.lstore_n 3, 1) := by decide +kernel
theorem dX13_oddsOf_76 : decode cX13_oddsOf 76 = .ok (.iinc 5 1, 3) := by decide +kernel
theorem dX13_oddsOf_79 : decode cX13_oddsOf 79 = .ok (.goto (-38), 3) := by decide +kernel
theorem dX13_oddsOf_82 : decode cX13_oddsOf 82 = .ok (.aload_n 0, 1) := by decide +kernel
theorem dX13_oddsOf_83 : decode cX13_oddsOf 83 = .ok (.iconst (-1), 1) := by decide +kernel
theorem dX13_oddsOf_84 : decode cX13_oddsOf 84 = .ok (.putfield 389, 3) := by decide +kernel
theorem dX13_oddsOf_87 : decode cX13_oddsOf 87 = .ok (.lload_n 3, 1) := by decide +kernel
theorem dX13_oddsOf_88 : decode cX13_oddsOf 88 = .ok (.lreturn, 1) := by decide +kernel
theorem dX13_isBone_0 : decode cX13_isBone 0 = .ok (.aload_n 0, 1) := by decide +kernel
theorem dX13_isBone_1 : decode cX13_isBone 1 = .ok (.getfield 373, 3) := by decide +kernel
theorem dX13_isBone_4 : decode cX13_isBone 4 = .ok (.ifnull 22, 3) := by decide +kernel
theorem dX13_isBone_7 : decode cX13_isBone 7 = .ok (.iload_n 1, 1) := by decide +kernel
theorem dX13_isBone_8 : decode cX13_isBone 8 = .ok (.ifCond .lt 18, 3) := by decide +kernel
theorem dX13_isBone_11 : decode cX13_isBone 11 = .ok (.iload_n 1, 1) := by decide +kernel
theorem dX13_isBone_12 : decode cX13_isBone 12 = .ok (.aload_n 0, 1) := by decide +kernel
theorem dX13_isBone_13 : decode cX13_isBone 13 = .ok (.getfield 373, 3) := by decide +kernel
theorem dX13_isBone_16 : decode cX13_isBone 16 = .ok (.getfield 210, 3) := by decide +kernel
theorem dX13_isBone_19 : decode cX13_isBone 19 = .ok (.if_icmp .ge 7, 3) := by decide +kernel
theorem dX13_isBone_22 : decode cX13_isBone 22 = .ok (.iconst 1, 1) := by decide +kernel
theorem dX13_isBone_23 : decode cX13_isBone 23 = .ok (.goto 4, 3) := by decide +kernel
theorem dX13_isBone_26 : decode cX13_isBone 26 = .ok (.iconst 0, 1) := by decide +kernel
theorem dX13_isBone_27 : decode cX13_isBone 27 = .ok (.ireturn, 1) := by decide +kernel
theorem dX13_isPerson_0 : decode cX13_isPerson 0 = .ok (.aload_n 0, 1) := by decide +kernel
theorem dX13_isPerson_1 : decode cX13_isPerson 1 = .ok (.getfield 373, 3) := by decide +kernel
theorem dX13_isPerson_4 : decode cX13_isPerson 4 = .ok (.ifnull 22, 3) := by decide +kernel
theorem dX13_isPerson_7 : decode cX13_isPerson 7 = .ok (.iload_n 1, 1) := by decide +kernel
theorem dX13_isPerson_8 : decode cX13_isPerson 8 = .ok (.ifCond .lt 18, 3) := by decide +kernel
theorem dX13_isPerson_11 : decode cX13_isPerson 11 = .ok (.iload_n 1, 1) := by decide +kernel
theorem dX13_isPerson_12 : decode cX13_isPerson 12 = .ok (.aload_n 0, 1) := by decide +kernel
theorem dX13_isPerson_13 : decode cX13_isPerson 13 = .ok (.getfield 373, 3) := by decide +kernel
theorem dX13_isPerson_16 : decode cX13_isPerson 16 = .ok (.getfield 213, 3) := by decide +kernel
theorem dX13_isPerson_19 : decode cX13_isPerson 19 = .ok (.if_icmp .ge 7, 3) := by decide +kernel
theorem dX13_isPerson_22 : decode cX13_isPerson 22 = .ok (.iconst 1, 1) := by decide +kernel
theorem dX13_isPerson_23 : decode cX13_isPerson 23 = .ok (.goto 4, 3) := by decide +kernel
theorem dX13_isPerson_26 : decode cX13_isPerson 26 = .ok (.iconst 0, 1) := by decide +kernel
theorem dX13_isPerson_27 : decode cX13_isPerson 27 = .ok (.ireturn, 1) := by decide +kernel
theorem dX13_isPair_0 : decode cX13_isPair 0 = .ok (.aload_n 0, 1) := by decide +kernel
theorem dX13_isPair_1 : decode cX13_isPair 1 = .ok (.iload_n 1, 1) := by decide +kernel
theorem dX13_isPair_2 : decode cX13_isPair 2 = .ok (.invokevirtual 441, 3) := by decide +kernel
theorem dX13_isPair_5 : decode cX13_isPair 5 = .ok (.ifCond .eq 20, 3) := by decide +kernel
theorem dX13_isPair_8 : decode cX13_isPair 8 = .ok (.aload_n 0, 1) := by decide +kernel
theorem dX13_isPair_9 : decode cX13_isPair 9 = .ok (.iload_n 2, 1) := by decide +kernel
theorem dX13_isPair_10 : decode cX13_isPair 10 = .ok (.invokevirtual 441, 3) := by decide +kernel
theorem dX13_isPair_13 : decode cX13_isPair 13 = .ok (.ifCond .eq 12, 3) := by decide +kernel
theorem dX13_isPair_16 : decode cX13_isPair 16 = .ok (.iload_n 1, 1) := by decide +kernel
theorem dX13_isPair_17 : decode cX13_isPair 17 = .ok (.iload_n 2, 1) := by decide +kernel
theorem dX13_isPair_18 : decode cX13_isPair 18 = .ok (.if_icmp .eq 7, 3) := by decide +kernel
theorem dX13_isPair_21 : decode cX13_isPair 21 = .ok (.iconst 1, 1) := by decide +kernel
theorem dX13_isPair_22 : decode cX13_isPair 22 = .ok (.goto 4, 3) := by decide +kernel
theorem dX13_isPair_25 : decode cX13_isPair 25 = .ok (.iconst 0, 1) := by decide +kernel
theorem dX13_isPair_26 : decode cX13_isPair 26 = .ok (.ireturn, 1) := by decide +kernel
theorem dX13_isPlace_0 : decode cX13_isPlace 0 = .ok (.aload_n 0, 1) := by decide +kernel
theorem dX13_isPlace_1 : decode cX13_isPlace 1 = .ok (.iload_n 1, 1) := by decide +kernel
theorem dX13_isPlace_2 : decode cX13_isPlace 2 = .ok (.invokevirtual 444, 3) := by decide +kernel
theorem dX13_isPlace_5 : decode cX13_isPlace 5 = .ok (.ifCond .eq 33, 3) := by decide +kernel
theorem dX13_isPlace_8 : decode cX13_isPlace 8 = .ok (.iload_n 2, 1) := by decide +kernel
theorem dX13_isPlace_9 : decode cX13_isPlace 9 = .ok (.iconst 0, 1) := by decide +kernel
theorem dX13_isPlace_10 : decode cX13_isPlace 10 = .ok (.iconst 1, 1) := by decide +kernel
theorem dX13_isPlace_11 : decode cX13_isPlace 11 = .ok (.invokestatic 138, 3) := by decide +kernel
theorem dX13_isPlace_14 : decode cX13_isPlace 14 = .ok (.ifCond .eq 24, 3) := by decide +kernel
theorem dX13_isPlace_17 : decode cX13_isPlace 17 = .ok (.iload_n 3, 1) := by decide +kernel
theorem dX13_isPlace_18 : decode cX13_isPlace 18 = .ok (.ifCond .lt 20, 3) := by decide +kernel
theorem dX13_isPlace_21 : decode cX13_isPlace 21 = .ok (.iload_n 3, 1) := by decide +kernel
theorem dX13_isPlace_22 : decode cX13_isPlace 22 = .ok (.aload_n 0, 1) := by decide +kernel
theorem dX13_isPlace_23 : decode cX13_isPlace 23 = .ok (.getfield 373, 3) := by decide +kernel
theorem dX13_isPlace_26 : decode cX13_isPlace 26 = .ok (.iload_n 1, 1) := by decide +kernel
theorem dX13_isPlace_27 : decode cX13_isPlace 27 = .ok (.iload_n 2, 1) := by decide +kernel
theorem dX13_isPlace_28 : decode cX13_isPlace 28 = .ok (.invokevirtual 406, 3) := by decide +kernel
theorem dX13_isPlace_31 : decode cX13_isPlace 31 = .ok (.if_icmp .ge 7, 3) := by decide +kernel
theorem dX13_isPlace_34 : decode cX13_isPlace 34 = .ok (.iconst 1, 1) := by decide +kernel
theorem dX13_isPlace_35 : decode cX13_isPlace 35 = .ok (.goto 4, 3) := by decide +kernel
theorem dX13_isPlace_38 : decode cX13_isPlace 38 = .ok (.iconst 0, 1) := by decide +kernel
theorem dX13_isPlace_39 : decode cX13_isPlace 39 = .ok (.ireturn, 1) := by decide +kernel
theorem dX13_refusesPull_0 : decode cX13_refusesPull 0 = .ok (.iload_n 1, 1) := by decide +kernel
theorem dX13_refusesPull_1 : decode cX13_refusesPull 1 = .ok (.ifCond .ne 5, 3) := by decide +kernel
theorem dX13_refusesPull_4 : decode cX13_refusesPull 4 = .ok (.iconst 1, 1) := by decide +kernel
theorem dX13_refusesPull_5 : decode cX13_refusesPull 5 = .ok (.ireturn, 1) := by decide +kernel
theorem dX13_refusesPull_6 : decode cX13_refusesPull 6 = .ok (.iload_n 3, 1) := by decide +kernel
theorem dX13_refusesPull_7 : decode cX13_refusesPull 7 = .ok (.iconst 1, 1) := by decide +kernel
theorem dX13_refusesPull_8 : decode cX13_refusesPull 8 = .ok (.aload_n 0, 1) := by decide +kernel
theorem dX13_refusesPull_9 : decode cX13_refusesPull 9 = .ok (.getfield 373, 3) := by decide +kernel
theorem dX13_refusesPull_12 : decode cX13_refusesPull 12 = .ok (.iload_n 2, 1) := by decide +kernel
theorem dX13_refusesPull_13 : decode cX13_refusesPull 13 = .ok (.iconst 0, 1) := by decide +kernel
theorem dX13_refusesPull_14 : decode cX13_refusesPull 14 = .ok (.invokevirtual 406, 3) := by decide +kernel
theorem dX13_refusesPull_17 : decode cX13_refusesPull 17 = .ok (.invokestatic 138, 3) := by decide +kernel
theorem dX13_refusesPull_20 : decode cX13_refusesPull 20 = .ok (.ifCond .eq 35, 3) := by decide +kernel
theorem dX13_refusesPull_23 : decode cX13_refusesPull 23 = .ok (.iload 4, 2) := by decide +kernel
theorem dX13_refusesPull_25 : decode cX13_refusesPull 25 = .ok (.iconst 1, 1) := by decide +kernel
theorem dX13_refusesPull_26 : decode cX13_refusesPull 26 = .ok (.aload_n 0, 1) := by decide +kernel
theorem dX13_refusesPull_27 : decode cX13_refusesPull 27 = .ok (.getfield 373, 3) := by decide +kernel
theorem dX13_refusesPull_30 : decode cX13_refusesPull 30 = .ok (.iload_n 2, 1) := by decide +kernel
theorem dX13_refusesPull_31 : decode cX13_refusesPull 31 = .ok (.iconst 1, 1) := by decide +kernel
theorem dX13_refusesPull_32 : decode cX13_refusesPull 32 = .ok (.invokevirtual 406, 3) := by decide +kernel
theorem dX13_refusesPull_35 : decode cX13_refusesPull 35 = .ok (.invokestatic 138, 3) := by decide +kernel
theorem dX13_refusesPull_38 : decode cX13_refusesPull 38 = .ok (.ifCond .eq 17, 3) := by decide +kernel
theorem dX13_refusesPull_41 : decode cX13_refusesPull 41 = .ok (.iload 5, 2) := by decide +kernel
theorem dX13_refusesPull_43 : decode cX13_refusesPull 43 = .ok (.iconst 0, 1) := by decide +kernel
theorem dX13_refusesPull_44 : decode cX13_refusesPull 44 = .ok (.iconst 3, 1) := by decide +kernel
theorem dX13_refusesPull_45 : decode cX13_refusesPull 45 = .ok (.invokestatic 138, 3) := by decide +kernel
theorem dX13_refusesPull_48 : decode cX13_refusesPull 48 = .ok (.ifCond .eq 7, 3) := by decide +kernel
theorem dX13_refusesPull_51 : decode cX13_refusesPull 51 = .ok (.iconst 0, 1) := by decide +kernel
theorem dX13_refusesPull_52 : decode cX13_refusesPull 52 = .ok (.goto 4, 3) := by decide +kernel
theorem dX13_refusesPull_55 : decode cX13_refusesPull 55 = .ok (.iconst 2, 1) := by decide +kernel
theorem dX13_refusesPull_56 : decode cX13_refusesPull 56 = .ok (.ireturn, 1) := by decide +kernel
theorem dX13_bone_0 : decode cX13_bone 0 = .ok (.aload_n 0, 1) := by decide +kernel
theorem dX13_bone_1 : decode cX13_bone 1 = .ok (.iconst 0, 1) := by decide +kernel
theorem dX13_bone_2 : decode cX13_bone 2 = .ok (.putfield 53, 3) := by decide +kernel
theorem dX13_bone_5 : decode cX13_bone 5 = .ok (.aload_n 0, 1) := by decide +kernel
theorem dX13_bone_6 : decode cX13_bone 6 = .ok (.iload_n 1, 1) := by decide +kernel
theorem dX13_bone_7 : decode cX13_bone 7 = .ok (.invokevirtual 444, 3) := by decide +kernel
theorem dX13_bone_10 : decode cX13_bone 10 = .ok (.ifCond .eq 12, 3) := by decide +kernel
theorem dX13_bone_13 : decode cX13_bone 13 = .ok (.iload_n 2, 1) := by decide +kernel
theorem dX13_bone_14 : decode cX13_bone 14 = .ok (.iconst 0, 1) := by decide +kernel
theorem dX13_bone_15 : decode cX13_bone 15 = .ok (.iconst 4, 1) := by decide +kernel
theorem dX13_bone_16 : decode cX13_bone 16 = .ok (.invokestatic 138, 3) := by decide +kernel
theorem dX13_bone_19 : decode cX13_bone 19 = .ok (.ifCond .ne 9, 3) := by decide +kernel
theorem dX13_bone_22 : decode cX13_bone 22 = .ok (.aload_n 0, 1) := by decide +kernel
theorem dX13_bone_23 : decode cX13_bone 23 = .ok (.iconst 1, 1) := by decide +kernel
theorem dX13_bone_24 : decode cX13_bone 24 = .ok (.invokevirtual 59, 3) := by decide +kernel
theorem dX13_bone_27 : decode cX13_bone 27 = .ok (.ireturn, 1) := by decide +kernel
theorem dX13_bone_28 : decode cX13_bone 28 = .ok (.iload_n 2, 1) := by decide +kernel
theorem dX13_bone_29 : decode cX13_bone 29 = .ok (.tableswitch 85 0 3 #[31, 44, 57, 71], 31) := by decide +kernel
theorem dX13_bone_60 : decode cX13_bone 60 = .ok (.aload_n 0, 1) := by decide +kernel
theorem dX13_bone_61 : decode cX13_bone 61 = .ok (.aload_n 0, 1) := by decide +kernel
theorem dX13_bone_62 : decode cX13_bone 62 = .ok (.getfield 17, 3) := by decide +kernel
theorem dX13_bone_65 : decode cX13_bone 65 = .ok (.iconst 0, 1) := by decide +kernel
theorem dX13_bone_66 : decode cX13_bone 66 = .ok (.iload_n 1, 1) := by decide +kernel
theorem dX13_bone_67 : decode cX13_bone 67 = .ok (.iadd, 1) := by decide +kernel
theorem dX13_bone_68 : decode cX13_bone 68 = .ok (.iaload, 1) := by decide +kernel
theorem dX13_bone_69 : decode cX13_bone 69 = .ok (.invokevirtual 63, 3) := by decide +kernel
theorem dX13_bone_72 : decode cX13_bone 72 = .ok (.ireturn, 1) := by decide +kernel
theorem dX13_bone_73 : decode cX13_bone 73 = .ok (.aload_n 0, 1) := by decide +kernel
theorem dX13_bone_74 : decode cX13_bone 74 = .ok (.aload_n 0, 1) := by decide +kernel
theorem dX13_bone_75 : decode cX13_bone 75 = .ok (.getfield 17, 3) := by decide +kernel
theorem dX13_bone_78 : decode cX13_bone 78 = .ok (.iconst 5, 1) := by decide +kernel
theorem dX13_bone_79 : decode cX13_bone 79 = .ok (.iload_n 1, 1) := by decide +kernel
theorem dX13_bone_80 : decode cX13_bone 80 = .ok (.iadd, 1) := by decide +kernel
theorem dX13_bone_81 : decode cX13_bone 81 = .ok (.iaload, 1) := by decide +kernel
theorem dX13_bone_82 : decode cX13_bone 82 = .ok (.invokevirtual 63, 3) := by decide +kernel
theorem dX13_bone_85 : decode cX13_bone 85 = .ok (.ireturn, 1) := by decide +kernel
theorem dX13_bone_86 : decode cX13_bone 86 = .ok (.aload_n 0, 1) := by decide +kernel
theorem dX13_bone_87 : decode cX13_bone 87 = .ok (.aload_n 0, 1) := by decide +kernel
theorem dX13_bone_88 : decode cX13_bone 88 = .ok (.getfield 373, 3) := by decide +kernel
theorem dX13_bone_91 : decode cX13_bone 91 = .ok (.iload_n 1, 1) := by decide +kernel
theorem dX13_bone_92 : decode cX13_bone 92 = .ok (.iconst 0, 1) := by decide +kernel
theorem dX13_bone_93 : decode cX13_bone 93 = .ok (.invokevirtual 406, 3) := by decide +kernel
theorem dX13_bone_96 : decode cX13_bone 96 = .ok (.invokevirtual 63, 3) := by decide +kernel
theorem dX13_bone_99 : decode cX13_bone 99 = .ok (.ireturn, 1) := by decide +kernel
theorem dX13_bone_100 : decode cX13_bone 100 = .ok (.aload_n 0, 1) := by decide +kernel
theorem dX13_bone_101 : decode cX13_bone 101 = .ok (.aload_n 0, 1) := by decide +kernel
theorem dX13_bone_102 : decode cX13_bone 102 = .ok (.getfield 373, 3) := by decide +kernel
theorem dX13_bone_105 : decode cX13_bone 105 = .ok (.iload_n 1, 1) := by decide +kernel
theorem dX13_bone_106 : decode cX13_bone 106 = .ok (.iconst 1, 1) := by decide +kernel
theorem dX13_bone_107 : decode cX13_bone 107 = .ok (.invokevirtual 406, 3) := by decide +kernel
theorem dX13_bone_110 : decode cX13_bone 110 = .ok (.invokevirtual 63, 3) := by decide +kernel
theorem dX13_bone_113 : decode cX13_bone 113 = .ok (.ireturn, 1) := by decide +kernel
theorem dX13_bone_114 : decode cX13_bone 114 = .ok (.aload_n 0, 1) := by decide +kernel
theorem dX13_bone_115 : decode cX13_bone 115 = .ok (.aload_n 0, 1) := by decide +kernel
theorem dX13_bone_116 : decode cX13_bone 116 = .ok (.getfield 17, 3) := by decide +kernel
theorem dX13_bone_119 : decode cX13_bone 119 = .ok (.bipush 10, 2) := by decide +kernel
theorem dX13_bone_121 : decode cX13_bone 121 = .ok (.iaload, 1) := by decide +kernel
theorem dX13_bone_122 : decode cX13_bone 122 = .ok (.iload_n 1, 1) := by decide +kernel
theorem dX13_bone_123 : decode cX13_bone 123 = .ok (.ishr, 1) := by decide +kernel
theorem dX13_bone_124 : decode cX13_bone 124 = .ok (.iconst 1, 1) := by decide +kernel
theorem dX13_bone_125 : decode cX13_bone 125 = .ok (.iand, 1) := by decide +kernel
theorem dX13_bone_126 : decode cX13_bone 126 = .ok (.invokevirtual 63, 3) := by decide +kernel
theorem dX13_bone_129 : decode cX13_bone 129 = .ok (.ireturn, 1) := by decide +kernel
theorem dX13_thick_0 : decode cX13_thick 0 = .ok (.aload_n 0, 1) := by decide +kernel
theorem dX13_thick_1 : decode cX13_thick 1 = .ok (.iconst 0, 1) := by decide +kernel
theorem dX13_thick_2 : decode cX13_thick 2 = .ok (.putfield 53, 3) := by decide +kernel
theorem dX13_thick_5 : decode cX13_thick 5 = .ok (.aload_n 0, 1) := by decide +kernel
theorem dX13_thick_6 : decode cX13_thick 6 = .ok (.iload_n 1, 1) := by decide +kernel
theorem dX13_thick_7 : decode cX13_thick 7 = .ok (.iload_n 2, 1) := by decide +kernel
theorem dX13_thick_8 : decode cX13_thick 8 = .ok (.iload_n 3, 1) := by decide +kernel
theorem dX13_thick_9 : decode cX13_thick 9 = .ok (.invokevirtual 446, 3) := by decide +kernel
theorem dX13_thick_12 : decode cX13_thick 12 = .ok (.ifCond .eq 20, 3) := by decide +kernel
theorem dX13_thick_15 : decode cX13_thick 15 = .ok (.aload_n 0, 1) := by decide +kernel
theorem dX13_thick_16 : decode cX13_thick 16 = .ok (.aload_n 0, 1) := by decide +kernel
theorem dX13_thick_17 : decode cX13_thick 17 = .ok (.getfield 373, 3) := by decide +kernel
theorem dX13_thick_20 : decode cX13_thick 20 = .ok (.iload_n 1, 1) := by decide +kernel
theorem dX13_thick_21 : decode cX13_thick 21 = .ok (.iload_n 2, 1) := by decide +kernel
theorem dX13_thick_22 : decode cX13_thick 22 = .ok (.iload_n 3, 1) := by decide +kernel
theorem dX13_thick_23 : decode cX13_thick 23 = .ok (.invokevirtual 400, 3) := by decide +kernel
theorem dX13_thick_26 : decode cX13_thick 26 = .ok (.invokevirtual 63, 3) := by decide +kernel
theorem dX13_thick_29 : decode cX13_thick 29 = .ok (.goto 8, 3) := by decide +kernel
theorem dX13_thick_32 : decode cX13_thick 32 = .ok (.aload_n 0, 1) := by decide +kernel
theorem dX13_thick_33 : decode cX13_thick 33 = .ok (.iconst 1, 1) := by decide +kernel
theorem dX13_thick_34 : decode cX13_thick 34 = .ok (.invokevirtual 59, 3) := by decide +kernel
theorem dX13_thick_37 : decode cX13_thick 37 = .ok (.ireturn, 1) := by decide +kernel
theorem dX13_wonBy_0 : decode cX13_wonBy 0 = .ok (.iconst 0, 1) := by decide +kernel
theorem dX13_wonBy_1 : decode cX13_wonBy 1 = .ok (.istore_n 2, 1) := by decide +kernel
theorem dX13_wonBy_2 : decode cX13_wonBy 2 = .ok (.iconst 0, 1) := by decide +kernel
theorem dX13_wonBy_3 : decode cX13_wonBy 3 = .ok (.istore_n 3, 1) := by decide +kernel
theorem dX13_wonBy_4 : decode cX13_wonBy 4 = .ok (.iload_n 3, 1) := by decide +kernel
theorem dX13_wonBy_5 : decode cX13_wonBy 5 = .ok (.aload_n 0, 1) := by decide +kernel
theorem dX13_wonBy_6 : decode cX13_wonBy 6 = .ok (.getfield 373, 3) := by decide +kernel
theorem dX13_wonBy_9 : decode cX13_wonBy 9 = .ok (.getfield 334, 3) := by decide +kernel
theorem dX13_wonBy_12 : decode cX13_wonBy 12 = .ok (.if_icmp .ge 30, 3) := by decide +kernel
theorem dX13_wonBy_15 : decode cX13_wonBy 15 = .ok (.iload_n 2, 1) := by decide +kernel
theorem dX13_wonBy_16 : decode cX13_wonBy 16 = .ok (.aload_n 0, 1) := by decide +kernel
theorem dX13_wonBy_17 : decode cX13_wonBy 17 = .ok (.getfield 373, 3) := by decide +kernel
theorem dX13_wonBy_20 : decode cX13_wonBy 20 = .ok (.getfield 340, 3) := by decide +kernel
theorem dX13_wonBy_23 : decode cX13_wonBy 23 = .ok (.iload_n 3, 1) := by decide +kernel
theorem dX13_wonBy_24 : decode cX13_wonBy 24 = .ok (.iaload, 1) := by decide +kernel
theorem dX13_wonBy_25 : decode cX13_wonBy 25 = .ok (.iload_n 1, 1) := by decide +kernel
theorem dX13_wonBy_26 : decode cX13_wonBy 26 = .ok (.if_icmp .ne 7, 3) := by decide +kernel
theorem dX13_wonBy_29 : decode cX13_wonBy 29 = .ok (.iconst 1, 1) := by decide +kernel
theorem dX13_wonBy_30 : decode cX13_wonBy 30 = .ok (.goto 4, 3) := by decide +kernel
theorem dX13_wonBy_33 : decode cX13_wonBy 33 = .ok (.iconst 0, 1) := by decide +kernel
theorem dX13_wonBy_34 : decode cX13_wonBy 34 = .ok (.iadd, 1) := by decide +kernel
theorem dX13_wonBy_35 : decode cX13_wonBy 35 = .ok (.istore_n 2, 1) := by decide +kernel
theorem dX13_wonBy_36 : decode cX13_wonBy 36 = .ok (.iinc 3 1, 3) := by decide +kernel
theorem dX13_wonBy_39 : decode cX13_wonBy 39 = .ok (.goto (-35), 3) := by decide +kernel
theorem dX13_wonBy_42 : decode cX13_wonBy 42 = .ok (.iload_n 2, 1) := by decide +kernel
theorem dX13_wonBy_43 : decode cX13_wonBy 43 = .ok (.ireturn, 1) := by decide +kernel
theorem dX13_pullsOf_0 : decode cX13_pullsOf 0 = .ok (.aload_n 0, 1) := by decide +kernel
theorem dX13_pullsOf_1 : decode cX13_pullsOf 1 = .ok (.iload_n 1, 1) := by decide +kernel
theorem dX13_pullsOf_2 : decode cX13_pullsOf 2 = .ok (.invokevirtual 449, 3) := by decide +kernel
theorem dX13_pullsOf_5 : decode cX13_pullsOf 5 = .ok (.istore_n 2, 1) := by decide +kernel
theorem dX13_pullsOf_6 : decode cX13_pullsOf 6 = .ok (.iconst 0, 1) := by decide +kernel
theorem dX13_pullsOf_7 : decode cX13_pullsOf 7 = .ok (.istore_n 3, 1) := by decide +kernel
theorem dX13_pullsOf_8 : decode cX13_pullsOf 8 = .ok (.iload_n 3, 1) := by decide +kernel
theorem dX13_pullsOf_9 : decode cX13_pullsOf 9 = .ok (.aload_n 0, 1) := by decide +kernel
theorem dX13_pullsOf_10 : decode cX13_pullsOf 10 = .ok (.getfield 373, 3) := by decide +kernel
theorem dX13_pullsOf_13 : decode cX13_pullsOf 13 = .ok (.getfield 334, 3) := by decide +kernel
theorem dX13_pullsOf_16 : decode cX13_pullsOf 16 = .ok (.if_icmp .ge 30, 3) := by decide +kernel
theorem dX13_pullsOf_19 : decode cX13_pullsOf 19 = .ok (.iload_n 2, 1) := by decide +kernel
theorem dX13_pullsOf_20 : decode cX13_pullsOf 20 = .ok (.aload_n 0, 1) := by decide +kernel
theorem dX13_pullsOf_21 : decode cX13_pullsOf 21 = .ok (.getfield 373, 3) := by decide +kernel
theorem dX13_pullsOf_24 : decode cX13_pullsOf 24 = .ok (.getfield 343, 3) := by decide +kernel
theorem dX13_pullsOf_27 : decode cX13_pullsOf 27 = .ok (.iload_n 3, 1) := by decide +kernel
theorem dX13_pullsOf_28 : decode cX13_pullsOf 28 = .ok (.iaload, 1) := by decide +kernel
theorem dX13_pullsOf_29 : decode cX13_pullsOf 29 = .ok (.iload_n 1, 1) := by decide +kernel
theorem dX13_pullsOf_30 : decode cX13_pullsOf 30 = .ok (.if_icmp .ne 7, 3) := by decide +kernel
theorem dX13_pullsOf_33 : decode cX13_pullsOf 33 = .ok (.iconst 1, 1) := by decide +kernel
theorem dX13_pullsOf_34 : decode cX13_pullsOf 34 = .ok (.goto 4, 3) := by decide +kernel
theorem dX13_pullsOf_37 : decode cX13_pullsOf 37 = .ok (.iconst 0, 1) := by decide +kernel
theorem dX13_pullsOf_38 : decode cX13_pullsOf 38 = .ok (.iadd, 1) := by decide +kernel
theorem dX13_pullsOf_39 : decode cX13_pullsOf 39 = .ok (.istore_n 2, 1) := by decide +kernel
theorem dX13_pullsOf_40 : decode cX13_pullsOf 40 = .ok (.iinc 3 1, 3) := by decide +kernel
theorem dX13_pullsOf_43 : decode cX13_pullsOf 43 = .ok (.goto (-35), 3) := by decide +kernel
theorem dX13_pullsOf_46 : decode cX13_pullsOf 46 = .ok (.iload_n 2, 1) := by decide +kernel
theorem dX13_pullsOf_47 : decode cX13_pullsOf 47 = .ok (.ireturn, 1) := by decide +kernel
theorem dX13_person_0 : decode cX13_person 0 = .ok (.aload_n 0, 1) := by decide +kernel
theorem dX13_person_1 : decode cX13_person 1 = .ok (.iconst 0, 1) := by decide +kernel
theorem dX13_person_2 : decode cX13_person 2 = .ok (.putfield 53, 3) := by decide +kernel
theorem dX13_person_5 : decode cX13_person 5 = .ok (.aload_n 0, 1) := by decide +kernel
theorem dX13_person_6 : decode cX13_person 6 = .ok (.iload_n 1, 1) := by decide +kernel
theorem dX13_person_7 : decode cX13_person 7 = .ok (.invokevirtual 441, 3) := by decide +kernel
theorem dX13_person_10 : decode cX13_person 10 = .ok (.ifCond .eq 13, 3) := by decide +kernel
theorem dX13_person_13 : decode cX13_person 13 = .ok (.iload_n 2, 1) := by decide +kernel
theorem dX13_person_14 : decode cX13_person 14 = .ok (.iconst 0, 1) := by decide +kernel
theorem dX13_person_15 : decode cX13_person 15 = .ok (.bipush 6, 2) := by decide +kernel
theorem dX13_person_17 : decode cX13_person 17 = .ok (.invokestatic 138, 3) := by decide +kernel
theorem dX13_person_20 : decode cX13_person 20 = .ok (.ifCond .ne 9, 3) := by decide +kernel
theorem dX13_person_23 : decode cX13_person 23 = .ok (.aload_n 0, 1) := by decide +kernel
theorem dX13_person_24 : decode cX13_person 24 = .ok (.iconst 1, 1) := by decide +kernel
theorem dX13_person_25 : decode cX13_person 25 = .ok (.invokevirtual 59, 3) := by decide +kernel
theorem dX13_person_28 : decode cX13_person 28 = .ok (.ireturn, 1) := by decide +kernel
theorem dX13_person_29 : decode cX13_person 29 = .ok (.iload_n 2, 1) := by decide +kernel
theorem dX13_person_30 : decode cX13_person 30 = .ok (.tableswitch 114 0 5 #[38, 52, 66, 80, 94, 104], 38) := by decide +kernel
theorem dX13_person_68 : decode cX13_person 68 = .ok (.aload_n 0, 1) := by decide +kernel
theorem dX13_person_69 : decode cX13_person 69 = .ok (.aload_n 0, 1) := by decide +kernel
theorem dX13_person_70 : decode cX13_person 70 = .ok (.getfield 373, 3) := by decide +kernel
theorem dX13_person_73 : decode cX13_person 73 = .ok (.getfield 307, 3) := by decide +kernel
theorem dX13_person_76 : decode cX13_person 76 = .ok (.iload_n 1, 1) := by decide +kernel
theorem dX13_person_77 : decode cX13_person 77 = .ok (.iaload, 1) := by decide +kernel
theorem dX13_person_78 : decode cX13_person 78 = .ok (.invokevirtual 63, 3) := by decide +kernel
theorem dX13_person_81 : decode cX13_person 81 = .ok (.ireturn, 1) := by decide +kernel
theorem dX13_person_82 : decode cX13_person 82 = .ok (.aload_n 0, 1) := by decide +kernel
theorem dX13_person_83 : decode cX13_person 83 = .ok (.aload_n 0, 1) := by decide +kernel
theorem dX13_person_84 : decode cX13_person 84 = .ok (.getfield 373, 3) := by decide +kernel
theorem dX13_person_87 : decode cX13_person 87 = .ok (.getfield 310, 3) := by decide +kernel
theorem dX13_person_90 : decode cX13_person 90 = .ok (.iload_n 1, 1) := by decide +kernel
theorem dX13_person_91 : decode cX13_person 91 = .ok (.iaload, 1) := by decide +kernel
theorem dX13_person_92 : decode cX13_person 92 = .ok (.invokevirtual 63, 3) := by decide +kernel
theorem dX13_person_95 : decode cX13_person 95 = .ok (.ireturn, 1) := by decide +kernel
theorem dX13_person_96 : decode cX13_person 96 = .ok (.aload_n 0, 1) := by decide +kernel
theorem dX13_person_97 : decode cX13_person 97 = .ok (.aload_n 0, 1) := by decide +kernel
theorem dX13_person_98 : decode cX13_person 98 = .ok (.getfield 373, 3) := by decide +kernel
theorem dX13_person_101 : decode cX13_person 101 = .ok (.getfield 312, 3) := by decide +kernel
theorem dX13_person_104 : decode cX13_person 104 = .ok (.iload_n 1, 1) := by decide +kernel
theorem dX13_person_105 : decode cX13_person 105 = .ok (.iaload, 1) := by decide +kernel
theorem dX13_person_106 : decode cX13_person 106 = .ok (.invokevirtual 63, 3) := by decide +kernel
theorem dX13_person_109 : decode cX13_person 109 = .ok (.ireturn, 1) := by decide +kernel
theorem dX13_person_110 : decode cX13_person 110 = .ok (.aload_n 0, 1) := by decide +kernel
theorem dX13_person_111 : decode cX13_person 111 = .ok (.aload_n 0, 1) := by decide +kernel
theorem dX13_person_112 : decode cX13_person 112 = .ok (.getfield 373, 3) := by decide +kernel
theorem dX13_person_115 : decode cX13_person 115 = .ok (.getfield 314, 3) := by decide +kernel
theorem dX13_person_118 : decode cX13_person 118 = .ok (.iload_n 1, 1) := by decide +kernel
theorem dX13_person_119 : decode cX13_person 119 = .ok (.iaload, 1) := by decide +kernel
theorem dX13_person_120 : decode cX13_person 120 = .ok (.invokevirtual 63, 3) := by decide +kernel
theorem dX13_person_123 : decode cX13_person 123 = .ok (.ireturn, 1) := by decide +kernel
theorem dX13_person_124 : decode cX13_person 124 = .ok (.aload_n 0, 1) := by decide +kernel
theorem dX13_person_125 : decode cX13_person 125 = .ok (.aload_n 0, 1) := by decide +kernel
theorem dX13_person_126 : decode cX13_person 126 = .ok (.iload_n 1, 1) := by decide +kernel
theorem dX13_person_127 : decode cX13_person 127 = .ok (.invokevirtual 452, 3) := by decide +kernel
theorem dX13_person_130 : decode cX13_person 130 = .ok (.invokevirtual 63, 3) := by decide +kernel
theorem dX13_person_133 : decode cX13_person 133 = .ok (.ireturn, 1) := by decide +kernel
theorem dX13_person_134 : decode cX13_person 134 = .ok (.aload_n 0, 1) := by decide +kernel
theorem dX13_person_135 : decode cX13_person 135 = .ok (.aload_n 0, 1) := by decide +kernel
theorem dX13_person_136 : decode cX13_person 136 = .ok (.iload_n 1, 1) := by decide +kernel
theorem dX13_person_137 : decode cX13_person 137 = .ok (.invokevirtual 449, 3) := by decide +kernel
theorem dX13_person_140 : decode cX13_person 140 = .ok (.invokevirtual 63, 3) := by decide +kernel
theorem dX13_person_143 : decode cX13_person 143 = .ok (.ireturn, 1) := by decide +kernel
theorem dX13_person_144 : decode cX13_person 144 = .ok (.aload_n 0, 1) := by decide +kernel
theorem dX13_person_145 : decode cX13_person 145 = .ok (.aload_n 0, 1) := by decide +kernel
theorem dX13_person_146 : decode cX13_person 146 = .ok (.getfield 17, 3) := by decide +kernel
theorem dX13_person_149 : decode cX13_person 149 = .ok (.bipush 11, 2) := by decide +kernel
theorem dX13_person_151 : decode cX13_person 151 = .ok (.iload_n 1, 1) := by decide +kernel
theorem dX13_person_152 : decode cX13_person 152 = .ok (.iadd, 1) := by decide +kernel
theorem dX13_person_153 : decode cX13_person 153 = .ok (.iaload, 1) := by decide +kernel
theorem dX13_person_154 : decode cX13_person 154 = .ok (.invokevirtual 63, 3) := by decide +kernel
theorem dX13_person_157 : decode cX13_person 157 = .ok (.ireturn, 1) := by decide +kernel
theorem dX13_strength_0 : decode cX13_strength 0 = .ok (.aload_n 0, 1) := by decide +kernel
theorem dX13_strength_1 : decode cX13_strength 1 = .ok (.iconst 0, 1) := by decide +kernel
theorem dX13_strength_2 : decode cX13_strength 2 = .ok (.putfield 53, 3) := by decide +kernel
theorem dX13_strength_5 : decode cX13_strength 5 = .ok (.aload_n 0, 1) := by decide +kernel
theorem dX13_strength_6 : decode cX13_strength 6 = .ok (.iload_n 1, 1) := by decide +kernel
theorem dX13_strength_7 : decode cX13_strength 7 = .ok (.iload_n 2, 1) := by decide +kernel
theorem dX13_strength_8 : decode cX13_strength 8 = .ok (.iload_n 3, 1) := by decide +kernel
theorem dX13_strength_9 : decode cX13_strength 9 = .ok (.invokevirtual 446, 3) := by decide +kernel
theorem dX13_strength_12 : decode cX13_strength 12 = .ok (.ifCond .eq 12, 3) := by decide +kernel
theorem dX13_strength_15 : decode cX13_strength 15 = .ok (.aload_n 0, 1) := by decide +kernel
theorem dX13_strength_16 : decode cX13_strength 16 = .ok (.iload 4, 2) := by decide +kernel
theorem dX13_strength_18 : decode cX13_strength 18 = .ok (.invokevirtual 441, 3) := by decide +kernel
theorem dX13_strength_21 : decode cX13_strength 21 = .ok (.ifCond .ne 9, 3) := by decide +kernel
theorem dX13_strength_24 : decode cX13_strength 24 = .ok (.aload_n 0, 1) := by decide +kernel
theorem dX13_strength_25 : decode cX13_strength 25 = .ok (.iconst 1, 1) := by decide +kernel
theorem dX13_strength_26 : decode cX13_strength 26 = .ok (.invokevirtual 59, 3) := by decide +kernel
theorem dX13_strength_29 : decode cX13_strength 29 = .ok (.ireturn, 1) := by decide +kernel
theorem dX13_strength_30 : decode cX13_strength 30 = .ok (.aload_n 0, 1) := by decide +kernel
theorem dX13_strength_31 : decode cX13_strength 31 = .ok (.iload_n 1, 1) := by decide +kernel
theorem dX13_strength_32 : decode cX13_strength 32 = .ok (.iload 4, 2) := by decide +kernel
theorem dX13_strength_34 : decode cX13_strength 34 = .ok (.iconst 1, 1) := by decide +kernel
theorem dX13_strength_35 : decode cX13_strength 35 = .ok (.iload 4, 2) := by decide +kernel
theorem dX13_strength_37 : decode cX13_strength 37 = .ok (.iconst 1, 1) := by decide +kernel
theorem dX13_strength_38 : decode cX13_strength 38 = .ok (.iconst 2, 1) := by decide +kernel
theorem dX13_strength_39 : decode cX13_strength 39 = .ok (.invokevirtual 396, 3) := by decide +kernel
theorem dX13_strength_42 : decode cX13_strength 42 = .ok (.aload_n 0, 1) := by decide +kernel
theorem dX13_strength_43 : decode cX13_strength 43 = .ok (.aload_n 0, 1) := by decide +kernel
theorem dX13_strength_44 : decode cX13_strength 44 = .ok (.iload_n 2, 1) := by decide +kernel
theorem dX13_strength_45 : decode cX13_strength 45 = .ok (.iload_n 3, 1) := by decide +kernel
theorem dX13_strength_46 : decode cX13_strength 46 = .ok (.invokevirtual 412, 3) := by decide +kernel
theorem dX13_strength_49 : decode cX13_strength 49 = .ok (.invokevirtual 63, 3) := by decide +kernel
theorem dX13_strength_52 : decode cX13_strength 52 = .ok (.ireturn, 1) := by decide +kernel
theorem dX13_strain_0 : decode cX13_strain 0 = .ok (.aload_n 0, 1) := by decide +kernel
theorem dX13_strain_1 : decode cX13_strain 1 = .ok (.iconst 0, 1) := by decide +kernel
theorem dX13_strain_2 : decode cX13_strain 2 = .ok (.putfield 53, 3) := by decide +kernel
theorem dX13_strain_5 : decode cX13_strain 5 = .ok (.aload_n 0, 1) := by decide +kernel
theorem dX13_strain_6 : decode cX13_strain 6 = .ok (.aload_n 0, 1) := by decide +kernel
theorem dX13_strain_7 : decode cX13_strain 7 = .ok (.iload_n 1, 1) := by decide +kernel
theorem dX13_strain_8 : decode cX13_strain 8 = .ok (.iload_n 2, 1) := by decide +kernel
theorem dX13_strain_9 : decode cX13_strain 9 = .ok (.iload_n 3, 1) := by decide +kernel
theorem dX13_strain_10 : decode cX13_strain 10 = .ok (.invokevirtual 446, 3) := by decide +kernel
theorem dX13_strain_13 : decode cX13_strain 13 = .ok (.ifCond .eq 18, 3) := by decide +kernel
theorem dX13_strain_16 : decode cX13_strain 16 = .ok (.aload_n 0, 1) := by decide +kernel
theorem dX13_strain_17 : decode cX13_strain 17 = .ok (.iload 4, 2) := by decide +kernel
theorem dX13_strain_19 : decode cX13_strain 19 = .ok (.iload 6, 2) := by decide +kernel
theorem dX13_strain_21 : decode cX13_strain 21 = .ok (.invokevirtual 455, 3) := by decide +kernel
theorem dX13_strain_24 : decode cX13_strain 24 = .ok (.ifCond .eq 7, 3) := by decide +kernel
theorem dX13_strain_27 : decode cX13_strain 27 = .ok (.iconst 1, 1) := by decide +kernel
theorem dX13_strain_28 : decode cX13_strain 28 = .ok (.goto 4, 3) := by decide +kernel
theorem dX13_strain_31 : decode cX13_strain 31 = .ok (.iconst 0, 1) := by decide +kernel
theorem dX13_strain_32 : decode cX13_strain 32 = .ok (.iload_n 1, 1) := by decide +kernel
theorem dX13_strain_33 : decode cX13_strain 33 = .ok (.iload 5, 2) := by decide +kernel
theorem dX13_strain_35 : decode cX13_strain 35 = .ok (.iload 7, 2) := by decide +kernel
theorem dX13_strain_37 : decode cX13_strain 37 = .ok (.iload 8, 2) := by decide +kernel
theorem dX13_strain_39 : decode cX13_strain 39 = .ok (.invokevirtual 458, 3) := by decide +kernel
theorem dX13_strain_42 : decode cX13_strain 42 = .ok (.istore 9, 2) := by decide +kernel
theorem dX13_strain_44 : decode cX13_strain 44 = .ok (.iload 9, 2) := by decide +kernel
theorem dX13_strain_46 : decode cX13_strain 46 = .ok (.ifCond .le 10, 3) := by decide +kernel
theorem dX13_strain_49 : decode cX13_strain 49 = .ok (.aload_n 0, 1) := by decide +kernel
theorem dX13_strain_50 : decode cX13_strain 50 = .ok (.iload 9, 2) := by decide +kernel
theorem dX13_strain_52 : decode cX13_strain 52 = .ok (.invokevirtual 59, 3) := by decide +kernel
theorem dX13_strain_55 : decode cX13_strain 55 = .ok (.ireturn, 1) := by decide +kernel
theorem dX13_strain_56 : decode cX13_strain 56 = .ok (.aload_n 0, 1) := by decide +kernel
theorem dX13_strain_57 : decode cX13_strain 57 = .ok (.iload_n 1, 1) := by decide +kernel
theorem dX13_strain_58 : decode cX13_strain 58 = .ok (.iload 4, 2) := by decide +kernel
theorem dX13_strain_60 : decode cX13_strain 60 = .ok (.iload 5, 2) := by decide +kernel
theorem dX13_strain_62 : decode cX13_strain 62 = .ok (.iload 6, 2) := by decide +kernel
theorem dX13_strain_64 : decode cX13_strain 64 = .ok (.iload 7, 2) := by decide +kernel
theorem dX13_strain_66 : decode cX13_strain 66 = .ok (.iload 8, 2) := by decide +kernel
theorem dX13_strain_68 : decode cX13_strain 68 = .ok (.invokevirtual 396, 3) := by decide +kernel
theorem dX13_strain_71 : decode cX13_strain 71 = .ok (.aload_n 0, 1) := by decide +kernel
theorem dX13_strain_72 : decode cX13_strain 72 = .ok (.aload_n 0, 1) := by decide +kernel
theorem dX13_strain_73 : decode cX13_strain 73 = .ok (.iload_n 2, 1) := by decide +kernel
theorem dX13_strain_74 : decode cX13_strain 74 = .ok (.iload_n 3, 1) := by decide +kernel
theorem dX13_strain_75 : decode cX13_strain 75 = .ok (.invokevirtual 409, 3) := by decide +kernel
theorem dX13_strain_78 : decode cX13_strain 78 = .ok (.invokevirtual 63, 3) := by decide +kernel
theorem dX13_strain_81 : decode cX13_strain 81 = .ok (.ireturn, 1) := by decide +kernel
theorem dX13_pulled_0 : decode cX13_pulled 0 = .ok (.aload_n 0, 1) := by decide +kernel
theorem dX13_pulled_1 : decode cX13_pulled 1 = .ok (.iconst 0, 1) := by decide +kernel
theorem dX13_pulled_2 : decode cX13_pulled 2 = .ok (.putfield 53, 3) := by decide +kernel
theorem dX13_pulled_5 : decode cX13_pulled 5 = .ok (.aload_n 0, 1) := by decide +kernel
theorem dX13_pulled_6 : decode cX13_pulled 6 = .ok (.aload_n 0, 1) := by decide +kernel
theorem dX13_pulled_7 : decode cX13_pulled 7 = .ok (.iload_n 1, 1) := by decide +kernel
theorem dX13_pulled_8 : decode cX13_pulled 8 = .ok (.invokevirtual 444, 3) := by decide +kernel
theorem dX13_pulled_11 : decode cX13_pulled 11 = .ok (.ifCond .eq 17, 3) := by decide +kernel
theorem dX13_pulled_14 : decode cX13_pulled 14 = .ok (.aload_n 0, 1) := by decide +kernel
theorem dX13_pulled_15 : decode cX13_pulled 15 = .ok (.iload_n 2, 1) := by decide +kernel
theorem dX13_pulled_16 : decode cX13_pulled 16 = .ok (.iload 4, 2) := by decide +kernel
theorem dX13_pulled_18 : decode cX13_pulled 18 = .ok (.invokevirtual 455, 3) := by decide +kernel
theorem dX13_pulled_21 : decode cX13_pulled 21 = .ok (.ifCond .eq 7, 3) := by decide +kernel
theorem dX13_pulled_24 : decode cX13_pulled 24 = .ok (.iconst 1, 1) := by decide +kernel
theorem dX13_pulled_25 : decode cX13_pulled 25 = .ok (.goto 4, 3) := by decide +kernel
theorem dX13_pulled_28 : decode cX13_pulled 28 = .ok (.iconst 0, 1) := by decide +kernel
theorem dX13_pulled_29 : decode cX13_pulled 29 = .ok (.iload_n 1, 1) := by decide +kernel
theorem dX13_pulled_30 : decode cX13_pulled 30 = .ok (.iload_n 3, 1) := by decide +kernel
theorem dX13_pulled_31 : decode cX13_pulled 31 = .ok (.iload 5, 2) := by decide +kernel
theorem dX13_pulled_33 : decode cX13_pulled 33 = .ok (.iload 6, 2) := by decide +kernel
theorem dX13_pulled_35 : decode cX13_pulled 35 = .ok (.invokevirtual 458, 3) := by decide +kernel
theorem dX13_pulled_38 : decode cX13_pulled 38 = .ok (.istore 7, 2) := by decide +kernel
theorem dX13_pulled_40 : decode cX13_pulled 40 = .ok (.iload 7, 2) := by decide +kernel
theorem dX13_pulled_42 : decode cX13_pulled 42 = .ok (.ifCond .le 10, 3) := by decide +kernel
theorem dX13_pulled_45 : decode cX13_pulled 45 = .ok (.aload_n 0, 1) := by decide +kernel
theorem dX13_pulled_46 : decode cX13_pulled 46 = .ok (.iload 7, 2) := by decide +kernel
theorem dX13_pulled_48 : decode cX13_pulled 48 = .ok (.invokevirtual 59, 3) := by decide +kernel
theorem dX13_pulled_51 : decode cX13_pulled 51 = .ok (.ireturn, 1) := by decide +kernel
theorem dX13_pulled_52 : decode cX13_pulled 52 = .ok (.aload_n 0, 1) := by decide +kernel
theorem dX13_pulled_53 : decode cX13_pulled 53 = .ok (.iload_n 1, 1) := by decide +kernel
theorem dX13_pulled_54 : decode cX13_pulled 54 = .ok (.iload_n 2, 1) := by decide +kernel
theorem dX13_pulled_55 : decode cX13_pulled 55 = .ok (.iload_n 3, 1) := by decide +kernel
theorem dX13_pulled_56 : decode cX13_pulled 56 = .ok (.iload 4, 2) := by decide +kernel
theorem dX13_pulled_58 : decode cX13_pulled 58 = .ok (.iload 5, 2) := by decide +kernel
theorem dX13_pulled_60 : decode cX13_pulled 60 = .ok (.iload 6, 2) := by decide +kernel
theorem dX13_pulled_62 : decode cX13_pulled 62 = .ok (.invokevirtual 396, 3) := by decide +kernel
theorem dX13_pulled_65 : decode cX13_pulled 65 = .ok (.aload_n 0, 1) := by decide +kernel
theorem dX13_pulled_66 : decode cX13_pulled 66 = .ok (.aload_n 0, 1) := by decide +kernel
theorem dX13_pulled_67 : decode cX13_pulled 67 = .ok (.invokevirtual 433, 3) := by decide +kernel
theorem dX13_pulled_70 : decode cX13_pulled 70 = .ok (.invokevirtual 63, 3) := by decide +kernel
theorem dX13_pulled_73 : decode cX13_pulled 73 = .ok (.ireturn, 1) := by decide +kernel
theorem dX13_breaksAt_0 : decode cX13_breaksAt 0 = .ok (.aload_n 0, 1) := by decide +kernel
theorem dX13_breaksAt_1 : decode cX13_breaksAt 1 = .ok (.iconst 0, 1) := by decide +kernel
theorem dX13_breaksAt_2 : decode cX13_breaksAt 2 = .ok (.putfield 53, 3) := by decide +kernel
theorem dX13_breaksAt_5 : decode cX13_breaksAt 5 = .ok (.aload_n 0, 1) := by decide +kernel
theorem dX13_breaksAt_6 : decode cX13_breaksAt 6 = .ok (.aload_n 0, 1) := by decide +kernel
theorem dX13_breaksAt_7 : decode cX13_breaksAt 7 = .ok (.iload_n 1, 1) := by decide +kernel
theorem dX13_breaksAt_8 : decode cX13_breaksAt 8 = .ok (.invokevirtual 444, 3) := by decide +kernel
theorem dX13_breaksAt_11 : decode cX13_breaksAt 11 = .ok (.ifCond .eq 17, 3) := by decide +kernel
theorem dX13_breaksAt_14 : decode cX13_breaksAt 14 = .ok (.aload_n 0, 1) := by decide +kernel
theorem dX13_breaksAt_15 : decode cX13_breaksAt 15 = .ok (.iload_n 2, 1) := by decide +kernel
theorem dX13_breaksAt_16 : decode cX13_breaksAt 16 = .ok (.iload 4, 2) := by decide +kernel
theorem dX13_breaksAt_18 : decode cX13_breaksAt 18 = .ok (.invokevirtual 455, 3) := by decide +kernel
theorem dX13_breaksAt_21 : decode cX13_breaksAt 21 = .ok (.ifCond .eq 7, 3) := by decide +kernel
theorem dX13_breaksAt_24 : decode cX13_breaksAt 24 = .ok (.iconst 1, 1) := by decide +kernel
theorem dX13_breaksAt_25 : decode cX13_breaksAt 25 = .ok (.goto 4, 3) := by decide +kernel
theorem dX13_breaksAt_28 : decode cX13_breaksAt 28 = .ok (.iconst 0, 1) := by decide +kernel
theorem dX13_breaksAt_29 : decode cX13_breaksAt 29 = .ok (.iload_n 1, 1) := by decide +kernel
theorem dX13_breaksAt_30 : decode cX13_breaksAt 30 = .ok (.iload_n 3, 1) := by decide +kernel
theorem dX13_breaksAt_31 : decode cX13_breaksAt 31 = .ok (.iload 5, 2) := by decide +kernel
theorem dX13_breaksAt_33 : decode cX13_breaksAt 33 = .ok (.iload 6, 2) := by decide +kernel
theorem dX13_breaksAt_35 : decode cX13_breaksAt 35 = .ok (.invokevirtual 458, 3) := by decide +kernel
theorem dX13_breaksAt_38 : decode cX13_breaksAt 38 = .ok (.istore 7, 2) := by decide +kernel
theorem dX13_breaksAt_40 : decode cX13_breaksAt 40 = .ok (.iload 7, 2) := by decide +kernel
theorem dX13_breaksAt_42 : decode cX13_breaksAt 42 = .ok (.ifCond .le 10, 3) := by decide +kernel
theorem dX13_breaksAt_45 : decode cX13_breaksAt 45 = .ok (.aload_n 0, 1) := by decide +kernel
theorem dX13_breaksAt_46 : decode cX13_breaksAt 46 = .ok (.iload 7, 2) := by decide +kernel
theorem dX13_breaksAt_48 : decode cX13_breaksAt 48 = .ok (.invokevirtual 59, 3) := by decide +kernel
theorem dX13_breaksAt_51 : decode cX13_breaksAt 51 = .ok (.ireturn, 1) := by decide +kernel
theorem dX13_breaksAt_52 : decode cX13_breaksAt 52 = .ok (.aload_n 0, 1) := by decide +kernel
theorem dX13_breaksAt_53 : decode cX13_breaksAt 53 = .ok (.iload_n 1, 1) := by decide +kernel
theorem dX13_breaksAt_54 : decode cX13_breaksAt 54 = .ok (.iload_n 2, 1) := by decide +kernel
theorem dX13_breaksAt_55 : decode cX13_breaksAt 55 = .ok (.iload_n 3, 1) := by decide +kernel
theorem dX13_breaksAt_56 : decode cX13_breaksAt 56 = .ok (.iload 4, 2) := by decide +kernel
theorem dX13_breaksAt_58 : decode cX13_breaksAt 58 = .ok (.iload 5, 2) := by decide +kernel
theorem dX13_breaksAt_60 : decode cX13_breaksAt 60 = .ok (.iload 6, 2) := by decide +kernel
theorem dX13_breaksAt_62 : decode cX13_breaksAt 62 = .ok (.invokevirtual 396, 3) := by decide +kernel
theorem dX13_breaksAt_65 : decode cX13_breaksAt 65 = .ok (.aload_n 0, 1) := by decide +kernel
theorem dX13_breaksAt_66 : decode cX13_breaksAt 66 = .ok (.invokevirtual 433, 3) := by decide +kernel
theorem dX13_breaksAt_69 : decode cX13_breaksAt 69 = .ok (.pop, 1) := by decide +kernel
theorem dX13_breaksAt_70 : decode cX13_breaksAt 70 = .ok (.aload_n 0, 1) := by decide +kernel
theorem dX13_breaksAt_71 : decode cX13_breaksAt 71 = .ok (.aload_n 0, 1) := by decide +kernel
theorem dX13_breaksAt_72 : decode cX13_breaksAt 72 = .ok (.getfield 419, 3) := by decide +kernel
theorem dX13_breaksAt_75 : decode cX13_breaksAt 75 = .ok (.iconst (-1), 1) := by decide +kernel
theorem dX13_breaksAt_76 : decode cX13_breaksAt 76 = .ok (.if_icmp .ne 8, 3) := by decide +kernel
theorem dX13_breaksAt_79 : decode cX13_breaksAt 79 = .ok (.bipush (-2), 2) := by decide +kernel
theorem dX13_breaksAt_81 : decode cX13_breaksAt 81 = .ok (.goto 15, 3) := by decide +kernel
theorem dX13_breaksAt_84 : decode cX13_breaksAt 84 = .ok (.bipush 10, 2) := by decide +kernel
theorem dX13_breaksAt_86 : decode cX13_breaksAt 86 = .ok (.aload_n 0, 1) := by decide +kernel
theorem dX13_breaksAt_87 : decode cX13_breaksAt 87 = .ok (.getfield 419, 3) := by decide +kernel
theorem dX13_breaksAt_90 : decode cX13_breaksAt 90 = .ok (.imul, 1) := by decide +kernel
theorem dX13_breaksAt_91 : decode cX13_breaksAt 91 = .ok (.aload_n 0, 1) := by decide +kernel
theorem dX13_breaksAt_92 : decode cX13_breaksAt 92 = .ok (.getfield 427, 3) := by decide +kernel
theorem dX13_breaksAt_95 : decode cX13_breaksAt 95 = .ok (.iadd, 1) := by decide +kernel
theorem dX13_breaksAt_96 : decode cX13_breaksAt 96 = .ok (.invokevirtual 63, 3) := by decide +kernel
theorem dX13_breaksAt_99 : decode cX13_breaksAt 99 = .ok (.ireturn, 1) := by decide +kernel
theorem dX13_flawed_0 : decode cX13_flawed 0 = .ok (.aload_n 0, 1) := by decide +kernel
theorem dX13_flawed_1 : decode cX13_flawed 1 = .ok (.iconst 0, 1) := by decide +kernel
theorem dX13_flawed_2 : decode cX13_flawed 2 = .ok (.putfield 53, 3) := by decide +kernel
theorem dX13_flawed_5 : decode cX13_flawed 5 = .ok (.aload_n 0, 1) := by decide +kernel
theorem dX13_flawed_6 : decode cX13_flawed 6 = .ok (.aload_n 0, 1) := by decide +kernel
theorem dX13_flawed_7 : decode cX13_flawed 7 = .ok (.iload_n 1, 1) := by decide +kernel
theorem dX13_flawed_8 : decode cX13_flawed 8 = .ok (.iload 7, 2) := by decide +kernel
theorem dX13_flawed_10 : decode cX13_flawed 10 = .ok (.iload 8, 2) := by decide +kernel
theorem dX13_flawed_12 : decode cX13_flawed 12 = .ok (.invokevirtual 446, 3) := by decide +kernel
theorem dX13_flawed_15 : decode cX13_flawed 15 = .ok (.ifCond .eq 17, 3) := by decide +kernel
theorem dX13_flawed_18 : decode cX13_flawed 18 = .ok (.aload_n 0, 1) := by decide +kernel
theorem dX13_flawed_19 : decode cX13_flawed 19 = .ok (.iload_n 2, 1) := by decide +kernel
theorem dX13_flawed_20 : decode cX13_flawed 20 = .ok (.iload 4, 2) := by decide +kernel
theorem dX13_flawed_22 : decode cX13_flawed 22 = .ok (.invokevirtual 455, 3) := by decide +kernel
theorem dX13_flawed_25 : decode cX13_flawed 25 = .ok (.ifCond .eq 7, 3) := by decide +kernel
theorem dX13_flawed_28 : decode cX13_flawed 28 = .ok (.iconst 1, 1) := by decide +kernel
theorem dX13_flawed_29 : decode cX13_flawed 29 = .ok (.goto 4, 3) := by decide +kernel
theorem dX13_flawed_32 : decode cX13_flawed 32 = .ok (.iconst 0, 1) := by decide +kernel
theorem dX13_flawed_33 : decode cX13_flawed 33 = .ok (.iload_n 1, 1) := by decide +kernel
theorem dX13_flawed_34 : decode cX13_flawed 34 = .ok (.iload_n 3, 1) := by decide +kernel
theorem dX13_flawed_35 : decode cX13_flawed 35 = .ok (.iload 5, 2) := by decide +kernel
theorem dX13_flawed_37 : decode cX13_flawed 37 = .ok (.iload 6, 2) := by decide +kernel
theorem dX13_flawed_39 : decode cX13_flawed 39 = .ok (.invokevirtual 458, 3) := by decide +kernel
theorem dX13_flawed_42 : decode cX13_flawed 42 = .ok (.istore 9, 2) := by decide +kernel
theorem dX13_flawed_44 : decode cX13_flawed 44 = .ok (.iload 9, 2) := by decide +kernel
theorem dX13_flawed_46 : decode cX13_flawed 46 = .ok (.ifCond .le 10, 3) := by decide +kernel
theorem dX13_flawed_49 : decode cX13_flawed 49 = .ok (.aload_n 0, 1) := by decide +kernel
theorem dX13_flawed_50 : decode cX13_flawed 50 = .ok (.iload 9, 2) := by decide +kernel
theorem dX13_flawed_52 : decode cX13_flawed 52 = .ok (.invokevirtual 59, 3) := by decide +kernel
theorem dX13_flawed_55 : decode cX13_flawed 55 = .ok (.ireturn, 1) := by decide +kernel
theorem dX13_flawed_56 : decode cX13_flawed 56 = .ok (.aload_n 0, 1) := by decide +kernel
theorem dX13_flawed_57 : decode cX13_flawed 57 = .ok (.iload_n 1, 1) := by decide +kernel
theorem dX13_flawed_58 : decode cX13_flawed 58 = .ok (.iload_n 2, 1) := by decide +kernel
theorem dX13_flawed_59 : decode cX13_flawed 59 = .ok (.iload_n 3, 1) := by decide +kernel
theorem dX13_flawed_60 : decode cX13_flawed 60 = .ok (.iload 4, 2) := by decide +kernel
theorem dX13_flawed_62 : decode cX13_flawed 62 = .ok (.iload 5, 2) := by decide +kernel
theorem dX13_flawed_64 : decode cX13_flawed 64 = .ok (.iload 6, 2) := by decide +kernel
theorem dX13_flawed_66 : decode cX13_flawed 66 = .ok (.invokevirtual 396, 3) := by decide +kernel
theorem dX13_flawed_69 : decode cX13_flawed 69 = .ok (.aload_n 0, 1) := by decide +kernel
theorem dX13_flawed_70 : decode cX13_flawed 70 = .ok (.iload 7, 2) := by decide +kernel
theorem dX13_flawed_72 : decode cX13_flawed 72 = .ok (.putfield 389, 3) := by decide +kernel
theorem dX13_flawed_75 : decode cX13_flawed 75 = .ok (.aload_n 0, 1) := by decide +kernel
theorem dX13_flawed_76 : decode cX13_flawed 76 = .ok (.iload 8, 2) := by decide +kernel
theorem dX13_flawed_78 : decode cX13_flawed 78 = .ok (.putfield 403, 3) := by decide +kernel
theorem dX13_flawed_81 : decode cX13_flawed 81 = .ok (.aload_n 0, 1) := by decide +kernel
theorem dX13_flawed_82 : decode cX13_flawed 82 = .ok (.aload_n 0, 1) := by decide +kernel
theorem dX13_flawed_83 : decode cX13_flawed 83 = .ok (.invokevirtual 433, 3) := by decide +kernel
theorem dX13_flawed_86 : decode cX13_flawed 86 = .ok (.invokevirtual 63, 3) := by decide +kernel
theorem dX13_flawed_89 : decode cX13_flawed 89 = .ok (.ireturn, 1) := by decide +kernel
section
variable {X : ab_X} {d : Nat} {σ : ab_S} {Q : Option ab_V → ab_S → Prop} {L st : List ab_V} {a b z v i j x1 x2 x3 x4 x5 x6 x7 x8 : Int} {l0 l1 l2 l3 l4 l5 l6 l7 l8 l9 l10 l11 l12 l13 l14 l15 l16 l17 l18 l19 l20 : ab_V}
theorem kc_X13_readCheats : ab_code 196 = cX13_readCheats := rfl
theorem ko_X13_readCheats : ab_ow 196 = 13 := rfl
theorem rX13_readCheats_0 : ab_Run X 196 0 (14, 0, 0) [ab_R z, l1, l2, l3, l4] st σ Q ↔ z ≠ 0 ∧ ab_Run X 196 1 (14, 0, 0) [ab_R z, l1, l2, l3, l4] (ab_R z :: st) σ Q := ab_r_aload_n rfl kc_X13_readCheats dX13_readCheats_0
theorem rX13_readCheats_1 : ab_Run X 196 1 (14, 0, 0) L st σ Q ↔ ab_Run X 196 2 (14, 0, 0) L (ab_I 0 :: st) σ Q := ab_r_iconst (by decide) kc_X13_readCheats dX13_readCheats_1
theorem rX13_readCheats_2 : ab_Run X 196 2 (14, 0, 0) L st σ Q ↔ ab_Run X 196 3 (14, 0, 0) L (ab_I 1 :: st) σ Q := ab_r_iconst (by decide) kc_X13_readCheats dX13_readCheats_2
theorem rX13_readCheats_3 : ab_Run X 196 3 (14, 0, 0) L (ab_I x2 :: ab_I x1 :: ab_R a :: st) σ Q ↔ ((ab_sh σ a).1 = 14 ∧ ab_cats st ≤ 8) ∧ ab_Do X 181 [ab_R a, ab_I x1, ab_I x2] σ (fun r σ' => ab_Run X 196 6 (14, 0, 0) L (ab_psh r st) σ' Q) := ab_r_callV (w := [ab_I x2, ab_I x1]) (as := [ab_I x1, ab_I x2]) (b1 := (2, 0, 0)) 0 (Or.inl rfl) (by decide) ko_X13_readCheats qM_13_266 (by decide) rfl rfl rfl rfl rfl (by decide) (Nat.le_of_ble_eq_true rfl) kc_X13_readCheats dX13_readCheats_3
theorem rX13_readCheats_6 : ab_Run X 196 6 (14, 0, 0) [ab_R z, l1, l2, l3, l4] st σ Q ↔ z ≠ 0 ∧ ab_Run X 196 7 (14, 0, 0) [ab_R z, l1, l2, l3, l4] (ab_R z :: st) σ Q := ab_r_aload_n rfl kc_X13_readCheats dX13_readCheats_6
theorem rX13_readCheats_7 : ab_Run X 196 7 (14, 0, 0) L (ab_R a :: st) σ Q ↔ ((ab_sh σ a).1 = 14 ∧ ab_cats st ≤ 8) ∧ ab_Do X 184 [ab_R a] σ (fun r σ' => ab_Run X 196 10 (14, 0, 0) L (ab_psh r st) σ' Q) := ab_r_callV (w := []) (as := []) (b1 := (13, 0, 0)) 0 (Or.inl rfl) (by decide) ko_X13_readCheats qM_13_201 (by decide) rfl rfl rfl rfl rfl (by decide) (Nat.le_of_ble_eq_true rfl) kc_X13_readCheats dX13_readCheats_7
theorem rX13_readCheats_10 : ab_Run X 196 10 (14, 0, 0) [l0, l1, l2, l3, l4] (ab_I z :: st) σ Q ↔ (!ab_isJ l0) = true ∧ ab_Run X 196 11 (14, 0, 0) [l0, ab_I z, l2, l3, l4] st σ Q := ab_r_istore_n (Nat.le_of_ble_eq_true rfl) kc_X13_readCheats dX13_readCheats_10
theorem rX13_readCheats_11 : ab_Run X 196 11 (14, 0, 0) [ab_R z, l1, l2, l3, l4] st σ Q ↔ z ≠ 0 ∧ ab_Run X 196 12 (14, 0, 0) [ab_R z, l1, l2, l3, l4] (ab_R z :: st) σ Q := ab_r_aload_n rfl kc_X13_readCheats dX13_readCheats_11
theorem rX13_readCheats_12 : ab_Run X 196 12 (14, 0, 0) L (ab_R a :: st) σ Q ↔ (ab_sh σ a).1 = 14 ∧ ab_Run X 196 15 (14, 0, 0) L (ab_I (ab_rd σ a 9) :: st) σ Q := gF_13_85 ko_X13_readCheats kc_X13_readCheats dX13_readCheats_12
theorem rX13_readCheats_15 : ab_Run X 196 15 (14, 0, 0) L st σ Q ↔ ab_Run X 196 16 (14, 0, 0) L (ab_I 5 :: st) σ Q := ab_r_iconst (by decide) kc_X13_readCheats dX13_readCheats_15
theorem rX13_readCheats_16 : ab_Run X 196 16 (14, 0, 0) L (ab_I b :: ab_I a :: st) σ Q ↔ (a = b → ab_Run X 196 37 (14, 0, 0) L st σ Q) ∧ (¬ (a = b) → ab_Run X 196 19 (14, 0, 0) L st σ Q) := ab_r_icmp_eq rfl kc_X13_readCheats dX13_readCheats_16
theorem rX13_readCheats_19 : ab_Run X 196 19 (14, 0, 0) [ab_R z, l1, l2, l3, l4] st σ Q ↔ z ≠ 0 ∧ ab_Run X 196 20 (14, 0, 0) [ab_R z, l1, l2, l3, l4] (ab_R z :: st) σ Q := ab_r_aload_n rfl kc_X13_readCheats dX13_readCheats_19
theorem rX13_readCheats_20 : ab_Run X 196 20 (14, 0, 0) L (ab_R a :: st) σ Q ↔ (ab_sh σ a).1 = 14 ∧ ab_Run X 196 23 (14, 0, 0) L (ab_R (ab_rd σ a 4) :: st) σ Q := gF_13_171 ko_X13_readCheats kc_X13_readCheats dX13_readCheats_20
theorem rX13_readCheats_23 : ab_Run X 196 23 (14, 0, 0) L (ab_R a :: st) σ Q ↔ (ab_sh σ a).1 = 13 ∧ ab_Run X 196 26 (14, 0, 0) L (ab_R (ab_rd σ a 27) :: st) σ Q := gF_13_316 ko_X13_readCheats kc_X13_readCheats dX13_readCheats_23
theorem rX13_readCheats_26 : ab_Run X 196 26 (14, 0, 0) [l0, ab_I z, l2, l3, l4] st σ Q ↔ ab_Run X 196 27 (14, 0, 0) [l0, ab_I z, l2, l3, l4] (ab_I z :: st) σ Q := ab_r_iload_n rfl kc_X13_readCheats dX13_readCheats_26
theorem rX13_readCheats_27 : ab_Run X 196 27 (14, 0, 0) L (ab_I i :: ab_R a :: st) σ Q ↔ ((ab_sh σ a).1 = 21 ∧ 0 ≤ i ∧ i < (ab_sh σ a).2) ∧ ab_Run X 196 28 (14, 0, 0) L (ab_I (ab_rd σ a i) :: st) σ Q := ab_r_iaload (by decide) kc_X13_readCheats dX13_readCheats_27
theorem rX13_readCheats_28 : ab_Run X 196 28 (14, 0, 0) L st σ Q ↔ ab_Run X 196 29 (14, 0, 0) L (ab_I (-1) :: st) σ Q := ab_r_iconst (by decide) kc_X13_readCheats dX13_readCheats_28
theorem rX13_readCheats_29 : ab_Run X 196 29 (14, 0, 0) L (ab_I b :: ab_I a :: st) σ Q ↔ (a = b → ab_Run X 196 37 (14, 0, 0) L st σ Q) ∧ (¬ (a = b) → ab_Run X 196 32 (14, 0, 0) L st σ Q) := ab_r_icmp_eq rfl kc_X13_readCheats dX13_readCheats_29
theorem rX13_readCheats_32 : ab_Run X 196 32 (14, 0, 0) [ab_R z, l1, l2, l3, l4] st σ Q ↔ z ≠ 0 ∧ ab_Run X 196 33 (14, 0, 0) [ab_R z, l1, l2, l3, l4] (ab_R z :: st) σ Q := ab_r_aload_n rfl kc_X13_readCheats dX13_readCheats_32
theorem rX13_readCheats_33 : ab_Run X 196 33 (14, 0, 0) L st σ Q ↔ ab_Run X 196 34 (14, 0, 0) L (ab_I 3 :: st) σ Q := ab_r_iconst (by decide) kc_X13_readCheats dX13_readCheats_33
theorem rX13_readCheats_34 : ab_Run X 196 34 (14, 0, 0) L (ab_I x1 :: ab_R a :: st) σ Q ↔ ((ab_sh σ a).1 = 14 ∧ ab_cats st ≤ 8) ∧ ab_Do X 172 [ab_R a, ab_I x1] σ (fun r σ' => ab_Run X 196 37 (14, 0, 0) L (ab_psh r st) σ' Q) := ab_r_callV (w := [ab_I x1]) (as := [ab_I x1]) (b1 := (0, 0, 0)) 0 (Or.inl rfl) (by decide) ko_X13_readCheats qM_13_134 (by decide) rfl rfl rfl rfl rfl (by decide) (Nat.le_of_ble_eq_true rfl) kc_X13_readCheats dX13_readCheats_34
theorem rX13_readCheats_37 : ab_Run X 196 37 (14, 0, 0) [ab_R z, l1, l2, l3, l4] st σ Q ↔ z ≠ 0 ∧ ab_Run X 196 38 (14, 0, 0) [ab_R z, l1, l2, l3, l4] (ab_R z :: st) σ Q := ab_r_aload_n rfl kc_X13_readCheats dX13_readCheats_37
theorem rX13_readCheats_38 : ab_Run X 196 38 (14, 0, 0) L (ab_R a :: st) σ Q ↔ ((ab_sh σ a).1 = 14 ∧ ab_cats st ≤ 8) ∧ ab_Do X 171 [ab_R a] σ (fun r σ' => ab_Run X 196 41 (14, 0, 0) L (ab_psh r st) σ' Q) := ab_r_callV (w := []) (as := []) (b1 := (1, 0, 0)) 0 (Or.inl rfl) (by decide) ko_X13_readCheats qM_13_127 (by decide) rfl rfl rfl rfl rfl (by decide) (Nat.le_of_ble_eq_true rfl) kc_X13_readCheats dX13_readCheats_38
theorem rX13_readCheats_41 : ab_Run X 196 41 (14, 0, 0) [ab_R z, l1, l2, l3, l4] st σ Q ↔ z ≠ 0 ∧ ab_Run X 196 42 (14, 0, 0) [ab_R z, l1, l2, l3, l4] (ab_R z :: st) σ Q := ab_r_aload_n rfl kc_X13_readCheats dX13_readCheats_41
theorem rX13_readCheats_42 : ab_Run X 196 42 (14, 0, 0) L st σ Q ↔ ab_Run X 196 43 (14, 0, 0) L (ab_I 0 :: st) σ Q := ab_r_iconst (by decide) kc_X13_readCheats dX13_readCheats_42
theorem rX13_readCheats_43 : ab_Run X 196 43 (14, 0, 0) L st σ Q ↔ ab_Run X 196 45 (14, 0, 0) L (ab_I 99 :: st) σ Q := ab_r_bipush (by decide) kc_X13_readCheats dX13_readCheats_43
theorem rX13_readCheats_45 : ab_Run X 196 45 (14, 0, 0) L (ab_I x2 :: ab_I x1 :: ab_R a :: st) σ Q ↔ ((ab_sh σ a).1 = 14 ∧ ab_cats st ≤ 8) ∧ ab_Do X 178 [ab_R a, ab_I x1, ab_I x2] σ (fun r σ' => ab_Run X 196 48 (14, 0, 0) L (ab_psh r st) σ' Q) := ab_r_callV (w := [ab_I x2, ab_I x1]) (as := [ab_I x1, ab_I x2]) (b1 := (2, 0, 0)) 0 (Or.inl rfl) (by decide) ko_X13_readCheats qM_13_150 (by decide) rfl rfl rfl rfl rfl (by decide) (Nat.le_of_ble_eq_true rfl) kc_X13_readCheats dX13_readCheats_45
theorem rX13_readCheats_48 : ab_Run X 196 48 (14, 0, 0) [l0, l1, l2, l3, l4] (ab_I z :: st) σ Q ↔ (!ab_isJ l1) = true ∧ ab_Run X 196 49 (14, 0, 0) [l0, l1, ab_I z, l3, l4] st σ Q := ab_r_istore_n (Nat.le_of_ble_eq_true rfl) kc_X13_readCheats dX13_readCheats_48
theorem rX13_readCheats_49 : ab_Run X 196 49 (14, 0, 0) [ab_R z, l1, l2, l3, l4] st σ Q ↔ z ≠ 0 ∧ ab_Run X 196 50 (14, 0, 0) [ab_R z, l1, l2, l3, l4] (ab_R z :: st) σ Q := ab_r_aload_n rfl kc_X13_readCheats dX13_readCheats_49
theorem rX13_readCheats_50 : ab_Run X 196 50 (14, 0, 0) L st σ Q ↔ ab_Run X 196 52 (14, 0, 0) L (ab_R (-6) :: st) σ Q := ab_r_ldcS (n := 4) rfl ko_X13_readCheats (by decide +kernel) (by decide +kernel) rfl kc_X13_readCheats dX13_readCheats_50
theorem rX13_readCheats_52 : ab_Run X 196 52 (14, 0, 0) L st σ Q ↔ ab_Run X 196 53 (14, 0, 0) L (ab_I 1 :: st) σ Q := ab_r_iconst (by decide) kc_X13_readCheats dX13_readCheats_52
theorem rX13_readCheats_53 : ab_Run X 196 53 (14, 0, 0) L st σ Q ↔ ab_Run X 196 55 (14, 0, 0) L (ab_I 9 :: st) σ Q := ab_r_bipush (by decide) kc_X13_readCheats dX13_readCheats_53
theorem rX13_readCheats_55 : ab_Run X 196 55 (14, 0, 0) L (ab_I x3 :: ab_I x2 :: ab_R x1 :: ab_R a :: st) σ Q ↔ ((ab_sh σ a).1 = 14 ∧ ab_cats st ≤ 8) ∧ ab_Do X 179 [ab_R a, ab_R x1, ab_I x2, ab_I x3] σ (fun r σ' => ab_Run X 196 58 (14, 0, 0) L (ab_psh r st) σ' Q) := ab_r_callV (w := [ab_I x3, ab_I x2, ab_R x1]) (as := [ab_R x1, ab_I x2, ab_I x3]) (b1 := (13, 0, 0)) 0 (Or.inl rfl) (by decide) ko_X13_readCheats qM_13_239 (by decide) rfl rfl rfl rfl rfl (by decide) (Nat.le_of_ble_eq_true rfl) kc_X13_readCheats dX13_readCheats_55
theorem rX13_readCheats_58 : ab_Run X 196 58 (14, 0, 0) [l0, l1, l2, l3, l4] (ab_I z :: st) σ Q ↔ (!ab_isJ l2) = true ∧ ab_Run X 196 59 (14, 0, 0) [l0, l1, l2, ab_I z, l4] st σ Q := ab_r_istore_n (Nat.le_of_ble_eq_true rfl) kc_X13_readCheats dX13_readCheats_58
theorem rX13_readCheats_59 : ab_Run X 196 59 (14, 0, 0) [ab_R z, l1, l2, l3, l4] st σ Q ↔ z ≠ 0 ∧ ab_Run X 196 60 (14, 0, 0) [ab_R z, l1, l2, l3, l4] (ab_R z :: st) σ Q := ab_r_aload_n rfl kc_X13_readCheats dX13_readCheats_59
theorem rX13_readCheats_60 : ab_Run X 196 60 (14, 0, 0) L st σ Q ↔ ab_Run X 196 63 (14, 0, 0) L (ab_R (-28) :: st) σ Q := ab_r_ldc_wS (n := 26) rfl ko_X13_readCheats (by decide +kernel) (by decide +kernel) rfl kc_X13_readCheats dX13_readCheats_60
theorem rX13_readCheats_63 : ab_Run X 196 63 (14, 0, 0) L st σ Q ↔ ab_Run X 196 64 (14, 0, 0) L (ab_I 1 :: st) σ Q := ab_r_iconst (by decide) kc_X13_readCheats dX13_readCheats_63
theorem rX13_readCheats_64 : ab_Run X 196 64 (14, 0, 0) L st σ Q ↔ ab_Run X 196 66 (14, 0, 0) L (ab_I 9 :: st) σ Q := ab_r_bipush (by decide) kc_X13_readCheats dX13_readCheats_64
theorem rX13_readCheats_66 : ab_Run X 196 66 (14, 0, 0) L (ab_I x3 :: ab_I x2 :: ab_R x1 :: ab_R a :: st) σ Q ↔ ((ab_sh σ a).1 = 14 ∧ ab_cats st ≤ 8) ∧ ab_Do X 179 [ab_R a, ab_R x1, ab_I x2, ab_I x3] σ (fun r σ' => ab_Run X 196 69 (14, 0, 0) L (ab_psh r st) σ' Q) := ab_r_callV (w := [ab_I x3, ab_I x2, ab_R x1]) (as := [ab_R x1, ab_I x2, ab_I x3]) (b1 := (13, 0, 0)) 0 (Or.inl rfl) (by decide) ko_X13_readCheats qM_13_239 (by decide) rfl rfl rfl rfl rfl (by decide) (Nat.le_of_ble_eq_true rfl) kc_X13_readCheats dX13_readCheats_66
theorem rX13_readCheats_69 : ab_Run X 196 69 (14, 0, 0) [l0, l1, l2, l3, l4] (ab_I z :: st) σ Q ↔ (!ab_isJ l3) = true ∧ ab_Run X 196 71 (14, 0, 0) [l0, l1, l2, l3, ab_I z] st σ Q := ab_r_istore (Nat.le_of_ble_eq_true rfl) kc_X13_readCheats dX13_readCheats_69
theorem rX13_readCheats_71 : ab_Run X 196 71 (14, 0, 0) [ab_R z, l1, l2, l3, l4] st σ Q ↔ z ≠ 0 ∧ ab_Run X 196 72 (14, 0, 0) [ab_R z, l1, l2, l3, l4] (ab_R z :: st) σ Q := ab_r_aload_n rfl kc_X13_readCheats dX13_readCheats_71
theorem rX13_readCheats_72 : ab_Run X 196 72 (14, 0, 0) L (ab_R a :: st) σ Q ↔ (ab_sh σ a).1 = 14 ∧ ab_Run X 196 75 (14, 0, 0) L (ab_I (ab_rd σ a 9) :: st) σ Q := gF_13_85 ko_X13_readCheats kc_X13_readCheats dX13_readCheats_72
theorem rX13_readCheats_75 : ab_Run X 196 75 (14, 0, 0) L st σ Q ↔ ab_Run X 196 76 (14, 0, 0) L (ab_I 5 :: st) σ Q := ab_r_iconst (by decide) kc_X13_readCheats dX13_readCheats_75
theorem rX13_readCheats_76 : ab_Run X 196 76 (14, 0, 0) L (ab_I b :: ab_I a :: st) σ Q ↔ (¬ a = b → ab_Run X 196 80 (14, 0, 0) L st σ Q) ∧ (¬ (¬ a = b) → ab_Run X 196 79 (14, 0, 0) L st σ Q) := ab_r_icmp_ne rfl kc_X13_readCheats dX13_readCheats_76
theorem rX13_readCheats_79 : ab_Run X 196 79 (14, 0, 0) L [] σ Q ↔ Q none σ := ab_r_return rfl kc_X13_readCheats dX13_readCheats_79
theorem rX13_readCheats_80 : ab_Run X 196 80 (14, 0, 0) [ab_R z, l1, l2, l3, l4] st σ Q ↔ z ≠ 0 ∧ ab_Run X 196 81 (14, 0, 0) [ab_R z, l1, l2, l3, l4] (ab_R z :: st) σ Q := ab_r_aload_n rfl kc_X13_readCheats dX13_readCheats_80
theorem rX13_readCheats_81 : ab_Run X 196 81 (14, 0, 0) L (ab_R a :: st) σ Q ↔ (ab_sh σ a).1 = 14 ∧ ab_Run X 196 84 (14, 0, 0) L (ab_R (ab_rd σ a 4) :: st) σ Q := gF_13_171 ko_X13_readCheats kc_X13_readCheats dX13_readCheats_81
theorem rX13_readCheats_84 : ab_Run X 196 84 (14, 0, 0) L (ab_R a :: st) σ Q ↔ (ab_sh σ a).1 = 13 ∧ ab_Run X 196 87 (14, 0, 0) L (ab_R (ab_rd σ a 27) :: st) σ Q := gF_13_316 ko_X13_readCheats kc_X13_readCheats dX13_readCheats_84
theorem rX13_readCheats_87 : ab_Run X 196 87 (14, 0, 0) [l0, ab_I z, l2, l3, l4] st σ Q ↔ ab_Run X 196 88 (14, 0, 0) [l0, ab_I z, l2, l3, l4] (ab_I z :: st) σ Q := ab_r_iload_n rfl kc_X13_readCheats dX13_readCheats_87
theorem rX13_readCheats_88 : ab_Run X 196 88 (14, 0, 0) [l0, l1, ab_I z, l3, l4] st σ Q ↔ ab_Run X 196 89 (14, 0, 0) [l0, l1, ab_I z, l3, l4] (ab_I z :: st) σ Q := ab_r_iload_n rfl kc_X13_readCheats dX13_readCheats_88
theorem rX13_readCheats_89 : ab_Run X 196 89 (14, 0, 0) L (ab_I v :: ab_I i :: ab_R a :: st) σ Q ↔ ((ab_sh σ a).1 = 21 ∧ 0 ≤ i ∧ i < (ab_sh σ a).2) ∧ ab_Run X 196 90 (14, 0, 0) L st (ab_wr σ a i v) Q := ab_r_iastore kc_X13_readCheats dX13_readCheats_89
theorem rX13_readCheats_90 : ab_Run X 196 90 (14, 0, 0) [ab_R z, l1, l2, l3, l4] st σ Q ↔ z ≠ 0 ∧ ab_Run X 196 91 (14, 0, 0) [ab_R z, l1, l2, l3, l4] (ab_R z :: st) σ Q := ab_r_aload_n rfl kc_X13_readCheats dX13_readCheats_90
theorem rX13_readCheats_91 : ab_Run X 196 91 (14, 0, 0) L (ab_R a :: st) σ Q ↔ (ab_sh σ a).1 = 14 ∧ ab_Run X 196 94 (14, 0, 0) L (ab_R (ab_rd σ a 4) :: st) σ Q := gF_13_171 ko_X13_readCheats kc_X13_readCheats dX13_readCheats_91
theorem rX13_readCheats_94 : ab_Run X 196 94 (14, 0, 0) L (ab_R a :: st) σ Q ↔ (ab_sh σ a).1 = 13 ∧ ab_Run X 196 97 (14, 0, 0) L (ab_R (ab_rd σ a 28) :: st) σ Q := gF_13_360 ko_X13_readCheats kc_X13_readCheats dX13_readCheats_94
theorem rX13_readCheats_97 : ab_Run X 196 97 (14, 0, 0) [l0, ab_I z, l2, l3, l4] st σ Q ↔ ab_Run X 196 98 (14, 0, 0) [l0, ab_I z, l2, l3, l4] (ab_I z :: st) σ Q := ab_r_iload_n rfl kc_X13_readCheats dX13_readCheats_97
theorem rX13_readCheats_98 : ab_Run X 196 98 (14, 0, 0) [l0, l1, l2, ab_I z, l4] st σ Q ↔ ab_Run X 196 99 (14, 0, 0) [l0, l1, l2, ab_I z, l4] (ab_I z :: st) σ Q := ab_r_iload_n rfl kc_X13_readCheats dX13_readCheats_98
theorem rX13_readCheats_99 : ab_Run X 196 99 (14, 0, 0) L (ab_I v :: ab_I i :: ab_R a :: st) σ Q ↔ ((ab_sh σ a).1 = 21 ∧ 0 ≤ i ∧ i < (ab_sh σ a).2) ∧ ab_Run X 196 100 (14, 0, 0) L st (ab_wr σ a i v) Q := ab_r_iastore kc_X13_readCheats dX13_readCheats_99
theorem rX13_readCheats_100 : ab_Run X 196 100 (14, 0, 0) [ab_R z, l1, l2, l3, l4] st σ Q ↔ z ≠ 0 ∧ ab_Run X 196 101 (14, 0, 0) [ab_R z, l1, l2, l3, l4] (ab_R z :: st) σ Q := ab_r_aload_n rfl kc_X13_readCheats dX13_readCheats_100
theorem rX13_readCheats_101 : ab_Run X 196 101 (14, 0, 0) L (ab_R a :: st) σ Q ↔ (ab_sh σ a).1 = 14 ∧ ab_Run X 196 104 (14, 0, 0) L (ab_R (ab_rd σ a 4) :: st) σ Q := gF_13_171 ko_X13_readCheats kc_X13_readCheats dX13_readCheats_101
theorem rX13_readCheats_104 : ab_Run X 196 104 (14, 0, 0) L (ab_R a :: st) σ Q ↔ (ab_sh σ a).1 = 13 ∧ ab_Run X 196 107 (14, 0, 0) L (ab_R (ab_rd σ a 29) :: st) σ Q := gF_13_363 ko_X13_readCheats kc_X13_readCheats dX13_readCheats_104
theorem rX13_readCheats_107 : ab_Run X 196 107 (14, 0, 0) [l0, ab_I z, l2, l3, l4] st σ Q ↔ ab_Run X 196 108 (14, 0, 0) [l0, ab_I z, l2, l3, l4] (ab_I z :: st) σ Q := ab_r_iload_n rfl kc_X13_readCheats dX13_readCheats_107
theorem rX13_readCheats_108 : ab_Run X 196 108 (14, 0, 0) [l0, l1, l2, l3, ab_I z] st σ Q ↔ ab_Run X 196 110 (14, 0, 0) [l0, l1, l2, l3, ab_I z] (ab_I z :: st) σ Q := ab_r_iload rfl kc_X13_readCheats dX13_readCheats_108
theorem rX13_readCheats_110 : ab_Run X 196 110 (14, 0, 0) L (ab_I v :: ab_I i :: ab_R a :: st) σ Q ↔ ((ab_sh σ a).1 = 21 ∧ 0 ≤ i ∧ i < (ab_sh σ a).2) ∧ ab_Run X 196 111 (14, 0, 0) L st (ab_wr σ a i v) Q := ab_r_iastore kc_X13_readCheats dX13_readCheats_110
theorem rX13_readCheats_111 : ab_Run X 196 111 (14, 0, 0) L [] σ Q ↔ Q none σ := ab_r_return rfl kc_X13_readCheats dX13_readCheats_111
theorem kc_X13_feed : ab_code 197 = cX13_feed := rfl
theorem ko_X13_feed : ab_ow 197 = 13 := rfl
theorem rX13_feed_0 : ab_Run X 197 0 (0, 0, 0) [ab_R z, l1, l2, l3, l4, l5, l6, l7] st σ Q ↔ z ≠ 0 ∧ ab_Run X 197 1 (0, 0, 0) [ab_R z, l1, l2, l3, l4, l5, l6, l7] (ab_R z :: st) σ Q := ab_r_aload_n rfl kc_X13_feed dX13_feed_0
theorem rX13_feed_1 : ab_Run X 197 1 (0, 0, 0) L st σ Q ↔ ab_Run X 197 2 (0, 0, 0) L (ab_I 0 :: st) σ Q := ab_r_iconst (by decide) kc_X13_feed dX13_feed_1
theorem rX13_feed_2 : ab_Run X 197 2 (0, 0, 0) L (ab_I z :: ab_R a :: st) σ Q ↔ (ab_sh σ a).1 = 14 ∧ ab_Run X 197 5 (0, 0, 0) L st (ab_wr σ a 0 z) Q := sF_13_53 ko_X13_feed kc_X13_feed dX13_feed_2
theorem rX13_feed_5 : ab_Run X 197 5 (0, 0, 0) [ab_R z, l1, l2, l3, l4, l5, l6, l7] st σ Q ↔ z ≠ 0 ∧ ab_Run X 197 6 (0, 0, 0) [ab_R z, l1, l2, l3, l4, l5, l6, l7] (ab_R z :: st) σ Q := ab_r_aload_n rfl kc_X13_feed dX13_feed_5
theorem rX13_feed_6 : ab_Run X 197 6 (0, 0, 0) L (ab_R a :: st) σ Q ↔ (ab_sh σ a).1 = 14 ∧ ab_Run X 197 9 (0, 0, 0) L (ab_I (ab_rd σ a 6) :: st) σ Q := gF_13_366 ko_X13_feed kc_X13_feed dX13_feed_6
theorem rX13_feed_9 : ab_Run X 197 9 (0, 0, 0) L st σ Q ↔ ab_Run X 197 11 (0, 0, 0) L (ab_I 20 :: st) σ Q := ab_r_bipush (by decide) kc_X13_feed dX13_feed_9
theorem rX13_feed_11 : ab_Run X 197 11 (0, 0, 0) L (ab_I b :: ab_I a :: st) σ Q ↔ ab_Run X 197 12 (0, 0, 0) L (ab_I (ab_w32 (a + b)) :: st) σ Q := ab_r_iadd kc_X13_feed dX13_feed_11
theorem rX13_feed_12 : ab_Run X 197 12 (0, 0, 0) L st σ Q ↔ ab_Run X 197 15 (0, 0, 0) L (ab_I 1000 :: st) σ Q := ab_r_sipush (by decide) kc_X13_feed dX13_feed_12
theorem rX13_feed_15 : ab_Run X 197 15 (0, 0, 0) L (ab_I b :: ab_I a :: st) σ Q ↔ (a ≤ b → ab_Run X 197 20 (0, 0, 0) L st σ Q) ∧ (¬ (a ≤ b) → ab_Run X 197 18 (0, 0, 0) L st σ Q) := ab_r_icmp_le rfl kc_X13_feed dX13_feed_15
theorem rX13_feed_18 : ab_Run X 197 18 (0, 0, 0) L st σ Q ↔ ab_Run X 197 19 (0, 0, 0) L (ab_I (-1) :: st) σ Q := ab_r_iconst (by decide) kc_X13_feed dX13_feed_18
theorem rX13_feed_19 : ab_Run X 197 19 (0, 0, 0) L [ab_I v] σ Q ↔ Q (some (ab_I v)) σ := ab_r_ireturnI rfl kc_X13_feed dX13_feed_19
theorem rX13_feed_20 : ab_Run X 197 20 (0, 0, 0) L st σ Q ↔ ab_Run X 197 21 (0, 0, 0) L (ab_I 0 :: st) σ Q := ab_r_iconst (by decide) kc_X13_feed dX13_feed_20
theorem rX13_feed_21 : ab_Run X 197 21 (0, 0, 0) [l0, l1, l2, l3, l4, l5, l6, l7] (ab_I z :: st) σ Q ↔ (!ab_isJ l5) = true ∧ ab_Run X 197 23 (0, 0, 0) [l0, l1, l2, l3, l4, l5, ab_I z, l7] st σ Q := ab_r_istore (Nat.le_of_ble_eq_true rfl) kc_X13_feed dX13_feed_21
theorem rX13_feed_23 : ab_Run X 197 23 (0, 0, 0) [l0, l1, l2, l3, l4, l5, ab_I z, l7] st σ Q ↔ ab_Run X 197 25 (0, 0, 0) [l0, l1, l2, l3, l4, l5, ab_I z, l7] (ab_I z :: st) σ Q := ab_r_iload rfl kc_X13_feed dX13_feed_23
theorem rX13_feed_25 : ab_Run X 197 25 (0, 0, 0) L st σ Q ↔ ab_Run X 197 27 (0, 0, 0) L (ab_I 20 :: st) σ Q := ab_r_bipush (by decide) kc_X13_feed dX13_feed_25
theorem rX13_feed_27 : ab_Run X 197 27 (0, 0, 0) L (ab_I b :: ab_I a :: st) σ Q ↔ (b ≤ a → ab_Run X 197 117 (0, 0, 0) L st σ Q) ∧ (¬ (b ≤ a) → ab_Run X 197 30 (0, 0, 0) L st σ Q) := ab_r_icmp_ge rfl kc_X13_feed dX13_feed_27
theorem rX13_feed_30 : ab_Run X 197 30 (0, 0, 0) [l0, l1, l2, l3, l4, l5, ab_I z, l7] st σ Q ↔ ab_Run X 197 32 (0, 0, 0) [l0, l1, l2, l3, l4, l5, ab_I z, l7] (ab_I z :: st) σ Q := ab_r_iload rfl kc_X13_feed dX13_feed_30
theorem rX13_feed_32 : ab_Run X 197 32 (0, 0, 0) L st σ Q ↔ ab_Run X 197 33 (0, 0, 0) L (ab_I 4 :: st) σ Q := ab_r_iconst (by decide) kc_X13_feed dX13_feed_32
theorem rX13_feed_33 : ab_Run X 197 33 (0, 0, 0) L (ab_I b :: ab_I a :: st) σ Q ↔ (b ≤ a → ab_Run X 197 40 (0, 0, 0) L st σ Q) ∧ (¬ (b ≤ a) → ab_Run X 197 36 (0, 0, 0) L st σ Q) := ab_r_icmp_ge rfl kc_X13_feed dX13_feed_33
theorem rX13_feed_36 : ab_Run X 197 36 (0, 0, 0) [l0, ab_I z, l2, l3, l4, l5, l6, l7] st σ Q ↔ ab_Run X 197 37 (0, 0, 0) [l0, ab_I z, l2, l3, l4, l5, l6, l7] (ab_I z :: st) σ Q := ab_r_iload_n rfl kc_X13_feed dX13_feed_36
theorem rX13_feed_37 : ab_Run X 197 37 (0, 0, 0) L st σ Q ↔ ab_Run X 197 76 (0, 0, 0) L st σ Q := ab_r_goto rfl kc_X13_feed dX13_feed_37
theorem rX13_feed_40 : ab_Run X 197 40 (0, 0, 0) [l0, l1, l2, l3, l4, l5, ab_I z, l7] st σ Q ↔ ab_Run X 197 42 (0, 0, 0) [l0, l1, l2, l3, l4, l5, ab_I z, l7] (ab_I z :: st) σ Q := ab_r_iload rfl kc_X13_feed dX13_feed_40
theorem rX13_feed_42 : ab_Run X 197 42 (0, 0, 0) L st σ Q ↔ ab_Run X 197 44 (0, 0, 0) L (ab_I 8 :: st) σ Q := ab_r_bipush (by decide) kc_X13_feed dX13_feed_42
theorem rX13_feed_44 : ab_Run X 197 44 (0, 0, 0) L (ab_I b :: ab_I a :: st) σ Q ↔ (b ≤ a → ab_Run X 197 51 (0, 0, 0) L st σ Q) ∧ (¬ (b ≤ a) → ab_Run X 197 47 (0, 0, 0) L st σ Q) := ab_r_icmp_ge rfl kc_X13_feed dX13_feed_44
theorem rX13_feed_47 : ab_Run X 197 47 (0, 0, 0) [l0, l1, ab_I z, l3, l4, l5, l6, l7] st σ Q ↔ ab_Run X 197 48 (0, 0, 0) [l0, l1, ab_I z, l3, l4, l5, l6, l7] (ab_I z :: st) σ Q := ab_r_iload_n rfl kc_X13_feed dX13_feed_47
theorem rX13_feed_48 : ab_Run X 197 48 (0, 0, 0) L st σ Q ↔ ab_Run X 197 76 (0, 0, 0) L st σ Q := ab_r_goto rfl kc_X13_feed dX13_feed_48
theorem rX13_feed_51 : ab_Run X 197 51 (0, 0, 0) [l0, l1, l2, l3, l4, l5, ab_I z, l7] st σ Q ↔ ab_Run X 197 53 (0, 0, 0) [l0, l1, l2, l3, l4, l5, ab_I z, l7] (ab_I z :: st) σ Q := ab_r_iload rfl kc_X13_feed dX13_feed_51
theorem rX13_feed_53 : ab_Run X 197 53 (0, 0, 0) L st σ Q ↔ ab_Run X 197 55 (0, 0, 0) L (ab_I 12 :: st) σ Q := ab_r_bipush (by decide) kc_X13_feed dX13_feed_53
theorem rX13_feed_55 : ab_Run X 197 55 (0, 0, 0) L (ab_I b :: ab_I a :: st) σ Q ↔ (b ≤ a → ab_Run X 197 62 (0, 0, 0) L st σ Q) ∧ (¬ (b ≤ a) → ab_Run X 197 58 (0, 0, 0) L st σ Q) := ab_r_icmp_ge rfl kc_X13_feed dX13_feed_55
theorem rX13_feed_58 : ab_Run X 197 58 (0, 0, 0) [l0, l1, l2, ab_I z, l4, l5, l6, l7] st σ Q ↔ ab_Run X 197 59 (0, 0, 0) [l0, l1, l2, ab_I z, l4, l5, l6, l7] (ab_I z :: st) σ Q := ab_r_iload_n rfl kc_X13_feed dX13_feed_58
theorem rX13_feed_59 : ab_Run X 197 59 (0, 0, 0) L st σ Q ↔ ab_Run X 197 76 (0, 0, 0) L st σ Q := ab_r_goto rfl kc_X13_feed dX13_feed_59
theorem rX13_feed_62 : ab_Run X 197 62 (0, 0, 0) [l0, l1, l2, l3, l4, l5, ab_I z, l7] st σ Q ↔ ab_Run X 197 64 (0, 0, 0) [l0, l1, l2, l3, l4, l5, ab_I z, l7] (ab_I z :: st) σ Q := ab_r_iload rfl kc_X13_feed dX13_feed_62
theorem rX13_feed_64 : ab_Run X 197 64 (0, 0, 0) L st σ Q ↔ ab_Run X 197 66 (0, 0, 0) L (ab_I 16 :: st) σ Q := ab_r_bipush (by decide) kc_X13_feed dX13_feed_64
theorem rX13_feed_66 : ab_Run X 197 66 (0, 0, 0) L (ab_I b :: ab_I a :: st) σ Q ↔ (b ≤ a → ab_Run X 197 74 (0, 0, 0) L st σ Q) ∧ (¬ (b ≤ a) → ab_Run X 197 69 (0, 0, 0) L st σ Q) := ab_r_icmp_ge rfl kc_X13_feed dX13_feed_66
theorem rX13_feed_69 : ab_Run X 197 69 (0, 0, 0) [l0, l1, l2, l3, ab_I z, l5, l6, l7] st σ Q ↔ ab_Run X 197 71 (0, 0, 0) [l0, l1, l2, l3, ab_I z, l5, l6, l7] (ab_I z :: st) σ Q := ab_r_iload rfl kc_X13_feed dX13_feed_69
theorem rX13_feed_71 : ab_Run X 197 71 (0, 0, 0) L st σ Q ↔ ab_Run X 197 76 (0, 0, 0) L st σ Q := ab_r_goto rfl kc_X13_feed dX13_feed_71
theorem rX13_feed_74 : ab_Run X 197 74 (0, 0, 0) [l0, l1, l2, l3, l4, ab_I z, l6, l7] st σ Q ↔ ab_Run X 197 76 (0, 0, 0) [l0, l1, l2, l3, l4, ab_I z, l6, l7] (ab_I z :: st) σ Q := ab_r_iload rfl kc_X13_feed dX13_feed_74
theorem rX13_feed_76 : ab_Run X 197 76 (0, 0, 0) [l0, l1, l2, l3, l4, l5, l6, l7] (ab_I z :: st) σ Q ↔ (!ab_isJ l6) = true ∧ ab_Run X 197 78 (0, 0, 0) [l0, l1, l2, l3, l4, l5, l6, ab_I z] st σ Q := ab_r_istore (Nat.le_of_ble_eq_true rfl) kc_X13_feed dX13_feed_76
theorem rX13_feed_78 : ab_Run X 197 78 (0, 0, 0) [ab_R z, l1, l2, l3, l4, l5, l6, l7] st σ Q ↔ z ≠ 0 ∧ ab_Run X 197 79 (0, 0, 0) [ab_R z, l1, l2, l3, l4, l5, l6, l7] (ab_R z :: st) σ Q := ab_r_aload_n rfl kc_X13_feed dX13_feed_78
theorem rX13_feed_79 : ab_Run X 197 79 (0, 0, 0) L (ab_R a :: st) σ Q ↔ (ab_sh σ a).1 = 14 ∧ ab_Run X 197 82 (0, 0, 0) L (ab_R (ab_rd σ a 5) :: st) σ Q := gF_13_13 ko_X13_feed kc_X13_feed dX13_feed_79
theorem rX13_feed_82 : ab_Run X 197 82 (0, 0, 0) [ab_R z, l1, l2, l3, l4, l5, l6, l7] st σ Q ↔ z ≠ 0 ∧ ab_Run X 197 83 (0, 0, 0) [ab_R z, l1, l2, l3, l4, l5, l6, l7] (ab_R z :: st) σ Q := ab_r_aload_n rfl kc_X13_feed dX13_feed_82
theorem rX13_feed_83 : ab_Run X 197 83 (0, 0, 0) L (ab_R a :: st) σ Q ↔ (ab_sh σ a).1 = 14 ∧ ab_Run X 197 86 (0, 0, 0) L (ab_I (ab_rd σ a 6) :: st) σ Q := gF_13_366 ko_X13_feed kc_X13_feed dX13_feed_83
theorem rX13_feed_86 : ab_Run X 197 86 (0, 0, 0) [l0, l1, l2, l3, l4, l5, l6, ab_I z] st σ Q ↔ ab_Run X 197 88 (0, 0, 0) [l0, l1, l2, l3, l4, l5, l6, ab_I z] (ab_I z :: st) σ Q := ab_r_iload rfl kc_X13_feed dX13_feed_86
theorem rX13_feed_88 : ab_Run X 197 88 (0, 0, 0) L st σ Q ↔ ab_Run X 197 90 (0, 0, 0) L (ab_I 24 :: st) σ Q := ab_r_bipush (by decide) kc_X13_feed dX13_feed_88
theorem rX13_feed_90 : ab_Run X 197 90 (0, 0, 0) L st σ Q ↔ ab_Run X 197 92 (0, 0, 0) L (ab_I 8 :: st) σ Q := ab_r_bipush (by decide) kc_X13_feed dX13_feed_90
theorem rX13_feed_92 : ab_Run X 197 92 (0, 0, 0) [l0, l1, l2, l3, l4, l5, ab_I z, l7] st σ Q ↔ ab_Run X 197 94 (0, 0, 0) [l0, l1, l2, l3, l4, l5, ab_I z, l7] (ab_I z :: st) σ Q := ab_r_iload rfl kc_X13_feed dX13_feed_92
theorem rX13_feed_94 : ab_Run X 197 94 (0, 0, 0) L st σ Q ↔ ab_Run X 197 95 (0, 0, 0) L (ab_I 4 :: st) σ Q := ab_r_iconst (by decide) kc_X13_feed dX13_feed_94
theorem rX13_feed_95 : ab_Run X 197 95 (0, 0, 0) L (ab_I b :: ab_I a :: st) σ Q ↔ b ≠ 0 ∧ ab_Run X 197 96 (0, 0, 0) L (ab_I (a.tmod b) :: st) σ Q := ab_r_irem kc_X13_feed dX13_feed_95
theorem rX13_feed_96 : ab_Run X 197 96 (0, 0, 0) L (ab_I b :: ab_I a :: st) σ Q ↔ ab_Run X 197 97 (0, 0, 0) L (ab_I (ab_w32 (a * b)) :: st) σ Q := ab_r_imul kc_X13_feed dX13_feed_96
theorem rX13_feed_97 : ab_Run X 197 97 (0, 0, 0) L (ab_I b :: ab_I a :: st) σ Q ↔ ab_Run X 197 98 (0, 0, 0) L (ab_I (ab_w32 (a - b)) :: st) σ Q := ab_r_isub kc_X13_feed dX13_feed_97
theorem rX13_feed_98 : ab_Run X 197 98 (0, 0, 0) L (ab_I b :: ab_I a :: st) σ Q ↔ ab_Run X 197 99 (0, 0, 0) L (ab_I (ab_ok32 (fun x y => x >>> (y &&& 31)) a b) :: st) σ Q := ab_r_ishr kc_X13_feed dX13_feed_98
theorem rX13_feed_99 : ab_Run X 197 99 (0, 0, 0) L (ab_I a :: st) σ Q ↔ ab_Run X 197 100 (0, 0, 0) L (ab_I (ab_w8 a) :: st) σ Q := ab_r_i2b kc_X13_feed dX13_feed_99
theorem rX13_feed_100B (h : (ab_sh σ a).1 = 23 ∧ 0 ≤ i ∧ i < (ab_sh σ a).2) : ab_Run X 197 100 (0, 0, 0) L (ab_I v :: ab_I i :: ab_R a :: st) σ Q ↔ ab_Run X 197 101 (0, 0, 0) L st (ab_wr σ a i (ab_w8 v)) Q := ab_r_bastoreB h kc_X13_feed dX13_feed_100
theorem rX13_feed_100Z (h : (ab_sh σ a).1 = 24 ∧ 0 ≤ i ∧ i < (ab_sh σ a).2 ∧ (v = 0 ∨ v = 1)) : ab_Run X 197 100 (0, 0, 0) L (ab_I v :: ab_I i :: ab_R a :: st) σ Q ↔ ab_Run X 197 101 (0, 0, 0) L st (ab_wr σ a i v) Q := ab_r_bastoreZ h kc_X13_feed dX13_feed_100
theorem rX13_feed_101 : ab_Run X 197 101 (0, 0, 0) [ab_R z, l1, l2, l3, l4, l5, l6, l7] st σ Q ↔ z ≠ 0 ∧ ab_Run X 197 102 (0, 0, 0) [ab_R z, l1, l2, l3, l4, l5, l6, l7] (ab_R z :: st) σ Q := ab_r_aload_n rfl kc_X13_feed dX13_feed_101
theorem rX13_feed_102I : ab_Run X 197 102 (0, 0, 0) L (ab_I a :: st) σ Q ↔ ab_Run X 197 103 (0, 0, 0) L (ab_I a :: ab_I a :: st) σ Q := ab_r_dupI kc_X13_feed dX13_feed_102
theorem rX13_feed_102R : ab_Run X 197 102 (0, 0, 0) L (ab_R a :: st) σ Q ↔ ab_Run X 197 103 (0, 0, 0) L (ab_R a :: ab_R a :: st) σ Q := ab_r_dupR kc_X13_feed dX13_feed_102
theorem rX13_feed_103 : ab_Run X 197 103 (0, 0, 0) L (ab_R a :: st) σ Q ↔ (ab_sh σ a).1 = 14 ∧ ab_Run X 197 106 (0, 0, 0) L (ab_I (ab_rd σ a 6) :: st) σ Q := gF_13_366 ko_X13_feed kc_X13_feed dX13_feed_103
theorem rX13_feed_106 : ab_Run X 197 106 (0, 0, 0) L st σ Q ↔ ab_Run X 197 107 (0, 0, 0) L (ab_I 1 :: st) σ Q := ab_r_iconst (by decide) kc_X13_feed dX13_feed_106
theorem rX13_feed_107 : ab_Run X 197 107 (0, 0, 0) L (ab_I b :: ab_I a :: st) σ Q ↔ ab_Run X 197 108 (0, 0, 0) L (ab_I (ab_w32 (a + b)) :: st) σ Q := ab_r_iadd kc_X13_feed dX13_feed_107
theorem rX13_feed_108 : ab_Run X 197 108 (0, 0, 0) L (ab_I z :: ab_R a :: st) σ Q ↔ (ab_sh σ a).1 = 14 ∧ ab_Run X 197 111 (0, 0, 0) L st (ab_wr σ a 6 z) Q := sF_13_366 ko_X13_feed kc_X13_feed dX13_feed_108
theorem rX13_feed_111 : ab_Run X 197 111 (0, 0, 0) [l0, l1, l2, l3, l4, l5, ab_I z, l7] st σ Q ↔ (!ab_isJ l5) = true ∧ ab_Run X 197 114 (0, 0, 0) [l0, l1, l2, l3, l4, l5, ab_I (ab_w32 (z + 1)), l7] st σ Q := ab_r_iinc rfl (by decide) kc_X13_feed dX13_feed_111
theorem rX13_feed_114 : ab_Run X 197 114 (0, 0, 0) L st σ Q ↔ ab_Run X 197 23 (0, 0, 0) L st σ Q := ab_r_goto rfl kc_X13_feed dX13_feed_114
theorem rX13_feed_117 : ab_Run X 197 117 (0, 0, 0) [ab_R z, l1, l2, l3, l4, l5, l6, l7] st σ Q ↔ z ≠ 0 ∧ ab_Run X 197 118 (0, 0, 0) [ab_R z, l1, l2, l3, l4, l5, l6, l7] (ab_R z :: st) σ Q := ab_r_aload_n rfl kc_X13_feed dX13_feed_117
theorem rX13_feed_118 : ab_Run X 197 118 (0, 0, 0) L (ab_R a :: st) σ Q ↔ (ab_sh σ a).1 = 14 ∧ ab_Run X 197 121 (0, 0, 0) L (ab_I (ab_rd σ a 6) :: st) σ Q := gF_13_366 ko_X13_feed kc_X13_feed dX13_feed_118
theorem rX13_feed_121 : ab_Run X 197 121 (0, 0, 0) L [ab_I v] σ Q ↔ Q (some (ab_I v)) σ := ab_r_ireturnI rfl kc_X13_feed dX13_feed_121
theorem kc_X13_kitchen : ab_code 198 = cX13_kitchen := rfl
theorem ko_X13_kitchen : ab_ow 198 = 13 := rfl
theorem rX13_kitchen_0 : ab_Run X 198 0 (18, 22, 244) [ab_R z, l1, l2] st σ Q ↔ z ≠ 0 ∧ ab_Run X 198 1 (18, 22, 244) [ab_R z, l1, l2] (ab_R z :: st) σ Q := ab_r_aload_n rfl kc_X13_kitchen dX13_kitchen_0
theorem rX13_kitchen_1 : ab_Run X 198 1 (18, 22, 244) L st σ Q ↔ ab_Run X 198 2 (18, 22, 244) L (ab_I 0 :: st) σ Q := ab_r_iconst (by decide) kc_X13_kitchen dX13_kitchen_1
theorem rX13_kitchen_2 : ab_Run X 198 2 (18, 22, 244) L (ab_I z :: ab_R a :: st) σ Q ↔ (ab_sh σ a).1 = 14 ∧ ab_Run X 198 5 (18, 22, 244) L st (ab_wr σ a 0 z) Q := sF_13_53 ko_X13_kitchen kc_X13_kitchen dX13_kitchen_2
theorem rX13_kitchen_5 : ab_Run X 198 5 (18, 22, 244) [l0, ab_I z, l2] st σ Q ↔ ab_Run X 198 6 (18, 22, 244) [l0, ab_I z, l2] (ab_I z :: st) σ Q := ab_r_iload_n rfl kc_X13_kitchen dX13_kitchen_5
theorem rX13_kitchen_6 : ab_Run X 198 6 (18, 22, 244) L (ab_I a :: st) σ Q ↔ (a < 0 → ab_Run X 198 17 (18, 22, 244) L st σ Q) ∧ (¬ (a < 0) → ab_Run X 198 9 (18, 22, 244) L st σ Q) := ab_r_if_lt rfl kc_X13_kitchen dX13_kitchen_6
theorem rX13_kitchen_9 : ab_Run X 198 9 (18, 22, 244) [l0, ab_I z, l2] st σ Q ↔ ab_Run X 198 10 (18, 22, 244) [l0, ab_I z, l2] (ab_I z :: st) σ Q := ab_r_iload_n rfl kc_X13_kitchen dX13_kitchen_9
theorem rX13_kitchen_10 : ab_Run X 198 10 (18, 22, 244) [ab_R z, l1, l2] st σ Q ↔ z ≠ 0 ∧ ab_Run X 198 11 (18, 22, 244) [ab_R z, l1, l2] (ab_R z :: st) σ Q := ab_r_aload_n rfl kc_X13_kitchen dX13_kitchen_10
theorem rX13_kitchen_11 : ab_Run X 198 11 (18, 22, 244) L (ab_R a :: st) σ Q ↔ (ab_sh σ a).1 = 14 ∧ ab_Run X 198 14 (18, 22, 244) L (ab_I (ab_rd σ a 6) :: st) σ Q := gF_13_366 ko_X13_kitchen kc_X13_kitchen dX13_kitchen_11
theorem rX13_kitchen_14 : ab_Run X 198 14 (18, 22, 244) L (ab_I b :: ab_I a :: st) σ Q ↔ (a ≤ b → ab_Run X 198 23 (18, 22, 244) L st σ Q) ∧ (¬ (a ≤ b) → ab_Run X 198 17 (18, 22, 244) L st σ Q) := ab_r_icmp_le rfl kc_X13_kitchen dX13_kitchen_14
theorem rX13_kitchen_17 : ab_Run X 198 17 (18, 22, 244) [ab_R z, l1, l2] st σ Q ↔ z ≠ 0 ∧ ab_Run X 198 18 (18, 22, 244) [ab_R z, l1, l2] (ab_R z :: st) σ Q := ab_r_aload_n rfl kc_X13_kitchen dX13_kitchen_17
theorem rX13_kitchen_18 : ab_Run X 198 18 (18, 22, 244) L st σ Q ↔ ab_Run X 198 19 (18, 22, 244) L (ab_I 2 :: st) σ Q := ab_r_iconst (by decide) kc_X13_kitchen dX13_kitchen_18
theorem rX13_kitchen_19 : ab_Run X 198 19 (18, 22, 244) L (ab_I x1 :: ab_R a :: st) σ Q ↔ ((ab_sh σ a).1 = 14 ∧ ab_cats st ≤ 8) ∧ ab_Do X 159 [ab_R a, ab_I x1] σ (fun r σ' => ab_Run X 198 22 (18, 22, 244) L (ab_psh r st) σ' Q) := ab_r_callV (w := [ab_I x1]) (as := [ab_I x1]) (b1 := (0, 0, 0)) 0 (Or.inl rfl) (by decide) ko_X13_kitchen qM_13_59 (by decide) rfl rfl rfl rfl rfl (by decide) (Nat.le_of_ble_eq_true rfl) kc_X13_kitchen dX13_kitchen_19
theorem rX13_kitchen_22 : ab_Run X 198 22 (18, 22, 244) L [ab_I v] σ Q ↔ Q (some (ab_I v)) σ := ab_r_ireturnI rfl kc_X13_kitchen dX13_kitchen_22
theorem rX13_kitchen_23 : ab_Run X 198 23 (18, 22, 244) [ab_R z, l1, l2] st σ Q ↔ z ≠ 0 ∧ ab_Run X 198 24 (18, 22, 244) [ab_R z, l1, l2] (ab_R z :: st) σ Q := ab_r_aload_n rfl kc_X13_kitchen dX13_kitchen_23
theorem rX13_kitchen_24 : ab_Run X 198 24 (18, 22, 244) [l0, ab_I z, l2] st σ Q ↔ ab_Run X 198 25 (18, 22, 244) [l0, ab_I z, l2] (ab_I z :: st) σ Q := ab_r_iload_n rfl kc_X13_kitchen dX13_kitchen_24
theorem rX13_kitchen_25 : ab_Run X 198 25 (18, 22, 244) L (ab_I z :: ab_R a :: st) σ Q ↔ (ab_sh σ a).1 = 14 ∧ ab_Run X 198 28 (18, 22, 244) L st (ab_wr σ a 7 z) Q := sF_13_70 ko_X13_kitchen kc_X13_kitchen dX13_kitchen_25
theorem rX13_kitchen_28 : ab_Run X 198 28 (18, 22, 244) [ab_R z, l1, l2] st σ Q ↔ z ≠ 0 ∧ ab_Run X 198 29 (18, 22, 244) [ab_R z, l1, l2] (ab_R z :: st) σ Q := ab_r_aload_n rfl kc_X13_kitchen dX13_kitchen_28
theorem rX13_kitchen_29 : ab_Run X 198 29 (18, 22, 244) L st σ Q ↔ ab_Run X 198 30 (18, 22, 244) L (ab_I 0 :: st) σ Q := ab_r_iconst (by decide) kc_X13_kitchen dX13_kitchen_29
theorem rX13_kitchen_30 : ab_Run X 198 30 (18, 22, 244) L (ab_I z :: ab_R a :: st) σ Q ↔ (ab_sh σ a).1 = 14 ∧ ab_Run X 198 33 (18, 22, 244) L st (ab_wr σ a 6 z) Q := sF_13_366 ko_X13_kitchen kc_X13_kitchen dX13_kitchen_30
theorem rX13_kitchen_33 : ab_Run X 198 33 (18, 22, 244) [ab_R z, l1, l2] st σ Q ↔ z ≠ 0 ∧ ab_Run X 198 34 (18, 22, 244) [ab_R z, l1, l2] (ab_R z :: st) σ Q := ab_r_aload_n rfl kc_X13_kitchen dX13_kitchen_33
theorem rX13_kitchen_34 : ab_Run X 198 34 (18, 22, 244) L st σ Q ↔ ab_Run X 198 35 (18, 22, 244) L (ab_I 0 :: st) σ Q := ab_r_iconst (by decide) kc_X13_kitchen dX13_kitchen_34
theorem rX13_kitchen_35 : ab_Run X 198 35 (18, 22, 244) L (ab_I z :: ab_R a :: st) σ Q ↔ (ab_sh σ a).1 = 14 ∧ ab_Run X 198 38 (18, 22, 244) L st (ab_wr σ a 8 z) Q := sF_13_88 ko_X13_kitchen kc_X13_kitchen dX13_kitchen_35
theorem rX13_kitchen_38 : ab_Run X 198 38 (18, 22, 244) [ab_R z, l1, l2] st σ Q ↔ z ≠ 0 ∧ ab_Run X 198 39 (18, 22, 244) [ab_R z, l1, l2] (ab_R z :: st) σ Q := ab_r_aload_n rfl kc_X13_kitchen dX13_kitchen_38
theorem rX13_kitchen_39 : ab_Run X 198 39 (18, 22, 244) L st σ Q ↔ ab_Run X 198 40 (18, 22, 244) L (ab_I 0 :: st) σ Q := ab_r_iconst (by decide) kc_X13_kitchen dX13_kitchen_39
theorem rX13_kitchen_40 : ab_Run X 198 40 (18, 22, 244) L (ab_I z :: ab_R a :: st) σ Q ↔ (ab_sh σ a).1 = 14 ∧ ab_Run X 198 43 (18, 22, 244) L st (ab_wr σ a 13 z) Q := sF_13_114 ko_X13_kitchen kc_X13_kitchen dX13_kitchen_40
theorem rX13_kitchen_43 : ab_Run X 198 43 (18, 22, 244) [ab_R z, l1, l2] st σ Q ↔ z ≠ 0 ∧ ab_Run X 198 44 (18, 22, 244) [ab_R z, l1, l2] (ab_R z :: st) σ Q := ab_r_aload_n rfl kc_X13_kitchen dX13_kitchen_43
-- skip rX13_kitchen_44 .new 176
theorem rX13_kitchen_47I : ab_Run X 198 47 (18, 21, 211) L (ab_I a :: st) σ Q ↔ ab_Run X 198 48 (18, 21, 211) L (ab_I a :: ab_I a :: st) σ Q := ab_r_dupI kc_X13_kitchen dX13_kitchen_47
theorem rX13_kitchen_47R : ab_Run X 198 47 (18, 21, 211) L (ab_R a :: st) σ Q ↔ ab_Run X 198 48 (18, 21, 211) L (ab_R a :: ab_R a :: st) σ Q := ab_r_dupR kc_X13_kitchen dX13_kitchen_47
theorem rX13_kitchen_48 : ab_Run X 198 48 (18, 21, 211) L (ab_R a :: st) σ Q ↔ ((ab_sh σ a).1 = 13 ∧ ab_cats st ≤ 8) ∧ ab_Do X 152 [ab_R a] σ (fun r σ' => ab_Run X 198 51 (18, 0, 0) L (ab_psh r st) σ' Q) := ab_r_callV (w := []) (as := []) (b1 := (1, 21, 211)) 2 (Or.inr rfl) (by decide) ko_X13_kitchen qM_13_369 (by decide) rfl rfl rfl rfl rfl (by decide) (Nat.le_of_ble_eq_true rfl) kc_X13_kitchen dX13_kitchen_48
theorem rX13_kitchen_51 : ab_Run X 198 51 (18, 0, 0) L (ab_R z :: ab_R a :: st) σ Q ↔ (ab_sh σ a).1 = 14 ∧ ab_Run X 198 54 (18, 0, 0) L st (ab_wr σ a 4 z) Q := sF_13_171 ko_X13_kitchen kc_X13_kitchen dX13_kitchen_51
theorem rX13_kitchen_54 : ab_Run X 198 54 (18, 0, 0) [ab_R z, l1, l2] st σ Q ↔ z ≠ 0 ∧ ab_Run X 198 55 (18, 0, 0) [ab_R z, l1, l2] (ab_R z :: st) σ Q := ab_r_aload_n rfl kc_X13_kitchen dX13_kitchen_54
theorem rX13_kitchen_55 : ab_Run X 198 55 (18, 0, 0) L st σ Q ↔ ab_Run X 198 56 (18, 0, 0) L (ab_I 0 :: st) σ Q := ab_r_iconst (by decide) kc_X13_kitchen dX13_kitchen_55
theorem rX13_kitchen_56 : ab_Run X 198 56 (18, 0, 0) L (ab_I z :: ab_R a :: st) σ Q ↔ (ab_sh σ a).1 = 14 ∧ ab_Run X 198 59 (18, 0, 0) L st (ab_wr σ a 9 z) Q := sF_13_85 ko_X13_kitchen kc_X13_kitchen dX13_kitchen_56
theorem rX13_kitchen_59 : ab_Run X 198 59 (18, 0, 0) [ab_R z, l1, l2] st σ Q ↔ z ≠ 0 ∧ ab_Run X 198 60 (18, 0, 0) [ab_R z, l1, l2] (ab_R z :: st) σ Q := ab_r_aload_n rfl kc_X13_kitchen dX13_kitchen_59
theorem rX13_kitchen_60 : ab_Run X 198 60 (18, 0, 0) L (ab_R a :: st) σ Q ↔ ((ab_sh σ a).1 = 14 ∧ ab_cats st ≤ 8) ∧ ab_Do X 171 [ab_R a] σ (fun r σ' => ab_Run X 198 63 (18, 0, 0) L (ab_psh r st) σ' Q) := ab_r_callV (w := []) (as := []) (b1 := (1, 0, 0)) 0 (Or.inl rfl) (by decide) ko_X13_kitchen qM_13_127 (by decide) rfl rfl rfl rfl rfl (by decide) (Nat.le_of_ble_eq_true rfl) kc_X13_kitchen dX13_kitchen_60
theorem rX13_kitchen_63 : ab_Run X 198 63 (18, 0, 0) [ab_R z, l1, l2] st σ Q ↔ z ≠ 0 ∧ ab_Run X 198 64 (18, 0, 0) [ab_R z, l1, l2] (ab_R z :: st) σ Q := ab_r_aload_n rfl kc_X13_kitchen dX13_kitchen_63
theorem rX13_kitchen_64 : ab_Run X 198 64 (18, 0, 0) L (ab_R a :: st) σ Q ↔ ((ab_sh σ a).1 = 14 ∧ ab_cats st ≤ 8) ∧ ab_Do X 187 [ab_R a] σ (fun r σ' => ab_Run X 198 67 (18, 0, 0) L (ab_psh r st) σ' Q) := ab_r_callV (w := []) (as := []) (b1 := (17, 0, 0)) 0 (Or.inl rfl) (by decide) ko_X13_kitchen qM_13_370 (by decide) rfl rfl rfl rfl rfl (by decide) (Nat.le_of_ble_eq_true rfl) kc_X13_kitchen dX13_kitchen_64
theorem rX13_kitchen_67 : ab_Run X 198 67 (18, 0, 0) [ab_R z, l1, l2] st σ Q ↔ z ≠ 0 ∧ ab_Run X 198 68 (18, 0, 0) [ab_R z, l1, l2] (ab_R z :: st) σ Q := ab_r_aload_n rfl kc_X13_kitchen dX13_kitchen_67
theorem rX13_kitchen_68 : ab_Run X 198 68 (18, 0, 0) L (ab_R a :: st) σ Q ↔ (ab_sh σ a).1 = 14 ∧ ab_Run X 198 71 (18, 0, 0) L (ab_I (ab_rd σ a 13) :: st) σ Q := gF_13_114 ko_X13_kitchen kc_X13_kitchen dX13_kitchen_68
theorem rX13_kitchen_71 : ab_Run X 198 71 (18, 0, 0) L (ab_I a :: st) σ Q ↔ (a ≤ 0 → ab_Run X 198 89 (18, 0, 0) L st σ Q) ∧ (¬ (a ≤ 0) → ab_Run X 198 74 (18, 0, 0) L st σ Q) := ab_r_if_le rfl kc_X13_kitchen dX13_kitchen_71
theorem rX13_kitchen_74 : ab_Run X 198 74 (18, 0, 0) [ab_R z, l1, l2] st σ Q ↔ z ≠ 0 ∧ ab_Run X 198 75 (18, 0, 0) [ab_R z, l1, l2] (ab_R z :: st) σ Q := ab_r_aload_n rfl kc_X13_kitchen dX13_kitchen_74
theorem rX13_kitchen_75 : ab_Run X 198 75 (18, 0, 0) L st σ Q ↔ ab_Run X 198 76 (18, 0, 0) L (ab_I 4 :: st) σ Q := ab_r_iconst (by decide) kc_X13_kitchen dX13_kitchen_75
theorem rX13_kitchen_76 : ab_Run X 198 76 (18, 0, 0) L (ab_I z :: ab_R a :: st) σ Q ↔ (ab_sh σ a).1 = 14 ∧ ab_Run X 198 79 (18, 0, 0) L st (ab_wr σ a 1 z) Q := sF_13_56 ko_X13_kitchen kc_X13_kitchen dX13_kitchen_76
theorem rX13_kitchen_79 : ab_Run X 198 79 (18, 0, 0) [ab_R z, l1, l2] st σ Q ↔ z ≠ 0 ∧ ab_Run X 198 80 (18, 0, 0) [ab_R z, l1, l2] (ab_R z :: st) σ Q := ab_r_aload_n rfl kc_X13_kitchen dX13_kitchen_79
theorem rX13_kitchen_80 : ab_Run X 198 80 (18, 0, 0) [ab_R z, l1, l2] st σ Q ↔ z ≠ 0 ∧ ab_Run X 198 81 (18, 0, 0) [ab_R z, l1, l2] (ab_R z :: st) σ Q := ab_r_aload_n rfl kc_X13_kitchen dX13_kitchen_80
theorem rX13_kitchen_81 : ab_Run X 198 81 (18, 0, 0) L (ab_R a :: st) σ Q ↔ (ab_sh σ a).1 = 14 ∧ ab_Run X 198 84 (18, 0, 0) L (ab_I (ab_rd σ a 14) :: st) σ Q := gF_13_117 ko_X13_kitchen kc_X13_kitchen dX13_kitchen_81
theorem rX13_kitchen_84 : ab_Run X 198 84 (18, 0, 0) L (ab_I z :: ab_R a :: st) σ Q ↔ (ab_sh σ a).1 = 14 ∧ ab_Run X 198 87 (18, 0, 0) L st (ab_wr σ a 2 z) Q := sF_13_9 ko_X13_kitchen kc_X13_kitchen dX13_kitchen_84
theorem rX13_kitchen_87 : ab_Run X 198 87 (18, 0, 0) L st σ Q ↔ ab_Run X 198 88 (18, 0, 0) L (ab_I (-1) :: st) σ Q := ab_r_iconst (by decide) kc_X13_kitchen dX13_kitchen_87
theorem rX13_kitchen_88 : ab_Run X 198 88 (18, 0, 0) L [ab_I v] σ Q ↔ Q (some (ab_I v)) σ := ab_r_ireturnI rfl kc_X13_kitchen dX13_kitchen_88
theorem rX13_kitchen_89 : ab_Run X 198 89 (18, 0, 0) [ab_R z, l1, l2] st σ Q ↔ z ≠ 0 ∧ ab_Run X 198 90 (18, 0, 0) [ab_R z, l1, l2] (ab_R z :: st) σ Q := ab_r_aload_n rfl kc_X13_kitchen dX13_kitchen_89
theorem rX13_kitchen_90 : ab_Run X 198 90 (18, 0, 0) [ab_R z, l1, l2] st σ Q ↔ z ≠ 0 ∧ ab_Run X 198 91 (18, 0, 0) [ab_R z, l1, l2] (ab_R z :: st) σ Q := ab_r_aload_n rfl kc_X13_kitchen dX13_kitchen_90
theorem rX13_kitchen_91 : ab_Run X 198 91 (18, 0, 0) L (ab_R a :: st) σ Q ↔ (ab_sh σ a).1 = 14 ∧ ab_Run X 198 94 (18, 0, 0) L (ab_R (ab_rd σ a 4) :: st) σ Q := gF_13_171 ko_X13_kitchen kc_X13_kitchen dX13_kitchen_91
theorem rX13_kitchen_94 : ab_Run X 198 94 (18, 0, 0) L (ab_R z :: ab_R a :: st) σ Q ↔ (ab_sh σ a).1 = 14 ∧ ab_Run X 198 97 (18, 0, 0) L st (ab_wr σ a 3 z) Q := sF_13_373 ko_X13_kitchen kc_X13_kitchen dX13_kitchen_94
theorem rX13_kitchen_97 : ab_Run X 198 97 (18, 0, 0) L st σ Q ↔ ab_Run X 198 98 (18, 0, 0) L (ab_I 0 :: st) σ Q := ab_r_iconst (by decide) kc_X13_kitchen dX13_kitchen_97
theorem rX13_kitchen_98 : ab_Run X 198 98 (18, 0, 0) [l0, l1, l2] (ab_I z :: st) σ Q ↔ (!ab_isJ l1) = true ∧ ab_Run X 198 99 (18, 0, 0) [l0, l1, ab_I z] st σ Q := ab_r_istore_n (Nat.le_of_ble_eq_true rfl) kc_X13_kitchen dX13_kitchen_98
theorem rX13_kitchen_99 : ab_Run X 198 99 (18, 0, 0) [l0, l1, ab_I z] st σ Q ↔ ab_Run X 198 100 (18, 0, 0) [l0, l1, ab_I z] (ab_I z :: st) σ Q := ab_r_iload_n rfl kc_X13_kitchen dX13_kitchen_99
theorem rX13_kitchen_100 : ab_Run X 198 100 (18, 0, 0) L st σ Q ↔ ab_Run X 198 102 (18, 0, 0) L (ab_I 18 :: st) σ Q := ab_r_bipush (by decide) kc_X13_kitchen dX13_kitchen_100
theorem rX13_kitchen_102 : ab_Run X 198 102 (18, 0, 0) L (ab_I b :: ab_I a :: st) σ Q ↔ (b ≤ a → ab_Run X 198 118 (18, 0, 0) L st σ Q) ∧ (¬ (b ≤ a) → ab_Run X 198 105 (18, 0, 0) L st σ Q) := ab_r_icmp_ge rfl kc_X13_kitchen dX13_kitchen_102
theorem rX13_kitchen_105 : ab_Run X 198 105 (18, 0, 0) [ab_R z, l1, l2] st σ Q ↔ z ≠ 0 ∧ ab_Run X 198 106 (18, 0, 0) [ab_R z, l1, l2] (ab_R z :: st) σ Q := ab_r_aload_n rfl kc_X13_kitchen dX13_kitchen_105
theorem rX13_kitchen_106 : ab_Run X 198 106 (18, 0, 0) L (ab_R a :: st) σ Q ↔ (ab_sh σ a).1 = 14 ∧ ab_Run X 198 109 (18, 0, 0) L (ab_R (ab_rd σ a 16) :: st) σ Q := gF_13_17 ko_X13_kitchen kc_X13_kitchen dX13_kitchen_106
theorem rX13_kitchen_109 : ab_Run X 198 109 (18, 0, 0) [l0, l1, ab_I z] st σ Q ↔ ab_Run X 198 110 (18, 0, 0) [l0, l1, ab_I z] (ab_I z :: st) σ Q := ab_r_iload_n rfl kc_X13_kitchen dX13_kitchen_109
theorem rX13_kitchen_110 : ab_Run X 198 110 (18, 0, 0) L st σ Q ↔ ab_Run X 198 111 (18, 0, 0) L (ab_I 0 :: st) σ Q := ab_r_iconst (by decide) kc_X13_kitchen dX13_kitchen_110
theorem rX13_kitchen_111 : ab_Run X 198 111 (18, 0, 0) L (ab_I v :: ab_I i :: ab_R a :: st) σ Q ↔ ((ab_sh σ a).1 = 21 ∧ 0 ≤ i ∧ i < (ab_sh σ a).2) ∧ ab_Run X 198 112 (18, 0, 0) L st (ab_wr σ a i v) Q := ab_r_iastore kc_X13_kitchen dX13_kitchen_111
theorem rX13_kitchen_112 : ab_Run X 198 112 (18, 0, 0) [l0, l1, ab_I z] st σ Q ↔ (!ab_isJ l1) = true ∧ ab_Run X 198 115 (18, 0, 0) [l0, l1, ab_I (ab_w32 (z + 1))] st σ Q := ab_r_iinc rfl (by decide) kc_X13_kitchen dX13_kitchen_112
theorem rX13_kitchen_115 : ab_Run X 198 115 (18, 0, 0) L st σ Q ↔ ab_Run X 198 99 (18, 0, 0) L st σ Q := ab_r_goto rfl kc_X13_kitchen dX13_kitchen_115
theorem rX13_kitchen_118 : ab_Run X 198 118 (18, 0, 0) L st σ Q ↔ ab_Run X 198 119 (18, 0, 0) L (ab_I 0 :: st) σ Q := ab_r_iconst (by decide) kc_X13_kitchen dX13_kitchen_118
theorem rX13_kitchen_119 : ab_Run X 198 119 (18, 0, 0) [l0, l1, l2] (ab_I z :: st) σ Q ↔ (!ab_isJ l1) = true ∧ ab_Run X 198 120 (18, 0, 0) [l0, l1, ab_I z] st σ Q := ab_r_istore_n (Nat.le_of_ble_eq_true rfl) kc_X13_kitchen dX13_kitchen_119
theorem rX13_kitchen_120 : ab_Run X 198 120 (18, 0, 0) [l0, l1, ab_I z] st σ Q ↔ ab_Run X 198 121 (18, 0, 0) [l0, l1, ab_I z] (ab_I z :: st) σ Q := ab_r_iload_n rfl kc_X13_kitchen dX13_kitchen_120
theorem rX13_kitchen_121 : ab_Run X 198 121 (18, 0, 0) L st σ Q ↔ ab_Run X 198 122 (18, 0, 0) L (ab_I 5 :: st) σ Q := ab_r_iconst (by decide) kc_X13_kitchen dX13_kitchen_121
theorem rX13_kitchen_122 : ab_Run X 198 122 (18, 0, 0) L (ab_I b :: ab_I a :: st) σ Q ↔ (b ≤ a → ab_Run X 198 165 (18, 0, 0) L st σ Q) ∧ (¬ (b ≤ a) → ab_Run X 198 125 (18, 0, 0) L st σ Q) := ab_r_icmp_ge rfl kc_X13_kitchen dX13_kitchen_122
theorem rX13_kitchen_125 : ab_Run X 198 125 (18, 0, 0) [ab_R z, l1, l2] st σ Q ↔ z ≠ 0 ∧ ab_Run X 198 126 (18, 0, 0) [ab_R z, l1, l2] (ab_R z :: st) σ Q := ab_r_aload_n rfl kc_X13_kitchen dX13_kitchen_125
theorem rX13_kitchen_126 : ab_Run X 198 126 (18, 0, 0) L (ab_R a :: st) σ Q ↔ (ab_sh σ a).1 = 14 ∧ ab_Run X 198 129 (18, 0, 0) L (ab_R (ab_rd σ a 16) :: st) σ Q := gF_13_17 ko_X13_kitchen kc_X13_kitchen dX13_kitchen_126
theorem rX13_kitchen_129 : ab_Run X 198 129 (18, 0, 0) L st σ Q ↔ ab_Run X 198 130 (18, 0, 0) L (ab_I 0 :: st) σ Q := ab_r_iconst (by decide) kc_X13_kitchen dX13_kitchen_129
theorem rX13_kitchen_130 : ab_Run X 198 130 (18, 0, 0) [l0, l1, ab_I z] st σ Q ↔ ab_Run X 198 131 (18, 0, 0) [l0, l1, ab_I z] (ab_I z :: st) σ Q := ab_r_iload_n rfl kc_X13_kitchen dX13_kitchen_130
theorem rX13_kitchen_131 : ab_Run X 198 131 (18, 0, 0) L (ab_I b :: ab_I a :: st) σ Q ↔ ab_Run X 198 132 (18, 0, 0) L (ab_I (ab_w32 (a + b)) :: st) σ Q := ab_r_iadd kc_X13_kitchen dX13_kitchen_131
theorem rX13_kitchen_132 : ab_Run X 198 132 (18, 0, 0) [ab_R z, l1, l2] st σ Q ↔ z ≠ 0 ∧ ab_Run X 198 133 (18, 0, 0) [ab_R z, l1, l2] (ab_R z :: st) σ Q := ab_r_aload_n rfl kc_X13_kitchen dX13_kitchen_132
theorem rX13_kitchen_133 : ab_Run X 198 133 (18, 0, 0) L (ab_R a :: st) σ Q ↔ (ab_sh σ a).1 = 14 ∧ ab_Run X 198 136 (18, 0, 0) L (ab_R (ab_rd σ a 3) :: st) σ Q := gF_13_373 ko_X13_kitchen kc_X13_kitchen dX13_kitchen_133
theorem rX13_kitchen_136 : ab_Run X 198 136 (18, 0, 0) L (ab_R a :: st) σ Q ↔ (ab_sh σ a).1 = 13 ∧ ab_Run X 198 139 (18, 0, 0) L (ab_R (ab_rd σ a 12) :: st) σ Q := gF_13_288 ko_X13_kitchen kc_X13_kitchen dX13_kitchen_136
theorem rX13_kitchen_139 : ab_Run X 198 139 (18, 0, 0) [l0, l1, ab_I z] st σ Q ↔ ab_Run X 198 140 (18, 0, 0) [l0, l1, ab_I z] (ab_I z :: st) σ Q := ab_r_iload_n rfl kc_X13_kitchen dX13_kitchen_139
theorem rX13_kitchen_140 : ab_Run X 198 140 (18, 0, 0) L (ab_I i :: ab_R a :: st) σ Q ↔ ((ab_sh σ a).1 = 21 ∧ 0 ≤ i ∧ i < (ab_sh σ a).2) ∧ ab_Run X 198 141 (18, 0, 0) L (ab_I (ab_rd σ a i) :: st) σ Q := ab_r_iaload (by decide) kc_X13_kitchen dX13_kitchen_140
theorem rX13_kitchen_141 : ab_Run X 198 141 (18, 0, 0) L (ab_I v :: ab_I i :: ab_R a :: st) σ Q ↔ ((ab_sh σ a).1 = 21 ∧ 0 ≤ i ∧ i < (ab_sh σ a).2) ∧ ab_Run X 198 142 (18, 0, 0) L st (ab_wr σ a i v) Q := ab_r_iastore kc_X13_kitchen dX13_kitchen_141
theorem rX13_kitchen_142 : ab_Run X 198 142 (18, 0, 0) [ab_R z, l1, l2] st σ Q ↔ z ≠ 0 ∧ ab_Run X 198 143 (18, 0, 0) [ab_R z, l1, l2] (ab_R z :: st) σ Q := ab_r_aload_n rfl kc_X13_kitchen dX13_kitchen_142
theorem rX13_kitchen_143 : ab_Run X 198 143 (18, 0, 0) L (ab_R a :: st) σ Q ↔ (ab_sh σ a).1 = 14 ∧ ab_Run X 198 146 (18, 0, 0) L (ab_R (ab_rd σ a 16) :: st) σ Q := gF_13_17 ko_X13_kitchen kc_X13_kitchen dX13_kitchen_143
theorem rX13_kitchen_146 : ab_Run X 198 146 (18, 0, 0) L st σ Q ↔ ab_Run X 198 147 (18, 0, 0) L (ab_I 5 :: st) σ Q := ab_r_iconst (by decide) kc_X13_kitchen dX13_kitchen_146
theorem rX13_kitchen_147 : ab_Run X 198 147 (18, 0, 0) [l0, l1, ab_I z] st σ Q ↔ ab_Run X 198 148 (18, 0, 0) [l0, l1, ab_I z] (ab_I z :: st) σ Q := ab_r_iload_n rfl kc_X13_kitchen dX13_kitchen_147
theorem rX13_kitchen_148 : ab_Run X 198 148 (18, 0, 0) L (ab_I b :: ab_I a :: st) σ Q ↔ ab_Run X 198 149 (18, 0, 0) L (ab_I (ab_w32 (a + b)) :: st) σ Q := ab_r_iadd kc_X13_kitchen dX13_kitchen_148
theorem rX13_kitchen_149 : ab_Run X 198 149 (18, 0, 0) [ab_R z, l1, l2] st σ Q ↔ z ≠ 0 ∧ ab_Run X 198 150 (18, 0, 0) [ab_R z, l1, l2] (ab_R z :: st) σ Q := ab_r_aload_n rfl kc_X13_kitchen dX13_kitchen_149
theorem rX13_kitchen_150 : ab_Run X 198 150 (18, 0, 0) L (ab_R a :: st) σ Q ↔ (ab_sh σ a).1 = 14 ∧ ab_Run X 198 153 (18, 0, 0) L (ab_R (ab_rd σ a 3) :: st) σ Q := gF_13_373 ko_X13_kitchen kc_X13_kitchen dX13_kitchen_150
theorem rX13_kitchen_153 : ab_Run X 198 153 (18, 0, 0) L (ab_R a :: st) σ Q ↔ (ab_sh σ a).1 = 13 ∧ ab_Run X 198 156 (18, 0, 0) L (ab_R (ab_rd σ a 13) :: st) σ Q := gF_13_291 ko_X13_kitchen kc_X13_kitchen dX13_kitchen_153
theorem rX13_kitchen_156 : ab_Run X 198 156 (18, 0, 0) [l0, l1, ab_I z] st σ Q ↔ ab_Run X 198 157 (18, 0, 0) [l0, l1, ab_I z] (ab_I z :: st) σ Q := ab_r_iload_n rfl kc_X13_kitchen dX13_kitchen_156
theorem rX13_kitchen_157 : ab_Run X 198 157 (18, 0, 0) L (ab_I i :: ab_R a :: st) σ Q ↔ ((ab_sh σ a).1 = 21 ∧ 0 ≤ i ∧ i < (ab_sh σ a).2) ∧ ab_Run X 198 158 (18, 0, 0) L (ab_I (ab_rd σ a i) :: st) σ Q := ab_r_iaload (by decide) kc_X13_kitchen dX13_kitchen_157
theorem rX13_kitchen_158 : ab_Run X 198 158 (18, 0, 0) L (ab_I v :: ab_I i :: ab_R a :: st) σ Q ↔ ((ab_sh σ a).1 = 21 ∧ 0 ≤ i ∧ i < (ab_sh σ a).2) ∧ ab_Run X 198 159 (18, 0, 0) L st (ab_wr σ a i v) Q := ab_r_iastore kc_X13_kitchen dX13_kitchen_158
theorem rX13_kitchen_159 : ab_Run X 198 159 (18, 0, 0) [l0, l1, ab_I z] st σ Q ↔ (!ab_isJ l1) = true ∧ ab_Run X 198 162 (18, 0, 0) [l0, l1, ab_I (ab_w32 (z + 1))] st σ Q := ab_r_iinc rfl (by decide) kc_X13_kitchen dX13_kitchen_159
theorem rX13_kitchen_162 : ab_Run X 198 162 (18, 0, 0) L st σ Q ↔ ab_Run X 198 120 (18, 0, 0) L st σ Q := ab_r_goto rfl kc_X13_kitchen dX13_kitchen_162
theorem rX13_kitchen_165 : ab_Run X 198 165 (18, 0, 0) [ab_R z, l1, l2] st σ Q ↔ z ≠ 0 ∧ ab_Run X 198 166 (18, 0, 0) [ab_R z, l1, l2] (ab_R z :: st) σ Q := ab_r_aload_n rfl kc_X13_kitchen dX13_kitchen_165
theorem rX13_kitchen_166 : ab_Run X 198 166 (18, 0, 0) L st σ Q ↔ ab_Run X 198 167 (18, 0, 0) L (ab_I 0 :: st) σ Q := ab_r_iconst (by decide) kc_X13_kitchen dX13_kitchen_166
theorem rX13_kitchen_167 : ab_Run X 198 167 (18, 0, 0) L (ab_I z :: ab_R a :: st) σ Q ↔ (ab_sh σ a).1 = 14 ∧ ab_Run X 198 170 (18, 0, 0) L st (ab_wr σ a 19 z) Q := sF_13_375 ko_X13_kitchen kc_X13_kitchen dX13_kitchen_167
theorem rX13_kitchen_170 : ab_Run X 198 170 (18, 0, 0) [ab_R z, l1, l2] st σ Q ↔ z ≠ 0 ∧ ab_Run X 198 171 (18, 0, 0) [ab_R z, l1, l2] (ab_R z :: st) σ Q := ab_r_aload_n rfl kc_X13_kitchen dX13_kitchen_170
theorem rX13_kitchen_171 : ab_Run X 198 171 (18, 0, 0) L st σ Q ↔ ab_Run X 198 172 (18, 0, 0) L (ab_I 0 :: st) σ Q := ab_r_iconst (by decide) kc_X13_kitchen dX13_kitchen_171
theorem rX13_kitchen_172 : ab_Run X 198 172 (18, 0, 0) L (ab_I z :: ab_R a :: st) σ Q ↔ (ab_sh σ a).1 = 14 ∧ ab_Run X 198 175 (18, 0, 0) L st (ab_wr σ a 20 z) Q := sF_13_378 ko_X13_kitchen kc_X13_kitchen dX13_kitchen_172
theorem rX13_kitchen_175 : ab_Run X 198 175 (18, 0, 0) [ab_R z, l1, l2] st σ Q ↔ z ≠ 0 ∧ ab_Run X 198 176 (18, 0, 0) [ab_R z, l1, l2] (ab_R z :: st) σ Q := ab_r_aload_n rfl kc_X13_kitchen dX13_kitchen_175
theorem rX13_kitchen_176 : ab_Run X 198 176 (18, 0, 0) [ab_R z, l1, l2] st σ Q ↔ z ≠ 0 ∧ ab_Run X 198 177 (18, 0, 0) [ab_R z, l1, l2] (ab_R z :: st) σ Q := ab_r_aload_n rfl kc_X13_kitchen dX13_kitchen_176
theorem rX13_kitchen_177 : ab_Run X 198 177 (18, 0, 0) L (ab_R a :: st) σ Q ↔ (ab_sh σ a).1 = 14 ∧ ab_Run X 198 180 (18, 0, 0) L (ab_R (ab_rd σ a 3) :: st) σ Q := gF_13_373 ko_X13_kitchen kc_X13_kitchen dX13_kitchen_177
theorem rX13_kitchen_180 : ab_Run X 198 180 (18, 0, 0) L (ab_R a :: st) σ Q ↔ (ab_sh σ a).1 = 13 ∧ ab_Run X 198 183 (18, 0, 0) L (ab_I (ab_rd σ a 5) :: st) σ Q := gF_13_210 ko_X13_kitchen kc_X13_kitchen dX13_kitchen_180
theorem rX13_kitchen_183 : ab_Run X 198 183 (18, 0, 0) L (ab_I x1 :: ab_R a :: st) σ Q ↔ ((ab_sh σ a).1 = 14 ∧ ab_cats st ≤ 8) ∧ ab_Do X 161 [ab_R a, ab_I x1] σ (fun r σ' => ab_Run X 198 186 (18, 0, 0) L (ab_psh r st) σ' Q) := ab_r_callV (w := [ab_I x1]) (as := [ab_I x1]) (b1 := (0, 0, 0)) 0 (Or.inl rfl) (by decide) ko_X13_kitchen qM_13_63 (by decide) rfl rfl rfl rfl rfl (by decide) (Nat.le_of_ble_eq_true rfl) kc_X13_kitchen dX13_kitchen_183
theorem rX13_kitchen_186 : ab_Run X 198 186 (18, 0, 0) L [ab_I v] σ Q ↔ Q (some (ab_I v)) σ := ab_r_ireturnI rfl kc_X13_kitchen dX13_kitchen_186
theorem kc_X13_fault : ab_code 199 = cX13_fault := rfl
theorem ko_X13_fault : ab_ow 199 = 13 := rfl
theorem rX13_fault_0 : ab_Run X 199 0 (0, 0, 0) [ab_R z] st σ Q ↔ z ≠ 0 ∧ ab_Run X 199 1 (0, 0, 0) [ab_R z] (ab_R z :: st) σ Q := ab_r_aload_n rfl kc_X13_fault dX13_fault_0
theorem rX13_fault_1 : ab_Run X 199 1 (0, 0, 0) L st σ Q ↔ ab_Run X 199 2 (0, 0, 0) L (ab_I 0 :: st) σ Q := ab_r_iconst (by decide) kc_X13_fault dX13_fault_1
theorem rX13_fault_2 : ab_Run X 199 2 (0, 0, 0) L (ab_I z :: ab_R a :: st) σ Q ↔ (ab_sh σ a).1 = 14 ∧ ab_Run X 199 5 (0, 0, 0) L st (ab_wr σ a 0 z) Q := sF_13_53 ko_X13_fault kc_X13_fault dX13_fault_2
theorem rX13_fault_5 : ab_Run X 199 5 (0, 0, 0) [ab_R z] st σ Q ↔ z ≠ 0 ∧ ab_Run X 199 6 (0, 0, 0) [ab_R z] (ab_R z :: st) σ Q := ab_r_aload_n rfl kc_X13_fault dX13_fault_5
theorem rX13_fault_6 : ab_Run X 199 6 (0, 0, 0) L (ab_R a :: st) σ Q ↔ (ab_sh σ a).1 = 14 ∧ ab_Run X 199 9 (0, 0, 0) L (ab_I (ab_rd σ a 13) :: st) σ Q := gF_13_114 ko_X13_fault kc_X13_fault dX13_fault_6
theorem rX13_fault_9 : ab_Run X 199 9 (0, 0, 0) L [ab_I v] σ Q ↔ Q (some (ab_I v)) σ := ab_r_ireturnI rfl kc_X13_fault dX13_fault_9
theorem kc_X13_where : ab_code 200 = cX13_where := rfl
theorem ko_X13_where : ab_ow 200 = 13 := rfl
theorem rX13_where_0 : ab_Run X 200 0 (0, 0, 0) [ab_R z] st σ Q ↔ z ≠ 0 ∧ ab_Run X 200 1 (0, 0, 0) [ab_R z] (ab_R z :: st) σ Q := ab_r_aload_n rfl kc_X13_where dX13_where_0
theorem rX13_where_1 : ab_Run X 200 1 (0, 0, 0) L st σ Q ↔ ab_Run X 200 2 (0, 0, 0) L (ab_I 0 :: st) σ Q := ab_r_iconst (by decide) kc_X13_where dX13_where_1
theorem rX13_where_2 : ab_Run X 200 2 (0, 0, 0) L (ab_I z :: ab_R a :: st) σ Q ↔ (ab_sh σ a).1 = 14 ∧ ab_Run X 200 5 (0, 0, 0) L st (ab_wr σ a 0 z) Q := sF_13_53 ko_X13_where kc_X13_where dX13_where_2
theorem rX13_where_5 : ab_Run X 200 5 (0, 0, 0) [ab_R z] st σ Q ↔ z ≠ 0 ∧ ab_Run X 200 6 (0, 0, 0) [ab_R z] (ab_R z :: st) σ Q := ab_r_aload_n rfl kc_X13_where dX13_where_5
theorem rX13_where_6 : ab_Run X 200 6 (0, 0, 0) L (ab_R a :: st) σ Q ↔ (ab_sh σ a).1 = 14 ∧ ab_Run X 200 9 (0, 0, 0) L (ab_I (ab_rd σ a 2) :: st) σ Q := gF_13_9 ko_X13_where kc_X13_where dX13_where_6
theorem rX13_where_9 : ab_Run X 200 9 (0, 0, 0) L [ab_I v] σ Q ↔ Q (some (ab_I v)) σ := ab_r_ireturnI rfl kc_X13_where dX13_where_9
theorem kc_X13_isChild : ab_code 201 = cX13_isChild := rfl
theorem ko_X13_isChild : ab_ow 201 = 13 := rfl
theorem rX13_isChild_0 : ab_Run X 201 0 (0, 0, 0) [ab_R z, l1] st σ Q ↔ z ≠ 0 ∧ ab_Run X 201 1 (0, 0, 0) [ab_R z, l1] (ab_R z :: st) σ Q := ab_r_aload_n rfl kc_X13_isChild dX13_isChild_0
theorem rX13_isChild_1 : ab_Run X 201 1 (0, 0, 0) L (ab_R a :: st) σ Q ↔ (ab_sh σ a).1 = 14 ∧ ab_Run X 201 4 (0, 0, 0) L (ab_R (ab_rd σ a 3) :: st) σ Q := gF_13_373 ko_X13_isChild kc_X13_isChild dX13_isChild_1
theorem rX13_isChild_4 : ab_Run X 201 4 (0, 0, 0) L (ab_R a :: st) σ Q ↔ (ab_sh σ a).1 = 13 ∧ ab_Run X 201 7 (0, 0, 0) L (ab_R (ab_rd σ a 16) :: st) σ Q := gF_13_307 ko_X13_isChild kc_X13_isChild dX13_isChild_4
theorem rX13_isChild_7 : ab_Run X 201 7 (0, 0, 0) [l0, ab_I z] st σ Q ↔ ab_Run X 201 8 (0, 0, 0) [l0, ab_I z] (ab_I z :: st) σ Q := ab_r_iload_n rfl kc_X13_isChild dX13_isChild_7
theorem rX13_isChild_8 : ab_Run X 201 8 (0, 0, 0) L (ab_I i :: ab_R a :: st) σ Q ↔ ((ab_sh σ a).1 = 21 ∧ 0 ≤ i ∧ i < (ab_sh σ a).2) ∧ ab_Run X 201 9 (0, 0, 0) L (ab_I (ab_rd σ a i) :: st) σ Q := ab_r_iaload (by decide) kc_X13_isChild dX13_isChild_8
theorem rX13_isChild_9 : ab_Run X 201 9 (0, 0, 0) L st σ Q ↔ ab_Run X 201 10 (0, 0, 0) L (ab_I 2 :: st) σ Q := ab_r_iconst (by decide) kc_X13_isChild dX13_isChild_9
theorem rX13_isChild_10 : ab_Run X 201 10 (0, 0, 0) L (ab_I b :: ab_I a :: st) σ Q ↔ (¬ a = b → ab_Run X 201 17 (0, 0, 0) L st σ Q) ∧ (¬ (¬ a = b) → ab_Run X 201 13 (0, 0, 0) L st σ Q) := ab_r_icmp_ne rfl kc_X13_isChild dX13_isChild_10
theorem rX13_isChild_13 : ab_Run X 201 13 (0, 0, 0) L st σ Q ↔ ab_Run X 201 14 (0, 0, 0) L (ab_I 1 :: st) σ Q := ab_r_iconst (by decide) kc_X13_isChild dX13_isChild_13
theorem rX13_isChild_14 : ab_Run X 201 14 (0, 0, 0) L st σ Q ↔ ab_Run X 201 18 (0, 0, 0) L st σ Q := ab_r_goto rfl kc_X13_isChild dX13_isChild_14
theorem rX13_isChild_17 : ab_Run X 201 17 (0, 0, 0) L st σ Q ↔ ab_Run X 201 18 (0, 0, 0) L (ab_I 0 :: st) σ Q := ab_r_iconst (by decide) kc_X13_isChild dX13_isChild_17
theorem rX13_isChild_18 : ab_Run X 201 18 (0, 0, 0) L [ab_I v] σ Q ↔ (v = 0 ∨ v = 1) ∧ Q (some (ab_I v)) σ := ab_r_ireturnZ rfl kc_X13_isChild dX13_isChild_18
theorem kc_X13_lays : ab_code 202 = cX13_lays := rfl
theorem ko_X13_lays : ab_ow 202 = 13 := rfl
theorem rX13_lays_0 : ab_Run X 202 0 (1, 0, 0) [ab_R z, l1, l2, l3, l4, l5, l6] st σ Q ↔ z ≠ 0 ∧ ab_Run X 202 1 (1, 0, 0) [ab_R z, l1, l2, l3, l4, l5, l6] (ab_R z :: st) σ Q := ab_r_aload_n rfl kc_X13_lays dX13_lays_0
theorem rX13_lays_1 : ab_Run X 202 1 (1, 0, 0) [l0, ab_I z, l2, l3, l4, l5, l6] st σ Q ↔ ab_Run X 202 2 (1, 0, 0) [l0, ab_I z, l2, l3, l4, l5, l6] (ab_I z :: st) σ Q := ab_r_iload_n rfl kc_X13_lays dX13_lays_1
theorem rX13_lays_2 : ab_Run X 202 2 (1, 0, 0) L (ab_I z :: ab_R a :: st) σ Q ↔ (ab_sh σ a).1 = 14 ∧ ab_Run X 202 5 (1, 0, 0) L st (ab_wr σ a 21 z) Q := sF_13_381 ko_X13_lays kc_X13_lays dX13_lays_2
theorem rX13_lays_5 : ab_Run X 202 5 (1, 0, 0) [ab_R z, l1, l2, l3, l4, l5, l6] st σ Q ↔ z ≠ 0 ∧ ab_Run X 202 6 (1, 0, 0) [ab_R z, l1, l2, l3, l4, l5, l6] (ab_R z :: st) σ Q := ab_r_aload_n rfl kc_X13_lays dX13_lays_5
theorem rX13_lays_6 : ab_Run X 202 6 (1, 0, 0) [ab_R z, l1, l2, l3, l4, l5, l6] st σ Q ↔ z ≠ 0 ∧ ab_Run X 202 7 (1, 0, 0) [ab_R z, l1, l2, l3, l4, l5, l6] (ab_R z :: st) σ Q := ab_r_aload_n rfl kc_X13_lays dX13_lays_6
theorem rX13_lays_7 : ab_Run X 202 7 (1, 0, 0) L (ab_R a :: st) σ Q ↔ (ab_sh σ a).1 = 14 ∧ ab_Run X 202 10 (1, 0, 0) L (ab_R (ab_rd σ a 16) :: st) σ Q := gF_13_17 ko_X13_lays kc_X13_lays dX13_lays_7
theorem rX13_lays_10 : ab_Run X 202 10 (1, 0, 0) L st σ Q ↔ ab_Run X 202 11 (1, 0, 0) L (ab_I 5 :: st) σ Q := ab_r_iconst (by decide) kc_X13_lays dX13_lays_10
theorem rX13_lays_11 : ab_Run X 202 11 (1, 0, 0) [l0, ab_I z, l2, l3, l4, l5, l6] st σ Q ↔ ab_Run X 202 12 (1, 0, 0) [l0, ab_I z, l2, l3, l4, l5, l6] (ab_I z :: st) σ Q := ab_r_iload_n rfl kc_X13_lays dX13_lays_11
theorem rX13_lays_12 : ab_Run X 202 12 (1, 0, 0) L (ab_I b :: ab_I a :: st) σ Q ↔ ab_Run X 202 13 (1, 0, 0) L (ab_I (ab_w32 (a + b)) :: st) σ Q := ab_r_iadd kc_X13_lays dX13_lays_12
theorem rX13_lays_13 : ab_Run X 202 13 (1, 0, 0) L (ab_I i :: ab_R a :: st) σ Q ↔ ((ab_sh σ a).1 = 21 ∧ 0 ≤ i ∧ i < (ab_sh σ a).2) ∧ ab_Run X 202 14 (1, 0, 0) L (ab_I (ab_rd σ a i) :: st) σ Q := ab_r_iaload (by decide) kc_X13_lays dX13_lays_13
theorem rX13_lays_14 : ab_Run X 202 14 (1, 0, 0) L (ab_I z :: ab_R a :: st) σ Q ↔ (ab_sh σ a).1 = 14 ∧ ab_Run X 202 17 (1, 0, 0) L st (ab_wr σ a 22 z) Q := sF_13_383 ko_X13_lays kc_X13_lays dX13_lays_14
theorem rX13_lays_17 : ab_Run X 202 17 (1, 0, 0) [ab_R z, l1, l2, l3, l4, l5, l6] st σ Q ↔ z ≠ 0 ∧ ab_Run X 202 18 (1, 0, 0) [ab_R z, l1, l2, l3, l4, l5, l6] (ab_R z :: st) σ Q := ab_r_aload_n rfl kc_X13_lays dX13_lays_17
theorem rX13_lays_18 : ab_Run X 202 18 (1, 0, 0) L (ab_R a :: st) σ Q ↔ (ab_sh σ a).1 = 14 ∧ ab_Run X 202 21 (1, 0, 0) L (ab_R (ab_rd σ a 27) :: st) σ Q := gF_13_27 ko_X13_lays kc_X13_lays dX13_lays_18
theorem rX13_lays_21 : ab_Run X 202 21 (1, 0, 0) L st σ Q ↔ ab_Run X 202 22 (1, 0, 0) L (ab_I 0 :: st) σ Q := ab_r_iconst (by decide) kc_X13_lays dX13_lays_21
theorem rX13_lays_22 : ab_Run X 202 22 (1, 0, 0) [l0, l1, ab_I z, l3, l4, l5, l6] st σ Q ↔ ab_Run X 202 23 (1, 0, 0) [l0, l1, ab_I z, l3, l4, l5, l6] (ab_I z :: st) σ Q := ab_r_iload_n rfl kc_X13_lays dX13_lays_22
theorem rX13_lays_23 : ab_Run X 202 23 (1, 0, 0) L (ab_I v :: ab_I i :: ab_R a :: st) σ Q ↔ ((ab_sh σ a).1 = 21 ∧ 0 ≤ i ∧ i < (ab_sh σ a).2) ∧ ab_Run X 202 24 (1, 0, 0) L st (ab_wr σ a i v) Q := ab_r_iastore kc_X13_lays dX13_lays_23
theorem rX13_lays_24 : ab_Run X 202 24 (1, 0, 0) [ab_R z, l1, l2, l3, l4, l5, l6] st σ Q ↔ z ≠ 0 ∧ ab_Run X 202 25 (1, 0, 0) [ab_R z, l1, l2, l3, l4, l5, l6] (ab_R z :: st) σ Q := ab_r_aload_n rfl kc_X13_lays dX13_lays_24
theorem rX13_lays_25 : ab_Run X 202 25 (1, 0, 0) L (ab_R a :: st) σ Q ↔ (ab_sh σ a).1 = 14 ∧ ab_Run X 202 28 (1, 0, 0) L (ab_R (ab_rd σ a 27) :: st) σ Q := gF_13_27 ko_X13_lays kc_X13_lays dX13_lays_25
theorem rX13_lays_28 : ab_Run X 202 28 (1, 0, 0) L st σ Q ↔ ab_Run X 202 29 (1, 0, 0) L (ab_I 1 :: st) σ Q := ab_r_iconst (by decide) kc_X13_lays dX13_lays_28
theorem rX13_lays_29 : ab_Run X 202 29 (1, 0, 0) [l0, l1, l2, l3, ab_I z, l5, l6] st σ Q ↔ ab_Run X 202 31 (1, 0, 0) [l0, l1, l2, l3, ab_I z, l5, l6] (ab_I z :: st) σ Q := ab_r_iload rfl kc_X13_lays dX13_lays_29
theorem rX13_lays_31 : ab_Run X 202 31 (1, 0, 0) L (ab_I v :: ab_I i :: ab_R a :: st) σ Q ↔ ((ab_sh σ a).1 = 21 ∧ 0 ≤ i ∧ i < (ab_sh σ a).2) ∧ ab_Run X 202 32 (1, 0, 0) L st (ab_wr σ a i v) Q := ab_r_iastore kc_X13_lays dX13_lays_31
theorem rX13_lays_32 : ab_Run X 202 32 (1, 0, 0) [ab_R z, l1, l2, l3, l4, l5, l6] st σ Q ↔ z ≠ 0 ∧ ab_Run X 202 33 (1, 0, 0) [ab_R z, l1, l2, l3, l4, l5, l6] (ab_R z :: st) σ Q := ab_r_aload_n rfl kc_X13_lays dX13_lays_32
theorem rX13_lays_33 : ab_Run X 202 33 (1, 0, 0) L (ab_R a :: st) σ Q ↔ (ab_sh σ a).1 = 14 ∧ ab_Run X 202 36 (1, 0, 0) L (ab_R (ab_rd σ a 28) :: st) σ Q := gF_13_30 ko_X13_lays kc_X13_lays dX13_lays_33
theorem rX13_lays_36 : ab_Run X 202 36 (1, 0, 0) L st σ Q ↔ ab_Run X 202 37 (1, 0, 0) L (ab_I 0 :: st) σ Q := ab_r_iconst (by decide) kc_X13_lays dX13_lays_36
theorem rX13_lays_37 : ab_Run X 202 37 (1, 0, 0) [l0, l1, l2, ab_I z, l4, l5, l6] st σ Q ↔ ab_Run X 202 38 (1, 0, 0) [l0, l1, l2, ab_I z, l4, l5, l6] (ab_I z :: st) σ Q := ab_r_iload_n rfl kc_X13_lays dX13_lays_37
theorem rX13_lays_38 : ab_Run X 202 38 (1, 0, 0) L (ab_I v :: ab_I i :: ab_R a :: st) σ Q ↔ ((ab_sh σ a).1 = 21 ∧ 0 ≤ i ∧ i < (ab_sh σ a).2) ∧ ab_Run X 202 39 (1, 0, 0) L st (ab_wr σ a i v) Q := ab_r_iastore kc_X13_lays dX13_lays_38
theorem rX13_lays_39 : ab_Run X 202 39 (1, 0, 0) [ab_R z, l1, l2, l3, l4, l5, l6] st σ Q ↔ z ≠ 0 ∧ ab_Run X 202 40 (1, 0, 0) [ab_R z, l1, l2, l3, l4, l5, l6] (ab_R z :: st) σ Q := ab_r_aload_n rfl kc_X13_lays dX13_lays_39
theorem rX13_lays_40 : ab_Run X 202 40 (1, 0, 0) L (ab_R a :: st) σ Q ↔ (ab_sh σ a).1 = 14 ∧ ab_Run X 202 43 (1, 0, 0) L (ab_R (ab_rd σ a 28) :: st) σ Q := gF_13_30 ko_X13_lays kc_X13_lays dX13_lays_40
theorem rX13_lays_43 : ab_Run X 202 43 (1, 0, 0) L st σ Q ↔ ab_Run X 202 44 (1, 0, 0) L (ab_I 1 :: st) σ Q := ab_r_iconst (by decide) kc_X13_lays dX13_lays_43
theorem rX13_lays_44 : ab_Run X 202 44 (1, 0, 0) [l0, l1, l2, l3, l4, ab_I z, l6] st σ Q ↔ ab_Run X 202 46 (1, 0, 0) [l0, l1, l2, l3, l4, ab_I z, l6] (ab_I z :: st) σ Q := ab_r_iload rfl kc_X13_lays dX13_lays_44
theorem rX13_lays_46 : ab_Run X 202 46 (1, 0, 0) L (ab_I v :: ab_I i :: ab_R a :: st) σ Q ↔ ((ab_sh σ a).1 = 21 ∧ 0 ≤ i ∧ i < (ab_sh σ a).2) ∧ ab_Run X 202 47 (1, 0, 0) L st (ab_wr σ a i v) Q := ab_r_iastore kc_X13_lays dX13_lays_46
theorem rX13_lays_47 : ab_Run X 202 47 (1, 0, 0) [ab_R z, l1, l2, l3, l4, l5, l6] st σ Q ↔ z ≠ 0 ∧ ab_Run X 202 48 (1, 0, 0) [ab_R z, l1, l2, l3, l4, l5, l6] (ab_R z :: st) σ Q := ab_r_aload_n rfl kc_X13_lays dX13_lays_47
theorem rX13_lays_48 : ab_Run X 202 48 (1, 0, 0) L (ab_R a :: st) σ Q ↔ (ab_sh σ a).1 = 14 ∧ ab_Run X 202 51 (1, 0, 0) L (ab_R (ab_rd σ a 29) :: st) σ Q := gF_13_33 ko_X13_lays kc_X13_lays dX13_lays_48
theorem rX13_lays_51 : ab_Run X 202 51 (1, 0, 0) L st σ Q ↔ ab_Run X 202 52 (1, 0, 0) L (ab_I 0 :: st) σ Q := ab_r_iconst (by decide) kc_X13_lays dX13_lays_51
theorem rX13_lays_52 : ab_Run X 202 52 (1, 0, 0) [l0, l1, l2, l3, l4, l5, ab_I z] st σ Q ↔ ab_Run X 202 54 (1, 0, 0) [l0, l1, l2, l3, l4, l5, ab_I z] (ab_I z :: st) σ Q := ab_r_iload rfl kc_X13_lays dX13_lays_52
theorem rX13_lays_54 : ab_Run X 202 54 (1, 0, 0) L (ab_I a :: st) σ Q ↔ (a = 0 → ab_Run X 202 71 (1, 0, 0) L st σ Q) ∧ (¬ (a = 0) → ab_Run X 202 57 (1, 0, 0) L st σ Q) := ab_r_if_eq rfl kc_X13_lays dX13_lays_54
theorem rX13_lays_57 : ab_Run X 202 57 (1, 0, 0) [l0, l1, l2, l3, l4, l5, ab_I z] st σ Q ↔ ab_Run X 202 59 (1, 0, 0) [l0, l1, l2, l3, l4, l5, ab_I z] (ab_I z :: st) σ Q := ab_r_iload rfl kc_X13_lays dX13_lays_57
theorem rX13_lays_59 : ab_Run X 202 59 (1, 0, 0) L st σ Q ↔ ab_Run X 202 60 (1, 0, 0) L (ab_I 3 :: st) σ Q := ab_r_iconst (by decide) kc_X13_lays dX13_lays_59
theorem rX13_lays_60 : ab_Run X 202 60 (1, 0, 0) L (ab_I b :: ab_I a :: st) σ Q ↔ (a = b → ab_Run X 202 71 (1, 0, 0) L st σ Q) ∧ (¬ (a = b) → ab_Run X 202 63 (1, 0, 0) L st σ Q) := ab_r_icmp_eq rfl kc_X13_lays dX13_lays_60
theorem rX13_lays_63 : ab_Run X 202 63 (1, 0, 0) [ab_R z, l1, l2, l3, l4, l5, l6] st σ Q ↔ z ≠ 0 ∧ ab_Run X 202 64 (1, 0, 0) [ab_R z, l1, l2, l3, l4, l5, l6] (ab_R z :: st) σ Q := ab_r_aload_n rfl kc_X13_lays dX13_lays_63
theorem rX13_lays_64 : ab_Run X 202 64 (1, 0, 0) [l0, l1, ab_I z, l3, l4, l5, l6] st σ Q ↔ ab_Run X 202 65 (1, 0, 0) [l0, l1, ab_I z, l3, l4, l5, l6] (ab_I z :: st) σ Q := ab_r_iload_n rfl kc_X13_lays dX13_lays_64
theorem rX13_lays_65 : ab_Run X 202 65 (1, 0, 0) L (ab_I x1 :: ab_R a :: st) σ Q ↔ ((ab_sh σ a).1 = 14 ∧ ab_cats st ≤ 8) ∧ ab_Do X 201 [ab_R a, ab_I x1] σ (fun r σ' => ab_Run X 202 68 (1, 0, 0) L (ab_psh r st) σ' Q) := ab_r_callV (w := [ab_I x1]) (as := [ab_I x1]) (b1 := (0, 0, 0)) 0 (Or.inl rfl) (by decide) ko_X13_lays qM_13_386 (by decide) rfl rfl rfl rfl rfl (by decide) (Nat.le_of_ble_eq_true rfl) kc_X13_lays dX13_lays_65
theorem rX13_lays_68 : ab_Run X 202 68 (1, 0, 0) L (ab_I a :: st) σ Q ↔ (a = 0 → ab_Run X 202 75 (1, 0, 0) L st σ Q) ∧ (¬ (a = 0) → ab_Run X 202 71 (1, 0, 0) L st σ Q) := ab_r_if_eq rfl kc_X13_lays dX13_lays_68
theorem rX13_lays_71 : ab_Run X 202 71 (1, 0, 0) L st σ Q ↔ ab_Run X 202 72 (1, 0, 0) L (ab_I 1 :: st) σ Q := ab_r_iconst (by decide) kc_X13_lays dX13_lays_71
theorem rX13_lays_72 : ab_Run X 202 72 (1, 0, 0) L st σ Q ↔ ab_Run X 202 76 (1, 0, 0) L st σ Q := ab_r_goto rfl kc_X13_lays dX13_lays_72
theorem rX13_lays_75 : ab_Run X 202 75 (1, 0, 0) L st σ Q ↔ ab_Run X 202 76 (1, 0, 0) L (ab_I 0 :: st) σ Q := ab_r_iconst (by decide) kc_X13_lays dX13_lays_75
theorem rX13_lays_76B (h : (ab_sh σ a).1 = 23 ∧ 0 ≤ i ∧ i < (ab_sh σ a).2) : ab_Run X 202 76 (1, 0, 0) L (ab_I v :: ab_I i :: ab_R a :: st) σ Q ↔ ab_Run X 202 77 (1, 0, 0) L st (ab_wr σ a i (ab_w8 v)) Q := ab_r_bastoreB h kc_X13_lays dX13_lays_76
theorem rX13_lays_76Z (h : (ab_sh σ a).1 = 24 ∧ 0 ≤ i ∧ i < (ab_sh σ a).2 ∧ (v = 0 ∨ v = 1)) : ab_Run X 202 76 (1, 0, 0) L (ab_I v :: ab_I i :: ab_R a :: st) σ Q ↔ ab_Run X 202 77 (1, 0, 0) L st (ab_wr σ a i v) Q := ab_r_bastoreZ h kc_X13_lays dX13_lays_76
theorem rX13_lays_77 : ab_Run X 202 77 (1, 0, 0) [ab_R z, l1, l2, l3, l4, l5, l6] st σ Q ↔ z ≠ 0 ∧ ab_Run X 202 78 (1, 0, 0) [ab_R z, l1, l2, l3, l4, l5, l6] (ab_R z :: st) σ Q := ab_r_aload_n rfl kc_X13_lays dX13_lays_77
theorem rX13_lays_78 : ab_Run X 202 78 (1, 0, 0) L (ab_R a :: st) σ Q ↔ (ab_sh σ a).1 = 14 ∧ ab_Run X 202 81 (1, 0, 0) L (ab_R (ab_rd σ a 29) :: st) σ Q := gF_13_33 ko_X13_lays kc_X13_lays dX13_lays_78
theorem rX13_lays_81 : ab_Run X 202 81 (1, 0, 0) L st σ Q ↔ ab_Run X 202 82 (1, 0, 0) L (ab_I 1 :: st) σ Q := ab_r_iconst (by decide) kc_X13_lays dX13_lays_81
theorem rX13_lays_82 : ab_Run X 202 82 (1, 0, 0) [l0, l1, l2, l3, l4, l5, ab_I z] st σ Q ↔ ab_Run X 202 84 (1, 0, 0) [l0, l1, l2, l3, l4, l5, ab_I z] (ab_I z :: st) σ Q := ab_r_iload rfl kc_X13_lays dX13_lays_82
theorem rX13_lays_84 : ab_Run X 202 84 (1, 0, 0) L st σ Q ↔ ab_Run X 202 85 (1, 0, 0) L (ab_I 1 :: st) σ Q := ab_r_iconst (by decide) kc_X13_lays dX13_lays_84
theorem rX13_lays_85 : ab_Run X 202 85 (1, 0, 0) L (ab_I b :: ab_I a :: st) σ Q ↔ (a = b → ab_Run X 202 103 (1, 0, 0) L st σ Q) ∧ (¬ (a = b) → ab_Run X 202 88 (1, 0, 0) L st σ Q) := ab_r_icmp_eq rfl kc_X13_lays dX13_lays_85
theorem rX13_lays_88 : ab_Run X 202 88 (1, 0, 0) [l0, l1, l2, l3, l4, l5, ab_I z] st σ Q ↔ ab_Run X 202 90 (1, 0, 0) [l0, l1, l2, l3, l4, l5, ab_I z] (ab_I z :: st) σ Q := ab_r_iload rfl kc_X13_lays dX13_lays_88
theorem rX13_lays_90 : ab_Run X 202 90 (1, 0, 0) L st σ Q ↔ ab_Run X 202 91 (1, 0, 0) L (ab_I 3 :: st) σ Q := ab_r_iconst (by decide) kc_X13_lays dX13_lays_90
theorem rX13_lays_91 : ab_Run X 202 91 (1, 0, 0) L (ab_I b :: ab_I a :: st) σ Q ↔ (a = b → ab_Run X 202 103 (1, 0, 0) L st σ Q) ∧ (¬ (a = b) → ab_Run X 202 94 (1, 0, 0) L st σ Q) := ab_r_icmp_eq rfl kc_X13_lays dX13_lays_91
theorem rX13_lays_94 : ab_Run X 202 94 (1, 0, 0) [ab_R z, l1, l2, l3, l4, l5, l6] st σ Q ↔ z ≠ 0 ∧ ab_Run X 202 95 (1, 0, 0) [ab_R z, l1, l2, l3, l4, l5, l6] (ab_R z :: st) σ Q := ab_r_aload_n rfl kc_X13_lays dX13_lays_94
theorem rX13_lays_95 : ab_Run X 202 95 (1, 0, 0) [l0, l1, l2, l3, ab_I z, l5, l6] st σ Q ↔ ab_Run X 202 97 (1, 0, 0) [l0, l1, l2, l3, ab_I z, l5, l6] (ab_I z :: st) σ Q := ab_r_iload rfl kc_X13_lays dX13_lays_95
theorem rX13_lays_97 : ab_Run X 202 97 (1, 0, 0) L (ab_I x1 :: ab_R a :: st) σ Q ↔ ((ab_sh σ a).1 = 14 ∧ ab_cats st ≤ 8) ∧ ab_Do X 201 [ab_R a, ab_I x1] σ (fun r σ' => ab_Run X 202 100 (1, 0, 0) L (ab_psh r st) σ' Q) := ab_r_callV (w := [ab_I x1]) (as := [ab_I x1]) (b1 := (0, 0, 0)) 0 (Or.inl rfl) (by decide) ko_X13_lays qM_13_386 (by decide) rfl rfl rfl rfl rfl (by decide) (Nat.le_of_ble_eq_true rfl) kc_X13_lays dX13_lays_97
theorem rX13_lays_100 : ab_Run X 202 100 (1, 0, 0) L (ab_I a :: st) σ Q ↔ (a = 0 → ab_Run X 202 107 (1, 0, 0) L st σ Q) ∧ (¬ (a = 0) → ab_Run X 202 103 (1, 0, 0) L st σ Q) := ab_r_if_eq rfl kc_X13_lays dX13_lays_100
theorem rX13_lays_103 : ab_Run X 202 103 (1, 0, 0) L st σ Q ↔ ab_Run X 202 104 (1, 0, 0) L (ab_I 1 :: st) σ Q := ab_r_iconst (by decide) kc_X13_lays dX13_lays_103
theorem rX13_lays_104 : ab_Run X 202 104 (1, 0, 0) L st σ Q ↔ ab_Run X 202 108 (1, 0, 0) L st σ Q := ab_r_goto rfl kc_X13_lays dX13_lays_104
theorem rX13_lays_107 : ab_Run X 202 107 (1, 0, 0) L st σ Q ↔ ab_Run X 202 108 (1, 0, 0) L (ab_I 0 :: st) σ Q := ab_r_iconst (by decide) kc_X13_lays dX13_lays_107
theorem rX13_lays_108B (h : (ab_sh σ a).1 = 23 ∧ 0 ≤ i ∧ i < (ab_sh σ a).2) : ab_Run X 202 108 (1, 0, 0) L (ab_I v :: ab_I i :: ab_R a :: st) σ Q ↔ ab_Run X 202 109 (1, 0, 0) L st (ab_wr σ a i (ab_w8 v)) Q := ab_r_bastoreB h kc_X13_lays dX13_lays_108
theorem rX13_lays_108Z (h : (ab_sh σ a).1 = 24 ∧ 0 ≤ i ∧ i < (ab_sh σ a).2 ∧ (v = 0 ∨ v = 1)) : ab_Run X 202 108 (1, 0, 0) L (ab_I v :: ab_I i :: ab_R a :: st) σ Q ↔ ab_Run X 202 109 (1, 0, 0) L st (ab_wr σ a i v) Q := ab_r_bastoreZ h kc_X13_lays dX13_lays_108
theorem rX13_lays_109 : ab_Run X 202 109 (1, 0, 0) [ab_R z, l1, l2, l3, l4, l5, l6] st σ Q ↔ z ≠ 0 ∧ ab_Run X 202 110 (1, 0, 0) [ab_R z, l1, l2, l3, l4, l5, l6] (ab_R z :: st) σ Q := ab_r_aload_n rfl kc_X13_lays dX13_lays_109
theorem rX13_lays_110 : ab_Run X 202 110 (1, 0, 0) L st σ Q ↔ ab_Run X 202 111 (1, 0, 0) L (ab_I (-1) :: st) σ Q := ab_r_iconst (by decide) kc_X13_lays dX13_lays_110
theorem rX13_lays_111 : ab_Run X 202 111 (1, 0, 0) L (ab_I z :: ab_R a :: st) σ Q ↔ (ab_sh σ a).1 = 14 ∧ ab_Run X 202 114 (1, 0, 0) L st (ab_wr σ a 23 z) Q := sF_13_389 ko_X13_lays kc_X13_lays dX13_lays_111
theorem rX13_lays_114 : ab_Run X 202 114 (1, 0, 0) L [] σ Q ↔ Q none σ := ab_r_return rfl kc_X13_lays dX13_lays_114
theorem kc_X13_laysTold : ab_code 203 = cX13_laysTold := rfl
theorem ko_X13_laysTold : ab_ow 203 = 13 := rfl
theorem rX13_laysTold_0 : ab_Run X 203 0 (2, 0, 0) [ab_R z, l1, l2, l3] st σ Q ↔ z ≠ 0 ∧ ab_Run X 203 1 (2, 0, 0) [ab_R z, l1, l2, l3] (ab_R z :: st) σ Q := ab_r_aload_n rfl kc_X13_laysTold dX13_laysTold_0
theorem rX13_laysTold_1 : ab_Run X 203 1 (2, 0, 0) [l0, ab_I z, l2, l3] st σ Q ↔ ab_Run X 203 2 (2, 0, 0) [l0, ab_I z, l2, l3] (ab_I z :: st) σ Q := ab_r_iload_n rfl kc_X13_laysTold dX13_laysTold_1
theorem rX13_laysTold_2 : ab_Run X 203 2 (2, 0, 0) [l0, l1, ab_I z, l3] st σ Q ↔ ab_Run X 203 3 (2, 0, 0) [l0, l1, ab_I z, l3] (ab_I z :: st) σ Q := ab_r_iload_n rfl kc_X13_laysTold dX13_laysTold_2
theorem rX13_laysTold_3 : ab_Run X 203 3 (2, 0, 0) [ab_R z, l1, l2, l3] st σ Q ↔ z ≠ 0 ∧ ab_Run X 203 4 (2, 0, 0) [ab_R z, l1, l2, l3] (ab_R z :: st) σ Q := ab_r_aload_n rfl kc_X13_laysTold dX13_laysTold_3
theorem rX13_laysTold_4 : ab_Run X 203 4 (2, 0, 0) L (ab_R a :: st) σ Q ↔ (ab_sh σ a).1 = 14 ∧ ab_Run X 203 7 (2, 0, 0) L (ab_R (ab_rd σ a 3) :: st) σ Q := gF_13_373 ko_X13_laysTold kc_X13_laysTold dX13_laysTold_4
theorem rX13_laysTold_7 : ab_Run X 203 7 (2, 0, 0) [l0, l1, ab_I z, l3] st σ Q ↔ ab_Run X 203 8 (2, 0, 0) [l0, l1, ab_I z, l3] (ab_I z :: st) σ Q := ab_r_iload_n rfl kc_X13_laysTold dX13_laysTold_7
theorem rX13_laysTold_8 : ab_Run X 203 8 (2, 0, 0) [l0, ab_I z, l2, l3] st σ Q ↔ ab_Run X 203 9 (2, 0, 0) [l0, ab_I z, l2, l3] (ab_I z :: st) σ Q := ab_r_iload_n rfl kc_X13_laysTold dX13_laysTold_8
theorem rX13_laysTold_9 : ab_Run X 203 9 (2, 0, 0) L st σ Q ↔ ab_Run X 203 10 (2, 0, 0) L (ab_I 0 :: st) σ Q := ab_r_iconst (by decide) kc_X13_laysTold dX13_laysTold_9
theorem rX13_laysTold_10 : ab_Run X 203 10 (2, 0, 0) L (ab_I x3 :: ab_I x2 :: ab_I x1 :: ab_R a :: st) σ Q ↔ ((ab_sh σ a).1 = 13 ∧ ab_cats st ≤ 8) ∧ ab_Do X 156 [ab_R a, ab_I x1, ab_I x2, ab_I x3] σ (fun r σ' => ab_Run X 203 13 (2, 0, 0) L (ab_psh r st) σ' Q) := ab_r_callV (w := [ab_I x3, ab_I x2, ab_I x1]) (as := [ab_I x1, ab_I x2, ab_I x3]) (b1 := (1, 0, 0)) 0 (Or.inl rfl) (by decide) ko_X13_laysTold qM_13_392 (by decide) rfl rfl rfl rfl rfl (by decide) (Nat.le_of_ble_eq_true rfl) kc_X13_laysTold dX13_laysTold_10
theorem rX13_laysTold_13 : ab_Run X 203 13 (2, 0, 0) [l0, l1, l2, ab_I z] st σ Q ↔ ab_Run X 203 14 (2, 0, 0) [l0, l1, l2, ab_I z] (ab_I z :: st) σ Q := ab_r_iload_n rfl kc_X13_laysTold dX13_laysTold_13
theorem rX13_laysTold_14 : ab_Run X 203 14 (2, 0, 0) [ab_R z, l1, l2, l3] st σ Q ↔ z ≠ 0 ∧ ab_Run X 203 15 (2, 0, 0) [ab_R z, l1, l2, l3] (ab_R z :: st) σ Q := ab_r_aload_n rfl kc_X13_laysTold dX13_laysTold_14
theorem rX13_laysTold_15 : ab_Run X 203 15 (2, 0, 0) L (ab_R a :: st) σ Q ↔ (ab_sh σ a).1 = 14 ∧ ab_Run X 203 18 (2, 0, 0) L (ab_R (ab_rd σ a 3) :: st) σ Q := gF_13_373 ko_X13_laysTold kc_X13_laysTold dX13_laysTold_15
theorem rX13_laysTold_18 : ab_Run X 203 18 (2, 0, 0) [l0, l1, l2, ab_I z] st σ Q ↔ ab_Run X 203 19 (2, 0, 0) [l0, l1, l2, ab_I z] (ab_I z :: st) σ Q := ab_r_iload_n rfl kc_X13_laysTold dX13_laysTold_18
theorem rX13_laysTold_19 : ab_Run X 203 19 (2, 0, 0) [l0, ab_I z, l2, l3] st σ Q ↔ ab_Run X 203 20 (2, 0, 0) [l0, ab_I z, l2, l3] (ab_I z :: st) σ Q := ab_r_iload_n rfl kc_X13_laysTold dX13_laysTold_19
theorem rX13_laysTold_20 : ab_Run X 203 20 (2, 0, 0) L st σ Q ↔ ab_Run X 203 21 (2, 0, 0) L (ab_I 1 :: st) σ Q := ab_r_iconst (by decide) kc_X13_laysTold dX13_laysTold_20
theorem rX13_laysTold_21 : ab_Run X 203 21 (2, 0, 0) L (ab_I x3 :: ab_I x2 :: ab_I x1 :: ab_R a :: st) σ Q ↔ ((ab_sh σ a).1 = 13 ∧ ab_cats st ≤ 8) ∧ ab_Do X 156 [ab_R a, ab_I x1, ab_I x2, ab_I x3] σ (fun r σ' => ab_Run X 203 24 (2, 0, 0) L (ab_psh r st) σ' Q) := ab_r_callV (w := [ab_I x3, ab_I x2, ab_I x1]) (as := [ab_I x1, ab_I x2, ab_I x3]) (b1 := (1, 0, 0)) 0 (Or.inl rfl) (by decide) ko_X13_laysTold qM_13_392 (by decide) rfl rfl rfl rfl rfl (by decide) (Nat.le_of_ble_eq_true rfl) kc_X13_laysTold dX13_laysTold_21
theorem rX13_laysTold_24 : ab_Run X 203 24 (2, 0, 0) L st σ Q ↔ ab_Run X 203 25 (2, 0, 0) L (ab_I 2 :: st) σ Q := ab_r_iconst (by decide) kc_X13_laysTold dX13_laysTold_24
theorem rX13_laysTold_25 : ab_Run X 203 25 (2, 0, 0) L (ab_I x6 :: ab_I x5 :: ab_I x4 :: ab_I x3 :: ab_I x2 :: ab_I x1 :: ab_R a :: st) σ Q ↔ ((ab_sh σ a).1 = 14 ∧ ab_cats st ≤ 8) ∧ ab_Do X 202 [ab_R a, ab_I x1, ab_I x2, ab_I x3, ab_I x4, ab_I x5, ab_I x6] σ (fun r σ' => ab_Run X 203 28 (2, 0, 0) L (ab_psh r st) σ' Q) := ab_r_callV (w := [ab_I x6, ab_I x5, ab_I x4, ab_I x3, ab_I x2, ab_I x1]) (as := [ab_I x1, ab_I x2, ab_I x3, ab_I x4, ab_I x5, ab_I x6]) (b1 := (1, 0, 0)) 0 (Or.inl rfl) (by decide) ko_X13_laysTold qM_13_396 (by decide) rfl rfl rfl rfl rfl (by decide) (Nat.le_of_ble_eq_true rfl) kc_X13_laysTold dX13_laysTold_25
theorem rX13_laysTold_28 : ab_Run X 203 28 (2, 0, 0) L [] σ Q ↔ Q none σ := ab_r_return rfl kc_X13_laysTold dX13_laysTold_28
theorem kc_X13_strengthAt : ab_code 204 = cX13_strengthAt := rfl
theorem ko_X13_strengthAt : ab_ow 204 = 13 := rfl
theorem rX13_strengthAt_0 : ab_Run X 204 0 (1, 0, 0) [ab_R z, l1, l2, l3] st σ Q ↔ z ≠ 0 ∧ ab_Run X 204 1 (1, 0, 0) [ab_R z, l1, l2, l3] (ab_R z :: st) σ Q := ab_r_aload_n rfl kc_X13_strengthAt dX13_strengthAt_0
theorem rX13_strengthAt_1 : ab_Run X 204 1 (1, 0, 0) L (ab_R a :: st) σ Q ↔ (ab_sh σ a).1 = 14 ∧ ab_Run X 204 4 (1, 0, 0) L (ab_R (ab_rd σ a 3) :: st) σ Q := gF_13_373 ko_X13_strengthAt kc_X13_strengthAt dX13_strengthAt_1
theorem rX13_strengthAt_4 : ab_Run X 204 4 (1, 0, 0) [ab_R z, l1, l2, l3] st σ Q ↔ z ≠ 0 ∧ ab_Run X 204 5 (1, 0, 0) [ab_R z, l1, l2, l3] (ab_R z :: st) σ Q := ab_r_aload_n rfl kc_X13_strengthAt dX13_strengthAt_4
theorem rX13_strengthAt_5 : ab_Run X 204 5 (1, 0, 0) L (ab_R a :: st) σ Q ↔ (ab_sh σ a).1 = 14 ∧ ab_Run X 204 8 (1, 0, 0) L (ab_I (ab_rd σ a 21) :: st) σ Q := gF_13_381 ko_X13_strengthAt kc_X13_strengthAt dX13_strengthAt_5
theorem rX13_strengthAt_8 : ab_Run X 204 8 (1, 0, 0) [l0, ab_I z, l2, l3] st σ Q ↔ ab_Run X 204 9 (1, 0, 0) [l0, ab_I z, l2, l3] (ab_I z :: st) σ Q := ab_r_iload_n rfl kc_X13_strengthAt dX13_strengthAt_8
theorem rX13_strengthAt_9 : ab_Run X 204 9 (1, 0, 0) [l0, l1, ab_I z, l3] st σ Q ↔ ab_Run X 204 10 (1, 0, 0) [l0, l1, ab_I z, l3] (ab_I z :: st) σ Q := ab_r_iload_n rfl kc_X13_strengthAt dX13_strengthAt_9
theorem rX13_strengthAt_10 : ab_Run X 204 10 (1, 0, 0) L (ab_I x3 :: ab_I x2 :: ab_I x1 :: ab_R a :: st) σ Q ↔ ((ab_sh σ a).1 = 13 ∧ ab_cats st ≤ 8) ∧ ab_Do X 155 [ab_R a, ab_I x1, ab_I x2, ab_I x3] σ (fun r σ' => ab_Run X 204 13 (1, 0, 0) L (ab_psh r st) σ' Q) := ab_r_callV (w := [ab_I x3, ab_I x2, ab_I x1]) (as := [ab_I x1, ab_I x2, ab_I x3]) (b1 := (0, 0, 0)) 0 (Or.inl rfl) (by decide) ko_X13_strengthAt qM_13_400 (by decide) rfl rfl rfl rfl rfl (by decide) (Nat.le_of_ble_eq_true rfl) kc_X13_strengthAt dX13_strengthAt_10
theorem rX13_strengthAt_13 : ab_Run X 204 13 (1, 0, 0) [ab_R z, l1, l2, l3] st σ Q ↔ z ≠ 0 ∧ ab_Run X 204 14 (1, 0, 0) [ab_R z, l1, l2, l3] (ab_R z :: st) σ Q := ab_r_aload_n rfl kc_X13_strengthAt dX13_strengthAt_13
theorem rX13_strengthAt_14 : ab_Run X 204 14 (1, 0, 0) L (ab_R a :: st) σ Q ↔ (ab_sh σ a).1 = 14 ∧ ab_Run X 204 17 (1, 0, 0) L (ab_R (ab_rd σ a 3) :: st) σ Q := gF_13_373 ko_X13_strengthAt kc_X13_strengthAt dX13_strengthAt_14
theorem rX13_strengthAt_17 : ab_Run X 204 17 (1, 0, 0) L (ab_R a :: st) σ Q ↔ (ab_sh σ a).1 = 13 ∧ ab_Run X 204 20 (1, 0, 0) L (ab_I (ab_rd σ a 1) :: st) σ Q := gF_13_252 ko_X13_strengthAt kc_X13_strengthAt dX13_strengthAt_17
theorem rX13_strengthAt_20 : ab_Run X 204 20 (1, 0, 0) [ab_R z, l1, l2, l3] st σ Q ↔ z ≠ 0 ∧ ab_Run X 204 21 (1, 0, 0) [ab_R z, l1, l2, l3] (ab_R z :: st) σ Q := ab_r_aload_n rfl kc_X13_strengthAt dX13_strengthAt_20
theorem rX13_strengthAt_21 : ab_Run X 204 21 (1, 0, 0) L (ab_R a :: st) σ Q ↔ (ab_sh σ a).1 = 14 ∧ ab_Run X 204 24 (1, 0, 0) L (ab_I (ab_rd σ a 22) :: st) σ Q := gF_13_383 ko_X13_strengthAt kc_X13_strengthAt dX13_strengthAt_21
theorem rX13_strengthAt_24 : ab_Run X 204 24 (1, 0, 0) L (ab_I b :: ab_I a :: st) σ Q ↔ ab_Run X 204 25 (1, 0, 0) L (ab_I (ab_w32 (a - b)) :: st) σ Q := ab_r_isub kc_X13_strengthAt dX13_strengthAt_24
theorem rX13_strengthAt_25 : ab_Run X 204 25 (1, 0, 0) L (ab_I b :: ab_I a :: st) σ Q ↔ ab_Run X 204 26 (1, 0, 0) L (ab_I (ab_w32 (a * b)) :: st) σ Q := ab_r_imul kc_X13_strengthAt dX13_strengthAt_25
theorem rX13_strengthAt_26 : ab_Run X 204 26 (1, 0, 0) [l0, l1, ab_I z, l3] st σ Q ↔ ab_Run X 204 27 (1, 0, 0) [l0, l1, ab_I z, l3] (ab_I z :: st) σ Q := ab_r_iload_n rfl kc_X13_strengthAt dX13_strengthAt_26
theorem rX13_strengthAt_27 : ab_Run X 204 27 (1, 0, 0) L st σ Q ↔ ab_Run X 204 28 (1, 0, 0) L (ab_I 2 :: st) σ Q := ab_r_iconst (by decide) kc_X13_strengthAt dX13_strengthAt_27
theorem rX13_strengthAt_28 : ab_Run X 204 28 (1, 0, 0) L (ab_I b :: ab_I a :: st) σ Q ↔ (b ≤ a → ab_Run X 204 59 (1, 0, 0) L st σ Q) ∧ (¬ (b ≤ a) → ab_Run X 204 31 (1, 0, 0) L st σ Q) := ab_r_icmp_ge rfl kc_X13_strengthAt dX13_strengthAt_28
theorem rX13_strengthAt_31 : ab_Run X 204 31 (1, 0, 0) [ab_R z, l1, l2, l3] st σ Q ↔ z ≠ 0 ∧ ab_Run X 204 32 (1, 0, 0) [ab_R z, l1, l2, l3] (ab_R z :: st) σ Q := ab_r_aload_n rfl kc_X13_strengthAt dX13_strengthAt_31
theorem rX13_strengthAt_32 : ab_Run X 204 32 (1, 0, 0) L (ab_R a :: st) σ Q ↔ (ab_sh σ a).1 = 14 ∧ ab_Run X 204 35 (1, 0, 0) L (ab_R (ab_rd σ a 3) :: st) σ Q := gF_13_373 ko_X13_strengthAt kc_X13_strengthAt dX13_strengthAt_32
theorem rX13_strengthAt_35 : ab_Run X 204 35 (1, 0, 0) L (ab_R a :: st) σ Q ↔ (ab_sh σ a).1 = 13 ∧ ab_Run X 204 38 (1, 0, 0) L (ab_R (ab_rd σ a 16) :: st) σ Q := gF_13_307 ko_X13_strengthAt kc_X13_strengthAt dX13_strengthAt_35
theorem rX13_strengthAt_38 : ab_Run X 204 38 (1, 0, 0) [ab_R z, l1, l2, l3] st σ Q ↔ z ≠ 0 ∧ ab_Run X 204 39 (1, 0, 0) [ab_R z, l1, l2, l3] (ab_R z :: st) σ Q := ab_r_aload_n rfl kc_X13_strengthAt dX13_strengthAt_38
theorem rX13_strengthAt_39 : ab_Run X 204 39 (1, 0, 0) L (ab_R a :: st) σ Q ↔ (ab_sh σ a).1 = 14 ∧ ab_Run X 204 42 (1, 0, 0) L (ab_R (ab_rd σ a 27) :: st) σ Q := gF_13_27 ko_X13_strengthAt kc_X13_strengthAt dX13_strengthAt_39
theorem rX13_strengthAt_42 : ab_Run X 204 42 (1, 0, 0) [l0, ab_I z, l2, l3] st σ Q ↔ ab_Run X 204 43 (1, 0, 0) [l0, ab_I z, l2, l3] (ab_I z :: st) σ Q := ab_r_iload_n rfl kc_X13_strengthAt dX13_strengthAt_42
theorem rX13_strengthAt_43 : ab_Run X 204 43 (1, 0, 0) L (ab_I i :: ab_R a :: st) σ Q ↔ ((ab_sh σ a).1 = 21 ∧ 0 ≤ i ∧ i < (ab_sh σ a).2) ∧ ab_Run X 204 44 (1, 0, 0) L (ab_I (ab_rd σ a i) :: st) σ Q := ab_r_iaload (by decide) kc_X13_strengthAt dX13_strengthAt_43
theorem rX13_strengthAt_44 : ab_Run X 204 44 (1, 0, 0) L (ab_I i :: ab_R a :: st) σ Q ↔ ((ab_sh σ a).1 = 21 ∧ 0 ≤ i ∧ i < (ab_sh σ a).2) ∧ ab_Run X 204 45 (1, 0, 0) L (ab_I (ab_rd σ a i) :: st) σ Q := ab_r_iaload (by decide) kc_X13_strengthAt dX13_strengthAt_44
theorem rX13_strengthAt_45 : ab_Run X 204 45 (1, 0, 0) L st σ Q ↔ ab_Run X 204 46 (1, 0, 0) L (ab_I 3 :: st) σ Q := ab_r_iconst (by decide) kc_X13_strengthAt dX13_strengthAt_45
theorem rX13_strengthAt_46 : ab_Run X 204 46 (1, 0, 0) L (ab_I b :: ab_I a :: st) σ Q ↔ (¬ a = b → ab_Run X 204 59 (1, 0, 0) L st σ Q) ∧ (¬ (¬ a = b) → ab_Run X 204 49 (1, 0, 0) L st σ Q) := ab_r_icmp_ne rfl kc_X13_strengthAt dX13_strengthAt_46
theorem rX13_strengthAt_49 : ab_Run X 204 49 (1, 0, 0) [ab_R z, l1, l2, l3] st σ Q ↔ z ≠ 0 ∧ ab_Run X 204 50 (1, 0, 0) [ab_R z, l1, l2, l3] (ab_R z :: st) σ Q := ab_r_aload_n rfl kc_X13_strengthAt dX13_strengthAt_49
theorem rX13_strengthAt_50 : ab_Run X 204 50 (1, 0, 0) L (ab_R a :: st) σ Q ↔ (ab_sh σ a).1 = 14 ∧ ab_Run X 204 53 (1, 0, 0) L (ab_R (ab_rd σ a 3) :: st) σ Q := gF_13_373 ko_X13_strengthAt kc_X13_strengthAt dX13_strengthAt_50
theorem rX13_strengthAt_53 : ab_Run X 204 53 (1, 0, 0) L (ab_R a :: st) σ Q ↔ (ab_sh σ a).1 = 13 ∧ ab_Run X 204 56 (1, 0, 0) L (ab_I (ab_rd σ a 3) :: st) σ Q := gF_13_256 ko_X13_strengthAt kc_X13_strengthAt dX13_strengthAt_53
theorem rX13_strengthAt_56 : ab_Run X 204 56 (1, 0, 0) L st σ Q ↔ ab_Run X 204 60 (1, 0, 0) L st σ Q := ab_r_goto rfl kc_X13_strengthAt dX13_strengthAt_56
theorem rX13_strengthAt_59 : ab_Run X 204 59 (1, 0, 0) L st σ Q ↔ ab_Run X 204 60 (1, 0, 0) L (ab_I 0 :: st) σ Q := ab_r_iconst (by decide) kc_X13_strengthAt dX13_strengthAt_59
theorem rX13_strengthAt_60 : ab_Run X 204 60 (1, 0, 0) L (ab_I b :: ab_I a :: st) σ Q ↔ ab_Run X 204 61 (1, 0, 0) L (ab_I (ab_w32 (a + b)) :: st) σ Q := ab_r_iadd kc_X13_strengthAt dX13_strengthAt_60
theorem rX13_strengthAt_61 : ab_Run X 204 61 (1, 0, 0) [l0, l1, l2, l3] (ab_I z :: st) σ Q ↔ (!ab_isJ l2) = true ∧ ab_Run X 204 62 (1, 0, 0) [l0, l1, l2, ab_I z] st σ Q := ab_r_istore_n (Nat.le_of_ble_eq_true rfl) kc_X13_strengthAt dX13_strengthAt_61
theorem rX13_strengthAt_62 : ab_Run X 204 62 (1, 0, 0) [l0, ab_I z, l2, l3] st σ Q ↔ ab_Run X 204 63 (1, 0, 0) [l0, ab_I z, l2, l3] (ab_I z :: st) σ Q := ab_r_iload_n rfl kc_X13_strengthAt dX13_strengthAt_62
theorem rX13_strengthAt_63 : ab_Run X 204 63 (1, 0, 0) [ab_R z, l1, l2, l3] st σ Q ↔ z ≠ 0 ∧ ab_Run X 204 64 (1, 0, 0) [ab_R z, l1, l2, l3] (ab_R z :: st) σ Q := ab_r_aload_n rfl kc_X13_strengthAt dX13_strengthAt_63
theorem rX13_strengthAt_64 : ab_Run X 204 64 (1, 0, 0) L (ab_R a :: st) σ Q ↔ (ab_sh σ a).1 = 14 ∧ ab_Run X 204 67 (1, 0, 0) L (ab_I (ab_rd σ a 23) :: st) σ Q := gF_13_389 ko_X13_strengthAt kc_X13_strengthAt dX13_strengthAt_64
theorem rX13_strengthAt_67 : ab_Run X 204 67 (1, 0, 0) L (ab_I b :: ab_I a :: st) σ Q ↔ (¬ a = b → ab_Run X 204 84 (1, 0, 0) L st σ Q) ∧ (¬ (¬ a = b) → ab_Run X 204 70 (1, 0, 0) L st σ Q) := ab_r_icmp_ne rfl kc_X13_strengthAt dX13_strengthAt_67
theorem rX13_strengthAt_70 : ab_Run X 204 70 (1, 0, 0) [l0, l1, ab_I z, l3] st σ Q ↔ ab_Run X 204 71 (1, 0, 0) [l0, l1, ab_I z, l3] (ab_I z :: st) σ Q := ab_r_iload_n rfl kc_X13_strengthAt dX13_strengthAt_70
theorem rX13_strengthAt_71 : ab_Run X 204 71 (1, 0, 0) [ab_R z, l1, l2, l3] st σ Q ↔ z ≠ 0 ∧ ab_Run X 204 72 (1, 0, 0) [ab_R z, l1, l2, l3] (ab_R z :: st) σ Q := ab_r_aload_n rfl kc_X13_strengthAt dX13_strengthAt_71
theorem rX13_strengthAt_72 : ab_Run X 204 72 (1, 0, 0) L (ab_R a :: st) σ Q ↔ (ab_sh σ a).1 = 14 ∧ ab_Run X 204 75 (1, 0, 0) L (ab_I (ab_rd σ a 24) :: st) σ Q := gF_13_403 ko_X13_strengthAt kc_X13_strengthAt dX13_strengthAt_72
theorem rX13_strengthAt_75 : ab_Run X 204 75 (1, 0, 0) L (ab_I b :: ab_I a :: st) σ Q ↔ (¬ a = b → ab_Run X 204 84 (1, 0, 0) L st σ Q) ∧ (¬ (¬ a = b) → ab_Run X 204 78 (1, 0, 0) L st σ Q) := ab_r_icmp_ne rfl kc_X13_strengthAt dX13_strengthAt_75
theorem rX13_strengthAt_78 : ab_Run X 204 78 (1, 0, 0) [l0, l1, l2, ab_I z] st σ Q ↔ ab_Run X 204 79 (1, 0, 0) [l0, l1, l2, ab_I z] (ab_I z :: st) σ Q := ab_r_iload_n rfl kc_X13_strengthAt dX13_strengthAt_78
theorem rX13_strengthAt_79 : ab_Run X 204 79 (1, 0, 0) L st σ Q ↔ ab_Run X 204 80 (1, 0, 0) L (ab_I 2 :: st) σ Q := ab_r_iconst (by decide) kc_X13_strengthAt dX13_strengthAt_79
theorem rX13_strengthAt_80 : ab_Run X 204 80 (1, 0, 0) L (ab_I b :: ab_I a :: st) σ Q ↔ b ≠ 0 ∧ ab_Run X 204 81 (1, 0, 0) L (ab_I (ab_w32 (a.tdiv b)) :: st) σ Q := ab_r_idiv kc_X13_strengthAt dX13_strengthAt_80
theorem rX13_strengthAt_81 : ab_Run X 204 81 (1, 0, 0) L st σ Q ↔ ab_Run X 204 85 (1, 0, 0) L st σ Q := ab_r_goto rfl kc_X13_strengthAt dX13_strengthAt_81
theorem rX13_strengthAt_84 : ab_Run X 204 84 (1, 0, 0) [l0, l1, l2, ab_I z] st σ Q ↔ ab_Run X 204 85 (1, 0, 0) [l0, l1, l2, ab_I z] (ab_I z :: st) σ Q := ab_r_iload_n rfl kc_X13_strengthAt dX13_strengthAt_84
theorem rX13_strengthAt_85 : ab_Run X 204 85 (1, 0, 0) L [ab_I v] σ Q ↔ Q (some (ab_I v)) σ := ab_r_ireturnI rfl kc_X13_strengthAt dX13_strengthAt_85
theorem kc_X13_strainAt : ab_code 205 = cX13_strainAt := rfl
theorem ko_X13_strainAt : ab_ow 205 = 13 := rfl
theorem rX13_strainAt_0 : ab_Run X 205 0 (0, 0, 0) [l0, l1, ab_I z] st σ Q ↔ ab_Run X 205 1 (0, 0, 0) [l0, l1, ab_I z] (ab_I z :: st) σ Q := ab_r_iload_n rfl kc_X13_strainAt dX13_strainAt_0
theorem rX13_strainAt_1 : ab_Run X 205 1 (0, 0, 0) [ab_R z, l1, l2] st σ Q ↔ z ≠ 0 ∧ ab_Run X 205 2 (0, 0, 0) [ab_R z, l1, l2] (ab_R z :: st) σ Q := ab_r_aload_n rfl kc_X13_strainAt dX13_strainAt_1
theorem rX13_strainAt_2 : ab_Run X 205 2 (0, 0, 0) L (ab_R a :: st) σ Q ↔ (ab_sh σ a).1 = 14 ∧ ab_Run X 205 5 (0, 0, 0) L (ab_R (ab_rd σ a 28) :: st) σ Q := gF_13_30 ko_X13_strainAt kc_X13_strainAt dX13_strainAt_2
theorem rX13_strainAt_5 : ab_Run X 205 5 (0, 0, 0) [l0, ab_I z, l2] st σ Q ↔ ab_Run X 205 6 (0, 0, 0) [l0, ab_I z, l2] (ab_I z :: st) σ Q := ab_r_iload_n rfl kc_X13_strainAt dX13_strainAt_5
theorem rX13_strainAt_6 : ab_Run X 205 6 (0, 0, 0) L (ab_I i :: ab_R a :: st) σ Q ↔ ((ab_sh σ a).1 = 21 ∧ 0 ≤ i ∧ i < (ab_sh σ a).2) ∧ ab_Run X 205 7 (0, 0, 0) L (ab_I (ab_rd σ a i) :: st) σ Q := ab_r_iaload (by decide) kc_X13_strainAt dX13_strainAt_6
theorem rX13_strainAt_7 : ab_Run X 205 7 (0, 0, 0) L (ab_I b :: ab_I a :: st) σ Q ↔ (a < b → ab_Run X 205 12 (0, 0, 0) L st σ Q) ∧ (¬ (a < b) → ab_Run X 205 10 (0, 0, 0) L st σ Q) := ab_r_icmp_lt rfl kc_X13_strainAt dX13_strainAt_7
theorem rX13_strainAt_10 : ab_Run X 205 10 (0, 0, 0) L st σ Q ↔ ab_Run X 205 11 (0, 0, 0) L (ab_I 0 :: st) σ Q := ab_r_iconst (by decide) kc_X13_strainAt dX13_strainAt_10
theorem rX13_strainAt_11 : ab_Run X 205 11 (0, 0, 0) L [ab_I v] σ Q ↔ Q (some (ab_I v)) σ := ab_r_ireturnI rfl kc_X13_strainAt dX13_strainAt_11
theorem rX13_strainAt_12 : ab_Run X 205 12 (0, 0, 0) [ab_R z, l1, l2] st σ Q ↔ z ≠ 0 ∧ ab_Run X 205 13 (0, 0, 0) [ab_R z, l1, l2] (ab_R z :: st) σ Q := ab_r_aload_n rfl kc_X13_strainAt dX13_strainAt_12
theorem rX13_strainAt_13 : ab_Run X 205 13 (0, 0, 0) L (ab_R a :: st) σ Q ↔ (ab_sh σ a).1 = 14 ∧ ab_Run X 205 16 (0, 0, 0) L (ab_R (ab_rd σ a 3) :: st) σ Q := gF_13_373 ko_X13_strainAt kc_X13_strainAt dX13_strainAt_13
theorem rX13_strainAt_16 : ab_Run X 205 16 (0, 0, 0) L (ab_R a :: st) σ Q ↔ (ab_sh σ a).1 = 13 ∧ ab_Run X 205 19 (0, 0, 0) L (ab_R (ab_rd σ a 17) :: st) σ Q := gF_13_310 ko_X13_strainAt kc_X13_strainAt dX13_strainAt_16
theorem rX13_strainAt_19 : ab_Run X 205 19 (0, 0, 0) [ab_R z, l1, l2] st σ Q ↔ z ≠ 0 ∧ ab_Run X 205 20 (0, 0, 0) [ab_R z, l1, l2] (ab_R z :: st) σ Q := ab_r_aload_n rfl kc_X13_strainAt dX13_strainAt_19
theorem rX13_strainAt_20 : ab_Run X 205 20 (0, 0, 0) L (ab_R a :: st) σ Q ↔ (ab_sh σ a).1 = 14 ∧ ab_Run X 205 23 (0, 0, 0) L (ab_R (ab_rd σ a 27) :: st) σ Q := gF_13_27 ko_X13_strainAt kc_X13_strainAt dX13_strainAt_20
theorem rX13_strainAt_23 : ab_Run X 205 23 (0, 0, 0) L st σ Q ↔ ab_Run X 205 24 (0, 0, 0) L (ab_I 0 :: st) σ Q := ab_r_iconst (by decide) kc_X13_strainAt dX13_strainAt_23
theorem rX13_strainAt_24 : ab_Run X 205 24 (0, 0, 0) L (ab_I i :: ab_R a :: st) σ Q ↔ ((ab_sh σ a).1 = 21 ∧ 0 ≤ i ∧ i < (ab_sh σ a).2) ∧ ab_Run X 205 25 (0, 0, 0) L (ab_I (ab_rd σ a i) :: st) σ Q := ab_r_iaload (by decide) kc_X13_strainAt dX13_strainAt_24
theorem rX13_strainAt_25 : ab_Run X 205 25 (0, 0, 0) L (ab_I i :: ab_R a :: st) σ Q ↔ ((ab_sh σ a).1 = 21 ∧ 0 ≤ i ∧ i < (ab_sh σ a).2) ∧ ab_Run X 205 26 (0, 0, 0) L (ab_I (ab_rd σ a i) :: st) σ Q := ab_r_iaload (by decide) kc_X13_strainAt dX13_strainAt_25
theorem rX13_strainAt_26 : ab_Run X 205 26 (0, 0, 0) [ab_R z, l1, l2] st σ Q ↔ z ≠ 0 ∧ ab_Run X 205 27 (0, 0, 0) [ab_R z, l1, l2] (ab_R z :: st) σ Q := ab_r_aload_n rfl kc_X13_strainAt dX13_strainAt_26
theorem rX13_strainAt_27 : ab_Run X 205 27 (0, 0, 0) L (ab_R a :: st) σ Q ↔ (ab_sh σ a).1 = 14 ∧ ab_Run X 205 30 (0, 0, 0) L (ab_R (ab_rd σ a 3) :: st) σ Q := gF_13_373 ko_X13_strainAt kc_X13_strainAt dX13_strainAt_27
theorem rX13_strainAt_30 : ab_Run X 205 30 (0, 0, 0) L (ab_R a :: st) σ Q ↔ (ab_sh σ a).1 = 13 ∧ ab_Run X 205 33 (0, 0, 0) L (ab_R (ab_rd σ a 17) :: st) σ Q := gF_13_310 ko_X13_strainAt kc_X13_strainAt dX13_strainAt_30
theorem rX13_strainAt_33 : ab_Run X 205 33 (0, 0, 0) [ab_R z, l1, l2] st σ Q ↔ z ≠ 0 ∧ ab_Run X 205 34 (0, 0, 0) [ab_R z, l1, l2] (ab_R z :: st) σ Q := ab_r_aload_n rfl kc_X13_strainAt dX13_strainAt_33
theorem rX13_strainAt_34 : ab_Run X 205 34 (0, 0, 0) L (ab_R a :: st) σ Q ↔ (ab_sh σ a).1 = 14 ∧ ab_Run X 205 37 (0, 0, 0) L (ab_R (ab_rd σ a 27) :: st) σ Q := gF_13_27 ko_X13_strainAt kc_X13_strainAt dX13_strainAt_34
theorem rX13_strainAt_37 : ab_Run X 205 37 (0, 0, 0) L st σ Q ↔ ab_Run X 205 38 (0, 0, 0) L (ab_I 1 :: st) σ Q := ab_r_iconst (by decide) kc_X13_strainAt dX13_strainAt_37
theorem rX13_strainAt_38 : ab_Run X 205 38 (0, 0, 0) L (ab_I i :: ab_R a :: st) σ Q ↔ ((ab_sh σ a).1 = 21 ∧ 0 ≤ i ∧ i < (ab_sh σ a).2) ∧ ab_Run X 205 39 (0, 0, 0) L (ab_I (ab_rd σ a i) :: st) σ Q := ab_r_iaload (by decide) kc_X13_strainAt dX13_strainAt_38
theorem rX13_strainAt_39 : ab_Run X 205 39 (0, 0, 0) L (ab_I i :: ab_R a :: st) σ Q ↔ ((ab_sh σ a).1 = 21 ∧ 0 ≤ i ∧ i < (ab_sh σ a).2) ∧ ab_Run X 205 40 (0, 0, 0) L (ab_I (ab_rd σ a i) :: st) σ Q := ab_r_iaload (by decide) kc_X13_strainAt dX13_strainAt_39
theorem rX13_strainAt_40 : ab_Run X 205 40 (0, 0, 0) L (ab_I b :: ab_I a :: st) σ Q ↔ ab_Run X 205 41 (0, 0, 0) L (ab_I (ab_w32 (a + b)) :: st) σ Q := ab_r_iadd kc_X13_strainAt dX13_strainAt_40
theorem rX13_strainAt_41 : ab_Run X 205 41 (0, 0, 0) [ab_R z, l1, l2] st σ Q ↔ z ≠ 0 ∧ ab_Run X 205 42 (0, 0, 0) [ab_R z, l1, l2] (ab_R z :: st) σ Q := ab_r_aload_n rfl kc_X13_strainAt dX13_strainAt_41
theorem rX13_strainAt_42 : ab_Run X 205 42 (0, 0, 0) L (ab_R a :: st) σ Q ↔ (ab_sh σ a).1 = 14 ∧ ab_Run X 205 45 (0, 0, 0) L (ab_R (ab_rd σ a 28) :: st) σ Q := gF_13_30 ko_X13_strainAt kc_X13_strainAt dX13_strainAt_42
theorem rX13_strainAt_45 : ab_Run X 205 45 (0, 0, 0) [l0, ab_I z, l2] st σ Q ↔ ab_Run X 205 46 (0, 0, 0) [l0, ab_I z, l2] (ab_I z :: st) σ Q := ab_r_iload_n rfl kc_X13_strainAt dX13_strainAt_45
theorem rX13_strainAt_46 : ab_Run X 205 46 (0, 0, 0) L (ab_I i :: ab_R a :: st) σ Q ↔ ((ab_sh σ a).1 = 21 ∧ 0 ≤ i ∧ i < (ab_sh σ a).2) ∧ ab_Run X 205 47 (0, 0, 0) L (ab_I (ab_rd σ a i) :: st) σ Q := ab_r_iaload (by decide) kc_X13_strainAt dX13_strainAt_46
theorem rX13_strainAt_47 : ab_Run X 205 47 (0, 0, 0) [l0, l1, ab_I z] st σ Q ↔ ab_Run X 205 48 (0, 0, 0) [l0, l1, ab_I z] (ab_I z :: st) σ Q := ab_r_iload_n rfl kc_X13_strainAt dX13_strainAt_47
theorem rX13_strainAt_48 : ab_Run X 205 48 (0, 0, 0) L (ab_I b :: ab_I a :: st) σ Q ↔ ab_Run X 205 49 (0, 0, 0) L (ab_I (ab_w32 (a - b)) :: st) σ Q := ab_r_isub kc_X13_strainAt dX13_strainAt_48
theorem rX13_strainAt_49 : ab_Run X 205 49 (0, 0, 0) L (ab_I b :: ab_I a :: st) σ Q ↔ ab_Run X 205 50 (0, 0, 0) L (ab_I (ab_w32 (a * b)) :: st) σ Q := ab_r_imul kc_X13_strainAt dX13_strainAt_49
theorem rX13_strainAt_50 : ab_Run X 205 50 (0, 0, 0) [ab_R z, l1, l2] st σ Q ↔ z ≠ 0 ∧ ab_Run X 205 51 (0, 0, 0) [ab_R z, l1, l2] (ab_R z :: st) σ Q := ab_r_aload_n rfl kc_X13_strainAt dX13_strainAt_50
theorem rX13_strainAt_51 : ab_Run X 205 51 (0, 0, 0) L (ab_R a :: st) σ Q ↔ (ab_sh σ a).1 = 14 ∧ ab_Run X 205 54 (0, 0, 0) L (ab_R (ab_rd σ a 29) :: st) σ Q := gF_13_33 ko_X13_strainAt kc_X13_strainAt dX13_strainAt_51
theorem rX13_strainAt_54 : ab_Run X 205 54 (0, 0, 0) [l0, ab_I z, l2] st σ Q ↔ ab_Run X 205 55 (0, 0, 0) [l0, ab_I z, l2] (ab_I z :: st) σ Q := ab_r_iload_n rfl kc_X13_strainAt dX13_strainAt_54
theorem rX13_strainAt_55 : ab_Run X 205 55 (0, 0, 0) L (ab_I i :: ab_R a :: st) σ Q ↔ (((ab_sh σ a).1 = 23 ∨ (ab_sh σ a).1 = 24) ∧ 0 ≤ i ∧ i < (ab_sh σ a).2) ∧ ab_Run X 205 56 (0, 0, 0) L (ab_I (ab_rd σ a i) :: st) σ Q := ab_r_baload kc_X13_strainAt dX13_strainAt_55
theorem rX13_strainAt_56 : ab_Run X 205 56 (0, 0, 0) L (ab_I a :: st) σ Q ↔ (a = 0 → ab_Run X 205 69 (0, 0, 0) L st σ Q) ∧ (¬ (a = 0) → ab_Run X 205 59 (0, 0, 0) L st σ Q) := ab_r_if_eq rfl kc_X13_strainAt dX13_strainAt_56
theorem rX13_strainAt_59 : ab_Run X 205 59 (0, 0, 0) [ab_R z, l1, l2] st σ Q ↔ z ≠ 0 ∧ ab_Run X 205 60 (0, 0, 0) [ab_R z, l1, l2] (ab_R z :: st) σ Q := ab_r_aload_n rfl kc_X13_strainAt dX13_strainAt_59
theorem rX13_strainAt_60 : ab_Run X 205 60 (0, 0, 0) L (ab_R a :: st) σ Q ↔ (ab_sh σ a).1 = 14 ∧ ab_Run X 205 63 (0, 0, 0) L (ab_R (ab_rd σ a 3) :: st) σ Q := gF_13_373 ko_X13_strainAt kc_X13_strainAt dX13_strainAt_60
theorem rX13_strainAt_63 : ab_Run X 205 63 (0, 0, 0) L (ab_R a :: st) σ Q ↔ (ab_sh σ a).1 = 13 ∧ ab_Run X 205 66 (0, 0, 0) L (ab_I (ab_rd σ a 2) :: st) σ Q := gF_13_254 ko_X13_strainAt kc_X13_strainAt dX13_strainAt_63
theorem rX13_strainAt_66 : ab_Run X 205 66 (0, 0, 0) L st σ Q ↔ ab_Run X 205 70 (0, 0, 0) L st σ Q := ab_r_goto rfl kc_X13_strainAt dX13_strainAt_66
theorem rX13_strainAt_69 : ab_Run X 205 69 (0, 0, 0) L st σ Q ↔ ab_Run X 205 70 (0, 0, 0) L (ab_I 0 :: st) σ Q := ab_r_iconst (by decide) kc_X13_strainAt dX13_strainAt_69
theorem rX13_strainAt_70 : ab_Run X 205 70 (0, 0, 0) L (ab_I b :: ab_I a :: st) σ Q ↔ ab_Run X 205 71 (0, 0, 0) L (ab_I (ab_w32 (a + b)) :: st) σ Q := ab_r_iadd kc_X13_strainAt dX13_strainAt_70
theorem rX13_strainAt_71 : ab_Run X 205 71 (0, 0, 0) L [ab_I v] σ Q ↔ Q (some (ab_I v)) σ := ab_r_ireturnI rfl kc_X13_strainAt dX13_strainAt_71
theorem kc_X13_worst : ab_code 206 = cX13_worst := rfl
theorem ko_X13_worst : ab_ow 206 = 13 := rfl
theorem rX13_worst_0 : ab_Run X 206 0 (3, 0, 0) L st σ Q ↔ ab_Run X 206 1 (3, 0, 0) L (ab_I (-1) :: st) σ Q := ab_r_iconst (by decide) kc_X13_worst dX13_worst_0
theorem rX13_worst_1 : ab_Run X 206 1 (3, 0, 0) [l0, l1, l2, l3] (ab_I z :: st) σ Q ↔ (!ab_isJ l1) = true ∧ ab_Run X 206 2 (3, 0, 0) [l0, l1, ab_I z, l3] st σ Q := ab_r_istore_n (Nat.le_of_ble_eq_true rfl) kc_X13_worst dX13_worst_1
theorem rX13_worst_2 : ab_Run X 206 2 (3, 0, 0) L st σ Q ↔ ab_Run X 206 3 (3, 0, 0) L (ab_I 0 :: st) σ Q := ab_r_iconst (by decide) kc_X13_worst dX13_worst_2
theorem rX13_worst_3 : ab_Run X 206 3 (3, 0, 0) [l0, l1, l2, l3] (ab_I z :: st) σ Q ↔ (!ab_isJ l2) = true ∧ ab_Run X 206 4 (3, 0, 0) [l0, l1, l2, ab_I z] st σ Q := ab_r_istore_n (Nat.le_of_ble_eq_true rfl) kc_X13_worst dX13_worst_3
theorem rX13_worst_4 : ab_Run X 206 4 (3, 0, 0) [l0, l1, l2, ab_I z] st σ Q ↔ ab_Run X 206 5 (3, 0, 0) [l0, l1, l2, ab_I z] (ab_I z :: st) σ Q := ab_r_iload_n rfl kc_X13_worst dX13_worst_4
theorem rX13_worst_5 : ab_Run X 206 5 (3, 0, 0) [ab_R z, l1, l2, l3] st σ Q ↔ z ≠ 0 ∧ ab_Run X 206 6 (3, 0, 0) [ab_R z, l1, l2, l3] (ab_R z :: st) σ Q := ab_r_aload_n rfl kc_X13_worst dX13_worst_5
theorem rX13_worst_6 : ab_Run X 206 6 (3, 0, 0) L (ab_R a :: st) σ Q ↔ (ab_sh σ a).1 = 14 ∧ ab_Run X 206 9 (3, 0, 0) L (ab_R (ab_rd σ a 3) :: st) σ Q := gF_13_373 ko_X13_worst kc_X13_worst dX13_worst_6
theorem rX13_worst_9 : ab_Run X 206 9 (3, 0, 0) [ab_R z, l1, l2, l3] st σ Q ↔ z ≠ 0 ∧ ab_Run X 206 10 (3, 0, 0) [ab_R z, l1, l2, l3] (ab_R z :: st) σ Q := ab_r_aload_n rfl kc_X13_worst dX13_worst_9
theorem rX13_worst_10 : ab_Run X 206 10 (3, 0, 0) L (ab_R a :: st) σ Q ↔ (ab_sh σ a).1 = 14 ∧ ab_Run X 206 13 (3, 0, 0) L (ab_I (ab_rd σ a 21) :: st) σ Q := gF_13_381 ko_X13_worst kc_X13_worst dX13_worst_10
theorem rX13_worst_13 : ab_Run X 206 13 (3, 0, 0) [l0, ab_I z, l2, l3] st σ Q ↔ ab_Run X 206 14 (3, 0, 0) [l0, ab_I z, l2, l3] (ab_I z :: st) σ Q := ab_r_iload_n rfl kc_X13_worst dX13_worst_13
theorem rX13_worst_14 : ab_Run X 206 14 (3, 0, 0) L (ab_I x2 :: ab_I x1 :: ab_R a :: st) σ Q ↔ ((ab_sh σ a).1 = 13 ∧ ab_cats st ≤ 8) ∧ ab_Do X 154 [ab_R a, ab_I x1, ab_I x2] σ (fun r σ' => ab_Run X 206 17 (3, 0, 0) L (ab_psh r st) σ' Q) := ab_r_callV (w := [ab_I x2, ab_I x1]) (as := [ab_I x1, ab_I x2]) (b1 := (0, 0, 0)) 0 (Or.inl rfl) (by decide) ko_X13_worst qM_13_406 (by decide) rfl rfl rfl rfl rfl (by decide) (Nat.le_of_ble_eq_true rfl) kc_X13_worst dX13_worst_14
theorem rX13_worst_17 : ab_Run X 206 17 (3, 0, 0) L (ab_I b :: ab_I a :: st) σ Q ↔ (b ≤ a → ab_Run X 206 64 (3, 0, 0) L st σ Q) ∧ (¬ (b ≤ a) → ab_Run X 206 20 (3, 0, 0) L st σ Q) := ab_r_icmp_ge rfl kc_X13_worst dX13_worst_17
theorem rX13_worst_20 : ab_Run X 206 20 (3, 0, 0) [ab_R z, l1, l2, l3] st σ Q ↔ z ≠ 0 ∧ ab_Run X 206 21 (3, 0, 0) [ab_R z, l1, l2, l3] (ab_R z :: st) σ Q := ab_r_aload_n rfl kc_X13_worst dX13_worst_20
theorem rX13_worst_21 : ab_Run X 206 21 (3, 0, 0) [l0, ab_I z, l2, l3] st σ Q ↔ ab_Run X 206 22 (3, 0, 0) [l0, ab_I z, l2, l3] (ab_I z :: st) σ Q := ab_r_iload_n rfl kc_X13_worst dX13_worst_21
theorem rX13_worst_22 : ab_Run X 206 22 (3, 0, 0) [l0, l1, l2, ab_I z] st σ Q ↔ ab_Run X 206 23 (3, 0, 0) [l0, l1, l2, ab_I z] (ab_I z :: st) σ Q := ab_r_iload_n rfl kc_X13_worst dX13_worst_22
theorem rX13_worst_23 : ab_Run X 206 23 (3, 0, 0) L (ab_I x2 :: ab_I x1 :: ab_R a :: st) σ Q ↔ ((ab_sh σ a).1 = 14 ∧ ab_cats st ≤ 8) ∧ ab_Do X 205 [ab_R a, ab_I x1, ab_I x2] σ (fun r σ' => ab_Run X 206 26 (3, 0, 0) L (ab_psh r st) σ' Q) := ab_r_callV (w := [ab_I x2, ab_I x1]) (as := [ab_I x1, ab_I x2]) (b1 := (0, 0, 0)) 0 (Or.inl rfl) (by decide) ko_X13_worst qM_13_409 (by decide) rfl rfl rfl rfl rfl (by decide) (Nat.le_of_ble_eq_true rfl) kc_X13_worst dX13_worst_23
theorem rX13_worst_26 : ab_Run X 206 26 (3, 0, 0) [ab_R z, l1, l2, l3] st σ Q ↔ z ≠ 0 ∧ ab_Run X 206 27 (3, 0, 0) [ab_R z, l1, l2, l3] (ab_R z :: st) σ Q := ab_r_aload_n rfl kc_X13_worst dX13_worst_26
theorem rX13_worst_27 : ab_Run X 206 27 (3, 0, 0) [l0, ab_I z, l2, l3] st σ Q ↔ ab_Run X 206 28 (3, 0, 0) [l0, ab_I z, l2, l3] (ab_I z :: st) σ Q := ab_r_iload_n rfl kc_X13_worst dX13_worst_27
theorem rX13_worst_28 : ab_Run X 206 28 (3, 0, 0) [l0, l1, l2, ab_I z] st σ Q ↔ ab_Run X 206 29 (3, 0, 0) [l0, l1, l2, ab_I z] (ab_I z :: st) σ Q := ab_r_iload_n rfl kc_X13_worst dX13_worst_28
theorem rX13_worst_29 : ab_Run X 206 29 (3, 0, 0) L (ab_I x2 :: ab_I x1 :: ab_R a :: st) σ Q ↔ ((ab_sh σ a).1 = 14 ∧ ab_cats st ≤ 8) ∧ ab_Do X 204 [ab_R a, ab_I x1, ab_I x2] σ (fun r σ' => ab_Run X 206 32 (3, 0, 0) L (ab_psh r st) σ' Q) := ab_r_callV (w := [ab_I x2, ab_I x1]) (as := [ab_I x1, ab_I x2]) (b1 := (1, 0, 0)) 0 (Or.inl rfl) (by decide) ko_X13_worst qM_13_412 (by decide) rfl rfl rfl rfl rfl (by decide) (Nat.le_of_ble_eq_true rfl) kc_X13_worst dX13_worst_29
theorem rX13_worst_32 : ab_Run X 206 32 (3, 0, 0) L (ab_I b :: ab_I a :: st) σ Q ↔ (b < a → ab_Run X 206 38 (3, 0, 0) L st σ Q) ∧ (¬ (b < a) → ab_Run X 206 35 (3, 0, 0) L st σ Q) := ab_r_icmp_gt rfl kc_X13_worst dX13_worst_32
theorem rX13_worst_35 : ab_Run X 206 35 (3, 0, 0) L st σ Q ↔ ab_Run X 206 58 (3, 0, 0) L st σ Q := ab_r_goto rfl kc_X13_worst dX13_worst_35
theorem rX13_worst_38 : ab_Run X 206 38 (3, 0, 0) [l0, l1, ab_I z, l3] st σ Q ↔ ab_Run X 206 39 (3, 0, 0) [l0, l1, ab_I z, l3] (ab_I z :: st) σ Q := ab_r_iload_n rfl kc_X13_worst dX13_worst_38
theorem rX13_worst_39 : ab_Run X 206 39 (3, 0, 0) L st σ Q ↔ ab_Run X 206 40 (3, 0, 0) L (ab_I (-1) :: st) σ Q := ab_r_iconst (by decide) kc_X13_worst dX13_worst_39
theorem rX13_worst_40 : ab_Run X 206 40 (3, 0, 0) L (ab_I b :: ab_I a :: st) σ Q ↔ (a = b → ab_Run X 206 56 (3, 0, 0) L st σ Q) ∧ (¬ (a = b) → ab_Run X 206 43 (3, 0, 0) L st σ Q) := ab_r_icmp_eq rfl kc_X13_worst dX13_worst_40
theorem rX13_worst_43 : ab_Run X 206 43 (3, 0, 0) [ab_R z, l1, l2, l3] st σ Q ↔ z ≠ 0 ∧ ab_Run X 206 44 (3, 0, 0) [ab_R z, l1, l2, l3] (ab_R z :: st) σ Q := ab_r_aload_n rfl kc_X13_worst dX13_worst_43
theorem rX13_worst_44 : ab_Run X 206 44 (3, 0, 0) [l0, ab_I z, l2, l3] st σ Q ↔ ab_Run X 206 45 (3, 0, 0) [l0, ab_I z, l2, l3] (ab_I z :: st) σ Q := ab_r_iload_n rfl kc_X13_worst dX13_worst_44
theorem rX13_worst_45 : ab_Run X 206 45 (3, 0, 0) [l0, l1, l2, ab_I z] st σ Q ↔ ab_Run X 206 46 (3, 0, 0) [l0, l1, l2, ab_I z] (ab_I z :: st) σ Q := ab_r_iload_n rfl kc_X13_worst dX13_worst_45
theorem rX13_worst_46 : ab_Run X 206 46 (3, 0, 0) [l0, ab_I z, l2, l3] st σ Q ↔ ab_Run X 206 47 (3, 0, 0) [l0, ab_I z, l2, l3] (ab_I z :: st) σ Q := ab_r_iload_n rfl kc_X13_worst dX13_worst_46
theorem rX13_worst_47 : ab_Run X 206 47 (3, 0, 0) [l0, l1, ab_I z, l3] st σ Q ↔ ab_Run X 206 48 (3, 0, 0) [l0, l1, ab_I z, l3] (ab_I z :: st) σ Q := ab_r_iload_n rfl kc_X13_worst dX13_worst_47
theorem rX13_worst_48 : ab_Run X 206 48 (3, 0, 0) L (ab_I x4 :: ab_I x3 :: ab_I x2 :: ab_I x1 :: ab_R a :: st) σ Q ↔ ((ab_sh σ a).1 = 14 ∧ ab_cats st ≤ 8) ∧ ab_Do X 207 [ab_R a, ab_I x1, ab_I x2, ab_I x3, ab_I x4] σ (fun r σ' => ab_Run X 206 51 (3, 0, 0) L (ab_psh r st) σ' Q) := ab_r_callV (w := [ab_I x4, ab_I x3, ab_I x2, ab_I x1]) (as := [ab_I x1, ab_I x2, ab_I x3, ab_I x4]) (b1 := (2, 0, 0)) 0 (Or.inl rfl) (by decide) ko_X13_worst qM_13_415 (by decide) rfl rfl rfl rfl rfl (by decide) (Nat.le_of_ble_eq_true rfl) kc_X13_worst dX13_worst_48
theorem rX13_worst_51 : ab_Run X 206 51 (3, 0, 0) L st σ Q ↔ ab_Run X 206 52 (3, 0, 0) L (ab_J 0 :: st) σ Q := ab_r_lconst kc_X13_worst dX13_worst_51
theorem rX13_worst_52 : ab_Run X 206 52 (3, 0, 0) L (ab_J b :: ab_J a :: st) σ Q ↔ ab_Run X 206 53 (3, 0, 0) L (ab_I (if b < a then 1 else if a = b then 0 else -1) :: st) σ Q := ab_r_lcmp kc_X13_worst dX13_worst_52
theorem rX13_worst_53 : ab_Run X 206 53 (3, 0, 0) L (ab_I a :: st) σ Q ↔ (a ≤ 0 → ab_Run X 206 58 (3, 0, 0) L st σ Q) ∧ (¬ (a ≤ 0) → ab_Run X 206 56 (3, 0, 0) L st σ Q) := ab_r_if_le rfl kc_X13_worst dX13_worst_53
theorem rX13_worst_56 : ab_Run X 206 56 (3, 0, 0) [l0, l1, l2, ab_I z] st σ Q ↔ ab_Run X 206 57 (3, 0, 0) [l0, l1, l2, ab_I z] (ab_I z :: st) σ Q := ab_r_iload_n rfl kc_X13_worst dX13_worst_56
theorem rX13_worst_57 : ab_Run X 206 57 (3, 0, 0) [l0, l1, l2, l3] (ab_I z :: st) σ Q ↔ (!ab_isJ l1) = true ∧ ab_Run X 206 58 (3, 0, 0) [l0, l1, ab_I z, l3] st σ Q := ab_r_istore_n (Nat.le_of_ble_eq_true rfl) kc_X13_worst dX13_worst_57
theorem rX13_worst_58 : ab_Run X 206 58 (3, 0, 0) [l0, l1, l2, ab_I z] st σ Q ↔ (!ab_isJ l2) = true ∧ ab_Run X 206 61 (3, 0, 0) [l0, l1, l2, ab_I (ab_w32 (z + 1))] st σ Q := ab_r_iinc rfl (by decide) kc_X13_worst dX13_worst_58
theorem rX13_worst_61 : ab_Run X 206 61 (3, 0, 0) L st σ Q ↔ ab_Run X 206 4 (3, 0, 0) L st σ Q := ab_r_goto rfl kc_X13_worst dX13_worst_61
theorem rX13_worst_64 : ab_Run X 206 64 (3, 0, 0) [l0, l1, ab_I z, l3] st σ Q ↔ ab_Run X 206 65 (3, 0, 0) [l0, l1, ab_I z, l3] (ab_I z :: st) σ Q := ab_r_iload_n rfl kc_X13_worst dX13_worst_64
theorem rX13_worst_65 : ab_Run X 206 65 (3, 0, 0) L [ab_I v] σ Q ↔ Q (some (ab_I v)) σ := ab_r_ireturnI rfl kc_X13_worst dX13_worst_65
theorem kc_X13_compares : ab_code 207 = cX13_compares := rfl
theorem ko_X13_compares : ab_ow 207 = 13 := rfl
theorem rX13_compares_0 : ab_Run X 207 0 (2, 0, 0) [ab_R z, l1, l2, l3, l4, l5, l6, l7, l8] st σ Q ↔ z ≠ 0 ∧ ab_Run X 207 1 (2, 0, 0) [ab_R z, l1, l2, l3, l4, l5, l6, l7, l8] (ab_R z :: st) σ Q := ab_r_aload_n rfl kc_X13_compares dX13_compares_0
theorem rX13_compares_1 : ab_Run X 207 1 (2, 0, 0) [l0, ab_I z, l2, l3, l4, l5, l6, l7, l8] st σ Q ↔ ab_Run X 207 2 (2, 0, 0) [l0, ab_I z, l2, l3, l4, l5, l6, l7, l8] (ab_I z :: st) σ Q := ab_r_iload_n rfl kc_X13_compares dX13_compares_1
theorem rX13_compares_2 : ab_Run X 207 2 (2, 0, 0) [l0, l1, ab_I z, l3, l4, l5, l6, l7, l8] st σ Q ↔ ab_Run X 207 3 (2, 0, 0) [l0, l1, ab_I z, l3, l4, l5, l6, l7, l8] (ab_I z :: st) σ Q := ab_r_iload_n rfl kc_X13_compares dX13_compares_2
theorem rX13_compares_3 : ab_Run X 207 3 (2, 0, 0) L (ab_I x2 :: ab_I x1 :: ab_R a :: st) σ Q ↔ ((ab_sh σ a).1 = 14 ∧ ab_cats st ≤ 8) ∧ ab_Do X 204 [ab_R a, ab_I x1, ab_I x2] σ (fun r σ' => ab_Run X 207 6 (2, 0, 0) L (ab_psh r st) σ' Q) := ab_r_callV (w := [ab_I x2, ab_I x1]) (as := [ab_I x1, ab_I x2]) (b1 := (1, 0, 0)) 0 (Or.inl rfl) (by decide) ko_X13_compares qM_13_412 (by decide) rfl rfl rfl rfl rfl (by decide) (Nat.le_of_ble_eq_true rfl) kc_X13_compares dX13_compares_3
theorem rX13_compares_6 : ab_Run X 207 6 (2, 0, 0) L (ab_I a :: st) σ Q ↔ ab_Run X 207 7 (2, 0, 0) L (ab_J a :: st) σ Q := ab_r_i2l kc_X13_compares dX13_compares_6
theorem rX13_compares_7 : ab_Run X 207 7 (2, 0, 0) [l0, l1, l2, l3, l4, l5, l6, l7, l8] (ab_J z :: st) σ Q ↔ (!ab_isJ l4) = true ∧ ab_Run X 207 9 (2, 0, 0) [l0, l1, l2, l3, l4, ab_J z, ab_R 0, l7, l8] st σ Q := ab_r_lstore (Nat.le_of_ble_eq_true rfl) kc_X13_compares dX13_compares_7
theorem rX13_compares_9 : ab_Run X 207 9 (2, 0, 0) [ab_R z, l1, l2, l3, l4, l5, l6, l7, l8] st σ Q ↔ z ≠ 0 ∧ ab_Run X 207 10 (2, 0, 0) [ab_R z, l1, l2, l3, l4, l5, l6, l7, l8] (ab_R z :: st) σ Q := ab_r_aload_n rfl kc_X13_compares dX13_compares_9
theorem rX13_compares_10 : ab_Run X 207 10 (2, 0, 0) [l0, l1, l2, ab_I z, l4, l5, l6, l7, l8] st σ Q ↔ ab_Run X 207 11 (2, 0, 0) [l0, l1, l2, ab_I z, l4, l5, l6, l7, l8] (ab_I z :: st) σ Q := ab_r_iload_n rfl kc_X13_compares dX13_compares_10
theorem rX13_compares_11 : ab_Run X 207 11 (2, 0, 0) [l0, l1, l2, l3, ab_I z, l5, l6, l7, l8] st σ Q ↔ ab_Run X 207 13 (2, 0, 0) [l0, l1, l2, l3, ab_I z, l5, l6, l7, l8] (ab_I z :: st) σ Q := ab_r_iload rfl kc_X13_compares dX13_compares_11
theorem rX13_compares_13 : ab_Run X 207 13 (2, 0, 0) L (ab_I x2 :: ab_I x1 :: ab_R a :: st) σ Q ↔ ((ab_sh σ a).1 = 14 ∧ ab_cats st ≤ 8) ∧ ab_Do X 204 [ab_R a, ab_I x1, ab_I x2] σ (fun r σ' => ab_Run X 207 16 (2, 0, 0) L (ab_psh r st) σ' Q) := ab_r_callV (w := [ab_I x2, ab_I x1]) (as := [ab_I x1, ab_I x2]) (b1 := (1, 0, 0)) 0 (Or.inl rfl) (by decide) ko_X13_compares qM_13_412 (by decide) rfl rfl rfl rfl rfl (by decide) (Nat.le_of_ble_eq_true rfl) kc_X13_compares dX13_compares_13
theorem rX13_compares_16 : ab_Run X 207 16 (2, 0, 0) L (ab_I a :: st) σ Q ↔ ab_Run X 207 17 (2, 0, 0) L (ab_J a :: st) σ Q := ab_r_i2l kc_X13_compares dX13_compares_16
theorem rX13_compares_17 : ab_Run X 207 17 (2, 0, 0) [l0, l1, l2, l3, l4, l5, l6, l7, l8] (ab_J z :: st) σ Q ↔ (!ab_isJ l6) = true ∧ ab_Run X 207 19 (2, 0, 0) [l0, l1, l2, l3, l4, l5, l6, ab_J z, ab_R 0] st σ Q := ab_r_lstore (Nat.le_of_ble_eq_true rfl) kc_X13_compares dX13_compares_17
theorem rX13_compares_19 : ab_Run X 207 19 (2, 0, 0) [l0, l1, l2, l3, l4, ab_J z, l6, l7, l8] st σ Q ↔ ab_Run X 207 21 (2, 0, 0) [l0, l1, l2, l3, l4, ab_J z, l6, l7, l8] (ab_J z :: st) σ Q := ab_r_lload rfl kc_X13_compares dX13_compares_19
theorem rX13_compares_21 : ab_Run X 207 21 (2, 0, 0) L st σ Q ↔ ab_Run X 207 22 (2, 0, 0) L (ab_J 0 :: st) σ Q := ab_r_lconst kc_X13_compares dX13_compares_21
theorem rX13_compares_22 : ab_Run X 207 22 (2, 0, 0) L (ab_J b :: ab_J a :: st) σ Q ↔ ab_Run X 207 23 (2, 0, 0) L (ab_I (if b < a then 1 else if a = b then 0 else -1) :: st) σ Q := ab_r_lcmp kc_X13_compares dX13_compares_22
theorem rX13_compares_23 : ab_Run X 207 23 (2, 0, 0) L (ab_I a :: st) σ Q ↔ (a = 0 → ab_Run X 207 33 (2, 0, 0) L st σ Q) ∧ (¬ (a = 0) → ab_Run X 207 26 (2, 0, 0) L st σ Q) := ab_r_if_eq rfl kc_X13_compares dX13_compares_23
theorem rX13_compares_26 : ab_Run X 207 26 (2, 0, 0) [l0, l1, l2, l3, l4, l5, l6, ab_J z, l8] st σ Q ↔ ab_Run X 207 28 (2, 0, 0) [l0, l1, l2, l3, l4, l5, l6, ab_J z, l8] (ab_J z :: st) σ Q := ab_r_lload rfl kc_X13_compares dX13_compares_26
theorem rX13_compares_28 : ab_Run X 207 28 (2, 0, 0) L st σ Q ↔ ab_Run X 207 29 (2, 0, 0) L (ab_J 0 :: st) σ Q := ab_r_lconst kc_X13_compares dX13_compares_28
theorem rX13_compares_29 : ab_Run X 207 29 (2, 0, 0) L (ab_J b :: ab_J a :: st) σ Q ↔ ab_Run X 207 30 (2, 0, 0) L (ab_I (if b < a then 1 else if a = b then 0 else -1) :: st) σ Q := ab_r_lcmp kc_X13_compares dX13_compares_29
theorem rX13_compares_30 : ab_Run X 207 30 (2, 0, 0) L (ab_I a :: st) σ Q ↔ (¬ a = 0 → ab_Run X 207 59 (2, 0, 0) L st σ Q) ∧ (¬ (¬ a = 0) → ab_Run X 207 33 (2, 0, 0) L st σ Q) := ab_r_if_ne rfl kc_X13_compares dX13_compares_30
theorem rX13_compares_33 : ab_Run X 207 33 (2, 0, 0) [l0, l1, l2, l3, l4, ab_J z, l6, l7, l8] st σ Q ↔ ab_Run X 207 35 (2, 0, 0) [l0, l1, l2, l3, l4, ab_J z, l6, l7, l8] (ab_J z :: st) σ Q := ab_r_lload rfl kc_X13_compares dX13_compares_33
theorem rX13_compares_35 : ab_Run X 207 35 (2, 0, 0) L st σ Q ↔ ab_Run X 207 36 (2, 0, 0) L (ab_J 0 :: st) σ Q := ab_r_lconst kc_X13_compares dX13_compares_35
theorem rX13_compares_36 : ab_Run X 207 36 (2, 0, 0) L (ab_J b :: ab_J a :: st) σ Q ↔ ab_Run X 207 37 (2, 0, 0) L (ab_I (if b < a then 1 else if a = b then 0 else -1) :: st) σ Q := ab_r_lcmp kc_X13_compares dX13_compares_36
theorem rX13_compares_37 : ab_Run X 207 37 (2, 0, 0) L (ab_I a :: st) σ Q ↔ (¬ a = 0 → ab_Run X 207 44 (2, 0, 0) L st σ Q) ∧ (¬ (¬ a = 0) → ab_Run X 207 40 (2, 0, 0) L st σ Q) := ab_r_if_ne rfl kc_X13_compares dX13_compares_37
theorem rX13_compares_40 : ab_Run X 207 40 (2, 0, 0) L st σ Q ↔ ab_Run X 207 41 (2, 0, 0) L (ab_J 1 :: st) σ Q := ab_r_lconst kc_X13_compares dX13_compares_40
theorem rX13_compares_41 : ab_Run X 207 41 (2, 0, 0) L st σ Q ↔ ab_Run X 207 45 (2, 0, 0) L st σ Q := ab_r_goto rfl kc_X13_compares dX13_compares_41
theorem rX13_compares_44 : ab_Run X 207 44 (2, 0, 0) L st σ Q ↔ ab_Run X 207 45 (2, 0, 0) L (ab_J 0 :: st) σ Q := ab_r_lconst kc_X13_compares dX13_compares_44
theorem rX13_compares_45 : ab_Run X 207 45 (2, 0, 0) [l0, l1, l2, l3, l4, l5, l6, ab_J z, l8] st σ Q ↔ ab_Run X 207 47 (2, 0, 0) [l0, l1, l2, l3, l4, l5, l6, ab_J z, l8] (ab_J z :: st) σ Q := ab_r_lload rfl kc_X13_compares dX13_compares_45
theorem rX13_compares_47 : ab_Run X 207 47 (2, 0, 0) L st σ Q ↔ ab_Run X 207 48 (2, 0, 0) L (ab_J 0 :: st) σ Q := ab_r_lconst kc_X13_compares dX13_compares_47
theorem rX13_compares_48 : ab_Run X 207 48 (2, 0, 0) L (ab_J b :: ab_J a :: st) σ Q ↔ ab_Run X 207 49 (2, 0, 0) L (ab_I (if b < a then 1 else if a = b then 0 else -1) :: st) σ Q := ab_r_lcmp kc_X13_compares dX13_compares_48
theorem rX13_compares_49 : ab_Run X 207 49 (2, 0, 0) L (ab_I a :: st) σ Q ↔ (¬ a = 0 → ab_Run X 207 56 (2, 0, 0) L st σ Q) ∧ (¬ (¬ a = 0) → ab_Run X 207 52 (2, 0, 0) L st σ Q) := ab_r_if_ne rfl kc_X13_compares dX13_compares_49
theorem rX13_compares_52 : ab_Run X 207 52 (2, 0, 0) L st σ Q ↔ ab_Run X 207 53 (2, 0, 0) L (ab_J 1 :: st) σ Q := ab_r_lconst kc_X13_compares dX13_compares_52
theorem rX13_compares_53 : ab_Run X 207 53 (2, 0, 0) L st σ Q ↔ ab_Run X 207 57 (2, 0, 0) L st σ Q := ab_r_goto rfl kc_X13_compares dX13_compares_53
theorem rX13_compares_56 : ab_Run X 207 56 (2, 0, 0) L st σ Q ↔ ab_Run X 207 57 (2, 0, 0) L (ab_J 0 :: st) σ Q := ab_r_lconst kc_X13_compares dX13_compares_56
theorem rX13_compares_57 : ab_Run X 207 57 (2, 0, 0) L (ab_J b :: ab_J a :: st) σ Q ↔ ab_Run X 207 58 (2, 0, 0) L (ab_J (ab_w64 (a - b)) :: st) σ Q := ab_r_lsub kc_X13_compares dX13_compares_57
theorem rX13_compares_58 : ab_Run X 207 58 (2, 0, 0) L [ab_J v] σ Q ↔ Q (some (ab_J v)) σ := ab_r_lreturn rfl kc_X13_compares dX13_compares_58
theorem rX13_compares_59 : ab_Run X 207 59 (2, 0, 0) [ab_R z, l1, l2, l3, l4, l5, l6, l7, l8] st σ Q ↔ z ≠ 0 ∧ ab_Run X 207 60 (2, 0, 0) [ab_R z, l1, l2, l3, l4, l5, l6, l7, l8] (ab_R z :: st) σ Q := ab_r_aload_n rfl kc_X13_compares dX13_compares_59
theorem rX13_compares_60 : ab_Run X 207 60 (2, 0, 0) [l0, ab_I z, l2, l3, l4, l5, l6, l7, l8] st σ Q ↔ ab_Run X 207 61 (2, 0, 0) [l0, ab_I z, l2, l3, l4, l5, l6, l7, l8] (ab_I z :: st) σ Q := ab_r_iload_n rfl kc_X13_compares dX13_compares_60
theorem rX13_compares_61 : ab_Run X 207 61 (2, 0, 0) [l0, l1, ab_I z, l3, l4, l5, l6, l7, l8] st σ Q ↔ ab_Run X 207 62 (2, 0, 0) [l0, l1, ab_I z, l3, l4, l5, l6, l7, l8] (ab_I z :: st) σ Q := ab_r_iload_n rfl kc_X13_compares dX13_compares_61
theorem rX13_compares_62 : ab_Run X 207 62 (2, 0, 0) L (ab_I x2 :: ab_I x1 :: ab_R a :: st) σ Q ↔ ((ab_sh σ a).1 = 14 ∧ ab_cats st ≤ 8) ∧ ab_Do X 205 [ab_R a, ab_I x1, ab_I x2] σ (fun r σ' => ab_Run X 207 65 (2, 0, 0) L (ab_psh r st) σ' Q) := ab_r_callV (w := [ab_I x2, ab_I x1]) (as := [ab_I x1, ab_I x2]) (b1 := (0, 0, 0)) 0 (Or.inl rfl) (by decide) ko_X13_compares qM_13_409 (by decide) rfl rfl rfl rfl rfl (by decide) (Nat.le_of_ble_eq_true rfl) kc_X13_compares dX13_compares_62
theorem rX13_compares_65 : ab_Run X 207 65 (2, 0, 0) L (ab_I a :: st) σ Q ↔ ab_Run X 207 66 (2, 0, 0) L (ab_J a :: st) σ Q := ab_r_i2l kc_X13_compares dX13_compares_65
theorem rX13_compares_66 : ab_Run X 207 66 (2, 0, 0) [l0, l1, l2, l3, l4, l5, l6, ab_J z, l8] st σ Q ↔ ab_Run X 207 68 (2, 0, 0) [l0, l1, l2, l3, l4, l5, l6, ab_J z, l8] (ab_J z :: st) σ Q := ab_r_lload rfl kc_X13_compares dX13_compares_66
theorem rX13_compares_68 : ab_Run X 207 68 (2, 0, 0) L (ab_J b :: ab_J a :: st) σ Q ↔ ab_Run X 207 69 (2, 0, 0) L (ab_J (ab_w64 (a * b)) :: st) σ Q := ab_r_lmul kc_X13_compares dX13_compares_68
theorem rX13_compares_69 : ab_Run X 207 69 (2, 0, 0) [ab_R z, l1, l2, l3, l4, l5, l6, l7, l8] st σ Q ↔ z ≠ 0 ∧ ab_Run X 207 70 (2, 0, 0) [ab_R z, l1, l2, l3, l4, l5, l6, l7, l8] (ab_R z :: st) σ Q := ab_r_aload_n rfl kc_X13_compares dX13_compares_69
theorem rX13_compares_70 : ab_Run X 207 70 (2, 0, 0) [l0, l1, l2, ab_I z, l4, l5, l6, l7, l8] st σ Q ↔ ab_Run X 207 71 (2, 0, 0) [l0, l1, l2, ab_I z, l4, l5, l6, l7, l8] (ab_I z :: st) σ Q := ab_r_iload_n rfl kc_X13_compares dX13_compares_70
theorem rX13_compares_71 : ab_Run X 207 71 (2, 0, 0) [l0, l1, l2, l3, ab_I z, l5, l6, l7, l8] st σ Q ↔ ab_Run X 207 73 (2, 0, 0) [l0, l1, l2, l3, ab_I z, l5, l6, l7, l8] (ab_I z :: st) σ Q := ab_r_iload rfl kc_X13_compares dX13_compares_71
theorem rX13_compares_73 : ab_Run X 207 73 (2, 0, 0) L (ab_I x2 :: ab_I x1 :: ab_R a :: st) σ Q ↔ ((ab_sh σ a).1 = 14 ∧ ab_cats st ≤ 8) ∧ ab_Do X 205 [ab_R a, ab_I x1, ab_I x2] σ (fun r σ' => ab_Run X 207 76 (2, 0, 0) L (ab_psh r st) σ' Q) := ab_r_callV (w := [ab_I x2, ab_I x1]) (as := [ab_I x1, ab_I x2]) (b1 := (0, 0, 0)) 0 (Or.inl rfl) (by decide) ko_X13_compares qM_13_409 (by decide) rfl rfl rfl rfl rfl (by decide) (Nat.le_of_ble_eq_true rfl) kc_X13_compares dX13_compares_73
theorem rX13_compares_76 : ab_Run X 207 76 (2, 0, 0) L (ab_I a :: st) σ Q ↔ ab_Run X 207 77 (2, 0, 0) L (ab_J a :: st) σ Q := ab_r_i2l kc_X13_compares dX13_compares_76
theorem rX13_compares_77 : ab_Run X 207 77 (2, 0, 0) [l0, l1, l2, l3, l4, ab_J z, l6, l7, l8] st σ Q ↔ ab_Run X 207 79 (2, 0, 0) [l0, l1, l2, l3, l4, ab_J z, l6, l7, l8] (ab_J z :: st) σ Q := ab_r_lload rfl kc_X13_compares dX13_compares_77
theorem rX13_compares_79 : ab_Run X 207 79 (2, 0, 0) L (ab_J b :: ab_J a :: st) σ Q ↔ ab_Run X 207 80 (2, 0, 0) L (ab_J (ab_w64 (a * b)) :: st) σ Q := ab_r_lmul kc_X13_compares dX13_compares_79
theorem rX13_compares_80 : ab_Run X 207 80 (2, 0, 0) L (ab_J b :: ab_J a :: st) σ Q ↔ ab_Run X 207 81 (2, 0, 0) L (ab_J (ab_w64 (a - b)) :: st) σ Q := ab_r_lsub kc_X13_compares dX13_compares_80
theorem rX13_compares_81 : ab_Run X 207 81 (2, 0, 0) L [ab_J v] σ Q ↔ Q (some (ab_J v)) σ := ab_r_lreturn rfl kc_X13_compares dX13_compares_81
theorem kc_X13_comes : ab_code 208 = cX13_comes := rfl
theorem ko_X13_comes : ab_ow 208 = 13 := rfl
theorem rX13_comes_0 : ab_Run X 208 0 (4, 0, 0) [ab_R z, l1, l2, l3, l4] st σ Q ↔ z ≠ 0 ∧ ab_Run X 208 1 (4, 0, 0) [ab_R z, l1, l2, l3, l4] (ab_R z :: st) σ Q := ab_r_aload_n rfl kc_X13_comes dX13_comes_0
theorem rX13_comes_1 : ab_Run X 208 1 (4, 0, 0) L st σ Q ↔ ab_Run X 208 2 (4, 0, 0) L (ab_I (-1) :: st) σ Q := ab_r_iconst (by decide) kc_X13_comes dX13_comes_1
theorem rX13_comes_2 : ab_Run X 208 2 (4, 0, 0) L (ab_I z :: ab_R a :: st) σ Q ↔ (ab_sh σ a).1 = 14 ∧ ab_Run X 208 5 (4, 0, 0) L st (ab_wr σ a 25 z) Q := sF_13_419 ko_X13_comes kc_X13_comes dX13_comes_2
theorem rX13_comes_5 : ab_Run X 208 5 (4, 0, 0) [ab_R z, l1, l2, l3, l4] st σ Q ↔ z ≠ 0 ∧ ab_Run X 208 6 (4, 0, 0) [ab_R z, l1, l2, l3, l4] (ab_R z :: st) σ Q := ab_r_aload_n rfl kc_X13_comes dX13_comes_5
theorem rX13_comes_6 : ab_Run X 208 6 (4, 0, 0) L (ab_R a :: st) σ Q ↔ (ab_sh σ a).1 = 14 ∧ ab_Run X 208 9 (4, 0, 0) L (ab_I (ab_rd σ a 22) :: st) σ Q := gF_13_383 ko_X13_comes kc_X13_comes dX13_comes_6
theorem rX13_comes_9 : ab_Run X 208 9 (4, 0, 0) [ab_R z, l1, l2, l3, l4] st σ Q ↔ z ≠ 0 ∧ ab_Run X 208 10 (4, 0, 0) [ab_R z, l1, l2, l3, l4] (ab_R z :: st) σ Q := ab_r_aload_n rfl kc_X13_comes dX13_comes_9
theorem rX13_comes_10 : ab_Run X 208 10 (4, 0, 0) L (ab_R a :: st) σ Q ↔ (ab_sh σ a).1 = 14 ∧ ab_Run X 208 13 (4, 0, 0) L (ab_R (ab_rd σ a 3) :: st) σ Q := gF_13_373 ko_X13_comes kc_X13_comes dX13_comes_10
theorem rX13_comes_13 : ab_Run X 208 13 (4, 0, 0) L (ab_R a :: st) σ Q ↔ (ab_sh σ a).1 = 13 ∧ ab_Run X 208 16 (4, 0, 0) L (ab_I (ab_rd σ a 0) :: st) σ Q := gF_13_250 ko_X13_comes kc_X13_comes dX13_comes_13
theorem rX13_comes_16 : ab_Run X 208 16 (4, 0, 0) L (ab_I b :: ab_I a :: st) σ Q ↔ (a < b → ab_Run X 208 34 (4, 0, 0) L st σ Q) ∧ (¬ (a < b) → ab_Run X 208 19 (4, 0, 0) L st σ Q) := ab_r_icmp_lt rfl kc_X13_comes dX13_comes_16
theorem rX13_comes_19 : ab_Run X 208 19 (4, 0, 0) [ab_R z, l1, l2, l3, l4] st σ Q ↔ z ≠ 0 ∧ ab_Run X 208 20 (4, 0, 0) [ab_R z, l1, l2, l3, l4] (ab_R z :: st) σ Q := ab_r_aload_n rfl kc_X13_comes dX13_comes_19
theorem rX13_comes_20 : ab_Run X 208 20 (4, 0, 0) L (ab_R a :: st) σ Q ↔ (ab_sh σ a).1 = 14 ∧ ab_Run X 208 23 (4, 0, 0) L (ab_R (ab_rd σ a 16) :: st) σ Q := gF_13_17 ko_X13_comes kc_X13_comes dX13_comes_20
theorem rX13_comes_23 : ab_Run X 208 23 (4, 0, 0) L st σ Q ↔ ab_Run X 208 24 (4, 0, 0) L (ab_I 0 :: st) σ Q := ab_r_iconst (by decide) kc_X13_comes dX13_comes_23
theorem rX13_comes_24 : ab_Run X 208 24 (4, 0, 0) [ab_R z, l1, l2, l3, l4] st σ Q ↔ z ≠ 0 ∧ ab_Run X 208 25 (4, 0, 0) [ab_R z, l1, l2, l3, l4] (ab_R z :: st) σ Q := ab_r_aload_n rfl kc_X13_comes dX13_comes_24
theorem rX13_comes_25 : ab_Run X 208 25 (4, 0, 0) L (ab_R a :: st) σ Q ↔ (ab_sh σ a).1 = 14 ∧ ab_Run X 208 28 (4, 0, 0) L (ab_I (ab_rd σ a 21) :: st) σ Q := gF_13_381 ko_X13_comes kc_X13_comes dX13_comes_25
theorem rX13_comes_28 : ab_Run X 208 28 (4, 0, 0) L (ab_I b :: ab_I a :: st) σ Q ↔ ab_Run X 208 29 (4, 0, 0) L (ab_I (ab_w32 (a + b)) :: st) σ Q := ab_r_iadd kc_X13_comes dX13_comes_28
theorem rX13_comes_29 : ab_Run X 208 29 (4, 0, 0) L (ab_I i :: ab_R a :: st) σ Q ↔ ((ab_sh σ a).1 = 21 ∧ 0 ≤ i ∧ i < (ab_sh σ a).2) ∧ ab_Run X 208 30 (4, 0, 0) L (ab_I (ab_rd σ a i) :: st) σ Q := ab_r_iaload (by decide) kc_X13_comes dX13_comes_29
theorem rX13_comes_30 : ab_Run X 208 30 (4, 0, 0) L st σ Q ↔ ab_Run X 208 31 (4, 0, 0) L (ab_I 2 :: st) σ Q := ab_r_iconst (by decide) kc_X13_comes dX13_comes_30
theorem rX13_comes_31 : ab_Run X 208 31 (4, 0, 0) L (ab_I b :: ab_I a :: st) σ Q ↔ (¬ a = b → ab_Run X 208 36 (4, 0, 0) L st σ Q) ∧ (¬ (¬ a = b) → ab_Run X 208 34 (4, 0, 0) L st σ Q) := ab_r_icmp_ne rfl kc_X13_comes dX13_comes_31
theorem rX13_comes_34 : ab_Run X 208 34 (4, 0, 0) L st σ Q ↔ ab_Run X 208 35 (4, 0, 0) L (ab_I 3 :: st) σ Q := ab_r_iconst (by decide) kc_X13_comes dX13_comes_34
theorem rX13_comes_35 : ab_Run X 208 35 (4, 0, 0) L [ab_I v] σ Q ↔ Q (some (ab_I v)) σ := ab_r_ireturnI rfl kc_X13_comes dX13_comes_35
theorem rX13_comes_36 : ab_Run X 208 36 (4, 0, 0) [ab_R z, l1, l2, l3, l4] st σ Q ↔ z ≠ 0 ∧ ab_Run X 208 37 (4, 0, 0) [ab_R z, l1, l2, l3, l4] (ab_R z :: st) σ Q := ab_r_aload_n rfl kc_X13_comes dX13_comes_36
theorem rX13_comes_37 : ab_Run X 208 37 (4, 0, 0) L st σ Q ↔ ab_Run X 208 38 (4, 0, 0) L (ab_I 0 :: st) σ Q := ab_r_iconst (by decide) kc_X13_comes dX13_comes_37
theorem rX13_comes_38 : ab_Run X 208 38 (4, 0, 0) L (ab_I x1 :: ab_R a :: st) σ Q ↔ ((ab_sh σ a).1 = 14 ∧ ab_cats st ≤ 8) ∧ ab_Do X 206 [ab_R a, ab_I x1] σ (fun r σ' => ab_Run X 208 41 (4, 0, 0) L (ab_psh r st) σ' Q) := ab_r_callV (w := [ab_I x1]) (as := [ab_I x1]) (b1 := (3, 0, 0)) 0 (Or.inl rfl) (by decide) ko_X13_comes qM_13_422 (by decide) rfl rfl rfl rfl rfl (by decide) (Nat.le_of_ble_eq_true rfl) kc_X13_comes dX13_comes_38
theorem rX13_comes_41 : ab_Run X 208 41 (4, 0, 0) [l0, l1, l2, l3, l4] (ab_I z :: st) σ Q ↔ (!ab_isJ l0) = true ∧ ab_Run X 208 42 (4, 0, 0) [l0, ab_I z, l2, l3, l4] st σ Q := ab_r_istore_n (Nat.le_of_ble_eq_true rfl) kc_X13_comes dX13_comes_41
theorem rX13_comes_42 : ab_Run X 208 42 (4, 0, 0) [ab_R z, l1, l2, l3, l4] st σ Q ↔ z ≠ 0 ∧ ab_Run X 208 43 (4, 0, 0) [ab_R z, l1, l2, l3, l4] (ab_R z :: st) σ Q := ab_r_aload_n rfl kc_X13_comes dX13_comes_42
theorem rX13_comes_43 : ab_Run X 208 43 (4, 0, 0) L st σ Q ↔ ab_Run X 208 44 (4, 0, 0) L (ab_I 1 :: st) σ Q := ab_r_iconst (by decide) kc_X13_comes dX13_comes_43
theorem rX13_comes_44 : ab_Run X 208 44 (4, 0, 0) L (ab_I x1 :: ab_R a :: st) σ Q ↔ ((ab_sh σ a).1 = 14 ∧ ab_cats st ≤ 8) ∧ ab_Do X 206 [ab_R a, ab_I x1] σ (fun r σ' => ab_Run X 208 47 (4, 0, 0) L (ab_psh r st) σ' Q) := ab_r_callV (w := [ab_I x1]) (as := [ab_I x1]) (b1 := (3, 0, 0)) 0 (Or.inl rfl) (by decide) ko_X13_comes qM_13_422 (by decide) rfl rfl rfl rfl rfl (by decide) (Nat.le_of_ble_eq_true rfl) kc_X13_comes dX13_comes_44
theorem rX13_comes_47 : ab_Run X 208 47 (4, 0, 0) [l0, l1, l2, l3, l4] (ab_I z :: st) σ Q ↔ (!ab_isJ l1) = true ∧ ab_Run X 208 48 (4, 0, 0) [l0, l1, ab_I z, l3, l4] st σ Q := ab_r_istore_n (Nat.le_of_ble_eq_true rfl) kc_X13_comes dX13_comes_47
theorem rX13_comes_48 : ab_Run X 208 48 (4, 0, 0) [l0, ab_I z, l2, l3, l4] st σ Q ↔ ab_Run X 208 49 (4, 0, 0) [l0, ab_I z, l2, l3, l4] (ab_I z :: st) σ Q := ab_r_iload_n rfl kc_X13_comes dX13_comes_48
theorem rX13_comes_49 : ab_Run X 208 49 (4, 0, 0) L st σ Q ↔ ab_Run X 208 50 (4, 0, 0) L (ab_I (-1) :: st) σ Q := ab_r_iconst (by decide) kc_X13_comes dX13_comes_49
theorem rX13_comes_50 : ab_Run X 208 50 (4, 0, 0) L (ab_I b :: ab_I a :: st) σ Q ↔ (¬ a = b → ab_Run X 208 60 (4, 0, 0) L st σ Q) ∧ (¬ (¬ a = b) → ab_Run X 208 53 (4, 0, 0) L st σ Q) := ab_r_icmp_ne rfl kc_X13_comes dX13_comes_50
theorem rX13_comes_53 : ab_Run X 208 53 (4, 0, 0) [l0, l1, ab_I z, l3, l4] st σ Q ↔ ab_Run X 208 54 (4, 0, 0) [l0, l1, ab_I z, l3, l4] (ab_I z :: st) σ Q := ab_r_iload_n rfl kc_X13_comes dX13_comes_53
theorem rX13_comes_54 : ab_Run X 208 54 (4, 0, 0) L st σ Q ↔ ab_Run X 208 55 (4, 0, 0) L (ab_I (-1) :: st) σ Q := ab_r_iconst (by decide) kc_X13_comes dX13_comes_54
theorem rX13_comes_55 : ab_Run X 208 55 (4, 0, 0) L (ab_I b :: ab_I a :: st) σ Q ↔ (¬ a = b → ab_Run X 208 60 (4, 0, 0) L st σ Q) ∧ (¬ (¬ a = b) → ab_Run X 208 58 (4, 0, 0) L st σ Q) := ab_r_icmp_ne rfl kc_X13_comes dX13_comes_55
theorem rX13_comes_58 : ab_Run X 208 58 (4, 0, 0) L st σ Q ↔ ab_Run X 208 59 (4, 0, 0) L (ab_I 3 :: st) σ Q := ab_r_iconst (by decide) kc_X13_comes dX13_comes_58
theorem rX13_comes_59 : ab_Run X 208 59 (4, 0, 0) L [ab_I v] σ Q ↔ Q (some (ab_I v)) σ := ab_r_ireturnI rfl kc_X13_comes dX13_comes_59
theorem rX13_comes_60 : ab_Run X 208 60 (4, 0, 0) [l0, ab_I z, l2, l3, l4] st σ Q ↔ ab_Run X 208 61 (4, 0, 0) [l0, ab_I z, l2, l3, l4] (ab_I z :: st) σ Q := ab_r_iload_n rfl kc_X13_comes dX13_comes_60
theorem rX13_comes_61 : ab_Run X 208 61 (4, 0, 0) L st σ Q ↔ ab_Run X 208 62 (4, 0, 0) L (ab_I (-1) :: st) σ Q := ab_r_iconst (by decide) kc_X13_comes dX13_comes_61
theorem rX13_comes_62 : ab_Run X 208 62 (4, 0, 0) L (ab_I b :: ab_I a :: st) σ Q ↔ (¬ a = b → ab_Run X 208 71 (4, 0, 0) L st σ Q) ∧ (¬ (¬ a = b) → ab_Run X 208 65 (4, 0, 0) L st σ Q) := ab_r_icmp_ne rfl kc_X13_comes dX13_comes_62
theorem rX13_comes_65 : ab_Run X 208 65 (4, 0, 0) L st σ Q ↔ ab_Run X 208 68 (4, 0, 0) L (ab_J (-1) :: st) σ Q := ab_r_ldc2_w rfl ko_X13_comes (by decide +kernel) kc_X13_comes dX13_comes_65
theorem rX13_comes_68 : ab_Run X 208 68 (4, 0, 0) L st σ Q ↔ ab_Run X 208 88 (4, 0, 0) L st σ Q := ab_r_goto rfl kc_X13_comes dX13_comes_68
theorem rX13_comes_71 : ab_Run X 208 71 (4, 0, 0) [l0, l1, ab_I z, l3, l4] st σ Q ↔ ab_Run X 208 72 (4, 0, 0) [l0, l1, ab_I z, l3, l4] (ab_I z :: st) σ Q := ab_r_iload_n rfl kc_X13_comes dX13_comes_71
theorem rX13_comes_72 : ab_Run X 208 72 (4, 0, 0) L st σ Q ↔ ab_Run X 208 73 (4, 0, 0) L (ab_I (-1) :: st) σ Q := ab_r_iconst (by decide) kc_X13_comes dX13_comes_72
theorem rX13_comes_73 : ab_Run X 208 73 (4, 0, 0) L (ab_I b :: ab_I a :: st) σ Q ↔ (¬ a = b → ab_Run X 208 80 (4, 0, 0) L st σ Q) ∧ (¬ (¬ a = b) → ab_Run X 208 76 (4, 0, 0) L st σ Q) := ab_r_icmp_ne rfl kc_X13_comes dX13_comes_73
theorem rX13_comes_76 : ab_Run X 208 76 (4, 0, 0) L st σ Q ↔ ab_Run X 208 77 (4, 0, 0) L (ab_J 1 :: st) σ Q := ab_r_lconst kc_X13_comes dX13_comes_76
theorem rX13_comes_77 : ab_Run X 208 77 (4, 0, 0) L st σ Q ↔ ab_Run X 208 88 (4, 0, 0) L st σ Q := ab_r_goto rfl kc_X13_comes dX13_comes_77
theorem rX13_comes_80 : ab_Run X 208 80 (4, 0, 0) [ab_R z, l1, l2, l3, l4] st σ Q ↔ z ≠ 0 ∧ ab_Run X 208 81 (4, 0, 0) [ab_R z, l1, l2, l3, l4] (ab_R z :: st) σ Q := ab_r_aload_n rfl kc_X13_comes dX13_comes_80
theorem rX13_comes_81 : ab_Run X 208 81 (4, 0, 0) L st σ Q ↔ ab_Run X 208 82 (4, 0, 0) L (ab_I 0 :: st) σ Q := ab_r_iconst (by decide) kc_X13_comes dX13_comes_81
theorem rX13_comes_82 : ab_Run X 208 82 (4, 0, 0) [l0, ab_I z, l2, l3, l4] st σ Q ↔ ab_Run X 208 83 (4, 0, 0) [l0, ab_I z, l2, l3, l4] (ab_I z :: st) σ Q := ab_r_iload_n rfl kc_X13_comes dX13_comes_82
theorem rX13_comes_83 : ab_Run X 208 83 (4, 0, 0) L st σ Q ↔ ab_Run X 208 84 (4, 0, 0) L (ab_I 1 :: st) σ Q := ab_r_iconst (by decide) kc_X13_comes dX13_comes_83
theorem rX13_comes_84 : ab_Run X 208 84 (4, 0, 0) [l0, l1, ab_I z, l3, l4] st σ Q ↔ ab_Run X 208 85 (4, 0, 0) [l0, l1, ab_I z, l3, l4] (ab_I z :: st) σ Q := ab_r_iload_n rfl kc_X13_comes dX13_comes_84
theorem rX13_comes_85 : ab_Run X 208 85 (4, 0, 0) L (ab_I x4 :: ab_I x3 :: ab_I x2 :: ab_I x1 :: ab_R a :: st) σ Q ↔ ((ab_sh σ a).1 = 14 ∧ ab_cats st ≤ 8) ∧ ab_Do X 207 [ab_R a, ab_I x1, ab_I x2, ab_I x3, ab_I x4] σ (fun r σ' => ab_Run X 208 88 (4, 0, 0) L (ab_psh r st) σ' Q) := ab_r_callV (w := [ab_I x4, ab_I x3, ab_I x2, ab_I x1]) (as := [ab_I x1, ab_I x2, ab_I x3, ab_I x4]) (b1 := (2, 0, 0)) 0 (Or.inl rfl) (by decide) ko_X13_comes qM_13_415 (by decide) rfl rfl rfl rfl rfl (by decide) (Nat.le_of_ble_eq_true rfl) kc_X13_comes dX13_comes_85
theorem rX13_comes_88 : ab_Run X 208 88 (4, 0, 0) [l0, l1, l2, l3, l4] (ab_J z :: st) σ Q ↔ (!ab_isJ l2) = true ∧ ab_Run X 208 89 (4, 0, 0) [l0, l1, l2, ab_J z, ab_R 0] st σ Q := ab_r_lstore_n (Nat.le_of_ble_eq_true rfl) kc_X13_comes dX13_comes_88
theorem rX13_comes_89 : ab_Run X 208 89 (4, 0, 0) [l0, l1, l2, ab_J z, l4] st σ Q ↔ ab_Run X 208 90 (4, 0, 0) [l0, l1, l2, ab_J z, l4] (ab_J z :: st) σ Q := ab_r_lload_n rfl kc_X13_comes dX13_comes_89
theorem rX13_comes_90 : ab_Run X 208 90 (4, 0, 0) L st σ Q ↔ ab_Run X 208 91 (4, 0, 0) L (ab_J 0 :: st) σ Q := ab_r_lconst kc_X13_comes dX13_comes_90
theorem rX13_comes_91 : ab_Run X 208 91 (4, 0, 0) L (ab_J b :: ab_J a :: st) σ Q ↔ ab_Run X 208 92 (4, 0, 0) L (ab_I (if b < a then 1 else if a = b then 0 else -1) :: st) σ Q := ab_r_lcmp kc_X13_comes dX13_comes_91
theorem rX13_comes_92 : ab_Run X 208 92 (4, 0, 0) L (ab_I a :: st) σ Q ↔ (¬ a = 0 → ab_Run X 208 97 (4, 0, 0) L st σ Q) ∧ (¬ (¬ a = 0) → ab_Run X 208 95 (4, 0, 0) L st σ Q) := ab_r_if_ne rfl kc_X13_comes dX13_comes_92
theorem rX13_comes_95 : ab_Run X 208 95 (4, 0, 0) L st σ Q ↔ ab_Run X 208 96 (4, 0, 0) L (ab_I 2 :: st) σ Q := ab_r_iconst (by decide) kc_X13_comes dX13_comes_95
theorem rX13_comes_96 : ab_Run X 208 96 (4, 0, 0) L [ab_I v] σ Q ↔ Q (some (ab_I v)) σ := ab_r_ireturnI rfl kc_X13_comes dX13_comes_96
theorem rX13_comes_97 : ab_Run X 208 97 (4, 0, 0) [ab_R z, l1, l2, l3, l4] st σ Q ↔ z ≠ 0 ∧ ab_Run X 208 98 (4, 0, 0) [ab_R z, l1, l2, l3, l4] (ab_R z :: st) σ Q := ab_r_aload_n rfl kc_X13_comes dX13_comes_97
theorem rX13_comes_98 : ab_Run X 208 98 (4, 0, 0) [l0, l1, l2, ab_J z, l4] st σ Q ↔ ab_Run X 208 99 (4, 0, 0) [l0, l1, l2, ab_J z, l4] (ab_J z :: st) σ Q := ab_r_lload_n rfl kc_X13_comes dX13_comes_98
theorem rX13_comes_99 : ab_Run X 208 99 (4, 0, 0) L st σ Q ↔ ab_Run X 208 100 (4, 0, 0) L (ab_J 0 :: st) σ Q := ab_r_lconst kc_X13_comes dX13_comes_99
theorem rX13_comes_100 : ab_Run X 208 100 (4, 0, 0) L (ab_J b :: ab_J a :: st) σ Q ↔ ab_Run X 208 101 (4, 0, 0) L (ab_I (if b < a then 1 else if a = b then 0 else -1) :: st) σ Q := ab_r_lcmp kc_X13_comes dX13_comes_100
theorem rX13_comes_101 : ab_Run X 208 101 (4, 0, 0) L (ab_I a :: st) σ Q ↔ (a ≤ 0 → ab_Run X 208 108 (4, 0, 0) L st σ Q) ∧ (¬ (a ≤ 0) → ab_Run X 208 104 (4, 0, 0) L st σ Q) := ab_r_if_le rfl kc_X13_comes dX13_comes_101
theorem rX13_comes_104 : ab_Run X 208 104 (4, 0, 0) L st σ Q ↔ ab_Run X 208 105 (4, 0, 0) L (ab_I 0 :: st) σ Q := ab_r_iconst (by decide) kc_X13_comes dX13_comes_104
theorem rX13_comes_105 : ab_Run X 208 105 (4, 0, 0) L st σ Q ↔ ab_Run X 208 109 (4, 0, 0) L st σ Q := ab_r_goto rfl kc_X13_comes dX13_comes_105
theorem rX13_comes_108 : ab_Run X 208 108 (4, 0, 0) L st σ Q ↔ ab_Run X 208 109 (4, 0, 0) L (ab_I 1 :: st) σ Q := ab_r_iconst (by decide) kc_X13_comes dX13_comes_108
theorem rX13_comes_109 : ab_Run X 208 109 (4, 0, 0) L (ab_I z :: ab_R a :: st) σ Q ↔ (ab_sh σ a).1 = 14 ∧ ab_Run X 208 112 (4, 0, 0) L st (ab_wr σ a 25 z) Q := sF_13_419 ko_X13_comes kc_X13_comes dX13_comes_109
theorem rX13_comes_112 : ab_Run X 208 112 (4, 0, 0) [ab_R z, l1, l2, l3, l4] st σ Q ↔ z ≠ 0 ∧ ab_Run X 208 113 (4, 0, 0) [ab_R z, l1, l2, l3, l4] (ab_R z :: st) σ Q := ab_r_aload_n rfl kc_X13_comes dX13_comes_112
theorem rX13_comes_113 : ab_Run X 208 113 (4, 0, 0) [l0, l1, l2, ab_J z, l4] st σ Q ↔ ab_Run X 208 114 (4, 0, 0) [l0, l1, l2, ab_J z, l4] (ab_J z :: st) σ Q := ab_r_lload_n rfl kc_X13_comes dX13_comes_113
theorem rX13_comes_114 : ab_Run X 208 114 (4, 0, 0) L st σ Q ↔ ab_Run X 208 115 (4, 0, 0) L (ab_J 0 :: st) σ Q := ab_r_lconst kc_X13_comes dX13_comes_114
theorem rX13_comes_115 : ab_Run X 208 115 (4, 0, 0) L (ab_J b :: ab_J a :: st) σ Q ↔ ab_Run X 208 116 (4, 0, 0) L (ab_I (if b < a then 1 else if a = b then 0 else -1) :: st) σ Q := ab_r_lcmp kc_X13_comes dX13_comes_115
theorem rX13_comes_116 : ab_Run X 208 116 (4, 0, 0) L (ab_I a :: st) σ Q ↔ (a ≤ 0 → ab_Run X 208 123 (4, 0, 0) L st σ Q) ∧ (¬ (a ≤ 0) → ab_Run X 208 119 (4, 0, 0) L st σ Q) := ab_r_if_le rfl kc_X13_comes dX13_comes_116
theorem rX13_comes_119 : ab_Run X 208 119 (4, 0, 0) [l0, ab_I z, l2, l3, l4] st σ Q ↔ ab_Run X 208 120 (4, 0, 0) [l0, ab_I z, l2, l3, l4] (ab_I z :: st) σ Q := ab_r_iload_n rfl kc_X13_comes dX13_comes_119
theorem rX13_comes_120 : ab_Run X 208 120 (4, 0, 0) L st σ Q ↔ ab_Run X 208 124 (4, 0, 0) L st σ Q := ab_r_goto rfl kc_X13_comes dX13_comes_120
theorem rX13_comes_123 : ab_Run X 208 123 (4, 0, 0) [l0, l1, ab_I z, l3, l4] st σ Q ↔ ab_Run X 208 124 (4, 0, 0) [l0, l1, ab_I z, l3, l4] (ab_I z :: st) σ Q := ab_r_iload_n rfl kc_X13_comes dX13_comes_123
theorem rX13_comes_124 : ab_Run X 208 124 (4, 0, 0) L (ab_I z :: ab_R a :: st) σ Q ↔ (ab_sh σ a).1 = 14 ∧ ab_Run X 208 127 (4, 0, 0) L st (ab_wr σ a 26 z) Q := sF_13_427 ko_X13_comes kc_X13_comes dX13_comes_124
theorem rX13_comes_127 : ab_Run X 208 127 (4, 0, 0) [l0, l1, l2, ab_J z, l4] st σ Q ↔ ab_Run X 208 128 (4, 0, 0) [l0, l1, l2, ab_J z, l4] (ab_J z :: st) σ Q := ab_r_lload_n rfl kc_X13_comes dX13_comes_127
theorem rX13_comes_128 : ab_Run X 208 128 (4, 0, 0) L st σ Q ↔ ab_Run X 208 129 (4, 0, 0) L (ab_J 0 :: st) σ Q := ab_r_lconst kc_X13_comes dX13_comes_128
theorem rX13_comes_129 : ab_Run X 208 129 (4, 0, 0) L (ab_J b :: ab_J a :: st) σ Q ↔ ab_Run X 208 130 (4, 0, 0) L (ab_I (if b < a then 1 else if a = b then 0 else -1) :: st) σ Q := ab_r_lcmp kc_X13_comes dX13_comes_129
theorem rX13_comes_130 : ab_Run X 208 130 (4, 0, 0) L (ab_I a :: st) σ Q ↔ (a ≤ 0 → ab_Run X 208 137 (4, 0, 0) L st σ Q) ∧ (¬ (a ≤ 0) → ab_Run X 208 133 (4, 0, 0) L st σ Q) := ab_r_if_le rfl kc_X13_comes dX13_comes_130
theorem rX13_comes_133 : ab_Run X 208 133 (4, 0, 0) L st σ Q ↔ ab_Run X 208 134 (4, 0, 0) L (ab_I 1 :: st) σ Q := ab_r_iconst (by decide) kc_X13_comes dX13_comes_133
theorem rX13_comes_134 : ab_Run X 208 134 (4, 0, 0) L st σ Q ↔ ab_Run X 208 138 (4, 0, 0) L st σ Q := ab_r_goto rfl kc_X13_comes dX13_comes_134
theorem rX13_comes_137 : ab_Run X 208 137 (4, 0, 0) L st σ Q ↔ ab_Run X 208 138 (4, 0, 0) L (ab_I 0 :: st) σ Q := ab_r_iconst (by decide) kc_X13_comes dX13_comes_137
theorem rX13_comes_138 : ab_Run X 208 138 (4, 0, 0) L [ab_I v] σ Q ↔ Q (some (ab_I v)) σ := ab_r_ireturnI rfl kc_X13_comes dX13_comes_138
theorem kc_X13_allPlaces : ab_code 209 = cX13_allPlaces := rfl
theorem ko_X13_allPlaces : ab_ow 209 = 13 := rfl
theorem rX13_allPlaces_0 : ab_Run X 209 0 (1, 0, 0) [ab_R z] st σ Q ↔ z ≠ 0 ∧ ab_Run X 209 1 (1, 0, 0) [ab_R z] (ab_R z :: st) σ Q := ab_r_aload_n rfl kc_X13_allPlaces dX13_allPlaces_0
theorem rX13_allPlaces_1 : ab_Run X 209 1 (1, 0, 0) L (ab_R a :: st) σ Q ↔ (ab_sh σ a).1 = 14 ∧ ab_Run X 209 4 (1, 0, 0) L (ab_R (ab_rd σ a 3) :: st) σ Q := gF_13_373 ko_X13_allPlaces kc_X13_allPlaces dX13_allPlaces_1
theorem rX13_allPlaces_4 : ab_Run X 209 4 (1, 0, 0) [ab_R z] st σ Q ↔ z ≠ 0 ∧ ab_Run X 209 5 (1, 0, 0) [ab_R z] (ab_R z :: st) σ Q := ab_r_aload_n rfl kc_X13_allPlaces dX13_allPlaces_4
theorem rX13_allPlaces_5 : ab_Run X 209 5 (1, 0, 0) L (ab_R a :: st) σ Q ↔ (ab_sh σ a).1 = 14 ∧ ab_Run X 209 8 (1, 0, 0) L (ab_I (ab_rd σ a 21) :: st) σ Q := gF_13_381 ko_X13_allPlaces kc_X13_allPlaces dX13_allPlaces_5
theorem rX13_allPlaces_8 : ab_Run X 209 8 (1, 0, 0) L st σ Q ↔ ab_Run X 209 9 (1, 0, 0) L (ab_I 0 :: st) σ Q := ab_r_iconst (by decide) kc_X13_allPlaces dX13_allPlaces_8
theorem rX13_allPlaces_9 : ab_Run X 209 9 (1, 0, 0) L (ab_I x2 :: ab_I x1 :: ab_R a :: st) σ Q ↔ ((ab_sh σ a).1 = 13 ∧ ab_cats st ≤ 8) ∧ ab_Do X 154 [ab_R a, ab_I x1, ab_I x2] σ (fun r σ' => ab_Run X 209 12 (1, 0, 0) L (ab_psh r st) σ' Q) := ab_r_callV (w := [ab_I x2, ab_I x1]) (as := [ab_I x1, ab_I x2]) (b1 := (0, 0, 0)) 0 (Or.inl rfl) (by decide) ko_X13_allPlaces qM_13_406 (by decide) rfl rfl rfl rfl rfl (by decide) (Nat.le_of_ble_eq_true rfl) kc_X13_allPlaces dX13_allPlaces_9
theorem rX13_allPlaces_12 : ab_Run X 209 12 (1, 0, 0) [ab_R z] st σ Q ↔ z ≠ 0 ∧ ab_Run X 209 13 (1, 0, 0) [ab_R z] (ab_R z :: st) σ Q := ab_r_aload_n rfl kc_X13_allPlaces dX13_allPlaces_12
theorem rX13_allPlaces_13 : ab_Run X 209 13 (1, 0, 0) L (ab_R a :: st) σ Q ↔ (ab_sh σ a).1 = 14 ∧ ab_Run X 209 16 (1, 0, 0) L (ab_R (ab_rd σ a 3) :: st) σ Q := gF_13_373 ko_X13_allPlaces kc_X13_allPlaces dX13_allPlaces_13
theorem rX13_allPlaces_16 : ab_Run X 209 16 (1, 0, 0) [ab_R z] st σ Q ↔ z ≠ 0 ∧ ab_Run X 209 17 (1, 0, 0) [ab_R z] (ab_R z :: st) σ Q := ab_r_aload_n rfl kc_X13_allPlaces dX13_allPlaces_16
theorem rX13_allPlaces_17 : ab_Run X 209 17 (1, 0, 0) L (ab_R a :: st) σ Q ↔ (ab_sh σ a).1 = 14 ∧ ab_Run X 209 20 (1, 0, 0) L (ab_I (ab_rd σ a 21) :: st) σ Q := gF_13_381 ko_X13_allPlaces kc_X13_allPlaces dX13_allPlaces_17
theorem rX13_allPlaces_20 : ab_Run X 209 20 (1, 0, 0) L st σ Q ↔ ab_Run X 209 21 (1, 0, 0) L (ab_I 1 :: st) σ Q := ab_r_iconst (by decide) kc_X13_allPlaces dX13_allPlaces_20
theorem rX13_allPlaces_21 : ab_Run X 209 21 (1, 0, 0) L (ab_I x2 :: ab_I x1 :: ab_R a :: st) σ Q ↔ ((ab_sh σ a).1 = 13 ∧ ab_cats st ≤ 8) ∧ ab_Do X 154 [ab_R a, ab_I x1, ab_I x2] σ (fun r σ' => ab_Run X 209 24 (1, 0, 0) L (ab_psh r st) σ' Q) := ab_r_callV (w := [ab_I x2, ab_I x1]) (as := [ab_I x1, ab_I x2]) (b1 := (0, 0, 0)) 0 (Or.inl rfl) (by decide) ko_X13_allPlaces qM_13_406 (by decide) rfl rfl rfl rfl rfl (by decide) (Nat.le_of_ble_eq_true rfl) kc_X13_allPlaces dX13_allPlaces_21
theorem rX13_allPlaces_24 : ab_Run X 209 24 (1, 0, 0) L (ab_I b :: ab_I a :: st) σ Q ↔ ab_Run X 209 25 (1, 0, 0) L (ab_I (ab_w32 (a + b)) :: st) σ Q := ab_r_iadd kc_X13_allPlaces dX13_allPlaces_24
theorem rX13_allPlaces_25 : ab_Run X 209 25 (1, 0, 0) L [ab_I v] σ Q ↔ Q (some (ab_I v)) σ := ab_r_ireturnI rfl kc_X13_allPlaces dX13_allPlaces_25
theorem kc_X13_flaws : ab_code 210 = cX13_flaws := rfl
theorem ko_X13_flaws : ab_ow 210 = 13 := rfl
theorem rX13_flaws_0 : ab_Run X 210 0 (1, 0, 0) [ab_R z, l1] st σ Q ↔ z ≠ 0 ∧ ab_Run X 210 1 (1, 0, 0) [ab_R z, l1] (ab_R z :: st) σ Q := ab_r_aload_n rfl kc_X13_flaws dX13_flaws_0
theorem rX13_flaws_1 : ab_Run X 210 1 (1, 0, 0) [l0, ab_I z] st σ Q ↔ ab_Run X 210 2 (1, 0, 0) [l0, ab_I z] (ab_I z :: st) σ Q := ab_r_iload_n rfl kc_X13_flaws dX13_flaws_1
theorem rX13_flaws_2 : ab_Run X 210 2 (1, 0, 0) [ab_R z, l1] st σ Q ↔ z ≠ 0 ∧ ab_Run X 210 3 (1, 0, 0) [ab_R z, l1] (ab_R z :: st) σ Q := ab_r_aload_n rfl kc_X13_flaws dX13_flaws_2
theorem rX13_flaws_3 : ab_Run X 210 3 (1, 0, 0) L (ab_R a :: st) σ Q ↔ (ab_sh σ a).1 = 14 ∧ ab_Run X 210 6 (1, 0, 0) L (ab_R (ab_rd σ a 3) :: st) σ Q := gF_13_373 ko_X13_flaws kc_X13_flaws dX13_flaws_3
theorem rX13_flaws_6 : ab_Run X 210 6 (1, 0, 0) [ab_R z, l1] st σ Q ↔ z ≠ 0 ∧ ab_Run X 210 7 (1, 0, 0) [ab_R z, l1] (ab_R z :: st) σ Q := ab_r_aload_n rfl kc_X13_flaws dX13_flaws_6
theorem rX13_flaws_7 : ab_Run X 210 7 (1, 0, 0) L (ab_R a :: st) σ Q ↔ (ab_sh σ a).1 = 14 ∧ ab_Run X 210 10 (1, 0, 0) L (ab_I (ab_rd σ a 21) :: st) σ Q := gF_13_381 ko_X13_flaws kc_X13_flaws dX13_flaws_7
theorem rX13_flaws_10 : ab_Run X 210 10 (1, 0, 0) L st σ Q ↔ ab_Run X 210 11 (1, 0, 0) L (ab_I 0 :: st) σ Q := ab_r_iconst (by decide) kc_X13_flaws dX13_flaws_10
theorem rX13_flaws_11 : ab_Run X 210 11 (1, 0, 0) L (ab_I x2 :: ab_I x1 :: ab_R a :: st) σ Q ↔ ((ab_sh σ a).1 = 13 ∧ ab_cats st ≤ 8) ∧ ab_Do X 154 [ab_R a, ab_I x1, ab_I x2] σ (fun r σ' => ab_Run X 210 14 (1, 0, 0) L (ab_psh r st) σ' Q) := ab_r_callV (w := [ab_I x2, ab_I x1]) (as := [ab_I x1, ab_I x2]) (b1 := (0, 0, 0)) 0 (Or.inl rfl) (by decide) ko_X13_flaws qM_13_406 (by decide) rfl rfl rfl rfl rfl (by decide) (Nat.le_of_ble_eq_true rfl) kc_X13_flaws dX13_flaws_11
theorem rX13_flaws_14 : ab_Run X 210 14 (1, 0, 0) L (ab_I b :: ab_I a :: st) σ Q ↔ (b ≤ a → ab_Run X 210 21 (1, 0, 0) L st σ Q) ∧ (¬ (b ≤ a) → ab_Run X 210 17 (1, 0, 0) L st σ Q) := ab_r_icmp_ge rfl kc_X13_flaws dX13_flaws_14
theorem rX13_flaws_17 : ab_Run X 210 17 (1, 0, 0) L st σ Q ↔ ab_Run X 210 18 (1, 0, 0) L (ab_I 0 :: st) σ Q := ab_r_iconst (by decide) kc_X13_flaws dX13_flaws_17
theorem rX13_flaws_18 : ab_Run X 210 18 (1, 0, 0) L st σ Q ↔ ab_Run X 210 22 (1, 0, 0) L st σ Q := ab_r_goto rfl kc_X13_flaws dX13_flaws_18
theorem rX13_flaws_21 : ab_Run X 210 21 (1, 0, 0) L st σ Q ↔ ab_Run X 210 22 (1, 0, 0) L (ab_I 1 :: st) σ Q := ab_r_iconst (by decide) kc_X13_flaws dX13_flaws_21
theorem rX13_flaws_22 : ab_Run X 210 22 (1, 0, 0) L (ab_I z :: ab_R a :: st) σ Q ↔ (ab_sh σ a).1 = 14 ∧ ab_Run X 210 25 (1, 0, 0) L st (ab_wr σ a 23 z) Q := sF_13_389 ko_X13_flaws kc_X13_flaws dX13_flaws_22
theorem rX13_flaws_25 : ab_Run X 210 25 (1, 0, 0) [ab_R z, l1] st σ Q ↔ z ≠ 0 ∧ ab_Run X 210 26 (1, 0, 0) [ab_R z, l1] (ab_R z :: st) σ Q := ab_r_aload_n rfl kc_X13_flaws dX13_flaws_25
theorem rX13_flaws_26 : ab_Run X 210 26 (1, 0, 0) [ab_R z, l1] st σ Q ↔ z ≠ 0 ∧ ab_Run X 210 27 (1, 0, 0) [ab_R z, l1] (ab_R z :: st) σ Q := ab_r_aload_n rfl kc_X13_flaws dX13_flaws_26
theorem rX13_flaws_27 : ab_Run X 210 27 (1, 0, 0) L (ab_R a :: st) σ Q ↔ (ab_sh σ a).1 = 14 ∧ ab_Run X 210 30 (1, 0, 0) L (ab_I (ab_rd σ a 23) :: st) σ Q := gF_13_389 ko_X13_flaws kc_X13_flaws dX13_flaws_27
theorem rX13_flaws_30 : ab_Run X 210 30 (1, 0, 0) L (ab_I a :: st) σ Q ↔ (¬ a = 0 → ab_Run X 210 37 (1, 0, 0) L st σ Q) ∧ (¬ (¬ a = 0) → ab_Run X 210 33 (1, 0, 0) L st σ Q) := ab_r_if_ne rfl kc_X13_flaws dX13_flaws_30
theorem rX13_flaws_33 : ab_Run X 210 33 (1, 0, 0) [l0, ab_I z] st σ Q ↔ ab_Run X 210 34 (1, 0, 0) [l0, ab_I z] (ab_I z :: st) σ Q := ab_r_iload_n rfl kc_X13_flaws dX13_flaws_33
theorem rX13_flaws_34 : ab_Run X 210 34 (1, 0, 0) L st σ Q ↔ ab_Run X 210 51 (1, 0, 0) L st σ Q := ab_r_goto rfl kc_X13_flaws dX13_flaws_34
theorem rX13_flaws_37 : ab_Run X 210 37 (1, 0, 0) [l0, ab_I z] st σ Q ↔ ab_Run X 210 38 (1, 0, 0) [l0, ab_I z] (ab_I z :: st) σ Q := ab_r_iload_n rfl kc_X13_flaws dX13_flaws_37
theorem rX13_flaws_38 : ab_Run X 210 38 (1, 0, 0) [ab_R z, l1] st σ Q ↔ z ≠ 0 ∧ ab_Run X 210 39 (1, 0, 0) [ab_R z, l1] (ab_R z :: st) σ Q := ab_r_aload_n rfl kc_X13_flaws dX13_flaws_38
theorem rX13_flaws_39 : ab_Run X 210 39 (1, 0, 0) L (ab_R a :: st) σ Q ↔ (ab_sh σ a).1 = 14 ∧ ab_Run X 210 42 (1, 0, 0) L (ab_R (ab_rd σ a 3) :: st) σ Q := gF_13_373 ko_X13_flaws kc_X13_flaws dX13_flaws_39
theorem rX13_flaws_42 : ab_Run X 210 42 (1, 0, 0) [ab_R z, l1] st σ Q ↔ z ≠ 0 ∧ ab_Run X 210 43 (1, 0, 0) [ab_R z, l1] (ab_R z :: st) σ Q := ab_r_aload_n rfl kc_X13_flaws dX13_flaws_42
theorem rX13_flaws_43 : ab_Run X 210 43 (1, 0, 0) L (ab_R a :: st) σ Q ↔ (ab_sh σ a).1 = 14 ∧ ab_Run X 210 46 (1, 0, 0) L (ab_I (ab_rd σ a 21) :: st) σ Q := gF_13_381 ko_X13_flaws kc_X13_flaws dX13_flaws_43
theorem rX13_flaws_46 : ab_Run X 210 46 (1, 0, 0) L st σ Q ↔ ab_Run X 210 47 (1, 0, 0) L (ab_I 0 :: st) σ Q := ab_r_iconst (by decide) kc_X13_flaws dX13_flaws_46
theorem rX13_flaws_47 : ab_Run X 210 47 (1, 0, 0) L (ab_I x2 :: ab_I x1 :: ab_R a :: st) σ Q ↔ ((ab_sh σ a).1 = 13 ∧ ab_cats st ≤ 8) ∧ ab_Do X 154 [ab_R a, ab_I x1, ab_I x2] σ (fun r σ' => ab_Run X 210 50 (1, 0, 0) L (ab_psh r st) σ' Q) := ab_r_callV (w := [ab_I x2, ab_I x1]) (as := [ab_I x1, ab_I x2]) (b1 := (0, 0, 0)) 0 (Or.inl rfl) (by decide) ko_X13_flaws qM_13_406 (by decide) rfl rfl rfl rfl rfl (by decide) (Nat.le_of_ble_eq_true rfl) kc_X13_flaws dX13_flaws_47
theorem rX13_flaws_50 : ab_Run X 210 50 (1, 0, 0) L (ab_I b :: ab_I a :: st) σ Q ↔ ab_Run X 210 51 (1, 0, 0) L (ab_I (ab_w32 (a - b)) :: st) σ Q := ab_r_isub kc_X13_flaws dX13_flaws_50
theorem rX13_flaws_51 : ab_Run X 210 51 (1, 0, 0) L (ab_I z :: ab_R a :: st) σ Q ↔ (ab_sh σ a).1 = 14 ∧ ab_Run X 210 54 (1, 0, 0) L st (ab_wr σ a 24 z) Q := sF_13_403 ko_X13_flaws kc_X13_flaws dX13_flaws_51
theorem rX13_flaws_54 : ab_Run X 210 54 (1, 0, 0) L [] σ Q ↔ Q none σ := ab_r_return rfl kc_X13_flaws dX13_flaws_54
theorem kc_X13_oddsOf : ab_code 211 = cX13_oddsOf := rfl
theorem ko_X13_oddsOf : ab_ow 211 = 13 := rfl
theorem rX13_oddsOf_0 : ab_Run X 211 0 (5, 0, 0) [ab_R z, l1, l2, l3, l4, l5] st σ Q ↔ z ≠ 0 ∧ ab_Run X 211 1 (5, 0, 0) [ab_R z, l1, l2, l3, l4, l5] (ab_R z :: st) σ Q := ab_r_aload_n rfl kc_X13_oddsOf dX13_oddsOf_0
theorem rX13_oddsOf_1 : ab_Run X 211 1 (5, 0, 0) L (ab_R a :: st) σ Q ↔ ((ab_sh σ a).1 = 14 ∧ ab_cats st ≤ 8) ∧ ab_Do X 209 [ab_R a] σ (fun r σ' => ab_Run X 211 4 (5, 0, 0) L (ab_psh r st) σ' Q) := ab_r_callV (w := []) (as := []) (b1 := (1, 0, 0)) 0 (Or.inl rfl) (by decide) ko_X13_oddsOf qM_13_430 (by decide) rfl rfl rfl rfl rfl (by decide) (Nat.le_of_ble_eq_true rfl) kc_X13_oddsOf dX13_oddsOf_1
theorem rX13_oddsOf_4 : ab_Run X 211 4 (5, 0, 0) [l0, l1, l2, l3, l4, l5] (ab_I z :: st) σ Q ↔ (!ab_isJ l1) = true ∧ ab_Run X 211 5 (5, 0, 0) [l0, l1, ab_I z, l3, l4, l5] st σ Q := ab_r_istore_n (Nat.le_of_ble_eq_true rfl) kc_X13_oddsOf dX13_oddsOf_4
theorem rX13_oddsOf_5 : ab_Run X 211 5 (5, 0, 0) [ab_R z, l1, l2, l3, l4, l5] st σ Q ↔ z ≠ 0 ∧ ab_Run X 211 6 (5, 0, 0) [ab_R z, l1, l2, l3, l4, l5] (ab_R z :: st) σ Q := ab_r_aload_n rfl kc_X13_oddsOf dX13_oddsOf_5
theorem rX13_oddsOf_6 : ab_Run X 211 6 (5, 0, 0) L st σ Q ↔ ab_Run X 211 7 (5, 0, 0) L (ab_I (-1) :: st) σ Q := ab_r_iconst (by decide) kc_X13_oddsOf dX13_oddsOf_6
theorem rX13_oddsOf_7 : ab_Run X 211 7 (5, 0, 0) L (ab_I z :: ab_R a :: st) σ Q ↔ (ab_sh σ a).1 = 14 ∧ ab_Run X 211 10 (5, 0, 0) L st (ab_wr σ a 23 z) Q := sF_13_389 ko_X13_oddsOf kc_X13_oddsOf dX13_oddsOf_7
theorem rX13_oddsOf_10 : ab_Run X 211 10 (5, 0, 0) [ab_R z, l1, l2, l3, l4, l5] st σ Q ↔ z ≠ 0 ∧ ab_Run X 211 11 (5, 0, 0) [ab_R z, l1, l2, l3, l4, l5] (ab_R z :: st) σ Q := ab_r_aload_n rfl kc_X13_oddsOf dX13_oddsOf_10
theorem rX13_oddsOf_11 : ab_Run X 211 11 (5, 0, 0) L (ab_R a :: st) σ Q ↔ ((ab_sh σ a).1 = 14 ∧ ab_cats st ≤ 8) ∧ ab_Do X 208 [ab_R a] σ (fun r σ' => ab_Run X 211 14 (5, 0, 0) L (ab_psh r st) σ' Q) := ab_r_callV (w := []) (as := []) (b1 := (4, 0, 0)) 0 (Or.inl rfl) (by decide) ko_X13_oddsOf qM_13_433 (by decide) rfl rfl rfl rfl rfl (by decide) (Nat.le_of_ble_eq_true rfl) kc_X13_oddsOf dX13_oddsOf_11
theorem rX13_oddsOf_14 : ab_Run X 211 14 (5, 0, 0) [l0, ab_I z, l2, l3, l4, l5] st σ Q ↔ ab_Run X 211 15 (5, 0, 0) [l0, ab_I z, l2, l3, l4, l5] (ab_I z :: st) σ Q := ab_r_iload_n rfl kc_X13_oddsOf dX13_oddsOf_14
theorem rX13_oddsOf_15 : ab_Run X 211 15 (5, 0, 0) L (ab_I b :: ab_I a :: st) σ Q ↔ (¬ a = b → ab_Run X 211 36 (5, 0, 0) L st σ Q) ∧ (¬ (¬ a = b) → ab_Run X 211 18 (5, 0, 0) L st σ Q) := ab_r_icmp_ne rfl kc_X13_oddsOf dX13_oddsOf_15
theorem rX13_oddsOf_18 : ab_Run X 211 18 (5, 0, 0) L st σ Q ↔ ab_Run X 211 21 (5, 0, 0) L (ab_J 100 :: st) σ Q := ab_r_ldc2_w rfl ko_X13_oddsOf (by decide +kernel) kc_X13_oddsOf dX13_oddsOf_18
theorem rX13_oddsOf_21 : ab_Run X 211 21 (5, 0, 0) [ab_R z, l1, l2, l3, l4, l5] st σ Q ↔ z ≠ 0 ∧ ab_Run X 211 22 (5, 0, 0) [ab_R z, l1, l2, l3, l4, l5] (ab_R z :: st) σ Q := ab_r_aload_n rfl kc_X13_oddsOf dX13_oddsOf_21
theorem rX13_oddsOf_22 : ab_Run X 211 22 (5, 0, 0) L (ab_R a :: st) σ Q ↔ (ab_sh σ a).1 = 14 ∧ ab_Run X 211 25 (5, 0, 0) L (ab_R (ab_rd σ a 3) :: st) σ Q := gF_13_373 ko_X13_oddsOf kc_X13_oddsOf dX13_oddsOf_22
theorem rX13_oddsOf_25 : ab_Run X 211 25 (5, 0, 0) L (ab_R a :: st) σ Q ↔ (ab_sh σ a).1 = 13 ∧ ab_Run X 211 28 (5, 0, 0) L (ab_I (ab_rd σ a 4) :: st) σ Q := gF_13_258 ko_X13_oddsOf kc_X13_oddsOf dX13_oddsOf_25
theorem rX13_oddsOf_28 : ab_Run X 211 28 (5, 0, 0) L (ab_I a :: st) σ Q ↔ ab_Run X 211 29 (5, 0, 0) L (ab_J a :: st) σ Q := ab_r_i2l kc_X13_oddsOf dX13_oddsOf_28
theorem rX13_oddsOf_29 : ab_Run X 211 29 (5, 0, 0) L (ab_J b :: ab_J a :: st) σ Q ↔ ab_Run X 211 30 (5, 0, 0) L (ab_J (ab_w64 (a - b)) :: st) σ Q := ab_r_lsub kc_X13_oddsOf dX13_oddsOf_29
theorem rX13_oddsOf_30 : ab_Run X 211 30 (5, 0, 0) [l0, l1, ab_I z, l3, l4, l5] st σ Q ↔ ab_Run X 211 31 (5, 0, 0) [l0, l1, ab_I z, l3, l4, l5] (ab_I z :: st) σ Q := ab_r_iload_n rfl kc_X13_oddsOf dX13_oddsOf_30
theorem rX13_oddsOf_31 : ab_Run X 211 31 (5, 0, 0) L (ab_I a :: st) σ Q ↔ ab_Run X 211 32 (5, 0, 0) L (ab_J a :: st) σ Q := ab_r_i2l kc_X13_oddsOf dX13_oddsOf_31
theorem rX13_oddsOf_32 : ab_Run X 211 32 (5, 0, 0) L (ab_J b :: ab_J a :: st) σ Q ↔ ab_Run X 211 33 (5, 0, 0) L (ab_J (ab_w64 (a * b)) :: st) σ Q := ab_r_lmul kc_X13_oddsOf dX13_oddsOf_32
theorem rX13_oddsOf_33 : ab_Run X 211 33 (5, 0, 0) L st σ Q ↔ ab_Run X 211 37 (5, 0, 0) L st σ Q := ab_r_goto rfl kc_X13_oddsOf dX13_oddsOf_33
theorem rX13_oddsOf_36 : ab_Run X 211 36 (5, 0, 0) L st σ Q ↔ ab_Run X 211 37 (5, 0, 0) L (ab_J 0 :: st) σ Q := ab_r_lconst kc_X13_oddsOf dX13_oddsOf_36
theorem rX13_oddsOf_37 : ab_Run X 211 37 (5, 0, 0) [l0, l1, l2, l3, l4, l5] (ab_J z :: st) σ Q ↔ (!ab_isJ l2) = true ∧ ab_Run X 211 38 (5, 0, 0) [l0, l1, l2, ab_J z, ab_R 0, l5] st σ Q := ab_r_lstore_n (Nat.le_of_ble_eq_true rfl) kc_X13_oddsOf dX13_oddsOf_37
theorem rX13_oddsOf_38 : ab_Run X 211 38 (5, 0, 0) L st σ Q ↔ ab_Run X 211 39 (5, 0, 0) L (ab_I 0 :: st) σ Q := ab_r_iconst (by decide) kc_X13_oddsOf dX13_oddsOf_38
theorem rX13_oddsOf_39 : ab_Run X 211 39 (5, 0, 0) [l0, l1, l2, l3, l4, l5] (ab_I z :: st) σ Q ↔ (!ab_isJ l4) = true ∧ ab_Run X 211 41 (5, 0, 0) [l0, l1, l2, l3, l4, ab_I z] st σ Q := ab_r_istore (Nat.le_of_ble_eq_true rfl) kc_X13_oddsOf dX13_oddsOf_39
theorem rX13_oddsOf_41 : ab_Run X 211 41 (5, 0, 0) [l0, l1, l2, l3, l4, ab_I z] st σ Q ↔ ab_Run X 211 43 (5, 0, 0) [l0, l1, l2, l3, l4, ab_I z] (ab_I z :: st) σ Q := ab_r_iload rfl kc_X13_oddsOf dX13_oddsOf_41
theorem rX13_oddsOf_43 : ab_Run X 211 43 (5, 0, 0) [l0, l1, ab_I z, l3, l4, l5] st σ Q ↔ ab_Run X 211 44 (5, 0, 0) [l0, l1, ab_I z, l3, l4, l5] (ab_I z :: st) σ Q := ab_r_iload_n rfl kc_X13_oddsOf dX13_oddsOf_43
theorem rX13_oddsOf_44 : ab_Run X 211 44 (5, 0, 0) L (ab_I b :: ab_I a :: st) σ Q ↔ (b ≤ a → ab_Run X 211 82 (5, 0, 0) L st σ Q) ∧ (¬ (b ≤ a) → ab_Run X 211 47 (5, 0, 0) L st σ Q) := ab_r_icmp_ge rfl kc_X13_oddsOf dX13_oddsOf_44
theorem rX13_oddsOf_47 : ab_Run X 211 47 (5, 0, 0) [ab_R z, l1, l2, l3, l4, l5] st σ Q ↔ z ≠ 0 ∧ ab_Run X 211 48 (5, 0, 0) [ab_R z, l1, l2, l3, l4, l5] (ab_R z :: st) σ Q := ab_r_aload_n rfl kc_X13_oddsOf dX13_oddsOf_47
theorem rX13_oddsOf_48 : ab_Run X 211 48 (5, 0, 0) [l0, l1, l2, l3, l4, ab_I z] st σ Q ↔ ab_Run X 211 50 (5, 0, 0) [l0, l1, l2, l3, l4, ab_I z] (ab_I z :: st) σ Q := ab_r_iload rfl kc_X13_oddsOf dX13_oddsOf_48
theorem rX13_oddsOf_50 : ab_Run X 211 50 (5, 0, 0) L (ab_I x1 :: ab_R a :: st) σ Q ↔ ((ab_sh σ a).1 = 14 ∧ ab_cats st ≤ 8) ∧ ab_Do X 210 [ab_R a, ab_I x1] σ (fun r σ' => ab_Run X 211 53 (5, 0, 0) L (ab_psh r st) σ' Q) := ab_r_callV (w := [ab_I x1]) (as := [ab_I x1]) (b1 := (1, 0, 0)) 0 (Or.inl rfl) (by decide) ko_X13_oddsOf qM_13_438 (by decide) rfl rfl rfl rfl rfl (by decide) (Nat.le_of_ble_eq_true rfl) kc_X13_oddsOf dX13_oddsOf_50
theorem rX13_oddsOf_53 : ab_Run X 211 53 (5, 0, 0) [l0, l1, l2, ab_J z, l4, l5] st σ Q ↔ ab_Run X 211 54 (5, 0, 0) [l0, l1, l2, ab_J z, l4, l5] (ab_J z :: st) σ Q := ab_r_lload_n rfl kc_X13_oddsOf dX13_oddsOf_53
theorem rX13_oddsOf_54 : ab_Run X 211 54 (5, 0, 0) [ab_R z, l1, l2, l3, l4, l5] st σ Q ↔ z ≠ 0 ∧ ab_Run X 211 55 (5, 0, 0) [ab_R z, l1, l2, l3, l4, l5] (ab_R z :: st) σ Q := ab_r_aload_n rfl kc_X13_oddsOf dX13_oddsOf_54
theorem rX13_oddsOf_55 : ab_Run X 211 55 (5, 0, 0) L (ab_R a :: st) σ Q ↔ ((ab_sh σ a).1 = 14 ∧ ab_cats st ≤ 8) ∧ ab_Do X 208 [ab_R a] σ (fun r σ' => ab_Run X 211 58 (5, 0, 0) L (ab_psh r st) σ' Q) := ab_r_callV (w := []) (as := []) (b1 := (4, 0, 0)) 0 (Or.inl rfl) (by decide) ko_X13_oddsOf qM_13_433 (by decide) rfl rfl rfl rfl rfl (by decide) (Nat.le_of_ble_eq_true rfl) kc_X13_oddsOf dX13_oddsOf_55
theorem rX13_oddsOf_58 : ab_Run X 211 58 (5, 0, 0) [l0, ab_I z, l2, l3, l4, l5] st σ Q ↔ ab_Run X 211 59 (5, 0, 0) [l0, ab_I z, l2, l3, l4, l5] (ab_I z :: st) σ Q := ab_r_iload_n rfl kc_X13_oddsOf dX13_oddsOf_58
theorem rX13_oddsOf_59 : ab_Run X 211 59 (5, 0, 0) L (ab_I b :: ab_I a :: st) σ Q ↔ (¬ a = b → ab_Run X 211 73 (5, 0, 0) L st σ Q) ∧ (¬ (¬ a = b) → ab_Run X 211 62 (5, 0, 0) L st σ Q) := ab_r_icmp_ne rfl kc_X13_oddsOf dX13_oddsOf_59
theorem rX13_oddsOf_62 : ab_Run X 211 62 (5, 0, 0) [ab_R z, l1, l2, l3, l4, l5] st σ Q ↔ z ≠ 0 ∧ ab_Run X 211 63 (5, 0, 0) [ab_R z, l1, l2, l3, l4, l5] (ab_R z :: st) σ Q := ab_r_aload_n rfl kc_X13_oddsOf dX13_oddsOf_62
theorem rX13_oddsOf_63 : ab_Run X 211 63 (5, 0, 0) L (ab_R a :: st) σ Q ↔ (ab_sh σ a).1 = 14 ∧ ab_Run X 211 66 (5, 0, 0) L (ab_R (ab_rd σ a 3) :: st) σ Q := gF_13_373 ko_X13_oddsOf kc_X13_oddsOf dX13_oddsOf_63
theorem rX13_oddsOf_66 : ab_Run X 211 66 (5, 0, 0) L (ab_R a :: st) σ Q ↔ (ab_sh σ a).1 = 13 ∧ ab_Run X 211 69 (5, 0, 0) L (ab_I (ab_rd σ a 4) :: st) σ Q := gF_13_258 ko_X13_oddsOf kc_X13_oddsOf dX13_oddsOf_66
theorem rX13_oddsOf_69 : ab_Run X 211 69 (5, 0, 0) L (ab_I a :: st) σ Q ↔ ab_Run X 211 70 (5, 0, 0) L (ab_J a :: st) σ Q := ab_r_i2l kc_X13_oddsOf dX13_oddsOf_69
theorem rX13_oddsOf_70 : ab_Run X 211 70 (5, 0, 0) L st σ Q ↔ ab_Run X 211 74 (5, 0, 0) L st σ Q := ab_r_goto rfl kc_X13_oddsOf dX13_oddsOf_70
theorem rX13_oddsOf_73 : ab_Run X 211 73 (5, 0, 0) L st σ Q ↔ ab_Run X 211 74 (5, 0, 0) L (ab_J 0 :: st) σ Q := ab_r_lconst kc_X13_oddsOf dX13_oddsOf_73
theorem rX13_oddsOf_74 : ab_Run X 211 74 (5, 0, 0) L (ab_J b :: ab_J a :: st) σ Q ↔ ab_Run X 211 75 (5, 0, 0) L (ab_J (ab_w64 (a + b)) :: st) σ Q := ab_r_ladd kc_X13_oddsOf dX13_oddsOf_74
theorem rX13_oddsOf_75 : ab_Run X 211 75 (5, 0, 0) [l0, l1, l2, l3, l4, l5] (ab_J z :: st) σ Q ↔ (!ab_isJ l2) = true ∧ ab_Run X 211 76 (5, 0, 0) [l0, l1, l2, ab_J z, ab_R 0, l5] st σ Q := ab_r_lstore_n (Nat.le_of_ble_eq_true rfl) kc_X13_oddsOf dX13_oddsOf_75
theorem rX13_oddsOf_76 : ab_Run X 211 76 (5, 0, 0) [l0, l1, l2, l3, l4, ab_I z] st σ Q ↔ (!ab_isJ l4) = true ∧ ab_Run X 211 79 (5, 0, 0) [l0, l1, l2, l3, l4, ab_I (ab_w32 (z + 1))] st σ Q := ab_r_iinc rfl (by decide) kc_X13_oddsOf dX13_oddsOf_76
theorem rX13_oddsOf_79 : ab_Run X 211 79 (5, 0, 0) L st σ Q ↔ ab_Run X 211 41 (5, 0, 0) L st σ Q := ab_r_goto rfl kc_X13_oddsOf dX13_oddsOf_79
theorem rX13_oddsOf_82 : ab_Run X 211 82 (5, 0, 0) [ab_R z, l1, l2, l3, l4, l5] st σ Q ↔ z ≠ 0 ∧ ab_Run X 211 83 (5, 0, 0) [ab_R z, l1, l2, l3, l4, l5] (ab_R z :: st) σ Q := ab_r_aload_n rfl kc_X13_oddsOf dX13_oddsOf_82
theorem rX13_oddsOf_83 : ab_Run X 211 83 (5, 0, 0) L st σ Q ↔ ab_Run X 211 84 (5, 0, 0) L (ab_I (-1) :: st) σ Q := ab_r_iconst (by decide) kc_X13_oddsOf dX13_oddsOf_83
theorem rX13_oddsOf_84 : ab_Run X 211 84 (5, 0, 0) L (ab_I z :: ab_R a :: st) σ Q ↔ (ab_sh σ a).1 = 14 ∧ ab_Run X 211 87 (5, 0, 0) L st (ab_wr σ a 23 z) Q := sF_13_389 ko_X13_oddsOf kc_X13_oddsOf dX13_oddsOf_84
theorem rX13_oddsOf_87 : ab_Run X 211 87 (5, 0, 0) [l0, l1, l2, ab_J z, l4, l5] st σ Q ↔ ab_Run X 211 88 (5, 0, 0) [l0, l1, l2, ab_J z, l4, l5] (ab_J z :: st) σ Q := ab_r_lload_n rfl kc_X13_oddsOf dX13_oddsOf_87
theorem rX13_oddsOf_88 : ab_Run X 211 88 (5, 0, 0) L [ab_J v] σ Q ↔ Q (some (ab_J v)) σ := ab_r_lreturn rfl kc_X13_oddsOf dX13_oddsOf_88
theorem kc_X13_isBone : ab_code 212 = cX13_isBone := rfl
theorem ko_X13_isBone : ab_ow 212 = 13 := rfl
theorem rX13_isBone_0 : ab_Run X 212 0 (0, 0, 0) [ab_R z, l1] st σ Q ↔ z ≠ 0 ∧ ab_Run X 212 1 (0, 0, 0) [ab_R z, l1] (ab_R z :: st) σ Q := ab_r_aload_n rfl kc_X13_isBone dX13_isBone_0
theorem rX13_isBone_1 : ab_Run X 212 1 (0, 0, 0) L (ab_R a :: st) σ Q ↔ (ab_sh σ a).1 = 14 ∧ ab_Run X 212 4 (0, 0, 0) L (ab_R (ab_rd σ a 3) :: st) σ Q := gF_13_373 ko_X13_isBone kc_X13_isBone dX13_isBone_1
theorem rX13_isBone_4 : ab_Run X 212 4 (0, 0, 0) L (ab_R a :: st) σ Q ↔ (a = 0 → ab_Run X 212 26 (0, 0, 0) L st σ Q) ∧ (¬ (a = 0) → ab_Run X 212 7 (0, 0, 0) L st σ Q) := ab_r_ifnull rfl kc_X13_isBone dX13_isBone_4
theorem rX13_isBone_7 : ab_Run X 212 7 (0, 0, 0) [l0, ab_I z] st σ Q ↔ ab_Run X 212 8 (0, 0, 0) [l0, ab_I z] (ab_I z :: st) σ Q := ab_r_iload_n rfl kc_X13_isBone dX13_isBone_7
theorem rX13_isBone_8 : ab_Run X 212 8 (0, 0, 0) L (ab_I a :: st) σ Q ↔ (a < 0 → ab_Run X 212 26 (0, 0, 0) L st σ Q) ∧ (¬ (a < 0) → ab_Run X 212 11 (0, 0, 0) L st σ Q) := ab_r_if_lt rfl kc_X13_isBone dX13_isBone_8
theorem rX13_isBone_11 : ab_Run X 212 11 (0, 0, 0) [l0, ab_I z] st σ Q ↔ ab_Run X 212 12 (0, 0, 0) [l0, ab_I z] (ab_I z :: st) σ Q := ab_r_iload_n rfl kc_X13_isBone dX13_isBone_11
theorem rX13_isBone_12 : ab_Run X 212 12 (0, 0, 0) [ab_R z, l1] st σ Q ↔ z ≠ 0 ∧ ab_Run X 212 13 (0, 0, 0) [ab_R z, l1] (ab_R z :: st) σ Q := ab_r_aload_n rfl kc_X13_isBone dX13_isBone_12
theorem rX13_isBone_13 : ab_Run X 212 13 (0, 0, 0) L (ab_R a :: st) σ Q ↔ (ab_sh σ a).1 = 14 ∧ ab_Run X 212 16 (0, 0, 0) L (ab_R (ab_rd σ a 3) :: st) σ Q := gF_13_373 ko_X13_isBone kc_X13_isBone dX13_isBone_13
theorem rX13_isBone_16 : ab_Run X 212 16 (0, 0, 0) L (ab_R a :: st) σ Q ↔ (ab_sh σ a).1 = 13 ∧ ab_Run X 212 19 (0, 0, 0) L (ab_I (ab_rd σ a 5) :: st) σ Q := gF_13_210 ko_X13_isBone kc_X13_isBone dX13_isBone_16
theorem rX13_isBone_19 : ab_Run X 212 19 (0, 0, 0) L (ab_I b :: ab_I a :: st) σ Q ↔ (b ≤ a → ab_Run X 212 26 (0, 0, 0) L st σ Q) ∧ (¬ (b ≤ a) → ab_Run X 212 22 (0, 0, 0) L st σ Q) := ab_r_icmp_ge rfl kc_X13_isBone dX13_isBone_19
theorem rX13_isBone_22 : ab_Run X 212 22 (0, 0, 0) L st σ Q ↔ ab_Run X 212 23 (0, 0, 0) L (ab_I 1 :: st) σ Q := ab_r_iconst (by decide) kc_X13_isBone dX13_isBone_22
theorem rX13_isBone_23 : ab_Run X 212 23 (0, 0, 0) L st σ Q ↔ ab_Run X 212 27 (0, 0, 0) L st σ Q := ab_r_goto rfl kc_X13_isBone dX13_isBone_23
theorem rX13_isBone_26 : ab_Run X 212 26 (0, 0, 0) L st σ Q ↔ ab_Run X 212 27 (0, 0, 0) L (ab_I 0 :: st) σ Q := ab_r_iconst (by decide) kc_X13_isBone dX13_isBone_26
theorem rX13_isBone_27 : ab_Run X 212 27 (0, 0, 0) L [ab_I v] σ Q ↔ (v = 0 ∨ v = 1) ∧ Q (some (ab_I v)) σ := ab_r_ireturnZ rfl kc_X13_isBone dX13_isBone_27
theorem kc_X13_isPerson : ab_code 213 = cX13_isPerson := rfl
theorem ko_X13_isPerson : ab_ow 213 = 13 := rfl
theorem rX13_isPerson_0 : ab_Run X 213 0 (0, 0, 0) [ab_R z, l1] st σ Q ↔ z ≠ 0 ∧ ab_Run X 213 1 (0, 0, 0) [ab_R z, l1] (ab_R z :: st) σ Q := ab_r_aload_n rfl kc_X13_isPerson dX13_isPerson_0
theorem rX13_isPerson_1 : ab_Run X 213 1 (0, 0, 0) L (ab_R a :: st) σ Q ↔ (ab_sh σ a).1 = 14 ∧ ab_Run X 213 4 (0, 0, 0) L (ab_R (ab_rd σ a 3) :: st) σ Q := gF_13_373 ko_X13_isPerson kc_X13_isPerson dX13_isPerson_1
theorem rX13_isPerson_4 : ab_Run X 213 4 (0, 0, 0) L (ab_R a :: st) σ Q ↔ (a = 0 → ab_Run X 213 26 (0, 0, 0) L st σ Q) ∧ (¬ (a = 0) → ab_Run X 213 7 (0, 0, 0) L st σ Q) := ab_r_ifnull rfl kc_X13_isPerson dX13_isPerson_4
theorem rX13_isPerson_7 : ab_Run X 213 7 (0, 0, 0) [l0, ab_I z] st σ Q ↔ ab_Run X 213 8 (0, 0, 0) [l0, ab_I z] (ab_I z :: st) σ Q := ab_r_iload_n rfl kc_X13_isPerson dX13_isPerson_7
theorem rX13_isPerson_8 : ab_Run X 213 8 (0, 0, 0) L (ab_I a :: st) σ Q ↔ (a < 0 → ab_Run X 213 26 (0, 0, 0) L st σ Q) ∧ (¬ (a < 0) → ab_Run X 213 11 (0, 0, 0) L st σ Q) := ab_r_if_lt rfl kc_X13_isPerson dX13_isPerson_8
theorem rX13_isPerson_11 : ab_Run X 213 11 (0, 0, 0) [l0, ab_I z] st σ Q ↔ ab_Run X 213 12 (0, 0, 0) [l0, ab_I z] (ab_I z :: st) σ Q := ab_r_iload_n rfl kc_X13_isPerson dX13_isPerson_11
theorem rX13_isPerson_12 : ab_Run X 213 12 (0, 0, 0) [ab_R z, l1] st σ Q ↔ z ≠ 0 ∧ ab_Run X 213 13 (0, 0, 0) [ab_R z, l1] (ab_R z :: st) σ Q := ab_r_aload_n rfl kc_X13_isPerson dX13_isPerson_12
theorem rX13_isPerson_13 : ab_Run X 213 13 (0, 0, 0) L (ab_R a :: st) σ Q ↔ (ab_sh σ a).1 = 14 ∧ ab_Run X 213 16 (0, 0, 0) L (ab_R (ab_rd σ a 3) :: st) σ Q := gF_13_373 ko_X13_isPerson kc_X13_isPerson dX13_isPerson_13
theorem rX13_isPerson_16 : ab_Run X 213 16 (0, 0, 0) L (ab_R a :: st) σ Q ↔ (ab_sh σ a).1 = 13 ∧ ab_Run X 213 19 (0, 0, 0) L (ab_I (ab_rd σ a 6) :: st) σ Q := gF_13_213 ko_X13_isPerson kc_X13_isPerson dX13_isPerson_16
theorem rX13_isPerson_19 : ab_Run X 213 19 (0, 0, 0) L (ab_I b :: ab_I a :: st) σ Q ↔ (b ≤ a → ab_Run X 213 26 (0, 0, 0) L st σ Q) ∧ (¬ (b ≤ a) → ab_Run X 213 22 (0, 0, 0) L st σ Q) := ab_r_icmp_ge rfl kc_X13_isPerson dX13_isPerson_19
theorem rX13_isPerson_22 : ab_Run X 213 22 (0, 0, 0) L st σ Q ↔ ab_Run X 213 23 (0, 0, 0) L (ab_I 1 :: st) σ Q := ab_r_iconst (by decide) kc_X13_isPerson dX13_isPerson_22
theorem rX13_isPerson_23 : ab_Run X 213 23 (0, 0, 0) L st σ Q ↔ ab_Run X 213 27 (0, 0, 0) L st σ Q := ab_r_goto rfl kc_X13_isPerson dX13_isPerson_23
theorem rX13_isPerson_26 : ab_Run X 213 26 (0, 0, 0) L st σ Q ↔ ab_Run X 213 27 (0, 0, 0) L (ab_I 0 :: st) σ Q := ab_r_iconst (by decide) kc_X13_isPerson dX13_isPerson_26
theorem rX13_isPerson_27 : ab_Run X 213 27 (0, 0, 0) L [ab_I v] σ Q ↔ (v = 0 ∨ v = 1) ∧ Q (some (ab_I v)) σ := ab_r_ireturnZ rfl kc_X13_isPerson dX13_isPerson_27
theorem kc_X13_isPair : ab_code 214 = cX13_isPair := rfl
theorem ko_X13_isPair : ab_ow 214 = 13 := rfl
theorem rX13_isPair_0 : ab_Run X 214 0 (1, 0, 0) [ab_R z, l1, l2] st σ Q ↔ z ≠ 0 ∧ ab_Run X 214 1 (1, 0, 0) [ab_R z, l1, l2] (ab_R z :: st) σ Q := ab_r_aload_n rfl kc_X13_isPair dX13_isPair_0
theorem rX13_isPair_1 : ab_Run X 214 1 (1, 0, 0) [l0, ab_I z, l2] st σ Q ↔ ab_Run X 214 2 (1, 0, 0) [l0, ab_I z, l2] (ab_I z :: st) σ Q := ab_r_iload_n rfl kc_X13_isPair dX13_isPair_1
theorem rX13_isPair_2 : ab_Run X 214 2 (1, 0, 0) L (ab_I x1 :: ab_R a :: st) σ Q ↔ ((ab_sh σ a).1 = 14 ∧ ab_cats st ≤ 8) ∧ ab_Do X 213 [ab_R a, ab_I x1] σ (fun r σ' => ab_Run X 214 5 (1, 0, 0) L (ab_psh r st) σ' Q) := ab_r_callV (w := [ab_I x1]) (as := [ab_I x1]) (b1 := (0, 0, 0)) 0 (Or.inl rfl) (by decide) ko_X13_isPair qM_13_441 (by decide) rfl rfl rfl rfl rfl (by decide) (Nat.le_of_ble_eq_true rfl) kc_X13_isPair dX13_isPair_2
theorem rX13_isPair_5 : ab_Run X 214 5 (1, 0, 0) L (ab_I a :: st) σ Q ↔ (a = 0 → ab_Run X 214 25 (1, 0, 0) L st σ Q) ∧ (¬ (a = 0) → ab_Run X 214 8 (1, 0, 0) L st σ Q) := ab_r_if_eq rfl kc_X13_isPair dX13_isPair_5
theorem rX13_isPair_8 : ab_Run X 214 8 (1, 0, 0) [ab_R z, l1, l2] st σ Q ↔ z ≠ 0 ∧ ab_Run X 214 9 (1, 0, 0) [ab_R z, l1, l2] (ab_R z :: st) σ Q := ab_r_aload_n rfl kc_X13_isPair dX13_isPair_8
theorem rX13_isPair_9 : ab_Run X 214 9 (1, 0, 0) [l0, l1, ab_I z] st σ Q ↔ ab_Run X 214 10 (1, 0, 0) [l0, l1, ab_I z] (ab_I z :: st) σ Q := ab_r_iload_n rfl kc_X13_isPair dX13_isPair_9
theorem rX13_isPair_10 : ab_Run X 214 10 (1, 0, 0) L (ab_I x1 :: ab_R a :: st) σ Q ↔ ((ab_sh σ a).1 = 14 ∧ ab_cats st ≤ 8) ∧ ab_Do X 213 [ab_R a, ab_I x1] σ (fun r σ' => ab_Run X 214 13 (1, 0, 0) L (ab_psh r st) σ' Q) := ab_r_callV (w := [ab_I x1]) (as := [ab_I x1]) (b1 := (0, 0, 0)) 0 (Or.inl rfl) (by decide) ko_X13_isPair qM_13_441 (by decide) rfl rfl rfl rfl rfl (by decide) (Nat.le_of_ble_eq_true rfl) kc_X13_isPair dX13_isPair_10
theorem rX13_isPair_13 : ab_Run X 214 13 (1, 0, 0) L (ab_I a :: st) σ Q ↔ (a = 0 → ab_Run X 214 25 (1, 0, 0) L st σ Q) ∧ (¬ (a = 0) → ab_Run X 214 16 (1, 0, 0) L st σ Q) := ab_r_if_eq rfl kc_X13_isPair dX13_isPair_13
theorem rX13_isPair_16 : ab_Run X 214 16 (1, 0, 0) [l0, ab_I z, l2] st σ Q ↔ ab_Run X 214 17 (1, 0, 0) [l0, ab_I z, l2] (ab_I z :: st) σ Q := ab_r_iload_n rfl kc_X13_isPair dX13_isPair_16
theorem rX13_isPair_17 : ab_Run X 214 17 (1, 0, 0) [l0, l1, ab_I z] st σ Q ↔ ab_Run X 214 18 (1, 0, 0) [l0, l1, ab_I z] (ab_I z :: st) σ Q := ab_r_iload_n rfl kc_X13_isPair dX13_isPair_17
theorem rX13_isPair_18 : ab_Run X 214 18 (1, 0, 0) L (ab_I b :: ab_I a :: st) σ Q ↔ (a = b → ab_Run X 214 25 (1, 0, 0) L st σ Q) ∧ (¬ (a = b) → ab_Run X 214 21 (1, 0, 0) L st σ Q) := ab_r_icmp_eq rfl kc_X13_isPair dX13_isPair_18
theorem rX13_isPair_21 : ab_Run X 214 21 (1, 0, 0) L st σ Q ↔ ab_Run X 214 22 (1, 0, 0) L (ab_I 1 :: st) σ Q := ab_r_iconst (by decide) kc_X13_isPair dX13_isPair_21
theorem rX13_isPair_22 : ab_Run X 214 22 (1, 0, 0) L st σ Q ↔ ab_Run X 214 26 (1, 0, 0) L st σ Q := ab_r_goto rfl kc_X13_isPair dX13_isPair_22
theorem rX13_isPair_25 : ab_Run X 214 25 (1, 0, 0) L st σ Q ↔ ab_Run X 214 26 (1, 0, 0) L (ab_I 0 :: st) σ Q := ab_r_iconst (by decide) kc_X13_isPair dX13_isPair_25
theorem rX13_isPair_26 : ab_Run X 214 26 (1, 0, 0) L [ab_I v] σ Q ↔ (v = 0 ∨ v = 1) ∧ Q (some (ab_I v)) σ := ab_r_ireturnZ rfl kc_X13_isPair dX13_isPair_26
theorem kc_X13_isPlace : ab_code 215 = cX13_isPlace := rfl
theorem ko_X13_isPlace : ab_ow 215 = 13 := rfl
theorem rX13_isPlace_0 : ab_Run X 215 0 (1, 0, 0) [ab_R z, l1, l2, l3] st σ Q ↔ z ≠ 0 ∧ ab_Run X 215 1 (1, 0, 0) [ab_R z, l1, l2, l3] (ab_R z :: st) σ Q := ab_r_aload_n rfl kc_X13_isPlace dX13_isPlace_0
theorem rX13_isPlace_1 : ab_Run X 215 1 (1, 0, 0) [l0, ab_I z, l2, l3] st σ Q ↔ ab_Run X 215 2 (1, 0, 0) [l0, ab_I z, l2, l3] (ab_I z :: st) σ Q := ab_r_iload_n rfl kc_X13_isPlace dX13_isPlace_1
theorem rX13_isPlace_2 : ab_Run X 215 2 (1, 0, 0) L (ab_I x1 :: ab_R a :: st) σ Q ↔ ((ab_sh σ a).1 = 14 ∧ ab_cats st ≤ 8) ∧ ab_Do X 212 [ab_R a, ab_I x1] σ (fun r σ' => ab_Run X 215 5 (1, 0, 0) L (ab_psh r st) σ' Q) := ab_r_callV (w := [ab_I x1]) (as := [ab_I x1]) (b1 := (0, 0, 0)) 0 (Or.inl rfl) (by decide) ko_X13_isPlace qM_13_444 (by decide) rfl rfl rfl rfl rfl (by decide) (Nat.le_of_ble_eq_true rfl) kc_X13_isPlace dX13_isPlace_2
theorem rX13_isPlace_5 : ab_Run X 215 5 (1, 0, 0) L (ab_I a :: st) σ Q ↔ (a = 0 → ab_Run X 215 38 (1, 0, 0) L st σ Q) ∧ (¬ (a = 0) → ab_Run X 215 8 (1, 0, 0) L st σ Q) := ab_r_if_eq rfl kc_X13_isPlace dX13_isPlace_5
theorem rX13_isPlace_8 : ab_Run X 215 8 (1, 0, 0) [l0, l1, ab_I z, l3] st σ Q ↔ ab_Run X 215 9 (1, 0, 0) [l0, l1, ab_I z, l3] (ab_I z :: st) σ Q := ab_r_iload_n rfl kc_X13_isPlace dX13_isPlace_8
theorem rX13_isPlace_9 : ab_Run X 215 9 (1, 0, 0) L st σ Q ↔ ab_Run X 215 10 (1, 0, 0) L (ab_I 0 :: st) σ Q := ab_r_iconst (by decide) kc_X13_isPlace dX13_isPlace_9
theorem rX13_isPlace_10 : ab_Run X 215 10 (1, 0, 0) L st σ Q ↔ ab_Run X 215 11 (1, 0, 0) L (ab_I 1 :: st) σ Q := ab_r_iconst (by decide) kc_X13_isPlace dX13_isPlace_10
theorem rX13_isPlace_11 : ab_Run X 215 11 (1, 0, 0) L (ab_I x3 :: ab_I x2 :: ab_I x1 :: st) σ Q ↔ ab_cats st ≤ 8 ∧ ab_Do X 163 [ab_I x1, ab_I x2, ab_I x3] σ (fun r σ' => ab_Run X 215 14 (1, 0, 0) L (ab_psh r st) σ' Q) := ab_r_callS (w := [ab_I x3, ab_I x2, ab_I x1]) (as := [ab_I x1, ab_I x2, ab_I x3]) (b1 := (0, 0, 0)) (by decide) ko_X13_isPlace qM_13_138 (by decide) rfl rfl rfl rfl (by decide) (Nat.le_of_ble_eq_true rfl) kc_X13_isPlace dX13_isPlace_11
theorem rX13_isPlace_14 : ab_Run X 215 14 (1, 0, 0) L (ab_I a :: st) σ Q ↔ (a = 0 → ab_Run X 215 38 (1, 0, 0) L st σ Q) ∧ (¬ (a = 0) → ab_Run X 215 17 (1, 0, 0) L st σ Q) := ab_r_if_eq rfl kc_X13_isPlace dX13_isPlace_14
theorem rX13_isPlace_17 : ab_Run X 215 17 (1, 0, 0) [l0, l1, l2, ab_I z] st σ Q ↔ ab_Run X 215 18 (1, 0, 0) [l0, l1, l2, ab_I z] (ab_I z :: st) σ Q := ab_r_iload_n rfl kc_X13_isPlace dX13_isPlace_17
theorem rX13_isPlace_18 : ab_Run X 215 18 (1, 0, 0) L (ab_I a :: st) σ Q ↔ (a < 0 → ab_Run X 215 38 (1, 0, 0) L st σ Q) ∧ (¬ (a < 0) → ab_Run X 215 21 (1, 0, 0) L st σ Q) := ab_r_if_lt rfl kc_X13_isPlace dX13_isPlace_18
theorem rX13_isPlace_21 : ab_Run X 215 21 (1, 0, 0) [l0, l1, l2, ab_I z] st σ Q ↔ ab_Run X 215 22 (1, 0, 0) [l0, l1, l2, ab_I z] (ab_I z :: st) σ Q := ab_r_iload_n rfl kc_X13_isPlace dX13_isPlace_21
theorem rX13_isPlace_22 : ab_Run X 215 22 (1, 0, 0) [ab_R z, l1, l2, l3] st σ Q ↔ z ≠ 0 ∧ ab_Run X 215 23 (1, 0, 0) [ab_R z, l1, l2, l3] (ab_R z :: st) σ Q := ab_r_aload_n rfl kc_X13_isPlace dX13_isPlace_22
theorem rX13_isPlace_23 : ab_Run X 215 23 (1, 0, 0) L (ab_R a :: st) σ Q ↔ (ab_sh σ a).1 = 14 ∧ ab_Run X 215 26 (1, 0, 0) L (ab_R (ab_rd σ a 3) :: st) σ Q := gF_13_373 ko_X13_isPlace kc_X13_isPlace dX13_isPlace_23
theorem rX13_isPlace_26 : ab_Run X 215 26 (1, 0, 0) [l0, ab_I z, l2, l3] st σ Q ↔ ab_Run X 215 27 (1, 0, 0) [l0, ab_I z, l2, l3] (ab_I z :: st) σ Q := ab_r_iload_n rfl kc_X13_isPlace dX13_isPlace_26
theorem rX13_isPlace_27 : ab_Run X 215 27 (1, 0, 0) [l0, l1, ab_I z, l3] st σ Q ↔ ab_Run X 215 28 (1, 0, 0) [l0, l1, ab_I z, l3] (ab_I z :: st) σ Q := ab_r_iload_n rfl kc_X13_isPlace dX13_isPlace_27
theorem rX13_isPlace_28 : ab_Run X 215 28 (1, 0, 0) L (ab_I x2 :: ab_I x1 :: ab_R a :: st) σ Q ↔ ((ab_sh σ a).1 = 13 ∧ ab_cats st ≤ 8) ∧ ab_Do X 154 [ab_R a, ab_I x1, ab_I x2] σ (fun r σ' => ab_Run X 215 31 (1, 0, 0) L (ab_psh r st) σ' Q) := ab_r_callV (w := [ab_I x2, ab_I x1]) (as := [ab_I x1, ab_I x2]) (b1 := (0, 0, 0)) 0 (Or.inl rfl) (by decide) ko_X13_isPlace qM_13_406 (by decide) rfl rfl rfl rfl rfl (by decide) (Nat.le_of_ble_eq_true rfl) kc_X13_isPlace dX13_isPlace_28
theorem rX13_isPlace_31 : ab_Run X 215 31 (1, 0, 0) L (ab_I b :: ab_I a :: st) σ Q ↔ (b ≤ a → ab_Run X 215 38 (1, 0, 0) L st σ Q) ∧ (¬ (b ≤ a) → ab_Run X 215 34 (1, 0, 0) L st σ Q) := ab_r_icmp_ge rfl kc_X13_isPlace dX13_isPlace_31
theorem rX13_isPlace_34 : ab_Run X 215 34 (1, 0, 0) L st σ Q ↔ ab_Run X 215 35 (1, 0, 0) L (ab_I 1 :: st) σ Q := ab_r_iconst (by decide) kc_X13_isPlace dX13_isPlace_34
theorem rX13_isPlace_35 : ab_Run X 215 35 (1, 0, 0) L st σ Q ↔ ab_Run X 215 39 (1, 0, 0) L st σ Q := ab_r_goto rfl kc_X13_isPlace dX13_isPlace_35
theorem rX13_isPlace_38 : ab_Run X 215 38 (1, 0, 0) L st σ Q ↔ ab_Run X 215 39 (1, 0, 0) L (ab_I 0 :: st) σ Q := ab_r_iconst (by decide) kc_X13_isPlace dX13_isPlace_38
theorem rX13_isPlace_39 : ab_Run X 215 39 (1, 0, 0) L [ab_I v] σ Q ↔ (v = 0 ∨ v = 1) ∧ Q (some (ab_I v)) σ := ab_r_ireturnZ rfl kc_X13_isPlace dX13_isPlace_39
theorem kc_X13_refusesPull : ab_code 216 = cX13_refusesPull := rfl
theorem ko_X13_refusesPull : ab_ow 216 = 13 := rfl
theorem rX13_refusesPull_0 : ab_Run X 216 0 (1, 0, 0) [l0, ab_I z, l2, l3, l4, l5] st σ Q ↔ ab_Run X 216 1 (1, 0, 0) [l0, ab_I z, l2, l3, l4, l5] (ab_I z :: st) σ Q := ab_r_iload_n rfl kc_X13_refusesPull dX13_refusesPull_0
theorem rX13_refusesPull_1 : ab_Run X 216 1 (1, 0, 0) L (ab_I a :: st) σ Q ↔ (¬ a = 0 → ab_Run X 216 6 (1, 0, 0) L st σ Q) ∧ (¬ (¬ a = 0) → ab_Run X 216 4 (1, 0, 0) L st σ Q) := ab_r_if_ne rfl kc_X13_refusesPull dX13_refusesPull_1
theorem rX13_refusesPull_4 : ab_Run X 216 4 (1, 0, 0) L st σ Q ↔ ab_Run X 216 5 (1, 0, 0) L (ab_I 1 :: st) σ Q := ab_r_iconst (by decide) kc_X13_refusesPull dX13_refusesPull_4
theorem rX13_refusesPull_5 : ab_Run X 216 5 (1, 0, 0) L [ab_I v] σ Q ↔ Q (some (ab_I v)) σ := ab_r_ireturnI rfl kc_X13_refusesPull dX13_refusesPull_5
theorem rX13_refusesPull_6 : ab_Run X 216 6 (1, 0, 0) [l0, l1, l2, ab_I z, l4, l5] st σ Q ↔ ab_Run X 216 7 (1, 0, 0) [l0, l1, l2, ab_I z, l4, l5] (ab_I z :: st) σ Q := ab_r_iload_n rfl kc_X13_refusesPull dX13_refusesPull_6
theorem rX13_refusesPull_7 : ab_Run X 216 7 (1, 0, 0) L st σ Q ↔ ab_Run X 216 8 (1, 0, 0) L (ab_I 1 :: st) σ Q := ab_r_iconst (by decide) kc_X13_refusesPull dX13_refusesPull_7
theorem rX13_refusesPull_8 : ab_Run X 216 8 (1, 0, 0) [ab_R z, l1, l2, l3, l4, l5] st σ Q ↔ z ≠ 0 ∧ ab_Run X 216 9 (1, 0, 0) [ab_R z, l1, l2, l3, l4, l5] (ab_R z :: st) σ Q := ab_r_aload_n rfl kc_X13_refusesPull dX13_refusesPull_8
theorem rX13_refusesPull_9 : ab_Run X 216 9 (1, 0, 0) L (ab_R a :: st) σ Q ↔ (ab_sh σ a).1 = 14 ∧ ab_Run X 216 12 (1, 0, 0) L (ab_R (ab_rd σ a 3) :: st) σ Q := gF_13_373 ko_X13_refusesPull kc_X13_refusesPull dX13_refusesPull_9
theorem rX13_refusesPull_12 : ab_Run X 216 12 (1, 0, 0) [l0, l1, ab_I z, l3, l4, l5] st σ Q ↔ ab_Run X 216 13 (1, 0, 0) [l0, l1, ab_I z, l3, l4, l5] (ab_I z :: st) σ Q := ab_r_iload_n rfl kc_X13_refusesPull dX13_refusesPull_12
theorem rX13_refusesPull_13 : ab_Run X 216 13 (1, 0, 0) L st σ Q ↔ ab_Run X 216 14 (1, 0, 0) L (ab_I 0 :: st) σ Q := ab_r_iconst (by decide) kc_X13_refusesPull dX13_refusesPull_13
theorem rX13_refusesPull_14 : ab_Run X 216 14 (1, 0, 0) L (ab_I x2 :: ab_I x1 :: ab_R a :: st) σ Q ↔ ((ab_sh σ a).1 = 13 ∧ ab_cats st ≤ 8) ∧ ab_Do X 154 [ab_R a, ab_I x1, ab_I x2] σ (fun r σ' => ab_Run X 216 17 (1, 0, 0) L (ab_psh r st) σ' Q) := ab_r_callV (w := [ab_I x2, ab_I x1]) (as := [ab_I x1, ab_I x2]) (b1 := (0, 0, 0)) 0 (Or.inl rfl) (by decide) ko_X13_refusesPull qM_13_406 (by decide) rfl rfl rfl rfl rfl (by decide) (Nat.le_of_ble_eq_true rfl) kc_X13_refusesPull dX13_refusesPull_14
theorem rX13_refusesPull_17 : ab_Run X 216 17 (1, 0, 0) L (ab_I x3 :: ab_I x2 :: ab_I x1 :: st) σ Q ↔ ab_cats st ≤ 8 ∧ ab_Do X 163 [ab_I x1, ab_I x2, ab_I x3] σ (fun r σ' => ab_Run X 216 20 (1, 0, 0) L (ab_psh r st) σ' Q) := ab_r_callS (w := [ab_I x3, ab_I x2, ab_I x1]) (as := [ab_I x1, ab_I x2, ab_I x3]) (b1 := (0, 0, 0)) (by decide) ko_X13_refusesPull qM_13_138 (by decide) rfl rfl rfl rfl (by decide) (Nat.le_of_ble_eq_true rfl) kc_X13_refusesPull dX13_refusesPull_17
theorem rX13_refusesPull_20 : ab_Run X 216 20 (1, 0, 0) L (ab_I a :: st) σ Q ↔ (a = 0 → ab_Run X 216 55 (1, 0, 0) L st σ Q) ∧ (¬ (a = 0) → ab_Run X 216 23 (1, 0, 0) L st σ Q) := ab_r_if_eq rfl kc_X13_refusesPull dX13_refusesPull_20
theorem rX13_refusesPull_23 : ab_Run X 216 23 (1, 0, 0) [l0, l1, l2, l3, ab_I z, l5] st σ Q ↔ ab_Run X 216 25 (1, 0, 0) [l0, l1, l2, l3, ab_I z, l5] (ab_I z :: st) σ Q := ab_r_iload rfl kc_X13_refusesPull dX13_refusesPull_23
theorem rX13_refusesPull_25 : ab_Run X 216 25 (1, 0, 0) L st σ Q ↔ ab_Run X 216 26 (1, 0, 0) L (ab_I 1 :: st) σ Q := ab_r_iconst (by decide) kc_X13_refusesPull dX13_refusesPull_25
theorem rX13_refusesPull_26 : ab_Run X 216 26 (1, 0, 0) [ab_R z, l1, l2, l3, l4, l5] st σ Q ↔ z ≠ 0 ∧ ab_Run X 216 27 (1, 0, 0) [ab_R z, l1, l2, l3, l4, l5] (ab_R z :: st) σ Q := ab_r_aload_n rfl kc_X13_refusesPull dX13_refusesPull_26
theorem rX13_refusesPull_27 : ab_Run X 216 27 (1, 0, 0) L (ab_R a :: st) σ Q ↔ (ab_sh σ a).1 = 14 ∧ ab_Run X 216 30 (1, 0, 0) L (ab_R (ab_rd σ a 3) :: st) σ Q := gF_13_373 ko_X13_refusesPull kc_X13_refusesPull dX13_refusesPull_27
theorem rX13_refusesPull_30 : ab_Run X 216 30 (1, 0, 0) [l0, l1, ab_I z, l3, l4, l5] st σ Q ↔ ab_Run X 216 31 (1, 0, 0) [l0, l1, ab_I z, l3, l4, l5] (ab_I z :: st) σ Q := ab_r_iload_n rfl kc_X13_refusesPull dX13_refusesPull_30
theorem rX13_refusesPull_31 : ab_Run X 216 31 (1, 0, 0) L st σ Q ↔ ab_Run X 216 32 (1, 0, 0) L (ab_I 1 :: st) σ Q := ab_r_iconst (by decide) kc_X13_refusesPull dX13_refusesPull_31
theorem rX13_refusesPull_32 : ab_Run X 216 32 (1, 0, 0) L (ab_I x2 :: ab_I x1 :: ab_R a :: st) σ Q ↔ ((ab_sh σ a).1 = 13 ∧ ab_cats st ≤ 8) ∧ ab_Do X 154 [ab_R a, ab_I x1, ab_I x2] σ (fun r σ' => ab_Run X 216 35 (1, 0, 0) L (ab_psh r st) σ' Q) := ab_r_callV (w := [ab_I x2, ab_I x1]) (as := [ab_I x1, ab_I x2]) (b1 := (0, 0, 0)) 0 (Or.inl rfl) (by decide) ko_X13_refusesPull qM_13_406 (by decide) rfl rfl rfl rfl rfl (by decide) (Nat.le_of_ble_eq_true rfl) kc_X13_refusesPull dX13_refusesPull_32
theorem rX13_refusesPull_35 : ab_Run X 216 35 (1, 0, 0) L (ab_I x3 :: ab_I x2 :: ab_I x1 :: st) σ Q ↔ ab_cats st ≤ 8 ∧ ab_Do X 163 [ab_I x1, ab_I x2, ab_I x3] σ (fun r σ' => ab_Run X 216 38 (1, 0, 0) L (ab_psh r st) σ' Q) := ab_r_callS (w := [ab_I x3, ab_I x2, ab_I x1]) (as := [ab_I x1, ab_I x2, ab_I x3]) (b1 := (0, 0, 0)) (by decide) ko_X13_refusesPull qM_13_138 (by decide) rfl rfl rfl rfl (by decide) (Nat.le_of_ble_eq_true rfl) kc_X13_refusesPull dX13_refusesPull_35
theorem rX13_refusesPull_38 : ab_Run X 216 38 (1, 0, 0) L (ab_I a :: st) σ Q ↔ (a = 0 → ab_Run X 216 55 (1, 0, 0) L st σ Q) ∧ (¬ (a = 0) → ab_Run X 216 41 (1, 0, 0) L st σ Q) := ab_r_if_eq rfl kc_X13_refusesPull dX13_refusesPull_38
theorem rX13_refusesPull_41 : ab_Run X 216 41 (1, 0, 0) [l0, l1, l2, l3, l4, ab_I z] st σ Q ↔ ab_Run X 216 43 (1, 0, 0) [l0, l1, l2, l3, l4, ab_I z] (ab_I z :: st) σ Q := ab_r_iload rfl kc_X13_refusesPull dX13_refusesPull_41
theorem rX13_refusesPull_43 : ab_Run X 216 43 (1, 0, 0) L st σ Q ↔ ab_Run X 216 44 (1, 0, 0) L (ab_I 0 :: st) σ Q := ab_r_iconst (by decide) kc_X13_refusesPull dX13_refusesPull_43
theorem rX13_refusesPull_44 : ab_Run X 216 44 (1, 0, 0) L st σ Q ↔ ab_Run X 216 45 (1, 0, 0) L (ab_I 3 :: st) σ Q := ab_r_iconst (by decide) kc_X13_refusesPull dX13_refusesPull_44
theorem rX13_refusesPull_45 : ab_Run X 216 45 (1, 0, 0) L (ab_I x3 :: ab_I x2 :: ab_I x1 :: st) σ Q ↔ ab_cats st ≤ 8 ∧ ab_Do X 163 [ab_I x1, ab_I x2, ab_I x3] σ (fun r σ' => ab_Run X 216 48 (1, 0, 0) L (ab_psh r st) σ' Q) := ab_r_callS (w := [ab_I x3, ab_I x2, ab_I x1]) (as := [ab_I x1, ab_I x2, ab_I x3]) (b1 := (0, 0, 0)) (by decide) ko_X13_refusesPull qM_13_138 (by decide) rfl rfl rfl rfl (by decide) (Nat.le_of_ble_eq_true rfl) kc_X13_refusesPull dX13_refusesPull_45
theorem rX13_refusesPull_48 : ab_Run X 216 48 (1, 0, 0) L (ab_I a :: st) σ Q ↔ (a = 0 → ab_Run X 216 55 (1, 0, 0) L st σ Q) ∧ (¬ (a = 0) → ab_Run X 216 51 (1, 0, 0) L st σ Q) := ab_r_if_eq rfl kc_X13_refusesPull dX13_refusesPull_48
theorem rX13_refusesPull_51 : ab_Run X 216 51 (1, 0, 0) L st σ Q ↔ ab_Run X 216 52 (1, 0, 0) L (ab_I 0 :: st) σ Q := ab_r_iconst (by decide) kc_X13_refusesPull dX13_refusesPull_51
theorem rX13_refusesPull_52 : ab_Run X 216 52 (1, 0, 0) L st σ Q ↔ ab_Run X 216 56 (1, 0, 0) L st σ Q := ab_r_goto rfl kc_X13_refusesPull dX13_refusesPull_52
theorem rX13_refusesPull_55 : ab_Run X 216 55 (1, 0, 0) L st σ Q ↔ ab_Run X 216 56 (1, 0, 0) L (ab_I 2 :: st) σ Q := ab_r_iconst (by decide) kc_X13_refusesPull dX13_refusesPull_55
theorem rX13_refusesPull_56 : ab_Run X 216 56 (1, 0, 0) L [ab_I v] σ Q ↔ Q (some (ab_I v)) σ := ab_r_ireturnI rfl kc_X13_refusesPull dX13_refusesPull_56
theorem kc_X13_bone : ab_code 217 = cX13_bone := rfl
theorem ko_X13_bone : ab_ow 217 = 13 := rfl
theorem rX13_bone_0 : ab_Run X 217 0 (1, 0, 0) [ab_R z, l1, l2] st σ Q ↔ z ≠ 0 ∧ ab_Run X 217 1 (1, 0, 0) [ab_R z, l1, l2] (ab_R z :: st) σ Q := ab_r_aload_n rfl kc_X13_bone dX13_bone_0
theorem rX13_bone_1 : ab_Run X 217 1 (1, 0, 0) L st σ Q ↔ ab_Run X 217 2 (1, 0, 0) L (ab_I 0 :: st) σ Q := ab_r_iconst (by decide) kc_X13_bone dX13_bone_1
theorem rX13_bone_2 : ab_Run X 217 2 (1, 0, 0) L (ab_I z :: ab_R a :: st) σ Q ↔ (ab_sh σ a).1 = 14 ∧ ab_Run X 217 5 (1, 0, 0) L st (ab_wr σ a 0 z) Q := sF_13_53 ko_X13_bone kc_X13_bone dX13_bone_2
theorem rX13_bone_5 : ab_Run X 217 5 (1, 0, 0) [ab_R z, l1, l2] st σ Q ↔ z ≠ 0 ∧ ab_Run X 217 6 (1, 0, 0) [ab_R z, l1, l2] (ab_R z :: st) σ Q := ab_r_aload_n rfl kc_X13_bone dX13_bone_5
theorem rX13_bone_6 : ab_Run X 217 6 (1, 0, 0) [l0, ab_I z, l2] st σ Q ↔ ab_Run X 217 7 (1, 0, 0) [l0, ab_I z, l2] (ab_I z :: st) σ Q := ab_r_iload_n rfl kc_X13_bone dX13_bone_6
theorem rX13_bone_7 : ab_Run X 217 7 (1, 0, 0) L (ab_I x1 :: ab_R a :: st) σ Q ↔ ((ab_sh σ a).1 = 14 ∧ ab_cats st ≤ 8) ∧ ab_Do X 212 [ab_R a, ab_I x1] σ (fun r σ' => ab_Run X 217 10 (1, 0, 0) L (ab_psh r st) σ' Q) := ab_r_callV (w := [ab_I x1]) (as := [ab_I x1]) (b1 := (0, 0, 0)) 0 (Or.inl rfl) (by decide) ko_X13_bone qM_13_444 (by decide) rfl rfl rfl rfl rfl (by decide) (Nat.le_of_ble_eq_true rfl) kc_X13_bone dX13_bone_7
theorem rX13_bone_10 : ab_Run X 217 10 (1, 0, 0) L (ab_I a :: st) σ Q ↔ (a = 0 → ab_Run X 217 22 (1, 0, 0) L st σ Q) ∧ (¬ (a = 0) → ab_Run X 217 13 (1, 0, 0) L st σ Q) := ab_r_if_eq rfl kc_X13_bone dX13_bone_10
theorem rX13_bone_13 : ab_Run X 217 13 (1, 0, 0) [l0, l1, ab_I z] st σ Q ↔ ab_Run X 217 14 (1, 0, 0) [l0, l1, ab_I z] (ab_I z :: st) σ Q := ab_r_iload_n rfl kc_X13_bone dX13_bone_13
theorem rX13_bone_14 : ab_Run X 217 14 (1, 0, 0) L st σ Q ↔ ab_Run X 217 15 (1, 0, 0) L (ab_I 0 :: st) σ Q := ab_r_iconst (by decide) kc_X13_bone dX13_bone_14
theorem rX13_bone_15 : ab_Run X 217 15 (1, 0, 0) L st σ Q ↔ ab_Run X 217 16 (1, 0, 0) L (ab_I 4 :: st) σ Q := ab_r_iconst (by decide) kc_X13_bone dX13_bone_15
theorem rX13_bone_16 : ab_Run X 217 16 (1, 0, 0) L (ab_I x3 :: ab_I x2 :: ab_I x1 :: st) σ Q ↔ ab_cats st ≤ 8 ∧ ab_Do X 163 [ab_I x1, ab_I x2, ab_I x3] σ (fun r σ' => ab_Run X 217 19 (1, 0, 0) L (ab_psh r st) σ' Q) := ab_r_callS (w := [ab_I x3, ab_I x2, ab_I x1]) (as := [ab_I x1, ab_I x2, ab_I x3]) (b1 := (0, 0, 0)) (by decide) ko_X13_bone qM_13_138 (by decide) rfl rfl rfl rfl (by decide) (Nat.le_of_ble_eq_true rfl) kc_X13_bone dX13_bone_16
theorem rX13_bone_19 : ab_Run X 217 19 (1, 0, 0) L (ab_I a :: st) σ Q ↔ (¬ a = 0 → ab_Run X 217 28 (1, 0, 0) L st σ Q) ∧ (¬ (¬ a = 0) → ab_Run X 217 22 (1, 0, 0) L st σ Q) := ab_r_if_ne rfl kc_X13_bone dX13_bone_19
theorem rX13_bone_22 : ab_Run X 217 22 (1, 0, 0) [ab_R z, l1, l2] st σ Q ↔ z ≠ 0 ∧ ab_Run X 217 23 (1, 0, 0) [ab_R z, l1, l2] (ab_R z :: st) σ Q := ab_r_aload_n rfl kc_X13_bone dX13_bone_22
theorem rX13_bone_23 : ab_Run X 217 23 (1, 0, 0) L st σ Q ↔ ab_Run X 217 24 (1, 0, 0) L (ab_I 1 :: st) σ Q := ab_r_iconst (by decide) kc_X13_bone dX13_bone_23
theorem rX13_bone_24 : ab_Run X 217 24 (1, 0, 0) L (ab_I x1 :: ab_R a :: st) σ Q ↔ ((ab_sh σ a).1 = 14 ∧ ab_cats st ≤ 8) ∧ ab_Do X 159 [ab_R a, ab_I x1] σ (fun r σ' => ab_Run X 217 27 (1, 0, 0) L (ab_psh r st) σ' Q) := ab_r_callV (w := [ab_I x1]) (as := [ab_I x1]) (b1 := (0, 0, 0)) 0 (Or.inl rfl) (by decide) ko_X13_bone qM_13_59 (by decide) rfl rfl rfl rfl rfl (by decide) (Nat.le_of_ble_eq_true rfl) kc_X13_bone dX13_bone_24
theorem rX13_bone_27 : ab_Run X 217 27 (1, 0, 0) L [ab_I v] σ Q ↔ Q (some (ab_I v)) σ := ab_r_ireturnI rfl kc_X13_bone dX13_bone_27
theorem rX13_bone_28 : ab_Run X 217 28 (1, 0, 0) [l0, l1, ab_I z] st σ Q ↔ ab_Run X 217 29 (1, 0, 0) [l0, l1, ab_I z] (ab_I z :: st) σ Q := ab_r_iload_n rfl kc_X13_bone dX13_bone_28
theorem rX13_bone_29_0 : ab_Run X 217 29 (1, 0, 0) L (ab_I 0 :: st) σ Q ↔ ab_Run X 217 60 (1, 0, 0) L st σ Q := ab_r_tsw (by decide) rfl rfl kc_X13_bone dX13_bone_29
theorem rX13_bone_29_1 : ab_Run X 217 29 (1, 0, 0) L (ab_I 1 :: st) σ Q ↔ ab_Run X 217 73 (1, 0, 0) L st σ Q := ab_r_tsw (by decide) rfl rfl kc_X13_bone dX13_bone_29
theorem rX13_bone_29_2 : ab_Run X 217 29 (1, 0, 0) L (ab_I 2 :: st) σ Q ↔ ab_Run X 217 86 (1, 0, 0) L st σ Q := ab_r_tsw (by decide) rfl rfl kc_X13_bone dX13_bone_29
theorem rX13_bone_29_3 : ab_Run X 217 29 (1, 0, 0) L (ab_I 3 :: st) σ Q ↔ ab_Run X 217 100 (1, 0, 0) L st σ Q := ab_r_tsw (by decide) rfl rfl kc_X13_bone dX13_bone_29
theorem rX13_bone_29_d (h : a < 0 ∨ 3 < a) : ab_Run X 217 29 (1, 0, 0) L (ab_I a :: st) σ Q ↔ ab_Run X 217 114 (1, 0, 0) L st σ Q := ab_r_tswd h rfl kc_X13_bone dX13_bone_29
theorem rX13_bone_60 : ab_Run X 217 60 (1, 0, 0) [ab_R z, l1, l2] st σ Q ↔ z ≠ 0 ∧ ab_Run X 217 61 (1, 0, 0) [ab_R z, l1, l2] (ab_R z :: st) σ Q := ab_r_aload_n rfl kc_X13_bone dX13_bone_60
theorem rX13_bone_61 : ab_Run X 217 61 (1, 0, 0) [ab_R z, l1, l2] st σ Q ↔ z ≠ 0 ∧ ab_Run X 217 62 (1, 0, 0) [ab_R z, l1, l2] (ab_R z :: st) σ Q := ab_r_aload_n rfl kc_X13_bone dX13_bone_61
theorem rX13_bone_62 : ab_Run X 217 62 (1, 0, 0) L (ab_R a :: st) σ Q ↔ (ab_sh σ a).1 = 14 ∧ ab_Run X 217 65 (1, 0, 0) L (ab_R (ab_rd σ a 16) :: st) σ Q := gF_13_17 ko_X13_bone kc_X13_bone dX13_bone_62
theorem rX13_bone_65 : ab_Run X 217 65 (1, 0, 0) L st σ Q ↔ ab_Run X 217 66 (1, 0, 0) L (ab_I 0 :: st) σ Q := ab_r_iconst (by decide) kc_X13_bone dX13_bone_65
theorem rX13_bone_66 : ab_Run X 217 66 (1, 0, 0) [l0, ab_I z, l2] st σ Q ↔ ab_Run X 217 67 (1, 0, 0) [l0, ab_I z, l2] (ab_I z :: st) σ Q := ab_r_iload_n rfl kc_X13_bone dX13_bone_66
theorem rX13_bone_67 : ab_Run X 217 67 (1, 0, 0) L (ab_I b :: ab_I a :: st) σ Q ↔ ab_Run X 217 68 (1, 0, 0) L (ab_I (ab_w32 (a + b)) :: st) σ Q := ab_r_iadd kc_X13_bone dX13_bone_67
theorem rX13_bone_68 : ab_Run X 217 68 (1, 0, 0) L (ab_I i :: ab_R a :: st) σ Q ↔ ((ab_sh σ a).1 = 21 ∧ 0 ≤ i ∧ i < (ab_sh σ a).2) ∧ ab_Run X 217 69 (1, 0, 0) L (ab_I (ab_rd σ a i) :: st) σ Q := ab_r_iaload (by decide) kc_X13_bone dX13_bone_68
theorem rX13_bone_69 : ab_Run X 217 69 (1, 0, 0) L (ab_I x1 :: ab_R a :: st) σ Q ↔ ((ab_sh σ a).1 = 14 ∧ ab_cats st ≤ 8) ∧ ab_Do X 161 [ab_R a, ab_I x1] σ (fun r σ' => ab_Run X 217 72 (1, 0, 0) L (ab_psh r st) σ' Q) := ab_r_callV (w := [ab_I x1]) (as := [ab_I x1]) (b1 := (0, 0, 0)) 0 (Or.inl rfl) (by decide) ko_X13_bone qM_13_63 (by decide) rfl rfl rfl rfl rfl (by decide) (Nat.le_of_ble_eq_true rfl) kc_X13_bone dX13_bone_69
theorem rX13_bone_72 : ab_Run X 217 72 (1, 0, 0) L [ab_I v] σ Q ↔ Q (some (ab_I v)) σ := ab_r_ireturnI rfl kc_X13_bone dX13_bone_72
theorem rX13_bone_73 : ab_Run X 217 73 (1, 0, 0) [ab_R z, l1, l2] st σ Q ↔ z ≠ 0 ∧ ab_Run X 217 74 (1, 0, 0) [ab_R z, l1, l2] (ab_R z :: st) σ Q := ab_r_aload_n rfl kc_X13_bone dX13_bone_73
theorem rX13_bone_74 : ab_Run X 217 74 (1, 0, 0) [ab_R z, l1, l2] st σ Q ↔ z ≠ 0 ∧ ab_Run X 217 75 (1, 0, 0) [ab_R z, l1, l2] (ab_R z :: st) σ Q := ab_r_aload_n rfl kc_X13_bone dX13_bone_74
theorem rX13_bone_75 : ab_Run X 217 75 (1, 0, 0) L (ab_R a :: st) σ Q ↔ (ab_sh σ a).1 = 14 ∧ ab_Run X 217 78 (1, 0, 0) L (ab_R (ab_rd σ a 16) :: st) σ Q := gF_13_17 ko_X13_bone kc_X13_bone dX13_bone_75
theorem rX13_bone_78 : ab_Run X 217 78 (1, 0, 0) L st σ Q ↔ ab_Run X 217 79 (1, 0, 0) L (ab_I 5 :: st) σ Q := ab_r_iconst (by decide) kc_X13_bone dX13_bone_78
theorem rX13_bone_79 : ab_Run X 217 79 (1, 0, 0) [l0, ab_I z, l2] st σ Q ↔ ab_Run X 217 80 (1, 0, 0) [l0, ab_I z, l2] (ab_I z :: st) σ Q := ab_r_iload_n rfl kc_X13_bone dX13_bone_79
theorem rX13_bone_80 : ab_Run X 217 80 (1, 0, 0) L (ab_I b :: ab_I a :: st) σ Q ↔ ab_Run X 217 81 (1, 0, 0) L (ab_I (ab_w32 (a + b)) :: st) σ Q := ab_r_iadd kc_X13_bone dX13_bone_80
theorem rX13_bone_81 : ab_Run X 217 81 (1, 0, 0) L (ab_I i :: ab_R a :: st) σ Q ↔ ((ab_sh σ a).1 = 21 ∧ 0 ≤ i ∧ i < (ab_sh σ a).2) ∧ ab_Run X 217 82 (1, 0, 0) L (ab_I (ab_rd σ a i) :: st) σ Q := ab_r_iaload (by decide) kc_X13_bone dX13_bone_81
theorem rX13_bone_82 : ab_Run X 217 82 (1, 0, 0) L (ab_I x1 :: ab_R a :: st) σ Q ↔ ((ab_sh σ a).1 = 14 ∧ ab_cats st ≤ 8) ∧ ab_Do X 161 [ab_R a, ab_I x1] σ (fun r σ' => ab_Run X 217 85 (1, 0, 0) L (ab_psh r st) σ' Q) := ab_r_callV (w := [ab_I x1]) (as := [ab_I x1]) (b1 := (0, 0, 0)) 0 (Or.inl rfl) (by decide) ko_X13_bone qM_13_63 (by decide) rfl rfl rfl rfl rfl (by decide) (Nat.le_of_ble_eq_true rfl) kc_X13_bone dX13_bone_82
theorem rX13_bone_85 : ab_Run X 217 85 (1, 0, 0) L [ab_I v] σ Q ↔ Q (some (ab_I v)) σ := ab_r_ireturnI rfl kc_X13_bone dX13_bone_85
theorem rX13_bone_86 : ab_Run X 217 86 (1, 0, 0) [ab_R z, l1, l2] st σ Q ↔ z ≠ 0 ∧ ab_Run X 217 87 (1, 0, 0) [ab_R z, l1, l2] (ab_R z :: st) σ Q := ab_r_aload_n rfl kc_X13_bone dX13_bone_86
theorem rX13_bone_87 : ab_Run X 217 87 (1, 0, 0) [ab_R z, l1, l2] st σ Q ↔ z ≠ 0 ∧ ab_Run X 217 88 (1, 0, 0) [ab_R z, l1, l2] (ab_R z :: st) σ Q := ab_r_aload_n rfl kc_X13_bone dX13_bone_87
theorem rX13_bone_88 : ab_Run X 217 88 (1, 0, 0) L (ab_R a :: st) σ Q ↔ (ab_sh σ a).1 = 14 ∧ ab_Run X 217 91 (1, 0, 0) L (ab_R (ab_rd σ a 3) :: st) σ Q := gF_13_373 ko_X13_bone kc_X13_bone dX13_bone_88
theorem rX13_bone_91 : ab_Run X 217 91 (1, 0, 0) [l0, ab_I z, l2] st σ Q ↔ ab_Run X 217 92 (1, 0, 0) [l0, ab_I z, l2] (ab_I z :: st) σ Q := ab_r_iload_n rfl kc_X13_bone dX13_bone_91
theorem rX13_bone_92 : ab_Run X 217 92 (1, 0, 0) L st σ Q ↔ ab_Run X 217 93 (1, 0, 0) L (ab_I 0 :: st) σ Q := ab_r_iconst (by decide) kc_X13_bone dX13_bone_92
theorem rX13_bone_93 : ab_Run X 217 93 (1, 0, 0) L (ab_I x2 :: ab_I x1 :: ab_R a :: st) σ Q ↔ ((ab_sh σ a).1 = 13 ∧ ab_cats st ≤ 8) ∧ ab_Do X 154 [ab_R a, ab_I x1, ab_I x2] σ (fun r σ' => ab_Run X 217 96 (1, 0, 0) L (ab_psh r st) σ' Q) := ab_r_callV (w := [ab_I x2, ab_I x1]) (as := [ab_I x1, ab_I x2]) (b1 := (0, 0, 0)) 0 (Or.inl rfl) (by decide) ko_X13_bone qM_13_406 (by decide) rfl rfl rfl rfl rfl (by decide) (Nat.le_of_ble_eq_true rfl) kc_X13_bone dX13_bone_93
theorem rX13_bone_96 : ab_Run X 217 96 (1, 0, 0) L (ab_I x1 :: ab_R a :: st) σ Q ↔ ((ab_sh σ a).1 = 14 ∧ ab_cats st ≤ 8) ∧ ab_Do X 161 [ab_R a, ab_I x1] σ (fun r σ' => ab_Run X 217 99 (1, 0, 0) L (ab_psh r st) σ' Q) := ab_r_callV (w := [ab_I x1]) (as := [ab_I x1]) (b1 := (0, 0, 0)) 0 (Or.inl rfl) (by decide) ko_X13_bone qM_13_63 (by decide) rfl rfl rfl rfl rfl (by decide) (Nat.le_of_ble_eq_true rfl) kc_X13_bone dX13_bone_96
theorem rX13_bone_99 : ab_Run X 217 99 (1, 0, 0) L [ab_I v] σ Q ↔ Q (some (ab_I v)) σ := ab_r_ireturnI rfl kc_X13_bone dX13_bone_99
theorem rX13_bone_100 : ab_Run X 217 100 (1, 0, 0) [ab_R z, l1, l2] st σ Q ↔ z ≠ 0 ∧ ab_Run X 217 101 (1, 0, 0) [ab_R z, l1, l2] (ab_R z :: st) σ Q := ab_r_aload_n rfl kc_X13_bone dX13_bone_100
theorem rX13_bone_101 : ab_Run X 217 101 (1, 0, 0) [ab_R z, l1, l2] st σ Q ↔ z ≠ 0 ∧ ab_Run X 217 102 (1, 0, 0) [ab_R z, l1, l2] (ab_R z :: st) σ Q := ab_r_aload_n rfl kc_X13_bone dX13_bone_101
theorem rX13_bone_102 : ab_Run X 217 102 (1, 0, 0) L (ab_R a :: st) σ Q ↔ (ab_sh σ a).1 = 14 ∧ ab_Run X 217 105 (1, 0, 0) L (ab_R (ab_rd σ a 3) :: st) σ Q := gF_13_373 ko_X13_bone kc_X13_bone dX13_bone_102
theorem rX13_bone_105 : ab_Run X 217 105 (1, 0, 0) [l0, ab_I z, l2] st σ Q ↔ ab_Run X 217 106 (1, 0, 0) [l0, ab_I z, l2] (ab_I z :: st) σ Q := ab_r_iload_n rfl kc_X13_bone dX13_bone_105
theorem rX13_bone_106 : ab_Run X 217 106 (1, 0, 0) L st σ Q ↔ ab_Run X 217 107 (1, 0, 0) L (ab_I 1 :: st) σ Q := ab_r_iconst (by decide) kc_X13_bone dX13_bone_106
theorem rX13_bone_107 : ab_Run X 217 107 (1, 0, 0) L (ab_I x2 :: ab_I x1 :: ab_R a :: st) σ Q ↔ ((ab_sh σ a).1 = 13 ∧ ab_cats st ≤ 8) ∧ ab_Do X 154 [ab_R a, ab_I x1, ab_I x2] σ (fun r σ' => ab_Run X 217 110 (1, 0, 0) L (ab_psh r st) σ' Q) := ab_r_callV (w := [ab_I x2, ab_I x1]) (as := [ab_I x1, ab_I x2]) (b1 := (0, 0, 0)) 0 (Or.inl rfl) (by decide) ko_X13_bone qM_13_406 (by decide) rfl rfl rfl rfl rfl (by decide) (Nat.le_of_ble_eq_true rfl) kc_X13_bone dX13_bone_107
theorem rX13_bone_110 : ab_Run X 217 110 (1, 0, 0) L (ab_I x1 :: ab_R a :: st) σ Q ↔ ((ab_sh σ a).1 = 14 ∧ ab_cats st ≤ 8) ∧ ab_Do X 161 [ab_R a, ab_I x1] σ (fun r σ' => ab_Run X 217 113 (1, 0, 0) L (ab_psh r st) σ' Q) := ab_r_callV (w := [ab_I x1]) (as := [ab_I x1]) (b1 := (0, 0, 0)) 0 (Or.inl rfl) (by decide) ko_X13_bone qM_13_63 (by decide) rfl rfl rfl rfl rfl (by decide) (Nat.le_of_ble_eq_true rfl) kc_X13_bone dX13_bone_110
theorem rX13_bone_113 : ab_Run X 217 113 (1, 0, 0) L [ab_I v] σ Q ↔ Q (some (ab_I v)) σ := ab_r_ireturnI rfl kc_X13_bone dX13_bone_113
theorem rX13_bone_114 : ab_Run X 217 114 (1, 0, 0) [ab_R z, l1, l2] st σ Q ↔ z ≠ 0 ∧ ab_Run X 217 115 (1, 0, 0) [ab_R z, l1, l2] (ab_R z :: st) σ Q := ab_r_aload_n rfl kc_X13_bone dX13_bone_114
theorem rX13_bone_115 : ab_Run X 217 115 (1, 0, 0) [ab_R z, l1, l2] st σ Q ↔ z ≠ 0 ∧ ab_Run X 217 116 (1, 0, 0) [ab_R z, l1, l2] (ab_R z :: st) σ Q := ab_r_aload_n rfl kc_X13_bone dX13_bone_115
theorem rX13_bone_116 : ab_Run X 217 116 (1, 0, 0) L (ab_R a :: st) σ Q ↔ (ab_sh σ a).1 = 14 ∧ ab_Run X 217 119 (1, 0, 0) L (ab_R (ab_rd σ a 16) :: st) σ Q := gF_13_17 ko_X13_bone kc_X13_bone dX13_bone_116
theorem rX13_bone_119 : ab_Run X 217 119 (1, 0, 0) L st σ Q ↔ ab_Run X 217 121 (1, 0, 0) L (ab_I 10 :: st) σ Q := ab_r_bipush (by decide) kc_X13_bone dX13_bone_119
theorem rX13_bone_121 : ab_Run X 217 121 (1, 0, 0) L (ab_I i :: ab_R a :: st) σ Q ↔ ((ab_sh σ a).1 = 21 ∧ 0 ≤ i ∧ i < (ab_sh σ a).2) ∧ ab_Run X 217 122 (1, 0, 0) L (ab_I (ab_rd σ a i) :: st) σ Q := ab_r_iaload (by decide) kc_X13_bone dX13_bone_121
theorem rX13_bone_122 : ab_Run X 217 122 (1, 0, 0) [l0, ab_I z, l2] st σ Q ↔ ab_Run X 217 123 (1, 0, 0) [l0, ab_I z, l2] (ab_I z :: st) σ Q := ab_r_iload_n rfl kc_X13_bone dX13_bone_122
theorem rX13_bone_123 : ab_Run X 217 123 (1, 0, 0) L (ab_I b :: ab_I a :: st) σ Q ↔ ab_Run X 217 124 (1, 0, 0) L (ab_I (ab_ok32 (fun x y => x >>> (y &&& 31)) a b) :: st) σ Q := ab_r_ishr kc_X13_bone dX13_bone_123
theorem rX13_bone_124 : ab_Run X 217 124 (1, 0, 0) L st σ Q ↔ ab_Run X 217 125 (1, 0, 0) L (ab_I 1 :: st) σ Q := ab_r_iconst (by decide) kc_X13_bone dX13_bone_124
theorem rX13_bone_125 : ab_Run X 217 125 (1, 0, 0) L (ab_I b :: ab_I a :: st) σ Q ↔ ab_Run X 217 126 (1, 0, 0) L (ab_I (ab_ok32 (fun x y => x &&& y) a b) :: st) σ Q := ab_r_iand kc_X13_bone dX13_bone_125
theorem rX13_bone_126 : ab_Run X 217 126 (1, 0, 0) L (ab_I x1 :: ab_R a :: st) σ Q ↔ ((ab_sh σ a).1 = 14 ∧ ab_cats st ≤ 8) ∧ ab_Do X 161 [ab_R a, ab_I x1] σ (fun r σ' => ab_Run X 217 129 (1, 0, 0) L (ab_psh r st) σ' Q) := ab_r_callV (w := [ab_I x1]) (as := [ab_I x1]) (b1 := (0, 0, 0)) 0 (Or.inl rfl) (by decide) ko_X13_bone qM_13_63 (by decide) rfl rfl rfl rfl rfl (by decide) (Nat.le_of_ble_eq_true rfl) kc_X13_bone dX13_bone_126
theorem rX13_bone_129 : ab_Run X 217 129 (1, 0, 0) L [ab_I v] σ Q ↔ Q (some (ab_I v)) σ := ab_r_ireturnI rfl kc_X13_bone dX13_bone_129
theorem kc_X13_thick : ab_code 218 = cX13_thick := rfl
theorem ko_X13_thick : ab_ow 218 = 13 := rfl
theorem rX13_thick_0 : ab_Run X 218 0 (2, 0, 0) [ab_R z, l1, l2, l3] st σ Q ↔ z ≠ 0 ∧ ab_Run X 218 1 (2, 0, 0) [ab_R z, l1, l2, l3] (ab_R z :: st) σ Q := ab_r_aload_n rfl kc_X13_thick dX13_thick_0
theorem rX13_thick_1 : ab_Run X 218 1 (2, 0, 0) L st σ Q ↔ ab_Run X 218 2 (2, 0, 0) L (ab_I 0 :: st) σ Q := ab_r_iconst (by decide) kc_X13_thick dX13_thick_1
theorem rX13_thick_2 : ab_Run X 218 2 (2, 0, 0) L (ab_I z :: ab_R a :: st) σ Q ↔ (ab_sh σ a).1 = 14 ∧ ab_Run X 218 5 (2, 0, 0) L st (ab_wr σ a 0 z) Q := sF_13_53 ko_X13_thick kc_X13_thick dX13_thick_2
theorem rX13_thick_5 : ab_Run X 218 5 (2, 0, 0) [ab_R z, l1, l2, l3] st σ Q ↔ z ≠ 0 ∧ ab_Run X 218 6 (2, 0, 0) [ab_R z, l1, l2, l3] (ab_R z :: st) σ Q := ab_r_aload_n rfl kc_X13_thick dX13_thick_5
theorem rX13_thick_6 : ab_Run X 218 6 (2, 0, 0) [l0, ab_I z, l2, l3] st σ Q ↔ ab_Run X 218 7 (2, 0, 0) [l0, ab_I z, l2, l3] (ab_I z :: st) σ Q := ab_r_iload_n rfl kc_X13_thick dX13_thick_6
theorem rX13_thick_7 : ab_Run X 218 7 (2, 0, 0) [l0, l1, ab_I z, l3] st σ Q ↔ ab_Run X 218 8 (2, 0, 0) [l0, l1, ab_I z, l3] (ab_I z :: st) σ Q := ab_r_iload_n rfl kc_X13_thick dX13_thick_7
theorem rX13_thick_8 : ab_Run X 218 8 (2, 0, 0) [l0, l1, l2, ab_I z] st σ Q ↔ ab_Run X 218 9 (2, 0, 0) [l0, l1, l2, ab_I z] (ab_I z :: st) σ Q := ab_r_iload_n rfl kc_X13_thick dX13_thick_8
theorem rX13_thick_9 : ab_Run X 218 9 (2, 0, 0) L (ab_I x3 :: ab_I x2 :: ab_I x1 :: ab_R a :: st) σ Q ↔ ((ab_sh σ a).1 = 14 ∧ ab_cats st ≤ 8) ∧ ab_Do X 215 [ab_R a, ab_I x1, ab_I x2, ab_I x3] σ (fun r σ' => ab_Run X 218 12 (2, 0, 0) L (ab_psh r st) σ' Q) := ab_r_callV (w := [ab_I x3, ab_I x2, ab_I x1]) (as := [ab_I x1, ab_I x2, ab_I x3]) (b1 := (1, 0, 0)) 0 (Or.inl rfl) (by decide) ko_X13_thick qM_13_446 (by decide) rfl rfl rfl rfl rfl (by decide) (Nat.le_of_ble_eq_true rfl) kc_X13_thick dX13_thick_9
theorem rX13_thick_12 : ab_Run X 218 12 (2, 0, 0) L (ab_I a :: st) σ Q ↔ (a = 0 → ab_Run X 218 32 (2, 0, 0) L st σ Q) ∧ (¬ (a = 0) → ab_Run X 218 15 (2, 0, 0) L st σ Q) := ab_r_if_eq rfl kc_X13_thick dX13_thick_12
theorem rX13_thick_15 : ab_Run X 218 15 (2, 0, 0) [ab_R z, l1, l2, l3] st σ Q ↔ z ≠ 0 ∧ ab_Run X 218 16 (2, 0, 0) [ab_R z, l1, l2, l3] (ab_R z :: st) σ Q := ab_r_aload_n rfl kc_X13_thick dX13_thick_15
theorem rX13_thick_16 : ab_Run X 218 16 (2, 0, 0) [ab_R z, l1, l2, l3] st σ Q ↔ z ≠ 0 ∧ ab_Run X 218 17 (2, 0, 0) [ab_R z, l1, l2, l3] (ab_R z :: st) σ Q := ab_r_aload_n rfl kc_X13_thick dX13_thick_16
theorem rX13_thick_17 : ab_Run X 218 17 (2, 0, 0) L (ab_R a :: st) σ Q ↔ (ab_sh σ a).1 = 14 ∧ ab_Run X 218 20 (2, 0, 0) L (ab_R (ab_rd σ a 3) :: st) σ Q := gF_13_373 ko_X13_thick kc_X13_thick dX13_thick_17
theorem rX13_thick_20 : ab_Run X 218 20 (2, 0, 0) [l0, ab_I z, l2, l3] st σ Q ↔ ab_Run X 218 21 (2, 0, 0) [l0, ab_I z, l2, l3] (ab_I z :: st) σ Q := ab_r_iload_n rfl kc_X13_thick dX13_thick_20
theorem rX13_thick_21 : ab_Run X 218 21 (2, 0, 0) [l0, l1, ab_I z, l3] st σ Q ↔ ab_Run X 218 22 (2, 0, 0) [l0, l1, ab_I z, l3] (ab_I z :: st) σ Q := ab_r_iload_n rfl kc_X13_thick dX13_thick_21
theorem rX13_thick_22 : ab_Run X 218 22 (2, 0, 0) [l0, l1, l2, ab_I z] st σ Q ↔ ab_Run X 218 23 (2, 0, 0) [l0, l1, l2, ab_I z] (ab_I z :: st) σ Q := ab_r_iload_n rfl kc_X13_thick dX13_thick_22
theorem rX13_thick_23 : ab_Run X 218 23 (2, 0, 0) L (ab_I x3 :: ab_I x2 :: ab_I x1 :: ab_R a :: st) σ Q ↔ ((ab_sh σ a).1 = 13 ∧ ab_cats st ≤ 8) ∧ ab_Do X 155 [ab_R a, ab_I x1, ab_I x2, ab_I x3] σ (fun r σ' => ab_Run X 218 26 (2, 0, 0) L (ab_psh r st) σ' Q) := ab_r_callV (w := [ab_I x3, ab_I x2, ab_I x1]) (as := [ab_I x1, ab_I x2, ab_I x3]) (b1 := (0, 0, 0)) 0 (Or.inl rfl) (by decide) ko_X13_thick qM_13_400 (by decide) rfl rfl rfl rfl rfl (by decide) (Nat.le_of_ble_eq_true rfl) kc_X13_thick dX13_thick_23
theorem rX13_thick_26 : ab_Run X 218 26 (2, 0, 0) L (ab_I x1 :: ab_R a :: st) σ Q ↔ ((ab_sh σ a).1 = 14 ∧ ab_cats st ≤ 8) ∧ ab_Do X 161 [ab_R a, ab_I x1] σ (fun r σ' => ab_Run X 218 29 (2, 0, 0) L (ab_psh r st) σ' Q) := ab_r_callV (w := [ab_I x1]) (as := [ab_I x1]) (b1 := (0, 0, 0)) 0 (Or.inl rfl) (by decide) ko_X13_thick qM_13_63 (by decide) rfl rfl rfl rfl rfl (by decide) (Nat.le_of_ble_eq_true rfl) kc_X13_thick dX13_thick_26
theorem rX13_thick_29 : ab_Run X 218 29 (2, 0, 0) L st σ Q ↔ ab_Run X 218 37 (2, 0, 0) L st σ Q := ab_r_goto rfl kc_X13_thick dX13_thick_29
theorem rX13_thick_32 : ab_Run X 218 32 (2, 0, 0) [ab_R z, l1, l2, l3] st σ Q ↔ z ≠ 0 ∧ ab_Run X 218 33 (2, 0, 0) [ab_R z, l1, l2, l3] (ab_R z :: st) σ Q := ab_r_aload_n rfl kc_X13_thick dX13_thick_32
theorem rX13_thick_33 : ab_Run X 218 33 (2, 0, 0) L st σ Q ↔ ab_Run X 218 34 (2, 0, 0) L (ab_I 1 :: st) σ Q := ab_r_iconst (by decide) kc_X13_thick dX13_thick_33
theorem rX13_thick_34 : ab_Run X 218 34 (2, 0, 0) L (ab_I x1 :: ab_R a :: st) σ Q ↔ ((ab_sh σ a).1 = 14 ∧ ab_cats st ≤ 8) ∧ ab_Do X 159 [ab_R a, ab_I x1] σ (fun r σ' => ab_Run X 218 37 (2, 0, 0) L (ab_psh r st) σ' Q) := ab_r_callV (w := [ab_I x1]) (as := [ab_I x1]) (b1 := (0, 0, 0)) 0 (Or.inl rfl) (by decide) ko_X13_thick qM_13_59 (by decide) rfl rfl rfl rfl rfl (by decide) (Nat.le_of_ble_eq_true rfl) kc_X13_thick dX13_thick_34
theorem rX13_thick_37 : ab_Run X 218 37 (2, 0, 0) L [ab_I v] σ Q ↔ Q (some (ab_I v)) σ := ab_r_ireturnI rfl kc_X13_thick dX13_thick_37
theorem kc_X13_wonBy : ab_code 219 = cX13_wonBy := rfl
theorem ko_X13_wonBy : ab_ow 219 = 13 := rfl
theorem rX13_wonBy_0 : ab_Run X 219 0 (0, 0, 0) L st σ Q ↔ ab_Run X 219 1 (0, 0, 0) L (ab_I 0 :: st) σ Q := ab_r_iconst (by decide) kc_X13_wonBy dX13_wonBy_0
theorem rX13_wonBy_1 : ab_Run X 219 1 (0, 0, 0) [l0, l1, l2, l3] (ab_I z :: st) σ Q ↔ (!ab_isJ l1) = true ∧ ab_Run X 219 2 (0, 0, 0) [l0, l1, ab_I z, l3] st σ Q := ab_r_istore_n (Nat.le_of_ble_eq_true rfl) kc_X13_wonBy dX13_wonBy_1
theorem rX13_wonBy_2 : ab_Run X 219 2 (0, 0, 0) L st σ Q ↔ ab_Run X 219 3 (0, 0, 0) L (ab_I 0 :: st) σ Q := ab_r_iconst (by decide) kc_X13_wonBy dX13_wonBy_2
theorem rX13_wonBy_3 : ab_Run X 219 3 (0, 0, 0) [l0, l1, l2, l3] (ab_I z :: st) σ Q ↔ (!ab_isJ l2) = true ∧ ab_Run X 219 4 (0, 0, 0) [l0, l1, l2, ab_I z] st σ Q := ab_r_istore_n (Nat.le_of_ble_eq_true rfl) kc_X13_wonBy dX13_wonBy_3
theorem rX13_wonBy_4 : ab_Run X 219 4 (0, 0, 0) [l0, l1, l2, ab_I z] st σ Q ↔ ab_Run X 219 5 (0, 0, 0) [l0, l1, l2, ab_I z] (ab_I z :: st) σ Q := ab_r_iload_n rfl kc_X13_wonBy dX13_wonBy_4
theorem rX13_wonBy_5 : ab_Run X 219 5 (0, 0, 0) [ab_R z, l1, l2, l3] st σ Q ↔ z ≠ 0 ∧ ab_Run X 219 6 (0, 0, 0) [ab_R z, l1, l2, l3] (ab_R z :: st) σ Q := ab_r_aload_n rfl kc_X13_wonBy dX13_wonBy_5
theorem rX13_wonBy_6 : ab_Run X 219 6 (0, 0, 0) L (ab_R a :: st) σ Q ↔ (ab_sh σ a).1 = 14 ∧ ab_Run X 219 9 (0, 0, 0) L (ab_R (ab_rd σ a 3) :: st) σ Q := gF_13_373 ko_X13_wonBy kc_X13_wonBy dX13_wonBy_6
theorem rX13_wonBy_9 : ab_Run X 219 9 (0, 0, 0) L (ab_R a :: st) σ Q ↔ (ab_sh σ a).1 = 13 ∧ ab_Run X 219 12 (0, 0, 0) L (ab_I (ab_rd σ a 8) :: st) σ Q := gF_13_334 ko_X13_wonBy kc_X13_wonBy dX13_wonBy_9
theorem rX13_wonBy_12 : ab_Run X 219 12 (0, 0, 0) L (ab_I b :: ab_I a :: st) σ Q ↔ (b ≤ a → ab_Run X 219 42 (0, 0, 0) L st σ Q) ∧ (¬ (b ≤ a) → ab_Run X 219 15 (0, 0, 0) L st σ Q) := ab_r_icmp_ge rfl kc_X13_wonBy dX13_wonBy_12
theorem rX13_wonBy_15 : ab_Run X 219 15 (0, 0, 0) [l0, l1, ab_I z, l3] st σ Q ↔ ab_Run X 219 16 (0, 0, 0) [l0, l1, ab_I z, l3] (ab_I z :: st) σ Q := ab_r_iload_n rfl kc_X13_wonBy dX13_wonBy_15
theorem rX13_wonBy_16 : ab_Run X 219 16 (0, 0, 0) [ab_R z, l1, l2, l3] st σ Q ↔ z ≠ 0 ∧ ab_Run X 219 17 (0, 0, 0) [ab_R z, l1, l2, l3] (ab_R z :: st) σ Q := ab_r_aload_n rfl kc_X13_wonBy dX13_wonBy_16
theorem rX13_wonBy_17 : ab_Run X 219 17 (0, 0, 0) L (ab_R a :: st) σ Q ↔ (ab_sh σ a).1 = 14 ∧ ab_Run X 219 20 (0, 0, 0) L (ab_R (ab_rd σ a 3) :: st) σ Q := gF_13_373 ko_X13_wonBy kc_X13_wonBy dX13_wonBy_17
theorem rX13_wonBy_20 : ab_Run X 219 20 (0, 0, 0) L (ab_R a :: st) σ Q ↔ (ab_sh σ a).1 = 13 ∧ ab_Run X 219 23 (0, 0, 0) L (ab_R (ab_rd σ a 22) :: st) σ Q := gF_13_340 ko_X13_wonBy kc_X13_wonBy dX13_wonBy_20
theorem rX13_wonBy_23 : ab_Run X 219 23 (0, 0, 0) [l0, l1, l2, ab_I z] st σ Q ↔ ab_Run X 219 24 (0, 0, 0) [l0, l1, l2, ab_I z] (ab_I z :: st) σ Q := ab_r_iload_n rfl kc_X13_wonBy dX13_wonBy_23
theorem rX13_wonBy_24 : ab_Run X 219 24 (0, 0, 0) L (ab_I i :: ab_R a :: st) σ Q ↔ ((ab_sh σ a).1 = 21 ∧ 0 ≤ i ∧ i < (ab_sh σ a).2) ∧ ab_Run X 219 25 (0, 0, 0) L (ab_I (ab_rd σ a i) :: st) σ Q := ab_r_iaload (by decide) kc_X13_wonBy dX13_wonBy_24
theorem rX13_wonBy_25 : ab_Run X 219 25 (0, 0, 0) [l0, ab_I z, l2, l3] st σ Q ↔ ab_Run X 219 26 (0, 0, 0) [l0, ab_I z, l2, l3] (ab_I z :: st) σ Q := ab_r_iload_n rfl kc_X13_wonBy dX13_wonBy_25
theorem rX13_wonBy_26 : ab_Run X 219 26 (0, 0, 0) L (ab_I b :: ab_I a :: st) σ Q ↔ (¬ a = b → ab_Run X 219 33 (0, 0, 0) L st σ Q) ∧ (¬ (¬ a = b) → ab_Run X 219 29 (0, 0, 0) L st σ Q) := ab_r_icmp_ne rfl kc_X13_wonBy dX13_wonBy_26
theorem rX13_wonBy_29 : ab_Run X 219 29 (0, 0, 0) L st σ Q ↔ ab_Run X 219 30 (0, 0, 0) L (ab_I 1 :: st) σ Q := ab_r_iconst (by decide) kc_X13_wonBy dX13_wonBy_29
theorem rX13_wonBy_30 : ab_Run X 219 30 (0, 0, 0) L st σ Q ↔ ab_Run X 219 34 (0, 0, 0) L st σ Q := ab_r_goto rfl kc_X13_wonBy dX13_wonBy_30
theorem rX13_wonBy_33 : ab_Run X 219 33 (0, 0, 0) L st σ Q ↔ ab_Run X 219 34 (0, 0, 0) L (ab_I 0 :: st) σ Q := ab_r_iconst (by decide) kc_X13_wonBy dX13_wonBy_33
theorem rX13_wonBy_34 : ab_Run X 219 34 (0, 0, 0) L (ab_I b :: ab_I a :: st) σ Q ↔ ab_Run X 219 35 (0, 0, 0) L (ab_I (ab_w32 (a + b)) :: st) σ Q := ab_r_iadd kc_X13_wonBy dX13_wonBy_34
theorem rX13_wonBy_35 : ab_Run X 219 35 (0, 0, 0) [l0, l1, l2, l3] (ab_I z :: st) σ Q ↔ (!ab_isJ l1) = true ∧ ab_Run X 219 36 (0, 0, 0) [l0, l1, ab_I z, l3] st σ Q := ab_r_istore_n (Nat.le_of_ble_eq_true rfl) kc_X13_wonBy dX13_wonBy_35
theorem rX13_wonBy_36 : ab_Run X 219 36 (0, 0, 0) [l0, l1, l2, ab_I z] st σ Q ↔ (!ab_isJ l2) = true ∧ ab_Run X 219 39 (0, 0, 0) [l0, l1, l2, ab_I (ab_w32 (z + 1))] st σ Q := ab_r_iinc rfl (by decide) kc_X13_wonBy dX13_wonBy_36
theorem rX13_wonBy_39 : ab_Run X 219 39 (0, 0, 0) L st σ Q ↔ ab_Run X 219 4 (0, 0, 0) L st σ Q := ab_r_goto rfl kc_X13_wonBy dX13_wonBy_39
theorem rX13_wonBy_42 : ab_Run X 219 42 (0, 0, 0) [l0, l1, ab_I z, l3] st σ Q ↔ ab_Run X 219 43 (0, 0, 0) [l0, l1, ab_I z, l3] (ab_I z :: st) σ Q := ab_r_iload_n rfl kc_X13_wonBy dX13_wonBy_42
theorem rX13_wonBy_43 : ab_Run X 219 43 (0, 0, 0) L [ab_I v] σ Q ↔ Q (some (ab_I v)) σ := ab_r_ireturnI rfl kc_X13_wonBy dX13_wonBy_43
theorem kc_X13_pullsOf : ab_code 220 = cX13_pullsOf := rfl
theorem ko_X13_pullsOf : ab_ow 220 = 13 := rfl
theorem rX13_pullsOf_0 : ab_Run X 220 0 (1, 0, 0) [ab_R z, l1, l2, l3] st σ Q ↔ z ≠ 0 ∧ ab_Run X 220 1 (1, 0, 0) [ab_R z, l1, l2, l3] (ab_R z :: st) σ Q := ab_r_aload_n rfl kc_X13_pullsOf dX13_pullsOf_0
theorem rX13_pullsOf_1 : ab_Run X 220 1 (1, 0, 0) [l0, ab_I z, l2, l3] st σ Q ↔ ab_Run X 220 2 (1, 0, 0) [l0, ab_I z, l2, l3] (ab_I z :: st) σ Q := ab_r_iload_n rfl kc_X13_pullsOf dX13_pullsOf_1
theorem rX13_pullsOf_2 : ab_Run X 220 2 (1, 0, 0) L (ab_I x1 :: ab_R a :: st) σ Q ↔ ((ab_sh σ a).1 = 14 ∧ ab_cats st ≤ 8) ∧ ab_Do X 219 [ab_R a, ab_I x1] σ (fun r σ' => ab_Run X 220 5 (1, 0, 0) L (ab_psh r st) σ' Q) := ab_r_callV (w := [ab_I x1]) (as := [ab_I x1]) (b1 := (0, 0, 0)) 0 (Or.inl rfl) (by decide) ko_X13_pullsOf qM_13_449 (by decide) rfl rfl rfl rfl rfl (by decide) (Nat.le_of_ble_eq_true rfl) kc_X13_pullsOf dX13_pullsOf_2
theorem rX13_pullsOf_5 : ab_Run X 220 5 (1, 0, 0) [l0, l1, l2, l3] (ab_I z :: st) σ Q ↔ (!ab_isJ l1) = true ∧ ab_Run X 220 6 (1, 0, 0) [l0, l1, ab_I z, l3] st σ Q := ab_r_istore_n (Nat.le_of_ble_eq_true rfl) kc_X13_pullsOf dX13_pullsOf_5
theorem rX13_pullsOf_6 : ab_Run X 220 6 (1, 0, 0) L st σ Q ↔ ab_Run X 220 7 (1, 0, 0) L (ab_I 0 :: st) σ Q := ab_r_iconst (by decide) kc_X13_pullsOf dX13_pullsOf_6
theorem rX13_pullsOf_7 : ab_Run X 220 7 (1, 0, 0) [l0, l1, l2, l3] (ab_I z :: st) σ Q ↔ (!ab_isJ l2) = true ∧ ab_Run X 220 8 (1, 0, 0) [l0, l1, l2, ab_I z] st σ Q := ab_r_istore_n (Nat.le_of_ble_eq_true rfl) kc_X13_pullsOf dX13_pullsOf_7
theorem rX13_pullsOf_8 : ab_Run X 220 8 (1, 0, 0) [l0, l1, l2, ab_I z] st σ Q ↔ ab_Run X 220 9 (1, 0, 0) [l0, l1, l2, ab_I z] (ab_I z :: st) σ Q := ab_r_iload_n rfl kc_X13_pullsOf dX13_pullsOf_8
theorem rX13_pullsOf_9 : ab_Run X 220 9 (1, 0, 0) [ab_R z, l1, l2, l3] st σ Q ↔ z ≠ 0 ∧ ab_Run X 220 10 (1, 0, 0) [ab_R z, l1, l2, l3] (ab_R z :: st) σ Q := ab_r_aload_n rfl kc_X13_pullsOf dX13_pullsOf_9
theorem rX13_pullsOf_10 : ab_Run X 220 10 (1, 0, 0) L (ab_R a :: st) σ Q ↔ (ab_sh σ a).1 = 14 ∧ ab_Run X 220 13 (1, 0, 0) L (ab_R (ab_rd σ a 3) :: st) σ Q := gF_13_373 ko_X13_pullsOf kc_X13_pullsOf dX13_pullsOf_10
theorem rX13_pullsOf_13 : ab_Run X 220 13 (1, 0, 0) L (ab_R a :: st) σ Q ↔ (ab_sh σ a).1 = 13 ∧ ab_Run X 220 16 (1, 0, 0) L (ab_I (ab_rd σ a 8) :: st) σ Q := gF_13_334 ko_X13_pullsOf kc_X13_pullsOf dX13_pullsOf_13
theorem rX13_pullsOf_16 : ab_Run X 220 16 (1, 0, 0) L (ab_I b :: ab_I a :: st) σ Q ↔ (b ≤ a → ab_Run X 220 46 (1, 0, 0) L st σ Q) ∧ (¬ (b ≤ a) → ab_Run X 220 19 (1, 0, 0) L st σ Q) := ab_r_icmp_ge rfl kc_X13_pullsOf dX13_pullsOf_16
theorem rX13_pullsOf_19 : ab_Run X 220 19 (1, 0, 0) [l0, l1, ab_I z, l3] st σ Q ↔ ab_Run X 220 20 (1, 0, 0) [l0, l1, ab_I z, l3] (ab_I z :: st) σ Q := ab_r_iload_n rfl kc_X13_pullsOf dX13_pullsOf_19
theorem rX13_pullsOf_20 : ab_Run X 220 20 (1, 0, 0) [ab_R z, l1, l2, l3] st σ Q ↔ z ≠ 0 ∧ ab_Run X 220 21 (1, 0, 0) [ab_R z, l1, l2, l3] (ab_R z :: st) σ Q := ab_r_aload_n rfl kc_X13_pullsOf dX13_pullsOf_20
theorem rX13_pullsOf_21 : ab_Run X 220 21 (1, 0, 0) L (ab_R a :: st) σ Q ↔ (ab_sh σ a).1 = 14 ∧ ab_Run X 220 24 (1, 0, 0) L (ab_R (ab_rd σ a 3) :: st) σ Q := gF_13_373 ko_X13_pullsOf kc_X13_pullsOf dX13_pullsOf_21
theorem rX13_pullsOf_24 : ab_Run X 220 24 (1, 0, 0) L (ab_R a :: st) σ Q ↔ (ab_sh σ a).1 = 13 ∧ ab_Run X 220 27 (1, 0, 0) L (ab_R (ab_rd σ a 23) :: st) σ Q := gF_13_343 ko_X13_pullsOf kc_X13_pullsOf dX13_pullsOf_24
theorem rX13_pullsOf_27 : ab_Run X 220 27 (1, 0, 0) [l0, l1, l2, ab_I z] st σ Q ↔ ab_Run X 220 28 (1, 0, 0) [l0, l1, l2, ab_I z] (ab_I z :: st) σ Q := ab_r_iload_n rfl kc_X13_pullsOf dX13_pullsOf_27
theorem rX13_pullsOf_28 : ab_Run X 220 28 (1, 0, 0) L (ab_I i :: ab_R a :: st) σ Q ↔ ((ab_sh σ a).1 = 21 ∧ 0 ≤ i ∧ i < (ab_sh σ a).2) ∧ ab_Run X 220 29 (1, 0, 0) L (ab_I (ab_rd σ a i) :: st) σ Q := ab_r_iaload (by decide) kc_X13_pullsOf dX13_pullsOf_28
theorem rX13_pullsOf_29 : ab_Run X 220 29 (1, 0, 0) [l0, ab_I z, l2, l3] st σ Q ↔ ab_Run X 220 30 (1, 0, 0) [l0, ab_I z, l2, l3] (ab_I z :: st) σ Q := ab_r_iload_n rfl kc_X13_pullsOf dX13_pullsOf_29
theorem rX13_pullsOf_30 : ab_Run X 220 30 (1, 0, 0) L (ab_I b :: ab_I a :: st) σ Q ↔ (¬ a = b → ab_Run X 220 37 (1, 0, 0) L st σ Q) ∧ (¬ (¬ a = b) → ab_Run X 220 33 (1, 0, 0) L st σ Q) := ab_r_icmp_ne rfl kc_X13_pullsOf dX13_pullsOf_30
theorem rX13_pullsOf_33 : ab_Run X 220 33 (1, 0, 0) L st σ Q ↔ ab_Run X 220 34 (1, 0, 0) L (ab_I 1 :: st) σ Q := ab_r_iconst (by decide) kc_X13_pullsOf dX13_pullsOf_33
theorem rX13_pullsOf_34 : ab_Run X 220 34 (1, 0, 0) L st σ Q ↔ ab_Run X 220 38 (1, 0, 0) L st σ Q := ab_r_goto rfl kc_X13_pullsOf dX13_pullsOf_34
theorem rX13_pullsOf_37 : ab_Run X 220 37 (1, 0, 0) L st σ Q ↔ ab_Run X 220 38 (1, 0, 0) L (ab_I 0 :: st) σ Q := ab_r_iconst (by decide) kc_X13_pullsOf dX13_pullsOf_37
theorem rX13_pullsOf_38 : ab_Run X 220 38 (1, 0, 0) L (ab_I b :: ab_I a :: st) σ Q ↔ ab_Run X 220 39 (1, 0, 0) L (ab_I (ab_w32 (a + b)) :: st) σ Q := ab_r_iadd kc_X13_pullsOf dX13_pullsOf_38
theorem rX13_pullsOf_39 : ab_Run X 220 39 (1, 0, 0) [l0, l1, l2, l3] (ab_I z :: st) σ Q ↔ (!ab_isJ l1) = true ∧ ab_Run X 220 40 (1, 0, 0) [l0, l1, ab_I z, l3] st σ Q := ab_r_istore_n (Nat.le_of_ble_eq_true rfl) kc_X13_pullsOf dX13_pullsOf_39
theorem rX13_pullsOf_40 : ab_Run X 220 40 (1, 0, 0) [l0, l1, l2, ab_I z] st σ Q ↔ (!ab_isJ l2) = true ∧ ab_Run X 220 43 (1, 0, 0) [l0, l1, l2, ab_I (ab_w32 (z + 1))] st σ Q := ab_r_iinc rfl (by decide) kc_X13_pullsOf dX13_pullsOf_40
theorem rX13_pullsOf_43 : ab_Run X 220 43 (1, 0, 0) L st σ Q ↔ ab_Run X 220 8 (1, 0, 0) L st σ Q := ab_r_goto rfl kc_X13_pullsOf dX13_pullsOf_43
theorem rX13_pullsOf_46 : ab_Run X 220 46 (1, 0, 0) [l0, l1, ab_I z, l3] st σ Q ↔ ab_Run X 220 47 (1, 0, 0) [l0, l1, ab_I z, l3] (ab_I z :: st) σ Q := ab_r_iload_n rfl kc_X13_pullsOf dX13_pullsOf_46
theorem rX13_pullsOf_47 : ab_Run X 220 47 (1, 0, 0) L [ab_I v] σ Q ↔ Q (some (ab_I v)) σ := ab_r_ireturnI rfl kc_X13_pullsOf dX13_pullsOf_47
theorem kc_X13_person : ab_code 221 = cX13_person := rfl
theorem ko_X13_person : ab_ow 221 = 13 := rfl
theorem rX13_person_0 : ab_Run X 221 0 (2, 0, 0) [ab_R z, l1, l2] st σ Q ↔ z ≠ 0 ∧ ab_Run X 221 1 (2, 0, 0) [ab_R z, l1, l2] (ab_R z :: st) σ Q := ab_r_aload_n rfl kc_X13_person dX13_person_0
theorem rX13_person_1 : ab_Run X 221 1 (2, 0, 0) L st σ Q ↔ ab_Run X 221 2 (2, 0, 0) L (ab_I 0 :: st) σ Q := ab_r_iconst (by decide) kc_X13_person dX13_person_1
theorem rX13_person_2 : ab_Run X 221 2 (2, 0, 0) L (ab_I z :: ab_R a :: st) σ Q ↔ (ab_sh σ a).1 = 14 ∧ ab_Run X 221 5 (2, 0, 0) L st (ab_wr σ a 0 z) Q := sF_13_53 ko_X13_person kc_X13_person dX13_person_2
theorem rX13_person_5 : ab_Run X 221 5 (2, 0, 0) [ab_R z, l1, l2] st σ Q ↔ z ≠ 0 ∧ ab_Run X 221 6 (2, 0, 0) [ab_R z, l1, l2] (ab_R z :: st) σ Q := ab_r_aload_n rfl kc_X13_person dX13_person_5
theorem rX13_person_6 : ab_Run X 221 6 (2, 0, 0) [l0, ab_I z, l2] st σ Q ↔ ab_Run X 221 7 (2, 0, 0) [l0, ab_I z, l2] (ab_I z :: st) σ Q := ab_r_iload_n rfl kc_X13_person dX13_person_6
theorem rX13_person_7 : ab_Run X 221 7 (2, 0, 0) L (ab_I x1 :: ab_R a :: st) σ Q ↔ ((ab_sh σ a).1 = 14 ∧ ab_cats st ≤ 8) ∧ ab_Do X 213 [ab_R a, ab_I x1] σ (fun r σ' => ab_Run X 221 10 (2, 0, 0) L (ab_psh r st) σ' Q) := ab_r_callV (w := [ab_I x1]) (as := [ab_I x1]) (b1 := (0, 0, 0)) 0 (Or.inl rfl) (by decide) ko_X13_person qM_13_441 (by decide) rfl rfl rfl rfl rfl (by decide) (Nat.le_of_ble_eq_true rfl) kc_X13_person dX13_person_7
theorem rX13_person_10 : ab_Run X 221 10 (2, 0, 0) L (ab_I a :: st) σ Q ↔ (a = 0 → ab_Run X 221 23 (2, 0, 0) L st σ Q) ∧ (¬ (a = 0) → ab_Run X 221 13 (2, 0, 0) L st σ Q) := ab_r_if_eq rfl kc_X13_person dX13_person_10
theorem rX13_person_13 : ab_Run X 221 13 (2, 0, 0) [l0, l1, ab_I z] st σ Q ↔ ab_Run X 221 14 (2, 0, 0) [l0, l1, ab_I z] (ab_I z :: st) σ Q := ab_r_iload_n rfl kc_X13_person dX13_person_13
theorem rX13_person_14 : ab_Run X 221 14 (2, 0, 0) L st σ Q ↔ ab_Run X 221 15 (2, 0, 0) L (ab_I 0 :: st) σ Q := ab_r_iconst (by decide) kc_X13_person dX13_person_14
theorem rX13_person_15 : ab_Run X 221 15 (2, 0, 0) L st σ Q ↔ ab_Run X 221 17 (2, 0, 0) L (ab_I 6 :: st) σ Q := ab_r_bipush (by decide) kc_X13_person dX13_person_15
theorem rX13_person_17 : ab_Run X 221 17 (2, 0, 0) L (ab_I x3 :: ab_I x2 :: ab_I x1 :: st) σ Q ↔ ab_cats st ≤ 8 ∧ ab_Do X 163 [ab_I x1, ab_I x2, ab_I x3] σ (fun r σ' => ab_Run X 221 20 (2, 0, 0) L (ab_psh r st) σ' Q) := ab_r_callS (w := [ab_I x3, ab_I x2, ab_I x1]) (as := [ab_I x1, ab_I x2, ab_I x3]) (b1 := (0, 0, 0)) (by decide) ko_X13_person qM_13_138 (by decide) rfl rfl rfl rfl (by decide) (Nat.le_of_ble_eq_true rfl) kc_X13_person dX13_person_17
theorem rX13_person_20 : ab_Run X 221 20 (2, 0, 0) L (ab_I a :: st) σ Q ↔ (¬ a = 0 → ab_Run X 221 29 (2, 0, 0) L st σ Q) ∧ (¬ (¬ a = 0) → ab_Run X 221 23 (2, 0, 0) L st σ Q) := ab_r_if_ne rfl kc_X13_person dX13_person_20
theorem rX13_person_23 : ab_Run X 221 23 (2, 0, 0) [ab_R z, l1, l2] st σ Q ↔ z ≠ 0 ∧ ab_Run X 221 24 (2, 0, 0) [ab_R z, l1, l2] (ab_R z :: st) σ Q := ab_r_aload_n rfl kc_X13_person dX13_person_23
theorem rX13_person_24 : ab_Run X 221 24 (2, 0, 0) L st σ Q ↔ ab_Run X 221 25 (2, 0, 0) L (ab_I 1 :: st) σ Q := ab_r_iconst (by decide) kc_X13_person dX13_person_24
theorem rX13_person_25 : ab_Run X 221 25 (2, 0, 0) L (ab_I x1 :: ab_R a :: st) σ Q ↔ ((ab_sh σ a).1 = 14 ∧ ab_cats st ≤ 8) ∧ ab_Do X 159 [ab_R a, ab_I x1] σ (fun r σ' => ab_Run X 221 28 (2, 0, 0) L (ab_psh r st) σ' Q) := ab_r_callV (w := [ab_I x1]) (as := [ab_I x1]) (b1 := (0, 0, 0)) 0 (Or.inl rfl) (by decide) ko_X13_person qM_13_59 (by decide) rfl rfl rfl rfl rfl (by decide) (Nat.le_of_ble_eq_true rfl) kc_X13_person dX13_person_25
theorem rX13_person_28 : ab_Run X 221 28 (2, 0, 0) L [ab_I v] σ Q ↔ Q (some (ab_I v)) σ := ab_r_ireturnI rfl kc_X13_person dX13_person_28
theorem rX13_person_29 : ab_Run X 221 29 (2, 0, 0) [l0, l1, ab_I z] st σ Q ↔ ab_Run X 221 30 (2, 0, 0) [l0, l1, ab_I z] (ab_I z :: st) σ Q := ab_r_iload_n rfl kc_X13_person dX13_person_29
theorem rX13_person_30_0 : ab_Run X 221 30 (2, 0, 0) L (ab_I 0 :: st) σ Q ↔ ab_Run X 221 68 (2, 0, 0) L st σ Q := ab_r_tsw (by decide) rfl rfl kc_X13_person dX13_person_30
theorem rX13_person_30_1 : ab_Run X 221 30 (2, 0, 0) L (ab_I 1 :: st) σ Q ↔ ab_Run X 221 82 (2, 0, 0) L st σ Q := ab_r_tsw (by decide) rfl rfl kc_X13_person dX13_person_30
theorem rX13_person_30_2 : ab_Run X 221 30 (2, 0, 0) L (ab_I 2 :: st) σ Q ↔ ab_Run X 221 96 (2, 0, 0) L st σ Q := ab_r_tsw (by decide) rfl rfl kc_X13_person dX13_person_30
theorem rX13_person_30_3 : ab_Run X 221 30 (2, 0, 0) L (ab_I 3 :: st) σ Q ↔ ab_Run X 221 110 (2, 0, 0) L st σ Q := ab_r_tsw (by decide) rfl rfl kc_X13_person dX13_person_30
theorem rX13_person_30_4 : ab_Run X 221 30 (2, 0, 0) L (ab_I 4 :: st) σ Q ↔ ab_Run X 221 124 (2, 0, 0) L st σ Q := ab_r_tsw (by decide) rfl rfl kc_X13_person dX13_person_30
theorem rX13_person_30_5 : ab_Run X 221 30 (2, 0, 0) L (ab_I 5 :: st) σ Q ↔ ab_Run X 221 134 (2, 0, 0) L st σ Q := ab_r_tsw (by decide) rfl rfl kc_X13_person dX13_person_30
theorem rX13_person_30_d (h : a < 0 ∨ 5 < a) : ab_Run X 221 30 (2, 0, 0) L (ab_I a :: st) σ Q ↔ ab_Run X 221 144 (2, 0, 0) L st σ Q := ab_r_tswd h rfl kc_X13_person dX13_person_30
theorem rX13_person_68 : ab_Run X 221 68 (2, 0, 0) [ab_R z, l1, l2] st σ Q ↔ z ≠ 0 ∧ ab_Run X 221 69 (2, 0, 0) [ab_R z, l1, l2] (ab_R z :: st) σ Q := ab_r_aload_n rfl kc_X13_person dX13_person_68
theorem rX13_person_69 : ab_Run X 221 69 (2, 0, 0) [ab_R z, l1, l2] st σ Q ↔ z ≠ 0 ∧ ab_Run X 221 70 (2, 0, 0) [ab_R z, l1, l2] (ab_R z :: st) σ Q := ab_r_aload_n rfl kc_X13_person dX13_person_69
theorem rX13_person_70 : ab_Run X 221 70 (2, 0, 0) L (ab_R a :: st) σ Q ↔ (ab_sh σ a).1 = 14 ∧ ab_Run X 221 73 (2, 0, 0) L (ab_R (ab_rd σ a 3) :: st) σ Q := gF_13_373 ko_X13_person kc_X13_person dX13_person_70
theorem rX13_person_73 : ab_Run X 221 73 (2, 0, 0) L (ab_R a :: st) σ Q ↔ (ab_sh σ a).1 = 13 ∧ ab_Run X 221 76 (2, 0, 0) L (ab_R (ab_rd σ a 16) :: st) σ Q := gF_13_307 ko_X13_person kc_X13_person dX13_person_73
theorem rX13_person_76 : ab_Run X 221 76 (2, 0, 0) [l0, ab_I z, l2] st σ Q ↔ ab_Run X 221 77 (2, 0, 0) [l0, ab_I z, l2] (ab_I z :: st) σ Q := ab_r_iload_n rfl kc_X13_person dX13_person_76
theorem rX13_person_77 : ab_Run X 221 77 (2, 0, 0) L (ab_I i :: ab_R a :: st) σ Q ↔ ((ab_sh σ a).1 = 21 ∧ 0 ≤ i ∧ i < (ab_sh σ a).2) ∧ ab_Run X 221 78 (2, 0, 0) L (ab_I (ab_rd σ a i) :: st) σ Q := ab_r_iaload (by decide) kc_X13_person dX13_person_77
theorem rX13_person_78 : ab_Run X 221 78 (2, 0, 0) L (ab_I x1 :: ab_R a :: st) σ Q ↔ ((ab_sh σ a).1 = 14 ∧ ab_cats st ≤ 8) ∧ ab_Do X 161 [ab_R a, ab_I x1] σ (fun r σ' => ab_Run X 221 81 (2, 0, 0) L (ab_psh r st) σ' Q) := ab_r_callV (w := [ab_I x1]) (as := [ab_I x1]) (b1 := (0, 0, 0)) 0 (Or.inl rfl) (by decide) ko_X13_person qM_13_63 (by decide) rfl rfl rfl rfl rfl (by decide) (Nat.le_of_ble_eq_true rfl) kc_X13_person dX13_person_78
theorem rX13_person_81 : ab_Run X 221 81 (2, 0, 0) L [ab_I v] σ Q ↔ Q (some (ab_I v)) σ := ab_r_ireturnI rfl kc_X13_person dX13_person_81
theorem rX13_person_82 : ab_Run X 221 82 (2, 0, 0) [ab_R z, l1, l2] st σ Q ↔ z ≠ 0 ∧ ab_Run X 221 83 (2, 0, 0) [ab_R z, l1, l2] (ab_R z :: st) σ Q := ab_r_aload_n rfl kc_X13_person dX13_person_82
theorem rX13_person_83 : ab_Run X 221 83 (2, 0, 0) [ab_R z, l1, l2] st σ Q ↔ z ≠ 0 ∧ ab_Run X 221 84 (2, 0, 0) [ab_R z, l1, l2] (ab_R z :: st) σ Q := ab_r_aload_n rfl kc_X13_person dX13_person_83
theorem rX13_person_84 : ab_Run X 221 84 (2, 0, 0) L (ab_R a :: st) σ Q ↔ (ab_sh σ a).1 = 14 ∧ ab_Run X 221 87 (2, 0, 0) L (ab_R (ab_rd σ a 3) :: st) σ Q := gF_13_373 ko_X13_person kc_X13_person dX13_person_84
theorem rX13_person_87 : ab_Run X 221 87 (2, 0, 0) L (ab_R a :: st) σ Q ↔ (ab_sh σ a).1 = 13 ∧ ab_Run X 221 90 (2, 0, 0) L (ab_R (ab_rd σ a 17) :: st) σ Q := gF_13_310 ko_X13_person kc_X13_person dX13_person_87
theorem rX13_person_90 : ab_Run X 221 90 (2, 0, 0) [l0, ab_I z, l2] st σ Q ↔ ab_Run X 221 91 (2, 0, 0) [l0, ab_I z, l2] (ab_I z :: st) σ Q := ab_r_iload_n rfl kc_X13_person dX13_person_90
theorem rX13_person_91 : ab_Run X 221 91 (2, 0, 0) L (ab_I i :: ab_R a :: st) σ Q ↔ ((ab_sh σ a).1 = 21 ∧ 0 ≤ i ∧ i < (ab_sh σ a).2) ∧ ab_Run X 221 92 (2, 0, 0) L (ab_I (ab_rd σ a i) :: st) σ Q := ab_r_iaload (by decide) kc_X13_person dX13_person_91
theorem rX13_person_92 : ab_Run X 221 92 (2, 0, 0) L (ab_I x1 :: ab_R a :: st) σ Q ↔ ((ab_sh σ a).1 = 14 ∧ ab_cats st ≤ 8) ∧ ab_Do X 161 [ab_R a, ab_I x1] σ (fun r σ' => ab_Run X 221 95 (2, 0, 0) L (ab_psh r st) σ' Q) := ab_r_callV (w := [ab_I x1]) (as := [ab_I x1]) (b1 := (0, 0, 0)) 0 (Or.inl rfl) (by decide) ko_X13_person qM_13_63 (by decide) rfl rfl rfl rfl rfl (by decide) (Nat.le_of_ble_eq_true rfl) kc_X13_person dX13_person_92
theorem rX13_person_95 : ab_Run X 221 95 (2, 0, 0) L [ab_I v] σ Q ↔ Q (some (ab_I v)) σ := ab_r_ireturnI rfl kc_X13_person dX13_person_95
theorem rX13_person_96 : ab_Run X 221 96 (2, 0, 0) [ab_R z, l1, l2] st σ Q ↔ z ≠ 0 ∧ ab_Run X 221 97 (2, 0, 0) [ab_R z, l1, l2] (ab_R z :: st) σ Q := ab_r_aload_n rfl kc_X13_person dX13_person_96
theorem rX13_person_97 : ab_Run X 221 97 (2, 0, 0) [ab_R z, l1, l2] st σ Q ↔ z ≠ 0 ∧ ab_Run X 221 98 (2, 0, 0) [ab_R z, l1, l2] (ab_R z :: st) σ Q := ab_r_aload_n rfl kc_X13_person dX13_person_97
theorem rX13_person_98 : ab_Run X 221 98 (2, 0, 0) L (ab_R a :: st) σ Q ↔ (ab_sh σ a).1 = 14 ∧ ab_Run X 221 101 (2, 0, 0) L (ab_R (ab_rd σ a 3) :: st) σ Q := gF_13_373 ko_X13_person kc_X13_person dX13_person_98
theorem rX13_person_101 : ab_Run X 221 101 (2, 0, 0) L (ab_R a :: st) σ Q ↔ (ab_sh σ a).1 = 13 ∧ ab_Run X 221 104 (2, 0, 0) L (ab_R (ab_rd σ a 18) :: st) σ Q := gF_13_312 ko_X13_person kc_X13_person dX13_person_101
theorem rX13_person_104 : ab_Run X 221 104 (2, 0, 0) [l0, ab_I z, l2] st σ Q ↔ ab_Run X 221 105 (2, 0, 0) [l0, ab_I z, l2] (ab_I z :: st) σ Q := ab_r_iload_n rfl kc_X13_person dX13_person_104
theorem rX13_person_105 : ab_Run X 221 105 (2, 0, 0) L (ab_I i :: ab_R a :: st) σ Q ↔ ((ab_sh σ a).1 = 21 ∧ 0 ≤ i ∧ i < (ab_sh σ a).2) ∧ ab_Run X 221 106 (2, 0, 0) L (ab_I (ab_rd σ a i) :: st) σ Q := ab_r_iaload (by decide) kc_X13_person dX13_person_105
theorem rX13_person_106 : ab_Run X 221 106 (2, 0, 0) L (ab_I x1 :: ab_R a :: st) σ Q ↔ ((ab_sh σ a).1 = 14 ∧ ab_cats st ≤ 8) ∧ ab_Do X 161 [ab_R a, ab_I x1] σ (fun r σ' => ab_Run X 221 109 (2, 0, 0) L (ab_psh r st) σ' Q) := ab_r_callV (w := [ab_I x1]) (as := [ab_I x1]) (b1 := (0, 0, 0)) 0 (Or.inl rfl) (by decide) ko_X13_person qM_13_63 (by decide) rfl rfl rfl rfl rfl (by decide) (Nat.le_of_ble_eq_true rfl) kc_X13_person dX13_person_106
theorem rX13_person_109 : ab_Run X 221 109 (2, 0, 0) L [ab_I v] σ Q ↔ Q (some (ab_I v)) σ := ab_r_ireturnI rfl kc_X13_person dX13_person_109
theorem rX13_person_110 : ab_Run X 221 110 (2, 0, 0) [ab_R z, l1, l2] st σ Q ↔ z ≠ 0 ∧ ab_Run X 221 111 (2, 0, 0) [ab_R z, l1, l2] (ab_R z :: st) σ Q := ab_r_aload_n rfl kc_X13_person dX13_person_110
theorem rX13_person_111 : ab_Run X 221 111 (2, 0, 0) [ab_R z, l1, l2] st σ Q ↔ z ≠ 0 ∧ ab_Run X 221 112 (2, 0, 0) [ab_R z, l1, l2] (ab_R z :: st) σ Q := ab_r_aload_n rfl kc_X13_person dX13_person_111
theorem rX13_person_112 : ab_Run X 221 112 (2, 0, 0) L (ab_R a :: st) σ Q ↔ (ab_sh σ a).1 = 14 ∧ ab_Run X 221 115 (2, 0, 0) L (ab_R (ab_rd σ a 3) :: st) σ Q := gF_13_373 ko_X13_person kc_X13_person dX13_person_112
theorem rX13_person_115 : ab_Run X 221 115 (2, 0, 0) L (ab_R a :: st) σ Q ↔ (ab_sh σ a).1 = 13 ∧ ab_Run X 221 118 (2, 0, 0) L (ab_R (ab_rd σ a 19) :: st) σ Q := gF_13_314 ko_X13_person kc_X13_person dX13_person_115
theorem rX13_person_118 : ab_Run X 221 118 (2, 0, 0) [l0, ab_I z, l2] st σ Q ↔ ab_Run X 221 119 (2, 0, 0) [l0, ab_I z, l2] (ab_I z :: st) σ Q := ab_r_iload_n rfl kc_X13_person dX13_person_118
theorem rX13_person_119 : ab_Run X 221 119 (2, 0, 0) L (ab_I i :: ab_R a :: st) σ Q ↔ ((ab_sh σ a).1 = 21 ∧ 0 ≤ i ∧ i < (ab_sh σ a).2) ∧ ab_Run X 221 120 (2, 0, 0) L (ab_I (ab_rd σ a i) :: st) σ Q := ab_r_iaload (by decide) kc_X13_person dX13_person_119
theorem rX13_person_120 : ab_Run X 221 120 (2, 0, 0) L (ab_I x1 :: ab_R a :: st) σ Q ↔ ((ab_sh σ a).1 = 14 ∧ ab_cats st ≤ 8) ∧ ab_Do X 161 [ab_R a, ab_I x1] σ (fun r σ' => ab_Run X 221 123 (2, 0, 0) L (ab_psh r st) σ' Q) := ab_r_callV (w := [ab_I x1]) (as := [ab_I x1]) (b1 := (0, 0, 0)) 0 (Or.inl rfl) (by decide) ko_X13_person qM_13_63 (by decide) rfl rfl rfl rfl rfl (by decide) (Nat.le_of_ble_eq_true rfl) kc_X13_person dX13_person_120
theorem rX13_person_123 : ab_Run X 221 123 (2, 0, 0) L [ab_I v] σ Q ↔ Q (some (ab_I v)) σ := ab_r_ireturnI rfl kc_X13_person dX13_person_123
theorem rX13_person_124 : ab_Run X 221 124 (2, 0, 0) [ab_R z, l1, l2] st σ Q ↔ z ≠ 0 ∧ ab_Run X 221 125 (2, 0, 0) [ab_R z, l1, l2] (ab_R z :: st) σ Q := ab_r_aload_n rfl kc_X13_person dX13_person_124
theorem rX13_person_125 : ab_Run X 221 125 (2, 0, 0) [ab_R z, l1, l2] st σ Q ↔ z ≠ 0 ∧ ab_Run X 221 126 (2, 0, 0) [ab_R z, l1, l2] (ab_R z :: st) σ Q := ab_r_aload_n rfl kc_X13_person dX13_person_125
theorem rX13_person_126 : ab_Run X 221 126 (2, 0, 0) [l0, ab_I z, l2] st σ Q ↔ ab_Run X 221 127 (2, 0, 0) [l0, ab_I z, l2] (ab_I z :: st) σ Q := ab_r_iload_n rfl kc_X13_person dX13_person_126
theorem rX13_person_127 : ab_Run X 221 127 (2, 0, 0) L (ab_I x1 :: ab_R a :: st) σ Q ↔ ((ab_sh σ a).1 = 14 ∧ ab_cats st ≤ 8) ∧ ab_Do X 220 [ab_R a, ab_I x1] σ (fun r σ' => ab_Run X 221 130 (2, 0, 0) L (ab_psh r st) σ' Q) := ab_r_callV (w := [ab_I x1]) (as := [ab_I x1]) (b1 := (1, 0, 0)) 0 (Or.inl rfl) (by decide) ko_X13_person qM_13_452 (by decide) rfl rfl rfl rfl rfl (by decide) (Nat.le_of_ble_eq_true rfl) kc_X13_person dX13_person_127
theorem rX13_person_130 : ab_Run X 221 130 (2, 0, 0) L (ab_I x1 :: ab_R a :: st) σ Q ↔ ((ab_sh σ a).1 = 14 ∧ ab_cats st ≤ 8) ∧ ab_Do X 161 [ab_R a, ab_I x1] σ (fun r σ' => ab_Run X 221 133 (2, 0, 0) L (ab_psh r st) σ' Q) := ab_r_callV (w := [ab_I x1]) (as := [ab_I x1]) (b1 := (0, 0, 0)) 0 (Or.inl rfl) (by decide) ko_X13_person qM_13_63 (by decide) rfl rfl rfl rfl rfl (by decide) (Nat.le_of_ble_eq_true rfl) kc_X13_person dX13_person_130
theorem rX13_person_133 : ab_Run X 221 133 (2, 0, 0) L [ab_I v] σ Q ↔ Q (some (ab_I v)) σ := ab_r_ireturnI rfl kc_X13_person dX13_person_133
theorem rX13_person_134 : ab_Run X 221 134 (2, 0, 0) [ab_R z, l1, l2] st σ Q ↔ z ≠ 0 ∧ ab_Run X 221 135 (2, 0, 0) [ab_R z, l1, l2] (ab_R z :: st) σ Q := ab_r_aload_n rfl kc_X13_person dX13_person_134
theorem rX13_person_135 : ab_Run X 221 135 (2, 0, 0) [ab_R z, l1, l2] st σ Q ↔ z ≠ 0 ∧ ab_Run X 221 136 (2, 0, 0) [ab_R z, l1, l2] (ab_R z :: st) σ Q := ab_r_aload_n rfl kc_X13_person dX13_person_135
theorem rX13_person_136 : ab_Run X 221 136 (2, 0, 0) [l0, ab_I z, l2] st σ Q ↔ ab_Run X 221 137 (2, 0, 0) [l0, ab_I z, l2] (ab_I z :: st) σ Q := ab_r_iload_n rfl kc_X13_person dX13_person_136
theorem rX13_person_137 : ab_Run X 221 137 (2, 0, 0) L (ab_I x1 :: ab_R a :: st) σ Q ↔ ((ab_sh σ a).1 = 14 ∧ ab_cats st ≤ 8) ∧ ab_Do X 219 [ab_R a, ab_I x1] σ (fun r σ' => ab_Run X 221 140 (2, 0, 0) L (ab_psh r st) σ' Q) := ab_r_callV (w := [ab_I x1]) (as := [ab_I x1]) (b1 := (0, 0, 0)) 0 (Or.inl rfl) (by decide) ko_X13_person qM_13_449 (by decide) rfl rfl rfl rfl rfl (by decide) (Nat.le_of_ble_eq_true rfl) kc_X13_person dX13_person_137
theorem rX13_person_140 : ab_Run X 221 140 (2, 0, 0) L (ab_I x1 :: ab_R a :: st) σ Q ↔ ((ab_sh σ a).1 = 14 ∧ ab_cats st ≤ 8) ∧ ab_Do X 161 [ab_R a, ab_I x1] σ (fun r σ' => ab_Run X 221 143 (2, 0, 0) L (ab_psh r st) σ' Q) := ab_r_callV (w := [ab_I x1]) (as := [ab_I x1]) (b1 := (0, 0, 0)) 0 (Or.inl rfl) (by decide) ko_X13_person qM_13_63 (by decide) rfl rfl rfl rfl rfl (by decide) (Nat.le_of_ble_eq_true rfl) kc_X13_person dX13_person_140
theorem rX13_person_143 : ab_Run X 221 143 (2, 0, 0) L [ab_I v] σ Q ↔ Q (some (ab_I v)) σ := ab_r_ireturnI rfl kc_X13_person dX13_person_143
theorem rX13_person_144 : ab_Run X 221 144 (2, 0, 0) [ab_R z, l1, l2] st σ Q ↔ z ≠ 0 ∧ ab_Run X 221 145 (2, 0, 0) [ab_R z, l1, l2] (ab_R z :: st) σ Q := ab_r_aload_n rfl kc_X13_person dX13_person_144
theorem rX13_person_145 : ab_Run X 221 145 (2, 0, 0) [ab_R z, l1, l2] st σ Q ↔ z ≠ 0 ∧ ab_Run X 221 146 (2, 0, 0) [ab_R z, l1, l2] (ab_R z :: st) σ Q := ab_r_aload_n rfl kc_X13_person dX13_person_145
theorem rX13_person_146 : ab_Run X 221 146 (2, 0, 0) L (ab_R a :: st) σ Q ↔ (ab_sh σ a).1 = 14 ∧ ab_Run X 221 149 (2, 0, 0) L (ab_R (ab_rd σ a 16) :: st) σ Q := gF_13_17 ko_X13_person kc_X13_person dX13_person_146
theorem rX13_person_149 : ab_Run X 221 149 (2, 0, 0) L st σ Q ↔ ab_Run X 221 151 (2, 0, 0) L (ab_I 11 :: st) σ Q := ab_r_bipush (by decide) kc_X13_person dX13_person_149
theorem rX13_person_151 : ab_Run X 221 151 (2, 0, 0) [l0, ab_I z, l2] st σ Q ↔ ab_Run X 221 152 (2, 0, 0) [l0, ab_I z, l2] (ab_I z :: st) σ Q := ab_r_iload_n rfl kc_X13_person dX13_person_151
theorem rX13_person_152 : ab_Run X 221 152 (2, 0, 0) L (ab_I b :: ab_I a :: st) σ Q ↔ ab_Run X 221 153 (2, 0, 0) L (ab_I (ab_w32 (a + b)) :: st) σ Q := ab_r_iadd kc_X13_person dX13_person_152
theorem rX13_person_153 : ab_Run X 221 153 (2, 0, 0) L (ab_I i :: ab_R a :: st) σ Q ↔ ((ab_sh σ a).1 = 21 ∧ 0 ≤ i ∧ i < (ab_sh σ a).2) ∧ ab_Run X 221 154 (2, 0, 0) L (ab_I (ab_rd σ a i) :: st) σ Q := ab_r_iaload (by decide) kc_X13_person dX13_person_153
theorem rX13_person_154 : ab_Run X 221 154 (2, 0, 0) L (ab_I x1 :: ab_R a :: st) σ Q ↔ ((ab_sh σ a).1 = 14 ∧ ab_cats st ≤ 8) ∧ ab_Do X 161 [ab_R a, ab_I x1] σ (fun r σ' => ab_Run X 221 157 (2, 0, 0) L (ab_psh r st) σ' Q) := ab_r_callV (w := [ab_I x1]) (as := [ab_I x1]) (b1 := (0, 0, 0)) 0 (Or.inl rfl) (by decide) ko_X13_person qM_13_63 (by decide) rfl rfl rfl rfl rfl (by decide) (Nat.le_of_ble_eq_true rfl) kc_X13_person dX13_person_154
theorem rX13_person_157 : ab_Run X 221 157 (2, 0, 0) L [ab_I v] σ Q ↔ Q (some (ab_I v)) σ := ab_r_ireturnI rfl kc_X13_person dX13_person_157
theorem kc_X13_strength : ab_code 222 = cX13_strength := rfl
theorem ko_X13_strength : ab_ow 222 = 13 := rfl
theorem rX13_strength_0 : ab_Run X 222 0 (2, 0, 0) [ab_R z, l1, l2, l3, l4] st σ Q ↔ z ≠ 0 ∧ ab_Run X 222 1 (2, 0, 0) [ab_R z, l1, l2, l3, l4] (ab_R z :: st) σ Q := ab_r_aload_n rfl kc_X13_strength dX13_strength_0
theorem rX13_strength_1 : ab_Run X 222 1 (2, 0, 0) L st σ Q ↔ ab_Run X 222 2 (2, 0, 0) L (ab_I 0 :: st) σ Q := ab_r_iconst (by decide) kc_X13_strength dX13_strength_1
theorem rX13_strength_2 : ab_Run X 222 2 (2, 0, 0) L (ab_I z :: ab_R a :: st) σ Q ↔ (ab_sh σ a).1 = 14 ∧ ab_Run X 222 5 (2, 0, 0) L st (ab_wr σ a 0 z) Q := sF_13_53 ko_X13_strength kc_X13_strength dX13_strength_2
theorem rX13_strength_5 : ab_Run X 222 5 (2, 0, 0) [ab_R z, l1, l2, l3, l4] st σ Q ↔ z ≠ 0 ∧ ab_Run X 222 6 (2, 0, 0) [ab_R z, l1, l2, l3, l4] (ab_R z :: st) σ Q := ab_r_aload_n rfl kc_X13_strength dX13_strength_5
theorem rX13_strength_6 : ab_Run X 222 6 (2, 0, 0) [l0, ab_I z, l2, l3, l4] st σ Q ↔ ab_Run X 222 7 (2, 0, 0) [l0, ab_I z, l2, l3, l4] (ab_I z :: st) σ Q := ab_r_iload_n rfl kc_X13_strength dX13_strength_6
theorem rX13_strength_7 : ab_Run X 222 7 (2, 0, 0) [l0, l1, ab_I z, l3, l4] st σ Q ↔ ab_Run X 222 8 (2, 0, 0) [l0, l1, ab_I z, l3, l4] (ab_I z :: st) σ Q := ab_r_iload_n rfl kc_X13_strength dX13_strength_7
theorem rX13_strength_8 : ab_Run X 222 8 (2, 0, 0) [l0, l1, l2, ab_I z, l4] st σ Q ↔ ab_Run X 222 9 (2, 0, 0) [l0, l1, l2, ab_I z, l4] (ab_I z :: st) σ Q := ab_r_iload_n rfl kc_X13_strength dX13_strength_8
theorem rX13_strength_9 : ab_Run X 222 9 (2, 0, 0) L (ab_I x3 :: ab_I x2 :: ab_I x1 :: ab_R a :: st) σ Q ↔ ((ab_sh σ a).1 = 14 ∧ ab_cats st ≤ 8) ∧ ab_Do X 215 [ab_R a, ab_I x1, ab_I x2, ab_I x3] σ (fun r σ' => ab_Run X 222 12 (2, 0, 0) L (ab_psh r st) σ' Q) := ab_r_callV (w := [ab_I x3, ab_I x2, ab_I x1]) (as := [ab_I x1, ab_I x2, ab_I x3]) (b1 := (1, 0, 0)) 0 (Or.inl rfl) (by decide) ko_X13_strength qM_13_446 (by decide) rfl rfl rfl rfl rfl (by decide) (Nat.le_of_ble_eq_true rfl) kc_X13_strength dX13_strength_9
theorem rX13_strength_12 : ab_Run X 222 12 (2, 0, 0) L (ab_I a :: st) σ Q ↔ (a = 0 → ab_Run X 222 24 (2, 0, 0) L st σ Q) ∧ (¬ (a = 0) → ab_Run X 222 15 (2, 0, 0) L st σ Q) := ab_r_if_eq rfl kc_X13_strength dX13_strength_12
theorem rX13_strength_15 : ab_Run X 222 15 (2, 0, 0) [ab_R z, l1, l2, l3, l4] st σ Q ↔ z ≠ 0 ∧ ab_Run X 222 16 (2, 0, 0) [ab_R z, l1, l2, l3, l4] (ab_R z :: st) σ Q := ab_r_aload_n rfl kc_X13_strength dX13_strength_15
theorem rX13_strength_16 : ab_Run X 222 16 (2, 0, 0) [l0, l1, l2, l3, ab_I z] st σ Q ↔ ab_Run X 222 18 (2, 0, 0) [l0, l1, l2, l3, ab_I z] (ab_I z :: st) σ Q := ab_r_iload rfl kc_X13_strength dX13_strength_16
theorem rX13_strength_18 : ab_Run X 222 18 (2, 0, 0) L (ab_I x1 :: ab_R a :: st) σ Q ↔ ((ab_sh σ a).1 = 14 ∧ ab_cats st ≤ 8) ∧ ab_Do X 213 [ab_R a, ab_I x1] σ (fun r σ' => ab_Run X 222 21 (2, 0, 0) L (ab_psh r st) σ' Q) := ab_r_callV (w := [ab_I x1]) (as := [ab_I x1]) (b1 := (0, 0, 0)) 0 (Or.inl rfl) (by decide) ko_X13_strength qM_13_441 (by decide) rfl rfl rfl rfl rfl (by decide) (Nat.le_of_ble_eq_true rfl) kc_X13_strength dX13_strength_18
theorem rX13_strength_21 : ab_Run X 222 21 (2, 0, 0) L (ab_I a :: st) σ Q ↔ (¬ a = 0 → ab_Run X 222 30 (2, 0, 0) L st σ Q) ∧ (¬ (¬ a = 0) → ab_Run X 222 24 (2, 0, 0) L st σ Q) := ab_r_if_ne rfl kc_X13_strength dX13_strength_21
theorem rX13_strength_24 : ab_Run X 222 24 (2, 0, 0) [ab_R z, l1, l2, l3, l4] st σ Q ↔ z ≠ 0 ∧ ab_Run X 222 25 (2, 0, 0) [ab_R z, l1, l2, l3, l4] (ab_R z :: st) σ Q := ab_r_aload_n rfl kc_X13_strength dX13_strength_24
theorem rX13_strength_25 : ab_Run X 222 25 (2, 0, 0) L st σ Q ↔ ab_Run X 222 26 (2, 0, 0) L (ab_I 1 :: st) σ Q := ab_r_iconst (by decide) kc_X13_strength dX13_strength_25
theorem rX13_strength_26 : ab_Run X 222 26 (2, 0, 0) L (ab_I x1 :: ab_R a :: st) σ Q ↔ ((ab_sh σ a).1 = 14 ∧ ab_cats st ≤ 8) ∧ ab_Do X 159 [ab_R a, ab_I x1] σ (fun r σ' => ab_Run X 222 29 (2, 0, 0) L (ab_psh r st) σ' Q) := ab_r_callV (w := [ab_I x1]) (as := [ab_I x1]) (b1 := (0, 0, 0)) 0 (Or.inl rfl) (by decide) ko_X13_strength qM_13_59 (by decide) rfl rfl rfl rfl rfl (by decide) (Nat.le_of_ble_eq_true rfl) kc_X13_strength dX13_strength_26
theorem rX13_strength_29 : ab_Run X 222 29 (2, 0, 0) L [ab_I v] σ Q ↔ Q (some (ab_I v)) σ := ab_r_ireturnI rfl kc_X13_strength dX13_strength_29
theorem rX13_strength_30 : ab_Run X 222 30 (2, 0, 0) [ab_R z, l1, l2, l3, l4] st σ Q ↔ z ≠ 0 ∧ ab_Run X 222 31 (2, 0, 0) [ab_R z, l1, l2, l3, l4] (ab_R z :: st) σ Q := ab_r_aload_n rfl kc_X13_strength dX13_strength_30
theorem rX13_strength_31 : ab_Run X 222 31 (2, 0, 0) [l0, ab_I z, l2, l3, l4] st σ Q ↔ ab_Run X 222 32 (2, 0, 0) [l0, ab_I z, l2, l3, l4] (ab_I z :: st) σ Q := ab_r_iload_n rfl kc_X13_strength dX13_strength_31
theorem rX13_strength_32 : ab_Run X 222 32 (2, 0, 0) [l0, l1, l2, l3, ab_I z] st σ Q ↔ ab_Run X 222 34 (2, 0, 0) [l0, l1, l2, l3, ab_I z] (ab_I z :: st) σ Q := ab_r_iload rfl kc_X13_strength dX13_strength_32
theorem rX13_strength_34 : ab_Run X 222 34 (2, 0, 0) L st σ Q ↔ ab_Run X 222 35 (2, 0, 0) L (ab_I 1 :: st) σ Q := ab_r_iconst (by decide) kc_X13_strength dX13_strength_34
theorem rX13_strength_35 : ab_Run X 222 35 (2, 0, 0) [l0, l1, l2, l3, ab_I z] st σ Q ↔ ab_Run X 222 37 (2, 0, 0) [l0, l1, l2, l3, ab_I z] (ab_I z :: st) σ Q := ab_r_iload rfl kc_X13_strength dX13_strength_35
theorem rX13_strength_37 : ab_Run X 222 37 (2, 0, 0) L st σ Q ↔ ab_Run X 222 38 (2, 0, 0) L (ab_I 1 :: st) σ Q := ab_r_iconst (by decide) kc_X13_strength dX13_strength_37
theorem rX13_strength_38 : ab_Run X 222 38 (2, 0, 0) L st σ Q ↔ ab_Run X 222 39 (2, 0, 0) L (ab_I 2 :: st) σ Q := ab_r_iconst (by decide) kc_X13_strength dX13_strength_38
theorem rX13_strength_39 : ab_Run X 222 39 (2, 0, 0) L (ab_I x6 :: ab_I x5 :: ab_I x4 :: ab_I x3 :: ab_I x2 :: ab_I x1 :: ab_R a :: st) σ Q ↔ ((ab_sh σ a).1 = 14 ∧ ab_cats st ≤ 8) ∧ ab_Do X 202 [ab_R a, ab_I x1, ab_I x2, ab_I x3, ab_I x4, ab_I x5, ab_I x6] σ (fun r σ' => ab_Run X 222 42 (2, 0, 0) L (ab_psh r st) σ' Q) := ab_r_callV (w := [ab_I x6, ab_I x5, ab_I x4, ab_I x3, ab_I x2, ab_I x1]) (as := [ab_I x1, ab_I x2, ab_I x3, ab_I x4, ab_I x5, ab_I x6]) (b1 := (1, 0, 0)) 0 (Or.inl rfl) (by decide) ko_X13_strength qM_13_396 (by decide) rfl rfl rfl rfl rfl (by decide) (Nat.le_of_ble_eq_true rfl) kc_X13_strength dX13_strength_39
theorem rX13_strength_42 : ab_Run X 222 42 (2, 0, 0) [ab_R z, l1, l2, l3, l4] st σ Q ↔ z ≠ 0 ∧ ab_Run X 222 43 (2, 0, 0) [ab_R z, l1, l2, l3, l4] (ab_R z :: st) σ Q := ab_r_aload_n rfl kc_X13_strength dX13_strength_42
theorem rX13_strength_43 : ab_Run X 222 43 (2, 0, 0) [ab_R z, l1, l2, l3, l4] st σ Q ↔ z ≠ 0 ∧ ab_Run X 222 44 (2, 0, 0) [ab_R z, l1, l2, l3, l4] (ab_R z :: st) σ Q := ab_r_aload_n rfl kc_X13_strength dX13_strength_43
theorem rX13_strength_44 : ab_Run X 222 44 (2, 0, 0) [l0, l1, ab_I z, l3, l4] st σ Q ↔ ab_Run X 222 45 (2, 0, 0) [l0, l1, ab_I z, l3, l4] (ab_I z :: st) σ Q := ab_r_iload_n rfl kc_X13_strength dX13_strength_44
theorem rX13_strength_45 : ab_Run X 222 45 (2, 0, 0) [l0, l1, l2, ab_I z, l4] st σ Q ↔ ab_Run X 222 46 (2, 0, 0) [l0, l1, l2, ab_I z, l4] (ab_I z :: st) σ Q := ab_r_iload_n rfl kc_X13_strength dX13_strength_45
theorem rX13_strength_46 : ab_Run X 222 46 (2, 0, 0) L (ab_I x2 :: ab_I x1 :: ab_R a :: st) σ Q ↔ ((ab_sh σ a).1 = 14 ∧ ab_cats st ≤ 8) ∧ ab_Do X 204 [ab_R a, ab_I x1, ab_I x2] σ (fun r σ' => ab_Run X 222 49 (2, 0, 0) L (ab_psh r st) σ' Q) := ab_r_callV (w := [ab_I x2, ab_I x1]) (as := [ab_I x1, ab_I x2]) (b1 := (1, 0, 0)) 0 (Or.inl rfl) (by decide) ko_X13_strength qM_13_412 (by decide) rfl rfl rfl rfl rfl (by decide) (Nat.le_of_ble_eq_true rfl) kc_X13_strength dX13_strength_46
theorem rX13_strength_49 : ab_Run X 222 49 (2, 0, 0) L (ab_I x1 :: ab_R a :: st) σ Q ↔ ((ab_sh σ a).1 = 14 ∧ ab_cats st ≤ 8) ∧ ab_Do X 161 [ab_R a, ab_I x1] σ (fun r σ' => ab_Run X 222 52 (2, 0, 0) L (ab_psh r st) σ' Q) := ab_r_callV (w := [ab_I x1]) (as := [ab_I x1]) (b1 := (0, 0, 0)) 0 (Or.inl rfl) (by decide) ko_X13_strength qM_13_63 (by decide) rfl rfl rfl rfl rfl (by decide) (Nat.le_of_ble_eq_true rfl) kc_X13_strength dX13_strength_49
theorem rX13_strength_52 : ab_Run X 222 52 (2, 0, 0) L [ab_I v] σ Q ↔ Q (some (ab_I v)) σ := ab_r_ireturnI rfl kc_X13_strength dX13_strength_52
theorem kc_X13_strain : ab_code 223 = cX13_strain := rfl
theorem ko_X13_strain : ab_ow 223 = 13 := rfl
theorem rX13_strain_0 : ab_Run X 223 0 (2, 0, 0) [ab_R z, l1, l2, l3, l4, l5, l6, l7, l8, l9] st σ Q ↔ z ≠ 0 ∧ ab_Run X 223 1 (2, 0, 0) [ab_R z, l1, l2, l3, l4, l5, l6, l7, l8, l9] (ab_R z :: st) σ Q := ab_r_aload_n rfl kc_X13_strain dX13_strain_0
theorem rX13_strain_1 : ab_Run X 223 1 (2, 0, 0) L st σ Q ↔ ab_Run X 223 2 (2, 0, 0) L (ab_I 0 :: st) σ Q := ab_r_iconst (by decide) kc_X13_strain dX13_strain_1
theorem rX13_strain_2 : ab_Run X 223 2 (2, 0, 0) L (ab_I z :: ab_R a :: st) σ Q ↔ (ab_sh σ a).1 = 14 ∧ ab_Run X 223 5 (2, 0, 0) L st (ab_wr σ a 0 z) Q := sF_13_53 ko_X13_strain kc_X13_strain dX13_strain_2
theorem rX13_strain_5 : ab_Run X 223 5 (2, 0, 0) [ab_R z, l1, l2, l3, l4, l5, l6, l7, l8, l9] st σ Q ↔ z ≠ 0 ∧ ab_Run X 223 6 (2, 0, 0) [ab_R z, l1, l2, l3, l4, l5, l6, l7, l8, l9] (ab_R z :: st) σ Q := ab_r_aload_n rfl kc_X13_strain dX13_strain_5
theorem rX13_strain_6 : ab_Run X 223 6 (2, 0, 0) [ab_R z, l1, l2, l3, l4, l5, l6, l7, l8, l9] st σ Q ↔ z ≠ 0 ∧ ab_Run X 223 7 (2, 0, 0) [ab_R z, l1, l2, l3, l4, l5, l6, l7, l8, l9] (ab_R z :: st) σ Q := ab_r_aload_n rfl kc_X13_strain dX13_strain_6
theorem rX13_strain_7 : ab_Run X 223 7 (2, 0, 0) [l0, ab_I z, l2, l3, l4, l5, l6, l7, l8, l9] st σ Q ↔ ab_Run X 223 8 (2, 0, 0) [l0, ab_I z, l2, l3, l4, l5, l6, l7, l8, l9] (ab_I z :: st) σ Q := ab_r_iload_n rfl kc_X13_strain dX13_strain_7
theorem rX13_strain_8 : ab_Run X 223 8 (2, 0, 0) [l0, l1, ab_I z, l3, l4, l5, l6, l7, l8, l9] st σ Q ↔ ab_Run X 223 9 (2, 0, 0) [l0, l1, ab_I z, l3, l4, l5, l6, l7, l8, l9] (ab_I z :: st) σ Q := ab_r_iload_n rfl kc_X13_strain dX13_strain_8
theorem rX13_strain_9 : ab_Run X 223 9 (2, 0, 0) [l0, l1, l2, ab_I z, l4, l5, l6, l7, l8, l9] st σ Q ↔ ab_Run X 223 10 (2, 0, 0) [l0, l1, l2, ab_I z, l4, l5, l6, l7, l8, l9] (ab_I z :: st) σ Q := ab_r_iload_n rfl kc_X13_strain dX13_strain_9
theorem rX13_strain_10 : ab_Run X 223 10 (2, 0, 0) L (ab_I x3 :: ab_I x2 :: ab_I x1 :: ab_R a :: st) σ Q ↔ ((ab_sh σ a).1 = 14 ∧ ab_cats st ≤ 8) ∧ ab_Do X 215 [ab_R a, ab_I x1, ab_I x2, ab_I x3] σ (fun r σ' => ab_Run X 223 13 (2, 0, 0) L (ab_psh r st) σ' Q) := ab_r_callV (w := [ab_I x3, ab_I x2, ab_I x1]) (as := [ab_I x1, ab_I x2, ab_I x3]) (b1 := (1, 0, 0)) 0 (Or.inl rfl) (by decide) ko_X13_strain qM_13_446 (by decide) rfl rfl rfl rfl rfl (by decide) (Nat.le_of_ble_eq_true rfl) kc_X13_strain dX13_strain_10
theorem rX13_strain_13 : ab_Run X 223 13 (2, 0, 0) L (ab_I a :: st) σ Q ↔ (a = 0 → ab_Run X 223 31 (2, 0, 0) L st σ Q) ∧ (¬ (a = 0) → ab_Run X 223 16 (2, 0, 0) L st σ Q) := ab_r_if_eq rfl kc_X13_strain dX13_strain_13
theorem rX13_strain_16 : ab_Run X 223 16 (2, 0, 0) [ab_R z, l1, l2, l3, l4, l5, l6, l7, l8, l9] st σ Q ↔ z ≠ 0 ∧ ab_Run X 223 17 (2, 0, 0) [ab_R z, l1, l2, l3, l4, l5, l6, l7, l8, l9] (ab_R z :: st) σ Q := ab_r_aload_n rfl kc_X13_strain dX13_strain_16
theorem rX13_strain_17 : ab_Run X 223 17 (2, 0, 0) [l0, l1, l2, l3, ab_I z, l5, l6, l7, l8, l9] st σ Q ↔ ab_Run X 223 19 (2, 0, 0) [l0, l1, l2, l3, ab_I z, l5, l6, l7, l8, l9] (ab_I z :: st) σ Q := ab_r_iload rfl kc_X13_strain dX13_strain_17
theorem rX13_strain_19 : ab_Run X 223 19 (2, 0, 0) [l0, l1, l2, l3, l4, l5, ab_I z, l7, l8, l9] st σ Q ↔ ab_Run X 223 21 (2, 0, 0) [l0, l1, l2, l3, l4, l5, ab_I z, l7, l8, l9] (ab_I z :: st) σ Q := ab_r_iload rfl kc_X13_strain dX13_strain_19
theorem rX13_strain_21 : ab_Run X 223 21 (2, 0, 0) L (ab_I x2 :: ab_I x1 :: ab_R a :: st) σ Q ↔ ((ab_sh σ a).1 = 14 ∧ ab_cats st ≤ 8) ∧ ab_Do X 214 [ab_R a, ab_I x1, ab_I x2] σ (fun r σ' => ab_Run X 223 24 (2, 0, 0) L (ab_psh r st) σ' Q) := ab_r_callV (w := [ab_I x2, ab_I x1]) (as := [ab_I x1, ab_I x2]) (b1 := (1, 0, 0)) 0 (Or.inl rfl) (by decide) ko_X13_strain qM_13_455 (by decide) rfl rfl rfl rfl rfl (by decide) (Nat.le_of_ble_eq_true rfl) kc_X13_strain dX13_strain_21
theorem rX13_strain_24 : ab_Run X 223 24 (2, 0, 0) L (ab_I a :: st) σ Q ↔ (a = 0 → ab_Run X 223 31 (2, 0, 0) L st σ Q) ∧ (¬ (a = 0) → ab_Run X 223 27 (2, 0, 0) L st σ Q) := ab_r_if_eq rfl kc_X13_strain dX13_strain_24
theorem rX13_strain_27 : ab_Run X 223 27 (2, 0, 0) L st σ Q ↔ ab_Run X 223 28 (2, 0, 0) L (ab_I 1 :: st) σ Q := ab_r_iconst (by decide) kc_X13_strain dX13_strain_27
theorem rX13_strain_28 : ab_Run X 223 28 (2, 0, 0) L st σ Q ↔ ab_Run X 223 32 (2, 0, 0) L st σ Q := ab_r_goto rfl kc_X13_strain dX13_strain_28
theorem rX13_strain_31 : ab_Run X 223 31 (2, 0, 0) L st σ Q ↔ ab_Run X 223 32 (2, 0, 0) L (ab_I 0 :: st) σ Q := ab_r_iconst (by decide) kc_X13_strain dX13_strain_31
theorem rX13_strain_32 : ab_Run X 223 32 (2, 0, 0) [l0, ab_I z, l2, l3, l4, l5, l6, l7, l8, l9] st σ Q ↔ ab_Run X 223 33 (2, 0, 0) [l0, ab_I z, l2, l3, l4, l5, l6, l7, l8, l9] (ab_I z :: st) σ Q := ab_r_iload_n rfl kc_X13_strain dX13_strain_32
theorem rX13_strain_33 : ab_Run X 223 33 (2, 0, 0) [l0, l1, l2, l3, l4, ab_I z, l6, l7, l8, l9] st σ Q ↔ ab_Run X 223 35 (2, 0, 0) [l0, l1, l2, l3, l4, ab_I z, l6, l7, l8, l9] (ab_I z :: st) σ Q := ab_r_iload rfl kc_X13_strain dX13_strain_33
theorem rX13_strain_35 : ab_Run X 223 35 (2, 0, 0) [l0, l1, l2, l3, l4, l5, l6, ab_I z, l8, l9] st σ Q ↔ ab_Run X 223 37 (2, 0, 0) [l0, l1, l2, l3, l4, l5, l6, ab_I z, l8, l9] (ab_I z :: st) σ Q := ab_r_iload rfl kc_X13_strain dX13_strain_35
theorem rX13_strain_37 : ab_Run X 223 37 (2, 0, 0) [l0, l1, l2, l3, l4, l5, l6, l7, ab_I z, l9] st σ Q ↔ ab_Run X 223 39 (2, 0, 0) [l0, l1, l2, l3, l4, l5, l6, l7, ab_I z, l9] (ab_I z :: st) σ Q := ab_r_iload rfl kc_X13_strain dX13_strain_37
theorem rX13_strain_39 : ab_Run X 223 39 (2, 0, 0) L (ab_I x5 :: ab_I x4 :: ab_I x3 :: ab_I x2 :: ab_I x1 :: ab_R a :: st) σ Q ↔ ((ab_sh σ a).1 = 14 ∧ ab_cats st ≤ 8) ∧ ab_Do X 216 [ab_R a, ab_I x1, ab_I x2, ab_I x3, ab_I x4, ab_I x5] σ (fun r σ' => ab_Run X 223 42 (2, 0, 0) L (ab_psh r st) σ' Q) := ab_r_callV (w := [ab_I x5, ab_I x4, ab_I x3, ab_I x2, ab_I x1]) (as := [ab_I x1, ab_I x2, ab_I x3, ab_I x4, ab_I x5]) (b1 := (1, 0, 0)) 0 (Or.inl rfl) (by decide) ko_X13_strain qM_13_458 (by decide) rfl rfl rfl rfl rfl (by decide) (Nat.le_of_ble_eq_true rfl) kc_X13_strain dX13_strain_39
theorem rX13_strain_42 : ab_Run X 223 42 (2, 0, 0) [l0, l1, l2, l3, l4, l5, l6, l7, l8, l9] (ab_I z :: st) σ Q ↔ (!ab_isJ l8) = true ∧ ab_Run X 223 44 (2, 0, 0) [l0, l1, l2, l3, l4, l5, l6, l7, l8, ab_I z] st σ Q := ab_r_istore (Nat.le_of_ble_eq_true rfl) kc_X13_strain dX13_strain_42
theorem rX13_strain_44 : ab_Run X 223 44 (2, 0, 0) [l0, l1, l2, l3, l4, l5, l6, l7, l8, ab_I z] st σ Q ↔ ab_Run X 223 46 (2, 0, 0) [l0, l1, l2, l3, l4, l5, l6, l7, l8, ab_I z] (ab_I z :: st) σ Q := ab_r_iload rfl kc_X13_strain dX13_strain_44
theorem rX13_strain_46 : ab_Run X 223 46 (2, 0, 0) L (ab_I a :: st) σ Q ↔ (a ≤ 0 → ab_Run X 223 56 (2, 0, 0) L st σ Q) ∧ (¬ (a ≤ 0) → ab_Run X 223 49 (2, 0, 0) L st σ Q) := ab_r_if_le rfl kc_X13_strain dX13_strain_46
theorem rX13_strain_49 : ab_Run X 223 49 (2, 0, 0) [ab_R z, l1, l2, l3, l4, l5, l6, l7, l8, l9] st σ Q ↔ z ≠ 0 ∧ ab_Run X 223 50 (2, 0, 0) [ab_R z, l1, l2, l3, l4, l5, l6, l7, l8, l9] (ab_R z :: st) σ Q := ab_r_aload_n rfl kc_X13_strain dX13_strain_49
theorem rX13_strain_50 : ab_Run X 223 50 (2, 0, 0) [l0, l1, l2, l3, l4, l5, l6, l7, l8, ab_I z] st σ Q ↔ ab_Run X 223 52 (2, 0, 0) [l0, l1, l2, l3, l4, l5, l6, l7, l8, ab_I z] (ab_I z :: st) σ Q := ab_r_iload rfl kc_X13_strain dX13_strain_50
theorem rX13_strain_52 : ab_Run X 223 52 (2, 0, 0) L (ab_I x1 :: ab_R a :: st) σ Q ↔ ((ab_sh σ a).1 = 14 ∧ ab_cats st ≤ 8) ∧ ab_Do X 159 [ab_R a, ab_I x1] σ (fun r σ' => ab_Run X 223 55 (2, 0, 0) L (ab_psh r st) σ' Q) := ab_r_callV (w := [ab_I x1]) (as := [ab_I x1]) (b1 := (0, 0, 0)) 0 (Or.inl rfl) (by decide) ko_X13_strain qM_13_59 (by decide) rfl rfl rfl rfl rfl (by decide) (Nat.le_of_ble_eq_true rfl) kc_X13_strain dX13_strain_52
theorem rX13_strain_55 : ab_Run X 223 55 (2, 0, 0) L [ab_I v] σ Q ↔ Q (some (ab_I v)) σ := ab_r_ireturnI rfl kc_X13_strain dX13_strain_55
theorem rX13_strain_56 : ab_Run X 223 56 (2, 0, 0) [ab_R z, l1, l2, l3, l4, l5, l6, l7, l8, l9] st σ Q ↔ z ≠ 0 ∧ ab_Run X 223 57 (2, 0, 0) [ab_R z, l1, l2, l3, l4, l5, l6, l7, l8, l9] (ab_R z :: st) σ Q := ab_r_aload_n rfl kc_X13_strain dX13_strain_56
theorem rX13_strain_57 : ab_Run X 223 57 (2, 0, 0) [l0, ab_I z, l2, l3, l4, l5, l6, l7, l8, l9] st σ Q ↔ ab_Run X 223 58 (2, 0, 0) [l0, ab_I z, l2, l3, l4, l5, l6, l7, l8, l9] (ab_I z :: st) σ Q := ab_r_iload_n rfl kc_X13_strain dX13_strain_57
theorem rX13_strain_58 : ab_Run X 223 58 (2, 0, 0) [l0, l1, l2, l3, ab_I z, l5, l6, l7, l8, l9] st σ Q ↔ ab_Run X 223 60 (2, 0, 0) [l0, l1, l2, l3, ab_I z, l5, l6, l7, l8, l9] (ab_I z :: st) σ Q := ab_r_iload rfl kc_X13_strain dX13_strain_58
theorem rX13_strain_60 : ab_Run X 223 60 (2, 0, 0) [l0, l1, l2, l3, l4, ab_I z, l6, l7, l8, l9] st σ Q ↔ ab_Run X 223 62 (2, 0, 0) [l0, l1, l2, l3, l4, ab_I z, l6, l7, l8, l9] (ab_I z :: st) σ Q := ab_r_iload rfl kc_X13_strain dX13_strain_60
theorem rX13_strain_62 : ab_Run X 223 62 (2, 0, 0) [l0, l1, l2, l3, l4, l5, ab_I z, l7, l8, l9] st σ Q ↔ ab_Run X 223 64 (2, 0, 0) [l0, l1, l2, l3, l4, l5, ab_I z, l7, l8, l9] (ab_I z :: st) σ Q := ab_r_iload rfl kc_X13_strain dX13_strain_62
theorem rX13_strain_64 : ab_Run X 223 64 (2, 0, 0) [l0, l1, l2, l3, l4, l5, l6, ab_I z, l8, l9] st σ Q ↔ ab_Run X 223 66 (2, 0, 0) [l0, l1, l2, l3, l4, l5, l6, ab_I z, l8, l9] (ab_I z :: st) σ Q := ab_r_iload rfl kc_X13_strain dX13_strain_64
theorem rX13_strain_66 : ab_Run X 223 66 (2, 0, 0) [l0, l1, l2, l3, l4, l5, l6, l7, ab_I z, l9] st σ Q ↔ ab_Run X 223 68 (2, 0, 0) [l0, l1, l2, l3, l4, l5, l6, l7, ab_I z, l9] (ab_I z :: st) σ Q := ab_r_iload rfl kc_X13_strain dX13_strain_66
theorem rX13_strain_68 : ab_Run X 223 68 (2, 0, 0) L (ab_I x6 :: ab_I x5 :: ab_I x4 :: ab_I x3 :: ab_I x2 :: ab_I x1 :: ab_R a :: st) σ Q ↔ ((ab_sh σ a).1 = 14 ∧ ab_cats st ≤ 8) ∧ ab_Do X 202 [ab_R a, ab_I x1, ab_I x2, ab_I x3, ab_I x4, ab_I x5, ab_I x6] σ (fun r σ' => ab_Run X 223 71 (2, 0, 0) L (ab_psh r st) σ' Q) := ab_r_callV (w := [ab_I x6, ab_I x5, ab_I x4, ab_I x3, ab_I x2, ab_I x1]) (as := [ab_I x1, ab_I x2, ab_I x3, ab_I x4, ab_I x5, ab_I x6]) (b1 := (1, 0, 0)) 0 (Or.inl rfl) (by decide) ko_X13_strain qM_13_396 (by decide) rfl rfl rfl rfl rfl (by decide) (Nat.le_of_ble_eq_true rfl) kc_X13_strain dX13_strain_68
theorem rX13_strain_71 : ab_Run X 223 71 (2, 0, 0) [ab_R z, l1, l2, l3, l4, l5, l6, l7, l8, l9] st σ Q ↔ z ≠ 0 ∧ ab_Run X 223 72 (2, 0, 0) [ab_R z, l1, l2, l3, l4, l5, l6, l7, l8, l9] (ab_R z :: st) σ Q := ab_r_aload_n rfl kc_X13_strain dX13_strain_71
theorem rX13_strain_72 : ab_Run X 223 72 (2, 0, 0) [ab_R z, l1, l2, l3, l4, l5, l6, l7, l8, l9] st σ Q ↔ z ≠ 0 ∧ ab_Run X 223 73 (2, 0, 0) [ab_R z, l1, l2, l3, l4, l5, l6, l7, l8, l9] (ab_R z :: st) σ Q := ab_r_aload_n rfl kc_X13_strain dX13_strain_72
theorem rX13_strain_73 : ab_Run X 223 73 (2, 0, 0) [l0, l1, ab_I z, l3, l4, l5, l6, l7, l8, l9] st σ Q ↔ ab_Run X 223 74 (2, 0, 0) [l0, l1, ab_I z, l3, l4, l5, l6, l7, l8, l9] (ab_I z :: st) σ Q := ab_r_iload_n rfl kc_X13_strain dX13_strain_73
theorem rX13_strain_74 : ab_Run X 223 74 (2, 0, 0) [l0, l1, l2, ab_I z, l4, l5, l6, l7, l8, l9] st σ Q ↔ ab_Run X 223 75 (2, 0, 0) [l0, l1, l2, ab_I z, l4, l5, l6, l7, l8, l9] (ab_I z :: st) σ Q := ab_r_iload_n rfl kc_X13_strain dX13_strain_74
theorem rX13_strain_75 : ab_Run X 223 75 (2, 0, 0) L (ab_I x2 :: ab_I x1 :: ab_R a :: st) σ Q ↔ ((ab_sh σ a).1 = 14 ∧ ab_cats st ≤ 8) ∧ ab_Do X 205 [ab_R a, ab_I x1, ab_I x2] σ (fun r σ' => ab_Run X 223 78 (2, 0, 0) L (ab_psh r st) σ' Q) := ab_r_callV (w := [ab_I x2, ab_I x1]) (as := [ab_I x1, ab_I x2]) (b1 := (0, 0, 0)) 0 (Or.inl rfl) (by decide) ko_X13_strain qM_13_409 (by decide) rfl rfl rfl rfl rfl (by decide) (Nat.le_of_ble_eq_true rfl) kc_X13_strain dX13_strain_75
theorem rX13_strain_78 : ab_Run X 223 78 (2, 0, 0) L (ab_I x1 :: ab_R a :: st) σ Q ↔ ((ab_sh σ a).1 = 14 ∧ ab_cats st ≤ 8) ∧ ab_Do X 161 [ab_R a, ab_I x1] σ (fun r σ' => ab_Run X 223 81 (2, 0, 0) L (ab_psh r st) σ' Q) := ab_r_callV (w := [ab_I x1]) (as := [ab_I x1]) (b1 := (0, 0, 0)) 0 (Or.inl rfl) (by decide) ko_X13_strain qM_13_63 (by decide) rfl rfl rfl rfl rfl (by decide) (Nat.le_of_ble_eq_true rfl) kc_X13_strain dX13_strain_78
theorem rX13_strain_81 : ab_Run X 223 81 (2, 0, 0) L [ab_I v] σ Q ↔ Q (some (ab_I v)) σ := ab_r_ireturnI rfl kc_X13_strain dX13_strain_81
theorem kc_X13_pulled : ab_code 224 = cX13_pulled := rfl
theorem ko_X13_pulled : ab_ow 224 = 13 := rfl
theorem rX13_pulled_0 : ab_Run X 224 0 (5, 0, 0) [ab_R z, l1, l2, l3, l4, l5, l6, l7] st σ Q ↔ z ≠ 0 ∧ ab_Run X 224 1 (5, 0, 0) [ab_R z, l1, l2, l3, l4, l5, l6, l7] (ab_R z :: st) σ Q := ab_r_aload_n rfl kc_X13_pulled dX13_pulled_0
theorem rX13_pulled_1 : ab_Run X 224 1 (5, 0, 0) L st σ Q ↔ ab_Run X 224 2 (5, 0, 0) L (ab_I 0 :: st) σ Q := ab_r_iconst (by decide) kc_X13_pulled dX13_pulled_1
theorem rX13_pulled_2 : ab_Run X 224 2 (5, 0, 0) L (ab_I z :: ab_R a :: st) σ Q ↔ (ab_sh σ a).1 = 14 ∧ ab_Run X 224 5 (5, 0, 0) L st (ab_wr σ a 0 z) Q := sF_13_53 ko_X13_pulled kc_X13_pulled dX13_pulled_2
theorem rX13_pulled_5 : ab_Run X 224 5 (5, 0, 0) [ab_R z, l1, l2, l3, l4, l5, l6, l7] st σ Q ↔ z ≠ 0 ∧ ab_Run X 224 6 (5, 0, 0) [ab_R z, l1, l2, l3, l4, l5, l6, l7] (ab_R z :: st) σ Q := ab_r_aload_n rfl kc_X13_pulled dX13_pulled_5
theorem rX13_pulled_6 : ab_Run X 224 6 (5, 0, 0) [ab_R z, l1, l2, l3, l4, l5, l6, l7] st σ Q ↔ z ≠ 0 ∧ ab_Run X 224 7 (5, 0, 0) [ab_R z, l1, l2, l3, l4, l5, l6, l7] (ab_R z :: st) σ Q := ab_r_aload_n rfl kc_X13_pulled dX13_pulled_6
theorem rX13_pulled_7 : ab_Run X 224 7 (5, 0, 0) [l0, ab_I z, l2, l3, l4, l5, l6, l7] st σ Q ↔ ab_Run X 224 8 (5, 0, 0) [l0, ab_I z, l2, l3, l4, l5, l6, l7] (ab_I z :: st) σ Q := ab_r_iload_n rfl kc_X13_pulled dX13_pulled_7
theorem rX13_pulled_8 : ab_Run X 224 8 (5, 0, 0) L (ab_I x1 :: ab_R a :: st) σ Q ↔ ((ab_sh σ a).1 = 14 ∧ ab_cats st ≤ 8) ∧ ab_Do X 212 [ab_R a, ab_I x1] σ (fun r σ' => ab_Run X 224 11 (5, 0, 0) L (ab_psh r st) σ' Q) := ab_r_callV (w := [ab_I x1]) (as := [ab_I x1]) (b1 := (0, 0, 0)) 0 (Or.inl rfl) (by decide) ko_X13_pulled qM_13_444 (by decide) rfl rfl rfl rfl rfl (by decide) (Nat.le_of_ble_eq_true rfl) kc_X13_pulled dX13_pulled_8
theorem rX13_pulled_11 : ab_Run X 224 11 (5, 0, 0) L (ab_I a :: st) σ Q ↔ (a = 0 → ab_Run X 224 28 (5, 0, 0) L st σ Q) ∧ (¬ (a = 0) → ab_Run X 224 14 (5, 0, 0) L st σ Q) := ab_r_if_eq rfl kc_X13_pulled dX13_pulled_11
theorem rX13_pulled_14 : ab_Run X 224 14 (5, 0, 0) [ab_R z, l1, l2, l3, l4, l5, l6, l7] st σ Q ↔ z ≠ 0 ∧ ab_Run X 224 15 (5, 0, 0) [ab_R z, l1, l2, l3, l4, l5, l6, l7] (ab_R z :: st) σ Q := ab_r_aload_n rfl kc_X13_pulled dX13_pulled_14
theorem rX13_pulled_15 : ab_Run X 224 15 (5, 0, 0) [l0, l1, ab_I z, l3, l4, l5, l6, l7] st σ Q ↔ ab_Run X 224 16 (5, 0, 0) [l0, l1, ab_I z, l3, l4, l5, l6, l7] (ab_I z :: st) σ Q := ab_r_iload_n rfl kc_X13_pulled dX13_pulled_15
theorem rX13_pulled_16 : ab_Run X 224 16 (5, 0, 0) [l0, l1, l2, l3, ab_I z, l5, l6, l7] st σ Q ↔ ab_Run X 224 18 (5, 0, 0) [l0, l1, l2, l3, ab_I z, l5, l6, l7] (ab_I z :: st) σ Q := ab_r_iload rfl kc_X13_pulled dX13_pulled_16
theorem rX13_pulled_18 : ab_Run X 224 18 (5, 0, 0) L (ab_I x2 :: ab_I x1 :: ab_R a :: st) σ Q ↔ ((ab_sh σ a).1 = 14 ∧ ab_cats st ≤ 8) ∧ ab_Do X 214 [ab_R a, ab_I x1, ab_I x2] σ (fun r σ' => ab_Run X 224 21 (5, 0, 0) L (ab_psh r st) σ' Q) := ab_r_callV (w := [ab_I x2, ab_I x1]) (as := [ab_I x1, ab_I x2]) (b1 := (1, 0, 0)) 0 (Or.inl rfl) (by decide) ko_X13_pulled qM_13_455 (by decide) rfl rfl rfl rfl rfl (by decide) (Nat.le_of_ble_eq_true rfl) kc_X13_pulled dX13_pulled_18
theorem rX13_pulled_21 : ab_Run X 224 21 (5, 0, 0) L (ab_I a :: st) σ Q ↔ (a = 0 → ab_Run X 224 28 (5, 0, 0) L st σ Q) ∧ (¬ (a = 0) → ab_Run X 224 24 (5, 0, 0) L st σ Q) := ab_r_if_eq rfl kc_X13_pulled dX13_pulled_21
theorem rX13_pulled_24 : ab_Run X 224 24 (5, 0, 0) L st σ Q ↔ ab_Run X 224 25 (5, 0, 0) L (ab_I 1 :: st) σ Q := ab_r_iconst (by decide) kc_X13_pulled dX13_pulled_24
theorem rX13_pulled_25 : ab_Run X 224 25 (5, 0, 0) L st σ Q ↔ ab_Run X 224 29 (5, 0, 0) L st σ Q := ab_r_goto rfl kc_X13_pulled dX13_pulled_25
theorem rX13_pulled_28 : ab_Run X 224 28 (5, 0, 0) L st σ Q ↔ ab_Run X 224 29 (5, 0, 0) L (ab_I 0 :: st) σ Q := ab_r_iconst (by decide) kc_X13_pulled dX13_pulled_28
theorem rX13_pulled_29 : ab_Run X 224 29 (5, 0, 0) [l0, ab_I z, l2, l3, l4, l5, l6, l7] st σ Q ↔ ab_Run X 224 30 (5, 0, 0) [l0, ab_I z, l2, l3, l4, l5, l6, l7] (ab_I z :: st) σ Q := ab_r_iload_n rfl kc_X13_pulled dX13_pulled_29
theorem rX13_pulled_30 : ab_Run X 224 30 (5, 0, 0) [l0, l1, l2, ab_I z, l4, l5, l6, l7] st σ Q ↔ ab_Run X 224 31 (5, 0, 0) [l0, l1, l2, ab_I z, l4, l5, l6, l7] (ab_I z :: st) σ Q := ab_r_iload_n rfl kc_X13_pulled dX13_pulled_30
theorem rX13_pulled_31 : ab_Run X 224 31 (5, 0, 0) [l0, l1, l2, l3, l4, ab_I z, l6, l7] st σ Q ↔ ab_Run X 224 33 (5, 0, 0) [l0, l1, l2, l3, l4, ab_I z, l6, l7] (ab_I z :: st) σ Q := ab_r_iload rfl kc_X13_pulled dX13_pulled_31
theorem rX13_pulled_33 : ab_Run X 224 33 (5, 0, 0) [l0, l1, l2, l3, l4, l5, ab_I z, l7] st σ Q ↔ ab_Run X 224 35 (5, 0, 0) [l0, l1, l2, l3, l4, l5, ab_I z, l7] (ab_I z :: st) σ Q := ab_r_iload rfl kc_X13_pulled dX13_pulled_33
theorem rX13_pulled_35 : ab_Run X 224 35 (5, 0, 0) L (ab_I x5 :: ab_I x4 :: ab_I x3 :: ab_I x2 :: ab_I x1 :: ab_R a :: st) σ Q ↔ ((ab_sh σ a).1 = 14 ∧ ab_cats st ≤ 8) ∧ ab_Do X 216 [ab_R a, ab_I x1, ab_I x2, ab_I x3, ab_I x4, ab_I x5] σ (fun r σ' => ab_Run X 224 38 (5, 0, 0) L (ab_psh r st) σ' Q) := ab_r_callV (w := [ab_I x5, ab_I x4, ab_I x3, ab_I x2, ab_I x1]) (as := [ab_I x1, ab_I x2, ab_I x3, ab_I x4, ab_I x5]) (b1 := (1, 0, 0)) 0 (Or.inl rfl) (by decide) ko_X13_pulled qM_13_458 (by decide) rfl rfl rfl rfl rfl (by decide) (Nat.le_of_ble_eq_true rfl) kc_X13_pulled dX13_pulled_35
theorem rX13_pulled_38 : ab_Run X 224 38 (5, 0, 0) [l0, l1, l2, l3, l4, l5, l6, l7] (ab_I z :: st) σ Q ↔ (!ab_isJ l6) = true ∧ ab_Run X 224 40 (5, 0, 0) [l0, l1, l2, l3, l4, l5, l6, ab_I z] st σ Q := ab_r_istore (Nat.le_of_ble_eq_true rfl) kc_X13_pulled dX13_pulled_38
theorem rX13_pulled_40 : ab_Run X 224 40 (5, 0, 0) [l0, l1, l2, l3, l4, l5, l6, ab_I z] st σ Q ↔ ab_Run X 224 42 (5, 0, 0) [l0, l1, l2, l3, l4, l5, l6, ab_I z] (ab_I z :: st) σ Q := ab_r_iload rfl kc_X13_pulled dX13_pulled_40
theorem rX13_pulled_42 : ab_Run X 224 42 (5, 0, 0) L (ab_I a :: st) σ Q ↔ (a ≤ 0 → ab_Run X 224 52 (5, 0, 0) L st σ Q) ∧ (¬ (a ≤ 0) → ab_Run X 224 45 (5, 0, 0) L st σ Q) := ab_r_if_le rfl kc_X13_pulled dX13_pulled_42
theorem rX13_pulled_45 : ab_Run X 224 45 (5, 0, 0) [ab_R z, l1, l2, l3, l4, l5, l6, l7] st σ Q ↔ z ≠ 0 ∧ ab_Run X 224 46 (5, 0, 0) [ab_R z, l1, l2, l3, l4, l5, l6, l7] (ab_R z :: st) σ Q := ab_r_aload_n rfl kc_X13_pulled dX13_pulled_45
theorem rX13_pulled_46 : ab_Run X 224 46 (5, 0, 0) [l0, l1, l2, l3, l4, l5, l6, ab_I z] st σ Q ↔ ab_Run X 224 48 (5, 0, 0) [l0, l1, l2, l3, l4, l5, l6, ab_I z] (ab_I z :: st) σ Q := ab_r_iload rfl kc_X13_pulled dX13_pulled_46
theorem rX13_pulled_48 : ab_Run X 224 48 (5, 0, 0) L (ab_I x1 :: ab_R a :: st) σ Q ↔ ((ab_sh σ a).1 = 14 ∧ ab_cats st ≤ 8) ∧ ab_Do X 159 [ab_R a, ab_I x1] σ (fun r σ' => ab_Run X 224 51 (5, 0, 0) L (ab_psh r st) σ' Q) := ab_r_callV (w := [ab_I x1]) (as := [ab_I x1]) (b1 := (0, 0, 0)) 0 (Or.inl rfl) (by decide) ko_X13_pulled qM_13_59 (by decide) rfl rfl rfl rfl rfl (by decide) (Nat.le_of_ble_eq_true rfl) kc_X13_pulled dX13_pulled_48
theorem rX13_pulled_51 : ab_Run X 224 51 (5, 0, 0) L [ab_I v] σ Q ↔ Q (some (ab_I v)) σ := ab_r_ireturnI rfl kc_X13_pulled dX13_pulled_51
theorem rX13_pulled_52 : ab_Run X 224 52 (5, 0, 0) [ab_R z, l1, l2, l3, l4, l5, l6, l7] st σ Q ↔ z ≠ 0 ∧ ab_Run X 224 53 (5, 0, 0) [ab_R z, l1, l2, l3, l4, l5, l6, l7] (ab_R z :: st) σ Q := ab_r_aload_n rfl kc_X13_pulled dX13_pulled_52
theorem rX13_pulled_53 : ab_Run X 224 53 (5, 0, 0) [l0, ab_I z, l2, l3, l4, l5, l6, l7] st σ Q ↔ ab_Run X 224 54 (5, 0, 0) [l0, ab_I z, l2, l3, l4, l5, l6, l7] (ab_I z :: st) σ Q := ab_r_iload_n rfl kc_X13_pulled dX13_pulled_53
theorem rX13_pulled_54 : ab_Run X 224 54 (5, 0, 0) [l0, l1, ab_I z, l3, l4, l5, l6, l7] st σ Q ↔ ab_Run X 224 55 (5, 0, 0) [l0, l1, ab_I z, l3, l4, l5, l6, l7] (ab_I z :: st) σ Q := ab_r_iload_n rfl kc_X13_pulled dX13_pulled_54
theorem rX13_pulled_55 : ab_Run X 224 55 (5, 0, 0) [l0, l1, l2, ab_I z, l4, l5, l6, l7] st σ Q ↔ ab_Run X 224 56 (5, 0, 0) [l0, l1, l2, ab_I z, l4, l5, l6, l7] (ab_I z :: st) σ Q := ab_r_iload_n rfl kc_X13_pulled dX13_pulled_55
theorem rX13_pulled_56 : ab_Run X 224 56 (5, 0, 0) [l0, l1, l2, l3, ab_I z, l5, l6, l7] st σ Q ↔ ab_Run X 224 58 (5, 0, 0) [l0, l1, l2, l3, ab_I z, l5, l6, l7] (ab_I z :: st) σ Q := ab_r_iload rfl kc_X13_pulled dX13_pulled_56
theorem rX13_pulled_58 : ab_Run X 224 58 (5, 0, 0) [l0, l1, l2, l3, l4, ab_I z, l6, l7] st σ Q ↔ ab_Run X 224 60 (5, 0, 0) [l0, l1, l2, l3, l4, ab_I z, l6, l7] (ab_I z :: st) σ Q := ab_r_iload rfl kc_X13_pulled dX13_pulled_58
theorem rX13_pulled_60 : ab_Run X 224 60 (5, 0, 0) [l0, l1, l2, l3, l4, l5, ab_I z, l7] st σ Q ↔ ab_Run X 224 62 (5, 0, 0) [l0, l1, l2, l3, l4, l5, ab_I z, l7] (ab_I z :: st) σ Q := ab_r_iload rfl kc_X13_pulled dX13_pulled_60
theorem rX13_pulled_62 : ab_Run X 224 62 (5, 0, 0) L (ab_I x6 :: ab_I x5 :: ab_I x4 :: ab_I x3 :: ab_I x2 :: ab_I x1 :: ab_R a :: st) σ Q ↔ ((ab_sh σ a).1 = 14 ∧ ab_cats st ≤ 8) ∧ ab_Do X 202 [ab_R a, ab_I x1, ab_I x2, ab_I x3, ab_I x4, ab_I x5, ab_I x6] σ (fun r σ' => ab_Run X 224 65 (5, 0, 0) L (ab_psh r st) σ' Q) := ab_r_callV (w := [ab_I x6, ab_I x5, ab_I x4, ab_I x3, ab_I x2, ab_I x1]) (as := [ab_I x1, ab_I x2, ab_I x3, ab_I x4, ab_I x5, ab_I x6]) (b1 := (1, 0, 0)) 0 (Or.inl rfl) (by decide) ko_X13_pulled qM_13_396 (by decide) rfl rfl rfl rfl rfl (by decide) (Nat.le_of_ble_eq_true rfl) kc_X13_pulled dX13_pulled_62
theorem rX13_pulled_65 : ab_Run X 224 65 (5, 0, 0) [ab_R z, l1, l2, l3, l4, l5, l6, l7] st σ Q ↔ z ≠ 0 ∧ ab_Run X 224 66 (5, 0, 0) [ab_R z, l1, l2, l3, l4, l5, l6, l7] (ab_R z :: st) σ Q := ab_r_aload_n rfl kc_X13_pulled dX13_pulled_65
theorem rX13_pulled_66 : ab_Run X 224 66 (5, 0, 0) [ab_R z, l1, l2, l3, l4, l5, l6, l7] st σ Q ↔ z ≠ 0 ∧ ab_Run X 224 67 (5, 0, 0) [ab_R z, l1, l2, l3, l4, l5, l6, l7] (ab_R z :: st) σ Q := ab_r_aload_n rfl kc_X13_pulled dX13_pulled_66
theorem rX13_pulled_67 : ab_Run X 224 67 (5, 0, 0) L (ab_R a :: st) σ Q ↔ ((ab_sh σ a).1 = 14 ∧ ab_cats st ≤ 8) ∧ ab_Do X 208 [ab_R a] σ (fun r σ' => ab_Run X 224 70 (5, 0, 0) L (ab_psh r st) σ' Q) := ab_r_callV (w := []) (as := []) (b1 := (4, 0, 0)) 0 (Or.inl rfl) (by decide) ko_X13_pulled qM_13_433 (by decide) rfl rfl rfl rfl rfl (by decide) (Nat.le_of_ble_eq_true rfl) kc_X13_pulled dX13_pulled_67
theorem rX13_pulled_70 : ab_Run X 224 70 (5, 0, 0) L (ab_I x1 :: ab_R a :: st) σ Q ↔ ((ab_sh σ a).1 = 14 ∧ ab_cats st ≤ 8) ∧ ab_Do X 161 [ab_R a, ab_I x1] σ (fun r σ' => ab_Run X 224 73 (5, 0, 0) L (ab_psh r st) σ' Q) := ab_r_callV (w := [ab_I x1]) (as := [ab_I x1]) (b1 := (0, 0, 0)) 0 (Or.inl rfl) (by decide) ko_X13_pulled qM_13_63 (by decide) rfl rfl rfl rfl rfl (by decide) (Nat.le_of_ble_eq_true rfl) kc_X13_pulled dX13_pulled_70
theorem rX13_pulled_73 : ab_Run X 224 73 (5, 0, 0) L [ab_I v] σ Q ↔ Q (some (ab_I v)) σ := ab_r_ireturnI rfl kc_X13_pulled dX13_pulled_73
theorem kc_X13_breaksAt : ab_code 225 = cX13_breaksAt := rfl
theorem ko_X13_breaksAt : ab_ow 225 = 13 := rfl
theorem rX13_breaksAt_0 : ab_Run X 225 0 (5, 0, 0) [ab_R z, l1, l2, l3, l4, l5, l6, l7] st σ Q ↔ z ≠ 0 ∧ ab_Run X 225 1 (5, 0, 0) [ab_R z, l1, l2, l3, l4, l5, l6, l7] (ab_R z :: st) σ Q := ab_r_aload_n rfl kc_X13_breaksAt dX13_breaksAt_0
theorem rX13_breaksAt_1 : ab_Run X 225 1 (5, 0, 0) L st σ Q ↔ ab_Run X 225 2 (5, 0, 0) L (ab_I 0 :: st) σ Q := ab_r_iconst (by decide) kc_X13_breaksAt dX13_breaksAt_1
theorem rX13_breaksAt_2 : ab_Run X 225 2 (5, 0, 0) L (ab_I z :: ab_R a :: st) σ Q ↔ (ab_sh σ a).1 = 14 ∧ ab_Run X 225 5 (5, 0, 0) L st (ab_wr σ a 0 z) Q := sF_13_53 ko_X13_breaksAt kc_X13_breaksAt dX13_breaksAt_2
theorem rX13_breaksAt_5 : ab_Run X 225 5 (5, 0, 0) [ab_R z, l1, l2, l3, l4, l5, l6, l7] st σ Q ↔ z ≠ 0 ∧ ab_Run X 225 6 (5, 0, 0) [ab_R z, l1, l2, l3, l4, l5, l6, l7] (ab_R z :: st) σ Q := ab_r_aload_n rfl kc_X13_breaksAt dX13_breaksAt_5
theorem rX13_breaksAt_6 : ab_Run X 225 6 (5, 0, 0) [ab_R z, l1, l2, l3, l4, l5, l6, l7] st σ Q ↔ z ≠ 0 ∧ ab_Run X 225 7 (5, 0, 0) [ab_R z, l1, l2, l3, l4, l5, l6, l7] (ab_R z :: st) σ Q := ab_r_aload_n rfl kc_X13_breaksAt dX13_breaksAt_6
theorem rX13_breaksAt_7 : ab_Run X 225 7 (5, 0, 0) [l0, ab_I z, l2, l3, l4, l5, l6, l7] st σ Q ↔ ab_Run X 225 8 (5, 0, 0) [l0, ab_I z, l2, l3, l4, l5, l6, l7] (ab_I z :: st) σ Q := ab_r_iload_n rfl kc_X13_breaksAt dX13_breaksAt_7
theorem rX13_breaksAt_8 : ab_Run X 225 8 (5, 0, 0) L (ab_I x1 :: ab_R a :: st) σ Q ↔ ((ab_sh σ a).1 = 14 ∧ ab_cats st ≤ 8) ∧ ab_Do X 212 [ab_R a, ab_I x1] σ (fun r σ' => ab_Run X 225 11 (5, 0, 0) L (ab_psh r st) σ' Q) := ab_r_callV (w := [ab_I x1]) (as := [ab_I x1]) (b1 := (0, 0, 0)) 0 (Or.inl rfl) (by decide) ko_X13_breaksAt qM_13_444 (by decide) rfl rfl rfl rfl rfl (by decide) (Nat.le_of_ble_eq_true rfl) kc_X13_breaksAt dX13_breaksAt_8
theorem rX13_breaksAt_11 : ab_Run X 225 11 (5, 0, 0) L (ab_I a :: st) σ Q ↔ (a = 0 → ab_Run X 225 28 (5, 0, 0) L st σ Q) ∧ (¬ (a = 0) → ab_Run X 225 14 (5, 0, 0) L st σ Q) := ab_r_if_eq rfl kc_X13_breaksAt dX13_breaksAt_11
theorem rX13_breaksAt_14 : ab_Run X 225 14 (5, 0, 0) [ab_R z, l1, l2, l3, l4, l5, l6, l7] st σ Q ↔ z ≠ 0 ∧ ab_Run X 225 15 (5, 0, 0) [ab_R z, l1, l2, l3, l4, l5, l6, l7] (ab_R z :: st) σ Q := ab_r_aload_n rfl kc_X13_breaksAt dX13_breaksAt_14
theorem rX13_breaksAt_15 : ab_Run X 225 15 (5, 0, 0) [l0, l1, ab_I z, l3, l4, l5, l6, l7] st σ Q ↔ ab_Run X 225 16 (5, 0, 0) [l0, l1, ab_I z, l3, l4, l5, l6, l7] (ab_I z :: st) σ Q := ab_r_iload_n rfl kc_X13_breaksAt dX13_breaksAt_15
theorem rX13_breaksAt_16 : ab_Run X 225 16 (5, 0, 0) [l0, l1, l2, l3, ab_I z, l5, l6, l7] st σ Q ↔ ab_Run X 225 18 (5, 0, 0) [l0, l1, l2, l3, ab_I z, l5, l6, l7] (ab_I z :: st) σ Q := ab_r_iload rfl kc_X13_breaksAt dX13_breaksAt_16
theorem rX13_breaksAt_18 : ab_Run X 225 18 (5, 0, 0) L (ab_I x2 :: ab_I x1 :: ab_R a :: st) σ Q ↔ ((ab_sh σ a).1 = 14 ∧ ab_cats st ≤ 8) ∧ ab_Do X 214 [ab_R a, ab_I x1, ab_I x2] σ (fun r σ' => ab_Run X 225 21 (5, 0, 0) L (ab_psh r st) σ' Q) := ab_r_callV (w := [ab_I x2, ab_I x1]) (as := [ab_I x1, ab_I x2]) (b1 := (1, 0, 0)) 0 (Or.inl rfl) (by decide) ko_X13_breaksAt qM_13_455 (by decide) rfl rfl rfl rfl rfl (by decide) (Nat.le_of_ble_eq_true rfl) kc_X13_breaksAt dX13_breaksAt_18
theorem rX13_breaksAt_21 : ab_Run X 225 21 (5, 0, 0) L (ab_I a :: st) σ Q ↔ (a = 0 → ab_Run X 225 28 (5, 0, 0) L st σ Q) ∧ (¬ (a = 0) → ab_Run X 225 24 (5, 0, 0) L st σ Q) := ab_r_if_eq rfl kc_X13_breaksAt dX13_breaksAt_21
theorem rX13_breaksAt_24 : ab_Run X 225 24 (5, 0, 0) L st σ Q ↔ ab_Run X 225 25 (5, 0, 0) L (ab_I 1 :: st) σ Q := ab_r_iconst (by decide) kc_X13_breaksAt dX13_breaksAt_24
theorem rX13_breaksAt_25 : ab_Run X 225 25 (5, 0, 0) L st σ Q ↔ ab_Run X 225 29 (5, 0, 0) L st σ Q := ab_r_goto rfl kc_X13_breaksAt dX13_breaksAt_25
theorem rX13_breaksAt_28 : ab_Run X 225 28 (5, 0, 0) L st σ Q ↔ ab_Run X 225 29 (5, 0, 0) L (ab_I 0 :: st) σ Q := ab_r_iconst (by decide) kc_X13_breaksAt dX13_breaksAt_28
theorem rX13_breaksAt_29 : ab_Run X 225 29 (5, 0, 0) [l0, ab_I z, l2, l3, l4, l5, l6, l7] st σ Q ↔ ab_Run X 225 30 (5, 0, 0) [l0, ab_I z, l2, l3, l4, l5, l6, l7] (ab_I z :: st) σ Q := ab_r_iload_n rfl kc_X13_breaksAt dX13_breaksAt_29
theorem rX13_breaksAt_30 : ab_Run X 225 30 (5, 0, 0) [l0, l1, l2, ab_I z, l4, l5, l6, l7] st σ Q ↔ ab_Run X 225 31 (5, 0, 0) [l0, l1, l2, ab_I z, l4, l5, l6, l7] (ab_I z :: st) σ Q := ab_r_iload_n rfl kc_X13_breaksAt dX13_breaksAt_30
theorem rX13_breaksAt_31 : ab_Run X 225 31 (5, 0, 0) [l0, l1, l2, l3, l4, ab_I z, l6, l7] st σ Q ↔ ab_Run X 225 33 (5, 0, 0) [l0, l1, l2, l3, l4, ab_I z, l6, l7] (ab_I z :: st) σ Q := ab_r_iload rfl kc_X13_breaksAt dX13_breaksAt_31
theorem rX13_breaksAt_33 : ab_Run X 225 33 (5, 0, 0) [l0, l1, l2, l3, l4, l5, ab_I z, l7] st σ Q ↔ ab_Run X 225 35 (5, 0, 0) [l0, l1, l2, l3, l4, l5, ab_I z, l7] (ab_I z :: st) σ Q := ab_r_iload rfl kc_X13_breaksAt dX13_breaksAt_33
theorem rX13_breaksAt_35 : ab_Run X 225 35 (5, 0, 0) L (ab_I x5 :: ab_I x4 :: ab_I x3 :: ab_I x2 :: ab_I x1 :: ab_R a :: st) σ Q ↔ ((ab_sh σ a).1 = 14 ∧ ab_cats st ≤ 8) ∧ ab_Do X 216 [ab_R a, ab_I x1, ab_I x2, ab_I x3, ab_I x4, ab_I x5] σ (fun r σ' => ab_Run X 225 38 (5, 0, 0) L (ab_psh r st) σ' Q) := ab_r_callV (w := [ab_I x5, ab_I x4, ab_I x3, ab_I x2, ab_I x1]) (as := [ab_I x1, ab_I x2, ab_I x3, ab_I x4, ab_I x5]) (b1 := (1, 0, 0)) 0 (Or.inl rfl) (by decide) ko_X13_breaksAt qM_13_458 (by decide) rfl rfl rfl rfl rfl (by decide) (Nat.le_of_ble_eq_true rfl) kc_X13_breaksAt dX13_breaksAt_35
theorem rX13_breaksAt_38 : ab_Run X 225 38 (5, 0, 0) [l0, l1, l2, l3, l4, l5, l6, l7] (ab_I z :: st) σ Q ↔ (!ab_isJ l6) = true ∧ ab_Run X 225 40 (5, 0, 0) [l0, l1, l2, l3, l4, l5, l6, ab_I z] st σ Q := ab_r_istore (Nat.le_of_ble_eq_true rfl) kc_X13_breaksAt dX13_breaksAt_38
theorem rX13_breaksAt_40 : ab_Run X 225 40 (5, 0, 0) [l0, l1, l2, l3, l4, l5, l6, ab_I z] st σ Q ↔ ab_Run X 225 42 (5, 0, 0) [l0, l1, l2, l3, l4, l5, l6, ab_I z] (ab_I z :: st) σ Q := ab_r_iload rfl kc_X13_breaksAt dX13_breaksAt_40
theorem rX13_breaksAt_42 : ab_Run X 225 42 (5, 0, 0) L (ab_I a :: st) σ Q ↔ (a ≤ 0 → ab_Run X 225 52 (5, 0, 0) L st σ Q) ∧ (¬ (a ≤ 0) → ab_Run X 225 45 (5, 0, 0) L st σ Q) := ab_r_if_le rfl kc_X13_breaksAt dX13_breaksAt_42
theorem rX13_breaksAt_45 : ab_Run X 225 45 (5, 0, 0) [ab_R z, l1, l2, l3, l4, l5, l6, l7] st σ Q ↔ z ≠ 0 ∧ ab_Run X 225 46 (5, 0, 0) [ab_R z, l1, l2, l3, l4, l5, l6, l7] (ab_R z :: st) σ Q := ab_r_aload_n rfl kc_X13_breaksAt dX13_breaksAt_45
theorem rX13_breaksAt_46 : ab_Run X 225 46 (5, 0, 0) [l0, l1, l2, l3, l4, l5, l6, ab_I z] st σ Q ↔ ab_Run X 225 48 (5, 0, 0) [l0, l1, l2, l3, l4, l5, l6, ab_I z] (ab_I z :: st) σ Q := ab_r_iload rfl kc_X13_breaksAt dX13_breaksAt_46
theorem rX13_breaksAt_48 : ab_Run X 225 48 (5, 0, 0) L (ab_I x1 :: ab_R a :: st) σ Q ↔ ((ab_sh σ a).1 = 14 ∧ ab_cats st ≤ 8) ∧ ab_Do X 159 [ab_R a, ab_I x1] σ (fun r σ' => ab_Run X 225 51 (5, 0, 0) L (ab_psh r st) σ' Q) := ab_r_callV (w := [ab_I x1]) (as := [ab_I x1]) (b1 := (0, 0, 0)) 0 (Or.inl rfl) (by decide) ko_X13_breaksAt qM_13_59 (by decide) rfl rfl rfl rfl rfl (by decide) (Nat.le_of_ble_eq_true rfl) kc_X13_breaksAt dX13_breaksAt_48
theorem rX13_breaksAt_51 : ab_Run X 225 51 (5, 0, 0) L [ab_I v] σ Q ↔ Q (some (ab_I v)) σ := ab_r_ireturnI rfl kc_X13_breaksAt dX13_breaksAt_51
theorem rX13_breaksAt_52 : ab_Run X 225 52 (5, 0, 0) [ab_R z, l1, l2, l3, l4, l5, l6, l7] st σ Q ↔ z ≠ 0 ∧ ab_Run X 225 53 (5, 0, 0) [ab_R z, l1, l2, l3, l4, l5, l6, l7] (ab_R z :: st) σ Q := ab_r_aload_n rfl kc_X13_breaksAt dX13_breaksAt_52
theorem rX13_breaksAt_53 : ab_Run X 225 53 (5, 0, 0) [l0, ab_I z, l2, l3, l4, l5, l6, l7] st σ Q ↔ ab_Run X 225 54 (5, 0, 0) [l0, ab_I z, l2, l3, l4, l5, l6, l7] (ab_I z :: st) σ Q := ab_r_iload_n rfl kc_X13_breaksAt dX13_breaksAt_53
theorem rX13_breaksAt_54 : ab_Run X 225 54 (5, 0, 0) [l0, l1, ab_I z, l3, l4, l5, l6, l7] st σ Q ↔ ab_Run X 225 55 (5, 0, 0) [l0, l1, ab_I z, l3, l4, l5, l6, l7] (ab_I z :: st) σ Q := ab_r_iload_n rfl kc_X13_breaksAt dX13_breaksAt_54
theorem rX13_breaksAt_55 : ab_Run X 225 55 (5, 0, 0) [l0, l1, l2, ab_I z, l4, l5, l6, l7] st σ Q ↔ ab_Run X 225 56 (5, 0, 0) [l0, l1, l2, ab_I z, l4, l5, l6, l7] (ab_I z :: st) σ Q := ab_r_iload_n rfl kc_X13_breaksAt dX13_breaksAt_55
theorem rX13_breaksAt_56 : ab_Run X 225 56 (5, 0, 0) [l0, l1, l2, l3, ab_I z, l5, l6, l7] st σ Q ↔ ab_Run X 225 58 (5, 0, 0) [l0, l1, l2, l3, ab_I z, l5, l6, l7] (ab_I z :: st) σ Q := ab_r_iload rfl kc_X13_breaksAt dX13_breaksAt_56
theorem rX13_breaksAt_58 : ab_Run X 225 58 (5, 0, 0) [l0, l1, l2, l3, l4, ab_I z, l6, l7] st σ Q ↔ ab_Run X 225 60 (5, 0, 0) [l0, l1, l2, l3, l4, ab_I z, l6, l7] (ab_I z :: st) σ Q := ab_r_iload rfl kc_X13_breaksAt dX13_breaksAt_58
theorem rX13_breaksAt_60 : ab_Run X 225 60 (5, 0, 0) [l0, l1, l2, l3, l4, l5, ab_I z, l7] st σ Q ↔ ab_Run X 225 62 (5, 0, 0) [l0, l1, l2, l3, l4, l5, ab_I z, l7] (ab_I z :: st) σ Q := ab_r_iload rfl kc_X13_breaksAt dX13_breaksAt_60
theorem rX13_breaksAt_62 : ab_Run X 225 62 (5, 0, 0) L (ab_I x6 :: ab_I x5 :: ab_I x4 :: ab_I x3 :: ab_I x2 :: ab_I x1 :: ab_R a :: st) σ Q ↔ ((ab_sh σ a).1 = 14 ∧ ab_cats st ≤ 8) ∧ ab_Do X 202 [ab_R a, ab_I x1, ab_I x2, ab_I x3, ab_I x4, ab_I x5, ab_I x6] σ (fun r σ' => ab_Run X 225 65 (5, 0, 0) L (ab_psh r st) σ' Q) := ab_r_callV (w := [ab_I x6, ab_I x5, ab_I x4, ab_I x3, ab_I x2, ab_I x1]) (as := [ab_I x1, ab_I x2, ab_I x3, ab_I x4, ab_I x5, ab_I x6]) (b1 := (1, 0, 0)) 0 (Or.inl rfl) (by decide) ko_X13_breaksAt qM_13_396 (by decide) rfl rfl rfl rfl rfl (by decide) (Nat.le_of_ble_eq_true rfl) kc_X13_breaksAt dX13_breaksAt_62
theorem rX13_breaksAt_65 : ab_Run X 225 65 (5, 0, 0) [ab_R z, l1, l2, l3, l4, l5, l6, l7] st σ Q ↔ z ≠ 0 ∧ ab_Run X 225 66 (5, 0, 0) [ab_R z, l1, l2, l3, l4, l5, l6, l7] (ab_R z :: st) σ Q := ab_r_aload_n rfl kc_X13_breaksAt dX13_breaksAt_65
theorem rX13_breaksAt_66 : ab_Run X 225 66 (5, 0, 0) L (ab_R a :: st) σ Q ↔ ((ab_sh σ a).1 = 14 ∧ ab_cats st ≤ 8) ∧ ab_Do X 208 [ab_R a] σ (fun r σ' => ab_Run X 225 69 (5, 0, 0) L (ab_psh r st) σ' Q) := ab_r_callV (w := []) (as := []) (b1 := (4, 0, 0)) 0 (Or.inl rfl) (by decide) ko_X13_breaksAt qM_13_433 (by decide) rfl rfl rfl rfl rfl (by decide) (Nat.le_of_ble_eq_true rfl) kc_X13_breaksAt dX13_breaksAt_66
theorem rX13_breaksAt_69I : ab_Run X 225 69 (5, 0, 0) L (ab_I a :: st) σ Q ↔ ab_Run X 225 70 (5, 0, 0) L st σ Q := ab_r_popI kc_X13_breaksAt dX13_breaksAt_69
theorem rX13_breaksAt_69R : ab_Run X 225 69 (5, 0, 0) L (ab_R a :: st) σ Q ↔ ab_Run X 225 70 (5, 0, 0) L st σ Q := ab_r_popR kc_X13_breaksAt dX13_breaksAt_69
theorem rX13_breaksAt_70 : ab_Run X 225 70 (5, 0, 0) [ab_R z, l1, l2, l3, l4, l5, l6, l7] st σ Q ↔ z ≠ 0 ∧ ab_Run X 225 71 (5, 0, 0) [ab_R z, l1, l2, l3, l4, l5, l6, l7] (ab_R z :: st) σ Q := ab_r_aload_n rfl kc_X13_breaksAt dX13_breaksAt_70
theorem rX13_breaksAt_71 : ab_Run X 225 71 (5, 0, 0) [ab_R z, l1, l2, l3, l4, l5, l6, l7] st σ Q ↔ z ≠ 0 ∧ ab_Run X 225 72 (5, 0, 0) [ab_R z, l1, l2, l3, l4, l5, l6, l7] (ab_R z :: st) σ Q := ab_r_aload_n rfl kc_X13_breaksAt dX13_breaksAt_71
theorem rX13_breaksAt_72 : ab_Run X 225 72 (5, 0, 0) L (ab_R a :: st) σ Q ↔ (ab_sh σ a).1 = 14 ∧ ab_Run X 225 75 (5, 0, 0) L (ab_I (ab_rd σ a 25) :: st) σ Q := gF_13_419 ko_X13_breaksAt kc_X13_breaksAt dX13_breaksAt_72
theorem rX13_breaksAt_75 : ab_Run X 225 75 (5, 0, 0) L st σ Q ↔ ab_Run X 225 76 (5, 0, 0) L (ab_I (-1) :: st) σ Q := ab_r_iconst (by decide) kc_X13_breaksAt dX13_breaksAt_75
theorem rX13_breaksAt_76 : ab_Run X 225 76 (5, 0, 0) L (ab_I b :: ab_I a :: st) σ Q ↔ (¬ a = b → ab_Run X 225 84 (5, 0, 0) L st σ Q) ∧ (¬ (¬ a = b) → ab_Run X 225 79 (5, 0, 0) L st σ Q) := ab_r_icmp_ne rfl kc_X13_breaksAt dX13_breaksAt_76
theorem rX13_breaksAt_79 : ab_Run X 225 79 (5, 0, 0) L st σ Q ↔ ab_Run X 225 81 (5, 0, 0) L (ab_I (-2) :: st) σ Q := ab_r_bipush (by decide) kc_X13_breaksAt dX13_breaksAt_79
theorem rX13_breaksAt_81 : ab_Run X 225 81 (5, 0, 0) L st σ Q ↔ ab_Run X 225 96 (5, 0, 0) L st σ Q := ab_r_goto rfl kc_X13_breaksAt dX13_breaksAt_81
theorem rX13_breaksAt_84 : ab_Run X 225 84 (5, 0, 0) L st σ Q ↔ ab_Run X 225 86 (5, 0, 0) L (ab_I 10 :: st) σ Q := ab_r_bipush (by decide) kc_X13_breaksAt dX13_breaksAt_84
theorem rX13_breaksAt_86 : ab_Run X 225 86 (5, 0, 0) [ab_R z, l1, l2, l3, l4, l5, l6, l7] st σ Q ↔ z ≠ 0 ∧ ab_Run X 225 87 (5, 0, 0) [ab_R z, l1, l2, l3, l4, l5, l6, l7] (ab_R z :: st) σ Q := ab_r_aload_n rfl kc_X13_breaksAt dX13_breaksAt_86
theorem rX13_breaksAt_87 : ab_Run X 225 87 (5, 0, 0) L (ab_R a :: st) σ Q ↔ (ab_sh σ a).1 = 14 ∧ ab_Run X 225 90 (5, 0, 0) L (ab_I (ab_rd σ a 25) :: st) σ Q := gF_13_419 ko_X13_breaksAt kc_X13_breaksAt dX13_breaksAt_87
theorem rX13_breaksAt_90 : ab_Run X 225 90 (5, 0, 0) L (ab_I b :: ab_I a :: st) σ Q ↔ ab_Run X 225 91 (5, 0, 0) L (ab_I (ab_w32 (a * b)) :: st) σ Q := ab_r_imul kc_X13_breaksAt dX13_breaksAt_90
theorem rX13_breaksAt_91 : ab_Run X 225 91 (5, 0, 0) [ab_R z, l1, l2, l3, l4, l5, l6, l7] st σ Q ↔ z ≠ 0 ∧ ab_Run X 225 92 (5, 0, 0) [ab_R z, l1, l2, l3, l4, l5, l6, l7] (ab_R z :: st) σ Q := ab_r_aload_n rfl kc_X13_breaksAt dX13_breaksAt_91
theorem rX13_breaksAt_92 : ab_Run X 225 92 (5, 0, 0) L (ab_R a :: st) σ Q ↔ (ab_sh σ a).1 = 14 ∧ ab_Run X 225 95 (5, 0, 0) L (ab_I (ab_rd σ a 26) :: st) σ Q := gF_13_427 ko_X13_breaksAt kc_X13_breaksAt dX13_breaksAt_92
theorem rX13_breaksAt_95 : ab_Run X 225 95 (5, 0, 0) L (ab_I b :: ab_I a :: st) σ Q ↔ ab_Run X 225 96 (5, 0, 0) L (ab_I (ab_w32 (a + b)) :: st) σ Q := ab_r_iadd kc_X13_breaksAt dX13_breaksAt_95
theorem rX13_breaksAt_96 : ab_Run X 225 96 (5, 0, 0) L (ab_I x1 :: ab_R a :: st) σ Q ↔ ((ab_sh σ a).1 = 14 ∧ ab_cats st ≤ 8) ∧ ab_Do X 161 [ab_R a, ab_I x1] σ (fun r σ' => ab_Run X 225 99 (5, 0, 0) L (ab_psh r st) σ' Q) := ab_r_callV (w := [ab_I x1]) (as := [ab_I x1]) (b1 := (0, 0, 0)) 0 (Or.inl rfl) (by decide) ko_X13_breaksAt qM_13_63 (by decide) rfl rfl rfl rfl rfl (by decide) (Nat.le_of_ble_eq_true rfl) kc_X13_breaksAt dX13_breaksAt_96
theorem rX13_breaksAt_99 : ab_Run X 225 99 (5, 0, 0) L [ab_I v] σ Q ↔ Q (some (ab_I v)) σ := ab_r_ireturnI rfl kc_X13_breaksAt dX13_breaksAt_99
theorem kc_X13_flawed : ab_code 226 = cX13_flawed := rfl
theorem ko_X13_flawed : ab_ow 226 = 13 := rfl
theorem rX13_flawed_0 : ab_Run X 226 0 (5, 0, 0) [ab_R z, l1, l2, l3, l4, l5, l6, l7, l8, l9] st σ Q ↔ z ≠ 0 ∧ ab_Run X 226 1 (5, 0, 0) [ab_R z, l1, l2, l3, l4, l5, l6, l7, l8, l9] (ab_R z :: st) σ Q := ab_r_aload_n rfl kc_X13_flawed dX13_flawed_0
theorem rX13_flawed_1 : ab_Run X 226 1 (5, 0, 0) L st σ Q ↔ ab_Run X 226 2 (5, 0, 0) L (ab_I 0 :: st) σ Q := ab_r_iconst (by decide) kc_X13_flawed dX13_flawed_1
theorem rX13_flawed_2 : ab_Run X 226 2 (5, 0, 0) L (ab_I z :: ab_R a :: st) σ Q ↔ (ab_sh σ a).1 = 14 ∧ ab_Run X 226 5 (5, 0, 0) L st (ab_wr σ a 0 z) Q := sF_13_53 ko_X13_flawed kc_X13_flawed dX13_flawed_2
theorem rX13_flawed_5 : ab_Run X 226 5 (5, 0, 0) [ab_R z, l1, l2, l3, l4, l5, l6, l7, l8, l9] st σ Q ↔ z ≠ 0 ∧ ab_Run X 226 6 (5, 0, 0) [ab_R z, l1, l2, l3, l4, l5, l6, l7, l8, l9] (ab_R z :: st) σ Q := ab_r_aload_n rfl kc_X13_flawed dX13_flawed_5
theorem rX13_flawed_6 : ab_Run X 226 6 (5, 0, 0) [ab_R z, l1, l2, l3, l4, l5, l6, l7, l8, l9] st σ Q ↔ z ≠ 0 ∧ ab_Run X 226 7 (5, 0, 0) [ab_R z, l1, l2, l3, l4, l5, l6, l7, l8, l9] (ab_R z :: st) σ Q := ab_r_aload_n rfl kc_X13_flawed dX13_flawed_6
theorem rX13_flawed_7 : ab_Run X 226 7 (5, 0, 0) [l0, ab_I z, l2, l3, l4, l5, l6, l7, l8, l9] st σ Q ↔ ab_Run X 226 8 (5, 0, 0) [l0, ab_I z, l2, l3, l4, l5, l6, l7, l8, l9] (ab_I z :: st) σ Q := ab_r_iload_n rfl kc_X13_flawed dX13_flawed_7
theorem rX13_flawed_8 : ab_Run X 226 8 (5, 0, 0) [l0, l1, l2, l3, l4, l5, l6, ab_I z, l8, l9] st σ Q ↔ ab_Run X 226 10 (5, 0, 0) [l0, l1, l2, l3, l4, l5, l6, ab_I z, l8, l9] (ab_I z :: st) σ Q := ab_r_iload rfl kc_X13_flawed dX13_flawed_8
theorem rX13_flawed_10 : ab_Run X 226 10 (5, 0, 0) [l0, l1, l2, l3, l4, l5, l6, l7, ab_I z, l9] st σ Q ↔ ab_Run X 226 12 (5, 0, 0) [l0, l1, l2, l3, l4, l5, l6, l7, ab_I z, l9] (ab_I z :: st) σ Q := ab_r_iload rfl kc_X13_flawed dX13_flawed_10
theorem rX13_flawed_12 : ab_Run X 226 12 (5, 0, 0) L (ab_I x3 :: ab_I x2 :: ab_I x1 :: ab_R a :: st) σ Q ↔ ((ab_sh σ a).1 = 14 ∧ ab_cats st ≤ 8) ∧ ab_Do X 215 [ab_R a, ab_I x1, ab_I x2, ab_I x3] σ (fun r σ' => ab_Run X 226 15 (5, 0, 0) L (ab_psh r st) σ' Q) := ab_r_callV (w := [ab_I x3, ab_I x2, ab_I x1]) (as := [ab_I x1, ab_I x2, ab_I x3]) (b1 := (1, 0, 0)) 0 (Or.inl rfl) (by decide) ko_X13_flawed qM_13_446 (by decide) rfl rfl rfl rfl rfl (by decide) (Nat.le_of_ble_eq_true rfl) kc_X13_flawed dX13_flawed_12
theorem rX13_flawed_15 : ab_Run X 226 15 (5, 0, 0) L (ab_I a :: st) σ Q ↔ (a = 0 → ab_Run X 226 32 (5, 0, 0) L st σ Q) ∧ (¬ (a = 0) → ab_Run X 226 18 (5, 0, 0) L st σ Q) := ab_r_if_eq rfl kc_X13_flawed dX13_flawed_15
theorem rX13_flawed_18 : ab_Run X 226 18 (5, 0, 0) [ab_R z, l1, l2, l3, l4, l5, l6, l7, l8, l9] st σ Q ↔ z ≠ 0 ∧ ab_Run X 226 19 (5, 0, 0) [ab_R z, l1, l2, l3, l4, l5, l6, l7, l8, l9] (ab_R z :: st) σ Q := ab_r_aload_n rfl kc_X13_flawed dX13_flawed_18
theorem rX13_flawed_19 : ab_Run X 226 19 (5, 0, 0) [l0, l1, ab_I z, l3, l4, l5, l6, l7, l8, l9] st σ Q ↔ ab_Run X 226 20 (5, 0, 0) [l0, l1, ab_I z, l3, l4, l5, l6, l7, l8, l9] (ab_I z :: st) σ Q := ab_r_iload_n rfl kc_X13_flawed dX13_flawed_19
theorem rX13_flawed_20 : ab_Run X 226 20 (5, 0, 0) [l0, l1, l2, l3, ab_I z, l5, l6, l7, l8, l9] st σ Q ↔ ab_Run X 226 22 (5, 0, 0) [l0, l1, l2, l3, ab_I z, l5, l6, l7, l8, l9] (ab_I z :: st) σ Q := ab_r_iload rfl kc_X13_flawed dX13_flawed_20
theorem rX13_flawed_22 : ab_Run X 226 22 (5, 0, 0) L (ab_I x2 :: ab_I x1 :: ab_R a :: st) σ Q ↔ ((ab_sh σ a).1 = 14 ∧ ab_cats st ≤ 8) ∧ ab_Do X 214 [ab_R a, ab_I x1, ab_I x2] σ (fun r σ' => ab_Run X 226 25 (5, 0, 0) L (ab_psh r st) σ' Q) := ab_r_callV (w := [ab_I x2, ab_I x1]) (as := [ab_I x1, ab_I x2]) (b1 := (1, 0, 0)) 0 (Or.inl rfl) (by decide) ko_X13_flawed qM_13_455 (by decide) rfl rfl rfl rfl rfl (by decide) (Nat.le_of_ble_eq_true rfl) kc_X13_flawed dX13_flawed_22
theorem rX13_flawed_25 : ab_Run X 226 25 (5, 0, 0) L (ab_I a :: st) σ Q ↔ (a = 0 → ab_Run X 226 32 (5, 0, 0) L st σ Q) ∧ (¬ (a = 0) → ab_Run X 226 28 (5, 0, 0) L st σ Q) := ab_r_if_eq rfl kc_X13_flawed dX13_flawed_25
theorem rX13_flawed_28 : ab_Run X 226 28 (5, 0, 0) L st σ Q ↔ ab_Run X 226 29 (5, 0, 0) L (ab_I 1 :: st) σ Q := ab_r_iconst (by decide) kc_X13_flawed dX13_flawed_28
theorem rX13_flawed_29 : ab_Run X 226 29 (5, 0, 0) L st σ Q ↔ ab_Run X 226 33 (5, 0, 0) L st σ Q := ab_r_goto rfl kc_X13_flawed dX13_flawed_29
theorem rX13_flawed_32 : ab_Run X 226 32 (5, 0, 0) L st σ Q ↔ ab_Run X 226 33 (5, 0, 0) L (ab_I 0 :: st) σ Q := ab_r_iconst (by decide) kc_X13_flawed dX13_flawed_32
theorem rX13_flawed_33 : ab_Run X 226 33 (5, 0, 0) [l0, ab_I z, l2, l3, l4, l5, l6, l7, l8, l9] st σ Q ↔ ab_Run X 226 34 (5, 0, 0) [l0, ab_I z, l2, l3, l4, l5, l6, l7, l8, l9] (ab_I z :: st) σ Q := ab_r_iload_n rfl kc_X13_flawed dX13_flawed_33
theorem rX13_flawed_34 : ab_Run X 226 34 (5, 0, 0) [l0, l1, l2, ab_I z, l4, l5, l6, l7, l8, l9] st σ Q ↔ ab_Run X 226 35 (5, 0, 0) [l0, l1, l2, ab_I z, l4, l5, l6, l7, l8, l9] (ab_I z :: st) σ Q := ab_r_iload_n rfl kc_X13_flawed dX13_flawed_34
theorem rX13_flawed_35 : ab_Run X 226 35 (5, 0, 0) [l0, l1, l2, l3, l4, ab_I z, l6, l7, l8, l9] st σ Q ↔ ab_Run X 226 37 (5, 0, 0) [l0, l1, l2, l3, l4, ab_I z, l6, l7, l8, l9] (ab_I z :: st) σ Q := ab_r_iload rfl kc_X13_flawed dX13_flawed_35
theorem rX13_flawed_37 : ab_Run X 226 37 (5, 0, 0) [l0, l1, l2, l3, l4, l5, ab_I z, l7, l8, l9] st σ Q ↔ ab_Run X 226 39 (5, 0, 0) [l0, l1, l2, l3, l4, l5, ab_I z, l7, l8, l9] (ab_I z :: st) σ Q := ab_r_iload rfl kc_X13_flawed dX13_flawed_37
theorem rX13_flawed_39 : ab_Run X 226 39 (5, 0, 0) L (ab_I x5 :: ab_I x4 :: ab_I x3 :: ab_I x2 :: ab_I x1 :: ab_R a :: st) σ Q ↔ ((ab_sh σ a).1 = 14 ∧ ab_cats st ≤ 8) ∧ ab_Do X 216 [ab_R a, ab_I x1, ab_I x2, ab_I x3, ab_I x4, ab_I x5] σ (fun r σ' => ab_Run X 226 42 (5, 0, 0) L (ab_psh r st) σ' Q) := ab_r_callV (w := [ab_I x5, ab_I x4, ab_I x3, ab_I x2, ab_I x1]) (as := [ab_I x1, ab_I x2, ab_I x3, ab_I x4, ab_I x5]) (b1 := (1, 0, 0)) 0 (Or.inl rfl) (by decide) ko_X13_flawed qM_13_458 (by decide) rfl rfl rfl rfl rfl (by decide) (Nat.le_of_ble_eq_true rfl) kc_X13_flawed dX13_flawed_39
theorem rX13_flawed_42 : ab_Run X 226 42 (5, 0, 0) [l0, l1, l2, l3, l4, l5, l6, l7, l8, l9] (ab_I z :: st) σ Q ↔ (!ab_isJ l8) = true ∧ ab_Run X 226 44 (5, 0, 0) [l0, l1, l2, l3, l4, l5, l6, l7, l8, ab_I z] st σ Q := ab_r_istore (Nat.le_of_ble_eq_true rfl) kc_X13_flawed dX13_flawed_42
theorem rX13_flawed_44 : ab_Run X 226 44 (5, 0, 0) [l0, l1, l2, l3, l4, l5, l6, l7, l8, ab_I z] st σ Q ↔ ab_Run X 226 46 (5, 0, 0) [l0, l1, l2, l3, l4, l5, l6, l7, l8, ab_I z] (ab_I z :: st) σ Q := ab_r_iload rfl kc_X13_flawed dX13_flawed_44
theorem rX13_flawed_46 : ab_Run X 226 46 (5, 0, 0) L (ab_I a :: st) σ Q ↔ (a ≤ 0 → ab_Run X 226 56 (5, 0, 0) L st σ Q) ∧ (¬ (a ≤ 0) → ab_Run X 226 49 (5, 0, 0) L st σ Q) := ab_r_if_le rfl kc_X13_flawed dX13_flawed_46
theorem rX13_flawed_49 : ab_Run X 226 49 (5, 0, 0) [ab_R z, l1, l2, l3, l4, l5, l6, l7, l8, l9] st σ Q ↔ z ≠ 0 ∧ ab_Run X 226 50 (5, 0, 0) [ab_R z, l1, l2, l3, l4, l5, l6, l7, l8, l9] (ab_R z :: st) σ Q := ab_r_aload_n rfl kc_X13_flawed dX13_flawed_49
theorem rX13_flawed_50 : ab_Run X 226 50 (5, 0, 0) [l0, l1, l2, l3, l4, l5, l6, l7, l8, ab_I z] st σ Q ↔ ab_Run X 226 52 (5, 0, 0) [l0, l1, l2, l3, l4, l5, l6, l7, l8, ab_I z] (ab_I z :: st) σ Q := ab_r_iload rfl kc_X13_flawed dX13_flawed_50
theorem rX13_flawed_52 : ab_Run X 226 52 (5, 0, 0) L (ab_I x1 :: ab_R a :: st) σ Q ↔ ((ab_sh σ a).1 = 14 ∧ ab_cats st ≤ 8) ∧ ab_Do X 159 [ab_R a, ab_I x1] σ (fun r σ' => ab_Run X 226 55 (5, 0, 0) L (ab_psh r st) σ' Q) := ab_r_callV (w := [ab_I x1]) (as := [ab_I x1]) (b1 := (0, 0, 0)) 0 (Or.inl rfl) (by decide) ko_X13_flawed qM_13_59 (by decide) rfl rfl rfl rfl rfl (by decide) (Nat.le_of_ble_eq_true rfl) kc_X13_flawed dX13_flawed_52
theorem rX13_flawed_55 : ab_Run X 226 55 (5, 0, 0) L [ab_I v] σ Q ↔ Q (some (ab_I v)) σ := ab_r_ireturnI rfl kc_X13_flawed dX13_flawed_55
theorem rX13_flawed_56 : ab_Run X 226 56 (5, 0, 0) [ab_R z, l1, l2, l3, l4, l5, l6, l7, l8, l9] st σ Q ↔ z ≠ 0 ∧ ab_Run X 226 57 (5, 0, 0) [ab_R z, l1, l2, l3, l4, l5, l6, l7, l8, l9] (ab_R z :: st) σ Q := ab_r_aload_n rfl kc_X13_flawed dX13_flawed_56
theorem rX13_flawed_57 : ab_Run X 226 57 (5, 0, 0) [l0, ab_I z, l2, l3, l4, l5, l6, l7, l8, l9] st σ Q ↔ ab_Run X 226 58 (5, 0, 0) [l0, ab_I z, l2, l3, l4, l5, l6, l7, l8, l9] (ab_I z :: st) σ Q := ab_r_iload_n rfl kc_X13_flawed dX13_flawed_57
theorem rX13_flawed_58 : ab_Run X 226 58 (5, 0, 0) [l0, l1, ab_I z, l3, l4, l5, l6, l7, l8, l9] st σ Q ↔ ab_Run X 226 59 (5, 0, 0) [l0, l1, ab_I z, l3, l4, l5, l6, l7, l8, l9] (ab_I z :: st) σ Q := ab_r_iload_n rfl kc_X13_flawed dX13_flawed_58
theorem rX13_flawed_59 : ab_Run X 226 59 (5, 0, 0) [l0, l1, l2, ab_I z, l4, l5, l6, l7, l8, l9] st σ Q ↔ ab_Run X 226 60 (5, 0, 0) [l0, l1, l2, ab_I z, l4, l5, l6, l7, l8, l9] (ab_I z :: st) σ Q := ab_r_iload_n rfl kc_X13_flawed dX13_flawed_59
theorem rX13_flawed_60 : ab_Run X 226 60 (5, 0, 0) [l0, l1, l2, l3, ab_I z, l5, l6, l7, l8, l9] st σ Q ↔ ab_Run X 226 62 (5, 0, 0) [l0, l1, l2, l3, ab_I z, l5, l6, l7, l8, l9] (ab_I z :: st) σ Q := ab_r_iload rfl kc_X13_flawed dX13_flawed_60
theorem rX13_flawed_62 : ab_Run X 226 62 (5, 0, 0) [l0, l1, l2, l3, l4, ab_I z, l6, l7, l8, l9] st σ Q ↔ ab_Run X 226 64 (5, 0, 0) [l0, l1, l2, l3, l4, ab_I z, l6, l7, l8, l9] (ab_I z :: st) σ Q := ab_r_iload rfl kc_X13_flawed dX13_flawed_62
theorem rX13_flawed_64 : ab_Run X 226 64 (5, 0, 0) [l0, l1, l2, l3, l4, l5, ab_I z, l7, l8, l9] st σ Q ↔ ab_Run X 226 66 (5, 0, 0) [l0, l1, l2, l3, l4, l5, ab_I z, l7, l8, l9] (ab_I z :: st) σ Q := ab_r_iload rfl kc_X13_flawed dX13_flawed_64
theorem rX13_flawed_66 : ab_Run X 226 66 (5, 0, 0) L (ab_I x6 :: ab_I x5 :: ab_I x4 :: ab_I x3 :: ab_I x2 :: ab_I x1 :: ab_R a :: st) σ Q ↔ ((ab_sh σ a).1 = 14 ∧ ab_cats st ≤ 8) ∧ ab_Do X 202 [ab_R a, ab_I x1, ab_I x2, ab_I x3, ab_I x4, ab_I x5, ab_I x6] σ (fun r σ' => ab_Run X 226 69 (5, 0, 0) L (ab_psh r st) σ' Q) := ab_r_callV (w := [ab_I x6, ab_I x5, ab_I x4, ab_I x3, ab_I x2, ab_I x1]) (as := [ab_I x1, ab_I x2, ab_I x3, ab_I x4, ab_I x5, ab_I x6]) (b1 := (1, 0, 0)) 0 (Or.inl rfl) (by decide) ko_X13_flawed qM_13_396 (by decide) rfl rfl rfl rfl rfl (by decide) (Nat.le_of_ble_eq_true rfl) kc_X13_flawed dX13_flawed_66
theorem rX13_flawed_69 : ab_Run X 226 69 (5, 0, 0) [ab_R z, l1, l2, l3, l4, l5, l6, l7, l8, l9] st σ Q ↔ z ≠ 0 ∧ ab_Run X 226 70 (5, 0, 0) [ab_R z, l1, l2, l3, l4, l5, l6, l7, l8, l9] (ab_R z :: st) σ Q := ab_r_aload_n rfl kc_X13_flawed dX13_flawed_69
theorem rX13_flawed_70 : ab_Run X 226 70 (5, 0, 0) [l0, l1, l2, l3, l4, l5, l6, ab_I z, l8, l9] st σ Q ↔ ab_Run X 226 72 (5, 0, 0) [l0, l1, l2, l3, l4, l5, l6, ab_I z, l8, l9] (ab_I z :: st) σ Q := ab_r_iload rfl kc_X13_flawed dX13_flawed_70
theorem rX13_flawed_72 : ab_Run X 226 72 (5, 0, 0) L (ab_I z :: ab_R a :: st) σ Q ↔ (ab_sh σ a).1 = 14 ∧ ab_Run X 226 75 (5, 0, 0) L st (ab_wr σ a 23 z) Q := sF_13_389 ko_X13_flawed kc_X13_flawed dX13_flawed_72
theorem rX13_flawed_75 : ab_Run X 226 75 (5, 0, 0) [ab_R z, l1, l2, l3, l4, l5, l6, l7, l8, l9] st σ Q ↔ z ≠ 0 ∧ ab_Run X 226 76 (5, 0, 0) [ab_R z, l1, l2, l3, l4, l5, l6, l7, l8, l9] (ab_R z :: st) σ Q := ab_r_aload_n rfl kc_X13_flawed dX13_flawed_75
theorem rX13_flawed_76 : ab_Run X 226 76 (5, 0, 0) [l0, l1, l2, l3, l4, l5, l6, l7, ab_I z, l9] st σ Q ↔ ab_Run X 226 78 (5, 0, 0) [l0, l1, l2, l3, l4, l5, l6, l7, ab_I z, l9] (ab_I z :: st) σ Q := ab_r_iload rfl kc_X13_flawed dX13_flawed_76
theorem rX13_flawed_78 : ab_Run X 226 78 (5, 0, 0) L (ab_I z :: ab_R a :: st) σ Q ↔ (ab_sh σ a).1 = 14 ∧ ab_Run X 226 81 (5, 0, 0) L st (ab_wr σ a 24 z) Q := sF_13_403 ko_X13_flawed kc_X13_flawed dX13_flawed_78
theorem rX13_flawed_81 : ab_Run X 226 81 (5, 0, 0) [ab_R z, l1, l2, l3, l4, l5, l6, l7, l8, l9] st σ Q ↔ z ≠ 0 ∧ ab_Run X 226 82 (5, 0, 0) [ab_R z, l1, l2, l3, l4, l5, l6, l7, l8, l9] (ab_R z :: st) σ Q := ab_r_aload_n rfl kc_X13_flawed dX13_flawed_81
theorem rX13_flawed_82 : ab_Run X 226 82 (5, 0, 0) [ab_R z, l1, l2, l3, l4, l5, l6, l7, l8, l9] st σ Q ↔ z ≠ 0 ∧ ab_Run X 226 83 (5, 0, 0) [ab_R z, l1, l2, l3, l4, l5, l6, l7, l8, l9] (ab_R z :: st) σ Q := ab_r_aload_n rfl kc_X13_flawed dX13_flawed_82
theorem rX13_flawed_83 : ab_Run X 226 83 (5, 0, 0) L (ab_R a :: st) σ Q ↔ ((ab_sh σ a).1 = 14 ∧ ab_cats st ≤ 8) ∧ ab_Do X 208 [ab_R a] σ (fun r σ' => ab_Run X 226 86 (5, 0, 0) L (ab_psh r st) σ' Q) := ab_r_callV (w := []) (as := []) (b1 := (4, 0, 0)) 0 (Or.inl rfl) (by decide) ko_X13_flawed qM_13_433 (by decide) rfl rfl rfl rfl rfl (by decide) (Nat.le_of_ble_eq_true rfl) kc_X13_flawed dX13_flawed_83
theorem rX13_flawed_86 : ab_Run X 226 86 (5, 0, 0) L (ab_I x1 :: ab_R a :: st) σ Q ↔ ((ab_sh σ a).1 = 14 ∧ ab_cats st ≤ 8) ∧ ab_Do X 161 [ab_R a, ab_I x1] σ (fun r σ' => ab_Run X 226 89 (5, 0, 0) L (ab_psh r st) σ' Q) := ab_r_callV (w := [ab_I x1]) (as := [ab_I x1]) (b1 := (0, 0, 0)) 0 (Or.inl rfl) (by decide) ko_X13_flawed qM_13_63 (by decide) rfl rfl rfl rfl rfl (by decide) (Nat.le_of_ble_eq_true rfl) kc_X13_flawed dX13_flawed_86
theorem rX13_flawed_89 : ab_Run X 226 89 (5, 0, 0) L [ab_I v] σ Q ↔ Q (some (ab_I v)) σ := ab_r_ireturnI rfl kc_X13_flawed dX13_flawed_89
end
