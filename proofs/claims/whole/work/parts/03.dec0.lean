theorem dX0_init_0 : decode cX0_init 0 = .ok (.aload_n 0, 1) := by decide +kernel
theorem dX0_init_1 : decode cX0_init 1 = .ok (.invokespecial 3, 3) := by decide +kernel
theorem dX0_init_4 : decode cX0_init 4 = .ok (.aload_n 0, 1) := by decide +kernel
theorem dX0_init_5 : decode cX0_init 5 = .ok (.bipush 6, 2) := by decide +kernel
theorem dX0_init_7 : decode cX0_init 7 = .ok (.newarray .int, 2) := by decide +kernel
theorem dX0_init_9 : decode cX0_init 9 = .ok (.putfield 9, 3) := by decide +kernel
theorem dX0_init_12 : decode cX0_init 12 = .ok (.aload_n 0, 1) := by decide +kernel
theorem dX0_init_13 : decode cX0_init 13 = .ok (.bipush 6, 2) := by decide +kernel
theorem dX0_init_15 : decode cX0_init 15 = .ok (.newarray .int, 2) := by decide +kernel
theorem dX0_init_17 : decode cX0_init 17 = .ok (.putfield 15, 3) := by decide +kernel
theorem dX0_init_20 : decode cX0_init 20 = .ok (.aload_n 0, 1) := by decide +kernel
theorem dX0_init_21 : decode cX0_init 21 = .ok (.bipush 7, 2) := by decide +kernel
theorem dX0_init_23 : decode cX0_init 23 = .ok (.newarray .int, 2) := by decide +kernel
theorem dX0_init_25 : decode cX0_init 25 = .ok (.putfield 18, 3) := by decide +kernel
theorem dX0_init_28 : decode cX0_init 28 = .ok (.aload_n 0, 1) := by decide +kernel
theorem dX0_init_29 : decode cX0_init 29 = .ok (.bipush 7, 2) := by decide +kernel
theorem dX0_init_31 : decode cX0_init 31 = .ok (.newarray .int, 2) := by decide +kernel
theorem dX0_init_33 : decode cX0_init 33 = .ok (.putfield 21, 3) := by decide +kernel
theorem dX0_init_36 : decode cX0_init 36 = .ok (.aload_n 0, 1) := by decide +kernel
theorem dX0_init_37 : decode cX0_init 37 = .ok (.bipush 7, 2) := by decide +kernel
theorem dX0_init_39 : decode cX0_init 39 = .ok (.newarray .int, 2) := by decide +kernel
theorem dX0_init_41 : decode cX0_init 41 = .ok (.putfield 24, 3) := by decide +kernel
theorem dX0_init_44 : decode cX0_init 44 = .ok (.return_, 1) := by decide +kernel
theorem dX0_setPlaces_0 : decode cX0_setPlaces 0 = .ok (.aload_n 0, 1) := by decide +kernel
theorem dX0_setPlaces_1 : decode cX0_setPlaces 1 = .ok (.aload_n 1, 1) := by decide +kernel
theorem dX0_setPlaces_2 : decode cX0_setPlaces 2 = .ok (.getfield 27, 3) := by decide +kernel
theorem dX0_setPlaces_5 : decode cX0_setPlaces 5 = .ok (.iload_n 2, 1) := by decide +kernel
theorem dX0_setPlaces_6 : decode cX0_setPlaces 6 = .ok (.iaload, 1) := by decide +kernel
theorem dX0_setPlaces_7 : decode cX0_setPlaces 7 = .ok (.putfield 32, 3) := by decide +kernel
theorem dX0_setPlaces_10 : decode cX0_setPlaces 10 = .ok (.iconst 0, 1) := by decide +kernel
theorem dX0_setPlaces_11 : decode cX0_setPlaces 11 = .ok (.istore 5, 2) := by decide +kernel
theorem dX0_setPlaces_13 : decode cX0_setPlaces 13 = .ok (.iload 5, 2) := by decide +kernel
theorem dX0_setPlaces_15 : decode cX0_setPlaces 15 = .ok (.aload_n 0, 1) := by decide +kernel
theorem dX0_setPlaces_16 : decode cX0_setPlaces 16 = .ok (.getfield 32, 3) := by decide +kernel
theorem dX0_setPlaces_19 : decode cX0_setPlaces 19 = .ok (.if_icmp .ge 43, 3) := by decide +kernel
theorem dX0_setPlaces_22 : decode cX0_setPlaces 22 = .ok (.aload_n 0, 1) := by decide +kernel
theorem dX0_setPlaces_23 : decode cX0_setPlaces 23 = .ok (.getfield 15, 3) := by decide +kernel
theorem dX0_setPlaces_26 : decode cX0_setPlaces 26 = .ok (.iload 5, 2) := by decide +kernel
theorem dX0_setPlaces_28 : decode cX0_setPlaces 28 = .ok (.aload_n 1, 1) := by decide +kernel
theorem dX0_setPlaces_29 : decode cX0_setPlaces 29 = .ok (.getfield 35, 3) := by decide +kernel
theorem dX0_setPlaces_32 : decode cX0_setPlaces 32 = .ok (.bipush 6, 2) := by decide +kernel
theorem dX0_setPlaces_34 : decode cX0_setPlaces 34 = .ok (.iload_n 2, 1) := by decide +kernel
theorem dX0_setPlaces_35 : decode cX0_setPlaces 35 = .ok (.imul, 1) := by decide +kernel
theorem dX0_setPlaces_36 : decode cX0_setPlaces 36 = .ok (.iload 5, 2) := by decide +kernel
theorem dX0_setPlaces_38 : decode cX0_setPlaces 38 = .ok (.iadd, 1) := by decide +kernel
theorem dX0_setPlaces_39 : decode cX0_setPlaces 39 = .ok (.iaload, 1) := by decide +kernel
theorem dX0_setPlaces_40 : decode cX0_setPlaces 40 = .ok (.iload_n 3, 1) := by decide +kernel
theorem dX0_setPlaces_41 : decode cX0_setPlaces 41 = .ok (.imul, 1) := by decide +kernel
theorem dX0_setPlaces_42 : decode cX0_setPlaces 42 = .ok (.iload 5, 2) := by decide +kernel
theorem dX0_setPlaces_44 : decode cX0_setPlaces 44 = .ok (.iconst 2, 1) := by decide +kernel
theorem dX0_setPlaces_45 : decode cX0_setPlaces 45 = .ok (.if_icmp .ge 8, 3) := by decide +kernel
theorem dX0_setPlaces_48 : decode cX0_setPlaces 48 = .ok (.iload 4, 2) := by decide +kernel
theorem dX0_setPlaces_50 : decode cX0_setPlaces 50 = .ok (.goto 4, 3) := by decide +kernel
theorem dX0_setPlaces_53 : decode cX0_setPlaces 53 = .ok (.iconst 0, 1) := by decide +kernel
theorem dX0_setPlaces_54 : decode cX0_setPlaces 54 = .ok (.iadd, 1) := by decide +kernel
theorem dX0_setPlaces_55 : decode cX0_setPlaces 55 = .ok (.iastore, 1) := by decide +kernel
theorem dX0_setPlaces_56 : decode cX0_setPlaces 56 = .ok (.iinc 5 1, 3) := by decide +kernel
theorem dX0_setPlaces_59 : decode cX0_setPlaces 59 = .ok (.goto (-46), 3) := by decide +kernel
theorem dX0_setPlaces_62 : decode cX0_setPlaces 62 = .ok (.return_, 1) := by decide +kernel
theorem dX0_setStrain_0 : decode cX0_setStrain 0 = .ok (.iconst 0, 1) := by decide +kernel
theorem dX0_setStrain_1 : decode cX0_setStrain 1 = .ok (.istore 4, 2) := by decide +kernel
theorem dX0_setStrain_3 : decode cX0_setStrain 3 = .ok (.iload 4, 2) := by decide +kernel
theorem dX0_setStrain_5 : decode cX0_setStrain 5 = .ok (.aload_n 0, 1) := by decide +kernel
theorem dX0_setStrain_6 : decode cX0_setStrain 6 = .ok (.getfield 32, 3) := by decide +kernel
theorem dX0_setStrain_9 : decode cX0_setStrain 9 = .ok (.if_icmp .ge 34, 3) := by decide +kernel
theorem dX0_setStrain_12 : decode cX0_setStrain 12 = .ok (.aload_n 0, 1) := by decide +kernel
theorem dX0_setStrain_13 : decode cX0_setStrain 13 = .ok (.getfield 9, 3) := by decide +kernel
theorem dX0_setStrain_16 : decode cX0_setStrain 16 = .ok (.iload 4, 2) := by decide +kernel
theorem dX0_setStrain_18 : decode cX0_setStrain 18 = .ok (.iload 4, 2) := by decide +kernel
theorem dX0_setStrain_20 : decode cX0_setStrain 20 = .ok (.iload_n 2, 1) := by decide +kernel
theorem dX0_setStrain_21 : decode cX0_setStrain 21 = .ok (.if_icmp .ge 14, 3) := by decide +kernel
theorem dX0_setStrain_24 : decode cX0_setStrain 24 = .ok (.iload_n 1, 1) := by decide +kernel
theorem dX0_setStrain_25 : decode cX0_setStrain 25 = .ok (.iload_n 2, 1) := by decide +kernel
theorem dX0_setStrain_26 : decode cX0_setStrain 26 = .ok (.iload 4, 2) := by decide +kernel
theorem dX0_setStrain_28 : decode cX0_setStrain 28 = .ok (.isub, 1) := by decide +kernel
theorem dX0_setStrain_29 : decode cX0_setStrain 29 = .ok (.imul, 1) := by decide +kernel
theorem dX0_setStrain_30 : decode cX0_setStrain 30 = .ok (.iload_n 3, 1) := by decide +kernel
theorem dX0_setStrain_31 : decode cX0_setStrain 31 = .ok (.iadd, 1) := by decide +kernel
theorem dX0_setStrain_32 : decode cX0_setStrain 32 = .ok (.goto 4, 3) := by decide +kernel
theorem dX0_setStrain_35 : decode cX0_setStrain 35 = .ok (.iconst 0, 1) := by decide +kernel
theorem dX0_setStrain_36 : decode cX0_setStrain 36 = .ok (.iastore, 1) := by decide +kernel
theorem dX0_setStrain_37 : decode cX0_setStrain 37 = .ok (.iinc 4 1, 3) := by decide +kernel
theorem dX0_setStrain_40 : decode cX0_setStrain 40 = .ok (.goto (-37), 3) := by decide +kernel
theorem dX0_setStrain_43 : decode cX0_setStrain 43 = .ok (.return_, 1) := by decide +kernel
theorem dX0_findWorst_0 : decode cX0_findWorst 0 = .ok (.aload_n 0, 1) := by decide +kernel
theorem dX0_findWorst_1 : decode cX0_findWorst 1 = .ok (.getfield 18, 3) := by decide +kernel
theorem dX0_findWorst_4 : decode cX0_findWorst 4 = .ok (.iload_n 1, 1) := by decide +kernel
theorem dX0_findWorst_5 : decode cX0_findWorst 5 = .ok (.iconst (-1), 1) := by decide +kernel
theorem dX0_findWorst_6 : decode cX0_findWorst 6 = .ok (.iastore, 1) := by decide +kernel
theorem dX0_findWorst_7 : decode cX0_findWorst 7 = .ok (.aload_n 0, 1) := by decide +kernel
theorem dX0_findWorst_8 : decode cX0_findWorst 8 = .ok (.getfield 21, 3) := by decide +kernel
theorem dX0_findWorst_11 : decode cX0_findWorst 11 = .ok (.iload_n 1, 1) := by decide +kernel
theorem dX0_findWorst_12 : decode cX0_findWorst 12 = .ok (.iconst 0, 1) := by decide +kernel
theorem dX0_findWorst_13 : decode cX0_findWorst 13 = .ok (.iastore, 1) := by decide +kernel
theorem dX0_findWorst_14 : decode cX0_findWorst 14 = .ok (.aload_n 0, 1) := by decide +kernel
theorem dX0_findWorst_15 : decode cX0_findWorst 15 = .ok (.getfield 24, 3) := by decide +kernel
theorem dX0_findWorst_18 : decode cX0_findWorst 18 = .ok (.iload_n 1, 1) := by decide +kernel
theorem dX0_findWorst_19 : decode cX0_findWorst 19 = .ok (.iconst 1, 1) := by decide +kernel
theorem dX0_findWorst_20 : decode cX0_findWorst 20 = .ok (.iastore, 1) := by decide +kernel
theorem dX0_findWorst_21 : decode cX0_findWorst 21 = .ok (.iconst 0, 1) := by decide +kernel
theorem dX0_findWorst_22 : decode cX0_findWorst 22 = .ok (.istore_n 2, 1) := by decide +kernel
theorem dX0_findWorst_23 : decode cX0_findWorst 23 = .ok (.iload_n 2, 1) := by decide +kernel
theorem dX0_findWorst_24 : decode cX0_findWorst 24 = .ok (.aload_n 0, 1) := by decide +kernel
theorem dX0_findWorst_25 : decode cX0_findWorst 25 = .ok (.getfield 32, 3) := by decide +kernel
theorem dX0_findWorst_28 : decode cX0_findWorst 28 = .ok (.if_icmp .ge 104, 3) := by decide +kernel
theorem dX0_findWorst_31 : decode cX0_findWorst 31 = .ok (.iload_n 2, 1) := by decide +kernel
theorem dX0_findWorst_32 : decode cX0_findWorst 32 = .ok (.iconst 1, 1) := by decide +kernel
theorem dX0_findWorst_33 : decode cX0_findWorst 33 = .ok (.iadd, 1) := by decide +kernel
theorem dX0_findWorst_34 : decode cX0_findWorst 34 = .ok (.iload_n 1, 1) := by decide +kernel
theorem dX0_findWorst_35 : decode cX0_findWorst 35 = .ok (.if_icmp .ne 14, 3) := by decide +kernel
theorem dX0_findWorst_38 : decode cX0_findWorst 38 = .ok (.aload_n 0, 1) := by decide +kernel
theorem dX0_findWorst_39 : decode cX0_findWorst 39 = .ok (.getfield 15, 3) := by decide +kernel
theorem dX0_findWorst_42 : decode cX0_findWorst 42 = .ok (.iload_n 2, 1) := by decide +kernel
theorem dX0_findWorst_43 : decode cX0_findWorst 43 = .ok (.iaload, 1) := by decide +kernel
theorem dX0_findWorst_44 : decode cX0_findWorst 44 = .ok (.iconst 2, 1) := by decide +kernel
theorem dX0_findWorst_45 : decode cX0_findWorst 45 = .ok (.idiv, 1) := by decide +kernel
theorem dX0_findWorst_46 : decode cX0_findWorst 46 = .ok (.goto 9, 3) := by decide +kernel
theorem dX0_findWorst_49 : decode cX0_findWorst 49 = .ok (.aload_n 0, 1) := by decide +kernel
theorem dX0_findWorst_50 : decode cX0_findWorst 50 = .ok (.getfield 15, 3) := by decide +kernel
theorem dX0_findWorst_53 : decode cX0_findWorst 53 = .ok (.iload_n 2, 1) := by decide +kernel
theorem dX0_findWorst_54 : decode cX0_findWorst 54 = .ok (.iaload, 1) := by decide +kernel
theorem dX0_findWorst_55 : decode cX0_findWorst 55 = .ok (.istore_n 3, 1) := by decide +kernel
theorem dX0_findWorst_56 : decode cX0_findWorst 56 = .ok (.aload_n 0, 1) := by decide +kernel
theorem dX0_findWorst_57 : decode cX0_findWorst 57 = .ok (.getfield 9, 3) := by decide +kernel
theorem dX0_findWorst_60 : decode cX0_findWorst 60 = .ok (.iload_n 2, 1) := by decide +kernel
theorem dX0_findWorst_61 : decode cX0_findWorst 61 = .ok (.iaload, 1) := by decide +kernel
theorem dX0_findWorst_62 : decode cX0_findWorst 62 = .ok (.iload_n 3, 1) := by decide +kernel
theorem dX0_findWorst_63 : decode cX0_findWorst 63 = .ok (.if_icmp .le 63, 3) := by decide +kernel
theorem dX0_findWorst_66 : decode cX0_findWorst 66 = .ok (.aload_n 0, 1) := by decide +kernel
theorem dX0_findWorst_67 : decode cX0_findWorst 67 = .ok (.getfield 18, 3) := by decide +kernel
theorem dX0_findWorst_70 : decode cX0_findWorst 70 = .ok (.iload_n 1, 1) := by decide +kernel
theorem dX0_findWorst_71 : decode cX0_findWorst 71 = .ok (.iaload, 1) := by decide +kernel
theorem dX0_findWorst_72 : decode cX0_findWorst 72 = .ok (.iconst (-1), 1) := by decide +kernel
theorem dX0_findWorst_73 : decode cX0_findWorst 73 = .ok (.if_icmp .eq 27, 3) := by decide +kernel
theorem dX0_findWorst_76 : decode cX0_findWorst 76 = .ok (.aload_n 0, 1) := by decide +kernel
theorem dX0_findWorst_77 : decode cX0_findWorst 77 = .ok (.getfield 9, 3) := by decide +kernel
theorem dX0_findWorst_80 : decode cX0_findWorst 80 = .ok (.iload_n 2, 1) := by decide +kernel
theorem dX0_findWorst_81 : decode cX0_findWorst 81 = .ok (.iaload, 1) := by decide +kernel
theorem dX0_findWorst_82 : decode cX0_findWorst 82 = .ok (.aload_n 0, 1) := by decide +kernel
theorem dX0_findWorst_83 : decode cX0_findWorst 83 = .ok (.getfield 24, 3) := by decide +kernel
theorem dX0_findWorst_86 : decode cX0_findWorst 86 = .ok (.iload_n 1, 1) := by decide +kernel
theorem dX0_findWorst_87 : decode cX0_findWorst 87 = .ok (.iaload, 1) := by decide +kernel
theorem dX0_findWorst_88 : decode cX0_findWorst 88 = .ok (.imul, 1) := by decide +kernel
theorem dX0_findWorst_89 : decode cX0_findWorst 89 = .ok (.aload_n 0, 1) := by decide +kernel
theorem dX0_findWorst_90 : decode cX0_findWorst 90 = .ok (.getfield 21, 3) := by decide +kernel
theorem dX0_findWorst_93 : decode cX0_findWorst 93 = .ok (.iload_n 1, 1) := by decide +kernel
theorem dX0_findWorst_94 : decode cX0_findWorst 94 = .ok (.iaload, 1) := by decide +kernel
theorem dX0_findWorst_95 : decode cX0_findWorst 95 = .ok (.iload_n 3, 1) := by decide +kernel
theorem dX0_findWorst_96 : decode cX0_findWorst 96 = .ok (.imul, 1) := by decide +kernel
theorem dX0_findWorst_97 : decode cX0_findWorst 97 = .ok (.if_icmp .le 29, 3) := by decide +kernel
theorem dX0_findWorst_100 : decode cX0_findWorst 100 = .ok (.aload_n 0, 1) := by decide +kernel
theorem dX0_findWorst_101 : decode cX0_findWorst 101 = .ok (.getfield 18, 3) := by decide +kernel
theorem dX0_findWorst_104 : decode cX0_findWorst 104 = .ok (.iload_n 1, 1) := by decide +kernel
theorem dX0_findWorst_105 : decode cX0_findWorst 105 = .ok (.iload_n 2, 1) := by decide +kernel
theorem dX0_findWorst_106 : decode cX0_findWorst 106 = .ok (.iastore, 1) := by decide +kernel
theorem dX0_findWorst_107 : decode cX0_findWorst 107 = .ok (.aload_n 0, 1) := by decide +kernel
theorem dX0_findWorst_108 : decode cX0_findWorst 108 = .ok (.getfield 21, 3) := by decide +kernel
theorem dX0_findWorst_111 : decode cX0_findWorst 111 = .ok (.iload_n 1, 1) := by decide +kernel
theorem dX0_findWorst_112 : decode cX0_findWorst 112 = .ok (.aload_n 0, 1) := by decide +kernel
theorem dX0_findWorst_113 : decode cX0_findWorst 113 = .ok (.getfield 9, 3) := by decide +kernel
theorem dX0_findWorst_116 : decode cX0_findWorst 116 = .ok (.iload_n 2, 1) := by decide +kernel
theorem dX0_findWorst_117 : decode cX0_findWorst 117 = .ok (.iaload, 1) := by decide +kernel
theorem dX0_findWorst_118 : decode cX0_findWorst 118 = .ok (.iastore, 1) := by decide +kernel
theorem dX0_findWorst_119 : decode cX0_findWorst 119 = .ok (.aload_n 0, 1) := by decide +kernel
theorem dX0_findWorst_120 : decode cX0_findWorst 120 = .ok (.getfield 24, 3) := by decide +kernel
theorem dX0_findWorst_123 : decode cX0_findWorst 123 = .ok (.iload_n 1, 1) := by decide +kernel
theorem dX0_findWorst_124 : decode cX0_findWorst 124 = .ok (.iload_n 3, 1) := by decide +kernel
theorem dX0_findWorst_125 : decode cX0_findWorst 125 = .ok (.iastore, 1) := by decide +kernel
theorem dX0_findWorst_126 : decode cX0_findWorst 126 = .ok (.iinc 2 1, 3) := by decide +kernel
theorem dX0_findWorst_129 : decode cX0_findWorst 129 = .ok (.goto (-106), 3) := by decide +kernel
theorem dX0_findWorst_132 : decode cX0_findWorst 132 = .ok (.return_, 1) := by decide +kernel
theorem dX0_findAll_0 : decode cX0_findAll 0 = .ok (.iconst 0, 1) := by decide +kernel
theorem dX0_findAll_1 : decode cX0_findAll 1 = .ok (.istore_n 1, 1) := by decide +kernel
theorem dX0_findAll_2 : decode cX0_findAll 2 = .ok (.iload_n 1, 1) := by decide +kernel
theorem dX0_findAll_3 : decode cX0_findAll 3 = .ok (.aload_n 0, 1) := by decide +kernel
theorem dX0_findAll_4 : decode cX0_findAll 4 = .ok (.getfield 32, 3) := by decide +kernel
theorem dX0_findAll_7 : decode cX0_findAll 7 = .ok (.if_icmp .gt 14, 3) := by decide +kernel
theorem dX0_findAll_10 : decode cX0_findAll 10 = .ok (.aload_n 0, 1) := by decide +kernel
theorem dX0_findAll_11 : decode cX0_findAll 11 = .ok (.iload_n 1, 1) := by decide +kernel
theorem dX0_findAll_12 : decode cX0_findAll 12 = .ok (.invokevirtual 38, 3) := by decide +kernel
theorem dX0_findAll_15 : decode cX0_findAll 15 = .ok (.iinc 1 1, 3) := by decide +kernel
theorem dX0_findAll_18 : decode cX0_findAll 18 = .ok (.goto (-16), 3) := by decide +kernel
theorem dX0_findAll_21 : decode cX0_findAll 21 = .ok (.return_, 1) := by decide +kernel
theorem dX1_init_0 : decode cX1_init 0 = .ok (.aload_n 0, 1) := by decide +kernel
theorem dX1_init_1 : decode cX1_init 1 = .ok (.invokespecial 3, 3) := by decide +kernel
theorem dX1_init_4 : decode cX1_init 4 = .ok (.aload_n 0, 1) := by decide +kernel
theorem dX1_init_5 : decode cX1_init 5 = .ok (.iconst 2, 1) := by decide +kernel
theorem dX1_init_6 : decode cX1_init 6 = .ok (.newarray .int, 2) := by decide +kernel
theorem dX1_init_8 : decode cX1_init 8 = .ok (.putfield 9, 3) := by decide +kernel
theorem dX1_init_11 : decode cX1_init 11 = .ok (.aload_n 0, 1) := by decide +kernel
theorem dX1_init_12 : decode cX1_init 12 = .ok (.bipush 12, 2) := by decide +kernel
theorem dX1_init_14 : decode cX1_init 14 = .ok (.newarray .int, 2) := by decide +kernel
theorem dX1_init_16 : decode cX1_init 16 = .ok (.putfield 15, 3) := by decide +kernel
theorem dX1_init_19 : decode cX1_init 19 = .ok (.return_, 1) := by decide +kernel
theorem dX1_setThick_0 : decode cX1_setThick 0 = .ok (.aload_n 0, 1) := by decide +kernel
theorem dX1_setThick_1 : decode cX1_setThick 1 = .ok (.getfield 15, 3) := by decide +kernel
theorem dX1_setThick_4 : decode cX1_setThick 4 = .ok (.bipush 6, 2) := by decide +kernel
theorem dX1_setThick_6 : decode cX1_setThick 6 = .ok (.iload_n 1, 1) := by decide +kernel
theorem dX1_setThick_7 : decode cX1_setThick 7 = .ok (.imul, 1) := by decide +kernel
theorem dX1_setThick_8 : decode cX1_setThick 8 = .ok (.iload_n 2, 1) := by decide +kernel
theorem dX1_setThick_9 : decode cX1_setThick 9 = .ok (.iadd, 1) := by decide +kernel
theorem dX1_setThick_10 : decode cX1_setThick 10 = .ok (.iload_n 3, 1) := by decide +kernel
theorem dX1_setThick_11 : decode cX1_setThick 11 = .ok (.iastore, 1) := by decide +kernel
theorem dX1_setThick_12 : decode cX1_setThick 12 = .ok (.aload_n 0, 1) := by decide +kernel
theorem dX1_setThick_13 : decode cX1_setThick 13 = .ok (.getfield 9, 3) := by decide +kernel
theorem dX1_setThick_16 : decode cX1_setThick 16 = .ok (.iload_n 1, 1) := by decide +kernel
theorem dX1_setThick_17 : decode cX1_setThick 17 = .ok (.iload_n 2, 1) := by decide +kernel
theorem dX1_setThick_18 : decode cX1_setThick 18 = .ok (.iconst 1, 1) := by decide +kernel
theorem dX1_setThick_19 : decode cX1_setThick 19 = .ok (.iadd, 1) := by decide +kernel
theorem dX1_setThick_20 : decode cX1_setThick 20 = .ok (.iastore, 1) := by decide +kernel
theorem dX1_setThick_21 : decode cX1_setThick 21 = .ok (.return_, 1) := by decide +kernel
theorem dX1_thickAt_0 : decode cX1_thickAt 0 = .ok (.aload_n 0, 1) := by decide +kernel
theorem dX1_thickAt_1 : decode cX1_thickAt 1 = .ok (.getfield 15, 3) := by decide +kernel
theorem dX1_thickAt_4 : decode cX1_thickAt 4 = .ok (.bipush 6, 2) := by decide +kernel
theorem dX1_thickAt_6 : decode cX1_thickAt 6 = .ok (.iload_n 1, 1) := by decide +kernel
theorem dX1_thickAt_7 : decode cX1_thickAt 7 = .ok (.imul, 1) := by decide +kernel
theorem dX1_thickAt_8 : decode cX1_thickAt 8 = .ok (.iload_n 2, 1) := by decide +kernel
theorem dX1_thickAt_9 : decode cX1_thickAt 9 = .ok (.iadd, 1) := by decide +kernel
theorem dX1_thickAt_10 : decode cX1_thickAt 10 = .ok (.iaload, 1) := by decide +kernel
theorem dX1_thickAt_11 : decode cX1_thickAt 11 = .ok (.ireturn, 1) := by decide +kernel
theorem dX1_allPlaces_0 : decode cX1_allPlaces 0 = .ok (.aload_n 0, 1) := by decide +kernel
theorem dX1_allPlaces_1 : decode cX1_allPlaces 1 = .ok (.getfield 9, 3) := by decide +kernel
theorem dX1_allPlaces_4 : decode cX1_allPlaces 4 = .ok (.iconst 0, 1) := by decide +kernel
theorem dX1_allPlaces_5 : decode cX1_allPlaces 5 = .ok (.iaload, 1) := by decide +kernel
theorem dX1_allPlaces_6 : decode cX1_allPlaces 6 = .ok (.aload_n 0, 1) := by decide +kernel
theorem dX1_allPlaces_7 : decode cX1_allPlaces 7 = .ok (.getfield 9, 3) := by decide +kernel
theorem dX1_allPlaces_10 : decode cX1_allPlaces 10 = .ok (.iconst 1, 1) := by decide +kernel
theorem dX1_allPlaces_11 : decode cX1_allPlaces 11 = .ok (.iaload, 1) := by decide +kernel
theorem dX1_allPlaces_12 : decode cX1_allPlaces 12 = .ok (.iadd, 1) := by decide +kernel
theorem dX1_allPlaces_13 : decode cX1_allPlaces 13 = .ok (.ireturn, 1) := by decide +kernel
theorem dX1_thicknessOf_0 : decode cX1_thicknessOf 0 = .ok (.iconst 0, 1) := by decide +kernel
theorem dX1_thicknessOf_1 : decode cX1_thicknessOf 1 = .ok (.istore_n 2, 1) := by decide +kernel
theorem dX1_thicknessOf_2 : decode cX1_thicknessOf 2 = .ok (.iconst 0, 1) := by decide +kernel
theorem dX1_thicknessOf_3 : decode cX1_thicknessOf 3 = .ok (.istore_n 3, 1) := by decide +kernel
theorem dX1_thicknessOf_4 : decode cX1_thicknessOf 4 = .ok (.iload_n 3, 1) := by decide +kernel
theorem dX1_thicknessOf_5 : decode cX1_thicknessOf 5 = .ok (.aload_n 0, 1) := by decide +kernel
theorem dX1_thicknessOf_6 : decode cX1_thicknessOf 6 = .ok (.getfield 9, 3) := by decide +kernel
theorem dX1_thicknessOf_9 : decode cX1_thicknessOf 9 = .ok (.iload_n 1, 1) := by decide +kernel
theorem dX1_thicknessOf_10 : decode cX1_thicknessOf 10 = .ok (.iaload, 1) := by decide +kernel
theorem dX1_thicknessOf_11 : decode cX1_thicknessOf 11 = .ok (.if_icmp .ge 18, 3) := by decide +kernel
theorem dX1_thicknessOf_14 : decode cX1_thicknessOf 14 = .ok (.iload_n 2, 1) := by decide +kernel
theorem dX1_thicknessOf_15 : decode cX1_thicknessOf 15 = .ok (.aload_n 0, 1) := by decide +kernel
theorem dX1_thicknessOf_16 : decode cX1_thicknessOf 16 = .ok (.iload_n 1, 1) := by decide +kernel
theorem dX1_thicknessOf_17 : decode cX1_thicknessOf 17 = .ok (.iload_n 3, 1) := by decide +kernel
theorem dX1_thicknessOf_18 : decode cX1_thicknessOf 18 = .ok (.invokevirtual 18, 3) := by decide +kernel
theorem dX1_thicknessOf_21 : decode cX1_thicknessOf 21 = .ok (.iadd, 1) := by decide +kernel
theorem dX1_thicknessOf_22 : decode cX1_thicknessOf 22 = .ok (.istore_n 2, 1) := by decide +kernel
theorem dX1_thicknessOf_23 : decode cX1_thicknessOf 23 = .ok (.iinc 3 1, 3) := by decide +kernel
theorem dX1_thicknessOf_26 : decode cX1_thicknessOf 26 = .ok (.goto (-22), 3) := by decide +kernel
theorem dX1_thicknessOf_29 : decode cX1_thicknessOf 29 = .ok (.iload_n 2, 1) := by decide +kernel
theorem dX1_thicknessOf_30 : decode cX1_thicknessOf 30 = .ok (.ireturn, 1) := by decide +kernel
theorem dX1_reach_0 : decode cX1_reach 0 = .ok (.aload_n 2, 1) := by decide +kernel
theorem dX1_reach_1 : decode cX1_reach 1 = .ok (.getfield 22, 3) := by decide +kernel
theorem dX1_reach_4 : decode cX1_reach 4 = .ok (.aload_n 0, 1) := by decide +kernel
theorem dX1_reach_5 : decode cX1_reach 5 = .ok (.getfield 9, 3) := by decide +kernel
theorem dX1_reach_8 : decode cX1_reach 8 = .ok (.iload_n 1, 1) := by decide +kernel
theorem dX1_reach_9 : decode cX1_reach 9 = .ok (.iaload, 1) := by decide +kernel
theorem dX1_reach_10 : decode cX1_reach 10 = .ok (.invokestatic 28, 3) := by decide +kernel
theorem dX1_reach_13 : decode cX1_reach 13 = .ok (.ireturn, 1) := by decide +kernel
theorem dX2_init_0 : decode cX2_init 0 = .ok (.aload_n 0, 1) := by decide +kernel
theorem dX2_init_1 : decode cX2_init 1 = .ok (.invokespecial 3, 3) := by decide +kernel
theorem dX2_init_4 : decode cX2_init 4 = .ok (.aload_n 0, 1) := by decide +kernel
theorem dX2_init_5 : decode cX2_init 5 = .ok (.bipush 12, 2) := by decide +kernel
theorem dX2_init_7 : decode cX2_init 7 = .ok (.anewarray 11, 3) := by decide +kernel
theorem dX2_init_10 : decode cX2_init 10 = .ok (.putfield 13, 3) := by decide +kernel
theorem dX2_init_13 : decode cX2_init 13 = .ok (.aload_n 0, 1) := by decide +kernel
theorem dX2_init_14 : decode cX2_init 14 = .ok (.bipush 12, 2) := by decide +kernel
theorem dX2_init_16 : decode cX2_init 16 = .ok (.anewarray 11, 3) := by decide +kernel
theorem dX2_init_19 : decode cX2_init 19 = .ok (.putfield 17, 3) := by decide +kernel
theorem dX2_init_22 : decode cX2_init 22 = .ok (.aload_n 0, 1) := by decide +kernel
theorem dX2_init_23 : decode cX2_init 23 = .ok (.bipush 12, 2) := by decide +kernel
theorem dX2_init_25 : decode cX2_init 25 = .ok (.newarray .int, 2) := by decide +kernel
theorem dX2_init_27 : decode cX2_init 27 = .ok (.putfield 20, 3) := by decide +kernel
theorem dX2_init_30 : decode cX2_init 30 = .ok (.aload_n 0, 1) := by decide +kernel
theorem dX2_init_31 : decode cX2_init 31 = .ok (.bipush 12, 2) := by decide +kernel
theorem dX2_init_33 : decode cX2_init 33 = .ok (.newarray .int, 2) := by decide +kernel
theorem dX2_init_35 : decode cX2_init 35 = .ok (.putfield 24, 3) := by decide +kernel
theorem dX2_init_38 : decode cX2_init 38 = .ok (.aload_n 0, 1) := by decide +kernel
theorem dX2_init_39 : decode cX2_init 39 = .ok (.bipush 12, 2) := by decide +kernel
theorem dX2_init_41 : decode cX2_init 41 = .ok (.bipush 12, 2) := by decide +kernel
theorem dX2_init_43 : decode cX2_init 43 = .ok (.multianewarray 27 2, 4) := by decide +kernel
theorem dX2_init_47 : decode cX2_init 47 = .ok (.putfield 29, 3) := by decide +kernel
theorem dX2_init_50 : decode cX2_init 50 = .ok (.aload_n 0, 1) := by decide +kernel
theorem dX2_init_51 : decode cX2_init 51 = .ok (.bipush 12, 2) := by decide +kernel
theorem dX2_init_53 : decode cX2_init 53 = .ok (.bipush 12, 2) := by decide +kernel
theorem dX2_init_55 : decode cX2_init 55 = .ok (.multianewarray 27 2, 4) := by decide +kernel
theorem dX2_init_59 : decode cX2_init 59 = .ok (.putfield 32, 3) := by decide +kernel
theorem dX2_init_62 : decode cX2_init 62 = .ok (.aload_n 0, 1) := by decide +kernel
theorem dX2_init_63 : decode cX2_init 63 = .ok (.bipush 12, 2) := by decide +kernel
theorem dX2_init_65 : decode cX2_init 65 = .ok (.newarray .int, 2) := by decide +kernel
theorem dX2_init_67 : decode cX2_init 67 = .ok (.putfield 35, 3) := by decide +kernel
theorem dX2_init_70 : decode cX2_init 70 = .ok (.aload_n 0, 1) := by decide +kernel
theorem dX2_init_71 : decode cX2_init 71 = .ok (.bipush 12, 2) := by decide +kernel
theorem dX2_init_73 : decode cX2_init 73 = .ok (.newarray .int, 2) := by decide +kernel
theorem dX2_init_75 : decode cX2_init 75 = .ok (.putfield 38, 3) := by decide +kernel
theorem dX2_init_78 : decode cX2_init 78 = .ok (.iconst 0, 1) := by decide +kernel
theorem dX2_init_79 : decode cX2_init 79 = .ok (.istore_n 1, 1) := by decide +kernel
theorem dX2_init_80 : decode cX2_init 80 = .ok (.iload_n 1, 1) := by decide +kernel
theorem dX2_init_81 : decode cX2_init 81 = .ok (.bipush 12, 2) := by decide +kernel
theorem dX2_init_83 : decode cX2_init 83 = .ok (.if_icmp .ge 35, 3) := by decide +kernel
theorem dX2_init_86 : decode cX2_init 86 = .ok (.aload_n 0, 1) := by decide +kernel
theorem dX2_init_87 : decode cX2_init 87 = .ok (.getfield 13, 3) := by decide +kernel
theorem dX2_init_90 : decode cX2_init 90 = .ok (.iload_n 1, 1) := by decide +kernel
theorem dX2_init_91 : decode cX2_init 91 = .ok (.new 11, 3) := by decide +kernel
theorem dX2_init_94 : decode cX2_init 94 = .ok (.dup, 1) := by decide +kernel
theorem dX2_init_95 : decode cX2_init 95 = .ok (.invokespecial 41, 3) := by decide +kernel
theorem dX2_init_98 : decode cX2_init 98 = .ok (.aastore, 1) := by decide +kernel
theorem dX2_init_99 : decode cX2_init 99 = .ok (.aload_n 0, 1) := by decide +kernel
theorem dX2_init_100 : decode cX2_init 100 = .ok (.getfield 17, 3) := by decide +kernel
theorem dX2_init_103 : decode cX2_init 103 = .ok (.iload_n 1, 1) := by decide +kernel
theorem dX2_init_104 : decode cX2_init 104 = .ok (.new 11, 3) := by decide +kernel
theorem dX2_init_107 : decode cX2_init 107 = .ok (.dup, 1) := by decide +kernel
theorem dX2_init_108 : decode cX2_init 108 = .ok (.invokespecial 41, 3) := by decide +kernel
theorem dX2_init_111 : decode cX2_init 111 = .ok (.aastore, 1) := by decide +kernel
theorem dX2_init_112 : decode cX2_init 112 = .ok (.iinc 1 1, 3) := by decide +kernel
theorem dX2_init_115 : decode cX2_init 115 = .ok (.goto (-35), 3) := by decide +kernel
theorem dX2_init_118 : decode cX2_init 118 = .ok (.return_, 1) := by decide +kernel
theorem dX2_choose_0 : decode cX2_choose 0 = .ok (.iconst 0, 1) := by decide +kernel
theorem dX2_choose_1 : decode cX2_choose 1 = .ok (.istore 6, 2) := by decide +kernel
theorem dX2_choose_3 : decode cX2_choose 3 = .ok (.iconst 1, 1) := by decide +kernel
theorem dX2_choose_4 : decode cX2_choose 4 = .ok (.istore 7, 2) := by decide +kernel
theorem dX2_choose_6 : decode cX2_choose 6 = .ok (.iload 7, 2) := by decide +kernel
theorem dX2_choose_8 : decode cX2_choose 8 = .ok (.aload_n 1, 1) := by decide +kernel
theorem dX2_choose_9 : decode cX2_choose 9 = .ok (.getfield 42, 3) := by decide +kernel
theorem dX2_choose_12 : decode cX2_choose 12 = .ok (.iload_n 2, 1) := by decide +kernel
theorem dX2_choose_13 : decode cX2_choose 13 = .ok (.iaload, 1) := by decide +kernel
theorem dX2_choose_14 : decode cX2_choose 14 = .ok (.if_icmp .gt 85, 3) := by decide +kernel
theorem dX2_choose_17 : decode cX2_choose 17 = .ok (.aload_n 3, 1) := by decide +kernel
theorem dX2_choose_18 : decode cX2_choose 18 = .ok (.getfield 47, 3) := by decide +kernel
theorem dX2_choose_21 : decode cX2_choose 21 = .ok (.iconst 2, 1) := by decide +kernel
theorem dX2_choose_22 : decode cX2_choose 22 = .ok (.if_icmp .ne 7, 3) := by decide +kernel
theorem dX2_choose_25 : decode cX2_choose 25 = .ok (.iconst 1, 1) := by decide +kernel
theorem dX2_choose_26 : decode cX2_choose 26 = .ok (.goto 4, 3) := by decide +kernel
theorem dX2_choose_29 : decode cX2_choose 29 = .ok (.iconst 0, 1) := by decide +kernel
theorem dX2_choose_30 : decode cX2_choose 30 = .ok (.istore 8, 2) := by decide +kernel
theorem dX2_choose_32 : decode cX2_choose 32 = .ok (.iload 8, 2) := by decide +kernel
theorem dX2_choose_34 : decode cX2_choose 34 = .ok (.iconst 1, 1) := by decide +kernel
theorem dX2_choose_35 : decode cX2_choose 35 = .ok (.if_icmp .gt 58, 3) := by decide +kernel
theorem dX2_choose_38 : decode cX2_choose 38 = .ok (.aload_n 0, 1) := by decide +kernel
theorem dX2_choose_39 : decode cX2_choose 39 = .ok (.aload 4, 2) := by decide +kernel
theorem dX2_choose_41 : decode cX2_choose 41 = .ok (.iload 6, 2) := by decide +kernel
theorem dX2_choose_43 : decode cX2_choose 43 = .ok (.aaload, 1) := by decide +kernel
theorem dX2_choose_44 : decode cX2_choose 44 = .ok (.aload_n 1, 1) := by decide +kernel
theorem dX2_choose_45 : decode cX2_choose 45 = .ok (.iload_n 2, 1) := by decide +kernel
theorem dX2_choose_46 : decode cX2_choose 46 = .ok (.aload_n 3, 1) := by decide +kernel
theorem dX2_choose_47 : decode cX2_choose 47 = .ok (.iload 7, 2) := by decide +kernel
theorem dX2_choose_49 : decode cX2_choose 49 = .ok (.iload 8, 2) := by decide +kernel
theorem dX2_choose_51 : decode cX2_choose 51 = .ok (.iconst 1, 1) := by decide +kernel
theorem dX2_choose_52 : decode cX2_choose 52 = .ok (.if_icmp .ne 7, 3) := by decide +kernel
theorem dX2_choose_55 : decode cX2_choose 55 = .ok (.iconst 1, 1) := by decide +kernel
theorem dX2_choose_56 : decode cX2_choose 56 = .ok (.goto 4, 3) := by decide +kernel
theorem dX2_choose_59 : decode cX2_choose 59 = .ok (.iconst 0, 1) := by decide +kernel
theorem dX2_choose_60 : decode cX2_choose 60 = .ok (.invokevirtual 53, 3) := by decide +kernel
theorem dX2_choose_63 : decode cX2_choose 63 = .ok (.aload 4, 2) := by decide +kernel
theorem dX2_choose_65 : decode cX2_choose 65 = .ok (.iload 6, 2) := by decide +kernel
theorem dX2_choose_67 : decode cX2_choose 67 = .ok (.aaload, 1) := by decide +kernel
theorem dX2_choose_68 : decode cX2_choose 68 = .ok (.invokevirtual 59, 3) := by decide +kernel
theorem dX2_choose_71 : decode cX2_choose 71 = .ok (.aload 5, 2) := by decide +kernel
theorem dX2_choose_73 : decode cX2_choose 73 = .ok (.iload 6, 2) := by decide +kernel
theorem dX2_choose_75 : decode cX2_choose 75 = .ok (.bipush 10, 2) := by decide +kernel
theorem dX2_choose_77 : decode cX2_choose 77 = .ok (.iload 7, 2) := by decide +kernel
theorem dX2_choose_79 : decode cX2_choose 79 = .ok (.imul, 1) := by decide +kernel
theorem dX2_choose_80 : decode cX2_choose 80 = .ok (.iload 8, 2) := by decide +kernel
theorem dX2_choose_82 : decode cX2_choose 82 = .ok (.iadd, 1) := by decide +kernel
theorem dX2_choose_83 : decode cX2_choose 83 = .ok (.iastore, 1) := by decide +kernel
theorem dX2_choose_84 : decode cX2_choose 84 = .ok (.iinc 6 1, 3) := by decide +kernel
theorem dX2_choose_87 : decode cX2_choose 87 = .ok (.iinc 8 1, 3) := by decide +kernel
theorem dX2_choose_90 : decode cX2_choose 90 = .ok (.goto (-58), 3) := by decide +kernel
theorem dX2_choose_93 : decode cX2_choose 93 = .ok (.iinc 7 1, 3) := by decide +kernel
theorem dX2_choose_96 : decode cX2_choose 96 = .ok (.goto (-90), 3) := by decide +kernel
theorem dX2_choose_99 : decode cX2_choose 99 = .ok (.iload 6, 2) := by decide +kernel
theorem dX2_choose_101 : decode cX2_choose 101 = .ok (.ireturn, 1) := by decide +kernel
theorem dX2_bestAgainst_0 : decode cX2_bestAgainst 0 = .ok (.aload_n 0, 1) := by decide +kernel
theorem dX2_bestAgainst_1 : decode cX2_bestAgainst 1 = .ok (.aload_n 1, 1) := by decide +kernel
theorem dX2_bestAgainst_2 : decode cX2_bestAgainst 2 = .ok (.aload_n 2, 1) := by decide +kernel
theorem dX2_bestAgainst_3 : decode cX2_bestAgainst 3 = .ok (.iconst 0, 1) := by decide +kernel
theorem dX2_bestAgainst_4 : decode cX2_bestAgainst 4 = .ok (.aload_n 3, 1) := by decide +kernel
theorem dX2_bestAgainst_5 : decode cX2_bestAgainst 5 = .ok (.aload_n 0, 1) := by decide +kernel
theorem dX2_bestAgainst_6 : decode cX2_bestAgainst 6 = .ok (.getfield 13, 3) := by decide +kernel
theorem dX2_bestAgainst_9 : decode cX2_bestAgainst 9 = .ok (.aload_n 0, 1) := by decide +kernel
theorem dX2_bestAgainst_10 : decode cX2_bestAgainst 10 = .ok (.getfield 20, 3) := by decide +kernel
theorem dX2_bestAgainst_13 : decode cX2_bestAgainst 13 = .ok (.invokestatic 62, 3) := by decide +kernel
theorem dX2_bestAgainst_16 : decode cX2_bestAgainst 16 = .ok (.putfield 66, 3) := by decide +kernel
theorem dX2_bestAgainst_19 : decode cX2_bestAgainst 19 = .ok (.aload_n 1, 1) := by decide +kernel
theorem dX2_bestAgainst_20 : decode cX2_bestAgainst 20 = .ok (.getfield 69, 3) := by decide +kernel
theorem dX2_bestAgainst_23 : decode cX2_bestAgainst 23 = .ok (.invokevirtual 59, 3) := by decide +kernel
theorem dX2_bestAgainst_26 : decode cX2_bestAgainst 26 = .ok (.iconst 0, 1) := by decide +kernel
theorem dX2_bestAgainst_27 : decode cX2_bestAgainst 27 = .ok (.istore 4, 2) := by decide +kernel
theorem dX2_bestAgainst_29 : decode cX2_bestAgainst 29 = .ok (.iconst (-1), 1) := by decide +kernel
theorem dX2_bestAgainst_30 : decode cX2_bestAgainst 30 = .ok (.istore 5, 2) := by decide +kernel
theorem dX2_bestAgainst_32 : decode cX2_bestAgainst 32 = .ok (.iconst 0, 1) := by decide +kernel
theorem dX2_bestAgainst_33 : decode cX2_bestAgainst 33 = .ok (.istore 6, 2) := by decide +kernel
theorem dX2_bestAgainst_35 : decode cX2_bestAgainst 35 = .ok (.iload 6, 2) := by decide +kernel
theorem dX2_bestAgainst_37 : decode cX2_bestAgainst 37 = .ok (.aload_n 0, 1) := by decide +kernel
theorem dX2_bestAgainst_38 : decode cX2_bestAgainst 38 = .ok (.getfield 66, 3) := by decide +kernel
theorem dX2_bestAgainst_41 : decode cX2_bestAgainst 41 = .ok (.if_icmp .ge 52, 3) := by decide +kernel
theorem dX2_bestAgainst_44 : decode cX2_bestAgainst 44 = .ok (.aload_n 1, 1) := by decide +kernel
theorem dX2_bestAgainst_45 : decode cX2_bestAgainst 45 = .ok (.aload_n 0, 1) := by decide +kernel
theorem dX2_bestAgainst_46 : decode cX2_bestAgainst 46 = .ok (.getfield 13, 3) := by decide +kernel
theorem dX2_bestAgainst_49 : decode cX2_bestAgainst 49 = .ok (.iload 6, 2) := by decide +kernel
theorem dX2_bestAgainst_51 : decode cX2_bestAgainst 51 = .ok (.aaload, 1) := by decide +kernel
theorem dX2_bestAgainst_52 : decode cX2_bestAgainst 52 = .ok (.aload_n 1, 1) := by decide +kernel
theorem dX2_bestAgainst_53 : decode cX2_bestAgainst 53 = .ok (.getfield 69, 3) := by decide +kernel
theorem dX2_bestAgainst_56 : decode cX2_bestAgainst 56 = .ok (.invokevirtual 73, 3) := by decide +kernel
theorem dX2_bestAgainst_59 : decode cX2_bestAgainst 59 = .ok (.aload_n 1, 1) := by decide +kernel
theorem dX2_bestAgainst_60 : decode cX2_bestAgainst 60 = .ok (.getfield 77, 3) := by decide +kernel
theorem dX2_bestAgainst_63 : decode cX2_bestAgainst 63 = .ok (.iconst 0, 1) := by decide +kernel
theorem dX2_bestAgainst_64 : decode cX2_bestAgainst 64 = .ok (.iaload, 1) := by decide +kernel
theorem dX2_bestAgainst_65 : decode cX2_bestAgainst 65 = .ok (.iload 5, 2) := by decide +kernel
theorem dX2_bestAgainst_67 : decode cX2_bestAgainst 67 = .ok (.if_icmp .le 20, 3) := by decide +kernel
theorem dX2_bestAgainst_70 : decode cX2_bestAgainst 70 = .ok (.aload_n 1, 1) := by decide +kernel
theorem dX2_bestAgainst_71 : decode cX2_bestAgainst 71 = .ok (.getfield 77, 3) := by decide +kernel
theorem dX2_bestAgainst_74 : decode cX2_bestAgainst 74 = .ok (.iconst 0, 1) := by decide +kernel
theorem dX2_bestAgainst_75 : decode cX2_bestAgainst 75 = .ok (.iaload, 1) := by decide +kernel
theorem dX2_bestAgainst_76 : decode cX2_bestAgainst 76 = .ok (.istore 5, 2) := by decide +kernel
theorem dX2_bestAgainst_78 : decode cX2_bestAgainst 78 = .ok (.aload_n 0, 1) := by decide +kernel
theorem dX2_bestAgainst_79 : decode cX2_bestAgainst 79 = .ok (.getfield 20, 3) := by decide +kernel
theorem dX2_bestAgainst_82 : decode cX2_bestAgainst 82 = .ok (.iload 6, 2) := by decide +kernel
theorem dX2_bestAgainst_84 : decode cX2_bestAgainst 84 = .ok (.iaload, 1) := by decide +kernel
theorem dX2_bestAgainst_85 : decode cX2_bestAgainst 85 = .ok (.istore 4, 2) := by decide +kernel
theorem dX2_bestAgainst_87 : decode cX2_bestAgainst 87 = .ok (.iinc 6 1, 3) := by decide +kernel
theorem dX2_bestAgainst_90 : decode cX2_bestAgainst 90 = .ok (.goto (-55), 3) := by decide +kernel
theorem dX2_bestAgainst_93 : decode cX2_bestAgainst 93 = .ok (.iload 4, 2) := by decide +kernel
theorem dX2_bestAgainst_95 : decode cX2_bestAgainst 95 = .ok (.ireturn, 1) := by decide +kernel
theorem dX2_play_0 : decode cX2_play 0 = .ok (.aload_n 1, 1) := by decide +kernel
theorem dX2_play_1 : decode cX2_play 1 = .ok (.aload_n 3, 1) := by decide +kernel
theorem dX2_play_2 : decode cX2_play 2 = .ok (.aload 4, 2) := by decide +kernel
theorem dX2_play_4 : decode cX2_play 4 = .ok (.invokevirtual 80, 3) := by decide +kernel
theorem dX2_play_7 : decode cX2_play 7 = .ok (.aload_n 0, 1) := by decide +kernel
theorem dX2_play_8 : decode cX2_play 8 = .ok (.aload_n 1, 1) := by decide +kernel
theorem dX2_play_9 : decode cX2_play 9 = .ok (.aload_n 2, 1) := by decide +kernel
theorem dX2_play_10 : decode cX2_play 10 = .ok (.iconst 0, 1) := by decide +kernel
theorem dX2_play_11 : decode cX2_play 11 = .ok (.aload_n 3, 1) := by decide +kernel
theorem dX2_play_12 : decode cX2_play 12 = .ok (.aload_n 0, 1) := by decide +kernel
theorem dX2_play_13 : decode cX2_play 13 = .ok (.getfield 13, 3) := by decide +kernel
theorem dX2_play_16 : decode cX2_play 16 = .ok (.aload_n 0, 1) := by decide +kernel
theorem dX2_play_17 : decode cX2_play 17 = .ok (.getfield 20, 3) := by decide +kernel
theorem dX2_play_20 : decode cX2_play 20 = .ok (.invokestatic 62, 3) := by decide +kernel
theorem dX2_play_23 : decode cX2_play 23 = .ok (.putfield 66, 3) := by decide +kernel
theorem dX2_play_26 : decode cX2_play 26 = .ok (.aload_n 0, 1) := by decide +kernel
theorem dX2_play_27 : decode cX2_play 27 = .ok (.aload_n 1, 1) := by decide +kernel
theorem dX2_play_28 : decode cX2_play 28 = .ok (.aload_n 2, 1) := by decide +kernel
theorem dX2_play_29 : decode cX2_play 29 = .ok (.iconst 1, 1) := by decide +kernel
theorem dX2_play_30 : decode cX2_play 30 = .ok (.aload 4, 2) := by decide +kernel
theorem dX2_play_32 : decode cX2_play 32 = .ok (.aload_n 0, 1) := by decide +kernel
theorem dX2_play_33 : decode cX2_play 33 = .ok (.getfield 17, 3) := by decide +kernel
theorem dX2_play_36 : decode cX2_play 36 = .ok (.aload_n 0, 1) := by decide +kernel
theorem dX2_play_37 : decode cX2_play 37 = .ok (.getfield 24, 3) := by decide +kernel
theorem dX2_play_40 : decode cX2_play 40 = .ok (.invokestatic 62, 3) := by decide +kernel
theorem dX2_play_43 : decode cX2_play 43 = .ok (.putfield 84, 3) := by decide +kernel
theorem dX2_play_46 : decode cX2_play 46 = .ok (.iconst 0, 1) := by decide +kernel
theorem dX2_play_47 : decode cX2_play 47 = .ok (.istore 5, 2) := by decide +kernel
theorem dX2_play_49 : decode cX2_play 49 = .ok (.iload 5, 2) := by decide +kernel
theorem dX2_play_51 : decode cX2_play 51 = .ok (.bipush 12, 2) := by decide +kernel
theorem dX2_play_53 : decode cX2_play 53 = .ok (.if_icmp .ge 25, 3) := by decide +kernel
theorem dX2_play_56 : decode cX2_play 56 = .ok (.aload_n 0, 1) := by decide +kernel
theorem dX2_play_57 : decode cX2_play 57 = .ok (.getfield 35, 3) := by decide +kernel
theorem dX2_play_60 : decode cX2_play 60 = .ok (.iload 5, 2) := by decide +kernel
theorem dX2_play_62 : decode cX2_play 62 = .ok (.iconst 0, 1) := by decide +kernel
theorem dX2_play_63 : decode cX2_play 63 = .ok (.iastore, 1) := by decide +kernel
theorem dX2_play_64 : decode cX2_play 64 = .ok (.aload_n 0, 1) := by decide +kernel
theorem dX2_play_65 : decode cX2_play 65 = .ok (.getfield 38, 3) := by decide +kernel
theorem dX2_play_68 : decode cX2_play 68 = .ok (.iload 5, 2) := by decide +kernel
theorem dX2_play_70 : decode cX2_play 70 = .ok (.iconst 0, 1) := by decide +kernel
theorem dX2_play_71 : decode cX2_play 71 = .ok (.iastore, 1) := by decide +kernel
theorem dX2_play_72 : decode cX2_play 72 = .ok (.iinc 5 1, 3) := by decide +kernel
theorem dX2_play_75 : decode cX2_play 75 = .ok (.goto (-26), 3) := by decide +kernel
theorem dX2_play_78 : decode cX2_play 78 = .ok (.iconst 0, 1) := by decide +kernel
theorem dX2_play_79 : decode cX2_play 79 = .ok (.istore 5, 2) := by decide +kernel
theorem dX2_play_81 : decode cX2_play 81 = .ok (.iload 5, 2) := by decide +kernel
theorem dX2_play_83 : decode cX2_play 83 = .ok (.aload_n 0, 1) := by decide +kernel
theorem dX2_play_84 : decode cX2_play 84 = .ok (.getfield 66, 3) := by decide +kernel
theorem dX2_play_87 : decode cX2_play 87 = .ok (.if_icmp .ge 131, 3) := by decide +kernel
theorem dX2_play_90 : decode cX2_play 90 = .ok (.iconst 0, 1) := by decide +kernel
theorem dX2_play_91 : decode cX2_play 91 = .ok (.istore 6, 2) := by decide +kernel
theorem dX2_play_93 : decode cX2_play 93 = .ok (.iload 6, 2) := by decide +kernel
theorem dX2_play_95 : decode cX2_play 95 = .ok (.aload_n 0, 1) := by decide +kernel
theorem dX2_play_96 : decode cX2_play 96 = .ok (.getfield 84, 3) := by decide +kernel
theorem dX2_play_99 : decode cX2_play 99 = .ok (.if_icmp .ge 113, 3) := by decide +kernel
theorem dX2_play_102 : decode cX2_play 102 = .ok (.aload_n 1, 1) := by decide +kernel
theorem dX2_play_103 : decode cX2_play 103 = .ok (.aload_n 0, 1) := by decide +kernel
theorem dX2_play_104 : decode cX2_play 104 = .ok (.getfield 13, 3) := by decide +kernel
theorem dX2_play_107 : decode cX2_play 107 = .ok (.iload 5, 2) := by decide +kernel
theorem dX2_play_109 : decode cX2_play 109 = .ok (.aaload, 1) := by decide +kernel
theorem dX2_play_110 : decode cX2_play 110 = .ok (.aload_n 0, 1) := by decide +kernel
theorem dX2_play_111 : decode cX2_play 111 = .ok (.getfield 17, 3) := by decide +kernel
theorem dX2_play_114 : decode cX2_play 114 = .ok (.iload 6, 2) := by decide +kernel
theorem dX2_play_116 : decode cX2_play 116 = .ok (.aaload, 1) := by decide +kernel
theorem dX2_play_117 : decode cX2_play 117 = .ok (.invokevirtual 73, 3) := by decide +kernel
theorem dX2_play_120 : decode cX2_play 120 = .ok (.aload_n 0, 1) := by decide +kernel
theorem dX2_play_121 : decode cX2_play 121 = .ok (.getfield 29, 3) := by decide +kernel
theorem dX2_play_124 : decode cX2_play 124 = .ok (.iload 5, 2) := by decide +kernel
theorem dX2_play_126 : decode cX2_play 126 = .ok (.aaload, 1) := by decide +kernel
theorem dX2_play_127 : decode cX2_play 127 = .ok (.iload 6, 2) := by decide +kernel
theorem dX2_play_129 : decode cX2_play 129 = .ok (.aload_n 1, 1) := by decide +kernel
theorem dX2_play_130 : decode cX2_play 130 = .ok (.getfield 77, 3) := by decide +kernel
theorem dX2_play_133 : decode cX2_play 133 = .ok (.iconst 0, 1) := by decide +kernel
theorem dX2_play_134 : decode cX2_play 134 = .ok (.iaload, 1) := by decide +kernel
theorem dX2_play_135 : decode cX2_play 135 = .ok (.iastore, 1) := by decide +kernel
theorem dX2_play_136 : decode cX2_play 136 = .ok (.aload_n 0, 1) := by decide +kernel
theorem dX2_play_137 : decode cX2_play 137 = .ok (.getfield 32, 3) := by decide +kernel
theorem dX2_play_140 : decode cX2_play 140 = .ok (.iload 5, 2) := by decide +kernel
theorem dX2_play_142 : decode cX2_play 142 = .ok (.aaload, 1) := by decide +kernel
theorem dX2_play_143 : decode cX2_play 143 = .ok (.iload 6, 2) := by decide +kernel
theorem dX2_play_145 : decode cX2_play 145 = .ok (.aload_n 1, 1) := by decide +kernel
theorem dX2_play_146 : decode cX2_play 146 = .ok (.getfield 77, 3) := by decide +kernel
theorem dX2_play_149 : decode cX2_play 149 = .ok (.iconst 1, 1) := by decide +kernel
theorem dX2_play_150 : decode cX2_play 150 = .ok (.iaload, 1) := by decide +kernel
theorem dX2_play_151 : decode cX2_play 151 = .ok (.iastore, 1) := by decide +kernel
theorem dX2_play_152 : decode cX2_play 152 = .ok (.aload_n 0, 1) := by decide +kernel
theorem dX2_play_153 : decode cX2_play 153 = .ok (.getfield 35, 3) := by decide +kernel
theorem dX2_play_156 : decode cX2_play 156 = .ok (.iload 6, 2) := by decide +kernel
theorem dX2_play_158 : decode cX2_play 158 = .ok (.aload_n 0, 1) := by decide +kernel
theorem dX2_play_159 : decode cX2_play 159 = .ok (.getfield 35, 3) := by decide +kernel
theorem dX2_play_162 : decode cX2_play 162 = .ok (.iload 6, 2) := by decide +kernel
theorem dX2_play_164 : decode cX2_play 164 = .ok (.iaload, 1) := by decide +kernel
theorem dX2_play_165 : decode cX2_play 165 = .ok (.aload_n 0, 1) := by decide +kernel
theorem dX2_play_166 : decode cX2_play 166 = .ok (.getfield 29, 3) := by decide +kernel
theorem dX2_play_169 : decode cX2_play 169 = .ok (.iload 5, 2) := by decide +kernel
theorem dX2_play_171 : decode cX2_play 171 = .ok (.aaload, 1) := by decide +kernel
theorem dX2_play_172 : decode cX2_play 172 = .ok (.iload 6, 2) := by decide +kernel
theorem dX2_play_174 : decode cX2_play 174 = .ok (.iaload, 1) := by decide +kernel
theorem dX2_play_175 : decode cX2_play 175 = .ok (.invokestatic 87, 3) := by decide +kernel
theorem dX2_play_178 : decode cX2_play 178 = .ok (.iastore, 1) := by decide +kernel
theorem dX2_play_179 : decode cX2_play 179 = .ok (.aload_n 0, 1) := by decide +kernel
theorem dX2_play_180 : decode cX2_play 180 = .ok (.getfield 38, 3) := by decide +kernel
theorem dX2_play_183 : decode cX2_play 183 = .ok (.iload 5, 2) := by decide +kernel
theorem dX2_play_185 : decode cX2_play 185 = .ok (.aload_n 0, 1) := by decide +kernel
theorem dX2_play_186 : decode cX2_play 186 = .ok (.getfield 38, 3) := by decide +kernel
theorem dX2_play_189 : decode cX2_play 189 = .ok (.iload 5, 2) := by decide +kernel
theorem dX2_play_191 : decode cX2_play 191 = .ok (.iaload, 1) := by decide +kernel
theorem dX2_play_192 : decode cX2_play 192 = .ok (.aload_n 0, 1) := by decide +kernel
theorem dX2_play_193 : decode cX2_play 193 = .ok (.getfield 32, 3) := by decide +kernel
theorem dX2_play_196 : decode cX2_play 196 = .ok (.iload 5, 2) := by decide +kernel
theorem dX2_play_198 : decode cX2_play 198 = .ok (.aaload, 1) := by decide +kernel
theorem dX2_play_199 : decode cX2_play 199 = .ok (.iload 6, 2) := by decide +kernel
theorem dX2_play_201 : decode cX2_play 201 = .ok (.iaload, 1) := by decide +kernel
theorem dX2_play_202 : decode cX2_play 202 = .ok (.invokestatic 87, 3) := by decide +kernel
theorem dX2_play_205 : decode cX2_play 205 = .ok (.iastore, 1) := by decide +kernel
theorem dX2_play_206 : decode cX2_play 206 = .ok (.iinc 6 1, 3) := by decide +kernel
theorem dX2_play_209 : decode cX2_play 209 = .ok (.goto (-116), 3) := by decide +kernel
theorem dX2_play_212 : decode cX2_play 212 = .ok (.iinc 5 1, 3) := by decide +kernel
theorem dX2_play_215 : decode cX2_play 215 = .ok (.goto (-134), 3) := by decide +kernel
theorem dX2_play_218 : decode cX2_play 218 = .ok (.return_, 1) := by decide +kernel
theorem dX2_isRest_0 : decode cX2_isRest 0 = .ok (.aload_n 0, 1) := by decide +kernel
theorem dX2_isRest_1 : decode cX2_isRest 1 = .ok (.getfield 29, 3) := by decide +kernel
theorem dX2_isRest_4 : decode cX2_isRest 4 = .ok (.iload_n 1, 1) := by decide +kernel
theorem dX2_isRest_5 : decode cX2_isRest 5 = .ok (.aaload, 1) := by decide +kernel
theorem dX2_isRest_6 : decode cX2_isRest 6 = .ok (.iload_n 2, 1) := by decide +kernel
theorem dX2_isRest_7 : decode cX2_isRest 7 = .ok (.iaload, 1) := by decide +kernel
theorem dX2_isRest_8 : decode cX2_isRest 8 = .ok (.aload_n 0, 1) := by decide +kernel
theorem dX2_isRest_9 : decode cX2_isRest 9 = .ok (.getfield 35, 3) := by decide +kernel
theorem dX2_isRest_12 : decode cX2_isRest 12 = .ok (.iload_n 2, 1) := by decide +kernel
theorem dX2_isRest_13 : decode cX2_isRest 13 = .ok (.iaload, 1) := by decide +kernel
theorem dX2_isRest_14 : decode cX2_isRest 14 = .ok (.if_icmp .ne 24, 3) := by decide +kernel
theorem dX2_isRest_17 : decode cX2_isRest 17 = .ok (.aload_n 0, 1) := by decide +kernel
theorem dX2_isRest_18 : decode cX2_isRest 18 = .ok (.getfield 32, 3) := by decide +kernel
theorem dX2_isRest_21 : decode cX2_isRest 21 = .ok (.iload_n 1, 1) := by decide +kernel
theorem dX2_isRest_22 : decode cX2_isRest 22 = .ok (.aaload, 1) := by decide +kernel
theorem dX2_isRest_23 : decode cX2_isRest 23 = .ok (.iload_n 2, 1) := by decide +kernel
theorem dX2_isRest_24 : decode cX2_isRest 24 = .ok (.iaload, 1) := by decide +kernel
theorem dX2_isRest_25 : decode cX2_isRest 25 = .ok (.aload_n 0, 1) := by decide +kernel
theorem dX2_isRest_26 : decode cX2_isRest 26 = .ok (.getfield 38, 3) := by decide +kernel
theorem dX2_isRest_29 : decode cX2_isRest 29 = .ok (.iload_n 1, 1) := by decide +kernel
theorem dX2_isRest_30 : decode cX2_isRest 30 = .ok (.iaload, 1) := by decide +kernel
theorem dX2_isRest_31 : decode cX2_isRest 31 = .ok (.if_icmp .ne 7, 3) := by decide +kernel
theorem dX2_isRest_34 : decode cX2_isRest 34 = .ok (.iconst 1, 1) := by decide +kernel
theorem dX2_isRest_35 : decode cX2_isRest 35 = .ok (.goto 4, 3) := by decide +kernel
theorem dX2_isRest_38 : decode cX2_isRest 38 = .ok (.iconst 0, 1) := by decide +kernel
theorem dX2_isRest_39 : decode cX2_isRest 39 = .ok (.ireturn, 1) := by decide +kernel
theorem dX2_countRests_0 : decode cX2_countRests 0 = .ok (.iconst 0, 1) := by decide +kernel
theorem dX2_countRests_1 : decode cX2_countRests 1 = .ok (.istore_n 1, 1) := by decide +kernel
theorem dX2_countRests_2 : decode cX2_countRests 2 = .ok (.iconst 0, 1) := by decide +kernel
theorem dX2_countRests_3 : decode cX2_countRests 3 = .ok (.istore_n 2, 1) := by decide +kernel
theorem dX2_countRests_4 : decode cX2_countRests 4 = .ok (.iload_n 2, 1) := by decide +kernel
theorem dX2_countRests_5 : decode cX2_countRests 5 = .ok (.aload_n 0, 1) := by decide +kernel
theorem dX2_countRests_6 : decode cX2_countRests 6 = .ok (.getfield 66, 3) := by decide +kernel
theorem dX2_countRests_9 : decode cX2_countRests 9 = .ok (.if_icmp .ge 37, 3) := by decide +kernel
theorem dX2_countRests_12 : decode cX2_countRests 12 = .ok (.iconst 0, 1) := by decide +kernel
theorem dX2_countRests_13 : decode cX2_countRests 13 = .ok (.istore_n 3, 1) := by decide +kernel
theorem dX2_countRests_14 : decode cX2_countRests 14 = .ok (.iload_n 3, 1) := by decide +kernel
theorem dX2_countRests_15 : decode cX2_countRests 15 = .ok (.aload_n 0, 1) := by decide +kernel
theorem dX2_countRests_16 : decode cX2_countRests 16 = .ok (.getfield 84, 3) := by decide +kernel
theorem dX2_countRests_19 : decode cX2_countRests 19 = .ok (.if_icmp .ge 21, 3) := by decide +kernel
theorem dX2_countRests_22 : decode cX2_countRests 22 = .ok (.aload_n 0, 1) := by decide +kernel
theorem dX2_countRests_23 : decode cX2_countRests 23 = .ok (.iload_n 2, 1) := by decide +kernel
theorem dX2_countRests_24 : decode cX2_countRests 24 = .ok (.iload_n 3, 1) := by decide +kernel
theorem dX2_countRests_25 : decode cX2_countRests 25 = .ok (.invokevirtual 93, 3) := by decide +kernel
theorem dX2_countRests_28 : decode cX2_countRests 28 = .ok (.ifCond .eq 6, 3) := by decide +kernel
theorem dX2_countRests_31 : decode cX2_countRests 31 = .ok (.iinc 1 1, 3) := by decide +kernel
theorem dX2_countRests_34 : decode cX2_countRests 34 = .ok (.iinc 3 1, 3) := by decide +kernel
theorem dX2_countRests_37 : decode cX2_countRests 37 = .ok (.goto (-23), 3) := by decide +kernel
theorem dX2_countRests_40 : decode cX2_countRests 40 = .ok (.iinc 2 1, 3) := by decide +kernel
theorem dX2_countRests_43 : decode cX2_countRests 43 = .ok (.goto (-39), 3) := by decide +kernel
theorem dX2_countRests_46 : decode cX2_countRests 46 = .ok (.iload_n 1, 1) := by decide +kernel
theorem dX2_countRests_47 : decode cX2_countRests 47 = .ok (.ireturn, 1) := by decide +kernel
theorem dX2_firstRest_0 : decode cX2_firstRest 0 = .ok (.iconst 0, 1) := by decide +kernel
theorem dX2_firstRest_1 : decode cX2_firstRest 1 = .ok (.istore_n 1, 1) := by decide +kernel
theorem dX2_firstRest_2 : decode cX2_firstRest 2 = .ok (.iload_n 1, 1) := by decide +kernel
theorem dX2_firstRest_3 : decode cX2_firstRest 3 = .ok (.aload_n 0, 1) := by decide +kernel
theorem dX2_firstRest_4 : decode cX2_firstRest 4 = .ok (.getfield 66, 3) := by decide +kernel
theorem dX2_firstRest_7 : decode cX2_firstRest 7 = .ok (.if_icmp .ge 51, 3) := by decide +kernel
theorem dX2_firstRest_10 : decode cX2_firstRest 10 = .ok (.iconst 0, 1) := by decide +kernel
theorem dX2_firstRest_11 : decode cX2_firstRest 11 = .ok (.istore_n 2, 1) := by decide +kernel
theorem dX2_firstRest_12 : decode cX2_firstRest 12 = .ok (.iload_n 2, 1) := by decide +kernel
theorem dX2_firstRest_13 : decode cX2_firstRest 13 = .ok (.aload_n 0, 1) := by decide +kernel
theorem dX2_firstRest_14 : decode cX2_firstRest 14 = .ok (.getfield 84, 3) := by decide +kernel
theorem dX2_firstRest_17 : decode cX2_firstRest 17 = .ok (.if_icmp .ge 35, 3) := by decide +kernel
theorem dX2_firstRest_20 : decode cX2_firstRest 20 = .ok (.aload_n 0, 1) := by decide +kernel
theorem dX2_firstRest_21 : decode cX2_firstRest 21 = .ok (.iload_n 1, 1) := by decide +kernel
theorem dX2_firstRest_22 : decode cX2_firstRest 22 = .ok (.iload_n 2, 1) := by decide +kernel
theorem dX2_firstRest_23 : decode cX2_firstRest 23 = .ok (.invokevirtual 93, 3) := by decide +kernel
theorem dX2_firstRest_26 : decode cX2_firstRest 26 = .ok (.ifCond .eq 20, 3) := by decide +kernel
theorem dX2_firstRest_29 : decode cX2_firstRest 29 = .ok (.bipush 100, 2) := by decide +kernel
theorem dX2_firstRest_31 : decode cX2_firstRest 31 = .ok (.aload_n 0, 1) := by decide +kernel
theorem dX2_firstRest_32 : decode cX2_firstRest 32 = .ok (.getfield 20, 3) := by decide +kernel
theorem dX2_firstRest_35 : decode cX2_firstRest 35 = .ok (.iload_n 1, 1) := by decide +kernel
theorem dX2_firstRest_36 : decode cX2_firstRest 36 = .ok (.iaload, 1) := by decide +kernel
theorem dX2_firstRest_37 : decode cX2_firstRest 37 = .ok (.imul, 1) := by decide +kernel
theorem dX2_firstRest_38 : decode cX2_firstRest 38 = .ok (.aload_n 0, 1) := by decide +kernel
theorem dX2_firstRest_39 : decode cX2_firstRest 39 = .ok (.getfield 24, 3) := by decide +kernel
theorem dX2_firstRest_42 : decode cX2_firstRest 42 = .ok (.iload_n 2, 1) := by decide +kernel
theorem dX2_firstRest_43 : decode cX2_firstRest 43 = .ok (.iaload, 1) := by decide +kernel
theorem dX2_firstRest_44 : decode cX2_firstRest 44 = .ok (.iadd, 1) := by decide +kernel
theorem dX2_firstRest_45 : decode cX2_firstRest 45 = .ok (.ireturn, 1) := by decide +kernel
theorem dX2_firstRest_46 : decode cX2_firstRest 46 = .ok (.iinc 2 1, 3) := by decide +kernel
theorem dX2_firstRest_49 : decode cX2_firstRest 49 = .ok (.goto (-37), 3) := by decide +kernel
theorem dX2_firstRest_52 : decode cX2_firstRest 52 = .ok (.iinc 1 1, 3) := by decide +kernel
theorem dX2_firstRest_55 : decode cX2_firstRest 55 = .ok (.goto (-53), 3) := by decide +kernel
theorem dX2_firstRest_58 : decode cX2_firstRest 58 = .ok (.bipush (-2), 2) := by decide +kernel
theorem dX2_firstRest_60 : decode cX2_firstRest 60 = .ok (.ireturn, 1) := by decide +kernel
theorem dX2_surest_0 : decode cX2_surest 0 = .ok (.iconst 0, 1) := by decide +kernel
theorem dX2_surest_1 : decode cX2_surest 1 = .ok (.istore_n 1, 1) := by decide +kernel
theorem dX2_surest_2 : decode cX2_surest 2 = .ok (.iconst 0, 1) := by decide +kernel
theorem dX2_surest_3 : decode cX2_surest 3 = .ok (.istore_n 2, 1) := by decide +kernel
theorem dX2_surest_4 : decode cX2_surest 4 = .ok (.iload_n 2, 1) := by decide +kernel
theorem dX2_surest_5 : decode cX2_surest 5 = .ok (.aload_n 0, 1) := by decide +kernel
theorem dX2_surest_6 : decode cX2_surest 6 = .ok (.getfield 66, 3) := by decide +kernel
theorem dX2_surest_9 : decode cX2_surest 9 = .ok (.if_icmp .ge 50, 3) := by decide +kernel
theorem dX2_surest_12 : decode cX2_surest 12 = .ok (.ldc 99, 2) := by decide +kernel
theorem dX2_surest_14 : decode cX2_surest 14 = .ok (.istore_n 3, 1) := by decide +kernel
theorem dX2_surest_15 : decode cX2_surest 15 = .ok (.iconst 0, 1) := by decide +kernel
theorem dX2_surest_16 : decode cX2_surest 16 = .ok (.istore 4, 2) := by decide +kernel
theorem dX2_surest_18 : decode cX2_surest 18 = .ok (.iload 4, 2) := by decide +kernel
theorem dX2_surest_20 : decode cX2_surest 20 = .ok (.aload_n 0, 1) := by decide +kernel
theorem dX2_surest_21 : decode cX2_surest 21 = .ok (.getfield 84, 3) := by decide +kernel
theorem dX2_surest_24 : decode cX2_surest 24 = .ok (.if_icmp .ge 23, 3) := by decide +kernel
theorem dX2_surest_27 : decode cX2_surest 27 = .ok (.iload_n 3, 1) := by decide +kernel
theorem dX2_surest_28 : decode cX2_surest 28 = .ok (.aload_n 0, 1) := by decide +kernel
theorem dX2_surest_29 : decode cX2_surest 29 = .ok (.getfield 29, 3) := by decide +kernel
theorem dX2_surest_32 : decode cX2_surest 32 = .ok (.iload_n 2, 1) := by decide +kernel
theorem dX2_surest_33 : decode cX2_surest 33 = .ok (.aaload, 1) := by decide +kernel
theorem dX2_surest_34 : decode cX2_surest 34 = .ok (.iload 4, 2) := by decide +kernel
theorem dX2_surest_36 : decode cX2_surest 36 = .ok (.iaload, 1) := by decide +kernel
theorem dX2_surest_37 : decode cX2_surest 37 = .ok (.invokestatic 100, 3) := by decide +kernel
theorem dX2_surest_40 : decode cX2_surest 40 = .ok (.istore_n 3, 1) := by decide +kernel
theorem dX2_surest_41 : decode cX2_surest 41 = .ok (.iinc 4 1, 3) := by decide +kernel
theorem dX2_surest_44 : decode cX2_surest 44 = .ok (.goto (-26), 3) := by decide +kernel
theorem dX2_surest_47 : decode cX2_surest 47 = .ok (.iload_n 1, 1) := by decide +kernel
theorem dX2_surest_48 : decode cX2_surest 48 = .ok (.iload_n 3, 1) := by decide +kernel
theorem dX2_surest_49 : decode cX2_surest 49 = .ok (.invokestatic 87, 3) := by decide +kernel
theorem dX2_surest_52 : decode cX2_surest 52 = .ok (.istore_n 1, 1) := by decide +kernel
theorem dX2_surest_53 : decode cX2_surest 53 = .ok (.iinc 2 1, 3) := by decide +kernel
theorem dX2_surest_56 : decode cX2_surest 56 = .ok (.goto (-52), 3) := by decide +kernel
theorem dX2_surest_59 : decode cX2_surest 59 = .ok (.iload_n 1, 1) := by decide +kernel
theorem dX2_surest_60 : decode cX2_surest 60 = .ok (.ireturn, 1) := by decide +kernel
theorem dX3_init_0 : decode cX3_init 0 = .ok (.aload_n 0, 1) := by decide +kernel
theorem dX3_init_1 : decode cX3_init 1 = .ok (.invokespecial 1, 3) := by decide +kernel
theorem dX3_init_4 : decode cX3_init 4 = .ok (.aload_n 0, 1) := by decide +kernel
theorem dX3_init_5 : decode cX3_init 5 = .ok (.bipush 16, 2) := by decide +kernel
theorem dX3_init_7 : decode cX3_init 7 = .ok (.anewarray 9, 3) := by decide +kernel
theorem dX3_init_10 : decode cX3_init 10 = .ok (.putfield 11, 3) := by decide +kernel
theorem dX3_init_13 : decode cX3_init 13 = .ok (.aload_n 0, 1) := by decide +kernel
theorem dX3_init_14 : decode cX3_init 14 = .ok (.iconst 3, 1) := by decide +kernel
theorem dX3_init_15 : decode cX3_init 15 = .ok (.anewarray 9, 3) := by decide +kernel
theorem dX3_init_18 : decode cX3_init 18 = .ok (.putfield 15, 3) := by decide +kernel
theorem dX3_init_21 : decode cX3_init 21 = .ok (.iconst 0, 1) := by decide +kernel
theorem dX3_init_22 : decode cX3_init 22 = .ok (.istore_n 1, 1) := by decide +kernel
theorem dX3_init_23 : decode cX3_init 23 = .ok (.iload_n 1, 1) := by decide +kernel
theorem dX3_init_24 : decode cX3_init 24 = .ok (.bipush 16, 2) := by decide +kernel
theorem dX3_init_26 : decode cX3_init 26 = .ok (.if_icmp .ge 22, 3) := by decide +kernel
theorem dX3_init_29 : decode cX3_init 29 = .ok (.aload_n 0, 1) := by decide +kernel
theorem dX3_init_30 : decode cX3_init 30 = .ok (.getfield 11, 3) := by decide +kernel
theorem dX3_init_33 : decode cX3_init 33 = .ok (.iload_n 1, 1) := by decide +kernel
theorem dX3_init_34 : decode cX3_init 34 = .ok (.new 9, 3) := by decide +kernel
theorem dX3_init_37 : decode cX3_init 37 = .ok (.dup, 1) := by decide +kernel
theorem dX3_init_38 : decode cX3_init 38 = .ok (.invokespecial 18, 3) := by decide +kernel
theorem dX3_init_41 : decode cX3_init 41 = .ok (.aastore, 1) := by decide +kernel
theorem dX3_init_42 : decode cX3_init 42 = .ok (.iinc 1 1, 3) := by decide +kernel
theorem dX3_init_45 : decode cX3_init 45 = .ok (.goto (-22), 3) := by decide +kernel
theorem dX3_init_48 : decode cX3_init 48 = .ok (.iconst 0, 1) := by decide +kernel
theorem dX3_init_49 : decode cX3_init 49 = .ok (.istore_n 1, 1) := by decide +kernel
theorem dX3_init_50 : decode cX3_init 50 = .ok (.iload_n 1, 1) := by decide +kernel
theorem dX3_init_51 : decode cX3_init 51 = .ok (.iconst 3, 1) := by decide +kernel
theorem dX3_init_52 : decode cX3_init 52 = .ok (.if_icmp .ge 22, 3) := by decide +kernel
theorem dX3_init_55 : decode cX3_init 55 = .ok (.aload_n 0, 1) := by decide +kernel
theorem dX3_init_56 : decode cX3_init 56 = .ok (.getfield 15, 3) := by decide +kernel
theorem dX3_init_59 : decode cX3_init 59 = .ok (.iload_n 1, 1) := by decide +kernel
theorem dX3_init_60 : decode cX3_init 60 = .ok (.new 9, 3) := by decide +kernel
theorem dX3_init_63 : decode cX3_init 63 = .ok (.dup, 1) := by decide +kernel
theorem dX3_init_64 : decode cX3_init 64 = .ok (.invokespecial 18, 3) := by decide +kernel
theorem dX3_init_67 : decode cX3_init 67 = .ok (.aastore, 1) := by decide +kernel
theorem dX3_init_68 : decode cX3_init 68 = .ok (.iinc 1 1, 3) := by decide +kernel
theorem dX3_init_71 : decode cX3_init 71 = .ok (.goto (-21), 3) := by decide +kernel
theorem dX3_init_74 : decode cX3_init 74 = .ok (.return_, 1) := by decide +kernel
theorem dX3_clear_0 : decode cX3_clear 0 = .ok (.aload_n 0, 1) := by decide +kernel
theorem dX3_clear_1 : decode cX3_clear 1 = .ok (.iconst 0, 1) := by decide +kernel
theorem dX3_clear_2 : decode cX3_clear 2 = .ok (.putfield 19, 3) := by decide +kernel
theorem dX3_clear_5 : decode cX3_clear 5 = .ok (.aload_n 0, 1) := by decide +kernel
theorem dX3_clear_6 : decode cX3_clear 6 = .ok (.iconst 0, 1) := by decide +kernel
theorem dX3_clear_7 : decode cX3_clear 7 = .ok (.putfield 23, 3) := by decide +kernel
theorem dX3_clear_10 : decode cX3_clear 10 = .ok (.return_, 1) := by decide +kernel
theorem dX3_keep_0 : decode cX3_keep 0 = .ok (.aload_n 0, 1) := by decide +kernel
theorem dX3_keep_1 : decode cX3_keep 1 = .ok (.getfield 11, 3) := by decide +kernel
theorem dX3_keep_4 : decode cX3_keep 4 = .ok (.aload_n 0, 1) := by decide +kernel
theorem dX3_keep_5 : decode cX3_keep 5 = .ok (.getfield 26, 3) := by decide +kernel
theorem dX3_keep_8 : decode cX3_keep 8 = .ok (.aaload, 1) := by decide +kernel
theorem dX3_keep_9 : decode cX3_keep 9 = .ok (.aload_n 1, 1) := by decide +kernel
theorem dX3_keep_10 : decode cX3_keep 10 = .ok (.invokevirtual 29, 3) := by decide +kernel
theorem dX3_keep_13 : decode cX3_keep 13 = .ok (.aload_n 0, 1) := by decide +kernel
theorem dX3_keep_14 : decode cX3_keep 14 = .ok (.aload_n 0, 1) := by decide +kernel
theorem dX3_keep_15 : decode cX3_keep 15 = .ok (.getfield 26, 3) := by decide +kernel
theorem dX3_keep_18 : decode cX3_keep 18 = .ok (.iconst 1, 1) := by decide +kernel
theorem dX3_keep_19 : decode cX3_keep 19 = .ok (.iadd, 1) := by decide +kernel
theorem dX3_keep_20 : decode cX3_keep 20 = .ok (.bipush 16, 2) := by decide +kernel
theorem dX3_keep_22 : decode cX3_keep 22 = .ok (.irem, 1) := by decide +kernel
theorem dX3_keep_23 : decode cX3_keep 23 = .ok (.putfield 26, 3) := by decide +kernel
theorem dX3_keep_26 : decode cX3_keep 26 = .ok (.aload_n 0, 1) := by decide +kernel
theorem dX3_keep_27 : decode cX3_keep 27 = .ok (.bipush 16, 2) := by decide +kernel
theorem dX3_keep_29 : decode cX3_keep 29 = .ok (.aload_n 0, 1) := by decide +kernel
theorem dX3_keep_30 : decode cX3_keep 30 = .ok (.getfield 19, 3) := by decide +kernel
theorem dX3_keep_33 : decode cX3_keep 33 = .ok (.iconst 1, 1) := by decide +kernel
theorem dX3_keep_34 : decode cX3_keep 34 = .ok (.iadd, 1) := by decide +kernel
theorem dX3_keep_35 : decode cX3_keep 35 = .ok (.invokestatic 33, 3) := by decide +kernel
theorem dX3_keep_38 : decode cX3_keep 38 = .ok (.putfield 19, 3) := by decide +kernel
theorem dX3_keep_41 : decode cX3_keep 41 = .ok (.return_, 1) := by decide +kernel
theorem dX3_takeBack_0 : decode cX3_takeBack 0 = .ok (.aload_n 0, 1) := by decide +kernel
theorem dX3_takeBack_1 : decode cX3_takeBack 1 = .ok (.aload_n 0, 1) := by decide +kernel
theorem dX3_takeBack_2 : decode cX3_takeBack 2 = .ok (.getfield 26, 3) := by decide +kernel
theorem dX3_takeBack_5 : decode cX3_takeBack 5 = .ok (.bipush 16, 2) := by decide +kernel
theorem dX3_takeBack_7 : decode cX3_takeBack 7 = .ok (.iadd, 1) := by decide +kernel
theorem dX3_takeBack_8 : decode cX3_takeBack 8 = .ok (.iconst 1, 1) := by decide +kernel
theorem dX3_takeBack_9 : decode cX3_takeBack 9 = .ok (.isub, 1) := by decide +kernel
theorem dX3_takeBack_10 : decode cX3_takeBack 10 = .ok (.bipush 16, 2) := by decide +kernel
theorem dX3_takeBack_12 : decode cX3_takeBack 12 = .ok (.irem, 1) := by decide +kernel
theorem dX3_takeBack_13 : decode cX3_takeBack 13 = .ok (.putfield 26, 3) := by decide +kernel
theorem dX3_takeBack_16 : decode cX3_takeBack 16 = .ok (.aload_n 0, 1) := by decide +kernel
theorem dX3_takeBack_17 : decode cX3_takeBack 17 = .ok (.dup, 1) := by decide +kernel
theorem dX3_takeBack_18 : decode cX3_takeBack 18 = .ok (.getfield 19, 3) := by decide +kernel
theorem dX3_takeBack_21 : decode cX3_takeBack 21 = .ok (.iconst 1, 1) := by decide +kernel
theorem dX3_takeBack_22 : decode cX3_takeBack 22 = .ok (.isub, 1) := by decide +kernel
theorem dX3_takeBack_23 : decode cX3_takeBack 23 = .ok (.putfield 19, 3) := by decide +kernel
theorem dX3_takeBack_26 : decode cX3_takeBack 26 = .ok (.aload_n 1, 1) := by decide +kernel
theorem dX3_takeBack_27 : decode cX3_takeBack 27 = .ok (.aload_n 0, 1) := by decide +kernel
theorem dX3_takeBack_28 : decode cX3_takeBack 28 = .ok (.getfield 11, 3) := by decide +kernel
theorem dX3_takeBack_31 : decode cX3_takeBack 31 = .ok (.aload_n 0, 1) := by decide +kernel
theorem dX3_takeBack_32 : decode cX3_takeBack 32 = .ok (.getfield 26, 3) := by decide +kernel
theorem dX3_takeBack_35 : decode cX3_takeBack 35 = .ok (.aaload, 1) := by decide +kernel
theorem dX3_takeBack_36 : decode cX3_takeBack 36 = .ok (.invokevirtual 29, 3) := by decide +kernel
theorem dX3_takeBack_39 : decode cX3_takeBack 39 = .ok (.return_, 1) := by decide +kernel
theorem dX3_hasRoomForMark_0 : decode cX3_hasRoomForMark 0 = .ok (.aload_n 0, 1) := by decide +kernel
theorem dX3_hasRoomForMark_1 : decode cX3_hasRoomForMark 1 = .ok (.getfield 23, 3) := by decide +kernel
theorem dX3_hasRoomForMark_4 : decode cX3_hasRoomForMark 4 = .ok (.iconst 3, 1) := by decide +kernel
theorem dX3_hasRoomForMark_5 : decode cX3_hasRoomForMark 5 = .ok (.if_icmp .ge 7, 3) := by decide +kernel
theorem dX3_hasRoomForMark_8 : decode cX3_hasRoomForMark 8 = .ok (.iconst 1, 1) := by decide +kernel
theorem dX3_hasRoomForMark_9 : decode cX3_hasRoomForMark 9 = .ok (.goto 4, 3) := by decide +kernel
theorem dX3_hasRoomForMark_12 : decode cX3_hasRoomForMark 12 = .ok (.iconst 0, 1) := by decide +kernel
theorem dX3_hasRoomForMark_13 : decode cX3_hasRoomForMark 13 = .ok (.ireturn, 1) := by decide +kernel
theorem dX3_setMark_0 : decode cX3_setMark 0 = .ok (.aload_n 0, 1) := by decide +kernel
theorem dX3_setMark_1 : decode cX3_setMark 1 = .ok (.getfield 15, 3) := by decide +kernel
theorem dX3_setMark_4 : decode cX3_setMark 4 = .ok (.aload_n 0, 1) := by decide +kernel
theorem dX3_setMark_5 : decode cX3_setMark 5 = .ok (.getfield 23, 3) := by decide +kernel
theorem dX3_setMark_8 : decode cX3_setMark 8 = .ok (.aaload, 1) := by decide +kernel
theorem dX3_setMark_9 : decode cX3_setMark 9 = .ok (.aload_n 1, 1) := by decide +kernel
theorem dX3_setMark_10 : decode cX3_setMark 10 = .ok (.invokevirtual 29, 3) := by decide +kernel
theorem dX3_setMark_13 : decode cX3_setMark 13 = .ok (.aload_n 0, 1) := by decide +kernel
theorem dX3_setMark_14 : decode cX3_setMark 14 = .ok (.dup, 1) := by decide +kernel
theorem dX3_setMark_15 : decode cX3_setMark 15 = .ok (.getfield 23, 3) := by decide +kernel
theorem dX3_setMark_18 : decode cX3_setMark 18 = .ok (.iconst 1, 1) := by decide +kernel
theorem dX3_setMark_19 : decode cX3_setMark 19 = .ok (.iadd, 1) := by decide +kernel
theorem dX3_setMark_20 : decode cX3_setMark 20 = .ok (.putfield 23, 3) := by decide +kernel
theorem dX3_setMark_23 : decode cX3_setMark 23 = .ok (.aload_n 0, 1) := by decide +kernel
theorem dX3_setMark_24 : decode cX3_setMark 24 = .ok (.getfield 23, 3) := by decide +kernel
theorem dX3_setMark_27 : decode cX3_setMark 27 = .ok (.iconst 1, 1) := by decide +kernel
theorem dX3_setMark_28 : decode cX3_setMark 28 = .ok (.isub, 1) := by decide +kernel
theorem dX3_setMark_29 : decode cX3_setMark 29 = .ok (.ireturn, 1) := by decide +kernel
theorem dX3_goTo_0 : decode cX3_goTo 0 = .ok (.aload_n 2, 1) := by decide +kernel
theorem dX3_goTo_1 : decode cX3_goTo 1 = .ok (.aload_n 0, 1) := by decide +kernel
theorem dX3_goTo_2 : decode cX3_goTo 2 = .ok (.getfield 15, 3) := by decide +kernel
theorem dX3_goTo_5 : decode cX3_goTo 5 = .ok (.iload_n 1, 1) := by decide +kernel
theorem dX3_goTo_6 : decode cX3_goTo 6 = .ok (.aaload, 1) := by decide +kernel
theorem dX3_goTo_7 : decode cX3_goTo 7 = .ok (.invokevirtual 29, 3) := by decide +kernel
theorem dX3_goTo_10 : decode cX3_goTo 10 = .ok (.aload_n 0, 1) := by decide +kernel
theorem dX3_goTo_11 : decode cX3_goTo 11 = .ok (.iconst 0, 1) := by decide +kernel
theorem dX3_goTo_12 : decode cX3_goTo 12 = .ok (.putfield 19, 3) := by decide +kernel
theorem dX3_goTo_15 : decode cX3_goTo 15 = .ok (.return_, 1) := by decide +kernel
theorem dX4_init_0 : decode cX4_init 0 = .ok (.aload_n 0, 1) := by decide +kernel
theorem dX4_init_1 : decode cX4_init 1 = .ok (.invokespecial 3, 3) := by decide +kernel
theorem dX4_init_4 : decode cX4_init 4 = .ok (.aload_n 0, 1) := by decide +kernel
theorem dX4_init_5 : decode cX4_init 5 = .ok (.iconst 5, 1) := by decide +kernel
theorem dX4_init_6 : decode cX4_init 6 = .ok (.anewarray 9, 3) := by decide +kernel
theorem dX4_init_9 : decode cX4_init 9 = .ok (.putfield 11, 3) := by decide +kernel
theorem dX4_init_12 : decode cX4_init 12 = .ok (.aload_n 0, 1) := by decide +kernel
theorem dX4_init_13 : decode cX4_init 13 = .ok (.bipush 6, 2) := by decide +kernel
theorem dX4_init_15 : decode cX4_init 15 = .ok (.anewarray 17, 3) := by decide +kernel
theorem dX4_init_18 : decode cX4_init 18 = .ok (.putfield 19, 3) := by decide +kernel
theorem dX4_init_21 : decode cX4_init 21 = .ok (.aload_n 0, 1) := by decide +kernel
theorem dX4_init_22 : decode cX4_init 22 = .ok (.iconst 4, 1) := by decide +kernel
theorem dX4_init_23 : decode cX4_init 23 = .ok (.newarray .int, 2) := by decide +kernel
theorem dX4_init_25 : decode cX4_init 25 = .ok (.putfield 23, 3) := by decide +kernel
theorem dX4_init_28 : decode cX4_init 28 = .ok (.aload_n 0, 1) := by decide +kernel
theorem dX4_init_29 : decode cX4_init 29 = .ok (.iconst 4, 1) := by decide +kernel
theorem dX4_init_30 : decode cX4_init 30 = .ok (.newarray .int, 2) := by decide +kernel
theorem dX4_init_32 : decode cX4_init 32 = .ok (.putfield 27, 3) := by decide +kernel
theorem dX4_init_35 : decode cX4_init 35 = .ok (.iconst 0, 1) := by decide +kernel
theorem dX4_init_36 : decode cX4_init 36 = .ok (.istore_n 1, 1) := by decide +kernel
theorem dX4_init_37 : decode cX4_init 37 = .ok (.iload_n 1, 1) := by decide +kernel
theorem dX4_init_38 : decode cX4_init 38 = .ok (.iconst 5, 1) := by decide +kernel
theorem dX4_init_39 : decode cX4_init 39 = .ok (.if_icmp .ge 22, 3) := by decide +kernel
theorem dX4_init_42 : decode cX4_init 42 = .ok (.aload_n 0, 1) := by decide +kernel
theorem dX4_init_43 : decode cX4_init 43 = .ok (.getfield 11, 3) := by decide +kernel
theorem dX4_init_46 : decode cX4_init 46 = .ok (.iload_n 1, 1) := by decide +kernel
theorem dX4_init_47 : decode cX4_init 47 = .ok (.new 9, 3) := by decide +kernel
theorem dX4_init_50 : decode cX4_init 50 = .ok (.dup, 1) := by decide +kernel
theorem dX4_init_51 : decode cX4_init 51 = .ok (.invokespecial 30, 3) := by decide +kernel
theorem dX4_init_54 : decode cX4_init 54 = .ok (.aastore, 1) := by decide +kernel
theorem dX4_init_55 : decode cX4_init 55 = .ok (.iinc 1 1, 3) := by decide +kernel
theorem dX4_init_58 : decode cX4_init 58 = .ok (.goto (-21), 3) := by decide +kernel
theorem dX4_init_61 : decode cX4_init 61 = .ok (.iconst 0, 1) := by decide +kernel
theorem dX4_init_62 : decode cX4_init 62 = .ok (.istore_n 1, 1) := by decide +kernel
theorem dX4_init_63 : decode cX4_init 63 = .ok (.iload_n 1, 1) := by decide +kernel
theorem dX4_init_64 : decode cX4_init 64 = .ok (.bipush 6, 2) := by decide +kernel
theorem dX4_init_66 : decode cX4_init 66 = .ok (.if_icmp .ge 22, 3) := by decide +kernel
theorem dX4_init_69 : decode cX4_init 69 = .ok (.aload_n 0, 1) := by decide +kernel
theorem dX4_init_70 : decode cX4_init 70 = .ok (.getfield 19, 3) := by decide +kernel
theorem dX4_init_73 : decode cX4_init 73 = .ok (.iload_n 1, 1) := by decide +kernel
theorem dX4_init_74 : decode cX4_init 74 = .ok (.new 17, 3) := by decide +kernel
theorem dX4_init_77 : decode cX4_init 77 = .ok (.dup, 1) := by decide +kernel
theorem dX4_init_78 : decode cX4_init 78 = .ok (.invokespecial 31, 3) := by decide +kernel
theorem dX4_init_81 : decode cX4_init 81 = .ok (.aastore, 1) := by decide +kernel
theorem dX4_init_82 : decode cX4_init 82 = .ok (.iinc 1 1, 3) := by decide +kernel
theorem dX4_init_85 : decode cX4_init 85 = .ok (.goto (-22), 3) := by decide +kernel
theorem dX4_init_88 : decode cX4_init 88 = .ok (.return_, 1) := by decide +kernel
theorem dX4_clear_0 : decode cX4_clear 0 = .ok (.aload_n 0, 1) := by decide +kernel
theorem dX4_clear_1 : decode cX4_clear 1 = .ok (.iconst 0, 1) := by decide +kernel
theorem dX4_clear_2 : decode cX4_clear 2 = .ok (.putfield 32, 3) := by decide +kernel
theorem dX4_clear_5 : decode cX4_clear 5 = .ok (.aload_n 0, 1) := by decide +kernel
theorem dX4_clear_6 : decode cX4_clear 6 = .ok (.iconst 0, 1) := by decide +kernel
theorem dX4_clear_7 : decode cX4_clear 7 = .ok (.putfield 36, 3) := by decide +kernel
theorem dX4_clear_10 : decode cX4_clear 10 = .ok (.aload_n 0, 1) := by decide +kernel
theorem dX4_clear_11 : decode cX4_clear 11 = .ok (.iconst 0, 1) := by decide +kernel
theorem dX4_clear_12 : decode cX4_clear 12 = .ok (.putfield 39, 3) := by decide +kernel
theorem dX4_clear_15 : decode cX4_clear 15 = .ok (.aload_n 0, 1) := by decide +kernel
theorem dX4_clear_16 : decode cX4_clear 16 = .ok (.iconst 0, 1) := by decide +kernel
theorem dX4_clear_17 : decode cX4_clear 17 = .ok (.putfield 42, 3) := by decide +kernel
theorem dX4_clear_20 : decode cX4_clear 20 = .ok (.aload_n 0, 1) := by decide +kernel
theorem dX4_clear_21 : decode cX4_clear 21 = .ok (.iconst 0, 1) := by decide +kernel
theorem dX4_clear_22 : decode cX4_clear 22 = .ok (.putfield 45, 3) := by decide +kernel
theorem dX4_clear_25 : decode cX4_clear 25 = .ok (.aload_n 0, 1) := by decide +kernel
theorem dX4_clear_26 : decode cX4_clear 26 = .ok (.iconst 0, 1) := by decide +kernel
theorem dX4_clear_27 : decode cX4_clear 27 = .ok (.putfield 48, 3) := by decide +kernel
theorem dX4_clear_30 : decode cX4_clear 30 = .ok (.return_, 1) := by decide +kernel
theorem dX4_findBone_0 : decode cX4_findBone 0 = .ok (.iconst 0, 1) := by decide +kernel
theorem dX4_findBone_1 : decode cX4_findBone 1 = .ok (.istore_n 3, 1) := by decide +kernel
theorem dX4_findBone_2 : decode cX4_findBone 2 = .ok (.iload_n 3, 1) := by decide +kernel
theorem dX4_findBone_3 : decode cX4_findBone 3 = .ok (.aload_n 0, 1) := by decide +kernel
theorem dX4_findBone_4 : decode cX4_findBone 4 = .ok (.getfield 32, 3) := by decide +kernel
theorem dX4_findBone_7 : decode cX4_findBone 7 = .ok (.if_icmp .ge 25, 3) := by decide +kernel
theorem dX4_findBone_10 : decode cX4_findBone 10 = .ok (.aload_n 0, 1) := by decide +kernel
theorem dX4_findBone_11 : decode cX4_findBone 11 = .ok (.getfield 11, 3) := by decide +kernel
theorem dX4_findBone_14 : decode cX4_findBone 14 = .ok (.iload_n 3, 1) := by decide +kernel
theorem dX4_findBone_15 : decode cX4_findBone 15 = .ok (.aaload, 1) := by decide +kernel
theorem dX4_findBone_16 : decode cX4_findBone 16 = .ok (.getfield 51, 3) := by decide +kernel
theorem dX4_findBone_19 : decode cX4_findBone 19 = .ok (.lload_n 1, 1) := by decide +kernel
theorem dX4_findBone_20 : decode cX4_findBone 20 = .ok (.lcmp, 1) := by decide +kernel
theorem dX4_findBone_21 : decode cX4_findBone 21 = .ok (.ifCond .ne 5, 3) := by decide +kernel
theorem dX4_findBone_24 : decode cX4_findBone 24 = .ok (.iload_n 3, 1) := by decide +kernel
theorem dX4_findBone_25 : decode cX4_findBone 25 = .ok (.ireturn, 1) := by decide +kernel
theorem dX4_findBone_26 : decode cX4_findBone 26 = .ok (.iinc 3 1, 3) := by decide +kernel
theorem dX4_findBone_29 : decode cX4_findBone 29 = .ok (.goto (-27), 3) := by decide +kernel
theorem dX4_findBone_32 : decode cX4_findBone 32 = .ok (.iconst (-1), 1) := by decide +kernel
theorem dX4_findBone_33 : decode cX4_findBone 33 = .ok (.ireturn, 1) := by decide +kernel
theorem dX4_findPerson_0 : decode cX4_findPerson 0 = .ok (.iconst 0, 1) := by decide +kernel
theorem dX4_findPerson_1 : decode cX4_findPerson 1 = .ok (.istore_n 3, 1) := by decide +kernel
theorem dX4_findPerson_2 : decode cX4_findPerson 2 = .ok (.iload_n 3, 1) := by decide +kernel
theorem dX4_findPerson_3 : decode cX4_findPerson 3 = .ok (.aload_n 0, 1) := by decide +kernel
theorem dX4_findPerson_4 : decode cX4_findPerson 4 = .ok (.getfield 36, 3) := by decide +kernel
theorem dX4_findPerson_7 : decode cX4_findPerson 7 = .ok (.if_icmp .ge 25, 3) := by decide +kernel
theorem dX4_findPerson_10 : decode cX4_findPerson 10 = .ok (.aload_n 0, 1) := by decide +kernel
theorem dX4_findPerson_11 : decode cX4_findPerson 11 = .ok (.getfield 19, 3) := by decide +kernel
theorem dX4_findPerson_14 : decode cX4_findPerson 14 = .ok (.iload_n 3, 1) := by decide +kernel
theorem dX4_findPerson_15 : decode cX4_findPerson 15 = .ok (.aaload, 1) := by decide +kernel
theorem dX4_findPerson_16 : decode cX4_findPerson 16 = .ok (.getfield 55, 3) := by decide +kernel
theorem dX4_findPerson_19 : decode cX4_findPerson 19 = .ok (.lload_n 1, 1) := by decide +kernel
theorem dX4_findPerson_20 : decode cX4_findPerson 20 = .ok (.lcmp, 1) := by decide +kernel
theorem dX4_findPerson_21 : decode cX4_findPerson 21 = .ok (.ifCond .ne 5, 3) := by decide +kernel
theorem dX4_findPerson_24 : decode cX4_findPerson 24 = .ok (.iload_n 3, 1) := by decide +kernel
theorem dX4_findPerson_25 : decode cX4_findPerson 25 = .ok (.ireturn, 1) := by decide +kernel
theorem dX4_findPerson_26 : decode cX4_findPerson 26 = .ok (.iinc 3 1, 3) := by decide +kernel
theorem dX4_findPerson_29 : decode cX4_findPerson 29 = .ok (.goto (-27), 3) := by decide +kernel
theorem dX4_findPerson_32 : decode cX4_findPerson 32 = .ok (.iconst (-1), 1) := by decide +kernel
theorem dX4_findPerson_33 : decode cX4_findPerson 33 = .ok (.ireturn, 1) := by decide +kernel
theorem dX5_init_0 : decode cX5_init 0 = .ok (.aload_n 0, 1) := by decide +kernel
theorem dX5_init_1 : decode cX5_init 1 = .ok (.invokespecial 3, 3) := by decide +kernel
theorem dX5_init_4 : decode cX5_init 4 = .ok (.aload_n 0, 1) := by decide +kernel
theorem dX5_init_5 : decode cX5_init 5 = .ok (.iconst (-1), 1) := by decide +kernel
theorem dX5_init_6 : decode cX5_init 6 = .ok (.putfield 9, 3) := by decide +kernel
theorem dX5_init_9 : decode cX5_init 9 = .ok (.return_, 1) := by decide +kernel
theorem dX5_begin_0 : decode cX5_begin 0 = .ok (.aload_n 0, 1) := by decide +kernel
theorem dX5_begin_1 : decode cX5_begin 1 = .ok (.lload_n 1, 1) := by decide +kernel
theorem dX5_begin_2 : decode cX5_begin 2 = .ok (.putfield 15, 3) := by decide +kernel
theorem dX5_begin_5 : decode cX5_begin 5 = .ok (.aload_n 0, 1) := by decide +kernel
theorem dX5_begin_6 : decode cX5_begin 6 = .ok (.iconst 0, 1) := by decide +kernel
theorem dX5_begin_7 : decode cX5_begin 7 = .ok (.putfield 19, 3) := by decide +kernel
theorem dX5_begin_10 : decode cX5_begin 10 = .ok (.aload_n 0, 1) := by decide +kernel
theorem dX5_begin_11 : decode cX5_begin 11 = .ok (.iconst 0, 1) := by decide +kernel
theorem dX5_begin_12 : decode cX5_begin 12 = .ok (.putfield 22, 3) := by decide +kernel
theorem dX5_begin_15 : decode cX5_begin 15 = .ok (.aload_n 0, 1) := by decide +kernel
theorem dX5_begin_16 : decode cX5_begin 16 = .ok (.iconst 0, 1) := by decide +kernel
theorem dX5_begin_17 : decode cX5_begin 17 = .ok (.putfield 25, 3) := by decide +kernel
theorem dX5_begin_20 : decode cX5_begin 20 = .ok (.aload_n 0, 1) := by decide +kernel
theorem dX5_begin_21 : decode cX5_begin 21 = .ok (.iconst 0, 1) := by decide +kernel
theorem dX5_begin_22 : decode cX5_begin 22 = .ok (.putfield 28, 3) := by decide +kernel
theorem dX5_begin_25 : decode cX5_begin 25 = .ok (.aload_n 0, 1) := by decide +kernel
theorem dX5_begin_26 : decode cX5_begin 26 = .ok (.iconst (-1), 1) := by decide +kernel
theorem dX5_begin_27 : decode cX5_begin 27 = .ok (.putfield 9, 3) := by decide +kernel
theorem dX5_begin_30 : decode cX5_begin 30 = .ok (.return_, 1) := by decide +kernel
theorem dX6_init_0 : decode cX6_init 0 = .ok (.aload_n 0, 1) := by decide +kernel
theorem dX6_init_1 : decode cX6_init 1 = .ok (.invokespecial 3, 3) := by decide +kernel
theorem dX6_init_4 : decode cX6_init 4 = .ok (.aload_n 0, 1) := by decide +kernel
theorem dX6_init_5 : decode cX6_init 5 = .ok (.new 9, 3) := by decide +kernel
theorem dX6_init_8 : decode cX6_init 8 = .ok (.dup, 1) := by decide +kernel
theorem dX6_init_9 : decode cX6_init 9 = .ok (.invokespecial 11, 3) := by decide +kernel
theorem dX6_init_12 : decode cX6_init 12 = .ok (.putfield 12, 3) := by decide +kernel
theorem dX6_init_15 : decode cX6_init 15 = .ok (.aload_n 0, 1) := by decide +kernel
theorem dX6_init_16 : decode cX6_init 16 = .ok (.new 9, 3) := by decide +kernel
theorem dX6_init_19 : decode cX6_init 19 = .ok (.dup, 1) := by decide +kernel
theorem dX6_init_20 : decode cX6_init 20 = .ok (.invokespecial 11, 3) := by decide +kernel
theorem dX6_init_23 : decode cX6_init 23 = .ok (.putfield 18, 3) := by decide +kernel
theorem dX6_init_26 : decode cX6_init 26 = .ok (.aload_n 0, 1) := by decide +kernel
theorem dX6_init_27 : decode cX6_init 27 = .ok (.iconst 4, 1) := by decide +kernel
theorem dX6_init_28 : decode cX6_init 28 = .ok (.newarray .int, 2) := by decide +kernel
theorem dX6_init_30 : decode cX6_init 30 = .ok (.putfield 21, 3) := by decide +kernel
theorem dX6_init_33 : decode cX6_init 33 = .ok (.aload_n 0, 1) := by decide +kernel
theorem dX6_init_34 : decode cX6_init 34 = .ok (.iconst 1, 1) := by decide +kernel
theorem dX6_init_35 : decode cX6_init 35 = .ok (.putfield 25, 3) := by decide +kernel
theorem dX6_init_38 : decode cX6_init 38 = .ok (.return_, 1) := by decide +kernel
theorem dX6_take_0 : decode cX6_take 0 = .ok (.aload_n 0, 1) := by decide +kernel
theorem dX6_take_1 : decode cX6_take 1 = .ok (.iload_n 2, 1) := by decide +kernel
theorem dX6_take_2 : decode cX6_take 2 = .ok (.iconst 2, 1) := by decide +kernel
theorem dX6_take_3 : decode cX6_take 3 = .ok (.if_icmp .eq 11, 3) := by decide +kernel
theorem dX6_take_6 : decode cX6_take 6 = .ok (.iload_n 3, 1) := by decide +kernel
theorem dX6_take_7 : decode cX6_take 7 = .ok (.aload_n 1, 1) := by decide +kernel
theorem dX6_take_8 : decode cX6_take 8 = .ok (.getfield 29, 3) := by decide +kernel
theorem dX6_take_11 : decode cX6_take 11 = .ok (.if_icmp .ge 7, 3) := by decide +kernel
theorem dX6_take_14 : decode cX6_take 14 = .ok (.iconst 1, 1) := by decide +kernel
theorem dX6_take_15 : decode cX6_take 15 = .ok (.goto 4, 3) := by decide +kernel
theorem dX6_take_18 : decode cX6_take 18 = .ok (.iconst 0, 1) := by decide +kernel
theorem dX6_take_19 : decode cX6_take 19 = .ok (.putfield 34, 3) := by decide +kernel
theorem dX6_take_22 : decode cX6_take 22 = .ok (.aload_n 0, 1) := by decide +kernel
theorem dX6_take_23 : decode cX6_take 23 = .ok (.aload_n 1, 1) := by decide +kernel
theorem dX6_take_24 : decode cX6_take 24 = .ok (.getfield 38, 3) := by decide +kernel
theorem dX6_take_27 : decode cX6_take 27 = .ok (.iload_n 3, 1) := by decide +kernel
theorem dX6_take_28 : decode cX6_take 28 = .ok (.isub, 1) := by decide +kernel
theorem dX6_take_29 : decode cX6_take 29 = .ok (.putfield 41, 3) := by decide +kernel
theorem dX6_take_32 : decode cX6_take 32 = .ok (.aload_n 0, 1) := by decide +kernel
theorem dX6_take_33 : decode cX6_take 33 = .ok (.aload_n 1, 1) := by decide +kernel
theorem dX6_take_34 : decode cX6_take 34 = .ok (.getfield 44, 3) := by decide +kernel
theorem dX6_take_37 : decode cX6_take 37 = .ok (.putfield 47, 3) := by decide +kernel
theorem dX6_take_40 : decode cX6_take 40 = .ok (.aload_n 0, 1) := by decide +kernel
theorem dX6_take_41 : decode cX6_take 41 = .ok (.aload_n 1, 1) := by decide +kernel
theorem dX6_take_42 : decode cX6_take 42 = .ok (.getfield 48, 3) := by decide +kernel
theorem dX6_take_45 : decode cX6_take 45 = .ok (.putfield 51, 3) := by decide +kernel
theorem dX6_take_48 : decode cX6_take 48 = .ok (.aload_n 0, 1) := by decide +kernel
theorem dX6_take_49 : decode cX6_take 49 = .ok (.aload_n 1, 1) := by decide +kernel
theorem dX6_take_50 : decode cX6_take 50 = .ok (.getfield 52, 3) := by decide +kernel
theorem dX6_take_53 : decode cX6_take 53 = .ok (.putfield 55, 3) := by decide +kernel
theorem dX6_take_56 : decode cX6_take 56 = .ok (.return_, 1) := by decide +kernel
theorem dX6_pair_0 : decode cX6_pair 0 = .ok (.aload_n 0, 1) := by decide +kernel
theorem dX6_pair_1 : decode cX6_pair 1 = .ok (.aload_n 1, 1) := by decide +kernel
theorem dX6_pair_2 : decode cX6_pair 2 = .ok (.getfield 56, 3) := by decide +kernel
theorem dX6_pair_5 : decode cX6_pair 5 = .ok (.aload_n 2, 1) := by decide +kernel
theorem dX6_pair_6 : decode cX6_pair 6 = .ok (.getfield 56, 3) := by decide +kernel
theorem dX6_pair_9 : decode cX6_pair 9 = .ok (.iadd, 1) := by decide +kernel
theorem dX6_pair_10 : decode cX6_pair 10 = .ok (.putfield 61, 3) := by decide +kernel
theorem dX6_pair_13 : decode cX6_pair 13 = .ok (.return_, 1) := by decide +kernel
theorem dX6_grip_0 : decode cX6_grip 0 = .ok (.aload_n 1, 1) := by decide +kernel
theorem dX6_grip_1 : decode cX6_grip 1 = .ok (.aload_n 2, 1) := by decide +kernel
theorem dX6_grip_2 : decode cX6_grip 2 = .ok (.iload_n 3, 1) := by decide +kernel
theorem dX6_grip_3 : decode cX6_grip 3 = .ok (.aload_n 0, 1) := by decide +kernel
theorem dX6_grip_4 : decode cX6_grip 4 = .ok (.getfield 41, 3) := by decide +kernel
theorem dX6_grip_7 : decode cX6_grip 7 = .ok (.aload 4, 2) := by decide +kernel
theorem dX6_grip_9 : decode cX6_grip 9 = .ok (.getfield 62, 3) := by decide +kernel
theorem dX6_grip_12 : decode cX6_grip 12 = .ok (.iconst 3, 1) := by decide +kernel
theorem dX6_grip_13 : decode cX6_grip 13 = .ok (.if_icmp .ne 10, 3) := by decide +kernel
theorem dX6_grip_16 : decode cX6_grip 16 = .ok (.aload_n 0, 1) := by decide +kernel
theorem dX6_grip_17 : decode cX6_grip 17 = .ok (.getfield 51, 3) := by decide +kernel
theorem dX6_grip_20 : decode cX6_grip 20 = .ok (.goto 4, 3) := by decide +kernel
theorem dX6_grip_23 : decode cX6_grip 23 = .ok (.iconst 0, 1) := by decide +kernel
theorem dX6_grip_24 : decode cX6_grip 24 = .ok (.invokevirtual 65, 3) := by decide +kernel
theorem dX6_grip_27 : decode cX6_grip 27 = .ok (.aload_n 1, 1) := by decide +kernel
theorem dX6_grip_28 : decode cX6_grip 28 = .ok (.aload_n 0, 1) := by decide +kernel
theorem dX6_grip_29 : decode cX6_grip 29 = .ok (.getfield 61, 3) := by decide +kernel
theorem dX6_grip_32 : decode cX6_grip 32 = .ok (.iload 5, 2) := by decide +kernel
theorem dX6_grip_34 : decode cX6_grip 34 = .ok (.iload 6, 2) := by decide +kernel
theorem dX6_grip_36 : decode cX6_grip 36 = .ok (.ifCond .ne 12, 3) := by decide +kernel
theorem dX6_grip_39 : decode cX6_grip 39 = .ok (.aload 4, 2) := by decide +kernel
theorem dX6_grip_41 : decode cX6_grip 41 = .ok (.getfield 62, 3) := by decide +kernel
theorem dX6_grip_44 : decode cX6_grip 44 = .ok (.iconst 2, 1) := by decide +kernel
theorem dX6_grip_45 : decode cX6_grip 45 = .ok (.if_icmp .ne 10, 3) := by decide +kernel
theorem dX6_grip_48 : decode cX6_grip 48 = .ok (.aload_n 0, 1) := by decide +kernel
theorem dX6_grip_49 : decode cX6_grip 49 = .ok (.getfield 47, 3) := by decide +kernel
theorem dX6_grip_52 : decode cX6_grip 52 = .ok (.goto 4, 3) := by decide +kernel
theorem dX6_grip_55 : decode cX6_grip 55 = .ok (.iconst 0, 1) := by decide +kernel
theorem dX6_grip_56 : decode cX6_grip 56 = .ok (.invokevirtual 69, 3) := by decide +kernel
theorem dX6_grip_59 : decode cX6_grip 59 = .ok (.return_, 1) := by decide +kernel
theorem dX6_resolve_0 : decode cX6_resolve 0 = .ok (.iload_n 1, 1) := by decide +kernel
theorem dX6_resolve_1 : decode cX6_resolve 1 = .ok (.aload_n 0, 1) := by decide +kernel
theorem dX6_resolve_2 : decode cX6_resolve 2 = .ok (.getfield 12, 3) := by decide +kernel
theorem dX6_resolve_5 : decode cX6_resolve 5 = .ok (.getfield 73, 3) := by decide +kernel
theorem dX6_resolve_8 : decode cX6_resolve 8 = .ok (.if_icmp .ge 9, 3) := by decide +kernel
theorem dX6_resolve_11 : decode cX6_resolve 11 = .ok (.iload_n 1, 1) := by decide +kernel
theorem dX6_resolve_12 : decode cX6_resolve 12 = .ok (.iconst 1, 1) := by decide +kernel
theorem dX6_resolve_13 : decode cX6_resolve 13 = .ok (.iadd, 1) := by decide +kernel
theorem dX6_resolve_14 : decode cX6_resolve 14 = .ok (.goto 4, 3) := by decide +kernel
theorem dX6_resolve_17 : decode cX6_resolve 17 = .ok (.iconst 0, 1) := by decide +kernel
theorem dX6_resolve_18 : decode cX6_resolve 18 = .ok (.istore_n 2, 1) := by decide +kernel
theorem dX6_resolve_19 : decode cX6_resolve 19 = .ok (.iload_n 1, 1) := by decide +kernel
theorem dX6_resolve_20 : decode cX6_resolve 20 = .ok (.aload_n 0, 1) := by decide +kernel
theorem dX6_resolve_21 : decode cX6_resolve 21 = .ok (.getfield 12, 3) := by decide +kernel
theorem dX6_resolve_24 : decode cX6_resolve 24 = .ok (.getfield 73, 3) := by decide +kernel
theorem dX6_resolve_27 : decode cX6_resolve 27 = .ok (.if_icmp .ge 7, 3) := by decide +kernel
theorem dX6_resolve_30 : decode cX6_resolve 30 = .ok (.iconst 0, 1) := by decide +kernel
theorem dX6_resolve_31 : decode cX6_resolve 31 = .ok (.goto 14, 3) := by decide +kernel
theorem dX6_resolve_34 : decode cX6_resolve 34 = .ok (.iload_n 1, 1) := by decide +kernel
theorem dX6_resolve_35 : decode cX6_resolve 35 = .ok (.aload_n 0, 1) := by decide +kernel
theorem dX6_resolve_36 : decode cX6_resolve 36 = .ok (.getfield 12, 3) := by decide +kernel
theorem dX6_resolve_39 : decode cX6_resolve 39 = .ok (.getfield 73, 3) := by decide +kernel
theorem dX6_resolve_42 : decode cX6_resolve 42 = .ok (.isub, 1) := by decide +kernel
theorem dX6_resolve_43 : decode cX6_resolve 43 = .ok (.iconst 1, 1) := by decide +kernel
theorem dX6_resolve_44 : decode cX6_resolve 44 = .ok (.iadd, 1) := by decide +kernel
theorem dX6_resolve_45 : decode cX6_resolve 45 = .ok (.istore_n 3, 1) := by decide +kernel
theorem dX6_resolve_46 : decode cX6_resolve 46 = .ok (.aload_n 0, 1) := by decide +kernel
theorem dX6_resolve_47 : decode cX6_resolve 47 = .ok (.getfield 12, 3) := by decide +kernel
theorem dX6_resolve_50 : decode cX6_resolve 50 = .ok (.iload_n 2, 1) := by decide +kernel
theorem dX6_resolve_51 : decode cX6_resolve 51 = .ok (.invokevirtual 76, 3) := by decide +kernel
theorem dX6_resolve_54 : decode cX6_resolve 54 = .ok (.aload_n 0, 1) := by decide +kernel
theorem dX6_resolve_55 : decode cX6_resolve 55 = .ok (.getfield 18, 3) := by decide +kernel
theorem dX6_resolve_58 : decode cX6_resolve 58 = .ok (.iload_n 3, 1) := by decide +kernel
theorem dX6_resolve_59 : decode cX6_resolve 59 = .ok (.invokevirtual 76, 3) := by decide +kernel
theorem dX6_resolve_62 : decode cX6_resolve 62 = .ok (.aload_n 0, 1) := by decide +kernel
theorem dX6_resolve_63 : decode cX6_resolve 63 = .ok (.aload_n 0, 1) := by decide +kernel
theorem dX6_resolve_64 : decode cX6_resolve 64 = .ok (.getfield 12, 3) := by decide +kernel
theorem dX6_resolve_67 : decode cX6_resolve 67 = .ok (.iload_n 2, 1) := by decide +kernel
theorem dX6_resolve_68 : decode cX6_resolve 68 = .ok (.aload_n 0, 1) := by decide +kernel
theorem dX6_resolve_69 : decode cX6_resolve 69 = .ok (.getfield 18, 3) := by decide +kernel
theorem dX6_resolve_72 : decode cX6_resolve 72 = .ok (.iload_n 3, 1) := by decide +kernel
theorem dX6_resolve_73 : decode cX6_resolve 73 = .ok (.invokevirtual 80, 3) := by decide +kernel
theorem dX6_resolve_76 : decode cX6_resolve 76 = .ok (.ireturn, 1) := by decide +kernel
theorem dX6_breakPlace_0 : decode cX6_breakPlace 0 = .ok (.aload_n 0, 1) := by decide +kernel
theorem dX6_breakPlace_1 : decode cX6_breakPlace 1 = .ok (.iconst (-1), 1) := by decide +kernel
theorem dX6_breakPlace_2 : decode cX6_breakPlace 2 = .ok (.invokevirtual 84, 3) := by decide +kernel
theorem dX6_breakPlace_5 : decode cX6_breakPlace 5 = .ok (.istore_n 1, 1) := by decide +kernel
theorem dX6_breakPlace_6 : decode cX6_breakPlace 6 = .ok (.iload_n 1, 1) := by decide +kernel
theorem dX6_breakPlace_7 : decode cX6_breakPlace 7 = .ok (.ifCond .ne 16, 3) := by decide +kernel
theorem dX6_breakPlace_10 : decode cX6_breakPlace 10 = .ok (.bipush 10, 2) := by decide +kernel
theorem dX6_breakPlace_12 : decode cX6_breakPlace 12 = .ok (.aload_n 0, 1) := by decide +kernel
theorem dX6_breakPlace_13 : decode cX6_breakPlace 13 = .ok (.getfield 18, 3) := by decide +kernel
theorem dX6_breakPlace_16 : decode cX6_breakPlace 16 = .ok (.getfield 88, 3) := by decide +kernel
theorem dX6_breakPlace_19 : decode cX6_breakPlace 19 = .ok (.iconst 0, 1) := by decide +kernel
theorem dX6_breakPlace_20 : decode cX6_breakPlace 20 = .ok (.iaload, 1) := by decide +kernel
theorem dX6_breakPlace_21 : decode cX6_breakPlace 21 = .ok (.iadd, 1) := by decide +kernel
theorem dX6_breakPlace_22 : decode cX6_breakPlace 22 = .ok (.ireturn, 1) := by decide +kernel
theorem dX6_breakPlace_23 : decode cX6_breakPlace 23 = .ok (.iload_n 1, 1) := by decide +kernel
theorem dX6_breakPlace_24 : decode cX6_breakPlace 24 = .ok (.iconst 1, 1) := by decide +kernel
theorem dX6_breakPlace_25 : decode cX6_breakPlace 25 = .ok (.if_icmp .ne 17, 3) := by decide +kernel
theorem dX6_breakPlace_28 : decode cX6_breakPlace 28 = .ok (.iconst 0, 1) := by decide +kernel
theorem dX6_breakPlace_29 : decode cX6_breakPlace 29 = .ok (.aload_n 0, 1) := by decide +kernel
theorem dX6_breakPlace_30 : decode cX6_breakPlace 30 = .ok (.getfield 12, 3) := by decide +kernel
theorem dX6_breakPlace_33 : decode cX6_breakPlace 33 = .ok (.getfield 88, 3) := by decide +kernel
theorem dX6_breakPlace_36 : decode cX6_breakPlace 36 = .ok (.iconst 0, 1) := by decide +kernel
theorem dX6_breakPlace_37 : decode cX6_breakPlace 37 = .ok (.iaload, 1) := by decide +kernel
theorem dX6_breakPlace_38 : decode cX6_breakPlace 38 = .ok (.iadd, 1) := by decide +kernel
theorem dX6_breakPlace_39 : decode cX6_breakPlace 39 = .ok (.goto 5, 3) := by decide +kernel
theorem dX6_breakPlace_42 : decode cX6_breakPlace 42 = .ok (.bipush (-2), 2) := by decide +kernel
theorem dX6_breakPlace_44 : decode cX6_breakPlace 44 = .ok (.ireturn, 1) := by decide +kernel
theorem dX6_compare_0 : decode cX6_compare 0 = .ok (.aload_n 1, 1) := by decide +kernel
theorem dX6_compare_1 : decode cX6_compare 1 = .ok (.getfield 88, 3) := by decide +kernel
theorem dX6_compare_4 : decode cX6_compare 4 = .ok (.iload_n 2, 1) := by decide +kernel
theorem dX6_compare_5 : decode cX6_compare 5 = .ok (.iaload, 1) := by decide +kernel
theorem dX6_compare_6 : decode cX6_compare 6 = .ok (.iconst (-1), 1) := by decide +kernel
theorem dX6_compare_7 : decode cX6_compare 7 = .ok (.if_icmp .ne 7, 3) := by decide +kernel
theorem dX6_compare_10 : decode cX6_compare 10 = .ok (.iconst 1, 1) := by decide +kernel
theorem dX6_compare_11 : decode cX6_compare 11 = .ok (.goto 4, 3) := by decide +kernel
theorem dX6_compare_14 : decode cX6_compare 14 = .ok (.iconst 0, 1) := by decide +kernel
theorem dX6_compare_15 : decode cX6_compare 15 = .ok (.istore 5, 2) := by decide +kernel
theorem dX6_compare_17 : decode cX6_compare 17 = .ok (.aload_n 3, 1) := by decide +kernel
theorem dX6_compare_18 : decode cX6_compare 18 = .ok (.getfield 88, 3) := by decide +kernel
theorem dX6_compare_21 : decode cX6_compare 21 = .ok (.iload 4, 2) := by decide +kernel
theorem dX6_compare_23 : decode cX6_compare 23 = .ok (.iaload, 1) := by decide +kernel
theorem dX6_compare_24 : decode cX6_compare 24 = .ok (.iconst (-1), 1) := by decide +kernel
theorem dX6_compare_25 : decode cX6_compare 25 = .ok (.if_icmp .ne 7, 3) := by decide +kernel
theorem dX6_compare_28 : decode cX6_compare 28 = .ok (.iconst 1, 1) := by decide +kernel
theorem dX6_compare_29 : decode cX6_compare 29 = .ok (.goto 4, 3) := by decide +kernel
theorem dX6_compare_32 : decode cX6_compare 32 = .ok (.iconst 0, 1) := by decide +kernel
theorem dX6_compare_33 : decode cX6_compare 33 = .ok (.istore 6, 2) := by decide +kernel
theorem dX6_compare_35 : decode cX6_compare 35 = .ok (.aload_n 0, 1) := by decide +kernel
theorem dX6_compare_36 : decode cX6_compare 36 = .ok (.getfield 34, 3) := by decide +kernel
theorem dX6_compare_39 : decode cX6_compare 39 = .ok (.ifCond .ne 13, 3) := by decide +kernel
theorem dX6_compare_42 : decode cX6_compare 42 = .ok (.iload 5, 2) := by decide +kernel
theorem dX6_compare_44 : decode cX6_compare 44 = .ok (.ifCond .eq 10, 3) := by decide +kernel
theorem dX6_compare_47 : decode cX6_compare 47 = .ok (.iload 6, 2) := by decide +kernel
theorem dX6_compare_49 : decode cX6_compare 49 = .ok (.ifCond .eq 5, 3) := by decide +kernel
theorem dX6_compare_52 : decode cX6_compare 52 = .ok (.iconst 3, 1) := by decide +kernel
theorem dX6_compare_53 : decode cX6_compare 53 = .ok (.ireturn, 1) := by decide +kernel
theorem dX6_compare_54 : decode cX6_compare 54 = .ok (.iload 5, 2) := by decide +kernel
theorem dX6_compare_56 : decode cX6_compare 56 = .ok (.ifCond .ne 8, 3) := by decide +kernel
theorem dX6_compare_59 : decode cX6_compare 59 = .ok (.iload 6, 2) := by decide +kernel
theorem dX6_compare_61 : decode cX6_compare 61 = .ok (.ifCond .eq 14, 3) := by decide +kernel
theorem dX6_compare_64 : decode cX6_compare 64 = .ok (.iload 5, 2) := by decide +kernel
theorem dX6_compare_66 : decode cX6_compare 66 = .ok (.ifCond .eq 7, 3) := by decide +kernel
theorem dX6_compare_69 : decode cX6_compare 69 = .ok (.iconst 0, 1) := by decide +kernel
theorem dX6_compare_70 : decode cX6_compare 70 = .ok (.goto 4, 3) := by decide +kernel
theorem dX6_compare_73 : decode cX6_compare 73 = .ok (.iconst 1, 1) := by decide +kernel
theorem dX6_compare_74 : decode cX6_compare 74 = .ok (.ireturn, 1) := by decide +kernel
theorem dX6_compare_75 : decode cX6_compare 75 = .ok (.aload_n 1, 1) := by decide +kernel
theorem dX6_compare_76 : decode cX6_compare 76 = .ok (.getfield 91, 3) := by decide +kernel
theorem dX6_compare_79 : decode cX6_compare 79 = .ok (.iload_n 2, 1) := by decide +kernel
theorem dX6_compare_80 : decode cX6_compare 80 = .ok (.iaload, 1) := by decide +kernel
theorem dX6_compare_81 : decode cX6_compare 81 = .ok (.aload_n 3, 1) := by decide +kernel
theorem dX6_compare_82 : decode cX6_compare 82 = .ok (.getfield 94, 3) := by decide +kernel
theorem dX6_compare_85 : decode cX6_compare 85 = .ok (.iload 4, 2) := by decide +kernel
theorem dX6_compare_87 : decode cX6_compare 87 = .ok (.iaload, 1) := by decide +kernel
theorem dX6_compare_88 : decode cX6_compare 88 = .ok (.imul, 1) := by decide +kernel
theorem dX6_compare_89 : decode cX6_compare 89 = .ok (.istore 7, 2) := by decide +kernel
theorem dX6_compare_91 : decode cX6_compare 91 = .ok (.aload_n 3, 1) := by decide +kernel
theorem dX6_compare_92 : decode cX6_compare 92 = .ok (.getfield 91, 3) := by decide +kernel
theorem dX6_compare_95 : decode cX6_compare 95 = .ok (.iload 4, 2) := by decide +kernel
theorem dX6_compare_97 : decode cX6_compare 97 = .ok (.iaload, 1) := by decide +kernel
theorem dX6_compare_98 : decode cX6_compare 98 = .ok (.aload_n 1, 1) := by decide +kernel
theorem dX6_compare_99 : decode cX6_compare 99 = .ok (.getfield 94, 3) := by decide +kernel
theorem dX6_compare_102 : decode cX6_compare 102 = .ok (.iload_n 2, 1) := by decide +kernel
theorem dX6_compare_103 : decode cX6_compare 103 = .ok (.iaload, 1) := by decide +kernel
theorem dX6_compare_104 : decode cX6_compare 104 = .ok (.imul, 1) := by decide +kernel
theorem dX6_compare_105 : decode cX6_compare 105 = .ok (.istore 8, 2) := by decide +kernel
theorem dX6_compare_107 : decode cX6_compare 107 = .ok (.iload 7, 2) := by decide +kernel
theorem dX6_compare_109 : decode cX6_compare 109 = .ok (.iload 8, 2) := by decide +kernel
theorem dX6_compare_111 : decode cX6_compare 111 = .ok (.if_icmp .ne 5, 3) := by decide +kernel
theorem dX6_compare_114 : decode cX6_compare 114 = .ok (.iconst 2, 1) := by decide +kernel
theorem dX6_compare_115 : decode cX6_compare 115 = .ok (.ireturn, 1) := by decide +kernel
theorem dX6_compare_116 : decode cX6_compare 116 = .ok (.iload 7, 2) := by decide +kernel
theorem dX6_compare_118 : decode cX6_compare 118 = .ok (.iload 8, 2) := by decide +kernel
theorem dX6_compare_120 : decode cX6_compare 120 = .ok (.if_icmp .le 7, 3) := by decide +kernel
theorem dX6_compare_123 : decode cX6_compare 123 = .ok (.iconst 1, 1) := by decide +kernel
theorem dX6_compare_124 : decode cX6_compare 124 = .ok (.goto 4, 3) := by decide +kernel
theorem dX6_compare_127 : decode cX6_compare 127 = .ok (.iconst 0, 1) := by decide +kernel
theorem dX6_compare_128 : decode cX6_compare 128 = .ok (.ireturn, 1) := by decide +kernel
theorem dX6_weighLaid_0 : decode cX6_weighLaid 0 = .ok (.aload_n 0, 1) := by decide +kernel
theorem dX6_weighLaid_1 : decode cX6_weighLaid 1 = .ok (.getfield 12, 3) := by decide +kernel
theorem dX6_weighLaid_4 : decode cX6_weighLaid 4 = .ok (.invokevirtual 97, 3) := by decide +kernel
theorem dX6_weighLaid_7 : decode cX6_weighLaid 7 = .ok (.aload_n 0, 1) := by decide +kernel
theorem dX6_weighLaid_8 : decode cX6_weighLaid 8 = .ok (.getfield 18, 3) := by decide +kernel
theorem dX6_weighLaid_11 : decode cX6_weighLaid 11 = .ok (.invokevirtual 97, 3) := by decide +kernel
theorem dX6_weighLaid_14 : decode cX6_weighLaid 14 = .ok (.aload_n 0, 1) := by decide +kernel
theorem dX6_weighLaid_15 : decode cX6_weighLaid 15 = .ok (.aload_n 0, 1) := by decide +kernel
theorem dX6_weighLaid_16 : decode cX6_weighLaid 16 = .ok (.getfield 12, 3) := by decide +kernel
theorem dX6_weighLaid_19 : decode cX6_weighLaid 19 = .ok (.aload_n 0, 1) := by decide +kernel
theorem dX6_weighLaid_20 : decode cX6_weighLaid 20 = .ok (.getfield 18, 3) := by decide +kernel
theorem dX6_weighLaid_23 : decode cX6_weighLaid 23 = .ok (.invokevirtual 100, 3) := by decide +kernel
theorem dX6_weighLaid_26 : decode cX6_weighLaid 26 = .ok (.return_, 1) := by decide +kernel
theorem dX6_weigh_0 : decode cX6_weigh 0 = .ok (.aload_n 1, 1) := by decide +kernel
theorem dX6_weigh_1 : decode cX6_weigh 1 = .ok (.getfield 73, 3) := by decide +kernel
theorem dX6_weigh_4 : decode cX6_weigh 4 = .ok (.aload_n 2, 1) := by decide +kernel
theorem dX6_weigh_5 : decode cX6_weigh 5 = .ok (.getfield 73, 3) := by decide +kernel
theorem dX6_weigh_8 : decode cX6_weigh 8 = .ok (.iadd, 1) := by decide +kernel
theorem dX6_weigh_9 : decode cX6_weigh 9 = .ok (.istore_n 3, 1) := by decide +kernel
theorem dX6_weigh_10 : decode cX6_weigh 10 = .ok (.aload_n 0, 1) := by decide +kernel
theorem dX6_weigh_11 : decode cX6_weigh 11 = .ok (.bipush 100, 2) := by decide +kernel
theorem dX6_weigh_13 : decode cX6_weigh 13 = .ok (.iload_n 3, 1) := by decide +kernel
theorem dX6_weigh_14 : decode cX6_weigh 14 = .ok (.imul, 1) := by decide +kernel
theorem dX6_weigh_15 : decode cX6_weigh 15 = .ok (.putfield 25, 3) := by decide +kernel
theorem dX6_weigh_18 : decode cX6_weigh 18 = .ok (.iconst 0, 1) := by decide +kernel
theorem dX6_weigh_19 : decode cX6_weigh 19 = .ok (.istore 4, 2) := by decide +kernel
theorem dX6_weigh_21 : decode cX6_weigh 21 = .ok (.iload 4, 2) := by decide +kernel
theorem dX6_weigh_23 : decode cX6_weigh 23 = .ok (.aload_n 0, 1) := by decide +kernel
theorem dX6_weigh_24 : decode cX6_weigh 24 = .ok (.getfield 21, 3) := by decide +kernel
theorem dX6_weigh_27 : decode cX6_weigh 27 = .ok (.arraylength, 1) := by decide +kernel
theorem dX6_weigh_28 : decode cX6_weigh 28 = .ok (.if_icmp .ge 17, 3) := by decide +kernel
theorem dX6_weigh_31 : decode cX6_weigh 31 = .ok (.aload_n 0, 1) := by decide +kernel
theorem dX6_weigh_32 : decode cX6_weigh 32 = .ok (.getfield 21, 3) := by decide +kernel
theorem dX6_weigh_35 : decode cX6_weigh 35 = .ok (.iload 4, 2) := by decide +kernel
theorem dX6_weigh_37 : decode cX6_weigh 37 = .ok (.iconst 0, 1) := by decide +kernel
theorem dX6_weigh_38 : decode cX6_weigh 38 = .ok (.iastore, 1) := by decide +kernel
theorem dX6_weigh_39 : decode cX6_weigh 39 = .ok (.iinc 4 1, 3) := by decide +kernel
theorem dX6_weigh_42 : decode cX6_weigh 42 = .ok (.goto (-21), 3) := by decide +kernel
theorem dX6_weigh_45 : decode cX6_weigh 45 = .ok (.aload_n 0, 1) := by decide +kernel
theorem dX6_weigh_46 : decode cX6_weigh 46 = .ok (.getfield 21, 3) := by decide +kernel
theorem dX6_weigh_49 : decode cX6_weigh 49 = .ok (.aload_n 0, 1) := by decide +kernel
theorem dX6_weigh_50 : decode cX6_weigh 50 = .ok (.aload_n 1, 1) := by decide +kernel
theorem dX6_weigh_51 : decode cX6_weigh 51 = .ok (.iconst 0, 1) := by decide +kernel
theorem dX6_weigh_52 : decode cX6_weigh 52 = .ok (.aload_n 2, 1) := by decide +kernel
theorem dX6_weigh_53 : decode cX6_weigh 53 = .ok (.iconst 0, 1) := by decide +kernel
theorem dX6_weigh_54 : decode cX6_weigh 54 = .ok (.invokevirtual 80, 3) := by decide +kernel
theorem dX6_weigh_57 : decode cX6_weigh 57 = .ok (.dup2, 1) := by decide +kernel
theorem dX6_weigh_58 : decode cX6_weigh 58 = .ok (.iaload, 1) := by decide +kernel
theorem dX6_weigh_59 : decode cX6_weigh 59 = .ok (.bipush 100, 2) := by decide +kernel
theorem dX6_weigh_61 : decode cX6_weigh 61 = .ok (.aload_n 0, 1) := by decide +kernel
theorem dX6_weigh_62 : decode cX6_weigh 62 = .ok (.getfield 55, 3) := by decide +kernel
theorem dX6_weigh_65 : decode cX6_weigh 65 = .ok (.isub, 1) := by decide +kernel
theorem dX6_weigh_66 : decode cX6_weigh 66 = .ok (.iload_n 3, 1) := by decide +kernel
theorem dX6_weigh_67 : decode cX6_weigh 67 = .ok (.imul, 1) := by decide +kernel
theorem dX6_weigh_68 : decode cX6_weigh 68 = .ok (.iadd, 1) := by decide +kernel
theorem dX6_weigh_69 : decode cX6_weigh 69 = .ok (.iastore, 1) := by decide +kernel
theorem dX6_weigh_70 : decode cX6_weigh 70 = .ok (.iconst 1, 1) := by decide +kernel
theorem dX6_weigh_71 : decode cX6_weigh 71 = .ok (.istore 4, 2) := by decide +kernel
theorem dX6_weigh_73 : decode cX6_weigh 73 = .ok (.iload 4, 2) := by decide +kernel
theorem dX6_weigh_75 : decode cX6_weigh 75 = .ok (.aload_n 1, 1) := by decide +kernel
theorem dX6_weigh_76 : decode cX6_weigh 76 = .ok (.getfield 73, 3) := by decide +kernel
theorem dX6_weigh_79 : decode cX6_weigh 79 = .ok (.if_icmp .gt 30, 3) := by decide +kernel
theorem dX6_weigh_82 : decode cX6_weigh 82 = .ok (.aload_n 0, 1) := by decide +kernel
theorem dX6_weigh_83 : decode cX6_weigh 83 = .ok (.getfield 21, 3) := by decide +kernel
theorem dX6_weigh_86 : decode cX6_weigh 86 = .ok (.aload_n 0, 1) := by decide +kernel
theorem dX6_weigh_87 : decode cX6_weigh 87 = .ok (.aload_n 1, 1) := by decide +kernel
theorem dX6_weigh_88 : decode cX6_weigh 88 = .ok (.iload 4, 2) := by decide +kernel
theorem dX6_weigh_90 : decode cX6_weigh 90 = .ok (.aload_n 2, 1) := by decide +kernel
theorem dX6_weigh_91 : decode cX6_weigh 91 = .ok (.iconst 0, 1) := by decide +kernel
theorem dX6_weigh_92 : decode cX6_weigh 92 = .ok (.invokevirtual 80, 3) := by decide +kernel
theorem dX6_weigh_95 : decode cX6_weigh 95 = .ok (.dup2, 1) := by decide +kernel
theorem dX6_weigh_96 : decode cX6_weigh 96 = .ok (.iaload, 1) := by decide +kernel
theorem dX6_weigh_97 : decode cX6_weigh 97 = .ok (.aload_n 0, 1) := by decide +kernel
theorem dX6_weigh_98 : decode cX6_weigh 98 = .ok (.getfield 55, 3) := by decide +kernel
theorem dX6_weigh_101 : decode cX6_weigh 101 = .ok (.iadd, 1) := by decide +kernel
theorem dX6_weigh_102 : decode cX6_weigh 102 = .ok (.iastore, 1) := by decide +kernel
theorem dX6_weigh_103 : decode cX6_weigh 103 = .ok (.iinc 4 1, 3) := by decide +kernel
theorem dX6_weigh_106 : decode cX6_weigh 106 = .ok (.goto (-33), 3) := by decide +kernel
theorem dX6_weigh_109 : decode cX6_weigh 109 = .ok (.iconst 1, 1) := by decide +kernel
theorem dX6_weigh_110 : decode cX6_weigh 110 = .ok (.istore 4, 2) := by decide +kernel
theorem dX6_weigh_112 : decode cX6_weigh 112 = .ok (.iload 4, 2) := by decide +kernel
theorem dX6_weigh_114 : decode cX6_weigh 114 = .ok (.aload_n 2, 1) := by decide +kernel
theorem dX6_weigh_115 : decode cX6_weigh 115 = .ok (.getfield 73, 3) := by decide +kernel
theorem dX6_weigh_118 : decode cX6_weigh 118 = .ok (.if_icmp .gt 30, 3) := by decide +kernel
theorem dX6_weigh_121 : decode cX6_weigh 121 = .ok (.aload_n 0, 1) := by decide +kernel
theorem dX6_weigh_122 : decode cX6_weigh 122 = .ok (.getfield 21, 3) := by decide +kernel
theorem dX6_weigh_125 : decode cX6_weigh 125 = .ok (.aload_n 0, 1) := by decide +kernel
theorem dX6_weigh_126 : decode cX6_weigh 126 = .ok (.aload_n 1, 1) := by decide +kernel
theorem dX6_weigh_127 : decode cX6_weigh 127 = .ok (.iconst 0, 1) := by decide +kernel
theorem dX6_weigh_128 : decode cX6_weigh 128 = .ok (.aload_n 2, 1) := by decide +kernel
theorem dX6_weigh_129 : decode cX6_weigh 129 = .ok (.iload 4, 2) := by decide +kernel
theorem dX6_weigh_131 : decode cX6_weigh 131 = .ok (.invokevirtual 80, 3) := by decide +kernel
theorem dX6_weigh_134 : decode cX6_weigh 134 = .ok (.dup2, 1) := by decide +kernel
theorem dX6_weigh_135 : decode cX6_weigh 135 = .ok (.iaload, 1) := by decide +kernel
theorem dX6_weigh_136 : decode cX6_weigh 136 = .ok (.aload_n 0, 1) := by decide +kernel
theorem dX6_weigh_137 : decode cX6_weigh 137 = .ok (.getfield 55, 3) := by decide +kernel
theorem dX6_weigh_140 : decode cX6_weigh 140 = .ok (.iadd, 1) := by decide +kernel
theorem dX6_weigh_141 : decode cX6_weigh 141 = .ok (.iastore, 1) := by decide +kernel
theorem dX6_weigh_142 : decode cX6_weigh 142 = .ok (.iinc 4 1, 3) := by decide +kernel
theorem dX6_weigh_145 : decode cX6_weigh 145 = .ok (.goto (-33), 3) := by decide +kernel
theorem dX6_weigh_148 : decode cX6_weigh 148 = .ok (.return_, 1) := by decide +kernel
theorem dX8_init_0 : decode cX8_init 0 = .ok (.aload_n 0, 1) := by decide +kernel
theorem dX8_init_1 : decode cX8_init 1 = .ok (.invokespecial 3, 3) := by decide +kernel
theorem dX8_init_4 : decode cX8_init 4 = .ok (.aload_n 0, 1) := by decide +kernel
theorem dX8_init_5 : decode cX8_init 5 = .ok (.iconst 5, 1) := by decide +kernel
theorem dX8_init_6 : decode cX8_init 6 = .ok (.newarray .int, 2) := by decide +kernel
theorem dX8_init_8 : decode cX8_init 8 = .ok (.putfield 9, 3) := by decide +kernel
theorem dX8_init_11 : decode cX8_init 11 = .ok (.aload_n 0, 1) := by decide +kernel
theorem dX8_init_12 : decode cX8_init 12 = .ok (.iconst 5, 1) := by decide +kernel
theorem dX8_init_13 : decode cX8_init 13 = .ok (.newarray .int, 2) := by decide +kernel
theorem dX8_init_15 : decode cX8_init 15 = .ok (.putfield 15, 3) := by decide +kernel
theorem dX8_init_18 : decode cX8_init 18 = .ok (.aload_n 0, 1) := by decide +kernel
theorem dX8_init_19 : decode cX8_init 19 = .ok (.iconst 5, 1) := by decide +kernel
theorem dX8_init_20 : decode cX8_init 20 = .ok (.newarray .boolean, 2) := by decide +kernel
theorem dX8_init_22 : decode cX8_init 22 = .ok (.putfield 18, 3) := by decide +kernel
theorem dX8_init_25 : decode cX8_init 25 = .ok (.aload_n 0, 1) := by decide +kernel
theorem dX8_init_26 : decode cX8_init 26 = .ok (.bipush 6, 2) := by decide +kernel
theorem dX8_init_28 : decode cX8_init 28 = .ok (.newarray .int, 2) := by decide +kernel
theorem dX8_init_30 : decode cX8_init 30 = .ok (.putfield 22, 3) := by decide +kernel
theorem dX8_init_33 : decode cX8_init 33 = .ok (.return_, 1) := by decide +kernel
theorem dX8_begin_0 : decode cX8_begin 0 = .ok (.iconst 0, 1) := by decide +kernel
theorem dX8_begin_1 : decode cX8_begin 1 = .ok (.istore_n 2, 1) := by decide +kernel
theorem dX8_begin_2 : decode cX8_begin 2 = .ok (.iload_n 2, 1) := by decide +kernel
theorem dX8_begin_3 : decode cX8_begin 3 = .ok (.iconst 5, 1) := by decide +kernel
theorem dX8_begin_4 : decode cX8_begin 4 = .ok (.if_icmp .ge 46, 3) := by decide +kernel
theorem dX8_begin_7 : decode cX8_begin 7 = .ok (.aload_n 0, 1) := by decide +kernel
theorem dX8_begin_8 : decode cX8_begin 8 = .ok (.getfield 9, 3) := by decide +kernel
theorem dX8_begin_11 : decode cX8_begin 11 = .ok (.iload_n 2, 1) := by decide +kernel
theorem dX8_begin_12 : decode cX8_begin 12 = .ok (.aload_n 1, 1) := by decide +kernel
theorem dX8_begin_13 : decode cX8_begin 13 = .ok (.getfield 25, 3) := by decide +kernel
theorem dX8_begin_16 : decode cX8_begin 16 = .ok (.iload_n 2, 1) := by decide +kernel
theorem dX8_begin_17 : decode cX8_begin 17 = .ok (.aaload, 1) := by decide +kernel
theorem dX8_begin_18 : decode cX8_begin 18 = .ok (.getfield 31, 3) := by decide +kernel
theorem dX8_begin_21 : decode cX8_begin 21 = .ok (.iastore, 1) := by decide +kernel
theorem dX8_begin_22 : decode cX8_begin 22 = .ok (.aload_n 0, 1) := by decide +kernel
theorem dX8_begin_23 : decode cX8_begin 23 = .ok (.getfield 15, 3) := by decide +kernel
theorem dX8_begin_26 : decode cX8_begin 26 = .ok (.iload_n 2, 1) := by decide +kernel
theorem dX8_begin_27 : decode cX8_begin 27 = .ok (.aload_n 1, 1) := by decide +kernel
theorem dX8_begin_28 : decode cX8_begin 28 = .ok (.getfield 25, 3) := by decide +kernel
theorem dX8_begin_31 : decode cX8_begin 31 = .ok (.iload_n 2, 1) := by decide +kernel
theorem dX8_begin_32 : decode cX8_begin 32 = .ok (.aaload, 1) := by decide +kernel
theorem dX8_begin_33 : decode cX8_begin 33 = .ok (.getfield 37, 3) := by decide +kernel
theorem dX8_begin_36 : decode cX8_begin 36 = .ok (.iastore, 1) := by decide +kernel
theorem dX8_begin_37 : decode cX8_begin 37 = .ok (.aload_n 0, 1) := by decide +kernel
theorem dX8_begin_38 : decode cX8_begin 38 = .ok (.getfield 18, 3) := by decide +kernel
theorem dX8_begin_41 : decode cX8_begin 41 = .ok (.iload_n 2, 1) := by decide +kernel
theorem dX8_begin_42 : decode cX8_begin 42 = .ok (.iconst 0, 1) := by decide +kernel
theorem dX8_begin_43 : decode cX8_begin 43 = .ok (.bastore, 1) := by decide +kernel
theorem dX8_begin_44 : decode cX8_begin 44 = .ok (.iinc 2 1, 3) := by decide +kernel
theorem dX8_begin_47 : decode cX8_begin 47 = .ok (.goto (-45), 3) := by decide +kernel
theorem dX8_begin_50 : decode cX8_begin 50 = .ok (.iconst 0, 1) := by decide +kernel
theorem dX8_begin_51 : decode cX8_begin 51 = .ok (.istore_n 2, 1) := by decide +kernel
theorem dX8_begin_52 : decode cX8_begin 52 = .ok (.iload_n 2, 1) := by decide +kernel
theorem dX8_begin_53 : decode cX8_begin 53 = .ok (.bipush 6, 2) := by decide +kernel
theorem dX8_begin_55 : decode cX8_begin 55 = .ok (.if_icmp .ge 16, 3) := by decide +kernel
theorem dX8_begin_58 : decode cX8_begin 58 = .ok (.aload_n 0, 1) := by decide +kernel
theorem dX8_begin_59 : decode cX8_begin 59 = .ok (.getfield 22, 3) := by decide +kernel
theorem dX8_begin_62 : decode cX8_begin 62 = .ok (.iload_n 2, 1) := by decide +kernel
theorem dX8_begin_63 : decode cX8_begin 63 = .ok (.iconst 0, 1) := by decide +kernel
theorem dX8_begin_64 : decode cX8_begin 64 = .ok (.iastore, 1) := by decide +kernel
theorem dX8_begin_65 : decode cX8_begin 65 = .ok (.iinc 2 1, 3) := by decide +kernel
theorem dX8_begin_68 : decode cX8_begin 68 = .ok (.goto (-16), 3) := by decide +kernel
theorem dX8_begin_71 : decode cX8_begin 71 = .ok (.aload_n 0, 1) := by decide +kernel
theorem dX8_begin_72 : decode cX8_begin 72 = .ok (.iconst 0, 1) := by decide +kernel
theorem dX8_begin_73 : decode cX8_begin 73 = .ok (.putfield 39, 3) := by decide +kernel
theorem dX8_begin_76 : decode cX8_begin 76 = .ok (.return_, 1) := by decide +kernel
theorem dX8_become_0 : decode cX8_become 0 = .ok (.iconst 0, 1) := by decide +kernel
theorem dX8_become_1 : decode cX8_become 1 = .ok (.istore_n 2, 1) := by decide +kernel
theorem dX8_become_2 : decode cX8_become 2 = .ok (.iload_n 2, 1) := by decide +kernel
theorem dX8_become_3 : decode cX8_become 3 = .ok (.iconst 5, 1) := by decide +kernel
theorem dX8_become_4 : decode cX8_become 4 = .ok (.if_icmp .ge 45, 3) := by decide +kernel
theorem dX8_become_7 : decode cX8_become 7 = .ok (.aload_n 0, 1) := by decide +kernel
theorem dX8_become_8 : decode cX8_become 8 = .ok (.getfield 9, 3) := by decide +kernel
theorem dX8_become_11 : decode cX8_become 11 = .ok (.iload_n 2, 1) := by decide +kernel
theorem dX8_become_12 : decode cX8_become 12 = .ok (.aload_n 1, 1) := by decide +kernel
theorem dX8_become_13 : decode cX8_become 13 = .ok (.getfield 9, 3) := by decide +kernel
theorem dX8_become_16 : decode cX8_become 16 = .ok (.iload_n 2, 1) := by decide +kernel
theorem dX8_become_17 : decode cX8_become 17 = .ok (.iaload, 1) := by decide +kernel
theorem dX8_become_18 : decode cX8_become 18 = .ok (.iastore, 1) := by decide +kernel
theorem dX8_become_19 : decode cX8_become 19 = .ok (.aload_n 0, 1) := by decide +kernel
theorem dX8_become_20 : decode cX8_become 20 = .ok (.getfield 15, 3) := by decide +kernel
theorem dX8_become_23 : decode cX8_become 23 = .ok (.iload_n 2, 1) := by decide +kernel
theorem dX8_become_24 : decode cX8_become 24 = .ok (.aload_n 1, 1) := by decide +kernel
theorem dX8_become_25 : decode cX8_become 25 = .ok (.getfield 15, 3) := by decide +kernel
theorem dX8_become_28 : decode cX8_become 28 = .ok (.iload_n 2, 1) := by decide +kernel
theorem dX8_become_29 : decode cX8_become 29 = .ok (.iaload, 1) := by decide +kernel
theorem dX8_become_30 : decode cX8_become 30 = .ok (.iastore, 1) := by decide +kernel
theorem dX8_become_31 : decode cX8_become 31 = .ok (.aload_n 0, 1) := by decide +kernel
theorem dX8_become_32 : decode cX8_become 32 = .ok (.getfield 18, 3) := by decide +kernel
theorem dX8_become_35 : decode cX8_become 35 = .ok (.iload_n 2, 1) := by decide +kernel
theorem dX8_become_36 : decode cX8_become 36 = .ok (.aload_n 1, 1) := by decide +kernel
theorem dX8_become_37 : decode cX8_become 37 = .ok (.getfield 18, 3) := by decide +kernel
theorem dX8_become_40 : decode cX8_become 40 = .ok (.iload_n 2, 1) := by decide +kernel
theorem dX8_become_41 : decode cX8_become 41 = .ok (.baload, 1) := by decide +kernel
theorem dX8_become_42 : decode cX8_become 42 = .ok (.bastore, 1) := by decide +kernel
theorem dX8_become_43 : decode cX8_become 43 = .ok (.iinc 2 1, 3) := by decide +kernel
theorem dX8_become_46 : decode cX8_become 46 = .ok (.goto (-44), 3) := by decide +kernel
theorem dX8_become_49 : decode cX8_become 49 = .ok (.iconst 0, 1) := by decide +kernel
theorem dX8_become_50 : decode cX8_become 50 = .ok (.istore_n 2, 1) := by decide +kernel
theorem dX8_become_51 : decode cX8_become 51 = .ok (.iload_n 2, 1) := by decide +kernel
theorem dX8_become_52 : decode cX8_become 52 = .ok (.bipush 6, 2) := by decide +kernel
theorem dX8_become_54 : decode cX8_become 54 = .ok (.if_icmp .ge 21, 3) := by decide +kernel
theorem dX8_become_57 : decode cX8_become 57 = .ok (.aload_n 0, 1) := by decide +kernel
theorem dX8_become_58 : decode cX8_become 58 = .ok (.getfield 22, 3) := by decide +kernel
theorem dX8_become_61 : decode cX8_become 61 = .ok (.iload_n 2, 1) := by decide +kernel
theorem dX8_become_62 : decode cX8_become 62 = .ok (.aload_n 1, 1) := by decide +kernel
theorem dX8_become_63 : decode cX8_become 63 = .ok (.getfield 22, 3) := by decide +kernel
theorem dX8_become_66 : decode cX8_become 66 = .ok (.iload_n 2, 1) := by decide +kernel
theorem dX8_become_67 : decode cX8_become 67 = .ok (.iaload, 1) := by decide +kernel
theorem dX8_become_68 : decode cX8_become 68 = .ok (.iastore, 1) := by decide +kernel
theorem dX8_become_69 : decode cX8_become 69 = .ok (.iinc 2 1, 3) := by decide +kernel
theorem dX8_become_72 : decode cX8_become 72 = .ok (.goto (-21), 3) := by decide +kernel
theorem dX8_become_75 : decode cX8_become 75 = .ok (.aload_n 0, 1) := by decide +kernel
theorem dX8_become_76 : decode cX8_become 76 = .ok (.aload_n 1, 1) := by decide +kernel
theorem dX8_become_77 : decode cX8_become 77 = .ok (.getfield 39, 3) := by decide +kernel
theorem dX8_become_80 : decode cX8_become 80 = .ok (.putfield 39, 3) := by decide +kernel
theorem dX8_become_83 : decode cX8_become 83 = .ok (.return_, 1) := by decide +kernel
theorem dX8_draw_0 : decode cX8_draw 0 = .ok (.aload_n 0, 1) := by decide +kernel
theorem dX8_draw_1 : decode cX8_draw 1 = .ok (.bipush 75, 2) := by decide +kernel
theorem dX8_draw_3 : decode cX8_draw 3 = .ok (.aload_n 0, 1) := by decide +kernel
theorem dX8_draw_4 : decode cX8_draw 4 = .ok (.getfield 39, 3) := by decide +kernel
theorem dX8_draw_7 : decode cX8_draw 7 = .ok (.imul, 1) := by decide +kernel
theorem dX8_draw_8 : decode cX8_draw 8 = .ok (.bipush 74, 2) := by decide +kernel
theorem dX8_draw_10 : decode cX8_draw 10 = .ok (.iadd, 1) := by decide +kernel
theorem dX8_draw_11 : decode cX8_draw 11 = .ok (.ldc 42, 2) := by decide +kernel
theorem dX8_draw_13 : decode cX8_draw 13 = .ok (.irem, 1) := by decide +kernel
theorem dX8_draw_14 : decode cX8_draw 14 = .ok (.putfield 39, 3) := by decide +kernel
theorem dX8_draw_17 : decode cX8_draw 17 = .ok (.iload_n 1, 1) := by decide +kernel
theorem dX8_draw_18 : decode cX8_draw 18 = .ok (.ifCond .le 12, 3) := by decide +kernel
theorem dX8_draw_21 : decode cX8_draw 21 = .ok (.aload_n 0, 1) := by decide +kernel
theorem dX8_draw_22 : decode cX8_draw 22 = .ok (.getfield 39, 3) := by decide +kernel
theorem dX8_draw_25 : decode cX8_draw 25 = .ok (.iload_n 1, 1) := by decide +kernel
theorem dX8_draw_26 : decode cX8_draw 26 = .ok (.irem, 1) := by decide +kernel
theorem dX8_draw_27 : decode cX8_draw 27 = .ok (.goto 4, 3) := by decide +kernel
theorem dX8_draw_30 : decode cX8_draw 30 = .ok (.iconst 0, 1) := by decide +kernel
theorem dX8_draw_31 : decode cX8_draw 31 = .ok (.ireturn, 1) := by decide +kernel
theorem dX8_drawFlaw_0 : decode cX8_drawFlaw 0 = .ok (.aload_n 0, 1) := by decide +kernel
theorem dX8_drawFlaw_1 : decode cX8_drawFlaw 1 = .ok (.bipush 100, 2) := by decide +kernel
theorem dX8_drawFlaw_3 : decode cX8_drawFlaw 3 = .ok (.invokevirtual 43, 3) := by decide +kernel
theorem dX8_drawFlaw_6 : decode cX8_drawFlaw 6 = .ok (.iload_n 1, 1) := by decide +kernel
theorem dX8_drawFlaw_7 : decode cX8_drawFlaw 7 = .ok (.if_icmp .ge 11, 3) := by decide +kernel
theorem dX8_drawFlaw_10 : decode cX8_drawFlaw 10 = .ok (.aload_n 0, 1) := by decide +kernel
theorem dX8_drawFlaw_11 : decode cX8_drawFlaw 11 = .ok (.iload_n 2, 1) := by decide +kernel
theorem dX8_drawFlaw_12 : decode cX8_drawFlaw 12 = .ok (.invokevirtual 43, 3) := by decide +kernel
theorem dX8_drawFlaw_15 : decode cX8_drawFlaw 15 = .ok (.goto 4, 3) := by decide +kernel
theorem dX8_drawFlaw_18 : decode cX8_drawFlaw 18 = .ok (.iconst (-1), 1) := by decide +kernel
theorem dX8_drawFlaw_19 : decode cX8_drawFlaw 19 = .ok (.ireturn, 1) := by decide +kernel
theorem dX9_init_0 : decode cX9_init 0 = .ok (.aload_n 0, 1) := by decide +kernel
theorem dX9_init_1 : decode cX9_init 1 = .ok (.invokespecial 1, 3) := by decide +kernel
theorem dX9_init_4 : decode cX9_init 4 = .ok (.aload_n 0, 1) := by decide +kernel
theorem dX9_init_5 : decode cX9_init 5 = .ok (.sipush 1000, 3) := by decide +kernel
theorem dX9_init_8 : decode cX9_init 8 = .ok (.newarray .byte, 2) := by decide +kernel
theorem dX9_init_10 : decode cX9_init 10 = .ok (.putfield 7, 3) := by decide +kernel
theorem dX9_init_13 : decode cX9_init 13 = .ok (.return_, 1) := by decide +kernel
theorem dX9_hasRoom_0 : decode cX9_hasRoom 0 = .ok (.aload_n 0, 1) := by decide +kernel
theorem dX9_hasRoom_1 : decode cX9_hasRoom 1 = .ok (.getfield 13, 3) := by decide +kernel
theorem dX9_hasRoom_4 : decode cX9_hasRoom 4 = .ok (.iload_n 1, 1) := by decide +kernel
theorem dX9_hasRoom_5 : decode cX9_hasRoom 5 = .ok (.iadd, 1) := by decide +kernel
theorem dX9_hasRoom_6 : decode cX9_hasRoom 6 = .ok (.aload_n 0, 1) := by decide +kernel
theorem dX9_hasRoom_7 : decode cX9_hasRoom 7 = .ok (.getfield 7, 3) := by decide +kernel
theorem dX9_hasRoom_10 : decode cX9_hasRoom 10 = .ok (.arraylength, 1) := by decide +kernel
theorem dX9_hasRoom_11 : decode cX9_hasRoom 11 = .ok (.if_icmp .gt 7, 3) := by decide +kernel
theorem dX9_hasRoom_14 : decode cX9_hasRoom 14 = .ok (.iconst 1, 1) := by decide +kernel
theorem dX9_hasRoom_15 : decode cX9_hasRoom 15 = .ok (.goto 4, 3) := by decide +kernel
theorem dX9_hasRoom_18 : decode cX9_hasRoom 18 = .ok (.iconst 0, 1) := by decide +kernel
theorem dX9_hasRoom_19 : decode cX9_hasRoom 19 = .ok (.ireturn, 1) := by decide +kernel
theorem dX9_add_0 : decode cX9_add 0 = .ok (.aload_n 0, 1) := by decide +kernel
theorem dX9_add_1 : decode cX9_add 1 = .ok (.iconst 4, 1) := by decide +kernel
theorem dX9_add_2 : decode cX9_add 2 = .ok (.invokevirtual 17, 3) := by decide +kernel
theorem dX9_add_5 : decode cX9_add 5 = .ok (.ifCond .eq 39, 3) := by decide +kernel
theorem dX9_add_8 : decode cX9_add 8 = .ok (.bipush 24, 2) := by decide +kernel
theorem dX9_add_10 : decode cX9_add 10 = .ok (.istore_n 2, 1) := by decide +kernel
theorem dX9_add_11 : decode cX9_add 11 = .ok (.iload_n 2, 1) := by decide +kernel
theorem dX9_add_12 : decode cX9_add 12 = .ok (.ifCond .lt 32, 3) := by decide +kernel
theorem dX9_add_15 : decode cX9_add 15 = .ok (.aload_n 0, 1) := by decide +kernel
theorem dX9_add_16 : decode cX9_add 16 = .ok (.getfield 7, 3) := by decide +kernel
theorem dX9_add_19 : decode cX9_add 19 = .ok (.aload_n 0, 1) := by decide +kernel
theorem dX9_add_20 : decode cX9_add 20 = .ok (.getfield 13, 3) := by decide +kernel
theorem dX9_add_23 : decode cX9_add 23 = .ok (.iload_n 1, 1) := by decide +kernel
theorem dX9_add_24 : decode cX9_add 24 = .ok (.iload_n 2, 1) := by decide +kernel
theorem dX9_add_25 : decode cX9_add 25 = .ok (.iushr, 1) := by decide +kernel
theorem dX9_add_26 : decode cX9_add 26 = .ok (.i2b, 1) := by decide +kernel
theorem dX9_add_27 : decode cX9_add 27 = .ok (.bastore, 1) := by decide +kernel
theorem dX9_add_28 : decode cX9_add 28 = .ok (.aload_n 0, 1) := by decide +kernel
theorem dX9_add_29 : decode cX9_add 29 = .ok (.dup, 1) := by decide +kernel
theorem dX9_add_30 : decode cX9_add 30 = .ok (.getfield 13, 3) := by decide +kernel
theorem dX9_add_33 : decode cX9_add 33 = .ok (.iconst 1, 1) := by decide +kernel
theorem dX9_add_34 : decode cX9_add 34 = .ok (.iadd, 1) := by decide +kernel
theorem dX9_add_35 : decode cX9_add 35 = .ok (.putfield 13, 3) := by decide +kernel
theorem dX9_add_38 : decode cX9_add 38 = .ok (.iinc 2 (-8), 3) := by decide +kernel
theorem dX9_add_41 : decode cX9_add 41 = .ok (.goto (-30), 3) := by decide +kernel
theorem dX9_add_44 : decode cX9_add 44 = .ok (.return_, 1) := by decide +kernel
theorem dX9_open_0 : decode cX9_open 0 = .ok (.aload_n 0, 1) := by decide +kernel
theorem dX9_open_1 : decode cX9_open 1 = .ok (.iconst 0, 1) := by decide +kernel
theorem dX9_open_2 : decode cX9_open 2 = .ok (.iload_n 1, 1) := by decide +kernel
theorem dX9_open_3 : decode cX9_open 3 = .ok (.aload_n 0, 1) := by decide +kernel
theorem dX9_open_4 : decode cX9_open 4 = .ok (.getfield 13, 3) := by decide +kernel
theorem dX9_open_7 : decode cX9_open 7 = .ok (.invokestatic 21, 3) := by decide +kernel
theorem dX9_open_10 : decode cX9_open 10 = .ok (.invokestatic 27, 3) := by decide +kernel
theorem dX9_open_13 : decode cX9_open 13 = .ok (.putfield 30, 3) := by decide +kernel
theorem dX9_open_16 : decode cX9_open 16 = .ok (.aload_n 0, 1) := by decide +kernel
theorem dX9_open_17 : decode cX9_open 17 = .ok (.iconst 0, 1) := by decide +kernel
theorem dX9_open_18 : decode cX9_open 18 = .ok (.putfield 33, 3) := by decide +kernel
theorem dX9_open_21 : decode cX9_open 21 = .ok (.aload_n 0, 1) := by decide +kernel
theorem dX9_open_22 : decode cX9_open 22 = .ok (.invokevirtual 36, 3) := by decide +kernel
theorem dX9_open_25 : decode cX9_open 25 = .ok (.return_, 1) := by decide +kernel
theorem dX9_next_0 : decode cX9_next 0 = .ok (.aload_n 0, 1) := by decide +kernel
theorem dX9_next_1 : decode cX9_next 1 = .ok (.aload_n 0, 1) := by decide +kernel
theorem dX9_next_2 : decode cX9_next 2 = .ok (.getfield 33, 3) := by decide +kernel
theorem dX9_next_5 : decode cX9_next 5 = .ok (.putfield 39, 3) := by decide +kernel
theorem dX9_next_8 : decode cX9_next 8 = .ok (.aload_n 0, 1) := by decide +kernel
theorem dX9_next_9 : decode cX9_next 9 = .ok (.getfield 39, 3) := by decide +kernel
theorem dX9_next_12 : decode cX9_next 12 = .ok (.aload_n 0, 1) := by decide +kernel
theorem dX9_next_13 : decode cX9_next 13 = .ok (.getfield 30, 3) := by decide +kernel
theorem dX9_next_16 : decode cX9_next 16 = .ok (.if_icmp .ge 30, 3) := by decide +kernel
theorem dX9_next_19 : decode cX9_next 19 = .ok (.aload_n 0, 1) := by decide +kernel
theorem dX9_next_20 : decode cX9_next 20 = .ok (.getfield 7, 3) := by decide +kernel
theorem dX9_next_23 : decode cX9_next 23 = .ok (.aload_n 0, 1) := by decide +kernel
theorem dX9_next_24 : decode cX9_next 24 = .ok (.getfield 39, 3) := by decide +kernel
theorem dX9_next_27 : decode cX9_next 27 = .ok (.baload, 1) := by decide +kernel
theorem dX9_next_28 : decode cX9_next 28 = .ok (.bipush 32, 2) := by decide +kernel
theorem dX9_next_30 : decode cX9_next 30 = .ok (.if_icmp .ne 16, 3) := by decide +kernel
theorem dX9_next_33 : decode cX9_next 33 = .ok (.aload_n 0, 1) := by decide +kernel
theorem dX9_next_34 : decode cX9_next 34 = .ok (.dup, 1) := by decide +kernel
theorem dX9_next_35 : decode cX9_next 35 = .ok (.getfield 39, 3) := by decide +kernel
theorem dX9_next_38 : decode cX9_next 38 = .ok (.iconst 1, 1) := by decide +kernel
theorem dX9_next_39 : decode cX9_next 39 = .ok (.iadd, 1) := by decide +kernel
theorem dX9_next_40 : decode cX9_next 40 = .ok (.putfield 39, 3) := by decide +kernel
theorem dX9_next_43 : decode cX9_next 43 = .ok (.goto (-35), 3) := by decide +kernel
theorem dX9_next_46 : decode cX9_next 46 = .ok (.aload_n 0, 1) := by decide +kernel
theorem dX9_next_47 : decode cX9_next 47 = .ok (.aload_n 0, 1) := by decide +kernel
theorem dX9_next_48 : decode cX9_next 48 = .ok (.getfield 39, 3) := by decide +kernel
theorem dX9_next_51 : decode cX9_next 51 = .ok (.iconst 1, 1) := by decide +kernel
theorem dX9_next_52 : decode cX9_next 52 = .ok (.iadd, 1) := by decide +kernel
theorem dX9_next_53 : decode cX9_next 53 = .ok (.putfield 33, 3) := by decide +kernel
theorem dX9_next_56 : decode cX9_next 56 = .ok (.aload_n 0, 1) := by decide +kernel
theorem dX9_next_57 : decode cX9_next 57 = .ok (.getfield 39, 3) := by decide +kernel
theorem dX9_next_60 : decode cX9_next 60 = .ok (.aload_n 0, 1) := by decide +kernel
theorem dX9_next_61 : decode cX9_next 61 = .ok (.getfield 30, 3) := by decide +kernel
theorem dX9_next_64 : decode cX9_next 64 = .ok (.if_icmp .lt 19, 3) := by decide +kernel
theorem dX9_next_67 : decode cX9_next 67 = .ok (.aload_n 0, 1) := by decide +kernel
theorem dX9_next_68 : decode cX9_next 68 = .ok (.aload_n 0, 1) := by decide +kernel
theorem dX9_next_69 : decode cX9_next 69 = .ok (.getfield 30, 3) := by decide +kernel
theorem dX9_next_72 : decode cX9_next 72 = .ok (.putfield 33, 3) := by decide +kernel
theorem dX9_next_75 : decode cX9_next 75 = .ok (.aload_n 0, 1) := by decide +kernel
theorem dX9_next_76 : decode cX9_next 76 = .ok (.iconst 0, 1) := by decide +kernel
theorem dX9_next_77 : decode cX9_next 77 = .ok (.putfield 42, 3) := by decide +kernel
theorem dX9_next_80 : decode cX9_next 80 = .ok (.goto 122, 3) := by decide +kernel
theorem dX9_next_83 : decode cX9_next 83 = .ok (.aload_n 0, 1) := by decide +kernel
theorem dX9_next_84 : decode cX9_next 84 = .ok (.getfield 7, 3) := by decide +kernel
theorem dX9_next_87 : decode cX9_next 87 = .ok (.aload_n 0, 1) := by decide +kernel
theorem dX9_next_88 : decode cX9_next 88 = .ok (.getfield 39, 3) := by decide +kernel
theorem dX9_next_91 : decode cX9_next 91 = .ok (.baload, 1) := by decide +kernel
theorem dX9_next_92 : decode cX9_next 92 = .ok (.bipush 97, 2) := by decide +kernel
theorem dX9_next_94 : decode cX9_next 94 = .ok (.if_icmp .lt 24, 3) := by decide +kernel
theorem dX9_next_97 : decode cX9_next 97 = .ok (.aload_n 0, 1) := by decide +kernel
theorem dX9_next_98 : decode cX9_next 98 = .ok (.getfield 7, 3) := by decide +kernel
theorem dX9_next_101 : decode cX9_next 101 = .ok (.aload_n 0, 1) := by decide +kernel
theorem dX9_next_102 : decode cX9_next 102 = .ok (.getfield 39, 3) := by decide +kernel
theorem dX9_next_105 : decode cX9_next 105 = .ok (.baload, 1) := by decide +kernel
theorem dX9_next_106 : decode cX9_next 106 = .ok (.bipush 122, 2) := by decide +kernel
theorem dX9_next_108 : decode cX9_next 108 = .ok (.if_icmp .gt 10, 3) := by decide +kernel
theorem dX9_next_111 : decode cX9_next 111 = .ok (.aload_n 0, 1) := by decide +kernel
theorem dX9_next_112 : decode cX9_next 112 = .ok (.invokevirtual 45, 3) := by decide +kernel
theorem dX9_next_115 : decode cX9_next 115 = .ok (.goto 87, 3) := by decide +kernel
theorem dX9_next_118 : decode cX9_next 118 = .ok (.aload_n 0, 1) := by decide +kernel
theorem dX9_next_119 : decode cX9_next 119 = .ok (.getfield 7, 3) := by decide +kernel
theorem dX9_next_122 : decode cX9_next 122 = .ok (.aload_n 0, 1) := by decide +kernel
theorem dX9_next_123 : decode cX9_next 123 = .ok (.getfield 39, 3) := by decide +kernel
theorem dX9_next_126 : decode cX9_next 126 = .ok (.baload, 1) := by decide +kernel
theorem dX9_next_127 : decode cX9_next 127 = .ok (.bipush 48, 2) := by decide +kernel
theorem dX9_next_129 : decode cX9_next 129 = .ok (.if_icmp .lt 24, 3) := by decide +kernel
theorem dX9_next_132 : decode cX9_next 132 = .ok (.aload_n 0, 1) := by decide +kernel
theorem dX9_next_133 : decode cX9_next 133 = .ok (.getfield 7, 3) := by decide +kernel
theorem dX9_next_136 : decode cX9_next 136 = .ok (.aload_n 0, 1) := by decide +kernel
theorem dX9_next_137 : decode cX9_next 137 = .ok (.getfield 39, 3) := by decide +kernel
theorem dX9_next_140 : decode cX9_next 140 = .ok (.baload, 1) := by decide +kernel
theorem dX9_next_141 : decode cX9_next 141 = .ok (.bipush 57, 2) := by decide +kernel
theorem dX9_next_143 : decode cX9_next 143 = .ok (.if_icmp .gt 10, 3) := by decide +kernel
theorem dX9_next_146 : decode cX9_next 146 = .ok (.aload_n 0, 1) := by decide +kernel
theorem dX9_next_147 : decode cX9_next 147 = .ok (.invokevirtual 48, 3) := by decide +kernel
theorem dX9_next_150 : decode cX9_next 150 = .ok (.goto 52, 3) := by decide +kernel
theorem dX9_next_153 : decode cX9_next 153 = .ok (.aload_n 0, 1) := by decide +kernel
theorem dX9_next_154 : decode cX9_next 154 = .ok (.getfield 7, 3) := by decide +kernel
theorem dX9_next_157 : decode cX9_next 157 = .ok (.aload_n 0, 1) := by decide +kernel
theorem dX9_next_158 : decode cX9_next 158 = .ok (.getfield 39, 3) := by decide +kernel
theorem dX9_next_161 : decode cX9_next 161 = .ok (.baload, 1) := by decide +kernel
theorem dX9_next_162 : decode cX9_next 162 = .ok (.bipush 59, 2) := by decide +kernel
theorem dX9_next_164 : decode cX9_next 164 = .ok (.if_icmp .ne 11, 3) := by decide +kernel
theorem dX9_next_167 : decode cX9_next 167 = .ok (.aload_n 0, 1) := by decide +kernel
theorem dX9_next_168 : decode cX9_next 168 = .ok (.iconst 4, 1) := by decide +kernel
theorem dX9_next_169 : decode cX9_next 169 = .ok (.putfield 42, 3) := by decide +kernel
theorem dX9_next_172 : decode cX9_next 172 = .ok (.goto 30, 3) := by decide +kernel
theorem dX9_next_175 : decode cX9_next 175 = .ok (.aload_n 0, 1) := by decide +kernel
theorem dX9_next_176 : decode cX9_next 176 = .ok (.getfield 7, 3) := by decide +kernel
theorem dX9_next_179 : decode cX9_next 179 = .ok (.aload_n 0, 1) := by decide +kernel
theorem dX9_next_180 : decode cX9_next 180 = .ok (.getfield 39, 3) := by decide +kernel
theorem dX9_next_183 : decode cX9_next 183 = .ok (.baload, 1) := by decide +kernel
theorem dX9_next_184 : decode cX9_next 184 = .ok (.bipush 44, 2) := by decide +kernel
theorem dX9_next_186 : decode cX9_next 186 = .ok (.if_icmp .ne 11, 3) := by decide +kernel
theorem dX9_next_189 : decode cX9_next 189 = .ok (.aload_n 0, 1) := by decide +kernel
theorem dX9_next_190 : decode cX9_next 190 = .ok (.iconst 5, 1) := by decide +kernel
theorem dX9_next_191 : decode cX9_next 191 = .ok (.putfield 42, 3) := by decide +kernel
theorem dX9_next_194 : decode cX9_next 194 = .ok (.goto 8, 3) := by decide +kernel
theorem dX9_next_197 : decode cX9_next 197 = .ok (.aload_n 0, 1) := by decide +kernel
theorem dX9_next_198 : decode cX9_next 198 = .ok (.iconst 1, 1) := by decide +kernel
theorem dX9_next_199 : decode cX9_next 199 = .ok (.putfield 42, 3) := by decide +kernel
theorem dX9_next_202 : decode cX9_next 202 = .ok (.return_, 1) := by decide +kernel
theorem dX9_takeWord_0 : decode cX9_takeWord 0 = .ok (.aload_n 0, 1) := by decide +kernel
theorem dX9_takeWord_1 : decode cX9_takeWord 1 = .ok (.lconst 0, 1) := by decide +kernel
theorem dX9_takeWord_2 : decode cX9_takeWord 2 = .ok (.putfield 51, 3) := by decide +kernel
theorem dX9_takeWord_5 : decode cX9_takeWord 5 = .ok (.aload_n 0, 1) := by decide +kernel
theorem dX9_takeWord_6 : decode cX9_takeWord 6 = .ok (.getfield 39, 3) := by decide +kernel
theorem dX9_takeWord_9 : decode cX9_takeWord 9 = .ok (.istore_n 1, 1) := by decide +kernel
theorem dX9_takeWord_10 : decode cX9_takeWord 10 = .ok (.iload_n 1, 1) := by decide +kernel
theorem dX9_takeWord_11 : decode cX9_takeWord 11 = .ok (.aload_n 0, 1) := by decide +kernel
theorem dX9_takeWord_12 : decode cX9_takeWord 12 = .ok (.getfield 30, 3) := by decide +kernel
theorem dX9_takeWord_15 : decode cX9_takeWord 15 = .ok (.if_icmp .ge 56, 3) := by decide +kernel
theorem dX9_takeWord_18 : decode cX9_takeWord 18 = .ok (.aload_n 0, 1) := by decide +kernel
theorem dX9_takeWord_19 : decode cX9_takeWord 19 = .ok (.getfield 7, 3) := by decide +kernel
theorem dX9_takeWord_22 : decode cX9_takeWord 22 = .ok (.iload_n 1, 1) := by decide +kernel
theorem dX9_takeWord_23 : decode cX9_takeWord 23 = .ok (.baload, 1) := by decide +kernel
theorem dX9_takeWord_24 : decode cX9_takeWord 24 = .ok (.bipush 97, 2) := by decide +kernel
theorem dX9_takeWord_26 : decode cX9_takeWord 26 = .ok (.if_icmp .lt 45, 3) := by decide +kernel
theorem dX9_takeWord_29 : decode cX9_takeWord 29 = .ok (.aload_n 0, 1) := by decide +kernel
theorem dX9_takeWord_30 : decode cX9_takeWord 30 = .ok (.getfield 7, 3) := by decide +kernel
theorem dX9_takeWord_33 : decode cX9_takeWord 33 = .ok (.iload_n 1, 1) := by decide +kernel
theorem dX9_takeWord_34 : decode cX9_takeWord 34 = .ok (.baload, 1) := by decide +kernel
theorem dX9_takeWord_35 : decode cX9_takeWord 35 = .ok (.bipush 122, 2) := by decide +kernel
theorem dX9_takeWord_37 : decode cX9_takeWord 37 = .ok (.if_icmp .gt 34, 3) := by decide +kernel
theorem dX9_takeWord_40 : decode cX9_takeWord 40 = .ok (.aload_n 0, 1) := by decide +kernel
theorem dX9_takeWord_41 : decode cX9_takeWord 41 = .ok (.ldc2_w 55, 3) := by decide +kernel
theorem dX9_takeWord_44 : decode cX9_takeWord 44 = .ok (.aload_n 0, 1) := by decide +kernel
theorem dX9_takeWord_45 : decode cX9_takeWord 45 = .ok (.getfield 51, 3) := by decide +kernel
theorem dX9_takeWord_48 : decode cX9_takeWord 48 = .ok (.lmul, 1) := by decide +kernel
theorem dX9_takeWord_49 : decode cX9_takeWord 49 = .ok (.aload_n 0, 1) := by decide +kernel
theorem dX9_takeWord_50 : decode cX9_takeWord 50 = .ok (.getfield 7, 3) := by decide +kernel
theorem dX9_takeWord_53 : decode cX9_takeWord 53 = .ok (.iload_n 1, 1) := by decide +kernel
theorem dX9_takeWord_54 : decode cX9_takeWord 54 = .ok (.baload, 1) := by decide +kernel
theorem dX9_takeWord_55 : decode cX9_takeWord 55 = .ok (.bipush 97, 2) := by decide +kernel
theorem dX9_takeWord_57 : decode cX9_takeWord 57 = .ok (.isub, 1) := by decide +kernel
theorem dX9_takeWord_58 : decode cX9_takeWord 58 = .ok (.iconst 1, 1) := by decide +kernel
theorem dX9_takeWord_59 : decode cX9_takeWord 59 = .ok (.iadd, 1) := by decide +kernel
theorem dX9_takeWord_60 : decode cX9_takeWord 60 = .ok (.i2l, 1) := by decide +kernel
theorem dX9_takeWord_61 : decode cX9_takeWord 61 = .ok (.ladd, 1) := by decide +kernel
theorem dX9_takeWord_62 : decode cX9_takeWord 62 = .ok (.putfield 51, 3) := by decide +kernel
theorem dX9_takeWord_65 : decode cX9_takeWord 65 = .ok (.iinc 1 1, 3) := by decide +kernel
theorem dX9_takeWord_68 : decode cX9_takeWord 68 = .ok (.goto (-58), 3) := by decide +kernel
theorem dX9_takeWord_71 : decode cX9_takeWord 71 = .ok (.aload_n 0, 1) := by decide +kernel
theorem dX9_takeWord_72 : decode cX9_takeWord 72 = .ok (.iload_n 1, 1) := by decide +kernel
theorem dX9_takeWord_73 : decode cX9_takeWord 73 = .ok (.putfield 33, 3) := by decide +kernel
theorem dX9_takeWord_76 : decode cX9_takeWord 76 = .ok (.aload_n 0, 1) := by decide +kernel
theorem dX9_takeWord_77 : decode cX9_takeWord 77 = .ok (.iload_n 1, 1) := by decide +kernel
theorem dX9_takeWord_78 : decode cX9_takeWord 78 = .ok (.aload_n 0, 1) := by decide +kernel
theorem dX9_takeWord_79 : decode cX9_takeWord 79 = .ok (.getfield 39, 3) := by decide +kernel
theorem dX9_takeWord_82 : decode cX9_takeWord 82 = .ok (.isub, 1) := by decide +kernel
theorem dX9_takeWord_83 : decode cX9_takeWord 83 = .ok (.bipush 8, 2) := by decide +kernel
theorem dX9_takeWord_85 : decode cX9_takeWord 85 = .ok (.if_icmp .gt 7, 3) := by decide +kernel
theorem dX9_takeWord_88 : decode cX9_takeWord 88 = .ok (.iconst 2, 1) := by decide +kernel
theorem dX9_takeWord_89 : decode cX9_takeWord 89 = .ok (.goto 4, 3) := by decide +kernel
theorem dX9_takeWord_92 : decode cX9_takeWord 92 = .ok (.iconst 1, 1) := by decide +kernel
theorem dX9_takeWord_93 : decode cX9_takeWord 93 = .ok (.putfield 42, 3) := by decide +kernel
theorem dX9_takeWord_96 : decode cX9_takeWord 96 = .ok (.return_, 1) := by decide +kernel
theorem dX9_takeWhole_0 : decode cX9_takeWhole 0 = .ok (.aload_n 0, 1) := by decide +kernel
theorem dX9_takeWhole_1 : decode cX9_takeWhole 1 = .ok (.iconst 0, 1) := by decide +kernel
theorem dX9_takeWhole_2 : decode cX9_takeWhole 2 = .ok (.putfield 57, 3) := by decide +kernel
theorem dX9_takeWhole_5 : decode cX9_takeWhole 5 = .ok (.aload_n 0, 1) := by decide +kernel
theorem dX9_takeWhole_6 : decode cX9_takeWhole 6 = .ok (.getfield 39, 3) := by decide +kernel
theorem dX9_takeWhole_9 : decode cX9_takeWhole 9 = .ok (.istore_n 1, 1) := by decide +kernel
theorem dX9_takeWhole_10 : decode cX9_takeWhole 10 = .ok (.iload_n 1, 1) := by decide +kernel
theorem dX9_takeWhole_11 : decode cX9_takeWhole 11 = .ok (.aload_n 0, 1) := by decide +kernel
theorem dX9_takeWhole_12 : decode cX9_takeWhole 12 = .ok (.getfield 30, 3) := by decide +kernel
theorem dX9_takeWhole_15 : decode cX9_takeWhole 15 = .ok (.if_icmp .ge 52, 3) := by decide +kernel
theorem dX9_takeWhole_18 : decode cX9_takeWhole 18 = .ok (.aload_n 0, 1) := by decide +kernel
theorem dX9_takeWhole_19 : decode cX9_takeWhole 19 = .ok (.getfield 7, 3) := by decide +kernel
theorem dX9_takeWhole_22 : decode cX9_takeWhole 22 = .ok (.iload_n 1, 1) := by decide +kernel
theorem dX9_takeWhole_23 : decode cX9_takeWhole 23 = .ok (.baload, 1) := by decide +kernel
theorem dX9_takeWhole_24 : decode cX9_takeWhole 24 = .ok (.bipush 48, 2) := by decide +kernel
theorem dX9_takeWhole_26 : decode cX9_takeWhole 26 = .ok (.if_icmp .lt 41, 3) := by decide +kernel
theorem dX9_takeWhole_29 : decode cX9_takeWhole 29 = .ok (.aload_n 0, 1) := by decide +kernel
theorem dX9_takeWhole_30 : decode cX9_takeWhole 30 = .ok (.getfield 7, 3) := by decide +kernel
theorem dX9_takeWhole_33 : decode cX9_takeWhole 33 = .ok (.iload_n 1, 1) := by decide +kernel
theorem dX9_takeWhole_34 : decode cX9_takeWhole 34 = .ok (.baload, 1) := by decide +kernel
theorem dX9_takeWhole_35 : decode cX9_takeWhole 35 = .ok (.bipush 57, 2) := by decide +kernel
theorem dX9_takeWhole_37 : decode cX9_takeWhole 37 = .ok (.if_icmp .gt 30, 3) := by decide +kernel
theorem dX9_takeWhole_40 : decode cX9_takeWhole 40 = .ok (.aload_n 0, 1) := by decide +kernel
theorem dX9_takeWhole_41 : decode cX9_takeWhole 41 = .ok (.bipush 10, 2) := by decide +kernel
theorem dX9_takeWhole_43 : decode cX9_takeWhole 43 = .ok (.aload_n 0, 1) := by decide +kernel
theorem dX9_takeWhole_44 : decode cX9_takeWhole 44 = .ok (.getfield 57, 3) := by decide +kernel
theorem dX9_takeWhole_47 : decode cX9_takeWhole 47 = .ok (.imul, 1) := by decide +kernel
theorem dX9_takeWhole_48 : decode cX9_takeWhole 48 = .ok (.aload_n 0, 1) := by decide +kernel
theorem dX9_takeWhole_49 : decode cX9_takeWhole 49 = .ok (.getfield 7, 3) := by decide +kernel
theorem dX9_takeWhole_52 : decode cX9_takeWhole 52 = .ok (.iload_n 1, 1) := by decide +kernel
theorem dX9_takeWhole_53 : decode cX9_takeWhole 53 = .ok (.baload, 1) := by decide +kernel
theorem dX9_takeWhole_54 : decode cX9_takeWhole 54 = .ok (.bipush 48, 2) := by decide +kernel
theorem dX9_takeWhole_56 : decode cX9_takeWhole 56 = .ok (.isub, 1) := by decide +kernel
theorem dX9_takeWhole_57 : decode cX9_takeWhole 57 = .ok (.iadd, 1) := by decide +kernel
theorem dX9_takeWhole_58 : decode cX9_takeWhole 58 = .ok (.putfield 57, 3) := by decide +kernel
theorem dX9_takeWhole_61 : decode cX9_takeWhole 61 = .ok (.iinc 1 1, 3) := by decide +kernel
theorem dX9_takeWhole_64 : decode cX9_takeWhole 64 = .ok (.goto (-54), 3) := by decide +kernel
theorem dX9_takeWhole_67 : decode cX9_takeWhole 67 = .ok (.aload_n 0, 1) := by decide +kernel
theorem dX9_takeWhole_68 : decode cX9_takeWhole 68 = .ok (.iload_n 1, 1) := by decide +kernel
theorem dX9_takeWhole_69 : decode cX9_takeWhole 69 = .ok (.putfield 33, 3) := by decide +kernel
theorem dX9_takeWhole_72 : decode cX9_takeWhole 72 = .ok (.aload_n 0, 1) := by decide +kernel
theorem dX9_takeWhole_73 : decode cX9_takeWhole 73 = .ok (.iload_n 1, 1) := by decide +kernel
theorem dX9_takeWhole_74 : decode cX9_takeWhole 74 = .ok (.aload_n 0, 1) := by decide +kernel
theorem dX9_takeWhole_75 : decode cX9_takeWhole 75 = .ok (.getfield 39, 3) := by decide +kernel
theorem dX9_takeWhole_78 : decode cX9_takeWhole 78 = .ok (.isub, 1) := by decide +kernel
theorem dX9_takeWhole_79 : decode cX9_takeWhole 79 = .ok (.iconst 2, 1) := by decide +kernel
theorem dX9_takeWhole_80 : decode cX9_takeWhole 80 = .ok (.if_icmp .gt 7, 3) := by decide +kernel
theorem dX9_takeWhole_83 : decode cX9_takeWhole 83 = .ok (.iconst 3, 1) := by decide +kernel
theorem dX9_takeWhole_84 : decode cX9_takeWhole 84 = .ok (.goto 4, 3) := by decide +kernel
theorem dX9_takeWhole_87 : decode cX9_takeWhole 87 = .ok (.iconst 1, 1) := by decide +kernel
theorem dX9_takeWhole_88 : decode cX9_takeWhole 88 = .ok (.putfield 42, 3) := by decide +kernel
theorem dX9_takeWhole_91 : decode cX9_takeWhole 91 = .ok (.return_, 1) := by decide +kernel
theorem dX9_reads_0 : decode cX9_reads 0 = .ok (.aload_n 0, 1) := by decide +kernel
theorem dX9_reads_1 : decode cX9_reads 1 = .ok (.getfield 42, 3) := by decide +kernel
theorem dX9_reads_4 : decode cX9_reads 4 = .ok (.iconst 2, 1) := by decide +kernel
theorem dX9_reads_5 : decode cX9_reads 5 = .ok (.if_icmp .ne 19, 3) := by decide +kernel
theorem dX9_reads_8 : decode cX9_reads 8 = .ok (.aload_n 0, 1) := by decide +kernel
theorem dX9_reads_9 : decode cX9_reads 9 = .ok (.getfield 33, 3) := by decide +kernel
theorem dX9_reads_12 : decode cX9_reads 12 = .ok (.aload_n 0, 1) := by decide +kernel
theorem dX9_reads_13 : decode cX9_reads 13 = .ok (.getfield 39, 3) := by decide +kernel
theorem dX9_reads_16 : decode cX9_reads 16 = .ok (.isub, 1) := by decide +kernel
theorem dX9_reads_17 : decode cX9_reads 17 = .ok (.aload_n 1, 1) := by decide +kernel
theorem dX9_reads_18 : decode cX9_reads 18 = .ok (.invokevirtual 60, 3) := by decide +kernel
theorem dX9_reads_21 : decode cX9_reads 21 = .ok (.if_icmp .eq 5, 3) := by decide +kernel
theorem dX9_reads_24 : decode cX9_reads 24 = .ok (.iconst 0, 1) := by decide +kernel
theorem dX9_reads_25 : decode cX9_reads 25 = .ok (.ireturn, 1) := by decide +kernel
theorem dX9_reads_26 : decode cX9_reads 26 = .ok (.iconst 0, 1) := by decide +kernel
theorem dX9_reads_27 : decode cX9_reads 27 = .ok (.istore_n 2, 1) := by decide +kernel
theorem dX9_reads_28 : decode cX9_reads 28 = .ok (.iload_n 2, 1) := by decide +kernel
theorem dX9_reads_29 : decode cX9_reads 29 = .ok (.aload_n 1, 1) := by decide +kernel
theorem dX9_reads_30 : decode cX9_reads 30 = .ok (.invokevirtual 60, 3) := by decide +kernel
theorem dX9_reads_33 : decode cX9_reads 33 = .ok (.if_icmp .ge 30, 3) := by decide +kernel
theorem dX9_reads_36 : decode cX9_reads 36 = .ok (.aload_n 0, 1) := by decide +kernel
theorem dX9_reads_37 : decode cX9_reads 37 = .ok (.getfield 7, 3) := by decide +kernel
theorem dX9_reads_40 : decode cX9_reads 40 = .ok (.aload_n 0, 1) := by decide +kernel
theorem dX9_reads_41 : decode cX9_reads 41 = .ok (.getfield 39, 3) := by decide +kernel
theorem dX9_reads_44 : decode cX9_reads 44 = .ok (.iload_n 2, 1) := by decide +kernel
theorem dX9_reads_45 : decode cX9_reads 45 = .ok (.iadd, 1) := by decide +kernel
theorem dX9_reads_46 : decode cX9_reads 46 = .ok (.baload, 1) := by decide +kernel
theorem dX9_reads_47 : decode cX9_reads 47 = .ok (.aload_n 1, 1) := by decide +kernel
theorem dX9_reads_48 : decode cX9_reads 48 = .ok (.iload_n 2, 1) := by decide +kernel
theorem dX9_reads_49 : decode cX9_reads 49 = .ok (.invokevirtual 65, 3) := by decide +kernel
theorem dX9_reads_52 : decode cX9_reads 52 = .ok (.if_icmp .eq 5, 3) := by decide +kernel
theorem dX9_reads_55 : decode cX9_reads 55 = .ok (.iconst 0, 1) := by decide +kernel
theorem dX9_reads_56 : decode cX9_reads 56 = .ok (.ireturn, 1) := by decide +kernel
theorem dX9_reads_57 : decode cX9_reads 57 = .ok (.iinc 2 1, 3) := by decide +kernel
theorem dX9_reads_60 : decode cX9_reads 60 = .ok (.goto (-32), 3) := by decide +kernel
theorem dX9_reads_63 : decode cX9_reads 63 = .ok (.iconst 1, 1) := by decide +kernel
theorem dX9_reads_64 : decode cX9_reads 64 = .ok (.ireturn, 1) := by decide +kernel
theorem dX10_init_0 : decode cX10_init 0 = .ok (.aload_n 0, 1) := by decide +kernel
theorem dX10_init_1 : decode cX10_init 1 = .ok (.invokespecial 3, 3) := by decide +kernel
theorem dX10_init_4 : decode cX10_init 4 = .ok (.aload_n 0, 1) := by decide +kernel
theorem dX10_init_5 : decode cX10_init 5 = .ok (.bipush 9, 2) := by decide +kernel
theorem dX10_init_7 : decode cX10_init 7 = .ok (.newarray .int, 2) := by decide +kernel
theorem dX10_init_9 : decode cX10_init 9 = .ok (.putfield 9, 3) := by decide +kernel
theorem dX10_init_12 : decode cX10_init 12 = .ok (.aload_n 0, 1) := by decide +kernel
theorem dX10_init_13 : decode cX10_init 13 = .ok (.bipush 6, 2) := by decide +kernel
theorem dX10_init_15 : decode cX10_init 15 = .ok (.newarray .int, 2) := by decide +kernel
theorem dX10_init_17 : decode cX10_init 17 = .ok (.putfield 15, 3) := by decide +kernel
theorem dX10_init_20 : decode cX10_init 20 = .ok (.return_, 1) := by decide +kernel
theorem dX10_find_0 : decode cX10_find 0 = .ok (.aload_n 0, 1) := by decide +kernel
theorem dX10_find_1 : decode cX10_find 1 = .ok (.iload_n 1, 1) := by decide +kernel
theorem dX10_find_2 : decode cX10_find 2 = .ok (.bipush 6, 2) := by decide +kernel
theorem dX10_find_4 : decode cX10_find 4 = .ok (.invokestatic 18, 3) := by decide +kernel
theorem dX10_find_7 : decode cX10_find 7 = .ok (.putfield 24, 3) := by decide +kernel
theorem dX10_find_10 : decode cX10_find 10 = .ok (.aload_n 0, 1) := by decide +kernel
theorem dX10_find_11 : decode cX10_find 11 = .ok (.iload_n 2, 1) := by decide +kernel
theorem dX10_find_12 : decode cX10_find 12 = .ok (.bipush 9, 2) := by decide +kernel
theorem dX10_find_14 : decode cX10_find 14 = .ok (.invokestatic 18, 3) := by decide +kernel
theorem dX10_find_17 : decode cX10_find 17 = .ok (.putfield 28, 3) := by decide +kernel
theorem dX10_find_20 : decode cX10_find 20 = .ok (.iconst 0, 1) := by decide +kernel
theorem dX10_find_21 : decode cX10_find 21 = .ok (.istore_n 3, 1) := by decide +kernel
theorem dX10_find_22 : decode cX10_find 22 = .ok (.iload_n 3, 1) := by decide +kernel
theorem dX10_find_23 : decode cX10_find 23 = .ok (.aload_n 0, 1) := by decide +kernel
theorem dX10_find_24 : decode cX10_find 24 = .ok (.getfield 15, 3) := by decide +kernel
theorem dX10_find_27 : decode cX10_find 27 = .ok (.arraylength, 1) := by decide +kernel
theorem dX10_find_28 : decode cX10_find 28 = .ok (.if_icmp .ge 16, 3) := by decide +kernel
theorem dX10_find_31 : decode cX10_find 31 = .ok (.aload_n 0, 1) := by decide +kernel
theorem dX10_find_32 : decode cX10_find 32 = .ok (.getfield 15, 3) := by decide +kernel
theorem dX10_find_35 : decode cX10_find 35 = .ok (.iload_n 3, 1) := by decide +kernel
theorem dX10_find_36 : decode cX10_find 36 = .ok (.iconst 0, 1) := by decide +kernel
theorem dX10_find_37 : decode cX10_find 37 = .ok (.iastore, 1) := by decide +kernel
theorem dX10_find_38 : decode cX10_find 38 = .ok (.iinc 3 1, 3) := by decide +kernel
theorem dX10_find_41 : decode cX10_find 41 = .ok (.goto (-19), 3) := by decide +kernel
theorem dX10_find_44 : decode cX10_find 44 = .ok (.aload_n 0, 1) := by decide +kernel
theorem dX10_find_45 : decode cX10_find 45 = .ok (.getfield 24, 3) := by decide +kernel
theorem dX10_find_48 : decode cX10_find 48 = .ok (.iconst 2, 1) := by decide +kernel
theorem dX10_find_49 : decode cX10_find 49 = .ok (.if_icmp .lt 15, 3) := by decide +kernel
theorem dX10_find_52 : decode cX10_find 52 = .ok (.aload_n 0, 1) := by decide +kernel
theorem dX10_find_53 : decode cX10_find 53 = .ok (.iconst 0, 1) := by decide +kernel
theorem dX10_find_54 : decode cX10_find 54 = .ok (.invokevirtual 31, 3) := by decide +kernel
theorem dX10_find_57 : decode cX10_find 57 = .ok (.ifCond .eq 7, 3) := by decide +kernel
theorem dX10_find_60 : decode cX10_find 60 = .ok (.iconst 1, 1) := by decide +kernel
theorem dX10_find_61 : decode cX10_find 61 = .ok (.goto 4, 3) := by decide +kernel
theorem dX10_find_64 : decode cX10_find 64 = .ok (.iconst 0, 1) := by decide +kernel
theorem dX10_find_65 : decode cX10_find 65 = .ok (.ireturn, 1) := by decide +kernel
theorem dX10_findFrom_0 : decode cX10_findFrom 0 = .ok (.iload_n 1, 1) := by decide +kernel
theorem dX10_findFrom_1 : decode cX10_findFrom 1 = .ok (.aload_n 0, 1) := by decide +kernel
theorem dX10_findFrom_2 : decode cX10_findFrom 2 = .ok (.getfield 28, 3) := by decide +kernel
theorem dX10_findFrom_5 : decode cX10_findFrom 5 = .ok (.if_icmp .lt 8, 3) := by decide +kernel
theorem dX10_findFrom_8 : decode cX10_findFrom 8 = .ok (.aload_n 0, 1) := by decide +kernel
theorem dX10_findFrom_9 : decode cX10_findFrom 9 = .ok (.invokevirtual 35, 3) := by decide +kernel
theorem dX10_findFrom_12 : decode cX10_findFrom 12 = .ok (.ireturn, 1) := by decide +kernel
theorem dX10_findFrom_13 : decode cX10_findFrom 13 = .ok (.iconst 0, 1) := by decide +kernel
theorem dX10_findFrom_14 : decode cX10_findFrom 14 = .ok (.istore_n 2, 1) := by decide +kernel
theorem dX10_findFrom_15 : decode cX10_findFrom 15 = .ok (.iload_n 2, 1) := by decide +kernel
theorem dX10_findFrom_16 : decode cX10_findFrom 16 = .ok (.aload_n 0, 1) := by decide +kernel
theorem dX10_findFrom_17 : decode cX10_findFrom 17 = .ok (.getfield 24, 3) := by decide +kernel
theorem dX10_findFrom_20 : decode cX10_findFrom 20 = .ok (.if_icmp .ge 109, 3) := by decide +kernel
theorem dX10_findFrom_23 : decode cX10_findFrom 23 = .ok (.iload_n 2, 1) := by decide +kernel
theorem dX10_findFrom_24 : decode cX10_findFrom 24 = .ok (.iconst 1, 1) := by decide +kernel
theorem dX10_findFrom_25 : decode cX10_findFrom 25 = .ok (.iadd, 1) := by decide +kernel
theorem dX10_findFrom_26 : decode cX10_findFrom 26 = .ok (.istore_n 3, 1) := by decide +kernel
theorem dX10_findFrom_27 : decode cX10_findFrom 27 = .ok (.iload_n 3, 1) := by decide +kernel
theorem dX10_findFrom_28 : decode cX10_findFrom 28 = .ok (.aload_n 0, 1) := by decide +kernel
theorem dX10_findFrom_29 : decode cX10_findFrom 29 = .ok (.getfield 24, 3) := by decide +kernel
theorem dX10_findFrom_32 : decode cX10_findFrom 32 = .ok (.if_icmp .ge 91, 3) := by decide +kernel
theorem dX10_findFrom_35 : decode cX10_findFrom 35 = .ok (.aload_n 0, 1) := by decide +kernel
theorem dX10_findFrom_36 : decode cX10_findFrom 36 = .ok (.iload_n 2, 1) := by decide +kernel
theorem dX10_findFrom_37 : decode cX10_findFrom 37 = .ok (.iload_n 1, 1) := by decide +kernel
theorem dX10_findFrom_38 : decode cX10_findFrom 38 = .ok (.invokevirtual 39, 3) := by decide +kernel
theorem dX10_findFrom_41 : decode cX10_findFrom 41 = .ok (.ifCond .eq 76, 3) := by decide +kernel
theorem dX10_findFrom_44 : decode cX10_findFrom 44 = .ok (.aload_n 0, 1) := by decide +kernel
theorem dX10_findFrom_45 : decode cX10_findFrom 45 = .ok (.iload_n 3, 1) := by decide +kernel
theorem dX10_findFrom_46 : decode cX10_findFrom 46 = .ok (.iload_n 1, 1) := by decide +kernel
theorem dX10_findFrom_47 : decode cX10_findFrom 47 = .ok (.invokevirtual 39, 3) := by decide +kernel
theorem dX10_findFrom_50 : decode cX10_findFrom 50 = .ok (.ifCond .eq 67, 3) := by decide +kernel
theorem dX10_findFrom_53 : decode cX10_findFrom 53 = .ok (.aload_n 0, 1) := by decide +kernel
theorem dX10_findFrom_54 : decode cX10_findFrom 54 = .ok (.getfield 9, 3) := by decide +kernel
theorem dX10_findFrom_57 : decode cX10_findFrom 57 = .ok (.iload_n 1, 1) := by decide +kernel
theorem dX10_findFrom_58 : decode cX10_findFrom 58 = .ok (.bipush 10, 2) := by decide +kernel
theorem dX10_findFrom_60 : decode cX10_findFrom 60 = .ok (.iload_n 2, 1) := by decide +kernel
theorem dX10_findFrom_61 : decode cX10_findFrom 61 = .ok (.imul, 1) := by decide +kernel
theorem dX10_findFrom_62 : decode cX10_findFrom 62 = .ok (.iload_n 3, 1) := by decide +kernel
theorem dX10_findFrom_63 : decode cX10_findFrom 63 = .ok (.iadd, 1) := by decide +kernel
theorem dX10_findFrom_64 : decode cX10_findFrom 64 = .ok (.iastore, 1) := by decide +kernel
theorem dX10_findFrom_65 : decode cX10_findFrom 65 = .ok (.aload_n 0, 1) := by decide +kernel
theorem dX10_findFrom_66 : decode cX10_findFrom 66 = .ok (.getfield 15, 3) := by decide +kernel
theorem dX10_findFrom_69 : decode cX10_findFrom 69 = .ok (.iload_n 2, 1) := by decide +kernel
theorem dX10_findFrom_70 : decode cX10_findFrom 70 = .ok (.dup2, 1) := by decide +kernel
theorem dX10_findFrom_71 : decode cX10_findFrom 71 = .ok (.iaload, 1) := by decide +kernel
theorem dX10_findFrom_72 : decode cX10_findFrom 72 = .ok (.iconst 1, 1) := by decide +kernel
theorem dX10_findFrom_73 : decode cX10_findFrom 73 = .ok (.iadd, 1) := by decide +kernel
theorem dX10_findFrom_74 : decode cX10_findFrom 74 = .ok (.iastore, 1) := by decide +kernel
theorem dX10_findFrom_75 : decode cX10_findFrom 75 = .ok (.aload_n 0, 1) := by decide +kernel
theorem dX10_findFrom_76 : decode cX10_findFrom 76 = .ok (.getfield 15, 3) := by decide +kernel
theorem dX10_findFrom_79 : decode cX10_findFrom 79 = .ok (.iload_n 3, 1) := by decide +kernel
theorem dX10_findFrom_80 : decode cX10_findFrom 80 = .ok (.dup2, 1) := by decide +kernel
theorem dX10_findFrom_81 : decode cX10_findFrom 81 = .ok (.iaload, 1) := by decide +kernel
theorem dX10_findFrom_82 : decode cX10_findFrom 82 = .ok (.iconst 1, 1) := by decide +kernel
theorem dX10_findFrom_83 : decode cX10_findFrom 83 = .ok (.iadd, 1) := by decide +kernel
theorem dX10_findFrom_84 : decode cX10_findFrom 84 = .ok (.iastore, 1) := by decide +kernel
theorem dX10_findFrom_85 : decode cX10_findFrom 85 = .ok (.aload_n 0, 1) := by decide +kernel
theorem dX10_findFrom_86 : decode cX10_findFrom 86 = .ok (.iload_n 1, 1) := by decide +kernel
theorem dX10_findFrom_87 : decode cX10_findFrom 87 = .ok (.iconst 1, 1) := by decide +kernel
theorem dX10_findFrom_88 : decode cX10_findFrom 88 = .ok (.iadd, 1) := by decide +kernel
theorem dX10_findFrom_89 : decode cX10_findFrom 89 = .ok (.invokevirtual 31, 3) := by decide +kernel
theorem dX10_findFrom_92 : decode cX10_findFrom 92 = .ok (.ifCond .eq 5, 3) := by decide +kernel
theorem dX10_findFrom_95 : decode cX10_findFrom 95 = .ok (.iconst 1, 1) := by decide +kernel
theorem dX10_findFrom_96 : decode cX10_findFrom 96 = .ok (.ireturn, 1) := by decide +kernel
theorem dX10_findFrom_97 : decode cX10_findFrom 97 = .ok (.aload_n 0, 1) := by decide +kernel
theorem dX10_findFrom_98 : decode cX10_findFrom 98 = .ok (.getfield 15, 3) := by decide +kernel
theorem dX10_findFrom_101 : decode cX10_findFrom 101 = .ok (.iload_n 2, 1) := by decide +kernel
theorem dX10_findFrom_102 : decode cX10_findFrom 102 = .ok (.dup2, 1) := by decide +kernel
theorem dX10_findFrom_103 : decode cX10_findFrom 103 = .ok (.iaload, 1) := by decide +kernel
theorem dX10_findFrom_104 : decode cX10_findFrom 104 = .ok (.iconst 1, 1) := by decide +kernel
theorem dX10_findFrom_105 : decode cX10_findFrom 105 = .ok (.isub, 1) := by decide +kernel
theorem dX10_findFrom_106 : decode cX10_findFrom 106 = .ok (.iastore, 1) := by decide +kernel
theorem dX10_findFrom_107 : decode cX10_findFrom 107 = .ok (.aload_n 0, 1) := by decide +kernel
theorem dX10_findFrom_108 : decode cX10_findFrom 108 = .ok (.getfield 15, 3) := by decide +kernel
theorem dX10_findFrom_111 : decode cX10_findFrom 111 = .ok (.iload_n 3, 1) := by decide +kernel
theorem dX10_findFrom_112 : decode cX10_findFrom 112 = .ok (.dup2, 1) := by decide +kernel
theorem dX10_findFrom_113 : decode cX10_findFrom 113 = .ok (.iaload, 1) := by decide +kernel
theorem dX10_findFrom_114 : decode cX10_findFrom 114 = .ok (.iconst 1, 1) := by decide +kernel
theorem dX10_findFrom_115 : decode cX10_findFrom 115 = .ok (.isub, 1) := by decide +kernel
theorem dX10_findFrom_116 : decode cX10_findFrom 116 = .ok (.iastore, 1) := by decide +kernel
theorem dX10_findFrom_117 : decode cX10_findFrom 117 = .ok (.iinc 3 1, 3) := by decide +kernel
theorem dX10_findFrom_120 : decode cX10_findFrom 120 = .ok (.goto (-93), 3) := by decide +kernel
theorem dX10_findFrom_123 : decode cX10_findFrom 123 = .ok (.iinc 2 1, 3) := by decide +kernel
theorem dX10_findFrom_126 : decode cX10_findFrom 126 = .ok (.goto (-111), 3) := by decide +kernel
theorem dX10_findFrom_129 : decode cX10_findFrom 129 = .ok (.iconst 0, 1) := by decide +kernel
theorem dX10_findFrom_130 : decode cX10_findFrom 130 = .ok (.ireturn, 1) := by decide +kernel
theorem dX10_mayPull_0 : decode cX10_mayPull 0 = .ok (.aload_n 0, 1) := by decide +kernel
theorem dX10_mayPull_1 : decode cX10_mayPull 1 = .ok (.getfield 15, 3) := by decide +kernel
theorem dX10_mayPull_4 : decode cX10_mayPull 4 = .ok (.iload_n 1, 1) := by decide +kernel
theorem dX10_mayPull_5 : decode cX10_mayPull 5 = .ok (.iaload, 1) := by decide +kernel
theorem dX10_mayPull_6 : decode cX10_mayPull 6 = .ok (.aload_n 0, 1) := by decide +kernel
theorem dX10_mayPull_7 : decode cX10_mayPull 7 = .ok (.getfield 24, 3) := by decide +kernel
theorem dX10_mayPull_10 : decode cX10_mayPull 10 = .ok (.imul, 1) := by decide +kernel
theorem dX10_mayPull_11 : decode cX10_mayPull 11 = .ok (.iconst 2, 1) := by decide +kernel
theorem dX10_mayPull_12 : decode cX10_mayPull 12 = .ok (.aload_n 0, 1) := by decide +kernel
theorem dX10_mayPull_13 : decode cX10_mayPull 13 = .ok (.getfield 28, 3) := by decide +kernel
theorem dX10_mayPull_16 : decode cX10_mayPull 16 = .ok (.imul, 1) := by decide +kernel
theorem dX10_mayPull_17 : decode cX10_mayPull 17 = .ok (.if_icmp .lt 5, 3) := by decide +kernel
theorem dX10_mayPull_20 : decode cX10_mayPull 20 = .ok (.iconst 0, 1) := by decide +kernel
theorem dX10_mayPull_21 : decode cX10_mayPull 21 = .ok (.ireturn, 1) := by decide +kernel
theorem dX10_mayPull_22 : decode cX10_mayPull 22 = .ok (.iload_n 2, 1) := by decide +kernel
theorem dX10_mayPull_23 : decode cX10_mayPull 23 = .ok (.ifCond .eq 33, 3) := by decide +kernel
theorem dX10_mayPull_26 : decode cX10_mayPull 26 = .ok (.aload_n 0, 1) := by decide +kernel
theorem dX10_mayPull_27 : decode cX10_mayPull 27 = .ok (.getfield 9, 3) := by decide +kernel
theorem dX10_mayPull_30 : decode cX10_mayPull 30 = .ok (.iload_n 2, 1) := by decide +kernel
theorem dX10_mayPull_31 : decode cX10_mayPull 31 = .ok (.iconst 1, 1) := by decide +kernel
theorem dX10_mayPull_32 : decode cX10_mayPull 32 = .ok (.isub, 1) := by decide +kernel
theorem dX10_mayPull_33 : decode cX10_mayPull 33 = .ok (.iaload, 1) := by decide +kernel
theorem dX10_mayPull_34 : decode cX10_mayPull 34 = .ok (.bipush 10, 2) := by decide +kernel
theorem dX10_mayPull_36 : decode cX10_mayPull 36 = .ok (.idiv, 1) := by decide +kernel
theorem dX10_mayPull_37 : decode cX10_mayPull 37 = .ok (.iload_n 1, 1) := by decide +kernel
theorem dX10_mayPull_38 : decode cX10_mayPull 38 = .ok (.if_icmp .eq 22, 3) := by decide +kernel
theorem dX10_mayPull_41 : decode cX10_mayPull 41 = .ok (.aload_n 0, 1) := by decide +kernel
theorem dX10_mayPull_42 : decode cX10_mayPull 42 = .ok (.getfield 9, 3) := by decide +kernel
theorem dX10_mayPull_45 : decode cX10_mayPull 45 = .ok (.iload_n 2, 1) := by decide +kernel
theorem dX10_mayPull_46 : decode cX10_mayPull 46 = .ok (.iconst 1, 1) := by decide +kernel
theorem dX10_mayPull_47 : decode cX10_mayPull 47 = .ok (.isub, 1) := by decide +kernel
theorem dX10_mayPull_48 : decode cX10_mayPull 48 = .ok (.iaload, 1) := by decide +kernel
theorem dX10_mayPull_49 : decode cX10_mayPull 49 = .ok (.bipush 10, 2) := by decide +kernel
theorem dX10_mayPull_51 : decode cX10_mayPull 51 = .ok (.irem, 1) := by decide +kernel
theorem dX10_mayPull_52 : decode cX10_mayPull 52 = .ok (.iload_n 1, 1) := by decide +kernel
theorem dX10_mayPull_53 : decode cX10_mayPull 53 = .ok (.if_icmp .eq 7, 3) := by decide +kernel
theorem dX10_mayPull_56 : decode cX10_mayPull 56 = .ok (.iconst 1, 1) := by decide +kernel
theorem dX10_mayPull_57 : decode cX10_mayPull 57 = .ok (.goto 4, 3) := by decide +kernel
theorem dX10_mayPull_60 : decode cX10_mayPull 60 = .ok (.iconst 0, 1) := by decide +kernel
theorem dX10_mayPull_61 : decode cX10_mayPull 61 = .ok (.ireturn, 1) := by decide +kernel
theorem dX10_isEven_0 : decode cX10_isEven 0 = .ok (.ldc 45, 2) := by decide +kernel
theorem dX10_isEven_2 : decode cX10_isEven 2 = .ok (.istore_n 1, 1) := by decide +kernel
theorem dX10_isEven_3 : decode cX10_isEven 3 = .ok (.iconst 0, 1) := by decide +kernel
theorem dX10_isEven_4 : decode cX10_isEven 4 = .ok (.istore_n 2, 1) := by decide +kernel
theorem dX10_isEven_5 : decode cX10_isEven 5 = .ok (.iconst 0, 1) := by decide +kernel
theorem dX10_isEven_6 : decode cX10_isEven 6 = .ok (.istore_n 3, 1) := by decide +kernel
theorem dX10_isEven_7 : decode cX10_isEven 7 = .ok (.iload_n 3, 1) := by decide +kernel
theorem dX10_isEven_8 : decode cX10_isEven 8 = .ok (.aload_n 0, 1) := by decide +kernel
theorem dX10_isEven_9 : decode cX10_isEven 9 = .ok (.getfield 24, 3) := by decide +kernel
theorem dX10_isEven_12 : decode cX10_isEven 12 = .ok (.if_icmp .ge 31, 3) := by decide +kernel
theorem dX10_isEven_15 : decode cX10_isEven 15 = .ok (.iload_n 1, 1) := by decide +kernel
theorem dX10_isEven_16 : decode cX10_isEven 16 = .ok (.aload_n 0, 1) := by decide +kernel
theorem dX10_isEven_17 : decode cX10_isEven 17 = .ok (.getfield 15, 3) := by decide +kernel
theorem dX10_isEven_20 : decode cX10_isEven 20 = .ok (.iload_n 3, 1) := by decide +kernel
theorem dX10_isEven_21 : decode cX10_isEven 21 = .ok (.iaload, 1) := by decide +kernel
theorem dX10_isEven_22 : decode cX10_isEven 22 = .ok (.invokestatic 18, 3) := by decide +kernel
theorem dX10_isEven_25 : decode cX10_isEven 25 = .ok (.istore_n 1, 1) := by decide +kernel
theorem dX10_isEven_26 : decode cX10_isEven 26 = .ok (.iload_n 2, 1) := by decide +kernel
theorem dX10_isEven_27 : decode cX10_isEven 27 = .ok (.aload_n 0, 1) := by decide +kernel
theorem dX10_isEven_28 : decode cX10_isEven 28 = .ok (.getfield 15, 3) := by decide +kernel
theorem dX10_isEven_31 : decode cX10_isEven 31 = .ok (.iload_n 3, 1) := by decide +kernel
theorem dX10_isEven_32 : decode cX10_isEven 32 = .ok (.iaload, 1) := by decide +kernel
theorem dX10_isEven_33 : decode cX10_isEven 33 = .ok (.invokestatic 46, 3) := by decide +kernel
theorem dX10_isEven_36 : decode cX10_isEven 36 = .ok (.istore_n 2, 1) := by decide +kernel
theorem dX10_isEven_37 : decode cX10_isEven 37 = .ok (.iinc 3 1, 3) := by decide +kernel
theorem dX10_isEven_40 : decode cX10_isEven 40 = .ok (.goto (-33), 3) := by decide +kernel
theorem dX10_isEven_43 : decode cX10_isEven 43 = .ok (.iload_n 2, 1) := by decide +kernel
theorem dX10_isEven_44 : decode cX10_isEven 44 = .ok (.iload_n 1, 1) := by decide +kernel
theorem dX10_isEven_45 : decode cX10_isEven 45 = .ok (.isub, 1) := by decide +kernel
theorem dX10_isEven_46 : decode cX10_isEven 46 = .ok (.iconst 1, 1) := by decide +kernel
theorem dX10_isEven_47 : decode cX10_isEven 47 = .ok (.if_icmp .gt 7, 3) := by decide +kernel
theorem dX10_isEven_50 : decode cX10_isEven 50 = .ok (.iconst 1, 1) := by decide +kernel
theorem dX10_isEven_51 : decode cX10_isEven 51 = .ok (.goto 4, 3) := by decide +kernel
theorem dX10_isEven_54 : decode cX10_isEven 54 = .ok (.iconst 0, 1) := by decide +kernel
theorem dX10_isEven_55 : decode cX10_isEven 55 = .ok (.ireturn, 1) := by decide +kernel
theorem dX12_init_0 : decode cX12_init 0 = .ok (.aload_n 0, 1) := by decide +kernel
theorem dX12_init_1 : decode cX12_init 1 = .ok (.invokespecial 3, 3) := by decide +kernel
theorem dX12_init_4 : decode cX12_init 4 = .ok (.aload_n 0, 1) := by decide +kernel
theorem dX12_init_5 : decode cX12_init 5 = .ok (.iconst 5, 1) := by decide +kernel
theorem dX12_init_6 : decode cX12_init 6 = .ok (.newarray .int, 2) := by decide +kernel
theorem dX12_init_8 : decode cX12_init 8 = .ok (.putfield 9, 3) := by decide +kernel
theorem dX12_init_11 : decode cX12_init 11 = .ok (.aload_n 0, 1) := by decide +kernel
theorem dX12_init_12 : decode cX12_init 12 = .ok (.iconst 5, 1) := by decide +kernel
theorem dX12_init_13 : decode cX12_init 13 = .ok (.newarray .int, 2) := by decide +kernel
theorem dX12_init_15 : decode cX12_init 15 = .ok (.putfield 15, 3) := by decide +kernel
theorem dX12_init_18 : decode cX12_init 18 = .ok (.aload_n 0, 1) := by decide +kernel
theorem dX12_init_19 : decode cX12_init 19 = .ok (.bipush 10, 2) := by decide +kernel
theorem dX12_init_21 : decode cX12_init 21 = .ok (.newarray .int, 2) := by decide +kernel
theorem dX12_init_23 : decode cX12_init 23 = .ok (.putfield 18, 3) := by decide +kernel
theorem dX12_init_26 : decode cX12_init 26 = .ok (.aload_n 0, 1) := by decide +kernel
theorem dX12_init_27 : decode cX12_init 27 = .ok (.bipush 60, 2) := by decide +kernel
theorem dX12_init_29 : decode cX12_init 29 = .ok (.newarray .int, 2) := by decide +kernel
theorem dX12_init_31 : decode cX12_init 31 = .ok (.putfield 21, 3) := by decide +kernel
theorem dX12_init_34 : decode cX12_init 34 = .ok (.aload_n 0, 1) := by decide +kernel
theorem dX12_init_35 : decode cX12_init 35 = .ok (.bipush 6, 2) := by decide +kernel
theorem dX12_init_37 : decode cX12_init 37 = .ok (.newarray .int, 2) := by decide +kernel
theorem dX12_init_39 : decode cX12_init 39 = .ok (.putfield 24, 3) := by decide +kernel
theorem dX12_init_42 : decode cX12_init 42 = .ok (.aload_n 0, 1) := by decide +kernel
theorem dX12_init_43 : decode cX12_init 43 = .ok (.bipush 6, 2) := by decide +kernel
theorem dX12_init_45 : decode cX12_init 45 = .ok (.newarray .int, 2) := by decide +kernel
theorem dX12_init_47 : decode cX12_init 47 = .ok (.putfield 27, 3) := by decide +kernel
theorem dX12_init_50 : decode cX12_init 50 = .ok (.aload_n 0, 1) := by decide +kernel
theorem dX12_init_51 : decode cX12_init 51 = .ok (.bipush 6, 2) := by decide +kernel
theorem dX12_init_53 : decode cX12_init 53 = .ok (.newarray .int, 2) := by decide +kernel
theorem dX12_init_55 : decode cX12_init 55 = .ok (.putfield 30, 3) := by decide +kernel
theorem dX12_init_58 : decode cX12_init 58 = .ok (.aload_n 0, 1) := by decide +kernel
theorem dX12_init_59 : decode cX12_init 59 = .ok (.bipush 6, 2) := by decide +kernel
theorem dX12_init_61 : decode cX12_init 61 = .ok (.newarray .int, 2) := by decide +kernel
theorem dX12_init_63 : decode cX12_init 63 = .ok (.putfield 33, 3) := by decide +kernel
theorem dX12_init_66 : decode cX12_init 66 = .ok (.aload_n 0, 1) := by decide +kernel
theorem dX12_init_67 : decode cX12_init 67 = .ok (.bipush 6, 2) := by decide +kernel
theorem dX12_init_69 : decode cX12_init 69 = .ok (.newarray .int, 2) := by decide +kernel
theorem dX12_init_71 : decode cX12_init 71 = .ok (.putfield 36, 3) := by decide +kernel
theorem dX12_init_74 : decode cX12_init 74 = .ok (.aload_n 0, 1) := by decide +kernel
theorem dX12_init_75 : decode cX12_init 75 = .ok (.bipush 6, 2) := by decide +kernel
theorem dX12_init_77 : decode cX12_init 77 = .ok (.newarray .int, 2) := by decide +kernel
theorem dX12_init_79 : decode cX12_init 79 = .ok (.putfield 39, 3) := by decide +kernel
theorem dX12_init_82 : decode cX12_init 82 = .ok (.aload_n 0, 1) := by decide +kernel
theorem dX12_init_83 : decode cX12_init 83 = .ok (.bipush 12, 2) := by decide +kernel
theorem dX12_init_85 : decode cX12_init 85 = .ok (.newarray .int, 2) := by decide +kernel
theorem dX12_init_87 : decode cX12_init 87 = .ok (.putfield 42, 3) := by decide +kernel
theorem dX12_init_90 : decode cX12_init 90 = .ok (.aload_n 0, 1) := by decide +kernel
theorem dX12_init_91 : decode cX12_init 91 = .ok (.bipush 12, 2) := by decide +kernel
theorem dX12_init_93 : decode cX12_init 93 = .ok (.newarray .int, 2) := by decide +kernel
theorem dX12_init_95 : decode cX12_init 95 = .ok (.putfield 45, 3) := by decide +kernel
theorem dX12_init_98 : decode cX12_init 98 = .ok (.aload_n 0, 1) := by decide +kernel
theorem dX12_init_99 : decode cX12_init 99 = .ok (.bipush 12, 2) := by decide +kernel
theorem dX12_init_101 : decode cX12_init 101 = .ok (.newarray .int, 2) := by decide +kernel
theorem dX12_init_103 : decode cX12_init 103 = .ok (.putfield 48, 3) := by decide +kernel
theorem dX12_init_106 : decode cX12_init 106 = .ok (.aload_n 0, 1) := by decide +kernel
theorem dX12_init_107 : decode cX12_init 107 = .ok (.iconst 4, 1) := by decide +kernel
theorem dX12_init_108 : decode cX12_init 108 = .ok (.newarray .int, 2) := by decide +kernel
theorem dX12_init_110 : decode cX12_init 110 = .ok (.putfield 51, 3) := by decide +kernel
theorem dX12_init_113 : decode cX12_init 113 = .ok (.aload_n 0, 1) := by decide +kernel
theorem dX12_init_114 : decode cX12_init 114 = .ok (.iconst 4, 1) := by decide +kernel
theorem dX12_init_115 : decode cX12_init 115 = .ok (.newarray .int, 2) := by decide +kernel
theorem dX12_init_117 : decode cX12_init 117 = .ok (.putfield 54, 3) := by decide +kernel
theorem dX12_init_120 : decode cX12_init 120 = .ok (.aload_n 0, 1) := by decide +kernel
theorem dX12_init_121 : decode cX12_init 121 = .ok (.bipush 6, 2) := by decide +kernel
theorem dX12_init_123 : decode cX12_init 123 = .ok (.newarray .int, 2) := by decide +kernel
theorem dX12_init_125 : decode cX12_init 125 = .ok (.putfield 57, 3) := by decide +kernel
theorem dX12_init_128 : decode cX12_init 128 = .ok (.aload_n 0, 1) := by decide +kernel
theorem dX12_init_129 : decode cX12_init 129 = .ok (.bipush 6, 2) := by decide +kernel
theorem dX12_init_131 : decode cX12_init 131 = .ok (.newarray .int, 2) := by decide +kernel
theorem dX12_init_133 : decode cX12_init 133 = .ok (.putfield 60, 3) := by decide +kernel
theorem dX12_init_136 : decode cX12_init 136 = .ok (.aload_n 0, 1) := by decide +kernel
theorem dX12_init_137 : decode cX12_init 137 = .ok (.bipush 6, 2) := by decide +kernel
theorem dX12_init_139 : decode cX12_init 139 = .ok (.newarray .int, 2) := by decide +kernel
theorem dX12_init_141 : decode cX12_init 141 = .ok (.putfield 63, 3) := by decide +kernel
theorem dX12_init_144 : decode cX12_init 144 = .ok (.aload_n 0, 1) := by decide +kernel
theorem dX12_init_145 : decode cX12_init 145 = .ok (.bipush 11, 2) := by decide +kernel
theorem dX12_init_147 : decode cX12_init 147 = .ok (.newarray .long, 2) := by decide +kernel
theorem dX12_init_149 : decode cX12_init 149 = .ok (.putfield 66, 3) := by decide +kernel
theorem dX12_init_152 : decode cX12_init 152 = .ok (.aload_n 0, 1) := by decide +kernel
theorem dX12_init_153 : decode cX12_init 153 = .ok (.bipush 11, 2) := by decide +kernel
theorem dX12_init_155 : decode cX12_init 155 = .ok (.newarray .boolean, 2) := by decide +kernel
theorem dX12_init_157 : decode cX12_init 157 = .ok (.putfield 70, 3) := by decide +kernel
theorem dX12_init_160 : decode cX12_init 160 = .ok (.aload_n 0, 1) := by decide +kernel
theorem dX12_init_161 : decode cX12_init 161 = .ok (.bipush 11, 2) := by decide +kernel
theorem dX12_init_163 : decode cX12_init 163 = .ok (.newarray .int, 2) := by decide +kernel
theorem dX12_init_165 : decode cX12_init 165 = .ok (.putfield 74, 3) := by decide +kernel
theorem dX12_init_168 : decode cX12_init 168 = .ok (.return_, 1) := by decide +kernel
theorem dX12_find_0 : decode cX12_find 0 = .ok (.iconst 0, 1) := by decide +kernel
theorem dX12_find_1 : decode cX12_find 1 = .ok (.istore_n 3, 1) := by decide +kernel
theorem dX12_find_2 : decode cX12_find 2 = .ok (.iload_n 3, 1) := by decide +kernel
theorem dX12_find_3 : decode cX12_find 3 = .ok (.aload_n 0, 1) := by decide +kernel
theorem dX12_find_4 : decode cX12_find 4 = .ok (.getfield 77, 3) := by decide +kernel
theorem dX12_find_7 : decode cX12_find 7 = .ok (.if_icmp .ge 22, 3) := by decide +kernel
theorem dX12_find_10 : decode cX12_find 10 = .ok (.aload_n 0, 1) := by decide +kernel
theorem dX12_find_11 : decode cX12_find 11 = .ok (.getfield 66, 3) := by decide +kernel
theorem dX12_find_14 : decode cX12_find 14 = .ok (.iload_n 3, 1) := by decide +kernel
theorem dX12_find_15 : decode cX12_find 15 = .ok (.laload, 1) := by decide +kernel
theorem dX12_find_16 : decode cX12_find 16 = .ok (.lload_n 1, 1) := by decide +kernel
theorem dX12_find_17 : decode cX12_find 17 = .ok (.lcmp, 1) := by decide +kernel
theorem dX12_find_18 : decode cX12_find 18 = .ok (.ifCond .ne 5, 3) := by decide +kernel
theorem dX12_find_21 : decode cX12_find 21 = .ok (.iload_n 3, 1) := by decide +kernel
theorem dX12_find_22 : decode cX12_find 22 = .ok (.ireturn, 1) := by decide +kernel
theorem dX12_find_23 : decode cX12_find 23 = .ok (.iinc 3 1, 3) := by decide +kernel
theorem dX12_find_26 : decode cX12_find 26 = .ok (.goto (-24), 3) := by decide +kernel
theorem dX12_find_29 : decode cX12_find 29 = .ok (.iconst (-1), 1) := by decide +kernel
theorem dX12_find_30 : decode cX12_find 30 = .ok (.ireturn, 1) := by decide +kernel
theorem dX12_many_0 : decode cX12_many 0 = .ok (.aload_n 0, 1) := by decide +kernel
theorem dX12_many_1 : decode cX12_many 1 = .ok (.getfield 18, 3) := by decide +kernel
theorem dX12_many_4 : decode cX12_many 4 = .ok (.iconst 2, 1) := by decide +kernel
theorem dX12_many_5 : decode cX12_many 5 = .ok (.iload_n 1, 1) := by decide +kernel
theorem dX12_many_6 : decode cX12_many 6 = .ok (.imul, 1) := by decide +kernel
theorem dX12_many_7 : decode cX12_many 7 = .ok (.iload_n 2, 1) := by decide +kernel
theorem dX12_many_8 : decode cX12_many 8 = .ok (.iadd, 1) := by decide +kernel
theorem dX12_many_9 : decode cX12_many 9 = .ok (.iaload, 1) := by decide +kernel
theorem dX12_many_10 : decode cX12_many 10 = .ok (.ireturn, 1) := by decide +kernel
theorem dX12_thickAt_0 : decode cX12_thickAt 0 = .ok (.aload_n 0, 1) := by decide +kernel
theorem dX12_thickAt_1 : decode cX12_thickAt 1 = .ok (.getfield 21, 3) := by decide +kernel
theorem dX12_thickAt_4 : decode cX12_thickAt 4 = .ok (.bipush 6, 2) := by decide +kernel
theorem dX12_thickAt_6 : decode cX12_thickAt 6 = .ok (.iconst 2, 1) := by decide +kernel
theorem dX12_thickAt_7 : decode cX12_thickAt 7 = .ok (.iload_n 1, 1) := by decide +kernel
theorem dX12_thickAt_8 : decode cX12_thickAt 8 = .ok (.imul, 1) := by decide +kernel
theorem dX12_thickAt_9 : decode cX12_thickAt 9 = .ok (.iload_n 2, 1) := by decide +kernel
theorem dX12_thickAt_10 : decode cX12_thickAt 10 = .ok (.iadd, 1) := by decide +kernel
theorem dX12_thickAt_11 : decode cX12_thickAt 11 = .ok (.imul, 1) := by decide +kernel
theorem dX12_thickAt_12 : decode cX12_thickAt 12 = .ok (.iload_n 3, 1) := by decide +kernel
theorem dX12_thickAt_13 : decode cX12_thickAt 13 = .ok (.iadd, 1) := by decide +kernel
theorem dX12_thickAt_14 : decode cX12_thickAt 14 = .ok (.iaload, 1) := by decide +kernel
theorem dX12_thickAt_15 : decode cX12_thickAt 15 = .ok (.ireturn, 1) := by decide +kernel
theorem dX12_holds_0 : decode cX12_holds 0 = .ok (.aload_n 0, 1) := by decide +kernel
theorem dX12_holds_1 : decode cX12_holds 1 = .ok (.getfield 30, 3) := by decide +kernel
theorem dX12_holds_4 : decode cX12_holds 4 = .ok (.iload_n 1, 1) := by decide +kernel
theorem dX12_holds_5 : decode cX12_holds 5 = .ok (.iaload, 1) := by decide +kernel
theorem dX12_holds_6 : decode cX12_holds 6 = .ok (.aload_n 0, 1) := by decide +kernel
theorem dX12_holds_7 : decode cX12_holds 7 = .ok (.iload_n 2, 1) := by decide +kernel
theorem dX12_holds_8 : decode cX12_holds 8 = .ok (.iload_n 3, 1) := by decide +kernel
theorem dX12_holds_9 : decode cX12_holds 9 = .ok (.invokevirtual 81, 3) := by decide +kernel
theorem dX12_holds_12 : decode cX12_holds 12 = .ok (.if_icmp .ge 12, 3) := by decide +kernel
theorem dX12_holds_15 : decode cX12_holds 15 = .ok (.aload_n 0, 1) := by decide +kernel
theorem dX12_holds_16 : decode cX12_holds 16 = .ok (.getfield 30, 3) := by decide +kernel
theorem dX12_holds_19 : decode cX12_holds 19 = .ok (.iload_n 1, 1) := by decide +kernel
theorem dX12_holds_20 : decode cX12_holds 20 = .ok (.iaload, 1) := by decide +kernel
theorem dX12_holds_21 : decode cX12_holds 21 = .ok (.goto 9, 3) := by decide +kernel
theorem dX12_holds_24 : decode cX12_holds 24 = .ok (.aload_n 0, 1) := by decide +kernel
theorem dX12_holds_25 : decode cX12_holds 25 = .ok (.iload_n 2, 1) := by decide +kernel
theorem dX12_holds_26 : decode cX12_holds 26 = .ok (.iload_n 3, 1) := by decide +kernel
theorem dX12_holds_27 : decode cX12_holds 27 = .ok (.invokevirtual 81, 3) := by decide +kernel
theorem dX12_holds_30 : decode cX12_holds 30 = .ok (.ireturn, 1) := by decide +kernel
