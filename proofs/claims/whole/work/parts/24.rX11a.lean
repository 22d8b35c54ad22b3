theorem dX11_feed_0 : decode cX11_feed 0 = .ok (.aload_n 0, 1) := by decide +kernel
theorem dX11_feed_1 : decode cX11_feed 1 = .ok (.getfield 10, 3) := by decide +kernel
theorem dX11_feed_4 : decode cX11_feed 4 = .ok (.getfield 66, 3) := by decide +kernel
theorem dX11_feed_7 : decode cX11_feed 7 = .ok (.astore 6, 2) := by decide +kernel
theorem dX11_feed_9 : decode cX11_feed 9 = .ok (.aload 6, 2) := by decide +kernel
theorem dX11_feed_11 : decode cX11_feed 11 = .ok (.bipush 20, 2) := by decide +kernel
theorem dX11_feed_13 : decode cX11_feed 13 = .ok (.invokevirtual 70, 3) := by decide +kernel
theorem dX11_feed_16 : decode cX11_feed 16 = .ok (.ifCond .ne 5, 3) := by decide +kernel
theorem dX11_feed_19 : decode cX11_feed 19 = .ok (.iconst (-1), 1) := by decide +kernel
theorem dX11_feed_20 : decode cX11_feed 20 = .ok (.ireturn, 1) := by decide +kernel
theorem dX11_feed_21 : decode cX11_feed 21 = .ok (.aload 6, 2) := by decide +kernel
theorem dX11_feed_23 : decode cX11_feed 23 = .ok (.iload_n 1, 1) := by decide +kernel
theorem dX11_feed_24 : decode cX11_feed 24 = .ok (.invokevirtual 76, 3) := by decide +kernel
theorem dX11_feed_27 : decode cX11_feed 27 = .ok (.aload 6, 2) := by decide +kernel
theorem dX11_feed_29 : decode cX11_feed 29 = .ok (.iload_n 2, 1) := by decide +kernel
theorem dX11_feed_30 : decode cX11_feed 30 = .ok (.invokevirtual 76, 3) := by decide +kernel
theorem dX11_feed_33 : decode cX11_feed 33 = .ok (.aload 6, 2) := by decide +kernel
theorem dX11_feed_35 : decode cX11_feed 35 = .ok (.iload_n 3, 1) := by decide +kernel
theorem dX11_feed_36 : decode cX11_feed 36 = .ok (.invokevirtual 76, 3) := by decide +kernel
theorem dX11_feed_39 : decode cX11_feed 39 = .ok (.aload 6, 2) := by decide +kernel
theorem dX11_feed_41 : decode cX11_feed 41 = .ok (.iload 4, 2) := by decide +kernel
theorem dX11_feed_43 : decode cX11_feed 43 = .ok (.invokevirtual 76, 3) := by decide +kernel
theorem dX11_feed_46 : decode cX11_feed 46 = .ok (.aload 6, 2) := by decide +kernel
theorem dX11_feed_48 : decode cX11_feed 48 = .ok (.iload 5, 2) := by decide +kernel
theorem dX11_feed_50 : decode cX11_feed 50 = .ok (.invokevirtual 76, 3) := by decide +kernel
theorem dX11_feed_53 : decode cX11_feed 53 = .ok (.aload 6, 2) := by decide +kernel
theorem dX11_feed_55 : decode cX11_feed 55 = .ok (.getfield 80, 3) := by decide +kernel
theorem dX11_feed_58 : decode cX11_feed 58 = .ok (.ireturn, 1) := by decide +kernel
theorem dX11_kitchen_0 : decode cX11_kitchen 0 = .ok (.iload_n 1, 1) := by decide +kernel
theorem dX11_kitchen_1 : decode cX11_kitchen 1 = .ok (.ifCond .lt 17, 3) := by decide +kernel
theorem dX11_kitchen_4 : decode cX11_kitchen 4 = .ok (.iload_n 1, 1) := by decide +kernel
theorem dX11_kitchen_5 : decode cX11_kitchen 5 = .ok (.aload_n 0, 1) := by decide +kernel
theorem dX11_kitchen_6 : decode cX11_kitchen 6 = .ok (.getfield 10, 3) := by decide +kernel
theorem dX11_kitchen_9 : decode cX11_kitchen 9 = .ok (.getfield 66, 3) := by decide +kernel
theorem dX11_kitchen_12 : decode cX11_kitchen 12 = .ok (.getfield 80, 3) := by decide +kernel
theorem dX11_kitchen_15 : decode cX11_kitchen 15 = .ok (.if_icmp .le 9, 3) := by decide +kernel
theorem dX11_kitchen_18 : decode cX11_kitchen 18 = .ok (.aload_n 0, 1) := by decide +kernel
theorem dX11_kitchen_19 : decode cX11_kitchen 19 = .ok (.iconst 2, 1) := by decide +kernel
theorem dX11_kitchen_20 : decode cX11_kitchen 20 = .ok (.invokevirtual 83, 3) := by decide +kernel
theorem dX11_kitchen_23 : decode cX11_kitchen 23 = .ok (.ireturn, 1) := by decide +kernel
theorem dX11_kitchen_24 : decode cX11_kitchen 24 = .ok (.aload_n 0, 1) := by decide +kernel
theorem dX11_kitchen_25 : decode cX11_kitchen 25 = .ok (.getfield 10, 3) := by decide +kernel
theorem dX11_kitchen_28 : decode cX11_kitchen 28 = .ok (.iload_n 1, 1) := by decide +kernel
theorem dX11_kitchen_29 : decode cX11_kitchen 29 = .ok (.invokevirtual 87, 3) := by decide +kernel
theorem dX11_kitchen_32 : decode cX11_kitchen 32 = .ok (.istore_n 2, 1) := by decide +kernel
theorem dX11_kitchen_33 : decode cX11_kitchen 33 = .ok (.aload_n 0, 1) := by decide +kernel
theorem dX11_kitchen_34 : decode cX11_kitchen 34 = .ok (.getfield 10, 3) := by decide +kernel
theorem dX11_kitchen_37 : decode cX11_kitchen 37 = .ok (.getfield 66, 3) := by decide +kernel
theorem dX11_kitchen_40 : decode cX11_kitchen 40 = .ok (.iconst 0, 1) := by decide +kernel
theorem dX11_kitchen_41 : decode cX11_kitchen 41 = .ok (.putfield 80, 3) := by decide +kernel
theorem dX11_kitchen_44 : decode cX11_kitchen 44 = .ok (.iload_n 2, 1) := by decide +kernel
theorem dX11_kitchen_45 : decode cX11_kitchen 45 = .ok (.ifCond .ne 9, 3) := by decide +kernel
theorem dX11_kitchen_48 : decode cX11_kitchen 48 = .ok (.aload_n 0, 1) := by decide +kernel
theorem dX11_kitchen_49 : decode cX11_kitchen 49 = .ok (.iconst 4, 1) := by decide +kernel
theorem dX11_kitchen_50 : decode cX11_kitchen 50 = .ok (.invokevirtual 83, 3) := by decide +kernel
theorem dX11_kitchen_53 : decode cX11_kitchen 53 = .ok (.ireturn, 1) := by decide +kernel
theorem dX11_kitchen_54 : decode cX11_kitchen 54 = .ok (.aload_n 0, 1) := by decide +kernel
theorem dX11_kitchen_55 : decode cX11_kitchen 55 = .ok (.getfield 58, 3) := by decide +kernel
theorem dX11_kitchen_58 : decode cX11_kitchen 58 = .ok (.astore_n 3, 1) := by decide +kernel
theorem dX11_kitchen_59 : decode cX11_kitchen 59 = .ok (.aload_n 0, 1) := by decide +kernel
theorem dX11_kitchen_60 : decode cX11_kitchen 60 = .ok (.aload_n 0, 1) := by decide +kernel
theorem dX11_kitchen_61 : decode cX11_kitchen 61 = .ok (.getfield 10, 3) := by decide +kernel
theorem dX11_kitchen_64 : decode cX11_kitchen 64 = .ok (.getfield 90, 3) := by decide +kernel
theorem dX11_kitchen_67 : decode cX11_kitchen 67 = .ok (.putfield 58, 3) := by decide +kernel
theorem dX11_kitchen_70 : decode cX11_kitchen 70 = .ok (.aload_n 0, 1) := by decide +kernel
theorem dX11_kitchen_71 : decode cX11_kitchen 71 = .ok (.getfield 10, 3) := by decide +kernel
theorem dX11_kitchen_74 : decode cX11_kitchen 74 = .ok (.aload_n 3, 1) := by decide +kernel
theorem dX11_kitchen_75 : decode cX11_kitchen 75 = .ok (.putfield 90, 3) := by decide +kernel
theorem dX11_kitchen_78 : decode cX11_kitchen 78 = .ok (.aload_n 0, 1) := by decide +kernel
theorem dX11_kitchen_79 : decode cX11_kitchen 79 = .ok (.getfield 19, 3) := by decide +kernel
theorem dX11_kitchen_82 : decode cX11_kitchen 82 = .ok (.aload_n 0, 1) := by decide +kernel
theorem dX11_kitchen_83 : decode cX11_kitchen 83 = .ok (.getfield 58, 3) := by decide +kernel
theorem dX11_kitchen_86 : decode cX11_kitchen 86 = .ok (.invokevirtual 93, 3) := by decide +kernel
theorem dX11_kitchen_89 : decode cX11_kitchen 89 = .ok (.aload_n 0, 1) := by decide +kernel
theorem dX11_kitchen_90 : decode cX11_kitchen 90 = .ok (.getfield 26, 3) := by decide +kernel
theorem dX11_kitchen_93 : decode cX11_kitchen 93 = .ok (.invokevirtual 97, 3) := by decide +kernel
theorem dX11_kitchen_96 : decode cX11_kitchen 96 = .ok (.aload_n 0, 1) := by decide +kernel
theorem dX11_kitchen_97 : decode cX11_kitchen 97 = .ok (.iconst 0, 1) := by decide +kernel
theorem dX11_kitchen_98 : decode cX11_kitchen 98 = .ok (.putfield 62, 3) := by decide +kernel
theorem dX11_kitchen_101 : decode cX11_kitchen 101 = .ok (.aload_n 0, 1) := by decide +kernel
theorem dX11_kitchen_102 : decode cX11_kitchen 102 = .ok (.getfield 58, 3) := by decide +kernel
theorem dX11_kitchen_105 : decode cX11_kitchen 105 = .ok (.getfield 100, 3) := by decide +kernel
theorem dX11_kitchen_108 : decode cX11_kitchen 108 = .ok (.ireturn, 1) := by decide +kernel
theorem dX11_fault_0 : decode cX11_fault 0 = .ok (.aload_n 0, 1) := by decide +kernel
theorem dX11_fault_1 : decode cX11_fault 1 = .ok (.getfield 10, 3) := by decide +kernel
theorem dX11_fault_4 : decode cX11_fault 4 = .ok (.getfield 103, 3) := by decide +kernel
theorem dX11_fault_7 : decode cX11_fault 7 = .ok (.ireturn, 1) := by decide +kernel
theorem dX11_where_0 : decode cX11_where 0 = .ok (.aload_n 0, 1) := by decide +kernel
theorem dX11_where_1 : decode cX11_where 1 = .ok (.getfield 62, 3) := by decide +kernel
theorem dX11_where_4 : decode cX11_where 4 = .ok (.iconst 4, 1) := by decide +kernel
theorem dX11_where_5 : decode cX11_where 5 = .ok (.if_icmp .ne 13, 3) := by decide +kernel
theorem dX11_where_8 : decode cX11_where 8 = .ok (.aload_n 0, 1) := by decide +kernel
theorem dX11_where_9 : decode cX11_where 9 = .ok (.getfield 10, 3) := by decide +kernel
theorem dX11_where_12 : decode cX11_where 12 = .ok (.getfield 106, 3) := by decide +kernel
theorem dX11_where_15 : decode cX11_where 15 = .ok (.goto 4, 3) := by decide +kernel
theorem dX11_where_18 : decode cX11_where 18 = .ok (.iconst (-1), 1) := by decide +kernel
theorem dX11_where_19 : decode cX11_where 19 = .ok (.ireturn, 1) := by decide +kernel
theorem dX11_bone_0 : decode cX11_bone 0 = .ok (.aload_n 0, 1) := by decide +kernel
theorem dX11_bone_1 : decode cX11_bone 1 = .ok (.aload_n 0, 1) := by decide +kernel
theorem dX11_bone_2 : decode cX11_bone 2 = .ok (.iload_n 1, 1) := by decide +kernel
theorem dX11_bone_3 : decode cX11_bone 3 = .ok (.invokevirtual 109, 3) := by decide +kernel
theorem dX11_bone_6 : decode cX11_bone 6 = .ok (.ifCond .eq 16, 3) := by decide +kernel
theorem dX11_bone_9 : decode cX11_bone 9 = .ok (.iload_n 2, 1) := by decide +kernel
theorem dX11_bone_10 : decode cX11_bone 10 = .ok (.ifCond .lt 12, 3) := by decide +kernel
theorem dX11_bone_13 : decode cX11_bone 13 = .ok (.iload_n 2, 1) := by decide +kernel
theorem dX11_bone_14 : decode cX11_bone 14 = .ok (.iconst 4, 1) := by decide +kernel
theorem dX11_bone_15 : decode cX11_bone 15 = .ok (.if_icmp .gt 7, 3) := by decide +kernel
theorem dX11_bone_18 : decode cX11_bone 18 = .ok (.iconst 0, 1) := by decide +kernel
theorem dX11_bone_19 : decode cX11_bone 19 = .ok (.goto 4, 3) := by decide +kernel
theorem dX11_bone_22 : decode cX11_bone 22 = .ok (.iconst 1, 1) := by decide +kernel
theorem dX11_bone_23 : decode cX11_bone 23 = .ok (.putfield 62, 3) := by decide +kernel
theorem dX11_bone_26 : decode cX11_bone 26 = .ok (.aload_n 0, 1) := by decide +kernel
theorem dX11_bone_27 : decode cX11_bone 27 = .ok (.getfield 62, 3) := by decide +kernel
theorem dX11_bone_30 : decode cX11_bone 30 = .ok (.ifCond .eq 5, 3) := by decide +kernel
theorem dX11_bone_33 : decode cX11_bone 33 = .ok (.iconst (-1), 1) := by decide +kernel
theorem dX11_bone_34 : decode cX11_bone 34 = .ok (.ireturn, 1) := by decide +kernel
theorem dX11_bone_35 : decode cX11_bone 35 = .ok (.iload_n 2, 1) := by decide +kernel
theorem dX11_bone_36 : decode cX11_bone 36 = .ok (.tableswitch 82 0 3 #[32, 42, 52, 67], 32) := by decide +kernel
theorem dX11_bone_68 : decode cX11_bone 68 = .ok (.aload_n 0, 1) := by decide +kernel
theorem dX11_bone_69 : decode cX11_bone 69 = .ok (.getfield 19, 3) := by decide +kernel
theorem dX11_bone_72 : decode cX11_bone 72 = .ok (.getfield 112, 3) := by decide +kernel
theorem dX11_bone_75 : decode cX11_bone 75 = .ok (.iload_n 1, 1) := by decide +kernel
theorem dX11_bone_76 : decode cX11_bone 76 = .ok (.iaload, 1) := by decide +kernel
theorem dX11_bone_77 : decode cX11_bone 77 = .ok (.ireturn, 1) := by decide +kernel
theorem dX11_bone_78 : decode cX11_bone 78 = .ok (.aload_n 0, 1) := by decide +kernel
theorem dX11_bone_79 : decode cX11_bone 79 = .ok (.getfield 19, 3) := by decide +kernel
theorem dX11_bone_82 : decode cX11_bone 82 = .ok (.getfield 115, 3) := by decide +kernel
theorem dX11_bone_85 : decode cX11_bone 85 = .ok (.iload_n 1, 1) := by decide +kernel
theorem dX11_bone_86 : decode cX11_bone 86 = .ok (.iaload, 1) := by decide +kernel
theorem dX11_bone_87 : decode cX11_bone 87 = .ok (.ireturn, 1) := by decide +kernel
theorem dX11_bone_88 : decode cX11_bone 88 = .ok (.aload_n 0, 1) := by decide +kernel
theorem dX11_bone_89 : decode cX11_bone 89 = .ok (.getfield 58, 3) := by decide +kernel
theorem dX11_bone_92 : decode cX11_bone 92 = .ok (.getfield 118, 3) := by decide +kernel
theorem dX11_bone_95 : decode cX11_bone 95 = .ok (.iload_n 1, 1) := by decide +kernel
theorem dX11_bone_96 : decode cX11_bone 96 = .ok (.aaload, 1) := by decide +kernel
theorem dX11_bone_97 : decode cX11_bone 97 = .ok (.getfield 122, 3) := by decide +kernel
theorem dX11_bone_100 : decode cX11_bone 100 = .ok (.iconst 0, 1) := by decide +kernel
theorem dX11_bone_101 : decode cX11_bone 101 = .ok (.iaload, 1) := by decide +kernel
theorem dX11_bone_102 : decode cX11_bone 102 = .ok (.ireturn, 1) := by decide +kernel
theorem dX11_bone_103 : decode cX11_bone 103 = .ok (.aload_n 0, 1) := by decide +kernel
theorem dX11_bone_104 : decode cX11_bone 104 = .ok (.getfield 58, 3) := by decide +kernel
theorem dX11_bone_107 : decode cX11_bone 107 = .ok (.getfield 118, 3) := by decide +kernel
theorem dX11_bone_110 : decode cX11_bone 110 = .ok (.iload_n 1, 1) := by decide +kernel
theorem dX11_bone_111 : decode cX11_bone 111 = .ok (.aaload, 1) := by decide +kernel
theorem dX11_bone_112 : decode cX11_bone 112 = .ok (.getfield 122, 3) := by decide +kernel
theorem dX11_bone_115 : decode cX11_bone 115 = .ok (.iconst 1, 1) := by decide +kernel
theorem dX11_bone_116 : decode cX11_bone 116 = .ok (.iaload, 1) := by decide +kernel
theorem dX11_bone_117 : decode cX11_bone 117 = .ok (.ireturn, 1) := by decide +kernel
theorem dX11_bone_118 : decode cX11_bone 118 = .ok (.aload_n 0, 1) := by decide +kernel
theorem dX11_bone_119 : decode cX11_bone 119 = .ok (.getfield 19, 3) := by decide +kernel
theorem dX11_bone_122 : decode cX11_bone 122 = .ok (.getfield 127, 3) := by decide +kernel
theorem dX11_bone_125 : decode cX11_bone 125 = .ok (.iload_n 1, 1) := by decide +kernel
theorem dX11_bone_126 : decode cX11_bone 126 = .ok (.baload, 1) := by decide +kernel
theorem dX11_bone_127 : decode cX11_bone 127 = .ok (.ifCond .eq 7, 3) := by decide +kernel
theorem dX11_bone_130 : decode cX11_bone 130 = .ok (.iconst 1, 1) := by decide +kernel
theorem dX11_bone_131 : decode cX11_bone 131 = .ok (.goto 4, 3) := by decide +kernel
theorem dX11_bone_134 : decode cX11_bone 134 = .ok (.iconst 0, 1) := by decide +kernel
theorem dX11_bone_135 : decode cX11_bone 135 = .ok (.ireturn, 1) := by decide +kernel
theorem dX11_thick_0 : decode cX11_thick 0 = .ok (.aload_n 0, 1) := by decide +kernel
theorem dX11_thick_1 : decode cX11_thick 1 = .ok (.aload_n 0, 1) := by decide +kernel
theorem dX11_thick_2 : decode cX11_thick 2 = .ok (.iload_n 1, 1) := by decide +kernel
theorem dX11_thick_3 : decode cX11_thick 3 = .ok (.iload_n 2, 1) := by decide +kernel
theorem dX11_thick_4 : decode cX11_thick 4 = .ok (.iload_n 3, 1) := by decide +kernel
theorem dX11_thick_5 : decode cX11_thick 5 = .ok (.invokevirtual 131, 3) := by decide +kernel
theorem dX11_thick_8 : decode cX11_thick 8 = .ok (.ifCond .eq 7, 3) := by decide +kernel
theorem dX11_thick_11 : decode cX11_thick 11 = .ok (.iconst 0, 1) := by decide +kernel
theorem dX11_thick_12 : decode cX11_thick 12 = .ok (.goto 4, 3) := by decide +kernel
theorem dX11_thick_15 : decode cX11_thick 15 = .ok (.iconst 1, 1) := by decide +kernel
theorem dX11_thick_16 : decode cX11_thick 16 = .ok (.putfield 62, 3) := by decide +kernel
theorem dX11_thick_19 : decode cX11_thick 19 = .ok (.aload_n 0, 1) := by decide +kernel
theorem dX11_thick_20 : decode cX11_thick 20 = .ok (.getfield 62, 3) := by decide +kernel
theorem dX11_thick_23 : decode cX11_thick 23 = .ok (.ifCond .ne 20, 3) := by decide +kernel
theorem dX11_thick_26 : decode cX11_thick 26 = .ok (.aload_n 0, 1) := by decide +kernel
theorem dX11_thick_27 : decode cX11_thick 27 = .ok (.getfield 58, 3) := by decide +kernel
theorem dX11_thick_30 : decode cX11_thick 30 = .ok (.getfield 118, 3) := by decide +kernel
theorem dX11_thick_33 : decode cX11_thick 33 = .ok (.iload_n 1, 1) := by decide +kernel
theorem dX11_thick_34 : decode cX11_thick 34 = .ok (.aaload, 1) := by decide +kernel
theorem dX11_thick_35 : decode cX11_thick 35 = .ok (.iload_n 2, 1) := by decide +kernel
theorem dX11_thick_36 : decode cX11_thick 36 = .ok (.iload_n 3, 1) := by decide +kernel
theorem dX11_thick_37 : decode cX11_thick 37 = .ok (.invokevirtual 135, 3) := by decide +kernel
theorem dX11_thick_40 : decode cX11_thick 40 = .ok (.goto 4, 3) := by decide +kernel
theorem dX11_thick_43 : decode cX11_thick 43 = .ok (.iconst (-1), 1) := by decide +kernel
theorem dX11_thick_44 : decode cX11_thick 44 = .ok (.ireturn, 1) := by decide +kernel
theorem dX11_person_0 : decode cX11_person 0 = .ok (.aload_n 0, 1) := by decide +kernel
theorem dX11_person_1 : decode cX11_person 1 = .ok (.aload_n 0, 1) := by decide +kernel
theorem dX11_person_2 : decode cX11_person 2 = .ok (.iload_n 1, 1) := by decide +kernel
theorem dX11_person_3 : decode cX11_person 3 = .ok (.invokevirtual 139, 3) := by decide +kernel
theorem dX11_person_6 : decode cX11_person 6 = .ok (.ifCond .eq 17, 3) := by decide +kernel
theorem dX11_person_9 : decode cX11_person 9 = .ok (.iload_n 2, 1) := by decide +kernel
theorem dX11_person_10 : decode cX11_person 10 = .ok (.ifCond .lt 13, 3) := by decide +kernel
theorem dX11_person_13 : decode cX11_person 13 = .ok (.iload_n 2, 1) := by decide +kernel
theorem dX11_person_14 : decode cX11_person 14 = .ok (.bipush 6, 2) := by decide +kernel
theorem dX11_person_16 : decode cX11_person 16 = .ok (.if_icmp .gt 7, 3) := by decide +kernel
theorem dX11_person_19 : decode cX11_person 19 = .ok (.iconst 0, 1) := by decide +kernel
theorem dX11_person_20 : decode cX11_person 20 = .ok (.goto 4, 3) := by decide +kernel
theorem dX11_person_23 : decode cX11_person 23 = .ok (.iconst 1, 1) := by decide +kernel
theorem dX11_person_24 : decode cX11_person 24 = .ok (.putfield 62, 3) := by decide +kernel
theorem dX11_person_27 : decode cX11_person 27 = .ok (.aload_n 0, 1) := by decide +kernel
theorem dX11_person_28 : decode cX11_person 28 = .ok (.getfield 62, 3) := by decide +kernel
theorem dX11_person_31 : decode cX11_person 31 = .ok (.ifCond .eq 5, 3) := by decide +kernel
theorem dX11_person_34 : decode cX11_person 34 = .ok (.iconst (-1), 1) := by decide +kernel
theorem dX11_person_35 : decode cX11_person 35 = .ok (.ireturn, 1) := by decide +kernel
theorem dX11_person_36 : decode cX11_person 36 = .ok (.aload_n 0, 1) := by decide +kernel
theorem dX11_person_37 : decode cX11_person 37 = .ok (.getfield 58, 3) := by decide +kernel
theorem dX11_person_40 : decode cX11_person 40 = .ok (.getfield 142, 3) := by decide +kernel
theorem dX11_person_43 : decode cX11_person 43 = .ok (.iload_n 1, 1) := by decide +kernel
theorem dX11_person_44 : decode cX11_person 44 = .ok (.aaload, 1) := by decide +kernel
theorem dX11_person_45 : decode cX11_person 45 = .ok (.astore_n 3, 1) := by decide +kernel
theorem dX11_person_46 : decode cX11_person 46 = .ok (.iload_n 2, 1) := by decide +kernel
theorem dX11_person_47 : decode cX11_person 47 = .ok (.tableswitch 72 0 5 #[37, 42, 47, 52, 57, 67], 37) := by decide +kernel
theorem dX11_person_84 : decode cX11_person 84 = .ok (.aload_n 3, 1) := by decide +kernel
theorem dX11_person_85 : decode cX11_person 85 = .ok (.getfield 146, 3) := by decide +kernel
theorem dX11_person_88 : decode cX11_person 88 = .ok (.ireturn, 1) := by decide +kernel
theorem dX11_person_89 : decode cX11_person 89 = .ok (.aload_n 3, 1) := by decide +kernel
theorem dX11_person_90 : decode cX11_person 90 = .ok (.getfield 151, 3) := by decide +kernel
theorem dX11_person_93 : decode cX11_person 93 = .ok (.ireturn, 1) := by decide +kernel
theorem dX11_person_94 : decode cX11_person 94 = .ok (.aload_n 3, 1) := by decide +kernel
theorem dX11_person_95 : decode cX11_person 95 = .ok (.getfield 154, 3) := by decide +kernel
theorem dX11_person_98 : decode cX11_person 98 = .ok (.ireturn, 1) := by decide +kernel
theorem dX11_person_99 : decode cX11_person 99 = .ok (.aload_n 3, 1) := by decide +kernel
theorem dX11_person_100 : decode cX11_person 100 = .ok (.getfield 157, 3) := by decide +kernel
theorem dX11_person_103 : decode cX11_person 103 = .ok (.ireturn, 1) := by decide +kernel
theorem dX11_person_104 : decode cX11_person 104 = .ok (.aload_n 3, 1) := by decide +kernel
theorem dX11_person_105 : decode cX11_person 105 = .ok (.getfield 160, 3) := by decide +kernel
theorem dX11_person_108 : decode cX11_person 108 = .ok (.aload_n 3, 1) := by decide +kernel
theorem dX11_person_109 : decode cX11_person 109 = .ok (.getfield 163, 3) := by decide +kernel
theorem dX11_person_112 : decode cX11_person 112 = .ok (.iadd, 1) := by decide +kernel
theorem dX11_person_113 : decode cX11_person 113 = .ok (.ireturn, 1) := by decide +kernel
theorem dX11_person_114 : decode cX11_person 114 = .ok (.aload_n 3, 1) := by decide +kernel
theorem dX11_person_115 : decode cX11_person 115 = .ok (.getfield 160, 3) := by decide +kernel
theorem dX11_person_118 : decode cX11_person 118 = .ok (.ireturn, 1) := by decide +kernel
theorem dX11_person_119 : decode cX11_person 119 = .ok (.aload_n 0, 1) := by decide +kernel
theorem dX11_person_120 : decode cX11_person 120 = .ok (.getfield 19, 3) := by decide +kernel
theorem dX11_person_123 : decode cX11_person 123 = .ok (.getfield 166, 3) := by decide +kernel
theorem dX11_person_126 : decode cX11_person 126 = .ok (.iload_n 1, 1) := by decide +kernel
theorem dX11_person_127 : decode cX11_person 127 = .ok (.iaload, 1) := by decide +kernel
theorem dX11_person_128 : decode cX11_person 128 = .ok (.ireturn, 1) := by decide +kernel
theorem dX11_strength_0 : decode cX11_strength 0 = .ok (.aload_n 0, 1) := by decide +kernel
theorem dX11_strength_1 : decode cX11_strength 1 = .ok (.aload_n 0, 1) := by decide +kernel
theorem dX11_strength_2 : decode cX11_strength 2 = .ok (.iload_n 1, 1) := by decide +kernel
theorem dX11_strength_3 : decode cX11_strength 3 = .ok (.iload_n 2, 1) := by decide +kernel
theorem dX11_strength_4 : decode cX11_strength 4 = .ok (.iload_n 3, 1) := by decide +kernel
theorem dX11_strength_5 : decode cX11_strength 5 = .ok (.invokevirtual 131, 3) := by decide +kernel
theorem dX11_strength_8 : decode cX11_strength 8 = .ok (.ifCond .eq 16, 3) := by decide +kernel
theorem dX11_strength_11 : decode cX11_strength 11 = .ok (.aload_n 0, 1) := by decide +kernel
theorem dX11_strength_12 : decode cX11_strength 12 = .ok (.iload 4, 2) := by decide +kernel
theorem dX11_strength_14 : decode cX11_strength 14 = .ok (.invokevirtual 139, 3) := by decide +kernel
theorem dX11_strength_17 : decode cX11_strength 17 = .ok (.ifCond .eq 7, 3) := by decide +kernel
theorem dX11_strength_20 : decode cX11_strength 20 = .ok (.iconst 0, 1) := by decide +kernel
theorem dX11_strength_21 : decode cX11_strength 21 = .ok (.goto 4, 3) := by decide +kernel
theorem dX11_strength_24 : decode cX11_strength 24 = .ok (.iconst 1, 1) := by decide +kernel
theorem dX11_strength_25 : decode cX11_strength 25 = .ok (.putfield 62, 3) := by decide +kernel
theorem dX11_strength_28 : decode cX11_strength 28 = .ok (.aload_n 0, 1) := by decide +kernel
theorem dX11_strength_29 : decode cX11_strength 29 = .ok (.getfield 62, 3) := by decide +kernel
theorem dX11_strength_32 : decode cX11_strength 32 = .ok (.ifCond .eq 5, 3) := by decide +kernel
theorem dX11_strength_35 : decode cX11_strength 35 = .ok (.iconst (-1), 1) := by decide +kernel
theorem dX11_strength_36 : decode cX11_strength 36 = .ok (.ireturn, 1) := by decide +kernel
theorem dX11_strength_37 : decode cX11_strength 37 = .ok (.aload_n 0, 1) := by decide +kernel
theorem dX11_strength_38 : decode cX11_strength 38 = .ok (.iload_n 1, 1) := by decide +kernel
theorem dX11_strength_39 : decode cX11_strength 39 = .ok (.invokevirtual 168, 3) := by decide +kernel
theorem dX11_strength_42 : decode cX11_strength 42 = .ok (.aload_n 0, 1) := by decide +kernel
theorem dX11_strength_43 : decode cX11_strength 43 = .ok (.getfield 33, 3) := by decide +kernel
theorem dX11_strength_46 : decode cX11_strength 46 = .ok (.getfield 171, 3) := by decide +kernel
theorem dX11_strength_49 : decode cX11_strength 49 = .ok (.astore 5, 2) := by decide +kernel
theorem dX11_strength_51 : decode cX11_strength 51 = .ok (.aload_n 0, 1) := by decide +kernel
theorem dX11_strength_52 : decode cX11_strength 52 = .ok (.getfield 33, 3) := by decide +kernel
theorem dX11_strength_55 : decode cX11_strength 55 = .ok (.aload 5, 2) := by decide +kernel
theorem dX11_strength_57 : decode cX11_strength 57 = .ok (.aload_n 0, 1) := by decide +kernel
theorem dX11_strength_58 : decode cX11_strength 58 = .ok (.getfield 58, 3) := by decide +kernel
theorem dX11_strength_61 : decode cX11_strength 61 = .ok (.getfield 118, 3) := by decide +kernel
theorem dX11_strength_64 : decode cX11_strength 64 = .ok (.iload_n 1, 1) := by decide +kernel
theorem dX11_strength_65 : decode cX11_strength 65 = .ok (.aaload, 1) := by decide +kernel
theorem dX11_strength_66 : decode cX11_strength 66 = .ok (.iload_n 2, 1) := by decide +kernel
theorem dX11_strength_67 : decode cX11_strength 67 = .ok (.aload_n 0, 1) := by decide +kernel
theorem dX11_strength_68 : decode cX11_strength 68 = .ok (.getfield 58, 3) := by decide +kernel
theorem dX11_strength_71 : decode cX11_strength 71 = .ok (.getfield 142, 3) := by decide +kernel
theorem dX11_strength_74 : decode cX11_strength 74 = .ok (.iload 4, 2) := by decide +kernel
theorem dX11_strength_76 : decode cX11_strength 76 = .ok (.aaload, 1) := by decide +kernel
theorem dX11_strength_77 : decode cX11_strength 77 = .ok (.iconst 1, 1) := by decide +kernel
theorem dX11_strength_78 : decode cX11_strength 78 = .ok (.iconst 0, 1) := by decide +kernel
theorem dX11_strength_79 : decode cX11_strength 79 = .ok (.invokevirtual 175, 3) := by decide +kernel
theorem dX11_strength_82 : decode cX11_strength 82 = .ok (.aload 5, 2) := by decide +kernel
theorem dX11_strength_84 : decode cX11_strength 84 = .ok (.getfield 179, 3) := by decide +kernel
theorem dX11_strength_87 : decode cX11_strength 87 = .ok (.iload_n 3, 1) := by decide +kernel
theorem dX11_strength_88 : decode cX11_strength 88 = .ok (.iaload, 1) := by decide +kernel
theorem dX11_strength_89 : decode cX11_strength 89 = .ok (.ireturn, 1) := by decide +kernel
theorem dX11_strain_0 : decode cX11_strain 0 = .ok (.aload_n 0, 1) := by decide +kernel
theorem dX11_strain_1 : decode cX11_strain 1 = .ok (.aload_n 0, 1) := by decide +kernel
theorem dX11_strain_2 : decode cX11_strain 2 = .ok (.iload_n 1, 1) := by decide +kernel
theorem dX11_strain_3 : decode cX11_strain 3 = .ok (.iload_n 2, 1) := by decide +kernel
theorem dX11_strain_4 : decode cX11_strain 4 = .ok (.iload_n 3, 1) := by decide +kernel
theorem dX11_strain_5 : decode cX11_strain 5 = .ok (.invokevirtual 131, 3) := by decide +kernel
theorem dX11_strain_8 : decode cX11_strain 8 = .ok (.ifCond .eq 21, 3) := by decide +kernel
theorem dX11_strain_11 : decode cX11_strain 11 = .ok (.aload_n 0, 1) := by decide +kernel
theorem dX11_strain_12 : decode cX11_strain 12 = .ok (.iload_n 1, 1) := by decide +kernel
theorem dX11_strain_13 : decode cX11_strain 13 = .ok (.iload 4, 2) := by decide +kernel
theorem dX11_strain_15 : decode cX11_strain 15 = .ok (.iload 5, 2) := by decide +kernel
theorem dX11_strain_17 : decode cX11_strain 17 = .ok (.iload 6, 2) := by decide +kernel
theorem dX11_strain_19 : decode cX11_strain 19 = .ok (.iload 7, 2) := by decide +kernel
theorem dX11_strain_21 : decode cX11_strain 21 = .ok (.iload 8, 2) := by decide +kernel
theorem dX11_strain_23 : decode cX11_strain 23 = .ok (.invokevirtual 184, 3) := by decide +kernel
theorem dX11_strain_26 : decode cX11_strain 26 = .ok (.goto 4, 3) := by decide +kernel
theorem dX11_strain_29 : decode cX11_strain 29 = .ok (.iconst 1, 1) := by decide +kernel
theorem dX11_strain_30 : decode cX11_strain 30 = .ok (.putfield 62, 3) := by decide +kernel
theorem dX11_strain_33 : decode cX11_strain 33 = .ok (.aload_n 0, 1) := by decide +kernel
theorem dX11_strain_34 : decode cX11_strain 34 = .ok (.getfield 62, 3) := by decide +kernel
theorem dX11_strain_37 : decode cX11_strain 37 = .ok (.ifCond .eq 5, 3) := by decide +kernel
theorem dX11_strain_40 : decode cX11_strain 40 = .ok (.iconst (-1), 1) := by decide +kernel
theorem dX11_strain_41 : decode cX11_strain 41 = .ok (.ireturn, 1) := by decide +kernel
theorem dX11_strain_42 : decode cX11_strain 42 = .ok (.aload_n 0, 1) := by decide +kernel
theorem dX11_strain_43 : decode cX11_strain 43 = .ok (.iload_n 1, 1) := by decide +kernel
theorem dX11_strain_44 : decode cX11_strain 44 = .ok (.iload 4, 2) := by decide +kernel
theorem dX11_strain_46 : decode cX11_strain 46 = .ok (.iload 5, 2) := by decide +kernel
theorem dX11_strain_48 : decode cX11_strain 48 = .ok (.iload 6, 2) := by decide +kernel
theorem dX11_strain_50 : decode cX11_strain 50 = .ok (.iload 7, 2) := by decide +kernel
theorem dX11_strain_52 : decode cX11_strain 52 = .ok (.iload 8, 2) := by decide +kernel
theorem dX11_strain_54 : decode cX11_strain 54 = .ok (.invokevirtual 188, 3) := by decide +kernel
theorem dX11_strain_57 : decode cX11_strain 57 = .ok (.iload_n 2, 1) := by decide +kernel
theorem dX11_strain_58 : decode cX11_strain 58 = .ok (.ifCond .ne 18, 3) := by decide +kernel
theorem dX11_strain_61 : decode cX11_strain 61 = .ok (.aload_n 0, 1) := by decide +kernel
theorem dX11_strain_62 : decode cX11_strain 62 = .ok (.getfield 33, 3) := by decide +kernel
theorem dX11_strain_65 : decode cX11_strain 65 = .ok (.getfield 171, 3) := by decide +kernel
theorem dX11_strain_68 : decode cX11_strain 68 = .ok (.getfield 192, 3) := by decide +kernel
theorem dX11_strain_71 : decode cX11_strain 71 = .ok (.iload_n 3, 1) := by decide +kernel
theorem dX11_strain_72 : decode cX11_strain 72 = .ok (.iaload, 1) := by decide +kernel
theorem dX11_strain_73 : decode cX11_strain 73 = .ok (.goto 15, 3) := by decide +kernel
theorem dX11_strain_76 : decode cX11_strain 76 = .ok (.aload_n 0, 1) := by decide +kernel
theorem dX11_strain_77 : decode cX11_strain 77 = .ok (.getfield 33, 3) := by decide +kernel
theorem dX11_strain_80 : decode cX11_strain 80 = .ok (.getfield 195, 3) := by decide +kernel
theorem dX11_strain_83 : decode cX11_strain 83 = .ok (.getfield 192, 3) := by decide +kernel
theorem dX11_strain_86 : decode cX11_strain 86 = .ok (.iload_n 3, 1) := by decide +kernel
theorem dX11_strain_87 : decode cX11_strain 87 = .ok (.iaload, 1) := by decide +kernel
theorem dX11_strain_88 : decode cX11_strain 88 = .ok (.ireturn, 1) := by decide +kernel
theorem dX11_pulled_0 : decode cX11_pulled 0 = .ok (.aload_n 0, 1) := by decide +kernel
theorem dX11_pulled_1 : decode cX11_pulled 1 = .ok (.aload_n 0, 1) := by decide +kernel
theorem dX11_pulled_2 : decode cX11_pulled 2 = .ok (.iload_n 1, 1) := by decide +kernel
theorem dX11_pulled_3 : decode cX11_pulled 3 = .ok (.iload_n 2, 1) := by decide +kernel
theorem dX11_pulled_4 : decode cX11_pulled 4 = .ok (.iload_n 3, 1) := by decide +kernel
theorem dX11_pulled_5 : decode cX11_pulled 5 = .ok (.iload 4, 2) := by decide +kernel
theorem dX11_pulled_7 : decode cX11_pulled 7 = .ok (.iload 5, 2) := by decide +kernel
theorem dX11_pulled_9 : decode cX11_pulled 9 = .ok (.iload 6, 2) := by decide +kernel
theorem dX11_pulled_11 : decode cX11_pulled 11 = .ok (.invokevirtual 184, 3) := by decide +kernel
theorem dX11_pulled_14 : decode cX11_pulled 14 = .ok (.putfield 62, 3) := by decide +kernel
theorem dX11_pulled_17 : decode cX11_pulled 17 = .ok (.aload_n 0, 1) := by decide +kernel
theorem dX11_pulled_18 : decode cX11_pulled 18 = .ok (.getfield 62, 3) := by decide +kernel
theorem dX11_pulled_21 : decode cX11_pulled 21 = .ok (.ifCond .eq 5, 3) := by decide +kernel
theorem dX11_pulled_24 : decode cX11_pulled 24 = .ok (.iconst (-1), 1) := by decide +kernel
theorem dX11_pulled_25 : decode cX11_pulled 25 = .ok (.ireturn, 1) := by decide +kernel
theorem dX11_pulled_26 : decode cX11_pulled 26 = .ok (.aload_n 0, 1) := by decide +kernel
theorem dX11_pulled_27 : decode cX11_pulled 27 = .ok (.iload_n 1, 1) := by decide +kernel
theorem dX11_pulled_28 : decode cX11_pulled 28 = .ok (.iload_n 2, 1) := by decide +kernel
theorem dX11_pulled_29 : decode cX11_pulled 29 = .ok (.iload_n 3, 1) := by decide +kernel
theorem dX11_pulled_30 : decode cX11_pulled 30 = .ok (.iload 4, 2) := by decide +kernel
theorem dX11_pulled_32 : decode cX11_pulled 32 = .ok (.iload 5, 2) := by decide +kernel
theorem dX11_pulled_34 : decode cX11_pulled 34 = .ok (.iload 6, 2) := by decide +kernel
theorem dX11_pulled_36 : decode cX11_pulled 36 = .ok (.invokevirtual 188, 3) := by decide +kernel
theorem dX11_pulled_39 : decode cX11_pulled 39 = .ok (.aload_n 0, 1) := by decide +kernel
theorem dX11_pulled_40 : decode cX11_pulled 40 = .ok (.getfield 33, 3) := by decide +kernel
theorem dX11_pulled_43 : decode cX11_pulled 43 = .ok (.iconst (-1), 1) := by decide +kernel
theorem dX11_pulled_44 : decode cX11_pulled 44 = .ok (.invokevirtual 198, 3) := by decide +kernel
theorem dX11_pulled_47 : decode cX11_pulled 47 = .ok (.ireturn, 1) := by decide +kernel
theorem dX11_breaksAt_0 : decode cX11_breaksAt 0 = .ok (.aload_n 0, 1) := by decide +kernel
theorem dX11_breaksAt_1 : decode cX11_breaksAt 1 = .ok (.aload_n 0, 1) := by decide +kernel
theorem dX11_breaksAt_2 : decode cX11_breaksAt 2 = .ok (.iload_n 1, 1) := by decide +kernel
theorem dX11_breaksAt_3 : decode cX11_breaksAt 3 = .ok (.iload_n 2, 1) := by decide +kernel
theorem dX11_breaksAt_4 : decode cX11_breaksAt 4 = .ok (.iload_n 3, 1) := by decide +kernel
theorem dX11_breaksAt_5 : decode cX11_breaksAt 5 = .ok (.iload 4, 2) := by decide +kernel
theorem dX11_breaksAt_7 : decode cX11_breaksAt 7 = .ok (.iload 5, 2) := by decide +kernel
theorem dX11_breaksAt_9 : decode cX11_breaksAt 9 = .ok (.iload 6, 2) := by decide +kernel
theorem dX11_breaksAt_11 : decode cX11_breaksAt 11 = .ok (.invokevirtual 184, 3) := by decide +kernel
theorem dX11_breaksAt_14 : decode cX11_breaksAt 14 = .ok (.putfield 62, 3) := by decide +kernel
theorem dX11_breaksAt_17 : decode cX11_breaksAt 17 = .ok (.aload_n 0, 1) := by decide +kernel
theorem dX11_breaksAt_18 : decode cX11_breaksAt 18 = .ok (.getfield 62, 3) := by decide +kernel
theorem dX11_breaksAt_21 : decode cX11_breaksAt 21 = .ok (.ifCond .eq 5, 3) := by decide +kernel
theorem dX11_breaksAt_24 : decode cX11_breaksAt 24 = .ok (.iconst (-1), 1) := by decide +kernel
theorem dX11_breaksAt_25 : decode cX11_breaksAt 25 = .ok (.ireturn, 1) := by decide +kernel
theorem dX11_breaksAt_26 : decode cX11_breaksAt 26 = .ok (.aload_n 0, 1) := by decide +kernel
theorem dX11_breaksAt_27 : decode cX11_breaksAt 27 = .ok (.iload_n 1, 1) := by decide +kernel
theorem dX11_breaksAt_28 : decode cX11_breaksAt 28 = .ok (.iload_n 2, 1) := by decide +kernel
theorem dX11_breaksAt_29 : decode cX11_breaksAt 29 = .ok (.iload_n 3, 1) := by decide +kernel
theorem dX11_breaksAt_30 : decode cX11_breaksAt 30 = .ok (.iload 4, 2) := by decide +kernel
theorem dX11_breaksAt_32 : decode cX11_breaksAt 32 = .ok (.iload 5, 2) := by decide +kernel
theorem dX11_breaksAt_34 : decode cX11_breaksAt 34 = .ok (.iload 6, 2) := by decide +kernel
theorem dX11_breaksAt_36 : decode cX11_breaksAt 36 = .ok (.invokevirtual 188, 3) := by decide +kernel
theorem dX11_breaksAt_39 : decode cX11_breaksAt 39 = .ok (.aload_n 0, 1) := by decide +kernel
theorem dX11_breaksAt_40 : decode cX11_breaksAt 40 = .ok (.getfield 33, 3) := by decide +kernel
theorem dX11_breaksAt_43 : decode cX11_breaksAt 43 = .ok (.invokevirtual 201, 3) := by decide +kernel
theorem dX11_breaksAt_46 : decode cX11_breaksAt 46 = .ok (.ireturn, 1) := by decide +kernel
theorem dX11_flawed_0 : decode cX11_flawed 0 = .ok (.aload_n 0, 1) := by decide +kernel
theorem dX11_flawed_1 : decode cX11_flawed 1 = .ok (.aload_n 0, 1) := by decide +kernel
theorem dX11_flawed_2 : decode cX11_flawed 2 = .ok (.iload_n 1, 1) := by decide +kernel
theorem dX11_flawed_3 : decode cX11_flawed 3 = .ok (.iload 7, 2) := by decide +kernel
theorem dX11_flawed_5 : decode cX11_flawed 5 = .ok (.iload 8, 2) := by decide +kernel
theorem dX11_flawed_7 : decode cX11_flawed 7 = .ok (.invokevirtual 131, 3) := by decide +kernel
theorem dX11_flawed_10 : decode cX11_flawed 10 = .ok (.ifCond .eq 19, 3) := by decide +kernel
theorem dX11_flawed_13 : decode cX11_flawed 13 = .ok (.aload_n 0, 1) := by decide +kernel
theorem dX11_flawed_14 : decode cX11_flawed 14 = .ok (.iload_n 1, 1) := by decide +kernel
theorem dX11_flawed_15 : decode cX11_flawed 15 = .ok (.iload_n 2, 1) := by decide +kernel
theorem dX11_flawed_16 : decode cX11_flawed 16 = .ok (.iload_n 3, 1) := by decide +kernel
theorem dX11_flawed_17 : decode cX11_flawed 17 = .ok (.iload 4, 2) := by decide +kernel
theorem dX11_flawed_19 : decode cX11_flawed 19 = .ok (.iload 5, 2) := by decide +kernel
theorem dX11_flawed_21 : decode cX11_flawed 21 = .ok (.iload 6, 2) := by decide +kernel
theorem dX11_flawed_23 : decode cX11_flawed 23 = .ok (.invokevirtual 184, 3) := by decide +kernel
theorem dX11_flawed_26 : decode cX11_flawed 26 = .ok (.goto 4, 3) := by decide +kernel
theorem dX11_flawed_29 : decode cX11_flawed 29 = .ok (.iconst 1, 1) := by decide +kernel
theorem dX11_flawed_30 : decode cX11_flawed 30 = .ok (.putfield 62, 3) := by decide +kernel
theorem dX11_flawed_33 : decode cX11_flawed 33 = .ok (.aload_n 0, 1) := by decide +kernel
theorem dX11_flawed_34 : decode cX11_flawed 34 = .ok (.getfield 62, 3) := by decide +kernel
theorem dX11_flawed_37 : decode cX11_flawed 37 = .ok (.ifCond .eq 5, 3) := by decide +kernel
theorem dX11_flawed_40 : decode cX11_flawed 40 = .ok (.iconst (-1), 1) := by decide +kernel
theorem dX11_flawed_41 : decode cX11_flawed 41 = .ok (.ireturn, 1) := by decide +kernel
theorem dX11_flawed_42 : decode cX11_flawed 42 = .ok (.aload_n 0, 1) := by decide +kernel
theorem dX11_flawed_43 : decode cX11_flawed 43 = .ok (.iload_n 1, 1) := by decide +kernel
theorem dX11_flawed_44 : decode cX11_flawed 44 = .ok (.iload_n 2, 1) := by decide +kernel
theorem dX11_flawed_45 : decode cX11_flawed 45 = .ok (.iload_n 3, 1) := by decide +kernel
theorem dX11_flawed_46 : decode cX11_flawed 46 = .ok (.iload 4, 2) := by decide +kernel
theorem dX11_flawed_48 : decode cX11_flawed 48 = .ok (.iload 5, 2) := by decide +kernel
theorem dX11_flawed_50 : decode cX11_flawed 50 = .ok (.iload 6, 2) := by decide +kernel
theorem dX11_flawed_52 : decode cX11_flawed 52 = .ok (.invokevirtual 188, 3) := by decide +kernel
theorem dX11_flawed_55 : decode cX11_flawed 55 = .ok (.aload_n 0, 1) := by decide +kernel
theorem dX11_flawed_56 : decode cX11_flawed 56 = .ok (.getfield 33, 3) := by decide +kernel
theorem dX11_flawed_59 : decode cX11_flawed 59 = .ok (.iload 7, 2) := by decide +kernel
theorem dX11_flawed_61 : decode cX11_flawed 61 = .ok (.ifCond .ne 8, 3) := by decide +kernel
theorem dX11_flawed_64 : decode cX11_flawed 64 = .ok (.iload 8, 2) := by decide +kernel
theorem dX11_flawed_66 : decode cX11_flawed 66 = .ok (.goto 16, 3) := by decide +kernel
theorem dX11_flawed_69 : decode cX11_flawed 69 = .ok (.aload_n 0, 1) := by decide +kernel
theorem dX11_flawed_70 : decode cX11_flawed 70 = .ok (.getfield 33, 3) := by decide +kernel
theorem dX11_flawed_73 : decode cX11_flawed 73 = .ok (.getfield 171, 3) := by decide +kernel
theorem dX11_flawed_76 : decode cX11_flawed 76 = .ok (.getfield 205, 3) := by decide +kernel
theorem dX11_flawed_79 : decode cX11_flawed 79 = .ok (.iload 8, 2) := by decide +kernel
theorem dX11_flawed_81 : decode cX11_flawed 81 = .ok (.iadd, 1) := by decide +kernel
theorem dX11_flawed_82 : decode cX11_flawed 82 = .ok (.invokevirtual 198, 3) := by decide +kernel
theorem dX11_flawed_85 : decode cX11_flawed 85 = .ok (.ireturn, 1) := by decide +kernel
theorem dX11_odds_0 : decode cX11_odds 0 = .ok (.aload_n 0, 1) := by decide +kernel
theorem dX11_odds_1 : decode cX11_odds 1 = .ok (.iload 7, 2) := by decide +kernel
theorem dX11_odds_3 : decode cX11_odds 3 = .ok (.ifCond .lt 25, 3) := by decide +kernel
theorem dX11_odds_6 : decode cX11_odds 6 = .ok (.iload 7, 2) := by decide +kernel
theorem dX11_odds_8 : decode cX11_odds 8 = .ok (.iconst 3, 1) := by decide +kernel
theorem dX11_odds_9 : decode cX11_odds 9 = .ok (.if_icmp .gt 19, 3) := by decide +kernel
theorem dX11_odds_12 : decode cX11_odds 12 = .ok (.aload_n 0, 1) := by decide +kernel
theorem dX11_odds_13 : decode cX11_odds 13 = .ok (.iload_n 1, 1) := by decide +kernel
theorem dX11_odds_14 : decode cX11_odds 14 = .ok (.iload_n 2, 1) := by decide +kernel
theorem dX11_odds_15 : decode cX11_odds 15 = .ok (.iload_n 3, 1) := by decide +kernel
theorem dX11_odds_16 : decode cX11_odds 16 = .ok (.iload 4, 2) := by decide +kernel
theorem dX11_odds_18 : decode cX11_odds 18 = .ok (.iload 5, 2) := by decide +kernel
theorem dX11_odds_20 : decode cX11_odds 20 = .ok (.iload 6, 2) := by decide +kernel
theorem dX11_odds_22 : decode cX11_odds 22 = .ok (.invokevirtual 184, 3) := by decide +kernel
theorem dX11_odds_25 : decode cX11_odds 25 = .ok (.goto 4, 3) := by decide +kernel
theorem dX11_odds_28 : decode cX11_odds 28 = .ok (.iconst 1, 1) := by decide +kernel
theorem dX11_odds_29 : decode cX11_odds 29 = .ok (.putfield 62, 3) := by decide +kernel
theorem dX11_odds_32 : decode cX11_odds 32 = .ok (.aload_n 0, 1) := by decide +kernel
theorem dX11_odds_33 : decode cX11_odds 33 = .ok (.getfield 62, 3) := by decide +kernel
theorem dX11_odds_36 : decode cX11_odds 36 = .ok (.ifCond .eq 7, 3) := by decide +kernel
theorem dX11_odds_39 : decode cX11_odds 39 = .ok (.ldc2_w 207, 3) := by decide +kernel
theorem dX11_odds_42 : decode cX11_odds 42 = .ok (.lreturn, 1) := by decide +kernel
theorem dX11_odds_43 : decode cX11_odds 43 = .ok (.aload_n 0, 1) := by decide +kernel
theorem dX11_odds_44 : decode cX11_odds 44 = .ok (.iload_n 1, 1) := by decide +kernel
theorem dX11_odds_45 : decode cX11_odds 45 = .ok (.iload_n 2, 1) := by decide +kernel
theorem dX11_odds_46 : decode cX11_odds 46 = .ok (.iload_n 3, 1) := by decide +kernel
theorem dX11_odds_47 : decode cX11_odds 47 = .ok (.iload 4, 2) := by decide +kernel
theorem dX11_odds_49 : decode cX11_odds 49 = .ok (.iload 5, 2) := by decide +kernel
theorem dX11_odds_51 : decode cX11_odds 51 = .ok (.iload 6, 2) := by decide +kernel
theorem dX11_odds_53 : decode cX11_odds 53 = .ok (.invokevirtual 188, 3) := by decide +kernel
theorem dX11_odds_56 : decode cX11_odds 56 = .ok (.aload_n 0, 1) := by decide +kernel
theorem dX11_odds_57 : decode cX11_odds 57 = .ok (.getfield 33, 3) := by decide +kernel
theorem dX11_odds_60 : decode cX11_odds 60 = .ok (.invokevirtual 209, 3) := by decide +kernel
theorem dX11_odds_63 : decode cX11_odds 63 = .ok (.aload_n 0, 1) := by decide +kernel
theorem dX11_odds_64 : decode cX11_odds 64 = .ok (.getfield 33, 3) := by decide +kernel
theorem dX11_odds_67 : decode cX11_odds 67 = .ok (.getfield 212, 3) := by decide +kernel
theorem dX11_odds_70 : decode cX11_odds 70 = .ok (.iload 7, 2) := by decide +kernel
theorem dX11_odds_72 : decode cX11_odds 72 = .ok (.iaload, 1) := by decide +kernel
theorem dX11_odds_73 : decode cX11_odds 73 = .ok (.i2l, 1) := by decide +kernel
theorem dX11_odds_74 : decode cX11_odds 74 = .ok (.aload_n 0, 1) := by decide +kernel
theorem dX11_odds_75 : decode cX11_odds 75 = .ok (.getfield 33, 3) := by decide +kernel
theorem dX11_odds_78 : decode cX11_odds 78 = .ok (.getfield 215, 3) := by decide +kernel
theorem dX11_odds_81 : decode cX11_odds 81 = .ok (.i2l, 1) := by decide +kernel
theorem dX11_odds_82 : decode cX11_odds 82 = .ok (.iload 8, 2) := by decide +kernel
theorem dX11_odds_84 : decode cX11_odds 84 = .ok (.invokestatic 218, 3) := by decide +kernel
theorem dX11_odds_87 : decode cX11_odds 87 = .ok (.lreturn, 1) := by decide +kernel
theorem dX11_best_0 : decode cX11_best 0 = .ok (.aload_n 0, 1) := by decide +kernel
theorem dX11_best_1 : decode cX11_best 1 = .ok (.aload_n 0, 1) := by decide +kernel
theorem dX11_best_2 : decode cX11_best 2 = .ok (.iload_n 1, 1) := by decide +kernel
theorem dX11_best_3 : decode cX11_best 3 = .ok (.iload_n 2, 1) := by decide +kernel
theorem dX11_best_4 : decode cX11_best 4 = .ok (.iload_n 3, 1) := by decide +kernel
theorem dX11_best_5 : decode cX11_best 5 = .ok (.invokevirtual 222, 3) := by decide +kernel
theorem dX11_best_8 : decode cX11_best 8 = .ok (.putfield 62, 3) := by decide +kernel
theorem dX11_best_11 : decode cX11_best 11 = .ok (.aload_n 0, 1) := by decide +kernel
theorem dX11_best_12 : decode cX11_best 12 = .ok (.getfield 62, 3) := by decide +kernel
theorem dX11_best_15 : decode cX11_best 15 = .ok (.ifCond .ne 19, 3) := by decide +kernel
theorem dX11_best_18 : decode cX11_best 18 = .ok (.aload_n 0, 1) := by decide +kernel
theorem dX11_best_19 : decode cX11_best 19 = .ok (.iload_n 1, 1) := by decide +kernel
theorem dX11_best_20 : decode cX11_best 20 = .ok (.iconst 1, 1) := by decide +kernel
theorem dX11_best_21 : decode cX11_best 21 = .ok (.iload 4, 2) := by decide +kernel
theorem dX11_best_23 : decode cX11_best 23 = .ok (.invokevirtual 226, 3) := by decide +kernel
theorem dX11_best_26 : decode cX11_best 26 = .ok (.ifCond .ne 8, 3) := by decide +kernel
theorem dX11_best_29 : decode cX11_best 29 = .ok (.aload_n 0, 1) := by decide +kernel
theorem dX11_best_30 : decode cX11_best 30 = .ok (.iconst 2, 1) := by decide +kernel
theorem dX11_best_31 : decode cX11_best 31 = .ok (.putfield 62, 3) := by decide +kernel
theorem dX11_best_34 : decode cX11_best 34 = .ok (.aload_n 0, 1) := by decide +kernel
theorem dX11_best_35 : decode cX11_best 35 = .ok (.getfield 62, 3) := by decide +kernel
theorem dX11_best_38 : decode cX11_best 38 = .ok (.ifCond .eq 5, 3) := by decide +kernel
theorem dX11_best_41 : decode cX11_best 41 = .ok (.iconst (-1), 1) := by decide +kernel
theorem dX11_best_42 : decode cX11_best 42 = .ok (.ireturn, 1) := by decide +kernel
theorem dX11_best_43 : decode cX11_best 43 = .ok (.aload_n 0, 1) := by decide +kernel
theorem dX11_best_44 : decode cX11_best 44 = .ok (.getfield 58, 3) := by decide +kernel
theorem dX11_best_47 : decode cX11_best 47 = .ok (.getfield 118, 3) := by decide +kernel
theorem dX11_best_50 : decode cX11_best 50 = .ok (.iload_n 1, 1) := by decide +kernel
theorem dX11_best_51 : decode cX11_best 51 = .ok (.aaload, 1) := by decide +kernel
theorem dX11_best_52 : decode cX11_best 52 = .ok (.astore 5, 2) := by decide +kernel
theorem dX11_best_54 : decode cX11_best 54 = .ok (.aload_n 0, 1) := by decide +kernel
theorem dX11_best_55 : decode cX11_best 55 = .ok (.iload_n 1, 1) := by decide +kernel
theorem dX11_best_56 : decode cX11_best 56 = .ok (.invokevirtual 168, 3) := by decide +kernel
theorem dX11_best_59 : decode cX11_best 59 = .ok (.aload_n 0, 1) := by decide +kernel
theorem dX11_best_60 : decode cX11_best 60 = .ok (.getfield 33, 3) := by decide +kernel
theorem dX11_best_63 : decode cX11_best 63 = .ok (.aload_n 0, 1) := by decide +kernel
theorem dX11_best_64 : decode cX11_best 64 = .ok (.getfield 58, 3) := by decide +kernel
theorem dX11_best_67 : decode cX11_best 67 = .ok (.getfield 142, 3) := by decide +kernel
theorem dX11_best_70 : decode cX11_best 70 = .ok (.iload_n 2, 1) := by decide +kernel
theorem dX11_best_71 : decode cX11_best 71 = .ok (.aaload, 1) := by decide +kernel
theorem dX11_best_72 : decode cX11_best 72 = .ok (.aload_n 0, 1) := by decide +kernel
theorem dX11_best_73 : decode cX11_best 73 = .ok (.getfield 58, 3) := by decide +kernel
theorem dX11_best_76 : decode cX11_best 76 = .ok (.getfield 142, 3) := by decide +kernel
theorem dX11_best_79 : decode cX11_best 79 = .ok (.iload_n 3, 1) := by decide +kernel
theorem dX11_best_80 : decode cX11_best 80 = .ok (.aaload, 1) := by decide +kernel
theorem dX11_best_81 : decode cX11_best 81 = .ok (.invokevirtual 229, 3) := by decide +kernel
theorem dX11_best_84 : decode cX11_best 84 = .ok (.aload_n 0, 1) := by decide +kernel
theorem dX11_best_85 : decode cX11_best 85 = .ok (.getfield 33, 3) := by decide +kernel
theorem dX11_best_88 : decode cX11_best 88 = .ok (.aload_n 0, 1) := by decide +kernel
theorem dX11_best_89 : decode cX11_best 89 = .ok (.getfield 33, 3) := by decide +kernel
theorem dX11_best_92 : decode cX11_best 92 = .ok (.getfield 195, 3) := by decide +kernel
theorem dX11_best_95 : decode cX11_best 95 = .ok (.aload 5, 2) := by decide +kernel
theorem dX11_best_97 : decode cX11_best 97 = .ok (.iconst 1, 1) := by decide +kernel
theorem dX11_best_98 : decode cX11_best 98 = .ok (.aload_n 0, 1) := by decide +kernel
theorem dX11_best_99 : decode cX11_best 99 = .ok (.getfield 58, 3) := by decide +kernel
theorem dX11_best_102 : decode cX11_best 102 = .ok (.getfield 142, 3) := by decide +kernel
theorem dX11_best_105 : decode cX11_best 105 = .ok (.iload_n 3, 1) := by decide +kernel
theorem dX11_best_106 : decode cX11_best 106 = .ok (.aaload, 1) := by decide +kernel
theorem dX11_best_107 : decode cX11_best 107 = .ok (.iload 4, 2) := by decide +kernel
theorem dX11_best_109 : decode cX11_best 109 = .ok (.iconst 0, 1) := by decide +kernel
theorem dX11_best_110 : decode cX11_best 110 = .ok (.invokevirtual 175, 3) := by decide +kernel
theorem dX11_best_113 : decode cX11_best 113 = .ok (.aload_n 0, 1) := by decide +kernel
theorem dX11_best_114 : decode cX11_best 114 = .ok (.getfield 40, 3) := by decide +kernel
theorem dX11_best_117 : decode cX11_best 117 = .ok (.aload_n 0, 1) := by decide +kernel
theorem dX11_best_118 : decode cX11_best 118 = .ok (.getfield 33, 3) := by decide +kernel
theorem dX11_best_121 : decode cX11_best 121 = .ok (.aload 5, 2) := by decide +kernel
theorem dX11_best_123 : decode cX11_best 123 = .ok (.aload_n 0, 1) := by decide +kernel
theorem dX11_best_124 : decode cX11_best 124 = .ok (.getfield 58, 3) := by decide +kernel
theorem dX11_best_127 : decode cX11_best 127 = .ok (.getfield 142, 3) := by decide +kernel
theorem dX11_best_130 : decode cX11_best 130 = .ok (.iload_n 2, 1) := by decide +kernel
theorem dX11_best_131 : decode cX11_best 131 = .ok (.aaload, 1) := by decide +kernel
theorem dX11_best_132 : decode cX11_best 132 = .ok (.invokevirtual 233, 3) := by decide +kernel
theorem dX11_best_135 : decode cX11_best 135 = .ok (.ireturn, 1) := by decide +kernel
theorem dX11_rests_0 : decode cX11_rests 0 = .ok (.aload_n 0, 1) := by decide +kernel
theorem dX11_rests_1 : decode cX11_rests 1 = .ok (.aload_n 0, 1) := by decide +kernel
theorem dX11_rests_2 : decode cX11_rests 2 = .ok (.iload_n 1, 1) := by decide +kernel
theorem dX11_rests_3 : decode cX11_rests 3 = .ok (.iload_n 2, 1) := by decide +kernel
theorem dX11_rests_4 : decode cX11_rests 4 = .ok (.iload_n 3, 1) := by decide +kernel
theorem dX11_rests_5 : decode cX11_rests 5 = .ok (.invokevirtual 222, 3) := by decide +kernel
theorem dX11_rests_8 : decode cX11_rests 8 = .ok (.putfield 62, 3) := by decide +kernel
theorem dX11_rests_11 : decode cX11_rests 11 = .ok (.aload_n 0, 1) := by decide +kernel
theorem dX11_rests_12 : decode cX11_rests 12 = .ok (.getfield 62, 3) := by decide +kernel
theorem dX11_rests_15 : decode cX11_rests 15 = .ok (.ifCond .eq 5, 3) := by decide +kernel
theorem dX11_rests_18 : decode cX11_rests 18 = .ok (.iconst (-1), 1) := by decide +kernel
theorem dX11_rests_19 : decode cX11_rests 19 = .ok (.ireturn, 1) := by decide +kernel
theorem dX11_rests_20 : decode cX11_rests 20 = .ok (.aload_n 0, 1) := by decide +kernel
theorem dX11_rests_21 : decode cX11_rests 21 = .ok (.iload_n 1, 1) := by decide +kernel
theorem dX11_rests_22 : decode cX11_rests 22 = .ok (.iload_n 2, 1) := by decide +kernel
theorem dX11_rests_23 : decode cX11_rests 23 = .ok (.iload_n 3, 1) := by decide +kernel
theorem dX11_rests_24 : decode cX11_rests 24 = .ok (.invokevirtual 237, 3) := by decide +kernel
theorem dX11_rests_27 : decode cX11_rests 27 = .ok (.aload_n 0, 1) := by decide +kernel
theorem dX11_rests_28 : decode cX11_rests 28 = .ok (.getfield 40, 3) := by decide +kernel
theorem dX11_rests_31 : decode cX11_rests 31 = .ok (.invokevirtual 241, 3) := by decide +kernel
theorem dX11_rests_34 : decode cX11_rests 34 = .ok (.ireturn, 1) := by decide +kernel
theorem dX11_rest_0 : decode cX11_rest 0 = .ok (.aload_n 0, 1) := by decide +kernel
theorem dX11_rest_1 : decode cX11_rest 1 = .ok (.aload_n 0, 1) := by decide +kernel
theorem dX11_rest_2 : decode cX11_rest 2 = .ok (.iload_n 1, 1) := by decide +kernel
theorem dX11_rest_3 : decode cX11_rest 3 = .ok (.iload_n 2, 1) := by decide +kernel
theorem dX11_rest_4 : decode cX11_rest 4 = .ok (.iload_n 3, 1) := by decide +kernel
theorem dX11_rest_5 : decode cX11_rest 5 = .ok (.invokevirtual 222, 3) := by decide +kernel
theorem dX11_rest_8 : decode cX11_rest 8 = .ok (.putfield 62, 3) := by decide +kernel
theorem dX11_rest_11 : decode cX11_rest 11 = .ok (.aload_n 0, 1) := by decide +kernel
theorem dX11_rest_12 : decode cX11_rest 12 = .ok (.getfield 62, 3) := by decide +kernel
theorem dX11_rest_15 : decode cX11_rest 15 = .ok (.ifCond .eq 5, 3) := by decide +kernel
theorem dX11_rest_18 : decode cX11_rest 18 = .ok (.iconst (-1), 1) := by decide +kernel
theorem dX11_rest_19 : decode cX11_rest 19 = .ok (.ireturn, 1) := by decide +kernel
theorem dX11_rest_20 : decode cX11_rest 20 = .ok (.aload_n 0, 1) := by decide +kernel
theorem dX11_rest_21 : decode cX11_rest 21 = .ok (.iload_n 1, 1) := by decide +kernel
theorem dX11_rest_22 : decode cX11_rest 22 = .ok (.iload_n 2, 1) := by decide +kernel
theorem dX11_rest_23 : decode cX11_rest 23 = .ok (.iload_n 3, 1) := by decide +kernel
theorem dX11_rest_24 : decode cX11_rest 24 = .ok (.invokevirtual 237, 3) := by decide +kernel
theorem dX11_rest_27 : decode cX11_rest 27 = .ok (.aload_n 0, 1) := by decide +kernel
theorem dX11_rest_28 : decode cX11_rest 28 = .ok (.getfield 40, 3) := by decide +kernel
theorem dX11_rest_31 : decode cX11_rest 31 = .ok (.invokevirtual 244, 3) := by decide +kernel
theorem dX11_rest_34 : decode cX11_rest 34 = .ok (.ireturn, 1) := by decide +kernel
theorem dX11_sure_0 : decode cX11_sure 0 = .ok (.aload_n 0, 1) := by decide +kernel
theorem dX11_sure_1 : decode cX11_sure 1 = .ok (.aload_n 0, 1) := by decide +kernel
theorem dX11_sure_2 : decode cX11_sure 2 = .ok (.iload_n 1, 1) := by decide +kernel
theorem dX11_sure_3 : decode cX11_sure 3 = .ok (.iload_n 2, 1) := by decide +kernel
theorem dX11_sure_4 : decode cX11_sure 4 = .ok (.iload_n 3, 1) := by decide +kernel
theorem dX11_sure_5 : decode cX11_sure 5 = .ok (.invokevirtual 222, 3) := by decide +kernel
theorem dX11_sure_8 : decode cX11_sure 8 = .ok (.putfield 62, 3) := by decide +kernel
theorem dX11_sure_11 : decode cX11_sure 11 = .ok (.aload_n 0, 1) := by decide +kernel
theorem dX11_sure_12 : decode cX11_sure 12 = .ok (.getfield 62, 3) := by decide +kernel
theorem dX11_sure_15 : decode cX11_sure 15 = .ok (.ifCond .eq 7, 3) := by decide +kernel
theorem dX11_sure_18 : decode cX11_sure 18 = .ok (.ldc2_w 207, 3) := by decide +kernel
theorem dX11_sure_21 : decode cX11_sure 21 = .ok (.lreturn, 1) := by decide +kernel
theorem dX11_sure_22 : decode cX11_sure 22 = .ok (.aload_n 0, 1) := by decide +kernel
theorem dX11_sure_23 : decode cX11_sure 23 = .ok (.iload_n 1, 1) := by decide +kernel
theorem dX11_sure_24 : decode cX11_sure 24 = .ok (.iload_n 2, 1) := by decide +kernel
theorem dX11_sure_25 : decode cX11_sure 25 = .ok (.iload_n 3, 1) := by decide +kernel
theorem dX11_sure_26 : decode cX11_sure 26 = .ok (.invokevirtual 237, 3) := by decide +kernel
theorem dX11_sure_29 : decode cX11_sure 29 = .ok (.aload_n 0, 1) := by decide +kernel
theorem dX11_sure_30 : decode cX11_sure 30 = .ok (.getfield 40, 3) := by decide +kernel
theorem dX11_sure_33 : decode cX11_sure 33 = .ok (.invokevirtual 247, 3) := by decide +kernel
theorem dX11_sure_36 : decode cX11_sure 36 = .ok (.i2l, 1) := by decide +kernel
theorem dX11_sure_37 : decode cX11_sure 37 = .ok (.aload_n 0, 1) := by decide +kernel
theorem dX11_sure_38 : decode cX11_sure 38 = .ok (.getfield 33, 3) := by decide +kernel
theorem dX11_sure_41 : decode cX11_sure 41 = .ok (.getfield 215, 3) := by decide +kernel
theorem dX11_sure_44 : decode cX11_sure 44 = .ok (.i2l, 1) := by decide +kernel
theorem dX11_sure_45 : decode cX11_sure 45 = .ok (.iload 4, 2) := by decide +kernel
theorem dX11_sure_47 : decode cX11_sure 47 = .ok (.invokestatic 218, 3) := by decide +kernel
theorem dX11_sure_50 : decode cX11_sure 50 = .ok (.lreturn, 1) := by decide +kernel
theorem dX11_curve_0 : decode cX11_curve 0 = .ok (.aload_n 0, 1) := by decide +kernel
theorem dX11_curve_1 : decode cX11_curve 1 = .ok (.aload_n 0, 1) := by decide +kernel
theorem dX11_curve_2 : decode cX11_curve 2 = .ok (.iload_n 1, 1) := by decide +kernel
theorem dX11_curve_3 : decode cX11_curve 3 = .ok (.iload_n 2, 1) := by decide +kernel
theorem dX11_curve_4 : decode cX11_curve 4 = .ok (.iload_n 3, 1) := by decide +kernel
theorem dX11_curve_5 : decode cX11_curve 5 = .ok (.invokevirtual 222, 3) := by decide +kernel
theorem dX11_curve_8 : decode cX11_curve 8 = .ok (.putfield 62, 3) := by decide +kernel
theorem dX11_curve_11 : decode cX11_curve 11 = .ok (.aload_n 0, 1) := by decide +kernel
theorem dX11_curve_12 : decode cX11_curve 12 = .ok (.getfield 62, 3) := by decide +kernel
theorem dX11_curve_15 : decode cX11_curve 15 = .ok (.ifCond .ne 20, 3) := by decide +kernel
theorem dX11_curve_18 : decode cX11_curve 18 = .ok (.iload 4, 2) := by decide +kernel
theorem dX11_curve_20 : decode cX11_curve 20 = .ok (.ifCond .lt 10, 3) := by decide +kernel
theorem dX11_curve_23 : decode cX11_curve 23 = .ok (.iload 4, 2) := by decide +kernel
theorem dX11_curve_25 : decode cX11_curve 25 = .ok (.bipush 24, 2) := by decide +kernel
theorem dX11_curve_27 : decode cX11_curve 27 = .ok (.if_icmp .le 8, 3) := by decide +kernel
theorem dX11_curve_30 : decode cX11_curve 30 = .ok (.aload_n 0, 1) := by decide +kernel
theorem dX11_curve_31 : decode cX11_curve 31 = .ok (.iconst 2, 1) := by decide +kernel
theorem dX11_curve_32 : decode cX11_curve 32 = .ok (.putfield 62, 3) := by decide +kernel
theorem dX11_curve_35 : decode cX11_curve 35 = .ok (.aload_n 0, 1) := by decide +kernel
theorem dX11_curve_36 : decode cX11_curve 36 = .ok (.getfield 62, 3) := by decide +kernel
theorem dX11_curve_39 : decode cX11_curve 39 = .ok (.ifCond .eq 7, 3) := by decide +kernel
theorem dX11_curve_42 : decode cX11_curve 42 = .ok (.ldc2_w 207, 3) := by decide +kernel
theorem dX11_curve_45 : decode cX11_curve 45 = .ok (.lreturn, 1) := by decide +kernel
theorem dX11_curve_46 : decode cX11_curve 46 = .ok (.aload_n 0, 1) := by decide +kernel
theorem dX11_curve_47 : decode cX11_curve 47 = .ok (.iload_n 1, 1) := by decide +kernel
theorem dX11_curve_48 : decode cX11_curve 48 = .ok (.iload_n 2, 1) := by decide +kernel
theorem dX11_curve_49 : decode cX11_curve 49 = .ok (.iload_n 3, 1) := by decide +kernel
theorem dX11_curve_50 : decode cX11_curve 50 = .ok (.iload 4, 2) := by decide +kernel
theorem dX11_curve_52 : decode cX11_curve 52 = .ok (.invokevirtual 250, 3) := by decide +kernel
theorem dX11_curve_55 : decode cX11_curve 55 = .ok (.istore 6, 2) := by decide +kernel
theorem dX11_curve_57 : decode cX11_curve 57 = .ok (.iload 6, 2) := by decide +kernel
theorem dX11_curve_59 : decode cX11_curve 59 = .ok (.i2l, 1) := by decide +kernel
theorem dX11_curve_60 : decode cX11_curve 60 = .ok (.aload_n 0, 1) := by decide +kernel
theorem dX11_curve_61 : decode cX11_curve 61 = .ok (.getfield 33, 3) := by decide +kernel
theorem dX11_curve_64 : decode cX11_curve 64 = .ok (.getfield 215, 3) := by decide +kernel
theorem dX11_curve_67 : decode cX11_curve 67 = .ok (.i2l, 1) := by decide +kernel
theorem dX11_curve_68 : decode cX11_curve 68 = .ok (.iload 5, 2) := by decide +kernel
theorem dX11_curve_70 : decode cX11_curve 70 = .ok (.invokestatic 218, 3) := by decide +kernel
theorem dX11_curve_73 : decode cX11_curve 73 = .ok (.lreturn, 1) := by decide +kernel
theorem dX11_bestDay_0 : decode cX11_bestDay 0 = .ok (.aload_n 0, 1) := by decide +kernel
theorem dX11_bestDay_1 : decode cX11_bestDay 1 = .ok (.aload_n 0, 1) := by decide +kernel
theorem dX11_bestDay_2 : decode cX11_bestDay 2 = .ok (.iload_n 1, 1) := by decide +kernel
theorem dX11_bestDay_3 : decode cX11_bestDay 3 = .ok (.iload_n 2, 1) := by decide +kernel
theorem dX11_bestDay_4 : decode cX11_bestDay 4 = .ok (.iload_n 3, 1) := by decide +kernel
theorem dX11_bestDay_5 : decode cX11_bestDay 5 = .ok (.invokevirtual 222, 3) := by decide +kernel
theorem dX11_bestDay_8 : decode cX11_bestDay 8 = .ok (.putfield 62, 3) := by decide +kernel
theorem dX11_bestDay_11 : decode cX11_bestDay 11 = .ok (.aload_n 0, 1) := by decide +kernel
theorem dX11_bestDay_12 : decode cX11_bestDay 12 = .ok (.getfield 62, 3) := by decide +kernel
theorem dX11_bestDay_15 : decode cX11_bestDay 15 = .ok (.ifCond .eq 5, 3) := by decide +kernel
theorem dX11_bestDay_18 : decode cX11_bestDay 18 = .ok (.iconst (-1), 1) := by decide +kernel
theorem dX11_bestDay_19 : decode cX11_bestDay 19 = .ok (.ireturn, 1) := by decide +kernel
theorem dX11_bestDay_20 : decode cX11_bestDay 20 = .ok (.iconst 0, 1) := by decide +kernel
theorem dX11_bestDay_21 : decode cX11_bestDay 21 = .ok (.istore 4, 2) := by decide +kernel
theorem dX11_bestDay_23 : decode cX11_bestDay 23 = .ok (.iconst (-1), 1) := by decide +kernel
theorem dX11_bestDay_24 : decode cX11_bestDay 24 = .ok (.istore 5, 2) := by decide +kernel
theorem dX11_bestDay_26 : decode cX11_bestDay 26 = .ok (.iconst 0, 1) := by decide +kernel
theorem dX11_bestDay_27 : decode cX11_bestDay 27 = .ok (.istore 6, 2) := by decide +kernel
theorem dX11_bestDay_29 : decode cX11_bestDay 29 = .ok (.iload 6, 2) := by decide +kernel
theorem dX11_bestDay_31 : decode cX11_bestDay 31 = .ok (.bipush 24, 2) := by decide +kernel
theorem dX11_bestDay_33 : decode cX11_bestDay 33 = .ok (.if_icmp .gt 35, 3) := by decide +kernel
theorem dX11_bestDay_36 : decode cX11_bestDay 36 = .ok (.aload_n 0, 1) := by decide +kernel
theorem dX11_bestDay_37 : decode cX11_bestDay 37 = .ok (.iload_n 1, 1) := by decide +kernel
theorem dX11_bestDay_38 : decode cX11_bestDay 38 = .ok (.iload_n 2, 1) := by decide +kernel
theorem dX11_bestDay_39 : decode cX11_bestDay 39 = .ok (.iload_n 3, 1) := by decide +kernel
theorem dX11_bestDay_40 : decode cX11_bestDay 40 = .ok (.iload 6, 2) := by decide +kernel
theorem dX11_bestDay_42 : decode cX11_bestDay 42 = .ok (.invokevirtual 250, 3) := by decide +kernel
theorem dX11_bestDay_45 : decode cX11_bestDay 45 = .ok (.istore 7, 2) := by decide +kernel
theorem dX11_bestDay_47 : decode cX11_bestDay 47 = .ok (.iload 7, 2) := by decide +kernel
theorem dX11_bestDay_49 : decode cX11_bestDay 49 = .ok (.iload 5, 2) := by decide +kernel
theorem dX11_bestDay_51 : decode cX11_bestDay 51 = .ok (.if_icmp .le 11, 3) := by decide +kernel
theorem dX11_bestDay_54 : decode cX11_bestDay 54 = .ok (.iload 7, 2) := by decide +kernel
theorem dX11_bestDay_56 : decode cX11_bestDay 56 = .ok (.istore 5, 2) := by decide +kernel
theorem dX11_bestDay_58 : decode cX11_bestDay 58 = .ok (.iload 6, 2) := by decide +kernel
theorem dX11_bestDay_60 : decode cX11_bestDay 60 = .ok (.istore 4, 2) := by decide +kernel
theorem dX11_bestDay_62 : decode cX11_bestDay 62 = .ok (.iinc 6 1, 3) := by decide +kernel
theorem dX11_bestDay_65 : decode cX11_bestDay 65 = .ok (.goto (-36), 3) := by decide +kernel
theorem dX11_bestDay_68 : decode cX11_bestDay 68 = .ok (.iload 4, 2) := by decide +kernel
theorem dX11_bestDay_70 : decode cX11_bestDay 70 = .ok (.ireturn, 1) := by decide +kernel
theorem dX11_lawOdds_0 : decode cX11_lawOdds 0 = .ok (.aload_n 0, 1) := by decide +kernel
theorem dX11_lawOdds_1 : decode cX11_lawOdds 1 = .ok (.iload_n 1, 1) := by decide +kernel
theorem dX11_lawOdds_2 : decode cX11_lawOdds 2 = .ok (.ifCond .lt 19, 3) := by decide +kernel
theorem dX11_lawOdds_5 : decode cX11_lawOdds 5 = .ok (.iload_n 1, 1) := by decide +kernel
theorem dX11_lawOdds_6 : decode cX11_lawOdds 6 = .ok (.iconst 3, 1) := by decide +kernel
theorem dX11_lawOdds_7 : decode cX11_lawOdds 7 = .ok (.if_icmp .gt 14, 3) := by decide +kernel
theorem dX11_lawOdds_10 : decode cX11_lawOdds 10 = .ok (.aload_n 0, 1) := by decide +kernel
theorem dX11_lawOdds_11 : decode cX11_lawOdds 11 = .ok (.iload_n 2, 1) := by decide +kernel
theorem dX11_lawOdds_12 : decode cX11_lawOdds 12 = .ok (.iload_n 3, 1) := by decide +kernel
theorem dX11_lawOdds_13 : decode cX11_lawOdds 13 = .ok (.iload 4, 2) := by decide +kernel
theorem dX11_lawOdds_15 : decode cX11_lawOdds 15 = .ok (.invokevirtual 222, 3) := by decide +kernel
theorem dX11_lawOdds_18 : decode cX11_lawOdds 18 = .ok (.goto 4, 3) := by decide +kernel
theorem dX11_lawOdds_21 : decode cX11_lawOdds 21 = .ok (.iconst 1, 1) := by decide +kernel
theorem dX11_lawOdds_22 : decode cX11_lawOdds 22 = .ok (.putfield 62, 3) := by decide +kernel
theorem dX11_lawOdds_25 : decode cX11_lawOdds 25 = .ok (.aload_n 0, 1) := by decide +kernel
theorem dX11_lawOdds_26 : decode cX11_lawOdds 26 = .ok (.getfield 62, 3) := by decide +kernel
theorem dX11_lawOdds_29 : decode cX11_lawOdds 29 = .ok (.ifCond .eq 7, 3) := by decide +kernel
theorem dX11_lawOdds_32 : decode cX11_lawOdds 32 = .ok (.ldc2_w 207, 3) := by decide +kernel
theorem dX11_lawOdds_35 : decode cX11_lawOdds 35 = .ok (.lreturn, 1) := by decide +kernel
theorem dX11_lawOdds_36 : decode cX11_lawOdds 36 = .ok (.aload_n 0, 1) := by decide +kernel
theorem dX11_lawOdds_37 : decode cX11_lawOdds 37 = .ok (.iload_n 1, 1) := by decide +kernel
theorem dX11_lawOdds_38 : decode cX11_lawOdds 38 = .ok (.iload_n 2, 1) := by decide +kernel
theorem dX11_lawOdds_39 : decode cX11_lawOdds 39 = .ok (.iload_n 3, 1) := by decide +kernel
theorem dX11_lawOdds_40 : decode cX11_lawOdds 40 = .ok (.iload 4, 2) := by decide +kernel
theorem dX11_lawOdds_42 : decode cX11_lawOdds 42 = .ok (.invokevirtual 254, 3) := by decide +kernel
theorem dX11_lawOdds_45 : decode cX11_lawOdds 45 = .ok (.istore 6, 2) := by decide +kernel
theorem dX11_lawOdds_47 : decode cX11_lawOdds 47 = .ok (.iload 6, 2) := by decide +kernel
theorem dX11_lawOdds_49 : decode cX11_lawOdds 49 = .ok (.i2l, 1) := by decide +kernel
theorem dX11_lawOdds_50 : decode cX11_lawOdds 50 = .ok (.ldc2_w 257, 3) := by decide +kernel
theorem dX11_lawOdds_53 : decode cX11_lawOdds 53 = .ok (.aload_n 0, 1) := by decide +kernel
theorem dX11_lawOdds_54 : decode cX11_lawOdds 54 = .ok (.getfield 33, 3) := by decide +kernel
theorem dX11_lawOdds_57 : decode cX11_lawOdds 57 = .ok (.getfield 215, 3) := by decide +kernel
theorem dX11_lawOdds_60 : decode cX11_lawOdds 60 = .ok (.i2l, 1) := by decide +kernel
theorem dX11_lawOdds_61 : decode cX11_lawOdds 61 = .ok (.lmul, 1) := by decide +kernel
theorem dX11_lawOdds_62 : decode cX11_lawOdds 62 = .ok (.iload 5, 2) := by decide +kernel
theorem dX11_lawOdds_64 : decode cX11_lawOdds 64 = .ok (.invokestatic 218, 3) := by decide +kernel
theorem dX11_lawOdds_67 : decode cX11_lawOdds 67 = .ok (.lreturn, 1) := by decide +kernel
theorem dX11_fairest_0 : decode cX11_fairest 0 = .ok (.aload_n 0, 1) := by decide +kernel
theorem dX11_fairest_1 : decode cX11_fairest 1 = .ok (.aload_n 0, 1) := by decide +kernel
theorem dX11_fairest_2 : decode cX11_fairest 2 = .ok (.iload_n 1, 1) := by decide +kernel
theorem dX11_fairest_3 : decode cX11_fairest 3 = .ok (.iload_n 2, 1) := by decide +kernel
theorem dX11_fairest_4 : decode cX11_fairest 4 = .ok (.iload_n 3, 1) := by decide +kernel
theorem dX11_fairest_5 : decode cX11_fairest 5 = .ok (.invokevirtual 222, 3) := by decide +kernel
theorem dX11_fairest_8 : decode cX11_fairest 8 = .ok (.putfield 62, 3) := by decide +kernel
theorem dX11_fairest_11 : decode cX11_fairest 11 = .ok (.aload_n 0, 1) := by decide +kernel
theorem dX11_fairest_12 : decode cX11_fairest 12 = .ok (.getfield 62, 3) := by decide +kernel
theorem dX11_fairest_15 : decode cX11_fairest 15 = .ok (.ifCond .eq 5, 3) := by decide +kernel
theorem dX11_fairest_18 : decode cX11_fairest 18 = .ok (.iconst (-1), 1) := by decide +kernel
theorem dX11_fairest_19 : decode cX11_fairest 19 = .ok (.ireturn, 1) := by decide +kernel
theorem dX11_fairest_20 : decode cX11_fairest 20 = .ok (.iconst 0, 1) := by decide +kernel
theorem dX11_fairest_21 : decode cX11_fairest 21 = .ok (.istore 4, 2) := by decide +kernel
theorem dX11_fairest_23 : decode cX11_fairest 23 = .ok (.ldc_w 261, 3) := by decide +kernel
theorem dX11_fairest_26 : decode cX11_fairest 26 = .ok (.istore 5, 2) := by decide +kernel
theorem dX11_fairest_28 : decode cX11_fairest 28 = .ok (.iconst 0, 1) := by decide +kernel
theorem dX11_fairest_29 : decode cX11_fairest 29 = .ok (.istore 6, 2) := by decide +kernel
theorem dX11_fairest_31 : decode cX11_fairest 31 = .ok (.iload 6, 2) := by decide +kernel
theorem dX11_fairest_33 : decode cX11_fairest 33 = .ok (.iconst 3, 1) := by decide +kernel
theorem dX11_fairest_34 : decode cX11_fairest 34 = .ok (.if_icmp .gt 46, 3) := by decide +kernel
theorem dX11_fairest_37 : decode cX11_fairest 37 = .ok (.aload_n 0, 1) := by decide +kernel
theorem dX11_fairest_38 : decode cX11_fairest 38 = .ok (.iload 6, 2) := by decide +kernel
theorem dX11_fairest_40 : decode cX11_fairest 40 = .ok (.iload_n 1, 1) := by decide +kernel
theorem dX11_fairest_41 : decode cX11_fairest 41 = .ok (.iload_n 2, 1) := by decide +kernel
theorem dX11_fairest_42 : decode cX11_fairest 42 = .ok (.iload_n 3, 1) := by decide +kernel
theorem dX11_fairest_43 : decode cX11_fairest 43 = .ok (.invokevirtual 254, 3) := by decide +kernel
theorem dX11_fairest_46 : decode cX11_fairest 46 = .ok (.aload_n 0, 1) := by decide +kernel
theorem dX11_fairest_47 : decode cX11_fairest 47 = .ok (.getfield 33, 3) := by decide +kernel
theorem dX11_fairest_50 : decode cX11_fairest 50 = .ok (.getfield 215, 3) := by decide +kernel
theorem dX11_fairest_53 : decode cX11_fairest 53 = .ok (.isub, 1) := by decide +kernel
theorem dX11_fairest_54 : decode cX11_fairest 54 = .ok (.invokestatic 262, 3) := by decide +kernel
theorem dX11_fairest_57 : decode cX11_fairest 57 = .ok (.istore 7, 2) := by decide +kernel
theorem dX11_fairest_59 : decode cX11_fairest 59 = .ok (.iload 7, 2) := by decide +kernel
theorem dX11_fairest_61 : decode cX11_fairest 61 = .ok (.iload 5, 2) := by decide +kernel
theorem dX11_fairest_63 : decode cX11_fairest 63 = .ok (.if_icmp .ge 11, 3) := by decide +kernel
theorem dX11_fairest_66 : decode cX11_fairest 66 = .ok (.iload 7, 2) := by decide +kernel
theorem dX11_fairest_68 : decode cX11_fairest 68 = .ok (.istore 5, 2) := by decide +kernel
theorem dX11_fairest_70 : decode cX11_fairest 70 = .ok (.iload 6, 2) := by decide +kernel
theorem dX11_fairest_72 : decode cX11_fairest 72 = .ok (.istore 4, 2) := by decide +kernel
theorem dX11_fairest_74 : decode cX11_fairest 74 = .ok (.iinc 6 1, 3) := by decide +kernel
theorem dX11_fairest_77 : decode cX11_fairest 77 = .ok (.goto (-46), 3) := by decide +kernel
theorem dX11_fairest_80 : decode cX11_fairest 80 = .ok (.iload 4, 2) := by decide +kernel
theorem dX11_fairest_82 : decode cX11_fairest 82 = .ok (.ireturn, 1) := by decide +kernel
theorem dX11_turnsOf_0 : decode cX11_turnsOf 0 = .ok (.aload_n 0, 1) := by decide +kernel
theorem dX11_turnsOf_1 : decode cX11_turnsOf 1 = .ok (.aload_n 0, 1) := by decide +kernel
theorem dX11_turnsOf_2 : decode cX11_turnsOf 2 = .ok (.iload_n 1, 1) := by decide +kernel
theorem dX11_turnsOf_3 : decode cX11_turnsOf 3 = .ok (.invokevirtual 267, 3) := by decide +kernel
theorem dX11_turnsOf_6 : decode cX11_turnsOf 6 = .ok (.putfield 62, 3) := by decide +kernel
theorem dX11_turnsOf_9 : decode cX11_turnsOf 9 = .ok (.aload_n 0, 1) := by decide +kernel
theorem dX11_turnsOf_10 : decode cX11_turnsOf 10 = .ok (.getfield 62, 3) := by decide +kernel
theorem dX11_turnsOf_13 : decode cX11_turnsOf 13 = .ok (.ifCond .eq 5, 3) := by decide +kernel
theorem dX11_turnsOf_16 : decode cX11_turnsOf 16 = .ok (.iconst (-1), 1) := by decide +kernel
theorem dX11_turnsOf_17 : decode cX11_turnsOf 17 = .ok (.ireturn, 1) := by decide +kernel
theorem dX11_turnsOf_18 : decode cX11_turnsOf 18 = .ok (.aload_n 0, 1) := by decide +kernel
theorem dX11_turnsOf_19 : decode cX11_turnsOf 19 = .ok (.getfield 47, 3) := by decide +kernel
theorem dX11_turnsOf_22 : decode cX11_turnsOf 22 = .ok (.aload_n 0, 1) := by decide +kernel
theorem dX11_turnsOf_23 : decode cX11_turnsOf 23 = .ok (.getfield 58, 3) := by decide +kernel
theorem dX11_turnsOf_26 : decode cX11_turnsOf 26 = .ok (.getfield 270, 3) := by decide +kernel
theorem dX11_turnsOf_29 : decode cX11_turnsOf 29 = .ok (.iload_n 1, 1) := by decide +kernel
theorem dX11_turnsOf_30 : decode cX11_turnsOf 30 = .ok (.invokevirtual 273, 3) := by decide +kernel
theorem dX11_turnsOf_33 : decode cX11_turnsOf 33 = .ok (.ifCond .eq 7, 3) := by decide +kernel
theorem dX11_turnsOf_36 : decode cX11_turnsOf 36 = .ok (.iconst 1, 1) := by decide +kernel
theorem dX11_turnsOf_37 : decode cX11_turnsOf 37 = .ok (.goto 4, 3) := by decide +kernel
theorem dX11_turnsOf_40 : decode cX11_turnsOf 40 = .ok (.iconst 0, 1) := by decide +kernel
theorem dX11_turnsOf_41 : decode cX11_turnsOf 41 = .ok (.ireturn, 1) := by decide +kernel
theorem dX11_turnAt_0 : decode cX11_turnAt 0 = .ok (.aload_n 0, 1) := by decide +kernel
theorem dX11_turnAt_1 : decode cX11_turnAt 1 = .ok (.aload_n 0, 1) := by decide +kernel
theorem dX11_turnAt_2 : decode cX11_turnAt 2 = .ok (.iload_n 1, 1) := by decide +kernel
theorem dX11_turnAt_3 : decode cX11_turnAt 3 = .ok (.invokevirtual 267, 3) := by decide +kernel
theorem dX11_turnAt_6 : decode cX11_turnAt 6 = .ok (.putfield 62, 3) := by decide +kernel
theorem dX11_turnAt_9 : decode cX11_turnAt 9 = .ok (.aload_n 0, 1) := by decide +kernel
theorem dX11_turnAt_10 : decode cX11_turnAt 10 = .ok (.getfield 62, 3) := by decide +kernel
theorem dX11_turnAt_13 : decode cX11_turnAt 13 = .ok (.ifCond .ne 17, 3) := by decide +kernel
theorem dX11_turnAt_16 : decode cX11_turnAt 16 = .ok (.iload_n 2, 1) := by decide +kernel
theorem dX11_turnAt_17 : decode cX11_turnAt 17 = .ok (.ifCond .lt 8, 3) := by decide +kernel
theorem dX11_turnAt_20 : decode cX11_turnAt 20 = .ok (.iload_n 2, 1) := by decide +kernel
theorem dX11_turnAt_21 : decode cX11_turnAt 21 = .ok (.iload_n 1, 1) := by decide +kernel
theorem dX11_turnAt_22 : decode cX11_turnAt 22 = .ok (.if_icmp .lt 8, 3) := by decide +kernel
theorem dX11_turnAt_25 : decode cX11_turnAt 25 = .ok (.aload_n 0, 1) := by decide +kernel
theorem dX11_turnAt_26 : decode cX11_turnAt 26 = .ok (.iconst 1, 1) := by decide +kernel
theorem dX11_turnAt_27 : decode cX11_turnAt 27 = .ok (.putfield 62, 3) := by decide +kernel
theorem dX11_turnAt_30 : decode cX11_turnAt 30 = .ok (.aload_n 0, 1) := by decide +kernel
theorem dX11_turnAt_31 : decode cX11_turnAt 31 = .ok (.getfield 62, 3) := by decide +kernel
theorem dX11_turnAt_34 : decode cX11_turnAt 34 = .ok (.ifCond .ne 27, 3) := by decide +kernel
theorem dX11_turnAt_37 : decode cX11_turnAt 37 = .ok (.aload_n 0, 1) := by decide +kernel
theorem dX11_turnAt_38 : decode cX11_turnAt 38 = .ok (.getfield 47, 3) := by decide +kernel
theorem dX11_turnAt_41 : decode cX11_turnAt 41 = .ok (.aload_n 0, 1) := by decide +kernel
theorem dX11_turnAt_42 : decode cX11_turnAt 42 = .ok (.getfield 58, 3) := by decide +kernel
theorem dX11_turnAt_45 : decode cX11_turnAt 45 = .ok (.getfield 270, 3) := by decide +kernel
theorem dX11_turnAt_48 : decode cX11_turnAt 48 = .ok (.iload_n 1, 1) := by decide +kernel
theorem dX11_turnAt_49 : decode cX11_turnAt 49 = .ok (.invokevirtual 273, 3) := by decide +kernel
theorem dX11_turnAt_52 : decode cX11_turnAt 52 = .ok (.ifCond .ne 9, 3) := by decide +kernel
theorem dX11_turnAt_55 : decode cX11_turnAt 55 = .ok (.aload_n 0, 1) := by decide +kernel
theorem dX11_turnAt_56 : decode cX11_turnAt 56 = .ok (.bipush 6, 2) := by decide +kernel
theorem dX11_turnAt_58 : decode cX11_turnAt 58 = .ok (.putfield 62, 3) := by decide +kernel
theorem dX11_turnAt_61 : decode cX11_turnAt 61 = .ok (.aload_n 0, 1) := by decide +kernel
theorem dX11_turnAt_62 : decode cX11_turnAt 62 = .ok (.getfield 62, 3) := by decide +kernel
theorem dX11_turnAt_65 : decode cX11_turnAt 65 = .ok (.ifCond .ne 15, 3) := by decide +kernel
theorem dX11_turnAt_68 : decode cX11_turnAt 68 = .ok (.aload_n 0, 1) := by decide +kernel
theorem dX11_turnAt_69 : decode cX11_turnAt 69 = .ok (.getfield 47, 3) := by decide +kernel
theorem dX11_turnAt_72 : decode cX11_turnAt 72 = .ok (.getfield 277, 3) := by decide +kernel
theorem dX11_turnAt_75 : decode cX11_turnAt 75 = .ok (.iload_n 2, 1) := by decide +kernel
theorem dX11_turnAt_76 : decode cX11_turnAt 76 = .ok (.iaload, 1) := by decide +kernel
theorem dX11_turnAt_77 : decode cX11_turnAt 77 = .ok (.goto 4, 3) := by decide +kernel
theorem dX11_turnAt_80 : decode cX11_turnAt 80 = .ok (.iconst (-1), 1) := by decide +kernel
theorem dX11_turnAt_81 : decode cX11_turnAt 81 = .ok (.ireturn, 1) := by decide +kernel
theorem dX11_hand_0 : decode cX11_hand 0 = .ok (.aload_n 0, 1) := by decide +kernel
theorem dX11_hand_1 : decode cX11_hand 1 = .ok (.aload_n 0, 1) := by decide +kernel
theorem dX11_hand_2 : decode cX11_hand 2 = .ok (.iload_n 1, 1) := by decide +kernel
theorem dX11_hand_3 : decode cX11_hand 3 = .ok (.invokevirtual 139, 3) := by decide +kernel
theorem dX11_hand_6 : decode cX11_hand 6 = .ok (.ifCond .eq 7, 3) := by decide +kernel
theorem dX11_hand_9 : decode cX11_hand 9 = .ok (.iconst 0, 1) := by decide +kernel
theorem dX11_hand_10 : decode cX11_hand 10 = .ok (.goto 4, 3) := by decide +kernel
theorem dX11_hand_13 : decode cX11_hand 13 = .ok (.iconst 1, 1) := by decide +kernel
theorem dX11_hand_14 : decode cX11_hand 14 = .ok (.putfield 62, 3) := by decide +kernel
theorem dX11_hand_17 : decode cX11_hand 17 = .ok (.aload_n 0, 1) := by decide +kernel
theorem dX11_hand_18 : decode cX11_hand 18 = .ok (.getfield 62, 3) := by decide +kernel
theorem dX11_hand_21 : decode cX11_hand 21 = .ok (.ifCond .eq 7, 3) := by decide +kernel
theorem dX11_hand_24 : decode cX11_hand 24 = .ok (.ldc2_w 207, 3) := by decide +kernel
theorem dX11_hand_27 : decode cX11_hand 27 = .ok (.lreturn, 1) := by decide +kernel
theorem dX11_hand_28 : decode cX11_hand 28 = .ok (.aload_n 0, 1) := by decide +kernel
theorem dX11_hand_29 : decode cX11_hand 29 = .ok (.getfield 58, 3) := by decide +kernel
theorem dX11_hand_32 : decode cX11_hand 32 = .ok (.getfield 142, 3) := by decide +kernel
theorem dX11_hand_35 : decode cX11_hand 35 = .ok (.iload_n 1, 1) := by decide +kernel
theorem dX11_hand_36 : decode cX11_hand 36 = .ok (.aaload, 1) := by decide +kernel
theorem dX11_hand_37 : decode cX11_hand 37 = .ok (.astore_n 3, 1) := by decide +kernel
theorem dX11_hand_38 : decode cX11_hand 38 = .ok (.aload_n 3, 1) := by decide +kernel
theorem dX11_hand_39 : decode cX11_hand 39 = .ok (.getfield 160, 3) := by decide +kernel
theorem dX11_hand_42 : decode cX11_hand 42 = .ok (.aload_n 3, 1) := by decide +kernel
theorem dX11_hand_43 : decode cX11_hand 43 = .ok (.getfield 163, 3) := by decide +kernel
theorem dX11_hand_46 : decode cX11_hand 46 = .ok (.iadd, 1) := by decide +kernel
theorem dX11_hand_47 : decode cX11_hand 47 = .ok (.istore 4, 2) := by decide +kernel
theorem dX11_hand_49 : decode cX11_hand 49 = .ok (.iload 4, 2) := by decide +kernel
theorem dX11_hand_51 : decode cX11_hand 51 = .ok (.aload_n 3, 1) := by decide +kernel
theorem dX11_hand_52 : decode cX11_hand 52 = .ok (.getfield 160, 3) := by decide +kernel
theorem dX11_hand_55 : decode cX11_hand 55 = .ok (.invokestatic 280, 3) := by decide +kernel
theorem dX11_hand_58 : decode cX11_hand 58 = .ok (.lconst 1, 1) := by decide +kernel
theorem dX11_hand_59 : decode cX11_hand 59 = .ok (.iload 4, 2) := by decide +kernel
theorem dX11_hand_61 : decode cX11_hand 61 = .ok (.lshl, 1) := by decide +kernel
theorem dX11_hand_62 : decode cX11_hand 62 = .ok (.iload_n 2, 1) := by decide +kernel
theorem dX11_hand_63 : decode cX11_hand 63 = .ok (.invokestatic 218, 3) := by decide +kernel
theorem dX11_hand_66 : decode cX11_hand 66 = .ok (.lreturn, 1) := by decide +kernel
theorem dX11_side_0 : decode cX11_side 0 = .ok (.aload_n 0, 1) := by decide +kernel
theorem dX11_side_1 : decode cX11_side 1 = .ok (.aload_n 0, 1) := by decide +kernel
theorem dX11_side_2 : decode cX11_side 2 = .ok (.invokevirtual 284, 3) := by decide +kernel
theorem dX11_side_5 : decode cX11_side 5 = .ok (.ifCond .eq 7, 3) := by decide +kernel
theorem dX11_side_8 : decode cX11_side 8 = .ok (.iconst 0, 1) := by decide +kernel
theorem dX11_side_9 : decode cX11_side 9 = .ok (.goto 4, 3) := by decide +kernel
theorem dX11_side_12 : decode cX11_side 12 = .ok (.iconst 1, 1) := by decide +kernel
theorem dX11_side_13 : decode cX11_side 13 = .ok (.putfield 62, 3) := by decide +kernel
theorem dX11_side_16 : decode cX11_side 16 = .ok (.aload_n 0, 1) := by decide +kernel
theorem dX11_side_17 : decode cX11_side 17 = .ok (.getfield 62, 3) := by decide +kernel
theorem dX11_side_20 : decode cX11_side 20 = .ok (.ifCond .eq 7, 3) := by decide +kernel
theorem dX11_side_23 : decode cX11_side 23 = .ok (.ldc2_w 207, 3) := by decide +kernel
theorem dX11_side_26 : decode cX11_side 26 = .ok (.lreturn, 1) := by decide +kernel
theorem dX11_side_27 : decode cX11_side 27 = .ok (.aload_n 0, 1) := by decide +kernel
theorem dX11_side_28 : decode cX11_side 28 = .ok (.getfield 58, 3) := by decide +kernel
theorem dX11_side_31 : decode cX11_side 31 = .ok (.getfield 288, 3) := by decide +kernel
theorem dX11_side_34 : decode cX11_side 34 = .ok (.aload_n 0, 1) := by decide +kernel
theorem dX11_side_35 : decode cX11_side 35 = .ok (.getfield 58, 3) := by decide +kernel
theorem dX11_side_38 : decode cX11_side 38 = .ok (.getfield 291, 3) := by decide +kernel
theorem dX11_side_41 : decode cX11_side 41 = .ok (.invokestatic 280, 3) := by decide +kernel
theorem dX11_side_44 : decode cX11_side 44 = .ok (.lconst 1, 1) := by decide +kernel
theorem dX11_side_45 : decode cX11_side 45 = .ok (.aload_n 0, 1) := by decide +kernel
theorem dX11_side_46 : decode cX11_side 46 = .ok (.getfield 58, 3) := by decide +kernel
theorem dX11_side_49 : decode cX11_side 49 = .ok (.getfield 288, 3) := by decide +kernel
theorem dX11_side_52 : decode cX11_side 52 = .ok (.lshl, 1) := by decide +kernel
theorem dX11_side_53 : decode cX11_side 53 = .ok (.iload_n 1, 1) := by decide +kernel
theorem dX11_side_54 : decode cX11_side 54 = .ok (.invokestatic 218, 3) := by decide +kernel
theorem dX11_side_57 : decode cX11_side 57 = .ok (.lreturn, 1) := by decide +kernel
theorem dX11_known_0 : decode cX11_known 0 = .ok (.aload_n 0, 1) := by decide +kernel
theorem dX11_known_1 : decode cX11_known 1 = .ok (.aload_n 0, 1) := by decide +kernel
theorem dX11_known_2 : decode cX11_known 2 = .ok (.invokevirtual 284, 3) := by decide +kernel
theorem dX11_known_5 : decode cX11_known 5 = .ok (.ifCond .eq 7, 3) := by decide +kernel
theorem dX11_known_8 : decode cX11_known 8 = .ok (.iconst 0, 1) := by decide +kernel
theorem dX11_known_9 : decode cX11_known 9 = .ok (.goto 4, 3) := by decide +kernel
theorem dX11_known_12 : decode cX11_known 12 = .ok (.iconst 1, 1) := by decide +kernel
theorem dX11_known_13 : decode cX11_known 13 = .ok (.putfield 62, 3) := by decide +kernel
theorem dX11_known_16 : decode cX11_known 16 = .ok (.aload_n 0, 1) := by decide +kernel
theorem dX11_known_17 : decode cX11_known 17 = .ok (.getfield 62, 3) := by decide +kernel
theorem dX11_known_20 : decode cX11_known 20 = .ok (.ifCond .eq 5, 3) := by decide +kernel
theorem dX11_known_23 : decode cX11_known 23 = .ok (.iconst (-1), 1) := by decide +kernel
theorem dX11_known_24 : decode cX11_known 24 = .ok (.ireturn, 1) := by decide +kernel
theorem dX11_known_25 : decode cX11_known 25 = .ok (.iconst 0, 1) := by decide +kernel
theorem dX11_known_26 : decode cX11_known 26 = .ok (.istore_n 1, 1) := by decide +kernel
theorem dX11_known_27 : decode cX11_known 27 = .ok (.iconst 0, 1) := by decide +kernel
theorem dX11_known_28 : decode cX11_known 28 = .ok (.istore_n 2, 1) := by decide +kernel
theorem dX11_known_29 : decode cX11_known 29 = .ok (.iload_n 2, 1) := by decide +kernel
theorem dX11_known_30 : decode cX11_known 30 = .ok (.aload_n 0, 1) := by decide +kernel
theorem dX11_known_31 : decode cX11_known 31 = .ok (.getfield 58, 3) := by decide +kernel
theorem dX11_known_34 : decode cX11_known 34 = .ok (.getfield 270, 3) := by decide +kernel
theorem dX11_known_37 : decode cX11_known 37 = .ok (.if_icmp .ge 57, 3) := by decide +kernel
theorem dX11_known_40 : decode cX11_known 40 = .ok (.aload_n 0, 1) := by decide +kernel
theorem dX11_known_41 : decode cX11_known 41 = .ok (.getfield 58, 3) := by decide +kernel
theorem dX11_known_44 : decode cX11_known 44 = .ok (.getfield 142, 3) := by decide +kernel
theorem dX11_known_47 : decode cX11_known 47 = .ok (.iload_n 2, 1) := by decide +kernel
theorem dX11_known_48 : decode cX11_known 48 = .ok (.aaload, 1) := by decide +kernel
theorem dX11_known_49 : decode cX11_known 49 = .ok (.astore_n 3, 1) := by decide +kernel
theorem dX11_known_50 : decode cX11_known 50 = .ok (.aload_n 3, 1) := by decide +kernel
theorem dX11_known_51 : decode cX11_known 51 = .ok (.getfield 160, 3) := by decide +kernel
theorem dX11_known_54 : decode cX11_known 54 = .ok (.aload_n 3, 1) := by decide +kernel
theorem dX11_known_55 : decode cX11_known 55 = .ok (.getfield 163, 3) := by decide +kernel
theorem dX11_known_58 : decode cX11_known 58 = .ok (.iadd, 1) := by decide +kernel
theorem dX11_known_59 : decode cX11_known 59 = .ok (.istore 4, 2) := by decide +kernel
theorem dX11_known_61 : decode cX11_known 61 = .ok (.iload 4, 2) := by decide +kernel
theorem dX11_known_63 : decode cX11_known 63 = .ok (.aload_n 3, 1) := by decide +kernel
theorem dX11_known_64 : decode cX11_known 64 = .ok (.getfield 160, 3) := by decide +kernel
theorem dX11_known_67 : decode cX11_known 67 = .ok (.invokestatic 280, 3) := by decide +kernel
theorem dX11_known_70 : decode cX11_known 70 = .ok (.ldc2_w 294, 3) := by decide +kernel
theorem dX11_known_73 : decode cX11_known 73 = .ok (.lmul, 1) := by decide +kernel
theorem dX11_known_74 : decode cX11_known 74 = .ok (.lconst 1, 1) := by decide +kernel
theorem dX11_known_75 : decode cX11_known 75 = .ok (.iload 4, 2) := by decide +kernel
theorem dX11_known_77 : decode cX11_known 77 = .ok (.lshl, 1) := by decide +kernel
theorem dX11_known_78 : decode cX11_known 78 = .ok (.lcmp, 1) := by decide +kernel
theorem dX11_known_79 : decode cX11_known 79 = .ok (.ifCond .gt 9, 3) := by decide +kernel
theorem dX11_known_82 : decode cX11_known 82 = .ok (.iload_n 1, 1) := by decide +kernel
theorem dX11_known_83 : decode cX11_known 83 = .ok (.iconst 1, 1) := by decide +kernel
theorem dX11_known_84 : decode cX11_known 84 = .ok (.iload_n 2, 1) := by decide +kernel
theorem dX11_known_85 : decode cX11_known 85 = .ok (.ishl, 1) := by decide +kernel
theorem dX11_known_86 : decode cX11_known 86 = .ok (.ior, 1) := by decide +kernel
theorem dX11_known_87 : decode cX11_known 87 = .ok (.istore_n 1, 1) := by decide +kernel
theorem dX11_known_88 : decode cX11_known 88 = .ok (.iinc 2 1, 3) := by decide +kernel
theorem dX11_known_91 : decode cX11_known 91 = .ok (.goto (-62), 3) := by decide +kernel
theorem dX11_known_94 : decode cX11_known 94 = .ok (.iload_n 1, 1) := by decide +kernel
theorem dX11_known_95 : decode cX11_known 95 = .ok (.ireturn, 1) := by decide +kernel
theorem dX11_hens_0 : decode cX11_hens 0 = .ok (.aload_n 0, 1) := by decide +kernel
theorem dX11_hens_1 : decode cX11_hens 1 = .ok (.aload_n 0, 1) := by decide +kernel
theorem dX11_hens_2 : decode cX11_hens 2 = .ok (.invokevirtual 284, 3) := by decide +kernel
theorem dX11_hens_5 : decode cX11_hens 5 = .ok (.ifCond .ne 7, 3) := by decide +kernel
theorem dX11_hens_8 : decode cX11_hens 8 = .ok (.iconst 1, 1) := by decide +kernel
theorem dX11_hens_9 : decode cX11_hens 9 = .ok (.goto 20, 3) := by decide +kernel
theorem dX11_hens_12 : decode cX11_hens 12 = .ok (.iload_n 1, 1) := by decide +kernel
theorem dX11_hens_13 : decode cX11_hens 13 = .ok (.iconst 1, 1) := by decide +kernel
theorem dX11_hens_14 : decode cX11_hens 14 = .ok (.if_icmp .lt 10, 3) := by decide +kernel
theorem dX11_hens_17 : decode cX11_hens 17 = .ok (.iload_n 1, 1) := by decide +kernel
theorem dX11_hens_18 : decode cX11_hens 18 = .ok (.ldc_w 296, 3) := by decide +kernel
theorem dX11_hens_21 : decode cX11_hens 21 = .ok (.if_icmp .le 7, 3) := by decide +kernel
theorem dX11_hens_24 : decode cX11_hens 24 = .ok (.iconst 2, 1) := by decide +kernel
theorem dX11_hens_25 : decode cX11_hens 25 = .ok (.goto 4, 3) := by decide +kernel
theorem dX11_hens_28 : decode cX11_hens 28 = .ok (.iconst 0, 1) := by decide +kernel
theorem dX11_hens_29 : decode cX11_hens 29 = .ok (.putfield 62, 3) := by decide +kernel
theorem dX11_hens_32 : decode cX11_hens 32 = .ok (.aload_n 0, 1) := by decide +kernel
theorem dX11_hens_33 : decode cX11_hens 33 = .ok (.getfield 62, 3) := by decide +kernel
theorem dX11_hens_36 : decode cX11_hens 36 = .ok (.ifCond .eq 5, 3) := by decide +kernel
theorem dX11_hens_39 : decode cX11_hens 39 = .ok (.iconst (-1), 1) := by decide +kernel
theorem dX11_hens_40 : decode cX11_hens 40 = .ok (.ireturn, 1) := by decide +kernel
theorem dX11_hens_41 : decode cX11_hens 41 = .ok (.iconst 0, 1) := by decide +kernel
theorem dX11_hens_42 : decode cX11_hens 42 = .ok (.istore_n 2, 1) := by decide +kernel
theorem dX11_hens_43 : decode cX11_hens 43 = .ok (.iload_n 2, 1) := by decide +kernel
theorem dX11_hens_44 : decode cX11_hens 44 = .ok (.bipush 20, 2) := by decide +kernel
theorem dX11_hens_46 : decode cX11_hens 46 = .ok (.if_icmp .ge 16, 3) := by decide +kernel
theorem dX11_hens_49 : decode cX11_hens 49 = .ok (.iconst 1, 1) := by decide +kernel
theorem dX11_hens_50 : decode cX11_hens 50 = .ok (.iload_n 2, 1) := by decide +kernel
theorem dX11_hens_51 : decode cX11_hens 51 = .ok (.ishl, 1) := by decide +kernel
theorem dX11_hens_52 : decode cX11_hens 52 = .ok (.iload_n 1, 1) := by decide +kernel
theorem dX11_hens_53 : decode cX11_hens 53 = .ok (.if_icmp .ge 9, 3) := by decide +kernel
theorem dX11_hens_56 : decode cX11_hens 56 = .ok (.iinc 2 1, 3) := by decide +kernel
theorem dX11_hens_59 : decode cX11_hens 59 = .ok (.goto (-16), 3) := by decide +kernel
theorem dX11_hens_62 : decode cX11_hens 62 = .ok (.iload_n 2, 1) := by decide +kernel
theorem dX11_hens_63 : decode cX11_hens 63 = .ok (.ireturn, 1) := by decide +kernel
theorem dX11_thumbs_0 : decode cX11_thumbs 0 = .ok (.aload_n 0, 1) := by decide +kernel
theorem dX11_thumbs_1 : decode cX11_thumbs 1 = .ok (.aload_n 0, 1) := by decide +kernel
theorem dX11_thumbs_2 : decode cX11_thumbs 2 = .ok (.iload_n 1, 1) := by decide +kernel
theorem dX11_thumbs_3 : decode cX11_thumbs 3 = .ok (.invokevirtual 139, 3) := by decide +kernel
theorem dX11_thumbs_6 : decode cX11_thumbs 6 = .ok (.ifCond .ne 7, 3) := by decide +kernel
theorem dX11_thumbs_9 : decode cX11_thumbs 9 = .ok (.iconst 1, 1) := by decide +kernel
theorem dX11_thumbs_10 : decode cX11_thumbs 10 = .ok (.goto 25, 3) := by decide +kernel
theorem dX11_thumbs_13 : decode cX11_thumbs 13 = .ok (.aload_n 0, 1) := by decide +kernel
theorem dX11_thumbs_14 : decode cX11_thumbs 14 = .ok (.getfield 58, 3) := by decide +kernel
theorem dX11_thumbs_17 : decode cX11_thumbs 17 = .ok (.getfield 142, 3) := by decide +kernel
theorem dX11_thumbs_20 : decode cX11_thumbs 20 = .ok (.iload_n 1, 1) := by decide +kernel
theorem dX11_thumbs_21 : decode cX11_thumbs 21 = .ok (.aaload, 1) := by decide +kernel
theorem dX11_thumbs_22 : decode cX11_thumbs 22 = .ok (.getfield 297, 3) := by decide +kernel
theorem dX11_thumbs_25 : decode cX11_thumbs 25 = .ok (.iconst (-1), 1) := by decide +kernel
theorem dX11_thumbs_26 : decode cX11_thumbs 26 = .ok (.if_icmp .ne 8, 3) := by decide +kernel
theorem dX11_thumbs_29 : decode cX11_thumbs 29 = .ok (.bipush 6, 2) := by decide +kernel
theorem dX11_thumbs_31 : decode cX11_thumbs 31 = .ok (.goto 4, 3) := by decide +kernel
theorem dX11_thumbs_34 : decode cX11_thumbs 34 = .ok (.iconst 0, 1) := by decide +kernel
theorem dX11_thumbs_35 : decode cX11_thumbs 35 = .ok (.putfield 62, 3) := by decide +kernel
theorem dX11_thumbs_38 : decode cX11_thumbs 38 = .ok (.aload_n 0, 1) := by decide +kernel
theorem dX11_thumbs_39 : decode cX11_thumbs 39 = .ok (.getfield 62, 3) := by decide +kernel
theorem dX11_thumbs_42 : decode cX11_thumbs 42 = .ok (.ifCond .eq 7, 3) := by decide +kernel
theorem dX11_thumbs_45 : decode cX11_thumbs 45 = .ok (.ldc2_w 207, 3) := by decide +kernel
theorem dX11_thumbs_48 : decode cX11_thumbs 48 = .ok (.lreturn, 1) := by decide +kernel
theorem dX11_thumbs_49 : decode cX11_thumbs 49 = .ok (.aload_n 0, 1) := by decide +kernel
theorem dX11_thumbs_50 : decode cX11_thumbs 50 = .ok (.getfield 58, 3) := by decide +kernel
theorem dX11_thumbs_53 : decode cX11_thumbs 53 = .ok (.getfield 142, 3) := by decide +kernel
theorem dX11_thumbs_56 : decode cX11_thumbs 56 = .ok (.iload_n 1, 1) := by decide +kernel
theorem dX11_thumbs_57 : decode cX11_thumbs 57 = .ok (.aaload, 1) := by decide +kernel
theorem dX11_thumbs_58 : decode cX11_thumbs 58 = .ok (.astore_n 3, 1) := by decide +kernel
theorem dX11_thumbs_59 : decode cX11_thumbs 59 = .ok (.aload_n 3, 1) := by decide +kernel
theorem dX11_thumbs_60 : decode cX11_thumbs 60 = .ok (.getfield 297, 3) := by decide +kernel
theorem dX11_thumbs_63 : decode cX11_thumbs 63 = .ok (.i2l, 1) := by decide +kernel
theorem dX11_thumbs_64 : decode cX11_thumbs 64 = .ok (.aload_n 3, 1) := by decide +kernel
theorem dX11_thumbs_65 : decode cX11_thumbs 65 = .ok (.getfield 300, 3) := by decide +kernel
theorem dX11_thumbs_68 : decode cX11_thumbs 68 = .ok (.aload_n 3, 1) := by decide +kernel
theorem dX11_thumbs_69 : decode cX11_thumbs 69 = .ok (.invokestatic 303, 3) := by decide +kernel
theorem dX11_thumbs_72 : decode cX11_thumbs 72 = .ok (.lmul, 1) := by decide +kernel
theorem dX11_thumbs_73 : decode cX11_thumbs 73 = .ok (.lstore 4, 2) := by decide +kernel
theorem dX11_thumbs_75 : decode cX11_thumbs 75 = .ok (.bipush 100, 2) := by decide +kernel
theorem dX11_thumbs_77 : decode cX11_thumbs 77 = .ok (.aload_n 3, 1) := by decide +kernel
theorem dX11_thumbs_78 : decode cX11_thumbs 78 = .ok (.getfield 297, 3) := by decide +kernel
theorem dX11_thumbs_81 : decode cX11_thumbs 81 = .ok (.isub, 1) := by decide +kernel
theorem dX11_thumbs_82 : decode cX11_thumbs 82 = .ok (.i2l, 1) := by decide +kernel
theorem dX11_thumbs_83 : decode cX11_thumbs 83 = .ok (.aload_n 3, 1) := by decide +kernel
theorem dX11_thumbs_84 : decode cX11_thumbs 84 = .ok (.getfield 307, 3) := by decide +kernel
theorem dX11_thumbs_87 : decode cX11_thumbs 87 = .ok (.aload_n 3, 1) := by decide +kernel
theorem dX11_thumbs_88 : decode cX11_thumbs 88 = .ok (.invokestatic 303, 3) := by decide +kernel
theorem dX11_thumbs_91 : decode cX11_thumbs 91 = .ok (.lmul, 1) := by decide +kernel
theorem dX11_thumbs_92 : decode cX11_thumbs 92 = .ok (.lstore 6, 2) := by decide +kernel
theorem dX11_thumbs_94 : decode cX11_thumbs 94 = .ok (.lload 4, 2) := by decide +kernel
theorem dX11_thumbs_96 : decode cX11_thumbs 96 = .ok (.lload 4, 2) := by decide +kernel
theorem dX11_thumbs_98 : decode cX11_thumbs 98 = .ok (.lload 6, 2) := by decide +kernel
theorem dX11_thumbs_100 : decode cX11_thumbs 100 = .ok (.ladd, 1) := by decide +kernel
theorem dX11_thumbs_101 : decode cX11_thumbs 101 = .ok (.iload_n 2, 1) := by decide +kernel
theorem dX11_thumbs_102 : decode cX11_thumbs 102 = .ok (.invokestatic 218, 3) := by decide +kernel
theorem dX11_thumbs_105 : decode cX11_thumbs 105 = .ok (.lreturn, 1) := by decide +kernel
theorem dX11_let_0 : decode cX11_let 0 = .ok (.aload_n 0, 1) := by decide +kernel
theorem dX11_let_1 : decode cX11_let 1 = .ok (.aload_n 0, 1) := by decide +kernel
theorem dX11_let_2 : decode cX11_let 2 = .ok (.iload_n 1, 1) := by decide +kernel
theorem dX11_let_3 : decode cX11_let 3 = .ok (.iload_n 2, 1) := by decide +kernel
theorem dX11_let_4 : decode cX11_let 4 = .ok (.invokevirtual 310, 3) := by decide +kernel
theorem dX11_let_7 : decode cX11_let 7 = .ok (.ifCond .eq 7, 3) := by decide +kernel
theorem dX11_let_10 : decode cX11_let 10 = .ok (.iconst 0, 1) := by decide +kernel
theorem dX11_let_11 : decode cX11_let 11 = .ok (.goto 4, 3) := by decide +kernel
theorem dX11_let_14 : decode cX11_let 14 = .ok (.iconst 1, 1) := by decide +kernel
theorem dX11_let_15 : decode cX11_let 15 = .ok (.putfield 62, 3) := by decide +kernel
theorem dX11_let_18 : decode cX11_let 18 = .ok (.aload_n 0, 1) := by decide +kernel
theorem dX11_let_19 : decode cX11_let 19 = .ok (.getfield 62, 3) := by decide +kernel
theorem dX11_let_22 : decode cX11_let 22 = .ok (.ifCond .eq 5, 3) := by decide +kernel
theorem dX11_let_25 : decode cX11_let 25 = .ok (.iconst (-1), 1) := by decide +kernel
theorem dX11_let_26 : decode cX11_let 26 = .ok (.ireturn, 1) := by decide +kernel
theorem dX11_let_27 : decode cX11_let 27 = .ok (.iload_n 1, 1) := by decide +kernel
theorem dX11_let_28 : decode cX11_let 28 = .ok (.iload_n 2, 1) := by decide +kernel
theorem dX11_let_29 : decode cX11_let 29 = .ok (.invokestatic 313, 3) := by decide +kernel
theorem dX11_let_32 : decode cX11_let 32 = .ok (.istore_n 3, 1) := by decide +kernel
theorem dX11_let_33 : decode cX11_let 33 = .ok (.iload_n 1, 1) := by decide +kernel
theorem dX11_let_34 : decode cX11_let 34 = .ok (.iload_n 2, 1) := by decide +kernel
theorem dX11_let_35 : decode cX11_let 35 = .ok (.invokestatic 316, 3) := by decide +kernel
theorem dX11_let_38 : decode cX11_let 38 = .ok (.istore 4, 2) := by decide +kernel
theorem dX11_let_40 : decode cX11_let 40 = .ok (.aload_n 0, 1) := by decide +kernel
theorem dX11_let_41 : decode cX11_let 41 = .ok (.getfield 58, 3) := by decide +kernel
theorem dX11_let_44 : decode cX11_let 44 = .ok (.getfield 142, 3) := by decide +kernel
theorem dX11_let_47 : decode cX11_let 47 = .ok (.iload 4, 2) := by decide +kernel
theorem dX11_let_49 : decode cX11_let 49 = .ok (.aaload, 1) := by decide +kernel
theorem dX11_let_50 : decode cX11_let 50 = .ok (.getfield 319, 3) := by decide +kernel
theorem dX11_let_53 : decode cX11_let 53 = .ok (.aload_n 0, 1) := by decide +kernel
theorem dX11_let_54 : decode cX11_let 54 = .ok (.getfield 58, 3) := by decide +kernel
theorem dX11_let_57 : decode cX11_let 57 = .ok (.getfield 142, 3) := by decide +kernel
theorem dX11_let_60 : decode cX11_let 60 = .ok (.iload_n 3, 1) := by decide +kernel
theorem dX11_let_61 : decode cX11_let 61 = .ok (.aaload, 1) := by decide +kernel
theorem dX11_let_62 : decode cX11_let 62 = .ok (.getfield 319, 3) := by decide +kernel
theorem dX11_let_65 : decode cX11_let 65 = .ok (.if_icmp .le 8, 3) := by decide +kernel
theorem dX11_let_68 : decode cX11_let 68 = .ok (.iload 4, 2) := by decide +kernel
theorem dX11_let_70 : decode cX11_let 70 = .ok (.goto 4, 3) := by decide +kernel
theorem dX11_let_73 : decode cX11_let 73 = .ok (.iload_n 3, 1) := by decide +kernel
theorem dX11_let_74 : decode cX11_let 74 = .ok (.ireturn, 1) := by decide +kernel
theorem dX11_worth_0 : decode cX11_worth 0 = .ok (.aload_n 0, 1) := by decide +kernel
theorem dX11_worth_1 : decode cX11_worth 1 = .ok (.aload_n 0, 1) := by decide +kernel
theorem dX11_worth_2 : decode cX11_worth 2 = .ok (.iload_n 1, 1) := by decide +kernel
theorem dX11_worth_3 : decode cX11_worth 3 = .ok (.invokevirtual 139, 3) := by decide +kernel
theorem dX11_worth_6 : decode cX11_worth 6 = .ok (.ifCond .eq 7, 3) := by decide +kernel
theorem dX11_worth_9 : decode cX11_worth 9 = .ok (.iconst 0, 1) := by decide +kernel
theorem dX11_worth_10 : decode cX11_worth 10 = .ok (.goto 4, 3) := by decide +kernel
theorem dX11_worth_13 : decode cX11_worth 13 = .ok (.iconst 1, 1) := by decide +kernel
theorem dX11_worth_14 : decode cX11_worth 14 = .ok (.putfield 62, 3) := by decide +kernel
theorem dX11_worth_17 : decode cX11_worth 17 = .ok (.aload_n 0, 1) := by decide +kernel
theorem dX11_worth_18 : decode cX11_worth 18 = .ok (.getfield 62, 3) := by decide +kernel
theorem dX11_worth_21 : decode cX11_worth 21 = .ok (.ifCond .ne 18, 3) := by decide +kernel
theorem dX11_worth_24 : decode cX11_worth 24 = .ok (.aload_n 0, 1) := by decide +kernel
theorem dX11_worth_25 : decode cX11_worth 25 = .ok (.getfield 58, 3) := by decide +kernel
theorem dX11_worth_28 : decode cX11_worth 28 = .ok (.getfield 142, 3) := by decide +kernel
theorem dX11_worth_31 : decode cX11_worth 31 = .ok (.iload_n 1, 1) := by decide +kernel
theorem dX11_worth_32 : decode cX11_worth 32 = .ok (.aaload, 1) := by decide +kernel
theorem dX11_worth_33 : decode cX11_worth 33 = .ok (.getfield 319, 3) := by decide +kernel
theorem dX11_worth_36 : decode cX11_worth 36 = .ok (.goto 4, 3) := by decide +kernel
theorem dX11_worth_39 : decode cX11_worth 39 = .ok (.iconst (-1), 1) := by decide +kernel
theorem dX11_worth_40 : decode cX11_worth 40 = .ok (.ireturn, 1) := by decide +kernel
theorem dX11_knob_0 : decode cX11_knob 0 = .ok (.aload_n 0, 1) := by decide +kernel
theorem dX11_knob_1 : decode cX11_knob 1 = .ok (.aload_n 0, 1) := by decide +kernel
theorem dX11_knob_2 : decode cX11_knob 2 = .ok (.iload_n 1, 1) := by decide +kernel
theorem dX11_knob_3 : decode cX11_knob 3 = .ok (.invokevirtual 322, 3) := by decide +kernel
theorem dX11_knob_6 : decode cX11_knob 6 = .ok (.ifCond .eq 7, 3) := by decide +kernel
theorem dX11_knob_9 : decode cX11_knob 9 = .ok (.iconst 0, 1) := by decide +kernel
theorem dX11_knob_10 : decode cX11_knob 10 = .ok (.goto 4, 3) := by decide +kernel
theorem dX11_knob_13 : decode cX11_knob 13 = .ok (.iconst 1, 1) := by decide +kernel
theorem dX11_knob_14 : decode cX11_knob 14 = .ok (.putfield 62, 3) := by decide +kernel
theorem dX11_knob_17 : decode cX11_knob 17 = .ok (.aload_n 0, 1) := by decide +kernel
theorem dX11_knob_18 : decode cX11_knob 18 = .ok (.getfield 62, 3) := by decide +kernel
theorem dX11_knob_21 : decode cX11_knob 21 = .ok (.ifCond .ne 12, 3) := by decide +kernel
theorem dX11_knob_24 : decode cX11_knob 24 = .ok (.aload_n 0, 1) := by decide +kernel
theorem dX11_knob_25 : decode cX11_knob 25 = .ok (.iload_n 1, 1) := by decide +kernel
theorem dX11_knob_26 : decode cX11_knob 26 = .ok (.iconst 0, 1) := by decide +kernel
theorem dX11_knob_27 : decode cX11_knob 27 = .ok (.invokevirtual 325, 3) := by decide +kernel
theorem dX11_knob_30 : decode cX11_knob 30 = .ok (.goto 4, 3) := by decide +kernel
theorem dX11_knob_33 : decode cX11_knob 33 = .ok (.iconst (-1), 1) := by decide +kernel
theorem dX11_knob_34 : decode cX11_knob 34 = .ok (.ireturn, 1) := by decide +kernel
theorem dX11_owners_0 : decode cX11_owners 0 = .ok (.aload_n 0, 1) := by decide +kernel
theorem dX11_owners_1 : decode cX11_owners 1 = .ok (.aload_n 0, 1) := by decide +kernel
theorem dX11_owners_2 : decode cX11_owners 2 = .ok (.iload_n 1, 1) := by decide +kernel
theorem dX11_owners_3 : decode cX11_owners 3 = .ok (.invokevirtual 322, 3) := by decide +kernel
theorem dX11_owners_6 : decode cX11_owners 6 = .ok (.ifCond .eq 7, 3) := by decide +kernel
theorem dX11_owners_9 : decode cX11_owners 9 = .ok (.iconst 0, 1) := by decide +kernel
theorem dX11_owners_10 : decode cX11_owners 10 = .ok (.goto 4, 3) := by decide +kernel
theorem dX11_owners_13 : decode cX11_owners 13 = .ok (.iconst 1, 1) := by decide +kernel
theorem dX11_owners_14 : decode cX11_owners 14 = .ok (.putfield 62, 3) := by decide +kernel
theorem dX11_owners_17 : decode cX11_owners 17 = .ok (.aload_n 0, 1) := by decide +kernel
theorem dX11_owners_18 : decode cX11_owners 18 = .ok (.getfield 62, 3) := by decide +kernel
theorem dX11_owners_21 : decode cX11_owners 21 = .ok (.ifCond .ne 12, 3) := by decide +kernel
theorem dX11_owners_24 : decode cX11_owners 24 = .ok (.aload_n 0, 1) := by decide +kernel
theorem dX11_owners_25 : decode cX11_owners 25 = .ok (.iload_n 1, 1) := by decide +kernel
theorem dX11_owners_26 : decode cX11_owners 26 = .ok (.iconst 1, 1) := by decide +kernel
theorem dX11_owners_27 : decode cX11_owners 27 = .ok (.invokevirtual 325, 3) := by decide +kernel
theorem dX11_owners_30 : decode cX11_owners 30 = .ok (.goto 4, 3) := by decide +kernel
theorem dX11_owners_33 : decode cX11_owners 33 = .ok (.iconst (-1), 1) := by decide +kernel
theorem dX11_owners_34 : decode cX11_owners 34 = .ok (.ireturn, 1) := by decide +kernel
theorem dX11_wins_0 : decode cX11_wins 0 = .ok (.aload_n 0, 1) := by decide +kernel
theorem dX11_wins_1 : decode cX11_wins 1 = .ok (.aload_n 0, 1) := by decide +kernel
theorem dX11_wins_2 : decode cX11_wins 2 = .ok (.iload_n 1, 1) := by decide +kernel
theorem dX11_wins_3 : decode cX11_wins 3 = .ok (.invokevirtual 139, 3) := by decide +kernel
theorem dX11_wins_6 : decode cX11_wins 6 = .ok (.ifCond .eq 11, 3) := by decide +kernel
theorem dX11_wins_9 : decode cX11_wins 9 = .ok (.iload_n 2, 1) := by decide +kernel
theorem dX11_wins_10 : decode cX11_wins 10 = .ok (.iload_n 3, 1) := by decide +kernel
theorem dX11_wins_11 : decode cX11_wins 11 = .ok (.invokestatic 329, 3) := by decide +kernel
theorem dX11_wins_14 : decode cX11_wins 14 = .ok (.goto 4, 3) := by decide +kernel
theorem dX11_wins_17 : decode cX11_wins 17 = .ok (.iconst 1, 1) := by decide +kernel
theorem dX11_wins_18 : decode cX11_wins 18 = .ok (.putfield 62, 3) := by decide +kernel
theorem dX11_wins_21 : decode cX11_wins 21 = .ok (.aload_n 0, 1) := by decide +kernel
theorem dX11_wins_22 : decode cX11_wins 22 = .ok (.getfield 62, 3) := by decide +kernel
theorem dX11_wins_25 : decode cX11_wins 25 = .ok (.ifCond .eq 5, 3) := by decide +kernel
theorem dX11_wins_28 : decode cX11_wins 28 = .ok (.iconst (-1), 1) := by decide +kernel
theorem dX11_wins_29 : decode cX11_wins 29 = .ok (.ireturn, 1) := by decide +kernel
theorem dX11_wins_30 : decode cX11_wins 30 = .ok (.aload_n 0, 1) := by decide +kernel
theorem dX11_wins_31 : decode cX11_wins 31 = .ok (.iload_n 2, 1) := by decide +kernel
theorem dX11_wins_32 : decode cX11_wins 32 = .ok (.iload_n 3, 1) := by decide +kernel
theorem dX11_wins_33 : decode cX11_wins 33 = .ok (.invokevirtual 332, 3) := by decide +kernel
theorem dX11_wins_36 : decode cX11_wins 36 = .ok (.aload_n 0, 1) := by decide +kernel
theorem dX11_wins_37 : decode cX11_wins 37 = .ok (.getfield 51, 3) := by decide +kernel
theorem dX11_wins_40 : decode cX11_wins 40 = .ok (.iload_n 1, 1) := by decide +kernel
theorem dX11_wins_41 : decode cX11_wins 41 = .ok (.iaload, 1) := by decide +kernel
theorem dX11_wins_42 : decode cX11_wins 42 = .ok (.ireturn, 1) := by decide +kernel
theorem dX11_spoilt_0 : decode cX11_spoilt 0 = .ok (.aload_n 0, 1) := by decide +kernel
theorem dX11_spoilt_1 : decode cX11_spoilt 1 = .ok (.aload_n 0, 1) := by decide +kernel
theorem dX11_spoilt_2 : decode cX11_spoilt 2 = .ok (.invokevirtual 284, 3) := by decide +kernel
theorem dX11_spoilt_5 : decode cX11_spoilt 5 = .ok (.ifCond .eq 11, 3) := by decide +kernel
theorem dX11_spoilt_8 : decode cX11_spoilt 8 = .ok (.iload_n 1, 1) := by decide +kernel
theorem dX11_spoilt_9 : decode cX11_spoilt 9 = .ok (.iload_n 2, 1) := by decide +kernel
theorem dX11_spoilt_10 : decode cX11_spoilt 10 = .ok (.invokestatic 329, 3) := by decide +kernel
theorem dX11_spoilt_13 : decode cX11_spoilt 13 = .ok (.goto 4, 3) := by decide +kernel
theorem dX11_spoilt_16 : decode cX11_spoilt 16 = .ok (.iconst 1, 1) := by decide +kernel
theorem dX11_spoilt_17 : decode cX11_spoilt 17 = .ok (.putfield 62, 3) := by decide +kernel
theorem dX11_spoilt_20 : decode cX11_spoilt 20 = .ok (.aload_n 0, 1) := by decide +kernel
theorem dX11_spoilt_21 : decode cX11_spoilt 21 = .ok (.getfield 62, 3) := by decide +kernel
theorem dX11_spoilt_24 : decode cX11_spoilt 24 = .ok (.ifCond .eq 5, 3) := by decide +kernel
theorem dX11_spoilt_27 : decode cX11_spoilt 27 = .ok (.iconst (-1), 1) := by decide +kernel
theorem dX11_spoilt_28 : decode cX11_spoilt 28 = .ok (.ireturn, 1) := by decide +kernel
theorem dX11_spoilt_29 : decode cX11_spoilt 29 = .ok (.aload_n 0, 1) := by decide +kernel
theorem dX11_spoilt_30 : decode cX11_spoilt 30 = .ok (.iload_n 1, 1) := by decide +kernel
theorem dX11_spoilt_31 : decode cX11_spoilt 31 = .ok (.iload_n 2, 1) := by decide +kernel
theorem dX11_spoilt_32 : decode cX11_spoilt 32 = .ok (.invokevirtual 332, 3) := by decide +kernel
theorem dX11_spoilt_35 : decode cX11_spoilt 35 = .ok (.iload_n 3, 1) := by decide +kernel
theorem dX11_spoilt_36 : decode cX11_spoilt 36 = .ok (.ifCond .eq 13, 3) := by decide +kernel
theorem dX11_spoilt_39 : decode cX11_spoilt 39 = .ok (.aload_n 0, 1) := by decide +kernel
theorem dX11_spoilt_40 : decode cX11_spoilt 40 = .ok (.getfield 51, 3) := by decide +kernel
theorem dX11_spoilt_43 : decode cX11_spoilt 43 = .ok (.bipush 7, 2) := by decide +kernel
theorem dX11_spoilt_45 : decode cX11_spoilt 45 = .ok (.iaload, 1) := by decide +kernel
theorem dX11_spoilt_46 : decode cX11_spoilt 46 = .ok (.goto 10, 3) := by decide +kernel
theorem dX11_spoilt_49 : decode cX11_spoilt 49 = .ok (.aload_n 0, 1) := by decide +kernel
theorem dX11_spoilt_50 : decode cX11_spoilt 50 = .ok (.getfield 51, 3) := by decide +kernel
theorem dX11_spoilt_53 : decode cX11_spoilt 53 = .ok (.bipush 6, 2) := by decide +kernel
theorem dX11_spoilt_55 : decode cX11_spoilt 55 = .ok (.iaload, 1) := by decide +kernel
theorem dX11_spoilt_56 : decode cX11_spoilt 56 = .ok (.ireturn, 1) := by decide +kernel
section
variable {X : ab_X} {d : Nat} {σ : ab_S} {Q : Option ab_V → ab_S → Prop} {L st : List ab_V} {a b z v i j x1 x2 x3 x4 x5 x6 x7 x8 : Int} {l0 l1 l2 l3 l4 l5 l6 l7 l8 l9 l10 l11 l12 l13 l14 l15 l16 l17 l18 l19 l20 : ab_V}
theorem kc_X11_feed : ab_code 80 = cX11_feed := rfl
theorem ko_X11_feed : ab_ow 80 = 11 := rfl
theorem rX11_feed_0 : ab_Run X 80 0 (2, 0, 0) [ab_R z, l1, l2, l3, l4, l5, l6] st σ Q ↔ z ≠ 0 ∧ ab_Run X 80 1 (2, 0, 0) [ab_R z, l1, l2, l3, l4, l5, l6] (ab_R z :: st) σ Q := ab_r_aload_n rfl kc_X11_feed dX11_feed_0
theorem rX11_feed_1 : ab_Run X 80 1 (2, 0, 0) L (ab_R a :: st) σ Q ↔ (ab_sh σ a).1 = 12 ∧ ab_Run X 80 4 (2, 0, 0) L (ab_R (ab_rd σ a 0) :: st) σ Q := gF_11_10 ko_X11_feed kc_X11_feed dX11_feed_1
theorem rX11_feed_4 : ab_Run X 80 4 (2, 0, 0) L (ab_R a :: st) σ Q ↔ (ab_sh σ a).1 = 8 ∧ ab_Run X 80 7 (2, 0, 0) L (ab_R (ab_rd σ a 0) :: st) σ Q := gF_11_66 ko_X11_feed kc_X11_feed dX11_feed_4
theorem rX11_feed_7 : ab_Run X 80 7 (2, 0, 0) [l0, l1, l2, l3, l4, l5, l6] (ab_R z :: st) σ Q ↔ (!ab_isJ l5) = true ∧ ab_Run X 80 9 (2, 0, 0) [l0, l1, l2, l3, l4, l5, ab_R z] st σ Q := ab_r_astore (Nat.le_of_ble_eq_true rfl) kc_X11_feed dX11_feed_7
theorem rX11_feed_9 : ab_Run X 80 9 (2, 0, 0) [l0, l1, l2, l3, l4, l5, ab_R z] st σ Q ↔ z ≠ 0 ∧ ab_Run X 80 11 (2, 0, 0) [l0, l1, l2, l3, l4, l5, ab_R z] (ab_R z :: st) σ Q := ab_r_aload rfl kc_X11_feed dX11_feed_9
theorem rX11_feed_11 : ab_Run X 80 11 (2, 0, 0) L st σ Q ↔ ab_Run X 80 13 (2, 0, 0) L (ab_I 20 :: st) σ Q := ab_r_bipush (by decide) kc_X11_feed dX11_feed_11
theorem rX11_feed_13 : ab_Run X 80 13 (2, 0, 0) L (ab_I x1 :: ab_R a :: st) σ Q ↔ ((ab_sh σ a).1 = 10 ∧ ab_cats st ≤ 8) ∧ ab_Do X 67 [ab_R a, ab_I x1] σ (fun r σ' => ab_Run X 80 16 (2, 0, 0) L (ab_psh r st) σ' Q) := ab_r_callV (w := [ab_I x1]) (as := [ab_I x1]) (b1 := (0, 0, 0)) 0 (Or.inl rfl) (by decide) ko_X11_feed qM_11_70 (by decide) rfl rfl rfl rfl rfl (by decide) (Nat.le_of_ble_eq_true rfl) kc_X11_feed dX11_feed_13
theorem rX11_feed_16 : ab_Run X 80 16 (2, 0, 0) L (ab_I a :: st) σ Q ↔ (¬ a = 0 → ab_Run X 80 21 (2, 0, 0) L st σ Q) ∧ (¬ (¬ a = 0) → ab_Run X 80 19 (2, 0, 0) L st σ Q) := ab_r_if_ne rfl kc_X11_feed dX11_feed_16
theorem rX11_feed_19 : ab_Run X 80 19 (2, 0, 0) L st σ Q ↔ ab_Run X 80 20 (2, 0, 0) L (ab_I (-1) :: st) σ Q := ab_r_iconst (by decide) kc_X11_feed dX11_feed_19
theorem rX11_feed_20 : ab_Run X 80 20 (2, 0, 0) L [ab_I v] σ Q ↔ Q (some (ab_I v)) σ := ab_r_ireturnI rfl kc_X11_feed dX11_feed_20
theorem rX11_feed_21 : ab_Run X 80 21 (2, 0, 0) [l0, l1, l2, l3, l4, l5, ab_R z] st σ Q ↔ z ≠ 0 ∧ ab_Run X 80 23 (2, 0, 0) [l0, l1, l2, l3, l4, l5, ab_R z] (ab_R z :: st) σ Q := ab_r_aload rfl kc_X11_feed dX11_feed_21
theorem rX11_feed_23 : ab_Run X 80 23 (2, 0, 0) [l0, ab_I z, l2, l3, l4, l5, l6] st σ Q ↔ ab_Run X 80 24 (2, 0, 0) [l0, ab_I z, l2, l3, l4, l5, l6] (ab_I z :: st) σ Q := ab_r_iload_n rfl kc_X11_feed dX11_feed_23
theorem rX11_feed_24 : ab_Run X 80 24 (2, 0, 0) L (ab_I x1 :: ab_R a :: st) σ Q ↔ ((ab_sh σ a).1 = 10 ∧ ab_cats st ≤ 8) ∧ ab_Do X 68 [ab_R a, ab_I x1] σ (fun r σ' => ab_Run X 80 27 (2, 0, 0) L (ab_psh r st) σ' Q) := ab_r_callV (w := [ab_I x1]) (as := [ab_I x1]) (b1 := (1, 0, 0)) 0 (Or.inl rfl) (by decide) ko_X11_feed qM_11_76 (by decide) rfl rfl rfl rfl rfl (by decide) (Nat.le_of_ble_eq_true rfl) kc_X11_feed dX11_feed_24
theorem rX11_feed_27 : ab_Run X 80 27 (2, 0, 0) [l0, l1, l2, l3, l4, l5, ab_R z] st σ Q ↔ z ≠ 0 ∧ ab_Run X 80 29 (2, 0, 0) [l0, l1, l2, l3, l4, l5, ab_R z] (ab_R z :: st) σ Q := ab_r_aload rfl kc_X11_feed dX11_feed_27
theorem rX11_feed_29 : ab_Run X 80 29 (2, 0, 0) [l0, l1, ab_I z, l3, l4, l5, l6] st σ Q ↔ ab_Run X 80 30 (2, 0, 0) [l0, l1, ab_I z, l3, l4, l5, l6] (ab_I z :: st) σ Q := ab_r_iload_n rfl kc_X11_feed dX11_feed_29
theorem rX11_feed_30 : ab_Run X 80 30 (2, 0, 0) L (ab_I x1 :: ab_R a :: st) σ Q ↔ ((ab_sh σ a).1 = 10 ∧ ab_cats st ≤ 8) ∧ ab_Do X 68 [ab_R a, ab_I x1] σ (fun r σ' => ab_Run X 80 33 (2, 0, 0) L (ab_psh r st) σ' Q) := ab_r_callV (w := [ab_I x1]) (as := [ab_I x1]) (b1 := (1, 0, 0)) 0 (Or.inl rfl) (by decide) ko_X11_feed qM_11_76 (by decide) rfl rfl rfl rfl rfl (by decide) (Nat.le_of_ble_eq_true rfl) kc_X11_feed dX11_feed_30
theorem rX11_feed_33 : ab_Run X 80 33 (2, 0, 0) [l0, l1, l2, l3, l4, l5, ab_R z] st σ Q ↔ z ≠ 0 ∧ ab_Run X 80 35 (2, 0, 0) [l0, l1, l2, l3, l4, l5, ab_R z] (ab_R z :: st) σ Q := ab_r_aload rfl kc_X11_feed dX11_feed_33
theorem rX11_feed_35 : ab_Run X 80 35 (2, 0, 0) [l0, l1, l2, ab_I z, l4, l5, l6] st σ Q ↔ ab_Run X 80 36 (2, 0, 0) [l0, l1, l2, ab_I z, l4, l5, l6] (ab_I z :: st) σ Q := ab_r_iload_n rfl kc_X11_feed dX11_feed_35
theorem rX11_feed_36 : ab_Run X 80 36 (2, 0, 0) L (ab_I x1 :: ab_R a :: st) σ Q ↔ ((ab_sh σ a).1 = 10 ∧ ab_cats st ≤ 8) ∧ ab_Do X 68 [ab_R a, ab_I x1] σ (fun r σ' => ab_Run X 80 39 (2, 0, 0) L (ab_psh r st) σ' Q) := ab_r_callV (w := [ab_I x1]) (as := [ab_I x1]) (b1 := (1, 0, 0)) 0 (Or.inl rfl) (by decide) ko_X11_feed qM_11_76 (by decide) rfl rfl rfl rfl rfl (by decide) (Nat.le_of_ble_eq_true rfl) kc_X11_feed dX11_feed_36
theorem rX11_feed_39 : ab_Run X 80 39 (2, 0, 0) [l0, l1, l2, l3, l4, l5, ab_R z] st σ Q ↔ z ≠ 0 ∧ ab_Run X 80 41 (2, 0, 0) [l0, l1, l2, l3, l4, l5, ab_R z] (ab_R z :: st) σ Q := ab_r_aload rfl kc_X11_feed dX11_feed_39
theorem rX11_feed_41 : ab_Run X 80 41 (2, 0, 0) [l0, l1, l2, l3, ab_I z, l5, l6] st σ Q ↔ ab_Run X 80 43 (2, 0, 0) [l0, l1, l2, l3, ab_I z, l5, l6] (ab_I z :: st) σ Q := ab_r_iload rfl kc_X11_feed dX11_feed_41
theorem rX11_feed_43 : ab_Run X 80 43 (2, 0, 0) L (ab_I x1 :: ab_R a :: st) σ Q ↔ ((ab_sh σ a).1 = 10 ∧ ab_cats st ≤ 8) ∧ ab_Do X 68 [ab_R a, ab_I x1] σ (fun r σ' => ab_Run X 80 46 (2, 0, 0) L (ab_psh r st) σ' Q) := ab_r_callV (w := [ab_I x1]) (as := [ab_I x1]) (b1 := (1, 0, 0)) 0 (Or.inl rfl) (by decide) ko_X11_feed qM_11_76 (by decide) rfl rfl rfl rfl rfl (by decide) (Nat.le_of_ble_eq_true rfl) kc_X11_feed dX11_feed_43
theorem rX11_feed_46 : ab_Run X 80 46 (2, 0, 0) [l0, l1, l2, l3, l4, l5, ab_R z] st σ Q ↔ z ≠ 0 ∧ ab_Run X 80 48 (2, 0, 0) [l0, l1, l2, l3, l4, l5, ab_R z] (ab_R z :: st) σ Q := ab_r_aload rfl kc_X11_feed dX11_feed_46
theorem rX11_feed_48 : ab_Run X 80 48 (2, 0, 0) [l0, l1, l2, l3, l4, ab_I z, l6] st σ Q ↔ ab_Run X 80 50 (2, 0, 0) [l0, l1, l2, l3, l4, ab_I z, l6] (ab_I z :: st) σ Q := ab_r_iload rfl kc_X11_feed dX11_feed_48
theorem rX11_feed_50 : ab_Run X 80 50 (2, 0, 0) L (ab_I x1 :: ab_R a :: st) σ Q ↔ ((ab_sh σ a).1 = 10 ∧ ab_cats st ≤ 8) ∧ ab_Do X 68 [ab_R a, ab_I x1] σ (fun r σ' => ab_Run X 80 53 (2, 0, 0) L (ab_psh r st) σ' Q) := ab_r_callV (w := [ab_I x1]) (as := [ab_I x1]) (b1 := (1, 0, 0)) 0 (Or.inl rfl) (by decide) ko_X11_feed qM_11_76 (by decide) rfl rfl rfl rfl rfl (by decide) (Nat.le_of_ble_eq_true rfl) kc_X11_feed dX11_feed_50
theorem rX11_feed_53 : ab_Run X 80 53 (2, 0, 0) [l0, l1, l2, l3, l4, l5, ab_R z] st σ Q ↔ z ≠ 0 ∧ ab_Run X 80 55 (2, 0, 0) [l0, l1, l2, l3, l4, l5, ab_R z] (ab_R z :: st) σ Q := ab_r_aload rfl kc_X11_feed dX11_feed_53
theorem rX11_feed_55 : ab_Run X 80 55 (2, 0, 0) L (ab_R a :: st) σ Q ↔ (ab_sh σ a).1 = 10 ∧ ab_Run X 80 58 (2, 0, 0) L (ab_I (ab_rd σ a 1) :: st) σ Q := gF_11_80 ko_X11_feed kc_X11_feed dX11_feed_55
theorem rX11_feed_58 : ab_Run X 80 58 (2, 0, 0) L [ab_I v] σ Q ↔ Q (some (ab_I v)) σ := ab_r_ireturnI rfl kc_X11_feed dX11_feed_58
theorem kc_X11_kitchen : ab_code 81 = cX11_kitchen := rfl
theorem ko_X11_kitchen : ab_ow 81 = 11 := rfl
theorem rX11_kitchen_0 : ab_Run X 81 0 (16, 0, 0) [l0, ab_I z, l2, l3] st σ Q ↔ ab_Run X 81 1 (16, 0, 0) [l0, ab_I z, l2, l3] (ab_I z :: st) σ Q := ab_r_iload_n rfl kc_X11_kitchen dX11_kitchen_0
theorem rX11_kitchen_1 : ab_Run X 81 1 (16, 0, 0) L (ab_I a :: st) σ Q ↔ (a < 0 → ab_Run X 81 18 (16, 0, 0) L st σ Q) ∧ (¬ (a < 0) → ab_Run X 81 4 (16, 0, 0) L st σ Q) := ab_r_if_lt rfl kc_X11_kitchen dX11_kitchen_1
theorem rX11_kitchen_4 : ab_Run X 81 4 (16, 0, 0) [l0, ab_I z, l2, l3] st σ Q ↔ ab_Run X 81 5 (16, 0, 0) [l0, ab_I z, l2, l3] (ab_I z :: st) σ Q := ab_r_iload_n rfl kc_X11_kitchen dX11_kitchen_4
theorem rX11_kitchen_5 : ab_Run X 81 5 (16, 0, 0) [ab_R z, l1, l2, l3] st σ Q ↔ z ≠ 0 ∧ ab_Run X 81 6 (16, 0, 0) [ab_R z, l1, l2, l3] (ab_R z :: st) σ Q := ab_r_aload_n rfl kc_X11_kitchen dX11_kitchen_5
theorem rX11_kitchen_6 : ab_Run X 81 6 (16, 0, 0) L (ab_R a :: st) σ Q ↔ (ab_sh σ a).1 = 12 ∧ ab_Run X 81 9 (16, 0, 0) L (ab_R (ab_rd σ a 0) :: st) σ Q := gF_11_10 ko_X11_kitchen kc_X11_kitchen dX11_kitchen_6
theorem rX11_kitchen_9 : ab_Run X 81 9 (16, 0, 0) L (ab_R a :: st) σ Q ↔ (ab_sh σ a).1 = 8 ∧ ab_Run X 81 12 (16, 0, 0) L (ab_R (ab_rd σ a 0) :: st) σ Q := gF_11_66 ko_X11_kitchen kc_X11_kitchen dX11_kitchen_9
theorem rX11_kitchen_12 : ab_Run X 81 12 (16, 0, 0) L (ab_R a :: st) σ Q ↔ (ab_sh σ a).1 = 10 ∧ ab_Run X 81 15 (16, 0, 0) L (ab_I (ab_rd σ a 1) :: st) σ Q := gF_11_80 ko_X11_kitchen kc_X11_kitchen dX11_kitchen_12
theorem rX11_kitchen_15 : ab_Run X 81 15 (16, 0, 0) L (ab_I b :: ab_I a :: st) σ Q ↔ (a ≤ b → ab_Run X 81 24 (16, 0, 0) L st σ Q) ∧ (¬ (a ≤ b) → ab_Run X 81 18 (16, 0, 0) L st σ Q) := ab_r_icmp_le rfl kc_X11_kitchen dX11_kitchen_15
theorem rX11_kitchen_18 : ab_Run X 81 18 (16, 0, 0) [ab_R z, l1, l2, l3] st σ Q ↔ z ≠ 0 ∧ ab_Run X 81 19 (16, 0, 0) [ab_R z, l1, l2, l3] (ab_R z :: st) σ Q := ab_r_aload_n rfl kc_X11_kitchen dX11_kitchen_18
theorem rX11_kitchen_19 : ab_Run X 81 19 (16, 0, 0) L st σ Q ↔ ab_Run X 81 20 (16, 0, 0) L (ab_I 2 :: st) σ Q := ab_r_iconst (by decide) kc_X11_kitchen dX11_kitchen_19
theorem rX11_kitchen_20 : ab_Run X 81 20 (16, 0, 0) L (ab_I x1 :: ab_R a :: st) σ Q ↔ ((ab_sh σ a).1 = 12 ∧ ab_cats st ≤ 8) ∧ ab_Do X 124 [ab_R a, ab_I x1] σ (fun r σ' => ab_Run X 81 23 (16, 0, 0) L (ab_psh r st) σ' Q) := ab_r_callV (w := [ab_I x1]) (as := [ab_I x1]) (b1 := (0, 0, 0)) 0 (Or.inl rfl) (by decide) ko_X11_kitchen qM_11_83 (by decide) rfl rfl rfl rfl rfl (by decide) (Nat.le_of_ble_eq_true rfl) kc_X11_kitchen dX11_kitchen_20
theorem rX11_kitchen_23 : ab_Run X 81 23 (16, 0, 0) L [ab_I v] σ Q ↔ Q (some (ab_I v)) σ := ab_r_ireturnI rfl kc_X11_kitchen dX11_kitchen_23
theorem rX11_kitchen_24 : ab_Run X 81 24 (16, 0, 0) [ab_R z, l1, l2, l3] st σ Q ↔ z ≠ 0 ∧ ab_Run X 81 25 (16, 0, 0) [ab_R z, l1, l2, l3] (ab_R z :: st) σ Q := ab_r_aload_n rfl kc_X11_kitchen dX11_kitchen_24
theorem rX11_kitchen_25 : ab_Run X 81 25 (16, 0, 0) L (ab_R a :: st) σ Q ↔ (ab_sh σ a).1 = 12 ∧ ab_Run X 81 28 (16, 0, 0) L (ab_R (ab_rd σ a 0) :: st) σ Q := gF_11_10 ko_X11_kitchen kc_X11_kitchen dX11_kitchen_25
theorem rX11_kitchen_28 : ab_Run X 81 28 (16, 0, 0) [l0, ab_I z, l2, l3] st σ Q ↔ ab_Run X 81 29 (16, 0, 0) [l0, ab_I z, l2, l3] (ab_I z :: st) σ Q := ab_r_iload_n rfl kc_X11_kitchen dX11_kitchen_28
theorem rX11_kitchen_29 : ab_Run X 81 29 (16, 0, 0) L (ab_I x1 :: ab_R a :: st) σ Q ↔ ((ab_sh σ a).1 = 8 ∧ ab_cats st ≤ 8) ∧ ab_Do X 42 [ab_R a, ab_I x1] σ (fun r σ' => ab_Run X 81 32 (16, 0, 0) L (ab_psh r st) σ' Q) := ab_r_callV (w := [ab_I x1]) (as := [ab_I x1]) (b1 := (15, 0, 0)) 0 (Or.inl rfl) (by decide) ko_X11_kitchen qM_11_87 (by decide) rfl rfl rfl rfl rfl (by decide) (Nat.le_of_ble_eq_true rfl) kc_X11_kitchen dX11_kitchen_29
theorem rX11_kitchen_32 : ab_Run X 81 32 (16, 0, 0) [l0, l1, l2, l3] (ab_I z :: st) σ Q ↔ (!ab_isJ l1) = true ∧ ab_Run X 81 33 (16, 0, 0) [l0, l1, ab_I z, l3] st σ Q := ab_r_istore_n (Nat.le_of_ble_eq_true rfl) kc_X11_kitchen dX11_kitchen_32
theorem rX11_kitchen_33 : ab_Run X 81 33 (16, 0, 0) [ab_R z, l1, l2, l3] st σ Q ↔ z ≠ 0 ∧ ab_Run X 81 34 (16, 0, 0) [ab_R z, l1, l2, l3] (ab_R z :: st) σ Q := ab_r_aload_n rfl kc_X11_kitchen dX11_kitchen_33
theorem rX11_kitchen_34 : ab_Run X 81 34 (16, 0, 0) L (ab_R a :: st) σ Q ↔ (ab_sh σ a).1 = 12 ∧ ab_Run X 81 37 (16, 0, 0) L (ab_R (ab_rd σ a 0) :: st) σ Q := gF_11_10 ko_X11_kitchen kc_X11_kitchen dX11_kitchen_34
theorem rX11_kitchen_37 : ab_Run X 81 37 (16, 0, 0) L (ab_R a :: st) σ Q ↔ (ab_sh σ a).1 = 8 ∧ ab_Run X 81 40 (16, 0, 0) L (ab_R (ab_rd σ a 0) :: st) σ Q := gF_11_66 ko_X11_kitchen kc_X11_kitchen dX11_kitchen_37
theorem rX11_kitchen_40 : ab_Run X 81 40 (16, 0, 0) L st σ Q ↔ ab_Run X 81 41 (16, 0, 0) L (ab_I 0 :: st) σ Q := ab_r_iconst (by decide) kc_X11_kitchen dX11_kitchen_40
theorem rX11_kitchen_41 : ab_Run X 81 41 (16, 0, 0) L (ab_I z :: ab_R a :: st) σ Q ↔ (ab_sh σ a).1 = 10 ∧ ab_Run X 81 44 (16, 0, 0) L st (ab_wr σ a 1 z) Q := sF_11_80 ko_X11_kitchen kc_X11_kitchen dX11_kitchen_41
theorem rX11_kitchen_44 : ab_Run X 81 44 (16, 0, 0) [l0, l1, ab_I z, l3] st σ Q ↔ ab_Run X 81 45 (16, 0, 0) [l0, l1, ab_I z, l3] (ab_I z :: st) σ Q := ab_r_iload_n rfl kc_X11_kitchen dX11_kitchen_44
theorem rX11_kitchen_45 : ab_Run X 81 45 (16, 0, 0) L (ab_I a :: st) σ Q ↔ (¬ a = 0 → ab_Run X 81 54 (16, 0, 0) L st σ Q) ∧ (¬ (¬ a = 0) → ab_Run X 81 48 (16, 0, 0) L st σ Q) := ab_r_if_ne rfl kc_X11_kitchen dX11_kitchen_45
theorem rX11_kitchen_48 : ab_Run X 81 48 (16, 0, 0) [ab_R z, l1, l2, l3] st σ Q ↔ z ≠ 0 ∧ ab_Run X 81 49 (16, 0, 0) [ab_R z, l1, l2, l3] (ab_R z :: st) σ Q := ab_r_aload_n rfl kc_X11_kitchen dX11_kitchen_48
theorem rX11_kitchen_49 : ab_Run X 81 49 (16, 0, 0) L st σ Q ↔ ab_Run X 81 50 (16, 0, 0) L (ab_I 4 :: st) σ Q := ab_r_iconst (by decide) kc_X11_kitchen dX11_kitchen_49
theorem rX11_kitchen_50 : ab_Run X 81 50 (16, 0, 0) L (ab_I x1 :: ab_R a :: st) σ Q ↔ ((ab_sh σ a).1 = 12 ∧ ab_cats st ≤ 8) ∧ ab_Do X 124 [ab_R a, ab_I x1] σ (fun r σ' => ab_Run X 81 53 (16, 0, 0) L (ab_psh r st) σ' Q) := ab_r_callV (w := [ab_I x1]) (as := [ab_I x1]) (b1 := (0, 0, 0)) 0 (Or.inl rfl) (by decide) ko_X11_kitchen qM_11_83 (by decide) rfl rfl rfl rfl rfl (by decide) (Nat.le_of_ble_eq_true rfl) kc_X11_kitchen dX11_kitchen_50
theorem rX11_kitchen_53 : ab_Run X 81 53 (16, 0, 0) L [ab_I v] σ Q ↔ Q (some (ab_I v)) σ := ab_r_ireturnI rfl kc_X11_kitchen dX11_kitchen_53
theorem rX11_kitchen_54 : ab_Run X 81 54 (16, 0, 0) [ab_R z, l1, l2, l3] st σ Q ↔ z ≠ 0 ∧ ab_Run X 81 55 (16, 0, 0) [ab_R z, l1, l2, l3] (ab_R z :: st) σ Q := ab_r_aload_n rfl kc_X11_kitchen dX11_kitchen_54
theorem rX11_kitchen_55 : ab_Run X 81 55 (16, 0, 0) L (ab_R a :: st) σ Q ↔ (ab_sh σ a).1 = 12 ∧ ab_Run X 81 58 (16, 0, 0) L (ab_R (ab_rd σ a 7) :: st) σ Q := gF_11_58 ko_X11_kitchen kc_X11_kitchen dX11_kitchen_55
theorem rX11_kitchen_58 : ab_Run X 81 58 (16, 0, 0) [l0, l1, l2, l3] (ab_R z :: st) σ Q ↔ (!ab_isJ l2) = true ∧ ab_Run X 81 59 (16, 0, 0) [l0, l1, l2, ab_R z] st σ Q := ab_r_astore_n (Nat.le_of_ble_eq_true rfl) kc_X11_kitchen dX11_kitchen_58
theorem rX11_kitchen_59 : ab_Run X 81 59 (16, 0, 0) [ab_R z, l1, l2, l3] st σ Q ↔ z ≠ 0 ∧ ab_Run X 81 60 (16, 0, 0) [ab_R z, l1, l2, l3] (ab_R z :: st) σ Q := ab_r_aload_n rfl kc_X11_kitchen dX11_kitchen_59
theorem rX11_kitchen_60 : ab_Run X 81 60 (16, 0, 0) [ab_R z, l1, l2, l3] st σ Q ↔ z ≠ 0 ∧ ab_Run X 81 61 (16, 0, 0) [ab_R z, l1, l2, l3] (ab_R z :: st) σ Q := ab_r_aload_n rfl kc_X11_kitchen dX11_kitchen_60
theorem rX11_kitchen_61 : ab_Run X 81 61 (16, 0, 0) L (ab_R a :: st) σ Q ↔ (ab_sh σ a).1 = 12 ∧ ab_Run X 81 64 (16, 0, 0) L (ab_R (ab_rd σ a 0) :: st) σ Q := gF_11_10 ko_X11_kitchen kc_X11_kitchen dX11_kitchen_61
theorem rX11_kitchen_64 : ab_Run X 81 64 (16, 0, 0) L (ab_R a :: st) σ Q ↔ (ab_sh σ a).1 = 8 ∧ ab_Run X 81 67 (16, 0, 0) L (ab_R (ab_rd σ a 1) :: st) σ Q := gF_11_90 ko_X11_kitchen kc_X11_kitchen dX11_kitchen_64
theorem rX11_kitchen_67 : ab_Run X 81 67 (16, 0, 0) L (ab_R z :: ab_R a :: st) σ Q ↔ (ab_sh σ a).1 = 12 ∧ ab_Run X 81 70 (16, 0, 0) L st (ab_wr σ a 7 z) Q := sF_11_58 ko_X11_kitchen kc_X11_kitchen dX11_kitchen_67
theorem rX11_kitchen_70 : ab_Run X 81 70 (16, 0, 0) [ab_R z, l1, l2, l3] st σ Q ↔ z ≠ 0 ∧ ab_Run X 81 71 (16, 0, 0) [ab_R z, l1, l2, l3] (ab_R z :: st) σ Q := ab_r_aload_n rfl kc_X11_kitchen dX11_kitchen_70
theorem rX11_kitchen_71 : ab_Run X 81 71 (16, 0, 0) L (ab_R a :: st) σ Q ↔ (ab_sh σ a).1 = 12 ∧ ab_Run X 81 74 (16, 0, 0) L (ab_R (ab_rd σ a 0) :: st) σ Q := gF_11_10 ko_X11_kitchen kc_X11_kitchen dX11_kitchen_71
theorem rX11_kitchen_74 : ab_Run X 81 74 (16, 0, 0) [l0, l1, l2, ab_R z] st σ Q ↔ z ≠ 0 ∧ ab_Run X 81 75 (16, 0, 0) [l0, l1, l2, ab_R z] (ab_R z :: st) σ Q := ab_r_aload_n rfl kc_X11_kitchen dX11_kitchen_74
theorem rX11_kitchen_75 : ab_Run X 81 75 (16, 0, 0) L (ab_R z :: ab_R a :: st) σ Q ↔ (ab_sh σ a).1 = 8 ∧ ab_Run X 81 78 (16, 0, 0) L st (ab_wr σ a 1 z) Q := sF_11_90 ko_X11_kitchen kc_X11_kitchen dX11_kitchen_75
theorem rX11_kitchen_78 : ab_Run X 81 78 (16, 0, 0) [ab_R z, l1, l2, l3] st σ Q ↔ z ≠ 0 ∧ ab_Run X 81 79 (16, 0, 0) [ab_R z, l1, l2, l3] (ab_R z :: st) σ Q := ab_r_aload_n rfl kc_X11_kitchen dX11_kitchen_78
theorem rX11_kitchen_79 : ab_Run X 81 79 (16, 0, 0) L (ab_R a :: st) σ Q ↔ (ab_sh σ a).1 = 12 ∧ ab_Run X 81 82 (16, 0, 0) L (ab_R (ab_rd σ a 1) :: st) σ Q := gF_11_19 ko_X11_kitchen kc_X11_kitchen dX11_kitchen_79
theorem rX11_kitchen_82 : ab_Run X 81 82 (16, 0, 0) [ab_R z, l1, l2, l3] st σ Q ↔ z ≠ 0 ∧ ab_Run X 81 83 (16, 0, 0) [ab_R z, l1, l2, l3] (ab_R z :: st) σ Q := ab_r_aload_n rfl kc_X11_kitchen dX11_kitchen_82
theorem rX11_kitchen_83 : ab_Run X 81 83 (16, 0, 0) L (ab_R a :: st) σ Q ↔ (ab_sh σ a).1 = 12 ∧ ab_Run X 81 86 (16, 0, 0) L (ab_R (ab_rd σ a 7) :: st) σ Q := gF_11_58 ko_X11_kitchen kc_X11_kitchen dX11_kitchen_83
theorem rX11_kitchen_86 : ab_Run X 81 86 (16, 0, 0) L (ab_R x1 :: ab_R a :: st) σ Q ↔ ((ab_sh σ a).1 = 9 ∧ ab_cats st ≤ 8) ∧ ab_Do X 62 [ab_R a, ab_R x1] σ (fun r σ' => ab_Run X 81 89 (16, 0, 0) L (ab_psh r st) σ' Q) := ab_r_callV (w := [ab_R x1]) (as := [ab_R x1]) (b1 := (0, 0, 0)) 0 (Or.inl rfl) (by decide) ko_X11_kitchen qM_11_93 (by decide) rfl rfl rfl rfl rfl (by decide) (Nat.le_of_ble_eq_true rfl) kc_X11_kitchen dX11_kitchen_86
theorem rX11_kitchen_89 : ab_Run X 81 89 (16, 0, 0) [ab_R z, l1, l2, l3] st σ Q ↔ z ≠ 0 ∧ ab_Run X 81 90 (16, 0, 0) [ab_R z, l1, l2, l3] (ab_R z :: st) σ Q := ab_r_aload_n rfl kc_X11_kitchen dX11_kitchen_89
theorem rX11_kitchen_90 : ab_Run X 81 90 (16, 0, 0) L (ab_R a :: st) σ Q ↔ (ab_sh σ a).1 = 12 ∧ ab_Run X 81 93 (16, 0, 0) L (ab_R (ab_rd σ a 2) :: st) σ Q := gF_11_26 ko_X11_kitchen kc_X11_kitchen dX11_kitchen_90
theorem rX11_kitchen_93 : ab_Run X 81 93 (16, 0, 0) L (ab_R a :: st) σ Q ↔ ((ab_sh σ a).1 = 4 ∧ ab_cats st ≤ 8) ∧ ab_Do X 20 [ab_R a] σ (fun r σ' => ab_Run X 81 96 (16, 0, 0) L (ab_psh r st) σ' Q) := ab_r_callV (w := []) (as := []) (b1 := (0, 0, 0)) 0 (Or.inl rfl) (by decide) ko_X11_kitchen qM_11_97 (by decide) rfl rfl rfl rfl rfl (by decide) (Nat.le_of_ble_eq_true rfl) kc_X11_kitchen dX11_kitchen_93
theorem rX11_kitchen_96 : ab_Run X 81 96 (16, 0, 0) [ab_R z, l1, l2, l3] st σ Q ↔ z ≠ 0 ∧ ab_Run X 81 97 (16, 0, 0) [ab_R z, l1, l2, l3] (ab_R z :: st) σ Q := ab_r_aload_n rfl kc_X11_kitchen dX11_kitchen_96
theorem rX11_kitchen_97 : ab_Run X 81 97 (16, 0, 0) L st σ Q ↔ ab_Run X 81 98 (16, 0, 0) L (ab_I 0 :: st) σ Q := ab_r_iconst (by decide) kc_X11_kitchen dX11_kitchen_97
theorem rX11_kitchen_98 : ab_Run X 81 98 (16, 0, 0) L (ab_I z :: ab_R a :: st) σ Q ↔ (ab_sh σ a).1 = 12 ∧ ab_Run X 81 101 (16, 0, 0) L st (ab_wr σ a 8 z) Q := sF_11_62 ko_X11_kitchen kc_X11_kitchen dX11_kitchen_98
theorem rX11_kitchen_101 : ab_Run X 81 101 (16, 0, 0) [ab_R z, l1, l2, l3] st σ Q ↔ z ≠ 0 ∧ ab_Run X 81 102 (16, 0, 0) [ab_R z, l1, l2, l3] (ab_R z :: st) σ Q := ab_r_aload_n rfl kc_X11_kitchen dX11_kitchen_101
theorem rX11_kitchen_102 : ab_Run X 81 102 (16, 0, 0) L (ab_R a :: st) σ Q ↔ (ab_sh σ a).1 = 12 ∧ ab_Run X 81 105 (16, 0, 0) L (ab_R (ab_rd σ a 7) :: st) σ Q := gF_11_58 ko_X11_kitchen kc_X11_kitchen dX11_kitchen_102
theorem rX11_kitchen_105 : ab_Run X 81 105 (16, 0, 0) L (ab_R a :: st) σ Q ↔ (ab_sh σ a).1 = 5 ∧ ab_Run X 81 108 (16, 0, 0) L (ab_I (ab_rd σ a 5) :: st) σ Q := gF_11_100 ko_X11_kitchen kc_X11_kitchen dX11_kitchen_105
theorem rX11_kitchen_108 : ab_Run X 81 108 (16, 0, 0) L [ab_I v] σ Q ↔ Q (some (ab_I v)) σ := ab_r_ireturnI rfl kc_X11_kitchen dX11_kitchen_108
theorem kc_X11_fault : ab_code 82 = cX11_fault := rfl
theorem ko_X11_fault : ab_ow 82 = 11 := rfl
theorem rX11_fault_0 : ab_Run X 82 0 (0, 0, 0) [ab_R z] st σ Q ↔ z ≠ 0 ∧ ab_Run X 82 1 (0, 0, 0) [ab_R z] (ab_R z :: st) σ Q := ab_r_aload_n rfl kc_X11_fault dX11_fault_0
theorem rX11_fault_1 : ab_Run X 82 1 (0, 0, 0) L (ab_R a :: st) σ Q ↔ (ab_sh σ a).1 = 12 ∧ ab_Run X 82 4 (0, 0, 0) L (ab_R (ab_rd σ a 0) :: st) σ Q := gF_11_10 ko_X11_fault kc_X11_fault dX11_fault_1
theorem rX11_fault_4 : ab_Run X 82 4 (0, 0, 0) L (ab_R a :: st) σ Q ↔ (ab_sh σ a).1 = 8 ∧ ab_Run X 82 7 (0, 0, 0) L (ab_I (ab_rd σ a 2) :: st) σ Q := gF_11_103 ko_X11_fault kc_X11_fault dX11_fault_4
theorem rX11_fault_7 : ab_Run X 82 7 (0, 0, 0) L [ab_I v] σ Q ↔ Q (some (ab_I v)) σ := ab_r_ireturnI rfl kc_X11_fault dX11_fault_7
theorem kc_X11_where : ab_code 83 = cX11_where := rfl
theorem ko_X11_where : ab_ow 83 = 11 := rfl
theorem rX11_where_0 : ab_Run X 83 0 (0, 0, 0) [ab_R z] st σ Q ↔ z ≠ 0 ∧ ab_Run X 83 1 (0, 0, 0) [ab_R z] (ab_R z :: st) σ Q := ab_r_aload_n rfl kc_X11_where dX11_where_0
theorem rX11_where_1 : ab_Run X 83 1 (0, 0, 0) L (ab_R a :: st) σ Q ↔ (ab_sh σ a).1 = 12 ∧ ab_Run X 83 4 (0, 0, 0) L (ab_I (ab_rd σ a 8) :: st) σ Q := gF_11_62 ko_X11_where kc_X11_where dX11_where_1
theorem rX11_where_4 : ab_Run X 83 4 (0, 0, 0) L st σ Q ↔ ab_Run X 83 5 (0, 0, 0) L (ab_I 4 :: st) σ Q := ab_r_iconst (by decide) kc_X11_where dX11_where_4
theorem rX11_where_5 : ab_Run X 83 5 (0, 0, 0) L (ab_I b :: ab_I a :: st) σ Q ↔ (¬ a = b → ab_Run X 83 18 (0, 0, 0) L st σ Q) ∧ (¬ (¬ a = b) → ab_Run X 83 8 (0, 0, 0) L st σ Q) := ab_r_icmp_ne rfl kc_X11_where dX11_where_5
theorem rX11_where_8 : ab_Run X 83 8 (0, 0, 0) [ab_R z] st σ Q ↔ z ≠ 0 ∧ ab_Run X 83 9 (0, 0, 0) [ab_R z] (ab_R z :: st) σ Q := ab_r_aload_n rfl kc_X11_where dX11_where_8
theorem rX11_where_9 : ab_Run X 83 9 (0, 0, 0) L (ab_R a :: st) σ Q ↔ (ab_sh σ a).1 = 12 ∧ ab_Run X 83 12 (0, 0, 0) L (ab_R (ab_rd σ a 0) :: st) σ Q := gF_11_10 ko_X11_where kc_X11_where dX11_where_9
theorem rX11_where_12 : ab_Run X 83 12 (0, 0, 0) L (ab_R a :: st) σ Q ↔ (ab_sh σ a).1 = 8 ∧ ab_Run X 83 15 (0, 0, 0) L (ab_I (ab_rd σ a 3) :: st) σ Q := gF_11_106 ko_X11_where kc_X11_where dX11_where_12
theorem rX11_where_15 : ab_Run X 83 15 (0, 0, 0) L st σ Q ↔ ab_Run X 83 19 (0, 0, 0) L st σ Q := ab_r_goto rfl kc_X11_where dX11_where_15
theorem rX11_where_18 : ab_Run X 83 18 (0, 0, 0) L st σ Q ↔ ab_Run X 83 19 (0, 0, 0) L (ab_I (-1) :: st) σ Q := ab_r_iconst (by decide) kc_X11_where dX11_where_18
theorem rX11_where_19 : ab_Run X 83 19 (0, 0, 0) L [ab_I v] σ Q ↔ Q (some (ab_I v)) σ := ab_r_ireturnI rfl kc_X11_where dX11_where_19
theorem kc_X11_bone : ab_code 84 = cX11_bone := rfl
theorem ko_X11_bone : ab_ow 84 = 11 := rfl
theorem rX11_bone_0 : ab_Run X 84 0 (1, 0, 0) [ab_R z, l1, l2] st σ Q ↔ z ≠ 0 ∧ ab_Run X 84 1 (1, 0, 0) [ab_R z, l1, l2] (ab_R z :: st) σ Q := ab_r_aload_n rfl kc_X11_bone dX11_bone_0
theorem rX11_bone_1 : ab_Run X 84 1 (1, 0, 0) [ab_R z, l1, l2] st σ Q ↔ z ≠ 0 ∧ ab_Run X 84 2 (1, 0, 0) [ab_R z, l1, l2] (ab_R z :: st) σ Q := ab_r_aload_n rfl kc_X11_bone dX11_bone_1
theorem rX11_bone_2 : ab_Run X 84 2 (1, 0, 0) [l0, ab_I z, l2] st σ Q ↔ ab_Run X 84 3 (1, 0, 0) [l0, ab_I z, l2] (ab_I z :: st) σ Q := ab_r_iload_n rfl kc_X11_bone dX11_bone_2
theorem rX11_bone_3 : ab_Run X 84 3 (1, 0, 0) L (ab_I x1 :: ab_R a :: st) σ Q ↔ ((ab_sh σ a).1 = 12 ∧ ab_cats st ≤ 8) ∧ ab_Do X 126 [ab_R a, ab_I x1] σ (fun r σ' => ab_Run X 84 6 (1, 0, 0) L (ab_psh r st) σ' Q) := ab_r_callV (w := [ab_I x1]) (as := [ab_I x1]) (b1 := (0, 0, 0)) 0 (Or.inl rfl) (by decide) ko_X11_bone qM_11_109 (by decide) rfl rfl rfl rfl rfl (by decide) (Nat.le_of_ble_eq_true rfl) kc_X11_bone dX11_bone_3
theorem rX11_bone_6 : ab_Run X 84 6 (1, 0, 0) L (ab_I a :: st) σ Q ↔ (a = 0 → ab_Run X 84 22 (1, 0, 0) L st σ Q) ∧ (¬ (a = 0) → ab_Run X 84 9 (1, 0, 0) L st σ Q) := ab_r_if_eq rfl kc_X11_bone dX11_bone_6
theorem rX11_bone_9 : ab_Run X 84 9 (1, 0, 0) [l0, l1, ab_I z] st σ Q ↔ ab_Run X 84 10 (1, 0, 0) [l0, l1, ab_I z] (ab_I z :: st) σ Q := ab_r_iload_n rfl kc_X11_bone dX11_bone_9
theorem rX11_bone_10 : ab_Run X 84 10 (1, 0, 0) L (ab_I a :: st) σ Q ↔ (a < 0 → ab_Run X 84 22 (1, 0, 0) L st σ Q) ∧ (¬ (a < 0) → ab_Run X 84 13 (1, 0, 0) L st σ Q) := ab_r_if_lt rfl kc_X11_bone dX11_bone_10
theorem rX11_bone_13 : ab_Run X 84 13 (1, 0, 0) [l0, l1, ab_I z] st σ Q ↔ ab_Run X 84 14 (1, 0, 0) [l0, l1, ab_I z] (ab_I z :: st) σ Q := ab_r_iload_n rfl kc_X11_bone dX11_bone_13
theorem rX11_bone_14 : ab_Run X 84 14 (1, 0, 0) L st σ Q ↔ ab_Run X 84 15 (1, 0, 0) L (ab_I 4 :: st) σ Q := ab_r_iconst (by decide) kc_X11_bone dX11_bone_14
theorem rX11_bone_15 : ab_Run X 84 15 (1, 0, 0) L (ab_I b :: ab_I a :: st) σ Q ↔ (b < a → ab_Run X 84 22 (1, 0, 0) L st σ Q) ∧ (¬ (b < a) → ab_Run X 84 18 (1, 0, 0) L st σ Q) := ab_r_icmp_gt rfl kc_X11_bone dX11_bone_15
theorem rX11_bone_18 : ab_Run X 84 18 (1, 0, 0) L st σ Q ↔ ab_Run X 84 19 (1, 0, 0) L (ab_I 0 :: st) σ Q := ab_r_iconst (by decide) kc_X11_bone dX11_bone_18
theorem rX11_bone_19 : ab_Run X 84 19 (1, 0, 0) L st σ Q ↔ ab_Run X 84 23 (1, 0, 0) L st σ Q := ab_r_goto rfl kc_X11_bone dX11_bone_19
theorem rX11_bone_22 : ab_Run X 84 22 (1, 0, 0) L st σ Q ↔ ab_Run X 84 23 (1, 0, 0) L (ab_I 1 :: st) σ Q := ab_r_iconst (by decide) kc_X11_bone dX11_bone_22
theorem rX11_bone_23 : ab_Run X 84 23 (1, 0, 0) L (ab_I z :: ab_R a :: st) σ Q ↔ (ab_sh σ a).1 = 12 ∧ ab_Run X 84 26 (1, 0, 0) L st (ab_wr σ a 8 z) Q := sF_11_62 ko_X11_bone kc_X11_bone dX11_bone_23
theorem rX11_bone_26 : ab_Run X 84 26 (1, 0, 0) [ab_R z, l1, l2] st σ Q ↔ z ≠ 0 ∧ ab_Run X 84 27 (1, 0, 0) [ab_R z, l1, l2] (ab_R z :: st) σ Q := ab_r_aload_n rfl kc_X11_bone dX11_bone_26
theorem rX11_bone_27 : ab_Run X 84 27 (1, 0, 0) L (ab_R a :: st) σ Q ↔ (ab_sh σ a).1 = 12 ∧ ab_Run X 84 30 (1, 0, 0) L (ab_I (ab_rd σ a 8) :: st) σ Q := gF_11_62 ko_X11_bone kc_X11_bone dX11_bone_27
theorem rX11_bone_30 : ab_Run X 84 30 (1, 0, 0) L (ab_I a :: st) σ Q ↔ (a = 0 → ab_Run X 84 35 (1, 0, 0) L st σ Q) ∧ (¬ (a = 0) → ab_Run X 84 33 (1, 0, 0) L st σ Q) := ab_r_if_eq rfl kc_X11_bone dX11_bone_30
theorem rX11_bone_33 : ab_Run X 84 33 (1, 0, 0) L st σ Q ↔ ab_Run X 84 34 (1, 0, 0) L (ab_I (-1) :: st) σ Q := ab_r_iconst (by decide) kc_X11_bone dX11_bone_33
theorem rX11_bone_34 : ab_Run X 84 34 (1, 0, 0) L [ab_I v] σ Q ↔ Q (some (ab_I v)) σ := ab_r_ireturnI rfl kc_X11_bone dX11_bone_34
theorem rX11_bone_35 : ab_Run X 84 35 (1, 0, 0) [l0, l1, ab_I z] st σ Q ↔ ab_Run X 84 36 (1, 0, 0) [l0, l1, ab_I z] (ab_I z :: st) σ Q := ab_r_iload_n rfl kc_X11_bone dX11_bone_35
theorem rX11_bone_36_0 : ab_Run X 84 36 (1, 0, 0) L (ab_I 0 :: st) σ Q ↔ ab_Run X 84 68 (1, 0, 0) L st σ Q := ab_r_tsw (by decide) rfl rfl kc_X11_bone dX11_bone_36
theorem rX11_bone_36_1 : ab_Run X 84 36 (1, 0, 0) L (ab_I 1 :: st) σ Q ↔ ab_Run X 84 78 (1, 0, 0) L st σ Q := ab_r_tsw (by decide) rfl rfl kc_X11_bone dX11_bone_36
theorem rX11_bone_36_2 : ab_Run X 84 36 (1, 0, 0) L (ab_I 2 :: st) σ Q ↔ ab_Run X 84 88 (1, 0, 0) L st σ Q := ab_r_tsw (by decide) rfl rfl kc_X11_bone dX11_bone_36
theorem rX11_bone_36_3 : ab_Run X 84 36 (1, 0, 0) L (ab_I 3 :: st) σ Q ↔ ab_Run X 84 103 (1, 0, 0) L st σ Q := ab_r_tsw (by decide) rfl rfl kc_X11_bone dX11_bone_36
theorem rX11_bone_36_d (h : a < 0 ∨ 3 < a) : ab_Run X 84 36 (1, 0, 0) L (ab_I a :: st) σ Q ↔ ab_Run X 84 118 (1, 0, 0) L st σ Q := ab_r_tswd h rfl kc_X11_bone dX11_bone_36
theorem rX11_bone_68 : ab_Run X 84 68 (1, 0, 0) [ab_R z, l1, l2] st σ Q ↔ z ≠ 0 ∧ ab_Run X 84 69 (1, 0, 0) [ab_R z, l1, l2] (ab_R z :: st) σ Q := ab_r_aload_n rfl kc_X11_bone dX11_bone_68
theorem rX11_bone_69 : ab_Run X 84 69 (1, 0, 0) L (ab_R a :: st) σ Q ↔ (ab_sh σ a).1 = 12 ∧ ab_Run X 84 72 (1, 0, 0) L (ab_R (ab_rd σ a 1) :: st) σ Q := gF_11_19 ko_X11_bone kc_X11_bone dX11_bone_69
theorem rX11_bone_72 : ab_Run X 84 72 (1, 0, 0) L (ab_R a :: st) σ Q ↔ (ab_sh σ a).1 = 9 ∧ ab_Run X 84 75 (1, 0, 0) L (ab_R (ab_rd σ a 0) :: st) σ Q := gF_11_112 ko_X11_bone kc_X11_bone dX11_bone_72
theorem rX11_bone_75 : ab_Run X 84 75 (1, 0, 0) [l0, ab_I z, l2] st σ Q ↔ ab_Run X 84 76 (1, 0, 0) [l0, ab_I z, l2] (ab_I z :: st) σ Q := ab_r_iload_n rfl kc_X11_bone dX11_bone_75
theorem rX11_bone_76 : ab_Run X 84 76 (1, 0, 0) L (ab_I i :: ab_R a :: st) σ Q ↔ ((ab_sh σ a).1 = 21 ∧ 0 ≤ i ∧ i < (ab_sh σ a).2) ∧ ab_Run X 84 77 (1, 0, 0) L (ab_I (ab_rd σ a i) :: st) σ Q := ab_r_iaload (by decide) kc_X11_bone dX11_bone_76
theorem rX11_bone_77 : ab_Run X 84 77 (1, 0, 0) L [ab_I v] σ Q ↔ Q (some (ab_I v)) σ := ab_r_ireturnI rfl kc_X11_bone dX11_bone_77
theorem rX11_bone_78 : ab_Run X 84 78 (1, 0, 0) [ab_R z, l1, l2] st σ Q ↔ z ≠ 0 ∧ ab_Run X 84 79 (1, 0, 0) [ab_R z, l1, l2] (ab_R z :: st) σ Q := ab_r_aload_n rfl kc_X11_bone dX11_bone_78
theorem rX11_bone_79 : ab_Run X 84 79 (1, 0, 0) L (ab_R a :: st) σ Q ↔ (ab_sh σ a).1 = 12 ∧ ab_Run X 84 82 (1, 0, 0) L (ab_R (ab_rd σ a 1) :: st) σ Q := gF_11_19 ko_X11_bone kc_X11_bone dX11_bone_79
theorem rX11_bone_82 : ab_Run X 84 82 (1, 0, 0) L (ab_R a :: st) σ Q ↔ (ab_sh σ a).1 = 9 ∧ ab_Run X 84 85 (1, 0, 0) L (ab_R (ab_rd σ a 1) :: st) σ Q := gF_11_115 ko_X11_bone kc_X11_bone dX11_bone_82
theorem rX11_bone_85 : ab_Run X 84 85 (1, 0, 0) [l0, ab_I z, l2] st σ Q ↔ ab_Run X 84 86 (1, 0, 0) [l0, ab_I z, l2] (ab_I z :: st) σ Q := ab_r_iload_n rfl kc_X11_bone dX11_bone_85
theorem rX11_bone_86 : ab_Run X 84 86 (1, 0, 0) L (ab_I i :: ab_R a :: st) σ Q ↔ ((ab_sh σ a).1 = 21 ∧ 0 ≤ i ∧ i < (ab_sh σ a).2) ∧ ab_Run X 84 87 (1, 0, 0) L (ab_I (ab_rd σ a i) :: st) σ Q := ab_r_iaload (by decide) kc_X11_bone dX11_bone_86
theorem rX11_bone_87 : ab_Run X 84 87 (1, 0, 0) L [ab_I v] σ Q ↔ Q (some (ab_I v)) σ := ab_r_ireturnI rfl kc_X11_bone dX11_bone_87
theorem rX11_bone_88 : ab_Run X 84 88 (1, 0, 0) [ab_R z, l1, l2] st σ Q ↔ z ≠ 0 ∧ ab_Run X 84 89 (1, 0, 0) [ab_R z, l1, l2] (ab_R z :: st) σ Q := ab_r_aload_n rfl kc_X11_bone dX11_bone_88
theorem rX11_bone_89 : ab_Run X 84 89 (1, 0, 0) L (ab_R a :: st) σ Q ↔ (ab_sh σ a).1 = 12 ∧ ab_Run X 84 92 (1, 0, 0) L (ab_R (ab_rd σ a 7) :: st) σ Q := gF_11_58 ko_X11_bone kc_X11_bone dX11_bone_89
theorem rX11_bone_92 : ab_Run X 84 92 (1, 0, 0) L (ab_R a :: st) σ Q ↔ (ab_sh σ a).1 = 5 ∧ ab_Run X 84 95 (1, 0, 0) L (ab_R (ab_rd σ a 6) :: st) σ Q := gF_11_118 ko_X11_bone kc_X11_bone dX11_bone_92
theorem rX11_bone_95 : ab_Run X 84 95 (1, 0, 0) [l0, ab_I z, l2] st σ Q ↔ ab_Run X 84 96 (1, 0, 0) [l0, ab_I z, l2] (ab_I z :: st) σ Q := ab_r_iload_n rfl kc_X11_bone dX11_bone_95
theorem rX11_bone_96 : ab_Run X 84 96 (1, 0, 0) L (ab_I i :: ab_R a :: st) σ Q ↔ ((25 ≤ (ab_sh σ a).1 ∧ (ab_sh σ a).1 < 30) ∧ 0 ≤ i ∧ i < (ab_sh σ a).2) ∧ ab_Run X 84 97 (1, 0, 0) L (ab_R (ab_rd σ a i) :: st) σ Q := ab_r_aaload kc_X11_bone dX11_bone_96
theorem rX11_bone_97 : ab_Run X 84 97 (1, 0, 0) L (ab_R a :: st) σ Q ↔ (ab_sh σ a).1 = 2 ∧ ab_Run X 84 100 (1, 0, 0) L (ab_R (ab_rd σ a 3) :: st) σ Q := gF_11_122 ko_X11_bone kc_X11_bone dX11_bone_97
theorem rX11_bone_100 : ab_Run X 84 100 (1, 0, 0) L st σ Q ↔ ab_Run X 84 101 (1, 0, 0) L (ab_I 0 :: st) σ Q := ab_r_iconst (by decide) kc_X11_bone dX11_bone_100
theorem rX11_bone_101 : ab_Run X 84 101 (1, 0, 0) L (ab_I i :: ab_R a :: st) σ Q ↔ ((ab_sh σ a).1 = 21 ∧ 0 ≤ i ∧ i < (ab_sh σ a).2) ∧ ab_Run X 84 102 (1, 0, 0) L (ab_I (ab_rd σ a i) :: st) σ Q := ab_r_iaload (by decide) kc_X11_bone dX11_bone_101
theorem rX11_bone_102 : ab_Run X 84 102 (1, 0, 0) L [ab_I v] σ Q ↔ Q (some (ab_I v)) σ := ab_r_ireturnI rfl kc_X11_bone dX11_bone_102
theorem rX11_bone_103 : ab_Run X 84 103 (1, 0, 0) [ab_R z, l1, l2] st σ Q ↔ z ≠ 0 ∧ ab_Run X 84 104 (1, 0, 0) [ab_R z, l1, l2] (ab_R z :: st) σ Q := ab_r_aload_n rfl kc_X11_bone dX11_bone_103
theorem rX11_bone_104 : ab_Run X 84 104 (1, 0, 0) L (ab_R a :: st) σ Q ↔ (ab_sh σ a).1 = 12 ∧ ab_Run X 84 107 (1, 0, 0) L (ab_R (ab_rd σ a 7) :: st) σ Q := gF_11_58 ko_X11_bone kc_X11_bone dX11_bone_104
theorem rX11_bone_107 : ab_Run X 84 107 (1, 0, 0) L (ab_R a :: st) σ Q ↔ (ab_sh σ a).1 = 5 ∧ ab_Run X 84 110 (1, 0, 0) L (ab_R (ab_rd σ a 6) :: st) σ Q := gF_11_118 ko_X11_bone kc_X11_bone dX11_bone_107
theorem rX11_bone_110 : ab_Run X 84 110 (1, 0, 0) [l0, ab_I z, l2] st σ Q ↔ ab_Run X 84 111 (1, 0, 0) [l0, ab_I z, l2] (ab_I z :: st) σ Q := ab_r_iload_n rfl kc_X11_bone dX11_bone_110
theorem rX11_bone_111 : ab_Run X 84 111 (1, 0, 0) L (ab_I i :: ab_R a :: st) σ Q ↔ ((25 ≤ (ab_sh σ a).1 ∧ (ab_sh σ a).1 < 30) ∧ 0 ≤ i ∧ i < (ab_sh σ a).2) ∧ ab_Run X 84 112 (1, 0, 0) L (ab_R (ab_rd σ a i) :: st) σ Q := ab_r_aaload kc_X11_bone dX11_bone_111
theorem rX11_bone_112 : ab_Run X 84 112 (1, 0, 0) L (ab_R a :: st) σ Q ↔ (ab_sh σ a).1 = 2 ∧ ab_Run X 84 115 (1, 0, 0) L (ab_R (ab_rd σ a 3) :: st) σ Q := gF_11_122 ko_X11_bone kc_X11_bone dX11_bone_112
theorem rX11_bone_115 : ab_Run X 84 115 (1, 0, 0) L st σ Q ↔ ab_Run X 84 116 (1, 0, 0) L (ab_I 1 :: st) σ Q := ab_r_iconst (by decide) kc_X11_bone dX11_bone_115
theorem rX11_bone_116 : ab_Run X 84 116 (1, 0, 0) L (ab_I i :: ab_R a :: st) σ Q ↔ ((ab_sh σ a).1 = 21 ∧ 0 ≤ i ∧ i < (ab_sh σ a).2) ∧ ab_Run X 84 117 (1, 0, 0) L (ab_I (ab_rd σ a i) :: st) σ Q := ab_r_iaload (by decide) kc_X11_bone dX11_bone_116
theorem rX11_bone_117 : ab_Run X 84 117 (1, 0, 0) L [ab_I v] σ Q ↔ Q (some (ab_I v)) σ := ab_r_ireturnI rfl kc_X11_bone dX11_bone_117
theorem rX11_bone_118 : ab_Run X 84 118 (1, 0, 0) [ab_R z, l1, l2] st σ Q ↔ z ≠ 0 ∧ ab_Run X 84 119 (1, 0, 0) [ab_R z, l1, l2] (ab_R z :: st) σ Q := ab_r_aload_n rfl kc_X11_bone dX11_bone_118
theorem rX11_bone_119 : ab_Run X 84 119 (1, 0, 0) L (ab_R a :: st) σ Q ↔ (ab_sh σ a).1 = 12 ∧ ab_Run X 84 122 (1, 0, 0) L (ab_R (ab_rd σ a 1) :: st) σ Q := gF_11_19 ko_X11_bone kc_X11_bone dX11_bone_119
theorem rX11_bone_122 : ab_Run X 84 122 (1, 0, 0) L (ab_R a :: st) σ Q ↔ (ab_sh σ a).1 = 9 ∧ ab_Run X 84 125 (1, 0, 0) L (ab_R (ab_rd σ a 2) :: st) σ Q := gF_11_127 ko_X11_bone kc_X11_bone dX11_bone_122
theorem rX11_bone_125 : ab_Run X 84 125 (1, 0, 0) [l0, ab_I z, l2] st σ Q ↔ ab_Run X 84 126 (1, 0, 0) [l0, ab_I z, l2] (ab_I z :: st) σ Q := ab_r_iload_n rfl kc_X11_bone dX11_bone_125
theorem rX11_bone_126 : ab_Run X 84 126 (1, 0, 0) L (ab_I i :: ab_R a :: st) σ Q ↔ (((ab_sh σ a).1 = 23 ∨ (ab_sh σ a).1 = 24) ∧ 0 ≤ i ∧ i < (ab_sh σ a).2) ∧ ab_Run X 84 127 (1, 0, 0) L (ab_I (ab_rd σ a i) :: st) σ Q := ab_r_baload kc_X11_bone dX11_bone_126
theorem rX11_bone_127 : ab_Run X 84 127 (1, 0, 0) L (ab_I a :: st) σ Q ↔ (a = 0 → ab_Run X 84 134 (1, 0, 0) L st σ Q) ∧ (¬ (a = 0) → ab_Run X 84 130 (1, 0, 0) L st σ Q) := ab_r_if_eq rfl kc_X11_bone dX11_bone_127
theorem rX11_bone_130 : ab_Run X 84 130 (1, 0, 0) L st σ Q ↔ ab_Run X 84 131 (1, 0, 0) L (ab_I 1 :: st) σ Q := ab_r_iconst (by decide) kc_X11_bone dX11_bone_130
theorem rX11_bone_131 : ab_Run X 84 131 (1, 0, 0) L st σ Q ↔ ab_Run X 84 135 (1, 0, 0) L st σ Q := ab_r_goto rfl kc_X11_bone dX11_bone_131
theorem rX11_bone_134 : ab_Run X 84 134 (1, 0, 0) L st σ Q ↔ ab_Run X 84 135 (1, 0, 0) L (ab_I 0 :: st) σ Q := ab_r_iconst (by decide) kc_X11_bone dX11_bone_134
theorem rX11_bone_135 : ab_Run X 84 135 (1, 0, 0) L [ab_I v] σ Q ↔ Q (some (ab_I v)) σ := ab_r_ireturnI rfl kc_X11_bone dX11_bone_135
theorem kc_X11_thick : ab_code 85 = cX11_thick := rfl
theorem ko_X11_thick : ab_ow 85 = 11 := rfl
theorem rX11_thick_0 : ab_Run X 85 0 (2, 0, 0) [ab_R z, l1, l2, l3] st σ Q ↔ z ≠ 0 ∧ ab_Run X 85 1 (2, 0, 0) [ab_R z, l1, l2, l3] (ab_R z :: st) σ Q := ab_r_aload_n rfl kc_X11_thick dX11_thick_0
theorem rX11_thick_1 : ab_Run X 85 1 (2, 0, 0) [ab_R z, l1, l2, l3] st σ Q ↔ z ≠ 0 ∧ ab_Run X 85 2 (2, 0, 0) [ab_R z, l1, l2, l3] (ab_R z :: st) σ Q := ab_r_aload_n rfl kc_X11_thick dX11_thick_1
theorem rX11_thick_2 : ab_Run X 85 2 (2, 0, 0) [l0, ab_I z, l2, l3] st σ Q ↔ ab_Run X 85 3 (2, 0, 0) [l0, ab_I z, l2, l3] (ab_I z :: st) σ Q := ab_r_iload_n rfl kc_X11_thick dX11_thick_2
theorem rX11_thick_3 : ab_Run X 85 3 (2, 0, 0) [l0, l1, ab_I z, l3] st σ Q ↔ ab_Run X 85 4 (2, 0, 0) [l0, l1, ab_I z, l3] (ab_I z :: st) σ Q := ab_r_iload_n rfl kc_X11_thick dX11_thick_3
theorem rX11_thick_4 : ab_Run X 85 4 (2, 0, 0) [l0, l1, l2, ab_I z] st σ Q ↔ ab_Run X 85 5 (2, 0, 0) [l0, l1, l2, ab_I z] (ab_I z :: st) σ Q := ab_r_iload_n rfl kc_X11_thick dX11_thick_4
theorem rX11_thick_5 : ab_Run X 85 5 (2, 0, 0) L (ab_I x3 :: ab_I x2 :: ab_I x1 :: ab_R a :: st) σ Q ↔ ((ab_sh σ a).1 = 12 ∧ ab_cats st ≤ 8) ∧ ab_Do X 129 [ab_R a, ab_I x1, ab_I x2, ab_I x3] σ (fun r σ' => ab_Run X 85 8 (2, 0, 0) L (ab_psh r st) σ' Q) := ab_r_callV (w := [ab_I x3, ab_I x2, ab_I x1]) (as := [ab_I x1, ab_I x2, ab_I x3]) (b1 := (1, 0, 0)) 0 (Or.inl rfl) (by decide) ko_X11_thick qM_11_131 (by decide) rfl rfl rfl rfl rfl (by decide) (Nat.le_of_ble_eq_true rfl) kc_X11_thick dX11_thick_5
theorem rX11_thick_8 : ab_Run X 85 8 (2, 0, 0) L (ab_I a :: st) σ Q ↔ (a = 0 → ab_Run X 85 15 (2, 0, 0) L st σ Q) ∧ (¬ (a = 0) → ab_Run X 85 11 (2, 0, 0) L st σ Q) := ab_r_if_eq rfl kc_X11_thick dX11_thick_8
theorem rX11_thick_11 : ab_Run X 85 11 (2, 0, 0) L st σ Q ↔ ab_Run X 85 12 (2, 0, 0) L (ab_I 0 :: st) σ Q := ab_r_iconst (by decide) kc_X11_thick dX11_thick_11
theorem rX11_thick_12 : ab_Run X 85 12 (2, 0, 0) L st σ Q ↔ ab_Run X 85 16 (2, 0, 0) L st σ Q := ab_r_goto rfl kc_X11_thick dX11_thick_12
theorem rX11_thick_15 : ab_Run X 85 15 (2, 0, 0) L st σ Q ↔ ab_Run X 85 16 (2, 0, 0) L (ab_I 1 :: st) σ Q := ab_r_iconst (by decide) kc_X11_thick dX11_thick_15
theorem rX11_thick_16 : ab_Run X 85 16 (2, 0, 0) L (ab_I z :: ab_R a :: st) σ Q ↔ (ab_sh σ a).1 = 12 ∧ ab_Run X 85 19 (2, 0, 0) L st (ab_wr σ a 8 z) Q := sF_11_62 ko_X11_thick kc_X11_thick dX11_thick_16
theorem rX11_thick_19 : ab_Run X 85 19 (2, 0, 0) [ab_R z, l1, l2, l3] st σ Q ↔ z ≠ 0 ∧ ab_Run X 85 20 (2, 0, 0) [ab_R z, l1, l2, l3] (ab_R z :: st) σ Q := ab_r_aload_n rfl kc_X11_thick dX11_thick_19
theorem rX11_thick_20 : ab_Run X 85 20 (2, 0, 0) L (ab_R a :: st) σ Q ↔ (ab_sh σ a).1 = 12 ∧ ab_Run X 85 23 (2, 0, 0) L (ab_I (ab_rd σ a 8) :: st) σ Q := gF_11_62 ko_X11_thick kc_X11_thick dX11_thick_20
theorem rX11_thick_23 : ab_Run X 85 23 (2, 0, 0) L (ab_I a :: st) σ Q ↔ (¬ a = 0 → ab_Run X 85 43 (2, 0, 0) L st σ Q) ∧ (¬ (¬ a = 0) → ab_Run X 85 26 (2, 0, 0) L st σ Q) := ab_r_if_ne rfl kc_X11_thick dX11_thick_23
theorem rX11_thick_26 : ab_Run X 85 26 (2, 0, 0) [ab_R z, l1, l2, l3] st σ Q ↔ z ≠ 0 ∧ ab_Run X 85 27 (2, 0, 0) [ab_R z, l1, l2, l3] (ab_R z :: st) σ Q := ab_r_aload_n rfl kc_X11_thick dX11_thick_26
theorem rX11_thick_27 : ab_Run X 85 27 (2, 0, 0) L (ab_R a :: st) σ Q ↔ (ab_sh σ a).1 = 12 ∧ ab_Run X 85 30 (2, 0, 0) L (ab_R (ab_rd σ a 7) :: st) σ Q := gF_11_58 ko_X11_thick kc_X11_thick dX11_thick_27
theorem rX11_thick_30 : ab_Run X 85 30 (2, 0, 0) L (ab_R a :: st) σ Q ↔ (ab_sh σ a).1 = 5 ∧ ab_Run X 85 33 (2, 0, 0) L (ab_R (ab_rd σ a 6) :: st) σ Q := gF_11_118 ko_X11_thick kc_X11_thick dX11_thick_30
theorem rX11_thick_33 : ab_Run X 85 33 (2, 0, 0) [l0, ab_I z, l2, l3] st σ Q ↔ ab_Run X 85 34 (2, 0, 0) [l0, ab_I z, l2, l3] (ab_I z :: st) σ Q := ab_r_iload_n rfl kc_X11_thick dX11_thick_33
theorem rX11_thick_34 : ab_Run X 85 34 (2, 0, 0) L (ab_I i :: ab_R a :: st) σ Q ↔ ((25 ≤ (ab_sh σ a).1 ∧ (ab_sh σ a).1 < 30) ∧ 0 ≤ i ∧ i < (ab_sh σ a).2) ∧ ab_Run X 85 35 (2, 0, 0) L (ab_R (ab_rd σ a i) :: st) σ Q := ab_r_aaload kc_X11_thick dX11_thick_34
theorem rX11_thick_35 : ab_Run X 85 35 (2, 0, 0) [l0, l1, ab_I z, l3] st σ Q ↔ ab_Run X 85 36 (2, 0, 0) [l0, l1, ab_I z, l3] (ab_I z :: st) σ Q := ab_r_iload_n rfl kc_X11_thick dX11_thick_35
theorem rX11_thick_36 : ab_Run X 85 36 (2, 0, 0) [l0, l1, l2, ab_I z] st σ Q ↔ ab_Run X 85 37 (2, 0, 0) [l0, l1, l2, ab_I z] (ab_I z :: st) σ Q := ab_r_iload_n rfl kc_X11_thick dX11_thick_36
theorem rX11_thick_37 : ab_Run X 85 37 (2, 0, 0) L (ab_I x2 :: ab_I x1 :: ab_R a :: st) σ Q ↔ ((ab_sh σ a).1 = 2 ∧ ab_cats st ≤ 8) ∧ ab_Do X 7 [ab_R a, ab_I x1, ab_I x2] σ (fun r σ' => ab_Run X 85 40 (2, 0, 0) L (ab_psh r st) σ' Q) := ab_r_callV (w := [ab_I x2, ab_I x1]) (as := [ab_I x1, ab_I x2]) (b1 := (0, 0, 0)) 0 (Or.inl rfl) (by decide) ko_X11_thick qM_11_135 (by decide) rfl rfl rfl rfl rfl (by decide) (Nat.le_of_ble_eq_true rfl) kc_X11_thick dX11_thick_37
theorem rX11_thick_40 : ab_Run X 85 40 (2, 0, 0) L st σ Q ↔ ab_Run X 85 44 (2, 0, 0) L st σ Q := ab_r_goto rfl kc_X11_thick dX11_thick_40
theorem rX11_thick_43 : ab_Run X 85 43 (2, 0, 0) L st σ Q ↔ ab_Run X 85 44 (2, 0, 0) L (ab_I (-1) :: st) σ Q := ab_r_iconst (by decide) kc_X11_thick dX11_thick_43
theorem rX11_thick_44 : ab_Run X 85 44 (2, 0, 0) L [ab_I v] σ Q ↔ Q (some (ab_I v)) σ := ab_r_ireturnI rfl kc_X11_thick dX11_thick_44
theorem kc_X11_person : ab_code 86 = cX11_person := rfl
theorem ko_X11_person : ab_ow 86 = 11 := rfl
theorem rX11_person_0 : ab_Run X 86 0 (1, 0, 0) [ab_R z, l1, l2, l3] st σ Q ↔ z ≠ 0 ∧ ab_Run X 86 1 (1, 0, 0) [ab_R z, l1, l2, l3] (ab_R z :: st) σ Q := ab_r_aload_n rfl kc_X11_person dX11_person_0
theorem rX11_person_1 : ab_Run X 86 1 (1, 0, 0) [ab_R z, l1, l2, l3] st σ Q ↔ z ≠ 0 ∧ ab_Run X 86 2 (1, 0, 0) [ab_R z, l1, l2, l3] (ab_R z :: st) σ Q := ab_r_aload_n rfl kc_X11_person dX11_person_1
theorem rX11_person_2 : ab_Run X 86 2 (1, 0, 0) [l0, ab_I z, l2, l3] st σ Q ↔ ab_Run X 86 3 (1, 0, 0) [l0, ab_I z, l2, l3] (ab_I z :: st) σ Q := ab_r_iload_n rfl kc_X11_person dX11_person_2
theorem rX11_person_3 : ab_Run X 86 3 (1, 0, 0) L (ab_I x1 :: ab_R a :: st) σ Q ↔ ((ab_sh σ a).1 = 12 ∧ ab_cats st ≤ 8) ∧ ab_Do X 127 [ab_R a, ab_I x1] σ (fun r σ' => ab_Run X 86 6 (1, 0, 0) L (ab_psh r st) σ' Q) := ab_r_callV (w := [ab_I x1]) (as := [ab_I x1]) (b1 := (0, 0, 0)) 0 (Or.inl rfl) (by decide) ko_X11_person qM_11_139 (by decide) rfl rfl rfl rfl rfl (by decide) (Nat.le_of_ble_eq_true rfl) kc_X11_person dX11_person_3
theorem rX11_person_6 : ab_Run X 86 6 (1, 0, 0) L (ab_I a :: st) σ Q ↔ (a = 0 → ab_Run X 86 23 (1, 0, 0) L st σ Q) ∧ (¬ (a = 0) → ab_Run X 86 9 (1, 0, 0) L st σ Q) := ab_r_if_eq rfl kc_X11_person dX11_person_6
theorem rX11_person_9 : ab_Run X 86 9 (1, 0, 0) [l0, l1, ab_I z, l3] st σ Q ↔ ab_Run X 86 10 (1, 0, 0) [l0, l1, ab_I z, l3] (ab_I z :: st) σ Q := ab_r_iload_n rfl kc_X11_person dX11_person_9
theorem rX11_person_10 : ab_Run X 86 10 (1, 0, 0) L (ab_I a :: st) σ Q ↔ (a < 0 → ab_Run X 86 23 (1, 0, 0) L st σ Q) ∧ (¬ (a < 0) → ab_Run X 86 13 (1, 0, 0) L st σ Q) := ab_r_if_lt rfl kc_X11_person dX11_person_10
theorem rX11_person_13 : ab_Run X 86 13 (1, 0, 0) [l0, l1, ab_I z, l3] st σ Q ↔ ab_Run X 86 14 (1, 0, 0) [l0, l1, ab_I z, l3] (ab_I z :: st) σ Q := ab_r_iload_n rfl kc_X11_person dX11_person_13
theorem rX11_person_14 : ab_Run X 86 14 (1, 0, 0) L st σ Q ↔ ab_Run X 86 16 (1, 0, 0) L (ab_I 6 :: st) σ Q := ab_r_bipush (by decide) kc_X11_person dX11_person_14
theorem rX11_person_16 : ab_Run X 86 16 (1, 0, 0) L (ab_I b :: ab_I a :: st) σ Q ↔ (b < a → ab_Run X 86 23 (1, 0, 0) L st σ Q) ∧ (¬ (b < a) → ab_Run X 86 19 (1, 0, 0) L st σ Q) := ab_r_icmp_gt rfl kc_X11_person dX11_person_16
theorem rX11_person_19 : ab_Run X 86 19 (1, 0, 0) L st σ Q ↔ ab_Run X 86 20 (1, 0, 0) L (ab_I 0 :: st) σ Q := ab_r_iconst (by decide) kc_X11_person dX11_person_19
theorem rX11_person_20 : ab_Run X 86 20 (1, 0, 0) L st σ Q ↔ ab_Run X 86 24 (1, 0, 0) L st σ Q := ab_r_goto rfl kc_X11_person dX11_person_20
theorem rX11_person_23 : ab_Run X 86 23 (1, 0, 0) L st σ Q ↔ ab_Run X 86 24 (1, 0, 0) L (ab_I 1 :: st) σ Q := ab_r_iconst (by decide) kc_X11_person dX11_person_23
theorem rX11_person_24 : ab_Run X 86 24 (1, 0, 0) L (ab_I z :: ab_R a :: st) σ Q ↔ (ab_sh σ a).1 = 12 ∧ ab_Run X 86 27 (1, 0, 0) L st (ab_wr σ a 8 z) Q := sF_11_62 ko_X11_person kc_X11_person dX11_person_24
theorem rX11_person_27 : ab_Run X 86 27 (1, 0, 0) [ab_R z, l1, l2, l3] st σ Q ↔ z ≠ 0 ∧ ab_Run X 86 28 (1, 0, 0) [ab_R z, l1, l2, l3] (ab_R z :: st) σ Q := ab_r_aload_n rfl kc_X11_person dX11_person_27
theorem rX11_person_28 : ab_Run X 86 28 (1, 0, 0) L (ab_R a :: st) σ Q ↔ (ab_sh σ a).1 = 12 ∧ ab_Run X 86 31 (1, 0, 0) L (ab_I (ab_rd σ a 8) :: st) σ Q := gF_11_62 ko_X11_person kc_X11_person dX11_person_28
theorem rX11_person_31 : ab_Run X 86 31 (1, 0, 0) L (ab_I a :: st) σ Q ↔ (a = 0 → ab_Run X 86 36 (1, 0, 0) L st σ Q) ∧ (¬ (a = 0) → ab_Run X 86 34 (1, 0, 0) L st σ Q) := ab_r_if_eq rfl kc_X11_person dX11_person_31
theorem rX11_person_34 : ab_Run X 86 34 (1, 0, 0) L st σ Q ↔ ab_Run X 86 35 (1, 0, 0) L (ab_I (-1) :: st) σ Q := ab_r_iconst (by decide) kc_X11_person dX11_person_34
theorem rX11_person_35 : ab_Run X 86 35 (1, 0, 0) L [ab_I v] σ Q ↔ Q (some (ab_I v)) σ := ab_r_ireturnI rfl kc_X11_person dX11_person_35
theorem rX11_person_36 : ab_Run X 86 36 (1, 0, 0) [ab_R z, l1, l2, l3] st σ Q ↔ z ≠ 0 ∧ ab_Run X 86 37 (1, 0, 0) [ab_R z, l1, l2, l3] (ab_R z :: st) σ Q := ab_r_aload_n rfl kc_X11_person dX11_person_36
theorem rX11_person_37 : ab_Run X 86 37 (1, 0, 0) L (ab_R a :: st) σ Q ↔ (ab_sh σ a).1 = 12 ∧ ab_Run X 86 40 (1, 0, 0) L (ab_R (ab_rd σ a 7) :: st) σ Q := gF_11_58 ko_X11_person kc_X11_person dX11_person_37
theorem rX11_person_40 : ab_Run X 86 40 (1, 0, 0) L (ab_R a :: st) σ Q ↔ (ab_sh σ a).1 = 5 ∧ ab_Run X 86 43 (1, 0, 0) L (ab_R (ab_rd σ a 8) :: st) σ Q := gF_11_142 ko_X11_person kc_X11_person dX11_person_40
theorem rX11_person_43 : ab_Run X 86 43 (1, 0, 0) [l0, ab_I z, l2, l3] st σ Q ↔ ab_Run X 86 44 (1, 0, 0) [l0, ab_I z, l2, l3] (ab_I z :: st) σ Q := ab_r_iload_n rfl kc_X11_person dX11_person_43
theorem rX11_person_44 : ab_Run X 86 44 (1, 0, 0) L (ab_I i :: ab_R a :: st) σ Q ↔ ((25 ≤ (ab_sh σ a).1 ∧ (ab_sh σ a).1 < 30) ∧ 0 ≤ i ∧ i < (ab_sh σ a).2) ∧ ab_Run X 86 45 (1, 0, 0) L (ab_R (ab_rd σ a i) :: st) σ Q := ab_r_aaload kc_X11_person dX11_person_44
theorem rX11_person_45 : ab_Run X 86 45 (1, 0, 0) [l0, l1, l2, l3] (ab_R z :: st) σ Q ↔ (!ab_isJ l2) = true ∧ ab_Run X 86 46 (1, 0, 0) [l0, l1, l2, ab_R z] st σ Q := ab_r_astore_n (Nat.le_of_ble_eq_true rfl) kc_X11_person dX11_person_45
theorem rX11_person_46 : ab_Run X 86 46 (1, 0, 0) [l0, l1, ab_I z, l3] st σ Q ↔ ab_Run X 86 47 (1, 0, 0) [l0, l1, ab_I z, l3] (ab_I z :: st) σ Q := ab_r_iload_n rfl kc_X11_person dX11_person_46
theorem rX11_person_47_0 : ab_Run X 86 47 (1, 0, 0) L (ab_I 0 :: st) σ Q ↔ ab_Run X 86 84 (1, 0, 0) L st σ Q := ab_r_tsw (by decide) rfl rfl kc_X11_person dX11_person_47
theorem rX11_person_47_1 : ab_Run X 86 47 (1, 0, 0) L (ab_I 1 :: st) σ Q ↔ ab_Run X 86 89 (1, 0, 0) L st σ Q := ab_r_tsw (by decide) rfl rfl kc_X11_person dX11_person_47
theorem rX11_person_47_2 : ab_Run X 86 47 (1, 0, 0) L (ab_I 2 :: st) σ Q ↔ ab_Run X 86 94 (1, 0, 0) L st σ Q := ab_r_tsw (by decide) rfl rfl kc_X11_person dX11_person_47
theorem rX11_person_47_3 : ab_Run X 86 47 (1, 0, 0) L (ab_I 3 :: st) σ Q ↔ ab_Run X 86 99 (1, 0, 0) L st σ Q := ab_r_tsw (by decide) rfl rfl kc_X11_person dX11_person_47
theorem rX11_person_47_4 : ab_Run X 86 47 (1, 0, 0) L (ab_I 4 :: st) σ Q ↔ ab_Run X 86 104 (1, 0, 0) L st σ Q := ab_r_tsw (by decide) rfl rfl kc_X11_person dX11_person_47
theorem rX11_person_47_5 : ab_Run X 86 47 (1, 0, 0) L (ab_I 5 :: st) σ Q ↔ ab_Run X 86 114 (1, 0, 0) L st σ Q := ab_r_tsw (by decide) rfl rfl kc_X11_person dX11_person_47
theorem rX11_person_47_d (h : a < 0 ∨ 5 < a) : ab_Run X 86 47 (1, 0, 0) L (ab_I a :: st) σ Q ↔ ab_Run X 86 119 (1, 0, 0) L st σ Q := ab_r_tswd h rfl kc_X11_person dX11_person_47
theorem rX11_person_84 : ab_Run X 86 84 (1, 0, 0) [l0, l1, l2, ab_R z] st σ Q ↔ z ≠ 0 ∧ ab_Run X 86 85 (1, 0, 0) [l0, l1, l2, ab_R z] (ab_R z :: st) σ Q := ab_r_aload_n rfl kc_X11_person dX11_person_84
theorem rX11_person_85 : ab_Run X 86 85 (1, 0, 0) L (ab_R a :: st) σ Q ↔ (ab_sh σ a).1 = 6 ∧ ab_Run X 86 88 (1, 0, 0) L (ab_I (ab_rd σ a 1) :: st) σ Q := gF_11_146 ko_X11_person kc_X11_person dX11_person_85
theorem rX11_person_88 : ab_Run X 86 88 (1, 0, 0) L [ab_I v] σ Q ↔ Q (some (ab_I v)) σ := ab_r_ireturnI rfl kc_X11_person dX11_person_88
theorem rX11_person_89 : ab_Run X 86 89 (1, 0, 0) [l0, l1, l2, ab_R z] st σ Q ↔ z ≠ 0 ∧ ab_Run X 86 90 (1, 0, 0) [l0, l1, l2, ab_R z] (ab_R z :: st) σ Q := ab_r_aload_n rfl kc_X11_person dX11_person_89
theorem rX11_person_90 : ab_Run X 86 90 (1, 0, 0) L (ab_R a :: st) σ Q ↔ (ab_sh σ a).1 = 6 ∧ ab_Run X 86 93 (1, 0, 0) L (ab_I (ab_rd σ a 2) :: st) σ Q := gF_11_151 ko_X11_person kc_X11_person dX11_person_90
theorem rX11_person_93 : ab_Run X 86 93 (1, 0, 0) L [ab_I v] σ Q ↔ Q (some (ab_I v)) σ := ab_r_ireturnI rfl kc_X11_person dX11_person_93
theorem rX11_person_94 : ab_Run X 86 94 (1, 0, 0) [l0, l1, l2, ab_R z] st σ Q ↔ z ≠ 0 ∧ ab_Run X 86 95 (1, 0, 0) [l0, l1, l2, ab_R z] (ab_R z :: st) σ Q := ab_r_aload_n rfl kc_X11_person dX11_person_94
theorem rX11_person_95 : ab_Run X 86 95 (1, 0, 0) L (ab_R a :: st) σ Q ↔ (ab_sh σ a).1 = 6 ∧ ab_Run X 86 98 (1, 0, 0) L (ab_I (ab_rd σ a 3) :: st) σ Q := gF_11_154 ko_X11_person kc_X11_person dX11_person_95
theorem rX11_person_98 : ab_Run X 86 98 (1, 0, 0) L [ab_I v] σ Q ↔ Q (some (ab_I v)) σ := ab_r_ireturnI rfl kc_X11_person dX11_person_98
theorem rX11_person_99 : ab_Run X 86 99 (1, 0, 0) [l0, l1, l2, ab_R z] st σ Q ↔ z ≠ 0 ∧ ab_Run X 86 100 (1, 0, 0) [l0, l1, l2, ab_R z] (ab_R z :: st) σ Q := ab_r_aload_n rfl kc_X11_person dX11_person_99
theorem rX11_person_100 : ab_Run X 86 100 (1, 0, 0) L (ab_R a :: st) σ Q ↔ (ab_sh σ a).1 = 6 ∧ ab_Run X 86 103 (1, 0, 0) L (ab_I (ab_rd σ a 4) :: st) σ Q := gF_11_157 ko_X11_person kc_X11_person dX11_person_100
theorem rX11_person_103 : ab_Run X 86 103 (1, 0, 0) L [ab_I v] σ Q ↔ Q (some (ab_I v)) σ := ab_r_ireturnI rfl kc_X11_person dX11_person_103
theorem rX11_person_104 : ab_Run X 86 104 (1, 0, 0) [l0, l1, l2, ab_R z] st σ Q ↔ z ≠ 0 ∧ ab_Run X 86 105 (1, 0, 0) [l0, l1, l2, ab_R z] (ab_R z :: st) σ Q := ab_r_aload_n rfl kc_X11_person dX11_person_104
theorem rX11_person_105 : ab_Run X 86 105 (1, 0, 0) L (ab_R a :: st) σ Q ↔ (ab_sh σ a).1 = 6 ∧ ab_Run X 86 108 (1, 0, 0) L (ab_I (ab_rd σ a 7) :: st) σ Q := gF_11_160 ko_X11_person kc_X11_person dX11_person_105
theorem rX11_person_108 : ab_Run X 86 108 (1, 0, 0) [l0, l1, l2, ab_R z] st σ Q ↔ z ≠ 0 ∧ ab_Run X 86 109 (1, 0, 0) [l0, l1, l2, ab_R z] (ab_R z :: st) σ Q := ab_r_aload_n rfl kc_X11_person dX11_person_108
theorem rX11_person_109 : ab_Run X 86 109 (1, 0, 0) L (ab_R a :: st) σ Q ↔ (ab_sh σ a).1 = 6 ∧ ab_Run X 86 112 (1, 0, 0) L (ab_I (ab_rd σ a 8) :: st) σ Q := gF_11_163 ko_X11_person kc_X11_person dX11_person_109
theorem rX11_person_112 : ab_Run X 86 112 (1, 0, 0) L (ab_I b :: ab_I a :: st) σ Q ↔ ab_Run X 86 113 (1, 0, 0) L (ab_I (ab_w32 (a + b)) :: st) σ Q := ab_r_iadd kc_X11_person dX11_person_112
theorem rX11_person_113 : ab_Run X 86 113 (1, 0, 0) L [ab_I v] σ Q ↔ Q (some (ab_I v)) σ := ab_r_ireturnI rfl kc_X11_person dX11_person_113
theorem rX11_person_114 : ab_Run X 86 114 (1, 0, 0) [l0, l1, l2, ab_R z] st σ Q ↔ z ≠ 0 ∧ ab_Run X 86 115 (1, 0, 0) [l0, l1, l2, ab_R z] (ab_R z :: st) σ Q := ab_r_aload_n rfl kc_X11_person dX11_person_114
theorem rX11_person_115 : ab_Run X 86 115 (1, 0, 0) L (ab_R a :: st) σ Q ↔ (ab_sh σ a).1 = 6 ∧ ab_Run X 86 118 (1, 0, 0) L (ab_I (ab_rd σ a 7) :: st) σ Q := gF_11_160 ko_X11_person kc_X11_person dX11_person_115
theorem rX11_person_118 : ab_Run X 86 118 (1, 0, 0) L [ab_I v] σ Q ↔ Q (some (ab_I v)) σ := ab_r_ireturnI rfl kc_X11_person dX11_person_118
theorem rX11_person_119 : ab_Run X 86 119 (1, 0, 0) [ab_R z, l1, l2, l3] st σ Q ↔ z ≠ 0 ∧ ab_Run X 86 120 (1, 0, 0) [ab_R z, l1, l2, l3] (ab_R z :: st) σ Q := ab_r_aload_n rfl kc_X11_person dX11_person_119
theorem rX11_person_120 : ab_Run X 86 120 (1, 0, 0) L (ab_R a :: st) σ Q ↔ (ab_sh σ a).1 = 12 ∧ ab_Run X 86 123 (1, 0, 0) L (ab_R (ab_rd σ a 1) :: st) σ Q := gF_11_19 ko_X11_person kc_X11_person dX11_person_120
theorem rX11_person_123 : ab_Run X 86 123 (1, 0, 0) L (ab_R a :: st) σ Q ↔ (ab_sh σ a).1 = 9 ∧ ab_Run X 86 126 (1, 0, 0) L (ab_R (ab_rd σ a 3) :: st) σ Q := gF_11_166 ko_X11_person kc_X11_person dX11_person_123
theorem rX11_person_126 : ab_Run X 86 126 (1, 0, 0) [l0, ab_I z, l2, l3] st σ Q ↔ ab_Run X 86 127 (1, 0, 0) [l0, ab_I z, l2, l3] (ab_I z :: st) σ Q := ab_r_iload_n rfl kc_X11_person dX11_person_126
theorem rX11_person_127 : ab_Run X 86 127 (1, 0, 0) L (ab_I i :: ab_R a :: st) σ Q ↔ ((ab_sh σ a).1 = 21 ∧ 0 ≤ i ∧ i < (ab_sh σ a).2) ∧ ab_Run X 86 128 (1, 0, 0) L (ab_I (ab_rd σ a i) :: st) σ Q := ab_r_iaload (by decide) kc_X11_person dX11_person_127
theorem rX11_person_128 : ab_Run X 86 128 (1, 0, 0) L [ab_I v] σ Q ↔ Q (some (ab_I v)) σ := ab_r_ireturnI rfl kc_X11_person dX11_person_128
theorem kc_X11_strength : ab_code 87 = cX11_strength := rfl
theorem ko_X11_strength : ab_ow 87 = 11 := rfl
theorem rX11_strength_0 : ab_Run X 87 0 (2, 0, 0) [ab_R z, l1, l2, l3, l4, l5] st σ Q ↔ z ≠ 0 ∧ ab_Run X 87 1 (2, 0, 0) [ab_R z, l1, l2, l3, l4, l5] (ab_R z :: st) σ Q := ab_r_aload_n rfl kc_X11_strength dX11_strength_0
theorem rX11_strength_1 : ab_Run X 87 1 (2, 0, 0) [ab_R z, l1, l2, l3, l4, l5] st σ Q ↔ z ≠ 0 ∧ ab_Run X 87 2 (2, 0, 0) [ab_R z, l1, l2, l3, l4, l5] (ab_R z :: st) σ Q := ab_r_aload_n rfl kc_X11_strength dX11_strength_1
theorem rX11_strength_2 : ab_Run X 87 2 (2, 0, 0) [l0, ab_I z, l2, l3, l4, l5] st σ Q ↔ ab_Run X 87 3 (2, 0, 0) [l0, ab_I z, l2, l3, l4, l5] (ab_I z :: st) σ Q := ab_r_iload_n rfl kc_X11_strength dX11_strength_2
theorem rX11_strength_3 : ab_Run X 87 3 (2, 0, 0) [l0, l1, ab_I z, l3, l4, l5] st σ Q ↔ ab_Run X 87 4 (2, 0, 0) [l0, l1, ab_I z, l3, l4, l5] (ab_I z :: st) σ Q := ab_r_iload_n rfl kc_X11_strength dX11_strength_3
theorem rX11_strength_4 : ab_Run X 87 4 (2, 0, 0) [l0, l1, l2, ab_I z, l4, l5] st σ Q ↔ ab_Run X 87 5 (2, 0, 0) [l0, l1, l2, ab_I z, l4, l5] (ab_I z :: st) σ Q := ab_r_iload_n rfl kc_X11_strength dX11_strength_4
theorem rX11_strength_5 : ab_Run X 87 5 (2, 0, 0) L (ab_I x3 :: ab_I x2 :: ab_I x1 :: ab_R a :: st) σ Q ↔ ((ab_sh σ a).1 = 12 ∧ ab_cats st ≤ 8) ∧ ab_Do X 129 [ab_R a, ab_I x1, ab_I x2, ab_I x3] σ (fun r σ' => ab_Run X 87 8 (2, 0, 0) L (ab_psh r st) σ' Q) := ab_r_callV (w := [ab_I x3, ab_I x2, ab_I x1]) (as := [ab_I x1, ab_I x2, ab_I x3]) (b1 := (1, 0, 0)) 0 (Or.inl rfl) (by decide) ko_X11_strength qM_11_131 (by decide) rfl rfl rfl rfl rfl (by decide) (Nat.le_of_ble_eq_true rfl) kc_X11_strength dX11_strength_5
theorem rX11_strength_8 : ab_Run X 87 8 (2, 0, 0) L (ab_I a :: st) σ Q ↔ (a = 0 → ab_Run X 87 24 (2, 0, 0) L st σ Q) ∧ (¬ (a = 0) → ab_Run X 87 11 (2, 0, 0) L st σ Q) := ab_r_if_eq rfl kc_X11_strength dX11_strength_8
theorem rX11_strength_11 : ab_Run X 87 11 (2, 0, 0) [ab_R z, l1, l2, l3, l4, l5] st σ Q ↔ z ≠ 0 ∧ ab_Run X 87 12 (2, 0, 0) [ab_R z, l1, l2, l3, l4, l5] (ab_R z :: st) σ Q := ab_r_aload_n rfl kc_X11_strength dX11_strength_11
theorem rX11_strength_12 : ab_Run X 87 12 (2, 0, 0) [l0, l1, l2, l3, ab_I z, l5] st σ Q ↔ ab_Run X 87 14 (2, 0, 0) [l0, l1, l2, l3, ab_I z, l5] (ab_I z :: st) σ Q := ab_r_iload rfl kc_X11_strength dX11_strength_12
theorem rX11_strength_14 : ab_Run X 87 14 (2, 0, 0) L (ab_I x1 :: ab_R a :: st) σ Q ↔ ((ab_sh σ a).1 = 12 ∧ ab_cats st ≤ 8) ∧ ab_Do X 127 [ab_R a, ab_I x1] σ (fun r σ' => ab_Run X 87 17 (2, 0, 0) L (ab_psh r st) σ' Q) := ab_r_callV (w := [ab_I x1]) (as := [ab_I x1]) (b1 := (0, 0, 0)) 0 (Or.inl rfl) (by decide) ko_X11_strength qM_11_139 (by decide) rfl rfl rfl rfl rfl (by decide) (Nat.le_of_ble_eq_true rfl) kc_X11_strength dX11_strength_14
theorem rX11_strength_17 : ab_Run X 87 17 (2, 0, 0) L (ab_I a :: st) σ Q ↔ (a = 0 → ab_Run X 87 24 (2, 0, 0) L st σ Q) ∧ (¬ (a = 0) → ab_Run X 87 20 (2, 0, 0) L st σ Q) := ab_r_if_eq rfl kc_X11_strength dX11_strength_17
theorem rX11_strength_20 : ab_Run X 87 20 (2, 0, 0) L st σ Q ↔ ab_Run X 87 21 (2, 0, 0) L (ab_I 0 :: st) σ Q := ab_r_iconst (by decide) kc_X11_strength dX11_strength_20
theorem rX11_strength_21 : ab_Run X 87 21 (2, 0, 0) L st σ Q ↔ ab_Run X 87 25 (2, 0, 0) L st σ Q := ab_r_goto rfl kc_X11_strength dX11_strength_21
theorem rX11_strength_24 : ab_Run X 87 24 (2, 0, 0) L st σ Q ↔ ab_Run X 87 25 (2, 0, 0) L (ab_I 1 :: st) σ Q := ab_r_iconst (by decide) kc_X11_strength dX11_strength_24
theorem rX11_strength_25 : ab_Run X 87 25 (2, 0, 0) L (ab_I z :: ab_R a :: st) σ Q ↔ (ab_sh σ a).1 = 12 ∧ ab_Run X 87 28 (2, 0, 0) L st (ab_wr σ a 8 z) Q := sF_11_62 ko_X11_strength kc_X11_strength dX11_strength_25
theorem rX11_strength_28 : ab_Run X 87 28 (2, 0, 0) [ab_R z, l1, l2, l3, l4, l5] st σ Q ↔ z ≠ 0 ∧ ab_Run X 87 29 (2, 0, 0) [ab_R z, l1, l2, l3, l4, l5] (ab_R z :: st) σ Q := ab_r_aload_n rfl kc_X11_strength dX11_strength_28
theorem rX11_strength_29 : ab_Run X 87 29 (2, 0, 0) L (ab_R a :: st) σ Q ↔ (ab_sh σ a).1 = 12 ∧ ab_Run X 87 32 (2, 0, 0) L (ab_I (ab_rd σ a 8) :: st) σ Q := gF_11_62 ko_X11_strength kc_X11_strength dX11_strength_29
theorem rX11_strength_32 : ab_Run X 87 32 (2, 0, 0) L (ab_I a :: st) σ Q ↔ (a = 0 → ab_Run X 87 37 (2, 0, 0) L st σ Q) ∧ (¬ (a = 0) → ab_Run X 87 35 (2, 0, 0) L st σ Q) := ab_r_if_eq rfl kc_X11_strength dX11_strength_32
theorem rX11_strength_35 : ab_Run X 87 35 (2, 0, 0) L st σ Q ↔ ab_Run X 87 36 (2, 0, 0) L (ab_I (-1) :: st) σ Q := ab_r_iconst (by decide) kc_X11_strength dX11_strength_35
theorem rX11_strength_36 : ab_Run X 87 36 (2, 0, 0) L [ab_I v] σ Q ↔ Q (some (ab_I v)) σ := ab_r_ireturnI rfl kc_X11_strength dX11_strength_36
theorem rX11_strength_37 : ab_Run X 87 37 (2, 0, 0) [ab_R z, l1, l2, l3, l4, l5] st σ Q ↔ z ≠ 0 ∧ ab_Run X 87 38 (2, 0, 0) [ab_R z, l1, l2, l3, l4, l5] (ab_R z :: st) σ Q := ab_r_aload_n rfl kc_X11_strength dX11_strength_37
theorem rX11_strength_38 : ab_Run X 87 38 (2, 0, 0) [l0, ab_I z, l2, l3, l4, l5] st σ Q ↔ ab_Run X 87 39 (2, 0, 0) [l0, ab_I z, l2, l3, l4, l5] (ab_I z :: st) σ Q := ab_r_iload_n rfl kc_X11_strength dX11_strength_38
theorem rX11_strength_39 : ab_Run X 87 39 (2, 0, 0) L (ab_I x1 :: ab_R a :: st) σ Q ↔ ((ab_sh σ a).1 = 12 ∧ ab_cats st ≤ 8) ∧ ab_Do X 137 [ab_R a, ab_I x1] σ (fun r σ' => ab_Run X 87 42 (2, 0, 0) L (ab_psh r st) σ' Q) := ab_r_callV (w := [ab_I x1]) (as := [ab_I x1]) (b1 := (1, 0, 0)) 0 (Or.inl rfl) (by decide) ko_X11_strength qM_11_168 (by decide) rfl rfl rfl rfl rfl (by decide) (Nat.le_of_ble_eq_true rfl) kc_X11_strength dX11_strength_39
theorem rX11_strength_42 : ab_Run X 87 42 (2, 0, 0) [ab_R z, l1, l2, l3, l4, l5] st σ Q ↔ z ≠ 0 ∧ ab_Run X 87 43 (2, 0, 0) [ab_R z, l1, l2, l3, l4, l5] (ab_R z :: st) σ Q := ab_r_aload_n rfl kc_X11_strength dX11_strength_42
theorem rX11_strength_43 : ab_Run X 87 43 (2, 0, 0) L (ab_R a :: st) σ Q ↔ (ab_sh σ a).1 = 12 ∧ ab_Run X 87 46 (2, 0, 0) L (ab_R (ab_rd σ a 3) :: st) σ Q := gF_11_33 ko_X11_strength kc_X11_strength dX11_strength_43
theorem rX11_strength_46 : ab_Run X 87 46 (2, 0, 0) L (ab_R a :: st) σ Q ↔ (ab_sh σ a).1 = 7 ∧ ab_Run X 87 49 (2, 0, 0) L (ab_R (ab_rd σ a 0) :: st) σ Q := gF_11_171 ko_X11_strength kc_X11_strength dX11_strength_46
theorem rX11_strength_49 : ab_Run X 87 49 (2, 0, 0) [l0, l1, l2, l3, l4, l5] (ab_R z :: st) σ Q ↔ (!ab_isJ l4) = true ∧ ab_Run X 87 51 (2, 0, 0) [l0, l1, l2, l3, l4, ab_R z] st σ Q := ab_r_astore (Nat.le_of_ble_eq_true rfl) kc_X11_strength dX11_strength_49
theorem rX11_strength_51 : ab_Run X 87 51 (2, 0, 0) [ab_R z, l1, l2, l3, l4, l5] st σ Q ↔ z ≠ 0 ∧ ab_Run X 87 52 (2, 0, 0) [ab_R z, l1, l2, l3, l4, l5] (ab_R z :: st) σ Q := ab_r_aload_n rfl kc_X11_strength dX11_strength_51
theorem rX11_strength_52 : ab_Run X 87 52 (2, 0, 0) L (ab_R a :: st) σ Q ↔ (ab_sh σ a).1 = 12 ∧ ab_Run X 87 55 (2, 0, 0) L (ab_R (ab_rd σ a 3) :: st) σ Q := gF_11_33 ko_X11_strength kc_X11_strength dX11_strength_52
theorem rX11_strength_55 : ab_Run X 87 55 (2, 0, 0) [l0, l1, l2, l3, l4, ab_R z] st σ Q ↔ z ≠ 0 ∧ ab_Run X 87 57 (2, 0, 0) [l0, l1, l2, l3, l4, ab_R z] (ab_R z :: st) σ Q := ab_r_aload rfl kc_X11_strength dX11_strength_55
theorem rX11_strength_57 : ab_Run X 87 57 (2, 0, 0) [ab_R z, l1, l2, l3, l4, l5] st σ Q ↔ z ≠ 0 ∧ ab_Run X 87 58 (2, 0, 0) [ab_R z, l1, l2, l3, l4, l5] (ab_R z :: st) σ Q := ab_r_aload_n rfl kc_X11_strength dX11_strength_57
theorem rX11_strength_58 : ab_Run X 87 58 (2, 0, 0) L (ab_R a :: st) σ Q ↔ (ab_sh σ a).1 = 12 ∧ ab_Run X 87 61 (2, 0, 0) L (ab_R (ab_rd σ a 7) :: st) σ Q := gF_11_58 ko_X11_strength kc_X11_strength dX11_strength_58
theorem rX11_strength_61 : ab_Run X 87 61 (2, 0, 0) L (ab_R a :: st) σ Q ↔ (ab_sh σ a).1 = 5 ∧ ab_Run X 87 64 (2, 0, 0) L (ab_R (ab_rd σ a 6) :: st) σ Q := gF_11_118 ko_X11_strength kc_X11_strength dX11_strength_61
theorem rX11_strength_64 : ab_Run X 87 64 (2, 0, 0) [l0, ab_I z, l2, l3, l4, l5] st σ Q ↔ ab_Run X 87 65 (2, 0, 0) [l0, ab_I z, l2, l3, l4, l5] (ab_I z :: st) σ Q := ab_r_iload_n rfl kc_X11_strength dX11_strength_64
theorem rX11_strength_65 : ab_Run X 87 65 (2, 0, 0) L (ab_I i :: ab_R a :: st) σ Q ↔ ((25 ≤ (ab_sh σ a).1 ∧ (ab_sh σ a).1 < 30) ∧ 0 ≤ i ∧ i < (ab_sh σ a).2) ∧ ab_Run X 87 66 (2, 0, 0) L (ab_R (ab_rd σ a i) :: st) σ Q := ab_r_aaload kc_X11_strength dX11_strength_65
theorem rX11_strength_66 : ab_Run X 87 66 (2, 0, 0) [l0, l1, ab_I z, l3, l4, l5] st σ Q ↔ ab_Run X 87 67 (2, 0, 0) [l0, l1, ab_I z, l3, l4, l5] (ab_I z :: st) σ Q := ab_r_iload_n rfl kc_X11_strength dX11_strength_66
theorem rX11_strength_67 : ab_Run X 87 67 (2, 0, 0) [ab_R z, l1, l2, l3, l4, l5] st σ Q ↔ z ≠ 0 ∧ ab_Run X 87 68 (2, 0, 0) [ab_R z, l1, l2, l3, l4, l5] (ab_R z :: st) σ Q := ab_r_aload_n rfl kc_X11_strength dX11_strength_67
theorem rX11_strength_68 : ab_Run X 87 68 (2, 0, 0) L (ab_R a :: st) σ Q ↔ (ab_sh σ a).1 = 12 ∧ ab_Run X 87 71 (2, 0, 0) L (ab_R (ab_rd σ a 7) :: st) σ Q := gF_11_58 ko_X11_strength kc_X11_strength dX11_strength_68
theorem rX11_strength_71 : ab_Run X 87 71 (2, 0, 0) L (ab_R a :: st) σ Q ↔ (ab_sh σ a).1 = 5 ∧ ab_Run X 87 74 (2, 0, 0) L (ab_R (ab_rd σ a 8) :: st) σ Q := gF_11_142 ko_X11_strength kc_X11_strength dX11_strength_71
theorem rX11_strength_74 : ab_Run X 87 74 (2, 0, 0) [l0, l1, l2, l3, ab_I z, l5] st σ Q ↔ ab_Run X 87 76 (2, 0, 0) [l0, l1, l2, l3, ab_I z, l5] (ab_I z :: st) σ Q := ab_r_iload rfl kc_X11_strength dX11_strength_74
theorem rX11_strength_76 : ab_Run X 87 76 (2, 0, 0) L (ab_I i :: ab_R a :: st) σ Q ↔ ((25 ≤ (ab_sh σ a).1 ∧ (ab_sh σ a).1 < 30) ∧ 0 ≤ i ∧ i < (ab_sh σ a).2) ∧ ab_Run X 87 77 (2, 0, 0) L (ab_R (ab_rd σ a i) :: st) σ Q := ab_r_aaload kc_X11_strength dX11_strength_76
theorem rX11_strength_77 : ab_Run X 87 77 (2, 0, 0) L st σ Q ↔ ab_Run X 87 78 (2, 0, 0) L (ab_I 1 :: st) σ Q := ab_r_iconst (by decide) kc_X11_strength dX11_strength_77
theorem rX11_strength_78 : ab_Run X 87 78 (2, 0, 0) L st σ Q ↔ ab_Run X 87 79 (2, 0, 0) L (ab_I 0 :: st) σ Q := ab_r_iconst (by decide) kc_X11_strength dX11_strength_78
theorem rX11_strength_79 : ab_Run X 87 79 (2, 0, 0) L (ab_I x6 :: ab_I x5 :: ab_R x4 :: ab_I x3 :: ab_R x2 :: ab_R x1 :: ab_R a :: st) σ Q ↔ ((ab_sh σ a).1 = 7 ∧ ab_cats st ≤ 8) ∧ ab_Do X 35 [ab_R a, ab_R x1, ab_R x2, ab_I x3, ab_R x4, ab_I x5, ab_I x6] σ (fun r σ' => ab_Run X 87 82 (2, 0, 0) L (ab_psh r st) σ' Q) := ab_r_callV (w := [ab_I x6, ab_I x5, ab_R x4, ab_I x3, ab_R x2, ab_R x1]) (as := [ab_R x1, ab_R x2, ab_I x3, ab_R x4, ab_I x5, ab_I x6]) (b1 := (1, 0, 0)) 0 (Or.inl rfl) (by decide) ko_X11_strength qM_11_175 (by decide) rfl rfl rfl rfl rfl (by decide) (Nat.le_of_ble_eq_true rfl) kc_X11_strength dX11_strength_79
theorem rX11_strength_82 : ab_Run X 87 82 (2, 0, 0) [l0, l1, l2, l3, l4, ab_R z] st σ Q ↔ z ≠ 0 ∧ ab_Run X 87 84 (2, 0, 0) [l0, l1, l2, l3, l4, ab_R z] (ab_R z :: st) σ Q := ab_r_aload rfl kc_X11_strength dX11_strength_82
theorem rX11_strength_84 : ab_Run X 87 84 (2, 0, 0) L (ab_R a :: st) σ Q ↔ (ab_sh σ a).1 = 1 ∧ ab_Run X 87 87 (2, 0, 0) L (ab_R (ab_rd σ a 2) :: st) σ Q := gF_11_179 ko_X11_strength kc_X11_strength dX11_strength_84
theorem rX11_strength_87 : ab_Run X 87 87 (2, 0, 0) [l0, l1, l2, ab_I z, l4, l5] st σ Q ↔ ab_Run X 87 88 (2, 0, 0) [l0, l1, l2, ab_I z, l4, l5] (ab_I z :: st) σ Q := ab_r_iload_n rfl kc_X11_strength dX11_strength_87
theorem rX11_strength_88 : ab_Run X 87 88 (2, 0, 0) L (ab_I i :: ab_R a :: st) σ Q ↔ ((ab_sh σ a).1 = 21 ∧ 0 ≤ i ∧ i < (ab_sh σ a).2) ∧ ab_Run X 87 89 (2, 0, 0) L (ab_I (ab_rd σ a i) :: st) σ Q := ab_r_iaload (by decide) kc_X11_strength dX11_strength_88
theorem rX11_strength_89 : ab_Run X 87 89 (2, 0, 0) L [ab_I v] σ Q ↔ Q (some (ab_I v)) σ := ab_r_ireturnI rfl kc_X11_strength dX11_strength_89
theorem kc_X11_strain : ab_code 88 = cX11_strain := rfl
theorem ko_X11_strain : ab_ow 88 = 11 := rfl
theorem rX11_strain_0 : ab_Run X 88 0 (4, 0, 0) [ab_R z, l1, l2, l3, l4, l5, l6, l7, l8] st σ Q ↔ z ≠ 0 ∧ ab_Run X 88 1 (4, 0, 0) [ab_R z, l1, l2, l3, l4, l5, l6, l7, l8] (ab_R z :: st) σ Q := ab_r_aload_n rfl kc_X11_strain dX11_strain_0
theorem rX11_strain_1 : ab_Run X 88 1 (4, 0, 0) [ab_R z, l1, l2, l3, l4, l5, l6, l7, l8] st σ Q ↔ z ≠ 0 ∧ ab_Run X 88 2 (4, 0, 0) [ab_R z, l1, l2, l3, l4, l5, l6, l7, l8] (ab_R z :: st) σ Q := ab_r_aload_n rfl kc_X11_strain dX11_strain_1
theorem rX11_strain_2 : ab_Run X 88 2 (4, 0, 0) [l0, ab_I z, l2, l3, l4, l5, l6, l7, l8] st σ Q ↔ ab_Run X 88 3 (4, 0, 0) [l0, ab_I z, l2, l3, l4, l5, l6, l7, l8] (ab_I z :: st) σ Q := ab_r_iload_n rfl kc_X11_strain dX11_strain_2
theorem rX11_strain_3 : ab_Run X 88 3 (4, 0, 0) [l0, l1, ab_I z, l3, l4, l5, l6, l7, l8] st σ Q ↔ ab_Run X 88 4 (4, 0, 0) [l0, l1, ab_I z, l3, l4, l5, l6, l7, l8] (ab_I z :: st) σ Q := ab_r_iload_n rfl kc_X11_strain dX11_strain_3
theorem rX11_strain_4 : ab_Run X 88 4 (4, 0, 0) [l0, l1, l2, ab_I z, l4, l5, l6, l7, l8] st σ Q ↔ ab_Run X 88 5 (4, 0, 0) [l0, l1, l2, ab_I z, l4, l5, l6, l7, l8] (ab_I z :: st) σ Q := ab_r_iload_n rfl kc_X11_strain dX11_strain_4
theorem rX11_strain_5 : ab_Run X 88 5 (4, 0, 0) L (ab_I x3 :: ab_I x2 :: ab_I x1 :: ab_R a :: st) σ Q ↔ ((ab_sh σ a).1 = 12 ∧ ab_cats st ≤ 8) ∧ ab_Do X 129 [ab_R a, ab_I x1, ab_I x2, ab_I x3] σ (fun r σ' => ab_Run X 88 8 (4, 0, 0) L (ab_psh r st) σ' Q) := ab_r_callV (w := [ab_I x3, ab_I x2, ab_I x1]) (as := [ab_I x1, ab_I x2, ab_I x3]) (b1 := (1, 0, 0)) 0 (Or.inl rfl) (by decide) ko_X11_strain qM_11_131 (by decide) rfl rfl rfl rfl rfl (by decide) (Nat.le_of_ble_eq_true rfl) kc_X11_strain dX11_strain_5
theorem rX11_strain_8 : ab_Run X 88 8 (4, 0, 0) L (ab_I a :: st) σ Q ↔ (a = 0 → ab_Run X 88 29 (4, 0, 0) L st σ Q) ∧ (¬ (a = 0) → ab_Run X 88 11 (4, 0, 0) L st σ Q) := ab_r_if_eq rfl kc_X11_strain dX11_strain_8
theorem rX11_strain_11 : ab_Run X 88 11 (4, 0, 0) [ab_R z, l1, l2, l3, l4, l5, l6, l7, l8] st σ Q ↔ z ≠ 0 ∧ ab_Run X 88 12 (4, 0, 0) [ab_R z, l1, l2, l3, l4, l5, l6, l7, l8] (ab_R z :: st) σ Q := ab_r_aload_n rfl kc_X11_strain dX11_strain_11
theorem rX11_strain_12 : ab_Run X 88 12 (4, 0, 0) [l0, ab_I z, l2, l3, l4, l5, l6, l7, l8] st σ Q ↔ ab_Run X 88 13 (4, 0, 0) [l0, ab_I z, l2, l3, l4, l5, l6, l7, l8] (ab_I z :: st) σ Q := ab_r_iload_n rfl kc_X11_strain dX11_strain_12
theorem rX11_strain_13 : ab_Run X 88 13 (4, 0, 0) [l0, l1, l2, l3, ab_I z, l5, l6, l7, l8] st σ Q ↔ ab_Run X 88 15 (4, 0, 0) [l0, l1, l2, l3, ab_I z, l5, l6, l7, l8] (ab_I z :: st) σ Q := ab_r_iload rfl kc_X11_strain dX11_strain_13
theorem rX11_strain_15 : ab_Run X 88 15 (4, 0, 0) [l0, l1, l2, l3, l4, ab_I z, l6, l7, l8] st σ Q ↔ ab_Run X 88 17 (4, 0, 0) [l0, l1, l2, l3, l4, ab_I z, l6, l7, l8] (ab_I z :: st) σ Q := ab_r_iload rfl kc_X11_strain dX11_strain_15
theorem rX11_strain_17 : ab_Run X 88 17 (4, 0, 0) [l0, l1, l2, l3, l4, l5, ab_I z, l7, l8] st σ Q ↔ ab_Run X 88 19 (4, 0, 0) [l0, l1, l2, l3, l4, l5, ab_I z, l7, l8] (ab_I z :: st) σ Q := ab_r_iload rfl kc_X11_strain dX11_strain_17
theorem rX11_strain_19 : ab_Run X 88 19 (4, 0, 0) [l0, l1, l2, l3, l4, l5, l6, ab_I z, l8] st σ Q ↔ ab_Run X 88 21 (4, 0, 0) [l0, l1, l2, l3, l4, l5, l6, ab_I z, l8] (ab_I z :: st) σ Q := ab_r_iload rfl kc_X11_strain dX11_strain_19
theorem rX11_strain_21 : ab_Run X 88 21 (4, 0, 0) [l0, l1, l2, l3, l4, l5, l6, l7, ab_I z] st σ Q ↔ ab_Run X 88 23 (4, 0, 0) [l0, l1, l2, l3, l4, l5, l6, l7, ab_I z] (ab_I z :: st) σ Q := ab_r_iload rfl kc_X11_strain dX11_strain_21
theorem rX11_strain_23 : ab_Run X 88 23 (4, 0, 0) L (ab_I x6 :: ab_I x5 :: ab_I x4 :: ab_I x3 :: ab_I x2 :: ab_I x1 :: ab_R a :: st) σ Q ↔ ((ab_sh σ a).1 = 12 ∧ ab_cats st ≤ 8) ∧ ab_Do X 134 [ab_R a, ab_I x1, ab_I x2, ab_I x3, ab_I x4, ab_I x5, ab_I x6] σ (fun r σ' => ab_Run X 88 26 (4, 0, 0) L (ab_psh r st) σ' Q) := ab_r_callV (w := [ab_I x6, ab_I x5, ab_I x4, ab_I x3, ab_I x2, ab_I x1]) (as := [ab_I x1, ab_I x2, ab_I x3, ab_I x4, ab_I x5, ab_I x6]) (b1 := (3, 0, 0)) 0 (Or.inl rfl) (by decide) ko_X11_strain qM_11_184 (by decide) rfl rfl rfl rfl rfl (by decide) (Nat.le_of_ble_eq_true rfl) kc_X11_strain dX11_strain_23
theorem rX11_strain_26 : ab_Run X 88 26 (4, 0, 0) L st σ Q ↔ ab_Run X 88 30 (4, 0, 0) L st σ Q := ab_r_goto rfl kc_X11_strain dX11_strain_26
theorem rX11_strain_29 : ab_Run X 88 29 (4, 0, 0) L st σ Q ↔ ab_Run X 88 30 (4, 0, 0) L (ab_I 1 :: st) σ Q := ab_r_iconst (by decide) kc_X11_strain dX11_strain_29
theorem rX11_strain_30 : ab_Run X 88 30 (4, 0, 0) L (ab_I z :: ab_R a :: st) σ Q ↔ (ab_sh σ a).1 = 12 ∧ ab_Run X 88 33 (4, 0, 0) L st (ab_wr σ a 8 z) Q := sF_11_62 ko_X11_strain kc_X11_strain dX11_strain_30
theorem rX11_strain_33 : ab_Run X 88 33 (4, 0, 0) [ab_R z, l1, l2, l3, l4, l5, l6, l7, l8] st σ Q ↔ z ≠ 0 ∧ ab_Run X 88 34 (4, 0, 0) [ab_R z, l1, l2, l3, l4, l5, l6, l7, l8] (ab_R z :: st) σ Q := ab_r_aload_n rfl kc_X11_strain dX11_strain_33
theorem rX11_strain_34 : ab_Run X 88 34 (4, 0, 0) L (ab_R a :: st) σ Q ↔ (ab_sh σ a).1 = 12 ∧ ab_Run X 88 37 (4, 0, 0) L (ab_I (ab_rd σ a 8) :: st) σ Q := gF_11_62 ko_X11_strain kc_X11_strain dX11_strain_34
theorem rX11_strain_37 : ab_Run X 88 37 (4, 0, 0) L (ab_I a :: st) σ Q ↔ (a = 0 → ab_Run X 88 42 (4, 0, 0) L st σ Q) ∧ (¬ (a = 0) → ab_Run X 88 40 (4, 0, 0) L st σ Q) := ab_r_if_eq rfl kc_X11_strain dX11_strain_37
theorem rX11_strain_40 : ab_Run X 88 40 (4, 0, 0) L st σ Q ↔ ab_Run X 88 41 (4, 0, 0) L (ab_I (-1) :: st) σ Q := ab_r_iconst (by decide) kc_X11_strain dX11_strain_40
theorem rX11_strain_41 : ab_Run X 88 41 (4, 0, 0) L [ab_I v] σ Q ↔ Q (some (ab_I v)) σ := ab_r_ireturnI rfl kc_X11_strain dX11_strain_41
theorem rX11_strain_42 : ab_Run X 88 42 (4, 0, 0) [ab_R z, l1, l2, l3, l4, l5, l6, l7, l8] st σ Q ↔ z ≠ 0 ∧ ab_Run X 88 43 (4, 0, 0) [ab_R z, l1, l2, l3, l4, l5, l6, l7, l8] (ab_R z :: st) σ Q := ab_r_aload_n rfl kc_X11_strain dX11_strain_42
theorem rX11_strain_43 : ab_Run X 88 43 (4, 0, 0) [l0, ab_I z, l2, l3, l4, l5, l6, l7, l8] st σ Q ↔ ab_Run X 88 44 (4, 0, 0) [l0, ab_I z, l2, l3, l4, l5, l6, l7, l8] (ab_I z :: st) σ Q := ab_r_iload_n rfl kc_X11_strain dX11_strain_43
theorem rX11_strain_44 : ab_Run X 88 44 (4, 0, 0) [l0, l1, l2, l3, ab_I z, l5, l6, l7, l8] st σ Q ↔ ab_Run X 88 46 (4, 0, 0) [l0, l1, l2, l3, ab_I z, l5, l6, l7, l8] (ab_I z :: st) σ Q := ab_r_iload rfl kc_X11_strain dX11_strain_44
theorem rX11_strain_46 : ab_Run X 88 46 (4, 0, 0) [l0, l1, l2, l3, l4, ab_I z, l6, l7, l8] st σ Q ↔ ab_Run X 88 48 (4, 0, 0) [l0, l1, l2, l3, l4, ab_I z, l6, l7, l8] (ab_I z :: st) σ Q := ab_r_iload rfl kc_X11_strain dX11_strain_46
theorem rX11_strain_48 : ab_Run X 88 48 (4, 0, 0) [l0, l1, l2, l3, l4, l5, ab_I z, l7, l8] st σ Q ↔ ab_Run X 88 50 (4, 0, 0) [l0, l1, l2, l3, l4, l5, ab_I z, l7, l8] (ab_I z :: st) σ Q := ab_r_iload rfl kc_X11_strain dX11_strain_48
theorem rX11_strain_50 : ab_Run X 88 50 (4, 0, 0) [l0, l1, l2, l3, l4, l5, l6, ab_I z, l8] st σ Q ↔ ab_Run X 88 52 (4, 0, 0) [l0, l1, l2, l3, l4, l5, l6, ab_I z, l8] (ab_I z :: st) σ Q := ab_r_iload rfl kc_X11_strain dX11_strain_50
theorem rX11_strain_52 : ab_Run X 88 52 (4, 0, 0) [l0, l1, l2, l3, l4, l5, l6, l7, ab_I z] st σ Q ↔ ab_Run X 88 54 (4, 0, 0) [l0, l1, l2, l3, l4, l5, l6, l7, ab_I z] (ab_I z :: st) σ Q := ab_r_iload rfl kc_X11_strain dX11_strain_52
theorem rX11_strain_54 : ab_Run X 88 54 (4, 0, 0) L (ab_I x6 :: ab_I x5 :: ab_I x4 :: ab_I x3 :: ab_I x2 :: ab_I x1 :: ab_R a :: st) σ Q ↔ ((ab_sh σ a).1 = 12 ∧ ab_cats st ≤ 8) ∧ ab_Do X 138 [ab_R a, ab_I x1, ab_I x2, ab_I x3, ab_I x4, ab_I x5, ab_I x6] σ (fun r σ' => ab_Run X 88 57 (4, 0, 0) L (ab_psh r st) σ' Q) := ab_r_callV (w := [ab_I x6, ab_I x5, ab_I x4, ab_I x3, ab_I x2, ab_I x1]) (as := [ab_I x1, ab_I x2, ab_I x3, ab_I x4, ab_I x5, ab_I x6]) (b1 := (3, 0, 0)) 0 (Or.inl rfl) (by decide) ko_X11_strain qM_11_188 (by decide) rfl rfl rfl rfl rfl (by decide) (Nat.le_of_ble_eq_true rfl) kc_X11_strain dX11_strain_54
theorem rX11_strain_57 : ab_Run X 88 57 (4, 0, 0) [l0, l1, ab_I z, l3, l4, l5, l6, l7, l8] st σ Q ↔ ab_Run X 88 58 (4, 0, 0) [l0, l1, ab_I z, l3, l4, l5, l6, l7, l8] (ab_I z :: st) σ Q := ab_r_iload_n rfl kc_X11_strain dX11_strain_57
theorem rX11_strain_58 : ab_Run X 88 58 (4, 0, 0) L (ab_I a :: st) σ Q ↔ (¬ a = 0 → ab_Run X 88 76 (4, 0, 0) L st σ Q) ∧ (¬ (¬ a = 0) → ab_Run X 88 61 (4, 0, 0) L st σ Q) := ab_r_if_ne rfl kc_X11_strain dX11_strain_58
theorem rX11_strain_61 : ab_Run X 88 61 (4, 0, 0) [ab_R z, l1, l2, l3, l4, l5, l6, l7, l8] st σ Q ↔ z ≠ 0 ∧ ab_Run X 88 62 (4, 0, 0) [ab_R z, l1, l2, l3, l4, l5, l6, l7, l8] (ab_R z :: st) σ Q := ab_r_aload_n rfl kc_X11_strain dX11_strain_61
theorem rX11_strain_62 : ab_Run X 88 62 (4, 0, 0) L (ab_R a :: st) σ Q ↔ (ab_sh σ a).1 = 12 ∧ ab_Run X 88 65 (4, 0, 0) L (ab_R (ab_rd σ a 3) :: st) σ Q := gF_11_33 ko_X11_strain kc_X11_strain dX11_strain_62
theorem rX11_strain_65 : ab_Run X 88 65 (4, 0, 0) L (ab_R a :: st) σ Q ↔ (ab_sh σ a).1 = 7 ∧ ab_Run X 88 68 (4, 0, 0) L (ab_R (ab_rd σ a 0) :: st) σ Q := gF_11_171 ko_X11_strain kc_X11_strain dX11_strain_65
theorem rX11_strain_68 : ab_Run X 88 68 (4, 0, 0) L (ab_R a :: st) σ Q ↔ (ab_sh σ a).1 = 1 ∧ ab_Run X 88 71 (4, 0, 0) L (ab_R (ab_rd σ a 1) :: st) σ Q := gF_11_192 ko_X11_strain kc_X11_strain dX11_strain_68
theorem rX11_strain_71 : ab_Run X 88 71 (4, 0, 0) [l0, l1, l2, ab_I z, l4, l5, l6, l7, l8] st σ Q ↔ ab_Run X 88 72 (4, 0, 0) [l0, l1, l2, ab_I z, l4, l5, l6, l7, l8] (ab_I z :: st) σ Q := ab_r_iload_n rfl kc_X11_strain dX11_strain_71
theorem rX11_strain_72 : ab_Run X 88 72 (4, 0, 0) L (ab_I i :: ab_R a :: st) σ Q ↔ ((ab_sh σ a).1 = 21 ∧ 0 ≤ i ∧ i < (ab_sh σ a).2) ∧ ab_Run X 88 73 (4, 0, 0) L (ab_I (ab_rd σ a i) :: st) σ Q := ab_r_iaload (by decide) kc_X11_strain dX11_strain_72
theorem rX11_strain_73 : ab_Run X 88 73 (4, 0, 0) L st σ Q ↔ ab_Run X 88 88 (4, 0, 0) L st σ Q := ab_r_goto rfl kc_X11_strain dX11_strain_73
theorem rX11_strain_76 : ab_Run X 88 76 (4, 0, 0) [ab_R z, l1, l2, l3, l4, l5, l6, l7, l8] st σ Q ↔ z ≠ 0 ∧ ab_Run X 88 77 (4, 0, 0) [ab_R z, l1, l2, l3, l4, l5, l6, l7, l8] (ab_R z :: st) σ Q := ab_r_aload_n rfl kc_X11_strain dX11_strain_76
theorem rX11_strain_77 : ab_Run X 88 77 (4, 0, 0) L (ab_R a :: st) σ Q ↔ (ab_sh σ a).1 = 12 ∧ ab_Run X 88 80 (4, 0, 0) L (ab_R (ab_rd σ a 3) :: st) σ Q := gF_11_33 ko_X11_strain kc_X11_strain dX11_strain_77
theorem rX11_strain_80 : ab_Run X 88 80 (4, 0, 0) L (ab_R a :: st) σ Q ↔ (ab_sh σ a).1 = 7 ∧ ab_Run X 88 83 (4, 0, 0) L (ab_R (ab_rd σ a 1) :: st) σ Q := gF_11_195 ko_X11_strain kc_X11_strain dX11_strain_80
theorem rX11_strain_83 : ab_Run X 88 83 (4, 0, 0) L (ab_R a :: st) σ Q ↔ (ab_sh σ a).1 = 1 ∧ ab_Run X 88 86 (4, 0, 0) L (ab_R (ab_rd σ a 1) :: st) σ Q := gF_11_192 ko_X11_strain kc_X11_strain dX11_strain_83
theorem rX11_strain_86 : ab_Run X 88 86 (4, 0, 0) [l0, l1, l2, ab_I z, l4, l5, l6, l7, l8] st σ Q ↔ ab_Run X 88 87 (4, 0, 0) [l0, l1, l2, ab_I z, l4, l5, l6, l7, l8] (ab_I z :: st) σ Q := ab_r_iload_n rfl kc_X11_strain dX11_strain_86
theorem rX11_strain_87 : ab_Run X 88 87 (4, 0, 0) L (ab_I i :: ab_R a :: st) σ Q ↔ ((ab_sh σ a).1 = 21 ∧ 0 ≤ i ∧ i < (ab_sh σ a).2) ∧ ab_Run X 88 88 (4, 0, 0) L (ab_I (ab_rd σ a i) :: st) σ Q := ab_r_iaload (by decide) kc_X11_strain dX11_strain_87
theorem rX11_strain_88 : ab_Run X 88 88 (4, 0, 0) L [ab_I v] σ Q ↔ Q (some (ab_I v)) σ := ab_r_ireturnI rfl kc_X11_strain dX11_strain_88
theorem kc_X11_pulled : ab_code 89 = cX11_pulled := rfl
theorem ko_X11_pulled : ab_ow 89 = 11 := rfl
theorem rX11_pulled_0 : ab_Run X 89 0 (4, 0, 0) [ab_R z, l1, l2, l3, l4, l5, l6] st σ Q ↔ z ≠ 0 ∧ ab_Run X 89 1 (4, 0, 0) [ab_R z, l1, l2, l3, l4, l5, l6] (ab_R z :: st) σ Q := ab_r_aload_n rfl kc_X11_pulled dX11_pulled_0
theorem rX11_pulled_1 : ab_Run X 89 1 (4, 0, 0) [ab_R z, l1, l2, l3, l4, l5, l6] st σ Q ↔ z ≠ 0 ∧ ab_Run X 89 2 (4, 0, 0) [ab_R z, l1, l2, l3, l4, l5, l6] (ab_R z :: st) σ Q := ab_r_aload_n rfl kc_X11_pulled dX11_pulled_1
theorem rX11_pulled_2 : ab_Run X 89 2 (4, 0, 0) [l0, ab_I z, l2, l3, l4, l5, l6] st σ Q ↔ ab_Run X 89 3 (4, 0, 0) [l0, ab_I z, l2, l3, l4, l5, l6] (ab_I z :: st) σ Q := ab_r_iload_n rfl kc_X11_pulled dX11_pulled_2
theorem rX11_pulled_3 : ab_Run X 89 3 (4, 0, 0) [l0, l1, ab_I z, l3, l4, l5, l6] st σ Q ↔ ab_Run X 89 4 (4, 0, 0) [l0, l1, ab_I z, l3, l4, l5, l6] (ab_I z :: st) σ Q := ab_r_iload_n rfl kc_X11_pulled dX11_pulled_3
theorem rX11_pulled_4 : ab_Run X 89 4 (4, 0, 0) [l0, l1, l2, ab_I z, l4, l5, l6] st σ Q ↔ ab_Run X 89 5 (4, 0, 0) [l0, l1, l2, ab_I z, l4, l5, l6] (ab_I z :: st) σ Q := ab_r_iload_n rfl kc_X11_pulled dX11_pulled_4
theorem rX11_pulled_5 : ab_Run X 89 5 (4, 0, 0) [l0, l1, l2, l3, ab_I z, l5, l6] st σ Q ↔ ab_Run X 89 7 (4, 0, 0) [l0, l1, l2, l3, ab_I z, l5, l6] (ab_I z :: st) σ Q := ab_r_iload rfl kc_X11_pulled dX11_pulled_5
theorem rX11_pulled_7 : ab_Run X 89 7 (4, 0, 0) [l0, l1, l2, l3, l4, ab_I z, l6] st σ Q ↔ ab_Run X 89 9 (4, 0, 0) [l0, l1, l2, l3, l4, ab_I z, l6] (ab_I z :: st) σ Q := ab_r_iload rfl kc_X11_pulled dX11_pulled_7
theorem rX11_pulled_9 : ab_Run X 89 9 (4, 0, 0) [l0, l1, l2, l3, l4, l5, ab_I z] st σ Q ↔ ab_Run X 89 11 (4, 0, 0) [l0, l1, l2, l3, l4, l5, ab_I z] (ab_I z :: st) σ Q := ab_r_iload rfl kc_X11_pulled dX11_pulled_9
theorem rX11_pulled_11 : ab_Run X 89 11 (4, 0, 0) L (ab_I x6 :: ab_I x5 :: ab_I x4 :: ab_I x3 :: ab_I x2 :: ab_I x1 :: ab_R a :: st) σ Q ↔ ((ab_sh σ a).1 = 12 ∧ ab_cats st ≤ 8) ∧ ab_Do X 134 [ab_R a, ab_I x1, ab_I x2, ab_I x3, ab_I x4, ab_I x5, ab_I x6] σ (fun r σ' => ab_Run X 89 14 (4, 0, 0) L (ab_psh r st) σ' Q) := ab_r_callV (w := [ab_I x6, ab_I x5, ab_I x4, ab_I x3, ab_I x2, ab_I x1]) (as := [ab_I x1, ab_I x2, ab_I x3, ab_I x4, ab_I x5, ab_I x6]) (b1 := (3, 0, 0)) 0 (Or.inl rfl) (by decide) ko_X11_pulled qM_11_184 (by decide) rfl rfl rfl rfl rfl (by decide) (Nat.le_of_ble_eq_true rfl) kc_X11_pulled dX11_pulled_11
theorem rX11_pulled_14 : ab_Run X 89 14 (4, 0, 0) L (ab_I z :: ab_R a :: st) σ Q ↔ (ab_sh σ a).1 = 12 ∧ ab_Run X 89 17 (4, 0, 0) L st (ab_wr σ a 8 z) Q := sF_11_62 ko_X11_pulled kc_X11_pulled dX11_pulled_14
theorem rX11_pulled_17 : ab_Run X 89 17 (4, 0, 0) [ab_R z, l1, l2, l3, l4, l5, l6] st σ Q ↔ z ≠ 0 ∧ ab_Run X 89 18 (4, 0, 0) [ab_R z, l1, l2, l3, l4, l5, l6] (ab_R z :: st) σ Q := ab_r_aload_n rfl kc_X11_pulled dX11_pulled_17
theorem rX11_pulled_18 : ab_Run X 89 18 (4, 0, 0) L (ab_R a :: st) σ Q ↔ (ab_sh σ a).1 = 12 ∧ ab_Run X 89 21 (4, 0, 0) L (ab_I (ab_rd σ a 8) :: st) σ Q := gF_11_62 ko_X11_pulled kc_X11_pulled dX11_pulled_18
theorem rX11_pulled_21 : ab_Run X 89 21 (4, 0, 0) L (ab_I a :: st) σ Q ↔ (a = 0 → ab_Run X 89 26 (4, 0, 0) L st σ Q) ∧ (¬ (a = 0) → ab_Run X 89 24 (4, 0, 0) L st σ Q) := ab_r_if_eq rfl kc_X11_pulled dX11_pulled_21
theorem rX11_pulled_24 : ab_Run X 89 24 (4, 0, 0) L st σ Q ↔ ab_Run X 89 25 (4, 0, 0) L (ab_I (-1) :: st) σ Q := ab_r_iconst (by decide) kc_X11_pulled dX11_pulled_24
theorem rX11_pulled_25 : ab_Run X 89 25 (4, 0, 0) L [ab_I v] σ Q ↔ Q (some (ab_I v)) σ := ab_r_ireturnI rfl kc_X11_pulled dX11_pulled_25
theorem rX11_pulled_26 : ab_Run X 89 26 (4, 0, 0) [ab_R z, l1, l2, l3, l4, l5, l6] st σ Q ↔ z ≠ 0 ∧ ab_Run X 89 27 (4, 0, 0) [ab_R z, l1, l2, l3, l4, l5, l6] (ab_R z :: st) σ Q := ab_r_aload_n rfl kc_X11_pulled dX11_pulled_26
theorem rX11_pulled_27 : ab_Run X 89 27 (4, 0, 0) [l0, ab_I z, l2, l3, l4, l5, l6] st σ Q ↔ ab_Run X 89 28 (4, 0, 0) [l0, ab_I z, l2, l3, l4, l5, l6] (ab_I z :: st) σ Q := ab_r_iload_n rfl kc_X11_pulled dX11_pulled_27
theorem rX11_pulled_28 : ab_Run X 89 28 (4, 0, 0) [l0, l1, ab_I z, l3, l4, l5, l6] st σ Q ↔ ab_Run X 89 29 (4, 0, 0) [l0, l1, ab_I z, l3, l4, l5, l6] (ab_I z :: st) σ Q := ab_r_iload_n rfl kc_X11_pulled dX11_pulled_28
theorem rX11_pulled_29 : ab_Run X 89 29 (4, 0, 0) [l0, l1, l2, ab_I z, l4, l5, l6] st σ Q ↔ ab_Run X 89 30 (4, 0, 0) [l0, l1, l2, ab_I z, l4, l5, l6] (ab_I z :: st) σ Q := ab_r_iload_n rfl kc_X11_pulled dX11_pulled_29
theorem rX11_pulled_30 : ab_Run X 89 30 (4, 0, 0) [l0, l1, l2, l3, ab_I z, l5, l6] st σ Q ↔ ab_Run X 89 32 (4, 0, 0) [l0, l1, l2, l3, ab_I z, l5, l6] (ab_I z :: st) σ Q := ab_r_iload rfl kc_X11_pulled dX11_pulled_30
theorem rX11_pulled_32 : ab_Run X 89 32 (4, 0, 0) [l0, l1, l2, l3, l4, ab_I z, l6] st σ Q ↔ ab_Run X 89 34 (4, 0, 0) [l0, l1, l2, l3, l4, ab_I z, l6] (ab_I z :: st) σ Q := ab_r_iload rfl kc_X11_pulled dX11_pulled_32
theorem rX11_pulled_34 : ab_Run X 89 34 (4, 0, 0) [l0, l1, l2, l3, l4, l5, ab_I z] st σ Q ↔ ab_Run X 89 36 (4, 0, 0) [l0, l1, l2, l3, l4, l5, ab_I z] (ab_I z :: st) σ Q := ab_r_iload rfl kc_X11_pulled dX11_pulled_34
theorem rX11_pulled_36 : ab_Run X 89 36 (4, 0, 0) L (ab_I x6 :: ab_I x5 :: ab_I x4 :: ab_I x3 :: ab_I x2 :: ab_I x1 :: ab_R a :: st) σ Q ↔ ((ab_sh σ a).1 = 12 ∧ ab_cats st ≤ 8) ∧ ab_Do X 138 [ab_R a, ab_I x1, ab_I x2, ab_I x3, ab_I x4, ab_I x5, ab_I x6] σ (fun r σ' => ab_Run X 89 39 (4, 0, 0) L (ab_psh r st) σ' Q) := ab_r_callV (w := [ab_I x6, ab_I x5, ab_I x4, ab_I x3, ab_I x2, ab_I x1]) (as := [ab_I x1, ab_I x2, ab_I x3, ab_I x4, ab_I x5, ab_I x6]) (b1 := (3, 0, 0)) 0 (Or.inl rfl) (by decide) ko_X11_pulled qM_11_188 (by decide) rfl rfl rfl rfl rfl (by decide) (Nat.le_of_ble_eq_true rfl) kc_X11_pulled dX11_pulled_36
theorem rX11_pulled_39 : ab_Run X 89 39 (4, 0, 0) [ab_R z, l1, l2, l3, l4, l5, l6] st σ Q ↔ z ≠ 0 ∧ ab_Run X 89 40 (4, 0, 0) [ab_R z, l1, l2, l3, l4, l5, l6] (ab_R z :: st) σ Q := ab_r_aload_n rfl kc_X11_pulled dX11_pulled_39
theorem rX11_pulled_40 : ab_Run X 89 40 (4, 0, 0) L (ab_R a :: st) σ Q ↔ (ab_sh σ a).1 = 12 ∧ ab_Run X 89 43 (4, 0, 0) L (ab_R (ab_rd σ a 3) :: st) σ Q := gF_11_33 ko_X11_pulled kc_X11_pulled dX11_pulled_40
theorem rX11_pulled_43 : ab_Run X 89 43 (4, 0, 0) L st σ Q ↔ ab_Run X 89 44 (4, 0, 0) L (ab_I (-1) :: st) σ Q := ab_r_iconst (by decide) kc_X11_pulled dX11_pulled_43
theorem rX11_pulled_44 : ab_Run X 89 44 (4, 0, 0) L (ab_I x1 :: ab_R a :: st) σ Q ↔ ((ab_sh σ a).1 = 7 ∧ ab_cats st ≤ 8) ∧ ab_Do X 36 [ab_R a, ab_I x1] σ (fun r σ' => ab_Run X 89 47 (4, 0, 0) L (ab_psh r st) σ' Q) := ab_r_callV (w := [ab_I x1]) (as := [ab_I x1]) (b1 := (1, 0, 0)) 0 (Or.inl rfl) (by decide) ko_X11_pulled qM_11_198 (by decide) rfl rfl rfl rfl rfl (by decide) (Nat.le_of_ble_eq_true rfl) kc_X11_pulled dX11_pulled_44
theorem rX11_pulled_47 : ab_Run X 89 47 (4, 0, 0) L [ab_I v] σ Q ↔ Q (some (ab_I v)) σ := ab_r_ireturnI rfl kc_X11_pulled dX11_pulled_47
theorem kc_X11_breaksAt : ab_code 90 = cX11_breaksAt := rfl
theorem ko_X11_breaksAt : ab_ow 90 = 11 := rfl
theorem rX11_breaksAt_0 : ab_Run X 90 0 (4, 0, 0) [ab_R z, l1, l2, l3, l4, l5, l6] st σ Q ↔ z ≠ 0 ∧ ab_Run X 90 1 (4, 0, 0) [ab_R z, l1, l2, l3, l4, l5, l6] (ab_R z :: st) σ Q := ab_r_aload_n rfl kc_X11_breaksAt dX11_breaksAt_0
theorem rX11_breaksAt_1 : ab_Run X 90 1 (4, 0, 0) [ab_R z, l1, l2, l3, l4, l5, l6] st σ Q ↔ z ≠ 0 ∧ ab_Run X 90 2 (4, 0, 0) [ab_R z, l1, l2, l3, l4, l5, l6] (ab_R z :: st) σ Q := ab_r_aload_n rfl kc_X11_breaksAt dX11_breaksAt_1
theorem rX11_breaksAt_2 : ab_Run X 90 2 (4, 0, 0) [l0, ab_I z, l2, l3, l4, l5, l6] st σ Q ↔ ab_Run X 90 3 (4, 0, 0) [l0, ab_I z, l2, l3, l4, l5, l6] (ab_I z :: st) σ Q := ab_r_iload_n rfl kc_X11_breaksAt dX11_breaksAt_2
theorem rX11_breaksAt_3 : ab_Run X 90 3 (4, 0, 0) [l0, l1, ab_I z, l3, l4, l5, l6] st σ Q ↔ ab_Run X 90 4 (4, 0, 0) [l0, l1, ab_I z, l3, l4, l5, l6] (ab_I z :: st) σ Q := ab_r_iload_n rfl kc_X11_breaksAt dX11_breaksAt_3
theorem rX11_breaksAt_4 : ab_Run X 90 4 (4, 0, 0) [l0, l1, l2, ab_I z, l4, l5, l6] st σ Q ↔ ab_Run X 90 5 (4, 0, 0) [l0, l1, l2, ab_I z, l4, l5, l6] (ab_I z :: st) σ Q := ab_r_iload_n rfl kc_X11_breaksAt dX11_breaksAt_4
theorem rX11_breaksAt_5 : ab_Run X 90 5 (4, 0, 0) [l0, l1, l2, l3, ab_I z, l5, l6] st σ Q ↔ ab_Run X 90 7 (4, 0, 0) [l0, l1, l2, l3, ab_I z, l5, l6] (ab_I z :: st) σ Q := ab_r_iload rfl kc_X11_breaksAt dX11_breaksAt_5
theorem rX11_breaksAt_7 : ab_Run X 90 7 (4, 0, 0) [l0, l1, l2, l3, l4, ab_I z, l6] st σ Q ↔ ab_Run X 90 9 (4, 0, 0) [l0, l1, l2, l3, l4, ab_I z, l6] (ab_I z :: st) σ Q := ab_r_iload rfl kc_X11_breaksAt dX11_breaksAt_7
theorem rX11_breaksAt_9 : ab_Run X 90 9 (4, 0, 0) [l0, l1, l2, l3, l4, l5, ab_I z] st σ Q ↔ ab_Run X 90 11 (4, 0, 0) [l0, l1, l2, l3, l4, l5, ab_I z] (ab_I z :: st) σ Q := ab_r_iload rfl kc_X11_breaksAt dX11_breaksAt_9
theorem rX11_breaksAt_11 : ab_Run X 90 11 (4, 0, 0) L (ab_I x6 :: ab_I x5 :: ab_I x4 :: ab_I x3 :: ab_I x2 :: ab_I x1 :: ab_R a :: st) σ Q ↔ ((ab_sh σ a).1 = 12 ∧ ab_cats st ≤ 8) ∧ ab_Do X 134 [ab_R a, ab_I x1, ab_I x2, ab_I x3, ab_I x4, ab_I x5, ab_I x6] σ (fun r σ' => ab_Run X 90 14 (4, 0, 0) L (ab_psh r st) σ' Q) := ab_r_callV (w := [ab_I x6, ab_I x5, ab_I x4, ab_I x3, ab_I x2, ab_I x1]) (as := [ab_I x1, ab_I x2, ab_I x3, ab_I x4, ab_I x5, ab_I x6]) (b1 := (3, 0, 0)) 0 (Or.inl rfl) (by decide) ko_X11_breaksAt qM_11_184 (by decide) rfl rfl rfl rfl rfl (by decide) (Nat.le_of_ble_eq_true rfl) kc_X11_breaksAt dX11_breaksAt_11
theorem rX11_breaksAt_14 : ab_Run X 90 14 (4, 0, 0) L (ab_I z :: ab_R a :: st) σ Q ↔ (ab_sh σ a).1 = 12 ∧ ab_Run X 90 17 (4, 0, 0) L st (ab_wr σ a 8 z) Q := sF_11_62 ko_X11_breaksAt kc_X11_breaksAt dX11_breaksAt_14
theorem rX11_breaksAt_17 : ab_Run X 90 17 (4, 0, 0) [ab_R z, l1, l2, l3, l4, l5, l6] st σ Q ↔ z ≠ 0 ∧ ab_Run X 90 18 (4, 0, 0) [ab_R z, l1, l2, l3, l4, l5, l6] (ab_R z :: st) σ Q := ab_r_aload_n rfl kc_X11_breaksAt dX11_breaksAt_17
theorem rX11_breaksAt_18 : ab_Run X 90 18 (4, 0, 0) L (ab_R a :: st) σ Q ↔ (ab_sh σ a).1 = 12 ∧ ab_Run X 90 21 (4, 0, 0) L (ab_I (ab_rd σ a 8) :: st) σ Q := gF_11_62 ko_X11_breaksAt kc_X11_breaksAt dX11_breaksAt_18
theorem rX11_breaksAt_21 : ab_Run X 90 21 (4, 0, 0) L (ab_I a :: st) σ Q ↔ (a = 0 → ab_Run X 90 26 (4, 0, 0) L st σ Q) ∧ (¬ (a = 0) → ab_Run X 90 24 (4, 0, 0) L st σ Q) := ab_r_if_eq rfl kc_X11_breaksAt dX11_breaksAt_21
theorem rX11_breaksAt_24 : ab_Run X 90 24 (4, 0, 0) L st σ Q ↔ ab_Run X 90 25 (4, 0, 0) L (ab_I (-1) :: st) σ Q := ab_r_iconst (by decide) kc_X11_breaksAt dX11_breaksAt_24
theorem rX11_breaksAt_25 : ab_Run X 90 25 (4, 0, 0) L [ab_I v] σ Q ↔ Q (some (ab_I v)) σ := ab_r_ireturnI rfl kc_X11_breaksAt dX11_breaksAt_25
theorem rX11_breaksAt_26 : ab_Run X 90 26 (4, 0, 0) [ab_R z, l1, l2, l3, l4, l5, l6] st σ Q ↔ z ≠ 0 ∧ ab_Run X 90 27 (4, 0, 0) [ab_R z, l1, l2, l3, l4, l5, l6] (ab_R z :: st) σ Q := ab_r_aload_n rfl kc_X11_breaksAt dX11_breaksAt_26
theorem rX11_breaksAt_27 : ab_Run X 90 27 (4, 0, 0) [l0, ab_I z, l2, l3, l4, l5, l6] st σ Q ↔ ab_Run X 90 28 (4, 0, 0) [l0, ab_I z, l2, l3, l4, l5, l6] (ab_I z :: st) σ Q := ab_r_iload_n rfl kc_X11_breaksAt dX11_breaksAt_27
theorem rX11_breaksAt_28 : ab_Run X 90 28 (4, 0, 0) [l0, l1, ab_I z, l3, l4, l5, l6] st σ Q ↔ ab_Run X 90 29 (4, 0, 0) [l0, l1, ab_I z, l3, l4, l5, l6] (ab_I z :: st) σ Q := ab_r_iload_n rfl kc_X11_breaksAt dX11_breaksAt_28
theorem rX11_breaksAt_29 : ab_Run X 90 29 (4, 0, 0) [l0, l1, l2, ab_I z, l4, l5, l6] st σ Q ↔ ab_Run X 90 30 (4, 0, 0) [l0, l1, l2, ab_I z, l4, l5, l6] (ab_I z :: st) σ Q := ab_r_iload_n rfl kc_X11_breaksAt dX11_breaksAt_29
theorem rX11_breaksAt_30 : ab_Run X 90 30 (4, 0, 0) [l0, l1, l2, l3, ab_I z, l5, l6] st σ Q ↔ ab_Run X 90 32 (4, 0, 0) [l0, l1, l2, l3, ab_I z, l5, l6] (ab_I z :: st) σ Q := ab_r_iload rfl kc_X11_breaksAt dX11_breaksAt_30
theorem rX11_breaksAt_32 : ab_Run X 90 32 (4, 0, 0) [l0, l1, l2, l3, l4, ab_I z, l6] st σ Q ↔ ab_Run X 90 34 (4, 0, 0) [l0, l1, l2, l3, l4, ab_I z, l6] (ab_I z :: st) σ Q := ab_r_iload rfl kc_X11_breaksAt dX11_breaksAt_32
theorem rX11_breaksAt_34 : ab_Run X 90 34 (4, 0, 0) [l0, l1, l2, l3, l4, l5, ab_I z] st σ Q ↔ ab_Run X 90 36 (4, 0, 0) [l0, l1, l2, l3, l4, l5, ab_I z] (ab_I z :: st) σ Q := ab_r_iload rfl kc_X11_breaksAt dX11_breaksAt_34
theorem rX11_breaksAt_36 : ab_Run X 90 36 (4, 0, 0) L (ab_I x6 :: ab_I x5 :: ab_I x4 :: ab_I x3 :: ab_I x2 :: ab_I x1 :: ab_R a :: st) σ Q ↔ ((ab_sh σ a).1 = 12 ∧ ab_cats st ≤ 8) ∧ ab_Do X 138 [ab_R a, ab_I x1, ab_I x2, ab_I x3, ab_I x4, ab_I x5, ab_I x6] σ (fun r σ' => ab_Run X 90 39 (4, 0, 0) L (ab_psh r st) σ' Q) := ab_r_callV (w := [ab_I x6, ab_I x5, ab_I x4, ab_I x3, ab_I x2, ab_I x1]) (as := [ab_I x1, ab_I x2, ab_I x3, ab_I x4, ab_I x5, ab_I x6]) (b1 := (3, 0, 0)) 0 (Or.inl rfl) (by decide) ko_X11_breaksAt qM_11_188 (by decide) rfl rfl rfl rfl rfl (by decide) (Nat.le_of_ble_eq_true rfl) kc_X11_breaksAt dX11_breaksAt_36
theorem rX11_breaksAt_39 : ab_Run X 90 39 (4, 0, 0) [ab_R z, l1, l2, l3, l4, l5, l6] st σ Q ↔ z ≠ 0 ∧ ab_Run X 90 40 (4, 0, 0) [ab_R z, l1, l2, l3, l4, l5, l6] (ab_R z :: st) σ Q := ab_r_aload_n rfl kc_X11_breaksAt dX11_breaksAt_39
theorem rX11_breaksAt_40 : ab_Run X 90 40 (4, 0, 0) L (ab_R a :: st) σ Q ↔ (ab_sh σ a).1 = 12 ∧ ab_Run X 90 43 (4, 0, 0) L (ab_R (ab_rd σ a 3) :: st) σ Q := gF_11_33 ko_X11_breaksAt kc_X11_breaksAt dX11_breaksAt_40
theorem rX11_breaksAt_43 : ab_Run X 90 43 (4, 0, 0) L (ab_R a :: st) σ Q ↔ ((ab_sh σ a).1 = 7 ∧ ab_cats st ≤ 8) ∧ ab_Do X 37 [ab_R a] σ (fun r σ' => ab_Run X 90 46 (4, 0, 0) L (ab_psh r st) σ' Q) := ab_r_callV (w := []) (as := []) (b1 := (2, 0, 0)) 0 (Or.inl rfl) (by decide) ko_X11_breaksAt qM_11_201 (by decide) rfl rfl rfl rfl rfl (by decide) (Nat.le_of_ble_eq_true rfl) kc_X11_breaksAt dX11_breaksAt_43
theorem rX11_breaksAt_46 : ab_Run X 90 46 (4, 0, 0) L [ab_I v] σ Q ↔ Q (some (ab_I v)) σ := ab_r_ireturnI rfl kc_X11_breaksAt dX11_breaksAt_46
theorem kc_X11_flawed : ab_code 91 = cX11_flawed := rfl
theorem ko_X11_flawed : ab_ow 91 = 11 := rfl
theorem rX11_flawed_0 : ab_Run X 91 0 (4, 0, 0) [ab_R z, l1, l2, l3, l4, l5, l6, l7, l8] st σ Q ↔ z ≠ 0 ∧ ab_Run X 91 1 (4, 0, 0) [ab_R z, l1, l2, l3, l4, l5, l6, l7, l8] (ab_R z :: st) σ Q := ab_r_aload_n rfl kc_X11_flawed dX11_flawed_0
theorem rX11_flawed_1 : ab_Run X 91 1 (4, 0, 0) [ab_R z, l1, l2, l3, l4, l5, l6, l7, l8] st σ Q ↔ z ≠ 0 ∧ ab_Run X 91 2 (4, 0, 0) [ab_R z, l1, l2, l3, l4, l5, l6, l7, l8] (ab_R z :: st) σ Q := ab_r_aload_n rfl kc_X11_flawed dX11_flawed_1
theorem rX11_flawed_2 : ab_Run X 91 2 (4, 0, 0) [l0, ab_I z, l2, l3, l4, l5, l6, l7, l8] st σ Q ↔ ab_Run X 91 3 (4, 0, 0) [l0, ab_I z, l2, l3, l4, l5, l6, l7, l8] (ab_I z :: st) σ Q := ab_r_iload_n rfl kc_X11_flawed dX11_flawed_2
theorem rX11_flawed_3 : ab_Run X 91 3 (4, 0, 0) [l0, l1, l2, l3, l4, l5, l6, ab_I z, l8] st σ Q ↔ ab_Run X 91 5 (4, 0, 0) [l0, l1, l2, l3, l4, l5, l6, ab_I z, l8] (ab_I z :: st) σ Q := ab_r_iload rfl kc_X11_flawed dX11_flawed_3
theorem rX11_flawed_5 : ab_Run X 91 5 (4, 0, 0) [l0, l1, l2, l3, l4, l5, l6, l7, ab_I z] st σ Q ↔ ab_Run X 91 7 (4, 0, 0) [l0, l1, l2, l3, l4, l5, l6, l7, ab_I z] (ab_I z :: st) σ Q := ab_r_iload rfl kc_X11_flawed dX11_flawed_5
theorem rX11_flawed_7 : ab_Run X 91 7 (4, 0, 0) L (ab_I x3 :: ab_I x2 :: ab_I x1 :: ab_R a :: st) σ Q ↔ ((ab_sh σ a).1 = 12 ∧ ab_cats st ≤ 8) ∧ ab_Do X 129 [ab_R a, ab_I x1, ab_I x2, ab_I x3] σ (fun r σ' => ab_Run X 91 10 (4, 0, 0) L (ab_psh r st) σ' Q) := ab_r_callV (w := [ab_I x3, ab_I x2, ab_I x1]) (as := [ab_I x1, ab_I x2, ab_I x3]) (b1 := (1, 0, 0)) 0 (Or.inl rfl) (by decide) ko_X11_flawed qM_11_131 (by decide) rfl rfl rfl rfl rfl (by decide) (Nat.le_of_ble_eq_true rfl) kc_X11_flawed dX11_flawed_7
theorem rX11_flawed_10 : ab_Run X 91 10 (4, 0, 0) L (ab_I a :: st) σ Q ↔ (a = 0 → ab_Run X 91 29 (4, 0, 0) L st σ Q) ∧ (¬ (a = 0) → ab_Run X 91 13 (4, 0, 0) L st σ Q) := ab_r_if_eq rfl kc_X11_flawed dX11_flawed_10
theorem rX11_flawed_13 : ab_Run X 91 13 (4, 0, 0) [ab_R z, l1, l2, l3, l4, l5, l6, l7, l8] st σ Q ↔ z ≠ 0 ∧ ab_Run X 91 14 (4, 0, 0) [ab_R z, l1, l2, l3, l4, l5, l6, l7, l8] (ab_R z :: st) σ Q := ab_r_aload_n rfl kc_X11_flawed dX11_flawed_13
theorem rX11_flawed_14 : ab_Run X 91 14 (4, 0, 0) [l0, ab_I z, l2, l3, l4, l5, l6, l7, l8] st σ Q ↔ ab_Run X 91 15 (4, 0, 0) [l0, ab_I z, l2, l3, l4, l5, l6, l7, l8] (ab_I z :: st) σ Q := ab_r_iload_n rfl kc_X11_flawed dX11_flawed_14
theorem rX11_flawed_15 : ab_Run X 91 15 (4, 0, 0) [l0, l1, ab_I z, l3, l4, l5, l6, l7, l8] st σ Q ↔ ab_Run X 91 16 (4, 0, 0) [l0, l1, ab_I z, l3, l4, l5, l6, l7, l8] (ab_I z :: st) σ Q := ab_r_iload_n rfl kc_X11_flawed dX11_flawed_15
theorem rX11_flawed_16 : ab_Run X 91 16 (4, 0, 0) [l0, l1, l2, ab_I z, l4, l5, l6, l7, l8] st σ Q ↔ ab_Run X 91 17 (4, 0, 0) [l0, l1, l2, ab_I z, l4, l5, l6, l7, l8] (ab_I z :: st) σ Q := ab_r_iload_n rfl kc_X11_flawed dX11_flawed_16
theorem rX11_flawed_17 : ab_Run X 91 17 (4, 0, 0) [l0, l1, l2, l3, ab_I z, l5, l6, l7, l8] st σ Q ↔ ab_Run X 91 19 (4, 0, 0) [l0, l1, l2, l3, ab_I z, l5, l6, l7, l8] (ab_I z :: st) σ Q := ab_r_iload rfl kc_X11_flawed dX11_flawed_17
theorem rX11_flawed_19 : ab_Run X 91 19 (4, 0, 0) [l0, l1, l2, l3, l4, ab_I z, l6, l7, l8] st σ Q ↔ ab_Run X 91 21 (4, 0, 0) [l0, l1, l2, l3, l4, ab_I z, l6, l7, l8] (ab_I z :: st) σ Q := ab_r_iload rfl kc_X11_flawed dX11_flawed_19
theorem rX11_flawed_21 : ab_Run X 91 21 (4, 0, 0) [l0, l1, l2, l3, l4, l5, ab_I z, l7, l8] st σ Q ↔ ab_Run X 91 23 (4, 0, 0) [l0, l1, l2, l3, l4, l5, ab_I z, l7, l8] (ab_I z :: st) σ Q := ab_r_iload rfl kc_X11_flawed dX11_flawed_21
theorem rX11_flawed_23 : ab_Run X 91 23 (4, 0, 0) L (ab_I x6 :: ab_I x5 :: ab_I x4 :: ab_I x3 :: ab_I x2 :: ab_I x1 :: ab_R a :: st) σ Q ↔ ((ab_sh σ a).1 = 12 ∧ ab_cats st ≤ 8) ∧ ab_Do X 134 [ab_R a, ab_I x1, ab_I x2, ab_I x3, ab_I x4, ab_I x5, ab_I x6] σ (fun r σ' => ab_Run X 91 26 (4, 0, 0) L (ab_psh r st) σ' Q) := ab_r_callV (w := [ab_I x6, ab_I x5, ab_I x4, ab_I x3, ab_I x2, ab_I x1]) (as := [ab_I x1, ab_I x2, ab_I x3, ab_I x4, ab_I x5, ab_I x6]) (b1 := (3, 0, 0)) 0 (Or.inl rfl) (by decide) ko_X11_flawed qM_11_184 (by decide) rfl rfl rfl rfl rfl (by decide) (Nat.le_of_ble_eq_true rfl) kc_X11_flawed dX11_flawed_23
theorem rX11_flawed_26 : ab_Run X 91 26 (4, 0, 0) L st σ Q ↔ ab_Run X 91 30 (4, 0, 0) L st σ Q := ab_r_goto rfl kc_X11_flawed dX11_flawed_26
theorem rX11_flawed_29 : ab_Run X 91 29 (4, 0, 0) L st σ Q ↔ ab_Run X 91 30 (4, 0, 0) L (ab_I 1 :: st) σ Q := ab_r_iconst (by decide) kc_X11_flawed dX11_flawed_29
theorem rX11_flawed_30 : ab_Run X 91 30 (4, 0, 0) L (ab_I z :: ab_R a :: st) σ Q ↔ (ab_sh σ a).1 = 12 ∧ ab_Run X 91 33 (4, 0, 0) L st (ab_wr σ a 8 z) Q := sF_11_62 ko_X11_flawed kc_X11_flawed dX11_flawed_30
theorem rX11_flawed_33 : ab_Run X 91 33 (4, 0, 0) [ab_R z, l1, l2, l3, l4, l5, l6, l7, l8] st σ Q ↔ z ≠ 0 ∧ ab_Run X 91 34 (4, 0, 0) [ab_R z, l1, l2, l3, l4, l5, l6, l7, l8] (ab_R z :: st) σ Q := ab_r_aload_n rfl kc_X11_flawed dX11_flawed_33
theorem rX11_flawed_34 : ab_Run X 91 34 (4, 0, 0) L (ab_R a :: st) σ Q ↔ (ab_sh σ a).1 = 12 ∧ ab_Run X 91 37 (4, 0, 0) L (ab_I (ab_rd σ a 8) :: st) σ Q := gF_11_62 ko_X11_flawed kc_X11_flawed dX11_flawed_34
theorem rX11_flawed_37 : ab_Run X 91 37 (4, 0, 0) L (ab_I a :: st) σ Q ↔ (a = 0 → ab_Run X 91 42 (4, 0, 0) L st σ Q) ∧ (¬ (a = 0) → ab_Run X 91 40 (4, 0, 0) L st σ Q) := ab_r_if_eq rfl kc_X11_flawed dX11_flawed_37
theorem rX11_flawed_40 : ab_Run X 91 40 (4, 0, 0) L st σ Q ↔ ab_Run X 91 41 (4, 0, 0) L (ab_I (-1) :: st) σ Q := ab_r_iconst (by decide) kc_X11_flawed dX11_flawed_40
theorem rX11_flawed_41 : ab_Run X 91 41 (4, 0, 0) L [ab_I v] σ Q ↔ Q (some (ab_I v)) σ := ab_r_ireturnI rfl kc_X11_flawed dX11_flawed_41
theorem rX11_flawed_42 : ab_Run X 91 42 (4, 0, 0) [ab_R z, l1, l2, l3, l4, l5, l6, l7, l8] st σ Q ↔ z ≠ 0 ∧ ab_Run X 91 43 (4, 0, 0) [ab_R z, l1, l2, l3, l4, l5, l6, l7, l8] (ab_R z :: st) σ Q := ab_r_aload_n rfl kc_X11_flawed dX11_flawed_42
theorem rX11_flawed_43 : ab_Run X 91 43 (4, 0, 0) [l0, ab_I z, l2, l3, l4, l5, l6, l7, l8] st σ Q ↔ ab_Run X 91 44 (4, 0, 0) [l0, ab_I z, l2, l3, l4, l5, l6, l7, l8] (ab_I z :: st) σ Q := ab_r_iload_n rfl kc_X11_flawed dX11_flawed_43
theorem rX11_flawed_44 : ab_Run X 91 44 (4, 0, 0) [l0, l1, ab_I z, l3, l4, l5, l6, l7, l8] st σ Q ↔ ab_Run X 91 45 (4, 0, 0) [l0, l1, ab_I z, l3, l4, l5, l6, l7, l8] (ab_I z :: st) σ Q := ab_r_iload_n rfl kc_X11_flawed dX11_flawed_44
theorem rX11_flawed_45 : ab_Run X 91 45 (4, 0, 0) [l0, l1, l2, ab_I z, l4, l5, l6, l7, l8] st σ Q ↔ ab_Run X 91 46 (4, 0, 0) [l0, l1, l2, ab_I z, l4, l5, l6, l7, l8] (ab_I z :: st) σ Q := ab_r_iload_n rfl kc_X11_flawed dX11_flawed_45
theorem rX11_flawed_46 : ab_Run X 91 46 (4, 0, 0) [l0, l1, l2, l3, ab_I z, l5, l6, l7, l8] st σ Q ↔ ab_Run X 91 48 (4, 0, 0) [l0, l1, l2, l3, ab_I z, l5, l6, l7, l8] (ab_I z :: st) σ Q := ab_r_iload rfl kc_X11_flawed dX11_flawed_46
theorem rX11_flawed_48 : ab_Run X 91 48 (4, 0, 0) [l0, l1, l2, l3, l4, ab_I z, l6, l7, l8] st σ Q ↔ ab_Run X 91 50 (4, 0, 0) [l0, l1, l2, l3, l4, ab_I z, l6, l7, l8] (ab_I z :: st) σ Q := ab_r_iload rfl kc_X11_flawed dX11_flawed_48
theorem rX11_flawed_50 : ab_Run X 91 50 (4, 0, 0) [l0, l1, l2, l3, l4, l5, ab_I z, l7, l8] st σ Q ↔ ab_Run X 91 52 (4, 0, 0) [l0, l1, l2, l3, l4, l5, ab_I z, l7, l8] (ab_I z :: st) σ Q := ab_r_iload rfl kc_X11_flawed dX11_flawed_50
theorem rX11_flawed_52 : ab_Run X 91 52 (4, 0, 0) L (ab_I x6 :: ab_I x5 :: ab_I x4 :: ab_I x3 :: ab_I x2 :: ab_I x1 :: ab_R a :: st) σ Q ↔ ((ab_sh σ a).1 = 12 ∧ ab_cats st ≤ 8) ∧ ab_Do X 138 [ab_R a, ab_I x1, ab_I x2, ab_I x3, ab_I x4, ab_I x5, ab_I x6] σ (fun r σ' => ab_Run X 91 55 (4, 0, 0) L (ab_psh r st) σ' Q) := ab_r_callV (w := [ab_I x6, ab_I x5, ab_I x4, ab_I x3, ab_I x2, ab_I x1]) (as := [ab_I x1, ab_I x2, ab_I x3, ab_I x4, ab_I x5, ab_I x6]) (b1 := (3, 0, 0)) 0 (Or.inl rfl) (by decide) ko_X11_flawed qM_11_188 (by decide) rfl rfl rfl rfl rfl (by decide) (Nat.le_of_ble_eq_true rfl) kc_X11_flawed dX11_flawed_52
theorem rX11_flawed_55 : ab_Run X 91 55 (4, 0, 0) [ab_R z, l1, l2, l3, l4, l5, l6, l7, l8] st σ Q ↔ z ≠ 0 ∧ ab_Run X 91 56 (4, 0, 0) [ab_R z, l1, l2, l3, l4, l5, l6, l7, l8] (ab_R z :: st) σ Q := ab_r_aload_n rfl kc_X11_flawed dX11_flawed_55
theorem rX11_flawed_56 : ab_Run X 91 56 (4, 0, 0) L (ab_R a :: st) σ Q ↔ (ab_sh σ a).1 = 12 ∧ ab_Run X 91 59 (4, 0, 0) L (ab_R (ab_rd σ a 3) :: st) σ Q := gF_11_33 ko_X11_flawed kc_X11_flawed dX11_flawed_56
theorem rX11_flawed_59 : ab_Run X 91 59 (4, 0, 0) [l0, l1, l2, l3, l4, l5, l6, ab_I z, l8] st σ Q ↔ ab_Run X 91 61 (4, 0, 0) [l0, l1, l2, l3, l4, l5, l6, ab_I z, l8] (ab_I z :: st) σ Q := ab_r_iload rfl kc_X11_flawed dX11_flawed_59
theorem rX11_flawed_61 : ab_Run X 91 61 (4, 0, 0) L (ab_I a :: st) σ Q ↔ (¬ a = 0 → ab_Run X 91 69 (4, 0, 0) L st σ Q) ∧ (¬ (¬ a = 0) → ab_Run X 91 64 (4, 0, 0) L st σ Q) := ab_r_if_ne rfl kc_X11_flawed dX11_flawed_61
theorem rX11_flawed_64 : ab_Run X 91 64 (4, 0, 0) [l0, l1, l2, l3, l4, l5, l6, l7, ab_I z] st σ Q ↔ ab_Run X 91 66 (4, 0, 0) [l0, l1, l2, l3, l4, l5, l6, l7, ab_I z] (ab_I z :: st) σ Q := ab_r_iload rfl kc_X11_flawed dX11_flawed_64
theorem rX11_flawed_66 : ab_Run X 91 66 (4, 0, 0) L st σ Q ↔ ab_Run X 91 82 (4, 0, 0) L st σ Q := ab_r_goto rfl kc_X11_flawed dX11_flawed_66
theorem rX11_flawed_69 : ab_Run X 91 69 (4, 0, 0) [ab_R z, l1, l2, l3, l4, l5, l6, l7, l8] st σ Q ↔ z ≠ 0 ∧ ab_Run X 91 70 (4, 0, 0) [ab_R z, l1, l2, l3, l4, l5, l6, l7, l8] (ab_R z :: st) σ Q := ab_r_aload_n rfl kc_X11_flawed dX11_flawed_69
theorem rX11_flawed_70 : ab_Run X 91 70 (4, 0, 0) L (ab_R a :: st) σ Q ↔ (ab_sh σ a).1 = 12 ∧ ab_Run X 91 73 (4, 0, 0) L (ab_R (ab_rd σ a 3) :: st) σ Q := gF_11_33 ko_X11_flawed kc_X11_flawed dX11_flawed_70
theorem rX11_flawed_73 : ab_Run X 91 73 (4, 0, 0) L (ab_R a :: st) σ Q ↔ (ab_sh σ a).1 = 7 ∧ ab_Run X 91 76 (4, 0, 0) L (ab_R (ab_rd σ a 0) :: st) σ Q := gF_11_171 ko_X11_flawed kc_X11_flawed dX11_flawed_73
theorem rX11_flawed_76 : ab_Run X 91 76 (4, 0, 0) L (ab_R a :: st) σ Q ↔ (ab_sh σ a).1 = 1 ∧ ab_Run X 91 79 (4, 0, 0) L (ab_I (ab_rd σ a 0) :: st) σ Q := gF_11_205 ko_X11_flawed kc_X11_flawed dX11_flawed_76
theorem rX11_flawed_79 : ab_Run X 91 79 (4, 0, 0) [l0, l1, l2, l3, l4, l5, l6, l7, ab_I z] st σ Q ↔ ab_Run X 91 81 (4, 0, 0) [l0, l1, l2, l3, l4, l5, l6, l7, ab_I z] (ab_I z :: st) σ Q := ab_r_iload rfl kc_X11_flawed dX11_flawed_79
theorem rX11_flawed_81 : ab_Run X 91 81 (4, 0, 0) L (ab_I b :: ab_I a :: st) σ Q ↔ ab_Run X 91 82 (4, 0, 0) L (ab_I (ab_w32 (a + b)) :: st) σ Q := ab_r_iadd kc_X11_flawed dX11_flawed_81
theorem rX11_flawed_82 : ab_Run X 91 82 (4, 0, 0) L (ab_I x1 :: ab_R a :: st) σ Q ↔ ((ab_sh σ a).1 = 7 ∧ ab_cats st ≤ 8) ∧ ab_Do X 36 [ab_R a, ab_I x1] σ (fun r σ' => ab_Run X 91 85 (4, 0, 0) L (ab_psh r st) σ' Q) := ab_r_callV (w := [ab_I x1]) (as := [ab_I x1]) (b1 := (1, 0, 0)) 0 (Or.inl rfl) (by decide) ko_X11_flawed qM_11_198 (by decide) rfl rfl rfl rfl rfl (by decide) (Nat.le_of_ble_eq_true rfl) kc_X11_flawed dX11_flawed_82
theorem rX11_flawed_85 : ab_Run X 91 85 (4, 0, 0) L [ab_I v] σ Q ↔ Q (some (ab_I v)) σ := ab_r_ireturnI rfl kc_X11_flawed dX11_flawed_85
theorem kc_X11_odds : ab_code 92 = cX11_odds := rfl
theorem ko_X11_odds : ab_ow 92 = 11 := rfl
theorem rX11_odds_0 : ab_Run X 92 0 (4, 0, 0) [ab_R z, l1, l2, l3, l4, l5, l6, l7, l8] st σ Q ↔ z ≠ 0 ∧ ab_Run X 92 1 (4, 0, 0) [ab_R z, l1, l2, l3, l4, l5, l6, l7, l8] (ab_R z :: st) σ Q := ab_r_aload_n rfl kc_X11_odds dX11_odds_0
theorem rX11_odds_1 : ab_Run X 92 1 (4, 0, 0) [l0, l1, l2, l3, l4, l5, l6, ab_I z, l8] st σ Q ↔ ab_Run X 92 3 (4, 0, 0) [l0, l1, l2, l3, l4, l5, l6, ab_I z, l8] (ab_I z :: st) σ Q := ab_r_iload rfl kc_X11_odds dX11_odds_1
theorem rX11_odds_3 : ab_Run X 92 3 (4, 0, 0) L (ab_I a :: st) σ Q ↔ (a < 0 → ab_Run X 92 28 (4, 0, 0) L st σ Q) ∧ (¬ (a < 0) → ab_Run X 92 6 (4, 0, 0) L st σ Q) := ab_r_if_lt rfl kc_X11_odds dX11_odds_3
theorem rX11_odds_6 : ab_Run X 92 6 (4, 0, 0) [l0, l1, l2, l3, l4, l5, l6, ab_I z, l8] st σ Q ↔ ab_Run X 92 8 (4, 0, 0) [l0, l1, l2, l3, l4, l5, l6, ab_I z, l8] (ab_I z :: st) σ Q := ab_r_iload rfl kc_X11_odds dX11_odds_6
theorem rX11_odds_8 : ab_Run X 92 8 (4, 0, 0) L st σ Q ↔ ab_Run X 92 9 (4, 0, 0) L (ab_I 3 :: st) σ Q := ab_r_iconst (by decide) kc_X11_odds dX11_odds_8
theorem rX11_odds_9 : ab_Run X 92 9 (4, 0, 0) L (ab_I b :: ab_I a :: st) σ Q ↔ (b < a → ab_Run X 92 28 (4, 0, 0) L st σ Q) ∧ (¬ (b < a) → ab_Run X 92 12 (4, 0, 0) L st σ Q) := ab_r_icmp_gt rfl kc_X11_odds dX11_odds_9
theorem rX11_odds_12 : ab_Run X 92 12 (4, 0, 0) [ab_R z, l1, l2, l3, l4, l5, l6, l7, l8] st σ Q ↔ z ≠ 0 ∧ ab_Run X 92 13 (4, 0, 0) [ab_R z, l1, l2, l3, l4, l5, l6, l7, l8] (ab_R z :: st) σ Q := ab_r_aload_n rfl kc_X11_odds dX11_odds_12
theorem rX11_odds_13 : ab_Run X 92 13 (4, 0, 0) [l0, ab_I z, l2, l3, l4, l5, l6, l7, l8] st σ Q ↔ ab_Run X 92 14 (4, 0, 0) [l0, ab_I z, l2, l3, l4, l5, l6, l7, l8] (ab_I z :: st) σ Q := ab_r_iload_n rfl kc_X11_odds dX11_odds_13
theorem rX11_odds_14 : ab_Run X 92 14 (4, 0, 0) [l0, l1, ab_I z, l3, l4, l5, l6, l7, l8] st σ Q ↔ ab_Run X 92 15 (4, 0, 0) [l0, l1, ab_I z, l3, l4, l5, l6, l7, l8] (ab_I z :: st) σ Q := ab_r_iload_n rfl kc_X11_odds dX11_odds_14
theorem rX11_odds_15 : ab_Run X 92 15 (4, 0, 0) [l0, l1, l2, ab_I z, l4, l5, l6, l7, l8] st σ Q ↔ ab_Run X 92 16 (4, 0, 0) [l0, l1, l2, ab_I z, l4, l5, l6, l7, l8] (ab_I z :: st) σ Q := ab_r_iload_n rfl kc_X11_odds dX11_odds_15
theorem rX11_odds_16 : ab_Run X 92 16 (4, 0, 0) [l0, l1, l2, l3, ab_I z, l5, l6, l7, l8] st σ Q ↔ ab_Run X 92 18 (4, 0, 0) [l0, l1, l2, l3, ab_I z, l5, l6, l7, l8] (ab_I z :: st) σ Q := ab_r_iload rfl kc_X11_odds dX11_odds_16
theorem rX11_odds_18 : ab_Run X 92 18 (4, 0, 0) [l0, l1, l2, l3, l4, ab_I z, l6, l7, l8] st σ Q ↔ ab_Run X 92 20 (4, 0, 0) [l0, l1, l2, l3, l4, ab_I z, l6, l7, l8] (ab_I z :: st) σ Q := ab_r_iload rfl kc_X11_odds dX11_odds_18
theorem rX11_odds_20 : ab_Run X 92 20 (4, 0, 0) [l0, l1, l2, l3, l4, l5, ab_I z, l7, l8] st σ Q ↔ ab_Run X 92 22 (4, 0, 0) [l0, l1, l2, l3, l4, l5, ab_I z, l7, l8] (ab_I z :: st) σ Q := ab_r_iload rfl kc_X11_odds dX11_odds_20
theorem rX11_odds_22 : ab_Run X 92 22 (4, 0, 0) L (ab_I x6 :: ab_I x5 :: ab_I x4 :: ab_I x3 :: ab_I x2 :: ab_I x1 :: ab_R a :: st) σ Q ↔ ((ab_sh σ a).1 = 12 ∧ ab_cats st ≤ 8) ∧ ab_Do X 134 [ab_R a, ab_I x1, ab_I x2, ab_I x3, ab_I x4, ab_I x5, ab_I x6] σ (fun r σ' => ab_Run X 92 25 (4, 0, 0) L (ab_psh r st) σ' Q) := ab_r_callV (w := [ab_I x6, ab_I x5, ab_I x4, ab_I x3, ab_I x2, ab_I x1]) (as := [ab_I x1, ab_I x2, ab_I x3, ab_I x4, ab_I x5, ab_I x6]) (b1 := (3, 0, 0)) 0 (Or.inl rfl) (by decide) ko_X11_odds qM_11_184 (by decide) rfl rfl rfl rfl rfl (by decide) (Nat.le_of_ble_eq_true rfl) kc_X11_odds dX11_odds_22
theorem rX11_odds_25 : ab_Run X 92 25 (4, 0, 0) L st σ Q ↔ ab_Run X 92 29 (4, 0, 0) L st σ Q := ab_r_goto rfl kc_X11_odds dX11_odds_25
theorem rX11_odds_28 : ab_Run X 92 28 (4, 0, 0) L st σ Q ↔ ab_Run X 92 29 (4, 0, 0) L (ab_I 1 :: st) σ Q := ab_r_iconst (by decide) kc_X11_odds dX11_odds_28
theorem rX11_odds_29 : ab_Run X 92 29 (4, 0, 0) L (ab_I z :: ab_R a :: st) σ Q ↔ (ab_sh σ a).1 = 12 ∧ ab_Run X 92 32 (4, 0, 0) L st (ab_wr σ a 8 z) Q := sF_11_62 ko_X11_odds kc_X11_odds dX11_odds_29
theorem rX11_odds_32 : ab_Run X 92 32 (4, 0, 0) [ab_R z, l1, l2, l3, l4, l5, l6, l7, l8] st σ Q ↔ z ≠ 0 ∧ ab_Run X 92 33 (4, 0, 0) [ab_R z, l1, l2, l3, l4, l5, l6, l7, l8] (ab_R z :: st) σ Q := ab_r_aload_n rfl kc_X11_odds dX11_odds_32
theorem rX11_odds_33 : ab_Run X 92 33 (4, 0, 0) L (ab_R a :: st) σ Q ↔ (ab_sh σ a).1 = 12 ∧ ab_Run X 92 36 (4, 0, 0) L (ab_I (ab_rd σ a 8) :: st) σ Q := gF_11_62 ko_X11_odds kc_X11_odds dX11_odds_33
theorem rX11_odds_36 : ab_Run X 92 36 (4, 0, 0) L (ab_I a :: st) σ Q ↔ (a = 0 → ab_Run X 92 43 (4, 0, 0) L st σ Q) ∧ (¬ (a = 0) → ab_Run X 92 39 (4, 0, 0) L st σ Q) := ab_r_if_eq rfl kc_X11_odds dX11_odds_36
theorem rX11_odds_39 : ab_Run X 92 39 (4, 0, 0) L st σ Q ↔ ab_Run X 92 42 (4, 0, 0) L (ab_J (-1) :: st) σ Q := ab_r_ldc2_w rfl ko_X11_odds (by decide +kernel) kc_X11_odds dX11_odds_39
theorem rX11_odds_42 : ab_Run X 92 42 (4, 0, 0) L [ab_J v] σ Q ↔ Q (some (ab_J v)) σ := ab_r_lreturn rfl kc_X11_odds dX11_odds_42
theorem rX11_odds_43 : ab_Run X 92 43 (4, 0, 0) [ab_R z, l1, l2, l3, l4, l5, l6, l7, l8] st σ Q ↔ z ≠ 0 ∧ ab_Run X 92 44 (4, 0, 0) [ab_R z, l1, l2, l3, l4, l5, l6, l7, l8] (ab_R z :: st) σ Q := ab_r_aload_n rfl kc_X11_odds dX11_odds_43
theorem rX11_odds_44 : ab_Run X 92 44 (4, 0, 0) [l0, ab_I z, l2, l3, l4, l5, l6, l7, l8] st σ Q ↔ ab_Run X 92 45 (4, 0, 0) [l0, ab_I z, l2, l3, l4, l5, l6, l7, l8] (ab_I z :: st) σ Q := ab_r_iload_n rfl kc_X11_odds dX11_odds_44
theorem rX11_odds_45 : ab_Run X 92 45 (4, 0, 0) [l0, l1, ab_I z, l3, l4, l5, l6, l7, l8] st σ Q ↔ ab_Run X 92 46 (4, 0, 0) [l0, l1, ab_I z, l3, l4, l5, l6, l7, l8] (ab_I z :: st) σ Q := ab_r_iload_n rfl kc_X11_odds dX11_odds_45
theorem rX11_odds_46 : ab_Run X 92 46 (4, 0, 0) [l0, l1, l2, ab_I z, l4, l5, l6, l7, l8] st σ Q ↔ ab_Run X 92 47 (4, 0, 0) [l0, l1, l2, ab_I z, l4, l5, l6, l7, l8] (ab_I z :: st) σ Q := ab_r_iload_n rfl kc_X11_odds dX11_odds_46
theorem rX11_odds_47 : ab_Run X 92 47 (4, 0, 0) [l0, l1, l2, l3, ab_I z, l5, l6, l7, l8] st σ Q ↔ ab_Run X 92 49 (4, 0, 0) [l0, l1, l2, l3, ab_I z, l5, l6, l7, l8] (ab_I z :: st) σ Q := ab_r_iload rfl kc_X11_odds dX11_odds_47
theorem rX11_odds_49 : ab_Run X 92 49 (4, 0, 0) [l0, l1, l2, l3, l4, ab_I z, l6, l7, l8] st σ Q ↔ ab_Run X 92 51 (4, 0, 0) [l0, l1, l2, l3, l4, ab_I z, l6, l7, l8] (ab_I z :: st) σ Q := ab_r_iload rfl kc_X11_odds dX11_odds_49
theorem rX11_odds_51 : ab_Run X 92 51 (4, 0, 0) [l0, l1, l2, l3, l4, l5, ab_I z, l7, l8] st σ Q ↔ ab_Run X 92 53 (4, 0, 0) [l0, l1, l2, l3, l4, l5, ab_I z, l7, l8] (ab_I z :: st) σ Q := ab_r_iload rfl kc_X11_odds dX11_odds_51
theorem rX11_odds_53 : ab_Run X 92 53 (4, 0, 0) L (ab_I x6 :: ab_I x5 :: ab_I x4 :: ab_I x3 :: ab_I x2 :: ab_I x1 :: ab_R a :: st) σ Q ↔ ((ab_sh σ a).1 = 12 ∧ ab_cats st ≤ 8) ∧ ab_Do X 138 [ab_R a, ab_I x1, ab_I x2, ab_I x3, ab_I x4, ab_I x5, ab_I x6] σ (fun r σ' => ab_Run X 92 56 (4, 0, 0) L (ab_psh r st) σ' Q) := ab_r_callV (w := [ab_I x6, ab_I x5, ab_I x4, ab_I x3, ab_I x2, ab_I x1]) (as := [ab_I x1, ab_I x2, ab_I x3, ab_I x4, ab_I x5, ab_I x6]) (b1 := (3, 0, 0)) 0 (Or.inl rfl) (by decide) ko_X11_odds qM_11_188 (by decide) rfl rfl rfl rfl rfl (by decide) (Nat.le_of_ble_eq_true rfl) kc_X11_odds dX11_odds_53
theorem rX11_odds_56 : ab_Run X 92 56 (4, 0, 0) [ab_R z, l1, l2, l3, l4, l5, l6, l7, l8] st σ Q ↔ z ≠ 0 ∧ ab_Run X 92 57 (4, 0, 0) [ab_R z, l1, l2, l3, l4, l5, l6, l7, l8] (ab_R z :: st) σ Q := ab_r_aload_n rfl kc_X11_odds dX11_odds_56
theorem rX11_odds_57 : ab_Run X 92 57 (4, 0, 0) L (ab_R a :: st) σ Q ↔ (ab_sh σ a).1 = 12 ∧ ab_Run X 92 60 (4, 0, 0) L (ab_R (ab_rd σ a 3) :: st) σ Q := gF_11_33 ko_X11_odds kc_X11_odds dX11_odds_57
theorem rX11_odds_60 : ab_Run X 92 60 (4, 0, 0) L (ab_R a :: st) σ Q ↔ ((ab_sh σ a).1 = 7 ∧ ab_cats st ≤ 8) ∧ ab_Do X 39 [ab_R a] σ (fun r σ' => ab_Run X 92 63 (4, 0, 0) L (ab_psh r st) σ' Q) := ab_r_callV (w := []) (as := []) (b1 := (2, 0, 0)) 0 (Or.inl rfl) (by decide) ko_X11_odds qM_11_209 (by decide) rfl rfl rfl rfl rfl (by decide) (Nat.le_of_ble_eq_true rfl) kc_X11_odds dX11_odds_60
theorem rX11_odds_63 : ab_Run X 92 63 (4, 0, 0) [ab_R z, l1, l2, l3, l4, l5, l6, l7, l8] st σ Q ↔ z ≠ 0 ∧ ab_Run X 92 64 (4, 0, 0) [ab_R z, l1, l2, l3, l4, l5, l6, l7, l8] (ab_R z :: st) σ Q := ab_r_aload_n rfl kc_X11_odds dX11_odds_63
theorem rX11_odds_64 : ab_Run X 92 64 (4, 0, 0) L (ab_R a :: st) σ Q ↔ (ab_sh σ a).1 = 12 ∧ ab_Run X 92 67 (4, 0, 0) L (ab_R (ab_rd σ a 3) :: st) σ Q := gF_11_33 ko_X11_odds kc_X11_odds dX11_odds_64
theorem rX11_odds_67 : ab_Run X 92 67 (4, 0, 0) L (ab_R a :: st) σ Q ↔ (ab_sh σ a).1 = 7 ∧ ab_Run X 92 70 (4, 0, 0) L (ab_R (ab_rd σ a 2) :: st) σ Q := gF_11_212 ko_X11_odds kc_X11_odds dX11_odds_67
theorem rX11_odds_70 : ab_Run X 92 70 (4, 0, 0) [l0, l1, l2, l3, l4, l5, l6, ab_I z, l8] st σ Q ↔ ab_Run X 92 72 (4, 0, 0) [l0, l1, l2, l3, l4, l5, l6, ab_I z, l8] (ab_I z :: st) σ Q := ab_r_iload rfl kc_X11_odds dX11_odds_70
theorem rX11_odds_72 : ab_Run X 92 72 (4, 0, 0) L (ab_I i :: ab_R a :: st) σ Q ↔ ((ab_sh σ a).1 = 21 ∧ 0 ≤ i ∧ i < (ab_sh σ a).2) ∧ ab_Run X 92 73 (4, 0, 0) L (ab_I (ab_rd σ a i) :: st) σ Q := ab_r_iaload (by decide) kc_X11_odds dX11_odds_72
theorem rX11_odds_73 : ab_Run X 92 73 (4, 0, 0) L (ab_I a :: st) σ Q ↔ ab_Run X 92 74 (4, 0, 0) L (ab_J a :: st) σ Q := ab_r_i2l kc_X11_odds dX11_odds_73
theorem rX11_odds_74 : ab_Run X 92 74 (4, 0, 0) [ab_R z, l1, l2, l3, l4, l5, l6, l7, l8] st σ Q ↔ z ≠ 0 ∧ ab_Run X 92 75 (4, 0, 0) [ab_R z, l1, l2, l3, l4, l5, l6, l7, l8] (ab_R z :: st) σ Q := ab_r_aload_n rfl kc_X11_odds dX11_odds_74
theorem rX11_odds_75 : ab_Run X 92 75 (4, 0, 0) L (ab_R a :: st) σ Q ↔ (ab_sh σ a).1 = 12 ∧ ab_Run X 92 78 (4, 0, 0) L (ab_R (ab_rd σ a 3) :: st) σ Q := gF_11_33 ko_X11_odds kc_X11_odds dX11_odds_75
theorem rX11_odds_78 : ab_Run X 92 78 (4, 0, 0) L (ab_R a :: st) σ Q ↔ (ab_sh σ a).1 = 7 ∧ ab_Run X 92 81 (4, 0, 0) L (ab_I (ab_rd σ a 3) :: st) σ Q := gF_11_215 ko_X11_odds kc_X11_odds dX11_odds_78
theorem rX11_odds_81 : ab_Run X 92 81 (4, 0, 0) L (ab_I a :: st) σ Q ↔ ab_Run X 92 82 (4, 0, 0) L (ab_J a :: st) σ Q := ab_r_i2l kc_X11_odds dX11_odds_81
theorem rX11_odds_82 : ab_Run X 92 82 (4, 0, 0) [l0, l1, l2, l3, l4, l5, l6, l7, ab_I z] st σ Q ↔ ab_Run X 92 84 (4, 0, 0) [l0, l1, l2, l3, l4, l5, l6, l7, ab_I z] (ab_I z :: st) σ Q := ab_r_iload rfl kc_X11_odds dX11_odds_82
theorem rX11_odds_84 : ab_Run X 92 84 (4, 0, 0) L (ab_I x3 :: ab_J x2 :: ab_J x1 :: st) σ Q ↔ ab_cats st ≤ 8 ∧ ab_Do X 147 [ab_J x1, ab_J x2, ab_I x3] σ (fun r σ' => ab_Run X 92 87 (4, 0, 0) L (ab_psh r st) σ' Q) := ab_r_callS (w := [ab_I x3, ab_J x2, ab_J x1]) (as := [ab_J x1, ab_J x2, ab_I x3]) (b1 := (0, 0, 0)) (by decide) ko_X11_odds qM_11_218 (by decide) rfl rfl rfl rfl (by decide) (Nat.le_of_ble_eq_true rfl) kc_X11_odds dX11_odds_84
theorem rX11_odds_87 : ab_Run X 92 87 (4, 0, 0) L [ab_J v] σ Q ↔ Q (some (ab_J v)) σ := ab_r_lreturn rfl kc_X11_odds dX11_odds_87
theorem kc_X11_best : ab_code 93 = cX11_best := rfl
theorem ko_X11_best : ab_ow 93 = 11 := rfl
theorem rX11_best_0 : ab_Run X 93 0 (4, 0, 0) [ab_R z, l1, l2, l3, l4, l5] st σ Q ↔ z ≠ 0 ∧ ab_Run X 93 1 (4, 0, 0) [ab_R z, l1, l2, l3, l4, l5] (ab_R z :: st) σ Q := ab_r_aload_n rfl kc_X11_best dX11_best_0
theorem rX11_best_1 : ab_Run X 93 1 (4, 0, 0) [ab_R z, l1, l2, l3, l4, l5] st σ Q ↔ z ≠ 0 ∧ ab_Run X 93 2 (4, 0, 0) [ab_R z, l1, l2, l3, l4, l5] (ab_R z :: st) σ Q := ab_r_aload_n rfl kc_X11_best dX11_best_1
theorem rX11_best_2 : ab_Run X 93 2 (4, 0, 0) [l0, ab_I z, l2, l3, l4, l5] st σ Q ↔ ab_Run X 93 3 (4, 0, 0) [l0, ab_I z, l2, l3, l4, l5] (ab_I z :: st) σ Q := ab_r_iload_n rfl kc_X11_best dX11_best_2
theorem rX11_best_3 : ab_Run X 93 3 (4, 0, 0) [l0, l1, ab_I z, l3, l4, l5] st σ Q ↔ ab_Run X 93 4 (4, 0, 0) [l0, l1, ab_I z, l3, l4, l5] (ab_I z :: st) σ Q := ab_r_iload_n rfl kc_X11_best dX11_best_3
theorem rX11_best_4 : ab_Run X 93 4 (4, 0, 0) [l0, l1, l2, ab_I z, l4, l5] st σ Q ↔ ab_Run X 93 5 (4, 0, 0) [l0, l1, l2, ab_I z, l4, l5] (ab_I z :: st) σ Q := ab_r_iload_n rfl kc_X11_best dX11_best_4
theorem rX11_best_5 : ab_Run X 93 5 (4, 0, 0) L (ab_I x3 :: ab_I x2 :: ab_I x1 :: ab_R a :: st) σ Q ↔ ((ab_sh σ a).1 = 12 ∧ ab_cats st ≤ 8) ∧ ab_Do X 133 [ab_R a, ab_I x1, ab_I x2, ab_I x3] σ (fun r σ' => ab_Run X 93 8 (4, 0, 0) L (ab_psh r st) σ' Q) := ab_r_callV (w := [ab_I x3, ab_I x2, ab_I x1]) (as := [ab_I x1, ab_I x2, ab_I x3]) (b1 := (2, 0, 0)) 0 (Or.inl rfl) (by decide) ko_X11_best qM_11_222 (by decide) rfl rfl rfl rfl rfl (by decide) (Nat.le_of_ble_eq_true rfl) kc_X11_best dX11_best_5
theorem rX11_best_8 : ab_Run X 93 8 (4, 0, 0) L (ab_I z :: ab_R a :: st) σ Q ↔ (ab_sh σ a).1 = 12 ∧ ab_Run X 93 11 (4, 0, 0) L st (ab_wr σ a 8 z) Q := sF_11_62 ko_X11_best kc_X11_best dX11_best_8
theorem rX11_best_11 : ab_Run X 93 11 (4, 0, 0) [ab_R z, l1, l2, l3, l4, l5] st σ Q ↔ z ≠ 0 ∧ ab_Run X 93 12 (4, 0, 0) [ab_R z, l1, l2, l3, l4, l5] (ab_R z :: st) σ Q := ab_r_aload_n rfl kc_X11_best dX11_best_11
theorem rX11_best_12 : ab_Run X 93 12 (4, 0, 0) L (ab_R a :: st) σ Q ↔ (ab_sh σ a).1 = 12 ∧ ab_Run X 93 15 (4, 0, 0) L (ab_I (ab_rd σ a 8) :: st) σ Q := gF_11_62 ko_X11_best kc_X11_best dX11_best_12
theorem rX11_best_15 : ab_Run X 93 15 (4, 0, 0) L (ab_I a :: st) σ Q ↔ (¬ a = 0 → ab_Run X 93 34 (4, 0, 0) L st σ Q) ∧ (¬ (¬ a = 0) → ab_Run X 93 18 (4, 0, 0) L st σ Q) := ab_r_if_ne rfl kc_X11_best dX11_best_15
theorem rX11_best_18 : ab_Run X 93 18 (4, 0, 0) [ab_R z, l1, l2, l3, l4, l5] st σ Q ↔ z ≠ 0 ∧ ab_Run X 93 19 (4, 0, 0) [ab_R z, l1, l2, l3, l4, l5] (ab_R z :: st) σ Q := ab_r_aload_n rfl kc_X11_best dX11_best_18
theorem rX11_best_19 : ab_Run X 93 19 (4, 0, 0) [l0, ab_I z, l2, l3, l4, l5] st σ Q ↔ ab_Run X 93 20 (4, 0, 0) [l0, ab_I z, l2, l3, l4, l5] (ab_I z :: st) σ Q := ab_r_iload_n rfl kc_X11_best dX11_best_19
theorem rX11_best_20 : ab_Run X 93 20 (4, 0, 0) L st σ Q ↔ ab_Run X 93 21 (4, 0, 0) L (ab_I 1 :: st) σ Q := ab_r_iconst (by decide) kc_X11_best dX11_best_20
theorem rX11_best_21 : ab_Run X 93 21 (4, 0, 0) [l0, l1, l2, l3, ab_I z, l5] st σ Q ↔ ab_Run X 93 23 (4, 0, 0) [l0, l1, l2, l3, ab_I z, l5] (ab_I z :: st) σ Q := ab_r_iload rfl kc_X11_best dX11_best_21
theorem rX11_best_23 : ab_Run X 93 23 (4, 0, 0) L (ab_I x3 :: ab_I x2 :: ab_I x1 :: ab_R a :: st) σ Q ↔ ((ab_sh σ a).1 = 12 ∧ ab_cats st ≤ 8) ∧ ab_Do X 130 [ab_R a, ab_I x1, ab_I x2, ab_I x3] σ (fun r σ' => ab_Run X 93 26 (4, 0, 0) L (ab_psh r st) σ' Q) := ab_r_callV (w := [ab_I x3, ab_I x2, ab_I x1]) (as := [ab_I x1, ab_I x2, ab_I x3]) (b1 := (0, 0, 0)) 0 (Or.inl rfl) (by decide) ko_X11_best qM_11_226 (by decide) rfl rfl rfl rfl rfl (by decide) (Nat.le_of_ble_eq_true rfl) kc_X11_best dX11_best_23
theorem rX11_best_26 : ab_Run X 93 26 (4, 0, 0) L (ab_I a :: st) σ Q ↔ (¬ a = 0 → ab_Run X 93 34 (4, 0, 0) L st σ Q) ∧ (¬ (¬ a = 0) → ab_Run X 93 29 (4, 0, 0) L st σ Q) := ab_r_if_ne rfl kc_X11_best dX11_best_26
theorem rX11_best_29 : ab_Run X 93 29 (4, 0, 0) [ab_R z, l1, l2, l3, l4, l5] st σ Q ↔ z ≠ 0 ∧ ab_Run X 93 30 (4, 0, 0) [ab_R z, l1, l2, l3, l4, l5] (ab_R z :: st) σ Q := ab_r_aload_n rfl kc_X11_best dX11_best_29
theorem rX11_best_30 : ab_Run X 93 30 (4, 0, 0) L st σ Q ↔ ab_Run X 93 31 (4, 0, 0) L (ab_I 2 :: st) σ Q := ab_r_iconst (by decide) kc_X11_best dX11_best_30
theorem rX11_best_31 : ab_Run X 93 31 (4, 0, 0) L (ab_I z :: ab_R a :: st) σ Q ↔ (ab_sh σ a).1 = 12 ∧ ab_Run X 93 34 (4, 0, 0) L st (ab_wr σ a 8 z) Q := sF_11_62 ko_X11_best kc_X11_best dX11_best_31
theorem rX11_best_34 : ab_Run X 93 34 (4, 0, 0) [ab_R z, l1, l2, l3, l4, l5] st σ Q ↔ z ≠ 0 ∧ ab_Run X 93 35 (4, 0, 0) [ab_R z, l1, l2, l3, l4, l5] (ab_R z :: st) σ Q := ab_r_aload_n rfl kc_X11_best dX11_best_34
theorem rX11_best_35 : ab_Run X 93 35 (4, 0, 0) L (ab_R a :: st) σ Q ↔ (ab_sh σ a).1 = 12 ∧ ab_Run X 93 38 (4, 0, 0) L (ab_I (ab_rd σ a 8) :: st) σ Q := gF_11_62 ko_X11_best kc_X11_best dX11_best_35
theorem rX11_best_38 : ab_Run X 93 38 (4, 0, 0) L (ab_I a :: st) σ Q ↔ (a = 0 → ab_Run X 93 43 (4, 0, 0) L st σ Q) ∧ (¬ (a = 0) → ab_Run X 93 41 (4, 0, 0) L st σ Q) := ab_r_if_eq rfl kc_X11_best dX11_best_38
theorem rX11_best_41 : ab_Run X 93 41 (4, 0, 0) L st σ Q ↔ ab_Run X 93 42 (4, 0, 0) L (ab_I (-1) :: st) σ Q := ab_r_iconst (by decide) kc_X11_best dX11_best_41
theorem rX11_best_42 : ab_Run X 93 42 (4, 0, 0) L [ab_I v] σ Q ↔ Q (some (ab_I v)) σ := ab_r_ireturnI rfl kc_X11_best dX11_best_42
theorem rX11_best_43 : ab_Run X 93 43 (4, 0, 0) [ab_R z, l1, l2, l3, l4, l5] st σ Q ↔ z ≠ 0 ∧ ab_Run X 93 44 (4, 0, 0) [ab_R z, l1, l2, l3, l4, l5] (ab_R z :: st) σ Q := ab_r_aload_n rfl kc_X11_best dX11_best_43
theorem rX11_best_44 : ab_Run X 93 44 (4, 0, 0) L (ab_R a :: st) σ Q ↔ (ab_sh σ a).1 = 12 ∧ ab_Run X 93 47 (4, 0, 0) L (ab_R (ab_rd σ a 7) :: st) σ Q := gF_11_58 ko_X11_best kc_X11_best dX11_best_44
theorem rX11_best_47 : ab_Run X 93 47 (4, 0, 0) L (ab_R a :: st) σ Q ↔ (ab_sh σ a).1 = 5 ∧ ab_Run X 93 50 (4, 0, 0) L (ab_R (ab_rd σ a 6) :: st) σ Q := gF_11_118 ko_X11_best kc_X11_best dX11_best_47
theorem rX11_best_50 : ab_Run X 93 50 (4, 0, 0) [l0, ab_I z, l2, l3, l4, l5] st σ Q ↔ ab_Run X 93 51 (4, 0, 0) [l0, ab_I z, l2, l3, l4, l5] (ab_I z :: st) σ Q := ab_r_iload_n rfl kc_X11_best dX11_best_50
theorem rX11_best_51 : ab_Run X 93 51 (4, 0, 0) L (ab_I i :: ab_R a :: st) σ Q ↔ ((25 ≤ (ab_sh σ a).1 ∧ (ab_sh σ a).1 < 30) ∧ 0 ≤ i ∧ i < (ab_sh σ a).2) ∧ ab_Run X 93 52 (4, 0, 0) L (ab_R (ab_rd σ a i) :: st) σ Q := ab_r_aaload kc_X11_best dX11_best_51
theorem rX11_best_52 : ab_Run X 93 52 (4, 0, 0) [l0, l1, l2, l3, l4, l5] (ab_R z :: st) σ Q ↔ (!ab_isJ l4) = true ∧ ab_Run X 93 54 (4, 0, 0) [l0, l1, l2, l3, l4, ab_R z] st σ Q := ab_r_astore (Nat.le_of_ble_eq_true rfl) kc_X11_best dX11_best_52
theorem rX11_best_54 : ab_Run X 93 54 (4, 0, 0) [ab_R z, l1, l2, l3, l4, l5] st σ Q ↔ z ≠ 0 ∧ ab_Run X 93 55 (4, 0, 0) [ab_R z, l1, l2, l3, l4, l5] (ab_R z :: st) σ Q := ab_r_aload_n rfl kc_X11_best dX11_best_54
theorem rX11_best_55 : ab_Run X 93 55 (4, 0, 0) [l0, ab_I z, l2, l3, l4, l5] st σ Q ↔ ab_Run X 93 56 (4, 0, 0) [l0, ab_I z, l2, l3, l4, l5] (ab_I z :: st) σ Q := ab_r_iload_n rfl kc_X11_best dX11_best_55
theorem rX11_best_56 : ab_Run X 93 56 (4, 0, 0) L (ab_I x1 :: ab_R a :: st) σ Q ↔ ((ab_sh σ a).1 = 12 ∧ ab_cats st ≤ 8) ∧ ab_Do X 137 [ab_R a, ab_I x1] σ (fun r σ' => ab_Run X 93 59 (4, 0, 0) L (ab_psh r st) σ' Q) := ab_r_callV (w := [ab_I x1]) (as := [ab_I x1]) (b1 := (1, 0, 0)) 0 (Or.inl rfl) (by decide) ko_X11_best qM_11_168 (by decide) rfl rfl rfl rfl rfl (by decide) (Nat.le_of_ble_eq_true rfl) kc_X11_best dX11_best_56
theorem rX11_best_59 : ab_Run X 93 59 (4, 0, 0) [ab_R z, l1, l2, l3, l4, l5] st σ Q ↔ z ≠ 0 ∧ ab_Run X 93 60 (4, 0, 0) [ab_R z, l1, l2, l3, l4, l5] (ab_R z :: st) σ Q := ab_r_aload_n rfl kc_X11_best dX11_best_59
theorem rX11_best_60 : ab_Run X 93 60 (4, 0, 0) L (ab_R a :: st) σ Q ↔ (ab_sh σ a).1 = 12 ∧ ab_Run X 93 63 (4, 0, 0) L (ab_R (ab_rd σ a 3) :: st) σ Q := gF_11_33 ko_X11_best kc_X11_best dX11_best_60
theorem rX11_best_63 : ab_Run X 93 63 (4, 0, 0) [ab_R z, l1, l2, l3, l4, l5] st σ Q ↔ z ≠ 0 ∧ ab_Run X 93 64 (4, 0, 0) [ab_R z, l1, l2, l3, l4, l5] (ab_R z :: st) σ Q := ab_r_aload_n rfl kc_X11_best dX11_best_63
theorem rX11_best_64 : ab_Run X 93 64 (4, 0, 0) L (ab_R a :: st) σ Q ↔ (ab_sh σ a).1 = 12 ∧ ab_Run X 93 67 (4, 0, 0) L (ab_R (ab_rd σ a 7) :: st) σ Q := gF_11_58 ko_X11_best kc_X11_best dX11_best_64
theorem rX11_best_67 : ab_Run X 93 67 (4, 0, 0) L (ab_R a :: st) σ Q ↔ (ab_sh σ a).1 = 5 ∧ ab_Run X 93 70 (4, 0, 0) L (ab_R (ab_rd σ a 8) :: st) σ Q := gF_11_142 ko_X11_best kc_X11_best dX11_best_67
theorem rX11_best_70 : ab_Run X 93 70 (4, 0, 0) [l0, l1, ab_I z, l3, l4, l5] st σ Q ↔ ab_Run X 93 71 (4, 0, 0) [l0, l1, ab_I z, l3, l4, l5] (ab_I z :: st) σ Q := ab_r_iload_n rfl kc_X11_best dX11_best_70
theorem rX11_best_71 : ab_Run X 93 71 (4, 0, 0) L (ab_I i :: ab_R a :: st) σ Q ↔ ((25 ≤ (ab_sh σ a).1 ∧ (ab_sh σ a).1 < 30) ∧ 0 ≤ i ∧ i < (ab_sh σ a).2) ∧ ab_Run X 93 72 (4, 0, 0) L (ab_R (ab_rd σ a i) :: st) σ Q := ab_r_aaload kc_X11_best dX11_best_71
theorem rX11_best_72 : ab_Run X 93 72 (4, 0, 0) [ab_R z, l1, l2, l3, l4, l5] st σ Q ↔ z ≠ 0 ∧ ab_Run X 93 73 (4, 0, 0) [ab_R z, l1, l2, l3, l4, l5] (ab_R z :: st) σ Q := ab_r_aload_n rfl kc_X11_best dX11_best_72
theorem rX11_best_73 : ab_Run X 93 73 (4, 0, 0) L (ab_R a :: st) σ Q ↔ (ab_sh σ a).1 = 12 ∧ ab_Run X 93 76 (4, 0, 0) L (ab_R (ab_rd σ a 7) :: st) σ Q := gF_11_58 ko_X11_best kc_X11_best dX11_best_73
theorem rX11_best_76 : ab_Run X 93 76 (4, 0, 0) L (ab_R a :: st) σ Q ↔ (ab_sh σ a).1 = 5 ∧ ab_Run X 93 79 (4, 0, 0) L (ab_R (ab_rd σ a 8) :: st) σ Q := gF_11_142 ko_X11_best kc_X11_best dX11_best_76
theorem rX11_best_79 : ab_Run X 93 79 (4, 0, 0) [l0, l1, l2, ab_I z, l4, l5] st σ Q ↔ ab_Run X 93 80 (4, 0, 0) [l0, l1, l2, ab_I z, l4, l5] (ab_I z :: st) σ Q := ab_r_iload_n rfl kc_X11_best dX11_best_79
theorem rX11_best_80 : ab_Run X 93 80 (4, 0, 0) L (ab_I i :: ab_R a :: st) σ Q ↔ ((25 ≤ (ab_sh σ a).1 ∧ (ab_sh σ a).1 < 30) ∧ 0 ≤ i ∧ i < (ab_sh σ a).2) ∧ ab_Run X 93 81 (4, 0, 0) L (ab_R (ab_rd σ a i) :: st) σ Q := ab_r_aaload kc_X11_best dX11_best_80
theorem rX11_best_81 : ab_Run X 93 81 (4, 0, 0) L (ab_R x2 :: ab_R x1 :: ab_R a :: st) σ Q ↔ ((ab_sh σ a).1 = 7 ∧ ab_cats st ≤ 8) ∧ ab_Do X 34 [ab_R a, ab_R x1, ab_R x2] σ (fun r σ' => ab_Run X 93 84 (4, 0, 0) L (ab_psh r st) σ' Q) := ab_r_callV (w := [ab_R x2, ab_R x1]) (as := [ab_R x1, ab_R x2]) (b1 := (0, 0, 0)) 0 (Or.inl rfl) (by decide) ko_X11_best qM_11_229 (by decide) rfl rfl rfl rfl rfl (by decide) (Nat.le_of_ble_eq_true rfl) kc_X11_best dX11_best_81
theorem rX11_best_84 : ab_Run X 93 84 (4, 0, 0) [ab_R z, l1, l2, l3, l4, l5] st σ Q ↔ z ≠ 0 ∧ ab_Run X 93 85 (4, 0, 0) [ab_R z, l1, l2, l3, l4, l5] (ab_R z :: st) σ Q := ab_r_aload_n rfl kc_X11_best dX11_best_84
theorem rX11_best_85 : ab_Run X 93 85 (4, 0, 0) L (ab_R a :: st) σ Q ↔ (ab_sh σ a).1 = 12 ∧ ab_Run X 93 88 (4, 0, 0) L (ab_R (ab_rd σ a 3) :: st) σ Q := gF_11_33 ko_X11_best kc_X11_best dX11_best_85
theorem rX11_best_88 : ab_Run X 93 88 (4, 0, 0) [ab_R z, l1, l2, l3, l4, l5] st σ Q ↔ z ≠ 0 ∧ ab_Run X 93 89 (4, 0, 0) [ab_R z, l1, l2, l3, l4, l5] (ab_R z :: st) σ Q := ab_r_aload_n rfl kc_X11_best dX11_best_88
theorem rX11_best_89 : ab_Run X 93 89 (4, 0, 0) L (ab_R a :: st) σ Q ↔ (ab_sh σ a).1 = 12 ∧ ab_Run X 93 92 (4, 0, 0) L (ab_R (ab_rd σ a 3) :: st) σ Q := gF_11_33 ko_X11_best kc_X11_best dX11_best_89
theorem rX11_best_92 : ab_Run X 93 92 (4, 0, 0) L (ab_R a :: st) σ Q ↔ (ab_sh σ a).1 = 7 ∧ ab_Run X 93 95 (4, 0, 0) L (ab_R (ab_rd σ a 1) :: st) σ Q := gF_11_195 ko_X11_best kc_X11_best dX11_best_92
theorem rX11_best_95 : ab_Run X 93 95 (4, 0, 0) [l0, l1, l2, l3, l4, ab_R z] st σ Q ↔ z ≠ 0 ∧ ab_Run X 93 97 (4, 0, 0) [l0, l1, l2, l3, l4, ab_R z] (ab_R z :: st) σ Q := ab_r_aload rfl kc_X11_best dX11_best_95
theorem rX11_best_97 : ab_Run X 93 97 (4, 0, 0) L st σ Q ↔ ab_Run X 93 98 (4, 0, 0) L (ab_I 1 :: st) σ Q := ab_r_iconst (by decide) kc_X11_best dX11_best_97
theorem rX11_best_98 : ab_Run X 93 98 (4, 0, 0) [ab_R z, l1, l2, l3, l4, l5] st σ Q ↔ z ≠ 0 ∧ ab_Run X 93 99 (4, 0, 0) [ab_R z, l1, l2, l3, l4, l5] (ab_R z :: st) σ Q := ab_r_aload_n rfl kc_X11_best dX11_best_98
theorem rX11_best_99 : ab_Run X 93 99 (4, 0, 0) L (ab_R a :: st) σ Q ↔ (ab_sh σ a).1 = 12 ∧ ab_Run X 93 102 (4, 0, 0) L (ab_R (ab_rd σ a 7) :: st) σ Q := gF_11_58 ko_X11_best kc_X11_best dX11_best_99
theorem rX11_best_102 : ab_Run X 93 102 (4, 0, 0) L (ab_R a :: st) σ Q ↔ (ab_sh σ a).1 = 5 ∧ ab_Run X 93 105 (4, 0, 0) L (ab_R (ab_rd σ a 8) :: st) σ Q := gF_11_142 ko_X11_best kc_X11_best dX11_best_102
theorem rX11_best_105 : ab_Run X 93 105 (4, 0, 0) [l0, l1, l2, ab_I z, l4, l5] st σ Q ↔ ab_Run X 93 106 (4, 0, 0) [l0, l1, l2, ab_I z, l4, l5] (ab_I z :: st) σ Q := ab_r_iload_n rfl kc_X11_best dX11_best_105
theorem rX11_best_106 : ab_Run X 93 106 (4, 0, 0) L (ab_I i :: ab_R a :: st) σ Q ↔ ((25 ≤ (ab_sh σ a).1 ∧ (ab_sh σ a).1 < 30) ∧ 0 ≤ i ∧ i < (ab_sh σ a).2) ∧ ab_Run X 93 107 (4, 0, 0) L (ab_R (ab_rd σ a i) :: st) σ Q := ab_r_aaload kc_X11_best dX11_best_106
theorem rX11_best_107 : ab_Run X 93 107 (4, 0, 0) [l0, l1, l2, l3, ab_I z, l5] st σ Q ↔ ab_Run X 93 109 (4, 0, 0) [l0, l1, l2, l3, ab_I z, l5] (ab_I z :: st) σ Q := ab_r_iload rfl kc_X11_best dX11_best_107
theorem rX11_best_109 : ab_Run X 93 109 (4, 0, 0) L st σ Q ↔ ab_Run X 93 110 (4, 0, 0) L (ab_I 0 :: st) σ Q := ab_r_iconst (by decide) kc_X11_best dX11_best_109
theorem rX11_best_110 : ab_Run X 93 110 (4, 0, 0) L (ab_I x6 :: ab_I x5 :: ab_R x4 :: ab_I x3 :: ab_R x2 :: ab_R x1 :: ab_R a :: st) σ Q ↔ ((ab_sh σ a).1 = 7 ∧ ab_cats st ≤ 8) ∧ ab_Do X 35 [ab_R a, ab_R x1, ab_R x2, ab_I x3, ab_R x4, ab_I x5, ab_I x6] σ (fun r σ' => ab_Run X 93 113 (4, 0, 0) L (ab_psh r st) σ' Q) := ab_r_callV (w := [ab_I x6, ab_I x5, ab_R x4, ab_I x3, ab_R x2, ab_R x1]) (as := [ab_R x1, ab_R x2, ab_I x3, ab_R x4, ab_I x5, ab_I x6]) (b1 := (1, 0, 0)) 0 (Or.inl rfl) (by decide) ko_X11_best qM_11_175 (by decide) rfl rfl rfl rfl rfl (by decide) (Nat.le_of_ble_eq_true rfl) kc_X11_best dX11_best_110
theorem rX11_best_113 : ab_Run X 93 113 (4, 0, 0) [ab_R z, l1, l2, l3, l4, l5] st σ Q ↔ z ≠ 0 ∧ ab_Run X 93 114 (4, 0, 0) [ab_R z, l1, l2, l3, l4, l5] (ab_R z :: st) σ Q := ab_r_aload_n rfl kc_X11_best dX11_best_113
theorem rX11_best_114 : ab_Run X 93 114 (4, 0, 0) L (ab_R a :: st) σ Q ↔ (ab_sh σ a).1 = 12 ∧ ab_Run X 93 117 (4, 0, 0) L (ab_R (ab_rd σ a 4) :: st) σ Q := gF_11_40 ko_X11_best kc_X11_best dX11_best_114
theorem rX11_best_117 : ab_Run X 93 117 (4, 0, 0) [ab_R z, l1, l2, l3, l4, l5] st σ Q ↔ z ≠ 0 ∧ ab_Run X 93 118 (4, 0, 0) [ab_R z, l1, l2, l3, l4, l5] (ab_R z :: st) σ Q := ab_r_aload_n rfl kc_X11_best dX11_best_117
theorem rX11_best_118 : ab_Run X 93 118 (4, 0, 0) L (ab_R a :: st) σ Q ↔ (ab_sh σ a).1 = 12 ∧ ab_Run X 93 121 (4, 0, 0) L (ab_R (ab_rd σ a 3) :: st) σ Q := gF_11_33 ko_X11_best kc_X11_best dX11_best_118
theorem rX11_best_121 : ab_Run X 93 121 (4, 0, 0) [l0, l1, l2, l3, l4, ab_R z] st σ Q ↔ z ≠ 0 ∧ ab_Run X 93 123 (4, 0, 0) [l0, l1, l2, l3, l4, ab_R z] (ab_R z :: st) σ Q := ab_r_aload rfl kc_X11_best dX11_best_121
theorem rX11_best_123 : ab_Run X 93 123 (4, 0, 0) [ab_R z, l1, l2, l3, l4, l5] st σ Q ↔ z ≠ 0 ∧ ab_Run X 93 124 (4, 0, 0) [ab_R z, l1, l2, l3, l4, l5] (ab_R z :: st) σ Q := ab_r_aload_n rfl kc_X11_best dX11_best_123
theorem rX11_best_124 : ab_Run X 93 124 (4, 0, 0) L (ab_R a :: st) σ Q ↔ (ab_sh σ a).1 = 12 ∧ ab_Run X 93 127 (4, 0, 0) L (ab_R (ab_rd σ a 7) :: st) σ Q := gF_11_58 ko_X11_best kc_X11_best dX11_best_124
theorem rX11_best_127 : ab_Run X 93 127 (4, 0, 0) L (ab_R a :: st) σ Q ↔ (ab_sh σ a).1 = 5 ∧ ab_Run X 93 130 (4, 0, 0) L (ab_R (ab_rd σ a 8) :: st) σ Q := gF_11_142 ko_X11_best kc_X11_best dX11_best_127
theorem rX11_best_130 : ab_Run X 93 130 (4, 0, 0) [l0, l1, ab_I z, l3, l4, l5] st σ Q ↔ ab_Run X 93 131 (4, 0, 0) [l0, l1, ab_I z, l3, l4, l5] (ab_I z :: st) σ Q := ab_r_iload_n rfl kc_X11_best dX11_best_130
theorem rX11_best_131 : ab_Run X 93 131 (4, 0, 0) L (ab_I i :: ab_R a :: st) σ Q ↔ ((25 ≤ (ab_sh σ a).1 ∧ (ab_sh σ a).1 < 30) ∧ 0 ≤ i ∧ i < (ab_sh σ a).2) ∧ ab_Run X 93 132 (4, 0, 0) L (ab_R (ab_rd σ a i) :: st) σ Q := ab_r_aaload kc_X11_best dX11_best_131
theorem rX11_best_132 : ab_Run X 93 132 (4, 0, 0) L (ab_R x3 :: ab_R x2 :: ab_R x1 :: ab_R a :: st) σ Q ↔ ((ab_sh σ a).1 = 3 ∧ ab_cats st ≤ 8) ∧ ab_Do X 13 [ab_R a, ab_R x1, ab_R x2, ab_R x3] σ (fun r σ' => ab_Run X 93 135 (4, 0, 0) L (ab_psh r st) σ' Q) := ab_r_callV (w := [ab_R x3, ab_R x2, ab_R x1]) (as := [ab_R x1, ab_R x2, ab_R x3]) (b1 := (3, 0, 0)) 0 (Or.inl rfl) (by decide) ko_X11_best qM_11_233 (by decide) rfl rfl rfl rfl rfl (by decide) (Nat.le_of_ble_eq_true rfl) kc_X11_best dX11_best_132
theorem rX11_best_135 : ab_Run X 93 135 (4, 0, 0) L [ab_I v] σ Q ↔ Q (some (ab_I v)) σ := ab_r_ireturnI rfl kc_X11_best dX11_best_135
theorem kc_X11_rests : ab_code 94 = cX11_rests := rfl
theorem ko_X11_rests : ab_ow 94 = 11 := rfl
theorem rX11_rests_0 : ab_Run X 94 0 (5, 0, 0) [ab_R z, l1, l2, l3] st σ Q ↔ z ≠ 0 ∧ ab_Run X 94 1 (5, 0, 0) [ab_R z, l1, l2, l3] (ab_R z :: st) σ Q := ab_r_aload_n rfl kc_X11_rests dX11_rests_0
theorem rX11_rests_1 : ab_Run X 94 1 (5, 0, 0) [ab_R z, l1, l2, l3] st σ Q ↔ z ≠ 0 ∧ ab_Run X 94 2 (5, 0, 0) [ab_R z, l1, l2, l3] (ab_R z :: st) σ Q := ab_r_aload_n rfl kc_X11_rests dX11_rests_1
theorem rX11_rests_2 : ab_Run X 94 2 (5, 0, 0) [l0, ab_I z, l2, l3] st σ Q ↔ ab_Run X 94 3 (5, 0, 0) [l0, ab_I z, l2, l3] (ab_I z :: st) σ Q := ab_r_iload_n rfl kc_X11_rests dX11_rests_2
theorem rX11_rests_3 : ab_Run X 94 3 (5, 0, 0) [l0, l1, ab_I z, l3] st σ Q ↔ ab_Run X 94 4 (5, 0, 0) [l0, l1, ab_I z, l3] (ab_I z :: st) σ Q := ab_r_iload_n rfl kc_X11_rests dX11_rests_3
theorem rX11_rests_4 : ab_Run X 94 4 (5, 0, 0) [l0, l1, l2, ab_I z] st σ Q ↔ ab_Run X 94 5 (5, 0, 0) [l0, l1, l2, ab_I z] (ab_I z :: st) σ Q := ab_r_iload_n rfl kc_X11_rests dX11_rests_4
theorem rX11_rests_5 : ab_Run X 94 5 (5, 0, 0) L (ab_I x3 :: ab_I x2 :: ab_I x1 :: ab_R a :: st) σ Q ↔ ((ab_sh σ a).1 = 12 ∧ ab_cats st ≤ 8) ∧ ab_Do X 133 [ab_R a, ab_I x1, ab_I x2, ab_I x3] σ (fun r σ' => ab_Run X 94 8 (5, 0, 0) L (ab_psh r st) σ' Q) := ab_r_callV (w := [ab_I x3, ab_I x2, ab_I x1]) (as := [ab_I x1, ab_I x2, ab_I x3]) (b1 := (2, 0, 0)) 0 (Or.inl rfl) (by decide) ko_X11_rests qM_11_222 (by decide) rfl rfl rfl rfl rfl (by decide) (Nat.le_of_ble_eq_true rfl) kc_X11_rests dX11_rests_5
theorem rX11_rests_8 : ab_Run X 94 8 (5, 0, 0) L (ab_I z :: ab_R a :: st) σ Q ↔ (ab_sh σ a).1 = 12 ∧ ab_Run X 94 11 (5, 0, 0) L st (ab_wr σ a 8 z) Q := sF_11_62 ko_X11_rests kc_X11_rests dX11_rests_8
theorem rX11_rests_11 : ab_Run X 94 11 (5, 0, 0) [ab_R z, l1, l2, l3] st σ Q ↔ z ≠ 0 ∧ ab_Run X 94 12 (5, 0, 0) [ab_R z, l1, l2, l3] (ab_R z :: st) σ Q := ab_r_aload_n rfl kc_X11_rests dX11_rests_11
theorem rX11_rests_12 : ab_Run X 94 12 (5, 0, 0) L (ab_R a :: st) σ Q ↔ (ab_sh σ a).1 = 12 ∧ ab_Run X 94 15 (5, 0, 0) L (ab_I (ab_rd σ a 8) :: st) σ Q := gF_11_62 ko_X11_rests kc_X11_rests dX11_rests_12
theorem rX11_rests_15 : ab_Run X 94 15 (5, 0, 0) L (ab_I a :: st) σ Q ↔ (a = 0 → ab_Run X 94 20 (5, 0, 0) L st σ Q) ∧ (¬ (a = 0) → ab_Run X 94 18 (5, 0, 0) L st σ Q) := ab_r_if_eq rfl kc_X11_rests dX11_rests_15
theorem rX11_rests_18 : ab_Run X 94 18 (5, 0, 0) L st σ Q ↔ ab_Run X 94 19 (5, 0, 0) L (ab_I (-1) :: st) σ Q := ab_r_iconst (by decide) kc_X11_rests dX11_rests_18
theorem rX11_rests_19 : ab_Run X 94 19 (5, 0, 0) L [ab_I v] σ Q ↔ Q (some (ab_I v)) σ := ab_r_ireturnI rfl kc_X11_rests dX11_rests_19
theorem rX11_rests_20 : ab_Run X 94 20 (5, 0, 0) [ab_R z, l1, l2, l3] st σ Q ↔ z ≠ 0 ∧ ab_Run X 94 21 (5, 0, 0) [ab_R z, l1, l2, l3] (ab_R z :: st) σ Q := ab_r_aload_n rfl kc_X11_rests dX11_rests_20
theorem rX11_rests_21 : ab_Run X 94 21 (5, 0, 0) [l0, ab_I z, l2, l3] st σ Q ↔ ab_Run X 94 22 (5, 0, 0) [l0, ab_I z, l2, l3] (ab_I z :: st) σ Q := ab_r_iload_n rfl kc_X11_rests dX11_rests_21
theorem rX11_rests_22 : ab_Run X 94 22 (5, 0, 0) [l0, l1, ab_I z, l3] st σ Q ↔ ab_Run X 94 23 (5, 0, 0) [l0, l1, ab_I z, l3] (ab_I z :: st) σ Q := ab_r_iload_n rfl kc_X11_rests dX11_rests_22
theorem rX11_rests_23 : ab_Run X 94 23 (5, 0, 0) [l0, l1, l2, ab_I z] st σ Q ↔ ab_Run X 94 24 (5, 0, 0) [l0, l1, l2, ab_I z] (ab_I z :: st) σ Q := ab_r_iload_n rfl kc_X11_rests dX11_rests_23
theorem rX11_rests_24 : ab_Run X 94 24 (5, 0, 0) L (ab_I x3 :: ab_I x2 :: ab_I x1 :: ab_R a :: st) σ Q ↔ ((ab_sh σ a).1 = 12 ∧ ab_cats st ≤ 8) ∧ ab_Do X 141 [ab_R a, ab_I x1, ab_I x2, ab_I x3] σ (fun r σ' => ab_Run X 94 27 (5, 0, 0) L (ab_psh r st) σ' Q) := ab_r_callV (w := [ab_I x3, ab_I x2, ab_I x1]) (as := [ab_I x1, ab_I x2, ab_I x3]) (b1 := (4, 0, 0)) 0 (Or.inl rfl) (by decide) ko_X11_rests qM_11_237 (by decide) rfl rfl rfl rfl rfl (by decide) (Nat.le_of_ble_eq_true rfl) kc_X11_rests dX11_rests_24
theorem rX11_rests_27 : ab_Run X 94 27 (5, 0, 0) [ab_R z, l1, l2, l3] st σ Q ↔ z ≠ 0 ∧ ab_Run X 94 28 (5, 0, 0) [ab_R z, l1, l2, l3] (ab_R z :: st) σ Q := ab_r_aload_n rfl kc_X11_rests dX11_rests_27
theorem rX11_rests_28 : ab_Run X 94 28 (5, 0, 0) L (ab_R a :: st) σ Q ↔ (ab_sh σ a).1 = 12 ∧ ab_Run X 94 31 (5, 0, 0) L (ab_R (ab_rd σ a 4) :: st) σ Q := gF_11_40 ko_X11_rests kc_X11_rests dX11_rests_28
theorem rX11_rests_31 : ab_Run X 94 31 (5, 0, 0) L (ab_R a :: st) σ Q ↔ ((ab_sh σ a).1 = 3 ∧ ab_cats st ≤ 8) ∧ ab_Do X 16 [ab_R a] σ (fun r σ' => ab_Run X 94 34 (5, 0, 0) L (ab_psh r st) σ' Q) := ab_r_callV (w := []) (as := []) (b1 := (1, 0, 0)) 0 (Or.inl rfl) (by decide) ko_X11_rests qM_11_241 (by decide) rfl rfl rfl rfl rfl (by decide) (Nat.le_of_ble_eq_true rfl) kc_X11_rests dX11_rests_31
theorem rX11_rests_34 : ab_Run X 94 34 (5, 0, 0) L [ab_I v] σ Q ↔ Q (some (ab_I v)) σ := ab_r_ireturnI rfl kc_X11_rests dX11_rests_34
theorem kc_X11_rest : ab_code 95 = cX11_rest := rfl
theorem ko_X11_rest : ab_ow 95 = 11 := rfl
theorem rX11_rest_0 : ab_Run X 95 0 (5, 0, 0) [ab_R z, l1, l2, l3] st σ Q ↔ z ≠ 0 ∧ ab_Run X 95 1 (5, 0, 0) [ab_R z, l1, l2, l3] (ab_R z :: st) σ Q := ab_r_aload_n rfl kc_X11_rest dX11_rest_0
theorem rX11_rest_1 : ab_Run X 95 1 (5, 0, 0) [ab_R z, l1, l2, l3] st σ Q ↔ z ≠ 0 ∧ ab_Run X 95 2 (5, 0, 0) [ab_R z, l1, l2, l3] (ab_R z :: st) σ Q := ab_r_aload_n rfl kc_X11_rest dX11_rest_1
theorem rX11_rest_2 : ab_Run X 95 2 (5, 0, 0) [l0, ab_I z, l2, l3] st σ Q ↔ ab_Run X 95 3 (5, 0, 0) [l0, ab_I z, l2, l3] (ab_I z :: st) σ Q := ab_r_iload_n rfl kc_X11_rest dX11_rest_2
theorem rX11_rest_3 : ab_Run X 95 3 (5, 0, 0) [l0, l1, ab_I z, l3] st σ Q ↔ ab_Run X 95 4 (5, 0, 0) [l0, l1, ab_I z, l3] (ab_I z :: st) σ Q := ab_r_iload_n rfl kc_X11_rest dX11_rest_3
theorem rX11_rest_4 : ab_Run X 95 4 (5, 0, 0) [l0, l1, l2, ab_I z] st σ Q ↔ ab_Run X 95 5 (5, 0, 0) [l0, l1, l2, ab_I z] (ab_I z :: st) σ Q := ab_r_iload_n rfl kc_X11_rest dX11_rest_4
theorem rX11_rest_5 : ab_Run X 95 5 (5, 0, 0) L (ab_I x3 :: ab_I x2 :: ab_I x1 :: ab_R a :: st) σ Q ↔ ((ab_sh σ a).1 = 12 ∧ ab_cats st ≤ 8) ∧ ab_Do X 133 [ab_R a, ab_I x1, ab_I x2, ab_I x3] σ (fun r σ' => ab_Run X 95 8 (5, 0, 0) L (ab_psh r st) σ' Q) := ab_r_callV (w := [ab_I x3, ab_I x2, ab_I x1]) (as := [ab_I x1, ab_I x2, ab_I x3]) (b1 := (2, 0, 0)) 0 (Or.inl rfl) (by decide) ko_X11_rest qM_11_222 (by decide) rfl rfl rfl rfl rfl (by decide) (Nat.le_of_ble_eq_true rfl) kc_X11_rest dX11_rest_5
theorem rX11_rest_8 : ab_Run X 95 8 (5, 0, 0) L (ab_I z :: ab_R a :: st) σ Q ↔ (ab_sh σ a).1 = 12 ∧ ab_Run X 95 11 (5, 0, 0) L st (ab_wr σ a 8 z) Q := sF_11_62 ko_X11_rest kc_X11_rest dX11_rest_8
theorem rX11_rest_11 : ab_Run X 95 11 (5, 0, 0) [ab_R z, l1, l2, l3] st σ Q ↔ z ≠ 0 ∧ ab_Run X 95 12 (5, 0, 0) [ab_R z, l1, l2, l3] (ab_R z :: st) σ Q := ab_r_aload_n rfl kc_X11_rest dX11_rest_11
theorem rX11_rest_12 : ab_Run X 95 12 (5, 0, 0) L (ab_R a :: st) σ Q ↔ (ab_sh σ a).1 = 12 ∧ ab_Run X 95 15 (5, 0, 0) L (ab_I (ab_rd σ a 8) :: st) σ Q := gF_11_62 ko_X11_rest kc_X11_rest dX11_rest_12
theorem rX11_rest_15 : ab_Run X 95 15 (5, 0, 0) L (ab_I a :: st) σ Q ↔ (a = 0 → ab_Run X 95 20 (5, 0, 0) L st σ Q) ∧ (¬ (a = 0) → ab_Run X 95 18 (5, 0, 0) L st σ Q) := ab_r_if_eq rfl kc_X11_rest dX11_rest_15
theorem rX11_rest_18 : ab_Run X 95 18 (5, 0, 0) L st σ Q ↔ ab_Run X 95 19 (5, 0, 0) L (ab_I (-1) :: st) σ Q := ab_r_iconst (by decide) kc_X11_rest dX11_rest_18
theorem rX11_rest_19 : ab_Run X 95 19 (5, 0, 0) L [ab_I v] σ Q ↔ Q (some (ab_I v)) σ := ab_r_ireturnI rfl kc_X11_rest dX11_rest_19
theorem rX11_rest_20 : ab_Run X 95 20 (5, 0, 0) [ab_R z, l1, l2, l3] st σ Q ↔ z ≠ 0 ∧ ab_Run X 95 21 (5, 0, 0) [ab_R z, l1, l2, l3] (ab_R z :: st) σ Q := ab_r_aload_n rfl kc_X11_rest dX11_rest_20
theorem rX11_rest_21 : ab_Run X 95 21 (5, 0, 0) [l0, ab_I z, l2, l3] st σ Q ↔ ab_Run X 95 22 (5, 0, 0) [l0, ab_I z, l2, l3] (ab_I z :: st) σ Q := ab_r_iload_n rfl kc_X11_rest dX11_rest_21
theorem rX11_rest_22 : ab_Run X 95 22 (5, 0, 0) [l0, l1, ab_I z, l3] st σ Q ↔ ab_Run X 95 23 (5, 0, 0) [l0, l1, ab_I z, l3] (ab_I z :: st) σ Q := ab_r_iload_n rfl kc_X11_rest dX11_rest_22
theorem rX11_rest_23 : ab_Run X 95 23 (5, 0, 0) [l0, l1, l2, ab_I z] st σ Q ↔ ab_Run X 95 24 (5, 0, 0) [l0, l1, l2, ab_I z] (ab_I z :: st) σ Q := ab_r_iload_n rfl kc_X11_rest dX11_rest_23
theorem rX11_rest_24 : ab_Run X 95 24 (5, 0, 0) L (ab_I x3 :: ab_I x2 :: ab_I x1 :: ab_R a :: st) σ Q ↔ ((ab_sh σ a).1 = 12 ∧ ab_cats st ≤ 8) ∧ ab_Do X 141 [ab_R a, ab_I x1, ab_I x2, ab_I x3] σ (fun r σ' => ab_Run X 95 27 (5, 0, 0) L (ab_psh r st) σ' Q) := ab_r_callV (w := [ab_I x3, ab_I x2, ab_I x1]) (as := [ab_I x1, ab_I x2, ab_I x3]) (b1 := (4, 0, 0)) 0 (Or.inl rfl) (by decide) ko_X11_rest qM_11_237 (by decide) rfl rfl rfl rfl rfl (by decide) (Nat.le_of_ble_eq_true rfl) kc_X11_rest dX11_rest_24
theorem rX11_rest_27 : ab_Run X 95 27 (5, 0, 0) [ab_R z, l1, l2, l3] st σ Q ↔ z ≠ 0 ∧ ab_Run X 95 28 (5, 0, 0) [ab_R z, l1, l2, l3] (ab_R z :: st) σ Q := ab_r_aload_n rfl kc_X11_rest dX11_rest_27
theorem rX11_rest_28 : ab_Run X 95 28 (5, 0, 0) L (ab_R a :: st) σ Q ↔ (ab_sh σ a).1 = 12 ∧ ab_Run X 95 31 (5, 0, 0) L (ab_R (ab_rd σ a 4) :: st) σ Q := gF_11_40 ko_X11_rest kc_X11_rest dX11_rest_28
theorem rX11_rest_31 : ab_Run X 95 31 (5, 0, 0) L (ab_R a :: st) σ Q ↔ ((ab_sh σ a).1 = 3 ∧ ab_cats st ≤ 8) ∧ ab_Do X 17 [ab_R a] σ (fun r σ' => ab_Run X 95 34 (5, 0, 0) L (ab_psh r st) σ' Q) := ab_r_callV (w := []) (as := []) (b1 := (1, 0, 0)) 0 (Or.inl rfl) (by decide) ko_X11_rest qM_11_244 (by decide) rfl rfl rfl rfl rfl (by decide) (Nat.le_of_ble_eq_true rfl) kc_X11_rest dX11_rest_31
theorem rX11_rest_34 : ab_Run X 95 34 (5, 0, 0) L [ab_I v] σ Q ↔ Q (some (ab_I v)) σ := ab_r_ireturnI rfl kc_X11_rest dX11_rest_34
theorem kc_X11_sure : ab_code 96 = cX11_sure := rfl
theorem ko_X11_sure : ab_ow 96 = 11 := rfl
theorem rX11_sure_0 : ab_Run X 96 0 (5, 0, 0) [ab_R z, l1, l2, l3, l4] st σ Q ↔ z ≠ 0 ∧ ab_Run X 96 1 (5, 0, 0) [ab_R z, l1, l2, l3, l4] (ab_R z :: st) σ Q := ab_r_aload_n rfl kc_X11_sure dX11_sure_0
theorem rX11_sure_1 : ab_Run X 96 1 (5, 0, 0) [ab_R z, l1, l2, l3, l4] st σ Q ↔ z ≠ 0 ∧ ab_Run X 96 2 (5, 0, 0) [ab_R z, l1, l2, l3, l4] (ab_R z :: st) σ Q := ab_r_aload_n rfl kc_X11_sure dX11_sure_1
theorem rX11_sure_2 : ab_Run X 96 2 (5, 0, 0) [l0, ab_I z, l2, l3, l4] st σ Q ↔ ab_Run X 96 3 (5, 0, 0) [l0, ab_I z, l2, l3, l4] (ab_I z :: st) σ Q := ab_r_iload_n rfl kc_X11_sure dX11_sure_2
theorem rX11_sure_3 : ab_Run X 96 3 (5, 0, 0) [l0, l1, ab_I z, l3, l4] st σ Q ↔ ab_Run X 96 4 (5, 0, 0) [l0, l1, ab_I z, l3, l4] (ab_I z :: st) σ Q := ab_r_iload_n rfl kc_X11_sure dX11_sure_3
theorem rX11_sure_4 : ab_Run X 96 4 (5, 0, 0) [l0, l1, l2, ab_I z, l4] st σ Q ↔ ab_Run X 96 5 (5, 0, 0) [l0, l1, l2, ab_I z, l4] (ab_I z :: st) σ Q := ab_r_iload_n rfl kc_X11_sure dX11_sure_4
theorem rX11_sure_5 : ab_Run X 96 5 (5, 0, 0) L (ab_I x3 :: ab_I x2 :: ab_I x1 :: ab_R a :: st) σ Q ↔ ((ab_sh σ a).1 = 12 ∧ ab_cats st ≤ 8) ∧ ab_Do X 133 [ab_R a, ab_I x1, ab_I x2, ab_I x3] σ (fun r σ' => ab_Run X 96 8 (5, 0, 0) L (ab_psh r st) σ' Q) := ab_r_callV (w := [ab_I x3, ab_I x2, ab_I x1]) (as := [ab_I x1, ab_I x2, ab_I x3]) (b1 := (2, 0, 0)) 0 (Or.inl rfl) (by decide) ko_X11_sure qM_11_222 (by decide) rfl rfl rfl rfl rfl (by decide) (Nat.le_of_ble_eq_true rfl) kc_X11_sure dX11_sure_5
theorem rX11_sure_8 : ab_Run X 96 8 (5, 0, 0) L (ab_I z :: ab_R a :: st) σ Q ↔ (ab_sh σ a).1 = 12 ∧ ab_Run X 96 11 (5, 0, 0) L st (ab_wr σ a 8 z) Q := sF_11_62 ko_X11_sure kc_X11_sure dX11_sure_8
theorem rX11_sure_11 : ab_Run X 96 11 (5, 0, 0) [ab_R z, l1, l2, l3, l4] st σ Q ↔ z ≠ 0 ∧ ab_Run X 96 12 (5, 0, 0) [ab_R z, l1, l2, l3, l4] (ab_R z :: st) σ Q := ab_r_aload_n rfl kc_X11_sure dX11_sure_11
theorem rX11_sure_12 : ab_Run X 96 12 (5, 0, 0) L (ab_R a :: st) σ Q ↔ (ab_sh σ a).1 = 12 ∧ ab_Run X 96 15 (5, 0, 0) L (ab_I (ab_rd σ a 8) :: st) σ Q := gF_11_62 ko_X11_sure kc_X11_sure dX11_sure_12
theorem rX11_sure_15 : ab_Run X 96 15 (5, 0, 0) L (ab_I a :: st) σ Q ↔ (a = 0 → ab_Run X 96 22 (5, 0, 0) L st σ Q) ∧ (¬ (a = 0) → ab_Run X 96 18 (5, 0, 0) L st σ Q) := ab_r_if_eq rfl kc_X11_sure dX11_sure_15
theorem rX11_sure_18 : ab_Run X 96 18 (5, 0, 0) L st σ Q ↔ ab_Run X 96 21 (5, 0, 0) L (ab_J (-1) :: st) σ Q := ab_r_ldc2_w rfl ko_X11_sure (by decide +kernel) kc_X11_sure dX11_sure_18
theorem rX11_sure_21 : ab_Run X 96 21 (5, 0, 0) L [ab_J v] σ Q ↔ Q (some (ab_J v)) σ := ab_r_lreturn rfl kc_X11_sure dX11_sure_21
theorem rX11_sure_22 : ab_Run X 96 22 (5, 0, 0) [ab_R z, l1, l2, l3, l4] st σ Q ↔ z ≠ 0 ∧ ab_Run X 96 23 (5, 0, 0) [ab_R z, l1, l2, l3, l4] (ab_R z :: st) σ Q := ab_r_aload_n rfl kc_X11_sure dX11_sure_22
theorem rX11_sure_23 : ab_Run X 96 23 (5, 0, 0) [l0, ab_I z, l2, l3, l4] st σ Q ↔ ab_Run X 96 24 (5, 0, 0) [l0, ab_I z, l2, l3, l4] (ab_I z :: st) σ Q := ab_r_iload_n rfl kc_X11_sure dX11_sure_23
theorem rX11_sure_24 : ab_Run X 96 24 (5, 0, 0) [l0, l1, ab_I z, l3, l4] st σ Q ↔ ab_Run X 96 25 (5, 0, 0) [l0, l1, ab_I z, l3, l4] (ab_I z :: st) σ Q := ab_r_iload_n rfl kc_X11_sure dX11_sure_24
theorem rX11_sure_25 : ab_Run X 96 25 (5, 0, 0) [l0, l1, l2, ab_I z, l4] st σ Q ↔ ab_Run X 96 26 (5, 0, 0) [l0, l1, l2, ab_I z, l4] (ab_I z :: st) σ Q := ab_r_iload_n rfl kc_X11_sure dX11_sure_25
theorem rX11_sure_26 : ab_Run X 96 26 (5, 0, 0) L (ab_I x3 :: ab_I x2 :: ab_I x1 :: ab_R a :: st) σ Q ↔ ((ab_sh σ a).1 = 12 ∧ ab_cats st ≤ 8) ∧ ab_Do X 141 [ab_R a, ab_I x1, ab_I x2, ab_I x3] σ (fun r σ' => ab_Run X 96 29 (5, 0, 0) L (ab_psh r st) σ' Q) := ab_r_callV (w := [ab_I x3, ab_I x2, ab_I x1]) (as := [ab_I x1, ab_I x2, ab_I x3]) (b1 := (4, 0, 0)) 0 (Or.inl rfl) (by decide) ko_X11_sure qM_11_237 (by decide) rfl rfl rfl rfl rfl (by decide) (Nat.le_of_ble_eq_true rfl) kc_X11_sure dX11_sure_26
theorem rX11_sure_29 : ab_Run X 96 29 (5, 0, 0) [ab_R z, l1, l2, l3, l4] st σ Q ↔ z ≠ 0 ∧ ab_Run X 96 30 (5, 0, 0) [ab_R z, l1, l2, l3, l4] (ab_R z :: st) σ Q := ab_r_aload_n rfl kc_X11_sure dX11_sure_29
theorem rX11_sure_30 : ab_Run X 96 30 (5, 0, 0) L (ab_R a :: st) σ Q ↔ (ab_sh σ a).1 = 12 ∧ ab_Run X 96 33 (5, 0, 0) L (ab_R (ab_rd σ a 4) :: st) σ Q := gF_11_40 ko_X11_sure kc_X11_sure dX11_sure_30
theorem rX11_sure_33 : ab_Run X 96 33 (5, 0, 0) L (ab_R a :: st) σ Q ↔ ((ab_sh σ a).1 = 3 ∧ ab_cats st ≤ 8) ∧ ab_Do X 18 [ab_R a] σ (fun r σ' => ab_Run X 96 36 (5, 0, 0) L (ab_psh r st) σ' Q) := ab_r_callV (w := []) (as := []) (b1 := (1, 0, 0)) 0 (Or.inl rfl) (by decide) ko_X11_sure qM_11_247 (by decide) rfl rfl rfl rfl rfl (by decide) (Nat.le_of_ble_eq_true rfl) kc_X11_sure dX11_sure_33
theorem rX11_sure_36 : ab_Run X 96 36 (5, 0, 0) L (ab_I a :: st) σ Q ↔ ab_Run X 96 37 (5, 0, 0) L (ab_J a :: st) σ Q := ab_r_i2l kc_X11_sure dX11_sure_36
theorem rX11_sure_37 : ab_Run X 96 37 (5, 0, 0) [ab_R z, l1, l2, l3, l4] st σ Q ↔ z ≠ 0 ∧ ab_Run X 96 38 (5, 0, 0) [ab_R z, l1, l2, l3, l4] (ab_R z :: st) σ Q := ab_r_aload_n rfl kc_X11_sure dX11_sure_37
theorem rX11_sure_38 : ab_Run X 96 38 (5, 0, 0) L (ab_R a :: st) σ Q ↔ (ab_sh σ a).1 = 12 ∧ ab_Run X 96 41 (5, 0, 0) L (ab_R (ab_rd σ a 3) :: st) σ Q := gF_11_33 ko_X11_sure kc_X11_sure dX11_sure_38
theorem rX11_sure_41 : ab_Run X 96 41 (5, 0, 0) L (ab_R a :: st) σ Q ↔ (ab_sh σ a).1 = 7 ∧ ab_Run X 96 44 (5, 0, 0) L (ab_I (ab_rd σ a 3) :: st) σ Q := gF_11_215 ko_X11_sure kc_X11_sure dX11_sure_41
theorem rX11_sure_44 : ab_Run X 96 44 (5, 0, 0) L (ab_I a :: st) σ Q ↔ ab_Run X 96 45 (5, 0, 0) L (ab_J a :: st) σ Q := ab_r_i2l kc_X11_sure dX11_sure_44
theorem rX11_sure_45 : ab_Run X 96 45 (5, 0, 0) [l0, l1, l2, l3, ab_I z] st σ Q ↔ ab_Run X 96 47 (5, 0, 0) [l0, l1, l2, l3, ab_I z] (ab_I z :: st) σ Q := ab_r_iload rfl kc_X11_sure dX11_sure_45
theorem rX11_sure_47 : ab_Run X 96 47 (5, 0, 0) L (ab_I x3 :: ab_J x2 :: ab_J x1 :: st) σ Q ↔ ab_cats st ≤ 8 ∧ ab_Do X 147 [ab_J x1, ab_J x2, ab_I x3] σ (fun r σ' => ab_Run X 96 50 (5, 0, 0) L (ab_psh r st) σ' Q) := ab_r_callS (w := [ab_I x3, ab_J x2, ab_J x1]) (as := [ab_J x1, ab_J x2, ab_I x3]) (b1 := (0, 0, 0)) (by decide) ko_X11_sure qM_11_218 (by decide) rfl rfl rfl rfl (by decide) (Nat.le_of_ble_eq_true rfl) kc_X11_sure dX11_sure_47
theorem rX11_sure_50 : ab_Run X 96 50 (5, 0, 0) L [ab_J v] σ Q ↔ Q (some (ab_J v)) σ := ab_r_lreturn rfl kc_X11_sure dX11_sure_50
theorem kc_X11_curve : ab_code 97 = cX11_curve := rfl
theorem ko_X11_curve : ab_ow 97 = 11 := rfl
theorem rX11_curve_0 : ab_Run X 97 0 (5, 0, 0) [ab_R z, l1, l2, l3, l4, l5, l6] st σ Q ↔ z ≠ 0 ∧ ab_Run X 97 1 (5, 0, 0) [ab_R z, l1, l2, l3, l4, l5, l6] (ab_R z :: st) σ Q := ab_r_aload_n rfl kc_X11_curve dX11_curve_0
theorem rX11_curve_1 : ab_Run X 97 1 (5, 0, 0) [ab_R z, l1, l2, l3, l4, l5, l6] st σ Q ↔ z ≠ 0 ∧ ab_Run X 97 2 (5, 0, 0) [ab_R z, l1, l2, l3, l4, l5, l6] (ab_R z :: st) σ Q := ab_r_aload_n rfl kc_X11_curve dX11_curve_1
theorem rX11_curve_2 : ab_Run X 97 2 (5, 0, 0) [l0, ab_I z, l2, l3, l4, l5, l6] st σ Q ↔ ab_Run X 97 3 (5, 0, 0) [l0, ab_I z, l2, l3, l4, l5, l6] (ab_I z :: st) σ Q := ab_r_iload_n rfl kc_X11_curve dX11_curve_2
theorem rX11_curve_3 : ab_Run X 97 3 (5, 0, 0) [l0, l1, ab_I z, l3, l4, l5, l6] st σ Q ↔ ab_Run X 97 4 (5, 0, 0) [l0, l1, ab_I z, l3, l4, l5, l6] (ab_I z :: st) σ Q := ab_r_iload_n rfl kc_X11_curve dX11_curve_3
theorem rX11_curve_4 : ab_Run X 97 4 (5, 0, 0) [l0, l1, l2, ab_I z, l4, l5, l6] st σ Q ↔ ab_Run X 97 5 (5, 0, 0) [l0, l1, l2, ab_I z, l4, l5, l6] (ab_I z :: st) σ Q := ab_r_iload_n rfl kc_X11_curve dX11_curve_4
theorem rX11_curve_5 : ab_Run X 97 5 (5, 0, 0) L (ab_I x3 :: ab_I x2 :: ab_I x1 :: ab_R a :: st) σ Q ↔ ((ab_sh σ a).1 = 12 ∧ ab_cats st ≤ 8) ∧ ab_Do X 133 [ab_R a, ab_I x1, ab_I x2, ab_I x3] σ (fun r σ' => ab_Run X 97 8 (5, 0, 0) L (ab_psh r st) σ' Q) := ab_r_callV (w := [ab_I x3, ab_I x2, ab_I x1]) (as := [ab_I x1, ab_I x2, ab_I x3]) (b1 := (2, 0, 0)) 0 (Or.inl rfl) (by decide) ko_X11_curve qM_11_222 (by decide) rfl rfl rfl rfl rfl (by decide) (Nat.le_of_ble_eq_true rfl) kc_X11_curve dX11_curve_5
theorem rX11_curve_8 : ab_Run X 97 8 (5, 0, 0) L (ab_I z :: ab_R a :: st) σ Q ↔ (ab_sh σ a).1 = 12 ∧ ab_Run X 97 11 (5, 0, 0) L st (ab_wr σ a 8 z) Q := sF_11_62 ko_X11_curve kc_X11_curve dX11_curve_8
theorem rX11_curve_11 : ab_Run X 97 11 (5, 0, 0) [ab_R z, l1, l2, l3, l4, l5, l6] st σ Q ↔ z ≠ 0 ∧ ab_Run X 97 12 (5, 0, 0) [ab_R z, l1, l2, l3, l4, l5, l6] (ab_R z :: st) σ Q := ab_r_aload_n rfl kc_X11_curve dX11_curve_11
theorem rX11_curve_12 : ab_Run X 97 12 (5, 0, 0) L (ab_R a :: st) σ Q ↔ (ab_sh σ a).1 = 12 ∧ ab_Run X 97 15 (5, 0, 0) L (ab_I (ab_rd σ a 8) :: st) σ Q := gF_11_62 ko_X11_curve kc_X11_curve dX11_curve_12
theorem rX11_curve_15 : ab_Run X 97 15 (5, 0, 0) L (ab_I a :: st) σ Q ↔ (¬ a = 0 → ab_Run X 97 35 (5, 0, 0) L st σ Q) ∧ (¬ (¬ a = 0) → ab_Run X 97 18 (5, 0, 0) L st σ Q) := ab_r_if_ne rfl kc_X11_curve dX11_curve_15
theorem rX11_curve_18 : ab_Run X 97 18 (5, 0, 0) [l0, l1, l2, l3, ab_I z, l5, l6] st σ Q ↔ ab_Run X 97 20 (5, 0, 0) [l0, l1, l2, l3, ab_I z, l5, l6] (ab_I z :: st) σ Q := ab_r_iload rfl kc_X11_curve dX11_curve_18
theorem rX11_curve_20 : ab_Run X 97 20 (5, 0, 0) L (ab_I a :: st) σ Q ↔ (a < 0 → ab_Run X 97 30 (5, 0, 0) L st σ Q) ∧ (¬ (a < 0) → ab_Run X 97 23 (5, 0, 0) L st σ Q) := ab_r_if_lt rfl kc_X11_curve dX11_curve_20
theorem rX11_curve_23 : ab_Run X 97 23 (5, 0, 0) [l0, l1, l2, l3, ab_I z, l5, l6] st σ Q ↔ ab_Run X 97 25 (5, 0, 0) [l0, l1, l2, l3, ab_I z, l5, l6] (ab_I z :: st) σ Q := ab_r_iload rfl kc_X11_curve dX11_curve_23
theorem rX11_curve_25 : ab_Run X 97 25 (5, 0, 0) L st σ Q ↔ ab_Run X 97 27 (5, 0, 0) L (ab_I 24 :: st) σ Q := ab_r_bipush (by decide) kc_X11_curve dX11_curve_25
theorem rX11_curve_27 : ab_Run X 97 27 (5, 0, 0) L (ab_I b :: ab_I a :: st) σ Q ↔ (a ≤ b → ab_Run X 97 35 (5, 0, 0) L st σ Q) ∧ (¬ (a ≤ b) → ab_Run X 97 30 (5, 0, 0) L st σ Q) := ab_r_icmp_le rfl kc_X11_curve dX11_curve_27
theorem rX11_curve_30 : ab_Run X 97 30 (5, 0, 0) [ab_R z, l1, l2, l3, l4, l5, l6] st σ Q ↔ z ≠ 0 ∧ ab_Run X 97 31 (5, 0, 0) [ab_R z, l1, l2, l3, l4, l5, l6] (ab_R z :: st) σ Q := ab_r_aload_n rfl kc_X11_curve dX11_curve_30
theorem rX11_curve_31 : ab_Run X 97 31 (5, 0, 0) L st σ Q ↔ ab_Run X 97 32 (5, 0, 0) L (ab_I 2 :: st) σ Q := ab_r_iconst (by decide) kc_X11_curve dX11_curve_31
theorem rX11_curve_32 : ab_Run X 97 32 (5, 0, 0) L (ab_I z :: ab_R a :: st) σ Q ↔ (ab_sh σ a).1 = 12 ∧ ab_Run X 97 35 (5, 0, 0) L st (ab_wr σ a 8 z) Q := sF_11_62 ko_X11_curve kc_X11_curve dX11_curve_32
theorem rX11_curve_35 : ab_Run X 97 35 (5, 0, 0) [ab_R z, l1, l2, l3, l4, l5, l6] st σ Q ↔ z ≠ 0 ∧ ab_Run X 97 36 (5, 0, 0) [ab_R z, l1, l2, l3, l4, l5, l6] (ab_R z :: st) σ Q := ab_r_aload_n rfl kc_X11_curve dX11_curve_35
theorem rX11_curve_36 : ab_Run X 97 36 (5, 0, 0) L (ab_R a :: st) σ Q ↔ (ab_sh σ a).1 = 12 ∧ ab_Run X 97 39 (5, 0, 0) L (ab_I (ab_rd σ a 8) :: st) σ Q := gF_11_62 ko_X11_curve kc_X11_curve dX11_curve_36
theorem rX11_curve_39 : ab_Run X 97 39 (5, 0, 0) L (ab_I a :: st) σ Q ↔ (a = 0 → ab_Run X 97 46 (5, 0, 0) L st σ Q) ∧ (¬ (a = 0) → ab_Run X 97 42 (5, 0, 0) L st σ Q) := ab_r_if_eq rfl kc_X11_curve dX11_curve_39
theorem rX11_curve_42 : ab_Run X 97 42 (5, 0, 0) L st σ Q ↔ ab_Run X 97 45 (5, 0, 0) L (ab_J (-1) :: st) σ Q := ab_r_ldc2_w rfl ko_X11_curve (by decide +kernel) kc_X11_curve dX11_curve_42
theorem rX11_curve_45 : ab_Run X 97 45 (5, 0, 0) L [ab_J v] σ Q ↔ Q (some (ab_J v)) σ := ab_r_lreturn rfl kc_X11_curve dX11_curve_45
theorem rX11_curve_46 : ab_Run X 97 46 (5, 0, 0) [ab_R z, l1, l2, l3, l4, l5, l6] st σ Q ↔ z ≠ 0 ∧ ab_Run X 97 47 (5, 0, 0) [ab_R z, l1, l2, l3, l4, l5, l6] (ab_R z :: st) σ Q := ab_r_aload_n rfl kc_X11_curve dX11_curve_46
theorem rX11_curve_47 : ab_Run X 97 47 (5, 0, 0) [l0, ab_I z, l2, l3, l4, l5, l6] st σ Q ↔ ab_Run X 97 48 (5, 0, 0) [l0, ab_I z, l2, l3, l4, l5, l6] (ab_I z :: st) σ Q := ab_r_iload_n rfl kc_X11_curve dX11_curve_47
theorem rX11_curve_48 : ab_Run X 97 48 (5, 0, 0) [l0, l1, ab_I z, l3, l4, l5, l6] st σ Q ↔ ab_Run X 97 49 (5, 0, 0) [l0, l1, ab_I z, l3, l4, l5, l6] (ab_I z :: st) σ Q := ab_r_iload_n rfl kc_X11_curve dX11_curve_48
theorem rX11_curve_49 : ab_Run X 97 49 (5, 0, 0) [l0, l1, l2, ab_I z, l4, l5, l6] st σ Q ↔ ab_Run X 97 50 (5, 0, 0) [l0, l1, l2, ab_I z, l4, l5, l6] (ab_I z :: st) σ Q := ab_r_iload_n rfl kc_X11_curve dX11_curve_49
theorem rX11_curve_50 : ab_Run X 97 50 (5, 0, 0) [l0, l1, l2, l3, ab_I z, l5, l6] st σ Q ↔ ab_Run X 97 52 (5, 0, 0) [l0, l1, l2, l3, ab_I z, l5, l6] (ab_I z :: st) σ Q := ab_r_iload rfl kc_X11_curve dX11_curve_50
theorem rX11_curve_52 : ab_Run X 97 52 (5, 0, 0) L (ab_I x4 :: ab_I x3 :: ab_I x2 :: ab_I x1 :: ab_R a :: st) σ Q ↔ ((ab_sh σ a).1 = 12 ∧ ab_cats st ≤ 8) ∧ ab_Do X 142 [ab_R a, ab_I x1, ab_I x2, ab_I x3, ab_I x4] σ (fun r σ' => ab_Run X 97 55 (5, 0, 0) L (ab_psh r st) σ' Q) := ab_r_callV (w := [ab_I x4, ab_I x3, ab_I x2, ab_I x1]) (as := [ab_I x1, ab_I x2, ab_I x3, ab_I x4]) (b1 := (4, 0, 0)) 0 (Or.inl rfl) (by decide) ko_X11_curve qM_11_250 (by decide) rfl rfl rfl rfl rfl (by decide) (Nat.le_of_ble_eq_true rfl) kc_X11_curve dX11_curve_52
theorem rX11_curve_55 : ab_Run X 97 55 (5, 0, 0) [l0, l1, l2, l3, l4, l5, l6] (ab_I z :: st) σ Q ↔ (!ab_isJ l5) = true ∧ ab_Run X 97 57 (5, 0, 0) [l0, l1, l2, l3, l4, l5, ab_I z] st σ Q := ab_r_istore (Nat.le_of_ble_eq_true rfl) kc_X11_curve dX11_curve_55
theorem rX11_curve_57 : ab_Run X 97 57 (5, 0, 0) [l0, l1, l2, l3, l4, l5, ab_I z] st σ Q ↔ ab_Run X 97 59 (5, 0, 0) [l0, l1, l2, l3, l4, l5, ab_I z] (ab_I z :: st) σ Q := ab_r_iload rfl kc_X11_curve dX11_curve_57
theorem rX11_curve_59 : ab_Run X 97 59 (5, 0, 0) L (ab_I a :: st) σ Q ↔ ab_Run X 97 60 (5, 0, 0) L (ab_J a :: st) σ Q := ab_r_i2l kc_X11_curve dX11_curve_59
theorem rX11_curve_60 : ab_Run X 97 60 (5, 0, 0) [ab_R z, l1, l2, l3, l4, l5, l6] st σ Q ↔ z ≠ 0 ∧ ab_Run X 97 61 (5, 0, 0) [ab_R z, l1, l2, l3, l4, l5, l6] (ab_R z :: st) σ Q := ab_r_aload_n rfl kc_X11_curve dX11_curve_60
theorem rX11_curve_61 : ab_Run X 97 61 (5, 0, 0) L (ab_R a :: st) σ Q ↔ (ab_sh σ a).1 = 12 ∧ ab_Run X 97 64 (5, 0, 0) L (ab_R (ab_rd σ a 3) :: st) σ Q := gF_11_33 ko_X11_curve kc_X11_curve dX11_curve_61
theorem rX11_curve_64 : ab_Run X 97 64 (5, 0, 0) L (ab_R a :: st) σ Q ↔ (ab_sh σ a).1 = 7 ∧ ab_Run X 97 67 (5, 0, 0) L (ab_I (ab_rd σ a 3) :: st) σ Q := gF_11_215 ko_X11_curve kc_X11_curve dX11_curve_64
theorem rX11_curve_67 : ab_Run X 97 67 (5, 0, 0) L (ab_I a :: st) σ Q ↔ ab_Run X 97 68 (5, 0, 0) L (ab_J a :: st) σ Q := ab_r_i2l kc_X11_curve dX11_curve_67
theorem rX11_curve_68 : ab_Run X 97 68 (5, 0, 0) [l0, l1, l2, l3, l4, ab_I z, l6] st σ Q ↔ ab_Run X 97 70 (5, 0, 0) [l0, l1, l2, l3, l4, ab_I z, l6] (ab_I z :: st) σ Q := ab_r_iload rfl kc_X11_curve dX11_curve_68
theorem rX11_curve_70 : ab_Run X 97 70 (5, 0, 0) L (ab_I x3 :: ab_J x2 :: ab_J x1 :: st) σ Q ↔ ab_cats st ≤ 8 ∧ ab_Do X 147 [ab_J x1, ab_J x2, ab_I x3] σ (fun r σ' => ab_Run X 97 73 (5, 0, 0) L (ab_psh r st) σ' Q) := ab_r_callS (w := [ab_I x3, ab_J x2, ab_J x1]) (as := [ab_J x1, ab_J x2, ab_I x3]) (b1 := (0, 0, 0)) (by decide) ko_X11_curve qM_11_218 (by decide) rfl rfl rfl rfl (by decide) (Nat.le_of_ble_eq_true rfl) kc_X11_curve dX11_curve_70
theorem rX11_curve_73 : ab_Run X 97 73 (5, 0, 0) L [ab_J v] σ Q ↔ Q (some (ab_J v)) σ := ab_r_lreturn rfl kc_X11_curve dX11_curve_73
theorem kc_X11_bestDay : ab_code 98 = cX11_bestDay := rfl
theorem ko_X11_bestDay : ab_ow 98 = 11 := rfl
theorem rX11_bestDay_0 : ab_Run X 98 0 (5, 0, 0) [ab_R z, l1, l2, l3, l4, l5, l6, l7] st σ Q ↔ z ≠ 0 ∧ ab_Run X 98 1 (5, 0, 0) [ab_R z, l1, l2, l3, l4, l5, l6, l7] (ab_R z :: st) σ Q := ab_r_aload_n rfl kc_X11_bestDay dX11_bestDay_0
theorem rX11_bestDay_1 : ab_Run X 98 1 (5, 0, 0) [ab_R z, l1, l2, l3, l4, l5, l6, l7] st σ Q ↔ z ≠ 0 ∧ ab_Run X 98 2 (5, 0, 0) [ab_R z, l1, l2, l3, l4, l5, l6, l7] (ab_R z :: st) σ Q := ab_r_aload_n rfl kc_X11_bestDay dX11_bestDay_1
theorem rX11_bestDay_2 : ab_Run X 98 2 (5, 0, 0) [l0, ab_I z, l2, l3, l4, l5, l6, l7] st σ Q ↔ ab_Run X 98 3 (5, 0, 0) [l0, ab_I z, l2, l3, l4, l5, l6, l7] (ab_I z :: st) σ Q := ab_r_iload_n rfl kc_X11_bestDay dX11_bestDay_2
theorem rX11_bestDay_3 : ab_Run X 98 3 (5, 0, 0) [l0, l1, ab_I z, l3, l4, l5, l6, l7] st σ Q ↔ ab_Run X 98 4 (5, 0, 0) [l0, l1, ab_I z, l3, l4, l5, l6, l7] (ab_I z :: st) σ Q := ab_r_iload_n rfl kc_X11_bestDay dX11_bestDay_3
theorem rX11_bestDay_4 : ab_Run X 98 4 (5, 0, 0) [l0, l1, l2, ab_I z, l4, l5, l6, l7] st σ Q ↔ ab_Run X 98 5 (5, 0, 0) [l0, l1, l2, ab_I z, l4, l5, l6, l7] (ab_I z :: st) σ Q := ab_r_iload_n rfl kc_X11_bestDay dX11_bestDay_4
theorem rX11_bestDay_5 : ab_Run X 98 5 (5, 0, 0) L (ab_I x3 :: ab_I x2 :: ab_I x1 :: ab_R a :: st) σ Q ↔ ((ab_sh σ a).1 = 12 ∧ ab_cats st ≤ 8) ∧ ab_Do X 133 [ab_R a, ab_I x1, ab_I x2, ab_I x3] σ (fun r σ' => ab_Run X 98 8 (5, 0, 0) L (ab_psh r st) σ' Q) := ab_r_callV (w := [ab_I x3, ab_I x2, ab_I x1]) (as := [ab_I x1, ab_I x2, ab_I x3]) (b1 := (2, 0, 0)) 0 (Or.inl rfl) (by decide) ko_X11_bestDay qM_11_222 (by decide) rfl rfl rfl rfl rfl (by decide) (Nat.le_of_ble_eq_true rfl) kc_X11_bestDay dX11_bestDay_5
theorem rX11_bestDay_8 : ab_Run X 98 8 (5, 0, 0) L (ab_I z :: ab_R a :: st) σ Q ↔ (ab_sh σ a).1 = 12 ∧ ab_Run X 98 11 (5, 0, 0) L st (ab_wr σ a 8 z) Q := sF_11_62 ko_X11_bestDay kc_X11_bestDay dX11_bestDay_8
theorem rX11_bestDay_11 : ab_Run X 98 11 (5, 0, 0) [ab_R z, l1, l2, l3, l4, l5, l6, l7] st σ Q ↔ z ≠ 0 ∧ ab_Run X 98 12 (5, 0, 0) [ab_R z, l1, l2, l3, l4, l5, l6, l7] (ab_R z :: st) σ Q := ab_r_aload_n rfl kc_X11_bestDay dX11_bestDay_11
theorem rX11_bestDay_12 : ab_Run X 98 12 (5, 0, 0) L (ab_R a :: st) σ Q ↔ (ab_sh σ a).1 = 12 ∧ ab_Run X 98 15 (5, 0, 0) L (ab_I (ab_rd σ a 8) :: st) σ Q := gF_11_62 ko_X11_bestDay kc_X11_bestDay dX11_bestDay_12
theorem rX11_bestDay_15 : ab_Run X 98 15 (5, 0, 0) L (ab_I a :: st) σ Q ↔ (a = 0 → ab_Run X 98 20 (5, 0, 0) L st σ Q) ∧ (¬ (a = 0) → ab_Run X 98 18 (5, 0, 0) L st σ Q) := ab_r_if_eq rfl kc_X11_bestDay dX11_bestDay_15
theorem rX11_bestDay_18 : ab_Run X 98 18 (5, 0, 0) L st σ Q ↔ ab_Run X 98 19 (5, 0, 0) L (ab_I (-1) :: st) σ Q := ab_r_iconst (by decide) kc_X11_bestDay dX11_bestDay_18
theorem rX11_bestDay_19 : ab_Run X 98 19 (5, 0, 0) L [ab_I v] σ Q ↔ Q (some (ab_I v)) σ := ab_r_ireturnI rfl kc_X11_bestDay dX11_bestDay_19
theorem rX11_bestDay_20 : ab_Run X 98 20 (5, 0, 0) L st σ Q ↔ ab_Run X 98 21 (5, 0, 0) L (ab_I 0 :: st) σ Q := ab_r_iconst (by decide) kc_X11_bestDay dX11_bestDay_20
theorem rX11_bestDay_21 : ab_Run X 98 21 (5, 0, 0) [l0, l1, l2, l3, l4, l5, l6, l7] (ab_I z :: st) σ Q ↔ (!ab_isJ l3) = true ∧ ab_Run X 98 23 (5, 0, 0) [l0, l1, l2, l3, ab_I z, l5, l6, l7] st σ Q := ab_r_istore (Nat.le_of_ble_eq_true rfl) kc_X11_bestDay dX11_bestDay_21
theorem rX11_bestDay_23 : ab_Run X 98 23 (5, 0, 0) L st σ Q ↔ ab_Run X 98 24 (5, 0, 0) L (ab_I (-1) :: st) σ Q := ab_r_iconst (by decide) kc_X11_bestDay dX11_bestDay_23
theorem rX11_bestDay_24 : ab_Run X 98 24 (5, 0, 0) [l0, l1, l2, l3, l4, l5, l6, l7] (ab_I z :: st) σ Q ↔ (!ab_isJ l4) = true ∧ ab_Run X 98 26 (5, 0, 0) [l0, l1, l2, l3, l4, ab_I z, l6, l7] st σ Q := ab_r_istore (Nat.le_of_ble_eq_true rfl) kc_X11_bestDay dX11_bestDay_24
theorem rX11_bestDay_26 : ab_Run X 98 26 (5, 0, 0) L st σ Q ↔ ab_Run X 98 27 (5, 0, 0) L (ab_I 0 :: st) σ Q := ab_r_iconst (by decide) kc_X11_bestDay dX11_bestDay_26
theorem rX11_bestDay_27 : ab_Run X 98 27 (5, 0, 0) [l0, l1, l2, l3, l4, l5, l6, l7] (ab_I z :: st) σ Q ↔ (!ab_isJ l5) = true ∧ ab_Run X 98 29 (5, 0, 0) [l0, l1, l2, l3, l4, l5, ab_I z, l7] st σ Q := ab_r_istore (Nat.le_of_ble_eq_true rfl) kc_X11_bestDay dX11_bestDay_27
theorem rX11_bestDay_29 : ab_Run X 98 29 (5, 0, 0) [l0, l1, l2, l3, l4, l5, ab_I z, l7] st σ Q ↔ ab_Run X 98 31 (5, 0, 0) [l0, l1, l2, l3, l4, l5, ab_I z, l7] (ab_I z :: st) σ Q := ab_r_iload rfl kc_X11_bestDay dX11_bestDay_29
theorem rX11_bestDay_31 : ab_Run X 98 31 (5, 0, 0) L st σ Q ↔ ab_Run X 98 33 (5, 0, 0) L (ab_I 24 :: st) σ Q := ab_r_bipush (by decide) kc_X11_bestDay dX11_bestDay_31
theorem rX11_bestDay_33 : ab_Run X 98 33 (5, 0, 0) L (ab_I b :: ab_I a :: st) σ Q ↔ (b < a → ab_Run X 98 68 (5, 0, 0) L st σ Q) ∧ (¬ (b < a) → ab_Run X 98 36 (5, 0, 0) L st σ Q) := ab_r_icmp_gt rfl kc_X11_bestDay dX11_bestDay_33
theorem rX11_bestDay_36 : ab_Run X 98 36 (5, 0, 0) [ab_R z, l1, l2, l3, l4, l5, l6, l7] st σ Q ↔ z ≠ 0 ∧ ab_Run X 98 37 (5, 0, 0) [ab_R z, l1, l2, l3, l4, l5, l6, l7] (ab_R z :: st) σ Q := ab_r_aload_n rfl kc_X11_bestDay dX11_bestDay_36
theorem rX11_bestDay_37 : ab_Run X 98 37 (5, 0, 0) [l0, ab_I z, l2, l3, l4, l5, l6, l7] st σ Q ↔ ab_Run X 98 38 (5, 0, 0) [l0, ab_I z, l2, l3, l4, l5, l6, l7] (ab_I z :: st) σ Q := ab_r_iload_n rfl kc_X11_bestDay dX11_bestDay_37
theorem rX11_bestDay_38 : ab_Run X 98 38 (5, 0, 0) [l0, l1, ab_I z, l3, l4, l5, l6, l7] st σ Q ↔ ab_Run X 98 39 (5, 0, 0) [l0, l1, ab_I z, l3, l4, l5, l6, l7] (ab_I z :: st) σ Q := ab_r_iload_n rfl kc_X11_bestDay dX11_bestDay_38
theorem rX11_bestDay_39 : ab_Run X 98 39 (5, 0, 0) [l0, l1, l2, ab_I z, l4, l5, l6, l7] st σ Q ↔ ab_Run X 98 40 (5, 0, 0) [l0, l1, l2, ab_I z, l4, l5, l6, l7] (ab_I z :: st) σ Q := ab_r_iload_n rfl kc_X11_bestDay dX11_bestDay_39
theorem rX11_bestDay_40 : ab_Run X 98 40 (5, 0, 0) [l0, l1, l2, l3, l4, l5, ab_I z, l7] st σ Q ↔ ab_Run X 98 42 (5, 0, 0) [l0, l1, l2, l3, l4, l5, ab_I z, l7] (ab_I z :: st) σ Q := ab_r_iload rfl kc_X11_bestDay dX11_bestDay_40
theorem rX11_bestDay_42 : ab_Run X 98 42 (5, 0, 0) L (ab_I x4 :: ab_I x3 :: ab_I x2 :: ab_I x1 :: ab_R a :: st) σ Q ↔ ((ab_sh σ a).1 = 12 ∧ ab_cats st ≤ 8) ∧ ab_Do X 142 [ab_R a, ab_I x1, ab_I x2, ab_I x3, ab_I x4] σ (fun r σ' => ab_Run X 98 45 (5, 0, 0) L (ab_psh r st) σ' Q) := ab_r_callV (w := [ab_I x4, ab_I x3, ab_I x2, ab_I x1]) (as := [ab_I x1, ab_I x2, ab_I x3, ab_I x4]) (b1 := (4, 0, 0)) 0 (Or.inl rfl) (by decide) ko_X11_bestDay qM_11_250 (by decide) rfl rfl rfl rfl rfl (by decide) (Nat.le_of_ble_eq_true rfl) kc_X11_bestDay dX11_bestDay_42
theorem rX11_bestDay_45 : ab_Run X 98 45 (5, 0, 0) [l0, l1, l2, l3, l4, l5, l6, l7] (ab_I z :: st) σ Q ↔ (!ab_isJ l6) = true ∧ ab_Run X 98 47 (5, 0, 0) [l0, l1, l2, l3, l4, l5, l6, ab_I z] st σ Q := ab_r_istore (Nat.le_of_ble_eq_true rfl) kc_X11_bestDay dX11_bestDay_45
theorem rX11_bestDay_47 : ab_Run X 98 47 (5, 0, 0) [l0, l1, l2, l3, l4, l5, l6, ab_I z] st σ Q ↔ ab_Run X 98 49 (5, 0, 0) [l0, l1, l2, l3, l4, l5, l6, ab_I z] (ab_I z :: st) σ Q := ab_r_iload rfl kc_X11_bestDay dX11_bestDay_47
theorem rX11_bestDay_49 : ab_Run X 98 49 (5, 0, 0) [l0, l1, l2, l3, l4, ab_I z, l6, l7] st σ Q ↔ ab_Run X 98 51 (5, 0, 0) [l0, l1, l2, l3, l4, ab_I z, l6, l7] (ab_I z :: st) σ Q := ab_r_iload rfl kc_X11_bestDay dX11_bestDay_49
theorem rX11_bestDay_51 : ab_Run X 98 51 (5, 0, 0) L (ab_I b :: ab_I a :: st) σ Q ↔ (a ≤ b → ab_Run X 98 62 (5, 0, 0) L st σ Q) ∧ (¬ (a ≤ b) → ab_Run X 98 54 (5, 0, 0) L st σ Q) := ab_r_icmp_le rfl kc_X11_bestDay dX11_bestDay_51
theorem rX11_bestDay_54 : ab_Run X 98 54 (5, 0, 0) [l0, l1, l2, l3, l4, l5, l6, ab_I z] st σ Q ↔ ab_Run X 98 56 (5, 0, 0) [l0, l1, l2, l3, l4, l5, l6, ab_I z] (ab_I z :: st) σ Q := ab_r_iload rfl kc_X11_bestDay dX11_bestDay_54
theorem rX11_bestDay_56 : ab_Run X 98 56 (5, 0, 0) [l0, l1, l2, l3, l4, l5, l6, l7] (ab_I z :: st) σ Q ↔ (!ab_isJ l4) = true ∧ ab_Run X 98 58 (5, 0, 0) [l0, l1, l2, l3, l4, ab_I z, l6, l7] st σ Q := ab_r_istore (Nat.le_of_ble_eq_true rfl) kc_X11_bestDay dX11_bestDay_56
theorem rX11_bestDay_58 : ab_Run X 98 58 (5, 0, 0) [l0, l1, l2, l3, l4, l5, ab_I z, l7] st σ Q ↔ ab_Run X 98 60 (5, 0, 0) [l0, l1, l2, l3, l4, l5, ab_I z, l7] (ab_I z :: st) σ Q := ab_r_iload rfl kc_X11_bestDay dX11_bestDay_58
theorem rX11_bestDay_60 : ab_Run X 98 60 (5, 0, 0) [l0, l1, l2, l3, l4, l5, l6, l7] (ab_I z :: st) σ Q ↔ (!ab_isJ l3) = true ∧ ab_Run X 98 62 (5, 0, 0) [l0, l1, l2, l3, ab_I z, l5, l6, l7] st σ Q := ab_r_istore (Nat.le_of_ble_eq_true rfl) kc_X11_bestDay dX11_bestDay_60
theorem rX11_bestDay_62 : ab_Run X 98 62 (5, 0, 0) [l0, l1, l2, l3, l4, l5, ab_I z, l7] st σ Q ↔ (!ab_isJ l5) = true ∧ ab_Run X 98 65 (5, 0, 0) [l0, l1, l2, l3, l4, l5, ab_I (ab_w32 (z + 1)), l7] st σ Q := ab_r_iinc rfl (by decide) kc_X11_bestDay dX11_bestDay_62
theorem rX11_bestDay_65 : ab_Run X 98 65 (5, 0, 0) L st σ Q ↔ ab_Run X 98 29 (5, 0, 0) L st σ Q := ab_r_goto rfl kc_X11_bestDay dX11_bestDay_65
theorem rX11_bestDay_68 : ab_Run X 98 68 (5, 0, 0) [l0, l1, l2, l3, ab_I z, l5, l6, l7] st σ Q ↔ ab_Run X 98 70 (5, 0, 0) [l0, l1, l2, l3, ab_I z, l5, l6, l7] (ab_I z :: st) σ Q := ab_r_iload rfl kc_X11_bestDay dX11_bestDay_68
theorem rX11_bestDay_70 : ab_Run X 98 70 (5, 0, 0) L [ab_I v] σ Q ↔ Q (some (ab_I v)) σ := ab_r_ireturnI rfl kc_X11_bestDay dX11_bestDay_70
theorem kc_X11_lawOdds : ab_code 99 = cX11_lawOdds := rfl
theorem ko_X11_lawOdds : ab_ow 99 = 11 := rfl
theorem rX11_lawOdds_0 : ab_Run X 99 0 (5, 0, 0) [ab_R z, l1, l2, l3, l4, l5, l6] st σ Q ↔ z ≠ 0 ∧ ab_Run X 99 1 (5, 0, 0) [ab_R z, l1, l2, l3, l4, l5, l6] (ab_R z :: st) σ Q := ab_r_aload_n rfl kc_X11_lawOdds dX11_lawOdds_0
theorem rX11_lawOdds_1 : ab_Run X 99 1 (5, 0, 0) [l0, ab_I z, l2, l3, l4, l5, l6] st σ Q ↔ ab_Run X 99 2 (5, 0, 0) [l0, ab_I z, l2, l3, l4, l5, l6] (ab_I z :: st) σ Q := ab_r_iload_n rfl kc_X11_lawOdds dX11_lawOdds_1
theorem rX11_lawOdds_2 : ab_Run X 99 2 (5, 0, 0) L (ab_I a :: st) σ Q ↔ (a < 0 → ab_Run X 99 21 (5, 0, 0) L st σ Q) ∧ (¬ (a < 0) → ab_Run X 99 5 (5, 0, 0) L st σ Q) := ab_r_if_lt rfl kc_X11_lawOdds dX11_lawOdds_2
theorem rX11_lawOdds_5 : ab_Run X 99 5 (5, 0, 0) [l0, ab_I z, l2, l3, l4, l5, l6] st σ Q ↔ ab_Run X 99 6 (5, 0, 0) [l0, ab_I z, l2, l3, l4, l5, l6] (ab_I z :: st) σ Q := ab_r_iload_n rfl kc_X11_lawOdds dX11_lawOdds_5
theorem rX11_lawOdds_6 : ab_Run X 99 6 (5, 0, 0) L st σ Q ↔ ab_Run X 99 7 (5, 0, 0) L (ab_I 3 :: st) σ Q := ab_r_iconst (by decide) kc_X11_lawOdds dX11_lawOdds_6
theorem rX11_lawOdds_7 : ab_Run X 99 7 (5, 0, 0) L (ab_I b :: ab_I a :: st) σ Q ↔ (b < a → ab_Run X 99 21 (5, 0, 0) L st σ Q) ∧ (¬ (b < a) → ab_Run X 99 10 (5, 0, 0) L st σ Q) := ab_r_icmp_gt rfl kc_X11_lawOdds dX11_lawOdds_7
theorem rX11_lawOdds_10 : ab_Run X 99 10 (5, 0, 0) [ab_R z, l1, l2, l3, l4, l5, l6] st σ Q ↔ z ≠ 0 ∧ ab_Run X 99 11 (5, 0, 0) [ab_R z, l1, l2, l3, l4, l5, l6] (ab_R z :: st) σ Q := ab_r_aload_n rfl kc_X11_lawOdds dX11_lawOdds_10
theorem rX11_lawOdds_11 : ab_Run X 99 11 (5, 0, 0) [l0, l1, ab_I z, l3, l4, l5, l6] st σ Q ↔ ab_Run X 99 12 (5, 0, 0) [l0, l1, ab_I z, l3, l4, l5, l6] (ab_I z :: st) σ Q := ab_r_iload_n rfl kc_X11_lawOdds dX11_lawOdds_11
theorem rX11_lawOdds_12 : ab_Run X 99 12 (5, 0, 0) [l0, l1, l2, ab_I z, l4, l5, l6] st σ Q ↔ ab_Run X 99 13 (5, 0, 0) [l0, l1, l2, ab_I z, l4, l5, l6] (ab_I z :: st) σ Q := ab_r_iload_n rfl kc_X11_lawOdds dX11_lawOdds_12
theorem rX11_lawOdds_13 : ab_Run X 99 13 (5, 0, 0) [l0, l1, l2, l3, ab_I z, l5, l6] st σ Q ↔ ab_Run X 99 15 (5, 0, 0) [l0, l1, l2, l3, ab_I z, l5, l6] (ab_I z :: st) σ Q := ab_r_iload rfl kc_X11_lawOdds dX11_lawOdds_13
theorem rX11_lawOdds_15 : ab_Run X 99 15 (5, 0, 0) L (ab_I x3 :: ab_I x2 :: ab_I x1 :: ab_R a :: st) σ Q ↔ ((ab_sh σ a).1 = 12 ∧ ab_cats st ≤ 8) ∧ ab_Do X 133 [ab_R a, ab_I x1, ab_I x2, ab_I x3] σ (fun r σ' => ab_Run X 99 18 (5, 0, 0) L (ab_psh r st) σ' Q) := ab_r_callV (w := [ab_I x3, ab_I x2, ab_I x1]) (as := [ab_I x1, ab_I x2, ab_I x3]) (b1 := (2, 0, 0)) 0 (Or.inl rfl) (by decide) ko_X11_lawOdds qM_11_222 (by decide) rfl rfl rfl rfl rfl (by decide) (Nat.le_of_ble_eq_true rfl) kc_X11_lawOdds dX11_lawOdds_15
theorem rX11_lawOdds_18 : ab_Run X 99 18 (5, 0, 0) L st σ Q ↔ ab_Run X 99 22 (5, 0, 0) L st σ Q := ab_r_goto rfl kc_X11_lawOdds dX11_lawOdds_18
theorem rX11_lawOdds_21 : ab_Run X 99 21 (5, 0, 0) L st σ Q ↔ ab_Run X 99 22 (5, 0, 0) L (ab_I 1 :: st) σ Q := ab_r_iconst (by decide) kc_X11_lawOdds dX11_lawOdds_21
theorem rX11_lawOdds_22 : ab_Run X 99 22 (5, 0, 0) L (ab_I z :: ab_R a :: st) σ Q ↔ (ab_sh σ a).1 = 12 ∧ ab_Run X 99 25 (5, 0, 0) L st (ab_wr σ a 8 z) Q := sF_11_62 ko_X11_lawOdds kc_X11_lawOdds dX11_lawOdds_22
theorem rX11_lawOdds_25 : ab_Run X 99 25 (5, 0, 0) [ab_R z, l1, l2, l3, l4, l5, l6] st σ Q ↔ z ≠ 0 ∧ ab_Run X 99 26 (5, 0, 0) [ab_R z, l1, l2, l3, l4, l5, l6] (ab_R z :: st) σ Q := ab_r_aload_n rfl kc_X11_lawOdds dX11_lawOdds_25
theorem rX11_lawOdds_26 : ab_Run X 99 26 (5, 0, 0) L (ab_R a :: st) σ Q ↔ (ab_sh σ a).1 = 12 ∧ ab_Run X 99 29 (5, 0, 0) L (ab_I (ab_rd σ a 8) :: st) σ Q := gF_11_62 ko_X11_lawOdds kc_X11_lawOdds dX11_lawOdds_26
theorem rX11_lawOdds_29 : ab_Run X 99 29 (5, 0, 0) L (ab_I a :: st) σ Q ↔ (a = 0 → ab_Run X 99 36 (5, 0, 0) L st σ Q) ∧ (¬ (a = 0) → ab_Run X 99 32 (5, 0, 0) L st σ Q) := ab_r_if_eq rfl kc_X11_lawOdds dX11_lawOdds_29
theorem rX11_lawOdds_32 : ab_Run X 99 32 (5, 0, 0) L st σ Q ↔ ab_Run X 99 35 (5, 0, 0) L (ab_J (-1) :: st) σ Q := ab_r_ldc2_w rfl ko_X11_lawOdds (by decide +kernel) kc_X11_lawOdds dX11_lawOdds_32
theorem rX11_lawOdds_35 : ab_Run X 99 35 (5, 0, 0) L [ab_J v] σ Q ↔ Q (some (ab_J v)) σ := ab_r_lreturn rfl kc_X11_lawOdds dX11_lawOdds_35
theorem rX11_lawOdds_36 : ab_Run X 99 36 (5, 0, 0) [ab_R z, l1, l2, l3, l4, l5, l6] st σ Q ↔ z ≠ 0 ∧ ab_Run X 99 37 (5, 0, 0) [ab_R z, l1, l2, l3, l4, l5, l6] (ab_R z :: st) σ Q := ab_r_aload_n rfl kc_X11_lawOdds dX11_lawOdds_36
theorem rX11_lawOdds_37 : ab_Run X 99 37 (5, 0, 0) [l0, ab_I z, l2, l3, l4, l5, l6] st σ Q ↔ ab_Run X 99 38 (5, 0, 0) [l0, ab_I z, l2, l3, l4, l5, l6] (ab_I z :: st) σ Q := ab_r_iload_n rfl kc_X11_lawOdds dX11_lawOdds_37
theorem rX11_lawOdds_38 : ab_Run X 99 38 (5, 0, 0) [l0, l1, ab_I z, l3, l4, l5, l6] st σ Q ↔ ab_Run X 99 39 (5, 0, 0) [l0, l1, ab_I z, l3, l4, l5, l6] (ab_I z :: st) σ Q := ab_r_iload_n rfl kc_X11_lawOdds dX11_lawOdds_38
theorem rX11_lawOdds_39 : ab_Run X 99 39 (5, 0, 0) [l0, l1, l2, ab_I z, l4, l5, l6] st σ Q ↔ ab_Run X 99 40 (5, 0, 0) [l0, l1, l2, ab_I z, l4, l5, l6] (ab_I z :: st) σ Q := ab_r_iload_n rfl kc_X11_lawOdds dX11_lawOdds_39
theorem rX11_lawOdds_40 : ab_Run X 99 40 (5, 0, 0) [l0, l1, l2, l3, ab_I z, l5, l6] st σ Q ↔ ab_Run X 99 42 (5, 0, 0) [l0, l1, l2, l3, ab_I z, l5, l6] (ab_I z :: st) σ Q := ab_r_iload rfl kc_X11_lawOdds dX11_lawOdds_40
theorem rX11_lawOdds_42 : ab_Run X 99 42 (5, 0, 0) L (ab_I x4 :: ab_I x3 :: ab_I x2 :: ab_I x1 :: ab_R a :: st) σ Q ↔ ((ab_sh σ a).1 = 12 ∧ ab_cats st ≤ 8) ∧ ab_Do X 143 [ab_R a, ab_I x1, ab_I x2, ab_I x3, ab_I x4] σ (fun r σ' => ab_Run X 99 45 (5, 0, 0) L (ab_psh r st) σ' Q) := ab_r_callV (w := [ab_I x4, ab_I x3, ab_I x2, ab_I x1]) (as := [ab_I x1, ab_I x2, ab_I x3, ab_I x4]) (b1 := (4, 0, 0)) 0 (Or.inl rfl) (by decide) ko_X11_lawOdds qM_11_254 (by decide) rfl rfl rfl rfl rfl (by decide) (Nat.le_of_ble_eq_true rfl) kc_X11_lawOdds dX11_lawOdds_42
theorem rX11_lawOdds_45 : ab_Run X 99 45 (5, 0, 0) [l0, l1, l2, l3, l4, l5, l6] (ab_I z :: st) σ Q ↔ (!ab_isJ l5) = true ∧ ab_Run X 99 47 (5, 0, 0) [l0, l1, l2, l3, l4, l5, ab_I z] st σ Q := ab_r_istore (Nat.le_of_ble_eq_true rfl) kc_X11_lawOdds dX11_lawOdds_45
theorem rX11_lawOdds_47 : ab_Run X 99 47 (5, 0, 0) [l0, l1, l2, l3, l4, l5, ab_I z] st σ Q ↔ ab_Run X 99 49 (5, 0, 0) [l0, l1, l2, l3, l4, l5, ab_I z] (ab_I z :: st) σ Q := ab_r_iload rfl kc_X11_lawOdds dX11_lawOdds_47
theorem rX11_lawOdds_49 : ab_Run X 99 49 (5, 0, 0) L (ab_I a :: st) σ Q ↔ ab_Run X 99 50 (5, 0, 0) L (ab_J a :: st) σ Q := ab_r_i2l kc_X11_lawOdds dX11_lawOdds_49
theorem rX11_lawOdds_50 : ab_Run X 99 50 (5, 0, 0) L st σ Q ↔ ab_Run X 99 53 (5, 0, 0) L (ab_J 2 :: st) σ Q := ab_r_ldc2_w rfl ko_X11_lawOdds (by decide +kernel) kc_X11_lawOdds dX11_lawOdds_50
theorem rX11_lawOdds_53 : ab_Run X 99 53 (5, 0, 0) [ab_R z, l1, l2, l3, l4, l5, l6] st σ Q ↔ z ≠ 0 ∧ ab_Run X 99 54 (5, 0, 0) [ab_R z, l1, l2, l3, l4, l5, l6] (ab_R z :: st) σ Q := ab_r_aload_n rfl kc_X11_lawOdds dX11_lawOdds_53
theorem rX11_lawOdds_54 : ab_Run X 99 54 (5, 0, 0) L (ab_R a :: st) σ Q ↔ (ab_sh σ a).1 = 12 ∧ ab_Run X 99 57 (5, 0, 0) L (ab_R (ab_rd σ a 3) :: st) σ Q := gF_11_33 ko_X11_lawOdds kc_X11_lawOdds dX11_lawOdds_54
theorem rX11_lawOdds_57 : ab_Run X 99 57 (5, 0, 0) L (ab_R a :: st) σ Q ↔ (ab_sh σ a).1 = 7 ∧ ab_Run X 99 60 (5, 0, 0) L (ab_I (ab_rd σ a 3) :: st) σ Q := gF_11_215 ko_X11_lawOdds kc_X11_lawOdds dX11_lawOdds_57
theorem rX11_lawOdds_60 : ab_Run X 99 60 (5, 0, 0) L (ab_I a :: st) σ Q ↔ ab_Run X 99 61 (5, 0, 0) L (ab_J a :: st) σ Q := ab_r_i2l kc_X11_lawOdds dX11_lawOdds_60
theorem rX11_lawOdds_61 : ab_Run X 99 61 (5, 0, 0) L (ab_J b :: ab_J a :: st) σ Q ↔ ab_Run X 99 62 (5, 0, 0) L (ab_J (ab_w64 (a * b)) :: st) σ Q := ab_r_lmul kc_X11_lawOdds dX11_lawOdds_61
theorem rX11_lawOdds_62 : ab_Run X 99 62 (5, 0, 0) [l0, l1, l2, l3, l4, ab_I z, l6] st σ Q ↔ ab_Run X 99 64 (5, 0, 0) [l0, l1, l2, l3, l4, ab_I z, l6] (ab_I z :: st) σ Q := ab_r_iload rfl kc_X11_lawOdds dX11_lawOdds_62
theorem rX11_lawOdds_64 : ab_Run X 99 64 (5, 0, 0) L (ab_I x3 :: ab_J x2 :: ab_J x1 :: st) σ Q ↔ ab_cats st ≤ 8 ∧ ab_Do X 147 [ab_J x1, ab_J x2, ab_I x3] σ (fun r σ' => ab_Run X 99 67 (5, 0, 0) L (ab_psh r st) σ' Q) := ab_r_callS (w := [ab_I x3, ab_J x2, ab_J x1]) (as := [ab_J x1, ab_J x2, ab_I x3]) (b1 := (0, 0, 0)) (by decide) ko_X11_lawOdds qM_11_218 (by decide) rfl rfl rfl rfl (by decide) (Nat.le_of_ble_eq_true rfl) kc_X11_lawOdds dX11_lawOdds_64
theorem rX11_lawOdds_67 : ab_Run X 99 67 (5, 0, 0) L [ab_J v] σ Q ↔ Q (some (ab_J v)) σ := ab_r_lreturn rfl kc_X11_lawOdds dX11_lawOdds_67
theorem kc_X11_fairest : ab_code 100 = cX11_fairest := rfl
theorem ko_X11_fairest : ab_ow 100 = 11 := rfl
theorem rX11_fairest_0 : ab_Run X 100 0 (5, 0, 0) [ab_R z, l1, l2, l3, l4, l5, l6, l7] st σ Q ↔ z ≠ 0 ∧ ab_Run X 100 1 (5, 0, 0) [ab_R z, l1, l2, l3, l4, l5, l6, l7] (ab_R z :: st) σ Q := ab_r_aload_n rfl kc_X11_fairest dX11_fairest_0
theorem rX11_fairest_1 : ab_Run X 100 1 (5, 0, 0) [ab_R z, l1, l2, l3, l4, l5, l6, l7] st σ Q ↔ z ≠ 0 ∧ ab_Run X 100 2 (5, 0, 0) [ab_R z, l1, l2, l3, l4, l5, l6, l7] (ab_R z :: st) σ Q := ab_r_aload_n rfl kc_X11_fairest dX11_fairest_1
theorem rX11_fairest_2 : ab_Run X 100 2 (5, 0, 0) [l0, ab_I z, l2, l3, l4, l5, l6, l7] st σ Q ↔ ab_Run X 100 3 (5, 0, 0) [l0, ab_I z, l2, l3, l4, l5, l6, l7] (ab_I z :: st) σ Q := ab_r_iload_n rfl kc_X11_fairest dX11_fairest_2
theorem rX11_fairest_3 : ab_Run X 100 3 (5, 0, 0) [l0, l1, ab_I z, l3, l4, l5, l6, l7] st σ Q ↔ ab_Run X 100 4 (5, 0, 0) [l0, l1, ab_I z, l3, l4, l5, l6, l7] (ab_I z :: st) σ Q := ab_r_iload_n rfl kc_X11_fairest dX11_fairest_3
theorem rX11_fairest_4 : ab_Run X 100 4 (5, 0, 0) [l0, l1, l2, ab_I z, l4, l5, l6, l7] st σ Q ↔ ab_Run X 100 5 (5, 0, 0) [l0, l1, l2, ab_I z, l4, l5, l6, l7] (ab_I z :: st) σ Q := ab_r_iload_n rfl kc_X11_fairest dX11_fairest_4
theorem rX11_fairest_5 : ab_Run X 100 5 (5, 0, 0) L (ab_I x3 :: ab_I x2 :: ab_I x1 :: ab_R a :: st) σ Q ↔ ((ab_sh σ a).1 = 12 ∧ ab_cats st ≤ 8) ∧ ab_Do X 133 [ab_R a, ab_I x1, ab_I x2, ab_I x3] σ (fun r σ' => ab_Run X 100 8 (5, 0, 0) L (ab_psh r st) σ' Q) := ab_r_callV (w := [ab_I x3, ab_I x2, ab_I x1]) (as := [ab_I x1, ab_I x2, ab_I x3]) (b1 := (2, 0, 0)) 0 (Or.inl rfl) (by decide) ko_X11_fairest qM_11_222 (by decide) rfl rfl rfl rfl rfl (by decide) (Nat.le_of_ble_eq_true rfl) kc_X11_fairest dX11_fairest_5
theorem rX11_fairest_8 : ab_Run X 100 8 (5, 0, 0) L (ab_I z :: ab_R a :: st) σ Q ↔ (ab_sh σ a).1 = 12 ∧ ab_Run X 100 11 (5, 0, 0) L st (ab_wr σ a 8 z) Q := sF_11_62 ko_X11_fairest kc_X11_fairest dX11_fairest_8
theorem rX11_fairest_11 : ab_Run X 100 11 (5, 0, 0) [ab_R z, l1, l2, l3, l4, l5, l6, l7] st σ Q ↔ z ≠ 0 ∧ ab_Run X 100 12 (5, 0, 0) [ab_R z, l1, l2, l3, l4, l5, l6, l7] (ab_R z :: st) σ Q := ab_r_aload_n rfl kc_X11_fairest dX11_fairest_11
theorem rX11_fairest_12 : ab_Run X 100 12 (5, 0, 0) L (ab_R a :: st) σ Q ↔ (ab_sh σ a).1 = 12 ∧ ab_Run X 100 15 (5, 0, 0) L (ab_I (ab_rd σ a 8) :: st) σ Q := gF_11_62 ko_X11_fairest kc_X11_fairest dX11_fairest_12
theorem rX11_fairest_15 : ab_Run X 100 15 (5, 0, 0) L (ab_I a :: st) σ Q ↔ (a = 0 → ab_Run X 100 20 (5, 0, 0) L st σ Q) ∧ (¬ (a = 0) → ab_Run X 100 18 (5, 0, 0) L st σ Q) := ab_r_if_eq rfl kc_X11_fairest dX11_fairest_15
theorem rX11_fairest_18 : ab_Run X 100 18 (5, 0, 0) L st σ Q ↔ ab_Run X 100 19 (5, 0, 0) L (ab_I (-1) :: st) σ Q := ab_r_iconst (by decide) kc_X11_fairest dX11_fairest_18
theorem rX11_fairest_19 : ab_Run X 100 19 (5, 0, 0) L [ab_I v] σ Q ↔ Q (some (ab_I v)) σ := ab_r_ireturnI rfl kc_X11_fairest dX11_fairest_19
theorem rX11_fairest_20 : ab_Run X 100 20 (5, 0, 0) L st σ Q ↔ ab_Run X 100 21 (5, 0, 0) L (ab_I 0 :: st) σ Q := ab_r_iconst (by decide) kc_X11_fairest dX11_fairest_20
theorem rX11_fairest_21 : ab_Run X 100 21 (5, 0, 0) [l0, l1, l2, l3, l4, l5, l6, l7] (ab_I z :: st) σ Q ↔ (!ab_isJ l3) = true ∧ ab_Run X 100 23 (5, 0, 0) [l0, l1, l2, l3, ab_I z, l5, l6, l7] st σ Q := ab_r_istore (Nat.le_of_ble_eq_true rfl) kc_X11_fairest dX11_fairest_21
theorem rX11_fairest_23 : ab_Run X 100 23 (5, 0, 0) L st σ Q ↔ ab_Run X 100 26 (5, 0, 0) L (ab_I 2147483647 :: st) σ Q := ab_r_ldc_w rfl ko_X11_fairest (by decide +kernel) kc_X11_fairest dX11_fairest_23
theorem rX11_fairest_26 : ab_Run X 100 26 (5, 0, 0) [l0, l1, l2, l3, l4, l5, l6, l7] (ab_I z :: st) σ Q ↔ (!ab_isJ l4) = true ∧ ab_Run X 100 28 (5, 0, 0) [l0, l1, l2, l3, l4, ab_I z, l6, l7] st σ Q := ab_r_istore (Nat.le_of_ble_eq_true rfl) kc_X11_fairest dX11_fairest_26
theorem rX11_fairest_28 : ab_Run X 100 28 (5, 0, 0) L st σ Q ↔ ab_Run X 100 29 (5, 0, 0) L (ab_I 0 :: st) σ Q := ab_r_iconst (by decide) kc_X11_fairest dX11_fairest_28
theorem rX11_fairest_29 : ab_Run X 100 29 (5, 0, 0) [l0, l1, l2, l3, l4, l5, l6, l7] (ab_I z :: st) σ Q ↔ (!ab_isJ l5) = true ∧ ab_Run X 100 31 (5, 0, 0) [l0, l1, l2, l3, l4, l5, ab_I z, l7] st σ Q := ab_r_istore (Nat.le_of_ble_eq_true rfl) kc_X11_fairest dX11_fairest_29
theorem rX11_fairest_31 : ab_Run X 100 31 (5, 0, 0) [l0, l1, l2, l3, l4, l5, ab_I z, l7] st σ Q ↔ ab_Run X 100 33 (5, 0, 0) [l0, l1, l2, l3, l4, l5, ab_I z, l7] (ab_I z :: st) σ Q := ab_r_iload rfl kc_X11_fairest dX11_fairest_31
theorem rX11_fairest_33 : ab_Run X 100 33 (5, 0, 0) L st σ Q ↔ ab_Run X 100 34 (5, 0, 0) L (ab_I 3 :: st) σ Q := ab_r_iconst (by decide) kc_X11_fairest dX11_fairest_33
theorem rX11_fairest_34 : ab_Run X 100 34 (5, 0, 0) L (ab_I b :: ab_I a :: st) σ Q ↔ (b < a → ab_Run X 100 80 (5, 0, 0) L st σ Q) ∧ (¬ (b < a) → ab_Run X 100 37 (5, 0, 0) L st σ Q) := ab_r_icmp_gt rfl kc_X11_fairest dX11_fairest_34
theorem rX11_fairest_37 : ab_Run X 100 37 (5, 0, 0) [ab_R z, l1, l2, l3, l4, l5, l6, l7] st σ Q ↔ z ≠ 0 ∧ ab_Run X 100 38 (5, 0, 0) [ab_R z, l1, l2, l3, l4, l5, l6, l7] (ab_R z :: st) σ Q := ab_r_aload_n rfl kc_X11_fairest dX11_fairest_37
theorem rX11_fairest_38 : ab_Run X 100 38 (5, 0, 0) [l0, l1, l2, l3, l4, l5, ab_I z, l7] st σ Q ↔ ab_Run X 100 40 (5, 0, 0) [l0, l1, l2, l3, l4, l5, ab_I z, l7] (ab_I z :: st) σ Q := ab_r_iload rfl kc_X11_fairest dX11_fairest_38
theorem rX11_fairest_40 : ab_Run X 100 40 (5, 0, 0) [l0, ab_I z, l2, l3, l4, l5, l6, l7] st σ Q ↔ ab_Run X 100 41 (5, 0, 0) [l0, ab_I z, l2, l3, l4, l5, l6, l7] (ab_I z :: st) σ Q := ab_r_iload_n rfl kc_X11_fairest dX11_fairest_40
theorem rX11_fairest_41 : ab_Run X 100 41 (5, 0, 0) [l0, l1, ab_I z, l3, l4, l5, l6, l7] st σ Q ↔ ab_Run X 100 42 (5, 0, 0) [l0, l1, ab_I z, l3, l4, l5, l6, l7] (ab_I z :: st) σ Q := ab_r_iload_n rfl kc_X11_fairest dX11_fairest_41
theorem rX11_fairest_42 : ab_Run X 100 42 (5, 0, 0) [l0, l1, l2, ab_I z, l4, l5, l6, l7] st σ Q ↔ ab_Run X 100 43 (5, 0, 0) [l0, l1, l2, ab_I z, l4, l5, l6, l7] (ab_I z :: st) σ Q := ab_r_iload_n rfl kc_X11_fairest dX11_fairest_42
theorem rX11_fairest_43 : ab_Run X 100 43 (5, 0, 0) L (ab_I x4 :: ab_I x3 :: ab_I x2 :: ab_I x1 :: ab_R a :: st) σ Q ↔ ((ab_sh σ a).1 = 12 ∧ ab_cats st ≤ 8) ∧ ab_Do X 143 [ab_R a, ab_I x1, ab_I x2, ab_I x3, ab_I x4] σ (fun r σ' => ab_Run X 100 46 (5, 0, 0) L (ab_psh r st) σ' Q) := ab_r_callV (w := [ab_I x4, ab_I x3, ab_I x2, ab_I x1]) (as := [ab_I x1, ab_I x2, ab_I x3, ab_I x4]) (b1 := (4, 0, 0)) 0 (Or.inl rfl) (by decide) ko_X11_fairest qM_11_254 (by decide) rfl rfl rfl rfl rfl (by decide) (Nat.le_of_ble_eq_true rfl) kc_X11_fairest dX11_fairest_43
theorem rX11_fairest_46 : ab_Run X 100 46 (5, 0, 0) [ab_R z, l1, l2, l3, l4, l5, l6, l7] st σ Q ↔ z ≠ 0 ∧ ab_Run X 100 47 (5, 0, 0) [ab_R z, l1, l2, l3, l4, l5, l6, l7] (ab_R z :: st) σ Q := ab_r_aload_n rfl kc_X11_fairest dX11_fairest_46
theorem rX11_fairest_47 : ab_Run X 100 47 (5, 0, 0) L (ab_R a :: st) σ Q ↔ (ab_sh σ a).1 = 12 ∧ ab_Run X 100 50 (5, 0, 0) L (ab_R (ab_rd σ a 3) :: st) σ Q := gF_11_33 ko_X11_fairest kc_X11_fairest dX11_fairest_47
theorem rX11_fairest_50 : ab_Run X 100 50 (5, 0, 0) L (ab_R a :: st) σ Q ↔ (ab_sh σ a).1 = 7 ∧ ab_Run X 100 53 (5, 0, 0) L (ab_I (ab_rd σ a 3) :: st) σ Q := gF_11_215 ko_X11_fairest kc_X11_fairest dX11_fairest_50
theorem rX11_fairest_53 : ab_Run X 100 53 (5, 0, 0) L (ab_I b :: ab_I a :: st) σ Q ↔ ab_Run X 100 54 (5, 0, 0) L (ab_I (ab_w32 (a - b)) :: st) σ Q := ab_r_isub kc_X11_fairest dX11_fairest_53
theorem rX11_fairest_54 : ab_Run X 100 54 (5, 0, 0) L (ab_I a :: st) σ Q ↔ ab_cats st ≤ 8 ∧ ab_Run X 100 57 (5, 0, 0) L (ab_I (if 0 ≤ a then a else ab_w32 (0 - a)) :: st) σ Q := ab_r_abs (by decide) ko_X11_fairest qM_11_262 (by decide) kc_X11_fairest dX11_fairest_54
theorem rX11_fairest_57 : ab_Run X 100 57 (5, 0, 0) [l0, l1, l2, l3, l4, l5, l6, l7] (ab_I z :: st) σ Q ↔ (!ab_isJ l6) = true ∧ ab_Run X 100 59 (5, 0, 0) [l0, l1, l2, l3, l4, l5, l6, ab_I z] st σ Q := ab_r_istore (Nat.le_of_ble_eq_true rfl) kc_X11_fairest dX11_fairest_57
theorem rX11_fairest_59 : ab_Run X 100 59 (5, 0, 0) [l0, l1, l2, l3, l4, l5, l6, ab_I z] st σ Q ↔ ab_Run X 100 61 (5, 0, 0) [l0, l1, l2, l3, l4, l5, l6, ab_I z] (ab_I z :: st) σ Q := ab_r_iload rfl kc_X11_fairest dX11_fairest_59
theorem rX11_fairest_61 : ab_Run X 100 61 (5, 0, 0) [l0, l1, l2, l3, l4, ab_I z, l6, l7] st σ Q ↔ ab_Run X 100 63 (5, 0, 0) [l0, l1, l2, l3, l4, ab_I z, l6, l7] (ab_I z :: st) σ Q := ab_r_iload rfl kc_X11_fairest dX11_fairest_61
theorem rX11_fairest_63 : ab_Run X 100 63 (5, 0, 0) L (ab_I b :: ab_I a :: st) σ Q ↔ (b ≤ a → ab_Run X 100 74 (5, 0, 0) L st σ Q) ∧ (¬ (b ≤ a) → ab_Run X 100 66 (5, 0, 0) L st σ Q) := ab_r_icmp_ge rfl kc_X11_fairest dX11_fairest_63
theorem rX11_fairest_66 : ab_Run X 100 66 (5, 0, 0) [l0, l1, l2, l3, l4, l5, l6, ab_I z] st σ Q ↔ ab_Run X 100 68 (5, 0, 0) [l0, l1, l2, l3, l4, l5, l6, ab_I z] (ab_I z :: st) σ Q := ab_r_iload rfl kc_X11_fairest dX11_fairest_66
theorem rX11_fairest_68 : ab_Run X 100 68 (5, 0, 0) [l0, l1, l2, l3, l4, l5, l6, l7] (ab_I z :: st) σ Q ↔ (!ab_isJ l4) = true ∧ ab_Run X 100 70 (5, 0, 0) [l0, l1, l2, l3, l4, ab_I z, l6, l7] st σ Q := ab_r_istore (Nat.le_of_ble_eq_true rfl) kc_X11_fairest dX11_fairest_68
theorem rX11_fairest_70 : ab_Run X 100 70 (5, 0, 0) [l0, l1, l2, l3, l4, l5, ab_I z, l7] st σ Q ↔ ab_Run X 100 72 (5, 0, 0) [l0, l1, l2, l3, l4, l5, ab_I z, l7] (ab_I z :: st) σ Q := ab_r_iload rfl kc_X11_fairest dX11_fairest_70
theorem rX11_fairest_72 : ab_Run X 100 72 (5, 0, 0) [l0, l1, l2, l3, l4, l5, l6, l7] (ab_I z :: st) σ Q ↔ (!ab_isJ l3) = true ∧ ab_Run X 100 74 (5, 0, 0) [l0, l1, l2, l3, ab_I z, l5, l6, l7] st σ Q := ab_r_istore (Nat.le_of_ble_eq_true rfl) kc_X11_fairest dX11_fairest_72
theorem rX11_fairest_74 : ab_Run X 100 74 (5, 0, 0) [l0, l1, l2, l3, l4, l5, ab_I z, l7] st σ Q ↔ (!ab_isJ l5) = true ∧ ab_Run X 100 77 (5, 0, 0) [l0, l1, l2, l3, l4, l5, ab_I (ab_w32 (z + 1)), l7] st σ Q := ab_r_iinc rfl (by decide) kc_X11_fairest dX11_fairest_74
theorem rX11_fairest_77 : ab_Run X 100 77 (5, 0, 0) L st σ Q ↔ ab_Run X 100 31 (5, 0, 0) L st σ Q := ab_r_goto rfl kc_X11_fairest dX11_fairest_77
theorem rX11_fairest_80 : ab_Run X 100 80 (5, 0, 0) [l0, l1, l2, l3, ab_I z, l5, l6, l7] st σ Q ↔ ab_Run X 100 82 (5, 0, 0) [l0, l1, l2, l3, ab_I z, l5, l6, l7] (ab_I z :: st) σ Q := ab_r_iload rfl kc_X11_fairest dX11_fairest_80
theorem rX11_fairest_82 : ab_Run X 100 82 (5, 0, 0) L [ab_I v] σ Q ↔ Q (some (ab_I v)) σ := ab_r_ireturnI rfl kc_X11_fairest dX11_fairest_82
theorem kc_X11_turnsOf : ab_code 101 = cX11_turnsOf := rfl
theorem ko_X11_turnsOf : ab_ow 101 = 11 := rfl
theorem rX11_turnsOf_0 : ab_Run X 101 0 (13, 0, 0) [ab_R z, l1] st σ Q ↔ z ≠ 0 ∧ ab_Run X 101 1 (13, 0, 0) [ab_R z, l1] (ab_R z :: st) σ Q := ab_r_aload_n rfl kc_X11_turnsOf dX11_turnsOf_0
theorem rX11_turnsOf_1 : ab_Run X 101 1 (13, 0, 0) [ab_R z, l1] st σ Q ↔ z ≠ 0 ∧ ab_Run X 101 2 (13, 0, 0) [ab_R z, l1] (ab_R z :: st) σ Q := ab_r_aload_n rfl kc_X11_turnsOf dX11_turnsOf_1
theorem rX11_turnsOf_2 : ab_Run X 101 2 (13, 0, 0) [l0, ab_I z] st σ Q ↔ ab_Run X 101 3 (13, 0, 0) [l0, ab_I z] (ab_I z :: st) σ Q := ab_r_iload_n rfl kc_X11_turnsOf dX11_turnsOf_2
theorem rX11_turnsOf_3 : ab_Run X 101 3 (13, 0, 0) L (ab_I x1 :: ab_R a :: st) σ Q ↔ ((ab_sh σ a).1 = 12 ∧ ab_cats st ≤ 8) ∧ ab_Do X 135 [ab_R a, ab_I x1] σ (fun r σ' => ab_Run X 101 6 (13, 0, 0) L (ab_psh r st) σ' Q) := ab_r_callV (w := [ab_I x1]) (as := [ab_I x1]) (b1 := (1, 0, 0)) 0 (Or.inl rfl) (by decide) ko_X11_turnsOf qM_11_267 (by decide) rfl rfl rfl rfl rfl (by decide) (Nat.le_of_ble_eq_true rfl) kc_X11_turnsOf dX11_turnsOf_3
theorem rX11_turnsOf_6 : ab_Run X 101 6 (13, 0, 0) L (ab_I z :: ab_R a :: st) σ Q ↔ (ab_sh σ a).1 = 12 ∧ ab_Run X 101 9 (13, 0, 0) L st (ab_wr σ a 8 z) Q := sF_11_62 ko_X11_turnsOf kc_X11_turnsOf dX11_turnsOf_6
theorem rX11_turnsOf_9 : ab_Run X 101 9 (13, 0, 0) [ab_R z, l1] st σ Q ↔ z ≠ 0 ∧ ab_Run X 101 10 (13, 0, 0) [ab_R z, l1] (ab_R z :: st) σ Q := ab_r_aload_n rfl kc_X11_turnsOf dX11_turnsOf_9
theorem rX11_turnsOf_10 : ab_Run X 101 10 (13, 0, 0) L (ab_R a :: st) σ Q ↔ (ab_sh σ a).1 = 12 ∧ ab_Run X 101 13 (13, 0, 0) L (ab_I (ab_rd σ a 8) :: st) σ Q := gF_11_62 ko_X11_turnsOf kc_X11_turnsOf dX11_turnsOf_10
theorem rX11_turnsOf_13 : ab_Run X 101 13 (13, 0, 0) L (ab_I a :: st) σ Q ↔ (a = 0 → ab_Run X 101 18 (13, 0, 0) L st σ Q) ∧ (¬ (a = 0) → ab_Run X 101 16 (13, 0, 0) L st σ Q) := ab_r_if_eq rfl kc_X11_turnsOf dX11_turnsOf_13
theorem rX11_turnsOf_16 : ab_Run X 101 16 (13, 0, 0) L st σ Q ↔ ab_Run X 101 17 (13, 0, 0) L (ab_I (-1) :: st) σ Q := ab_r_iconst (by decide) kc_X11_turnsOf dX11_turnsOf_16
theorem rX11_turnsOf_17 : ab_Run X 101 17 (13, 0, 0) L [ab_I v] σ Q ↔ Q (some (ab_I v)) σ := ab_r_ireturnI rfl kc_X11_turnsOf dX11_turnsOf_17
theorem rX11_turnsOf_18 : ab_Run X 101 18 (13, 0, 0) [ab_R z, l1] st σ Q ↔ z ≠ 0 ∧ ab_Run X 101 19 (13, 0, 0) [ab_R z, l1] (ab_R z :: st) σ Q := ab_r_aload_n rfl kc_X11_turnsOf dX11_turnsOf_18
theorem rX11_turnsOf_19 : ab_Run X 101 19 (13, 0, 0) L (ab_R a :: st) σ Q ↔ (ab_sh σ a).1 = 12 ∧ ab_Run X 101 22 (13, 0, 0) L (ab_R (ab_rd σ a 5) :: st) σ Q := gF_11_47 ko_X11_turnsOf kc_X11_turnsOf dX11_turnsOf_19
theorem rX11_turnsOf_22 : ab_Run X 101 22 (13, 0, 0) [ab_R z, l1] st σ Q ↔ z ≠ 0 ∧ ab_Run X 101 23 (13, 0, 0) [ab_R z, l1] (ab_R z :: st) σ Q := ab_r_aload_n rfl kc_X11_turnsOf dX11_turnsOf_22
theorem rX11_turnsOf_23 : ab_Run X 101 23 (13, 0, 0) L (ab_R a :: st) σ Q ↔ (ab_sh σ a).1 = 12 ∧ ab_Run X 101 26 (13, 0, 0) L (ab_R (ab_rd σ a 7) :: st) σ Q := gF_11_58 ko_X11_turnsOf kc_X11_turnsOf dX11_turnsOf_23
theorem rX11_turnsOf_26 : ab_Run X 101 26 (13, 0, 0) L (ab_R a :: st) σ Q ↔ (ab_sh σ a).1 = 5 ∧ ab_Run X 101 29 (13, 0, 0) L (ab_I (ab_rd σ a 7) :: st) σ Q := gF_11_270 ko_X11_turnsOf kc_X11_turnsOf dX11_turnsOf_26
theorem rX11_turnsOf_29 : ab_Run X 101 29 (13, 0, 0) [l0, ab_I z] st σ Q ↔ ab_Run X 101 30 (13, 0, 0) [l0, ab_I z] (ab_I z :: st) σ Q := ab_r_iload_n rfl kc_X11_turnsOf dX11_turnsOf_29
theorem rX11_turnsOf_30 : ab_Run X 101 30 (13, 0, 0) L (ab_I x2 :: ab_I x1 :: ab_R a :: st) σ Q ↔ ((ab_sh σ a).1 = 11 ∧ ab_cats st ≤ 8) ∧ ab_Do X 75 [ab_R a, ab_I x1, ab_I x2] σ (fun r σ' => ab_Run X 101 33 (13, 0, 0) L (ab_psh r st) σ' Q) := ab_r_callV (w := [ab_I x2, ab_I x1]) (as := [ab_I x1, ab_I x2]) (b1 := (12, 0, 0)) 0 (Or.inl rfl) (by decide) ko_X11_turnsOf qM_11_273 (by decide) rfl rfl rfl rfl rfl (by decide) (Nat.le_of_ble_eq_true rfl) kc_X11_turnsOf dX11_turnsOf_30
theorem rX11_turnsOf_33 : ab_Run X 101 33 (13, 0, 0) L (ab_I a :: st) σ Q ↔ (a = 0 → ab_Run X 101 40 (13, 0, 0) L st σ Q) ∧ (¬ (a = 0) → ab_Run X 101 36 (13, 0, 0) L st σ Q) := ab_r_if_eq rfl kc_X11_turnsOf dX11_turnsOf_33
theorem rX11_turnsOf_36 : ab_Run X 101 36 (13, 0, 0) L st σ Q ↔ ab_Run X 101 37 (13, 0, 0) L (ab_I 1 :: st) σ Q := ab_r_iconst (by decide) kc_X11_turnsOf dX11_turnsOf_36
theorem rX11_turnsOf_37 : ab_Run X 101 37 (13, 0, 0) L st σ Q ↔ ab_Run X 101 41 (13, 0, 0) L st σ Q := ab_r_goto rfl kc_X11_turnsOf dX11_turnsOf_37
theorem rX11_turnsOf_40 : ab_Run X 101 40 (13, 0, 0) L st σ Q ↔ ab_Run X 101 41 (13, 0, 0) L (ab_I 0 :: st) σ Q := ab_r_iconst (by decide) kc_X11_turnsOf dX11_turnsOf_40
theorem rX11_turnsOf_41 : ab_Run X 101 41 (13, 0, 0) L [ab_I v] σ Q ↔ Q (some (ab_I v)) σ := ab_r_ireturnI rfl kc_X11_turnsOf dX11_turnsOf_41
theorem kc_X11_turnAt : ab_code 102 = cX11_turnAt := rfl
theorem ko_X11_turnAt : ab_ow 102 = 11 := rfl
theorem rX11_turnAt_0 : ab_Run X 102 0 (13, 0, 0) [ab_R z, l1, l2] st σ Q ↔ z ≠ 0 ∧ ab_Run X 102 1 (13, 0, 0) [ab_R z, l1, l2] (ab_R z :: st) σ Q := ab_r_aload_n rfl kc_X11_turnAt dX11_turnAt_0
theorem rX11_turnAt_1 : ab_Run X 102 1 (13, 0, 0) [ab_R z, l1, l2] st σ Q ↔ z ≠ 0 ∧ ab_Run X 102 2 (13, 0, 0) [ab_R z, l1, l2] (ab_R z :: st) σ Q := ab_r_aload_n rfl kc_X11_turnAt dX11_turnAt_1
theorem rX11_turnAt_2 : ab_Run X 102 2 (13, 0, 0) [l0, ab_I z, l2] st σ Q ↔ ab_Run X 102 3 (13, 0, 0) [l0, ab_I z, l2] (ab_I z :: st) σ Q := ab_r_iload_n rfl kc_X11_turnAt dX11_turnAt_2
theorem rX11_turnAt_3 : ab_Run X 102 3 (13, 0, 0) L (ab_I x1 :: ab_R a :: st) σ Q ↔ ((ab_sh σ a).1 = 12 ∧ ab_cats st ≤ 8) ∧ ab_Do X 135 [ab_R a, ab_I x1] σ (fun r σ' => ab_Run X 102 6 (13, 0, 0) L (ab_psh r st) σ' Q) := ab_r_callV (w := [ab_I x1]) (as := [ab_I x1]) (b1 := (1, 0, 0)) 0 (Or.inl rfl) (by decide) ko_X11_turnAt qM_11_267 (by decide) rfl rfl rfl rfl rfl (by decide) (Nat.le_of_ble_eq_true rfl) kc_X11_turnAt dX11_turnAt_3
theorem rX11_turnAt_6 : ab_Run X 102 6 (13, 0, 0) L (ab_I z :: ab_R a :: st) σ Q ↔ (ab_sh σ a).1 = 12 ∧ ab_Run X 102 9 (13, 0, 0) L st (ab_wr σ a 8 z) Q := sF_11_62 ko_X11_turnAt kc_X11_turnAt dX11_turnAt_6
theorem rX11_turnAt_9 : ab_Run X 102 9 (13, 0, 0) [ab_R z, l1, l2] st σ Q ↔ z ≠ 0 ∧ ab_Run X 102 10 (13, 0, 0) [ab_R z, l1, l2] (ab_R z :: st) σ Q := ab_r_aload_n rfl kc_X11_turnAt dX11_turnAt_9
theorem rX11_turnAt_10 : ab_Run X 102 10 (13, 0, 0) L (ab_R a :: st) σ Q ↔ (ab_sh σ a).1 = 12 ∧ ab_Run X 102 13 (13, 0, 0) L (ab_I (ab_rd σ a 8) :: st) σ Q := gF_11_62 ko_X11_turnAt kc_X11_turnAt dX11_turnAt_10
theorem rX11_turnAt_13 : ab_Run X 102 13 (13, 0, 0) L (ab_I a :: st) σ Q ↔ (¬ a = 0 → ab_Run X 102 30 (13, 0, 0) L st σ Q) ∧ (¬ (¬ a = 0) → ab_Run X 102 16 (13, 0, 0) L st σ Q) := ab_r_if_ne rfl kc_X11_turnAt dX11_turnAt_13
theorem rX11_turnAt_16 : ab_Run X 102 16 (13, 0, 0) [l0, l1, ab_I z] st σ Q ↔ ab_Run X 102 17 (13, 0, 0) [l0, l1, ab_I z] (ab_I z :: st) σ Q := ab_r_iload_n rfl kc_X11_turnAt dX11_turnAt_16
theorem rX11_turnAt_17 : ab_Run X 102 17 (13, 0, 0) L (ab_I a :: st) σ Q ↔ (a < 0 → ab_Run X 102 25 (13, 0, 0) L st σ Q) ∧ (¬ (a < 0) → ab_Run X 102 20 (13, 0, 0) L st σ Q) := ab_r_if_lt rfl kc_X11_turnAt dX11_turnAt_17
theorem rX11_turnAt_20 : ab_Run X 102 20 (13, 0, 0) [l0, l1, ab_I z] st σ Q ↔ ab_Run X 102 21 (13, 0, 0) [l0, l1, ab_I z] (ab_I z :: st) σ Q := ab_r_iload_n rfl kc_X11_turnAt dX11_turnAt_20
theorem rX11_turnAt_21 : ab_Run X 102 21 (13, 0, 0) [l0, ab_I z, l2] st σ Q ↔ ab_Run X 102 22 (13, 0, 0) [l0, ab_I z, l2] (ab_I z :: st) σ Q := ab_r_iload_n rfl kc_X11_turnAt dX11_turnAt_21
theorem rX11_turnAt_22 : ab_Run X 102 22 (13, 0, 0) L (ab_I b :: ab_I a :: st) σ Q ↔ (a < b → ab_Run X 102 30 (13, 0, 0) L st σ Q) ∧ (¬ (a < b) → ab_Run X 102 25 (13, 0, 0) L st σ Q) := ab_r_icmp_lt rfl kc_X11_turnAt dX11_turnAt_22
theorem rX11_turnAt_25 : ab_Run X 102 25 (13, 0, 0) [ab_R z, l1, l2] st σ Q ↔ z ≠ 0 ∧ ab_Run X 102 26 (13, 0, 0) [ab_R z, l1, l2] (ab_R z :: st) σ Q := ab_r_aload_n rfl kc_X11_turnAt dX11_turnAt_25
theorem rX11_turnAt_26 : ab_Run X 102 26 (13, 0, 0) L st σ Q ↔ ab_Run X 102 27 (13, 0, 0) L (ab_I 1 :: st) σ Q := ab_r_iconst (by decide) kc_X11_turnAt dX11_turnAt_26
theorem rX11_turnAt_27 : ab_Run X 102 27 (13, 0, 0) L (ab_I z :: ab_R a :: st) σ Q ↔ (ab_sh σ a).1 = 12 ∧ ab_Run X 102 30 (13, 0, 0) L st (ab_wr σ a 8 z) Q := sF_11_62 ko_X11_turnAt kc_X11_turnAt dX11_turnAt_27
theorem rX11_turnAt_30 : ab_Run X 102 30 (13, 0, 0) [ab_R z, l1, l2] st σ Q ↔ z ≠ 0 ∧ ab_Run X 102 31 (13, 0, 0) [ab_R z, l1, l2] (ab_R z :: st) σ Q := ab_r_aload_n rfl kc_X11_turnAt dX11_turnAt_30
theorem rX11_turnAt_31 : ab_Run X 102 31 (13, 0, 0) L (ab_R a :: st) σ Q ↔ (ab_sh σ a).1 = 12 ∧ ab_Run X 102 34 (13, 0, 0) L (ab_I (ab_rd σ a 8) :: st) σ Q := gF_11_62 ko_X11_turnAt kc_X11_turnAt dX11_turnAt_31
theorem rX11_turnAt_34 : ab_Run X 102 34 (13, 0, 0) L (ab_I a :: st) σ Q ↔ (¬ a = 0 → ab_Run X 102 61 (13, 0, 0) L st σ Q) ∧ (¬ (¬ a = 0) → ab_Run X 102 37 (13, 0, 0) L st σ Q) := ab_r_if_ne rfl kc_X11_turnAt dX11_turnAt_34
theorem rX11_turnAt_37 : ab_Run X 102 37 (13, 0, 0) [ab_R z, l1, l2] st σ Q ↔ z ≠ 0 ∧ ab_Run X 102 38 (13, 0, 0) [ab_R z, l1, l2] (ab_R z :: st) σ Q := ab_r_aload_n rfl kc_X11_turnAt dX11_turnAt_37
theorem rX11_turnAt_38 : ab_Run X 102 38 (13, 0, 0) L (ab_R a :: st) σ Q ↔ (ab_sh σ a).1 = 12 ∧ ab_Run X 102 41 (13, 0, 0) L (ab_R (ab_rd σ a 5) :: st) σ Q := gF_11_47 ko_X11_turnAt kc_X11_turnAt dX11_turnAt_38
theorem rX11_turnAt_41 : ab_Run X 102 41 (13, 0, 0) [ab_R z, l1, l2] st σ Q ↔ z ≠ 0 ∧ ab_Run X 102 42 (13, 0, 0) [ab_R z, l1, l2] (ab_R z :: st) σ Q := ab_r_aload_n rfl kc_X11_turnAt dX11_turnAt_41
theorem rX11_turnAt_42 : ab_Run X 102 42 (13, 0, 0) L (ab_R a :: st) σ Q ↔ (ab_sh σ a).1 = 12 ∧ ab_Run X 102 45 (13, 0, 0) L (ab_R (ab_rd σ a 7) :: st) σ Q := gF_11_58 ko_X11_turnAt kc_X11_turnAt dX11_turnAt_42
theorem rX11_turnAt_45 : ab_Run X 102 45 (13, 0, 0) L (ab_R a :: st) σ Q ↔ (ab_sh σ a).1 = 5 ∧ ab_Run X 102 48 (13, 0, 0) L (ab_I (ab_rd σ a 7) :: st) σ Q := gF_11_270 ko_X11_turnAt kc_X11_turnAt dX11_turnAt_45
theorem rX11_turnAt_48 : ab_Run X 102 48 (13, 0, 0) [l0, ab_I z, l2] st σ Q ↔ ab_Run X 102 49 (13, 0, 0) [l0, ab_I z, l2] (ab_I z :: st) σ Q := ab_r_iload_n rfl kc_X11_turnAt dX11_turnAt_48
theorem rX11_turnAt_49 : ab_Run X 102 49 (13, 0, 0) L (ab_I x2 :: ab_I x1 :: ab_R a :: st) σ Q ↔ ((ab_sh σ a).1 = 11 ∧ ab_cats st ≤ 8) ∧ ab_Do X 75 [ab_R a, ab_I x1, ab_I x2] σ (fun r σ' => ab_Run X 102 52 (13, 0, 0) L (ab_psh r st) σ' Q) := ab_r_callV (w := [ab_I x2, ab_I x1]) (as := [ab_I x1, ab_I x2]) (b1 := (12, 0, 0)) 0 (Or.inl rfl) (by decide) ko_X11_turnAt qM_11_273 (by decide) rfl rfl rfl rfl rfl (by decide) (Nat.le_of_ble_eq_true rfl) kc_X11_turnAt dX11_turnAt_49
theorem rX11_turnAt_52 : ab_Run X 102 52 (13, 0, 0) L (ab_I a :: st) σ Q ↔ (¬ a = 0 → ab_Run X 102 61 (13, 0, 0) L st σ Q) ∧ (¬ (¬ a = 0) → ab_Run X 102 55 (13, 0, 0) L st σ Q) := ab_r_if_ne rfl kc_X11_turnAt dX11_turnAt_52
theorem rX11_turnAt_55 : ab_Run X 102 55 (13, 0, 0) [ab_R z, l1, l2] st σ Q ↔ z ≠ 0 ∧ ab_Run X 102 56 (13, 0, 0) [ab_R z, l1, l2] (ab_R z :: st) σ Q := ab_r_aload_n rfl kc_X11_turnAt dX11_turnAt_55
theorem rX11_turnAt_56 : ab_Run X 102 56 (13, 0, 0) L st σ Q ↔ ab_Run X 102 58 (13, 0, 0) L (ab_I 6 :: st) σ Q := ab_r_bipush (by decide) kc_X11_turnAt dX11_turnAt_56
theorem rX11_turnAt_58 : ab_Run X 102 58 (13, 0, 0) L (ab_I z :: ab_R a :: st) σ Q ↔ (ab_sh σ a).1 = 12 ∧ ab_Run X 102 61 (13, 0, 0) L st (ab_wr σ a 8 z) Q := sF_11_62 ko_X11_turnAt kc_X11_turnAt dX11_turnAt_58
theorem rX11_turnAt_61 : ab_Run X 102 61 (13, 0, 0) [ab_R z, l1, l2] st σ Q ↔ z ≠ 0 ∧ ab_Run X 102 62 (13, 0, 0) [ab_R z, l1, l2] (ab_R z :: st) σ Q := ab_r_aload_n rfl kc_X11_turnAt dX11_turnAt_61
theorem rX11_turnAt_62 : ab_Run X 102 62 (13, 0, 0) L (ab_R a :: st) σ Q ↔ (ab_sh σ a).1 = 12 ∧ ab_Run X 102 65 (13, 0, 0) L (ab_I (ab_rd σ a 8) :: st) σ Q := gF_11_62 ko_X11_turnAt kc_X11_turnAt dX11_turnAt_62
theorem rX11_turnAt_65 : ab_Run X 102 65 (13, 0, 0) L (ab_I a :: st) σ Q ↔ (¬ a = 0 → ab_Run X 102 80 (13, 0, 0) L st σ Q) ∧ (¬ (¬ a = 0) → ab_Run X 102 68 (13, 0, 0) L st σ Q) := ab_r_if_ne rfl kc_X11_turnAt dX11_turnAt_65
theorem rX11_turnAt_68 : ab_Run X 102 68 (13, 0, 0) [ab_R z, l1, l2] st σ Q ↔ z ≠ 0 ∧ ab_Run X 102 69 (13, 0, 0) [ab_R z, l1, l2] (ab_R z :: st) σ Q := ab_r_aload_n rfl kc_X11_turnAt dX11_turnAt_68
theorem rX11_turnAt_69 : ab_Run X 102 69 (13, 0, 0) L (ab_R a :: st) σ Q ↔ (ab_sh σ a).1 = 12 ∧ ab_Run X 102 72 (13, 0, 0) L (ab_R (ab_rd σ a 5) :: st) σ Q := gF_11_47 ko_X11_turnAt kc_X11_turnAt dX11_turnAt_69
theorem rX11_turnAt_72 : ab_Run X 102 72 (13, 0, 0) L (ab_R a :: st) σ Q ↔ (ab_sh σ a).1 = 11 ∧ ab_Run X 102 75 (13, 0, 0) L (ab_R (ab_rd σ a 0) :: st) σ Q := gF_11_277 ko_X11_turnAt kc_X11_turnAt dX11_turnAt_72
theorem rX11_turnAt_75 : ab_Run X 102 75 (13, 0, 0) [l0, l1, ab_I z] st σ Q ↔ ab_Run X 102 76 (13, 0, 0) [l0, l1, ab_I z] (ab_I z :: st) σ Q := ab_r_iload_n rfl kc_X11_turnAt dX11_turnAt_75
theorem rX11_turnAt_76 : ab_Run X 102 76 (13, 0, 0) L (ab_I i :: ab_R a :: st) σ Q ↔ ((ab_sh σ a).1 = 21 ∧ 0 ≤ i ∧ i < (ab_sh σ a).2) ∧ ab_Run X 102 77 (13, 0, 0) L (ab_I (ab_rd σ a i) :: st) σ Q := ab_r_iaload (by decide) kc_X11_turnAt dX11_turnAt_76
theorem rX11_turnAt_77 : ab_Run X 102 77 (13, 0, 0) L st σ Q ↔ ab_Run X 102 81 (13, 0, 0) L st σ Q := ab_r_goto rfl kc_X11_turnAt dX11_turnAt_77
theorem rX11_turnAt_80 : ab_Run X 102 80 (13, 0, 0) L st σ Q ↔ ab_Run X 102 81 (13, 0, 0) L (ab_I (-1) :: st) σ Q := ab_r_iconst (by decide) kc_X11_turnAt dX11_turnAt_80
theorem rX11_turnAt_81 : ab_Run X 102 81 (13, 0, 0) L [ab_I v] σ Q ↔ Q (some (ab_I v)) σ := ab_r_ireturnI rfl kc_X11_turnAt dX11_turnAt_81
theorem kc_X11_hand : ab_code 103 = cX11_hand := rfl
theorem ko_X11_hand : ab_ow 103 = 11 := rfl
theorem rX11_hand_0 : ab_Run X 103 0 (1, 0, 0) [ab_R z, l1, l2, l3, l4] st σ Q ↔ z ≠ 0 ∧ ab_Run X 103 1 (1, 0, 0) [ab_R z, l1, l2, l3, l4] (ab_R z :: st) σ Q := ab_r_aload_n rfl kc_X11_hand dX11_hand_0
theorem rX11_hand_1 : ab_Run X 103 1 (1, 0, 0) [ab_R z, l1, l2, l3, l4] st σ Q ↔ z ≠ 0 ∧ ab_Run X 103 2 (1, 0, 0) [ab_R z, l1, l2, l3, l4] (ab_R z :: st) σ Q := ab_r_aload_n rfl kc_X11_hand dX11_hand_1
theorem rX11_hand_2 : ab_Run X 103 2 (1, 0, 0) [l0, ab_I z, l2, l3, l4] st σ Q ↔ ab_Run X 103 3 (1, 0, 0) [l0, ab_I z, l2, l3, l4] (ab_I z :: st) σ Q := ab_r_iload_n rfl kc_X11_hand dX11_hand_2
theorem rX11_hand_3 : ab_Run X 103 3 (1, 0, 0) L (ab_I x1 :: ab_R a :: st) σ Q ↔ ((ab_sh σ a).1 = 12 ∧ ab_cats st ≤ 8) ∧ ab_Do X 127 [ab_R a, ab_I x1] σ (fun r σ' => ab_Run X 103 6 (1, 0, 0) L (ab_psh r st) σ' Q) := ab_r_callV (w := [ab_I x1]) (as := [ab_I x1]) (b1 := (0, 0, 0)) 0 (Or.inl rfl) (by decide) ko_X11_hand qM_11_139 (by decide) rfl rfl rfl rfl rfl (by decide) (Nat.le_of_ble_eq_true rfl) kc_X11_hand dX11_hand_3
theorem rX11_hand_6 : ab_Run X 103 6 (1, 0, 0) L (ab_I a :: st) σ Q ↔ (a = 0 → ab_Run X 103 13 (1, 0, 0) L st σ Q) ∧ (¬ (a = 0) → ab_Run X 103 9 (1, 0, 0) L st σ Q) := ab_r_if_eq rfl kc_X11_hand dX11_hand_6
theorem rX11_hand_9 : ab_Run X 103 9 (1, 0, 0) L st σ Q ↔ ab_Run X 103 10 (1, 0, 0) L (ab_I 0 :: st) σ Q := ab_r_iconst (by decide) kc_X11_hand dX11_hand_9
theorem rX11_hand_10 : ab_Run X 103 10 (1, 0, 0) L st σ Q ↔ ab_Run X 103 14 (1, 0, 0) L st σ Q := ab_r_goto rfl kc_X11_hand dX11_hand_10
theorem rX11_hand_13 : ab_Run X 103 13 (1, 0, 0) L st σ Q ↔ ab_Run X 103 14 (1, 0, 0) L (ab_I 1 :: st) σ Q := ab_r_iconst (by decide) kc_X11_hand dX11_hand_13
theorem rX11_hand_14 : ab_Run X 103 14 (1, 0, 0) L (ab_I z :: ab_R a :: st) σ Q ↔ (ab_sh σ a).1 = 12 ∧ ab_Run X 103 17 (1, 0, 0) L st (ab_wr σ a 8 z) Q := sF_11_62 ko_X11_hand kc_X11_hand dX11_hand_14
theorem rX11_hand_17 : ab_Run X 103 17 (1, 0, 0) [ab_R z, l1, l2, l3, l4] st σ Q ↔ z ≠ 0 ∧ ab_Run X 103 18 (1, 0, 0) [ab_R z, l1, l2, l3, l4] (ab_R z :: st) σ Q := ab_r_aload_n rfl kc_X11_hand dX11_hand_17
theorem rX11_hand_18 : ab_Run X 103 18 (1, 0, 0) L (ab_R a :: st) σ Q ↔ (ab_sh σ a).1 = 12 ∧ ab_Run X 103 21 (1, 0, 0) L (ab_I (ab_rd σ a 8) :: st) σ Q := gF_11_62 ko_X11_hand kc_X11_hand dX11_hand_18
theorem rX11_hand_21 : ab_Run X 103 21 (1, 0, 0) L (ab_I a :: st) σ Q ↔ (a = 0 → ab_Run X 103 28 (1, 0, 0) L st σ Q) ∧ (¬ (a = 0) → ab_Run X 103 24 (1, 0, 0) L st σ Q) := ab_r_if_eq rfl kc_X11_hand dX11_hand_21
theorem rX11_hand_24 : ab_Run X 103 24 (1, 0, 0) L st σ Q ↔ ab_Run X 103 27 (1, 0, 0) L (ab_J (-1) :: st) σ Q := ab_r_ldc2_w rfl ko_X11_hand (by decide +kernel) kc_X11_hand dX11_hand_24
theorem rX11_hand_27 : ab_Run X 103 27 (1, 0, 0) L [ab_J v] σ Q ↔ Q (some (ab_J v)) σ := ab_r_lreturn rfl kc_X11_hand dX11_hand_27
theorem rX11_hand_28 : ab_Run X 103 28 (1, 0, 0) [ab_R z, l1, l2, l3, l4] st σ Q ↔ z ≠ 0 ∧ ab_Run X 103 29 (1, 0, 0) [ab_R z, l1, l2, l3, l4] (ab_R z :: st) σ Q := ab_r_aload_n rfl kc_X11_hand dX11_hand_28
theorem rX11_hand_29 : ab_Run X 103 29 (1, 0, 0) L (ab_R a :: st) σ Q ↔ (ab_sh σ a).1 = 12 ∧ ab_Run X 103 32 (1, 0, 0) L (ab_R (ab_rd σ a 7) :: st) σ Q := gF_11_58 ko_X11_hand kc_X11_hand dX11_hand_29
theorem rX11_hand_32 : ab_Run X 103 32 (1, 0, 0) L (ab_R a :: st) σ Q ↔ (ab_sh σ a).1 = 5 ∧ ab_Run X 103 35 (1, 0, 0) L (ab_R (ab_rd σ a 8) :: st) σ Q := gF_11_142 ko_X11_hand kc_X11_hand dX11_hand_32
theorem rX11_hand_35 : ab_Run X 103 35 (1, 0, 0) [l0, ab_I z, l2, l3, l4] st σ Q ↔ ab_Run X 103 36 (1, 0, 0) [l0, ab_I z, l2, l3, l4] (ab_I z :: st) σ Q := ab_r_iload_n rfl kc_X11_hand dX11_hand_35
theorem rX11_hand_36 : ab_Run X 103 36 (1, 0, 0) L (ab_I i :: ab_R a :: st) σ Q ↔ ((25 ≤ (ab_sh σ a).1 ∧ (ab_sh σ a).1 < 30) ∧ 0 ≤ i ∧ i < (ab_sh σ a).2) ∧ ab_Run X 103 37 (1, 0, 0) L (ab_R (ab_rd σ a i) :: st) σ Q := ab_r_aaload kc_X11_hand dX11_hand_36
theorem rX11_hand_37 : ab_Run X 103 37 (1, 0, 0) [l0, l1, l2, l3, l4] (ab_R z :: st) σ Q ↔ (!ab_isJ l2) = true ∧ ab_Run X 103 38 (1, 0, 0) [l0, l1, l2, ab_R z, l4] st σ Q := ab_r_astore_n (Nat.le_of_ble_eq_true rfl) kc_X11_hand dX11_hand_37
theorem rX11_hand_38 : ab_Run X 103 38 (1, 0, 0) [l0, l1, l2, ab_R z, l4] st σ Q ↔ z ≠ 0 ∧ ab_Run X 103 39 (1, 0, 0) [l0, l1, l2, ab_R z, l4] (ab_R z :: st) σ Q := ab_r_aload_n rfl kc_X11_hand dX11_hand_38
theorem rX11_hand_39 : ab_Run X 103 39 (1, 0, 0) L (ab_R a :: st) σ Q ↔ (ab_sh σ a).1 = 6 ∧ ab_Run X 103 42 (1, 0, 0) L (ab_I (ab_rd σ a 7) :: st) σ Q := gF_11_160 ko_X11_hand kc_X11_hand dX11_hand_39
theorem rX11_hand_42 : ab_Run X 103 42 (1, 0, 0) [l0, l1, l2, ab_R z, l4] st σ Q ↔ z ≠ 0 ∧ ab_Run X 103 43 (1, 0, 0) [l0, l1, l2, ab_R z, l4] (ab_R z :: st) σ Q := ab_r_aload_n rfl kc_X11_hand dX11_hand_42
theorem rX11_hand_43 : ab_Run X 103 43 (1, 0, 0) L (ab_R a :: st) σ Q ↔ (ab_sh σ a).1 = 6 ∧ ab_Run X 103 46 (1, 0, 0) L (ab_I (ab_rd σ a 8) :: st) σ Q := gF_11_163 ko_X11_hand kc_X11_hand dX11_hand_43
theorem rX11_hand_46 : ab_Run X 103 46 (1, 0, 0) L (ab_I b :: ab_I a :: st) σ Q ↔ ab_Run X 103 47 (1, 0, 0) L (ab_I (ab_w32 (a + b)) :: st) σ Q := ab_r_iadd kc_X11_hand dX11_hand_46
theorem rX11_hand_47 : ab_Run X 103 47 (1, 0, 0) [l0, l1, l2, l3, l4] (ab_I z :: st) σ Q ↔ (!ab_isJ l3) = true ∧ ab_Run X 103 49 (1, 0, 0) [l0, l1, l2, l3, ab_I z] st σ Q := ab_r_istore (Nat.le_of_ble_eq_true rfl) kc_X11_hand dX11_hand_47
theorem rX11_hand_49 : ab_Run X 103 49 (1, 0, 0) [l0, l1, l2, l3, ab_I z] st σ Q ↔ ab_Run X 103 51 (1, 0, 0) [l0, l1, l2, l3, ab_I z] (ab_I z :: st) σ Q := ab_r_iload rfl kc_X11_hand dX11_hand_49
theorem rX11_hand_51 : ab_Run X 103 51 (1, 0, 0) [l0, l1, l2, ab_R z, l4] st σ Q ↔ z ≠ 0 ∧ ab_Run X 103 52 (1, 0, 0) [l0, l1, l2, ab_R z, l4] (ab_R z :: st) σ Q := ab_r_aload_n rfl kc_X11_hand dX11_hand_51
theorem rX11_hand_52 : ab_Run X 103 52 (1, 0, 0) L (ab_R a :: st) σ Q ↔ (ab_sh σ a).1 = 6 ∧ ab_Run X 103 55 (1, 0, 0) L (ab_I (ab_rd σ a 7) :: st) σ Q := gF_11_160 ko_X11_hand kc_X11_hand dX11_hand_52
theorem rX11_hand_55 : ab_Run X 103 55 (1, 0, 0) L (ab_I x2 :: ab_I x1 :: st) σ Q ↔ ab_cats st ≤ 8 ∧ ab_Do X 148 [ab_I x1, ab_I x2] σ (fun r σ' => ab_Run X 103 58 (1, 0, 0) L (ab_psh r st) σ' Q) := ab_r_callS (w := [ab_I x2, ab_I x1]) (as := [ab_I x1, ab_I x2]) (b1 := (0, 0, 0)) (by decide) ko_X11_hand qM_11_280 (by decide) rfl rfl rfl rfl (by decide) (Nat.le_of_ble_eq_true rfl) kc_X11_hand dX11_hand_55
theorem rX11_hand_58 : ab_Run X 103 58 (1, 0, 0) L st σ Q ↔ ab_Run X 103 59 (1, 0, 0) L (ab_J 1 :: st) σ Q := ab_r_lconst kc_X11_hand dX11_hand_58
theorem rX11_hand_59 : ab_Run X 103 59 (1, 0, 0) [l0, l1, l2, l3, ab_I z] st σ Q ↔ ab_Run X 103 61 (1, 0, 0) [l0, l1, l2, l3, ab_I z] (ab_I z :: st) σ Q := ab_r_iload rfl kc_X11_hand dX11_hand_59
theorem rX11_hand_61 : ab_Run X 103 61 (1, 0, 0) L (ab_I b :: ab_J a :: st) σ Q ↔ ab_Run X 103 62 (1, 0, 0) L (ab_J (Int64.ofInt a <<< ((Int32.ofInt b).toInt64 &&& 63)).toInt :: st) σ Q := ab_r_lshl kc_X11_hand dX11_hand_61
theorem rX11_hand_62 : ab_Run X 103 62 (1, 0, 0) [l0, l1, ab_I z, l3, l4] st σ Q ↔ ab_Run X 103 63 (1, 0, 0) [l0, l1, ab_I z, l3, l4] (ab_I z :: st) σ Q := ab_r_iload_n rfl kc_X11_hand dX11_hand_62
theorem rX11_hand_63 : ab_Run X 103 63 (1, 0, 0) L (ab_I x3 :: ab_J x2 :: ab_J x1 :: st) σ Q ↔ ab_cats st ≤ 8 ∧ ab_Do X 147 [ab_J x1, ab_J x2, ab_I x3] σ (fun r σ' => ab_Run X 103 66 (1, 0, 0) L (ab_psh r st) σ' Q) := ab_r_callS (w := [ab_I x3, ab_J x2, ab_J x1]) (as := [ab_J x1, ab_J x2, ab_I x3]) (b1 := (0, 0, 0)) (by decide) ko_X11_hand qM_11_218 (by decide) rfl rfl rfl rfl (by decide) (Nat.le_of_ble_eq_true rfl) kc_X11_hand dX11_hand_63
theorem rX11_hand_66 : ab_Run X 103 66 (1, 0, 0) L [ab_J v] σ Q ↔ Q (some (ab_J v)) σ := ab_r_lreturn rfl kc_X11_hand dX11_hand_66
theorem kc_X11_side : ab_code 104 = cX11_side := rfl
theorem ko_X11_side : ab_ow 104 = 11 := rfl
theorem rX11_side_0 : ab_Run X 104 0 (1, 0, 0) [ab_R z, l1] st σ Q ↔ z ≠ 0 ∧ ab_Run X 104 1 (1, 0, 0) [ab_R z, l1] (ab_R z :: st) σ Q := ab_r_aload_n rfl kc_X11_side dX11_side_0
theorem rX11_side_1 : ab_Run X 104 1 (1, 0, 0) [ab_R z, l1] st σ Q ↔ z ≠ 0 ∧ ab_Run X 104 2 (1, 0, 0) [ab_R z, l1] (ab_R z :: st) σ Q := ab_r_aload_n rfl kc_X11_side dX11_side_1
theorem rX11_side_2 : ab_Run X 104 2 (1, 0, 0) L (ab_R a :: st) σ Q ↔ ((ab_sh σ a).1 = 12 ∧ ab_cats st ≤ 8) ∧ ab_Do X 125 [ab_R a] σ (fun r σ' => ab_Run X 104 5 (1, 0, 0) L (ab_psh r st) σ' Q) := ab_r_callV (w := []) (as := []) (b1 := (0, 0, 0)) 0 (Or.inl rfl) (by decide) ko_X11_side qM_11_284 (by decide) rfl rfl rfl rfl rfl (by decide) (Nat.le_of_ble_eq_true rfl) kc_X11_side dX11_side_2
theorem rX11_side_5 : ab_Run X 104 5 (1, 0, 0) L (ab_I a :: st) σ Q ↔ (a = 0 → ab_Run X 104 12 (1, 0, 0) L st σ Q) ∧ (¬ (a = 0) → ab_Run X 104 8 (1, 0, 0) L st σ Q) := ab_r_if_eq rfl kc_X11_side dX11_side_5
theorem rX11_side_8 : ab_Run X 104 8 (1, 0, 0) L st σ Q ↔ ab_Run X 104 9 (1, 0, 0) L (ab_I 0 :: st) σ Q := ab_r_iconst (by decide) kc_X11_side dX11_side_8
theorem rX11_side_9 : ab_Run X 104 9 (1, 0, 0) L st σ Q ↔ ab_Run X 104 13 (1, 0, 0) L st σ Q := ab_r_goto rfl kc_X11_side dX11_side_9
theorem rX11_side_12 : ab_Run X 104 12 (1, 0, 0) L st σ Q ↔ ab_Run X 104 13 (1, 0, 0) L (ab_I 1 :: st) σ Q := ab_r_iconst (by decide) kc_X11_side dX11_side_12
theorem rX11_side_13 : ab_Run X 104 13 (1, 0, 0) L (ab_I z :: ab_R a :: st) σ Q ↔ (ab_sh σ a).1 = 12 ∧ ab_Run X 104 16 (1, 0, 0) L st (ab_wr σ a 8 z) Q := sF_11_62 ko_X11_side kc_X11_side dX11_side_13
theorem rX11_side_16 : ab_Run X 104 16 (1, 0, 0) [ab_R z, l1] st σ Q ↔ z ≠ 0 ∧ ab_Run X 104 17 (1, 0, 0) [ab_R z, l1] (ab_R z :: st) σ Q := ab_r_aload_n rfl kc_X11_side dX11_side_16
theorem rX11_side_17 : ab_Run X 104 17 (1, 0, 0) L (ab_R a :: st) σ Q ↔ (ab_sh σ a).1 = 12 ∧ ab_Run X 104 20 (1, 0, 0) L (ab_I (ab_rd σ a 8) :: st) σ Q := gF_11_62 ko_X11_side kc_X11_side dX11_side_17
theorem rX11_side_20 : ab_Run X 104 20 (1, 0, 0) L (ab_I a :: st) σ Q ↔ (a = 0 → ab_Run X 104 27 (1, 0, 0) L st σ Q) ∧ (¬ (a = 0) → ab_Run X 104 23 (1, 0, 0) L st σ Q) := ab_r_if_eq rfl kc_X11_side dX11_side_20
theorem rX11_side_23 : ab_Run X 104 23 (1, 0, 0) L st σ Q ↔ ab_Run X 104 26 (1, 0, 0) L (ab_J (-1) :: st) σ Q := ab_r_ldc2_w rfl ko_X11_side (by decide +kernel) kc_X11_side dX11_side_23
theorem rX11_side_26 : ab_Run X 104 26 (1, 0, 0) L [ab_J v] σ Q ↔ Q (some (ab_J v)) σ := ab_r_lreturn rfl kc_X11_side dX11_side_26
theorem rX11_side_27 : ab_Run X 104 27 (1, 0, 0) [ab_R z, l1] st σ Q ↔ z ≠ 0 ∧ ab_Run X 104 28 (1, 0, 0) [ab_R z, l1] (ab_R z :: st) σ Q := ab_r_aload_n rfl kc_X11_side dX11_side_27
theorem rX11_side_28 : ab_Run X 104 28 (1, 0, 0) L (ab_R a :: st) σ Q ↔ (ab_sh σ a).1 = 12 ∧ ab_Run X 104 31 (1, 0, 0) L (ab_R (ab_rd σ a 7) :: st) σ Q := gF_11_58 ko_X11_side kc_X11_side dX11_side_28
theorem rX11_side_31 : ab_Run X 104 31 (1, 0, 0) L (ab_R a :: st) σ Q ↔ (ab_sh σ a).1 = 5 ∧ ab_Run X 104 34 (1, 0, 0) L (ab_I (ab_rd σ a 10) :: st) σ Q := gF_11_288 ko_X11_side kc_X11_side dX11_side_31
theorem rX11_side_34 : ab_Run X 104 34 (1, 0, 0) [ab_R z, l1] st σ Q ↔ z ≠ 0 ∧ ab_Run X 104 35 (1, 0, 0) [ab_R z, l1] (ab_R z :: st) σ Q := ab_r_aload_n rfl kc_X11_side dX11_side_34
theorem rX11_side_35 : ab_Run X 104 35 (1, 0, 0) L (ab_R a :: st) σ Q ↔ (ab_sh σ a).1 = 12 ∧ ab_Run X 104 38 (1, 0, 0) L (ab_R (ab_rd σ a 7) :: st) σ Q := gF_11_58 ko_X11_side kc_X11_side dX11_side_35
theorem rX11_side_38 : ab_Run X 104 38 (1, 0, 0) L (ab_R a :: st) σ Q ↔ (ab_sh σ a).1 = 5 ∧ ab_Run X 104 41 (1, 0, 0) L (ab_I (ab_rd σ a 11) :: st) σ Q := gF_11_291 ko_X11_side kc_X11_side dX11_side_38
theorem rX11_side_41 : ab_Run X 104 41 (1, 0, 0) L (ab_I x2 :: ab_I x1 :: st) σ Q ↔ ab_cats st ≤ 8 ∧ ab_Do X 148 [ab_I x1, ab_I x2] σ (fun r σ' => ab_Run X 104 44 (1, 0, 0) L (ab_psh r st) σ' Q) := ab_r_callS (w := [ab_I x2, ab_I x1]) (as := [ab_I x1, ab_I x2]) (b1 := (0, 0, 0)) (by decide) ko_X11_side qM_11_280 (by decide) rfl rfl rfl rfl (by decide) (Nat.le_of_ble_eq_true rfl) kc_X11_side dX11_side_41
theorem rX11_side_44 : ab_Run X 104 44 (1, 0, 0) L st σ Q ↔ ab_Run X 104 45 (1, 0, 0) L (ab_J 1 :: st) σ Q := ab_r_lconst kc_X11_side dX11_side_44
theorem rX11_side_45 : ab_Run X 104 45 (1, 0, 0) [ab_R z, l1] st σ Q ↔ z ≠ 0 ∧ ab_Run X 104 46 (1, 0, 0) [ab_R z, l1] (ab_R z :: st) σ Q := ab_r_aload_n rfl kc_X11_side dX11_side_45
theorem rX11_side_46 : ab_Run X 104 46 (1, 0, 0) L (ab_R a :: st) σ Q ↔ (ab_sh σ a).1 = 12 ∧ ab_Run X 104 49 (1, 0, 0) L (ab_R (ab_rd σ a 7) :: st) σ Q := gF_11_58 ko_X11_side kc_X11_side dX11_side_46
theorem rX11_side_49 : ab_Run X 104 49 (1, 0, 0) L (ab_R a :: st) σ Q ↔ (ab_sh σ a).1 = 5 ∧ ab_Run X 104 52 (1, 0, 0) L (ab_I (ab_rd σ a 10) :: st) σ Q := gF_11_288 ko_X11_side kc_X11_side dX11_side_49
theorem rX11_side_52 : ab_Run X 104 52 (1, 0, 0) L (ab_I b :: ab_J a :: st) σ Q ↔ ab_Run X 104 53 (1, 0, 0) L (ab_J (Int64.ofInt a <<< ((Int32.ofInt b).toInt64 &&& 63)).toInt :: st) σ Q := ab_r_lshl kc_X11_side dX11_side_52
theorem rX11_side_53 : ab_Run X 104 53 (1, 0, 0) [l0, ab_I z] st σ Q ↔ ab_Run X 104 54 (1, 0, 0) [l0, ab_I z] (ab_I z :: st) σ Q := ab_r_iload_n rfl kc_X11_side dX11_side_53
theorem rX11_side_54 : ab_Run X 104 54 (1, 0, 0) L (ab_I x3 :: ab_J x2 :: ab_J x1 :: st) σ Q ↔ ab_cats st ≤ 8 ∧ ab_Do X 147 [ab_J x1, ab_J x2, ab_I x3] σ (fun r σ' => ab_Run X 104 57 (1, 0, 0) L (ab_psh r st) σ' Q) := ab_r_callS (w := [ab_I x3, ab_J x2, ab_J x1]) (as := [ab_J x1, ab_J x2, ab_I x3]) (b1 := (0, 0, 0)) (by decide) ko_X11_side qM_11_218 (by decide) rfl rfl rfl rfl (by decide) (Nat.le_of_ble_eq_true rfl) kc_X11_side dX11_side_54
theorem rX11_side_57 : ab_Run X 104 57 (1, 0, 0) L [ab_J v] σ Q ↔ Q (some (ab_J v)) σ := ab_r_lreturn rfl kc_X11_side dX11_side_57
theorem kc_X11_known : ab_code 105 = cX11_known := rfl
theorem ko_X11_known : ab_ow 105 = 11 := rfl
theorem rX11_known_0 : ab_Run X 105 0 (1, 0, 0) [ab_R z, l1, l2, l3, l4] st σ Q ↔ z ≠ 0 ∧ ab_Run X 105 1 (1, 0, 0) [ab_R z, l1, l2, l3, l4] (ab_R z :: st) σ Q := ab_r_aload_n rfl kc_X11_known dX11_known_0
theorem rX11_known_1 : ab_Run X 105 1 (1, 0, 0) [ab_R z, l1, l2, l3, l4] st σ Q ↔ z ≠ 0 ∧ ab_Run X 105 2 (1, 0, 0) [ab_R z, l1, l2, l3, l4] (ab_R z :: st) σ Q := ab_r_aload_n rfl kc_X11_known dX11_known_1
theorem rX11_known_2 : ab_Run X 105 2 (1, 0, 0) L (ab_R a :: st) σ Q ↔ ((ab_sh σ a).1 = 12 ∧ ab_cats st ≤ 8) ∧ ab_Do X 125 [ab_R a] σ (fun r σ' => ab_Run X 105 5 (1, 0, 0) L (ab_psh r st) σ' Q) := ab_r_callV (w := []) (as := []) (b1 := (0, 0, 0)) 0 (Or.inl rfl) (by decide) ko_X11_known qM_11_284 (by decide) rfl rfl rfl rfl rfl (by decide) (Nat.le_of_ble_eq_true rfl) kc_X11_known dX11_known_2
theorem rX11_known_5 : ab_Run X 105 5 (1, 0, 0) L (ab_I a :: st) σ Q ↔ (a = 0 → ab_Run X 105 12 (1, 0, 0) L st σ Q) ∧ (¬ (a = 0) → ab_Run X 105 8 (1, 0, 0) L st σ Q) := ab_r_if_eq rfl kc_X11_known dX11_known_5
theorem rX11_known_8 : ab_Run X 105 8 (1, 0, 0) L st σ Q ↔ ab_Run X 105 9 (1, 0, 0) L (ab_I 0 :: st) σ Q := ab_r_iconst (by decide) kc_X11_known dX11_known_8
theorem rX11_known_9 : ab_Run X 105 9 (1, 0, 0) L st σ Q ↔ ab_Run X 105 13 (1, 0, 0) L st σ Q := ab_r_goto rfl kc_X11_known dX11_known_9
theorem rX11_known_12 : ab_Run X 105 12 (1, 0, 0) L st σ Q ↔ ab_Run X 105 13 (1, 0, 0) L (ab_I 1 :: st) σ Q := ab_r_iconst (by decide) kc_X11_known dX11_known_12
theorem rX11_known_13 : ab_Run X 105 13 (1, 0, 0) L (ab_I z :: ab_R a :: st) σ Q ↔ (ab_sh σ a).1 = 12 ∧ ab_Run X 105 16 (1, 0, 0) L st (ab_wr σ a 8 z) Q := sF_11_62 ko_X11_known kc_X11_known dX11_known_13
theorem rX11_known_16 : ab_Run X 105 16 (1, 0, 0) [ab_R z, l1, l2, l3, l4] st σ Q ↔ z ≠ 0 ∧ ab_Run X 105 17 (1, 0, 0) [ab_R z, l1, l2, l3, l4] (ab_R z :: st) σ Q := ab_r_aload_n rfl kc_X11_known dX11_known_16
theorem rX11_known_17 : ab_Run X 105 17 (1, 0, 0) L (ab_R a :: st) σ Q ↔ (ab_sh σ a).1 = 12 ∧ ab_Run X 105 20 (1, 0, 0) L (ab_I (ab_rd σ a 8) :: st) σ Q := gF_11_62 ko_X11_known kc_X11_known dX11_known_17
theorem rX11_known_20 : ab_Run X 105 20 (1, 0, 0) L (ab_I a :: st) σ Q ↔ (a = 0 → ab_Run X 105 25 (1, 0, 0) L st σ Q) ∧ (¬ (a = 0) → ab_Run X 105 23 (1, 0, 0) L st σ Q) := ab_r_if_eq rfl kc_X11_known dX11_known_20
theorem rX11_known_23 : ab_Run X 105 23 (1, 0, 0) L st σ Q ↔ ab_Run X 105 24 (1, 0, 0) L (ab_I (-1) :: st) σ Q := ab_r_iconst (by decide) kc_X11_known dX11_known_23
theorem rX11_known_24 : ab_Run X 105 24 (1, 0, 0) L [ab_I v] σ Q ↔ Q (some (ab_I v)) σ := ab_r_ireturnI rfl kc_X11_known dX11_known_24
theorem rX11_known_25 : ab_Run X 105 25 (1, 0, 0) L st σ Q ↔ ab_Run X 105 26 (1, 0, 0) L (ab_I 0 :: st) σ Q := ab_r_iconst (by decide) kc_X11_known dX11_known_25
theorem rX11_known_26 : ab_Run X 105 26 (1, 0, 0) [l0, l1, l2, l3, l4] (ab_I z :: st) σ Q ↔ (!ab_isJ l0) = true ∧ ab_Run X 105 27 (1, 0, 0) [l0, ab_I z, l2, l3, l4] st σ Q := ab_r_istore_n (Nat.le_of_ble_eq_true rfl) kc_X11_known dX11_known_26
theorem rX11_known_27 : ab_Run X 105 27 (1, 0, 0) L st σ Q ↔ ab_Run X 105 28 (1, 0, 0) L (ab_I 0 :: st) σ Q := ab_r_iconst (by decide) kc_X11_known dX11_known_27
theorem rX11_known_28 : ab_Run X 105 28 (1, 0, 0) [l0, l1, l2, l3, l4] (ab_I z :: st) σ Q ↔ (!ab_isJ l1) = true ∧ ab_Run X 105 29 (1, 0, 0) [l0, l1, ab_I z, l3, l4] st σ Q := ab_r_istore_n (Nat.le_of_ble_eq_true rfl) kc_X11_known dX11_known_28
theorem rX11_known_29 : ab_Run X 105 29 (1, 0, 0) [l0, l1, ab_I z, l3, l4] st σ Q ↔ ab_Run X 105 30 (1, 0, 0) [l0, l1, ab_I z, l3, l4] (ab_I z :: st) σ Q := ab_r_iload_n rfl kc_X11_known dX11_known_29
theorem rX11_known_30 : ab_Run X 105 30 (1, 0, 0) [ab_R z, l1, l2, l3, l4] st σ Q ↔ z ≠ 0 ∧ ab_Run X 105 31 (1, 0, 0) [ab_R z, l1, l2, l3, l4] (ab_R z :: st) σ Q := ab_r_aload_n rfl kc_X11_known dX11_known_30
theorem rX11_known_31 : ab_Run X 105 31 (1, 0, 0) L (ab_R a :: st) σ Q ↔ (ab_sh σ a).1 = 12 ∧ ab_Run X 105 34 (1, 0, 0) L (ab_R (ab_rd σ a 7) :: st) σ Q := gF_11_58 ko_X11_known kc_X11_known dX11_known_31
theorem rX11_known_34 : ab_Run X 105 34 (1, 0, 0) L (ab_R a :: st) σ Q ↔ (ab_sh σ a).1 = 5 ∧ ab_Run X 105 37 (1, 0, 0) L (ab_I (ab_rd σ a 7) :: st) σ Q := gF_11_270 ko_X11_known kc_X11_known dX11_known_34
theorem rX11_known_37 : ab_Run X 105 37 (1, 0, 0) L (ab_I b :: ab_I a :: st) σ Q ↔ (b ≤ a → ab_Run X 105 94 (1, 0, 0) L st σ Q) ∧ (¬ (b ≤ a) → ab_Run X 105 40 (1, 0, 0) L st σ Q) := ab_r_icmp_ge rfl kc_X11_known dX11_known_37
theorem rX11_known_40 : ab_Run X 105 40 (1, 0, 0) [ab_R z, l1, l2, l3, l4] st σ Q ↔ z ≠ 0 ∧ ab_Run X 105 41 (1, 0, 0) [ab_R z, l1, l2, l3, l4] (ab_R z :: st) σ Q := ab_r_aload_n rfl kc_X11_known dX11_known_40
theorem rX11_known_41 : ab_Run X 105 41 (1, 0, 0) L (ab_R a :: st) σ Q ↔ (ab_sh σ a).1 = 12 ∧ ab_Run X 105 44 (1, 0, 0) L (ab_R (ab_rd σ a 7) :: st) σ Q := gF_11_58 ko_X11_known kc_X11_known dX11_known_41
theorem rX11_known_44 : ab_Run X 105 44 (1, 0, 0) L (ab_R a :: st) σ Q ↔ (ab_sh σ a).1 = 5 ∧ ab_Run X 105 47 (1, 0, 0) L (ab_R (ab_rd σ a 8) :: st) σ Q := gF_11_142 ko_X11_known kc_X11_known dX11_known_44
theorem rX11_known_47 : ab_Run X 105 47 (1, 0, 0) [l0, l1, ab_I z, l3, l4] st σ Q ↔ ab_Run X 105 48 (1, 0, 0) [l0, l1, ab_I z, l3, l4] (ab_I z :: st) σ Q := ab_r_iload_n rfl kc_X11_known dX11_known_47
theorem rX11_known_48 : ab_Run X 105 48 (1, 0, 0) L (ab_I i :: ab_R a :: st) σ Q ↔ ((25 ≤ (ab_sh σ a).1 ∧ (ab_sh σ a).1 < 30) ∧ 0 ≤ i ∧ i < (ab_sh σ a).2) ∧ ab_Run X 105 49 (1, 0, 0) L (ab_R (ab_rd σ a i) :: st) σ Q := ab_r_aaload kc_X11_known dX11_known_48
theorem rX11_known_49 : ab_Run X 105 49 (1, 0, 0) [l0, l1, l2, l3, l4] (ab_R z :: st) σ Q ↔ (!ab_isJ l2) = true ∧ ab_Run X 105 50 (1, 0, 0) [l0, l1, l2, ab_R z, l4] st σ Q := ab_r_astore_n (Nat.le_of_ble_eq_true rfl) kc_X11_known dX11_known_49
theorem rX11_known_50 : ab_Run X 105 50 (1, 0, 0) [l0, l1, l2, ab_R z, l4] st σ Q ↔ z ≠ 0 ∧ ab_Run X 105 51 (1, 0, 0) [l0, l1, l2, ab_R z, l4] (ab_R z :: st) σ Q := ab_r_aload_n rfl kc_X11_known dX11_known_50
theorem rX11_known_51 : ab_Run X 105 51 (1, 0, 0) L (ab_R a :: st) σ Q ↔ (ab_sh σ a).1 = 6 ∧ ab_Run X 105 54 (1, 0, 0) L (ab_I (ab_rd σ a 7) :: st) σ Q := gF_11_160 ko_X11_known kc_X11_known dX11_known_51
theorem rX11_known_54 : ab_Run X 105 54 (1, 0, 0) [l0, l1, l2, ab_R z, l4] st σ Q ↔ z ≠ 0 ∧ ab_Run X 105 55 (1, 0, 0) [l0, l1, l2, ab_R z, l4] (ab_R z :: st) σ Q := ab_r_aload_n rfl kc_X11_known dX11_known_54
theorem rX11_known_55 : ab_Run X 105 55 (1, 0, 0) L (ab_R a :: st) σ Q ↔ (ab_sh σ a).1 = 6 ∧ ab_Run X 105 58 (1, 0, 0) L (ab_I (ab_rd σ a 8) :: st) σ Q := gF_11_163 ko_X11_known kc_X11_known dX11_known_55
theorem rX11_known_58 : ab_Run X 105 58 (1, 0, 0) L (ab_I b :: ab_I a :: st) σ Q ↔ ab_Run X 105 59 (1, 0, 0) L (ab_I (ab_w32 (a + b)) :: st) σ Q := ab_r_iadd kc_X11_known dX11_known_58
theorem rX11_known_59 : ab_Run X 105 59 (1, 0, 0) [l0, l1, l2, l3, l4] (ab_I z :: st) σ Q ↔ (!ab_isJ l3) = true ∧ ab_Run X 105 61 (1, 0, 0) [l0, l1, l2, l3, ab_I z] st σ Q := ab_r_istore (Nat.le_of_ble_eq_true rfl) kc_X11_known dX11_known_59
theorem rX11_known_61 : ab_Run X 105 61 (1, 0, 0) [l0, l1, l2, l3, ab_I z] st σ Q ↔ ab_Run X 105 63 (1, 0, 0) [l0, l1, l2, l3, ab_I z] (ab_I z :: st) σ Q := ab_r_iload rfl kc_X11_known dX11_known_61
theorem rX11_known_63 : ab_Run X 105 63 (1, 0, 0) [l0, l1, l2, ab_R z, l4] st σ Q ↔ z ≠ 0 ∧ ab_Run X 105 64 (1, 0, 0) [l0, l1, l2, ab_R z, l4] (ab_R z :: st) σ Q := ab_r_aload_n rfl kc_X11_known dX11_known_63
theorem rX11_known_64 : ab_Run X 105 64 (1, 0, 0) L (ab_R a :: st) σ Q ↔ (ab_sh σ a).1 = 6 ∧ ab_Run X 105 67 (1, 0, 0) L (ab_I (ab_rd σ a 7) :: st) σ Q := gF_11_160 ko_X11_known kc_X11_known dX11_known_64
theorem rX11_known_67 : ab_Run X 105 67 (1, 0, 0) L (ab_I x2 :: ab_I x1 :: st) σ Q ↔ ab_cats st ≤ 8 ∧ ab_Do X 148 [ab_I x1, ab_I x2] σ (fun r σ' => ab_Run X 105 70 (1, 0, 0) L (ab_psh r st) σ' Q) := ab_r_callS (w := [ab_I x2, ab_I x1]) (as := [ab_I x1, ab_I x2]) (b1 := (0, 0, 0)) (by decide) ko_X11_known qM_11_280 (by decide) rfl rfl rfl rfl (by decide) (Nat.le_of_ble_eq_true rfl) kc_X11_known dX11_known_67
theorem rX11_known_70 : ab_Run X 105 70 (1, 0, 0) L st σ Q ↔ ab_Run X 105 73 (1, 0, 0) L (ab_J 20 :: st) σ Q := ab_r_ldc2_w rfl ko_X11_known (by decide +kernel) kc_X11_known dX11_known_70
theorem rX11_known_73 : ab_Run X 105 73 (1, 0, 0) L (ab_J b :: ab_J a :: st) σ Q ↔ ab_Run X 105 74 (1, 0, 0) L (ab_J (ab_w64 (a * b)) :: st) σ Q := ab_r_lmul kc_X11_known dX11_known_73
theorem rX11_known_74 : ab_Run X 105 74 (1, 0, 0) L st σ Q ↔ ab_Run X 105 75 (1, 0, 0) L (ab_J 1 :: st) σ Q := ab_r_lconst kc_X11_known dX11_known_74
theorem rX11_known_75 : ab_Run X 105 75 (1, 0, 0) [l0, l1, l2, l3, ab_I z] st σ Q ↔ ab_Run X 105 77 (1, 0, 0) [l0, l1, l2, l3, ab_I z] (ab_I z :: st) σ Q := ab_r_iload rfl kc_X11_known dX11_known_75
theorem rX11_known_77 : ab_Run X 105 77 (1, 0, 0) L (ab_I b :: ab_J a :: st) σ Q ↔ ab_Run X 105 78 (1, 0, 0) L (ab_J (Int64.ofInt a <<< ((Int32.ofInt b).toInt64 &&& 63)).toInt :: st) σ Q := ab_r_lshl kc_X11_known dX11_known_77
theorem rX11_known_78 : ab_Run X 105 78 (1, 0, 0) L (ab_J b :: ab_J a :: st) σ Q ↔ ab_Run X 105 79 (1, 0, 0) L (ab_I (if b < a then 1 else if a = b then 0 else -1) :: st) σ Q := ab_r_lcmp kc_X11_known dX11_known_78
theorem rX11_known_79 : ab_Run X 105 79 (1, 0, 0) L (ab_I a :: st) σ Q ↔ (0 < a → ab_Run X 105 88 (1, 0, 0) L st σ Q) ∧ (¬ (0 < a) → ab_Run X 105 82 (1, 0, 0) L st σ Q) := ab_r_if_gt rfl kc_X11_known dX11_known_79
theorem rX11_known_82 : ab_Run X 105 82 (1, 0, 0) [l0, ab_I z, l2, l3, l4] st σ Q ↔ ab_Run X 105 83 (1, 0, 0) [l0, ab_I z, l2, l3, l4] (ab_I z :: st) σ Q := ab_r_iload_n rfl kc_X11_known dX11_known_82
theorem rX11_known_83 : ab_Run X 105 83 (1, 0, 0) L st σ Q ↔ ab_Run X 105 84 (1, 0, 0) L (ab_I 1 :: st) σ Q := ab_r_iconst (by decide) kc_X11_known dX11_known_83
theorem rX11_known_84 : ab_Run X 105 84 (1, 0, 0) [l0, l1, ab_I z, l3, l4] st σ Q ↔ ab_Run X 105 85 (1, 0, 0) [l0, l1, ab_I z, l3, l4] (ab_I z :: st) σ Q := ab_r_iload_n rfl kc_X11_known dX11_known_84
theorem rX11_known_85 : ab_Run X 105 85 (1, 0, 0) L (ab_I b :: ab_I a :: st) σ Q ↔ ab_Run X 105 86 (1, 0, 0) L (ab_I (ab_ok32 (fun x y => x <<< (y &&& 31)) a b) :: st) σ Q := ab_r_ishl kc_X11_known dX11_known_85
theorem rX11_known_86 : ab_Run X 105 86 (1, 0, 0) L (ab_I b :: ab_I a :: st) σ Q ↔ ab_Run X 105 87 (1, 0, 0) L (ab_I (ab_ok32 (fun x y => x ||| y) a b) :: st) σ Q := ab_r_ior kc_X11_known dX11_known_86
theorem rX11_known_87 : ab_Run X 105 87 (1, 0, 0) [l0, l1, l2, l3, l4] (ab_I z :: st) σ Q ↔ (!ab_isJ l0) = true ∧ ab_Run X 105 88 (1, 0, 0) [l0, ab_I z, l2, l3, l4] st σ Q := ab_r_istore_n (Nat.le_of_ble_eq_true rfl) kc_X11_known dX11_known_87
theorem rX11_known_88 : ab_Run X 105 88 (1, 0, 0) [l0, l1, ab_I z, l3, l4] st σ Q ↔ (!ab_isJ l1) = true ∧ ab_Run X 105 91 (1, 0, 0) [l0, l1, ab_I (ab_w32 (z + 1)), l3, l4] st σ Q := ab_r_iinc rfl (by decide) kc_X11_known dX11_known_88
theorem rX11_known_91 : ab_Run X 105 91 (1, 0, 0) L st σ Q ↔ ab_Run X 105 29 (1, 0, 0) L st σ Q := ab_r_goto rfl kc_X11_known dX11_known_91
theorem rX11_known_94 : ab_Run X 105 94 (1, 0, 0) [l0, ab_I z, l2, l3, l4] st σ Q ↔ ab_Run X 105 95 (1, 0, 0) [l0, ab_I z, l2, l3, l4] (ab_I z :: st) σ Q := ab_r_iload_n rfl kc_X11_known dX11_known_94
theorem rX11_known_95 : ab_Run X 105 95 (1, 0, 0) L [ab_I v] σ Q ↔ Q (some (ab_I v)) σ := ab_r_ireturnI rfl kc_X11_known dX11_known_95
theorem kc_X11_hens : ab_code 106 = cX11_hens := rfl
theorem ko_X11_hens : ab_ow 106 = 11 := rfl
theorem rX11_hens_0 : ab_Run X 106 0 (1, 0, 0) [ab_R z, l1, l2] st σ Q ↔ z ≠ 0 ∧ ab_Run X 106 1 (1, 0, 0) [ab_R z, l1, l2] (ab_R z :: st) σ Q := ab_r_aload_n rfl kc_X11_hens dX11_hens_0
theorem rX11_hens_1 : ab_Run X 106 1 (1, 0, 0) [ab_R z, l1, l2] st σ Q ↔ z ≠ 0 ∧ ab_Run X 106 2 (1, 0, 0) [ab_R z, l1, l2] (ab_R z :: st) σ Q := ab_r_aload_n rfl kc_X11_hens dX11_hens_1
theorem rX11_hens_2 : ab_Run X 106 2 (1, 0, 0) L (ab_R a :: st) σ Q ↔ ((ab_sh σ a).1 = 12 ∧ ab_cats st ≤ 8) ∧ ab_Do X 125 [ab_R a] σ (fun r σ' => ab_Run X 106 5 (1, 0, 0) L (ab_psh r st) σ' Q) := ab_r_callV (w := []) (as := []) (b1 := (0, 0, 0)) 0 (Or.inl rfl) (by decide) ko_X11_hens qM_11_284 (by decide) rfl rfl rfl rfl rfl (by decide) (Nat.le_of_ble_eq_true rfl) kc_X11_hens dX11_hens_2
theorem rX11_hens_5 : ab_Run X 106 5 (1, 0, 0) L (ab_I a :: st) σ Q ↔ (¬ a = 0 → ab_Run X 106 12 (1, 0, 0) L st σ Q) ∧ (¬ (¬ a = 0) → ab_Run X 106 8 (1, 0, 0) L st σ Q) := ab_r_if_ne rfl kc_X11_hens dX11_hens_5
theorem rX11_hens_8 : ab_Run X 106 8 (1, 0, 0) L st σ Q ↔ ab_Run X 106 9 (1, 0, 0) L (ab_I 1 :: st) σ Q := ab_r_iconst (by decide) kc_X11_hens dX11_hens_8
theorem rX11_hens_9 : ab_Run X 106 9 (1, 0, 0) L st σ Q ↔ ab_Run X 106 29 (1, 0, 0) L st σ Q := ab_r_goto rfl kc_X11_hens dX11_hens_9
theorem rX11_hens_12 : ab_Run X 106 12 (1, 0, 0) [l0, ab_I z, l2] st σ Q ↔ ab_Run X 106 13 (1, 0, 0) [l0, ab_I z, l2] (ab_I z :: st) σ Q := ab_r_iload_n rfl kc_X11_hens dX11_hens_12
theorem rX11_hens_13 : ab_Run X 106 13 (1, 0, 0) L st σ Q ↔ ab_Run X 106 14 (1, 0, 0) L (ab_I 1 :: st) σ Q := ab_r_iconst (by decide) kc_X11_hens dX11_hens_13
theorem rX11_hens_14 : ab_Run X 106 14 (1, 0, 0) L (ab_I b :: ab_I a :: st) σ Q ↔ (a < b → ab_Run X 106 24 (1, 0, 0) L st σ Q) ∧ (¬ (a < b) → ab_Run X 106 17 (1, 0, 0) L st σ Q) := ab_r_icmp_lt rfl kc_X11_hens dX11_hens_14
theorem rX11_hens_17 : ab_Run X 106 17 (1, 0, 0) [l0, ab_I z, l2] st σ Q ↔ ab_Run X 106 18 (1, 0, 0) [l0, ab_I z, l2] (ab_I z :: st) σ Q := ab_r_iload_n rfl kc_X11_hens dX11_hens_17
theorem rX11_hens_18 : ab_Run X 106 18 (1, 0, 0) L st σ Q ↔ ab_Run X 106 21 (1, 0, 0) L (ab_I 1000000 :: st) σ Q := ab_r_ldc_w rfl ko_X11_hens (by decide +kernel) kc_X11_hens dX11_hens_18
theorem rX11_hens_21 : ab_Run X 106 21 (1, 0, 0) L (ab_I b :: ab_I a :: st) σ Q ↔ (a ≤ b → ab_Run X 106 28 (1, 0, 0) L st σ Q) ∧ (¬ (a ≤ b) → ab_Run X 106 24 (1, 0, 0) L st σ Q) := ab_r_icmp_le rfl kc_X11_hens dX11_hens_21
theorem rX11_hens_24 : ab_Run X 106 24 (1, 0, 0) L st σ Q ↔ ab_Run X 106 25 (1, 0, 0) L (ab_I 2 :: st) σ Q := ab_r_iconst (by decide) kc_X11_hens dX11_hens_24
theorem rX11_hens_25 : ab_Run X 106 25 (1, 0, 0) L st σ Q ↔ ab_Run X 106 29 (1, 0, 0) L st σ Q := ab_r_goto rfl kc_X11_hens dX11_hens_25
theorem rX11_hens_28 : ab_Run X 106 28 (1, 0, 0) L st σ Q ↔ ab_Run X 106 29 (1, 0, 0) L (ab_I 0 :: st) σ Q := ab_r_iconst (by decide) kc_X11_hens dX11_hens_28
theorem rX11_hens_29 : ab_Run X 106 29 (1, 0, 0) L (ab_I z :: ab_R a :: st) σ Q ↔ (ab_sh σ a).1 = 12 ∧ ab_Run X 106 32 (1, 0, 0) L st (ab_wr σ a 8 z) Q := sF_11_62 ko_X11_hens kc_X11_hens dX11_hens_29
theorem rX11_hens_32 : ab_Run X 106 32 (1, 0, 0) [ab_R z, l1, l2] st σ Q ↔ z ≠ 0 ∧ ab_Run X 106 33 (1, 0, 0) [ab_R z, l1, l2] (ab_R z :: st) σ Q := ab_r_aload_n rfl kc_X11_hens dX11_hens_32
theorem rX11_hens_33 : ab_Run X 106 33 (1, 0, 0) L (ab_R a :: st) σ Q ↔ (ab_sh σ a).1 = 12 ∧ ab_Run X 106 36 (1, 0, 0) L (ab_I (ab_rd σ a 8) :: st) σ Q := gF_11_62 ko_X11_hens kc_X11_hens dX11_hens_33
theorem rX11_hens_36 : ab_Run X 106 36 (1, 0, 0) L (ab_I a :: st) σ Q ↔ (a = 0 → ab_Run X 106 41 (1, 0, 0) L st σ Q) ∧ (¬ (a = 0) → ab_Run X 106 39 (1, 0, 0) L st σ Q) := ab_r_if_eq rfl kc_X11_hens dX11_hens_36
theorem rX11_hens_39 : ab_Run X 106 39 (1, 0, 0) L st σ Q ↔ ab_Run X 106 40 (1, 0, 0) L (ab_I (-1) :: st) σ Q := ab_r_iconst (by decide) kc_X11_hens dX11_hens_39
theorem rX11_hens_40 : ab_Run X 106 40 (1, 0, 0) L [ab_I v] σ Q ↔ Q (some (ab_I v)) σ := ab_r_ireturnI rfl kc_X11_hens dX11_hens_40
theorem rX11_hens_41 : ab_Run X 106 41 (1, 0, 0) L st σ Q ↔ ab_Run X 106 42 (1, 0, 0) L (ab_I 0 :: st) σ Q := ab_r_iconst (by decide) kc_X11_hens dX11_hens_41
theorem rX11_hens_42 : ab_Run X 106 42 (1, 0, 0) [l0, l1, l2] (ab_I z :: st) σ Q ↔ (!ab_isJ l1) = true ∧ ab_Run X 106 43 (1, 0, 0) [l0, l1, ab_I z] st σ Q := ab_r_istore_n (Nat.le_of_ble_eq_true rfl) kc_X11_hens dX11_hens_42
theorem rX11_hens_43 : ab_Run X 106 43 (1, 0, 0) [l0, l1, ab_I z] st σ Q ↔ ab_Run X 106 44 (1, 0, 0) [l0, l1, ab_I z] (ab_I z :: st) σ Q := ab_r_iload_n rfl kc_X11_hens dX11_hens_43
theorem rX11_hens_44 : ab_Run X 106 44 (1, 0, 0) L st σ Q ↔ ab_Run X 106 46 (1, 0, 0) L (ab_I 20 :: st) σ Q := ab_r_bipush (by decide) kc_X11_hens dX11_hens_44
theorem rX11_hens_46 : ab_Run X 106 46 (1, 0, 0) L (ab_I b :: ab_I a :: st) σ Q ↔ (b ≤ a → ab_Run X 106 62 (1, 0, 0) L st σ Q) ∧ (¬ (b ≤ a) → ab_Run X 106 49 (1, 0, 0) L st σ Q) := ab_r_icmp_ge rfl kc_X11_hens dX11_hens_46
theorem rX11_hens_49 : ab_Run X 106 49 (1, 0, 0) L st σ Q ↔ ab_Run X 106 50 (1, 0, 0) L (ab_I 1 :: st) σ Q := ab_r_iconst (by decide) kc_X11_hens dX11_hens_49
theorem rX11_hens_50 : ab_Run X 106 50 (1, 0, 0) [l0, l1, ab_I z] st σ Q ↔ ab_Run X 106 51 (1, 0, 0) [l0, l1, ab_I z] (ab_I z :: st) σ Q := ab_r_iload_n rfl kc_X11_hens dX11_hens_50
theorem rX11_hens_51 : ab_Run X 106 51 (1, 0, 0) L (ab_I b :: ab_I a :: st) σ Q ↔ ab_Run X 106 52 (1, 0, 0) L (ab_I (ab_ok32 (fun x y => x <<< (y &&& 31)) a b) :: st) σ Q := ab_r_ishl kc_X11_hens dX11_hens_51
theorem rX11_hens_52 : ab_Run X 106 52 (1, 0, 0) [l0, ab_I z, l2] st σ Q ↔ ab_Run X 106 53 (1, 0, 0) [l0, ab_I z, l2] (ab_I z :: st) σ Q := ab_r_iload_n rfl kc_X11_hens dX11_hens_52
theorem rX11_hens_53 : ab_Run X 106 53 (1, 0, 0) L (ab_I b :: ab_I a :: st) σ Q ↔ (b ≤ a → ab_Run X 106 62 (1, 0, 0) L st σ Q) ∧ (¬ (b ≤ a) → ab_Run X 106 56 (1, 0, 0) L st σ Q) := ab_r_icmp_ge rfl kc_X11_hens dX11_hens_53
theorem rX11_hens_56 : ab_Run X 106 56 (1, 0, 0) [l0, l1, ab_I z] st σ Q ↔ (!ab_isJ l1) = true ∧ ab_Run X 106 59 (1, 0, 0) [l0, l1, ab_I (ab_w32 (z + 1))] st σ Q := ab_r_iinc rfl (by decide) kc_X11_hens dX11_hens_56
theorem rX11_hens_59 : ab_Run X 106 59 (1, 0, 0) L st σ Q ↔ ab_Run X 106 43 (1, 0, 0) L st σ Q := ab_r_goto rfl kc_X11_hens dX11_hens_59
theorem rX11_hens_62 : ab_Run X 106 62 (1, 0, 0) [l0, l1, ab_I z] st σ Q ↔ ab_Run X 106 63 (1, 0, 0) [l0, l1, ab_I z] (ab_I z :: st) σ Q := ab_r_iload_n rfl kc_X11_hens dX11_hens_62
theorem rX11_hens_63 : ab_Run X 106 63 (1, 0, 0) L [ab_I v] σ Q ↔ Q (some (ab_I v)) σ := ab_r_ireturnI rfl kc_X11_hens dX11_hens_63
theorem kc_X11_thumbs : ab_code 107 = cX11_thumbs := rfl
theorem ko_X11_thumbs : ab_ow 107 = 11 := rfl
theorem rX11_thumbs_0 : ab_Run X 107 0 (1, 0, 0) [ab_R z, l1, l2, l3, l4, l5, l6, l7] st σ Q ↔ z ≠ 0 ∧ ab_Run X 107 1 (1, 0, 0) [ab_R z, l1, l2, l3, l4, l5, l6, l7] (ab_R z :: st) σ Q := ab_r_aload_n rfl kc_X11_thumbs dX11_thumbs_0
theorem rX11_thumbs_1 : ab_Run X 107 1 (1, 0, 0) [ab_R z, l1, l2, l3, l4, l5, l6, l7] st σ Q ↔ z ≠ 0 ∧ ab_Run X 107 2 (1, 0, 0) [ab_R z, l1, l2, l3, l4, l5, l6, l7] (ab_R z :: st) σ Q := ab_r_aload_n rfl kc_X11_thumbs dX11_thumbs_1
theorem rX11_thumbs_2 : ab_Run X 107 2 (1, 0, 0) [l0, ab_I z, l2, l3, l4, l5, l6, l7] st σ Q ↔ ab_Run X 107 3 (1, 0, 0) [l0, ab_I z, l2, l3, l4, l5, l6, l7] (ab_I z :: st) σ Q := ab_r_iload_n rfl kc_X11_thumbs dX11_thumbs_2
theorem rX11_thumbs_3 : ab_Run X 107 3 (1, 0, 0) L (ab_I x1 :: ab_R a :: st) σ Q ↔ ((ab_sh σ a).1 = 12 ∧ ab_cats st ≤ 8) ∧ ab_Do X 127 [ab_R a, ab_I x1] σ (fun r σ' => ab_Run X 107 6 (1, 0, 0) L (ab_psh r st) σ' Q) := ab_r_callV (w := [ab_I x1]) (as := [ab_I x1]) (b1 := (0, 0, 0)) 0 (Or.inl rfl) (by decide) ko_X11_thumbs qM_11_139 (by decide) rfl rfl rfl rfl rfl (by decide) (Nat.le_of_ble_eq_true rfl) kc_X11_thumbs dX11_thumbs_3
theorem rX11_thumbs_6 : ab_Run X 107 6 (1, 0, 0) L (ab_I a :: st) σ Q ↔ (¬ a = 0 → ab_Run X 107 13 (1, 0, 0) L st σ Q) ∧ (¬ (¬ a = 0) → ab_Run X 107 9 (1, 0, 0) L st σ Q) := ab_r_if_ne rfl kc_X11_thumbs dX11_thumbs_6
theorem rX11_thumbs_9 : ab_Run X 107 9 (1, 0, 0) L st σ Q ↔ ab_Run X 107 10 (1, 0, 0) L (ab_I 1 :: st) σ Q := ab_r_iconst (by decide) kc_X11_thumbs dX11_thumbs_9
theorem rX11_thumbs_10 : ab_Run X 107 10 (1, 0, 0) L st σ Q ↔ ab_Run X 107 35 (1, 0, 0) L st σ Q := ab_r_goto rfl kc_X11_thumbs dX11_thumbs_10
theorem rX11_thumbs_13 : ab_Run X 107 13 (1, 0, 0) [ab_R z, l1, l2, l3, l4, l5, l6, l7] st σ Q ↔ z ≠ 0 ∧ ab_Run X 107 14 (1, 0, 0) [ab_R z, l1, l2, l3, l4, l5, l6, l7] (ab_R z :: st) σ Q := ab_r_aload_n rfl kc_X11_thumbs dX11_thumbs_13
theorem rX11_thumbs_14 : ab_Run X 107 14 (1, 0, 0) L (ab_R a :: st) σ Q ↔ (ab_sh σ a).1 = 12 ∧ ab_Run X 107 17 (1, 0, 0) L (ab_R (ab_rd σ a 7) :: st) σ Q := gF_11_58 ko_X11_thumbs kc_X11_thumbs dX11_thumbs_14
theorem rX11_thumbs_17 : ab_Run X 107 17 (1, 0, 0) L (ab_R a :: st) σ Q ↔ (ab_sh σ a).1 = 5 ∧ ab_Run X 107 20 (1, 0, 0) L (ab_R (ab_rd σ a 8) :: st) σ Q := gF_11_142 ko_X11_thumbs kc_X11_thumbs dX11_thumbs_17
theorem rX11_thumbs_20 : ab_Run X 107 20 (1, 0, 0) [l0, ab_I z, l2, l3, l4, l5, l6, l7] st σ Q ↔ ab_Run X 107 21 (1, 0, 0) [l0, ab_I z, l2, l3, l4, l5, l6, l7] (ab_I z :: st) σ Q := ab_r_iload_n rfl kc_X11_thumbs dX11_thumbs_20
theorem rX11_thumbs_21 : ab_Run X 107 21 (1, 0, 0) L (ab_I i :: ab_R a :: st) σ Q ↔ ((25 ≤ (ab_sh σ a).1 ∧ (ab_sh σ a).1 < 30) ∧ 0 ≤ i ∧ i < (ab_sh σ a).2) ∧ ab_Run X 107 22 (1, 0, 0) L (ab_R (ab_rd σ a i) :: st) σ Q := ab_r_aaload kc_X11_thumbs dX11_thumbs_21
theorem rX11_thumbs_22 : ab_Run X 107 22 (1, 0, 0) L (ab_R a :: st) σ Q ↔ (ab_sh σ a).1 = 6 ∧ ab_Run X 107 25 (1, 0, 0) L (ab_I (ab_rd σ a 9) :: st) σ Q := gF_11_297 ko_X11_thumbs kc_X11_thumbs dX11_thumbs_22
theorem rX11_thumbs_25 : ab_Run X 107 25 (1, 0, 0) L st σ Q ↔ ab_Run X 107 26 (1, 0, 0) L (ab_I (-1) :: st) σ Q := ab_r_iconst (by decide) kc_X11_thumbs dX11_thumbs_25
theorem rX11_thumbs_26 : ab_Run X 107 26 (1, 0, 0) L (ab_I b :: ab_I a :: st) σ Q ↔ (¬ a = b → ab_Run X 107 34 (1, 0, 0) L st σ Q) ∧ (¬ (¬ a = b) → ab_Run X 107 29 (1, 0, 0) L st σ Q) := ab_r_icmp_ne rfl kc_X11_thumbs dX11_thumbs_26
theorem rX11_thumbs_29 : ab_Run X 107 29 (1, 0, 0) L st σ Q ↔ ab_Run X 107 31 (1, 0, 0) L (ab_I 6 :: st) σ Q := ab_r_bipush (by decide) kc_X11_thumbs dX11_thumbs_29
theorem rX11_thumbs_31 : ab_Run X 107 31 (1, 0, 0) L st σ Q ↔ ab_Run X 107 35 (1, 0, 0) L st σ Q := ab_r_goto rfl kc_X11_thumbs dX11_thumbs_31
theorem rX11_thumbs_34 : ab_Run X 107 34 (1, 0, 0) L st σ Q ↔ ab_Run X 107 35 (1, 0, 0) L (ab_I 0 :: st) σ Q := ab_r_iconst (by decide) kc_X11_thumbs dX11_thumbs_34
theorem rX11_thumbs_35 : ab_Run X 107 35 (1, 0, 0) L (ab_I z :: ab_R a :: st) σ Q ↔ (ab_sh σ a).1 = 12 ∧ ab_Run X 107 38 (1, 0, 0) L st (ab_wr σ a 8 z) Q := sF_11_62 ko_X11_thumbs kc_X11_thumbs dX11_thumbs_35
theorem rX11_thumbs_38 : ab_Run X 107 38 (1, 0, 0) [ab_R z, l1, l2, l3, l4, l5, l6, l7] st σ Q ↔ z ≠ 0 ∧ ab_Run X 107 39 (1, 0, 0) [ab_R z, l1, l2, l3, l4, l5, l6, l7] (ab_R z :: st) σ Q := ab_r_aload_n rfl kc_X11_thumbs dX11_thumbs_38
theorem rX11_thumbs_39 : ab_Run X 107 39 (1, 0, 0) L (ab_R a :: st) σ Q ↔ (ab_sh σ a).1 = 12 ∧ ab_Run X 107 42 (1, 0, 0) L (ab_I (ab_rd σ a 8) :: st) σ Q := gF_11_62 ko_X11_thumbs kc_X11_thumbs dX11_thumbs_39
theorem rX11_thumbs_42 : ab_Run X 107 42 (1, 0, 0) L (ab_I a :: st) σ Q ↔ (a = 0 → ab_Run X 107 49 (1, 0, 0) L st σ Q) ∧ (¬ (a = 0) → ab_Run X 107 45 (1, 0, 0) L st σ Q) := ab_r_if_eq rfl kc_X11_thumbs dX11_thumbs_42
theorem rX11_thumbs_45 : ab_Run X 107 45 (1, 0, 0) L st σ Q ↔ ab_Run X 107 48 (1, 0, 0) L (ab_J (-1) :: st) σ Q := ab_r_ldc2_w rfl ko_X11_thumbs (by decide +kernel) kc_X11_thumbs dX11_thumbs_45
theorem rX11_thumbs_48 : ab_Run X 107 48 (1, 0, 0) L [ab_J v] σ Q ↔ Q (some (ab_J v)) σ := ab_r_lreturn rfl kc_X11_thumbs dX11_thumbs_48
theorem rX11_thumbs_49 : ab_Run X 107 49 (1, 0, 0) [ab_R z, l1, l2, l3, l4, l5, l6, l7] st σ Q ↔ z ≠ 0 ∧ ab_Run X 107 50 (1, 0, 0) [ab_R z, l1, l2, l3, l4, l5, l6, l7] (ab_R z :: st) σ Q := ab_r_aload_n rfl kc_X11_thumbs dX11_thumbs_49
theorem rX11_thumbs_50 : ab_Run X 107 50 (1, 0, 0) L (ab_R a :: st) σ Q ↔ (ab_sh σ a).1 = 12 ∧ ab_Run X 107 53 (1, 0, 0) L (ab_R (ab_rd σ a 7) :: st) σ Q := gF_11_58 ko_X11_thumbs kc_X11_thumbs dX11_thumbs_50
theorem rX11_thumbs_53 : ab_Run X 107 53 (1, 0, 0) L (ab_R a :: st) σ Q ↔ (ab_sh σ a).1 = 5 ∧ ab_Run X 107 56 (1, 0, 0) L (ab_R (ab_rd σ a 8) :: st) σ Q := gF_11_142 ko_X11_thumbs kc_X11_thumbs dX11_thumbs_53
theorem rX11_thumbs_56 : ab_Run X 107 56 (1, 0, 0) [l0, ab_I z, l2, l3, l4, l5, l6, l7] st σ Q ↔ ab_Run X 107 57 (1, 0, 0) [l0, ab_I z, l2, l3, l4, l5, l6, l7] (ab_I z :: st) σ Q := ab_r_iload_n rfl kc_X11_thumbs dX11_thumbs_56
theorem rX11_thumbs_57 : ab_Run X 107 57 (1, 0, 0) L (ab_I i :: ab_R a :: st) σ Q ↔ ((25 ≤ (ab_sh σ a).1 ∧ (ab_sh σ a).1 < 30) ∧ 0 ≤ i ∧ i < (ab_sh σ a).2) ∧ ab_Run X 107 58 (1, 0, 0) L (ab_R (ab_rd σ a i) :: st) σ Q := ab_r_aaload kc_X11_thumbs dX11_thumbs_57
theorem rX11_thumbs_58 : ab_Run X 107 58 (1, 0, 0) [l0, l1, l2, l3, l4, l5, l6, l7] (ab_R z :: st) σ Q ↔ (!ab_isJ l2) = true ∧ ab_Run X 107 59 (1, 0, 0) [l0, l1, l2, ab_R z, l4, l5, l6, l7] st σ Q := ab_r_astore_n (Nat.le_of_ble_eq_true rfl) kc_X11_thumbs dX11_thumbs_58
theorem rX11_thumbs_59 : ab_Run X 107 59 (1, 0, 0) [l0, l1, l2, ab_R z, l4, l5, l6, l7] st σ Q ↔ z ≠ 0 ∧ ab_Run X 107 60 (1, 0, 0) [l0, l1, l2, ab_R z, l4, l5, l6, l7] (ab_R z :: st) σ Q := ab_r_aload_n rfl kc_X11_thumbs dX11_thumbs_59
theorem rX11_thumbs_60 : ab_Run X 107 60 (1, 0, 0) L (ab_R a :: st) σ Q ↔ (ab_sh σ a).1 = 6 ∧ ab_Run X 107 63 (1, 0, 0) L (ab_I (ab_rd σ a 9) :: st) σ Q := gF_11_297 ko_X11_thumbs kc_X11_thumbs dX11_thumbs_60
theorem rX11_thumbs_63 : ab_Run X 107 63 (1, 0, 0) L (ab_I a :: st) σ Q ↔ ab_Run X 107 64 (1, 0, 0) L (ab_J a :: st) σ Q := ab_r_i2l kc_X11_thumbs dX11_thumbs_63
theorem rX11_thumbs_64 : ab_Run X 107 64 (1, 0, 0) [l0, l1, l2, ab_R z, l4, l5, l6, l7] st σ Q ↔ z ≠ 0 ∧ ab_Run X 107 65 (1, 0, 0) [l0, l1, l2, ab_R z, l4, l5, l6, l7] (ab_R z :: st) σ Q := ab_r_aload_n rfl kc_X11_thumbs dX11_thumbs_64
theorem rX11_thumbs_65 : ab_Run X 107 65 (1, 0, 0) L (ab_R a :: st) σ Q ↔ (ab_sh σ a).1 = 6 ∧ ab_Run X 107 68 (1, 0, 0) L (ab_I (ab_rd σ a 10) :: st) σ Q := gF_11_300 ko_X11_thumbs kc_X11_thumbs dX11_thumbs_65
theorem rX11_thumbs_68 : ab_Run X 107 68 (1, 0, 0) [l0, l1, l2, ab_R z, l4, l5, l6, l7] st σ Q ↔ z ≠ 0 ∧ ab_Run X 107 69 (1, 0, 0) [l0, l1, l2, ab_R z, l4, l5, l6, l7] (ab_R z :: st) σ Q := ab_r_aload_n rfl kc_X11_thumbs dX11_thumbs_68
theorem rX11_thumbs_69 : ab_Run X 107 69 (1, 0, 0) L (ab_R x2 :: ab_I x1 :: st) σ Q ↔ ab_cats st ≤ 8 ∧ ab_Do X 149 [ab_I x1, ab_R x2] σ (fun r σ' => ab_Run X 107 72 (1, 0, 0) L (ab_psh r st) σ' Q) := ab_r_callS (w := [ab_R x2, ab_I x1]) (as := [ab_I x1, ab_R x2]) (b1 := (0, 0, 0)) (by decide) ko_X11_thumbs qM_11_303 (by decide) rfl rfl rfl rfl (by decide) (Nat.le_of_ble_eq_true rfl) kc_X11_thumbs dX11_thumbs_69
theorem rX11_thumbs_72 : ab_Run X 107 72 (1, 0, 0) L (ab_J b :: ab_J a :: st) σ Q ↔ ab_Run X 107 73 (1, 0, 0) L (ab_J (ab_w64 (a * b)) :: st) σ Q := ab_r_lmul kc_X11_thumbs dX11_thumbs_72
theorem rX11_thumbs_73 : ab_Run X 107 73 (1, 0, 0) [l0, l1, l2, l3, l4, l5, l6, l7] (ab_J z :: st) σ Q ↔ (!ab_isJ l3) = true ∧ ab_Run X 107 75 (1, 0, 0) [l0, l1, l2, l3, ab_J z, ab_R 0, l6, l7] st σ Q := ab_r_lstore (Nat.le_of_ble_eq_true rfl) kc_X11_thumbs dX11_thumbs_73
theorem rX11_thumbs_75 : ab_Run X 107 75 (1, 0, 0) L st σ Q ↔ ab_Run X 107 77 (1, 0, 0) L (ab_I 100 :: st) σ Q := ab_r_bipush (by decide) kc_X11_thumbs dX11_thumbs_75
theorem rX11_thumbs_77 : ab_Run X 107 77 (1, 0, 0) [l0, l1, l2, ab_R z, l4, l5, l6, l7] st σ Q ↔ z ≠ 0 ∧ ab_Run X 107 78 (1, 0, 0) [l0, l1, l2, ab_R z, l4, l5, l6, l7] (ab_R z :: st) σ Q := ab_r_aload_n rfl kc_X11_thumbs dX11_thumbs_77
theorem rX11_thumbs_78 : ab_Run X 107 78 (1, 0, 0) L (ab_R a :: st) σ Q ↔ (ab_sh σ a).1 = 6 ∧ ab_Run X 107 81 (1, 0, 0) L (ab_I (ab_rd σ a 9) :: st) σ Q := gF_11_297 ko_X11_thumbs kc_X11_thumbs dX11_thumbs_78
theorem rX11_thumbs_81 : ab_Run X 107 81 (1, 0, 0) L (ab_I b :: ab_I a :: st) σ Q ↔ ab_Run X 107 82 (1, 0, 0) L (ab_I (ab_w32 (a - b)) :: st) σ Q := ab_r_isub kc_X11_thumbs dX11_thumbs_81
theorem rX11_thumbs_82 : ab_Run X 107 82 (1, 0, 0) L (ab_I a :: st) σ Q ↔ ab_Run X 107 83 (1, 0, 0) L (ab_J a :: st) σ Q := ab_r_i2l kc_X11_thumbs dX11_thumbs_82
theorem rX11_thumbs_83 : ab_Run X 107 83 (1, 0, 0) [l0, l1, l2, ab_R z, l4, l5, l6, l7] st σ Q ↔ z ≠ 0 ∧ ab_Run X 107 84 (1, 0, 0) [l0, l1, l2, ab_R z, l4, l5, l6, l7] (ab_R z :: st) σ Q := ab_r_aload_n rfl kc_X11_thumbs dX11_thumbs_83
theorem rX11_thumbs_84 : ab_Run X 107 84 (1, 0, 0) L (ab_R a :: st) σ Q ↔ (ab_sh σ a).1 = 6 ∧ ab_Run X 107 87 (1, 0, 0) L (ab_I (ab_rd σ a 11) :: st) σ Q := gF_11_307 ko_X11_thumbs kc_X11_thumbs dX11_thumbs_84
theorem rX11_thumbs_87 : ab_Run X 107 87 (1, 0, 0) [l0, l1, l2, ab_R z, l4, l5, l6, l7] st σ Q ↔ z ≠ 0 ∧ ab_Run X 107 88 (1, 0, 0) [l0, l1, l2, ab_R z, l4, l5, l6, l7] (ab_R z :: st) σ Q := ab_r_aload_n rfl kc_X11_thumbs dX11_thumbs_87
theorem rX11_thumbs_88 : ab_Run X 107 88 (1, 0, 0) L (ab_R x2 :: ab_I x1 :: st) σ Q ↔ ab_cats st ≤ 8 ∧ ab_Do X 149 [ab_I x1, ab_R x2] σ (fun r σ' => ab_Run X 107 91 (1, 0, 0) L (ab_psh r st) σ' Q) := ab_r_callS (w := [ab_R x2, ab_I x1]) (as := [ab_I x1, ab_R x2]) (b1 := (0, 0, 0)) (by decide) ko_X11_thumbs qM_11_303 (by decide) rfl rfl rfl rfl (by decide) (Nat.le_of_ble_eq_true rfl) kc_X11_thumbs dX11_thumbs_88
theorem rX11_thumbs_91 : ab_Run X 107 91 (1, 0, 0) L (ab_J b :: ab_J a :: st) σ Q ↔ ab_Run X 107 92 (1, 0, 0) L (ab_J (ab_w64 (a * b)) :: st) σ Q := ab_r_lmul kc_X11_thumbs dX11_thumbs_91
theorem rX11_thumbs_92 : ab_Run X 107 92 (1, 0, 0) [l0, l1, l2, l3, l4, l5, l6, l7] (ab_J z :: st) σ Q ↔ (!ab_isJ l5) = true ∧ ab_Run X 107 94 (1, 0, 0) [l0, l1, l2, l3, l4, l5, ab_J z, ab_R 0] st σ Q := ab_r_lstore (Nat.le_of_ble_eq_true rfl) kc_X11_thumbs dX11_thumbs_92
theorem rX11_thumbs_94 : ab_Run X 107 94 (1, 0, 0) [l0, l1, l2, l3, ab_J z, l5, l6, l7] st σ Q ↔ ab_Run X 107 96 (1, 0, 0) [l0, l1, l2, l3, ab_J z, l5, l6, l7] (ab_J z :: st) σ Q := ab_r_lload rfl kc_X11_thumbs dX11_thumbs_94
theorem rX11_thumbs_96 : ab_Run X 107 96 (1, 0, 0) [l0, l1, l2, l3, ab_J z, l5, l6, l7] st σ Q ↔ ab_Run X 107 98 (1, 0, 0) [l0, l1, l2, l3, ab_J z, l5, l6, l7] (ab_J z :: st) σ Q := ab_r_lload rfl kc_X11_thumbs dX11_thumbs_96
theorem rX11_thumbs_98 : ab_Run X 107 98 (1, 0, 0) [l0, l1, l2, l3, l4, l5, ab_J z, l7] st σ Q ↔ ab_Run X 107 100 (1, 0, 0) [l0, l1, l2, l3, l4, l5, ab_J z, l7] (ab_J z :: st) σ Q := ab_r_lload rfl kc_X11_thumbs dX11_thumbs_98
theorem rX11_thumbs_100 : ab_Run X 107 100 (1, 0, 0) L (ab_J b :: ab_J a :: st) σ Q ↔ ab_Run X 107 101 (1, 0, 0) L (ab_J (ab_w64 (a + b)) :: st) σ Q := ab_r_ladd kc_X11_thumbs dX11_thumbs_100
theorem rX11_thumbs_101 : ab_Run X 107 101 (1, 0, 0) [l0, l1, ab_I z, l3, l4, l5, l6, l7] st σ Q ↔ ab_Run X 107 102 (1, 0, 0) [l0, l1, ab_I z, l3, l4, l5, l6, l7] (ab_I z :: st) σ Q := ab_r_iload_n rfl kc_X11_thumbs dX11_thumbs_101
theorem rX11_thumbs_102 : ab_Run X 107 102 (1, 0, 0) L (ab_I x3 :: ab_J x2 :: ab_J x1 :: st) σ Q ↔ ab_cats st ≤ 8 ∧ ab_Do X 147 [ab_J x1, ab_J x2, ab_I x3] σ (fun r σ' => ab_Run X 107 105 (1, 0, 0) L (ab_psh r st) σ' Q) := ab_r_callS (w := [ab_I x3, ab_J x2, ab_J x1]) (as := [ab_J x1, ab_J x2, ab_I x3]) (b1 := (0, 0, 0)) (by decide) ko_X11_thumbs qM_11_218 (by decide) rfl rfl rfl rfl (by decide) (Nat.le_of_ble_eq_true rfl) kc_X11_thumbs dX11_thumbs_102
theorem rX11_thumbs_105 : ab_Run X 107 105 (1, 0, 0) L [ab_J v] σ Q ↔ Q (some (ab_J v)) σ := ab_r_lreturn rfl kc_X11_thumbs dX11_thumbs_105
theorem kc_X11_let : ab_code 108 = cX11_let := rfl
theorem ko_X11_let : ab_ow 108 = 11 := rfl
theorem rX11_let_0 : ab_Run X 108 0 (2, 0, 0) [ab_R z, l1, l2, l3, l4] st σ Q ↔ z ≠ 0 ∧ ab_Run X 108 1 (2, 0, 0) [ab_R z, l1, l2, l3, l4] (ab_R z :: st) σ Q := ab_r_aload_n rfl kc_X11_let dX11_let_0
theorem rX11_let_1 : ab_Run X 108 1 (2, 0, 0) [ab_R z, l1, l2, l3, l4] st σ Q ↔ z ≠ 0 ∧ ab_Run X 108 2 (2, 0, 0) [ab_R z, l1, l2, l3, l4] (ab_R z :: st) σ Q := ab_r_aload_n rfl kc_X11_let dX11_let_1
theorem rX11_let_2 : ab_Run X 108 2 (2, 0, 0) [l0, ab_I z, l2, l3, l4] st σ Q ↔ ab_Run X 108 3 (2, 0, 0) [l0, ab_I z, l2, l3, l4] (ab_I z :: st) σ Q := ab_r_iload_n rfl kc_X11_let dX11_let_2
theorem rX11_let_3 : ab_Run X 108 3 (2, 0, 0) [l0, l1, ab_I z, l3, l4] st σ Q ↔ ab_Run X 108 4 (2, 0, 0) [l0, l1, ab_I z, l3, l4] (ab_I z :: st) σ Q := ab_r_iload_n rfl kc_X11_let dX11_let_3
theorem rX11_let_4 : ab_Run X 108 4 (2, 0, 0) L (ab_I x2 :: ab_I x1 :: ab_R a :: st) σ Q ↔ ((ab_sh σ a).1 = 12 ∧ ab_cats st ≤ 8) ∧ ab_Do X 128 [ab_R a, ab_I x1, ab_I x2] σ (fun r σ' => ab_Run X 108 7 (2, 0, 0) L (ab_psh r st) σ' Q) := ab_r_callV (w := [ab_I x2, ab_I x1]) (as := [ab_I x1, ab_I x2]) (b1 := (1, 0, 0)) 0 (Or.inl rfl) (by decide) ko_X11_let qM_11_310 (by decide) rfl rfl rfl rfl rfl (by decide) (Nat.le_of_ble_eq_true rfl) kc_X11_let dX11_let_4
theorem rX11_let_7 : ab_Run X 108 7 (2, 0, 0) L (ab_I a :: st) σ Q ↔ (a = 0 → ab_Run X 108 14 (2, 0, 0) L st σ Q) ∧ (¬ (a = 0) → ab_Run X 108 10 (2, 0, 0) L st σ Q) := ab_r_if_eq rfl kc_X11_let dX11_let_7
theorem rX11_let_10 : ab_Run X 108 10 (2, 0, 0) L st σ Q ↔ ab_Run X 108 11 (2, 0, 0) L (ab_I 0 :: st) σ Q := ab_r_iconst (by decide) kc_X11_let dX11_let_10
theorem rX11_let_11 : ab_Run X 108 11 (2, 0, 0) L st σ Q ↔ ab_Run X 108 15 (2, 0, 0) L st σ Q := ab_r_goto rfl kc_X11_let dX11_let_11
theorem rX11_let_14 : ab_Run X 108 14 (2, 0, 0) L st σ Q ↔ ab_Run X 108 15 (2, 0, 0) L (ab_I 1 :: st) σ Q := ab_r_iconst (by decide) kc_X11_let dX11_let_14
theorem rX11_let_15 : ab_Run X 108 15 (2, 0, 0) L (ab_I z :: ab_R a :: st) σ Q ↔ (ab_sh σ a).1 = 12 ∧ ab_Run X 108 18 (2, 0, 0) L st (ab_wr σ a 8 z) Q := sF_11_62 ko_X11_let kc_X11_let dX11_let_15
theorem rX11_let_18 : ab_Run X 108 18 (2, 0, 0) [ab_R z, l1, l2, l3, l4] st σ Q ↔ z ≠ 0 ∧ ab_Run X 108 19 (2, 0, 0) [ab_R z, l1, l2, l3, l4] (ab_R z :: st) σ Q := ab_r_aload_n rfl kc_X11_let dX11_let_18
theorem rX11_let_19 : ab_Run X 108 19 (2, 0, 0) L (ab_R a :: st) σ Q ↔ (ab_sh σ a).1 = 12 ∧ ab_Run X 108 22 (2, 0, 0) L (ab_I (ab_rd σ a 8) :: st) σ Q := gF_11_62 ko_X11_let kc_X11_let dX11_let_19
theorem rX11_let_22 : ab_Run X 108 22 (2, 0, 0) L (ab_I a :: st) σ Q ↔ (a = 0 → ab_Run X 108 27 (2, 0, 0) L st σ Q) ∧ (¬ (a = 0) → ab_Run X 108 25 (2, 0, 0) L st σ Q) := ab_r_if_eq rfl kc_X11_let dX11_let_22
theorem rX11_let_25 : ab_Run X 108 25 (2, 0, 0) L st σ Q ↔ ab_Run X 108 26 (2, 0, 0) L (ab_I (-1) :: st) σ Q := ab_r_iconst (by decide) kc_X11_let dX11_let_25
theorem rX11_let_26 : ab_Run X 108 26 (2, 0, 0) L [ab_I v] σ Q ↔ Q (some (ab_I v)) σ := ab_r_ireturnI rfl kc_X11_let dX11_let_26
theorem rX11_let_27 : ab_Run X 108 27 (2, 0, 0) [l0, ab_I z, l2, l3, l4] st σ Q ↔ ab_Run X 108 28 (2, 0, 0) [l0, ab_I z, l2, l3, l4] (ab_I z :: st) σ Q := ab_r_iload_n rfl kc_X11_let dX11_let_27
theorem rX11_let_28 : ab_Run X 108 28 (2, 0, 0) [l0, l1, ab_I z, l3, l4] st σ Q ↔ ab_Run X 108 29 (2, 0, 0) [l0, l1, ab_I z, l3, l4] (ab_I z :: st) σ Q := ab_r_iload_n rfl kc_X11_let dX11_let_28
theorem rX11_let_29 : ab_Run X 108 29 (2, 0, 0) L (ab_I b :: ab_I a :: st) σ Q ↔ ab_cats st ≤ 8 ∧ ab_Run X 108 32 (2, 0, 0) L (ab_I (if b < a then b else a) :: st) σ Q := ab_r_math 1005 (Or.inr ⟨rfl, rfl⟩) (by decide) ko_X11_let qM_11_313 (by decide) kc_X11_let dX11_let_29
theorem rX11_let_32 : ab_Run X 108 32 (2, 0, 0) [l0, l1, l2, l3, l4] (ab_I z :: st) σ Q ↔ (!ab_isJ l2) = true ∧ ab_Run X 108 33 (2, 0, 0) [l0, l1, l2, ab_I z, l4] st σ Q := ab_r_istore_n (Nat.le_of_ble_eq_true rfl) kc_X11_let dX11_let_32
theorem rX11_let_33 : ab_Run X 108 33 (2, 0, 0) [l0, ab_I z, l2, l3, l4] st σ Q ↔ ab_Run X 108 34 (2, 0, 0) [l0, ab_I z, l2, l3, l4] (ab_I z :: st) σ Q := ab_r_iload_n rfl kc_X11_let dX11_let_33
theorem rX11_let_34 : ab_Run X 108 34 (2, 0, 0) [l0, l1, ab_I z, l3, l4] st σ Q ↔ ab_Run X 108 35 (2, 0, 0) [l0, l1, ab_I z, l3, l4] (ab_I z :: st) σ Q := ab_r_iload_n rfl kc_X11_let dX11_let_34
theorem rX11_let_35 : ab_Run X 108 35 (2, 0, 0) L (ab_I b :: ab_I a :: st) σ Q ↔ ab_cats st ≤ 8 ∧ ab_Run X 108 38 (2, 0, 0) L (ab_I (if a < b then b else a) :: st) σ Q := ab_r_math 1004 (Or.inl ⟨rfl, rfl⟩) (by decide) ko_X11_let qM_11_316 (by decide) kc_X11_let dX11_let_35
theorem rX11_let_38 : ab_Run X 108 38 (2, 0, 0) [l0, l1, l2, l3, l4] (ab_I z :: st) σ Q ↔ (!ab_isJ l3) = true ∧ ab_Run X 108 40 (2, 0, 0) [l0, l1, l2, l3, ab_I z] st σ Q := ab_r_istore (Nat.le_of_ble_eq_true rfl) kc_X11_let dX11_let_38
theorem rX11_let_40 : ab_Run X 108 40 (2, 0, 0) [ab_R z, l1, l2, l3, l4] st σ Q ↔ z ≠ 0 ∧ ab_Run X 108 41 (2, 0, 0) [ab_R z, l1, l2, l3, l4] (ab_R z :: st) σ Q := ab_r_aload_n rfl kc_X11_let dX11_let_40
theorem rX11_let_41 : ab_Run X 108 41 (2, 0, 0) L (ab_R a :: st) σ Q ↔ (ab_sh σ a).1 = 12 ∧ ab_Run X 108 44 (2, 0, 0) L (ab_R (ab_rd σ a 7) :: st) σ Q := gF_11_58 ko_X11_let kc_X11_let dX11_let_41
theorem rX11_let_44 : ab_Run X 108 44 (2, 0, 0) L (ab_R a :: st) σ Q ↔ (ab_sh σ a).1 = 5 ∧ ab_Run X 108 47 (2, 0, 0) L (ab_R (ab_rd σ a 8) :: st) σ Q := gF_11_142 ko_X11_let kc_X11_let dX11_let_44
theorem rX11_let_47 : ab_Run X 108 47 (2, 0, 0) [l0, l1, l2, l3, ab_I z] st σ Q ↔ ab_Run X 108 49 (2, 0, 0) [l0, l1, l2, l3, ab_I z] (ab_I z :: st) σ Q := ab_r_iload rfl kc_X11_let dX11_let_47
theorem rX11_let_49 : ab_Run X 108 49 (2, 0, 0) L (ab_I i :: ab_R a :: st) σ Q ↔ ((25 ≤ (ab_sh σ a).1 ∧ (ab_sh σ a).1 < 30) ∧ 0 ≤ i ∧ i < (ab_sh σ a).2) ∧ ab_Run X 108 50 (2, 0, 0) L (ab_R (ab_rd σ a i) :: st) σ Q := ab_r_aaload kc_X11_let dX11_let_49
theorem rX11_let_50 : ab_Run X 108 50 (2, 0, 0) L (ab_R a :: st) σ Q ↔ (ab_sh σ a).1 = 6 ∧ ab_Run X 108 53 (2, 0, 0) L (ab_I (ab_rd σ a 5) :: st) σ Q := gF_11_319 ko_X11_let kc_X11_let dX11_let_50
theorem rX11_let_53 : ab_Run X 108 53 (2, 0, 0) [ab_R z, l1, l2, l3, l4] st σ Q ↔ z ≠ 0 ∧ ab_Run X 108 54 (2, 0, 0) [ab_R z, l1, l2, l3, l4] (ab_R z :: st) σ Q := ab_r_aload_n rfl kc_X11_let dX11_let_53
theorem rX11_let_54 : ab_Run X 108 54 (2, 0, 0) L (ab_R a :: st) σ Q ↔ (ab_sh σ a).1 = 12 ∧ ab_Run X 108 57 (2, 0, 0) L (ab_R (ab_rd σ a 7) :: st) σ Q := gF_11_58 ko_X11_let kc_X11_let dX11_let_54
theorem rX11_let_57 : ab_Run X 108 57 (2, 0, 0) L (ab_R a :: st) σ Q ↔ (ab_sh σ a).1 = 5 ∧ ab_Run X 108 60 (2, 0, 0) L (ab_R (ab_rd σ a 8) :: st) σ Q := gF_11_142 ko_X11_let kc_X11_let dX11_let_57
theorem rX11_let_60 : ab_Run X 108 60 (2, 0, 0) [l0, l1, l2, ab_I z, l4] st σ Q ↔ ab_Run X 108 61 (2, 0, 0) [l0, l1, l2, ab_I z, l4] (ab_I z :: st) σ Q := ab_r_iload_n rfl kc_X11_let dX11_let_60
theorem rX11_let_61 : ab_Run X 108 61 (2, 0, 0) L (ab_I i :: ab_R a :: st) σ Q ↔ ((25 ≤ (ab_sh σ a).1 ∧ (ab_sh σ a).1 < 30) ∧ 0 ≤ i ∧ i < (ab_sh σ a).2) ∧ ab_Run X 108 62 (2, 0, 0) L (ab_R (ab_rd σ a i) :: st) σ Q := ab_r_aaload kc_X11_let dX11_let_61
theorem rX11_let_62 : ab_Run X 108 62 (2, 0, 0) L (ab_R a :: st) σ Q ↔ (ab_sh σ a).1 = 6 ∧ ab_Run X 108 65 (2, 0, 0) L (ab_I (ab_rd σ a 5) :: st) σ Q := gF_11_319 ko_X11_let kc_X11_let dX11_let_62
theorem rX11_let_65 : ab_Run X 108 65 (2, 0, 0) L (ab_I b :: ab_I a :: st) σ Q ↔ (a ≤ b → ab_Run X 108 73 (2, 0, 0) L st σ Q) ∧ (¬ (a ≤ b) → ab_Run X 108 68 (2, 0, 0) L st σ Q) := ab_r_icmp_le rfl kc_X11_let dX11_let_65
theorem rX11_let_68 : ab_Run X 108 68 (2, 0, 0) [l0, l1, l2, l3, ab_I z] st σ Q ↔ ab_Run X 108 70 (2, 0, 0) [l0, l1, l2, l3, ab_I z] (ab_I z :: st) σ Q := ab_r_iload rfl kc_X11_let dX11_let_68
theorem rX11_let_70 : ab_Run X 108 70 (2, 0, 0) L st σ Q ↔ ab_Run X 108 74 (2, 0, 0) L st σ Q := ab_r_goto rfl kc_X11_let dX11_let_70
theorem rX11_let_73 : ab_Run X 108 73 (2, 0, 0) [l0, l1, l2, ab_I z, l4] st σ Q ↔ ab_Run X 108 74 (2, 0, 0) [l0, l1, l2, ab_I z, l4] (ab_I z :: st) σ Q := ab_r_iload_n rfl kc_X11_let dX11_let_73
theorem rX11_let_74 : ab_Run X 108 74 (2, 0, 0) L [ab_I v] σ Q ↔ Q (some (ab_I v)) σ := ab_r_ireturnI rfl kc_X11_let dX11_let_74
theorem kc_X11_worth : ab_code 109 = cX11_worth := rfl
theorem ko_X11_worth : ab_ow 109 = 11 := rfl
theorem rX11_worth_0 : ab_Run X 109 0 (1, 0, 0) [ab_R z, l1] st σ Q ↔ z ≠ 0 ∧ ab_Run X 109 1 (1, 0, 0) [ab_R z, l1] (ab_R z :: st) σ Q := ab_r_aload_n rfl kc_X11_worth dX11_worth_0
theorem rX11_worth_1 : ab_Run X 109 1 (1, 0, 0) [ab_R z, l1] st σ Q ↔ z ≠ 0 ∧ ab_Run X 109 2 (1, 0, 0) [ab_R z, l1] (ab_R z :: st) σ Q := ab_r_aload_n rfl kc_X11_worth dX11_worth_1
theorem rX11_worth_2 : ab_Run X 109 2 (1, 0, 0) [l0, ab_I z] st σ Q ↔ ab_Run X 109 3 (1, 0, 0) [l0, ab_I z] (ab_I z :: st) σ Q := ab_r_iload_n rfl kc_X11_worth dX11_worth_2
theorem rX11_worth_3 : ab_Run X 109 3 (1, 0, 0) L (ab_I x1 :: ab_R a :: st) σ Q ↔ ((ab_sh σ a).1 = 12 ∧ ab_cats st ≤ 8) ∧ ab_Do X 127 [ab_R a, ab_I x1] σ (fun r σ' => ab_Run X 109 6 (1, 0, 0) L (ab_psh r st) σ' Q) := ab_r_callV (w := [ab_I x1]) (as := [ab_I x1]) (b1 := (0, 0, 0)) 0 (Or.inl rfl) (by decide) ko_X11_worth qM_11_139 (by decide) rfl rfl rfl rfl rfl (by decide) (Nat.le_of_ble_eq_true rfl) kc_X11_worth dX11_worth_3
theorem rX11_worth_6 : ab_Run X 109 6 (1, 0, 0) L (ab_I a :: st) σ Q ↔ (a = 0 → ab_Run X 109 13 (1, 0, 0) L st σ Q) ∧ (¬ (a = 0) → ab_Run X 109 9 (1, 0, 0) L st σ Q) := ab_r_if_eq rfl kc_X11_worth dX11_worth_6
theorem rX11_worth_9 : ab_Run X 109 9 (1, 0, 0) L st σ Q ↔ ab_Run X 109 10 (1, 0, 0) L (ab_I 0 :: st) σ Q := ab_r_iconst (by decide) kc_X11_worth dX11_worth_9
theorem rX11_worth_10 : ab_Run X 109 10 (1, 0, 0) L st σ Q ↔ ab_Run X 109 14 (1, 0, 0) L st σ Q := ab_r_goto rfl kc_X11_worth dX11_worth_10
theorem rX11_worth_13 : ab_Run X 109 13 (1, 0, 0) L st σ Q ↔ ab_Run X 109 14 (1, 0, 0) L (ab_I 1 :: st) σ Q := ab_r_iconst (by decide) kc_X11_worth dX11_worth_13
theorem rX11_worth_14 : ab_Run X 109 14 (1, 0, 0) L (ab_I z :: ab_R a :: st) σ Q ↔ (ab_sh σ a).1 = 12 ∧ ab_Run X 109 17 (1, 0, 0) L st (ab_wr σ a 8 z) Q := sF_11_62 ko_X11_worth kc_X11_worth dX11_worth_14
theorem rX11_worth_17 : ab_Run X 109 17 (1, 0, 0) [ab_R z, l1] st σ Q ↔ z ≠ 0 ∧ ab_Run X 109 18 (1, 0, 0) [ab_R z, l1] (ab_R z :: st) σ Q := ab_r_aload_n rfl kc_X11_worth dX11_worth_17
theorem rX11_worth_18 : ab_Run X 109 18 (1, 0, 0) L (ab_R a :: st) σ Q ↔ (ab_sh σ a).1 = 12 ∧ ab_Run X 109 21 (1, 0, 0) L (ab_I (ab_rd σ a 8) :: st) σ Q := gF_11_62 ko_X11_worth kc_X11_worth dX11_worth_18
theorem rX11_worth_21 : ab_Run X 109 21 (1, 0, 0) L (ab_I a :: st) σ Q ↔ (¬ a = 0 → ab_Run X 109 39 (1, 0, 0) L st σ Q) ∧ (¬ (¬ a = 0) → ab_Run X 109 24 (1, 0, 0) L st σ Q) := ab_r_if_ne rfl kc_X11_worth dX11_worth_21
theorem rX11_worth_24 : ab_Run X 109 24 (1, 0, 0) [ab_R z, l1] st σ Q ↔ z ≠ 0 ∧ ab_Run X 109 25 (1, 0, 0) [ab_R z, l1] (ab_R z :: st) σ Q := ab_r_aload_n rfl kc_X11_worth dX11_worth_24
theorem rX11_worth_25 : ab_Run X 109 25 (1, 0, 0) L (ab_R a :: st) σ Q ↔ (ab_sh σ a).1 = 12 ∧ ab_Run X 109 28 (1, 0, 0) L (ab_R (ab_rd σ a 7) :: st) σ Q := gF_11_58 ko_X11_worth kc_X11_worth dX11_worth_25
theorem rX11_worth_28 : ab_Run X 109 28 (1, 0, 0) L (ab_R a :: st) σ Q ↔ (ab_sh σ a).1 = 5 ∧ ab_Run X 109 31 (1, 0, 0) L (ab_R (ab_rd σ a 8) :: st) σ Q := gF_11_142 ko_X11_worth kc_X11_worth dX11_worth_28
theorem rX11_worth_31 : ab_Run X 109 31 (1, 0, 0) [l0, ab_I z] st σ Q ↔ ab_Run X 109 32 (1, 0, 0) [l0, ab_I z] (ab_I z :: st) σ Q := ab_r_iload_n rfl kc_X11_worth dX11_worth_31
theorem rX11_worth_32 : ab_Run X 109 32 (1, 0, 0) L (ab_I i :: ab_R a :: st) σ Q ↔ ((25 ≤ (ab_sh σ a).1 ∧ (ab_sh σ a).1 < 30) ∧ 0 ≤ i ∧ i < (ab_sh σ a).2) ∧ ab_Run X 109 33 (1, 0, 0) L (ab_R (ab_rd σ a i) :: st) σ Q := ab_r_aaload kc_X11_worth dX11_worth_32
theorem rX11_worth_33 : ab_Run X 109 33 (1, 0, 0) L (ab_R a :: st) σ Q ↔ (ab_sh σ a).1 = 6 ∧ ab_Run X 109 36 (1, 0, 0) L (ab_I (ab_rd σ a 5) :: st) σ Q := gF_11_319 ko_X11_worth kc_X11_worth dX11_worth_33
theorem rX11_worth_36 : ab_Run X 109 36 (1, 0, 0) L st σ Q ↔ ab_Run X 109 40 (1, 0, 0) L st σ Q := ab_r_goto rfl kc_X11_worth dX11_worth_36
theorem rX11_worth_39 : ab_Run X 109 39 (1, 0, 0) L st σ Q ↔ ab_Run X 109 40 (1, 0, 0) L (ab_I (-1) :: st) σ Q := ab_r_iconst (by decide) kc_X11_worth dX11_worth_39
theorem rX11_worth_40 : ab_Run X 109 40 (1, 0, 0) L [ab_I v] σ Q ↔ Q (some (ab_I v)) σ := ab_r_ireturnI rfl kc_X11_worth dX11_worth_40
theorem kc_X11_knob : ab_code 110 = cX11_knob := rfl
theorem ko_X11_knob : ab_ow 110 = 11 := rfl
theorem rX11_knob_0 : ab_Run X 110 0 (6, 0, 0) [ab_R z, l1] st σ Q ↔ z ≠ 0 ∧ ab_Run X 110 1 (6, 0, 0) [ab_R z, l1] (ab_R z :: st) σ Q := ab_r_aload_n rfl kc_X11_knob dX11_knob_0
theorem rX11_knob_1 : ab_Run X 110 1 (6, 0, 0) [ab_R z, l1] st σ Q ↔ z ≠ 0 ∧ ab_Run X 110 2 (6, 0, 0) [ab_R z, l1] (ab_R z :: st) σ Q := ab_r_aload_n rfl kc_X11_knob dX11_knob_1
theorem rX11_knob_2 : ab_Run X 110 2 (6, 0, 0) [l0, ab_I z] st σ Q ↔ ab_Run X 110 3 (6, 0, 0) [l0, ab_I z] (ab_I z :: st) σ Q := ab_r_iload_n rfl kc_X11_knob dX11_knob_2
theorem rX11_knob_3 : ab_Run X 110 3 (6, 0, 0) L (ab_I x1 :: ab_R a :: st) σ Q ↔ ((ab_sh σ a).1 = 12 ∧ ab_cats st ≤ 8) ∧ ab_Do X 131 [ab_R a, ab_I x1] σ (fun r σ' => ab_Run X 110 6 (6, 0, 0) L (ab_psh r st) σ' Q) := ab_r_callV (w := [ab_I x1]) (as := [ab_I x1]) (b1 := (0, 0, 0)) 0 (Or.inl rfl) (by decide) ko_X11_knob qM_11_322 (by decide) rfl rfl rfl rfl rfl (by decide) (Nat.le_of_ble_eq_true rfl) kc_X11_knob dX11_knob_3
theorem rX11_knob_6 : ab_Run X 110 6 (6, 0, 0) L (ab_I a :: st) σ Q ↔ (a = 0 → ab_Run X 110 13 (6, 0, 0) L st σ Q) ∧ (¬ (a = 0) → ab_Run X 110 9 (6, 0, 0) L st σ Q) := ab_r_if_eq rfl kc_X11_knob dX11_knob_6
theorem rX11_knob_9 : ab_Run X 110 9 (6, 0, 0) L st σ Q ↔ ab_Run X 110 10 (6, 0, 0) L (ab_I 0 :: st) σ Q := ab_r_iconst (by decide) kc_X11_knob dX11_knob_9
theorem rX11_knob_10 : ab_Run X 110 10 (6, 0, 0) L st σ Q ↔ ab_Run X 110 14 (6, 0, 0) L st σ Q := ab_r_goto rfl kc_X11_knob dX11_knob_10
theorem rX11_knob_13 : ab_Run X 110 13 (6, 0, 0) L st σ Q ↔ ab_Run X 110 14 (6, 0, 0) L (ab_I 1 :: st) σ Q := ab_r_iconst (by decide) kc_X11_knob dX11_knob_13
theorem rX11_knob_14 : ab_Run X 110 14 (6, 0, 0) L (ab_I z :: ab_R a :: st) σ Q ↔ (ab_sh σ a).1 = 12 ∧ ab_Run X 110 17 (6, 0, 0) L st (ab_wr σ a 8 z) Q := sF_11_62 ko_X11_knob kc_X11_knob dX11_knob_14
theorem rX11_knob_17 : ab_Run X 110 17 (6, 0, 0) [ab_R z, l1] st σ Q ↔ z ≠ 0 ∧ ab_Run X 110 18 (6, 0, 0) [ab_R z, l1] (ab_R z :: st) σ Q := ab_r_aload_n rfl kc_X11_knob dX11_knob_17
theorem rX11_knob_18 : ab_Run X 110 18 (6, 0, 0) L (ab_R a :: st) σ Q ↔ (ab_sh σ a).1 = 12 ∧ ab_Run X 110 21 (6, 0, 0) L (ab_I (ab_rd σ a 8) :: st) σ Q := gF_11_62 ko_X11_knob kc_X11_knob dX11_knob_18
theorem rX11_knob_21 : ab_Run X 110 21 (6, 0, 0) L (ab_I a :: st) σ Q ↔ (¬ a = 0 → ab_Run X 110 33 (6, 0, 0) L st σ Q) ∧ (¬ (¬ a = 0) → ab_Run X 110 24 (6, 0, 0) L st σ Q) := ab_r_if_ne rfl kc_X11_knob dX11_knob_21
theorem rX11_knob_24 : ab_Run X 110 24 (6, 0, 0) [ab_R z, l1] st σ Q ↔ z ≠ 0 ∧ ab_Run X 110 25 (6, 0, 0) [ab_R z, l1] (ab_R z :: st) σ Q := ab_r_aload_n rfl kc_X11_knob dX11_knob_24
theorem rX11_knob_25 : ab_Run X 110 25 (6, 0, 0) [l0, ab_I z] st σ Q ↔ ab_Run X 110 26 (6, 0, 0) [l0, ab_I z] (ab_I z :: st) σ Q := ab_r_iload_n rfl kc_X11_knob dX11_knob_25
theorem rX11_knob_26 : ab_Run X 110 26 (6, 0, 0) L st σ Q ↔ ab_Run X 110 27 (6, 0, 0) L (ab_I 0 :: st) σ Q := ab_r_iconst (by decide) kc_X11_knob dX11_knob_26
theorem rX11_knob_27 : ab_Run X 110 27 (6, 0, 0) L (ab_I x2 :: ab_I x1 :: ab_R a :: st) σ Q ↔ ((ab_sh σ a).1 = 12 ∧ ab_cats st ≤ 8) ∧ ab_Do X 145 [ab_R a, ab_I x1, ab_I x2] σ (fun r σ' => ab_Run X 110 30 (6, 0, 0) L (ab_psh r st) σ' Q) := ab_r_callV (w := [ab_I x2, ab_I x1]) (as := [ab_I x1, ab_I x2]) (b1 := (5, 0, 0)) 0 (Or.inl rfl) (by decide) ko_X11_knob qM_11_325 (by decide) rfl rfl rfl rfl rfl (by decide) (Nat.le_of_ble_eq_true rfl) kc_X11_knob dX11_knob_27
theorem rX11_knob_30 : ab_Run X 110 30 (6, 0, 0) L st σ Q ↔ ab_Run X 110 34 (6, 0, 0) L st σ Q := ab_r_goto rfl kc_X11_knob dX11_knob_30
theorem rX11_knob_33 : ab_Run X 110 33 (6, 0, 0) L st σ Q ↔ ab_Run X 110 34 (6, 0, 0) L (ab_I (-1) :: st) σ Q := ab_r_iconst (by decide) kc_X11_knob dX11_knob_33
theorem rX11_knob_34 : ab_Run X 110 34 (6, 0, 0) L [ab_I v] σ Q ↔ Q (some (ab_I v)) σ := ab_r_ireturnI rfl kc_X11_knob dX11_knob_34
theorem kc_X11_owners : ab_code 111 = cX11_owners := rfl
theorem ko_X11_owners : ab_ow 111 = 11 := rfl
theorem rX11_owners_0 : ab_Run X 111 0 (6, 0, 0) [ab_R z, l1] st σ Q ↔ z ≠ 0 ∧ ab_Run X 111 1 (6, 0, 0) [ab_R z, l1] (ab_R z :: st) σ Q := ab_r_aload_n rfl kc_X11_owners dX11_owners_0
theorem rX11_owners_1 : ab_Run X 111 1 (6, 0, 0) [ab_R z, l1] st σ Q ↔ z ≠ 0 ∧ ab_Run X 111 2 (6, 0, 0) [ab_R z, l1] (ab_R z :: st) σ Q := ab_r_aload_n rfl kc_X11_owners dX11_owners_1
theorem rX11_owners_2 : ab_Run X 111 2 (6, 0, 0) [l0, ab_I z] st σ Q ↔ ab_Run X 111 3 (6, 0, 0) [l0, ab_I z] (ab_I z :: st) σ Q := ab_r_iload_n rfl kc_X11_owners dX11_owners_2
theorem rX11_owners_3 : ab_Run X 111 3 (6, 0, 0) L (ab_I x1 :: ab_R a :: st) σ Q ↔ ((ab_sh σ a).1 = 12 ∧ ab_cats st ≤ 8) ∧ ab_Do X 131 [ab_R a, ab_I x1] σ (fun r σ' => ab_Run X 111 6 (6, 0, 0) L (ab_psh r st) σ' Q) := ab_r_callV (w := [ab_I x1]) (as := [ab_I x1]) (b1 := (0, 0, 0)) 0 (Or.inl rfl) (by decide) ko_X11_owners qM_11_322 (by decide) rfl rfl rfl rfl rfl (by decide) (Nat.le_of_ble_eq_true rfl) kc_X11_owners dX11_owners_3
theorem rX11_owners_6 : ab_Run X 111 6 (6, 0, 0) L (ab_I a :: st) σ Q ↔ (a = 0 → ab_Run X 111 13 (6, 0, 0) L st σ Q) ∧ (¬ (a = 0) → ab_Run X 111 9 (6, 0, 0) L st σ Q) := ab_r_if_eq rfl kc_X11_owners dX11_owners_6
theorem rX11_owners_9 : ab_Run X 111 9 (6, 0, 0) L st σ Q ↔ ab_Run X 111 10 (6, 0, 0) L (ab_I 0 :: st) σ Q := ab_r_iconst (by decide) kc_X11_owners dX11_owners_9
theorem rX11_owners_10 : ab_Run X 111 10 (6, 0, 0) L st σ Q ↔ ab_Run X 111 14 (6, 0, 0) L st σ Q := ab_r_goto rfl kc_X11_owners dX11_owners_10
theorem rX11_owners_13 : ab_Run X 111 13 (6, 0, 0) L st σ Q ↔ ab_Run X 111 14 (6, 0, 0) L (ab_I 1 :: st) σ Q := ab_r_iconst (by decide) kc_X11_owners dX11_owners_13
theorem rX11_owners_14 : ab_Run X 111 14 (6, 0, 0) L (ab_I z :: ab_R a :: st) σ Q ↔ (ab_sh σ a).1 = 12 ∧ ab_Run X 111 17 (6, 0, 0) L st (ab_wr σ a 8 z) Q := sF_11_62 ko_X11_owners kc_X11_owners dX11_owners_14
theorem rX11_owners_17 : ab_Run X 111 17 (6, 0, 0) [ab_R z, l1] st σ Q ↔ z ≠ 0 ∧ ab_Run X 111 18 (6, 0, 0) [ab_R z, l1] (ab_R z :: st) σ Q := ab_r_aload_n rfl kc_X11_owners dX11_owners_17
theorem rX11_owners_18 : ab_Run X 111 18 (6, 0, 0) L (ab_R a :: st) σ Q ↔ (ab_sh σ a).1 = 12 ∧ ab_Run X 111 21 (6, 0, 0) L (ab_I (ab_rd σ a 8) :: st) σ Q := gF_11_62 ko_X11_owners kc_X11_owners dX11_owners_18
theorem rX11_owners_21 : ab_Run X 111 21 (6, 0, 0) L (ab_I a :: st) σ Q ↔ (¬ a = 0 → ab_Run X 111 33 (6, 0, 0) L st σ Q) ∧ (¬ (¬ a = 0) → ab_Run X 111 24 (6, 0, 0) L st σ Q) := ab_r_if_ne rfl kc_X11_owners dX11_owners_21
theorem rX11_owners_24 : ab_Run X 111 24 (6, 0, 0) [ab_R z, l1] st σ Q ↔ z ≠ 0 ∧ ab_Run X 111 25 (6, 0, 0) [ab_R z, l1] (ab_R z :: st) σ Q := ab_r_aload_n rfl kc_X11_owners dX11_owners_24
theorem rX11_owners_25 : ab_Run X 111 25 (6, 0, 0) [l0, ab_I z] st σ Q ↔ ab_Run X 111 26 (6, 0, 0) [l0, ab_I z] (ab_I z :: st) σ Q := ab_r_iload_n rfl kc_X11_owners dX11_owners_25
theorem rX11_owners_26 : ab_Run X 111 26 (6, 0, 0) L st σ Q ↔ ab_Run X 111 27 (6, 0, 0) L (ab_I 1 :: st) σ Q := ab_r_iconst (by decide) kc_X11_owners dX11_owners_26
theorem rX11_owners_27 : ab_Run X 111 27 (6, 0, 0) L (ab_I x2 :: ab_I x1 :: ab_R a :: st) σ Q ↔ ((ab_sh σ a).1 = 12 ∧ ab_cats st ≤ 8) ∧ ab_Do X 145 [ab_R a, ab_I x1, ab_I x2] σ (fun r σ' => ab_Run X 111 30 (6, 0, 0) L (ab_psh r st) σ' Q) := ab_r_callV (w := [ab_I x2, ab_I x1]) (as := [ab_I x1, ab_I x2]) (b1 := (5, 0, 0)) 0 (Or.inl rfl) (by decide) ko_X11_owners qM_11_325 (by decide) rfl rfl rfl rfl rfl (by decide) (Nat.le_of_ble_eq_true rfl) kc_X11_owners dX11_owners_27
theorem rX11_owners_30 : ab_Run X 111 30 (6, 0, 0) L st σ Q ↔ ab_Run X 111 34 (6, 0, 0) L st σ Q := ab_r_goto rfl kc_X11_owners dX11_owners_30
theorem rX11_owners_33 : ab_Run X 111 33 (6, 0, 0) L st σ Q ↔ ab_Run X 111 34 (6, 0, 0) L (ab_I (-1) :: st) σ Q := ab_r_iconst (by decide) kc_X11_owners dX11_owners_33
theorem rX11_owners_34 : ab_Run X 111 34 (6, 0, 0) L [ab_I v] σ Q ↔ Q (some (ab_I v)) σ := ab_r_ireturnI rfl kc_X11_owners dX11_owners_34
theorem kc_X11_wins : ab_code 112 = cX11_wins := rfl
theorem ko_X11_wins : ab_ow 112 = 11 := rfl
theorem rX11_wins_0 : ab_Run X 112 0 (6, 0, 0) [ab_R z, l1, l2, l3] st σ Q ↔ z ≠ 0 ∧ ab_Run X 112 1 (6, 0, 0) [ab_R z, l1, l2, l3] (ab_R z :: st) σ Q := ab_r_aload_n rfl kc_X11_wins dX11_wins_0
theorem rX11_wins_1 : ab_Run X 112 1 (6, 0, 0) [ab_R z, l1, l2, l3] st σ Q ↔ z ≠ 0 ∧ ab_Run X 112 2 (6, 0, 0) [ab_R z, l1, l2, l3] (ab_R z :: st) σ Q := ab_r_aload_n rfl kc_X11_wins dX11_wins_1
theorem rX11_wins_2 : ab_Run X 112 2 (6, 0, 0) [l0, ab_I z, l2, l3] st σ Q ↔ ab_Run X 112 3 (6, 0, 0) [l0, ab_I z, l2, l3] (ab_I z :: st) σ Q := ab_r_iload_n rfl kc_X11_wins dX11_wins_2
theorem rX11_wins_3 : ab_Run X 112 3 (6, 0, 0) L (ab_I x1 :: ab_R a :: st) σ Q ↔ ((ab_sh σ a).1 = 12 ∧ ab_cats st ≤ 8) ∧ ab_Do X 127 [ab_R a, ab_I x1] σ (fun r σ' => ab_Run X 112 6 (6, 0, 0) L (ab_psh r st) σ' Q) := ab_r_callV (w := [ab_I x1]) (as := [ab_I x1]) (b1 := (0, 0, 0)) 0 (Or.inl rfl) (by decide) ko_X11_wins qM_11_139 (by decide) rfl rfl rfl rfl rfl (by decide) (Nat.le_of_ble_eq_true rfl) kc_X11_wins dX11_wins_3
theorem rX11_wins_6 : ab_Run X 112 6 (6, 0, 0) L (ab_I a :: st) σ Q ↔ (a = 0 → ab_Run X 112 17 (6, 0, 0) L st σ Q) ∧ (¬ (a = 0) → ab_Run X 112 9 (6, 0, 0) L st σ Q) := ab_r_if_eq rfl kc_X11_wins dX11_wins_6
theorem rX11_wins_9 : ab_Run X 112 9 (6, 0, 0) [l0, l1, ab_I z, l3] st σ Q ↔ ab_Run X 112 10 (6, 0, 0) [l0, l1, ab_I z, l3] (ab_I z :: st) σ Q := ab_r_iload_n rfl kc_X11_wins dX11_wins_9
theorem rX11_wins_10 : ab_Run X 112 10 (6, 0, 0) [l0, l1, l2, ab_I z] st σ Q ↔ ab_Run X 112 11 (6, 0, 0) [l0, l1, l2, ab_I z] (ab_I z :: st) σ Q := ab_r_iload_n rfl kc_X11_wins dX11_wins_10
theorem rX11_wins_11 : ab_Run X 112 11 (6, 0, 0) L (ab_I x2 :: ab_I x1 :: st) σ Q ↔ ab_cats st ≤ 8 ∧ ab_Do X 136 [ab_I x1, ab_I x2] σ (fun r σ' => ab_Run X 112 14 (6, 0, 0) L (ab_psh r st) σ' Q) := ab_r_callS (w := [ab_I x2, ab_I x1]) (as := [ab_I x1, ab_I x2]) (b1 := (1, 0, 0)) (by decide) ko_X11_wins qM_11_329 (by decide) rfl rfl rfl rfl (by decide) (Nat.le_of_ble_eq_true rfl) kc_X11_wins dX11_wins_11
theorem rX11_wins_14 : ab_Run X 112 14 (6, 0, 0) L st σ Q ↔ ab_Run X 112 18 (6, 0, 0) L st σ Q := ab_r_goto rfl kc_X11_wins dX11_wins_14
theorem rX11_wins_17 : ab_Run X 112 17 (6, 0, 0) L st σ Q ↔ ab_Run X 112 18 (6, 0, 0) L (ab_I 1 :: st) σ Q := ab_r_iconst (by decide) kc_X11_wins dX11_wins_17
theorem rX11_wins_18 : ab_Run X 112 18 (6, 0, 0) L (ab_I z :: ab_R a :: st) σ Q ↔ (ab_sh σ a).1 = 12 ∧ ab_Run X 112 21 (6, 0, 0) L st (ab_wr σ a 8 z) Q := sF_11_62 ko_X11_wins kc_X11_wins dX11_wins_18
theorem rX11_wins_21 : ab_Run X 112 21 (6, 0, 0) [ab_R z, l1, l2, l3] st σ Q ↔ z ≠ 0 ∧ ab_Run X 112 22 (6, 0, 0) [ab_R z, l1, l2, l3] (ab_R z :: st) σ Q := ab_r_aload_n rfl kc_X11_wins dX11_wins_21
theorem rX11_wins_22 : ab_Run X 112 22 (6, 0, 0) L (ab_R a :: st) σ Q ↔ (ab_sh σ a).1 = 12 ∧ ab_Run X 112 25 (6, 0, 0) L (ab_I (ab_rd σ a 8) :: st) σ Q := gF_11_62 ko_X11_wins kc_X11_wins dX11_wins_22
theorem rX11_wins_25 : ab_Run X 112 25 (6, 0, 0) L (ab_I a :: st) σ Q ↔ (a = 0 → ab_Run X 112 30 (6, 0, 0) L st σ Q) ∧ (¬ (a = 0) → ab_Run X 112 28 (6, 0, 0) L st σ Q) := ab_r_if_eq rfl kc_X11_wins dX11_wins_25
theorem rX11_wins_28 : ab_Run X 112 28 (6, 0, 0) L st σ Q ↔ ab_Run X 112 29 (6, 0, 0) L (ab_I (-1) :: st) σ Q := ab_r_iconst (by decide) kc_X11_wins dX11_wins_28
theorem rX11_wins_29 : ab_Run X 112 29 (6, 0, 0) L [ab_I v] σ Q ↔ Q (some (ab_I v)) σ := ab_r_ireturnI rfl kc_X11_wins dX11_wins_29
theorem rX11_wins_30 : ab_Run X 112 30 (6, 0, 0) [ab_R z, l1, l2, l3] st σ Q ↔ z ≠ 0 ∧ ab_Run X 112 31 (6, 0, 0) [ab_R z, l1, l2, l3] (ab_R z :: st) σ Q := ab_r_aload_n rfl kc_X11_wins dX11_wins_30
theorem rX11_wins_31 : ab_Run X 112 31 (6, 0, 0) [l0, l1, ab_I z, l3] st σ Q ↔ ab_Run X 112 32 (6, 0, 0) [l0, l1, ab_I z, l3] (ab_I z :: st) σ Q := ab_r_iload_n rfl kc_X11_wins dX11_wins_31
theorem rX11_wins_32 : ab_Run X 112 32 (6, 0, 0) [l0, l1, l2, ab_I z] st σ Q ↔ ab_Run X 112 33 (6, 0, 0) [l0, l1, l2, ab_I z] (ab_I z :: st) σ Q := ab_r_iload_n rfl kc_X11_wins dX11_wins_32
theorem rX11_wins_33 : ab_Run X 112 33 (6, 0, 0) L (ab_I x2 :: ab_I x1 :: ab_R a :: st) σ Q ↔ ((ab_sh σ a).1 = 12 ∧ ab_cats st ≤ 8) ∧ ab_Do X 150 [ab_R a, ab_I x1, ab_I x2] σ (fun r σ' => ab_Run X 112 36 (6, 0, 0) L (ab_psh r st) σ' Q) := ab_r_callV (w := [ab_I x2, ab_I x1]) (as := [ab_I x1, ab_I x2]) (b1 := (5, 0, 0)) 0 (Or.inl rfl) (by decide) ko_X11_wins qM_11_332 (by decide) rfl rfl rfl rfl rfl (by decide) (Nat.le_of_ble_eq_true rfl) kc_X11_wins dX11_wins_33
theorem rX11_wins_36 : ab_Run X 112 36 (6, 0, 0) [ab_R z, l1, l2, l3] st σ Q ↔ z ≠ 0 ∧ ab_Run X 112 37 (6, 0, 0) [ab_R z, l1, l2, l3] (ab_R z :: st) σ Q := ab_r_aload_n rfl kc_X11_wins dX11_wins_36
theorem rX11_wins_37 : ab_Run X 112 37 (6, 0, 0) L (ab_R a :: st) σ Q ↔ (ab_sh σ a).1 = 12 ∧ ab_Run X 112 40 (6, 0, 0) L (ab_R (ab_rd σ a 6) :: st) σ Q := gF_11_51 ko_X11_wins kc_X11_wins dX11_wins_37
theorem rX11_wins_40 : ab_Run X 112 40 (6, 0, 0) [l0, ab_I z, l2, l3] st σ Q ↔ ab_Run X 112 41 (6, 0, 0) [l0, ab_I z, l2, l3] (ab_I z :: st) σ Q := ab_r_iload_n rfl kc_X11_wins dX11_wins_40
theorem rX11_wins_41 : ab_Run X 112 41 (6, 0, 0) L (ab_I i :: ab_R a :: st) σ Q ↔ ((ab_sh σ a).1 = 21 ∧ 0 ≤ i ∧ i < (ab_sh σ a).2) ∧ ab_Run X 112 42 (6, 0, 0) L (ab_I (ab_rd σ a i) :: st) σ Q := ab_r_iaload (by decide) kc_X11_wins dX11_wins_41
theorem rX11_wins_42 : ab_Run X 112 42 (6, 0, 0) L [ab_I v] σ Q ↔ Q (some (ab_I v)) σ := ab_r_ireturnI rfl kc_X11_wins dX11_wins_42
theorem kc_X11_spoilt : ab_code 113 = cX11_spoilt := rfl
theorem ko_X11_spoilt : ab_ow 113 = 11 := rfl
theorem rX11_spoilt_0 : ab_Run X 113 0 (6, 0, 0) [ab_R z, l1, l2, l3] st σ Q ↔ z ≠ 0 ∧ ab_Run X 113 1 (6, 0, 0) [ab_R z, l1, l2, l3] (ab_R z :: st) σ Q := ab_r_aload_n rfl kc_X11_spoilt dX11_spoilt_0
theorem rX11_spoilt_1 : ab_Run X 113 1 (6, 0, 0) [ab_R z, l1, l2, l3] st σ Q ↔ z ≠ 0 ∧ ab_Run X 113 2 (6, 0, 0) [ab_R z, l1, l2, l3] (ab_R z :: st) σ Q := ab_r_aload_n rfl kc_X11_spoilt dX11_spoilt_1
theorem rX11_spoilt_2 : ab_Run X 113 2 (6, 0, 0) L (ab_R a :: st) σ Q ↔ ((ab_sh σ a).1 = 12 ∧ ab_cats st ≤ 8) ∧ ab_Do X 125 [ab_R a] σ (fun r σ' => ab_Run X 113 5 (6, 0, 0) L (ab_psh r st) σ' Q) := ab_r_callV (w := []) (as := []) (b1 := (0, 0, 0)) 0 (Or.inl rfl) (by decide) ko_X11_spoilt qM_11_284 (by decide) rfl rfl rfl rfl rfl (by decide) (Nat.le_of_ble_eq_true rfl) kc_X11_spoilt dX11_spoilt_2
theorem rX11_spoilt_5 : ab_Run X 113 5 (6, 0, 0) L (ab_I a :: st) σ Q ↔ (a = 0 → ab_Run X 113 16 (6, 0, 0) L st σ Q) ∧ (¬ (a = 0) → ab_Run X 113 8 (6, 0, 0) L st σ Q) := ab_r_if_eq rfl kc_X11_spoilt dX11_spoilt_5
theorem rX11_spoilt_8 : ab_Run X 113 8 (6, 0, 0) [l0, ab_I z, l2, l3] st σ Q ↔ ab_Run X 113 9 (6, 0, 0) [l0, ab_I z, l2, l3] (ab_I z :: st) σ Q := ab_r_iload_n rfl kc_X11_spoilt dX11_spoilt_8
theorem rX11_spoilt_9 : ab_Run X 113 9 (6, 0, 0) [l0, l1, ab_I z, l3] st σ Q ↔ ab_Run X 113 10 (6, 0, 0) [l0, l1, ab_I z, l3] (ab_I z :: st) σ Q := ab_r_iload_n rfl kc_X11_spoilt dX11_spoilt_9
theorem rX11_spoilt_10 : ab_Run X 113 10 (6, 0, 0) L (ab_I x2 :: ab_I x1 :: st) σ Q ↔ ab_cats st ≤ 8 ∧ ab_Do X 136 [ab_I x1, ab_I x2] σ (fun r σ' => ab_Run X 113 13 (6, 0, 0) L (ab_psh r st) σ' Q) := ab_r_callS (w := [ab_I x2, ab_I x1]) (as := [ab_I x1, ab_I x2]) (b1 := (1, 0, 0)) (by decide) ko_X11_spoilt qM_11_329 (by decide) rfl rfl rfl rfl (by decide) (Nat.le_of_ble_eq_true rfl) kc_X11_spoilt dX11_spoilt_10
theorem rX11_spoilt_13 : ab_Run X 113 13 (6, 0, 0) L st σ Q ↔ ab_Run X 113 17 (6, 0, 0) L st σ Q := ab_r_goto rfl kc_X11_spoilt dX11_spoilt_13
theorem rX11_spoilt_16 : ab_Run X 113 16 (6, 0, 0) L st σ Q ↔ ab_Run X 113 17 (6, 0, 0) L (ab_I 1 :: st) σ Q := ab_r_iconst (by decide) kc_X11_spoilt dX11_spoilt_16
theorem rX11_spoilt_17 : ab_Run X 113 17 (6, 0, 0) L (ab_I z :: ab_R a :: st) σ Q ↔ (ab_sh σ a).1 = 12 ∧ ab_Run X 113 20 (6, 0, 0) L st (ab_wr σ a 8 z) Q := sF_11_62 ko_X11_spoilt kc_X11_spoilt dX11_spoilt_17
theorem rX11_spoilt_20 : ab_Run X 113 20 (6, 0, 0) [ab_R z, l1, l2, l3] st σ Q ↔ z ≠ 0 ∧ ab_Run X 113 21 (6, 0, 0) [ab_R z, l1, l2, l3] (ab_R z :: st) σ Q := ab_r_aload_n rfl kc_X11_spoilt dX11_spoilt_20
theorem rX11_spoilt_21 : ab_Run X 113 21 (6, 0, 0) L (ab_R a :: st) σ Q ↔ (ab_sh σ a).1 = 12 ∧ ab_Run X 113 24 (6, 0, 0) L (ab_I (ab_rd σ a 8) :: st) σ Q := gF_11_62 ko_X11_spoilt kc_X11_spoilt dX11_spoilt_21
theorem rX11_spoilt_24 : ab_Run X 113 24 (6, 0, 0) L (ab_I a :: st) σ Q ↔ (a = 0 → ab_Run X 113 29 (6, 0, 0) L st σ Q) ∧ (¬ (a = 0) → ab_Run X 113 27 (6, 0, 0) L st σ Q) := ab_r_if_eq rfl kc_X11_spoilt dX11_spoilt_24
theorem rX11_spoilt_27 : ab_Run X 113 27 (6, 0, 0) L st σ Q ↔ ab_Run X 113 28 (6, 0, 0) L (ab_I (-1) :: st) σ Q := ab_r_iconst (by decide) kc_X11_spoilt dX11_spoilt_27
theorem rX11_spoilt_28 : ab_Run X 113 28 (6, 0, 0) L [ab_I v] σ Q ↔ Q (some (ab_I v)) σ := ab_r_ireturnI rfl kc_X11_spoilt dX11_spoilt_28
theorem rX11_spoilt_29 : ab_Run X 113 29 (6, 0, 0) [ab_R z, l1, l2, l3] st σ Q ↔ z ≠ 0 ∧ ab_Run X 113 30 (6, 0, 0) [ab_R z, l1, l2, l3] (ab_R z :: st) σ Q := ab_r_aload_n rfl kc_X11_spoilt dX11_spoilt_29
theorem rX11_spoilt_30 : ab_Run X 113 30 (6, 0, 0) [l0, ab_I z, l2, l3] st σ Q ↔ ab_Run X 113 31 (6, 0, 0) [l0, ab_I z, l2, l3] (ab_I z :: st) σ Q := ab_r_iload_n rfl kc_X11_spoilt dX11_spoilt_30
theorem rX11_spoilt_31 : ab_Run X 113 31 (6, 0, 0) [l0, l1, ab_I z, l3] st σ Q ↔ ab_Run X 113 32 (6, 0, 0) [l0, l1, ab_I z, l3] (ab_I z :: st) σ Q := ab_r_iload_n rfl kc_X11_spoilt dX11_spoilt_31
theorem rX11_spoilt_32 : ab_Run X 113 32 (6, 0, 0) L (ab_I x2 :: ab_I x1 :: ab_R a :: st) σ Q ↔ ((ab_sh σ a).1 = 12 ∧ ab_cats st ≤ 8) ∧ ab_Do X 150 [ab_R a, ab_I x1, ab_I x2] σ (fun r σ' => ab_Run X 113 35 (6, 0, 0) L (ab_psh r st) σ' Q) := ab_r_callV (w := [ab_I x2, ab_I x1]) (as := [ab_I x1, ab_I x2]) (b1 := (5, 0, 0)) 0 (Or.inl rfl) (by decide) ko_X11_spoilt qM_11_332 (by decide) rfl rfl rfl rfl rfl (by decide) (Nat.le_of_ble_eq_true rfl) kc_X11_spoilt dX11_spoilt_32
theorem rX11_spoilt_35 : ab_Run X 113 35 (6, 0, 0) [l0, l1, l2, ab_I z] st σ Q ↔ ab_Run X 113 36 (6, 0, 0) [l0, l1, l2, ab_I z] (ab_I z :: st) σ Q := ab_r_iload_n rfl kc_X11_spoilt dX11_spoilt_35
theorem rX11_spoilt_36 : ab_Run X 113 36 (6, 0, 0) L (ab_I a :: st) σ Q ↔ (a = 0 → ab_Run X 113 49 (6, 0, 0) L st σ Q) ∧ (¬ (a = 0) → ab_Run X 113 39 (6, 0, 0) L st σ Q) := ab_r_if_eq rfl kc_X11_spoilt dX11_spoilt_36
theorem rX11_spoilt_39 : ab_Run X 113 39 (6, 0, 0) [ab_R z, l1, l2, l3] st σ Q ↔ z ≠ 0 ∧ ab_Run X 113 40 (6, 0, 0) [ab_R z, l1, l2, l3] (ab_R z :: st) σ Q := ab_r_aload_n rfl kc_X11_spoilt dX11_spoilt_39
theorem rX11_spoilt_40 : ab_Run X 113 40 (6, 0, 0) L (ab_R a :: st) σ Q ↔ (ab_sh σ a).1 = 12 ∧ ab_Run X 113 43 (6, 0, 0) L (ab_R (ab_rd σ a 6) :: st) σ Q := gF_11_51 ko_X11_spoilt kc_X11_spoilt dX11_spoilt_40
theorem rX11_spoilt_43 : ab_Run X 113 43 (6, 0, 0) L st σ Q ↔ ab_Run X 113 45 (6, 0, 0) L (ab_I 7 :: st) σ Q := ab_r_bipush (by decide) kc_X11_spoilt dX11_spoilt_43
theorem rX11_spoilt_45 : ab_Run X 113 45 (6, 0, 0) L (ab_I i :: ab_R a :: st) σ Q ↔ ((ab_sh σ a).1 = 21 ∧ 0 ≤ i ∧ i < (ab_sh σ a).2) ∧ ab_Run X 113 46 (6, 0, 0) L (ab_I (ab_rd σ a i) :: st) σ Q := ab_r_iaload (by decide) kc_X11_spoilt dX11_spoilt_45
theorem rX11_spoilt_46 : ab_Run X 113 46 (6, 0, 0) L st σ Q ↔ ab_Run X 113 56 (6, 0, 0) L st σ Q := ab_r_goto rfl kc_X11_spoilt dX11_spoilt_46
theorem rX11_spoilt_49 : ab_Run X 113 49 (6, 0, 0) [ab_R z, l1, l2, l3] st σ Q ↔ z ≠ 0 ∧ ab_Run X 113 50 (6, 0, 0) [ab_R z, l1, l2, l3] (ab_R z :: st) σ Q := ab_r_aload_n rfl kc_X11_spoilt dX11_spoilt_49
theorem rX11_spoilt_50 : ab_Run X 113 50 (6, 0, 0) L (ab_R a :: st) σ Q ↔ (ab_sh σ a).1 = 12 ∧ ab_Run X 113 53 (6, 0, 0) L (ab_R (ab_rd σ a 6) :: st) σ Q := gF_11_51 ko_X11_spoilt kc_X11_spoilt dX11_spoilt_50
theorem rX11_spoilt_53 : ab_Run X 113 53 (6, 0, 0) L st σ Q ↔ ab_Run X 113 55 (6, 0, 0) L (ab_I 6 :: st) σ Q := ab_r_bipush (by decide) kc_X11_spoilt dX11_spoilt_53
theorem rX11_spoilt_55 : ab_Run X 113 55 (6, 0, 0) L (ab_I i :: ab_R a :: st) σ Q ↔ ((ab_sh σ a).1 = 21 ∧ 0 ≤ i ∧ i < (ab_sh σ a).2) ∧ ab_Run X 113 56 (6, 0, 0) L (ab_I (ab_rd σ a i) :: st) σ Q := ab_r_iaload (by decide) kc_X11_spoilt dX11_spoilt_55
theorem rX11_spoilt_56 : ab_Run X 113 56 (6, 0, 0) L [ab_I v] σ Q ↔ Q (some (ab_I v)) σ := ab_r_ireturnI rfl kc_X11_spoilt dX11_spoilt_56
end
