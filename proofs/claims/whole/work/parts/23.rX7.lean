theorem dX7_read_0 : decode cX7_read 0 = .ok (.aload_n 0, 1) := by decide +kernel
theorem dX7_read_1 : decode cX7_read 1 = .ok (.getfield 21, 3) := by decide +kernel
theorem dX7_read_4 : decode cX7_read 4 = .ok (.invokevirtual 25, 3) := by decide +kernel
theorem dX7_read_7 : decode cX7_read 7 = .ok (.aload_n 0, 1) := by decide +kernel
theorem dX7_read_8 : decode cX7_read 8 = .ok (.iconst 0, 1) := by decide +kernel
theorem dX7_read_9 : decode cX7_read 9 = .ok (.putfield 28, 3) := by decide +kernel
theorem dX7_read_12 : decode cX7_read 12 = .ok (.aload_n 0, 1) := by decide +kernel
theorem dX7_read_13 : decode cX7_read 13 = .ok (.iconst (-1), 1) := by decide +kernel
theorem dX7_read_14 : decode cX7_read 14 = .ok (.putfield 32, 3) := by decide +kernel
theorem dX7_read_17 : decode cX7_read 17 = .ok (.aload_n 0, 1) := by decide +kernel
theorem dX7_read_18 : decode cX7_read 18 = .ok (.iconst 0, 1) := by decide +kernel
theorem dX7_read_19 : decode cX7_read 19 = .ok (.putfield 35, 3) := by decide +kernel
theorem dX7_read_22 : decode cX7_read 22 = .ok (.aload_n 0, 1) := by decide +kernel
theorem dX7_read_23 : decode cX7_read 23 = .ok (.getfield 12, 3) := by decide +kernel
theorem dX7_read_26 : decode cX7_read 26 = .ok (.iload_n 1, 1) := by decide +kernel
theorem dX7_read_27 : decode cX7_read 27 = .ok (.invokevirtual 39, 3) := by decide +kernel
theorem dX7_read_30 : decode cX7_read 30 = .ok (.iconst 0, 1) := by decide +kernel
theorem dX7_read_31 : decode cX7_read 31 = .ok (.istore_n 2, 1) := by decide +kernel
theorem dX7_read_32 : decode cX7_read 32 = .ok (.iload_n 2, 1) := by decide +kernel
theorem dX7_read_33 : decode cX7_read 33 = .ok (.iload_n 1, 1) := by decide +kernel
theorem dX7_read_34 : decode cX7_read 34 = .ok (.if_icmp .gt 89, 3) := by decide +kernel
theorem dX7_read_37 : decode cX7_read 37 = .ok (.aload_n 0, 1) := by decide +kernel
theorem dX7_read_38 : decode cX7_read 38 = .ok (.invokevirtual 43, 3) := by decide +kernel
theorem dX7_read_41 : decode cX7_read 41 = .ok (.ifCond .ne 5, 3) := by decide +kernel
theorem dX7_read_44 : decode cX7_read 44 = .ok (.iconst 0, 1) := by decide +kernel
theorem dX7_read_45 : decode cX7_read 45 = .ok (.ireturn, 1) := by decide +kernel
theorem dX7_read_46 : decode cX7_read 46 = .ok (.aload_n 0, 1) := by decide +kernel
theorem dX7_read_47 : decode cX7_read 47 = .ok (.getfield 12, 3) := by decide +kernel
theorem dX7_read_50 : decode cX7_read 50 = .ok (.getfield 47, 3) := by decide +kernel
theorem dX7_read_53 : decode cX7_read 53 = .ok (.ifCond .ne 40, 3) := by decide +kernel
theorem dX7_read_56 : decode cX7_read 56 = .ok (.aload_n 0, 1) := by decide +kernel
theorem dX7_read_57 : decode cX7_read 57 = .ok (.getfield 21, 3) := by decide +kernel
theorem dX7_read_60 : decode cX7_read 60 = .ok (.getfield 50, 3) := by decide +kernel
theorem dX7_read_63 : decode cX7_read 63 = .ok (.iconst 1, 1) := by decide +kernel
theorem dX7_read_64 : decode cX7_read 64 = .ok (.if_icmp .lt 14, 3) := by decide +kernel
theorem dX7_read_67 : decode cX7_read 67 = .ok (.aload_n 0, 1) := by decide +kernel
theorem dX7_read_68 : decode cX7_read 68 = .ok (.getfield 21, 3) := by decide +kernel
theorem dX7_read_71 : decode cX7_read 71 = .ok (.getfield 53, 3) := by decide +kernel
theorem dX7_read_74 : decode cX7_read 74 = .ok (.iconst 2, 1) := by decide +kernel
theorem dX7_read_75 : decode cX7_read 75 = .ok (.if_icmp .ge 12, 3) := by decide +kernel
theorem dX7_read_78 : decode cX7_read 78 = .ok (.aload_n 0, 1) := by decide +kernel
theorem dX7_read_79 : decode cX7_read 79 = .ok (.bipush 6, 2) := by decide +kernel
theorem dX7_read_81 : decode cX7_read 81 = .ok (.invokevirtual 56, 3) := by decide +kernel
theorem dX7_read_84 : decode cX7_read 84 = .ok (.ifCond .eq 7, 3) := by decide +kernel
theorem dX7_read_87 : decode cX7_read 87 = .ok (.iconst 1, 1) := by decide +kernel
theorem dX7_read_88 : decode cX7_read 88 = .ok (.goto 4, 3) := by decide +kernel
theorem dX7_read_91 : decode cX7_read 91 = .ok (.iconst 0, 1) := by decide +kernel
theorem dX7_read_92 : decode cX7_read 92 = .ok (.ireturn, 1) := by decide +kernel
theorem dX7_read_93 : decode cX7_read 93 = .ok (.aload_n 0, 1) := by decide +kernel
theorem dX7_read_94 : decode cX7_read 94 = .ok (.getfield 12, 3) := by decide +kernel
theorem dX7_read_97 : decode cX7_read 97 = .ok (.getfield 47, 3) := by decide +kernel
theorem dX7_read_100 : decode cX7_read 100 = .ok (.iconst 4, 1) := by decide +kernel
theorem dX7_read_101 : decode cX7_read 101 = .ok (.if_icmp .eq 9, 3) := by decide +kernel
theorem dX7_read_104 : decode cX7_read 104 = .ok (.aload_n 0, 1) := by decide +kernel
theorem dX7_read_105 : decode cX7_read 105 = .ok (.iconst 1, 1) := by decide +kernel
theorem dX7_read_106 : decode cX7_read 106 = .ok (.invokevirtual 56, 3) := by decide +kernel
theorem dX7_read_109 : decode cX7_read 109 = .ok (.ireturn, 1) := by decide +kernel
theorem dX7_read_110 : decode cX7_read 110 = .ok (.aload_n 0, 1) := by decide +kernel
theorem dX7_read_111 : decode cX7_read 111 = .ok (.getfield 12, 3) := by decide +kernel
theorem dX7_read_114 : decode cX7_read 114 = .ok (.invokevirtual 60, 3) := by decide +kernel
theorem dX7_read_117 : decode cX7_read 117 = .ok (.iinc 2 1, 3) := by decide +kernel
theorem dX7_read_120 : decode cX7_read 120 = .ok (.goto (-88), 3) := by decide +kernel
theorem dX7_read_123 : decode cX7_read 123 = .ok (.aload_n 0, 1) := by decide +kernel
theorem dX7_read_124 : decode cX7_read 124 = .ok (.iconst 1, 1) := by decide +kernel
theorem dX7_read_125 : decode cX7_read 125 = .ok (.invokevirtual 56, 3) := by decide +kernel
theorem dX7_read_128 : decode cX7_read 128 = .ok (.ireturn, 1) := by decide +kernel
theorem dX7_stop_0 : decode cX7_stop 0 = .ok (.aload_n 0, 1) := by decide +kernel
theorem dX7_stop_1 : decode cX7_stop 1 = .ok (.iload_n 1, 1) := by decide +kernel
theorem dX7_stop_2 : decode cX7_stop 2 = .ok (.putfield 28, 3) := by decide +kernel
theorem dX7_stop_5 : decode cX7_stop 5 = .ok (.aload_n 0, 1) := by decide +kernel
theorem dX7_stop_6 : decode cX7_stop 6 = .ok (.aload_n 0, 1) := by decide +kernel
theorem dX7_stop_7 : decode cX7_stop 7 = .ok (.getfield 12, 3) := by decide +kernel
theorem dX7_stop_10 : decode cX7_stop 10 = .ok (.getfield 63, 3) := by decide +kernel
theorem dX7_stop_13 : decode cX7_stop 13 = .ok (.putfield 32, 3) := by decide +kernel
theorem dX7_stop_16 : decode cX7_stop 16 = .ok (.iconst 0, 1) := by decide +kernel
theorem dX7_stop_17 : decode cX7_stop 17 = .ok (.ireturn, 1) := by decide +kernel
theorem dX7_readLine_0 : decode cX7_readLine 0 = .ok (.aload_n 0, 1) := by decide +kernel
theorem dX7_readLine_1 : decode cX7_readLine 1 = .ok (.getfield 12, 3) := by decide +kernel
theorem dX7_readLine_4 : decode cX7_readLine 4 = .ok (.ldc 66, 2) := by decide +kernel
theorem dX7_readLine_6 : decode cX7_readLine 6 = .ok (.invokevirtual 68, 3) := by decide +kernel
theorem dX7_readLine_9 : decode cX7_readLine 9 = .ok (.ifCond .eq 23, 3) := by decide +kernel
theorem dX7_readLine_12 : decode cX7_readLine 12 = .ok (.aload_n 0, 1) := by decide +kernel
theorem dX7_readLine_13 : decode cX7_readLine 13 = .ok (.getfield 35, 3) := by decide +kernel
theorem dX7_readLine_16 : decode cX7_readLine 16 = .ok (.ifCond .eq 11, 3) := by decide +kernel
theorem dX7_readLine_19 : decode cX7_readLine 19 = .ok (.aload_n 0, 1) := by decide +kernel
theorem dX7_readLine_20 : decode cX7_readLine 20 = .ok (.iconst 3, 1) := by decide +kernel
theorem dX7_readLine_21 : decode cX7_readLine 21 = .ok (.invokevirtual 56, 3) := by decide +kernel
theorem dX7_readLine_24 : decode cX7_readLine 24 = .ok (.goto 7, 3) := by decide +kernel
theorem dX7_readLine_27 : decode cX7_readLine 27 = .ok (.aload_n 0, 1) := by decide +kernel
theorem dX7_readLine_28 : decode cX7_readLine 28 = .ok (.invokevirtual 72, 3) := by decide +kernel
theorem dX7_readLine_31 : decode cX7_readLine 31 = .ok (.ireturn, 1) := by decide +kernel
theorem dX7_readLine_32 : decode cX7_readLine 32 = .ok (.aload_n 0, 1) := by decide +kernel
theorem dX7_readLine_33 : decode cX7_readLine 33 = .ok (.getfield 12, 3) := by decide +kernel
theorem dX7_readLine_36 : decode cX7_readLine 36 = .ok (.ldc 75, 2) := by decide +kernel
theorem dX7_readLine_38 : decode cX7_readLine 38 = .ok (.invokevirtual 68, 3) := by decide +kernel
theorem dX7_readLine_41 : decode cX7_readLine 41 = .ok (.ifCond .eq 31, 3) := by decide +kernel
theorem dX7_readLine_44 : decode cX7_readLine 44 = .ok (.aload_n 0, 1) := by decide +kernel
theorem dX7_readLine_45 : decode cX7_readLine 45 = .ok (.aload_n 0, 1) := by decide +kernel
theorem dX7_readLine_46 : decode cX7_readLine 46 = .ok (.getfield 21, 3) := by decide +kernel
theorem dX7_readLine_49 : decode cX7_readLine 49 = .ok (.getfield 50, 3) := by decide +kernel
theorem dX7_readLine_52 : decode cX7_readLine 52 = .ok (.iconst 5, 1) := by decide +kernel
theorem dX7_readLine_53 : decode cX7_readLine 53 = .ok (.invokevirtual 77, 3) := by decide +kernel
theorem dX7_readLine_56 : decode cX7_readLine 56 = .ok (.ifCond .eq 14, 3) := by decide +kernel
theorem dX7_readLine_59 : decode cX7_readLine 59 = .ok (.aload_n 0, 1) := by decide +kernel
theorem dX7_readLine_60 : decode cX7_readLine 60 = .ok (.invokevirtual 81, 3) := by decide +kernel
theorem dX7_readLine_63 : decode cX7_readLine 63 = .ok (.ifCond .eq 7, 3) := by decide +kernel
theorem dX7_readLine_66 : decode cX7_readLine 66 = .ok (.iconst 1, 1) := by decide +kernel
theorem dX7_readLine_67 : decode cX7_readLine 67 = .ok (.goto 4, 3) := by decide +kernel
theorem dX7_readLine_70 : decode cX7_readLine 70 = .ok (.iconst 0, 1) := by decide +kernel
theorem dX7_readLine_71 : decode cX7_readLine 71 = .ok (.ireturn, 1) := by decide +kernel
theorem dX7_readLine_72 : decode cX7_readLine 72 = .ok (.aload_n 0, 1) := by decide +kernel
theorem dX7_readLine_73 : decode cX7_readLine 73 = .ok (.getfield 12, 3) := by decide +kernel
theorem dX7_readLine_76 : decode cX7_readLine 76 = .ok (.ldc 84, 2) := by decide +kernel
theorem dX7_readLine_78 : decode cX7_readLine 78 = .ok (.invokevirtual 68, 3) := by decide +kernel
theorem dX7_readLine_81 : decode cX7_readLine 81 = .ok (.ifCond .eq 32, 3) := by decide +kernel
theorem dX7_readLine_84 : decode cX7_readLine 84 = .ok (.aload_n 0, 1) := by decide +kernel
theorem dX7_readLine_85 : decode cX7_readLine 85 = .ok (.aload_n 0, 1) := by decide +kernel
theorem dX7_readLine_86 : decode cX7_readLine 86 = .ok (.getfield 21, 3) := by decide +kernel
theorem dX7_readLine_89 : decode cX7_readLine 89 = .ok (.getfield 53, 3) := by decide +kernel
theorem dX7_readLine_92 : decode cX7_readLine 92 = .ok (.bipush 6, 2) := by decide +kernel
theorem dX7_readLine_94 : decode cX7_readLine 94 = .ok (.invokevirtual 77, 3) := by decide +kernel
theorem dX7_readLine_97 : decode cX7_readLine 97 = .ok (.ifCond .eq 14, 3) := by decide +kernel
theorem dX7_readLine_100 : decode cX7_readLine 100 = .ok (.aload_n 0, 1) := by decide +kernel
theorem dX7_readLine_101 : decode cX7_readLine 101 = .ok (.invokevirtual 86, 3) := by decide +kernel
theorem dX7_readLine_104 : decode cX7_readLine 104 = .ok (.ifCond .eq 7, 3) := by decide +kernel
theorem dX7_readLine_107 : decode cX7_readLine 107 = .ok (.iconst 1, 1) := by decide +kernel
theorem dX7_readLine_108 : decode cX7_readLine 108 = .ok (.goto 4, 3) := by decide +kernel
theorem dX7_readLine_111 : decode cX7_readLine 111 = .ok (.iconst 0, 1) := by decide +kernel
theorem dX7_readLine_112 : decode cX7_readLine 112 = .ok (.ireturn, 1) := by decide +kernel
theorem dX7_readLine_113 : decode cX7_readLine 113 = .ok (.aload_n 0, 1) := by decide +kernel
theorem dX7_readLine_114 : decode cX7_readLine 114 = .ok (.getfield 12, 3) := by decide +kernel
theorem dX7_readLine_117 : decode cX7_readLine 117 = .ok (.ldc 89, 2) := by decide +kernel
theorem dX7_readLine_119 : decode cX7_readLine 119 = .ok (.invokevirtual 68, 3) := by decide +kernel
theorem dX7_readLine_122 : decode cX7_readLine 122 = .ok (.ifCond .eq 32, 3) := by decide +kernel
theorem dX7_readLine_125 : decode cX7_readLine 125 = .ok (.aload_n 0, 1) := by decide +kernel
theorem dX7_readLine_126 : decode cX7_readLine 126 = .ok (.aload_n 0, 1) := by decide +kernel
theorem dX7_readLine_127 : decode cX7_readLine 127 = .ok (.getfield 21, 3) := by decide +kernel
theorem dX7_readLine_130 : decode cX7_readLine 130 = .ok (.getfield 91, 3) := by decide +kernel
theorem dX7_readLine_133 : decode cX7_readLine 133 = .ok (.bipush 10, 2) := by decide +kernel
theorem dX7_readLine_135 : decode cX7_readLine 135 = .ok (.invokevirtual 77, 3) := by decide +kernel
theorem dX7_readLine_138 : decode cX7_readLine 138 = .ok (.ifCond .eq 14, 3) := by decide +kernel
theorem dX7_readLine_141 : decode cX7_readLine 141 = .ok (.aload_n 0, 1) := by decide +kernel
theorem dX7_readLine_142 : decode cX7_readLine 142 = .ok (.invokevirtual 94, 3) := by decide +kernel
theorem dX7_readLine_145 : decode cX7_readLine 145 = .ok (.ifCond .eq 7, 3) := by decide +kernel
theorem dX7_readLine_148 : decode cX7_readLine 148 = .ok (.iconst 1, 1) := by decide +kernel
theorem dX7_readLine_149 : decode cX7_readLine 149 = .ok (.goto 4, 3) := by decide +kernel
theorem dX7_readLine_152 : decode cX7_readLine 152 = .ok (.iconst 0, 1) := by decide +kernel
theorem dX7_readLine_153 : decode cX7_readLine 153 = .ok (.ireturn, 1) := by decide +kernel
theorem dX7_readLine_154 : decode cX7_readLine 154 = .ok (.aload_n 0, 1) := by decide +kernel
theorem dX7_readLine_155 : decode cX7_readLine 155 = .ok (.getfield 12, 3) := by decide +kernel
theorem dX7_readLine_158 : decode cX7_readLine 158 = .ok (.ldc 97, 2) := by decide +kernel
theorem dX7_readLine_160 : decode cX7_readLine 160 = .ok (.invokevirtual 68, 3) := by decide +kernel
theorem dX7_readLine_163 : decode cX7_readLine 163 = .ok (.ifCond .eq 32, 3) := by decide +kernel
theorem dX7_readLine_166 : decode cX7_readLine 166 = .ok (.aload_n 0, 1) := by decide +kernel
theorem dX7_readLine_167 : decode cX7_readLine 167 = .ok (.aload_n 0, 1) := by decide +kernel
theorem dX7_readLine_168 : decode cX7_readLine 168 = .ok (.getfield 21, 3) := by decide +kernel
theorem dX7_readLine_171 : decode cX7_readLine 171 = .ok (.getfield 99, 3) := by decide +kernel
theorem dX7_readLine_174 : decode cX7_readLine 174 = .ok (.bipush 12, 2) := by decide +kernel
theorem dX7_readLine_176 : decode cX7_readLine 176 = .ok (.invokevirtual 77, 3) := by decide +kernel
theorem dX7_readLine_179 : decode cX7_readLine 179 = .ok (.ifCond .eq 14, 3) := by decide +kernel
theorem dX7_readLine_182 : decode cX7_readLine 182 = .ok (.aload_n 0, 1) := by decide +kernel
theorem dX7_readLine_183 : decode cX7_readLine 183 = .ok (.invokevirtual 102, 3) := by decide +kernel
theorem dX7_readLine_186 : decode cX7_readLine 186 = .ok (.ifCond .eq 7, 3) := by decide +kernel
theorem dX7_readLine_189 : decode cX7_readLine 189 = .ok (.iconst 1, 1) := by decide +kernel
theorem dX7_readLine_190 : decode cX7_readLine 190 = .ok (.goto 4, 3) := by decide +kernel
theorem dX7_readLine_193 : decode cX7_readLine 193 = .ok (.iconst 0, 1) := by decide +kernel
theorem dX7_readLine_194 : decode cX7_readLine 194 = .ok (.ireturn, 1) := by decide +kernel
theorem dX7_readLine_195 : decode cX7_readLine 195 = .ok (.aload_n 0, 1) := by decide +kernel
theorem dX7_readLine_196 : decode cX7_readLine 196 = .ok (.getfield 12, 3) := by decide +kernel
theorem dX7_readLine_199 : decode cX7_readLine 199 = .ok (.ldc 105, 2) := by decide +kernel
theorem dX7_readLine_201 : decode cX7_readLine 201 = .ok (.invokevirtual 68, 3) := by decide +kernel
theorem dX7_readLine_204 : decode cX7_readLine 204 = .ok (.ifCond .eq 31, 3) := by decide +kernel
theorem dX7_readLine_207 : decode cX7_readLine 207 = .ok (.aload_n 0, 1) := by decide +kernel
theorem dX7_readLine_208 : decode cX7_readLine 208 = .ok (.aload_n 0, 1) := by decide +kernel
theorem dX7_readLine_209 : decode cX7_readLine 209 = .ok (.getfield 21, 3) := by decide +kernel
theorem dX7_readLine_212 : decode cX7_readLine 212 = .ok (.getfield 107, 3) := by decide +kernel
theorem dX7_readLine_215 : decode cX7_readLine 215 = .ok (.iconst 4, 1) := by decide +kernel
theorem dX7_readLine_216 : decode cX7_readLine 216 = .ok (.invokevirtual 77, 3) := by decide +kernel
theorem dX7_readLine_219 : decode cX7_readLine 219 = .ok (.ifCond .eq 14, 3) := by decide +kernel
theorem dX7_readLine_222 : decode cX7_readLine 222 = .ok (.aload_n 0, 1) := by decide +kernel
theorem dX7_readLine_223 : decode cX7_readLine 223 = .ok (.invokevirtual 110, 3) := by decide +kernel
theorem dX7_readLine_226 : decode cX7_readLine 226 = .ok (.ifCond .eq 7, 3) := by decide +kernel
theorem dX7_readLine_229 : decode cX7_readLine 229 = .ok (.iconst 1, 1) := by decide +kernel
theorem dX7_readLine_230 : decode cX7_readLine 230 = .ok (.goto 4, 3) := by decide +kernel
theorem dX7_readLine_233 : decode cX7_readLine 233 = .ok (.iconst 0, 1) := by decide +kernel
theorem dX7_readLine_234 : decode cX7_readLine 234 = .ok (.ireturn, 1) := by decide +kernel
theorem dX7_readLine_235 : decode cX7_readLine 235 = .ok (.aload_n 0, 1) := by decide +kernel
theorem dX7_readLine_236 : decode cX7_readLine 236 = .ok (.getfield 12, 3) := by decide +kernel
theorem dX7_readLine_239 : decode cX7_readLine 239 = .ok (.ldc 113, 2) := by decide +kernel
theorem dX7_readLine_241 : decode cX7_readLine 241 = .ok (.invokevirtual 68, 3) := by decide +kernel
theorem dX7_readLine_244 : decode cX7_readLine 244 = .ok (.ifCond .eq 25, 3) := by decide +kernel
theorem dX7_readLine_247 : decode cX7_readLine 247 = .ok (.aload_n 0, 1) := by decide +kernel
theorem dX7_readLine_248 : decode cX7_readLine 248 = .ok (.iconst 0, 1) := by decide +kernel
theorem dX7_readLine_249 : decode cX7_readLine 249 = .ok (.iconst 1, 1) := by decide +kernel
theorem dX7_readLine_250 : decode cX7_readLine 250 = .ok (.invokevirtual 77, 3) := by decide +kernel
theorem dX7_readLine_253 : decode cX7_readLine 253 = .ok (.ifCond .eq 14, 3) := by decide +kernel
theorem dX7_readLine_256 : decode cX7_readLine 256 = .ok (.aload_n 0, 1) := by decide +kernel
theorem dX7_readLine_257 : decode cX7_readLine 257 = .ok (.invokevirtual 115, 3) := by decide +kernel
theorem dX7_readLine_260 : decode cX7_readLine 260 = .ok (.ifCond .eq 7, 3) := by decide +kernel
theorem dX7_readLine_263 : decode cX7_readLine 263 = .ok (.iconst 1, 1) := by decide +kernel
theorem dX7_readLine_264 : decode cX7_readLine 264 = .ok (.goto 4, 3) := by decide +kernel
theorem dX7_readLine_267 : decode cX7_readLine 267 = .ok (.iconst 0, 1) := by decide +kernel
theorem dX7_readLine_268 : decode cX7_readLine 268 = .ok (.ireturn, 1) := by decide +kernel
theorem dX7_readLine_269 : decode cX7_readLine 269 = .ok (.aload_n 0, 1) := by decide +kernel
theorem dX7_readLine_270 : decode cX7_readLine 270 = .ok (.iconst 1, 1) := by decide +kernel
theorem dX7_readLine_271 : decode cX7_readLine 271 = .ok (.invokevirtual 56, 3) := by decide +kernel
theorem dX7_readLine_274 : decode cX7_readLine 274 = .ok (.ireturn, 1) := by decide +kernel
theorem dX7_enter_0 : decode cX7_enter 0 = .ok (.aload_n 0, 1) := by decide +kernel
theorem dX7_enter_1 : decode cX7_enter 1 = .ok (.getfield 35, 3) := by decide +kernel
theorem dX7_enter_4 : decode cX7_enter 4 = .ok (.ifCond .ne 10, 3) := by decide +kernel
theorem dX7_enter_7 : decode cX7_enter 7 = .ok (.aload_n 0, 1) := by decide +kernel
theorem dX7_enter_8 : decode cX7_enter 8 = .ok (.bipush 6, 2) := by decide +kernel
theorem dX7_enter_10 : decode cX7_enter 10 = .ok (.invokevirtual 56, 3) := by decide +kernel
theorem dX7_enter_13 : decode cX7_enter 13 = .ok (.ireturn, 1) := by decide +kernel
theorem dX7_enter_14 : decode cX7_enter 14 = .ok (.iload_n 1, 1) := by decide +kernel
theorem dX7_enter_15 : decode cX7_enter 15 = .ok (.iload_n 2, 1) := by decide +kernel
theorem dX7_enter_16 : decode cX7_enter 16 = .ok (.if_icmp .lt 9, 3) := by decide +kernel
theorem dX7_enter_19 : decode cX7_enter 19 = .ok (.aload_n 0, 1) := by decide +kernel
theorem dX7_enter_20 : decode cX7_enter 20 = .ok (.iconst 5, 1) := by decide +kernel
theorem dX7_enter_21 : decode cX7_enter 21 = .ok (.invokevirtual 56, 3) := by decide +kernel
theorem dX7_enter_24 : decode cX7_enter 24 = .ok (.ireturn, 1) := by decide +kernel
theorem dX7_enter_25 : decode cX7_enter 25 = .ok (.aload_n 0, 1) := by decide +kernel
theorem dX7_enter_26 : decode cX7_enter 26 = .ok (.getfield 12, 3) := by decide +kernel
theorem dX7_enter_29 : decode cX7_enter 29 = .ok (.invokevirtual 60, 3) := by decide +kernel
theorem dX7_enter_32 : decode cX7_enter 32 = .ok (.iconst 1, 1) := by decide +kernel
theorem dX7_enter_33 : decode cX7_enter 33 = .ok (.ireturn, 1) := by decide +kernel
theorem dX7_readRules_0 : decode cX7_readRules 0 = .ok (.aload_n 0, 1) := by decide +kernel
theorem dX7_readRules_1 : decode cX7_readRules 1 = .ok (.iconst 1, 1) := by decide +kernel
theorem dX7_readRules_2 : decode cX7_readRules 2 = .ok (.putfield 35, 3) := by decide +kernel
theorem dX7_readRules_5 : decode cX7_readRules 5 = .ok (.aload_n 0, 1) := by decide +kernel
theorem dX7_readRules_6 : decode cX7_readRules 6 = .ok (.getfield 12, 3) := by decide +kernel
theorem dX7_readRules_9 : decode cX7_readRules 9 = .ok (.invokevirtual 60, 3) := by decide +kernel
theorem dX7_readRules_12 : decode cX7_readRules 12 = .ok (.aload_n 0, 1) := by decide +kernel
theorem dX7_readRules_13 : decode cX7_readRules 13 = .ok (.ldc 118, 2) := by decide +kernel
theorem dX7_readRules_15 : decode cX7_readRules 15 = .ok (.iconst 0, 1) := by decide +kernel
theorem dX7_readRules_16 : decode cX7_readRules 16 = .ok (.bipush 9, 2) := by decide +kernel
theorem dX7_readRules_18 : decode cX7_readRules 18 = .ok (.invokevirtual 120, 3) := by decide +kernel
theorem dX7_readRules_21 : decode cX7_readRules 21 = .ok (.ifCond .ne 5, 3) := by decide +kernel
theorem dX7_readRules_24 : decode cX7_readRules 24 = .ok (.iconst 0, 1) := by decide +kernel
theorem dX7_readRules_25 : decode cX7_readRules 25 = .ok (.ireturn, 1) := by decide +kernel
theorem dX7_readRules_26 : decode cX7_readRules 26 = .ok (.aload_n 0, 1) := by decide +kernel
theorem dX7_readRules_27 : decode cX7_readRules 27 = .ok (.getfield 21, 3) := by decide +kernel
theorem dX7_readRules_30 : decode cX7_readRules 30 = .ok (.aload_n 0, 1) := by decide +kernel
theorem dX7_readRules_31 : decode cX7_readRules 31 = .ok (.getfield 124, 3) := by decide +kernel
theorem dX7_readRules_34 : decode cX7_readRules 34 = .ok (.putfield 127, 3) := by decide +kernel
theorem dX7_readRules_37 : decode cX7_readRules 37 = .ok (.aload_n 0, 1) := by decide +kernel
theorem dX7_readRules_38 : decode cX7_readRules 38 = .ok (.ldc 129, 2) := by decide +kernel
theorem dX7_readRules_40 : decode cX7_readRules 40 = .ok (.bipush 25, 2) := by decide +kernel
theorem dX7_readRules_42 : decode cX7_readRules 42 = .ok (.bipush 60, 2) := by decide +kernel
theorem dX7_readRules_44 : decode cX7_readRules 44 = .ok (.invokevirtual 120, 3) := by decide +kernel
theorem dX7_readRules_47 : decode cX7_readRules 47 = .ok (.ifCond .ne 5, 3) := by decide +kernel
theorem dX7_readRules_50 : decode cX7_readRules 50 = .ok (.iconst 0, 1) := by decide +kernel
theorem dX7_readRules_51 : decode cX7_readRules 51 = .ok (.ireturn, 1) := by decide +kernel
theorem dX7_readRules_52 : decode cX7_readRules 52 = .ok (.aload_n 0, 1) := by decide +kernel
theorem dX7_readRules_53 : decode cX7_readRules 53 = .ok (.getfield 21, 3) := by decide +kernel
theorem dX7_readRules_56 : decode cX7_readRules 56 = .ok (.aload_n 0, 1) := by decide +kernel
theorem dX7_readRules_57 : decode cX7_readRules 57 = .ok (.getfield 124, 3) := by decide +kernel
theorem dX7_readRules_60 : decode cX7_readRules 60 = .ok (.putfield 131, 3) := by decide +kernel
theorem dX7_readRules_63 : decode cX7_readRules 63 = .ok (.aload_n 0, 1) := by decide +kernel
theorem dX7_readRules_64 : decode cX7_readRules 64 = .ok (.ldc 133, 2) := by decide +kernel
theorem dX7_readRules_66 : decode cX7_readRules 66 = .ok (.iconst 0, 1) := by decide +kernel
theorem dX7_readRules_67 : decode cX7_readRules 67 = .ok (.bipush 99, 2) := by decide +kernel
theorem dX7_readRules_69 : decode cX7_readRules 69 = .ok (.invokevirtual 120, 3) := by decide +kernel
theorem dX7_readRules_72 : decode cX7_readRules 72 = .ok (.ifCond .ne 5, 3) := by decide +kernel
theorem dX7_readRules_75 : decode cX7_readRules 75 = .ok (.iconst 0, 1) := by decide +kernel
theorem dX7_readRules_76 : decode cX7_readRules 76 = .ok (.ireturn, 1) := by decide +kernel
theorem dX7_readRules_77 : decode cX7_readRules 77 = .ok (.aload_n 0, 1) := by decide +kernel
theorem dX7_readRules_78 : decode cX7_readRules 78 = .ok (.getfield 21, 3) := by decide +kernel
theorem dX7_readRules_81 : decode cX7_readRules 81 = .ok (.aload_n 0, 1) := by decide +kernel
theorem dX7_readRules_82 : decode cX7_readRules 82 = .ok (.getfield 124, 3) := by decide +kernel
theorem dX7_readRules_85 : decode cX7_readRules 85 = .ok (.putfield 135, 3) := by decide +kernel
theorem dX7_readRules_88 : decode cX7_readRules 88 = .ok (.aload_n 0, 1) := by decide +kernel
theorem dX7_readRules_89 : decode cX7_readRules 89 = .ok (.ldc 137, 2) := by decide +kernel
theorem dX7_readRules_91 : decode cX7_readRules 91 = .ok (.iconst 0, 1) := by decide +kernel
theorem dX7_readRules_92 : decode cX7_readRules 92 = .ok (.bipush 99, 2) := by decide +kernel
theorem dX7_readRules_94 : decode cX7_readRules 94 = .ok (.invokevirtual 120, 3) := by decide +kernel
theorem dX7_readRules_97 : decode cX7_readRules 97 = .ok (.ifCond .ne 5, 3) := by decide +kernel
theorem dX7_readRules_100 : decode cX7_readRules 100 = .ok (.iconst 0, 1) := by decide +kernel
theorem dX7_readRules_101 : decode cX7_readRules 101 = .ok (.ireturn, 1) := by decide +kernel
theorem dX7_readRules_102 : decode cX7_readRules 102 = .ok (.aload_n 0, 1) := by decide +kernel
theorem dX7_readRules_103 : decode cX7_readRules 103 = .ok (.getfield 21, 3) := by decide +kernel
theorem dX7_readRules_106 : decode cX7_readRules 106 = .ok (.aload_n 0, 1) := by decide +kernel
theorem dX7_readRules_107 : decode cX7_readRules 107 = .ok (.getfield 124, 3) := by decide +kernel
theorem dX7_readRules_110 : decode cX7_readRules 110 = .ok (.putfield 139, 3) := by decide +kernel
theorem dX7_readRules_113 : decode cX7_readRules 113 = .ok (.aload_n 0, 1) := by decide +kernel
theorem dX7_readRules_114 : decode cX7_readRules 114 = .ok (.ldc 141, 2) := by decide +kernel
theorem dX7_readRules_116 : decode cX7_readRules 116 = .ok (.iconst 0, 1) := by decide +kernel
theorem dX7_readRules_117 : decode cX7_readRules 117 = .ok (.bipush 99, 2) := by decide +kernel
theorem dX7_readRules_119 : decode cX7_readRules 119 = .ok (.invokevirtual 120, 3) := by decide +kernel
theorem dX7_readRules_122 : decode cX7_readRules 122 = .ok (.ifCond .ne 5, 3) := by decide +kernel
theorem dX7_readRules_125 : decode cX7_readRules 125 = .ok (.iconst 0, 1) := by decide +kernel
theorem dX7_readRules_126 : decode cX7_readRules 126 = .ok (.ireturn, 1) := by decide +kernel
theorem dX7_readRules_127 : decode cX7_readRules 127 = .ok (.aload_n 0, 1) := by decide +kernel
theorem dX7_readRules_128 : decode cX7_readRules 128 = .ok (.getfield 21, 3) := by decide +kernel
theorem dX7_readRules_131 : decode cX7_readRules 131 = .ok (.aload_n 0, 1) := by decide +kernel
theorem dX7_readRules_132 : decode cX7_readRules 132 = .ok (.getfield 124, 3) := by decide +kernel
theorem dX7_readRules_135 : decode cX7_readRules 135 = .ok (.putfield 143, 3) := by decide +kernel
theorem dX7_readRules_138 : decode cX7_readRules 138 = .ok (.iconst 1, 1) := by decide +kernel
theorem dX7_readRules_139 : decode cX7_readRules 139 = .ok (.ireturn, 1) := by decide +kernel
theorem dX7_readBone_0 : decode cX7_readBone 0 = .ok (.aload_n 0, 1) := by decide +kernel
theorem dX7_readBone_1 : decode cX7_readBone 1 = .ok (.getfield 21, 3) := by decide +kernel
theorem dX7_readBone_4 : decode cX7_readBone 4 = .ok (.getfield 145, 3) := by decide +kernel
theorem dX7_readBone_7 : decode cX7_readBone 7 = .ok (.aload_n 0, 1) := by decide +kernel
theorem dX7_readBone_8 : decode cX7_readBone 8 = .ok (.getfield 21, 3) := by decide +kernel
theorem dX7_readBone_11 : decode cX7_readBone 11 = .ok (.getfield 50, 3) := by decide +kernel
theorem dX7_readBone_14 : decode cX7_readBone 14 = .ok (.aaload, 1) := by decide +kernel
theorem dX7_readBone_15 : decode cX7_readBone 15 = .ok (.astore_n 1, 1) := by decide +kernel
theorem dX7_readBone_16 : decode cX7_readBone 16 = .ok (.aload_n 0, 1) := by decide +kernel
theorem dX7_readBone_17 : decode cX7_readBone 17 = .ok (.invokevirtual 149, 3) := by decide +kernel
theorem dX7_readBone_20 : decode cX7_readBone 20 = .ok (.ifCond .ne 5, 3) := by decide +kernel
theorem dX7_readBone_23 : decode cX7_readBone 23 = .ok (.iconst 0, 1) := by decide +kernel
theorem dX7_readBone_24 : decode cX7_readBone 24 = .ok (.ireturn, 1) := by decide +kernel
theorem dX7_readBone_25 : decode cX7_readBone 25 = .ok (.aload_n 1, 1) := by decide +kernel
theorem dX7_readBone_26 : decode cX7_readBone 26 = .ok (.aload_n 0, 1) := by decide +kernel
theorem dX7_readBone_27 : decode cX7_readBone 27 = .ok (.getfield 12, 3) := by decide +kernel
theorem dX7_readBone_30 : decode cX7_readBone 30 = .ok (.getfield 152, 3) := by decide +kernel
theorem dX7_readBone_33 : decode cX7_readBone 33 = .ok (.putfield 156, 3) := by decide +kernel
theorem dX7_readBone_36 : decode cX7_readBone 36 = .ok (.aload_n 0, 1) := by decide +kernel
theorem dX7_readBone_37 : decode cX7_readBone 37 = .ok (.getfield 12, 3) := by decide +kernel
theorem dX7_readBone_40 : decode cX7_readBone 40 = .ok (.invokevirtual 60, 3) := by decide +kernel
theorem dX7_readBone_43 : decode cX7_readBone 43 = .ok (.aload_n 0, 1) := by decide +kernel
theorem dX7_readBone_44 : decode cX7_readBone 44 = .ok (.ldc 161, 2) := by decide +kernel
theorem dX7_readBone_46 : decode cX7_readBone 46 = .ok (.ldc 163, 2) := by decide +kernel
theorem dX7_readBone_48 : decode cX7_readBone 48 = .ok (.ldc 165, 2) := by decide +kernel
theorem dX7_readBone_50 : decode cX7_readBone 50 = .ok (.ldc 167, 2) := by decide +kernel
theorem dX7_readBone_52 : decode cX7_readBone 52 = .ok (.invokevirtual 169, 3) := by decide +kernel
theorem dX7_readBone_55 : decode cX7_readBone 55 = .ok (.ifCond .ne 5, 3) := by decide +kernel
theorem dX7_readBone_58 : decode cX7_readBone 58 = .ok (.iconst 0, 1) := by decide +kernel
theorem dX7_readBone_59 : decode cX7_readBone 59 = .ok (.ireturn, 1) := by decide +kernel
theorem dX7_readBone_60 : decode cX7_readBone 60 = .ok (.aload_n 1, 1) := by decide +kernel
theorem dX7_readBone_61 : decode cX7_readBone 61 = .ok (.aload_n 0, 1) := by decide +kernel
theorem dX7_readBone_62 : decode cX7_readBone 62 = .ok (.getfield 124, 3) := by decide +kernel
theorem dX7_readBone_65 : decode cX7_readBone 65 = .ok (.putfield 173, 3) := by decide +kernel
theorem dX7_readBone_68 : decode cX7_readBone 68 = .ok (.aload_n 0, 1) := by decide +kernel
theorem dX7_readBone_69 : decode cX7_readBone 69 = .ok (.ldc 174, 2) := by decide +kernel
theorem dX7_readBone_71 : decode cX7_readBone 71 = .ok (.iconst 0, 1) := by decide +kernel
theorem dX7_readBone_72 : decode cX7_readBone 72 = .ok (.bipush 24, 2) := by decide +kernel
theorem dX7_readBone_74 : decode cX7_readBone 74 = .ok (.invokevirtual 120, 3) := by decide +kernel
theorem dX7_readBone_77 : decode cX7_readBone 77 = .ok (.ifCond .ne 5, 3) := by decide +kernel
theorem dX7_readBone_80 : decode cX7_readBone 80 = .ok (.iconst 0, 1) := by decide +kernel
theorem dX7_readBone_81 : decode cX7_readBone 81 = .ok (.ireturn, 1) := by decide +kernel
theorem dX7_readBone_82 : decode cX7_readBone 82 = .ok (.aload_n 1, 1) := by decide +kernel
theorem dX7_readBone_83 : decode cX7_readBone 83 = .ok (.aload_n 0, 1) := by decide +kernel
theorem dX7_readBone_84 : decode cX7_readBone 84 = .ok (.getfield 124, 3) := by decide +kernel
theorem dX7_readBone_87 : decode cX7_readBone 87 = .ok (.putfield 176, 3) := by decide +kernel
theorem dX7_readBone_90 : decode cX7_readBone 90 = .ok (.aload_n 0, 1) := by decide +kernel
theorem dX7_readBone_91 : decode cX7_readBone 91 = .ok (.ldc 179, 2) := by decide +kernel
theorem dX7_readBone_93 : decode cX7_readBone 93 = .ok (.invokevirtual 181, 3) := by decide +kernel
theorem dX7_readBone_96 : decode cX7_readBone 96 = .ok (.ifCond .eq 12, 3) := by decide +kernel
theorem dX7_readBone_99 : decode cX7_readBone 99 = .ok (.aload_n 0, 1) := by decide +kernel
theorem dX7_readBone_100 : decode cX7_readBone 100 = .ok (.aload_n 1, 1) := by decide +kernel
theorem dX7_readBone_101 : decode cX7_readBone 101 = .ok (.iconst 0, 1) := by decide +kernel
theorem dX7_readBone_102 : decode cX7_readBone 102 = .ok (.invokevirtual 184, 3) := by decide +kernel
theorem dX7_readBone_105 : decode cX7_readBone 105 = .ok (.ifCond .ne 5, 3) := by decide +kernel
theorem dX7_readBone_108 : decode cX7_readBone 108 = .ok (.iconst 0, 1) := by decide +kernel
theorem dX7_readBone_109 : decode cX7_readBone 109 = .ok (.ireturn, 1) := by decide +kernel
theorem dX7_readBone_110 : decode cX7_readBone 110 = .ok (.aload_n 1, 1) := by decide +kernel
theorem dX7_readBone_111 : decode cX7_readBone 111 = .ok (.getfield 188, 3) := by decide +kernel
theorem dX7_readBone_114 : decode cX7_readBone 114 = .ok (.iconst 0, 1) := by decide +kernel
theorem dX7_readBone_115 : decode cX7_readBone 115 = .ok (.iaload, 1) := by decide +kernel
theorem dX7_readBone_116 : decode cX7_readBone 116 = .ok (.iconst 2, 1) := by decide +kernel
theorem dX7_readBone_117 : decode cX7_readBone 117 = .ok (.if_icmp .ge 22, 3) := by decide +kernel
theorem dX7_readBone_120 : decode cX7_readBone 120 = .ok (.aload_n 0, 1) := by decide +kernel
theorem dX7_readBone_121 : decode cX7_readBone 121 = .ok (.getfield 12, 3) := by decide +kernel
theorem dX7_readBone_124 : decode cX7_readBone 124 = .ok (.ldc 192, 2) := by decide +kernel
theorem dX7_readBone_126 : decode cX7_readBone 126 = .ok (.invokevirtual 68, 3) := by decide +kernel
theorem dX7_readBone_129 : decode cX7_readBone 129 = .ok (.ifCond .eq 10, 3) := by decide +kernel
theorem dX7_readBone_132 : decode cX7_readBone 132 = .ok (.aload_n 0, 1) := by decide +kernel
theorem dX7_readBone_133 : decode cX7_readBone 133 = .ok (.bipush 6, 2) := by decide +kernel
theorem dX7_readBone_135 : decode cX7_readBone 135 = .ok (.invokevirtual 56, 3) := by decide +kernel
theorem dX7_readBone_138 : decode cX7_readBone 138 = .ok (.ireturn, 1) := by decide +kernel
theorem dX7_readBone_139 : decode cX7_readBone 139 = .ok (.aload_n 0, 1) := by decide +kernel
theorem dX7_readBone_140 : decode cX7_readBone 140 = .ok (.ldc 192, 2) := by decide +kernel
theorem dX7_readBone_142 : decode cX7_readBone 142 = .ok (.invokevirtual 181, 3) := by decide +kernel
theorem dX7_readBone_145 : decode cX7_readBone 145 = .ok (.ifCond .eq 12, 3) := by decide +kernel
theorem dX7_readBone_148 : decode cX7_readBone 148 = .ok (.aload_n 0, 1) := by decide +kernel
theorem dX7_readBone_149 : decode cX7_readBone 149 = .ok (.aload_n 1, 1) := by decide +kernel
theorem dX7_readBone_150 : decode cX7_readBone 150 = .ok (.iconst 1, 1) := by decide +kernel
theorem dX7_readBone_151 : decode cX7_readBone 151 = .ok (.invokevirtual 184, 3) := by decide +kernel
theorem dX7_readBone_154 : decode cX7_readBone 154 = .ok (.ifCond .ne 5, 3) := by decide +kernel
theorem dX7_readBone_157 : decode cX7_readBone 157 = .ok (.iconst 0, 1) := by decide +kernel
theorem dX7_readBone_158 : decode cX7_readBone 158 = .ok (.ireturn, 1) := by decide +kernel
theorem dX7_readBone_159 : decode cX7_readBone 159 = .ok (.aload_n 1, 1) := by decide +kernel
theorem dX7_readBone_160 : decode cX7_readBone 160 = .ok (.getfield 188, 3) := by decide +kernel
theorem dX7_readBone_163 : decode cX7_readBone 163 = .ok (.iconst 1, 1) := by decide +kernel
theorem dX7_readBone_164 : decode cX7_readBone 164 = .ok (.iaload, 1) := by decide +kernel
theorem dX7_readBone_165 : decode cX7_readBone 165 = .ok (.iconst 2, 1) := by decide +kernel
theorem dX7_readBone_166 : decode cX7_readBone 166 = .ok (.if_icmp .ge 31, 3) := by decide +kernel
theorem dX7_readBone_169 : decode cX7_readBone 169 = .ok (.aload_n 0, 1) := by decide +kernel
theorem dX7_readBone_170 : decode cX7_readBone 170 = .ok (.getfield 12, 3) := by decide +kernel
theorem dX7_readBone_173 : decode cX7_readBone 173 = .ok (.getfield 47, 3) := by decide +kernel
theorem dX7_readBone_176 : decode cX7_readBone 176 = .ok (.iconst 4, 1) := by decide +kernel
theorem dX7_readBone_177 : decode cX7_readBone 177 = .ok (.if_icmp .eq 13, 3) := by decide +kernel
theorem dX7_readBone_180 : decode cX7_readBone 180 = .ok (.aload_n 0, 1) := by decide +kernel
theorem dX7_readBone_181 : decode cX7_readBone 181 = .ok (.getfield 12, 3) := by decide +kernel
theorem dX7_readBone_184 : decode cX7_readBone 184 = .ok (.getfield 47, 3) := by decide +kernel
theorem dX7_readBone_187 : decode cX7_readBone 187 = .ok (.ifCond .ne 10, 3) := by decide +kernel
theorem dX7_readBone_190 : decode cX7_readBone 190 = .ok (.aload_n 0, 1) := by decide +kernel
theorem dX7_readBone_191 : decode cX7_readBone 191 = .ok (.bipush 6, 2) := by decide +kernel
theorem dX7_readBone_193 : decode cX7_readBone 193 = .ok (.invokevirtual 56, 3) := by decide +kernel
theorem dX7_readBone_196 : decode cX7_readBone 196 = .ok (.ireturn, 1) := by decide +kernel
theorem dX7_readBone_197 : decode cX7_readBone 197 = .ok (.aload_n 0, 1) := by decide +kernel
theorem dX7_readBone_198 : decode cX7_readBone 198 = .ok (.getfield 21, 3) := by decide +kernel
theorem dX7_readBone_201 : decode cX7_readBone 201 = .ok (.dup, 1) := by decide +kernel
theorem dX7_readBone_202 : decode cX7_readBone 202 = .ok (.getfield 50, 3) := by decide +kernel
theorem dX7_readBone_205 : decode cX7_readBone 205 = .ok (.iconst 1, 1) := by decide +kernel
theorem dX7_readBone_206 : decode cX7_readBone 206 = .ok (.iadd, 1) := by decide +kernel
theorem dX7_readBone_207 : decode cX7_readBone 207 = .ok (.putfield 50, 3) := by decide +kernel
theorem dX7_readBone_210 : decode cX7_readBone 210 = .ok (.iconst 1, 1) := by decide +kernel
theorem dX7_readBone_211 : decode cX7_readBone 211 = .ok (.ireturn, 1) := by decide +kernel
theorem dX7_readArm_0 : decode cX7_readArm 0 = .ok (.iconst 0, 1) := by decide +kernel
theorem dX7_readArm_1 : decode cX7_readArm 1 = .ok (.istore_n 3, 1) := by decide +kernel
theorem dX7_readArm_2 : decode cX7_readArm 2 = .ok (.iload_n 3, 1) := by decide +kernel
theorem dX7_readArm_3 : decode cX7_readArm 3 = .ok (.bipush 6, 2) := by decide +kernel
theorem dX7_readArm_5 : decode cX7_readArm 5 = .ok (.if_icmp .gt 70, 3) := by decide +kernel
theorem dX7_readArm_8 : decode cX7_readArm 8 = .ok (.aload_n 0, 1) := by decide +kernel
theorem dX7_readArm_9 : decode cX7_readArm 9 = .ok (.iconst 1, 1) := by decide +kernel
theorem dX7_readArm_10 : decode cX7_readArm 10 = .ok (.bipush 9, 2) := by decide +kernel
theorem dX7_readArm_12 : decode cX7_readArm 12 = .ok (.invokevirtual 194, 3) := by decide +kernel
theorem dX7_readArm_15 : decode cX7_readArm 15 = .ok (.ifCond .ne 5, 3) := by decide +kernel
theorem dX7_readArm_18 : decode cX7_readArm 18 = .ok (.iconst 0, 1) := by decide +kernel
theorem dX7_readArm_19 : decode cX7_readArm 19 = .ok (.ireturn, 1) := by decide +kernel
theorem dX7_readArm_20 : decode cX7_readArm 20 = .ok (.iload_n 3, 1) := by decide +kernel
theorem dX7_readArm_21 : decode cX7_readArm 21 = .ok (.bipush 6, 2) := by decide +kernel
theorem dX7_readArm_23 : decode cX7_readArm 23 = .ok (.if_icmp .lt 9, 3) := by decide +kernel
theorem dX7_readArm_26 : decode cX7_readArm 26 = .ok (.aload_n 0, 1) := by decide +kernel
theorem dX7_readArm_27 : decode cX7_readArm 27 = .ok (.iconst 5, 1) := by decide +kernel
theorem dX7_readArm_28 : decode cX7_readArm 28 = .ok (.invokevirtual 56, 3) := by decide +kernel
theorem dX7_readArm_31 : decode cX7_readArm 31 = .ok (.ireturn, 1) := by decide +kernel
theorem dX7_readArm_32 : decode cX7_readArm 32 = .ok (.aload_n 1, 1) := by decide +kernel
theorem dX7_readArm_33 : decode cX7_readArm 33 = .ok (.iload_n 2, 1) := by decide +kernel
theorem dX7_readArm_34 : decode cX7_readArm 34 = .ok (.iload_n 3, 1) := by decide +kernel
theorem dX7_readArm_35 : decode cX7_readArm 35 = .ok (.aload_n 0, 1) := by decide +kernel
theorem dX7_readArm_36 : decode cX7_readArm 36 = .ok (.getfield 124, 3) := by decide +kernel
theorem dX7_readArm_39 : decode cX7_readArm 39 = .ok (.invokevirtual 197, 3) := by decide +kernel
theorem dX7_readArm_42 : decode cX7_readArm 42 = .ok (.aload_n 0, 1) := by decide +kernel
theorem dX7_readArm_43 : decode cX7_readArm 43 = .ok (.getfield 12, 3) := by decide +kernel
theorem dX7_readArm_46 : decode cX7_readArm 46 = .ok (.invokevirtual 60, 3) := by decide +kernel
theorem dX7_readArm_49 : decode cX7_readArm 49 = .ok (.aload_n 0, 1) := by decide +kernel
theorem dX7_readArm_50 : decode cX7_readArm 50 = .ok (.getfield 12, 3) := by decide +kernel
theorem dX7_readArm_53 : decode cX7_readArm 53 = .ok (.getfield 47, 3) := by decide +kernel
theorem dX7_readArm_56 : decode cX7_readArm 56 = .ok (.iconst 5, 1) := by decide +kernel
theorem dX7_readArm_57 : decode cX7_readArm 57 = .ok (.if_icmp .eq 5, 3) := by decide +kernel
theorem dX7_readArm_60 : decode cX7_readArm 60 = .ok (.iconst 1, 1) := by decide +kernel
theorem dX7_readArm_61 : decode cX7_readArm 61 = .ok (.ireturn, 1) := by decide +kernel
theorem dX7_readArm_62 : decode cX7_readArm 62 = .ok (.aload_n 0, 1) := by decide +kernel
theorem dX7_readArm_63 : decode cX7_readArm 63 = .ok (.getfield 12, 3) := by decide +kernel
theorem dX7_readArm_66 : decode cX7_readArm 66 = .ok (.invokevirtual 60, 3) := by decide +kernel
theorem dX7_readArm_69 : decode cX7_readArm 69 = .ok (.iinc 3 1, 3) := by decide +kernel
theorem dX7_readArm_72 : decode cX7_readArm 72 = .ok (.goto (-70), 3) := by decide +kernel
theorem dX7_readArm_75 : decode cX7_readArm 75 = .ok (.iconst 0, 1) := by decide +kernel
theorem dX7_readArm_76 : decode cX7_readArm 76 = .ok (.ireturn, 1) := by decide +kernel
theorem dX7_readPerson_0 : decode cX7_readPerson 0 = .ok (.aload_n 0, 1) := by decide +kernel
theorem dX7_readPerson_1 : decode cX7_readPerson 1 = .ok (.getfield 21, 3) := by decide +kernel
theorem dX7_readPerson_4 : decode cX7_readPerson 4 = .ok (.getfield 201, 3) := by decide +kernel
theorem dX7_readPerson_7 : decode cX7_readPerson 7 = .ok (.aload_n 0, 1) := by decide +kernel
theorem dX7_readPerson_8 : decode cX7_readPerson 8 = .ok (.getfield 21, 3) := by decide +kernel
theorem dX7_readPerson_11 : decode cX7_readPerson 11 = .ok (.getfield 53, 3) := by decide +kernel
theorem dX7_readPerson_14 : decode cX7_readPerson 14 = .ok (.aaload, 1) := by decide +kernel
theorem dX7_readPerson_15 : decode cX7_readPerson 15 = .ok (.astore_n 1, 1) := by decide +kernel
theorem dX7_readPerson_16 : decode cX7_readPerson 16 = .ok (.aload_n 0, 1) := by decide +kernel
theorem dX7_readPerson_17 : decode cX7_readPerson 17 = .ok (.invokevirtual 149, 3) := by decide +kernel
theorem dX7_readPerson_20 : decode cX7_readPerson 20 = .ok (.ifCond .ne 5, 3) := by decide +kernel
theorem dX7_readPerson_23 : decode cX7_readPerson 23 = .ok (.iconst 0, 1) := by decide +kernel
theorem dX7_readPerson_24 : decode cX7_readPerson 24 = .ok (.ireturn, 1) := by decide +kernel
theorem dX7_readPerson_25 : decode cX7_readPerson 25 = .ok (.aload_n 1, 1) := by decide +kernel
theorem dX7_readPerson_26 : decode cX7_readPerson 26 = .ok (.aload_n 0, 1) := by decide +kernel
theorem dX7_readPerson_27 : decode cX7_readPerson 27 = .ok (.getfield 12, 3) := by decide +kernel
theorem dX7_readPerson_30 : decode cX7_readPerson 30 = .ok (.getfield 152, 3) := by decide +kernel
theorem dX7_readPerson_33 : decode cX7_readPerson 33 = .ok (.invokevirtual 205, 3) := by decide +kernel
theorem dX7_readPerson_36 : decode cX7_readPerson 36 = .ok (.aload_n 0, 1) := by decide +kernel
theorem dX7_readPerson_37 : decode cX7_readPerson 37 = .ok (.getfield 12, 3) := by decide +kernel
theorem dX7_readPerson_40 : decode cX7_readPerson 40 = .ok (.invokevirtual 60, 3) := by decide +kernel
theorem dX7_readPerson_43 : decode cX7_readPerson 43 = .ok (.aload_n 0, 1) := by decide +kernel
theorem dX7_readPerson_44 : decode cX7_readPerson 44 = .ok (.ldc 211, 2) := by decide +kernel
theorem dX7_readPerson_46 : decode cX7_readPerson 46 = .ok (.ldc 213, 2) := by decide +kernel
theorem dX7_readPerson_48 : decode cX7_readPerson 48 = .ok (.ldc 215, 2) := by decide +kernel
theorem dX7_readPerson_50 : decode cX7_readPerson 50 = .ok (.ldc 217, 2) := by decide +kernel
theorem dX7_readPerson_52 : decode cX7_readPerson 52 = .ok (.invokevirtual 169, 3) := by decide +kernel
theorem dX7_readPerson_55 : decode cX7_readPerson 55 = .ok (.ifCond .ne 5, 3) := by decide +kernel
theorem dX7_readPerson_58 : decode cX7_readPerson 58 = .ok (.iconst 0, 1) := by decide +kernel
theorem dX7_readPerson_59 : decode cX7_readPerson 59 = .ok (.ireturn, 1) := by decide +kernel
theorem dX7_readPerson_60 : decode cX7_readPerson 60 = .ok (.aload_n 1, 1) := by decide +kernel
theorem dX7_readPerson_61 : decode cX7_readPerson 61 = .ok (.aload_n 0, 1) := by decide +kernel
theorem dX7_readPerson_62 : decode cX7_readPerson 62 = .ok (.getfield 124, 3) := by decide +kernel
theorem dX7_readPerson_65 : decode cX7_readPerson 65 = .ok (.putfield 219, 3) := by decide +kernel
theorem dX7_readPerson_68 : decode cX7_readPerson 68 = .ok (.aload_n 0, 1) := by decide +kernel
theorem dX7_readPerson_69 : decode cX7_readPerson 69 = .ok (.ldc 220, 2) := by decide +kernel
theorem dX7_readPerson_71 : decode cX7_readPerson 71 = .ok (.iconst 1, 1) := by decide +kernel
theorem dX7_readPerson_72 : decode cX7_readPerson 72 = .ok (.bipush 40, 2) := by decide +kernel
theorem dX7_readPerson_74 : decode cX7_readPerson 74 = .ok (.invokevirtual 120, 3) := by decide +kernel
theorem dX7_readPerson_77 : decode cX7_readPerson 77 = .ok (.ifCond .ne 5, 3) := by decide +kernel
theorem dX7_readPerson_80 : decode cX7_readPerson 80 = .ok (.iconst 0, 1) := by decide +kernel
theorem dX7_readPerson_81 : decode cX7_readPerson 81 = .ok (.ireturn, 1) := by decide +kernel
theorem dX7_readPerson_82 : decode cX7_readPerson 82 = .ok (.aload_n 1, 1) := by decide +kernel
theorem dX7_readPerson_83 : decode cX7_readPerson 83 = .ok (.aload_n 0, 1) := by decide +kernel
theorem dX7_readPerson_84 : decode cX7_readPerson 84 = .ok (.getfield 124, 3) := by decide +kernel
theorem dX7_readPerson_87 : decode cX7_readPerson 87 = .ok (.putfield 222, 3) := by decide +kernel
theorem dX7_readPerson_90 : decode cX7_readPerson 90 = .ok (.aload_n 0, 1) := by decide +kernel
theorem dX7_readPerson_91 : decode cX7_readPerson 91 = .ok (.ldc 224, 2) := by decide +kernel
theorem dX7_readPerson_93 : decode cX7_readPerson 93 = .ok (.iconst 1, 1) := by decide +kernel
theorem dX7_readPerson_94 : decode cX7_readPerson 94 = .ok (.bipush 6, 2) := by decide +kernel
theorem dX7_readPerson_96 : decode cX7_readPerson 96 = .ok (.invokevirtual 120, 3) := by decide +kernel
theorem dX7_readPerson_99 : decode cX7_readPerson 99 = .ok (.ifCond .ne 5, 3) := by decide +kernel
theorem dX7_readPerson_102 : decode cX7_readPerson 102 = .ok (.iconst 0, 1) := by decide +kernel
theorem dX7_readPerson_103 : decode cX7_readPerson 103 = .ok (.ireturn, 1) := by decide +kernel
theorem dX7_readPerson_104 : decode cX7_readPerson 104 = .ok (.aload_n 1, 1) := by decide +kernel
theorem dX7_readPerson_105 : decode cX7_readPerson 105 = .ok (.aload_n 0, 1) := by decide +kernel
theorem dX7_readPerson_106 : decode cX7_readPerson 106 = .ok (.getfield 124, 3) := by decide +kernel
theorem dX7_readPerson_109 : decode cX7_readPerson 109 = .ok (.putfield 226, 3) := by decide +kernel
theorem dX7_readPerson_112 : decode cX7_readPerson 112 = .ok (.aload_n 0, 1) := by decide +kernel
theorem dX7_readPerson_113 : decode cX7_readPerson 113 = .ok (.ldc 228, 2) := by decide +kernel
theorem dX7_readPerson_115 : decode cX7_readPerson 115 = .ok (.iconst 0, 1) := by decide +kernel
theorem dX7_readPerson_116 : decode cX7_readPerson 116 = .ok (.bipush 99, 2) := by decide +kernel
theorem dX7_readPerson_118 : decode cX7_readPerson 118 = .ok (.invokevirtual 120, 3) := by decide +kernel
theorem dX7_readPerson_121 : decode cX7_readPerson 121 = .ok (.ifCond .ne 5, 3) := by decide +kernel
theorem dX7_readPerson_124 : decode cX7_readPerson 124 = .ok (.iconst 0, 1) := by decide +kernel
theorem dX7_readPerson_125 : decode cX7_readPerson 125 = .ok (.ireturn, 1) := by decide +kernel
theorem dX7_readPerson_126 : decode cX7_readPerson 126 = .ok (.aload_n 1, 1) := by decide +kernel
theorem dX7_readPerson_127 : decode cX7_readPerson 127 = .ok (.aload_n 0, 1) := by decide +kernel
theorem dX7_readPerson_128 : decode cX7_readPerson 128 = .ok (.getfield 124, 3) := by decide +kernel
theorem dX7_readPerson_131 : decode cX7_readPerson 131 = .ok (.putfield 230, 3) := by decide +kernel
theorem dX7_readPerson_134 : decode cX7_readPerson 134 = .ok (.aload_n 1, 1) := by decide +kernel
theorem dX7_readPerson_135 : decode cX7_readPerson 135 = .ok (.aload_n 0, 1) := by decide +kernel
theorem dX7_readPerson_136 : decode cX7_readPerson 136 = .ok (.getfield 124, 3) := by decide +kernel
theorem dX7_readPerson_139 : decode cX7_readPerson 139 = .ok (.putfield 232, 3) := by decide +kernel
theorem dX7_readPerson_142 : decode cX7_readPerson 142 = .ok (.aload_n 0, 1) := by decide +kernel
theorem dX7_readPerson_143 : decode cX7_readPerson 143 = .ok (.getfield 21, 3) := by decide +kernel
theorem dX7_readPerson_146 : decode cX7_readPerson 146 = .ok (.dup, 1) := by decide +kernel
theorem dX7_readPerson_147 : decode cX7_readPerson 147 = .ok (.getfield 53, 3) := by decide +kernel
theorem dX7_readPerson_150 : decode cX7_readPerson 150 = .ok (.iconst 1, 1) := by decide +kernel
theorem dX7_readPerson_151 : decode cX7_readPerson 151 = .ok (.iadd, 1) := by decide +kernel
theorem dX7_readPerson_152 : decode cX7_readPerson 152 = .ok (.putfield 53, 3) := by decide +kernel
theorem dX7_readPerson_155 : decode cX7_readPerson 155 = .ok (.iconst 1, 1) := by decide +kernel
theorem dX7_readPerson_156 : decode cX7_readPerson 156 = .ok (.ireturn, 1) := by decide +kernel
theorem dX7_readFor_0 : decode cX7_readFor 0 = .ok (.aload_n 0, 1) := by decide +kernel
theorem dX7_readFor_1 : decode cX7_readFor 1 = .ok (.iconst (-1), 1) := by decide +kernel
theorem dX7_readFor_2 : decode cX7_readFor 2 = .ok (.invokevirtual 235, 3) := by decide +kernel
theorem dX7_readFor_5 : decode cX7_readFor 5 = .ok (.ifCond .ne 5, 3) := by decide +kernel
theorem dX7_readFor_8 : decode cX7_readFor 8 = .ok (.iconst 0, 1) := by decide +kernel
theorem dX7_readFor_9 : decode cX7_readFor 9 = .ok (.ireturn, 1) := by decide +kernel
theorem dX7_readFor_10 : decode cX7_readFor 10 = .ok (.aload_n 0, 1) := by decide +kernel
theorem dX7_readFor_11 : decode cX7_readFor 11 = .ok (.getfield 124, 3) := by decide +kernel
theorem dX7_readFor_14 : decode cX7_readFor 14 = .ok (.istore_n 1, 1) := by decide +kernel
theorem dX7_readFor_15 : decode cX7_readFor 15 = .ok (.aload_n 0, 1) := by decide +kernel
theorem dX7_readFor_16 : decode cX7_readFor 16 = .ok (.getfield 12, 3) := by decide +kernel
theorem dX7_readFor_19 : decode cX7_readFor 19 = .ok (.invokevirtual 60, 3) := by decide +kernel
theorem dX7_readFor_22 : decode cX7_readFor 22 = .ok (.aload_n 0, 1) := by decide +kernel
theorem dX7_readFor_23 : decode cX7_readFor 23 = .ok (.iload_n 1, 1) := by decide +kernel
theorem dX7_readFor_24 : decode cX7_readFor 24 = .ok (.invokevirtual 235, 3) := by decide +kernel
theorem dX7_readFor_27 : decode cX7_readFor 27 = .ok (.ifCond .ne 5, 3) := by decide +kernel
theorem dX7_readFor_30 : decode cX7_readFor 30 = .ok (.iconst 0, 1) := by decide +kernel
theorem dX7_readFor_31 : decode cX7_readFor 31 = .ok (.ireturn, 1) := by decide +kernel
theorem dX7_readFor_32 : decode cX7_readFor 32 = .ok (.aload_n 0, 1) := by decide +kernel
theorem dX7_readFor_33 : decode cX7_readFor 33 = .ok (.getfield 21, 3) := by decide +kernel
theorem dX7_readFor_36 : decode cX7_readFor 36 = .ok (.getfield 201, 3) := by decide +kernel
theorem dX7_readFor_39 : decode cX7_readFor 39 = .ok (.iload_n 1, 1) := by decide +kernel
theorem dX7_readFor_40 : decode cX7_readFor 40 = .ok (.aaload, 1) := by decide +kernel
theorem dX7_readFor_41 : decode cX7_readFor 41 = .ok (.astore_n 2, 1) := by decide +kernel
theorem dX7_readFor_42 : decode cX7_readFor 42 = .ok (.iconst 1, 1) := by decide +kernel
theorem dX7_readFor_43 : decode cX7_readFor 43 = .ok (.aload_n 0, 1) := by decide +kernel
theorem dX7_readFor_44 : decode cX7_readFor 44 = .ok (.getfield 124, 3) := by decide +kernel
theorem dX7_readFor_47 : decode cX7_readFor 47 = .ok (.ishl, 1) := by decide +kernel
theorem dX7_readFor_48 : decode cX7_readFor 48 = .ok (.istore_n 3, 1) := by decide +kernel
theorem dX7_readFor_49 : decode cX7_readFor 49 = .ok (.aload_n 2, 1) := by decide +kernel
theorem dX7_readFor_50 : decode cX7_readFor 50 = .ok (.getfield 238, 3) := by decide +kernel
theorem dX7_readFor_53 : decode cX7_readFor 53 = .ok (.iload_n 3, 1) := by decide +kernel
theorem dX7_readFor_54 : decode cX7_readFor 54 = .ok (.iand, 1) := by decide +kernel
theorem dX7_readFor_55 : decode cX7_readFor 55 = .ok (.ifCond .eq 9, 3) := by decide +kernel
theorem dX7_readFor_58 : decode cX7_readFor 58 = .ok (.aload_n 0, 1) := by decide +kernel
theorem dX7_readFor_59 : decode cX7_readFor 59 = .ok (.iconst 3, 1) := by decide +kernel
theorem dX7_readFor_60 : decode cX7_readFor 60 = .ok (.invokevirtual 56, 3) := by decide +kernel
theorem dX7_readFor_63 : decode cX7_readFor 63 = .ok (.ireturn, 1) := by decide +kernel
theorem dX7_readFor_64 : decode cX7_readFor 64 = .ok (.aload_n 0, 1) := by decide +kernel
theorem dX7_readFor_65 : decode cX7_readFor 65 = .ok (.getfield 12, 3) := by decide +kernel
theorem dX7_readFor_68 : decode cX7_readFor 68 = .ok (.invokevirtual 60, 3) := by decide +kernel
theorem dX7_readFor_71 : decode cX7_readFor 71 = .ok (.aload_n 0, 1) := by decide +kernel
theorem dX7_readFor_72 : decode cX7_readFor 72 = .ok (.iconst 0, 1) := by decide +kernel
theorem dX7_readFor_73 : decode cX7_readFor 73 = .ok (.bipush 99, 2) := by decide +kernel
theorem dX7_readFor_75 : decode cX7_readFor 75 = .ok (.invokevirtual 194, 3) := by decide +kernel
theorem dX7_readFor_78 : decode cX7_readFor 78 = .ok (.ifCond .ne 5, 3) := by decide +kernel
theorem dX7_readFor_81 : decode cX7_readFor 81 = .ok (.iconst 0, 1) := by decide +kernel
theorem dX7_readFor_82 : decode cX7_readFor 82 = .ok (.ireturn, 1) := by decide +kernel
theorem dX7_readFor_83 : decode cX7_readFor 83 = .ok (.aload_n 0, 1) := by decide +kernel
theorem dX7_readFor_84 : decode cX7_readFor 84 = .ok (.getfield 12, 3) := by decide +kernel
theorem dX7_readFor_87 : decode cX7_readFor 87 = .ok (.invokevirtual 60, 3) := by decide +kernel
theorem dX7_readFor_90 : decode cX7_readFor 90 = .ok (.aload_n 2, 1) := by decide +kernel
theorem dX7_readFor_91 : decode cX7_readFor 91 = .ok (.dup, 1) := by decide +kernel
theorem dX7_readFor_92 : decode cX7_readFor 92 = .ok (.getfield 238, 3) := by decide +kernel
theorem dX7_readFor_95 : decode cX7_readFor 95 = .ok (.iload_n 3, 1) := by decide +kernel
theorem dX7_readFor_96 : decode cX7_readFor 96 = .ok (.ior, 1) := by decide +kernel
theorem dX7_readFor_97 : decode cX7_readFor 97 = .ok (.putfield 238, 3) := by decide +kernel
theorem dX7_readFor_100 : decode cX7_readFor 100 = .ok (.aload_n 2, 1) := by decide +kernel
theorem dX7_readFor_101 : decode cX7_readFor 101 = .ok (.dup, 1) := by decide +kernel
theorem dX7_readFor_102 : decode cX7_readFor 102 = .ok (.getfield 232, 3) := by decide +kernel
theorem dX7_readFor_105 : decode cX7_readFor 105 = .ok (.aload_n 0, 1) := by decide +kernel
theorem dX7_readFor_106 : decode cX7_readFor 106 = .ok (.getfield 124, 3) := by decide +kernel
theorem dX7_readFor_109 : decode cX7_readFor 109 = .ok (.iadd, 1) := by decide +kernel
theorem dX7_readFor_110 : decode cX7_readFor 110 = .ok (.putfield 232, 3) := by decide +kernel
theorem dX7_readFor_113 : decode cX7_readFor 113 = .ok (.aload_n 0, 1) := by decide +kernel
theorem dX7_readFor_114 : decode cX7_readFor 114 = .ok (.getfield 21, 3) := by decide +kernel
theorem dX7_readFor_117 : decode cX7_readFor 117 = .ok (.dup, 1) := by decide +kernel
theorem dX7_readFor_118 : decode cX7_readFor 118 = .ok (.getfield 91, 3) := by decide +kernel
theorem dX7_readFor_121 : decode cX7_readFor 121 = .ok (.iconst 1, 1) := by decide +kernel
theorem dX7_readFor_122 : decode cX7_readFor 122 = .ok (.iadd, 1) := by decide +kernel
theorem dX7_readFor_123 : decode cX7_readFor 123 = .ok (.putfield 91, 3) := by decide +kernel
theorem dX7_readFor_126 : decode cX7_readFor 126 = .ok (.iconst 1, 1) := by decide +kernel
theorem dX7_readFor_127 : decode cX7_readFor 127 = .ok (.ireturn, 1) := by decide +kernel
theorem dX7_readWon_0 : decode cX7_readWon 0 = .ok (.aload_n 0, 1) := by decide +kernel
theorem dX7_readWon_1 : decode cX7_readWon 1 = .ok (.iconst (-1), 1) := by decide +kernel
theorem dX7_readWon_2 : decode cX7_readWon 2 = .ok (.invokevirtual 235, 3) := by decide +kernel
theorem dX7_readWon_5 : decode cX7_readWon 5 = .ok (.ifCond .ne 5, 3) := by decide +kernel
theorem dX7_readWon_8 : decode cX7_readWon 8 = .ok (.iconst 0, 1) := by decide +kernel
theorem dX7_readWon_9 : decode cX7_readWon 9 = .ok (.ireturn, 1) := by decide +kernel
theorem dX7_readWon_10 : decode cX7_readWon 10 = .ok (.aload_n 0, 1) := by decide +kernel
theorem dX7_readWon_11 : decode cX7_readWon 11 = .ok (.getfield 124, 3) := by decide +kernel
theorem dX7_readWon_14 : decode cX7_readWon 14 = .ok (.istore_n 1, 1) := by decide +kernel
theorem dX7_readWon_15 : decode cX7_readWon 15 = .ok (.aload_n 0, 1) := by decide +kernel
theorem dX7_readWon_16 : decode cX7_readWon 16 = .ok (.getfield 12, 3) := by decide +kernel
theorem dX7_readWon_19 : decode cX7_readWon 19 = .ok (.invokevirtual 60, 3) := by decide +kernel
theorem dX7_readWon_22 : decode cX7_readWon 22 = .ok (.aload_n 0, 1) := by decide +kernel
theorem dX7_readWon_23 : decode cX7_readWon 23 = .ok (.iload_n 1, 1) := by decide +kernel
theorem dX7_readWon_24 : decode cX7_readWon 24 = .ok (.invokevirtual 235, 3) := by decide +kernel
theorem dX7_readWon_27 : decode cX7_readWon 27 = .ok (.ifCond .ne 5, 3) := by decide +kernel
theorem dX7_readWon_30 : decode cX7_readWon 30 = .ok (.iconst 0, 1) := by decide +kernel
theorem dX7_readWon_31 : decode cX7_readWon 31 = .ok (.ireturn, 1) := by decide +kernel
theorem dX7_readWon_32 : decode cX7_readWon 32 = .ok (.aload_n 0, 1) := by decide +kernel
theorem dX7_readWon_33 : decode cX7_readWon 33 = .ok (.getfield 124, 3) := by decide +kernel
theorem dX7_readWon_36 : decode cX7_readWon 36 = .ok (.istore_n 2, 1) := by decide +kernel
theorem dX7_readWon_37 : decode cX7_readWon 37 = .ok (.aload_n 0, 1) := by decide +kernel
theorem dX7_readWon_38 : decode cX7_readWon 38 = .ok (.getfield 12, 3) := by decide +kernel
theorem dX7_readWon_41 : decode cX7_readWon 41 = .ok (.invokevirtual 60, 3) := by decide +kernel
theorem dX7_readWon_44 : decode cX7_readWon 44 = .ok (.aload_n 0, 1) := by decide +kernel
theorem dX7_readWon_45 : decode cX7_readWon 45 = .ok (.ldc 179, 2) := by decide +kernel
theorem dX7_readWon_47 : decode cX7_readWon 47 = .ok (.ldc 192, 2) := by decide +kernel
theorem dX7_readWon_49 : decode cX7_readWon 49 = .ok (.ldc 167, 2) := by decide +kernel
theorem dX7_readWon_51 : decode cX7_readWon 51 = .ok (.ldc 167, 2) := by decide +kernel
theorem dX7_readWon_53 : decode cX7_readWon 53 = .ok (.invokevirtual 169, 3) := by decide +kernel
theorem dX7_readWon_56 : decode cX7_readWon 56 = .ok (.ifCond .ne 5, 3) := by decide +kernel
theorem dX7_readWon_59 : decode cX7_readWon 59 = .ok (.iconst 0, 1) := by decide +kernel
theorem dX7_readWon_60 : decode cX7_readWon 60 = .ok (.ireturn, 1) := by decide +kernel
theorem dX7_readWon_61 : decode cX7_readWon 61 = .ok (.aload_n 0, 1) := by decide +kernel
theorem dX7_readWon_62 : decode cX7_readWon 62 = .ok (.getfield 21, 3) := by decide +kernel
theorem dX7_readWon_65 : decode cX7_readWon 65 = .ok (.getfield 201, 3) := by decide +kernel
theorem dX7_readWon_68 : decode cX7_readWon 68 = .ok (.iload_n 1, 1) := by decide +kernel
theorem dX7_readWon_69 : decode cX7_readWon 69 = .ok (.aaload, 1) := by decide +kernel
theorem dX7_readWon_70 : decode cX7_readWon 70 = .ok (.dup, 1) := by decide +kernel
theorem dX7_readWon_71 : decode cX7_readWon 71 = .ok (.getfield 241, 3) := by decide +kernel
theorem dX7_readWon_74 : decode cX7_readWon 74 = .ok (.iconst 1, 1) := by decide +kernel
theorem dX7_readWon_75 : decode cX7_readWon 75 = .ok (.iadd, 1) := by decide +kernel
theorem dX7_readWon_76 : decode cX7_readWon 76 = .ok (.putfield 241, 3) := by decide +kernel
theorem dX7_readWon_79 : decode cX7_readWon 79 = .ok (.aload_n 0, 1) := by decide +kernel
theorem dX7_readWon_80 : decode cX7_readWon 80 = .ok (.getfield 21, 3) := by decide +kernel
theorem dX7_readWon_83 : decode cX7_readWon 83 = .ok (.getfield 201, 3) := by decide +kernel
theorem dX7_readWon_86 : decode cX7_readWon 86 = .ok (.iload_n 2, 1) := by decide +kernel
theorem dX7_readWon_87 : decode cX7_readWon 87 = .ok (.aaload, 1) := by decide +kernel
theorem dX7_readWon_88 : decode cX7_readWon 88 = .ok (.dup, 1) := by decide +kernel
theorem dX7_readWon_89 : decode cX7_readWon 89 = .ok (.getfield 243, 3) := by decide +kernel
theorem dX7_readWon_92 : decode cX7_readWon 92 = .ok (.iconst 1, 1) := by decide +kernel
theorem dX7_readWon_93 : decode cX7_readWon 93 = .ok (.iadd, 1) := by decide +kernel
theorem dX7_readWon_94 : decode cX7_readWon 94 = .ok (.putfield 243, 3) := by decide +kernel
theorem dX7_readWon_97 : decode cX7_readWon 97 = .ok (.aload_n 0, 1) := by decide +kernel
theorem dX7_readWon_98 : decode cX7_readWon 98 = .ok (.getfield 21, 3) := by decide +kernel
theorem dX7_readWon_101 : decode cX7_readWon 101 = .ok (.dup, 1) := by decide +kernel
theorem dX7_readWon_102 : decode cX7_readWon 102 = .ok (.getfield 246, 3) := by decide +kernel
theorem dX7_readWon_105 : decode cX7_readWon 105 = .ok (.aload_n 0, 1) := by decide +kernel
theorem dX7_readWon_106 : decode cX7_readWon 106 = .ok (.getfield 124, 3) := by decide +kernel
theorem dX7_readWon_109 : decode cX7_readWon 109 = .ok (.ifCond .ne 7, 3) := by decide +kernel
theorem dX7_readWon_112 : decode cX7_readWon 112 = .ok (.iconst 1, 1) := by decide +kernel
theorem dX7_readWon_113 : decode cX7_readWon 113 = .ok (.goto 4, 3) := by decide +kernel
theorem dX7_readWon_116 : decode cX7_readWon 116 = .ok (.iconst 0, 1) := by decide +kernel
theorem dX7_readWon_117 : decode cX7_readWon 117 = .ok (.iadd, 1) := by decide +kernel
theorem dX7_readWon_118 : decode cX7_readWon 118 = .ok (.putfield 246, 3) := by decide +kernel
theorem dX7_readWon_121 : decode cX7_readWon 121 = .ok (.aload_n 0, 1) := by decide +kernel
theorem dX7_readWon_122 : decode cX7_readWon 122 = .ok (.getfield 21, 3) := by decide +kernel
theorem dX7_readWon_125 : decode cX7_readWon 125 = .ok (.dup, 1) := by decide +kernel
theorem dX7_readWon_126 : decode cX7_readWon 126 = .ok (.getfield 99, 3) := by decide +kernel
theorem dX7_readWon_129 : decode cX7_readWon 129 = .ok (.iconst 1, 1) := by decide +kernel
theorem dX7_readWon_130 : decode cX7_readWon 130 = .ok (.iadd, 1) := by decide +kernel
theorem dX7_readWon_131 : decode cX7_readWon 131 = .ok (.putfield 99, 3) := by decide +kernel
theorem dX7_readWon_134 : decode cX7_readWon 134 = .ok (.iconst 1, 1) := by decide +kernel
theorem dX7_readWon_135 : decode cX7_readWon 135 = .ok (.ireturn, 1) := by decide +kernel
theorem dX7_readPiece_0 : decode cX7_readPiece 0 = .ok (.aload_n 0, 1) := by decide +kernel
theorem dX7_readPiece_1 : decode cX7_readPiece 1 = .ok (.ldc 179, 2) := by decide +kernel
theorem dX7_readPiece_3 : decode cX7_readPiece 3 = .ok (.ldc 192, 2) := by decide +kernel
theorem dX7_readPiece_5 : decode cX7_readPiece 5 = .ok (.ldc 167, 2) := by decide +kernel
theorem dX7_readPiece_7 : decode cX7_readPiece 7 = .ok (.ldc 167, 2) := by decide +kernel
theorem dX7_readPiece_9 : decode cX7_readPiece 9 = .ok (.invokevirtual 169, 3) := by decide +kernel
theorem dX7_readPiece_12 : decode cX7_readPiece 12 = .ok (.ifCond .ne 5, 3) := by decide +kernel
theorem dX7_readPiece_15 : decode cX7_readPiece 15 = .ok (.iconst 0, 1) := by decide +kernel
theorem dX7_readPiece_16 : decode cX7_readPiece 16 = .ok (.ireturn, 1) := by decide +kernel
theorem dX7_readPiece_17 : decode cX7_readPiece 17 = .ok (.aload_n 0, 1) := by decide +kernel
theorem dX7_readPiece_18 : decode cX7_readPiece 18 = .ok (.getfield 21, 3) := by decide +kernel
theorem dX7_readPiece_21 : decode cX7_readPiece 21 = .ok (.getfield 249, 3) := by decide +kernel
theorem dX7_readPiece_24 : decode cX7_readPiece 24 = .ok (.aload_n 0, 1) := by decide +kernel
theorem dX7_readPiece_25 : decode cX7_readPiece 25 = .ok (.getfield 21, 3) := by decide +kernel
theorem dX7_readPiece_28 : decode cX7_readPiece 28 = .ok (.getfield 107, 3) := by decide +kernel
theorem dX7_readPiece_31 : decode cX7_readPiece 31 = .ok (.aload_n 0, 1) := by decide +kernel
theorem dX7_readPiece_32 : decode cX7_readPiece 32 = .ok (.getfield 124, 3) := by decide +kernel
theorem dX7_readPiece_35 : decode cX7_readPiece 35 = .ok (.iastore, 1) := by decide +kernel
theorem dX7_readPiece_36 : decode cX7_readPiece 36 = .ok (.aload_n 0, 1) := by decide +kernel
theorem dX7_readPiece_37 : decode cX7_readPiece 37 = .ok (.iconst 0, 1) := by decide +kernel
theorem dX7_readPiece_38 : decode cX7_readPiece 38 = .ok (.iconst 5, 1) := by decide +kernel
theorem dX7_readPiece_39 : decode cX7_readPiece 39 = .ok (.invokevirtual 194, 3) := by decide +kernel
theorem dX7_readPiece_42 : decode cX7_readPiece 42 = .ok (.ifCond .ne 5, 3) := by decide +kernel
theorem dX7_readPiece_45 : decode cX7_readPiece 45 = .ok (.iconst 0, 1) := by decide +kernel
theorem dX7_readPiece_46 : decode cX7_readPiece 46 = .ok (.ireturn, 1) := by decide +kernel
theorem dX7_readPiece_47 : decode cX7_readPiece 47 = .ok (.aload_n 0, 1) := by decide +kernel
theorem dX7_readPiece_48 : decode cX7_readPiece 48 = .ok (.getfield 12, 3) := by decide +kernel
theorem dX7_readPiece_51 : decode cX7_readPiece 51 = .ok (.invokevirtual 60, 3) := by decide +kernel
theorem dX7_readPiece_54 : decode cX7_readPiece 54 = .ok (.aload_n 0, 1) := by decide +kernel
theorem dX7_readPiece_55 : decode cX7_readPiece 55 = .ok (.getfield 21, 3) := by decide +kernel
theorem dX7_readPiece_58 : decode cX7_readPiece 58 = .ok (.getfield 252, 3) := by decide +kernel
theorem dX7_readPiece_61 : decode cX7_readPiece 61 = .ok (.aload_n 0, 1) := by decide +kernel
theorem dX7_readPiece_62 : decode cX7_readPiece 62 = .ok (.getfield 21, 3) := by decide +kernel
theorem dX7_readPiece_65 : decode cX7_readPiece 65 = .ok (.getfield 107, 3) := by decide +kernel
theorem dX7_readPiece_68 : decode cX7_readPiece 68 = .ok (.aload_n 0, 1) := by decide +kernel
theorem dX7_readPiece_69 : decode cX7_readPiece 69 = .ok (.getfield 124, 3) := by decide +kernel
theorem dX7_readPiece_72 : decode cX7_readPiece 72 = .ok (.iastore, 1) := by decide +kernel
theorem dX7_readPiece_73 : decode cX7_readPiece 73 = .ok (.aload_n 0, 1) := by decide +kernel
theorem dX7_readPiece_74 : decode cX7_readPiece 74 = .ok (.getfield 21, 3) := by decide +kernel
theorem dX7_readPiece_77 : decode cX7_readPiece 77 = .ok (.dup, 1) := by decide +kernel
theorem dX7_readPiece_78 : decode cX7_readPiece 78 = .ok (.getfield 107, 3) := by decide +kernel
theorem dX7_readPiece_81 : decode cX7_readPiece 81 = .ok (.iconst 1, 1) := by decide +kernel
theorem dX7_readPiece_82 : decode cX7_readPiece 82 = .ok (.iadd, 1) := by decide +kernel
theorem dX7_readPiece_83 : decode cX7_readPiece 83 = .ok (.putfield 107, 3) := by decide +kernel
theorem dX7_readPiece_86 : decode cX7_readPiece 86 = .ok (.iconst 1, 1) := by decide +kernel
theorem dX7_readPiece_87 : decode cX7_readPiece 87 = .ok (.ireturn, 1) := by decide +kernel
theorem dX7_readCheats_0 : decode cX7_readCheats 0 = .ok (.aload_n 0, 1) := by decide +kernel
theorem dX7_readCheats_1 : decode cX7_readCheats 1 = .ok (.iconst (-1), 1) := by decide +kernel
theorem dX7_readCheats_2 : decode cX7_readCheats 2 = .ok (.invokevirtual 235, 3) := by decide +kernel
theorem dX7_readCheats_5 : decode cX7_readCheats 5 = .ok (.ifCond .ne 5, 3) := by decide +kernel
theorem dX7_readCheats_8 : decode cX7_readCheats 8 = .ok (.iconst 0, 1) := by decide +kernel
theorem dX7_readCheats_9 : decode cX7_readCheats 9 = .ok (.ireturn, 1) := by decide +kernel
theorem dX7_readCheats_10 : decode cX7_readCheats 10 = .ok (.aload_n 0, 1) := by decide +kernel
theorem dX7_readCheats_11 : decode cX7_readCheats 11 = .ok (.getfield 21, 3) := by decide +kernel
theorem dX7_readCheats_14 : decode cX7_readCheats 14 = .ok (.getfield 201, 3) := by decide +kernel
theorem dX7_readCheats_17 : decode cX7_readCheats 17 = .ok (.aload_n 0, 1) := by decide +kernel
theorem dX7_readCheats_18 : decode cX7_readCheats 18 = .ok (.getfield 124, 3) := by decide +kernel
theorem dX7_readCheats_21 : decode cX7_readCheats 21 = .ok (.aaload, 1) := by decide +kernel
theorem dX7_readCheats_22 : decode cX7_readCheats 22 = .ok (.astore_n 1, 1) := by decide +kernel
theorem dX7_readCheats_23 : decode cX7_readCheats 23 = .ok (.aload_n 1, 1) := by decide +kernel
theorem dX7_readCheats_24 : decode cX7_readCheats 24 = .ok (.getfield 255, 3) := by decide +kernel
theorem dX7_readCheats_27 : decode cX7_readCheats 27 = .ok (.iconst (-1), 1) := by decide +kernel
theorem dX7_readCheats_28 : decode cX7_readCheats 28 = .ok (.if_icmp .eq 9, 3) := by decide +kernel
theorem dX7_readCheats_31 : decode cX7_readCheats 31 = .ok (.aload_n 0, 1) := by decide +kernel
theorem dX7_readCheats_32 : decode cX7_readCheats 32 = .ok (.iconst 3, 1) := by decide +kernel
theorem dX7_readCheats_33 : decode cX7_readCheats 33 = .ok (.invokevirtual 56, 3) := by decide +kernel
theorem dX7_readCheats_36 : decode cX7_readCheats 36 = .ok (.ireturn, 1) := by decide +kernel
theorem dX7_readCheats_37 : decode cX7_readCheats 37 = .ok (.aload_n 0, 1) := by decide +kernel
theorem dX7_readCheats_38 : decode cX7_readCheats 38 = .ok (.getfield 12, 3) := by decide +kernel
theorem dX7_readCheats_41 : decode cX7_readCheats 41 = .ok (.invokevirtual 60, 3) := by decide +kernel
theorem dX7_readCheats_44 : decode cX7_readCheats 44 = .ok (.aload_n 0, 1) := by decide +kernel
theorem dX7_readCheats_45 : decode cX7_readCheats 45 = .ok (.iconst 0, 1) := by decide +kernel
theorem dX7_readCheats_46 : decode cX7_readCheats 46 = .ok (.bipush 99, 2) := by decide +kernel
theorem dX7_readCheats_48 : decode cX7_readCheats 48 = .ok (.invokevirtual 194, 3) := by decide +kernel
theorem dX7_readCheats_51 : decode cX7_readCheats 51 = .ok (.ifCond .ne 5, 3) := by decide +kernel
theorem dX7_readCheats_54 : decode cX7_readCheats 54 = .ok (.iconst 0, 1) := by decide +kernel
theorem dX7_readCheats_55 : decode cX7_readCheats 55 = .ok (.ireturn, 1) := by decide +kernel
theorem dX7_readCheats_56 : decode cX7_readCheats 56 = .ok (.aload_n 1, 1) := by decide +kernel
theorem dX7_readCheats_57 : decode cX7_readCheats 57 = .ok (.aload_n 0, 1) := by decide +kernel
theorem dX7_readCheats_58 : decode cX7_readCheats 58 = .ok (.getfield 124, 3) := by decide +kernel
theorem dX7_readCheats_61 : decode cX7_readCheats 61 = .ok (.putfield 255, 3) := by decide +kernel
theorem dX7_readCheats_64 : decode cX7_readCheats 64 = .ok (.aload_n 0, 1) := by decide +kernel
theorem dX7_readCheats_65 : decode cX7_readCheats 65 = .ok (.getfield 12, 3) := by decide +kernel
theorem dX7_readCheats_68 : decode cX7_readCheats 68 = .ok (.invokevirtual 60, 3) := by decide +kernel
theorem dX7_readCheats_71 : decode cX7_readCheats 71 = .ok (.aload_n 0, 1) := by decide +kernel
theorem dX7_readCheats_72 : decode cX7_readCheats 72 = .ok (.ldc 137, 2) := by decide +kernel
theorem dX7_readCheats_74 : decode cX7_readCheats 74 = .ok (.iconst 1, 1) := by decide +kernel
theorem dX7_readCheats_75 : decode cX7_readCheats 75 = .ok (.bipush 9, 2) := by decide +kernel
theorem dX7_readCheats_77 : decode cX7_readCheats 77 = .ok (.invokevirtual 120, 3) := by decide +kernel
theorem dX7_readCheats_80 : decode cX7_readCheats 80 = .ok (.ifCond .ne 5, 3) := by decide +kernel
theorem dX7_readCheats_83 : decode cX7_readCheats 83 = .ok (.iconst 0, 1) := by decide +kernel
theorem dX7_readCheats_84 : decode cX7_readCheats 84 = .ok (.ireturn, 1) := by decide +kernel
theorem dX7_readCheats_85 : decode cX7_readCheats 85 = .ok (.aload_n 1, 1) := by decide +kernel
theorem dX7_readCheats_86 : decode cX7_readCheats 86 = .ok (.aload_n 0, 1) := by decide +kernel
theorem dX7_readCheats_87 : decode cX7_readCheats 87 = .ok (.getfield 124, 3) := by decide +kernel
theorem dX7_readCheats_90 : decode cX7_readCheats 90 = .ok (.putfield 258, 3) := by decide +kernel
theorem dX7_readCheats_93 : decode cX7_readCheats 93 = .ok (.aload_n 0, 1) := by decide +kernel
theorem dX7_readCheats_94 : decode cX7_readCheats 94 = .ok (.ldc_w 261, 3) := by decide +kernel
theorem dX7_readCheats_97 : decode cX7_readCheats 97 = .ok (.iconst 1, 1) := by decide +kernel
theorem dX7_readCheats_98 : decode cX7_readCheats 98 = .ok (.bipush 9, 2) := by decide +kernel
theorem dX7_readCheats_100 : decode cX7_readCheats 100 = .ok (.invokevirtual 120, 3) := by decide +kernel
theorem dX7_readCheats_103 : decode cX7_readCheats 103 = .ok (.ifCond .ne 5, 3) := by decide +kernel
theorem dX7_readCheats_106 : decode cX7_readCheats 106 = .ok (.iconst 0, 1) := by decide +kernel
theorem dX7_readCheats_107 : decode cX7_readCheats 107 = .ok (.ireturn, 1) := by decide +kernel
theorem dX7_readCheats_108 : decode cX7_readCheats 108 = .ok (.aload_n 1, 1) := by decide +kernel
theorem dX7_readCheats_109 : decode cX7_readCheats 109 = .ok (.aload_n 0, 1) := by decide +kernel
theorem dX7_readCheats_110 : decode cX7_readCheats 110 = .ok (.getfield 124, 3) := by decide +kernel
theorem dX7_readCheats_113 : decode cX7_readCheats 113 = .ok (.putfield 263, 3) := by decide +kernel
theorem dX7_readCheats_116 : decode cX7_readCheats 116 = .ok (.iconst 1, 1) := by decide +kernel
theorem dX7_readCheats_117 : decode cX7_readCheats 117 = .ok (.ireturn, 1) := by decide +kernel
theorem dX7_readWord_0 : decode cX7_readWord 0 = .ok (.aload_n 0, 1) := by decide +kernel
theorem dX7_readWord_1 : decode cX7_readWord 1 = .ok (.getfield 12, 3) := by decide +kernel
theorem dX7_readWord_4 : decode cX7_readWord 4 = .ok (.aload_n 1, 1) := by decide +kernel
theorem dX7_readWord_5 : decode cX7_readWord 5 = .ok (.invokevirtual 68, 3) := by decide +kernel
theorem dX7_readWord_8 : decode cX7_readWord 8 = .ok (.ifCond .ne 9, 3) := by decide +kernel
theorem dX7_readWord_11 : decode cX7_readWord 11 = .ok (.aload_n 0, 1) := by decide +kernel
theorem dX7_readWord_12 : decode cX7_readWord 12 = .ok (.iconst 1, 1) := by decide +kernel
theorem dX7_readWord_13 : decode cX7_readWord 13 = .ok (.invokevirtual 56, 3) := by decide +kernel
theorem dX7_readWord_16 : decode cX7_readWord 16 = .ok (.ireturn, 1) := by decide +kernel
theorem dX7_readWord_17 : decode cX7_readWord 17 = .ok (.aload_n 0, 1) := by decide +kernel
theorem dX7_readWord_18 : decode cX7_readWord 18 = .ok (.getfield 12, 3) := by decide +kernel
theorem dX7_readWord_21 : decode cX7_readWord 21 = .ok (.invokevirtual 60, 3) := by decide +kernel
theorem dX7_readWord_24 : decode cX7_readWord 24 = .ok (.iconst 1, 1) := by decide +kernel
theorem dX7_readWord_25 : decode cX7_readWord 25 = .ok (.ireturn, 1) := by decide +kernel
theorem dX7_readWhole_0 : decode cX7_readWhole 0 = .ok (.aload_n 0, 1) := by decide +kernel
theorem dX7_readWhole_1 : decode cX7_readWhole 1 = .ok (.aload_n 1, 1) := by decide +kernel
theorem dX7_readWhole_2 : decode cX7_readWhole 2 = .ok (.invokevirtual 181, 3) := by decide +kernel
theorem dX7_readWhole_5 : decode cX7_readWhole 5 = .ok (.ifCond .eq 12, 3) := by decide +kernel
theorem dX7_readWhole_8 : decode cX7_readWhole 8 = .ok (.aload_n 0, 1) := by decide +kernel
theorem dX7_readWhole_9 : decode cX7_readWhole 9 = .ok (.iload_n 2, 1) := by decide +kernel
theorem dX7_readWhole_10 : decode cX7_readWhole 10 = .ok (.iload_n 3, 1) := by decide +kernel
theorem dX7_readWhole_11 : decode cX7_readWhole 11 = .ok (.invokevirtual 194, 3) := by decide +kernel
theorem dX7_readWhole_14 : decode cX7_readWhole 14 = .ok (.ifCond .ne 5, 3) := by decide +kernel
theorem dX7_readWhole_17 : decode cX7_readWhole 17 = .ok (.iconst 0, 1) := by decide +kernel
theorem dX7_readWhole_18 : decode cX7_readWhole 18 = .ok (.ireturn, 1) := by decide +kernel
theorem dX7_readWhole_19 : decode cX7_readWhole 19 = .ok (.aload_n 0, 1) := by decide +kernel
theorem dX7_readWhole_20 : decode cX7_readWhole 20 = .ok (.getfield 12, 3) := by decide +kernel
theorem dX7_readWhole_23 : decode cX7_readWhole 23 = .ok (.invokevirtual 60, 3) := by decide +kernel
theorem dX7_readWhole_26 : decode cX7_readWhole 26 = .ok (.iconst 1, 1) := by decide +kernel
theorem dX7_readWhole_27 : decode cX7_readWhole 27 = .ok (.ireturn, 1) := by decide +kernel
theorem dX7_readKind_0 : decode cX7_readKind 0 = .ok (.aload_n 0, 1) := by decide +kernel
theorem dX7_readKind_1 : decode cX7_readKind 1 = .ok (.getfield 12, 3) := by decide +kernel
theorem dX7_readKind_4 : decode cX7_readKind 4 = .ok (.aload_n 1, 1) := by decide +kernel
theorem dX7_readKind_5 : decode cX7_readKind 5 = .ok (.invokevirtual 68, 3) := by decide +kernel
theorem dX7_readKind_8 : decode cX7_readKind 8 = .ok (.ifCond .eq 11, 3) := by decide +kernel
theorem dX7_readKind_11 : decode cX7_readKind 11 = .ok (.aload_n 0, 1) := by decide +kernel
theorem dX7_readKind_12 : decode cX7_readKind 12 = .ok (.iconst 0, 1) := by decide +kernel
theorem dX7_readKind_13 : decode cX7_readKind 13 = .ok (.putfield 124, 3) := by decide +kernel
theorem dX7_readKind_16 : decode cX7_readKind 16 = .ok (.goto 67, 3) := by decide +kernel
theorem dX7_readKind_19 : decode cX7_readKind 19 = .ok (.aload_n 0, 1) := by decide +kernel
theorem dX7_readKind_20 : decode cX7_readKind 20 = .ok (.getfield 12, 3) := by decide +kernel
theorem dX7_readKind_23 : decode cX7_readKind 23 = .ok (.aload_n 2, 1) := by decide +kernel
theorem dX7_readKind_24 : decode cX7_readKind 24 = .ok (.invokevirtual 68, 3) := by decide +kernel
theorem dX7_readKind_27 : decode cX7_readKind 27 = .ok (.ifCond .eq 11, 3) := by decide +kernel
theorem dX7_readKind_30 : decode cX7_readKind 30 = .ok (.aload_n 0, 1) := by decide +kernel
theorem dX7_readKind_31 : decode cX7_readKind 31 = .ok (.iconst 1, 1) := by decide +kernel
theorem dX7_readKind_32 : decode cX7_readKind 32 = .ok (.putfield 124, 3) := by decide +kernel
theorem dX7_readKind_35 : decode cX7_readKind 35 = .ok (.goto 48, 3) := by decide +kernel
theorem dX7_readKind_38 : decode cX7_readKind 38 = .ok (.aload_n 0, 1) := by decide +kernel
theorem dX7_readKind_39 : decode cX7_readKind 39 = .ok (.getfield 12, 3) := by decide +kernel
theorem dX7_readKind_42 : decode cX7_readKind 42 = .ok (.aload_n 3, 1) := by decide +kernel
theorem dX7_readKind_43 : decode cX7_readKind 43 = .ok (.invokevirtual 68, 3) := by decide +kernel
theorem dX7_readKind_46 : decode cX7_readKind 46 = .ok (.ifCond .eq 11, 3) := by decide +kernel
theorem dX7_readKind_49 : decode cX7_readKind 49 = .ok (.aload_n 0, 1) := by decide +kernel
theorem dX7_readKind_50 : decode cX7_readKind 50 = .ok (.iconst 2, 1) := by decide +kernel
theorem dX7_readKind_51 : decode cX7_readKind 51 = .ok (.putfield 124, 3) := by decide +kernel
theorem dX7_readKind_54 : decode cX7_readKind 54 = .ok (.goto 29, 3) := by decide +kernel
theorem dX7_readKind_57 : decode cX7_readKind 57 = .ok (.aload_n 0, 1) := by decide +kernel
theorem dX7_readKind_58 : decode cX7_readKind 58 = .ok (.getfield 12, 3) := by decide +kernel
theorem dX7_readKind_61 : decode cX7_readKind 61 = .ok (.aload 4, 2) := by decide +kernel
theorem dX7_readKind_63 : decode cX7_readKind 63 = .ok (.invokevirtual 68, 3) := by decide +kernel
theorem dX7_readKind_66 : decode cX7_readKind 66 = .ok (.ifCond .eq 11, 3) := by decide +kernel
theorem dX7_readKind_69 : decode cX7_readKind 69 = .ok (.aload_n 0, 1) := by decide +kernel
theorem dX7_readKind_70 : decode cX7_readKind 70 = .ok (.iconst 3, 1) := by decide +kernel
theorem dX7_readKind_71 : decode cX7_readKind 71 = .ok (.putfield 124, 3) := by decide +kernel
theorem dX7_readKind_74 : decode cX7_readKind 74 = .ok (.goto 9, 3) := by decide +kernel
theorem dX7_readKind_77 : decode cX7_readKind 77 = .ok (.aload_n 0, 1) := by decide +kernel
theorem dX7_readKind_78 : decode cX7_readKind 78 = .ok (.iconst 1, 1) := by decide +kernel
theorem dX7_readKind_79 : decode cX7_readKind 79 = .ok (.invokevirtual 56, 3) := by decide +kernel
theorem dX7_readKind_82 : decode cX7_readKind 82 = .ok (.ireturn, 1) := by decide +kernel
theorem dX7_readKind_83 : decode cX7_readKind 83 = .ok (.aload_n 0, 1) := by decide +kernel
theorem dX7_readKind_84 : decode cX7_readKind 84 = .ok (.getfield 12, 3) := by decide +kernel
theorem dX7_readKind_87 : decode cX7_readKind 87 = .ok (.invokevirtual 60, 3) := by decide +kernel
theorem dX7_readKind_90 : decode cX7_readKind 90 = .ok (.iconst 1, 1) := by decide +kernel
theorem dX7_readKind_91 : decode cX7_readKind 91 = .ok (.ireturn, 1) := by decide +kernel
theorem dX7_isWhole_0 : decode cX7_isWhole 0 = .ok (.aload_n 0, 1) := by decide +kernel
theorem dX7_isWhole_1 : decode cX7_isWhole 1 = .ok (.getfield 12, 3) := by decide +kernel
theorem dX7_isWhole_4 : decode cX7_isWhole 4 = .ok (.getfield 47, 3) := by decide +kernel
theorem dX7_isWhole_7 : decode cX7_isWhole 7 = .ok (.iconst 3, 1) := by decide +kernel
theorem dX7_isWhole_8 : decode cX7_isWhole 8 = .ok (.if_icmp .eq 9, 3) := by decide +kernel
theorem dX7_isWhole_11 : decode cX7_isWhole 11 = .ok (.aload_n 0, 1) := by decide +kernel
theorem dX7_isWhole_12 : decode cX7_isWhole 12 = .ok (.iconst 1, 1) := by decide +kernel
theorem dX7_isWhole_13 : decode cX7_isWhole 13 = .ok (.invokevirtual 56, 3) := by decide +kernel
theorem dX7_isWhole_16 : decode cX7_isWhole 16 = .ok (.ireturn, 1) := by decide +kernel
theorem dX7_isWhole_17 : decode cX7_isWhole 17 = .ok (.aload_n 0, 1) := by decide +kernel
theorem dX7_isWhole_18 : decode cX7_isWhole 18 = .ok (.aload_n 0, 1) := by decide +kernel
theorem dX7_isWhole_19 : decode cX7_isWhole 19 = .ok (.getfield 12, 3) := by decide +kernel
theorem dX7_isWhole_22 : decode cX7_isWhole 22 = .ok (.getfield 265, 3) := by decide +kernel
theorem dX7_isWhole_25 : decode cX7_isWhole 25 = .ok (.putfield 124, 3) := by decide +kernel
theorem dX7_isWhole_28 : decode cX7_isWhole 28 = .ok (.aload_n 0, 1) := by decide +kernel
theorem dX7_isWhole_29 : decode cX7_isWhole 29 = .ok (.getfield 124, 3) := by decide +kernel
theorem dX7_isWhole_32 : decode cX7_isWhole 32 = .ok (.iload_n 1, 1) := by decide +kernel
theorem dX7_isWhole_33 : decode cX7_isWhole 33 = .ok (.if_icmp .lt 11, 3) := by decide +kernel
theorem dX7_isWhole_36 : decode cX7_isWhole 36 = .ok (.aload_n 0, 1) := by decide +kernel
theorem dX7_isWhole_37 : decode cX7_isWhole 37 = .ok (.getfield 124, 3) := by decide +kernel
theorem dX7_isWhole_40 : decode cX7_isWhole 40 = .ok (.iload_n 2, 1) := by decide +kernel
theorem dX7_isWhole_41 : decode cX7_isWhole 41 = .ok (.if_icmp .le 11, 3) := by decide +kernel
theorem dX7_isWhole_44 : decode cX7_isWhole 44 = .ok (.aload_n 0, 1) := by decide +kernel
theorem dX7_isWhole_45 : decode cX7_isWhole 45 = .ok (.iconst 4, 1) := by decide +kernel
theorem dX7_isWhole_46 : decode cX7_isWhole 46 = .ok (.invokevirtual 56, 3) := by decide +kernel
theorem dX7_isWhole_49 : decode cX7_isWhole 49 = .ok (.ifCond .eq 7, 3) := by decide +kernel
theorem dX7_isWhole_52 : decode cX7_isWhole 52 = .ok (.iconst 1, 1) := by decide +kernel
theorem dX7_isWhole_53 : decode cX7_isWhole 53 = .ok (.goto 4, 3) := by decide +kernel
theorem dX7_isWhole_56 : decode cX7_isWhole 56 = .ok (.iconst 0, 1) := by decide +kernel
theorem dX7_isWhole_57 : decode cX7_isWhole 57 = .ok (.ireturn, 1) := by decide +kernel
theorem dX7_isName_0 : decode cX7_isName 0 = .ok (.aload_n 0, 1) := by decide +kernel
theorem dX7_isName_1 : decode cX7_isName 1 = .ok (.getfield 12, 3) := by decide +kernel
theorem dX7_isName_4 : decode cX7_isName 4 = .ok (.getfield 47, 3) := by decide +kernel
theorem dX7_isName_7 : decode cX7_isName 7 = .ok (.iconst 2, 1) := by decide +kernel
theorem dX7_isName_8 : decode cX7_isName 8 = .ok (.if_icmp .eq 5, 3) := by decide +kernel
theorem dX7_isName_11 : decode cX7_isName 11 = .ok (.iconst 0, 1) := by decide +kernel
theorem dX7_isName_12 : decode cX7_isName 12 = .ok (.ireturn, 1) := by decide +kernel
theorem dX7_isName_13 : decode cX7_isName 13 = .ok (.aload_n 0, 1) := by decide +kernel
theorem dX7_isName_14 : decode cX7_isName 14 = .ok (.getfield 12, 3) := by decide +kernel
theorem dX7_isName_17 : decode cX7_isName 17 = .ok (.ldc 66, 2) := by decide +kernel
theorem dX7_isName_19 : decode cX7_isName 19 = .ok (.invokevirtual 68, 3) := by decide +kernel
theorem dX7_isName_22 : decode cX7_isName 22 = .ok (.ifCond .ne 99, 3) := by decide +kernel
theorem dX7_isName_25 : decode cX7_isName 25 = .ok (.aload_n 0, 1) := by decide +kernel
theorem dX7_isName_26 : decode cX7_isName 26 = .ok (.getfield 12, 3) := by decide +kernel
theorem dX7_isName_29 : decode cX7_isName 29 = .ok (.ldc 75, 2) := by decide +kernel
theorem dX7_isName_31 : decode cX7_isName 31 = .ok (.invokevirtual 68, 3) := by decide +kernel
theorem dX7_isName_34 : decode cX7_isName 34 = .ok (.ifCond .ne 87, 3) := by decide +kernel
theorem dX7_isName_37 : decode cX7_isName 37 = .ok (.aload_n 0, 1) := by decide +kernel
theorem dX7_isName_38 : decode cX7_isName 38 = .ok (.getfield 12, 3) := by decide +kernel
theorem dX7_isName_41 : decode cX7_isName 41 = .ok (.ldc 84, 2) := by decide +kernel
theorem dX7_isName_43 : decode cX7_isName 43 = .ok (.invokevirtual 68, 3) := by decide +kernel
theorem dX7_isName_46 : decode cX7_isName 46 = .ok (.ifCond .ne 75, 3) := by decide +kernel
theorem dX7_isName_49 : decode cX7_isName 49 = .ok (.aload_n 0, 1) := by decide +kernel
theorem dX7_isName_50 : decode cX7_isName 50 = .ok (.getfield 12, 3) := by decide +kernel
theorem dX7_isName_53 : decode cX7_isName 53 = .ok (.ldc 89, 2) := by decide +kernel
theorem dX7_isName_55 : decode cX7_isName 55 = .ok (.invokevirtual 68, 3) := by decide +kernel
theorem dX7_isName_58 : decode cX7_isName 58 = .ok (.ifCond .ne 63, 3) := by decide +kernel
theorem dX7_isName_61 : decode cX7_isName 61 = .ok (.aload_n 0, 1) := by decide +kernel
theorem dX7_isName_62 : decode cX7_isName 62 = .ok (.getfield 12, 3) := by decide +kernel
theorem dX7_isName_65 : decode cX7_isName 65 = .ok (.ldc 97, 2) := by decide +kernel
theorem dX7_isName_67 : decode cX7_isName 67 = .ok (.invokevirtual 68, 3) := by decide +kernel
theorem dX7_isName_70 : decode cX7_isName 70 = .ok (.ifCond .ne 51, 3) := by decide +kernel
theorem dX7_isName_73 : decode cX7_isName 73 = .ok (.aload_n 0, 1) := by decide +kernel
theorem dX7_isName_74 : decode cX7_isName 74 = .ok (.getfield 12, 3) := by decide +kernel
theorem dX7_isName_77 : decode cX7_isName 77 = .ok (.ldc 105, 2) := by decide +kernel
theorem dX7_isName_79 : decode cX7_isName 79 = .ok (.invokevirtual 68, 3) := by decide +kernel
theorem dX7_isName_82 : decode cX7_isName 82 = .ok (.ifCond .ne 39, 3) := by decide +kernel
theorem dX7_isName_85 : decode cX7_isName 85 = .ok (.aload_n 0, 1) := by decide +kernel
theorem dX7_isName_86 : decode cX7_isName 86 = .ok (.getfield 12, 3) := by decide +kernel
theorem dX7_isName_89 : decode cX7_isName 89 = .ok (.ldc 113, 2) := by decide +kernel
theorem dX7_isName_91 : decode cX7_isName 91 = .ok (.invokevirtual 68, 3) := by decide +kernel
theorem dX7_isName_94 : decode cX7_isName 94 = .ok (.ifCond .ne 27, 3) := by decide +kernel
theorem dX7_isName_97 : decode cX7_isName 97 = .ok (.aload_n 0, 1) := by decide +kernel
theorem dX7_isName_98 : decode cX7_isName 98 = .ok (.getfield 12, 3) := by decide +kernel
theorem dX7_isName_101 : decode cX7_isName 101 = .ok (.ldc 179, 2) := by decide +kernel
theorem dX7_isName_103 : decode cX7_isName 103 = .ok (.invokevirtual 68, 3) := by decide +kernel
theorem dX7_isName_106 : decode cX7_isName 106 = .ok (.ifCond .ne 15, 3) := by decide +kernel
theorem dX7_isName_109 : decode cX7_isName 109 = .ok (.aload_n 0, 1) := by decide +kernel
theorem dX7_isName_110 : decode cX7_isName 110 = .ok (.getfield 12, 3) := by decide +kernel
theorem dX7_isName_113 : decode cX7_isName 113 = .ok (.ldc 192, 2) := by decide +kernel
theorem dX7_isName_115 : decode cX7_isName 115 = .ok (.invokevirtual 68, 3) := by decide +kernel
theorem dX7_isName_118 : decode cX7_isName 118 = .ok (.ifCond .eq 7, 3) := by decide +kernel
theorem dX7_isName_121 : decode cX7_isName 121 = .ok (.iconst 1, 1) := by decide +kernel
theorem dX7_isName_122 : decode cX7_isName 122 = .ok (.goto 4, 3) := by decide +kernel
theorem dX7_isName_125 : decode cX7_isName 125 = .ok (.iconst 0, 1) := by decide +kernel
theorem dX7_isName_126 : decode cX7_isName 126 = .ok (.istore_n 1, 1) := by decide +kernel
theorem dX7_isName_127 : decode cX7_isName 127 = .ok (.iload_n 1, 1) := by decide +kernel
theorem dX7_isName_128 : decode cX7_isName 128 = .ok (.ifCond .ne 7, 3) := by decide +kernel
theorem dX7_isName_131 : decode cX7_isName 131 = .ok (.iconst 1, 1) := by decide +kernel
theorem dX7_isName_132 : decode cX7_isName 132 = .ok (.goto 4, 3) := by decide +kernel
theorem dX7_isName_135 : decode cX7_isName 135 = .ok (.iconst 0, 1) := by decide +kernel
theorem dX7_isName_136 : decode cX7_isName 136 = .ok (.ireturn, 1) := by decide +kernel
theorem dX7_isNewName_0 : decode cX7_isNewName 0 = .ok (.aload_n 0, 1) := by decide +kernel
theorem dX7_isNewName_1 : decode cX7_isNewName 1 = .ok (.invokevirtual 268, 3) := by decide +kernel
theorem dX7_isNewName_4 : decode cX7_isNewName 4 = .ok (.ifCond .ne 9, 3) := by decide +kernel
theorem dX7_isNewName_7 : decode cX7_isNewName 7 = .ok (.aload_n 0, 1) := by decide +kernel
theorem dX7_isNewName_8 : decode cX7_isNewName 8 = .ok (.iconst 1, 1) := by decide +kernel
theorem dX7_isNewName_9 : decode cX7_isNewName 9 = .ok (.invokevirtual 56, 3) := by decide +kernel
theorem dX7_isNewName_12 : decode cX7_isNewName 12 = .ok (.ireturn, 1) := by decide +kernel
theorem dX7_isNewName_13 : decode cX7_isNewName 13 = .ok (.aload_n 0, 1) := by decide +kernel
theorem dX7_isNewName_14 : decode cX7_isNewName 14 = .ok (.getfield 21, 3) := by decide +kernel
theorem dX7_isNewName_17 : decode cX7_isNewName 17 = .ok (.aload_n 0, 1) := by decide +kernel
theorem dX7_isNewName_18 : decode cX7_isNewName 18 = .ok (.getfield 12, 3) := by decide +kernel
theorem dX7_isNewName_21 : decode cX7_isNewName 21 = .ok (.getfield 152, 3) := by decide +kernel
theorem dX7_isNewName_24 : decode cX7_isNewName 24 = .ok (.invokevirtual 271, 3) := by decide +kernel
theorem dX7_isNewName_27 : decode cX7_isNewName 27 = .ok (.iconst (-1), 1) := by decide +kernel
theorem dX7_isNewName_28 : decode cX7_isNewName 28 = .ok (.if_icmp .ne 21, 3) := by decide +kernel
theorem dX7_isNewName_31 : decode cX7_isNewName 31 = .ok (.aload_n 0, 1) := by decide +kernel
theorem dX7_isNewName_32 : decode cX7_isNewName 32 = .ok (.getfield 21, 3) := by decide +kernel
theorem dX7_isNewName_35 : decode cX7_isNewName 35 = .ok (.aload_n 0, 1) := by decide +kernel
theorem dX7_isNewName_36 : decode cX7_isNewName 36 = .ok (.getfield 12, 3) := by decide +kernel
theorem dX7_isNewName_39 : decode cX7_isNewName 39 = .ok (.getfield 152, 3) := by decide +kernel
theorem dX7_isNewName_42 : decode cX7_isNewName 42 = .ok (.invokevirtual 275, 3) := by decide +kernel
theorem dX7_isNewName_45 : decode cX7_isNewName 45 = .ok (.iconst (-1), 1) := by decide +kernel
theorem dX7_isNewName_46 : decode cX7_isNewName 46 = .ok (.if_icmp .eq 7, 3) := by decide +kernel
theorem dX7_isNewName_49 : decode cX7_isNewName 49 = .ok (.iconst 1, 1) := by decide +kernel
theorem dX7_isNewName_50 : decode cX7_isNewName 50 = .ok (.goto 4, 3) := by decide +kernel
theorem dX7_isNewName_53 : decode cX7_isNewName 53 = .ok (.iconst 0, 1) := by decide +kernel
theorem dX7_isNewName_54 : decode cX7_isNewName 54 = .ok (.istore_n 1, 1) := by decide +kernel
theorem dX7_isNewName_55 : decode cX7_isNewName 55 = .ok (.iload_n 1, 1) := by decide +kernel
theorem dX7_isNewName_56 : decode cX7_isNewName 56 = .ok (.ifCond .eq 11, 3) := by decide +kernel
theorem dX7_isNewName_59 : decode cX7_isNewName 59 = .ok (.aload_n 0, 1) := by decide +kernel
theorem dX7_isNewName_60 : decode cX7_isNewName 60 = .ok (.iconst 3, 1) := by decide +kernel
theorem dX7_isNewName_61 : decode cX7_isNewName 61 = .ok (.invokevirtual 56, 3) := by decide +kernel
theorem dX7_isNewName_64 : decode cX7_isNewName 64 = .ok (.ifCond .eq 7, 3) := by decide +kernel
theorem dX7_isNewName_67 : decode cX7_isNewName 67 = .ok (.iconst 1, 1) := by decide +kernel
theorem dX7_isNewName_68 : decode cX7_isNewName 68 = .ok (.goto 4, 3) := by decide +kernel
theorem dX7_isNewName_71 : decode cX7_isNewName 71 = .ok (.iconst 0, 1) := by decide +kernel
theorem dX7_isNewName_72 : decode cX7_isNewName 72 = .ok (.ireturn, 1) := by decide +kernel
theorem dX7_isPersonTold_0 : decode cX7_isPersonTold 0 = .ok (.aload_n 0, 1) := by decide +kernel
theorem dX7_isPersonTold_1 : decode cX7_isPersonTold 1 = .ok (.invokevirtual 268, 3) := by decide +kernel
theorem dX7_isPersonTold_4 : decode cX7_isPersonTold 4 = .ok (.ifCond .ne 9, 3) := by decide +kernel
theorem dX7_isPersonTold_7 : decode cX7_isPersonTold 7 = .ok (.aload_n 0, 1) := by decide +kernel
theorem dX7_isPersonTold_8 : decode cX7_isPersonTold 8 = .ok (.iconst 1, 1) := by decide +kernel
theorem dX7_isPersonTold_9 : decode cX7_isPersonTold 9 = .ok (.invokevirtual 56, 3) := by decide +kernel
theorem dX7_isPersonTold_12 : decode cX7_isPersonTold 12 = .ok (.ireturn, 1) := by decide +kernel
theorem dX7_isPersonTold_13 : decode cX7_isPersonTold 13 = .ok (.aload_n 0, 1) := by decide +kernel
theorem dX7_isPersonTold_14 : decode cX7_isPersonTold 14 = .ok (.aload_n 0, 1) := by decide +kernel
theorem dX7_isPersonTold_15 : decode cX7_isPersonTold 15 = .ok (.getfield 21, 3) := by decide +kernel
theorem dX7_isPersonTold_18 : decode cX7_isPersonTold 18 = .ok (.aload_n 0, 1) := by decide +kernel
theorem dX7_isPersonTold_19 : decode cX7_isPersonTold 19 = .ok (.getfield 12, 3) := by decide +kernel
theorem dX7_isPersonTold_22 : decode cX7_isPersonTold 22 = .ok (.getfield 152, 3) := by decide +kernel
theorem dX7_isPersonTold_25 : decode cX7_isPersonTold 25 = .ok (.invokevirtual 275, 3) := by decide +kernel
theorem dX7_isPersonTold_28 : decode cX7_isPersonTold 28 = .ok (.putfield 124, 3) := by decide +kernel
theorem dX7_isPersonTold_31 : decode cX7_isPersonTold 31 = .ok (.aload_n 0, 1) := by decide +kernel
theorem dX7_isPersonTold_32 : decode cX7_isPersonTold 32 = .ok (.getfield 124, 3) := by decide +kernel
theorem dX7_isPersonTold_35 : decode cX7_isPersonTold 35 = .ok (.iconst (-1), 1) := by decide +kernel
theorem dX7_isPersonTold_36 : decode cX7_isPersonTold 36 = .ok (.if_icmp .ne 9, 3) := by decide +kernel
theorem dX7_isPersonTold_39 : decode cX7_isPersonTold 39 = .ok (.aload_n 0, 1) := by decide +kernel
theorem dX7_isPersonTold_40 : decode cX7_isPersonTold 40 = .ok (.iconst 2, 1) := by decide +kernel
theorem dX7_isPersonTold_41 : decode cX7_isPersonTold 41 = .ok (.invokevirtual 56, 3) := by decide +kernel
theorem dX7_isPersonTold_44 : decode cX7_isPersonTold 44 = .ok (.ireturn, 1) := by decide +kernel
theorem dX7_isPersonTold_45 : decode cX7_isPersonTold 45 = .ok (.aload_n 0, 1) := by decide +kernel
theorem dX7_isPersonTold_46 : decode cX7_isPersonTold 46 = .ok (.getfield 124, 3) := by decide +kernel
theorem dX7_isPersonTold_49 : decode cX7_isPersonTold 49 = .ok (.iload_n 1, 1) := by decide +kernel
theorem dX7_isPersonTold_50 : decode cX7_isPersonTold 50 = .ok (.if_icmp .ne 11, 3) := by decide +kernel
theorem dX7_isPersonTold_53 : decode cX7_isPersonTold 53 = .ok (.aload_n 0, 1) := by decide +kernel
theorem dX7_isPersonTold_54 : decode cX7_isPersonTold 54 = .ok (.iconst 3, 1) := by decide +kernel
theorem dX7_isPersonTold_55 : decode cX7_isPersonTold 55 = .ok (.invokevirtual 56, 3) := by decide +kernel
theorem dX7_isPersonTold_58 : decode cX7_isPersonTold 58 = .ok (.ifCond .eq 7, 3) := by decide +kernel
theorem dX7_isPersonTold_61 : decode cX7_isPersonTold 61 = .ok (.iconst 1, 1) := by decide +kernel
theorem dX7_isPersonTold_62 : decode cX7_isPersonTold 62 = .ok (.goto 4, 3) := by decide +kernel
theorem dX7_isPersonTold_65 : decode cX7_isPersonTold 65 = .ok (.iconst 0, 1) := by decide +kernel
theorem dX7_isPersonTold_66 : decode cX7_isPersonTold 66 = .ok (.ireturn, 1) := by decide +kernel
section
variable {X : ab_X} {d : Nat} {σ : ab_S} {Q : Option ab_V → ab_S → Prop} {L st : List ab_V} {a b z v i j x1 x2 x3 x4 x5 x6 x7 x8 : Int} {l0 l1 l2 l3 l4 l5 l6 l7 l8 l9 l10 l11 l12 l13 l14 l15 l16 l17 l18 l19 l20 : ab_V}
theorem kc_X7_read : ab_code 42 = cX7_read := rfl
theorem ko_X7_read : ab_ow 42 = 7 := rfl
theorem rX7_read_0 : ab_Run X 42 0 (15, 0, 0) [ab_R z, l1, l2] st σ Q ↔ z ≠ 0 ∧ ab_Run X 42 1 (15, 0, 0) [ab_R z, l1, l2] (ab_R z :: st) σ Q := ab_r_aload_n rfl kc_X7_read dX7_read_0
theorem rX7_read_1 : ab_Run X 42 1 (15, 0, 0) L (ab_R a :: st) σ Q ↔ (ab_sh σ a).1 = 8 ∧ ab_Run X 42 4 (15, 0, 0) L (ab_R (ab_rd σ a 1) :: st) σ Q := gF_7_21 ko_X7_read kc_X7_read dX7_read_1
theorem rX7_read_4 : ab_Run X 42 4 (15, 0, 0) L (ab_R a :: st) σ Q ↔ ((ab_sh σ a).1 = 5 ∧ ab_cats st ≤ 8) ∧ ab_Do X 27 [ab_R a] σ (fun r σ' => ab_Run X 42 7 (15, 0, 0) L (ab_psh r st) σ' Q) := ab_r_callV (w := []) (as := []) (b1 := (0, 0, 0)) 0 (Or.inl rfl) (by decide) ko_X7_read qM_7_25 (by decide) rfl rfl rfl rfl rfl (by decide) (Nat.le_of_ble_eq_true rfl) kc_X7_read dX7_read_4
theorem rX7_read_7 : ab_Run X 42 7 (15, 0, 0) [ab_R z, l1, l2] st σ Q ↔ z ≠ 0 ∧ ab_Run X 42 8 (15, 0, 0) [ab_R z, l1, l2] (ab_R z :: st) σ Q := ab_r_aload_n rfl kc_X7_read dX7_read_7
theorem rX7_read_8 : ab_Run X 42 8 (15, 0, 0) L st σ Q ↔ ab_Run X 42 9 (15, 0, 0) L (ab_I 0 :: st) σ Q := ab_r_iconst (by decide) kc_X7_read dX7_read_8
theorem rX7_read_9 : ab_Run X 42 9 (15, 0, 0) L (ab_I z :: ab_R a :: st) σ Q ↔ (ab_sh σ a).1 = 8 ∧ ab_Run X 42 12 (15, 0, 0) L st (ab_wr σ a 2 z) Q := sF_7_28 ko_X7_read kc_X7_read dX7_read_9
theorem rX7_read_12 : ab_Run X 42 12 (15, 0, 0) [ab_R z, l1, l2] st σ Q ↔ z ≠ 0 ∧ ab_Run X 42 13 (15, 0, 0) [ab_R z, l1, l2] (ab_R z :: st) σ Q := ab_r_aload_n rfl kc_X7_read dX7_read_12
theorem rX7_read_13 : ab_Run X 42 13 (15, 0, 0) L st σ Q ↔ ab_Run X 42 14 (15, 0, 0) L (ab_I (-1) :: st) σ Q := ab_r_iconst (by decide) kc_X7_read dX7_read_13
theorem rX7_read_14 : ab_Run X 42 14 (15, 0, 0) L (ab_I z :: ab_R a :: st) σ Q ↔ (ab_sh σ a).1 = 8 ∧ ab_Run X 42 17 (15, 0, 0) L st (ab_wr σ a 3 z) Q := sF_7_32 ko_X7_read kc_X7_read dX7_read_14
theorem rX7_read_17 : ab_Run X 42 17 (15, 0, 0) [ab_R z, l1, l2] st σ Q ↔ z ≠ 0 ∧ ab_Run X 42 18 (15, 0, 0) [ab_R z, l1, l2] (ab_R z :: st) σ Q := ab_r_aload_n rfl kc_X7_read dX7_read_17
theorem rX7_read_18 : ab_Run X 42 18 (15, 0, 0) L st σ Q ↔ ab_Run X 42 19 (15, 0, 0) L (ab_I 0 :: st) σ Q := ab_r_iconst (by decide) kc_X7_read dX7_read_18
theorem rX7_read_19 : ab_Run X 42 19 (15, 0, 0) L (ab_I z :: ab_R a :: st) σ Q ↔ ((ab_sh σ a).1 = 8 ∧ (z = 0 ∨ z = 1)) ∧ ab_Run X 42 22 (15, 0, 0) L st (ab_wr σ a 4 z) Q := sF_7_35 ko_X7_read kc_X7_read dX7_read_19
theorem rX7_read_22 : ab_Run X 42 22 (15, 0, 0) [ab_R z, l1, l2] st σ Q ↔ z ≠ 0 ∧ ab_Run X 42 23 (15, 0, 0) [ab_R z, l1, l2] (ab_R z :: st) σ Q := ab_r_aload_n rfl kc_X7_read dX7_read_22
theorem rX7_read_23 : ab_Run X 42 23 (15, 0, 0) L (ab_R a :: st) σ Q ↔ (ab_sh σ a).1 = 8 ∧ ab_Run X 42 26 (15, 0, 0) L (ab_R (ab_rd σ a 0) :: st) σ Q := gF_7_12 ko_X7_read kc_X7_read dX7_read_23
theorem rX7_read_26 : ab_Run X 42 26 (15, 0, 0) [l0, ab_I z, l2] st σ Q ↔ ab_Run X 42 27 (15, 0, 0) [l0, ab_I z, l2] (ab_I z :: st) σ Q := ab_r_iload_n rfl kc_X7_read dX7_read_26
theorem rX7_read_27 : ab_Run X 42 27 (15, 0, 0) L (ab_I x1 :: ab_R a :: st) σ Q ↔ ((ab_sh σ a).1 = 10 ∧ ab_cats st ≤ 8) ∧ ab_Do X 69 [ab_R a, ab_I x1] σ (fun r σ' => ab_Run X 42 30 (15, 0, 0) L (ab_psh r st) σ' Q) := ab_r_callV (w := [ab_I x1]) (as := [ab_I x1]) (b1 := (2, 0, 0)) 0 (Or.inl rfl) (by decide) ko_X7_read qM_7_39 (by decide) rfl rfl rfl rfl rfl (by decide) (Nat.le_of_ble_eq_true rfl) kc_X7_read dX7_read_27
theorem rX7_read_30 : ab_Run X 42 30 (15, 0, 0) L st σ Q ↔ ab_Run X 42 31 (15, 0, 0) L (ab_I 0 :: st) σ Q := ab_r_iconst (by decide) kc_X7_read dX7_read_30
theorem rX7_read_31 : ab_Run X 42 31 (15, 0, 0) [l0, l1, l2] (ab_I z :: st) σ Q ↔ (!ab_isJ l1) = true ∧ ab_Run X 42 32 (15, 0, 0) [l0, l1, ab_I z] st σ Q := ab_r_istore_n (Nat.le_of_ble_eq_true rfl) kc_X7_read dX7_read_31
theorem rX7_read_32 : ab_Run X 42 32 (15, 0, 0) [l0, l1, ab_I z] st σ Q ↔ ab_Run X 42 33 (15, 0, 0) [l0, l1, ab_I z] (ab_I z :: st) σ Q := ab_r_iload_n rfl kc_X7_read dX7_read_32
theorem rX7_read_33 : ab_Run X 42 33 (15, 0, 0) [l0, ab_I z, l2] st σ Q ↔ ab_Run X 42 34 (15, 0, 0) [l0, ab_I z, l2] (ab_I z :: st) σ Q := ab_r_iload_n rfl kc_X7_read dX7_read_33
theorem rX7_read_34 : ab_Run X 42 34 (15, 0, 0) L (ab_I b :: ab_I a :: st) σ Q ↔ (b < a → ab_Run X 42 123 (15, 0, 0) L st σ Q) ∧ (¬ (b < a) → ab_Run X 42 37 (15, 0, 0) L st σ Q) := ab_r_icmp_gt rfl kc_X7_read dX7_read_34
theorem rX7_read_37 : ab_Run X 42 37 (15, 0, 0) [ab_R z, l1, l2] st σ Q ↔ z ≠ 0 ∧ ab_Run X 42 38 (15, 0, 0) [ab_R z, l1, l2] (ab_R z :: st) σ Q := ab_r_aload_n rfl kc_X7_read dX7_read_37
theorem rX7_read_38 : ab_Run X 42 38 (15, 0, 0) L (ab_R a :: st) σ Q ↔ ((ab_sh σ a).1 = 8 ∧ ab_cats st ≤ 8) ∧ ab_Do X 44 [ab_R a] σ (fun r σ' => ab_Run X 42 41 (15, 0, 0) L (ab_psh r st) σ' Q) := ab_r_callV (w := []) (as := []) (b1 := (14, 0, 0)) 0 (Or.inl rfl) (by decide) ko_X7_read qM_7_43 (by decide) rfl rfl rfl rfl rfl (by decide) (Nat.le_of_ble_eq_true rfl) kc_X7_read dX7_read_38
theorem rX7_read_41 : ab_Run X 42 41 (15, 0, 0) L (ab_I a :: st) σ Q ↔ (¬ a = 0 → ab_Run X 42 46 (15, 0, 0) L st σ Q) ∧ (¬ (¬ a = 0) → ab_Run X 42 44 (15, 0, 0) L st σ Q) := ab_r_if_ne rfl kc_X7_read dX7_read_41
theorem rX7_read_44 : ab_Run X 42 44 (15, 0, 0) L st σ Q ↔ ab_Run X 42 45 (15, 0, 0) L (ab_I 0 :: st) σ Q := ab_r_iconst (by decide) kc_X7_read dX7_read_44
theorem rX7_read_45 : ab_Run X 42 45 (15, 0, 0) L [ab_I v] σ Q ↔ (v = 0 ∨ v = 1) ∧ Q (some (ab_I v)) σ := ab_r_ireturnZ rfl kc_X7_read dX7_read_45
theorem rX7_read_46 : ab_Run X 42 46 (15, 0, 0) [ab_R z, l1, l2] st σ Q ↔ z ≠ 0 ∧ ab_Run X 42 47 (15, 0, 0) [ab_R z, l1, l2] (ab_R z :: st) σ Q := ab_r_aload_n rfl kc_X7_read dX7_read_46
theorem rX7_read_47 : ab_Run X 42 47 (15, 0, 0) L (ab_R a :: st) σ Q ↔ (ab_sh σ a).1 = 8 ∧ ab_Run X 42 50 (15, 0, 0) L (ab_R (ab_rd σ a 0) :: st) σ Q := gF_7_12 ko_X7_read kc_X7_read dX7_read_47
theorem rX7_read_50 : ab_Run X 42 50 (15, 0, 0) L (ab_R a :: st) σ Q ↔ (ab_sh σ a).1 = 10 ∧ ab_Run X 42 53 (15, 0, 0) L (ab_I (ab_rd σ a 2) :: st) σ Q := gF_7_47 ko_X7_read kc_X7_read dX7_read_50
theorem rX7_read_53 : ab_Run X 42 53 (15, 0, 0) L (ab_I a :: st) σ Q ↔ (¬ a = 0 → ab_Run X 42 93 (15, 0, 0) L st σ Q) ∧ (¬ (¬ a = 0) → ab_Run X 42 56 (15, 0, 0) L st σ Q) := ab_r_if_ne rfl kc_X7_read dX7_read_53
theorem rX7_read_56 : ab_Run X 42 56 (15, 0, 0) [ab_R z, l1, l2] st σ Q ↔ z ≠ 0 ∧ ab_Run X 42 57 (15, 0, 0) [ab_R z, l1, l2] (ab_R z :: st) σ Q := ab_r_aload_n rfl kc_X7_read dX7_read_56
theorem rX7_read_57 : ab_Run X 42 57 (15, 0, 0) L (ab_R a :: st) σ Q ↔ (ab_sh σ a).1 = 8 ∧ ab_Run X 42 60 (15, 0, 0) L (ab_R (ab_rd σ a 1) :: st) σ Q := gF_7_21 ko_X7_read kc_X7_read dX7_read_57
theorem rX7_read_60 : ab_Run X 42 60 (15, 0, 0) L (ab_R a :: st) σ Q ↔ (ab_sh σ a).1 = 5 ∧ ab_Run X 42 63 (15, 0, 0) L (ab_I (ab_rd σ a 5) :: st) σ Q := gF_7_50 ko_X7_read kc_X7_read dX7_read_60
theorem rX7_read_63 : ab_Run X 42 63 (15, 0, 0) L st σ Q ↔ ab_Run X 42 64 (15, 0, 0) L (ab_I 1 :: st) σ Q := ab_r_iconst (by decide) kc_X7_read dX7_read_63
theorem rX7_read_64 : ab_Run X 42 64 (15, 0, 0) L (ab_I b :: ab_I a :: st) σ Q ↔ (a < b → ab_Run X 42 78 (15, 0, 0) L st σ Q) ∧ (¬ (a < b) → ab_Run X 42 67 (15, 0, 0) L st σ Q) := ab_r_icmp_lt rfl kc_X7_read dX7_read_64
theorem rX7_read_67 : ab_Run X 42 67 (15, 0, 0) [ab_R z, l1, l2] st σ Q ↔ z ≠ 0 ∧ ab_Run X 42 68 (15, 0, 0) [ab_R z, l1, l2] (ab_R z :: st) σ Q := ab_r_aload_n rfl kc_X7_read dX7_read_67
theorem rX7_read_68 : ab_Run X 42 68 (15, 0, 0) L (ab_R a :: st) σ Q ↔ (ab_sh σ a).1 = 8 ∧ ab_Run X 42 71 (15, 0, 0) L (ab_R (ab_rd σ a 1) :: st) σ Q := gF_7_21 ko_X7_read kc_X7_read dX7_read_68
theorem rX7_read_71 : ab_Run X 42 71 (15, 0, 0) L (ab_R a :: st) σ Q ↔ (ab_sh σ a).1 = 5 ∧ ab_Run X 42 74 (15, 0, 0) L (ab_I (ab_rd σ a 7) :: st) σ Q := gF_7_53 ko_X7_read kc_X7_read dX7_read_71
theorem rX7_read_74 : ab_Run X 42 74 (15, 0, 0) L st σ Q ↔ ab_Run X 42 75 (15, 0, 0) L (ab_I 2 :: st) σ Q := ab_r_iconst (by decide) kc_X7_read dX7_read_74
theorem rX7_read_75 : ab_Run X 42 75 (15, 0, 0) L (ab_I b :: ab_I a :: st) σ Q ↔ (b ≤ a → ab_Run X 42 87 (15, 0, 0) L st σ Q) ∧ (¬ (b ≤ a) → ab_Run X 42 78 (15, 0, 0) L st σ Q) := ab_r_icmp_ge rfl kc_X7_read dX7_read_75
theorem rX7_read_78 : ab_Run X 42 78 (15, 0, 0) [ab_R z, l1, l2] st σ Q ↔ z ≠ 0 ∧ ab_Run X 42 79 (15, 0, 0) [ab_R z, l1, l2] (ab_R z :: st) σ Q := ab_r_aload_n rfl kc_X7_read dX7_read_78
theorem rX7_read_79 : ab_Run X 42 79 (15, 0, 0) L st σ Q ↔ ab_Run X 42 81 (15, 0, 0) L (ab_I 6 :: st) σ Q := ab_r_bipush (by decide) kc_X7_read dX7_read_79
theorem rX7_read_81 : ab_Run X 42 81 (15, 0, 0) L (ab_I x1 :: ab_R a :: st) σ Q ↔ ((ab_sh σ a).1 = 8 ∧ ab_cats st ≤ 8) ∧ ab_Do X 43 [ab_R a, ab_I x1] σ (fun r σ' => ab_Run X 42 84 (15, 0, 0) L (ab_psh r st) σ' Q) := ab_r_callV (w := [ab_I x1]) (as := [ab_I x1]) (b1 := (0, 0, 0)) 0 (Or.inl rfl) (by decide) ko_X7_read qM_7_56 (by decide) rfl rfl rfl rfl rfl (by decide) (Nat.le_of_ble_eq_true rfl) kc_X7_read dX7_read_81
theorem rX7_read_84 : ab_Run X 42 84 (15, 0, 0) L (ab_I a :: st) σ Q ↔ (a = 0 → ab_Run X 42 91 (15, 0, 0) L st σ Q) ∧ (¬ (a = 0) → ab_Run X 42 87 (15, 0, 0) L st σ Q) := ab_r_if_eq rfl kc_X7_read dX7_read_84
theorem rX7_read_87 : ab_Run X 42 87 (15, 0, 0) L st σ Q ↔ ab_Run X 42 88 (15, 0, 0) L (ab_I 1 :: st) σ Q := ab_r_iconst (by decide) kc_X7_read dX7_read_87
theorem rX7_read_88 : ab_Run X 42 88 (15, 0, 0) L st σ Q ↔ ab_Run X 42 92 (15, 0, 0) L st σ Q := ab_r_goto rfl kc_X7_read dX7_read_88
theorem rX7_read_91 : ab_Run X 42 91 (15, 0, 0) L st σ Q ↔ ab_Run X 42 92 (15, 0, 0) L (ab_I 0 :: st) σ Q := ab_r_iconst (by decide) kc_X7_read dX7_read_91
theorem rX7_read_92 : ab_Run X 42 92 (15, 0, 0) L [ab_I v] σ Q ↔ (v = 0 ∨ v = 1) ∧ Q (some (ab_I v)) σ := ab_r_ireturnZ rfl kc_X7_read dX7_read_92
theorem rX7_read_93 : ab_Run X 42 93 (15, 0, 0) [ab_R z, l1, l2] st σ Q ↔ z ≠ 0 ∧ ab_Run X 42 94 (15, 0, 0) [ab_R z, l1, l2] (ab_R z :: st) σ Q := ab_r_aload_n rfl kc_X7_read dX7_read_93
theorem rX7_read_94 : ab_Run X 42 94 (15, 0, 0) L (ab_R a :: st) σ Q ↔ (ab_sh σ a).1 = 8 ∧ ab_Run X 42 97 (15, 0, 0) L (ab_R (ab_rd σ a 0) :: st) σ Q := gF_7_12 ko_X7_read kc_X7_read dX7_read_94
theorem rX7_read_97 : ab_Run X 42 97 (15, 0, 0) L (ab_R a :: st) σ Q ↔ (ab_sh σ a).1 = 10 ∧ ab_Run X 42 100 (15, 0, 0) L (ab_I (ab_rd σ a 2) :: st) σ Q := gF_7_47 ko_X7_read kc_X7_read dX7_read_97
theorem rX7_read_100 : ab_Run X 42 100 (15, 0, 0) L st σ Q ↔ ab_Run X 42 101 (15, 0, 0) L (ab_I 4 :: st) σ Q := ab_r_iconst (by decide) kc_X7_read dX7_read_100
theorem rX7_read_101 : ab_Run X 42 101 (15, 0, 0) L (ab_I b :: ab_I a :: st) σ Q ↔ (a = b → ab_Run X 42 110 (15, 0, 0) L st σ Q) ∧ (¬ (a = b) → ab_Run X 42 104 (15, 0, 0) L st σ Q) := ab_r_icmp_eq rfl kc_X7_read dX7_read_101
theorem rX7_read_104 : ab_Run X 42 104 (15, 0, 0) [ab_R z, l1, l2] st σ Q ↔ z ≠ 0 ∧ ab_Run X 42 105 (15, 0, 0) [ab_R z, l1, l2] (ab_R z :: st) σ Q := ab_r_aload_n rfl kc_X7_read dX7_read_104
theorem rX7_read_105 : ab_Run X 42 105 (15, 0, 0) L st σ Q ↔ ab_Run X 42 106 (15, 0, 0) L (ab_I 1 :: st) σ Q := ab_r_iconst (by decide) kc_X7_read dX7_read_105
theorem rX7_read_106 : ab_Run X 42 106 (15, 0, 0) L (ab_I x1 :: ab_R a :: st) σ Q ↔ ((ab_sh σ a).1 = 8 ∧ ab_cats st ≤ 8) ∧ ab_Do X 43 [ab_R a, ab_I x1] σ (fun r σ' => ab_Run X 42 109 (15, 0, 0) L (ab_psh r st) σ' Q) := ab_r_callV (w := [ab_I x1]) (as := [ab_I x1]) (b1 := (0, 0, 0)) 0 (Or.inl rfl) (by decide) ko_X7_read qM_7_56 (by decide) rfl rfl rfl rfl rfl (by decide) (Nat.le_of_ble_eq_true rfl) kc_X7_read dX7_read_106
theorem rX7_read_109 : ab_Run X 42 109 (15, 0, 0) L [ab_I v] σ Q ↔ (v = 0 ∨ v = 1) ∧ Q (some (ab_I v)) σ := ab_r_ireturnZ rfl kc_X7_read dX7_read_109
theorem rX7_read_110 : ab_Run X 42 110 (15, 0, 0) [ab_R z, l1, l2] st σ Q ↔ z ≠ 0 ∧ ab_Run X 42 111 (15, 0, 0) [ab_R z, l1, l2] (ab_R z :: st) σ Q := ab_r_aload_n rfl kc_X7_read dX7_read_110
theorem rX7_read_111 : ab_Run X 42 111 (15, 0, 0) L (ab_R a :: st) σ Q ↔ (ab_sh σ a).1 = 8 ∧ ab_Run X 42 114 (15, 0, 0) L (ab_R (ab_rd σ a 0) :: st) σ Q := gF_7_12 ko_X7_read kc_X7_read dX7_read_111
theorem rX7_read_114 : ab_Run X 42 114 (15, 0, 0) L (ab_R a :: st) σ Q ↔ ((ab_sh σ a).1 = 10 ∧ ab_cats st ≤ 8) ∧ ab_Do X 70 [ab_R a] σ (fun r σ' => ab_Run X 42 117 (15, 0, 0) L (ab_psh r st) σ' Q) := ab_r_callV (w := []) (as := []) (b1 := (1, 0, 0)) 0 (Or.inl rfl) (by decide) ko_X7_read qM_7_60 (by decide) rfl rfl rfl rfl rfl (by decide) (Nat.le_of_ble_eq_true rfl) kc_X7_read dX7_read_114
theorem rX7_read_117 : ab_Run X 42 117 (15, 0, 0) [l0, l1, ab_I z] st σ Q ↔ (!ab_isJ l1) = true ∧ ab_Run X 42 120 (15, 0, 0) [l0, l1, ab_I (ab_w32 (z + 1))] st σ Q := ab_r_iinc rfl (by decide) kc_X7_read dX7_read_117
theorem rX7_read_120 : ab_Run X 42 120 (15, 0, 0) L st σ Q ↔ ab_Run X 42 32 (15, 0, 0) L st σ Q := ab_r_goto rfl kc_X7_read dX7_read_120
theorem rX7_read_123 : ab_Run X 42 123 (15, 0, 0) [ab_R z, l1, l2] st σ Q ↔ z ≠ 0 ∧ ab_Run X 42 124 (15, 0, 0) [ab_R z, l1, l2] (ab_R z :: st) σ Q := ab_r_aload_n rfl kc_X7_read dX7_read_123
theorem rX7_read_124 : ab_Run X 42 124 (15, 0, 0) L st σ Q ↔ ab_Run X 42 125 (15, 0, 0) L (ab_I 1 :: st) σ Q := ab_r_iconst (by decide) kc_X7_read dX7_read_124
theorem rX7_read_125 : ab_Run X 42 125 (15, 0, 0) L (ab_I x1 :: ab_R a :: st) σ Q ↔ ((ab_sh σ a).1 = 8 ∧ ab_cats st ≤ 8) ∧ ab_Do X 43 [ab_R a, ab_I x1] σ (fun r σ' => ab_Run X 42 128 (15, 0, 0) L (ab_psh r st) σ' Q) := ab_r_callV (w := [ab_I x1]) (as := [ab_I x1]) (b1 := (0, 0, 0)) 0 (Or.inl rfl) (by decide) ko_X7_read qM_7_56 (by decide) rfl rfl rfl rfl rfl (by decide) (Nat.le_of_ble_eq_true rfl) kc_X7_read dX7_read_125
theorem rX7_read_128 : ab_Run X 42 128 (15, 0, 0) L [ab_I v] σ Q ↔ (v = 0 ∨ v = 1) ∧ Q (some (ab_I v)) σ := ab_r_ireturnZ rfl kc_X7_read dX7_read_128
theorem kc_X7_stop : ab_code 43 = cX7_stop := rfl
theorem ko_X7_stop : ab_ow 43 = 7 := rfl
theorem rX7_stop_0 : ab_Run X 43 0 (0, 0, 0) [ab_R z, l1] st σ Q ↔ z ≠ 0 ∧ ab_Run X 43 1 (0, 0, 0) [ab_R z, l1] (ab_R z :: st) σ Q := ab_r_aload_n rfl kc_X7_stop dX7_stop_0
theorem rX7_stop_1 : ab_Run X 43 1 (0, 0, 0) [l0, ab_I z] st σ Q ↔ ab_Run X 43 2 (0, 0, 0) [l0, ab_I z] (ab_I z :: st) σ Q := ab_r_iload_n rfl kc_X7_stop dX7_stop_1
theorem rX7_stop_2 : ab_Run X 43 2 (0, 0, 0) L (ab_I z :: ab_R a :: st) σ Q ↔ (ab_sh σ a).1 = 8 ∧ ab_Run X 43 5 (0, 0, 0) L st (ab_wr σ a 2 z) Q := sF_7_28 ko_X7_stop kc_X7_stop dX7_stop_2
theorem rX7_stop_5 : ab_Run X 43 5 (0, 0, 0) [ab_R z, l1] st σ Q ↔ z ≠ 0 ∧ ab_Run X 43 6 (0, 0, 0) [ab_R z, l1] (ab_R z :: st) σ Q := ab_r_aload_n rfl kc_X7_stop dX7_stop_5
theorem rX7_stop_6 : ab_Run X 43 6 (0, 0, 0) [ab_R z, l1] st σ Q ↔ z ≠ 0 ∧ ab_Run X 43 7 (0, 0, 0) [ab_R z, l1] (ab_R z :: st) σ Q := ab_r_aload_n rfl kc_X7_stop dX7_stop_6
theorem rX7_stop_7 : ab_Run X 43 7 (0, 0, 0) L (ab_R a :: st) σ Q ↔ (ab_sh σ a).1 = 8 ∧ ab_Run X 43 10 (0, 0, 0) L (ab_R (ab_rd σ a 0) :: st) σ Q := gF_7_12 ko_X7_stop kc_X7_stop dX7_stop_7
theorem rX7_stop_10 : ab_Run X 43 10 (0, 0, 0) L (ab_R a :: st) σ Q ↔ (ab_sh σ a).1 = 10 ∧ ab_Run X 43 13 (0, 0, 0) L (ab_I (ab_rd σ a 3) :: st) σ Q := gF_7_63 ko_X7_stop kc_X7_stop dX7_stop_10
theorem rX7_stop_13 : ab_Run X 43 13 (0, 0, 0) L (ab_I z :: ab_R a :: st) σ Q ↔ (ab_sh σ a).1 = 8 ∧ ab_Run X 43 16 (0, 0, 0) L st (ab_wr σ a 3 z) Q := sF_7_32 ko_X7_stop kc_X7_stop dX7_stop_13
theorem rX7_stop_16 : ab_Run X 43 16 (0, 0, 0) L st σ Q ↔ ab_Run X 43 17 (0, 0, 0) L (ab_I 0 :: st) σ Q := ab_r_iconst (by decide) kc_X7_stop dX7_stop_16
theorem rX7_stop_17 : ab_Run X 43 17 (0, 0, 0) L [ab_I v] σ Q ↔ (v = 0 ∨ v = 1) ∧ Q (some (ab_I v)) σ := ab_r_ireturnZ rfl kc_X7_stop dX7_stop_17
theorem kc_X7_readLine : ab_code 44 = cX7_readLine := rfl
theorem ko_X7_readLine : ab_ow 44 = 7 := rfl
theorem rX7_readLine_0 : ab_Run X 44 0 (14, 0, 0) [ab_R z] st σ Q ↔ z ≠ 0 ∧ ab_Run X 44 1 (14, 0, 0) [ab_R z] (ab_R z :: st) σ Q := ab_r_aload_n rfl kc_X7_readLine dX7_readLine_0
theorem rX7_readLine_1 : ab_Run X 44 1 (14, 0, 0) L (ab_R a :: st) σ Q ↔ (ab_sh σ a).1 = 8 ∧ ab_Run X 44 4 (14, 0, 0) L (ab_R (ab_rd σ a 0) :: st) σ Q := gF_7_12 ko_X7_readLine kc_X7_readLine dX7_readLine_1
theorem rX7_readLine_4 : ab_Run X 44 4 (14, 0, 0) L st σ Q ↔ ab_Run X 44 6 (14, 0, 0) L (ab_R (-2) :: st) σ Q := ab_r_ldcS (n := 0) rfl ko_X7_readLine (by decide +kernel) (by decide +kernel) rfl kc_X7_readLine dX7_readLine_4
theorem rX7_readLine_6 : ab_Run X 44 6 (14, 0, 0) L (ab_R x1 :: ab_R a :: st) σ Q ↔ ((ab_sh σ a).1 = 10 ∧ ab_cats st ≤ 8) ∧ ab_Do X 73 [ab_R a, ab_R x1] σ (fun r σ' => ab_Run X 44 9 (14, 0, 0) L (ab_psh r st) σ' Q) := ab_r_callV (w := [ab_R x1]) (as := [ab_R x1]) (b1 := (10, 0, 0)) 0 (Or.inl rfl) (by decide) ko_X7_readLine qM_7_68 (by decide) rfl rfl rfl rfl rfl (by decide) (Nat.le_of_ble_eq_true rfl) kc_X7_readLine dX7_readLine_6
theorem rX7_readLine_9 : ab_Run X 44 9 (14, 0, 0) L (ab_I a :: st) σ Q ↔ (a = 0 → ab_Run X 44 32 (14, 0, 0) L st σ Q) ∧ (¬ (a = 0) → ab_Run X 44 12 (14, 0, 0) L st σ Q) := ab_r_if_eq rfl kc_X7_readLine dX7_readLine_9
theorem rX7_readLine_12 : ab_Run X 44 12 (14, 0, 0) [ab_R z] st σ Q ↔ z ≠ 0 ∧ ab_Run X 44 13 (14, 0, 0) [ab_R z] (ab_R z :: st) σ Q := ab_r_aload_n rfl kc_X7_readLine dX7_readLine_12
theorem rX7_readLine_13 : ab_Run X 44 13 (14, 0, 0) L (ab_R a :: st) σ Q ↔ (ab_sh σ a).1 = 8 ∧ ab_Run X 44 16 (14, 0, 0) L (ab_I (ab_rd σ a 4) :: st) σ Q := gF_7_35 ko_X7_readLine kc_X7_readLine dX7_readLine_13
theorem rX7_readLine_16 : ab_Run X 44 16 (14, 0, 0) L (ab_I a :: st) σ Q ↔ (a = 0 → ab_Run X 44 27 (14, 0, 0) L st σ Q) ∧ (¬ (a = 0) → ab_Run X 44 19 (14, 0, 0) L st σ Q) := ab_r_if_eq rfl kc_X7_readLine dX7_readLine_16
theorem rX7_readLine_19 : ab_Run X 44 19 (14, 0, 0) [ab_R z] st σ Q ↔ z ≠ 0 ∧ ab_Run X 44 20 (14, 0, 0) [ab_R z] (ab_R z :: st) σ Q := ab_r_aload_n rfl kc_X7_readLine dX7_readLine_19
theorem rX7_readLine_20 : ab_Run X 44 20 (14, 0, 0) L st σ Q ↔ ab_Run X 44 21 (14, 0, 0) L (ab_I 3 :: st) σ Q := ab_r_iconst (by decide) kc_X7_readLine dX7_readLine_20
theorem rX7_readLine_21 : ab_Run X 44 21 (14, 0, 0) L (ab_I x1 :: ab_R a :: st) σ Q ↔ ((ab_sh σ a).1 = 8 ∧ ab_cats st ≤ 8) ∧ ab_Do X 43 [ab_R a, ab_I x1] σ (fun r σ' => ab_Run X 44 24 (14, 0, 0) L (ab_psh r st) σ' Q) := ab_r_callV (w := [ab_I x1]) (as := [ab_I x1]) (b1 := (0, 0, 0)) 0 (Or.inl rfl) (by decide) ko_X7_readLine qM_7_56 (by decide) rfl rfl rfl rfl rfl (by decide) (Nat.le_of_ble_eq_true rfl) kc_X7_readLine dX7_readLine_21
theorem rX7_readLine_24 : ab_Run X 44 24 (14, 0, 0) L st σ Q ↔ ab_Run X 44 31 (14, 0, 0) L st σ Q := ab_r_goto rfl kc_X7_readLine dX7_readLine_24
theorem rX7_readLine_27 : ab_Run X 44 27 (14, 0, 0) [ab_R z] st σ Q ↔ z ≠ 0 ∧ ab_Run X 44 28 (14, 0, 0) [ab_R z] (ab_R z :: st) σ Q := ab_r_aload_n rfl kc_X7_readLine dX7_readLine_27
theorem rX7_readLine_28 : ab_Run X 44 28 (14, 0, 0) L (ab_R a :: st) σ Q ↔ ((ab_sh σ a).1 = 8 ∧ ab_cats st ≤ 8) ∧ ab_Do X 46 [ab_R a] σ (fun r σ' => ab_Run X 44 31 (14, 0, 0) L (ab_psh r st) σ' Q) := ab_r_callV (w := []) (as := []) (b1 := (13, 0, 0)) 0 (Or.inl rfl) (by decide) ko_X7_readLine qM_7_72 (by decide) rfl rfl rfl rfl rfl (by decide) (Nat.le_of_ble_eq_true rfl) kc_X7_readLine dX7_readLine_28
theorem rX7_readLine_31 : ab_Run X 44 31 (14, 0, 0) L [ab_I v] σ Q ↔ (v = 0 ∨ v = 1) ∧ Q (some (ab_I v)) σ := ab_r_ireturnZ rfl kc_X7_readLine dX7_readLine_31
theorem rX7_readLine_32 : ab_Run X 44 32 (14, 0, 0) [ab_R z] st σ Q ↔ z ≠ 0 ∧ ab_Run X 44 33 (14, 0, 0) [ab_R z] (ab_R z :: st) σ Q := ab_r_aload_n rfl kc_X7_readLine dX7_readLine_32
theorem rX7_readLine_33 : ab_Run X 44 33 (14, 0, 0) L (ab_R a :: st) σ Q ↔ (ab_sh σ a).1 = 8 ∧ ab_Run X 44 36 (14, 0, 0) L (ab_R (ab_rd σ a 0) :: st) σ Q := gF_7_12 ko_X7_readLine kc_X7_readLine dX7_readLine_33
theorem rX7_readLine_36 : ab_Run X 44 36 (14, 0, 0) L st σ Q ↔ ab_Run X 44 38 (14, 0, 0) L (ab_R (-8) :: st) σ Q := ab_r_ldcS (n := 6) rfl ko_X7_readLine (by decide +kernel) (by decide +kernel) rfl kc_X7_readLine dX7_readLine_36
theorem rX7_readLine_38 : ab_Run X 44 38 (14, 0, 0) L (ab_R x1 :: ab_R a :: st) σ Q ↔ ((ab_sh σ a).1 = 10 ∧ ab_cats st ≤ 8) ∧ ab_Do X 73 [ab_R a, ab_R x1] σ (fun r σ' => ab_Run X 44 41 (14, 0, 0) L (ab_psh r st) σ' Q) := ab_r_callV (w := [ab_R x1]) (as := [ab_R x1]) (b1 := (10, 0, 0)) 0 (Or.inl rfl) (by decide) ko_X7_readLine qM_7_68 (by decide) rfl rfl rfl rfl rfl (by decide) (Nat.le_of_ble_eq_true rfl) kc_X7_readLine dX7_readLine_38
theorem rX7_readLine_41 : ab_Run X 44 41 (14, 0, 0) L (ab_I a :: st) σ Q ↔ (a = 0 → ab_Run X 44 72 (14, 0, 0) L st σ Q) ∧ (¬ (a = 0) → ab_Run X 44 44 (14, 0, 0) L st σ Q) := ab_r_if_eq rfl kc_X7_readLine dX7_readLine_41
theorem rX7_readLine_44 : ab_Run X 44 44 (14, 0, 0) [ab_R z] st σ Q ↔ z ≠ 0 ∧ ab_Run X 44 45 (14, 0, 0) [ab_R z] (ab_R z :: st) σ Q := ab_r_aload_n rfl kc_X7_readLine dX7_readLine_44
theorem rX7_readLine_45 : ab_Run X 44 45 (14, 0, 0) [ab_R z] st σ Q ↔ z ≠ 0 ∧ ab_Run X 44 46 (14, 0, 0) [ab_R z] (ab_R z :: st) σ Q := ab_r_aload_n rfl kc_X7_readLine dX7_readLine_45
theorem rX7_readLine_46 : ab_Run X 44 46 (14, 0, 0) L (ab_R a :: st) σ Q ↔ (ab_sh σ a).1 = 8 ∧ ab_Run X 44 49 (14, 0, 0) L (ab_R (ab_rd σ a 1) :: st) σ Q := gF_7_21 ko_X7_readLine kc_X7_readLine dX7_readLine_46
theorem rX7_readLine_49 : ab_Run X 44 49 (14, 0, 0) L (ab_R a :: st) σ Q ↔ (ab_sh σ a).1 = 5 ∧ ab_Run X 44 52 (14, 0, 0) L (ab_I (ab_rd σ a 5) :: st) σ Q := gF_7_50 ko_X7_readLine kc_X7_readLine dX7_readLine_49
theorem rX7_readLine_52 : ab_Run X 44 52 (14, 0, 0) L st σ Q ↔ ab_Run X 44 53 (14, 0, 0) L (ab_I 5 :: st) σ Q := ab_r_iconst (by decide) kc_X7_readLine dX7_readLine_52
theorem rX7_readLine_53 : ab_Run X 44 53 (14, 0, 0) L (ab_I x2 :: ab_I x1 :: ab_R a :: st) σ Q ↔ ((ab_sh σ a).1 = 8 ∧ ab_cats st ≤ 8) ∧ ab_Do X 45 [ab_R a, ab_I x1, ab_I x2] σ (fun r σ' => ab_Run X 44 56 (14, 0, 0) L (ab_psh r st) σ' Q) := ab_r_callV (w := [ab_I x2, ab_I x1]) (as := [ab_I x1, ab_I x2]) (b1 := (2, 0, 0)) 0 (Or.inl rfl) (by decide) ko_X7_readLine qM_7_77 (by decide) rfl rfl rfl rfl rfl (by decide) (Nat.le_of_ble_eq_true rfl) kc_X7_readLine dX7_readLine_53
theorem rX7_readLine_56 : ab_Run X 44 56 (14, 0, 0) L (ab_I a :: st) σ Q ↔ (a = 0 → ab_Run X 44 70 (14, 0, 0) L st σ Q) ∧ (¬ (a = 0) → ab_Run X 44 59 (14, 0, 0) L st σ Q) := ab_r_if_eq rfl kc_X7_readLine dX7_readLine_56
theorem rX7_readLine_59 : ab_Run X 44 59 (14, 0, 0) [ab_R z] st σ Q ↔ z ≠ 0 ∧ ab_Run X 44 60 (14, 0, 0) [ab_R z] (ab_R z :: st) σ Q := ab_r_aload_n rfl kc_X7_readLine dX7_readLine_59
theorem rX7_readLine_60 : ab_Run X 44 60 (14, 0, 0) L (ab_R a :: st) σ Q ↔ ((ab_sh σ a).1 = 8 ∧ ab_cats st ≤ 8) ∧ ab_Do X 47 [ab_R a] σ (fun r σ' => ab_Run X 44 63 (14, 0, 0) L (ab_psh r st) σ' Q) := ab_r_callV (w := []) (as := []) (b1 := (13, 0, 0)) 0 (Or.inl rfl) (by decide) ko_X7_readLine qM_7_81 (by decide) rfl rfl rfl rfl rfl (by decide) (Nat.le_of_ble_eq_true rfl) kc_X7_readLine dX7_readLine_60
theorem rX7_readLine_63 : ab_Run X 44 63 (14, 0, 0) L (ab_I a :: st) σ Q ↔ (a = 0 → ab_Run X 44 70 (14, 0, 0) L st σ Q) ∧ (¬ (a = 0) → ab_Run X 44 66 (14, 0, 0) L st σ Q) := ab_r_if_eq rfl kc_X7_readLine dX7_readLine_63
theorem rX7_readLine_66 : ab_Run X 44 66 (14, 0, 0) L st σ Q ↔ ab_Run X 44 67 (14, 0, 0) L (ab_I 1 :: st) σ Q := ab_r_iconst (by decide) kc_X7_readLine dX7_readLine_66
theorem rX7_readLine_67 : ab_Run X 44 67 (14, 0, 0) L st σ Q ↔ ab_Run X 44 71 (14, 0, 0) L st σ Q := ab_r_goto rfl kc_X7_readLine dX7_readLine_67
theorem rX7_readLine_70 : ab_Run X 44 70 (14, 0, 0) L st σ Q ↔ ab_Run X 44 71 (14, 0, 0) L (ab_I 0 :: st) σ Q := ab_r_iconst (by decide) kc_X7_readLine dX7_readLine_70
theorem rX7_readLine_71 : ab_Run X 44 71 (14, 0, 0) L [ab_I v] σ Q ↔ (v = 0 ∨ v = 1) ∧ Q (some (ab_I v)) σ := ab_r_ireturnZ rfl kc_X7_readLine dX7_readLine_71
theorem rX7_readLine_72 : ab_Run X 44 72 (14, 0, 0) [ab_R z] st σ Q ↔ z ≠ 0 ∧ ab_Run X 44 73 (14, 0, 0) [ab_R z] (ab_R z :: st) σ Q := ab_r_aload_n rfl kc_X7_readLine dX7_readLine_72
theorem rX7_readLine_73 : ab_Run X 44 73 (14, 0, 0) L (ab_R a :: st) σ Q ↔ (ab_sh σ a).1 = 8 ∧ ab_Run X 44 76 (14, 0, 0) L (ab_R (ab_rd σ a 0) :: st) σ Q := gF_7_12 ko_X7_readLine kc_X7_readLine dX7_readLine_73
theorem rX7_readLine_76 : ab_Run X 44 76 (14, 0, 0) L st σ Q ↔ ab_Run X 44 78 (14, 0, 0) L (ab_R (-9) :: st) σ Q := ab_r_ldcS (n := 7) rfl ko_X7_readLine (by decide +kernel) (by decide +kernel) rfl kc_X7_readLine dX7_readLine_76
theorem rX7_readLine_78 : ab_Run X 44 78 (14, 0, 0) L (ab_R x1 :: ab_R a :: st) σ Q ↔ ((ab_sh σ a).1 = 10 ∧ ab_cats st ≤ 8) ∧ ab_Do X 73 [ab_R a, ab_R x1] σ (fun r σ' => ab_Run X 44 81 (14, 0, 0) L (ab_psh r st) σ' Q) := ab_r_callV (w := [ab_R x1]) (as := [ab_R x1]) (b1 := (10, 0, 0)) 0 (Or.inl rfl) (by decide) ko_X7_readLine qM_7_68 (by decide) rfl rfl rfl rfl rfl (by decide) (Nat.le_of_ble_eq_true rfl) kc_X7_readLine dX7_readLine_78
theorem rX7_readLine_81 : ab_Run X 44 81 (14, 0, 0) L (ab_I a :: st) σ Q ↔ (a = 0 → ab_Run X 44 113 (14, 0, 0) L st σ Q) ∧ (¬ (a = 0) → ab_Run X 44 84 (14, 0, 0) L st σ Q) := ab_r_if_eq rfl kc_X7_readLine dX7_readLine_81
theorem rX7_readLine_84 : ab_Run X 44 84 (14, 0, 0) [ab_R z] st σ Q ↔ z ≠ 0 ∧ ab_Run X 44 85 (14, 0, 0) [ab_R z] (ab_R z :: st) σ Q := ab_r_aload_n rfl kc_X7_readLine dX7_readLine_84
theorem rX7_readLine_85 : ab_Run X 44 85 (14, 0, 0) [ab_R z] st σ Q ↔ z ≠ 0 ∧ ab_Run X 44 86 (14, 0, 0) [ab_R z] (ab_R z :: st) σ Q := ab_r_aload_n rfl kc_X7_readLine dX7_readLine_85
theorem rX7_readLine_86 : ab_Run X 44 86 (14, 0, 0) L (ab_R a :: st) σ Q ↔ (ab_sh σ a).1 = 8 ∧ ab_Run X 44 89 (14, 0, 0) L (ab_R (ab_rd σ a 1) :: st) σ Q := gF_7_21 ko_X7_readLine kc_X7_readLine dX7_readLine_86
theorem rX7_readLine_89 : ab_Run X 44 89 (14, 0, 0) L (ab_R a :: st) σ Q ↔ (ab_sh σ a).1 = 5 ∧ ab_Run X 44 92 (14, 0, 0) L (ab_I (ab_rd σ a 7) :: st) σ Q := gF_7_53 ko_X7_readLine kc_X7_readLine dX7_readLine_89
theorem rX7_readLine_92 : ab_Run X 44 92 (14, 0, 0) L st σ Q ↔ ab_Run X 44 94 (14, 0, 0) L (ab_I 6 :: st) σ Q := ab_r_bipush (by decide) kc_X7_readLine dX7_readLine_92
theorem rX7_readLine_94 : ab_Run X 44 94 (14, 0, 0) L (ab_I x2 :: ab_I x1 :: ab_R a :: st) σ Q ↔ ((ab_sh σ a).1 = 8 ∧ ab_cats st ≤ 8) ∧ ab_Do X 45 [ab_R a, ab_I x1, ab_I x2] σ (fun r σ' => ab_Run X 44 97 (14, 0, 0) L (ab_psh r st) σ' Q) := ab_r_callV (w := [ab_I x2, ab_I x1]) (as := [ab_I x1, ab_I x2]) (b1 := (2, 0, 0)) 0 (Or.inl rfl) (by decide) ko_X7_readLine qM_7_77 (by decide) rfl rfl rfl rfl rfl (by decide) (Nat.le_of_ble_eq_true rfl) kc_X7_readLine dX7_readLine_94
theorem rX7_readLine_97 : ab_Run X 44 97 (14, 0, 0) L (ab_I a :: st) σ Q ↔ (a = 0 → ab_Run X 44 111 (14, 0, 0) L st σ Q) ∧ (¬ (a = 0) → ab_Run X 44 100 (14, 0, 0) L st σ Q) := ab_r_if_eq rfl kc_X7_readLine dX7_readLine_97
theorem rX7_readLine_100 : ab_Run X 44 100 (14, 0, 0) [ab_R z] st σ Q ↔ z ≠ 0 ∧ ab_Run X 44 101 (14, 0, 0) [ab_R z] (ab_R z :: st) σ Q := ab_r_aload_n rfl kc_X7_readLine dX7_readLine_100
theorem rX7_readLine_101 : ab_Run X 44 101 (14, 0, 0) L (ab_R a :: st) σ Q ↔ ((ab_sh σ a).1 = 8 ∧ ab_cats st ≤ 8) ∧ ab_Do X 49 [ab_R a] σ (fun r σ' => ab_Run X 44 104 (14, 0, 0) L (ab_psh r st) σ' Q) := ab_r_callV (w := []) (as := []) (b1 := (13, 0, 0)) 0 (Or.inl rfl) (by decide) ko_X7_readLine qM_7_86 (by decide) rfl rfl rfl rfl rfl (by decide) (Nat.le_of_ble_eq_true rfl) kc_X7_readLine dX7_readLine_101
theorem rX7_readLine_104 : ab_Run X 44 104 (14, 0, 0) L (ab_I a :: st) σ Q ↔ (a = 0 → ab_Run X 44 111 (14, 0, 0) L st σ Q) ∧ (¬ (a = 0) → ab_Run X 44 107 (14, 0, 0) L st σ Q) := ab_r_if_eq rfl kc_X7_readLine dX7_readLine_104
theorem rX7_readLine_107 : ab_Run X 44 107 (14, 0, 0) L st σ Q ↔ ab_Run X 44 108 (14, 0, 0) L (ab_I 1 :: st) σ Q := ab_r_iconst (by decide) kc_X7_readLine dX7_readLine_107
theorem rX7_readLine_108 : ab_Run X 44 108 (14, 0, 0) L st σ Q ↔ ab_Run X 44 112 (14, 0, 0) L st σ Q := ab_r_goto rfl kc_X7_readLine dX7_readLine_108
theorem rX7_readLine_111 : ab_Run X 44 111 (14, 0, 0) L st σ Q ↔ ab_Run X 44 112 (14, 0, 0) L (ab_I 0 :: st) σ Q := ab_r_iconst (by decide) kc_X7_readLine dX7_readLine_111
theorem rX7_readLine_112 : ab_Run X 44 112 (14, 0, 0) L [ab_I v] σ Q ↔ (v = 0 ∨ v = 1) ∧ Q (some (ab_I v)) σ := ab_r_ireturnZ rfl kc_X7_readLine dX7_readLine_112
theorem rX7_readLine_113 : ab_Run X 44 113 (14, 0, 0) [ab_R z] st σ Q ↔ z ≠ 0 ∧ ab_Run X 44 114 (14, 0, 0) [ab_R z] (ab_R z :: st) σ Q := ab_r_aload_n rfl kc_X7_readLine dX7_readLine_113
theorem rX7_readLine_114 : ab_Run X 44 114 (14, 0, 0) L (ab_R a :: st) σ Q ↔ (ab_sh σ a).1 = 8 ∧ ab_Run X 44 117 (14, 0, 0) L (ab_R (ab_rd σ a 0) :: st) σ Q := gF_7_12 ko_X7_readLine kc_X7_readLine dX7_readLine_114
theorem rX7_readLine_117 : ab_Run X 44 117 (14, 0, 0) L st σ Q ↔ ab_Run X 44 119 (14, 0, 0) L (ab_R (-10) :: st) σ Q := ab_r_ldcS (n := 8) rfl ko_X7_readLine (by decide +kernel) (by decide +kernel) rfl kc_X7_readLine dX7_readLine_117
theorem rX7_readLine_119 : ab_Run X 44 119 (14, 0, 0) L (ab_R x1 :: ab_R a :: st) σ Q ↔ ((ab_sh σ a).1 = 10 ∧ ab_cats st ≤ 8) ∧ ab_Do X 73 [ab_R a, ab_R x1] σ (fun r σ' => ab_Run X 44 122 (14, 0, 0) L (ab_psh r st) σ' Q) := ab_r_callV (w := [ab_R x1]) (as := [ab_R x1]) (b1 := (10, 0, 0)) 0 (Or.inl rfl) (by decide) ko_X7_readLine qM_7_68 (by decide) rfl rfl rfl rfl rfl (by decide) (Nat.le_of_ble_eq_true rfl) kc_X7_readLine dX7_readLine_119
theorem rX7_readLine_122 : ab_Run X 44 122 (14, 0, 0) L (ab_I a :: st) σ Q ↔ (a = 0 → ab_Run X 44 154 (14, 0, 0) L st σ Q) ∧ (¬ (a = 0) → ab_Run X 44 125 (14, 0, 0) L st σ Q) := ab_r_if_eq rfl kc_X7_readLine dX7_readLine_122
theorem rX7_readLine_125 : ab_Run X 44 125 (14, 0, 0) [ab_R z] st σ Q ↔ z ≠ 0 ∧ ab_Run X 44 126 (14, 0, 0) [ab_R z] (ab_R z :: st) σ Q := ab_r_aload_n rfl kc_X7_readLine dX7_readLine_125
theorem rX7_readLine_126 : ab_Run X 44 126 (14, 0, 0) [ab_R z] st σ Q ↔ z ≠ 0 ∧ ab_Run X 44 127 (14, 0, 0) [ab_R z] (ab_R z :: st) σ Q := ab_r_aload_n rfl kc_X7_readLine dX7_readLine_126
theorem rX7_readLine_127 : ab_Run X 44 127 (14, 0, 0) L (ab_R a :: st) σ Q ↔ (ab_sh σ a).1 = 8 ∧ ab_Run X 44 130 (14, 0, 0) L (ab_R (ab_rd σ a 1) :: st) σ Q := gF_7_21 ko_X7_readLine kc_X7_readLine dX7_readLine_127
theorem rX7_readLine_130 : ab_Run X 44 130 (14, 0, 0) L (ab_R a :: st) σ Q ↔ (ab_sh σ a).1 = 5 ∧ ab_Run X 44 133 (14, 0, 0) L (ab_I (ab_rd σ a 9) :: st) σ Q := gF_7_91 ko_X7_readLine kc_X7_readLine dX7_readLine_130
theorem rX7_readLine_133 : ab_Run X 44 133 (14, 0, 0) L st σ Q ↔ ab_Run X 44 135 (14, 0, 0) L (ab_I 10 :: st) σ Q := ab_r_bipush (by decide) kc_X7_readLine dX7_readLine_133
theorem rX7_readLine_135 : ab_Run X 44 135 (14, 0, 0) L (ab_I x2 :: ab_I x1 :: ab_R a :: st) σ Q ↔ ((ab_sh σ a).1 = 8 ∧ ab_cats st ≤ 8) ∧ ab_Do X 45 [ab_R a, ab_I x1, ab_I x2] σ (fun r σ' => ab_Run X 44 138 (14, 0, 0) L (ab_psh r st) σ' Q) := ab_r_callV (w := [ab_I x2, ab_I x1]) (as := [ab_I x1, ab_I x2]) (b1 := (2, 0, 0)) 0 (Or.inl rfl) (by decide) ko_X7_readLine qM_7_77 (by decide) rfl rfl rfl rfl rfl (by decide) (Nat.le_of_ble_eq_true rfl) kc_X7_readLine dX7_readLine_135
theorem rX7_readLine_138 : ab_Run X 44 138 (14, 0, 0) L (ab_I a :: st) σ Q ↔ (a = 0 → ab_Run X 44 152 (14, 0, 0) L st σ Q) ∧ (¬ (a = 0) → ab_Run X 44 141 (14, 0, 0) L st σ Q) := ab_r_if_eq rfl kc_X7_readLine dX7_readLine_138
theorem rX7_readLine_141 : ab_Run X 44 141 (14, 0, 0) [ab_R z] st σ Q ↔ z ≠ 0 ∧ ab_Run X 44 142 (14, 0, 0) [ab_R z] (ab_R z :: st) σ Q := ab_r_aload_n rfl kc_X7_readLine dX7_readLine_141
theorem rX7_readLine_142 : ab_Run X 44 142 (14, 0, 0) L (ab_R a :: st) σ Q ↔ ((ab_sh σ a).1 = 8 ∧ ab_cats st ≤ 8) ∧ ab_Do X 50 [ab_R a] σ (fun r σ' => ab_Run X 44 145 (14, 0, 0) L (ab_psh r st) σ' Q) := ab_r_callV (w := []) (as := []) (b1 := (13, 0, 0)) 0 (Or.inl rfl) (by decide) ko_X7_readLine qM_7_94 (by decide) rfl rfl rfl rfl rfl (by decide) (Nat.le_of_ble_eq_true rfl) kc_X7_readLine dX7_readLine_142
theorem rX7_readLine_145 : ab_Run X 44 145 (14, 0, 0) L (ab_I a :: st) σ Q ↔ (a = 0 → ab_Run X 44 152 (14, 0, 0) L st σ Q) ∧ (¬ (a = 0) → ab_Run X 44 148 (14, 0, 0) L st σ Q) := ab_r_if_eq rfl kc_X7_readLine dX7_readLine_145
theorem rX7_readLine_148 : ab_Run X 44 148 (14, 0, 0) L st σ Q ↔ ab_Run X 44 149 (14, 0, 0) L (ab_I 1 :: st) σ Q := ab_r_iconst (by decide) kc_X7_readLine dX7_readLine_148
theorem rX7_readLine_149 : ab_Run X 44 149 (14, 0, 0) L st σ Q ↔ ab_Run X 44 153 (14, 0, 0) L st σ Q := ab_r_goto rfl kc_X7_readLine dX7_readLine_149
theorem rX7_readLine_152 : ab_Run X 44 152 (14, 0, 0) L st σ Q ↔ ab_Run X 44 153 (14, 0, 0) L (ab_I 0 :: st) σ Q := ab_r_iconst (by decide) kc_X7_readLine dX7_readLine_152
theorem rX7_readLine_153 : ab_Run X 44 153 (14, 0, 0) L [ab_I v] σ Q ↔ (v = 0 ∨ v = 1) ∧ Q (some (ab_I v)) σ := ab_r_ireturnZ rfl kc_X7_readLine dX7_readLine_153
theorem rX7_readLine_154 : ab_Run X 44 154 (14, 0, 0) [ab_R z] st σ Q ↔ z ≠ 0 ∧ ab_Run X 44 155 (14, 0, 0) [ab_R z] (ab_R z :: st) σ Q := ab_r_aload_n rfl kc_X7_readLine dX7_readLine_154
theorem rX7_readLine_155 : ab_Run X 44 155 (14, 0, 0) L (ab_R a :: st) σ Q ↔ (ab_sh σ a).1 = 8 ∧ ab_Run X 44 158 (14, 0, 0) L (ab_R (ab_rd σ a 0) :: st) σ Q := gF_7_12 ko_X7_readLine kc_X7_readLine dX7_readLine_155
theorem rX7_readLine_158 : ab_Run X 44 158 (14, 0, 0) L st σ Q ↔ ab_Run X 44 160 (14, 0, 0) L (ab_R (-11) :: st) σ Q := ab_r_ldcS (n := 9) rfl ko_X7_readLine (by decide +kernel) (by decide +kernel) rfl kc_X7_readLine dX7_readLine_158
theorem rX7_readLine_160 : ab_Run X 44 160 (14, 0, 0) L (ab_R x1 :: ab_R a :: st) σ Q ↔ ((ab_sh σ a).1 = 10 ∧ ab_cats st ≤ 8) ∧ ab_Do X 73 [ab_R a, ab_R x1] σ (fun r σ' => ab_Run X 44 163 (14, 0, 0) L (ab_psh r st) σ' Q) := ab_r_callV (w := [ab_R x1]) (as := [ab_R x1]) (b1 := (10, 0, 0)) 0 (Or.inl rfl) (by decide) ko_X7_readLine qM_7_68 (by decide) rfl rfl rfl rfl rfl (by decide) (Nat.le_of_ble_eq_true rfl) kc_X7_readLine dX7_readLine_160
theorem rX7_readLine_163 : ab_Run X 44 163 (14, 0, 0) L (ab_I a :: st) σ Q ↔ (a = 0 → ab_Run X 44 195 (14, 0, 0) L st σ Q) ∧ (¬ (a = 0) → ab_Run X 44 166 (14, 0, 0) L st σ Q) := ab_r_if_eq rfl kc_X7_readLine dX7_readLine_163
theorem rX7_readLine_166 : ab_Run X 44 166 (14, 0, 0) [ab_R z] st σ Q ↔ z ≠ 0 ∧ ab_Run X 44 167 (14, 0, 0) [ab_R z] (ab_R z :: st) σ Q := ab_r_aload_n rfl kc_X7_readLine dX7_readLine_166
theorem rX7_readLine_167 : ab_Run X 44 167 (14, 0, 0) [ab_R z] st σ Q ↔ z ≠ 0 ∧ ab_Run X 44 168 (14, 0, 0) [ab_R z] (ab_R z :: st) σ Q := ab_r_aload_n rfl kc_X7_readLine dX7_readLine_167
theorem rX7_readLine_168 : ab_Run X 44 168 (14, 0, 0) L (ab_R a :: st) σ Q ↔ (ab_sh σ a).1 = 8 ∧ ab_Run X 44 171 (14, 0, 0) L (ab_R (ab_rd σ a 1) :: st) σ Q := gF_7_21 ko_X7_readLine kc_X7_readLine dX7_readLine_168
theorem rX7_readLine_171 : ab_Run X 44 171 (14, 0, 0) L (ab_R a :: st) σ Q ↔ (ab_sh σ a).1 = 5 ∧ ab_Run X 44 174 (14, 0, 0) L (ab_I (ab_rd σ a 10) :: st) σ Q := gF_7_99 ko_X7_readLine kc_X7_readLine dX7_readLine_171
theorem rX7_readLine_174 : ab_Run X 44 174 (14, 0, 0) L st σ Q ↔ ab_Run X 44 176 (14, 0, 0) L (ab_I 12 :: st) σ Q := ab_r_bipush (by decide) kc_X7_readLine dX7_readLine_174
theorem rX7_readLine_176 : ab_Run X 44 176 (14, 0, 0) L (ab_I x2 :: ab_I x1 :: ab_R a :: st) σ Q ↔ ((ab_sh σ a).1 = 8 ∧ ab_cats st ≤ 8) ∧ ab_Do X 45 [ab_R a, ab_I x1, ab_I x2] σ (fun r σ' => ab_Run X 44 179 (14, 0, 0) L (ab_psh r st) σ' Q) := ab_r_callV (w := [ab_I x2, ab_I x1]) (as := [ab_I x1, ab_I x2]) (b1 := (2, 0, 0)) 0 (Or.inl rfl) (by decide) ko_X7_readLine qM_7_77 (by decide) rfl rfl rfl rfl rfl (by decide) (Nat.le_of_ble_eq_true rfl) kc_X7_readLine dX7_readLine_176
theorem rX7_readLine_179 : ab_Run X 44 179 (14, 0, 0) L (ab_I a :: st) σ Q ↔ (a = 0 → ab_Run X 44 193 (14, 0, 0) L st σ Q) ∧ (¬ (a = 0) → ab_Run X 44 182 (14, 0, 0) L st σ Q) := ab_r_if_eq rfl kc_X7_readLine dX7_readLine_179
theorem rX7_readLine_182 : ab_Run X 44 182 (14, 0, 0) [ab_R z] st σ Q ↔ z ≠ 0 ∧ ab_Run X 44 183 (14, 0, 0) [ab_R z] (ab_R z :: st) σ Q := ab_r_aload_n rfl kc_X7_readLine dX7_readLine_182
theorem rX7_readLine_183 : ab_Run X 44 183 (14, 0, 0) L (ab_R a :: st) σ Q ↔ ((ab_sh σ a).1 = 8 ∧ ab_cats st ≤ 8) ∧ ab_Do X 51 [ab_R a] σ (fun r σ' => ab_Run X 44 186 (14, 0, 0) L (ab_psh r st) σ' Q) := ab_r_callV (w := []) (as := []) (b1 := (13, 0, 0)) 0 (Or.inl rfl) (by decide) ko_X7_readLine qM_7_102 (by decide) rfl rfl rfl rfl rfl (by decide) (Nat.le_of_ble_eq_true rfl) kc_X7_readLine dX7_readLine_183
theorem rX7_readLine_186 : ab_Run X 44 186 (14, 0, 0) L (ab_I a :: st) σ Q ↔ (a = 0 → ab_Run X 44 193 (14, 0, 0) L st σ Q) ∧ (¬ (a = 0) → ab_Run X 44 189 (14, 0, 0) L st σ Q) := ab_r_if_eq rfl kc_X7_readLine dX7_readLine_186
theorem rX7_readLine_189 : ab_Run X 44 189 (14, 0, 0) L st σ Q ↔ ab_Run X 44 190 (14, 0, 0) L (ab_I 1 :: st) σ Q := ab_r_iconst (by decide) kc_X7_readLine dX7_readLine_189
theorem rX7_readLine_190 : ab_Run X 44 190 (14, 0, 0) L st σ Q ↔ ab_Run X 44 194 (14, 0, 0) L st σ Q := ab_r_goto rfl kc_X7_readLine dX7_readLine_190
theorem rX7_readLine_193 : ab_Run X 44 193 (14, 0, 0) L st σ Q ↔ ab_Run X 44 194 (14, 0, 0) L (ab_I 0 :: st) σ Q := ab_r_iconst (by decide) kc_X7_readLine dX7_readLine_193
theorem rX7_readLine_194 : ab_Run X 44 194 (14, 0, 0) L [ab_I v] σ Q ↔ (v = 0 ∨ v = 1) ∧ Q (some (ab_I v)) σ := ab_r_ireturnZ rfl kc_X7_readLine dX7_readLine_194
theorem rX7_readLine_195 : ab_Run X 44 195 (14, 0, 0) [ab_R z] st σ Q ↔ z ≠ 0 ∧ ab_Run X 44 196 (14, 0, 0) [ab_R z] (ab_R z :: st) σ Q := ab_r_aload_n rfl kc_X7_readLine dX7_readLine_195
theorem rX7_readLine_196 : ab_Run X 44 196 (14, 0, 0) L (ab_R a :: st) σ Q ↔ (ab_sh σ a).1 = 8 ∧ ab_Run X 44 199 (14, 0, 0) L (ab_R (ab_rd σ a 0) :: st) σ Q := gF_7_12 ko_X7_readLine kc_X7_readLine dX7_readLine_196
theorem rX7_readLine_199 : ab_Run X 44 199 (14, 0, 0) L st σ Q ↔ ab_Run X 44 201 (14, 0, 0) L (ab_R (-12) :: st) σ Q := ab_r_ldcS (n := 10) rfl ko_X7_readLine (by decide +kernel) (by decide +kernel) rfl kc_X7_readLine dX7_readLine_199
theorem rX7_readLine_201 : ab_Run X 44 201 (14, 0, 0) L (ab_R x1 :: ab_R a :: st) σ Q ↔ ((ab_sh σ a).1 = 10 ∧ ab_cats st ≤ 8) ∧ ab_Do X 73 [ab_R a, ab_R x1] σ (fun r σ' => ab_Run X 44 204 (14, 0, 0) L (ab_psh r st) σ' Q) := ab_r_callV (w := [ab_R x1]) (as := [ab_R x1]) (b1 := (10, 0, 0)) 0 (Or.inl rfl) (by decide) ko_X7_readLine qM_7_68 (by decide) rfl rfl rfl rfl rfl (by decide) (Nat.le_of_ble_eq_true rfl) kc_X7_readLine dX7_readLine_201
theorem rX7_readLine_204 : ab_Run X 44 204 (14, 0, 0) L (ab_I a :: st) σ Q ↔ (a = 0 → ab_Run X 44 235 (14, 0, 0) L st σ Q) ∧ (¬ (a = 0) → ab_Run X 44 207 (14, 0, 0) L st σ Q) := ab_r_if_eq rfl kc_X7_readLine dX7_readLine_204
theorem rX7_readLine_207 : ab_Run X 44 207 (14, 0, 0) [ab_R z] st σ Q ↔ z ≠ 0 ∧ ab_Run X 44 208 (14, 0, 0) [ab_R z] (ab_R z :: st) σ Q := ab_r_aload_n rfl kc_X7_readLine dX7_readLine_207
theorem rX7_readLine_208 : ab_Run X 44 208 (14, 0, 0) [ab_R z] st σ Q ↔ z ≠ 0 ∧ ab_Run X 44 209 (14, 0, 0) [ab_R z] (ab_R z :: st) σ Q := ab_r_aload_n rfl kc_X7_readLine dX7_readLine_208
theorem rX7_readLine_209 : ab_Run X 44 209 (14, 0, 0) L (ab_R a :: st) σ Q ↔ (ab_sh σ a).1 = 8 ∧ ab_Run X 44 212 (14, 0, 0) L (ab_R (ab_rd σ a 1) :: st) σ Q := gF_7_21 ko_X7_readLine kc_X7_readLine dX7_readLine_209
theorem rX7_readLine_212 : ab_Run X 44 212 (14, 0, 0) L (ab_R a :: st) σ Q ↔ (ab_sh σ a).1 = 5 ∧ ab_Run X 44 215 (14, 0, 0) L (ab_I (ab_rd σ a 12) :: st) σ Q := gF_7_107 ko_X7_readLine kc_X7_readLine dX7_readLine_212
theorem rX7_readLine_215 : ab_Run X 44 215 (14, 0, 0) L st σ Q ↔ ab_Run X 44 216 (14, 0, 0) L (ab_I 4 :: st) σ Q := ab_r_iconst (by decide) kc_X7_readLine dX7_readLine_215
theorem rX7_readLine_216 : ab_Run X 44 216 (14, 0, 0) L (ab_I x2 :: ab_I x1 :: ab_R a :: st) σ Q ↔ ((ab_sh σ a).1 = 8 ∧ ab_cats st ≤ 8) ∧ ab_Do X 45 [ab_R a, ab_I x1, ab_I x2] σ (fun r σ' => ab_Run X 44 219 (14, 0, 0) L (ab_psh r st) σ' Q) := ab_r_callV (w := [ab_I x2, ab_I x1]) (as := [ab_I x1, ab_I x2]) (b1 := (2, 0, 0)) 0 (Or.inl rfl) (by decide) ko_X7_readLine qM_7_77 (by decide) rfl rfl rfl rfl rfl (by decide) (Nat.le_of_ble_eq_true rfl) kc_X7_readLine dX7_readLine_216
theorem rX7_readLine_219 : ab_Run X 44 219 (14, 0, 0) L (ab_I a :: st) σ Q ↔ (a = 0 → ab_Run X 44 233 (14, 0, 0) L st σ Q) ∧ (¬ (a = 0) → ab_Run X 44 222 (14, 0, 0) L st σ Q) := ab_r_if_eq rfl kc_X7_readLine dX7_readLine_219
theorem rX7_readLine_222 : ab_Run X 44 222 (14, 0, 0) [ab_R z] st σ Q ↔ z ≠ 0 ∧ ab_Run X 44 223 (14, 0, 0) [ab_R z] (ab_R z :: st) σ Q := ab_r_aload_n rfl kc_X7_readLine dX7_readLine_222
theorem rX7_readLine_223 : ab_Run X 44 223 (14, 0, 0) L (ab_R a :: st) σ Q ↔ ((ab_sh σ a).1 = 8 ∧ ab_cats st ≤ 8) ∧ ab_Do X 52 [ab_R a] σ (fun r σ' => ab_Run X 44 226 (14, 0, 0) L (ab_psh r st) σ' Q) := ab_r_callV (w := []) (as := []) (b1 := (12, 0, 0)) 0 (Or.inl rfl) (by decide) ko_X7_readLine qM_7_110 (by decide) rfl rfl rfl rfl rfl (by decide) (Nat.le_of_ble_eq_true rfl) kc_X7_readLine dX7_readLine_223
theorem rX7_readLine_226 : ab_Run X 44 226 (14, 0, 0) L (ab_I a :: st) σ Q ↔ (a = 0 → ab_Run X 44 233 (14, 0, 0) L st σ Q) ∧ (¬ (a = 0) → ab_Run X 44 229 (14, 0, 0) L st σ Q) := ab_r_if_eq rfl kc_X7_readLine dX7_readLine_226
theorem rX7_readLine_229 : ab_Run X 44 229 (14, 0, 0) L st σ Q ↔ ab_Run X 44 230 (14, 0, 0) L (ab_I 1 :: st) σ Q := ab_r_iconst (by decide) kc_X7_readLine dX7_readLine_229
theorem rX7_readLine_230 : ab_Run X 44 230 (14, 0, 0) L st σ Q ↔ ab_Run X 44 234 (14, 0, 0) L st σ Q := ab_r_goto rfl kc_X7_readLine dX7_readLine_230
theorem rX7_readLine_233 : ab_Run X 44 233 (14, 0, 0) L st σ Q ↔ ab_Run X 44 234 (14, 0, 0) L (ab_I 0 :: st) σ Q := ab_r_iconst (by decide) kc_X7_readLine dX7_readLine_233
theorem rX7_readLine_234 : ab_Run X 44 234 (14, 0, 0) L [ab_I v] σ Q ↔ (v = 0 ∨ v = 1) ∧ Q (some (ab_I v)) σ := ab_r_ireturnZ rfl kc_X7_readLine dX7_readLine_234
theorem rX7_readLine_235 : ab_Run X 44 235 (14, 0, 0) [ab_R z] st σ Q ↔ z ≠ 0 ∧ ab_Run X 44 236 (14, 0, 0) [ab_R z] (ab_R z :: st) σ Q := ab_r_aload_n rfl kc_X7_readLine dX7_readLine_235
theorem rX7_readLine_236 : ab_Run X 44 236 (14, 0, 0) L (ab_R a :: st) σ Q ↔ (ab_sh σ a).1 = 8 ∧ ab_Run X 44 239 (14, 0, 0) L (ab_R (ab_rd σ a 0) :: st) σ Q := gF_7_12 ko_X7_readLine kc_X7_readLine dX7_readLine_236
theorem rX7_readLine_239 : ab_Run X 44 239 (14, 0, 0) L st σ Q ↔ ab_Run X 44 241 (14, 0, 0) L (ab_R (-13) :: st) σ Q := ab_r_ldcS (n := 11) rfl ko_X7_readLine (by decide +kernel) (by decide +kernel) rfl kc_X7_readLine dX7_readLine_239
theorem rX7_readLine_241 : ab_Run X 44 241 (14, 0, 0) L (ab_R x1 :: ab_R a :: st) σ Q ↔ ((ab_sh σ a).1 = 10 ∧ ab_cats st ≤ 8) ∧ ab_Do X 73 [ab_R a, ab_R x1] σ (fun r σ' => ab_Run X 44 244 (14, 0, 0) L (ab_psh r st) σ' Q) := ab_r_callV (w := [ab_R x1]) (as := [ab_R x1]) (b1 := (10, 0, 0)) 0 (Or.inl rfl) (by decide) ko_X7_readLine qM_7_68 (by decide) rfl rfl rfl rfl rfl (by decide) (Nat.le_of_ble_eq_true rfl) kc_X7_readLine dX7_readLine_241
theorem rX7_readLine_244 : ab_Run X 44 244 (14, 0, 0) L (ab_I a :: st) σ Q ↔ (a = 0 → ab_Run X 44 269 (14, 0, 0) L st σ Q) ∧ (¬ (a = 0) → ab_Run X 44 247 (14, 0, 0) L st σ Q) := ab_r_if_eq rfl kc_X7_readLine dX7_readLine_244
theorem rX7_readLine_247 : ab_Run X 44 247 (14, 0, 0) [ab_R z] st σ Q ↔ z ≠ 0 ∧ ab_Run X 44 248 (14, 0, 0) [ab_R z] (ab_R z :: st) σ Q := ab_r_aload_n rfl kc_X7_readLine dX7_readLine_247
theorem rX7_readLine_248 : ab_Run X 44 248 (14, 0, 0) L st σ Q ↔ ab_Run X 44 249 (14, 0, 0) L (ab_I 0 :: st) σ Q := ab_r_iconst (by decide) kc_X7_readLine dX7_readLine_248
theorem rX7_readLine_249 : ab_Run X 44 249 (14, 0, 0) L st σ Q ↔ ab_Run X 44 250 (14, 0, 0) L (ab_I 1 :: st) σ Q := ab_r_iconst (by decide) kc_X7_readLine dX7_readLine_249
theorem rX7_readLine_250 : ab_Run X 44 250 (14, 0, 0) L (ab_I x2 :: ab_I x1 :: ab_R a :: st) σ Q ↔ ((ab_sh σ a).1 = 8 ∧ ab_cats st ≤ 8) ∧ ab_Do X 45 [ab_R a, ab_I x1, ab_I x2] σ (fun r σ' => ab_Run X 44 253 (14, 0, 0) L (ab_psh r st) σ' Q) := ab_r_callV (w := [ab_I x2, ab_I x1]) (as := [ab_I x1, ab_I x2]) (b1 := (2, 0, 0)) 0 (Or.inl rfl) (by decide) ko_X7_readLine qM_7_77 (by decide) rfl rfl rfl rfl rfl (by decide) (Nat.le_of_ble_eq_true rfl) kc_X7_readLine dX7_readLine_250
theorem rX7_readLine_253 : ab_Run X 44 253 (14, 0, 0) L (ab_I a :: st) σ Q ↔ (a = 0 → ab_Run X 44 267 (14, 0, 0) L st σ Q) ∧ (¬ (a = 0) → ab_Run X 44 256 (14, 0, 0) L st σ Q) := ab_r_if_eq rfl kc_X7_readLine dX7_readLine_253
theorem rX7_readLine_256 : ab_Run X 44 256 (14, 0, 0) [ab_R z] st σ Q ↔ z ≠ 0 ∧ ab_Run X 44 257 (14, 0, 0) [ab_R z] (ab_R z :: st) σ Q := ab_r_aload_n rfl kc_X7_readLine dX7_readLine_256
theorem rX7_readLine_257 : ab_Run X 44 257 (14, 0, 0) L (ab_R a :: st) σ Q ↔ ((ab_sh σ a).1 = 8 ∧ ab_cats st ≤ 8) ∧ ab_Do X 53 [ab_R a] σ (fun r σ' => ab_Run X 44 260 (14, 0, 0) L (ab_psh r st) σ' Q) := ab_r_callV (w := []) (as := []) (b1 := (13, 0, 0)) 0 (Or.inl rfl) (by decide) ko_X7_readLine qM_7_115 (by decide) rfl rfl rfl rfl rfl (by decide) (Nat.le_of_ble_eq_true rfl) kc_X7_readLine dX7_readLine_257
theorem rX7_readLine_260 : ab_Run X 44 260 (14, 0, 0) L (ab_I a :: st) σ Q ↔ (a = 0 → ab_Run X 44 267 (14, 0, 0) L st σ Q) ∧ (¬ (a = 0) → ab_Run X 44 263 (14, 0, 0) L st σ Q) := ab_r_if_eq rfl kc_X7_readLine dX7_readLine_260
theorem rX7_readLine_263 : ab_Run X 44 263 (14, 0, 0) L st σ Q ↔ ab_Run X 44 264 (14, 0, 0) L (ab_I 1 :: st) σ Q := ab_r_iconst (by decide) kc_X7_readLine dX7_readLine_263
theorem rX7_readLine_264 : ab_Run X 44 264 (14, 0, 0) L st σ Q ↔ ab_Run X 44 268 (14, 0, 0) L st σ Q := ab_r_goto rfl kc_X7_readLine dX7_readLine_264
theorem rX7_readLine_267 : ab_Run X 44 267 (14, 0, 0) L st σ Q ↔ ab_Run X 44 268 (14, 0, 0) L (ab_I 0 :: st) σ Q := ab_r_iconst (by decide) kc_X7_readLine dX7_readLine_267
theorem rX7_readLine_268 : ab_Run X 44 268 (14, 0, 0) L [ab_I v] σ Q ↔ (v = 0 ∨ v = 1) ∧ Q (some (ab_I v)) σ := ab_r_ireturnZ rfl kc_X7_readLine dX7_readLine_268
theorem rX7_readLine_269 : ab_Run X 44 269 (14, 0, 0) [ab_R z] st σ Q ↔ z ≠ 0 ∧ ab_Run X 44 270 (14, 0, 0) [ab_R z] (ab_R z :: st) σ Q := ab_r_aload_n rfl kc_X7_readLine dX7_readLine_269
theorem rX7_readLine_270 : ab_Run X 44 270 (14, 0, 0) L st σ Q ↔ ab_Run X 44 271 (14, 0, 0) L (ab_I 1 :: st) σ Q := ab_r_iconst (by decide) kc_X7_readLine dX7_readLine_270
theorem rX7_readLine_271 : ab_Run X 44 271 (14, 0, 0) L (ab_I x1 :: ab_R a :: st) σ Q ↔ ((ab_sh σ a).1 = 8 ∧ ab_cats st ≤ 8) ∧ ab_Do X 43 [ab_R a, ab_I x1] σ (fun r σ' => ab_Run X 44 274 (14, 0, 0) L (ab_psh r st) σ' Q) := ab_r_callV (w := [ab_I x1]) (as := [ab_I x1]) (b1 := (0, 0, 0)) 0 (Or.inl rfl) (by decide) ko_X7_readLine qM_7_56 (by decide) rfl rfl rfl rfl rfl (by decide) (Nat.le_of_ble_eq_true rfl) kc_X7_readLine dX7_readLine_271
theorem rX7_readLine_274 : ab_Run X 44 274 (14, 0, 0) L [ab_I v] σ Q ↔ (v = 0 ∨ v = 1) ∧ Q (some (ab_I v)) σ := ab_r_ireturnZ rfl kc_X7_readLine dX7_readLine_274
theorem kc_X7_enter : ab_code 45 = cX7_enter := rfl
theorem ko_X7_enter : ab_ow 45 = 7 := rfl
theorem rX7_enter_0 : ab_Run X 45 0 (2, 0, 0) [ab_R z, l1, l2] st σ Q ↔ z ≠ 0 ∧ ab_Run X 45 1 (2, 0, 0) [ab_R z, l1, l2] (ab_R z :: st) σ Q := ab_r_aload_n rfl kc_X7_enter dX7_enter_0
theorem rX7_enter_1 : ab_Run X 45 1 (2, 0, 0) L (ab_R a :: st) σ Q ↔ (ab_sh σ a).1 = 8 ∧ ab_Run X 45 4 (2, 0, 0) L (ab_I (ab_rd σ a 4) :: st) σ Q := gF_7_35 ko_X7_enter kc_X7_enter dX7_enter_1
theorem rX7_enter_4 : ab_Run X 45 4 (2, 0, 0) L (ab_I a :: st) σ Q ↔ (¬ a = 0 → ab_Run X 45 14 (2, 0, 0) L st σ Q) ∧ (¬ (¬ a = 0) → ab_Run X 45 7 (2, 0, 0) L st σ Q) := ab_r_if_ne rfl kc_X7_enter dX7_enter_4
theorem rX7_enter_7 : ab_Run X 45 7 (2, 0, 0) [ab_R z, l1, l2] st σ Q ↔ z ≠ 0 ∧ ab_Run X 45 8 (2, 0, 0) [ab_R z, l1, l2] (ab_R z :: st) σ Q := ab_r_aload_n rfl kc_X7_enter dX7_enter_7
theorem rX7_enter_8 : ab_Run X 45 8 (2, 0, 0) L st σ Q ↔ ab_Run X 45 10 (2, 0, 0) L (ab_I 6 :: st) σ Q := ab_r_bipush (by decide) kc_X7_enter dX7_enter_8
theorem rX7_enter_10 : ab_Run X 45 10 (2, 0, 0) L (ab_I x1 :: ab_R a :: st) σ Q ↔ ((ab_sh σ a).1 = 8 ∧ ab_cats st ≤ 8) ∧ ab_Do X 43 [ab_R a, ab_I x1] σ (fun r σ' => ab_Run X 45 13 (2, 0, 0) L (ab_psh r st) σ' Q) := ab_r_callV (w := [ab_I x1]) (as := [ab_I x1]) (b1 := (0, 0, 0)) 0 (Or.inl rfl) (by decide) ko_X7_enter qM_7_56 (by decide) rfl rfl rfl rfl rfl (by decide) (Nat.le_of_ble_eq_true rfl) kc_X7_enter dX7_enter_10
theorem rX7_enter_13 : ab_Run X 45 13 (2, 0, 0) L [ab_I v] σ Q ↔ (v = 0 ∨ v = 1) ∧ Q (some (ab_I v)) σ := ab_r_ireturnZ rfl kc_X7_enter dX7_enter_13
theorem rX7_enter_14 : ab_Run X 45 14 (2, 0, 0) [l0, ab_I z, l2] st σ Q ↔ ab_Run X 45 15 (2, 0, 0) [l0, ab_I z, l2] (ab_I z :: st) σ Q := ab_r_iload_n rfl kc_X7_enter dX7_enter_14
theorem rX7_enter_15 : ab_Run X 45 15 (2, 0, 0) [l0, l1, ab_I z] st σ Q ↔ ab_Run X 45 16 (2, 0, 0) [l0, l1, ab_I z] (ab_I z :: st) σ Q := ab_r_iload_n rfl kc_X7_enter dX7_enter_15
theorem rX7_enter_16 : ab_Run X 45 16 (2, 0, 0) L (ab_I b :: ab_I a :: st) σ Q ↔ (a < b → ab_Run X 45 25 (2, 0, 0) L st σ Q) ∧ (¬ (a < b) → ab_Run X 45 19 (2, 0, 0) L st σ Q) := ab_r_icmp_lt rfl kc_X7_enter dX7_enter_16
theorem rX7_enter_19 : ab_Run X 45 19 (2, 0, 0) [ab_R z, l1, l2] st σ Q ↔ z ≠ 0 ∧ ab_Run X 45 20 (2, 0, 0) [ab_R z, l1, l2] (ab_R z :: st) σ Q := ab_r_aload_n rfl kc_X7_enter dX7_enter_19
theorem rX7_enter_20 : ab_Run X 45 20 (2, 0, 0) L st σ Q ↔ ab_Run X 45 21 (2, 0, 0) L (ab_I 5 :: st) σ Q := ab_r_iconst (by decide) kc_X7_enter dX7_enter_20
theorem rX7_enter_21 : ab_Run X 45 21 (2, 0, 0) L (ab_I x1 :: ab_R a :: st) σ Q ↔ ((ab_sh σ a).1 = 8 ∧ ab_cats st ≤ 8) ∧ ab_Do X 43 [ab_R a, ab_I x1] σ (fun r σ' => ab_Run X 45 24 (2, 0, 0) L (ab_psh r st) σ' Q) := ab_r_callV (w := [ab_I x1]) (as := [ab_I x1]) (b1 := (0, 0, 0)) 0 (Or.inl rfl) (by decide) ko_X7_enter qM_7_56 (by decide) rfl rfl rfl rfl rfl (by decide) (Nat.le_of_ble_eq_true rfl) kc_X7_enter dX7_enter_21
theorem rX7_enter_24 : ab_Run X 45 24 (2, 0, 0) L [ab_I v] σ Q ↔ (v = 0 ∨ v = 1) ∧ Q (some (ab_I v)) σ := ab_r_ireturnZ rfl kc_X7_enter dX7_enter_24
theorem rX7_enter_25 : ab_Run X 45 25 (2, 0, 0) [ab_R z, l1, l2] st σ Q ↔ z ≠ 0 ∧ ab_Run X 45 26 (2, 0, 0) [ab_R z, l1, l2] (ab_R z :: st) σ Q := ab_r_aload_n rfl kc_X7_enter dX7_enter_25
theorem rX7_enter_26 : ab_Run X 45 26 (2, 0, 0) L (ab_R a :: st) σ Q ↔ (ab_sh σ a).1 = 8 ∧ ab_Run X 45 29 (2, 0, 0) L (ab_R (ab_rd σ a 0) :: st) σ Q := gF_7_12 ko_X7_enter kc_X7_enter dX7_enter_26
theorem rX7_enter_29 : ab_Run X 45 29 (2, 0, 0) L (ab_R a :: st) σ Q ↔ ((ab_sh σ a).1 = 10 ∧ ab_cats st ≤ 8) ∧ ab_Do X 70 [ab_R a] σ (fun r σ' => ab_Run X 45 32 (2, 0, 0) L (ab_psh r st) σ' Q) := ab_r_callV (w := []) (as := []) (b1 := (1, 0, 0)) 0 (Or.inl rfl) (by decide) ko_X7_enter qM_7_60 (by decide) rfl rfl rfl rfl rfl (by decide) (Nat.le_of_ble_eq_true rfl) kc_X7_enter dX7_enter_29
theorem rX7_enter_32 : ab_Run X 45 32 (2, 0, 0) L st σ Q ↔ ab_Run X 45 33 (2, 0, 0) L (ab_I 1 :: st) σ Q := ab_r_iconst (by decide) kc_X7_enter dX7_enter_32
theorem rX7_enter_33 : ab_Run X 45 33 (2, 0, 0) L [ab_I v] σ Q ↔ (v = 0 ∨ v = 1) ∧ Q (some (ab_I v)) σ := ab_r_ireturnZ rfl kc_X7_enter dX7_enter_33
theorem kc_X7_readRules : ab_code 46 = cX7_readRules := rfl
theorem ko_X7_readRules : ab_ow 46 = 7 := rfl
theorem rX7_readRules_0 : ab_Run X 46 0 (13, 0, 0) [ab_R z] st σ Q ↔ z ≠ 0 ∧ ab_Run X 46 1 (13, 0, 0) [ab_R z] (ab_R z :: st) σ Q := ab_r_aload_n rfl kc_X7_readRules dX7_readRules_0
theorem rX7_readRules_1 : ab_Run X 46 1 (13, 0, 0) L st σ Q ↔ ab_Run X 46 2 (13, 0, 0) L (ab_I 1 :: st) σ Q := ab_r_iconst (by decide) kc_X7_readRules dX7_readRules_1
theorem rX7_readRules_2 : ab_Run X 46 2 (13, 0, 0) L (ab_I z :: ab_R a :: st) σ Q ↔ ((ab_sh σ a).1 = 8 ∧ (z = 0 ∨ z = 1)) ∧ ab_Run X 46 5 (13, 0, 0) L st (ab_wr σ a 4 z) Q := sF_7_35 ko_X7_readRules kc_X7_readRules dX7_readRules_2
theorem rX7_readRules_5 : ab_Run X 46 5 (13, 0, 0) [ab_R z] st σ Q ↔ z ≠ 0 ∧ ab_Run X 46 6 (13, 0, 0) [ab_R z] (ab_R z :: st) σ Q := ab_r_aload_n rfl kc_X7_readRules dX7_readRules_5
theorem rX7_readRules_6 : ab_Run X 46 6 (13, 0, 0) L (ab_R a :: st) σ Q ↔ (ab_sh σ a).1 = 8 ∧ ab_Run X 46 9 (13, 0, 0) L (ab_R (ab_rd σ a 0) :: st) σ Q := gF_7_12 ko_X7_readRules kc_X7_readRules dX7_readRules_6
theorem rX7_readRules_9 : ab_Run X 46 9 (13, 0, 0) L (ab_R a :: st) σ Q ↔ ((ab_sh σ a).1 = 10 ∧ ab_cats st ≤ 8) ∧ ab_Do X 70 [ab_R a] σ (fun r σ' => ab_Run X 46 12 (13, 0, 0) L (ab_psh r st) σ' Q) := ab_r_callV (w := []) (as := []) (b1 := (1, 0, 0)) 0 (Or.inl rfl) (by decide) ko_X7_readRules qM_7_60 (by decide) rfl rfl rfl rfl rfl (by decide) (Nat.le_of_ble_eq_true rfl) kc_X7_readRules dX7_readRules_9
theorem rX7_readRules_12 : ab_Run X 46 12 (13, 0, 0) [ab_R z] st σ Q ↔ z ≠ 0 ∧ ab_Run X 46 13 (13, 0, 0) [ab_R z] (ab_R z :: st) σ Q := ab_r_aload_n rfl kc_X7_readRules dX7_readRules_12
theorem rX7_readRules_13 : ab_Run X 46 13 (13, 0, 0) L st σ Q ↔ ab_Run X 46 15 (13, 0, 0) L (ab_R (-3) :: st) σ Q := ab_r_ldcS (n := 1) rfl ko_X7_readRules (by decide +kernel) (by decide +kernel) rfl kc_X7_readRules dX7_readRules_13
theorem rX7_readRules_15 : ab_Run X 46 15 (13, 0, 0) L st σ Q ↔ ab_Run X 46 16 (13, 0, 0) L (ab_I 0 :: st) σ Q := ab_r_iconst (by decide) kc_X7_readRules dX7_readRules_15
theorem rX7_readRules_16 : ab_Run X 46 16 (13, 0, 0) L st σ Q ↔ ab_Run X 46 18 (13, 0, 0) L (ab_I 9 :: st) σ Q := ab_r_bipush (by decide) kc_X7_readRules dX7_readRules_16
theorem rX7_readRules_18 : ab_Run X 46 18 (13, 0, 0) L (ab_I x3 :: ab_I x2 :: ab_R x1 :: ab_R a :: st) σ Q ↔ ((ab_sh σ a).1 = 8 ∧ ab_cats st ≤ 8) ∧ ab_Do X 55 [ab_R a, ab_R x1, ab_I x2, ab_I x3] σ (fun r σ' => ab_Run X 46 21 (13, 0, 0) L (ab_psh r st) σ' Q) := ab_r_callV (w := [ab_I x3, ab_I x2, ab_R x1]) (as := [ab_R x1, ab_I x2, ab_I x3]) (b1 := (12, 0, 0)) 0 (Or.inl rfl) (by decide) ko_X7_readRules qM_7_120 (by decide) rfl rfl rfl rfl rfl (by decide) (Nat.le_of_ble_eq_true rfl) kc_X7_readRules dX7_readRules_18
theorem rX7_readRules_21 : ab_Run X 46 21 (13, 0, 0) L (ab_I a :: st) σ Q ↔ (¬ a = 0 → ab_Run X 46 26 (13, 0, 0) L st σ Q) ∧ (¬ (¬ a = 0) → ab_Run X 46 24 (13, 0, 0) L st σ Q) := ab_r_if_ne rfl kc_X7_readRules dX7_readRules_21
theorem rX7_readRules_24 : ab_Run X 46 24 (13, 0, 0) L st σ Q ↔ ab_Run X 46 25 (13, 0, 0) L (ab_I 0 :: st) σ Q := ab_r_iconst (by decide) kc_X7_readRules dX7_readRules_24
theorem rX7_readRules_25 : ab_Run X 46 25 (13, 0, 0) L [ab_I v] σ Q ↔ (v = 0 ∨ v = 1) ∧ Q (some (ab_I v)) σ := ab_r_ireturnZ rfl kc_X7_readRules dX7_readRules_25
theorem rX7_readRules_26 : ab_Run X 46 26 (13, 0, 0) [ab_R z] st σ Q ↔ z ≠ 0 ∧ ab_Run X 46 27 (13, 0, 0) [ab_R z] (ab_R z :: st) σ Q := ab_r_aload_n rfl kc_X7_readRules dX7_readRules_26
theorem rX7_readRules_27 : ab_Run X 46 27 (13, 0, 0) L (ab_R a :: st) σ Q ↔ (ab_sh σ a).1 = 8 ∧ ab_Run X 46 30 (13, 0, 0) L (ab_R (ab_rd σ a 1) :: st) σ Q := gF_7_21 ko_X7_readRules kc_X7_readRules dX7_readRules_27
theorem rX7_readRules_30 : ab_Run X 46 30 (13, 0, 0) [ab_R z] st σ Q ↔ z ≠ 0 ∧ ab_Run X 46 31 (13, 0, 0) [ab_R z] (ab_R z :: st) σ Q := ab_r_aload_n rfl kc_X7_readRules dX7_readRules_30
theorem rX7_readRules_31 : ab_Run X 46 31 (13, 0, 0) L (ab_R a :: st) σ Q ↔ (ab_sh σ a).1 = 8 ∧ ab_Run X 46 34 (13, 0, 0) L (ab_I (ab_rd σ a 5) :: st) σ Q := gF_7_124 ko_X7_readRules kc_X7_readRules dX7_readRules_31
theorem rX7_readRules_34 : ab_Run X 46 34 (13, 0, 0) L (ab_I z :: ab_R a :: st) σ Q ↔ (ab_sh σ a).1 = 5 ∧ ab_Run X 46 37 (13, 0, 0) L st (ab_wr σ a 0 z) Q := sF_7_127 ko_X7_readRules kc_X7_readRules dX7_readRules_34
theorem rX7_readRules_37 : ab_Run X 46 37 (13, 0, 0) [ab_R z] st σ Q ↔ z ≠ 0 ∧ ab_Run X 46 38 (13, 0, 0) [ab_R z] (ab_R z :: st) σ Q := ab_r_aload_n rfl kc_X7_readRules dX7_readRules_37
theorem rX7_readRules_38 : ab_Run X 46 38 (13, 0, 0) L st σ Q ↔ ab_Run X 46 40 (13, 0, 0) L (ab_R (-4) :: st) σ Q := ab_r_ldcS (n := 2) rfl ko_X7_readRules (by decide +kernel) (by decide +kernel) rfl kc_X7_readRules dX7_readRules_38
theorem rX7_readRules_40 : ab_Run X 46 40 (13, 0, 0) L st σ Q ↔ ab_Run X 46 42 (13, 0, 0) L (ab_I 25 :: st) σ Q := ab_r_bipush (by decide) kc_X7_readRules dX7_readRules_40
theorem rX7_readRules_42 : ab_Run X 46 42 (13, 0, 0) L st σ Q ↔ ab_Run X 46 44 (13, 0, 0) L (ab_I 60 :: st) σ Q := ab_r_bipush (by decide) kc_X7_readRules dX7_readRules_42
theorem rX7_readRules_44 : ab_Run X 46 44 (13, 0, 0) L (ab_I x3 :: ab_I x2 :: ab_R x1 :: ab_R a :: st) σ Q ↔ ((ab_sh σ a).1 = 8 ∧ ab_cats st ≤ 8) ∧ ab_Do X 55 [ab_R a, ab_R x1, ab_I x2, ab_I x3] σ (fun r σ' => ab_Run X 46 47 (13, 0, 0) L (ab_psh r st) σ' Q) := ab_r_callV (w := [ab_I x3, ab_I x2, ab_R x1]) (as := [ab_R x1, ab_I x2, ab_I x3]) (b1 := (12, 0, 0)) 0 (Or.inl rfl) (by decide) ko_X7_readRules qM_7_120 (by decide) rfl rfl rfl rfl rfl (by decide) (Nat.le_of_ble_eq_true rfl) kc_X7_readRules dX7_readRules_44
theorem rX7_readRules_47 : ab_Run X 46 47 (13, 0, 0) L (ab_I a :: st) σ Q ↔ (¬ a = 0 → ab_Run X 46 52 (13, 0, 0) L st σ Q) ∧ (¬ (¬ a = 0) → ab_Run X 46 50 (13, 0, 0) L st σ Q) := ab_r_if_ne rfl kc_X7_readRules dX7_readRules_47
theorem rX7_readRules_50 : ab_Run X 46 50 (13, 0, 0) L st σ Q ↔ ab_Run X 46 51 (13, 0, 0) L (ab_I 0 :: st) σ Q := ab_r_iconst (by decide) kc_X7_readRules dX7_readRules_50
theorem rX7_readRules_51 : ab_Run X 46 51 (13, 0, 0) L [ab_I v] σ Q ↔ (v = 0 ∨ v = 1) ∧ Q (some (ab_I v)) σ := ab_r_ireturnZ rfl kc_X7_readRules dX7_readRules_51
theorem rX7_readRules_52 : ab_Run X 46 52 (13, 0, 0) [ab_R z] st σ Q ↔ z ≠ 0 ∧ ab_Run X 46 53 (13, 0, 0) [ab_R z] (ab_R z :: st) σ Q := ab_r_aload_n rfl kc_X7_readRules dX7_readRules_52
theorem rX7_readRules_53 : ab_Run X 46 53 (13, 0, 0) L (ab_R a :: st) σ Q ↔ (ab_sh σ a).1 = 8 ∧ ab_Run X 46 56 (13, 0, 0) L (ab_R (ab_rd σ a 1) :: st) σ Q := gF_7_21 ko_X7_readRules kc_X7_readRules dX7_readRules_53
theorem rX7_readRules_56 : ab_Run X 46 56 (13, 0, 0) [ab_R z] st σ Q ↔ z ≠ 0 ∧ ab_Run X 46 57 (13, 0, 0) [ab_R z] (ab_R z :: st) σ Q := ab_r_aload_n rfl kc_X7_readRules dX7_readRules_56
theorem rX7_readRules_57 : ab_Run X 46 57 (13, 0, 0) L (ab_R a :: st) σ Q ↔ (ab_sh σ a).1 = 8 ∧ ab_Run X 46 60 (13, 0, 0) L (ab_I (ab_rd σ a 5) :: st) σ Q := gF_7_124 ko_X7_readRules kc_X7_readRules dX7_readRules_57
theorem rX7_readRules_60 : ab_Run X 46 60 (13, 0, 0) L (ab_I z :: ab_R a :: st) σ Q ↔ (ab_sh σ a).1 = 5 ∧ ab_Run X 46 63 (13, 0, 0) L st (ab_wr σ a 1 z) Q := sF_7_131 ko_X7_readRules kc_X7_readRules dX7_readRules_60
theorem rX7_readRules_63 : ab_Run X 46 63 (13, 0, 0) [ab_R z] st σ Q ↔ z ≠ 0 ∧ ab_Run X 46 64 (13, 0, 0) [ab_R z] (ab_R z :: st) σ Q := ab_r_aload_n rfl kc_X7_readRules dX7_readRules_63
theorem rX7_readRules_64 : ab_Run X 46 64 (13, 0, 0) L st σ Q ↔ ab_Run X 46 66 (13, 0, 0) L (ab_R (-5) :: st) σ Q := ab_r_ldcS (n := 3) rfl ko_X7_readRules (by decide +kernel) (by decide +kernel) rfl kc_X7_readRules dX7_readRules_64
theorem rX7_readRules_66 : ab_Run X 46 66 (13, 0, 0) L st σ Q ↔ ab_Run X 46 67 (13, 0, 0) L (ab_I 0 :: st) σ Q := ab_r_iconst (by decide) kc_X7_readRules dX7_readRules_66
theorem rX7_readRules_67 : ab_Run X 46 67 (13, 0, 0) L st σ Q ↔ ab_Run X 46 69 (13, 0, 0) L (ab_I 99 :: st) σ Q := ab_r_bipush (by decide) kc_X7_readRules dX7_readRules_67
theorem rX7_readRules_69 : ab_Run X 46 69 (13, 0, 0) L (ab_I x3 :: ab_I x2 :: ab_R x1 :: ab_R a :: st) σ Q ↔ ((ab_sh σ a).1 = 8 ∧ ab_cats st ≤ 8) ∧ ab_Do X 55 [ab_R a, ab_R x1, ab_I x2, ab_I x3] σ (fun r σ' => ab_Run X 46 72 (13, 0, 0) L (ab_psh r st) σ' Q) := ab_r_callV (w := [ab_I x3, ab_I x2, ab_R x1]) (as := [ab_R x1, ab_I x2, ab_I x3]) (b1 := (12, 0, 0)) 0 (Or.inl rfl) (by decide) ko_X7_readRules qM_7_120 (by decide) rfl rfl rfl rfl rfl (by decide) (Nat.le_of_ble_eq_true rfl) kc_X7_readRules dX7_readRules_69
theorem rX7_readRules_72 : ab_Run X 46 72 (13, 0, 0) L (ab_I a :: st) σ Q ↔ (¬ a = 0 → ab_Run X 46 77 (13, 0, 0) L st σ Q) ∧ (¬ (¬ a = 0) → ab_Run X 46 75 (13, 0, 0) L st σ Q) := ab_r_if_ne rfl kc_X7_readRules dX7_readRules_72
theorem rX7_readRules_75 : ab_Run X 46 75 (13, 0, 0) L st σ Q ↔ ab_Run X 46 76 (13, 0, 0) L (ab_I 0 :: st) σ Q := ab_r_iconst (by decide) kc_X7_readRules dX7_readRules_75
theorem rX7_readRules_76 : ab_Run X 46 76 (13, 0, 0) L [ab_I v] σ Q ↔ (v = 0 ∨ v = 1) ∧ Q (some (ab_I v)) σ := ab_r_ireturnZ rfl kc_X7_readRules dX7_readRules_76
theorem rX7_readRules_77 : ab_Run X 46 77 (13, 0, 0) [ab_R z] st σ Q ↔ z ≠ 0 ∧ ab_Run X 46 78 (13, 0, 0) [ab_R z] (ab_R z :: st) σ Q := ab_r_aload_n rfl kc_X7_readRules dX7_readRules_77
theorem rX7_readRules_78 : ab_Run X 46 78 (13, 0, 0) L (ab_R a :: st) σ Q ↔ (ab_sh σ a).1 = 8 ∧ ab_Run X 46 81 (13, 0, 0) L (ab_R (ab_rd σ a 1) :: st) σ Q := gF_7_21 ko_X7_readRules kc_X7_readRules dX7_readRules_78
theorem rX7_readRules_81 : ab_Run X 46 81 (13, 0, 0) [ab_R z] st σ Q ↔ z ≠ 0 ∧ ab_Run X 46 82 (13, 0, 0) [ab_R z] (ab_R z :: st) σ Q := ab_r_aload_n rfl kc_X7_readRules dX7_readRules_81
theorem rX7_readRules_82 : ab_Run X 46 82 (13, 0, 0) L (ab_R a :: st) σ Q ↔ (ab_sh σ a).1 = 8 ∧ ab_Run X 46 85 (13, 0, 0) L (ab_I (ab_rd σ a 5) :: st) σ Q := gF_7_124 ko_X7_readRules kc_X7_readRules dX7_readRules_82
theorem rX7_readRules_85 : ab_Run X 46 85 (13, 0, 0) L (ab_I z :: ab_R a :: st) σ Q ↔ (ab_sh σ a).1 = 5 ∧ ab_Run X 46 88 (13, 0, 0) L st (ab_wr σ a 2 z) Q := sF_7_135 ko_X7_readRules kc_X7_readRules dX7_readRules_85
theorem rX7_readRules_88 : ab_Run X 46 88 (13, 0, 0) [ab_R z] st σ Q ↔ z ≠ 0 ∧ ab_Run X 46 89 (13, 0, 0) [ab_R z] (ab_R z :: st) σ Q := ab_r_aload_n rfl kc_X7_readRules dX7_readRules_88
theorem rX7_readRules_89 : ab_Run X 46 89 (13, 0, 0) L st σ Q ↔ ab_Run X 46 91 (13, 0, 0) L (ab_R (-6) :: st) σ Q := ab_r_ldcS (n := 4) rfl ko_X7_readRules (by decide +kernel) (by decide +kernel) rfl kc_X7_readRules dX7_readRules_89
theorem rX7_readRules_91 : ab_Run X 46 91 (13, 0, 0) L st σ Q ↔ ab_Run X 46 92 (13, 0, 0) L (ab_I 0 :: st) σ Q := ab_r_iconst (by decide) kc_X7_readRules dX7_readRules_91
theorem rX7_readRules_92 : ab_Run X 46 92 (13, 0, 0) L st σ Q ↔ ab_Run X 46 94 (13, 0, 0) L (ab_I 99 :: st) σ Q := ab_r_bipush (by decide) kc_X7_readRules dX7_readRules_92
theorem rX7_readRules_94 : ab_Run X 46 94 (13, 0, 0) L (ab_I x3 :: ab_I x2 :: ab_R x1 :: ab_R a :: st) σ Q ↔ ((ab_sh σ a).1 = 8 ∧ ab_cats st ≤ 8) ∧ ab_Do X 55 [ab_R a, ab_R x1, ab_I x2, ab_I x3] σ (fun r σ' => ab_Run X 46 97 (13, 0, 0) L (ab_psh r st) σ' Q) := ab_r_callV (w := [ab_I x3, ab_I x2, ab_R x1]) (as := [ab_R x1, ab_I x2, ab_I x3]) (b1 := (12, 0, 0)) 0 (Or.inl rfl) (by decide) ko_X7_readRules qM_7_120 (by decide) rfl rfl rfl rfl rfl (by decide) (Nat.le_of_ble_eq_true rfl) kc_X7_readRules dX7_readRules_94
theorem rX7_readRules_97 : ab_Run X 46 97 (13, 0, 0) L (ab_I a :: st) σ Q ↔ (¬ a = 0 → ab_Run X 46 102 (13, 0, 0) L st σ Q) ∧ (¬ (¬ a = 0) → ab_Run X 46 100 (13, 0, 0) L st σ Q) := ab_r_if_ne rfl kc_X7_readRules dX7_readRules_97
theorem rX7_readRules_100 : ab_Run X 46 100 (13, 0, 0) L st σ Q ↔ ab_Run X 46 101 (13, 0, 0) L (ab_I 0 :: st) σ Q := ab_r_iconst (by decide) kc_X7_readRules dX7_readRules_100
theorem rX7_readRules_101 : ab_Run X 46 101 (13, 0, 0) L [ab_I v] σ Q ↔ (v = 0 ∨ v = 1) ∧ Q (some (ab_I v)) σ := ab_r_ireturnZ rfl kc_X7_readRules dX7_readRules_101
theorem rX7_readRules_102 : ab_Run X 46 102 (13, 0, 0) [ab_R z] st σ Q ↔ z ≠ 0 ∧ ab_Run X 46 103 (13, 0, 0) [ab_R z] (ab_R z :: st) σ Q := ab_r_aload_n rfl kc_X7_readRules dX7_readRules_102
theorem rX7_readRules_103 : ab_Run X 46 103 (13, 0, 0) L (ab_R a :: st) σ Q ↔ (ab_sh σ a).1 = 8 ∧ ab_Run X 46 106 (13, 0, 0) L (ab_R (ab_rd σ a 1) :: st) σ Q := gF_7_21 ko_X7_readRules kc_X7_readRules dX7_readRules_103
theorem rX7_readRules_106 : ab_Run X 46 106 (13, 0, 0) [ab_R z] st σ Q ↔ z ≠ 0 ∧ ab_Run X 46 107 (13, 0, 0) [ab_R z] (ab_R z :: st) σ Q := ab_r_aload_n rfl kc_X7_readRules dX7_readRules_106
theorem rX7_readRules_107 : ab_Run X 46 107 (13, 0, 0) L (ab_R a :: st) σ Q ↔ (ab_sh σ a).1 = 8 ∧ ab_Run X 46 110 (13, 0, 0) L (ab_I (ab_rd σ a 5) :: st) σ Q := gF_7_124 ko_X7_readRules kc_X7_readRules dX7_readRules_107
theorem rX7_readRules_110 : ab_Run X 46 110 (13, 0, 0) L (ab_I z :: ab_R a :: st) σ Q ↔ (ab_sh σ a).1 = 5 ∧ ab_Run X 46 113 (13, 0, 0) L st (ab_wr σ a 3 z) Q := sF_7_139 ko_X7_readRules kc_X7_readRules dX7_readRules_110
theorem rX7_readRules_113 : ab_Run X 46 113 (13, 0, 0) [ab_R z] st σ Q ↔ z ≠ 0 ∧ ab_Run X 46 114 (13, 0, 0) [ab_R z] (ab_R z :: st) σ Q := ab_r_aload_n rfl kc_X7_readRules dX7_readRules_113
theorem rX7_readRules_114 : ab_Run X 46 114 (13, 0, 0) L st σ Q ↔ ab_Run X 46 116 (13, 0, 0) L (ab_R (-7) :: st) σ Q := ab_r_ldcS (n := 5) rfl ko_X7_readRules (by decide +kernel) (by decide +kernel) rfl kc_X7_readRules dX7_readRules_114
theorem rX7_readRules_116 : ab_Run X 46 116 (13, 0, 0) L st σ Q ↔ ab_Run X 46 117 (13, 0, 0) L (ab_I 0 :: st) σ Q := ab_r_iconst (by decide) kc_X7_readRules dX7_readRules_116
theorem rX7_readRules_117 : ab_Run X 46 117 (13, 0, 0) L st σ Q ↔ ab_Run X 46 119 (13, 0, 0) L (ab_I 99 :: st) σ Q := ab_r_bipush (by decide) kc_X7_readRules dX7_readRules_117
theorem rX7_readRules_119 : ab_Run X 46 119 (13, 0, 0) L (ab_I x3 :: ab_I x2 :: ab_R x1 :: ab_R a :: st) σ Q ↔ ((ab_sh σ a).1 = 8 ∧ ab_cats st ≤ 8) ∧ ab_Do X 55 [ab_R a, ab_R x1, ab_I x2, ab_I x3] σ (fun r σ' => ab_Run X 46 122 (13, 0, 0) L (ab_psh r st) σ' Q) := ab_r_callV (w := [ab_I x3, ab_I x2, ab_R x1]) (as := [ab_R x1, ab_I x2, ab_I x3]) (b1 := (12, 0, 0)) 0 (Or.inl rfl) (by decide) ko_X7_readRules qM_7_120 (by decide) rfl rfl rfl rfl rfl (by decide) (Nat.le_of_ble_eq_true rfl) kc_X7_readRules dX7_readRules_119
theorem rX7_readRules_122 : ab_Run X 46 122 (13, 0, 0) L (ab_I a :: st) σ Q ↔ (¬ a = 0 → ab_Run X 46 127 (13, 0, 0) L st σ Q) ∧ (¬ (¬ a = 0) → ab_Run X 46 125 (13, 0, 0) L st σ Q) := ab_r_if_ne rfl kc_X7_readRules dX7_readRules_122
theorem rX7_readRules_125 : ab_Run X 46 125 (13, 0, 0) L st σ Q ↔ ab_Run X 46 126 (13, 0, 0) L (ab_I 0 :: st) σ Q := ab_r_iconst (by decide) kc_X7_readRules dX7_readRules_125
theorem rX7_readRules_126 : ab_Run X 46 126 (13, 0, 0) L [ab_I v] σ Q ↔ (v = 0 ∨ v = 1) ∧ Q (some (ab_I v)) σ := ab_r_ireturnZ rfl kc_X7_readRules dX7_readRules_126
theorem rX7_readRules_127 : ab_Run X 46 127 (13, 0, 0) [ab_R z] st σ Q ↔ z ≠ 0 ∧ ab_Run X 46 128 (13, 0, 0) [ab_R z] (ab_R z :: st) σ Q := ab_r_aload_n rfl kc_X7_readRules dX7_readRules_127
theorem rX7_readRules_128 : ab_Run X 46 128 (13, 0, 0) L (ab_R a :: st) σ Q ↔ (ab_sh σ a).1 = 8 ∧ ab_Run X 46 131 (13, 0, 0) L (ab_R (ab_rd σ a 1) :: st) σ Q := gF_7_21 ko_X7_readRules kc_X7_readRules dX7_readRules_128
theorem rX7_readRules_131 : ab_Run X 46 131 (13, 0, 0) [ab_R z] st σ Q ↔ z ≠ 0 ∧ ab_Run X 46 132 (13, 0, 0) [ab_R z] (ab_R z :: st) σ Q := ab_r_aload_n rfl kc_X7_readRules dX7_readRules_131
theorem rX7_readRules_132 : ab_Run X 46 132 (13, 0, 0) L (ab_R a :: st) σ Q ↔ (ab_sh σ a).1 = 8 ∧ ab_Run X 46 135 (13, 0, 0) L (ab_I (ab_rd σ a 5) :: st) σ Q := gF_7_124 ko_X7_readRules kc_X7_readRules dX7_readRules_132
theorem rX7_readRules_135 : ab_Run X 46 135 (13, 0, 0) L (ab_I z :: ab_R a :: st) σ Q ↔ (ab_sh σ a).1 = 5 ∧ ab_Run X 46 138 (13, 0, 0) L st (ab_wr σ a 4 z) Q := sF_7_143 ko_X7_readRules kc_X7_readRules dX7_readRules_135
theorem rX7_readRules_138 : ab_Run X 46 138 (13, 0, 0) L st σ Q ↔ ab_Run X 46 139 (13, 0, 0) L (ab_I 1 :: st) σ Q := ab_r_iconst (by decide) kc_X7_readRules dX7_readRules_138
theorem rX7_readRules_139 : ab_Run X 46 139 (13, 0, 0) L [ab_I v] σ Q ↔ (v = 0 ∨ v = 1) ∧ Q (some (ab_I v)) σ := ab_r_ireturnZ rfl kc_X7_readRules dX7_readRules_139
theorem kc_X7_readBone : ab_code 47 = cX7_readBone := rfl
theorem ko_X7_readBone : ab_ow 47 = 7 := rfl
theorem rX7_readBone_0 : ab_Run X 47 0 (13, 0, 0) [ab_R z, l1] st σ Q ↔ z ≠ 0 ∧ ab_Run X 47 1 (13, 0, 0) [ab_R z, l1] (ab_R z :: st) σ Q := ab_r_aload_n rfl kc_X7_readBone dX7_readBone_0
theorem rX7_readBone_1 : ab_Run X 47 1 (13, 0, 0) L (ab_R a :: st) σ Q ↔ (ab_sh σ a).1 = 8 ∧ ab_Run X 47 4 (13, 0, 0) L (ab_R (ab_rd σ a 1) :: st) σ Q := gF_7_21 ko_X7_readBone kc_X7_readBone dX7_readBone_1
theorem rX7_readBone_4 : ab_Run X 47 4 (13, 0, 0) L (ab_R a :: st) σ Q ↔ (ab_sh σ a).1 = 5 ∧ ab_Run X 47 7 (13, 0, 0) L (ab_R (ab_rd σ a 6) :: st) σ Q := gF_7_145 ko_X7_readBone kc_X7_readBone dX7_readBone_4
theorem rX7_readBone_7 : ab_Run X 47 7 (13, 0, 0) [ab_R z, l1] st σ Q ↔ z ≠ 0 ∧ ab_Run X 47 8 (13, 0, 0) [ab_R z, l1] (ab_R z :: st) σ Q := ab_r_aload_n rfl kc_X7_readBone dX7_readBone_7
theorem rX7_readBone_8 : ab_Run X 47 8 (13, 0, 0) L (ab_R a :: st) σ Q ↔ (ab_sh σ a).1 = 8 ∧ ab_Run X 47 11 (13, 0, 0) L (ab_R (ab_rd σ a 1) :: st) σ Q := gF_7_21 ko_X7_readBone kc_X7_readBone dX7_readBone_8
theorem rX7_readBone_11 : ab_Run X 47 11 (13, 0, 0) L (ab_R a :: st) σ Q ↔ (ab_sh σ a).1 = 5 ∧ ab_Run X 47 14 (13, 0, 0) L (ab_I (ab_rd σ a 5) :: st) σ Q := gF_7_50 ko_X7_readBone kc_X7_readBone dX7_readBone_11
theorem rX7_readBone_14 : ab_Run X 47 14 (13, 0, 0) L (ab_I i :: ab_R a :: st) σ Q ↔ ((25 ≤ (ab_sh σ a).1 ∧ (ab_sh σ a).1 < 30) ∧ 0 ≤ i ∧ i < (ab_sh σ a).2) ∧ ab_Run X 47 15 (13, 0, 0) L (ab_R (ab_rd σ a i) :: st) σ Q := ab_r_aaload kc_X7_readBone dX7_readBone_14
theorem rX7_readBone_15 : ab_Run X 47 15 (13, 0, 0) [l0, l1] (ab_R z :: st) σ Q ↔ (!ab_isJ l0) = true ∧ ab_Run X 47 16 (13, 0, 0) [l0, ab_R z] st σ Q := ab_r_astore_n (Nat.le_of_ble_eq_true rfl) kc_X7_readBone dX7_readBone_15
theorem rX7_readBone_16 : ab_Run X 47 16 (13, 0, 0) [ab_R z, l1] st σ Q ↔ z ≠ 0 ∧ ab_Run X 47 17 (13, 0, 0) [ab_R z, l1] (ab_R z :: st) σ Q := ab_r_aload_n rfl kc_X7_readBone dX7_readBone_16
theorem rX7_readBone_17 : ab_Run X 47 17 (13, 0, 0) L (ab_R a :: st) σ Q ↔ ((ab_sh σ a).1 = 8 ∧ ab_cats st ≤ 8) ∧ ab_Do X 59 [ab_R a] σ (fun r σ' => ab_Run X 47 20 (13, 0, 0) L (ab_psh r st) σ' Q) := ab_r_callV (w := []) (as := []) (b1 := (12, 0, 0)) 0 (Or.inl rfl) (by decide) ko_X7_readBone qM_7_149 (by decide) rfl rfl rfl rfl rfl (by decide) (Nat.le_of_ble_eq_true rfl) kc_X7_readBone dX7_readBone_17
theorem rX7_readBone_20 : ab_Run X 47 20 (13, 0, 0) L (ab_I a :: st) σ Q ↔ (¬ a = 0 → ab_Run X 47 25 (13, 0, 0) L st σ Q) ∧ (¬ (¬ a = 0) → ab_Run X 47 23 (13, 0, 0) L st σ Q) := ab_r_if_ne rfl kc_X7_readBone dX7_readBone_20
theorem rX7_readBone_23 : ab_Run X 47 23 (13, 0, 0) L st σ Q ↔ ab_Run X 47 24 (13, 0, 0) L (ab_I 0 :: st) σ Q := ab_r_iconst (by decide) kc_X7_readBone dX7_readBone_23
theorem rX7_readBone_24 : ab_Run X 47 24 (13, 0, 0) L [ab_I v] σ Q ↔ (v = 0 ∨ v = 1) ∧ Q (some (ab_I v)) σ := ab_r_ireturnZ rfl kc_X7_readBone dX7_readBone_24
theorem rX7_readBone_25 : ab_Run X 47 25 (13, 0, 0) [l0, ab_R z] st σ Q ↔ z ≠ 0 ∧ ab_Run X 47 26 (13, 0, 0) [l0, ab_R z] (ab_R z :: st) σ Q := ab_r_aload_n rfl kc_X7_readBone dX7_readBone_25
theorem rX7_readBone_26 : ab_Run X 47 26 (13, 0, 0) [ab_R z, l1] st σ Q ↔ z ≠ 0 ∧ ab_Run X 47 27 (13, 0, 0) [ab_R z, l1] (ab_R z :: st) σ Q := ab_r_aload_n rfl kc_X7_readBone dX7_readBone_26
theorem rX7_readBone_27 : ab_Run X 47 27 (13, 0, 0) L (ab_R a :: st) σ Q ↔ (ab_sh σ a).1 = 8 ∧ ab_Run X 47 30 (13, 0, 0) L (ab_R (ab_rd σ a 0) :: st) σ Q := gF_7_12 ko_X7_readBone kc_X7_readBone dX7_readBone_27
theorem rX7_readBone_30 : ab_Run X 47 30 (13, 0, 0) L (ab_R a :: st) σ Q ↔ (ab_sh σ a).1 = 10 ∧ ab_Run X 47 33 (13, 0, 0) L (ab_J (ab_rd σ a 5) :: st) σ Q := gF_7_152 ko_X7_readBone kc_X7_readBone dX7_readBone_30
theorem rX7_readBone_33 : ab_Run X 47 33 (13, 0, 0) L (ab_J z :: ab_R a :: st) σ Q ↔ (ab_sh σ a).1 = 2 ∧ ab_Run X 47 36 (13, 0, 0) L st (ab_wr σ a 0 z) Q := sF_7_156 ko_X7_readBone kc_X7_readBone dX7_readBone_33
theorem rX7_readBone_36 : ab_Run X 47 36 (13, 0, 0) [ab_R z, l1] st σ Q ↔ z ≠ 0 ∧ ab_Run X 47 37 (13, 0, 0) [ab_R z, l1] (ab_R z :: st) σ Q := ab_r_aload_n rfl kc_X7_readBone dX7_readBone_36
theorem rX7_readBone_37 : ab_Run X 47 37 (13, 0, 0) L (ab_R a :: st) σ Q ↔ (ab_sh σ a).1 = 8 ∧ ab_Run X 47 40 (13, 0, 0) L (ab_R (ab_rd σ a 0) :: st) σ Q := gF_7_12 ko_X7_readBone kc_X7_readBone dX7_readBone_37
theorem rX7_readBone_40 : ab_Run X 47 40 (13, 0, 0) L (ab_R a :: st) σ Q ↔ ((ab_sh σ a).1 = 10 ∧ ab_cats st ≤ 8) ∧ ab_Do X 70 [ab_R a] σ (fun r σ' => ab_Run X 47 43 (13, 0, 0) L (ab_psh r st) σ' Q) := ab_r_callV (w := []) (as := []) (b1 := (1, 0, 0)) 0 (Or.inl rfl) (by decide) ko_X7_readBone qM_7_60 (by decide) rfl rfl rfl rfl rfl (by decide) (Nat.le_of_ble_eq_true rfl) kc_X7_readBone dX7_readBone_40
theorem rX7_readBone_43 : ab_Run X 47 43 (13, 0, 0) [ab_R z, l1] st σ Q ↔ z ≠ 0 ∧ ab_Run X 47 44 (13, 0, 0) [ab_R z, l1] (ab_R z :: st) σ Q := ab_r_aload_n rfl kc_X7_readBone dX7_readBone_43
theorem rX7_readBone_44 : ab_Run X 47 44 (13, 0, 0) L st σ Q ↔ ab_Run X 47 46 (13, 0, 0) L (ab_R (-16) :: st) σ Q := ab_r_ldcS (n := 14) rfl ko_X7_readBone (by decide +kernel) (by decide +kernel) rfl kc_X7_readBone dX7_readBone_44
theorem rX7_readBone_46 : ab_Run X 47 46 (13, 0, 0) L st σ Q ↔ ab_Run X 47 48 (13, 0, 0) L (ab_R (-17) :: st) σ Q := ab_r_ldcS (n := 15) rfl ko_X7_readBone (by decide +kernel) (by decide +kernel) rfl kc_X7_readBone dX7_readBone_46
theorem rX7_readBone_48 : ab_Run X 47 48 (13, 0, 0) L st σ Q ↔ ab_Run X 47 50 (13, 0, 0) L (ab_R (-18) :: st) σ Q := ab_r_ldcS (n := 16) rfl ko_X7_readBone (by decide +kernel) (by decide +kernel) rfl kc_X7_readBone dX7_readBone_48
theorem rX7_readBone_50 : ab_Run X 47 50 (13, 0, 0) L st σ Q ↔ ab_Run X 47 52 (13, 0, 0) L (ab_R (-19) :: st) σ Q := ab_r_ldcS (n := 17) rfl ko_X7_readBone (by decide +kernel) (by decide +kernel) rfl kc_X7_readBone dX7_readBone_50
theorem rX7_readBone_52 : ab_Run X 47 52 (13, 0, 0) L (ab_R x4 :: ab_R x3 :: ab_R x2 :: ab_R x1 :: ab_R a :: st) σ Q ↔ ((ab_sh σ a).1 = 8 ∧ ab_cats st ≤ 8) ∧ ab_Do X 56 [ab_R a, ab_R x1, ab_R x2, ab_R x3, ab_R x4] σ (fun r σ' => ab_Run X 47 55 (13, 0, 0) L (ab_psh r st) σ' Q) := ab_r_callV (w := [ab_R x4, ab_R x3, ab_R x2, ab_R x1]) (as := [ab_R x1, ab_R x2, ab_R x3, ab_R x4]) (b1 := (11, 0, 0)) 0 (Or.inl rfl) (by decide) ko_X7_readBone qM_7_169 (by decide) rfl rfl rfl rfl rfl (by decide) (Nat.le_of_ble_eq_true rfl) kc_X7_readBone dX7_readBone_52
theorem rX7_readBone_55 : ab_Run X 47 55 (13, 0, 0) L (ab_I a :: st) σ Q ↔ (¬ a = 0 → ab_Run X 47 60 (13, 0, 0) L st σ Q) ∧ (¬ (¬ a = 0) → ab_Run X 47 58 (13, 0, 0) L st σ Q) := ab_r_if_ne rfl kc_X7_readBone dX7_readBone_55
theorem rX7_readBone_58 : ab_Run X 47 58 (13, 0, 0) L st σ Q ↔ ab_Run X 47 59 (13, 0, 0) L (ab_I 0 :: st) σ Q := ab_r_iconst (by decide) kc_X7_readBone dX7_readBone_58
theorem rX7_readBone_59 : ab_Run X 47 59 (13, 0, 0) L [ab_I v] σ Q ↔ (v = 0 ∨ v = 1) ∧ Q (some (ab_I v)) σ := ab_r_ireturnZ rfl kc_X7_readBone dX7_readBone_59
theorem rX7_readBone_60 : ab_Run X 47 60 (13, 0, 0) [l0, ab_R z] st σ Q ↔ z ≠ 0 ∧ ab_Run X 47 61 (13, 0, 0) [l0, ab_R z] (ab_R z :: st) σ Q := ab_r_aload_n rfl kc_X7_readBone dX7_readBone_60
theorem rX7_readBone_61 : ab_Run X 47 61 (13, 0, 0) [ab_R z, l1] st σ Q ↔ z ≠ 0 ∧ ab_Run X 47 62 (13, 0, 0) [ab_R z, l1] (ab_R z :: st) σ Q := ab_r_aload_n rfl kc_X7_readBone dX7_readBone_61
theorem rX7_readBone_62 : ab_Run X 47 62 (13, 0, 0) L (ab_R a :: st) σ Q ↔ (ab_sh σ a).1 = 8 ∧ ab_Run X 47 65 (13, 0, 0) L (ab_I (ab_rd σ a 5) :: st) σ Q := gF_7_124 ko_X7_readBone kc_X7_readBone dX7_readBone_62
theorem rX7_readBone_65 : ab_Run X 47 65 (13, 0, 0) L (ab_I z :: ab_R a :: st) σ Q ↔ (ab_sh σ a).1 = 2 ∧ ab_Run X 47 68 (13, 0, 0) L st (ab_wr σ a 1 z) Q := sF_7_173 ko_X7_readBone kc_X7_readBone dX7_readBone_65
theorem rX7_readBone_68 : ab_Run X 47 68 (13, 0, 0) [ab_R z, l1] st σ Q ↔ z ≠ 0 ∧ ab_Run X 47 69 (13, 0, 0) [ab_R z, l1] (ab_R z :: st) σ Q := ab_r_aload_n rfl kc_X7_readBone dX7_readBone_68
theorem rX7_readBone_69 : ab_Run X 47 69 (13, 0, 0) L st σ Q ↔ ab_Run X 47 71 (13, 0, 0) L (ab_R (-20) :: st) σ Q := ab_r_ldcS (n := 18) rfl ko_X7_readBone (by decide +kernel) (by decide +kernel) rfl kc_X7_readBone dX7_readBone_69
theorem rX7_readBone_71 : ab_Run X 47 71 (13, 0, 0) L st σ Q ↔ ab_Run X 47 72 (13, 0, 0) L (ab_I 0 :: st) σ Q := ab_r_iconst (by decide) kc_X7_readBone dX7_readBone_71
theorem rX7_readBone_72 : ab_Run X 47 72 (13, 0, 0) L st σ Q ↔ ab_Run X 47 74 (13, 0, 0) L (ab_I 24 :: st) σ Q := ab_r_bipush (by decide) kc_X7_readBone dX7_readBone_72
theorem rX7_readBone_74 : ab_Run X 47 74 (13, 0, 0) L (ab_I x3 :: ab_I x2 :: ab_R x1 :: ab_R a :: st) σ Q ↔ ((ab_sh σ a).1 = 8 ∧ ab_cats st ≤ 8) ∧ ab_Do X 55 [ab_R a, ab_R x1, ab_I x2, ab_I x3] σ (fun r σ' => ab_Run X 47 77 (13, 0, 0) L (ab_psh r st) σ' Q) := ab_r_callV (w := [ab_I x3, ab_I x2, ab_R x1]) (as := [ab_R x1, ab_I x2, ab_I x3]) (b1 := (12, 0, 0)) 0 (Or.inl rfl) (by decide) ko_X7_readBone qM_7_120 (by decide) rfl rfl rfl rfl rfl (by decide) (Nat.le_of_ble_eq_true rfl) kc_X7_readBone dX7_readBone_74
theorem rX7_readBone_77 : ab_Run X 47 77 (13, 0, 0) L (ab_I a :: st) σ Q ↔ (¬ a = 0 → ab_Run X 47 82 (13, 0, 0) L st σ Q) ∧ (¬ (¬ a = 0) → ab_Run X 47 80 (13, 0, 0) L st σ Q) := ab_r_if_ne rfl kc_X7_readBone dX7_readBone_77
theorem rX7_readBone_80 : ab_Run X 47 80 (13, 0, 0) L st σ Q ↔ ab_Run X 47 81 (13, 0, 0) L (ab_I 0 :: st) σ Q := ab_r_iconst (by decide) kc_X7_readBone dX7_readBone_80
theorem rX7_readBone_81 : ab_Run X 47 81 (13, 0, 0) L [ab_I v] σ Q ↔ (v = 0 ∨ v = 1) ∧ Q (some (ab_I v)) σ := ab_r_ireturnZ rfl kc_X7_readBone dX7_readBone_81
theorem rX7_readBone_82 : ab_Run X 47 82 (13, 0, 0) [l0, ab_R z] st σ Q ↔ z ≠ 0 ∧ ab_Run X 47 83 (13, 0, 0) [l0, ab_R z] (ab_R z :: st) σ Q := ab_r_aload_n rfl kc_X7_readBone dX7_readBone_82
theorem rX7_readBone_83 : ab_Run X 47 83 (13, 0, 0) [ab_R z, l1] st σ Q ↔ z ≠ 0 ∧ ab_Run X 47 84 (13, 0, 0) [ab_R z, l1] (ab_R z :: st) σ Q := ab_r_aload_n rfl kc_X7_readBone dX7_readBone_83
theorem rX7_readBone_84 : ab_Run X 47 84 (13, 0, 0) L (ab_R a :: st) σ Q ↔ (ab_sh σ a).1 = 8 ∧ ab_Run X 47 87 (13, 0, 0) L (ab_I (ab_rd σ a 5) :: st) σ Q := gF_7_124 ko_X7_readBone kc_X7_readBone dX7_readBone_84
theorem rX7_readBone_87 : ab_Run X 47 87 (13, 0, 0) L (ab_I z :: ab_R a :: st) σ Q ↔ (ab_sh σ a).1 = 2 ∧ ab_Run X 47 90 (13, 0, 0) L st (ab_wr σ a 2 z) Q := sF_7_176 ko_X7_readBone kc_X7_readBone dX7_readBone_87
theorem rX7_readBone_90 : ab_Run X 47 90 (13, 0, 0) [ab_R z, l1] st σ Q ↔ z ≠ 0 ∧ ab_Run X 47 91 (13, 0, 0) [ab_R z, l1] (ab_R z :: st) σ Q := ab_r_aload_n rfl kc_X7_readBone dX7_readBone_90
theorem rX7_readBone_91 : ab_Run X 47 91 (13, 0, 0) L st σ Q ↔ ab_Run X 47 93 (13, 0, 0) L (ab_R (-14) :: st) σ Q := ab_r_ldcS (n := 12) rfl ko_X7_readBone (by decide +kernel) (by decide +kernel) rfl kc_X7_readBone dX7_readBone_91
theorem rX7_readBone_93 : ab_Run X 47 93 (13, 0, 0) L (ab_R x1 :: ab_R a :: st) σ Q ↔ ((ab_sh σ a).1 = 8 ∧ ab_cats st ≤ 8) ∧ ab_Do X 54 [ab_R a, ab_R x1] σ (fun r σ' => ab_Run X 47 96 (13, 0, 0) L (ab_psh r st) σ' Q) := ab_r_callV (w := [ab_R x1]) (as := [ab_R x1]) (b1 := (11, 0, 0)) 0 (Or.inl rfl) (by decide) ko_X7_readBone qM_7_181 (by decide) rfl rfl rfl rfl rfl (by decide) (Nat.le_of_ble_eq_true rfl) kc_X7_readBone dX7_readBone_93
theorem rX7_readBone_96 : ab_Run X 47 96 (13, 0, 0) L (ab_I a :: st) σ Q ↔ (a = 0 → ab_Run X 47 108 (13, 0, 0) L st σ Q) ∧ (¬ (a = 0) → ab_Run X 47 99 (13, 0, 0) L st σ Q) := ab_r_if_eq rfl kc_X7_readBone dX7_readBone_96
theorem rX7_readBone_99 : ab_Run X 47 99 (13, 0, 0) [ab_R z, l1] st σ Q ↔ z ≠ 0 ∧ ab_Run X 47 100 (13, 0, 0) [ab_R z, l1] (ab_R z :: st) σ Q := ab_r_aload_n rfl kc_X7_readBone dX7_readBone_99
theorem rX7_readBone_100 : ab_Run X 47 100 (13, 0, 0) [l0, ab_R z] st σ Q ↔ z ≠ 0 ∧ ab_Run X 47 101 (13, 0, 0) [l0, ab_R z] (ab_R z :: st) σ Q := ab_r_aload_n rfl kc_X7_readBone dX7_readBone_100
theorem rX7_readBone_101 : ab_Run X 47 101 (13, 0, 0) L st σ Q ↔ ab_Run X 47 102 (13, 0, 0) L (ab_I 0 :: st) σ Q := ab_r_iconst (by decide) kc_X7_readBone dX7_readBone_101
theorem rX7_readBone_102 : ab_Run X 47 102 (13, 0, 0) L (ab_I x2 :: ab_R x1 :: ab_R a :: st) σ Q ↔ ((ab_sh σ a).1 = 8 ∧ ab_cats st ≤ 8) ∧ ab_Do X 48 [ab_R a, ab_R x1, ab_I x2] σ (fun r σ' => ab_Run X 47 105 (13, 0, 0) L (ab_psh r st) σ' Q) := ab_r_callV (w := [ab_I x2, ab_R x1]) (as := [ab_R x1, ab_I x2]) (b1 := (2, 0, 0)) 0 (Or.inl rfl) (by decide) ko_X7_readBone qM_7_184 (by decide) rfl rfl rfl rfl rfl (by decide) (Nat.le_of_ble_eq_true rfl) kc_X7_readBone dX7_readBone_102
theorem rX7_readBone_105 : ab_Run X 47 105 (13, 0, 0) L (ab_I a :: st) σ Q ↔ (¬ a = 0 → ab_Run X 47 110 (13, 0, 0) L st σ Q) ∧ (¬ (¬ a = 0) → ab_Run X 47 108 (13, 0, 0) L st σ Q) := ab_r_if_ne rfl kc_X7_readBone dX7_readBone_105
theorem rX7_readBone_108 : ab_Run X 47 108 (13, 0, 0) L st σ Q ↔ ab_Run X 47 109 (13, 0, 0) L (ab_I 0 :: st) σ Q := ab_r_iconst (by decide) kc_X7_readBone dX7_readBone_108
theorem rX7_readBone_109 : ab_Run X 47 109 (13, 0, 0) L [ab_I v] σ Q ↔ (v = 0 ∨ v = 1) ∧ Q (some (ab_I v)) σ := ab_r_ireturnZ rfl kc_X7_readBone dX7_readBone_109
theorem rX7_readBone_110 : ab_Run X 47 110 (13, 0, 0) [l0, ab_R z] st σ Q ↔ z ≠ 0 ∧ ab_Run X 47 111 (13, 0, 0) [l0, ab_R z] (ab_R z :: st) σ Q := ab_r_aload_n rfl kc_X7_readBone dX7_readBone_110
theorem rX7_readBone_111 : ab_Run X 47 111 (13, 0, 0) L (ab_R a :: st) σ Q ↔ (ab_sh σ a).1 = 2 ∧ ab_Run X 47 114 (13, 0, 0) L (ab_R (ab_rd σ a 3) :: st) σ Q := gF_7_188 ko_X7_readBone kc_X7_readBone dX7_readBone_111
theorem rX7_readBone_114 : ab_Run X 47 114 (13, 0, 0) L st σ Q ↔ ab_Run X 47 115 (13, 0, 0) L (ab_I 0 :: st) σ Q := ab_r_iconst (by decide) kc_X7_readBone dX7_readBone_114
theorem rX7_readBone_115 : ab_Run X 47 115 (13, 0, 0) L (ab_I i :: ab_R a :: st) σ Q ↔ ((ab_sh σ a).1 = 21 ∧ 0 ≤ i ∧ i < (ab_sh σ a).2) ∧ ab_Run X 47 116 (13, 0, 0) L (ab_I (ab_rd σ a i) :: st) σ Q := ab_r_iaload (by decide) kc_X7_readBone dX7_readBone_115
theorem rX7_readBone_116 : ab_Run X 47 116 (13, 0, 0) L st σ Q ↔ ab_Run X 47 117 (13, 0, 0) L (ab_I 2 :: st) σ Q := ab_r_iconst (by decide) kc_X7_readBone dX7_readBone_116
theorem rX7_readBone_117 : ab_Run X 47 117 (13, 0, 0) L (ab_I b :: ab_I a :: st) σ Q ↔ (b ≤ a → ab_Run X 47 139 (13, 0, 0) L st σ Q) ∧ (¬ (b ≤ a) → ab_Run X 47 120 (13, 0, 0) L st σ Q) := ab_r_icmp_ge rfl kc_X7_readBone dX7_readBone_117
theorem rX7_readBone_120 : ab_Run X 47 120 (13, 0, 0) [ab_R z, l1] st σ Q ↔ z ≠ 0 ∧ ab_Run X 47 121 (13, 0, 0) [ab_R z, l1] (ab_R z :: st) σ Q := ab_r_aload_n rfl kc_X7_readBone dX7_readBone_120
theorem rX7_readBone_121 : ab_Run X 47 121 (13, 0, 0) L (ab_R a :: st) σ Q ↔ (ab_sh σ a).1 = 8 ∧ ab_Run X 47 124 (13, 0, 0) L (ab_R (ab_rd σ a 0) :: st) σ Q := gF_7_12 ko_X7_readBone kc_X7_readBone dX7_readBone_121
theorem rX7_readBone_124 : ab_Run X 47 124 (13, 0, 0) L st σ Q ↔ ab_Run X 47 126 (13, 0, 0) L (ab_R (-15) :: st) σ Q := ab_r_ldcS (n := 13) rfl ko_X7_readBone (by decide +kernel) (by decide +kernel) rfl kc_X7_readBone dX7_readBone_124
theorem rX7_readBone_126 : ab_Run X 47 126 (13, 0, 0) L (ab_R x1 :: ab_R a :: st) σ Q ↔ ((ab_sh σ a).1 = 10 ∧ ab_cats st ≤ 8) ∧ ab_Do X 73 [ab_R a, ab_R x1] σ (fun r σ' => ab_Run X 47 129 (13, 0, 0) L (ab_psh r st) σ' Q) := ab_r_callV (w := [ab_R x1]) (as := [ab_R x1]) (b1 := (10, 0, 0)) 0 (Or.inl rfl) (by decide) ko_X7_readBone qM_7_68 (by decide) rfl rfl rfl rfl rfl (by decide) (Nat.le_of_ble_eq_true rfl) kc_X7_readBone dX7_readBone_126
theorem rX7_readBone_129 : ab_Run X 47 129 (13, 0, 0) L (ab_I a :: st) σ Q ↔ (a = 0 → ab_Run X 47 139 (13, 0, 0) L st σ Q) ∧ (¬ (a = 0) → ab_Run X 47 132 (13, 0, 0) L st σ Q) := ab_r_if_eq rfl kc_X7_readBone dX7_readBone_129
theorem rX7_readBone_132 : ab_Run X 47 132 (13, 0, 0) [ab_R z, l1] st σ Q ↔ z ≠ 0 ∧ ab_Run X 47 133 (13, 0, 0) [ab_R z, l1] (ab_R z :: st) σ Q := ab_r_aload_n rfl kc_X7_readBone dX7_readBone_132
theorem rX7_readBone_133 : ab_Run X 47 133 (13, 0, 0) L st σ Q ↔ ab_Run X 47 135 (13, 0, 0) L (ab_I 6 :: st) σ Q := ab_r_bipush (by decide) kc_X7_readBone dX7_readBone_133
theorem rX7_readBone_135 : ab_Run X 47 135 (13, 0, 0) L (ab_I x1 :: ab_R a :: st) σ Q ↔ ((ab_sh σ a).1 = 8 ∧ ab_cats st ≤ 8) ∧ ab_Do X 43 [ab_R a, ab_I x1] σ (fun r σ' => ab_Run X 47 138 (13, 0, 0) L (ab_psh r st) σ' Q) := ab_r_callV (w := [ab_I x1]) (as := [ab_I x1]) (b1 := (0, 0, 0)) 0 (Or.inl rfl) (by decide) ko_X7_readBone qM_7_56 (by decide) rfl rfl rfl rfl rfl (by decide) (Nat.le_of_ble_eq_true rfl) kc_X7_readBone dX7_readBone_135
theorem rX7_readBone_138 : ab_Run X 47 138 (13, 0, 0) L [ab_I v] σ Q ↔ (v = 0 ∨ v = 1) ∧ Q (some (ab_I v)) σ := ab_r_ireturnZ rfl kc_X7_readBone dX7_readBone_138
theorem rX7_readBone_139 : ab_Run X 47 139 (13, 0, 0) [ab_R z, l1] st σ Q ↔ z ≠ 0 ∧ ab_Run X 47 140 (13, 0, 0) [ab_R z, l1] (ab_R z :: st) σ Q := ab_r_aload_n rfl kc_X7_readBone dX7_readBone_139
theorem rX7_readBone_140 : ab_Run X 47 140 (13, 0, 0) L st σ Q ↔ ab_Run X 47 142 (13, 0, 0) L (ab_R (-15) :: st) σ Q := ab_r_ldcS (n := 13) rfl ko_X7_readBone (by decide +kernel) (by decide +kernel) rfl kc_X7_readBone dX7_readBone_140
theorem rX7_readBone_142 : ab_Run X 47 142 (13, 0, 0) L (ab_R x1 :: ab_R a :: st) σ Q ↔ ((ab_sh σ a).1 = 8 ∧ ab_cats st ≤ 8) ∧ ab_Do X 54 [ab_R a, ab_R x1] σ (fun r σ' => ab_Run X 47 145 (13, 0, 0) L (ab_psh r st) σ' Q) := ab_r_callV (w := [ab_R x1]) (as := [ab_R x1]) (b1 := (11, 0, 0)) 0 (Or.inl rfl) (by decide) ko_X7_readBone qM_7_181 (by decide) rfl rfl rfl rfl rfl (by decide) (Nat.le_of_ble_eq_true rfl) kc_X7_readBone dX7_readBone_142
theorem rX7_readBone_145 : ab_Run X 47 145 (13, 0, 0) L (ab_I a :: st) σ Q ↔ (a = 0 → ab_Run X 47 157 (13, 0, 0) L st σ Q) ∧ (¬ (a = 0) → ab_Run X 47 148 (13, 0, 0) L st σ Q) := ab_r_if_eq rfl kc_X7_readBone dX7_readBone_145
theorem rX7_readBone_148 : ab_Run X 47 148 (13, 0, 0) [ab_R z, l1] st σ Q ↔ z ≠ 0 ∧ ab_Run X 47 149 (13, 0, 0) [ab_R z, l1] (ab_R z :: st) σ Q := ab_r_aload_n rfl kc_X7_readBone dX7_readBone_148
theorem rX7_readBone_149 : ab_Run X 47 149 (13, 0, 0) [l0, ab_R z] st σ Q ↔ z ≠ 0 ∧ ab_Run X 47 150 (13, 0, 0) [l0, ab_R z] (ab_R z :: st) σ Q := ab_r_aload_n rfl kc_X7_readBone dX7_readBone_149
theorem rX7_readBone_150 : ab_Run X 47 150 (13, 0, 0) L st σ Q ↔ ab_Run X 47 151 (13, 0, 0) L (ab_I 1 :: st) σ Q := ab_r_iconst (by decide) kc_X7_readBone dX7_readBone_150
theorem rX7_readBone_151 : ab_Run X 47 151 (13, 0, 0) L (ab_I x2 :: ab_R x1 :: ab_R a :: st) σ Q ↔ ((ab_sh σ a).1 = 8 ∧ ab_cats st ≤ 8) ∧ ab_Do X 48 [ab_R a, ab_R x1, ab_I x2] σ (fun r σ' => ab_Run X 47 154 (13, 0, 0) L (ab_psh r st) σ' Q) := ab_r_callV (w := [ab_I x2, ab_R x1]) (as := [ab_R x1, ab_I x2]) (b1 := (2, 0, 0)) 0 (Or.inl rfl) (by decide) ko_X7_readBone qM_7_184 (by decide) rfl rfl rfl rfl rfl (by decide) (Nat.le_of_ble_eq_true rfl) kc_X7_readBone dX7_readBone_151
theorem rX7_readBone_154 : ab_Run X 47 154 (13, 0, 0) L (ab_I a :: st) σ Q ↔ (¬ a = 0 → ab_Run X 47 159 (13, 0, 0) L st σ Q) ∧ (¬ (¬ a = 0) → ab_Run X 47 157 (13, 0, 0) L st σ Q) := ab_r_if_ne rfl kc_X7_readBone dX7_readBone_154
theorem rX7_readBone_157 : ab_Run X 47 157 (13, 0, 0) L st σ Q ↔ ab_Run X 47 158 (13, 0, 0) L (ab_I 0 :: st) σ Q := ab_r_iconst (by decide) kc_X7_readBone dX7_readBone_157
theorem rX7_readBone_158 : ab_Run X 47 158 (13, 0, 0) L [ab_I v] σ Q ↔ (v = 0 ∨ v = 1) ∧ Q (some (ab_I v)) σ := ab_r_ireturnZ rfl kc_X7_readBone dX7_readBone_158
theorem rX7_readBone_159 : ab_Run X 47 159 (13, 0, 0) [l0, ab_R z] st σ Q ↔ z ≠ 0 ∧ ab_Run X 47 160 (13, 0, 0) [l0, ab_R z] (ab_R z :: st) σ Q := ab_r_aload_n rfl kc_X7_readBone dX7_readBone_159
theorem rX7_readBone_160 : ab_Run X 47 160 (13, 0, 0) L (ab_R a :: st) σ Q ↔ (ab_sh σ a).1 = 2 ∧ ab_Run X 47 163 (13, 0, 0) L (ab_R (ab_rd σ a 3) :: st) σ Q := gF_7_188 ko_X7_readBone kc_X7_readBone dX7_readBone_160
theorem rX7_readBone_163 : ab_Run X 47 163 (13, 0, 0) L st σ Q ↔ ab_Run X 47 164 (13, 0, 0) L (ab_I 1 :: st) σ Q := ab_r_iconst (by decide) kc_X7_readBone dX7_readBone_163
theorem rX7_readBone_164 : ab_Run X 47 164 (13, 0, 0) L (ab_I i :: ab_R a :: st) σ Q ↔ ((ab_sh σ a).1 = 21 ∧ 0 ≤ i ∧ i < (ab_sh σ a).2) ∧ ab_Run X 47 165 (13, 0, 0) L (ab_I (ab_rd σ a i) :: st) σ Q := ab_r_iaload (by decide) kc_X7_readBone dX7_readBone_164
theorem rX7_readBone_165 : ab_Run X 47 165 (13, 0, 0) L st σ Q ↔ ab_Run X 47 166 (13, 0, 0) L (ab_I 2 :: st) σ Q := ab_r_iconst (by decide) kc_X7_readBone dX7_readBone_165
theorem rX7_readBone_166 : ab_Run X 47 166 (13, 0, 0) L (ab_I b :: ab_I a :: st) σ Q ↔ (b ≤ a → ab_Run X 47 197 (13, 0, 0) L st σ Q) ∧ (¬ (b ≤ a) → ab_Run X 47 169 (13, 0, 0) L st σ Q) := ab_r_icmp_ge rfl kc_X7_readBone dX7_readBone_166
theorem rX7_readBone_169 : ab_Run X 47 169 (13, 0, 0) [ab_R z, l1] st σ Q ↔ z ≠ 0 ∧ ab_Run X 47 170 (13, 0, 0) [ab_R z, l1] (ab_R z :: st) σ Q := ab_r_aload_n rfl kc_X7_readBone dX7_readBone_169
theorem rX7_readBone_170 : ab_Run X 47 170 (13, 0, 0) L (ab_R a :: st) σ Q ↔ (ab_sh σ a).1 = 8 ∧ ab_Run X 47 173 (13, 0, 0) L (ab_R (ab_rd σ a 0) :: st) σ Q := gF_7_12 ko_X7_readBone kc_X7_readBone dX7_readBone_170
theorem rX7_readBone_173 : ab_Run X 47 173 (13, 0, 0) L (ab_R a :: st) σ Q ↔ (ab_sh σ a).1 = 10 ∧ ab_Run X 47 176 (13, 0, 0) L (ab_I (ab_rd σ a 2) :: st) σ Q := gF_7_47 ko_X7_readBone kc_X7_readBone dX7_readBone_173
theorem rX7_readBone_176 : ab_Run X 47 176 (13, 0, 0) L st σ Q ↔ ab_Run X 47 177 (13, 0, 0) L (ab_I 4 :: st) σ Q := ab_r_iconst (by decide) kc_X7_readBone dX7_readBone_176
theorem rX7_readBone_177 : ab_Run X 47 177 (13, 0, 0) L (ab_I b :: ab_I a :: st) σ Q ↔ (a = b → ab_Run X 47 190 (13, 0, 0) L st σ Q) ∧ (¬ (a = b) → ab_Run X 47 180 (13, 0, 0) L st σ Q) := ab_r_icmp_eq rfl kc_X7_readBone dX7_readBone_177
theorem rX7_readBone_180 : ab_Run X 47 180 (13, 0, 0) [ab_R z, l1] st σ Q ↔ z ≠ 0 ∧ ab_Run X 47 181 (13, 0, 0) [ab_R z, l1] (ab_R z :: st) σ Q := ab_r_aload_n rfl kc_X7_readBone dX7_readBone_180
theorem rX7_readBone_181 : ab_Run X 47 181 (13, 0, 0) L (ab_R a :: st) σ Q ↔ (ab_sh σ a).1 = 8 ∧ ab_Run X 47 184 (13, 0, 0) L (ab_R (ab_rd σ a 0) :: st) σ Q := gF_7_12 ko_X7_readBone kc_X7_readBone dX7_readBone_181
theorem rX7_readBone_184 : ab_Run X 47 184 (13, 0, 0) L (ab_R a :: st) σ Q ↔ (ab_sh σ a).1 = 10 ∧ ab_Run X 47 187 (13, 0, 0) L (ab_I (ab_rd σ a 2) :: st) σ Q := gF_7_47 ko_X7_readBone kc_X7_readBone dX7_readBone_184
theorem rX7_readBone_187 : ab_Run X 47 187 (13, 0, 0) L (ab_I a :: st) σ Q ↔ (¬ a = 0 → ab_Run X 47 197 (13, 0, 0) L st σ Q) ∧ (¬ (¬ a = 0) → ab_Run X 47 190 (13, 0, 0) L st σ Q) := ab_r_if_ne rfl kc_X7_readBone dX7_readBone_187
theorem rX7_readBone_190 : ab_Run X 47 190 (13, 0, 0) [ab_R z, l1] st σ Q ↔ z ≠ 0 ∧ ab_Run X 47 191 (13, 0, 0) [ab_R z, l1] (ab_R z :: st) σ Q := ab_r_aload_n rfl kc_X7_readBone dX7_readBone_190
theorem rX7_readBone_191 : ab_Run X 47 191 (13, 0, 0) L st σ Q ↔ ab_Run X 47 193 (13, 0, 0) L (ab_I 6 :: st) σ Q := ab_r_bipush (by decide) kc_X7_readBone dX7_readBone_191
theorem rX7_readBone_193 : ab_Run X 47 193 (13, 0, 0) L (ab_I x1 :: ab_R a :: st) σ Q ↔ ((ab_sh σ a).1 = 8 ∧ ab_cats st ≤ 8) ∧ ab_Do X 43 [ab_R a, ab_I x1] σ (fun r σ' => ab_Run X 47 196 (13, 0, 0) L (ab_psh r st) σ' Q) := ab_r_callV (w := [ab_I x1]) (as := [ab_I x1]) (b1 := (0, 0, 0)) 0 (Or.inl rfl) (by decide) ko_X7_readBone qM_7_56 (by decide) rfl rfl rfl rfl rfl (by decide) (Nat.le_of_ble_eq_true rfl) kc_X7_readBone dX7_readBone_193
theorem rX7_readBone_196 : ab_Run X 47 196 (13, 0, 0) L [ab_I v] σ Q ↔ (v = 0 ∨ v = 1) ∧ Q (some (ab_I v)) σ := ab_r_ireturnZ rfl kc_X7_readBone dX7_readBone_196
theorem rX7_readBone_197 : ab_Run X 47 197 (13, 0, 0) [ab_R z, l1] st σ Q ↔ z ≠ 0 ∧ ab_Run X 47 198 (13, 0, 0) [ab_R z, l1] (ab_R z :: st) σ Q := ab_r_aload_n rfl kc_X7_readBone dX7_readBone_197
theorem rX7_readBone_198 : ab_Run X 47 198 (13, 0, 0) L (ab_R a :: st) σ Q ↔ (ab_sh σ a).1 = 8 ∧ ab_Run X 47 201 (13, 0, 0) L (ab_R (ab_rd σ a 1) :: st) σ Q := gF_7_21 ko_X7_readBone kc_X7_readBone dX7_readBone_198
theorem rX7_readBone_201I : ab_Run X 47 201 (13, 0, 0) L (ab_I a :: st) σ Q ↔ ab_Run X 47 202 (13, 0, 0) L (ab_I a :: ab_I a :: st) σ Q := ab_r_dupI kc_X7_readBone dX7_readBone_201
theorem rX7_readBone_201R : ab_Run X 47 201 (13, 0, 0) L (ab_R a :: st) σ Q ↔ ab_Run X 47 202 (13, 0, 0) L (ab_R a :: ab_R a :: st) σ Q := ab_r_dupR kc_X7_readBone dX7_readBone_201
theorem rX7_readBone_202 : ab_Run X 47 202 (13, 0, 0) L (ab_R a :: st) σ Q ↔ (ab_sh σ a).1 = 5 ∧ ab_Run X 47 205 (13, 0, 0) L (ab_I (ab_rd σ a 5) :: st) σ Q := gF_7_50 ko_X7_readBone kc_X7_readBone dX7_readBone_202
theorem rX7_readBone_205 : ab_Run X 47 205 (13, 0, 0) L st σ Q ↔ ab_Run X 47 206 (13, 0, 0) L (ab_I 1 :: st) σ Q := ab_r_iconst (by decide) kc_X7_readBone dX7_readBone_205
theorem rX7_readBone_206 : ab_Run X 47 206 (13, 0, 0) L (ab_I b :: ab_I a :: st) σ Q ↔ ab_Run X 47 207 (13, 0, 0) L (ab_I (ab_w32 (a + b)) :: st) σ Q := ab_r_iadd kc_X7_readBone dX7_readBone_206
theorem rX7_readBone_207 : ab_Run X 47 207 (13, 0, 0) L (ab_I z :: ab_R a :: st) σ Q ↔ (ab_sh σ a).1 = 5 ∧ ab_Run X 47 210 (13, 0, 0) L st (ab_wr σ a 5 z) Q := sF_7_50 ko_X7_readBone kc_X7_readBone dX7_readBone_207
theorem rX7_readBone_210 : ab_Run X 47 210 (13, 0, 0) L st σ Q ↔ ab_Run X 47 211 (13, 0, 0) L (ab_I 1 :: st) σ Q := ab_r_iconst (by decide) kc_X7_readBone dX7_readBone_210
theorem rX7_readBone_211 : ab_Run X 47 211 (13, 0, 0) L [ab_I v] σ Q ↔ (v = 0 ∨ v = 1) ∧ Q (some (ab_I v)) σ := ab_r_ireturnZ rfl kc_X7_readBone dX7_readBone_211
theorem kc_X7_readArm : ab_code 48 = cX7_readArm := rfl
theorem ko_X7_readArm : ab_ow 48 = 7 := rfl
theorem rX7_readArm_0 : ab_Run X 48 0 (2, 0, 0) L st σ Q ↔ ab_Run X 48 1 (2, 0, 0) L (ab_I 0 :: st) σ Q := ab_r_iconst (by decide) kc_X7_readArm dX7_readArm_0
theorem rX7_readArm_1 : ab_Run X 48 1 (2, 0, 0) [l0, l1, l2, l3] (ab_I z :: st) σ Q ↔ (!ab_isJ l2) = true ∧ ab_Run X 48 2 (2, 0, 0) [l0, l1, l2, ab_I z] st σ Q := ab_r_istore_n (Nat.le_of_ble_eq_true rfl) kc_X7_readArm dX7_readArm_1
theorem rX7_readArm_2 : ab_Run X 48 2 (2, 0, 0) [l0, l1, l2, ab_I z] st σ Q ↔ ab_Run X 48 3 (2, 0, 0) [l0, l1, l2, ab_I z] (ab_I z :: st) σ Q := ab_r_iload_n rfl kc_X7_readArm dX7_readArm_2
theorem rX7_readArm_3 : ab_Run X 48 3 (2, 0, 0) L st σ Q ↔ ab_Run X 48 5 (2, 0, 0) L (ab_I 6 :: st) σ Q := ab_r_bipush (by decide) kc_X7_readArm dX7_readArm_3
theorem rX7_readArm_5 : ab_Run X 48 5 (2, 0, 0) L (ab_I b :: ab_I a :: st) σ Q ↔ (b < a → ab_Run X 48 75 (2, 0, 0) L st σ Q) ∧ (¬ (b < a) → ab_Run X 48 8 (2, 0, 0) L st σ Q) := ab_r_icmp_gt rfl kc_X7_readArm dX7_readArm_5
theorem rX7_readArm_8 : ab_Run X 48 8 (2, 0, 0) [ab_R z, l1, l2, l3] st σ Q ↔ z ≠ 0 ∧ ab_Run X 48 9 (2, 0, 0) [ab_R z, l1, l2, l3] (ab_R z :: st) σ Q := ab_r_aload_n rfl kc_X7_readArm dX7_readArm_8
theorem rX7_readArm_9 : ab_Run X 48 9 (2, 0, 0) L st σ Q ↔ ab_Run X 48 10 (2, 0, 0) L (ab_I 1 :: st) σ Q := ab_r_iconst (by decide) kc_X7_readArm dX7_readArm_9
theorem rX7_readArm_10 : ab_Run X 48 10 (2, 0, 0) L st σ Q ↔ ab_Run X 48 12 (2, 0, 0) L (ab_I 9 :: st) σ Q := ab_r_bipush (by decide) kc_X7_readArm dX7_readArm_10
theorem rX7_readArm_12 : ab_Run X 48 12 (2, 0, 0) L (ab_I x2 :: ab_I x1 :: ab_R a :: st) σ Q ↔ ((ab_sh σ a).1 = 8 ∧ ab_cats st ≤ 8) ∧ ab_Do X 57 [ab_R a, ab_I x1, ab_I x2] σ (fun r σ' => ab_Run X 48 15 (2, 0, 0) L (ab_psh r st) σ' Q) := ab_r_callV (w := [ab_I x2, ab_I x1]) (as := [ab_I x1, ab_I x2]) (b1 := (1, 0, 0)) 0 (Or.inl rfl) (by decide) ko_X7_readArm qM_7_194 (by decide) rfl rfl rfl rfl rfl (by decide) (Nat.le_of_ble_eq_true rfl) kc_X7_readArm dX7_readArm_12
theorem rX7_readArm_15 : ab_Run X 48 15 (2, 0, 0) L (ab_I a :: st) σ Q ↔ (¬ a = 0 → ab_Run X 48 20 (2, 0, 0) L st σ Q) ∧ (¬ (¬ a = 0) → ab_Run X 48 18 (2, 0, 0) L st σ Q) := ab_r_if_ne rfl kc_X7_readArm dX7_readArm_15
theorem rX7_readArm_18 : ab_Run X 48 18 (2, 0, 0) L st σ Q ↔ ab_Run X 48 19 (2, 0, 0) L (ab_I 0 :: st) σ Q := ab_r_iconst (by decide) kc_X7_readArm dX7_readArm_18
theorem rX7_readArm_19 : ab_Run X 48 19 (2, 0, 0) L [ab_I v] σ Q ↔ (v = 0 ∨ v = 1) ∧ Q (some (ab_I v)) σ := ab_r_ireturnZ rfl kc_X7_readArm dX7_readArm_19
theorem rX7_readArm_20 : ab_Run X 48 20 (2, 0, 0) [l0, l1, l2, ab_I z] st σ Q ↔ ab_Run X 48 21 (2, 0, 0) [l0, l1, l2, ab_I z] (ab_I z :: st) σ Q := ab_r_iload_n rfl kc_X7_readArm dX7_readArm_20
theorem rX7_readArm_21 : ab_Run X 48 21 (2, 0, 0) L st σ Q ↔ ab_Run X 48 23 (2, 0, 0) L (ab_I 6 :: st) σ Q := ab_r_bipush (by decide) kc_X7_readArm dX7_readArm_21
theorem rX7_readArm_23 : ab_Run X 48 23 (2, 0, 0) L (ab_I b :: ab_I a :: st) σ Q ↔ (a < b → ab_Run X 48 32 (2, 0, 0) L st σ Q) ∧ (¬ (a < b) → ab_Run X 48 26 (2, 0, 0) L st σ Q) := ab_r_icmp_lt rfl kc_X7_readArm dX7_readArm_23
theorem rX7_readArm_26 : ab_Run X 48 26 (2, 0, 0) [ab_R z, l1, l2, l3] st σ Q ↔ z ≠ 0 ∧ ab_Run X 48 27 (2, 0, 0) [ab_R z, l1, l2, l3] (ab_R z :: st) σ Q := ab_r_aload_n rfl kc_X7_readArm dX7_readArm_26
theorem rX7_readArm_27 : ab_Run X 48 27 (2, 0, 0) L st σ Q ↔ ab_Run X 48 28 (2, 0, 0) L (ab_I 5 :: st) σ Q := ab_r_iconst (by decide) kc_X7_readArm dX7_readArm_27
theorem rX7_readArm_28 : ab_Run X 48 28 (2, 0, 0) L (ab_I x1 :: ab_R a :: st) σ Q ↔ ((ab_sh σ a).1 = 8 ∧ ab_cats st ≤ 8) ∧ ab_Do X 43 [ab_R a, ab_I x1] σ (fun r σ' => ab_Run X 48 31 (2, 0, 0) L (ab_psh r st) σ' Q) := ab_r_callV (w := [ab_I x1]) (as := [ab_I x1]) (b1 := (0, 0, 0)) 0 (Or.inl rfl) (by decide) ko_X7_readArm qM_7_56 (by decide) rfl rfl rfl rfl rfl (by decide) (Nat.le_of_ble_eq_true rfl) kc_X7_readArm dX7_readArm_28
theorem rX7_readArm_31 : ab_Run X 48 31 (2, 0, 0) L [ab_I v] σ Q ↔ (v = 0 ∨ v = 1) ∧ Q (some (ab_I v)) σ := ab_r_ireturnZ rfl kc_X7_readArm dX7_readArm_31
theorem rX7_readArm_32 : ab_Run X 48 32 (2, 0, 0) [l0, ab_R z, l2, l3] st σ Q ↔ z ≠ 0 ∧ ab_Run X 48 33 (2, 0, 0) [l0, ab_R z, l2, l3] (ab_R z :: st) σ Q := ab_r_aload_n rfl kc_X7_readArm dX7_readArm_32
theorem rX7_readArm_33 : ab_Run X 48 33 (2, 0, 0) [l0, l1, ab_I z, l3] st σ Q ↔ ab_Run X 48 34 (2, 0, 0) [l0, l1, ab_I z, l3] (ab_I z :: st) σ Q := ab_r_iload_n rfl kc_X7_readArm dX7_readArm_33
theorem rX7_readArm_34 : ab_Run X 48 34 (2, 0, 0) [l0, l1, l2, ab_I z] st σ Q ↔ ab_Run X 48 35 (2, 0, 0) [l0, l1, l2, ab_I z] (ab_I z :: st) σ Q := ab_r_iload_n rfl kc_X7_readArm dX7_readArm_34
theorem rX7_readArm_35 : ab_Run X 48 35 (2, 0, 0) [ab_R z, l1, l2, l3] st σ Q ↔ z ≠ 0 ∧ ab_Run X 48 36 (2, 0, 0) [ab_R z, l1, l2, l3] (ab_R z :: st) σ Q := ab_r_aload_n rfl kc_X7_readArm dX7_readArm_35
theorem rX7_readArm_36 : ab_Run X 48 36 (2, 0, 0) L (ab_R a :: st) σ Q ↔ (ab_sh σ a).1 = 8 ∧ ab_Run X 48 39 (2, 0, 0) L (ab_I (ab_rd σ a 5) :: st) σ Q := gF_7_124 ko_X7_readArm kc_X7_readArm dX7_readArm_36
theorem rX7_readArm_39 : ab_Run X 48 39 (2, 0, 0) L (ab_I x3 :: ab_I x2 :: ab_I x1 :: ab_R a :: st) σ Q ↔ ((ab_sh σ a).1 = 2 ∧ ab_cats st ≤ 8) ∧ ab_Do X 6 [ab_R a, ab_I x1, ab_I x2, ab_I x3] σ (fun r σ' => ab_Run X 48 42 (2, 0, 0) L (ab_psh r st) σ' Q) := ab_r_callV (w := [ab_I x3, ab_I x2, ab_I x1]) (as := [ab_I x1, ab_I x2, ab_I x3]) (b1 := (0, 0, 0)) 0 (Or.inl rfl) (by decide) ko_X7_readArm qM_7_197 (by decide) rfl rfl rfl rfl rfl (by decide) (Nat.le_of_ble_eq_true rfl) kc_X7_readArm dX7_readArm_39
theorem rX7_readArm_42 : ab_Run X 48 42 (2, 0, 0) [ab_R z, l1, l2, l3] st σ Q ↔ z ≠ 0 ∧ ab_Run X 48 43 (2, 0, 0) [ab_R z, l1, l2, l3] (ab_R z :: st) σ Q := ab_r_aload_n rfl kc_X7_readArm dX7_readArm_42
theorem rX7_readArm_43 : ab_Run X 48 43 (2, 0, 0) L (ab_R a :: st) σ Q ↔ (ab_sh σ a).1 = 8 ∧ ab_Run X 48 46 (2, 0, 0) L (ab_R (ab_rd σ a 0) :: st) σ Q := gF_7_12 ko_X7_readArm kc_X7_readArm dX7_readArm_43
theorem rX7_readArm_46 : ab_Run X 48 46 (2, 0, 0) L (ab_R a :: st) σ Q ↔ ((ab_sh σ a).1 = 10 ∧ ab_cats st ≤ 8) ∧ ab_Do X 70 [ab_R a] σ (fun r σ' => ab_Run X 48 49 (2, 0, 0) L (ab_psh r st) σ' Q) := ab_r_callV (w := []) (as := []) (b1 := (1, 0, 0)) 0 (Or.inl rfl) (by decide) ko_X7_readArm qM_7_60 (by decide) rfl rfl rfl rfl rfl (by decide) (Nat.le_of_ble_eq_true rfl) kc_X7_readArm dX7_readArm_46
theorem rX7_readArm_49 : ab_Run X 48 49 (2, 0, 0) [ab_R z, l1, l2, l3] st σ Q ↔ z ≠ 0 ∧ ab_Run X 48 50 (2, 0, 0) [ab_R z, l1, l2, l3] (ab_R z :: st) σ Q := ab_r_aload_n rfl kc_X7_readArm dX7_readArm_49
theorem rX7_readArm_50 : ab_Run X 48 50 (2, 0, 0) L (ab_R a :: st) σ Q ↔ (ab_sh σ a).1 = 8 ∧ ab_Run X 48 53 (2, 0, 0) L (ab_R (ab_rd σ a 0) :: st) σ Q := gF_7_12 ko_X7_readArm kc_X7_readArm dX7_readArm_50
theorem rX7_readArm_53 : ab_Run X 48 53 (2, 0, 0) L (ab_R a :: st) σ Q ↔ (ab_sh σ a).1 = 10 ∧ ab_Run X 48 56 (2, 0, 0) L (ab_I (ab_rd σ a 2) :: st) σ Q := gF_7_47 ko_X7_readArm kc_X7_readArm dX7_readArm_53
theorem rX7_readArm_56 : ab_Run X 48 56 (2, 0, 0) L st σ Q ↔ ab_Run X 48 57 (2, 0, 0) L (ab_I 5 :: st) σ Q := ab_r_iconst (by decide) kc_X7_readArm dX7_readArm_56
theorem rX7_readArm_57 : ab_Run X 48 57 (2, 0, 0) L (ab_I b :: ab_I a :: st) σ Q ↔ (a = b → ab_Run X 48 62 (2, 0, 0) L st σ Q) ∧ (¬ (a = b) → ab_Run X 48 60 (2, 0, 0) L st σ Q) := ab_r_icmp_eq rfl kc_X7_readArm dX7_readArm_57
theorem rX7_readArm_60 : ab_Run X 48 60 (2, 0, 0) L st σ Q ↔ ab_Run X 48 61 (2, 0, 0) L (ab_I 1 :: st) σ Q := ab_r_iconst (by decide) kc_X7_readArm dX7_readArm_60
theorem rX7_readArm_61 : ab_Run X 48 61 (2, 0, 0) L [ab_I v] σ Q ↔ (v = 0 ∨ v = 1) ∧ Q (some (ab_I v)) σ := ab_r_ireturnZ rfl kc_X7_readArm dX7_readArm_61
theorem rX7_readArm_62 : ab_Run X 48 62 (2, 0, 0) [ab_R z, l1, l2, l3] st σ Q ↔ z ≠ 0 ∧ ab_Run X 48 63 (2, 0, 0) [ab_R z, l1, l2, l3] (ab_R z :: st) σ Q := ab_r_aload_n rfl kc_X7_readArm dX7_readArm_62
theorem rX7_readArm_63 : ab_Run X 48 63 (2, 0, 0) L (ab_R a :: st) σ Q ↔ (ab_sh σ a).1 = 8 ∧ ab_Run X 48 66 (2, 0, 0) L (ab_R (ab_rd σ a 0) :: st) σ Q := gF_7_12 ko_X7_readArm kc_X7_readArm dX7_readArm_63
theorem rX7_readArm_66 : ab_Run X 48 66 (2, 0, 0) L (ab_R a :: st) σ Q ↔ ((ab_sh σ a).1 = 10 ∧ ab_cats st ≤ 8) ∧ ab_Do X 70 [ab_R a] σ (fun r σ' => ab_Run X 48 69 (2, 0, 0) L (ab_psh r st) σ' Q) := ab_r_callV (w := []) (as := []) (b1 := (1, 0, 0)) 0 (Or.inl rfl) (by decide) ko_X7_readArm qM_7_60 (by decide) rfl rfl rfl rfl rfl (by decide) (Nat.le_of_ble_eq_true rfl) kc_X7_readArm dX7_readArm_66
theorem rX7_readArm_69 : ab_Run X 48 69 (2, 0, 0) [l0, l1, l2, ab_I z] st σ Q ↔ (!ab_isJ l2) = true ∧ ab_Run X 48 72 (2, 0, 0) [l0, l1, l2, ab_I (ab_w32 (z + 1))] st σ Q := ab_r_iinc rfl (by decide) kc_X7_readArm dX7_readArm_69
theorem rX7_readArm_72 : ab_Run X 48 72 (2, 0, 0) L st σ Q ↔ ab_Run X 48 2 (2, 0, 0) L st σ Q := ab_r_goto rfl kc_X7_readArm dX7_readArm_72
theorem rX7_readArm_75 : ab_Run X 48 75 (2, 0, 0) L st σ Q ↔ ab_Run X 48 76 (2, 0, 0) L (ab_I 0 :: st) σ Q := ab_r_iconst (by decide) kc_X7_readArm dX7_readArm_75
theorem rX7_readArm_76 : ab_Run X 48 76 (2, 0, 0) L [ab_I v] σ Q ↔ (v = 0 ∨ v = 1) ∧ Q (some (ab_I v)) σ := ab_r_ireturnZ rfl kc_X7_readArm dX7_readArm_76
theorem kc_X7_readPerson : ab_code 49 = cX7_readPerson := rfl
theorem ko_X7_readPerson : ab_ow 49 = 7 := rfl
theorem rX7_readPerson_0 : ab_Run X 49 0 (13, 0, 0) [ab_R z, l1] st σ Q ↔ z ≠ 0 ∧ ab_Run X 49 1 (13, 0, 0) [ab_R z, l1] (ab_R z :: st) σ Q := ab_r_aload_n rfl kc_X7_readPerson dX7_readPerson_0
theorem rX7_readPerson_1 : ab_Run X 49 1 (13, 0, 0) L (ab_R a :: st) σ Q ↔ (ab_sh σ a).1 = 8 ∧ ab_Run X 49 4 (13, 0, 0) L (ab_R (ab_rd σ a 1) :: st) σ Q := gF_7_21 ko_X7_readPerson kc_X7_readPerson dX7_readPerson_1
theorem rX7_readPerson_4 : ab_Run X 49 4 (13, 0, 0) L (ab_R a :: st) σ Q ↔ (ab_sh σ a).1 = 5 ∧ ab_Run X 49 7 (13, 0, 0) L (ab_R (ab_rd σ a 8) :: st) σ Q := gF_7_201 ko_X7_readPerson kc_X7_readPerson dX7_readPerson_4
theorem rX7_readPerson_7 : ab_Run X 49 7 (13, 0, 0) [ab_R z, l1] st σ Q ↔ z ≠ 0 ∧ ab_Run X 49 8 (13, 0, 0) [ab_R z, l1] (ab_R z :: st) σ Q := ab_r_aload_n rfl kc_X7_readPerson dX7_readPerson_7
theorem rX7_readPerson_8 : ab_Run X 49 8 (13, 0, 0) L (ab_R a :: st) σ Q ↔ (ab_sh σ a).1 = 8 ∧ ab_Run X 49 11 (13, 0, 0) L (ab_R (ab_rd σ a 1) :: st) σ Q := gF_7_21 ko_X7_readPerson kc_X7_readPerson dX7_readPerson_8
theorem rX7_readPerson_11 : ab_Run X 49 11 (13, 0, 0) L (ab_R a :: st) σ Q ↔ (ab_sh σ a).1 = 5 ∧ ab_Run X 49 14 (13, 0, 0) L (ab_I (ab_rd σ a 7) :: st) σ Q := gF_7_53 ko_X7_readPerson kc_X7_readPerson dX7_readPerson_11
theorem rX7_readPerson_14 : ab_Run X 49 14 (13, 0, 0) L (ab_I i :: ab_R a :: st) σ Q ↔ ((25 ≤ (ab_sh σ a).1 ∧ (ab_sh σ a).1 < 30) ∧ 0 ≤ i ∧ i < (ab_sh σ a).2) ∧ ab_Run X 49 15 (13, 0, 0) L (ab_R (ab_rd σ a i) :: st) σ Q := ab_r_aaload kc_X7_readPerson dX7_readPerson_14
theorem rX7_readPerson_15 : ab_Run X 49 15 (13, 0, 0) [l0, l1] (ab_R z :: st) σ Q ↔ (!ab_isJ l0) = true ∧ ab_Run X 49 16 (13, 0, 0) [l0, ab_R z] st σ Q := ab_r_astore_n (Nat.le_of_ble_eq_true rfl) kc_X7_readPerson dX7_readPerson_15
theorem rX7_readPerson_16 : ab_Run X 49 16 (13, 0, 0) [ab_R z, l1] st σ Q ↔ z ≠ 0 ∧ ab_Run X 49 17 (13, 0, 0) [ab_R z, l1] (ab_R z :: st) σ Q := ab_r_aload_n rfl kc_X7_readPerson dX7_readPerson_16
theorem rX7_readPerson_17 : ab_Run X 49 17 (13, 0, 0) L (ab_R a :: st) σ Q ↔ ((ab_sh σ a).1 = 8 ∧ ab_cats st ≤ 8) ∧ ab_Do X 59 [ab_R a] σ (fun r σ' => ab_Run X 49 20 (13, 0, 0) L (ab_psh r st) σ' Q) := ab_r_callV (w := []) (as := []) (b1 := (12, 0, 0)) 0 (Or.inl rfl) (by decide) ko_X7_readPerson qM_7_149 (by decide) rfl rfl rfl rfl rfl (by decide) (Nat.le_of_ble_eq_true rfl) kc_X7_readPerson dX7_readPerson_17
theorem rX7_readPerson_20 : ab_Run X 49 20 (13, 0, 0) L (ab_I a :: st) σ Q ↔ (¬ a = 0 → ab_Run X 49 25 (13, 0, 0) L st σ Q) ∧ (¬ (¬ a = 0) → ab_Run X 49 23 (13, 0, 0) L st σ Q) := ab_r_if_ne rfl kc_X7_readPerson dX7_readPerson_20
theorem rX7_readPerson_23 : ab_Run X 49 23 (13, 0, 0) L st σ Q ↔ ab_Run X 49 24 (13, 0, 0) L (ab_I 0 :: st) σ Q := ab_r_iconst (by decide) kc_X7_readPerson dX7_readPerson_23
theorem rX7_readPerson_24 : ab_Run X 49 24 (13, 0, 0) L [ab_I v] σ Q ↔ (v = 0 ∨ v = 1) ∧ Q (some (ab_I v)) σ := ab_r_ireturnZ rfl kc_X7_readPerson dX7_readPerson_24
theorem rX7_readPerson_25 : ab_Run X 49 25 (13, 0, 0) [l0, ab_R z] st σ Q ↔ z ≠ 0 ∧ ab_Run X 49 26 (13, 0, 0) [l0, ab_R z] (ab_R z :: st) σ Q := ab_r_aload_n rfl kc_X7_readPerson dX7_readPerson_25
theorem rX7_readPerson_26 : ab_Run X 49 26 (13, 0, 0) [ab_R z, l1] st σ Q ↔ z ≠ 0 ∧ ab_Run X 49 27 (13, 0, 0) [ab_R z, l1] (ab_R z :: st) σ Q := ab_r_aload_n rfl kc_X7_readPerson dX7_readPerson_26
theorem rX7_readPerson_27 : ab_Run X 49 27 (13, 0, 0) L (ab_R a :: st) σ Q ↔ (ab_sh σ a).1 = 8 ∧ ab_Run X 49 30 (13, 0, 0) L (ab_R (ab_rd σ a 0) :: st) σ Q := gF_7_12 ko_X7_readPerson kc_X7_readPerson dX7_readPerson_27
theorem rX7_readPerson_30 : ab_Run X 49 30 (13, 0, 0) L (ab_R a :: st) σ Q ↔ (ab_sh σ a).1 = 10 ∧ ab_Run X 49 33 (13, 0, 0) L (ab_J (ab_rd σ a 5) :: st) σ Q := gF_7_152 ko_X7_readPerson kc_X7_readPerson dX7_readPerson_30
theorem rX7_readPerson_33 : ab_Run X 49 33 (13, 0, 0) L (ab_J x1 :: ab_R a :: st) σ Q ↔ ((ab_sh σ a).1 = 6 ∧ ab_cats st ≤ 8) ∧ ab_Do X 31 [ab_R a, ab_J x1] σ (fun r σ' => ab_Run X 49 36 (13, 0, 0) L (ab_psh r st) σ' Q) := ab_r_callV (w := [ab_J x1]) (as := [ab_J x1]) (b1 := (0, 0, 0)) 0 (Or.inl rfl) (by decide) ko_X7_readPerson qM_7_205 (by decide) rfl rfl rfl rfl rfl (by decide) (Nat.le_of_ble_eq_true rfl) kc_X7_readPerson dX7_readPerson_33
theorem rX7_readPerson_36 : ab_Run X 49 36 (13, 0, 0) [ab_R z, l1] st σ Q ↔ z ≠ 0 ∧ ab_Run X 49 37 (13, 0, 0) [ab_R z, l1] (ab_R z :: st) σ Q := ab_r_aload_n rfl kc_X7_readPerson dX7_readPerson_36
theorem rX7_readPerson_37 : ab_Run X 49 37 (13, 0, 0) L (ab_R a :: st) σ Q ↔ (ab_sh σ a).1 = 8 ∧ ab_Run X 49 40 (13, 0, 0) L (ab_R (ab_rd σ a 0) :: st) σ Q := gF_7_12 ko_X7_readPerson kc_X7_readPerson dX7_readPerson_37
theorem rX7_readPerson_40 : ab_Run X 49 40 (13, 0, 0) L (ab_R a :: st) σ Q ↔ ((ab_sh σ a).1 = 10 ∧ ab_cats st ≤ 8) ∧ ab_Do X 70 [ab_R a] σ (fun r σ' => ab_Run X 49 43 (13, 0, 0) L (ab_psh r st) σ' Q) := ab_r_callV (w := []) (as := []) (b1 := (1, 0, 0)) 0 (Or.inl rfl) (by decide) ko_X7_readPerson qM_7_60 (by decide) rfl rfl rfl rfl rfl (by decide) (Nat.le_of_ble_eq_true rfl) kc_X7_readPerson dX7_readPerson_40
theorem rX7_readPerson_43 : ab_Run X 49 43 (13, 0, 0) [ab_R z, l1] st σ Q ↔ z ≠ 0 ∧ ab_Run X 49 44 (13, 0, 0) [ab_R z, l1] (ab_R z :: st) σ Q := ab_r_aload_n rfl kc_X7_readPerson dX7_readPerson_43
theorem rX7_readPerson_44 : ab_Run X 49 44 (13, 0, 0) L st σ Q ↔ ab_Run X 49 46 (13, 0, 0) L (ab_R (-21) :: st) σ Q := ab_r_ldcS (n := 19) rfl ko_X7_readPerson (by decide +kernel) (by decide +kernel) rfl kc_X7_readPerson dX7_readPerson_44
theorem rX7_readPerson_46 : ab_Run X 49 46 (13, 0, 0) L st σ Q ↔ ab_Run X 49 48 (13, 0, 0) L (ab_R (-22) :: st) σ Q := ab_r_ldcS (n := 20) rfl ko_X7_readPerson (by decide +kernel) (by decide +kernel) rfl kc_X7_readPerson dX7_readPerson_46
theorem rX7_readPerson_48 : ab_Run X 49 48 (13, 0, 0) L st σ Q ↔ ab_Run X 49 50 (13, 0, 0) L (ab_R (-23) :: st) σ Q := ab_r_ldcS (n := 21) rfl ko_X7_readPerson (by decide +kernel) (by decide +kernel) rfl kc_X7_readPerson dX7_readPerson_48
theorem rX7_readPerson_50 : ab_Run X 49 50 (13, 0, 0) L st σ Q ↔ ab_Run X 49 52 (13, 0, 0) L (ab_R (-24) :: st) σ Q := ab_r_ldcS (n := 22) rfl ko_X7_readPerson (by decide +kernel) (by decide +kernel) rfl kc_X7_readPerson dX7_readPerson_50
theorem rX7_readPerson_52 : ab_Run X 49 52 (13, 0, 0) L (ab_R x4 :: ab_R x3 :: ab_R x2 :: ab_R x1 :: ab_R a :: st) σ Q ↔ ((ab_sh σ a).1 = 8 ∧ ab_cats st ≤ 8) ∧ ab_Do X 56 [ab_R a, ab_R x1, ab_R x2, ab_R x3, ab_R x4] σ (fun r σ' => ab_Run X 49 55 (13, 0, 0) L (ab_psh r st) σ' Q) := ab_r_callV (w := [ab_R x4, ab_R x3, ab_R x2, ab_R x1]) (as := [ab_R x1, ab_R x2, ab_R x3, ab_R x4]) (b1 := (11, 0, 0)) 0 (Or.inl rfl) (by decide) ko_X7_readPerson qM_7_169 (by decide) rfl rfl rfl rfl rfl (by decide) (Nat.le_of_ble_eq_true rfl) kc_X7_readPerson dX7_readPerson_52
theorem rX7_readPerson_55 : ab_Run X 49 55 (13, 0, 0) L (ab_I a :: st) σ Q ↔ (¬ a = 0 → ab_Run X 49 60 (13, 0, 0) L st σ Q) ∧ (¬ (¬ a = 0) → ab_Run X 49 58 (13, 0, 0) L st σ Q) := ab_r_if_ne rfl kc_X7_readPerson dX7_readPerson_55
theorem rX7_readPerson_58 : ab_Run X 49 58 (13, 0, 0) L st σ Q ↔ ab_Run X 49 59 (13, 0, 0) L (ab_I 0 :: st) σ Q := ab_r_iconst (by decide) kc_X7_readPerson dX7_readPerson_58
theorem rX7_readPerson_59 : ab_Run X 49 59 (13, 0, 0) L [ab_I v] σ Q ↔ (v = 0 ∨ v = 1) ∧ Q (some (ab_I v)) σ := ab_r_ireturnZ rfl kc_X7_readPerson dX7_readPerson_59
theorem rX7_readPerson_60 : ab_Run X 49 60 (13, 0, 0) [l0, ab_R z] st σ Q ↔ z ≠ 0 ∧ ab_Run X 49 61 (13, 0, 0) [l0, ab_R z] (ab_R z :: st) σ Q := ab_r_aload_n rfl kc_X7_readPerson dX7_readPerson_60
theorem rX7_readPerson_61 : ab_Run X 49 61 (13, 0, 0) [ab_R z, l1] st σ Q ↔ z ≠ 0 ∧ ab_Run X 49 62 (13, 0, 0) [ab_R z, l1] (ab_R z :: st) σ Q := ab_r_aload_n rfl kc_X7_readPerson dX7_readPerson_61
theorem rX7_readPerson_62 : ab_Run X 49 62 (13, 0, 0) L (ab_R a :: st) σ Q ↔ (ab_sh σ a).1 = 8 ∧ ab_Run X 49 65 (13, 0, 0) L (ab_I (ab_rd σ a 5) :: st) σ Q := gF_7_124 ko_X7_readPerson kc_X7_readPerson dX7_readPerson_62
theorem rX7_readPerson_65 : ab_Run X 49 65 (13, 0, 0) L (ab_I z :: ab_R a :: st) σ Q ↔ (ab_sh σ a).1 = 6 ∧ ab_Run X 49 68 (13, 0, 0) L st (ab_wr σ a 1 z) Q := sF_7_219 ko_X7_readPerson kc_X7_readPerson dX7_readPerson_65
theorem rX7_readPerson_68 : ab_Run X 49 68 (13, 0, 0) [ab_R z, l1] st σ Q ↔ z ≠ 0 ∧ ab_Run X 49 69 (13, 0, 0) [ab_R z, l1] (ab_R z :: st) σ Q := ab_r_aload_n rfl kc_X7_readPerson dX7_readPerson_68
theorem rX7_readPerson_69 : ab_Run X 49 69 (13, 0, 0) L st σ Q ↔ ab_Run X 49 71 (13, 0, 0) L (ab_R (-25) :: st) σ Q := ab_r_ldcS (n := 23) rfl ko_X7_readPerson (by decide +kernel) (by decide +kernel) rfl kc_X7_readPerson dX7_readPerson_69
theorem rX7_readPerson_71 : ab_Run X 49 71 (13, 0, 0) L st σ Q ↔ ab_Run X 49 72 (13, 0, 0) L (ab_I 1 :: st) σ Q := ab_r_iconst (by decide) kc_X7_readPerson dX7_readPerson_71
theorem rX7_readPerson_72 : ab_Run X 49 72 (13, 0, 0) L st σ Q ↔ ab_Run X 49 74 (13, 0, 0) L (ab_I 40 :: st) σ Q := ab_r_bipush (by decide) kc_X7_readPerson dX7_readPerson_72
theorem rX7_readPerson_74 : ab_Run X 49 74 (13, 0, 0) L (ab_I x3 :: ab_I x2 :: ab_R x1 :: ab_R a :: st) σ Q ↔ ((ab_sh σ a).1 = 8 ∧ ab_cats st ≤ 8) ∧ ab_Do X 55 [ab_R a, ab_R x1, ab_I x2, ab_I x3] σ (fun r σ' => ab_Run X 49 77 (13, 0, 0) L (ab_psh r st) σ' Q) := ab_r_callV (w := [ab_I x3, ab_I x2, ab_R x1]) (as := [ab_R x1, ab_I x2, ab_I x3]) (b1 := (12, 0, 0)) 0 (Or.inl rfl) (by decide) ko_X7_readPerson qM_7_120 (by decide) rfl rfl rfl rfl rfl (by decide) (Nat.le_of_ble_eq_true rfl) kc_X7_readPerson dX7_readPerson_74
theorem rX7_readPerson_77 : ab_Run X 49 77 (13, 0, 0) L (ab_I a :: st) σ Q ↔ (¬ a = 0 → ab_Run X 49 82 (13, 0, 0) L st σ Q) ∧ (¬ (¬ a = 0) → ab_Run X 49 80 (13, 0, 0) L st σ Q) := ab_r_if_ne rfl kc_X7_readPerson dX7_readPerson_77
theorem rX7_readPerson_80 : ab_Run X 49 80 (13, 0, 0) L st σ Q ↔ ab_Run X 49 81 (13, 0, 0) L (ab_I 0 :: st) σ Q := ab_r_iconst (by decide) kc_X7_readPerson dX7_readPerson_80
theorem rX7_readPerson_81 : ab_Run X 49 81 (13, 0, 0) L [ab_I v] σ Q ↔ (v = 0 ∨ v = 1) ∧ Q (some (ab_I v)) σ := ab_r_ireturnZ rfl kc_X7_readPerson dX7_readPerson_81
theorem rX7_readPerson_82 : ab_Run X 49 82 (13, 0, 0) [l0, ab_R z] st σ Q ↔ z ≠ 0 ∧ ab_Run X 49 83 (13, 0, 0) [l0, ab_R z] (ab_R z :: st) σ Q := ab_r_aload_n rfl kc_X7_readPerson dX7_readPerson_82
theorem rX7_readPerson_83 : ab_Run X 49 83 (13, 0, 0) [ab_R z, l1] st σ Q ↔ z ≠ 0 ∧ ab_Run X 49 84 (13, 0, 0) [ab_R z, l1] (ab_R z :: st) σ Q := ab_r_aload_n rfl kc_X7_readPerson dX7_readPerson_83
theorem rX7_readPerson_84 : ab_Run X 49 84 (13, 0, 0) L (ab_R a :: st) σ Q ↔ (ab_sh σ a).1 = 8 ∧ ab_Run X 49 87 (13, 0, 0) L (ab_I (ab_rd σ a 5) :: st) σ Q := gF_7_124 ko_X7_readPerson kc_X7_readPerson dX7_readPerson_84
theorem rX7_readPerson_87 : ab_Run X 49 87 (13, 0, 0) L (ab_I z :: ab_R a :: st) σ Q ↔ (ab_sh σ a).1 = 6 ∧ ab_Run X 49 90 (13, 0, 0) L st (ab_wr σ a 2 z) Q := sF_7_222 ko_X7_readPerson kc_X7_readPerson dX7_readPerson_87
theorem rX7_readPerson_90 : ab_Run X 49 90 (13, 0, 0) [ab_R z, l1] st σ Q ↔ z ≠ 0 ∧ ab_Run X 49 91 (13, 0, 0) [ab_R z, l1] (ab_R z :: st) σ Q := ab_r_aload_n rfl kc_X7_readPerson dX7_readPerson_90
theorem rX7_readPerson_91 : ab_Run X 49 91 (13, 0, 0) L st σ Q ↔ ab_Run X 49 93 (13, 0, 0) L (ab_R (-26) :: st) σ Q := ab_r_ldcS (n := 24) rfl ko_X7_readPerson (by decide +kernel) (by decide +kernel) rfl kc_X7_readPerson dX7_readPerson_91
theorem rX7_readPerson_93 : ab_Run X 49 93 (13, 0, 0) L st σ Q ↔ ab_Run X 49 94 (13, 0, 0) L (ab_I 1 :: st) σ Q := ab_r_iconst (by decide) kc_X7_readPerson dX7_readPerson_93
theorem rX7_readPerson_94 : ab_Run X 49 94 (13, 0, 0) L st σ Q ↔ ab_Run X 49 96 (13, 0, 0) L (ab_I 6 :: st) σ Q := ab_r_bipush (by decide) kc_X7_readPerson dX7_readPerson_94
theorem rX7_readPerson_96 : ab_Run X 49 96 (13, 0, 0) L (ab_I x3 :: ab_I x2 :: ab_R x1 :: ab_R a :: st) σ Q ↔ ((ab_sh σ a).1 = 8 ∧ ab_cats st ≤ 8) ∧ ab_Do X 55 [ab_R a, ab_R x1, ab_I x2, ab_I x3] σ (fun r σ' => ab_Run X 49 99 (13, 0, 0) L (ab_psh r st) σ' Q) := ab_r_callV (w := [ab_I x3, ab_I x2, ab_R x1]) (as := [ab_R x1, ab_I x2, ab_I x3]) (b1 := (12, 0, 0)) 0 (Or.inl rfl) (by decide) ko_X7_readPerson qM_7_120 (by decide) rfl rfl rfl rfl rfl (by decide) (Nat.le_of_ble_eq_true rfl) kc_X7_readPerson dX7_readPerson_96
theorem rX7_readPerson_99 : ab_Run X 49 99 (13, 0, 0) L (ab_I a :: st) σ Q ↔ (¬ a = 0 → ab_Run X 49 104 (13, 0, 0) L st σ Q) ∧ (¬ (¬ a = 0) → ab_Run X 49 102 (13, 0, 0) L st σ Q) := ab_r_if_ne rfl kc_X7_readPerson dX7_readPerson_99
theorem rX7_readPerson_102 : ab_Run X 49 102 (13, 0, 0) L st σ Q ↔ ab_Run X 49 103 (13, 0, 0) L (ab_I 0 :: st) σ Q := ab_r_iconst (by decide) kc_X7_readPerson dX7_readPerson_102
theorem rX7_readPerson_103 : ab_Run X 49 103 (13, 0, 0) L [ab_I v] σ Q ↔ (v = 0 ∨ v = 1) ∧ Q (some (ab_I v)) σ := ab_r_ireturnZ rfl kc_X7_readPerson dX7_readPerson_103
theorem rX7_readPerson_104 : ab_Run X 49 104 (13, 0, 0) [l0, ab_R z] st σ Q ↔ z ≠ 0 ∧ ab_Run X 49 105 (13, 0, 0) [l0, ab_R z] (ab_R z :: st) σ Q := ab_r_aload_n rfl kc_X7_readPerson dX7_readPerson_104
theorem rX7_readPerson_105 : ab_Run X 49 105 (13, 0, 0) [ab_R z, l1] st σ Q ↔ z ≠ 0 ∧ ab_Run X 49 106 (13, 0, 0) [ab_R z, l1] (ab_R z :: st) σ Q := ab_r_aload_n rfl kc_X7_readPerson dX7_readPerson_105
theorem rX7_readPerson_106 : ab_Run X 49 106 (13, 0, 0) L (ab_R a :: st) σ Q ↔ (ab_sh σ a).1 = 8 ∧ ab_Run X 49 109 (13, 0, 0) L (ab_I (ab_rd σ a 5) :: st) σ Q := gF_7_124 ko_X7_readPerson kc_X7_readPerson dX7_readPerson_106
theorem rX7_readPerson_109 : ab_Run X 49 109 (13, 0, 0) L (ab_I z :: ab_R a :: st) σ Q ↔ (ab_sh σ a).1 = 6 ∧ ab_Run X 49 112 (13, 0, 0) L st (ab_wr σ a 3 z) Q := sF_7_226 ko_X7_readPerson kc_X7_readPerson dX7_readPerson_109
theorem rX7_readPerson_112 : ab_Run X 49 112 (13, 0, 0) [ab_R z, l1] st σ Q ↔ z ≠ 0 ∧ ab_Run X 49 113 (13, 0, 0) [ab_R z, l1] (ab_R z :: st) σ Q := ab_r_aload_n rfl kc_X7_readPerson dX7_readPerson_112
theorem rX7_readPerson_113 : ab_Run X 49 113 (13, 0, 0) L st σ Q ↔ ab_Run X 49 115 (13, 0, 0) L (ab_R (-27) :: st) σ Q := ab_r_ldcS (n := 25) rfl ko_X7_readPerson (by decide +kernel) (by decide +kernel) rfl kc_X7_readPerson dX7_readPerson_113
theorem rX7_readPerson_115 : ab_Run X 49 115 (13, 0, 0) L st σ Q ↔ ab_Run X 49 116 (13, 0, 0) L (ab_I 0 :: st) σ Q := ab_r_iconst (by decide) kc_X7_readPerson dX7_readPerson_115
theorem rX7_readPerson_116 : ab_Run X 49 116 (13, 0, 0) L st σ Q ↔ ab_Run X 49 118 (13, 0, 0) L (ab_I 99 :: st) σ Q := ab_r_bipush (by decide) kc_X7_readPerson dX7_readPerson_116
theorem rX7_readPerson_118 : ab_Run X 49 118 (13, 0, 0) L (ab_I x3 :: ab_I x2 :: ab_R x1 :: ab_R a :: st) σ Q ↔ ((ab_sh σ a).1 = 8 ∧ ab_cats st ≤ 8) ∧ ab_Do X 55 [ab_R a, ab_R x1, ab_I x2, ab_I x3] σ (fun r σ' => ab_Run X 49 121 (13, 0, 0) L (ab_psh r st) σ' Q) := ab_r_callV (w := [ab_I x3, ab_I x2, ab_R x1]) (as := [ab_R x1, ab_I x2, ab_I x3]) (b1 := (12, 0, 0)) 0 (Or.inl rfl) (by decide) ko_X7_readPerson qM_7_120 (by decide) rfl rfl rfl rfl rfl (by decide) (Nat.le_of_ble_eq_true rfl) kc_X7_readPerson dX7_readPerson_118
theorem rX7_readPerson_121 : ab_Run X 49 121 (13, 0, 0) L (ab_I a :: st) σ Q ↔ (¬ a = 0 → ab_Run X 49 126 (13, 0, 0) L st σ Q) ∧ (¬ (¬ a = 0) → ab_Run X 49 124 (13, 0, 0) L st σ Q) := ab_r_if_ne rfl kc_X7_readPerson dX7_readPerson_121
theorem rX7_readPerson_124 : ab_Run X 49 124 (13, 0, 0) L st σ Q ↔ ab_Run X 49 125 (13, 0, 0) L (ab_I 0 :: st) σ Q := ab_r_iconst (by decide) kc_X7_readPerson dX7_readPerson_124
theorem rX7_readPerson_125 : ab_Run X 49 125 (13, 0, 0) L [ab_I v] σ Q ↔ (v = 0 ∨ v = 1) ∧ Q (some (ab_I v)) σ := ab_r_ireturnZ rfl kc_X7_readPerson dX7_readPerson_125
theorem rX7_readPerson_126 : ab_Run X 49 126 (13, 0, 0) [l0, ab_R z] st σ Q ↔ z ≠ 0 ∧ ab_Run X 49 127 (13, 0, 0) [l0, ab_R z] (ab_R z :: st) σ Q := ab_r_aload_n rfl kc_X7_readPerson dX7_readPerson_126
theorem rX7_readPerson_127 : ab_Run X 49 127 (13, 0, 0) [ab_R z, l1] st σ Q ↔ z ≠ 0 ∧ ab_Run X 49 128 (13, 0, 0) [ab_R z, l1] (ab_R z :: st) σ Q := ab_r_aload_n rfl kc_X7_readPerson dX7_readPerson_127
theorem rX7_readPerson_128 : ab_Run X 49 128 (13, 0, 0) L (ab_R a :: st) σ Q ↔ (ab_sh σ a).1 = 8 ∧ ab_Run X 49 131 (13, 0, 0) L (ab_I (ab_rd σ a 5) :: st) σ Q := gF_7_124 ko_X7_readPerson kc_X7_readPerson dX7_readPerson_128
theorem rX7_readPerson_131 : ab_Run X 49 131 (13, 0, 0) L (ab_I z :: ab_R a :: st) σ Q ↔ (ab_sh σ a).1 = 6 ∧ ab_Run X 49 134 (13, 0, 0) L st (ab_wr σ a 4 z) Q := sF_7_230 ko_X7_readPerson kc_X7_readPerson dX7_readPerson_131
theorem rX7_readPerson_134 : ab_Run X 49 134 (13, 0, 0) [l0, ab_R z] st σ Q ↔ z ≠ 0 ∧ ab_Run X 49 135 (13, 0, 0) [l0, ab_R z] (ab_R z :: st) σ Q := ab_r_aload_n rfl kc_X7_readPerson dX7_readPerson_134
theorem rX7_readPerson_135 : ab_Run X 49 135 (13, 0, 0) [ab_R z, l1] st σ Q ↔ z ≠ 0 ∧ ab_Run X 49 136 (13, 0, 0) [ab_R z, l1] (ab_R z :: st) σ Q := ab_r_aload_n rfl kc_X7_readPerson dX7_readPerson_135
theorem rX7_readPerson_136 : ab_Run X 49 136 (13, 0, 0) L (ab_R a :: st) σ Q ↔ (ab_sh σ a).1 = 8 ∧ ab_Run X 49 139 (13, 0, 0) L (ab_I (ab_rd σ a 5) :: st) σ Q := gF_7_124 ko_X7_readPerson kc_X7_readPerson dX7_readPerson_136
theorem rX7_readPerson_139 : ab_Run X 49 139 (13, 0, 0) L (ab_I z :: ab_R a :: st) σ Q ↔ (ab_sh σ a).1 = 6 ∧ ab_Run X 49 142 (13, 0, 0) L st (ab_wr σ a 5 z) Q := sF_7_232 ko_X7_readPerson kc_X7_readPerson dX7_readPerson_139
theorem rX7_readPerson_142 : ab_Run X 49 142 (13, 0, 0) [ab_R z, l1] st σ Q ↔ z ≠ 0 ∧ ab_Run X 49 143 (13, 0, 0) [ab_R z, l1] (ab_R z :: st) σ Q := ab_r_aload_n rfl kc_X7_readPerson dX7_readPerson_142
theorem rX7_readPerson_143 : ab_Run X 49 143 (13, 0, 0) L (ab_R a :: st) σ Q ↔ (ab_sh σ a).1 = 8 ∧ ab_Run X 49 146 (13, 0, 0) L (ab_R (ab_rd σ a 1) :: st) σ Q := gF_7_21 ko_X7_readPerson kc_X7_readPerson dX7_readPerson_143
theorem rX7_readPerson_146I : ab_Run X 49 146 (13, 0, 0) L (ab_I a :: st) σ Q ↔ ab_Run X 49 147 (13, 0, 0) L (ab_I a :: ab_I a :: st) σ Q := ab_r_dupI kc_X7_readPerson dX7_readPerson_146
theorem rX7_readPerson_146R : ab_Run X 49 146 (13, 0, 0) L (ab_R a :: st) σ Q ↔ ab_Run X 49 147 (13, 0, 0) L (ab_R a :: ab_R a :: st) σ Q := ab_r_dupR kc_X7_readPerson dX7_readPerson_146
theorem rX7_readPerson_147 : ab_Run X 49 147 (13, 0, 0) L (ab_R a :: st) σ Q ↔ (ab_sh σ a).1 = 5 ∧ ab_Run X 49 150 (13, 0, 0) L (ab_I (ab_rd σ a 7) :: st) σ Q := gF_7_53 ko_X7_readPerson kc_X7_readPerson dX7_readPerson_147
theorem rX7_readPerson_150 : ab_Run X 49 150 (13, 0, 0) L st σ Q ↔ ab_Run X 49 151 (13, 0, 0) L (ab_I 1 :: st) σ Q := ab_r_iconst (by decide) kc_X7_readPerson dX7_readPerson_150
theorem rX7_readPerson_151 : ab_Run X 49 151 (13, 0, 0) L (ab_I b :: ab_I a :: st) σ Q ↔ ab_Run X 49 152 (13, 0, 0) L (ab_I (ab_w32 (a + b)) :: st) σ Q := ab_r_iadd kc_X7_readPerson dX7_readPerson_151
theorem rX7_readPerson_152 : ab_Run X 49 152 (13, 0, 0) L (ab_I z :: ab_R a :: st) σ Q ↔ (ab_sh σ a).1 = 5 ∧ ab_Run X 49 155 (13, 0, 0) L st (ab_wr σ a 7 z) Q := sF_7_53 ko_X7_readPerson kc_X7_readPerson dX7_readPerson_152
theorem rX7_readPerson_155 : ab_Run X 49 155 (13, 0, 0) L st σ Q ↔ ab_Run X 49 156 (13, 0, 0) L (ab_I 1 :: st) σ Q := ab_r_iconst (by decide) kc_X7_readPerson dX7_readPerson_155
theorem rX7_readPerson_156 : ab_Run X 49 156 (13, 0, 0) L [ab_I v] σ Q ↔ (v = 0 ∨ v = 1) ∧ Q (some (ab_I v)) σ := ab_r_ireturnZ rfl kc_X7_readPerson dX7_readPerson_156
theorem kc_X7_readFor : ab_code 50 = cX7_readFor := rfl
theorem ko_X7_readFor : ab_ow 50 = 7 := rfl
theorem rX7_readFor_0 : ab_Run X 50 0 (13, 0, 0) [ab_R z, l1, l2, l3] st σ Q ↔ z ≠ 0 ∧ ab_Run X 50 1 (13, 0, 0) [ab_R z, l1, l2, l3] (ab_R z :: st) σ Q := ab_r_aload_n rfl kc_X7_readFor dX7_readFor_0
theorem rX7_readFor_1 : ab_Run X 50 1 (13, 0, 0) L st σ Q ↔ ab_Run X 50 2 (13, 0, 0) L (ab_I (-1) :: st) σ Q := ab_r_iconst (by decide) kc_X7_readFor dX7_readFor_1
theorem rX7_readFor_2 : ab_Run X 50 2 (13, 0, 0) L (ab_I x1 :: ab_R a :: st) σ Q ↔ ((ab_sh σ a).1 = 8 ∧ ab_cats st ≤ 8) ∧ ab_Do X 60 [ab_R a, ab_I x1] σ (fun r σ' => ab_Run X 50 5 (13, 0, 0) L (ab_psh r st) σ' Q) := ab_r_callV (w := [ab_I x1]) (as := [ab_I x1]) (b1 := (12, 0, 0)) 0 (Or.inl rfl) (by decide) ko_X7_readFor qM_7_235 (by decide) rfl rfl rfl rfl rfl (by decide) (Nat.le_of_ble_eq_true rfl) kc_X7_readFor dX7_readFor_2
theorem rX7_readFor_5 : ab_Run X 50 5 (13, 0, 0) L (ab_I a :: st) σ Q ↔ (¬ a = 0 → ab_Run X 50 10 (13, 0, 0) L st σ Q) ∧ (¬ (¬ a = 0) → ab_Run X 50 8 (13, 0, 0) L st σ Q) := ab_r_if_ne rfl kc_X7_readFor dX7_readFor_5
theorem rX7_readFor_8 : ab_Run X 50 8 (13, 0, 0) L st σ Q ↔ ab_Run X 50 9 (13, 0, 0) L (ab_I 0 :: st) σ Q := ab_r_iconst (by decide) kc_X7_readFor dX7_readFor_8
theorem rX7_readFor_9 : ab_Run X 50 9 (13, 0, 0) L [ab_I v] σ Q ↔ (v = 0 ∨ v = 1) ∧ Q (some (ab_I v)) σ := ab_r_ireturnZ rfl kc_X7_readFor dX7_readFor_9
theorem rX7_readFor_10 : ab_Run X 50 10 (13, 0, 0) [ab_R z, l1, l2, l3] st σ Q ↔ z ≠ 0 ∧ ab_Run X 50 11 (13, 0, 0) [ab_R z, l1, l2, l3] (ab_R z :: st) σ Q := ab_r_aload_n rfl kc_X7_readFor dX7_readFor_10
theorem rX7_readFor_11 : ab_Run X 50 11 (13, 0, 0) L (ab_R a :: st) σ Q ↔ (ab_sh σ a).1 = 8 ∧ ab_Run X 50 14 (13, 0, 0) L (ab_I (ab_rd σ a 5) :: st) σ Q := gF_7_124 ko_X7_readFor kc_X7_readFor dX7_readFor_11
theorem rX7_readFor_14 : ab_Run X 50 14 (13, 0, 0) [l0, l1, l2, l3] (ab_I z :: st) σ Q ↔ (!ab_isJ l0) = true ∧ ab_Run X 50 15 (13, 0, 0) [l0, ab_I z, l2, l3] st σ Q := ab_r_istore_n (Nat.le_of_ble_eq_true rfl) kc_X7_readFor dX7_readFor_14
theorem rX7_readFor_15 : ab_Run X 50 15 (13, 0, 0) [ab_R z, l1, l2, l3] st σ Q ↔ z ≠ 0 ∧ ab_Run X 50 16 (13, 0, 0) [ab_R z, l1, l2, l3] (ab_R z :: st) σ Q := ab_r_aload_n rfl kc_X7_readFor dX7_readFor_15
theorem rX7_readFor_16 : ab_Run X 50 16 (13, 0, 0) L (ab_R a :: st) σ Q ↔ (ab_sh σ a).1 = 8 ∧ ab_Run X 50 19 (13, 0, 0) L (ab_R (ab_rd σ a 0) :: st) σ Q := gF_7_12 ko_X7_readFor kc_X7_readFor dX7_readFor_16
theorem rX7_readFor_19 : ab_Run X 50 19 (13, 0, 0) L (ab_R a :: st) σ Q ↔ ((ab_sh σ a).1 = 10 ∧ ab_cats st ≤ 8) ∧ ab_Do X 70 [ab_R a] σ (fun r σ' => ab_Run X 50 22 (13, 0, 0) L (ab_psh r st) σ' Q) := ab_r_callV (w := []) (as := []) (b1 := (1, 0, 0)) 0 (Or.inl rfl) (by decide) ko_X7_readFor qM_7_60 (by decide) rfl rfl rfl rfl rfl (by decide) (Nat.le_of_ble_eq_true rfl) kc_X7_readFor dX7_readFor_19
theorem rX7_readFor_22 : ab_Run X 50 22 (13, 0, 0) [ab_R z, l1, l2, l3] st σ Q ↔ z ≠ 0 ∧ ab_Run X 50 23 (13, 0, 0) [ab_R z, l1, l2, l3] (ab_R z :: st) σ Q := ab_r_aload_n rfl kc_X7_readFor dX7_readFor_22
theorem rX7_readFor_23 : ab_Run X 50 23 (13, 0, 0) [l0, ab_I z, l2, l3] st σ Q ↔ ab_Run X 50 24 (13, 0, 0) [l0, ab_I z, l2, l3] (ab_I z :: st) σ Q := ab_r_iload_n rfl kc_X7_readFor dX7_readFor_23
theorem rX7_readFor_24 : ab_Run X 50 24 (13, 0, 0) L (ab_I x1 :: ab_R a :: st) σ Q ↔ ((ab_sh σ a).1 = 8 ∧ ab_cats st ≤ 8) ∧ ab_Do X 60 [ab_R a, ab_I x1] σ (fun r σ' => ab_Run X 50 27 (13, 0, 0) L (ab_psh r st) σ' Q) := ab_r_callV (w := [ab_I x1]) (as := [ab_I x1]) (b1 := (12, 0, 0)) 0 (Or.inl rfl) (by decide) ko_X7_readFor qM_7_235 (by decide) rfl rfl rfl rfl rfl (by decide) (Nat.le_of_ble_eq_true rfl) kc_X7_readFor dX7_readFor_24
theorem rX7_readFor_27 : ab_Run X 50 27 (13, 0, 0) L (ab_I a :: st) σ Q ↔ (¬ a = 0 → ab_Run X 50 32 (13, 0, 0) L st σ Q) ∧ (¬ (¬ a = 0) → ab_Run X 50 30 (13, 0, 0) L st σ Q) := ab_r_if_ne rfl kc_X7_readFor dX7_readFor_27
theorem rX7_readFor_30 : ab_Run X 50 30 (13, 0, 0) L st σ Q ↔ ab_Run X 50 31 (13, 0, 0) L (ab_I 0 :: st) σ Q := ab_r_iconst (by decide) kc_X7_readFor dX7_readFor_30
theorem rX7_readFor_31 : ab_Run X 50 31 (13, 0, 0) L [ab_I v] σ Q ↔ (v = 0 ∨ v = 1) ∧ Q (some (ab_I v)) σ := ab_r_ireturnZ rfl kc_X7_readFor dX7_readFor_31
theorem rX7_readFor_32 : ab_Run X 50 32 (13, 0, 0) [ab_R z, l1, l2, l3] st σ Q ↔ z ≠ 0 ∧ ab_Run X 50 33 (13, 0, 0) [ab_R z, l1, l2, l3] (ab_R z :: st) σ Q := ab_r_aload_n rfl kc_X7_readFor dX7_readFor_32
theorem rX7_readFor_33 : ab_Run X 50 33 (13, 0, 0) L (ab_R a :: st) σ Q ↔ (ab_sh σ a).1 = 8 ∧ ab_Run X 50 36 (13, 0, 0) L (ab_R (ab_rd σ a 1) :: st) σ Q := gF_7_21 ko_X7_readFor kc_X7_readFor dX7_readFor_33
theorem rX7_readFor_36 : ab_Run X 50 36 (13, 0, 0) L (ab_R a :: st) σ Q ↔ (ab_sh σ a).1 = 5 ∧ ab_Run X 50 39 (13, 0, 0) L (ab_R (ab_rd σ a 8) :: st) σ Q := gF_7_201 ko_X7_readFor kc_X7_readFor dX7_readFor_36
theorem rX7_readFor_39 : ab_Run X 50 39 (13, 0, 0) [l0, ab_I z, l2, l3] st σ Q ↔ ab_Run X 50 40 (13, 0, 0) [l0, ab_I z, l2, l3] (ab_I z :: st) σ Q := ab_r_iload_n rfl kc_X7_readFor dX7_readFor_39
theorem rX7_readFor_40 : ab_Run X 50 40 (13, 0, 0) L (ab_I i :: ab_R a :: st) σ Q ↔ ((25 ≤ (ab_sh σ a).1 ∧ (ab_sh σ a).1 < 30) ∧ 0 ≤ i ∧ i < (ab_sh σ a).2) ∧ ab_Run X 50 41 (13, 0, 0) L (ab_R (ab_rd σ a i) :: st) σ Q := ab_r_aaload kc_X7_readFor dX7_readFor_40
theorem rX7_readFor_41 : ab_Run X 50 41 (13, 0, 0) [l0, l1, l2, l3] (ab_R z :: st) σ Q ↔ (!ab_isJ l1) = true ∧ ab_Run X 50 42 (13, 0, 0) [l0, l1, ab_R z, l3] st σ Q := ab_r_astore_n (Nat.le_of_ble_eq_true rfl) kc_X7_readFor dX7_readFor_41
theorem rX7_readFor_42 : ab_Run X 50 42 (13, 0, 0) L st σ Q ↔ ab_Run X 50 43 (13, 0, 0) L (ab_I 1 :: st) σ Q := ab_r_iconst (by decide) kc_X7_readFor dX7_readFor_42
theorem rX7_readFor_43 : ab_Run X 50 43 (13, 0, 0) [ab_R z, l1, l2, l3] st σ Q ↔ z ≠ 0 ∧ ab_Run X 50 44 (13, 0, 0) [ab_R z, l1, l2, l3] (ab_R z :: st) σ Q := ab_r_aload_n rfl kc_X7_readFor dX7_readFor_43
theorem rX7_readFor_44 : ab_Run X 50 44 (13, 0, 0) L (ab_R a :: st) σ Q ↔ (ab_sh σ a).1 = 8 ∧ ab_Run X 50 47 (13, 0, 0) L (ab_I (ab_rd σ a 5) :: st) σ Q := gF_7_124 ko_X7_readFor kc_X7_readFor dX7_readFor_44
theorem rX7_readFor_47 : ab_Run X 50 47 (13, 0, 0) L (ab_I b :: ab_I a :: st) σ Q ↔ ab_Run X 50 48 (13, 0, 0) L (ab_I (ab_ok32 (fun x y => x <<< (y &&& 31)) a b) :: st) σ Q := ab_r_ishl kc_X7_readFor dX7_readFor_47
theorem rX7_readFor_48 : ab_Run X 50 48 (13, 0, 0) [l0, l1, l2, l3] (ab_I z :: st) σ Q ↔ (!ab_isJ l2) = true ∧ ab_Run X 50 49 (13, 0, 0) [l0, l1, l2, ab_I z] st σ Q := ab_r_istore_n (Nat.le_of_ble_eq_true rfl) kc_X7_readFor dX7_readFor_48
theorem rX7_readFor_49 : ab_Run X 50 49 (13, 0, 0) [l0, l1, ab_R z, l3] st σ Q ↔ z ≠ 0 ∧ ab_Run X 50 50 (13, 0, 0) [l0, l1, ab_R z, l3] (ab_R z :: st) σ Q := ab_r_aload_n rfl kc_X7_readFor dX7_readFor_49
theorem rX7_readFor_50 : ab_Run X 50 50 (13, 0, 0) L (ab_R a :: st) σ Q ↔ (ab_sh σ a).1 = 6 ∧ ab_Run X 50 53 (13, 0, 0) L (ab_I (ab_rd σ a 6) :: st) σ Q := gF_7_238 ko_X7_readFor kc_X7_readFor dX7_readFor_50
theorem rX7_readFor_53 : ab_Run X 50 53 (13, 0, 0) [l0, l1, l2, ab_I z] st σ Q ↔ ab_Run X 50 54 (13, 0, 0) [l0, l1, l2, ab_I z] (ab_I z :: st) σ Q := ab_r_iload_n rfl kc_X7_readFor dX7_readFor_53
theorem rX7_readFor_54 : ab_Run X 50 54 (13, 0, 0) L (ab_I b :: ab_I a :: st) σ Q ↔ ab_Run X 50 55 (13, 0, 0) L (ab_I (ab_ok32 (fun x y => x &&& y) a b) :: st) σ Q := ab_r_iand kc_X7_readFor dX7_readFor_54
theorem rX7_readFor_55 : ab_Run X 50 55 (13, 0, 0) L (ab_I a :: st) σ Q ↔ (a = 0 → ab_Run X 50 64 (13, 0, 0) L st σ Q) ∧ (¬ (a = 0) → ab_Run X 50 58 (13, 0, 0) L st σ Q) := ab_r_if_eq rfl kc_X7_readFor dX7_readFor_55
theorem rX7_readFor_58 : ab_Run X 50 58 (13, 0, 0) [ab_R z, l1, l2, l3] st σ Q ↔ z ≠ 0 ∧ ab_Run X 50 59 (13, 0, 0) [ab_R z, l1, l2, l3] (ab_R z :: st) σ Q := ab_r_aload_n rfl kc_X7_readFor dX7_readFor_58
theorem rX7_readFor_59 : ab_Run X 50 59 (13, 0, 0) L st σ Q ↔ ab_Run X 50 60 (13, 0, 0) L (ab_I 3 :: st) σ Q := ab_r_iconst (by decide) kc_X7_readFor dX7_readFor_59
theorem rX7_readFor_60 : ab_Run X 50 60 (13, 0, 0) L (ab_I x1 :: ab_R a :: st) σ Q ↔ ((ab_sh σ a).1 = 8 ∧ ab_cats st ≤ 8) ∧ ab_Do X 43 [ab_R a, ab_I x1] σ (fun r σ' => ab_Run X 50 63 (13, 0, 0) L (ab_psh r st) σ' Q) := ab_r_callV (w := [ab_I x1]) (as := [ab_I x1]) (b1 := (0, 0, 0)) 0 (Or.inl rfl) (by decide) ko_X7_readFor qM_7_56 (by decide) rfl rfl rfl rfl rfl (by decide) (Nat.le_of_ble_eq_true rfl) kc_X7_readFor dX7_readFor_60
theorem rX7_readFor_63 : ab_Run X 50 63 (13, 0, 0) L [ab_I v] σ Q ↔ (v = 0 ∨ v = 1) ∧ Q (some (ab_I v)) σ := ab_r_ireturnZ rfl kc_X7_readFor dX7_readFor_63
theorem rX7_readFor_64 : ab_Run X 50 64 (13, 0, 0) [ab_R z, l1, l2, l3] st σ Q ↔ z ≠ 0 ∧ ab_Run X 50 65 (13, 0, 0) [ab_R z, l1, l2, l3] (ab_R z :: st) σ Q := ab_r_aload_n rfl kc_X7_readFor dX7_readFor_64
theorem rX7_readFor_65 : ab_Run X 50 65 (13, 0, 0) L (ab_R a :: st) σ Q ↔ (ab_sh σ a).1 = 8 ∧ ab_Run X 50 68 (13, 0, 0) L (ab_R (ab_rd σ a 0) :: st) σ Q := gF_7_12 ko_X7_readFor kc_X7_readFor dX7_readFor_65
theorem rX7_readFor_68 : ab_Run X 50 68 (13, 0, 0) L (ab_R a :: st) σ Q ↔ ((ab_sh σ a).1 = 10 ∧ ab_cats st ≤ 8) ∧ ab_Do X 70 [ab_R a] σ (fun r σ' => ab_Run X 50 71 (13, 0, 0) L (ab_psh r st) σ' Q) := ab_r_callV (w := []) (as := []) (b1 := (1, 0, 0)) 0 (Or.inl rfl) (by decide) ko_X7_readFor qM_7_60 (by decide) rfl rfl rfl rfl rfl (by decide) (Nat.le_of_ble_eq_true rfl) kc_X7_readFor dX7_readFor_68
theorem rX7_readFor_71 : ab_Run X 50 71 (13, 0, 0) [ab_R z, l1, l2, l3] st σ Q ↔ z ≠ 0 ∧ ab_Run X 50 72 (13, 0, 0) [ab_R z, l1, l2, l3] (ab_R z :: st) σ Q := ab_r_aload_n rfl kc_X7_readFor dX7_readFor_71
theorem rX7_readFor_72 : ab_Run X 50 72 (13, 0, 0) L st σ Q ↔ ab_Run X 50 73 (13, 0, 0) L (ab_I 0 :: st) σ Q := ab_r_iconst (by decide) kc_X7_readFor dX7_readFor_72
theorem rX7_readFor_73 : ab_Run X 50 73 (13, 0, 0) L st σ Q ↔ ab_Run X 50 75 (13, 0, 0) L (ab_I 99 :: st) σ Q := ab_r_bipush (by decide) kc_X7_readFor dX7_readFor_73
theorem rX7_readFor_75 : ab_Run X 50 75 (13, 0, 0) L (ab_I x2 :: ab_I x1 :: ab_R a :: st) σ Q ↔ ((ab_sh σ a).1 = 8 ∧ ab_cats st ≤ 8) ∧ ab_Do X 57 [ab_R a, ab_I x1, ab_I x2] σ (fun r σ' => ab_Run X 50 78 (13, 0, 0) L (ab_psh r st) σ' Q) := ab_r_callV (w := [ab_I x2, ab_I x1]) (as := [ab_I x1, ab_I x2]) (b1 := (1, 0, 0)) 0 (Or.inl rfl) (by decide) ko_X7_readFor qM_7_194 (by decide) rfl rfl rfl rfl rfl (by decide) (Nat.le_of_ble_eq_true rfl) kc_X7_readFor dX7_readFor_75
theorem rX7_readFor_78 : ab_Run X 50 78 (13, 0, 0) L (ab_I a :: st) σ Q ↔ (¬ a = 0 → ab_Run X 50 83 (13, 0, 0) L st σ Q) ∧ (¬ (¬ a = 0) → ab_Run X 50 81 (13, 0, 0) L st σ Q) := ab_r_if_ne rfl kc_X7_readFor dX7_readFor_78
theorem rX7_readFor_81 : ab_Run X 50 81 (13, 0, 0) L st σ Q ↔ ab_Run X 50 82 (13, 0, 0) L (ab_I 0 :: st) σ Q := ab_r_iconst (by decide) kc_X7_readFor dX7_readFor_81
theorem rX7_readFor_82 : ab_Run X 50 82 (13, 0, 0) L [ab_I v] σ Q ↔ (v = 0 ∨ v = 1) ∧ Q (some (ab_I v)) σ := ab_r_ireturnZ rfl kc_X7_readFor dX7_readFor_82
theorem rX7_readFor_83 : ab_Run X 50 83 (13, 0, 0) [ab_R z, l1, l2, l3] st σ Q ↔ z ≠ 0 ∧ ab_Run X 50 84 (13, 0, 0) [ab_R z, l1, l2, l3] (ab_R z :: st) σ Q := ab_r_aload_n rfl kc_X7_readFor dX7_readFor_83
theorem rX7_readFor_84 : ab_Run X 50 84 (13, 0, 0) L (ab_R a :: st) σ Q ↔ (ab_sh σ a).1 = 8 ∧ ab_Run X 50 87 (13, 0, 0) L (ab_R (ab_rd σ a 0) :: st) σ Q := gF_7_12 ko_X7_readFor kc_X7_readFor dX7_readFor_84
theorem rX7_readFor_87 : ab_Run X 50 87 (13, 0, 0) L (ab_R a :: st) σ Q ↔ ((ab_sh σ a).1 = 10 ∧ ab_cats st ≤ 8) ∧ ab_Do X 70 [ab_R a] σ (fun r σ' => ab_Run X 50 90 (13, 0, 0) L (ab_psh r st) σ' Q) := ab_r_callV (w := []) (as := []) (b1 := (1, 0, 0)) 0 (Or.inl rfl) (by decide) ko_X7_readFor qM_7_60 (by decide) rfl rfl rfl rfl rfl (by decide) (Nat.le_of_ble_eq_true rfl) kc_X7_readFor dX7_readFor_87
theorem rX7_readFor_90 : ab_Run X 50 90 (13, 0, 0) [l0, l1, ab_R z, l3] st σ Q ↔ z ≠ 0 ∧ ab_Run X 50 91 (13, 0, 0) [l0, l1, ab_R z, l3] (ab_R z :: st) σ Q := ab_r_aload_n rfl kc_X7_readFor dX7_readFor_90
theorem rX7_readFor_91I : ab_Run X 50 91 (13, 0, 0) L (ab_I a :: st) σ Q ↔ ab_Run X 50 92 (13, 0, 0) L (ab_I a :: ab_I a :: st) σ Q := ab_r_dupI kc_X7_readFor dX7_readFor_91
theorem rX7_readFor_91R : ab_Run X 50 91 (13, 0, 0) L (ab_R a :: st) σ Q ↔ ab_Run X 50 92 (13, 0, 0) L (ab_R a :: ab_R a :: st) σ Q := ab_r_dupR kc_X7_readFor dX7_readFor_91
theorem rX7_readFor_92 : ab_Run X 50 92 (13, 0, 0) L (ab_R a :: st) σ Q ↔ (ab_sh σ a).1 = 6 ∧ ab_Run X 50 95 (13, 0, 0) L (ab_I (ab_rd σ a 6) :: st) σ Q := gF_7_238 ko_X7_readFor kc_X7_readFor dX7_readFor_92
theorem rX7_readFor_95 : ab_Run X 50 95 (13, 0, 0) [l0, l1, l2, ab_I z] st σ Q ↔ ab_Run X 50 96 (13, 0, 0) [l0, l1, l2, ab_I z] (ab_I z :: st) σ Q := ab_r_iload_n rfl kc_X7_readFor dX7_readFor_95
theorem rX7_readFor_96 : ab_Run X 50 96 (13, 0, 0) L (ab_I b :: ab_I a :: st) σ Q ↔ ab_Run X 50 97 (13, 0, 0) L (ab_I (ab_ok32 (fun x y => x ||| y) a b) :: st) σ Q := ab_r_ior kc_X7_readFor dX7_readFor_96
theorem rX7_readFor_97 : ab_Run X 50 97 (13, 0, 0) L (ab_I z :: ab_R a :: st) σ Q ↔ (ab_sh σ a).1 = 6 ∧ ab_Run X 50 100 (13, 0, 0) L st (ab_wr σ a 6 z) Q := sF_7_238 ko_X7_readFor kc_X7_readFor dX7_readFor_97
theorem rX7_readFor_100 : ab_Run X 50 100 (13, 0, 0) [l0, l1, ab_R z, l3] st σ Q ↔ z ≠ 0 ∧ ab_Run X 50 101 (13, 0, 0) [l0, l1, ab_R z, l3] (ab_R z :: st) σ Q := ab_r_aload_n rfl kc_X7_readFor dX7_readFor_100
theorem rX7_readFor_101I : ab_Run X 50 101 (13, 0, 0) L (ab_I a :: st) σ Q ↔ ab_Run X 50 102 (13, 0, 0) L (ab_I a :: ab_I a :: st) σ Q := ab_r_dupI kc_X7_readFor dX7_readFor_101
theorem rX7_readFor_101R : ab_Run X 50 101 (13, 0, 0) L (ab_R a :: st) σ Q ↔ ab_Run X 50 102 (13, 0, 0) L (ab_R a :: ab_R a :: st) σ Q := ab_r_dupR kc_X7_readFor dX7_readFor_101
theorem rX7_readFor_102 : ab_Run X 50 102 (13, 0, 0) L (ab_R a :: st) σ Q ↔ (ab_sh σ a).1 = 6 ∧ ab_Run X 50 105 (13, 0, 0) L (ab_I (ab_rd σ a 5) :: st) σ Q := gF_7_232 ko_X7_readFor kc_X7_readFor dX7_readFor_102
theorem rX7_readFor_105 : ab_Run X 50 105 (13, 0, 0) [ab_R z, l1, l2, l3] st σ Q ↔ z ≠ 0 ∧ ab_Run X 50 106 (13, 0, 0) [ab_R z, l1, l2, l3] (ab_R z :: st) σ Q := ab_r_aload_n rfl kc_X7_readFor dX7_readFor_105
theorem rX7_readFor_106 : ab_Run X 50 106 (13, 0, 0) L (ab_R a :: st) σ Q ↔ (ab_sh σ a).1 = 8 ∧ ab_Run X 50 109 (13, 0, 0) L (ab_I (ab_rd σ a 5) :: st) σ Q := gF_7_124 ko_X7_readFor kc_X7_readFor dX7_readFor_106
theorem rX7_readFor_109 : ab_Run X 50 109 (13, 0, 0) L (ab_I b :: ab_I a :: st) σ Q ↔ ab_Run X 50 110 (13, 0, 0) L (ab_I (ab_w32 (a + b)) :: st) σ Q := ab_r_iadd kc_X7_readFor dX7_readFor_109
theorem rX7_readFor_110 : ab_Run X 50 110 (13, 0, 0) L (ab_I z :: ab_R a :: st) σ Q ↔ (ab_sh σ a).1 = 6 ∧ ab_Run X 50 113 (13, 0, 0) L st (ab_wr σ a 5 z) Q := sF_7_232 ko_X7_readFor kc_X7_readFor dX7_readFor_110
theorem rX7_readFor_113 : ab_Run X 50 113 (13, 0, 0) [ab_R z, l1, l2, l3] st σ Q ↔ z ≠ 0 ∧ ab_Run X 50 114 (13, 0, 0) [ab_R z, l1, l2, l3] (ab_R z :: st) σ Q := ab_r_aload_n rfl kc_X7_readFor dX7_readFor_113
theorem rX7_readFor_114 : ab_Run X 50 114 (13, 0, 0) L (ab_R a :: st) σ Q ↔ (ab_sh σ a).1 = 8 ∧ ab_Run X 50 117 (13, 0, 0) L (ab_R (ab_rd σ a 1) :: st) σ Q := gF_7_21 ko_X7_readFor kc_X7_readFor dX7_readFor_114
theorem rX7_readFor_117I : ab_Run X 50 117 (13, 0, 0) L (ab_I a :: st) σ Q ↔ ab_Run X 50 118 (13, 0, 0) L (ab_I a :: ab_I a :: st) σ Q := ab_r_dupI kc_X7_readFor dX7_readFor_117
theorem rX7_readFor_117R : ab_Run X 50 117 (13, 0, 0) L (ab_R a :: st) σ Q ↔ ab_Run X 50 118 (13, 0, 0) L (ab_R a :: ab_R a :: st) σ Q := ab_r_dupR kc_X7_readFor dX7_readFor_117
theorem rX7_readFor_118 : ab_Run X 50 118 (13, 0, 0) L (ab_R a :: st) σ Q ↔ (ab_sh σ a).1 = 5 ∧ ab_Run X 50 121 (13, 0, 0) L (ab_I (ab_rd σ a 9) :: st) σ Q := gF_7_91 ko_X7_readFor kc_X7_readFor dX7_readFor_118
theorem rX7_readFor_121 : ab_Run X 50 121 (13, 0, 0) L st σ Q ↔ ab_Run X 50 122 (13, 0, 0) L (ab_I 1 :: st) σ Q := ab_r_iconst (by decide) kc_X7_readFor dX7_readFor_121
theorem rX7_readFor_122 : ab_Run X 50 122 (13, 0, 0) L (ab_I b :: ab_I a :: st) σ Q ↔ ab_Run X 50 123 (13, 0, 0) L (ab_I (ab_w32 (a + b)) :: st) σ Q := ab_r_iadd kc_X7_readFor dX7_readFor_122
theorem rX7_readFor_123 : ab_Run X 50 123 (13, 0, 0) L (ab_I z :: ab_R a :: st) σ Q ↔ (ab_sh σ a).1 = 5 ∧ ab_Run X 50 126 (13, 0, 0) L st (ab_wr σ a 9 z) Q := sF_7_91 ko_X7_readFor kc_X7_readFor dX7_readFor_123
theorem rX7_readFor_126 : ab_Run X 50 126 (13, 0, 0) L st σ Q ↔ ab_Run X 50 127 (13, 0, 0) L (ab_I 1 :: st) σ Q := ab_r_iconst (by decide) kc_X7_readFor dX7_readFor_126
theorem rX7_readFor_127 : ab_Run X 50 127 (13, 0, 0) L [ab_I v] σ Q ↔ (v = 0 ∨ v = 1) ∧ Q (some (ab_I v)) σ := ab_r_ireturnZ rfl kc_X7_readFor dX7_readFor_127
theorem kc_X7_readWon : ab_code 51 = cX7_readWon := rfl
theorem ko_X7_readWon : ab_ow 51 = 7 := rfl
theorem rX7_readWon_0 : ab_Run X 51 0 (13, 0, 0) [ab_R z, l1, l2] st σ Q ↔ z ≠ 0 ∧ ab_Run X 51 1 (13, 0, 0) [ab_R z, l1, l2] (ab_R z :: st) σ Q := ab_r_aload_n rfl kc_X7_readWon dX7_readWon_0
theorem rX7_readWon_1 : ab_Run X 51 1 (13, 0, 0) L st σ Q ↔ ab_Run X 51 2 (13, 0, 0) L (ab_I (-1) :: st) σ Q := ab_r_iconst (by decide) kc_X7_readWon dX7_readWon_1
theorem rX7_readWon_2 : ab_Run X 51 2 (13, 0, 0) L (ab_I x1 :: ab_R a :: st) σ Q ↔ ((ab_sh σ a).1 = 8 ∧ ab_cats st ≤ 8) ∧ ab_Do X 60 [ab_R a, ab_I x1] σ (fun r σ' => ab_Run X 51 5 (13, 0, 0) L (ab_psh r st) σ' Q) := ab_r_callV (w := [ab_I x1]) (as := [ab_I x1]) (b1 := (12, 0, 0)) 0 (Or.inl rfl) (by decide) ko_X7_readWon qM_7_235 (by decide) rfl rfl rfl rfl rfl (by decide) (Nat.le_of_ble_eq_true rfl) kc_X7_readWon dX7_readWon_2
theorem rX7_readWon_5 : ab_Run X 51 5 (13, 0, 0) L (ab_I a :: st) σ Q ↔ (¬ a = 0 → ab_Run X 51 10 (13, 0, 0) L st σ Q) ∧ (¬ (¬ a = 0) → ab_Run X 51 8 (13, 0, 0) L st σ Q) := ab_r_if_ne rfl kc_X7_readWon dX7_readWon_5
theorem rX7_readWon_8 : ab_Run X 51 8 (13, 0, 0) L st σ Q ↔ ab_Run X 51 9 (13, 0, 0) L (ab_I 0 :: st) σ Q := ab_r_iconst (by decide) kc_X7_readWon dX7_readWon_8
theorem rX7_readWon_9 : ab_Run X 51 9 (13, 0, 0) L [ab_I v] σ Q ↔ (v = 0 ∨ v = 1) ∧ Q (some (ab_I v)) σ := ab_r_ireturnZ rfl kc_X7_readWon dX7_readWon_9
theorem rX7_readWon_10 : ab_Run X 51 10 (13, 0, 0) [ab_R z, l1, l2] st σ Q ↔ z ≠ 0 ∧ ab_Run X 51 11 (13, 0, 0) [ab_R z, l1, l2] (ab_R z :: st) σ Q := ab_r_aload_n rfl kc_X7_readWon dX7_readWon_10
theorem rX7_readWon_11 : ab_Run X 51 11 (13, 0, 0) L (ab_R a :: st) σ Q ↔ (ab_sh σ a).1 = 8 ∧ ab_Run X 51 14 (13, 0, 0) L (ab_I (ab_rd σ a 5) :: st) σ Q := gF_7_124 ko_X7_readWon kc_X7_readWon dX7_readWon_11
theorem rX7_readWon_14 : ab_Run X 51 14 (13, 0, 0) [l0, l1, l2] (ab_I z :: st) σ Q ↔ (!ab_isJ l0) = true ∧ ab_Run X 51 15 (13, 0, 0) [l0, ab_I z, l2] st σ Q := ab_r_istore_n (Nat.le_of_ble_eq_true rfl) kc_X7_readWon dX7_readWon_14
theorem rX7_readWon_15 : ab_Run X 51 15 (13, 0, 0) [ab_R z, l1, l2] st σ Q ↔ z ≠ 0 ∧ ab_Run X 51 16 (13, 0, 0) [ab_R z, l1, l2] (ab_R z :: st) σ Q := ab_r_aload_n rfl kc_X7_readWon dX7_readWon_15
theorem rX7_readWon_16 : ab_Run X 51 16 (13, 0, 0) L (ab_R a :: st) σ Q ↔ (ab_sh σ a).1 = 8 ∧ ab_Run X 51 19 (13, 0, 0) L (ab_R (ab_rd σ a 0) :: st) σ Q := gF_7_12 ko_X7_readWon kc_X7_readWon dX7_readWon_16
theorem rX7_readWon_19 : ab_Run X 51 19 (13, 0, 0) L (ab_R a :: st) σ Q ↔ ((ab_sh σ a).1 = 10 ∧ ab_cats st ≤ 8) ∧ ab_Do X 70 [ab_R a] σ (fun r σ' => ab_Run X 51 22 (13, 0, 0) L (ab_psh r st) σ' Q) := ab_r_callV (w := []) (as := []) (b1 := (1, 0, 0)) 0 (Or.inl rfl) (by decide) ko_X7_readWon qM_7_60 (by decide) rfl rfl rfl rfl rfl (by decide) (Nat.le_of_ble_eq_true rfl) kc_X7_readWon dX7_readWon_19
theorem rX7_readWon_22 : ab_Run X 51 22 (13, 0, 0) [ab_R z, l1, l2] st σ Q ↔ z ≠ 0 ∧ ab_Run X 51 23 (13, 0, 0) [ab_R z, l1, l2] (ab_R z :: st) σ Q := ab_r_aload_n rfl kc_X7_readWon dX7_readWon_22
theorem rX7_readWon_23 : ab_Run X 51 23 (13, 0, 0) [l0, ab_I z, l2] st σ Q ↔ ab_Run X 51 24 (13, 0, 0) [l0, ab_I z, l2] (ab_I z :: st) σ Q := ab_r_iload_n rfl kc_X7_readWon dX7_readWon_23
theorem rX7_readWon_24 : ab_Run X 51 24 (13, 0, 0) L (ab_I x1 :: ab_R a :: st) σ Q ↔ ((ab_sh σ a).1 = 8 ∧ ab_cats st ≤ 8) ∧ ab_Do X 60 [ab_R a, ab_I x1] σ (fun r σ' => ab_Run X 51 27 (13, 0, 0) L (ab_psh r st) σ' Q) := ab_r_callV (w := [ab_I x1]) (as := [ab_I x1]) (b1 := (12, 0, 0)) 0 (Or.inl rfl) (by decide) ko_X7_readWon qM_7_235 (by decide) rfl rfl rfl rfl rfl (by decide) (Nat.le_of_ble_eq_true rfl) kc_X7_readWon dX7_readWon_24
theorem rX7_readWon_27 : ab_Run X 51 27 (13, 0, 0) L (ab_I a :: st) σ Q ↔ (¬ a = 0 → ab_Run X 51 32 (13, 0, 0) L st σ Q) ∧ (¬ (¬ a = 0) → ab_Run X 51 30 (13, 0, 0) L st σ Q) := ab_r_if_ne rfl kc_X7_readWon dX7_readWon_27
theorem rX7_readWon_30 : ab_Run X 51 30 (13, 0, 0) L st σ Q ↔ ab_Run X 51 31 (13, 0, 0) L (ab_I 0 :: st) σ Q := ab_r_iconst (by decide) kc_X7_readWon dX7_readWon_30
theorem rX7_readWon_31 : ab_Run X 51 31 (13, 0, 0) L [ab_I v] σ Q ↔ (v = 0 ∨ v = 1) ∧ Q (some (ab_I v)) σ := ab_r_ireturnZ rfl kc_X7_readWon dX7_readWon_31
theorem rX7_readWon_32 : ab_Run X 51 32 (13, 0, 0) [ab_R z, l1, l2] st σ Q ↔ z ≠ 0 ∧ ab_Run X 51 33 (13, 0, 0) [ab_R z, l1, l2] (ab_R z :: st) σ Q := ab_r_aload_n rfl kc_X7_readWon dX7_readWon_32
theorem rX7_readWon_33 : ab_Run X 51 33 (13, 0, 0) L (ab_R a :: st) σ Q ↔ (ab_sh σ a).1 = 8 ∧ ab_Run X 51 36 (13, 0, 0) L (ab_I (ab_rd σ a 5) :: st) σ Q := gF_7_124 ko_X7_readWon kc_X7_readWon dX7_readWon_33
theorem rX7_readWon_36 : ab_Run X 51 36 (13, 0, 0) [l0, l1, l2] (ab_I z :: st) σ Q ↔ (!ab_isJ l1) = true ∧ ab_Run X 51 37 (13, 0, 0) [l0, l1, ab_I z] st σ Q := ab_r_istore_n (Nat.le_of_ble_eq_true rfl) kc_X7_readWon dX7_readWon_36
theorem rX7_readWon_37 : ab_Run X 51 37 (13, 0, 0) [ab_R z, l1, l2] st σ Q ↔ z ≠ 0 ∧ ab_Run X 51 38 (13, 0, 0) [ab_R z, l1, l2] (ab_R z :: st) σ Q := ab_r_aload_n rfl kc_X7_readWon dX7_readWon_37
theorem rX7_readWon_38 : ab_Run X 51 38 (13, 0, 0) L (ab_R a :: st) σ Q ↔ (ab_sh σ a).1 = 8 ∧ ab_Run X 51 41 (13, 0, 0) L (ab_R (ab_rd σ a 0) :: st) σ Q := gF_7_12 ko_X7_readWon kc_X7_readWon dX7_readWon_38
theorem rX7_readWon_41 : ab_Run X 51 41 (13, 0, 0) L (ab_R a :: st) σ Q ↔ ((ab_sh σ a).1 = 10 ∧ ab_cats st ≤ 8) ∧ ab_Do X 70 [ab_R a] σ (fun r σ' => ab_Run X 51 44 (13, 0, 0) L (ab_psh r st) σ' Q) := ab_r_callV (w := []) (as := []) (b1 := (1, 0, 0)) 0 (Or.inl rfl) (by decide) ko_X7_readWon qM_7_60 (by decide) rfl rfl rfl rfl rfl (by decide) (Nat.le_of_ble_eq_true rfl) kc_X7_readWon dX7_readWon_41
theorem rX7_readWon_44 : ab_Run X 51 44 (13, 0, 0) [ab_R z, l1, l2] st σ Q ↔ z ≠ 0 ∧ ab_Run X 51 45 (13, 0, 0) [ab_R z, l1, l2] (ab_R z :: st) σ Q := ab_r_aload_n rfl kc_X7_readWon dX7_readWon_44
theorem rX7_readWon_45 : ab_Run X 51 45 (13, 0, 0) L st σ Q ↔ ab_Run X 51 47 (13, 0, 0) L (ab_R (-14) :: st) σ Q := ab_r_ldcS (n := 12) rfl ko_X7_readWon (by decide +kernel) (by decide +kernel) rfl kc_X7_readWon dX7_readWon_45
theorem rX7_readWon_47 : ab_Run X 51 47 (13, 0, 0) L st σ Q ↔ ab_Run X 51 49 (13, 0, 0) L (ab_R (-15) :: st) σ Q := ab_r_ldcS (n := 13) rfl ko_X7_readWon (by decide +kernel) (by decide +kernel) rfl kc_X7_readWon dX7_readWon_47
theorem rX7_readWon_49 : ab_Run X 51 49 (13, 0, 0) L st σ Q ↔ ab_Run X 51 51 (13, 0, 0) L (ab_R (-19) :: st) σ Q := ab_r_ldcS (n := 17) rfl ko_X7_readWon (by decide +kernel) (by decide +kernel) rfl kc_X7_readWon dX7_readWon_49
theorem rX7_readWon_51 : ab_Run X 51 51 (13, 0, 0) L st σ Q ↔ ab_Run X 51 53 (13, 0, 0) L (ab_R (-19) :: st) σ Q := ab_r_ldcS (n := 17) rfl ko_X7_readWon (by decide +kernel) (by decide +kernel) rfl kc_X7_readWon dX7_readWon_51
theorem rX7_readWon_53 : ab_Run X 51 53 (13, 0, 0) L (ab_R x4 :: ab_R x3 :: ab_R x2 :: ab_R x1 :: ab_R a :: st) σ Q ↔ ((ab_sh σ a).1 = 8 ∧ ab_cats st ≤ 8) ∧ ab_Do X 56 [ab_R a, ab_R x1, ab_R x2, ab_R x3, ab_R x4] σ (fun r σ' => ab_Run X 51 56 (13, 0, 0) L (ab_psh r st) σ' Q) := ab_r_callV (w := [ab_R x4, ab_R x3, ab_R x2, ab_R x1]) (as := [ab_R x1, ab_R x2, ab_R x3, ab_R x4]) (b1 := (11, 0, 0)) 0 (Or.inl rfl) (by decide) ko_X7_readWon qM_7_169 (by decide) rfl rfl rfl rfl rfl (by decide) (Nat.le_of_ble_eq_true rfl) kc_X7_readWon dX7_readWon_53
theorem rX7_readWon_56 : ab_Run X 51 56 (13, 0, 0) L (ab_I a :: st) σ Q ↔ (¬ a = 0 → ab_Run X 51 61 (13, 0, 0) L st σ Q) ∧ (¬ (¬ a = 0) → ab_Run X 51 59 (13, 0, 0) L st σ Q) := ab_r_if_ne rfl kc_X7_readWon dX7_readWon_56
theorem rX7_readWon_59 : ab_Run X 51 59 (13, 0, 0) L st σ Q ↔ ab_Run X 51 60 (13, 0, 0) L (ab_I 0 :: st) σ Q := ab_r_iconst (by decide) kc_X7_readWon dX7_readWon_59
theorem rX7_readWon_60 : ab_Run X 51 60 (13, 0, 0) L [ab_I v] σ Q ↔ (v = 0 ∨ v = 1) ∧ Q (some (ab_I v)) σ := ab_r_ireturnZ rfl kc_X7_readWon dX7_readWon_60
theorem rX7_readWon_61 : ab_Run X 51 61 (13, 0, 0) [ab_R z, l1, l2] st σ Q ↔ z ≠ 0 ∧ ab_Run X 51 62 (13, 0, 0) [ab_R z, l1, l2] (ab_R z :: st) σ Q := ab_r_aload_n rfl kc_X7_readWon dX7_readWon_61
theorem rX7_readWon_62 : ab_Run X 51 62 (13, 0, 0) L (ab_R a :: st) σ Q ↔ (ab_sh σ a).1 = 8 ∧ ab_Run X 51 65 (13, 0, 0) L (ab_R (ab_rd σ a 1) :: st) σ Q := gF_7_21 ko_X7_readWon kc_X7_readWon dX7_readWon_62
theorem rX7_readWon_65 : ab_Run X 51 65 (13, 0, 0) L (ab_R a :: st) σ Q ↔ (ab_sh σ a).1 = 5 ∧ ab_Run X 51 68 (13, 0, 0) L (ab_R (ab_rd σ a 8) :: st) σ Q := gF_7_201 ko_X7_readWon kc_X7_readWon dX7_readWon_65
theorem rX7_readWon_68 : ab_Run X 51 68 (13, 0, 0) [l0, ab_I z, l2] st σ Q ↔ ab_Run X 51 69 (13, 0, 0) [l0, ab_I z, l2] (ab_I z :: st) σ Q := ab_r_iload_n rfl kc_X7_readWon dX7_readWon_68
theorem rX7_readWon_69 : ab_Run X 51 69 (13, 0, 0) L (ab_I i :: ab_R a :: st) σ Q ↔ ((25 ≤ (ab_sh σ a).1 ∧ (ab_sh σ a).1 < 30) ∧ 0 ≤ i ∧ i < (ab_sh σ a).2) ∧ ab_Run X 51 70 (13, 0, 0) L (ab_R (ab_rd σ a i) :: st) σ Q := ab_r_aaload kc_X7_readWon dX7_readWon_69
theorem rX7_readWon_70I : ab_Run X 51 70 (13, 0, 0) L (ab_I a :: st) σ Q ↔ ab_Run X 51 71 (13, 0, 0) L (ab_I a :: ab_I a :: st) σ Q := ab_r_dupI kc_X7_readWon dX7_readWon_70
theorem rX7_readWon_70R : ab_Run X 51 70 (13, 0, 0) L (ab_R a :: st) σ Q ↔ ab_Run X 51 71 (13, 0, 0) L (ab_R a :: ab_R a :: st) σ Q := ab_r_dupR kc_X7_readWon dX7_readWon_70
theorem rX7_readWon_71 : ab_Run X 51 71 (13, 0, 0) L (ab_R a :: st) σ Q ↔ (ab_sh σ a).1 = 6 ∧ ab_Run X 51 74 (13, 0, 0) L (ab_I (ab_rd σ a 7) :: st) σ Q := gF_7_241 ko_X7_readWon kc_X7_readWon dX7_readWon_71
theorem rX7_readWon_74 : ab_Run X 51 74 (13, 0, 0) L st σ Q ↔ ab_Run X 51 75 (13, 0, 0) L (ab_I 1 :: st) σ Q := ab_r_iconst (by decide) kc_X7_readWon dX7_readWon_74
theorem rX7_readWon_75 : ab_Run X 51 75 (13, 0, 0) L (ab_I b :: ab_I a :: st) σ Q ↔ ab_Run X 51 76 (13, 0, 0) L (ab_I (ab_w32 (a + b)) :: st) σ Q := ab_r_iadd kc_X7_readWon dX7_readWon_75
theorem rX7_readWon_76 : ab_Run X 51 76 (13, 0, 0) L (ab_I z :: ab_R a :: st) σ Q ↔ (ab_sh σ a).1 = 6 ∧ ab_Run X 51 79 (13, 0, 0) L st (ab_wr σ a 7 z) Q := sF_7_241 ko_X7_readWon kc_X7_readWon dX7_readWon_76
theorem rX7_readWon_79 : ab_Run X 51 79 (13, 0, 0) [ab_R z, l1, l2] st σ Q ↔ z ≠ 0 ∧ ab_Run X 51 80 (13, 0, 0) [ab_R z, l1, l2] (ab_R z :: st) σ Q := ab_r_aload_n rfl kc_X7_readWon dX7_readWon_79
theorem rX7_readWon_80 : ab_Run X 51 80 (13, 0, 0) L (ab_R a :: st) σ Q ↔ (ab_sh σ a).1 = 8 ∧ ab_Run X 51 83 (13, 0, 0) L (ab_R (ab_rd σ a 1) :: st) σ Q := gF_7_21 ko_X7_readWon kc_X7_readWon dX7_readWon_80
theorem rX7_readWon_83 : ab_Run X 51 83 (13, 0, 0) L (ab_R a :: st) σ Q ↔ (ab_sh σ a).1 = 5 ∧ ab_Run X 51 86 (13, 0, 0) L (ab_R (ab_rd σ a 8) :: st) σ Q := gF_7_201 ko_X7_readWon kc_X7_readWon dX7_readWon_83
theorem rX7_readWon_86 : ab_Run X 51 86 (13, 0, 0) [l0, l1, ab_I z] st σ Q ↔ ab_Run X 51 87 (13, 0, 0) [l0, l1, ab_I z] (ab_I z :: st) σ Q := ab_r_iload_n rfl kc_X7_readWon dX7_readWon_86
theorem rX7_readWon_87 : ab_Run X 51 87 (13, 0, 0) L (ab_I i :: ab_R a :: st) σ Q ↔ ((25 ≤ (ab_sh σ a).1 ∧ (ab_sh σ a).1 < 30) ∧ 0 ≤ i ∧ i < (ab_sh σ a).2) ∧ ab_Run X 51 88 (13, 0, 0) L (ab_R (ab_rd σ a i) :: st) σ Q := ab_r_aaload kc_X7_readWon dX7_readWon_87
theorem rX7_readWon_88I : ab_Run X 51 88 (13, 0, 0) L (ab_I a :: st) σ Q ↔ ab_Run X 51 89 (13, 0, 0) L (ab_I a :: ab_I a :: st) σ Q := ab_r_dupI kc_X7_readWon dX7_readWon_88
theorem rX7_readWon_88R : ab_Run X 51 88 (13, 0, 0) L (ab_R a :: st) σ Q ↔ ab_Run X 51 89 (13, 0, 0) L (ab_R a :: ab_R a :: st) σ Q := ab_r_dupR kc_X7_readWon dX7_readWon_88
theorem rX7_readWon_89 : ab_Run X 51 89 (13, 0, 0) L (ab_R a :: st) σ Q ↔ (ab_sh σ a).1 = 6 ∧ ab_Run X 51 92 (13, 0, 0) L (ab_I (ab_rd σ a 8) :: st) σ Q := gF_7_243 ko_X7_readWon kc_X7_readWon dX7_readWon_89
theorem rX7_readWon_92 : ab_Run X 51 92 (13, 0, 0) L st σ Q ↔ ab_Run X 51 93 (13, 0, 0) L (ab_I 1 :: st) σ Q := ab_r_iconst (by decide) kc_X7_readWon dX7_readWon_92
theorem rX7_readWon_93 : ab_Run X 51 93 (13, 0, 0) L (ab_I b :: ab_I a :: st) σ Q ↔ ab_Run X 51 94 (13, 0, 0) L (ab_I (ab_w32 (a + b)) :: st) σ Q := ab_r_iadd kc_X7_readWon dX7_readWon_93
theorem rX7_readWon_94 : ab_Run X 51 94 (13, 0, 0) L (ab_I z :: ab_R a :: st) σ Q ↔ (ab_sh σ a).1 = 6 ∧ ab_Run X 51 97 (13, 0, 0) L st (ab_wr σ a 8 z) Q := sF_7_243 ko_X7_readWon kc_X7_readWon dX7_readWon_94
theorem rX7_readWon_97 : ab_Run X 51 97 (13, 0, 0) [ab_R z, l1, l2] st σ Q ↔ z ≠ 0 ∧ ab_Run X 51 98 (13, 0, 0) [ab_R z, l1, l2] (ab_R z :: st) σ Q := ab_r_aload_n rfl kc_X7_readWon dX7_readWon_97
theorem rX7_readWon_98 : ab_Run X 51 98 (13, 0, 0) L (ab_R a :: st) σ Q ↔ (ab_sh σ a).1 = 8 ∧ ab_Run X 51 101 (13, 0, 0) L (ab_R (ab_rd σ a 1) :: st) σ Q := gF_7_21 ko_X7_readWon kc_X7_readWon dX7_readWon_98
theorem rX7_readWon_101I : ab_Run X 51 101 (13, 0, 0) L (ab_I a :: st) σ Q ↔ ab_Run X 51 102 (13, 0, 0) L (ab_I a :: ab_I a :: st) σ Q := ab_r_dupI kc_X7_readWon dX7_readWon_101
theorem rX7_readWon_101R : ab_Run X 51 101 (13, 0, 0) L (ab_R a :: st) σ Q ↔ ab_Run X 51 102 (13, 0, 0) L (ab_R a :: ab_R a :: st) σ Q := ab_r_dupR kc_X7_readWon dX7_readWon_101
theorem rX7_readWon_102 : ab_Run X 51 102 (13, 0, 0) L (ab_R a :: st) σ Q ↔ (ab_sh σ a).1 = 5 ∧ ab_Run X 51 105 (13, 0, 0) L (ab_I (ab_rd σ a 11) :: st) σ Q := gF_7_246 ko_X7_readWon kc_X7_readWon dX7_readWon_102
theorem rX7_readWon_105 : ab_Run X 51 105 (13, 0, 0) [ab_R z, l1, l2] st σ Q ↔ z ≠ 0 ∧ ab_Run X 51 106 (13, 0, 0) [ab_R z, l1, l2] (ab_R z :: st) σ Q := ab_r_aload_n rfl kc_X7_readWon dX7_readWon_105
theorem rX7_readWon_106 : ab_Run X 51 106 (13, 0, 0) L (ab_R a :: st) σ Q ↔ (ab_sh σ a).1 = 8 ∧ ab_Run X 51 109 (13, 0, 0) L (ab_I (ab_rd σ a 5) :: st) σ Q := gF_7_124 ko_X7_readWon kc_X7_readWon dX7_readWon_106
theorem rX7_readWon_109 : ab_Run X 51 109 (13, 0, 0) L (ab_I a :: st) σ Q ↔ (¬ a = 0 → ab_Run X 51 116 (13, 0, 0) L st σ Q) ∧ (¬ (¬ a = 0) → ab_Run X 51 112 (13, 0, 0) L st σ Q) := ab_r_if_ne rfl kc_X7_readWon dX7_readWon_109
theorem rX7_readWon_112 : ab_Run X 51 112 (13, 0, 0) L st σ Q ↔ ab_Run X 51 113 (13, 0, 0) L (ab_I 1 :: st) σ Q := ab_r_iconst (by decide) kc_X7_readWon dX7_readWon_112
theorem rX7_readWon_113 : ab_Run X 51 113 (13, 0, 0) L st σ Q ↔ ab_Run X 51 117 (13, 0, 0) L st σ Q := ab_r_goto rfl kc_X7_readWon dX7_readWon_113
theorem rX7_readWon_116 : ab_Run X 51 116 (13, 0, 0) L st σ Q ↔ ab_Run X 51 117 (13, 0, 0) L (ab_I 0 :: st) σ Q := ab_r_iconst (by decide) kc_X7_readWon dX7_readWon_116
theorem rX7_readWon_117 : ab_Run X 51 117 (13, 0, 0) L (ab_I b :: ab_I a :: st) σ Q ↔ ab_Run X 51 118 (13, 0, 0) L (ab_I (ab_w32 (a + b)) :: st) σ Q := ab_r_iadd kc_X7_readWon dX7_readWon_117
theorem rX7_readWon_118 : ab_Run X 51 118 (13, 0, 0) L (ab_I z :: ab_R a :: st) σ Q ↔ (ab_sh σ a).1 = 5 ∧ ab_Run X 51 121 (13, 0, 0) L st (ab_wr σ a 11 z) Q := sF_7_246 ko_X7_readWon kc_X7_readWon dX7_readWon_118
theorem rX7_readWon_121 : ab_Run X 51 121 (13, 0, 0) [ab_R z, l1, l2] st σ Q ↔ z ≠ 0 ∧ ab_Run X 51 122 (13, 0, 0) [ab_R z, l1, l2] (ab_R z :: st) σ Q := ab_r_aload_n rfl kc_X7_readWon dX7_readWon_121
theorem rX7_readWon_122 : ab_Run X 51 122 (13, 0, 0) L (ab_R a :: st) σ Q ↔ (ab_sh σ a).1 = 8 ∧ ab_Run X 51 125 (13, 0, 0) L (ab_R (ab_rd σ a 1) :: st) σ Q := gF_7_21 ko_X7_readWon kc_X7_readWon dX7_readWon_122
theorem rX7_readWon_125I : ab_Run X 51 125 (13, 0, 0) L (ab_I a :: st) σ Q ↔ ab_Run X 51 126 (13, 0, 0) L (ab_I a :: ab_I a :: st) σ Q := ab_r_dupI kc_X7_readWon dX7_readWon_125
theorem rX7_readWon_125R : ab_Run X 51 125 (13, 0, 0) L (ab_R a :: st) σ Q ↔ ab_Run X 51 126 (13, 0, 0) L (ab_R a :: ab_R a :: st) σ Q := ab_r_dupR kc_X7_readWon dX7_readWon_125
theorem rX7_readWon_126 : ab_Run X 51 126 (13, 0, 0) L (ab_R a :: st) σ Q ↔ (ab_sh σ a).1 = 5 ∧ ab_Run X 51 129 (13, 0, 0) L (ab_I (ab_rd σ a 10) :: st) σ Q := gF_7_99 ko_X7_readWon kc_X7_readWon dX7_readWon_126
theorem rX7_readWon_129 : ab_Run X 51 129 (13, 0, 0) L st σ Q ↔ ab_Run X 51 130 (13, 0, 0) L (ab_I 1 :: st) σ Q := ab_r_iconst (by decide) kc_X7_readWon dX7_readWon_129
theorem rX7_readWon_130 : ab_Run X 51 130 (13, 0, 0) L (ab_I b :: ab_I a :: st) σ Q ↔ ab_Run X 51 131 (13, 0, 0) L (ab_I (ab_w32 (a + b)) :: st) σ Q := ab_r_iadd kc_X7_readWon dX7_readWon_130
theorem rX7_readWon_131 : ab_Run X 51 131 (13, 0, 0) L (ab_I z :: ab_R a :: st) σ Q ↔ (ab_sh σ a).1 = 5 ∧ ab_Run X 51 134 (13, 0, 0) L st (ab_wr σ a 10 z) Q := sF_7_99 ko_X7_readWon kc_X7_readWon dX7_readWon_131
theorem rX7_readWon_134 : ab_Run X 51 134 (13, 0, 0) L st σ Q ↔ ab_Run X 51 135 (13, 0, 0) L (ab_I 1 :: st) σ Q := ab_r_iconst (by decide) kc_X7_readWon dX7_readWon_134
theorem rX7_readWon_135 : ab_Run X 51 135 (13, 0, 0) L [ab_I v] σ Q ↔ (v = 0 ∨ v = 1) ∧ Q (some (ab_I v)) σ := ab_r_ireturnZ rfl kc_X7_readWon dX7_readWon_135
theorem kc_X7_readPiece : ab_code 52 = cX7_readPiece := rfl
theorem ko_X7_readPiece : ab_ow 52 = 7 := rfl
theorem rX7_readPiece_0 : ab_Run X 52 0 (12, 0, 0) [ab_R z] st σ Q ↔ z ≠ 0 ∧ ab_Run X 52 1 (12, 0, 0) [ab_R z] (ab_R z :: st) σ Q := ab_r_aload_n rfl kc_X7_readPiece dX7_readPiece_0
theorem rX7_readPiece_1 : ab_Run X 52 1 (12, 0, 0) L st σ Q ↔ ab_Run X 52 3 (12, 0, 0) L (ab_R (-14) :: st) σ Q := ab_r_ldcS (n := 12) rfl ko_X7_readPiece (by decide +kernel) (by decide +kernel) rfl kc_X7_readPiece dX7_readPiece_1
theorem rX7_readPiece_3 : ab_Run X 52 3 (12, 0, 0) L st σ Q ↔ ab_Run X 52 5 (12, 0, 0) L (ab_R (-15) :: st) σ Q := ab_r_ldcS (n := 13) rfl ko_X7_readPiece (by decide +kernel) (by decide +kernel) rfl kc_X7_readPiece dX7_readPiece_3
theorem rX7_readPiece_5 : ab_Run X 52 5 (12, 0, 0) L st σ Q ↔ ab_Run X 52 7 (12, 0, 0) L (ab_R (-19) :: st) σ Q := ab_r_ldcS (n := 17) rfl ko_X7_readPiece (by decide +kernel) (by decide +kernel) rfl kc_X7_readPiece dX7_readPiece_5
theorem rX7_readPiece_7 : ab_Run X 52 7 (12, 0, 0) L st σ Q ↔ ab_Run X 52 9 (12, 0, 0) L (ab_R (-19) :: st) σ Q := ab_r_ldcS (n := 17) rfl ko_X7_readPiece (by decide +kernel) (by decide +kernel) rfl kc_X7_readPiece dX7_readPiece_7
theorem rX7_readPiece_9 : ab_Run X 52 9 (12, 0, 0) L (ab_R x4 :: ab_R x3 :: ab_R x2 :: ab_R x1 :: ab_R a :: st) σ Q ↔ ((ab_sh σ a).1 = 8 ∧ ab_cats st ≤ 8) ∧ ab_Do X 56 [ab_R a, ab_R x1, ab_R x2, ab_R x3, ab_R x4] σ (fun r σ' => ab_Run X 52 12 (12, 0, 0) L (ab_psh r st) σ' Q) := ab_r_callV (w := [ab_R x4, ab_R x3, ab_R x2, ab_R x1]) (as := [ab_R x1, ab_R x2, ab_R x3, ab_R x4]) (b1 := (11, 0, 0)) 0 (Or.inl rfl) (by decide) ko_X7_readPiece qM_7_169 (by decide) rfl rfl rfl rfl rfl (by decide) (Nat.le_of_ble_eq_true rfl) kc_X7_readPiece dX7_readPiece_9
theorem rX7_readPiece_12 : ab_Run X 52 12 (12, 0, 0) L (ab_I a :: st) σ Q ↔ (¬ a = 0 → ab_Run X 52 17 (12, 0, 0) L st σ Q) ∧ (¬ (¬ a = 0) → ab_Run X 52 15 (12, 0, 0) L st σ Q) := ab_r_if_ne rfl kc_X7_readPiece dX7_readPiece_12
theorem rX7_readPiece_15 : ab_Run X 52 15 (12, 0, 0) L st σ Q ↔ ab_Run X 52 16 (12, 0, 0) L (ab_I 0 :: st) σ Q := ab_r_iconst (by decide) kc_X7_readPiece dX7_readPiece_15
theorem rX7_readPiece_16 : ab_Run X 52 16 (12, 0, 0) L [ab_I v] σ Q ↔ (v = 0 ∨ v = 1) ∧ Q (some (ab_I v)) σ := ab_r_ireturnZ rfl kc_X7_readPiece dX7_readPiece_16
theorem rX7_readPiece_17 : ab_Run X 52 17 (12, 0, 0) [ab_R z] st σ Q ↔ z ≠ 0 ∧ ab_Run X 52 18 (12, 0, 0) [ab_R z] (ab_R z :: st) σ Q := ab_r_aload_n rfl kc_X7_readPiece dX7_readPiece_17
theorem rX7_readPiece_18 : ab_Run X 52 18 (12, 0, 0) L (ab_R a :: st) σ Q ↔ (ab_sh σ a).1 = 8 ∧ ab_Run X 52 21 (12, 0, 0) L (ab_R (ab_rd σ a 1) :: st) σ Q := gF_7_21 ko_X7_readPiece kc_X7_readPiece dX7_readPiece_18
theorem rX7_readPiece_21 : ab_Run X 52 21 (12, 0, 0) L (ab_R a :: st) σ Q ↔ (ab_sh σ a).1 = 5 ∧ ab_Run X 52 24 (12, 0, 0) L (ab_R (ab_rd σ a 13) :: st) σ Q := gF_7_249 ko_X7_readPiece kc_X7_readPiece dX7_readPiece_21
theorem rX7_readPiece_24 : ab_Run X 52 24 (12, 0, 0) [ab_R z] st σ Q ↔ z ≠ 0 ∧ ab_Run X 52 25 (12, 0, 0) [ab_R z] (ab_R z :: st) σ Q := ab_r_aload_n rfl kc_X7_readPiece dX7_readPiece_24
theorem rX7_readPiece_25 : ab_Run X 52 25 (12, 0, 0) L (ab_R a :: st) σ Q ↔ (ab_sh σ a).1 = 8 ∧ ab_Run X 52 28 (12, 0, 0) L (ab_R (ab_rd σ a 1) :: st) σ Q := gF_7_21 ko_X7_readPiece kc_X7_readPiece dX7_readPiece_25
theorem rX7_readPiece_28 : ab_Run X 52 28 (12, 0, 0) L (ab_R a :: st) σ Q ↔ (ab_sh σ a).1 = 5 ∧ ab_Run X 52 31 (12, 0, 0) L (ab_I (ab_rd σ a 12) :: st) σ Q := gF_7_107 ko_X7_readPiece kc_X7_readPiece dX7_readPiece_28
theorem rX7_readPiece_31 : ab_Run X 52 31 (12, 0, 0) [ab_R z] st σ Q ↔ z ≠ 0 ∧ ab_Run X 52 32 (12, 0, 0) [ab_R z] (ab_R z :: st) σ Q := ab_r_aload_n rfl kc_X7_readPiece dX7_readPiece_31
theorem rX7_readPiece_32 : ab_Run X 52 32 (12, 0, 0) L (ab_R a :: st) σ Q ↔ (ab_sh σ a).1 = 8 ∧ ab_Run X 52 35 (12, 0, 0) L (ab_I (ab_rd σ a 5) :: st) σ Q := gF_7_124 ko_X7_readPiece kc_X7_readPiece dX7_readPiece_32
theorem rX7_readPiece_35 : ab_Run X 52 35 (12, 0, 0) L (ab_I v :: ab_I i :: ab_R a :: st) σ Q ↔ ((ab_sh σ a).1 = 21 ∧ 0 ≤ i ∧ i < (ab_sh σ a).2) ∧ ab_Run X 52 36 (12, 0, 0) L st (ab_wr σ a i v) Q := ab_r_iastore kc_X7_readPiece dX7_readPiece_35
theorem rX7_readPiece_36 : ab_Run X 52 36 (12, 0, 0) [ab_R z] st σ Q ↔ z ≠ 0 ∧ ab_Run X 52 37 (12, 0, 0) [ab_R z] (ab_R z :: st) σ Q := ab_r_aload_n rfl kc_X7_readPiece dX7_readPiece_36
theorem rX7_readPiece_37 : ab_Run X 52 37 (12, 0, 0) L st σ Q ↔ ab_Run X 52 38 (12, 0, 0) L (ab_I 0 :: st) σ Q := ab_r_iconst (by decide) kc_X7_readPiece dX7_readPiece_37
theorem rX7_readPiece_38 : ab_Run X 52 38 (12, 0, 0) L st σ Q ↔ ab_Run X 52 39 (12, 0, 0) L (ab_I 5 :: st) σ Q := ab_r_iconst (by decide) kc_X7_readPiece dX7_readPiece_38
theorem rX7_readPiece_39 : ab_Run X 52 39 (12, 0, 0) L (ab_I x2 :: ab_I x1 :: ab_R a :: st) σ Q ↔ ((ab_sh σ a).1 = 8 ∧ ab_cats st ≤ 8) ∧ ab_Do X 57 [ab_R a, ab_I x1, ab_I x2] σ (fun r σ' => ab_Run X 52 42 (12, 0, 0) L (ab_psh r st) σ' Q) := ab_r_callV (w := [ab_I x2, ab_I x1]) (as := [ab_I x1, ab_I x2]) (b1 := (1, 0, 0)) 0 (Or.inl rfl) (by decide) ko_X7_readPiece qM_7_194 (by decide) rfl rfl rfl rfl rfl (by decide) (Nat.le_of_ble_eq_true rfl) kc_X7_readPiece dX7_readPiece_39
theorem rX7_readPiece_42 : ab_Run X 52 42 (12, 0, 0) L (ab_I a :: st) σ Q ↔ (¬ a = 0 → ab_Run X 52 47 (12, 0, 0) L st σ Q) ∧ (¬ (¬ a = 0) → ab_Run X 52 45 (12, 0, 0) L st σ Q) := ab_r_if_ne rfl kc_X7_readPiece dX7_readPiece_42
theorem rX7_readPiece_45 : ab_Run X 52 45 (12, 0, 0) L st σ Q ↔ ab_Run X 52 46 (12, 0, 0) L (ab_I 0 :: st) σ Q := ab_r_iconst (by decide) kc_X7_readPiece dX7_readPiece_45
theorem rX7_readPiece_46 : ab_Run X 52 46 (12, 0, 0) L [ab_I v] σ Q ↔ (v = 0 ∨ v = 1) ∧ Q (some (ab_I v)) σ := ab_r_ireturnZ rfl kc_X7_readPiece dX7_readPiece_46
theorem rX7_readPiece_47 : ab_Run X 52 47 (12, 0, 0) [ab_R z] st σ Q ↔ z ≠ 0 ∧ ab_Run X 52 48 (12, 0, 0) [ab_R z] (ab_R z :: st) σ Q := ab_r_aload_n rfl kc_X7_readPiece dX7_readPiece_47
theorem rX7_readPiece_48 : ab_Run X 52 48 (12, 0, 0) L (ab_R a :: st) σ Q ↔ (ab_sh σ a).1 = 8 ∧ ab_Run X 52 51 (12, 0, 0) L (ab_R (ab_rd σ a 0) :: st) σ Q := gF_7_12 ko_X7_readPiece kc_X7_readPiece dX7_readPiece_48
theorem rX7_readPiece_51 : ab_Run X 52 51 (12, 0, 0) L (ab_R a :: st) σ Q ↔ ((ab_sh σ a).1 = 10 ∧ ab_cats st ≤ 8) ∧ ab_Do X 70 [ab_R a] σ (fun r σ' => ab_Run X 52 54 (12, 0, 0) L (ab_psh r st) σ' Q) := ab_r_callV (w := []) (as := []) (b1 := (1, 0, 0)) 0 (Or.inl rfl) (by decide) ko_X7_readPiece qM_7_60 (by decide) rfl rfl rfl rfl rfl (by decide) (Nat.le_of_ble_eq_true rfl) kc_X7_readPiece dX7_readPiece_51
theorem rX7_readPiece_54 : ab_Run X 52 54 (12, 0, 0) [ab_R z] st σ Q ↔ z ≠ 0 ∧ ab_Run X 52 55 (12, 0, 0) [ab_R z] (ab_R z :: st) σ Q := ab_r_aload_n rfl kc_X7_readPiece dX7_readPiece_54
theorem rX7_readPiece_55 : ab_Run X 52 55 (12, 0, 0) L (ab_R a :: st) σ Q ↔ (ab_sh σ a).1 = 8 ∧ ab_Run X 52 58 (12, 0, 0) L (ab_R (ab_rd σ a 1) :: st) σ Q := gF_7_21 ko_X7_readPiece kc_X7_readPiece dX7_readPiece_55
theorem rX7_readPiece_58 : ab_Run X 52 58 (12, 0, 0) L (ab_R a :: st) σ Q ↔ (ab_sh σ a).1 = 5 ∧ ab_Run X 52 61 (12, 0, 0) L (ab_R (ab_rd σ a 14) :: st) σ Q := gF_7_252 ko_X7_readPiece kc_X7_readPiece dX7_readPiece_58
theorem rX7_readPiece_61 : ab_Run X 52 61 (12, 0, 0) [ab_R z] st σ Q ↔ z ≠ 0 ∧ ab_Run X 52 62 (12, 0, 0) [ab_R z] (ab_R z :: st) σ Q := ab_r_aload_n rfl kc_X7_readPiece dX7_readPiece_61
theorem rX7_readPiece_62 : ab_Run X 52 62 (12, 0, 0) L (ab_R a :: st) σ Q ↔ (ab_sh σ a).1 = 8 ∧ ab_Run X 52 65 (12, 0, 0) L (ab_R (ab_rd σ a 1) :: st) σ Q := gF_7_21 ko_X7_readPiece kc_X7_readPiece dX7_readPiece_62
theorem rX7_readPiece_65 : ab_Run X 52 65 (12, 0, 0) L (ab_R a :: st) σ Q ↔ (ab_sh σ a).1 = 5 ∧ ab_Run X 52 68 (12, 0, 0) L (ab_I (ab_rd σ a 12) :: st) σ Q := gF_7_107 ko_X7_readPiece kc_X7_readPiece dX7_readPiece_65
theorem rX7_readPiece_68 : ab_Run X 52 68 (12, 0, 0) [ab_R z] st σ Q ↔ z ≠ 0 ∧ ab_Run X 52 69 (12, 0, 0) [ab_R z] (ab_R z :: st) σ Q := ab_r_aload_n rfl kc_X7_readPiece dX7_readPiece_68
theorem rX7_readPiece_69 : ab_Run X 52 69 (12, 0, 0) L (ab_R a :: st) σ Q ↔ (ab_sh σ a).1 = 8 ∧ ab_Run X 52 72 (12, 0, 0) L (ab_I (ab_rd σ a 5) :: st) σ Q := gF_7_124 ko_X7_readPiece kc_X7_readPiece dX7_readPiece_69
theorem rX7_readPiece_72 : ab_Run X 52 72 (12, 0, 0) L (ab_I v :: ab_I i :: ab_R a :: st) σ Q ↔ ((ab_sh σ a).1 = 21 ∧ 0 ≤ i ∧ i < (ab_sh σ a).2) ∧ ab_Run X 52 73 (12, 0, 0) L st (ab_wr σ a i v) Q := ab_r_iastore kc_X7_readPiece dX7_readPiece_72
theorem rX7_readPiece_73 : ab_Run X 52 73 (12, 0, 0) [ab_R z] st σ Q ↔ z ≠ 0 ∧ ab_Run X 52 74 (12, 0, 0) [ab_R z] (ab_R z :: st) σ Q := ab_r_aload_n rfl kc_X7_readPiece dX7_readPiece_73
theorem rX7_readPiece_74 : ab_Run X 52 74 (12, 0, 0) L (ab_R a :: st) σ Q ↔ (ab_sh σ a).1 = 8 ∧ ab_Run X 52 77 (12, 0, 0) L (ab_R (ab_rd σ a 1) :: st) σ Q := gF_7_21 ko_X7_readPiece kc_X7_readPiece dX7_readPiece_74
theorem rX7_readPiece_77I : ab_Run X 52 77 (12, 0, 0) L (ab_I a :: st) σ Q ↔ ab_Run X 52 78 (12, 0, 0) L (ab_I a :: ab_I a :: st) σ Q := ab_r_dupI kc_X7_readPiece dX7_readPiece_77
theorem rX7_readPiece_77R : ab_Run X 52 77 (12, 0, 0) L (ab_R a :: st) σ Q ↔ ab_Run X 52 78 (12, 0, 0) L (ab_R a :: ab_R a :: st) σ Q := ab_r_dupR kc_X7_readPiece dX7_readPiece_77
theorem rX7_readPiece_78 : ab_Run X 52 78 (12, 0, 0) L (ab_R a :: st) σ Q ↔ (ab_sh σ a).1 = 5 ∧ ab_Run X 52 81 (12, 0, 0) L (ab_I (ab_rd σ a 12) :: st) σ Q := gF_7_107 ko_X7_readPiece kc_X7_readPiece dX7_readPiece_78
theorem rX7_readPiece_81 : ab_Run X 52 81 (12, 0, 0) L st σ Q ↔ ab_Run X 52 82 (12, 0, 0) L (ab_I 1 :: st) σ Q := ab_r_iconst (by decide) kc_X7_readPiece dX7_readPiece_81
theorem rX7_readPiece_82 : ab_Run X 52 82 (12, 0, 0) L (ab_I b :: ab_I a :: st) σ Q ↔ ab_Run X 52 83 (12, 0, 0) L (ab_I (ab_w32 (a + b)) :: st) σ Q := ab_r_iadd kc_X7_readPiece dX7_readPiece_82
theorem rX7_readPiece_83 : ab_Run X 52 83 (12, 0, 0) L (ab_I z :: ab_R a :: st) σ Q ↔ (ab_sh σ a).1 = 5 ∧ ab_Run X 52 86 (12, 0, 0) L st (ab_wr σ a 12 z) Q := sF_7_107 ko_X7_readPiece kc_X7_readPiece dX7_readPiece_83
theorem rX7_readPiece_86 : ab_Run X 52 86 (12, 0, 0) L st σ Q ↔ ab_Run X 52 87 (12, 0, 0) L (ab_I 1 :: st) σ Q := ab_r_iconst (by decide) kc_X7_readPiece dX7_readPiece_86
theorem rX7_readPiece_87 : ab_Run X 52 87 (12, 0, 0) L [ab_I v] σ Q ↔ (v = 0 ∨ v = 1) ∧ Q (some (ab_I v)) σ := ab_r_ireturnZ rfl kc_X7_readPiece dX7_readPiece_87
theorem kc_X7_readCheats : ab_code 53 = cX7_readCheats := rfl
theorem ko_X7_readCheats : ab_ow 53 = 7 := rfl
theorem rX7_readCheats_0 : ab_Run X 53 0 (13, 0, 0) [ab_R z, l1] st σ Q ↔ z ≠ 0 ∧ ab_Run X 53 1 (13, 0, 0) [ab_R z, l1] (ab_R z :: st) σ Q := ab_r_aload_n rfl kc_X7_readCheats dX7_readCheats_0
theorem rX7_readCheats_1 : ab_Run X 53 1 (13, 0, 0) L st σ Q ↔ ab_Run X 53 2 (13, 0, 0) L (ab_I (-1) :: st) σ Q := ab_r_iconst (by decide) kc_X7_readCheats dX7_readCheats_1
theorem rX7_readCheats_2 : ab_Run X 53 2 (13, 0, 0) L (ab_I x1 :: ab_R a :: st) σ Q ↔ ((ab_sh σ a).1 = 8 ∧ ab_cats st ≤ 8) ∧ ab_Do X 60 [ab_R a, ab_I x1] σ (fun r σ' => ab_Run X 53 5 (13, 0, 0) L (ab_psh r st) σ' Q) := ab_r_callV (w := [ab_I x1]) (as := [ab_I x1]) (b1 := (12, 0, 0)) 0 (Or.inl rfl) (by decide) ko_X7_readCheats qM_7_235 (by decide) rfl rfl rfl rfl rfl (by decide) (Nat.le_of_ble_eq_true rfl) kc_X7_readCheats dX7_readCheats_2
theorem rX7_readCheats_5 : ab_Run X 53 5 (13, 0, 0) L (ab_I a :: st) σ Q ↔ (¬ a = 0 → ab_Run X 53 10 (13, 0, 0) L st σ Q) ∧ (¬ (¬ a = 0) → ab_Run X 53 8 (13, 0, 0) L st σ Q) := ab_r_if_ne rfl kc_X7_readCheats dX7_readCheats_5
theorem rX7_readCheats_8 : ab_Run X 53 8 (13, 0, 0) L st σ Q ↔ ab_Run X 53 9 (13, 0, 0) L (ab_I 0 :: st) σ Q := ab_r_iconst (by decide) kc_X7_readCheats dX7_readCheats_8
theorem rX7_readCheats_9 : ab_Run X 53 9 (13, 0, 0) L [ab_I v] σ Q ↔ (v = 0 ∨ v = 1) ∧ Q (some (ab_I v)) σ := ab_r_ireturnZ rfl kc_X7_readCheats dX7_readCheats_9
theorem rX7_readCheats_10 : ab_Run X 53 10 (13, 0, 0) [ab_R z, l1] st σ Q ↔ z ≠ 0 ∧ ab_Run X 53 11 (13, 0, 0) [ab_R z, l1] (ab_R z :: st) σ Q := ab_r_aload_n rfl kc_X7_readCheats dX7_readCheats_10
theorem rX7_readCheats_11 : ab_Run X 53 11 (13, 0, 0) L (ab_R a :: st) σ Q ↔ (ab_sh σ a).1 = 8 ∧ ab_Run X 53 14 (13, 0, 0) L (ab_R (ab_rd σ a 1) :: st) σ Q := gF_7_21 ko_X7_readCheats kc_X7_readCheats dX7_readCheats_11
theorem rX7_readCheats_14 : ab_Run X 53 14 (13, 0, 0) L (ab_R a :: st) σ Q ↔ (ab_sh σ a).1 = 5 ∧ ab_Run X 53 17 (13, 0, 0) L (ab_R (ab_rd σ a 8) :: st) σ Q := gF_7_201 ko_X7_readCheats kc_X7_readCheats dX7_readCheats_14
theorem rX7_readCheats_17 : ab_Run X 53 17 (13, 0, 0) [ab_R z, l1] st σ Q ↔ z ≠ 0 ∧ ab_Run X 53 18 (13, 0, 0) [ab_R z, l1] (ab_R z :: st) σ Q := ab_r_aload_n rfl kc_X7_readCheats dX7_readCheats_17
theorem rX7_readCheats_18 : ab_Run X 53 18 (13, 0, 0) L (ab_R a :: st) σ Q ↔ (ab_sh σ a).1 = 8 ∧ ab_Run X 53 21 (13, 0, 0) L (ab_I (ab_rd σ a 5) :: st) σ Q := gF_7_124 ko_X7_readCheats kc_X7_readCheats dX7_readCheats_18
theorem rX7_readCheats_21 : ab_Run X 53 21 (13, 0, 0) L (ab_I i :: ab_R a :: st) σ Q ↔ ((25 ≤ (ab_sh σ a).1 ∧ (ab_sh σ a).1 < 30) ∧ 0 ≤ i ∧ i < (ab_sh σ a).2) ∧ ab_Run X 53 22 (13, 0, 0) L (ab_R (ab_rd σ a i) :: st) σ Q := ab_r_aaload kc_X7_readCheats dX7_readCheats_21
theorem rX7_readCheats_22 : ab_Run X 53 22 (13, 0, 0) [l0, l1] (ab_R z :: st) σ Q ↔ (!ab_isJ l0) = true ∧ ab_Run X 53 23 (13, 0, 0) [l0, ab_R z] st σ Q := ab_r_astore_n (Nat.le_of_ble_eq_true rfl) kc_X7_readCheats dX7_readCheats_22
theorem rX7_readCheats_23 : ab_Run X 53 23 (13, 0, 0) [l0, ab_R z] st σ Q ↔ z ≠ 0 ∧ ab_Run X 53 24 (13, 0, 0) [l0, ab_R z] (ab_R z :: st) σ Q := ab_r_aload_n rfl kc_X7_readCheats dX7_readCheats_23
theorem rX7_readCheats_24 : ab_Run X 53 24 (13, 0, 0) L (ab_R a :: st) σ Q ↔ (ab_sh σ a).1 = 6 ∧ ab_Run X 53 27 (13, 0, 0) L (ab_I (ab_rd σ a 9) :: st) σ Q := gF_7_255 ko_X7_readCheats kc_X7_readCheats dX7_readCheats_24
theorem rX7_readCheats_27 : ab_Run X 53 27 (13, 0, 0) L st σ Q ↔ ab_Run X 53 28 (13, 0, 0) L (ab_I (-1) :: st) σ Q := ab_r_iconst (by decide) kc_X7_readCheats dX7_readCheats_27
theorem rX7_readCheats_28 : ab_Run X 53 28 (13, 0, 0) L (ab_I b :: ab_I a :: st) σ Q ↔ (a = b → ab_Run X 53 37 (13, 0, 0) L st σ Q) ∧ (¬ (a = b) → ab_Run X 53 31 (13, 0, 0) L st σ Q) := ab_r_icmp_eq rfl kc_X7_readCheats dX7_readCheats_28
theorem rX7_readCheats_31 : ab_Run X 53 31 (13, 0, 0) [ab_R z, l1] st σ Q ↔ z ≠ 0 ∧ ab_Run X 53 32 (13, 0, 0) [ab_R z, l1] (ab_R z :: st) σ Q := ab_r_aload_n rfl kc_X7_readCheats dX7_readCheats_31
theorem rX7_readCheats_32 : ab_Run X 53 32 (13, 0, 0) L st σ Q ↔ ab_Run X 53 33 (13, 0, 0) L (ab_I 3 :: st) σ Q := ab_r_iconst (by decide) kc_X7_readCheats dX7_readCheats_32
theorem rX7_readCheats_33 : ab_Run X 53 33 (13, 0, 0) L (ab_I x1 :: ab_R a :: st) σ Q ↔ ((ab_sh σ a).1 = 8 ∧ ab_cats st ≤ 8) ∧ ab_Do X 43 [ab_R a, ab_I x1] σ (fun r σ' => ab_Run X 53 36 (13, 0, 0) L (ab_psh r st) σ' Q) := ab_r_callV (w := [ab_I x1]) (as := [ab_I x1]) (b1 := (0, 0, 0)) 0 (Or.inl rfl) (by decide) ko_X7_readCheats qM_7_56 (by decide) rfl rfl rfl rfl rfl (by decide) (Nat.le_of_ble_eq_true rfl) kc_X7_readCheats dX7_readCheats_33
theorem rX7_readCheats_36 : ab_Run X 53 36 (13, 0, 0) L [ab_I v] σ Q ↔ (v = 0 ∨ v = 1) ∧ Q (some (ab_I v)) σ := ab_r_ireturnZ rfl kc_X7_readCheats dX7_readCheats_36
theorem rX7_readCheats_37 : ab_Run X 53 37 (13, 0, 0) [ab_R z, l1] st σ Q ↔ z ≠ 0 ∧ ab_Run X 53 38 (13, 0, 0) [ab_R z, l1] (ab_R z :: st) σ Q := ab_r_aload_n rfl kc_X7_readCheats dX7_readCheats_37
theorem rX7_readCheats_38 : ab_Run X 53 38 (13, 0, 0) L (ab_R a :: st) σ Q ↔ (ab_sh σ a).1 = 8 ∧ ab_Run X 53 41 (13, 0, 0) L (ab_R (ab_rd σ a 0) :: st) σ Q := gF_7_12 ko_X7_readCheats kc_X7_readCheats dX7_readCheats_38
theorem rX7_readCheats_41 : ab_Run X 53 41 (13, 0, 0) L (ab_R a :: st) σ Q ↔ ((ab_sh σ a).1 = 10 ∧ ab_cats st ≤ 8) ∧ ab_Do X 70 [ab_R a] σ (fun r σ' => ab_Run X 53 44 (13, 0, 0) L (ab_psh r st) σ' Q) := ab_r_callV (w := []) (as := []) (b1 := (1, 0, 0)) 0 (Or.inl rfl) (by decide) ko_X7_readCheats qM_7_60 (by decide) rfl rfl rfl rfl rfl (by decide) (Nat.le_of_ble_eq_true rfl) kc_X7_readCheats dX7_readCheats_41
theorem rX7_readCheats_44 : ab_Run X 53 44 (13, 0, 0) [ab_R z, l1] st σ Q ↔ z ≠ 0 ∧ ab_Run X 53 45 (13, 0, 0) [ab_R z, l1] (ab_R z :: st) σ Q := ab_r_aload_n rfl kc_X7_readCheats dX7_readCheats_44
theorem rX7_readCheats_45 : ab_Run X 53 45 (13, 0, 0) L st σ Q ↔ ab_Run X 53 46 (13, 0, 0) L (ab_I 0 :: st) σ Q := ab_r_iconst (by decide) kc_X7_readCheats dX7_readCheats_45
theorem rX7_readCheats_46 : ab_Run X 53 46 (13, 0, 0) L st σ Q ↔ ab_Run X 53 48 (13, 0, 0) L (ab_I 99 :: st) σ Q := ab_r_bipush (by decide) kc_X7_readCheats dX7_readCheats_46
theorem rX7_readCheats_48 : ab_Run X 53 48 (13, 0, 0) L (ab_I x2 :: ab_I x1 :: ab_R a :: st) σ Q ↔ ((ab_sh σ a).1 = 8 ∧ ab_cats st ≤ 8) ∧ ab_Do X 57 [ab_R a, ab_I x1, ab_I x2] σ (fun r σ' => ab_Run X 53 51 (13, 0, 0) L (ab_psh r st) σ' Q) := ab_r_callV (w := [ab_I x2, ab_I x1]) (as := [ab_I x1, ab_I x2]) (b1 := (1, 0, 0)) 0 (Or.inl rfl) (by decide) ko_X7_readCheats qM_7_194 (by decide) rfl rfl rfl rfl rfl (by decide) (Nat.le_of_ble_eq_true rfl) kc_X7_readCheats dX7_readCheats_48
theorem rX7_readCheats_51 : ab_Run X 53 51 (13, 0, 0) L (ab_I a :: st) σ Q ↔ (¬ a = 0 → ab_Run X 53 56 (13, 0, 0) L st σ Q) ∧ (¬ (¬ a = 0) → ab_Run X 53 54 (13, 0, 0) L st σ Q) := ab_r_if_ne rfl kc_X7_readCheats dX7_readCheats_51
theorem rX7_readCheats_54 : ab_Run X 53 54 (13, 0, 0) L st σ Q ↔ ab_Run X 53 55 (13, 0, 0) L (ab_I 0 :: st) σ Q := ab_r_iconst (by decide) kc_X7_readCheats dX7_readCheats_54
theorem rX7_readCheats_55 : ab_Run X 53 55 (13, 0, 0) L [ab_I v] σ Q ↔ (v = 0 ∨ v = 1) ∧ Q (some (ab_I v)) σ := ab_r_ireturnZ rfl kc_X7_readCheats dX7_readCheats_55
theorem rX7_readCheats_56 : ab_Run X 53 56 (13, 0, 0) [l0, ab_R z] st σ Q ↔ z ≠ 0 ∧ ab_Run X 53 57 (13, 0, 0) [l0, ab_R z] (ab_R z :: st) σ Q := ab_r_aload_n rfl kc_X7_readCheats dX7_readCheats_56
theorem rX7_readCheats_57 : ab_Run X 53 57 (13, 0, 0) [ab_R z, l1] st σ Q ↔ z ≠ 0 ∧ ab_Run X 53 58 (13, 0, 0) [ab_R z, l1] (ab_R z :: st) σ Q := ab_r_aload_n rfl kc_X7_readCheats dX7_readCheats_57
theorem rX7_readCheats_58 : ab_Run X 53 58 (13, 0, 0) L (ab_R a :: st) σ Q ↔ (ab_sh σ a).1 = 8 ∧ ab_Run X 53 61 (13, 0, 0) L (ab_I (ab_rd σ a 5) :: st) σ Q := gF_7_124 ko_X7_readCheats kc_X7_readCheats dX7_readCheats_58
theorem rX7_readCheats_61 : ab_Run X 53 61 (13, 0, 0) L (ab_I z :: ab_R a :: st) σ Q ↔ (ab_sh σ a).1 = 6 ∧ ab_Run X 53 64 (13, 0, 0) L st (ab_wr σ a 9 z) Q := sF_7_255 ko_X7_readCheats kc_X7_readCheats dX7_readCheats_61
theorem rX7_readCheats_64 : ab_Run X 53 64 (13, 0, 0) [ab_R z, l1] st σ Q ↔ z ≠ 0 ∧ ab_Run X 53 65 (13, 0, 0) [ab_R z, l1] (ab_R z :: st) σ Q := ab_r_aload_n rfl kc_X7_readCheats dX7_readCheats_64
theorem rX7_readCheats_65 : ab_Run X 53 65 (13, 0, 0) L (ab_R a :: st) σ Q ↔ (ab_sh σ a).1 = 8 ∧ ab_Run X 53 68 (13, 0, 0) L (ab_R (ab_rd σ a 0) :: st) σ Q := gF_7_12 ko_X7_readCheats kc_X7_readCheats dX7_readCheats_65
theorem rX7_readCheats_68 : ab_Run X 53 68 (13, 0, 0) L (ab_R a :: st) σ Q ↔ ((ab_sh σ a).1 = 10 ∧ ab_cats st ≤ 8) ∧ ab_Do X 70 [ab_R a] σ (fun r σ' => ab_Run X 53 71 (13, 0, 0) L (ab_psh r st) σ' Q) := ab_r_callV (w := []) (as := []) (b1 := (1, 0, 0)) 0 (Or.inl rfl) (by decide) ko_X7_readCheats qM_7_60 (by decide) rfl rfl rfl rfl rfl (by decide) (Nat.le_of_ble_eq_true rfl) kc_X7_readCheats dX7_readCheats_68
theorem rX7_readCheats_71 : ab_Run X 53 71 (13, 0, 0) [ab_R z, l1] st σ Q ↔ z ≠ 0 ∧ ab_Run X 53 72 (13, 0, 0) [ab_R z, l1] (ab_R z :: st) σ Q := ab_r_aload_n rfl kc_X7_readCheats dX7_readCheats_71
theorem rX7_readCheats_72 : ab_Run X 53 72 (13, 0, 0) L st σ Q ↔ ab_Run X 53 74 (13, 0, 0) L (ab_R (-6) :: st) σ Q := ab_r_ldcS (n := 4) rfl ko_X7_readCheats (by decide +kernel) (by decide +kernel) rfl kc_X7_readCheats dX7_readCheats_72
theorem rX7_readCheats_74 : ab_Run X 53 74 (13, 0, 0) L st σ Q ↔ ab_Run X 53 75 (13, 0, 0) L (ab_I 1 :: st) σ Q := ab_r_iconst (by decide) kc_X7_readCheats dX7_readCheats_74
theorem rX7_readCheats_75 : ab_Run X 53 75 (13, 0, 0) L st σ Q ↔ ab_Run X 53 77 (13, 0, 0) L (ab_I 9 :: st) σ Q := ab_r_bipush (by decide) kc_X7_readCheats dX7_readCheats_75
theorem rX7_readCheats_77 : ab_Run X 53 77 (13, 0, 0) L (ab_I x3 :: ab_I x2 :: ab_R x1 :: ab_R a :: st) σ Q ↔ ((ab_sh σ a).1 = 8 ∧ ab_cats st ≤ 8) ∧ ab_Do X 55 [ab_R a, ab_R x1, ab_I x2, ab_I x3] σ (fun r σ' => ab_Run X 53 80 (13, 0, 0) L (ab_psh r st) σ' Q) := ab_r_callV (w := [ab_I x3, ab_I x2, ab_R x1]) (as := [ab_R x1, ab_I x2, ab_I x3]) (b1 := (12, 0, 0)) 0 (Or.inl rfl) (by decide) ko_X7_readCheats qM_7_120 (by decide) rfl rfl rfl rfl rfl (by decide) (Nat.le_of_ble_eq_true rfl) kc_X7_readCheats dX7_readCheats_77
theorem rX7_readCheats_80 : ab_Run X 53 80 (13, 0, 0) L (ab_I a :: st) σ Q ↔ (¬ a = 0 → ab_Run X 53 85 (13, 0, 0) L st σ Q) ∧ (¬ (¬ a = 0) → ab_Run X 53 83 (13, 0, 0) L st σ Q) := ab_r_if_ne rfl kc_X7_readCheats dX7_readCheats_80
theorem rX7_readCheats_83 : ab_Run X 53 83 (13, 0, 0) L st σ Q ↔ ab_Run X 53 84 (13, 0, 0) L (ab_I 0 :: st) σ Q := ab_r_iconst (by decide) kc_X7_readCheats dX7_readCheats_83
theorem rX7_readCheats_84 : ab_Run X 53 84 (13, 0, 0) L [ab_I v] σ Q ↔ (v = 0 ∨ v = 1) ∧ Q (some (ab_I v)) σ := ab_r_ireturnZ rfl kc_X7_readCheats dX7_readCheats_84
theorem rX7_readCheats_85 : ab_Run X 53 85 (13, 0, 0) [l0, ab_R z] st σ Q ↔ z ≠ 0 ∧ ab_Run X 53 86 (13, 0, 0) [l0, ab_R z] (ab_R z :: st) σ Q := ab_r_aload_n rfl kc_X7_readCheats dX7_readCheats_85
theorem rX7_readCheats_86 : ab_Run X 53 86 (13, 0, 0) [ab_R z, l1] st σ Q ↔ z ≠ 0 ∧ ab_Run X 53 87 (13, 0, 0) [ab_R z, l1] (ab_R z :: st) σ Q := ab_r_aload_n rfl kc_X7_readCheats dX7_readCheats_86
theorem rX7_readCheats_87 : ab_Run X 53 87 (13, 0, 0) L (ab_R a :: st) σ Q ↔ (ab_sh σ a).1 = 8 ∧ ab_Run X 53 90 (13, 0, 0) L (ab_I (ab_rd σ a 5) :: st) σ Q := gF_7_124 ko_X7_readCheats kc_X7_readCheats dX7_readCheats_87
theorem rX7_readCheats_90 : ab_Run X 53 90 (13, 0, 0) L (ab_I z :: ab_R a :: st) σ Q ↔ (ab_sh σ a).1 = 6 ∧ ab_Run X 53 93 (13, 0, 0) L st (ab_wr σ a 10 z) Q := sF_7_258 ko_X7_readCheats kc_X7_readCheats dX7_readCheats_90
theorem rX7_readCheats_93 : ab_Run X 53 93 (13, 0, 0) [ab_R z, l1] st σ Q ↔ z ≠ 0 ∧ ab_Run X 53 94 (13, 0, 0) [ab_R z, l1] (ab_R z :: st) σ Q := ab_r_aload_n rfl kc_X7_readCheats dX7_readCheats_93
theorem rX7_readCheats_94 : ab_Run X 53 94 (13, 0, 0) L st σ Q ↔ ab_Run X 53 97 (13, 0, 0) L (ab_R (-28) :: st) σ Q := ab_r_ldc_wS (n := 26) rfl ko_X7_readCheats (by decide +kernel) (by decide +kernel) rfl kc_X7_readCheats dX7_readCheats_94
theorem rX7_readCheats_97 : ab_Run X 53 97 (13, 0, 0) L st σ Q ↔ ab_Run X 53 98 (13, 0, 0) L (ab_I 1 :: st) σ Q := ab_r_iconst (by decide) kc_X7_readCheats dX7_readCheats_97
theorem rX7_readCheats_98 : ab_Run X 53 98 (13, 0, 0) L st σ Q ↔ ab_Run X 53 100 (13, 0, 0) L (ab_I 9 :: st) σ Q := ab_r_bipush (by decide) kc_X7_readCheats dX7_readCheats_98
theorem rX7_readCheats_100 : ab_Run X 53 100 (13, 0, 0) L (ab_I x3 :: ab_I x2 :: ab_R x1 :: ab_R a :: st) σ Q ↔ ((ab_sh σ a).1 = 8 ∧ ab_cats st ≤ 8) ∧ ab_Do X 55 [ab_R a, ab_R x1, ab_I x2, ab_I x3] σ (fun r σ' => ab_Run X 53 103 (13, 0, 0) L (ab_psh r st) σ' Q) := ab_r_callV (w := [ab_I x3, ab_I x2, ab_R x1]) (as := [ab_R x1, ab_I x2, ab_I x3]) (b1 := (12, 0, 0)) 0 (Or.inl rfl) (by decide) ko_X7_readCheats qM_7_120 (by decide) rfl rfl rfl rfl rfl (by decide) (Nat.le_of_ble_eq_true rfl) kc_X7_readCheats dX7_readCheats_100
theorem rX7_readCheats_103 : ab_Run X 53 103 (13, 0, 0) L (ab_I a :: st) σ Q ↔ (¬ a = 0 → ab_Run X 53 108 (13, 0, 0) L st σ Q) ∧ (¬ (¬ a = 0) → ab_Run X 53 106 (13, 0, 0) L st σ Q) := ab_r_if_ne rfl kc_X7_readCheats dX7_readCheats_103
theorem rX7_readCheats_106 : ab_Run X 53 106 (13, 0, 0) L st σ Q ↔ ab_Run X 53 107 (13, 0, 0) L (ab_I 0 :: st) σ Q := ab_r_iconst (by decide) kc_X7_readCheats dX7_readCheats_106
theorem rX7_readCheats_107 : ab_Run X 53 107 (13, 0, 0) L [ab_I v] σ Q ↔ (v = 0 ∨ v = 1) ∧ Q (some (ab_I v)) σ := ab_r_ireturnZ rfl kc_X7_readCheats dX7_readCheats_107
theorem rX7_readCheats_108 : ab_Run X 53 108 (13, 0, 0) [l0, ab_R z] st σ Q ↔ z ≠ 0 ∧ ab_Run X 53 109 (13, 0, 0) [l0, ab_R z] (ab_R z :: st) σ Q := ab_r_aload_n rfl kc_X7_readCheats dX7_readCheats_108
theorem rX7_readCheats_109 : ab_Run X 53 109 (13, 0, 0) [ab_R z, l1] st σ Q ↔ z ≠ 0 ∧ ab_Run X 53 110 (13, 0, 0) [ab_R z, l1] (ab_R z :: st) σ Q := ab_r_aload_n rfl kc_X7_readCheats dX7_readCheats_109
theorem rX7_readCheats_110 : ab_Run X 53 110 (13, 0, 0) L (ab_R a :: st) σ Q ↔ (ab_sh σ a).1 = 8 ∧ ab_Run X 53 113 (13, 0, 0) L (ab_I (ab_rd σ a 5) :: st) σ Q := gF_7_124 ko_X7_readCheats kc_X7_readCheats dX7_readCheats_110
theorem rX7_readCheats_113 : ab_Run X 53 113 (13, 0, 0) L (ab_I z :: ab_R a :: st) σ Q ↔ (ab_sh σ a).1 = 6 ∧ ab_Run X 53 116 (13, 0, 0) L st (ab_wr σ a 11 z) Q := sF_7_263 ko_X7_readCheats kc_X7_readCheats dX7_readCheats_113
theorem rX7_readCheats_116 : ab_Run X 53 116 (13, 0, 0) L st σ Q ↔ ab_Run X 53 117 (13, 0, 0) L (ab_I 1 :: st) σ Q := ab_r_iconst (by decide) kc_X7_readCheats dX7_readCheats_116
theorem rX7_readCheats_117 : ab_Run X 53 117 (13, 0, 0) L [ab_I v] σ Q ↔ (v = 0 ∨ v = 1) ∧ Q (some (ab_I v)) σ := ab_r_ireturnZ rfl kc_X7_readCheats dX7_readCheats_117
theorem kc_X7_readWord : ab_code 54 = cX7_readWord := rfl
theorem ko_X7_readWord : ab_ow 54 = 7 := rfl
theorem rX7_readWord_0 : ab_Run X 54 0 (11, 0, 0) [ab_R z, l1] st σ Q ↔ z ≠ 0 ∧ ab_Run X 54 1 (11, 0, 0) [ab_R z, l1] (ab_R z :: st) σ Q := ab_r_aload_n rfl kc_X7_readWord dX7_readWord_0
theorem rX7_readWord_1 : ab_Run X 54 1 (11, 0, 0) L (ab_R a :: st) σ Q ↔ (ab_sh σ a).1 = 8 ∧ ab_Run X 54 4 (11, 0, 0) L (ab_R (ab_rd σ a 0) :: st) σ Q := gF_7_12 ko_X7_readWord kc_X7_readWord dX7_readWord_1
theorem rX7_readWord_4 : ab_Run X 54 4 (11, 0, 0) [l0, ab_R z] st σ Q ↔ z ≠ 0 ∧ ab_Run X 54 5 (11, 0, 0) [l0, ab_R z] (ab_R z :: st) σ Q := ab_r_aload_n rfl kc_X7_readWord dX7_readWord_4
theorem rX7_readWord_5 : ab_Run X 54 5 (11, 0, 0) L (ab_R x1 :: ab_R a :: st) σ Q ↔ ((ab_sh σ a).1 = 10 ∧ ab_cats st ≤ 8) ∧ ab_Do X 73 [ab_R a, ab_R x1] σ (fun r σ' => ab_Run X 54 8 (11, 0, 0) L (ab_psh r st) σ' Q) := ab_r_callV (w := [ab_R x1]) (as := [ab_R x1]) (b1 := (10, 0, 0)) 0 (Or.inl rfl) (by decide) ko_X7_readWord qM_7_68 (by decide) rfl rfl rfl rfl rfl (by decide) (Nat.le_of_ble_eq_true rfl) kc_X7_readWord dX7_readWord_5
theorem rX7_readWord_8 : ab_Run X 54 8 (11, 0, 0) L (ab_I a :: st) σ Q ↔ (¬ a = 0 → ab_Run X 54 17 (11, 0, 0) L st σ Q) ∧ (¬ (¬ a = 0) → ab_Run X 54 11 (11, 0, 0) L st σ Q) := ab_r_if_ne rfl kc_X7_readWord dX7_readWord_8
theorem rX7_readWord_11 : ab_Run X 54 11 (11, 0, 0) [ab_R z, l1] st σ Q ↔ z ≠ 0 ∧ ab_Run X 54 12 (11, 0, 0) [ab_R z, l1] (ab_R z :: st) σ Q := ab_r_aload_n rfl kc_X7_readWord dX7_readWord_11
theorem rX7_readWord_12 : ab_Run X 54 12 (11, 0, 0) L st σ Q ↔ ab_Run X 54 13 (11, 0, 0) L (ab_I 1 :: st) σ Q := ab_r_iconst (by decide) kc_X7_readWord dX7_readWord_12
theorem rX7_readWord_13 : ab_Run X 54 13 (11, 0, 0) L (ab_I x1 :: ab_R a :: st) σ Q ↔ ((ab_sh σ a).1 = 8 ∧ ab_cats st ≤ 8) ∧ ab_Do X 43 [ab_R a, ab_I x1] σ (fun r σ' => ab_Run X 54 16 (11, 0, 0) L (ab_psh r st) σ' Q) := ab_r_callV (w := [ab_I x1]) (as := [ab_I x1]) (b1 := (0, 0, 0)) 0 (Or.inl rfl) (by decide) ko_X7_readWord qM_7_56 (by decide) rfl rfl rfl rfl rfl (by decide) (Nat.le_of_ble_eq_true rfl) kc_X7_readWord dX7_readWord_13
theorem rX7_readWord_16 : ab_Run X 54 16 (11, 0, 0) L [ab_I v] σ Q ↔ (v = 0 ∨ v = 1) ∧ Q (some (ab_I v)) σ := ab_r_ireturnZ rfl kc_X7_readWord dX7_readWord_16
theorem rX7_readWord_17 : ab_Run X 54 17 (11, 0, 0) [ab_R z, l1] st σ Q ↔ z ≠ 0 ∧ ab_Run X 54 18 (11, 0, 0) [ab_R z, l1] (ab_R z :: st) σ Q := ab_r_aload_n rfl kc_X7_readWord dX7_readWord_17
theorem rX7_readWord_18 : ab_Run X 54 18 (11, 0, 0) L (ab_R a :: st) σ Q ↔ (ab_sh σ a).1 = 8 ∧ ab_Run X 54 21 (11, 0, 0) L (ab_R (ab_rd σ a 0) :: st) σ Q := gF_7_12 ko_X7_readWord kc_X7_readWord dX7_readWord_18
theorem rX7_readWord_21 : ab_Run X 54 21 (11, 0, 0) L (ab_R a :: st) σ Q ↔ ((ab_sh σ a).1 = 10 ∧ ab_cats st ≤ 8) ∧ ab_Do X 70 [ab_R a] σ (fun r σ' => ab_Run X 54 24 (11, 0, 0) L (ab_psh r st) σ' Q) := ab_r_callV (w := []) (as := []) (b1 := (1, 0, 0)) 0 (Or.inl rfl) (by decide) ko_X7_readWord qM_7_60 (by decide) rfl rfl rfl rfl rfl (by decide) (Nat.le_of_ble_eq_true rfl) kc_X7_readWord dX7_readWord_21
theorem rX7_readWord_24 : ab_Run X 54 24 (11, 0, 0) L st σ Q ↔ ab_Run X 54 25 (11, 0, 0) L (ab_I 1 :: st) σ Q := ab_r_iconst (by decide) kc_X7_readWord dX7_readWord_24
theorem rX7_readWord_25 : ab_Run X 54 25 (11, 0, 0) L [ab_I v] σ Q ↔ (v = 0 ∨ v = 1) ∧ Q (some (ab_I v)) σ := ab_r_ireturnZ rfl kc_X7_readWord dX7_readWord_25
theorem kc_X7_readWhole : ab_code 55 = cX7_readWhole := rfl
theorem ko_X7_readWhole : ab_ow 55 = 7 := rfl
theorem rX7_readWhole_0 : ab_Run X 55 0 (12, 0, 0) [ab_R z, l1, l2, l3] st σ Q ↔ z ≠ 0 ∧ ab_Run X 55 1 (12, 0, 0) [ab_R z, l1, l2, l3] (ab_R z :: st) σ Q := ab_r_aload_n rfl kc_X7_readWhole dX7_readWhole_0
theorem rX7_readWhole_1 : ab_Run X 55 1 (12, 0, 0) [l0, ab_R z, l2, l3] st σ Q ↔ z ≠ 0 ∧ ab_Run X 55 2 (12, 0, 0) [l0, ab_R z, l2, l3] (ab_R z :: st) σ Q := ab_r_aload_n rfl kc_X7_readWhole dX7_readWhole_1
theorem rX7_readWhole_2 : ab_Run X 55 2 (12, 0, 0) L (ab_R x1 :: ab_R a :: st) σ Q ↔ ((ab_sh σ a).1 = 8 ∧ ab_cats st ≤ 8) ∧ ab_Do X 54 [ab_R a, ab_R x1] σ (fun r σ' => ab_Run X 55 5 (12, 0, 0) L (ab_psh r st) σ' Q) := ab_r_callV (w := [ab_R x1]) (as := [ab_R x1]) (b1 := (11, 0, 0)) 0 (Or.inl rfl) (by decide) ko_X7_readWhole qM_7_181 (by decide) rfl rfl rfl rfl rfl (by decide) (Nat.le_of_ble_eq_true rfl) kc_X7_readWhole dX7_readWhole_2
theorem rX7_readWhole_5 : ab_Run X 55 5 (12, 0, 0) L (ab_I a :: st) σ Q ↔ (a = 0 → ab_Run X 55 17 (12, 0, 0) L st σ Q) ∧ (¬ (a = 0) → ab_Run X 55 8 (12, 0, 0) L st σ Q) := ab_r_if_eq rfl kc_X7_readWhole dX7_readWhole_5
theorem rX7_readWhole_8 : ab_Run X 55 8 (12, 0, 0) [ab_R z, l1, l2, l3] st σ Q ↔ z ≠ 0 ∧ ab_Run X 55 9 (12, 0, 0) [ab_R z, l1, l2, l3] (ab_R z :: st) σ Q := ab_r_aload_n rfl kc_X7_readWhole dX7_readWhole_8
theorem rX7_readWhole_9 : ab_Run X 55 9 (12, 0, 0) [l0, l1, ab_I z, l3] st σ Q ↔ ab_Run X 55 10 (12, 0, 0) [l0, l1, ab_I z, l3] (ab_I z :: st) σ Q := ab_r_iload_n rfl kc_X7_readWhole dX7_readWhole_9
theorem rX7_readWhole_10 : ab_Run X 55 10 (12, 0, 0) [l0, l1, l2, ab_I z] st σ Q ↔ ab_Run X 55 11 (12, 0, 0) [l0, l1, l2, ab_I z] (ab_I z :: st) σ Q := ab_r_iload_n rfl kc_X7_readWhole dX7_readWhole_10
theorem rX7_readWhole_11 : ab_Run X 55 11 (12, 0, 0) L (ab_I x2 :: ab_I x1 :: ab_R a :: st) σ Q ↔ ((ab_sh σ a).1 = 8 ∧ ab_cats st ≤ 8) ∧ ab_Do X 57 [ab_R a, ab_I x1, ab_I x2] σ (fun r σ' => ab_Run X 55 14 (12, 0, 0) L (ab_psh r st) σ' Q) := ab_r_callV (w := [ab_I x2, ab_I x1]) (as := [ab_I x1, ab_I x2]) (b1 := (1, 0, 0)) 0 (Or.inl rfl) (by decide) ko_X7_readWhole qM_7_194 (by decide) rfl rfl rfl rfl rfl (by decide) (Nat.le_of_ble_eq_true rfl) kc_X7_readWhole dX7_readWhole_11
theorem rX7_readWhole_14 : ab_Run X 55 14 (12, 0, 0) L (ab_I a :: st) σ Q ↔ (¬ a = 0 → ab_Run X 55 19 (12, 0, 0) L st σ Q) ∧ (¬ (¬ a = 0) → ab_Run X 55 17 (12, 0, 0) L st σ Q) := ab_r_if_ne rfl kc_X7_readWhole dX7_readWhole_14
theorem rX7_readWhole_17 : ab_Run X 55 17 (12, 0, 0) L st σ Q ↔ ab_Run X 55 18 (12, 0, 0) L (ab_I 0 :: st) σ Q := ab_r_iconst (by decide) kc_X7_readWhole dX7_readWhole_17
theorem rX7_readWhole_18 : ab_Run X 55 18 (12, 0, 0) L [ab_I v] σ Q ↔ (v = 0 ∨ v = 1) ∧ Q (some (ab_I v)) σ := ab_r_ireturnZ rfl kc_X7_readWhole dX7_readWhole_18
theorem rX7_readWhole_19 : ab_Run X 55 19 (12, 0, 0) [ab_R z, l1, l2, l3] st σ Q ↔ z ≠ 0 ∧ ab_Run X 55 20 (12, 0, 0) [ab_R z, l1, l2, l3] (ab_R z :: st) σ Q := ab_r_aload_n rfl kc_X7_readWhole dX7_readWhole_19
theorem rX7_readWhole_20 : ab_Run X 55 20 (12, 0, 0) L (ab_R a :: st) σ Q ↔ (ab_sh σ a).1 = 8 ∧ ab_Run X 55 23 (12, 0, 0) L (ab_R (ab_rd σ a 0) :: st) σ Q := gF_7_12 ko_X7_readWhole kc_X7_readWhole dX7_readWhole_20
theorem rX7_readWhole_23 : ab_Run X 55 23 (12, 0, 0) L (ab_R a :: st) σ Q ↔ ((ab_sh σ a).1 = 10 ∧ ab_cats st ≤ 8) ∧ ab_Do X 70 [ab_R a] σ (fun r σ' => ab_Run X 55 26 (12, 0, 0) L (ab_psh r st) σ' Q) := ab_r_callV (w := []) (as := []) (b1 := (1, 0, 0)) 0 (Or.inl rfl) (by decide) ko_X7_readWhole qM_7_60 (by decide) rfl rfl rfl rfl rfl (by decide) (Nat.le_of_ble_eq_true rfl) kc_X7_readWhole dX7_readWhole_23
theorem rX7_readWhole_26 : ab_Run X 55 26 (12, 0, 0) L st σ Q ↔ ab_Run X 55 27 (12, 0, 0) L (ab_I 1 :: st) σ Q := ab_r_iconst (by decide) kc_X7_readWhole dX7_readWhole_26
theorem rX7_readWhole_27 : ab_Run X 55 27 (12, 0, 0) L [ab_I v] σ Q ↔ (v = 0 ∨ v = 1) ∧ Q (some (ab_I v)) σ := ab_r_ireturnZ rfl kc_X7_readWhole dX7_readWhole_27
theorem kc_X7_readKind : ab_code 56 = cX7_readKind := rfl
theorem ko_X7_readKind : ab_ow 56 = 7 := rfl
theorem rX7_readKind_0 : ab_Run X 56 0 (11, 0, 0) [ab_R z, l1, l2, l3, l4] st σ Q ↔ z ≠ 0 ∧ ab_Run X 56 1 (11, 0, 0) [ab_R z, l1, l2, l3, l4] (ab_R z :: st) σ Q := ab_r_aload_n rfl kc_X7_readKind dX7_readKind_0
theorem rX7_readKind_1 : ab_Run X 56 1 (11, 0, 0) L (ab_R a :: st) σ Q ↔ (ab_sh σ a).1 = 8 ∧ ab_Run X 56 4 (11, 0, 0) L (ab_R (ab_rd σ a 0) :: st) σ Q := gF_7_12 ko_X7_readKind kc_X7_readKind dX7_readKind_1
theorem rX7_readKind_4 : ab_Run X 56 4 (11, 0, 0) [l0, ab_R z, l2, l3, l4] st σ Q ↔ z ≠ 0 ∧ ab_Run X 56 5 (11, 0, 0) [l0, ab_R z, l2, l3, l4] (ab_R z :: st) σ Q := ab_r_aload_n rfl kc_X7_readKind dX7_readKind_4
theorem rX7_readKind_5 : ab_Run X 56 5 (11, 0, 0) L (ab_R x1 :: ab_R a :: st) σ Q ↔ ((ab_sh σ a).1 = 10 ∧ ab_cats st ≤ 8) ∧ ab_Do X 73 [ab_R a, ab_R x1] σ (fun r σ' => ab_Run X 56 8 (11, 0, 0) L (ab_psh r st) σ' Q) := ab_r_callV (w := [ab_R x1]) (as := [ab_R x1]) (b1 := (10, 0, 0)) 0 (Or.inl rfl) (by decide) ko_X7_readKind qM_7_68 (by decide) rfl rfl rfl rfl rfl (by decide) (Nat.le_of_ble_eq_true rfl) kc_X7_readKind dX7_readKind_5
theorem rX7_readKind_8 : ab_Run X 56 8 (11, 0, 0) L (ab_I a :: st) σ Q ↔ (a = 0 → ab_Run X 56 19 (11, 0, 0) L st σ Q) ∧ (¬ (a = 0) → ab_Run X 56 11 (11, 0, 0) L st σ Q) := ab_r_if_eq rfl kc_X7_readKind dX7_readKind_8
theorem rX7_readKind_11 : ab_Run X 56 11 (11, 0, 0) [ab_R z, l1, l2, l3, l4] st σ Q ↔ z ≠ 0 ∧ ab_Run X 56 12 (11, 0, 0) [ab_R z, l1, l2, l3, l4] (ab_R z :: st) σ Q := ab_r_aload_n rfl kc_X7_readKind dX7_readKind_11
theorem rX7_readKind_12 : ab_Run X 56 12 (11, 0, 0) L st σ Q ↔ ab_Run X 56 13 (11, 0, 0) L (ab_I 0 :: st) σ Q := ab_r_iconst (by decide) kc_X7_readKind dX7_readKind_12
theorem rX7_readKind_13 : ab_Run X 56 13 (11, 0, 0) L (ab_I z :: ab_R a :: st) σ Q ↔ (ab_sh σ a).1 = 8 ∧ ab_Run X 56 16 (11, 0, 0) L st (ab_wr σ a 5 z) Q := sF_7_124 ko_X7_readKind kc_X7_readKind dX7_readKind_13
theorem rX7_readKind_16 : ab_Run X 56 16 (11, 0, 0) L st σ Q ↔ ab_Run X 56 83 (11, 0, 0) L st σ Q := ab_r_goto rfl kc_X7_readKind dX7_readKind_16
theorem rX7_readKind_19 : ab_Run X 56 19 (11, 0, 0) [ab_R z, l1, l2, l3, l4] st σ Q ↔ z ≠ 0 ∧ ab_Run X 56 20 (11, 0, 0) [ab_R z, l1, l2, l3, l4] (ab_R z :: st) σ Q := ab_r_aload_n rfl kc_X7_readKind dX7_readKind_19
theorem rX7_readKind_20 : ab_Run X 56 20 (11, 0, 0) L (ab_R a :: st) σ Q ↔ (ab_sh σ a).1 = 8 ∧ ab_Run X 56 23 (11, 0, 0) L (ab_R (ab_rd σ a 0) :: st) σ Q := gF_7_12 ko_X7_readKind kc_X7_readKind dX7_readKind_20
theorem rX7_readKind_23 : ab_Run X 56 23 (11, 0, 0) [l0, l1, ab_R z, l3, l4] st σ Q ↔ z ≠ 0 ∧ ab_Run X 56 24 (11, 0, 0) [l0, l1, ab_R z, l3, l4] (ab_R z :: st) σ Q := ab_r_aload_n rfl kc_X7_readKind dX7_readKind_23
theorem rX7_readKind_24 : ab_Run X 56 24 (11, 0, 0) L (ab_R x1 :: ab_R a :: st) σ Q ↔ ((ab_sh σ a).1 = 10 ∧ ab_cats st ≤ 8) ∧ ab_Do X 73 [ab_R a, ab_R x1] σ (fun r σ' => ab_Run X 56 27 (11, 0, 0) L (ab_psh r st) σ' Q) := ab_r_callV (w := [ab_R x1]) (as := [ab_R x1]) (b1 := (10, 0, 0)) 0 (Or.inl rfl) (by decide) ko_X7_readKind qM_7_68 (by decide) rfl rfl rfl rfl rfl (by decide) (Nat.le_of_ble_eq_true rfl) kc_X7_readKind dX7_readKind_24
theorem rX7_readKind_27 : ab_Run X 56 27 (11, 0, 0) L (ab_I a :: st) σ Q ↔ (a = 0 → ab_Run X 56 38 (11, 0, 0) L st σ Q) ∧ (¬ (a = 0) → ab_Run X 56 30 (11, 0, 0) L st σ Q) := ab_r_if_eq rfl kc_X7_readKind dX7_readKind_27
theorem rX7_readKind_30 : ab_Run X 56 30 (11, 0, 0) [ab_R z, l1, l2, l3, l4] st σ Q ↔ z ≠ 0 ∧ ab_Run X 56 31 (11, 0, 0) [ab_R z, l1, l2, l3, l4] (ab_R z :: st) σ Q := ab_r_aload_n rfl kc_X7_readKind dX7_readKind_30
theorem rX7_readKind_31 : ab_Run X 56 31 (11, 0, 0) L st σ Q ↔ ab_Run X 56 32 (11, 0, 0) L (ab_I 1 :: st) σ Q := ab_r_iconst (by decide) kc_X7_readKind dX7_readKind_31
theorem rX7_readKind_32 : ab_Run X 56 32 (11, 0, 0) L (ab_I z :: ab_R a :: st) σ Q ↔ (ab_sh σ a).1 = 8 ∧ ab_Run X 56 35 (11, 0, 0) L st (ab_wr σ a 5 z) Q := sF_7_124 ko_X7_readKind kc_X7_readKind dX7_readKind_32
theorem rX7_readKind_35 : ab_Run X 56 35 (11, 0, 0) L st σ Q ↔ ab_Run X 56 83 (11, 0, 0) L st σ Q := ab_r_goto rfl kc_X7_readKind dX7_readKind_35
theorem rX7_readKind_38 : ab_Run X 56 38 (11, 0, 0) [ab_R z, l1, l2, l3, l4] st σ Q ↔ z ≠ 0 ∧ ab_Run X 56 39 (11, 0, 0) [ab_R z, l1, l2, l3, l4] (ab_R z :: st) σ Q := ab_r_aload_n rfl kc_X7_readKind dX7_readKind_38
theorem rX7_readKind_39 : ab_Run X 56 39 (11, 0, 0) L (ab_R a :: st) σ Q ↔ (ab_sh σ a).1 = 8 ∧ ab_Run X 56 42 (11, 0, 0) L (ab_R (ab_rd σ a 0) :: st) σ Q := gF_7_12 ko_X7_readKind kc_X7_readKind dX7_readKind_39
theorem rX7_readKind_42 : ab_Run X 56 42 (11, 0, 0) [l0, l1, l2, ab_R z, l4] st σ Q ↔ z ≠ 0 ∧ ab_Run X 56 43 (11, 0, 0) [l0, l1, l2, ab_R z, l4] (ab_R z :: st) σ Q := ab_r_aload_n rfl kc_X7_readKind dX7_readKind_42
theorem rX7_readKind_43 : ab_Run X 56 43 (11, 0, 0) L (ab_R x1 :: ab_R a :: st) σ Q ↔ ((ab_sh σ a).1 = 10 ∧ ab_cats st ≤ 8) ∧ ab_Do X 73 [ab_R a, ab_R x1] σ (fun r σ' => ab_Run X 56 46 (11, 0, 0) L (ab_psh r st) σ' Q) := ab_r_callV (w := [ab_R x1]) (as := [ab_R x1]) (b1 := (10, 0, 0)) 0 (Or.inl rfl) (by decide) ko_X7_readKind qM_7_68 (by decide) rfl rfl rfl rfl rfl (by decide) (Nat.le_of_ble_eq_true rfl) kc_X7_readKind dX7_readKind_43
theorem rX7_readKind_46 : ab_Run X 56 46 (11, 0, 0) L (ab_I a :: st) σ Q ↔ (a = 0 → ab_Run X 56 57 (11, 0, 0) L st σ Q) ∧ (¬ (a = 0) → ab_Run X 56 49 (11, 0, 0) L st σ Q) := ab_r_if_eq rfl kc_X7_readKind dX7_readKind_46
theorem rX7_readKind_49 : ab_Run X 56 49 (11, 0, 0) [ab_R z, l1, l2, l3, l4] st σ Q ↔ z ≠ 0 ∧ ab_Run X 56 50 (11, 0, 0) [ab_R z, l1, l2, l3, l4] (ab_R z :: st) σ Q := ab_r_aload_n rfl kc_X7_readKind dX7_readKind_49
theorem rX7_readKind_50 : ab_Run X 56 50 (11, 0, 0) L st σ Q ↔ ab_Run X 56 51 (11, 0, 0) L (ab_I 2 :: st) σ Q := ab_r_iconst (by decide) kc_X7_readKind dX7_readKind_50
theorem rX7_readKind_51 : ab_Run X 56 51 (11, 0, 0) L (ab_I z :: ab_R a :: st) σ Q ↔ (ab_sh σ a).1 = 8 ∧ ab_Run X 56 54 (11, 0, 0) L st (ab_wr σ a 5 z) Q := sF_7_124 ko_X7_readKind kc_X7_readKind dX7_readKind_51
theorem rX7_readKind_54 : ab_Run X 56 54 (11, 0, 0) L st σ Q ↔ ab_Run X 56 83 (11, 0, 0) L st σ Q := ab_r_goto rfl kc_X7_readKind dX7_readKind_54
theorem rX7_readKind_57 : ab_Run X 56 57 (11, 0, 0) [ab_R z, l1, l2, l3, l4] st σ Q ↔ z ≠ 0 ∧ ab_Run X 56 58 (11, 0, 0) [ab_R z, l1, l2, l3, l4] (ab_R z :: st) σ Q := ab_r_aload_n rfl kc_X7_readKind dX7_readKind_57
theorem rX7_readKind_58 : ab_Run X 56 58 (11, 0, 0) L (ab_R a :: st) σ Q ↔ (ab_sh σ a).1 = 8 ∧ ab_Run X 56 61 (11, 0, 0) L (ab_R (ab_rd σ a 0) :: st) σ Q := gF_7_12 ko_X7_readKind kc_X7_readKind dX7_readKind_58
theorem rX7_readKind_61 : ab_Run X 56 61 (11, 0, 0) [l0, l1, l2, l3, ab_R z] st σ Q ↔ z ≠ 0 ∧ ab_Run X 56 63 (11, 0, 0) [l0, l1, l2, l3, ab_R z] (ab_R z :: st) σ Q := ab_r_aload rfl kc_X7_readKind dX7_readKind_61
theorem rX7_readKind_63 : ab_Run X 56 63 (11, 0, 0) L (ab_R x1 :: ab_R a :: st) σ Q ↔ ((ab_sh σ a).1 = 10 ∧ ab_cats st ≤ 8) ∧ ab_Do X 73 [ab_R a, ab_R x1] σ (fun r σ' => ab_Run X 56 66 (11, 0, 0) L (ab_psh r st) σ' Q) := ab_r_callV (w := [ab_R x1]) (as := [ab_R x1]) (b1 := (10, 0, 0)) 0 (Or.inl rfl) (by decide) ko_X7_readKind qM_7_68 (by decide) rfl rfl rfl rfl rfl (by decide) (Nat.le_of_ble_eq_true rfl) kc_X7_readKind dX7_readKind_63
theorem rX7_readKind_66 : ab_Run X 56 66 (11, 0, 0) L (ab_I a :: st) σ Q ↔ (a = 0 → ab_Run X 56 77 (11, 0, 0) L st σ Q) ∧ (¬ (a = 0) → ab_Run X 56 69 (11, 0, 0) L st σ Q) := ab_r_if_eq rfl kc_X7_readKind dX7_readKind_66
theorem rX7_readKind_69 : ab_Run X 56 69 (11, 0, 0) [ab_R z, l1, l2, l3, l4] st σ Q ↔ z ≠ 0 ∧ ab_Run X 56 70 (11, 0, 0) [ab_R z, l1, l2, l3, l4] (ab_R z :: st) σ Q := ab_r_aload_n rfl kc_X7_readKind dX7_readKind_69
theorem rX7_readKind_70 : ab_Run X 56 70 (11, 0, 0) L st σ Q ↔ ab_Run X 56 71 (11, 0, 0) L (ab_I 3 :: st) σ Q := ab_r_iconst (by decide) kc_X7_readKind dX7_readKind_70
theorem rX7_readKind_71 : ab_Run X 56 71 (11, 0, 0) L (ab_I z :: ab_R a :: st) σ Q ↔ (ab_sh σ a).1 = 8 ∧ ab_Run X 56 74 (11, 0, 0) L st (ab_wr σ a 5 z) Q := sF_7_124 ko_X7_readKind kc_X7_readKind dX7_readKind_71
theorem rX7_readKind_74 : ab_Run X 56 74 (11, 0, 0) L st σ Q ↔ ab_Run X 56 83 (11, 0, 0) L st σ Q := ab_r_goto rfl kc_X7_readKind dX7_readKind_74
theorem rX7_readKind_77 : ab_Run X 56 77 (11, 0, 0) [ab_R z, l1, l2, l3, l4] st σ Q ↔ z ≠ 0 ∧ ab_Run X 56 78 (11, 0, 0) [ab_R z, l1, l2, l3, l4] (ab_R z :: st) σ Q := ab_r_aload_n rfl kc_X7_readKind dX7_readKind_77
theorem rX7_readKind_78 : ab_Run X 56 78 (11, 0, 0) L st σ Q ↔ ab_Run X 56 79 (11, 0, 0) L (ab_I 1 :: st) σ Q := ab_r_iconst (by decide) kc_X7_readKind dX7_readKind_78
theorem rX7_readKind_79 : ab_Run X 56 79 (11, 0, 0) L (ab_I x1 :: ab_R a :: st) σ Q ↔ ((ab_sh σ a).1 = 8 ∧ ab_cats st ≤ 8) ∧ ab_Do X 43 [ab_R a, ab_I x1] σ (fun r σ' => ab_Run X 56 82 (11, 0, 0) L (ab_psh r st) σ' Q) := ab_r_callV (w := [ab_I x1]) (as := [ab_I x1]) (b1 := (0, 0, 0)) 0 (Or.inl rfl) (by decide) ko_X7_readKind qM_7_56 (by decide) rfl rfl rfl rfl rfl (by decide) (Nat.le_of_ble_eq_true rfl) kc_X7_readKind dX7_readKind_79
theorem rX7_readKind_82 : ab_Run X 56 82 (11, 0, 0) L [ab_I v] σ Q ↔ (v = 0 ∨ v = 1) ∧ Q (some (ab_I v)) σ := ab_r_ireturnZ rfl kc_X7_readKind dX7_readKind_82
theorem rX7_readKind_83 : ab_Run X 56 83 (11, 0, 0) [ab_R z, l1, l2, l3, l4] st σ Q ↔ z ≠ 0 ∧ ab_Run X 56 84 (11, 0, 0) [ab_R z, l1, l2, l3, l4] (ab_R z :: st) σ Q := ab_r_aload_n rfl kc_X7_readKind dX7_readKind_83
theorem rX7_readKind_84 : ab_Run X 56 84 (11, 0, 0) L (ab_R a :: st) σ Q ↔ (ab_sh σ a).1 = 8 ∧ ab_Run X 56 87 (11, 0, 0) L (ab_R (ab_rd σ a 0) :: st) σ Q := gF_7_12 ko_X7_readKind kc_X7_readKind dX7_readKind_84
theorem rX7_readKind_87 : ab_Run X 56 87 (11, 0, 0) L (ab_R a :: st) σ Q ↔ ((ab_sh σ a).1 = 10 ∧ ab_cats st ≤ 8) ∧ ab_Do X 70 [ab_R a] σ (fun r σ' => ab_Run X 56 90 (11, 0, 0) L (ab_psh r st) σ' Q) := ab_r_callV (w := []) (as := []) (b1 := (1, 0, 0)) 0 (Or.inl rfl) (by decide) ko_X7_readKind qM_7_60 (by decide) rfl rfl rfl rfl rfl (by decide) (Nat.le_of_ble_eq_true rfl) kc_X7_readKind dX7_readKind_87
theorem rX7_readKind_90 : ab_Run X 56 90 (11, 0, 0) L st σ Q ↔ ab_Run X 56 91 (11, 0, 0) L (ab_I 1 :: st) σ Q := ab_r_iconst (by decide) kc_X7_readKind dX7_readKind_90
theorem rX7_readKind_91 : ab_Run X 56 91 (11, 0, 0) L [ab_I v] σ Q ↔ (v = 0 ∨ v = 1) ∧ Q (some (ab_I v)) σ := ab_r_ireturnZ rfl kc_X7_readKind dX7_readKind_91
theorem kc_X7_isWhole : ab_code 57 = cX7_isWhole := rfl
theorem ko_X7_isWhole : ab_ow 57 = 7 := rfl
theorem rX7_isWhole_0 : ab_Run X 57 0 (1, 0, 0) [ab_R z, l1, l2] st σ Q ↔ z ≠ 0 ∧ ab_Run X 57 1 (1, 0, 0) [ab_R z, l1, l2] (ab_R z :: st) σ Q := ab_r_aload_n rfl kc_X7_isWhole dX7_isWhole_0
theorem rX7_isWhole_1 : ab_Run X 57 1 (1, 0, 0) L (ab_R a :: st) σ Q ↔ (ab_sh σ a).1 = 8 ∧ ab_Run X 57 4 (1, 0, 0) L (ab_R (ab_rd σ a 0) :: st) σ Q := gF_7_12 ko_X7_isWhole kc_X7_isWhole dX7_isWhole_1
theorem rX7_isWhole_4 : ab_Run X 57 4 (1, 0, 0) L (ab_R a :: st) σ Q ↔ (ab_sh σ a).1 = 10 ∧ ab_Run X 57 7 (1, 0, 0) L (ab_I (ab_rd σ a 2) :: st) σ Q := gF_7_47 ko_X7_isWhole kc_X7_isWhole dX7_isWhole_4
theorem rX7_isWhole_7 : ab_Run X 57 7 (1, 0, 0) L st σ Q ↔ ab_Run X 57 8 (1, 0, 0) L (ab_I 3 :: st) σ Q := ab_r_iconst (by decide) kc_X7_isWhole dX7_isWhole_7
theorem rX7_isWhole_8 : ab_Run X 57 8 (1, 0, 0) L (ab_I b :: ab_I a :: st) σ Q ↔ (a = b → ab_Run X 57 17 (1, 0, 0) L st σ Q) ∧ (¬ (a = b) → ab_Run X 57 11 (1, 0, 0) L st σ Q) := ab_r_icmp_eq rfl kc_X7_isWhole dX7_isWhole_8
theorem rX7_isWhole_11 : ab_Run X 57 11 (1, 0, 0) [ab_R z, l1, l2] st σ Q ↔ z ≠ 0 ∧ ab_Run X 57 12 (1, 0, 0) [ab_R z, l1, l2] (ab_R z :: st) σ Q := ab_r_aload_n rfl kc_X7_isWhole dX7_isWhole_11
theorem rX7_isWhole_12 : ab_Run X 57 12 (1, 0, 0) L st σ Q ↔ ab_Run X 57 13 (1, 0, 0) L (ab_I 1 :: st) σ Q := ab_r_iconst (by decide) kc_X7_isWhole dX7_isWhole_12
theorem rX7_isWhole_13 : ab_Run X 57 13 (1, 0, 0) L (ab_I x1 :: ab_R a :: st) σ Q ↔ ((ab_sh σ a).1 = 8 ∧ ab_cats st ≤ 8) ∧ ab_Do X 43 [ab_R a, ab_I x1] σ (fun r σ' => ab_Run X 57 16 (1, 0, 0) L (ab_psh r st) σ' Q) := ab_r_callV (w := [ab_I x1]) (as := [ab_I x1]) (b1 := (0, 0, 0)) 0 (Or.inl rfl) (by decide) ko_X7_isWhole qM_7_56 (by decide) rfl rfl rfl rfl rfl (by decide) (Nat.le_of_ble_eq_true rfl) kc_X7_isWhole dX7_isWhole_13
theorem rX7_isWhole_16 : ab_Run X 57 16 (1, 0, 0) L [ab_I v] σ Q ↔ (v = 0 ∨ v = 1) ∧ Q (some (ab_I v)) σ := ab_r_ireturnZ rfl kc_X7_isWhole dX7_isWhole_16
theorem rX7_isWhole_17 : ab_Run X 57 17 (1, 0, 0) [ab_R z, l1, l2] st σ Q ↔ z ≠ 0 ∧ ab_Run X 57 18 (1, 0, 0) [ab_R z, l1, l2] (ab_R z :: st) σ Q := ab_r_aload_n rfl kc_X7_isWhole dX7_isWhole_17
theorem rX7_isWhole_18 : ab_Run X 57 18 (1, 0, 0) [ab_R z, l1, l2] st σ Q ↔ z ≠ 0 ∧ ab_Run X 57 19 (1, 0, 0) [ab_R z, l1, l2] (ab_R z :: st) σ Q := ab_r_aload_n rfl kc_X7_isWhole dX7_isWhole_18
theorem rX7_isWhole_19 : ab_Run X 57 19 (1, 0, 0) L (ab_R a :: st) σ Q ↔ (ab_sh σ a).1 = 8 ∧ ab_Run X 57 22 (1, 0, 0) L (ab_R (ab_rd σ a 0) :: st) σ Q := gF_7_12 ko_X7_isWhole kc_X7_isWhole dX7_isWhole_19
theorem rX7_isWhole_22 : ab_Run X 57 22 (1, 0, 0) L (ab_R a :: st) σ Q ↔ (ab_sh σ a).1 = 10 ∧ ab_Run X 57 25 (1, 0, 0) L (ab_I (ab_rd σ a 4) :: st) σ Q := gF_7_265 ko_X7_isWhole kc_X7_isWhole dX7_isWhole_22
theorem rX7_isWhole_25 : ab_Run X 57 25 (1, 0, 0) L (ab_I z :: ab_R a :: st) σ Q ↔ (ab_sh σ a).1 = 8 ∧ ab_Run X 57 28 (1, 0, 0) L st (ab_wr σ a 5 z) Q := sF_7_124 ko_X7_isWhole kc_X7_isWhole dX7_isWhole_25
theorem rX7_isWhole_28 : ab_Run X 57 28 (1, 0, 0) [ab_R z, l1, l2] st σ Q ↔ z ≠ 0 ∧ ab_Run X 57 29 (1, 0, 0) [ab_R z, l1, l2] (ab_R z :: st) σ Q := ab_r_aload_n rfl kc_X7_isWhole dX7_isWhole_28
theorem rX7_isWhole_29 : ab_Run X 57 29 (1, 0, 0) L (ab_R a :: st) σ Q ↔ (ab_sh σ a).1 = 8 ∧ ab_Run X 57 32 (1, 0, 0) L (ab_I (ab_rd σ a 5) :: st) σ Q := gF_7_124 ko_X7_isWhole kc_X7_isWhole dX7_isWhole_29
theorem rX7_isWhole_32 : ab_Run X 57 32 (1, 0, 0) [l0, ab_I z, l2] st σ Q ↔ ab_Run X 57 33 (1, 0, 0) [l0, ab_I z, l2] (ab_I z :: st) σ Q := ab_r_iload_n rfl kc_X7_isWhole dX7_isWhole_32
theorem rX7_isWhole_33 : ab_Run X 57 33 (1, 0, 0) L (ab_I b :: ab_I a :: st) σ Q ↔ (a < b → ab_Run X 57 44 (1, 0, 0) L st σ Q) ∧ (¬ (a < b) → ab_Run X 57 36 (1, 0, 0) L st σ Q) := ab_r_icmp_lt rfl kc_X7_isWhole dX7_isWhole_33
theorem rX7_isWhole_36 : ab_Run X 57 36 (1, 0, 0) [ab_R z, l1, l2] st σ Q ↔ z ≠ 0 ∧ ab_Run X 57 37 (1, 0, 0) [ab_R z, l1, l2] (ab_R z :: st) σ Q := ab_r_aload_n rfl kc_X7_isWhole dX7_isWhole_36
theorem rX7_isWhole_37 : ab_Run X 57 37 (1, 0, 0) L (ab_R a :: st) σ Q ↔ (ab_sh σ a).1 = 8 ∧ ab_Run X 57 40 (1, 0, 0) L (ab_I (ab_rd σ a 5) :: st) σ Q := gF_7_124 ko_X7_isWhole kc_X7_isWhole dX7_isWhole_37
theorem rX7_isWhole_40 : ab_Run X 57 40 (1, 0, 0) [l0, l1, ab_I z] st σ Q ↔ ab_Run X 57 41 (1, 0, 0) [l0, l1, ab_I z] (ab_I z :: st) σ Q := ab_r_iload_n rfl kc_X7_isWhole dX7_isWhole_40
theorem rX7_isWhole_41 : ab_Run X 57 41 (1, 0, 0) L (ab_I b :: ab_I a :: st) σ Q ↔ (a ≤ b → ab_Run X 57 52 (1, 0, 0) L st σ Q) ∧ (¬ (a ≤ b) → ab_Run X 57 44 (1, 0, 0) L st σ Q) := ab_r_icmp_le rfl kc_X7_isWhole dX7_isWhole_41
theorem rX7_isWhole_44 : ab_Run X 57 44 (1, 0, 0) [ab_R z, l1, l2] st σ Q ↔ z ≠ 0 ∧ ab_Run X 57 45 (1, 0, 0) [ab_R z, l1, l2] (ab_R z :: st) σ Q := ab_r_aload_n rfl kc_X7_isWhole dX7_isWhole_44
theorem rX7_isWhole_45 : ab_Run X 57 45 (1, 0, 0) L st σ Q ↔ ab_Run X 57 46 (1, 0, 0) L (ab_I 4 :: st) σ Q := ab_r_iconst (by decide) kc_X7_isWhole dX7_isWhole_45
theorem rX7_isWhole_46 : ab_Run X 57 46 (1, 0, 0) L (ab_I x1 :: ab_R a :: st) σ Q ↔ ((ab_sh σ a).1 = 8 ∧ ab_cats st ≤ 8) ∧ ab_Do X 43 [ab_R a, ab_I x1] σ (fun r σ' => ab_Run X 57 49 (1, 0, 0) L (ab_psh r st) σ' Q) := ab_r_callV (w := [ab_I x1]) (as := [ab_I x1]) (b1 := (0, 0, 0)) 0 (Or.inl rfl) (by decide) ko_X7_isWhole qM_7_56 (by decide) rfl rfl rfl rfl rfl (by decide) (Nat.le_of_ble_eq_true rfl) kc_X7_isWhole dX7_isWhole_46
theorem rX7_isWhole_49 : ab_Run X 57 49 (1, 0, 0) L (ab_I a :: st) σ Q ↔ (a = 0 → ab_Run X 57 56 (1, 0, 0) L st σ Q) ∧ (¬ (a = 0) → ab_Run X 57 52 (1, 0, 0) L st σ Q) := ab_r_if_eq rfl kc_X7_isWhole dX7_isWhole_49
theorem rX7_isWhole_52 : ab_Run X 57 52 (1, 0, 0) L st σ Q ↔ ab_Run X 57 53 (1, 0, 0) L (ab_I 1 :: st) σ Q := ab_r_iconst (by decide) kc_X7_isWhole dX7_isWhole_52
theorem rX7_isWhole_53 : ab_Run X 57 53 (1, 0, 0) L st σ Q ↔ ab_Run X 57 57 (1, 0, 0) L st σ Q := ab_r_goto rfl kc_X7_isWhole dX7_isWhole_53
theorem rX7_isWhole_56 : ab_Run X 57 56 (1, 0, 0) L st σ Q ↔ ab_Run X 57 57 (1, 0, 0) L (ab_I 0 :: st) σ Q := ab_r_iconst (by decide) kc_X7_isWhole dX7_isWhole_56
theorem rX7_isWhole_57 : ab_Run X 57 57 (1, 0, 0) L [ab_I v] σ Q ↔ (v = 0 ∨ v = 1) ∧ Q (some (ab_I v)) σ := ab_r_ireturnZ rfl kc_X7_isWhole dX7_isWhole_57
theorem kc_X7_isName : ab_code 58 = cX7_isName := rfl
theorem ko_X7_isName : ab_ow 58 = 7 := rfl
theorem rX7_isName_0 : ab_Run X 58 0 (11, 0, 0) [ab_R z, l1] st σ Q ↔ z ≠ 0 ∧ ab_Run X 58 1 (11, 0, 0) [ab_R z, l1] (ab_R z :: st) σ Q := ab_r_aload_n rfl kc_X7_isName dX7_isName_0
theorem rX7_isName_1 : ab_Run X 58 1 (11, 0, 0) L (ab_R a :: st) σ Q ↔ (ab_sh σ a).1 = 8 ∧ ab_Run X 58 4 (11, 0, 0) L (ab_R (ab_rd σ a 0) :: st) σ Q := gF_7_12 ko_X7_isName kc_X7_isName dX7_isName_1
theorem rX7_isName_4 : ab_Run X 58 4 (11, 0, 0) L (ab_R a :: st) σ Q ↔ (ab_sh σ a).1 = 10 ∧ ab_Run X 58 7 (11, 0, 0) L (ab_I (ab_rd σ a 2) :: st) σ Q := gF_7_47 ko_X7_isName kc_X7_isName dX7_isName_4
theorem rX7_isName_7 : ab_Run X 58 7 (11, 0, 0) L st σ Q ↔ ab_Run X 58 8 (11, 0, 0) L (ab_I 2 :: st) σ Q := ab_r_iconst (by decide) kc_X7_isName dX7_isName_7
theorem rX7_isName_8 : ab_Run X 58 8 (11, 0, 0) L (ab_I b :: ab_I a :: st) σ Q ↔ (a = b → ab_Run X 58 13 (11, 0, 0) L st σ Q) ∧ (¬ (a = b) → ab_Run X 58 11 (11, 0, 0) L st σ Q) := ab_r_icmp_eq rfl kc_X7_isName dX7_isName_8
theorem rX7_isName_11 : ab_Run X 58 11 (11, 0, 0) L st σ Q ↔ ab_Run X 58 12 (11, 0, 0) L (ab_I 0 :: st) σ Q := ab_r_iconst (by decide) kc_X7_isName dX7_isName_11
theorem rX7_isName_12 : ab_Run X 58 12 (11, 0, 0) L [ab_I v] σ Q ↔ (v = 0 ∨ v = 1) ∧ Q (some (ab_I v)) σ := ab_r_ireturnZ rfl kc_X7_isName dX7_isName_12
theorem rX7_isName_13 : ab_Run X 58 13 (11, 0, 0) [ab_R z, l1] st σ Q ↔ z ≠ 0 ∧ ab_Run X 58 14 (11, 0, 0) [ab_R z, l1] (ab_R z :: st) σ Q := ab_r_aload_n rfl kc_X7_isName dX7_isName_13
theorem rX7_isName_14 : ab_Run X 58 14 (11, 0, 0) L (ab_R a :: st) σ Q ↔ (ab_sh σ a).1 = 8 ∧ ab_Run X 58 17 (11, 0, 0) L (ab_R (ab_rd σ a 0) :: st) σ Q := gF_7_12 ko_X7_isName kc_X7_isName dX7_isName_14
theorem rX7_isName_17 : ab_Run X 58 17 (11, 0, 0) L st σ Q ↔ ab_Run X 58 19 (11, 0, 0) L (ab_R (-2) :: st) σ Q := ab_r_ldcS (n := 0) rfl ko_X7_isName (by decide +kernel) (by decide +kernel) rfl kc_X7_isName dX7_isName_17
theorem rX7_isName_19 : ab_Run X 58 19 (11, 0, 0) L (ab_R x1 :: ab_R a :: st) σ Q ↔ ((ab_sh σ a).1 = 10 ∧ ab_cats st ≤ 8) ∧ ab_Do X 73 [ab_R a, ab_R x1] σ (fun r σ' => ab_Run X 58 22 (11, 0, 0) L (ab_psh r st) σ' Q) := ab_r_callV (w := [ab_R x1]) (as := [ab_R x1]) (b1 := (10, 0, 0)) 0 (Or.inl rfl) (by decide) ko_X7_isName qM_7_68 (by decide) rfl rfl rfl rfl rfl (by decide) (Nat.le_of_ble_eq_true rfl) kc_X7_isName dX7_isName_19
theorem rX7_isName_22 : ab_Run X 58 22 (11, 0, 0) L (ab_I a :: st) σ Q ↔ (¬ a = 0 → ab_Run X 58 121 (11, 0, 0) L st σ Q) ∧ (¬ (¬ a = 0) → ab_Run X 58 25 (11, 0, 0) L st σ Q) := ab_r_if_ne rfl kc_X7_isName dX7_isName_22
theorem rX7_isName_25 : ab_Run X 58 25 (11, 0, 0) [ab_R z, l1] st σ Q ↔ z ≠ 0 ∧ ab_Run X 58 26 (11, 0, 0) [ab_R z, l1] (ab_R z :: st) σ Q := ab_r_aload_n rfl kc_X7_isName dX7_isName_25
theorem rX7_isName_26 : ab_Run X 58 26 (11, 0, 0) L (ab_R a :: st) σ Q ↔ (ab_sh σ a).1 = 8 ∧ ab_Run X 58 29 (11, 0, 0) L (ab_R (ab_rd σ a 0) :: st) σ Q := gF_7_12 ko_X7_isName kc_X7_isName dX7_isName_26
theorem rX7_isName_29 : ab_Run X 58 29 (11, 0, 0) L st σ Q ↔ ab_Run X 58 31 (11, 0, 0) L (ab_R (-8) :: st) σ Q := ab_r_ldcS (n := 6) rfl ko_X7_isName (by decide +kernel) (by decide +kernel) rfl kc_X7_isName dX7_isName_29
theorem rX7_isName_31 : ab_Run X 58 31 (11, 0, 0) L (ab_R x1 :: ab_R a :: st) σ Q ↔ ((ab_sh σ a).1 = 10 ∧ ab_cats st ≤ 8) ∧ ab_Do X 73 [ab_R a, ab_R x1] σ (fun r σ' => ab_Run X 58 34 (11, 0, 0) L (ab_psh r st) σ' Q) := ab_r_callV (w := [ab_R x1]) (as := [ab_R x1]) (b1 := (10, 0, 0)) 0 (Or.inl rfl) (by decide) ko_X7_isName qM_7_68 (by decide) rfl rfl rfl rfl rfl (by decide) (Nat.le_of_ble_eq_true rfl) kc_X7_isName dX7_isName_31
theorem rX7_isName_34 : ab_Run X 58 34 (11, 0, 0) L (ab_I a :: st) σ Q ↔ (¬ a = 0 → ab_Run X 58 121 (11, 0, 0) L st σ Q) ∧ (¬ (¬ a = 0) → ab_Run X 58 37 (11, 0, 0) L st σ Q) := ab_r_if_ne rfl kc_X7_isName dX7_isName_34
theorem rX7_isName_37 : ab_Run X 58 37 (11, 0, 0) [ab_R z, l1] st σ Q ↔ z ≠ 0 ∧ ab_Run X 58 38 (11, 0, 0) [ab_R z, l1] (ab_R z :: st) σ Q := ab_r_aload_n rfl kc_X7_isName dX7_isName_37
theorem rX7_isName_38 : ab_Run X 58 38 (11, 0, 0) L (ab_R a :: st) σ Q ↔ (ab_sh σ a).1 = 8 ∧ ab_Run X 58 41 (11, 0, 0) L (ab_R (ab_rd σ a 0) :: st) σ Q := gF_7_12 ko_X7_isName kc_X7_isName dX7_isName_38
theorem rX7_isName_41 : ab_Run X 58 41 (11, 0, 0) L st σ Q ↔ ab_Run X 58 43 (11, 0, 0) L (ab_R (-9) :: st) σ Q := ab_r_ldcS (n := 7) rfl ko_X7_isName (by decide +kernel) (by decide +kernel) rfl kc_X7_isName dX7_isName_41
theorem rX7_isName_43 : ab_Run X 58 43 (11, 0, 0) L (ab_R x1 :: ab_R a :: st) σ Q ↔ ((ab_sh σ a).1 = 10 ∧ ab_cats st ≤ 8) ∧ ab_Do X 73 [ab_R a, ab_R x1] σ (fun r σ' => ab_Run X 58 46 (11, 0, 0) L (ab_psh r st) σ' Q) := ab_r_callV (w := [ab_R x1]) (as := [ab_R x1]) (b1 := (10, 0, 0)) 0 (Or.inl rfl) (by decide) ko_X7_isName qM_7_68 (by decide) rfl rfl rfl rfl rfl (by decide) (Nat.le_of_ble_eq_true rfl) kc_X7_isName dX7_isName_43
theorem rX7_isName_46 : ab_Run X 58 46 (11, 0, 0) L (ab_I a :: st) σ Q ↔ (¬ a = 0 → ab_Run X 58 121 (11, 0, 0) L st σ Q) ∧ (¬ (¬ a = 0) → ab_Run X 58 49 (11, 0, 0) L st σ Q) := ab_r_if_ne rfl kc_X7_isName dX7_isName_46
theorem rX7_isName_49 : ab_Run X 58 49 (11, 0, 0) [ab_R z, l1] st σ Q ↔ z ≠ 0 ∧ ab_Run X 58 50 (11, 0, 0) [ab_R z, l1] (ab_R z :: st) σ Q := ab_r_aload_n rfl kc_X7_isName dX7_isName_49
theorem rX7_isName_50 : ab_Run X 58 50 (11, 0, 0) L (ab_R a :: st) σ Q ↔ (ab_sh σ a).1 = 8 ∧ ab_Run X 58 53 (11, 0, 0) L (ab_R (ab_rd σ a 0) :: st) σ Q := gF_7_12 ko_X7_isName kc_X7_isName dX7_isName_50
theorem rX7_isName_53 : ab_Run X 58 53 (11, 0, 0) L st σ Q ↔ ab_Run X 58 55 (11, 0, 0) L (ab_R (-10) :: st) σ Q := ab_r_ldcS (n := 8) rfl ko_X7_isName (by decide +kernel) (by decide +kernel) rfl kc_X7_isName dX7_isName_53
theorem rX7_isName_55 : ab_Run X 58 55 (11, 0, 0) L (ab_R x1 :: ab_R a :: st) σ Q ↔ ((ab_sh σ a).1 = 10 ∧ ab_cats st ≤ 8) ∧ ab_Do X 73 [ab_R a, ab_R x1] σ (fun r σ' => ab_Run X 58 58 (11, 0, 0) L (ab_psh r st) σ' Q) := ab_r_callV (w := [ab_R x1]) (as := [ab_R x1]) (b1 := (10, 0, 0)) 0 (Or.inl rfl) (by decide) ko_X7_isName qM_7_68 (by decide) rfl rfl rfl rfl rfl (by decide) (Nat.le_of_ble_eq_true rfl) kc_X7_isName dX7_isName_55
theorem rX7_isName_58 : ab_Run X 58 58 (11, 0, 0) L (ab_I a :: st) σ Q ↔ (¬ a = 0 → ab_Run X 58 121 (11, 0, 0) L st σ Q) ∧ (¬ (¬ a = 0) → ab_Run X 58 61 (11, 0, 0) L st σ Q) := ab_r_if_ne rfl kc_X7_isName dX7_isName_58
theorem rX7_isName_61 : ab_Run X 58 61 (11, 0, 0) [ab_R z, l1] st σ Q ↔ z ≠ 0 ∧ ab_Run X 58 62 (11, 0, 0) [ab_R z, l1] (ab_R z :: st) σ Q := ab_r_aload_n rfl kc_X7_isName dX7_isName_61
theorem rX7_isName_62 : ab_Run X 58 62 (11, 0, 0) L (ab_R a :: st) σ Q ↔ (ab_sh σ a).1 = 8 ∧ ab_Run X 58 65 (11, 0, 0) L (ab_R (ab_rd σ a 0) :: st) σ Q := gF_7_12 ko_X7_isName kc_X7_isName dX7_isName_62
theorem rX7_isName_65 : ab_Run X 58 65 (11, 0, 0) L st σ Q ↔ ab_Run X 58 67 (11, 0, 0) L (ab_R (-11) :: st) σ Q := ab_r_ldcS (n := 9) rfl ko_X7_isName (by decide +kernel) (by decide +kernel) rfl kc_X7_isName dX7_isName_65
theorem rX7_isName_67 : ab_Run X 58 67 (11, 0, 0) L (ab_R x1 :: ab_R a :: st) σ Q ↔ ((ab_sh σ a).1 = 10 ∧ ab_cats st ≤ 8) ∧ ab_Do X 73 [ab_R a, ab_R x1] σ (fun r σ' => ab_Run X 58 70 (11, 0, 0) L (ab_psh r st) σ' Q) := ab_r_callV (w := [ab_R x1]) (as := [ab_R x1]) (b1 := (10, 0, 0)) 0 (Or.inl rfl) (by decide) ko_X7_isName qM_7_68 (by decide) rfl rfl rfl rfl rfl (by decide) (Nat.le_of_ble_eq_true rfl) kc_X7_isName dX7_isName_67
theorem rX7_isName_70 : ab_Run X 58 70 (11, 0, 0) L (ab_I a :: st) σ Q ↔ (¬ a = 0 → ab_Run X 58 121 (11, 0, 0) L st σ Q) ∧ (¬ (¬ a = 0) → ab_Run X 58 73 (11, 0, 0) L st σ Q) := ab_r_if_ne rfl kc_X7_isName dX7_isName_70
theorem rX7_isName_73 : ab_Run X 58 73 (11, 0, 0) [ab_R z, l1] st σ Q ↔ z ≠ 0 ∧ ab_Run X 58 74 (11, 0, 0) [ab_R z, l1] (ab_R z :: st) σ Q := ab_r_aload_n rfl kc_X7_isName dX7_isName_73
theorem rX7_isName_74 : ab_Run X 58 74 (11, 0, 0) L (ab_R a :: st) σ Q ↔ (ab_sh σ a).1 = 8 ∧ ab_Run X 58 77 (11, 0, 0) L (ab_R (ab_rd σ a 0) :: st) σ Q := gF_7_12 ko_X7_isName kc_X7_isName dX7_isName_74
theorem rX7_isName_77 : ab_Run X 58 77 (11, 0, 0) L st σ Q ↔ ab_Run X 58 79 (11, 0, 0) L (ab_R (-12) :: st) σ Q := ab_r_ldcS (n := 10) rfl ko_X7_isName (by decide +kernel) (by decide +kernel) rfl kc_X7_isName dX7_isName_77
theorem rX7_isName_79 : ab_Run X 58 79 (11, 0, 0) L (ab_R x1 :: ab_R a :: st) σ Q ↔ ((ab_sh σ a).1 = 10 ∧ ab_cats st ≤ 8) ∧ ab_Do X 73 [ab_R a, ab_R x1] σ (fun r σ' => ab_Run X 58 82 (11, 0, 0) L (ab_psh r st) σ' Q) := ab_r_callV (w := [ab_R x1]) (as := [ab_R x1]) (b1 := (10, 0, 0)) 0 (Or.inl rfl) (by decide) ko_X7_isName qM_7_68 (by decide) rfl rfl rfl rfl rfl (by decide) (Nat.le_of_ble_eq_true rfl) kc_X7_isName dX7_isName_79
theorem rX7_isName_82 : ab_Run X 58 82 (11, 0, 0) L (ab_I a :: st) σ Q ↔ (¬ a = 0 → ab_Run X 58 121 (11, 0, 0) L st σ Q) ∧ (¬ (¬ a = 0) → ab_Run X 58 85 (11, 0, 0) L st σ Q) := ab_r_if_ne rfl kc_X7_isName dX7_isName_82
theorem rX7_isName_85 : ab_Run X 58 85 (11, 0, 0) [ab_R z, l1] st σ Q ↔ z ≠ 0 ∧ ab_Run X 58 86 (11, 0, 0) [ab_R z, l1] (ab_R z :: st) σ Q := ab_r_aload_n rfl kc_X7_isName dX7_isName_85
theorem rX7_isName_86 : ab_Run X 58 86 (11, 0, 0) L (ab_R a :: st) σ Q ↔ (ab_sh σ a).1 = 8 ∧ ab_Run X 58 89 (11, 0, 0) L (ab_R (ab_rd σ a 0) :: st) σ Q := gF_7_12 ko_X7_isName kc_X7_isName dX7_isName_86
theorem rX7_isName_89 : ab_Run X 58 89 (11, 0, 0) L st σ Q ↔ ab_Run X 58 91 (11, 0, 0) L (ab_R (-13) :: st) σ Q := ab_r_ldcS (n := 11) rfl ko_X7_isName (by decide +kernel) (by decide +kernel) rfl kc_X7_isName dX7_isName_89
theorem rX7_isName_91 : ab_Run X 58 91 (11, 0, 0) L (ab_R x1 :: ab_R a :: st) σ Q ↔ ((ab_sh σ a).1 = 10 ∧ ab_cats st ≤ 8) ∧ ab_Do X 73 [ab_R a, ab_R x1] σ (fun r σ' => ab_Run X 58 94 (11, 0, 0) L (ab_psh r st) σ' Q) := ab_r_callV (w := [ab_R x1]) (as := [ab_R x1]) (b1 := (10, 0, 0)) 0 (Or.inl rfl) (by decide) ko_X7_isName qM_7_68 (by decide) rfl rfl rfl rfl rfl (by decide) (Nat.le_of_ble_eq_true rfl) kc_X7_isName dX7_isName_91
theorem rX7_isName_94 : ab_Run X 58 94 (11, 0, 0) L (ab_I a :: st) σ Q ↔ (¬ a = 0 → ab_Run X 58 121 (11, 0, 0) L st σ Q) ∧ (¬ (¬ a = 0) → ab_Run X 58 97 (11, 0, 0) L st σ Q) := ab_r_if_ne rfl kc_X7_isName dX7_isName_94
theorem rX7_isName_97 : ab_Run X 58 97 (11, 0, 0) [ab_R z, l1] st σ Q ↔ z ≠ 0 ∧ ab_Run X 58 98 (11, 0, 0) [ab_R z, l1] (ab_R z :: st) σ Q := ab_r_aload_n rfl kc_X7_isName dX7_isName_97
theorem rX7_isName_98 : ab_Run X 58 98 (11, 0, 0) L (ab_R a :: st) σ Q ↔ (ab_sh σ a).1 = 8 ∧ ab_Run X 58 101 (11, 0, 0) L (ab_R (ab_rd σ a 0) :: st) σ Q := gF_7_12 ko_X7_isName kc_X7_isName dX7_isName_98
theorem rX7_isName_101 : ab_Run X 58 101 (11, 0, 0) L st σ Q ↔ ab_Run X 58 103 (11, 0, 0) L (ab_R (-14) :: st) σ Q := ab_r_ldcS (n := 12) rfl ko_X7_isName (by decide +kernel) (by decide +kernel) rfl kc_X7_isName dX7_isName_101
theorem rX7_isName_103 : ab_Run X 58 103 (11, 0, 0) L (ab_R x1 :: ab_R a :: st) σ Q ↔ ((ab_sh σ a).1 = 10 ∧ ab_cats st ≤ 8) ∧ ab_Do X 73 [ab_R a, ab_R x1] σ (fun r σ' => ab_Run X 58 106 (11, 0, 0) L (ab_psh r st) σ' Q) := ab_r_callV (w := [ab_R x1]) (as := [ab_R x1]) (b1 := (10, 0, 0)) 0 (Or.inl rfl) (by decide) ko_X7_isName qM_7_68 (by decide) rfl rfl rfl rfl rfl (by decide) (Nat.le_of_ble_eq_true rfl) kc_X7_isName dX7_isName_103
theorem rX7_isName_106 : ab_Run X 58 106 (11, 0, 0) L (ab_I a :: st) σ Q ↔ (¬ a = 0 → ab_Run X 58 121 (11, 0, 0) L st σ Q) ∧ (¬ (¬ a = 0) → ab_Run X 58 109 (11, 0, 0) L st σ Q) := ab_r_if_ne rfl kc_X7_isName dX7_isName_106
theorem rX7_isName_109 : ab_Run X 58 109 (11, 0, 0) [ab_R z, l1] st σ Q ↔ z ≠ 0 ∧ ab_Run X 58 110 (11, 0, 0) [ab_R z, l1] (ab_R z :: st) σ Q := ab_r_aload_n rfl kc_X7_isName dX7_isName_109
theorem rX7_isName_110 : ab_Run X 58 110 (11, 0, 0) L (ab_R a :: st) σ Q ↔ (ab_sh σ a).1 = 8 ∧ ab_Run X 58 113 (11, 0, 0) L (ab_R (ab_rd σ a 0) :: st) σ Q := gF_7_12 ko_X7_isName kc_X7_isName dX7_isName_110
theorem rX7_isName_113 : ab_Run X 58 113 (11, 0, 0) L st σ Q ↔ ab_Run X 58 115 (11, 0, 0) L (ab_R (-15) :: st) σ Q := ab_r_ldcS (n := 13) rfl ko_X7_isName (by decide +kernel) (by decide +kernel) rfl kc_X7_isName dX7_isName_113
theorem rX7_isName_115 : ab_Run X 58 115 (11, 0, 0) L (ab_R x1 :: ab_R a :: st) σ Q ↔ ((ab_sh σ a).1 = 10 ∧ ab_cats st ≤ 8) ∧ ab_Do X 73 [ab_R a, ab_R x1] σ (fun r σ' => ab_Run X 58 118 (11, 0, 0) L (ab_psh r st) σ' Q) := ab_r_callV (w := [ab_R x1]) (as := [ab_R x1]) (b1 := (10, 0, 0)) 0 (Or.inl rfl) (by decide) ko_X7_isName qM_7_68 (by decide) rfl rfl rfl rfl rfl (by decide) (Nat.le_of_ble_eq_true rfl) kc_X7_isName dX7_isName_115
theorem rX7_isName_118 : ab_Run X 58 118 (11, 0, 0) L (ab_I a :: st) σ Q ↔ (a = 0 → ab_Run X 58 125 (11, 0, 0) L st σ Q) ∧ (¬ (a = 0) → ab_Run X 58 121 (11, 0, 0) L st σ Q) := ab_r_if_eq rfl kc_X7_isName dX7_isName_118
theorem rX7_isName_121 : ab_Run X 58 121 (11, 0, 0) L st σ Q ↔ ab_Run X 58 122 (11, 0, 0) L (ab_I 1 :: st) σ Q := ab_r_iconst (by decide) kc_X7_isName dX7_isName_121
theorem rX7_isName_122 : ab_Run X 58 122 (11, 0, 0) L st σ Q ↔ ab_Run X 58 126 (11, 0, 0) L st σ Q := ab_r_goto rfl kc_X7_isName dX7_isName_122
theorem rX7_isName_125 : ab_Run X 58 125 (11, 0, 0) L st σ Q ↔ ab_Run X 58 126 (11, 0, 0) L (ab_I 0 :: st) σ Q := ab_r_iconst (by decide) kc_X7_isName dX7_isName_125
theorem rX7_isName_126 : ab_Run X 58 126 (11, 0, 0) [l0, l1] (ab_I z :: st) σ Q ↔ (!ab_isJ l0) = true ∧ ab_Run X 58 127 (11, 0, 0) [l0, ab_I z] st σ Q := ab_r_istore_n (Nat.le_of_ble_eq_true rfl) kc_X7_isName dX7_isName_126
theorem rX7_isName_127 : ab_Run X 58 127 (11, 0, 0) [l0, ab_I z] st σ Q ↔ ab_Run X 58 128 (11, 0, 0) [l0, ab_I z] (ab_I z :: st) σ Q := ab_r_iload_n rfl kc_X7_isName dX7_isName_127
theorem rX7_isName_128 : ab_Run X 58 128 (11, 0, 0) L (ab_I a :: st) σ Q ↔ (¬ a = 0 → ab_Run X 58 135 (11, 0, 0) L st σ Q) ∧ (¬ (¬ a = 0) → ab_Run X 58 131 (11, 0, 0) L st σ Q) := ab_r_if_ne rfl kc_X7_isName dX7_isName_128
theorem rX7_isName_131 : ab_Run X 58 131 (11, 0, 0) L st σ Q ↔ ab_Run X 58 132 (11, 0, 0) L (ab_I 1 :: st) σ Q := ab_r_iconst (by decide) kc_X7_isName dX7_isName_131
theorem rX7_isName_132 : ab_Run X 58 132 (11, 0, 0) L st σ Q ↔ ab_Run X 58 136 (11, 0, 0) L st σ Q := ab_r_goto rfl kc_X7_isName dX7_isName_132
theorem rX7_isName_135 : ab_Run X 58 135 (11, 0, 0) L st σ Q ↔ ab_Run X 58 136 (11, 0, 0) L (ab_I 0 :: st) σ Q := ab_r_iconst (by decide) kc_X7_isName dX7_isName_135
theorem rX7_isName_136 : ab_Run X 58 136 (11, 0, 0) L [ab_I v] σ Q ↔ (v = 0 ∨ v = 1) ∧ Q (some (ab_I v)) σ := ab_r_ireturnZ rfl kc_X7_isName dX7_isName_136
theorem kc_X7_isNewName : ab_code 59 = cX7_isNewName := rfl
theorem ko_X7_isNewName : ab_ow 59 = 7 := rfl
theorem rX7_isNewName_0 : ab_Run X 59 0 (12, 0, 0) [ab_R z, l1] st σ Q ↔ z ≠ 0 ∧ ab_Run X 59 1 (12, 0, 0) [ab_R z, l1] (ab_R z :: st) σ Q := ab_r_aload_n rfl kc_X7_isNewName dX7_isNewName_0
theorem rX7_isNewName_1 : ab_Run X 59 1 (12, 0, 0) L (ab_R a :: st) σ Q ↔ ((ab_sh σ a).1 = 8 ∧ ab_cats st ≤ 8) ∧ ab_Do X 58 [ab_R a] σ (fun r σ' => ab_Run X 59 4 (12, 0, 0) L (ab_psh r st) σ' Q) := ab_r_callV (w := []) (as := []) (b1 := (11, 0, 0)) 0 (Or.inl rfl) (by decide) ko_X7_isNewName qM_7_268 (by decide) rfl rfl rfl rfl rfl (by decide) (Nat.le_of_ble_eq_true rfl) kc_X7_isNewName dX7_isNewName_1
theorem rX7_isNewName_4 : ab_Run X 59 4 (12, 0, 0) L (ab_I a :: st) σ Q ↔ (¬ a = 0 → ab_Run X 59 13 (12, 0, 0) L st σ Q) ∧ (¬ (¬ a = 0) → ab_Run X 59 7 (12, 0, 0) L st σ Q) := ab_r_if_ne rfl kc_X7_isNewName dX7_isNewName_4
theorem rX7_isNewName_7 : ab_Run X 59 7 (12, 0, 0) [ab_R z, l1] st σ Q ↔ z ≠ 0 ∧ ab_Run X 59 8 (12, 0, 0) [ab_R z, l1] (ab_R z :: st) σ Q := ab_r_aload_n rfl kc_X7_isNewName dX7_isNewName_7
theorem rX7_isNewName_8 : ab_Run X 59 8 (12, 0, 0) L st σ Q ↔ ab_Run X 59 9 (12, 0, 0) L (ab_I 1 :: st) σ Q := ab_r_iconst (by decide) kc_X7_isNewName dX7_isNewName_8
theorem rX7_isNewName_9 : ab_Run X 59 9 (12, 0, 0) L (ab_I x1 :: ab_R a :: st) σ Q ↔ ((ab_sh σ a).1 = 8 ∧ ab_cats st ≤ 8) ∧ ab_Do X 43 [ab_R a, ab_I x1] σ (fun r σ' => ab_Run X 59 12 (12, 0, 0) L (ab_psh r st) σ' Q) := ab_r_callV (w := [ab_I x1]) (as := [ab_I x1]) (b1 := (0, 0, 0)) 0 (Or.inl rfl) (by decide) ko_X7_isNewName qM_7_56 (by decide) rfl rfl rfl rfl rfl (by decide) (Nat.le_of_ble_eq_true rfl) kc_X7_isNewName dX7_isNewName_9
theorem rX7_isNewName_12 : ab_Run X 59 12 (12, 0, 0) L [ab_I v] σ Q ↔ (v = 0 ∨ v = 1) ∧ Q (some (ab_I v)) σ := ab_r_ireturnZ rfl kc_X7_isNewName dX7_isNewName_12
theorem rX7_isNewName_13 : ab_Run X 59 13 (12, 0, 0) [ab_R z, l1] st σ Q ↔ z ≠ 0 ∧ ab_Run X 59 14 (12, 0, 0) [ab_R z, l1] (ab_R z :: st) σ Q := ab_r_aload_n rfl kc_X7_isNewName dX7_isNewName_13
theorem rX7_isNewName_14 : ab_Run X 59 14 (12, 0, 0) L (ab_R a :: st) σ Q ↔ (ab_sh σ a).1 = 8 ∧ ab_Run X 59 17 (12, 0, 0) L (ab_R (ab_rd σ a 1) :: st) σ Q := gF_7_21 ko_X7_isNewName kc_X7_isNewName dX7_isNewName_14
theorem rX7_isNewName_17 : ab_Run X 59 17 (12, 0, 0) [ab_R z, l1] st σ Q ↔ z ≠ 0 ∧ ab_Run X 59 18 (12, 0, 0) [ab_R z, l1] (ab_R z :: st) σ Q := ab_r_aload_n rfl kc_X7_isNewName dX7_isNewName_17
theorem rX7_isNewName_18 : ab_Run X 59 18 (12, 0, 0) L (ab_R a :: st) σ Q ↔ (ab_sh σ a).1 = 8 ∧ ab_Run X 59 21 (12, 0, 0) L (ab_R (ab_rd σ a 0) :: st) σ Q := gF_7_12 ko_X7_isNewName kc_X7_isNewName dX7_isNewName_18
theorem rX7_isNewName_21 : ab_Run X 59 21 (12, 0, 0) L (ab_R a :: st) σ Q ↔ (ab_sh σ a).1 = 10 ∧ ab_Run X 59 24 (12, 0, 0) L (ab_J (ab_rd σ a 5) :: st) σ Q := gF_7_152 ko_X7_isNewName kc_X7_isNewName dX7_isNewName_21
theorem rX7_isNewName_24 : ab_Run X 59 24 (12, 0, 0) L (ab_J x1 :: ab_R a :: st) σ Q ↔ ((ab_sh σ a).1 = 5 ∧ ab_cats st ≤ 8) ∧ ab_Do X 28 [ab_R a, ab_J x1] σ (fun r σ' => ab_Run X 59 27 (12, 0, 0) L (ab_psh r st) σ' Q) := ab_r_callV (w := [ab_J x1]) (as := [ab_J x1]) (b1 := (0, 0, 0)) 0 (Or.inl rfl) (by decide) ko_X7_isNewName qM_7_271 (by decide) rfl rfl rfl rfl rfl (by decide) (Nat.le_of_ble_eq_true rfl) kc_X7_isNewName dX7_isNewName_24
theorem rX7_isNewName_27 : ab_Run X 59 27 (12, 0, 0) L st σ Q ↔ ab_Run X 59 28 (12, 0, 0) L (ab_I (-1) :: st) σ Q := ab_r_iconst (by decide) kc_X7_isNewName dX7_isNewName_27
theorem rX7_isNewName_28 : ab_Run X 59 28 (12, 0, 0) L (ab_I b :: ab_I a :: st) σ Q ↔ (¬ a = b → ab_Run X 59 49 (12, 0, 0) L st σ Q) ∧ (¬ (¬ a = b) → ab_Run X 59 31 (12, 0, 0) L st σ Q) := ab_r_icmp_ne rfl kc_X7_isNewName dX7_isNewName_28
theorem rX7_isNewName_31 : ab_Run X 59 31 (12, 0, 0) [ab_R z, l1] st σ Q ↔ z ≠ 0 ∧ ab_Run X 59 32 (12, 0, 0) [ab_R z, l1] (ab_R z :: st) σ Q := ab_r_aload_n rfl kc_X7_isNewName dX7_isNewName_31
theorem rX7_isNewName_32 : ab_Run X 59 32 (12, 0, 0) L (ab_R a :: st) σ Q ↔ (ab_sh σ a).1 = 8 ∧ ab_Run X 59 35 (12, 0, 0) L (ab_R (ab_rd σ a 1) :: st) σ Q := gF_7_21 ko_X7_isNewName kc_X7_isNewName dX7_isNewName_32
theorem rX7_isNewName_35 : ab_Run X 59 35 (12, 0, 0) [ab_R z, l1] st σ Q ↔ z ≠ 0 ∧ ab_Run X 59 36 (12, 0, 0) [ab_R z, l1] (ab_R z :: st) σ Q := ab_r_aload_n rfl kc_X7_isNewName dX7_isNewName_35
theorem rX7_isNewName_36 : ab_Run X 59 36 (12, 0, 0) L (ab_R a :: st) σ Q ↔ (ab_sh σ a).1 = 8 ∧ ab_Run X 59 39 (12, 0, 0) L (ab_R (ab_rd σ a 0) :: st) σ Q := gF_7_12 ko_X7_isNewName kc_X7_isNewName dX7_isNewName_36
theorem rX7_isNewName_39 : ab_Run X 59 39 (12, 0, 0) L (ab_R a :: st) σ Q ↔ (ab_sh σ a).1 = 10 ∧ ab_Run X 59 42 (12, 0, 0) L (ab_J (ab_rd σ a 5) :: st) σ Q := gF_7_152 ko_X7_isNewName kc_X7_isNewName dX7_isNewName_39
theorem rX7_isNewName_42 : ab_Run X 59 42 (12, 0, 0) L (ab_J x1 :: ab_R a :: st) σ Q ↔ ((ab_sh σ a).1 = 5 ∧ ab_cats st ≤ 8) ∧ ab_Do X 29 [ab_R a, ab_J x1] σ (fun r σ' => ab_Run X 59 45 (12, 0, 0) L (ab_psh r st) σ' Q) := ab_r_callV (w := [ab_J x1]) (as := [ab_J x1]) (b1 := (0, 0, 0)) 0 (Or.inl rfl) (by decide) ko_X7_isNewName qM_7_275 (by decide) rfl rfl rfl rfl rfl (by decide) (Nat.le_of_ble_eq_true rfl) kc_X7_isNewName dX7_isNewName_42
theorem rX7_isNewName_45 : ab_Run X 59 45 (12, 0, 0) L st σ Q ↔ ab_Run X 59 46 (12, 0, 0) L (ab_I (-1) :: st) σ Q := ab_r_iconst (by decide) kc_X7_isNewName dX7_isNewName_45
theorem rX7_isNewName_46 : ab_Run X 59 46 (12, 0, 0) L (ab_I b :: ab_I a :: st) σ Q ↔ (a = b → ab_Run X 59 53 (12, 0, 0) L st σ Q) ∧ (¬ (a = b) → ab_Run X 59 49 (12, 0, 0) L st σ Q) := ab_r_icmp_eq rfl kc_X7_isNewName dX7_isNewName_46
theorem rX7_isNewName_49 : ab_Run X 59 49 (12, 0, 0) L st σ Q ↔ ab_Run X 59 50 (12, 0, 0) L (ab_I 1 :: st) σ Q := ab_r_iconst (by decide) kc_X7_isNewName dX7_isNewName_49
theorem rX7_isNewName_50 : ab_Run X 59 50 (12, 0, 0) L st σ Q ↔ ab_Run X 59 54 (12, 0, 0) L st σ Q := ab_r_goto rfl kc_X7_isNewName dX7_isNewName_50
theorem rX7_isNewName_53 : ab_Run X 59 53 (12, 0, 0) L st σ Q ↔ ab_Run X 59 54 (12, 0, 0) L (ab_I 0 :: st) σ Q := ab_r_iconst (by decide) kc_X7_isNewName dX7_isNewName_53
theorem rX7_isNewName_54 : ab_Run X 59 54 (12, 0, 0) [l0, l1] (ab_I z :: st) σ Q ↔ (!ab_isJ l0) = true ∧ ab_Run X 59 55 (12, 0, 0) [l0, ab_I z] st σ Q := ab_r_istore_n (Nat.le_of_ble_eq_true rfl) kc_X7_isNewName dX7_isNewName_54
theorem rX7_isNewName_55 : ab_Run X 59 55 (12, 0, 0) [l0, ab_I z] st σ Q ↔ ab_Run X 59 56 (12, 0, 0) [l0, ab_I z] (ab_I z :: st) σ Q := ab_r_iload_n rfl kc_X7_isNewName dX7_isNewName_55
theorem rX7_isNewName_56 : ab_Run X 59 56 (12, 0, 0) L (ab_I a :: st) σ Q ↔ (a = 0 → ab_Run X 59 67 (12, 0, 0) L st σ Q) ∧ (¬ (a = 0) → ab_Run X 59 59 (12, 0, 0) L st σ Q) := ab_r_if_eq rfl kc_X7_isNewName dX7_isNewName_56
theorem rX7_isNewName_59 : ab_Run X 59 59 (12, 0, 0) [ab_R z, l1] st σ Q ↔ z ≠ 0 ∧ ab_Run X 59 60 (12, 0, 0) [ab_R z, l1] (ab_R z :: st) σ Q := ab_r_aload_n rfl kc_X7_isNewName dX7_isNewName_59
theorem rX7_isNewName_60 : ab_Run X 59 60 (12, 0, 0) L st σ Q ↔ ab_Run X 59 61 (12, 0, 0) L (ab_I 3 :: st) σ Q := ab_r_iconst (by decide) kc_X7_isNewName dX7_isNewName_60
theorem rX7_isNewName_61 : ab_Run X 59 61 (12, 0, 0) L (ab_I x1 :: ab_R a :: st) σ Q ↔ ((ab_sh σ a).1 = 8 ∧ ab_cats st ≤ 8) ∧ ab_Do X 43 [ab_R a, ab_I x1] σ (fun r σ' => ab_Run X 59 64 (12, 0, 0) L (ab_psh r st) σ' Q) := ab_r_callV (w := [ab_I x1]) (as := [ab_I x1]) (b1 := (0, 0, 0)) 0 (Or.inl rfl) (by decide) ko_X7_isNewName qM_7_56 (by decide) rfl rfl rfl rfl rfl (by decide) (Nat.le_of_ble_eq_true rfl) kc_X7_isNewName dX7_isNewName_61
theorem rX7_isNewName_64 : ab_Run X 59 64 (12, 0, 0) L (ab_I a :: st) σ Q ↔ (a = 0 → ab_Run X 59 71 (12, 0, 0) L st σ Q) ∧ (¬ (a = 0) → ab_Run X 59 67 (12, 0, 0) L st σ Q) := ab_r_if_eq rfl kc_X7_isNewName dX7_isNewName_64
theorem rX7_isNewName_67 : ab_Run X 59 67 (12, 0, 0) L st σ Q ↔ ab_Run X 59 68 (12, 0, 0) L (ab_I 1 :: st) σ Q := ab_r_iconst (by decide) kc_X7_isNewName dX7_isNewName_67
theorem rX7_isNewName_68 : ab_Run X 59 68 (12, 0, 0) L st σ Q ↔ ab_Run X 59 72 (12, 0, 0) L st σ Q := ab_r_goto rfl kc_X7_isNewName dX7_isNewName_68
theorem rX7_isNewName_71 : ab_Run X 59 71 (12, 0, 0) L st σ Q ↔ ab_Run X 59 72 (12, 0, 0) L (ab_I 0 :: st) σ Q := ab_r_iconst (by decide) kc_X7_isNewName dX7_isNewName_71
theorem rX7_isNewName_72 : ab_Run X 59 72 (12, 0, 0) L [ab_I v] σ Q ↔ (v = 0 ∨ v = 1) ∧ Q (some (ab_I v)) σ := ab_r_ireturnZ rfl kc_X7_isNewName dX7_isNewName_72
theorem kc_X7_isPersonTold : ab_code 60 = cX7_isPersonTold := rfl
theorem ko_X7_isPersonTold : ab_ow 60 = 7 := rfl
theorem rX7_isPersonTold_0 : ab_Run X 60 0 (12, 0, 0) [ab_R z, l1] st σ Q ↔ z ≠ 0 ∧ ab_Run X 60 1 (12, 0, 0) [ab_R z, l1] (ab_R z :: st) σ Q := ab_r_aload_n rfl kc_X7_isPersonTold dX7_isPersonTold_0
theorem rX7_isPersonTold_1 : ab_Run X 60 1 (12, 0, 0) L (ab_R a :: st) σ Q ↔ ((ab_sh σ a).1 = 8 ∧ ab_cats st ≤ 8) ∧ ab_Do X 58 [ab_R a] σ (fun r σ' => ab_Run X 60 4 (12, 0, 0) L (ab_psh r st) σ' Q) := ab_r_callV (w := []) (as := []) (b1 := (11, 0, 0)) 0 (Or.inl rfl) (by decide) ko_X7_isPersonTold qM_7_268 (by decide) rfl rfl rfl rfl rfl (by decide) (Nat.le_of_ble_eq_true rfl) kc_X7_isPersonTold dX7_isPersonTold_1
theorem rX7_isPersonTold_4 : ab_Run X 60 4 (12, 0, 0) L (ab_I a :: st) σ Q ↔ (¬ a = 0 → ab_Run X 60 13 (12, 0, 0) L st σ Q) ∧ (¬ (¬ a = 0) → ab_Run X 60 7 (12, 0, 0) L st σ Q) := ab_r_if_ne rfl kc_X7_isPersonTold dX7_isPersonTold_4
theorem rX7_isPersonTold_7 : ab_Run X 60 7 (12, 0, 0) [ab_R z, l1] st σ Q ↔ z ≠ 0 ∧ ab_Run X 60 8 (12, 0, 0) [ab_R z, l1] (ab_R z :: st) σ Q := ab_r_aload_n rfl kc_X7_isPersonTold dX7_isPersonTold_7
theorem rX7_isPersonTold_8 : ab_Run X 60 8 (12, 0, 0) L st σ Q ↔ ab_Run X 60 9 (12, 0, 0) L (ab_I 1 :: st) σ Q := ab_r_iconst (by decide) kc_X7_isPersonTold dX7_isPersonTold_8
theorem rX7_isPersonTold_9 : ab_Run X 60 9 (12, 0, 0) L (ab_I x1 :: ab_R a :: st) σ Q ↔ ((ab_sh σ a).1 = 8 ∧ ab_cats st ≤ 8) ∧ ab_Do X 43 [ab_R a, ab_I x1] σ (fun r σ' => ab_Run X 60 12 (12, 0, 0) L (ab_psh r st) σ' Q) := ab_r_callV (w := [ab_I x1]) (as := [ab_I x1]) (b1 := (0, 0, 0)) 0 (Or.inl rfl) (by decide) ko_X7_isPersonTold qM_7_56 (by decide) rfl rfl rfl rfl rfl (by decide) (Nat.le_of_ble_eq_true rfl) kc_X7_isPersonTold dX7_isPersonTold_9
theorem rX7_isPersonTold_12 : ab_Run X 60 12 (12, 0, 0) L [ab_I v] σ Q ↔ (v = 0 ∨ v = 1) ∧ Q (some (ab_I v)) σ := ab_r_ireturnZ rfl kc_X7_isPersonTold dX7_isPersonTold_12
theorem rX7_isPersonTold_13 : ab_Run X 60 13 (12, 0, 0) [ab_R z, l1] st σ Q ↔ z ≠ 0 ∧ ab_Run X 60 14 (12, 0, 0) [ab_R z, l1] (ab_R z :: st) σ Q := ab_r_aload_n rfl kc_X7_isPersonTold dX7_isPersonTold_13
theorem rX7_isPersonTold_14 : ab_Run X 60 14 (12, 0, 0) [ab_R z, l1] st σ Q ↔ z ≠ 0 ∧ ab_Run X 60 15 (12, 0, 0) [ab_R z, l1] (ab_R z :: st) σ Q := ab_r_aload_n rfl kc_X7_isPersonTold dX7_isPersonTold_14
theorem rX7_isPersonTold_15 : ab_Run X 60 15 (12, 0, 0) L (ab_R a :: st) σ Q ↔ (ab_sh σ a).1 = 8 ∧ ab_Run X 60 18 (12, 0, 0) L (ab_R (ab_rd σ a 1) :: st) σ Q := gF_7_21 ko_X7_isPersonTold kc_X7_isPersonTold dX7_isPersonTold_15
theorem rX7_isPersonTold_18 : ab_Run X 60 18 (12, 0, 0) [ab_R z, l1] st σ Q ↔ z ≠ 0 ∧ ab_Run X 60 19 (12, 0, 0) [ab_R z, l1] (ab_R z :: st) σ Q := ab_r_aload_n rfl kc_X7_isPersonTold dX7_isPersonTold_18
theorem rX7_isPersonTold_19 : ab_Run X 60 19 (12, 0, 0) L (ab_R a :: st) σ Q ↔ (ab_sh σ a).1 = 8 ∧ ab_Run X 60 22 (12, 0, 0) L (ab_R (ab_rd σ a 0) :: st) σ Q := gF_7_12 ko_X7_isPersonTold kc_X7_isPersonTold dX7_isPersonTold_19
theorem rX7_isPersonTold_22 : ab_Run X 60 22 (12, 0, 0) L (ab_R a :: st) σ Q ↔ (ab_sh σ a).1 = 10 ∧ ab_Run X 60 25 (12, 0, 0) L (ab_J (ab_rd σ a 5) :: st) σ Q := gF_7_152 ko_X7_isPersonTold kc_X7_isPersonTold dX7_isPersonTold_22
theorem rX7_isPersonTold_25 : ab_Run X 60 25 (12, 0, 0) L (ab_J x1 :: ab_R a :: st) σ Q ↔ ((ab_sh σ a).1 = 5 ∧ ab_cats st ≤ 8) ∧ ab_Do X 29 [ab_R a, ab_J x1] σ (fun r σ' => ab_Run X 60 28 (12, 0, 0) L (ab_psh r st) σ' Q) := ab_r_callV (w := [ab_J x1]) (as := [ab_J x1]) (b1 := (0, 0, 0)) 0 (Or.inl rfl) (by decide) ko_X7_isPersonTold qM_7_275 (by decide) rfl rfl rfl rfl rfl (by decide) (Nat.le_of_ble_eq_true rfl) kc_X7_isPersonTold dX7_isPersonTold_25
theorem rX7_isPersonTold_28 : ab_Run X 60 28 (12, 0, 0) L (ab_I z :: ab_R a :: st) σ Q ↔ (ab_sh σ a).1 = 8 ∧ ab_Run X 60 31 (12, 0, 0) L st (ab_wr σ a 5 z) Q := sF_7_124 ko_X7_isPersonTold kc_X7_isPersonTold dX7_isPersonTold_28
theorem rX7_isPersonTold_31 : ab_Run X 60 31 (12, 0, 0) [ab_R z, l1] st σ Q ↔ z ≠ 0 ∧ ab_Run X 60 32 (12, 0, 0) [ab_R z, l1] (ab_R z :: st) σ Q := ab_r_aload_n rfl kc_X7_isPersonTold dX7_isPersonTold_31
theorem rX7_isPersonTold_32 : ab_Run X 60 32 (12, 0, 0) L (ab_R a :: st) σ Q ↔ (ab_sh σ a).1 = 8 ∧ ab_Run X 60 35 (12, 0, 0) L (ab_I (ab_rd σ a 5) :: st) σ Q := gF_7_124 ko_X7_isPersonTold kc_X7_isPersonTold dX7_isPersonTold_32
theorem rX7_isPersonTold_35 : ab_Run X 60 35 (12, 0, 0) L st σ Q ↔ ab_Run X 60 36 (12, 0, 0) L (ab_I (-1) :: st) σ Q := ab_r_iconst (by decide) kc_X7_isPersonTold dX7_isPersonTold_35
theorem rX7_isPersonTold_36 : ab_Run X 60 36 (12, 0, 0) L (ab_I b :: ab_I a :: st) σ Q ↔ (¬ a = b → ab_Run X 60 45 (12, 0, 0) L st σ Q) ∧ (¬ (¬ a = b) → ab_Run X 60 39 (12, 0, 0) L st σ Q) := ab_r_icmp_ne rfl kc_X7_isPersonTold dX7_isPersonTold_36
theorem rX7_isPersonTold_39 : ab_Run X 60 39 (12, 0, 0) [ab_R z, l1] st σ Q ↔ z ≠ 0 ∧ ab_Run X 60 40 (12, 0, 0) [ab_R z, l1] (ab_R z :: st) σ Q := ab_r_aload_n rfl kc_X7_isPersonTold dX7_isPersonTold_39
theorem rX7_isPersonTold_40 : ab_Run X 60 40 (12, 0, 0) L st σ Q ↔ ab_Run X 60 41 (12, 0, 0) L (ab_I 2 :: st) σ Q := ab_r_iconst (by decide) kc_X7_isPersonTold dX7_isPersonTold_40
theorem rX7_isPersonTold_41 : ab_Run X 60 41 (12, 0, 0) L (ab_I x1 :: ab_R a :: st) σ Q ↔ ((ab_sh σ a).1 = 8 ∧ ab_cats st ≤ 8) ∧ ab_Do X 43 [ab_R a, ab_I x1] σ (fun r σ' => ab_Run X 60 44 (12, 0, 0) L (ab_psh r st) σ' Q) := ab_r_callV (w := [ab_I x1]) (as := [ab_I x1]) (b1 := (0, 0, 0)) 0 (Or.inl rfl) (by decide) ko_X7_isPersonTold qM_7_56 (by decide) rfl rfl rfl rfl rfl (by decide) (Nat.le_of_ble_eq_true rfl) kc_X7_isPersonTold dX7_isPersonTold_41
theorem rX7_isPersonTold_44 : ab_Run X 60 44 (12, 0, 0) L [ab_I v] σ Q ↔ (v = 0 ∨ v = 1) ∧ Q (some (ab_I v)) σ := ab_r_ireturnZ rfl kc_X7_isPersonTold dX7_isPersonTold_44
theorem rX7_isPersonTold_45 : ab_Run X 60 45 (12, 0, 0) [ab_R z, l1] st σ Q ↔ z ≠ 0 ∧ ab_Run X 60 46 (12, 0, 0) [ab_R z, l1] (ab_R z :: st) σ Q := ab_r_aload_n rfl kc_X7_isPersonTold dX7_isPersonTold_45
theorem rX7_isPersonTold_46 : ab_Run X 60 46 (12, 0, 0) L (ab_R a :: st) σ Q ↔ (ab_sh σ a).1 = 8 ∧ ab_Run X 60 49 (12, 0, 0) L (ab_I (ab_rd σ a 5) :: st) σ Q := gF_7_124 ko_X7_isPersonTold kc_X7_isPersonTold dX7_isPersonTold_46
theorem rX7_isPersonTold_49 : ab_Run X 60 49 (12, 0, 0) [l0, ab_I z] st σ Q ↔ ab_Run X 60 50 (12, 0, 0) [l0, ab_I z] (ab_I z :: st) σ Q := ab_r_iload_n rfl kc_X7_isPersonTold dX7_isPersonTold_49
theorem rX7_isPersonTold_50 : ab_Run X 60 50 (12, 0, 0) L (ab_I b :: ab_I a :: st) σ Q ↔ (¬ a = b → ab_Run X 60 61 (12, 0, 0) L st σ Q) ∧ (¬ (¬ a = b) → ab_Run X 60 53 (12, 0, 0) L st σ Q) := ab_r_icmp_ne rfl kc_X7_isPersonTold dX7_isPersonTold_50
theorem rX7_isPersonTold_53 : ab_Run X 60 53 (12, 0, 0) [ab_R z, l1] st σ Q ↔ z ≠ 0 ∧ ab_Run X 60 54 (12, 0, 0) [ab_R z, l1] (ab_R z :: st) σ Q := ab_r_aload_n rfl kc_X7_isPersonTold dX7_isPersonTold_53
theorem rX7_isPersonTold_54 : ab_Run X 60 54 (12, 0, 0) L st σ Q ↔ ab_Run X 60 55 (12, 0, 0) L (ab_I 3 :: st) σ Q := ab_r_iconst (by decide) kc_X7_isPersonTold dX7_isPersonTold_54
theorem rX7_isPersonTold_55 : ab_Run X 60 55 (12, 0, 0) L (ab_I x1 :: ab_R a :: st) σ Q ↔ ((ab_sh σ a).1 = 8 ∧ ab_cats st ≤ 8) ∧ ab_Do X 43 [ab_R a, ab_I x1] σ (fun r σ' => ab_Run X 60 58 (12, 0, 0) L (ab_psh r st) σ' Q) := ab_r_callV (w := [ab_I x1]) (as := [ab_I x1]) (b1 := (0, 0, 0)) 0 (Or.inl rfl) (by decide) ko_X7_isPersonTold qM_7_56 (by decide) rfl rfl rfl rfl rfl (by decide) (Nat.le_of_ble_eq_true rfl) kc_X7_isPersonTold dX7_isPersonTold_55
theorem rX7_isPersonTold_58 : ab_Run X 60 58 (12, 0, 0) L (ab_I a :: st) σ Q ↔ (a = 0 → ab_Run X 60 65 (12, 0, 0) L st σ Q) ∧ (¬ (a = 0) → ab_Run X 60 61 (12, 0, 0) L st σ Q) := ab_r_if_eq rfl kc_X7_isPersonTold dX7_isPersonTold_58
theorem rX7_isPersonTold_61 : ab_Run X 60 61 (12, 0, 0) L st σ Q ↔ ab_Run X 60 62 (12, 0, 0) L (ab_I 1 :: st) σ Q := ab_r_iconst (by decide) kc_X7_isPersonTold dX7_isPersonTold_61
theorem rX7_isPersonTold_62 : ab_Run X 60 62 (12, 0, 0) L st σ Q ↔ ab_Run X 60 66 (12, 0, 0) L st σ Q := ab_r_goto rfl kc_X7_isPersonTold dX7_isPersonTold_62
theorem rX7_isPersonTold_65 : ab_Run X 60 65 (12, 0, 0) L st σ Q ↔ ab_Run X 60 66 (12, 0, 0) L (ab_I 0 :: st) σ Q := ab_r_iconst (by decide) kc_X7_isPersonTold dX7_isPersonTold_65
theorem rX7_isPersonTold_66 : ab_Run X 60 66 (12, 0, 0) L [ab_I v] σ Q ↔ (v = 0 ∨ v = 1) ∧ Q (some (ab_I v)) σ := ab_r_ireturnZ rfl kc_X7_isPersonTold dX7_isPersonTold_66
end
