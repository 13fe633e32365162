/-! ===== decode rows: TwinInkModel ===== -/
theorem dX9_init_0 : decode cX9_init 0 = .ok (.aload_n 0, 1) := by decide +kernel
theorem dX9_init_1 : decode cX9_init 1 = .ok (.invokespecial 1, 3) := by decide +kernel
theorem dX9_init_4 : decode cX9_init 4 = .ok (.aload_n 0, 1) := by decide +kernel
theorem dX9_init_5 : decode cX9_init 5 = .ok (.iconst (-1), 1) := by decide +kernel
theorem dX9_init_6 : decode cX9_init 6 = .ok (.putfield 9, 3) := by decide +kernel
theorem dX9_init_9 : decode cX9_init 9 = .ok (.aload_n 0, 1) := by decide +kernel
theorem dX9_init_10 : decode cX9_init 10 = .ok (.iconst (-1), 1) := by decide +kernel
theorem dX9_init_11 : decode cX9_init 11 = .ok (.putfield 13, 3) := by decide +kernel
theorem dX9_init_14 : decode cX9_init 14 = .ok (.aload_n 0, 1) := by decide +kernel
theorem dX9_init_15 : decode cX9_init 15 = .ok (.bipush 36, 2) := by decide +kernel
theorem dX9_init_17 : decode cX9_init 17 = .ok (.newarray .int, 2) := by decide +kernel
theorem dX9_init_19 : decode cX9_init 19 = .ok (.putfield 16, 3) := by decide +kernel
theorem dX9_init_22 : decode cX9_init 22 = .ok (.aload_n 0, 1) := by decide +kernel
theorem dX9_init_23 : decode cX9_init 23 = .ok (.bipush 6, 2) := by decide +kernel
theorem dX9_init_25 : decode cX9_init 25 = .ok (.newarray .int, 2) := by decide +kernel
theorem dX9_init_27 : decode cX9_init 27 = .ok (.putfield 20, 3) := by decide +kernel
theorem dX9_init_30 : decode cX9_init 30 = .ok (.aload_n 0, 1) := by decide +kernel
theorem dX9_init_31 : decode cX9_init 31 = .ok (.bipush 12, 2) := by decide +kernel
theorem dX9_init_33 : decode cX9_init 33 = .ok (.newarray .int, 2) := by decide +kernel
theorem dX9_init_35 : decode cX9_init 35 = .ok (.putfield 23, 3) := by decide +kernel
theorem dX9_init_38 : decode cX9_init 38 = .ok (.aload_n 0, 1) := by decide +kernel
theorem dX9_init_39 : decode cX9_init 39 = .ok (.bipush 12, 2) := by decide +kernel
theorem dX9_init_41 : decode cX9_init 41 = .ok (.newarray .int, 2) := by decide +kernel
theorem dX9_init_43 : decode cX9_init 43 = .ok (.putfield 26, 3) := by decide +kernel
theorem dX9_init_46 : decode cX9_init 46 = .ok (.aload_n 0, 1) := by decide +kernel
theorem dX9_init_47 : decode cX9_init 47 = .ok (.sipush 1400, 3) := by decide +kernel
theorem dX9_init_50 : decode cX9_init 50 = .ok (.newarray .int, 2) := by decide +kernel
theorem dX9_init_52 : decode cX9_init 52 = .ok (.putfield 29, 3) := by decide +kernel
theorem dX9_init_55 : decode cX9_init 55 = .ok (.aload_n 0, 1) := by decide +kernel
theorem dX9_init_56 : decode cX9_init 56 = .ok (.sipush 700, 3) := by decide +kernel
theorem dX9_init_59 : decode cX9_init 59 = .ok (.newarray .int, 2) := by decide +kernel
theorem dX9_init_61 : decode cX9_init 61 = .ok (.putfield 32, 3) := by decide +kernel
theorem dX9_init_64 : decode cX9_init 64 = .ok (.aload_n 0, 1) := by decide +kernel
theorem dX9_init_65 : decode cX9_init 65 = .ok (.iconst (-1), 1) := by decide +kernel
theorem dX9_init_66 : decode cX9_init 66 = .ok (.putfield 35, 3) := by decide +kernel
theorem dX9_init_69 : decode cX9_init 69 = .ok (.aload_n 0, 1) := by decide +kernel
theorem dX9_init_70 : decode cX9_init 70 = .ok (.iconst 3, 1) := by decide +kernel
theorem dX9_init_71 : decode cX9_init 71 = .ok (.newarray .int, 2) := by decide +kernel
theorem dX9_init_73 : decode cX9_init 73 = .ok (.putfield 38, 3) := by decide +kernel
theorem dX9_init_76 : decode cX9_init 76 = .ok (.aload_n 0, 1) := by decide +kernel
theorem dX9_init_77 : decode cX9_init 77 = .ok (.bipush 36, 2) := by decide +kernel
theorem dX9_init_79 : decode cX9_init 79 = .ok (.newarray .int, 2) := by decide +kernel
theorem dX9_init_81 : decode cX9_init 81 = .ok (.putfield 41, 3) := by decide +kernel
theorem dX9_init_84 : decode cX9_init 84 = .ok (.aload_n 0, 1) := by decide +kernel
theorem dX9_init_85 : decode cX9_init 85 = .ok (.bipush 6, 2) := by decide +kernel
theorem dX9_init_87 : decode cX9_init 87 = .ok (.newarray .int, 2) := by decide +kernel
theorem dX9_init_89 : decode cX9_init 89 = .ok (.putfield 44, 3) := by decide +kernel
theorem dX9_init_92 : decode cX9_init 92 = .ok (.aload_n 0, 1) := by decide +kernel
theorem dX9_init_93 : decode cX9_init 93 = .ok (.bipush 12, 2) := by decide +kernel
theorem dX9_init_95 : decode cX9_init 95 = .ok (.newarray .int, 2) := by decide +kernel
theorem dX9_init_97 : decode cX9_init 97 = .ok (.putfield 47, 3) := by decide +kernel
theorem dX9_init_100 : decode cX9_init 100 = .ok (.aload_n 0, 1) := by decide +kernel
theorem dX9_init_101 : decode cX9_init 101 = .ok (.bipush 12, 2) := by decide +kernel
theorem dX9_init_103 : decode cX9_init 103 = .ok (.newarray .int, 2) := by decide +kernel
theorem dX9_init_105 : decode cX9_init 105 = .ok (.putfield 50, 3) := by decide +kernel
theorem dX9_init_108 : decode cX9_init 108 = .ok (.aload_n 0, 1) := by decide +kernel
theorem dX9_init_109 : decode cX9_init 109 = .ok (.bipush 34, 2) := by decide +kernel
theorem dX9_init_111 : decode cX9_init 111 = .ok (.newarray .int, 2) := by decide +kernel
theorem dX9_init_113 : decode cX9_init 113 = .ok (.putfield 53, 3) := by decide +kernel
theorem dX9_init_116 : decode cX9_init 116 = .ok (.aload_n 0, 1) := by decide +kernel
theorem dX9_init_117 : decode cX9_init 117 = .ok (.sipush 1400, 3) := by decide +kernel
theorem dX9_init_120 : decode cX9_init 120 = .ok (.newarray .int, 2) := by decide +kernel
theorem dX9_init_122 : decode cX9_init 122 = .ok (.putfield 56, 3) := by decide +kernel
theorem dX9_init_125 : decode cX9_init 125 = .ok (.aload_n 0, 1) := by decide +kernel
theorem dX9_init_126 : decode cX9_init 126 = .ok (.sipush 950, 3) := by decide +kernel
theorem dX9_init_129 : decode cX9_init 129 = .ok (.newarray .int, 2) := by decide +kernel
theorem dX9_init_131 : decode cX9_init 131 = .ok (.putfield 59, 3) := by decide +kernel
theorem dX9_init_134 : decode cX9_init 134 = .ok (.aload_n 0, 1) := by decide +kernel
theorem dX9_init_135 : decode cX9_init 135 = .ok (.bipush 9, 2) := by decide +kernel
theorem dX9_init_137 : decode cX9_init 137 = .ok (.newarray .boolean, 2) := by decide +kernel
theorem dX9_init_139 : decode cX9_init 139 = .ok (.putfield 62, 3) := by decide +kernel
theorem dX9_init_142 : decode cX9_init 142 = .ok (.aload_n 0, 1) := by decide +kernel
theorem dX9_init_143 : decode cX9_init 143 = .ok (.bipush 68, 2) := by decide +kernel
theorem dX9_init_145 : decode cX9_init 145 = .ok (.newarray .int, 2) := by decide +kernel
theorem dX9_init_147 : decode cX9_init 147 = .ok (.putfield 66, 3) := by decide +kernel
theorem dX9_init_150 : decode cX9_init 150 = .ok (.aload_n 0, 1) := by decide +kernel
theorem dX9_init_151 : decode cX9_init 151 = .ok (.sipush 1360, 3) := by decide +kernel
theorem dX9_init_154 : decode cX9_init 154 = .ok (.newarray .int, 2) := by decide +kernel
theorem dX9_init_156 : decode cX9_init 156 = .ok (.putfield 69, 3) := by decide +kernel
theorem dX9_init_159 : decode cX9_init 159 = .ok (.aload_n 0, 1) := by decide +kernel
theorem dX9_init_160 : decode cX9_init 160 = .ok (.bipush 9, 2) := by decide +kernel
theorem dX9_init_162 : decode cX9_init 162 = .ok (.newarray .int, 2) := by decide +kernel
theorem dX9_init_164 : decode cX9_init 164 = .ok (.putfield 72, 3) := by decide +kernel
theorem dX9_init_167 : decode cX9_init 167 = .ok (.aload_n 0, 1) := by decide +kernel
theorem dX9_init_168 : decode cX9_init 168 = .ok (.sipush 950, 3) := by decide +kernel
theorem dX9_init_171 : decode cX9_init 171 = .ok (.newarray .int, 2) := by decide +kernel
theorem dX9_init_173 : decode cX9_init 173 = .ok (.putfield 75, 3) := by decide +kernel
theorem dX9_init_176 : decode cX9_init 176 = .ok (.aload_n 0, 1) := by decide +kernel
theorem dX9_init_177 : decode cX9_init 177 = .ok (.sipush 512, 3) := by decide +kernel
theorem dX9_init_180 : decode cX9_init 180 = .ok (.newarray .int, 2) := by decide +kernel
theorem dX9_init_182 : decode cX9_init 182 = .ok (.putfield 78, 3) := by decide +kernel
theorem dX9_init_185 : decode cX9_init 185 = .ok (.aload_n 0, 1) := by decide +kernel
theorem dX9_init_186 : decode cX9_init 186 = .ok (.sipush 5120, 3) := by decide +kernel
theorem dX9_init_189 : decode cX9_init 189 = .ok (.newarray .int, 2) := by decide +kernel
theorem dX9_init_191 : decode cX9_init 191 = .ok (.putfield 81, 3) := by decide +kernel
theorem dX9_init_194 : decode cX9_init 194 = .ok (.aload_n 0, 1) := by decide +kernel
theorem dX9_init_195 : decode cX9_init 195 = .ok (.bipush 32, 2) := by decide +kernel
theorem dX9_init_197 : decode cX9_init 197 = .ok (.newarray .int, 2) := by decide +kernel
theorem dX9_init_199 : decode cX9_init 199 = .ok (.putfield 84, 3) := by decide +kernel
theorem dX9_init_202 : decode cX9_init 202 = .ok (.aload_n 0, 1) := by decide +kernel
theorem dX9_init_203 : decode cX9_init 203 = .ok (.bipush 6, 2) := by decide +kernel
theorem dX9_init_205 : decode cX9_init 205 = .ok (.newarray .int, 2) := by decide +kernel
theorem dX9_init_207 : decode cX9_init 207 = .ok (.putfield 87, 3) := by decide +kernel
theorem dX9_init_210 : decode cX9_init 210 = .ok (.aload_n 0, 1) := by decide +kernel
theorem dX9_init_211 : decode cX9_init 211 = .ok (.sipush 324, 3) := by decide +kernel
theorem dX9_init_214 : decode cX9_init 214 = .ok (.newarray .int, 2) := by decide +kernel
theorem dX9_init_216 : decode cX9_init 216 = .ok (.putfield 90, 3) := by decide +kernel
theorem dX9_init_219 : decode cX9_init 219 = .ok (.aload_n 0, 1) := by decide +kernel
theorem dX9_init_220 : decode cX9_init 220 = .ok (.bipush 34, 2) := by decide +kernel
theorem dX9_init_222 : decode cX9_init 222 = .ok (.newarray .int, 2) := by decide +kernel
theorem dX9_init_224 : decode cX9_init 224 = .ok (.putfield 93, 3) := by decide +kernel
theorem dX9_init_227 : decode cX9_init 227 = .ok (.aload_n 0, 1) := by decide +kernel
theorem dX9_init_228 : decode cX9_init 228 = .ok (.sipush 1360, 3) := by decide +kernel
theorem dX9_init_231 : decode cX9_init 231 = .ok (.newarray .int, 2) := by decide +kernel
theorem dX9_init_233 : decode cX9_init 233 = .ok (.putfield 96, 3) := by decide +kernel
theorem dX9_init_236 : decode cX9_init 236 = .ok (.aload_n 0, 1) := by decide +kernel
theorem dX9_init_237 : decode cX9_init 237 = .ok (.bipush 32, 2) := by decide +kernel
theorem dX9_init_239 : decode cX9_init 239 = .ok (.newarray .int, 2) := by decide +kernel
theorem dX9_init_241 : decode cX9_init 241 = .ok (.putfield 99, 3) := by decide +kernel
theorem dX9_init_244 : decode cX9_init 244 = .ok (.return_, 1) := by decide +kernel
theorem dX9_thrown_0 : decode cX9_thrown 0 = .ok (.aload_n 0, 1) := by decide +kernel
theorem dX9_thrown_1 : decode cX9_thrown 1 = .ok (.getfield 102, 3) := by decide +kernel
theorem dX9_thrown_4 : decode cX9_thrown 4 = .ok (.ireturn, 1) := by decide +kernel
theorem dX9_right_0 : decode cX9_right 0 = .ok (.aload_n 0, 1) := by decide +kernel
theorem dX9_right_1 : decode cX9_right 1 = .ok (.getfield 102, 3) := by decide +kernel
theorem dX9_right_4 : decode cX9_right 4 = .ok (.ifCond .ne 12, 3) := by decide +kernel
theorem dX9_right_7 : decode cX9_right 7 = .ok (.iload_n 1, 1) := by decide +kernel
theorem dX9_right_8 : decode cX9_right 8 = .ok (.ifCond .ne 8, 3) := by decide +kernel
theorem dX9_right_11 : decode cX9_right 11 = .ok (.aload_n 0, 1) := by decide +kernel
theorem dX9_right_12 : decode cX9_right 12 = .ok (.iload_n 2, 1) := by decide +kernel
theorem dX9_right_13 : decode cX9_right 13 = .ok (.putfield 102, 3) := by decide +kernel
theorem dX9_right_16 : decode cX9_right 16 = .ok (.aload_n 0, 1) := by decide +kernel
theorem dX9_right_17 : decode cX9_right 17 = .ok (.getfield 102, 3) := by decide +kernel
theorem dX9_right_20 : decode cX9_right 20 = .ok (.ifCond .ne 7, 3) := by decide +kernel
theorem dX9_right_23 : decode cX9_right 23 = .ok (.iconst 1, 1) := by decide +kernel
theorem dX9_right_24 : decode cX9_right 24 = .ok (.goto 4, 3) := by decide +kernel
theorem dX9_right_27 : decode cX9_right 27 = .ok (.iconst 0, 1) := by decide +kernel
theorem dX9_right_28 : decode cX9_right 28 = .ok (.ireturn, 1) := by decide +kernel
theorem dX9_within_0 : decode cX9_within 0 = .ok (.iload_n 0, 1) := by decide +kernel
theorem dX9_within_1 : decode cX9_within 1 = .ok (.iload_n 1, 1) := by decide +kernel
theorem dX9_within_2 : decode cX9_within 2 = .ok (.if_icmp .lt 12, 3) := by decide +kernel
theorem dX9_within_5 : decode cX9_within 5 = .ok (.iload_n 0, 1) := by decide +kernel
theorem dX9_within_6 : decode cX9_within 6 = .ok (.iload_n 2, 1) := by decide +kernel
theorem dX9_within_7 : decode cX9_within 7 = .ok (.if_icmp .gt 7, 3) := by decide +kernel
theorem dX9_within_10 : decode cX9_within 10 = .ok (.iconst 1, 1) := by decide +kernel
theorem dX9_within_11 : decode cX9_within 11 = .ok (.goto 4, 3) := by decide +kernel
theorem dX9_within_14 : decode cX9_within 14 = .ok (.iconst 0, 1) := by decide +kernel
theorem dX9_within_15 : decode cX9_within 15 = .ok (.ireturn, 1) := by decide +kernel
theorem dX9_greater_0 : decode cX9_greater 0 = .ok (.iload_n 0, 1) := by decide +kernel
theorem dX9_greater_1 : decode cX9_greater 1 = .ok (.iload_n 1, 1) := by decide +kernel
theorem dX9_greater_2 : decode cX9_greater 2 = .ok (.if_icmp .le 7, 3) := by decide +kernel
theorem dX9_greater_5 : decode cX9_greater 5 = .ok (.iload_n 0, 1) := by decide +kernel
theorem dX9_greater_6 : decode cX9_greater 6 = .ok (.goto 4, 3) := by decide +kernel
theorem dX9_greater_9 : decode cX9_greater 9 = .ok (.iload_n 1, 1) := by decide +kernel
theorem dX9_greater_10 : decode cX9_greater 10 = .ok (.ireturn, 1) := by decide +kernel
theorem dX9_copies_0 : decode cX9_copies 0 = .ok (.iconst 0, 1) := by decide +kernel
theorem dX9_copies_1 : decode cX9_copies 1 = .ok (.istore_n 3, 1) := by decide +kernel
theorem dX9_copies_2 : decode cX9_copies 2 = .ok (.iload_n 3, 1) := by decide +kernel
theorem dX9_copies_3 : decode cX9_copies 3 = .ok (.aload_n 1, 1) := by decide +kernel
theorem dX9_copies_4 : decode cX9_copies 4 = .ok (.arraylength, 1) := by decide +kernel
theorem dX9_copies_5 : decode cX9_copies 5 = .ok (.if_icmp .ge 15, 3) := by decide +kernel
theorem dX9_copies_8 : decode cX9_copies 8 = .ok (.aload_n 2, 1) := by decide +kernel
theorem dX9_copies_9 : decode cX9_copies 9 = .ok (.iload_n 3, 1) := by decide +kernel
theorem dX9_copies_10 : decode cX9_copies 10 = .ok (.aload_n 1, 1) := by decide +kernel
theorem dX9_copies_11 : decode cX9_copies 11 = .ok (.iload_n 3, 1) := by decide +kernel
theorem dX9_copies_12 : decode cX9_copies 12 = .ok (.iaload, 1) := by decide +kernel
theorem dX9_copies_13 : decode cX9_copies 13 = .ok (.iastore, 1) := by decide +kernel
theorem dX9_copies_14 : decode cX9_copies 14 = .ok (.iinc 3 1, 3) := by decide +kernel
theorem dX9_copies_17 : decode cX9_copies 17 = .ok (.goto (-15), 3) := by decide +kernel
theorem dX9_copies_20 : decode cX9_copies 20 = .ok (.return_, 1) := by decide +kernel
theorem dX9_bits_0 : decode cX9_bits 0 = .ok (.iconst 0, 1) := by decide +kernel
theorem dX9_bits_1 : decode cX9_bits 1 = .ok (.istore_n 1, 1) := by decide +kernel
theorem dX9_bits_2 : decode cX9_bits 2 = .ok (.iconst 0, 1) := by decide +kernel
theorem dX9_bits_3 : decode cX9_bits 3 = .ok (.istore_n 2, 1) := by decide +kernel
theorem dX9_bits_4 : decode cX9_bits 4 = .ok (.iload_n 2, 1) := by decide +kernel
theorem dX9_bits_5 : decode cX9_bits 5 = .ok (.bipush 12, 2) := by decide +kernel
theorem dX9_bits_7 : decode cX9_bits 7 = .ok (.if_icmp .ge 17, 3) := by decide +kernel
theorem dX9_bits_10 : decode cX9_bits 10 = .ok (.iload_n 1, 1) := by decide +kernel
theorem dX9_bits_11 : decode cX9_bits 11 = .ok (.iload_n 0, 1) := by decide +kernel
theorem dX9_bits_12 : decode cX9_bits 12 = .ok (.iload_n 2, 1) := by decide +kernel
theorem dX9_bits_13 : decode cX9_bits 13 = .ok (.ishr, 1) := by decide +kernel
theorem dX9_bits_14 : decode cX9_bits 14 = .ok (.iconst 1, 1) := by decide +kernel
theorem dX9_bits_15 : decode cX9_bits 15 = .ok (.iand, 1) := by decide +kernel
theorem dX9_bits_16 : decode cX9_bits 16 = .ok (.iadd, 1) := by decide +kernel
theorem dX9_bits_17 : decode cX9_bits 17 = .ok (.istore_n 1, 1) := by decide +kernel
theorem dX9_bits_18 : decode cX9_bits 18 = .ok (.iinc 2 1, 3) := by decide +kernel
theorem dX9_bits_21 : decode cX9_bits 21 = .ok (.goto (-17), 3) := by decide +kernel
theorem dX9_bits_24 : decode cX9_bits 24 = .ok (.iload_n 1, 1) := by decide +kernel
theorem dX9_bits_25 : decode cX9_bits 25 = .ok (.ireturn, 1) := by decide +kernel
theorem dX9_feed_0 : decode cX9_feed 0 = .ok (.aload_n 0, 1) := by decide +kernel
theorem dX9_feed_1 : decode cX9_feed 1 = .ok (.iconst 0, 1) := by decide +kernel
theorem dX9_feed_2 : decode cX9_feed 2 = .ok (.putfield 102, 3) := by decide +kernel
theorem dX9_feed_5 : decode cX9_feed 5 = .ok (.aload_n 0, 1) := by decide +kernel
theorem dX9_feed_6 : decode cX9_feed 6 = .ok (.getfield 105, 3) := by decide +kernel
theorem dX9_feed_9 : decode cX9_feed 9 = .ok (.bipush 20, 2) := by decide +kernel
theorem dX9_feed_11 : decode cX9_feed 11 = .ok (.iadd, 1) := by decide +kernel
theorem dX9_feed_12 : decode cX9_feed 12 = .ok (.sipush 700, 3) := by decide +kernel
theorem dX9_feed_15 : decode cX9_feed 15 = .ok (.if_icmp .le 5, 3) := by decide +kernel
theorem dX9_feed_18 : decode cX9_feed 18 = .ok (.iconst (-1), 1) := by decide +kernel
theorem dX9_feed_19 : decode cX9_feed 19 = .ok (.ireturn, 1) := by decide +kernel
theorem dX9_feed_20 : decode cX9_feed 20 = .ok (.aload_n 0, 1) := by decide +kernel
theorem dX9_feed_21 : decode cX9_feed 21 = .ok (.iload_n 1, 1) := by decide +kernel
theorem dX9_feed_22 : decode cX9_feed 22 = .ok (.invokevirtual 108, 3) := by decide +kernel
theorem dX9_feed_25 : decode cX9_feed 25 = .ok (.aload_n 0, 1) := by decide +kernel
theorem dX9_feed_26 : decode cX9_feed 26 = .ok (.iload_n 2, 1) := by decide +kernel
theorem dX9_feed_27 : decode cX9_feed 27 = .ok (.invokevirtual 108, 3) := by decide +kernel
theorem dX9_feed_30 : decode cX9_feed 30 = .ok (.aload_n 0, 1) := by decide +kernel
theorem dX9_feed_31 : decode cX9_feed 31 = .ok (.iload_n 3, 1) := by decide +kernel
theorem dX9_feed_32 : decode cX9_feed 32 = .ok (.invokevirtual 108, 3) := by decide +kernel
theorem dX9_feed_35 : decode cX9_feed 35 = .ok (.aload_n 0, 1) := by decide +kernel
theorem dX9_feed_36 : decode cX9_feed 36 = .ok (.iload 4, 2) := by decide +kernel
theorem dX9_feed_38 : decode cX9_feed 38 = .ok (.invokevirtual 108, 3) := by decide +kernel
theorem dX9_feed_41 : decode cX9_feed 41 = .ok (.aload_n 0, 1) := by decide +kernel
theorem dX9_feed_42 : decode cX9_feed 42 = .ok (.iload 5, 2) := by decide +kernel
theorem dX9_feed_44 : decode cX9_feed 44 = .ok (.invokevirtual 108, 3) := by decide +kernel
theorem dX9_feed_47 : decode cX9_feed 47 = .ok (.aload_n 0, 1) := by decide +kernel
theorem dX9_feed_48 : decode cX9_feed 48 = .ok (.getfield 105, 3) := by decide +kernel
theorem dX9_feed_51 : decode cX9_feed 51 = .ok (.ireturn, 1) := by decide +kernel
theorem dX9_lays_0 : decode cX9_lays 0 = .ok (.bipush 24, 2) := by decide +kernel
theorem dX9_lays_2 : decode cX9_lays 2 = .ok (.istore_n 2, 1) := by decide +kernel
theorem dX9_lays_3 : decode cX9_lays 3 = .ok (.iload_n 2, 1) := by decide +kernel
theorem dX9_lays_4 : decode cX9_lays 4 = .ok (.ifCond .lt 35, 3) := by decide +kernel
theorem dX9_lays_7 : decode cX9_lays 7 = .ok (.aload_n 0, 1) := by decide +kernel
theorem dX9_lays_8 : decode cX9_lays 8 = .ok (.getfield 32, 3) := by decide +kernel
theorem dX9_lays_11 : decode cX9_lays 11 = .ok (.aload_n 0, 1) := by decide +kernel
theorem dX9_lays_12 : decode cX9_lays 12 = .ok (.getfield 105, 3) := by decide +kernel
theorem dX9_lays_15 : decode cX9_lays 15 = .ok (.iload_n 1, 1) := by decide +kernel
theorem dX9_lays_16 : decode cX9_lays 16 = .ok (.iload_n 2, 1) := by decide +kernel
theorem dX9_lays_17 : decode cX9_lays 17 = .ok (.ishr, 1) := by decide +kernel
theorem dX9_lays_18 : decode cX9_lays 18 = .ok (.sipush 255, 3) := by decide +kernel
theorem dX9_lays_21 : decode cX9_lays 21 = .ok (.iand, 1) := by decide +kernel
theorem dX9_lays_22 : decode cX9_lays 22 = .ok (.iastore, 1) := by decide +kernel
theorem dX9_lays_23 : decode cX9_lays 23 = .ok (.aload_n 0, 1) := by decide +kernel
theorem dX9_lays_24 : decode cX9_lays 24 = .ok (.dup, 1) := by decide +kernel
theorem dX9_lays_25 : decode cX9_lays 25 = .ok (.getfield 105, 3) := by decide +kernel
theorem dX9_lays_28 : decode cX9_lays 28 = .ok (.iconst 1, 1) := by decide +kernel
theorem dX9_lays_29 : decode cX9_lays 29 = .ok (.iadd, 1) := by decide +kernel
theorem dX9_lays_30 : decode cX9_lays 30 = .ok (.putfield 105, 3) := by decide +kernel
theorem dX9_lays_33 : decode cX9_lays 33 = .ok (.iinc 2 (-8), 3) := by decide +kernel
theorem dX9_lays_36 : decode cX9_lays 36 = .ok (.goto (-33), 3) := by decide +kernel
theorem dX9_lays_39 : decode cX9_lays 39 = .ok (.return_, 1) := by decide +kernel
theorem dX9_byteAt_0 : decode cX9_byteAt 0 = .ok (.iload_n 1, 1) := by decide +kernel
theorem dX9_byteAt_1 : decode cX9_byteAt 1 = .ok (.aload_n 0, 1) := by decide +kernel
theorem dX9_byteAt_2 : decode cX9_byteAt 2 = .ok (.getfield 112, 3) := by decide +kernel
theorem dX9_byteAt_5 : decode cX9_byteAt 5 = .ok (.if_icmp .ge 12, 3) := by decide +kernel
theorem dX9_byteAt_8 : decode cX9_byteAt 8 = .ok (.aload_n 0, 1) := by decide +kernel
theorem dX9_byteAt_9 : decode cX9_byteAt 9 = .ok (.getfield 32, 3) := by decide +kernel
theorem dX9_byteAt_12 : decode cX9_byteAt 12 = .ok (.iload_n 1, 1) := by decide +kernel
theorem dX9_byteAt_13 : decode cX9_byteAt 13 = .ok (.iaload, 1) := by decide +kernel
theorem dX9_byteAt_14 : decode cX9_byteAt 14 = .ok (.goto 4, 3) := by decide +kernel
theorem dX9_byteAt_17 : decode cX9_byteAt 17 = .ok (.iconst 0, 1) := by decide +kernel
theorem dX9_byteAt_18 : decode cX9_byteAt 18 = .ok (.ireturn, 1) := by decide +kernel
theorem dX9_isLetter_0 : decode cX9_isLetter 0 = .ok (.iload_n 0, 1) := by decide +kernel
theorem dX9_isLetter_1 : decode cX9_isLetter 1 = .ok (.bipush 97, 2) := by decide +kernel
theorem dX9_isLetter_3 : decode cX9_isLetter 3 = .ok (.if_icmp .lt 13, 3) := by decide +kernel
theorem dX9_isLetter_6 : decode cX9_isLetter 6 = .ok (.iload_n 0, 1) := by decide +kernel
theorem dX9_isLetter_7 : decode cX9_isLetter 7 = .ok (.bipush 122, 2) := by decide +kernel
theorem dX9_isLetter_9 : decode cX9_isLetter 9 = .ok (.if_icmp .gt 7, 3) := by decide +kernel
theorem dX9_isLetter_12 : decode cX9_isLetter 12 = .ok (.iconst 1, 1) := by decide +kernel
theorem dX9_isLetter_13 : decode cX9_isLetter 13 = .ok (.goto 4, 3) := by decide +kernel
theorem dX9_isLetter_16 : decode cX9_isLetter 16 = .ok (.iconst 0, 1) := by decide +kernel
theorem dX9_isLetter_17 : decode cX9_isLetter 17 = .ok (.ireturn, 1) := by decide +kernel
theorem dX9_isDigit_0 : decode cX9_isDigit 0 = .ok (.iload_n 0, 1) := by decide +kernel
theorem dX9_isDigit_1 : decode cX9_isDigit 1 = .ok (.bipush 48, 2) := by decide +kernel
theorem dX9_isDigit_3 : decode cX9_isDigit 3 = .ok (.if_icmp .lt 13, 3) := by decide +kernel
theorem dX9_isDigit_6 : decode cX9_isDigit 6 = .ok (.iload_n 0, 1) := by decide +kernel
theorem dX9_isDigit_7 : decode cX9_isDigit 7 = .ok (.bipush 57, 2) := by decide +kernel
theorem dX9_isDigit_9 : decode cX9_isDigit 9 = .ok (.if_icmp .gt 7, 3) := by decide +kernel
theorem dX9_isDigit_12 : decode cX9_isDigit 12 = .ok (.iconst 1, 1) := by decide +kernel
theorem dX9_isDigit_13 : decode cX9_isDigit 13 = .ok (.goto 4, 3) := by decide +kernel
theorem dX9_isDigit_16 : decode cX9_isDigit 16 = .ok (.iconst 0, 1) := by decide +kernel
theorem dX9_isDigit_17 : decode cX9_isDigit 17 = .ok (.ireturn, 1) := by decide +kernel
theorem dX9_goes_0 : decode cX9_goes 0 = .ok (.aload_n 0, 1) := by decide +kernel
theorem dX9_goes_1 : decode cX9_goes 1 = .ok (.getfield 115, 3) := by decide +kernel
theorem dX9_goes_4 : decode cX9_goes 4 = .ok (.aload_n 0, 1) := by decide +kernel
theorem dX9_goes_5 : decode cX9_goes 5 = .ok (.getfield 112, 3) := by decide +kernel
theorem dX9_goes_8 : decode cX9_goes 8 = .ok (.if_icmp .ge 42, 3) := by decide +kernel
theorem dX9_goes_11 : decode cX9_goes 11 = .ok (.aload_n 0, 1) := by decide +kernel
theorem dX9_goes_12 : decode cX9_goes 12 = .ok (.aload_n 0, 1) := by decide +kernel
theorem dX9_goes_13 : decode cX9_goes 13 = .ok (.getfield 115, 3) := by decide +kernel
theorem dX9_goes_16 : decode cX9_goes 16 = .ok (.invokevirtual 118, 3) := by decide +kernel
theorem dX9_goes_19 : decode cX9_goes 19 = .ok (.bipush 32, 2) := by decide +kernel
theorem dX9_goes_21 : decode cX9_goes 21 = .ok (.if_icmp .eq 16, 3) := by decide +kernel
theorem dX9_goes_24 : decode cX9_goes 24 = .ok (.aload_n 0, 1) := by decide +kernel
theorem dX9_goes_25 : decode cX9_goes 25 = .ok (.aload_n 0, 1) := by decide +kernel
theorem dX9_goes_26 : decode cX9_goes 26 = .ok (.getfield 115, 3) := by decide +kernel
theorem dX9_goes_29 : decode cX9_goes 29 = .ok (.invokevirtual 118, 3) := by decide +kernel
theorem dX9_goes_32 : decode cX9_goes 32 = .ok (.bipush 10, 2) := by decide +kernel
theorem dX9_goes_34 : decode cX9_goes 34 = .ok (.if_icmp .ne 16, 3) := by decide +kernel
theorem dX9_goes_37 : decode cX9_goes 37 = .ok (.aload_n 0, 1) := by decide +kernel
theorem dX9_goes_38 : decode cX9_goes 38 = .ok (.dup, 1) := by decide +kernel
theorem dX9_goes_39 : decode cX9_goes 39 = .ok (.getfield 115, 3) := by decide +kernel
theorem dX9_goes_42 : decode cX9_goes 42 = .ok (.iconst 1, 1) := by decide +kernel
theorem dX9_goes_43 : decode cX9_goes 43 = .ok (.iadd, 1) := by decide +kernel
theorem dX9_goes_44 : decode cX9_goes 44 = .ok (.putfield 115, 3) := by decide +kernel
theorem dX9_goes_47 : decode cX9_goes 47 = .ok (.goto (-47), 3) := by decide +kernel
theorem dX9_goes_50 : decode cX9_goes 50 = .ok (.aload_n 0, 1) := by decide +kernel
theorem dX9_goes_51 : decode cX9_goes 51 = .ok (.aload_n 0, 1) := by decide +kernel
theorem dX9_goes_52 : decode cX9_goes 52 = .ok (.getfield 115, 3) := by decide +kernel
theorem dX9_goes_55 : decode cX9_goes 55 = .ok (.putfield 122, 3) := by decide +kernel
theorem dX9_goes_58 : decode cX9_goes 58 = .ok (.aload_n 0, 1) := by decide +kernel
theorem dX9_goes_59 : decode cX9_goes 59 = .ok (.lconst 0, 1) := by decide +kernel
theorem dX9_goes_60 : decode cX9_goes 60 = .ok (.putfield 125, 3) := by decide +kernel
theorem dX9_goes_63 : decode cX9_goes 63 = .ok (.aload_n 0, 1) := by decide +kernel
theorem dX9_goes_64 : decode cX9_goes 64 = .ok (.iconst 0, 1) := by decide +kernel
theorem dX9_goes_65 : decode cX9_goes 65 = .ok (.putfield 129, 3) := by decide +kernel
theorem dX9_goes_68 : decode cX9_goes 68 = .ok (.aload_n 0, 1) := by decide +kernel
theorem dX9_goes_69 : decode cX9_goes 69 = .ok (.aload_n 0, 1) := by decide +kernel
theorem dX9_goes_70 : decode cX9_goes 70 = .ok (.getfield 115, 3) := by decide +kernel
theorem dX9_goes_73 : decode cX9_goes 73 = .ok (.invokevirtual 118, 3) := by decide +kernel
theorem dX9_goes_76 : decode cX9_goes 76 = .ok (.istore_n 1, 1) := by decide +kernel
theorem dX9_goes_77 : decode cX9_goes 77 = .ok (.aload_n 0, 1) := by decide +kernel
theorem dX9_goes_78 : decode cX9_goes 78 = .ok (.iload_n 1, 1) := by decide +kernel
theorem dX9_goes_79 : decode cX9_goes 79 = .ok (.putfield 132, 3) := by decide +kernel
theorem dX9_goes_82 : decode cX9_goes 82 = .ok (.aload_n 0, 1) := by decide +kernel
theorem dX9_goes_83 : decode cX9_goes 83 = .ok (.getfield 115, 3) := by decide +kernel
theorem dX9_goes_86 : decode cX9_goes 86 = .ok (.aload_n 0, 1) := by decide +kernel
theorem dX9_goes_87 : decode cX9_goes 87 = .ok (.getfield 112, 3) := by decide +kernel
theorem dX9_goes_90 : decode cX9_goes 90 = .ok (.if_icmp .lt 11, 3) := by decide +kernel
theorem dX9_goes_93 : decode cX9_goes 93 = .ok (.aload_n 0, 1) := by decide +kernel
theorem dX9_goes_94 : decode cX9_goes 94 = .ok (.iconst 0, 1) := by decide +kernel
theorem dX9_goes_95 : decode cX9_goes 95 = .ok (.putfield 135, 3) := by decide +kernel
theorem dX9_goes_98 : decode cX9_goes 98 = .ok (.goto 233, 3) := by decide +kernel
theorem dX9_goes_101 : decode cX9_goes 101 = .ok (.iload_n 1, 1) := by decide +kernel
theorem dX9_goes_102 : decode cX9_goes 102 = .ok (.invokestatic 138, 3) := by decide +kernel
theorem dX9_goes_105 : decode cX9_goes 105 = .ok (.ifCond .eq 75, 3) := by decide +kernel
theorem dX9_goes_108 : decode cX9_goes 108 = .ok (.aload_n 0, 1) := by decide +kernel
theorem dX9_goes_109 : decode cX9_goes 109 = .ok (.aload_n 0, 1) := by decide +kernel
theorem dX9_goes_110 : decode cX9_goes 110 = .ok (.getfield 115, 3) := by decide +kernel
theorem dX9_goes_113 : decode cX9_goes 113 = .ok (.invokevirtual 118, 3) := by decide +kernel
theorem dX9_goes_116 : decode cX9_goes 116 = .ok (.invokestatic 138, 3) := by decide +kernel
theorem dX9_goes_119 : decode cX9_goes 119 = .ok (.ifCond .eq 53, 3) := by decide +kernel
theorem dX9_goes_122 : decode cX9_goes 122 = .ok (.aload_n 0, 1) := by decide +kernel
theorem dX9_goes_123 : decode cX9_goes 123 = .ok (.getfield 115, 3) := by decide +kernel
theorem dX9_goes_126 : decode cX9_goes 126 = .ok (.aload_n 0, 1) := by decide +kernel
theorem dX9_goes_127 : decode cX9_goes 127 = .ok (.getfield 122, 3) := by decide +kernel
theorem dX9_goes_130 : decode cX9_goes 130 = .ok (.isub, 1) := by decide +kernel
theorem dX9_goes_131 : decode cX9_goes 131 = .ok (.bipush 6, 2) := by decide +kernel
theorem dX9_goes_133 : decode cX9_goes 133 = .ok (.if_icmp .ge 26, 3) := by decide +kernel
theorem dX9_goes_136 : decode cX9_goes 136 = .ok (.aload_n 0, 1) := by decide +kernel
theorem dX9_goes_137 : decode cX9_goes 137 = .ok (.aload_n 0, 1) := by decide +kernel
theorem dX9_goes_138 : decode cX9_goes 138 = .ok (.getfield 125, 3) := by decide +kernel
theorem dX9_goes_141 : decode cX9_goes 141 = .ok (.iconst 5, 1) := by decide +kernel
theorem dX9_goes_142 : decode cX9_goes 142 = .ok (.lshl, 1) := by decide +kernel
theorem dX9_goes_143 : decode cX9_goes 143 = .ok (.aload_n 0, 1) := by decide +kernel
theorem dX9_goes_144 : decode cX9_goes 144 = .ok (.aload_n 0, 1) := by decide +kernel
theorem dX9_goes_145 : decode cX9_goes 145 = .ok (.getfield 115, 3) := by decide +kernel
theorem dX9_goes_148 : decode cX9_goes 148 = .ok (.invokevirtual 118, 3) := by decide +kernel
theorem dX9_goes_151 : decode cX9_goes 151 = .ok (.bipush 96, 2) := by decide +kernel
theorem dX9_goes_153 : decode cX9_goes 153 = .ok (.isub, 1) := by decide +kernel
theorem dX9_goes_154 : decode cX9_goes 154 = .ok (.i2l, 1) := by decide +kernel
theorem dX9_goes_155 : decode cX9_goes 155 = .ok (.lor, 1) := by decide +kernel
theorem dX9_goes_156 : decode cX9_goes 156 = .ok (.putfield 125, 3) := by decide +kernel
theorem dX9_goes_159 : decode cX9_goes 159 = .ok (.aload_n 0, 1) := by decide +kernel
theorem dX9_goes_160 : decode cX9_goes 160 = .ok (.dup, 1) := by decide +kernel
theorem dX9_goes_161 : decode cX9_goes 161 = .ok (.getfield 115, 3) := by decide +kernel
theorem dX9_goes_164 : decode cX9_goes 164 = .ok (.iconst 1, 1) := by decide +kernel
theorem dX9_goes_165 : decode cX9_goes 165 = .ok (.iadd, 1) := by decide +kernel
theorem dX9_goes_166 : decode cX9_goes 166 = .ok (.putfield 115, 3) := by decide +kernel
theorem dX9_goes_169 : decode cX9_goes 169 = .ok (.goto (-61), 3) := by decide +kernel
theorem dX9_goes_172 : decode cX9_goes 172 = .ok (.aload_n 0, 1) := by decide +kernel
theorem dX9_goes_173 : decode cX9_goes 173 = .ok (.iconst 1, 1) := by decide +kernel
theorem dX9_goes_174 : decode cX9_goes 174 = .ok (.putfield 135, 3) := by decide +kernel
theorem dX9_goes_177 : decode cX9_goes 177 = .ok (.goto 154, 3) := by decide +kernel
theorem dX9_goes_180 : decode cX9_goes 180 = .ok (.iload_n 1, 1) := by decide +kernel
theorem dX9_goes_181 : decode cX9_goes 181 = .ok (.invokestatic 142, 3) := by decide +kernel
theorem dX9_goes_184 : decode cX9_goes 184 = .ok (.ifCond .eq 74, 3) := by decide +kernel
theorem dX9_goes_187 : decode cX9_goes 187 = .ok (.aload_n 0, 1) := by decide +kernel
theorem dX9_goes_188 : decode cX9_goes 188 = .ok (.aload_n 0, 1) := by decide +kernel
theorem dX9_goes_189 : decode cX9_goes 189 = .ok (.getfield 115, 3) := by decide +kernel
theorem dX9_goes_192 : decode cX9_goes 192 = .ok (.invokevirtual 118, 3) := by decide +kernel
theorem dX9_goes_195 : decode cX9_goes 195 = .ok (.invokestatic 142, 3) := by decide +kernel
theorem dX9_goes_198 : decode cX9_goes 198 = .ok (.ifCond .eq 52, 3) := by decide +kernel
theorem dX9_goes_201 : decode cX9_goes 201 = .ok (.aload_n 0, 1) := by decide +kernel
theorem dX9_goes_202 : decode cX9_goes 202 = .ok (.getfield 115, 3) := by decide +kernel
theorem dX9_goes_205 : decode cX9_goes 205 = .ok (.aload_n 0, 1) := by decide +kernel
theorem dX9_goes_206 : decode cX9_goes 206 = .ok (.getfield 122, 3) := by decide +kernel
theorem dX9_goes_209 : decode cX9_goes 209 = .ok (.isub, 1) := by decide +kernel
theorem dX9_goes_210 : decode cX9_goes 210 = .ok (.iconst 4, 1) := by decide +kernel
theorem dX9_goes_211 : decode cX9_goes 211 = .ok (.if_icmp .ge 26, 3) := by decide +kernel
theorem dX9_goes_214 : decode cX9_goes 214 = .ok (.aload_n 0, 1) := by decide +kernel
theorem dX9_goes_215 : decode cX9_goes 215 = .ok (.bipush 10, 2) := by decide +kernel
theorem dX9_goes_217 : decode cX9_goes 217 = .ok (.aload_n 0, 1) := by decide +kernel
theorem dX9_goes_218 : decode cX9_goes 218 = .ok (.getfield 129, 3) := by decide +kernel
theorem dX9_goes_221 : decode cX9_goes 221 = .ok (.imul, 1) := by decide +kernel
theorem dX9_goes_222 : decode cX9_goes 222 = .ok (.aload_n 0, 1) := by decide +kernel
theorem dX9_goes_223 : decode cX9_goes 223 = .ok (.aload_n 0, 1) := by decide +kernel
theorem dX9_goes_224 : decode cX9_goes 224 = .ok (.getfield 115, 3) := by decide +kernel
theorem dX9_goes_227 : decode cX9_goes 227 = .ok (.invokevirtual 118, 3) := by decide +kernel
theorem dX9_goes_230 : decode cX9_goes 230 = .ok (.iadd, 1) := by decide +kernel
theorem dX9_goes_231 : decode cX9_goes 231 = .ok (.bipush 48, 2) := by decide +kernel
theorem dX9_goes_233 : decode cX9_goes 233 = .ok (.isub, 1) := by decide +kernel
theorem dX9_goes_234 : decode cX9_goes 234 = .ok (.putfield 129, 3) := by decide +kernel
theorem dX9_goes_237 : decode cX9_goes 237 = .ok (.aload_n 0, 1) := by decide +kernel
theorem dX9_goes_238 : decode cX9_goes 238 = .ok (.dup, 1) := by decide +kernel
theorem dX9_goes_239 : decode cX9_goes 239 = .ok (.getfield 115, 3) := by decide +kernel
theorem dX9_goes_242 : decode cX9_goes 242 = .ok (.iconst 1, 1) := by decide +kernel
theorem dX9_goes_243 : decode cX9_goes 243 = .ok (.iadd, 1) := by decide +kernel
theorem dX9_goes_244 : decode cX9_goes 244 = .ok (.putfield 115, 3) := by decide +kernel
theorem dX9_goes_247 : decode cX9_goes 247 = .ok (.goto (-60), 3) := by decide +kernel
theorem dX9_goes_250 : decode cX9_goes 250 = .ok (.aload_n 0, 1) := by decide +kernel
theorem dX9_goes_251 : decode cX9_goes 251 = .ok (.iconst 2, 1) := by decide +kernel
theorem dX9_goes_252 : decode cX9_goes 252 = .ok (.putfield 135, 3) := by decide +kernel
theorem dX9_goes_255 : decode cX9_goes 255 = .ok (.goto 76, 3) := by decide +kernel
theorem dX9_goes_258 : decode cX9_goes 258 = .ok (.aload_n 0, 1) := by decide +kernel
theorem dX9_goes_259 : decode cX9_goes 259 = .ok (.dup, 1) := by decide +kernel
theorem dX9_goes_260 : decode cX9_goes 260 = .ok (.getfield 115, 3) := by decide +kernel
theorem dX9_goes_263 : decode cX9_goes 263 = .ok (.iconst 1, 1) := by decide +kernel
theorem dX9_goes_264 : decode cX9_goes 264 = .ok (.iadd, 1) := by decide +kernel
theorem dX9_goes_265 : decode cX9_goes 265 = .ok (.putfield 115, 3) := by decide +kernel
theorem dX9_goes_268 : decode cX9_goes 268 = .ok (.aload_n 0, 1) := by decide +kernel
theorem dX9_goes_269 : decode cX9_goes 269 = .ok (.iload_n 1, 1) := by decide +kernel
theorem dX9_goes_270 : decode cX9_goes 270 = .ok (.bipush 59, 2) := by decide +kernel
theorem dX9_goes_272 : decode cX9_goes 272 = .ok (.if_icmp .eq 51, 3) := by decide +kernel
theorem dX9_goes_275 : decode cX9_goes 275 = .ok (.iload_n 1, 1) := by decide +kernel
theorem dX9_goes_276 : decode cX9_goes 276 = .ok (.bipush 40, 2) := by decide +kernel
theorem dX9_goes_278 : decode cX9_goes 278 = .ok (.if_icmp .eq 45, 3) := by decide +kernel
theorem dX9_goes_281 : decode cX9_goes 281 = .ok (.iload_n 1, 1) := by decide +kernel
theorem dX9_goes_282 : decode cX9_goes 282 = .ok (.bipush 41, 2) := by decide +kernel
theorem dX9_goes_284 : decode cX9_goes 284 = .ok (.if_icmp .eq 39, 3) := by decide +kernel
theorem dX9_goes_287 : decode cX9_goes 287 = .ok (.iload_n 1, 1) := by decide +kernel
theorem dX9_goes_288 : decode cX9_goes 288 = .ok (.bipush 43, 2) := by decide +kernel
theorem dX9_goes_290 : decode cX9_goes 290 = .ok (.if_icmp .eq 33, 3) := by decide +kernel
theorem dX9_goes_293 : decode cX9_goes 293 = .ok (.iload_n 1, 1) := by decide +kernel
theorem dX9_goes_294 : decode cX9_goes 294 = .ok (.bipush 45, 2) := by decide +kernel
theorem dX9_goes_296 : decode cX9_goes 296 = .ok (.if_icmp .eq 27, 3) := by decide +kernel
theorem dX9_goes_299 : decode cX9_goes 299 = .ok (.iload_n 1, 1) := by decide +kernel
theorem dX9_goes_300 : decode cX9_goes 300 = .ok (.bipush 42, 2) := by decide +kernel
theorem dX9_goes_302 : decode cX9_goes 302 = .ok (.if_icmp .eq 21, 3) := by decide +kernel
theorem dX9_goes_305 : decode cX9_goes 305 = .ok (.iload_n 1, 1) := by decide +kernel
theorem dX9_goes_306 : decode cX9_goes 306 = .ok (.bipush 47, 2) := by decide +kernel
theorem dX9_goes_308 : decode cX9_goes 308 = .ok (.if_icmp .eq 15, 3) := by decide +kernel
theorem dX9_goes_311 : decode cX9_goes 311 = .ok (.iload_n 1, 1) := by decide +kernel
theorem dX9_goes_312 : decode cX9_goes 312 = .ok (.bipush 60, 2) := by decide +kernel
theorem dX9_goes_314 : decode cX9_goes 314 = .ok (.if_icmp .eq 9, 3) := by decide +kernel
theorem dX9_goes_317 : decode cX9_goes 317 = .ok (.iload_n 1, 1) := by decide +kernel
theorem dX9_goes_318 : decode cX9_goes 318 = .ok (.bipush 61, 2) := by decide +kernel
theorem dX9_goes_320 : decode cX9_goes 320 = .ok (.if_icmp .ne 7, 3) := by decide +kernel
theorem dX9_goes_323 : decode cX9_goes 323 = .ok (.iconst 3, 1) := by decide +kernel
theorem dX9_goes_324 : decode cX9_goes 324 = .ok (.goto 4, 3) := by decide +kernel
theorem dX9_goes_327 : decode cX9_goes 327 = .ok (.iconst 4, 1) := by decide +kernel
theorem dX9_goes_328 : decode cX9_goes 328 = .ok (.putfield 135, 3) := by decide +kernel
theorem dX9_goes_331 : decode cX9_goes 331 = .ok (.aload_n 0, 1) := by decide +kernel
theorem dX9_goes_332 : decode cX9_goes 332 = .ok (.aload_n 0, 1) := by decide +kernel
theorem dX9_goes_333 : decode cX9_goes 333 = .ok (.getfield 115, 3) := by decide +kernel
theorem dX9_goes_336 : decode cX9_goes 336 = .ok (.aload_n 0, 1) := by decide +kernel
theorem dX9_goes_337 : decode cX9_goes 337 = .ok (.getfield 122, 3) := by decide +kernel
theorem dX9_goes_340 : decode cX9_goes 340 = .ok (.isub, 1) := by decide +kernel
theorem dX9_goes_341 : decode cX9_goes 341 = .ok (.putfield 145, 3) := by decide +kernel
theorem dX9_goes_344 : decode cX9_goes 344 = .ok (.return_, 1) := by decide +kernel
theorem dX9_spelled_0 : decode cX9_spelled 0 = .ok (.iload_n 0, 1) := by decide +kernel
theorem dX9_spelled_1 : decode cX9_spelled 1 = .ok (.i2l, 1) := by decide +kernel
theorem dX9_spelled_2 : decode cX9_spelled 2 = .ok (.ldc2_w 148, 3) := by decide +kernel
theorem dX9_spelled_5 : decode cX9_spelled 5 = .ok (.lsub, 1) := by decide +kernel
theorem dX9_spelled_6 : decode cX9_spelled 6 = .ok (.iconst 5, 1) := by decide +kernel
theorem dX9_spelled_7 : decode cX9_spelled 7 = .ok (.lshl, 1) := by decide +kernel
theorem dX9_spelled_8 : decode cX9_spelled 8 = .ok (.iload_n 1, 1) := by decide +kernel
theorem dX9_spelled_9 : decode cX9_spelled 9 = .ok (.bipush 96, 2) := by decide +kernel
theorem dX9_spelled_11 : decode cX9_spelled 11 = .ok (.isub, 1) := by decide +kernel
theorem dX9_spelled_12 : decode cX9_spelled 12 = .ok (.i2l, 1) := by decide +kernel
theorem dX9_spelled_13 : decode cX9_spelled 13 = .ok (.lor, 1) := by decide +kernel
theorem dX9_spelled_14 : decode cX9_spelled 14 = .ok (.lstore 6, 2) := by decide +kernel
theorem dX9_spelled_16 : decode cX9_spelled 16 = .ok (.iload_n 2, 1) := by decide +kernel
theorem dX9_spelled_17 : decode cX9_spelled 17 = .ok (.ifCond .eq 15, 3) := by decide +kernel
theorem dX9_spelled_20 : decode cX9_spelled 20 = .ok (.lload 6, 2) := by decide +kernel
theorem dX9_spelled_22 : decode cX9_spelled 22 = .ok (.iconst 5, 1) := by decide +kernel
theorem dX9_spelled_23 : decode cX9_spelled 23 = .ok (.lshl, 1) := by decide +kernel
theorem dX9_spelled_24 : decode cX9_spelled 24 = .ok (.iload_n 2, 1) := by decide +kernel
theorem dX9_spelled_25 : decode cX9_spelled 25 = .ok (.bipush 96, 2) := by decide +kernel
theorem dX9_spelled_27 : decode cX9_spelled 27 = .ok (.isub, 1) := by decide +kernel
theorem dX9_spelled_28 : decode cX9_spelled 28 = .ok (.i2l, 1) := by decide +kernel
theorem dX9_spelled_29 : decode cX9_spelled 29 = .ok (.lor, 1) := by decide +kernel
theorem dX9_spelled_30 : decode cX9_spelled 30 = .ok (.lstore 6, 2) := by decide +kernel
theorem dX9_spelled_32 : decode cX9_spelled 32 = .ok (.iload_n 3, 1) := by decide +kernel
theorem dX9_spelled_33 : decode cX9_spelled 33 = .ok (.ifCond .eq 15, 3) := by decide +kernel
theorem dX9_spelled_36 : decode cX9_spelled 36 = .ok (.lload 6, 2) := by decide +kernel
theorem dX9_spelled_38 : decode cX9_spelled 38 = .ok (.iconst 5, 1) := by decide +kernel
theorem dX9_spelled_39 : decode cX9_spelled 39 = .ok (.lshl, 1) := by decide +kernel
theorem dX9_spelled_40 : decode cX9_spelled 40 = .ok (.iload_n 3, 1) := by decide +kernel
theorem dX9_spelled_41 : decode cX9_spelled 41 = .ok (.bipush 96, 2) := by decide +kernel
theorem dX9_spelled_43 : decode cX9_spelled 43 = .ok (.isub, 1) := by decide +kernel
theorem dX9_spelled_44 : decode cX9_spelled 44 = .ok (.i2l, 1) := by decide +kernel
theorem dX9_spelled_45 : decode cX9_spelled 45 = .ok (.lor, 1) := by decide +kernel
theorem dX9_spelled_46 : decode cX9_spelled 46 = .ok (.lstore 6, 2) := by decide +kernel
theorem dX9_spelled_48 : decode cX9_spelled 48 = .ok (.iload 4, 2) := by decide +kernel
theorem dX9_spelled_50 : decode cX9_spelled 50 = .ok (.ifCond .eq 16, 3) := by decide +kernel
theorem dX9_spelled_53 : decode cX9_spelled 53 = .ok (.lload 6, 2) := by decide +kernel
theorem dX9_spelled_55 : decode cX9_spelled 55 = .ok (.iconst 5, 1) := by decide +kernel
theorem dX9_spelled_56 : decode cX9_spelled 56 = .ok (.lshl, 1) := by decide +kernel
theorem dX9_spelled_57 : decode cX9_spelled 57 = .ok (.iload 4, 2) := by decide +kernel
theorem dX9_spelled_59 : decode cX9_spelled 59 = .ok (.bipush 96, 2) := by decide +kernel
theorem dX9_spelled_61 : decode cX9_spelled 61 = .ok (.isub, 1) := by decide +kernel
theorem dX9_spelled_62 : decode cX9_spelled 62 = .ok (.i2l, 1) := by decide +kernel
theorem dX9_spelled_63 : decode cX9_spelled 63 = .ok (.lor, 1) := by decide +kernel
theorem dX9_spelled_64 : decode cX9_spelled 64 = .ok (.lstore 6, 2) := by decide +kernel
theorem dX9_spelled_66 : decode cX9_spelled 66 = .ok (.iload 5, 2) := by decide +kernel
theorem dX9_spelled_68 : decode cX9_spelled 68 = .ok (.ifCond .eq 16, 3) := by decide +kernel
theorem dX9_spelled_71 : decode cX9_spelled 71 = .ok (.lload 6, 2) := by decide +kernel
theorem dX9_spelled_73 : decode cX9_spelled 73 = .ok (.iconst 5, 1) := by decide +kernel
theorem dX9_spelled_74 : decode cX9_spelled 74 = .ok (.lshl, 1) := by decide +kernel
theorem dX9_spelled_75 : decode cX9_spelled 75 = .ok (.iload 5, 2) := by decide +kernel
theorem dX9_spelled_77 : decode cX9_spelled 77 = .ok (.bipush 96, 2) := by decide +kernel
theorem dX9_spelled_79 : decode cX9_spelled 79 = .ok (.isub, 1) := by decide +kernel
theorem dX9_spelled_80 : decode cX9_spelled 80 = .ok (.i2l, 1) := by decide +kernel
theorem dX9_spelled_81 : decode cX9_spelled 81 = .ok (.lor, 1) := by decide +kernel
theorem dX9_spelled_82 : decode cX9_spelled 82 = .ok (.lstore 6, 2) := by decide +kernel
theorem dX9_spelled_84 : decode cX9_spelled 84 = .ok (.lload 6, 2) := by decide +kernel
theorem dX9_spelled_86 : decode cX9_spelled 86 = .ok (.lreturn, 1) := by decide +kernel
theorem dX9_letters_0 : decode cX9_letters 0 = .ok (.iload_n 0, 1) := by decide +kernel
theorem dX9_letters_1 : decode cX9_letters 1 = .ok (.tableswitch 311 0 15 #[79, 93, 108, 123, 138, 152, 165, 181, 197, 212, 227, 241, 256, 270, 286, 299], 79) := by decide +kernel
theorem dX9_letters_80 : decode cX9_letters 80 = .ok (.bipush 108, 2) := by decide +kernel
theorem dX9_letters_82 : decode cX9_letters 82 = .ok (.bipush 101, 2) := by decide +kernel
theorem dX9_letters_84 : decode cX9_letters 84 = .ok (.bipush 102, 2) := by decide +kernel
theorem dX9_letters_86 : decode cX9_letters 86 = .ok (.bipush 116, 2) := by decide +kernel
theorem dX9_letters_88 : decode cX9_letters 88 = .ok (.iconst 0, 1) := by decide +kernel
theorem dX9_letters_89 : decode cX9_letters 89 = .ok (.iconst 0, 1) := by decide +kernel
theorem dX9_letters_90 : decode cX9_letters 90 = .ok (.invokestatic 150, 3) := by decide +kernel
theorem dX9_letters_93 : decode cX9_letters 93 = .ok (.lreturn, 1) := by decide +kernel
theorem dX9_letters_94 : decode cX9_letters 94 = .ok (.bipush 114, 2) := by decide +kernel
theorem dX9_letters_96 : decode cX9_letters 96 = .ok (.bipush 105, 2) := by decide +kernel
theorem dX9_letters_98 : decode cX9_letters 98 = .ok (.bipush 103, 2) := by decide +kernel
theorem dX9_letters_100 : decode cX9_letters 100 = .ok (.bipush 104, 2) := by decide +kernel
theorem dX9_letters_102 : decode cX9_letters 102 = .ok (.bipush 116, 2) := by decide +kernel
theorem dX9_letters_104 : decode cX9_letters 104 = .ok (.iconst 0, 1) := by decide +kernel
theorem dX9_letters_105 : decode cX9_letters 105 = .ok (.invokestatic 150, 3) := by decide +kernel
theorem dX9_letters_108 : decode cX9_letters 108 = .ok (.lreturn, 1) := by decide +kernel
theorem dX9_letters_109 : decode cX9_letters 109 = .ok (.bipush 115, 2) := by decide +kernel
theorem dX9_letters_111 : decode cX9_letters 111 = .ok (.bipush 104, 2) := by decide +kernel
theorem dX9_letters_113 : decode cX9_letters 113 = .ok (.bipush 101, 2) := by decide +kernel
theorem dX9_letters_115 : decode cX9_letters 115 = .ok (.bipush 101, 2) := by decide +kernel
theorem dX9_letters_117 : decode cX9_letters 117 = .ok (.bipush 116, 2) := by decide +kernel
theorem dX9_letters_119 : decode cX9_letters 119 = .ok (.iconst 0, 1) := by decide +kernel
theorem dX9_letters_120 : decode cX9_letters 120 = .ok (.invokestatic 150, 3) := by decide +kernel
theorem dX9_letters_123 : decode cX9_letters 123 = .ok (.lreturn, 1) := by decide +kernel
theorem dX9_letters_124 : decode cX9_letters 124 = .ok (.bipush 98, 2) := by decide +kernel
theorem dX9_letters_126 : decode cX9_letters 126 = .ok (.bipush 111, 2) := by decide +kernel
theorem dX9_letters_128 : decode cX9_letters 128 = .ok (.bipush 114, 2) := by decide +kernel
theorem dX9_letters_130 : decode cX9_letters 130 = .ok (.bipush 110, 2) := by decide +kernel
theorem dX9_letters_132 : decode cX9_letters 132 = .ok (.bipush 101, 2) := by decide +kernel
theorem dX9_letters_134 : decode cX9_letters 134 = .ok (.iconst 0, 1) := by decide +kernel
theorem dX9_letters_135 : decode cX9_letters 135 = .ok (.invokestatic 150, 3) := by decide +kernel
theorem dX9_letters_138 : decode cX9_letters 138 = .ok (.lreturn, 1) := by decide +kernel
theorem dX9_letters_139 : decode cX9_letters 139 = .ok (.bipush 116, 2) := by decide +kernel
theorem dX9_letters_141 : decode cX9_letters 141 = .ok (.bipush 111, 2) := by decide +kernel
theorem dX9_letters_143 : decode cX9_letters 143 = .ok (.bipush 119, 2) := by decide +kernel
theorem dX9_letters_145 : decode cX9_letters 145 = .ok (.bipush 110, 2) := by decide +kernel
theorem dX9_letters_147 : decode cX9_letters 147 = .ok (.iconst 0, 1) := by decide +kernel
theorem dX9_letters_148 : decode cX9_letters 148 = .ok (.iconst 0, 1) := by decide +kernel
theorem dX9_letters_149 : decode cX9_letters 149 = .ok (.invokestatic 150, 3) := by decide +kernel
theorem dX9_letters_152 : decode cX9_letters 152 = .ok (.lreturn, 1) := by decide +kernel
theorem dX9_letters_153 : decode cX9_letters 153 = .ok (.bipush 100, 2) := by decide +kernel
theorem dX9_letters_155 : decode cX9_letters 155 = .ok (.bipush 97, 2) := by decide +kernel
theorem dX9_letters_157 : decode cX9_letters 157 = .ok (.bipush 121, 2) := by decide +kernel
theorem dX9_letters_159 : decode cX9_letters 159 = .ok (.iconst 0, 1) := by decide +kernel
theorem dX9_letters_160 : decode cX9_letters 160 = .ok (.iconst 0, 1) := by decide +kernel
theorem dX9_letters_161 : decode cX9_letters 161 = .ok (.iconst 0, 1) := by decide +kernel
theorem dX9_letters_162 : decode cX9_letters 162 = .ok (.invokestatic 150, 3) := by decide +kernel
theorem dX9_letters_165 : decode cX9_letters 165 = .ok (.lreturn, 1) := by decide +kernel
theorem dX9_letters_166 : decode cX9_letters 166 = .ok (.bipush 115, 2) := by decide +kernel
theorem dX9_letters_168 : decode cX9_letters 168 = .ok (.bipush 104, 2) := by decide +kernel
theorem dX9_letters_170 : decode cX9_letters 170 = .ok (.bipush 101, 2) := by decide +kernel
theorem dX9_letters_172 : decode cX9_letters 172 = .ok (.bipush 101, 2) := by decide +kernel
theorem dX9_letters_174 : decode cX9_letters 174 = .ok (.bipush 116, 2) := by decide +kernel
theorem dX9_letters_176 : decode cX9_letters 176 = .ok (.bipush 115, 2) := by decide +kernel
theorem dX9_letters_178 : decode cX9_letters 178 = .ok (.invokestatic 150, 3) := by decide +kernel
theorem dX9_letters_181 : decode cX9_letters 181 = .ok (.lreturn, 1) := by decide +kernel
theorem dX9_letters_182 : decode cX9_letters 182 = .ok (.bipush 99, 2) := by decide +kernel
theorem dX9_letters_184 : decode cX9_letters 184 = .ok (.bipush 108, 2) := by decide +kernel
theorem dX9_letters_186 : decode cX9_letters 186 = .ok (.bipush 101, 2) := by decide +kernel
theorem dX9_letters_188 : decode cX9_letters 188 = .ok (.bipush 114, 2) := by decide +kernel
theorem dX9_letters_190 : decode cX9_letters 190 = .ok (.bipush 107, 2) := by decide +kernel
theorem dX9_letters_192 : decode cX9_letters 192 = .ok (.bipush 115, 2) := by decide +kernel
theorem dX9_letters_194 : decode cX9_letters 194 = .ok (.invokestatic 150, 3) := by decide +kernel
theorem dX9_letters_197 : decode cX9_letters 197 = .ok (.lreturn, 1) := by decide +kernel
theorem dX9_letters_198 : decode cX9_letters 198 = .ok (.bipush 107, 2) := by decide +kernel
theorem dX9_letters_200 : decode cX9_letters 200 = .ok (.bipush 110, 2) := by decide +kernel
theorem dX9_letters_202 : decode cX9_letters 202 = .ok (.bipush 111, 2) := by decide +kernel
theorem dX9_letters_204 : decode cX9_letters 204 = .ok (.bipush 119, 2) := by decide +kernel
theorem dX9_letters_206 : decode cX9_letters 206 = .ok (.bipush 110, 2) := by decide +kernel
theorem dX9_letters_208 : decode cX9_letters 208 = .ok (.iconst 0, 1) := by decide +kernel
theorem dX9_letters_209 : decode cX9_letters 209 = .ok (.invokestatic 150, 3) := by decide +kernel
theorem dX9_letters_212 : decode cX9_letters 212 = .ok (.lreturn, 1) := by decide +kernel
theorem dX9_letters_213 : decode cX9_letters 213 = .ok (.bipush 99, 2) := by decide +kernel
theorem dX9_letters_215 : decode cX9_letters 215 = .ok (.bipush 108, 2) := by decide +kernel
theorem dX9_letters_217 : decode cX9_letters 217 = .ok (.bipush 101, 2) := by decide +kernel
theorem dX9_letters_219 : decode cX9_letters 219 = .ok (.bipush 114, 2) := by decide +kernel
theorem dX9_letters_221 : decode cX9_letters 221 = .ok (.bipush 107, 2) := by decide +kernel
theorem dX9_letters_223 : decode cX9_letters 223 = .ok (.iconst 0, 1) := by decide +kernel
theorem dX9_letters_224 : decode cX9_letters 224 = .ok (.invokestatic 150, 3) := by decide +kernel
theorem dX9_letters_227 : decode cX9_letters 227 = .ok (.lreturn, 1) := by decide +kernel
theorem dX9_letters_228 : decode cX9_letters 228 = .ok (.bipush 119, 2) := by decide +kernel
theorem dX9_letters_230 : decode cX9_letters 230 = .ok (.bipush 111, 2) := by decide +kernel
theorem dX9_letters_232 : decode cX9_letters 232 = .ok (.bipush 114, 2) := by decide +kernel
theorem dX9_letters_234 : decode cX9_letters 234 = .ok (.bipush 100, 2) := by decide +kernel
theorem dX9_letters_236 : decode cX9_letters 236 = .ok (.iconst 0, 1) := by decide +kernel
theorem dX9_letters_237 : decode cX9_letters 237 = .ok (.iconst 0, 1) := by decide +kernel
theorem dX9_letters_238 : decode cX9_letters 238 = .ok (.invokestatic 150, 3) := by decide +kernel
theorem dX9_letters_241 : decode cX9_letters 241 = .ok (.lreturn, 1) := by decide +kernel
theorem dX9_letters_242 : decode cX9_letters 242 = .ok (.bipush 115, 2) := by decide +kernel
theorem dX9_letters_244 : decode cX9_letters 244 = .ok (.bipush 108, 2) := by decide +kernel
theorem dX9_letters_246 : decode cX9_letters 246 = .ok (.bipush 97, 2) := by decide +kernel
theorem dX9_letters_248 : decode cX9_letters 248 = .ok (.bipush 99, 2) := by decide +kernel
theorem dX9_letters_250 : decode cX9_letters 250 = .ok (.bipush 107, 2) := by decide +kernel
theorem dX9_letters_252 : decode cX9_letters 252 = .ok (.iconst 0, 1) := by decide +kernel
theorem dX9_letters_253 : decode cX9_letters 253 = .ok (.invokestatic 150, 3) := by decide +kernel
theorem dX9_letters_256 : decode cX9_letters 256 = .ok (.lreturn, 1) := by decide +kernel
theorem dX9_letters_257 : decode cX9_letters 257 = .ok (.bipush 108, 2) := by decide +kernel
theorem dX9_letters_259 : decode cX9_letters 259 = .ok (.bipush 97, 2) := by decide +kernel
theorem dX9_letters_261 : decode cX9_letters 261 = .ok (.bipush 121, 2) := by decide +kernel
theorem dX9_letters_263 : decode cX9_letters 263 = .ok (.bipush 115, 2) := by decide +kernel
theorem dX9_letters_265 : decode cX9_letters 265 = .ok (.iconst 0, 1) := by decide +kernel
theorem dX9_letters_266 : decode cX9_letters 266 = .ok (.iconst 0, 1) := by decide +kernel
theorem dX9_letters_267 : decode cX9_letters 267 = .ok (.invokestatic 150, 3) := by decide +kernel
theorem dX9_letters_270 : decode cX9_letters 270 = .ok (.lreturn, 1) := by decide +kernel
theorem dX9_letters_271 : decode cX9_letters 271 = .ok (.bipush 109, 2) := by decide +kernel
theorem dX9_letters_273 : decode cX9_letters 273 = .ok (.bipush 111, 2) := by decide +kernel
theorem dX9_letters_275 : decode cX9_letters 275 = .ok (.bipush 117, 2) := by decide +kernel
theorem dX9_letters_277 : decode cX9_letters 277 = .ok (.bipush 108, 2) := by decide +kernel
theorem dX9_letters_279 : decode cX9_letters 279 = .ok (.bipush 100, 2) := by decide +kernel
theorem dX9_letters_281 : decode cX9_letters 281 = .ok (.bipush 115, 2) := by decide +kernel
theorem dX9_letters_283 : decode cX9_letters 283 = .ok (.invokestatic 150, 3) := by decide +kernel
theorem dX9_letters_286 : decode cX9_letters 286 = .ok (.lreturn, 1) := by decide +kernel
theorem dX9_letters_287 : decode cX9_letters 287 = .ok (.bipush 97, 2) := by decide +kernel
theorem dX9_letters_289 : decode cX9_letters 289 = .ok (.bipush 110, 2) := by decide +kernel
theorem dX9_letters_291 : decode cX9_letters 291 = .ok (.bipush 100, 2) := by decide +kernel
theorem dX9_letters_293 : decode cX9_letters 293 = .ok (.iconst 0, 1) := by decide +kernel
theorem dX9_letters_294 : decode cX9_letters 294 = .ok (.iconst 0, 1) := by decide +kernel
theorem dX9_letters_295 : decode cX9_letters 295 = .ok (.iconst 0, 1) := by decide +kernel
theorem dX9_letters_296 : decode cX9_letters 296 = .ok (.invokestatic 150, 3) := by decide +kernel
theorem dX9_letters_299 : decode cX9_letters 299 = .ok (.lreturn, 1) := by decide +kernel
theorem dX9_letters_300 : decode cX9_letters 300 = .ok (.bipush 111, 2) := by decide +kernel
theorem dX9_letters_302 : decode cX9_letters 302 = .ok (.bipush 114, 2) := by decide +kernel
theorem dX9_letters_304 : decode cX9_letters 304 = .ok (.iconst 0, 1) := by decide +kernel
theorem dX9_letters_305 : decode cX9_letters 305 = .ok (.iconst 0, 1) := by decide +kernel
theorem dX9_letters_306 : decode cX9_letters 306 = .ok (.iconst 0, 1) := by decide +kernel
theorem dX9_letters_307 : decode cX9_letters 307 = .ok (.iconst 0, 1) := by decide +kernel
theorem dX9_letters_308 : decode cX9_letters 308 = .ok (.invokestatic 150, 3) := by decide +kernel
theorem dX9_letters_311 : decode cX9_letters 311 = .ok (.lreturn, 1) := by decide +kernel
theorem dX9_letters_312 : decode cX9_letters 312 = .ok (.bipush 110, 2) := by decide +kernel
theorem dX9_letters_314 : decode cX9_letters 314 = .ok (.bipush 111, 2) := by decide +kernel
theorem dX9_letters_316 : decode cX9_letters 316 = .ok (.bipush 116, 2) := by decide +kernel
theorem dX9_letters_318 : decode cX9_letters 318 = .ok (.iconst 0, 1) := by decide +kernel
theorem dX9_letters_319 : decode cX9_letters 319 = .ok (.iconst 0, 1) := by decide +kernel
theorem dX9_letters_320 : decode cX9_letters 320 = .ok (.iconst 0, 1) := by decide +kernel
theorem dX9_letters_321 : decode cX9_letters 321 = .ok (.invokestatic 150, 3) := by decide +kernel
theorem dX9_letters_324 : decode cX9_letters 324 = .ok (.lreturn, 1) := by decide +kernel
theorem dX9_knownWord_0 : decode cX9_knownWord 0 = .ok (.aload_n 0, 1) := by decide +kernel
theorem dX9_knownWord_1 : decode cX9_knownWord 1 = .ok (.getfield 135, 3) := by decide +kernel
theorem dX9_knownWord_4 : decode cX9_knownWord 4 = .ok (.iconst 1, 1) := by decide +kernel
theorem dX9_knownWord_5 : decode cX9_knownWord 5 = .ok (.if_icmp .ne 12, 3) := by decide +kernel
theorem dX9_knownWord_8 : decode cX9_knownWord 8 = .ok (.aload_n 0, 1) := by decide +kernel
theorem dX9_knownWord_9 : decode cX9_knownWord 9 = .ok (.getfield 145, 3) := by decide +kernel
theorem dX9_knownWord_12 : decode cX9_knownWord 12 = .ok (.bipush 6, 2) := by decide +kernel
theorem dX9_knownWord_14 : decode cX9_knownWord 14 = .ok (.if_icmp .le 5, 3) := by decide +kernel
theorem dX9_knownWord_17 : decode cX9_knownWord 17 = .ok (.iconst (-1), 1) := by decide +kernel
theorem dX9_knownWord_18 : decode cX9_knownWord 18 = .ok (.ireturn, 1) := by decide +kernel
theorem dX9_knownWord_19 : decode cX9_knownWord 19 = .ok (.iconst 0, 1) := by decide +kernel
theorem dX9_knownWord_20 : decode cX9_knownWord 20 = .ok (.istore_n 1, 1) := by decide +kernel
theorem dX9_knownWord_21 : decode cX9_knownWord 21 = .ok (.iload_n 1, 1) := by decide +kernel
theorem dX9_knownWord_22 : decode cX9_knownWord 22 = .ok (.bipush 17, 2) := by decide +kernel
theorem dX9_knownWord_24 : decode cX9_knownWord 24 = .ok (.if_icmp .ge 23, 3) := by decide +kernel
theorem dX9_knownWord_27 : decode cX9_knownWord 27 = .ok (.iload_n 1, 1) := by decide +kernel
theorem dX9_knownWord_28 : decode cX9_knownWord 28 = .ok (.invokestatic 154, 3) := by decide +kernel
theorem dX9_knownWord_31 : decode cX9_knownWord 31 = .ok (.aload_n 0, 1) := by decide +kernel
theorem dX9_knownWord_32 : decode cX9_knownWord 32 = .ok (.getfield 125, 3) := by decide +kernel
theorem dX9_knownWord_35 : decode cX9_knownWord 35 = .ok (.lcmp, 1) := by decide +kernel
theorem dX9_knownWord_36 : decode cX9_knownWord 36 = .ok (.ifCond .ne 5, 3) := by decide +kernel
theorem dX9_knownWord_39 : decode cX9_knownWord 39 = .ok (.iload_n 1, 1) := by decide +kernel
theorem dX9_knownWord_40 : decode cX9_knownWord 40 = .ok (.ireturn, 1) := by decide +kernel
theorem dX9_knownWord_41 : decode cX9_knownWord 41 = .ok (.iinc 1 1, 3) := by decide +kernel
theorem dX9_knownWord_44 : decode cX9_knownWord 44 = .ok (.goto (-23), 3) := by decide +kernel
theorem dX9_knownWord_47 : decode cX9_knownWord 47 = .ok (.iconst (-1), 1) := by decide +kernel
theorem dX9_knownWord_48 : decode cX9_knownWord 48 = .ok (.ireturn, 1) := by decide +kernel
theorem dX9_wrong_0 : decode cX9_wrong 0 = .ok (.aload_n 0, 1) := by decide +kernel
theorem dX9_wrong_1 : decode cX9_wrong 1 = .ok (.getfield 158, 3) := by decide +kernel
theorem dX9_wrong_4 : decode cX9_wrong 4 = .ok (.ifCond .eq 4, 3) := by decide +kernel
theorem dX9_wrong_7 : decode cX9_wrong 7 = .ok (.return_, 1) := by decide +kernel
theorem dX9_wrong_8 : decode cX9_wrong 8 = .ok (.aload_n 0, 1) := by decide +kernel
theorem dX9_wrong_9 : decode cX9_wrong 9 = .ok (.iload_n 1, 1) := by decide +kernel
theorem dX9_wrong_10 : decode cX9_wrong 10 = .ok (.putfield 158, 3) := by decide +kernel
theorem dX9_wrong_13 : decode cX9_wrong 13 = .ok (.aload_n 0, 1) := by decide +kernel
theorem dX9_wrong_14 : decode cX9_wrong 14 = .ok (.aload_n 0, 1) := by decide +kernel
theorem dX9_wrong_15 : decode cX9_wrong 15 = .ok (.getfield 122, 3) := by decide +kernel
theorem dX9_wrong_18 : decode cX9_wrong 18 = .ok (.putfield 35, 3) := by decide +kernel
theorem dX9_wrong_21 : decode cX9_wrong 21 = .ok (.return_, 1) := by decide +kernel
theorem dX9_isGood_0 : decode cX9_isGood 0 = .ok (.aload_n 0, 1) := by decide +kernel
theorem dX9_isGood_1 : decode cX9_isGood 1 = .ok (.getfield 158, 3) := by decide +kernel
theorem dX9_isGood_4 : decode cX9_isGood 4 = .ok (.ifCond .ne 7, 3) := by decide +kernel
theorem dX9_isGood_7 : decode cX9_isGood 7 = .ok (.iconst 1, 1) := by decide +kernel
theorem dX9_isGood_8 : decode cX9_isGood 8 = .ok (.goto 4, 3) := by decide +kernel
theorem dX9_isGood_11 : decode cX9_isGood 11 = .ok (.iconst 0, 1) := by decide +kernel
theorem dX9_isGood_12 : decode cX9_isGood 12 = .ok (.ireturn, 1) := by decide +kernel
theorem dX9_isSign_0 : decode cX9_isSign 0 = .ok (.aload_n 0, 1) := by decide +kernel
theorem dX9_isSign_1 : decode cX9_isSign 1 = .ok (.getfield 135, 3) := by decide +kernel
theorem dX9_isSign_4 : decode cX9_isSign 4 = .ok (.iconst 3, 1) := by decide +kernel
theorem dX9_isSign_5 : decode cX9_isSign 5 = .ok (.if_icmp .ne 15, 3) := by decide +kernel
theorem dX9_isSign_8 : decode cX9_isSign 8 = .ok (.aload_n 0, 1) := by decide +kernel
theorem dX9_isSign_9 : decode cX9_isSign 9 = .ok (.getfield 132, 3) := by decide +kernel
theorem dX9_isSign_12 : decode cX9_isSign 12 = .ok (.iload_n 1, 1) := by decide +kernel
theorem dX9_isSign_13 : decode cX9_isSign 13 = .ok (.if_icmp .ne 7, 3) := by decide +kernel
theorem dX9_isSign_16 : decode cX9_isSign 16 = .ok (.iconst 1, 1) := by decide +kernel
theorem dX9_isSign_17 : decode cX9_isSign 17 = .ok (.goto 4, 3) := by decide +kernel
theorem dX9_isSign_20 : decode cX9_isSign 20 = .ok (.iconst 0, 1) := by decide +kernel
theorem dX9_isSign_21 : decode cX9_isSign 21 = .ok (.ireturn, 1) := by decide +kernel
theorem dX9_need_0 : decode cX9_need 0 = .ok (.aload_n 0, 1) := by decide +kernel
theorem dX9_need_1 : decode cX9_need 1 = .ok (.invokevirtual 161, 3) := by decide +kernel
theorem dX9_need_4 : decode cX9_need 4 = .ok (.ifCond .ne 4, 3) := by decide +kernel
theorem dX9_need_7 : decode cX9_need 7 = .ok (.return_, 1) := by decide +kernel
theorem dX9_need_8 : decode cX9_need 8 = .ok (.iload_n 1, 1) := by decide +kernel
theorem dX9_need_9 : decode cX9_need 9 = .ok (.ifCond .eq 10, 3) := by decide +kernel
theorem dX9_need_12 : decode cX9_need 12 = .ok (.aload_n 0, 1) := by decide +kernel
theorem dX9_need_13 : decode cX9_need 13 = .ok (.invokevirtual 165, 3) := by decide +kernel
theorem dX9_need_16 : decode cX9_need 16 = .ok (.goto 8, 3) := by decide +kernel
theorem dX9_need_19 : decode cX9_need 19 = .ok (.aload_n 0, 1) := by decide +kernel
theorem dX9_need_20 : decode cX9_need 20 = .ok (.iconst 1, 1) := by decide +kernel
theorem dX9_need_21 : decode cX9_need 21 = .ok (.invokevirtual 168, 3) := by decide +kernel
theorem dX9_need_24 : decode cX9_need 24 = .ok (.return_, 1) := by decide +kernel
theorem dX9_number_0 : decode cX9_number 0 = .ok (.aload_n 0, 1) := by decide +kernel
theorem dX9_number_1 : decode cX9_number 1 = .ok (.invokevirtual 161, 3) := by decide +kernel
theorem dX9_number_4 : decode cX9_number 4 = .ok (.ifCond .ne 5, 3) := by decide +kernel
theorem dX9_number_7 : decode cX9_number 7 = .ok (.iconst 0, 1) := by decide +kernel
theorem dX9_number_8 : decode cX9_number 8 = .ok (.ireturn, 1) := by decide +kernel
theorem dX9_number_9 : decode cX9_number 9 = .ok (.aload_n 0, 1) := by decide +kernel
theorem dX9_number_10 : decode cX9_number 10 = .ok (.getfield 135, 3) := by decide +kernel
theorem dX9_number_13 : decode cX9_number 13 = .ok (.iconst 2, 1) := by decide +kernel
theorem dX9_number_14 : decode cX9_number 14 = .ok (.if_icmp .eq 11, 3) := by decide +kernel
theorem dX9_number_17 : decode cX9_number 17 = .ok (.aload_n 0, 1) := by decide +kernel
theorem dX9_number_18 : decode cX9_number 18 = .ok (.iconst 1, 1) := by decide +kernel
theorem dX9_number_19 : decode cX9_number 19 = .ok (.invokevirtual 168, 3) := by decide +kernel
theorem dX9_number_22 : decode cX9_number 22 = .ok (.goto 32, 3) := by decide +kernel
theorem dX9_number_25 : decode cX9_number 25 = .ok (.aload_n 0, 1) := by decide +kernel
theorem dX9_number_26 : decode cX9_number 26 = .ok (.getfield 145, 3) := by decide +kernel
theorem dX9_number_29 : decode cX9_number 29 = .ok (.iconst 4, 1) := by decide +kernel
theorem dX9_number_30 : decode cX9_number 30 = .ok (.if_icmp .gt 19, 3) := by decide +kernel
theorem dX9_number_33 : decode cX9_number 33 = .ok (.aload_n 0, 1) := by decide +kernel
theorem dX9_number_34 : decode cX9_number 34 = .ok (.getfield 129, 3) := by decide +kernel
theorem dX9_number_37 : decode cX9_number 37 = .ok (.iload_n 1, 1) := by decide +kernel
theorem dX9_number_38 : decode cX9_number 38 = .ok (.if_icmp .lt 11, 3) := by decide +kernel
theorem dX9_number_41 : decode cX9_number 41 = .ok (.aload_n 0, 1) := by decide +kernel
theorem dX9_number_42 : decode cX9_number 42 = .ok (.getfield 129, 3) := by decide +kernel
theorem dX9_number_45 : decode cX9_number 45 = .ok (.iload_n 2, 1) := by decide +kernel
theorem dX9_number_46 : decode cX9_number 46 = .ok (.if_icmp .le 8, 3) := by decide +kernel
theorem dX9_number_49 : decode cX9_number 49 = .ok (.aload_n 0, 1) := by decide +kernel
theorem dX9_number_50 : decode cX9_number 50 = .ok (.iconst 2, 1) := by decide +kernel
theorem dX9_number_51 : decode cX9_number 51 = .ok (.invokevirtual 168, 3) := by decide +kernel
theorem dX9_number_54 : decode cX9_number 54 = .ok (.aload_n 0, 1) := by decide +kernel
theorem dX9_number_55 : decode cX9_number 55 = .ok (.getfield 129, 3) := by decide +kernel
theorem dX9_number_58 : decode cX9_number 58 = .ok (.istore_n 3, 1) := by decide +kernel
theorem dX9_number_59 : decode cX9_number 59 = .ok (.aload_n 0, 1) := by decide +kernel
theorem dX9_number_60 : decode cX9_number 60 = .ok (.invokevirtual 161, 3) := by decide +kernel
theorem dX9_number_63 : decode cX9_number 63 = .ok (.ifCond .eq 7, 3) := by decide +kernel
theorem dX9_number_66 : decode cX9_number 66 = .ok (.aload_n 0, 1) := by decide +kernel
theorem dX9_number_67 : decode cX9_number 67 = .ok (.invokevirtual 165, 3) := by decide +kernel
theorem dX9_number_70 : decode cX9_number 70 = .ok (.iload_n 3, 1) := by decide +kernel
theorem dX9_number_71 : decode cX9_number 71 = .ok (.ireturn, 1) := by decide +kernel
theorem dX9_amongHere_0 : decode cX9_amongHere 0 = .ok (.aload_n 0, 1) := by decide +kernel
theorem dX9_amongHere_1 : decode cX9_amongHere 1 = .ok (.invokevirtual 161, 3) := by decide +kernel
theorem dX9_amongHere_4 : decode cX9_amongHere 4 = .ok (.ifCond .ne 5, 3) := by decide +kernel
theorem dX9_amongHere_7 : decode cX9_amongHere 7 = .ok (.iconst 0, 1) := by decide +kernel
theorem dX9_amongHere_8 : decode cX9_amongHere 8 = .ok (.ireturn, 1) := by decide +kernel
theorem dX9_amongHere_9 : decode cX9_amongHere 9 = .ok (.aload_n 0, 1) := by decide +kernel
theorem dX9_amongHere_10 : decode cX9_amongHere 10 = .ok (.getfield 135, 3) := by decide +kernel
theorem dX9_amongHere_13 : decode cX9_amongHere 13 = .ok (.iconst 2, 1) := by decide +kernel
theorem dX9_amongHere_14 : decode cX9_amongHere 14 = .ok (.if_icmp .eq 11, 3) := by decide +kernel
theorem dX9_amongHere_17 : decode cX9_amongHere 17 = .ok (.aload_n 0, 1) := by decide +kernel
theorem dX9_amongHere_18 : decode cX9_amongHere 18 = .ok (.iconst 1, 1) := by decide +kernel
theorem dX9_amongHere_19 : decode cX9_amongHere 19 = .ok (.invokevirtual 168, 3) := by decide +kernel
theorem dX9_amongHere_22 : decode cX9_amongHere 22 = .ok (.goto 32, 3) := by decide +kernel
theorem dX9_amongHere_25 : decode cX9_amongHere 25 = .ok (.aload_n 0, 1) := by decide +kernel
theorem dX9_amongHere_26 : decode cX9_amongHere 26 = .ok (.getfield 145, 3) := by decide +kernel
theorem dX9_amongHere_29 : decode cX9_amongHere 29 = .ok (.iconst 4, 1) := by decide +kernel
theorem dX9_amongHere_30 : decode cX9_amongHere 30 = .ok (.if_icmp .le 11, 3) := by decide +kernel
theorem dX9_amongHere_33 : decode cX9_amongHere 33 = .ok (.aload_n 0, 1) := by decide +kernel
theorem dX9_amongHere_34 : decode cX9_amongHere 34 = .ok (.iconst 2, 1) := by decide +kernel
theorem dX9_amongHere_35 : decode cX9_amongHere 35 = .ok (.invokevirtual 168, 3) := by decide +kernel
theorem dX9_amongHere_38 : decode cX9_amongHere 38 = .ok (.goto 16, 3) := by decide +kernel
theorem dX9_amongHere_41 : decode cX9_amongHere 41 = .ok (.aload_n 0, 1) := by decide +kernel
theorem dX9_amongHere_42 : decode cX9_amongHere 42 = .ok (.getfield 129, 3) := by decide +kernel
theorem dX9_amongHere_45 : decode cX9_amongHere 45 = .ok (.iload_n 1, 1) := by decide +kernel
theorem dX9_amongHere_46 : decode cX9_amongHere 46 = .ok (.if_icmp .lt 8, 3) := by decide +kernel
theorem dX9_amongHere_49 : decode cX9_amongHere 49 = .ok (.aload_n 0, 1) := by decide +kernel
theorem dX9_amongHere_50 : decode cX9_amongHere 50 = .ok (.iconst 3, 1) := by decide +kernel
theorem dX9_amongHere_51 : decode cX9_amongHere 51 = .ok (.invokevirtual 168, 3) := by decide +kernel
theorem dX9_amongHere_54 : decode cX9_amongHere 54 = .ok (.aload_n 0, 1) := by decide +kernel
theorem dX9_amongHere_55 : decode cX9_amongHere 55 = .ok (.invokevirtual 161, 3) := by decide +kernel
theorem dX9_amongHere_58 : decode cX9_amongHere 58 = .ok (.ireturn, 1) := by decide +kernel
theorem dX9_puts_0 : decode cX9_puts 0 = .ok (.aload_n 0, 1) := by decide +kernel
theorem dX9_puts_1 : decode cX9_puts 1 = .ok (.getfield 56, 3) := by decide +kernel
theorem dX9_puts_4 : decode cX9_puts 4 = .ok (.aload_n 0, 1) := by decide +kernel
theorem dX9_puts_5 : decode cX9_puts 5 = .ok (.getfield 171, 3) := by decide +kernel
theorem dX9_puts_8 : decode cX9_puts 8 = .ok (.iload_n 1, 1) := by decide +kernel
theorem dX9_puts_9 : decode cX9_puts 9 = .ok (.iastore, 1) := by decide +kernel
theorem dX9_puts_10 : decode cX9_puts 10 = .ok (.aload_n 0, 1) := by decide +kernel
theorem dX9_puts_11 : decode cX9_puts 11 = .ok (.dup, 1) := by decide +kernel
theorem dX9_puts_12 : decode cX9_puts 12 = .ok (.getfield 171, 3) := by decide +kernel
theorem dX9_puts_15 : decode cX9_puts 15 = .ok (.iconst 1, 1) := by decide +kernel
theorem dX9_puts_16 : decode cX9_puts 16 = .ok (.iadd, 1) := by decide +kernel
theorem dX9_puts_17 : decode cX9_puts 17 = .ok (.putfield 171, 3) := by decide +kernel
theorem dX9_puts_20 : decode cX9_puts 20 = .ok (.return_, 1) := by decide +kernel
theorem dX9_isOpen_0 : decode cX9_isOpen 0 = .ok (.iload_n 0, 1) := by decide +kernel
theorem dX9_isOpen_1 : decode cX9_isOpen 1 = .ok (.bipush 14, 2) := by decide +kernel
theorem dX9_isOpen_3 : decode cX9_isOpen 3 = .ok (.if_icmp .lt 7, 3) := by decide +kernel
theorem dX9_isOpen_6 : decode cX9_isOpen 6 = .ok (.iconst 1, 1) := by decide +kernel
theorem dX9_isOpen_7 : decode cX9_isOpen 7 = .ok (.goto 4, 3) := by decide +kernel
theorem dX9_isOpen_10 : decode cX9_isOpen 10 = .ok (.iconst 0, 1) := by decide +kernel
theorem dX9_isOpen_11 : decode cX9_isOpen 11 = .ok (.ireturn, 1) := by decide +kernel
theorem dX9_strength_0 : decode cX9_strength 0 = .ok (.iload_n 0, 1) := by decide +kernel
theorem dX9_strength_1 : decode cX9_strength 1 = .ok (.iconst 5, 1) := by decide +kernel
theorem dX9_strength_2 : decode cX9_strength 2 = .ok (.if_icmp .ne 7, 3) := by decide +kernel
theorem dX9_strength_5 : decode cX9_strength 5 = .ok (.iconst 1, 1) := by decide +kernel
theorem dX9_strength_6 : decode cX9_strength 6 = .ok (.goto 55, 3) := by decide +kernel
theorem dX9_strength_9 : decode cX9_strength 9 = .ok (.iload_n 0, 1) := by decide +kernel
theorem dX9_strength_10 : decode cX9_strength 10 = .ok (.iconst 4, 1) := by decide +kernel
theorem dX9_strength_11 : decode cX9_strength 11 = .ok (.if_icmp .ne 7, 3) := by decide +kernel
theorem dX9_strength_14 : decode cX9_strength 14 = .ok (.iconst 2, 1) := by decide +kernel
theorem dX9_strength_15 : decode cX9_strength 15 = .ok (.goto 46, 3) := by decide +kernel
theorem dX9_strength_18 : decode cX9_strength 18 = .ok (.iload_n 0, 1) := by decide +kernel
theorem dX9_strength_19 : decode cX9_strength 19 = .ok (.iconst 3, 1) := by decide +kernel
theorem dX9_strength_20 : decode cX9_strength 20 = .ok (.if_icmp .ne 7, 3) := by decide +kernel
theorem dX9_strength_23 : decode cX9_strength 23 = .ok (.iconst 3, 1) := by decide +kernel
theorem dX9_strength_24 : decode cX9_strength 24 = .ok (.goto 37, 3) := by decide +kernel
theorem dX9_strength_27 : decode cX9_strength 27 = .ok (.iload_n 0, 1) := by decide +kernel
theorem dX9_strength_28 : decode cX9_strength 28 = .ok (.bipush 6, 2) := by decide +kernel
theorem dX9_strength_30 : decode cX9_strength 30 = .ok (.if_icmp .eq 9, 3) := by decide +kernel
theorem dX9_strength_33 : decode cX9_strength 33 = .ok (.iload_n 0, 1) := by decide +kernel
theorem dX9_strength_34 : decode cX9_strength 34 = .ok (.bipush 7, 2) := by decide +kernel
theorem dX9_strength_36 : decode cX9_strength 36 = .ok (.if_icmp .ne 7, 3) := by decide +kernel
theorem dX9_strength_39 : decode cX9_strength 39 = .ok (.iconst 4, 1) := by decide +kernel
theorem dX9_strength_40 : decode cX9_strength 40 = .ok (.goto 21, 3) := by decide +kernel
theorem dX9_strength_43 : decode cX9_strength 43 = .ok (.iload_n 0, 1) := by decide +kernel
theorem dX9_strength_44 : decode cX9_strength 44 = .ok (.bipush 8, 2) := by decide +kernel
theorem dX9_strength_46 : decode cX9_strength 46 = .ok (.if_icmp .eq 9, 3) := by decide +kernel
theorem dX9_strength_49 : decode cX9_strength 49 = .ok (.iload_n 0, 1) := by decide +kernel
theorem dX9_strength_50 : decode cX9_strength 50 = .ok (.bipush 9, 2) := by decide +kernel
theorem dX9_strength_52 : decode cX9_strength 52 = .ok (.if_icmp .ne 7, 3) := by decide +kernel
theorem dX9_strength_55 : decode cX9_strength 55 = .ok (.iconst 5, 1) := by decide +kernel
theorem dX9_strength_56 : decode cX9_strength 56 = .ok (.goto 5, 3) := by decide +kernel
theorem dX9_strength_59 : decode cX9_strength 59 = .ok (.bipush 6, 2) := by decide +kernel
theorem dX9_strength_61 : decode cX9_strength 61 = .ok (.ireturn, 1) := by decide +kernel
theorem dX9_drops_0 : decode cX9_drops 0 = .ok (.aload_n 0, 1) := by decide +kernel
theorem dX9_drops_1 : decode cX9_drops 1 = .ok (.getfield 174, 3) := by decide +kernel
theorem dX9_drops_4 : decode cX9_drops 4 = .ok (.ifCond .le 64, 3) := by decide +kernel
theorem dX9_drops_7 : decode cX9_drops 7 = .ok (.aload_n 0, 1) := by decide +kernel
theorem dX9_drops_8 : decode cX9_drops 8 = .ok (.getfield 59, 3) := by decide +kernel
theorem dX9_drops_11 : decode cX9_drops 11 = .ok (.aload_n 0, 1) := by decide +kernel
theorem dX9_drops_12 : decode cX9_drops 12 = .ok (.getfield 174, 3) := by decide +kernel
theorem dX9_drops_15 : decode cX9_drops 15 = .ok (.iconst 1, 1) := by decide +kernel
theorem dX9_drops_16 : decode cX9_drops 16 = .ok (.isub, 1) := by decide +kernel
theorem dX9_drops_17 : decode cX9_drops 17 = .ok (.iaload, 1) := by decide +kernel
theorem dX9_drops_18 : decode cX9_drops 18 = .ok (.invokestatic 177, 3) := by decide +kernel
theorem dX9_drops_21 : decode cX9_drops 21 = .ok (.ifCond .ne 47, 3) := by decide +kernel
theorem dX9_drops_24 : decode cX9_drops 24 = .ok (.aload_n 0, 1) := by decide +kernel
theorem dX9_drops_25 : decode cX9_drops 25 = .ok (.getfield 59, 3) := by decide +kernel
theorem dX9_drops_28 : decode cX9_drops 28 = .ok (.aload_n 0, 1) := by decide +kernel
theorem dX9_drops_29 : decode cX9_drops 29 = .ok (.getfield 174, 3) := by decide +kernel
theorem dX9_drops_32 : decode cX9_drops 32 = .ok (.iconst 1, 1) := by decide +kernel
theorem dX9_drops_33 : decode cX9_drops 33 = .ok (.isub, 1) := by decide +kernel
theorem dX9_drops_34 : decode cX9_drops 34 = .ok (.iaload, 1) := by decide +kernel
theorem dX9_drops_35 : decode cX9_drops 35 = .ok (.invokestatic 180, 3) := by decide +kernel
theorem dX9_drops_38 : decode cX9_drops 38 = .ok (.iload_n 1, 1) := by decide +kernel
theorem dX9_drops_39 : decode cX9_drops 39 = .ok (.if_icmp .lt 29, 3) := by decide +kernel
theorem dX9_drops_42 : decode cX9_drops 42 = .ok (.aload_n 0, 1) := by decide +kernel
theorem dX9_drops_43 : decode cX9_drops 43 = .ok (.dup, 1) := by decide +kernel
theorem dX9_drops_44 : decode cX9_drops 44 = .ok (.getfield 174, 3) := by decide +kernel
theorem dX9_drops_47 : decode cX9_drops 47 = .ok (.iconst 1, 1) := by decide +kernel
theorem dX9_drops_48 : decode cX9_drops 48 = .ok (.isub, 1) := by decide +kernel
theorem dX9_drops_49 : decode cX9_drops 49 = .ok (.putfield 174, 3) := by decide +kernel
theorem dX9_drops_52 : decode cX9_drops 52 = .ok (.aload_n 0, 1) := by decide +kernel
theorem dX9_drops_53 : decode cX9_drops 53 = .ok (.aload_n 0, 1) := by decide +kernel
theorem dX9_drops_54 : decode cX9_drops 54 = .ok (.getfield 59, 3) := by decide +kernel
theorem dX9_drops_57 : decode cX9_drops 57 = .ok (.aload_n 0, 1) := by decide +kernel
theorem dX9_drops_58 : decode cX9_drops 58 = .ok (.getfield 174, 3) := by decide +kernel
theorem dX9_drops_61 : decode cX9_drops 61 = .ok (.iaload, 1) := by decide +kernel
theorem dX9_drops_62 : decode cX9_drops 62 = .ok (.invokevirtual 183, 3) := by decide +kernel
theorem dX9_drops_65 : decode cX9_drops 65 = .ok (.goto (-65), 3) := by decide +kernel
theorem dX9_drops_68 : decode cX9_drops 68 = .ok (.return_, 1) := by decide +kernel
theorem dX9_waitsFor_0 : decode cX9_waitsFor 0 = .ok (.aload_n 0, 1) := by decide +kernel
theorem dX9_waitsFor_1 : decode cX9_waitsFor 1 = .ok (.getfield 59, 3) := by decide +kernel
theorem dX9_waitsFor_4 : decode cX9_waitsFor 4 = .ok (.aload_n 0, 1) := by decide +kernel
theorem dX9_waitsFor_5 : decode cX9_waitsFor 5 = .ok (.getfield 174, 3) := by decide +kernel
theorem dX9_waitsFor_8 : decode cX9_waitsFor 8 = .ok (.iload_n 1, 1) := by decide +kernel
theorem dX9_waitsFor_9 : decode cX9_waitsFor 9 = .ok (.iastore, 1) := by decide +kernel
theorem dX9_waitsFor_10 : decode cX9_waitsFor 10 = .ok (.aload_n 0, 1) := by decide +kernel
theorem dX9_waitsFor_11 : decode cX9_waitsFor 11 = .ok (.dup, 1) := by decide +kernel
theorem dX9_waitsFor_12 : decode cX9_waitsFor 12 = .ok (.getfield 174, 3) := by decide +kernel
theorem dX9_waitsFor_15 : decode cX9_waitsFor 15 = .ok (.iconst 1, 1) := by decide +kernel
theorem dX9_waitsFor_16 : decode cX9_waitsFor 16 = .ok (.iadd, 1) := by decide +kernel
theorem dX9_waitsFor_17 : decode cX9_waitsFor 17 = .ok (.putfield 174, 3) := by decide +kernel
theorem dX9_waitsFor_20 : decode cX9_waitsFor 20 = .ok (.return_, 1) := by decide +kernel
theorem dX9_part_0 : decode cX9_part 0 = .ok (.aload_n 0, 1) := by decide +kernel
theorem dX9_part_1 : decode cX9_part 1 = .ok (.invokevirtual 161, 3) := by decide +kernel
theorem dX9_part_4 : decode cX9_part 4 = .ok (.ifCond .ne 4, 3) := by decide +kernel
theorem dX9_part_7 : decode cX9_part 7 = .ok (.return_, 1) := by decide +kernel
theorem dX9_part_8 : decode cX9_part 8 = .ok (.aload_n 0, 1) := by decide +kernel
theorem dX9_part_9 : decode cX9_part 9 = .ok (.getfield 135, 3) := by decide +kernel
theorem dX9_part_12 : decode cX9_part 12 = .ok (.iconst 2, 1) := by decide +kernel
theorem dX9_part_13 : decode cX9_part 13 = .ok (.if_icmp .ne 32, 3) := by decide +kernel
theorem dX9_part_16 : decode cX9_part 16 = .ok (.aload_n 0, 1) := by decide +kernel
theorem dX9_part_17 : decode cX9_part 17 = .ok (.getfield 145, 3) := by decide +kernel
theorem dX9_part_20 : decode cX9_part 20 = .ok (.iconst 4, 1) := by decide +kernel
theorem dX9_part_21 : decode cX9_part 21 = .ok (.if_icmp .le 8, 3) := by decide +kernel
theorem dX9_part_24 : decode cX9_part 24 = .ok (.aload_n 0, 1) := by decide +kernel
theorem dX9_part_25 : decode cX9_part 25 = .ok (.iconst 2, 1) := by decide +kernel
theorem dX9_part_26 : decode cX9_part 26 = .ok (.invokevirtual 168, 3) := by decide +kernel
theorem dX9_part_29 : decode cX9_part 29 = .ok (.aload_n 0, 1) := by decide +kernel
theorem dX9_part_30 : decode cX9_part 30 = .ok (.iconst 1, 1) := by decide +kernel
theorem dX9_part_31 : decode cX9_part 31 = .ok (.invokevirtual 183, 3) := by decide +kernel
theorem dX9_part_34 : decode cX9_part 34 = .ok (.aload_n 0, 1) := by decide +kernel
theorem dX9_part_35 : decode cX9_part 35 = .ok (.aload_n 0, 1) := by decide +kernel
theorem dX9_part_36 : decode cX9_part 36 = .ok (.getfield 129, 3) := by decide +kernel
theorem dX9_part_39 : decode cX9_part 39 = .ok (.invokevirtual 183, 3) := by decide +kernel
theorem dX9_part_42 : decode cX9_part 42 = .ok (.goto 55, 3) := by decide +kernel
theorem dX9_part_45 : decode cX9_part 45 = .ok (.aload_n 0, 1) := by decide +kernel
theorem dX9_part_46 : decode cX9_part 46 = .ok (.getfield 135, 3) := by decide +kernel
theorem dX9_part_49 : decode cX9_part 49 = .ok (.iconst 1, 1) := by decide +kernel
theorem dX9_part_50 : decode cX9_part 50 = .ok (.if_icmp .ne 42, 3) := by decide +kernel
theorem dX9_part_53 : decode cX9_part 53 = .ok (.aload_n 0, 1) := by decide +kernel
theorem dX9_part_54 : decode cX9_part 54 = .ok (.invokevirtual 186, 3) := by decide +kernel
theorem dX9_part_57 : decode cX9_part 57 = .ok (.istore_n 1, 1) := by decide +kernel
theorem dX9_part_58 : decode cX9_part 58 = .ok (.iload_n 1, 1) := by decide +kernel
theorem dX9_part_59 : decode cX9_part 59 = .ok (.aload_n 0, 1) := by decide +kernel
theorem dX9_part_60 : decode cX9_part 60 = .ok (.getfield 190, 3) := by decide +kernel
theorem dX9_part_63 : decode cX9_part 63 = .ok (.if_icmp .lt 11, 3) := by decide +kernel
theorem dX9_part_66 : decode cX9_part 66 = .ok (.iload_n 1, 1) := by decide +kernel
theorem dX9_part_67 : decode cX9_part 67 = .ok (.aload_n 0, 1) := by decide +kernel
theorem dX9_part_68 : decode cX9_part 68 = .ok (.getfield 193, 3) := by decide +kernel
theorem dX9_part_71 : decode cX9_part 71 = .ok (.if_icmp .le 8, 3) := by decide +kernel
theorem dX9_part_74 : decode cX9_part 74 = .ok (.aload_n 0, 1) := by decide +kernel
theorem dX9_part_75 : decode cX9_part 75 = .ok (.iconst 3, 1) := by decide +kernel
theorem dX9_part_76 : decode cX9_part 76 = .ok (.invokevirtual 168, 3) := by decide +kernel
theorem dX9_part_79 : decode cX9_part 79 = .ok (.aload_n 0, 1) := by decide +kernel
theorem dX9_part_80 : decode cX9_part 80 = .ok (.iconst 2, 1) := by decide +kernel
theorem dX9_part_81 : decode cX9_part 81 = .ok (.invokevirtual 183, 3) := by decide +kernel
theorem dX9_part_84 : decode cX9_part 84 = .ok (.aload_n 0, 1) := by decide +kernel
theorem dX9_part_85 : decode cX9_part 85 = .ok (.iload_n 1, 1) := by decide +kernel
theorem dX9_part_86 : decode cX9_part 86 = .ok (.invokevirtual 183, 3) := by decide +kernel
theorem dX9_part_89 : decode cX9_part 89 = .ok (.goto 8, 3) := by decide +kernel
theorem dX9_part_92 : decode cX9_part 92 = .ok (.aload_n 0, 1) := by decide +kernel
theorem dX9_part_93 : decode cX9_part 93 = .ok (.iconst 1, 1) := by decide +kernel
theorem dX9_part_94 : decode cX9_part 94 = .ok (.invokevirtual 168, 3) := by decide +kernel
theorem dX9_part_97 : decode cX9_part 97 = .ok (.aload_n 0, 1) := by decide +kernel
theorem dX9_part_98 : decode cX9_part 98 = .ok (.invokevirtual 161, 3) := by decide +kernel
theorem dX9_part_101 : decode cX9_part 101 = .ok (.ifCond .eq 7, 3) := by decide +kernel
theorem dX9_part_104 : decode cX9_part 104 = .ok (.aload_n 0, 1) := by decide +kernel
theorem dX9_part_105 : decode cX9_part 105 = .ok (.invokevirtual 165, 3) := by decide +kernel
theorem dX9_part_108 : decode cX9_part 108 = .ok (.return_, 1) := by decide +kernel
theorem dX9_deeper_0 : decode cX9_deeper 0 = .ok (.aload_n 0, 1) := by decide +kernel
theorem dX9_deeper_1 : decode cX9_deeper 1 = .ok (.getfield 196, 3) := by decide +kernel
theorem dX9_deeper_4 : decode cX9_deeper 4 = .ok (.bipush 6, 2) := by decide +kernel
theorem dX9_deeper_6 : decode cX9_deeper 6 = .ok (.if_icmp .ge 24, 3) := by decide +kernel
theorem dX9_deeper_9 : decode cX9_deeper 9 = .ok (.aload_n 0, 1) := by decide +kernel
theorem dX9_deeper_10 : decode cX9_deeper 10 = .ok (.dup, 1) := by decide +kernel
theorem dX9_deeper_11 : decode cX9_deeper 11 = .ok (.getfield 196, 3) := by decide +kernel
theorem dX9_deeper_14 : decode cX9_deeper 14 = .ok (.iconst 1, 1) := by decide +kernel
theorem dX9_deeper_15 : decode cX9_deeper 15 = .ok (.iadd, 1) := by decide +kernel
theorem dX9_deeper_16 : decode cX9_deeper 16 = .ok (.putfield 196, 3) := by decide +kernel
theorem dX9_deeper_19 : decode cX9_deeper 19 = .ok (.aload_n 0, 1) := by decide +kernel
theorem dX9_deeper_20 : decode cX9_deeper 20 = .ok (.getfield 62, 3) := by decide +kernel
theorem dX9_deeper_23 : decode cX9_deeper 23 = .ok (.aload_n 0, 1) := by decide +kernel
theorem dX9_deeper_24 : decode cX9_deeper 24 = .ok (.getfield 196, 3) := by decide +kernel
theorem dX9_deeper_27 : decode cX9_deeper 27 = .ok (.iconst 0, 1) := by decide +kernel
theorem dX9_deeper_28 : decode cX9_deeper 28 = .ok (.bastore, 1) := by decide +kernel
theorem dX9_deeper_29 : decode cX9_deeper 29 = .ok (.return_, 1) := by decide +kernel
theorem dX9_deeper_30 : decode cX9_deeper 30 = .ok (.aload_n 0, 1) := by decide +kernel
theorem dX9_deeper_31 : decode cX9_deeper 31 = .ok (.aload_n 0, 1) := by decide +kernel
theorem dX9_deeper_32 : decode cX9_deeper 32 = .ok (.getfield 135, 3) := by decide +kernel
theorem dX9_deeper_35 : decode cX9_deeper 35 = .ok (.iconst 2, 1) := by decide +kernel
theorem dX9_deeper_36 : decode cX9_deeper 36 = .ok (.if_icmp .eq 20, 3) := by decide +kernel
theorem dX9_deeper_39 : decode cX9_deeper 39 = .ok (.aload_n 0, 1) := by decide +kernel
theorem dX9_deeper_40 : decode cX9_deeper 40 = .ok (.getfield 135, 3) := by decide +kernel
theorem dX9_deeper_43 : decode cX9_deeper 43 = .ok (.iconst 1, 1) := by decide +kernel
theorem dX9_deeper_44 : decode cX9_deeper 44 = .ok (.if_icmp .eq 12, 3) := by decide +kernel
theorem dX9_deeper_47 : decode cX9_deeper 47 = .ok (.aload_n 0, 1) := by decide +kernel
theorem dX9_deeper_48 : decode cX9_deeper 48 = .ok (.bipush 40, 2) := by decide +kernel
theorem dX9_deeper_50 : decode cX9_deeper 50 = .ok (.invokevirtual 199, 3) := by decide +kernel
theorem dX9_deeper_53 : decode cX9_deeper 53 = .ok (.ifCond .eq 7, 3) := by decide +kernel
theorem dX9_deeper_56 : decode cX9_deeper 56 = .ok (.iconst 2, 1) := by decide +kernel
theorem dX9_deeper_57 : decode cX9_deeper 57 = .ok (.goto 4, 3) := by decide +kernel
theorem dX9_deeper_60 : decode cX9_deeper 60 = .ok (.iconst 1, 1) := by decide +kernel
theorem dX9_deeper_61 : decode cX9_deeper 61 = .ok (.invokevirtual 168, 3) := by decide +kernel
theorem dX9_deeper_64 : decode cX9_deeper 64 = .ok (.return_, 1) := by decide +kernel
theorem dX9_operand_0 : decode cX9_operand 0 = .ok (.iload_n 1, 1) := by decide +kernel
theorem dX9_operand_1 : decode cX9_operand 1 = .ok (.istore_n 2, 1) := by decide +kernel
theorem dX9_operand_2 : decode cX9_operand 2 = .ok (.iconst 1, 1) := by decide +kernel
theorem dX9_operand_3 : decode cX9_operand 3 = .ok (.istore_n 3, 1) := by decide +kernel
theorem dX9_operand_4 : decode cX9_operand 4 = .ok (.iload_n 3, 1) := by decide +kernel
theorem dX9_operand_5 : decode cX9_operand 5 = .ok (.ifCond .eq 115, 3) := by decide +kernel
theorem dX9_operand_8 : decode cX9_operand 8 = .ok (.aload_n 0, 1) := by decide +kernel
theorem dX9_operand_9 : decode cX9_operand 9 = .ok (.invokevirtual 161, 3) := by decide +kernel
theorem dX9_operand_12 : decode cX9_operand 12 = .ok (.ifCond .eq 108, 3) := by decide +kernel
theorem dX9_operand_15 : decode cX9_operand 15 = .ok (.iconst 0, 1) := by decide +kernel
theorem dX9_operand_16 : decode cX9_operand 16 = .ok (.istore 4, 2) := by decide +kernel
theorem dX9_operand_18 : decode cX9_operand 18 = .ok (.aload_n 0, 1) := by decide +kernel
theorem dX9_operand_19 : decode cX9_operand 19 = .ok (.invokevirtual 161, 3) := by decide +kernel
theorem dX9_operand_22 : decode cX9_operand 22 = .ok (.ifCond .eq 53, 3) := by decide +kernel
theorem dX9_operand_25 : decode cX9_operand 25 = .ok (.iload_n 2, 1) := by decide +kernel
theorem dX9_operand_26 : decode cX9_operand 26 = .ok (.ifCond .eq 49, 3) := by decide +kernel
theorem dX9_operand_29 : decode cX9_operand 29 = .ok (.aload_n 0, 1) := by decide +kernel
theorem dX9_operand_30 : decode cX9_operand 30 = .ok (.invokevirtual 186, 3) := by decide +kernel
theorem dX9_operand_33 : decode cX9_operand 33 = .ok (.bipush 16, 2) := by decide +kernel
theorem dX9_operand_35 : decode cX9_operand 35 = .ok (.if_icmp .ne 40, 3) := by decide +kernel
theorem dX9_operand_38 : decode cX9_operand 38 = .ok (.iload 4, 2) := by decide +kernel
theorem dX9_operand_40 : decode cX9_operand 40 = .ok (.bipush 6, 2) := by decide +kernel
theorem dX9_operand_42 : decode cX9_operand 42 = .ok (.if_icmp .ne 8, 3) := by decide +kernel
theorem dX9_operand_45 : decode cX9_operand 45 = .ok (.aload_n 0, 1) := by decide +kernel
theorem dX9_operand_46 : decode cX9_operand 46 = .ok (.iconst 2, 1) := by decide +kernel
theorem dX9_operand_47 : decode cX9_operand 47 = .ok (.invokevirtual 168, 3) := by decide +kernel
theorem dX9_operand_50 : decode cX9_operand 50 = .ok (.iinc 4 1, 3) := by decide +kernel
theorem dX9_operand_53 : decode cX9_operand 53 = .ok (.aload_n 0, 1) := by decide +kernel
theorem dX9_operand_54 : decode cX9_operand 54 = .ok (.invokevirtual 161, 3) := by decide +kernel
theorem dX9_operand_57 : decode cX9_operand 57 = .ok (.ifCond .ne 6, 3) := by decide +kernel
theorem dX9_operand_60 : decode cX9_operand 60 = .ok (.goto (-42), 3) := by decide +kernel
theorem dX9_operand_63 : decode cX9_operand 63 = .ok (.aload_n 0, 1) := by decide +kernel
theorem dX9_operand_64 : decode cX9_operand 64 = .ok (.iconst 3, 1) := by decide +kernel
theorem dX9_operand_65 : decode cX9_operand 65 = .ok (.invokevirtual 202, 3) := by decide +kernel
theorem dX9_operand_68 : decode cX9_operand 68 = .ok (.aload_n 0, 1) := by decide +kernel
theorem dX9_operand_69 : decode cX9_operand 69 = .ok (.invokevirtual 165, 3) := by decide +kernel
theorem dX9_operand_72 : decode cX9_operand 72 = .ok (.goto (-54), 3) := by decide +kernel
theorem dX9_operand_75 : decode cX9_operand 75 = .ok (.aload_n 0, 1) := by decide +kernel
theorem dX9_operand_76 : decode cX9_operand 76 = .ok (.invokevirtual 161, 3) := by decide +kernel
theorem dX9_operand_79 : decode cX9_operand 79 = .ok (.ifCond .eq 16, 3) := by decide +kernel
theorem dX9_operand_82 : decode cX9_operand 82 = .ok (.aload_n 0, 1) := by decide +kernel
theorem dX9_operand_83 : decode cX9_operand 83 = .ok (.bipush 40, 2) := by decide +kernel
theorem dX9_operand_85 : decode cX9_operand 85 = .ok (.invokevirtual 199, 3) := by decide +kernel
theorem dX9_operand_88 : decode cX9_operand 88 = .ok (.ifCond .eq 7, 3) := by decide +kernel
theorem dX9_operand_91 : decode cX9_operand 91 = .ok (.iconst 1, 1) := by decide +kernel
theorem dX9_operand_92 : decode cX9_operand 92 = .ok (.goto 4, 3) := by decide +kernel
theorem dX9_operand_95 : decode cX9_operand 95 = .ok (.iconst 0, 1) := by decide +kernel
theorem dX9_operand_96 : decode cX9_operand 96 = .ok (.istore_n 3, 1) := by decide +kernel
theorem dX9_operand_97 : decode cX9_operand 97 = .ok (.iload_n 3, 1) := by decide +kernel
theorem dX9_operand_98 : decode cX9_operand 98 = .ok (.ifCond .eq 19, 3) := by decide +kernel
theorem dX9_operand_101 : decode cX9_operand 101 = .ok (.aload_n 0, 1) := by decide +kernel
theorem dX9_operand_102 : decode cX9_operand 102 = .ok (.bipush 14, 2) := by decide +kernel
theorem dX9_operand_104 : decode cX9_operand 104 = .ok (.invokevirtual 202, 3) := by decide +kernel
theorem dX9_operand_107 : decode cX9_operand 107 = .ok (.aload_n 0, 1) := by decide +kernel
theorem dX9_operand_108 : decode cX9_operand 108 = .ok (.invokevirtual 165, 3) := by decide +kernel
theorem dX9_operand_111 : decode cX9_operand 111 = .ok (.aload_n 0, 1) := by decide +kernel
theorem dX9_operand_112 : decode cX9_operand 112 = .ok (.invokevirtual 205, 3) := by decide +kernel
theorem dX9_operand_115 : decode cX9_operand 115 = .ok (.iconst 1, 1) := by decide +kernel
theorem dX9_operand_116 : decode cX9_operand 116 = .ok (.istore_n 2, 1) := by decide +kernel
theorem dX9_operand_117 : decode cX9_operand 117 = .ok (.goto (-113), 3) := by decide +kernel
theorem dX9_operand_120 : decode cX9_operand 120 = .ok (.aload_n 0, 1) := by decide +kernel
theorem dX9_operand_121 : decode cX9_operand 121 = .ok (.invokevirtual 208, 3) := by decide +kernel
theorem dX9_operand_124 : decode cX9_operand 124 = .ok (.return_, 1) := by decide +kernel
theorem dX9_isOpened_0 : decode cX9_isOpened 0 = .ok (.aload_n 0, 1) := by decide +kernel
theorem dX9_isOpened_1 : decode cX9_isOpened 1 = .ok (.getfield 174, 3) := by decide +kernel
theorem dX9_isOpened_4 : decode cX9_isOpened 4 = .ok (.iconst 1, 1) := by decide +kernel
theorem dX9_isOpened_5 : decode cX9_isOpened 5 = .ok (.isub, 1) := by decide +kernel
theorem dX9_isOpened_6 : decode cX9_isOpened 6 = .ok (.istore_n 1, 1) := by decide +kernel
theorem dX9_isOpened_7 : decode cX9_isOpened 7 = .ok (.iload_n 1, 1) := by decide +kernel
theorem dX9_isOpened_8 : decode cX9_isOpened 8 = .ok (.ifCond .lt 21, 3) := by decide +kernel
theorem dX9_isOpened_11 : decode cX9_isOpened 11 = .ok (.aload_n 0, 1) := by decide +kernel
theorem dX9_isOpened_12 : decode cX9_isOpened 12 = .ok (.getfield 59, 3) := by decide +kernel
theorem dX9_isOpened_15 : decode cX9_isOpened 15 = .ok (.iload_n 1, 1) := by decide +kernel
theorem dX9_isOpened_16 : decode cX9_isOpened 16 = .ok (.iaload, 1) := by decide +kernel
theorem dX9_isOpened_17 : decode cX9_isOpened 17 = .ok (.invokestatic 177, 3) := by decide +kernel
theorem dX9_isOpened_20 : decode cX9_isOpened 20 = .ok (.ifCond .ne 9, 3) := by decide +kernel
theorem dX9_isOpened_23 : decode cX9_isOpened 23 = .ok (.iinc 1 (-1), 3) := by decide +kernel
theorem dX9_isOpened_26 : decode cX9_isOpened 26 = .ok (.goto (-19), 3) := by decide +kernel
theorem dX9_isOpened_29 : decode cX9_isOpened 29 = .ok (.iload_n 1, 1) := by decide +kernel
theorem dX9_isOpened_30 : decode cX9_isOpened 30 = .ok (.ifCond .lt 7, 3) := by decide +kernel
theorem dX9_isOpened_33 : decode cX9_isOpened 33 = .ok (.iconst 1, 1) := by decide +kernel
theorem dX9_isOpened_34 : decode cX9_isOpened 34 = .ok (.goto 4, 3) := by decide +kernel
theorem dX9_isOpened_37 : decode cX9_isOpened 37 = .ok (.iconst 0, 1) := by decide +kernel
theorem dX9_isOpened_38 : decode cX9_isOpened 38 = .ok (.ireturn, 1) := by decide +kernel
theorem dX9_closes_0 : decode cX9_closes 0 = .ok (.aload_n 0, 1) := by decide +kernel
theorem dX9_closes_1 : decode cX9_closes 1 = .ok (.iconst 0, 1) := by decide +kernel
theorem dX9_closes_2 : decode cX9_closes 2 = .ok (.invokevirtual 211, 3) := by decide +kernel
theorem dX9_closes_5 : decode cX9_closes 5 = .ok (.aload_n 0, 1) := by decide +kernel
theorem dX9_closes_6 : decode cX9_closes 6 = .ok (.dup, 1) := by decide +kernel
theorem dX9_closes_7 : decode cX9_closes 7 = .ok (.getfield 174, 3) := by decide +kernel
theorem dX9_closes_10 : decode cX9_closes 10 = .ok (.iconst 1, 1) := by decide +kernel
theorem dX9_closes_11 : decode cX9_closes 11 = .ok (.isub, 1) := by decide +kernel
theorem dX9_closes_12 : decode cX9_closes 12 = .ok (.putfield 174, 3) := by decide +kernel
theorem dX9_closes_15 : decode cX9_closes 15 = .ok (.aload_n 0, 1) := by decide +kernel
theorem dX9_closes_16 : decode cX9_closes 16 = .ok (.dup, 1) := by decide +kernel
theorem dX9_closes_17 : decode cX9_closes 17 = .ok (.getfield 196, 3) := by decide +kernel
theorem dX9_closes_20 : decode cX9_closes 20 = .ok (.iconst 1, 1) := by decide +kernel
theorem dX9_closes_21 : decode cX9_closes 21 = .ok (.isub, 1) := by decide +kernel
theorem dX9_closes_22 : decode cX9_closes 22 = .ok (.putfield 196, 3) := by decide +kernel
theorem dX9_closes_25 : decode cX9_closes 25 = .ok (.aload_n 0, 1) := by decide +kernel
theorem dX9_closes_26 : decode cX9_closes 26 = .ok (.invokevirtual 165, 3) := by decide +kernel
theorem dX9_closes_29 : decode cX9_closes 29 = .ok (.return_, 1) := by decide +kernel
theorem dX9_expression_0 : decode cX9_expression 0 = .ok (.aload_n 0, 1) := by decide +kernel
theorem dX9_expression_1 : decode cX9_expression 1 = .ok (.invokevirtual 161, 3) := by decide +kernel
theorem dX9_expression_4 : decode cX9_expression 4 = .ok (.ifCond .ne 4, 3) := by decide +kernel
theorem dX9_expression_7 : decode cX9_expression 7 = .ok (.return_, 1) := by decide +kernel
theorem dX9_expression_8 : decode cX9_expression 8 = .ok (.aload_n 0, 1) := by decide +kernel
theorem dX9_expression_9 : decode cX9_expression 9 = .ok (.iload_n 1, 1) := by decide +kernel
theorem dX9_expression_10 : decode cX9_expression 10 = .ok (.putfield 190, 3) := by decide +kernel
theorem dX9_expression_13 : decode cX9_expression 13 = .ok (.aload_n 0, 1) := by decide +kernel
theorem dX9_expression_14 : decode cX9_expression 14 = .ok (.iload_n 2, 1) := by decide +kernel
theorem dX9_expression_15 : decode cX9_expression 15 = .ok (.putfield 193, 3) := by decide +kernel
theorem dX9_expression_18 : decode cX9_expression 18 = .ok (.aload_n 0, 1) := by decide +kernel
theorem dX9_expression_19 : decode cX9_expression 19 = .ok (.iconst 0, 1) := by decide +kernel
theorem dX9_expression_20 : decode cX9_expression 20 = .ok (.putfield 174, 3) := by decide +kernel
theorem dX9_expression_23 : decode cX9_expression 23 = .ok (.aload_n 0, 1) := by decide +kernel
theorem dX9_expression_24 : decode cX9_expression 24 = .ok (.iconst 0, 1) := by decide +kernel
theorem dX9_expression_25 : decode cX9_expression 25 = .ok (.putfield 196, 3) := by decide +kernel
theorem dX9_expression_28 : decode cX9_expression 28 = .ok (.aload_n 0, 1) := by decide +kernel
theorem dX9_expression_29 : decode cX9_expression 29 = .ok (.invokevirtual 205, 3) := by decide +kernel
theorem dX9_expression_32 : decode cX9_expression 32 = .ok (.aload_n 0, 1) := by decide +kernel
theorem dX9_expression_33 : decode cX9_expression 33 = .ok (.iconst 1, 1) := by decide +kernel
theorem dX9_expression_34 : decode cX9_expression 34 = .ok (.invokevirtual 214, 3) := by decide +kernel
theorem dX9_expression_37 : decode cX9_expression 37 = .ok (.iconst 1, 1) := by decide +kernel
theorem dX9_expression_38 : decode cX9_expression 38 = .ok (.istore_n 3, 1) := by decide +kernel
theorem dX9_expression_39 : decode cX9_expression 39 = .ok (.iload_n 3, 1) := by decide +kernel
theorem dX9_expression_40 : decode cX9_expression 40 = .ok (.ifCond .eq 300, 3) := by decide +kernel
theorem dX9_expression_43 : decode cX9_expression 43 = .ok (.aload_n 0, 1) := by decide +kernel
theorem dX9_expression_44 : decode cX9_expression 44 = .ok (.invokevirtual 161, 3) := by decide +kernel
theorem dX9_expression_47 : decode cX9_expression 47 = .ok (.ifCond .eq 293, 3) := by decide +kernel
theorem dX9_expression_50 : decode cX9_expression 50 = .ok (.aload_n 0, 1) := by decide +kernel
theorem dX9_expression_51 : decode cX9_expression 51 = .ok (.invokevirtual 186, 3) := by decide +kernel
theorem dX9_expression_54 : decode cX9_expression 54 = .ok (.istore 4, 2) := by decide +kernel
theorem dX9_expression_56 : decode cX9_expression 56 = .ok (.iload 4, 2) := by decide +kernel
theorem dX9_expression_58 : decode cX9_expression 58 = .ok (.bipush 14, 2) := by decide +kernel
theorem dX9_expression_60 : decode cX9_expression 60 = .ok (.if_icmp .eq 10, 3) := by decide +kernel
theorem dX9_expression_63 : decode cX9_expression 63 = .ok (.iload 4, 2) := by decide +kernel
theorem dX9_expression_65 : decode cX9_expression 65 = .ok (.bipush 15, 2) := by decide +kernel
theorem dX9_expression_67 : decode cX9_expression 67 = .ok (.if_icmp .ne 57, 3) := by decide +kernel
theorem dX9_expression_70 : decode cX9_expression 70 = .ok (.aload_n 0, 1) := by decide +kernel
theorem dX9_expression_71 : decode cX9_expression 71 = .ok (.iload 4, 2) := by decide +kernel
theorem dX9_expression_73 : decode cX9_expression 73 = .ok (.bipush 14, 2) := by decide +kernel
theorem dX9_expression_75 : decode cX9_expression 75 = .ok (.if_icmp .ne 7, 3) := by decide +kernel
theorem dX9_expression_78 : decode cX9_expression 78 = .ok (.iconst 2, 1) := by decide +kernel
theorem dX9_expression_79 : decode cX9_expression 79 = .ok (.goto 4, 3) := by decide +kernel
theorem dX9_expression_82 : decode cX9_expression 82 = .ok (.iconst 1, 1) := by decide +kernel
theorem dX9_expression_83 : decode cX9_expression 83 = .ok (.invokevirtual 211, 3) := by decide +kernel
theorem dX9_expression_86 : decode cX9_expression 86 = .ok (.aload_n 0, 1) := by decide +kernel
theorem dX9_expression_87 : decode cX9_expression 87 = .ok (.iload 4, 2) := by decide +kernel
theorem dX9_expression_89 : decode cX9_expression 89 = .ok (.bipush 14, 2) := by decide +kernel
theorem dX9_expression_91 : decode cX9_expression 91 = .ok (.if_icmp .ne 7, 3) := by decide +kernel
theorem dX9_expression_94 : decode cX9_expression 94 = .ok (.iconst 4, 1) := by decide +kernel
theorem dX9_expression_95 : decode cX9_expression 95 = .ok (.goto 4, 3) := by decide +kernel
theorem dX9_expression_98 : decode cX9_expression 98 = .ok (.iconst 5, 1) := by decide +kernel
theorem dX9_expression_99 : decode cX9_expression 99 = .ok (.invokevirtual 202, 3) := by decide +kernel
theorem dX9_expression_102 : decode cX9_expression 102 = .ok (.aload_n 0, 1) := by decide +kernel
theorem dX9_expression_103 : decode cX9_expression 103 = .ok (.getfield 62, 3) := by decide +kernel
theorem dX9_expression_106 : decode cX9_expression 106 = .ok (.aload_n 0, 1) := by decide +kernel
theorem dX9_expression_107 : decode cX9_expression 107 = .ok (.getfield 196, 3) := by decide +kernel
theorem dX9_expression_110 : decode cX9_expression 110 = .ok (.iconst 0, 1) := by decide +kernel
theorem dX9_expression_111 : decode cX9_expression 111 = .ok (.bastore, 1) := by decide +kernel
theorem dX9_expression_112 : decode cX9_expression 112 = .ok (.aload_n 0, 1) := by decide +kernel
theorem dX9_expression_113 : decode cX9_expression 113 = .ok (.invokevirtual 165, 3) := by decide +kernel
theorem dX9_expression_116 : decode cX9_expression 116 = .ok (.aload_n 0, 1) := by decide +kernel
theorem dX9_expression_117 : decode cX9_expression 117 = .ok (.iconst 1, 1) := by decide +kernel
theorem dX9_expression_118 : decode cX9_expression 118 = .ok (.invokevirtual 214, 3) := by decide +kernel
theorem dX9_expression_121 : decode cX9_expression 121 = .ok (.goto 216, 3) := by decide +kernel
theorem dX9_expression_124 : decode cX9_expression 124 = .ok (.aload_n 0, 1) := by decide +kernel
theorem dX9_expression_125 : decode cX9_expression 125 = .ok (.bipush 60, 2) := by decide +kernel
theorem dX9_expression_127 : decode cX9_expression 127 = .ok (.invokevirtual 199, 3) := by decide +kernel
theorem dX9_expression_130 : decode cX9_expression 130 = .ok (.ifCond .ne 12, 3) := by decide +kernel
theorem dX9_expression_133 : decode cX9_expression 133 = .ok (.aload_n 0, 1) := by decide +kernel
theorem dX9_expression_134 : decode cX9_expression 134 = .ok (.bipush 61, 2) := by decide +kernel
theorem dX9_expression_136 : decode cX9_expression 136 = .ok (.invokevirtual 199, 3) := by decide +kernel
theorem dX9_expression_139 : decode cX9_expression 139 = .ok (.ifCond .eq 62, 3) := by decide +kernel
theorem dX9_expression_142 : decode cX9_expression 142 = .ok (.aload_n 0, 1) := by decide +kernel
theorem dX9_expression_143 : decode cX9_expression 143 = .ok (.getfield 62, 3) := by decide +kernel
theorem dX9_expression_146 : decode cX9_expression 146 = .ok (.aload_n 0, 1) := by decide +kernel
theorem dX9_expression_147 : decode cX9_expression 147 = .ok (.getfield 196, 3) := by decide +kernel
theorem dX9_expression_150 : decode cX9_expression 150 = .ok (.baload, 1) := by decide +kernel
theorem dX9_expression_151 : decode cX9_expression 151 = .ok (.ifCond .ne 50, 3) := by decide +kernel
theorem dX9_expression_154 : decode cX9_expression 154 = .ok (.aload_n 0, 1) := by decide +kernel
theorem dX9_expression_155 : decode cX9_expression 155 = .ok (.iconst 4, 1) := by decide +kernel
theorem dX9_expression_156 : decode cX9_expression 156 = .ok (.invokevirtual 211, 3) := by decide +kernel
theorem dX9_expression_159 : decode cX9_expression 159 = .ok (.aload_n 0, 1) := by decide +kernel
theorem dX9_expression_160 : decode cX9_expression 160 = .ok (.aload_n 0, 1) := by decide +kernel
theorem dX9_expression_161 : decode cX9_expression 161 = .ok (.bipush 60, 2) := by decide +kernel
theorem dX9_expression_163 : decode cX9_expression 163 = .ok (.invokevirtual 199, 3) := by decide +kernel
theorem dX9_expression_166 : decode cX9_expression 166 = .ok (.ifCond .eq 8, 3) := by decide +kernel
theorem dX9_expression_169 : decode cX9_expression 169 = .ok (.bipush 6, 2) := by decide +kernel
theorem dX9_expression_171 : decode cX9_expression 171 = .ok (.goto 5, 3) := by decide +kernel
theorem dX9_expression_174 : decode cX9_expression 174 = .ok (.bipush 7, 2) := by decide +kernel
theorem dX9_expression_176 : decode cX9_expression 176 = .ok (.invokevirtual 202, 3) := by decide +kernel
theorem dX9_expression_179 : decode cX9_expression 179 = .ok (.aload_n 0, 1) := by decide +kernel
theorem dX9_expression_180 : decode cX9_expression 180 = .ok (.getfield 62, 3) := by decide +kernel
theorem dX9_expression_183 : decode cX9_expression 183 = .ok (.aload_n 0, 1) := by decide +kernel
theorem dX9_expression_184 : decode cX9_expression 184 = .ok (.getfield 196, 3) := by decide +kernel
theorem dX9_expression_187 : decode cX9_expression 187 = .ok (.iconst 1, 1) := by decide +kernel
theorem dX9_expression_188 : decode cX9_expression 188 = .ok (.bastore, 1) := by decide +kernel
theorem dX9_expression_189 : decode cX9_expression 189 = .ok (.aload_n 0, 1) := by decide +kernel
theorem dX9_expression_190 : decode cX9_expression 190 = .ok (.invokevirtual 165, 3) := by decide +kernel
theorem dX9_expression_193 : decode cX9_expression 193 = .ok (.aload_n 0, 1) := by decide +kernel
theorem dX9_expression_194 : decode cX9_expression 194 = .ok (.iconst 0, 1) := by decide +kernel
theorem dX9_expression_195 : decode cX9_expression 195 = .ok (.invokevirtual 214, 3) := by decide +kernel
theorem dX9_expression_198 : decode cX9_expression 198 = .ok (.goto 139, 3) := by decide +kernel
theorem dX9_expression_201 : decode cX9_expression 201 = .ok (.aload_n 0, 1) := by decide +kernel
theorem dX9_expression_202 : decode cX9_expression 202 = .ok (.bipush 43, 2) := by decide +kernel
theorem dX9_expression_204 : decode cX9_expression 204 = .ok (.invokevirtual 199, 3) := by decide +kernel
theorem dX9_expression_207 : decode cX9_expression 207 = .ok (.ifCond .ne 12, 3) := by decide +kernel
theorem dX9_expression_210 : decode cX9_expression 210 = .ok (.aload_n 0, 1) := by decide +kernel
theorem dX9_expression_211 : decode cX9_expression 211 = .ok (.bipush 45, 2) := by decide +kernel
theorem dX9_expression_213 : decode cX9_expression 213 = .ok (.invokevirtual 199, 3) := by decide +kernel
theorem dX9_expression_216 : decode cX9_expression 216 = .ok (.ifCond .eq 40, 3) := by decide +kernel
theorem dX9_expression_219 : decode cX9_expression 219 = .ok (.aload_n 0, 1) := by decide +kernel
theorem dX9_expression_220 : decode cX9_expression 220 = .ok (.iconst 5, 1) := by decide +kernel
theorem dX9_expression_221 : decode cX9_expression 221 = .ok (.invokevirtual 211, 3) := by decide +kernel
theorem dX9_expression_224 : decode cX9_expression 224 = .ok (.aload_n 0, 1) := by decide +kernel
theorem dX9_expression_225 : decode cX9_expression 225 = .ok (.aload_n 0, 1) := by decide +kernel
theorem dX9_expression_226 : decode cX9_expression 226 = .ok (.bipush 43, 2) := by decide +kernel
theorem dX9_expression_228 : decode cX9_expression 228 = .ok (.invokevirtual 199, 3) := by decide +kernel
theorem dX9_expression_231 : decode cX9_expression 231 = .ok (.ifCond .eq 8, 3) := by decide +kernel
theorem dX9_expression_234 : decode cX9_expression 234 = .ok (.bipush 8, 2) := by decide +kernel
theorem dX9_expression_236 : decode cX9_expression 236 = .ok (.goto 5, 3) := by decide +kernel
theorem dX9_expression_239 : decode cX9_expression 239 = .ok (.bipush 9, 2) := by decide +kernel
theorem dX9_expression_241 : decode cX9_expression 241 = .ok (.invokevirtual 202, 3) := by decide +kernel
theorem dX9_expression_244 : decode cX9_expression 244 = .ok (.aload_n 0, 1) := by decide +kernel
theorem dX9_expression_245 : decode cX9_expression 245 = .ok (.invokevirtual 165, 3) := by decide +kernel
theorem dX9_expression_248 : decode cX9_expression 248 = .ok (.aload_n 0, 1) := by decide +kernel
theorem dX9_expression_249 : decode cX9_expression 249 = .ok (.iconst 0, 1) := by decide +kernel
theorem dX9_expression_250 : decode cX9_expression 250 = .ok (.invokevirtual 214, 3) := by decide +kernel
theorem dX9_expression_253 : decode cX9_expression 253 = .ok (.goto 84, 3) := by decide +kernel
theorem dX9_expression_256 : decode cX9_expression 256 = .ok (.aload_n 0, 1) := by decide +kernel
theorem dX9_expression_257 : decode cX9_expression 257 = .ok (.bipush 42, 2) := by decide +kernel
theorem dX9_expression_259 : decode cX9_expression 259 = .ok (.invokevirtual 199, 3) := by decide +kernel
theorem dX9_expression_262 : decode cX9_expression 262 = .ok (.ifCond .ne 12, 3) := by decide +kernel
theorem dX9_expression_265 : decode cX9_expression 265 = .ok (.aload_n 0, 1) := by decide +kernel
theorem dX9_expression_266 : decode cX9_expression 266 = .ok (.bipush 47, 2) := by decide +kernel
theorem dX9_expression_268 : decode cX9_expression 268 = .ok (.invokevirtual 199, 3) := by decide +kernel
theorem dX9_expression_271 : decode cX9_expression 271 = .ok (.ifCond .eq 41, 3) := by decide +kernel
theorem dX9_expression_274 : decode cX9_expression 274 = .ok (.aload_n 0, 1) := by decide +kernel
theorem dX9_expression_275 : decode cX9_expression 275 = .ok (.bipush 6, 2) := by decide +kernel
theorem dX9_expression_277 : decode cX9_expression 277 = .ok (.invokevirtual 211, 3) := by decide +kernel
theorem dX9_expression_280 : decode cX9_expression 280 = .ok (.aload_n 0, 1) := by decide +kernel
theorem dX9_expression_281 : decode cX9_expression 281 = .ok (.aload_n 0, 1) := by decide +kernel
theorem dX9_expression_282 : decode cX9_expression 282 = .ok (.bipush 42, 2) := by decide +kernel
theorem dX9_expression_284 : decode cX9_expression 284 = .ok (.invokevirtual 199, 3) := by decide +kernel
theorem dX9_expression_287 : decode cX9_expression 287 = .ok (.ifCond .eq 8, 3) := by decide +kernel
theorem dX9_expression_290 : decode cX9_expression 290 = .ok (.bipush 10, 2) := by decide +kernel
theorem dX9_expression_292 : decode cX9_expression 292 = .ok (.goto 5, 3) := by decide +kernel
theorem dX9_expression_295 : decode cX9_expression 295 = .ok (.bipush 11, 2) := by decide +kernel
theorem dX9_expression_297 : decode cX9_expression 297 = .ok (.invokevirtual 202, 3) := by decide +kernel
theorem dX9_expression_300 : decode cX9_expression 300 = .ok (.aload_n 0, 1) := by decide +kernel
theorem dX9_expression_301 : decode cX9_expression 301 = .ok (.invokevirtual 165, 3) := by decide +kernel
theorem dX9_expression_304 : decode cX9_expression 304 = .ok (.aload_n 0, 1) := by decide +kernel
theorem dX9_expression_305 : decode cX9_expression 305 = .ok (.iconst 0, 1) := by decide +kernel
theorem dX9_expression_306 : decode cX9_expression 306 = .ok (.invokevirtual 214, 3) := by decide +kernel
theorem dX9_expression_309 : decode cX9_expression 309 = .ok (.goto 28, 3) := by decide +kernel
theorem dX9_expression_312 : decode cX9_expression 312 = .ok (.aload_n 0, 1) := by decide +kernel
theorem dX9_expression_313 : decode cX9_expression 313 = .ok (.bipush 41, 2) := by decide +kernel
theorem dX9_expression_315 : decode cX9_expression 315 = .ok (.invokevirtual 199, 3) := by decide +kernel
theorem dX9_expression_318 : decode cX9_expression 318 = .ok (.ifCond .eq 17, 3) := by decide +kernel
theorem dX9_expression_321 : decode cX9_expression 321 = .ok (.aload_n 0, 1) := by decide +kernel
theorem dX9_expression_322 : decode cX9_expression 322 = .ok (.invokevirtual 218, 3) := by decide +kernel
theorem dX9_expression_325 : decode cX9_expression 325 = .ok (.ifCond .eq 10, 3) := by decide +kernel
theorem dX9_expression_328 : decode cX9_expression 328 = .ok (.aload_n 0, 1) := by decide +kernel
theorem dX9_expression_329 : decode cX9_expression 329 = .ok (.invokevirtual 221, 3) := by decide +kernel
theorem dX9_expression_332 : decode cX9_expression 332 = .ok (.goto 5, 3) := by decide +kernel
theorem dX9_expression_335 : decode cX9_expression 335 = .ok (.iconst 0, 1) := by decide +kernel
theorem dX9_expression_336 : decode cX9_expression 336 = .ok (.istore_n 3, 1) := by decide +kernel
theorem dX9_expression_337 : decode cX9_expression 337 = .ok (.goto (-298), 3) := by decide +kernel
theorem dX9_expression_340 : decode cX9_expression 340 = .ok (.aload_n 0, 1) := by decide +kernel
theorem dX9_expression_341 : decode cX9_expression 341 = .ok (.invokevirtual 161, 3) := by decide +kernel
theorem dX9_expression_344 : decode cX9_expression 344 = .ok (.ifCond .eq 16, 3) := by decide +kernel
theorem dX9_expression_347 : decode cX9_expression 347 = .ok (.aload_n 0, 1) := by decide +kernel
theorem dX9_expression_348 : decode cX9_expression 348 = .ok (.getfield 196, 3) := by decide +kernel
theorem dX9_expression_351 : decode cX9_expression 351 = .ok (.iconst 1, 1) := by decide +kernel
theorem dX9_expression_352 : decode cX9_expression 352 = .ok (.if_icmp .le 8, 3) := by decide +kernel
theorem dX9_expression_355 : decode cX9_expression 355 = .ok (.aload_n 0, 1) := by decide +kernel
theorem dX9_expression_356 : decode cX9_expression 356 = .ok (.iconst 1, 1) := by decide +kernel
theorem dX9_expression_357 : decode cX9_expression 357 = .ok (.invokevirtual 168, 3) := by decide +kernel
theorem dX9_expression_360 : decode cX9_expression 360 = .ok (.aload_n 0, 1) := by decide +kernel
theorem dX9_expression_361 : decode cX9_expression 361 = .ok (.iconst 0, 1) := by decide +kernel
theorem dX9_expression_362 : decode cX9_expression 362 = .ok (.invokevirtual 211, 3) := by decide +kernel
theorem dX9_expression_365 : decode cX9_expression 365 = .ok (.aload_n 0, 1) := by decide +kernel
theorem dX9_expression_366 : decode cX9_expression 366 = .ok (.iconst 0, 1) := by decide +kernel
theorem dX9_expression_367 : decode cX9_expression 367 = .ok (.invokevirtual 183, 3) := by decide +kernel
theorem dX9_expression_370 : decode cX9_expression 370 = .ok (.return_, 1) := by decide +kernel
theorem dX9_begins_0 : decode cX9_begins 0 = .ok (.iload_n 1, 1) := by decide +kernel
theorem dX9_begins_1 : decode cX9_begins 1 = .ok (.ifCond .eq 8, 3) := by decide +kernel
theorem dX9_begins_4 : decode cX9_begins 4 = .ok (.aload_n 0, 1) := by decide +kernel
theorem dX9_begins_5 : decode cX9_begins 5 = .ok (.iconst 2, 1) := by decide +kernel
theorem dX9_begins_6 : decode cX9_begins 6 = .ok (.invokevirtual 168, 3) := by decide +kernel
theorem dX9_begins_9 : decode cX9_begins 9 = .ok (.iload_n 2, 1) := by decide +kernel
theorem dX9_begins_10 : decode cX9_begins 10 = .ok (.ifCond .eq 8, 3) := by decide +kernel
theorem dX9_begins_13 : decode cX9_begins 13 = .ok (.aload_n 0, 1) := by decide +kernel
theorem dX9_begins_14 : decode cX9_begins 14 = .ok (.iconst 5, 1) := by decide +kernel
theorem dX9_begins_15 : decode cX9_begins 15 = .ok (.invokevirtual 168, 3) := by decide +kernel
theorem dX9_begins_18 : decode cX9_begins 18 = .ok (.aload_n 0, 1) := by decide +kernel
theorem dX9_begins_19 : decode cX9_begins 19 = .ok (.invokevirtual 161, 3) := by decide +kernel
theorem dX9_begins_22 : decode cX9_begins 22 = .ok (.ifCond .ne 5, 3) := by decide +kernel
theorem dX9_begins_25 : decode cX9_begins 25 = .ok (.iconst 0, 1) := by decide +kernel
theorem dX9_begins_26 : decode cX9_begins 26 = .ok (.ireturn, 1) := by decide +kernel
theorem dX9_begins_27 : decode cX9_begins 27 = .ok (.aload_n 0, 1) := by decide +kernel
theorem dX9_begins_28 : decode cX9_begins 28 = .ok (.invokevirtual 165, 3) := by decide +kernel
theorem dX9_begins_31 : decode cX9_begins 31 = .ok (.iconst 1, 1) := by decide +kernel
theorem dX9_begins_32 : decode cX9_begins 32 = .ok (.ireturn, 1) := by decide +kernel
theorem dX9_readsSheet_0 : decode cX9_readsSheet 0 = .ok (.aload_n 0, 1) := by decide +kernel
theorem dX9_readsSheet_1 : decode cX9_readsSheet 1 = .ok (.getfield 224, 3) := by decide +kernel
theorem dX9_readsSheet_4 : decode cX9_readsSheet 4 = .ok (.istore_n 1, 1) := by decide +kernel
theorem dX9_readsSheet_5 : decode cX9_readsSheet 5 = .ok (.aload_n 0, 1) := by decide +kernel
theorem dX9_readsSheet_6 : decode cX9_readsSheet 6 = .ok (.getfield 53, 3) := by decide +kernel
theorem dX9_readsSheet_9 : decode cX9_readsSheet 9 = .ok (.iconst 1, 1) := by decide +kernel
theorem dX9_readsSheet_10 : decode cX9_readsSheet 10 = .ok (.iload_n 1, 1) := by decide +kernel
theorem dX9_readsSheet_11 : decode cX9_readsSheet 11 = .ok (.iadd, 1) := by decide +kernel
theorem dX9_readsSheet_12 : decode cX9_readsSheet 12 = .ok (.aload_n 0, 1) := by decide +kernel
theorem dX9_readsSheet_13 : decode cX9_readsSheet 13 = .ok (.iconst 0, 1) := by decide +kernel
theorem dX9_readsSheet_14 : decode cX9_readsSheet 14 = .ok (.sipush 255, 3) := by decide +kernel
theorem dX9_readsSheet_17 : decode cX9_readsSheet 17 = .ok (.invokevirtual 227, 3) := by decide +kernel
theorem dX9_readsSheet_20 : decode cX9_readsSheet 20 = .ok (.iastore, 1) := by decide +kernel
theorem dX9_readsSheet_21 : decode cX9_readsSheet 21 = .ok (.aload_n 0, 1) := by decide +kernel
theorem dX9_readsSheet_22 : decode cX9_readsSheet 22 = .ok (.getfield 53, 3) := by decide +kernel
theorem dX9_readsSheet_25 : decode cX9_readsSheet 25 = .ok (.bipush 10, 2) := by decide +kernel
theorem dX9_readsSheet_27 : decode cX9_readsSheet 27 = .ok (.iload_n 1, 1) := by decide +kernel
theorem dX9_readsSheet_28 : decode cX9_readsSheet 28 = .ok (.iadd, 1) := by decide +kernel
theorem dX9_readsSheet_29 : decode cX9_readsSheet 29 = .ok (.aload_n 0, 1) := by decide +kernel
theorem dX9_readsSheet_30 : decode cX9_readsSheet 30 = .ok (.iconst 0, 1) := by decide +kernel
theorem dX9_readsSheet_31 : decode cX9_readsSheet 31 = .ok (.sipush 255, 3) := by decide +kernel
theorem dX9_readsSheet_34 : decode cX9_readsSheet 34 = .ok (.invokevirtual 227, 3) := by decide +kernel
theorem dX9_readsSheet_37 : decode cX9_readsSheet 37 = .ok (.iastore, 1) := by decide +kernel
theorem dX9_readsSheet_38 : decode cX9_readsSheet 38 = .ok (.aload_n 0, 1) := by decide +kernel
theorem dX9_readsSheet_39 : decode cX9_readsSheet 39 = .ok (.getfield 53, 3) := by decide +kernel
theorem dX9_readsSheet_42 : decode cX9_readsSheet 42 = .ok (.bipush 19, 2) := by decide +kernel
theorem dX9_readsSheet_44 : decode cX9_readsSheet 44 = .ok (.iload_n 1, 1) := by decide +kernel
theorem dX9_readsSheet_45 : decode cX9_readsSheet 45 = .ok (.iadd, 1) := by decide +kernel
theorem dX9_readsSheet_46 : decode cX9_readsSheet 46 = .ok (.aload_n 0, 1) := by decide +kernel
theorem dX9_readsSheet_47 : decode cX9_readsSheet 47 = .ok (.iconst 0, 1) := by decide +kernel
theorem dX9_readsSheet_48 : decode cX9_readsSheet 48 = .ok (.iconst 3, 1) := by decide +kernel
theorem dX9_readsSheet_49 : decode cX9_readsSheet 49 = .ok (.invokevirtual 227, 3) := by decide +kernel
theorem dX9_readsSheet_52 : decode cX9_readsSheet 52 = .ok (.iastore, 1) := by decide +kernel
theorem dX9_readsSheet_53 : decode cX9_readsSheet 53 = .ok (.aload_n 0, 1) := by decide +kernel
theorem dX9_readsSheet_54 : decode cX9_readsSheet 54 = .ok (.invokevirtual 161, 3) := by decide +kernel
theorem dX9_readsSheet_57 : decode cX9_readsSheet 57 = .ok (.ifCond .eq 13, 3) := by decide +kernel
theorem dX9_readsSheet_60 : decode cX9_readsSheet 60 = .ok (.aload_n 0, 1) := by decide +kernel
theorem dX9_readsSheet_61 : decode cX9_readsSheet 61 = .ok (.dup, 1) := by decide +kernel
theorem dX9_readsSheet_62 : decode cX9_readsSheet 62 = .ok (.getfield 224, 3) := by decide +kernel
theorem dX9_readsSheet_65 : decode cX9_readsSheet 65 = .ok (.iconst 1, 1) := by decide +kernel
theorem dX9_readsSheet_66 : decode cX9_readsSheet 66 = .ok (.iadd, 1) := by decide +kernel
theorem dX9_readsSheet_67 : decode cX9_readsSheet 67 = .ok (.putfield 224, 3) := by decide +kernel
theorem dX9_readsSheet_70 : decode cX9_readsSheet 70 = .ok (.return_, 1) := by decide +kernel
theorem dX9_readsClerk_0 : decode cX9_readsClerk 0 = .ok (.aload_n 0, 1) := by decide +kernel
theorem dX9_readsClerk_1 : decode cX9_readsClerk 1 = .ok (.getfield 231, 3) := by decide +kernel
theorem dX9_readsClerk_4 : decode cX9_readsClerk 4 = .ok (.istore_n 1, 1) := by decide +kernel
theorem dX9_readsClerk_5 : decode cX9_readsClerk 5 = .ok (.iconst 0, 1) := by decide +kernel
theorem dX9_readsClerk_6 : decode cX9_readsClerk 6 = .ok (.istore_n 2, 1) := by decide +kernel
theorem dX9_readsClerk_7 : decode cX9_readsClerk 7 = .ok (.aload_n 0, 1) := by decide +kernel
theorem dX9_readsClerk_8 : decode cX9_readsClerk 8 = .ok (.getfield 53, 3) := by decide +kernel
theorem dX9_readsClerk_11 : decode cX9_readsClerk 11 = .ok (.bipush 28, 2) := by decide +kernel
theorem dX9_readsClerk_13 : decode cX9_readsClerk 13 = .ok (.iload_n 1, 1) := by decide +kernel
theorem dX9_readsClerk_14 : decode cX9_readsClerk 14 = .ok (.iadd, 1) := by decide +kernel
theorem dX9_readsClerk_15 : decode cX9_readsClerk 15 = .ok (.iconst 0, 1) := by decide +kernel
theorem dX9_readsClerk_16 : decode cX9_readsClerk 16 = .ok (.iastore, 1) := by decide +kernel
theorem dX9_readsClerk_17 : decode cX9_readsClerk 17 = .ok (.iconst 1, 1) := by decide +kernel
theorem dX9_readsClerk_18 : decode cX9_readsClerk 18 = .ok (.istore_n 3, 1) := by decide +kernel
theorem dX9_readsClerk_19 : decode cX9_readsClerk 19 = .ok (.iload_n 3, 1) := by decide +kernel
theorem dX9_readsClerk_20 : decode cX9_readsClerk 20 = .ok (.ifCond .eq 78, 3) := by decide +kernel
theorem dX9_readsClerk_23 : decode cX9_readsClerk 23 = .ok (.aload_n 0, 1) := by decide +kernel
theorem dX9_readsClerk_24 : decode cX9_readsClerk 24 = .ok (.invokevirtual 161, 3) := by decide +kernel
theorem dX9_readsClerk_27 : decode cX9_readsClerk 27 = .ok (.ifCond .eq 71, 3) := by decide +kernel
theorem dX9_readsClerk_30 : decode cX9_readsClerk 30 = .ok (.iload_n 2, 1) := by decide +kernel
theorem dX9_readsClerk_31 : decode cX9_readsClerk 31 = .ok (.bipush 6, 2) := by decide +kernel
theorem dX9_readsClerk_33 : decode cX9_readsClerk 33 = .ok (.if_icmp .ne 16, 3) := by decide +kernel
theorem dX9_readsClerk_36 : decode cX9_readsClerk 36 = .ok (.aload_n 0, 1) := by decide +kernel
theorem dX9_readsClerk_37 : decode cX9_readsClerk 37 = .ok (.getfield 135, 3) := by decide +kernel
theorem dX9_readsClerk_40 : decode cX9_readsClerk 40 = .ok (.iconst 2, 1) := by decide +kernel
theorem dX9_readsClerk_41 : decode cX9_readsClerk 41 = .ok (.if_icmp .ne 8, 3) := by decide +kernel
theorem dX9_readsClerk_44 : decode cX9_readsClerk 44 = .ok (.aload_n 0, 1) := by decide +kernel
theorem dX9_readsClerk_45 : decode cX9_readsClerk 45 = .ok (.iconst 2, 1) := by decide +kernel
theorem dX9_readsClerk_46 : decode cX9_readsClerk 46 = .ok (.invokevirtual 168, 3) := by decide +kernel
theorem dX9_readsClerk_49 : decode cX9_readsClerk 49 = .ok (.aload_n 0, 1) := by decide +kernel
theorem dX9_readsClerk_50 : decode cX9_readsClerk 50 = .ok (.iconst 0, 1) := by decide +kernel
theorem dX9_readsClerk_51 : decode cX9_readsClerk 51 = .ok (.iconst 3, 1) := by decide +kernel
theorem dX9_readsClerk_52 : decode cX9_readsClerk 52 = .ok (.invokevirtual 227, 3) := by decide +kernel
theorem dX9_readsClerk_55 : decode cX9_readsClerk 55 = .ok (.istore 4, 2) := by decide +kernel
theorem dX9_readsClerk_57 : decode cX9_readsClerk 57 = .ok (.aload_n 0, 1) := by decide +kernel
theorem dX9_readsClerk_58 : decode cX9_readsClerk 58 = .ok (.invokevirtual 161, 3) := by decide +kernel
theorem dX9_readsClerk_61 : decode cX9_readsClerk 61 = .ok (.ifCond .ne 4, 3) := by decide +kernel
theorem dX9_readsClerk_64 : decode cX9_readsClerk 64 = .ok (.return_, 1) := by decide +kernel
theorem dX9_readsClerk_65 : decode cX9_readsClerk 65 = .ok (.aload_n 0, 1) := by decide +kernel
theorem dX9_readsClerk_66 : decode cX9_readsClerk 66 = .ok (.getfield 41, 3) := by decide +kernel
theorem dX9_readsClerk_69 : decode cX9_readsClerk 69 = .ok (.bipush 6, 2) := by decide +kernel
theorem dX9_readsClerk_71 : decode cX9_readsClerk 71 = .ok (.iload_n 1, 1) := by decide +kernel
theorem dX9_readsClerk_72 : decode cX9_readsClerk 72 = .ok (.imul, 1) := by decide +kernel
theorem dX9_readsClerk_73 : decode cX9_readsClerk 73 = .ok (.iload_n 2, 1) := by decide +kernel
theorem dX9_readsClerk_74 : decode cX9_readsClerk 74 = .ok (.iadd, 1) := by decide +kernel
theorem dX9_readsClerk_75 : decode cX9_readsClerk 75 = .ok (.iload 4, 2) := by decide +kernel
theorem dX9_readsClerk_77 : decode cX9_readsClerk 77 = .ok (.iastore, 1) := by decide +kernel
theorem dX9_readsClerk_78 : decode cX9_readsClerk 78 = .ok (.iinc 2 1, 3) := by decide +kernel
theorem dX9_readsClerk_81 : decode cX9_readsClerk 81 = .ok (.aload_n 0, 1) := by decide +kernel
theorem dX9_readsClerk_82 : decode cX9_readsClerk 82 = .ok (.getfield 135, 3) := by decide +kernel
theorem dX9_readsClerk_85 : decode cX9_readsClerk 85 = .ok (.iconst 2, 1) := by decide +kernel
theorem dX9_readsClerk_86 : decode cX9_readsClerk 86 = .ok (.if_icmp .ne 7, 3) := by decide +kernel
theorem dX9_readsClerk_89 : decode cX9_readsClerk 89 = .ok (.iconst 1, 1) := by decide +kernel
theorem dX9_readsClerk_90 : decode cX9_readsClerk 90 = .ok (.goto 4, 3) := by decide +kernel
theorem dX9_readsClerk_93 : decode cX9_readsClerk 93 = .ok (.iconst 0, 1) := by decide +kernel
theorem dX9_readsClerk_94 : decode cX9_readsClerk 94 = .ok (.istore_n 3, 1) := by decide +kernel
theorem dX9_readsClerk_95 : decode cX9_readsClerk 95 = .ok (.goto (-76), 3) := by decide +kernel
theorem dX9_readsClerk_98 : decode cX9_readsClerk 98 = .ok (.aload_n 0, 1) := by decide +kernel
theorem dX9_readsClerk_99 : decode cX9_readsClerk 99 = .ok (.getfield 44, 3) := by decide +kernel
theorem dX9_readsClerk_102 : decode cX9_readsClerk 102 = .ok (.iload_n 1, 1) := by decide +kernel
theorem dX9_readsClerk_103 : decode cX9_readsClerk 103 = .ok (.iload_n 2, 1) := by decide +kernel
theorem dX9_readsClerk_104 : decode cX9_readsClerk 104 = .ok (.iastore, 1) := by decide +kernel
theorem dX9_readsClerk_105 : decode cX9_readsClerk 105 = .ok (.aload_n 0, 1) := by decide +kernel
theorem dX9_readsClerk_106 : decode cX9_readsClerk 106 = .ok (.invokevirtual 161, 3) := by decide +kernel
theorem dX9_readsClerk_109 : decode cX9_readsClerk 109 = .ok (.ifCond .eq 13, 3) := by decide +kernel
theorem dX9_readsClerk_112 : decode cX9_readsClerk 112 = .ok (.aload_n 0, 1) := by decide +kernel
theorem dX9_readsClerk_113 : decode cX9_readsClerk 113 = .ok (.dup, 1) := by decide +kernel
theorem dX9_readsClerk_114 : decode cX9_readsClerk 114 = .ok (.getfield 231, 3) := by decide +kernel
theorem dX9_readsClerk_117 : decode cX9_readsClerk 117 = .ok (.iconst 1, 1) := by decide +kernel
theorem dX9_readsClerk_118 : decode cX9_readsClerk 118 = .ok (.iadd, 1) := by decide +kernel
theorem dX9_readsClerk_119 : decode cX9_readsClerk 119 = .ok (.putfield 231, 3) := by decide +kernel
theorem dX9_readsClerk_122 : decode cX9_readsClerk 122 = .ok (.return_, 1) := by decide +kernel
