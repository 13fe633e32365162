/-! ===== decode rows: TwinInkModel ===== -/
theorem dX9_isWordOf_0 : decode cX9_isWordOf 0 = .ok (.iconst 0, 1) := by decide +kernel
theorem dX9_isWordOf_1 : decode cX9_isWordOf 1 = .ok (.istore_n 3, 1) := by decide +kernel
theorem dX9_isWordOf_2 : decode cX9_isWordOf 2 = .ok (.iload_n 3, 1) := by decide +kernel
theorem dX9_isWordOf_3 : decode cX9_isWordOf 3 = .ok (.aload_n 0, 1) := by decide +kernel
theorem dX9_isWordOf_4 : decode cX9_isWordOf 4 = .ok (.getfield 234, 3) := by decide +kernel
theorem dX9_isWordOf_7 : decode cX9_isWordOf 7 = .ok (.if_icmp .ge 31, 3) := by decide +kernel
theorem dX9_isWordOf_10 : decode cX9_isWordOf 10 = .ok (.aload_n 0, 1) := by decide +kernel
theorem dX9_isWordOf_11 : decode cX9_isWordOf 11 = .ok (.getfield 47, 3) := by decide +kernel
theorem dX9_isWordOf_14 : decode cX9_isWordOf 14 = .ok (.iload_n 3, 1) := by decide +kernel
theorem dX9_isWordOf_15 : decode cX9_isWordOf 15 = .ok (.iaload, 1) := by decide +kernel
theorem dX9_isWordOf_16 : decode cX9_isWordOf 16 = .ok (.iload_n 1, 1) := by decide +kernel
theorem dX9_isWordOf_17 : decode cX9_isWordOf 17 = .ok (.if_icmp .ne 15, 3) := by decide +kernel
theorem dX9_isWordOf_20 : decode cX9_isWordOf 20 = .ok (.aload_n 0, 1) := by decide +kernel
theorem dX9_isWordOf_21 : decode cX9_isWordOf 21 = .ok (.getfield 50, 3) := by decide +kernel
theorem dX9_isWordOf_24 : decode cX9_isWordOf 24 = .ok (.iload_n 3, 1) := by decide +kernel
theorem dX9_isWordOf_25 : decode cX9_isWordOf 25 = .ok (.iaload, 1) := by decide +kernel
theorem dX9_isWordOf_26 : decode cX9_isWordOf 26 = .ok (.iload_n 2, 1) := by decide +kernel
theorem dX9_isWordOf_27 : decode cX9_isWordOf 27 = .ok (.if_icmp .ne 5, 3) := by decide +kernel
theorem dX9_isWordOf_30 : decode cX9_isWordOf 30 = .ok (.iconst 1, 1) := by decide +kernel
theorem dX9_isWordOf_31 : decode cX9_isWordOf 31 = .ok (.ireturn, 1) := by decide +kernel
theorem dX9_isWordOf_32 : decode cX9_isWordOf 32 = .ok (.iinc 3 1, 3) := by decide +kernel
theorem dX9_isWordOf_35 : decode cX9_isWordOf 35 = .ok (.goto (-33), 3) := by decide +kernel
theorem dX9_isWordOf_38 : decode cX9_isWordOf 38 = .ok (.iconst 0, 1) := by decide +kernel
theorem dX9_isWordOf_39 : decode cX9_isWordOf 39 = .ok (.ireturn, 1) := by decide +kernel
theorem dX9_readsWord_0 : decode cX9_readsWord 0 = .ok (.aload_n 0, 1) := by decide +kernel
theorem dX9_readsWord_1 : decode cX9_readsWord 1 = .ok (.aload_n 0, 1) := by decide +kernel
theorem dX9_readsWord_2 : decode cX9_readsWord 2 = .ok (.getfield 224, 3) := by decide +kernel
theorem dX9_readsWord_5 : decode cX9_readsWord 5 = .ok (.invokevirtual 237, 3) := by decide +kernel
theorem dX9_readsWord_8 : decode cX9_readsWord 8 = .ok (.ifCond .ne 4, 3) := by decide +kernel
theorem dX9_readsWord_11 : decode cX9_readsWord 11 = .ok (.return_, 1) := by decide +kernel
theorem dX9_readsWord_12 : decode cX9_readsWord 12 = .ok (.aload_n 0, 1) := by decide +kernel
theorem dX9_readsWord_13 : decode cX9_readsWord 13 = .ok (.getfield 129, 3) := by decide +kernel
theorem dX9_readsWord_16 : decode cX9_readsWord 16 = .ok (.istore_n 1, 1) := by decide +kernel
theorem dX9_readsWord_17 : decode cX9_readsWord 17 = .ok (.aload_n 0, 1) := by decide +kernel
theorem dX9_readsWord_18 : decode cX9_readsWord 18 = .ok (.invokevirtual 165, 3) := by decide +kernel
theorem dX9_readsWord_21 : decode cX9_readsWord 21 = .ok (.aload_n 0, 1) := by decide +kernel
theorem dX9_readsWord_22 : decode cX9_readsWord 22 = .ok (.aload_n 0, 1) := by decide +kernel
theorem dX9_readsWord_23 : decode cX9_readsWord 23 = .ok (.getfield 224, 3) := by decide +kernel
theorem dX9_readsWord_26 : decode cX9_readsWord 26 = .ok (.invokevirtual 237, 3) := by decide +kernel
theorem dX9_readsWord_29 : decode cX9_readsWord 29 = .ok (.ifCond .ne 4, 3) := by decide +kernel
theorem dX9_readsWord_32 : decode cX9_readsWord 32 = .ok (.return_, 1) := by decide +kernel
theorem dX9_readsWord_33 : decode cX9_readsWord 33 = .ok (.aload_n 0, 1) := by decide +kernel
theorem dX9_readsWord_34 : decode cX9_readsWord 34 = .ok (.getfield 129, 3) := by decide +kernel
theorem dX9_readsWord_37 : decode cX9_readsWord 37 = .ok (.iload_n 1, 1) := by decide +kernel
theorem dX9_readsWord_38 : decode cX9_readsWord 38 = .ok (.if_icmp .eq 15, 3) := by decide +kernel
theorem dX9_readsWord_41 : decode cX9_readsWord 41 = .ok (.aload_n 0, 1) := by decide +kernel
theorem dX9_readsWord_42 : decode cX9_readsWord 42 = .ok (.iload_n 1, 1) := by decide +kernel
theorem dX9_readsWord_43 : decode cX9_readsWord 43 = .ok (.aload_n 0, 1) := by decide +kernel
theorem dX9_readsWord_44 : decode cX9_readsWord 44 = .ok (.getfield 129, 3) := by decide +kernel
theorem dX9_readsWord_47 : decode cX9_readsWord 47 = .ok (.invokevirtual 240, 3) := by decide +kernel
theorem dX9_readsWord_50 : decode cX9_readsWord 50 = .ok (.ifCond .eq 8, 3) := by decide +kernel
theorem dX9_readsWord_53 : decode cX9_readsWord 53 = .ok (.aload_n 0, 1) := by decide +kernel
theorem dX9_readsWord_54 : decode cX9_readsWord 54 = .ok (.iconst 4, 1) := by decide +kernel
theorem dX9_readsWord_55 : decode cX9_readsWord 55 = .ok (.invokevirtual 168, 3) := by decide +kernel
theorem dX9_readsWord_58 : decode cX9_readsWord 58 = .ok (.aload_n 0, 1) := by decide +kernel
theorem dX9_readsWord_59 : decode cX9_readsWord 59 = .ok (.invokevirtual 161, 3) := by decide +kernel
theorem dX9_readsWord_62 : decode cX9_readsWord 62 = .ok (.ifCond .ne 4, 3) := by decide +kernel
theorem dX9_readsWord_65 : decode cX9_readsWord 65 = .ok (.return_, 1) := by decide +kernel
theorem dX9_readsWord_66 : decode cX9_readsWord 66 = .ok (.aload_n 0, 1) := by decide +kernel
theorem dX9_readsWord_67 : decode cX9_readsWord 67 = .ok (.getfield 47, 3) := by decide +kernel
theorem dX9_readsWord_70 : decode cX9_readsWord 70 = .ok (.aload_n 0, 1) := by decide +kernel
theorem dX9_readsWord_71 : decode cX9_readsWord 71 = .ok (.getfield 234, 3) := by decide +kernel
theorem dX9_readsWord_74 : decode cX9_readsWord 74 = .ok (.iload_n 1, 1) := by decide +kernel
theorem dX9_readsWord_75 : decode cX9_readsWord 75 = .ok (.iastore, 1) := by decide +kernel
theorem dX9_readsWord_76 : decode cX9_readsWord 76 = .ok (.aload_n 0, 1) := by decide +kernel
theorem dX9_readsWord_77 : decode cX9_readsWord 77 = .ok (.getfield 50, 3) := by decide +kernel
theorem dX9_readsWord_80 : decode cX9_readsWord 80 = .ok (.aload_n 0, 1) := by decide +kernel
theorem dX9_readsWord_81 : decode cX9_readsWord 81 = .ok (.getfield 234, 3) := by decide +kernel
theorem dX9_readsWord_84 : decode cX9_readsWord 84 = .ok (.aload_n 0, 1) := by decide +kernel
theorem dX9_readsWord_85 : decode cX9_readsWord 85 = .ok (.getfield 129, 3) := by decide +kernel
theorem dX9_readsWord_88 : decode cX9_readsWord 88 = .ok (.iastore, 1) := by decide +kernel
theorem dX9_readsWord_89 : decode cX9_readsWord 89 = .ok (.aload_n 0, 1) := by decide +kernel
theorem dX9_readsWord_90 : decode cX9_readsWord 90 = .ok (.dup, 1) := by decide +kernel
theorem dX9_readsWord_91 : decode cX9_readsWord 91 = .ok (.getfield 234, 3) := by decide +kernel
theorem dX9_readsWord_94 : decode cX9_readsWord 94 = .ok (.iconst 1, 1) := by decide +kernel
theorem dX9_readsWord_95 : decode cX9_readsWord 95 = .ok (.iadd, 1) := by decide +kernel
theorem dX9_readsWord_96 : decode cX9_readsWord 96 = .ok (.putfield 234, 3) := by decide +kernel
theorem dX9_readsWord_99 : decode cX9_readsWord 99 = .ok (.aload_n 0, 1) := by decide +kernel
theorem dX9_readsWord_100 : decode cX9_readsWord 100 = .ok (.invokevirtual 165, 3) := by decide +kernel
theorem dX9_readsWord_103 : decode cX9_readsWord 103 = .ok (.return_, 1) := by decide +kernel
theorem dX9_line_0 : decode cX9_line 0 = .ok (.aload_n 0, 1) := by decide +kernel
theorem dX9_line_1 : decode cX9_line 1 = .ok (.invokevirtual 186, 3) := by decide +kernel
theorem dX9_line_4 : decode cX9_line 4 = .ok (.istore_n 1, 1) := by decide +kernel
theorem dX9_line_5 : decode cX9_line 5 = .ok (.iload_n 1, 1) := by decide +kernel
theorem dX9_line_6 : decode cX9_line 6 = .ok (.iconst 2, 1) := by decide +kernel
theorem dX9_line_7 : decode cX9_line 7 = .ok (.if_icmp .ne 32, 3) := by decide +kernel
theorem dX9_line_10 : decode cX9_line 10 = .ok (.aload_n 0, 1) := by decide +kernel
theorem dX9_line_11 : decode cX9_line 11 = .ok (.aload_n 0, 1) := by decide +kernel
theorem dX9_line_12 : decode cX9_line 12 = .ok (.getfield 224, 3) := by decide +kernel
theorem dX9_line_15 : decode cX9_line 15 = .ok (.bipush 9, 2) := by decide +kernel
theorem dX9_line_17 : decode cX9_line 17 = .ok (.if_icmp .ne 7, 3) := by decide +kernel
theorem dX9_line_20 : decode cX9_line 20 = .ok (.iconst 1, 1) := by decide +kernel
theorem dX9_line_21 : decode cX9_line 21 = .ok (.goto 4, 3) := by decide +kernel
theorem dX9_line_24 : decode cX9_line 24 = .ok (.iconst 0, 1) := by decide +kernel
theorem dX9_line_25 : decode cX9_line 25 = .ok (.iconst 0, 1) := by decide +kernel
theorem dX9_line_26 : decode cX9_line 26 = .ok (.invokevirtual 244, 3) := by decide +kernel
theorem dX9_line_29 : decode cX9_line 29 = .ok (.ifCond .eq 215, 3) := by decide +kernel
theorem dX9_line_32 : decode cX9_line 32 = .ok (.aload_n 0, 1) := by decide +kernel
theorem dX9_line_33 : decode cX9_line 33 = .ok (.invokevirtual 248, 3) := by decide +kernel
theorem dX9_line_36 : decode cX9_line 36 = .ok (.goto 208, 3) := by decide +kernel
theorem dX9_line_39 : decode cX9_line 39 = .ok (.iload_n 1, 1) := by decide +kernel
theorem dX9_line_40 : decode cX9_line 40 = .ok (.bipush 9, 2) := by decide +kernel
theorem dX9_line_42 : decode cX9_line 42 = .ok (.if_icmp .ne 32, 3) := by decide +kernel
theorem dX9_line_45 : decode cX9_line 45 = .ok (.aload_n 0, 1) := by decide +kernel
theorem dX9_line_46 : decode cX9_line 46 = .ok (.aload_n 0, 1) := by decide +kernel
theorem dX9_line_47 : decode cX9_line 47 = .ok (.getfield 231, 3) := by decide +kernel
theorem dX9_line_50 : decode cX9_line 50 = .ok (.bipush 6, 2) := by decide +kernel
theorem dX9_line_52 : decode cX9_line 52 = .ok (.if_icmp .ne 7, 3) := by decide +kernel
theorem dX9_line_55 : decode cX9_line 55 = .ok (.iconst 1, 1) := by decide +kernel
theorem dX9_line_56 : decode cX9_line 56 = .ok (.goto 4, 3) := by decide +kernel
theorem dX9_line_59 : decode cX9_line 59 = .ok (.iconst 0, 1) := by decide +kernel
theorem dX9_line_60 : decode cX9_line 60 = .ok (.iconst 0, 1) := by decide +kernel
theorem dX9_line_61 : decode cX9_line 61 = .ok (.invokevirtual 244, 3) := by decide +kernel
theorem dX9_line_64 : decode cX9_line 64 = .ok (.ifCond .eq 180, 3) := by decide +kernel
theorem dX9_line_67 : decode cX9_line 67 = .ok (.aload_n 0, 1) := by decide +kernel
theorem dX9_line_68 : decode cX9_line 68 = .ok (.invokevirtual 251, 3) := by decide +kernel
theorem dX9_line_71 : decode cX9_line 71 = .ok (.goto 173, 3) := by decide +kernel
theorem dX9_line_74 : decode cX9_line 74 = .ok (.iload_n 1, 1) := by decide +kernel
theorem dX9_line_75 : decode cX9_line 75 = .ok (.bipush 10, 2) := by decide +kernel
theorem dX9_line_77 : decode cX9_line 77 = .ok (.if_icmp .ne 32, 3) := by decide +kernel
theorem dX9_line_80 : decode cX9_line 80 = .ok (.aload_n 0, 1) := by decide +kernel
theorem dX9_line_81 : decode cX9_line 81 = .ok (.aload_n 0, 1) := by decide +kernel
theorem dX9_line_82 : decode cX9_line 82 = .ok (.getfield 234, 3) := by decide +kernel
theorem dX9_line_85 : decode cX9_line 85 = .ok (.bipush 12, 2) := by decide +kernel
theorem dX9_line_87 : decode cX9_line 87 = .ok (.if_icmp .ne 7, 3) := by decide +kernel
theorem dX9_line_90 : decode cX9_line 90 = .ok (.iconst 1, 1) := by decide +kernel
theorem dX9_line_91 : decode cX9_line 91 = .ok (.goto 4, 3) := by decide +kernel
theorem dX9_line_94 : decode cX9_line 94 = .ok (.iconst 0, 1) := by decide +kernel
theorem dX9_line_95 : decode cX9_line 95 = .ok (.iconst 0, 1) := by decide +kernel
theorem dX9_line_96 : decode cX9_line 96 = .ok (.invokevirtual 244, 3) := by decide +kernel
theorem dX9_line_99 : decode cX9_line 99 = .ok (.ifCond .eq 145, 3) := by decide +kernel
theorem dX9_line_102 : decode cX9_line 102 = .ok (.aload_n 0, 1) := by decide +kernel
theorem dX9_line_103 : decode cX9_line 103 = .ok (.invokevirtual 254, 3) := by decide +kernel
theorem dX9_line_106 : decode cX9_line 106 = .ok (.goto 138, 3) := by decide +kernel
theorem dX9_line_109 : decode cX9_line 109 = .ok (.iload_n 1, 1) := by decide +kernel
theorem dX9_line_110 : decode cX9_line 110 = .ok (.bipush 11, 2) := by decide +kernel
theorem dX9_line_112 : decode cX9_line 112 = .ok (.if_icmp .ne 38, 3) := by decide +kernel
theorem dX9_line_115 : decode cX9_line 115 = .ok (.aload_n 0, 1) := by decide +kernel
theorem dX9_line_116 : decode cX9_line 116 = .ok (.iconst 0, 1) := by decide +kernel
theorem dX9_line_117 : decode cX9_line 117 = .ok (.aload_n 0, 1) := by decide +kernel
theorem dX9_line_118 : decode cX9_line 118 = .ok (.getfield 257, 3) := by decide +kernel
theorem dX9_line_121 : decode cX9_line 121 = .ok (.iconst (-1), 1) := by decide +kernel
theorem dX9_line_122 : decode cX9_line 122 = .ok (.if_icmp .eq 7, 3) := by decide +kernel
theorem dX9_line_125 : decode cX9_line 125 = .ok (.iconst 1, 1) := by decide +kernel
theorem dX9_line_126 : decode cX9_line 126 = .ok (.goto 4, 3) := by decide +kernel
theorem dX9_line_129 : decode cX9_line 129 = .ok (.iconst 0, 1) := by decide +kernel
theorem dX9_line_130 : decode cX9_line 130 = .ok (.invokevirtual 244, 3) := by decide +kernel
theorem dX9_line_133 : decode cX9_line 133 = .ok (.ifCond .eq 111, 3) := by decide +kernel
theorem dX9_line_136 : decode cX9_line 136 = .ok (.aload_n 0, 1) := by decide +kernel
theorem dX9_line_137 : decode cX9_line 137 = .ok (.aload_n 0, 1) := by decide +kernel
theorem dX9_line_138 : decode cX9_line 138 = .ok (.iconst 0, 1) := by decide +kernel
theorem dX9_line_139 : decode cX9_line 139 = .ok (.bipush 8, 2) := by decide +kernel
theorem dX9_line_141 : decode cX9_line 141 = .ok (.invokevirtual 227, 3) := by decide +kernel
theorem dX9_line_144 : decode cX9_line 144 = .ok (.putfield 257, 3) := by decide +kernel
theorem dX9_line_147 : decode cX9_line 147 = .ok (.goto 97, 3) := by decide +kernel
theorem dX9_line_150 : decode cX9_line 150 = .ok (.iload_n 1, 1) := by decide +kernel
theorem dX9_line_151 : decode cX9_line 151 = .ok (.bipush 12, 2) := by decide +kernel
theorem dX9_line_153 : decode cX9_line 153 = .ok (.if_icmp .ne 42, 3) := by decide +kernel
theorem dX9_line_156 : decode cX9_line 156 = .ok (.aload_n 0, 1) := by decide +kernel
theorem dX9_line_157 : decode cX9_line 157 = .ok (.iconst 0, 1) := by decide +kernel
theorem dX9_line_158 : decode cX9_line 158 = .ok (.aload_n 0, 1) := by decide +kernel
theorem dX9_line_159 : decode cX9_line 159 = .ok (.getfield 260, 3) := by decide +kernel
theorem dX9_line_162 : decode cX9_line 162 = .ok (.iconst (-1), 1) := by decide +kernel
theorem dX9_line_163 : decode cX9_line 163 = .ok (.if_icmp .eq 7, 3) := by decide +kernel
theorem dX9_line_166 : decode cX9_line 166 = .ok (.iconst 1, 1) := by decide +kernel
theorem dX9_line_167 : decode cX9_line 167 = .ok (.goto 4, 3) := by decide +kernel
theorem dX9_line_170 : decode cX9_line 170 = .ok (.iconst 0, 1) := by decide +kernel
theorem dX9_line_171 : decode cX9_line 171 = .ok (.invokevirtual 244, 3) := by decide +kernel
theorem dX9_line_174 : decode cX9_line 174 = .ok (.ifCond .eq 70, 3) := by decide +kernel
theorem dX9_line_177 : decode cX9_line 177 = .ok (.aload_n 0, 1) := by decide +kernel
theorem dX9_line_178 : decode cX9_line 178 = .ok (.aload_n 0, 1) := by decide +kernel
theorem dX9_line_179 : decode cX9_line 179 = .ok (.getfield 171, 3) := by decide +kernel
theorem dX9_line_182 : decode cX9_line 182 = .ok (.putfield 260, 3) := by decide +kernel
theorem dX9_line_185 : decode cX9_line 185 = .ok (.aload_n 0, 1) := by decide +kernel
theorem dX9_line_186 : decode cX9_line 186 = .ok (.iconst 4, 1) := by decide +kernel
theorem dX9_line_187 : decode cX9_line 187 = .ok (.bipush 8, 2) := by decide +kernel
theorem dX9_line_189 : decode cX9_line 189 = .ok (.invokevirtual 263, 3) := by decide +kernel
theorem dX9_line_192 : decode cX9_line 192 = .ok (.goto 52, 3) := by decide +kernel
theorem dX9_line_195 : decode cX9_line 195 = .ok (.iload_n 1, 1) := by decide +kernel
theorem dX9_line_196 : decode cX9_line 196 = .ok (.bipush 13, 2) := by decide +kernel
theorem dX9_line_198 : decode cX9_line 198 = .ok (.if_icmp .ne 41, 3) := by decide +kernel
theorem dX9_line_201 : decode cX9_line 201 = .ok (.aload_n 0, 1) := by decide +kernel
theorem dX9_line_202 : decode cX9_line 202 = .ok (.iconst 0, 1) := by decide +kernel
theorem dX9_line_203 : decode cX9_line 203 = .ok (.aload_n 0, 1) := by decide +kernel
theorem dX9_line_204 : decode cX9_line 204 = .ok (.getfield 267, 3) := by decide +kernel
theorem dX9_line_207 : decode cX9_line 207 = .ok (.iconst (-1), 1) := by decide +kernel
theorem dX9_line_208 : decode cX9_line 208 = .ok (.if_icmp .eq 7, 3) := by decide +kernel
theorem dX9_line_211 : decode cX9_line 211 = .ok (.iconst 1, 1) := by decide +kernel
theorem dX9_line_212 : decode cX9_line 212 = .ok (.goto 4, 3) := by decide +kernel
theorem dX9_line_215 : decode cX9_line 215 = .ok (.iconst 0, 1) := by decide +kernel
theorem dX9_line_216 : decode cX9_line 216 = .ok (.invokevirtual 244, 3) := by decide +kernel
theorem dX9_line_219 : decode cX9_line 219 = .ok (.ifCond .eq 25, 3) := by decide +kernel
theorem dX9_line_222 : decode cX9_line 222 = .ok (.aload_n 0, 1) := by decide +kernel
theorem dX9_line_223 : decode cX9_line 223 = .ok (.aload_n 0, 1) := by decide +kernel
theorem dX9_line_224 : decode cX9_line 224 = .ok (.getfield 171, 3) := by decide +kernel
theorem dX9_line_227 : decode cX9_line 227 = .ok (.putfield 267, 3) := by decide +kernel
theorem dX9_line_230 : decode cX9_line 230 = .ok (.aload_n 0, 1) := by decide +kernel
theorem dX9_line_231 : decode cX9_line 231 = .ok (.iconst 0, 1) := by decide +kernel
theorem dX9_line_232 : decode cX9_line 232 = .ok (.iconst 5, 1) := by decide +kernel
theorem dX9_line_233 : decode cX9_line 233 = .ok (.invokevirtual 263, 3) := by decide +kernel
theorem dX9_line_236 : decode cX9_line 236 = .ok (.goto 8, 3) := by decide +kernel
theorem dX9_line_239 : decode cX9_line 239 = .ok (.aload_n 0, 1) := by decide +kernel
theorem dX9_line_240 : decode cX9_line 240 = .ok (.iconst 1, 1) := by decide +kernel
theorem dX9_line_241 : decode cX9_line 241 = .ok (.invokevirtual 168, 3) := by decide +kernel
theorem dX9_line_244 : decode cX9_line 244 = .ok (.aload_n 0, 1) := by decide +kernel
theorem dX9_line_245 : decode cX9_line 245 = .ok (.aload_n 0, 1) := by decide +kernel
theorem dX9_line_246 : decode cX9_line 246 = .ok (.bipush 59, 2) := by decide +kernel
theorem dX9_line_248 : decode cX9_line 248 = .ok (.invokevirtual 199, 3) := by decide +kernel
theorem dX9_line_251 : decode cX9_line 251 = .ok (.invokevirtual 270, 3) := by decide +kernel
theorem dX9_line_254 : decode cX9_line 254 = .ok (.return_, 1) := by decide +kernel
theorem dX9_office_0 : decode cX9_office 0 = .ok (.aload_n 0, 1) := by decide +kernel
theorem dX9_office_1 : decode cX9_office 1 = .ok (.iconst 0, 1) := by decide +kernel
theorem dX9_office_2 : decode cX9_office 2 = .ok (.putfield 102, 3) := by decide +kernel
theorem dX9_office_5 : decode cX9_office 5 = .ok (.aload_n 0, 1) := by decide +kernel
theorem dX9_office_6 : decode cX9_office 6 = .ok (.iload_n 1, 1) := by decide +kernel
theorem dX9_office_7 : decode cX9_office 7 = .ok (.ifCond .lt 15, 3) := by decide +kernel
theorem dX9_office_10 : decode cX9_office 10 = .ok (.iload_n 1, 1) := by decide +kernel
theorem dX9_office_11 : decode cX9_office 11 = .ok (.aload_n 0, 1) := by decide +kernel
theorem dX9_office_12 : decode cX9_office 12 = .ok (.getfield 105, 3) := by decide +kernel
theorem dX9_office_15 : decode cX9_office 15 = .ok (.if_icmp .gt 7, 3) := by decide +kernel
theorem dX9_office_18 : decode cX9_office 18 = .ok (.iconst 1, 1) := by decide +kernel
theorem dX9_office_19 : decode cX9_office 19 = .ok (.goto 4, 3) := by decide +kernel
theorem dX9_office_22 : decode cX9_office 22 = .ok (.iconst 0, 1) := by decide +kernel
theorem dX9_office_23 : decode cX9_office 23 = .ok (.iconst 1, 1) := by decide +kernel
theorem dX9_office_24 : decode cX9_office 24 = .ok (.invokevirtual 273, 3) := by decide +kernel
theorem dX9_office_27 : decode cX9_office 27 = .ok (.ifCond .ne 5, 3) := by decide +kernel
theorem dX9_office_30 : decode cX9_office 30 = .ok (.iconst 0, 1) := by decide +kernel
theorem dX9_office_31 : decode cX9_office 31 = .ok (.ireturn, 1) := by decide +kernel
theorem dX9_office_32 : decode cX9_office 32 = .ok (.aload_n 0, 1) := by decide +kernel
theorem dX9_office_33 : decode cX9_office 33 = .ok (.iconst 0, 1) := by decide +kernel
theorem dX9_office_34 : decode cX9_office 34 = .ok (.putfield 105, 3) := by decide +kernel
theorem dX9_office_37 : decode cX9_office 37 = .ok (.aload_n 0, 1) := by decide +kernel
theorem dX9_office_38 : decode cX9_office 38 = .ok (.iconst (-1), 1) := by decide +kernel
theorem dX9_office_39 : decode cX9_office 39 = .ok (.putfield 35, 3) := by decide +kernel
theorem dX9_office_42 : decode cX9_office 42 = .ok (.aload_n 0, 1) := by decide +kernel
theorem dX9_office_43 : decode cX9_office 43 = .ok (.iconst 0, 1) := by decide +kernel
theorem dX9_office_44 : decode cX9_office 44 = .ok (.putfield 158, 3) := by decide +kernel
theorem dX9_office_47 : decode cX9_office 47 = .ok (.aload_n 0, 1) := by decide +kernel
theorem dX9_office_48 : decode cX9_office 48 = .ok (.iload_n 1, 1) := by decide +kernel
theorem dX9_office_49 : decode cX9_office 49 = .ok (.putfield 112, 3) := by decide +kernel
theorem dX9_office_52 : decode cX9_office 52 = .ok (.aload_n 0, 1) := by decide +kernel
theorem dX9_office_53 : decode cX9_office 53 = .ok (.iconst 0, 1) := by decide +kernel
theorem dX9_office_54 : decode cX9_office 54 = .ok (.putfield 115, 3) := by decide +kernel
theorem dX9_office_57 : decode cX9_office 57 = .ok (.aload_n 0, 1) := by decide +kernel
theorem dX9_office_58 : decode cX9_office 58 = .ok (.iconst 0, 1) := by decide +kernel
theorem dX9_office_59 : decode cX9_office 59 = .ok (.putfield 224, 3) := by decide +kernel
theorem dX9_office_62 : decode cX9_office 62 = .ok (.aload_n 0, 1) := by decide +kernel
theorem dX9_office_63 : decode cX9_office 63 = .ok (.iconst 0, 1) := by decide +kernel
theorem dX9_office_64 : decode cX9_office 64 = .ok (.putfield 231, 3) := by decide +kernel
theorem dX9_office_67 : decode cX9_office 67 = .ok (.aload_n 0, 1) := by decide +kernel
theorem dX9_office_68 : decode cX9_office 68 = .ok (.iconst 0, 1) := by decide +kernel
theorem dX9_office_69 : decode cX9_office 69 = .ok (.putfield 234, 3) := by decide +kernel
theorem dX9_office_72 : decode cX9_office 72 = .ok (.aload_n 0, 1) := by decide +kernel
theorem dX9_office_73 : decode cX9_office 73 = .ok (.iconst (-1), 1) := by decide +kernel
theorem dX9_office_74 : decode cX9_office 74 = .ok (.putfield 257, 3) := by decide +kernel
theorem dX9_office_77 : decode cX9_office 77 = .ok (.aload_n 0, 1) := by decide +kernel
theorem dX9_office_78 : decode cX9_office 78 = .ok (.iconst (-1), 1) := by decide +kernel
theorem dX9_office_79 : decode cX9_office 79 = .ok (.putfield 260, 3) := by decide +kernel
theorem dX9_office_82 : decode cX9_office 82 = .ok (.aload_n 0, 1) := by decide +kernel
theorem dX9_office_83 : decode cX9_office 83 = .ok (.iconst (-1), 1) := by decide +kernel
theorem dX9_office_84 : decode cX9_office 84 = .ok (.putfield 267, 3) := by decide +kernel
theorem dX9_office_87 : decode cX9_office 87 = .ok (.aload_n 0, 1) := by decide +kernel
theorem dX9_office_88 : decode cX9_office 88 = .ok (.getfield 53, 3) := by decide +kernel
theorem dX9_office_91 : decode cX9_office 91 = .ok (.iconst 0, 1) := by decide +kernel
theorem dX9_office_92 : decode cX9_office 92 = .ok (.iconst 0, 1) := by decide +kernel
theorem dX9_office_93 : decode cX9_office 93 = .ok (.iastore, 1) := by decide +kernel
theorem dX9_office_94 : decode cX9_office 94 = .ok (.aload_n 0, 1) := by decide +kernel
theorem dX9_office_95 : decode cX9_office 95 = .ok (.iconst 0, 1) := by decide +kernel
theorem dX9_office_96 : decode cX9_office 96 = .ok (.putfield 171, 3) := by decide +kernel
theorem dX9_office_99 : decode cX9_office 99 = .ok (.aload_n 0, 1) := by decide +kernel
theorem dX9_office_100 : decode cX9_office 100 = .ok (.invokevirtual 165, 3) := by decide +kernel
theorem dX9_office_103 : decode cX9_office 103 = .ok (.aload_n 0, 1) := by decide +kernel
theorem dX9_office_104 : decode cX9_office 104 = .ok (.invokevirtual 161, 3) := by decide +kernel
theorem dX9_office_107 : decode cX9_office 107 = .ok (.ifCond .eq 17, 3) := by decide +kernel
theorem dX9_office_110 : decode cX9_office 110 = .ok (.aload_n 0, 1) := by decide +kernel
theorem dX9_office_111 : decode cX9_office 111 = .ok (.getfield 135, 3) := by decide +kernel
theorem dX9_office_114 : decode cX9_office 114 = .ok (.ifCond .eq 10, 3) := by decide +kernel
theorem dX9_office_117 : decode cX9_office 117 = .ok (.aload_n 0, 1) := by decide +kernel
theorem dX9_office_118 : decode cX9_office 118 = .ok (.invokevirtual 277, 3) := by decide +kernel
theorem dX9_office_121 : decode cX9_office 121 = .ok (.goto (-18), 3) := by decide +kernel
theorem dX9_office_124 : decode cX9_office 124 = .ok (.aload_n 0, 1) := by decide +kernel
theorem dX9_office_125 : decode cX9_office 125 = .ok (.invokevirtual 161, 3) := by decide +kernel
theorem dX9_office_128 : decode cX9_office 128 = .ok (.ifCond .ne 18, 3) := by decide +kernel
theorem dX9_office_131 : decode cX9_office 131 = .ok (.aload_n 0, 1) := by decide +kernel
theorem dX9_office_132 : decode cX9_office 132 = .ok (.getfield 38, 3) := by decide +kernel
theorem dX9_office_135 : decode cX9_office 135 = .ok (.iconst 0, 1) := by decide +kernel
theorem dX9_office_136 : decode cX9_office 136 = .ok (.dup2, 1) := by decide +kernel
theorem dX9_office_137 : decode cX9_office 137 = .ok (.iaload, 1) := by decide +kernel
theorem dX9_office_138 : decode cX9_office 138 = .ok (.iconst 1, 1) := by decide +kernel
theorem dX9_office_139 : decode cX9_office 139 = .ok (.iadd, 1) := by decide +kernel
theorem dX9_office_140 : decode cX9_office 140 = .ok (.iastore, 1) := by decide +kernel
theorem dX9_office_141 : decode cX9_office 141 = .ok (.aload_n 0, 1) := by decide +kernel
theorem dX9_office_142 : decode cX9_office 142 = .ok (.getfield 158, 3) := by decide +kernel
theorem dX9_office_145 : decode cX9_office 145 = .ok (.ireturn, 1) := by decide +kernel
theorem dX9_office_146 : decode cX9_office 146 = .ok (.aload_n 0, 1) := by decide +kernel
theorem dX9_office_147 : decode cX9_office 147 = .ok (.aload_n 0, 1) := by decide +kernel
theorem dX9_office_148 : decode cX9_office 148 = .ok (.getfield 224, 3) := by decide +kernel
theorem dX9_office_151 : decode cX9_office 151 = .ok (.putfield 280, 3) := by decide +kernel
theorem dX9_office_154 : decode cX9_office 154 = .ok (.aload_n 0, 1) := by decide +kernel
theorem dX9_office_155 : decode cX9_office 155 = .ok (.aload_n 0, 1) := by decide +kernel
theorem dX9_office_156 : decode cX9_office 156 = .ok (.getfield 231, 3) := by decide +kernel
theorem dX9_office_159 : decode cX9_office 159 = .ok (.putfield 283, 3) := by decide +kernel
theorem dX9_office_162 : decode cX9_office 162 = .ok (.aload_n 0, 1) := by decide +kernel
theorem dX9_office_163 : decode cX9_office 163 = .ok (.aload_n 0, 1) := by decide +kernel
theorem dX9_office_164 : decode cX9_office 164 = .ok (.getfield 234, 3) := by decide +kernel
theorem dX9_office_167 : decode cX9_office 167 = .ok (.putfield 286, 3) := by decide +kernel
theorem dX9_office_170 : decode cX9_office 170 = .ok (.aload_n 0, 1) := by decide +kernel
theorem dX9_office_171 : decode cX9_office 171 = .ok (.aload_n 0, 1) := by decide +kernel
theorem dX9_office_172 : decode cX9_office 172 = .ok (.getfield 257, 3) := by decide +kernel
theorem dX9_office_175 : decode cX9_office 175 = .ok (.iconst (-1), 1) := by decide +kernel
theorem dX9_office_176 : decode cX9_office 176 = .ok (.if_icmp .ne 7, 3) := by decide +kernel
theorem dX9_office_179 : decode cX9_office 179 = .ok (.iconst 0, 1) := by decide +kernel
theorem dX9_office_180 : decode cX9_office 180 = .ok (.goto 7, 3) := by decide +kernel
theorem dX9_office_183 : decode cX9_office 183 = .ok (.aload_n 0, 1) := by decide +kernel
theorem dX9_office_184 : decode cX9_office 184 = .ok (.getfield 257, 3) := by decide +kernel
theorem dX9_office_187 : decode cX9_office 187 = .ok (.putfield 289, 3) := by decide +kernel
theorem dX9_office_190 : decode cX9_office 190 = .ok (.aload_n 0, 1) := by decide +kernel
theorem dX9_office_191 : decode cX9_office 191 = .ok (.aload_n 0, 1) := by decide +kernel
theorem dX9_office_192 : decode cX9_office 192 = .ok (.getfield 260, 3) := by decide +kernel
theorem dX9_office_195 : decode cX9_office 195 = .ok (.putfield 9, 3) := by decide +kernel
theorem dX9_office_198 : decode cX9_office 198 = .ok (.aload_n 0, 1) := by decide +kernel
theorem dX9_office_199 : decode cX9_office 199 = .ok (.aload_n 0, 1) := by decide +kernel
theorem dX9_office_200 : decode cX9_office 200 = .ok (.getfield 267, 3) := by decide +kernel
theorem dX9_office_203 : decode cX9_office 203 = .ok (.putfield 13, 3) := by decide +kernel
theorem dX9_office_206 : decode cX9_office 206 = .ok (.aload_n 0, 1) := by decide +kernel
theorem dX9_office_207 : decode cX9_office 207 = .ok (.aload_n 0, 1) := by decide +kernel
theorem dX9_office_208 : decode cX9_office 208 = .ok (.getfield 41, 3) := by decide +kernel
theorem dX9_office_211 : decode cX9_office 211 = .ok (.aload_n 0, 1) := by decide +kernel
theorem dX9_office_212 : decode cX9_office 212 = .ok (.getfield 16, 3) := by decide +kernel
theorem dX9_office_215 : decode cX9_office 215 = .ok (.invokevirtual 292, 3) := by decide +kernel
theorem dX9_office_218 : decode cX9_office 218 = .ok (.aload_n 0, 1) := by decide +kernel
theorem dX9_office_219 : decode cX9_office 219 = .ok (.aload_n 0, 1) := by decide +kernel
theorem dX9_office_220 : decode cX9_office 220 = .ok (.getfield 44, 3) := by decide +kernel
theorem dX9_office_223 : decode cX9_office 223 = .ok (.aload_n 0, 1) := by decide +kernel
theorem dX9_office_224 : decode cX9_office 224 = .ok (.getfield 20, 3) := by decide +kernel
theorem dX9_office_227 : decode cX9_office 227 = .ok (.invokevirtual 292, 3) := by decide +kernel
theorem dX9_office_230 : decode cX9_office 230 = .ok (.aload_n 0, 1) := by decide +kernel
theorem dX9_office_231 : decode cX9_office 231 = .ok (.aload_n 0, 1) := by decide +kernel
theorem dX9_office_232 : decode cX9_office 232 = .ok (.getfield 47, 3) := by decide +kernel
theorem dX9_office_235 : decode cX9_office 235 = .ok (.aload_n 0, 1) := by decide +kernel
theorem dX9_office_236 : decode cX9_office 236 = .ok (.getfield 23, 3) := by decide +kernel
theorem dX9_office_239 : decode cX9_office 239 = .ok (.invokevirtual 292, 3) := by decide +kernel
theorem dX9_office_242 : decode cX9_office 242 = .ok (.aload_n 0, 1) := by decide +kernel
theorem dX9_office_243 : decode cX9_office 243 = .ok (.aload_n 0, 1) := by decide +kernel
theorem dX9_office_244 : decode cX9_office 244 = .ok (.getfield 50, 3) := by decide +kernel
theorem dX9_office_247 : decode cX9_office 247 = .ok (.aload_n 0, 1) := by decide +kernel
theorem dX9_office_248 : decode cX9_office 248 = .ok (.getfield 26, 3) := by decide +kernel
theorem dX9_office_251 : decode cX9_office 251 = .ok (.invokevirtual 292, 3) := by decide +kernel
theorem dX9_office_254 : decode cX9_office 254 = .ok (.aload_n 0, 1) := by decide +kernel
theorem dX9_office_255 : decode cX9_office 255 = .ok (.aload_n 0, 1) := by decide +kernel
theorem dX9_office_256 : decode cX9_office 256 = .ok (.getfield 56, 3) := by decide +kernel
theorem dX9_office_259 : decode cX9_office 259 = .ok (.aload_n 0, 1) := by decide +kernel
theorem dX9_office_260 : decode cX9_office 260 = .ok (.getfield 29, 3) := by decide +kernel
theorem dX9_office_263 : decode cX9_office 263 = .ok (.invokevirtual 292, 3) := by decide +kernel
theorem dX9_office_266 : decode cX9_office 266 = .ok (.iconst 0, 1) := by decide +kernel
theorem dX9_office_267 : decode cX9_office 267 = .ok (.istore_n 2, 1) := by decide +kernel
theorem dX9_office_268 : decode cX9_office 268 = .ok (.iload_n 2, 1) := by decide +kernel
theorem dX9_office_269 : decode cX9_office 269 = .ok (.bipush 34, 2) := by decide +kernel
theorem dX9_office_271 : decode cX9_office 271 = .ok (.if_icmp .ge 21, 3) := by decide +kernel
theorem dX9_office_274 : decode cX9_office 274 = .ok (.aload_n 0, 1) := by decide +kernel
theorem dX9_office_275 : decode cX9_office 275 = .ok (.getfield 66, 3) := by decide +kernel
theorem dX9_office_278 : decode cX9_office 278 = .ok (.iload_n 2, 1) := by decide +kernel
theorem dX9_office_279 : decode cX9_office 279 = .ok (.aload_n 0, 1) := by decide +kernel
theorem dX9_office_280 : decode cX9_office 280 = .ok (.getfield 53, 3) := by decide +kernel
theorem dX9_office_283 : decode cX9_office 283 = .ok (.iload_n 2, 1) := by decide +kernel
theorem dX9_office_284 : decode cX9_office 284 = .ok (.iaload, 1) := by decide +kernel
theorem dX9_office_285 : decode cX9_office 285 = .ok (.iastore, 1) := by decide +kernel
theorem dX9_office_286 : decode cX9_office 286 = .ok (.iinc 2 1, 3) := by decide +kernel
theorem dX9_office_289 : decode cX9_office 289 = .ok (.goto (-21), 3) := by decide +kernel
theorem dX9_office_292 : decode cX9_office 292 = .ok (.aload_n 0, 1) := by decide +kernel
theorem dX9_office_293 : decode cX9_office 293 = .ok (.iconst 0, 1) := by decide +kernel
theorem dX9_office_294 : decode cX9_office 294 = .ok (.putfield 296, 3) := by decide +kernel
theorem dX9_office_297 : decode cX9_office 297 = .ok (.aload_n 0, 1) := by decide +kernel
theorem dX9_office_298 : decode cX9_office 298 = .ok (.iconst 0, 1) := by decide +kernel
theorem dX9_office_299 : decode cX9_office 299 = .ok (.putfield 299, 3) := by decide +kernel
theorem dX9_office_302 : decode cX9_office 302 = .ok (.aload_n 0, 1) := by decide +kernel
theorem dX9_office_303 : decode cX9_office 303 = .ok (.iconst 0, 1) := by decide +kernel
theorem dX9_office_304 : decode cX9_office 304 = .ok (.putfield 302, 3) := by decide +kernel
theorem dX9_office_307 : decode cX9_office 307 = .ok (.iconst 0, 1) := by decide +kernel
theorem dX9_office_308 : decode cX9_office 308 = .ok (.ireturn, 1) := by decide +kernel
theorem dX9_fault_0 : decode cX9_fault 0 = .ok (.aload_n 0, 1) := by decide +kernel
theorem dX9_fault_1 : decode cX9_fault 1 = .ok (.iconst 0, 1) := by decide +kernel
theorem dX9_fault_2 : decode cX9_fault 2 = .ok (.putfield 102, 3) := by decide +kernel
theorem dX9_fault_5 : decode cX9_fault 5 = .ok (.aload_n 0, 1) := by decide +kernel
theorem dX9_fault_6 : decode cX9_fault 6 = .ok (.getfield 35, 3) := by decide +kernel
theorem dX9_fault_9 : decode cX9_fault 9 = .ok (.ireturn, 1) := by decide +kernel
theorem dX9_keeps_0 : decode cX9_keeps 0 = .ok (.aload_n 0, 1) := by decide +kernel
theorem dX9_keeps_1 : decode cX9_keeps 1 = .ok (.getfield 296, 3) := by decide +kernel
theorem dX9_keeps_4 : decode cX9_keeps 4 = .ok (.bipush 40, 2) := by decide +kernel
theorem dX9_keeps_6 : decode cX9_keeps 6 = .ok (.if_icmp .ne 44, 3) := by decide +kernel
theorem dX9_keeps_9 : decode cX9_keeps 9 = .ok (.bipush 34, 2) := by decide +kernel
theorem dX9_keeps_11 : decode cX9_keeps 11 = .ok (.istore_n 1, 1) := by decide +kernel
theorem dX9_keeps_12 : decode cX9_keeps 12 = .ok (.iload_n 1, 1) := by decide +kernel
theorem dX9_keeps_13 : decode cX9_keeps 13 = .ok (.sipush 1360, 3) := by decide +kernel
theorem dX9_keeps_16 : decode cX9_keeps 16 = .ok (.if_icmp .ge 24, 3) := by decide +kernel
theorem dX9_keeps_19 : decode cX9_keeps 19 = .ok (.aload_n 0, 1) := by decide +kernel
theorem dX9_keeps_20 : decode cX9_keeps 20 = .ok (.getfield 69, 3) := by decide +kernel
theorem dX9_keeps_23 : decode cX9_keeps 23 = .ok (.iload_n 1, 1) := by decide +kernel
theorem dX9_keeps_24 : decode cX9_keeps 24 = .ok (.bipush 34, 2) := by decide +kernel
theorem dX9_keeps_26 : decode cX9_keeps 26 = .ok (.isub, 1) := by decide +kernel
theorem dX9_keeps_27 : decode cX9_keeps 27 = .ok (.aload_n 0, 1) := by decide +kernel
theorem dX9_keeps_28 : decode cX9_keeps 28 = .ok (.getfield 69, 3) := by decide +kernel
theorem dX9_keeps_31 : decode cX9_keeps 31 = .ok (.iload_n 1, 1) := by decide +kernel
theorem dX9_keeps_32 : decode cX9_keeps 32 = .ok (.iaload, 1) := by decide +kernel
theorem dX9_keeps_33 : decode cX9_keeps 33 = .ok (.iastore, 1) := by decide +kernel
theorem dX9_keeps_34 : decode cX9_keeps 34 = .ok (.iinc 1 1, 3) := by decide +kernel
theorem dX9_keeps_37 : decode cX9_keeps 37 = .ok (.goto (-25), 3) := by decide +kernel
theorem dX9_keeps_40 : decode cX9_keeps 40 = .ok (.aload_n 0, 1) := by decide +kernel
theorem dX9_keeps_41 : decode cX9_keeps 41 = .ok (.dup, 1) := by decide +kernel
theorem dX9_keeps_42 : decode cX9_keeps 42 = .ok (.getfield 296, 3) := by decide +kernel
theorem dX9_keeps_45 : decode cX9_keeps 45 = .ok (.iconst 1, 1) := by decide +kernel
theorem dX9_keeps_46 : decode cX9_keeps 46 = .ok (.isub, 1) := by decide +kernel
theorem dX9_keeps_47 : decode cX9_keeps 47 = .ok (.putfield 296, 3) := by decide +kernel
theorem dX9_keeps_50 : decode cX9_keeps 50 = .ok (.iconst 0, 1) := by decide +kernel
theorem dX9_keeps_51 : decode cX9_keeps 51 = .ok (.istore_n 1, 1) := by decide +kernel
theorem dX9_keeps_52 : decode cX9_keeps 52 = .ok (.iload_n 1, 1) := by decide +kernel
theorem dX9_keeps_53 : decode cX9_keeps 53 = .ok (.bipush 34, 2) := by decide +kernel
theorem dX9_keeps_55 : decode cX9_keeps 55 = .ok (.if_icmp .ge 29, 3) := by decide +kernel
theorem dX9_keeps_58 : decode cX9_keeps 58 = .ok (.aload_n 0, 1) := by decide +kernel
theorem dX9_keeps_59 : decode cX9_keeps 59 = .ok (.getfield 69, 3) := by decide +kernel
theorem dX9_keeps_62 : decode cX9_keeps 62 = .ok (.bipush 34, 2) := by decide +kernel
theorem dX9_keeps_64 : decode cX9_keeps 64 = .ok (.aload_n 0, 1) := by decide +kernel
theorem dX9_keeps_65 : decode cX9_keeps 65 = .ok (.getfield 296, 3) := by decide +kernel
theorem dX9_keeps_68 : decode cX9_keeps 68 = .ok (.imul, 1) := by decide +kernel
theorem dX9_keeps_69 : decode cX9_keeps 69 = .ok (.iload_n 1, 1) := by decide +kernel
theorem dX9_keeps_70 : decode cX9_keeps 70 = .ok (.iadd, 1) := by decide +kernel
theorem dX9_keeps_71 : decode cX9_keeps 71 = .ok (.aload_n 0, 1) := by decide +kernel
theorem dX9_keeps_72 : decode cX9_keeps 72 = .ok (.getfield 66, 3) := by decide +kernel
theorem dX9_keeps_75 : decode cX9_keeps 75 = .ok (.iload_n 1, 1) := by decide +kernel
theorem dX9_keeps_76 : decode cX9_keeps 76 = .ok (.iaload, 1) := by decide +kernel
theorem dX9_keeps_77 : decode cX9_keeps 77 = .ok (.iastore, 1) := by decide +kernel
theorem dX9_keeps_78 : decode cX9_keeps 78 = .ok (.iinc 1 1, 3) := by decide +kernel
theorem dX9_keeps_81 : decode cX9_keeps 81 = .ok (.goto (-29), 3) := by decide +kernel
theorem dX9_keeps_84 : decode cX9_keeps 84 = .ok (.aload_n 0, 1) := by decide +kernel
theorem dX9_keeps_85 : decode cX9_keeps 85 = .ok (.dup, 1) := by decide +kernel
theorem dX9_keeps_86 : decode cX9_keeps 86 = .ok (.getfield 296, 3) := by decide +kernel
theorem dX9_keeps_89 : decode cX9_keeps 89 = .ok (.iconst 1, 1) := by decide +kernel
theorem dX9_keeps_90 : decode cX9_keeps 90 = .ok (.iadd, 1) := by decide +kernel
theorem dX9_keeps_91 : decode cX9_keeps 91 = .ok (.putfield 296, 3) := by decide +kernel
theorem dX9_keeps_94 : decode cX9_keeps 94 = .ok (.return_, 1) := by decide +kernel
theorem dX9_refuses_0 : decode cX9_refuses 0 = .ok (.aload_n 0, 1) := by decide +kernel
theorem dX9_refuses_1 : decode cX9_refuses 1 = .ok (.getfield 38, 3) := by decide +kernel
theorem dX9_refuses_4 : decode cX9_refuses 4 = .ok (.iload_n 1, 1) := by decide +kernel
theorem dX9_refuses_5 : decode cX9_refuses 5 = .ok (.dup2, 1) := by decide +kernel
theorem dX9_refuses_6 : decode cX9_refuses 6 = .ok (.iaload, 1) := by decide +kernel
theorem dX9_refuses_7 : decode cX9_refuses 7 = .ok (.iconst 1, 1) := by decide +kernel
theorem dX9_refuses_8 : decode cX9_refuses 8 = .ok (.iadd, 1) := by decide +kernel
theorem dX9_refuses_9 : decode cX9_refuses 9 = .ok (.iastore, 1) := by decide +kernel
theorem dX9_refuses_10 : decode cX9_refuses 10 = .ok (.iconst (-1), 1) := by decide +kernel
theorem dX9_refuses_11 : decode cX9_refuses 11 = .ok (.ireturn, 1) := by decide +kernel
theorem dX9_undo_0 : decode cX9_undo 0 = .ok (.aload_n 0, 1) := by decide +kernel
theorem dX9_undo_1 : decode cX9_undo 1 = .ok (.iconst 0, 1) := by decide +kernel
theorem dX9_undo_2 : decode cX9_undo 2 = .ok (.putfield 102, 3) := by decide +kernel
theorem dX9_undo_5 : decode cX9_undo 5 = .ok (.aload_n 0, 1) := by decide +kernel
theorem dX9_undo_6 : decode cX9_undo 6 = .ok (.getfield 296, 3) := by decide +kernel
theorem dX9_undo_9 : decode cX9_undo 9 = .ok (.ifCond .ne 5, 3) := by decide +kernel
theorem dX9_undo_12 : decode cX9_undo 12 = .ok (.iconst (-1), 1) := by decide +kernel
theorem dX9_undo_13 : decode cX9_undo 13 = .ok (.ireturn, 1) := by decide +kernel
theorem dX9_undo_14 : decode cX9_undo 14 = .ok (.aload_n 0, 1) := by decide +kernel
theorem dX9_undo_15 : decode cX9_undo 15 = .ok (.dup, 1) := by decide +kernel
theorem dX9_undo_16 : decode cX9_undo 16 = .ok (.getfield 296, 3) := by decide +kernel
theorem dX9_undo_19 : decode cX9_undo 19 = .ok (.iconst 1, 1) := by decide +kernel
theorem dX9_undo_20 : decode cX9_undo 20 = .ok (.isub, 1) := by decide +kernel
theorem dX9_undo_21 : decode cX9_undo 21 = .ok (.putfield 296, 3) := by decide +kernel
theorem dX9_undo_24 : decode cX9_undo 24 = .ok (.iconst 0, 1) := by decide +kernel
theorem dX9_undo_25 : decode cX9_undo 25 = .ok (.istore_n 1, 1) := by decide +kernel
theorem dX9_undo_26 : decode cX9_undo 26 = .ok (.iload_n 1, 1) := by decide +kernel
theorem dX9_undo_27 : decode cX9_undo 27 = .ok (.bipush 34, 2) := by decide +kernel
theorem dX9_undo_29 : decode cX9_undo 29 = .ok (.if_icmp .ge 29, 3) := by decide +kernel
theorem dX9_undo_32 : decode cX9_undo 32 = .ok (.aload_n 0, 1) := by decide +kernel
theorem dX9_undo_33 : decode cX9_undo 33 = .ok (.getfield 66, 3) := by decide +kernel
theorem dX9_undo_36 : decode cX9_undo 36 = .ok (.iload_n 1, 1) := by decide +kernel
theorem dX9_undo_37 : decode cX9_undo 37 = .ok (.aload_n 0, 1) := by decide +kernel
theorem dX9_undo_38 : decode cX9_undo 38 = .ok (.getfield 69, 3) := by decide +kernel
theorem dX9_undo_41 : decode cX9_undo 41 = .ok (.bipush 34, 2) := by decide +kernel
theorem dX9_undo_43 : decode cX9_undo 43 = .ok (.aload_n 0, 1) := by decide +kernel
theorem dX9_undo_44 : decode cX9_undo 44 = .ok (.getfield 296, 3) := by decide +kernel
theorem dX9_undo_47 : decode cX9_undo 47 = .ok (.imul, 1) := by decide +kernel
theorem dX9_undo_48 : decode cX9_undo 48 = .ok (.iload_n 1, 1) := by decide +kernel
theorem dX9_undo_49 : decode cX9_undo 49 = .ok (.iadd, 1) := by decide +kernel
theorem dX9_undo_50 : decode cX9_undo 50 = .ok (.iaload, 1) := by decide +kernel
theorem dX9_undo_51 : decode cX9_undo 51 = .ok (.iastore, 1) := by decide +kernel
theorem dX9_undo_52 : decode cX9_undo 52 = .ok (.iinc 1 1, 3) := by decide +kernel
theorem dX9_undo_55 : decode cX9_undo 55 = .ok (.goto (-29), 3) := by decide +kernel
theorem dX9_undo_58 : decode cX9_undo 58 = .ok (.aload_n 0, 1) := by decide +kernel
theorem dX9_undo_59 : decode cX9_undo 59 = .ok (.getfield 296, 3) := by decide +kernel
theorem dX9_undo_62 : decode cX9_undo 62 = .ok (.ireturn, 1) := by decide +kernel
theorem dX9_tries_0 : decode cX9_tries 0 = .ok (.iconst 0, 1) := by decide +kernel
theorem dX9_tries_1 : decode cX9_tries 1 = .ok (.istore_n 1, 1) := by decide +kernel
theorem dX9_tries_2 : decode cX9_tries 2 = .ok (.iload_n 1, 1) := by decide +kernel
theorem dX9_tries_3 : decode cX9_tries 3 = .ok (.bipush 34, 2) := by decide +kernel
theorem dX9_tries_5 : decode cX9_tries 5 = .ok (.if_icmp .ge 24, 3) := by decide +kernel
theorem dX9_tries_8 : decode cX9_tries 8 = .ok (.aload_n 0, 1) := by decide +kernel
theorem dX9_tries_9 : decode cX9_tries 9 = .ok (.getfield 66, 3) := by decide +kernel
theorem dX9_tries_12 : decode cX9_tries 12 = .ok (.bipush 34, 2) := by decide +kernel
theorem dX9_tries_14 : decode cX9_tries 14 = .ok (.iload_n 1, 1) := by decide +kernel
theorem dX9_tries_15 : decode cX9_tries 15 = .ok (.iadd, 1) := by decide +kernel
theorem dX9_tries_16 : decode cX9_tries 16 = .ok (.aload_n 0, 1) := by decide +kernel
theorem dX9_tries_17 : decode cX9_tries 17 = .ok (.getfield 66, 3) := by decide +kernel
theorem dX9_tries_20 : decode cX9_tries 20 = .ok (.iload_n 1, 1) := by decide +kernel
theorem dX9_tries_21 : decode cX9_tries 21 = .ok (.iaload, 1) := by decide +kernel
theorem dX9_tries_22 : decode cX9_tries 22 = .ok (.iastore, 1) := by decide +kernel
theorem dX9_tries_23 : decode cX9_tries 23 = .ok (.iinc 1 1, 3) := by decide +kernel
theorem dX9_tries_26 : decode cX9_tries 26 = .ok (.goto (-24), 3) := by decide +kernel
theorem dX9_tries_29 : decode cX9_tries 29 = .ok (.return_, 1) := by decide +kernel
theorem dX9_works_0 : decode cX9_works 0 = .ok (.iload_n 0, 1) := by decide +kernel
theorem dX9_works_1 : decode cX9_works 1 = .ok (.tableswitch 105 4 10 #[43, 57, 71, 82, 93, 97, 101], 43) := by decide +kernel
theorem dX9_works_44 : decode cX9_works 44 = .ok (.iload_n 1, 1) := by decide +kernel
theorem dX9_works_45 : decode cX9_works 45 = .ok (.ifCond .eq 11, 3) := by decide +kernel
theorem dX9_works_48 : decode cX9_works 48 = .ok (.iload_n 2, 1) := by decide +kernel
theorem dX9_works_49 : decode cX9_works 49 = .ok (.ifCond .eq 7, 3) := by decide +kernel
theorem dX9_works_52 : decode cX9_works 52 = .ok (.iconst 1, 1) := by decide +kernel
theorem dX9_works_53 : decode cX9_works 53 = .ok (.goto 4, 3) := by decide +kernel
theorem dX9_works_56 : decode cX9_works 56 = .ok (.iconst 0, 1) := by decide +kernel
theorem dX9_works_57 : decode cX9_works 57 = .ok (.ireturn, 1) := by decide +kernel
theorem dX9_works_58 : decode cX9_works 58 = .ok (.iload_n 1, 1) := by decide +kernel
theorem dX9_works_59 : decode cX9_works 59 = .ok (.ifCond .ne 7, 3) := by decide +kernel
theorem dX9_works_62 : decode cX9_works 62 = .ok (.iload_n 2, 1) := by decide +kernel
theorem dX9_works_63 : decode cX9_works 63 = .ok (.ifCond .eq 7, 3) := by decide +kernel
theorem dX9_works_66 : decode cX9_works 66 = .ok (.iconst 1, 1) := by decide +kernel
theorem dX9_works_67 : decode cX9_works 67 = .ok (.goto 4, 3) := by decide +kernel
theorem dX9_works_70 : decode cX9_works 70 = .ok (.iconst 0, 1) := by decide +kernel
theorem dX9_works_71 : decode cX9_works 71 = .ok (.ireturn, 1) := by decide +kernel
theorem dX9_works_72 : decode cX9_works 72 = .ok (.iload_n 1, 1) := by decide +kernel
theorem dX9_works_73 : decode cX9_works 73 = .ok (.iload_n 2, 1) := by decide +kernel
theorem dX9_works_74 : decode cX9_works 74 = .ok (.if_icmp .ge 7, 3) := by decide +kernel
theorem dX9_works_77 : decode cX9_works 77 = .ok (.iconst 1, 1) := by decide +kernel
theorem dX9_works_78 : decode cX9_works 78 = .ok (.goto 4, 3) := by decide +kernel
theorem dX9_works_81 : decode cX9_works 81 = .ok (.iconst 0, 1) := by decide +kernel
theorem dX9_works_82 : decode cX9_works 82 = .ok (.ireturn, 1) := by decide +kernel
theorem dX9_works_83 : decode cX9_works 83 = .ok (.iload_n 1, 1) := by decide +kernel
theorem dX9_works_84 : decode cX9_works 84 = .ok (.iload_n 2, 1) := by decide +kernel
theorem dX9_works_85 : decode cX9_works 85 = .ok (.if_icmp .ne 7, 3) := by decide +kernel
theorem dX9_works_88 : decode cX9_works 88 = .ok (.iconst 1, 1) := by decide +kernel
theorem dX9_works_89 : decode cX9_works 89 = .ok (.goto 4, 3) := by decide +kernel
theorem dX9_works_92 : decode cX9_works 92 = .ok (.iconst 0, 1) := by decide +kernel
theorem dX9_works_93 : decode cX9_works 93 = .ok (.ireturn, 1) := by decide +kernel
theorem dX9_works_94 : decode cX9_works 94 = .ok (.iload_n 1, 1) := by decide +kernel
theorem dX9_works_95 : decode cX9_works 95 = .ok (.iload_n 2, 1) := by decide +kernel
theorem dX9_works_96 : decode cX9_works 96 = .ok (.iadd, 1) := by decide +kernel
theorem dX9_works_97 : decode cX9_works 97 = .ok (.ireturn, 1) := by decide +kernel
theorem dX9_works_98 : decode cX9_works 98 = .ok (.iload_n 1, 1) := by decide +kernel
theorem dX9_works_99 : decode cX9_works 99 = .ok (.iload_n 2, 1) := by decide +kernel
theorem dX9_works_100 : decode cX9_works 100 = .ok (.isub, 1) := by decide +kernel
theorem dX9_works_101 : decode cX9_works 101 = .ok (.ireturn, 1) := by decide +kernel
theorem dX9_works_102 : decode cX9_works 102 = .ok (.iload_n 1, 1) := by decide +kernel
theorem dX9_works_103 : decode cX9_works 103 = .ok (.iload_n 2, 1) := by decide +kernel
theorem dX9_works_104 : decode cX9_works 104 = .ok (.imul, 1) := by decide +kernel
theorem dX9_works_105 : decode cX9_works 105 = .ok (.ireturn, 1) := by decide +kernel
theorem dX9_works_106 : decode cX9_works 106 = .ok (.iload_n 2, 1) := by decide +kernel
theorem dX9_works_107 : decode cX9_works 107 = .ok (.ifCond .ne 7, 3) := by decide +kernel
theorem dX9_works_110 : decode cX9_works 110 = .ok (.iconst 0, 1) := by decide +kernel
theorem dX9_works_111 : decode cX9_works 111 = .ok (.goto 6, 3) := by decide +kernel
theorem dX9_works_114 : decode cX9_works 114 = .ok (.iload_n 1, 1) := by decide +kernel
theorem dX9_works_115 : decode cX9_works 115 = .ok (.iload_n 2, 1) := by decide +kernel
theorem dX9_works_116 : decode cX9_works 116 = .ok (.idiv, 1) := by decide +kernel
theorem dX9_works_117 : decode cX9_works 117 = .ok (.ireturn, 1) := by decide +kernel
theorem dX9_reckons_0 : decode cX9_reckons 0 = .ok (.iconst 0, 1) := by decide +kernel
theorem dX9_reckons_1 : decode cX9_reckons 1 = .ok (.istore_n 2, 1) := by decide +kernel
theorem dX9_reckons_2 : decode cX9_reckons 2 = .ok (.iload_n 1, 1) := by decide +kernel
theorem dX9_reckons_3 : decode cX9_reckons 3 = .ok (.istore_n 3, 1) := by decide +kernel
theorem dX9_reckons_4 : decode cX9_reckons 4 = .ok (.aload_n 0, 1) := by decide +kernel
theorem dX9_reckons_5 : decode cX9_reckons 5 = .ok (.getfield 29, 3) := by decide +kernel
theorem dX9_reckons_8 : decode cX9_reckons 8 = .ok (.iload_n 3, 1) := by decide +kernel
theorem dX9_reckons_9 : decode cX9_reckons 9 = .ok (.iaload, 1) := by decide +kernel
theorem dX9_reckons_10 : decode cX9_reckons 10 = .ok (.ifCond .eq 133, 3) := by decide +kernel
theorem dX9_reckons_13 : decode cX9_reckons 13 = .ok (.aload_n 0, 1) := by decide +kernel
theorem dX9_reckons_14 : decode cX9_reckons 14 = .ok (.getfield 29, 3) := by decide +kernel
theorem dX9_reckons_17 : decode cX9_reckons 17 = .ok (.iload_n 3, 1) := by decide +kernel
theorem dX9_reckons_18 : decode cX9_reckons 18 = .ok (.iaload, 1) := by decide +kernel
theorem dX9_reckons_19 : decode cX9_reckons 19 = .ok (.istore 4, 2) := by decide +kernel
theorem dX9_reckons_21 : decode cX9_reckons 21 = .ok (.iinc 3 1, 3) := by decide +kernel
theorem dX9_reckons_24 : decode cX9_reckons 24 = .ok (.iload 4, 2) := by decide +kernel
theorem dX9_reckons_26 : decode cX9_reckons 26 = .ok (.iconst 1, 1) := by decide +kernel
theorem dX9_reckons_27 : decode cX9_reckons 27 = .ok (.if_icmp .eq 9, 3) := by decide +kernel
theorem dX9_reckons_30 : decode cX9_reckons 30 = .ok (.iload 4, 2) := by decide +kernel
theorem dX9_reckons_32 : decode cX9_reckons 32 = .ok (.iconst 2, 1) := by decide +kernel
theorem dX9_reckons_33 : decode cX9_reckons 33 = .ok (.if_icmp .ne 44, 3) := by decide +kernel
theorem dX9_reckons_36 : decode cX9_reckons 36 = .ok (.aload_n 0, 1) := by decide +kernel
theorem dX9_reckons_37 : decode cX9_reckons 37 = .ok (.getfield 75, 3) := by decide +kernel
theorem dX9_reckons_40 : decode cX9_reckons 40 = .ok (.iload_n 2, 1) := by decide +kernel
theorem dX9_reckons_41 : decode cX9_reckons 41 = .ok (.iload 4, 2) := by decide +kernel
theorem dX9_reckons_43 : decode cX9_reckons 43 = .ok (.iconst 1, 1) := by decide +kernel
theorem dX9_reckons_44 : decode cX9_reckons 44 = .ok (.if_icmp .ne 12, 3) := by decide +kernel
theorem dX9_reckons_47 : decode cX9_reckons 47 = .ok (.aload_n 0, 1) := by decide +kernel
theorem dX9_reckons_48 : decode cX9_reckons 48 = .ok (.getfield 29, 3) := by decide +kernel
theorem dX9_reckons_51 : decode cX9_reckons 51 = .ok (.iload_n 3, 1) := by decide +kernel
theorem dX9_reckons_52 : decode cX9_reckons 52 = .ok (.iaload, 1) := by decide +kernel
theorem dX9_reckons_53 : decode cX9_reckons 53 = .ok (.goto 14, 3) := by decide +kernel
theorem dX9_reckons_56 : decode cX9_reckons 56 = .ok (.aload_n 0, 1) := by decide +kernel
theorem dX9_reckons_57 : decode cX9_reckons 57 = .ok (.getfield 72, 3) := by decide +kernel
theorem dX9_reckons_60 : decode cX9_reckons 60 = .ok (.aload_n 0, 1) := by decide +kernel
theorem dX9_reckons_61 : decode cX9_reckons 61 = .ok (.getfield 29, 3) := by decide +kernel
theorem dX9_reckons_64 : decode cX9_reckons 64 = .ok (.iload_n 3, 1) := by decide +kernel
theorem dX9_reckons_65 : decode cX9_reckons 65 = .ok (.iaload, 1) := by decide +kernel
theorem dX9_reckons_66 : decode cX9_reckons 66 = .ok (.iaload, 1) := by decide +kernel
theorem dX9_reckons_67 : decode cX9_reckons 67 = .ok (.iastore, 1) := by decide +kernel
theorem dX9_reckons_68 : decode cX9_reckons 68 = .ok (.iinc 3 1, 3) := by decide +kernel
theorem dX9_reckons_71 : decode cX9_reckons 71 = .ok (.iinc 2 1, 3) := by decide +kernel
theorem dX9_reckons_74 : decode cX9_reckons 74 = .ok (.goto 66, 3) := by decide +kernel
theorem dX9_reckons_77 : decode cX9_reckons 77 = .ok (.iload 4, 2) := by decide +kernel
theorem dX9_reckons_79 : decode cX9_reckons 79 = .ok (.iconst 3, 1) := by decide +kernel
theorem dX9_reckons_80 : decode cX9_reckons 80 = .ok (.if_icmp .ne 30, 3) := by decide +kernel
theorem dX9_reckons_83 : decode cX9_reckons 83 = .ok (.aload_n 0, 1) := by decide +kernel
theorem dX9_reckons_84 : decode cX9_reckons 84 = .ok (.getfield 75, 3) := by decide +kernel
theorem dX9_reckons_87 : decode cX9_reckons 87 = .ok (.iload_n 2, 1) := by decide +kernel
theorem dX9_reckons_88 : decode cX9_reckons 88 = .ok (.iconst 1, 1) := by decide +kernel
theorem dX9_reckons_89 : decode cX9_reckons 89 = .ok (.isub, 1) := by decide +kernel
theorem dX9_reckons_90 : decode cX9_reckons 90 = .ok (.aload_n 0, 1) := by decide +kernel
theorem dX9_reckons_91 : decode cX9_reckons 91 = .ok (.getfield 75, 3) := by decide +kernel
theorem dX9_reckons_94 : decode cX9_reckons 94 = .ok (.iload_n 2, 1) := by decide +kernel
theorem dX9_reckons_95 : decode cX9_reckons 95 = .ok (.iconst 1, 1) := by decide +kernel
theorem dX9_reckons_96 : decode cX9_reckons 96 = .ok (.isub, 1) := by decide +kernel
theorem dX9_reckons_97 : decode cX9_reckons 97 = .ok (.iaload, 1) := by decide +kernel
theorem dX9_reckons_98 : decode cX9_reckons 98 = .ok (.ifCond .ne 7, 3) := by decide +kernel
theorem dX9_reckons_101 : decode cX9_reckons 101 = .ok (.iconst 1, 1) := by decide +kernel
theorem dX9_reckons_102 : decode cX9_reckons 102 = .ok (.goto 4, 3) := by decide +kernel
theorem dX9_reckons_105 : decode cX9_reckons 105 = .ok (.iconst 0, 1) := by decide +kernel
theorem dX9_reckons_106 : decode cX9_reckons 106 = .ok (.iastore, 1) := by decide +kernel
theorem dX9_reckons_107 : decode cX9_reckons 107 = .ok (.goto 33, 3) := by decide +kernel
theorem dX9_reckons_110 : decode cX9_reckons 110 = .ok (.iinc 2 (-1), 3) := by decide +kernel
theorem dX9_reckons_113 : decode cX9_reckons 113 = .ok (.aload_n 0, 1) := by decide +kernel
theorem dX9_reckons_114 : decode cX9_reckons 114 = .ok (.getfield 75, 3) := by decide +kernel
theorem dX9_reckons_117 : decode cX9_reckons 117 = .ok (.iload_n 2, 1) := by decide +kernel
theorem dX9_reckons_118 : decode cX9_reckons 118 = .ok (.iconst 1, 1) := by decide +kernel
theorem dX9_reckons_119 : decode cX9_reckons 119 = .ok (.isub, 1) := by decide +kernel
theorem dX9_reckons_120 : decode cX9_reckons 120 = .ok (.iload 4, 2) := by decide +kernel
theorem dX9_reckons_122 : decode cX9_reckons 122 = .ok (.aload_n 0, 1) := by decide +kernel
theorem dX9_reckons_123 : decode cX9_reckons 123 = .ok (.getfield 75, 3) := by decide +kernel
theorem dX9_reckons_126 : decode cX9_reckons 126 = .ok (.iload_n 2, 1) := by decide +kernel
theorem dX9_reckons_127 : decode cX9_reckons 127 = .ok (.iconst 1, 1) := by decide +kernel
theorem dX9_reckons_128 : decode cX9_reckons 128 = .ok (.isub, 1) := by decide +kernel
theorem dX9_reckons_129 : decode cX9_reckons 129 = .ok (.iaload, 1) := by decide +kernel
theorem dX9_reckons_130 : decode cX9_reckons 130 = .ok (.aload_n 0, 1) := by decide +kernel
theorem dX9_reckons_131 : decode cX9_reckons 131 = .ok (.getfield 75, 3) := by decide +kernel
theorem dX9_reckons_134 : decode cX9_reckons 134 = .ok (.iload_n 2, 1) := by decide +kernel
theorem dX9_reckons_135 : decode cX9_reckons 135 = .ok (.iaload, 1) := by decide +kernel
theorem dX9_reckons_136 : decode cX9_reckons 136 = .ok (.invokestatic 306, 3) := by decide +kernel
theorem dX9_reckons_139 : decode cX9_reckons 139 = .ok (.iastore, 1) := by decide +kernel
theorem dX9_reckons_140 : decode cX9_reckons 140 = .ok (.goto (-136), 3) := by decide +kernel
theorem dX9_reckons_143 : decode cX9_reckons 143 = .ok (.aload_n 0, 1) := by decide +kernel
theorem dX9_reckons_144 : decode cX9_reckons 144 = .ok (.getfield 75, 3) := by decide +kernel
theorem dX9_reckons_147 : decode cX9_reckons 147 = .ok (.iconst 0, 1) := by decide +kernel
theorem dX9_reckons_148 : decode cX9_reckons 148 = .ok (.iaload, 1) := by decide +kernel
theorem dX9_reckons_149 : decode cX9_reckons 149 = .ok (.ireturn, 1) := by decide +kernel
theorem dX9_townOn_0 : decode cX9_townOn 0 = .ok (.aload_n 0, 1) := by decide +kernel
theorem dX9_townOn_1 : decode cX9_townOn 1 = .ok (.getfield 16, 3) := by decide +kernel
theorem dX9_townOn_4 : decode cX9_townOn 4 = .ok (.bipush 6, 2) := by decide +kernel
theorem dX9_townOn_6 : decode cX9_townOn 6 = .ok (.iload_n 1, 1) := by decide +kernel
theorem dX9_townOn_7 : decode cX9_townOn 7 = .ok (.imul, 1) := by decide +kernel
theorem dX9_townOn_8 : decode cX9_townOn 8 = .ok (.iload_n 2, 1) := by decide +kernel
theorem dX9_townOn_9 : decode cX9_townOn 9 = .ok (.aload_n 0, 1) := by decide +kernel
theorem dX9_townOn_10 : decode cX9_townOn 10 = .ok (.getfield 20, 3) := by decide +kernel
theorem dX9_townOn_13 : decode cX9_townOn 13 = .ok (.iload_n 1, 1) := by decide +kernel
theorem dX9_townOn_14 : decode cX9_townOn 14 = .ok (.iaload, 1) := by decide +kernel
theorem dX9_townOn_15 : decode cX9_townOn 15 = .ok (.irem, 1) := by decide +kernel
theorem dX9_townOn_16 : decode cX9_townOn 16 = .ok (.iadd, 1) := by decide +kernel
theorem dX9_townOn_17 : decode cX9_townOn 17 = .ok (.iaload, 1) := by decide +kernel
theorem dX9_townOn_18 : decode cX9_townOn 18 = .ok (.ireturn, 1) := by decide +kernel
theorem dX9_clerkIn_0 : decode cX9_clerkIn 0 = .ok (.aload_n 0, 1) := by decide +kernel
theorem dX9_clerkIn_1 : decode cX9_clerkIn 1 = .ok (.iload_n 2, 1) := by decide +kernel
theorem dX9_clerkIn_2 : decode cX9_clerkIn 2 = .ok (.aload_n 0, 1) := by decide +kernel
theorem dX9_clerkIn_3 : decode cX9_clerkIn 3 = .ok (.getfield 66, 3) := by decide +kernel
theorem dX9_clerkIn_6 : decode cX9_clerkIn 6 = .ok (.iload_n 1, 1) := by decide +kernel
theorem dX9_clerkIn_7 : decode cX9_clerkIn 7 = .ok (.iconst 0, 1) := by decide +kernel
theorem dX9_clerkIn_8 : decode cX9_clerkIn 8 = .ok (.iadd, 1) := by decide +kernel
theorem dX9_clerkIn_9 : decode cX9_clerkIn 9 = .ok (.iaload, 1) := by decide +kernel
theorem dX9_clerkIn_10 : decode cX9_clerkIn 10 = .ok (.invokevirtual 310, 3) := by decide +kernel
theorem dX9_clerkIn_13 : decode cX9_clerkIn 13 = .ok (.ireturn, 1) := by decide +kernel
theorem dX9_isBurnt_0 : decode cX9_isBurnt 0 = .ok (.aload_n 0, 1) := by decide +kernel
theorem dX9_isBurnt_1 : decode cX9_isBurnt 1 = .ok (.getfield 66, 3) := by decide +kernel
theorem dX9_isBurnt_4 : decode cX9_isBurnt 4 = .ok (.iload_n 1, 1) := by decide +kernel
theorem dX9_isBurnt_5 : decode cX9_isBurnt 5 = .ok (.bipush 19, 2) := by decide +kernel
theorem dX9_isBurnt_7 : decode cX9_isBurnt 7 = .ok (.iadd, 1) := by decide +kernel
theorem dX9_isBurnt_8 : decode cX9_isBurnt 8 = .ok (.iload_n 2, 1) := by decide +kernel
theorem dX9_isBurnt_9 : decode cX9_isBurnt 9 = .ok (.iadd, 1) := by decide +kernel
theorem dX9_isBurnt_10 : decode cX9_isBurnt 10 = .ok (.iaload, 1) := by decide +kernel
theorem dX9_isBurnt_11 : decode cX9_isBurnt 11 = .ok (.iconst (-1), 1) := by decide +kernel
theorem dX9_isBurnt_12 : decode cX9_isBurnt 12 = .ok (.if_icmp .ne 7, 3) := by decide +kernel
theorem dX9_isBurnt_15 : decode cX9_isBurnt 15 = .ok (.iconst 1, 1) := by decide +kernel
theorem dX9_isBurnt_16 : decode cX9_isBurnt 16 = .ok (.goto 4, 3) := by decide +kernel
theorem dX9_isBurnt_19 : decode cX9_isBurnt 19 = .ok (.iconst 0, 1) := by decide +kernel
theorem dX9_isBurnt_20 : decode cX9_isBurnt 20 = .ok (.ireturn, 1) := by decide +kernel
theorem dX9_sheetIn_0 : decode cX9_sheetIn 0 = .ok (.aload_n 0, 1) := by decide +kernel
theorem dX9_sheetIn_1 : decode cX9_sheetIn 1 = .ok (.getfield 66, 3) := by decide +kernel
theorem dX9_sheetIn_4 : decode cX9_sheetIn 4 = .ok (.iload_n 1, 1) := by decide +kernel
theorem dX9_sheetIn_5 : decode cX9_sheetIn 5 = .ok (.bipush 19, 2) := by decide +kernel
theorem dX9_sheetIn_7 : decode cX9_sheetIn 7 = .ok (.iadd, 1) := by decide +kernel
theorem dX9_sheetIn_8 : decode cX9_sheetIn 8 = .ok (.iload_n 2, 1) := by decide +kernel
theorem dX9_sheetIn_9 : decode cX9_sheetIn 9 = .ok (.iadd, 1) := by decide +kernel
theorem dX9_sheetIn_10 : decode cX9_sheetIn 10 = .ok (.iaload, 1) := by decide +kernel
theorem dX9_sheetIn_11 : decode cX9_sheetIn 11 = .ok (.istore_n 3, 1) := by decide +kernel
theorem dX9_sheetIn_12 : decode cX9_sheetIn 12 = .ok (.iload_n 3, 1) := by decide +kernel
theorem dX9_sheetIn_13 : decode cX9_sheetIn 13 = .ok (.bipush 10, 2) := by decide +kernel
theorem dX9_sheetIn_15 : decode cX9_sheetIn 15 = .ok (.if_icmp .ge 7, 3) := by decide +kernel
theorem dX9_sheetIn_18 : decode cX9_sheetIn 18 = .ok (.iload_n 3, 1) := by decide +kernel
theorem dX9_sheetIn_19 : decode cX9_sheetIn 19 = .ok (.goto 12, 3) := by decide +kernel
theorem dX9_sheetIn_22 : decode cX9_sheetIn 22 = .ok (.aload_n 0, 1) := by decide +kernel
theorem dX9_sheetIn_23 : decode cX9_sheetIn 23 = .ok (.iload_n 1, 1) := by decide +kernel
theorem dX9_sheetIn_24 : decode cX9_sheetIn 24 = .ok (.iload_n 3, 1) := by decide +kernel
theorem dX9_sheetIn_25 : decode cX9_sheetIn 25 = .ok (.bipush 10, 2) := by decide +kernel
theorem dX9_sheetIn_27 : decode cX9_sheetIn 27 = .ok (.isub, 1) := by decide +kernel
theorem dX9_sheetIn_28 : decode cX9_sheetIn 28 = .ok (.invokevirtual 313, 3) := by decide +kernel
theorem dX9_sheetIn_31 : decode cX9_sheetIn 31 = .ok (.ireturn, 1) := by decide +kernel
theorem dX9_offBy_0 : decode cX9_offBy 0 = .ok (.aload_n 0, 1) := by decide +kernel
theorem dX9_offBy_1 : decode cX9_offBy 1 = .ok (.getfield 66, 3) := by decide +kernel
theorem dX9_offBy_4 : decode cX9_offBy 4 = .ok (.iload_n 1, 1) := by decide +kernel
theorem dX9_offBy_5 : decode cX9_offBy 5 = .ok (.bipush 10, 2) := by decide +kernel
theorem dX9_offBy_7 : decode cX9_offBy 7 = .ok (.iadd, 1) := by decide +kernel
theorem dX9_offBy_8 : decode cX9_offBy 8 = .ok (.iload_n 2, 1) := by decide +kernel
theorem dX9_offBy_9 : decode cX9_offBy 9 = .ok (.iadd, 1) := by decide +kernel
theorem dX9_offBy_10 : decode cX9_offBy 10 = .ok (.iaload, 1) := by decide +kernel
theorem dX9_offBy_11 : decode cX9_offBy 11 = .ok (.aload_n 0, 1) := by decide +kernel
theorem dX9_offBy_12 : decode cX9_offBy 12 = .ok (.getfield 66, 3) := by decide +kernel
theorem dX9_offBy_15 : decode cX9_offBy 15 = .ok (.iload_n 1, 1) := by decide +kernel
theorem dX9_offBy_16 : decode cX9_offBy 16 = .ok (.iconst 1, 1) := by decide +kernel
theorem dX9_offBy_17 : decode cX9_offBy 17 = .ok (.iadd, 1) := by decide +kernel
theorem dX9_offBy_18 : decode cX9_offBy 18 = .ok (.iload_n 3, 1) := by decide +kernel
theorem dX9_offBy_19 : decode cX9_offBy 19 = .ok (.iadd, 1) := by decide +kernel
theorem dX9_offBy_20 : decode cX9_offBy 20 = .ok (.iaload, 1) := by decide +kernel
theorem dX9_offBy_21 : decode cX9_offBy 21 = .ok (.ixor, 1) := by decide +kernel
theorem dX9_offBy_22 : decode cX9_offBy 22 = .ok (.invokestatic 316, 3) := by decide +kernel
theorem dX9_offBy_25 : decode cX9_offBy 25 = .ok (.ireturn, 1) := by decide +kernel
theorem dX9_doesFit_0 : decode cX9_doesFit 0 = .ok (.iload_n 2, 1) := by decide +kernel
theorem dX9_doesFit_1 : decode cX9_doesFit 1 = .ok (.iload_n 3, 1) := by decide +kernel
theorem dX9_doesFit_2 : decode cX9_doesFit 2 = .ok (.if_icmp .eq 39, 3) := by decide +kernel
theorem dX9_doesFit_5 : decode cX9_doesFit 5 = .ok (.aload_n 0, 1) := by decide +kernel
theorem dX9_doesFit_6 : decode cX9_doesFit 6 = .ok (.iload_n 1, 1) := by decide +kernel
theorem dX9_doesFit_7 : decode cX9_doesFit 7 = .ok (.iload_n 2, 1) := by decide +kernel
theorem dX9_doesFit_8 : decode cX9_doesFit 8 = .ok (.invokevirtual 319, 3) := by decide +kernel
theorem dX9_doesFit_11 : decode cX9_doesFit 11 = .ok (.ifCond .ne 30, 3) := by decide +kernel
theorem dX9_doesFit_14 : decode cX9_doesFit 14 = .ok (.aload_n 0, 1) := by decide +kernel
theorem dX9_doesFit_15 : decode cX9_doesFit 15 = .ok (.iload_n 1, 1) := by decide +kernel
theorem dX9_doesFit_16 : decode cX9_doesFit 16 = .ok (.iload_n 3, 1) := by decide +kernel
theorem dX9_doesFit_17 : decode cX9_doesFit 17 = .ok (.invokevirtual 319, 3) := by decide +kernel
theorem dX9_doesFit_20 : decode cX9_doesFit 20 = .ok (.ifCond .ne 21, 3) := by decide +kernel
theorem dX9_doesFit_23 : decode cX9_doesFit 23 = .ok (.aload_n 0, 1) := by decide +kernel
theorem dX9_doesFit_24 : decode cX9_doesFit 24 = .ok (.iload_n 1, 1) := by decide +kernel
theorem dX9_doesFit_25 : decode cX9_doesFit 25 = .ok (.iload_n 2, 1) := by decide +kernel
theorem dX9_doesFit_26 : decode cX9_doesFit 26 = .ok (.iload_n 3, 1) := by decide +kernel
theorem dX9_doesFit_27 : decode cX9_doesFit 27 = .ok (.invokevirtual 322, 3) := by decide +kernel
theorem dX9_doesFit_30 : decode cX9_doesFit 30 = .ok (.aload_n 0, 1) := by decide +kernel
theorem dX9_doesFit_31 : decode cX9_doesFit 31 = .ok (.getfield 289, 3) := by decide +kernel
theorem dX9_doesFit_34 : decode cX9_doesFit 34 = .ok (.if_icmp .gt 7, 3) := by decide +kernel
theorem dX9_doesFit_37 : decode cX9_doesFit 37 = .ok (.iconst 1, 1) := by decide +kernel
theorem dX9_doesFit_38 : decode cX9_doesFit 38 = .ok (.goto 4, 3) := by decide +kernel
theorem dX9_doesFit_41 : decode cX9_doesFit 41 = .ok (.iconst 0, 1) := by decide +kernel
theorem dX9_doesFit_42 : decode cX9_doesFit 42 = .ok (.ireturn, 1) := by decide +kernel
theorem dX9_clerksAt_0 : decode cX9_clerksAt 0 = .ok (.iconst 0, 1) := by decide +kernel
theorem dX9_clerksAt_1 : decode cX9_clerksAt 1 = .ok (.istore_n 3, 1) := by decide +kernel
theorem dX9_clerksAt_2 : decode cX9_clerksAt 2 = .ok (.iconst 0, 1) := by decide +kernel
theorem dX9_clerksAt_3 : decode cX9_clerksAt 3 = .ok (.istore 4, 2) := by decide +kernel
theorem dX9_clerksAt_5 : decode cX9_clerksAt 5 = .ok (.iload 4, 2) := by decide +kernel
theorem dX9_clerksAt_7 : decode cX9_clerksAt 7 = .ok (.aload_n 0, 1) := by decide +kernel
theorem dX9_clerksAt_8 : decode cX9_clerksAt 8 = .ok (.getfield 283, 3) := by decide +kernel
theorem dX9_clerksAt_11 : decode cX9_clerksAt 11 = .ok (.if_icmp .ge 31, 3) := by decide +kernel
theorem dX9_clerksAt_14 : decode cX9_clerksAt 14 = .ok (.iload_n 3, 1) := by decide +kernel
theorem dX9_clerksAt_15 : decode cX9_clerksAt 15 = .ok (.aload_n 0, 1) := by decide +kernel
theorem dX9_clerksAt_16 : decode cX9_clerksAt 16 = .ok (.iload_n 1, 1) := by decide +kernel
theorem dX9_clerksAt_17 : decode cX9_clerksAt 17 = .ok (.iload 4, 2) := by decide +kernel
theorem dX9_clerksAt_19 : decode cX9_clerksAt 19 = .ok (.invokevirtual 313, 3) := by decide +kernel
theorem dX9_clerksAt_22 : decode cX9_clerksAt 22 = .ok (.iload_n 2, 1) := by decide +kernel
theorem dX9_clerksAt_23 : decode cX9_clerksAt 23 = .ok (.if_icmp .ne 10, 3) := by decide +kernel
theorem dX9_clerksAt_26 : decode cX9_clerksAt 26 = .ok (.iconst 1, 1) := by decide +kernel
theorem dX9_clerksAt_27 : decode cX9_clerksAt 27 = .ok (.iload 4, 2) := by decide +kernel
theorem dX9_clerksAt_29 : decode cX9_clerksAt 29 = .ok (.ishl, 1) := by decide +kernel
theorem dX9_clerksAt_30 : decode cX9_clerksAt 30 = .ok (.goto 4, 3) := by decide +kernel
theorem dX9_clerksAt_33 : decode cX9_clerksAt 33 = .ok (.iconst 0, 1) := by decide +kernel
theorem dX9_clerksAt_34 : decode cX9_clerksAt 34 = .ok (.ior, 1) := by decide +kernel
theorem dX9_clerksAt_35 : decode cX9_clerksAt 35 = .ok (.istore_n 3, 1) := by decide +kernel
theorem dX9_clerksAt_36 : decode cX9_clerksAt 36 = .ok (.iinc 4 1, 3) := by decide +kernel
theorem dX9_clerksAt_39 : decode cX9_clerksAt 39 = .ok (.goto (-34), 3) := by decide +kernel
theorem dX9_clerksAt_42 : decode cX9_clerksAt 42 = .ok (.iload_n 3, 1) := by decide +kernel
theorem dX9_clerksAt_43 : decode cX9_clerksAt 43 = .ok (.ireturn, 1) := by decide +kernel
theorem dX9_sheetsAt_0 : decode cX9_sheetsAt 0 = .ok (.iconst 0, 1) := by decide +kernel
theorem dX9_sheetsAt_1 : decode cX9_sheetsAt 1 = .ok (.istore_n 3, 1) := by decide +kernel
theorem dX9_sheetsAt_2 : decode cX9_sheetsAt 2 = .ok (.iconst 0, 1) := by decide +kernel
theorem dX9_sheetsAt_3 : decode cX9_sheetsAt 3 = .ok (.istore 4, 2) := by decide +kernel
theorem dX9_sheetsAt_5 : decode cX9_sheetsAt 5 = .ok (.iload 4, 2) := by decide +kernel
theorem dX9_sheetsAt_7 : decode cX9_sheetsAt 7 = .ok (.aload_n 0, 1) := by decide +kernel
theorem dX9_sheetsAt_8 : decode cX9_sheetsAt 8 = .ok (.getfield 280, 3) := by decide +kernel
theorem dX9_sheetsAt_11 : decode cX9_sheetsAt 11 = .ok (.if_icmp .ge 31, 3) := by decide +kernel
theorem dX9_sheetsAt_14 : decode cX9_sheetsAt 14 = .ok (.iload_n 3, 1) := by decide +kernel
theorem dX9_sheetsAt_15 : decode cX9_sheetsAt 15 = .ok (.aload_n 0, 1) := by decide +kernel
theorem dX9_sheetsAt_16 : decode cX9_sheetsAt 16 = .ok (.iload_n 1, 1) := by decide +kernel
theorem dX9_sheetsAt_17 : decode cX9_sheetsAt 17 = .ok (.iload 4, 2) := by decide +kernel
theorem dX9_sheetsAt_19 : decode cX9_sheetsAt 19 = .ok (.invokevirtual 325, 3) := by decide +kernel
theorem dX9_sheetsAt_22 : decode cX9_sheetsAt 22 = .ok (.iload_n 2, 1) := by decide +kernel
theorem dX9_sheetsAt_23 : decode cX9_sheetsAt 23 = .ok (.if_icmp .ne 10, 3) := by decide +kernel
theorem dX9_sheetsAt_26 : decode cX9_sheetsAt 26 = .ok (.iconst 1, 1) := by decide +kernel
theorem dX9_sheetsAt_27 : decode cX9_sheetsAt 27 = .ok (.iload 4, 2) := by decide +kernel
theorem dX9_sheetsAt_29 : decode cX9_sheetsAt 29 = .ok (.ishl, 1) := by decide +kernel
theorem dX9_sheetsAt_30 : decode cX9_sheetsAt 30 = .ok (.goto 4, 3) := by decide +kernel
theorem dX9_sheetsAt_33 : decode cX9_sheetsAt 33 = .ok (.iconst 0, 1) := by decide +kernel
theorem dX9_sheetsAt_34 : decode cX9_sheetsAt 34 = .ok (.ior, 1) := by decide +kernel
theorem dX9_sheetsAt_35 : decode cX9_sheetsAt 35 = .ok (.istore_n 3, 1) := by decide +kernel
theorem dX9_sheetsAt_36 : decode cX9_sheetsAt 36 = .ok (.iinc 4 1, 3) := by decide +kernel
theorem dX9_sheetsAt_39 : decode cX9_sheetsAt 39 = .ok (.goto (-34), 3) := by decide +kernel
theorem dX9_sheetsAt_42 : decode cX9_sheetsAt 42 = .ok (.iload_n 3, 1) := by decide +kernel
theorem dX9_sheetsAt_43 : decode cX9_sheetsAt 43 = .ok (.ireturn, 1) := by decide +kernel
theorem dX9_showsIn_0 : decode cX9_showsIn 0 = .ok (.aload_n 0, 1) := by decide +kernel
theorem dX9_showsIn_1 : decode cX9_showsIn 1 = .ok (.iload_n 1, 1) := by decide +kernel
theorem dX9_showsIn_2 : decode cX9_showsIn 2 = .ok (.iload_n 2, 1) := by decide +kernel
theorem dX9_showsIn_3 : decode cX9_showsIn 3 = .ok (.invokevirtual 328, 3) := by decide +kernel
theorem dX9_showsIn_6 : decode cX9_showsIn 6 = .ok (.istore_n 3, 1) := by decide +kernel
theorem dX9_showsIn_7 : decode cX9_showsIn 7 = .ok (.iconst 0, 1) := by decide +kernel
theorem dX9_showsIn_8 : decode cX9_showsIn 8 = .ok (.istore 4, 2) := by decide +kernel
theorem dX9_showsIn_10 : decode cX9_showsIn 10 = .ok (.iconst 0, 1) := by decide +kernel
theorem dX9_showsIn_11 : decode cX9_showsIn 11 = .ok (.istore 5, 2) := by decide +kernel
theorem dX9_showsIn_13 : decode cX9_showsIn 13 = .ok (.iload 5, 2) := by decide +kernel
theorem dX9_showsIn_15 : decode cX9_showsIn 15 = .ok (.aload_n 0, 1) := by decide +kernel
theorem dX9_showsIn_16 : decode cX9_showsIn 16 = .ok (.getfield 286, 3) := by decide +kernel
theorem dX9_showsIn_19 : decode cX9_showsIn 19 = .ok (.if_icmp .ge 69, 3) := by decide +kernel
theorem dX9_showsIn_22 : decode cX9_showsIn 22 = .ok (.iload 4, 2) := by decide +kernel
theorem dX9_showsIn_24 : decode cX9_showsIn 24 = .ok (.iload_n 3, 1) := by decide +kernel
theorem dX9_showsIn_25 : decode cX9_showsIn 25 = .ok (.aload_n 0, 1) := by decide +kernel
theorem dX9_showsIn_26 : decode cX9_showsIn 26 = .ok (.getfield 23, 3) := by decide +kernel
theorem dX9_showsIn_29 : decode cX9_showsIn 29 = .ok (.iload 5, 2) := by decide +kernel
theorem dX9_showsIn_31 : decode cX9_showsIn 31 = .ok (.iaload, 1) := by decide +kernel
theorem dX9_showsIn_32 : decode cX9_showsIn 32 = .ok (.ishr, 1) := by decide +kernel
theorem dX9_showsIn_33 : decode cX9_showsIn 33 = .ok (.iload_n 3, 1) := by decide +kernel
theorem dX9_showsIn_34 : decode cX9_showsIn 34 = .ok (.aload_n 0, 1) := by decide +kernel
theorem dX9_showsIn_35 : decode cX9_showsIn 35 = .ok (.getfield 26, 3) := by decide +kernel
theorem dX9_showsIn_38 : decode cX9_showsIn 38 = .ok (.iload 5, 2) := by decide +kernel
theorem dX9_showsIn_40 : decode cX9_showsIn 40 = .ok (.iaload, 1) := by decide +kernel
theorem dX9_showsIn_41 : decode cX9_showsIn 41 = .ok (.ishr, 1) := by decide +kernel
theorem dX9_showsIn_42 : decode cX9_showsIn 42 = .ok (.iand, 1) := by decide +kernel
theorem dX9_showsIn_43 : decode cX9_showsIn 43 = .ok (.iconst 1, 1) := by decide +kernel
theorem dX9_showsIn_44 : decode cX9_showsIn 44 = .ok (.iand, 1) := by decide +kernel
theorem dX9_showsIn_45 : decode cX9_showsIn 45 = .ok (.iconst 1, 1) := by decide +kernel
theorem dX9_showsIn_46 : decode cX9_showsIn 46 = .ok (.if_icmp .ne 32, 3) := by decide +kernel
theorem dX9_showsIn_49 : decode cX9_showsIn 49 = .ok (.aload_n 0, 1) := by decide +kernel
theorem dX9_showsIn_50 : decode cX9_showsIn 50 = .ok (.iload_n 1, 1) := by decide +kernel
theorem dX9_showsIn_51 : decode cX9_showsIn 51 = .ok (.aload_n 0, 1) := by decide +kernel
theorem dX9_showsIn_52 : decode cX9_showsIn 52 = .ok (.getfield 23, 3) := by decide +kernel
theorem dX9_showsIn_55 : decode cX9_showsIn 55 = .ok (.iload 5, 2) := by decide +kernel
theorem dX9_showsIn_57 : decode cX9_showsIn 57 = .ok (.iaload, 1) := by decide +kernel
theorem dX9_showsIn_58 : decode cX9_showsIn 58 = .ok (.aload_n 0, 1) := by decide +kernel
theorem dX9_showsIn_59 : decode cX9_showsIn 59 = .ok (.getfield 26, 3) := by decide +kernel
theorem dX9_showsIn_62 : decode cX9_showsIn 62 = .ok (.iload 5, 2) := by decide +kernel
theorem dX9_showsIn_64 : decode cX9_showsIn 64 = .ok (.iaload, 1) := by decide +kernel
theorem dX9_showsIn_65 : decode cX9_showsIn 65 = .ok (.invokevirtual 331, 3) := by decide +kernel
theorem dX9_showsIn_68 : decode cX9_showsIn 68 = .ok (.ifCond .eq 10, 3) := by decide +kernel
theorem dX9_showsIn_71 : decode cX9_showsIn 71 = .ok (.iconst 1, 1) := by decide +kernel
theorem dX9_showsIn_72 : decode cX9_showsIn 72 = .ok (.iload 5, 2) := by decide +kernel
theorem dX9_showsIn_74 : decode cX9_showsIn 74 = .ok (.ishl, 1) := by decide +kernel
theorem dX9_showsIn_75 : decode cX9_showsIn 75 = .ok (.goto 4, 3) := by decide +kernel
theorem dX9_showsIn_78 : decode cX9_showsIn 78 = .ok (.iconst 0, 1) := by decide +kernel
theorem dX9_showsIn_79 : decode cX9_showsIn 79 = .ok (.ior, 1) := by decide +kernel
theorem dX9_showsIn_80 : decode cX9_showsIn 80 = .ok (.istore 4, 2) := by decide +kernel
theorem dX9_showsIn_82 : decode cX9_showsIn 82 = .ok (.iinc 5 1, 3) := by decide +kernel
theorem dX9_showsIn_85 : decode cX9_showsIn 85 = .ok (.goto (-72), 3) := by decide +kernel
theorem dX9_showsIn_88 : decode cX9_showsIn 88 = .ok (.iload 4, 2) := by decide +kernel
theorem dX9_showsIn_90 : decode cX9_showsIn 90 = .ok (.ireturn, 1) := by decide +kernel
theorem dX9_knownBy_0 : decode cX9_knownBy 0 = .ok (.iconst 0, 1) := by decide +kernel
theorem dX9_knownBy_1 : decode cX9_knownBy 1 = .ok (.istore_n 3, 1) := by decide +kernel
theorem dX9_knownBy_2 : decode cX9_knownBy 2 = .ok (.iconst 0, 1) := by decide +kernel
theorem dX9_knownBy_3 : decode cX9_knownBy 3 = .ok (.istore 4, 2) := by decide +kernel
theorem dX9_knownBy_5 : decode cX9_knownBy 5 = .ok (.iload 4, 2) := by decide +kernel
theorem dX9_knownBy_7 : decode cX9_knownBy 7 = .ok (.aload_n 0, 1) := by decide +kernel
theorem dX9_knownBy_8 : decode cX9_knownBy 8 = .ok (.getfield 283, 3) := by decide +kernel
theorem dX9_knownBy_11 : decode cX9_knownBy 11 = .ok (.if_icmp .ge 38, 3) := by decide +kernel
theorem dX9_knownBy_14 : decode cX9_knownBy 14 = .ok (.iload_n 3, 1) := by decide +kernel
theorem dX9_knownBy_15 : decode cX9_knownBy 15 = .ok (.iload_n 2, 1) := by decide +kernel
theorem dX9_knownBy_16 : decode cX9_knownBy 16 = .ok (.iload 4, 2) := by decide +kernel
theorem dX9_knownBy_18 : decode cX9_knownBy 18 = .ok (.ishr, 1) := by decide +kernel
theorem dX9_knownBy_19 : decode cX9_knownBy 19 = .ok (.iconst 1, 1) := by decide +kernel
theorem dX9_knownBy_20 : decode cX9_knownBy 20 = .ok (.iand, 1) := by decide +kernel
theorem dX9_knownBy_21 : decode cX9_knownBy 21 = .ok (.iconst 1, 1) := by decide +kernel
theorem dX9_knownBy_22 : decode cX9_knownBy 22 = .ok (.if_icmp .ne 18, 3) := by decide +kernel
theorem dX9_knownBy_25 : decode cX9_knownBy 25 = .ok (.aload_n 0, 1) := by decide +kernel
theorem dX9_knownBy_26 : decode cX9_knownBy 26 = .ok (.getfield 66, 3) := by decide +kernel
theorem dX9_knownBy_29 : decode cX9_knownBy 29 = .ok (.iload_n 1, 1) := by decide +kernel
theorem dX9_knownBy_30 : decode cX9_knownBy 30 = .ok (.bipush 28, 2) := by decide +kernel
theorem dX9_knownBy_32 : decode cX9_knownBy 32 = .ok (.iadd, 1) := by decide +kernel
theorem dX9_knownBy_33 : decode cX9_knownBy 33 = .ok (.iload 4, 2) := by decide +kernel
theorem dX9_knownBy_35 : decode cX9_knownBy 35 = .ok (.iadd, 1) := by decide +kernel
theorem dX9_knownBy_36 : decode cX9_knownBy 36 = .ok (.iaload, 1) := by decide +kernel
theorem dX9_knownBy_37 : decode cX9_knownBy 37 = .ok (.goto 4, 3) := by decide +kernel
theorem dX9_knownBy_40 : decode cX9_knownBy 40 = .ok (.iconst 0, 1) := by decide +kernel
theorem dX9_knownBy_41 : decode cX9_knownBy 41 = .ok (.ior, 1) := by decide +kernel
theorem dX9_knownBy_42 : decode cX9_knownBy 42 = .ok (.istore_n 3, 1) := by decide +kernel
theorem dX9_knownBy_43 : decode cX9_knownBy 43 = .ok (.iinc 4 1, 3) := by decide +kernel
theorem dX9_knownBy_46 : decode cX9_knownBy 46 = .ok (.goto (-41), 3) := by decide +kernel
theorem dX9_knownBy_49 : decode cX9_knownBy 49 = .ok (.iload_n 3, 1) := by decide +kernel
theorem dX9_knownBy_50 : decode cX9_knownBy 50 = .ok (.ireturn, 1) := by decide +kernel
theorem dX9_learns_0 : decode cX9_learns 0 = .ok (.iconst 0, 1) := by decide +kernel
theorem dX9_learns_1 : decode cX9_learns 1 = .ok (.istore 4, 2) := by decide +kernel
theorem dX9_learns_3 : decode cX9_learns 3 = .ok (.iload 4, 2) := by decide +kernel
theorem dX9_learns_5 : decode cX9_learns 5 = .ok (.aload_n 0, 1) := by decide +kernel
theorem dX9_learns_6 : decode cX9_learns 6 = .ok (.getfield 283, 3) := by decide +kernel
theorem dX9_learns_9 : decode cX9_learns 9 = .ok (.if_icmp .ge 39, 3) := by decide +kernel
theorem dX9_learns_12 : decode cX9_learns 12 = .ok (.aload_n 0, 1) := by decide +kernel
theorem dX9_learns_13 : decode cX9_learns 13 = .ok (.getfield 66, 3) := by decide +kernel
theorem dX9_learns_16 : decode cX9_learns 16 = .ok (.iload_n 1, 1) := by decide +kernel
theorem dX9_learns_17 : decode cX9_learns 17 = .ok (.bipush 28, 2) := by decide +kernel
theorem dX9_learns_19 : decode cX9_learns 19 = .ok (.iadd, 1) := by decide +kernel
theorem dX9_learns_20 : decode cX9_learns 20 = .ok (.iload 4, 2) := by decide +kernel
theorem dX9_learns_22 : decode cX9_learns 22 = .ok (.iadd, 1) := by decide +kernel
theorem dX9_learns_23 : decode cX9_learns 23 = .ok (.dup2, 1) := by decide +kernel
theorem dX9_learns_24 : decode cX9_learns 24 = .ok (.iaload, 1) := by decide +kernel
theorem dX9_learns_25 : decode cX9_learns 25 = .ok (.iload_n 2, 1) := by decide +kernel
theorem dX9_learns_26 : decode cX9_learns 26 = .ok (.iload 4, 2) := by decide +kernel
theorem dX9_learns_28 : decode cX9_learns 28 = .ok (.ishr, 1) := by decide +kernel
theorem dX9_learns_29 : decode cX9_learns 29 = .ok (.iconst 1, 1) := by decide +kernel
theorem dX9_learns_30 : decode cX9_learns 30 = .ok (.iand, 1) := by decide +kernel
theorem dX9_learns_31 : decode cX9_learns 31 = .ok (.iconst 1, 1) := by decide +kernel
theorem dX9_learns_32 : decode cX9_learns 32 = .ok (.if_icmp .ne 7, 3) := by decide +kernel
theorem dX9_learns_35 : decode cX9_learns 35 = .ok (.iload_n 3, 1) := by decide +kernel
theorem dX9_learns_36 : decode cX9_learns 36 = .ok (.goto 4, 3) := by decide +kernel
theorem dX9_learns_39 : decode cX9_learns 39 = .ok (.iconst 0, 1) := by decide +kernel
theorem dX9_learns_40 : decode cX9_learns 40 = .ok (.ior, 1) := by decide +kernel
theorem dX9_learns_41 : decode cX9_learns 41 = .ok (.iastore, 1) := by decide +kernel
theorem dX9_learns_42 : decode cX9_learns 42 = .ok (.iinc 4 1, 3) := by decide +kernel
theorem dX9_learns_45 : decode cX9_learns 45 = .ok (.goto (-42), 3) := by decide +kernel
theorem dX9_learns_48 : decode cX9_learns 48 = .ok (.return_, 1) := by decide +kernel
theorem dX9_doesLay_0 : decode cX9_doesLay 0 = .ok (.aload_n 0, 1) := by decide +kernel
theorem dX9_doesLay_1 : decode cX9_doesLay 1 = .ok (.getfield 9, 3) := by decide +kernel
theorem dX9_doesLay_4 : decode cX9_doesLay 4 = .ok (.iconst (-1), 1) := by decide +kernel
theorem dX9_doesLay_5 : decode cX9_doesLay 5 = .ok (.if_icmp .ne 5, 3) := by decide +kernel
theorem dX9_doesLay_8 : decode cX9_doesLay 8 = .ok (.iconst 1, 1) := by decide +kernel
theorem dX9_doesLay_9 : decode cX9_doesLay 9 = .ok (.ireturn, 1) := by decide +kernel
theorem dX9_doesLay_10 : decode cX9_doesLay 10 = .ok (.aload_n 0, 1) := by decide +kernel
theorem dX9_doesLay_11 : decode cX9_doesLay 11 = .ok (.getfield 72, 3) := by decide +kernel
theorem dX9_doesLay_14 : decode cX9_doesLay 14 = .ok (.iconst 4, 1) := by decide +kernel
theorem dX9_doesLay_15 : decode cX9_doesLay 15 = .ok (.iload_n 2, 1) := by decide +kernel
theorem dX9_doesLay_16 : decode cX9_doesLay 16 = .ok (.iastore, 1) := by decide +kernel
theorem dX9_doesLay_17 : decode cX9_doesLay 17 = .ok (.aload_n 0, 1) := by decide +kernel
theorem dX9_doesLay_18 : decode cX9_doesLay 18 = .ok (.getfield 72, 3) := by decide +kernel
theorem dX9_doesLay_21 : decode cX9_doesLay 21 = .ok (.bipush 6, 2) := by decide +kernel
theorem dX9_doesLay_23 : decode cX9_doesLay 23 = .ok (.aload_n 0, 1) := by decide +kernel
theorem dX9_doesLay_24 : decode cX9_doesLay 24 = .ok (.iload_n 1, 1) := by decide +kernel
theorem dX9_doesLay_25 : decode cX9_doesLay 25 = .ok (.iload_n 2, 1) := by decide +kernel
theorem dX9_doesLay_26 : decode cX9_doesLay 26 = .ok (.invokevirtual 328, 3) := by decide +kernel
theorem dX9_doesLay_29 : decode cX9_doesLay 29 = .ok (.invokestatic 316, 3) := by decide +kernel
theorem dX9_doesLay_32 : decode cX9_doesLay 32 = .ok (.iastore, 1) := by decide +kernel
theorem dX9_doesLay_33 : decode cX9_doesLay 33 = .ok (.aload_n 0, 1) := by decide +kernel
theorem dX9_doesLay_34 : decode cX9_doesLay 34 = .ok (.getfield 72, 3) := by decide +kernel
theorem dX9_doesLay_37 : decode cX9_doesLay 37 = .ok (.bipush 7, 2) := by decide +kernel
theorem dX9_doesLay_39 : decode cX9_doesLay 39 = .ok (.aload_n 0, 1) := by decide +kernel
theorem dX9_doesLay_40 : decode cX9_doesLay 40 = .ok (.iload_n 1, 1) := by decide +kernel
theorem dX9_doesLay_41 : decode cX9_doesLay 41 = .ok (.iload_n 2, 1) := by decide +kernel
theorem dX9_doesLay_42 : decode cX9_doesLay 42 = .ok (.invokevirtual 335, 3) := by decide +kernel
theorem dX9_doesLay_45 : decode cX9_doesLay 45 = .ok (.invokestatic 316, 3) := by decide +kernel
theorem dX9_doesLay_48 : decode cX9_doesLay 48 = .ok (.iastore, 1) := by decide +kernel
theorem dX9_doesLay_49 : decode cX9_doesLay 49 = .ok (.aload_n 0, 1) := by decide +kernel
theorem dX9_doesLay_50 : decode cX9_doesLay 50 = .ok (.getfield 72, 3) := by decide +kernel
theorem dX9_doesLay_53 : decode cX9_doesLay 53 = .ok (.bipush 8, 2) := by decide +kernel
theorem dX9_doesLay_55 : decode cX9_doesLay 55 = .ok (.aload_n 0, 1) := by decide +kernel
theorem dX9_doesLay_56 : decode cX9_doesLay 56 = .ok (.iload_n 1, 1) := by decide +kernel
theorem dX9_doesLay_57 : decode cX9_doesLay 57 = .ok (.aload_n 0, 1) := by decide +kernel
theorem dX9_doesLay_58 : decode cX9_doesLay 58 = .ok (.iload_n 1, 1) := by decide +kernel
theorem dX9_doesLay_59 : decode cX9_doesLay 59 = .ok (.iload_n 2, 1) := by decide +kernel
theorem dX9_doesLay_60 : decode cX9_doesLay 60 = .ok (.invokevirtual 335, 3) := by decide +kernel
theorem dX9_doesLay_63 : decode cX9_doesLay 63 = .ok (.invokevirtual 338, 3) := by decide +kernel
theorem dX9_doesLay_66 : decode cX9_doesLay 66 = .ok (.invokestatic 316, 3) := by decide +kernel
theorem dX9_doesLay_69 : decode cX9_doesLay 69 = .ok (.iastore, 1) := by decide +kernel
theorem dX9_doesLay_70 : decode cX9_doesLay 70 = .ok (.aload_n 0, 1) := by decide +kernel
theorem dX9_doesLay_71 : decode cX9_doesLay 71 = .ok (.getfield 72, 3) := by decide +kernel
theorem dX9_doesLay_74 : decode cX9_doesLay 74 = .ok (.iconst 5, 1) := by decide +kernel
theorem dX9_doesLay_75 : decode cX9_doesLay 75 = .ok (.aload_n 0, 1) := by decide +kernel
theorem dX9_doesLay_76 : decode cX9_doesLay 76 = .ok (.getfield 66, 3) := by decide +kernel
theorem dX9_doesLay_79 : decode cX9_doesLay 79 = .ok (.iload_n 1, 1) := by decide +kernel
theorem dX9_doesLay_80 : decode cX9_doesLay 80 = .ok (.iconst 0, 1) := by decide +kernel
theorem dX9_doesLay_81 : decode cX9_doesLay 81 = .ok (.iadd, 1) := by decide +kernel
theorem dX9_doesLay_82 : decode cX9_doesLay 82 = .ok (.iaload, 1) := by decide +kernel
theorem dX9_doesLay_83 : decode cX9_doesLay 83 = .ok (.iastore, 1) := by decide +kernel
theorem dX9_doesLay_84 : decode cX9_doesLay 84 = .ok (.aload_n 0, 1) := by decide +kernel
theorem dX9_doesLay_85 : decode cX9_doesLay 85 = .ok (.aload_n 0, 1) := by decide +kernel
theorem dX9_doesLay_86 : decode cX9_doesLay 86 = .ok (.getfield 9, 3) := by decide +kernel
theorem dX9_doesLay_89 : decode cX9_doesLay 89 = .ok (.invokevirtual 341, 3) := by decide +kernel
theorem dX9_doesLay_92 : decode cX9_doesLay 92 = .ok (.ifCond .le 7, 3) := by decide +kernel
theorem dX9_doesLay_95 : decode cX9_doesLay 95 = .ok (.iconst 1, 1) := by decide +kernel
theorem dX9_doesLay_96 : decode cX9_doesLay 96 = .ok (.goto 4, 3) := by decide +kernel
theorem dX9_doesLay_99 : decode cX9_doesLay 99 = .ok (.iconst 0, 1) := by decide +kernel
theorem dX9_doesLay_100 : decode cX9_doesLay 100 = .ok (.ireturn, 1) := by decide +kernel
theorem dX9_mouldsOn_0 : decode cX9_mouldsOn 0 = .ok (.aload_n 0, 1) := by decide +kernel
theorem dX9_mouldsOn_1 : decode cX9_mouldsOn 1 = .ok (.getfield 72, 3) := by decide +kernel
theorem dX9_mouldsOn_4 : decode cX9_mouldsOn 4 = .ok (.iconst 0, 1) := by decide +kernel
theorem dX9_mouldsOn_5 : decode cX9_mouldsOn 5 = .ok (.aload_n 0, 1) := by decide +kernel
theorem dX9_mouldsOn_6 : decode cX9_mouldsOn 6 = .ok (.getfield 66, 3) := by decide +kernel
theorem dX9_mouldsOn_9 : decode cX9_mouldsOn 9 = .ok (.iload_n 1, 1) := by decide +kernel
theorem dX9_mouldsOn_10 : decode cX9_mouldsOn 10 = .ok (.iconst 1, 1) := by decide +kernel
theorem dX9_mouldsOn_11 : decode cX9_mouldsOn 11 = .ok (.iadd, 1) := by decide +kernel
theorem dX9_mouldsOn_12 : decode cX9_mouldsOn 12 = .ok (.iload_n 2, 1) := by decide +kernel
theorem dX9_mouldsOn_13 : decode cX9_mouldsOn 13 = .ok (.iadd, 1) := by decide +kernel
theorem dX9_mouldsOn_14 : decode cX9_mouldsOn 14 = .ok (.iaload, 1) := by decide +kernel
theorem dX9_mouldsOn_15 : decode cX9_mouldsOn 15 = .ok (.iastore, 1) := by decide +kernel
theorem dX9_mouldsOn_16 : decode cX9_mouldsOn 16 = .ok (.aload_n 0, 1) := by decide +kernel
theorem dX9_mouldsOn_17 : decode cX9_mouldsOn 17 = .ok (.getfield 72, 3) := by decide +kernel
theorem dX9_mouldsOn_20 : decode cX9_mouldsOn 20 = .ok (.iconst 1, 1) := by decide +kernel
theorem dX9_mouldsOn_21 : decode cX9_mouldsOn 21 = .ok (.aload_n 0, 1) := by decide +kernel
theorem dX9_mouldsOn_22 : decode cX9_mouldsOn 22 = .ok (.getfield 66, 3) := by decide +kernel
theorem dX9_mouldsOn_25 : decode cX9_mouldsOn 25 = .ok (.iload_n 1, 1) := by decide +kernel
theorem dX9_mouldsOn_26 : decode cX9_mouldsOn 26 = .ok (.bipush 10, 2) := by decide +kernel
theorem dX9_mouldsOn_28 : decode cX9_mouldsOn 28 = .ok (.iadd, 1) := by decide +kernel
theorem dX9_mouldsOn_29 : decode cX9_mouldsOn 29 = .ok (.iload_n 2, 1) := by decide +kernel
theorem dX9_mouldsOn_30 : decode cX9_mouldsOn 30 = .ok (.iadd, 1) := by decide +kernel
theorem dX9_mouldsOn_31 : decode cX9_mouldsOn 31 = .ok (.iaload, 1) := by decide +kernel
theorem dX9_mouldsOn_32 : decode cX9_mouldsOn 32 = .ok (.iastore, 1) := by decide +kernel
theorem dX9_mouldsOn_33 : decode cX9_mouldsOn 33 = .ok (.aload_n 0, 1) := by decide +kernel
theorem dX9_mouldsOn_34 : decode cX9_mouldsOn 34 = .ok (.getfield 72, 3) := by decide +kernel
theorem dX9_mouldsOn_37 : decode cX9_mouldsOn 37 = .ok (.iconst 2, 1) := by decide +kernel
theorem dX9_mouldsOn_38 : decode cX9_mouldsOn 38 = .ok (.iload_n 2, 1) := by decide +kernel
theorem dX9_mouldsOn_39 : decode cX9_mouldsOn 39 = .ok (.iastore, 1) := by decide +kernel
theorem dX9_mouldsOn_40 : decode cX9_mouldsOn 40 = .ok (.aload_n 0, 1) := by decide +kernel
theorem dX9_mouldsOn_41 : decode cX9_mouldsOn 41 = .ok (.getfield 72, 3) := by decide +kernel
theorem dX9_mouldsOn_44 : decode cX9_mouldsOn 44 = .ok (.iconst 4, 1) := by decide +kernel
theorem dX9_mouldsOn_45 : decode cX9_mouldsOn 45 = .ok (.aload_n 0, 1) := by decide +kernel
theorem dX9_mouldsOn_46 : decode cX9_mouldsOn 46 = .ok (.iload_n 1, 1) := by decide +kernel
theorem dX9_mouldsOn_47 : decode cX9_mouldsOn 47 = .ok (.iload_n 2, 1) := by decide +kernel
theorem dX9_mouldsOn_48 : decode cX9_mouldsOn 48 = .ok (.invokevirtual 325, 3) := by decide +kernel
theorem dX9_mouldsOn_51 : decode cX9_mouldsOn 51 = .ok (.iastore, 1) := by decide +kernel
theorem dX9_mouldsOn_52 : decode cX9_mouldsOn 52 = .ok (.aload_n 0, 1) := by decide +kernel
theorem dX9_mouldsOn_53 : decode cX9_mouldsOn 53 = .ok (.getfield 72, 3) := by decide +kernel
theorem dX9_mouldsOn_56 : decode cX9_mouldsOn 56 = .ok (.iconst 3, 1) := by decide +kernel
theorem dX9_mouldsOn_57 : decode cX9_mouldsOn 57 = .ok (.aload_n 0, 1) := by decide +kernel
theorem dX9_mouldsOn_58 : decode cX9_mouldsOn 58 = .ok (.getfield 66, 3) := by decide +kernel
theorem dX9_mouldsOn_61 : decode cX9_mouldsOn 61 = .ok (.iload_n 1, 1) := by decide +kernel
theorem dX9_mouldsOn_62 : decode cX9_mouldsOn 62 = .ok (.bipush 19, 2) := by decide +kernel
theorem dX9_mouldsOn_64 : decode cX9_mouldsOn 64 = .ok (.iadd, 1) := by decide +kernel
theorem dX9_mouldsOn_65 : decode cX9_mouldsOn 65 = .ok (.iload_n 2, 1) := by decide +kernel
theorem dX9_mouldsOn_66 : decode cX9_mouldsOn 66 = .ok (.iadd, 1) := by decide +kernel
theorem dX9_mouldsOn_67 : decode cX9_mouldsOn 67 = .ok (.iaload, 1) := by decide +kernel
theorem dX9_mouldsOn_68 : decode cX9_mouldsOn 68 = .ok (.bipush 10, 2) := by decide +kernel
theorem dX9_mouldsOn_70 : decode cX9_mouldsOn 70 = .ok (.if_icmp .lt 7, 3) := by decide +kernel
theorem dX9_mouldsOn_73 : decode cX9_mouldsOn 73 = .ok (.iconst 1, 1) := by decide +kernel
theorem dX9_mouldsOn_74 : decode cX9_mouldsOn 74 = .ok (.goto 4, 3) := by decide +kernel
theorem dX9_mouldsOn_77 : decode cX9_mouldsOn 77 = .ok (.iconst 0, 1) := by decide +kernel
theorem dX9_mouldsOn_78 : decode cX9_mouldsOn 78 = .ok (.iastore, 1) := by decide +kernel
theorem dX9_mouldsOn_79 : decode cX9_mouldsOn 79 = .ok (.aload_n 0, 1) := by decide +kernel
theorem dX9_mouldsOn_80 : decode cX9_mouldsOn 80 = .ok (.getfield 72, 3) := by decide +kernel
theorem dX9_mouldsOn_83 : decode cX9_mouldsOn 83 = .ok (.iconst 5, 1) := by decide +kernel
theorem dX9_mouldsOn_84 : decode cX9_mouldsOn 84 = .ok (.aload_n 0, 1) := by decide +kernel
theorem dX9_mouldsOn_85 : decode cX9_mouldsOn 85 = .ok (.getfield 66, 3) := by decide +kernel
theorem dX9_mouldsOn_88 : decode cX9_mouldsOn 88 = .ok (.iload_n 1, 1) := by decide +kernel
theorem dX9_mouldsOn_89 : decode cX9_mouldsOn 89 = .ok (.iconst 0, 1) := by decide +kernel
theorem dX9_mouldsOn_90 : decode cX9_mouldsOn 90 = .ok (.iadd, 1) := by decide +kernel
theorem dX9_mouldsOn_91 : decode cX9_mouldsOn 91 = .ok (.iaload, 1) := by decide +kernel
theorem dX9_mouldsOn_92 : decode cX9_mouldsOn 92 = .ok (.iastore, 1) := by decide +kernel
theorem dX9_mouldsOn_93 : decode cX9_mouldsOn 93 = .ok (.aload_n 0, 1) := by decide +kernel
theorem dX9_mouldsOn_94 : decode cX9_mouldsOn 94 = .ok (.aload_n 0, 1) := by decide +kernel
theorem dX9_mouldsOn_95 : decode cX9_mouldsOn 95 = .ok (.getfield 13, 3) := by decide +kernel
theorem dX9_mouldsOn_98 : decode cX9_mouldsOn 98 = .ok (.invokevirtual 341, 3) := by decide +kernel
theorem dX9_mouldsOn_101 : decode cX9_mouldsOn 101 = .ok (.istore_n 3, 1) := by decide +kernel
theorem dX9_mouldsOn_102 : decode cX9_mouldsOn 102 = .ok (.iload_n 3, 1) := by decide +kernel
theorem dX9_mouldsOn_103 : decode cX9_mouldsOn 103 = .ok (.ifCond .le 25, 3) := by decide +kernel
theorem dX9_mouldsOn_106 : decode cX9_mouldsOn 106 = .ok (.aload_n 0, 1) := by decide +kernel
theorem dX9_mouldsOn_107 : decode cX9_mouldsOn 107 = .ok (.getfield 66, 3) := by decide +kernel
theorem dX9_mouldsOn_110 : decode cX9_mouldsOn 110 = .ok (.iload_n 1, 1) := by decide +kernel
theorem dX9_mouldsOn_111 : decode cX9_mouldsOn 111 = .ok (.bipush 10, 2) := by decide +kernel
theorem dX9_mouldsOn_113 : decode cX9_mouldsOn 113 = .ok (.iadd, 1) := by decide +kernel
theorem dX9_mouldsOn_114 : decode cX9_mouldsOn 114 = .ok (.iload_n 2, 1) := by decide +kernel
theorem dX9_mouldsOn_115 : decode cX9_mouldsOn 115 = .ok (.iadd, 1) := by decide +kernel
theorem dX9_mouldsOn_116 : decode cX9_mouldsOn 116 = .ok (.dup2, 1) := by decide +kernel
theorem dX9_mouldsOn_117 : decode cX9_mouldsOn 117 = .ok (.iaload, 1) := by decide +kernel
theorem dX9_mouldsOn_118 : decode cX9_mouldsOn 118 = .ok (.iconst 1, 1) := by decide +kernel
theorem dX9_mouldsOn_119 : decode cX9_mouldsOn 119 = .ok (.iload_n 3, 1) := by decide +kernel
theorem dX9_mouldsOn_120 : decode cX9_mouldsOn 120 = .ok (.iconst 1, 1) := by decide +kernel
theorem dX9_mouldsOn_121 : decode cX9_mouldsOn 121 = .ok (.isub, 1) := by decide +kernel
theorem dX9_mouldsOn_122 : decode cX9_mouldsOn 122 = .ok (.bipush 8, 2) := by decide +kernel
theorem dX9_mouldsOn_124 : decode cX9_mouldsOn 124 = .ok (.irem, 1) := by decide +kernel
theorem dX9_mouldsOn_125 : decode cX9_mouldsOn 125 = .ok (.ishl, 1) := by decide +kernel
theorem dX9_mouldsOn_126 : decode cX9_mouldsOn 126 = .ok (.ixor, 1) := by decide +kernel
theorem dX9_mouldsOn_127 : decode cX9_mouldsOn 127 = .ok (.iastore, 1) := by decide +kernel
theorem dX9_mouldsOn_128 : decode cX9_mouldsOn 128 = .ok (.return_, 1) := by decide +kernel
theorem dX9_dayGoes_0 : decode cX9_dayGoes 0 = .ok (.iconst 0, 1) := by decide +kernel
theorem dX9_dayGoes_1 : decode cX9_dayGoes 1 = .ok (.istore_n 2, 1) := by decide +kernel
theorem dX9_dayGoes_2 : decode cX9_dayGoes 2 = .ok (.iload_n 2, 1) := by decide +kernel
theorem dX9_dayGoes_3 : decode cX9_dayGoes 3 = .ok (.iconst 4, 1) := by decide +kernel
theorem dX9_dayGoes_4 : decode cX9_dayGoes 4 = .ok (.if_icmp .ge 44, 3) := by decide +kernel
theorem dX9_dayGoes_7 : decode cX9_dayGoes 7 = .ok (.aload_n 0, 1) := by decide +kernel
theorem dX9_dayGoes_8 : decode cX9_dayGoes 8 = .ok (.iload_n 1, 1) := by decide +kernel
theorem dX9_dayGoes_9 : decode cX9_dayGoes 9 = .ok (.iload_n 2, 1) := by decide +kernel
theorem dX9_dayGoes_10 : decode cX9_dayGoes 10 = .ok (.invokevirtual 335, 3) := by decide +kernel
theorem dX9_dayGoes_13 : decode cX9_dayGoes 13 = .ok (.ifCond .eq 29, 3) := by decide +kernel
theorem dX9_dayGoes_16 : decode cX9_dayGoes 16 = .ok (.aload_n 0, 1) := by decide +kernel
theorem dX9_dayGoes_17 : decode cX9_dayGoes 17 = .ok (.iload_n 1, 1) := by decide +kernel
theorem dX9_dayGoes_18 : decode cX9_dayGoes 18 = .ok (.iload_n 2, 1) := by decide +kernel
theorem dX9_dayGoes_19 : decode cX9_dayGoes 19 = .ok (.invokevirtual 344, 3) := by decide +kernel
theorem dX9_dayGoes_22 : decode cX9_dayGoes 22 = .ok (.ifCond .eq 20, 3) := by decide +kernel
theorem dX9_dayGoes_25 : decode cX9_dayGoes 25 = .ok (.aload_n 0, 1) := by decide +kernel
theorem dX9_dayGoes_26 : decode cX9_dayGoes 26 = .ok (.iload_n 1, 1) := by decide +kernel
theorem dX9_dayGoes_27 : decode cX9_dayGoes 27 = .ok (.aload_n 0, 1) := by decide +kernel
theorem dX9_dayGoes_28 : decode cX9_dayGoes 28 = .ok (.iload_n 1, 1) := by decide +kernel
theorem dX9_dayGoes_29 : decode cX9_dayGoes 29 = .ok (.iload_n 2, 1) := by decide +kernel
theorem dX9_dayGoes_30 : decode cX9_dayGoes 30 = .ok (.invokevirtual 335, 3) := by decide +kernel
theorem dX9_dayGoes_33 : decode cX9_dayGoes 33 = .ok (.aload_n 0, 1) := by decide +kernel
theorem dX9_dayGoes_34 : decode cX9_dayGoes 34 = .ok (.iload_n 1, 1) := by decide +kernel
theorem dX9_dayGoes_35 : decode cX9_dayGoes 35 = .ok (.iload_n 2, 1) := by decide +kernel
theorem dX9_dayGoes_36 : decode cX9_dayGoes 36 = .ok (.invokevirtual 347, 3) := by decide +kernel
theorem dX9_dayGoes_39 : decode cX9_dayGoes 39 = .ok (.invokevirtual 350, 3) := by decide +kernel
theorem dX9_dayGoes_42 : decode cX9_dayGoes 42 = .ok (.iinc 2 1, 3) := by decide +kernel
theorem dX9_dayGoes_45 : decode cX9_dayGoes 45 = .ok (.goto (-43), 3) := by decide +kernel
theorem dX9_dayGoes_48 : decode cX9_dayGoes 48 = .ok (.iconst 0, 1) := by decide +kernel
theorem dX9_dayGoes_49 : decode cX9_dayGoes 49 = .ok (.istore_n 2, 1) := by decide +kernel
theorem dX9_dayGoes_50 : decode cX9_dayGoes 50 = .ok (.iload_n 2, 1) := by decide +kernel
theorem dX9_dayGoes_51 : decode cX9_dayGoes 51 = .ok (.aload_n 0, 1) := by decide +kernel
theorem dX9_dayGoes_52 : decode cX9_dayGoes 52 = .ok (.getfield 280, 3) := by decide +kernel
theorem dX9_dayGoes_55 : decode cX9_dayGoes 55 = .ok (.if_icmp .ge 32, 3) := by decide +kernel
theorem dX9_dayGoes_58 : decode cX9_dayGoes 58 = .ok (.aload_n 0, 1) := by decide +kernel
theorem dX9_dayGoes_59 : decode cX9_dayGoes 59 = .ok (.getfield 13, 3) := by decide +kernel
theorem dX9_dayGoes_62 : decode cX9_dayGoes 62 = .ok (.iconst (-1), 1) := by decide +kernel
theorem dX9_dayGoes_63 : decode cX9_dayGoes 63 = .ok (.if_icmp .eq 24, 3) := by decide +kernel
theorem dX9_dayGoes_66 : decode cX9_dayGoes 66 = .ok (.aload_n 0, 1) := by decide +kernel
theorem dX9_dayGoes_67 : decode cX9_dayGoes 67 = .ok (.iload_n 1, 1) := by decide +kernel
theorem dX9_dayGoes_68 : decode cX9_dayGoes 68 = .ok (.iload_n 2, 1) := by decide +kernel
theorem dX9_dayGoes_69 : decode cX9_dayGoes 69 = .ok (.invokevirtual 319, 3) := by decide +kernel
theorem dX9_dayGoes_72 : decode cX9_dayGoes 72 = .ok (.ifCond .ne 9, 3) := by decide +kernel
theorem dX9_dayGoes_75 : decode cX9_dayGoes 75 = .ok (.aload_n 0, 1) := by decide +kernel
theorem dX9_dayGoes_76 : decode cX9_dayGoes 76 = .ok (.iload_n 1, 1) := by decide +kernel
theorem dX9_dayGoes_77 : decode cX9_dayGoes 77 = .ok (.iload_n 2, 1) := by decide +kernel
theorem dX9_dayGoes_78 : decode cX9_dayGoes 78 = .ok (.invokevirtual 354, 3) := by decide +kernel
theorem dX9_dayGoes_81 : decode cX9_dayGoes 81 = .ok (.iinc 2 1, 3) := by decide +kernel
theorem dX9_dayGoes_84 : decode cX9_dayGoes 84 = .ok (.goto (-34), 3) := by decide +kernel
theorem dX9_dayGoes_87 : decode cX9_dayGoes 87 = .ok (.aload_n 0, 1) := by decide +kernel
theorem dX9_dayGoes_88 : decode cX9_dayGoes 88 = .ok (.getfield 66, 3) := by decide +kernel
theorem dX9_dayGoes_91 : decode cX9_dayGoes 91 = .ok (.iload_n 1, 1) := by decide +kernel
theorem dX9_dayGoes_92 : decode cX9_dayGoes 92 = .ok (.iconst 0, 1) := by decide +kernel
theorem dX9_dayGoes_93 : decode cX9_dayGoes 93 = .ok (.iadd, 1) := by decide +kernel
theorem dX9_dayGoes_94 : decode cX9_dayGoes 94 = .ok (.dup2, 1) := by decide +kernel
theorem dX9_dayGoes_95 : decode cX9_dayGoes 95 = .ok (.iaload, 1) := by decide +kernel
theorem dX9_dayGoes_96 : decode cX9_dayGoes 96 = .ok (.iconst 1, 1) := by decide +kernel
theorem dX9_dayGoes_97 : decode cX9_dayGoes 97 = .ok (.iadd, 1) := by decide +kernel
theorem dX9_dayGoes_98 : decode cX9_dayGoes 98 = .ok (.iastore, 1) := by decide +kernel
theorem dX9_dayGoes_99 : decode cX9_dayGoes 99 = .ok (.return_, 1) := by decide +kernel
theorem dX9_daysGo_0 : decode cX9_daysGo 0 = .ok (.iconst 0, 1) := by decide +kernel
theorem dX9_daysGo_1 : decode cX9_daysGo 1 = .ok (.istore_n 2, 1) := by decide +kernel
theorem dX9_daysGo_2 : decode cX9_daysGo 2 = .ok (.iload_n 2, 1) := by decide +kernel
theorem dX9_daysGo_3 : decode cX9_daysGo 3 = .ok (.iload_n 1, 1) := by decide +kernel
theorem dX9_daysGo_4 : decode cX9_daysGo 4 = .ok (.if_icmp .ge 15, 3) := by decide +kernel
theorem dX9_daysGo_7 : decode cX9_daysGo 7 = .ok (.aload_n 0, 1) := by decide +kernel
theorem dX9_daysGo_8 : decode cX9_daysGo 8 = .ok (.bipush 34, 2) := by decide +kernel
theorem dX9_daysGo_10 : decode cX9_daysGo 10 = .ok (.invokevirtual 357, 3) := by decide +kernel
theorem dX9_daysGo_13 : decode cX9_daysGo 13 = .ok (.iinc 2 1, 3) := by decide +kernel
theorem dX9_daysGo_16 : decode cX9_daysGo 16 = .ok (.goto (-14), 3) := by decide +kernel
theorem dX9_daysGo_19 : decode cX9_daysGo 19 = .ok (.return_, 1) := by decide +kernel
theorem dX9_everybody_0 : decode cX9_everybody 0 = .ok (.iconst 1, 1) := by decide +kernel
theorem dX9_everybody_1 : decode cX9_everybody 1 = .ok (.aload_n 0, 1) := by decide +kernel
theorem dX9_everybody_2 : decode cX9_everybody 2 = .ok (.getfield 283, 3) := by decide +kernel
theorem dX9_everybody_5 : decode cX9_everybody 5 = .ok (.ishl, 1) := by decide +kernel
theorem dX9_everybody_6 : decode cX9_everybody 6 = .ok (.iconst 1, 1) := by decide +kernel
theorem dX9_everybody_7 : decode cX9_everybody 7 = .ok (.isub, 1) := by decide +kernel
theorem dX9_everybody_8 : decode cX9_everybody 8 = .ok (.ireturn, 1) := by decide +kernel
theorem dX9_burntOnes_0 : decode cX9_burntOnes 0 = .ok (.iconst 0, 1) := by decide +kernel
theorem dX9_burntOnes_1 : decode cX9_burntOnes 1 = .ok (.istore_n 1, 1) := by decide +kernel
theorem dX9_burntOnes_2 : decode cX9_burntOnes 2 = .ok (.iconst 0, 1) := by decide +kernel
theorem dX9_burntOnes_3 : decode cX9_burntOnes 3 = .ok (.istore_n 2, 1) := by decide +kernel
theorem dX9_burntOnes_4 : decode cX9_burntOnes 4 = .ok (.iload_n 2, 1) := by decide +kernel
theorem dX9_burntOnes_5 : decode cX9_burntOnes 5 = .ok (.aload_n 0, 1) := by decide +kernel
theorem dX9_burntOnes_6 : decode cX9_burntOnes 6 = .ok (.getfield 280, 3) := by decide +kernel
theorem dX9_burntOnes_9 : decode cX9_burntOnes 9 = .ok (.if_icmp .ge 28, 3) := by decide +kernel
theorem dX9_burntOnes_12 : decode cX9_burntOnes 12 = .ok (.iload_n 1, 1) := by decide +kernel
theorem dX9_burntOnes_13 : decode cX9_burntOnes 13 = .ok (.aload_n 0, 1) := by decide +kernel
theorem dX9_burntOnes_14 : decode cX9_burntOnes 14 = .ok (.iconst 0, 1) := by decide +kernel
theorem dX9_burntOnes_15 : decode cX9_burntOnes 15 = .ok (.iload_n 2, 1) := by decide +kernel
theorem dX9_burntOnes_16 : decode cX9_burntOnes 16 = .ok (.invokevirtual 319, 3) := by decide +kernel
theorem dX9_burntOnes_19 : decode cX9_burntOnes 19 = .ok (.ifCond .eq 9, 3) := by decide +kernel
theorem dX9_burntOnes_22 : decode cX9_burntOnes 22 = .ok (.iconst 1, 1) := by decide +kernel
theorem dX9_burntOnes_23 : decode cX9_burntOnes 23 = .ok (.iload_n 2, 1) := by decide +kernel
theorem dX9_burntOnes_24 : decode cX9_burntOnes 24 = .ok (.ishl, 1) := by decide +kernel
theorem dX9_burntOnes_25 : decode cX9_burntOnes 25 = .ok (.goto 4, 3) := by decide +kernel
theorem dX9_burntOnes_28 : decode cX9_burntOnes 28 = .ok (.iconst 0, 1) := by decide +kernel
theorem dX9_burntOnes_29 : decode cX9_burntOnes 29 = .ok (.ior, 1) := by decide +kernel
theorem dX9_burntOnes_30 : decode cX9_burntOnes 30 = .ok (.istore_n 1, 1) := by decide +kernel
theorem dX9_burntOnes_31 : decode cX9_burntOnes 31 = .ok (.iinc 2 1, 3) := by decide +kernel
theorem dX9_burntOnes_34 : decode cX9_burntOnes 34 = .ok (.goto (-30), 3) := by decide +kernel
theorem dX9_burntOnes_37 : decode cX9_burntOnes 37 = .ok (.iload_n 1, 1) := by decide +kernel
theorem dX9_burntOnes_38 : decode cX9_burntOnes 38 = .ok (.ireturn, 1) := by decide +kernel
theorem dX9_borneOnes_0 : decode cX9_borneOnes 0 = .ok (.iconst 0, 1) := by decide +kernel
theorem dX9_borneOnes_1 : decode cX9_borneOnes 1 = .ok (.istore_n 2, 1) := by decide +kernel
theorem dX9_borneOnes_2 : decode cX9_borneOnes 2 = .ok (.iconst 0, 1) := by decide +kernel
theorem dX9_borneOnes_3 : decode cX9_borneOnes 3 = .ok (.istore_n 3, 1) := by decide +kernel
theorem dX9_borneOnes_4 : decode cX9_borneOnes 4 = .ok (.iload_n 3, 1) := by decide +kernel
theorem dX9_borneOnes_5 : decode cX9_borneOnes 5 = .ok (.aload_n 0, 1) := by decide +kernel
theorem dX9_borneOnes_6 : decode cX9_borneOnes 6 = .ok (.getfield 280, 3) := by decide +kernel
theorem dX9_borneOnes_9 : decode cX9_borneOnes 9 = .ok (.if_icmp .ge 35, 3) := by decide +kernel
theorem dX9_borneOnes_12 : decode cX9_borneOnes 12 = .ok (.iload_n 2, 1) := by decide +kernel
theorem dX9_borneOnes_13 : decode cX9_borneOnes 13 = .ok (.aload_n 0, 1) := by decide +kernel
theorem dX9_borneOnes_14 : decode cX9_borneOnes 14 = .ok (.getfield 66, 3) := by decide +kernel
theorem dX9_borneOnes_17 : decode cX9_borneOnes 17 = .ok (.iload_n 1, 1) := by decide +kernel
theorem dX9_borneOnes_18 : decode cX9_borneOnes 18 = .ok (.bipush 19, 2) := by decide +kernel
theorem dX9_borneOnes_20 : decode cX9_borneOnes 20 = .ok (.iadd, 1) := by decide +kernel
theorem dX9_borneOnes_21 : decode cX9_borneOnes 21 = .ok (.iload_n 3, 1) := by decide +kernel
theorem dX9_borneOnes_22 : decode cX9_borneOnes 22 = .ok (.iadd, 1) := by decide +kernel
theorem dX9_borneOnes_23 : decode cX9_borneOnes 23 = .ok (.iaload, 1) := by decide +kernel
theorem dX9_borneOnes_24 : decode cX9_borneOnes 24 = .ok (.bipush 10, 2) := by decide +kernel
theorem dX9_borneOnes_26 : decode cX9_borneOnes 26 = .ok (.if_icmp .lt 9, 3) := by decide +kernel
theorem dX9_borneOnes_29 : decode cX9_borneOnes 29 = .ok (.iconst 1, 1) := by decide +kernel
theorem dX9_borneOnes_30 : decode cX9_borneOnes 30 = .ok (.iload_n 3, 1) := by decide +kernel
theorem dX9_borneOnes_31 : decode cX9_borneOnes 31 = .ok (.ishl, 1) := by decide +kernel
theorem dX9_borneOnes_32 : decode cX9_borneOnes 32 = .ok (.goto 4, 3) := by decide +kernel
theorem dX9_borneOnes_35 : decode cX9_borneOnes 35 = .ok (.iconst 0, 1) := by decide +kernel
theorem dX9_borneOnes_36 : decode cX9_borneOnes 36 = .ok (.ior, 1) := by decide +kernel
theorem dX9_borneOnes_37 : decode cX9_borneOnes 37 = .ok (.istore_n 2, 1) := by decide +kernel
theorem dX9_borneOnes_38 : decode cX9_borneOnes 38 = .ok (.iinc 3 1, 3) := by decide +kernel
theorem dX9_borneOnes_41 : decode cX9_borneOnes 41 = .ok (.goto (-37), 3) := by decide +kernel
theorem dX9_borneOnes_44 : decode cX9_borneOnes 44 = .ok (.iload_n 2, 1) := by decide +kernel
theorem dX9_borneOnes_45 : decode cX9_borneOnes 45 = .ok (.ireturn, 1) := by decide +kernel
theorem dX9_couples_0 : decode cX9_couples 0 = .ok (.iconst 1, 1) := by decide +kernel
theorem dX9_couples_1 : decode cX9_couples 1 = .ok (.istore_n 1, 1) := by decide +kernel
theorem dX9_couples_2 : decode cX9_couples 2 = .ok (.iload_n 1, 1) := by decide +kernel
theorem dX9_couples_3 : decode cX9_couples 3 = .ok (.iconst 1, 1) := by decide +kernel
theorem dX9_couples_4 : decode cX9_couples 4 = .ok (.aload_n 0, 1) := by decide +kernel
theorem dX9_couples_5 : decode cX9_couples 5 = .ok (.getfield 280, 3) := by decide +kernel
theorem dX9_couples_8 : decode cX9_couples 8 = .ok (.ishl, 1) := by decide +kernel
theorem dX9_couples_9 : decode cX9_couples 9 = .ok (.if_icmp .ge 123, 3) := by decide +kernel
theorem dX9_couples_12 : decode cX9_couples 12 = .ok (.iconst 0, 1) := by decide +kernel
theorem dX9_couples_13 : decode cX9_couples 13 = .ok (.istore_n 2, 1) := by decide +kernel
theorem dX9_couples_14 : decode cX9_couples 14 = .ok (.iload_n 1, 1) := by decide +kernel
theorem dX9_couples_15 : decode cX9_couples 15 = .ok (.iload_n 2, 1) := by decide +kernel
theorem dX9_couples_16 : decode cX9_couples 16 = .ok (.ishr, 1) := by decide +kernel
theorem dX9_couples_17 : decode cX9_couples 17 = .ok (.iconst 1, 1) := by decide +kernel
theorem dX9_couples_18 : decode cX9_couples 18 = .ok (.iand, 1) := by decide +kernel
theorem dX9_couples_19 : decode cX9_couples 19 = .ok (.ifCond .ne 9, 3) := by decide +kernel
theorem dX9_couples_22 : decode cX9_couples 22 = .ok (.iinc 2 1, 3) := by decide +kernel
theorem dX9_couples_25 : decode cX9_couples 25 = .ok (.goto (-11), 3) := by decide +kernel
theorem dX9_couples_28 : decode cX9_couples 28 = .ok (.iload_n 1, 1) := by decide +kernel
theorem dX9_couples_29 : decode cX9_couples 29 = .ok (.iconst 1, 1) := by decide +kernel
theorem dX9_couples_30 : decode cX9_couples 30 = .ok (.iload_n 2, 1) := by decide +kernel
theorem dX9_couples_31 : decode cX9_couples 31 = .ok (.ishl, 1) := by decide +kernel
theorem dX9_couples_32 : decode cX9_couples 32 = .ok (.iconst (-1), 1) := by decide +kernel
theorem dX9_couples_33 : decode cX9_couples 33 = .ok (.ixor, 1) := by decide +kernel
theorem dX9_couples_34 : decode cX9_couples 34 = .ok (.iand, 1) := by decide +kernel
theorem dX9_couples_35 : decode cX9_couples 35 = .ok (.istore_n 3, 1) := by decide +kernel
theorem dX9_couples_36 : decode cX9_couples 36 = .ok (.aload_n 0, 1) := by decide +kernel
theorem dX9_couples_37 : decode cX9_couples 37 = .ok (.getfield 78, 3) := by decide +kernel
theorem dX9_couples_40 : decode cX9_couples 40 = .ok (.iload_n 3, 1) := by decide +kernel
theorem dX9_couples_41 : decode cX9_couples 41 = .ok (.iaload, 1) := by decide +kernel
theorem dX9_couples_42 : decode cX9_couples 42 = .ok (.istore 4, 2) := by decide +kernel
theorem dX9_couples_44 : decode cX9_couples 44 = .ok (.iload_n 2, 1) := by decide +kernel
theorem dX9_couples_45 : decode cX9_couples 45 = .ok (.iconst 1, 1) := by decide +kernel
theorem dX9_couples_46 : decode cX9_couples 46 = .ok (.iadd, 1) := by decide +kernel
theorem dX9_couples_47 : decode cX9_couples 47 = .ok (.istore 5, 2) := by decide +kernel
theorem dX9_couples_49 : decode cX9_couples 49 = .ok (.iload 5, 2) := by decide +kernel
theorem dX9_couples_51 : decode cX9_couples 51 = .ok (.aload_n 0, 1) := by decide +kernel
theorem dX9_couples_52 : decode cX9_couples 52 = .ok (.getfield 280, 3) := by decide +kernel
theorem dX9_couples_55 : decode cX9_couples 55 = .ok (.if_icmp .ge 63, 3) := by decide +kernel
theorem dX9_couples_58 : decode cX9_couples 58 = .ok (.iload_n 3, 1) := by decide +kernel
theorem dX9_couples_59 : decode cX9_couples 59 = .ok (.iload 5, 2) := by decide +kernel
theorem dX9_couples_61 : decode cX9_couples 61 = .ok (.ishr, 1) := by decide +kernel
theorem dX9_couples_62 : decode cX9_couples 62 = .ok (.iconst 1, 1) := by decide +kernel
theorem dX9_couples_63 : decode cX9_couples 63 = .ok (.iand, 1) := by decide +kernel
theorem dX9_couples_64 : decode cX9_couples 64 = .ok (.iconst 1, 1) := by decide +kernel
theorem dX9_couples_65 : decode cX9_couples 65 = .ok (.if_icmp .ne 47, 3) := by decide +kernel
theorem dX9_couples_68 : decode cX9_couples 68 = .ok (.aload_n 0, 1) := by decide +kernel
theorem dX9_couples_69 : decode cX9_couples 69 = .ok (.iconst 0, 1) := by decide +kernel
theorem dX9_couples_70 : decode cX9_couples 70 = .ok (.iload_n 2, 1) := by decide +kernel
theorem dX9_couples_71 : decode cX9_couples 71 = .ok (.iload 5, 2) := by decide +kernel
theorem dX9_couples_73 : decode cX9_couples 73 = .ok (.invokevirtual 331, 3) := by decide +kernel
theorem dX9_couples_76 : decode cX9_couples 76 = .ok (.ifCond .ne 14, 3) := by decide +kernel
theorem dX9_couples_79 : decode cX9_couples 79 = .ok (.aload_n 0, 1) := by decide +kernel
theorem dX9_couples_80 : decode cX9_couples 80 = .ok (.iconst 0, 1) := by decide +kernel
theorem dX9_couples_81 : decode cX9_couples 81 = .ok (.iload 5, 2) := by decide +kernel
theorem dX9_couples_83 : decode cX9_couples 83 = .ok (.iload_n 2, 1) := by decide +kernel
theorem dX9_couples_84 : decode cX9_couples 84 = .ok (.invokevirtual 331, 3) := by decide +kernel
theorem dX9_couples_87 : decode cX9_couples 87 = .ok (.ifCond .eq 25, 3) := by decide +kernel
theorem dX9_couples_90 : decode cX9_couples 90 = .ok (.iload 4, 2) := by decide +kernel
theorem dX9_couples_92 : decode cX9_couples 92 = .ok (.iconst 1, 1) := by decide +kernel
theorem dX9_couples_93 : decode cX9_couples 93 = .ok (.aload_n 0, 1) := by decide +kernel
theorem dX9_couples_94 : decode cX9_couples 94 = .ok (.getfield 78, 3) := by decide +kernel
theorem dX9_couples_97 : decode cX9_couples 97 = .ok (.iload_n 3, 1) := by decide +kernel
theorem dX9_couples_98 : decode cX9_couples 98 = .ok (.iconst 1, 1) := by decide +kernel
theorem dX9_couples_99 : decode cX9_couples 99 = .ok (.iload 5, 2) := by decide +kernel
theorem dX9_couples_101 : decode cX9_couples 101 = .ok (.ishl, 1) := by decide +kernel
theorem dX9_couples_102 : decode cX9_couples 102 = .ok (.iconst (-1), 1) := by decide +kernel
theorem dX9_couples_103 : decode cX9_couples 103 = .ok (.ixor, 1) := by decide +kernel
theorem dX9_couples_104 : decode cX9_couples 104 = .ok (.iand, 1) := by decide +kernel
theorem dX9_couples_105 : decode cX9_couples 105 = .ok (.iaload, 1) := by decide +kernel
theorem dX9_couples_106 : decode cX9_couples 106 = .ok (.iadd, 1) := by decide +kernel
theorem dX9_couples_107 : decode cX9_couples 107 = .ok (.invokestatic 360, 3) := by decide +kernel
theorem dX9_couples_110 : decode cX9_couples 110 = .ok (.istore 4, 2) := by decide +kernel
theorem dX9_couples_112 : decode cX9_couples 112 = .ok (.iinc 5 1, 3) := by decide +kernel
theorem dX9_couples_115 : decode cX9_couples 115 = .ok (.goto (-66), 3) := by decide +kernel
theorem dX9_couples_118 : decode cX9_couples 118 = .ok (.aload_n 0, 1) := by decide +kernel
theorem dX9_couples_119 : decode cX9_couples 119 = .ok (.getfield 78, 3) := by decide +kernel
theorem dX9_couples_122 : decode cX9_couples 122 = .ok (.iload_n 1, 1) := by decide +kernel
theorem dX9_couples_123 : decode cX9_couples 123 = .ok (.iload 4, 2) := by decide +kernel
theorem dX9_couples_125 : decode cX9_couples 125 = .ok (.iastore, 1) := by decide +kernel
theorem dX9_couples_126 : decode cX9_couples 126 = .ok (.iinc 1 1, 3) := by decide +kernel
theorem dX9_couples_129 : decode cX9_couples 129 = .ok (.goto (-127), 3) := by decide +kernel
theorem dX9_couples_132 : decode cX9_couples 132 = .ok (.aload_n 0, 1) := by decide +kernel
theorem dX9_couples_133 : decode cX9_couples 133 = .ok (.getfield 78, 3) := by decide +kernel
theorem dX9_couples_136 : decode cX9_couples 136 = .ok (.iconst 1, 1) := by decide +kernel
theorem dX9_couples_137 : decode cX9_couples 137 = .ok (.aload_n 0, 1) := by decide +kernel
theorem dX9_couples_138 : decode cX9_couples 138 = .ok (.getfield 280, 3) := by decide +kernel
theorem dX9_couples_141 : decode cX9_couples 141 = .ok (.ishl, 1) := by decide +kernel
theorem dX9_couples_142 : decode cX9_couples 142 = .ok (.iconst 1, 1) := by decide +kernel
theorem dX9_couples_143 : decode cX9_couples 143 = .ok (.isub, 1) := by decide +kernel
theorem dX9_couples_144 : decode cX9_couples 144 = .ok (.iaload, 1) := by decide +kernel
theorem dX9_couples_145 : decode cX9_couples 145 = .ok (.ireturn, 1) := by decide +kernel
theorem dX9_count_0 : decode cX9_count 0 = .ok (.aload_n 0, 1) := by decide +kernel
theorem dX9_count_1 : decode cX9_count 1 = .ok (.iconst 0, 1) := by decide +kernel
theorem dX9_count_2 : decode cX9_count 2 = .ok (.putfield 102, 3) := by decide +kernel
theorem dX9_count_5 : decode cX9_count 5 = .ok (.aload_n 0, 1) := by decide +kernel
theorem dX9_count_6 : decode cX9_count 6 = .ok (.iload_n 1, 1) := by decide +kernel
theorem dX9_count_7 : decode cX9_count 7 = .ok (.iconst 0, 1) := by decide +kernel
theorem dX9_count_8 : decode cX9_count 8 = .ok (.bipush 14, 2) := by decide +kernel
theorem dX9_count_10 : decode cX9_count 10 = .ok (.invokestatic 363, 3) := by decide +kernel
theorem dX9_count_13 : decode cX9_count 13 = .ok (.iconst 1, 1) := by decide +kernel
theorem dX9_count_14 : decode cX9_count 14 = .ok (.invokevirtual 273, 3) := by decide +kernel
theorem dX9_count_17 : decode cX9_count 17 = .ok (.ifCond .ne 5, 3) := by decide +kernel
theorem dX9_count_20 : decode cX9_count 20 = .ok (.iconst 0, 1) := by decide +kernel
theorem dX9_count_21 : decode cX9_count 21 = .ok (.ireturn, 1) := by decide +kernel
theorem dX9_count_22 : decode cX9_count 22 = .ok (.iload_n 1, 1) := by decide +kernel
theorem dX9_count_23 : decode cX9_count 23 = .ok (.tableswitch 129 0 11 #[61, 66, 71, 76, 81, 88, 93, 99, 109, 114, 119, 124], 61) := by decide +kernel
theorem dX9_count_84 : decode cX9_count 84 = .ok (.aload_n 0, 1) := by decide +kernel
theorem dX9_count_85 : decode cX9_count 85 = .ok (.getfield 280, 3) := by decide +kernel
theorem dX9_count_88 : decode cX9_count 88 = .ok (.ireturn, 1) := by decide +kernel
theorem dX9_count_89 : decode cX9_count 89 = .ok (.aload_n 0, 1) := by decide +kernel
theorem dX9_count_90 : decode cX9_count 90 = .ok (.getfield 283, 3) := by decide +kernel
theorem dX9_count_93 : decode cX9_count 93 = .ok (.ireturn, 1) := by decide +kernel
theorem dX9_count_94 : decode cX9_count 94 = .ok (.aload_n 0, 1) := by decide +kernel
theorem dX9_count_95 : decode cX9_count 95 = .ok (.getfield 286, 3) := by decide +kernel
theorem dX9_count_98 : decode cX9_count 98 = .ok (.ireturn, 1) := by decide +kernel
theorem dX9_count_99 : decode cX9_count 99 = .ok (.aload_n 0, 1) := by decide +kernel
theorem dX9_count_100 : decode cX9_count 100 = .ok (.getfield 289, 3) := by decide +kernel
theorem dX9_count_103 : decode cX9_count 103 = .ok (.ireturn, 1) := by decide +kernel
theorem dX9_count_104 : decode cX9_count 104 = .ok (.aload_n 0, 1) := by decide +kernel
theorem dX9_count_105 : decode cX9_count 105 = .ok (.getfield 66, 3) := by decide +kernel
theorem dX9_count_108 : decode cX9_count 108 = .ok (.iconst 0, 1) := by decide +kernel
theorem dX9_count_109 : decode cX9_count 109 = .ok (.iaload, 1) := by decide +kernel
theorem dX9_count_110 : decode cX9_count 110 = .ok (.ireturn, 1) := by decide +kernel
theorem dX9_count_111 : decode cX9_count 111 = .ok (.aload_n 0, 1) := by decide +kernel
theorem dX9_count_112 : decode cX9_count 112 = .ok (.invokevirtual 366, 3) := by decide +kernel
theorem dX9_count_115 : decode cX9_count 115 = .ok (.ireturn, 1) := by decide +kernel
theorem dX9_count_116 : decode cX9_count 116 = .ok (.aload_n 0, 1) := by decide +kernel
theorem dX9_count_117 : decode cX9_count 117 = .ok (.iconst 0, 1) := by decide +kernel
theorem dX9_count_118 : decode cX9_count 118 = .ok (.invokevirtual 369, 3) := by decide +kernel
theorem dX9_count_121 : decode cX9_count 121 = .ok (.ireturn, 1) := by decide +kernel
theorem dX9_count_122 : decode cX9_count 122 = .ok (.aload_n 0, 1) := by decide +kernel
theorem dX9_count_123 : decode cX9_count 123 = .ok (.iconst 0, 1) := by decide +kernel
theorem dX9_count_124 : decode cX9_count 124 = .ok (.aload_n 0, 1) := by decide +kernel
theorem dX9_count_125 : decode cX9_count 125 = .ok (.invokevirtual 372, 3) := by decide +kernel
theorem dX9_count_128 : decode cX9_count 128 = .ok (.invokevirtual 338, 3) := by decide +kernel
theorem dX9_count_131 : decode cX9_count 131 = .ok (.ireturn, 1) := by decide +kernel
theorem dX9_count_132 : decode cX9_count 132 = .ok (.aload_n 0, 1) := by decide +kernel
theorem dX9_count_133 : decode cX9_count 133 = .ok (.invokevirtual 375, 3) := by decide +kernel
theorem dX9_count_136 : decode cX9_count 136 = .ok (.ireturn, 1) := by decide +kernel
theorem dX9_count_137 : decode cX9_count 137 = .ok (.aload_n 0, 1) := by decide +kernel
theorem dX9_count_138 : decode cX9_count 138 = .ok (.getfield 296, 3) := by decide +kernel
theorem dX9_count_141 : decode cX9_count 141 = .ok (.ireturn, 1) := by decide +kernel
theorem dX9_count_142 : decode cX9_count 142 = .ok (.aload_n 0, 1) := by decide +kernel
theorem dX9_count_143 : decode cX9_count 143 = .ok (.getfield 299, 3) := by decide +kernel
theorem dX9_count_146 : decode cX9_count 146 = .ok (.ireturn, 1) := by decide +kernel
theorem dX9_count_147 : decode cX9_count 147 = .ok (.aload_n 0, 1) := by decide +kernel
theorem dX9_count_148 : decode cX9_count 148 = .ok (.getfield 105, 3) := by decide +kernel
theorem dX9_count_151 : decode cX9_count 151 = .ok (.ireturn, 1) := by decide +kernel
theorem dX9_count_152 : decode cX9_count 152 = .ok (.aload_n 0, 1) := by decide +kernel
theorem dX9_count_153 : decode cX9_count 153 = .ok (.getfield 38, 3) := by decide +kernel
theorem dX9_count_156 : decode cX9_count 156 = .ok (.iload_n 1, 1) := by decide +kernel
theorem dX9_count_157 : decode cX9_count 157 = .ok (.bipush 12, 2) := by decide +kernel
theorem dX9_count_159 : decode cX9_count 159 = .ok (.isub, 1) := by decide +kernel
theorem dX9_count_160 : decode cX9_count 160 = .ok (.iaload, 1) := by decide +kernel
theorem dX9_count_161 : decode cX9_count 161 = .ok (.ireturn, 1) := by decide +kernel
theorem dX9_isSheet_0 : decode cX9_isSheet 0 = .ok (.aload_n 0, 1) := by decide +kernel
theorem dX9_isSheet_1 : decode cX9_isSheet 1 = .ok (.iload_n 1, 1) := by decide +kernel
theorem dX9_isSheet_2 : decode cX9_isSheet 2 = .ok (.ifCond .lt 15, 3) := by decide +kernel
theorem dX9_isSheet_5 : decode cX9_isSheet 5 = .ok (.iload_n 1, 1) := by decide +kernel
theorem dX9_isSheet_6 : decode cX9_isSheet 6 = .ok (.aload_n 0, 1) := by decide +kernel
theorem dX9_isSheet_7 : decode cX9_isSheet 7 = .ok (.getfield 280, 3) := by decide +kernel
theorem dX9_isSheet_10 : decode cX9_isSheet 10 = .ok (.if_icmp .ge 7, 3) := by decide +kernel
theorem dX9_isSheet_13 : decode cX9_isSheet 13 = .ok (.iconst 1, 1) := by decide +kernel
theorem dX9_isSheet_14 : decode cX9_isSheet 14 = .ok (.goto 4, 3) := by decide +kernel
theorem dX9_isSheet_17 : decode cX9_isSheet 17 = .ok (.iconst 0, 1) := by decide +kernel
theorem dX9_isSheet_18 : decode cX9_isSheet 18 = .ok (.iconst 1, 1) := by decide +kernel
theorem dX9_isSheet_19 : decode cX9_isSheet 19 = .ok (.invokevirtual 273, 3) := by decide +kernel
theorem dX9_isSheet_22 : decode cX9_isSheet 22 = .ok (.ireturn, 1) := by decide +kernel
theorem dX9_isClerk_0 : decode cX9_isClerk 0 = .ok (.aload_n 0, 1) := by decide +kernel
theorem dX9_isClerk_1 : decode cX9_isClerk 1 = .ok (.iload_n 1, 1) := by decide +kernel
theorem dX9_isClerk_2 : decode cX9_isClerk 2 = .ok (.ifCond .lt 15, 3) := by decide +kernel
theorem dX9_isClerk_5 : decode cX9_isClerk 5 = .ok (.iload_n 1, 1) := by decide +kernel
theorem dX9_isClerk_6 : decode cX9_isClerk 6 = .ok (.aload_n 0, 1) := by decide +kernel
theorem dX9_isClerk_7 : decode cX9_isClerk 7 = .ok (.getfield 283, 3) := by decide +kernel
theorem dX9_isClerk_10 : decode cX9_isClerk 10 = .ok (.if_icmp .ge 7, 3) := by decide +kernel
theorem dX9_isClerk_13 : decode cX9_isClerk 13 = .ok (.iconst 1, 1) := by decide +kernel
theorem dX9_isClerk_14 : decode cX9_isClerk 14 = .ok (.goto 4, 3) := by decide +kernel
theorem dX9_isClerk_17 : decode cX9_isClerk 17 = .ok (.iconst 0, 1) := by decide +kernel
theorem dX9_isClerk_18 : decode cX9_isClerk 18 = .ok (.iconst 1, 1) := by decide +kernel
theorem dX9_isClerk_19 : decode cX9_isClerk 19 = .ok (.invokevirtual 273, 3) := by decide +kernel
theorem dX9_isClerk_22 : decode cX9_isClerk 22 = .ok (.ireturn, 1) := by decide +kernel
theorem dX9_isWord_0 : decode cX9_isWord 0 = .ok (.aload_n 0, 1) := by decide +kernel
theorem dX9_isWord_1 : decode cX9_isWord 1 = .ok (.iload_n 1, 1) := by decide +kernel
theorem dX9_isWord_2 : decode cX9_isWord 2 = .ok (.ifCond .lt 15, 3) := by decide +kernel
theorem dX9_isWord_5 : decode cX9_isWord 5 = .ok (.iload_n 1, 1) := by decide +kernel
theorem dX9_isWord_6 : decode cX9_isWord 6 = .ok (.aload_n 0, 1) := by decide +kernel
theorem dX9_isWord_7 : decode cX9_isWord 7 = .ok (.getfield 286, 3) := by decide +kernel
theorem dX9_isWord_10 : decode cX9_isWord 10 = .ok (.if_icmp .ge 7, 3) := by decide +kernel
theorem dX9_isWord_13 : decode cX9_isWord 13 = .ok (.iconst 1, 1) := by decide +kernel
theorem dX9_isWord_14 : decode cX9_isWord 14 = .ok (.goto 4, 3) := by decide +kernel
theorem dX9_isWord_17 : decode cX9_isWord 17 = .ok (.iconst 0, 1) := by decide +kernel
theorem dX9_isWord_18 : decode cX9_isWord 18 = .ok (.iconst 1, 1) := by decide +kernel
theorem dX9_isWord_19 : decode cX9_isWord 19 = .ok (.invokevirtual 273, 3) := by decide +kernel
theorem dX9_isWord_22 : decode cX9_isWord 22 = .ok (.ireturn, 1) := by decide +kernel
theorem dX9_isTown_0 : decode cX9_isTown 0 = .ok (.aload_n 0, 1) := by decide +kernel
theorem dX9_isTown_1 : decode cX9_isTown 1 = .ok (.iload_n 1, 1) := by decide +kernel
theorem dX9_isTown_2 : decode cX9_isTown 2 = .ok (.iconst 0, 1) := by decide +kernel
theorem dX9_isTown_3 : decode cX9_isTown 3 = .ok (.iconst 3, 1) := by decide +kernel
theorem dX9_isTown_4 : decode cX9_isTown 4 = .ok (.invokestatic 363, 3) := by decide +kernel
theorem dX9_isTown_7 : decode cX9_isTown 7 = .ok (.iconst 1, 1) := by decide +kernel
theorem dX9_isTown_8 : decode cX9_isTown 8 = .ok (.invokevirtual 273, 3) := by decide +kernel
theorem dX9_isTown_11 : decode cX9_isTown 11 = .ok (.ireturn, 1) := by decide +kernel
