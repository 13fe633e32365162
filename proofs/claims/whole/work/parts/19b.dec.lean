/-! ===== decode rows: TwinInk ===== -/
theorem dX8_init_0 : decode cX8_init 0 = .ok (.aload_n 0, 1) := by decide +kernel
theorem dX8_init_1 : decode cX8_init 1 = .ok (.invokespecial 3, 3) := by decide +kernel
theorem dX8_init_4 : decode cX8_init 4 = .ok (.aload_n 0, 1) := by decide +kernel
theorem dX8_init_5 : decode cX8_init 5 = .ok (.sipush 700, 3) := by decide +kernel
theorem dX8_init_8 : decode cX8_init 8 = .ok (.newarray .byte, 2) := by decide +kernel
theorem dX8_init_10 : decode cX8_init 10 = .ok (.putfield 9, 3) := by decide +kernel
theorem dX8_init_13 : decode cX8_init 13 = .ok (.aload_n 0, 1) := by decide +kernel
theorem dX8_init_14 : decode cX8_init 14 = .ok (.iconst 0, 1) := by decide +kernel
theorem dX8_init_15 : decode cX8_init 15 = .ok (.putfield 13, 3) := by decide +kernel
theorem dX8_init_18 : decode cX8_init 18 = .ok (.aload_n 0, 1) := by decide +kernel
theorem dX8_init_19 : decode cX8_init 19 = .ok (.iconst (-1), 1) := by decide +kernel
theorem dX8_init_20 : decode cX8_init 20 = .ok (.putfield 17, 3) := by decide +kernel
theorem dX8_init_23 : decode cX8_init 23 = .ok (.aload_n 0, 1) := by decide +kernel
theorem dX8_init_24 : decode cX8_init 24 = .ok (.new 20, 3) := by decide +kernel
theorem dX8_init_27 : decode cX8_init 27 = .ok (.dup, 1) := by decide +kernel
theorem dX8_init_28 : decode cX8_init 28 = .ok (.invokespecial 22, 3) := by decide +kernel
theorem dX8_init_31 : decode cX8_init 31 = .ok (.putfield 23, 3) := by decide +kernel
theorem dX8_init_34 : decode cX8_init 34 = .ok (.aload_n 0, 1) := by decide +kernel
theorem dX8_init_35 : decode cX8_init 35 = .ok (.new 20, 3) := by decide +kernel
theorem dX8_init_38 : decode cX8_init 38 = .ok (.dup, 1) := by decide +kernel
theorem dX8_init_39 : decode cX8_init 39 = .ok (.invokespecial 22, 3) := by decide +kernel
theorem dX8_init_42 : decode cX8_init 42 = .ok (.putfield 27, 3) := by decide +kernel
theorem dX8_init_45 : decode cX8_init 45 = .ok (.aload_n 0, 1) := by decide +kernel
theorem dX8_init_46 : decode cX8_init 46 = .ok (.new 30, 3) := by decide +kernel
theorem dX8_init_49 : decode cX8_init 49 = .ok (.dup, 1) := by decide +kernel
theorem dX8_init_50 : decode cX8_init 50 = .ok (.aload_n 0, 1) := by decide +kernel
theorem dX8_init_51 : decode cX8_init 51 = .ok (.getfield 9, 3) := by decide +kernel
theorem dX8_init_54 : decode cX8_init 54 = .ok (.aload_n 0, 1) := by decide +kernel
theorem dX8_init_55 : decode cX8_init 55 = .ok (.getfield 27, 3) := by decide +kernel
theorem dX8_init_58 : decode cX8_init 58 = .ok (.invokespecial 32, 3) := by decide +kernel
theorem dX8_init_61 : decode cX8_init 61 = .ok (.putfield 35, 3) := by decide +kernel
theorem dX8_init_64 : decode cX8_init 64 = .ok (.aload_n 0, 1) := by decide +kernel
theorem dX8_init_65 : decode cX8_init 65 = .ok (.new 39, 3) := by decide +kernel
theorem dX8_init_68 : decode cX8_init 68 = .ok (.dup, 1) := by decide +kernel
theorem dX8_init_69 : decode cX8_init 69 = .ok (.aload_n 0, 1) := by decide +kernel
theorem dX8_init_70 : decode cX8_init 70 = .ok (.getfield 23, 3) := by decide +kernel
theorem dX8_init_73 : decode cX8_init 73 = .ok (.invokespecial 41, 3) := by decide +kernel
theorem dX8_init_76 : decode cX8_init 76 = .ok (.putfield 44, 3) := by decide +kernel
theorem dX8_init_79 : decode cX8_init 79 = .ok (.aload_n 0, 1) := by decide +kernel
theorem dX8_init_80 : decode cX8_init 80 = .ok (.new 39, 3) := by decide +kernel
theorem dX8_init_83 : decode cX8_init 83 = .ok (.dup, 1) := by decide +kernel
theorem dX8_init_84 : decode cX8_init 84 = .ok (.aload_n 0, 1) := by decide +kernel
theorem dX8_init_85 : decode cX8_init 85 = .ok (.getfield 23, 3) := by decide +kernel
theorem dX8_init_88 : decode cX8_init 88 = .ok (.invokespecial 41, 3) := by decide +kernel
theorem dX8_init_91 : decode cX8_init 91 = .ok (.putfield 48, 3) := by decide +kernel
theorem dX8_init_94 : decode cX8_init 94 = .ok (.aload_n 0, 1) := by decide +kernel
theorem dX8_init_95 : decode cX8_init 95 = .ok (.new 51, 3) := by decide +kernel
theorem dX8_init_98 : decode cX8_init 98 = .ok (.dup, 1) := by decide +kernel
theorem dX8_init_99 : decode cX8_init 99 = .ok (.invokespecial 53, 3) := by decide +kernel
theorem dX8_init_102 : decode cX8_init 102 = .ok (.putfield 54, 3) := by decide +kernel
theorem dX8_init_105 : decode cX8_init 105 = .ok (.aload_n 0, 1) := by decide +kernel
theorem dX8_init_106 : decode cX8_init 106 = .ok (.new 58, 3) := by decide +kernel
theorem dX8_init_109 : decode cX8_init 109 = .ok (.dup, 1) := by decide +kernel
theorem dX8_init_110 : decode cX8_init 110 = .ok (.invokespecial 60, 3) := by decide +kernel
theorem dX8_init_113 : decode cX8_init 113 = .ok (.putfield 61, 3) := by decide +kernel
theorem dX8_init_116 : decode cX8_init 116 = .ok (.aload_n 0, 1) := by decide +kernel
theorem dX8_init_117 : decode cX8_init 117 = .ok (.iconst 0, 1) := by decide +kernel
theorem dX8_init_118 : decode cX8_init 118 = .ok (.putfield 65, 3) := by decide +kernel
theorem dX8_init_121 : decode cX8_init 121 = .ok (.aload_n 0, 1) := by decide +kernel
theorem dX8_init_122 : decode cX8_init 122 = .ok (.new 39, 3) := by decide +kernel
theorem dX8_init_125 : decode cX8_init 125 = .ok (.dup, 1) := by decide +kernel
theorem dX8_init_126 : decode cX8_init 126 = .ok (.aload_n 0, 1) := by decide +kernel
theorem dX8_init_127 : decode cX8_init 127 = .ok (.getfield 23, 3) := by decide +kernel
theorem dX8_init_130 : decode cX8_init 130 = .ok (.invokespecial 41, 3) := by decide +kernel
theorem dX8_init_133 : decode cX8_init 133 = .ok (.putfield 69, 3) := by decide +kernel
theorem dX8_init_136 : decode cX8_init 136 = .ok (.aload_n 0, 1) := by decide +kernel
theorem dX8_init_137 : decode cX8_init 137 = .ok (.new 51, 3) := by decide +kernel
theorem dX8_init_140 : decode cX8_init 140 = .ok (.dup, 1) := by decide +kernel
theorem dX8_init_141 : decode cX8_init 141 = .ok (.invokespecial 53, 3) := by decide +kernel
theorem dX8_init_144 : decode cX8_init 144 = .ok (.putfield 72, 3) := by decide +kernel
theorem dX8_init_147 : decode cX8_init 147 = .ok (.aload_n 0, 1) := by decide +kernel
theorem dX8_init_148 : decode cX8_init 148 = .ok (.new 58, 3) := by decide +kernel
theorem dX8_init_151 : decode cX8_init 151 = .ok (.dup, 1) := by decide +kernel
theorem dX8_init_152 : decode cX8_init 152 = .ok (.invokespecial 60, 3) := by decide +kernel
theorem dX8_init_155 : decode cX8_init 155 = .ok (.putfield 75, 3) := by decide +kernel
theorem dX8_init_158 : decode cX8_init 158 = .ok (.aload_n 0, 1) := by decide +kernel
theorem dX8_init_159 : decode cX8_init 159 = .ok (.new 78, 3) := by decide +kernel
theorem dX8_init_162 : decode cX8_init 162 = .ok (.dup, 1) := by decide +kernel
theorem dX8_init_163 : decode cX8_init 163 = .ok (.invokespecial 80, 3) := by decide +kernel
theorem dX8_init_166 : decode cX8_init 166 = .ok (.putfield 81, 3) := by decide +kernel
theorem dX8_init_169 : decode cX8_init 169 = .ok (.aload_n 0, 1) := by decide +kernel
theorem dX8_init_170 : decode cX8_init 170 = .ok (.new 85, 3) := by decide +kernel
theorem dX8_init_173 : decode cX8_init 173 = .ok (.dup, 1) := by decide +kernel
theorem dX8_init_174 : decode cX8_init 174 = .ok (.invokespecial 87, 3) := by decide +kernel
theorem dX8_init_177 : decode cX8_init 177 = .ok (.putfield 88, 3) := by decide +kernel
theorem dX8_init_180 : decode cX8_init 180 = .ok (.aload_n 0, 1) := by decide +kernel
theorem dX8_init_181 : decode cX8_init 181 = .ok (.iconst 3, 1) := by decide +kernel
theorem dX8_init_182 : decode cX8_init 182 = .ok (.newarray .int, 2) := by decide +kernel
theorem dX8_init_184 : decode cX8_init 184 = .ok (.putfield 92, 3) := by decide +kernel
theorem dX8_init_187 : decode cX8_init 187 = .ok (.aload_n 0, 1) := by decide +kernel
theorem dX8_init_188 : decode cX8_init 188 = .ok (.sipush 324, 3) := by decide +kernel
theorem dX8_init_191 : decode cX8_init 191 = .ok (.newarray .int, 2) := by decide +kernel
theorem dX8_init_193 : decode cX8_init 193 = .ok (.putfield 96, 3) := by decide +kernel
theorem dX8_init_196 : decode cX8_init 196 = .ok (.return_, 1) := by decide +kernel
theorem dX8_feed_0 : decode cX8_feed 0 = .ok (.aload_n 0, 1) := by decide +kernel
theorem dX8_feed_1 : decode cX8_feed 1 = .ok (.getfield 13, 3) := by decide +kernel
theorem dX8_feed_4 : decode cX8_feed 4 = .ok (.bipush 20, 2) := by decide +kernel
theorem dX8_feed_6 : decode cX8_feed 6 = .ok (.iadd, 1) := by decide +kernel
theorem dX8_feed_7 : decode cX8_feed 7 = .ok (.sipush 700, 3) := by decide +kernel
theorem dX8_feed_10 : decode cX8_feed 10 = .ok (.if_icmp .le 5, 3) := by decide +kernel
theorem dX8_feed_13 : decode cX8_feed 13 = .ok (.iconst (-1), 1) := by decide +kernel
theorem dX8_feed_14 : decode cX8_feed 14 = .ok (.ireturn, 1) := by decide +kernel
theorem dX8_feed_15 : decode cX8_feed 15 = .ok (.aload_n 0, 1) := by decide +kernel
theorem dX8_feed_16 : decode cX8_feed 16 = .ok (.iload_n 1, 1) := by decide +kernel
theorem dX8_feed_17 : decode cX8_feed 17 = .ok (.invokevirtual 99, 3) := by decide +kernel
theorem dX8_feed_20 : decode cX8_feed 20 = .ok (.aload_n 0, 1) := by decide +kernel
theorem dX8_feed_21 : decode cX8_feed 21 = .ok (.iload_n 2, 1) := by decide +kernel
theorem dX8_feed_22 : decode cX8_feed 22 = .ok (.invokevirtual 99, 3) := by decide +kernel
theorem dX8_feed_25 : decode cX8_feed 25 = .ok (.aload_n 0, 1) := by decide +kernel
theorem dX8_feed_26 : decode cX8_feed 26 = .ok (.iload_n 3, 1) := by decide +kernel
theorem dX8_feed_27 : decode cX8_feed 27 = .ok (.invokevirtual 99, 3) := by decide +kernel
theorem dX8_feed_30 : decode cX8_feed 30 = .ok (.aload_n 0, 1) := by decide +kernel
theorem dX8_feed_31 : decode cX8_feed 31 = .ok (.iload 4, 2) := by decide +kernel
theorem dX8_feed_33 : decode cX8_feed 33 = .ok (.invokevirtual 99, 3) := by decide +kernel
theorem dX8_feed_36 : decode cX8_feed 36 = .ok (.aload_n 0, 1) := by decide +kernel
theorem dX8_feed_37 : decode cX8_feed 37 = .ok (.iload 5, 2) := by decide +kernel
theorem dX8_feed_39 : decode cX8_feed 39 = .ok (.invokevirtual 99, 3) := by decide +kernel
theorem dX8_feed_42 : decode cX8_feed 42 = .ok (.aload_n 0, 1) := by decide +kernel
theorem dX8_feed_43 : decode cX8_feed 43 = .ok (.getfield 13, 3) := by decide +kernel
theorem dX8_feed_46 : decode cX8_feed 46 = .ok (.ireturn, 1) := by decide +kernel
theorem dX8_putNumber_0 : decode cX8_putNumber 0 = .ok (.bipush 24, 2) := by decide +kernel
theorem dX8_putNumber_2 : decode cX8_putNumber 2 = .ok (.istore_n 2, 1) := by decide +kernel
theorem dX8_putNumber_3 : decode cX8_putNumber 3 = .ok (.iload_n 2, 1) := by decide +kernel
theorem dX8_putNumber_4 : decode cX8_putNumber 4 = .ok (.ifCond .lt 42, 3) := by decide +kernel
theorem dX8_putNumber_7 : decode cX8_putNumber 7 = .ok (.aload_n 0, 1) := by decide +kernel
theorem dX8_putNumber_8 : decode cX8_putNumber 8 = .ok (.getfield 13, 3) := by decide +kernel
theorem dX8_putNumber_11 : decode cX8_putNumber 11 = .ok (.sipush 700, 3) := by decide +kernel
theorem dX8_putNumber_14 : decode cX8_putNumber 14 = .ok (.if_icmp .ge 32, 3) := by decide +kernel
theorem dX8_putNumber_17 : decode cX8_putNumber 17 = .ok (.aload_n 0, 1) := by decide +kernel
theorem dX8_putNumber_18 : decode cX8_putNumber 18 = .ok (.getfield 9, 3) := by decide +kernel
theorem dX8_putNumber_21 : decode cX8_putNumber 21 = .ok (.aload_n 0, 1) := by decide +kernel
theorem dX8_putNumber_22 : decode cX8_putNumber 22 = .ok (.getfield 13, 3) := by decide +kernel
theorem dX8_putNumber_25 : decode cX8_putNumber 25 = .ok (.iload_n 1, 1) := by decide +kernel
theorem dX8_putNumber_26 : decode cX8_putNumber 26 = .ok (.iload_n 2, 1) := by decide +kernel
theorem dX8_putNumber_27 : decode cX8_putNumber 27 = .ok (.iushr, 1) := by decide +kernel
theorem dX8_putNumber_28 : decode cX8_putNumber 28 = .ok (.i2b, 1) := by decide +kernel
theorem dX8_putNumber_29 : decode cX8_putNumber 29 = .ok (.bastore, 1) := by decide +kernel
theorem dX8_putNumber_30 : decode cX8_putNumber 30 = .ok (.aload_n 0, 1) := by decide +kernel
theorem dX8_putNumber_31 : decode cX8_putNumber 31 = .ok (.dup, 1) := by decide +kernel
theorem dX8_putNumber_32 : decode cX8_putNumber 32 = .ok (.getfield 13, 3) := by decide +kernel
theorem dX8_putNumber_35 : decode cX8_putNumber 35 = .ok (.iconst 1, 1) := by decide +kernel
theorem dX8_putNumber_36 : decode cX8_putNumber 36 = .ok (.iadd, 1) := by decide +kernel
theorem dX8_putNumber_37 : decode cX8_putNumber 37 = .ok (.putfield 13, 3) := by decide +kernel
theorem dX8_putNumber_40 : decode cX8_putNumber 40 = .ok (.iinc 2 (-8), 3) := by decide +kernel
theorem dX8_putNumber_43 : decode cX8_putNumber 43 = .ok (.goto (-40), 3) := by decide +kernel
theorem dX8_putNumber_46 : decode cX8_putNumber 46 = .ok (.return_, 1) := by decide +kernel
theorem dX8_office_0 : decode cX8_office 0 = .ok (.iload_n 1, 1) := by decide +kernel
theorem dX8_office_1 : decode cX8_office 1 = .ok (.ifCond .lt 11, 3) := by decide +kernel
theorem dX8_office_4 : decode cX8_office 4 = .ok (.iload_n 1, 1) := by decide +kernel
theorem dX8_office_5 : decode cX8_office 5 = .ok (.aload_n 0, 1) := by decide +kernel
theorem dX8_office_6 : decode cX8_office 6 = .ok (.getfield 13, 3) := by decide +kernel
theorem dX8_office_9 : decode cX8_office 9 = .ok (.if_icmp .le 13, 3) := by decide +kernel
theorem dX8_office_12 : decode cX8_office 12 = .ok (.new 103, 3) := by decide +kernel
theorem dX8_office_15 : decode cX8_office 15 = .ok (.dup, 1) := by decide +kernel
theorem dX8_office_16 : decode cX8_office 16 = .ok (.ldc 105, 2) := by decide +kernel
theorem dX8_office_18 : decode cX8_office 18 = .ok (.invokespecial 107, 3) := by decide +kernel
theorem dX8_office_21 : decode cX8_office 21 = .ok (.athrow, 1) := by decide +kernel
theorem dX8_office_22 : decode cX8_office 22 = .ok (.aload_n 0, 1) := by decide +kernel
theorem dX8_office_23 : decode cX8_office 23 = .ok (.iconst 0, 1) := by decide +kernel
theorem dX8_office_24 : decode cX8_office 24 = .ok (.putfield 13, 3) := by decide +kernel
theorem dX8_office_27 : decode cX8_office 27 = .ok (.aload_n 0, 1) := by decide +kernel
theorem dX8_office_28 : decode cX8_office 28 = .ok (.getfield 35, 3) := by decide +kernel
theorem dX8_office_31 : decode cX8_office 31 = .ok (.iload_n 1, 1) := by decide +kernel
theorem dX8_office_32 : decode cX8_office 32 = .ok (.aload_n 0, 1) := by decide +kernel
theorem dX8_office_33 : decode cX8_office 33 = .ok (.getfield 27, 3) := by decide +kernel
theorem dX8_office_36 : decode cX8_office 36 = .ok (.invokevirtual 110, 3) := by decide +kernel
theorem dX8_office_39 : decode cX8_office 39 = .ok (.iconst 0, 1) := by decide +kernel
theorem dX8_office_40 : decode cX8_office 40 = .ok (.istore_n 2, 1) := by decide +kernel
theorem dX8_office_41 : decode cX8_office 41 = .ok (.iload_n 2, 1) := by decide +kernel
theorem dX8_office_42 : decode cX8_office 42 = .ok (.sipush 700, 3) := by decide +kernel
theorem dX8_office_45 : decode cX8_office 45 = .ok (.if_icmp .ge 26, 3) := by decide +kernel
theorem dX8_office_48 : decode cX8_office 48 = .ok (.aload_n 0, 1) := by decide +kernel
theorem dX8_office_49 : decode cX8_office 49 = .ok (.getfield 35, 3) := by decide +kernel
theorem dX8_office_52 : decode cX8_office 52 = .ok (.invokevirtual 114, 3) := by decide +kernel
theorem dX8_office_55 : decode cX8_office 55 = .ok (.ifCond .eq 16, 3) := by decide +kernel
theorem dX8_office_58 : decode cX8_office 58 = .ok (.aload_n 0, 1) := by decide +kernel
theorem dX8_office_59 : decode cX8_office 59 = .ok (.getfield 35, 3) := by decide +kernel
theorem dX8_office_62 : decode cX8_office 62 = .ok (.invokevirtual 118, 3) := by decide +kernel
theorem dX8_office_65 : decode cX8_office 65 = .ok (.iinc 2 1, 3) := by decide +kernel
theorem dX8_office_68 : decode cX8_office 68 = .ok (.goto (-27), 3) := by decide +kernel
theorem dX8_office_71 : decode cX8_office 71 = .ok (.aload_n 0, 1) := by decide +kernel
theorem dX8_office_72 : decode cX8_office 72 = .ok (.getfield 35, 3) := by decide +kernel
theorem dX8_office_75 : decode cX8_office 75 = .ok (.getfield 121, 3) := by decide +kernel
theorem dX8_office_78 : decode cX8_office 78 = .ok (.ifCond .eq 32, 3) := by decide +kernel
theorem dX8_office_81 : decode cX8_office 81 = .ok (.aload_n 0, 1) := by decide +kernel
theorem dX8_office_82 : decode cX8_office 82 = .ok (.aload_n 0, 1) := by decide +kernel
theorem dX8_office_83 : decode cX8_office 83 = .ok (.getfield 35, 3) := by decide +kernel
theorem dX8_office_86 : decode cX8_office 86 = .ok (.getfield 124, 3) := by decide +kernel
theorem dX8_office_89 : decode cX8_office 89 = .ok (.putfield 17, 3) := by decide +kernel
theorem dX8_office_92 : decode cX8_office 92 = .ok (.aload_n 0, 1) := by decide +kernel
theorem dX8_office_93 : decode cX8_office 93 = .ok (.getfield 92, 3) := by decide +kernel
theorem dX8_office_96 : decode cX8_office 96 = .ok (.iconst 0, 1) := by decide +kernel
theorem dX8_office_97 : decode cX8_office 97 = .ok (.dup2, 1) := by decide +kernel
theorem dX8_office_98 : decode cX8_office 98 = .ok (.iaload, 1) := by decide +kernel
theorem dX8_office_99 : decode cX8_office 99 = .ok (.iconst 1, 1) := by decide +kernel
theorem dX8_office_100 : decode cX8_office 100 = .ok (.iadd, 1) := by decide +kernel
theorem dX8_office_101 : decode cX8_office 101 = .ok (.iastore, 1) := by decide +kernel
theorem dX8_office_102 : decode cX8_office 102 = .ok (.aload_n 0, 1) := by decide +kernel
theorem dX8_office_103 : decode cX8_office 103 = .ok (.getfield 35, 3) := by decide +kernel
theorem dX8_office_106 : decode cX8_office 106 = .ok (.getfield 121, 3) := by decide +kernel
theorem dX8_office_109 : decode cX8_office 109 = .ok (.ireturn, 1) := by decide +kernel
theorem dX8_office_110 : decode cX8_office 110 = .ok (.aload_n 0, 1) := by decide +kernel
theorem dX8_office_111 : decode cX8_office 111 = .ok (.iconst (-1), 1) := by decide +kernel
theorem dX8_office_112 : decode cX8_office 112 = .ok (.putfield 17, 3) := by decide +kernel
theorem dX8_office_115 : decode cX8_office 115 = .ok (.aload_n 0, 1) := by decide +kernel
theorem dX8_office_116 : decode cX8_office 116 = .ok (.getfield 23, 3) := by decide +kernel
theorem dX8_office_119 : decode cX8_office 119 = .ok (.astore_n 2, 1) := by decide +kernel
theorem dX8_office_120 : decode cX8_office 120 = .ok (.aload_n 0, 1) := by decide +kernel
theorem dX8_office_121 : decode cX8_office 121 = .ok (.aload_n 0, 1) := by decide +kernel
theorem dX8_office_122 : decode cX8_office 122 = .ok (.getfield 27, 3) := by decide +kernel
theorem dX8_office_125 : decode cX8_office 125 = .ok (.putfield 23, 3) := by decide +kernel
theorem dX8_office_128 : decode cX8_office 128 = .ok (.aload_n 0, 1) := by decide +kernel
theorem dX8_office_129 : decode cX8_office 129 = .ok (.aload_n 2, 1) := by decide +kernel
theorem dX8_office_130 : decode cX8_office 130 = .ok (.putfield 27, 3) := by decide +kernel
theorem dX8_office_133 : decode cX8_office 133 = .ok (.aload_n 0, 1) := by decide +kernel
theorem dX8_office_134 : decode cX8_office 134 = .ok (.getfield 44, 3) := by decide +kernel
theorem dX8_office_137 : decode cX8_office 137 = .ok (.aload_n 0, 1) := by decide +kernel
theorem dX8_office_138 : decode cX8_office 138 = .ok (.getfield 23, 3) := by decide +kernel
theorem dX8_office_141 : decode cX8_office 141 = .ok (.invokevirtual 125, 3) := by decide +kernel
theorem dX8_office_144 : decode cX8_office 144 = .ok (.aload_n 0, 1) := by decide +kernel
theorem dX8_office_145 : decode cX8_office 145 = .ok (.getfield 54, 3) := by decide +kernel
theorem dX8_office_148 : decode cX8_office 148 = .ok (.invokevirtual 127, 3) := by decide +kernel
theorem dX8_office_151 : decode cX8_office 151 = .ok (.aload_n 0, 1) := by decide +kernel
theorem dX8_office_152 : decode cX8_office 152 = .ok (.getfield 61, 3) := by decide +kernel
theorem dX8_office_155 : decode cX8_office 155 = .ok (.invokevirtual 130, 3) := by decide +kernel
theorem dX8_office_158 : decode cX8_office 158 = .ok (.aload_n 0, 1) := by decide +kernel
theorem dX8_office_159 : decode cX8_office 159 = .ok (.iconst 0, 1) := by decide +kernel
theorem dX8_office_160 : decode cX8_office 160 = .ok (.putfield 65, 3) := by decide +kernel
theorem dX8_office_163 : decode cX8_office 163 = .ok (.iconst 0, 1) := by decide +kernel
theorem dX8_office_164 : decode cX8_office 164 = .ok (.ireturn, 1) := by decide +kernel
theorem dX8_fault_0 : decode cX8_fault 0 = .ok (.aload_n 0, 1) := by decide +kernel
theorem dX8_fault_1 : decode cX8_fault 1 = .ok (.getfield 17, 3) := by decide +kernel
theorem dX8_fault_4 : decode cX8_fault 4 = .ok (.ireturn, 1) := by decide +kernel
theorem dX8_count_0 : decode cX8_count 0 = .ok (.iload_n 1, 1) := by decide +kernel
theorem dX8_count_1 : decode cX8_count 1 = .ok (.tableswitch 200 0 14 #[75, 83, 91, 99, 107, 115, 123, 131, 139, 158, 166, 174, 179, 186, 193], 75) := by decide +kernel
theorem dX8_count_76 : decode cX8_count 76 = .ok (.aload_n 0, 1) := by decide +kernel
theorem dX8_count_77 : decode cX8_count 77 = .ok (.getfield 23, 3) := by decide +kernel
theorem dX8_count_80 : decode cX8_count 80 = .ok (.getfield 131, 3) := by decide +kernel
theorem dX8_count_83 : decode cX8_count 83 = .ok (.ireturn, 1) := by decide +kernel
theorem dX8_count_84 : decode cX8_count 84 = .ok (.aload_n 0, 1) := by decide +kernel
theorem dX8_count_85 : decode cX8_count 85 = .ok (.getfield 23, 3) := by decide +kernel
theorem dX8_count_88 : decode cX8_count 88 = .ok (.getfield 134, 3) := by decide +kernel
theorem dX8_count_91 : decode cX8_count 91 = .ok (.ireturn, 1) := by decide +kernel
theorem dX8_count_92 : decode cX8_count 92 = .ok (.aload_n 0, 1) := by decide +kernel
theorem dX8_count_93 : decode cX8_count 93 = .ok (.getfield 23, 3) := by decide +kernel
theorem dX8_count_96 : decode cX8_count 96 = .ok (.getfield 137, 3) := by decide +kernel
theorem dX8_count_99 : decode cX8_count 99 = .ok (.ireturn, 1) := by decide +kernel
theorem dX8_count_100 : decode cX8_count 100 = .ok (.aload_n 0, 1) := by decide +kernel
theorem dX8_count_101 : decode cX8_count 101 = .ok (.getfield 23, 3) := by decide +kernel
theorem dX8_count_104 : decode cX8_count 104 = .ok (.getfield 140, 3) := by decide +kernel
theorem dX8_count_107 : decode cX8_count 107 = .ok (.ireturn, 1) := by decide +kernel
theorem dX8_count_108 : decode cX8_count 108 = .ok (.aload_n 0, 1) := by decide +kernel
theorem dX8_count_109 : decode cX8_count 109 = .ok (.getfield 44, 3) := by decide +kernel
theorem dX8_count_112 : decode cX8_count 112 = .ok (.getfield 143, 3) := by decide +kernel
theorem dX8_count_115 : decode cX8_count 115 = .ok (.ireturn, 1) := by decide +kernel
theorem dX8_count_116 : decode cX8_count 116 = .ok (.aload_n 0, 1) := by decide +kernel
theorem dX8_count_117 : decode cX8_count 117 = .ok (.getfield 44, 3) := by decide +kernel
theorem dX8_count_120 : decode cX8_count 120 = .ok (.invokevirtual 146, 3) := by decide +kernel
theorem dX8_count_123 : decode cX8_count 123 = .ok (.ireturn, 1) := by decide +kernel
theorem dX8_count_124 : decode cX8_count 124 = .ok (.aload_n 0, 1) := by decide +kernel
theorem dX8_count_125 : decode cX8_count 125 = .ok (.getfield 44, 3) := by decide +kernel
theorem dX8_count_128 : decode cX8_count 128 = .ok (.invokevirtual 150, 3) := by decide +kernel
theorem dX8_count_131 : decode cX8_count 131 = .ok (.ireturn, 1) := by decide +kernel
theorem dX8_count_132 : decode cX8_count 132 = .ok (.aload_n 0, 1) := by decide +kernel
theorem dX8_count_133 : decode cX8_count 133 = .ok (.getfield 44, 3) := by decide +kernel
theorem dX8_count_136 : decode cX8_count 136 = .ok (.invokevirtual 153, 3) := by decide +kernel
theorem dX8_count_139 : decode cX8_count 139 = .ok (.ireturn, 1) := by decide +kernel
theorem dX8_count_140 : decode cX8_count 140 = .ok (.aload_n 0, 1) := by decide +kernel
theorem dX8_count_141 : decode cX8_count 141 = .ok (.getfield 81, 3) := by decide +kernel
theorem dX8_count_144 : decode cX8_count 144 = .ok (.aload_n 0, 1) := by decide +kernel
theorem dX8_count_145 : decode cX8_count 145 = .ok (.getfield 44, 3) := by decide +kernel
theorem dX8_count_148 : decode cX8_count 148 = .ok (.invokevirtual 156, 3) := by decide +kernel
theorem dX8_count_151 : decode cX8_count 151 = .ok (.aload_n 0, 1) := by decide +kernel
theorem dX8_count_152 : decode cX8_count 152 = .ok (.getfield 81, 3) := by decide +kernel
theorem dX8_count_155 : decode cX8_count 155 = .ok (.invokevirtual 160, 3) := by decide +kernel
theorem dX8_count_158 : decode cX8_count 158 = .ok (.ireturn, 1) := by decide +kernel
theorem dX8_count_159 : decode cX8_count 159 = .ok (.aload_n 0, 1) := by decide +kernel
theorem dX8_count_160 : decode cX8_count 160 = .ok (.getfield 54, 3) := by decide +kernel
theorem dX8_count_163 : decode cX8_count 163 = .ok (.getfield 163, 3) := by decide +kernel
theorem dX8_count_166 : decode cX8_count 166 = .ok (.ireturn, 1) := by decide +kernel
theorem dX8_count_167 : decode cX8_count 167 = .ok (.aload_n 0, 1) := by decide +kernel
theorem dX8_count_168 : decode cX8_count 168 = .ok (.getfield 61, 3) := by decide +kernel
theorem dX8_count_171 : decode cX8_count 171 = .ok (.getfield 166, 3) := by decide +kernel
theorem dX8_count_174 : decode cX8_count 174 = .ok (.ireturn, 1) := by decide +kernel
theorem dX8_count_175 : decode cX8_count 175 = .ok (.aload_n 0, 1) := by decide +kernel
theorem dX8_count_176 : decode cX8_count 176 = .ok (.getfield 13, 3) := by decide +kernel
theorem dX8_count_179 : decode cX8_count 179 = .ok (.ireturn, 1) := by decide +kernel
theorem dX8_count_180 : decode cX8_count 180 = .ok (.aload_n 0, 1) := by decide +kernel
theorem dX8_count_181 : decode cX8_count 181 = .ok (.getfield 92, 3) := by decide +kernel
theorem dX8_count_184 : decode cX8_count 184 = .ok (.iconst 0, 1) := by decide +kernel
theorem dX8_count_185 : decode cX8_count 185 = .ok (.iaload, 1) := by decide +kernel
theorem dX8_count_186 : decode cX8_count 186 = .ok (.ireturn, 1) := by decide +kernel
theorem dX8_count_187 : decode cX8_count 187 = .ok (.aload_n 0, 1) := by decide +kernel
theorem dX8_count_188 : decode cX8_count 188 = .ok (.getfield 92, 3) := by decide +kernel
theorem dX8_count_191 : decode cX8_count 191 = .ok (.iconst 1, 1) := by decide +kernel
theorem dX8_count_192 : decode cX8_count 192 = .ok (.iaload, 1) := by decide +kernel
theorem dX8_count_193 : decode cX8_count 193 = .ok (.ireturn, 1) := by decide +kernel
theorem dX8_count_194 : decode cX8_count 194 = .ok (.aload_n 0, 1) := by decide +kernel
theorem dX8_count_195 : decode cX8_count 195 = .ok (.getfield 92, 3) := by decide +kernel
theorem dX8_count_198 : decode cX8_count 198 = .ok (.iconst 2, 1) := by decide +kernel
theorem dX8_count_199 : decode cX8_count 199 = .ok (.iaload, 1) := by decide +kernel
theorem dX8_count_200 : decode cX8_count 200 = .ok (.ireturn, 1) := by decide +kernel
theorem dX8_count_201 : decode cX8_count 201 = .ok (.new 167, 3) := by decide +kernel
theorem dX8_count_204 : decode cX8_count 204 = .ok (.dup, 1) := by decide +kernel
theorem dX8_count_205 : decode cX8_count 205 = .ok (.ldc 169, 2) := by decide +kernel
theorem dX8_count_207 : decode cX8_count 207 = .ok (.invokespecial 171, 3) := by decide +kernel
theorem dX8_count_210 : decode cX8_count 210 = .ok (.athrow, 1) := by decide +kernel
theorem dX8_sheet_0 : decode cX8_sheet 0 = .ok (.aload_n 0, 1) := by decide +kernel
theorem dX8_sheet_1 : decode cX8_sheet 1 = .ok (.iload_n 1, 1) := by decide +kernel
theorem dX8_sheet_2 : decode cX8_sheet 2 = .ok (.invokevirtual 172, 3) := by decide +kernel
theorem dX8_sheet_5 : decode cX8_sheet 5 = .ok (.iload_n 2, 1) := by decide +kernel
theorem dX8_sheet_6 : decode cX8_sheet 6 = .ok (.tableswitch 82 0 4 #[34, 44, 54, 64, 73], 34) := by decide +kernel
theorem dX8_sheet_40 : decode cX8_sheet 40 = .ok (.aload_n 0, 1) := by decide +kernel
theorem dX8_sheet_41 : decode cX8_sheet 41 = .ok (.getfield 44, 3) := by decide +kernel
theorem dX8_sheet_44 : decode cX8_sheet 44 = .ok (.getfield 175, 3) := by decide +kernel
theorem dX8_sheet_47 : decode cX8_sheet 47 = .ok (.iload_n 1, 1) := by decide +kernel
theorem dX8_sheet_48 : decode cX8_sheet 48 = .ok (.iaload, 1) := by decide +kernel
theorem dX8_sheet_49 : decode cX8_sheet 49 = .ok (.ireturn, 1) := by decide +kernel
theorem dX8_sheet_50 : decode cX8_sheet 50 = .ok (.aload_n 0, 1) := by decide +kernel
theorem dX8_sheet_51 : decode cX8_sheet 51 = .ok (.getfield 44, 3) := by decide +kernel
theorem dX8_sheet_54 : decode cX8_sheet 54 = .ok (.getfield 178, 3) := by decide +kernel
theorem dX8_sheet_57 : decode cX8_sheet 57 = .ok (.iload_n 1, 1) := by decide +kernel
theorem dX8_sheet_58 : decode cX8_sheet 58 = .ok (.iaload, 1) := by decide +kernel
theorem dX8_sheet_59 : decode cX8_sheet 59 = .ok (.ireturn, 1) := by decide +kernel
theorem dX8_sheet_60 : decode cX8_sheet 60 = .ok (.aload_n 0, 1) := by decide +kernel
theorem dX8_sheet_61 : decode cX8_sheet 61 = .ok (.getfield 44, 3) := by decide +kernel
theorem dX8_sheet_64 : decode cX8_sheet 64 = .ok (.iload_n 1, 1) := by decide +kernel
theorem dX8_sheet_65 : decode cX8_sheet 65 = .ok (.iconst 0, 1) := by decide +kernel
theorem dX8_sheet_66 : decode cX8_sheet 66 = .ok (.invokevirtual 181, 3) := by decide +kernel
theorem dX8_sheet_69 : decode cX8_sheet 69 = .ok (.ireturn, 1) := by decide +kernel
theorem dX8_sheet_70 : decode cX8_sheet 70 = .ok (.aload_n 0, 1) := by decide +kernel
theorem dX8_sheet_71 : decode cX8_sheet 71 = .ok (.getfield 44, 3) := by decide +kernel
theorem dX8_sheet_74 : decode cX8_sheet 74 = .ok (.iload_n 1, 1) := by decide +kernel
theorem dX8_sheet_75 : decode cX8_sheet 75 = .ok (.invokevirtual 185, 3) := by decide +kernel
theorem dX8_sheet_78 : decode cX8_sheet 78 = .ok (.ireturn, 1) := by decide +kernel
theorem dX8_sheet_79 : decode cX8_sheet 79 = .ok (.aload_n 0, 1) := by decide +kernel
theorem dX8_sheet_80 : decode cX8_sheet 80 = .ok (.getfield 44, 3) := by decide +kernel
theorem dX8_sheet_83 : decode cX8_sheet 83 = .ok (.iload_n 1, 1) := by decide +kernel
theorem dX8_sheet_84 : decode cX8_sheet 84 = .ok (.invokevirtual 189, 3) := by decide +kernel
theorem dX8_sheet_87 : decode cX8_sheet 87 = .ok (.ireturn, 1) := by decide +kernel
theorem dX8_sheet_88 : decode cX8_sheet 88 = .ok (.new 167, 3) := by decide +kernel
theorem dX8_sheet_91 : decode cX8_sheet 91 = .ok (.dup, 1) := by decide +kernel
theorem dX8_sheet_92 : decode cX8_sheet 92 = .ok (.ldc 192, 2) := by decide +kernel
theorem dX8_sheet_94 : decode cX8_sheet 94 = .ok (.invokespecial 171, 3) := by decide +kernel
theorem dX8_sheet_97 : decode cX8_sheet 97 = .ok (.athrow, 1) := by decide +kernel
theorem dX8_clerk_0 : decode cX8_clerk 0 = .ok (.aload_n 0, 1) := by decide +kernel
theorem dX8_clerk_1 : decode cX8_clerk 1 = .ok (.iload_n 1, 1) := by decide +kernel
theorem dX8_clerk_2 : decode cX8_clerk 2 = .ok (.invokevirtual 194, 3) := by decide +kernel
theorem dX8_clerk_5 : decode cX8_clerk 5 = .ok (.iload_n 2, 1) := by decide +kernel
theorem dX8_clerk_6 : decode cX8_clerk 6 = .ok (.tableswitch 75 0 3 #[30, 46, 56, 65], 30) := by decide +kernel
theorem dX8_clerk_36 : decode cX8_clerk 36 = .ok (.aload_n 0, 1) := by decide +kernel
theorem dX8_clerk_37 : decode cX8_clerk 37 = .ok (.getfield 23, 3) := by decide +kernel
theorem dX8_clerk_40 : decode cX8_clerk 40 = .ok (.iload_n 1, 1) := by decide +kernel
theorem dX8_clerk_41 : decode cX8_clerk 41 = .ok (.aload_n 0, 1) := by decide +kernel
theorem dX8_clerk_42 : decode cX8_clerk 42 = .ok (.getfield 44, 3) := by decide +kernel
theorem dX8_clerk_45 : decode cX8_clerk 45 = .ok (.getfield 143, 3) := by decide +kernel
theorem dX8_clerk_48 : decode cX8_clerk 48 = .ok (.invokevirtual 197, 3) := by decide +kernel
theorem dX8_clerk_51 : decode cX8_clerk 51 = .ok (.ireturn, 1) := by decide +kernel
theorem dX8_clerk_52 : decode cX8_clerk 52 = .ok (.aload_n 0, 1) := by decide +kernel
theorem dX8_clerk_53 : decode cX8_clerk 53 = .ok (.getfield 44, 3) := by decide +kernel
theorem dX8_clerk_56 : decode cX8_clerk 56 = .ok (.getfield 200, 3) := by decide +kernel
theorem dX8_clerk_59 : decode cX8_clerk 59 = .ok (.iload_n 1, 1) := by decide +kernel
theorem dX8_clerk_60 : decode cX8_clerk 60 = .ok (.iaload, 1) := by decide +kernel
theorem dX8_clerk_61 : decode cX8_clerk 61 = .ok (.ireturn, 1) := by decide +kernel
theorem dX8_clerk_62 : decode cX8_clerk 62 = .ok (.aload_n 0, 1) := by decide +kernel
theorem dX8_clerk_63 : decode cX8_clerk 63 = .ok (.getfield 44, 3) := by decide +kernel
theorem dX8_clerk_66 : decode cX8_clerk 66 = .ok (.iload_n 1, 1) := by decide +kernel
theorem dX8_clerk_67 : decode cX8_clerk 67 = .ok (.invokevirtual 203, 3) := by decide +kernel
theorem dX8_clerk_70 : decode cX8_clerk 70 = .ok (.ireturn, 1) := by decide +kernel
theorem dX8_clerk_71 : decode cX8_clerk 71 = .ok (.aload_n 0, 1) := by decide +kernel
theorem dX8_clerk_72 : decode cX8_clerk 72 = .ok (.getfield 23, 3) := by decide +kernel
theorem dX8_clerk_75 : decode cX8_clerk 75 = .ok (.getfield 206, 3) := by decide +kernel
theorem dX8_clerk_78 : decode cX8_clerk 78 = .ok (.iload_n 1, 1) := by decide +kernel
theorem dX8_clerk_79 : decode cX8_clerk 79 = .ok (.iaload, 1) := by decide +kernel
theorem dX8_clerk_80 : decode cX8_clerk 80 = .ok (.ireturn, 1) := by decide +kernel
theorem dX8_clerk_81 : decode cX8_clerk 81 = .ok (.new 167, 3) := by decide +kernel
theorem dX8_clerk_84 : decode cX8_clerk 84 = .ok (.dup, 1) := by decide +kernel
theorem dX8_clerk_85 : decode cX8_clerk 85 = .ok (.ldc 209, 2) := by decide +kernel
theorem dX8_clerk_87 : decode cX8_clerk 87 = .ok (.invokespecial 171, 3) := by decide +kernel
theorem dX8_clerk_90 : decode cX8_clerk 90 = .ok (.athrow, 1) := by decide +kernel
theorem dX8_word_0 : decode cX8_word 0 = .ok (.aload_n 0, 1) := by decide +kernel
theorem dX8_word_1 : decode cX8_word 1 = .ok (.iload_n 1, 1) := by decide +kernel
theorem dX8_word_2 : decode cX8_word 2 = .ok (.invokevirtual 211, 3) := by decide +kernel
theorem dX8_word_5 : decode cX8_word 5 = .ok (.iload_n 2, 1) := by decide +kernel
theorem dX8_word_6 : decode cX8_word 6 = .ok (.tableswitch 68 0 3 #[30, 40, 50, 59], 30) := by decide +kernel
theorem dX8_word_36 : decode cX8_word 36 = .ok (.aload_n 0, 1) := by decide +kernel
theorem dX8_word_37 : decode cX8_word 37 = .ok (.getfield 23, 3) := by decide +kernel
theorem dX8_word_40 : decode cX8_word 40 = .ok (.getfield 214, 3) := by decide +kernel
theorem dX8_word_43 : decode cX8_word 43 = .ok (.iload_n 1, 1) := by decide +kernel
theorem dX8_word_44 : decode cX8_word 44 = .ok (.iaload, 1) := by decide +kernel
theorem dX8_word_45 : decode cX8_word 45 = .ok (.ireturn, 1) := by decide +kernel
theorem dX8_word_46 : decode cX8_word 46 = .ok (.aload_n 0, 1) := by decide +kernel
theorem dX8_word_47 : decode cX8_word 47 = .ok (.getfield 23, 3) := by decide +kernel
theorem dX8_word_50 : decode cX8_word 50 = .ok (.getfield 217, 3) := by decide +kernel
theorem dX8_word_53 : decode cX8_word 53 = .ok (.iload_n 1, 1) := by decide +kernel
theorem dX8_word_54 : decode cX8_word 54 = .ok (.iaload, 1) := by decide +kernel
theorem dX8_word_55 : decode cX8_word 55 = .ok (.ireturn, 1) := by decide +kernel
theorem dX8_word_56 : decode cX8_word 56 = .ok (.aload_n 0, 1) := by decide +kernel
theorem dX8_word_57 : decode cX8_word 57 = .ok (.getfield 44, 3) := by decide +kernel
theorem dX8_word_60 : decode cX8_word 60 = .ok (.iload_n 1, 1) := by decide +kernel
theorem dX8_word_61 : decode cX8_word 61 = .ok (.invokevirtual 220, 3) := by decide +kernel
theorem dX8_word_64 : decode cX8_word 64 = .ok (.ireturn, 1) := by decide +kernel
theorem dX8_word_65 : decode cX8_word 65 = .ok (.aload_n 0, 1) := by decide +kernel
theorem dX8_word_66 : decode cX8_word 66 = .ok (.getfield 44, 3) := by decide +kernel
theorem dX8_word_69 : decode cX8_word 69 = .ok (.iload_n 1, 1) := by decide +kernel
theorem dX8_word_70 : decode cX8_word 70 = .ok (.invokevirtual 223, 3) := by decide +kernel
theorem dX8_word_73 : decode cX8_word 73 = .ok (.ireturn, 1) := by decide +kernel
theorem dX8_word_74 : decode cX8_word 74 = .ok (.new 167, 3) := by decide +kernel
theorem dX8_word_77 : decode cX8_word 77 = .ok (.dup, 1) := by decide +kernel
theorem dX8_word_78 : decode cX8_word 78 = .ok (.ldc 226, 2) := by decide +kernel
theorem dX8_word_80 : decode cX8_word 80 = .ok (.invokespecial 171, 3) := by decide +kernel
theorem dX8_word_83 : decode cX8_word 83 = .ok (.athrow, 1) := by decide +kernel
theorem dX8_town_0 : decode cX8_town 0 = .ok (.iload_n 1, 1) := by decide +kernel
theorem dX8_town_1 : decode cX8_town 1 = .ok (.invokestatic 228, 3) := by decide +kernel
theorem dX8_town_4 : decode cX8_town 4 = .ok (.iload_n 2, 1) := by decide +kernel
theorem dX8_town_5 : decode cX8_town 5 = .ok (.tableswitch 96 0 4 #[35, 44, 54, 63, 80], 35) := by decide +kernel
theorem dX8_town_40 : decode cX8_town 40 = .ok (.aload_n 0, 1) := by decide +kernel
theorem dX8_town_41 : decode cX8_town 41 = .ok (.getfield 44, 3) := by decide +kernel
theorem dX8_town_44 : decode cX8_town 44 = .ok (.iload_n 1, 1) := by decide +kernel
theorem dX8_town_45 : decode cX8_town 45 = .ok (.invokevirtual 231, 3) := by decide +kernel
theorem dX8_town_48 : decode cX8_town 48 = .ok (.ireturn, 1) := by decide +kernel
theorem dX8_town_49 : decode cX8_town 49 = .ok (.aload_n 0, 1) := by decide +kernel
theorem dX8_town_50 : decode cX8_town 50 = .ok (.getfield 44, 3) := by decide +kernel
theorem dX8_town_53 : decode cX8_town 53 = .ok (.iload_n 1, 1) := by decide +kernel
theorem dX8_town_54 : decode cX8_town 54 = .ok (.iconst 0, 1) := by decide +kernel
theorem dX8_town_55 : decode cX8_town 55 = .ok (.invokevirtual 234, 3) := by decide +kernel
theorem dX8_town_58 : decode cX8_town 58 = .ok (.ireturn, 1) := by decide +kernel
theorem dX8_town_59 : decode cX8_town 59 = .ok (.aload_n 0, 1) := by decide +kernel
theorem dX8_town_60 : decode cX8_town 60 = .ok (.getfield 44, 3) := by decide +kernel
theorem dX8_town_63 : decode cX8_town 63 = .ok (.iload_n 1, 1) := by decide +kernel
theorem dX8_town_64 : decode cX8_town 64 = .ok (.invokevirtual 237, 3) := by decide +kernel
theorem dX8_town_67 : decode cX8_town 67 = .ok (.ireturn, 1) := by decide +kernel
theorem dX8_town_68 : decode cX8_town 68 = .ok (.aload_n 0, 1) := by decide +kernel
theorem dX8_town_69 : decode cX8_town 69 = .ok (.getfield 44, 3) := by decide +kernel
theorem dX8_town_72 : decode cX8_town 72 = .ok (.aload_n 0, 1) := by decide +kernel
theorem dX8_town_73 : decode cX8_town 73 = .ok (.getfield 44, 3) := by decide +kernel
theorem dX8_town_76 : decode cX8_town 76 = .ok (.iload_n 1, 1) := by decide +kernel
theorem dX8_town_77 : decode cX8_town 77 = .ok (.iconst 0, 1) := by decide +kernel
theorem dX8_town_78 : decode cX8_town 78 = .ok (.invokevirtual 234, 3) := by decide +kernel
theorem dX8_town_81 : decode cX8_town 81 = .ok (.invokevirtual 240, 3) := by decide +kernel
theorem dX8_town_84 : decode cX8_town 84 = .ok (.ireturn, 1) := by decide +kernel
theorem dX8_town_85 : decode cX8_town 85 = .ok (.aload_n 0, 1) := by decide +kernel
theorem dX8_town_86 : decode cX8_town 86 = .ok (.getfield 44, 3) := by decide +kernel
theorem dX8_town_89 : decode cX8_town 89 = .ok (.aload_n 0, 1) := by decide +kernel
theorem dX8_town_90 : decode cX8_town 90 = .ok (.getfield 44, 3) := by decide +kernel
theorem dX8_town_93 : decode cX8_town 93 = .ok (.iload_n 1, 1) := by decide +kernel
theorem dX8_town_94 : decode cX8_town 94 = .ok (.invokevirtual 231, 3) := by decide +kernel
theorem dX8_town_97 : decode cX8_town 97 = .ok (.invokevirtual 243, 3) := by decide +kernel
theorem dX8_town_100 : decode cX8_town 100 = .ok (.ireturn, 1) := by decide +kernel
theorem dX8_town_101 : decode cX8_town 101 = .ok (.new 167, 3) := by decide +kernel
theorem dX8_town_104 : decode cX8_town 104 = .ok (.dup, 1) := by decide +kernel
theorem dX8_town_105 : decode cX8_town 105 = .ok (.ldc 246, 2) := by decide +kernel
theorem dX8_town_107 : decode cX8_town 107 = .ok (.invokespecial 171, 3) := by decide +kernel
theorem dX8_town_110 : decode cX8_town 110 = .ok (.athrow, 1) := by decide +kernel
theorem dX8_days_0 : decode cX8_days 0 = .ok (.iload_n 1, 1) := by decide +kernel
theorem dX8_days_1 : decode cX8_days 1 = .ok (.iconst 1, 1) := by decide +kernel
theorem dX8_days_2 : decode cX8_days 2 = .ok (.if_icmp .lt 24, 3) := by decide +kernel
theorem dX8_days_5 : decode cX8_days 5 = .ok (.iload_n 1, 1) := by decide +kernel
theorem dX8_days_6 : decode cX8_days 6 = .ok (.bipush 20, 2) := by decide +kernel
theorem dX8_days_8 : decode cX8_days 8 = .ok (.if_icmp .gt 18, 3) := by decide +kernel
theorem dX8_days_11 : decode cX8_days 11 = .ok (.aload_n 0, 1) := by decide +kernel
theorem dX8_days_12 : decode cX8_days 12 = .ok (.getfield 44, 3) := by decide +kernel
theorem dX8_days_15 : decode cX8_days 15 = .ok (.getfield 143, 3) := by decide +kernel
theorem dX8_days_18 : decode cX8_days 18 = .ok (.iload_n 1, 1) := by decide +kernel
theorem dX8_days_19 : decode cX8_days 19 = .ok (.iadd, 1) := by decide +kernel
theorem dX8_days_20 : decode cX8_days 20 = .ok (.sipush 999, 3) := by decide +kernel
theorem dX8_days_23 : decode cX8_days 23 = .ok (.if_icmp .le 15, 3) := by decide +kernel
theorem dX8_days_26 : decode cX8_days 26 = .ok (.aload_n 0, 1) := by decide +kernel
theorem dX8_days_27 : decode cX8_days 27 = .ok (.getfield 92, 3) := by decide +kernel
theorem dX8_days_30 : decode cX8_days 30 = .ok (.iconst 1, 1) := by decide +kernel
theorem dX8_days_31 : decode cX8_days 31 = .ok (.dup2, 1) := by decide +kernel
theorem dX8_days_32 : decode cX8_days 32 = .ok (.iaload, 1) := by decide +kernel
theorem dX8_days_33 : decode cX8_days 33 = .ok (.iconst 1, 1) := by decide +kernel
theorem dX8_days_34 : decode cX8_days 34 = .ok (.iadd, 1) := by decide +kernel
theorem dX8_days_35 : decode cX8_days 35 = .ok (.iastore, 1) := by decide +kernel
theorem dX8_days_36 : decode cX8_days 36 = .ok (.iconst (-1), 1) := by decide +kernel
theorem dX8_days_37 : decode cX8_days 37 = .ok (.ireturn, 1) := by decide +kernel
theorem dX8_days_38 : decode cX8_days 38 = .ok (.aload_n 0, 1) := by decide +kernel
theorem dX8_days_39 : decode cX8_days 39 = .ok (.getfield 54, 3) := by decide +kernel
theorem dX8_days_42 : decode cX8_days 42 = .ok (.aload_n 0, 1) := by decide +kernel
theorem dX8_days_43 : decode cX8_days 43 = .ok (.getfield 44, 3) := by decide +kernel
theorem dX8_days_46 : decode cX8_days 46 = .ok (.invokevirtual 248, 3) := by decide +kernel
theorem dX8_days_49 : decode cX8_days 49 = .ok (.aload_n 0, 1) := by decide +kernel
theorem dX8_days_50 : decode cX8_days 50 = .ok (.getfield 44, 3) := by decide +kernel
theorem dX8_days_53 : decode cX8_days 53 = .ok (.iload_n 1, 1) := by decide +kernel
theorem dX8_days_54 : decode cX8_days 54 = .ok (.invokevirtual 251, 3) := by decide +kernel
theorem dX8_days_57 : decode cX8_days 57 = .ok (.aload_n 0, 1) := by decide +kernel
theorem dX8_days_58 : decode cX8_days 58 = .ok (.getfield 44, 3) := by decide +kernel
theorem dX8_days_61 : decode cX8_days 61 = .ok (.getfield 143, 3) := by decide +kernel
theorem dX8_days_64 : decode cX8_days 64 = .ok (.ireturn, 1) := by decide +kernel
theorem dX8_take_0 : decode cX8_take 0 = .ok (.aload_n 0, 1) := by decide +kernel
theorem dX8_take_1 : decode cX8_take 1 = .ok (.iload_n 1, 1) := by decide +kernel
theorem dX8_take_2 : decode cX8_take 2 = .ok (.invokevirtual 194, 3) := by decide +kernel
theorem dX8_take_5 : decode cX8_take 5 = .ok (.aload_n 0, 1) := by decide +kernel
theorem dX8_take_6 : decode cX8_take 6 = .ok (.iload_n 2, 1) := by decide +kernel
theorem dX8_take_7 : decode cX8_take 7 = .ok (.invokevirtual 172, 3) := by decide +kernel
theorem dX8_take_10 : decode cX8_take 10 = .ok (.aload_n 0, 1) := by decide +kernel
theorem dX8_take_11 : decode cX8_take 11 = .ok (.getfield 44, 3) := by decide +kernel
theorem dX8_take_14 : decode cX8_take 14 = .ok (.getfield 254, 3) := by decide +kernel
theorem dX8_take_17 : decode cX8_take 17 = .ok (.iload_n 2, 1) := by decide +kernel
theorem dX8_take_18 : decode cX8_take 18 = .ok (.iaload, 1) := by decide +kernel
theorem dX8_take_19 : decode cX8_take 19 = .ok (.aload_n 0, 1) := by decide +kernel
theorem dX8_take_20 : decode cX8_take 20 = .ok (.getfield 23, 3) := by decide +kernel
theorem dX8_take_23 : decode cX8_take 23 = .ok (.iload_n 1, 1) := by decide +kernel
theorem dX8_take_24 : decode cX8_take 24 = .ok (.aload_n 0, 1) := by decide +kernel
theorem dX8_take_25 : decode cX8_take 25 = .ok (.getfield 44, 3) := by decide +kernel
theorem dX8_take_28 : decode cX8_take 28 = .ok (.getfield 143, 3) := by decide +kernel
theorem dX8_take_31 : decode cX8_take 31 = .ok (.invokevirtual 197, 3) := by decide +kernel
theorem dX8_take_34 : decode cX8_take 34 = .ok (.if_icmp .eq 15, 3) := by decide +kernel
theorem dX8_take_37 : decode cX8_take 37 = .ok (.aload_n 0, 1) := by decide +kernel
theorem dX8_take_38 : decode cX8_take 38 = .ok (.getfield 92, 3) := by decide +kernel
theorem dX8_take_41 : decode cX8_take 41 = .ok (.iconst 1, 1) := by decide +kernel
theorem dX8_take_42 : decode cX8_take 42 = .ok (.dup2, 1) := by decide +kernel
theorem dX8_take_43 : decode cX8_take 43 = .ok (.iaload, 1) := by decide +kernel
theorem dX8_take_44 : decode cX8_take 44 = .ok (.iconst 1, 1) := by decide +kernel
theorem dX8_take_45 : decode cX8_take 45 = .ok (.iadd, 1) := by decide +kernel
theorem dX8_take_46 : decode cX8_take 46 = .ok (.iastore, 1) := by decide +kernel
theorem dX8_take_47 : decode cX8_take 47 = .ok (.iconst 0, 1) := by decide +kernel
theorem dX8_take_48 : decode cX8_take 48 = .ok (.ireturn, 1) := by decide +kernel
theorem dX8_take_49 : decode cX8_take 49 = .ok (.aload_n 0, 1) := by decide +kernel
theorem dX8_take_50 : decode cX8_take 50 = .ok (.getfield 54, 3) := by decide +kernel
theorem dX8_take_53 : decode cX8_take 53 = .ok (.aload_n 0, 1) := by decide +kernel
theorem dX8_take_54 : decode cX8_take 54 = .ok (.getfield 44, 3) := by decide +kernel
theorem dX8_take_57 : decode cX8_take 57 = .ok (.invokevirtual 248, 3) := by decide +kernel
theorem dX8_take_60 : decode cX8_take 60 = .ok (.aload_n 0, 1) := by decide +kernel
theorem dX8_take_61 : decode cX8_take 61 = .ok (.getfield 44, 3) := by decide +kernel
theorem dX8_take_64 : decode cX8_take 64 = .ok (.getfield 254, 3) := by decide +kernel
theorem dX8_take_67 : decode cX8_take 67 = .ok (.iload_n 2, 1) := by decide +kernel
theorem dX8_take_68 : decode cX8_take 68 = .ok (.iconst 4, 1) := by decide +kernel
theorem dX8_take_69 : decode cX8_take 69 = .ok (.iload_n 1, 1) := by decide +kernel
theorem dX8_take_70 : decode cX8_take 70 = .ok (.iadd, 1) := by decide +kernel
theorem dX8_take_71 : decode cX8_take 71 = .ok (.iastore, 1) := by decide +kernel
theorem dX8_take_72 : decode cX8_take 72 = .ok (.iconst 1, 1) := by decide +kernel
theorem dX8_take_73 : decode cX8_take 73 = .ok (.ireturn, 1) := by decide +kernel
theorem dX8_leave_0 : decode cX8_leave 0 = .ok (.aload_n 0, 1) := by decide +kernel
theorem dX8_leave_1 : decode cX8_leave 1 = .ok (.iload_n 1, 1) := by decide +kernel
theorem dX8_leave_2 : decode cX8_leave 2 = .ok (.invokevirtual 194, 3) := by decide +kernel
theorem dX8_leave_5 : decode cX8_leave 5 = .ok (.aload_n 0, 1) := by decide +kernel
theorem dX8_leave_6 : decode cX8_leave 6 = .ok (.iload_n 2, 1) := by decide +kernel
theorem dX8_leave_7 : decode cX8_leave 7 = .ok (.invokevirtual 172, 3) := by decide +kernel
theorem dX8_leave_10 : decode cX8_leave 10 = .ok (.aload_n 0, 1) := by decide +kernel
theorem dX8_leave_11 : decode cX8_leave 11 = .ok (.getfield 44, 3) := by decide +kernel
theorem dX8_leave_14 : decode cX8_leave 14 = .ok (.getfield 254, 3) := by decide +kernel
theorem dX8_leave_17 : decode cX8_leave 17 = .ok (.iload_n 2, 1) := by decide +kernel
theorem dX8_leave_18 : decode cX8_leave 18 = .ok (.iaload, 1) := by decide +kernel
theorem dX8_leave_19 : decode cX8_leave 19 = .ok (.iconst 4, 1) := by decide +kernel
theorem dX8_leave_20 : decode cX8_leave 20 = .ok (.iload_n 1, 1) := by decide +kernel
theorem dX8_leave_21 : decode cX8_leave 21 = .ok (.iadd, 1) := by decide +kernel
theorem dX8_leave_22 : decode cX8_leave 22 = .ok (.if_icmp .eq 15, 3) := by decide +kernel
theorem dX8_leave_25 : decode cX8_leave 25 = .ok (.aload_n 0, 1) := by decide +kernel
theorem dX8_leave_26 : decode cX8_leave 26 = .ok (.getfield 92, 3) := by decide +kernel
theorem dX8_leave_29 : decode cX8_leave 29 = .ok (.iconst 1, 1) := by decide +kernel
theorem dX8_leave_30 : decode cX8_leave 30 = .ok (.dup2, 1) := by decide +kernel
theorem dX8_leave_31 : decode cX8_leave 31 = .ok (.iaload, 1) := by decide +kernel
theorem dX8_leave_32 : decode cX8_leave 32 = .ok (.iconst 1, 1) := by decide +kernel
theorem dX8_leave_33 : decode cX8_leave 33 = .ok (.iadd, 1) := by decide +kernel
theorem dX8_leave_34 : decode cX8_leave 34 = .ok (.iastore, 1) := by decide +kernel
theorem dX8_leave_35 : decode cX8_leave 35 = .ok (.iconst (-1), 1) := by decide +kernel
theorem dX8_leave_36 : decode cX8_leave 36 = .ok (.ireturn, 1) := by decide +kernel
theorem dX8_leave_37 : decode cX8_leave 37 = .ok (.aload_n 0, 1) := by decide +kernel
theorem dX8_leave_38 : decode cX8_leave 38 = .ok (.getfield 54, 3) := by decide +kernel
theorem dX8_leave_41 : decode cX8_leave 41 = .ok (.aload_n 0, 1) := by decide +kernel
theorem dX8_leave_42 : decode cX8_leave 42 = .ok (.getfield 44, 3) := by decide +kernel
theorem dX8_leave_45 : decode cX8_leave 45 = .ok (.invokevirtual 248, 3) := by decide +kernel
theorem dX8_leave_48 : decode cX8_leave 48 = .ok (.aload_n 0, 1) := by decide +kernel
theorem dX8_leave_49 : decode cX8_leave 49 = .ok (.getfield 44, 3) := by decide +kernel
theorem dX8_leave_52 : decode cX8_leave 52 = .ok (.getfield 254, 3) := by decide +kernel
theorem dX8_leave_55 : decode cX8_leave 55 = .ok (.iload_n 2, 1) := by decide +kernel
theorem dX8_leave_56 : decode cX8_leave 56 = .ok (.aload_n 0, 1) := by decide +kernel
theorem dX8_leave_57 : decode cX8_leave 57 = .ok (.getfield 23, 3) := by decide +kernel
theorem dX8_leave_60 : decode cX8_leave 60 = .ok (.iload_n 1, 1) := by decide +kernel
theorem dX8_leave_61 : decode cX8_leave 61 = .ok (.aload_n 0, 1) := by decide +kernel
theorem dX8_leave_62 : decode cX8_leave 62 = .ok (.getfield 44, 3) := by decide +kernel
theorem dX8_leave_65 : decode cX8_leave 65 = .ok (.getfield 143, 3) := by decide +kernel
theorem dX8_leave_68 : decode cX8_leave 68 = .ok (.invokevirtual 197, 3) := by decide +kernel
theorem dX8_leave_71 : decode cX8_leave 71 = .ok (.iastore, 1) := by decide +kernel
theorem dX8_leave_72 : decode cX8_leave 72 = .ok (.aload_n 0, 1) := by decide +kernel
theorem dX8_leave_73 : decode cX8_leave 73 = .ok (.getfield 44, 3) := by decide +kernel
theorem dX8_leave_76 : decode cX8_leave 76 = .ok (.getfield 254, 3) := by decide +kernel
theorem dX8_leave_79 : decode cX8_leave 79 = .ok (.iload_n 2, 1) := by decide +kernel
theorem dX8_leave_80 : decode cX8_leave 80 = .ok (.iaload, 1) := by decide +kernel
theorem dX8_leave_81 : decode cX8_leave 81 = .ok (.ireturn, 1) := by decide +kernel
theorem dX8_forge_0 : decode cX8_forge 0 = .ok (.aload_n 0, 1) := by decide +kernel
theorem dX8_forge_1 : decode cX8_forge 1 = .ok (.iload_n 1, 1) := by decide +kernel
theorem dX8_forge_2 : decode cX8_forge 2 = .ok (.invokevirtual 172, 3) := by decide +kernel
theorem dX8_forge_5 : decode cX8_forge 5 = .ok (.iload_n 2, 1) := by decide +kernel
theorem dX8_forge_6 : decode cX8_forge 6 = .ok (.iconst 2, 1) := by decide +kernel
theorem dX8_forge_7 : decode cX8_forge 7 = .ok (.invokestatic 257, 3) := by decide +kernel
theorem dX8_forge_10 : decode cX8_forge 10 = .ok (.iload_n 3, 1) := by decide +kernel
theorem dX8_forge_11 : decode cX8_forge 11 = .ok (.bipush 8, 2) := by decide +kernel
theorem dX8_forge_13 : decode cX8_forge 13 = .ok (.invokestatic 257, 3) := by decide +kernel
theorem dX8_forge_16 : decode cX8_forge 16 = .ok (.aload_n 0, 1) := by decide +kernel
theorem dX8_forge_17 : decode cX8_forge 17 = .ok (.getfield 44, 3) := by decide +kernel
theorem dX8_forge_20 : decode cX8_forge 20 = .ok (.getfield 254, 3) := by decide +kernel
theorem dX8_forge_23 : decode cX8_forge 23 = .ok (.iload_n 1, 1) := by decide +kernel
theorem dX8_forge_24 : decode cX8_forge 24 = .ok (.iaload, 1) := by decide +kernel
theorem dX8_forge_25 : decode cX8_forge 25 = .ok (.iconst (-1), 1) := by decide +kernel
theorem dX8_forge_26 : decode cX8_forge 26 = .ok (.if_icmp .ne 15, 3) := by decide +kernel
theorem dX8_forge_29 : decode cX8_forge 29 = .ok (.aload_n 0, 1) := by decide +kernel
theorem dX8_forge_30 : decode cX8_forge 30 = .ok (.getfield 92, 3) := by decide +kernel
theorem dX8_forge_33 : decode cX8_forge 33 = .ok (.iconst 1, 1) := by decide +kernel
theorem dX8_forge_34 : decode cX8_forge 34 = .ok (.dup2, 1) := by decide +kernel
theorem dX8_forge_35 : decode cX8_forge 35 = .ok (.iaload, 1) := by decide +kernel
theorem dX8_forge_36 : decode cX8_forge 36 = .ok (.iconst 1, 1) := by decide +kernel
theorem dX8_forge_37 : decode cX8_forge 37 = .ok (.iadd, 1) := by decide +kernel
theorem dX8_forge_38 : decode cX8_forge 38 = .ok (.iastore, 1) := by decide +kernel
theorem dX8_forge_39 : decode cX8_forge 39 = .ok (.iconst (-1), 1) := by decide +kernel
theorem dX8_forge_40 : decode cX8_forge 40 = .ok (.ireturn, 1) := by decide +kernel
theorem dX8_forge_41 : decode cX8_forge 41 = .ok (.aload_n 0, 1) := by decide +kernel
theorem dX8_forge_42 : decode cX8_forge 42 = .ok (.getfield 54, 3) := by decide +kernel
theorem dX8_forge_45 : decode cX8_forge 45 = .ok (.aload_n 0, 1) := by decide +kernel
theorem dX8_forge_46 : decode cX8_forge 46 = .ok (.getfield 44, 3) := by decide +kernel
theorem dX8_forge_49 : decode cX8_forge 49 = .ok (.invokevirtual 248, 3) := by decide +kernel
theorem dX8_forge_52 : decode cX8_forge 52 = .ok (.iload_n 2, 1) := by decide +kernel
theorem dX8_forge_53 : decode cX8_forge 53 = .ok (.ifCond .ne 13, 3) := by decide +kernel
theorem dX8_forge_56 : decode cX8_forge 56 = .ok (.aload_n 0, 1) := by decide +kernel
theorem dX8_forge_57 : decode cX8_forge 57 = .ok (.getfield 44, 3) := by decide +kernel
theorem dX8_forge_60 : decode cX8_forge 60 = .ok (.getfield 175, 3) := by decide +kernel
theorem dX8_forge_63 : decode cX8_forge 63 = .ok (.goto 10, 3) := by decide +kernel
theorem dX8_forge_66 : decode cX8_forge 66 = .ok (.aload_n 0, 1) := by decide +kernel
theorem dX8_forge_67 : decode cX8_forge 67 = .ok (.getfield 44, 3) := by decide +kernel
theorem dX8_forge_70 : decode cX8_forge 70 = .ok (.getfield 178, 3) := by decide +kernel
theorem dX8_forge_73 : decode cX8_forge 73 = .ok (.astore 4, 2) := by decide +kernel
theorem dX8_forge_75 : decode cX8_forge 75 = .ok (.aload 4, 2) := by decide +kernel
theorem dX8_forge_77 : decode cX8_forge 77 = .ok (.iload_n 1, 1) := by decide +kernel
theorem dX8_forge_78 : decode cX8_forge 78 = .ok (.dup2, 1) := by decide +kernel
theorem dX8_forge_79 : decode cX8_forge 79 = .ok (.iaload, 1) := by decide +kernel
theorem dX8_forge_80 : decode cX8_forge 80 = .ok (.iconst 1, 1) := by decide +kernel
theorem dX8_forge_81 : decode cX8_forge 81 = .ok (.iload_n 3, 1) := by decide +kernel
theorem dX8_forge_82 : decode cX8_forge 82 = .ok (.ishl, 1) := by decide +kernel
theorem dX8_forge_83 : decode cX8_forge 83 = .ok (.ixor, 1) := by decide +kernel
theorem dX8_forge_84 : decode cX8_forge 84 = .ok (.iastore, 1) := by decide +kernel
theorem dX8_forge_85 : decode cX8_forge 85 = .ok (.aload 4, 2) := by decide +kernel
theorem dX8_forge_87 : decode cX8_forge 87 = .ok (.iload_n 1, 1) := by decide +kernel
theorem dX8_forge_88 : decode cX8_forge 88 = .ok (.iaload, 1) := by decide +kernel
theorem dX8_forge_89 : decode cX8_forge 89 = .ok (.ireturn, 1) := by decide +kernel
theorem dX8_fire_0 : decode cX8_fire 0 = .ok (.iload_n 1, 1) := by decide +kernel
theorem dX8_fire_1 : decode cX8_fire 1 = .ok (.invokestatic 228, 3) := by decide +kernel
theorem dX8_fire_4 : decode cX8_fire 4 = .ok (.aload_n 0, 1) := by decide +kernel
theorem dX8_fire_5 : decode cX8_fire 5 = .ok (.getfield 44, 3) := by decide +kernel
theorem dX8_fire_8 : decode cX8_fire 8 = .ok (.iload_n 1, 1) := by decide +kernel
theorem dX8_fire_9 : decode cX8_fire 9 = .ok (.invokevirtual 231, 3) := by decide +kernel
theorem dX8_fire_12 : decode cX8_fire 12 = .ok (.istore_n 2, 1) := by decide +kernel
theorem dX8_fire_13 : decode cX8_fire 13 = .ok (.iload_n 2, 1) := by decide +kernel
theorem dX8_fire_14 : decode cX8_fire 14 = .ok (.ifCond .ne 15, 3) := by decide +kernel
theorem dX8_fire_17 : decode cX8_fire 17 = .ok (.aload_n 0, 1) := by decide +kernel
theorem dX8_fire_18 : decode cX8_fire 18 = .ok (.getfield 92, 3) := by decide +kernel
theorem dX8_fire_21 : decode cX8_fire 21 = .ok (.iconst 1, 1) := by decide +kernel
theorem dX8_fire_22 : decode cX8_fire 22 = .ok (.dup2, 1) := by decide +kernel
theorem dX8_fire_23 : decode cX8_fire 23 = .ok (.iaload, 1) := by decide +kernel
theorem dX8_fire_24 : decode cX8_fire 24 = .ok (.iconst 1, 1) := by decide +kernel
theorem dX8_fire_25 : decode cX8_fire 25 = .ok (.iadd, 1) := by decide +kernel
theorem dX8_fire_26 : decode cX8_fire 26 = .ok (.iastore, 1) := by decide +kernel
theorem dX8_fire_27 : decode cX8_fire 27 = .ok (.iconst (-1), 1) := by decide +kernel
theorem dX8_fire_28 : decode cX8_fire 28 = .ok (.ireturn, 1) := by decide +kernel
theorem dX8_fire_29 : decode cX8_fire 29 = .ok (.aload_n 0, 1) := by decide +kernel
theorem dX8_fire_30 : decode cX8_fire 30 = .ok (.getfield 54, 3) := by decide +kernel
theorem dX8_fire_33 : decode cX8_fire 33 = .ok (.aload_n 0, 1) := by decide +kernel
theorem dX8_fire_34 : decode cX8_fire 34 = .ok (.getfield 44, 3) := by decide +kernel
theorem dX8_fire_37 : decode cX8_fire 37 = .ok (.invokevirtual 248, 3) := by decide +kernel
theorem dX8_fire_40 : decode cX8_fire 40 = .ok (.aload_n 0, 1) := by decide +kernel
theorem dX8_fire_41 : decode cX8_fire 41 = .ok (.getfield 44, 3) := by decide +kernel
theorem dX8_fire_44 : decode cX8_fire 44 = .ok (.iload_n 1, 1) := by decide +kernel
theorem dX8_fire_45 : decode cX8_fire 45 = .ok (.invokevirtual 261, 3) := by decide +kernel
theorem dX8_fire_48 : decode cX8_fire 48 = .ok (.iload_n 2, 1) := by decide +kernel
theorem dX8_fire_49 : decode cX8_fire 49 = .ok (.ireturn, 1) := by decide +kernel
theorem dX8_undo_0 : decode cX8_undo 0 = .ok (.aload_n 0, 1) := by decide +kernel
theorem dX8_undo_1 : decode cX8_undo 1 = .ok (.getfield 54, 3) := by decide +kernel
theorem dX8_undo_4 : decode cX8_undo 4 = .ok (.getfield 163, 3) := by decide +kernel
theorem dX8_undo_7 : decode cX8_undo 7 = .ok (.ifCond .ne 5, 3) := by decide +kernel
theorem dX8_undo_10 : decode cX8_undo 10 = .ok (.iconst (-1), 1) := by decide +kernel
theorem dX8_undo_11 : decode cX8_undo 11 = .ok (.ireturn, 1) := by decide +kernel
theorem dX8_undo_12 : decode cX8_undo 12 = .ok (.aload_n 0, 1) := by decide +kernel
theorem dX8_undo_13 : decode cX8_undo 13 = .ok (.getfield 54, 3) := by decide +kernel
theorem dX8_undo_16 : decode cX8_undo 16 = .ok (.aload_n 0, 1) := by decide +kernel
theorem dX8_undo_17 : decode cX8_undo 17 = .ok (.getfield 44, 3) := by decide +kernel
theorem dX8_undo_20 : decode cX8_undo 20 = .ok (.invokevirtual 264, 3) := by decide +kernel
theorem dX8_undo_23 : decode cX8_undo 23 = .ok (.aload_n 0, 1) := by decide +kernel
theorem dX8_undo_24 : decode cX8_undo 24 = .ok (.getfield 54, 3) := by decide +kernel
theorem dX8_undo_27 : decode cX8_undo 27 = .ok (.getfield 163, 3) := by decide +kernel
theorem dX8_undo_30 : decode cX8_undo 30 = .ok (.ireturn, 1) := by decide +kernel
theorem dX8_then_0 : decode cX8_then 0 = .ok (.aload_n 0, 1) := by decide +kernel
theorem dX8_then_1 : decode cX8_then 1 = .ok (.iload_n 1, 1) := by decide +kernel
theorem dX8_then_2 : decode cX8_then 2 = .ok (.invokevirtual 194, 3) := by decide +kernel
theorem dX8_then_5 : decode cX8_then 5 = .ok (.iload_n 3, 1) := by decide +kernel
theorem dX8_then_6 : decode cX8_then 6 = .ok (.iconst 2, 1) := by decide +kernel
theorem dX8_then_7 : decode cX8_then 7 = .ok (.invokestatic 257, 3) := by decide +kernel
theorem dX8_then_10 : decode cX8_then 10 = .ok (.iload_n 2, 1) := by decide +kernel
theorem dX8_then_11 : decode cX8_then 11 = .ok (.iconst 0, 1) := by decide +kernel
theorem dX8_then_12 : decode cX8_then 12 = .ok (.bipush 40, 2) := by decide +kernel
theorem dX8_then_14 : decode cX8_then 14 = .ok (.invokestatic 267, 3) := by decide +kernel
theorem dX8_then_17 : decode cX8_then 17 = .ok (.iload_n 3, 1) := by decide +kernel
theorem dX8_then_18 : decode cX8_then 18 = .ok (.ifCond .ne 21, 3) := by decide +kernel
theorem dX8_then_21 : decode cX8_then 21 = .ok (.aload_n 0, 1) := by decide +kernel
theorem dX8_then_22 : decode cX8_then 22 = .ok (.getfield 23, 3) := by decide +kernel
theorem dX8_then_25 : decode cX8_then 25 = .ok (.iload_n 1, 1) := by decide +kernel
theorem dX8_then_26 : decode cX8_then 26 = .ok (.aload_n 0, 1) := by decide +kernel
theorem dX8_then_27 : decode cX8_then 27 = .ok (.getfield 44, 3) := by decide +kernel
theorem dX8_then_30 : decode cX8_then 30 = .ok (.getfield 143, 3) := by decide +kernel
theorem dX8_then_33 : decode cX8_then 33 = .ok (.iload_n 2, 1) := by decide +kernel
theorem dX8_then_34 : decode cX8_then 34 = .ok (.iadd, 1) := by decide +kernel
theorem dX8_then_35 : decode cX8_then 35 = .ok (.invokevirtual 197, 3) := by decide +kernel
theorem dX8_then_38 : decode cX8_then 38 = .ok (.ireturn, 1) := by decide +kernel
theorem dX8_then_39 : decode cX8_then 39 = .ok (.aload_n 0, 1) := by decide +kernel
theorem dX8_then_40 : decode cX8_then 40 = .ok (.iload_n 2, 1) := by decide +kernel
theorem dX8_then_41 : decode cX8_then 41 = .ok (.invokevirtual 271, 3) := by decide +kernel
theorem dX8_then_44 : decode cX8_then 44 = .ok (.aload_n 0, 1) := by decide +kernel
theorem dX8_then_45 : decode cX8_then 45 = .ok (.getfield 48, 3) := by decide +kernel
theorem dX8_then_48 : decode cX8_then 48 = .ok (.getfield 200, 3) := by decide +kernel
theorem dX8_then_51 : decode cX8_then 51 = .ok (.iload_n 1, 1) := by decide +kernel
theorem dX8_then_52 : decode cX8_then 52 = .ok (.iaload, 1) := by decide +kernel
theorem dX8_then_53 : decode cX8_then 53 = .ok (.ireturn, 1) := by decide +kernel
theorem dX8_where_0 : decode cX8_where 0 = .ok (.aload_n 0, 1) := by decide +kernel
theorem dX8_where_1 : decode cX8_where 1 = .ok (.iload_n 1, 1) := by decide +kernel
theorem dX8_where_2 : decode cX8_where 2 = .ok (.invokevirtual 172, 3) := by decide +kernel
theorem dX8_where_5 : decode cX8_where 5 = .ok (.iload_n 2, 1) := by decide +kernel
theorem dX8_where_6 : decode cX8_where 6 = .ok (.iconst 0, 1) := by decide +kernel
theorem dX8_where_7 : decode cX8_where 7 = .ok (.bipush 40, 2) := by decide +kernel
theorem dX8_where_9 : decode cX8_where 9 = .ok (.invokestatic 267, 3) := by decide +kernel
theorem dX8_where_12 : decode cX8_where 12 = .ok (.aload_n 0, 1) := by decide +kernel
theorem dX8_where_13 : decode cX8_where 13 = .ok (.getfield 44, 3) := by decide +kernel
theorem dX8_where_16 : decode cX8_where 16 = .ok (.iload_n 1, 1) := by decide +kernel
theorem dX8_where_17 : decode cX8_where 17 = .ok (.iload_n 2, 1) := by decide +kernel
theorem dX8_where_18 : decode cX8_where 18 = .ok (.invokevirtual 181, 3) := by decide +kernel
theorem dX8_where_21 : decode cX8_where 21 = .ok (.ireturn, 1) := by decide +kernel
theorem dX8_first_0 : decode cX8_first 0 = .ok (.aload_n 0, 1) := by decide +kernel
theorem dX8_first_1 : decode cX8_first 1 = .ok (.iload_n 1, 1) := by decide +kernel
theorem dX8_first_2 : decode cX8_first 2 = .ok (.invokevirtual 194, 3) := by decide +kernel
theorem dX8_first_5 : decode cX8_first 5 = .ok (.aload_n 0, 1) := by decide +kernel
theorem dX8_first_6 : decode cX8_first 6 = .ok (.iload_n 2, 1) := by decide +kernel
theorem dX8_first_7 : decode cX8_first 7 = .ok (.invokevirtual 211, 3) := by decide +kernel
theorem dX8_first_10 : decode cX8_first 10 = .ok (.aload_n 0, 1) := by decide +kernel
theorem dX8_first_11 : decode cX8_first 11 = .ok (.iconst 0, 1) := by decide +kernel
theorem dX8_first_12 : decode cX8_first 12 = .ok (.invokevirtual 271, 3) := by decide +kernel
theorem dX8_first_15 : decode cX8_first 15 = .ok (.iconst 0, 1) := by decide +kernel
theorem dX8_first_16 : decode cX8_first 16 = .ok (.istore_n 3, 1) := by decide +kernel
theorem dX8_first_17 : decode cX8_first 17 = .ok (.iload_n 3, 1) := by decide +kernel
theorem dX8_first_18 : decode cX8_first 18 = .ok (.bipush 40, 2) := by decide +kernel
theorem dX8_first_20 : decode cX8_first 20 = .ok (.if_icmp .gt 35, 3) := by decide +kernel
theorem dX8_first_23 : decode cX8_first 23 = .ok (.aload_n 0, 1) := by decide +kernel
theorem dX8_first_24 : decode cX8_first 24 = .ok (.getfield 48, 3) := by decide +kernel
theorem dX8_first_27 : decode cX8_first 27 = .ok (.getfield 200, 3) := by decide +kernel
theorem dX8_first_30 : decode cX8_first 30 = .ok (.iload_n 1, 1) := by decide +kernel
theorem dX8_first_31 : decode cX8_first 31 = .ok (.iaload, 1) := by decide +kernel
theorem dX8_first_32 : decode cX8_first 32 = .ok (.iload_n 2, 1) := by decide +kernel
theorem dX8_first_33 : decode cX8_first 33 = .ok (.invokestatic 274, 3) := by decide +kernel
theorem dX8_first_36 : decode cX8_first 36 = .ok (.ifCond .eq 5, 3) := by decide +kernel
theorem dX8_first_39 : decode cX8_first 39 = .ok (.iload_n 3, 1) := by decide +kernel
theorem dX8_first_40 : decode cX8_first 40 = .ok (.ireturn, 1) := by decide +kernel
theorem dX8_first_41 : decode cX8_first 41 = .ok (.aload_n 0, 1) := by decide +kernel
theorem dX8_first_42 : decode cX8_first 42 = .ok (.getfield 48, 3) := by decide +kernel
theorem dX8_first_45 : decode cX8_first 45 = .ok (.invokevirtual 278, 3) := by decide +kernel
theorem dX8_first_48 : decode cX8_first 48 = .ok (.pop, 1) := by decide +kernel
theorem dX8_first_49 : decode cX8_first 49 = .ok (.iinc 3 1, 3) := by decide +kernel
theorem dX8_first_52 : decode cX8_first 52 = .ok (.goto (-35), 3) := by decide +kernel
theorem dX8_first_55 : decode cX8_first 55 = .ok (.iconst (-1), 1) := by decide +kernel
theorem dX8_first_56 : decode cX8_first 56 = .ok (.ireturn, 1) := by decide +kernel
theorem dX8_read_0 : decode cX8_read 0 = .ok (.iload_n 2, 1) := by decide +kernel
theorem dX8_read_1 : decode cX8_read 1 = .ok (.iconst 2, 1) := by decide +kernel
theorem dX8_read_2 : decode cX8_read 2 = .ok (.invokestatic 257, 3) := by decide +kernel
theorem dX8_read_5 : decode cX8_read 5 = .ok (.iload_n 1, 1) := by decide +kernel
theorem dX8_read_6 : decode cX8_read 6 = .ok (.iconst 0, 1) := by decide +kernel
theorem dX8_read_7 : decode cX8_read 7 = .ok (.bipush 40, 2) := by decide +kernel
theorem dX8_read_9 : decode cX8_read 9 = .ok (.invokestatic 267, 3) := by decide +kernel
theorem dX8_read_12 : decode cX8_read 12 = .ok (.aload_n 0, 1) := by decide +kernel
theorem dX8_read_13 : decode cX8_read 13 = .ok (.iload_n 1, 1) := by decide +kernel
theorem dX8_read_14 : decode cX8_read 14 = .ok (.invokevirtual 271, 3) := by decide +kernel
theorem dX8_read_17 : decode cX8_read 17 = .ok (.iload_n 2, 1) := by decide +kernel
theorem dX8_read_18 : decode cX8_read 18 = .ok (.ifCond .ne 13, 3) := by decide +kernel
theorem dX8_read_21 : decode cX8_read 21 = .ok (.aload_n 0, 1) := by decide +kernel
theorem dX8_read_22 : decode cX8_read 22 = .ok (.getfield 48, 3) := by decide +kernel
theorem dX8_read_25 : decode cX8_read 25 = .ok (.invokevirtual 153, 3) := by decide +kernel
theorem dX8_read_28 : decode cX8_read 28 = .ok (.goto 10, 3) := by decide +kernel
theorem dX8_read_31 : decode cX8_read 31 = .ok (.aload_n 0, 1) := by decide +kernel
theorem dX8_read_32 : decode cX8_read 32 = .ok (.getfield 48, 3) := by decide +kernel
theorem dX8_read_35 : decode cX8_read 35 = .ok (.invokevirtual 281, 3) := by decide +kernel
theorem dX8_read_38 : decode cX8_read 38 = .ok (.ireturn, 1) := by decide +kernel
theorem dX8_mould_0 : decode cX8_mould 0 = .ok (.aload_n 0, 1) := by decide +kernel
theorem dX8_mould_1 : decode cX8_mould 1 = .ok (.iload_n 1, 1) := by decide +kernel
theorem dX8_mould_2 : decode cX8_mould 2 = .ok (.invokevirtual 172, 3) := by decide +kernel
theorem dX8_mould_5 : decode cX8_mould 5 = .ok (.aload_n 0, 1) := by decide +kernel
theorem dX8_mould_6 : decode cX8_mould 6 = .ok (.iconst 0, 1) := by decide +kernel
theorem dX8_mould_7 : decode cX8_mould 7 = .ok (.invokevirtual 271, 3) := by decide +kernel
theorem dX8_mould_10 : decode cX8_mould 10 = .ok (.iconst 1, 1) := by decide +kernel
theorem dX8_mould_11 : decode cX8_mould 11 = .ok (.istore_n 2, 1) := by decide +kernel
theorem dX8_mould_12 : decode cX8_mould 12 = .ok (.iload_n 2, 1) := by decide +kernel
theorem dX8_mould_13 : decode cX8_mould 13 = .ok (.bipush 40, 2) := by decide +kernel
theorem dX8_mould_15 : decode cX8_mould 15 = .ok (.if_icmp .gt 40, 3) := by decide +kernel
theorem dX8_mould_18 : decode cX8_mould 18 = .ok (.aload_n 0, 1) := by decide +kernel
theorem dX8_mould_19 : decode cX8_mould 19 = .ok (.getfield 48, 3) := by decide +kernel
theorem dX8_mould_22 : decode cX8_mould 22 = .ok (.invokevirtual 278, 3) := by decide +kernel
theorem dX8_mould_25 : decode cX8_mould 25 = .ok (.pop, 1) := by decide +kernel
theorem dX8_mould_26 : decode cX8_mould 26 = .ok (.aload_n 0, 1) := by decide +kernel
theorem dX8_mould_27 : decode cX8_mould 27 = .ok (.getfield 48, 3) := by decide +kernel
theorem dX8_mould_30 : decode cX8_mould 30 = .ok (.getfield 178, 3) := by decide +kernel
theorem dX8_mould_33 : decode cX8_mould 33 = .ok (.iload_n 1, 1) := by decide +kernel
theorem dX8_mould_34 : decode cX8_mould 34 = .ok (.iaload, 1) := by decide +kernel
theorem dX8_mould_35 : decode cX8_mould 35 = .ok (.aload_n 0, 1) := by decide +kernel
theorem dX8_mould_36 : decode cX8_mould 36 = .ok (.getfield 44, 3) := by decide +kernel
theorem dX8_mould_39 : decode cX8_mould 39 = .ok (.getfield 178, 3) := by decide +kernel
theorem dX8_mould_42 : decode cX8_mould 42 = .ok (.iload_n 1, 1) := by decide +kernel
theorem dX8_mould_43 : decode cX8_mould 43 = .ok (.iaload, 1) := by decide +kernel
theorem dX8_mould_44 : decode cX8_mould 44 = .ok (.if_icmp .eq 5, 3) := by decide +kernel
theorem dX8_mould_47 : decode cX8_mould 47 = .ok (.iload_n 2, 1) := by decide +kernel
theorem dX8_mould_48 : decode cX8_mould 48 = .ok (.ireturn, 1) := by decide +kernel
theorem dX8_mould_49 : decode cX8_mould 49 = .ok (.iinc 2 1, 3) := by decide +kernel
theorem dX8_mould_52 : decode cX8_mould 52 = .ok (.goto (-40), 3) := by decide +kernel
theorem dX8_mould_55 : decode cX8_mould 55 = .ok (.iconst (-1), 1) := by decide +kernel
theorem dX8_mould_56 : decode cX8_mould 56 = .ok (.ireturn, 1) := by decide +kernel
theorem dX8_meet_0 : decode cX8_meet 0 = .ok (.aload_n 0, 1) := by decide +kernel
theorem dX8_meet_1 : decode cX8_meet 1 = .ok (.iload_n 1, 1) := by decide +kernel
theorem dX8_meet_2 : decode cX8_meet 2 = .ok (.invokevirtual 172, 3) := by decide +kernel
theorem dX8_meet_5 : decode cX8_meet 5 = .ok (.aload_n 0, 1) := by decide +kernel
theorem dX8_meet_6 : decode cX8_meet 6 = .ok (.iload_n 2, 1) := by decide +kernel
theorem dX8_meet_7 : decode cX8_meet 7 = .ok (.invokevirtual 172, 3) := by decide +kernel
theorem dX8_meet_10 : decode cX8_meet 10 = .ok (.iload_n 1, 1) := by decide +kernel
theorem dX8_meet_11 : decode cX8_meet 11 = .ok (.iload_n 2, 1) := by decide +kernel
theorem dX8_meet_12 : decode cX8_meet 12 = .ok (.if_icmp .ne 5, 3) := by decide +kernel
theorem dX8_meet_15 : decode cX8_meet 15 = .ok (.iconst (-1), 1) := by decide +kernel
theorem dX8_meet_16 : decode cX8_meet 16 = .ok (.ireturn, 1) := by decide +kernel
theorem dX8_meet_17 : decode cX8_meet 17 = .ok (.iconst 0, 1) := by decide +kernel
theorem dX8_meet_18 : decode cX8_meet 18 = .ok (.istore_n 3, 1) := by decide +kernel
theorem dX8_meet_19 : decode cX8_meet 19 = .ok (.iload_n 3, 1) := by decide +kernel
theorem dX8_meet_20 : decode cX8_meet 20 = .ok (.bipush 40, 2) := by decide +kernel
theorem dX8_meet_22 : decode cX8_meet 22 = .ok (.if_icmp .gt 42, 3) := by decide +kernel
theorem dX8_meet_25 : decode cX8_meet 25 = .ok (.aload_n 0, 1) := by decide +kernel
theorem dX8_meet_26 : decode cX8_meet 26 = .ok (.getfield 44, 3) := by decide +kernel
theorem dX8_meet_29 : decode cX8_meet 29 = .ok (.iload_n 1, 1) := by decide +kernel
theorem dX8_meet_30 : decode cX8_meet 30 = .ok (.iload_n 3, 1) := by decide +kernel
theorem dX8_meet_31 : decode cX8_meet 31 = .ok (.invokevirtual 181, 3) := by decide +kernel
theorem dX8_meet_34 : decode cX8_meet 34 = .ok (.istore 4, 2) := by decide +kernel
theorem dX8_meet_36 : decode cX8_meet 36 = .ok (.iload 4, 2) := by decide +kernel
theorem dX8_meet_38 : decode cX8_meet 38 = .ok (.iconst (-1), 1) := by decide +kernel
theorem dX8_meet_39 : decode cX8_meet 39 = .ok (.if_icmp .eq 19, 3) := by decide +kernel
theorem dX8_meet_42 : decode cX8_meet 42 = .ok (.iload 4, 2) := by decide +kernel
theorem dX8_meet_44 : decode cX8_meet 44 = .ok (.aload_n 0, 1) := by decide +kernel
theorem dX8_meet_45 : decode cX8_meet 45 = .ok (.getfield 44, 3) := by decide +kernel
theorem dX8_meet_48 : decode cX8_meet 48 = .ok (.iload_n 2, 1) := by decide +kernel
theorem dX8_meet_49 : decode cX8_meet 49 = .ok (.iload_n 3, 1) := by decide +kernel
theorem dX8_meet_50 : decode cX8_meet 50 = .ok (.invokevirtual 181, 3) := by decide +kernel
theorem dX8_meet_53 : decode cX8_meet 53 = .ok (.if_icmp .ne 5, 3) := by decide +kernel
theorem dX8_meet_56 : decode cX8_meet 56 = .ok (.iload_n 3, 1) := by decide +kernel
theorem dX8_meet_57 : decode cX8_meet 57 = .ok (.ireturn, 1) := by decide +kernel
theorem dX8_meet_58 : decode cX8_meet 58 = .ok (.iinc 3 1, 3) := by decide +kernel
theorem dX8_meet_61 : decode cX8_meet 61 = .ok (.goto (-42), 3) := by decide +kernel
theorem dX8_meet_64 : decode cX8_meet 64 = .ok (.iconst (-1), 1) := by decide +kernel
theorem dX8_meet_65 : decode cX8_meet 65 = .ok (.ireturn, 1) := by decide +kernel
theorem dX8_gathering_0 : decode cX8_gathering 0 = .ok (.iload_n 1, 1) := by decide +kernel
theorem dX8_gathering_1 : decode cX8_gathering 1 = .ok (.iconst 0, 1) := by decide +kernel
theorem dX8_gathering_2 : decode cX8_gathering 2 = .ok (.bipush 40, 2) := by decide +kernel
theorem dX8_gathering_4 : decode cX8_gathering 4 = .ok (.invokestatic 267, 3) := by decide +kernel
theorem dX8_gathering_7 : decode cX8_gathering 7 = .ok (.iconst 0, 1) := by decide +kernel
theorem dX8_gathering_8 : decode cX8_gathering 8 = .ok (.istore_n 2, 1) := by decide +kernel
theorem dX8_gathering_9 : decode cX8_gathering 9 = .ok (.iconst 0, 1) := by decide +kernel
theorem dX8_gathering_10 : decode cX8_gathering 10 = .ok (.istore_n 3, 1) := by decide +kernel
theorem dX8_gathering_11 : decode cX8_gathering 11 = .ok (.iconst 0, 1) := by decide +kernel
theorem dX8_gathering_12 : decode cX8_gathering 12 = .ok (.istore 4, 2) := by decide +kernel
theorem dX8_gathering_14 : decode cX8_gathering 14 = .ok (.iload 4, 2) := by decide +kernel
theorem dX8_gathering_16 : decode cX8_gathering 16 = .ok (.iconst 4, 1) := by decide +kernel
theorem dX8_gathering_17 : decode cX8_gathering 17 = .ok (.if_icmp .ge 36, 3) := by decide +kernel
theorem dX8_gathering_20 : decode cX8_gathering 20 = .ok (.aload_n 0, 1) := by decide +kernel
theorem dX8_gathering_21 : decode cX8_gathering 21 = .ok (.getfield 44, 3) := by decide +kernel
theorem dX8_gathering_24 : decode cX8_gathering 24 = .ok (.iload 4, 2) := by decide +kernel
theorem dX8_gathering_26 : decode cX8_gathering 26 = .ok (.iload_n 1, 1) := by decide +kernel
theorem dX8_gathering_27 : decode cX8_gathering 27 = .ok (.invokevirtual 234, 3) := by decide +kernel
theorem dX8_gathering_30 : decode cX8_gathering 30 = .ok (.invokestatic 284, 3) := by decide +kernel
theorem dX8_gathering_33 : decode cX8_gathering 33 = .ok (.istore 5, 2) := by decide +kernel
theorem dX8_gathering_35 : decode cX8_gathering 35 = .ok (.iload 5, 2) := by decide +kernel
theorem dX8_gathering_37 : decode cX8_gathering 37 = .ok (.iload_n 3, 1) := by decide +kernel
theorem dX8_gathering_38 : decode cX8_gathering 38 = .ok (.if_icmp .le 9, 3) := by decide +kernel
theorem dX8_gathering_41 : decode cX8_gathering 41 = .ok (.iload 5, 2) := by decide +kernel
theorem dX8_gathering_43 : decode cX8_gathering 43 = .ok (.istore_n 3, 1) := by decide +kernel
theorem dX8_gathering_44 : decode cX8_gathering 44 = .ok (.iload 4, 2) := by decide +kernel
theorem dX8_gathering_46 : decode cX8_gathering 46 = .ok (.istore_n 2, 1) := by decide +kernel
theorem dX8_gathering_47 : decode cX8_gathering 47 = .ok (.iinc 4 1, 3) := by decide +kernel
theorem dX8_gathering_50 : decode cX8_gathering 50 = .ok (.goto (-36), 3) := by decide +kernel
theorem dX8_gathering_53 : decode cX8_gathering 53 = .ok (.iload_n 2, 1) := by decide +kernel
theorem dX8_gathering_54 : decode cX8_gathering 54 = .ok (.ireturn, 1) := by decide +kernel
theorem dX8_chain_0 : decode cX8_chain 0 = .ok (.aload_n 0, 1) := by decide +kernel
theorem dX8_chain_1 : decode cX8_chain 1 = .ok (.iload_n 1, 1) := by decide +kernel
theorem dX8_chain_2 : decode cX8_chain 2 = .ok (.invokevirtual 194, 3) := by decide +kernel
theorem dX8_chain_5 : decode cX8_chain 5 = .ok (.aload_n 0, 1) := by decide +kernel
theorem dX8_chain_6 : decode cX8_chain 6 = .ok (.iload_n 2, 1) := by decide +kernel
theorem dX8_chain_7 : decode cX8_chain 7 = .ok (.invokevirtual 211, 3) := by decide +kernel
theorem dX8_chain_10 : decode cX8_chain 10 = .ok (.aload_n 0, 1) := by decide +kernel
theorem dX8_chain_11 : decode cX8_chain 11 = .ok (.iconst 0, 1) := by decide +kernel
theorem dX8_chain_12 : decode cX8_chain 12 = .ok (.invokevirtual 271, 3) := by decide +kernel
theorem dX8_chain_15 : decode cX8_chain 15 = .ok (.iconst 0, 1) := by decide +kernel
theorem dX8_chain_16 : decode cX8_chain 16 = .ok (.istore_n 3, 1) := by decide +kernel
theorem dX8_chain_17 : decode cX8_chain 17 = .ok (.iload_n 3, 1) := by decide +kernel
theorem dX8_chain_18 : decode cX8_chain 18 = .ok (.bipush 40, 2) := by decide +kernel
theorem dX8_chain_20 : decode cX8_chain 20 = .ok (.if_icmp .gt 42, 3) := by decide +kernel
theorem dX8_chain_23 : decode cX8_chain 23 = .ok (.aload_n 0, 1) := by decide +kernel
theorem dX8_chain_24 : decode cX8_chain 24 = .ok (.getfield 48, 3) := by decide +kernel
theorem dX8_chain_27 : decode cX8_chain 27 = .ok (.getfield 200, 3) := by decide +kernel
theorem dX8_chain_30 : decode cX8_chain 30 = .ok (.iload_n 1, 1) := by decide +kernel
theorem dX8_chain_31 : decode cX8_chain 31 = .ok (.iaload, 1) := by decide +kernel
theorem dX8_chain_32 : decode cX8_chain 32 = .ok (.iload_n 2, 1) := by decide +kernel
theorem dX8_chain_33 : decode cX8_chain 33 = .ok (.invokestatic 274, 3) := by decide +kernel
theorem dX8_chain_36 : decode cX8_chain 36 = .ok (.ifCond .eq 5, 3) := by decide +kernel
theorem dX8_chain_39 : decode cX8_chain 39 = .ok (.iload_n 3, 1) := by decide +kernel
theorem dX8_chain_40 : decode cX8_chain 40 = .ok (.ireturn, 1) := by decide +kernel
theorem dX8_chain_41 : decode cX8_chain 41 = .ok (.aload_n 0, 1) := by decide +kernel
theorem dX8_chain_42 : decode cX8_chain 42 = .ok (.getfield 48, 3) := by decide +kernel
theorem dX8_chain_45 : decode cX8_chain 45 = .ok (.invokevirtual 289, 3) := by decide +kernel
theorem dX8_chain_48 : decode cX8_chain 48 = .ok (.aload_n 0, 1) := by decide +kernel
theorem dX8_chain_49 : decode cX8_chain 49 = .ok (.getfield 48, 3) := by decide +kernel
theorem dX8_chain_52 : decode cX8_chain 52 = .ok (.invokevirtual 278, 3) := by decide +kernel
theorem dX8_chain_55 : decode cX8_chain 55 = .ok (.pop, 1) := by decide +kernel
theorem dX8_chain_56 : decode cX8_chain 56 = .ok (.iinc 3 1, 3) := by decide +kernel
theorem dX8_chain_59 : decode cX8_chain 59 = .ok (.goto (-42), 3) := by decide +kernel
theorem dX8_chain_62 : decode cX8_chain 62 = .ok (.iconst (-1), 1) := by decide +kernel
theorem dX8_chain_63 : decode cX8_chain 63 = .ok (.ireturn, 1) := by decide +kernel
theorem dX8_wisest_0 : decode cX8_wisest 0 = .ok (.iload_n 1, 1) := by decide +kernel
theorem dX8_wisest_1 : decode cX8_wisest 1 = .ok (.iconst 0, 1) := by decide +kernel
theorem dX8_wisest_2 : decode cX8_wisest 2 = .ok (.bipush 40, 2) := by decide +kernel
theorem dX8_wisest_4 : decode cX8_wisest 4 = .ok (.invokestatic 267, 3) := by decide +kernel
theorem dX8_wisest_7 : decode cX8_wisest 7 = .ok (.aload_n 0, 1) := by decide +kernel
theorem dX8_wisest_8 : decode cX8_wisest 8 = .ok (.iload_n 1, 1) := by decide +kernel
theorem dX8_wisest_9 : decode cX8_wisest 9 = .ok (.invokevirtual 271, 3) := by decide +kernel
theorem dX8_wisest_12 : decode cX8_wisest 12 = .ok (.iconst (-1), 1) := by decide +kernel
theorem dX8_wisest_13 : decode cX8_wisest 13 = .ok (.istore_n 2, 1) := by decide +kernel
theorem dX8_wisest_14 : decode cX8_wisest 14 = .ok (.iconst (-1), 1) := by decide +kernel
theorem dX8_wisest_15 : decode cX8_wisest 15 = .ok (.istore_n 3, 1) := by decide +kernel
theorem dX8_wisest_16 : decode cX8_wisest 16 = .ok (.iconst 0, 1) := by decide +kernel
theorem dX8_wisest_17 : decode cX8_wisest 17 = .ok (.istore 4, 2) := by decide +kernel
theorem dX8_wisest_19 : decode cX8_wisest 19 = .ok (.iload 4, 2) := by decide +kernel
theorem dX8_wisest_21 : decode cX8_wisest 21 = .ok (.aload_n 0, 1) := by decide +kernel
theorem dX8_wisest_22 : decode cX8_wisest 22 = .ok (.getfield 23, 3) := by decide +kernel
theorem dX8_wisest_25 : decode cX8_wisest 25 = .ok (.getfield 134, 3) := by decide +kernel
theorem dX8_wisest_28 : decode cX8_wisest 28 = .ok (.if_icmp .ge 36, 3) := by decide +kernel
theorem dX8_wisest_31 : decode cX8_wisest 31 = .ok (.aload_n 0, 1) := by decide +kernel
theorem dX8_wisest_32 : decode cX8_wisest 32 = .ok (.getfield 48, 3) := by decide +kernel
theorem dX8_wisest_35 : decode cX8_wisest 35 = .ok (.getfield 200, 3) := by decide +kernel
theorem dX8_wisest_38 : decode cX8_wisest 38 = .ok (.iload 4, 2) := by decide +kernel
theorem dX8_wisest_40 : decode cX8_wisest 40 = .ok (.iaload, 1) := by decide +kernel
theorem dX8_wisest_41 : decode cX8_wisest 41 = .ok (.invokestatic 284, 3) := by decide +kernel
theorem dX8_wisest_44 : decode cX8_wisest 44 = .ok (.istore 5, 2) := by decide +kernel
theorem dX8_wisest_46 : decode cX8_wisest 46 = .ok (.iload 5, 2) := by decide +kernel
theorem dX8_wisest_48 : decode cX8_wisest 48 = .ok (.iload_n 3, 1) := by decide +kernel
theorem dX8_wisest_49 : decode cX8_wisest 49 = .ok (.if_icmp .le 9, 3) := by decide +kernel
theorem dX8_wisest_52 : decode cX8_wisest 52 = .ok (.iload 5, 2) := by decide +kernel
theorem dX8_wisest_54 : decode cX8_wisest 54 = .ok (.istore_n 3, 1) := by decide +kernel
theorem dX8_wisest_55 : decode cX8_wisest 55 = .ok (.iload 4, 2) := by decide +kernel
theorem dX8_wisest_57 : decode cX8_wisest 57 = .ok (.istore_n 2, 1) := by decide +kernel
theorem dX8_wisest_58 : decode cX8_wisest 58 = .ok (.iinc 4 1, 3) := by decide +kernel
theorem dX8_wisest_61 : decode cX8_wisest 61 = .ok (.goto (-42), 3) := by decide +kernel
theorem dX8_wisest_64 : decode cX8_wisest 64 = .ok (.iload_n 2, 1) := by decide +kernel
theorem dX8_wisest_65 : decode cX8_wisest 65 = .ok (.ireturn, 1) := by decide +kernel
theorem dX8_unread_0 : decode cX8_unread 0 = .ok (.iload_n 1, 1) := by decide +kernel
theorem dX8_unread_1 : decode cX8_unread 1 = .ok (.iconst 0, 1) := by decide +kernel
theorem dX8_unread_2 : decode cX8_unread 2 = .ok (.bipush 40, 2) := by decide +kernel
theorem dX8_unread_4 : decode cX8_unread 4 = .ok (.invokestatic 267, 3) := by decide +kernel
theorem dX8_unread_7 : decode cX8_unread 7 = .ok (.aload_n 0, 1) := by decide +kernel
theorem dX8_unread_8 : decode cX8_unread 8 = .ok (.iload_n 1, 1) := by decide +kernel
theorem dX8_unread_9 : decode cX8_unread 9 = .ok (.invokevirtual 271, 3) := by decide +kernel
theorem dX8_unread_12 : decode cX8_unread 12 = .ok (.aload_n 0, 1) := by decide +kernel
theorem dX8_unread_13 : decode cX8_unread 13 = .ok (.getfield 23, 3) := by decide +kernel
theorem dX8_unread_16 : decode cX8_unread 16 = .ok (.getfield 137, 3) := by decide +kernel
theorem dX8_unread_19 : decode cX8_unread 19 = .ok (.aload_n 0, 1) := by decide +kernel
theorem dX8_unread_20 : decode cX8_unread 20 = .ok (.getfield 48, 3) := by decide +kernel
theorem dX8_unread_23 : decode cX8_unread 23 = .ok (.invokevirtual 153, 3) := by decide +kernel
theorem dX8_unread_26 : decode cX8_unread 26 = .ok (.invokestatic 284, 3) := by decide +kernel
theorem dX8_unread_29 : decode cX8_unread 29 = .ok (.isub, 1) := by decide +kernel
theorem dX8_unread_30 : decode cX8_unread 30 = .ok (.ireturn, 1) := by decide +kernel
theorem dX8_laid_0 : decode cX8_laid 0 = .ok (.iload_n 1, 1) := by decide +kernel
theorem dX8_laid_1 : decode cX8_laid 1 = .ok (.iconst 1, 1) := by decide +kernel
theorem dX8_laid_2 : decode cX8_laid 2 = .ok (.bipush 40, 2) := by decide +kernel
theorem dX8_laid_4 : decode cX8_laid 4 = .ok (.invokestatic 267, 3) := by decide +kernel
theorem dX8_laid_7 : decode cX8_laid 7 = .ok (.aload_n 0, 1) := by decide +kernel
theorem dX8_laid_8 : decode cX8_laid 8 = .ok (.iconst 0, 1) := by decide +kernel
theorem dX8_laid_9 : decode cX8_laid 9 = .ok (.invokevirtual 271, 3) := by decide +kernel
theorem dX8_laid_12 : decode cX8_laid 12 = .ok (.iconst 0, 1) := by decide +kernel
theorem dX8_laid_13 : decode cX8_laid 13 = .ok (.istore_n 2, 1) := by decide +kernel
theorem dX8_laid_14 : decode cX8_laid 14 = .ok (.iconst 0, 1) := by decide +kernel
theorem dX8_laid_15 : decode cX8_laid 15 = .ok (.istore_n 3, 1) := by decide +kernel
theorem dX8_laid_16 : decode cX8_laid 16 = .ok (.iload_n 3, 1) := by decide +kernel
theorem dX8_laid_17 : decode cX8_laid 17 = .ok (.iload_n 1, 1) := by decide +kernel
theorem dX8_laid_18 : decode cX8_laid 18 = .ok (.if_icmp .ge 22, 3) := by decide +kernel
theorem dX8_laid_21 : decode cX8_laid 21 = .ok (.aload_n 0, 1) := by decide +kernel
theorem dX8_laid_22 : decode cX8_laid 22 = .ok (.getfield 48, 3) := by decide +kernel
theorem dX8_laid_25 : decode cX8_laid 25 = .ok (.invokevirtual 278, 3) := by decide +kernel
theorem dX8_laid_28 : decode cX8_laid 28 = .ok (.ifCond .eq 6, 3) := by decide +kernel
theorem dX8_laid_31 : decode cX8_laid 31 = .ok (.iinc 2 1, 3) := by decide +kernel
theorem dX8_laid_34 : decode cX8_laid 34 = .ok (.iinc 3 1, 3) := by decide +kernel
theorem dX8_laid_37 : decode cX8_laid 37 = .ok (.goto (-21), 3) := by decide +kernel
theorem dX8_laid_40 : decode cX8_laid 40 = .ok (.iload_n 2, 1) := by decide +kernel
theorem dX8_laid_41 : decode cX8_laid 41 = .ok (.ireturn, 1) := by decide +kernel
theorem dX8_row_0 : decode cX8_row 0 = .ok (.aload_n 0, 1) := by decide +kernel
theorem dX8_row_1 : decode cX8_row 1 = .ok (.getfield 81, 3) := by decide +kernel
theorem dX8_row_4 : decode cX8_row 4 = .ok (.aload_n 0, 1) := by decide +kernel
theorem dX8_row_5 : decode cX8_row 5 = .ok (.getfield 44, 3) := by decide +kernel
theorem dX8_row_8 : decode cX8_row 8 = .ok (.invokevirtual 156, 3) := by decide +kernel
theorem dX8_row_11 : decode cX8_row 11 = .ok (.aload_n 0, 1) := by decide +kernel
theorem dX8_row_12 : decode cX8_row 12 = .ok (.getfield 81, 3) := by decide +kernel
theorem dX8_row_15 : decode cX8_row 15 = .ok (.invokevirtual 292, 3) := by decide +kernel
theorem dX8_row_18 : decode cX8_row 18 = .ok (.istore_n 2, 1) := by decide +kernel
theorem dX8_row_19 : decode cX8_row 19 = .ok (.iload_n 1, 1) := by decide +kernel
theorem dX8_row_20 : decode cX8_row 20 = .ok (.iconst (-1), 1) := by decide +kernel
theorem dX8_row_21 : decode cX8_row 21 = .ok (.if_icmp .ne 5, 3) := by decide +kernel
theorem dX8_row_24 : decode cX8_row 24 = .ok (.iload_n 2, 1) := by decide +kernel
theorem dX8_row_25 : decode cX8_row 25 = .ok (.ireturn, 1) := by decide +kernel
theorem dX8_row_26 : decode cX8_row 26 = .ok (.iload_n 1, 1) := by decide +kernel
theorem dX8_row_27 : decode cX8_row 27 = .ok (.iload_n 2, 1) := by decide +kernel
theorem dX8_row_28 : decode cX8_row 28 = .ok (.invokestatic 257, 3) := by decide +kernel
theorem dX8_row_31 : decode cX8_row 31 = .ok (.aload_n 0, 1) := by decide +kernel
theorem dX8_row_32 : decode cX8_row 32 = .ok (.getfield 81, 3) := by decide +kernel
theorem dX8_row_35 : decode cX8_row 35 = .ok (.getfield 295, 3) := by decide +kernel
theorem dX8_row_38 : decode cX8_row 38 = .ok (.iload_n 1, 1) := by decide +kernel
theorem dX8_row_39 : decode cX8_row 39 = .ok (.iaload, 1) := by decide +kernel
theorem dX8_row_40 : decode cX8_row 40 = .ok (.ireturn, 1) := by decide +kernel
theorem dX8_toForge_0 : decode cX8_toForge 0 = .ok (.aload_n 0, 1) := by decide +kernel
theorem dX8_toForge_1 : decode cX8_toForge 1 = .ok (.iload_n 1, 1) := by decide +kernel
theorem dX8_toForge_2 : decode cX8_toForge 2 = .ok (.invokevirtual 172, 3) := by decide +kernel
theorem dX8_toForge_5 : decode cX8_toForge 5 = .ok (.aload_n 0, 1) := by decide +kernel
theorem dX8_toForge_6 : decode cX8_toForge 6 = .ok (.iload_n 2, 1) := by decide +kernel
theorem dX8_toForge_7 : decode cX8_toForge 7 = .ok (.invokevirtual 172, 3) := by decide +kernel
theorem dX8_toForge_10 : decode cX8_toForge 10 = .ok (.iload_n 1, 1) := by decide +kernel
theorem dX8_toForge_11 : decode cX8_toForge 11 = .ok (.iload_n 2, 1) := by decide +kernel
theorem dX8_toForge_12 : decode cX8_toForge 12 = .ok (.if_icmp .eq 29, 3) := by decide +kernel
theorem dX8_toForge_15 : decode cX8_toForge 15 = .ok (.aload_n 0, 1) := by decide +kernel
theorem dX8_toForge_16 : decode cX8_toForge 16 = .ok (.getfield 44, 3) := by decide +kernel
theorem dX8_toForge_19 : decode cX8_toForge 19 = .ok (.getfield 254, 3) := by decide +kernel
theorem dX8_toForge_22 : decode cX8_toForge 22 = .ok (.iload_n 1, 1) := by decide +kernel
theorem dX8_toForge_23 : decode cX8_toForge 23 = .ok (.iaload, 1) := by decide +kernel
theorem dX8_toForge_24 : decode cX8_toForge 24 = .ok (.iconst (-1), 1) := by decide +kernel
theorem dX8_toForge_25 : decode cX8_toForge 25 = .ok (.if_icmp .eq 16, 3) := by decide +kernel
theorem dX8_toForge_28 : decode cX8_toForge 28 = .ok (.aload_n 0, 1) := by decide +kernel
theorem dX8_toForge_29 : decode cX8_toForge 29 = .ok (.getfield 44, 3) := by decide +kernel
theorem dX8_toForge_32 : decode cX8_toForge 32 = .ok (.getfield 254, 3) := by decide +kernel
theorem dX8_toForge_35 : decode cX8_toForge 35 = .ok (.iload_n 2, 1) := by decide +kernel
theorem dX8_toForge_36 : decode cX8_toForge 36 = .ok (.iaload, 1) := by decide +kernel
theorem dX8_toForge_37 : decode cX8_toForge 37 = .ok (.iconst (-1), 1) := by decide +kernel
theorem dX8_toForge_38 : decode cX8_toForge 38 = .ok (.if_icmp .ne 5, 3) := by decide +kernel
theorem dX8_toForge_41 : decode cX8_toForge 41 = .ok (.iconst (-1), 1) := by decide +kernel
theorem dX8_toForge_42 : decode cX8_toForge 42 = .ok (.ireturn, 1) := by decide +kernel
theorem dX8_toForge_43 : decode cX8_toForge 43 = .ok (.iconst 0, 1) := by decide +kernel
theorem dX8_toForge_44 : decode cX8_toForge 44 = .ok (.aload_n 0, 1) := by decide +kernel
theorem dX8_toForge_45 : decode cX8_toForge 45 = .ok (.getfield 44, 3) := by decide +kernel
theorem dX8_toForge_48 : decode cX8_toForge 48 = .ok (.iload_n 1, 1) := by decide +kernel
theorem dX8_toForge_49 : decode cX8_toForge 49 = .ok (.iload_n 2, 1) := by decide +kernel
theorem dX8_toForge_50 : decode cX8_toForge 50 = .ok (.invokevirtual 298, 3) := by decide +kernel
theorem dX8_toForge_53 : decode cX8_toForge 53 = .ok (.aload_n 0, 1) := by decide +kernel
theorem dX8_toForge_54 : decode cX8_toForge 54 = .ok (.getfield 23, 3) := by decide +kernel
theorem dX8_toForge_57 : decode cX8_toForge 57 = .ok (.getfield 140, 3) := by decide +kernel
theorem dX8_toForge_60 : decode cX8_toForge 60 = .ok (.isub, 1) := by decide +kernel
theorem dX8_toForge_61 : decode cX8_toForge 61 = .ok (.invokestatic 301, 3) := by decide +kernel
theorem dX8_toForge_64 : decode cX8_toForge 64 = .ok (.ireturn, 1) := by decide +kernel
theorem dX8_toSave_0 : decode cX8_toSave 0 = .ok (.iload_n 1, 1) := by decide +kernel
theorem dX8_toSave_1 : decode cX8_toSave 1 = .ok (.invokestatic 228, 3) := by decide +kernel
theorem dX8_toSave_4 : decode cX8_toSave 4 = .ok (.aload_n 0, 1) := by decide +kernel
theorem dX8_toSave_5 : decode cX8_toSave 5 = .ok (.getfield 44, 3) := by decide +kernel
theorem dX8_toSave_8 : decode cX8_toSave 8 = .ok (.iload_n 1, 1) := by decide +kernel
theorem dX8_toSave_9 : decode cX8_toSave 9 = .ok (.invokevirtual 231, 3) := by decide +kernel
theorem dX8_toSave_12 : decode cX8_toSave 12 = .ok (.istore_n 2, 1) := by decide +kernel
theorem dX8_toSave_13 : decode cX8_toSave 13 = .ok (.iconst (-1), 1) := by decide +kernel
theorem dX8_toSave_14 : decode cX8_toSave 14 = .ok (.istore_n 3, 1) := by decide +kernel
theorem dX8_toSave_15 : decode cX8_toSave 15 = .ok (.aload_n 0, 1) := by decide +kernel
theorem dX8_toSave_16 : decode cX8_toSave 16 = .ok (.getfield 44, 3) := by decide +kernel
theorem dX8_toSave_19 : decode cX8_toSave 19 = .ok (.iload_n 2, 1) := by decide +kernel
theorem dX8_toSave_20 : decode cX8_toSave 20 = .ok (.invokevirtual 243, 3) := by decide +kernel
theorem dX8_toSave_23 : decode cX8_toSave 23 = .ok (.invokestatic 284, 3) := by decide +kernel
theorem dX8_toSave_26 : decode cX8_toSave 26 = .ok (.istore 4, 2) := by decide +kernel
theorem dX8_toSave_28 : decode cX8_toSave 28 = .ok (.iconst 0, 1) := by decide +kernel
theorem dX8_toSave_29 : decode cX8_toSave 29 = .ok (.istore 5, 2) := by decide +kernel
theorem dX8_toSave_31 : decode cX8_toSave 31 = .ok (.iload 5, 2) := by decide +kernel
theorem dX8_toSave_33 : decode cX8_toSave 33 = .ok (.aload_n 0, 1) := by decide +kernel
theorem dX8_toSave_34 : decode cX8_toSave 34 = .ok (.getfield 23, 3) := by decide +kernel
theorem dX8_toSave_37 : decode cX8_toSave 37 = .ok (.getfield 131, 3) := by decide +kernel
theorem dX8_toSave_40 : decode cX8_toSave 40 = .ok (.if_icmp .ge 52, 3) := by decide +kernel
theorem dX8_toSave_43 : decode cX8_toSave 43 = .ok (.iload_n 2, 1) := by decide +kernel
theorem dX8_toSave_44 : decode cX8_toSave 44 = .ok (.iload 5, 2) := by decide +kernel
theorem dX8_toSave_46 : decode cX8_toSave 46 = .ok (.invokestatic 274, 3) := by decide +kernel
theorem dX8_toSave_49 : decode cX8_toSave 49 = .ok (.ifCond .eq 37, 3) := by decide +kernel
theorem dX8_toSave_52 : decode cX8_toSave 52 = .ok (.aload_n 0, 1) := by decide +kernel
theorem dX8_toSave_53 : decode cX8_toSave 53 = .ok (.getfield 44, 3) := by decide +kernel
theorem dX8_toSave_56 : decode cX8_toSave 56 = .ok (.iload_n 2, 1) := by decide +kernel
theorem dX8_toSave_57 : decode cX8_toSave 57 = .ok (.iconst 1, 1) := by decide +kernel
theorem dX8_toSave_58 : decode cX8_toSave 58 = .ok (.iload 5, 2) := by decide +kernel
theorem dX8_toSave_60 : decode cX8_toSave 60 = .ok (.ishl, 1) := by decide +kernel
theorem dX8_toSave_61 : decode cX8_toSave 61 = .ok (.iconst (-1), 1) := by decide +kernel
theorem dX8_toSave_62 : decode cX8_toSave 62 = .ok (.ixor, 1) := by decide +kernel
theorem dX8_toSave_63 : decode cX8_toSave 63 = .ok (.iand, 1) := by decide +kernel
theorem dX8_toSave_64 : decode cX8_toSave 64 = .ok (.invokevirtual 243, 3) := by decide +kernel
theorem dX8_toSave_67 : decode cX8_toSave 67 = .ok (.invokestatic 284, 3) := by decide +kernel
theorem dX8_toSave_70 : decode cX8_toSave 70 = .ok (.istore 6, 2) := by decide +kernel
theorem dX8_toSave_72 : decode cX8_toSave 72 = .ok (.iload 6, 2) := by decide +kernel
theorem dX8_toSave_74 : decode cX8_toSave 74 = .ok (.iload 4, 2) := by decide +kernel
theorem dX8_toSave_76 : decode cX8_toSave 76 = .ok (.if_icmp .ge 10, 3) := by decide +kernel
theorem dX8_toSave_79 : decode cX8_toSave 79 = .ok (.iload 6, 2) := by decide +kernel
theorem dX8_toSave_81 : decode cX8_toSave 81 = .ok (.istore 4, 2) := by decide +kernel
theorem dX8_toSave_83 : decode cX8_toSave 83 = .ok (.iload 5, 2) := by decide +kernel
theorem dX8_toSave_85 : decode cX8_toSave 85 = .ok (.istore_n 3, 1) := by decide +kernel
theorem dX8_toSave_86 : decode cX8_toSave 86 = .ok (.iinc 5 1, 3) := by decide +kernel
theorem dX8_toSave_89 : decode cX8_toSave 89 = .ok (.goto (-58), 3) := by decide +kernel
theorem dX8_toSave_92 : decode cX8_toSave 92 = .ok (.iload_n 3, 1) := by decide +kernel
theorem dX8_toSave_93 : decode cX8_toSave 93 = .ok (.ireturn, 1) := by decide +kernel
theorem dX8_toRead_0 : decode cX8_toRead 0 = .ok (.iconst 0, 1) := by decide +kernel
theorem dX8_toRead_1 : decode cX8_toRead 1 = .ok (.istore_n 1, 1) := by decide +kernel
theorem dX8_toRead_2 : decode cX8_toRead 2 = .ok (.iconst 0, 1) := by decide +kernel
theorem dX8_toRead_3 : decode cX8_toRead 3 = .ok (.istore_n 2, 1) := by decide +kernel
theorem dX8_toRead_4 : decode cX8_toRead 4 = .ok (.iload_n 2, 1) := by decide +kernel
theorem dX8_toRead_5 : decode cX8_toRead 5 = .ok (.aload_n 0, 1) := by decide +kernel
theorem dX8_toRead_6 : decode cX8_toRead 6 = .ok (.getfield 23, 3) := by decide +kernel
theorem dX8_toRead_9 : decode cX8_toRead 9 = .ok (.getfield 137, 3) := by decide +kernel
theorem dX8_toRead_12 : decode cX8_toRead 12 = .ok (.if_icmp .ge 54, 3) := by decide +kernel
theorem dX8_toRead_15 : decode cX8_toRead 15 = .ok (.aload_n 0, 1) := by decide +kernel
theorem dX8_toRead_16 : decode cX8_toRead 16 = .ok (.getfield 23, 3) := by decide +kernel
theorem dX8_toRead_19 : decode cX8_toRead 19 = .ok (.getfield 214, 3) := by decide +kernel
theorem dX8_toRead_22 : decode cX8_toRead 22 = .ok (.iload_n 2, 1) := by decide +kernel
theorem dX8_toRead_23 : decode cX8_toRead 23 = .ok (.iaload, 1) := by decide +kernel
theorem dX8_toRead_24 : decode cX8_toRead 24 = .ok (.istore_n 3, 1) := by decide +kernel
theorem dX8_toRead_25 : decode cX8_toRead 25 = .ok (.aload_n 0, 1) := by decide +kernel
theorem dX8_toRead_26 : decode cX8_toRead 26 = .ok (.getfield 23, 3) := by decide +kernel
theorem dX8_toRead_29 : decode cX8_toRead 29 = .ok (.getfield 217, 3) := by decide +kernel
theorem dX8_toRead_32 : decode cX8_toRead 32 = .ok (.iload_n 2, 1) := by decide +kernel
theorem dX8_toRead_33 : decode cX8_toRead 33 = .ok (.iaload, 1) := by decide +kernel
theorem dX8_toRead_34 : decode cX8_toRead 34 = .ok (.istore 4, 2) := by decide +kernel
theorem dX8_toRead_36 : decode cX8_toRead 36 = .ok (.aload_n 0, 1) := by decide +kernel
theorem dX8_toRead_37 : decode cX8_toRead 37 = .ok (.getfield 44, 3) := by decide +kernel
theorem dX8_toRead_40 : decode cX8_toRead 40 = .ok (.iload_n 3, 1) := by decide +kernel
theorem dX8_toRead_41 : decode cX8_toRead 41 = .ok (.iload 4, 2) := by decide +kernel
theorem dX8_toRead_43 : decode cX8_toRead 43 = .ok (.invokevirtual 306, 3) := by decide +kernel
theorem dX8_toRead_46 : decode cX8_toRead 46 = .ok (.ifCond .eq 14, 3) := by decide +kernel
theorem dX8_toRead_49 : decode cX8_toRead 49 = .ok (.iload_n 1, 1) := by decide +kernel
theorem dX8_toRead_50 : decode cX8_toRead 50 = .ok (.iconst 1, 1) := by decide +kernel
theorem dX8_toRead_51 : decode cX8_toRead 51 = .ok (.iload_n 3, 1) := by decide +kernel
theorem dX8_toRead_52 : decode cX8_toRead 52 = .ok (.ishl, 1) := by decide +kernel
theorem dX8_toRead_53 : decode cX8_toRead 53 = .ok (.iconst 1, 1) := by decide +kernel
theorem dX8_toRead_54 : decode cX8_toRead 54 = .ok (.iload 4, 2) := by decide +kernel
theorem dX8_toRead_56 : decode cX8_toRead 56 = .ok (.ishl, 1) := by decide +kernel
theorem dX8_toRead_57 : decode cX8_toRead 57 = .ok (.ior, 1) := by decide +kernel
theorem dX8_toRead_58 : decode cX8_toRead 58 = .ok (.ior, 1) := by decide +kernel
theorem dX8_toRead_59 : decode cX8_toRead 59 = .ok (.istore_n 1, 1) := by decide +kernel
theorem dX8_toRead_60 : decode cX8_toRead 60 = .ok (.iinc 2 1, 3) := by decide +kernel
theorem dX8_toRead_63 : decode cX8_toRead 63 = .ok (.goto (-59), 3) := by decide +kernel
theorem dX8_toRead_66 : decode cX8_toRead 66 = .ok (.iload_n 1, 1) := by decide +kernel
theorem dX8_toRead_67 : decode cX8_toRead 67 = .ok (.ireturn, 1) := by decide +kernel
theorem dX8_odd_0 : decode cX8_odd 0 = .ok (.iload_n 1, 1) := by decide +kernel
theorem dX8_odd_1 : decode cX8_odd 1 = .ok (.tableswitch 89 0 3 #[31, 50, 58, 66], 31) := by decide +kernel
theorem dX8_odd_32 : decode cX8_odd 32 = .ok (.aload_n 0, 1) := by decide +kernel
theorem dX8_odd_33 : decode cX8_odd 33 = .ok (.getfield 81, 3) := by decide +kernel
theorem dX8_odd_36 : decode cX8_odd 36 = .ok (.aload_n 0, 1) := by decide +kernel
theorem dX8_odd_37 : decode cX8_odd 37 = .ok (.getfield 44, 3) := by decide +kernel
theorem dX8_odd_40 : decode cX8_odd 40 = .ok (.invokevirtual 156, 3) := by decide +kernel
theorem dX8_odd_43 : decode cX8_odd 43 = .ok (.aload_n 0, 1) := by decide +kernel
theorem dX8_odd_44 : decode cX8_odd 44 = .ok (.getfield 81, 3) := by decide +kernel
theorem dX8_odd_47 : decode cX8_odd 47 = .ok (.invokevirtual 309, 3) := by decide +kernel
theorem dX8_odd_50 : decode cX8_odd 50 = .ok (.ireturn, 1) := by decide +kernel
theorem dX8_odd_51 : decode cX8_odd 51 = .ok (.aload_n 0, 1) := by decide +kernel
theorem dX8_odd_52 : decode cX8_odd 52 = .ok (.getfield 44, 3) := by decide +kernel
theorem dX8_odd_55 : decode cX8_odd 55 = .ok (.invokevirtual 312, 3) := by decide +kernel
theorem dX8_odd_58 : decode cX8_odd 58 = .ok (.ireturn, 1) := by decide +kernel
theorem dX8_odd_59 : decode cX8_odd 59 = .ok (.aload_n 0, 1) := by decide +kernel
theorem dX8_odd_60 : decode cX8_odd 60 = .ok (.getfield 44, 3) := by decide +kernel
theorem dX8_odd_63 : decode cX8_odd 63 = .ok (.invokevirtual 315, 3) := by decide +kernel
theorem dX8_odd_66 : decode cX8_odd 66 = .ok (.ireturn, 1) := by decide +kernel
theorem dX8_odd_67 : decode cX8_odd 67 = .ok (.aload_n 0, 1) := by decide +kernel
theorem dX8_odd_68 : decode cX8_odd 68 = .ok (.getfield 81, 3) := by decide +kernel
theorem dX8_odd_71 : decode cX8_odd 71 = .ok (.aload_n 0, 1) := by decide +kernel
theorem dX8_odd_72 : decode cX8_odd 72 = .ok (.getfield 44, 3) := by decide +kernel
theorem dX8_odd_75 : decode cX8_odd 75 = .ok (.invokevirtual 156, 3) := by decide +kernel
theorem dX8_odd_78 : decode cX8_odd 78 = .ok (.aload_n 0, 1) := by decide +kernel
theorem dX8_odd_79 : decode cX8_odd 79 = .ok (.getfield 81, 3) := by decide +kernel
theorem dX8_odd_82 : decode cX8_odd 82 = .ok (.aload_n 0, 1) := by decide +kernel
theorem dX8_odd_83 : decode cX8_odd 83 = .ok (.getfield 23, 3) := by decide +kernel
theorem dX8_odd_86 : decode cX8_odd 86 = .ok (.invokevirtual 318, 3) := by decide +kernel
theorem dX8_odd_89 : decode cX8_odd 89 = .ok (.ireturn, 1) := by decide +kernel
theorem dX8_odd_90 : decode cX8_odd 90 = .ok (.new 167, 3) := by decide +kernel
theorem dX8_odd_93 : decode cX8_odd 93 = .ok (.dup, 1) := by decide +kernel
theorem dX8_odd_94 : decode cX8_odd 94 = .ok (.ldc_w 322, 3) := by decide +kernel
theorem dX8_odd_97 : decode cX8_odd 97 = .ok (.invokespecial 171, 3) := by decide +kernel
theorem dX8_odd_100 : decode cX8_odd 100 = .ok (.athrow, 1) := by decide +kernel
theorem dX8_far_0 : decode cX8_far 0 = .ok (.aload_n 0, 1) := by decide +kernel
theorem dX8_far_1 : decode cX8_far 1 = .ok (.iload_n 1, 1) := by decide +kernel
theorem dX8_far_2 : decode cX8_far 2 = .ok (.invokevirtual 172, 3) := by decide +kernel
theorem dX8_far_5 : decode cX8_far 5 = .ok (.aload_n 0, 1) := by decide +kernel
theorem dX8_far_6 : decode cX8_far 6 = .ok (.iload_n 2, 1) := by decide +kernel
theorem dX8_far_7 : decode cX8_far 7 = .ok (.invokevirtual 172, 3) := by decide +kernel
theorem dX8_far_10 : decode cX8_far 10 = .ok (.aload_n 0, 1) := by decide +kernel
theorem dX8_far_11 : decode cX8_far 11 = .ok (.getfield 44, 3) := by decide +kernel
theorem dX8_far_14 : decode cX8_far 14 = .ok (.iload_n 1, 1) := by decide +kernel
theorem dX8_far_15 : decode cX8_far 15 = .ok (.iload_n 2, 1) := by decide +kernel
theorem dX8_far_16 : decode cX8_far 16 = .ok (.invokevirtual 298, 3) := by decide +kernel
theorem dX8_far_19 : decode cX8_far 19 = .ok (.ireturn, 1) := by decide +kernel
theorem dX8_company_0 : decode cX8_company 0 = .ok (.aload_n 0, 1) := by decide +kernel
theorem dX8_company_1 : decode cX8_company 1 = .ok (.iload_n 1, 1) := by decide +kernel
theorem dX8_company_2 : decode cX8_company 2 = .ok (.invokevirtual 194, 3) := by decide +kernel
theorem dX8_company_5 : decode cX8_company 5 = .ok (.aload_n 0, 1) := by decide +kernel
theorem dX8_company_6 : decode cX8_company 6 = .ok (.iload_n 2, 1) := by decide +kernel
theorem dX8_company_7 : decode cX8_company 7 = .ok (.invokevirtual 194, 3) := by decide +kernel
theorem dX8_company_10 : decode cX8_company 10 = .ok (.iload_n 3, 1) := by decide +kernel
theorem dX8_company_11 : decode cX8_company 11 = .ok (.iconst 1, 1) := by decide +kernel
theorem dX8_company_12 : decode cX8_company 12 = .ok (.bipush 60, 2) := by decide +kernel
theorem dX8_company_14 : decode cX8_company 14 = .ok (.invokestatic 267, 3) := by decide +kernel
theorem dX8_company_17 : decode cX8_company 17 = .ok (.iconst 0, 1) := by decide +kernel
theorem dX8_company_18 : decode cX8_company 18 = .ok (.istore 4, 2) := by decide +kernel
theorem dX8_company_20 : decode cX8_company 20 = .ok (.iconst 0, 1) := by decide +kernel
theorem dX8_company_21 : decode cX8_company 21 = .ok (.istore 5, 2) := by decide +kernel
theorem dX8_company_23 : decode cX8_company 23 = .ok (.iload 5, 2) := by decide +kernel
theorem dX8_company_25 : decode cX8_company 25 = .ok (.iload_n 3, 1) := by decide +kernel
theorem dX8_company_26 : decode cX8_company 26 = .ok (.if_icmp .ge 51, 3) := by decide +kernel
theorem dX8_company_29 : decode cX8_company 29 = .ok (.aload_n 0, 1) := by decide +kernel
theorem dX8_company_30 : decode cX8_company 30 = .ok (.getfield 23, 3) := by decide +kernel
theorem dX8_company_33 : decode cX8_company 33 = .ok (.iload_n 1, 1) := by decide +kernel
theorem dX8_company_34 : decode cX8_company 34 = .ok (.aload_n 0, 1) := by decide +kernel
theorem dX8_company_35 : decode cX8_company 35 = .ok (.getfield 44, 3) := by decide +kernel
theorem dX8_company_38 : decode cX8_company 38 = .ok (.getfield 143, 3) := by decide +kernel
theorem dX8_company_41 : decode cX8_company 41 = .ok (.iload 5, 2) := by decide +kernel
theorem dX8_company_43 : decode cX8_company 43 = .ok (.iadd, 1) := by decide +kernel
theorem dX8_company_44 : decode cX8_company 44 = .ok (.invokevirtual 197, 3) := by decide +kernel
theorem dX8_company_47 : decode cX8_company 47 = .ok (.aload_n 0, 1) := by decide +kernel
theorem dX8_company_48 : decode cX8_company 48 = .ok (.getfield 23, 3) := by decide +kernel
theorem dX8_company_51 : decode cX8_company 51 = .ok (.iload_n 2, 1) := by decide +kernel
theorem dX8_company_52 : decode cX8_company 52 = .ok (.aload_n 0, 1) := by decide +kernel
theorem dX8_company_53 : decode cX8_company 53 = .ok (.getfield 44, 3) := by decide +kernel
theorem dX8_company_56 : decode cX8_company 56 = .ok (.getfield 143, 3) := by decide +kernel
theorem dX8_company_59 : decode cX8_company 59 = .ok (.iload 5, 2) := by decide +kernel
theorem dX8_company_61 : decode cX8_company 61 = .ok (.iadd, 1) := by decide +kernel
theorem dX8_company_62 : decode cX8_company 62 = .ok (.invokevirtual 197, 3) := by decide +kernel
theorem dX8_company_65 : decode cX8_company 65 = .ok (.if_icmp .ne 6, 3) := by decide +kernel
theorem dX8_company_68 : decode cX8_company 68 = .ok (.iinc 4 1, 3) := by decide +kernel
theorem dX8_company_71 : decode cX8_company 71 = .ok (.iinc 5 1, 3) := by decide +kernel
theorem dX8_company_74 : decode cX8_company 74 = .ok (.goto (-51), 3) := by decide +kernel
theorem dX8_company_77 : decode cX8_company 77 = .ok (.iload 4, 2) := by decide +kernel
theorem dX8_company_79 : decode cX8_company 79 = .ok (.ireturn, 1) := by decide +kernel
theorem dX8_together_0 : decode cX8_together 0 = .ok (.iload_n 1, 1) := by decide +kernel
theorem dX8_together_1 : decode cX8_together 1 = .ok (.iconst 1, 1) := by decide +kernel
theorem dX8_together_2 : decode cX8_together 2 = .ok (.bipush 6, 2) := by decide +kernel
theorem dX8_together_4 : decode cX8_together 4 = .ok (.invokestatic 267, 3) := by decide +kernel
theorem dX8_together_7 : decode cX8_together 7 = .ok (.iconst 0, 1) := by decide +kernel
theorem dX8_together_8 : decode cX8_together 8 = .ok (.istore_n 2, 1) := by decide +kernel
theorem dX8_together_9 : decode cX8_together 9 = .ok (.iload_n 2, 1) := by decide +kernel
theorem dX8_together_10 : decode cX8_together 10 = .ok (.bipush 60, 2) := by decide +kernel
theorem dX8_together_12 : decode cX8_together 12 = .ok (.if_icmp .gt 31, 3) := by decide +kernel
theorem dX8_together_15 : decode cX8_together 15 = .ok (.aload_n 0, 1) := by decide +kernel
theorem dX8_together_16 : decode cX8_together 16 = .ok (.getfield 23, 3) := by decide +kernel
theorem dX8_together_19 : decode cX8_together 19 = .ok (.aload_n 0, 1) := by decide +kernel
theorem dX8_together_20 : decode cX8_together 20 = .ok (.getfield 44, 3) := by decide +kernel
theorem dX8_together_23 : decode cX8_together 23 = .ok (.getfield 143, 3) := by decide +kernel
theorem dX8_together_26 : decode cX8_together 26 = .ok (.iload_n 2, 1) := by decide +kernel
theorem dX8_together_27 : decode cX8_together 27 = .ok (.iadd, 1) := by decide +kernel
theorem dX8_together_28 : decode cX8_together 28 = .ok (.invokevirtual 324, 3) := by decide +kernel
theorem dX8_together_31 : decode cX8_together 31 = .ok (.iload_n 1, 1) := by decide +kernel
theorem dX8_together_32 : decode cX8_together 32 = .ok (.if_icmp .lt 5, 3) := by decide +kernel
theorem dX8_together_35 : decode cX8_together 35 = .ok (.iload_n 2, 1) := by decide +kernel
theorem dX8_together_36 : decode cX8_together 36 = .ok (.ireturn, 1) := by decide +kernel
theorem dX8_together_37 : decode cX8_together 37 = .ok (.iinc 2 1, 3) := by decide +kernel
theorem dX8_together_40 : decode cX8_together 40 = .ok (.goto (-31), 3) := by decide +kernel
theorem dX8_together_43 : decode cX8_together 43 = .ok (.iconst (-1), 1) := by decide +kernel
theorem dX8_together_44 : decode cX8_together 44 = .ok (.ireturn, 1) := by decide +kernel
theorem dX8_heir_0 : decode cX8_heir 0 = .ok (.aload_n 0, 1) := by decide +kernel
theorem dX8_heir_1 : decode cX8_heir 1 = .ok (.iload_n 1, 1) := by decide +kernel
theorem dX8_heir_2 : decode cX8_heir 2 = .ok (.invokevirtual 194, 3) := by decide +kernel
theorem dX8_heir_5 : decode cX8_heir 5 = .ok (.iconst (-1), 1) := by decide +kernel
theorem dX8_heir_6 : decode cX8_heir 6 = .ok (.istore_n 2, 1) := by decide +kernel
theorem dX8_heir_7 : decode cX8_heir 7 = .ok (.iconst (-1), 1) := by decide +kernel
theorem dX8_heir_8 : decode cX8_heir 8 = .ok (.istore_n 3, 1) := by decide +kernel
theorem dX8_heir_9 : decode cX8_heir 9 = .ok (.iconst 0, 1) := by decide +kernel
theorem dX8_heir_10 : decode cX8_heir 10 = .ok (.istore 4, 2) := by decide +kernel
theorem dX8_heir_12 : decode cX8_heir 12 = .ok (.iload 4, 2) := by decide +kernel
theorem dX8_heir_14 : decode cX8_heir 14 = .ok (.aload_n 0, 1) := by decide +kernel
theorem dX8_heir_15 : decode cX8_heir 15 = .ok (.getfield 23, 3) := by decide +kernel
theorem dX8_heir_18 : decode cX8_heir 18 = .ok (.getfield 134, 3) := by decide +kernel
theorem dX8_heir_21 : decode cX8_heir 21 = .ok (.if_icmp .ge 52, 3) := by decide +kernel
theorem dX8_heir_24 : decode cX8_heir 24 = .ok (.aload_n 0, 1) := by decide +kernel
theorem dX8_heir_25 : decode cX8_heir 25 = .ok (.getfield 44, 3) := by decide +kernel
theorem dX8_heir_28 : decode cX8_heir 28 = .ok (.getfield 200, 3) := by decide +kernel
theorem dX8_heir_31 : decode cX8_heir 31 = .ok (.iload 4, 2) := by decide +kernel
theorem dX8_heir_33 : decode cX8_heir 33 = .ok (.iaload, 1) := by decide +kernel
theorem dX8_heir_34 : decode cX8_heir 34 = .ok (.aload_n 0, 1) := by decide +kernel
theorem dX8_heir_35 : decode cX8_heir 35 = .ok (.getfield 44, 3) := by decide +kernel
theorem dX8_heir_38 : decode cX8_heir 38 = .ok (.getfield 200, 3) := by decide +kernel
theorem dX8_heir_41 : decode cX8_heir 41 = .ok (.iload_n 1, 1) := by decide +kernel
theorem dX8_heir_42 : decode cX8_heir 42 = .ok (.iaload, 1) := by decide +kernel
theorem dX8_heir_43 : decode cX8_heir 43 = .ok (.iand, 1) := by decide +kernel
theorem dX8_heir_44 : decode cX8_heir 44 = .ok (.invokestatic 284, 3) := by decide +kernel
theorem dX8_heir_47 : decode cX8_heir 47 = .ok (.istore 5, 2) := by decide +kernel
theorem dX8_heir_49 : decode cX8_heir 49 = .ok (.iload 4, 2) := by decide +kernel
theorem dX8_heir_51 : decode cX8_heir 51 = .ok (.iload_n 1, 1) := by decide +kernel
theorem dX8_heir_52 : decode cX8_heir 52 = .ok (.if_icmp .eq 15, 3) := by decide +kernel
theorem dX8_heir_55 : decode cX8_heir 55 = .ok (.iload 5, 2) := by decide +kernel
theorem dX8_heir_57 : decode cX8_heir 57 = .ok (.iload_n 3, 1) := by decide +kernel
theorem dX8_heir_58 : decode cX8_heir 58 = .ok (.if_icmp .le 9, 3) := by decide +kernel
theorem dX8_heir_61 : decode cX8_heir 61 = .ok (.iload 5, 2) := by decide +kernel
theorem dX8_heir_63 : decode cX8_heir 63 = .ok (.istore_n 3, 1) := by decide +kernel
theorem dX8_heir_64 : decode cX8_heir 64 = .ok (.iload 4, 2) := by decide +kernel
theorem dX8_heir_66 : decode cX8_heir 66 = .ok (.istore_n 2, 1) := by decide +kernel
theorem dX8_heir_67 : decode cX8_heir 67 = .ok (.iinc 4 1, 3) := by decide +kernel
theorem dX8_heir_70 : decode cX8_heir 70 = .ok (.goto (-58), 3) := by decide +kernel
theorem dX8_heir_73 : decode cX8_heir 73 = .ok (.iload_n 2, 1) := by decide +kernel
theorem dX8_heir_74 : decode cX8_heir 74 = .ok (.ireturn, 1) := by decide +kernel
theorem dX8_hear_0 : decode cX8_hear 0 = .ok (.aload_n 0, 1) := by decide +kernel
theorem dX8_hear_1 : decode cX8_hear 1 = .ok (.iload_n 1, 1) := by decide +kernel
theorem dX8_hear_2 : decode cX8_hear 2 = .ok (.invokevirtual 194, 3) := by decide +kernel
theorem dX8_hear_5 : decode cX8_hear 5 = .ok (.aload_n 0, 1) := by decide +kernel
theorem dX8_hear_6 : decode cX8_hear 6 = .ok (.iload_n 2, 1) := by decide +kernel
theorem dX8_hear_7 : decode cX8_hear 7 = .ok (.invokevirtual 211, 3) := by decide +kernel
theorem dX8_hear_10 : decode cX8_hear 10 = .ok (.aload_n 0, 1) := by decide +kernel
theorem dX8_hear_11 : decode cX8_hear 11 = .ok (.getfield 61, 3) := by decide +kernel
theorem dX8_hear_14 : decode cX8_hear 14 = .ok (.getfield 166, 3) := by decide +kernel
theorem dX8_hear_17 : decode cX8_hear 17 = .ok (.bipush 8, 2) := by decide +kernel
theorem dX8_hear_19 : decode cX8_hear 19 = .ok (.if_icmp .ge 13, 3) := by decide +kernel
theorem dX8_hear_22 : decode cX8_hear 22 = .ok (.iload_n 3, 1) := by decide +kernel
theorem dX8_hear_23 : decode cX8_hear 23 = .ok (.ifCond .lt 9, 3) := by decide +kernel
theorem dX8_hear_26 : decode cX8_hear 26 = .ok (.iload_n 3, 1) := by decide +kernel
theorem dX8_hear_27 : decode cX8_hear 27 = .ok (.bipush 12, 2) := by decide +kernel
theorem dX8_hear_29 : decode cX8_hear 29 = .ok (.if_icmp .le 15, 3) := by decide +kernel
theorem dX8_hear_32 : decode cX8_hear 32 = .ok (.aload_n 0, 1) := by decide +kernel
theorem dX8_hear_33 : decode cX8_hear 33 = .ok (.getfield 92, 3) := by decide +kernel
theorem dX8_hear_36 : decode cX8_hear 36 = .ok (.iconst 2, 1) := by decide +kernel
theorem dX8_hear_37 : decode cX8_hear 37 = .ok (.dup2, 1) := by decide +kernel
theorem dX8_hear_38 : decode cX8_hear 38 = .ok (.iaload, 1) := by decide +kernel
theorem dX8_hear_39 : decode cX8_hear 39 = .ok (.iconst 1, 1) := by decide +kernel
theorem dX8_hear_40 : decode cX8_hear 40 = .ok (.iadd, 1) := by decide +kernel
theorem dX8_hear_41 : decode cX8_hear 41 = .ok (.iastore, 1) := by decide +kernel
theorem dX8_hear_42 : decode cX8_hear 42 = .ok (.iconst (-1), 1) := by decide +kernel
theorem dX8_hear_43 : decode cX8_hear 43 = .ok (.ireturn, 1) := by decide +kernel
theorem dX8_hear_44 : decode cX8_hear 44 = .ok (.aload_n 0, 1) := by decide +kernel
theorem dX8_hear_45 : decode cX8_hear 45 = .ok (.getfield 61, 3) := by decide +kernel
theorem dX8_hear_48 : decode cX8_hear 48 = .ok (.iload_n 1, 1) := by decide +kernel
theorem dX8_hear_49 : decode cX8_hear 49 = .ok (.iload_n 2, 1) := by decide +kernel
theorem dX8_hear_50 : decode cX8_hear 50 = .ok (.iload_n 3, 1) := by decide +kernel
theorem dX8_hear_51 : decode cX8_hear 51 = .ok (.iload 4, 2) := by decide +kernel
theorem dX8_hear_53 : decode cX8_hear 53 = .ok (.invokevirtual 327, 3) := by decide +kernel
theorem dX8_hear_56 : decode cX8_hear 56 = .ok (.aload_n 0, 1) := by decide +kernel
theorem dX8_hear_57 : decode cX8_hear 57 = .ok (.getfield 61, 3) := by decide +kernel
theorem dX8_hear_60 : decode cX8_hear 60 = .ok (.getfield 166, 3) := by decide +kernel
theorem dX8_hear_63 : decode cX8_hear 63 = .ok (.ireturn, 1) := by decide +kernel
theorem dX8_forget_0 : decode cX8_forget 0 = .ok (.aload_n 0, 1) := by decide +kernel
theorem dX8_forget_1 : decode cX8_forget 1 = .ok (.getfield 61, 3) := by decide +kernel
theorem dX8_forget_4 : decode cX8_forget 4 = .ok (.invokevirtual 130, 3) := by decide +kernel
theorem dX8_forget_7 : decode cX8_forget 7 = .ok (.return_, 1) := by decide +kernel
theorem dX8_borne_0 : decode cX8_borne 0 = .ok (.iload_n 1, 1) := by decide +kernel
theorem dX8_borne_1 : decode cX8_borne 1 = .ok (.iconst 3, 1) := by decide +kernel
theorem dX8_borne_2 : decode cX8_borne 2 = .ok (.invokestatic 257, 3) := by decide +kernel
theorem dX8_borne_5 : decode cX8_borne 5 = .ok (.iload_n 1, 1) := by decide +kernel
theorem dX8_borne_6 : decode cX8_borne 6 = .ok (.iconst 2, 1) := by decide +kernel
theorem dX8_borne_7 : decode cX8_borne 7 = .ok (.if_icmp .ne 28, 3) := by decide +kernel
theorem dX8_borne_10 : decode cX8_borne 10 = .ok (.aload_n 0, 1) := by decide +kernel
theorem dX8_borne_11 : decode cX8_borne 11 = .ok (.iconst 0, 1) := by decide +kernel
theorem dX8_borne_12 : decode cX8_borne 12 = .ok (.invokevirtual 271, 3) := by decide +kernel
theorem dX8_borne_15 : decode cX8_borne 15 = .ok (.aload_n 0, 1) := by decide +kernel
theorem dX8_borne_16 : decode cX8_borne 16 = .ok (.getfield 61, 3) := by decide +kernel
theorem dX8_borne_19 : decode cX8_borne 19 = .ok (.aload_n 0, 1) := by decide +kernel
theorem dX8_borne_20 : decode cX8_borne 20 = .ok (.getfield 48, 3) := by decide +kernel
theorem dX8_borne_23 : decode cX8_borne 23 = .ok (.invokevirtual 331, 3) := by decide +kernel
theorem dX8_borne_26 : decode cX8_borne 26 = .ok (.ifCond .eq 7, 3) := by decide +kernel
theorem dX8_borne_29 : decode cX8_borne 29 = .ok (.iconst 1, 1) := by decide +kernel
theorem dX8_borne_30 : decode cX8_borne 30 = .ok (.goto 4, 3) := by decide +kernel
theorem dX8_borne_33 : decode cX8_borne 33 = .ok (.iconst 0, 1) := by decide +kernel
theorem dX8_borne_34 : decode cX8_borne 34 = .ok (.ireturn, 1) := by decide +kernel
theorem dX8_borne_35 : decode cX8_borne 35 = .ok (.iconst 0, 1) := by decide +kernel
theorem dX8_borne_36 : decode cX8_borne 36 = .ok (.istore_n 2, 1) := by decide +kernel
theorem dX8_borne_37 : decode cX8_borne 37 = .ok (.iconst (-1), 1) := by decide +kernel
theorem dX8_borne_38 : decode cX8_borne 38 = .ok (.istore_n 3, 1) := by decide +kernel
theorem dX8_borne_39 : decode cX8_borne 39 = .ok (.iconst 0, 1) := by decide +kernel
theorem dX8_borne_40 : decode cX8_borne 40 = .ok (.istore 4, 2) := by decide +kernel
theorem dX8_borne_42 : decode cX8_borne 42 = .ok (.iload 4, 2) := by decide +kernel
theorem dX8_borne_44 : decode cX8_borne 44 = .ok (.bipush 54, 2) := by decide +kernel
theorem dX8_borne_46 : decode cX8_borne 46 = .ok (.if_icmp .ge 54, 3) := by decide +kernel
theorem dX8_borne_49 : decode cX8_borne 49 = .ok (.aload_n 0, 1) := by decide +kernel
theorem dX8_borne_50 : decode cX8_borne 50 = .ok (.iload 4, 2) := by decide +kernel
theorem dX8_borne_52 : decode cX8_borne 52 = .ok (.invokevirtual 335, 3) := by decide +kernel
theorem dX8_borne_55 : decode cX8_borne 55 = .ok (.ifCond .eq 39, 3) := by decide +kernel
theorem dX8_borne_58 : decode cX8_borne 58 = .ok (.aload_n 0, 1) := by decide +kernel
theorem dX8_borne_59 : decode cX8_borne 59 = .ok (.getfield 61, 3) := by decide +kernel
theorem dX8_borne_62 : decode cX8_borne 62 = .ok (.aload_n 0, 1) := by decide +kernel
theorem dX8_borne_63 : decode cX8_borne 63 = .ok (.getfield 48, 3) := by decide +kernel
theorem dX8_borne_66 : decode cX8_borne 66 = .ok (.invokevirtual 331, 3) := by decide +kernel
theorem dX8_borne_69 : decode cX8_borne 69 = .ok (.ifCond .eq 25, 3) := by decide +kernel
theorem dX8_borne_72 : decode cX8_borne 72 = .ok (.iload_n 2, 1) := by decide +kernel
theorem dX8_borne_73 : decode cX8_borne 73 = .ok (.ifCond .ne 18, 3) := by decide +kernel
theorem dX8_borne_76 : decode cX8_borne 76 = .ok (.iload 4, 2) := by decide +kernel
theorem dX8_borne_78 : decode cX8_borne 78 = .ok (.bipush 9, 2) := by decide +kernel
theorem dX8_borne_80 : decode cX8_borne 80 = .ok (.idiv, 1) := by decide +kernel
theorem dX8_borne_81 : decode cX8_borne 81 = .ok (.bipush 10, 2) := by decide +kernel
theorem dX8_borne_83 : decode cX8_borne 83 = .ok (.imul, 1) := by decide +kernel
theorem dX8_borne_84 : decode cX8_borne 84 = .ok (.iload 4, 2) := by decide +kernel
theorem dX8_borne_86 : decode cX8_borne 86 = .ok (.bipush 9, 2) := by decide +kernel
theorem dX8_borne_88 : decode cX8_borne 88 = .ok (.irem, 1) := by decide +kernel
theorem dX8_borne_89 : decode cX8_borne 89 = .ok (.iadd, 1) := by decide +kernel
theorem dX8_borne_90 : decode cX8_borne 90 = .ok (.istore_n 3, 1) := by decide +kernel
theorem dX8_borne_91 : decode cX8_borne 91 = .ok (.iinc 2 1, 3) := by decide +kernel
theorem dX8_borne_94 : decode cX8_borne 94 = .ok (.iinc 4 1, 3) := by decide +kernel
theorem dX8_borne_97 : decode cX8_borne 97 = .ok (.goto (-55), 3) := by decide +kernel
theorem dX8_borne_100 : decode cX8_borne 100 = .ok (.iload_n 1, 1) := by decide +kernel
theorem dX8_borne_101 : decode cX8_borne 101 = .ok (.ifCond .ne 7, 3) := by decide +kernel
theorem dX8_borne_104 : decode cX8_borne 104 = .ok (.iload_n 2, 1) := by decide +kernel
theorem dX8_borne_105 : decode cX8_borne 105 = .ok (.goto 4, 3) := by decide +kernel
theorem dX8_borne_108 : decode cX8_borne 108 = .ok (.iload_n 3, 1) := by decide +kernel
theorem dX8_borne_109 : decode cX8_borne 109 = .ok (.ireturn, 1) := by decide +kernel
theorem dX8_ask_0 : decode cX8_ask 0 = .ok (.iload_n 1, 1) := by decide +kernel
theorem dX8_ask_1 : decode cX8_ask 1 = .ok (.iconst 2, 1) := by decide +kernel
theorem dX8_ask_2 : decode cX8_ask 2 = .ok (.invokestatic 257, 3) := by decide +kernel
theorem dX8_ask_5 : decode cX8_ask 5 = .ok (.aload_n 0, 1) := by decide +kernel
theorem dX8_ask_6 : decode cX8_ask 6 = .ok (.invokevirtual 339, 3) := by decide +kernel
theorem dX8_ask_9 : decode cX8_ask 9 = .ok (.istore_n 2, 1) := by decide +kernel
theorem dX8_ask_10 : decode cX8_ask 10 = .ok (.iconst (-1), 1) := by decide +kernel
theorem dX8_ask_11 : decode cX8_ask 11 = .ok (.istore_n 3, 1) := by decide +kernel
theorem dX8_ask_12 : decode cX8_ask 12 = .ok (.iconst 0, 1) := by decide +kernel
theorem dX8_ask_13 : decode cX8_ask 13 = .ok (.istore 4, 2) := by decide +kernel
theorem dX8_ask_15 : decode cX8_ask 15 = .ok (.iconst 0, 1) := by decide +kernel
theorem dX8_ask_16 : decode cX8_ask 16 = .ok (.istore 5, 2) := by decide +kernel
theorem dX8_ask_18 : decode cX8_ask 18 = .ok (.iload 5, 2) := by decide +kernel
theorem dX8_ask_20 : decode cX8_ask 20 = .ok (.aload_n 0, 1) := by decide +kernel
theorem dX8_ask_21 : decode cX8_ask 21 = .ok (.getfield 23, 3) := by decide +kernel
theorem dX8_ask_24 : decode cX8_ask 24 = .ok (.getfield 134, 3) := by decide +kernel
theorem dX8_ask_27 : decode cX8_ask 27 = .ok (.if_icmp .ge 32, 3) := by decide +kernel
theorem dX8_ask_30 : decode cX8_ask 30 = .ok (.aload_n 0, 1) := by decide +kernel
theorem dX8_ask_31 : decode cX8_ask 31 = .ok (.iload 5, 2) := by decide +kernel
theorem dX8_ask_33 : decode cX8_ask 33 = .ok (.iload_n 2, 1) := by decide +kernel
theorem dX8_ask_34 : decode cX8_ask 34 = .ok (.invokevirtual 342, 3) := by decide +kernel
theorem dX8_ask_37 : decode cX8_ask 37 = .ok (.istore 6, 2) := by decide +kernel
theorem dX8_ask_39 : decode cX8_ask 39 = .ok (.iload 6, 2) := by decide +kernel
theorem dX8_ask_41 : decode cX8_ask 41 = .ok (.iload 4, 2) := by decide +kernel
theorem dX8_ask_43 : decode cX8_ask 43 = .ok (.if_icmp .le 10, 3) := by decide +kernel
theorem dX8_ask_46 : decode cX8_ask 46 = .ok (.iload 6, 2) := by decide +kernel
theorem dX8_ask_48 : decode cX8_ask 48 = .ok (.istore 4, 2) := by decide +kernel
theorem dX8_ask_50 : decode cX8_ask 50 = .ok (.iload 5, 2) := by decide +kernel
theorem dX8_ask_52 : decode cX8_ask 52 = .ok (.istore_n 3, 1) := by decide +kernel
theorem dX8_ask_53 : decode cX8_ask 53 = .ok (.iinc 5 1, 3) := by decide +kernel
theorem dX8_ask_56 : decode cX8_ask 56 = .ok (.goto (-38), 3) := by decide +kernel
theorem dX8_ask_59 : decode cX8_ask 59 = .ok (.iload_n 1, 1) := by decide +kernel
theorem dX8_ask_60 : decode cX8_ask 60 = .ok (.ifCond .ne 7, 3) := by decide +kernel
theorem dX8_ask_63 : decode cX8_ask 63 = .ok (.iload_n 3, 1) := by decide +kernel
theorem dX8_ask_64 : decode cX8_ask 64 = .ok (.goto 5, 3) := by decide +kernel
theorem dX8_ask_67 : decode cX8_ask 67 = .ok (.iload 4, 2) := by decide +kernel
theorem dX8_ask_69 : decode cX8_ask 69 = .ok (.ireturn, 1) := by decide +kernel
theorem dX8_supposeBorne_0 : decode cX8_supposeBorne 0 = .ok (.iload_n 1, 1) := by decide +kernel
theorem dX8_supposeBorne_1 : decode cX8_supposeBorne 1 = .ok (.bipush 9, 2) := by decide +kernel
theorem dX8_supposeBorne_3 : decode cX8_supposeBorne 3 = .ok (.idiv, 1) := by decide +kernel
theorem dX8_supposeBorne_4 : decode cX8_supposeBorne 4 = .ok (.istore_n 2, 1) := by decide +kernel
theorem dX8_supposeBorne_5 : decode cX8_supposeBorne 5 = .ok (.iload_n 1, 1) := by decide +kernel
theorem dX8_supposeBorne_6 : decode cX8_supposeBorne 6 = .ok (.bipush 9, 2) := by decide +kernel
theorem dX8_supposeBorne_8 : decode cX8_supposeBorne 8 = .ok (.irem, 1) := by decide +kernel
theorem dX8_supposeBorne_9 : decode cX8_supposeBorne 9 = .ok (.istore_n 3, 1) := by decide +kernel
theorem dX8_supposeBorne_10 : decode cX8_supposeBorne 10 = .ok (.iload_n 2, 1) := by decide +kernel
theorem dX8_supposeBorne_11 : decode cX8_supposeBorne 11 = .ok (.aload_n 0, 1) := by decide +kernel
theorem dX8_supposeBorne_12 : decode cX8_supposeBorne 12 = .ok (.getfield 23, 3) := by decide +kernel
theorem dX8_supposeBorne_15 : decode cX8_supposeBorne 15 = .ok (.getfield 134, 3) := by decide +kernel
theorem dX8_supposeBorne_18 : decode cX8_supposeBorne 18 = .ok (.if_icmp .ge 14, 3) := by decide +kernel
theorem dX8_supposeBorne_21 : decode cX8_supposeBorne 21 = .ok (.iload_n 3, 1) := by decide +kernel
theorem dX8_supposeBorne_22 : decode cX8_supposeBorne 22 = .ok (.aload_n 0, 1) := by decide +kernel
theorem dX8_supposeBorne_23 : decode cX8_supposeBorne 23 = .ok (.getfield 23, 3) := by decide +kernel
theorem dX8_supposeBorne_26 : decode cX8_supposeBorne 26 = .ok (.getfield 131, 3) := by decide +kernel
theorem dX8_supposeBorne_29 : decode cX8_supposeBorne 29 = .ok (.if_icmp .lt 5, 3) := by decide +kernel
theorem dX8_supposeBorne_32 : decode cX8_supposeBorne 32 = .ok (.iconst 0, 1) := by decide +kernel
theorem dX8_supposeBorne_33 : decode cX8_supposeBorne 33 = .ok (.ireturn, 1) := by decide +kernel
theorem dX8_supposeBorne_34 : decode cX8_supposeBorne 34 = .ok (.aload_n 0, 1) := by decide +kernel
theorem dX8_supposeBorne_35 : decode cX8_supposeBorne 35 = .ok (.getfield 44, 3) := by decide +kernel
theorem dX8_supposeBorne_38 : decode cX8_supposeBorne 38 = .ok (.getfield 254, 3) := by decide +kernel
theorem dX8_supposeBorne_41 : decode cX8_supposeBorne 41 = .ok (.iload_n 3, 1) := by decide +kernel
theorem dX8_supposeBorne_42 : decode cX8_supposeBorne 42 = .ok (.iaload, 1) := by decide +kernel
theorem dX8_supposeBorne_43 : decode cX8_supposeBorne 43 = .ok (.iconst (-1), 1) := by decide +kernel
theorem dX8_supposeBorne_44 : decode cX8_supposeBorne 44 = .ok (.if_icmp .eq 18, 3) := by decide +kernel
theorem dX8_supposeBorne_47 : decode cX8_supposeBorne 47 = .ok (.aload_n 0, 1) := by decide +kernel
theorem dX8_supposeBorne_48 : decode cX8_supposeBorne 48 = .ok (.getfield 44, 3) := by decide +kernel
theorem dX8_supposeBorne_51 : decode cX8_supposeBorne 51 = .ok (.getfield 254, 3) := by decide +kernel
theorem dX8_supposeBorne_54 : decode cX8_supposeBorne 54 = .ok (.iload_n 3, 1) := by decide +kernel
theorem dX8_supposeBorne_55 : decode cX8_supposeBorne 55 = .ok (.iaload, 1) := by decide +kernel
theorem dX8_supposeBorne_56 : decode cX8_supposeBorne 56 = .ok (.iconst 4, 1) := by decide +kernel
theorem dX8_supposeBorne_57 : decode cX8_supposeBorne 57 = .ok (.iload_n 2, 1) := by decide +kernel
theorem dX8_supposeBorne_58 : decode cX8_supposeBorne 58 = .ok (.iadd, 1) := by decide +kernel
theorem dX8_supposeBorne_59 : decode cX8_supposeBorne 59 = .ok (.if_icmp .ne 5, 3) := by decide +kernel
theorem dX8_supposeBorne_62 : decode cX8_supposeBorne 62 = .ok (.iconst 0, 1) := by decide +kernel
theorem dX8_supposeBorne_63 : decode cX8_supposeBorne 63 = .ok (.ireturn, 1) := by decide +kernel
theorem dX8_supposeBorne_64 : decode cX8_supposeBorne 64 = .ok (.aload_n 0, 1) := by decide +kernel
theorem dX8_supposeBorne_65 : decode cX8_supposeBorne 65 = .ok (.getfield 48, 3) := by decide +kernel
theorem dX8_supposeBorne_68 : decode cX8_supposeBorne 68 = .ok (.aload_n 0, 1) := by decide +kernel
theorem dX8_supposeBorne_69 : decode cX8_supposeBorne 69 = .ok (.getfield 44, 3) := by decide +kernel
theorem dX8_supposeBorne_72 : decode cX8_supposeBorne 72 = .ok (.invokevirtual 345, 3) := by decide +kernel
theorem dX8_supposeBorne_75 : decode cX8_supposeBorne 75 = .ok (.aload_n 0, 1) := by decide +kernel
theorem dX8_supposeBorne_76 : decode cX8_supposeBorne 76 = .ok (.getfield 48, 3) := by decide +kernel
theorem dX8_supposeBorne_79 : decode cX8_supposeBorne 79 = .ok (.getfield 254, 3) := by decide +kernel
theorem dX8_supposeBorne_82 : decode cX8_supposeBorne 82 = .ok (.iload_n 3, 1) := by decide +kernel
theorem dX8_supposeBorne_83 : decode cX8_supposeBorne 83 = .ok (.iconst 4, 1) := by decide +kernel
theorem dX8_supposeBorne_84 : decode cX8_supposeBorne 84 = .ok (.iload_n 2, 1) := by decide +kernel
theorem dX8_supposeBorne_85 : decode cX8_supposeBorne 85 = .ok (.iadd, 1) := by decide +kernel
theorem dX8_supposeBorne_86 : decode cX8_supposeBorne 86 = .ok (.iastore, 1) := by decide +kernel
theorem dX8_supposeBorne_87 : decode cX8_supposeBorne 87 = .ok (.iconst 1, 1) := by decide +kernel
theorem dX8_supposeBorne_88 : decode cX8_supposeBorne 88 = .ok (.ireturn, 1) := by decide +kernel
theorem dX8_gatherAnswers_0 : decode cX8_gatherAnswers 0 = .ok (.iconst 0, 1) := by decide +kernel
theorem dX8_gatherAnswers_1 : decode cX8_gatherAnswers 1 = .ok (.istore_n 1, 1) := by decide +kernel
theorem dX8_gatherAnswers_2 : decode cX8_gatherAnswers 2 = .ok (.iconst 0, 1) := by decide +kernel
theorem dX8_gatherAnswers_3 : decode cX8_gatherAnswers 3 = .ok (.istore_n 2, 1) := by decide +kernel
theorem dX8_gatherAnswers_4 : decode cX8_gatherAnswers 4 = .ok (.iload_n 2, 1) := by decide +kernel
theorem dX8_gatherAnswers_5 : decode cX8_gatherAnswers 5 = .ok (.bipush 54, 2) := by decide +kernel
theorem dX8_gatherAnswers_7 : decode cX8_gatherAnswers 7 = .ok (.if_icmp .ge 70, 3) := by decide +kernel
theorem dX8_gatherAnswers_10 : decode cX8_gatherAnswers 10 = .ok (.aload_n 0, 1) := by decide +kernel
theorem dX8_gatherAnswers_11 : decode cX8_gatherAnswers 11 = .ok (.iload_n 2, 1) := by decide +kernel
theorem dX8_gatherAnswers_12 : decode cX8_gatherAnswers 12 = .ok (.invokevirtual 335, 3) := by decide +kernel
theorem dX8_gatherAnswers_15 : decode cX8_gatherAnswers 15 = .ok (.ifCond .eq 56, 3) := by decide +kernel
theorem dX8_gatherAnswers_18 : decode cX8_gatherAnswers 18 = .ok (.aload_n 0, 1) := by decide +kernel
theorem dX8_gatherAnswers_19 : decode cX8_gatherAnswers 19 = .ok (.getfield 61, 3) := by decide +kernel
theorem dX8_gatherAnswers_22 : decode cX8_gatherAnswers 22 = .ok (.aload_n 0, 1) := by decide +kernel
theorem dX8_gatherAnswers_23 : decode cX8_gatherAnswers 23 = .ok (.getfield 48, 3) := by decide +kernel
theorem dX8_gatherAnswers_26 : decode cX8_gatherAnswers 26 = .ok (.invokevirtual 331, 3) := by decide +kernel
theorem dX8_gatherAnswers_29 : decode cX8_gatherAnswers 29 = .ok (.ifCond .eq 42, 3) := by decide +kernel
theorem dX8_gatherAnswers_32 : decode cX8_gatherAnswers 32 = .ok (.aload_n 0, 1) := by decide +kernel
theorem dX8_gatherAnswers_33 : decode cX8_gatherAnswers 33 = .ok (.iload_n 2, 1) := by decide +kernel
theorem dX8_gatherAnswers_34 : decode cX8_gatherAnswers 34 = .ok (.invokevirtual 335, 3) := by decide +kernel
theorem dX8_gatherAnswers_37 : decode cX8_gatherAnswers 37 = .ok (.pop, 1) := by decide +kernel
theorem dX8_gatherAnswers_38 : decode cX8_gatherAnswers 38 = .ok (.aload_n 0, 1) := by decide +kernel
theorem dX8_gatherAnswers_39 : decode cX8_gatherAnswers 39 = .ok (.getfield 48, 3) := by decide +kernel
theorem dX8_gatherAnswers_42 : decode cX8_gatherAnswers 42 = .ok (.bipush 6, 2) := by decide +kernel
theorem dX8_gatherAnswers_44 : decode cX8_gatherAnswers 44 = .ok (.invokevirtual 251, 3) := by decide +kernel
theorem dX8_gatherAnswers_47 : decode cX8_gatherAnswers 47 = .ok (.aload_n 0, 1) := by decide +kernel
theorem dX8_gatherAnswers_48 : decode cX8_gatherAnswers 48 = .ok (.getfield 48, 3) := by decide +kernel
theorem dX8_gatherAnswers_51 : decode cX8_gatherAnswers 51 = .ok (.getfield 200, 3) := by decide +kernel
theorem dX8_gatherAnswers_54 : decode cX8_gatherAnswers 54 = .ok (.iconst 0, 1) := by decide +kernel
theorem dX8_gatherAnswers_55 : decode cX8_gatherAnswers 55 = .ok (.aload_n 0, 1) := by decide +kernel
theorem dX8_gatherAnswers_56 : decode cX8_gatherAnswers 56 = .ok (.getfield 96, 3) := by decide +kernel
theorem dX8_gatherAnswers_59 : decode cX8_gatherAnswers 59 = .ok (.iload_n 1, 1) := by decide +kernel
theorem dX8_gatherAnswers_60 : decode cX8_gatherAnswers 60 = .ok (.bipush 6, 2) := by decide +kernel
theorem dX8_gatherAnswers_62 : decode cX8_gatherAnswers 62 = .ok (.imul, 1) := by decide +kernel
theorem dX8_gatherAnswers_63 : decode cX8_gatherAnswers 63 = .ok (.bipush 6, 2) := by decide +kernel
theorem dX8_gatherAnswers_65 : decode cX8_gatherAnswers 65 = .ok (.invokestatic 348, 3) := by decide +kernel
theorem dX8_gatherAnswers_68 : decode cX8_gatherAnswers 68 = .ok (.iinc 1 1, 3) := by decide +kernel
theorem dX8_gatherAnswers_71 : decode cX8_gatherAnswers 71 = .ok (.iinc 2 1, 3) := by decide +kernel
theorem dX8_gatherAnswers_74 : decode cX8_gatherAnswers 74 = .ok (.goto (-70), 3) := by decide +kernel
theorem dX8_gatherAnswers_77 : decode cX8_gatherAnswers 77 = .ok (.iload_n 1, 1) := by decide +kernel
theorem dX8_gatherAnswers_78 : decode cX8_gatherAnswers 78 = .ok (.ireturn, 1) := by decide +kernel
theorem dX8_unlikeAnswers_0 : decode cX8_unlikeAnswers 0 = .ok (.iconst 0, 1) := by decide +kernel
theorem dX8_unlikeAnswers_1 : decode cX8_unlikeAnswers 1 = .ok (.istore_n 3, 1) := by decide +kernel
theorem dX8_unlikeAnswers_2 : decode cX8_unlikeAnswers 2 = .ok (.iconst 0, 1) := by decide +kernel
theorem dX8_unlikeAnswers_3 : decode cX8_unlikeAnswers 3 = .ok (.istore 4, 2) := by decide +kernel
theorem dX8_unlikeAnswers_5 : decode cX8_unlikeAnswers 5 = .ok (.iload 4, 2) := by decide +kernel
theorem dX8_unlikeAnswers_7 : decode cX8_unlikeAnswers 7 = .ok (.iload_n 2, 1) := by decide +kernel
theorem dX8_unlikeAnswers_8 : decode cX8_unlikeAnswers 8 = .ok (.if_icmp .ge 75, 3) := by decide +kernel
theorem dX8_unlikeAnswers_11 : decode cX8_unlikeAnswers 11 = .ok (.iconst 1, 1) := by decide +kernel
theorem dX8_unlikeAnswers_12 : decode cX8_unlikeAnswers 12 = .ok (.istore 5, 2) := by decide +kernel
theorem dX8_unlikeAnswers_14 : decode cX8_unlikeAnswers 14 = .ok (.iconst 0, 1) := by decide +kernel
theorem dX8_unlikeAnswers_15 : decode cX8_unlikeAnswers 15 = .ok (.istore 6, 2) := by decide +kernel
theorem dX8_unlikeAnswers_17 : decode cX8_unlikeAnswers 17 = .ok (.iload 6, 2) := by decide +kernel
theorem dX8_unlikeAnswers_19 : decode cX8_unlikeAnswers 19 = .ok (.iload 4, 2) := by decide +kernel
theorem dX8_unlikeAnswers_21 : decode cX8_unlikeAnswers 21 = .ok (.if_icmp .ge 48, 3) := by decide +kernel
theorem dX8_unlikeAnswers_24 : decode cX8_unlikeAnswers 24 = .ok (.iload 5, 2) := by decide +kernel
theorem dX8_unlikeAnswers_26 : decode cX8_unlikeAnswers 26 = .ok (.ifCond .eq 43, 3) := by decide +kernel
theorem dX8_unlikeAnswers_29 : decode cX8_unlikeAnswers 29 = .ok (.aload_n 0, 1) := by decide +kernel
theorem dX8_unlikeAnswers_30 : decode cX8_unlikeAnswers 30 = .ok (.getfield 96, 3) := by decide +kernel
theorem dX8_unlikeAnswers_33 : decode cX8_unlikeAnswers 33 = .ok (.iload 6, 2) := by decide +kernel
theorem dX8_unlikeAnswers_35 : decode cX8_unlikeAnswers 35 = .ok (.bipush 6, 2) := by decide +kernel
theorem dX8_unlikeAnswers_37 : decode cX8_unlikeAnswers 37 = .ok (.imul, 1) := by decide +kernel
theorem dX8_unlikeAnswers_38 : decode cX8_unlikeAnswers 38 = .ok (.iload_n 1, 1) := by decide +kernel
theorem dX8_unlikeAnswers_39 : decode cX8_unlikeAnswers 39 = .ok (.iadd, 1) := by decide +kernel
theorem dX8_unlikeAnswers_40 : decode cX8_unlikeAnswers 40 = .ok (.iaload, 1) := by decide +kernel
theorem dX8_unlikeAnswers_41 : decode cX8_unlikeAnswers 41 = .ok (.aload_n 0, 1) := by decide +kernel
theorem dX8_unlikeAnswers_42 : decode cX8_unlikeAnswers 42 = .ok (.getfield 96, 3) := by decide +kernel
theorem dX8_unlikeAnswers_45 : decode cX8_unlikeAnswers 45 = .ok (.iload 4, 2) := by decide +kernel
theorem dX8_unlikeAnswers_47 : decode cX8_unlikeAnswers 47 = .ok (.bipush 6, 2) := by decide +kernel
theorem dX8_unlikeAnswers_49 : decode cX8_unlikeAnswers 49 = .ok (.imul, 1) := by decide +kernel
theorem dX8_unlikeAnswers_50 : decode cX8_unlikeAnswers 50 = .ok (.iload_n 1, 1) := by decide +kernel
theorem dX8_unlikeAnswers_51 : decode cX8_unlikeAnswers 51 = .ok (.iadd, 1) := by decide +kernel
theorem dX8_unlikeAnswers_52 : decode cX8_unlikeAnswers 52 = .ok (.iaload, 1) := by decide +kernel
theorem dX8_unlikeAnswers_53 : decode cX8_unlikeAnswers 53 = .ok (.if_icmp .eq 7, 3) := by decide +kernel
theorem dX8_unlikeAnswers_56 : decode cX8_unlikeAnswers 56 = .ok (.iconst 1, 1) := by decide +kernel
theorem dX8_unlikeAnswers_57 : decode cX8_unlikeAnswers 57 = .ok (.goto 4, 3) := by decide +kernel
theorem dX8_unlikeAnswers_60 : decode cX8_unlikeAnswers 60 = .ok (.iconst 0, 1) := by decide +kernel
theorem dX8_unlikeAnswers_61 : decode cX8_unlikeAnswers 61 = .ok (.istore 5, 2) := by decide +kernel
theorem dX8_unlikeAnswers_63 : decode cX8_unlikeAnswers 63 = .ok (.iinc 6 1, 3) := by decide +kernel
theorem dX8_unlikeAnswers_66 : decode cX8_unlikeAnswers 66 = .ok (.goto (-49), 3) := by decide +kernel
theorem dX8_unlikeAnswers_69 : decode cX8_unlikeAnswers 69 = .ok (.iload 5, 2) := by decide +kernel
theorem dX8_unlikeAnswers_71 : decode cX8_unlikeAnswers 71 = .ok (.ifCond .eq 6, 3) := by decide +kernel
theorem dX8_unlikeAnswers_74 : decode cX8_unlikeAnswers 74 = .ok (.iinc 3 1, 3) := by decide +kernel
theorem dX8_unlikeAnswers_77 : decode cX8_unlikeAnswers 77 = .ok (.iinc 4 1, 3) := by decide +kernel
theorem dX8_unlikeAnswers_80 : decode cX8_unlikeAnswers 80 = .ok (.goto (-75), 3) := by decide +kernel
theorem dX8_unlikeAnswers_83 : decode cX8_unlikeAnswers 83 = .ok (.iload_n 3, 1) := by decide +kernel
theorem dX8_unlikeAnswers_84 : decode cX8_unlikeAnswers 84 = .ok (.ireturn, 1) := by decide +kernel
theorem dX8_fires_0 : decode cX8_fires 0 = .ok (.aload_n 0, 1) := by decide +kernel
theorem dX8_fires_1 : decode cX8_fires 1 = .ok (.iload_n 1, 1) := by decide +kernel
theorem dX8_fires_2 : decode cX8_fires 2 = .ok (.invokevirtual 211, 3) := by decide +kernel
theorem dX8_fires_5 : decode cX8_fires 5 = .ok (.iload_n 2, 1) := by decide +kernel
theorem dX8_fires_6 : decode cX8_fires 6 = .ok (.iconst 0, 1) := by decide +kernel
theorem dX8_fires_7 : decode cX8_fires 7 = .ok (.bipush 10, 2) := by decide +kernel
theorem dX8_fires_9 : decode cX8_fires 9 = .ok (.invokestatic 267, 3) := by decide +kernel
theorem dX8_fires_12 : decode cX8_fires 12 = .ok (.aload_n 0, 1) := by decide +kernel
theorem dX8_fires_13 : decode cX8_fires 13 = .ok (.getfield 44, 3) := by decide +kernel
theorem dX8_fires_16 : decode cX8_fires 16 = .ok (.getfield 254, 3) := by decide +kernel
theorem dX8_fires_19 : decode cX8_fires 19 = .ok (.aload_n 0, 1) := by decide +kernel
theorem dX8_fires_20 : decode cX8_fires 20 = .ok (.getfield 23, 3) := by decide +kernel
theorem dX8_fires_23 : decode cX8_fires 23 = .ok (.getfield 214, 3) := by decide +kernel
theorem dX8_fires_26 : decode cX8_fires 26 = .ok (.iload_n 1, 1) := by decide +kernel
theorem dX8_fires_27 : decode cX8_fires 27 = .ok (.iaload, 1) := by decide +kernel
theorem dX8_fires_28 : decode cX8_fires 28 = .ok (.iaload, 1) := by decide +kernel
theorem dX8_fires_29 : decode cX8_fires 29 = .ok (.istore_n 3, 1) := by decide +kernel
theorem dX8_fires_30 : decode cX8_fires 30 = .ok (.aload_n 0, 1) := by decide +kernel
theorem dX8_fires_31 : decode cX8_fires 31 = .ok (.getfield 44, 3) := by decide +kernel
theorem dX8_fires_34 : decode cX8_fires 34 = .ok (.getfield 254, 3) := by decide +kernel
theorem dX8_fires_37 : decode cX8_fires 37 = .ok (.aload_n 0, 1) := by decide +kernel
theorem dX8_fires_38 : decode cX8_fires 38 = .ok (.getfield 23, 3) := by decide +kernel
theorem dX8_fires_41 : decode cX8_fires 41 = .ok (.getfield 217, 3) := by decide +kernel
theorem dX8_fires_44 : decode cX8_fires 44 = .ok (.iload_n 1, 1) := by decide +kernel
theorem dX8_fires_45 : decode cX8_fires 45 = .ok (.iaload, 1) := by decide +kernel
theorem dX8_fires_46 : decode cX8_fires 46 = .ok (.iaload, 1) := by decide +kernel
theorem dX8_fires_47 : decode cX8_fires 47 = .ok (.istore 4, 2) := by decide +kernel
theorem dX8_fires_49 : decode cX8_fires 49 = .ok (.iload_n 3, 1) := by decide +kernel
theorem dX8_fires_50 : decode cX8_fires 50 = .ok (.iconst (-1), 1) := by decide +kernel
theorem dX8_fires_51 : decode cX8_fires 51 = .ok (.if_icmp .eq 9, 3) := by decide +kernel
theorem dX8_fires_54 : decode cX8_fires 54 = .ok (.iload 4, 2) := by decide +kernel
theorem dX8_fires_56 : decode cX8_fires 56 = .ok (.iconst (-1), 1) := by decide +kernel
theorem dX8_fires_57 : decode cX8_fires 57 = .ok (.if_icmp .ne 5, 3) := by decide +kernel
theorem dX8_fires_60 : decode cX8_fires 60 = .ok (.iconst (-1), 1) := by decide +kernel
theorem dX8_fires_61 : decode cX8_fires 61 = .ok (.ireturn, 1) := by decide +kernel
theorem dX8_fires_62 : decode cX8_fires 62 = .ok (.bipush 10, 2) := by decide +kernel
theorem dX8_fires_64 : decode cX8_fires 64 = .ok (.iload_n 2, 1) := by decide +kernel
theorem dX8_fires_65 : decode cX8_fires 65 = .ok (.isub, 1) := by decide +kernel
theorem dX8_fires_66 : decode cX8_fires 66 = .ok (.istore 5, 2) := by decide +kernel
theorem dX8_fires_68 : decode cX8_fires 68 = .ok (.bipush 100, 2) := by decide +kernel
theorem dX8_fires_70 : decode cX8_fires 70 = .ok (.istore 6, 2) := by decide +kernel
theorem dX8_fires_72 : decode cX8_fires 72 = .ok (.iload_n 3, 1) := by decide +kernel
theorem dX8_fires_73 : decode cX8_fires 73 = .ok (.iconst 4, 1) := by decide +kernel
theorem dX8_fires_74 : decode cX8_fires 74 = .ok (.if_icmp .ge 13, 3) := by decide +kernel
theorem dX8_fires_77 : decode cX8_fires 77 = .ok (.iload 6, 2) := by decide +kernel
theorem dX8_fires_79 : decode cX8_fires 79 = .ok (.iload 5, 2) := by decide +kernel
theorem dX8_fires_81 : decode cX8_fires 81 = .ok (.imul, 1) := by decide +kernel
theorem dX8_fires_82 : decode cX8_fires 82 = .ok (.bipush 10, 2) := by decide +kernel
theorem dX8_fires_84 : decode cX8_fires 84 = .ok (.idiv, 1) := by decide +kernel
theorem dX8_fires_85 : decode cX8_fires 85 = .ok (.istore 6, 2) := by decide +kernel
theorem dX8_fires_87 : decode cX8_fires 87 = .ok (.iload 4, 2) := by decide +kernel
theorem dX8_fires_89 : decode cX8_fires 89 = .ok (.iconst 4, 1) := by decide +kernel
theorem dX8_fires_90 : decode cX8_fires 90 = .ok (.if_icmp .ge 19, 3) := by decide +kernel
theorem dX8_fires_93 : decode cX8_fires 93 = .ok (.iload 4, 2) := by decide +kernel
theorem dX8_fires_95 : decode cX8_fires 95 = .ok (.iload_n 3, 1) := by decide +kernel
theorem dX8_fires_96 : decode cX8_fires 96 = .ok (.if_icmp .eq 13, 3) := by decide +kernel
theorem dX8_fires_99 : decode cX8_fires 99 = .ok (.iload 6, 2) := by decide +kernel
theorem dX8_fires_101 : decode cX8_fires 101 = .ok (.iload 5, 2) := by decide +kernel
theorem dX8_fires_103 : decode cX8_fires 103 = .ok (.imul, 1) := by decide +kernel
theorem dX8_fires_104 : decode cX8_fires 104 = .ok (.bipush 10, 2) := by decide +kernel
theorem dX8_fires_106 : decode cX8_fires 106 = .ok (.idiv, 1) := by decide +kernel
theorem dX8_fires_107 : decode cX8_fires 107 = .ok (.istore 6, 2) := by decide +kernel
theorem dX8_fires_109 : decode cX8_fires 109 = .ok (.bipush 100, 2) := by decide +kernel
theorem dX8_fires_111 : decode cX8_fires 111 = .ok (.iload 6, 2) := by decide +kernel
theorem dX8_fires_113 : decode cX8_fires 113 = .ok (.isub, 1) := by decide +kernel
theorem dX8_fires_114 : decode cX8_fires 114 = .ok (.bipush 100, 2) := by decide +kernel
theorem dX8_fires_116 : decode cX8_fires 116 = .ok (.imul, 1) := by decide +kernel
theorem dX8_fires_117 : decode cX8_fires 117 = .ok (.ireturn, 1) := by decide +kernel
theorem dX8_game_0 : decode cX8_game 0 = .ok (.aload_n 0, 1) := by decide +kernel
theorem dX8_game_1 : decode cX8_game 1 = .ok (.iload_n 1, 1) := by decide +kernel
theorem dX8_game_2 : decode cX8_game 2 = .ok (.invokevirtual 194, 3) := by decide +kernel
theorem dX8_game_5 : decode cX8_game 5 = .ok (.aload_n 0, 1) := by decide +kernel
theorem dX8_game_6 : decode cX8_game 6 = .ok (.iload_n 2, 1) := by decide +kernel
theorem dX8_game_7 : decode cX8_game 7 = .ok (.invokevirtual 194, 3) := by decide +kernel
theorem dX8_game_10 : decode cX8_game 10 = .ok (.iload_n 3, 1) := by decide +kernel
theorem dX8_game_11 : decode cX8_game 11 = .ok (.iconst 2, 1) := by decide +kernel
theorem dX8_game_12 : decode cX8_game 12 = .ok (.invokestatic 257, 3) := by decide +kernel
theorem dX8_game_15 : decode cX8_game 15 = .ok (.iload_n 1, 1) := by decide +kernel
theorem dX8_game_16 : decode cX8_game 16 = .ok (.iload_n 2, 1) := by decide +kernel
theorem dX8_game_17 : decode cX8_game 17 = .ok (.if_icmp .ne 14, 3) := by decide +kernel
theorem dX8_game_20 : decode cX8_game 20 = .ok (.new 103, 3) := by decide +kernel
theorem dX8_game_23 : decode cX8_game 23 = .ok (.dup, 1) := by decide +kernel
theorem dX8_game_24 : decode cX8_game 24 = .ok (.ldc_w 354, 3) := by decide +kernel
theorem dX8_game_27 : decode cX8_game 27 = .ok (.invokespecial 107, 3) := by decide +kernel
theorem dX8_game_30 : decode cX8_game 30 = .ok (.athrow, 1) := by decide +kernel
theorem dX8_game_31 : decode cX8_game 31 = .ok (.iconst 0, 1) := by decide +kernel
theorem dX8_game_32 : decode cX8_game 32 = .ok (.istore 4, 2) := by decide +kernel
theorem dX8_game_34 : decode cX8_game 34 = .ok (.iconst (-1), 1) := by decide +kernel
theorem dX8_game_35 : decode cX8_game 35 = .ok (.istore 5, 2) := by decide +kernel
theorem dX8_game_37 : decode cX8_game 37 = .ok (.iconst 0, 1) := by decide +kernel
theorem dX8_game_38 : decode cX8_game 38 = .ok (.istore 6, 2) := by decide +kernel
theorem dX8_game_40 : decode cX8_game 40 = .ok (.iload 6, 2) := by decide +kernel
theorem dX8_game_42 : decode cX8_game 42 = .ok (.iconst 4, 1) := by decide +kernel
theorem dX8_game_43 : decode cX8_game 43 = .ok (.if_icmp .ge 65, 3) := by decide +kernel
theorem dX8_game_46 : decode cX8_game 46 = .ok (.iload 6, 2) := by decide +kernel
theorem dX8_game_48 : decode cX8_game 48 = .ok (.iconst 2, 1) := by decide +kernel
theorem dX8_game_49 : decode cX8_game 49 = .ok (.idiv, 1) := by decide +kernel
theorem dX8_game_50 : decode cX8_game 50 = .ok (.istore 7, 2) := by decide +kernel
theorem dX8_game_52 : decode cX8_game 52 = .ok (.iload 6, 2) := by decide +kernel
theorem dX8_game_54 : decode cX8_game 54 = .ok (.iconst 2, 1) := by decide +kernel
theorem dX8_game_55 : decode cX8_game 55 = .ok (.irem, 1) := by decide +kernel
theorem dX8_game_56 : decode cX8_game 56 = .ok (.istore 8, 2) := by decide +kernel
theorem dX8_game_58 : decode cX8_game 58 = .ok (.aload_n 0, 1) := by decide +kernel
theorem dX8_game_59 : decode cX8_game 59 = .ok (.iload_n 1, 1) := by decide +kernel
theorem dX8_game_60 : decode cX8_game 60 = .ok (.iload_n 2, 1) := by decide +kernel
theorem dX8_game_61 : decode cX8_game 61 = .ok (.iload 7, 2) := by decide +kernel
theorem dX8_game_63 : decode cX8_game 63 = .ok (.iload 8, 2) := by decide +kernel
theorem dX8_game_65 : decode cX8_game 65 = .ok (.invokevirtual 356, 3) := by decide +kernel
theorem dX8_game_68 : decode cX8_game 68 = .ok (.ifCond .eq 34, 3) := by decide +kernel
theorem dX8_game_71 : decode cX8_game 71 = .ok (.aload_n 0, 1) := by decide +kernel
theorem dX8_game_72 : decode cX8_game 72 = .ok (.iload_n 2, 1) := by decide +kernel
theorem dX8_game_73 : decode cX8_game 73 = .ok (.iload_n 1, 1) := by decide +kernel
theorem dX8_game_74 : decode cX8_game 74 = .ok (.iload 8, 2) := by decide +kernel
theorem dX8_game_76 : decode cX8_game 76 = .ok (.iload 7, 2) := by decide +kernel
theorem dX8_game_78 : decode cX8_game 78 = .ok (.invokevirtual 356, 3) := by decide +kernel
theorem dX8_game_81 : decode cX8_game 81 = .ok (.ifCond .eq 21, 3) := by decide +kernel
theorem dX8_game_84 : decode cX8_game 84 = .ok (.iload 4, 2) := by decide +kernel
theorem dX8_game_86 : decode cX8_game 86 = .ok (.ifCond .ne 13, 3) := by decide +kernel
theorem dX8_game_89 : decode cX8_game 89 = .ok (.iload 7, 2) := by decide +kernel
theorem dX8_game_91 : decode cX8_game 91 = .ok (.bipush 10, 2) := by decide +kernel
theorem dX8_game_93 : decode cX8_game 93 = .ok (.imul, 1) := by decide +kernel
theorem dX8_game_94 : decode cX8_game 94 = .ok (.iload 8, 2) := by decide +kernel
theorem dX8_game_96 : decode cX8_game 96 = .ok (.iadd, 1) := by decide +kernel
theorem dX8_game_97 : decode cX8_game 97 = .ok (.istore 5, 2) := by decide +kernel
theorem dX8_game_99 : decode cX8_game 99 = .ok (.iinc 4 1, 3) := by decide +kernel
theorem dX8_game_102 : decode cX8_game 102 = .ok (.iinc 6 1, 3) := by decide +kernel
theorem dX8_game_105 : decode cX8_game 105 = .ok (.goto (-65), 3) := by decide +kernel
theorem dX8_game_108 : decode cX8_game 108 = .ok (.iload_n 3, 1) := by decide +kernel
theorem dX8_game_109 : decode cX8_game 109 = .ok (.ifCond .ne 8, 3) := by decide +kernel
theorem dX8_game_112 : decode cX8_game 112 = .ok (.iload 4, 2) := by decide +kernel
theorem dX8_game_114 : decode cX8_game 114 = .ok (.goto 5, 3) := by decide +kernel
theorem dX8_game_117 : decode cX8_game 117 = .ok (.iload 5, 2) := by decide +kernel
theorem dX8_game_119 : decode cX8_game 119 = .ok (.ireturn, 1) := by decide +kernel
theorem dX8_isBest_0 : decode cX8_isBest 0 = .ok (.aload_n 0, 1) := by decide +kernel
theorem dX8_isBest_1 : decode cX8_isBest 1 = .ok (.iload_n 1, 1) := by decide +kernel
theorem dX8_isBest_2 : decode cX8_isBest 2 = .ok (.iload_n 2, 1) := by decide +kernel
theorem dX8_isBest_3 : decode cX8_isBest 3 = .ok (.iload_n 3, 1) := by decide +kernel
theorem dX8_isBest_4 : decode cX8_isBest 4 = .ok (.iload 4, 2) := by decide +kernel
theorem dX8_isBest_6 : decode cX8_isBest 6 = .ok (.invokevirtual 360, 3) := by decide +kernel
theorem dX8_isBest_9 : decode cX8_isBest 9 = .ok (.aload_n 0, 1) := by decide +kernel
theorem dX8_isBest_10 : decode cX8_isBest 10 = .ok (.iload_n 1, 1) := by decide +kernel
theorem dX8_isBest_11 : decode cX8_isBest 11 = .ok (.iload_n 2, 1) := by decide +kernel
theorem dX8_isBest_12 : decode cX8_isBest 12 = .ok (.iconst 1, 1) := by decide +kernel
theorem dX8_isBest_13 : decode cX8_isBest 13 = .ok (.iload_n 3, 1) := by decide +kernel
theorem dX8_isBest_14 : decode cX8_isBest 14 = .ok (.isub, 1) := by decide +kernel
theorem dX8_isBest_15 : decode cX8_isBest 15 = .ok (.iload 4, 2) := by decide +kernel
theorem dX8_isBest_17 : decode cX8_isBest 17 = .ok (.invokevirtual 360, 3) := by decide +kernel
theorem dX8_isBest_20 : decode cX8_isBest 20 = .ok (.if_icmp .lt 7, 3) := by decide +kernel
theorem dX8_isBest_23 : decode cX8_isBest 23 = .ok (.iconst 1, 1) := by decide +kernel
theorem dX8_isBest_24 : decode cX8_isBest 24 = .ok (.goto 4, 3) := by decide +kernel
theorem dX8_isBest_27 : decode cX8_isBest 27 = .ok (.iconst 0, 1) := by decide +kernel
theorem dX8_isBest_28 : decode cX8_isBest 28 = .ok (.ireturn, 1) := by decide +kernel
theorem dX8_gain_0 : decode cX8_gain 0 = .ok (.aload_n 0, 1) := by decide +kernel
theorem dX8_gain_1 : decode cX8_gain 1 = .ok (.getfield 44, 3) := by decide +kernel
theorem dX8_gain_4 : decode cX8_gain 4 = .ok (.iload_n 1, 1) := by decide +kernel
theorem dX8_gain_5 : decode cX8_gain 5 = .ok (.invokevirtual 203, 3) := by decide +kernel
theorem dX8_gain_8 : decode cX8_gain 8 = .ok (.istore 5, 2) := by decide +kernel
theorem dX8_gain_10 : decode cX8_gain 10 = .ok (.aload_n 0, 1) := by decide +kernel
theorem dX8_gain_11 : decode cX8_gain 11 = .ok (.getfield 44, 3) := by decide +kernel
theorem dX8_gain_14 : decode cX8_gain 14 = .ok (.iload_n 2, 1) := by decide +kernel
theorem dX8_gain_15 : decode cX8_gain 15 = .ok (.invokevirtual 203, 3) := by decide +kernel
theorem dX8_gain_18 : decode cX8_gain 18 = .ok (.istore 6, 2) := by decide +kernel
theorem dX8_gain_20 : decode cX8_gain 20 = .ok (.iload 4, 2) := by decide +kernel
theorem dX8_gain_22 : decode cX8_gain 22 = .ok (.iconst 1, 1) := by decide +kernel
theorem dX8_gain_23 : decode cX8_gain 23 = .ok (.if_icmp .ne 11, 3) := by decide +kernel
theorem dX8_gain_26 : decode cX8_gain 26 = .ok (.iload 5, 2) := by decide +kernel
theorem dX8_gain_28 : decode cX8_gain 28 = .ok (.iload 6, 2) := by decide +kernel
theorem dX8_gain_30 : decode cX8_gain 30 = .ok (.ior, 1) := by decide +kernel
theorem dX8_gain_31 : decode cX8_gain 31 = .ok (.goto 5, 3) := by decide +kernel
theorem dX8_gain_34 : decode cX8_gain 34 = .ok (.iload 5, 2) := by decide +kernel
theorem dX8_gain_36 : decode cX8_gain 36 = .ok (.istore 7, 2) := by decide +kernel
theorem dX8_gain_38 : decode cX8_gain 38 = .ok (.iload_n 3, 1) := by decide +kernel
theorem dX8_gain_39 : decode cX8_gain 39 = .ok (.iconst 1, 1) := by decide +kernel
theorem dX8_gain_40 : decode cX8_gain 40 = .ok (.if_icmp .ne 11, 3) := by decide +kernel
theorem dX8_gain_43 : decode cX8_gain 43 = .ok (.iload 5, 2) := by decide +kernel
theorem dX8_gain_45 : decode cX8_gain 45 = .ok (.iload 6, 2) := by decide +kernel
theorem dX8_gain_47 : decode cX8_gain 47 = .ok (.ior, 1) := by decide +kernel
theorem dX8_gain_48 : decode cX8_gain 48 = .ok (.goto 5, 3) := by decide +kernel
theorem dX8_gain_51 : decode cX8_gain 51 = .ok (.iload 6, 2) := by decide +kernel
theorem dX8_gain_53 : decode cX8_gain 53 = .ok (.istore 8, 2) := by decide +kernel
theorem dX8_gain_55 : decode cX8_gain 55 = .ok (.aload_n 0, 1) := by decide +kernel
theorem dX8_gain_56 : decode cX8_gain 56 = .ok (.getfield 44, 3) := by decide +kernel
theorem dX8_gain_59 : decode cX8_gain 59 = .ok (.iload 7, 2) := by decide +kernel
theorem dX8_gain_61 : decode cX8_gain 61 = .ok (.invokevirtual 240, 3) := by decide +kernel
theorem dX8_gain_64 : decode cX8_gain 64 = .ok (.aload_n 0, 1) := by decide +kernel
theorem dX8_gain_65 : decode cX8_gain 65 = .ok (.getfield 44, 3) := by decide +kernel
theorem dX8_gain_68 : decode cX8_gain 68 = .ok (.getfield 200, 3) := by decide +kernel
theorem dX8_gain_71 : decode cX8_gain 71 = .ok (.iload_n 1, 1) := by decide +kernel
theorem dX8_gain_72 : decode cX8_gain 72 = .ok (.iaload, 1) := by decide +kernel
theorem dX8_gain_73 : decode cX8_gain 73 = .ok (.iconst (-1), 1) := by decide +kernel
theorem dX8_gain_74 : decode cX8_gain 74 = .ok (.ixor, 1) := by decide +kernel
theorem dX8_gain_75 : decode cX8_gain 75 = .ok (.iand, 1) := by decide +kernel
theorem dX8_gain_76 : decode cX8_gain 76 = .ok (.istore 9, 2) := by decide +kernel
theorem dX8_gain_78 : decode cX8_gain 78 = .ok (.aload_n 0, 1) := by decide +kernel
theorem dX8_gain_79 : decode cX8_gain 79 = .ok (.getfield 44, 3) := by decide +kernel
theorem dX8_gain_82 : decode cX8_gain 82 = .ok (.iload 8, 2) := by decide +kernel
theorem dX8_gain_84 : decode cX8_gain 84 = .ok (.invokevirtual 240, 3) := by decide +kernel
theorem dX8_gain_87 : decode cX8_gain 87 = .ok (.aload_n 0, 1) := by decide +kernel
theorem dX8_gain_88 : decode cX8_gain 88 = .ok (.getfield 44, 3) := by decide +kernel
theorem dX8_gain_91 : decode cX8_gain 91 = .ok (.getfield 200, 3) := by decide +kernel
theorem dX8_gain_94 : decode cX8_gain 94 = .ok (.iload_n 2, 1) := by decide +kernel
theorem dX8_gain_95 : decode cX8_gain 95 = .ok (.iaload, 1) := by decide +kernel
theorem dX8_gain_96 : decode cX8_gain 96 = .ok (.iconst (-1), 1) := by decide +kernel
theorem dX8_gain_97 : decode cX8_gain 97 = .ok (.ixor, 1) := by decide +kernel
theorem dX8_gain_98 : decode cX8_gain 98 = .ok (.iand, 1) := by decide +kernel
theorem dX8_gain_99 : decode cX8_gain 99 = .ok (.istore 10, 2) := by decide +kernel
theorem dX8_gain_101 : decode cX8_gain 101 = .ok (.iconst 3, 1) := by decide +kernel
theorem dX8_gain_102 : decode cX8_gain 102 = .ok (.iload 9, 2) := by decide +kernel
theorem dX8_gain_104 : decode cX8_gain 104 = .ok (.invokestatic 284, 3) := by decide +kernel
theorem dX8_gain_107 : decode cX8_gain 107 = .ok (.imul, 1) := by decide +kernel
theorem dX8_gain_108 : decode cX8_gain 108 = .ok (.iconst 2, 1) := by decide +kernel
theorem dX8_gain_109 : decode cX8_gain 109 = .ok (.iload 10, 2) := by decide +kernel
theorem dX8_gain_111 : decode cX8_gain 111 = .ok (.invokestatic 284, 3) := by decide +kernel
theorem dX8_gain_114 : decode cX8_gain 114 = .ok (.imul, 1) := by decide +kernel
theorem dX8_gain_115 : decode cX8_gain 115 = .ok (.isub, 1) := by decide +kernel
theorem dX8_gain_116 : decode cX8_gain 116 = .ok (.ireturn, 1) := by decide +kernel
theorem dX8_years_0 : decode cX8_years 0 = .ok (.iload_n 3, 1) := by decide +kernel
theorem dX8_years_1 : decode cX8_years 1 = .ok (.iconst 3, 1) := by decide +kernel
theorem dX8_years_2 : decode cX8_years 2 = .ok (.invokestatic 257, 3) := by decide +kernel
theorem dX8_years_5 : decode cX8_years 5 = .ok (.iload_n 2, 1) := by decide +kernel
theorem dX8_years_6 : decode cX8_years 6 = .ok (.iconst 0, 1) := by decide +kernel
theorem dX8_years_7 : decode cX8_years 7 = .ok (.bipush 40, 2) := by decide +kernel
theorem dX8_years_9 : decode cX8_years 9 = .ok (.invokestatic 267, 3) := by decide +kernel
theorem dX8_years_12 : decode cX8_years 12 = .ok (.aload_n 0, 1) := by decide +kernel
theorem dX8_years_13 : decode cX8_years 13 = .ok (.iconst 0, 1) := by decide +kernel
theorem dX8_years_14 : decode cX8_years 14 = .ok (.invokevirtual 271, 3) := by decide +kernel
theorem dX8_years_17 : decode cX8_years 17 = .ok (.aload_n 0, 1) := by decide +kernel
theorem dX8_years_18 : decode cX8_years 18 = .ok (.getfield 88, 3) := by decide +kernel
theorem dX8_years_21 : decode cX8_years 21 = .ok (.iload_n 1, 1) := by decide +kernel
theorem dX8_years_22 : decode cX8_years 22 = .ok (.putfield 364, 3) := by decide +kernel
theorem dX8_years_25 : decode cX8_years 25 = .ok (.iconst 0, 1) := by decide +kernel
theorem dX8_years_26 : decode cX8_years 26 = .ok (.istore 4, 2) := by decide +kernel
theorem dX8_years_28 : decode cX8_years 28 = .ok (.iload 4, 2) := by decide +kernel
theorem dX8_years_30 : decode cX8_years 30 = .ok (.iload_n 2, 1) := by decide +kernel
theorem dX8_years_31 : decode cX8_years 31 = .ok (.if_icmp .ge 21, 3) := by decide +kernel
theorem dX8_years_34 : decode cX8_years 34 = .ok (.aload_n 0, 1) := by decide +kernel
theorem dX8_years_35 : decode cX8_years 35 = .ok (.invokevirtual 367, 3) := by decide +kernel
theorem dX8_years_38 : decode cX8_years 38 = .ok (.aload_n 0, 1) := by decide +kernel
theorem dX8_years_39 : decode cX8_years 39 = .ok (.getfield 48, 3) := by decide +kernel
theorem dX8_years_42 : decode cX8_years 42 = .ok (.invokevirtual 278, 3) := by decide +kernel
theorem dX8_years_45 : decode cX8_years 45 = .ok (.pop, 1) := by decide +kernel
theorem dX8_years_46 : decode cX8_years 46 = .ok (.iinc 4 1, 3) := by decide +kernel
theorem dX8_years_49 : decode cX8_years 49 = .ok (.goto (-21), 3) := by decide +kernel
theorem dX8_years_52 : decode cX8_years 52 = .ok (.iload_n 3, 1) := by decide +kernel
theorem dX8_years_53 : decode cX8_years 53 = .ok (.ifCond .ne 14, 3) := by decide +kernel
theorem dX8_years_56 : decode cX8_years 56 = .ok (.aload_n 0, 1) := by decide +kernel
theorem dX8_years_57 : decode cX8_years 57 = .ok (.getfield 48, 3) := by decide +kernel
theorem dX8_years_60 : decode cX8_years 60 = .ok (.invokevirtual 153, 3) := by decide +kernel
theorem dX8_years_63 : decode cX8_years 63 = .ok (.invokestatic 284, 3) := by decide +kernel
theorem dX8_years_66 : decode cX8_years 66 = .ok (.ireturn, 1) := by decide +kernel
theorem dX8_years_67 : decode cX8_years 67 = .ok (.iload_n 3, 1) := by decide +kernel
theorem dX8_years_68 : decode cX8_years 68 = .ok (.iconst 1, 1) := by decide +kernel
theorem dX8_years_69 : decode cX8_years 69 = .ok (.if_icmp .ne 22, 3) := by decide +kernel
theorem dX8_years_72 : decode cX8_years 72 = .ok (.aload_n 0, 1) := by decide +kernel
theorem dX8_years_73 : decode cX8_years 73 = .ok (.getfield 23, 3) := by decide +kernel
theorem dX8_years_76 : decode cX8_years 76 = .ok (.getfield 131, 3) := by decide +kernel
theorem dX8_years_79 : decode cX8_years 79 = .ok (.aload_n 0, 1) := by decide +kernel
theorem dX8_years_80 : decode cX8_years 80 = .ok (.getfield 48, 3) := by decide +kernel
theorem dX8_years_83 : decode cX8_years 83 = .ok (.invokevirtual 146, 3) := by decide +kernel
theorem dX8_years_86 : decode cX8_years 86 = .ok (.invokestatic 284, 3) := by decide +kernel
theorem dX8_years_89 : decode cX8_years 89 = .ok (.isub, 1) := by decide +kernel
theorem dX8_years_90 : decode cX8_years 90 = .ok (.ireturn, 1) := by decide +kernel
theorem dX8_years_91 : decode cX8_years 91 = .ok (.aload_n 0, 1) := by decide +kernel
theorem dX8_years_92 : decode cX8_years 92 = .ok (.getfield 48, 3) := by decide +kernel
theorem dX8_years_95 : decode cX8_years 95 = .ok (.invokevirtual 150, 3) := by decide +kernel
theorem dX8_years_98 : decode cX8_years 98 = .ok (.invokestatic 284, 3) := by decide +kernel
theorem dX8_years_101 : decode cX8_years 101 = .ok (.ireturn, 1) := by decide +kernel
theorem dX8_drawAct_0 : decode cX8_drawAct 0 = .ok (.aload_n 0, 1) := by decide +kernel
theorem dX8_drawAct_1 : decode cX8_drawAct 1 = .ok (.getfield 88, 3) := by decide +kernel
theorem dX8_drawAct_4 : decode cX8_drawAct 4 = .ok (.bipush 6, 2) := by decide +kernel
theorem dX8_drawAct_6 : decode cX8_drawAct 6 = .ok (.invokevirtual 370, 3) := by decide +kernel
theorem dX8_drawAct_9 : decode cX8_drawAct 9 = .ok (.istore_n 1, 1) := by decide +kernel
theorem dX8_drawAct_10 : decode cX8_drawAct 10 = .ok (.iload_n 1, 1) := by decide +kernel
theorem dX8_drawAct_11 : decode cX8_drawAct 11 = .ok (.ifCond .ne 21, 3) := by decide +kernel
theorem dX8_drawAct_14 : decode cX8_drawAct 14 = .ok (.aload_n 0, 1) := by decide +kernel
theorem dX8_drawAct_15 : decode cX8_drawAct 15 = .ok (.getfield 48, 3) := by decide +kernel
theorem dX8_drawAct_18 : decode cX8_drawAct 18 = .ok (.aload_n 0, 1) := by decide +kernel
theorem dX8_drawAct_19 : decode cX8_drawAct 19 = .ok (.getfield 88, 3) := by decide +kernel
theorem dX8_drawAct_22 : decode cX8_drawAct 22 = .ok (.iconst 4, 1) := by decide +kernel
theorem dX8_drawAct_23 : decode cX8_drawAct 23 = .ok (.invokevirtual 370, 3) := by decide +kernel
theorem dX8_drawAct_26 : decode cX8_drawAct 26 = .ok (.invokevirtual 261, 3) := by decide +kernel
theorem dX8_drawAct_29 : decode cX8_drawAct 29 = .ok (.goto 97, 3) := by decide +kernel
theorem dX8_drawAct_32 : decode cX8_drawAct 32 = .ok (.iload_n 1, 1) := by decide +kernel
theorem dX8_drawAct_33 : decode cX8_drawAct 33 = .ok (.iconst 1, 1) := by decide +kernel
theorem dX8_drawAct_34 : decode cX8_drawAct 34 = .ok (.if_icmp .ne 37, 3) := by decide +kernel
theorem dX8_drawAct_37 : decode cX8_drawAct 37 = .ok (.aload_n 0, 1) := by decide +kernel
theorem dX8_drawAct_38 : decode cX8_drawAct 38 = .ok (.getfield 23, 3) := by decide +kernel
theorem dX8_drawAct_41 : decode cX8_drawAct 41 = .ok (.getfield 134, 3) := by decide +kernel
theorem dX8_drawAct_44 : decode cX8_drawAct 44 = .ok (.ifCond .le 27, 3) := by decide +kernel
theorem dX8_drawAct_47 : decode cX8_drawAct 47 = .ok (.aload_n 0, 1) := by decide +kernel
theorem dX8_drawAct_48 : decode cX8_drawAct 48 = .ok (.getfield 48, 3) := by decide +kernel
theorem dX8_drawAct_51 : decode cX8_drawAct 51 = .ok (.aload_n 0, 1) := by decide +kernel
theorem dX8_drawAct_52 : decode cX8_drawAct 52 = .ok (.getfield 88, 3) := by decide +kernel
theorem dX8_drawAct_55 : decode cX8_drawAct 55 = .ok (.aload_n 0, 1) := by decide +kernel
theorem dX8_drawAct_56 : decode cX8_drawAct 56 = .ok (.getfield 23, 3) := by decide +kernel
theorem dX8_drawAct_59 : decode cX8_drawAct 59 = .ok (.getfield 134, 3) := by decide +kernel
theorem dX8_drawAct_62 : decode cX8_drawAct 62 = .ok (.invokevirtual 370, 3) := by decide +kernel
theorem dX8_drawAct_65 : decode cX8_drawAct 65 = .ok (.invokevirtual 373, 3) := by decide +kernel
theorem dX8_drawAct_68 : decode cX8_drawAct 68 = .ok (.goto 58, 3) := by decide +kernel
theorem dX8_drawAct_71 : decode cX8_drawAct 71 = .ok (.iload_n 1, 1) := by decide +kernel
theorem dX8_drawAct_72 : decode cX8_drawAct 72 = .ok (.iconst 2, 1) := by decide +kernel
theorem dX8_drawAct_73 : decode cX8_drawAct 73 = .ok (.if_icmp .ne 53, 3) := by decide +kernel
theorem dX8_drawAct_76 : decode cX8_drawAct 76 = .ok (.aload_n 0, 1) := by decide +kernel
theorem dX8_drawAct_77 : decode cX8_drawAct 77 = .ok (.getfield 23, 3) := by decide +kernel
theorem dX8_drawAct_80 : decode cX8_drawAct 80 = .ok (.getfield 131, 3) := by decide +kernel
theorem dX8_drawAct_83 : decode cX8_drawAct 83 = .ok (.ifCond .le 43, 3) := by decide +kernel
theorem dX8_drawAct_86 : decode cX8_drawAct 86 = .ok (.aload_n 0, 1) := by decide +kernel
theorem dX8_drawAct_87 : decode cX8_drawAct 87 = .ok (.getfield 88, 3) := by decide +kernel
theorem dX8_drawAct_90 : decode cX8_drawAct 90 = .ok (.aload_n 0, 1) := by decide +kernel
theorem dX8_drawAct_91 : decode cX8_drawAct 91 = .ok (.getfield 23, 3) := by decide +kernel
theorem dX8_drawAct_94 : decode cX8_drawAct 94 = .ok (.getfield 131, 3) := by decide +kernel
theorem dX8_drawAct_97 : decode cX8_drawAct 97 = .ok (.invokevirtual 370, 3) := by decide +kernel
theorem dX8_drawAct_100 : decode cX8_drawAct 100 = .ok (.istore_n 2, 1) := by decide +kernel
theorem dX8_drawAct_101 : decode cX8_drawAct 101 = .ok (.aload_n 0, 1) := by decide +kernel
theorem dX8_drawAct_102 : decode cX8_drawAct 102 = .ok (.getfield 88, 3) := by decide +kernel
theorem dX8_drawAct_105 : decode cX8_drawAct 105 = .ok (.bipush 8, 2) := by decide +kernel
theorem dX8_drawAct_107 : decode cX8_drawAct 107 = .ok (.invokevirtual 370, 3) := by decide +kernel
theorem dX8_drawAct_110 : decode cX8_drawAct 110 = .ok (.istore_n 3, 1) := by decide +kernel
theorem dX8_drawAct_111 : decode cX8_drawAct 111 = .ok (.aload_n 0, 1) := by decide +kernel
theorem dX8_drawAct_112 : decode cX8_drawAct 112 = .ok (.getfield 48, 3) := by decide +kernel
theorem dX8_drawAct_115 : decode cX8_drawAct 115 = .ok (.getfield 175, 3) := by decide +kernel
theorem dX8_drawAct_118 : decode cX8_drawAct 118 = .ok (.iload_n 2, 1) := by decide +kernel
theorem dX8_drawAct_119 : decode cX8_drawAct 119 = .ok (.dup2, 1) := by decide +kernel
theorem dX8_drawAct_120 : decode cX8_drawAct 120 = .ok (.iaload, 1) := by decide +kernel
theorem dX8_drawAct_121 : decode cX8_drawAct 121 = .ok (.iconst 1, 1) := by decide +kernel
theorem dX8_drawAct_122 : decode cX8_drawAct 122 = .ok (.iload_n 3, 1) := by decide +kernel
theorem dX8_drawAct_123 : decode cX8_drawAct 123 = .ok (.ishl, 1) := by decide +kernel
theorem dX8_drawAct_124 : decode cX8_drawAct 124 = .ok (.ixor, 1) := by decide +kernel
theorem dX8_drawAct_125 : decode cX8_drawAct 125 = .ok (.iastore, 1) := by decide +kernel
theorem dX8_drawAct_126 : decode cX8_drawAct 126 = .ok (.return_, 1) := by decide +kernel
theorem dX8_image_0 : decode cX8_image 0 = .ok (.aload_n 0, 1) := by decide +kernel
theorem dX8_image_1 : decode cX8_image 1 = .ok (.getfield 69, 3) := by decide +kernel
theorem dX8_image_4 : decode cX8_image 4 = .ok (.aload_n 0, 1) := by decide +kernel
theorem dX8_image_5 : decode cX8_image 5 = .ok (.getfield 44, 3) := by decide +kernel
theorem dX8_image_8 : decode cX8_image 8 = .ok (.invokevirtual 345, 3) := by decide +kernel
theorem dX8_image_11 : decode cX8_image 11 = .ok (.aload_n 0, 1) := by decide +kernel
theorem dX8_image_12 : decode cX8_image 12 = .ok (.getfield 72, 3) := by decide +kernel
theorem dX8_image_15 : decode cX8_image 15 = .ok (.aload_n 0, 1) := by decide +kernel
theorem dX8_image_16 : decode cX8_image 16 = .ok (.getfield 54, 3) := by decide +kernel
theorem dX8_image_19 : decode cX8_image 19 = .ok (.invokevirtual 376, 3) := by decide +kernel
theorem dX8_image_22 : decode cX8_image 22 = .ok (.aload_n 0, 1) := by decide +kernel
theorem dX8_image_23 : decode cX8_image 23 = .ok (.getfield 75, 3) := by decide +kernel
theorem dX8_image_26 : decode cX8_image 26 = .ok (.aload_n 0, 1) := by decide +kernel
theorem dX8_image_27 : decode cX8_image 27 = .ok (.getfield 61, 3) := by decide +kernel
theorem dX8_image_30 : decode cX8_image 30 = .ok (.invokevirtual 379, 3) := by decide +kernel
theorem dX8_image_33 : decode cX8_image 33 = .ok (.aload_n 0, 1) := by decide +kernel
theorem dX8_image_34 : decode cX8_image 34 = .ok (.iconst 1, 1) := by decide +kernel
theorem dX8_image_35 : decode cX8_image 35 = .ok (.putfield 65, 3) := by decide +kernel
theorem dX8_image_38 : decode cX8_image 38 = .ok (.return_, 1) := by decide +kernel
theorem dX8_restore_0 : decode cX8_restore 0 = .ok (.aload_n 0, 1) := by decide +kernel
theorem dX8_restore_1 : decode cX8_restore 1 = .ok (.getfield 65, 3) := by decide +kernel
theorem dX8_restore_4 : decode cX8_restore 4 = .ok (.ifCond .ne 5, 3) := by decide +kernel
theorem dX8_restore_7 : decode cX8_restore 7 = .ok (.iconst 0, 1) := by decide +kernel
theorem dX8_restore_8 : decode cX8_restore 8 = .ok (.ireturn, 1) := by decide +kernel
theorem dX8_restore_9 : decode cX8_restore 9 = .ok (.aload_n 0, 1) := by decide +kernel
theorem dX8_restore_10 : decode cX8_restore 10 = .ok (.getfield 44, 3) := by decide +kernel
theorem dX8_restore_13 : decode cX8_restore 13 = .ok (.aload_n 0, 1) := by decide +kernel
theorem dX8_restore_14 : decode cX8_restore 14 = .ok (.getfield 69, 3) := by decide +kernel
theorem dX8_restore_17 : decode cX8_restore 17 = .ok (.invokevirtual 345, 3) := by decide +kernel
theorem dX8_restore_20 : decode cX8_restore 20 = .ok (.aload_n 0, 1) := by decide +kernel
theorem dX8_restore_21 : decode cX8_restore 21 = .ok (.getfield 54, 3) := by decide +kernel
theorem dX8_restore_24 : decode cX8_restore 24 = .ok (.aload_n 0, 1) := by decide +kernel
theorem dX8_restore_25 : decode cX8_restore 25 = .ok (.getfield 72, 3) := by decide +kernel
theorem dX8_restore_28 : decode cX8_restore 28 = .ok (.invokevirtual 376, 3) := by decide +kernel
theorem dX8_restore_31 : decode cX8_restore 31 = .ok (.aload_n 0, 1) := by decide +kernel
theorem dX8_restore_32 : decode cX8_restore 32 = .ok (.getfield 61, 3) := by decide +kernel
theorem dX8_restore_35 : decode cX8_restore 35 = .ok (.aload_n 0, 1) := by decide +kernel
theorem dX8_restore_36 : decode cX8_restore 36 = .ok (.getfield 75, 3) := by decide +kernel
theorem dX8_restore_39 : decode cX8_restore 39 = .ok (.invokevirtual 379, 3) := by decide +kernel
theorem dX8_restore_42 : decode cX8_restore 42 = .ok (.iconst 1, 1) := by decide +kernel
theorem dX8_restore_43 : decode cX8_restore 43 = .ok (.ireturn, 1) := by decide +kernel
theorem dX8_lookAhead_0 : decode cX8_lookAhead 0 = .ok (.aload_n 0, 1) := by decide +kernel
theorem dX8_lookAhead_1 : decode cX8_lookAhead 1 = .ok (.getfield 48, 3) := by decide +kernel
theorem dX8_lookAhead_4 : decode cX8_lookAhead 4 = .ok (.aload_n 0, 1) := by decide +kernel
theorem dX8_lookAhead_5 : decode cX8_lookAhead 5 = .ok (.getfield 44, 3) := by decide +kernel
theorem dX8_lookAhead_8 : decode cX8_lookAhead 8 = .ok (.invokevirtual 345, 3) := by decide +kernel
theorem dX8_lookAhead_11 : decode cX8_lookAhead 11 = .ok (.aload_n 0, 1) := by decide +kernel
theorem dX8_lookAhead_12 : decode cX8_lookAhead 12 = .ok (.getfield 48, 3) := by decide +kernel
theorem dX8_lookAhead_15 : decode cX8_lookAhead 15 = .ok (.iload_n 1, 1) := by decide +kernel
theorem dX8_lookAhead_16 : decode cX8_lookAhead 16 = .ok (.invokevirtual 251, 3) := by decide +kernel
theorem dX8_lookAhead_19 : decode cX8_lookAhead 19 = .ok (.return_, 1) := by decide +kernel
theorem dX8_needSheet_0 : decode cX8_needSheet 0 = .ok (.iload_n 1, 1) := by decide +kernel
theorem dX8_needSheet_1 : decode cX8_needSheet 1 = .ok (.ifCond .lt 14, 3) := by decide +kernel
theorem dX8_needSheet_4 : decode cX8_needSheet 4 = .ok (.iload_n 1, 1) := by decide +kernel
theorem dX8_needSheet_5 : decode cX8_needSheet 5 = .ok (.aload_n 0, 1) := by decide +kernel
theorem dX8_needSheet_6 : decode cX8_needSheet 6 = .ok (.getfield 23, 3) := by decide +kernel
theorem dX8_needSheet_9 : decode cX8_needSheet 9 = .ok (.getfield 131, 3) := by decide +kernel
theorem dX8_needSheet_12 : decode cX8_needSheet 12 = .ok (.if_icmp .lt 14, 3) := by decide +kernel
theorem dX8_needSheet_15 : decode cX8_needSheet 15 = .ok (.new 167, 3) := by decide +kernel
theorem dX8_needSheet_18 : decode cX8_needSheet 18 = .ok (.dup, 1) := by decide +kernel
theorem dX8_needSheet_19 : decode cX8_needSheet 19 = .ok (.ldc_w 382, 3) := by decide +kernel
theorem dX8_needSheet_22 : decode cX8_needSheet 22 = .ok (.invokespecial 171, 3) := by decide +kernel
theorem dX8_needSheet_25 : decode cX8_needSheet 25 = .ok (.athrow, 1) := by decide +kernel
theorem dX8_needSheet_26 : decode cX8_needSheet 26 = .ok (.return_, 1) := by decide +kernel
theorem dX8_needClerk_0 : decode cX8_needClerk 0 = .ok (.iload_n 1, 1) := by decide +kernel
theorem dX8_needClerk_1 : decode cX8_needClerk 1 = .ok (.ifCond .lt 14, 3) := by decide +kernel
theorem dX8_needClerk_4 : decode cX8_needClerk 4 = .ok (.iload_n 1, 1) := by decide +kernel
theorem dX8_needClerk_5 : decode cX8_needClerk 5 = .ok (.aload_n 0, 1) := by decide +kernel
theorem dX8_needClerk_6 : decode cX8_needClerk 6 = .ok (.getfield 23, 3) := by decide +kernel
theorem dX8_needClerk_9 : decode cX8_needClerk 9 = .ok (.getfield 134, 3) := by decide +kernel
theorem dX8_needClerk_12 : decode cX8_needClerk 12 = .ok (.if_icmp .lt 14, 3) := by decide +kernel
theorem dX8_needClerk_15 : decode cX8_needClerk 15 = .ok (.new 167, 3) := by decide +kernel
theorem dX8_needClerk_18 : decode cX8_needClerk 18 = .ok (.dup, 1) := by decide +kernel
theorem dX8_needClerk_19 : decode cX8_needClerk 19 = .ok (.ldc_w 384, 3) := by decide +kernel
theorem dX8_needClerk_22 : decode cX8_needClerk 22 = .ok (.invokespecial 171, 3) := by decide +kernel
theorem dX8_needClerk_25 : decode cX8_needClerk 25 = .ok (.athrow, 1) := by decide +kernel
theorem dX8_needClerk_26 : decode cX8_needClerk 26 = .ok (.return_, 1) := by decide +kernel
theorem dX8_needWord_0 : decode cX8_needWord 0 = .ok (.iload_n 1, 1) := by decide +kernel
theorem dX8_needWord_1 : decode cX8_needWord 1 = .ok (.ifCond .lt 14, 3) := by decide +kernel
theorem dX8_needWord_4 : decode cX8_needWord 4 = .ok (.iload_n 1, 1) := by decide +kernel
theorem dX8_needWord_5 : decode cX8_needWord 5 = .ok (.aload_n 0, 1) := by decide +kernel
theorem dX8_needWord_6 : decode cX8_needWord 6 = .ok (.getfield 23, 3) := by decide +kernel
theorem dX8_needWord_9 : decode cX8_needWord 9 = .ok (.getfield 137, 3) := by decide +kernel
theorem dX8_needWord_12 : decode cX8_needWord 12 = .ok (.if_icmp .lt 14, 3) := by decide +kernel
theorem dX8_needWord_15 : decode cX8_needWord 15 = .ok (.new 167, 3) := by decide +kernel
theorem dX8_needWord_18 : decode cX8_needWord 18 = .ok (.dup, 1) := by decide +kernel
theorem dX8_needWord_19 : decode cX8_needWord 19 = .ok (.ldc_w 386, 3) := by decide +kernel
theorem dX8_needWord_22 : decode cX8_needWord 22 = .ok (.invokespecial 171, 3) := by decide +kernel
theorem dX8_needWord_25 : decode cX8_needWord 25 = .ok (.athrow, 1) := by decide +kernel
theorem dX8_needWord_26 : decode cX8_needWord 26 = .ok (.return_, 1) := by decide +kernel
theorem dX8_needTown_0 : decode cX8_needTown 0 = .ok (.iload_n 0, 1) := by decide +kernel
theorem dX8_needTown_1 : decode cX8_needTown 1 = .ok (.ifCond .lt 8, 3) := by decide +kernel
theorem dX8_needTown_4 : decode cX8_needTown 4 = .ok (.iload_n 0, 1) := by decide +kernel
theorem dX8_needTown_5 : decode cX8_needTown 5 = .ok (.iconst 4, 1) := by decide +kernel
theorem dX8_needTown_6 : decode cX8_needTown 6 = .ok (.if_icmp .lt 14, 3) := by decide +kernel
theorem dX8_needTown_9 : decode cX8_needTown 9 = .ok (.new 167, 3) := by decide +kernel
theorem dX8_needTown_12 : decode cX8_needTown 12 = .ok (.dup, 1) := by decide +kernel
theorem dX8_needTown_13 : decode cX8_needTown 13 = .ok (.ldc_w 388, 3) := by decide +kernel
theorem dX8_needTown_16 : decode cX8_needTown 16 = .ok (.invokespecial 171, 3) := by decide +kernel
theorem dX8_needTown_19 : decode cX8_needTown 19 = .ok (.athrow, 1) := by decide +kernel
theorem dX8_needTown_20 : decode cX8_needTown 20 = .ok (.return_, 1) := by decide +kernel
theorem dX8_needBelow_0 : decode cX8_needBelow 0 = .ok (.iload_n 0, 1) := by decide +kernel
theorem dX8_needBelow_1 : decode cX8_needBelow 1 = .ok (.ifCond .lt 8, 3) := by decide +kernel
theorem dX8_needBelow_4 : decode cX8_needBelow 4 = .ok (.iload_n 0, 1) := by decide +kernel
theorem dX8_needBelow_5 : decode cX8_needBelow 5 = .ok (.iload_n 1, 1) := by decide +kernel
theorem dX8_needBelow_6 : decode cX8_needBelow 6 = .ok (.if_icmp .lt 14, 3) := by decide +kernel
theorem dX8_needBelow_9 : decode cX8_needBelow 9 = .ok (.new 167, 3) := by decide +kernel
theorem dX8_needBelow_12 : decode cX8_needBelow 12 = .ok (.dup, 1) := by decide +kernel
theorem dX8_needBelow_13 : decode cX8_needBelow 13 = .ok (.ldc_w 390, 3) := by decide +kernel
theorem dX8_needBelow_16 : decode cX8_needBelow 16 = .ok (.invokespecial 171, 3) := by decide +kernel
theorem dX8_needBelow_19 : decode cX8_needBelow 19 = .ok (.athrow, 1) := by decide +kernel
theorem dX8_needBelow_20 : decode cX8_needBelow 20 = .ok (.return_, 1) := by decide +kernel
theorem dX8_needBetween_0 : decode cX8_needBetween 0 = .ok (.iload_n 0, 1) := by decide +kernel
theorem dX8_needBetween_1 : decode cX8_needBetween 1 = .ok (.iload_n 1, 1) := by decide +kernel
theorem dX8_needBetween_2 : decode cX8_needBetween 2 = .ok (.if_icmp .lt 8, 3) := by decide +kernel
theorem dX8_needBetween_5 : decode cX8_needBetween 5 = .ok (.iload_n 0, 1) := by decide +kernel
theorem dX8_needBetween_6 : decode cX8_needBetween 6 = .ok (.iload_n 2, 1) := by decide +kernel
theorem dX8_needBetween_7 : decode cX8_needBetween 7 = .ok (.if_icmp .le 14, 3) := by decide +kernel
theorem dX8_needBetween_10 : decode cX8_needBetween 10 = .ok (.new 103, 3) := by decide +kernel
theorem dX8_needBetween_13 : decode cX8_needBetween 13 = .ok (.dup, 1) := by decide +kernel
theorem dX8_needBetween_14 : decode cX8_needBetween 14 = .ok (.ldc_w 392, 3) := by decide +kernel
theorem dX8_needBetween_17 : decode cX8_needBetween 17 = .ok (.invokespecial 107, 3) := by decide +kernel
theorem dX8_needBetween_20 : decode cX8_needBetween 20 = .ok (.athrow, 1) := by decide +kernel
theorem dX8_needBetween_21 : decode cX8_needBetween 21 = .ok (.return_, 1) := by decide +kernel
theorem dX8_hasBit_0 : decode cX8_hasBit 0 = .ok (.iload_n 0, 1) := by decide +kernel
theorem dX8_hasBit_1 : decode cX8_hasBit 1 = .ok (.iload_n 1, 1) := by decide +kernel
theorem dX8_hasBit_2 : decode cX8_hasBit 2 = .ok (.ishr, 1) := by decide +kernel
theorem dX8_hasBit_3 : decode cX8_hasBit 3 = .ok (.iconst 1, 1) := by decide +kernel
theorem dX8_hasBit_4 : decode cX8_hasBit 4 = .ok (.iand, 1) := by decide +kernel
theorem dX8_hasBit_5 : decode cX8_hasBit 5 = .ok (.ifCond .eq 7, 3) := by decide +kernel
theorem dX8_hasBit_8 : decode cX8_hasBit 8 = .ok (.iconst 1, 1) := by decide +kernel
theorem dX8_hasBit_9 : decode cX8_hasBit 9 = .ok (.goto 4, 3) := by decide +kernel
theorem dX8_hasBit_12 : decode cX8_hasBit 12 = .ok (.iconst 0, 1) := by decide +kernel
theorem dX8_hasBit_13 : decode cX8_hasBit 13 = .ok (.ireturn, 1) := by decide +kernel
theorem dX8_leastBit_0 : decode cX8_leastBit 0 = .ok (.iconst 0, 1) := by decide +kernel
theorem dX8_leastBit_1 : decode cX8_leastBit 1 = .ok (.istore_n 1, 1) := by decide +kernel
theorem dX8_leastBit_2 : decode cX8_leastBit 2 = .ok (.iload_n 1, 1) := by decide +kernel
theorem dX8_leastBit_3 : decode cX8_leastBit 3 = .ok (.bipush 32, 2) := by decide +kernel
theorem dX8_leastBit_5 : decode cX8_leastBit 5 = .ok (.if_icmp .ge 19, 3) := by decide +kernel
theorem dX8_leastBit_8 : decode cX8_leastBit 8 = .ok (.iload_n 0, 1) := by decide +kernel
theorem dX8_leastBit_9 : decode cX8_leastBit 9 = .ok (.iload_n 1, 1) := by decide +kernel
theorem dX8_leastBit_10 : decode cX8_leastBit 10 = .ok (.invokestatic 274, 3) := by decide +kernel
theorem dX8_leastBit_13 : decode cX8_leastBit 13 = .ok (.ifCond .eq 5, 3) := by decide +kernel
theorem dX8_leastBit_16 : decode cX8_leastBit 16 = .ok (.iload_n 1, 1) := by decide +kernel
theorem dX8_leastBit_17 : decode cX8_leastBit 17 = .ok (.ireturn, 1) := by decide +kernel
theorem dX8_leastBit_18 : decode cX8_leastBit 18 = .ok (.iinc 1 1, 3) := by decide +kernel
theorem dX8_leastBit_21 : decode cX8_leastBit 21 = .ok (.goto (-19), 3) := by decide +kernel
theorem dX8_leastBit_24 : decode cX8_leastBit 24 = .ok (.iconst (-1), 1) := by decide +kernel
theorem dX8_leastBit_25 : decode cX8_leastBit 25 = .ok (.ireturn, 1) := by decide +kernel
