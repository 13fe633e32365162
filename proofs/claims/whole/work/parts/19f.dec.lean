/-! ===== decode rows: TwinInkModel ===== -/
theorem dX9_forget_0 : decode cX9_forget 0 = .ok (.aload_n 0, 1) := by decide +kernel
theorem dX9_forget_1 : decode cX9_forget 1 = .ok (.iconst 0, 1) := by decide +kernel
theorem dX9_forget_2 : decode cX9_forget 2 = .ok (.putfield 102, 3) := by decide +kernel
theorem dX9_forget_5 : decode cX9_forget 5 = .ok (.aload_n 0, 1) := by decide +kernel
theorem dX9_forget_6 : decode cX9_forget 6 = .ok (.iconst 0, 1) := by decide +kernel
theorem dX9_forget_7 : decode cX9_forget 7 = .ok (.putfield 299, 3) := by decide +kernel
theorem dX9_forget_10 : decode cX9_forget 10 = .ok (.return_, 1) := by decide +kernel
theorem dX9_isHeard_0 : decode cX9_isHeard 0 = .ok (.iconst 0, 1) := by decide +kernel
theorem dX9_isHeard_1 : decode cX9_isHeard 1 = .ok (.istore_n 1, 1) := by decide +kernel
theorem dX9_isHeard_2 : decode cX9_isHeard 2 = .ok (.iload_n 1, 1) := by decide +kernel
theorem dX9_isHeard_3 : decode cX9_isHeard 3 = .ok (.bipush 12, 2) := by decide +kernel
theorem dX9_isHeard_5 : decode cX9_isHeard 5 = .ok (.if_icmp .gt 126, 3) := by decide +kernel
theorem dX9_isHeard_8 : decode cX9_isHeard 8 = .ok (.iconst 0, 1) := by decide +kernel
theorem dX9_isHeard_9 : decode cX9_isHeard 9 = .ok (.istore_n 2, 1) := by decide +kernel
theorem dX9_isHeard_10 : decode cX9_isHeard 10 = .ok (.iload_n 2, 1) := by decide +kernel
theorem dX9_isHeard_11 : decode cX9_isHeard 11 = .ok (.aload_n 0, 1) := by decide +kernel
theorem dX9_isHeard_12 : decode cX9_isHeard 12 = .ok (.getfield 299, 3) := by decide +kernel
theorem dX9_isHeard_15 : decode cX9_isHeard 15 = .ok (.if_icmp .ge 67, 3) := by decide +kernel
theorem dX9_isHeard_18 : decode cX9_isHeard 18 = .ok (.aload_n 0, 1) := by decide +kernel
theorem dX9_isHeard_19 : decode cX9_isHeard 19 = .ok (.getfield 84, 3) := by decide +kernel
theorem dX9_isHeard_22 : decode cX9_isHeard 22 = .ok (.iconst 4, 1) := by decide +kernel
theorem dX9_isHeard_23 : decode cX9_isHeard 23 = .ok (.iload_n 2, 1) := by decide +kernel
theorem dX9_isHeard_24 : decode cX9_isHeard 24 = .ok (.imul, 1) := by decide +kernel
theorem dX9_isHeard_25 : decode cX9_isHeard 25 = .ok (.iconst 2, 1) := by decide +kernel
theorem dX9_isHeard_26 : decode cX9_isHeard 26 = .ok (.iadd, 1) := by decide +kernel
theorem dX9_isHeard_27 : decode cX9_isHeard 27 = .ok (.iaload, 1) := by decide +kernel
theorem dX9_isHeard_28 : decode cX9_isHeard 28 = .ok (.iload_n 1, 1) := by decide +kernel
theorem dX9_isHeard_29 : decode cX9_isHeard 29 = .ok (.if_icmp .ne 47, 3) := by decide +kernel
theorem dX9_isHeard_32 : decode cX9_isHeard 32 = .ok (.aload_n 0, 1) := by decide +kernel
theorem dX9_isHeard_33 : decode cX9_isHeard 33 = .ok (.getfield 66, 3) := by decide +kernel
theorem dX9_isHeard_36 : decode cX9_isHeard 36 = .ok (.bipush 62, 2) := by decide +kernel
theorem dX9_isHeard_38 : decode cX9_isHeard 38 = .ok (.aload_n 0, 1) := by decide +kernel
theorem dX9_isHeard_39 : decode cX9_isHeard 39 = .ok (.getfield 84, 3) := by decide +kernel
theorem dX9_isHeard_42 : decode cX9_isHeard 42 = .ok (.iconst 4, 1) := by decide +kernel
theorem dX9_isHeard_43 : decode cX9_isHeard 43 = .ok (.iload_n 2, 1) := by decide +kernel
theorem dX9_isHeard_44 : decode cX9_isHeard 44 = .ok (.imul, 1) := by decide +kernel
theorem dX9_isHeard_45 : decode cX9_isHeard 45 = .ok (.iaload, 1) := by decide +kernel
theorem dX9_isHeard_46 : decode cX9_isHeard 46 = .ok (.iadd, 1) := by decide +kernel
theorem dX9_isHeard_47 : decode cX9_isHeard 47 = .ok (.iaload, 1) := by decide +kernel
theorem dX9_isHeard_48 : decode cX9_isHeard 48 = .ok (.aload_n 0, 1) := by decide +kernel
theorem dX9_isHeard_49 : decode cX9_isHeard 49 = .ok (.getfield 84, 3) := by decide +kernel
theorem dX9_isHeard_52 : decode cX9_isHeard 52 = .ok (.iconst 4, 1) := by decide +kernel
theorem dX9_isHeard_53 : decode cX9_isHeard 53 = .ok (.iload_n 2, 1) := by decide +kernel
theorem dX9_isHeard_54 : decode cX9_isHeard 54 = .ok (.imul, 1) := by decide +kernel
theorem dX9_isHeard_55 : decode cX9_isHeard 55 = .ok (.iconst 1, 1) := by decide +kernel
theorem dX9_isHeard_56 : decode cX9_isHeard 56 = .ok (.iadd, 1) := by decide +kernel
theorem dX9_isHeard_57 : decode cX9_isHeard 57 = .ok (.iaload, 1) := by decide +kernel
theorem dX9_isHeard_58 : decode cX9_isHeard 58 = .ok (.ishr, 1) := by decide +kernel
theorem dX9_isHeard_59 : decode cX9_isHeard 59 = .ok (.iconst 1, 1) := by decide +kernel
theorem dX9_isHeard_60 : decode cX9_isHeard 60 = .ok (.iand, 1) := by decide +kernel
theorem dX9_isHeard_61 : decode cX9_isHeard 61 = .ok (.aload_n 0, 1) := by decide +kernel
theorem dX9_isHeard_62 : decode cX9_isHeard 62 = .ok (.getfield 84, 3) := by decide +kernel
theorem dX9_isHeard_65 : decode cX9_isHeard 65 = .ok (.iconst 4, 1) := by decide +kernel
theorem dX9_isHeard_66 : decode cX9_isHeard 66 = .ok (.iload_n 2, 1) := by decide +kernel
theorem dX9_isHeard_67 : decode cX9_isHeard 67 = .ok (.imul, 1) := by decide +kernel
theorem dX9_isHeard_68 : decode cX9_isHeard 68 = .ok (.iconst 3, 1) := by decide +kernel
theorem dX9_isHeard_69 : decode cX9_isHeard 69 = .ok (.iadd, 1) := by decide +kernel
theorem dX9_isHeard_70 : decode cX9_isHeard 70 = .ok (.iaload, 1) := by decide +kernel
theorem dX9_isHeard_71 : decode cX9_isHeard 71 = .ok (.if_icmp .eq 5, 3) := by decide +kernel
theorem dX9_isHeard_74 : decode cX9_isHeard 74 = .ok (.iconst 0, 1) := by decide +kernel
theorem dX9_isHeard_75 : decode cX9_isHeard 75 = .ok (.ireturn, 1) := by decide +kernel
theorem dX9_isHeard_76 : decode cX9_isHeard 76 = .ok (.iinc 2 1, 3) := by decide +kernel
theorem dX9_isHeard_79 : decode cX9_isHeard 79 = .ok (.goto (-69), 3) := by decide +kernel
theorem dX9_isHeard_82 : decode cX9_isHeard 82 = .ok (.iload_n 1, 1) := by decide +kernel
theorem dX9_isHeard_83 : decode cX9_isHeard 83 = .ok (.bipush 6, 2) := by decide +kernel
theorem dX9_isHeard_85 : decode cX9_isHeard 85 = .ok (.if_icmp .ne 34, 3) := by decide +kernel
theorem dX9_isHeard_88 : decode cX9_isHeard 88 = .ok (.iconst 0, 1) := by decide +kernel
theorem dX9_isHeard_89 : decode cX9_isHeard 89 = .ok (.istore_n 2, 1) := by decide +kernel
theorem dX9_isHeard_90 : decode cX9_isHeard 90 = .ok (.iload_n 2, 1) := by decide +kernel
theorem dX9_isHeard_91 : decode cX9_isHeard 91 = .ok (.aload_n 0, 1) := by decide +kernel
theorem dX9_isHeard_92 : decode cX9_isHeard 92 = .ok (.getfield 283, 3) := by decide +kernel
theorem dX9_isHeard_95 : decode cX9_isHeard 95 = .ok (.if_icmp .ge 24, 3) := by decide +kernel
theorem dX9_isHeard_98 : decode cX9_isHeard 98 = .ok (.aload_n 0, 1) := by decide +kernel
theorem dX9_isHeard_99 : decode cX9_isHeard 99 = .ok (.getfield 87, 3) := by decide +kernel
theorem dX9_isHeard_102 : decode cX9_isHeard 102 = .ok (.iload_n 2, 1) := by decide +kernel
theorem dX9_isHeard_103 : decode cX9_isHeard 103 = .ok (.aload_n 0, 1) := by decide +kernel
theorem dX9_isHeard_104 : decode cX9_isHeard 104 = .ok (.getfield 66, 3) := by decide +kernel
theorem dX9_isHeard_107 : decode cX9_isHeard 107 = .ok (.bipush 62, 2) := by decide +kernel
theorem dX9_isHeard_109 : decode cX9_isHeard 109 = .ok (.iload_n 2, 1) := by decide +kernel
theorem dX9_isHeard_110 : decode cX9_isHeard 110 = .ok (.iadd, 1) := by decide +kernel
theorem dX9_isHeard_111 : decode cX9_isHeard 111 = .ok (.iaload, 1) := by decide +kernel
theorem dX9_isHeard_112 : decode cX9_isHeard 112 = .ok (.iastore, 1) := by decide +kernel
theorem dX9_isHeard_113 : decode cX9_isHeard 113 = .ok (.iinc 2 1, 3) := by decide +kernel
theorem dX9_isHeard_116 : decode cX9_isHeard 116 = .ok (.goto (-26), 3) := by decide +kernel
theorem dX9_isHeard_119 : decode cX9_isHeard 119 = .ok (.aload_n 0, 1) := by decide +kernel
theorem dX9_isHeard_120 : decode cX9_isHeard 120 = .ok (.bipush 34, 2) := by decide +kernel
theorem dX9_isHeard_122 : decode cX9_isHeard 122 = .ok (.invokevirtual 357, 3) := by decide +kernel
theorem dX9_isHeard_125 : decode cX9_isHeard 125 = .ok (.iinc 1 1, 3) := by decide +kernel
theorem dX9_isHeard_128 : decode cX9_isHeard 128 = .ok (.goto (-126), 3) := by decide +kernel
theorem dX9_isHeard_131 : decode cX9_isHeard 131 = .ok (.iconst 1, 1) := by decide +kernel
theorem dX9_isHeard_132 : decode cX9_isHeard 132 = .ok (.ireturn, 1) := by decide +kernel
theorem dX9_isGuess_0 : decode cX9_isGuess 0 = .ok (.iload_n 1, 1) := by decide +kernel
theorem dX9_isGuess_1 : decode cX9_isGuess 1 = .ok (.bipush 9, 2) := by decide +kernel
theorem dX9_isGuess_3 : decode cX9_isGuess 3 = .ok (.idiv, 1) := by decide +kernel
theorem dX9_isGuess_4 : decode cX9_isGuess 4 = .ok (.istore_n 2, 1) := by decide +kernel
theorem dX9_isGuess_5 : decode cX9_isGuess 5 = .ok (.iload_n 1, 1) := by decide +kernel
theorem dX9_isGuess_6 : decode cX9_isGuess 6 = .ok (.bipush 9, 2) := by decide +kernel
theorem dX9_isGuess_8 : decode cX9_isGuess 8 = .ok (.irem, 1) := by decide +kernel
theorem dX9_isGuess_9 : decode cX9_isGuess 9 = .ok (.istore_n 3, 1) := by decide +kernel
theorem dX9_isGuess_10 : decode cX9_isGuess 10 = .ok (.iload_n 3, 1) := by decide +kernel
theorem dX9_isGuess_11 : decode cX9_isGuess 11 = .ok (.aload_n 0, 1) := by decide +kernel
theorem dX9_isGuess_12 : decode cX9_isGuess 12 = .ok (.getfield 280, 3) := by decide +kernel
theorem dX9_isGuess_15 : decode cX9_isGuess 15 = .ok (.if_icmp .ge 28, 3) := by decide +kernel
theorem dX9_isGuess_18 : decode cX9_isGuess 18 = .ok (.aload_n 0, 1) := by decide +kernel
theorem dX9_isGuess_19 : decode cX9_isGuess 19 = .ok (.iconst 0, 1) := by decide +kernel
theorem dX9_isGuess_20 : decode cX9_isGuess 20 = .ok (.iload_n 3, 1) := by decide +kernel
theorem dX9_isGuess_21 : decode cX9_isGuess 21 = .ok (.invokevirtual 319, 3) := by decide +kernel
theorem dX9_isGuess_24 : decode cX9_isGuess 24 = .ok (.ifCond .ne 19, 3) := by decide +kernel
theorem dX9_isGuess_27 : decode cX9_isGuess 27 = .ok (.aload_n 0, 1) := by decide +kernel
theorem dX9_isGuess_28 : decode cX9_isGuess 28 = .ok (.getfield 66, 3) := by decide +kernel
theorem dX9_isGuess_31 : decode cX9_isGuess 31 = .ok (.bipush 19, 2) := by decide +kernel
theorem dX9_isGuess_33 : decode cX9_isGuess 33 = .ok (.iload_n 3, 1) := by decide +kernel
theorem dX9_isGuess_34 : decode cX9_isGuess 34 = .ok (.iadd, 1) := by decide +kernel
theorem dX9_isGuess_35 : decode cX9_isGuess 35 = .ok (.iaload, 1) := by decide +kernel
theorem dX9_isGuess_36 : decode cX9_isGuess 36 = .ok (.bipush 10, 2) := by decide +kernel
theorem dX9_isGuess_38 : decode cX9_isGuess 38 = .ok (.iload_n 2, 1) := by decide +kernel
theorem dX9_isGuess_39 : decode cX9_isGuess 39 = .ok (.iadd, 1) := by decide +kernel
theorem dX9_isGuess_40 : decode cX9_isGuess 40 = .ok (.if_icmp .ne 5, 3) := by decide +kernel
theorem dX9_isGuess_43 : decode cX9_isGuess 43 = .ok (.iconst 0, 1) := by decide +kernel
theorem dX9_isGuess_44 : decode cX9_isGuess 44 = .ok (.ireturn, 1) := by decide +kernel
theorem dX9_isGuess_45 : decode cX9_isGuess 45 = .ok (.aload_n 0, 1) := by decide +kernel
theorem dX9_isGuess_46 : decode cX9_isGuess 46 = .ok (.invokevirtual 420, 3) := by decide +kernel
theorem dX9_isGuess_49 : decode cX9_isGuess 49 = .ok (.aload_n 0, 1) := by decide +kernel
theorem dX9_isGuess_50 : decode cX9_isGuess 50 = .ok (.getfield 66, 3) := by decide +kernel
theorem dX9_isGuess_53 : decode cX9_isGuess 53 = .ok (.bipush 53, 2) := by decide +kernel
theorem dX9_isGuess_55 : decode cX9_isGuess 55 = .ok (.iload_n 3, 1) := by decide +kernel
theorem dX9_isGuess_56 : decode cX9_isGuess 56 = .ok (.iadd, 1) := by decide +kernel
theorem dX9_isGuess_57 : decode cX9_isGuess 57 = .ok (.bipush 10, 2) := by decide +kernel
theorem dX9_isGuess_59 : decode cX9_isGuess 59 = .ok (.iload_n 2, 1) := by decide +kernel
theorem dX9_isGuess_60 : decode cX9_isGuess 60 = .ok (.iadd, 1) := by decide +kernel
theorem dX9_isGuess_61 : decode cX9_isGuess 61 = .ok (.iastore, 1) := by decide +kernel
theorem dX9_isGuess_62 : decode cX9_isGuess 62 = .ok (.aload_n 0, 1) := by decide +kernel
theorem dX9_isGuess_63 : decode cX9_isGuess 63 = .ok (.invokevirtual 438, 3) := by decide +kernel
theorem dX9_isGuess_66 : decode cX9_isGuess 66 = .ok (.ireturn, 1) := by decide +kernel
theorem dX9_borne_0 : decode cX9_borne 0 = .ok (.aload_n 0, 1) := by decide +kernel
theorem dX9_borne_1 : decode cX9_borne 1 = .ok (.iconst 0, 1) := by decide +kernel
theorem dX9_borne_2 : decode cX9_borne 2 = .ok (.putfield 102, 3) := by decide +kernel
theorem dX9_borne_5 : decode cX9_borne 5 = .ok (.aload_n 0, 1) := by decide +kernel
theorem dX9_borne_6 : decode cX9_borne 6 = .ok (.iload_n 1, 1) := by decide +kernel
theorem dX9_borne_7 : decode cX9_borne 7 = .ok (.iconst 2, 1) := by decide +kernel
theorem dX9_borne_8 : decode cX9_borne 8 = .ok (.invokevirtual 381, 3) := by decide +kernel
theorem dX9_borne_11 : decode cX9_borne 11 = .ok (.ifCond .ne 5, 3) := by decide +kernel
theorem dX9_borne_14 : decode cX9_borne 14 = .ok (.iconst 0, 1) := by decide +kernel
theorem dX9_borne_15 : decode cX9_borne 15 = .ok (.ireturn, 1) := by decide +kernel
theorem dX9_borne_16 : decode cX9_borne 16 = .ok (.iload_n 1, 1) := by decide +kernel
theorem dX9_borne_17 : decode cX9_borne 17 = .ok (.iconst 2, 1) := by decide +kernel
theorem dX9_borne_18 : decode cX9_borne 18 = .ok (.if_icmp .ne 20, 3) := by decide +kernel
theorem dX9_borne_21 : decode cX9_borne 21 = .ok (.aload_n 0, 1) := by decide +kernel
theorem dX9_borne_22 : decode cX9_borne 22 = .ok (.invokevirtual 420, 3) := by decide +kernel
theorem dX9_borne_25 : decode cX9_borne 25 = .ok (.aload_n 0, 1) := by decide +kernel
theorem dX9_borne_26 : decode cX9_borne 26 = .ok (.invokevirtual 438, 3) := by decide +kernel
theorem dX9_borne_29 : decode cX9_borne 29 = .ok (.ifCond .eq 7, 3) := by decide +kernel
theorem dX9_borne_32 : decode cX9_borne 32 = .ok (.iconst 1, 1) := by decide +kernel
theorem dX9_borne_33 : decode cX9_borne 33 = .ok (.goto 4, 3) := by decide +kernel
theorem dX9_borne_36 : decode cX9_borne 36 = .ok (.iconst 0, 1) := by decide +kernel
theorem dX9_borne_37 : decode cX9_borne 37 = .ok (.ireturn, 1) := by decide +kernel
theorem dX9_borne_38 : decode cX9_borne 38 = .ok (.iconst 0, 1) := by decide +kernel
theorem dX9_borne_39 : decode cX9_borne 39 = .ok (.istore_n 2, 1) := by decide +kernel
theorem dX9_borne_40 : decode cX9_borne 40 = .ok (.iconst (-1), 1) := by decide +kernel
theorem dX9_borne_41 : decode cX9_borne 41 = .ok (.istore_n 3, 1) := by decide +kernel
theorem dX9_borne_42 : decode cX9_borne 42 = .ok (.iconst 0, 1) := by decide +kernel
theorem dX9_borne_43 : decode cX9_borne 43 = .ok (.istore 4, 2) := by decide +kernel
theorem dX9_borne_45 : decode cX9_borne 45 = .ok (.iload 4, 2) := by decide +kernel
theorem dX9_borne_47 : decode cX9_borne 47 = .ok (.bipush 9, 2) := by decide +kernel
theorem dX9_borne_49 : decode cX9_borne 49 = .ok (.aload_n 0, 1) := by decide +kernel
theorem dX9_borne_50 : decode cX9_borne 50 = .ok (.getfield 283, 3) := by decide +kernel
theorem dX9_borne_53 : decode cX9_borne 53 = .ok (.imul, 1) := by decide +kernel
theorem dX9_borne_54 : decode cX9_borne 54 = .ok (.if_icmp .ge 44, 3) := by decide +kernel
theorem dX9_borne_57 : decode cX9_borne 57 = .ok (.aload_n 0, 1) := by decide +kernel
theorem dX9_borne_58 : decode cX9_borne 58 = .ok (.iload 4, 2) := by decide +kernel
theorem dX9_borne_60 : decode cX9_borne 60 = .ok (.invokevirtual 441, 3) := by decide +kernel
theorem dX9_borne_63 : decode cX9_borne 63 = .ok (.ifCond .ne 6, 3) := by decide +kernel
theorem dX9_borne_66 : decode cX9_borne 66 = .ok (.goto 26, 3) := by decide +kernel
theorem dX9_borne_69 : decode cX9_borne 69 = .ok (.iinc 2 1, 3) := by decide +kernel
theorem dX9_borne_72 : decode cX9_borne 72 = .ok (.iload_n 3, 1) := by decide +kernel
theorem dX9_borne_73 : decode cX9_borne 73 = .ok (.iconst (-1), 1) := by decide +kernel
theorem dX9_borne_74 : decode cX9_borne 74 = .ok (.if_icmp .ne 18, 3) := by decide +kernel
theorem dX9_borne_77 : decode cX9_borne 77 = .ok (.iload 4, 2) := by decide +kernel
theorem dX9_borne_79 : decode cX9_borne 79 = .ok (.bipush 9, 2) := by decide +kernel
theorem dX9_borne_81 : decode cX9_borne 81 = .ok (.idiv, 1) := by decide +kernel
theorem dX9_borne_82 : decode cX9_borne 82 = .ok (.bipush 10, 2) := by decide +kernel
theorem dX9_borne_84 : decode cX9_borne 84 = .ok (.imul, 1) := by decide +kernel
theorem dX9_borne_85 : decode cX9_borne 85 = .ok (.iload 4, 2) := by decide +kernel
theorem dX9_borne_87 : decode cX9_borne 87 = .ok (.bipush 9, 2) := by decide +kernel
theorem dX9_borne_89 : decode cX9_borne 89 = .ok (.irem, 1) := by decide +kernel
theorem dX9_borne_90 : decode cX9_borne 90 = .ok (.iadd, 1) := by decide +kernel
theorem dX9_borne_91 : decode cX9_borne 91 = .ok (.istore_n 3, 1) := by decide +kernel
theorem dX9_borne_92 : decode cX9_borne 92 = .ok (.iinc 4 1, 3) := by decide +kernel
theorem dX9_borne_95 : decode cX9_borne 95 = .ok (.goto (-50), 3) := by decide +kernel
theorem dX9_borne_98 : decode cX9_borne 98 = .ok (.iload_n 1, 1) := by decide +kernel
theorem dX9_borne_99 : decode cX9_borne 99 = .ok (.ifCond .ne 7, 3) := by decide +kernel
theorem dX9_borne_102 : decode cX9_borne 102 = .ok (.iload_n 2, 1) := by decide +kernel
theorem dX9_borne_103 : decode cX9_borne 103 = .ok (.goto 4, 3) := by decide +kernel
theorem dX9_borne_106 : decode cX9_borne 106 = .ok (.iload_n 3, 1) := by decide +kernel
theorem dX9_borne_107 : decode cX9_borne 107 = .ok (.ireturn, 1) := by decide +kernel
theorem dX9_ask_0 : decode cX9_ask 0 = .ok (.aload_n 0, 1) := by decide +kernel
theorem dX9_ask_1 : decode cX9_ask 1 = .ok (.iconst 0, 1) := by decide +kernel
theorem dX9_ask_2 : decode cX9_ask 2 = .ok (.putfield 102, 3) := by decide +kernel
theorem dX9_ask_5 : decode cX9_ask 5 = .ok (.aload_n 0, 1) := by decide +kernel
theorem dX9_ask_6 : decode cX9_ask 6 = .ok (.iload_n 1, 1) := by decide +kernel
theorem dX9_ask_7 : decode cX9_ask 7 = .ok (.iconst 1, 1) := by decide +kernel
theorem dX9_ask_8 : decode cX9_ask 8 = .ok (.invokevirtual 381, 3) := by decide +kernel
theorem dX9_ask_11 : decode cX9_ask 11 = .ok (.ifCond .ne 5, 3) := by decide +kernel
theorem dX9_ask_14 : decode cX9_ask 14 = .ok (.iconst 0, 1) := by decide +kernel
theorem dX9_ask_15 : decode cX9_ask 15 = .ok (.ireturn, 1) := by decide +kernel
theorem dX9_ask_16 : decode cX9_ask 16 = .ok (.iconst 0, 1) := by decide +kernel
theorem dX9_ask_17 : decode cX9_ask 17 = .ok (.istore_n 2, 1) := by decide +kernel
theorem dX9_ask_18 : decode cX9_ask 18 = .ok (.iconst 0, 1) := by decide +kernel
theorem dX9_ask_19 : decode cX9_ask 19 = .ok (.istore_n 3, 1) := by decide +kernel
theorem dX9_ask_20 : decode cX9_ask 20 = .ok (.iload_n 3, 1) := by decide +kernel
theorem dX9_ask_21 : decode cX9_ask 21 = .ok (.bipush 9, 2) := by decide +kernel
theorem dX9_ask_23 : decode cX9_ask 23 = .ok (.aload_n 0, 1) := by decide +kernel
theorem dX9_ask_24 : decode cX9_ask 24 = .ok (.getfield 283, 3) := by decide +kernel
theorem dX9_ask_27 : decode cX9_ask 27 = .ok (.imul, 1) := by decide +kernel
theorem dX9_ask_28 : decode cX9_ask 28 = .ok (.if_icmp .ge 60, 3) := by decide +kernel
theorem dX9_ask_31 : decode cX9_ask 31 = .ok (.aload_n 0, 1) := by decide +kernel
theorem dX9_ask_32 : decode cX9_ask 32 = .ok (.iload_n 3, 1) := by decide +kernel
theorem dX9_ask_33 : decode cX9_ask 33 = .ok (.invokevirtual 441, 3) := by decide +kernel
theorem dX9_ask_36 : decode cX9_ask 36 = .ok (.ifCond .ne 6, 3) := by decide +kernel
theorem dX9_ask_39 : decode cX9_ask 39 = .ok (.goto 43, 3) := by decide +kernel
theorem dX9_ask_42 : decode cX9_ask 42 = .ok (.iconst 0, 1) := by decide +kernel
theorem dX9_ask_43 : decode cX9_ask 43 = .ok (.istore 4, 2) := by decide +kernel
theorem dX9_ask_45 : decode cX9_ask 45 = .ok (.iload 4, 2) := by decide +kernel
theorem dX9_ask_47 : decode cX9_ask 47 = .ok (.aload_n 0, 1) := by decide +kernel
theorem dX9_ask_48 : decode cX9_ask 48 = .ok (.getfield 283, 3) := by decide +kernel
theorem dX9_ask_51 : decode cX9_ask 51 = .ok (.if_icmp .ge 28, 3) := by decide +kernel
theorem dX9_ask_54 : decode cX9_ask 54 = .ok (.aload_n 0, 1) := by decide +kernel
theorem dX9_ask_55 : decode cX9_ask 55 = .ok (.getfield 90, 3) := by decide +kernel
theorem dX9_ask_58 : decode cX9_ask 58 = .ok (.bipush 6, 2) := by decide +kernel
theorem dX9_ask_60 : decode cX9_ask 60 = .ok (.iload_n 2, 1) := by decide +kernel
theorem dX9_ask_61 : decode cX9_ask 61 = .ok (.imul, 1) := by decide +kernel
theorem dX9_ask_62 : decode cX9_ask 62 = .ok (.iload 4, 2) := by decide +kernel
theorem dX9_ask_64 : decode cX9_ask 64 = .ok (.iadd, 1) := by decide +kernel
theorem dX9_ask_65 : decode cX9_ask 65 = .ok (.aload_n 0, 1) := by decide +kernel
theorem dX9_ask_66 : decode cX9_ask 66 = .ok (.getfield 87, 3) := by decide +kernel
theorem dX9_ask_69 : decode cX9_ask 69 = .ok (.iload 4, 2) := by decide +kernel
theorem dX9_ask_71 : decode cX9_ask 71 = .ok (.iaload, 1) := by decide +kernel
theorem dX9_ask_72 : decode cX9_ask 72 = .ok (.iastore, 1) := by decide +kernel
theorem dX9_ask_73 : decode cX9_ask 73 = .ok (.iinc 4 1, 3) := by decide +kernel
theorem dX9_ask_76 : decode cX9_ask 76 = .ok (.goto (-31), 3) := by decide +kernel
theorem dX9_ask_79 : decode cX9_ask 79 = .ok (.iinc 2 1, 3) := by decide +kernel
theorem dX9_ask_82 : decode cX9_ask 82 = .ok (.iinc 3 1, 3) := by decide +kernel
theorem dX9_ask_85 : decode cX9_ask 85 = .ok (.goto (-65), 3) := by decide +kernel
theorem dX9_ask_88 : decode cX9_ask 88 = .ok (.iconst (-1), 1) := by decide +kernel
theorem dX9_ask_89 : decode cX9_ask 89 = .ok (.istore_n 3, 1) := by decide +kernel
theorem dX9_ask_90 : decode cX9_ask 90 = .ok (.iconst 0, 1) := by decide +kernel
theorem dX9_ask_91 : decode cX9_ask 91 = .ok (.istore 4, 2) := by decide +kernel
theorem dX9_ask_93 : decode cX9_ask 93 = .ok (.iconst 0, 1) := by decide +kernel
theorem dX9_ask_94 : decode cX9_ask 94 = .ok (.istore 5, 2) := by decide +kernel
theorem dX9_ask_96 : decode cX9_ask 96 = .ok (.iload 5, 2) := by decide +kernel
theorem dX9_ask_98 : decode cX9_ask 98 = .ok (.aload_n 0, 1) := by decide +kernel
theorem dX9_ask_99 : decode cX9_ask 99 = .ok (.getfield 283, 3) := by decide +kernel
theorem dX9_ask_102 : decode cX9_ask 102 = .ok (.if_icmp .ge 119, 3) := by decide +kernel
theorem dX9_ask_105 : decode cX9_ask 105 = .ok (.iconst 0, 1) := by decide +kernel
theorem dX9_ask_106 : decode cX9_ask 106 = .ok (.istore 6, 2) := by decide +kernel
theorem dX9_ask_108 : decode cX9_ask 108 = .ok (.iconst 0, 1) := by decide +kernel
theorem dX9_ask_109 : decode cX9_ask 109 = .ok (.istore 7, 2) := by decide +kernel
theorem dX9_ask_111 : decode cX9_ask 111 = .ok (.iload 7, 2) := by decide +kernel
theorem dX9_ask_113 : decode cX9_ask 113 = .ok (.iload_n 2, 1) := by decide +kernel
theorem dX9_ask_114 : decode cX9_ask 114 = .ok (.if_icmp .ge 84, 3) := by decide +kernel
theorem dX9_ask_117 : decode cX9_ask 117 = .ok (.iconst 1, 1) := by decide +kernel
theorem dX9_ask_118 : decode cX9_ask 118 = .ok (.istore 8, 2) := by decide +kernel
theorem dX9_ask_120 : decode cX9_ask 120 = .ok (.iconst 0, 1) := by decide +kernel
theorem dX9_ask_121 : decode cX9_ask 121 = .ok (.istore 9, 2) := by decide +kernel
theorem dX9_ask_123 : decode cX9_ask 123 = .ok (.iload 9, 2) := by decide +kernel
theorem dX9_ask_125 : decode cX9_ask 125 = .ok (.iload 7, 2) := by decide +kernel
theorem dX9_ask_127 : decode cX9_ask 127 = .ok (.if_icmp .ge 50, 3) := by decide +kernel
theorem dX9_ask_130 : decode cX9_ask 130 = .ok (.iload 8, 2) := by decide +kernel
theorem dX9_ask_132 : decode cX9_ask 132 = .ok (.ifCond .eq 45, 3) := by decide +kernel
theorem dX9_ask_135 : decode cX9_ask 135 = .ok (.aload_n 0, 1) := by decide +kernel
theorem dX9_ask_136 : decode cX9_ask 136 = .ok (.getfield 90, 3) := by decide +kernel
theorem dX9_ask_139 : decode cX9_ask 139 = .ok (.bipush 6, 2) := by decide +kernel
theorem dX9_ask_141 : decode cX9_ask 141 = .ok (.iload 7, 2) := by decide +kernel
theorem dX9_ask_143 : decode cX9_ask 143 = .ok (.imul, 1) := by decide +kernel
theorem dX9_ask_144 : decode cX9_ask 144 = .ok (.iload 5, 2) := by decide +kernel
theorem dX9_ask_146 : decode cX9_ask 146 = .ok (.iadd, 1) := by decide +kernel
theorem dX9_ask_147 : decode cX9_ask 147 = .ok (.iaload, 1) := by decide +kernel
theorem dX9_ask_148 : decode cX9_ask 148 = .ok (.aload_n 0, 1) := by decide +kernel
theorem dX9_ask_149 : decode cX9_ask 149 = .ok (.getfield 90, 3) := by decide +kernel
theorem dX9_ask_152 : decode cX9_ask 152 = .ok (.bipush 6, 2) := by decide +kernel
theorem dX9_ask_154 : decode cX9_ask 154 = .ok (.iload 9, 2) := by decide +kernel
theorem dX9_ask_156 : decode cX9_ask 156 = .ok (.imul, 1) := by decide +kernel
theorem dX9_ask_157 : decode cX9_ask 157 = .ok (.iload 5, 2) := by decide +kernel
theorem dX9_ask_159 : decode cX9_ask 159 = .ok (.iadd, 1) := by decide +kernel
theorem dX9_ask_160 : decode cX9_ask 160 = .ok (.iaload, 1) := by decide +kernel
theorem dX9_ask_161 : decode cX9_ask 161 = .ok (.if_icmp .eq 7, 3) := by decide +kernel
theorem dX9_ask_164 : decode cX9_ask 164 = .ok (.iconst 1, 1) := by decide +kernel
theorem dX9_ask_165 : decode cX9_ask 165 = .ok (.goto 4, 3) := by decide +kernel
theorem dX9_ask_168 : decode cX9_ask 168 = .ok (.iconst 0, 1) := by decide +kernel
theorem dX9_ask_169 : decode cX9_ask 169 = .ok (.istore 8, 2) := by decide +kernel
theorem dX9_ask_171 : decode cX9_ask 171 = .ok (.iinc 9 1, 3) := by decide +kernel
theorem dX9_ask_174 : decode cX9_ask 174 = .ok (.goto (-51), 3) := by decide +kernel
theorem dX9_ask_177 : decode cX9_ask 177 = .ok (.iload 6, 2) := by decide +kernel
theorem dX9_ask_179 : decode cX9_ask 179 = .ok (.iload 8, 2) := by decide +kernel
theorem dX9_ask_181 : decode cX9_ask 181 = .ok (.ifCond .eq 7, 3) := by decide +kernel
theorem dX9_ask_184 : decode cX9_ask 184 = .ok (.iconst 1, 1) := by decide +kernel
theorem dX9_ask_185 : decode cX9_ask 185 = .ok (.goto 4, 3) := by decide +kernel
theorem dX9_ask_188 : decode cX9_ask 188 = .ok (.iconst 0, 1) := by decide +kernel
theorem dX9_ask_189 : decode cX9_ask 189 = .ok (.iadd, 1) := by decide +kernel
theorem dX9_ask_190 : decode cX9_ask 190 = .ok (.istore 6, 2) := by decide +kernel
theorem dX9_ask_192 : decode cX9_ask 192 = .ok (.iinc 7 1, 3) := by decide +kernel
theorem dX9_ask_195 : decode cX9_ask 195 = .ok (.goto (-84), 3) := by decide +kernel
theorem dX9_ask_198 : decode cX9_ask 198 = .ok (.iload 6, 2) := by decide +kernel
theorem dX9_ask_200 : decode cX9_ask 200 = .ok (.iload 4, 2) := by decide +kernel
theorem dX9_ask_202 : decode cX9_ask 202 = .ok (.if_icmp .gt 6, 3) := by decide +kernel
theorem dX9_ask_205 : decode cX9_ask 205 = .ok (.goto 10, 3) := by decide +kernel
theorem dX9_ask_208 : decode cX9_ask 208 = .ok (.iload 5, 2) := by decide +kernel
theorem dX9_ask_210 : decode cX9_ask 210 = .ok (.istore_n 3, 1) := by decide +kernel
theorem dX9_ask_211 : decode cX9_ask 211 = .ok (.iload 6, 2) := by decide +kernel
theorem dX9_ask_213 : decode cX9_ask 213 = .ok (.istore 4, 2) := by decide +kernel
theorem dX9_ask_215 : decode cX9_ask 215 = .ok (.iinc 5 1, 3) := by decide +kernel
theorem dX9_ask_218 : decode cX9_ask 218 = .ok (.goto (-122), 3) := by decide +kernel
theorem dX9_ask_221 : decode cX9_ask 221 = .ok (.iload_n 1, 1) := by decide +kernel
theorem dX9_ask_222 : decode cX9_ask 222 = .ok (.ifCond .ne 7, 3) := by decide +kernel
theorem dX9_ask_225 : decode cX9_ask 225 = .ok (.iload_n 3, 1) := by decide +kernel
theorem dX9_ask_226 : decode cX9_ask 226 = .ok (.goto 5, 3) := by decide +kernel
theorem dX9_ask_229 : decode cX9_ask 229 = .ok (.iload 4, 2) := by decide +kernel
theorem dX9_ask_231 : decode cX9_ask 231 = .ok (.ireturn, 1) := by decide +kernel
theorem dX9_fires_0 : decode cX9_fires 0 = .ok (.aload_n 0, 1) := by decide +kernel
theorem dX9_fires_1 : decode cX9_fires 1 = .ok (.iconst 0, 1) := by decide +kernel
theorem dX9_fires_2 : decode cX9_fires 2 = .ok (.putfield 102, 3) := by decide +kernel
theorem dX9_fires_5 : decode cX9_fires 5 = .ok (.aload_n 0, 1) := by decide +kernel
theorem dX9_fires_6 : decode cX9_fires 6 = .ok (.iload_n 1, 1) := by decide +kernel
theorem dX9_fires_7 : decode cX9_fires 7 = .ok (.invokevirtual 390, 3) := by decide +kernel
theorem dX9_fires_10 : decode cX9_fires 10 = .ok (.ifCond .eq 18, 3) := by decide +kernel
theorem dX9_fires_13 : decode cX9_fires 13 = .ok (.aload_n 0, 1) := by decide +kernel
theorem dX9_fires_14 : decode cX9_fires 14 = .ok (.iload_n 2, 1) := by decide +kernel
theorem dX9_fires_15 : decode cX9_fires 15 = .ok (.iconst 0, 1) := by decide +kernel
theorem dX9_fires_16 : decode cX9_fires 16 = .ok (.bipush 10, 2) := by decide +kernel
theorem dX9_fires_18 : decode cX9_fires 18 = .ok (.invokestatic 363, 3) := by decide +kernel
theorem dX9_fires_21 : decode cX9_fires 21 = .ok (.iconst 2, 1) := by decide +kernel
theorem dX9_fires_22 : decode cX9_fires 22 = .ok (.invokevirtual 273, 3) := by decide +kernel
theorem dX9_fires_25 : decode cX9_fires 25 = .ok (.ifCond .ne 5, 3) := by decide +kernel
theorem dX9_fires_28 : decode cX9_fires 28 = .ok (.iconst 0, 1) := by decide +kernel
theorem dX9_fires_29 : decode cX9_fires 29 = .ok (.ireturn, 1) := by decide +kernel
theorem dX9_fires_30 : decode cX9_fires 30 = .ok (.aload_n 0, 1) := by decide +kernel
theorem dX9_fires_31 : decode cX9_fires 31 = .ok (.iload_n 1, 1) := by decide +kernel
theorem dX9_fires_32 : decode cX9_fires 32 = .ok (.invokevirtual 399, 3) := by decide +kernel
theorem dX9_fires_35 : decode cX9_fires 35 = .ok (.ifCond .ne 5, 3) := by decide +kernel
theorem dX9_fires_38 : decode cX9_fires 38 = .ok (.iconst (-1), 1) := by decide +kernel
theorem dX9_fires_39 : decode cX9_fires 39 = .ok (.ireturn, 1) := by decide +kernel
theorem dX9_fires_40 : decode cX9_fires 40 = .ok (.iconst 0, 1) := by decide +kernel
theorem dX9_fires_41 : decode cX9_fires 41 = .ok (.istore_n 3, 1) := by decide +kernel
theorem dX9_fires_42 : decode cX9_fires 42 = .ok (.iconst 0, 1) := by decide +kernel
theorem dX9_fires_43 : decode cX9_fires 43 = .ok (.istore 4, 2) := by decide +kernel
theorem dX9_fires_45 : decode cX9_fires 45 = .ok (.iload 4, 2) := by decide +kernel
theorem dX9_fires_47 : decode cX9_fires 47 = .ok (.bipush 16, 2) := by decide +kernel
theorem dX9_fires_49 : decode cX9_fires 49 = .ok (.if_icmp .ge 109, 3) := by decide +kernel
theorem dX9_fires_52 : decode cX9_fires 52 = .ok (.iconst 1, 1) := by decide +kernel
theorem dX9_fires_53 : decode cX9_fires 53 = .ok (.istore 5, 2) := by decide +kernel
theorem dX9_fires_55 : decode cX9_fires 55 = .ok (.iconst 0, 1) := by decide +kernel
theorem dX9_fires_56 : decode cX9_fires 56 = .ok (.istore 6, 2) := by decide +kernel
theorem dX9_fires_58 : decode cX9_fires 58 = .ok (.iconst 0, 1) := by decide +kernel
theorem dX9_fires_59 : decode cX9_fires 59 = .ok (.istore 7, 2) := by decide +kernel
theorem dX9_fires_61 : decode cX9_fires 61 = .ok (.iload 7, 2) := by decide +kernel
theorem dX9_fires_63 : decode cX9_fires 63 = .ok (.iconst 4, 1) := by decide +kernel
theorem dX9_fires_64 : decode cX9_fires 64 = .ok (.if_icmp .ge 65, 3) := by decide +kernel
theorem dX9_fires_67 : decode cX9_fires 67 = .ok (.iload 4, 2) := by decide +kernel
theorem dX9_fires_69 : decode cX9_fires 69 = .ok (.iload 7, 2) := by decide +kernel
theorem dX9_fires_71 : decode cX9_fires 71 = .ok (.ishr, 1) := by decide +kernel
theorem dX9_fires_72 : decode cX9_fires 72 = .ok (.iconst 1, 1) := by decide +kernel
theorem dX9_fires_73 : decode cX9_fires 73 = .ok (.iand, 1) := by decide +kernel
theorem dX9_fires_74 : decode cX9_fires 74 = .ok (.iconst 1, 1) := by decide +kernel
theorem dX9_fires_75 : decode cX9_fires 75 = .ok (.if_icmp .ne 7, 3) := by decide +kernel
theorem dX9_fires_78 : decode cX9_fires 78 = .ok (.iconst 1, 1) := by decide +kernel
theorem dX9_fires_79 : decode cX9_fires 79 = .ok (.goto 4, 3) := by decide +kernel
theorem dX9_fires_82 : decode cX9_fires 82 = .ok (.iconst 0, 1) := by decide +kernel
theorem dX9_fires_83 : decode cX9_fires 83 = .ok (.istore 8, 2) := by decide +kernel
theorem dX9_fires_85 : decode cX9_fires 85 = .ok (.iload 5, 2) := by decide +kernel
theorem dX9_fires_87 : decode cX9_fires 87 = .ok (.iload 8, 2) := by decide +kernel
theorem dX9_fires_89 : decode cX9_fires 89 = .ok (.ifCond .eq 7, 3) := by decide +kernel
theorem dX9_fires_92 : decode cX9_fires 92 = .ok (.iload_n 2, 1) := by decide +kernel
theorem dX9_fires_93 : decode cX9_fires 93 = .ok (.goto 7, 3) := by decide +kernel
theorem dX9_fires_96 : decode cX9_fires 96 = .ok (.bipush 10, 2) := by decide +kernel
theorem dX9_fires_98 : decode cX9_fires 98 = .ok (.iload_n 2, 1) := by decide +kernel
theorem dX9_fires_99 : decode cX9_fires 99 = .ok (.isub, 1) := by decide +kernel
theorem dX9_fires_100 : decode cX9_fires 100 = .ok (.imul, 1) := by decide +kernel
theorem dX9_fires_101 : decode cX9_fires 101 = .ok (.istore 5, 2) := by decide +kernel
theorem dX9_fires_103 : decode cX9_fires 103 = .ok (.iload 6, 2) := by decide +kernel
theorem dX9_fires_105 : decode cX9_fires 105 = .ok (.iload 8, 2) := by decide +kernel
theorem dX9_fires_107 : decode cX9_fires 107 = .ok (.ifCond .eq 12, 3) := by decide +kernel
theorem dX9_fires_110 : decode cX9_fires 110 = .ok (.aload_n 0, 1) := by decide +kernel
theorem dX9_fires_111 : decode cX9_fires 111 = .ok (.iload 7, 2) := by decide +kernel
theorem dX9_fires_113 : decode cX9_fires 113 = .ok (.invokevirtual 405, 3) := by decide +kernel
theorem dX9_fires_116 : decode cX9_fires 116 = .ok (.goto 4, 3) := by decide +kernel
theorem dX9_fires_119 : decode cX9_fires 119 = .ok (.iconst 0, 1) := by decide +kernel
theorem dX9_fires_120 : decode cX9_fires 120 = .ok (.ior, 1) := by decide +kernel
theorem dX9_fires_121 : decode cX9_fires 121 = .ok (.istore 6, 2) := by decide +kernel
theorem dX9_fires_123 : decode cX9_fires 123 = .ok (.iinc 7 1, 3) := by decide +kernel
theorem dX9_fires_126 : decode cX9_fires 126 = .ok (.goto (-65), 3) := by decide +kernel
theorem dX9_fires_129 : decode cX9_fires 129 = .ok (.iload_n 3, 1) := by decide +kernel
theorem dX9_fires_130 : decode cX9_fires 130 = .ok (.aload_n 0, 1) := by decide +kernel
theorem dX9_fires_131 : decode cX9_fires 131 = .ok (.iload 6, 2) := by decide +kernel
theorem dX9_fires_133 : decode cX9_fires 133 = .ok (.invokevirtual 408, 3) := by decide +kernel
theorem dX9_fires_136 : decode cX9_fires 136 = .ok (.iload_n 1, 1) := by decide +kernel
theorem dX9_fires_137 : decode cX9_fires 137 = .ok (.ishr, 1) := by decide +kernel
theorem dX9_fires_138 : decode cX9_fires 138 = .ok (.iconst 1, 1) := by decide +kernel
theorem dX9_fires_139 : decode cX9_fires 139 = .ok (.iand, 1) := by decide +kernel
theorem dX9_fires_140 : decode cX9_fires 140 = .ok (.iconst 1, 1) := by decide +kernel
theorem dX9_fires_141 : decode cX9_fires 141 = .ok (.if_icmp .ne 8, 3) := by decide +kernel
theorem dX9_fires_144 : decode cX9_fires 144 = .ok (.iload 5, 2) := by decide +kernel
theorem dX9_fires_146 : decode cX9_fires 146 = .ok (.goto 4, 3) := by decide +kernel
theorem dX9_fires_149 : decode cX9_fires 149 = .ok (.iconst 0, 1) := by decide +kernel
theorem dX9_fires_150 : decode cX9_fires 150 = .ok (.iadd, 1) := by decide +kernel
theorem dX9_fires_151 : decode cX9_fires 151 = .ok (.istore_n 3, 1) := by decide +kernel
theorem dX9_fires_152 : decode cX9_fires 152 = .ok (.iinc 4 1, 3) := by decide +kernel
theorem dX9_fires_155 : decode cX9_fires 155 = .ok (.goto (-110), 3) := by decide +kernel
theorem dX9_fires_158 : decode cX9_fires 158 = .ok (.iload_n 3, 1) := by decide +kernel
theorem dX9_fires_159 : decode cX9_fires 159 = .ok (.ireturn, 1) := by decide +kernel
theorem dX9_newTo_0 : decode cX9_newTo 0 = .ok (.iconst 0, 1) := by decide +kernel
theorem dX9_newTo_1 : decode cX9_newTo 1 = .ok (.istore_n 3, 1) := by decide +kernel
theorem dX9_newTo_2 : decode cX9_newTo 2 = .ok (.iconst 0, 1) := by decide +kernel
theorem dX9_newTo_3 : decode cX9_newTo 3 = .ok (.istore 4, 2) := by decide +kernel
theorem dX9_newTo_5 : decode cX9_newTo 5 = .ok (.iload 4, 2) := by decide +kernel
theorem dX9_newTo_7 : decode cX9_newTo 7 = .ok (.aload_n 0, 1) := by decide +kernel
theorem dX9_newTo_8 : decode cX9_newTo 8 = .ok (.getfield 286, 3) := by decide +kernel
theorem dX9_newTo_11 : decode cX9_newTo 11 = .ok (.if_icmp .ge 81, 3) := by decide +kernel
theorem dX9_newTo_14 : decode cX9_newTo 14 = .ok (.iload_n 3, 1) := by decide +kernel
theorem dX9_newTo_15 : decode cX9_newTo 15 = .ok (.iload_n 2, 1) := by decide +kernel
theorem dX9_newTo_16 : decode cX9_newTo 16 = .ok (.aload_n 0, 1) := by decide +kernel
theorem dX9_newTo_17 : decode cX9_newTo 17 = .ok (.getfield 23, 3) := by decide +kernel
theorem dX9_newTo_20 : decode cX9_newTo 20 = .ok (.iload 4, 2) := by decide +kernel
theorem dX9_newTo_22 : decode cX9_newTo 22 = .ok (.iaload, 1) := by decide +kernel
theorem dX9_newTo_23 : decode cX9_newTo 23 = .ok (.ishr, 1) := by decide +kernel
theorem dX9_newTo_24 : decode cX9_newTo 24 = .ok (.iload_n 2, 1) := by decide +kernel
theorem dX9_newTo_25 : decode cX9_newTo 25 = .ok (.aload_n 0, 1) := by decide +kernel
theorem dX9_newTo_26 : decode cX9_newTo 26 = .ok (.getfield 26, 3) := by decide +kernel
theorem dX9_newTo_29 : decode cX9_newTo 29 = .ok (.iload 4, 2) := by decide +kernel
theorem dX9_newTo_31 : decode cX9_newTo 31 = .ok (.iaload, 1) := by decide +kernel
theorem dX9_newTo_32 : decode cX9_newTo 32 = .ok (.ishr, 1) := by decide +kernel
theorem dX9_newTo_33 : decode cX9_newTo 33 = .ok (.iand, 1) := by decide +kernel
theorem dX9_newTo_34 : decode cX9_newTo 34 = .ok (.iconst 1, 1) := by decide +kernel
theorem dX9_newTo_35 : decode cX9_newTo 35 = .ok (.iand, 1) := by decide +kernel
theorem dX9_newTo_36 : decode cX9_newTo 36 = .ok (.iconst 1, 1) := by decide +kernel
theorem dX9_newTo_37 : decode cX9_newTo 37 = .ok (.if_icmp .ne 46, 3) := by decide +kernel
theorem dX9_newTo_40 : decode cX9_newTo 40 = .ok (.aload_n 0, 1) := by decide +kernel
theorem dX9_newTo_41 : decode cX9_newTo 41 = .ok (.iconst 0, 1) := by decide +kernel
theorem dX9_newTo_42 : decode cX9_newTo 42 = .ok (.aload_n 0, 1) := by decide +kernel
theorem dX9_newTo_43 : decode cX9_newTo 43 = .ok (.getfield 23, 3) := by decide +kernel
theorem dX9_newTo_46 : decode cX9_newTo 46 = .ok (.iload 4, 2) := by decide +kernel
theorem dX9_newTo_48 : decode cX9_newTo 48 = .ok (.iaload, 1) := by decide +kernel
theorem dX9_newTo_49 : decode cX9_newTo 49 = .ok (.aload_n 0, 1) := by decide +kernel
theorem dX9_newTo_50 : decode cX9_newTo 50 = .ok (.getfield 26, 3) := by decide +kernel
theorem dX9_newTo_53 : decode cX9_newTo 53 = .ok (.iload 4, 2) := by decide +kernel
theorem dX9_newTo_55 : decode cX9_newTo 55 = .ok (.iaload, 1) := by decide +kernel
theorem dX9_newTo_56 : decode cX9_newTo 56 = .ok (.invokevirtual 331, 3) := by decide +kernel
theorem dX9_newTo_59 : decode cX9_newTo 59 = .ok (.ifCond .eq 24, 3) := by decide +kernel
theorem dX9_newTo_62 : decode cX9_newTo 62 = .ok (.aload_n 0, 1) := by decide +kernel
theorem dX9_newTo_63 : decode cX9_newTo 63 = .ok (.getfield 66, 3) := by decide +kernel
theorem dX9_newTo_66 : decode cX9_newTo 66 = .ok (.bipush 28, 2) := by decide +kernel
theorem dX9_newTo_68 : decode cX9_newTo 68 = .ok (.iload_n 1, 1) := by decide +kernel
theorem dX9_newTo_69 : decode cX9_newTo 69 = .ok (.iadd, 1) := by decide +kernel
theorem dX9_newTo_70 : decode cX9_newTo 70 = .ok (.iaload, 1) := by decide +kernel
theorem dX9_newTo_71 : decode cX9_newTo 71 = .ok (.iload 4, 2) := by decide +kernel
theorem dX9_newTo_73 : decode cX9_newTo 73 = .ok (.ishr, 1) := by decide +kernel
theorem dX9_newTo_74 : decode cX9_newTo 74 = .ok (.iconst 1, 1) := by decide +kernel
theorem dX9_newTo_75 : decode cX9_newTo 75 = .ok (.iand, 1) := by decide +kernel
theorem dX9_newTo_76 : decode cX9_newTo 76 = .ok (.ifCond .ne 7, 3) := by decide +kernel
theorem dX9_newTo_79 : decode cX9_newTo 79 = .ok (.iconst 1, 1) := by decide +kernel
theorem dX9_newTo_80 : decode cX9_newTo 80 = .ok (.goto 4, 3) := by decide +kernel
theorem dX9_newTo_83 : decode cX9_newTo 83 = .ok (.iconst 0, 1) := by decide +kernel
theorem dX9_newTo_84 : decode cX9_newTo 84 = .ok (.iadd, 1) := by decide +kernel
theorem dX9_newTo_85 : decode cX9_newTo 85 = .ok (.istore_n 3, 1) := by decide +kernel
theorem dX9_newTo_86 : decode cX9_newTo 86 = .ok (.iinc 4 1, 3) := by decide +kernel
theorem dX9_newTo_89 : decode cX9_newTo 89 = .ok (.goto (-84), 3) := by decide +kernel
theorem dX9_newTo_92 : decode cX9_newTo 92 = .ok (.iload_n 3, 1) := by decide +kernel
theorem dX9_newTo_93 : decode cX9_newTo 93 = .ok (.ireturn, 1) := by decide +kernel
theorem dX9_bears_0 : decode cX9_bears 0 = .ok (.iconst 0, 1) := by decide +kernel
theorem dX9_bears_1 : decode cX9_bears 1 = .ok (.istore_n 2, 1) := by decide +kernel
theorem dX9_bears_2 : decode cX9_bears 2 = .ok (.iconst 0, 1) := by decide +kernel
theorem dX9_bears_3 : decode cX9_bears 3 = .ok (.istore_n 3, 1) := by decide +kernel
theorem dX9_bears_4 : decode cX9_bears 4 = .ok (.iload_n 3, 1) := by decide +kernel
theorem dX9_bears_5 : decode cX9_bears 5 = .ok (.aload_n 0, 1) := by decide +kernel
theorem dX9_bears_6 : decode cX9_bears 6 = .ok (.getfield 280, 3) := by decide +kernel
theorem dX9_bears_9 : decode cX9_bears 9 = .ok (.if_icmp .ge 35, 3) := by decide +kernel
theorem dX9_bears_12 : decode cX9_bears 12 = .ok (.iload_n 2, 1) := by decide +kernel
theorem dX9_bears_13 : decode cX9_bears 13 = .ok (.aload_n 0, 1) := by decide +kernel
theorem dX9_bears_14 : decode cX9_bears 14 = .ok (.getfield 66, 3) := by decide +kernel
theorem dX9_bears_17 : decode cX9_bears 17 = .ok (.bipush 19, 2) := by decide +kernel
theorem dX9_bears_19 : decode cX9_bears 19 = .ok (.iload_n 3, 1) := by decide +kernel
theorem dX9_bears_20 : decode cX9_bears 20 = .ok (.iadd, 1) := by decide +kernel
theorem dX9_bears_21 : decode cX9_bears 21 = .ok (.iaload, 1) := by decide +kernel
theorem dX9_bears_22 : decode cX9_bears 22 = .ok (.bipush 10, 2) := by decide +kernel
theorem dX9_bears_24 : decode cX9_bears 24 = .ok (.iload_n 1, 1) := by decide +kernel
theorem dX9_bears_25 : decode cX9_bears 25 = .ok (.iadd, 1) := by decide +kernel
theorem dX9_bears_26 : decode cX9_bears 26 = .ok (.if_icmp .ne 9, 3) := by decide +kernel
theorem dX9_bears_29 : decode cX9_bears 29 = .ok (.iconst 1, 1) := by decide +kernel
theorem dX9_bears_30 : decode cX9_bears 30 = .ok (.iload_n 3, 1) := by decide +kernel
theorem dX9_bears_31 : decode cX9_bears 31 = .ok (.ishl, 1) := by decide +kernel
theorem dX9_bears_32 : decode cX9_bears 32 = .ok (.goto 4, 3) := by decide +kernel
theorem dX9_bears_35 : decode cX9_bears 35 = .ok (.iconst 0, 1) := by decide +kernel
theorem dX9_bears_36 : decode cX9_bears 36 = .ok (.ior, 1) := by decide +kernel
theorem dX9_bears_37 : decode cX9_bears 37 = .ok (.istore_n 2, 1) := by decide +kernel
theorem dX9_bears_38 : decode cX9_bears 38 = .ok (.iinc 3 1, 3) := by decide +kernel
theorem dX9_bears_41 : decode cX9_bears 41 = .ok (.goto (-37), 3) := by decide +kernel
theorem dX9_bears_44 : decode cX9_bears 44 = .ok (.iload_n 2, 1) := by decide +kernel
theorem dX9_bears_45 : decode cX9_bears 45 = .ok (.ireturn, 1) := by decide +kernel
theorem dX9_gains_0 : decode cX9_gains 0 = .ok (.aload_n 0, 1) := by decide +kernel
theorem dX9_gains_1 : decode cX9_gains 1 = .ok (.iload_n 1, 1) := by decide +kernel
theorem dX9_gains_2 : decode cX9_gains 2 = .ok (.invokevirtual 444, 3) := by decide +kernel
theorem dX9_gains_5 : decode cX9_gains 5 = .ok (.iload 4, 2) := by decide +kernel
theorem dX9_gains_7 : decode cX9_gains 7 = .ok (.iconst 1, 1) := by decide +kernel
theorem dX9_gains_8 : decode cX9_gains 8 = .ok (.if_icmp .ne 11, 3) := by decide +kernel
theorem dX9_gains_11 : decode cX9_gains 11 = .ok (.aload_n 0, 1) := by decide +kernel
theorem dX9_gains_12 : decode cX9_gains 12 = .ok (.iload_n 2, 1) := by decide +kernel
theorem dX9_gains_13 : decode cX9_gains 13 = .ok (.invokevirtual 444, 3) := by decide +kernel
theorem dX9_gains_16 : decode cX9_gains 16 = .ok (.goto 4, 3) := by decide +kernel
theorem dX9_gains_19 : decode cX9_gains 19 = .ok (.iconst 0, 1) := by decide +kernel
theorem dX9_gains_20 : decode cX9_gains 20 = .ok (.ior, 1) := by decide +kernel
theorem dX9_gains_21 : decode cX9_gains 21 = .ok (.istore 5, 2) := by decide +kernel
theorem dX9_gains_23 : decode cX9_gains 23 = .ok (.aload_n 0, 1) := by decide +kernel
theorem dX9_gains_24 : decode cX9_gains 24 = .ok (.iload_n 2, 1) := by decide +kernel
theorem dX9_gains_25 : decode cX9_gains 25 = .ok (.invokevirtual 444, 3) := by decide +kernel
theorem dX9_gains_28 : decode cX9_gains 28 = .ok (.iload_n 3, 1) := by decide +kernel
theorem dX9_gains_29 : decode cX9_gains 29 = .ok (.iconst 1, 1) := by decide +kernel
theorem dX9_gains_30 : decode cX9_gains 30 = .ok (.if_icmp .ne 11, 3) := by decide +kernel
theorem dX9_gains_33 : decode cX9_gains 33 = .ok (.aload_n 0, 1) := by decide +kernel
theorem dX9_gains_34 : decode cX9_gains 34 = .ok (.iload_n 1, 1) := by decide +kernel
theorem dX9_gains_35 : decode cX9_gains 35 = .ok (.invokevirtual 444, 3) := by decide +kernel
theorem dX9_gains_38 : decode cX9_gains 38 = .ok (.goto 4, 3) := by decide +kernel
theorem dX9_gains_41 : decode cX9_gains 41 = .ok (.iconst 0, 1) := by decide +kernel
theorem dX9_gains_42 : decode cX9_gains 42 = .ok (.ior, 1) := by decide +kernel
theorem dX9_gains_43 : decode cX9_gains 43 = .ok (.istore 6, 2) := by decide +kernel
theorem dX9_gains_45 : decode cX9_gains 45 = .ok (.iconst 3, 1) := by decide +kernel
theorem dX9_gains_46 : decode cX9_gains 46 = .ok (.aload_n 0, 1) := by decide +kernel
theorem dX9_gains_47 : decode cX9_gains 47 = .ok (.iload_n 1, 1) := by decide +kernel
theorem dX9_gains_48 : decode cX9_gains 48 = .ok (.iload 5, 2) := by decide +kernel
theorem dX9_gains_50 : decode cX9_gains 50 = .ok (.invokevirtual 447, 3) := by decide +kernel
theorem dX9_gains_53 : decode cX9_gains 53 = .ok (.imul, 1) := by decide +kernel
theorem dX9_gains_54 : decode cX9_gains 54 = .ok (.iconst 2, 1) := by decide +kernel
theorem dX9_gains_55 : decode cX9_gains 55 = .ok (.aload_n 0, 1) := by decide +kernel
theorem dX9_gains_56 : decode cX9_gains 56 = .ok (.iload_n 2, 1) := by decide +kernel
theorem dX9_gains_57 : decode cX9_gains 57 = .ok (.iload 6, 2) := by decide +kernel
theorem dX9_gains_59 : decode cX9_gains 59 = .ok (.invokevirtual 447, 3) := by decide +kernel
theorem dX9_gains_62 : decode cX9_gains 62 = .ok (.imul, 1) := by decide +kernel
theorem dX9_gains_63 : decode cX9_gains 63 = .ok (.isub, 1) := by decide +kernel
theorem dX9_gains_64 : decode cX9_gains 64 = .ok (.ireturn, 1) := by decide +kernel
theorem dX9_game_0 : decode cX9_game 0 = .ok (.aload_n 0, 1) := by decide +kernel
theorem dX9_game_1 : decode cX9_game 1 = .ok (.iconst 0, 1) := by decide +kernel
theorem dX9_game_2 : decode cX9_game 2 = .ok (.putfield 102, 3) := by decide +kernel
theorem dX9_game_5 : decode cX9_game 5 = .ok (.aload_n 0, 1) := by decide +kernel
theorem dX9_game_6 : decode cX9_game 6 = .ok (.iload_n 1, 1) := by decide +kernel
theorem dX9_game_7 : decode cX9_game 7 = .ok (.invokevirtual 387, 3) := by decide +kernel
theorem dX9_game_10 : decode cX9_game 10 = .ok (.ifCond .eq 38, 3) := by decide +kernel
theorem dX9_game_13 : decode cX9_game 13 = .ok (.aload_n 0, 1) := by decide +kernel
theorem dX9_game_14 : decode cX9_game 14 = .ok (.iload_n 2, 1) := by decide +kernel
theorem dX9_game_15 : decode cX9_game 15 = .ok (.invokevirtual 387, 3) := by decide +kernel
theorem dX9_game_18 : decode cX9_game 18 = .ok (.ifCond .eq 30, 3) := by decide +kernel
theorem dX9_game_21 : decode cX9_game 21 = .ok (.aload_n 0, 1) := by decide +kernel
theorem dX9_game_22 : decode cX9_game 22 = .ok (.iload_n 3, 1) := by decide +kernel
theorem dX9_game_23 : decode cX9_game 23 = .ok (.iconst 1, 1) := by decide +kernel
theorem dX9_game_24 : decode cX9_game 24 = .ok (.invokevirtual 381, 3) := by decide +kernel
theorem dX9_game_27 : decode cX9_game 27 = .ok (.ifCond .eq 21, 3) := by decide +kernel
theorem dX9_game_30 : decode cX9_game 30 = .ok (.aload_n 0, 1) := by decide +kernel
theorem dX9_game_31 : decode cX9_game 31 = .ok (.iload_n 1, 1) := by decide +kernel
theorem dX9_game_32 : decode cX9_game 32 = .ok (.iload_n 2, 1) := by decide +kernel
theorem dX9_game_33 : decode cX9_game 33 = .ok (.if_icmp .eq 7, 3) := by decide +kernel
theorem dX9_game_36 : decode cX9_game 36 = .ok (.iconst 1, 1) := by decide +kernel
theorem dX9_game_37 : decode cX9_game 37 = .ok (.goto 4, 3) := by decide +kernel
theorem dX9_game_40 : decode cX9_game 40 = .ok (.iconst 0, 1) := by decide +kernel
theorem dX9_game_41 : decode cX9_game 41 = .ok (.iconst 2, 1) := by decide +kernel
theorem dX9_game_42 : decode cX9_game 42 = .ok (.invokevirtual 273, 3) := by decide +kernel
theorem dX9_game_45 : decode cX9_game 45 = .ok (.ifCond .ne 5, 3) := by decide +kernel
theorem dX9_game_48 : decode cX9_game 48 = .ok (.iconst 0, 1) := by decide +kernel
theorem dX9_game_49 : decode cX9_game 49 = .ok (.ireturn, 1) := by decide +kernel
theorem dX9_game_50 : decode cX9_game 50 = .ok (.iconst 0, 1) := by decide +kernel
theorem dX9_game_51 : decode cX9_game 51 = .ok (.istore 4, 2) := by decide +kernel
theorem dX9_game_53 : decode cX9_game 53 = .ok (.iconst (-1), 1) := by decide +kernel
theorem dX9_game_54 : decode cX9_game 54 = .ok (.istore 5, 2) := by decide +kernel
theorem dX9_game_56 : decode cX9_game 56 = .ok (.iconst 0, 1) := by decide +kernel
theorem dX9_game_57 : decode cX9_game 57 = .ok (.istore 6, 2) := by decide +kernel
theorem dX9_game_59 : decode cX9_game 59 = .ok (.iload 6, 2) := by decide +kernel
theorem dX9_game_61 : decode cX9_game 61 = .ok (.iconst 4, 1) := by decide +kernel
theorem dX9_game_62 : decode cX9_game 62 = .ok (.if_icmp .ge 93, 3) := by decide +kernel
theorem dX9_game_65 : decode cX9_game 65 = .ok (.iload 6, 2) := by decide +kernel
theorem dX9_game_67 : decode cX9_game 67 = .ok (.iconst 2, 1) := by decide +kernel
theorem dX9_game_68 : decode cX9_game 68 = .ok (.idiv, 1) := by decide +kernel
theorem dX9_game_69 : decode cX9_game 69 = .ok (.istore 7, 2) := by decide +kernel
theorem dX9_game_71 : decode cX9_game 71 = .ok (.iload 6, 2) := by decide +kernel
theorem dX9_game_73 : decode cX9_game 73 = .ok (.iconst 2, 1) := by decide +kernel
theorem dX9_game_74 : decode cX9_game 74 = .ok (.irem, 1) := by decide +kernel
theorem dX9_game_75 : decode cX9_game 75 = .ok (.istore 8, 2) := by decide +kernel
theorem dX9_game_77 : decode cX9_game 77 = .ok (.aload_n 0, 1) := by decide +kernel
theorem dX9_game_78 : decode cX9_game 78 = .ok (.iload_n 1, 1) := by decide +kernel
theorem dX9_game_79 : decode cX9_game 79 = .ok (.iload_n 2, 1) := by decide +kernel
theorem dX9_game_80 : decode cX9_game 80 = .ok (.iconst 1, 1) := by decide +kernel
theorem dX9_game_81 : decode cX9_game 81 = .ok (.iload 7, 2) := by decide +kernel
theorem dX9_game_83 : decode cX9_game 83 = .ok (.isub, 1) := by decide +kernel
theorem dX9_game_84 : decode cX9_game 84 = .ok (.iload 8, 2) := by decide +kernel
theorem dX9_game_86 : decode cX9_game 86 = .ok (.invokevirtual 450, 3) := by decide +kernel
theorem dX9_game_89 : decode cX9_game 89 = .ok (.aload_n 0, 1) := by decide +kernel
theorem dX9_game_90 : decode cX9_game 90 = .ok (.iload_n 1, 1) := by decide +kernel
theorem dX9_game_91 : decode cX9_game 91 = .ok (.iload_n 2, 1) := by decide +kernel
theorem dX9_game_92 : decode cX9_game 92 = .ok (.iload 7, 2) := by decide +kernel
theorem dX9_game_94 : decode cX9_game 94 = .ok (.iload 8, 2) := by decide +kernel
theorem dX9_game_96 : decode cX9_game 96 = .ok (.invokevirtual 450, 3) := by decide +kernel
theorem dX9_game_99 : decode cX9_game 99 = .ok (.if_icmp .gt 50, 3) := by decide +kernel
theorem dX9_game_102 : decode cX9_game 102 = .ok (.aload_n 0, 1) := by decide +kernel
theorem dX9_game_103 : decode cX9_game 103 = .ok (.iload_n 2, 1) := by decide +kernel
theorem dX9_game_104 : decode cX9_game 104 = .ok (.iload_n 1, 1) := by decide +kernel
theorem dX9_game_105 : decode cX9_game 105 = .ok (.iconst 1, 1) := by decide +kernel
theorem dX9_game_106 : decode cX9_game 106 = .ok (.iload 8, 2) := by decide +kernel
theorem dX9_game_108 : decode cX9_game 108 = .ok (.isub, 1) := by decide +kernel
theorem dX9_game_109 : decode cX9_game 109 = .ok (.iload 7, 2) := by decide +kernel
theorem dX9_game_111 : decode cX9_game 111 = .ok (.invokevirtual 450, 3) := by decide +kernel
theorem dX9_game_114 : decode cX9_game 114 = .ok (.aload_n 0, 1) := by decide +kernel
theorem dX9_game_115 : decode cX9_game 115 = .ok (.iload_n 2, 1) := by decide +kernel
theorem dX9_game_116 : decode cX9_game 116 = .ok (.iload_n 1, 1) := by decide +kernel
theorem dX9_game_117 : decode cX9_game 117 = .ok (.iload 8, 2) := by decide +kernel
theorem dX9_game_119 : decode cX9_game 119 = .ok (.iload 7, 2) := by decide +kernel
theorem dX9_game_121 : decode cX9_game 121 = .ok (.invokevirtual 450, 3) := by decide +kernel
theorem dX9_game_124 : decode cX9_game 124 = .ok (.if_icmp .le 6, 3) := by decide +kernel
theorem dX9_game_127 : decode cX9_game 127 = .ok (.goto 22, 3) := by decide +kernel
theorem dX9_game_130 : decode cX9_game 130 = .ok (.iinc 4 1, 3) := by decide +kernel
theorem dX9_game_133 : decode cX9_game 133 = .ok (.iload 5, 2) := by decide +kernel
theorem dX9_game_135 : decode cX9_game 135 = .ok (.iconst (-1), 1) := by decide +kernel
theorem dX9_game_136 : decode cX9_game 136 = .ok (.if_icmp .ne 13, 3) := by decide +kernel
theorem dX9_game_139 : decode cX9_game 139 = .ok (.bipush 10, 2) := by decide +kernel
theorem dX9_game_141 : decode cX9_game 141 = .ok (.iload 7, 2) := by decide +kernel
theorem dX9_game_143 : decode cX9_game 143 = .ok (.imul, 1) := by decide +kernel
theorem dX9_game_144 : decode cX9_game 144 = .ok (.iload 8, 2) := by decide +kernel
theorem dX9_game_146 : decode cX9_game 146 = .ok (.iadd, 1) := by decide +kernel
theorem dX9_game_147 : decode cX9_game 147 = .ok (.istore 5, 2) := by decide +kernel
theorem dX9_game_149 : decode cX9_game 149 = .ok (.iinc 6 1, 3) := by decide +kernel
theorem dX9_game_152 : decode cX9_game 152 = .ok (.goto (-93), 3) := by decide +kernel
theorem dX9_game_155 : decode cX9_game 155 = .ok (.iload_n 3, 1) := by decide +kernel
theorem dX9_game_156 : decode cX9_game 156 = .ok (.ifCond .ne 8, 3) := by decide +kernel
theorem dX9_game_159 : decode cX9_game 159 = .ok (.iload 4, 2) := by decide +kernel
theorem dX9_game_161 : decode cX9_game 161 = .ok (.goto 5, 3) := by decide +kernel
theorem dX9_game_164 : decode cX9_game 164 = .ok (.iload 5, 2) := by decide +kernel
theorem dX9_game_166 : decode cX9_game 166 = .ok (.ireturn, 1) := by decide +kernel
theorem dX9_draw_0 : decode cX9_draw 0 = .ok (.aload_n 0, 1) := by decide +kernel
theorem dX9_draw_1 : decode cX9_draw 1 = .ok (.aload_n 0, 1) := by decide +kernel
theorem dX9_draw_2 : decode cX9_draw 2 = .ok (.getfield 454, 3) := by decide +kernel
theorem dX9_draw_5 : decode cX9_draw 5 = .ok (.ldc_w 457, 3) := by decide +kernel
theorem dX9_draw_8 : decode cX9_draw 8 = .ok (.imul, 1) := by decide +kernel
theorem dX9_draw_9 : decode cX9_draw 9 = .ok (.sipush 12345, 3) := by decide +kernel
theorem dX9_draw_12 : decode cX9_draw 12 = .ok (.iadd, 1) := by decide +kernel
theorem dX9_draw_13 : decode cX9_draw 13 = .ok (.putfield 454, 3) := by decide +kernel
theorem dX9_draw_16 : decode cX9_draw 16 = .ok (.aload_n 0, 1) := by decide +kernel
theorem dX9_draw_17 : decode cX9_draw 17 = .ok (.getfield 454, 3) := by decide +kernel
theorem dX9_draw_20 : decode cX9_draw 20 = .ok (.bipush 16, 2) := by decide +kernel
theorem dX9_draw_22 : decode cX9_draw 22 = .ok (.ishr, 1) := by decide +kernel
theorem dX9_draw_23 : decode cX9_draw 23 = .ok (.sipush 32767, 3) := by decide +kernel
theorem dX9_draw_26 : decode cX9_draw 26 = .ok (.iand, 1) := by decide +kernel
theorem dX9_draw_27 : decode cX9_draw 27 = .ok (.iload_n 1, 1) := by decide +kernel
theorem dX9_draw_28 : decode cX9_draw 28 = .ok (.irem, 1) := by decide +kernel
theorem dX9_draw_29 : decode cX9_draw 29 = .ok (.ireturn, 1) := by decide +kernel
theorem dX9_takesLeast_0 : decode cX9_takesLeast 0 = .ok (.iconst 0, 1) := by decide +kernel
theorem dX9_takesLeast_1 : decode cX9_takesLeast 1 = .ok (.istore_n 2, 1) := by decide +kernel
theorem dX9_takesLeast_2 : decode cX9_takesLeast 2 = .ok (.iload_n 2, 1) := by decide +kernel
theorem dX9_takesLeast_3 : decode cX9_takesLeast 3 = .ok (.aload_n 0, 1) := by decide +kernel
theorem dX9_takesLeast_4 : decode cX9_takesLeast 4 = .ok (.getfield 280, 3) := by decide +kernel
theorem dX9_takesLeast_7 : decode cX9_takesLeast 7 = .ok (.if_icmp .ge 45, 3) := by decide +kernel
theorem dX9_takesLeast_10 : decode cX9_takesLeast 10 = .ok (.aload_n 0, 1) := by decide +kernel
theorem dX9_takesLeast_11 : decode cX9_takesLeast 11 = .ok (.getfield 66, 3) := by decide +kernel
theorem dX9_takesLeast_14 : decode cX9_takesLeast 14 = .ok (.bipush 53, 2) := by decide +kernel
theorem dX9_takesLeast_16 : decode cX9_takesLeast 16 = .ok (.iload_n 2, 1) := by decide +kernel
theorem dX9_takesLeast_17 : decode cX9_takesLeast 17 = .ok (.iadd, 1) := by decide +kernel
theorem dX9_takesLeast_18 : decode cX9_takesLeast 18 = .ok (.iaload, 1) := by decide +kernel
theorem dX9_takesLeast_19 : decode cX9_takesLeast 19 = .ok (.aload_n 0, 1) := by decide +kernel
theorem dX9_takesLeast_20 : decode cX9_takesLeast 20 = .ok (.bipush 34, 2) := by decide +kernel
theorem dX9_takesLeast_22 : decode cX9_takesLeast 22 = .ok (.iload_n 1, 1) := by decide +kernel
theorem dX9_takesLeast_23 : decode cX9_takesLeast 23 = .ok (.invokevirtual 313, 3) := by decide +kernel
theorem dX9_takesLeast_26 : decode cX9_takesLeast 26 = .ok (.if_icmp .eq 6, 3) := by decide +kernel
theorem dX9_takesLeast_29 : decode cX9_takesLeast 29 = .ok (.goto 17, 3) := by decide +kernel
theorem dX9_takesLeast_32 : decode cX9_takesLeast 32 = .ok (.aload_n 0, 1) := by decide +kernel
theorem dX9_takesLeast_33 : decode cX9_takesLeast 33 = .ok (.getfield 66, 3) := by decide +kernel
theorem dX9_takesLeast_36 : decode cX9_takesLeast 36 = .ok (.bipush 53, 2) := by decide +kernel
theorem dX9_takesLeast_38 : decode cX9_takesLeast 38 = .ok (.iload_n 2, 1) := by decide +kernel
theorem dX9_takesLeast_39 : decode cX9_takesLeast 39 = .ok (.iadd, 1) := by decide +kernel
theorem dX9_takesLeast_40 : decode cX9_takesLeast 40 = .ok (.bipush 10, 2) := by decide +kernel
theorem dX9_takesLeast_42 : decode cX9_takesLeast 42 = .ok (.iload_n 1, 1) := by decide +kernel
theorem dX9_takesLeast_43 : decode cX9_takesLeast 43 = .ok (.iadd, 1) := by decide +kernel
theorem dX9_takesLeast_44 : decode cX9_takesLeast 44 = .ok (.iastore, 1) := by decide +kernel
theorem dX9_takesLeast_45 : decode cX9_takesLeast 45 = .ok (.return_, 1) := by decide +kernel
theorem dX9_takesLeast_46 : decode cX9_takesLeast 46 = .ok (.iinc 2 1, 3) := by decide +kernel
theorem dX9_takesLeast_49 : decode cX9_takesLeast 49 = .ok (.goto (-47), 3) := by decide +kernel
theorem dX9_takesLeast_52 : decode cX9_takesLeast 52 = .ok (.return_, 1) := by decide +kernel
theorem dX9_happens_0 : decode cX9_happens 0 = .ok (.aload_n 0, 1) := by decide +kernel
theorem dX9_happens_1 : decode cX9_happens 1 = .ok (.bipush 6, 2) := by decide +kernel
theorem dX9_happens_3 : decode cX9_happens 3 = .ok (.invokevirtual 458, 3) := by decide +kernel
theorem dX9_happens_6 : decode cX9_happens 6 = .ok (.istore_n 1, 1) := by decide +kernel
theorem dX9_happens_7 : decode cX9_happens 7 = .ok (.iload_n 1, 1) := by decide +kernel
theorem dX9_happens_8 : decode cX9_happens 8 = .ok (.ifCond .ne 14, 3) := by decide +kernel
theorem dX9_happens_11 : decode cX9_happens 11 = .ok (.aload_n 0, 1) := by decide +kernel
theorem dX9_happens_12 : decode cX9_happens 12 = .ok (.bipush 34, 2) := by decide +kernel
theorem dX9_happens_14 : decode cX9_happens 14 = .ok (.aload_n 0, 1) := by decide +kernel
theorem dX9_happens_15 : decode cX9_happens 15 = .ok (.iconst 4, 1) := by decide +kernel
theorem dX9_happens_16 : decode cX9_happens 16 = .ok (.invokevirtual 458, 3) := by decide +kernel
theorem dX9_happens_19 : decode cX9_happens 19 = .ok (.invokevirtual 417, 3) := by decide +kernel
theorem dX9_happens_22 : decode cX9_happens 22 = .ok (.iload_n 1, 1) := by decide +kernel
theorem dX9_happens_23 : decode cX9_happens 23 = .ok (.iconst 1, 1) := by decide +kernel
theorem dX9_happens_24 : decode cX9_happens 24 = .ok (.if_icmp .ne 22, 3) := by decide +kernel
theorem dX9_happens_27 : decode cX9_happens 27 = .ok (.aload_n 0, 1) := by decide +kernel
theorem dX9_happens_28 : decode cX9_happens 28 = .ok (.getfield 283, 3) := by decide +kernel
theorem dX9_happens_31 : decode cX9_happens 31 = .ok (.ifCond .le 15, 3) := by decide +kernel
theorem dX9_happens_34 : decode cX9_happens 34 = .ok (.aload_n 0, 1) := by decide +kernel
theorem dX9_happens_35 : decode cX9_happens 35 = .ok (.aload_n 0, 1) := by decide +kernel
theorem dX9_happens_36 : decode cX9_happens 36 = .ok (.aload_n 0, 1) := by decide +kernel
theorem dX9_happens_37 : decode cX9_happens 37 = .ok (.getfield 283, 3) := by decide +kernel
theorem dX9_happens_40 : decode cX9_happens 40 = .ok (.invokevirtual 458, 3) := by decide +kernel
theorem dX9_happens_43 : decode cX9_happens 43 = .ok (.invokevirtual 461, 3) := by decide +kernel
theorem dX9_happens_46 : decode cX9_happens 46 = .ok (.iload_n 1, 1) := by decide +kernel
theorem dX9_happens_47 : decode cX9_happens 47 = .ok (.iconst 2, 1) := by decide +kernel
theorem dX9_happens_48 : decode cX9_happens 48 = .ok (.if_icmp .ne 10, 3) := by decide +kernel
theorem dX9_happens_51 : decode cX9_happens 51 = .ok (.aload_n 0, 1) := by decide +kernel
theorem dX9_happens_52 : decode cX9_happens 52 = .ok (.getfield 280, 3) := by decide +kernel
theorem dX9_happens_55 : decode cX9_happens 55 = .ok (.ifCond .ne 4, 3) := by decide +kernel
theorem dX9_happens_58 : decode cX9_happens 58 = .ok (.return_, 1) := by decide +kernel
theorem dX9_happens_59 : decode cX9_happens 59 = .ok (.aload_n 0, 1) := by decide +kernel
theorem dX9_happens_60 : decode cX9_happens 60 = .ok (.aload_n 0, 1) := by decide +kernel
theorem dX9_happens_61 : decode cX9_happens 61 = .ok (.getfield 280, 3) := by decide +kernel
theorem dX9_happens_64 : decode cX9_happens 64 = .ok (.invokevirtual 458, 3) := by decide +kernel
theorem dX9_happens_67 : decode cX9_happens 67 = .ok (.istore_n 2, 1) := by decide +kernel
theorem dX9_happens_68 : decode cX9_happens 68 = .ok (.aload_n 0, 1) := by decide +kernel
theorem dX9_happens_69 : decode cX9_happens 69 = .ok (.bipush 8, 2) := by decide +kernel
theorem dX9_happens_71 : decode cX9_happens 71 = .ok (.invokevirtual 458, 3) := by decide +kernel
theorem dX9_happens_74 : decode cX9_happens 74 = .ok (.istore_n 3, 1) := by decide +kernel
theorem dX9_happens_75 : decode cX9_happens 75 = .ok (.aload_n 0, 1) := by decide +kernel
theorem dX9_happens_76 : decode cX9_happens 76 = .ok (.bipush 34, 2) := by decide +kernel
theorem dX9_happens_78 : decode cX9_happens 78 = .ok (.iload_n 2, 1) := by decide +kernel
theorem dX9_happens_79 : decode cX9_happens 79 = .ok (.invokevirtual 319, 3) := by decide +kernel
theorem dX9_happens_82 : decode cX9_happens 82 = .ok (.ifCond .ne 18, 3) := by decide +kernel
theorem dX9_happens_85 : decode cX9_happens 85 = .ok (.aload_n 0, 1) := by decide +kernel
theorem dX9_happens_86 : decode cX9_happens 86 = .ok (.getfield 66, 3) := by decide +kernel
theorem dX9_happens_89 : decode cX9_happens 89 = .ok (.bipush 35, 2) := by decide +kernel
theorem dX9_happens_91 : decode cX9_happens 91 = .ok (.iload_n 2, 1) := by decide +kernel
theorem dX9_happens_92 : decode cX9_happens 92 = .ok (.iadd, 1) := by decide +kernel
theorem dX9_happens_93 : decode cX9_happens 93 = .ok (.dup2, 1) := by decide +kernel
theorem dX9_happens_94 : decode cX9_happens 94 = .ok (.iaload, 1) := by decide +kernel
theorem dX9_happens_95 : decode cX9_happens 95 = .ok (.iconst 1, 1) := by decide +kernel
theorem dX9_happens_96 : decode cX9_happens 96 = .ok (.iload_n 3, 1) := by decide +kernel
theorem dX9_happens_97 : decode cX9_happens 97 = .ok (.ishl, 1) := by decide +kernel
theorem dX9_happens_98 : decode cX9_happens 98 = .ok (.ixor, 1) := by decide +kernel
theorem dX9_happens_99 : decode cX9_happens 99 = .ok (.iastore, 1) := by decide +kernel
theorem dX9_happens_100 : decode cX9_happens 100 = .ok (.return_, 1) := by decide +kernel
theorem dX9_years_0 : decode cX9_years 0 = .ok (.aload_n 0, 1) := by decide +kernel
theorem dX9_years_1 : decode cX9_years 1 = .ok (.iconst 0, 1) := by decide +kernel
theorem dX9_years_2 : decode cX9_years 2 = .ok (.putfield 102, 3) := by decide +kernel
theorem dX9_years_5 : decode cX9_years 5 = .ok (.aload_n 0, 1) := by decide +kernel
theorem dX9_years_6 : decode cX9_years 6 = .ok (.iload_n 3, 1) := by decide +kernel
theorem dX9_years_7 : decode cX9_years 7 = .ok (.iconst 2, 1) := by decide +kernel
theorem dX9_years_8 : decode cX9_years 8 = .ok (.invokevirtual 381, 3) := by decide +kernel
theorem dX9_years_11 : decode cX9_years 11 = .ok (.ifCond .eq 13, 3) := by decide +kernel
theorem dX9_years_14 : decode cX9_years 14 = .ok (.aload_n 0, 1) := by decide +kernel
theorem dX9_years_15 : decode cX9_years 15 = .ok (.iload_n 2, 1) := by decide +kernel
theorem dX9_years_16 : decode cX9_years 16 = .ok (.iconst 0, 1) := by decide +kernel
theorem dX9_years_17 : decode cX9_years 17 = .ok (.iconst 2, 1) := by decide +kernel
theorem dX9_years_18 : decode cX9_years 18 = .ok (.invokevirtual 426, 3) := by decide +kernel
theorem dX9_years_21 : decode cX9_years 21 = .ok (.ifCond .ne 5, 3) := by decide +kernel
theorem dX9_years_24 : decode cX9_years 24 = .ok (.iconst 0, 1) := by decide +kernel
theorem dX9_years_25 : decode cX9_years 25 = .ok (.ireturn, 1) := by decide +kernel
theorem dX9_years_26 : decode cX9_years 26 = .ok (.aload_n 0, 1) := by decide +kernel
theorem dX9_years_27 : decode cX9_years 27 = .ok (.invokevirtual 420, 3) := by decide +kernel
theorem dX9_years_30 : decode cX9_years 30 = .ok (.aload_n 0, 1) := by decide +kernel
theorem dX9_years_31 : decode cX9_years 31 = .ok (.iload_n 1, 1) := by decide +kernel
theorem dX9_years_32 : decode cX9_years 32 = .ok (.putfield 454, 3) := by decide +kernel
theorem dX9_years_35 : decode cX9_years 35 = .ok (.iconst 0, 1) := by decide +kernel
theorem dX9_years_36 : decode cX9_years 36 = .ok (.istore 4, 2) := by decide +kernel
theorem dX9_years_38 : decode cX9_years 38 = .ok (.iload 4, 2) := by decide +kernel
theorem dX9_years_40 : decode cX9_years 40 = .ok (.iload_n 2, 1) := by decide +kernel
theorem dX9_years_41 : decode cX9_years 41 = .ok (.if_icmp .ge 19, 3) := by decide +kernel
theorem dX9_years_44 : decode cX9_years 44 = .ok (.aload_n 0, 1) := by decide +kernel
theorem dX9_years_45 : decode cX9_years 45 = .ok (.invokevirtual 464, 3) := by decide +kernel
theorem dX9_years_48 : decode cX9_years 48 = .ok (.aload_n 0, 1) := by decide +kernel
theorem dX9_years_49 : decode cX9_years 49 = .ok (.bipush 34, 2) := by decide +kernel
theorem dX9_years_51 : decode cX9_years 51 = .ok (.invokevirtual 357, 3) := by decide +kernel
theorem dX9_years_54 : decode cX9_years 54 = .ok (.iinc 4 1, 3) := by decide +kernel
theorem dX9_years_57 : decode cX9_years 57 = .ok (.goto (-19), 3) := by decide +kernel
theorem dX9_years_60 : decode cX9_years 60 = .ok (.iconst 0, 1) := by decide +kernel
theorem dX9_years_61 : decode cX9_years 61 = .ok (.istore 4, 2) := by decide +kernel
theorem dX9_years_63 : decode cX9_years 63 = .ok (.iconst 0, 1) := by decide +kernel
theorem dX9_years_64 : decode cX9_years 64 = .ok (.istore 5, 2) := by decide +kernel
theorem dX9_years_66 : decode cX9_years 66 = .ok (.iload 5, 2) := by decide +kernel
theorem dX9_years_68 : decode cX9_years 68 = .ok (.aload_n 0, 1) := by decide +kernel
theorem dX9_years_69 : decode cX9_years 69 = .ok (.getfield 280, 3) := by decide +kernel
theorem dX9_years_72 : decode cX9_years 72 = .ok (.if_icmp .ge 30, 3) := by decide +kernel
theorem dX9_years_75 : decode cX9_years 75 = .ok (.iload 4, 2) := by decide +kernel
theorem dX9_years_77 : decode cX9_years 77 = .ok (.aload_n 0, 1) := by decide +kernel
theorem dX9_years_78 : decode cX9_years 78 = .ok (.bipush 34, 2) := by decide +kernel
theorem dX9_years_80 : decode cX9_years 80 = .ok (.iload 5, 2) := by decide +kernel
theorem dX9_years_82 : decode cX9_years 82 = .ok (.invokevirtual 319, 3) := by decide +kernel
theorem dX9_years_85 : decode cX9_years 85 = .ok (.ifCond .eq 7, 3) := by decide +kernel
theorem dX9_years_88 : decode cX9_years 88 = .ok (.iconst 0, 1) := by decide +kernel
theorem dX9_years_89 : decode cX9_years 89 = .ok (.goto 4, 3) := by decide +kernel
theorem dX9_years_92 : decode cX9_years 92 = .ok (.iconst 1, 1) := by decide +kernel
theorem dX9_years_93 : decode cX9_years 93 = .ok (.iadd, 1) := by decide +kernel
theorem dX9_years_94 : decode cX9_years 94 = .ok (.istore 4, 2) := by decide +kernel
theorem dX9_years_96 : decode cX9_years 96 = .ok (.iinc 5 1, 3) := by decide +kernel
theorem dX9_years_99 : decode cX9_years 99 = .ok (.goto (-33), 3) := by decide +kernel
theorem dX9_years_102 : decode cX9_years 102 = .ok (.iload_n 3, 1) := by decide +kernel
theorem dX9_years_103 : decode cX9_years 103 = .ok (.ifCond .ne 19, 3) := by decide +kernel
theorem dX9_years_106 : decode cX9_years 106 = .ok (.aload_n 0, 1) := by decide +kernel
theorem dX9_years_107 : decode cX9_years 107 = .ok (.bipush 34, 2) := by decide +kernel
theorem dX9_years_109 : decode cX9_years 109 = .ok (.aload_n 0, 1) := by decide +kernel
theorem dX9_years_110 : decode cX9_years 110 = .ok (.invokevirtual 372, 3) := by decide +kernel
theorem dX9_years_113 : decode cX9_years 113 = .ok (.invokevirtual 338, 3) := by decide +kernel
theorem dX9_years_116 : decode cX9_years 116 = .ok (.invokestatic 316, 3) := by decide +kernel
theorem dX9_years_119 : decode cX9_years 119 = .ok (.goto 22, 3) := by decide +kernel
theorem dX9_years_122 : decode cX9_years 122 = .ok (.iload_n 3, 1) := by decide +kernel
theorem dX9_years_123 : decode cX9_years 123 = .ok (.iconst 1, 1) := by decide +kernel
theorem dX9_years_124 : decode cX9_years 124 = .ok (.if_icmp .ne 8, 3) := by decide +kernel
theorem dX9_years_127 : decode cX9_years 127 = .ok (.iload 4, 2) := by decide +kernel
theorem dX9_years_129 : decode cX9_years 129 = .ok (.goto 12, 3) := by decide +kernel
theorem dX9_years_132 : decode cX9_years 132 = .ok (.aload_n 0, 1) := by decide +kernel
theorem dX9_years_133 : decode cX9_years 133 = .ok (.bipush 34, 2) := by decide +kernel
theorem dX9_years_135 : decode cX9_years 135 = .ok (.invokevirtual 369, 3) := by decide +kernel
theorem dX9_years_138 : decode cX9_years 138 = .ok (.invokestatic 316, 3) := by decide +kernel
theorem dX9_years_141 : decode cX9_years 141 = .ok (.ireturn, 1) := by decide +kernel
theorem dX9_wisest_0 : decode cX9_wisest 0 = .ok (.aload_n 0, 1) := by decide +kernel
theorem dX9_wisest_1 : decode cX9_wisest 1 = .ok (.iconst 0, 1) := by decide +kernel
theorem dX9_wisest_2 : decode cX9_wisest 2 = .ok (.putfield 102, 3) := by decide +kernel
theorem dX9_wisest_5 : decode cX9_wisest 5 = .ok (.aload_n 0, 1) := by decide +kernel
theorem dX9_wisest_6 : decode cX9_wisest 6 = .ok (.iload_n 1, 1) := by decide +kernel
theorem dX9_wisest_7 : decode cX9_wisest 7 = .ok (.iconst 0, 1) := by decide +kernel
theorem dX9_wisest_8 : decode cX9_wisest 8 = .ok (.iconst 1, 1) := by decide +kernel
theorem dX9_wisest_9 : decode cX9_wisest 9 = .ok (.invokevirtual 426, 3) := by decide +kernel
theorem dX9_wisest_12 : decode cX9_wisest 12 = .ok (.ifCond .ne 5, 3) := by decide +kernel
theorem dX9_wisest_15 : decode cX9_wisest 15 = .ok (.iconst 0, 1) := by decide +kernel
theorem dX9_wisest_16 : decode cX9_wisest 16 = .ok (.ireturn, 1) := by decide +kernel
theorem dX9_wisest_17 : decode cX9_wisest 17 = .ok (.aload_n 0, 1) := by decide +kernel
theorem dX9_wisest_18 : decode cX9_wisest 18 = .ok (.iload_n 1, 1) := by decide +kernel
theorem dX9_wisest_19 : decode cX9_wisest 19 = .ok (.invokevirtual 429, 3) := by decide +kernel
theorem dX9_wisest_22 : decode cX9_wisest 22 = .ok (.iconst (-1), 1) := by decide +kernel
theorem dX9_wisest_23 : decode cX9_wisest 23 = .ok (.istore_n 2, 1) := by decide +kernel
theorem dX9_wisest_24 : decode cX9_wisest 24 = .ok (.iconst 0, 1) := by decide +kernel
theorem dX9_wisest_25 : decode cX9_wisest 25 = .ok (.istore_n 3, 1) := by decide +kernel
theorem dX9_wisest_26 : decode cX9_wisest 26 = .ok (.iload_n 3, 1) := by decide +kernel
theorem dX9_wisest_27 : decode cX9_wisest 27 = .ok (.aload_n 0, 1) := by decide +kernel
theorem dX9_wisest_28 : decode cX9_wisest 28 = .ok (.getfield 283, 3) := by decide +kernel
theorem dX9_wisest_31 : decode cX9_wisest 31 = .ok (.if_icmp .ge 43, 3) := by decide +kernel
theorem dX9_wisest_34 : decode cX9_wisest 34 = .ok (.iload_n 2, 1) := by decide +kernel
theorem dX9_wisest_35 : decode cX9_wisest 35 = .ok (.iconst (-1), 1) := by decide +kernel
theorem dX9_wisest_36 : decode cX9_wisest 36 = .ok (.if_icmp .eq 30, 3) := by decide +kernel
theorem dX9_wisest_39 : decode cX9_wisest 39 = .ok (.aload_n 0, 1) := by decide +kernel
theorem dX9_wisest_40 : decode cX9_wisest 40 = .ok (.getfield 66, 3) := by decide +kernel
theorem dX9_wisest_43 : decode cX9_wisest 43 = .ok (.bipush 62, 2) := by decide +kernel
theorem dX9_wisest_45 : decode cX9_wisest 45 = .ok (.iload_n 3, 1) := by decide +kernel
theorem dX9_wisest_46 : decode cX9_wisest 46 = .ok (.iadd, 1) := by decide +kernel
theorem dX9_wisest_47 : decode cX9_wisest 47 = .ok (.iaload, 1) := by decide +kernel
theorem dX9_wisest_48 : decode cX9_wisest 48 = .ok (.invokestatic 316, 3) := by decide +kernel
theorem dX9_wisest_51 : decode cX9_wisest 51 = .ok (.aload_n 0, 1) := by decide +kernel
theorem dX9_wisest_52 : decode cX9_wisest 52 = .ok (.getfield 66, 3) := by decide +kernel
theorem dX9_wisest_55 : decode cX9_wisest 55 = .ok (.bipush 62, 2) := by decide +kernel
theorem dX9_wisest_57 : decode cX9_wisest 57 = .ok (.iload_n 2, 1) := by decide +kernel
theorem dX9_wisest_58 : decode cX9_wisest 58 = .ok (.iadd, 1) := by decide +kernel
theorem dX9_wisest_59 : decode cX9_wisest 59 = .ok (.iaload, 1) := by decide +kernel
theorem dX9_wisest_60 : decode cX9_wisest 60 = .ok (.invokestatic 316, 3) := by decide +kernel
theorem dX9_wisest_63 : decode cX9_wisest 63 = .ok (.if_icmp .le 5, 3) := by decide +kernel
theorem dX9_wisest_66 : decode cX9_wisest 66 = .ok (.iload_n 3, 1) := by decide +kernel
theorem dX9_wisest_67 : decode cX9_wisest 67 = .ok (.istore_n 2, 1) := by decide +kernel
theorem dX9_wisest_68 : decode cX9_wisest 68 = .ok (.iinc 3 1, 3) := by decide +kernel
theorem dX9_wisest_71 : decode cX9_wisest 71 = .ok (.goto (-45), 3) := by decide +kernel
theorem dX9_wisest_74 : decode cX9_wisest 74 = .ok (.iload_n 2, 1) := by decide +kernel
theorem dX9_wisest_75 : decode cX9_wisest 75 = .ok (.ireturn, 1) := by decide +kernel
theorem dX9_company_0 : decode cX9_company 0 = .ok (.aload_n 0, 1) := by decide +kernel
theorem dX9_company_1 : decode cX9_company 1 = .ok (.iconst 0, 1) := by decide +kernel
theorem dX9_company_2 : decode cX9_company 2 = .ok (.putfield 102, 3) := by decide +kernel
theorem dX9_company_5 : decode cX9_company 5 = .ok (.aload_n 0, 1) := by decide +kernel
theorem dX9_company_6 : decode cX9_company 6 = .ok (.iload_n 1, 1) := by decide +kernel
theorem dX9_company_7 : decode cX9_company 7 = .ok (.invokevirtual 387, 3) := by decide +kernel
theorem dX9_company_10 : decode cX9_company 10 = .ok (.ifCond .eq 26, 3) := by decide +kernel
theorem dX9_company_13 : decode cX9_company 13 = .ok (.aload_n 0, 1) := by decide +kernel
theorem dX9_company_14 : decode cX9_company 14 = .ok (.iload_n 2, 1) := by decide +kernel
theorem dX9_company_15 : decode cX9_company 15 = .ok (.invokevirtual 387, 3) := by decide +kernel
theorem dX9_company_18 : decode cX9_company 18 = .ok (.ifCond .eq 18, 3) := by decide +kernel
theorem dX9_company_21 : decode cX9_company 21 = .ok (.aload_n 0, 1) := by decide +kernel
theorem dX9_company_22 : decode cX9_company 22 = .ok (.iload_n 3, 1) := by decide +kernel
theorem dX9_company_23 : decode cX9_company 23 = .ok (.iconst 1, 1) := by decide +kernel
theorem dX9_company_24 : decode cX9_company 24 = .ok (.bipush 60, 2) := by decide +kernel
theorem dX9_company_26 : decode cX9_company 26 = .ok (.invokestatic 363, 3) := by decide +kernel
theorem dX9_company_29 : decode cX9_company 29 = .ok (.iconst 2, 1) := by decide +kernel
theorem dX9_company_30 : decode cX9_company 30 = .ok (.invokevirtual 273, 3) := by decide +kernel
theorem dX9_company_33 : decode cX9_company 33 = .ok (.ifCond .ne 5, 3) := by decide +kernel
theorem dX9_company_36 : decode cX9_company 36 = .ok (.iconst 0, 1) := by decide +kernel
theorem dX9_company_37 : decode cX9_company 37 = .ok (.ireturn, 1) := by decide +kernel
theorem dX9_company_38 : decode cX9_company 38 = .ok (.iconst 0, 1) := by decide +kernel
theorem dX9_company_39 : decode cX9_company 39 = .ok (.istore 4, 2) := by decide +kernel
theorem dX9_company_41 : decode cX9_company 41 = .ok (.iconst 0, 1) := by decide +kernel
theorem dX9_company_42 : decode cX9_company 42 = .ok (.istore 5, 2) := by decide +kernel
theorem dX9_company_44 : decode cX9_company 44 = .ok (.iload 5, 2) := by decide +kernel
theorem dX9_company_46 : decode cX9_company 46 = .ok (.iload_n 3, 1) := by decide +kernel
theorem dX9_company_47 : decode cX9_company 47 = .ok (.if_icmp .ge 50, 3) := by decide +kernel
theorem dX9_company_50 : decode cX9_company 50 = .ok (.iload 4, 2) := by decide +kernel
theorem dX9_company_52 : decode cX9_company 52 = .ok (.aload_n 0, 1) := by decide +kernel
theorem dX9_company_53 : decode cX9_company 53 = .ok (.iload_n 1, 1) := by decide +kernel
theorem dX9_company_54 : decode cX9_company 54 = .ok (.aload_n 0, 1) := by decide +kernel
theorem dX9_company_55 : decode cX9_company 55 = .ok (.getfield 66, 3) := by decide +kernel
theorem dX9_company_58 : decode cX9_company 58 = .ok (.iconst 0, 1) := by decide +kernel
theorem dX9_company_59 : decode cX9_company 59 = .ok (.iaload, 1) := by decide +kernel
theorem dX9_company_60 : decode cX9_company 60 = .ok (.iload 5, 2) := by decide +kernel
theorem dX9_company_62 : decode cX9_company 62 = .ok (.iadd, 1) := by decide +kernel
theorem dX9_company_63 : decode cX9_company 63 = .ok (.invokevirtual 310, 3) := by decide +kernel
theorem dX9_company_66 : decode cX9_company 66 = .ok (.aload_n 0, 1) := by decide +kernel
theorem dX9_company_67 : decode cX9_company 67 = .ok (.iload_n 2, 1) := by decide +kernel
theorem dX9_company_68 : decode cX9_company 68 = .ok (.aload_n 0, 1) := by decide +kernel
theorem dX9_company_69 : decode cX9_company 69 = .ok (.getfield 66, 3) := by decide +kernel
theorem dX9_company_72 : decode cX9_company 72 = .ok (.iconst 0, 1) := by decide +kernel
theorem dX9_company_73 : decode cX9_company 73 = .ok (.iaload, 1) := by decide +kernel
theorem dX9_company_74 : decode cX9_company 74 = .ok (.iload 5, 2) := by decide +kernel
theorem dX9_company_76 : decode cX9_company 76 = .ok (.iadd, 1) := by decide +kernel
theorem dX9_company_77 : decode cX9_company 77 = .ok (.invokevirtual 310, 3) := by decide +kernel
theorem dX9_company_80 : decode cX9_company 80 = .ok (.if_icmp .ne 7, 3) := by decide +kernel
theorem dX9_company_83 : decode cX9_company 83 = .ok (.iconst 1, 1) := by decide +kernel
theorem dX9_company_84 : decode cX9_company 84 = .ok (.goto 4, 3) := by decide +kernel
theorem dX9_company_87 : decode cX9_company 87 = .ok (.iconst 0, 1) := by decide +kernel
theorem dX9_company_88 : decode cX9_company 88 = .ok (.iadd, 1) := by decide +kernel
theorem dX9_company_89 : decode cX9_company 89 = .ok (.istore 4, 2) := by decide +kernel
theorem dX9_company_91 : decode cX9_company 91 = .ok (.iinc 5 1, 3) := by decide +kernel
theorem dX9_company_94 : decode cX9_company 94 = .ok (.goto (-50), 3) := by decide +kernel
theorem dX9_company_97 : decode cX9_company 97 = .ok (.iload 4, 2) := by decide +kernel
theorem dX9_company_99 : decode cX9_company 99 = .ok (.ireturn, 1) := by decide +kernel
theorem dX9_together_0 : decode cX9_together 0 = .ok (.aload_n 0, 1) := by decide +kernel
theorem dX9_together_1 : decode cX9_together 1 = .ok (.iconst 0, 1) := by decide +kernel
theorem dX9_together_2 : decode cX9_together 2 = .ok (.putfield 102, 3) := by decide +kernel
theorem dX9_together_5 : decode cX9_together 5 = .ok (.aload_n 0, 1) := by decide +kernel
theorem dX9_together_6 : decode cX9_together 6 = .ok (.iload_n 1, 1) := by decide +kernel
theorem dX9_together_7 : decode cX9_together 7 = .ok (.iconst 1, 1) := by decide +kernel
theorem dX9_together_8 : decode cX9_together 8 = .ok (.bipush 6, 2) := by decide +kernel
theorem dX9_together_10 : decode cX9_together 10 = .ok (.invokestatic 363, 3) := by decide +kernel
theorem dX9_together_13 : decode cX9_together 13 = .ok (.iconst 1, 1) := by decide +kernel
theorem dX9_together_14 : decode cX9_together 14 = .ok (.invokevirtual 273, 3) := by decide +kernel
theorem dX9_together_17 : decode cX9_together 17 = .ok (.ifCond .ne 5, 3) := by decide +kernel
theorem dX9_together_20 : decode cX9_together 20 = .ok (.iconst 0, 1) := by decide +kernel
theorem dX9_together_21 : decode cX9_together 21 = .ok (.ireturn, 1) := by decide +kernel
theorem dX9_together_22 : decode cX9_together 22 = .ok (.iconst 0, 1) := by decide +kernel
theorem dX9_together_23 : decode cX9_together 23 = .ok (.istore_n 2, 1) := by decide +kernel
theorem dX9_together_24 : decode cX9_together 24 = .ok (.iload_n 2, 1) := by decide +kernel
theorem dX9_together_25 : decode cX9_together 25 = .ok (.bipush 60, 2) := by decide +kernel
theorem dX9_together_27 : decode cX9_together 27 = .ok (.if_icmp .gt 79, 3) := by decide +kernel
theorem dX9_together_30 : decode cX9_together 30 = .ok (.iconst 0, 1) := by decide +kernel
theorem dX9_together_31 : decode cX9_together 31 = .ok (.istore_n 3, 1) := by decide +kernel
theorem dX9_together_32 : decode cX9_together 32 = .ok (.iload_n 3, 1) := by decide +kernel
theorem dX9_together_33 : decode cX9_together 33 = .ok (.iconst 4, 1) := by decide +kernel
theorem dX9_together_34 : decode cX9_together 34 = .ok (.if_icmp .ge 66, 3) := by decide +kernel
theorem dX9_together_37 : decode cX9_together 37 = .ok (.iconst 0, 1) := by decide +kernel
theorem dX9_together_38 : decode cX9_together 38 = .ok (.istore 4, 2) := by decide +kernel
theorem dX9_together_40 : decode cX9_together 40 = .ok (.iconst 0, 1) := by decide +kernel
theorem dX9_together_41 : decode cX9_together 41 = .ok (.istore 5, 2) := by decide +kernel
theorem dX9_together_43 : decode cX9_together 43 = .ok (.iload 5, 2) := by decide +kernel
theorem dX9_together_45 : decode cX9_together 45 = .ok (.aload_n 0, 1) := by decide +kernel
theorem dX9_together_46 : decode cX9_together 46 = .ok (.getfield 283, 3) := by decide +kernel
theorem dX9_together_49 : decode cX9_together 49 = .ok (.if_icmp .ge 37, 3) := by decide +kernel
theorem dX9_together_52 : decode cX9_together 52 = .ok (.iload 4, 2) := by decide +kernel
theorem dX9_together_54 : decode cX9_together 54 = .ok (.aload_n 0, 1) := by decide +kernel
theorem dX9_together_55 : decode cX9_together 55 = .ok (.iload 5, 2) := by decide +kernel
theorem dX9_together_57 : decode cX9_together 57 = .ok (.aload_n 0, 1) := by decide +kernel
theorem dX9_together_58 : decode cX9_together 58 = .ok (.getfield 66, 3) := by decide +kernel
theorem dX9_together_61 : decode cX9_together 61 = .ok (.iconst 0, 1) := by decide +kernel
theorem dX9_together_62 : decode cX9_together 62 = .ok (.iaload, 1) := by decide +kernel
theorem dX9_together_63 : decode cX9_together 63 = .ok (.iload_n 2, 1) := by decide +kernel
theorem dX9_together_64 : decode cX9_together 64 = .ok (.iadd, 1) := by decide +kernel
theorem dX9_together_65 : decode cX9_together 65 = .ok (.invokevirtual 310, 3) := by decide +kernel
theorem dX9_together_68 : decode cX9_together 68 = .ok (.iload_n 3, 1) := by decide +kernel
theorem dX9_together_69 : decode cX9_together 69 = .ok (.if_icmp .ne 7, 3) := by decide +kernel
theorem dX9_together_72 : decode cX9_together 72 = .ok (.iconst 1, 1) := by decide +kernel
theorem dX9_together_73 : decode cX9_together 73 = .ok (.goto 4, 3) := by decide +kernel
theorem dX9_together_76 : decode cX9_together 76 = .ok (.iconst 0, 1) := by decide +kernel
theorem dX9_together_77 : decode cX9_together 77 = .ok (.iadd, 1) := by decide +kernel
theorem dX9_together_78 : decode cX9_together 78 = .ok (.istore 4, 2) := by decide +kernel
theorem dX9_together_80 : decode cX9_together 80 = .ok (.iinc 5 1, 3) := by decide +kernel
theorem dX9_together_83 : decode cX9_together 83 = .ok (.goto (-40), 3) := by decide +kernel
theorem dX9_together_86 : decode cX9_together 86 = .ok (.iload 4, 2) := by decide +kernel
theorem dX9_together_88 : decode cX9_together 88 = .ok (.iload_n 1, 1) := by decide +kernel
theorem dX9_together_89 : decode cX9_together 89 = .ok (.if_icmp .lt 5, 3) := by decide +kernel
theorem dX9_together_92 : decode cX9_together 92 = .ok (.iload_n 2, 1) := by decide +kernel
theorem dX9_together_93 : decode cX9_together 93 = .ok (.ireturn, 1) := by decide +kernel
theorem dX9_together_94 : decode cX9_together 94 = .ok (.iinc 3 1, 3) := by decide +kernel
theorem dX9_together_97 : decode cX9_together 97 = .ok (.goto (-65), 3) := by decide +kernel
theorem dX9_together_100 : decode cX9_together 100 = .ok (.iinc 2 1, 3) := by decide +kernel
theorem dX9_together_103 : decode cX9_together 103 = .ok (.goto (-79), 3) := by decide +kernel
theorem dX9_together_106 : decode cX9_together 106 = .ok (.iconst (-1), 1) := by decide +kernel
theorem dX9_together_107 : decode cX9_together 107 = .ok (.ireturn, 1) := by decide +kernel
theorem dX9_isOrphan_0 : decode cX9_isOrphan 0 = .ok (.aload_n 0, 1) := by decide +kernel
theorem dX9_isOrphan_1 : decode cX9_isOrphan 1 = .ok (.iconst 0, 1) := by decide +kernel
theorem dX9_isOrphan_2 : decode cX9_isOrphan 2 = .ok (.iload_n 1, 1) := by decide +kernel
theorem dX9_isOrphan_3 : decode cX9_isOrphan 3 = .ok (.invokevirtual 319, 3) := by decide +kernel
theorem dX9_isOrphan_6 : decode cX9_isOrphan 6 = .ok (.ifCond .ne 15, 3) := by decide +kernel
theorem dX9_isOrphan_9 : decode cX9_isOrphan 9 = .ok (.aload_n 0, 1) := by decide +kernel
theorem dX9_isOrphan_10 : decode cX9_isOrphan 10 = .ok (.iload_n 1, 1) := by decide +kernel
theorem dX9_isOrphan_11 : decode cX9_isOrphan 11 = .ok (.invokevirtual 384, 3) := by decide +kernel
theorem dX9_isOrphan_14 : decode cX9_isOrphan 14 = .ok (.ifCond .ne 7, 3) := by decide +kernel
theorem dX9_isOrphan_17 : decode cX9_isOrphan 17 = .ok (.iconst 1, 1) := by decide +kernel
theorem dX9_isOrphan_18 : decode cX9_isOrphan 18 = .ok (.goto 4, 3) := by decide +kernel
theorem dX9_isOrphan_21 : decode cX9_isOrphan 21 = .ok (.iconst 0, 1) := by decide +kernel
theorem dX9_isOrphan_22 : decode cX9_isOrphan 22 = .ok (.istore_n 2, 1) := by decide +kernel
theorem dX9_isOrphan_23 : decode cX9_isOrphan 23 = .ok (.iconst 0, 1) := by decide +kernel
theorem dX9_isOrphan_24 : decode cX9_isOrphan 24 = .ok (.istore_n 3, 1) := by decide +kernel
theorem dX9_isOrphan_25 : decode cX9_isOrphan 25 = .ok (.iload_n 3, 1) := by decide +kernel
theorem dX9_isOrphan_26 : decode cX9_isOrphan 26 = .ok (.aload_n 0, 1) := by decide +kernel
theorem dX9_isOrphan_27 : decode cX9_isOrphan 27 = .ok (.getfield 280, 3) := by decide +kernel
theorem dX9_isOrphan_30 : decode cX9_isOrphan 30 = .ok (.if_icmp .ge 29, 3) := by decide +kernel
theorem dX9_isOrphan_33 : decode cX9_isOrphan 33 = .ok (.iload_n 2, 1) := by decide +kernel
theorem dX9_isOrphan_34 : decode cX9_isOrphan 34 = .ok (.ifCond .eq 17, 3) := by decide +kernel
theorem dX9_isOrphan_37 : decode cX9_isOrphan 37 = .ok (.aload_n 0, 1) := by decide +kernel
theorem dX9_isOrphan_38 : decode cX9_isOrphan 38 = .ok (.iconst 0, 1) := by decide +kernel
theorem dX9_isOrphan_39 : decode cX9_isOrphan 39 = .ok (.iload_n 3, 1) := by decide +kernel
theorem dX9_isOrphan_40 : decode cX9_isOrphan 40 = .ok (.iload_n 1, 1) := by decide +kernel
theorem dX9_isOrphan_41 : decode cX9_isOrphan 41 = .ok (.invokevirtual 331, 3) := by decide +kernel
theorem dX9_isOrphan_44 : decode cX9_isOrphan 44 = .ok (.ifCond .ne 7, 3) := by decide +kernel
theorem dX9_isOrphan_47 : decode cX9_isOrphan 47 = .ok (.iconst 1, 1) := by decide +kernel
theorem dX9_isOrphan_48 : decode cX9_isOrphan 48 = .ok (.goto 4, 3) := by decide +kernel
theorem dX9_isOrphan_51 : decode cX9_isOrphan 51 = .ok (.iconst 0, 1) := by decide +kernel
theorem dX9_isOrphan_52 : decode cX9_isOrphan 52 = .ok (.istore_n 2, 1) := by decide +kernel
theorem dX9_isOrphan_53 : decode cX9_isOrphan 53 = .ok (.iinc 3 1, 3) := by decide +kernel
theorem dX9_isOrphan_56 : decode cX9_isOrphan 56 = .ok (.goto (-31), 3) := by decide +kernel
theorem dX9_isOrphan_59 : decode cX9_isOrphan 59 = .ok (.iload_n 2, 1) := by decide +kernel
theorem dX9_isOrphan_60 : decode cX9_isOrphan 60 = .ok (.ireturn, 1) := by decide +kernel
theorem dX9_hasWord_0 : decode cX9_hasWord 0 = .ok (.iconst 0, 1) := by decide +kernel
theorem dX9_hasWord_1 : decode cX9_hasWord 1 = .ok (.istore_n 3, 1) := by decide +kernel
theorem dX9_hasWord_2 : decode cX9_hasWord 2 = .ok (.iload_n 3, 1) := by decide +kernel
theorem dX9_hasWord_3 : decode cX9_hasWord 3 = .ok (.aload_n 0, 1) := by decide +kernel
theorem dX9_hasWord_4 : decode cX9_hasWord 4 = .ok (.getfield 286, 3) := by decide +kernel
theorem dX9_hasWord_7 : decode cX9_hasWord 7 = .ok (.if_icmp .ge 51, 3) := by decide +kernel
theorem dX9_hasWord_10 : decode cX9_hasWord 10 = .ok (.aload_n 0, 1) := by decide +kernel
theorem dX9_hasWord_11 : decode cX9_hasWord 11 = .ok (.getfield 23, 3) := by decide +kernel
theorem dX9_hasWord_14 : decode cX9_hasWord 14 = .ok (.iload_n 3, 1) := by decide +kernel
theorem dX9_hasWord_15 : decode cX9_hasWord 15 = .ok (.iaload, 1) := by decide +kernel
theorem dX9_hasWord_16 : decode cX9_hasWord 16 = .ok (.iload_n 1, 1) := by decide +kernel
theorem dX9_hasWord_17 : decode cX9_hasWord 17 = .ok (.if_icmp .ne 13, 3) := by decide +kernel
theorem dX9_hasWord_20 : decode cX9_hasWord 20 = .ok (.aload_n 0, 1) := by decide +kernel
theorem dX9_hasWord_21 : decode cX9_hasWord 21 = .ok (.getfield 26, 3) := by decide +kernel
theorem dX9_hasWord_24 : decode cX9_hasWord 24 = .ok (.iload_n 3, 1) := by decide +kernel
theorem dX9_hasWord_25 : decode cX9_hasWord 25 = .ok (.iaload, 1) := by decide +kernel
theorem dX9_hasWord_26 : decode cX9_hasWord 26 = .ok (.iload_n 2, 1) := by decide +kernel
theorem dX9_hasWord_27 : decode cX9_hasWord 27 = .ok (.if_icmp .eq 23, 3) := by decide +kernel
theorem dX9_hasWord_30 : decode cX9_hasWord 30 = .ok (.aload_n 0, 1) := by decide +kernel
theorem dX9_hasWord_31 : decode cX9_hasWord 31 = .ok (.getfield 23, 3) := by decide +kernel
theorem dX9_hasWord_34 : decode cX9_hasWord 34 = .ok (.iload_n 3, 1) := by decide +kernel
theorem dX9_hasWord_35 : decode cX9_hasWord 35 = .ok (.iaload, 1) := by decide +kernel
theorem dX9_hasWord_36 : decode cX9_hasWord 36 = .ok (.iload_n 2, 1) := by decide +kernel
theorem dX9_hasWord_37 : decode cX9_hasWord 37 = .ok (.if_icmp .ne 15, 3) := by decide +kernel
theorem dX9_hasWord_40 : decode cX9_hasWord 40 = .ok (.aload_n 0, 1) := by decide +kernel
theorem dX9_hasWord_41 : decode cX9_hasWord 41 = .ok (.getfield 26, 3) := by decide +kernel
theorem dX9_hasWord_44 : decode cX9_hasWord 44 = .ok (.iload_n 3, 1) := by decide +kernel
theorem dX9_hasWord_45 : decode cX9_hasWord 45 = .ok (.iaload, 1) := by decide +kernel
theorem dX9_hasWord_46 : decode cX9_hasWord 46 = .ok (.iload_n 1, 1) := by decide +kernel
theorem dX9_hasWord_47 : decode cX9_hasWord 47 = .ok (.if_icmp .ne 5, 3) := by decide +kernel
theorem dX9_hasWord_50 : decode cX9_hasWord 50 = .ok (.iconst 1, 1) := by decide +kernel
theorem dX9_hasWord_51 : decode cX9_hasWord 51 = .ok (.ireturn, 1) := by decide +kernel
theorem dX9_hasWord_52 : decode cX9_hasWord 52 = .ok (.iinc 3 1, 3) := by decide +kernel
theorem dX9_hasWord_55 : decode cX9_hasWord 55 = .ok (.goto (-53), 3) := by decide +kernel
theorem dX9_hasWord_58 : decode cX9_hasWord 58 = .ok (.iconst 0, 1) := by decide +kernel
theorem dX9_hasWord_59 : decode cX9_hasWord 59 = .ok (.ireturn, 1) := by decide +kernel
theorem dX9_odd_0 : decode cX9_odd 0 = .ok (.aload_n 0, 1) := by decide +kernel
theorem dX9_odd_1 : decode cX9_odd 1 = .ok (.iconst 0, 1) := by decide +kernel
theorem dX9_odd_2 : decode cX9_odd 2 = .ok (.putfield 102, 3) := by decide +kernel
theorem dX9_odd_5 : decode cX9_odd 5 = .ok (.aload_n 0, 1) := by decide +kernel
theorem dX9_odd_6 : decode cX9_odd 6 = .ok (.iload_n 1, 1) := by decide +kernel
theorem dX9_odd_7 : decode cX9_odd 7 = .ok (.iconst 3, 1) := by decide +kernel
theorem dX9_odd_8 : decode cX9_odd 8 = .ok (.invokevirtual 381, 3) := by decide +kernel
theorem dX9_odd_11 : decode cX9_odd 11 = .ok (.ifCond .ne 5, 3) := by decide +kernel
theorem dX9_odd_14 : decode cX9_odd 14 = .ok (.iconst 0, 1) := by decide +kernel
theorem dX9_odd_15 : decode cX9_odd 15 = .ok (.ireturn, 1) := by decide +kernel
theorem dX9_odd_16 : decode cX9_odd 16 = .ok (.iconst 0, 1) := by decide +kernel
theorem dX9_odd_17 : decode cX9_odd 17 = .ok (.istore_n 2, 1) := by decide +kernel
theorem dX9_odd_18 : decode cX9_odd 18 = .ok (.iload_n 1, 1) := by decide +kernel
theorem dX9_odd_19 : decode cX9_odd 19 = .ok (.ifCond .ne 40, 3) := by decide +kernel
theorem dX9_odd_22 : decode cX9_odd 22 = .ok (.iconst 0, 1) := by decide +kernel
theorem dX9_odd_23 : decode cX9_odd 23 = .ok (.istore_n 3, 1) := by decide +kernel
theorem dX9_odd_24 : decode cX9_odd 24 = .ok (.iload_n 3, 1) := by decide +kernel
theorem dX9_odd_25 : decode cX9_odd 25 = .ok (.aload_n 0, 1) := by decide +kernel
theorem dX9_odd_26 : decode cX9_odd 26 = .ok (.getfield 280, 3) := by decide +kernel
theorem dX9_odd_29 : decode cX9_odd 29 = .ok (.if_icmp .ge 27, 3) := by decide +kernel
theorem dX9_odd_32 : decode cX9_odd 32 = .ok (.iload_n 2, 1) := by decide +kernel
theorem dX9_odd_33 : decode cX9_odd 33 = .ok (.aload_n 0, 1) := by decide +kernel
theorem dX9_odd_34 : decode cX9_odd 34 = .ok (.iload_n 3, 1) := by decide +kernel
theorem dX9_odd_35 : decode cX9_odd 35 = .ok (.invokevirtual 467, 3) := by decide +kernel
theorem dX9_odd_38 : decode cX9_odd 38 = .ok (.ifCond .eq 9, 3) := by decide +kernel
theorem dX9_odd_41 : decode cX9_odd 41 = .ok (.iconst 1, 1) := by decide +kernel
theorem dX9_odd_42 : decode cX9_odd 42 = .ok (.iload_n 3, 1) := by decide +kernel
theorem dX9_odd_43 : decode cX9_odd 43 = .ok (.ishl, 1) := by decide +kernel
theorem dX9_odd_44 : decode cX9_odd 44 = .ok (.goto 4, 3) := by decide +kernel
theorem dX9_odd_47 : decode cX9_odd 47 = .ok (.iconst 0, 1) := by decide +kernel
theorem dX9_odd_48 : decode cX9_odd 48 = .ok (.ior, 1) := by decide +kernel
theorem dX9_odd_49 : decode cX9_odd 49 = .ok (.istore_n 2, 1) := by decide +kernel
theorem dX9_odd_50 : decode cX9_odd 50 = .ok (.iinc 3 1, 3) := by decide +kernel
theorem dX9_odd_53 : decode cX9_odd 53 = .ok (.goto (-29), 3) := by decide +kernel
theorem dX9_odd_56 : decode cX9_odd 56 = .ok (.goto 152, 3) := by decide +kernel
theorem dX9_odd_59 : decode cX9_odd 59 = .ok (.iload_n 1, 1) := by decide +kernel
theorem dX9_odd_60 : decode cX9_odd 60 = .ok (.iconst 3, 1) := by decide +kernel
theorem dX9_odd_61 : decode cX9_odd 61 = .ok (.if_icmp .ne 77, 3) := by decide +kernel
theorem dX9_odd_64 : decode cX9_odd 64 = .ok (.iconst 0, 1) := by decide +kernel
theorem dX9_odd_65 : decode cX9_odd 65 = .ok (.istore_n 3, 1) := by decide +kernel
theorem dX9_odd_66 : decode cX9_odd 66 = .ok (.iload_n 3, 1) := by decide +kernel
theorem dX9_odd_67 : decode cX9_odd 67 = .ok (.aload_n 0, 1) := by decide +kernel
theorem dX9_odd_68 : decode cX9_odd 68 = .ok (.getfield 280, 3) := by decide +kernel
theorem dX9_odd_71 : decode cX9_odd 71 = .ok (.if_icmp .ge 64, 3) := by decide +kernel
theorem dX9_odd_74 : decode cX9_odd 74 = .ok (.iconst 0, 1) := by decide +kernel
theorem dX9_odd_75 : decode cX9_odd 75 = .ok (.istore 4, 2) := by decide +kernel
theorem dX9_odd_77 : decode cX9_odd 77 = .ok (.iload 4, 2) := by decide +kernel
theorem dX9_odd_79 : decode cX9_odd 79 = .ok (.iload_n 3, 1) := by decide +kernel
theorem dX9_odd_80 : decode cX9_odd 80 = .ok (.if_icmp .ge 49, 3) := by decide +kernel
theorem dX9_odd_83 : decode cX9_odd 83 = .ok (.iload_n 2, 1) := by decide +kernel
theorem dX9_odd_84 : decode cX9_odd 84 = .ok (.aload_n 0, 1) := by decide +kernel
theorem dX9_odd_85 : decode cX9_odd 85 = .ok (.iconst 0, 1) := by decide +kernel
theorem dX9_odd_86 : decode cX9_odd 86 = .ok (.iload_n 3, 1) := by decide +kernel
theorem dX9_odd_87 : decode cX9_odd 87 = .ok (.iload 4, 2) := by decide +kernel
theorem dX9_odd_89 : decode cX9_odd 89 = .ok (.invokevirtual 331, 3) := by decide +kernel
theorem dX9_odd_92 : decode cX9_odd 92 = .ok (.ifCond .ne 14, 3) := by decide +kernel
theorem dX9_odd_95 : decode cX9_odd 95 = .ok (.aload_n 0, 1) := by decide +kernel
theorem dX9_odd_96 : decode cX9_odd 96 = .ok (.iconst 0, 1) := by decide +kernel
theorem dX9_odd_97 : decode cX9_odd 97 = .ok (.iload 4, 2) := by decide +kernel
theorem dX9_odd_99 : decode cX9_odd 99 = .ok (.iload_n 3, 1) := by decide +kernel
theorem dX9_odd_100 : decode cX9_odd 100 = .ok (.invokevirtual 331, 3) := by decide +kernel
theorem dX9_odd_103 : decode cX9_odd 103 = .ok (.ifCond .eq 17, 3) := by decide +kernel
theorem dX9_odd_106 : decode cX9_odd 106 = .ok (.aload_n 0, 1) := by decide +kernel
theorem dX9_odd_107 : decode cX9_odd 107 = .ok (.iload_n 3, 1) := by decide +kernel
theorem dX9_odd_108 : decode cX9_odd 108 = .ok (.iload 4, 2) := by decide +kernel
theorem dX9_odd_110 : decode cX9_odd 110 = .ok (.invokevirtual 470, 3) := by decide +kernel
theorem dX9_odd_113 : decode cX9_odd 113 = .ok (.ifCond .ne 7, 3) := by decide +kernel
theorem dX9_odd_116 : decode cX9_odd 116 = .ok (.iconst 1, 1) := by decide +kernel
theorem dX9_odd_117 : decode cX9_odd 117 = .ok (.goto 4, 3) := by decide +kernel
theorem dX9_odd_120 : decode cX9_odd 120 = .ok (.iconst 0, 1) := by decide +kernel
theorem dX9_odd_121 : decode cX9_odd 121 = .ok (.iadd, 1) := by decide +kernel
theorem dX9_odd_122 : decode cX9_odd 122 = .ok (.istore_n 2, 1) := by decide +kernel
theorem dX9_odd_123 : decode cX9_odd 123 = .ok (.iinc 4 1, 3) := by decide +kernel
theorem dX9_odd_126 : decode cX9_odd 126 = .ok (.goto (-49), 3) := by decide +kernel
theorem dX9_odd_129 : decode cX9_odd 129 = .ok (.iinc 3 1, 3) := by decide +kernel
theorem dX9_odd_132 : decode cX9_odd 132 = .ok (.goto (-66), 3) := by decide +kernel
theorem dX9_odd_135 : decode cX9_odd 135 = .ok (.goto 73, 3) := by decide +kernel
theorem dX9_odd_138 : decode cX9_odd 138 = .ok (.iconst 0, 1) := by decide +kernel
theorem dX9_odd_139 : decode cX9_odd 139 = .ok (.istore_n 3, 1) := by decide +kernel
theorem dX9_odd_140 : decode cX9_odd 140 = .ok (.iload_n 3, 1) := by decide +kernel
theorem dX9_odd_141 : decode cX9_odd 141 = .ok (.aload_n 0, 1) := by decide +kernel
theorem dX9_odd_142 : decode cX9_odd 142 = .ok (.getfield 286, 3) := by decide +kernel
theorem dX9_odd_145 : decode cX9_odd 145 = .ok (.if_icmp .ge 63, 3) := by decide +kernel
theorem dX9_odd_148 : decode cX9_odd 148 = .ok (.iload_n 2, 1) := by decide +kernel
theorem dX9_odd_149 : decode cX9_odd 149 = .ok (.iload_n 1, 1) := by decide +kernel
theorem dX9_odd_150 : decode cX9_odd 150 = .ok (.iconst 1, 1) := by decide +kernel
theorem dX9_odd_151 : decode cX9_odd 151 = .ok (.if_icmp .ne 14, 3) := by decide +kernel
theorem dX9_odd_154 : decode cX9_odd 154 = .ok (.aload_n 0, 1) := by decide +kernel
theorem dX9_odd_155 : decode cX9_odd 155 = .ok (.iload_n 3, 1) := by decide +kernel
theorem dX9_odd_156 : decode cX9_odd 156 = .ok (.invokevirtual 399, 3) := by decide +kernel
theorem dX9_odd_159 : decode cX9_odd 159 = .ok (.ifCond .ne 40, 3) := by decide +kernel
theorem dX9_odd_162 : decode cX9_odd 162 = .ok (.goto 31, 3) := by decide +kernel
theorem dX9_odd_165 : decode cX9_odd 165 = .ok (.aload_n 0, 1) := by decide +kernel
theorem dX9_odd_166 : decode cX9_odd 166 = .ok (.iload_n 3, 1) := by decide +kernel
theorem dX9_odd_167 : decode cX9_odd 167 = .ok (.invokevirtual 399, 3) := by decide +kernel
theorem dX9_odd_170 : decode cX9_odd 170 = .ok (.ifCond .eq 29, 3) := by decide +kernel
theorem dX9_odd_173 : decode cX9_odd 173 = .ok (.aload_n 0, 1) := by decide +kernel
theorem dX9_odd_174 : decode cX9_odd 174 = .ok (.iconst 0, 1) := by decide +kernel
theorem dX9_odd_175 : decode cX9_odd 175 = .ok (.aload_n 0, 1) := by decide +kernel
theorem dX9_odd_176 : decode cX9_odd 176 = .ok (.getfield 23, 3) := by decide +kernel
theorem dX9_odd_179 : decode cX9_odd 179 = .ok (.iload_n 3, 1) := by decide +kernel
theorem dX9_odd_180 : decode cX9_odd 180 = .ok (.iaload, 1) := by decide +kernel
theorem dX9_odd_181 : decode cX9_odd 181 = .ok (.aload_n 0, 1) := by decide +kernel
theorem dX9_odd_182 : decode cX9_odd 182 = .ok (.getfield 26, 3) := by decide +kernel
theorem dX9_odd_185 : decode cX9_odd 185 = .ok (.iload_n 3, 1) := by decide +kernel
theorem dX9_odd_186 : decode cX9_odd 186 = .ok (.iaload, 1) := by decide +kernel
theorem dX9_odd_187 : decode cX9_odd 187 = .ok (.invokevirtual 331, 3) := by decide +kernel
theorem dX9_odd_190 : decode cX9_odd 190 = .ok (.ifCond .ne 9, 3) := by decide +kernel
theorem dX9_odd_193 : decode cX9_odd 193 = .ok (.iconst 1, 1) := by decide +kernel
theorem dX9_odd_194 : decode cX9_odd 194 = .ok (.iload_n 3, 1) := by decide +kernel
theorem dX9_odd_195 : decode cX9_odd 195 = .ok (.ishl, 1) := by decide +kernel
theorem dX9_odd_196 : decode cX9_odd 196 = .ok (.goto 4, 3) := by decide +kernel
theorem dX9_odd_199 : decode cX9_odd 199 = .ok (.iconst 0, 1) := by decide +kernel
theorem dX9_odd_200 : decode cX9_odd 200 = .ok (.ior, 1) := by decide +kernel
theorem dX9_odd_201 : decode cX9_odd 201 = .ok (.istore_n 2, 1) := by decide +kernel
theorem dX9_odd_202 : decode cX9_odd 202 = .ok (.iinc 3 1, 3) := by decide +kernel
theorem dX9_odd_205 : decode cX9_odd 205 = .ok (.goto (-65), 3) := by decide +kernel
theorem dX9_odd_208 : decode cX9_odd 208 = .ok (.iload_n 2, 1) := by decide +kernel
theorem dX9_odd_209 : decode cX9_odd 209 = .ok (.ireturn, 1) := by decide +kernel
theorem dX9_far_0 : decode cX9_far 0 = .ok (.aload_n 0, 1) := by decide +kernel
theorem dX9_far_1 : decode cX9_far 1 = .ok (.iconst 0, 1) := by decide +kernel
theorem dX9_far_2 : decode cX9_far 2 = .ok (.putfield 102, 3) := by decide +kernel
theorem dX9_far_5 : decode cX9_far 5 = .ok (.aload_n 0, 1) := by decide +kernel
theorem dX9_far_6 : decode cX9_far 6 = .ok (.iload_n 1, 1) := by decide +kernel
theorem dX9_far_7 : decode cX9_far 7 = .ok (.invokevirtual 378, 3) := by decide +kernel
theorem dX9_far_10 : decode cX9_far 10 = .ok (.ifCond .eq 21, 3) := by decide +kernel
theorem dX9_far_13 : decode cX9_far 13 = .ok (.aload_n 0, 1) := by decide +kernel
theorem dX9_far_14 : decode cX9_far 14 = .ok (.iload_n 2, 1) := by decide +kernel
theorem dX9_far_15 : decode cX9_far 15 = .ok (.invokevirtual 378, 3) := by decide +kernel
theorem dX9_far_18 : decode cX9_far 18 = .ok (.ifCond .eq 13, 3) := by decide +kernel
theorem dX9_far_21 : decode cX9_far 21 = .ok (.aload_n 0, 1) := by decide +kernel
theorem dX9_far_22 : decode cX9_far 22 = .ok (.iconst 0, 1) := by decide +kernel
theorem dX9_far_23 : decode cX9_far 23 = .ok (.iload_n 1, 1) := by decide +kernel
theorem dX9_far_24 : decode cX9_far 24 = .ok (.iload_n 2, 1) := by decide +kernel
theorem dX9_far_25 : decode cX9_far 25 = .ok (.invokevirtual 322, 3) := by decide +kernel
theorem dX9_far_28 : decode cX9_far 28 = .ok (.goto 4, 3) := by decide +kernel
theorem dX9_far_31 : decode cX9_far 31 = .ok (.iconst 0, 1) := by decide +kernel
theorem dX9_far_32 : decode cX9_far 32 = .ok (.ireturn, 1) := by decide +kernel
theorem dX9_unread_0 : decode cX9_unread 0 = .ok (.aload_n 0, 1) := by decide +kernel
theorem dX9_unread_1 : decode cX9_unread 1 = .ok (.iconst 0, 1) := by decide +kernel
theorem dX9_unread_2 : decode cX9_unread 2 = .ok (.putfield 102, 3) := by decide +kernel
theorem dX9_unread_5 : decode cX9_unread 5 = .ok (.aload_n 0, 1) := by decide +kernel
theorem dX9_unread_6 : decode cX9_unread 6 = .ok (.iload_n 1, 1) := by decide +kernel
theorem dX9_unread_7 : decode cX9_unread 7 = .ok (.iconst 0, 1) := by decide +kernel
theorem dX9_unread_8 : decode cX9_unread 8 = .ok (.iconst 1, 1) := by decide +kernel
theorem dX9_unread_9 : decode cX9_unread 9 = .ok (.invokevirtual 426, 3) := by decide +kernel
theorem dX9_unread_12 : decode cX9_unread 12 = .ok (.ifCond .ne 5, 3) := by decide +kernel
theorem dX9_unread_15 : decode cX9_unread 15 = .ok (.iconst 0, 1) := by decide +kernel
theorem dX9_unread_16 : decode cX9_unread 16 = .ok (.ireturn, 1) := by decide +kernel
theorem dX9_unread_17 : decode cX9_unread 17 = .ok (.aload_n 0, 1) := by decide +kernel
theorem dX9_unread_18 : decode cX9_unread 18 = .ok (.iload_n 1, 1) := by decide +kernel
theorem dX9_unread_19 : decode cX9_unread 19 = .ok (.invokevirtual 429, 3) := by decide +kernel
theorem dX9_unread_22 : decode cX9_unread 22 = .ok (.aload_n 0, 1) := by decide +kernel
theorem dX9_unread_23 : decode cX9_unread 23 = .ok (.getfield 286, 3) := by decide +kernel
theorem dX9_unread_26 : decode cX9_unread 26 = .ok (.aload_n 0, 1) := by decide +kernel
theorem dX9_unread_27 : decode cX9_unread 27 = .ok (.bipush 34, 2) := by decide +kernel
theorem dX9_unread_29 : decode cX9_unread 29 = .ok (.aload_n 0, 1) := by decide +kernel
theorem dX9_unread_30 : decode cX9_unread 30 = .ok (.invokevirtual 372, 3) := by decide +kernel
theorem dX9_unread_33 : decode cX9_unread 33 = .ok (.invokevirtual 338, 3) := by decide +kernel
theorem dX9_unread_36 : decode cX9_unread 36 = .ok (.invokestatic 316, 3) := by decide +kernel
theorem dX9_unread_39 : decode cX9_unread 39 = .ok (.isub, 1) := by decide +kernel
theorem dX9_unread_40 : decode cX9_unread 40 = .ok (.ireturn, 1) := by decide +kernel
theorem dX9_heir_0 : decode cX9_heir 0 = .ok (.aload_n 0, 1) := by decide +kernel
theorem dX9_heir_1 : decode cX9_heir 1 = .ok (.iconst 0, 1) := by decide +kernel
theorem dX9_heir_2 : decode cX9_heir 2 = .ok (.putfield 102, 3) := by decide +kernel
theorem dX9_heir_5 : decode cX9_heir 5 = .ok (.aload_n 0, 1) := by decide +kernel
theorem dX9_heir_6 : decode cX9_heir 6 = .ok (.iload_n 1, 1) := by decide +kernel
theorem dX9_heir_7 : decode cX9_heir 7 = .ok (.invokevirtual 387, 3) := by decide +kernel
theorem dX9_heir_10 : decode cX9_heir 10 = .ok (.ifCond .ne 5, 3) := by decide +kernel
theorem dX9_heir_13 : decode cX9_heir 13 = .ok (.iconst 0, 1) := by decide +kernel
theorem dX9_heir_14 : decode cX9_heir 14 = .ok (.ireturn, 1) := by decide +kernel
theorem dX9_heir_15 : decode cX9_heir 15 = .ok (.iconst (-1), 1) := by decide +kernel
theorem dX9_heir_16 : decode cX9_heir 16 = .ok (.istore_n 2, 1) := by decide +kernel
theorem dX9_heir_17 : decode cX9_heir 17 = .ok (.iconst (-1), 1) := by decide +kernel
theorem dX9_heir_18 : decode cX9_heir 18 = .ok (.istore_n 3, 1) := by decide +kernel
theorem dX9_heir_19 : decode cX9_heir 19 = .ok (.iconst 0, 1) := by decide +kernel
theorem dX9_heir_20 : decode cX9_heir 20 = .ok (.istore 4, 2) := by decide +kernel
theorem dX9_heir_22 : decode cX9_heir 22 = .ok (.iload 4, 2) := by decide +kernel
theorem dX9_heir_24 : decode cX9_heir 24 = .ok (.aload_n 0, 1) := by decide +kernel
theorem dX9_heir_25 : decode cX9_heir 25 = .ok (.getfield 283, 3) := by decide +kernel
theorem dX9_heir_28 : decode cX9_heir 28 = .ok (.if_icmp .ge 55, 3) := by decide +kernel
theorem dX9_heir_31 : decode cX9_heir 31 = .ok (.aload_n 0, 1) := by decide +kernel
theorem dX9_heir_32 : decode cX9_heir 32 = .ok (.getfield 66, 3) := by decide +kernel
theorem dX9_heir_35 : decode cX9_heir 35 = .ok (.bipush 28, 2) := by decide +kernel
theorem dX9_heir_37 : decode cX9_heir 37 = .ok (.iload_n 1, 1) := by decide +kernel
theorem dX9_heir_38 : decode cX9_heir 38 = .ok (.iadd, 1) := by decide +kernel
theorem dX9_heir_39 : decode cX9_heir 39 = .ok (.iaload, 1) := by decide +kernel
theorem dX9_heir_40 : decode cX9_heir 40 = .ok (.aload_n 0, 1) := by decide +kernel
theorem dX9_heir_41 : decode cX9_heir 41 = .ok (.getfield 66, 3) := by decide +kernel
theorem dX9_heir_44 : decode cX9_heir 44 = .ok (.bipush 28, 2) := by decide +kernel
theorem dX9_heir_46 : decode cX9_heir 46 = .ok (.iload 4, 2) := by decide +kernel
theorem dX9_heir_48 : decode cX9_heir 48 = .ok (.iadd, 1) := by decide +kernel
theorem dX9_heir_49 : decode cX9_heir 49 = .ok (.iaload, 1) := by decide +kernel
theorem dX9_heir_50 : decode cX9_heir 50 = .ok (.iand, 1) := by decide +kernel
theorem dX9_heir_51 : decode cX9_heir 51 = .ok (.invokestatic 316, 3) := by decide +kernel
theorem dX9_heir_54 : decode cX9_heir 54 = .ok (.istore 5, 2) := by decide +kernel
theorem dX9_heir_56 : decode cX9_heir 56 = .ok (.iload 4, 2) := by decide +kernel
theorem dX9_heir_58 : decode cX9_heir 58 = .ok (.iload_n 1, 1) := by decide +kernel
theorem dX9_heir_59 : decode cX9_heir 59 = .ok (.if_icmp .eq 18, 3) := by decide +kernel
theorem dX9_heir_62 : decode cX9_heir 62 = .ok (.iload 5, 2) := by decide +kernel
theorem dX9_heir_64 : decode cX9_heir 64 = .ok (.iload_n 3, 1) := by decide +kernel
theorem dX9_heir_65 : decode cX9_heir 65 = .ok (.if_icmp .gt 6, 3) := by decide +kernel
theorem dX9_heir_68 : decode cX9_heir 68 = .ok (.goto 9, 3) := by decide +kernel
theorem dX9_heir_71 : decode cX9_heir 71 = .ok (.iload 4, 2) := by decide +kernel
theorem dX9_heir_73 : decode cX9_heir 73 = .ok (.istore_n 2, 1) := by decide +kernel
theorem dX9_heir_74 : decode cX9_heir 74 = .ok (.iload 5, 2) := by decide +kernel
theorem dX9_heir_76 : decode cX9_heir 76 = .ok (.istore_n 3, 1) := by decide +kernel
theorem dX9_heir_77 : decode cX9_heir 77 = .ok (.iinc 4 1, 3) := by decide +kernel
theorem dX9_heir_80 : decode cX9_heir 80 = .ok (.goto (-58), 3) := by decide +kernel
theorem dX9_heir_83 : decode cX9_heir 83 = .ok (.iload_n 2, 1) := by decide +kernel
theorem dX9_heir_84 : decode cX9_heir 84 = .ok (.ireturn, 1) := by decide +kernel
theorem dX9_knowledge_0 : decode cX9_knowledge 0 = .ok (.iconst 0, 1) := by decide +kernel
theorem dX9_knowledge_1 : decode cX9_knowledge 1 = .ok (.istore_n 1, 1) := by decide +kernel
theorem dX9_knowledge_2 : decode cX9_knowledge 2 = .ok (.iconst 0, 1) := by decide +kernel
theorem dX9_knowledge_3 : decode cX9_knowledge 3 = .ok (.istore_n 2, 1) := by decide +kernel
theorem dX9_knowledge_4 : decode cX9_knowledge 4 = .ok (.iload_n 2, 1) := by decide +kernel
theorem dX9_knowledge_5 : decode cX9_knowledge 5 = .ok (.aload_n 0, 1) := by decide +kernel
theorem dX9_knowledge_6 : decode cX9_knowledge 6 = .ok (.getfield 283, 3) := by decide +kernel
theorem dX9_knowledge_9 : decode cX9_knowledge 9 = .ok (.if_icmp .ge 24, 3) := by decide +kernel
theorem dX9_knowledge_12 : decode cX9_knowledge 12 = .ok (.iload_n 1, 1) := by decide +kernel
theorem dX9_knowledge_13 : decode cX9_knowledge 13 = .ok (.aload_n 0, 1) := by decide +kernel
theorem dX9_knowledge_14 : decode cX9_knowledge 14 = .ok (.getfield 66, 3) := by decide +kernel
theorem dX9_knowledge_17 : decode cX9_knowledge 17 = .ok (.bipush 62, 2) := by decide +kernel
theorem dX9_knowledge_19 : decode cX9_knowledge 19 = .ok (.iload_n 2, 1) := by decide +kernel
theorem dX9_knowledge_20 : decode cX9_knowledge 20 = .ok (.iadd, 1) := by decide +kernel
theorem dX9_knowledge_21 : decode cX9_knowledge 21 = .ok (.iaload, 1) := by decide +kernel
theorem dX9_knowledge_22 : decode cX9_knowledge 22 = .ok (.invokestatic 316, 3) := by decide +kernel
theorem dX9_knowledge_25 : decode cX9_knowledge 25 = .ok (.iadd, 1) := by decide +kernel
theorem dX9_knowledge_26 : decode cX9_knowledge 26 = .ok (.istore_n 1, 1) := by decide +kernel
theorem dX9_knowledge_27 : decode cX9_knowledge 27 = .ok (.iinc 2 1, 3) := by decide +kernel
theorem dX9_knowledge_30 : decode cX9_knowledge 30 = .ok (.goto (-26), 3) := by decide +kernel
theorem dX9_knowledge_33 : decode cX9_knowledge 33 = .ok (.iload_n 1, 1) := by decide +kernel
theorem dX9_knowledge_34 : decode cX9_knowledge 34 = .ok (.ireturn, 1) := by decide +kernel
theorem dX9_laid_0 : decode cX9_laid 0 = .ok (.aload_n 0, 1) := by decide +kernel
theorem dX9_laid_1 : decode cX9_laid 1 = .ok (.iconst 0, 1) := by decide +kernel
theorem dX9_laid_2 : decode cX9_laid 2 = .ok (.putfield 102, 3) := by decide +kernel
theorem dX9_laid_5 : decode cX9_laid 5 = .ok (.aload_n 0, 1) := by decide +kernel
theorem dX9_laid_6 : decode cX9_laid 6 = .ok (.iload_n 1, 1) := by decide +kernel
theorem dX9_laid_7 : decode cX9_laid 7 = .ok (.iconst 1, 1) := by decide +kernel
theorem dX9_laid_8 : decode cX9_laid 8 = .ok (.iconst 1, 1) := by decide +kernel
theorem dX9_laid_9 : decode cX9_laid 9 = .ok (.invokevirtual 426, 3) := by decide +kernel
theorem dX9_laid_12 : decode cX9_laid 12 = .ok (.ifCond .ne 5, 3) := by decide +kernel
theorem dX9_laid_15 : decode cX9_laid 15 = .ok (.iconst 0, 1) := by decide +kernel
theorem dX9_laid_16 : decode cX9_laid 16 = .ok (.ireturn, 1) := by decide +kernel
theorem dX9_laid_17 : decode cX9_laid 17 = .ok (.iconst 0, 1) := by decide +kernel
theorem dX9_laid_18 : decode cX9_laid 18 = .ok (.istore_n 2, 1) := by decide +kernel
theorem dX9_laid_19 : decode cX9_laid 19 = .ok (.aload_n 0, 1) := by decide +kernel
theorem dX9_laid_20 : decode cX9_laid 20 = .ok (.invokevirtual 420, 3) := by decide +kernel
theorem dX9_laid_23 : decode cX9_laid 23 = .ok (.iconst 0, 1) := by decide +kernel
theorem dX9_laid_24 : decode cX9_laid 24 = .ok (.istore_n 3, 1) := by decide +kernel
theorem dX9_laid_25 : decode cX9_laid 25 = .ok (.iload_n 3, 1) := by decide +kernel
theorem dX9_laid_26 : decode cX9_laid 26 = .ok (.iload_n 1, 1) := by decide +kernel
theorem dX9_laid_27 : decode cX9_laid 27 = .ok (.if_icmp .ge 38, 3) := by decide +kernel
theorem dX9_laid_30 : decode cX9_laid 30 = .ok (.aload_n 0, 1) := by decide +kernel
theorem dX9_laid_31 : decode cX9_laid 31 = .ok (.invokevirtual 473, 3) := by decide +kernel
theorem dX9_laid_34 : decode cX9_laid 34 = .ok (.istore 4, 2) := by decide +kernel
theorem dX9_laid_36 : decode cX9_laid 36 = .ok (.aload_n 0, 1) := by decide +kernel
theorem dX9_laid_37 : decode cX9_laid 37 = .ok (.bipush 34, 2) := by decide +kernel
theorem dX9_laid_39 : decode cX9_laid 39 = .ok (.invokevirtual 357, 3) := by decide +kernel
theorem dX9_laid_42 : decode cX9_laid 42 = .ok (.iload_n 2, 1) := by decide +kernel
theorem dX9_laid_43 : decode cX9_laid 43 = .ok (.aload_n 0, 1) := by decide +kernel
theorem dX9_laid_44 : decode cX9_laid 44 = .ok (.invokevirtual 473, 3) := by decide +kernel
theorem dX9_laid_47 : decode cX9_laid 47 = .ok (.iload 4, 2) := by decide +kernel
theorem dX9_laid_49 : decode cX9_laid 49 = .ok (.if_icmp .le 7, 3) := by decide +kernel
theorem dX9_laid_52 : decode cX9_laid 52 = .ok (.iconst 1, 1) := by decide +kernel
theorem dX9_laid_53 : decode cX9_laid 53 = .ok (.goto 4, 3) := by decide +kernel
theorem dX9_laid_56 : decode cX9_laid 56 = .ok (.iconst 0, 1) := by decide +kernel
theorem dX9_laid_57 : decode cX9_laid 57 = .ok (.iadd, 1) := by decide +kernel
theorem dX9_laid_58 : decode cX9_laid 58 = .ok (.istore_n 2, 1) := by decide +kernel
theorem dX9_laid_59 : decode cX9_laid 59 = .ok (.iinc 3 1, 3) := by decide +kernel
theorem dX9_laid_62 : decode cX9_laid 62 = .ok (.goto (-37), 3) := by decide +kernel
theorem dX9_laid_65 : decode cX9_laid 65 = .ok (.iload_n 2, 1) := by decide +kernel
theorem dX9_laid_66 : decode cX9_laid 66 = .ok (.ireturn, 1) := by decide +kernel
theorem dX9_image_0 : decode cX9_image 0 = .ok (.aload_n 0, 1) := by decide +kernel
theorem dX9_image_1 : decode cX9_image 1 = .ok (.iconst 0, 1) := by decide +kernel
theorem dX9_image_2 : decode cX9_image 2 = .ok (.putfield 102, 3) := by decide +kernel
theorem dX9_image_5 : decode cX9_image 5 = .ok (.aload_n 0, 1) := by decide +kernel
theorem dX9_image_6 : decode cX9_image 6 = .ok (.iconst 1, 1) := by decide +kernel
theorem dX9_image_7 : decode cX9_image 7 = .ok (.putfield 302, 3) := by decide +kernel
theorem dX9_image_10 : decode cX9_image 10 = .ok (.aload_n 0, 1) := by decide +kernel
theorem dX9_image_11 : decode cX9_image 11 = .ok (.aload_n 0, 1) := by decide +kernel
theorem dX9_image_12 : decode cX9_image 12 = .ok (.getfield 296, 3) := by decide +kernel
theorem dX9_image_15 : decode cX9_image 15 = .ok (.putfield 476, 3) := by decide +kernel
theorem dX9_image_18 : decode cX9_image 18 = .ok (.aload_n 0, 1) := by decide +kernel
theorem dX9_image_19 : decode cX9_image 19 = .ok (.aload_n 0, 1) := by decide +kernel
theorem dX9_image_20 : decode cX9_image 20 = .ok (.getfield 299, 3) := by decide +kernel
theorem dX9_image_23 : decode cX9_image 23 = .ok (.putfield 479, 3) := by decide +kernel
theorem dX9_image_26 : decode cX9_image 26 = .ok (.iconst 0, 1) := by decide +kernel
theorem dX9_image_27 : decode cX9_image 27 = .ok (.istore_n 1, 1) := by decide +kernel
theorem dX9_image_28 : decode cX9_image 28 = .ok (.iload_n 1, 1) := by decide +kernel
theorem dX9_image_29 : decode cX9_image 29 = .ok (.bipush 34, 2) := by decide +kernel
theorem dX9_image_31 : decode cX9_image 31 = .ok (.if_icmp .ge 21, 3) := by decide +kernel
theorem dX9_image_34 : decode cX9_image 34 = .ok (.aload_n 0, 1) := by decide +kernel
theorem dX9_image_35 : decode cX9_image 35 = .ok (.getfield 93, 3) := by decide +kernel
theorem dX9_image_38 : decode cX9_image 38 = .ok (.iload_n 1, 1) := by decide +kernel
theorem dX9_image_39 : decode cX9_image 39 = .ok (.aload_n 0, 1) := by decide +kernel
theorem dX9_image_40 : decode cX9_image 40 = .ok (.getfield 66, 3) := by decide +kernel
theorem dX9_image_43 : decode cX9_image 43 = .ok (.iload_n 1, 1) := by decide +kernel
theorem dX9_image_44 : decode cX9_image 44 = .ok (.iaload, 1) := by decide +kernel
theorem dX9_image_45 : decode cX9_image 45 = .ok (.iastore, 1) := by decide +kernel
theorem dX9_image_46 : decode cX9_image 46 = .ok (.iinc 1 1, 3) := by decide +kernel
theorem dX9_image_49 : decode cX9_image 49 = .ok (.goto (-21), 3) := by decide +kernel
theorem dX9_image_52 : decode cX9_image 52 = .ok (.aload_n 0, 1) := by decide +kernel
theorem dX9_image_53 : decode cX9_image 53 = .ok (.aload_n 0, 1) := by decide +kernel
theorem dX9_image_54 : decode cX9_image 54 = .ok (.getfield 69, 3) := by decide +kernel
theorem dX9_image_57 : decode cX9_image 57 = .ok (.aload_n 0, 1) := by decide +kernel
theorem dX9_image_58 : decode cX9_image 58 = .ok (.getfield 96, 3) := by decide +kernel
theorem dX9_image_61 : decode cX9_image 61 = .ok (.invokevirtual 292, 3) := by decide +kernel
theorem dX9_image_64 : decode cX9_image 64 = .ok (.aload_n 0, 1) := by decide +kernel
theorem dX9_image_65 : decode cX9_image 65 = .ok (.aload_n 0, 1) := by decide +kernel
theorem dX9_image_66 : decode cX9_image 66 = .ok (.getfield 84, 3) := by decide +kernel
theorem dX9_image_69 : decode cX9_image 69 = .ok (.aload_n 0, 1) := by decide +kernel
theorem dX9_image_70 : decode cX9_image 70 = .ok (.getfield 99, 3) := by decide +kernel
theorem dX9_image_73 : decode cX9_image 73 = .ok (.invokevirtual 292, 3) := by decide +kernel
theorem dX9_image_76 : decode cX9_image 76 = .ok (.return_, 1) := by decide +kernel
theorem dX9_restore_0 : decode cX9_restore 0 = .ok (.aload_n 0, 1) := by decide +kernel
theorem dX9_restore_1 : decode cX9_restore 1 = .ok (.iconst 0, 1) := by decide +kernel
theorem dX9_restore_2 : decode cX9_restore 2 = .ok (.putfield 102, 3) := by decide +kernel
theorem dX9_restore_5 : decode cX9_restore 5 = .ok (.aload_n 0, 1) := by decide +kernel
theorem dX9_restore_6 : decode cX9_restore 6 = .ok (.getfield 302, 3) := by decide +kernel
theorem dX9_restore_9 : decode cX9_restore 9 = .ok (.ifCond .ne 5, 3) := by decide +kernel
theorem dX9_restore_12 : decode cX9_restore 12 = .ok (.iconst 0, 1) := by decide +kernel
theorem dX9_restore_13 : decode cX9_restore 13 = .ok (.ireturn, 1) := by decide +kernel
theorem dX9_restore_14 : decode cX9_restore 14 = .ok (.aload_n 0, 1) := by decide +kernel
theorem dX9_restore_15 : decode cX9_restore 15 = .ok (.aload_n 0, 1) := by decide +kernel
theorem dX9_restore_16 : decode cX9_restore 16 = .ok (.getfield 476, 3) := by decide +kernel
theorem dX9_restore_19 : decode cX9_restore 19 = .ok (.putfield 296, 3) := by decide +kernel
theorem dX9_restore_22 : decode cX9_restore 22 = .ok (.aload_n 0, 1) := by decide +kernel
theorem dX9_restore_23 : decode cX9_restore 23 = .ok (.aload_n 0, 1) := by decide +kernel
theorem dX9_restore_24 : decode cX9_restore 24 = .ok (.getfield 479, 3) := by decide +kernel
theorem dX9_restore_27 : decode cX9_restore 27 = .ok (.putfield 299, 3) := by decide +kernel
theorem dX9_restore_30 : decode cX9_restore 30 = .ok (.iconst 0, 1) := by decide +kernel
theorem dX9_restore_31 : decode cX9_restore 31 = .ok (.istore_n 1, 1) := by decide +kernel
theorem dX9_restore_32 : decode cX9_restore 32 = .ok (.iload_n 1, 1) := by decide +kernel
theorem dX9_restore_33 : decode cX9_restore 33 = .ok (.bipush 34, 2) := by decide +kernel
theorem dX9_restore_35 : decode cX9_restore 35 = .ok (.if_icmp .ge 21, 3) := by decide +kernel
theorem dX9_restore_38 : decode cX9_restore 38 = .ok (.aload_n 0, 1) := by decide +kernel
theorem dX9_restore_39 : decode cX9_restore 39 = .ok (.getfield 66, 3) := by decide +kernel
theorem dX9_restore_42 : decode cX9_restore 42 = .ok (.iload_n 1, 1) := by decide +kernel
theorem dX9_restore_43 : decode cX9_restore 43 = .ok (.aload_n 0, 1) := by decide +kernel
theorem dX9_restore_44 : decode cX9_restore 44 = .ok (.getfield 93, 3) := by decide +kernel
theorem dX9_restore_47 : decode cX9_restore 47 = .ok (.iload_n 1, 1) := by decide +kernel
theorem dX9_restore_48 : decode cX9_restore 48 = .ok (.iaload, 1) := by decide +kernel
theorem dX9_restore_49 : decode cX9_restore 49 = .ok (.iastore, 1) := by decide +kernel
theorem dX9_restore_50 : decode cX9_restore 50 = .ok (.iinc 1 1, 3) := by decide +kernel
theorem dX9_restore_53 : decode cX9_restore 53 = .ok (.goto (-21), 3) := by decide +kernel
theorem dX9_restore_56 : decode cX9_restore 56 = .ok (.aload_n 0, 1) := by decide +kernel
theorem dX9_restore_57 : decode cX9_restore 57 = .ok (.aload_n 0, 1) := by decide +kernel
theorem dX9_restore_58 : decode cX9_restore 58 = .ok (.getfield 96, 3) := by decide +kernel
theorem dX9_restore_61 : decode cX9_restore 61 = .ok (.aload_n 0, 1) := by decide +kernel
theorem dX9_restore_62 : decode cX9_restore 62 = .ok (.getfield 69, 3) := by decide +kernel
theorem dX9_restore_65 : decode cX9_restore 65 = .ok (.invokevirtual 292, 3) := by decide +kernel
theorem dX9_restore_68 : decode cX9_restore 68 = .ok (.aload_n 0, 1) := by decide +kernel
theorem dX9_restore_69 : decode cX9_restore 69 = .ok (.aload_n 0, 1) := by decide +kernel
theorem dX9_restore_70 : decode cX9_restore 70 = .ok (.getfield 99, 3) := by decide +kernel
theorem dX9_restore_73 : decode cX9_restore 73 = .ok (.aload_n 0, 1) := by decide +kernel
theorem dX9_restore_74 : decode cX9_restore 74 = .ok (.getfield 84, 3) := by decide +kernel
theorem dX9_restore_77 : decode cX9_restore 77 = .ok (.invokevirtual 292, 3) := by decide +kernel
theorem dX9_restore_80 : decode cX9_restore 80 = .ok (.iconst 1, 1) := by decide +kernel
theorem dX9_restore_81 : decode cX9_restore 81 = .ok (.ireturn, 1) := by decide +kernel
