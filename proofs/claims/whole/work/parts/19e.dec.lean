/-! ===== decode rows: TwinInkModel ===== -/
theorem dX9_isWhat_0 : decode cX9_isWhat 0 = .ok (.aload_n 0, 1) := by decide +kernel
theorem dX9_isWhat_1 : decode cX9_isWhat 1 = .ok (.iload_n 1, 1) := by decide +kernel
theorem dX9_isWhat_2 : decode cX9_isWhat 2 = .ok (.iconst 0, 1) := by decide +kernel
theorem dX9_isWhat_3 : decode cX9_isWhat 3 = .ok (.iload_n 2, 1) := by decide +kernel
theorem dX9_isWhat_4 : decode cX9_isWhat 4 = .ok (.invokestatic 363, 3) := by decide +kernel
theorem dX9_isWhat_7 : decode cX9_isWhat 7 = .ok (.iconst 1, 1) := by decide +kernel
theorem dX9_isWhat_8 : decode cX9_isWhat 8 = .ok (.invokevirtual 273, 3) := by decide +kernel
theorem dX9_isWhat_11 : decode cX9_isWhat 11 = .ok (.ireturn, 1) := by decide +kernel
theorem dX9_isDays_0 : decode cX9_isDays 0 = .ok (.aload_n 0, 1) := by decide +kernel
theorem dX9_isDays_1 : decode cX9_isDays 1 = .ok (.iload_n 1, 1) := by decide +kernel
theorem dX9_isDays_2 : decode cX9_isDays 2 = .ok (.iload_n 2, 1) := by decide +kernel
theorem dX9_isDays_3 : decode cX9_isDays 3 = .ok (.bipush 40, 2) := by decide +kernel
theorem dX9_isDays_5 : decode cX9_isDays 5 = .ok (.invokestatic 363, 3) := by decide +kernel
theorem dX9_isDays_8 : decode cX9_isDays 8 = .ok (.iload_n 3, 1) := by decide +kernel
theorem dX9_isDays_9 : decode cX9_isDays 9 = .ok (.invokevirtual 273, 3) := by decide +kernel
theorem dX9_isDays_12 : decode cX9_isDays 12 = .ok (.ireturn, 1) := by decide +kernel
theorem dX9_fitting_0 : decode cX9_fitting 0 = .ok (.iconst 0, 1) := by decide +kernel
theorem dX9_fitting_1 : decode cX9_fitting 1 = .ok (.istore_n 2, 1) := by decide +kernel
theorem dX9_fitting_2 : decode cX9_fitting 2 = .ok (.iconst 0, 1) := by decide +kernel
theorem dX9_fitting_3 : decode cX9_fitting 3 = .ok (.istore_n 3, 1) := by decide +kernel
theorem dX9_fitting_4 : decode cX9_fitting 4 = .ok (.iload_n 3, 1) := by decide +kernel
theorem dX9_fitting_5 : decode cX9_fitting 5 = .ok (.aload_n 0, 1) := by decide +kernel
theorem dX9_fitting_6 : decode cX9_fitting 6 = .ok (.getfield 280, 3) := by decide +kernel
theorem dX9_fitting_9 : decode cX9_fitting 9 = .ok (.if_icmp .ge 29, 3) := by decide +kernel
theorem dX9_fitting_12 : decode cX9_fitting 12 = .ok (.iload_n 2, 1) := by decide +kernel
theorem dX9_fitting_13 : decode cX9_fitting 13 = .ok (.aload_n 0, 1) := by decide +kernel
theorem dX9_fitting_14 : decode cX9_fitting 14 = .ok (.iconst 0, 1) := by decide +kernel
theorem dX9_fitting_15 : decode cX9_fitting 15 = .ok (.iload_n 1, 1) := by decide +kernel
theorem dX9_fitting_16 : decode cX9_fitting 16 = .ok (.iload_n 3, 1) := by decide +kernel
theorem dX9_fitting_17 : decode cX9_fitting 17 = .ok (.invokevirtual 331, 3) := by decide +kernel
theorem dX9_fitting_20 : decode cX9_fitting 20 = .ok (.ifCond .eq 9, 3) := by decide +kernel
theorem dX9_fitting_23 : decode cX9_fitting 23 = .ok (.iconst 1, 1) := by decide +kernel
theorem dX9_fitting_24 : decode cX9_fitting 24 = .ok (.iload_n 3, 1) := by decide +kernel
theorem dX9_fitting_25 : decode cX9_fitting 25 = .ok (.ishl, 1) := by decide +kernel
theorem dX9_fitting_26 : decode cX9_fitting 26 = .ok (.goto 4, 3) := by decide +kernel
theorem dX9_fitting_29 : decode cX9_fitting 29 = .ok (.iconst 0, 1) := by decide +kernel
theorem dX9_fitting_30 : decode cX9_fitting 30 = .ok (.ior, 1) := by decide +kernel
theorem dX9_fitting_31 : decode cX9_fitting 31 = .ok (.istore_n 2, 1) := by decide +kernel
theorem dX9_fitting_32 : decode cX9_fitting 32 = .ok (.iinc 3 1, 3) := by decide +kernel
theorem dX9_fitting_35 : decode cX9_fitting 35 = .ok (.goto (-31), 3) := by decide +kernel
theorem dX9_fitting_38 : decode cX9_fitting 38 = .ok (.iload_n 2, 1) := by decide +kernel
theorem dX9_fitting_39 : decode cX9_fitting 39 = .ok (.ireturn, 1) := by decide +kernel
theorem dX9_sheet_0 : decode cX9_sheet 0 = .ok (.aload_n 0, 1) := by decide +kernel
theorem dX9_sheet_1 : decode cX9_sheet 1 = .ok (.iconst 0, 1) := by decide +kernel
theorem dX9_sheet_2 : decode cX9_sheet 2 = .ok (.putfield 102, 3) := by decide +kernel
theorem dX9_sheet_5 : decode cX9_sheet 5 = .ok (.aload_n 0, 1) := by decide +kernel
theorem dX9_sheet_6 : decode cX9_sheet 6 = .ok (.iload_n 1, 1) := by decide +kernel
theorem dX9_sheet_7 : decode cX9_sheet 7 = .ok (.invokevirtual 378, 3) := by decide +kernel
theorem dX9_sheet_10 : decode cX9_sheet 10 = .ok (.ifCond .eq 12, 3) := by decide +kernel
theorem dX9_sheet_13 : decode cX9_sheet 13 = .ok (.aload_n 0, 1) := by decide +kernel
theorem dX9_sheet_14 : decode cX9_sheet 14 = .ok (.iload_n 2, 1) := by decide +kernel
theorem dX9_sheet_15 : decode cX9_sheet 15 = .ok (.iconst 4, 1) := by decide +kernel
theorem dX9_sheet_16 : decode cX9_sheet 16 = .ok (.invokevirtual 381, 3) := by decide +kernel
theorem dX9_sheet_19 : decode cX9_sheet 19 = .ok (.ifCond .ne 5, 3) := by decide +kernel
theorem dX9_sheet_22 : decode cX9_sheet 22 = .ok (.iconst 0, 1) := by decide +kernel
theorem dX9_sheet_23 : decode cX9_sheet 23 = .ok (.ireturn, 1) := by decide +kernel
theorem dX9_sheet_24 : decode cX9_sheet 24 = .ok (.iload_n 2, 1) := by decide +kernel
theorem dX9_sheet_25 : decode cX9_sheet 25 = .ok (.tableswitch 88 0 3 #[31, 40, 50, 57], 31) := by decide +kernel
theorem dX9_sheet_56 : decode cX9_sheet 56 = .ok (.aload_n 0, 1) := by decide +kernel
theorem dX9_sheet_57 : decode cX9_sheet 57 = .ok (.getfield 66, 3) := by decide +kernel
theorem dX9_sheet_60 : decode cX9_sheet 60 = .ok (.iconst 1, 1) := by decide +kernel
theorem dX9_sheet_61 : decode cX9_sheet 61 = .ok (.iload_n 1, 1) := by decide +kernel
theorem dX9_sheet_62 : decode cX9_sheet 62 = .ok (.iadd, 1) := by decide +kernel
theorem dX9_sheet_63 : decode cX9_sheet 63 = .ok (.iaload, 1) := by decide +kernel
theorem dX9_sheet_64 : decode cX9_sheet 64 = .ok (.ireturn, 1) := by decide +kernel
theorem dX9_sheet_65 : decode cX9_sheet 65 = .ok (.aload_n 0, 1) := by decide +kernel
theorem dX9_sheet_66 : decode cX9_sheet 66 = .ok (.getfield 66, 3) := by decide +kernel
theorem dX9_sheet_69 : decode cX9_sheet 69 = .ok (.bipush 10, 2) := by decide +kernel
theorem dX9_sheet_71 : decode cX9_sheet 71 = .ok (.iload_n 1, 1) := by decide +kernel
theorem dX9_sheet_72 : decode cX9_sheet 72 = .ok (.iadd, 1) := by decide +kernel
theorem dX9_sheet_73 : decode cX9_sheet 73 = .ok (.iaload, 1) := by decide +kernel
theorem dX9_sheet_74 : decode cX9_sheet 74 = .ok (.ireturn, 1) := by decide +kernel
theorem dX9_sheet_75 : decode cX9_sheet 75 = .ok (.aload_n 0, 1) := by decide +kernel
theorem dX9_sheet_76 : decode cX9_sheet 76 = .ok (.iconst 0, 1) := by decide +kernel
theorem dX9_sheet_77 : decode cX9_sheet 77 = .ok (.iload_n 1, 1) := by decide +kernel
theorem dX9_sheet_78 : decode cX9_sheet 78 = .ok (.invokevirtual 325, 3) := by decide +kernel
theorem dX9_sheet_81 : decode cX9_sheet 81 = .ok (.ireturn, 1) := by decide +kernel
theorem dX9_sheet_82 : decode cX9_sheet 82 = .ok (.aload_n 0, 1) := by decide +kernel
theorem dX9_sheet_83 : decode cX9_sheet 83 = .ok (.getfield 66, 3) := by decide +kernel
theorem dX9_sheet_86 : decode cX9_sheet 86 = .ok (.bipush 19, 2) := by decide +kernel
theorem dX9_sheet_88 : decode cX9_sheet 88 = .ok (.iload_n 1, 1) := by decide +kernel
theorem dX9_sheet_89 : decode cX9_sheet 89 = .ok (.iadd, 1) := by decide +kernel
theorem dX9_sheet_90 : decode cX9_sheet 90 = .ok (.iaload, 1) := by decide +kernel
theorem dX9_sheet_91 : decode cX9_sheet 91 = .ok (.bipush 10, 2) := by decide +kernel
theorem dX9_sheet_93 : decode cX9_sheet 93 = .ok (.if_icmp .ge 7, 3) := by decide +kernel
theorem dX9_sheet_96 : decode cX9_sheet 96 = .ok (.iconst (-1), 1) := by decide +kernel
theorem dX9_sheet_97 : decode cX9_sheet 97 = .ok (.goto 15, 3) := by decide +kernel
theorem dX9_sheet_100 : decode cX9_sheet 100 = .ok (.aload_n 0, 1) := by decide +kernel
theorem dX9_sheet_101 : decode cX9_sheet 101 = .ok (.getfield 66, 3) := by decide +kernel
theorem dX9_sheet_104 : decode cX9_sheet 104 = .ok (.bipush 19, 2) := by decide +kernel
theorem dX9_sheet_106 : decode cX9_sheet 106 = .ok (.iload_n 1, 1) := by decide +kernel
theorem dX9_sheet_107 : decode cX9_sheet 107 = .ok (.iadd, 1) := by decide +kernel
theorem dX9_sheet_108 : decode cX9_sheet 108 = .ok (.iaload, 1) := by decide +kernel
theorem dX9_sheet_109 : decode cX9_sheet 109 = .ok (.bipush 10, 2) := by decide +kernel
theorem dX9_sheet_111 : decode cX9_sheet 111 = .ok (.isub, 1) := by decide +kernel
theorem dX9_sheet_112 : decode cX9_sheet 112 = .ok (.ireturn, 1) := by decide +kernel
theorem dX9_sheet_113 : decode cX9_sheet 113 = .ok (.aload_n 0, 1) := by decide +kernel
theorem dX9_sheet_114 : decode cX9_sheet 114 = .ok (.iload_n 1, 1) := by decide +kernel
theorem dX9_sheet_115 : decode cX9_sheet 115 = .ok (.invokevirtual 384, 3) := by decide +kernel
theorem dX9_sheet_118 : decode cX9_sheet 118 = .ok (.ireturn, 1) := by decide +kernel
theorem dX9_clerk_0 : decode cX9_clerk 0 = .ok (.aload_n 0, 1) := by decide +kernel
theorem dX9_clerk_1 : decode cX9_clerk 1 = .ok (.iconst 0, 1) := by decide +kernel
theorem dX9_clerk_2 : decode cX9_clerk 2 = .ok (.putfield 102, 3) := by decide +kernel
theorem dX9_clerk_5 : decode cX9_clerk 5 = .ok (.aload_n 0, 1) := by decide +kernel
theorem dX9_clerk_6 : decode cX9_clerk 6 = .ok (.iload_n 1, 1) := by decide +kernel
theorem dX9_clerk_7 : decode cX9_clerk 7 = .ok (.invokevirtual 387, 3) := by decide +kernel
theorem dX9_clerk_10 : decode cX9_clerk 10 = .ok (.ifCond .eq 12, 3) := by decide +kernel
theorem dX9_clerk_13 : decode cX9_clerk 13 = .ok (.aload_n 0, 1) := by decide +kernel
theorem dX9_clerk_14 : decode cX9_clerk 14 = .ok (.iload_n 2, 1) := by decide +kernel
theorem dX9_clerk_15 : decode cX9_clerk 15 = .ok (.iconst 3, 1) := by decide +kernel
theorem dX9_clerk_16 : decode cX9_clerk 16 = .ok (.invokevirtual 381, 3) := by decide +kernel
theorem dX9_clerk_19 : decode cX9_clerk 19 = .ok (.ifCond .ne 5, 3) := by decide +kernel
theorem dX9_clerk_22 : decode cX9_clerk 22 = .ok (.iconst 0, 1) := by decide +kernel
theorem dX9_clerk_23 : decode cX9_clerk 23 = .ok (.ireturn, 1) := by decide +kernel
theorem dX9_clerk_24 : decode cX9_clerk 24 = .ok (.iconst 0, 1) := by decide +kernel
theorem dX9_clerk_25 : decode cX9_clerk 25 = .ok (.istore_n 3, 1) := by decide +kernel
theorem dX9_clerk_26 : decode cX9_clerk 26 = .ok (.iconst 0, 1) := by decide +kernel
theorem dX9_clerk_27 : decode cX9_clerk 27 = .ok (.istore 4, 2) := by decide +kernel
theorem dX9_clerk_29 : decode cX9_clerk 29 = .ok (.iload 4, 2) := by decide +kernel
theorem dX9_clerk_31 : decode cX9_clerk 31 = .ok (.aload_n 0, 1) := by decide +kernel
theorem dX9_clerk_32 : decode cX9_clerk 32 = .ok (.getfield 280, 3) := by decide +kernel
theorem dX9_clerk_35 : decode cX9_clerk 35 = .ok (.if_icmp .ge 37, 3) := by decide +kernel
theorem dX9_clerk_38 : decode cX9_clerk 38 = .ok (.iload_n 3, 1) := by decide +kernel
theorem dX9_clerk_39 : decode cX9_clerk 39 = .ok (.aload_n 0, 1) := by decide +kernel
theorem dX9_clerk_40 : decode cX9_clerk 40 = .ok (.getfield 66, 3) := by decide +kernel
theorem dX9_clerk_43 : decode cX9_clerk 43 = .ok (.bipush 19, 2) := by decide +kernel
theorem dX9_clerk_45 : decode cX9_clerk 45 = .ok (.iload 4, 2) := by decide +kernel
theorem dX9_clerk_47 : decode cX9_clerk 47 = .ok (.iadd, 1) := by decide +kernel
theorem dX9_clerk_48 : decode cX9_clerk 48 = .ok (.iaload, 1) := by decide +kernel
theorem dX9_clerk_49 : decode cX9_clerk 49 = .ok (.bipush 10, 2) := by decide +kernel
theorem dX9_clerk_51 : decode cX9_clerk 51 = .ok (.iload_n 1, 1) := by decide +kernel
theorem dX9_clerk_52 : decode cX9_clerk 52 = .ok (.iadd, 1) := by decide +kernel
theorem dX9_clerk_53 : decode cX9_clerk 53 = .ok (.if_icmp .ne 10, 3) := by decide +kernel
theorem dX9_clerk_56 : decode cX9_clerk 56 = .ok (.iconst 1, 1) := by decide +kernel
theorem dX9_clerk_57 : decode cX9_clerk 57 = .ok (.iload 4, 2) := by decide +kernel
theorem dX9_clerk_59 : decode cX9_clerk 59 = .ok (.ishl, 1) := by decide +kernel
theorem dX9_clerk_60 : decode cX9_clerk 60 = .ok (.goto 4, 3) := by decide +kernel
theorem dX9_clerk_63 : decode cX9_clerk 63 = .ok (.iconst 0, 1) := by decide +kernel
theorem dX9_clerk_64 : decode cX9_clerk 64 = .ok (.ior, 1) := by decide +kernel
theorem dX9_clerk_65 : decode cX9_clerk 65 = .ok (.istore_n 3, 1) := by decide +kernel
theorem dX9_clerk_66 : decode cX9_clerk 66 = .ok (.iinc 4 1, 3) := by decide +kernel
theorem dX9_clerk_69 : decode cX9_clerk 69 = .ok (.goto (-40), 3) := by decide +kernel
theorem dX9_clerk_72 : decode cX9_clerk 72 = .ok (.iload_n 2, 1) := by decide +kernel
theorem dX9_clerk_73 : decode cX9_clerk 73 = .ok (.ifCond .ne 12, 3) := by decide +kernel
theorem dX9_clerk_76 : decode cX9_clerk 76 = .ok (.aload_n 0, 1) := by decide +kernel
theorem dX9_clerk_77 : decode cX9_clerk 77 = .ok (.iconst 0, 1) := by decide +kernel
theorem dX9_clerk_78 : decode cX9_clerk 78 = .ok (.iload_n 1, 1) := by decide +kernel
theorem dX9_clerk_79 : decode cX9_clerk 79 = .ok (.invokevirtual 313, 3) := by decide +kernel
theorem dX9_clerk_82 : decode cX9_clerk 82 = .ok (.goto 35, 3) := by decide +kernel
theorem dX9_clerk_85 : decode cX9_clerk 85 = .ok (.iload_n 2, 1) := by decide +kernel
theorem dX9_clerk_86 : decode cX9_clerk 86 = .ok (.iconst 1, 1) := by decide +kernel
theorem dX9_clerk_87 : decode cX9_clerk 87 = .ok (.if_icmp .ne 15, 3) := by decide +kernel
theorem dX9_clerk_90 : decode cX9_clerk 90 = .ok (.aload_n 0, 1) := by decide +kernel
theorem dX9_clerk_91 : decode cX9_clerk 91 = .ok (.getfield 66, 3) := by decide +kernel
theorem dX9_clerk_94 : decode cX9_clerk 94 = .ok (.bipush 28, 2) := by decide +kernel
theorem dX9_clerk_96 : decode cX9_clerk 96 = .ok (.iload_n 1, 1) := by decide +kernel
theorem dX9_clerk_97 : decode cX9_clerk 97 = .ok (.iadd, 1) := by decide +kernel
theorem dX9_clerk_98 : decode cX9_clerk 98 = .ok (.iaload, 1) := by decide +kernel
theorem dX9_clerk_99 : decode cX9_clerk 99 = .ok (.goto 18, 3) := by decide +kernel
theorem dX9_clerk_102 : decode cX9_clerk 102 = .ok (.iload_n 2, 1) := by decide +kernel
theorem dX9_clerk_103 : decode cX9_clerk 103 = .ok (.iconst 2, 1) := by decide +kernel
theorem dX9_clerk_104 : decode cX9_clerk 104 = .ok (.if_icmp .ne 7, 3) := by decide +kernel
theorem dX9_clerk_107 : decode cX9_clerk 107 = .ok (.iload_n 3, 1) := by decide +kernel
theorem dX9_clerk_108 : decode cX9_clerk 108 = .ok (.goto 9, 3) := by decide +kernel
theorem dX9_clerk_111 : decode cX9_clerk 111 = .ok (.aload_n 0, 1) := by decide +kernel
theorem dX9_clerk_112 : decode cX9_clerk 112 = .ok (.getfield 20, 3) := by decide +kernel
theorem dX9_clerk_115 : decode cX9_clerk 115 = .ok (.iload_n 1, 1) := by decide +kernel
theorem dX9_clerk_116 : decode cX9_clerk 116 = .ok (.iaload, 1) := by decide +kernel
theorem dX9_clerk_117 : decode cX9_clerk 117 = .ok (.ireturn, 1) := by decide +kernel
theorem dX9_knowers_0 : decode cX9_knowers 0 = .ok (.iconst 0, 1) := by decide +kernel
theorem dX9_knowers_1 : decode cX9_knowers 1 = .ok (.istore_n 3, 1) := by decide +kernel
theorem dX9_knowers_2 : decode cX9_knowers 2 = .ok (.iconst 0, 1) := by decide +kernel
theorem dX9_knowers_3 : decode cX9_knowers 3 = .ok (.istore 4, 2) := by decide +kernel
theorem dX9_knowers_5 : decode cX9_knowers 5 = .ok (.iload 4, 2) := by decide +kernel
theorem dX9_knowers_7 : decode cX9_knowers 7 = .ok (.aload_n 0, 1) := by decide +kernel
theorem dX9_knowers_8 : decode cX9_knowers 8 = .ok (.getfield 283, 3) := by decide +kernel
theorem dX9_knowers_11 : decode cX9_knowers 11 = .ok (.if_icmp .ge 31, 3) := by decide +kernel
theorem dX9_knowers_14 : decode cX9_knowers 14 = .ok (.iload_n 3, 1) := by decide +kernel
theorem dX9_knowers_15 : decode cX9_knowers 15 = .ok (.aload_n 0, 1) := by decide +kernel
theorem dX9_knowers_16 : decode cX9_knowers 16 = .ok (.getfield 66, 3) := by decide +kernel
theorem dX9_knowers_19 : decode cX9_knowers 19 = .ok (.iload_n 1, 1) := by decide +kernel
theorem dX9_knowers_20 : decode cX9_knowers 20 = .ok (.bipush 28, 2) := by decide +kernel
theorem dX9_knowers_22 : decode cX9_knowers 22 = .ok (.iadd, 1) := by decide +kernel
theorem dX9_knowers_23 : decode cX9_knowers 23 = .ok (.iload 4, 2) := by decide +kernel
theorem dX9_knowers_25 : decode cX9_knowers 25 = .ok (.iadd, 1) := by decide +kernel
theorem dX9_knowers_26 : decode cX9_knowers 26 = .ok (.iaload, 1) := by decide +kernel
theorem dX9_knowers_27 : decode cX9_knowers 27 = .ok (.iload_n 2, 1) := by decide +kernel
theorem dX9_knowers_28 : decode cX9_knowers 28 = .ok (.ishr, 1) := by decide +kernel
theorem dX9_knowers_29 : decode cX9_knowers 29 = .ok (.iconst 1, 1) := by decide +kernel
theorem dX9_knowers_30 : decode cX9_knowers 30 = .ok (.iand, 1) := by decide +kernel
theorem dX9_knowers_31 : decode cX9_knowers 31 = .ok (.iload 4, 2) := by decide +kernel
theorem dX9_knowers_33 : decode cX9_knowers 33 = .ok (.ishl, 1) := by decide +kernel
theorem dX9_knowers_34 : decode cX9_knowers 34 = .ok (.ior, 1) := by decide +kernel
theorem dX9_knowers_35 : decode cX9_knowers 35 = .ok (.istore_n 3, 1) := by decide +kernel
theorem dX9_knowers_36 : decode cX9_knowers 36 = .ok (.iinc 4 1, 3) := by decide +kernel
theorem dX9_knowers_39 : decode cX9_knowers 39 = .ok (.goto (-34), 3) := by decide +kernel
theorem dX9_knowers_42 : decode cX9_knowers 42 = .ok (.iload_n 3, 1) := by decide +kernel
theorem dX9_knowers_43 : decode cX9_knowers 43 = .ok (.ireturn, 1) := by decide +kernel
theorem dX9_showsWhere_0 : decode cX9_showsWhere 0 = .ok (.iconst 0, 1) := by decide +kernel
theorem dX9_showsWhere_1 : decode cX9_showsWhere 1 = .ok (.istore_n 2, 1) := by decide +kernel
theorem dX9_showsWhere_2 : decode cX9_showsWhere 2 = .ok (.iload_n 2, 1) := by decide +kernel
theorem dX9_showsWhere_3 : decode cX9_showsWhere 3 = .ok (.iconst 4, 1) := by decide +kernel
theorem dX9_showsWhere_4 : decode cX9_showsWhere 4 = .ok (.if_icmp .ge 25, 3) := by decide +kernel
theorem dX9_showsWhere_7 : decode cX9_showsWhere 7 = .ok (.aload_n 0, 1) := by decide +kernel
theorem dX9_showsWhere_8 : decode cX9_showsWhere 8 = .ok (.iconst 0, 1) := by decide +kernel
theorem dX9_showsWhere_9 : decode cX9_showsWhere 9 = .ok (.iload_n 2, 1) := by decide +kernel
theorem dX9_showsWhere_10 : decode cX9_showsWhere 10 = .ok (.invokevirtual 347, 3) := by decide +kernel
theorem dX9_showsWhere_13 : decode cX9_showsWhere 13 = .ok (.iload_n 1, 1) := by decide +kernel
theorem dX9_showsWhere_14 : decode cX9_showsWhere 14 = .ok (.ishr, 1) := by decide +kernel
theorem dX9_showsWhere_15 : decode cX9_showsWhere 15 = .ok (.iconst 1, 1) := by decide +kernel
theorem dX9_showsWhere_16 : decode cX9_showsWhere 16 = .ok (.iand, 1) := by decide +kernel
theorem dX9_showsWhere_17 : decode cX9_showsWhere 17 = .ok (.iconst 1, 1) := by decide +kernel
theorem dX9_showsWhere_18 : decode cX9_showsWhere 18 = .ok (.if_icmp .ne 5, 3) := by decide +kernel
theorem dX9_showsWhere_21 : decode cX9_showsWhere 21 = .ok (.iload_n 2, 1) := by decide +kernel
theorem dX9_showsWhere_22 : decode cX9_showsWhere 22 = .ok (.ireturn, 1) := by decide +kernel
theorem dX9_showsWhere_23 : decode cX9_showsWhere 23 = .ok (.iinc 2 1, 3) := by decide +kernel
theorem dX9_showsWhere_26 : decode cX9_showsWhere 26 = .ok (.goto (-24), 3) := by decide +kernel
theorem dX9_showsWhere_29 : decode cX9_showsWhere 29 = .ok (.iconst (-1), 1) := by decide +kernel
theorem dX9_showsWhere_30 : decode cX9_showsWhere 30 = .ok (.ireturn, 1) := by decide +kernel
theorem dX9_word_0 : decode cX9_word 0 = .ok (.aload_n 0, 1) := by decide +kernel
theorem dX9_word_1 : decode cX9_word 1 = .ok (.iconst 0, 1) := by decide +kernel
theorem dX9_word_2 : decode cX9_word 2 = .ok (.putfield 102, 3) := by decide +kernel
theorem dX9_word_5 : decode cX9_word 5 = .ok (.aload_n 0, 1) := by decide +kernel
theorem dX9_word_6 : decode cX9_word 6 = .ok (.iload_n 1, 1) := by decide +kernel
theorem dX9_word_7 : decode cX9_word 7 = .ok (.invokevirtual 390, 3) := by decide +kernel
theorem dX9_word_10 : decode cX9_word 10 = .ok (.ifCond .eq 12, 3) := by decide +kernel
theorem dX9_word_13 : decode cX9_word 13 = .ok (.aload_n 0, 1) := by decide +kernel
theorem dX9_word_14 : decode cX9_word 14 = .ok (.iload_n 2, 1) := by decide +kernel
theorem dX9_word_15 : decode cX9_word 15 = .ok (.iconst 3, 1) := by decide +kernel
theorem dX9_word_16 : decode cX9_word 16 = .ok (.invokevirtual 381, 3) := by decide +kernel
theorem dX9_word_19 : decode cX9_word 19 = .ok (.ifCond .ne 5, 3) := by decide +kernel
theorem dX9_word_22 : decode cX9_word 22 = .ok (.iconst 0, 1) := by decide +kernel
theorem dX9_word_23 : decode cX9_word 23 = .ok (.ireturn, 1) := by decide +kernel
theorem dX9_word_24 : decode cX9_word 24 = .ok (.iload_n 2, 1) := by decide +kernel
theorem dX9_word_25 : decode cX9_word 25 = .ok (.ifCond .ne 12, 3) := by decide +kernel
theorem dX9_word_28 : decode cX9_word 28 = .ok (.aload_n 0, 1) := by decide +kernel
theorem dX9_word_29 : decode cX9_word 29 = .ok (.getfield 23, 3) := by decide +kernel
theorem dX9_word_32 : decode cX9_word 32 = .ok (.iload_n 1, 1) := by decide +kernel
theorem dX9_word_33 : decode cX9_word 33 = .ok (.iaload, 1) := by decide +kernel
theorem dX9_word_34 : decode cX9_word 34 = .ok (.goto 36, 3) := by decide +kernel
theorem dX9_word_37 : decode cX9_word 37 = .ok (.iload_n 2, 1) := by decide +kernel
theorem dX9_word_38 : decode cX9_word 38 = .ok (.iconst 1, 1) := by decide +kernel
theorem dX9_word_39 : decode cX9_word 39 = .ok (.if_icmp .ne 12, 3) := by decide +kernel
theorem dX9_word_42 : decode cX9_word 42 = .ok (.aload_n 0, 1) := by decide +kernel
theorem dX9_word_43 : decode cX9_word 43 = .ok (.getfield 26, 3) := by decide +kernel
theorem dX9_word_46 : decode cX9_word 46 = .ok (.iload_n 1, 1) := by decide +kernel
theorem dX9_word_47 : decode cX9_word 47 = .ok (.iaload, 1) := by decide +kernel
theorem dX9_word_48 : decode cX9_word 48 = .ok (.goto 22, 3) := by decide +kernel
theorem dX9_word_51 : decode cX9_word 51 = .ok (.iload_n 2, 1) := by decide +kernel
theorem dX9_word_52 : decode cX9_word 52 = .ok (.iconst 2, 1) := by decide +kernel
theorem dX9_word_53 : decode cX9_word 53 = .ok (.if_icmp .ne 11, 3) := by decide +kernel
theorem dX9_word_56 : decode cX9_word 56 = .ok (.aload_n 0, 1) := by decide +kernel
theorem dX9_word_57 : decode cX9_word 57 = .ok (.iload_n 1, 1) := by decide +kernel
theorem dX9_word_58 : decode cX9_word 58 = .ok (.invokevirtual 393, 3) := by decide +kernel
theorem dX9_word_61 : decode cX9_word 61 = .ok (.goto 9, 3) := by decide +kernel
theorem dX9_word_64 : decode cX9_word 64 = .ok (.aload_n 0, 1) := by decide +kernel
theorem dX9_word_65 : decode cX9_word 65 = .ok (.iconst 0, 1) := by decide +kernel
theorem dX9_word_66 : decode cX9_word 66 = .ok (.iload_n 1, 1) := by decide +kernel
theorem dX9_word_67 : decode cX9_word 67 = .ok (.invokevirtual 396, 3) := by decide +kernel
theorem dX9_word_70 : decode cX9_word 70 = .ok (.ireturn, 1) := by decide +kernel
theorem dX9_archive_0 : decode cX9_archive 0 = .ok (.iconst 0, 1) := by decide +kernel
theorem dX9_archive_1 : decode cX9_archive 1 = .ok (.istore_n 2, 1) := by decide +kernel
theorem dX9_archive_2 : decode cX9_archive 2 = .ok (.iconst 0, 1) := by decide +kernel
theorem dX9_archive_3 : decode cX9_archive 3 = .ok (.istore_n 3, 1) := by decide +kernel
theorem dX9_archive_4 : decode cX9_archive 4 = .ok (.iload_n 3, 1) := by decide +kernel
theorem dX9_archive_5 : decode cX9_archive 5 = .ok (.aload_n 0, 1) := by decide +kernel
theorem dX9_archive_6 : decode cX9_archive 6 = .ok (.getfield 280, 3) := by decide +kernel
theorem dX9_archive_9 : decode cX9_archive 9 = .ok (.if_icmp .ge 32, 3) := by decide +kernel
theorem dX9_archive_12 : decode cX9_archive 12 = .ok (.iload_n 2, 1) := by decide +kernel
theorem dX9_archive_13 : decode cX9_archive 13 = .ok (.aload_n 0, 1) := by decide +kernel
theorem dX9_archive_14 : decode cX9_archive 14 = .ok (.getfield 66, 3) := by decide +kernel
theorem dX9_archive_17 : decode cX9_archive 17 = .ok (.bipush 19, 2) := by decide +kernel
theorem dX9_archive_19 : decode cX9_archive 19 = .ok (.iload_n 3, 1) := by decide +kernel
theorem dX9_archive_20 : decode cX9_archive 20 = .ok (.iadd, 1) := by decide +kernel
theorem dX9_archive_21 : decode cX9_archive 21 = .ok (.iaload, 1) := by decide +kernel
theorem dX9_archive_22 : decode cX9_archive 22 = .ok (.iload_n 1, 1) := by decide +kernel
theorem dX9_archive_23 : decode cX9_archive 23 = .ok (.if_icmp .ne 9, 3) := by decide +kernel
theorem dX9_archive_26 : decode cX9_archive 26 = .ok (.iconst 1, 1) := by decide +kernel
theorem dX9_archive_27 : decode cX9_archive 27 = .ok (.iload_n 3, 1) := by decide +kernel
theorem dX9_archive_28 : decode cX9_archive 28 = .ok (.ishl, 1) := by decide +kernel
theorem dX9_archive_29 : decode cX9_archive 29 = .ok (.goto 4, 3) := by decide +kernel
theorem dX9_archive_32 : decode cX9_archive 32 = .ok (.iconst 0, 1) := by decide +kernel
theorem dX9_archive_33 : decode cX9_archive 33 = .ok (.ior, 1) := by decide +kernel
theorem dX9_archive_34 : decode cX9_archive 34 = .ok (.istore_n 2, 1) := by decide +kernel
theorem dX9_archive_35 : decode cX9_archive 35 = .ok (.iinc 3 1, 3) := by decide +kernel
theorem dX9_archive_38 : decode cX9_archive 38 = .ok (.goto (-34), 3) := by decide +kernel
theorem dX9_archive_41 : decode cX9_archive 41 = .ok (.iload_n 2, 1) := by decide +kernel
theorem dX9_archive_42 : decode cX9_archive 42 = .ok (.ireturn, 1) := by decide +kernel
theorem dX9_isWhole_0 : decode cX9_isWhole 0 = .ok (.aload_n 0, 1) := by decide +kernel
theorem dX9_isWhole_1 : decode cX9_isWhole 1 = .ok (.iconst 0, 1) := by decide +kernel
theorem dX9_isWhole_2 : decode cX9_isWhole 2 = .ok (.aload_n 0, 1) := by decide +kernel
theorem dX9_isWhole_3 : decode cX9_isWhole 3 = .ok (.getfield 23, 3) := by decide +kernel
theorem dX9_isWhole_6 : decode cX9_isWhole 6 = .ok (.iload_n 1, 1) := by decide +kernel
theorem dX9_isWhole_7 : decode cX9_isWhole 7 = .ok (.iaload, 1) := by decide +kernel
theorem dX9_isWhole_8 : decode cX9_isWhole 8 = .ok (.invokevirtual 319, 3) := by decide +kernel
theorem dX9_isWhole_11 : decode cX9_isWhole 11 = .ok (.ifCond .ne 21, 3) := by decide +kernel
theorem dX9_isWhole_14 : decode cX9_isWhole 14 = .ok (.aload_n 0, 1) := by decide +kernel
theorem dX9_isWhole_15 : decode cX9_isWhole 15 = .ok (.iconst 0, 1) := by decide +kernel
theorem dX9_isWhole_16 : decode cX9_isWhole 16 = .ok (.aload_n 0, 1) := by decide +kernel
theorem dX9_isWhole_17 : decode cX9_isWhole 17 = .ok (.getfield 26, 3) := by decide +kernel
theorem dX9_isWhole_20 : decode cX9_isWhole 20 = .ok (.iload_n 1, 1) := by decide +kernel
theorem dX9_isWhole_21 : decode cX9_isWhole 21 = .ok (.iaload, 1) := by decide +kernel
theorem dX9_isWhole_22 : decode cX9_isWhole 22 = .ok (.invokevirtual 319, 3) := by decide +kernel
theorem dX9_isWhole_25 : decode cX9_isWhole 25 = .ok (.ifCond .ne 7, 3) := by decide +kernel
theorem dX9_isWhole_28 : decode cX9_isWhole 28 = .ok (.iconst 1, 1) := by decide +kernel
theorem dX9_isWhole_29 : decode cX9_isWhole 29 = .ok (.goto 4, 3) := by decide +kernel
theorem dX9_isWhole_32 : decode cX9_isWhole 32 = .ok (.iconst 0, 1) := by decide +kernel
theorem dX9_isWhole_33 : decode cX9_isWhole 33 = .ok (.ireturn, 1) := by decide +kernel
theorem dX9_lostBy_0 : decode cX9_lostBy 0 = .ok (.iconst 0, 1) := by decide +kernel
theorem dX9_lostBy_1 : decode cX9_lostBy 1 = .ok (.istore_n 2, 1) := by decide +kernel
theorem dX9_lostBy_2 : decode cX9_lostBy 2 = .ok (.iconst 0, 1) := by decide +kernel
theorem dX9_lostBy_3 : decode cX9_lostBy 3 = .ok (.istore_n 3, 1) := by decide +kernel
theorem dX9_lostBy_4 : decode cX9_lostBy 4 = .ok (.iload_n 3, 1) := by decide +kernel
theorem dX9_lostBy_5 : decode cX9_lostBy 5 = .ok (.aload_n 0, 1) := by decide +kernel
theorem dX9_lostBy_6 : decode cX9_lostBy 6 = .ok (.getfield 286, 3) := by decide +kernel
theorem dX9_lostBy_9 : decode cX9_lostBy 9 = .ok (.if_icmp .ge 50, 3) := by decide +kernel
theorem dX9_lostBy_12 : decode cX9_lostBy 12 = .ok (.iload_n 2, 1) := by decide +kernel
theorem dX9_lostBy_13 : decode cX9_lostBy 13 = .ok (.aload_n 0, 1) := by decide +kernel
theorem dX9_lostBy_14 : decode cX9_lostBy 14 = .ok (.iload_n 3, 1) := by decide +kernel
theorem dX9_lostBy_15 : decode cX9_lostBy 15 = .ok (.invokevirtual 399, 3) := by decide +kernel
theorem dX9_lostBy_18 : decode cX9_lostBy 18 = .ok (.ifCond .eq 32, 3) := by decide +kernel
theorem dX9_lostBy_21 : decode cX9_lostBy 21 = .ok (.iload_n 1, 1) := by decide +kernel
theorem dX9_lostBy_22 : decode cX9_lostBy 22 = .ok (.aload_n 0, 1) := by decide +kernel
theorem dX9_lostBy_23 : decode cX9_lostBy 23 = .ok (.getfield 23, 3) := by decide +kernel
theorem dX9_lostBy_26 : decode cX9_lostBy 26 = .ok (.iload_n 3, 1) := by decide +kernel
theorem dX9_lostBy_27 : decode cX9_lostBy 27 = .ok (.iaload, 1) := by decide +kernel
theorem dX9_lostBy_28 : decode cX9_lostBy 28 = .ok (.ishr, 1) := by decide +kernel
theorem dX9_lostBy_29 : decode cX9_lostBy 29 = .ok (.iload_n 1, 1) := by decide +kernel
theorem dX9_lostBy_30 : decode cX9_lostBy 30 = .ok (.aload_n 0, 1) := by decide +kernel
theorem dX9_lostBy_31 : decode cX9_lostBy 31 = .ok (.getfield 26, 3) := by decide +kernel
theorem dX9_lostBy_34 : decode cX9_lostBy 34 = .ok (.iload_n 3, 1) := by decide +kernel
theorem dX9_lostBy_35 : decode cX9_lostBy 35 = .ok (.iaload, 1) := by decide +kernel
theorem dX9_lostBy_36 : decode cX9_lostBy 36 = .ok (.ishr, 1) := by decide +kernel
theorem dX9_lostBy_37 : decode cX9_lostBy 37 = .ok (.ior, 1) := by decide +kernel
theorem dX9_lostBy_38 : decode cX9_lostBy 38 = .ok (.iconst 1, 1) := by decide +kernel
theorem dX9_lostBy_39 : decode cX9_lostBy 39 = .ok (.iand, 1) := by decide +kernel
theorem dX9_lostBy_40 : decode cX9_lostBy 40 = .ok (.iconst 1, 1) := by decide +kernel
theorem dX9_lostBy_41 : decode cX9_lostBy 41 = .ok (.if_icmp .ne 9, 3) := by decide +kernel
theorem dX9_lostBy_44 : decode cX9_lostBy 44 = .ok (.iconst 1, 1) := by decide +kernel
theorem dX9_lostBy_45 : decode cX9_lostBy 45 = .ok (.iload_n 3, 1) := by decide +kernel
theorem dX9_lostBy_46 : decode cX9_lostBy 46 = .ok (.ishl, 1) := by decide +kernel
theorem dX9_lostBy_47 : decode cX9_lostBy 47 = .ok (.goto 4, 3) := by decide +kernel
theorem dX9_lostBy_50 : decode cX9_lostBy 50 = .ok (.iconst 0, 1) := by decide +kernel
theorem dX9_lostBy_51 : decode cX9_lostBy 51 = .ok (.ior, 1) := by decide +kernel
theorem dX9_lostBy_52 : decode cX9_lostBy 52 = .ok (.istore_n 2, 1) := by decide +kernel
theorem dX9_lostBy_53 : decode cX9_lostBy 53 = .ok (.iinc 3 1, 3) := by decide +kernel
theorem dX9_lostBy_56 : decode cX9_lostBy 56 = .ok (.goto (-52), 3) := by decide +kernel
theorem dX9_lostBy_59 : decode cX9_lostBy 59 = .ok (.iload_n 2, 1) := by decide +kernel
theorem dX9_lostBy_60 : decode cX9_lostBy 60 = .ok (.ireturn, 1) := by decide +kernel
theorem dX9_town_0 : decode cX9_town 0 = .ok (.aload_n 0, 1) := by decide +kernel
theorem dX9_town_1 : decode cX9_town 1 = .ok (.iconst 0, 1) := by decide +kernel
theorem dX9_town_2 : decode cX9_town 2 = .ok (.putfield 102, 3) := by decide +kernel
theorem dX9_town_5 : decode cX9_town 5 = .ok (.aload_n 0, 1) := by decide +kernel
theorem dX9_town_6 : decode cX9_town 6 = .ok (.iload_n 1, 1) := by decide +kernel
theorem dX9_town_7 : decode cX9_town 7 = .ok (.invokevirtual 402, 3) := by decide +kernel
theorem dX9_town_10 : decode cX9_town 10 = .ok (.ifCond .eq 12, 3) := by decide +kernel
theorem dX9_town_13 : decode cX9_town 13 = .ok (.aload_n 0, 1) := by decide +kernel
theorem dX9_town_14 : decode cX9_town 14 = .ok (.iload_n 2, 1) := by decide +kernel
theorem dX9_town_15 : decode cX9_town 15 = .ok (.iconst 4, 1) := by decide +kernel
theorem dX9_town_16 : decode cX9_town 16 = .ok (.invokevirtual 381, 3) := by decide +kernel
theorem dX9_town_19 : decode cX9_town 19 = .ok (.ifCond .ne 5, 3) := by decide +kernel
theorem dX9_town_22 : decode cX9_town 22 = .ok (.iconst 0, 1) := by decide +kernel
theorem dX9_town_23 : decode cX9_town 23 = .ok (.ireturn, 1) := by decide +kernel
theorem dX9_town_24 : decode cX9_town 24 = .ok (.iload_n 2, 1) := by decide +kernel
theorem dX9_town_25 : decode cX9_town 25 = .ok (.ifCond .ne 11, 3) := by decide +kernel
theorem dX9_town_28 : decode cX9_town 28 = .ok (.aload_n 0, 1) := by decide +kernel
theorem dX9_town_29 : decode cX9_town 29 = .ok (.iload_n 1, 1) := by decide +kernel
theorem dX9_town_30 : decode cX9_town 30 = .ok (.invokevirtual 405, 3) := by decide +kernel
theorem dX9_town_33 : decode cX9_town 33 = .ok (.goto 54, 3) := by decide +kernel
theorem dX9_town_36 : decode cX9_town 36 = .ok (.iload_n 2, 1) := by decide +kernel
theorem dX9_town_37 : decode cX9_town 37 = .ok (.iconst 1, 1) := by decide +kernel
theorem dX9_town_38 : decode cX9_town 38 = .ok (.if_icmp .ne 12, 3) := by decide +kernel
theorem dX9_town_41 : decode cX9_town 41 = .ok (.aload_n 0, 1) := by decide +kernel
theorem dX9_town_42 : decode cX9_town 42 = .ok (.iconst 0, 1) := by decide +kernel
theorem dX9_town_43 : decode cX9_town 43 = .ok (.iload_n 1, 1) := by decide +kernel
theorem dX9_town_44 : decode cX9_town 44 = .ok (.invokevirtual 328, 3) := by decide +kernel
theorem dX9_town_47 : decode cX9_town 47 = .ok (.goto 40, 3) := by decide +kernel
theorem dX9_town_50 : decode cX9_town 50 = .ok (.iload_n 2, 1) := by decide +kernel
theorem dX9_town_51 : decode cX9_town 51 = .ok (.iconst 2, 1) := by decide +kernel
theorem dX9_town_52 : decode cX9_town 52 = .ok (.if_icmp .ne 12, 3) := by decide +kernel
theorem dX9_town_55 : decode cX9_town 55 = .ok (.aload_n 0, 1) := by decide +kernel
theorem dX9_town_56 : decode cX9_town 56 = .ok (.iconst 0, 1) := by decide +kernel
theorem dX9_town_57 : decode cX9_town 57 = .ok (.iload_n 1, 1) := by decide +kernel
theorem dX9_town_58 : decode cX9_town 58 = .ok (.invokevirtual 335, 3) := by decide +kernel
theorem dX9_town_61 : decode cX9_town 61 = .ok (.goto 26, 3) := by decide +kernel
theorem dX9_town_64 : decode cX9_town 64 = .ok (.iload_n 2, 1) := by decide +kernel
theorem dX9_town_65 : decode cX9_town 65 = .ok (.iconst 3, 1) := by decide +kernel
theorem dX9_town_66 : decode cX9_town 66 = .ok (.if_icmp .ne 12, 3) := by decide +kernel
theorem dX9_town_69 : decode cX9_town 69 = .ok (.aload_n 0, 1) := by decide +kernel
theorem dX9_town_70 : decode cX9_town 70 = .ok (.iconst 0, 1) := by decide +kernel
theorem dX9_town_71 : decode cX9_town 71 = .ok (.iload_n 1, 1) := by decide +kernel
theorem dX9_town_72 : decode cX9_town 72 = .ok (.invokevirtual 347, 3) := by decide +kernel
theorem dX9_town_75 : decode cX9_town 75 = .ok (.goto 12, 3) := by decide +kernel
theorem dX9_town_78 : decode cX9_town 78 = .ok (.aload_n 0, 1) := by decide +kernel
theorem dX9_town_79 : decode cX9_town 79 = .ok (.aload_n 0, 1) := by decide +kernel
theorem dX9_town_80 : decode cX9_town 80 = .ok (.iload_n 1, 1) := by decide +kernel
theorem dX9_town_81 : decode cX9_town 81 = .ok (.invokevirtual 405, 3) := by decide +kernel
theorem dX9_town_84 : decode cX9_town 84 = .ok (.invokevirtual 408, 3) := by decide +kernel
theorem dX9_town_87 : decode cX9_town 87 = .ok (.ireturn, 1) := by decide +kernel
theorem dX9_days_0 : decode cX9_days 0 = .ok (.aload_n 0, 1) := by decide +kernel
theorem dX9_days_1 : decode cX9_days 1 = .ok (.iconst 0, 1) := by decide +kernel
theorem dX9_days_2 : decode cX9_days 2 = .ok (.putfield 102, 3) := by decide +kernel
theorem dX9_days_5 : decode cX9_days 5 = .ok (.iload_n 1, 1) := by decide +kernel
theorem dX9_days_6 : decode cX9_days 6 = .ok (.iconst 1, 1) := by decide +kernel
theorem dX9_days_7 : decode cX9_days 7 = .ok (.bipush 20, 2) := by decide +kernel
theorem dX9_days_9 : decode cX9_days 9 = .ok (.invokestatic 363, 3) := by decide +kernel
theorem dX9_days_12 : decode cX9_days 12 = .ok (.ifCond .eq 17, 3) := by decide +kernel
theorem dX9_days_15 : decode cX9_days 15 = .ok (.aload_n 0, 1) := by decide +kernel
theorem dX9_days_16 : decode cX9_days 16 = .ok (.getfield 66, 3) := by decide +kernel
theorem dX9_days_19 : decode cX9_days 19 = .ok (.iconst 0, 1) := by decide +kernel
theorem dX9_days_20 : decode cX9_days 20 = .ok (.iaload, 1) := by decide +kernel
theorem dX9_days_21 : decode cX9_days 21 = .ok (.iload_n 1, 1) := by decide +kernel
theorem dX9_days_22 : decode cX9_days 22 = .ok (.iadd, 1) := by decide +kernel
theorem dX9_days_23 : decode cX9_days 23 = .ok (.sipush 999, 3) := by decide +kernel
theorem dX9_days_26 : decode cX9_days 26 = .ok (.if_icmp .le 9, 3) := by decide +kernel
theorem dX9_days_29 : decode cX9_days 29 = .ok (.aload_n 0, 1) := by decide +kernel
theorem dX9_days_30 : decode cX9_days 30 = .ok (.iconst 1, 1) := by decide +kernel
theorem dX9_days_31 : decode cX9_days 31 = .ok (.invokevirtual 411, 3) := by decide +kernel
theorem dX9_days_34 : decode cX9_days 34 = .ok (.ireturn, 1) := by decide +kernel
theorem dX9_days_35 : decode cX9_days 35 = .ok (.aload_n 0, 1) := by decide +kernel
theorem dX9_days_36 : decode cX9_days 36 = .ok (.invokevirtual 414, 3) := by decide +kernel
theorem dX9_days_39 : decode cX9_days 39 = .ok (.iconst 0, 1) := by decide +kernel
theorem dX9_days_40 : decode cX9_days 40 = .ok (.istore_n 2, 1) := by decide +kernel
theorem dX9_days_41 : decode cX9_days 41 = .ok (.iload_n 2, 1) := by decide +kernel
theorem dX9_days_42 : decode cX9_days 42 = .ok (.iload_n 1, 1) := by decide +kernel
theorem dX9_days_43 : decode cX9_days 43 = .ok (.if_icmp .ge 14, 3) := by decide +kernel
theorem dX9_days_46 : decode cX9_days 46 = .ok (.aload_n 0, 1) := by decide +kernel
theorem dX9_days_47 : decode cX9_days 47 = .ok (.iconst 0, 1) := by decide +kernel
theorem dX9_days_48 : decode cX9_days 48 = .ok (.invokevirtual 357, 3) := by decide +kernel
theorem dX9_days_51 : decode cX9_days 51 = .ok (.iinc 2 1, 3) := by decide +kernel
theorem dX9_days_54 : decode cX9_days 54 = .ok (.goto (-13), 3) := by decide +kernel
theorem dX9_days_57 : decode cX9_days 57 = .ok (.aload_n 0, 1) := by decide +kernel
theorem dX9_days_58 : decode cX9_days 58 = .ok (.getfield 66, 3) := by decide +kernel
theorem dX9_days_61 : decode cX9_days 61 = .ok (.iconst 0, 1) := by decide +kernel
theorem dX9_days_62 : decode cX9_days 62 = .ok (.iaload, 1) := by decide +kernel
theorem dX9_days_63 : decode cX9_days 63 = .ok (.ireturn, 1) := by decide +kernel
theorem dX9_take_0 : decode cX9_take 0 = .ok (.aload_n 0, 1) := by decide +kernel
theorem dX9_take_1 : decode cX9_take 1 = .ok (.iconst 0, 1) := by decide +kernel
theorem dX9_take_2 : decode cX9_take 2 = .ok (.putfield 102, 3) := by decide +kernel
theorem dX9_take_5 : decode cX9_take 5 = .ok (.aload_n 0, 1) := by decide +kernel
theorem dX9_take_6 : decode cX9_take 6 = .ok (.iload_n 1, 1) := by decide +kernel
theorem dX9_take_7 : decode cX9_take 7 = .ok (.invokevirtual 387, 3) := by decide +kernel
theorem dX9_take_10 : decode cX9_take 10 = .ok (.ifCond .eq 11, 3) := by decide +kernel
theorem dX9_take_13 : decode cX9_take 13 = .ok (.aload_n 0, 1) := by decide +kernel
theorem dX9_take_14 : decode cX9_take 14 = .ok (.iload_n 2, 1) := by decide +kernel
theorem dX9_take_15 : decode cX9_take 15 = .ok (.invokevirtual 378, 3) := by decide +kernel
theorem dX9_take_18 : decode cX9_take 18 = .ok (.ifCond .ne 5, 3) := by decide +kernel
theorem dX9_take_21 : decode cX9_take 21 = .ok (.iconst 0, 1) := by decide +kernel
theorem dX9_take_22 : decode cX9_take 22 = .ok (.ireturn, 1) := by decide +kernel
theorem dX9_take_23 : decode cX9_take 23 = .ok (.aload_n 0, 1) := by decide +kernel
theorem dX9_take_24 : decode cX9_take 24 = .ok (.getfield 66, 3) := by decide +kernel
theorem dX9_take_27 : decode cX9_take 27 = .ok (.bipush 19, 2) := by decide +kernel
theorem dX9_take_29 : decode cX9_take 29 = .ok (.iload_n 2, 1) := by decide +kernel
theorem dX9_take_30 : decode cX9_take 30 = .ok (.iadd, 1) := by decide +kernel
theorem dX9_take_31 : decode cX9_take 31 = .ok (.iaload, 1) := by decide +kernel
theorem dX9_take_32 : decode cX9_take 32 = .ok (.aload_n 0, 1) := by decide +kernel
theorem dX9_take_33 : decode cX9_take 33 = .ok (.iconst 0, 1) := by decide +kernel
theorem dX9_take_34 : decode cX9_take 34 = .ok (.iload_n 1, 1) := by decide +kernel
theorem dX9_take_35 : decode cX9_take 35 = .ok (.invokevirtual 313, 3) := by decide +kernel
theorem dX9_take_38 : decode cX9_take 38 = .ok (.if_icmp .eq 17, 3) := by decide +kernel
theorem dX9_take_41 : decode cX9_take 41 = .ok (.aload_n 0, 1) := by decide +kernel
theorem dX9_take_42 : decode cX9_take 42 = .ok (.iconst 1, 1) := by decide +kernel
theorem dX9_take_43 : decode cX9_take 43 = .ok (.invokevirtual 411, 3) := by decide +kernel
theorem dX9_take_46 : decode cX9_take 46 = .ok (.ifCond .le 7, 3) := by decide +kernel
theorem dX9_take_49 : decode cX9_take 49 = .ok (.iconst 1, 1) := by decide +kernel
theorem dX9_take_50 : decode cX9_take 50 = .ok (.goto 4, 3) := by decide +kernel
theorem dX9_take_53 : decode cX9_take 53 = .ok (.iconst 0, 1) := by decide +kernel
theorem dX9_take_54 : decode cX9_take 54 = .ok (.ireturn, 1) := by decide +kernel
theorem dX9_take_55 : decode cX9_take 55 = .ok (.aload_n 0, 1) := by decide +kernel
theorem dX9_take_56 : decode cX9_take 56 = .ok (.invokevirtual 414, 3) := by decide +kernel
theorem dX9_take_59 : decode cX9_take 59 = .ok (.aload_n 0, 1) := by decide +kernel
theorem dX9_take_60 : decode cX9_take 60 = .ok (.getfield 66, 3) := by decide +kernel
theorem dX9_take_63 : decode cX9_take 63 = .ok (.bipush 19, 2) := by decide +kernel
theorem dX9_take_65 : decode cX9_take 65 = .ok (.iload_n 2, 1) := by decide +kernel
theorem dX9_take_66 : decode cX9_take 66 = .ok (.iadd, 1) := by decide +kernel
theorem dX9_take_67 : decode cX9_take 67 = .ok (.bipush 10, 2) := by decide +kernel
theorem dX9_take_69 : decode cX9_take 69 = .ok (.iload_n 1, 1) := by decide +kernel
theorem dX9_take_70 : decode cX9_take 70 = .ok (.iadd, 1) := by decide +kernel
theorem dX9_take_71 : decode cX9_take 71 = .ok (.iastore, 1) := by decide +kernel
theorem dX9_take_72 : decode cX9_take 72 = .ok (.iconst 1, 1) := by decide +kernel
theorem dX9_take_73 : decode cX9_take 73 = .ok (.ireturn, 1) := by decide +kernel
theorem dX9_leave_0 : decode cX9_leave 0 = .ok (.aload_n 0, 1) := by decide +kernel
theorem dX9_leave_1 : decode cX9_leave 1 = .ok (.iconst 0, 1) := by decide +kernel
theorem dX9_leave_2 : decode cX9_leave 2 = .ok (.putfield 102, 3) := by decide +kernel
theorem dX9_leave_5 : decode cX9_leave 5 = .ok (.aload_n 0, 1) := by decide +kernel
theorem dX9_leave_6 : decode cX9_leave 6 = .ok (.iload_n 1, 1) := by decide +kernel
theorem dX9_leave_7 : decode cX9_leave 7 = .ok (.invokevirtual 387, 3) := by decide +kernel
theorem dX9_leave_10 : decode cX9_leave 10 = .ok (.ifCond .eq 11, 3) := by decide +kernel
theorem dX9_leave_13 : decode cX9_leave 13 = .ok (.aload_n 0, 1) := by decide +kernel
theorem dX9_leave_14 : decode cX9_leave 14 = .ok (.iload_n 2, 1) := by decide +kernel
theorem dX9_leave_15 : decode cX9_leave 15 = .ok (.invokevirtual 378, 3) := by decide +kernel
theorem dX9_leave_18 : decode cX9_leave 18 = .ok (.ifCond .ne 5, 3) := by decide +kernel
theorem dX9_leave_21 : decode cX9_leave 21 = .ok (.iconst 0, 1) := by decide +kernel
theorem dX9_leave_22 : decode cX9_leave 22 = .ok (.ireturn, 1) := by decide +kernel
theorem dX9_leave_23 : decode cX9_leave 23 = .ok (.aload_n 0, 1) := by decide +kernel
theorem dX9_leave_24 : decode cX9_leave 24 = .ok (.getfield 66, 3) := by decide +kernel
theorem dX9_leave_27 : decode cX9_leave 27 = .ok (.bipush 19, 2) := by decide +kernel
theorem dX9_leave_29 : decode cX9_leave 29 = .ok (.iload_n 2, 1) := by decide +kernel
theorem dX9_leave_30 : decode cX9_leave 30 = .ok (.iadd, 1) := by decide +kernel
theorem dX9_leave_31 : decode cX9_leave 31 = .ok (.iaload, 1) := by decide +kernel
theorem dX9_leave_32 : decode cX9_leave 32 = .ok (.bipush 10, 2) := by decide +kernel
theorem dX9_leave_34 : decode cX9_leave 34 = .ok (.iload_n 1, 1) := by decide +kernel
theorem dX9_leave_35 : decode cX9_leave 35 = .ok (.iadd, 1) := by decide +kernel
theorem dX9_leave_36 : decode cX9_leave 36 = .ok (.if_icmp .eq 9, 3) := by decide +kernel
theorem dX9_leave_39 : decode cX9_leave 39 = .ok (.aload_n 0, 1) := by decide +kernel
theorem dX9_leave_40 : decode cX9_leave 40 = .ok (.iconst 1, 1) := by decide +kernel
theorem dX9_leave_41 : decode cX9_leave 41 = .ok (.invokevirtual 411, 3) := by decide +kernel
theorem dX9_leave_44 : decode cX9_leave 44 = .ok (.ireturn, 1) := by decide +kernel
theorem dX9_leave_45 : decode cX9_leave 45 = .ok (.aload_n 0, 1) := by decide +kernel
theorem dX9_leave_46 : decode cX9_leave 46 = .ok (.invokevirtual 414, 3) := by decide +kernel
theorem dX9_leave_49 : decode cX9_leave 49 = .ok (.aload_n 0, 1) := by decide +kernel
theorem dX9_leave_50 : decode cX9_leave 50 = .ok (.getfield 66, 3) := by decide +kernel
theorem dX9_leave_53 : decode cX9_leave 53 = .ok (.bipush 19, 2) := by decide +kernel
theorem dX9_leave_55 : decode cX9_leave 55 = .ok (.iload_n 2, 1) := by decide +kernel
theorem dX9_leave_56 : decode cX9_leave 56 = .ok (.iadd, 1) := by decide +kernel
theorem dX9_leave_57 : decode cX9_leave 57 = .ok (.aload_n 0, 1) := by decide +kernel
theorem dX9_leave_58 : decode cX9_leave 58 = .ok (.iconst 0, 1) := by decide +kernel
theorem dX9_leave_59 : decode cX9_leave 59 = .ok (.iload_n 1, 1) := by decide +kernel
theorem dX9_leave_60 : decode cX9_leave 60 = .ok (.invokevirtual 313, 3) := by decide +kernel
theorem dX9_leave_63 : decode cX9_leave 63 = .ok (.iastore, 1) := by decide +kernel
theorem dX9_leave_64 : decode cX9_leave 64 = .ok (.aload_n 0, 1) := by decide +kernel
theorem dX9_leave_65 : decode cX9_leave 65 = .ok (.getfield 66, 3) := by decide +kernel
theorem dX9_leave_68 : decode cX9_leave 68 = .ok (.bipush 19, 2) := by decide +kernel
theorem dX9_leave_70 : decode cX9_leave 70 = .ok (.iload_n 2, 1) := by decide +kernel
theorem dX9_leave_71 : decode cX9_leave 71 = .ok (.iadd, 1) := by decide +kernel
theorem dX9_leave_72 : decode cX9_leave 72 = .ok (.iaload, 1) := by decide +kernel
theorem dX9_leave_73 : decode cX9_leave 73 = .ok (.ireturn, 1) := by decide +kernel
theorem dX9_forge_0 : decode cX9_forge 0 = .ok (.aload_n 0, 1) := by decide +kernel
theorem dX9_forge_1 : decode cX9_forge 1 = .ok (.iconst 0, 1) := by decide +kernel
theorem dX9_forge_2 : decode cX9_forge 2 = .ok (.putfield 102, 3) := by decide +kernel
theorem dX9_forge_5 : decode cX9_forge 5 = .ok (.aload_n 0, 1) := by decide +kernel
theorem dX9_forge_6 : decode cX9_forge 6 = .ok (.iload_n 1, 1) := by decide +kernel
theorem dX9_forge_7 : decode cX9_forge 7 = .ok (.invokevirtual 378, 3) := by decide +kernel
theorem dX9_forge_10 : decode cX9_forge 10 = .ok (.ifCond .eq 35, 3) := by decide +kernel
theorem dX9_forge_13 : decode cX9_forge 13 = .ok (.aload_n 0, 1) := by decide +kernel
theorem dX9_forge_14 : decode cX9_forge 14 = .ok (.iload_n 2, 1) := by decide +kernel
theorem dX9_forge_15 : decode cX9_forge 15 = .ok (.iconst 0, 1) := by decide +kernel
theorem dX9_forge_16 : decode cX9_forge 16 = .ok (.iconst 1, 1) := by decide +kernel
theorem dX9_forge_17 : decode cX9_forge 17 = .ok (.invokestatic 363, 3) := by decide +kernel
theorem dX9_forge_20 : decode cX9_forge 20 = .ok (.ifCond .eq 17, 3) := by decide +kernel
theorem dX9_forge_23 : decode cX9_forge 23 = .ok (.iload_n 3, 1) := by decide +kernel
theorem dX9_forge_24 : decode cX9_forge 24 = .ok (.iconst 0, 1) := by decide +kernel
theorem dX9_forge_25 : decode cX9_forge 25 = .ok (.bipush 7, 2) := by decide +kernel
theorem dX9_forge_27 : decode cX9_forge 27 = .ok (.invokestatic 363, 3) := by decide +kernel
theorem dX9_forge_30 : decode cX9_forge 30 = .ok (.ifCond .eq 7, 3) := by decide +kernel
theorem dX9_forge_33 : decode cX9_forge 33 = .ok (.iconst 1, 1) := by decide +kernel
theorem dX9_forge_34 : decode cX9_forge 34 = .ok (.goto 4, 3) := by decide +kernel
theorem dX9_forge_37 : decode cX9_forge 37 = .ok (.iconst 0, 1) := by decide +kernel
theorem dX9_forge_38 : decode cX9_forge 38 = .ok (.iconst 1, 1) := by decide +kernel
theorem dX9_forge_39 : decode cX9_forge 39 = .ok (.invokevirtual 273, 3) := by decide +kernel
theorem dX9_forge_42 : decode cX9_forge 42 = .ok (.ifCond .ne 5, 3) := by decide +kernel
theorem dX9_forge_45 : decode cX9_forge 45 = .ok (.iconst 0, 1) := by decide +kernel
theorem dX9_forge_46 : decode cX9_forge 46 = .ok (.ireturn, 1) := by decide +kernel
theorem dX9_forge_47 : decode cX9_forge 47 = .ok (.aload_n 0, 1) := by decide +kernel
theorem dX9_forge_48 : decode cX9_forge 48 = .ok (.iconst 0, 1) := by decide +kernel
theorem dX9_forge_49 : decode cX9_forge 49 = .ok (.iload_n 1, 1) := by decide +kernel
theorem dX9_forge_50 : decode cX9_forge 50 = .ok (.invokevirtual 319, 3) := by decide +kernel
theorem dX9_forge_53 : decode cX9_forge 53 = .ok (.ifCond .eq 9, 3) := by decide +kernel
theorem dX9_forge_56 : decode cX9_forge 56 = .ok (.aload_n 0, 1) := by decide +kernel
theorem dX9_forge_57 : decode cX9_forge 57 = .ok (.iconst 1, 1) := by decide +kernel
theorem dX9_forge_58 : decode cX9_forge 58 = .ok (.invokevirtual 411, 3) := by decide +kernel
theorem dX9_forge_61 : decode cX9_forge 61 = .ok (.ireturn, 1) := by decide +kernel
theorem dX9_forge_62 : decode cX9_forge 62 = .ok (.aload_n 0, 1) := by decide +kernel
theorem dX9_forge_63 : decode cX9_forge 63 = .ok (.invokevirtual 414, 3) := by decide +kernel
theorem dX9_forge_66 : decode cX9_forge 66 = .ok (.iload_n 2, 1) := by decide +kernel
theorem dX9_forge_67 : decode cX9_forge 67 = .ok (.ifCond .ne 7, 3) := by decide +kernel
theorem dX9_forge_70 : decode cX9_forge 70 = .ok (.iconst 1, 1) := by decide +kernel
theorem dX9_forge_71 : decode cX9_forge 71 = .ok (.goto 5, 3) := by decide +kernel
theorem dX9_forge_74 : decode cX9_forge 74 = .ok (.bipush 10, 2) := by decide +kernel
theorem dX9_forge_76 : decode cX9_forge 76 = .ok (.iload_n 1, 1) := by decide +kernel
theorem dX9_forge_77 : decode cX9_forge 77 = .ok (.iadd, 1) := by decide +kernel
theorem dX9_forge_78 : decode cX9_forge 78 = .ok (.istore 4, 2) := by decide +kernel
theorem dX9_forge_80 : decode cX9_forge 80 = .ok (.aload_n 0, 1) := by decide +kernel
theorem dX9_forge_81 : decode cX9_forge 81 = .ok (.getfield 66, 3) := by decide +kernel
theorem dX9_forge_84 : decode cX9_forge 84 = .ok (.iload 4, 2) := by decide +kernel
theorem dX9_forge_86 : decode cX9_forge 86 = .ok (.dup2, 1) := by decide +kernel
theorem dX9_forge_87 : decode cX9_forge 87 = .ok (.iaload, 1) := by decide +kernel
theorem dX9_forge_88 : decode cX9_forge 88 = .ok (.iconst 1, 1) := by decide +kernel
theorem dX9_forge_89 : decode cX9_forge 89 = .ok (.iload_n 3, 1) := by decide +kernel
theorem dX9_forge_90 : decode cX9_forge 90 = .ok (.ishl, 1) := by decide +kernel
theorem dX9_forge_91 : decode cX9_forge 91 = .ok (.ixor, 1) := by decide +kernel
theorem dX9_forge_92 : decode cX9_forge 92 = .ok (.iastore, 1) := by decide +kernel
theorem dX9_forge_93 : decode cX9_forge 93 = .ok (.aload_n 0, 1) := by decide +kernel
theorem dX9_forge_94 : decode cX9_forge 94 = .ok (.getfield 66, 3) := by decide +kernel
theorem dX9_forge_97 : decode cX9_forge 97 = .ok (.iload 4, 2) := by decide +kernel
theorem dX9_forge_99 : decode cX9_forge 99 = .ok (.iaload, 1) := by decide +kernel
theorem dX9_forge_100 : decode cX9_forge 100 = .ok (.ireturn, 1) := by decide +kernel
theorem dX9_burns_0 : decode cX9_burns 0 = .ok (.iconst 0, 1) := by decide +kernel
theorem dX9_burns_1 : decode cX9_burns 1 = .ok (.istore_n 3, 1) := by decide +kernel
theorem dX9_burns_2 : decode cX9_burns 2 = .ok (.iload_n 3, 1) := by decide +kernel
theorem dX9_burns_3 : decode cX9_burns 3 = .ok (.aload_n 0, 1) := by decide +kernel
theorem dX9_burns_4 : decode cX9_burns 4 = .ok (.getfield 280, 3) := by decide +kernel
theorem dX9_burns_7 : decode cX9_burns 7 = .ok (.if_icmp .ge 36, 3) := by decide +kernel
theorem dX9_burns_10 : decode cX9_burns 10 = .ok (.aload_n 0, 1) := by decide +kernel
theorem dX9_burns_11 : decode cX9_burns 11 = .ok (.getfield 66, 3) := by decide +kernel
theorem dX9_burns_14 : decode cX9_burns 14 = .ok (.iload_n 1, 1) := by decide +kernel
theorem dX9_burns_15 : decode cX9_burns 15 = .ok (.bipush 19, 2) := by decide +kernel
theorem dX9_burns_17 : decode cX9_burns 17 = .ok (.iadd, 1) := by decide +kernel
theorem dX9_burns_18 : decode cX9_burns 18 = .ok (.iload_n 3, 1) := by decide +kernel
theorem dX9_burns_19 : decode cX9_burns 19 = .ok (.iadd, 1) := by decide +kernel
theorem dX9_burns_20 : decode cX9_burns 20 = .ok (.iaload, 1) := by decide +kernel
theorem dX9_burns_21 : decode cX9_burns 21 = .ok (.iload_n 2, 1) := by decide +kernel
theorem dX9_burns_22 : decode cX9_burns 22 = .ok (.if_icmp .ne 15, 3) := by decide +kernel
theorem dX9_burns_25 : decode cX9_burns 25 = .ok (.aload_n 0, 1) := by decide +kernel
theorem dX9_burns_26 : decode cX9_burns 26 = .ok (.getfield 66, 3) := by decide +kernel
theorem dX9_burns_29 : decode cX9_burns 29 = .ok (.iload_n 1, 1) := by decide +kernel
theorem dX9_burns_30 : decode cX9_burns 30 = .ok (.bipush 19, 2) := by decide +kernel
theorem dX9_burns_32 : decode cX9_burns 32 = .ok (.iadd, 1) := by decide +kernel
theorem dX9_burns_33 : decode cX9_burns 33 = .ok (.iload_n 3, 1) := by decide +kernel
theorem dX9_burns_34 : decode cX9_burns 34 = .ok (.iadd, 1) := by decide +kernel
theorem dX9_burns_35 : decode cX9_burns 35 = .ok (.iconst (-1), 1) := by decide +kernel
theorem dX9_burns_36 : decode cX9_burns 36 = .ok (.iastore, 1) := by decide +kernel
theorem dX9_burns_37 : decode cX9_burns 37 = .ok (.iinc 3 1, 3) := by decide +kernel
theorem dX9_burns_40 : decode cX9_burns 40 = .ok (.goto (-38), 3) := by decide +kernel
theorem dX9_burns_43 : decode cX9_burns 43 = .ok (.return_, 1) := by decide +kernel
theorem dX9_fire_0 : decode cX9_fire 0 = .ok (.aload_n 0, 1) := by decide +kernel
theorem dX9_fire_1 : decode cX9_fire 1 = .ok (.iconst 0, 1) := by decide +kernel
theorem dX9_fire_2 : decode cX9_fire 2 = .ok (.putfield 102, 3) := by decide +kernel
theorem dX9_fire_5 : decode cX9_fire 5 = .ok (.aload_n 0, 1) := by decide +kernel
theorem dX9_fire_6 : decode cX9_fire 6 = .ok (.iload_n 1, 1) := by decide +kernel
theorem dX9_fire_7 : decode cX9_fire 7 = .ok (.invokevirtual 402, 3) := by decide +kernel
theorem dX9_fire_10 : decode cX9_fire 10 = .ok (.ifCond .ne 5, 3) := by decide +kernel
theorem dX9_fire_13 : decode cX9_fire 13 = .ok (.iconst 0, 1) := by decide +kernel
theorem dX9_fire_14 : decode cX9_fire 14 = .ok (.ireturn, 1) := by decide +kernel
theorem dX9_fire_15 : decode cX9_fire 15 = .ok (.aload_n 0, 1) := by decide +kernel
theorem dX9_fire_16 : decode cX9_fire 16 = .ok (.iload_n 1, 1) := by decide +kernel
theorem dX9_fire_17 : decode cX9_fire 17 = .ok (.invokevirtual 405, 3) := by decide +kernel
theorem dX9_fire_20 : decode cX9_fire 20 = .ok (.istore_n 2, 1) := by decide +kernel
theorem dX9_fire_21 : decode cX9_fire 21 = .ok (.iload_n 2, 1) := by decide +kernel
theorem dX9_fire_22 : decode cX9_fire 22 = .ok (.ifCond .ne 9, 3) := by decide +kernel
theorem dX9_fire_25 : decode cX9_fire 25 = .ok (.aload_n 0, 1) := by decide +kernel
theorem dX9_fire_26 : decode cX9_fire 26 = .ok (.iconst 1, 1) := by decide +kernel
theorem dX9_fire_27 : decode cX9_fire 27 = .ok (.invokevirtual 411, 3) := by decide +kernel
theorem dX9_fire_30 : decode cX9_fire 30 = .ok (.ireturn, 1) := by decide +kernel
theorem dX9_fire_31 : decode cX9_fire 31 = .ok (.aload_n 0, 1) := by decide +kernel
theorem dX9_fire_32 : decode cX9_fire 32 = .ok (.invokevirtual 414, 3) := by decide +kernel
theorem dX9_fire_35 : decode cX9_fire 35 = .ok (.aload_n 0, 1) := by decide +kernel
theorem dX9_fire_36 : decode cX9_fire 36 = .ok (.iconst 0, 1) := by decide +kernel
theorem dX9_fire_37 : decode cX9_fire 37 = .ok (.iload_n 1, 1) := by decide +kernel
theorem dX9_fire_38 : decode cX9_fire 38 = .ok (.invokevirtual 417, 3) := by decide +kernel
theorem dX9_fire_41 : decode cX9_fire 41 = .ok (.iload_n 2, 1) := by decide +kernel
theorem dX9_fire_42 : decode cX9_fire 42 = .ok (.ireturn, 1) := by decide +kernel
theorem dX9_goesTo_0 : decode cX9_goesTo 0 = .ok (.aload_n 0, 1) := by decide +kernel
theorem dX9_goesTo_1 : decode cX9_goesTo 1 = .ok (.invokevirtual 420, 3) := by decide +kernel
theorem dX9_goesTo_4 : decode cX9_goesTo 4 = .ok (.aload_n 0, 1) := by decide +kernel
theorem dX9_goesTo_5 : decode cX9_goesTo 5 = .ok (.iload_n 1, 1) := by decide +kernel
theorem dX9_goesTo_6 : decode cX9_goesTo 6 = .ok (.invokevirtual 423, 3) := by decide +kernel
theorem dX9_goesTo_9 : decode cX9_goesTo 9 = .ok (.return_, 1) := by decide +kernel
theorem dX9_then_0 : decode cX9_then 0 = .ok (.aload_n 0, 1) := by decide +kernel
theorem dX9_then_1 : decode cX9_then 1 = .ok (.iconst 0, 1) := by decide +kernel
theorem dX9_then_2 : decode cX9_then 2 = .ok (.putfield 102, 3) := by decide +kernel
theorem dX9_then_5 : decode cX9_then 5 = .ok (.aload_n 0, 1) := by decide +kernel
theorem dX9_then_6 : decode cX9_then 6 = .ok (.iload_n 1, 1) := by decide +kernel
theorem dX9_then_7 : decode cX9_then 7 = .ok (.invokevirtual 387, 3) := by decide +kernel
theorem dX9_then_10 : decode cX9_then 10 = .ok (.ifCond .eq 22, 3) := by decide +kernel
theorem dX9_then_13 : decode cX9_then 13 = .ok (.aload_n 0, 1) := by decide +kernel
theorem dX9_then_14 : decode cX9_then 14 = .ok (.iload_n 3, 1) := by decide +kernel
theorem dX9_then_15 : decode cX9_then 15 = .ok (.iconst 1, 1) := by decide +kernel
theorem dX9_then_16 : decode cX9_then 16 = .ok (.invokevirtual 381, 3) := by decide +kernel
theorem dX9_then_19 : decode cX9_then 19 = .ok (.ifCond .eq 13, 3) := by decide +kernel
theorem dX9_then_22 : decode cX9_then 22 = .ok (.aload_n 0, 1) := by decide +kernel
theorem dX9_then_23 : decode cX9_then 23 = .ok (.iload_n 2, 1) := by decide +kernel
theorem dX9_then_24 : decode cX9_then 24 = .ok (.iconst 0, 1) := by decide +kernel
theorem dX9_then_25 : decode cX9_then 25 = .ok (.iconst 2, 1) := by decide +kernel
theorem dX9_then_26 : decode cX9_then 26 = .ok (.invokevirtual 426, 3) := by decide +kernel
theorem dX9_then_29 : decode cX9_then 29 = .ok (.ifCond .ne 5, 3) := by decide +kernel
theorem dX9_then_32 : decode cX9_then 32 = .ok (.iconst 0, 1) := by decide +kernel
theorem dX9_then_33 : decode cX9_then 33 = .ok (.ireturn, 1) := by decide +kernel
theorem dX9_then_34 : decode cX9_then 34 = .ok (.aload_n 0, 1) := by decide +kernel
theorem dX9_then_35 : decode cX9_then 35 = .ok (.iload_n 2, 1) := by decide +kernel
theorem dX9_then_36 : decode cX9_then 36 = .ok (.invokevirtual 429, 3) := by decide +kernel
theorem dX9_then_39 : decode cX9_then 39 = .ok (.iload_n 3, 1) := by decide +kernel
theorem dX9_then_40 : decode cX9_then 40 = .ok (.ifCond .ne 13, 3) := by decide +kernel
theorem dX9_then_43 : decode cX9_then 43 = .ok (.aload_n 0, 1) := by decide +kernel
theorem dX9_then_44 : decode cX9_then 44 = .ok (.bipush 34, 2) := by decide +kernel
theorem dX9_then_46 : decode cX9_then 46 = .ok (.iload_n 1, 1) := by decide +kernel
theorem dX9_then_47 : decode cX9_then 47 = .ok (.invokevirtual 313, 3) := by decide +kernel
theorem dX9_then_50 : decode cX9_then 50 = .ok (.goto 12, 3) := by decide +kernel
theorem dX9_then_53 : decode cX9_then 53 = .ok (.aload_n 0, 1) := by decide +kernel
theorem dX9_then_54 : decode cX9_then 54 = .ok (.getfield 66, 3) := by decide +kernel
theorem dX9_then_57 : decode cX9_then 57 = .ok (.bipush 62, 2) := by decide +kernel
theorem dX9_then_59 : decode cX9_then 59 = .ok (.iload_n 1, 1) := by decide +kernel
theorem dX9_then_60 : decode cX9_then 60 = .ok (.iadd, 1) := by decide +kernel
theorem dX9_then_61 : decode cX9_then 61 = .ok (.iaload, 1) := by decide +kernel
theorem dX9_then_62 : decode cX9_then 62 = .ok (.ireturn, 1) := by decide +kernel
theorem dX9_where_0 : decode cX9_where 0 = .ok (.aload_n 0, 1) := by decide +kernel
theorem dX9_where_1 : decode cX9_where 1 = .ok (.iconst 0, 1) := by decide +kernel
theorem dX9_where_2 : decode cX9_where 2 = .ok (.putfield 102, 3) := by decide +kernel
theorem dX9_where_5 : decode cX9_where 5 = .ok (.aload_n 0, 1) := by decide +kernel
theorem dX9_where_6 : decode cX9_where 6 = .ok (.iload_n 1, 1) := by decide +kernel
theorem dX9_where_7 : decode cX9_where 7 = .ok (.invokevirtual 378, 3) := by decide +kernel
theorem dX9_where_10 : decode cX9_where 10 = .ok (.ifCond .eq 13, 3) := by decide +kernel
theorem dX9_where_13 : decode cX9_where 13 = .ok (.aload_n 0, 1) := by decide +kernel
theorem dX9_where_14 : decode cX9_where 14 = .ok (.iload_n 2, 1) := by decide +kernel
theorem dX9_where_15 : decode cX9_where 15 = .ok (.iconst 0, 1) := by decide +kernel
theorem dX9_where_16 : decode cX9_where 16 = .ok (.iconst 2, 1) := by decide +kernel
theorem dX9_where_17 : decode cX9_where 17 = .ok (.invokevirtual 426, 3) := by decide +kernel
theorem dX9_where_20 : decode cX9_where 20 = .ok (.ifCond .ne 5, 3) := by decide +kernel
theorem dX9_where_23 : decode cX9_where 23 = .ok (.iconst 0, 1) := by decide +kernel
theorem dX9_where_24 : decode cX9_where 24 = .ok (.ireturn, 1) := by decide +kernel
theorem dX9_where_25 : decode cX9_where 25 = .ok (.aload_n 0, 1) := by decide +kernel
theorem dX9_where_26 : decode cX9_where 26 = .ok (.iload_n 2, 1) := by decide +kernel
theorem dX9_where_27 : decode cX9_where 27 = .ok (.invokevirtual 429, 3) := by decide +kernel
theorem dX9_where_30 : decode cX9_where 30 = .ok (.aload_n 0, 1) := by decide +kernel
theorem dX9_where_31 : decode cX9_where 31 = .ok (.bipush 34, 2) := by decide +kernel
theorem dX9_where_33 : decode cX9_where 33 = .ok (.iload_n 1, 1) := by decide +kernel
theorem dX9_where_34 : decode cX9_where 34 = .ok (.invokevirtual 325, 3) := by decide +kernel
theorem dX9_where_37 : decode cX9_where 37 = .ok (.ireturn, 1) := by decide +kernel
theorem dX9_first_0 : decode cX9_first 0 = .ok (.aload_n 0, 1) := by decide +kernel
theorem dX9_first_1 : decode cX9_first 1 = .ok (.iconst 0, 1) := by decide +kernel
theorem dX9_first_2 : decode cX9_first 2 = .ok (.putfield 102, 3) := by decide +kernel
theorem dX9_first_5 : decode cX9_first 5 = .ok (.aload_n 0, 1) := by decide +kernel
theorem dX9_first_6 : decode cX9_first 6 = .ok (.iload_n 1, 1) := by decide +kernel
theorem dX9_first_7 : decode cX9_first 7 = .ok (.invokevirtual 387, 3) := by decide +kernel
theorem dX9_first_10 : decode cX9_first 10 = .ok (.ifCond .eq 11, 3) := by decide +kernel
theorem dX9_first_13 : decode cX9_first 13 = .ok (.aload_n 0, 1) := by decide +kernel
theorem dX9_first_14 : decode cX9_first 14 = .ok (.iload_n 2, 1) := by decide +kernel
theorem dX9_first_15 : decode cX9_first 15 = .ok (.invokevirtual 390, 3) := by decide +kernel
theorem dX9_first_18 : decode cX9_first 18 = .ok (.ifCond .ne 5, 3) := by decide +kernel
theorem dX9_first_21 : decode cX9_first 21 = .ok (.iconst 0, 1) := by decide +kernel
theorem dX9_first_22 : decode cX9_first 22 = .ok (.ireturn, 1) := by decide +kernel
theorem dX9_first_23 : decode cX9_first 23 = .ok (.aload_n 0, 1) := by decide +kernel
theorem dX9_first_24 : decode cX9_first 24 = .ok (.invokevirtual 420, 3) := by decide +kernel
theorem dX9_first_27 : decode cX9_first 27 = .ok (.iconst 0, 1) := by decide +kernel
theorem dX9_first_28 : decode cX9_first 28 = .ok (.istore_n 3, 1) := by decide +kernel
theorem dX9_first_29 : decode cX9_first 29 = .ok (.iload_n 3, 1) := by decide +kernel
theorem dX9_first_30 : decode cX9_first 30 = .ok (.bipush 40, 2) := by decide +kernel
theorem dX9_first_32 : decode cX9_first 32 = .ok (.if_icmp .gt 34, 3) := by decide +kernel
theorem dX9_first_35 : decode cX9_first 35 = .ok (.aload_n 0, 1) := by decide +kernel
theorem dX9_first_36 : decode cX9_first 36 = .ok (.getfield 66, 3) := by decide +kernel
theorem dX9_first_39 : decode cX9_first 39 = .ok (.bipush 62, 2) := by decide +kernel
theorem dX9_first_41 : decode cX9_first 41 = .ok (.iload_n 1, 1) := by decide +kernel
theorem dX9_first_42 : decode cX9_first 42 = .ok (.iadd, 1) := by decide +kernel
theorem dX9_first_43 : decode cX9_first 43 = .ok (.iaload, 1) := by decide +kernel
theorem dX9_first_44 : decode cX9_first 44 = .ok (.iload_n 2, 1) := by decide +kernel
theorem dX9_first_45 : decode cX9_first 45 = .ok (.ishr, 1) := by decide +kernel
theorem dX9_first_46 : decode cX9_first 46 = .ok (.iconst 1, 1) := by decide +kernel
theorem dX9_first_47 : decode cX9_first 47 = .ok (.iand, 1) := by decide +kernel
theorem dX9_first_48 : decode cX9_first 48 = .ok (.iconst 1, 1) := by decide +kernel
theorem dX9_first_49 : decode cX9_first 49 = .ok (.if_icmp .ne 5, 3) := by decide +kernel
theorem dX9_first_52 : decode cX9_first 52 = .ok (.iload_n 3, 1) := by decide +kernel
theorem dX9_first_53 : decode cX9_first 53 = .ok (.ireturn, 1) := by decide +kernel
theorem dX9_first_54 : decode cX9_first 54 = .ok (.aload_n 0, 1) := by decide +kernel
theorem dX9_first_55 : decode cX9_first 55 = .ok (.bipush 34, 2) := by decide +kernel
theorem dX9_first_57 : decode cX9_first 57 = .ok (.invokevirtual 357, 3) := by decide +kernel
theorem dX9_first_60 : decode cX9_first 60 = .ok (.iinc 3 1, 3) := by decide +kernel
theorem dX9_first_63 : decode cX9_first 63 = .ok (.goto (-34), 3) := by decide +kernel
theorem dX9_first_66 : decode cX9_first 66 = .ok (.iconst (-1), 1) := by decide +kernel
theorem dX9_first_67 : decode cX9_first 67 = .ok (.ireturn, 1) := by decide +kernel
theorem dX9_read_0 : decode cX9_read 0 = .ok (.aload_n 0, 1) := by decide +kernel
theorem dX9_read_1 : decode cX9_read 1 = .ok (.iconst 0, 1) := by decide +kernel
theorem dX9_read_2 : decode cX9_read 2 = .ok (.putfield 102, 3) := by decide +kernel
theorem dX9_read_5 : decode cX9_read 5 = .ok (.aload_n 0, 1) := by decide +kernel
theorem dX9_read_6 : decode cX9_read 6 = .ok (.iload_n 2, 1) := by decide +kernel
theorem dX9_read_7 : decode cX9_read 7 = .ok (.iconst 1, 1) := by decide +kernel
theorem dX9_read_8 : decode cX9_read 8 = .ok (.invokevirtual 381, 3) := by decide +kernel
theorem dX9_read_11 : decode cX9_read 11 = .ok (.ifCond .eq 13, 3) := by decide +kernel
theorem dX9_read_14 : decode cX9_read 14 = .ok (.aload_n 0, 1) := by decide +kernel
theorem dX9_read_15 : decode cX9_read 15 = .ok (.iload_n 1, 1) := by decide +kernel
theorem dX9_read_16 : decode cX9_read 16 = .ok (.iconst 0, 1) := by decide +kernel
theorem dX9_read_17 : decode cX9_read 17 = .ok (.iconst 2, 1) := by decide +kernel
theorem dX9_read_18 : decode cX9_read 18 = .ok (.invokevirtual 426, 3) := by decide +kernel
theorem dX9_read_21 : decode cX9_read 21 = .ok (.ifCond .ne 5, 3) := by decide +kernel
theorem dX9_read_24 : decode cX9_read 24 = .ok (.iconst 0, 1) := by decide +kernel
theorem dX9_read_25 : decode cX9_read 25 = .ok (.ireturn, 1) := by decide +kernel
theorem dX9_read_26 : decode cX9_read 26 = .ok (.aload_n 0, 1) := by decide +kernel
theorem dX9_read_27 : decode cX9_read 27 = .ok (.iload_n 1, 1) := by decide +kernel
theorem dX9_read_28 : decode cX9_read 28 = .ok (.invokevirtual 429, 3) := by decide +kernel
theorem dX9_read_31 : decode cX9_read 31 = .ok (.iconst 0, 1) := by decide +kernel
theorem dX9_read_32 : decode cX9_read 32 = .ok (.istore_n 3, 1) := by decide +kernel
theorem dX9_read_33 : decode cX9_read 33 = .ok (.iconst 0, 1) := by decide +kernel
theorem dX9_read_34 : decode cX9_read 34 = .ok (.istore 4, 2) := by decide +kernel
theorem dX9_read_36 : decode cX9_read 36 = .ok (.iload 4, 2) := by decide +kernel
theorem dX9_read_38 : decode cX9_read 38 = .ok (.aload_n 0, 1) := by decide +kernel
theorem dX9_read_39 : decode cX9_read 39 = .ok (.getfield 286, 3) := by decide +kernel
theorem dX9_read_42 : decode cX9_read 42 = .ok (.if_icmp .ge 35, 3) := by decide +kernel
theorem dX9_read_45 : decode cX9_read 45 = .ok (.iload_n 3, 1) := by decide +kernel
theorem dX9_read_46 : decode cX9_read 46 = .ok (.aload_n 0, 1) := by decide +kernel
theorem dX9_read_47 : decode cX9_read 47 = .ok (.bipush 34, 2) := by decide +kernel
theorem dX9_read_49 : decode cX9_read 49 = .ok (.iload 4, 2) := by decide +kernel
theorem dX9_read_51 : decode cX9_read 51 = .ok (.invokevirtual 396, 3) := by decide +kernel
theorem dX9_read_54 : decode cX9_read 54 = .ok (.invokestatic 316, 3) := by decide +kernel
theorem dX9_read_57 : decode cX9_read 57 = .ok (.iconst 1, 1) := by decide +kernel
theorem dX9_read_58 : decode cX9_read 58 = .ok (.if_icmp .ne 10, 3) := by decide +kernel
theorem dX9_read_61 : decode cX9_read 61 = .ok (.iconst 1, 1) := by decide +kernel
theorem dX9_read_62 : decode cX9_read 62 = .ok (.iload 4, 2) := by decide +kernel
theorem dX9_read_64 : decode cX9_read 64 = .ok (.ishl, 1) := by decide +kernel
theorem dX9_read_65 : decode cX9_read 65 = .ok (.goto 4, 3) := by decide +kernel
theorem dX9_read_68 : decode cX9_read 68 = .ok (.iconst 0, 1) := by decide +kernel
theorem dX9_read_69 : decode cX9_read 69 = .ok (.ior, 1) := by decide +kernel
theorem dX9_read_70 : decode cX9_read 70 = .ok (.istore_n 3, 1) := by decide +kernel
theorem dX9_read_71 : decode cX9_read 71 = .ok (.iinc 4 1, 3) := by decide +kernel
theorem dX9_read_74 : decode cX9_read 74 = .ok (.goto (-38), 3) := by decide +kernel
theorem dX9_read_77 : decode cX9_read 77 = .ok (.iload_n 2, 1) := by decide +kernel
theorem dX9_read_78 : decode cX9_read 78 = .ok (.ifCond .ne 16, 3) := by decide +kernel
theorem dX9_read_81 : decode cX9_read 81 = .ok (.aload_n 0, 1) := by decide +kernel
theorem dX9_read_82 : decode cX9_read 82 = .ok (.bipush 34, 2) := by decide +kernel
theorem dX9_read_84 : decode cX9_read 84 = .ok (.aload_n 0, 1) := by decide +kernel
theorem dX9_read_85 : decode cX9_read 85 = .ok (.invokevirtual 372, 3) := by decide +kernel
theorem dX9_read_88 : decode cX9_read 88 = .ok (.invokevirtual 338, 3) := by decide +kernel
theorem dX9_read_91 : decode cX9_read 91 = .ok (.goto 4, 3) := by decide +kernel
theorem dX9_read_94 : decode cX9_read 94 = .ok (.iload_n 3, 1) := by decide +kernel
theorem dX9_read_95 : decode cX9_read 95 = .ok (.ireturn, 1) := by decide +kernel
theorem dX9_mould_0 : decode cX9_mould 0 = .ok (.aload_n 0, 1) := by decide +kernel
theorem dX9_mould_1 : decode cX9_mould 1 = .ok (.iconst 0, 1) := by decide +kernel
theorem dX9_mould_2 : decode cX9_mould 2 = .ok (.putfield 102, 3) := by decide +kernel
theorem dX9_mould_5 : decode cX9_mould 5 = .ok (.aload_n 0, 1) := by decide +kernel
theorem dX9_mould_6 : decode cX9_mould 6 = .ok (.iload_n 1, 1) := by decide +kernel
theorem dX9_mould_7 : decode cX9_mould 7 = .ok (.invokevirtual 378, 3) := by decide +kernel
theorem dX9_mould_10 : decode cX9_mould 10 = .ok (.ifCond .ne 5, 3) := by decide +kernel
theorem dX9_mould_13 : decode cX9_mould 13 = .ok (.iconst 0, 1) := by decide +kernel
theorem dX9_mould_14 : decode cX9_mould 14 = .ok (.ireturn, 1) := by decide +kernel
theorem dX9_mould_15 : decode cX9_mould 15 = .ok (.aload_n 0, 1) := by decide +kernel
theorem dX9_mould_16 : decode cX9_mould 16 = .ok (.invokevirtual 420, 3) := by decide +kernel
theorem dX9_mould_19 : decode cX9_mould 19 = .ok (.iconst 1, 1) := by decide +kernel
theorem dX9_mould_20 : decode cX9_mould 20 = .ok (.istore_n 2, 1) := by decide +kernel
theorem dX9_mould_21 : decode cX9_mould 21 = .ok (.iload_n 2, 1) := by decide +kernel
theorem dX9_mould_22 : decode cX9_mould 22 = .ok (.bipush 40, 2) := by decide +kernel
theorem dX9_mould_24 : decode cX9_mould 24 = .ok (.if_icmp .gt 38, 3) := by decide +kernel
theorem dX9_mould_27 : decode cX9_mould 27 = .ok (.aload_n 0, 1) := by decide +kernel
theorem dX9_mould_28 : decode cX9_mould 28 = .ok (.bipush 34, 2) := by decide +kernel
theorem dX9_mould_30 : decode cX9_mould 30 = .ok (.invokevirtual 357, 3) := by decide +kernel
theorem dX9_mould_33 : decode cX9_mould 33 = .ok (.aload_n 0, 1) := by decide +kernel
theorem dX9_mould_34 : decode cX9_mould 34 = .ok (.getfield 66, 3) := by decide +kernel
theorem dX9_mould_37 : decode cX9_mould 37 = .ok (.bipush 44, 2) := by decide +kernel
theorem dX9_mould_39 : decode cX9_mould 39 = .ok (.iload_n 1, 1) := by decide +kernel
theorem dX9_mould_40 : decode cX9_mould 40 = .ok (.iadd, 1) := by decide +kernel
theorem dX9_mould_41 : decode cX9_mould 41 = .ok (.iaload, 1) := by decide +kernel
theorem dX9_mould_42 : decode cX9_mould 42 = .ok (.aload_n 0, 1) := by decide +kernel
theorem dX9_mould_43 : decode cX9_mould 43 = .ok (.getfield 66, 3) := by decide +kernel
theorem dX9_mould_46 : decode cX9_mould 46 = .ok (.bipush 10, 2) := by decide +kernel
theorem dX9_mould_48 : decode cX9_mould 48 = .ok (.iload_n 1, 1) := by decide +kernel
theorem dX9_mould_49 : decode cX9_mould 49 = .ok (.iadd, 1) := by decide +kernel
theorem dX9_mould_50 : decode cX9_mould 50 = .ok (.iaload, 1) := by decide +kernel
theorem dX9_mould_51 : decode cX9_mould 51 = .ok (.if_icmp .eq 5, 3) := by decide +kernel
theorem dX9_mould_54 : decode cX9_mould 54 = .ok (.iload_n 2, 1) := by decide +kernel
theorem dX9_mould_55 : decode cX9_mould 55 = .ok (.ireturn, 1) := by decide +kernel
theorem dX9_mould_56 : decode cX9_mould 56 = .ok (.iinc 2 1, 3) := by decide +kernel
theorem dX9_mould_59 : decode cX9_mould 59 = .ok (.goto (-38), 3) := by decide +kernel
theorem dX9_mould_62 : decode cX9_mould 62 = .ok (.iconst (-1), 1) := by decide +kernel
theorem dX9_mould_63 : decode cX9_mould 63 = .ok (.ireturn, 1) := by decide +kernel
theorem dX9_meet_0 : decode cX9_meet 0 = .ok (.aload_n 0, 1) := by decide +kernel
theorem dX9_meet_1 : decode cX9_meet 1 = .ok (.iconst 0, 1) := by decide +kernel
theorem dX9_meet_2 : decode cX9_meet 2 = .ok (.putfield 102, 3) := by decide +kernel
theorem dX9_meet_5 : decode cX9_meet 5 = .ok (.aload_n 0, 1) := by decide +kernel
theorem dX9_meet_6 : decode cX9_meet 6 = .ok (.iload_n 1, 1) := by decide +kernel
theorem dX9_meet_7 : decode cX9_meet 7 = .ok (.invokevirtual 378, 3) := by decide +kernel
theorem dX9_meet_10 : decode cX9_meet 10 = .ok (.ifCond .eq 11, 3) := by decide +kernel
theorem dX9_meet_13 : decode cX9_meet 13 = .ok (.aload_n 0, 1) := by decide +kernel
theorem dX9_meet_14 : decode cX9_meet 14 = .ok (.iload_n 2, 1) := by decide +kernel
theorem dX9_meet_15 : decode cX9_meet 15 = .ok (.invokevirtual 378, 3) := by decide +kernel
theorem dX9_meet_18 : decode cX9_meet 18 = .ok (.ifCond .ne 5, 3) := by decide +kernel
theorem dX9_meet_21 : decode cX9_meet 21 = .ok (.iconst 0, 1) := by decide +kernel
theorem dX9_meet_22 : decode cX9_meet 22 = .ok (.ireturn, 1) := by decide +kernel
theorem dX9_meet_23 : decode cX9_meet 23 = .ok (.iload_n 1, 1) := by decide +kernel
theorem dX9_meet_24 : decode cX9_meet 24 = .ok (.iload_n 2, 1) := by decide +kernel
theorem dX9_meet_25 : decode cX9_meet 25 = .ok (.if_icmp .eq 21, 3) := by decide +kernel
theorem dX9_meet_28 : decode cX9_meet 28 = .ok (.aload_n 0, 1) := by decide +kernel
theorem dX9_meet_29 : decode cX9_meet 29 = .ok (.iconst 0, 1) := by decide +kernel
theorem dX9_meet_30 : decode cX9_meet 30 = .ok (.iload_n 1, 1) := by decide +kernel
theorem dX9_meet_31 : decode cX9_meet 31 = .ok (.invokevirtual 319, 3) := by decide +kernel
theorem dX9_meet_34 : decode cX9_meet 34 = .ok (.ifCond .ne 12, 3) := by decide +kernel
theorem dX9_meet_37 : decode cX9_meet 37 = .ok (.aload_n 0, 1) := by decide +kernel
theorem dX9_meet_38 : decode cX9_meet 38 = .ok (.iconst 0, 1) := by decide +kernel
theorem dX9_meet_39 : decode cX9_meet 39 = .ok (.iload_n 2, 1) := by decide +kernel
theorem dX9_meet_40 : decode cX9_meet 40 = .ok (.invokevirtual 319, 3) := by decide +kernel
theorem dX9_meet_43 : decode cX9_meet 43 = .ok (.ifCond .eq 5, 3) := by decide +kernel
theorem dX9_meet_46 : decode cX9_meet 46 = .ok (.iconst (-1), 1) := by decide +kernel
theorem dX9_meet_47 : decode cX9_meet 47 = .ok (.ireturn, 1) := by decide +kernel
theorem dX9_meet_48 : decode cX9_meet 48 = .ok (.aload_n 0, 1) := by decide +kernel
theorem dX9_meet_49 : decode cX9_meet 49 = .ok (.invokevirtual 420, 3) := by decide +kernel
theorem dX9_meet_52 : decode cX9_meet 52 = .ok (.iconst 0, 1) := by decide +kernel
theorem dX9_meet_53 : decode cX9_meet 53 = .ok (.istore_n 3, 1) := by decide +kernel
theorem dX9_meet_54 : decode cX9_meet 54 = .ok (.iload_n 3, 1) := by decide +kernel
theorem dX9_meet_55 : decode cX9_meet 55 = .ok (.bipush 40, 2) := by decide +kernel
theorem dX9_meet_57 : decode cX9_meet 57 = .ok (.if_icmp .gt 34, 3) := by decide +kernel
theorem dX9_meet_60 : decode cX9_meet 60 = .ok (.aload_n 0, 1) := by decide +kernel
theorem dX9_meet_61 : decode cX9_meet 61 = .ok (.bipush 34, 2) := by decide +kernel
theorem dX9_meet_63 : decode cX9_meet 63 = .ok (.iload_n 1, 1) := by decide +kernel
theorem dX9_meet_64 : decode cX9_meet 64 = .ok (.invokevirtual 325, 3) := by decide +kernel
theorem dX9_meet_67 : decode cX9_meet 67 = .ok (.aload_n 0, 1) := by decide +kernel
theorem dX9_meet_68 : decode cX9_meet 68 = .ok (.bipush 34, 2) := by decide +kernel
theorem dX9_meet_70 : decode cX9_meet 70 = .ok (.iload_n 2, 1) := by decide +kernel
theorem dX9_meet_71 : decode cX9_meet 71 = .ok (.invokevirtual 325, 3) := by decide +kernel
theorem dX9_meet_74 : decode cX9_meet 74 = .ok (.if_icmp .ne 5, 3) := by decide +kernel
theorem dX9_meet_77 : decode cX9_meet 77 = .ok (.iload_n 3, 1) := by decide +kernel
theorem dX9_meet_78 : decode cX9_meet 78 = .ok (.ireturn, 1) := by decide +kernel
theorem dX9_meet_79 : decode cX9_meet 79 = .ok (.aload_n 0, 1) := by decide +kernel
theorem dX9_meet_80 : decode cX9_meet 80 = .ok (.bipush 34, 2) := by decide +kernel
theorem dX9_meet_82 : decode cX9_meet 82 = .ok (.invokevirtual 357, 3) := by decide +kernel
theorem dX9_meet_85 : decode cX9_meet 85 = .ok (.iinc 3 1, 3) := by decide +kernel
theorem dX9_meet_88 : decode cX9_meet 88 = .ok (.goto (-34), 3) := by decide +kernel
theorem dX9_meet_91 : decode cX9_meet 91 = .ok (.iconst (-1), 1) := by decide +kernel
theorem dX9_meet_92 : decode cX9_meet 92 = .ok (.ireturn, 1) := by decide +kernel
theorem dX9_gathering_0 : decode cX9_gathering 0 = .ok (.aload_n 0, 1) := by decide +kernel
theorem dX9_gathering_1 : decode cX9_gathering 1 = .ok (.iconst 0, 1) := by decide +kernel
theorem dX9_gathering_2 : decode cX9_gathering 2 = .ok (.putfield 102, 3) := by decide +kernel
theorem dX9_gathering_5 : decode cX9_gathering 5 = .ok (.aload_n 0, 1) := by decide +kernel
theorem dX9_gathering_6 : decode cX9_gathering 6 = .ok (.iload_n 1, 1) := by decide +kernel
theorem dX9_gathering_7 : decode cX9_gathering 7 = .ok (.iconst 0, 1) := by decide +kernel
theorem dX9_gathering_8 : decode cX9_gathering 8 = .ok (.iconst 1, 1) := by decide +kernel
theorem dX9_gathering_9 : decode cX9_gathering 9 = .ok (.invokevirtual 426, 3) := by decide +kernel
theorem dX9_gathering_12 : decode cX9_gathering 12 = .ok (.ifCond .ne 5, 3) := by decide +kernel
theorem dX9_gathering_15 : decode cX9_gathering 15 = .ok (.iconst 0, 1) := by decide +kernel
theorem dX9_gathering_16 : decode cX9_gathering 16 = .ok (.ireturn, 1) := by decide +kernel
theorem dX9_gathering_17 : decode cX9_gathering 17 = .ok (.aload_n 0, 1) := by decide +kernel
theorem dX9_gathering_18 : decode cX9_gathering 18 = .ok (.iload_n 1, 1) := by decide +kernel
theorem dX9_gathering_19 : decode cX9_gathering 19 = .ok (.invokevirtual 429, 3) := by decide +kernel
theorem dX9_gathering_22 : decode cX9_gathering 22 = .ok (.iconst 0, 1) := by decide +kernel
theorem dX9_gathering_23 : decode cX9_gathering 23 = .ok (.istore_n 2, 1) := by decide +kernel
theorem dX9_gathering_24 : decode cX9_gathering 24 = .ok (.iconst 1, 1) := by decide +kernel
theorem dX9_gathering_25 : decode cX9_gathering 25 = .ok (.istore_n 3, 1) := by decide +kernel
theorem dX9_gathering_26 : decode cX9_gathering 26 = .ok (.iload_n 3, 1) := by decide +kernel
theorem dX9_gathering_27 : decode cX9_gathering 27 = .ok (.iconst 4, 1) := by decide +kernel
theorem dX9_gathering_28 : decode cX9_gathering 28 = .ok (.if_icmp .ge 34, 3) := by decide +kernel
theorem dX9_gathering_31 : decode cX9_gathering 31 = .ok (.aload_n 0, 1) := by decide +kernel
theorem dX9_gathering_32 : decode cX9_gathering 32 = .ok (.bipush 34, 2) := by decide +kernel
theorem dX9_gathering_34 : decode cX9_gathering 34 = .ok (.iload_n 3, 1) := by decide +kernel
theorem dX9_gathering_35 : decode cX9_gathering 35 = .ok (.invokevirtual 328, 3) := by decide +kernel
theorem dX9_gathering_38 : decode cX9_gathering 38 = .ok (.invokestatic 316, 3) := by decide +kernel
theorem dX9_gathering_41 : decode cX9_gathering 41 = .ok (.aload_n 0, 1) := by decide +kernel
theorem dX9_gathering_42 : decode cX9_gathering 42 = .ok (.bipush 34, 2) := by decide +kernel
theorem dX9_gathering_44 : decode cX9_gathering 44 = .ok (.iload_n 2, 1) := by decide +kernel
theorem dX9_gathering_45 : decode cX9_gathering 45 = .ok (.invokevirtual 328, 3) := by decide +kernel
theorem dX9_gathering_48 : decode cX9_gathering 48 = .ok (.invokestatic 316, 3) := by decide +kernel
theorem dX9_gathering_51 : decode cX9_gathering 51 = .ok (.if_icmp .le 5, 3) := by decide +kernel
theorem dX9_gathering_54 : decode cX9_gathering 54 = .ok (.iload_n 3, 1) := by decide +kernel
theorem dX9_gathering_55 : decode cX9_gathering 55 = .ok (.istore_n 2, 1) := by decide +kernel
theorem dX9_gathering_56 : decode cX9_gathering 56 = .ok (.iinc 3 1, 3) := by decide +kernel
theorem dX9_gathering_59 : decode cX9_gathering 59 = .ok (.goto (-33), 3) := by decide +kernel
theorem dX9_gathering_62 : decode cX9_gathering 62 = .ok (.iload_n 2, 1) := by decide +kernel
theorem dX9_gathering_63 : decode cX9_gathering 63 = .ok (.ireturn, 1) := by decide +kernel
theorem dX9_mostBehind_0 : decode cX9_mostBehind 0 = .ok (.iconst 0, 1) := by decide +kernel
theorem dX9_mostBehind_1 : decode cX9_mostBehind 1 = .ok (.istore_n 3, 1) := by decide +kernel
theorem dX9_mostBehind_2 : decode cX9_mostBehind 2 = .ok (.iconst 0, 1) := by decide +kernel
theorem dX9_mostBehind_3 : decode cX9_mostBehind 3 = .ok (.istore 4, 2) := by decide +kernel
theorem dX9_mostBehind_5 : decode cX9_mostBehind 5 = .ok (.iload 4, 2) := by decide +kernel
theorem dX9_mostBehind_7 : decode cX9_mostBehind 7 = .ok (.aload_n 0, 1) := by decide +kernel
theorem dX9_mostBehind_8 : decode cX9_mostBehind 8 = .ok (.getfield 280, 3) := by decide +kernel
theorem dX9_mostBehind_11 : decode cX9_mostBehind 11 = .ok (.if_icmp .ge 44, 3) := by decide +kernel
theorem dX9_mostBehind_14 : decode cX9_mostBehind 14 = .ok (.aload_n 0, 1) := by decide +kernel
theorem dX9_mostBehind_15 : decode cX9_mostBehind 15 = .ok (.iload_n 1, 1) := by decide +kernel
theorem dX9_mostBehind_16 : decode cX9_mostBehind 16 = .ok (.iload_n 2, 1) := by decide +kernel
theorem dX9_mostBehind_17 : decode cX9_mostBehind 17 = .ok (.iload 4, 2) := by decide +kernel
theorem dX9_mostBehind_19 : decode cX9_mostBehind 19 = .ok (.invokevirtual 432, 3) := by decide +kernel
theorem dX9_mostBehind_22 : decode cX9_mostBehind 22 = .ok (.ifCond .eq 27, 3) := by decide +kernel
theorem dX9_mostBehind_25 : decode cX9_mostBehind 25 = .ok (.iload_n 3, 1) := by decide +kernel
theorem dX9_mostBehind_26 : decode cX9_mostBehind 26 = .ok (.iconst 1, 1) := by decide +kernel
theorem dX9_mostBehind_27 : decode cX9_mostBehind 27 = .ok (.aload_n 0, 1) := by decide +kernel
theorem dX9_mostBehind_28 : decode cX9_mostBehind 28 = .ok (.getfield 81, 3) := by decide +kernel
theorem dX9_mostBehind_31 : decode cX9_mostBehind 31 = .ok (.bipush 10, 2) := by decide +kernel
theorem dX9_mostBehind_33 : decode cX9_mostBehind 33 = .ok (.iload_n 1, 1) := by decide +kernel
theorem dX9_mostBehind_34 : decode cX9_mostBehind 34 = .ok (.iconst 1, 1) := by decide +kernel
theorem dX9_mostBehind_35 : decode cX9_mostBehind 35 = .ok (.iload 4, 2) := by decide +kernel
theorem dX9_mostBehind_37 : decode cX9_mostBehind 37 = .ok (.ishl, 1) := by decide +kernel
theorem dX9_mostBehind_38 : decode cX9_mostBehind 38 = .ok (.ior, 1) := by decide +kernel
theorem dX9_mostBehind_39 : decode cX9_mostBehind 39 = .ok (.imul, 1) := by decide +kernel
theorem dX9_mostBehind_40 : decode cX9_mostBehind 40 = .ok (.iload 4, 2) := by decide +kernel
theorem dX9_mostBehind_42 : decode cX9_mostBehind 42 = .ok (.iadd, 1) := by decide +kernel
theorem dX9_mostBehind_43 : decode cX9_mostBehind 43 = .ok (.iaload, 1) := by decide +kernel
theorem dX9_mostBehind_44 : decode cX9_mostBehind 44 = .ok (.iadd, 1) := by decide +kernel
theorem dX9_mostBehind_45 : decode cX9_mostBehind 45 = .ok (.invokestatic 360, 3) := by decide +kernel
theorem dX9_mostBehind_48 : decode cX9_mostBehind 48 = .ok (.istore_n 3, 1) := by decide +kernel
theorem dX9_mostBehind_49 : decode cX9_mostBehind 49 = .ok (.iinc 4 1, 3) := by decide +kernel
theorem dX9_mostBehind_52 : decode cX9_mostBehind 52 = .ok (.goto (-47), 3) := by decide +kernel
theorem dX9_mostBehind_55 : decode cX9_mostBehind 55 = .ok (.iload_n 3, 1) := by decide +kernel
theorem dX9_mostBehind_56 : decode cX9_mostBehind 56 = .ok (.ireturn, 1) := by decide +kernel
theorem dX9_canFollow_0 : decode cX9_canFollow 0 = .ok (.iload_n 1, 1) := by decide +kernel
theorem dX9_canFollow_1 : decode cX9_canFollow 1 = .ok (.iload_n 3, 1) := by decide +kernel
theorem dX9_canFollow_2 : decode cX9_canFollow 2 = .ok (.ishr, 1) := by decide +kernel
theorem dX9_canFollow_3 : decode cX9_canFollow 3 = .ok (.iconst 1, 1) := by decide +kernel
theorem dX9_canFollow_4 : decode cX9_canFollow 4 = .ok (.iand, 1) := by decide +kernel
theorem dX9_canFollow_5 : decode cX9_canFollow 5 = .ok (.ifCond .ne 32, 3) := by decide +kernel
theorem dX9_canFollow_8 : decode cX9_canFollow 8 = .ok (.aload_n 0, 1) := by decide +kernel
theorem dX9_canFollow_9 : decode cX9_canFollow 9 = .ok (.iconst 0, 1) := by decide +kernel
theorem dX9_canFollow_10 : decode cX9_canFollow 10 = .ok (.iload_n 3, 1) := by decide +kernel
theorem dX9_canFollow_11 : decode cX9_canFollow 11 = .ok (.invokevirtual 319, 3) := by decide +kernel
theorem dX9_canFollow_14 : decode cX9_canFollow 14 = .ok (.ifCond .ne 23, 3) := by decide +kernel
theorem dX9_canFollow_17 : decode cX9_canFollow 17 = .ok (.iload_n 2, 1) := by decide +kernel
theorem dX9_canFollow_18 : decode cX9_canFollow 18 = .ok (.bipush 9, 2) := by decide +kernel
theorem dX9_canFollow_20 : decode cX9_canFollow 20 = .ok (.if_icmp .eq 13, 3) := by decide +kernel
theorem dX9_canFollow_23 : decode cX9_canFollow 23 = .ok (.aload_n 0, 1) := by decide +kernel
theorem dX9_canFollow_24 : decode cX9_canFollow 24 = .ok (.iconst 0, 1) := by decide +kernel
theorem dX9_canFollow_25 : decode cX9_canFollow 25 = .ok (.iload_n 2, 1) := by decide +kernel
theorem dX9_canFollow_26 : decode cX9_canFollow 26 = .ok (.iload_n 3, 1) := by decide +kernel
theorem dX9_canFollow_27 : decode cX9_canFollow 27 = .ok (.invokevirtual 331, 3) := by decide +kernel
theorem dX9_canFollow_30 : decode cX9_canFollow 30 = .ok (.ifCond .eq 7, 3) := by decide +kernel
theorem dX9_canFollow_33 : decode cX9_canFollow 33 = .ok (.iconst 1, 1) := by decide +kernel
theorem dX9_canFollow_34 : decode cX9_canFollow 34 = .ok (.goto 4, 3) := by decide +kernel
theorem dX9_canFollow_37 : decode cX9_canFollow 37 = .ok (.iconst 0, 1) := by decide +kernel
theorem dX9_canFollow_38 : decode cX9_canFollow 38 = .ok (.ireturn, 1) := by decide +kernel
theorem dX9_row_0 : decode cX9_row 0 = .ok (.aload_n 0, 1) := by decide +kernel
theorem dX9_row_1 : decode cX9_row 1 = .ok (.iconst 0, 1) := by decide +kernel
theorem dX9_row_2 : decode cX9_row 2 = .ok (.putfield 102, 3) := by decide +kernel
theorem dX9_row_5 : decode cX9_row 5 = .ok (.iconst 1, 1) := by decide +kernel
theorem dX9_row_6 : decode cX9_row 6 = .ok (.aload_n 0, 1) := by decide +kernel
theorem dX9_row_7 : decode cX9_row 7 = .ok (.getfield 280, 3) := by decide +kernel
theorem dX9_row_10 : decode cX9_row 10 = .ok (.ishl, 1) := by decide +kernel
theorem dX9_row_11 : decode cX9_row 11 = .ok (.iconst 1, 1) := by decide +kernel
theorem dX9_row_12 : decode cX9_row 12 = .ok (.isub, 1) := by decide +kernel
theorem dX9_row_13 : decode cX9_row 13 = .ok (.istore_n 2, 1) := by decide +kernel
theorem dX9_row_14 : decode cX9_row 14 = .ok (.iload_n 2, 1) := by decide +kernel
theorem dX9_row_15 : decode cX9_row 15 = .ok (.ifCond .lt 69, 3) := by decide +kernel
theorem dX9_row_18 : decode cX9_row 18 = .ok (.iconst 0, 1) := by decide +kernel
theorem dX9_row_19 : decode cX9_row 19 = .ok (.istore_n 3, 1) := by decide +kernel
theorem dX9_row_20 : decode cX9_row 20 = .ok (.iload_n 3, 1) := by decide +kernel
theorem dX9_row_21 : decode cX9_row 21 = .ok (.bipush 9, 2) := by decide +kernel
theorem dX9_row_23 : decode cX9_row 23 = .ok (.if_icmp .gt 55, 3) := by decide +kernel
theorem dX9_row_26 : decode cX9_row 26 = .ok (.aload_n 0, 1) := by decide +kernel
theorem dX9_row_27 : decode cX9_row 27 = .ok (.getfield 81, 3) := by decide +kernel
theorem dX9_row_30 : decode cX9_row 30 = .ok (.bipush 10, 2) := by decide +kernel
theorem dX9_row_32 : decode cX9_row 32 = .ok (.iload_n 2, 1) := by decide +kernel
theorem dX9_row_33 : decode cX9_row 33 = .ok (.imul, 1) := by decide +kernel
theorem dX9_row_34 : decode cX9_row 34 = .ok (.iload_n 3, 1) := by decide +kernel
theorem dX9_row_35 : decode cX9_row 35 = .ok (.iadd, 1) := by decide +kernel
theorem dX9_row_36 : decode cX9_row 36 = .ok (.iload_n 3, 1) := by decide +kernel
theorem dX9_row_37 : decode cX9_row 37 = .ok (.bipush 9, 2) := by decide +kernel
theorem dX9_row_39 : decode cX9_row 39 = .ok (.if_icmp .ge 12, 3) := by decide +kernel
theorem dX9_row_42 : decode cX9_row 42 = .ok (.iload_n 2, 1) := by decide +kernel
theorem dX9_row_43 : decode cX9_row 43 = .ok (.iload_n 3, 1) := by decide +kernel
theorem dX9_row_44 : decode cX9_row 44 = .ok (.ishr, 1) := by decide +kernel
theorem dX9_row_45 : decode cX9_row 45 = .ok (.iconst 1, 1) := by decide +kernel
theorem dX9_row_46 : decode cX9_row 46 = .ok (.iand, 1) := by decide +kernel
theorem dX9_row_47 : decode cX9_row 47 = .ok (.iconst 1, 1) := by decide +kernel
theorem dX9_row_48 : decode cX9_row 48 = .ok (.if_icmp .eq 13, 3) := by decide +kernel
theorem dX9_row_51 : decode cX9_row 51 = .ok (.iload_n 2, 1) := by decide +kernel
theorem dX9_row_52 : decode cX9_row 52 = .ok (.ifCond .ne 18, 3) := by decide +kernel
theorem dX9_row_55 : decode cX9_row 55 = .ok (.iload_n 3, 1) := by decide +kernel
theorem dX9_row_56 : decode cX9_row 56 = .ok (.bipush 9, 2) := by decide +kernel
theorem dX9_row_58 : decode cX9_row 58 = .ok (.if_icmp .ne 12, 3) := by decide +kernel
theorem dX9_row_61 : decode cX9_row 61 = .ok (.aload_n 0, 1) := by decide +kernel
theorem dX9_row_62 : decode cX9_row 62 = .ok (.iload_n 2, 1) := by decide +kernel
theorem dX9_row_63 : decode cX9_row 63 = .ok (.iload_n 3, 1) := by decide +kernel
theorem dX9_row_64 : decode cX9_row 64 = .ok (.invokevirtual 435, 3) := by decide +kernel
theorem dX9_row_67 : decode cX9_row 67 = .ok (.goto 4, 3) := by decide +kernel
theorem dX9_row_70 : decode cX9_row 70 = .ok (.iconst 0, 1) := by decide +kernel
theorem dX9_row_71 : decode cX9_row 71 = .ok (.iastore, 1) := by decide +kernel
theorem dX9_row_72 : decode cX9_row 72 = .ok (.iinc 3 1, 3) := by decide +kernel
theorem dX9_row_75 : decode cX9_row 75 = .ok (.goto (-55), 3) := by decide +kernel
theorem dX9_row_78 : decode cX9_row 78 = .ok (.iinc 2 (-1), 3) := by decide +kernel
theorem dX9_row_81 : decode cX9_row 81 = .ok (.goto (-67), 3) := by decide +kernel
theorem dX9_row_84 : decode cX9_row 84 = .ok (.aload_n 0, 1) := by decide +kernel
theorem dX9_row_85 : decode cX9_row 85 = .ok (.getfield 81, 3) := by decide +kernel
theorem dX9_row_88 : decode cX9_row 88 = .ok (.bipush 9, 2) := by decide +kernel
theorem dX9_row_90 : decode cX9_row 90 = .ok (.iaload, 1) := by decide +kernel
theorem dX9_row_91 : decode cX9_row 91 = .ok (.istore_n 2, 1) := by decide +kernel
theorem dX9_row_92 : decode cX9_row 92 = .ok (.aload_n 0, 1) := by decide +kernel
theorem dX9_row_93 : decode cX9_row 93 = .ok (.iload_n 1, 1) := by decide +kernel
theorem dX9_row_94 : decode cX9_row 94 = .ok (.iconst (-1), 1) := by decide +kernel
theorem dX9_row_95 : decode cX9_row 95 = .ok (.if_icmp .lt 12, 3) := by decide +kernel
theorem dX9_row_98 : decode cX9_row 98 = .ok (.iload_n 1, 1) := by decide +kernel
theorem dX9_row_99 : decode cX9_row 99 = .ok (.iload_n 2, 1) := by decide +kernel
theorem dX9_row_100 : decode cX9_row 100 = .ok (.if_icmp .ge 7, 3) := by decide +kernel
theorem dX9_row_103 : decode cX9_row 103 = .ok (.iconst 1, 1) := by decide +kernel
theorem dX9_row_104 : decode cX9_row 104 = .ok (.goto 4, 3) := by decide +kernel
theorem dX9_row_107 : decode cX9_row 107 = .ok (.iconst 0, 1) := by decide +kernel
theorem dX9_row_108 : decode cX9_row 108 = .ok (.iconst 1, 1) := by decide +kernel
theorem dX9_row_109 : decode cX9_row 109 = .ok (.invokevirtual 273, 3) := by decide +kernel
theorem dX9_row_112 : decode cX9_row 112 = .ok (.ifCond .ne 5, 3) := by decide +kernel
theorem dX9_row_115 : decode cX9_row 115 = .ok (.iconst 0, 1) := by decide +kernel
theorem dX9_row_116 : decode cX9_row 116 = .ok (.ireturn, 1) := by decide +kernel
theorem dX9_row_117 : decode cX9_row 117 = .ok (.iload_n 1, 1) := by decide +kernel
theorem dX9_row_118 : decode cX9_row 118 = .ok (.iconst (-1), 1) := by decide +kernel
theorem dX9_row_119 : decode cX9_row 119 = .ok (.if_icmp .ne 5, 3) := by decide +kernel
theorem dX9_row_122 : decode cX9_row 122 = .ok (.iload_n 2, 1) := by decide +kernel
theorem dX9_row_123 : decode cX9_row 123 = .ok (.ireturn, 1) := by decide +kernel
theorem dX9_row_124 : decode cX9_row 124 = .ok (.iconst 0, 1) := by decide +kernel
theorem dX9_row_125 : decode cX9_row 125 = .ok (.istore_n 3, 1) := by decide +kernel
theorem dX9_row_126 : decode cX9_row 126 = .ok (.bipush 9, 2) := by decide +kernel
theorem dX9_row_128 : decode cX9_row 128 = .ok (.istore 4, 2) := by decide +kernel
theorem dX9_row_130 : decode cX9_row 130 = .ok (.iconst 0, 1) := by decide +kernel
theorem dX9_row_131 : decode cX9_row 131 = .ok (.istore 5, 2) := by decide +kernel
theorem dX9_row_133 : decode cX9_row 133 = .ok (.iload 5, 2) := by decide +kernel
theorem dX9_row_135 : decode cX9_row 135 = .ok (.iload_n 1, 1) := by decide +kernel
theorem dX9_row_136 : decode cX9_row 136 = .ok (.if_icmp .gt 92, 3) := by decide +kernel
theorem dX9_row_139 : decode cX9_row 139 = .ok (.iconst (-1), 1) := by decide +kernel
theorem dX9_row_140 : decode cX9_row 140 = .ok (.istore 6, 2) := by decide +kernel
theorem dX9_row_142 : decode cX9_row 142 = .ok (.aload_n 0, 1) := by decide +kernel
theorem dX9_row_143 : decode cX9_row 143 = .ok (.getfield 280, 3) := by decide +kernel
theorem dX9_row_146 : decode cX9_row 146 = .ok (.iconst 1, 1) := by decide +kernel
theorem dX9_row_147 : decode cX9_row 147 = .ok (.isub, 1) := by decide +kernel
theorem dX9_row_148 : decode cX9_row 148 = .ok (.istore 7, 2) := by decide +kernel
theorem dX9_row_150 : decode cX9_row 150 = .ok (.iload 7, 2) := by decide +kernel
theorem dX9_row_152 : decode cX9_row 152 = .ok (.ifCond .lt 59, 3) := by decide +kernel
theorem dX9_row_155 : decode cX9_row 155 = .ok (.aload_n 0, 1) := by decide +kernel
theorem dX9_row_156 : decode cX9_row 156 = .ok (.iload_n 3, 1) := by decide +kernel
theorem dX9_row_157 : decode cX9_row 157 = .ok (.iload 4, 2) := by decide +kernel
theorem dX9_row_159 : decode cX9_row 159 = .ok (.iload 7, 2) := by decide +kernel
theorem dX9_row_161 : decode cX9_row 161 = .ok (.invokevirtual 432, 3) := by decide +kernel
theorem dX9_row_164 : decode cX9_row 164 = .ok (.ifCond .eq 41, 3) := by decide +kernel
theorem dX9_row_167 : decode cX9_row 167 = .ok (.iconst 1, 1) := by decide +kernel
theorem dX9_row_168 : decode cX9_row 168 = .ok (.aload_n 0, 1) := by decide +kernel
theorem dX9_row_169 : decode cX9_row 169 = .ok (.getfield 81, 3) := by decide +kernel
theorem dX9_row_172 : decode cX9_row 172 = .ok (.bipush 10, 2) := by decide +kernel
theorem dX9_row_174 : decode cX9_row 174 = .ok (.iload_n 3, 1) := by decide +kernel
theorem dX9_row_175 : decode cX9_row 175 = .ok (.iconst 1, 1) := by decide +kernel
theorem dX9_row_176 : decode cX9_row 176 = .ok (.iload 7, 2) := by decide +kernel
theorem dX9_row_178 : decode cX9_row 178 = .ok (.ishl, 1) := by decide +kernel
theorem dX9_row_179 : decode cX9_row 179 = .ok (.ior, 1) := by decide +kernel
theorem dX9_row_180 : decode cX9_row 180 = .ok (.imul, 1) := by decide +kernel
theorem dX9_row_181 : decode cX9_row 181 = .ok (.iload 7, 2) := by decide +kernel
theorem dX9_row_183 : decode cX9_row 183 = .ok (.iadd, 1) := by decide +kernel
theorem dX9_row_184 : decode cX9_row 184 = .ok (.iaload, 1) := by decide +kernel
theorem dX9_row_185 : decode cX9_row 185 = .ok (.iadd, 1) := by decide +kernel
theorem dX9_row_186 : decode cX9_row 186 = .ok (.aload_n 0, 1) := by decide +kernel
theorem dX9_row_187 : decode cX9_row 187 = .ok (.getfield 81, 3) := by decide +kernel
theorem dX9_row_190 : decode cX9_row 190 = .ok (.bipush 10, 2) := by decide +kernel
theorem dX9_row_192 : decode cX9_row 192 = .ok (.iload_n 3, 1) := by decide +kernel
theorem dX9_row_193 : decode cX9_row 193 = .ok (.imul, 1) := by decide +kernel
theorem dX9_row_194 : decode cX9_row 194 = .ok (.iload 4, 2) := by decide +kernel
theorem dX9_row_196 : decode cX9_row 196 = .ok (.iadd, 1) := by decide +kernel
theorem dX9_row_197 : decode cX9_row 197 = .ok (.iaload, 1) := by decide +kernel
theorem dX9_row_198 : decode cX9_row 198 = .ok (.if_icmp .ne 7, 3) := by decide +kernel
theorem dX9_row_201 : decode cX9_row 201 = .ok (.iload 7, 2) := by decide +kernel
theorem dX9_row_203 : decode cX9_row 203 = .ok (.istore 6, 2) := by decide +kernel
theorem dX9_row_205 : decode cX9_row 205 = .ok (.iinc 7 (-1), 3) := by decide +kernel
theorem dX9_row_208 : decode cX9_row 208 = .ok (.goto (-58), 3) := by decide +kernel
theorem dX9_row_211 : decode cX9_row 211 = .ok (.iload_n 3, 1) := by decide +kernel
theorem dX9_row_212 : decode cX9_row 212 = .ok (.iconst 1, 1) := by decide +kernel
theorem dX9_row_213 : decode cX9_row 213 = .ok (.iload 6, 2) := by decide +kernel
theorem dX9_row_215 : decode cX9_row 215 = .ok (.ishl, 1) := by decide +kernel
theorem dX9_row_216 : decode cX9_row 216 = .ok (.ior, 1) := by decide +kernel
theorem dX9_row_217 : decode cX9_row 217 = .ok (.istore_n 3, 1) := by decide +kernel
theorem dX9_row_218 : decode cX9_row 218 = .ok (.iload 6, 2) := by decide +kernel
theorem dX9_row_220 : decode cX9_row 220 = .ok (.istore 4, 2) := by decide +kernel
theorem dX9_row_222 : decode cX9_row 222 = .ok (.iinc 5 1, 3) := by decide +kernel
theorem dX9_row_225 : decode cX9_row 225 = .ok (.goto (-92), 3) := by decide +kernel
theorem dX9_row_228 : decode cX9_row 228 = .ok (.iload 4, 2) := by decide +kernel
theorem dX9_row_230 : decode cX9_row 230 = .ok (.ireturn, 1) := by decide +kernel
theorem dX9_toForge_0 : decode cX9_toForge 0 = .ok (.aload_n 0, 1) := by decide +kernel
theorem dX9_toForge_1 : decode cX9_toForge 1 = .ok (.iconst 0, 1) := by decide +kernel
theorem dX9_toForge_2 : decode cX9_toForge 2 = .ok (.putfield 102, 3) := by decide +kernel
theorem dX9_toForge_5 : decode cX9_toForge 5 = .ok (.aload_n 0, 1) := by decide +kernel
theorem dX9_toForge_6 : decode cX9_toForge 6 = .ok (.iload_n 1, 1) := by decide +kernel
theorem dX9_toForge_7 : decode cX9_toForge 7 = .ok (.invokevirtual 378, 3) := by decide +kernel
theorem dX9_toForge_10 : decode cX9_toForge 10 = .ok (.ifCond .eq 11, 3) := by decide +kernel
theorem dX9_toForge_13 : decode cX9_toForge 13 = .ok (.aload_n 0, 1) := by decide +kernel
theorem dX9_toForge_14 : decode cX9_toForge 14 = .ok (.iload_n 2, 1) := by decide +kernel
theorem dX9_toForge_15 : decode cX9_toForge 15 = .ok (.invokevirtual 378, 3) := by decide +kernel
theorem dX9_toForge_18 : decode cX9_toForge 18 = .ok (.ifCond .ne 5, 3) := by decide +kernel
theorem dX9_toForge_21 : decode cX9_toForge 21 = .ok (.iconst 0, 1) := by decide +kernel
theorem dX9_toForge_22 : decode cX9_toForge 22 = .ok (.ireturn, 1) := by decide +kernel
theorem dX9_toForge_23 : decode cX9_toForge 23 = .ok (.iload_n 1, 1) := by decide +kernel
theorem dX9_toForge_24 : decode cX9_toForge 24 = .ok (.iload_n 2, 1) := by decide +kernel
theorem dX9_toForge_25 : decode cX9_toForge 25 = .ok (.if_icmp .eq 21, 3) := by decide +kernel
theorem dX9_toForge_28 : decode cX9_toForge 28 = .ok (.aload_n 0, 1) := by decide +kernel
theorem dX9_toForge_29 : decode cX9_toForge 29 = .ok (.iconst 0, 1) := by decide +kernel
theorem dX9_toForge_30 : decode cX9_toForge 30 = .ok (.iload_n 1, 1) := by decide +kernel
theorem dX9_toForge_31 : decode cX9_toForge 31 = .ok (.invokevirtual 319, 3) := by decide +kernel
theorem dX9_toForge_34 : decode cX9_toForge 34 = .ok (.ifCond .ne 12, 3) := by decide +kernel
theorem dX9_toForge_37 : decode cX9_toForge 37 = .ok (.aload_n 0, 1) := by decide +kernel
theorem dX9_toForge_38 : decode cX9_toForge 38 = .ok (.iconst 0, 1) := by decide +kernel
theorem dX9_toForge_39 : decode cX9_toForge 39 = .ok (.iload_n 2, 1) := by decide +kernel
theorem dX9_toForge_40 : decode cX9_toForge 40 = .ok (.invokevirtual 319, 3) := by decide +kernel
theorem dX9_toForge_43 : decode cX9_toForge 43 = .ok (.ifCond .eq 5, 3) := by decide +kernel
theorem dX9_toForge_46 : decode cX9_toForge 46 = .ok (.iconst (-1), 1) := by decide +kernel
theorem dX9_toForge_47 : decode cX9_toForge 47 = .ok (.ireturn, 1) := by decide +kernel
theorem dX9_toForge_48 : decode cX9_toForge 48 = .ok (.iconst 0, 1) := by decide +kernel
theorem dX9_toForge_49 : decode cX9_toForge 49 = .ok (.aload_n 0, 1) := by decide +kernel
theorem dX9_toForge_50 : decode cX9_toForge 50 = .ok (.iconst 0, 1) := by decide +kernel
theorem dX9_toForge_51 : decode cX9_toForge 51 = .ok (.iload_n 1, 1) := by decide +kernel
theorem dX9_toForge_52 : decode cX9_toForge 52 = .ok (.iload_n 2, 1) := by decide +kernel
theorem dX9_toForge_53 : decode cX9_toForge 53 = .ok (.invokevirtual 322, 3) := by decide +kernel
theorem dX9_toForge_56 : decode cX9_toForge 56 = .ok (.aload_n 0, 1) := by decide +kernel
theorem dX9_toForge_57 : decode cX9_toForge 57 = .ok (.getfield 289, 3) := by decide +kernel
theorem dX9_toForge_60 : decode cX9_toForge 60 = .ok (.isub, 1) := by decide +kernel
theorem dX9_toForge_61 : decode cX9_toForge 61 = .ok (.invokestatic 360, 3) := by decide +kernel
theorem dX9_toForge_64 : decode cX9_toForge 64 = .ok (.ireturn, 1) := by decide +kernel
theorem dX9_toSave_0 : decode cX9_toSave 0 = .ok (.aload_n 0, 1) := by decide +kernel
theorem dX9_toSave_1 : decode cX9_toSave 1 = .ok (.iconst 0, 1) := by decide +kernel
theorem dX9_toSave_2 : decode cX9_toSave 2 = .ok (.putfield 102, 3) := by decide +kernel
theorem dX9_toSave_5 : decode cX9_toSave 5 = .ok (.aload_n 0, 1) := by decide +kernel
theorem dX9_toSave_6 : decode cX9_toSave 6 = .ok (.iload_n 1, 1) := by decide +kernel
theorem dX9_toSave_7 : decode cX9_toSave 7 = .ok (.invokevirtual 402, 3) := by decide +kernel
theorem dX9_toSave_10 : decode cX9_toSave 10 = .ok (.ifCond .ne 5, 3) := by decide +kernel
theorem dX9_toSave_13 : decode cX9_toSave 13 = .ok (.iconst 0, 1) := by decide +kernel
theorem dX9_toSave_14 : decode cX9_toSave 14 = .ok (.ireturn, 1) := by decide +kernel
theorem dX9_toSave_15 : decode cX9_toSave 15 = .ok (.aload_n 0, 1) := by decide +kernel
theorem dX9_toSave_16 : decode cX9_toSave 16 = .ok (.iload_n 1, 1) := by decide +kernel
theorem dX9_toSave_17 : decode cX9_toSave 17 = .ok (.invokevirtual 405, 3) := by decide +kernel
theorem dX9_toSave_20 : decode cX9_toSave 20 = .ok (.istore_n 2, 1) := by decide +kernel
theorem dX9_toSave_21 : decode cX9_toSave 21 = .ok (.iconst (-1), 1) := by decide +kernel
theorem dX9_toSave_22 : decode cX9_toSave 22 = .ok (.istore_n 3, 1) := by decide +kernel
theorem dX9_toSave_23 : decode cX9_toSave 23 = .ok (.aload_n 0, 1) := by decide +kernel
theorem dX9_toSave_24 : decode cX9_toSave 24 = .ok (.iload_n 2, 1) := by decide +kernel
theorem dX9_toSave_25 : decode cX9_toSave 25 = .ok (.invokevirtual 408, 3) := by decide +kernel
theorem dX9_toSave_28 : decode cX9_toSave 28 = .ok (.invokestatic 316, 3) := by decide +kernel
theorem dX9_toSave_31 : decode cX9_toSave 31 = .ok (.istore 4, 2) := by decide +kernel
theorem dX9_toSave_33 : decode cX9_toSave 33 = .ok (.iconst 0, 1) := by decide +kernel
theorem dX9_toSave_34 : decode cX9_toSave 34 = .ok (.istore 5, 2) := by decide +kernel
theorem dX9_toSave_36 : decode cX9_toSave 36 = .ok (.iload 5, 2) := by decide +kernel
theorem dX9_toSave_38 : decode cX9_toSave 38 = .ok (.aload_n 0, 1) := by decide +kernel
theorem dX9_toSave_39 : decode cX9_toSave 39 = .ok (.getfield 280, 3) := by decide +kernel
theorem dX9_toSave_42 : decode cX9_toSave 42 = .ok (.if_icmp .ge 61, 3) := by decide +kernel
theorem dX9_toSave_45 : decode cX9_toSave 45 = .ok (.iload_n 2, 1) := by decide +kernel
theorem dX9_toSave_46 : decode cX9_toSave 46 = .ok (.iload 5, 2) := by decide +kernel
theorem dX9_toSave_48 : decode cX9_toSave 48 = .ok (.ishr, 1) := by decide +kernel
theorem dX9_toSave_49 : decode cX9_toSave 49 = .ok (.iconst 1, 1) := by decide +kernel
theorem dX9_toSave_50 : decode cX9_toSave 50 = .ok (.iand, 1) := by decide +kernel
theorem dX9_toSave_51 : decode cX9_toSave 51 = .ok (.ifCond .eq 46, 3) := by decide +kernel
theorem dX9_toSave_54 : decode cX9_toSave 54 = .ok (.aload_n 0, 1) := by decide +kernel
theorem dX9_toSave_55 : decode cX9_toSave 55 = .ok (.iload_n 2, 1) := by decide +kernel
theorem dX9_toSave_56 : decode cX9_toSave 56 = .ok (.iconst 1, 1) := by decide +kernel
theorem dX9_toSave_57 : decode cX9_toSave 57 = .ok (.iload 5, 2) := by decide +kernel
theorem dX9_toSave_59 : decode cX9_toSave 59 = .ok (.ishl, 1) := by decide +kernel
theorem dX9_toSave_60 : decode cX9_toSave 60 = .ok (.iconst (-1), 1) := by decide +kernel
theorem dX9_toSave_61 : decode cX9_toSave 61 = .ok (.ixor, 1) := by decide +kernel
theorem dX9_toSave_62 : decode cX9_toSave 62 = .ok (.iand, 1) := by decide +kernel
theorem dX9_toSave_63 : decode cX9_toSave 63 = .ok (.invokevirtual 408, 3) := by decide +kernel
theorem dX9_toSave_66 : decode cX9_toSave 66 = .ok (.invokestatic 316, 3) := by decide +kernel
theorem dX9_toSave_69 : decode cX9_toSave 69 = .ok (.iload 4, 2) := by decide +kernel
theorem dX9_toSave_71 : decode cX9_toSave 71 = .ok (.if_icmp .lt 6, 3) := by decide +kernel
theorem dX9_toSave_74 : decode cX9_toSave 74 = .ok (.goto 23, 3) := by decide +kernel
theorem dX9_toSave_77 : decode cX9_toSave 77 = .ok (.iload 5, 2) := by decide +kernel
theorem dX9_toSave_79 : decode cX9_toSave 79 = .ok (.istore_n 3, 1) := by decide +kernel
theorem dX9_toSave_80 : decode cX9_toSave 80 = .ok (.aload_n 0, 1) := by decide +kernel
theorem dX9_toSave_81 : decode cX9_toSave 81 = .ok (.iload_n 2, 1) := by decide +kernel
theorem dX9_toSave_82 : decode cX9_toSave 82 = .ok (.iconst 1, 1) := by decide +kernel
theorem dX9_toSave_83 : decode cX9_toSave 83 = .ok (.iload 5, 2) := by decide +kernel
theorem dX9_toSave_85 : decode cX9_toSave 85 = .ok (.ishl, 1) := by decide +kernel
theorem dX9_toSave_86 : decode cX9_toSave 86 = .ok (.iconst (-1), 1) := by decide +kernel
theorem dX9_toSave_87 : decode cX9_toSave 87 = .ok (.ixor, 1) := by decide +kernel
theorem dX9_toSave_88 : decode cX9_toSave 88 = .ok (.iand, 1) := by decide +kernel
theorem dX9_toSave_89 : decode cX9_toSave 89 = .ok (.invokevirtual 408, 3) := by decide +kernel
theorem dX9_toSave_92 : decode cX9_toSave 92 = .ok (.invokestatic 316, 3) := by decide +kernel
theorem dX9_toSave_95 : decode cX9_toSave 95 = .ok (.istore 4, 2) := by decide +kernel
theorem dX9_toSave_97 : decode cX9_toSave 97 = .ok (.iinc 5 1, 3) := by decide +kernel
theorem dX9_toSave_100 : decode cX9_toSave 100 = .ok (.goto (-64), 3) := by decide +kernel
theorem dX9_toSave_103 : decode cX9_toSave 103 = .ok (.iload_n 3, 1) := by decide +kernel
theorem dX9_toSave_104 : decode cX9_toSave 104 = .ok (.ireturn, 1) := by decide +kernel
theorem dX9_toRead_0 : decode cX9_toRead 0 = .ok (.aload_n 0, 1) := by decide +kernel
theorem dX9_toRead_1 : decode cX9_toRead 1 = .ok (.iconst 0, 1) := by decide +kernel
theorem dX9_toRead_2 : decode cX9_toRead 2 = .ok (.putfield 102, 3) := by decide +kernel
theorem dX9_toRead_5 : decode cX9_toRead 5 = .ok (.iconst 0, 1) := by decide +kernel
theorem dX9_toRead_6 : decode cX9_toRead 6 = .ok (.istore_n 1, 1) := by decide +kernel
theorem dX9_toRead_7 : decode cX9_toRead 7 = .ok (.iconst 0, 1) := by decide +kernel
theorem dX9_toRead_8 : decode cX9_toRead 8 = .ok (.istore_n 2, 1) := by decide +kernel
theorem dX9_toRead_9 : decode cX9_toRead 9 = .ok (.iload_n 2, 1) := by decide +kernel
theorem dX9_toRead_10 : decode cX9_toRead 10 = .ok (.aload_n 0, 1) := by decide +kernel
theorem dX9_toRead_11 : decode cX9_toRead 11 = .ok (.getfield 286, 3) := by decide +kernel
theorem dX9_toRead_14 : decode cX9_toRead 14 = .ok (.if_icmp .ge 53, 3) := by decide +kernel
theorem dX9_toRead_17 : decode cX9_toRead 17 = .ok (.iload_n 1, 1) := by decide +kernel
theorem dX9_toRead_18 : decode cX9_toRead 18 = .ok (.aload_n 0, 1) := by decide +kernel
theorem dX9_toRead_19 : decode cX9_toRead 19 = .ok (.iconst 0, 1) := by decide +kernel
theorem dX9_toRead_20 : decode cX9_toRead 20 = .ok (.aload_n 0, 1) := by decide +kernel
theorem dX9_toRead_21 : decode cX9_toRead 21 = .ok (.getfield 23, 3) := by decide +kernel
theorem dX9_toRead_24 : decode cX9_toRead 24 = .ok (.iload_n 2, 1) := by decide +kernel
theorem dX9_toRead_25 : decode cX9_toRead 25 = .ok (.iaload, 1) := by decide +kernel
theorem dX9_toRead_26 : decode cX9_toRead 26 = .ok (.aload_n 0, 1) := by decide +kernel
theorem dX9_toRead_27 : decode cX9_toRead 27 = .ok (.getfield 26, 3) := by decide +kernel
theorem dX9_toRead_30 : decode cX9_toRead 30 = .ok (.iload_n 2, 1) := by decide +kernel
theorem dX9_toRead_31 : decode cX9_toRead 31 = .ok (.iaload, 1) := by decide +kernel
theorem dX9_toRead_32 : decode cX9_toRead 32 = .ok (.invokevirtual 331, 3) := by decide +kernel
theorem dX9_toRead_35 : decode cX9_toRead 35 = .ok (.ifCond .eq 23, 3) := by decide +kernel
theorem dX9_toRead_38 : decode cX9_toRead 38 = .ok (.iconst 1, 1) := by decide +kernel
theorem dX9_toRead_39 : decode cX9_toRead 39 = .ok (.aload_n 0, 1) := by decide +kernel
theorem dX9_toRead_40 : decode cX9_toRead 40 = .ok (.getfield 23, 3) := by decide +kernel
theorem dX9_toRead_43 : decode cX9_toRead 43 = .ok (.iload_n 2, 1) := by decide +kernel
theorem dX9_toRead_44 : decode cX9_toRead 44 = .ok (.iaload, 1) := by decide +kernel
theorem dX9_toRead_45 : decode cX9_toRead 45 = .ok (.ishl, 1) := by decide +kernel
theorem dX9_toRead_46 : decode cX9_toRead 46 = .ok (.iconst 1, 1) := by decide +kernel
theorem dX9_toRead_47 : decode cX9_toRead 47 = .ok (.aload_n 0, 1) := by decide +kernel
theorem dX9_toRead_48 : decode cX9_toRead 48 = .ok (.getfield 26, 3) := by decide +kernel
theorem dX9_toRead_51 : decode cX9_toRead 51 = .ok (.iload_n 2, 1) := by decide +kernel
theorem dX9_toRead_52 : decode cX9_toRead 52 = .ok (.iaload, 1) := by decide +kernel
theorem dX9_toRead_53 : decode cX9_toRead 53 = .ok (.ishl, 1) := by decide +kernel
theorem dX9_toRead_54 : decode cX9_toRead 54 = .ok (.ior, 1) := by decide +kernel
theorem dX9_toRead_55 : decode cX9_toRead 55 = .ok (.goto 4, 3) := by decide +kernel
theorem dX9_toRead_58 : decode cX9_toRead 58 = .ok (.iconst 0, 1) := by decide +kernel
theorem dX9_toRead_59 : decode cX9_toRead 59 = .ok (.ior, 1) := by decide +kernel
theorem dX9_toRead_60 : decode cX9_toRead 60 = .ok (.istore_n 1, 1) := by decide +kernel
theorem dX9_toRead_61 : decode cX9_toRead 61 = .ok (.iinc 2 1, 3) := by decide +kernel
theorem dX9_toRead_64 : decode cX9_toRead 64 = .ok (.goto (-55), 3) := by decide +kernel
theorem dX9_toRead_67 : decode cX9_toRead 67 = .ok (.iload_n 1, 1) := by decide +kernel
theorem dX9_toRead_68 : decode cX9_toRead 68 = .ok (.ireturn, 1) := by decide +kernel
theorem dX9_chain_0 : decode cX9_chain 0 = .ok (.aload_n 0, 1) := by decide +kernel
theorem dX9_chain_1 : decode cX9_chain 1 = .ok (.iconst 0, 1) := by decide +kernel
theorem dX9_chain_2 : decode cX9_chain 2 = .ok (.putfield 102, 3) := by decide +kernel
theorem dX9_chain_5 : decode cX9_chain 5 = .ok (.aload_n 0, 1) := by decide +kernel
theorem dX9_chain_6 : decode cX9_chain 6 = .ok (.iload_n 1, 1) := by decide +kernel
theorem dX9_chain_7 : decode cX9_chain 7 = .ok (.invokevirtual 387, 3) := by decide +kernel
theorem dX9_chain_10 : decode cX9_chain 10 = .ok (.ifCond .eq 11, 3) := by decide +kernel
theorem dX9_chain_13 : decode cX9_chain 13 = .ok (.aload_n 0, 1) := by decide +kernel
theorem dX9_chain_14 : decode cX9_chain 14 = .ok (.iload_n 2, 1) := by decide +kernel
theorem dX9_chain_15 : decode cX9_chain 15 = .ok (.invokevirtual 390, 3) := by decide +kernel
theorem dX9_chain_18 : decode cX9_chain 18 = .ok (.ifCond .ne 5, 3) := by decide +kernel
theorem dX9_chain_21 : decode cX9_chain 21 = .ok (.iconst 0, 1) := by decide +kernel
theorem dX9_chain_22 : decode cX9_chain 22 = .ok (.ireturn, 1) := by decide +kernel
theorem dX9_chain_23 : decode cX9_chain 23 = .ok (.aload_n 0, 1) := by decide +kernel
theorem dX9_chain_24 : decode cX9_chain 24 = .ok (.invokevirtual 420, 3) := by decide +kernel
theorem dX9_chain_27 : decode cX9_chain 27 = .ok (.iconst 0, 1) := by decide +kernel
theorem dX9_chain_28 : decode cX9_chain 28 = .ok (.istore_n 3, 1) := by decide +kernel
theorem dX9_chain_29 : decode cX9_chain 29 = .ok (.iload_n 3, 1) := by decide +kernel
theorem dX9_chain_30 : decode cX9_chain 30 = .ok (.bipush 40, 2) := by decide +kernel
theorem dX9_chain_32 : decode cX9_chain 32 = .ok (.if_icmp .gt 77, 3) := by decide +kernel
theorem dX9_chain_35 : decode cX9_chain 35 = .ok (.aload_n 0, 1) := by decide +kernel
theorem dX9_chain_36 : decode cX9_chain 36 = .ok (.getfield 66, 3) := by decide +kernel
theorem dX9_chain_39 : decode cX9_chain 39 = .ok (.bipush 62, 2) := by decide +kernel
theorem dX9_chain_41 : decode cX9_chain 41 = .ok (.iload_n 1, 1) := by decide +kernel
theorem dX9_chain_42 : decode cX9_chain 42 = .ok (.iadd, 1) := by decide +kernel
theorem dX9_chain_43 : decode cX9_chain 43 = .ok (.iaload, 1) := by decide +kernel
theorem dX9_chain_44 : decode cX9_chain 44 = .ok (.iload_n 2, 1) := by decide +kernel
theorem dX9_chain_45 : decode cX9_chain 45 = .ok (.ishr, 1) := by decide +kernel
theorem dX9_chain_46 : decode cX9_chain 46 = .ok (.iconst 1, 1) := by decide +kernel
theorem dX9_chain_47 : decode cX9_chain 47 = .ok (.iand, 1) := by decide +kernel
theorem dX9_chain_48 : decode cX9_chain 48 = .ok (.iconst 1, 1) := by decide +kernel
theorem dX9_chain_49 : decode cX9_chain 49 = .ok (.if_icmp .ne 5, 3) := by decide +kernel
theorem dX9_chain_52 : decode cX9_chain 52 = .ok (.iload_n 3, 1) := by decide +kernel
theorem dX9_chain_53 : decode cX9_chain 53 = .ok (.ireturn, 1) := by decide +kernel
theorem dX9_chain_54 : decode cX9_chain 54 = .ok (.iconst 0, 1) := by decide +kernel
theorem dX9_chain_55 : decode cX9_chain 55 = .ok (.istore 4, 2) := by decide +kernel
theorem dX9_chain_57 : decode cX9_chain 57 = .ok (.iload 4, 2) := by decide +kernel
theorem dX9_chain_59 : decode cX9_chain 59 = .ok (.iconst 4, 1) := by decide +kernel
theorem dX9_chain_60 : decode cX9_chain 60 = .ok (.if_icmp .ge 37, 3) := by decide +kernel
theorem dX9_chain_63 : decode cX9_chain 63 = .ok (.aload_n 0, 1) := by decide +kernel
theorem dX9_chain_64 : decode cX9_chain 64 = .ok (.bipush 34, 2) := by decide +kernel
theorem dX9_chain_66 : decode cX9_chain 66 = .ok (.aload_n 0, 1) := by decide +kernel
theorem dX9_chain_67 : decode cX9_chain 67 = .ok (.bipush 34, 2) := by decide +kernel
theorem dX9_chain_69 : decode cX9_chain 69 = .ok (.iload 4, 2) := by decide +kernel
theorem dX9_chain_71 : decode cX9_chain 71 = .ok (.invokevirtual 335, 3) := by decide +kernel
theorem dX9_chain_74 : decode cX9_chain 74 = .ok (.aload_n 0, 1) := by decide +kernel
theorem dX9_chain_75 : decode cX9_chain 75 = .ok (.bipush 34, 2) := by decide +kernel
theorem dX9_chain_77 : decode cX9_chain 77 = .ok (.aload_n 0, 1) := by decide +kernel
theorem dX9_chain_78 : decode cX9_chain 78 = .ok (.bipush 34, 2) := by decide +kernel
theorem dX9_chain_80 : decode cX9_chain 80 = .ok (.iload 4, 2) := by decide +kernel
theorem dX9_chain_82 : decode cX9_chain 82 = .ok (.invokevirtual 335, 3) := by decide +kernel
theorem dX9_chain_85 : decode cX9_chain 85 = .ok (.invokevirtual 338, 3) := by decide +kernel
theorem dX9_chain_88 : decode cX9_chain 88 = .ok (.invokevirtual 350, 3) := by decide +kernel
theorem dX9_chain_91 : decode cX9_chain 91 = .ok (.iinc 4 1, 3) := by decide +kernel
theorem dX9_chain_94 : decode cX9_chain 94 = .ok (.goto (-37), 3) := by decide +kernel
theorem dX9_chain_97 : decode cX9_chain 97 = .ok (.aload_n 0, 1) := by decide +kernel
theorem dX9_chain_98 : decode cX9_chain 98 = .ok (.bipush 34, 2) := by decide +kernel
theorem dX9_chain_100 : decode cX9_chain 100 = .ok (.invokevirtual 357, 3) := by decide +kernel
theorem dX9_chain_103 : decode cX9_chain 103 = .ok (.iinc 3 1, 3) := by decide +kernel
theorem dX9_chain_106 : decode cX9_chain 106 = .ok (.goto (-77), 3) := by decide +kernel
theorem dX9_chain_109 : decode cX9_chain 109 = .ok (.iconst (-1), 1) := by decide +kernel
theorem dX9_chain_110 : decode cX9_chain 110 = .ok (.ireturn, 1) := by decide +kernel
theorem dX9_hear_0 : decode cX9_hear 0 = .ok (.aload_n 0, 1) := by decide +kernel
theorem dX9_hear_1 : decode cX9_hear 1 = .ok (.iconst 0, 1) := by decide +kernel
theorem dX9_hear_2 : decode cX9_hear 2 = .ok (.putfield 102, 3) := by decide +kernel
theorem dX9_hear_5 : decode cX9_hear 5 = .ok (.aload_n 0, 1) := by decide +kernel
theorem dX9_hear_6 : decode cX9_hear 6 = .ok (.iload_n 1, 1) := by decide +kernel
theorem dX9_hear_7 : decode cX9_hear 7 = .ok (.invokevirtual 387, 3) := by decide +kernel
theorem dX9_hear_10 : decode cX9_hear 10 = .ok (.ifCond .eq 11, 3) := by decide +kernel
theorem dX9_hear_13 : decode cX9_hear 13 = .ok (.aload_n 0, 1) := by decide +kernel
theorem dX9_hear_14 : decode cX9_hear 14 = .ok (.iload_n 2, 1) := by decide +kernel
theorem dX9_hear_15 : decode cX9_hear 15 = .ok (.invokevirtual 390, 3) := by decide +kernel
theorem dX9_hear_18 : decode cX9_hear 18 = .ok (.ifCond .ne 5, 3) := by decide +kernel
theorem dX9_hear_21 : decode cX9_hear 21 = .ok (.iconst 0, 1) := by decide +kernel
theorem dX9_hear_22 : decode cX9_hear 22 = .ok (.ireturn, 1) := by decide +kernel
theorem dX9_hear_23 : decode cX9_hear 23 = .ok (.aload_n 0, 1) := by decide +kernel
theorem dX9_hear_24 : decode cX9_hear 24 = .ok (.getfield 299, 3) := by decide +kernel
theorem dX9_hear_27 : decode cX9_hear 27 = .ok (.bipush 8, 2) := by decide +kernel
theorem dX9_hear_29 : decode cX9_hear 29 = .ok (.if_icmp .eq 13, 3) := by decide +kernel
theorem dX9_hear_32 : decode cX9_hear 32 = .ok (.iload_n 3, 1) := by decide +kernel
theorem dX9_hear_33 : decode cX9_hear 33 = .ok (.iconst 0, 1) := by decide +kernel
theorem dX9_hear_34 : decode cX9_hear 34 = .ok (.bipush 12, 2) := by decide +kernel
theorem dX9_hear_36 : decode cX9_hear 36 = .ok (.invokestatic 363, 3) := by decide +kernel
theorem dX9_hear_39 : decode cX9_hear 39 = .ok (.ifCond .ne 9, 3) := by decide +kernel
theorem dX9_hear_42 : decode cX9_hear 42 = .ok (.aload_n 0, 1) := by decide +kernel
theorem dX9_hear_43 : decode cX9_hear 43 = .ok (.iconst 2, 1) := by decide +kernel
theorem dX9_hear_44 : decode cX9_hear 44 = .ok (.invokevirtual 411, 3) := by decide +kernel
theorem dX9_hear_47 : decode cX9_hear 47 = .ok (.ireturn, 1) := by decide +kernel
theorem dX9_hear_48 : decode cX9_hear 48 = .ok (.aload_n 0, 1) := by decide +kernel
theorem dX9_hear_49 : decode cX9_hear 49 = .ok (.getfield 84, 3) := by decide +kernel
theorem dX9_hear_52 : decode cX9_hear 52 = .ok (.iconst 4, 1) := by decide +kernel
theorem dX9_hear_53 : decode cX9_hear 53 = .ok (.aload_n 0, 1) := by decide +kernel
theorem dX9_hear_54 : decode cX9_hear 54 = .ok (.getfield 299, 3) := by decide +kernel
theorem dX9_hear_57 : decode cX9_hear 57 = .ok (.imul, 1) := by decide +kernel
theorem dX9_hear_58 : decode cX9_hear 58 = .ok (.iload_n 1, 1) := by decide +kernel
theorem dX9_hear_59 : decode cX9_hear 59 = .ok (.iastore, 1) := by decide +kernel
theorem dX9_hear_60 : decode cX9_hear 60 = .ok (.aload_n 0, 1) := by decide +kernel
theorem dX9_hear_61 : decode cX9_hear 61 = .ok (.getfield 84, 3) := by decide +kernel
theorem dX9_hear_64 : decode cX9_hear 64 = .ok (.iconst 4, 1) := by decide +kernel
theorem dX9_hear_65 : decode cX9_hear 65 = .ok (.aload_n 0, 1) := by decide +kernel
theorem dX9_hear_66 : decode cX9_hear 66 = .ok (.getfield 299, 3) := by decide +kernel
theorem dX9_hear_69 : decode cX9_hear 69 = .ok (.imul, 1) := by decide +kernel
theorem dX9_hear_70 : decode cX9_hear 70 = .ok (.iconst 1, 1) := by decide +kernel
theorem dX9_hear_71 : decode cX9_hear 71 = .ok (.iadd, 1) := by decide +kernel
theorem dX9_hear_72 : decode cX9_hear 72 = .ok (.iload_n 2, 1) := by decide +kernel
theorem dX9_hear_73 : decode cX9_hear 73 = .ok (.iastore, 1) := by decide +kernel
theorem dX9_hear_74 : decode cX9_hear 74 = .ok (.aload_n 0, 1) := by decide +kernel
theorem dX9_hear_75 : decode cX9_hear 75 = .ok (.getfield 84, 3) := by decide +kernel
theorem dX9_hear_78 : decode cX9_hear 78 = .ok (.iconst 4, 1) := by decide +kernel
theorem dX9_hear_79 : decode cX9_hear 79 = .ok (.aload_n 0, 1) := by decide +kernel
theorem dX9_hear_80 : decode cX9_hear 80 = .ok (.getfield 299, 3) := by decide +kernel
theorem dX9_hear_83 : decode cX9_hear 83 = .ok (.imul, 1) := by decide +kernel
theorem dX9_hear_84 : decode cX9_hear 84 = .ok (.iconst 2, 1) := by decide +kernel
theorem dX9_hear_85 : decode cX9_hear 85 = .ok (.iadd, 1) := by decide +kernel
theorem dX9_hear_86 : decode cX9_hear 86 = .ok (.iload_n 3, 1) := by decide +kernel
theorem dX9_hear_87 : decode cX9_hear 87 = .ok (.iastore, 1) := by decide +kernel
theorem dX9_hear_88 : decode cX9_hear 88 = .ok (.aload_n 0, 1) := by decide +kernel
theorem dX9_hear_89 : decode cX9_hear 89 = .ok (.getfield 84, 3) := by decide +kernel
theorem dX9_hear_92 : decode cX9_hear 92 = .ok (.iconst 4, 1) := by decide +kernel
theorem dX9_hear_93 : decode cX9_hear 93 = .ok (.aload_n 0, 1) := by decide +kernel
theorem dX9_hear_94 : decode cX9_hear 94 = .ok (.getfield 299, 3) := by decide +kernel
theorem dX9_hear_97 : decode cX9_hear 97 = .ok (.imul, 1) := by decide +kernel
theorem dX9_hear_98 : decode cX9_hear 98 = .ok (.iconst 3, 1) := by decide +kernel
theorem dX9_hear_99 : decode cX9_hear 99 = .ok (.iadd, 1) := by decide +kernel
theorem dX9_hear_100 : decode cX9_hear 100 = .ok (.iload 4, 2) := by decide +kernel
theorem dX9_hear_102 : decode cX9_hear 102 = .ok (.ifCond .eq 7, 3) := by decide +kernel
theorem dX9_hear_105 : decode cX9_hear 105 = .ok (.iconst 1, 1) := by decide +kernel
theorem dX9_hear_106 : decode cX9_hear 106 = .ok (.goto 4, 3) := by decide +kernel
theorem dX9_hear_109 : decode cX9_hear 109 = .ok (.iconst 0, 1) := by decide +kernel
theorem dX9_hear_110 : decode cX9_hear 110 = .ok (.iastore, 1) := by decide +kernel
theorem dX9_hear_111 : decode cX9_hear 111 = .ok (.aload_n 0, 1) := by decide +kernel
theorem dX9_hear_112 : decode cX9_hear 112 = .ok (.dup, 1) := by decide +kernel
theorem dX9_hear_113 : decode cX9_hear 113 = .ok (.getfield 299, 3) := by decide +kernel
theorem dX9_hear_116 : decode cX9_hear 116 = .ok (.iconst 1, 1) := by decide +kernel
theorem dX9_hear_117 : decode cX9_hear 117 = .ok (.iadd, 1) := by decide +kernel
theorem dX9_hear_118 : decode cX9_hear 118 = .ok (.putfield 299, 3) := by decide +kernel
theorem dX9_hear_121 : decode cX9_hear 121 = .ok (.aload_n 0, 1) := by decide +kernel
theorem dX9_hear_122 : decode cX9_hear 122 = .ok (.getfield 299, 3) := by decide +kernel
theorem dX9_hear_125 : decode cX9_hear 125 = .ok (.ireturn, 1) := by decide +kernel
