/-! ===== decode rows: the nested classes, the JDK ===== -/
theorem dX0_init_0 : decode cX0_init 0 = .ok (.aload_n 0, 1) := by decide +kernel
theorem dX0_init_1 : decode cX0_init 1 = .ok (.invokespecial 3, 3) := by decide +kernel
theorem dX0_init_4 : decode cX0_init 4 = .ok (.aload_n 0, 1) := by decide +kernel
theorem dX0_init_5 : decode cX0_init 5 = .ok (.iconst 0, 1) := by decide +kernel
theorem dX0_init_6 : decode cX0_init 6 = .ok (.putfield 9, 3) := by decide +kernel
theorem dX0_init_9 : decode cX0_init 9 = .ok (.aload_n 0, 1) := by decide +kernel
theorem dX0_init_10 : decode cX0_init 10 = .ok (.iconst 0, 1) := by decide +kernel
theorem dX0_init_11 : decode cX0_init 11 = .ok (.putfield 15, 3) := by decide +kernel
theorem dX0_init_14 : decode cX0_init 14 = .ok (.aload_n 0, 1) := by decide +kernel
theorem dX0_init_15 : decode cX0_init 15 = .ok (.sipush 640, 3) := by decide +kernel
theorem dX0_init_18 : decode cX0_init 18 = .ok (.newarray .int, 2) := by decide +kernel
theorem dX0_init_20 : decode cX0_init 20 = .ok (.putfield 20, 3) := by decide +kernel
theorem dX0_init_23 : decode cX0_init 23 = .ok (.return_, 1) := by decide +kernel
theorem dX0_clear_0 : decode cX0_clear 0 = .ok (.aload_n 0, 1) := by decide +kernel
theorem dX0_clear_1 : decode cX0_clear 1 = .ok (.iconst 0, 1) := by decide +kernel
theorem dX0_clear_2 : decode cX0_clear 2 = .ok (.putfield 9, 3) := by decide +kernel
theorem dX0_clear_5 : decode cX0_clear 5 = .ok (.aload_n 0, 1) := by decide +kernel
theorem dX0_clear_6 : decode cX0_clear 6 = .ok (.iconst 0, 1) := by decide +kernel
theorem dX0_clear_7 : decode cX0_clear 7 = .ok (.putfield 15, 3) := by decide +kernel
theorem dX0_clear_10 : decode cX0_clear 10 = .ok (.return_, 1) := by decide +kernel
theorem dX0_keep_0 : decode cX0_keep 0 = .ok (.aload_n 1, 1) := by decide +kernel
theorem dX0_keep_1 : decode cX0_keep 1 = .ok (.aload_n 0, 1) := by decide +kernel
theorem dX0_keep_2 : decode cX0_keep 2 = .ok (.getfield 20, 3) := by decide +kernel
theorem dX0_keep_5 : decode cX0_keep 5 = .ok (.aload_n 0, 1) := by decide +kernel
theorem dX0_keep_6 : decode cX0_keep 6 = .ok (.getfield 15, 3) := by decide +kernel
theorem dX0_keep_9 : decode cX0_keep 9 = .ok (.aload_n 0, 1) := by decide +kernel
theorem dX0_keep_10 : decode cX0_keep 10 = .ok (.getfield 9, 3) := by decide +kernel
theorem dX0_keep_13 : decode cX0_keep 13 = .ok (.iadd, 1) := by decide +kernel
theorem dX0_keep_14 : decode cX0_keep 14 = .ok (.bipush 40, 2) := by decide +kernel
theorem dX0_keep_16 : decode cX0_keep 16 = .ok (.irem, 1) := by decide +kernel
theorem dX0_keep_17 : decode cX0_keep 17 = .ok (.bipush 16, 2) := by decide +kernel
theorem dX0_keep_19 : decode cX0_keep 19 = .ok (.imul, 1) := by decide +kernel
theorem dX0_keep_20 : decode cX0_keep 20 = .ok (.invokevirtual 24, 3) := by decide +kernel
theorem dX0_keep_23 : decode cX0_keep 23 = .ok (.aload_n 0, 1) := by decide +kernel
theorem dX0_keep_24 : decode cX0_keep 24 = .ok (.getfield 9, 3) := by decide +kernel
theorem dX0_keep_27 : decode cX0_keep 27 = .ok (.bipush 40, 2) := by decide +kernel
theorem dX0_keep_29 : decode cX0_keep 29 = .ok (.if_icmp .ge 16, 3) := by decide +kernel
theorem dX0_keep_32 : decode cX0_keep 32 = .ok (.aload_n 0, 1) := by decide +kernel
theorem dX0_keep_33 : decode cX0_keep 33 = .ok (.dup, 1) := by decide +kernel
theorem dX0_keep_34 : decode cX0_keep 34 = .ok (.getfield 9, 3) := by decide +kernel
theorem dX0_keep_37 : decode cX0_keep 37 = .ok (.iconst 1, 1) := by decide +kernel
theorem dX0_keep_38 : decode cX0_keep 38 = .ok (.iadd, 1) := by decide +kernel
theorem dX0_keep_39 : decode cX0_keep 39 = .ok (.putfield 9, 3) := by decide +kernel
theorem dX0_keep_42 : decode cX0_keep 42 = .ok (.goto 16, 3) := by decide +kernel
theorem dX0_keep_45 : decode cX0_keep 45 = .ok (.aload_n 0, 1) := by decide +kernel
theorem dX0_keep_46 : decode cX0_keep 46 = .ok (.aload_n 0, 1) := by decide +kernel
theorem dX0_keep_47 : decode cX0_keep 47 = .ok (.getfield 15, 3) := by decide +kernel
theorem dX0_keep_50 : decode cX0_keep 50 = .ok (.iconst 1, 1) := by decide +kernel
theorem dX0_keep_51 : decode cX0_keep 51 = .ok (.iadd, 1) := by decide +kernel
theorem dX0_keep_52 : decode cX0_keep 52 = .ok (.bipush 40, 2) := by decide +kernel
theorem dX0_keep_54 : decode cX0_keep 54 = .ok (.irem, 1) := by decide +kernel
theorem dX0_keep_55 : decode cX0_keep 55 = .ok (.putfield 15, 3) := by decide +kernel
theorem dX0_keep_58 : decode cX0_keep 58 = .ok (.return_, 1) := by decide +kernel
theorem dX0_takeBack_0 : decode cX0_takeBack 0 = .ok (.aload_n 0, 1) := by decide +kernel
theorem dX0_takeBack_1 : decode cX0_takeBack 1 = .ok (.getfield 9, 3) := by decide +kernel
theorem dX0_takeBack_4 : decode cX0_takeBack 4 = .ok (.ifCond .le 36, 3) := by decide +kernel
theorem dX0_takeBack_7 : decode cX0_takeBack 7 = .ok (.aload_n 0, 1) := by decide +kernel
theorem dX0_takeBack_8 : decode cX0_takeBack 8 = .ok (.dup, 1) := by decide +kernel
theorem dX0_takeBack_9 : decode cX0_takeBack 9 = .ok (.getfield 9, 3) := by decide +kernel
theorem dX0_takeBack_12 : decode cX0_takeBack 12 = .ok (.iconst 1, 1) := by decide +kernel
theorem dX0_takeBack_13 : decode cX0_takeBack 13 = .ok (.isub, 1) := by decide +kernel
theorem dX0_takeBack_14 : decode cX0_takeBack 14 = .ok (.putfield 9, 3) := by decide +kernel
theorem dX0_takeBack_17 : decode cX0_takeBack 17 = .ok (.aload_n 1, 1) := by decide +kernel
theorem dX0_takeBack_18 : decode cX0_takeBack 18 = .ok (.aload_n 0, 1) := by decide +kernel
theorem dX0_takeBack_19 : decode cX0_takeBack 19 = .ok (.getfield 20, 3) := by decide +kernel
theorem dX0_takeBack_22 : decode cX0_takeBack 22 = .ok (.aload_n 0, 1) := by decide +kernel
theorem dX0_takeBack_23 : decode cX0_takeBack 23 = .ok (.getfield 15, 3) := by decide +kernel
theorem dX0_takeBack_26 : decode cX0_takeBack 26 = .ok (.aload_n 0, 1) := by decide +kernel
theorem dX0_takeBack_27 : decode cX0_takeBack 27 = .ok (.getfield 9, 3) := by decide +kernel
theorem dX0_takeBack_30 : decode cX0_takeBack 30 = .ok (.iadd, 1) := by decide +kernel
theorem dX0_takeBack_31 : decode cX0_takeBack 31 = .ok (.bipush 40, 2) := by decide +kernel
theorem dX0_takeBack_33 : decode cX0_takeBack 33 = .ok (.irem, 1) := by decide +kernel
theorem dX0_takeBack_34 : decode cX0_takeBack 34 = .ok (.bipush 16, 2) := by decide +kernel
theorem dX0_takeBack_36 : decode cX0_takeBack 36 = .ok (.imul, 1) := by decide +kernel
theorem dX0_takeBack_37 : decode cX0_takeBack 37 = .ok (.invokevirtual 28, 3) := by decide +kernel
theorem dX0_takeBack_40 : decode cX0_takeBack 40 = .ok (.return_, 1) := by decide +kernel
theorem dX0_copyFrom_0 : decode cX0_copyFrom 0 = .ok (.aload_n 0, 1) := by decide +kernel
theorem dX0_copyFrom_1 : decode cX0_copyFrom 1 = .ok (.aload_n 1, 1) := by decide +kernel
theorem dX0_copyFrom_2 : decode cX0_copyFrom 2 = .ok (.getfield 9, 3) := by decide +kernel
theorem dX0_copyFrom_5 : decode cX0_copyFrom 5 = .ok (.putfield 9, 3) := by decide +kernel
theorem dX0_copyFrom_8 : decode cX0_copyFrom 8 = .ok (.aload_n 0, 1) := by decide +kernel
theorem dX0_copyFrom_9 : decode cX0_copyFrom 9 = .ok (.aload_n 1, 1) := by decide +kernel
theorem dX0_copyFrom_10 : decode cX0_copyFrom 10 = .ok (.getfield 15, 3) := by decide +kernel
theorem dX0_copyFrom_13 : decode cX0_copyFrom 13 = .ok (.putfield 15, 3) := by decide +kernel
theorem dX0_copyFrom_16 : decode cX0_copyFrom 16 = .ok (.aload_n 1, 1) := by decide +kernel
theorem dX0_copyFrom_17 : decode cX0_copyFrom 17 = .ok (.getfield 20, 3) := by decide +kernel
theorem dX0_copyFrom_20 : decode cX0_copyFrom 20 = .ok (.iconst 0, 1) := by decide +kernel
theorem dX0_copyFrom_21 : decode cX0_copyFrom 21 = .ok (.aload_n 0, 1) := by decide +kernel
theorem dX0_copyFrom_22 : decode cX0_copyFrom 22 = .ok (.getfield 20, 3) := by decide +kernel
theorem dX0_copyFrom_25 : decode cX0_copyFrom 25 = .ok (.iconst 0, 1) := by decide +kernel
theorem dX0_copyFrom_26 : decode cX0_copyFrom 26 = .ok (.aload_n 0, 1) := by decide +kernel
theorem dX0_copyFrom_27 : decode cX0_copyFrom 27 = .ok (.getfield 20, 3) := by decide +kernel
theorem dX0_copyFrom_30 : decode cX0_copyFrom 30 = .ok (.arraylength, 1) := by decide +kernel
theorem dX0_copyFrom_31 : decode cX0_copyFrom 31 = .ok (.invokestatic 31, 3) := by decide +kernel
theorem dX0_copyFrom_34 : decode cX0_copyFrom 34 = .ok (.return_, 1) := by decide +kernel
theorem dX1_init_0 : decode cX1_init 0 = .ok (.aload_n 0, 1) := by decide +kernel
theorem dX1_init_1 : decode cX1_init 1 = .ok (.invokespecial 1, 3) := by decide +kernel
theorem dX1_init_4 : decode cX1_init 4 = .ok (.aload_n 0, 1) := by decide +kernel
theorem dX1_init_5 : decode cX1_init 5 = .ok (.iconst 0, 1) := by decide +kernel
theorem dX1_init_6 : decode cX1_init 6 = .ok (.putfield 7, 3) := by decide +kernel
theorem dX1_init_9 : decode cX1_init 9 = .ok (.return_, 1) := by decide +kernel
theorem dX1_next_0 : decode cX1_next 0 = .ok (.aload_n 0, 1) := by decide +kernel
theorem dX1_next_1 : decode cX1_next 1 = .ok (.aload_n 0, 1) := by decide +kernel
theorem dX1_next_2 : decode cX1_next 2 = .ok (.getfield 7, 3) := by decide +kernel
theorem dX1_next_5 : decode cX1_next 5 = .ok (.ldc 13, 2) := by decide +kernel
theorem dX1_next_7 : decode cX1_next 7 = .ok (.imul, 1) := by decide +kernel
theorem dX1_next_8 : decode cX1_next 8 = .ok (.sipush 12345, 3) := by decide +kernel
theorem dX1_next_11 : decode cX1_next 11 = .ok (.iadd, 1) := by decide +kernel
theorem dX1_next_12 : decode cX1_next 12 = .ok (.putfield 7, 3) := by decide +kernel
theorem dX1_next_15 : decode cX1_next 15 = .ok (.iload_n 1, 1) := by decide +kernel
theorem dX1_next_16 : decode cX1_next 16 = .ok (.ifCond .le 19, 3) := by decide +kernel
theorem dX1_next_19 : decode cX1_next 19 = .ok (.aload_n 0, 1) := by decide +kernel
theorem dX1_next_20 : decode cX1_next 20 = .ok (.getfield 7, 3) := by decide +kernel
theorem dX1_next_23 : decode cX1_next 23 = .ok (.bipush 16, 2) := by decide +kernel
theorem dX1_next_25 : decode cX1_next 25 = .ok (.ishr, 1) := by decide +kernel
theorem dX1_next_26 : decode cX1_next 26 = .ok (.sipush 32767, 3) := by decide +kernel
theorem dX1_next_29 : decode cX1_next 29 = .ok (.iand, 1) := by decide +kernel
theorem dX1_next_30 : decode cX1_next 30 = .ok (.iload_n 1, 1) := by decide +kernel
theorem dX1_next_31 : decode cX1_next 31 = .ok (.irem, 1) := by decide +kernel
theorem dX1_next_32 : decode cX1_next 32 = .ok (.goto 4, 3) := by decide +kernel
theorem dX1_next_35 : decode cX1_next 35 = .ok (.iconst 0, 1) := by decide +kernel
theorem dX1_next_36 : decode cX1_next 36 = .ok (.ireturn, 1) := by decide +kernel
theorem dX2_init_0 : decode cX2_init 0 = .ok (.aload_n 0, 1) := by decide +kernel
theorem dX2_init_1 : decode cX2_init 1 = .ok (.invokespecial 3, 3) := by decide +kernel
theorem dX2_init_4 : decode cX2_init 4 = .ok (.aload_n 0, 1) := by decide +kernel
theorem dX2_init_5 : decode cX2_init 5 = .ok (.bipush 9, 2) := by decide +kernel
theorem dX2_init_7 : decode cX2_init 7 = .ok (.newarray .int, 2) := by decide +kernel
theorem dX2_init_9 : decode cX2_init 9 = .ok (.putfield 9, 3) := by decide +kernel
theorem dX2_init_12 : decode cX2_init 12 = .ok (.aload_n 0, 1) := by decide +kernel
theorem dX2_init_13 : decode cX2_init 13 = .ok (.iconst 0, 1) := by decide +kernel
theorem dX2_init_14 : decode cX2_init 14 = .ok (.putfield 15, 3) := by decide +kernel
theorem dX2_init_17 : decode cX2_init 17 = .ok (.aload_n 0, 1) := by decide +kernel
theorem dX2_init_18 : decode cX2_init 18 = .ok (.iconst 0, 1) := by decide +kernel
theorem dX2_init_19 : decode cX2_init 19 = .ok (.putfield 19, 3) := by decide +kernel
theorem dX2_init_22 : decode cX2_init 22 = .ok (.aload_n 0, 1) := by decide +kernel
theorem dX2_init_23 : decode cX2_init 23 = .ok (.bipush 9, 2) := by decide +kernel
theorem dX2_init_25 : decode cX2_init 25 = .ok (.newarray .int, 2) := by decide +kernel
theorem dX2_init_27 : decode cX2_init 27 = .ok (.putfield 22, 3) := by decide +kernel
theorem dX2_init_30 : decode cX2_init 30 = .ok (.aload_n 0, 1) := by decide +kernel
theorem dX2_init_31 : decode cX2_init 31 = .ok (.bipush 9, 2) := by decide +kernel
theorem dX2_init_33 : decode cX2_init 33 = .ok (.newarray .int, 2) := by decide +kernel
theorem dX2_init_35 : decode cX2_init 35 = .ok (.putfield 25, 3) := by decide +kernel
theorem dX2_init_38 : decode cX2_init 38 = .ok (.aload_n 0, 1) := by decide +kernel
theorem dX2_init_39 : decode cX2_init 39 = .ok (.sipush 512, 3) := by decide +kernel
theorem dX2_init_42 : decode cX2_init 42 = .ok (.newarray .int, 2) := by decide +kernel
theorem dX2_init_44 : decode cX2_init 44 = .ok (.putfield 28, 3) := by decide +kernel
theorem dX2_init_47 : decode cX2_init 47 = .ok (.return_, 1) := by decide +kernel
theorem dX2_lookAt_0 : decode cX2_lookAt 0 = .ok (.aload_n 0, 1) := by decide +kernel
theorem dX2_lookAt_1 : decode cX2_lookAt 1 = .ok (.aload_n 1, 1) := by decide +kernel
theorem dX2_lookAt_2 : decode cX2_lookAt 2 = .ok (.getfield 31, 3) := by decide +kernel
theorem dX2_lookAt_5 : decode cX2_lookAt 5 = .ok (.getfield 37, 3) := by decide +kernel
theorem dX2_lookAt_8 : decode cX2_lookAt 8 = .ok (.putfield 15, 3) := by decide +kernel
theorem dX2_lookAt_11 : decode cX2_lookAt 11 = .ok (.aload_n 0, 1) := by decide +kernel
theorem dX2_lookAt_12 : decode cX2_lookAt 12 = .ok (.iconst 1, 1) := by decide +kernel
theorem dX2_lookAt_13 : decode cX2_lookAt 13 = .ok (.aload_n 0, 1) := by decide +kernel
theorem dX2_lookAt_14 : decode cX2_lookAt 14 = .ok (.getfield 15, 3) := by decide +kernel
theorem dX2_lookAt_17 : decode cX2_lookAt 17 = .ok (.ishl, 1) := by decide +kernel
theorem dX2_lookAt_18 : decode cX2_lookAt 18 = .ok (.iconst 1, 1) := by decide +kernel
theorem dX2_lookAt_19 : decode cX2_lookAt 19 = .ok (.isub, 1) := by decide +kernel
theorem dX2_lookAt_20 : decode cX2_lookAt 20 = .ok (.aload_n 1, 1) := by decide +kernel
theorem dX2_lookAt_21 : decode cX2_lookAt 21 = .ok (.invokevirtual 40, 3) := by decide +kernel
theorem dX2_lookAt_24 : decode cX2_lookAt 24 = .ok (.iconst (-1), 1) := by decide +kernel
theorem dX2_lookAt_25 : decode cX2_lookAt 25 = .ok (.ixor, 1) := by decide +kernel
theorem dX2_lookAt_26 : decode cX2_lookAt 26 = .ok (.iand, 1) := by decide +kernel
theorem dX2_lookAt_27 : decode cX2_lookAt 27 = .ok (.putfield 19, 3) := by decide +kernel
theorem dX2_lookAt_30 : decode cX2_lookAt 30 = .ok (.iconst 0, 1) := by decide +kernel
theorem dX2_lookAt_31 : decode cX2_lookAt 31 = .ok (.istore_n 2, 1) := by decide +kernel
theorem dX2_lookAt_32 : decode cX2_lookAt 32 = .ok (.iload_n 2, 1) := by decide +kernel
theorem dX2_lookAt_33 : decode cX2_lookAt 33 = .ok (.aload_n 0, 1) := by decide +kernel
theorem dX2_lookAt_34 : decode cX2_lookAt 34 = .ok (.getfield 15, 3) := by decide +kernel
theorem dX2_lookAt_37 : decode cX2_lookAt 37 = .ok (.if_icmp .ge 69, 3) := by decide +kernel
theorem dX2_lookAt_40 : decode cX2_lookAt 40 = .ok (.aload_n 0, 1) := by decide +kernel
theorem dX2_lookAt_41 : decode cX2_lookAt 41 = .ok (.getfield 22, 3) := by decide +kernel
theorem dX2_lookAt_44 : decode cX2_lookAt 44 = .ok (.iload_n 2, 1) := by decide +kernel
theorem dX2_lookAt_45 : decode cX2_lookAt 45 = .ok (.aload_n 1, 1) := by decide +kernel
theorem dX2_lookAt_46 : decode cX2_lookAt 46 = .ok (.iload_n 2, 1) := by decide +kernel
theorem dX2_lookAt_47 : decode cX2_lookAt 47 = .ok (.invokevirtual 44, 3) := by decide +kernel
theorem dX2_lookAt_50 : decode cX2_lookAt 50 = .ok (.iastore, 1) := by decide +kernel
theorem dX2_lookAt_51 : decode cX2_lookAt 51 = .ok (.aload_n 0, 1) := by decide +kernel
theorem dX2_lookAt_52 : decode cX2_lookAt 52 = .ok (.getfield 25, 3) := by decide +kernel
theorem dX2_lookAt_55 : decode cX2_lookAt 55 = .ok (.iload_n 2, 1) := by decide +kernel
theorem dX2_lookAt_56 : decode cX2_lookAt 56 = .ok (.aload_n 0, 1) := by decide +kernel
theorem dX2_lookAt_57 : decode cX2_lookAt 57 = .ok (.getfield 22, 3) := by decide +kernel
theorem dX2_lookAt_60 : decode cX2_lookAt 60 = .ok (.iload_n 2, 1) := by decide +kernel
theorem dX2_lookAt_61 : decode cX2_lookAt 61 = .ok (.iaload, 1) := by decide +kernel
theorem dX2_lookAt_62 : decode cX2_lookAt 62 = .ok (.iastore, 1) := by decide +kernel
theorem dX2_lookAt_63 : decode cX2_lookAt 63 = .ok (.iconst 0, 1) := by decide +kernel
theorem dX2_lookAt_64 : decode cX2_lookAt 64 = .ok (.istore_n 3, 1) := by decide +kernel
theorem dX2_lookAt_65 : decode cX2_lookAt 65 = .ok (.iload_n 3, 1) := by decide +kernel
theorem dX2_lookAt_66 : decode cX2_lookAt 66 = .ok (.aload_n 0, 1) := by decide +kernel
theorem dX2_lookAt_67 : decode cX2_lookAt 67 = .ok (.getfield 15, 3) := by decide +kernel
theorem dX2_lookAt_70 : decode cX2_lookAt 70 = .ok (.if_icmp .ge 30, 3) := by decide +kernel
theorem dX2_lookAt_73 : decode cX2_lookAt 73 = .ok (.aload_n 1, 1) := by decide +kernel
theorem dX2_lookAt_74 : decode cX2_lookAt 74 = .ok (.iload_n 3, 1) := by decide +kernel
theorem dX2_lookAt_75 : decode cX2_lookAt 75 = .ok (.iload_n 2, 1) := by decide +kernel
theorem dX2_lookAt_76 : decode cX2_lookAt 76 = .ok (.invokevirtual 48, 3) := by decide +kernel
theorem dX2_lookAt_79 : decode cX2_lookAt 79 = .ok (.ifCond .eq 15, 3) := by decide +kernel
theorem dX2_lookAt_82 : decode cX2_lookAt 82 = .ok (.aload_n 0, 1) := by decide +kernel
theorem dX2_lookAt_83 : decode cX2_lookAt 83 = .ok (.getfield 25, 3) := by decide +kernel
theorem dX2_lookAt_86 : decode cX2_lookAt 86 = .ok (.iload_n 2, 1) := by decide +kernel
theorem dX2_lookAt_87 : decode cX2_lookAt 87 = .ok (.dup2, 1) := by decide +kernel
theorem dX2_lookAt_88 : decode cX2_lookAt 88 = .ok (.iaload, 1) := by decide +kernel
theorem dX2_lookAt_89 : decode cX2_lookAt 89 = .ok (.iconst 1, 1) := by decide +kernel
theorem dX2_lookAt_90 : decode cX2_lookAt 90 = .ok (.iload_n 3, 1) := by decide +kernel
theorem dX2_lookAt_91 : decode cX2_lookAt 91 = .ok (.ishl, 1) := by decide +kernel
theorem dX2_lookAt_92 : decode cX2_lookAt 92 = .ok (.ior, 1) := by decide +kernel
theorem dX2_lookAt_93 : decode cX2_lookAt 93 = .ok (.iastore, 1) := by decide +kernel
theorem dX2_lookAt_94 : decode cX2_lookAt 94 = .ok (.iinc 3 1, 3) := by decide +kernel
theorem dX2_lookAt_97 : decode cX2_lookAt 97 = .ok (.goto (-32), 3) := by decide +kernel
theorem dX2_lookAt_100 : decode cX2_lookAt 100 = .ok (.iinc 2 1, 3) := by decide +kernel
theorem dX2_lookAt_103 : decode cX2_lookAt 103 = .ok (.goto (-71), 3) := by decide +kernel
theorem dX2_lookAt_106 : decode cX2_lookAt 106 = .ok (.return_, 1) := by decide +kernel
theorem dX2_layRow_0 : decode cX2_layRow 0 = .ok (.aload_n 0, 1) := by decide +kernel
theorem dX2_layRow_1 : decode cX2_layRow 1 = .ok (.invokevirtual 52, 3) := by decide +kernel
theorem dX2_layRow_4 : decode cX2_layRow 4 = .ok (.istore_n 1, 1) := by decide +kernel
theorem dX2_layRow_5 : decode cX2_layRow 5 = .ok (.iconst 0, 1) := by decide +kernel
theorem dX2_layRow_6 : decode cX2_layRow 6 = .ok (.istore_n 2, 1) := by decide +kernel
theorem dX2_layRow_7 : decode cX2_layRow 7 = .ok (.aload_n 0, 1) := by decide +kernel
theorem dX2_layRow_8 : decode cX2_layRow 8 = .ok (.getfield 19, 3) := by decide +kernel
theorem dX2_layRow_11 : decode cX2_layRow 11 = .ok (.istore_n 3, 1) := by decide +kernel
theorem dX2_layRow_12 : decode cX2_layRow 12 = .ok (.iconst 0, 1) := by decide +kernel
theorem dX2_layRow_13 : decode cX2_layRow 13 = .ok (.istore 4, 2) := by decide +kernel
theorem dX2_layRow_15 : decode cX2_layRow 15 = .ok (.iload 4, 2) := by decide +kernel
theorem dX2_layRow_17 : decode cX2_layRow 17 = .ok (.iload_n 1, 1) := by decide +kernel
theorem dX2_layRow_18 : decode cX2_layRow 18 = .ok (.if_icmp .ge 62, 3) := by decide +kernel
theorem dX2_layRow_21 : decode cX2_layRow 21 = .ok (.iload_n 3, 1) := by decide +kernel
theorem dX2_layRow_22 : decode cX2_layRow 22 = .ok (.aload_n 0, 1) := by decide +kernel
theorem dX2_layRow_23 : decode cX2_layRow 23 = .ok (.iload_n 1, 1) := by decide +kernel
theorem dX2_layRow_24 : decode cX2_layRow 24 = .ok (.iload 4, 2) := by decide +kernel
theorem dX2_layRow_26 : decode cX2_layRow 26 = .ok (.isub, 1) := by decide +kernel
theorem dX2_layRow_27 : decode cX2_layRow 27 = .ok (.iload_n 2, 1) := by decide +kernel
theorem dX2_layRow_28 : decode cX2_layRow 28 = .ok (.invokevirtual 55, 3) := by decide +kernel
theorem dX2_layRow_31 : decode cX2_layRow 31 = .ok (.iand, 1) := by decide +kernel
theorem dX2_layRow_32 : decode cX2_layRow 32 = .ok (.istore 5, 2) := by decide +kernel
theorem dX2_layRow_34 : decode cX2_layRow 34 = .ok (.iload 5, 2) := by decide +kernel
theorem dX2_layRow_36 : decode cX2_layRow 36 = .ok (.invokestatic 59, 3) := by decide +kernel
theorem dX2_layRow_39 : decode cX2_layRow 39 = .ok (.istore 6, 2) := by decide +kernel
theorem dX2_layRow_41 : decode cX2_layRow 41 = .ok (.iload 6, 2) := by decide +kernel
theorem dX2_layRow_43 : decode cX2_layRow 43 = .ok (.iconst (-1), 1) := by decide +kernel
theorem dX2_layRow_44 : decode cX2_layRow 44 = .ok (.if_icmp .ne 6, 3) := by decide +kernel
theorem dX2_layRow_47 : decode cX2_layRow 47 = .ok (.iload 4, 2) := by decide +kernel
theorem dX2_layRow_49 : decode cX2_layRow 49 = .ok (.ireturn, 1) := by decide +kernel
theorem dX2_layRow_50 : decode cX2_layRow 50 = .ok (.aload_n 0, 1) := by decide +kernel
theorem dX2_layRow_51 : decode cX2_layRow 51 = .ok (.getfield 9, 3) := by decide +kernel
theorem dX2_layRow_54 : decode cX2_layRow 54 = .ok (.iload 4, 2) := by decide +kernel
theorem dX2_layRow_56 : decode cX2_layRow 56 = .ok (.iload 6, 2) := by decide +kernel
theorem dX2_layRow_58 : decode cX2_layRow 58 = .ok (.iastore, 1) := by decide +kernel
theorem dX2_layRow_59 : decode cX2_layRow 59 = .ok (.iload_n 2, 1) := by decide +kernel
theorem dX2_layRow_60 : decode cX2_layRow 60 = .ok (.iconst 1, 1) := by decide +kernel
theorem dX2_layRow_61 : decode cX2_layRow 61 = .ok (.iload 6, 2) := by decide +kernel
theorem dX2_layRow_63 : decode cX2_layRow 63 = .ok (.ishl, 1) := by decide +kernel
theorem dX2_layRow_64 : decode cX2_layRow 64 = .ok (.ior, 1) := by decide +kernel
theorem dX2_layRow_65 : decode cX2_layRow 65 = .ok (.istore_n 2, 1) := by decide +kernel
theorem dX2_layRow_66 : decode cX2_layRow 66 = .ok (.aload_n 0, 1) := by decide +kernel
theorem dX2_layRow_67 : decode cX2_layRow 67 = .ok (.getfield 22, 3) := by decide +kernel
theorem dX2_layRow_70 : decode cX2_layRow 70 = .ok (.iload 6, 2) := by decide +kernel
theorem dX2_layRow_72 : decode cX2_layRow 72 = .ok (.iaload, 1) := by decide +kernel
theorem dX2_layRow_73 : decode cX2_layRow 73 = .ok (.istore_n 3, 1) := by decide +kernel
theorem dX2_layRow_74 : decode cX2_layRow 74 = .ok (.iinc 4 1, 3) := by decide +kernel
theorem dX2_layRow_77 : decode cX2_layRow 77 = .ok (.goto (-62), 3) := by decide +kernel
theorem dX2_layRow_80 : decode cX2_layRow 80 = .ok (.iload_n 1, 1) := by decide +kernel
theorem dX2_layRow_81 : decode cX2_layRow 81 = .ok (.ireturn, 1) := by decide +kernel
theorem dX2_markBeginnings_0 : decode cX2_markBeginnings 0 = .ok (.iconst 0, 1) := by decide +kernel
theorem dX2_markBeginnings_1 : decode cX2_markBeginnings 1 = .ok (.istore_n 1, 1) := by decide +kernel
theorem dX2_markBeginnings_2 : decode cX2_markBeginnings 2 = .ok (.aload_n 0, 1) := by decide +kernel
theorem dX2_markBeginnings_3 : decode cX2_markBeginnings 3 = .ok (.getfield 28, 3) := by decide +kernel
theorem dX2_markBeginnings_6 : decode cX2_markBeginnings 6 = .ok (.iconst 0, 1) := by decide +kernel
theorem dX2_markBeginnings_7 : decode cX2_markBeginnings 7 = .ok (.iconst 0, 1) := by decide +kernel
theorem dX2_markBeginnings_8 : decode cX2_markBeginnings 8 = .ok (.iastore, 1) := by decide +kernel
theorem dX2_markBeginnings_9 : decode cX2_markBeginnings 9 = .ok (.iconst 1, 1) := by decide +kernel
theorem dX2_markBeginnings_10 : decode cX2_markBeginnings 10 = .ok (.istore_n 2, 1) := by decide +kernel
theorem dX2_markBeginnings_11 : decode cX2_markBeginnings 11 = .ok (.iload_n 2, 1) := by decide +kernel
theorem dX2_markBeginnings_12 : decode cX2_markBeginnings 12 = .ok (.iconst 1, 1) := by decide +kernel
theorem dX2_markBeginnings_13 : decode cX2_markBeginnings 13 = .ok (.aload_n 0, 1) := by decide +kernel
theorem dX2_markBeginnings_14 : decode cX2_markBeginnings 14 = .ok (.getfield 15, 3) := by decide +kernel
theorem dX2_markBeginnings_17 : decode cX2_markBeginnings 17 = .ok (.ishl, 1) := by decide +kernel
theorem dX2_markBeginnings_18 : decode cX2_markBeginnings 18 = .ok (.if_icmp .ge 103, 3) := by decide +kernel
theorem dX2_markBeginnings_21 : decode cX2_markBeginnings 21 = .ok (.iconst 0, 1) := by decide +kernel
theorem dX2_markBeginnings_22 : decode cX2_markBeginnings 22 = .ok (.istore_n 3, 1) := by decide +kernel
theorem dX2_markBeginnings_23 : decode cX2_markBeginnings 23 = .ok (.iconst 0, 1) := by decide +kernel
theorem dX2_markBeginnings_24 : decode cX2_markBeginnings 24 = .ok (.istore 4, 2) := by decide +kernel
theorem dX2_markBeginnings_26 : decode cX2_markBeginnings 26 = .ok (.iload 4, 2) := by decide +kernel
theorem dX2_markBeginnings_28 : decode cX2_markBeginnings 28 = .ok (.aload_n 0, 1) := by decide +kernel
theorem dX2_markBeginnings_29 : decode cX2_markBeginnings 29 = .ok (.getfield 15, 3) := by decide +kernel
theorem dX2_markBeginnings_32 : decode cX2_markBeginnings 32 = .ok (.if_icmp .ge 63, 3) := by decide +kernel
theorem dX2_markBeginnings_35 : decode cX2_markBeginnings 35 = .ok (.iload_n 2, 1) := by decide +kernel
theorem dX2_markBeginnings_36 : decode cX2_markBeginnings 36 = .ok (.iconst 1, 1) := by decide +kernel
theorem dX2_markBeginnings_37 : decode cX2_markBeginnings 37 = .ok (.iload 4, 2) := by decide +kernel
theorem dX2_markBeginnings_39 : decode cX2_markBeginnings 39 = .ok (.ishl, 1) := by decide +kernel
theorem dX2_markBeginnings_40 : decode cX2_markBeginnings 40 = .ok (.iconst (-1), 1) := by decide +kernel
theorem dX2_markBeginnings_41 : decode cX2_markBeginnings 41 = .ok (.ixor, 1) := by decide +kernel
theorem dX2_markBeginnings_42 : decode cX2_markBeginnings 42 = .ok (.iand, 1) := by decide +kernel
theorem dX2_markBeginnings_43 : decode cX2_markBeginnings 43 = .ok (.istore 5, 2) := by decide +kernel
theorem dX2_markBeginnings_45 : decode cX2_markBeginnings 45 = .ok (.iload_n 2, 1) := by decide +kernel
theorem dX2_markBeginnings_46 : decode cX2_markBeginnings 46 = .ok (.aload_n 0, 1) := by decide +kernel
theorem dX2_markBeginnings_47 : decode cX2_markBeginnings 47 = .ok (.getfield 19, 3) := by decide +kernel
theorem dX2_markBeginnings_50 : decode cX2_markBeginnings 50 = .ok (.iand, 1) := by decide +kernel
theorem dX2_markBeginnings_51 : decode cX2_markBeginnings 51 = .ok (.iload 4, 2) := by decide +kernel
theorem dX2_markBeginnings_53 : decode cX2_markBeginnings 53 = .ok (.invokestatic 62, 3) := by decide +kernel
theorem dX2_markBeginnings_56 : decode cX2_markBeginnings 56 = .ok (.ifCond .eq 33, 3) := by decide +kernel
theorem dX2_markBeginnings_59 : decode cX2_markBeginnings 59 = .ok (.iload 5, 2) := by decide +kernel
theorem dX2_markBeginnings_61 : decode cX2_markBeginnings 61 = .ok (.ifCond .eq 21, 3) := by decide +kernel
theorem dX2_markBeginnings_64 : decode cX2_markBeginnings 64 = .ok (.aload_n 0, 1) := by decide +kernel
theorem dX2_markBeginnings_65 : decode cX2_markBeginnings 65 = .ok (.getfield 22, 3) := by decide +kernel
theorem dX2_markBeginnings_68 : decode cX2_markBeginnings 68 = .ok (.iload 4, 2) := by decide +kernel
theorem dX2_markBeginnings_70 : decode cX2_markBeginnings 70 = .ok (.iaload, 1) := by decide +kernel
theorem dX2_markBeginnings_71 : decode cX2_markBeginnings 71 = .ok (.aload_n 0, 1) := by decide +kernel
theorem dX2_markBeginnings_72 : decode cX2_markBeginnings 72 = .ok (.getfield 28, 3) := by decide +kernel
theorem dX2_markBeginnings_75 : decode cX2_markBeginnings 75 = .ok (.iload 5, 2) := by decide +kernel
theorem dX2_markBeginnings_77 : decode cX2_markBeginnings 77 = .ok (.iaload, 1) := by decide +kernel
theorem dX2_markBeginnings_78 : decode cX2_markBeginnings 78 = .ok (.iand, 1) := by decide +kernel
theorem dX2_markBeginnings_79 : decode cX2_markBeginnings 79 = .ok (.ifCond .eq 10, 3) := by decide +kernel
theorem dX2_markBeginnings_82 : decode cX2_markBeginnings 82 = .ok (.iload_n 3, 1) := by decide +kernel
theorem dX2_markBeginnings_83 : decode cX2_markBeginnings 83 = .ok (.iconst 1, 1) := by decide +kernel
theorem dX2_markBeginnings_84 : decode cX2_markBeginnings 84 = .ok (.iload 4, 2) := by decide +kernel
theorem dX2_markBeginnings_86 : decode cX2_markBeginnings 86 = .ok (.ishl, 1) := by decide +kernel
theorem dX2_markBeginnings_87 : decode cX2_markBeginnings 87 = .ok (.ior, 1) := by decide +kernel
theorem dX2_markBeginnings_88 : decode cX2_markBeginnings 88 = .ok (.istore_n 3, 1) := by decide +kernel
theorem dX2_markBeginnings_89 : decode cX2_markBeginnings 89 = .ok (.iinc 4 1, 3) := by decide +kernel
theorem dX2_markBeginnings_92 : decode cX2_markBeginnings 92 = .ok (.goto (-66), 3) := by decide +kernel
theorem dX2_markBeginnings_95 : decode cX2_markBeginnings 95 = .ok (.aload_n 0, 1) := by decide +kernel
theorem dX2_markBeginnings_96 : decode cX2_markBeginnings 96 = .ok (.getfield 28, 3) := by decide +kernel
theorem dX2_markBeginnings_99 : decode cX2_markBeginnings 99 = .ok (.iload_n 2, 1) := by decide +kernel
theorem dX2_markBeginnings_100 : decode cX2_markBeginnings 100 = .ok (.iload_n 3, 1) := by decide +kernel
theorem dX2_markBeginnings_101 : decode cX2_markBeginnings 101 = .ok (.iastore, 1) := by decide +kernel
theorem dX2_markBeginnings_102 : decode cX2_markBeginnings 102 = .ok (.iload_n 3, 1) := by decide +kernel
theorem dX2_markBeginnings_103 : decode cX2_markBeginnings 103 = .ok (.ifCond .eq 12, 3) := by decide +kernel
theorem dX2_markBeginnings_106 : decode cX2_markBeginnings 106 = .ok (.iload_n 1, 1) := by decide +kernel
theorem dX2_markBeginnings_107 : decode cX2_markBeginnings 107 = .ok (.iload_n 2, 1) := by decide +kernel
theorem dX2_markBeginnings_108 : decode cX2_markBeginnings 108 = .ok (.invokestatic 65, 3) := by decide +kernel
theorem dX2_markBeginnings_111 : decode cX2_markBeginnings 111 = .ok (.invokestatic 70, 3) := by decide +kernel
theorem dX2_markBeginnings_114 : decode cX2_markBeginnings 114 = .ok (.istore_n 1, 1) := by decide +kernel
theorem dX2_markBeginnings_115 : decode cX2_markBeginnings 115 = .ok (.iinc 2 1, 3) := by decide +kernel
theorem dX2_markBeginnings_118 : decode cX2_markBeginnings 118 = .ok (.goto (-107), 3) := by decide +kernel
theorem dX2_markBeginnings_121 : decode cX2_markBeginnings 121 = .ok (.iload_n 1, 1) := by decide +kernel
theorem dX2_markBeginnings_122 : decode cX2_markBeginnings 122 = .ok (.ireturn, 1) := by decide +kernel
theorem dX2_beginningsOf_0 : decode cX2_beginningsOf 0 = .ok (.iconst 0, 1) := by decide +kernel
theorem dX2_beginningsOf_1 : decode cX2_beginningsOf 1 = .ok (.istore_n 3, 1) := by decide +kernel
theorem dX2_beginningsOf_2 : decode cX2_beginningsOf 2 = .ok (.iconst 1, 1) := by decide +kernel
theorem dX2_beginningsOf_3 : decode cX2_beginningsOf 3 = .ok (.istore 4, 2) := by decide +kernel
theorem dX2_beginningsOf_5 : decode cX2_beginningsOf 5 = .ok (.iload 4, 2) := by decide +kernel
theorem dX2_beginningsOf_7 : decode cX2_beginningsOf 7 = .ok (.iconst 1, 1) := by decide +kernel
theorem dX2_beginningsOf_8 : decode cX2_beginningsOf 8 = .ok (.aload_n 0, 1) := by decide +kernel
theorem dX2_beginningsOf_9 : decode cX2_beginningsOf 9 = .ok (.getfield 15, 3) := by decide +kernel
theorem dX2_beginningsOf_12 : decode cX2_beginningsOf 12 = .ok (.ishl, 1) := by decide +kernel
theorem dX2_beginningsOf_13 : decode cX2_beginningsOf 13 = .ok (.if_icmp .ge 35, 3) := by decide +kernel
theorem dX2_beginningsOf_16 : decode cX2_beginningsOf 16 = .ok (.iload 4, 2) := by decide +kernel
theorem dX2_beginningsOf_18 : decode cX2_beginningsOf 18 = .ok (.iload_n 2, 1) := by decide +kernel
theorem dX2_beginningsOf_19 : decode cX2_beginningsOf 19 = .ok (.iand, 1) := by decide +kernel
theorem dX2_beginningsOf_20 : decode cX2_beginningsOf 20 = .ok (.ifCond .ne 22, 3) := by decide +kernel
theorem dX2_beginningsOf_23 : decode cX2_beginningsOf 23 = .ok (.iload 4, 2) := by decide +kernel
theorem dX2_beginningsOf_25 : decode cX2_beginningsOf 25 = .ok (.invokestatic 65, 3) := by decide +kernel
theorem dX2_beginningsOf_28 : decode cX2_beginningsOf 28 = .ok (.iload_n 1, 1) := by decide +kernel
theorem dX2_beginningsOf_29 : decode cX2_beginningsOf 29 = .ok (.if_icmp .ne 13, 3) := by decide +kernel
theorem dX2_beginningsOf_32 : decode cX2_beginningsOf 32 = .ok (.iload_n 3, 1) := by decide +kernel
theorem dX2_beginningsOf_33 : decode cX2_beginningsOf 33 = .ok (.aload_n 0, 1) := by decide +kernel
theorem dX2_beginningsOf_34 : decode cX2_beginningsOf 34 = .ok (.getfield 28, 3) := by decide +kernel
theorem dX2_beginningsOf_37 : decode cX2_beginningsOf 37 = .ok (.iload 4, 2) := by decide +kernel
theorem dX2_beginningsOf_39 : decode cX2_beginningsOf 39 = .ok (.iaload, 1) := by decide +kernel
theorem dX2_beginningsOf_40 : decode cX2_beginningsOf 40 = .ok (.ior, 1) := by decide +kernel
theorem dX2_beginningsOf_41 : decode cX2_beginningsOf 41 = .ok (.istore_n 3, 1) := by decide +kernel
theorem dX2_beginningsOf_42 : decode cX2_beginningsOf 42 = .ok (.iinc 4 1, 3) := by decide +kernel
theorem dX2_beginningsOf_45 : decode cX2_beginningsOf 45 = .ok (.goto (-40), 3) := by decide +kernel
theorem dX2_beginningsOf_48 : decode cX2_beginningsOf 48 = .ok (.iload_n 3, 1) := by decide +kernel
theorem dX2_beginningsOf_49 : decode cX2_beginningsOf 49 = .ok (.ireturn, 1) := by decide +kernel
theorem dX2_mostCouples_0 : decode cX2_mostCouples 0 = .ok (.aload_n 0, 1) := by decide +kernel
theorem dX2_mostCouples_1 : decode cX2_mostCouples 1 = .ok (.getfield 28, 3) := by decide +kernel
theorem dX2_mostCouples_4 : decode cX2_mostCouples 4 = .ok (.iconst 0, 1) := by decide +kernel
theorem dX2_mostCouples_5 : decode cX2_mostCouples 5 = .ok (.iconst 0, 1) := by decide +kernel
theorem dX2_mostCouples_6 : decode cX2_mostCouples 6 = .ok (.iastore, 1) := by decide +kernel
theorem dX2_mostCouples_7 : decode cX2_mostCouples 7 = .ok (.iconst 1, 1) := by decide +kernel
theorem dX2_mostCouples_8 : decode cX2_mostCouples 8 = .ok (.istore_n 1, 1) := by decide +kernel
theorem dX2_mostCouples_9 : decode cX2_mostCouples 9 = .ok (.iload_n 1, 1) := by decide +kernel
theorem dX2_mostCouples_10 : decode cX2_mostCouples 10 = .ok (.iconst 1, 1) := by decide +kernel
theorem dX2_mostCouples_11 : decode cX2_mostCouples 11 = .ok (.aload_n 0, 1) := by decide +kernel
theorem dX2_mostCouples_12 : decode cX2_mostCouples 12 = .ok (.getfield 15, 3) := by decide +kernel
theorem dX2_mostCouples_15 : decode cX2_mostCouples 15 = .ok (.ishl, 1) := by decide +kernel
theorem dX2_mostCouples_16 : decode cX2_mostCouples 16 = .ok (.if_icmp .ge 94, 3) := by decide +kernel
theorem dX2_mostCouples_19 : decode cX2_mostCouples 19 = .ok (.iload_n 1, 1) := by decide +kernel
theorem dX2_mostCouples_20 : decode cX2_mostCouples 20 = .ok (.invokestatic 59, 3) := by decide +kernel
theorem dX2_mostCouples_23 : decode cX2_mostCouples 23 = .ok (.istore_n 2, 1) := by decide +kernel
theorem dX2_mostCouples_24 : decode cX2_mostCouples 24 = .ok (.iload_n 1, 1) := by decide +kernel
theorem dX2_mostCouples_25 : decode cX2_mostCouples 25 = .ok (.iload_n 1, 1) := by decide +kernel
theorem dX2_mostCouples_26 : decode cX2_mostCouples 26 = .ok (.iconst 1, 1) := by decide +kernel
theorem dX2_mostCouples_27 : decode cX2_mostCouples 27 = .ok (.isub, 1) := by decide +kernel
theorem dX2_mostCouples_28 : decode cX2_mostCouples 28 = .ok (.iand, 1) := by decide +kernel
theorem dX2_mostCouples_29 : decode cX2_mostCouples 29 = .ok (.istore_n 3, 1) := by decide +kernel
theorem dX2_mostCouples_30 : decode cX2_mostCouples 30 = .ok (.aload_n 0, 1) := by decide +kernel
theorem dX2_mostCouples_31 : decode cX2_mostCouples 31 = .ok (.getfield 28, 3) := by decide +kernel
theorem dX2_mostCouples_34 : decode cX2_mostCouples 34 = .ok (.iload_n 3, 1) := by decide +kernel
theorem dX2_mostCouples_35 : decode cX2_mostCouples 35 = .ok (.iaload, 1) := by decide +kernel
theorem dX2_mostCouples_36 : decode cX2_mostCouples 36 = .ok (.istore 4, 2) := by decide +kernel
theorem dX2_mostCouples_38 : decode cX2_mostCouples 38 = .ok (.iload_n 2, 1) := by decide +kernel
theorem dX2_mostCouples_39 : decode cX2_mostCouples 39 = .ok (.iconst 1, 1) := by decide +kernel
theorem dX2_mostCouples_40 : decode cX2_mostCouples 40 = .ok (.iadd, 1) := by decide +kernel
theorem dX2_mostCouples_41 : decode cX2_mostCouples 41 = .ok (.istore 5, 2) := by decide +kernel
theorem dX2_mostCouples_43 : decode cX2_mostCouples 43 = .ok (.iload 5, 2) := by decide +kernel
theorem dX2_mostCouples_45 : decode cX2_mostCouples 45 = .ok (.aload_n 0, 1) := by decide +kernel
theorem dX2_mostCouples_46 : decode cX2_mostCouples 46 = .ok (.getfield 15, 3) := by decide +kernel
theorem dX2_mostCouples_49 : decode cX2_mostCouples 49 = .ok (.if_icmp .ge 47, 3) := by decide +kernel
theorem dX2_mostCouples_52 : decode cX2_mostCouples 52 = .ok (.iload_n 3, 1) := by decide +kernel
theorem dX2_mostCouples_53 : decode cX2_mostCouples 53 = .ok (.aload_n 0, 1) := by decide +kernel
theorem dX2_mostCouples_54 : decode cX2_mostCouples 54 = .ok (.getfield 25, 3) := by decide +kernel
theorem dX2_mostCouples_57 : decode cX2_mostCouples 57 = .ok (.iload_n 2, 1) := by decide +kernel
theorem dX2_mostCouples_58 : decode cX2_mostCouples 58 = .ok (.iaload, 1) := by decide +kernel
theorem dX2_mostCouples_59 : decode cX2_mostCouples 59 = .ok (.iand, 1) := by decide +kernel
theorem dX2_mostCouples_60 : decode cX2_mostCouples 60 = .ok (.iload 5, 2) := by decide +kernel
theorem dX2_mostCouples_62 : decode cX2_mostCouples 62 = .ok (.invokestatic 62, 3) := by decide +kernel
theorem dX2_mostCouples_65 : decode cX2_mostCouples 65 = .ok (.ifCond .eq 25, 3) := by decide +kernel
theorem dX2_mostCouples_68 : decode cX2_mostCouples 68 = .ok (.iload 4, 2) := by decide +kernel
theorem dX2_mostCouples_70 : decode cX2_mostCouples 70 = .ok (.iconst 1, 1) := by decide +kernel
theorem dX2_mostCouples_71 : decode cX2_mostCouples 71 = .ok (.aload_n 0, 1) := by decide +kernel
theorem dX2_mostCouples_72 : decode cX2_mostCouples 72 = .ok (.getfield 28, 3) := by decide +kernel
theorem dX2_mostCouples_75 : decode cX2_mostCouples 75 = .ok (.iload_n 3, 1) := by decide +kernel
theorem dX2_mostCouples_76 : decode cX2_mostCouples 76 = .ok (.iconst 1, 1) := by decide +kernel
theorem dX2_mostCouples_77 : decode cX2_mostCouples 77 = .ok (.iload 5, 2) := by decide +kernel
theorem dX2_mostCouples_79 : decode cX2_mostCouples 79 = .ok (.ishl, 1) := by decide +kernel
theorem dX2_mostCouples_80 : decode cX2_mostCouples 80 = .ok (.iconst (-1), 1) := by decide +kernel
theorem dX2_mostCouples_81 : decode cX2_mostCouples 81 = .ok (.ixor, 1) := by decide +kernel
theorem dX2_mostCouples_82 : decode cX2_mostCouples 82 = .ok (.iand, 1) := by decide +kernel
theorem dX2_mostCouples_83 : decode cX2_mostCouples 83 = .ok (.iaload, 1) := by decide +kernel
theorem dX2_mostCouples_84 : decode cX2_mostCouples 84 = .ok (.iadd, 1) := by decide +kernel
theorem dX2_mostCouples_85 : decode cX2_mostCouples 85 = .ok (.invokestatic 70, 3) := by decide +kernel
theorem dX2_mostCouples_88 : decode cX2_mostCouples 88 = .ok (.istore 4, 2) := by decide +kernel
theorem dX2_mostCouples_90 : decode cX2_mostCouples 90 = .ok (.iinc 5 1, 3) := by decide +kernel
theorem dX2_mostCouples_93 : decode cX2_mostCouples 93 = .ok (.goto (-50), 3) := by decide +kernel
theorem dX2_mostCouples_96 : decode cX2_mostCouples 96 = .ok (.aload_n 0, 1) := by decide +kernel
theorem dX2_mostCouples_97 : decode cX2_mostCouples 97 = .ok (.getfield 28, 3) := by decide +kernel
theorem dX2_mostCouples_100 : decode cX2_mostCouples 100 = .ok (.iload_n 1, 1) := by decide +kernel
theorem dX2_mostCouples_101 : decode cX2_mostCouples 101 = .ok (.iload 4, 2) := by decide +kernel
theorem dX2_mostCouples_103 : decode cX2_mostCouples 103 = .ok (.iastore, 1) := by decide +kernel
theorem dX2_mostCouples_104 : decode cX2_mostCouples 104 = .ok (.iinc 1 1, 3) := by decide +kernel
theorem dX2_mostCouples_107 : decode cX2_mostCouples 107 = .ok (.goto (-98), 3) := by decide +kernel
theorem dX2_mostCouples_110 : decode cX2_mostCouples 110 = .ok (.aload_n 0, 1) := by decide +kernel
theorem dX2_mostCouples_111 : decode cX2_mostCouples 111 = .ok (.getfield 28, 3) := by decide +kernel
theorem dX2_mostCouples_114 : decode cX2_mostCouples 114 = .ok (.iconst 1, 1) := by decide +kernel
theorem dX2_mostCouples_115 : decode cX2_mostCouples 115 = .ok (.aload_n 0, 1) := by decide +kernel
theorem dX2_mostCouples_116 : decode cX2_mostCouples 116 = .ok (.getfield 15, 3) := by decide +kernel
theorem dX2_mostCouples_119 : decode cX2_mostCouples 119 = .ok (.ishl, 1) := by decide +kernel
theorem dX2_mostCouples_120 : decode cX2_mostCouples 120 = .ok (.iconst 1, 1) := by decide +kernel
theorem dX2_mostCouples_121 : decode cX2_mostCouples 121 = .ok (.isub, 1) := by decide +kernel
theorem dX2_mostCouples_122 : decode cX2_mostCouples 122 = .ok (.iaload, 1) := by decide +kernel
theorem dX2_mostCouples_123 : decode cX2_mostCouples 123 = .ok (.ireturn, 1) := by decide +kernel
theorem dX2_orphans_0 : decode cX2_orphans 0 = .ok (.iconst 0, 1) := by decide +kernel
theorem dX2_orphans_1 : decode cX2_orphans 1 = .ok (.istore_n 1, 1) := by decide +kernel
theorem dX2_orphans_2 : decode cX2_orphans 2 = .ok (.iconst 0, 1) := by decide +kernel
theorem dX2_orphans_3 : decode cX2_orphans 3 = .ok (.istore_n 2, 1) := by decide +kernel
theorem dX2_orphans_4 : decode cX2_orphans 4 = .ok (.iload_n 2, 1) := by decide +kernel
theorem dX2_orphans_5 : decode cX2_orphans 5 = .ok (.aload_n 0, 1) := by decide +kernel
theorem dX2_orphans_6 : decode cX2_orphans 6 = .ok (.getfield 15, 3) := by decide +kernel
theorem dX2_orphans_9 : decode cX2_orphans 9 = .ok (.if_icmp .ge 35, 3) := by decide +kernel
theorem dX2_orphans_12 : decode cX2_orphans 12 = .ok (.aload_n 0, 1) := by decide +kernel
theorem dX2_orphans_13 : decode cX2_orphans 13 = .ok (.getfield 19, 3) := by decide +kernel
theorem dX2_orphans_16 : decode cX2_orphans 16 = .ok (.iload_n 2, 1) := by decide +kernel
theorem dX2_orphans_17 : decode cX2_orphans 17 = .ok (.invokestatic 62, 3) := by decide +kernel
theorem dX2_orphans_20 : decode cX2_orphans 20 = .ok (.ifCond .eq 18, 3) := by decide +kernel
theorem dX2_orphans_23 : decode cX2_orphans 23 = .ok (.aload_n 0, 1) := by decide +kernel
theorem dX2_orphans_24 : decode cX2_orphans 24 = .ok (.getfield 25, 3) := by decide +kernel
theorem dX2_orphans_27 : decode cX2_orphans 27 = .ok (.iload_n 2, 1) := by decide +kernel
theorem dX2_orphans_28 : decode cX2_orphans 28 = .ok (.iaload, 1) := by decide +kernel
theorem dX2_orphans_29 : decode cX2_orphans 29 = .ok (.ifCond .ne 9, 3) := by decide +kernel
theorem dX2_orphans_32 : decode cX2_orphans 32 = .ok (.iload_n 1, 1) := by decide +kernel
theorem dX2_orphans_33 : decode cX2_orphans 33 = .ok (.iconst 1, 1) := by decide +kernel
theorem dX2_orphans_34 : decode cX2_orphans 34 = .ok (.iload_n 2, 1) := by decide +kernel
theorem dX2_orphans_35 : decode cX2_orphans 35 = .ok (.ishl, 1) := by decide +kernel
theorem dX2_orphans_36 : decode cX2_orphans 36 = .ok (.ior, 1) := by decide +kernel
theorem dX2_orphans_37 : decode cX2_orphans 37 = .ok (.istore_n 1, 1) := by decide +kernel
theorem dX2_orphans_38 : decode cX2_orphans 38 = .ok (.iinc 2 1, 3) := by decide +kernel
theorem dX2_orphans_41 : decode cX2_orphans 41 = .ok (.goto (-37), 3) := by decide +kernel
theorem dX2_orphans_44 : decode cX2_orphans 44 = .ok (.iload_n 1, 1) := by decide +kernel
theorem dX2_orphans_45 : decode cX2_orphans 45 = .ok (.ireturn, 1) := by decide +kernel
theorem dX2_strangers_0 : decode cX2_strangers 0 = .ok (.iconst 0, 1) := by decide +kernel
theorem dX2_strangers_1 : decode cX2_strangers 1 = .ok (.istore_n 2, 1) := by decide +kernel
theorem dX2_strangers_2 : decode cX2_strangers 2 = .ok (.iconst 0, 1) := by decide +kernel
theorem dX2_strangers_3 : decode cX2_strangers 3 = .ok (.istore_n 3, 1) := by decide +kernel
theorem dX2_strangers_4 : decode cX2_strangers 4 = .ok (.iload_n 3, 1) := by decide +kernel
theorem dX2_strangers_5 : decode cX2_strangers 5 = .ok (.aload_n 0, 1) := by decide +kernel
theorem dX2_strangers_6 : decode cX2_strangers 6 = .ok (.getfield 15, 3) := by decide +kernel
theorem dX2_strangers_9 : decode cX2_strangers 9 = .ok (.if_icmp .ge 66, 3) := by decide +kernel
theorem dX2_strangers_12 : decode cX2_strangers 12 = .ok (.iload_n 3, 1) := by decide +kernel
theorem dX2_strangers_13 : decode cX2_strangers 13 = .ok (.iconst 1, 1) := by decide +kernel
theorem dX2_strangers_14 : decode cX2_strangers 14 = .ok (.iadd, 1) := by decide +kernel
theorem dX2_strangers_15 : decode cX2_strangers 15 = .ok (.istore 4, 2) := by decide +kernel
theorem dX2_strangers_17 : decode cX2_strangers 17 = .ok (.iload 4, 2) := by decide +kernel
theorem dX2_strangers_19 : decode cX2_strangers 19 = .ok (.aload_n 0, 1) := by decide +kernel
theorem dX2_strangers_20 : decode cX2_strangers 20 = .ok (.getfield 15, 3) := by decide +kernel
theorem dX2_strangers_23 : decode cX2_strangers 23 = .ok (.if_icmp .ge 46, 3) := by decide +kernel
theorem dX2_strangers_26 : decode cX2_strangers 26 = .ok (.aload_n 0, 1) := by decide +kernel
theorem dX2_strangers_27 : decode cX2_strangers 27 = .ok (.getfield 25, 3) := by decide +kernel
theorem dX2_strangers_30 : decode cX2_strangers 30 = .ok (.iload_n 3, 1) := by decide +kernel
theorem dX2_strangers_31 : decode cX2_strangers 31 = .ok (.iaload, 1) := by decide +kernel
theorem dX2_strangers_32 : decode cX2_strangers 32 = .ok (.iload 4, 2) := by decide +kernel
theorem dX2_strangers_34 : decode cX2_strangers 34 = .ok (.invokestatic 62, 3) := by decide +kernel
theorem dX2_strangers_37 : decode cX2_strangers 37 = .ok (.ifCond .eq 26, 3) := by decide +kernel
theorem dX2_strangers_40 : decode cX2_strangers 40 = .ok (.aload_n 1, 1) := by decide +kernel
theorem dX2_strangers_41 : decode cX2_strangers 41 = .ok (.iload_n 3, 1) := by decide +kernel
theorem dX2_strangers_42 : decode cX2_strangers 42 = .ok (.iload 4, 2) := by decide +kernel
theorem dX2_strangers_44 : decode cX2_strangers 44 = .ok (.invokevirtual 75, 3) := by decide +kernel
theorem dX2_strangers_47 : decode cX2_strangers 47 = .ok (.ifCond .ne 16, 3) := by decide +kernel
theorem dX2_strangers_50 : decode cX2_strangers 50 = .ok (.aload_n 1, 1) := by decide +kernel
theorem dX2_strangers_51 : decode cX2_strangers 51 = .ok (.iload 4, 2) := by decide +kernel
theorem dX2_strangers_53 : decode cX2_strangers 53 = .ok (.iload_n 3, 1) := by decide +kernel
theorem dX2_strangers_54 : decode cX2_strangers 54 = .ok (.invokevirtual 75, 3) := by decide +kernel
theorem dX2_strangers_57 : decode cX2_strangers 57 = .ok (.ifCond .ne 6, 3) := by decide +kernel
theorem dX2_strangers_60 : decode cX2_strangers 60 = .ok (.iinc 2 1, 3) := by decide +kernel
theorem dX2_strangers_63 : decode cX2_strangers 63 = .ok (.iinc 4 1, 3) := by decide +kernel
theorem dX2_strangers_66 : decode cX2_strangers 66 = .ok (.goto (-49), 3) := by decide +kernel
theorem dX2_strangers_69 : decode cX2_strangers 69 = .ok (.iinc 3 1, 3) := by decide +kernel
theorem dX2_strangers_72 : decode cX2_strangers 72 = .ok (.goto (-68), 3) := by decide +kernel
theorem dX2_strangers_75 : decode cX2_strangers 75 = .ok (.iload_n 2, 1) := by decide +kernel
theorem dX2_strangers_76 : decode cX2_strangers 76 = .ok (.ireturn, 1) := by decide +kernel
theorem dX3_init_0 : decode cX3_init 0 = .ok (.aload_n 0, 1) := by decide +kernel
theorem dX3_init_1 : decode cX3_init 1 = .ok (.invokespecial 3, 3) := by decide +kernel
theorem dX3_init_4 : decode cX3_init 4 = .ok (.aload_n 0, 1) := by decide +kernel
theorem dX3_init_5 : decode cX3_init 5 = .ok (.iconst 0, 1) := by decide +kernel
theorem dX3_init_6 : decode cX3_init 6 = .ok (.putfield 9, 3) := by decide +kernel
theorem dX3_init_9 : decode cX3_init 9 = .ok (.aload_n 0, 1) := by decide +kernel
theorem dX3_init_10 : decode cX3_init 10 = .ok (.bipush 8, 2) := by decide +kernel
theorem dX3_init_12 : decode cX3_init 12 = .ok (.newarray .int, 2) := by decide +kernel
theorem dX3_init_14 : decode cX3_init 14 = .ok (.putfield 15, 3) := by decide +kernel
theorem dX3_init_17 : decode cX3_init 17 = .ok (.aload_n 0, 1) := by decide +kernel
theorem dX3_init_18 : decode cX3_init 18 = .ok (.bipush 8, 2) := by decide +kernel
theorem dX3_init_20 : decode cX3_init 20 = .ok (.newarray .int, 2) := by decide +kernel
theorem dX3_init_22 : decode cX3_init 22 = .ok (.putfield 19, 3) := by decide +kernel
theorem dX3_init_25 : decode cX3_init 25 = .ok (.aload_n 0, 1) := by decide +kernel
theorem dX3_init_26 : decode cX3_init 26 = .ok (.bipush 8, 2) := by decide +kernel
theorem dX3_init_28 : decode cX3_init 28 = .ok (.newarray .int, 2) := by decide +kernel
theorem dX3_init_30 : decode cX3_init 30 = .ok (.putfield 22, 3) := by decide +kernel
theorem dX3_init_33 : decode cX3_init 33 = .ok (.aload_n 0, 1) := by decide +kernel
theorem dX3_init_34 : decode cX3_init 34 = .ok (.bipush 8, 2) := by decide +kernel
theorem dX3_init_36 : decode cX3_init 36 = .ok (.newarray .boolean, 2) := by decide +kernel
theorem dX3_init_38 : decode cX3_init 38 = .ok (.putfield 25, 3) := by decide +kernel
theorem dX3_init_41 : decode cX3_init 41 = .ok (.return_, 1) := by decide +kernel
theorem dX3_clear_0 : decode cX3_clear 0 = .ok (.aload_n 0, 1) := by decide +kernel
theorem dX3_clear_1 : decode cX3_clear 1 = .ok (.iconst 0, 1) := by decide +kernel
theorem dX3_clear_2 : decode cX3_clear 2 = .ok (.putfield 9, 3) := by decide +kernel
theorem dX3_clear_5 : decode cX3_clear 5 = .ok (.return_, 1) := by decide +kernel
theorem dX3_add_0 : decode cX3_add 0 = .ok (.aload_n 0, 1) := by decide +kernel
theorem dX3_add_1 : decode cX3_add 1 = .ok (.getfield 9, 3) := by decide +kernel
theorem dX3_add_4 : decode cX3_add 4 = .ok (.bipush 8, 2) := by decide +kernel
theorem dX3_add_6 : decode cX3_add 6 = .ok (.if_icmp .ge 54, 3) := by decide +kernel
theorem dX3_add_9 : decode cX3_add 9 = .ok (.aload_n 0, 1) := by decide +kernel
theorem dX3_add_10 : decode cX3_add 10 = .ok (.getfield 15, 3) := by decide +kernel
theorem dX3_add_13 : decode cX3_add 13 = .ok (.aload_n 0, 1) := by decide +kernel
theorem dX3_add_14 : decode cX3_add 14 = .ok (.getfield 9, 3) := by decide +kernel
theorem dX3_add_17 : decode cX3_add 17 = .ok (.iload_n 1, 1) := by decide +kernel
theorem dX3_add_18 : decode cX3_add 18 = .ok (.iastore, 1) := by decide +kernel
theorem dX3_add_19 : decode cX3_add 19 = .ok (.aload_n 0, 1) := by decide +kernel
theorem dX3_add_20 : decode cX3_add 20 = .ok (.getfield 19, 3) := by decide +kernel
theorem dX3_add_23 : decode cX3_add 23 = .ok (.aload_n 0, 1) := by decide +kernel
theorem dX3_add_24 : decode cX3_add 24 = .ok (.getfield 9, 3) := by decide +kernel
theorem dX3_add_27 : decode cX3_add 27 = .ok (.iload_n 2, 1) := by decide +kernel
theorem dX3_add_28 : decode cX3_add 28 = .ok (.iastore, 1) := by decide +kernel
theorem dX3_add_29 : decode cX3_add 29 = .ok (.aload_n 0, 1) := by decide +kernel
theorem dX3_add_30 : decode cX3_add 30 = .ok (.getfield 22, 3) := by decide +kernel
theorem dX3_add_33 : decode cX3_add 33 = .ok (.aload_n 0, 1) := by decide +kernel
theorem dX3_add_34 : decode cX3_add 34 = .ok (.getfield 9, 3) := by decide +kernel
theorem dX3_add_37 : decode cX3_add 37 = .ok (.iload_n 3, 1) := by decide +kernel
theorem dX3_add_38 : decode cX3_add 38 = .ok (.iastore, 1) := by decide +kernel
theorem dX3_add_39 : decode cX3_add 39 = .ok (.aload_n 0, 1) := by decide +kernel
theorem dX3_add_40 : decode cX3_add 40 = .ok (.getfield 25, 3) := by decide +kernel
theorem dX3_add_43 : decode cX3_add 43 = .ok (.aload_n 0, 1) := by decide +kernel
theorem dX3_add_44 : decode cX3_add 44 = .ok (.getfield 9, 3) := by decide +kernel
theorem dX3_add_47 : decode cX3_add 47 = .ok (.iload 4, 2) := by decide +kernel
theorem dX3_add_49 : decode cX3_add 49 = .ok (.bastore, 1) := by decide +kernel
theorem dX3_add_50 : decode cX3_add 50 = .ok (.aload_n 0, 1) := by decide +kernel
theorem dX3_add_51 : decode cX3_add 51 = .ok (.dup, 1) := by decide +kernel
theorem dX3_add_52 : decode cX3_add 52 = .ok (.getfield 9, 3) := by decide +kernel
theorem dX3_add_55 : decode cX3_add 55 = .ok (.iconst 1, 1) := by decide +kernel
theorem dX3_add_56 : decode cX3_add 56 = .ok (.iadd, 1) := by decide +kernel
theorem dX3_add_57 : decode cX3_add 57 = .ok (.putfield 9, 3) := by decide +kernel
theorem dX3_add_60 : decode cX3_add 60 = .ok (.return_, 1) := by decide +kernel
theorem dX3_copyFrom_0 : decode cX3_copyFrom 0 = .ok (.aload_n 0, 1) := by decide +kernel
theorem dX3_copyFrom_1 : decode cX3_copyFrom 1 = .ok (.aload_n 1, 1) := by decide +kernel
theorem dX3_copyFrom_2 : decode cX3_copyFrom 2 = .ok (.getfield 9, 3) := by decide +kernel
theorem dX3_copyFrom_5 : decode cX3_copyFrom 5 = .ok (.putfield 9, 3) := by decide +kernel
theorem dX3_copyFrom_8 : decode cX3_copyFrom 8 = .ok (.iconst 0, 1) := by decide +kernel
theorem dX3_copyFrom_9 : decode cX3_copyFrom 9 = .ok (.istore_n 2, 1) := by decide +kernel
theorem dX3_copyFrom_10 : decode cX3_copyFrom 10 = .ok (.iload_n 2, 1) := by decide +kernel
theorem dX3_copyFrom_11 : decode cX3_copyFrom 11 = .ok (.aload_n 0, 1) := by decide +kernel
theorem dX3_copyFrom_12 : decode cX3_copyFrom 12 = .ok (.getfield 9, 3) := by decide +kernel
theorem dX3_copyFrom_15 : decode cX3_copyFrom 15 = .ok (.if_icmp .ge 57, 3) := by decide +kernel
theorem dX3_copyFrom_18 : decode cX3_copyFrom 18 = .ok (.aload_n 0, 1) := by decide +kernel
theorem dX3_copyFrom_19 : decode cX3_copyFrom 19 = .ok (.getfield 15, 3) := by decide +kernel
theorem dX3_copyFrom_22 : decode cX3_copyFrom 22 = .ok (.iload_n 2, 1) := by decide +kernel
theorem dX3_copyFrom_23 : decode cX3_copyFrom 23 = .ok (.aload_n 1, 1) := by decide +kernel
theorem dX3_copyFrom_24 : decode cX3_copyFrom 24 = .ok (.getfield 15, 3) := by decide +kernel
theorem dX3_copyFrom_27 : decode cX3_copyFrom 27 = .ok (.iload_n 2, 1) := by decide +kernel
theorem dX3_copyFrom_28 : decode cX3_copyFrom 28 = .ok (.iaload, 1) := by decide +kernel
theorem dX3_copyFrom_29 : decode cX3_copyFrom 29 = .ok (.iastore, 1) := by decide +kernel
theorem dX3_copyFrom_30 : decode cX3_copyFrom 30 = .ok (.aload_n 0, 1) := by decide +kernel
theorem dX3_copyFrom_31 : decode cX3_copyFrom 31 = .ok (.getfield 19, 3) := by decide +kernel
theorem dX3_copyFrom_34 : decode cX3_copyFrom 34 = .ok (.iload_n 2, 1) := by decide +kernel
theorem dX3_copyFrom_35 : decode cX3_copyFrom 35 = .ok (.aload_n 1, 1) := by decide +kernel
theorem dX3_copyFrom_36 : decode cX3_copyFrom 36 = .ok (.getfield 19, 3) := by decide +kernel
theorem dX3_copyFrom_39 : decode cX3_copyFrom 39 = .ok (.iload_n 2, 1) := by decide +kernel
theorem dX3_copyFrom_40 : decode cX3_copyFrom 40 = .ok (.iaload, 1) := by decide +kernel
theorem dX3_copyFrom_41 : decode cX3_copyFrom 41 = .ok (.iastore, 1) := by decide +kernel
theorem dX3_copyFrom_42 : decode cX3_copyFrom 42 = .ok (.aload_n 0, 1) := by decide +kernel
theorem dX3_copyFrom_43 : decode cX3_copyFrom 43 = .ok (.getfield 22, 3) := by decide +kernel
theorem dX3_copyFrom_46 : decode cX3_copyFrom 46 = .ok (.iload_n 2, 1) := by decide +kernel
theorem dX3_copyFrom_47 : decode cX3_copyFrom 47 = .ok (.aload_n 1, 1) := by decide +kernel
theorem dX3_copyFrom_48 : decode cX3_copyFrom 48 = .ok (.getfield 22, 3) := by decide +kernel
theorem dX3_copyFrom_51 : decode cX3_copyFrom 51 = .ok (.iload_n 2, 1) := by decide +kernel
theorem dX3_copyFrom_52 : decode cX3_copyFrom 52 = .ok (.iaload, 1) := by decide +kernel
theorem dX3_copyFrom_53 : decode cX3_copyFrom 53 = .ok (.iastore, 1) := by decide +kernel
theorem dX3_copyFrom_54 : decode cX3_copyFrom 54 = .ok (.aload_n 0, 1) := by decide +kernel
theorem dX3_copyFrom_55 : decode cX3_copyFrom 55 = .ok (.getfield 25, 3) := by decide +kernel
theorem dX3_copyFrom_58 : decode cX3_copyFrom 58 = .ok (.iload_n 2, 1) := by decide +kernel
theorem dX3_copyFrom_59 : decode cX3_copyFrom 59 = .ok (.aload_n 1, 1) := by decide +kernel
theorem dX3_copyFrom_60 : decode cX3_copyFrom 60 = .ok (.getfield 25, 3) := by decide +kernel
theorem dX3_copyFrom_63 : decode cX3_copyFrom 63 = .ok (.iload_n 2, 1) := by decide +kernel
theorem dX3_copyFrom_64 : decode cX3_copyFrom 64 = .ok (.baload, 1) := by decide +kernel
theorem dX3_copyFrom_65 : decode cX3_copyFrom 65 = .ok (.bastore, 1) := by decide +kernel
theorem dX3_copyFrom_66 : decode cX3_copyFrom 66 = .ok (.iinc 2 1, 3) := by decide +kernel
theorem dX3_copyFrom_69 : decode cX3_copyFrom 69 = .ok (.goto (-59), 3) := by decide +kernel
theorem dX3_copyFrom_72 : decode cX3_copyFrom 72 = .ok (.return_, 1) := by decide +kernel
theorem dX3_allSo_0 : decode cX3_allSo 0 = .ok (.iconst 0, 1) := by decide +kernel
theorem dX3_allSo_1 : decode cX3_allSo 1 = .ok (.istore_n 2, 1) := by decide +kernel
theorem dX3_allSo_2 : decode cX3_allSo 2 = .ok (.iconst 0, 1) := by decide +kernel
theorem dX3_allSo_3 : decode cX3_allSo 3 = .ok (.istore_n 3, 1) := by decide +kernel
theorem dX3_allSo_4 : decode cX3_allSo 4 = .ok (.iload_n 3, 1) := by decide +kernel
theorem dX3_allSo_5 : decode cX3_allSo 5 = .ok (.aload_n 0, 1) := by decide +kernel
theorem dX3_allSo_6 : decode cX3_allSo 6 = .ok (.getfield 9, 3) := by decide +kernel
theorem dX3_allSo_9 : decode cX3_allSo 9 = .ok (.if_icmp .ge 20, 3) := by decide +kernel
theorem dX3_allSo_12 : decode cX3_allSo 12 = .ok (.iload_n 2, 1) := by decide +kernel
theorem dX3_allSo_13 : decode cX3_allSo 13 = .ok (.aload_n 0, 1) := by decide +kernel
theorem dX3_allSo_14 : decode cX3_allSo 14 = .ok (.getfield 22, 3) := by decide +kernel
theorem dX3_allSo_17 : decode cX3_allSo 17 = .ok (.iload_n 3, 1) := by decide +kernel
theorem dX3_allSo_18 : decode cX3_allSo 18 = .ok (.iaload, 1) := by decide +kernel
theorem dX3_allSo_19 : decode cX3_allSo 19 = .ok (.invokestatic 29, 3) := by decide +kernel
theorem dX3_allSo_22 : decode cX3_allSo 22 = .ok (.istore_n 2, 1) := by decide +kernel
theorem dX3_allSo_23 : decode cX3_allSo 23 = .ok (.iinc 3 1, 3) := by decide +kernel
theorem dX3_allSo_26 : decode cX3_allSo 26 = .ok (.goto (-22), 3) := by decide +kernel
theorem dX3_allSo_29 : decode cX3_allSo 29 = .ok (.iconst 0, 1) := by decide +kernel
theorem dX3_allSo_30 : decode cX3_allSo 30 = .ok (.istore_n 3, 1) := by decide +kernel
theorem dX3_allSo_31 : decode cX3_allSo 31 = .ok (.iload_n 3, 1) := by decide +kernel
theorem dX3_allSo_32 : decode cX3_allSo 32 = .ok (.iload_n 2, 1) := by decide +kernel
theorem dX3_allSo_33 : decode cX3_allSo 33 = .ok (.if_icmp .gt 81, 3) := by decide +kernel
theorem dX3_allSo_36 : decode cX3_allSo 36 = .ok (.iload_n 3, 1) := by decide +kernel
theorem dX3_allSo_37 : decode cX3_allSo 37 = .ok (.ifCond .le 8, 3) := by decide +kernel
theorem dX3_allSo_40 : decode cX3_allSo 40 = .ok (.aload_n 1, 1) := by decide +kernel
theorem dX3_allSo_41 : decode cX3_allSo 41 = .ok (.invokevirtual 35, 3) := by decide +kernel
theorem dX3_allSo_44 : decode cX3_allSo 44 = .ok (.pop, 1) := by decide +kernel
theorem dX3_allSo_45 : decode cX3_allSo 45 = .ok (.iconst 0, 1) := by decide +kernel
theorem dX3_allSo_46 : decode cX3_allSo 46 = .ok (.istore 4, 2) := by decide +kernel
theorem dX3_allSo_48 : decode cX3_allSo 48 = .ok (.iload 4, 2) := by decide +kernel
theorem dX3_allSo_50 : decode cX3_allSo 50 = .ok (.aload_n 0, 1) := by decide +kernel
theorem dX3_allSo_51 : decode cX3_allSo 51 = .ok (.getfield 9, 3) := by decide +kernel
theorem dX3_allSo_54 : decode cX3_allSo 54 = .ok (.if_icmp .ge 54, 3) := by decide +kernel
theorem dX3_allSo_57 : decode cX3_allSo 57 = .ok (.aload_n 0, 1) := by decide +kernel
theorem dX3_allSo_58 : decode cX3_allSo 58 = .ok (.getfield 22, 3) := by decide +kernel
theorem dX3_allSo_61 : decode cX3_allSo 61 = .ok (.iload 4, 2) := by decide +kernel
theorem dX3_allSo_63 : decode cX3_allSo 63 = .ok (.iaload, 1) := by decide +kernel
theorem dX3_allSo_64 : decode cX3_allSo 64 = .ok (.iload_n 3, 1) := by decide +kernel
theorem dX3_allSo_65 : decode cX3_allSo 65 = .ok (.if_icmp .ne 37, 3) := by decide +kernel
theorem dX3_allSo_68 : decode cX3_allSo 68 = .ok (.aload_n 1, 1) := by decide +kernel
theorem dX3_allSo_69 : decode cX3_allSo 69 = .ok (.getfield 41, 3) := by decide +kernel
theorem dX3_allSo_72 : decode cX3_allSo 72 = .ok (.aload_n 0, 1) := by decide +kernel
theorem dX3_allSo_73 : decode cX3_allSo 73 = .ok (.getfield 15, 3) := by decide +kernel
theorem dX3_allSo_76 : decode cX3_allSo 76 = .ok (.iload 4, 2) := by decide +kernel
theorem dX3_allSo_78 : decode cX3_allSo 78 = .ok (.iaload, 1) := by decide +kernel
theorem dX3_allSo_79 : decode cX3_allSo 79 = .ok (.iaload, 1) := by decide +kernel
theorem dX3_allSo_80 : decode cX3_allSo 80 = .ok (.aload_n 0, 1) := by decide +kernel
theorem dX3_allSo_81 : decode cX3_allSo 81 = .ok (.getfield 19, 3) := by decide +kernel
theorem dX3_allSo_84 : decode cX3_allSo 84 = .ok (.iload 4, 2) := by decide +kernel
theorem dX3_allSo_86 : decode cX3_allSo 86 = .ok (.iaload, 1) := by decide +kernel
theorem dX3_allSo_87 : decode cX3_allSo 87 = .ok (.invokestatic 44, 3) := by decide +kernel
theorem dX3_allSo_90 : decode cX3_allSo 90 = .ok (.aload_n 0, 1) := by decide +kernel
theorem dX3_allSo_91 : decode cX3_allSo 91 = .ok (.getfield 25, 3) := by decide +kernel
theorem dX3_allSo_94 : decode cX3_allSo 94 = .ok (.iload 4, 2) := by decide +kernel
theorem dX3_allSo_96 : decode cX3_allSo 96 = .ok (.baload, 1) := by decide +kernel
theorem dX3_allSo_97 : decode cX3_allSo 97 = .ok (.if_icmp .eq 5, 3) := by decide +kernel
theorem dX3_allSo_100 : decode cX3_allSo 100 = .ok (.iconst 0, 1) := by decide +kernel
theorem dX3_allSo_101 : decode cX3_allSo 101 = .ok (.ireturn, 1) := by decide +kernel
theorem dX3_allSo_102 : decode cX3_allSo 102 = .ok (.iinc 4 1, 3) := by decide +kernel
theorem dX3_allSo_105 : decode cX3_allSo 105 = .ok (.goto (-57), 3) := by decide +kernel
theorem dX3_allSo_108 : decode cX3_allSo 108 = .ok (.iinc 3 1, 3) := by decide +kernel
theorem dX3_allSo_111 : decode cX3_allSo 111 = .ok (.goto (-80), 3) := by decide +kernel
theorem dX3_allSo_114 : decode cX3_allSo 114 = .ok (.iconst 1, 1) := by decide +kernel
theorem dX3_allSo_115 : decode cX3_allSo 115 = .ok (.ireturn, 1) := by decide +kernel
theorem dX4_init_0 : decode cX4_init 0 = .ok (.aload_n 0, 1) := by decide +kernel
theorem dX4_init_1 : decode cX4_init 1 = .ok (.invokespecial 3, 3) := by decide +kernel
theorem dX4_init_4 : decode cX4_init 4 = .ok (.aload_n 0, 1) := by decide +kernel
theorem dX4_init_5 : decode cX4_init 5 = .ok (.iconst 0, 1) := by decide +kernel
theorem dX4_init_6 : decode cX4_init 6 = .ok (.putfield 9, 3) := by decide +kernel
theorem dX4_init_9 : decode cX4_init 9 = .ok (.aload_n 0, 1) := by decide +kernel
theorem dX4_init_10 : decode cX4_init 10 = .ok (.bipush 9, 2) := by decide +kernel
theorem dX4_init_12 : decode cX4_init 12 = .ok (.newarray .int, 2) := by decide +kernel
theorem dX4_init_14 : decode cX4_init 14 = .ok (.putfield 15, 3) := by decide +kernel
theorem dX4_init_17 : decode cX4_init 17 = .ok (.aload_n 0, 1) := by decide +kernel
theorem dX4_init_18 : decode cX4_init 18 = .ok (.bipush 9, 2) := by decide +kernel
theorem dX4_init_20 : decode cX4_init 20 = .ok (.newarray .int, 2) := by decide +kernel
theorem dX4_init_22 : decode cX4_init 22 = .ok (.putfield 19, 3) := by decide +kernel
theorem dX4_init_25 : decode cX4_init 25 = .ok (.aload_n 0, 1) := by decide +kernel
theorem dX4_init_26 : decode cX4_init 26 = .ok (.bipush 9, 2) := by decide +kernel
theorem dX4_init_28 : decode cX4_init 28 = .ok (.newarray .int, 2) := by decide +kernel
theorem dX4_init_30 : decode cX4_init 30 = .ok (.putfield 22, 3) := by decide +kernel
theorem dX4_init_33 : decode cX4_init 33 = .ok (.aload_n 0, 1) := by decide +kernel
theorem dX4_init_34 : decode cX4_init 34 = .ok (.iconst 0, 1) := by decide +kernel
theorem dX4_init_35 : decode cX4_init 35 = .ok (.putfield 25, 3) := by decide +kernel
theorem dX4_init_38 : decode cX4_init 38 = .ok (.aload_n 0, 1) := by decide +kernel
theorem dX4_init_39 : decode cX4_init 39 = .ok (.bipush 6, 2) := by decide +kernel
theorem dX4_init_41 : decode cX4_init 41 = .ok (.newarray .int, 2) := by decide +kernel
theorem dX4_init_43 : decode cX4_init 43 = .ok (.putfield 28, 3) := by decide +kernel
theorem dX4_init_46 : decode cX4_init 46 = .ok (.aload_n 0, 1) := by decide +kernel
theorem dX4_init_47 : decode cX4_init 47 = .ok (.bipush 36, 2) := by decide +kernel
theorem dX4_init_49 : decode cX4_init 49 = .ok (.newarray .int, 2) := by decide +kernel
theorem dX4_init_51 : decode cX4_init 51 = .ok (.putfield 31, 3) := by decide +kernel
theorem dX4_init_54 : decode cX4_init 54 = .ok (.aload_n 0, 1) := by decide +kernel
theorem dX4_init_55 : decode cX4_init 55 = .ok (.iconst 0, 1) := by decide +kernel
theorem dX4_init_56 : decode cX4_init 56 = .ok (.putfield 34, 3) := by decide +kernel
theorem dX4_init_59 : decode cX4_init 59 = .ok (.aload_n 0, 1) := by decide +kernel
theorem dX4_init_60 : decode cX4_init 60 = .ok (.bipush 12, 2) := by decide +kernel
theorem dX4_init_62 : decode cX4_init 62 = .ok (.newarray .int, 2) := by decide +kernel
theorem dX4_init_64 : decode cX4_init 64 = .ok (.putfield 37, 3) := by decide +kernel
theorem dX4_init_67 : decode cX4_init 67 = .ok (.aload_n 0, 1) := by decide +kernel
theorem dX4_init_68 : decode cX4_init 68 = .ok (.bipush 12, 2) := by decide +kernel
theorem dX4_init_70 : decode cX4_init 70 = .ok (.newarray .int, 2) := by decide +kernel
theorem dX4_init_72 : decode cX4_init 72 = .ok (.putfield 40, 3) := by decide +kernel
theorem dX4_init_75 : decode cX4_init 75 = .ok (.aload_n 0, 1) := by decide +kernel
theorem dX4_init_76 : decode cX4_init 76 = .ok (.iconst 0, 1) := by decide +kernel
theorem dX4_init_77 : decode cX4_init 77 = .ok (.putfield 43, 3) := by decide +kernel
theorem dX4_init_80 : decode cX4_init 80 = .ok (.aload_n 0, 1) := by decide +kernel
theorem dX4_init_81 : decode cX4_init 81 = .ok (.iconst 0, 1) := by decide +kernel
theorem dX4_init_82 : decode cX4_init 82 = .ok (.putfield 46, 3) := by decide +kernel
theorem dX4_init_85 : decode cX4_init 85 = .ok (.aload_n 0, 1) := by decide +kernel
theorem dX4_init_86 : decode cX4_init 86 = .ok (.new 50, 3) := by decide +kernel
theorem dX4_init_89 : decode cX4_init 89 = .ok (.dup, 1) := by decide +kernel
theorem dX4_init_90 : decode cX4_init 90 = .ok (.invokespecial 52, 3) := by decide +kernel
theorem dX4_init_93 : decode cX4_init 93 = .ok (.putfield 53, 3) := by decide +kernel
theorem dX4_init_96 : decode cX4_init 96 = .ok (.aload_n 0, 1) := by decide +kernel
theorem dX4_init_97 : decode cX4_init 97 = .ok (.new 50, 3) := by decide +kernel
theorem dX4_init_100 : decode cX4_init 100 = .ok (.dup, 1) := by decide +kernel
theorem dX4_init_101 : decode cX4_init 101 = .ok (.invokespecial 52, 3) := by decide +kernel
theorem dX4_init_104 : decode cX4_init 104 = .ok (.putfield 57, 3) := by decide +kernel
theorem dX4_init_107 : decode cX4_init 107 = .ok (.return_, 1) := by decide +kernel
theorem dX4_clear_0 : decode cX4_clear 0 = .ok (.aload_n 0, 1) := by decide +kernel
theorem dX4_clear_1 : decode cX4_clear 1 = .ok (.iconst 0, 1) := by decide +kernel
theorem dX4_clear_2 : decode cX4_clear 2 = .ok (.putfield 9, 3) := by decide +kernel
theorem dX4_clear_5 : decode cX4_clear 5 = .ok (.aload_n 0, 1) := by decide +kernel
theorem dX4_clear_6 : decode cX4_clear 6 = .ok (.iconst 0, 1) := by decide +kernel
theorem dX4_clear_7 : decode cX4_clear 7 = .ok (.putfield 25, 3) := by decide +kernel
theorem dX4_clear_10 : decode cX4_clear 10 = .ok (.aload_n 0, 1) := by decide +kernel
theorem dX4_clear_11 : decode cX4_clear 11 = .ok (.iconst 0, 1) := by decide +kernel
theorem dX4_clear_12 : decode cX4_clear 12 = .ok (.putfield 34, 3) := by decide +kernel
theorem dX4_clear_15 : decode cX4_clear 15 = .ok (.aload_n 0, 1) := by decide +kernel
theorem dX4_clear_16 : decode cX4_clear 16 = .ok (.iconst 0, 1) := by decide +kernel
theorem dX4_clear_17 : decode cX4_clear 17 = .ok (.putfield 43, 3) := by decide +kernel
theorem dX4_clear_20 : decode cX4_clear 20 = .ok (.aload_n 0, 1) := by decide +kernel
theorem dX4_clear_21 : decode cX4_clear 21 = .ok (.iconst 0, 1) := by decide +kernel
theorem dX4_clear_22 : decode cX4_clear 22 = .ok (.putfield 46, 3) := by decide +kernel
theorem dX4_clear_25 : decode cX4_clear 25 = .ok (.aload_n 0, 1) := by decide +kernel
theorem dX4_clear_26 : decode cX4_clear 26 = .ok (.getfield 53, 3) := by decide +kernel
theorem dX4_clear_29 : decode cX4_clear 29 = .ok (.invokevirtual 60, 3) := by decide +kernel
theorem dX4_clear_32 : decode cX4_clear 32 = .ok (.aload_n 0, 1) := by decide +kernel
theorem dX4_clear_33 : decode cX4_clear 33 = .ok (.getfield 57, 3) := by decide +kernel
theorem dX4_clear_36 : decode cX4_clear 36 = .ok (.invokevirtual 60, 3) := by decide +kernel
theorem dX4_clear_39 : decode cX4_clear 39 = .ok (.return_, 1) := by decide +kernel
theorem dX4_addSheet_0 : decode cX4_addSheet 0 = .ok (.aload_n 0, 1) := by decide +kernel
theorem dX4_addSheet_1 : decode cX4_addSheet 1 = .ok (.getfield 9, 3) := by decide +kernel
theorem dX4_addSheet_4 : decode cX4_addSheet 4 = .ok (.bipush 9, 2) := by decide +kernel
theorem dX4_addSheet_6 : decode cX4_addSheet 6 = .ok (.if_icmp .ge 43, 3) := by decide +kernel
theorem dX4_addSheet_9 : decode cX4_addSheet 9 = .ok (.aload_n 0, 1) := by decide +kernel
theorem dX4_addSheet_10 : decode cX4_addSheet 10 = .ok (.getfield 15, 3) := by decide +kernel
theorem dX4_addSheet_13 : decode cX4_addSheet 13 = .ok (.aload_n 0, 1) := by decide +kernel
theorem dX4_addSheet_14 : decode cX4_addSheet 14 = .ok (.getfield 9, 3) := by decide +kernel
theorem dX4_addSheet_17 : decode cX4_addSheet 17 = .ok (.iload_n 1, 1) := by decide +kernel
theorem dX4_addSheet_18 : decode cX4_addSheet 18 = .ok (.iastore, 1) := by decide +kernel
theorem dX4_addSheet_19 : decode cX4_addSheet 19 = .ok (.aload_n 0, 1) := by decide +kernel
theorem dX4_addSheet_20 : decode cX4_addSheet 20 = .ok (.getfield 19, 3) := by decide +kernel
theorem dX4_addSheet_23 : decode cX4_addSheet 23 = .ok (.aload_n 0, 1) := by decide +kernel
theorem dX4_addSheet_24 : decode cX4_addSheet 24 = .ok (.getfield 9, 3) := by decide +kernel
theorem dX4_addSheet_27 : decode cX4_addSheet 27 = .ok (.iload_n 2, 1) := by decide +kernel
theorem dX4_addSheet_28 : decode cX4_addSheet 28 = .ok (.iastore, 1) := by decide +kernel
theorem dX4_addSheet_29 : decode cX4_addSheet 29 = .ok (.aload_n 0, 1) := by decide +kernel
theorem dX4_addSheet_30 : decode cX4_addSheet 30 = .ok (.getfield 22, 3) := by decide +kernel
theorem dX4_addSheet_33 : decode cX4_addSheet 33 = .ok (.aload_n 0, 1) := by decide +kernel
theorem dX4_addSheet_34 : decode cX4_addSheet 34 = .ok (.getfield 9, 3) := by decide +kernel
theorem dX4_addSheet_37 : decode cX4_addSheet 37 = .ok (.iload_n 3, 1) := by decide +kernel
theorem dX4_addSheet_38 : decode cX4_addSheet 38 = .ok (.iastore, 1) := by decide +kernel
theorem dX4_addSheet_39 : decode cX4_addSheet 39 = .ok (.aload_n 0, 1) := by decide +kernel
theorem dX4_addSheet_40 : decode cX4_addSheet 40 = .ok (.dup, 1) := by decide +kernel
theorem dX4_addSheet_41 : decode cX4_addSheet 41 = .ok (.getfield 9, 3) := by decide +kernel
theorem dX4_addSheet_44 : decode cX4_addSheet 44 = .ok (.iconst 1, 1) := by decide +kernel
theorem dX4_addSheet_45 : decode cX4_addSheet 45 = .ok (.iadd, 1) := by decide +kernel
theorem dX4_addSheet_46 : decode cX4_addSheet 46 = .ok (.putfield 9, 3) := by decide +kernel
theorem dX4_addSheet_49 : decode cX4_addSheet 49 = .ok (.return_, 1) := by decide +kernel
theorem dX4_addClerk_0 : decode cX4_addClerk 0 = .ok (.aload_n 0, 1) := by decide +kernel
theorem dX4_addClerk_1 : decode cX4_addClerk 1 = .ok (.getfield 25, 3) := by decide +kernel
theorem dX4_addClerk_4 : decode cX4_addClerk 4 = .ok (.bipush 6, 2) := by decide +kernel
theorem dX4_addClerk_6 : decode cX4_addClerk 6 = .ok (.if_icmp .ge 28, 3) := by decide +kernel
theorem dX4_addClerk_9 : decode cX4_addClerk 9 = .ok (.aload_n 0, 1) := by decide +kernel
theorem dX4_addClerk_10 : decode cX4_addClerk 10 = .ok (.getfield 28, 3) := by decide +kernel
theorem dX4_addClerk_13 : decode cX4_addClerk 13 = .ok (.aload_n 0, 1) := by decide +kernel
theorem dX4_addClerk_14 : decode cX4_addClerk 14 = .ok (.getfield 25, 3) := by decide +kernel
theorem dX4_addClerk_17 : decode cX4_addClerk 17 = .ok (.iconst 0, 1) := by decide +kernel
theorem dX4_addClerk_18 : decode cX4_addClerk 18 = .ok (.iastore, 1) := by decide +kernel
theorem dX4_addClerk_19 : decode cX4_addClerk 19 = .ok (.aload_n 0, 1) := by decide +kernel
theorem dX4_addClerk_20 : decode cX4_addClerk 20 = .ok (.dup, 1) := by decide +kernel
theorem dX4_addClerk_21 : decode cX4_addClerk 21 = .ok (.getfield 25, 3) := by decide +kernel
theorem dX4_addClerk_24 : decode cX4_addClerk 24 = .ok (.iconst 1, 1) := by decide +kernel
theorem dX4_addClerk_25 : decode cX4_addClerk 25 = .ok (.iadd, 1) := by decide +kernel
theorem dX4_addClerk_26 : decode cX4_addClerk 26 = .ok (.putfield 25, 3) := by decide +kernel
theorem dX4_addClerk_29 : decode cX4_addClerk 29 = .ok (.aload_n 0, 1) := by decide +kernel
theorem dX4_addClerk_30 : decode cX4_addClerk 30 = .ok (.iload_n 1, 1) := by decide +kernel
theorem dX4_addClerk_31 : decode cX4_addClerk 31 = .ok (.invokevirtual 63, 3) := by decide +kernel
theorem dX4_addClerk_34 : decode cX4_addClerk 34 = .ok (.return_, 1) := by decide +kernel
theorem dX4_addStop_0 : decode cX4_addStop 0 = .ok (.aload_n 0, 1) := by decide +kernel
theorem dX4_addStop_1 : decode cX4_addStop 1 = .ok (.getfield 25, 3) := by decide +kernel
theorem dX4_addStop_4 : decode cX4_addStop 4 = .ok (.iconst 1, 1) := by decide +kernel
theorem dX4_addStop_5 : decode cX4_addStop 5 = .ok (.isub, 1) := by decide +kernel
theorem dX4_addStop_6 : decode cX4_addStop 6 = .ok (.istore_n 2, 1) := by decide +kernel
theorem dX4_addStop_7 : decode cX4_addStop 7 = .ok (.iload_n 2, 1) := by decide +kernel
theorem dX4_addStop_8 : decode cX4_addStop 8 = .ok (.ifCond .lt 41, 3) := by decide +kernel
theorem dX4_addStop_11 : decode cX4_addStop 11 = .ok (.aload_n 0, 1) := by decide +kernel
theorem dX4_addStop_12 : decode cX4_addStop 12 = .ok (.getfield 28, 3) := by decide +kernel
theorem dX4_addStop_15 : decode cX4_addStop 15 = .ok (.iload_n 2, 1) := by decide +kernel
theorem dX4_addStop_16 : decode cX4_addStop 16 = .ok (.iaload, 1) := by decide +kernel
theorem dX4_addStop_17 : decode cX4_addStop 17 = .ok (.bipush 6, 2) := by decide +kernel
theorem dX4_addStop_19 : decode cX4_addStop 19 = .ok (.if_icmp .ge 30, 3) := by decide +kernel
theorem dX4_addStop_22 : decode cX4_addStop 22 = .ok (.aload_n 0, 1) := by decide +kernel
theorem dX4_addStop_23 : decode cX4_addStop 23 = .ok (.getfield 31, 3) := by decide +kernel
theorem dX4_addStop_26 : decode cX4_addStop 26 = .ok (.iload_n 2, 1) := by decide +kernel
theorem dX4_addStop_27 : decode cX4_addStop 27 = .ok (.bipush 6, 2) := by decide +kernel
theorem dX4_addStop_29 : decode cX4_addStop 29 = .ok (.imul, 1) := by decide +kernel
theorem dX4_addStop_30 : decode cX4_addStop 30 = .ok (.aload_n 0, 1) := by decide +kernel
theorem dX4_addStop_31 : decode cX4_addStop 31 = .ok (.getfield 28, 3) := by decide +kernel
theorem dX4_addStop_34 : decode cX4_addStop 34 = .ok (.iload_n 2, 1) := by decide +kernel
theorem dX4_addStop_35 : decode cX4_addStop 35 = .ok (.iaload, 1) := by decide +kernel
theorem dX4_addStop_36 : decode cX4_addStop 36 = .ok (.iadd, 1) := by decide +kernel
theorem dX4_addStop_37 : decode cX4_addStop 37 = .ok (.iload_n 1, 1) := by decide +kernel
theorem dX4_addStop_38 : decode cX4_addStop 38 = .ok (.iastore, 1) := by decide +kernel
theorem dX4_addStop_39 : decode cX4_addStop 39 = .ok (.aload_n 0, 1) := by decide +kernel
theorem dX4_addStop_40 : decode cX4_addStop 40 = .ok (.getfield 28, 3) := by decide +kernel
theorem dX4_addStop_43 : decode cX4_addStop 43 = .ok (.iload_n 2, 1) := by decide +kernel
theorem dX4_addStop_44 : decode cX4_addStop 44 = .ok (.dup2, 1) := by decide +kernel
theorem dX4_addStop_45 : decode cX4_addStop 45 = .ok (.iaload, 1) := by decide +kernel
theorem dX4_addStop_46 : decode cX4_addStop 46 = .ok (.iconst 1, 1) := by decide +kernel
theorem dX4_addStop_47 : decode cX4_addStop 47 = .ok (.iadd, 1) := by decide +kernel
theorem dX4_addStop_48 : decode cX4_addStop 48 = .ok (.iastore, 1) := by decide +kernel
theorem dX4_addStop_49 : decode cX4_addStop 49 = .ok (.return_, 1) := by decide +kernel
theorem dX4_stopsOfLast_0 : decode cX4_stopsOfLast 0 = .ok (.aload_n 0, 1) := by decide +kernel
theorem dX4_stopsOfLast_1 : decode cX4_stopsOfLast 1 = .ok (.getfield 25, 3) := by decide +kernel
theorem dX4_stopsOfLast_4 : decode cX4_stopsOfLast 4 = .ok (.ifCond .le 17, 3) := by decide +kernel
theorem dX4_stopsOfLast_7 : decode cX4_stopsOfLast 7 = .ok (.aload_n 0, 1) := by decide +kernel
theorem dX4_stopsOfLast_8 : decode cX4_stopsOfLast 8 = .ok (.getfield 28, 3) := by decide +kernel
theorem dX4_stopsOfLast_11 : decode cX4_stopsOfLast 11 = .ok (.aload_n 0, 1) := by decide +kernel
theorem dX4_stopsOfLast_12 : decode cX4_stopsOfLast 12 = .ok (.getfield 25, 3) := by decide +kernel
theorem dX4_stopsOfLast_15 : decode cX4_stopsOfLast 15 = .ok (.iconst 1, 1) := by decide +kernel
theorem dX4_stopsOfLast_16 : decode cX4_stopsOfLast 16 = .ok (.isub, 1) := by decide +kernel
theorem dX4_stopsOfLast_17 : decode cX4_stopsOfLast 17 = .ok (.iaload, 1) := by decide +kernel
theorem dX4_stopsOfLast_18 : decode cX4_stopsOfLast 18 = .ok (.goto 4, 3) := by decide +kernel
theorem dX4_stopsOfLast_21 : decode cX4_stopsOfLast 21 = .ok (.iconst 0, 1) := by decide +kernel
theorem dX4_stopsOfLast_22 : decode cX4_stopsOfLast 22 = .ok (.ireturn, 1) := by decide +kernel
theorem dX4_addWord_0 : decode cX4_addWord 0 = .ok (.aload_n 0, 1) := by decide +kernel
theorem dX4_addWord_1 : decode cX4_addWord 1 = .ok (.getfield 34, 3) := by decide +kernel
theorem dX4_addWord_4 : decode cX4_addWord 4 = .ok (.bipush 12, 2) := by decide +kernel
theorem dX4_addWord_6 : decode cX4_addWord 6 = .ok (.if_icmp .ge 33, 3) := by decide +kernel
theorem dX4_addWord_9 : decode cX4_addWord 9 = .ok (.aload_n 0, 1) := by decide +kernel
theorem dX4_addWord_10 : decode cX4_addWord 10 = .ok (.getfield 37, 3) := by decide +kernel
theorem dX4_addWord_13 : decode cX4_addWord 13 = .ok (.aload_n 0, 1) := by decide +kernel
theorem dX4_addWord_14 : decode cX4_addWord 14 = .ok (.getfield 34, 3) := by decide +kernel
theorem dX4_addWord_17 : decode cX4_addWord 17 = .ok (.iload_n 1, 1) := by decide +kernel
theorem dX4_addWord_18 : decode cX4_addWord 18 = .ok (.iastore, 1) := by decide +kernel
theorem dX4_addWord_19 : decode cX4_addWord 19 = .ok (.aload_n 0, 1) := by decide +kernel
theorem dX4_addWord_20 : decode cX4_addWord 20 = .ok (.getfield 40, 3) := by decide +kernel
theorem dX4_addWord_23 : decode cX4_addWord 23 = .ok (.aload_n 0, 1) := by decide +kernel
theorem dX4_addWord_24 : decode cX4_addWord 24 = .ok (.getfield 34, 3) := by decide +kernel
theorem dX4_addWord_27 : decode cX4_addWord 27 = .ok (.iload_n 2, 1) := by decide +kernel
theorem dX4_addWord_28 : decode cX4_addWord 28 = .ok (.iastore, 1) := by decide +kernel
theorem dX4_addWord_29 : decode cX4_addWord 29 = .ok (.aload_n 0, 1) := by decide +kernel
theorem dX4_addWord_30 : decode cX4_addWord 30 = .ok (.dup, 1) := by decide +kernel
theorem dX4_addWord_31 : decode cX4_addWord 31 = .ok (.getfield 34, 3) := by decide +kernel
theorem dX4_addWord_34 : decode cX4_addWord 34 = .ok (.iconst 1, 1) := by decide +kernel
theorem dX4_addWord_35 : decode cX4_addWord 35 = .ok (.iadd, 1) := by decide +kernel
theorem dX4_addWord_36 : decode cX4_addWord 36 = .ok (.putfield 34, 3) := by decide +kernel
theorem dX4_addWord_39 : decode cX4_addWord 39 = .ok (.return_, 1) := by decide +kernel
theorem dX4_hasWord_0 : decode cX4_hasWord 0 = .ok (.iconst 0, 1) := by decide +kernel
theorem dX4_hasWord_1 : decode cX4_hasWord 1 = .ok (.istore_n 3, 1) := by decide +kernel
theorem dX4_hasWord_2 : decode cX4_hasWord 2 = .ok (.iload_n 3, 1) := by decide +kernel
theorem dX4_hasWord_3 : decode cX4_hasWord 3 = .ok (.aload_n 0, 1) := by decide +kernel
theorem dX4_hasWord_4 : decode cX4_hasWord 4 = .ok (.getfield 34, 3) := by decide +kernel
theorem dX4_hasWord_7 : decode cX4_hasWord 7 = .ok (.if_icmp .ge 31, 3) := by decide +kernel
theorem dX4_hasWord_10 : decode cX4_hasWord 10 = .ok (.aload_n 0, 1) := by decide +kernel
theorem dX4_hasWord_11 : decode cX4_hasWord 11 = .ok (.getfield 37, 3) := by decide +kernel
theorem dX4_hasWord_14 : decode cX4_hasWord 14 = .ok (.iload_n 3, 1) := by decide +kernel
theorem dX4_hasWord_15 : decode cX4_hasWord 15 = .ok (.iaload, 1) := by decide +kernel
theorem dX4_hasWord_16 : decode cX4_hasWord 16 = .ok (.iload_n 1, 1) := by decide +kernel
theorem dX4_hasWord_17 : decode cX4_hasWord 17 = .ok (.if_icmp .ne 15, 3) := by decide +kernel
theorem dX4_hasWord_20 : decode cX4_hasWord 20 = .ok (.aload_n 0, 1) := by decide +kernel
theorem dX4_hasWord_21 : decode cX4_hasWord 21 = .ok (.getfield 40, 3) := by decide +kernel
theorem dX4_hasWord_24 : decode cX4_hasWord 24 = .ok (.iload_n 3, 1) := by decide +kernel
theorem dX4_hasWord_25 : decode cX4_hasWord 25 = .ok (.iaload, 1) := by decide +kernel
theorem dX4_hasWord_26 : decode cX4_hasWord 26 = .ok (.iload_n 2, 1) := by decide +kernel
theorem dX4_hasWord_27 : decode cX4_hasWord 27 = .ok (.if_icmp .ne 5, 3) := by decide +kernel
theorem dX4_hasWord_30 : decode cX4_hasWord 30 = .ok (.iconst 1, 1) := by decide +kernel
theorem dX4_hasWord_31 : decode cX4_hasWord 31 = .ok (.ireturn, 1) := by decide +kernel
theorem dX4_hasWord_32 : decode cX4_hasWord 32 = .ok (.iinc 3 1, 3) := by decide +kernel
theorem dX4_hasWord_35 : decode cX4_hasWord 35 = .ok (.goto (-33), 3) := by decide +kernel
theorem dX4_hasWord_38 : decode cX4_hasWord 38 = .ok (.iconst 0, 1) := by decide +kernel
theorem dX4_hasWord_39 : decode cX4_hasWord 39 = .ok (.ireturn, 1) := by decide +kernel
theorem dX4_townOn_0 : decode cX4_townOn 0 = .ok (.aload_n 0, 1) := by decide +kernel
theorem dX4_townOn_1 : decode cX4_townOn 1 = .ok (.getfield 28, 3) := by decide +kernel
theorem dX4_townOn_4 : decode cX4_townOn 4 = .ok (.iload_n 1, 1) := by decide +kernel
theorem dX4_townOn_5 : decode cX4_townOn 5 = .ok (.iaload, 1) := by decide +kernel
theorem dX4_townOn_6 : decode cX4_townOn 6 = .ok (.istore_n 3, 1) := by decide +kernel
theorem dX4_townOn_7 : decode cX4_townOn 7 = .ok (.iload_n 3, 1) := by decide +kernel
theorem dX4_townOn_8 : decode cX4_townOn 8 = .ok (.ifCond .le 19, 3) := by decide +kernel
theorem dX4_townOn_11 : decode cX4_townOn 11 = .ok (.aload_n 0, 1) := by decide +kernel
theorem dX4_townOn_12 : decode cX4_townOn 12 = .ok (.getfield 31, 3) := by decide +kernel
theorem dX4_townOn_15 : decode cX4_townOn 15 = .ok (.iload_n 1, 1) := by decide +kernel
theorem dX4_townOn_16 : decode cX4_townOn 16 = .ok (.bipush 6, 2) := by decide +kernel
theorem dX4_townOn_18 : decode cX4_townOn 18 = .ok (.imul, 1) := by decide +kernel
theorem dX4_townOn_19 : decode cX4_townOn 19 = .ok (.iload_n 2, 1) := by decide +kernel
theorem dX4_townOn_20 : decode cX4_townOn 20 = .ok (.iload_n 3, 1) := by decide +kernel
theorem dX4_townOn_21 : decode cX4_townOn 21 = .ok (.irem, 1) := by decide +kernel
theorem dX4_townOn_22 : decode cX4_townOn 22 = .ok (.iadd, 1) := by decide +kernel
theorem dX4_townOn_23 : decode cX4_townOn 23 = .ok (.iaload, 1) := by decide +kernel
theorem dX4_townOn_24 : decode cX4_townOn 24 = .ok (.goto 4, 3) := by decide +kernel
theorem dX4_townOn_27 : decode cX4_townOn 27 = .ok (.iconst 0, 1) := by decide +kernel
theorem dX4_townOn_28 : decode cX4_townOn 28 = .ok (.ireturn, 1) := by decide +kernel
theorem dX4_largestCompany_0 : decode cX4_largestCompany 0 = .ok (.iconst 0, 1) := by decide +kernel
theorem dX4_largestCompany_1 : decode cX4_largestCompany 1 = .ok (.istore_n 2, 1) := by decide +kernel
theorem dX4_largestCompany_2 : decode cX4_largestCompany 2 = .ok (.iconst 0, 1) := by decide +kernel
theorem dX4_largestCompany_3 : decode cX4_largestCompany 3 = .ok (.istore_n 3, 1) := by decide +kernel
theorem dX4_largestCompany_4 : decode cX4_largestCompany 4 = .ok (.iload_n 3, 1) := by decide +kernel
theorem dX4_largestCompany_5 : decode cX4_largestCompany 5 = .ok (.iconst 4, 1) := by decide +kernel
theorem dX4_largestCompany_6 : decode cX4_largestCompany 6 = .ok (.if_icmp .ge 51, 3) := by decide +kernel
theorem dX4_largestCompany_9 : decode cX4_largestCompany 9 = .ok (.iconst 0, 1) := by decide +kernel
theorem dX4_largestCompany_10 : decode cX4_largestCompany 10 = .ok (.istore 4, 2) := by decide +kernel
theorem dX4_largestCompany_12 : decode cX4_largestCompany 12 = .ok (.iconst 0, 1) := by decide +kernel
theorem dX4_largestCompany_13 : decode cX4_largestCompany 13 = .ok (.istore 5, 2) := by decide +kernel
theorem dX4_largestCompany_15 : decode cX4_largestCompany 15 = .ok (.iload 5, 2) := by decide +kernel
theorem dX4_largestCompany_17 : decode cX4_largestCompany 17 = .ok (.aload_n 0, 1) := by decide +kernel
theorem dX4_largestCompany_18 : decode cX4_largestCompany 18 = .ok (.getfield 25, 3) := by decide +kernel
theorem dX4_largestCompany_21 : decode cX4_largestCompany 21 = .ok (.if_icmp .ge 23, 3) := by decide +kernel
theorem dX4_largestCompany_24 : decode cX4_largestCompany 24 = .ok (.aload_n 0, 1) := by decide +kernel
theorem dX4_largestCompany_25 : decode cX4_largestCompany 25 = .ok (.iload 5, 2) := by decide +kernel
theorem dX4_largestCompany_27 : decode cX4_largestCompany 27 = .ok (.iload_n 1, 1) := by decide +kernel
theorem dX4_largestCompany_28 : decode cX4_largestCompany 28 = .ok (.invokevirtual 67, 3) := by decide +kernel
theorem dX4_largestCompany_31 : decode cX4_largestCompany 31 = .ok (.iload_n 3, 1) := by decide +kernel
theorem dX4_largestCompany_32 : decode cX4_largestCompany 32 = .ok (.if_icmp .ne 6, 3) := by decide +kernel
theorem dX4_largestCompany_35 : decode cX4_largestCompany 35 = .ok (.iinc 4 1, 3) := by decide +kernel
theorem dX4_largestCompany_38 : decode cX4_largestCompany 38 = .ok (.iinc 5 1, 3) := by decide +kernel
theorem dX4_largestCompany_41 : decode cX4_largestCompany 41 = .ok (.goto (-26), 3) := by decide +kernel
theorem dX4_largestCompany_44 : decode cX4_largestCompany 44 = .ok (.iload_n 2, 1) := by decide +kernel
theorem dX4_largestCompany_45 : decode cX4_largestCompany 45 = .ok (.iload 4, 2) := by decide +kernel
theorem dX4_largestCompany_47 : decode cX4_largestCompany 47 = .ok (.invokestatic 71, 3) := by decide +kernel
theorem dX4_largestCompany_50 : decode cX4_largestCompany 50 = .ok (.istore_n 2, 1) := by decide +kernel
theorem dX4_largestCompany_51 : decode cX4_largestCompany 51 = .ok (.iinc 3 1, 3) := by decide +kernel
theorem dX4_largestCompany_54 : decode cX4_largestCompany 54 = .ok (.goto (-50), 3) := by decide +kernel
theorem dX4_largestCompany_57 : decode cX4_largestCompany 57 = .ok (.iload_n 2, 1) := by decide +kernel
theorem dX4_largestCompany_58 : decode cX4_largestCompany 58 = .ok (.ireturn, 1) := by decide +kernel
theorem dX5_init_0 : decode cX5_init 0 = .ok (.aload_n 0, 1) := by decide +kernel
theorem dX5_init_1 : decode cX5_init 1 = .ok (.invokespecial 3, 3) := by decide +kernel
theorem dX5_init_4 : decode cX5_init 4 = .ok (.aload_n 0, 1) := by decide +kernel
theorem dX5_init_5 : decode cX5_init 5 = .ok (.iconst 0, 1) := by decide +kernel
theorem dX5_init_6 : decode cX5_init 6 = .ok (.putfield 9, 3) := by decide +kernel
theorem dX5_init_9 : decode cX5_init 9 = .ok (.aload_n 0, 1) := by decide +kernel
theorem dX5_init_10 : decode cX5_init 10 = .ok (.iconst (-1), 1) := by decide +kernel
theorem dX5_init_11 : decode cX5_init 11 = .ok (.putfield 15, 3) := by decide +kernel
theorem dX5_init_14 : decode cX5_init 14 = .ok (.aload_n 0, 1) := by decide +kernel
theorem dX5_init_15 : decode cX5_init 15 = .ok (.iconst 0, 1) := by decide +kernel
theorem dX5_init_16 : decode cX5_init 16 = .ok (.putfield 18, 3) := by decide +kernel
theorem dX5_init_19 : decode cX5_init 19 = .ok (.aload_n 0, 1) := by decide +kernel
theorem dX5_init_20 : decode cX5_init 20 = .ok (.iconst 1, 1) := by decide +kernel
theorem dX5_init_21 : decode cX5_init 21 = .ok (.putfield 21, 3) := by decide +kernel
theorem dX5_init_24 : decode cX5_init 24 = .ok (.aload_n 0, 1) := by decide +kernel
theorem dX5_init_25 : decode cX5_init 25 = .ok (.iconst 0, 1) := by decide +kernel
theorem dX5_init_26 : decode cX5_init 26 = .ok (.putfield 25, 3) := by decide +kernel
theorem dX5_init_29 : decode cX5_init 29 = .ok (.aload_n 0, 1) := by decide +kernel
theorem dX5_init_30 : decode cX5_init 30 = .ok (.iconst 0, 1) := by decide +kernel
theorem dX5_init_31 : decode cX5_init 31 = .ok (.putfield 28, 3) := by decide +kernel
theorem dX5_init_34 : decode cX5_init 34 = .ok (.aload_n 0, 1) := by decide +kernel
theorem dX5_init_35 : decode cX5_init 35 = .ok (.iconst 0, 1) := by decide +kernel
theorem dX5_init_36 : decode cX5_init 36 = .ok (.putfield 31, 3) := by decide +kernel
theorem dX5_init_39 : decode cX5_init 39 = .ok (.aload_n 0, 1) := by decide +kernel
theorem dX5_init_40 : decode cX5_init 40 = .ok (.iconst 0, 1) := by decide +kernel
theorem dX5_init_41 : decode cX5_init 41 = .ok (.putfield 34, 3) := by decide +kernel
theorem dX5_init_44 : decode cX5_init 44 = .ok (.aload_n 0, 1) := by decide +kernel
theorem dX5_init_45 : decode cX5_init 45 = .ok (.aload_n 1, 1) := by decide +kernel
theorem dX5_init_46 : decode cX5_init 46 = .ok (.putfield 37, 3) := by decide +kernel
theorem dX5_init_49 : decode cX5_init 49 = .ok (.aload_n 0, 1) := by decide +kernel
theorem dX5_init_50 : decode cX5_init 50 = .ok (.aload_n 2, 1) := by decide +kernel
theorem dX5_init_51 : decode cX5_init 51 = .ok (.putfield 41, 3) := by decide +kernel
theorem dX5_init_54 : decode cX5_init 54 = .ok (.aload_n 0, 1) := by decide +kernel
theorem dX5_init_55 : decode cX5_init 55 = .ok (.aload_n 2, 1) := by decide +kernel
theorem dX5_init_56 : decode cX5_init 56 = .ok (.getfield 45, 3) := by decide +kernel
theorem dX5_init_59 : decode cX5_init 59 = .ok (.putfield 51, 3) := by decide +kernel
theorem dX5_init_62 : decode cX5_init 62 = .ok (.return_, 1) := by decide +kernel
theorem dX5_begin_0 : decode cX5_begin 0 = .ok (.aload_n 0, 1) := by decide +kernel
theorem dX5_begin_1 : decode cX5_begin 1 = .ok (.iconst 0, 1) := by decide +kernel
theorem dX5_begin_2 : decode cX5_begin 2 = .ok (.iload_n 1, 1) := by decide +kernel
theorem dX5_begin_3 : decode cX5_begin 3 = .ok (.aload_n 0, 1) := by decide +kernel
theorem dX5_begin_4 : decode cX5_begin 4 = .ok (.getfield 37, 3) := by decide +kernel
theorem dX5_begin_7 : decode cX5_begin 7 = .ok (.arraylength, 1) := by decide +kernel
theorem dX5_begin_8 : decode cX5_begin 8 = .ok (.invokestatic 54, 3) := by decide +kernel
theorem dX5_begin_11 : decode cX5_begin 11 = .ok (.invokestatic 60, 3) := by decide +kernel
theorem dX5_begin_14 : decode cX5_begin 14 = .ok (.putfield 18, 3) := by decide +kernel
theorem dX5_begin_17 : decode cX5_begin 17 = .ok (.aload_n 0, 1) := by decide +kernel
theorem dX5_begin_18 : decode cX5_begin 18 = .ok (.aload_n 2, 1) := by decide +kernel
theorem dX5_begin_19 : decode cX5_begin 19 = .ok (.putfield 41, 3) := by decide +kernel
theorem dX5_begin_22 : decode cX5_begin 22 = .ok (.aload_n 0, 1) := by decide +kernel
theorem dX5_begin_23 : decode cX5_begin 23 = .ok (.getfield 41, 3) := by decide +kernel
theorem dX5_begin_26 : decode cX5_begin 26 = .ok (.invokevirtual 63, 3) := by decide +kernel
theorem dX5_begin_29 : decode cX5_begin 29 = .ok (.aload_n 0, 1) := by decide +kernel
theorem dX5_begin_30 : decode cX5_begin 30 = .ok (.iconst 0, 1) := by decide +kernel
theorem dX5_begin_31 : decode cX5_begin 31 = .ok (.putfield 9, 3) := by decide +kernel
theorem dX5_begin_34 : decode cX5_begin 34 = .ok (.aload_n 0, 1) := by decide +kernel
theorem dX5_begin_35 : decode cX5_begin 35 = .ok (.iconst (-1), 1) := by decide +kernel
theorem dX5_begin_36 : decode cX5_begin 36 = .ok (.putfield 15, 3) := by decide +kernel
theorem dX5_begin_39 : decode cX5_begin 39 = .ok (.aload_n 0, 1) := by decide +kernel
theorem dX5_begin_40 : decode cX5_begin 40 = .ok (.iconst 0, 1) := by decide +kernel
theorem dX5_begin_41 : decode cX5_begin 41 = .ok (.putfield 31, 3) := by decide +kernel
theorem dX5_begin_44 : decode cX5_begin 44 = .ok (.aload_n 0, 1) := by decide +kernel
theorem dX5_begin_45 : decode cX5_begin 45 = .ok (.invokevirtual 66, 3) := by decide +kernel
theorem dX5_begin_48 : decode cX5_begin 48 = .ok (.return_, 1) := by decide +kernel
theorem dX5_hasMore_0 : decode cX5_hasMore 0 = .ok (.aload_n 0, 1) := by decide +kernel
theorem dX5_hasMore_1 : decode cX5_hasMore 1 = .ok (.getfield 25, 3) := by decide +kernel
theorem dX5_hasMore_4 : decode cX5_hasMore 4 = .ok (.ifCond .eq 7, 3) := by decide +kernel
theorem dX5_hasMore_7 : decode cX5_hasMore 7 = .ok (.iconst 1, 1) := by decide +kernel
theorem dX5_hasMore_8 : decode cX5_hasMore 8 = .ok (.goto 4, 3) := by decide +kernel
theorem dX5_hasMore_11 : decode cX5_hasMore 11 = .ok (.iconst 0, 1) := by decide +kernel
theorem dX5_hasMore_12 : decode cX5_hasMore 12 = .ok (.ireturn, 1) := by decide +kernel
theorem dX5_advance_0 : decode cX5_advance 0 = .ok (.aload_n 0, 1) := by decide +kernel
theorem dX5_advance_1 : decode cX5_advance 1 = .ok (.getfield 31, 3) := by decide +kernel
theorem dX5_advance_4 : decode cX5_advance 4 = .ok (.aload_n 0, 1) := by decide +kernel
theorem dX5_advance_5 : decode cX5_advance 5 = .ok (.getfield 18, 3) := by decide +kernel
theorem dX5_advance_8 : decode cX5_advance 8 = .ok (.if_icmp .ge 44, 3) := by decide +kernel
theorem dX5_advance_11 : decode cX5_advance 11 = .ok (.aload_n 0, 1) := by decide +kernel
theorem dX5_advance_12 : decode cX5_advance 12 = .ok (.getfield 37, 3) := by decide +kernel
theorem dX5_advance_15 : decode cX5_advance 15 = .ok (.aload_n 0, 1) := by decide +kernel
theorem dX5_advance_16 : decode cX5_advance 16 = .ok (.getfield 31, 3) := by decide +kernel
theorem dX5_advance_19 : decode cX5_advance 19 = .ok (.baload, 1) := by decide +kernel
theorem dX5_advance_20 : decode cX5_advance 20 = .ok (.bipush 32, 2) := by decide +kernel
theorem dX5_advance_22 : decode cX5_advance 22 = .ok (.if_icmp .eq 17, 3) := by decide +kernel
theorem dX5_advance_25 : decode cX5_advance 25 = .ok (.aload_n 0, 1) := by decide +kernel
theorem dX5_advance_26 : decode cX5_advance 26 = .ok (.getfield 37, 3) := by decide +kernel
theorem dX5_advance_29 : decode cX5_advance 29 = .ok (.aload_n 0, 1) := by decide +kernel
theorem dX5_advance_30 : decode cX5_advance 30 = .ok (.getfield 31, 3) := by decide +kernel
theorem dX5_advance_33 : decode cX5_advance 33 = .ok (.baload, 1) := by decide +kernel
theorem dX5_advance_34 : decode cX5_advance 34 = .ok (.bipush 10, 2) := by decide +kernel
theorem dX5_advance_36 : decode cX5_advance 36 = .ok (.if_icmp .ne 16, 3) := by decide +kernel
theorem dX5_advance_39 : decode cX5_advance 39 = .ok (.aload_n 0, 1) := by decide +kernel
theorem dX5_advance_40 : decode cX5_advance 40 = .ok (.dup, 1) := by decide +kernel
theorem dX5_advance_41 : decode cX5_advance 41 = .ok (.getfield 31, 3) := by decide +kernel
theorem dX5_advance_44 : decode cX5_advance 44 = .ok (.iconst 1, 1) := by decide +kernel
theorem dX5_advance_45 : decode cX5_advance 45 = .ok (.iadd, 1) := by decide +kernel
theorem dX5_advance_46 : decode cX5_advance 46 = .ok (.putfield 31, 3) := by decide +kernel
theorem dX5_advance_49 : decode cX5_advance 49 = .ok (.goto (-49), 3) := by decide +kernel
theorem dX5_advance_52 : decode cX5_advance 52 = .ok (.aload_n 0, 1) := by decide +kernel
theorem dX5_advance_53 : decode cX5_advance 53 = .ok (.aload_n 0, 1) := by decide +kernel
theorem dX5_advance_54 : decode cX5_advance 54 = .ok (.getfield 31, 3) := by decide +kernel
theorem dX5_advance_57 : decode cX5_advance 57 = .ok (.putfield 28, 3) := by decide +kernel
theorem dX5_advance_60 : decode cX5_advance 60 = .ok (.aload_n 0, 1) := by decide +kernel
theorem dX5_advance_61 : decode cX5_advance 61 = .ok (.getfield 28, 3) := by decide +kernel
theorem dX5_advance_64 : decode cX5_advance 64 = .ok (.aload_n 0, 1) := by decide +kernel
theorem dX5_advance_65 : decode cX5_advance 65 = .ok (.getfield 18, 3) := by decide +kernel
theorem dX5_advance_68 : decode cX5_advance 68 = .ok (.if_icmp .lt 9, 3) := by decide +kernel
theorem dX5_advance_71 : decode cX5_advance 71 = .ok (.aload_n 0, 1) := by decide +kernel
theorem dX5_advance_72 : decode cX5_advance 72 = .ok (.iconst 0, 1) := by decide +kernel
theorem dX5_advance_73 : decode cX5_advance 73 = .ok (.putfield 25, 3) := by decide +kernel
theorem dX5_advance_76 : decode cX5_advance 76 = .ok (.return_, 1) := by decide +kernel
theorem dX5_advance_77 : decode cX5_advance 77 = .ok (.aload_n 0, 1) := by decide +kernel
theorem dX5_advance_78 : decode cX5_advance 78 = .ok (.aload_n 0, 1) := by decide +kernel
theorem dX5_advance_79 : decode cX5_advance 79 = .ok (.getfield 37, 3) := by decide +kernel
theorem dX5_advance_82 : decode cX5_advance 82 = .ok (.aload_n 0, 1) := by decide +kernel
theorem dX5_advance_83 : decode cX5_advance 83 = .ok (.getfield 28, 3) := by decide +kernel
theorem dX5_advance_86 : decode cX5_advance 86 = .ok (.baload, 1) := by decide +kernel
theorem dX5_advance_87 : decode cX5_advance 87 = .ok (.invokestatic 69, 3) := by decide +kernel
theorem dX5_advance_90 : decode cX5_advance 90 = .ok (.putfield 25, 3) := by decide +kernel
theorem dX5_advance_93 : decode cX5_advance 93 = .ok (.aload_n 0, 1) := by decide +kernel
theorem dX5_advance_94 : decode cX5_advance 94 = .ok (.dup, 1) := by decide +kernel
theorem dX5_advance_95 : decode cX5_advance 95 = .ok (.getfield 31, 3) := by decide +kernel
theorem dX5_advance_98 : decode cX5_advance 98 = .ok (.iconst 1, 1) := by decide +kernel
theorem dX5_advance_99 : decode cX5_advance 99 = .ok (.iadd, 1) := by decide +kernel
theorem dX5_advance_100 : decode cX5_advance 100 = .ok (.putfield 31, 3) := by decide +kernel
theorem dX5_advance_103 : decode cX5_advance 103 = .ok (.aload_n 0, 1) := by decide +kernel
theorem dX5_advance_104 : decode cX5_advance 104 = .ok (.getfield 25, 3) := by decide +kernel
theorem dX5_advance_107 : decode cX5_advance 107 = .ok (.iconst 1, 1) := by decide +kernel
theorem dX5_advance_108 : decode cX5_advance 108 = .ok (.if_icmp .eq 11, 3) := by decide +kernel
theorem dX5_advance_111 : decode cX5_advance 111 = .ok (.aload_n 0, 1) := by decide +kernel
theorem dX5_advance_112 : decode cX5_advance 112 = .ok (.getfield 25, 3) := by decide +kernel
theorem dX5_advance_115 : decode cX5_advance 115 = .ok (.iconst 2, 1) := by decide +kernel
theorem dX5_advance_116 : decode cX5_advance 116 = .ok (.if_icmp .ne 46, 3) := by decide +kernel
theorem dX5_advance_119 : decode cX5_advance 119 = .ok (.aload_n 0, 1) := by decide +kernel
theorem dX5_advance_120 : decode cX5_advance 120 = .ok (.getfield 31, 3) := by decide +kernel
theorem dX5_advance_123 : decode cX5_advance 123 = .ok (.aload_n 0, 1) := by decide +kernel
theorem dX5_advance_124 : decode cX5_advance 124 = .ok (.getfield 18, 3) := by decide +kernel
theorem dX5_advance_127 : decode cX5_advance 127 = .ok (.if_icmp .ge 35, 3) := by decide +kernel
theorem dX5_advance_130 : decode cX5_advance 130 = .ok (.aload_n 0, 1) := by decide +kernel
theorem dX5_advance_131 : decode cX5_advance 131 = .ok (.getfield 37, 3) := by decide +kernel
theorem dX5_advance_134 : decode cX5_advance 134 = .ok (.aload_n 0, 1) := by decide +kernel
theorem dX5_advance_135 : decode cX5_advance 135 = .ok (.getfield 31, 3) := by decide +kernel
theorem dX5_advance_138 : decode cX5_advance 138 = .ok (.baload, 1) := by decide +kernel
theorem dX5_advance_139 : decode cX5_advance 139 = .ok (.invokestatic 69, 3) := by decide +kernel
theorem dX5_advance_142 : decode cX5_advance 142 = .ok (.aload_n 0, 1) := by decide +kernel
theorem dX5_advance_143 : decode cX5_advance 143 = .ok (.getfield 25, 3) := by decide +kernel
theorem dX5_advance_146 : decode cX5_advance 146 = .ok (.if_icmp .ne 16, 3) := by decide +kernel
theorem dX5_advance_149 : decode cX5_advance 149 = .ok (.aload_n 0, 1) := by decide +kernel
theorem dX5_advance_150 : decode cX5_advance 150 = .ok (.dup, 1) := by decide +kernel
theorem dX5_advance_151 : decode cX5_advance 151 = .ok (.getfield 31, 3) := by decide +kernel
theorem dX5_advance_154 : decode cX5_advance 154 = .ok (.iconst 1, 1) := by decide +kernel
theorem dX5_advance_155 : decode cX5_advance 155 = .ok (.iadd, 1) := by decide +kernel
theorem dX5_advance_156 : decode cX5_advance 156 = .ok (.putfield 31, 3) := by decide +kernel
theorem dX5_advance_159 : decode cX5_advance 159 = .ok (.goto (-56), 3) := by decide +kernel
theorem dX5_advance_162 : decode cX5_advance 162 = .ok (.aload_n 0, 1) := by decide +kernel
theorem dX5_advance_163 : decode cX5_advance 163 = .ok (.getfield 25, 3) := by decide +kernel
theorem dX5_advance_166 : decode cX5_advance 166 = .ok (.iconst 2, 1) := by decide +kernel
theorem dX5_advance_167 : decode cX5_advance 167 = .ok (.if_icmp .ne 11, 3) := by decide +kernel
theorem dX5_advance_170 : decode cX5_advance 170 = .ok (.aload_n 0, 1) := by decide +kernel
theorem dX5_advance_171 : decode cX5_advance 171 = .ok (.aload_n 0, 1) := by decide +kernel
theorem dX5_advance_172 : decode cX5_advance 172 = .ok (.invokevirtual 73, 3) := by decide +kernel
theorem dX5_advance_175 : decode cX5_advance 175 = .ok (.putfield 34, 3) := by decide +kernel
theorem dX5_advance_178 : decode cX5_advance 178 = .ok (.return_, 1) := by decide +kernel
theorem dX5_kindOf_0 : decode cX5_kindOf 0 = .ok (.iload_n 0, 1) := by decide +kernel
theorem dX5_kindOf_1 : decode cX5_kindOf 1 = .ok (.bipush 97, 2) := by decide +kernel
theorem dX5_kindOf_3 : decode cX5_kindOf 3 = .ok (.if_icmp .lt 11, 3) := by decide +kernel
theorem dX5_kindOf_6 : decode cX5_kindOf 6 = .ok (.iload_n 0, 1) := by decide +kernel
theorem dX5_kindOf_7 : decode cX5_kindOf 7 = .ok (.bipush 122, 2) := by decide +kernel
theorem dX5_kindOf_9 : decode cX5_kindOf 9 = .ok (.if_icmp .gt 5, 3) := by decide +kernel
theorem dX5_kindOf_12 : decode cX5_kindOf 12 = .ok (.iconst 1, 1) := by decide +kernel
theorem dX5_kindOf_13 : decode cX5_kindOf 13 = .ok (.ireturn, 1) := by decide +kernel
theorem dX5_kindOf_14 : decode cX5_kindOf 14 = .ok (.iload_n 0, 1) := by decide +kernel
theorem dX5_kindOf_15 : decode cX5_kindOf 15 = .ok (.bipush 48, 2) := by decide +kernel
theorem dX5_kindOf_17 : decode cX5_kindOf 17 = .ok (.if_icmp .lt 11, 3) := by decide +kernel
theorem dX5_kindOf_20 : decode cX5_kindOf 20 = .ok (.iload_n 0, 1) := by decide +kernel
theorem dX5_kindOf_21 : decode cX5_kindOf 21 = .ok (.bipush 57, 2) := by decide +kernel
theorem dX5_kindOf_23 : decode cX5_kindOf 23 = .ok (.if_icmp .gt 5, 3) := by decide +kernel
theorem dX5_kindOf_26 : decode cX5_kindOf 26 = .ok (.iconst 2, 1) := by decide +kernel
theorem dX5_kindOf_27 : decode cX5_kindOf 27 = .ok (.ireturn, 1) := by decide +kernel
theorem dX5_kindOf_28 : decode cX5_kindOf 28 = .ok (.iload_n 0, 1) := by decide +kernel
theorem dX5_kindOf_29 : decode cX5_kindOf 29 = .ok (.tableswitch 105 40 61 #[103, 103, 103, 103, 105, 103, 105, 103, 105, 105, 105, 105, 105, 105, 105, 105, 105, 105, 105, 103, 103, 103], 103) := by decide +kernel
theorem dX5_kindOf_132 : decode cX5_kindOf 132 = .ok (.iconst 3, 1) := by decide +kernel
theorem dX5_kindOf_133 : decode cX5_kindOf 133 = .ok (.ireturn, 1) := by decide +kernel
theorem dX5_kindOf_134 : decode cX5_kindOf 134 = .ok (.iconst 4, 1) := by decide +kernel
theorem dX5_kindOf_135 : decode cX5_kindOf 135 = .ok (.ireturn, 1) := by decide +kernel
theorem dX5_numberThere_0 : decode cX5_numberThere 0 = .ok (.aload_n 0, 1) := by decide +kernel
theorem dX5_numberThere_1 : decode cX5_numberThere 1 = .ok (.getfield 31, 3) := by decide +kernel
theorem dX5_numberThere_4 : decode cX5_numberThere 4 = .ok (.aload_n 0, 1) := by decide +kernel
theorem dX5_numberThere_5 : decode cX5_numberThere 5 = .ok (.getfield 28, 3) := by decide +kernel
theorem dX5_numberThere_8 : decode cX5_numberThere 8 = .ok (.isub, 1) := by decide +kernel
theorem dX5_numberThere_9 : decode cX5_numberThere 9 = .ok (.iconst 4, 1) := by decide +kernel
theorem dX5_numberThere_10 : decode cX5_numberThere 10 = .ok (.if_icmp .le 7, 3) := by decide +kernel
theorem dX5_numberThere_13 : decode cX5_numberThere 13 = .ok (.sipush 10000, 3) := by decide +kernel
theorem dX5_numberThere_16 : decode cX5_numberThere 16 = .ok (.ireturn, 1) := by decide +kernel
theorem dX5_numberThere_17 : decode cX5_numberThere 17 = .ok (.iconst 0, 1) := by decide +kernel
theorem dX5_numberThere_18 : decode cX5_numberThere 18 = .ok (.istore_n 1, 1) := by decide +kernel
theorem dX5_numberThere_19 : decode cX5_numberThere 19 = .ok (.aload_n 0, 1) := by decide +kernel
theorem dX5_numberThere_20 : decode cX5_numberThere 20 = .ok (.getfield 28, 3) := by decide +kernel
theorem dX5_numberThere_23 : decode cX5_numberThere 23 = .ok (.istore_n 2, 1) := by decide +kernel
theorem dX5_numberThere_24 : decode cX5_numberThere 24 = .ok (.iload_n 2, 1) := by decide +kernel
theorem dX5_numberThere_25 : decode cX5_numberThere 25 = .ok (.aload_n 0, 1) := by decide +kernel
theorem dX5_numberThere_26 : decode cX5_numberThere 26 = .ok (.getfield 31, 3) := by decide +kernel
theorem dX5_numberThere_29 : decode cX5_numberThere 29 = .ok (.if_icmp .ge 24, 3) := by decide +kernel
theorem dX5_numberThere_32 : decode cX5_numberThere 32 = .ok (.iload_n 1, 1) := by decide +kernel
theorem dX5_numberThere_33 : decode cX5_numberThere 33 = .ok (.bipush 10, 2) := by decide +kernel
theorem dX5_numberThere_35 : decode cX5_numberThere 35 = .ok (.imul, 1) := by decide +kernel
theorem dX5_numberThere_36 : decode cX5_numberThere 36 = .ok (.aload_n 0, 1) := by decide +kernel
theorem dX5_numberThere_37 : decode cX5_numberThere 37 = .ok (.getfield 37, 3) := by decide +kernel
theorem dX5_numberThere_40 : decode cX5_numberThere 40 = .ok (.iload_n 2, 1) := by decide +kernel
theorem dX5_numberThere_41 : decode cX5_numberThere 41 = .ok (.baload, 1) := by decide +kernel
theorem dX5_numberThere_42 : decode cX5_numberThere 42 = .ok (.iadd, 1) := by decide +kernel
theorem dX5_numberThere_43 : decode cX5_numberThere 43 = .ok (.bipush 48, 2) := by decide +kernel
theorem dX5_numberThere_45 : decode cX5_numberThere 45 = .ok (.isub, 1) := by decide +kernel
theorem dX5_numberThere_46 : decode cX5_numberThere 46 = .ok (.istore_n 1, 1) := by decide +kernel
theorem dX5_numberThere_47 : decode cX5_numberThere 47 = .ok (.iinc 2 1, 3) := by decide +kernel
theorem dX5_numberThere_50 : decode cX5_numberThere 50 = .ok (.goto (-26), 3) := by decide +kernel
theorem dX5_numberThere_53 : decode cX5_numberThere 53 = .ok (.iload_n 1, 1) := by decide +kernel
theorem dX5_numberThere_54 : decode cX5_numberThere 54 = .ok (.ireturn, 1) := by decide +kernel
theorem dX5_stands_0 : decode cX5_stands 0 = .ok (.aload_n 0, 1) := by decide +kernel
theorem dX5_stands_1 : decode cX5_stands 1 = .ok (.getfield 25, 3) := by decide +kernel
theorem dX5_stands_4 : decode cX5_stands 4 = .ok (.iconst 3, 1) := by decide +kernel
theorem dX5_stands_5 : decode cX5_stands 5 = .ok (.if_icmp .ne 20, 3) := by decide +kernel
theorem dX5_stands_8 : decode cX5_stands 8 = .ok (.aload_n 0, 1) := by decide +kernel
theorem dX5_stands_9 : decode cX5_stands 9 = .ok (.getfield 37, 3) := by decide +kernel
theorem dX5_stands_12 : decode cX5_stands 12 = .ok (.aload_n 0, 1) := by decide +kernel
theorem dX5_stands_13 : decode cX5_stands 13 = .ok (.getfield 28, 3) := by decide +kernel
theorem dX5_stands_16 : decode cX5_stands 16 = .ok (.baload, 1) := by decide +kernel
theorem dX5_stands_17 : decode cX5_stands 17 = .ok (.iload_n 1, 1) := by decide +kernel
theorem dX5_stands_18 : decode cX5_stands 18 = .ok (.if_icmp .ne 7, 3) := by decide +kernel
theorem dX5_stands_21 : decode cX5_stands 21 = .ok (.iconst 1, 1) := by decide +kernel
theorem dX5_stands_22 : decode cX5_stands 22 = .ok (.goto 4, 3) := by decide +kernel
theorem dX5_stands_25 : decode cX5_stands 25 = .ok (.iconst 0, 1) := by decide +kernel
theorem dX5_stands_26 : decode cX5_stands 26 = .ok (.ireturn, 1) := by decide +kernel
theorem dX5_spells_0 : decode cX5_spells 0 = .ok (.aload_n 0, 1) := by decide +kernel
theorem dX5_spells_1 : decode cX5_spells 1 = .ok (.getfield 25, 3) := by decide +kernel
theorem dX5_spells_4 : decode cX5_spells 4 = .ok (.iconst 1, 1) := by decide +kernel
theorem dX5_spells_5 : decode cX5_spells 5 = .ok (.if_icmp .ne 19, 3) := by decide +kernel
theorem dX5_spells_8 : decode cX5_spells 8 = .ok (.aload_n 0, 1) := by decide +kernel
theorem dX5_spells_9 : decode cX5_spells 9 = .ok (.getfield 31, 3) := by decide +kernel
theorem dX5_spells_12 : decode cX5_spells 12 = .ok (.aload_n 0, 1) := by decide +kernel
theorem dX5_spells_13 : decode cX5_spells 13 = .ok (.getfield 28, 3) := by decide +kernel
theorem dX5_spells_16 : decode cX5_spells 16 = .ok (.isub, 1) := by decide +kernel
theorem dX5_spells_17 : decode cX5_spells 17 = .ok (.aload_n 1, 1) := by decide +kernel
theorem dX5_spells_18 : decode cX5_spells 18 = .ok (.invokevirtual 77, 3) := by decide +kernel
theorem dX5_spells_21 : decode cX5_spells 21 = .ok (.if_icmp .eq 5, 3) := by decide +kernel
theorem dX5_spells_24 : decode cX5_spells 24 = .ok (.iconst 0, 1) := by decide +kernel
theorem dX5_spells_25 : decode cX5_spells 25 = .ok (.ireturn, 1) := by decide +kernel
theorem dX5_spells_26 : decode cX5_spells 26 = .ok (.iconst 0, 1) := by decide +kernel
theorem dX5_spells_27 : decode cX5_spells 27 = .ok (.istore_n 2, 1) := by decide +kernel
theorem dX5_spells_28 : decode cX5_spells 28 = .ok (.iload_n 2, 1) := by decide +kernel
theorem dX5_spells_29 : decode cX5_spells 29 = .ok (.aload_n 1, 1) := by decide +kernel
theorem dX5_spells_30 : decode cX5_spells 30 = .ok (.invokevirtual 77, 3) := by decide +kernel
theorem dX5_spells_33 : decode cX5_spells 33 = .ok (.if_icmp .ge 30, 3) := by decide +kernel
theorem dX5_spells_36 : decode cX5_spells 36 = .ok (.aload_n 0, 1) := by decide +kernel
theorem dX5_spells_37 : decode cX5_spells 37 = .ok (.getfield 37, 3) := by decide +kernel
theorem dX5_spells_40 : decode cX5_spells 40 = .ok (.aload_n 0, 1) := by decide +kernel
theorem dX5_spells_41 : decode cX5_spells 41 = .ok (.getfield 28, 3) := by decide +kernel
theorem dX5_spells_44 : decode cX5_spells 44 = .ok (.iload_n 2, 1) := by decide +kernel
theorem dX5_spells_45 : decode cX5_spells 45 = .ok (.iadd, 1) := by decide +kernel
theorem dX5_spells_46 : decode cX5_spells 46 = .ok (.baload, 1) := by decide +kernel
theorem dX5_spells_47 : decode cX5_spells 47 = .ok (.aload_n 1, 1) := by decide +kernel
theorem dX5_spells_48 : decode cX5_spells 48 = .ok (.iload_n 2, 1) := by decide +kernel
theorem dX5_spells_49 : decode cX5_spells 49 = .ok (.invokevirtual 81, 3) := by decide +kernel
theorem dX5_spells_52 : decode cX5_spells 52 = .ok (.if_icmp .eq 5, 3) := by decide +kernel
theorem dX5_spells_55 : decode cX5_spells 55 = .ok (.iconst 0, 1) := by decide +kernel
theorem dX5_spells_56 : decode cX5_spells 56 = .ok (.ireturn, 1) := by decide +kernel
theorem dX5_spells_57 : decode cX5_spells 57 = .ok (.iinc 2 1, 3) := by decide +kernel
theorem dX5_spells_60 : decode cX5_spells 60 = .ok (.goto (-32), 3) := by decide +kernel
theorem dX5_spells_63 : decode cX5_spells 63 = .ok (.iconst 1, 1) := by decide +kernel
theorem dX5_spells_64 : decode cX5_spells 64 = .ok (.ireturn, 1) := by decide +kernel
theorem dX5_fail_0 : decode cX5_fail 0 = .ok (.aload_n 0, 1) := by decide +kernel
theorem dX5_fail_1 : decode cX5_fail 1 = .ok (.getfield 9, 3) := by decide +kernel
theorem dX5_fail_4 : decode cX5_fail 4 = .ok (.ifCond .ne 37, 3) := by decide +kernel
theorem dX5_fail_7 : decode cX5_fail 7 = .ok (.aload_n 0, 1) := by decide +kernel
theorem dX5_fail_8 : decode cX5_fail 8 = .ok (.iload_n 1, 1) := by decide +kernel
theorem dX5_fail_9 : decode cX5_fail 9 = .ok (.putfield 9, 3) := by decide +kernel
theorem dX5_fail_12 : decode cX5_fail 12 = .ok (.aload_n 0, 1) := by decide +kernel
theorem dX5_fail_13 : decode cX5_fail 13 = .ok (.aload_n 0, 1) := by decide +kernel
theorem dX5_fail_14 : decode cX5_fail 14 = .ok (.getfield 28, 3) := by decide +kernel
theorem dX5_fail_17 : decode cX5_fail 17 = .ok (.putfield 15, 3) := by decide +kernel
theorem dX5_fail_20 : decode cX5_fail 20 = .ok (.aload_n 0, 1) := by decide +kernel
theorem dX5_fail_21 : decode cX5_fail 21 = .ok (.iconst 0, 1) := by decide +kernel
theorem dX5_fail_22 : decode cX5_fail 22 = .ok (.putfield 25, 3) := by decide +kernel
theorem dX5_fail_25 : decode cX5_fail 25 = .ok (.aload_n 0, 1) := by decide +kernel
theorem dX5_fail_26 : decode cX5_fail 26 = .ok (.aload_n 0, 1) := by decide +kernel
theorem dX5_fail_27 : decode cX5_fail 27 = .ok (.getfield 18, 3) := by decide +kernel
theorem dX5_fail_30 : decode cX5_fail 30 = .ok (.putfield 28, 3) := by decide +kernel
theorem dX5_fail_33 : decode cX5_fail 33 = .ok (.aload_n 0, 1) := by decide +kernel
theorem dX5_fail_34 : decode cX5_fail 34 = .ok (.aload_n 0, 1) := by decide +kernel
theorem dX5_fail_35 : decode cX5_fail 35 = .ok (.getfield 18, 3) := by decide +kernel
theorem dX5_fail_38 : decode cX5_fail 38 = .ok (.putfield 31, 3) := by decide +kernel
theorem dX5_fail_41 : decode cX5_fail 41 = .ok (.return_, 1) := by decide +kernel
theorem dX5_readLine_0 : decode cX5_readLine 0 = .ok (.aload_n 0, 1) := by decide +kernel
theorem dX5_readLine_1 : decode cX5_readLine 1 = .ok (.ldc 85, 2) := by decide +kernel
theorem dX5_readLine_3 : decode cX5_readLine 3 = .ok (.invokevirtual 87, 3) := by decide +kernel
theorem dX5_readLine_6 : decode cX5_readLine 6 = .ok (.ifCond .eq 10, 3) := by decide +kernel
theorem dX5_readLine_9 : decode cX5_readLine 9 = .ok (.aload_n 0, 1) := by decide +kernel
theorem dX5_readLine_10 : decode cX5_readLine 10 = .ok (.invokevirtual 91, 3) := by decide +kernel
theorem dX5_readLine_13 : decode cX5_readLine 13 = .ok (.goto 104, 3) := by decide +kernel
theorem dX5_readLine_16 : decode cX5_readLine 16 = .ok (.aload_n 0, 1) := by decide +kernel
theorem dX5_readLine_17 : decode cX5_readLine 17 = .ok (.ldc 94, 2) := by decide +kernel
theorem dX5_readLine_19 : decode cX5_readLine 19 = .ok (.invokevirtual 87, 3) := by decide +kernel
theorem dX5_readLine_22 : decode cX5_readLine 22 = .ok (.ifCond .eq 10, 3) := by decide +kernel
theorem dX5_readLine_25 : decode cX5_readLine 25 = .ok (.aload_n 0, 1) := by decide +kernel
theorem dX5_readLine_26 : decode cX5_readLine 26 = .ok (.invokevirtual 96, 3) := by decide +kernel
theorem dX5_readLine_29 : decode cX5_readLine 29 = .ok (.goto 88, 3) := by decide +kernel
theorem dX5_readLine_32 : decode cX5_readLine 32 = .ok (.aload_n 0, 1) := by decide +kernel
theorem dX5_readLine_33 : decode cX5_readLine 33 = .ok (.ldc 99, 2) := by decide +kernel
theorem dX5_readLine_35 : decode cX5_readLine 35 = .ok (.invokevirtual 87, 3) := by decide +kernel
theorem dX5_readLine_38 : decode cX5_readLine 38 = .ok (.ifCond .eq 10, 3) := by decide +kernel
theorem dX5_readLine_41 : decode cX5_readLine 41 = .ok (.aload_n 0, 1) := by decide +kernel
theorem dX5_readLine_42 : decode cX5_readLine 42 = .ok (.invokevirtual 101, 3) := by decide +kernel
theorem dX5_readLine_45 : decode cX5_readLine 45 = .ok (.goto 72, 3) := by decide +kernel
theorem dX5_readLine_48 : decode cX5_readLine 48 = .ok (.aload_n 0, 1) := by decide +kernel
theorem dX5_readLine_49 : decode cX5_readLine 49 = .ok (.ldc 104, 2) := by decide +kernel
theorem dX5_readLine_51 : decode cX5_readLine 51 = .ok (.invokevirtual 87, 3) := by decide +kernel
theorem dX5_readLine_54 : decode cX5_readLine 54 = .ok (.ifCond .eq 10, 3) := by decide +kernel
theorem dX5_readLine_57 : decode cX5_readLine 57 = .ok (.aload_n 0, 1) := by decide +kernel
theorem dX5_readLine_58 : decode cX5_readLine 58 = .ok (.invokevirtual 106, 3) := by decide +kernel
theorem dX5_readLine_61 : decode cX5_readLine 61 = .ok (.goto 56, 3) := by decide +kernel
theorem dX5_readLine_64 : decode cX5_readLine 64 = .ok (.aload_n 0, 1) := by decide +kernel
theorem dX5_readLine_65 : decode cX5_readLine 65 = .ok (.ldc 109, 2) := by decide +kernel
theorem dX5_readLine_67 : decode cX5_readLine 67 = .ok (.invokevirtual 87, 3) := by decide +kernel
theorem dX5_readLine_70 : decode cX5_readLine 70 = .ok (.ifCond .eq 18, 3) := by decide +kernel
theorem dX5_readLine_73 : decode cX5_readLine 73 = .ok (.aload_n 0, 1) := by decide +kernel
theorem dX5_readLine_74 : decode cX5_readLine 74 = .ok (.aload_n 0, 1) := by decide +kernel
theorem dX5_readLine_75 : decode cX5_readLine 75 = .ok (.getfield 41, 3) := by decide +kernel
theorem dX5_readLine_78 : decode cX5_readLine 78 = .ok (.getfield 45, 3) := by decide +kernel
theorem dX5_readLine_81 : decode cX5_readLine 81 = .ok (.iconst 1, 1) := by decide +kernel
theorem dX5_readLine_82 : decode cX5_readLine 82 = .ok (.invokevirtual 110, 3) := by decide +kernel
theorem dX5_readLine_85 : decode cX5_readLine 85 = .ok (.goto 32, 3) := by decide +kernel
theorem dX5_readLine_88 : decode cX5_readLine 88 = .ok (.aload_n 0, 1) := by decide +kernel
theorem dX5_readLine_89 : decode cX5_readLine 89 = .ok (.ldc 114, 2) := by decide +kernel
theorem dX5_readLine_91 : decode cX5_readLine 91 = .ok (.invokevirtual 87, 3) := by decide +kernel
theorem dX5_readLine_94 : decode cX5_readLine 94 = .ok (.ifCond .eq 18, 3) := by decide +kernel
theorem dX5_readLine_97 : decode cX5_readLine 97 = .ok (.aload_n 0, 1) := by decide +kernel
theorem dX5_readLine_98 : decode cX5_readLine 98 = .ok (.aload_n 0, 1) := by decide +kernel
theorem dX5_readLine_99 : decode cX5_readLine 99 = .ok (.getfield 41, 3) := by decide +kernel
theorem dX5_readLine_102 : decode cX5_readLine 102 = .ok (.getfield 116, 3) := by decide +kernel
theorem dX5_readLine_105 : decode cX5_readLine 105 = .ok (.iconst 0, 1) := by decide +kernel
theorem dX5_readLine_106 : decode cX5_readLine 106 = .ok (.invokevirtual 110, 3) := by decide +kernel
theorem dX5_readLine_109 : decode cX5_readLine 109 = .ok (.goto 8, 3) := by decide +kernel
theorem dX5_readLine_112 : decode cX5_readLine 112 = .ok (.aload_n 0, 1) := by decide +kernel
theorem dX5_readLine_113 : decode cX5_readLine 113 = .ok (.iconst 1, 1) := by decide +kernel
theorem dX5_readLine_114 : decode cX5_readLine 114 = .ok (.invokevirtual 118, 3) := by decide +kernel
theorem dX5_readLine_117 : decode cX5_readLine 117 = .ok (.aload_n 0, 1) := by decide +kernel
theorem dX5_readLine_118 : decode cX5_readLine 118 = .ok (.bipush 59, 2) := by decide +kernel
theorem dX5_readLine_120 : decode cX5_readLine 120 = .ok (.invokevirtual 122, 3) := by decide +kernel
theorem dX5_readLine_123 : decode cX5_readLine 123 = .ok (.return_, 1) := by decide +kernel
theorem dX5_readSheetLine_0 : decode cX5_readSheetLine 0 = .ok (.aload_n 0, 1) := by decide +kernel
theorem dX5_readSheetLine_1 : decode cX5_readSheetLine 1 = .ok (.aload_n 0, 1) := by decide +kernel
theorem dX5_readSheetLine_2 : decode cX5_readSheetLine 2 = .ok (.getfield 41, 3) := by decide +kernel
theorem dX5_readSheetLine_5 : decode cX5_readSheetLine 5 = .ok (.getfield 126, 3) := by decide +kernel
theorem dX5_readSheetLine_8 : decode cX5_readSheetLine 8 = .ok (.bipush 9, 2) := by decide +kernel
theorem dX5_readSheetLine_10 : decode cX5_readSheetLine 10 = .ok (.if_icmp .ge 7, 3) := by decide +kernel
theorem dX5_readSheetLine_13 : decode cX5_readSheetLine 13 = .ok (.iconst 1, 1) := by decide +kernel
theorem dX5_readSheetLine_14 : decode cX5_readSheetLine 14 = .ok (.goto 4, 3) := by decide +kernel
theorem dX5_readSheetLine_17 : decode cX5_readSheetLine 17 = .ok (.iconst 0, 1) := by decide +kernel
theorem dX5_readSheetLine_18 : decode cX5_readSheetLine 18 = .ok (.iconst 2, 1) := by decide +kernel
theorem dX5_readSheetLine_19 : decode cX5_readSheetLine 19 = .ok (.invokevirtual 129, 3) := by decide +kernel
theorem dX5_readSheetLine_22 : decode cX5_readSheetLine 22 = .ok (.ifCond .ne 4, 3) := by decide +kernel
theorem dX5_readSheetLine_25 : decode cX5_readSheetLine 25 = .ok (.return_, 1) := by decide +kernel
theorem dX5_readSheetLine_26 : decode cX5_readSheetLine 26 = .ok (.aload_n 0, 1) := by decide +kernel
theorem dX5_readSheetLine_27 : decode cX5_readSheetLine 27 = .ok (.sipush 255, 3) := by decide +kernel
theorem dX5_readSheetLine_30 : decode cX5_readSheetLine 30 = .ok (.invokevirtual 133, 3) := by decide +kernel
theorem dX5_readSheetLine_33 : decode cX5_readSheetLine 33 = .ok (.istore_n 1, 1) := by decide +kernel
theorem dX5_readSheetLine_34 : decode cX5_readSheetLine 34 = .ok (.aload_n 0, 1) := by decide +kernel
theorem dX5_readSheetLine_35 : decode cX5_readSheetLine 35 = .ok (.sipush 255, 3) := by decide +kernel
theorem dX5_readSheetLine_38 : decode cX5_readSheetLine 38 = .ok (.invokevirtual 133, 3) := by decide +kernel
theorem dX5_readSheetLine_41 : decode cX5_readSheetLine 41 = .ok (.istore_n 2, 1) := by decide +kernel
theorem dX5_readSheetLine_42 : decode cX5_readSheetLine 42 = .ok (.aload_n 0, 1) := by decide +kernel
theorem dX5_readSheetLine_43 : decode cX5_readSheetLine 43 = .ok (.iconst 3, 1) := by decide +kernel
theorem dX5_readSheetLine_44 : decode cX5_readSheetLine 44 = .ok (.invokevirtual 133, 3) := by decide +kernel
theorem dX5_readSheetLine_47 : decode cX5_readSheetLine 47 = .ok (.istore_n 3, 1) := by decide +kernel
theorem dX5_readSheetLine_48 : decode cX5_readSheetLine 48 = .ok (.aload_n 0, 1) := by decide +kernel
theorem dX5_readSheetLine_49 : decode cX5_readSheetLine 49 = .ok (.getfield 9, 3) := by decide +kernel
theorem dX5_readSheetLine_52 : decode cX5_readSheetLine 52 = .ok (.ifCond .ne 13, 3) := by decide +kernel
theorem dX5_readSheetLine_55 : decode cX5_readSheetLine 55 = .ok (.aload_n 0, 1) := by decide +kernel
theorem dX5_readSheetLine_56 : decode cX5_readSheetLine 56 = .ok (.getfield 41, 3) := by decide +kernel
theorem dX5_readSheetLine_59 : decode cX5_readSheetLine 59 = .ok (.iload_n 1, 1) := by decide +kernel
theorem dX5_readSheetLine_60 : decode cX5_readSheetLine 60 = .ok (.iload_n 2, 1) := by decide +kernel
theorem dX5_readSheetLine_61 : decode cX5_readSheetLine 61 = .ok (.iload_n 3, 1) := by decide +kernel
theorem dX5_readSheetLine_62 : decode cX5_readSheetLine 62 = .ok (.invokevirtual 136, 3) := by decide +kernel
theorem dX5_readSheetLine_65 : decode cX5_readSheetLine 65 = .ok (.return_, 1) := by decide +kernel
theorem dX5_readClerkLine_0 : decode cX5_readClerkLine 0 = .ok (.aload_n 0, 1) := by decide +kernel
theorem dX5_readClerkLine_1 : decode cX5_readClerkLine 1 = .ok (.aload_n 0, 1) := by decide +kernel
theorem dX5_readClerkLine_2 : decode cX5_readClerkLine 2 = .ok (.getfield 41, 3) := by decide +kernel
theorem dX5_readClerkLine_5 : decode cX5_readClerkLine 5 = .ok (.getfield 140, 3) := by decide +kernel
theorem dX5_readClerkLine_8 : decode cX5_readClerkLine 8 = .ok (.bipush 6, 2) := by decide +kernel
theorem dX5_readClerkLine_10 : decode cX5_readClerkLine 10 = .ok (.if_icmp .ge 7, 3) := by decide +kernel
theorem dX5_readClerkLine_13 : decode cX5_readClerkLine 13 = .ok (.iconst 1, 1) := by decide +kernel
theorem dX5_readClerkLine_14 : decode cX5_readClerkLine 14 = .ok (.goto 4, 3) := by decide +kernel
theorem dX5_readClerkLine_17 : decode cX5_readClerkLine 17 = .ok (.iconst 0, 1) := by decide +kernel
theorem dX5_readClerkLine_18 : decode cX5_readClerkLine 18 = .ok (.iconst 2, 1) := by decide +kernel
theorem dX5_readClerkLine_19 : decode cX5_readClerkLine 19 = .ok (.invokevirtual 129, 3) := by decide +kernel
theorem dX5_readClerkLine_22 : decode cX5_readClerkLine 22 = .ok (.ifCond .ne 4, 3) := by decide +kernel
theorem dX5_readClerkLine_25 : decode cX5_readClerkLine 25 = .ok (.return_, 1) := by decide +kernel
theorem dX5_readClerkLine_26 : decode cX5_readClerkLine 26 = .ok (.aload_n 0, 1) := by decide +kernel
theorem dX5_readClerkLine_27 : decode cX5_readClerkLine 27 = .ok (.iconst 3, 1) := by decide +kernel
theorem dX5_readClerkLine_28 : decode cX5_readClerkLine 28 = .ok (.invokevirtual 133, 3) := by decide +kernel
theorem dX5_readClerkLine_31 : decode cX5_readClerkLine 31 = .ok (.istore_n 1, 1) := by decide +kernel
theorem dX5_readClerkLine_32 : decode cX5_readClerkLine 32 = .ok (.aload_n 0, 1) := by decide +kernel
theorem dX5_readClerkLine_33 : decode cX5_readClerkLine 33 = .ok (.getfield 9, 3) := by decide +kernel
theorem dX5_readClerkLine_36 : decode cX5_readClerkLine 36 = .ok (.ifCond .ne 11, 3) := by decide +kernel
theorem dX5_readClerkLine_39 : decode cX5_readClerkLine 39 = .ok (.aload_n 0, 1) := by decide +kernel
theorem dX5_readClerkLine_40 : decode cX5_readClerkLine 40 = .ok (.getfield 41, 3) := by decide +kernel
theorem dX5_readClerkLine_43 : decode cX5_readClerkLine 43 = .ok (.iload_n 1, 1) := by decide +kernel
theorem dX5_readClerkLine_44 : decode cX5_readClerkLine 44 = .ok (.invokevirtual 143, 3) := by decide +kernel
theorem dX5_readClerkLine_47 : decode cX5_readClerkLine 47 = .ok (.iconst 0, 1) := by decide +kernel
theorem dX5_readClerkLine_48 : decode cX5_readClerkLine 48 = .ok (.istore_n 2, 1) := by decide +kernel
theorem dX5_readClerkLine_49 : decode cX5_readClerkLine 49 = .ok (.iload_n 2, 1) := by decide +kernel
theorem dX5_readClerkLine_50 : decode cX5_readClerkLine 50 = .ok (.bipush 6, 2) := by decide +kernel
theorem dX5_readClerkLine_52 : decode cX5_readClerkLine 52 = .ok (.if_icmp .ge 21, 3) := by decide +kernel
theorem dX5_readClerkLine_55 : decode cX5_readClerkLine 55 = .ok (.aload_n 0, 1) := by decide +kernel
theorem dX5_readClerkLine_56 : decode cX5_readClerkLine 56 = .ok (.getfield 25, 3) := by decide +kernel
theorem dX5_readClerkLine_59 : decode cX5_readClerkLine 59 = .ok (.iconst 2, 1) := by decide +kernel
theorem dX5_readClerkLine_60 : decode cX5_readClerkLine 60 = .ok (.if_icmp .ne 13, 3) := by decide +kernel
theorem dX5_readClerkLine_63 : decode cX5_readClerkLine 63 = .ok (.aload_n 0, 1) := by decide +kernel
theorem dX5_readClerkLine_64 : decode cX5_readClerkLine 64 = .ok (.invokevirtual 146, 3) := by decide +kernel
theorem dX5_readClerkLine_67 : decode cX5_readClerkLine 67 = .ok (.iinc 2 1, 3) := by decide +kernel
theorem dX5_readClerkLine_70 : decode cX5_readClerkLine 70 = .ok (.goto (-21), 3) := by decide +kernel
theorem dX5_readClerkLine_73 : decode cX5_readClerkLine 73 = .ok (.return_, 1) := by decide +kernel
theorem dX5_readNextStop_0 : decode cX5_readNextStop 0 = .ok (.aload_n 0, 1) := by decide +kernel
theorem dX5_readNextStop_1 : decode cX5_readNextStop 1 = .ok (.getfield 41, 3) := by decide +kernel
theorem dX5_readNextStop_4 : decode cX5_readNextStop 4 = .ok (.invokevirtual 149, 3) := by decide +kernel
theorem dX5_readNextStop_7 : decode cX5_readNextStop 7 = .ok (.bipush 6, 2) := by decide +kernel
theorem dX5_readNextStop_9 : decode cX5_readNextStop 9 = .ok (.if_icmp .lt 9, 3) := by decide +kernel
theorem dX5_readNextStop_12 : decode cX5_readNextStop 12 = .ok (.aload_n 0, 1) := by decide +kernel
theorem dX5_readNextStop_13 : decode cX5_readNextStop 13 = .ok (.iconst 2, 1) := by decide +kernel
theorem dX5_readNextStop_14 : decode cX5_readNextStop 14 = .ok (.invokevirtual 118, 3) := by decide +kernel
theorem dX5_readNextStop_17 : decode cX5_readNextStop 17 = .ok (.return_, 1) := by decide +kernel
theorem dX5_readNextStop_18 : decode cX5_readNextStop 18 = .ok (.aload_n 0, 1) := by decide +kernel
theorem dX5_readNextStop_19 : decode cX5_readNextStop 19 = .ok (.iconst 3, 1) := by decide +kernel
theorem dX5_readNextStop_20 : decode cX5_readNextStop 20 = .ok (.invokevirtual 133, 3) := by decide +kernel
theorem dX5_readNextStop_23 : decode cX5_readNextStop 23 = .ok (.istore_n 1, 1) := by decide +kernel
theorem dX5_readNextStop_24 : decode cX5_readNextStop 24 = .ok (.aload_n 0, 1) := by decide +kernel
theorem dX5_readNextStop_25 : decode cX5_readNextStop 25 = .ok (.getfield 9, 3) := by decide +kernel
theorem dX5_readNextStop_28 : decode cX5_readNextStop 28 = .ok (.ifCond .ne 11, 3) := by decide +kernel
theorem dX5_readNextStop_31 : decode cX5_readNextStop 31 = .ok (.aload_n 0, 1) := by decide +kernel
theorem dX5_readNextStop_32 : decode cX5_readNextStop 32 = .ok (.getfield 41, 3) := by decide +kernel
theorem dX5_readNextStop_35 : decode cX5_readNextStop 35 = .ok (.iload_n 1, 1) := by decide +kernel
theorem dX5_readNextStop_36 : decode cX5_readNextStop 36 = .ok (.invokevirtual 152, 3) := by decide +kernel
theorem dX5_readNextStop_39 : decode cX5_readNextStop 39 = .ok (.return_, 1) := by decide +kernel
theorem dX5_readWordLine_0 : decode cX5_readWordLine 0 = .ok (.aload_n 0, 1) := by decide +kernel
theorem dX5_readWordLine_1 : decode cX5_readWordLine 1 = .ok (.aload_n 0, 1) := by decide +kernel
theorem dX5_readWordLine_2 : decode cX5_readWordLine 2 = .ok (.getfield 41, 3) := by decide +kernel
theorem dX5_readWordLine_5 : decode cX5_readWordLine 5 = .ok (.getfield 155, 3) := by decide +kernel
theorem dX5_readWordLine_8 : decode cX5_readWordLine 8 = .ok (.bipush 12, 2) := by decide +kernel
theorem dX5_readWordLine_10 : decode cX5_readWordLine 10 = .ok (.if_icmp .ge 7, 3) := by decide +kernel
theorem dX5_readWordLine_13 : decode cX5_readWordLine 13 = .ok (.iconst 1, 1) := by decide +kernel
theorem dX5_readWordLine_14 : decode cX5_readWordLine 14 = .ok (.goto 4, 3) := by decide +kernel
theorem dX5_readWordLine_17 : decode cX5_readWordLine 17 = .ok (.iconst 0, 1) := by decide +kernel
theorem dX5_readWordLine_18 : decode cX5_readWordLine 18 = .ok (.iconst 2, 1) := by decide +kernel
theorem dX5_readWordLine_19 : decode cX5_readWordLine 19 = .ok (.invokevirtual 129, 3) := by decide +kernel
theorem dX5_readWordLine_22 : decode cX5_readWordLine 22 = .ok (.ifCond .ne 4, 3) := by decide +kernel
theorem dX5_readWordLine_25 : decode cX5_readWordLine 25 = .ok (.return_, 1) := by decide +kernel
theorem dX5_readWordLine_26 : decode cX5_readWordLine 26 = .ok (.aload_n 0, 1) := by decide +kernel
theorem dX5_readWordLine_27 : decode cX5_readWordLine 27 = .ok (.iconst (-1), 1) := by decide +kernel
theorem dX5_readWordLine_28 : decode cX5_readWordLine 28 = .ok (.invokevirtual 158, 3) := by decide +kernel
theorem dX5_readWordLine_31 : decode cX5_readWordLine 31 = .ok (.istore_n 1, 1) := by decide +kernel
theorem dX5_readWordLine_32 : decode cX5_readWordLine 32 = .ok (.aload_n 0, 1) := by decide +kernel
theorem dX5_readWordLine_33 : decode cX5_readWordLine 33 = .ok (.iload_n 1, 1) := by decide +kernel
theorem dX5_readWordLine_34 : decode cX5_readWordLine 34 = .ok (.invokevirtual 158, 3) := by decide +kernel
theorem dX5_readWordLine_37 : decode cX5_readWordLine 37 = .ok (.istore_n 2, 1) := by decide +kernel
theorem dX5_readWordLine_38 : decode cX5_readWordLine 38 = .ok (.aload_n 0, 1) := by decide +kernel
theorem dX5_readWordLine_39 : decode cX5_readWordLine 39 = .ok (.getfield 9, 3) := by decide +kernel
theorem dX5_readWordLine_42 : decode cX5_readWordLine 42 = .ok (.ifCond .ne 12, 3) := by decide +kernel
theorem dX5_readWordLine_45 : decode cX5_readWordLine 45 = .ok (.aload_n 0, 1) := by decide +kernel
theorem dX5_readWordLine_46 : decode cX5_readWordLine 46 = .ok (.getfield 41, 3) := by decide +kernel
theorem dX5_readWordLine_49 : decode cX5_readWordLine 49 = .ok (.iload_n 1, 1) := by decide +kernel
theorem dX5_readWordLine_50 : decode cX5_readWordLine 50 = .ok (.iload_n 2, 1) := by decide +kernel
theorem dX5_readWordLine_51 : decode cX5_readWordLine 51 = .ok (.invokevirtual 161, 3) := by decide +kernel
theorem dX5_readWordLine_54 : decode cX5_readWordLine 54 = .ok (.return_, 1) := by decide +kernel
theorem dX5_readSlackLine_0 : decode cX5_readSlackLine 0 = .ok (.aload_n 0, 1) := by decide +kernel
theorem dX5_readSlackLine_1 : decode cX5_readSlackLine 1 = .ok (.aload_n 0, 1) := by decide +kernel
theorem dX5_readSlackLine_2 : decode cX5_readSlackLine 2 = .ok (.getfield 41, 3) := by decide +kernel
theorem dX5_readSlackLine_5 : decode cX5_readSlackLine 5 = .ok (.getfield 165, 3) := by decide +kernel
theorem dX5_readSlackLine_8 : decode cX5_readSlackLine 8 = .ok (.ifCond .ne 7, 3) := by decide +kernel
theorem dX5_readSlackLine_11 : decode cX5_readSlackLine 11 = .ok (.iconst 1, 1) := by decide +kernel
theorem dX5_readSlackLine_12 : decode cX5_readSlackLine 12 = .ok (.goto 4, 3) := by decide +kernel
theorem dX5_readSlackLine_15 : decode cX5_readSlackLine 15 = .ok (.iconst 0, 1) := by decide +kernel
theorem dX5_readSlackLine_16 : decode cX5_readSlackLine 16 = .ok (.iconst 5, 1) := by decide +kernel
theorem dX5_readSlackLine_17 : decode cX5_readSlackLine 17 = .ok (.invokevirtual 129, 3) := by decide +kernel
theorem dX5_readSlackLine_20 : decode cX5_readSlackLine 20 = .ok (.ifCond .ne 4, 3) := by decide +kernel
theorem dX5_readSlackLine_23 : decode cX5_readSlackLine 23 = .ok (.return_, 1) := by decide +kernel
theorem dX5_readSlackLine_24 : decode cX5_readSlackLine 24 = .ok (.aload_n 0, 1) := by decide +kernel
theorem dX5_readSlackLine_25 : decode cX5_readSlackLine 25 = .ok (.bipush 8, 2) := by decide +kernel
theorem dX5_readSlackLine_27 : decode cX5_readSlackLine 27 = .ok (.invokevirtual 133, 3) := by decide +kernel
theorem dX5_readSlackLine_30 : decode cX5_readSlackLine 30 = .ok (.istore_n 1, 1) := by decide +kernel
theorem dX5_readSlackLine_31 : decode cX5_readSlackLine 31 = .ok (.aload_n 0, 1) := by decide +kernel
theorem dX5_readSlackLine_32 : decode cX5_readSlackLine 32 = .ok (.getfield 9, 3) := by decide +kernel
theorem dX5_readSlackLine_35 : decode cX5_readSlackLine 35 = .ok (.ifCond .ne 19, 3) := by decide +kernel
theorem dX5_readSlackLine_38 : decode cX5_readSlackLine 38 = .ok (.aload_n 0, 1) := by decide +kernel
theorem dX5_readSlackLine_39 : decode cX5_readSlackLine 39 = .ok (.getfield 41, 3) := by decide +kernel
theorem dX5_readSlackLine_42 : decode cX5_readSlackLine 42 = .ok (.iload_n 1, 1) := by decide +kernel
theorem dX5_readSlackLine_43 : decode cX5_readSlackLine 43 = .ok (.putfield 168, 3) := by decide +kernel
theorem dX5_readSlackLine_46 : decode cX5_readSlackLine 46 = .ok (.aload_n 0, 1) := by decide +kernel
theorem dX5_readSlackLine_47 : decode cX5_readSlackLine 47 = .ok (.getfield 41, 3) := by decide +kernel
theorem dX5_readSlackLine_50 : decode cX5_readSlackLine 50 = .ok (.iconst 1, 1) := by decide +kernel
theorem dX5_readSlackLine_51 : decode cX5_readSlackLine 51 = .ok (.putfield 165, 3) := by decide +kernel
theorem dX5_readSlackLine_54 : decode cX5_readSlackLine 54 = .ok (.return_, 1) := by decide +kernel
theorem dX5_readRuleLine_0 : decode cX5_readRuleLine 0 = .ok (.aload_n 0, 1) := by decide +kernel
theorem dX5_readRuleLine_1 : decode cX5_readRuleLine 1 = .ok (.aload_n 1, 1) := by decide +kernel
theorem dX5_readRuleLine_2 : decode cX5_readRuleLine 2 = .ok (.getfield 170, 3) := by decide +kernel
theorem dX5_readRuleLine_5 : decode cX5_readRuleLine 5 = .ok (.ifCond .ne 7, 3) := by decide +kernel
theorem dX5_readRuleLine_8 : decode cX5_readRuleLine 8 = .ok (.iconst 1, 1) := by decide +kernel
theorem dX5_readRuleLine_9 : decode cX5_readRuleLine 9 = .ok (.goto 4, 3) := by decide +kernel
theorem dX5_readRuleLine_12 : decode cX5_readRuleLine 12 = .ok (.iconst 0, 1) := by decide +kernel
theorem dX5_readRuleLine_13 : decode cX5_readRuleLine 13 = .ok (.iconst 5, 1) := by decide +kernel
theorem dX5_readRuleLine_14 : decode cX5_readRuleLine 14 = .ok (.invokevirtual 129, 3) := by decide +kernel
theorem dX5_readRuleLine_17 : decode cX5_readRuleLine 17 = .ok (.ifCond .ne 4, 3) := by decide +kernel
theorem dX5_readRuleLine_20 : decode cX5_readRuleLine 20 = .ok (.return_, 1) := by decide +kernel
theorem dX5_readRuleLine_21 : decode cX5_readRuleLine 21 = .ok (.aload_n 1, 1) := by decide +kernel
theorem dX5_readRuleLine_22 : decode cX5_readRuleLine 22 = .ok (.iconst 1, 1) := by decide +kernel
theorem dX5_readRuleLine_23 : decode cX5_readRuleLine 23 = .ok (.putfield 170, 3) := by decide +kernel
theorem dX5_readRuleLine_26 : decode cX5_readRuleLine 26 = .ok (.aload_n 0, 1) := by decide +kernel
theorem dX5_readRuleLine_27 : decode cX5_readRuleLine 27 = .ok (.aload_n 1, 1) := by decide +kernel
theorem dX5_readRuleLine_28 : decode cX5_readRuleLine 28 = .ok (.putfield 51, 3) := by decide +kernel
theorem dX5_readRuleLine_31 : decode cX5_readRuleLine 31 = .ok (.aload_n 0, 1) := by decide +kernel
theorem dX5_readRuleLine_32 : decode cX5_readRuleLine 32 = .ok (.iload_n 2, 1) := by decide +kernel
theorem dX5_readRuleLine_33 : decode cX5_readRuleLine 33 = .ok (.putfield 21, 3) := by decide +kernel
theorem dX5_readRuleLine_36 : decode cX5_readRuleLine 36 = .ok (.aload_n 0, 1) := by decide +kernel
theorem dX5_readRuleLine_37 : decode cX5_readRuleLine 37 = .ok (.iconst 0, 1) := by decide +kernel
theorem dX5_readRuleLine_38 : decode cX5_readRuleLine 38 = .ok (.iconst 0, 1) := by decide +kernel
theorem dX5_readRuleLine_39 : decode cX5_readRuleLine 39 = .ok (.invokevirtual 175, 3) := by decide +kernel
theorem dX5_readRuleLine_42 : decode cX5_readRuleLine 42 = .ok (.return_, 1) := by decide +kernel
theorem dX5_beginLine_0 : decode cX5_beginLine 0 = .ok (.iload_n 1, 1) := by decide +kernel
theorem dX5_beginLine_1 : decode cX5_beginLine 1 = .ok (.ifCond .eq 10, 3) := by decide +kernel
theorem dX5_beginLine_4 : decode cX5_beginLine 4 = .ok (.aload_n 0, 1) := by decide +kernel
theorem dX5_beginLine_5 : decode cX5_beginLine 5 = .ok (.invokevirtual 66, 3) := by decide +kernel
theorem dX5_beginLine_8 : decode cX5_beginLine 8 = .ok (.goto 8, 3) := by decide +kernel
theorem dX5_beginLine_11 : decode cX5_beginLine 11 = .ok (.aload_n 0, 1) := by decide +kernel
theorem dX5_beginLine_12 : decode cX5_beginLine 12 = .ok (.iload_n 2, 1) := by decide +kernel
theorem dX5_beginLine_13 : decode cX5_beginLine 13 = .ok (.invokevirtual 118, 3) := by decide +kernel
theorem dX5_beginLine_16 : decode cX5_beginLine 16 = .ok (.iload_n 1, 1) := by decide +kernel
theorem dX5_beginLine_17 : decode cX5_beginLine 17 = .ok (.ireturn, 1) := by decide +kernel
theorem dX5_readSign_0 : decode cX5_readSign 0 = .ok (.aload_n 0, 1) := by decide +kernel
theorem dX5_readSign_1 : decode cX5_readSign 1 = .ok (.iload_n 1, 1) := by decide +kernel
theorem dX5_readSign_2 : decode cX5_readSign 2 = .ok (.invokevirtual 178, 3) := by decide +kernel
theorem dX5_readSign_5 : decode cX5_readSign 5 = .ok (.ifCond .eq 10, 3) := by decide +kernel
theorem dX5_readSign_8 : decode cX5_readSign 8 = .ok (.aload_n 0, 1) := by decide +kernel
theorem dX5_readSign_9 : decode cX5_readSign 9 = .ok (.invokevirtual 66, 3) := by decide +kernel
theorem dX5_readSign_12 : decode cX5_readSign 12 = .ok (.goto 8, 3) := by decide +kernel
theorem dX5_readSign_15 : decode cX5_readSign 15 = .ok (.aload_n 0, 1) := by decide +kernel
theorem dX5_readSign_16 : decode cX5_readSign 16 = .ok (.iconst 1, 1) := by decide +kernel
theorem dX5_readSign_17 : decode cX5_readSign 17 = .ok (.invokevirtual 118, 3) := by decide +kernel
theorem dX5_readSign_20 : decode cX5_readSign 20 = .ok (.return_, 1) := by decide +kernel
theorem dX5_readNumber_0 : decode cX5_readNumber 0 = .ok (.aload_n 0, 1) := by decide +kernel
theorem dX5_readNumber_1 : decode cX5_readNumber 1 = .ok (.getfield 25, 3) := by decide +kernel
theorem dX5_readNumber_4 : decode cX5_readNumber 4 = .ok (.iconst 2, 1) := by decide +kernel
theorem dX5_readNumber_5 : decode cX5_readNumber 5 = .ok (.if_icmp .eq 10, 3) := by decide +kernel
theorem dX5_readNumber_8 : decode cX5_readNumber 8 = .ok (.aload_n 0, 1) := by decide +kernel
theorem dX5_readNumber_9 : decode cX5_readNumber 9 = .ok (.iconst 1, 1) := by decide +kernel
theorem dX5_readNumber_10 : decode cX5_readNumber 10 = .ok (.invokevirtual 118, 3) := by decide +kernel
theorem dX5_readNumber_13 : decode cX5_readNumber 13 = .ok (.iconst 0, 1) := by decide +kernel
theorem dX5_readNumber_14 : decode cX5_readNumber 14 = .ok (.ireturn, 1) := by decide +kernel
theorem dX5_readNumber_15 : decode cX5_readNumber 15 = .ok (.aload_n 0, 1) := by decide +kernel
theorem dX5_readNumber_16 : decode cX5_readNumber 16 = .ok (.getfield 34, 3) := by decide +kernel
theorem dX5_readNumber_19 : decode cX5_readNumber 19 = .ok (.iload_n 1, 1) := by decide +kernel
theorem dX5_readNumber_20 : decode cX5_readNumber 20 = .ok (.if_icmp .le 10, 3) := by decide +kernel
theorem dX5_readNumber_23 : decode cX5_readNumber 23 = .ok (.aload_n 0, 1) := by decide +kernel
theorem dX5_readNumber_24 : decode cX5_readNumber 24 = .ok (.iconst 2, 1) := by decide +kernel
theorem dX5_readNumber_25 : decode cX5_readNumber 25 = .ok (.invokevirtual 118, 3) := by decide +kernel
theorem dX5_readNumber_28 : decode cX5_readNumber 28 = .ok (.iconst 0, 1) := by decide +kernel
theorem dX5_readNumber_29 : decode cX5_readNumber 29 = .ok (.ireturn, 1) := by decide +kernel
theorem dX5_readNumber_30 : decode cX5_readNumber 30 = .ok (.aload_n 0, 1) := by decide +kernel
theorem dX5_readNumber_31 : decode cX5_readNumber 31 = .ok (.getfield 34, 3) := by decide +kernel
theorem dX5_readNumber_34 : decode cX5_readNumber 34 = .ok (.istore_n 2, 1) := by decide +kernel
theorem dX5_readNumber_35 : decode cX5_readNumber 35 = .ok (.aload_n 0, 1) := by decide +kernel
theorem dX5_readNumber_36 : decode cX5_readNumber 36 = .ok (.invokevirtual 66, 3) := by decide +kernel
theorem dX5_readNumber_39 : decode cX5_readNumber 39 = .ok (.iload_n 2, 1) := by decide +kernel
theorem dX5_readNumber_40 : decode cX5_readNumber 40 = .ok (.ireturn, 1) := by decide +kernel
theorem dX5_readSheetNumber_0 : decode cX5_readSheetNumber 0 = .ok (.aload_n 0, 1) := by decide +kernel
theorem dX5_readSheetNumber_1 : decode cX5_readSheetNumber 1 = .ok (.getfield 25, 3) := by decide +kernel
theorem dX5_readSheetNumber_4 : decode cX5_readSheetNumber 4 = .ok (.iconst 2, 1) := by decide +kernel
theorem dX5_readSheetNumber_5 : decode cX5_readSheetNumber 5 = .ok (.if_icmp .ne 63, 3) := by decide +kernel
theorem dX5_readSheetNumber_8 : decode cX5_readSheetNumber 8 = .ok (.aload_n 0, 1) := by decide +kernel
theorem dX5_readSheetNumber_9 : decode cX5_readSheetNumber 9 = .ok (.getfield 34, 3) := by decide +kernel
theorem dX5_readSheetNumber_12 : decode cX5_readSheetNumber 12 = .ok (.sipush 9999, 3) := by decide +kernel
theorem dX5_readSheetNumber_15 : decode cX5_readSheetNumber 15 = .ok (.if_icmp .gt 53, 3) := by decide +kernel
theorem dX5_readSheetNumber_18 : decode cX5_readSheetNumber 18 = .ok (.aload_n 0, 1) := by decide +kernel
theorem dX5_readSheetNumber_19 : decode cX5_readSheetNumber 19 = .ok (.getfield 34, 3) := by decide +kernel
theorem dX5_readSheetNumber_22 : decode cX5_readSheetNumber 22 = .ok (.aload_n 0, 1) := by decide +kernel
theorem dX5_readSheetNumber_23 : decode cX5_readSheetNumber 23 = .ok (.getfield 41, 3) := by decide +kernel
theorem dX5_readSheetNumber_26 : decode cX5_readSheetNumber 26 = .ok (.getfield 126, 3) := by decide +kernel
theorem dX5_readSheetNumber_29 : decode cX5_readSheetNumber 29 = .ok (.if_icmp .lt 11, 3) := by decide +kernel
theorem dX5_readSheetNumber_32 : decode cX5_readSheetNumber 32 = .ok (.aload_n 0, 1) := by decide +kernel
theorem dX5_readSheetNumber_33 : decode cX5_readSheetNumber 33 = .ok (.iconst 3, 1) := by decide +kernel
theorem dX5_readSheetNumber_34 : decode cX5_readSheetNumber 34 = .ok (.invokevirtual 118, 3) := by decide +kernel
theorem dX5_readSheetNumber_37 : decode cX5_readSheetNumber 37 = .ok (.goto 31, 3) := by decide +kernel
theorem dX5_readSheetNumber_40 : decode cX5_readSheetNumber 40 = .ok (.aload_n 0, 1) := by decide +kernel
theorem dX5_readSheetNumber_41 : decode cX5_readSheetNumber 41 = .ok (.getfield 34, 3) := by decide +kernel
theorem dX5_readSheetNumber_44 : decode cX5_readSheetNumber 44 = .ok (.iload_n 1, 1) := by decide +kernel
theorem dX5_readSheetNumber_45 : decode cX5_readSheetNumber 45 = .ok (.if_icmp .eq 18, 3) := by decide +kernel
theorem dX5_readSheetNumber_48 : decode cX5_readSheetNumber 48 = .ok (.aload_n 0, 1) := by decide +kernel
theorem dX5_readSheetNumber_49 : decode cX5_readSheetNumber 49 = .ok (.getfield 41, 3) := by decide +kernel
theorem dX5_readSheetNumber_52 : decode cX5_readSheetNumber 52 = .ok (.iload_n 1, 1) := by decide +kernel
theorem dX5_readSheetNumber_53 : decode cX5_readSheetNumber 53 = .ok (.aload_n 0, 1) := by decide +kernel
theorem dX5_readSheetNumber_54 : decode cX5_readSheetNumber 54 = .ok (.getfield 34, 3) := by decide +kernel
theorem dX5_readSheetNumber_57 : decode cX5_readSheetNumber 57 = .ok (.invokevirtual 182, 3) := by decide +kernel
theorem dX5_readSheetNumber_60 : decode cX5_readSheetNumber 60 = .ok (.ifCond .eq 8, 3) := by decide +kernel
theorem dX5_readSheetNumber_63 : decode cX5_readSheetNumber 63 = .ok (.aload_n 0, 1) := by decide +kernel
theorem dX5_readSheetNumber_64 : decode cX5_readSheetNumber 64 = .ok (.iconst 4, 1) := by decide +kernel
theorem dX5_readSheetNumber_65 : decode cX5_readSheetNumber 65 = .ok (.invokevirtual 118, 3) := by decide +kernel
theorem dX5_readSheetNumber_68 : decode cX5_readSheetNumber 68 = .ok (.aload_n 0, 1) := by decide +kernel
theorem dX5_readSheetNumber_69 : decode cX5_readSheetNumber 69 = .ok (.sipush 9999, 3) := by decide +kernel
theorem dX5_readSheetNumber_72 : decode cX5_readSheetNumber 72 = .ok (.invokevirtual 133, 3) := by decide +kernel
theorem dX5_readSheetNumber_75 : decode cX5_readSheetNumber 75 = .ok (.ireturn, 1) := by decide +kernel
theorem dX5_readTier_0 : decode cX5_readTier 0 = .ok (.iload_n 1, 1) := by decide +kernel
theorem dX5_readTier_1 : decode cX5_readTier 1 = .ok (.ifCond .ne 14, 3) := by decide +kernel
theorem dX5_readTier_4 : decode cX5_readTier 4 = .ok (.iload_n 2, 1) := by decide +kernel
theorem dX5_readTier_5 : decode cX5_readTier 5 = .ok (.bipush 6, 2) := by decide +kernel
theorem dX5_readTier_7 : decode cX5_readTier 7 = .ok (.if_icmp .lt 8, 3) := by decide +kernel
theorem dX5_readTier_10 : decode cX5_readTier 10 = .ok (.aload_n 0, 1) := by decide +kernel
theorem dX5_readTier_11 : decode cX5_readTier 11 = .ok (.invokevirtual 186, 3) := by decide +kernel
theorem dX5_readTier_14 : decode cX5_readTier 14 = .ok (.return_, 1) := by decide +kernel
theorem dX5_readTier_15 : decode cX5_readTier 15 = .ok (.iload_n 1, 1) := by decide +kernel
theorem dX5_readTier_16 : decode cX5_readTier 16 = .ok (.iconst 4, 1) := by decide +kernel
theorem dX5_readTier_17 : decode cX5_readTier 17 = .ok (.if_icmp .le 9, 3) := by decide +kernel
theorem dX5_readTier_20 : decode cX5_readTier 20 = .ok (.aload_n 0, 1) := by decide +kernel
theorem dX5_readTier_21 : decode cX5_readTier 21 = .ok (.iload_n 2, 1) := by decide +kernel
theorem dX5_readTier_22 : decode cX5_readTier 22 = .ok (.invokevirtual 189, 3) := by decide +kernel
theorem dX5_readTier_25 : decode cX5_readTier 25 = .ok (.return_, 1) := by decide +kernel
theorem dX5_readTier_26 : decode cX5_readTier 26 = .ok (.iload_n 1, 1) := by decide +kernel
theorem dX5_readTier_27 : decode cX5_readTier 27 = .ok (.iconst 2, 1) := by decide +kernel
theorem dX5_readTier_28 : decode cX5_readTier 28 = .ok (.if_icmp .ne 10, 3) := by decide +kernel
theorem dX5_readTier_31 : decode cX5_readTier 31 = .ok (.aload_n 0, 1) := by decide +kernel
theorem dX5_readTier_32 : decode cX5_readTier 32 = .ok (.invokevirtual 192, 3) := by decide +kernel
theorem dX5_readTier_35 : decode cX5_readTier 35 = .ok (.goto 4, 3) := by decide +kernel
theorem dX5_readTier_38 : decode cX5_readTier 38 = .ok (.iconst 0, 1) := by decide +kernel
theorem dX5_readTier_39 : decode cX5_readTier 39 = .ok (.istore_n 3, 1) := by decide +kernel
theorem dX5_readTier_40 : decode cX5_readTier 40 = .ok (.aload_n 0, 1) := by decide +kernel
theorem dX5_readTier_41 : decode cX5_readTier 41 = .ok (.iload_n 1, 1) := by decide +kernel
theorem dX5_readTier_42 : decode cX5_readTier 42 = .ok (.iconst 1, 1) := by decide +kernel
theorem dX5_readTier_43 : decode cX5_readTier 43 = .ok (.iadd, 1) := by decide +kernel
theorem dX5_readTier_44 : decode cX5_readTier 44 = .ok (.iload_n 2, 1) := by decide +kernel
theorem dX5_readTier_45 : decode cX5_readTier 45 = .ok (.invokevirtual 175, 3) := by decide +kernel
theorem dX5_readTier_48 : decode cX5_readTier 48 = .ok (.aload_n 0, 1) := by decide +kernel
theorem dX5_readTier_49 : decode cX5_readTier 49 = .ok (.iload_n 1, 1) := by decide +kernel
theorem dX5_readTier_50 : decode cX5_readTier 50 = .ok (.invokevirtual 195, 3) := by decide +kernel
theorem dX5_readTier_53 : decode cX5_readTier 53 = .ok (.istore 4, 2) := by decide +kernel
theorem dX5_readTier_55 : decode cX5_readTier 55 = .ok (.iconst 0, 1) := by decide +kernel
theorem dX5_readTier_56 : decode cX5_readTier 56 = .ok (.istore 5, 2) := by decide +kernel
theorem dX5_readTier_58 : decode cX5_readTier 58 = .ok (.iload 5, 2) := by decide +kernel
theorem dX5_readTier_60 : decode cX5_readTier 60 = .ok (.sipush 700, 3) := by decide +kernel
theorem dX5_readTier_63 : decode cX5_readTier 63 = .ok (.if_icmp .ge 51, 3) := by decide +kernel
theorem dX5_readTier_66 : decode cX5_readTier 66 = .ok (.iload 4, 2) := by decide +kernel
theorem dX5_readTier_68 : decode cX5_readTier 68 = .ok (.ifCond .eq 46, 3) := by decide +kernel
theorem dX5_readTier_71 : decode cX5_readTier 71 = .ok (.aload_n 0, 1) := by decide +kernel
theorem dX5_readTier_72 : decode cX5_readTier 72 = .ok (.invokevirtual 66, 3) := by decide +kernel
theorem dX5_readTier_75 : decode cX5_readTier 75 = .ok (.aload_n 0, 1) := by decide +kernel
theorem dX5_readTier_76 : decode cX5_readTier 76 = .ok (.iload_n 1, 1) := by decide +kernel
theorem dX5_readTier_77 : decode cX5_readTier 77 = .ok (.iconst 1, 1) := by decide +kernel
theorem dX5_readTier_78 : decode cX5_readTier 78 = .ok (.iadd, 1) := by decide +kernel
theorem dX5_readTier_79 : decode cX5_readTier 79 = .ok (.iload_n 2, 1) := by decide +kernel
theorem dX5_readTier_80 : decode cX5_readTier 80 = .ok (.invokevirtual 175, 3) := by decide +kernel
theorem dX5_readTier_83 : decode cX5_readTier 83 = .ok (.aload_n 0, 1) := by decide +kernel
theorem dX5_readTier_84 : decode cX5_readTier 84 = .ok (.getfield 51, 3) := by decide +kernel
theorem dX5_readTier_87 : decode cX5_readTier 87 = .ok (.iload 4, 2) := by decide +kernel
theorem dX5_readTier_89 : decode cX5_readTier 89 = .ok (.invokevirtual 198, 3) := by decide +kernel
theorem dX5_readTier_92 : decode cX5_readTier 92 = .ok (.iload_n 1, 1) := by decide +kernel
theorem dX5_readTier_93 : decode cX5_readTier 93 = .ok (.iconst 2, 1) := by decide +kernel
theorem dX5_readTier_94 : decode cX5_readTier 94 = .ok (.if_icmp .ne 7, 3) := by decide +kernel
theorem dX5_readTier_97 : decode cX5_readTier 97 = .ok (.iconst 0, 1) := by decide +kernel
theorem dX5_readTier_98 : decode cX5_readTier 98 = .ok (.goto 8, 3) := by decide +kernel
theorem dX5_readTier_101 : decode cX5_readTier 101 = .ok (.aload_n 0, 1) := by decide +kernel
theorem dX5_readTier_102 : decode cX5_readTier 102 = .ok (.iload_n 1, 1) := by decide +kernel
theorem dX5_readTier_103 : decode cX5_readTier 103 = .ok (.invokevirtual 195, 3) := by decide +kernel
theorem dX5_readTier_106 : decode cX5_readTier 106 = .ok (.istore 4, 2) := by decide +kernel
theorem dX5_readTier_108 : decode cX5_readTier 108 = .ok (.iinc 5 1, 3) := by decide +kernel
theorem dX5_readTier_111 : decode cX5_readTier 111 = .ok (.goto (-53), 3) := by decide +kernel
theorem dX5_readTier_114 : decode cX5_readTier 114 = .ok (.iconst 0, 1) := by decide +kernel
theorem dX5_readTier_115 : decode cX5_readTier 115 = .ok (.istore 5, 2) := by decide +kernel
theorem dX5_readTier_117 : decode cX5_readTier 117 = .ok (.iload 5, 2) := by decide +kernel
theorem dX5_readTier_119 : decode cX5_readTier 119 = .ok (.iload_n 3, 1) := by decide +kernel
theorem dX5_readTier_120 : decode cX5_readTier 120 = .ok (.if_icmp .ge 18, 3) := by decide +kernel
theorem dX5_readTier_123 : decode cX5_readTier 123 = .ok (.aload_n 0, 1) := by decide +kernel
theorem dX5_readTier_124 : decode cX5_readTier 124 = .ok (.getfield 51, 3) := by decide +kernel
theorem dX5_readTier_127 : decode cX5_readTier 127 = .ok (.bipush (-3), 2) := by decide +kernel
theorem dX5_readTier_129 : decode cX5_readTier 129 = .ok (.invokevirtual 198, 3) := by decide +kernel
theorem dX5_readTier_132 : decode cX5_readTier 132 = .ok (.iinc 5 1, 3) := by decide +kernel
theorem dX5_readTier_135 : decode cX5_readTier 135 = .ok (.goto (-18), 3) := by decide +kernel
theorem dX5_readTier_138 : decode cX5_readTier 138 = .ok (.return_, 1) := by decide +kernel
theorem dX5_failTooDeep_0 : decode cX5_failTooDeep 0 = .ok (.aload_n 0, 1) := by decide +kernel
theorem dX5_failTooDeep_1 : decode cX5_failTooDeep 1 = .ok (.getfield 25, 3) := by decide +kernel
theorem dX5_failTooDeep_4 : decode cX5_failTooDeep 4 = .ok (.iconst 2, 1) := by decide +kernel
theorem dX5_failTooDeep_5 : decode cX5_failTooDeep 5 = .ok (.if_icmp .eq 20, 3) := by decide +kernel
theorem dX5_failTooDeep_8 : decode cX5_failTooDeep 8 = .ok (.aload_n 0, 1) := by decide +kernel
theorem dX5_failTooDeep_9 : decode cX5_failTooDeep 9 = .ok (.getfield 25, 3) := by decide +kernel
theorem dX5_failTooDeep_12 : decode cX5_failTooDeep 12 = .ok (.iconst 1, 1) := by decide +kernel
theorem dX5_failTooDeep_13 : decode cX5_failTooDeep 13 = .ok (.if_icmp .eq 12, 3) := by decide +kernel
theorem dX5_failTooDeep_16 : decode cX5_failTooDeep 16 = .ok (.aload_n 0, 1) := by decide +kernel
theorem dX5_failTooDeep_17 : decode cX5_failTooDeep 17 = .ok (.bipush 40, 2) := by decide +kernel
theorem dX5_failTooDeep_19 : decode cX5_failTooDeep 19 = .ok (.invokevirtual 178, 3) := by decide +kernel
theorem dX5_failTooDeep_22 : decode cX5_failTooDeep 22 = .ok (.ifCond .eq 7, 3) := by decide +kernel
theorem dX5_failTooDeep_25 : decode cX5_failTooDeep 25 = .ok (.iconst 1, 1) := by decide +kernel
theorem dX5_failTooDeep_26 : decode cX5_failTooDeep 26 = .ok (.goto 4, 3) := by decide +kernel
theorem dX5_failTooDeep_29 : decode cX5_failTooDeep 29 = .ok (.iconst 0, 1) := by decide +kernel
theorem dX5_failTooDeep_30 : decode cX5_failTooDeep 30 = .ok (.istore_n 1, 1) := by decide +kernel
theorem dX5_failTooDeep_31 : decode cX5_failTooDeep 31 = .ok (.aload_n 0, 1) := by decide +kernel
theorem dX5_failTooDeep_32 : decode cX5_failTooDeep 32 = .ok (.iload_n 1, 1) := by decide +kernel
theorem dX5_failTooDeep_33 : decode cX5_failTooDeep 33 = .ok (.ifCond .eq 7, 3) := by decide +kernel
theorem dX5_failTooDeep_36 : decode cX5_failTooDeep 36 = .ok (.iconst 2, 1) := by decide +kernel
theorem dX5_failTooDeep_37 : decode cX5_failTooDeep 37 = .ok (.goto 4, 3) := by decide +kernel
theorem dX5_failTooDeep_40 : decode cX5_failTooDeep 40 = .ok (.iconst 1, 1) := by decide +kernel
theorem dX5_failTooDeep_41 : decode cX5_failTooDeep 41 = .ok (.invokevirtual 118, 3) := by decide +kernel
theorem dX5_failTooDeep_44 : decode cX5_failTooDeep 44 = .ok (.return_, 1) := by decide +kernel
theorem dX5_readNots_0 : decode cX5_readNots 0 = .ok (.iconst 0, 1) := by decide +kernel
theorem dX5_readNots_1 : decode cX5_readNots 1 = .ok (.istore_n 1, 1) := by decide +kernel
theorem dX5_readNots_2 : decode cX5_readNots 2 = .ok (.iload_n 1, 1) := by decide +kernel
theorem dX5_readNots_3 : decode cX5_readNots 3 = .ok (.bipush 6, 2) := by decide +kernel
theorem dX5_readNots_5 : decode cX5_readNots 5 = .ok (.if_icmp .ge 22, 3) := by decide +kernel
theorem dX5_readNots_8 : decode cX5_readNots 8 = .ok (.aload_n 0, 1) := by decide +kernel
theorem dX5_readNots_9 : decode cX5_readNots 9 = .ok (.ldc 201, 2) := by decide +kernel
theorem dX5_readNots_11 : decode cX5_readNots 11 = .ok (.invokevirtual 87, 3) := by decide +kernel
theorem dX5_readNots_14 : decode cX5_readNots 14 = .ok (.ifCond .eq 13, 3) := by decide +kernel
theorem dX5_readNots_17 : decode cX5_readNots 17 = .ok (.iinc 1 1, 3) := by decide +kernel
theorem dX5_readNots_20 : decode cX5_readNots 20 = .ok (.aload_n 0, 1) := by decide +kernel
theorem dX5_readNots_21 : decode cX5_readNots 21 = .ok (.invokevirtual 66, 3) := by decide +kernel
theorem dX5_readNots_24 : decode cX5_readNots 24 = .ok (.goto (-22), 3) := by decide +kernel
theorem dX5_readNots_27 : decode cX5_readNots 27 = .ok (.aload_n 0, 1) := by decide +kernel
theorem dX5_readNots_28 : decode cX5_readNots 28 = .ok (.ldc 201, 2) := by decide +kernel
theorem dX5_readNots_30 : decode cX5_readNots 30 = .ok (.invokevirtual 87, 3) := by decide +kernel
theorem dX5_readNots_33 : decode cX5_readNots 33 = .ok (.ifCond .eq 8, 3) := by decide +kernel
theorem dX5_readNots_36 : decode cX5_readNots 36 = .ok (.aload_n 0, 1) := by decide +kernel
theorem dX5_readNots_37 : decode cX5_readNots 37 = .ok (.iconst 2, 1) := by decide +kernel
theorem dX5_readNots_38 : decode cX5_readNots 38 = .ok (.invokevirtual 118, 3) := by decide +kernel
theorem dX5_readNots_41 : decode cX5_readNots 41 = .ok (.iload_n 1, 1) := by decide +kernel
theorem dX5_readNots_42 : decode cX5_readNots 42 = .ok (.ireturn, 1) := by decide +kernel
theorem dX5_operatorOf_0 : decode cX5_operatorOf 0 = .ok (.iload_n 1, 1) := by decide +kernel
theorem dX5_operatorOf_1 : decode cX5_operatorOf 1 = .ok (.tableswitch 122 0 3 #[31, 46, 62, 92], 31) := by decide +kernel
theorem dX5_operatorOf_32 : decode cX5_operatorOf 32 = .ok (.aload_n 0, 1) := by decide +kernel
theorem dX5_operatorOf_33 : decode cX5_operatorOf 33 = .ok (.ldc 203, 2) := by decide +kernel
theorem dX5_operatorOf_35 : decode cX5_operatorOf 35 = .ok (.invokevirtual 87, 3) := by decide +kernel
theorem dX5_operatorOf_38 : decode cX5_operatorOf 38 = .ok (.ifCond .eq 7, 3) := by decide +kernel
theorem dX5_operatorOf_41 : decode cX5_operatorOf 41 = .ok (.iconst (-1), 1) := by decide +kernel
theorem dX5_operatorOf_42 : decode cX5_operatorOf 42 = .ok (.goto 4, 3) := by decide +kernel
theorem dX5_operatorOf_45 : decode cX5_operatorOf 45 = .ok (.iconst 0, 1) := by decide +kernel
theorem dX5_operatorOf_46 : decode cX5_operatorOf 46 = .ok (.ireturn, 1) := by decide +kernel
theorem dX5_operatorOf_47 : decode cX5_operatorOf 47 = .ok (.aload_n 0, 1) := by decide +kernel
theorem dX5_operatorOf_48 : decode cX5_operatorOf 48 = .ok (.ldc 205, 2) := by decide +kernel
theorem dX5_operatorOf_50 : decode cX5_operatorOf 50 = .ok (.invokevirtual 87, 3) := by decide +kernel
theorem dX5_operatorOf_53 : decode cX5_operatorOf 53 = .ok (.ifCond .eq 8, 3) := by decide +kernel
theorem dX5_operatorOf_56 : decode cX5_operatorOf 56 = .ok (.bipush (-2), 2) := by decide +kernel
theorem dX5_operatorOf_58 : decode cX5_operatorOf 58 = .ok (.goto 4, 3) := by decide +kernel
theorem dX5_operatorOf_61 : decode cX5_operatorOf 61 = .ok (.iconst 0, 1) := by decide +kernel
theorem dX5_operatorOf_62 : decode cX5_operatorOf 62 = .ok (.ireturn, 1) := by decide +kernel
theorem dX5_operatorOf_63 : decode cX5_operatorOf 63 = .ok (.aload_n 0, 1) := by decide +kernel
theorem dX5_operatorOf_64 : decode cX5_operatorOf 64 = .ok (.bipush 60, 2) := by decide +kernel
theorem dX5_operatorOf_66 : decode cX5_operatorOf 66 = .ok (.invokevirtual 178, 3) := by decide +kernel
theorem dX5_operatorOf_69 : decode cX5_operatorOf 69 = .ok (.ifCond .eq 8, 3) := by decide +kernel
theorem dX5_operatorOf_72 : decode cX5_operatorOf 72 = .ok (.bipush (-4), 2) := by decide +kernel
theorem dX5_operatorOf_74 : decode cX5_operatorOf 74 = .ok (.goto 18, 3) := by decide +kernel
theorem dX5_operatorOf_77 : decode cX5_operatorOf 77 = .ok (.aload_n 0, 1) := by decide +kernel
theorem dX5_operatorOf_78 : decode cX5_operatorOf 78 = .ok (.bipush 61, 2) := by decide +kernel
theorem dX5_operatorOf_80 : decode cX5_operatorOf 80 = .ok (.invokevirtual 178, 3) := by decide +kernel
theorem dX5_operatorOf_83 : decode cX5_operatorOf 83 = .ok (.ifCond .eq 8, 3) := by decide +kernel
theorem dX5_operatorOf_86 : decode cX5_operatorOf 86 = .ok (.bipush (-5), 2) := by decide +kernel
theorem dX5_operatorOf_88 : decode cX5_operatorOf 88 = .ok (.goto 4, 3) := by decide +kernel
theorem dX5_operatorOf_91 : decode cX5_operatorOf 91 = .ok (.iconst 0, 1) := by decide +kernel
theorem dX5_operatorOf_92 : decode cX5_operatorOf 92 = .ok (.ireturn, 1) := by decide +kernel
theorem dX5_operatorOf_93 : decode cX5_operatorOf 93 = .ok (.aload_n 0, 1) := by decide +kernel
theorem dX5_operatorOf_94 : decode cX5_operatorOf 94 = .ok (.bipush 43, 2) := by decide +kernel
theorem dX5_operatorOf_96 : decode cX5_operatorOf 96 = .ok (.invokevirtual 178, 3) := by decide +kernel
theorem dX5_operatorOf_99 : decode cX5_operatorOf 99 = .ok (.ifCond .eq 8, 3) := by decide +kernel
theorem dX5_operatorOf_102 : decode cX5_operatorOf 102 = .ok (.bipush (-6), 2) := by decide +kernel
theorem dX5_operatorOf_104 : decode cX5_operatorOf 104 = .ok (.goto 18, 3) := by decide +kernel
theorem dX5_operatorOf_107 : decode cX5_operatorOf 107 = .ok (.aload_n 0, 1) := by decide +kernel
theorem dX5_operatorOf_108 : decode cX5_operatorOf 108 = .ok (.bipush 45, 2) := by decide +kernel
theorem dX5_operatorOf_110 : decode cX5_operatorOf 110 = .ok (.invokevirtual 178, 3) := by decide +kernel
theorem dX5_operatorOf_113 : decode cX5_operatorOf 113 = .ok (.ifCond .eq 8, 3) := by decide +kernel
theorem dX5_operatorOf_116 : decode cX5_operatorOf 116 = .ok (.bipush (-7), 2) := by decide +kernel
theorem dX5_operatorOf_118 : decode cX5_operatorOf 118 = .ok (.goto 4, 3) := by decide +kernel
theorem dX5_operatorOf_121 : decode cX5_operatorOf 121 = .ok (.iconst 0, 1) := by decide +kernel
theorem dX5_operatorOf_122 : decode cX5_operatorOf 122 = .ok (.ireturn, 1) := by decide +kernel
theorem dX5_operatorOf_123 : decode cX5_operatorOf 123 = .ok (.aload_n 0, 1) := by decide +kernel
theorem dX5_operatorOf_124 : decode cX5_operatorOf 124 = .ok (.bipush 42, 2) := by decide +kernel
theorem dX5_operatorOf_126 : decode cX5_operatorOf 126 = .ok (.invokevirtual 178, 3) := by decide +kernel
theorem dX5_operatorOf_129 : decode cX5_operatorOf 129 = .ok (.ifCond .eq 8, 3) := by decide +kernel
theorem dX5_operatorOf_132 : decode cX5_operatorOf 132 = .ok (.bipush (-8), 2) := by decide +kernel
theorem dX5_operatorOf_134 : decode cX5_operatorOf 134 = .ok (.goto 18, 3) := by decide +kernel
theorem dX5_operatorOf_137 : decode cX5_operatorOf 137 = .ok (.aload_n 0, 1) := by decide +kernel
theorem dX5_operatorOf_138 : decode cX5_operatorOf 138 = .ok (.bipush 47, 2) := by decide +kernel
theorem dX5_operatorOf_140 : decode cX5_operatorOf 140 = .ok (.invokevirtual 178, 3) := by decide +kernel
theorem dX5_operatorOf_143 : decode cX5_operatorOf 143 = .ok (.ifCond .eq 8, 3) := by decide +kernel
theorem dX5_operatorOf_146 : decode cX5_operatorOf 146 = .ok (.bipush (-9), 2) := by decide +kernel
theorem dX5_operatorOf_148 : decode cX5_operatorOf 148 = .ok (.goto 4, 3) := by decide +kernel
theorem dX5_operatorOf_151 : decode cX5_operatorOf 151 = .ok (.iconst 0, 1) := by decide +kernel
theorem dX5_operatorOf_152 : decode cX5_operatorOf 152 = .ok (.ireturn, 1) := by decide +kernel
theorem dX5_readPart_0 : decode cX5_readPart 0 = .ok (.aload_n 0, 1) := by decide +kernel
theorem dX5_readPart_1 : decode cX5_readPart 1 = .ok (.getfield 25, 3) := by decide +kernel
theorem dX5_readPart_4 : decode cX5_readPart 4 = .ok (.iconst 2, 1) := by decide +kernel
theorem dX5_readPart_5 : decode cX5_readPart 5 = .ok (.if_icmp .ne 20, 3) := by decide +kernel
theorem dX5_readPart_8 : decode cX5_readPart 8 = .ok (.aload_n 0, 1) := by decide +kernel
theorem dX5_readPart_9 : decode cX5_readPart 9 = .ok (.getfield 51, 3) := by decide +kernel
theorem dX5_readPart_12 : decode cX5_readPart 12 = .ok (.aload_n 0, 1) := by decide +kernel
theorem dX5_readPart_13 : decode cX5_readPart 13 = .ok (.sipush 9999, 3) := by decide +kernel
theorem dX5_readPart_16 : decode cX5_readPart 16 = .ok (.invokevirtual 133, 3) := by decide +kernel
theorem dX5_readPart_19 : decode cX5_readPart 19 = .ok (.invokevirtual 198, 3) := by decide +kernel
theorem dX5_readPart_22 : decode cX5_readPart 22 = .ok (.goto 97, 3) := by decide +kernel
theorem dX5_readPart_25 : decode cX5_readPart 25 = .ok (.aload_n 0, 1) := by decide +kernel
theorem dX5_readPart_26 : decode cX5_readPart 26 = .ok (.getfield 25, 3) := by decide +kernel
theorem dX5_readPart_29 : decode cX5_readPart 29 = .ok (.iconst 1, 1) := by decide +kernel
theorem dX5_readPart_30 : decode cX5_readPart 30 = .ok (.if_icmp .ne 54, 3) := by decide +kernel
theorem dX5_readPart_33 : decode cX5_readPart 33 = .ok (.aload_n 0, 1) := by decide +kernel
theorem dX5_readPart_34 : decode cX5_readPart 34 = .ok (.getfield 21, 3) := by decide +kernel
theorem dX5_readPart_37 : decode cX5_readPart 37 = .ok (.ifCond .eq 10, 3) := by decide +kernel
theorem dX5_readPart_40 : decode cX5_readPart 40 = .ok (.aload_n 0, 1) := by decide +kernel
theorem dX5_readPart_41 : decode cX5_readPart 41 = .ok (.invokevirtual 207, 3) := by decide +kernel
theorem dX5_readPart_44 : decode cX5_readPart 44 = .ok (.goto 7, 3) := by decide +kernel
theorem dX5_readPart_47 : decode cX5_readPart 47 = .ok (.aload_n 0, 1) := by decide +kernel
theorem dX5_readPart_48 : decode cX5_readPart 48 = .ok (.invokevirtual 210, 3) := by decide +kernel
theorem dX5_readPart_51 : decode cX5_readPart 51 = .ok (.istore_n 2, 1) := by decide +kernel
theorem dX5_readPart_52 : decode cX5_readPart 52 = .ok (.iload_n 2, 1) := by decide +kernel
theorem dX5_readPart_53 : decode cX5_readPart 53 = .ok (.iconst (-1), 1) := by decide +kernel
theorem dX5_readPart_54 : decode cX5_readPart 54 = .ok (.if_icmp .ne 11, 3) := by decide +kernel
theorem dX5_readPart_57 : decode cX5_readPart 57 = .ok (.aload_n 0, 1) := by decide +kernel
theorem dX5_readPart_58 : decode cX5_readPart 58 = .ok (.iconst 3, 1) := by decide +kernel
theorem dX5_readPart_59 : decode cX5_readPart 59 = .ok (.invokevirtual 118, 3) := by decide +kernel
theorem dX5_readPart_62 : decode cX5_readPart 62 = .ok (.goto 19, 3) := by decide +kernel
theorem dX5_readPart_65 : decode cX5_readPart 65 = .ok (.aload_n 0, 1) := by decide +kernel
theorem dX5_readPart_66 : decode cX5_readPart 66 = .ok (.getfield 51, 3) := by decide +kernel
theorem dX5_readPart_69 : decode cX5_readPart 69 = .ok (.sipush 10000, 3) := by decide +kernel
theorem dX5_readPart_72 : decode cX5_readPart 72 = .ok (.iload_n 2, 1) := by decide +kernel
theorem dX5_readPart_73 : decode cX5_readPart 73 = .ok (.iadd, 1) := by decide +kernel
theorem dX5_readPart_74 : decode cX5_readPart 74 = .ok (.invokevirtual 198, 3) := by decide +kernel
theorem dX5_readPart_77 : decode cX5_readPart 77 = .ok (.aload_n 0, 1) := by decide +kernel
theorem dX5_readPart_78 : decode cX5_readPart 78 = .ok (.invokevirtual 66, 3) := by decide +kernel
theorem dX5_readPart_81 : decode cX5_readPart 81 = .ok (.goto 38, 3) := by decide +kernel
theorem dX5_readPart_84 : decode cX5_readPart 84 = .ok (.aload_n 0, 1) := by decide +kernel
theorem dX5_readPart_85 : decode cX5_readPart 85 = .ok (.bipush 40, 2) := by decide +kernel
theorem dX5_readPart_87 : decode cX5_readPart 87 = .ok (.invokevirtual 178, 3) := by decide +kernel
theorem dX5_readPart_90 : decode cX5_readPart 90 = .ok (.ifCond .eq 24, 3) := by decide +kernel
theorem dX5_readPart_93 : decode cX5_readPart 93 = .ok (.aload_n 0, 1) := by decide +kernel
theorem dX5_readPart_94 : decode cX5_readPart 94 = .ok (.invokevirtual 66, 3) := by decide +kernel
theorem dX5_readPart_97 : decode cX5_readPart 97 = .ok (.aload_n 0, 1) := by decide +kernel
theorem dX5_readPart_98 : decode cX5_readPart 98 = .ok (.iconst 0, 1) := by decide +kernel
theorem dX5_readPart_99 : decode cX5_readPart 99 = .ok (.iload_n 1, 1) := by decide +kernel
theorem dX5_readPart_100 : decode cX5_readPart 100 = .ok (.iconst 1, 1) := by decide +kernel
theorem dX5_readPart_101 : decode cX5_readPart 101 = .ok (.iadd, 1) := by decide +kernel
theorem dX5_readPart_102 : decode cX5_readPart 102 = .ok (.invokevirtual 175, 3) := by decide +kernel
theorem dX5_readPart_105 : decode cX5_readPart 105 = .ok (.aload_n 0, 1) := by decide +kernel
theorem dX5_readPart_106 : decode cX5_readPart 106 = .ok (.bipush 41, 2) := by decide +kernel
theorem dX5_readPart_108 : decode cX5_readPart 108 = .ok (.invokevirtual 122, 3) := by decide +kernel
theorem dX5_readPart_111 : decode cX5_readPart 111 = .ok (.goto 8, 3) := by decide +kernel
theorem dX5_readPart_114 : decode cX5_readPart 114 = .ok (.aload_n 0, 1) := by decide +kernel
theorem dX5_readPart_115 : decode cX5_readPart 115 = .ok (.iconst 1, 1) := by decide +kernel
theorem dX5_readPart_116 : decode cX5_readPart 116 = .ok (.invokevirtual 118, 3) := by decide +kernel
theorem dX5_readPart_119 : decode cX5_readPart 119 = .ok (.return_, 1) := by decide +kernel
theorem dX5_townSlot_0 : decode cX5_townSlot 0 = .ok (.aload_n 0, 1) := by decide +kernel
theorem dX5_townSlot_1 : decode cX5_townSlot 1 = .ok (.ldc 213, 2) := by decide +kernel
theorem dX5_townSlot_3 : decode cX5_townSlot 3 = .ok (.invokevirtual 87, 3) := by decide +kernel
theorem dX5_townSlot_6 : decode cX5_townSlot 6 = .ok (.ifCond .eq 7, 3) := by decide +kernel
theorem dX5_townSlot_9 : decode cX5_townSlot 9 = .ok (.iconst 0, 1) := by decide +kernel
theorem dX5_townSlot_10 : decode cX5_townSlot 10 = .ok (.goto 56, 3) := by decide +kernel
theorem dX5_townSlot_13 : decode cX5_townSlot 13 = .ok (.aload_n 0, 1) := by decide +kernel
theorem dX5_townSlot_14 : decode cX5_townSlot 14 = .ok (.ldc 217, 2) := by decide +kernel
theorem dX5_townSlot_16 : decode cX5_townSlot 16 = .ok (.invokevirtual 87, 3) := by decide +kernel
theorem dX5_townSlot_19 : decode cX5_townSlot 19 = .ok (.ifCond .eq 7, 3) := by decide +kernel
theorem dX5_townSlot_22 : decode cX5_townSlot 22 = .ok (.iconst 1, 1) := by decide +kernel
theorem dX5_townSlot_23 : decode cX5_townSlot 23 = .ok (.goto 43, 3) := by decide +kernel
theorem dX5_townSlot_26 : decode cX5_townSlot 26 = .ok (.aload_n 0, 1) := by decide +kernel
theorem dX5_townSlot_27 : decode cX5_townSlot 27 = .ok (.ldc 219, 2) := by decide +kernel
theorem dX5_townSlot_29 : decode cX5_townSlot 29 = .ok (.invokevirtual 87, 3) := by decide +kernel
theorem dX5_townSlot_32 : decode cX5_townSlot 32 = .ok (.ifCond .eq 7, 3) := by decide +kernel
theorem dX5_townSlot_35 : decode cX5_townSlot 35 = .ok (.iconst 2, 1) := by decide +kernel
theorem dX5_townSlot_36 : decode cX5_townSlot 36 = .ok (.goto 30, 3) := by decide +kernel
theorem dX5_townSlot_39 : decode cX5_townSlot 39 = .ok (.aload_n 0, 1) := by decide +kernel
theorem dX5_townSlot_40 : decode cX5_townSlot 40 = .ok (.ldc 220, 2) := by decide +kernel
theorem dX5_townSlot_42 : decode cX5_townSlot 42 = .ok (.invokevirtual 87, 3) := by decide +kernel
theorem dX5_townSlot_45 : decode cX5_townSlot 45 = .ok (.ifCond .eq 7, 3) := by decide +kernel
theorem dX5_townSlot_48 : decode cX5_townSlot 48 = .ok (.iconst 3, 1) := by decide +kernel
theorem dX5_townSlot_49 : decode cX5_townSlot 49 = .ok (.goto 17, 3) := by decide +kernel
theorem dX5_townSlot_52 : decode cX5_townSlot 52 = .ok (.aload_n 0, 1) := by decide +kernel
theorem dX5_townSlot_53 : decode cX5_townSlot 53 = .ok (.ldc 221, 2) := by decide +kernel
theorem dX5_townSlot_55 : decode cX5_townSlot 55 = .ok (.invokevirtual 87, 3) := by decide +kernel
theorem dX5_townSlot_58 : decode cX5_townSlot 58 = .ok (.ifCond .eq 7, 3) := by decide +kernel
theorem dX5_townSlot_61 : decode cX5_townSlot 61 = .ok (.iconst 4, 1) := by decide +kernel
theorem dX5_townSlot_62 : decode cX5_townSlot 62 = .ok (.goto 4, 3) := by decide +kernel
theorem dX5_townSlot_65 : decode cX5_townSlot 65 = .ok (.iconst (-1), 1) := by decide +kernel
theorem dX5_townSlot_66 : decode cX5_townSlot 66 = .ok (.ireturn, 1) := by decide +kernel
theorem dX5_sheetSlot_0 : decode cX5_sheetSlot 0 = .ok (.aload_n 0, 1) := by decide +kernel
theorem dX5_sheetSlot_1 : decode cX5_sheetSlot 1 = .ok (.ldc 213, 2) := by decide +kernel
theorem dX5_sheetSlot_3 : decode cX5_sheetSlot 3 = .ok (.invokevirtual 87, 3) := by decide +kernel
theorem dX5_sheetSlot_6 : decode cX5_sheetSlot 6 = .ok (.ifCond .eq 7, 3) := by decide +kernel
theorem dX5_sheetSlot_9 : decode cX5_sheetSlot 9 = .ok (.iconst 0, 1) := by decide +kernel
theorem dX5_sheetSlot_10 : decode cX5_sheetSlot 10 = .ok (.goto 69, 3) := by decide +kernel
theorem dX5_sheetSlot_13 : decode cX5_sheetSlot 13 = .ok (.aload_n 0, 1) := by decide +kernel
theorem dX5_sheetSlot_14 : decode cX5_sheetSlot 14 = .ok (.ldc 217, 2) := by decide +kernel
theorem dX5_sheetSlot_16 : decode cX5_sheetSlot 16 = .ok (.invokevirtual 87, 3) := by decide +kernel
theorem dX5_sheetSlot_19 : decode cX5_sheetSlot 19 = .ok (.ifCond .eq 7, 3) := by decide +kernel
theorem dX5_sheetSlot_22 : decode cX5_sheetSlot 22 = .ok (.iconst 1, 1) := by decide +kernel
theorem dX5_sheetSlot_23 : decode cX5_sheetSlot 23 = .ok (.goto 56, 3) := by decide +kernel
theorem dX5_sheetSlot_26 : decode cX5_sheetSlot 26 = .ok (.aload_n 0, 1) := by decide +kernel
theorem dX5_sheetSlot_27 : decode cX5_sheetSlot 27 = .ok (.ldc 223, 2) := by decide +kernel
theorem dX5_sheetSlot_29 : decode cX5_sheetSlot 29 = .ok (.invokevirtual 87, 3) := by decide +kernel
theorem dX5_sheetSlot_32 : decode cX5_sheetSlot 32 = .ok (.ifCond .eq 7, 3) := by decide +kernel
theorem dX5_sheetSlot_35 : decode cX5_sheetSlot 35 = .ok (.iconst 2, 1) := by decide +kernel
theorem dX5_sheetSlot_36 : decode cX5_sheetSlot 36 = .ok (.goto 43, 3) := by decide +kernel
theorem dX5_sheetSlot_39 : decode cX5_sheetSlot 39 = .ok (.aload_n 0, 1) := by decide +kernel
theorem dX5_sheetSlot_40 : decode cX5_sheetSlot 40 = .ok (.ldc 225, 2) := by decide +kernel
theorem dX5_sheetSlot_42 : decode cX5_sheetSlot 42 = .ok (.invokevirtual 87, 3) := by decide +kernel
theorem dX5_sheetSlot_45 : decode cX5_sheetSlot 45 = .ok (.ifCond .eq 7, 3) := by decide +kernel
theorem dX5_sheetSlot_48 : decode cX5_sheetSlot 48 = .ok (.iconst 3, 1) := by decide +kernel
theorem dX5_sheetSlot_49 : decode cX5_sheetSlot 49 = .ok (.goto 30, 3) := by decide +kernel
theorem dX5_sheetSlot_52 : decode cX5_sheetSlot 52 = .ok (.aload_n 0, 1) := by decide +kernel
theorem dX5_sheetSlot_53 : decode cX5_sheetSlot 53 = .ok (.ldc 85, 2) := by decide +kernel
theorem dX5_sheetSlot_55 : decode cX5_sheetSlot 55 = .ok (.invokevirtual 87, 3) := by decide +kernel
theorem dX5_sheetSlot_58 : decode cX5_sheetSlot 58 = .ok (.ifCond .eq 7, 3) := by decide +kernel
theorem dX5_sheetSlot_61 : decode cX5_sheetSlot 61 = .ok (.iconst 4, 1) := by decide +kernel
theorem dX5_sheetSlot_62 : decode cX5_sheetSlot 62 = .ok (.goto 17, 3) := by decide +kernel
theorem dX5_sheetSlot_65 : decode cX5_sheetSlot 65 = .ok (.aload_n 0, 1) := by decide +kernel
theorem dX5_sheetSlot_66 : decode cX5_sheetSlot 66 = .ok (.ldc 227, 2) := by decide +kernel
theorem dX5_sheetSlot_68 : decode cX5_sheetSlot 68 = .ok (.invokevirtual 87, 3) := by decide +kernel
theorem dX5_sheetSlot_71 : decode cX5_sheetSlot 71 = .ok (.ifCond .eq 7, 3) := by decide +kernel
theorem dX5_sheetSlot_74 : decode cX5_sheetSlot 74 = .ok (.iconst 5, 1) := by decide +kernel
theorem dX5_sheetSlot_75 : decode cX5_sheetSlot 75 = .ok (.goto 4, 3) := by decide +kernel
theorem dX5_sheetSlot_78 : decode cX5_sheetSlot 78 = .ok (.iconst (-1), 1) := by decide +kernel
theorem dX5_sheetSlot_79 : decode cX5_sheetSlot 79 = .ok (.ireturn, 1) := by decide +kernel
theorem dX6_init_0 : decode cX6_init 0 = .ok (.aload_n 0, 1) := by decide +kernel
theorem dX6_init_1 : decode cX6_init 1 = .ok (.invokespecial 3, 3) := by decide +kernel
theorem dX6_init_4 : decode cX6_init 4 = .ok (.aload_n 0, 1) := by decide +kernel
theorem dX6_init_5 : decode cX6_init 5 = .ok (.iconst 0, 1) := by decide +kernel
theorem dX6_init_6 : decode cX6_init 6 = .ok (.putfield 9, 3) := by decide +kernel
theorem dX6_init_9 : decode cX6_init 9 = .ok (.aload_n 0, 1) := by decide +kernel
theorem dX6_init_10 : decode cX6_init 10 = .ok (.iconst 0, 1) := by decide +kernel
theorem dX6_init_11 : decode cX6_init 11 = .ok (.putfield 15, 3) := by decide +kernel
theorem dX6_init_14 : decode cX6_init 14 = .ok (.aload_n 0, 1) := by decide +kernel
theorem dX6_init_15 : decode cX6_init 15 = .ok (.sipush 700, 3) := by decide +kernel
theorem dX6_init_18 : decode cX6_init 18 = .ok (.newarray .int, 2) := by decide +kernel
theorem dX6_init_20 : decode cX6_init 20 = .ok (.putfield 19, 3) := by decide +kernel
theorem dX6_init_23 : decode cX6_init 23 = .ok (.aload_n 0, 1) := by decide +kernel
theorem dX6_init_24 : decode cX6_init 24 = .ok (.bipush 40, 2) := by decide +kernel
theorem dX6_init_26 : decode cX6_init 26 = .ok (.newarray .int, 2) := by decide +kernel
theorem dX6_init_28 : decode cX6_init 28 = .ok (.putfield 23, 3) := by decide +kernel
theorem dX6_init_31 : decode cX6_init 31 = .ok (.return_, 1) := by decide +kernel
theorem dX6_clear_0 : decode cX6_clear 0 = .ok (.aload_n 0, 1) := by decide +kernel
theorem dX6_clear_1 : decode cX6_clear 1 = .ok (.iconst 0, 1) := by decide +kernel
theorem dX6_clear_2 : decode cX6_clear 2 = .ok (.putfield 9, 3) := by decide +kernel
theorem dX6_clear_5 : decode cX6_clear 5 = .ok (.aload_n 0, 1) := by decide +kernel
theorem dX6_clear_6 : decode cX6_clear 6 = .ok (.iconst 0, 1) := by decide +kernel
theorem dX6_clear_7 : decode cX6_clear 7 = .ok (.putfield 15, 3) := by decide +kernel
theorem dX6_clear_10 : decode cX6_clear 10 = .ok (.return_, 1) := by decide +kernel
theorem dX6_add_0 : decode cX6_add 0 = .ok (.aload_n 0, 1) := by decide +kernel
theorem dX6_add_1 : decode cX6_add 1 = .ok (.getfield 15, 3) := by decide +kernel
theorem dX6_add_4 : decode cX6_add 4 = .ok (.sipush 700, 3) := by decide +kernel
theorem dX6_add_7 : decode cX6_add 7 = .ok (.if_icmp .ge 23, 3) := by decide +kernel
theorem dX6_add_10 : decode cX6_add 10 = .ok (.aload_n 0, 1) := by decide +kernel
theorem dX6_add_11 : decode cX6_add 11 = .ok (.getfield 19, 3) := by decide +kernel
theorem dX6_add_14 : decode cX6_add 14 = .ok (.aload_n 0, 1) := by decide +kernel
theorem dX6_add_15 : decode cX6_add 15 = .ok (.getfield 15, 3) := by decide +kernel
theorem dX6_add_18 : decode cX6_add 18 = .ok (.iload_n 1, 1) := by decide +kernel
theorem dX6_add_19 : decode cX6_add 19 = .ok (.iastore, 1) := by decide +kernel
theorem dX6_add_20 : decode cX6_add 20 = .ok (.aload_n 0, 1) := by decide +kernel
theorem dX6_add_21 : decode cX6_add 21 = .ok (.dup, 1) := by decide +kernel
theorem dX6_add_22 : decode cX6_add 22 = .ok (.getfield 15, 3) := by decide +kernel
theorem dX6_add_25 : decode cX6_add 25 = .ok (.iconst 1, 1) := by decide +kernel
theorem dX6_add_26 : decode cX6_add 26 = .ok (.iadd, 1) := by decide +kernel
theorem dX6_add_27 : decode cX6_add 27 = .ok (.putfield 15, 3) := by decide +kernel
theorem dX6_add_30 : decode cX6_add 30 = .ok (.return_, 1) := by decide +kernel
theorem dX6_valueFor_0 : decode cX6_valueFor 0 = .ok (.iconst 0, 1) := by decide +kernel
theorem dX6_valueFor_1 : decode cX6_valueFor 1 = .ok (.istore_n 2, 1) := by decide +kernel
theorem dX6_valueFor_2 : decode cX6_valueFor 2 = .ok (.iconst 0, 1) := by decide +kernel
theorem dX6_valueFor_3 : decode cX6_valueFor 3 = .ok (.istore_n 3, 1) := by decide +kernel
theorem dX6_valueFor_4 : decode cX6_valueFor 4 = .ok (.iload_n 3, 1) := by decide +kernel
theorem dX6_valueFor_5 : decode cX6_valueFor 5 = .ok (.aload_n 0, 1) := by decide +kernel
theorem dX6_valueFor_6 : decode cX6_valueFor 6 = .ok (.getfield 15, 3) := by decide +kernel
theorem dX6_valueFor_9 : decode cX6_valueFor 9 = .ok (.if_icmp .ge 119, 3) := by decide +kernel
theorem dX6_valueFor_12 : decode cX6_valueFor 12 = .ok (.aload_n 0, 1) := by decide +kernel
theorem dX6_valueFor_13 : decode cX6_valueFor 13 = .ok (.getfield 19, 3) := by decide +kernel
theorem dX6_valueFor_16 : decode cX6_valueFor 16 = .ok (.iload_n 3, 1) := by decide +kernel
theorem dX6_valueFor_17 : decode cX6_valueFor 17 = .ok (.iaload, 1) := by decide +kernel
theorem dX6_valueFor_18 : decode cX6_valueFor 18 = .ok (.istore 4, 2) := by decide +kernel
theorem dX6_valueFor_20 : decode cX6_valueFor 20 = .ok (.iload 4, 2) := by decide +kernel
theorem dX6_valueFor_22 : decode cX6_valueFor 22 = .ok (.ifCond .lt 27, 3) := by decide +kernel
theorem dX6_valueFor_25 : decode cX6_valueFor 25 = .ok (.iload_n 2, 1) := by decide +kernel
theorem dX6_valueFor_26 : decode cX6_valueFor 26 = .ok (.bipush 40, 2) := by decide +kernel
theorem dX6_valueFor_28 : decode cX6_valueFor 28 = .ok (.if_icmp .ge 94, 3) := by decide +kernel
theorem dX6_valueFor_31 : decode cX6_valueFor 31 = .ok (.aload_n 0, 1) := by decide +kernel
theorem dX6_valueFor_32 : decode cX6_valueFor 32 = .ok (.getfield 23, 3) := by decide +kernel
theorem dX6_valueFor_35 : decode cX6_valueFor 35 = .ok (.iload_n 2, 1) := by decide +kernel
theorem dX6_valueFor_36 : decode cX6_valueFor 36 = .ok (.iload 4, 2) := by decide +kernel
theorem dX6_valueFor_38 : decode cX6_valueFor 38 = .ok (.aload_n 1, 1) := by decide +kernel
theorem dX6_valueFor_39 : decode cX6_valueFor 39 = .ok (.invokestatic 26, 3) := by decide +kernel
theorem dX6_valueFor_42 : decode cX6_valueFor 42 = .ok (.iastore, 1) := by decide +kernel
theorem dX6_valueFor_43 : decode cX6_valueFor 43 = .ok (.iinc 2 1, 3) := by decide +kernel
theorem dX6_valueFor_46 : decode cX6_valueFor 46 = .ok (.goto 76, 3) := by decide +kernel
theorem dX6_valueFor_49 : decode cX6_valueFor 49 = .ok (.iload 4, 2) := by decide +kernel
theorem dX6_valueFor_51 : decode cX6_valueFor 51 = .ok (.bipush (-3), 2) := by decide +kernel
theorem dX6_valueFor_53 : decode cX6_valueFor 53 = .ok (.if_icmp .ne 34, 3) := by decide +kernel
theorem dX6_valueFor_56 : decode cX6_valueFor 56 = .ok (.iload_n 2, 1) := by decide +kernel
theorem dX6_valueFor_57 : decode cX6_valueFor 57 = .ok (.ifCond .le 65, 3) := by decide +kernel
theorem dX6_valueFor_60 : decode cX6_valueFor 60 = .ok (.aload_n 0, 1) := by decide +kernel
theorem dX6_valueFor_61 : decode cX6_valueFor 61 = .ok (.getfield 23, 3) := by decide +kernel
theorem dX6_valueFor_64 : decode cX6_valueFor 64 = .ok (.iload_n 2, 1) := by decide +kernel
theorem dX6_valueFor_65 : decode cX6_valueFor 65 = .ok (.iconst 1, 1) := by decide +kernel
theorem dX6_valueFor_66 : decode cX6_valueFor 66 = .ok (.isub, 1) := by decide +kernel
theorem dX6_valueFor_67 : decode cX6_valueFor 67 = .ok (.aload_n 0, 1) := by decide +kernel
theorem dX6_valueFor_68 : decode cX6_valueFor 68 = .ok (.getfield 23, 3) := by decide +kernel
theorem dX6_valueFor_71 : decode cX6_valueFor 71 = .ok (.iload_n 2, 1) := by decide +kernel
theorem dX6_valueFor_72 : decode cX6_valueFor 72 = .ok (.iconst 1, 1) := by decide +kernel
theorem dX6_valueFor_73 : decode cX6_valueFor 73 = .ok (.isub, 1) := by decide +kernel
theorem dX6_valueFor_74 : decode cX6_valueFor 74 = .ok (.iaload, 1) := by decide +kernel
theorem dX6_valueFor_75 : decode cX6_valueFor 75 = .ok (.ifCond .ne 7, 3) := by decide +kernel
theorem dX6_valueFor_78 : decode cX6_valueFor 78 = .ok (.iconst 1, 1) := by decide +kernel
theorem dX6_valueFor_79 : decode cX6_valueFor 79 = .ok (.goto 4, 3) := by decide +kernel
theorem dX6_valueFor_82 : decode cX6_valueFor 82 = .ok (.iconst 0, 1) := by decide +kernel
theorem dX6_valueFor_83 : decode cX6_valueFor 83 = .ok (.iastore, 1) := by decide +kernel
theorem dX6_valueFor_84 : decode cX6_valueFor 84 = .ok (.goto 38, 3) := by decide +kernel
theorem dX6_valueFor_87 : decode cX6_valueFor 87 = .ok (.iload_n 2, 1) := by decide +kernel
theorem dX6_valueFor_88 : decode cX6_valueFor 88 = .ok (.iconst 1, 1) := by decide +kernel
theorem dX6_valueFor_89 : decode cX6_valueFor 89 = .ok (.if_icmp .le 33, 3) := by decide +kernel
theorem dX6_valueFor_92 : decode cX6_valueFor 92 = .ok (.iinc 2 (-1), 3) := by decide +kernel
theorem dX6_valueFor_95 : decode cX6_valueFor 95 = .ok (.aload_n 0, 1) := by decide +kernel
theorem dX6_valueFor_96 : decode cX6_valueFor 96 = .ok (.getfield 23, 3) := by decide +kernel
theorem dX6_valueFor_99 : decode cX6_valueFor 99 = .ok (.iload_n 2, 1) := by decide +kernel
theorem dX6_valueFor_100 : decode cX6_valueFor 100 = .ok (.iconst 1, 1) := by decide +kernel
theorem dX6_valueFor_101 : decode cX6_valueFor 101 = .ok (.isub, 1) := by decide +kernel
theorem dX6_valueFor_102 : decode cX6_valueFor 102 = .ok (.iload 4, 2) := by decide +kernel
theorem dX6_valueFor_104 : decode cX6_valueFor 104 = .ok (.aload_n 0, 1) := by decide +kernel
theorem dX6_valueFor_105 : decode cX6_valueFor 105 = .ok (.getfield 23, 3) := by decide +kernel
theorem dX6_valueFor_108 : decode cX6_valueFor 108 = .ok (.iload_n 2, 1) := by decide +kernel
theorem dX6_valueFor_109 : decode cX6_valueFor 109 = .ok (.iconst 1, 1) := by decide +kernel
theorem dX6_valueFor_110 : decode cX6_valueFor 110 = .ok (.isub, 1) := by decide +kernel
theorem dX6_valueFor_111 : decode cX6_valueFor 111 = .ok (.iaload, 1) := by decide +kernel
theorem dX6_valueFor_112 : decode cX6_valueFor 112 = .ok (.aload_n 0, 1) := by decide +kernel
theorem dX6_valueFor_113 : decode cX6_valueFor 113 = .ok (.getfield 23, 3) := by decide +kernel
theorem dX6_valueFor_116 : decode cX6_valueFor 116 = .ok (.iload_n 2, 1) := by decide +kernel
theorem dX6_valueFor_117 : decode cX6_valueFor 117 = .ok (.iaload, 1) := by decide +kernel
theorem dX6_valueFor_118 : decode cX6_valueFor 118 = .ok (.invokestatic 30, 3) := by decide +kernel
theorem dX6_valueFor_121 : decode cX6_valueFor 121 = .ok (.iastore, 1) := by decide +kernel
theorem dX6_valueFor_122 : decode cX6_valueFor 122 = .ok (.iinc 3 1, 3) := by decide +kernel
theorem dX6_valueFor_125 : decode cX6_valueFor 125 = .ok (.goto (-121), 3) := by decide +kernel
theorem dX6_valueFor_128 : decode cX6_valueFor 128 = .ok (.iload_n 2, 1) := by decide +kernel
theorem dX6_valueFor_129 : decode cX6_valueFor 129 = .ok (.ifCond .le 12, 3) := by decide +kernel
theorem dX6_valueFor_132 : decode cX6_valueFor 132 = .ok (.aload_n 0, 1) := by decide +kernel
theorem dX6_valueFor_133 : decode cX6_valueFor 133 = .ok (.getfield 23, 3) := by decide +kernel
theorem dX6_valueFor_136 : decode cX6_valueFor 136 = .ok (.iconst 0, 1) := by decide +kernel
theorem dX6_valueFor_137 : decode cX6_valueFor 137 = .ok (.iaload, 1) := by decide +kernel
theorem dX6_valueFor_138 : decode cX6_valueFor 138 = .ok (.goto 4, 3) := by decide +kernel
theorem dX6_valueFor_141 : decode cX6_valueFor 141 = .ok (.iconst 0, 1) := by decide +kernel
theorem dX6_valueFor_142 : decode cX6_valueFor 142 = .ok (.ireturn, 1) := by decide +kernel
theorem dX6_operand_0 : decode cX6_operand 0 = .ok (.iload_n 0, 1) := by decide +kernel
theorem dX6_operand_1 : decode cX6_operand 1 = .ok (.sipush 10000, 3) := by decide +kernel
theorem dX6_operand_4 : decode cX6_operand 4 = .ok (.if_icmp .ge 5, 3) := by decide +kernel
theorem dX6_operand_7 : decode cX6_operand 7 = .ok (.iload_n 0, 1) := by decide +kernel
theorem dX6_operand_8 : decode cX6_operand 8 = .ok (.ireturn, 1) := by decide +kernel
theorem dX6_operand_9 : decode cX6_operand 9 = .ok (.iload_n 0, 1) := by decide +kernel
theorem dX6_operand_10 : decode cX6_operand 10 = .ok (.sipush 10000, 3) := by decide +kernel
theorem dX6_operand_13 : decode cX6_operand 13 = .ok (.isub, 1) := by decide +kernel
theorem dX6_operand_14 : decode cX6_operand 14 = .ok (.istore_n 2, 1) := by decide +kernel
theorem dX6_operand_15 : decode cX6_operand 15 = .ok (.iload_n 2, 1) := by decide +kernel
theorem dX6_operand_16 : decode cX6_operand 16 = .ok (.aload_n 1, 1) := by decide +kernel
theorem dX6_operand_17 : decode cX6_operand 17 = .ok (.arraylength, 1) := by decide +kernel
theorem dX6_operand_18 : decode cX6_operand 18 = .ok (.if_icmp .ge 9, 3) := by decide +kernel
theorem dX6_operand_21 : decode cX6_operand 21 = .ok (.aload_n 1, 1) := by decide +kernel
theorem dX6_operand_22 : decode cX6_operand 22 = .ok (.iload_n 2, 1) := by decide +kernel
theorem dX6_operand_23 : decode cX6_operand 23 = .ok (.iaload, 1) := by decide +kernel
theorem dX6_operand_24 : decode cX6_operand 24 = .ok (.goto 4, 3) := by decide +kernel
theorem dX6_operand_27 : decode cX6_operand 27 = .ok (.iconst 0, 1) := by decide +kernel
theorem dX6_operand_28 : decode cX6_operand 28 = .ok (.ireturn, 1) := by decide +kernel
theorem dX6_joined_0 : decode cX6_joined 0 = .ok (.iload_n 0, 1) := by decide +kernel
theorem dX6_joined_1 : decode cX6_joined 1 = .ok (.tableswitch 109 (-8) (-1) #[105, 101, 97, 86, 75, 109, 61, 47], 47) := by decide +kernel
theorem dX6_joined_48 : decode cX6_joined 48 = .ok (.iload_n 1, 1) := by decide +kernel
theorem dX6_joined_49 : decode cX6_joined 49 = .ok (.ifCond .ne 7, 3) := by decide +kernel
theorem dX6_joined_52 : decode cX6_joined 52 = .ok (.iload_n 2, 1) := by decide +kernel
theorem dX6_joined_53 : decode cX6_joined 53 = .ok (.ifCond .eq 7, 3) := by decide +kernel
theorem dX6_joined_56 : decode cX6_joined 56 = .ok (.iconst 1, 1) := by decide +kernel
theorem dX6_joined_57 : decode cX6_joined 57 = .ok (.goto 4, 3) := by decide +kernel
theorem dX6_joined_60 : decode cX6_joined 60 = .ok (.iconst 0, 1) := by decide +kernel
theorem dX6_joined_61 : decode cX6_joined 61 = .ok (.ireturn, 1) := by decide +kernel
theorem dX6_joined_62 : decode cX6_joined 62 = .ok (.iload_n 1, 1) := by decide +kernel
theorem dX6_joined_63 : decode cX6_joined 63 = .ok (.ifCond .eq 11, 3) := by decide +kernel
theorem dX6_joined_66 : decode cX6_joined 66 = .ok (.iload_n 2, 1) := by decide +kernel
theorem dX6_joined_67 : decode cX6_joined 67 = .ok (.ifCond .eq 7, 3) := by decide +kernel
theorem dX6_joined_70 : decode cX6_joined 70 = .ok (.iconst 1, 1) := by decide +kernel
theorem dX6_joined_71 : decode cX6_joined 71 = .ok (.goto 4, 3) := by decide +kernel
theorem dX6_joined_74 : decode cX6_joined 74 = .ok (.iconst 0, 1) := by decide +kernel
theorem dX6_joined_75 : decode cX6_joined 75 = .ok (.ireturn, 1) := by decide +kernel
theorem dX6_joined_76 : decode cX6_joined 76 = .ok (.iload_n 1, 1) := by decide +kernel
theorem dX6_joined_77 : decode cX6_joined 77 = .ok (.iload_n 2, 1) := by decide +kernel
theorem dX6_joined_78 : decode cX6_joined 78 = .ok (.if_icmp .ge 7, 3) := by decide +kernel
theorem dX6_joined_81 : decode cX6_joined 81 = .ok (.iconst 1, 1) := by decide +kernel
theorem dX6_joined_82 : decode cX6_joined 82 = .ok (.goto 4, 3) := by decide +kernel
theorem dX6_joined_85 : decode cX6_joined 85 = .ok (.iconst 0, 1) := by decide +kernel
theorem dX6_joined_86 : decode cX6_joined 86 = .ok (.ireturn, 1) := by decide +kernel
theorem dX6_joined_87 : decode cX6_joined 87 = .ok (.iload_n 1, 1) := by decide +kernel
theorem dX6_joined_88 : decode cX6_joined 88 = .ok (.iload_n 2, 1) := by decide +kernel
theorem dX6_joined_89 : decode cX6_joined 89 = .ok (.if_icmp .ne 7, 3) := by decide +kernel
theorem dX6_joined_92 : decode cX6_joined 92 = .ok (.iconst 1, 1) := by decide +kernel
theorem dX6_joined_93 : decode cX6_joined 93 = .ok (.goto 4, 3) := by decide +kernel
theorem dX6_joined_96 : decode cX6_joined 96 = .ok (.iconst 0, 1) := by decide +kernel
theorem dX6_joined_97 : decode cX6_joined 97 = .ok (.ireturn, 1) := by decide +kernel
theorem dX6_joined_98 : decode cX6_joined 98 = .ok (.iload_n 1, 1) := by decide +kernel
theorem dX6_joined_99 : decode cX6_joined 99 = .ok (.iload_n 2, 1) := by decide +kernel
theorem dX6_joined_100 : decode cX6_joined 100 = .ok (.iadd, 1) := by decide +kernel
theorem dX6_joined_101 : decode cX6_joined 101 = .ok (.ireturn, 1) := by decide +kernel
theorem dX6_joined_102 : decode cX6_joined 102 = .ok (.iload_n 1, 1) := by decide +kernel
theorem dX6_joined_103 : decode cX6_joined 103 = .ok (.iload_n 2, 1) := by decide +kernel
theorem dX6_joined_104 : decode cX6_joined 104 = .ok (.isub, 1) := by decide +kernel
theorem dX6_joined_105 : decode cX6_joined 105 = .ok (.ireturn, 1) := by decide +kernel
theorem dX6_joined_106 : decode cX6_joined 106 = .ok (.iload_n 1, 1) := by decide +kernel
theorem dX6_joined_107 : decode cX6_joined 107 = .ok (.iload_n 2, 1) := by decide +kernel
theorem dX6_joined_108 : decode cX6_joined 108 = .ok (.imul, 1) := by decide +kernel
theorem dX6_joined_109 : decode cX6_joined 109 = .ok (.ireturn, 1) := by decide +kernel
theorem dX6_joined_110 : decode cX6_joined 110 = .ok (.iload_n 2, 1) := by decide +kernel
theorem dX6_joined_111 : decode cX6_joined 111 = .ok (.ifCond .ne 7, 3) := by decide +kernel
theorem dX6_joined_114 : decode cX6_joined 114 = .ok (.iconst 0, 1) := by decide +kernel
theorem dX6_joined_115 : decode cX6_joined 115 = .ok (.goto 6, 3) := by decide +kernel
theorem dX6_joined_118 : decode cX6_joined 118 = .ok (.iload_n 1, 1) := by decide +kernel
theorem dX6_joined_119 : decode cX6_joined 119 = .ok (.iload_n 2, 1) := by decide +kernel
theorem dX6_joined_120 : decode cX6_joined 120 = .ok (.idiv, 1) := by decide +kernel
theorem dX6_joined_121 : decode cX6_joined 121 = .ok (.ireturn, 1) := by decide +kernel
theorem dX7_init_0 : decode cX7_init 0 = .ok (.aload_n 0, 1) := by decide +kernel
theorem dX7_init_1 : decode cX7_init 1 = .ok (.invokespecial 3, 3) := by decide +kernel
theorem dX7_init_4 : decode cX7_init 4 = .ok (.aload_n 0, 1) := by decide +kernel
theorem dX7_init_5 : decode cX7_init 5 = .ok (.iconst 0, 1) := by decide +kernel
theorem dX7_init_6 : decode cX7_init 6 = .ok (.putfield 9, 3) := by decide +kernel
theorem dX7_init_9 : decode cX7_init 9 = .ok (.aload_n 0, 1) := by decide +kernel
theorem dX7_init_10 : decode cX7_init 10 = .ok (.bipush 9, 2) := by decide +kernel
theorem dX7_init_12 : decode cX7_init 12 = .ok (.newarray .int, 2) := by decide +kernel
theorem dX7_init_14 : decode cX7_init 14 = .ok (.putfield 15, 3) := by decide +kernel
theorem dX7_init_17 : decode cX7_init 17 = .ok (.aload_n 0, 1) := by decide +kernel
theorem dX7_init_18 : decode cX7_init 18 = .ok (.bipush 9, 2) := by decide +kernel
theorem dX7_init_20 : decode cX7_init 20 = .ok (.newarray .int, 2) := by decide +kernel
theorem dX7_init_22 : decode cX7_init 22 = .ok (.putfield 19, 3) := by decide +kernel
theorem dX7_init_25 : decode cX7_init 25 = .ok (.aload_n 0, 1) := by decide +kernel
theorem dX7_init_26 : decode cX7_init 26 = .ok (.bipush 9, 2) := by decide +kernel
theorem dX7_init_28 : decode cX7_init 28 = .ok (.newarray .int, 2) := by decide +kernel
theorem dX7_init_30 : decode cX7_init 30 = .ok (.putfield 22, 3) := by decide +kernel
theorem dX7_init_33 : decode cX7_init 33 = .ok (.aload_n 0, 1) := by decide +kernel
theorem dX7_init_34 : decode cX7_init 34 = .ok (.bipush 6, 2) := by decide +kernel
theorem dX7_init_36 : decode cX7_init 36 = .ok (.newarray .int, 2) := by decide +kernel
theorem dX7_init_38 : decode cX7_init 38 = .ok (.putfield 25, 3) := by decide +kernel
theorem dX7_init_41 : decode cX7_init 41 = .ok (.aload_n 0, 1) := by decide +kernel
theorem dX7_init_42 : decode cX7_init 42 = .ok (.bipush 6, 2) := by decide +kernel
theorem dX7_init_44 : decode cX7_init 44 = .ok (.newarray .int, 2) := by decide +kernel
theorem dX7_init_46 : decode cX7_init 46 = .ok (.putfield 28, 3) := by decide +kernel
theorem dX7_init_49 : decode cX7_init 49 = .ok (.aload_n 0, 1) := by decide +kernel
theorem dX7_init_50 : decode cX7_init 50 = .ok (.aload_n 1, 1) := by decide +kernel
theorem dX7_init_51 : decode cX7_init 51 = .ok (.putfield 31, 3) := by decide +kernel
theorem dX7_init_54 : decode cX7_init 54 = .ok (.return_, 1) := by decide +kernel
theorem dX7_begin_0 : decode cX7_begin 0 = .ok (.aload_n 0, 1) := by decide +kernel
theorem dX7_begin_1 : decode cX7_begin 1 = .ok (.aload_n 1, 1) := by decide +kernel
theorem dX7_begin_2 : decode cX7_begin 2 = .ok (.putfield 31, 3) := by decide +kernel
theorem dX7_begin_5 : decode cX7_begin 5 = .ok (.aload_n 0, 1) := by decide +kernel
theorem dX7_begin_6 : decode cX7_begin 6 = .ok (.iconst 0, 1) := by decide +kernel
theorem dX7_begin_7 : decode cX7_begin 7 = .ok (.putfield 9, 3) := by decide +kernel
theorem dX7_begin_10 : decode cX7_begin 10 = .ok (.aload_n 0, 1) := by decide +kernel
theorem dX7_begin_11 : decode cX7_begin 11 = .ok (.getfield 31, 3) := by decide +kernel
theorem dX7_begin_14 : decode cX7_begin 14 = .ok (.getfield 35, 3) := by decide +kernel
theorem dX7_begin_17 : decode cX7_begin 17 = .ok (.iconst 0, 1) := by decide +kernel
theorem dX7_begin_18 : decode cX7_begin 18 = .ok (.aload_n 0, 1) := by decide +kernel
theorem dX7_begin_19 : decode cX7_begin 19 = .ok (.getfield 15, 3) := by decide +kernel
theorem dX7_begin_22 : decode cX7_begin 22 = .ok (.iconst 0, 1) := by decide +kernel
theorem dX7_begin_23 : decode cX7_begin 23 = .ok (.bipush 9, 2) := by decide +kernel
theorem dX7_begin_25 : decode cX7_begin 25 = .ok (.invokestatic 38, 3) := by decide +kernel
theorem dX7_begin_28 : decode cX7_begin 28 = .ok (.aload_n 0, 1) := by decide +kernel
theorem dX7_begin_29 : decode cX7_begin 29 = .ok (.getfield 31, 3) := by decide +kernel
theorem dX7_begin_32 : decode cX7_begin 32 = .ok (.getfield 44, 3) := by decide +kernel
theorem dX7_begin_35 : decode cX7_begin 35 = .ok (.iconst 0, 1) := by decide +kernel
theorem dX7_begin_36 : decode cX7_begin 36 = .ok (.aload_n 0, 1) := by decide +kernel
theorem dX7_begin_37 : decode cX7_begin 37 = .ok (.getfield 19, 3) := by decide +kernel
theorem dX7_begin_40 : decode cX7_begin 40 = .ok (.iconst 0, 1) := by decide +kernel
theorem dX7_begin_41 : decode cX7_begin 41 = .ok (.bipush 9, 2) := by decide +kernel
theorem dX7_begin_43 : decode cX7_begin 43 = .ok (.invokestatic 38, 3) := by decide +kernel
theorem dX7_begin_46 : decode cX7_begin 46 = .ok (.aload_n 0, 1) := by decide +kernel
theorem dX7_begin_47 : decode cX7_begin 47 = .ok (.getfield 31, 3) := by decide +kernel
theorem dX7_begin_50 : decode cX7_begin 50 = .ok (.getfield 45, 3) := by decide +kernel
theorem dX7_begin_53 : decode cX7_begin 53 = .ok (.iconst 0, 1) := by decide +kernel
theorem dX7_begin_54 : decode cX7_begin 54 = .ok (.aload_n 0, 1) := by decide +kernel
theorem dX7_begin_55 : decode cX7_begin 55 = .ok (.getfield 22, 3) := by decide +kernel
theorem dX7_begin_58 : decode cX7_begin 58 = .ok (.iconst 0, 1) := by decide +kernel
theorem dX7_begin_59 : decode cX7_begin 59 = .ok (.bipush 9, 2) := by decide +kernel
theorem dX7_begin_61 : decode cX7_begin 61 = .ok (.invokestatic 38, 3) := by decide +kernel
theorem dX7_begin_64 : decode cX7_begin 64 = .ok (.aload_n 0, 1) := by decide +kernel
theorem dX7_begin_65 : decode cX7_begin 65 = .ok (.getfield 25, 3) := by decide +kernel
theorem dX7_begin_68 : decode cX7_begin 68 = .ok (.iconst 0, 1) := by decide +kernel
theorem dX7_begin_69 : decode cX7_begin 69 = .ok (.invokestatic 48, 3) := by decide +kernel
theorem dX7_begin_72 : decode cX7_begin 72 = .ok (.return_, 1) := by decide +kernel
theorem dX7_copyFrom_0 : decode cX7_copyFrom 0 = .ok (.aload_n 0, 1) := by decide +kernel
theorem dX7_copyFrom_1 : decode cX7_copyFrom 1 = .ok (.aload_n 1, 1) := by decide +kernel
theorem dX7_copyFrom_2 : decode cX7_copyFrom 2 = .ok (.getfield 31, 3) := by decide +kernel
theorem dX7_copyFrom_5 : decode cX7_copyFrom 5 = .ok (.putfield 31, 3) := by decide +kernel
theorem dX7_copyFrom_8 : decode cX7_copyFrom 8 = .ok (.aload_n 0, 1) := by decide +kernel
theorem dX7_copyFrom_9 : decode cX7_copyFrom 9 = .ok (.aload_n 1, 1) := by decide +kernel
theorem dX7_copyFrom_10 : decode cX7_copyFrom 10 = .ok (.getfield 9, 3) := by decide +kernel
theorem dX7_copyFrom_13 : decode cX7_copyFrom 13 = .ok (.putfield 9, 3) := by decide +kernel
theorem dX7_copyFrom_16 : decode cX7_copyFrom 16 = .ok (.aload_n 1, 1) := by decide +kernel
theorem dX7_copyFrom_17 : decode cX7_copyFrom 17 = .ok (.getfield 15, 3) := by decide +kernel
theorem dX7_copyFrom_20 : decode cX7_copyFrom 20 = .ok (.iconst 0, 1) := by decide +kernel
theorem dX7_copyFrom_21 : decode cX7_copyFrom 21 = .ok (.aload_n 0, 1) := by decide +kernel
theorem dX7_copyFrom_22 : decode cX7_copyFrom 22 = .ok (.getfield 15, 3) := by decide +kernel
theorem dX7_copyFrom_25 : decode cX7_copyFrom 25 = .ok (.iconst 0, 1) := by decide +kernel
theorem dX7_copyFrom_26 : decode cX7_copyFrom 26 = .ok (.bipush 9, 2) := by decide +kernel
theorem dX7_copyFrom_28 : decode cX7_copyFrom 28 = .ok (.invokestatic 38, 3) := by decide +kernel
theorem dX7_copyFrom_31 : decode cX7_copyFrom 31 = .ok (.aload_n 1, 1) := by decide +kernel
theorem dX7_copyFrom_32 : decode cX7_copyFrom 32 = .ok (.getfield 19, 3) := by decide +kernel
theorem dX7_copyFrom_35 : decode cX7_copyFrom 35 = .ok (.iconst 0, 1) := by decide +kernel
theorem dX7_copyFrom_36 : decode cX7_copyFrom 36 = .ok (.aload_n 0, 1) := by decide +kernel
theorem dX7_copyFrom_37 : decode cX7_copyFrom 37 = .ok (.getfield 19, 3) := by decide +kernel
theorem dX7_copyFrom_40 : decode cX7_copyFrom 40 = .ok (.iconst 0, 1) := by decide +kernel
theorem dX7_copyFrom_41 : decode cX7_copyFrom 41 = .ok (.bipush 9, 2) := by decide +kernel
theorem dX7_copyFrom_43 : decode cX7_copyFrom 43 = .ok (.invokestatic 38, 3) := by decide +kernel
theorem dX7_copyFrom_46 : decode cX7_copyFrom 46 = .ok (.aload_n 1, 1) := by decide +kernel
theorem dX7_copyFrom_47 : decode cX7_copyFrom 47 = .ok (.getfield 22, 3) := by decide +kernel
theorem dX7_copyFrom_50 : decode cX7_copyFrom 50 = .ok (.iconst 0, 1) := by decide +kernel
theorem dX7_copyFrom_51 : decode cX7_copyFrom 51 = .ok (.aload_n 0, 1) := by decide +kernel
theorem dX7_copyFrom_52 : decode cX7_copyFrom 52 = .ok (.getfield 22, 3) := by decide +kernel
theorem dX7_copyFrom_55 : decode cX7_copyFrom 55 = .ok (.iconst 0, 1) := by decide +kernel
theorem dX7_copyFrom_56 : decode cX7_copyFrom 56 = .ok (.bipush 9, 2) := by decide +kernel
theorem dX7_copyFrom_58 : decode cX7_copyFrom 58 = .ok (.invokestatic 38, 3) := by decide +kernel
theorem dX7_copyFrom_61 : decode cX7_copyFrom 61 = .ok (.aload_n 1, 1) := by decide +kernel
theorem dX7_copyFrom_62 : decode cX7_copyFrom 62 = .ok (.getfield 25, 3) := by decide +kernel
theorem dX7_copyFrom_65 : decode cX7_copyFrom 65 = .ok (.iconst 0, 1) := by decide +kernel
theorem dX7_copyFrom_66 : decode cX7_copyFrom 66 = .ok (.aload_n 0, 1) := by decide +kernel
theorem dX7_copyFrom_67 : decode cX7_copyFrom 67 = .ok (.getfield 25, 3) := by decide +kernel
theorem dX7_copyFrom_70 : decode cX7_copyFrom 70 = .ok (.iconst 0, 1) := by decide +kernel
theorem dX7_copyFrom_71 : decode cX7_copyFrom 71 = .ok (.bipush 6, 2) := by decide +kernel
theorem dX7_copyFrom_73 : decode cX7_copyFrom 73 = .ok (.invokestatic 38, 3) := by decide +kernel
theorem dX7_copyFrom_76 : decode cX7_copyFrom 76 = .ok (.return_, 1) := by decide +kernel
theorem dX7_packInto_0 : decode cX7_packInto 0 = .ok (.aload_n 1, 1) := by decide +kernel
theorem dX7_packInto_1 : decode cX7_packInto 1 = .ok (.iload_n 2, 1) := by decide +kernel
theorem dX7_packInto_2 : decode cX7_packInto 2 = .ok (.aload_n 0, 1) := by decide +kernel
theorem dX7_packInto_3 : decode cX7_packInto 3 = .ok (.getfield 9, 3) := by decide +kernel
theorem dX7_packInto_6 : decode cX7_packInto 6 = .ok (.iastore, 1) := by decide +kernel
theorem dX7_packInto_7 : decode cX7_packInto 7 = .ok (.iconst 0, 1) := by decide +kernel
theorem dX7_packInto_8 : decode cX7_packInto 8 = .ok (.istore_n 3, 1) := by decide +kernel
theorem dX7_packInto_9 : decode cX7_packInto 9 = .ok (.iload_n 3, 1) := by decide +kernel
theorem dX7_packInto_10 : decode cX7_packInto 10 = .ok (.bipush 9, 2) := by decide +kernel
theorem dX7_packInto_12 : decode cX7_packInto 12 = .ok (.if_icmp .ge 44, 3) := by decide +kernel
theorem dX7_packInto_15 : decode cX7_packInto 15 = .ok (.aload_n 1, 1) := by decide +kernel
theorem dX7_packInto_16 : decode cX7_packInto 16 = .ok (.iload_n 2, 1) := by decide +kernel
theorem dX7_packInto_17 : decode cX7_packInto 17 = .ok (.iconst 1, 1) := by decide +kernel
theorem dX7_packInto_18 : decode cX7_packInto 18 = .ok (.iadd, 1) := by decide +kernel
theorem dX7_packInto_19 : decode cX7_packInto 19 = .ok (.iload_n 3, 1) := by decide +kernel
theorem dX7_packInto_20 : decode cX7_packInto 20 = .ok (.iadd, 1) := by decide +kernel
theorem dX7_packInto_21 : decode cX7_packInto 21 = .ok (.aload_n 0, 1) := by decide +kernel
theorem dX7_packInto_22 : decode cX7_packInto 22 = .ok (.getfield 15, 3) := by decide +kernel
theorem dX7_packInto_25 : decode cX7_packInto 25 = .ok (.iload_n 3, 1) := by decide +kernel
theorem dX7_packInto_26 : decode cX7_packInto 26 = .ok (.iaload, 1) := by decide +kernel
theorem dX7_packInto_27 : decode cX7_packInto 27 = .ok (.aload_n 0, 1) := by decide +kernel
theorem dX7_packInto_28 : decode cX7_packInto 28 = .ok (.getfield 19, 3) := by decide +kernel
theorem dX7_packInto_31 : decode cX7_packInto 31 = .ok (.iload_n 3, 1) := by decide +kernel
theorem dX7_packInto_32 : decode cX7_packInto 32 = .ok (.iaload, 1) := by decide +kernel
theorem dX7_packInto_33 : decode cX7_packInto 33 = .ok (.bipush 8, 2) := by decide +kernel
theorem dX7_packInto_35 : decode cX7_packInto 35 = .ok (.ishl, 1) := by decide +kernel
theorem dX7_packInto_36 : decode cX7_packInto 36 = .ok (.ior, 1) := by decide +kernel
theorem dX7_packInto_37 : decode cX7_packInto 37 = .ok (.aload_n 0, 1) := by decide +kernel
theorem dX7_packInto_38 : decode cX7_packInto 38 = .ok (.getfield 22, 3) := by decide +kernel
theorem dX7_packInto_41 : decode cX7_packInto 41 = .ok (.iload_n 3, 1) := by decide +kernel
theorem dX7_packInto_42 : decode cX7_packInto 42 = .ok (.iaload, 1) := by decide +kernel
theorem dX7_packInto_43 : decode cX7_packInto 43 = .ok (.iconst (-1), 1) := by decide +kernel
theorem dX7_packInto_44 : decode cX7_packInto 44 = .ok (.isub, 1) := by decide +kernel
theorem dX7_packInto_45 : decode cX7_packInto 45 = .ok (.bipush 16, 2) := by decide +kernel
theorem dX7_packInto_47 : decode cX7_packInto 47 = .ok (.ishl, 1) := by decide +kernel
theorem dX7_packInto_48 : decode cX7_packInto 48 = .ok (.ior, 1) := by decide +kernel
theorem dX7_packInto_49 : decode cX7_packInto 49 = .ok (.iastore, 1) := by decide +kernel
theorem dX7_packInto_50 : decode cX7_packInto 50 = .ok (.iinc 3 1, 3) := by decide +kernel
theorem dX7_packInto_53 : decode cX7_packInto 53 = .ok (.goto (-44), 3) := by decide +kernel
theorem dX7_packInto_56 : decode cX7_packInto 56 = .ok (.aload_n 0, 1) := by decide +kernel
theorem dX7_packInto_57 : decode cX7_packInto 57 = .ok (.getfield 25, 3) := by decide +kernel
theorem dX7_packInto_60 : decode cX7_packInto 60 = .ok (.iconst 0, 1) := by decide +kernel
theorem dX7_packInto_61 : decode cX7_packInto 61 = .ok (.aload_n 1, 1) := by decide +kernel
theorem dX7_packInto_62 : decode cX7_packInto 62 = .ok (.iload_n 2, 1) := by decide +kernel
theorem dX7_packInto_63 : decode cX7_packInto 63 = .ok (.iconst 1, 1) := by decide +kernel
theorem dX7_packInto_64 : decode cX7_packInto 64 = .ok (.iadd, 1) := by decide +kernel
theorem dX7_packInto_65 : decode cX7_packInto 65 = .ok (.bipush 9, 2) := by decide +kernel
theorem dX7_packInto_67 : decode cX7_packInto 67 = .ok (.iadd, 1) := by decide +kernel
theorem dX7_packInto_68 : decode cX7_packInto 68 = .ok (.bipush 6, 2) := by decide +kernel
theorem dX7_packInto_70 : decode cX7_packInto 70 = .ok (.invokestatic 38, 3) := by decide +kernel
theorem dX7_packInto_73 : decode cX7_packInto 73 = .ok (.return_, 1) := by decide +kernel
theorem dX7_unpackFrom_0 : decode cX7_unpackFrom 0 = .ok (.aload_n 0, 1) := by decide +kernel
theorem dX7_unpackFrom_1 : decode cX7_unpackFrom 1 = .ok (.aload_n 1, 1) := by decide +kernel
theorem dX7_unpackFrom_2 : decode cX7_unpackFrom 2 = .ok (.iload_n 2, 1) := by decide +kernel
theorem dX7_unpackFrom_3 : decode cX7_unpackFrom 3 = .ok (.iaload, 1) := by decide +kernel
theorem dX7_unpackFrom_4 : decode cX7_unpackFrom 4 = .ok (.putfield 9, 3) := by decide +kernel
theorem dX7_unpackFrom_7 : decode cX7_unpackFrom 7 = .ok (.iconst 0, 1) := by decide +kernel
theorem dX7_unpackFrom_8 : decode cX7_unpackFrom 8 = .ok (.istore_n 3, 1) := by decide +kernel
theorem dX7_unpackFrom_9 : decode cX7_unpackFrom 9 = .ok (.iload_n 3, 1) := by decide +kernel
theorem dX7_unpackFrom_10 : decode cX7_unpackFrom 10 = .ok (.bipush 9, 2) := by decide +kernel
theorem dX7_unpackFrom_12 : decode cX7_unpackFrom 12 = .ok (.if_icmp .ge 58, 3) := by decide +kernel
theorem dX7_unpackFrom_15 : decode cX7_unpackFrom 15 = .ok (.aload_n 1, 1) := by decide +kernel
theorem dX7_unpackFrom_16 : decode cX7_unpackFrom 16 = .ok (.iload_n 2, 1) := by decide +kernel
theorem dX7_unpackFrom_17 : decode cX7_unpackFrom 17 = .ok (.iconst 1, 1) := by decide +kernel
theorem dX7_unpackFrom_18 : decode cX7_unpackFrom 18 = .ok (.iadd, 1) := by decide +kernel
theorem dX7_unpackFrom_19 : decode cX7_unpackFrom 19 = .ok (.iload_n 3, 1) := by decide +kernel
theorem dX7_unpackFrom_20 : decode cX7_unpackFrom 20 = .ok (.iadd, 1) := by decide +kernel
theorem dX7_unpackFrom_21 : decode cX7_unpackFrom 21 = .ok (.iaload, 1) := by decide +kernel
theorem dX7_unpackFrom_22 : decode cX7_unpackFrom 22 = .ok (.istore 4, 2) := by decide +kernel
theorem dX7_unpackFrom_24 : decode cX7_unpackFrom 24 = .ok (.aload_n 0, 1) := by decide +kernel
theorem dX7_unpackFrom_25 : decode cX7_unpackFrom 25 = .ok (.getfield 15, 3) := by decide +kernel
theorem dX7_unpackFrom_28 : decode cX7_unpackFrom 28 = .ok (.iload_n 3, 1) := by decide +kernel
theorem dX7_unpackFrom_29 : decode cX7_unpackFrom 29 = .ok (.iload 4, 2) := by decide +kernel
theorem dX7_unpackFrom_31 : decode cX7_unpackFrom 31 = .ok (.sipush 255, 3) := by decide +kernel
theorem dX7_unpackFrom_34 : decode cX7_unpackFrom 34 = .ok (.iand, 1) := by decide +kernel
theorem dX7_unpackFrom_35 : decode cX7_unpackFrom 35 = .ok (.iastore, 1) := by decide +kernel
theorem dX7_unpackFrom_36 : decode cX7_unpackFrom 36 = .ok (.aload_n 0, 1) := by decide +kernel
theorem dX7_unpackFrom_37 : decode cX7_unpackFrom 37 = .ok (.getfield 19, 3) := by decide +kernel
theorem dX7_unpackFrom_40 : decode cX7_unpackFrom 40 = .ok (.iload_n 3, 1) := by decide +kernel
theorem dX7_unpackFrom_41 : decode cX7_unpackFrom 41 = .ok (.iload 4, 2) := by decide +kernel
theorem dX7_unpackFrom_43 : decode cX7_unpackFrom 43 = .ok (.bipush 8, 2) := by decide +kernel
theorem dX7_unpackFrom_45 : decode cX7_unpackFrom 45 = .ok (.ishr, 1) := by decide +kernel
theorem dX7_unpackFrom_46 : decode cX7_unpackFrom 46 = .ok (.sipush 255, 3) := by decide +kernel
theorem dX7_unpackFrom_49 : decode cX7_unpackFrom 49 = .ok (.iand, 1) := by decide +kernel
theorem dX7_unpackFrom_50 : decode cX7_unpackFrom 50 = .ok (.iastore, 1) := by decide +kernel
theorem dX7_unpackFrom_51 : decode cX7_unpackFrom 51 = .ok (.aload_n 0, 1) := by decide +kernel
theorem dX7_unpackFrom_52 : decode cX7_unpackFrom 52 = .ok (.getfield 22, 3) := by decide +kernel
theorem dX7_unpackFrom_55 : decode cX7_unpackFrom 55 = .ok (.iload_n 3, 1) := by decide +kernel
theorem dX7_unpackFrom_56 : decode cX7_unpackFrom 56 = .ok (.iload 4, 2) := by decide +kernel
theorem dX7_unpackFrom_58 : decode cX7_unpackFrom 58 = .ok (.bipush 16, 2) := by decide +kernel
theorem dX7_unpackFrom_60 : decode cX7_unpackFrom 60 = .ok (.ishr, 1) := by decide +kernel
theorem dX7_unpackFrom_61 : decode cX7_unpackFrom 61 = .ok (.iconst (-1), 1) := by decide +kernel
theorem dX7_unpackFrom_62 : decode cX7_unpackFrom 62 = .ok (.iadd, 1) := by decide +kernel
theorem dX7_unpackFrom_63 : decode cX7_unpackFrom 63 = .ok (.iastore, 1) := by decide +kernel
theorem dX7_unpackFrom_64 : decode cX7_unpackFrom 64 = .ok (.iinc 3 1, 3) := by decide +kernel
theorem dX7_unpackFrom_67 : decode cX7_unpackFrom 67 = .ok (.goto (-58), 3) := by decide +kernel
theorem dX7_unpackFrom_70 : decode cX7_unpackFrom 70 = .ok (.aload_n 1, 1) := by decide +kernel
theorem dX7_unpackFrom_71 : decode cX7_unpackFrom 71 = .ok (.iload_n 2, 1) := by decide +kernel
theorem dX7_unpackFrom_72 : decode cX7_unpackFrom 72 = .ok (.iconst 1, 1) := by decide +kernel
theorem dX7_unpackFrom_73 : decode cX7_unpackFrom 73 = .ok (.iadd, 1) := by decide +kernel
theorem dX7_unpackFrom_74 : decode cX7_unpackFrom 74 = .ok (.bipush 9, 2) := by decide +kernel
theorem dX7_unpackFrom_76 : decode cX7_unpackFrom 76 = .ok (.iadd, 1) := by decide +kernel
theorem dX7_unpackFrom_77 : decode cX7_unpackFrom 77 = .ok (.aload_n 0, 1) := by decide +kernel
theorem dX7_unpackFrom_78 : decode cX7_unpackFrom 78 = .ok (.getfield 25, 3) := by decide +kernel
theorem dX7_unpackFrom_81 : decode cX7_unpackFrom 81 = .ok (.iconst 0, 1) := by decide +kernel
theorem dX7_unpackFrom_82 : decode cX7_unpackFrom 82 = .ok (.bipush 6, 2) := by decide +kernel
theorem dX7_unpackFrom_84 : decode cX7_unpackFrom 84 = .ok (.invokestatic 38, 3) := by decide +kernel
theorem dX7_unpackFrom_87 : decode cX7_unpackFrom 87 = .ok (.return_, 1) := by decide +kernel
theorem dX7_bearerOf_0 : decode cX7_bearerOf 0 = .ok (.aload_n 0, 1) := by decide +kernel
theorem dX7_bearerOf_1 : decode cX7_bearerOf 1 = .ok (.getfield 22, 3) := by decide +kernel
theorem dX7_bearerOf_4 : decode cX7_bearerOf 4 = .ok (.iload_n 1, 1) := by decide +kernel
theorem dX7_bearerOf_5 : decode cX7_bearerOf 5 = .ok (.iaload, 1) := by decide +kernel
theorem dX7_bearerOf_6 : decode cX7_bearerOf 6 = .ok (.iconst 4, 1) := by decide +kernel
theorem dX7_bearerOf_7 : decode cX7_bearerOf 7 = .ok (.if_icmp .lt 14, 3) := by decide +kernel
theorem dX7_bearerOf_10 : decode cX7_bearerOf 10 = .ok (.aload_n 0, 1) := by decide +kernel
theorem dX7_bearerOf_11 : decode cX7_bearerOf 11 = .ok (.getfield 22, 3) := by decide +kernel
theorem dX7_bearerOf_14 : decode cX7_bearerOf 14 = .ok (.iload_n 1, 1) := by decide +kernel
theorem dX7_bearerOf_15 : decode cX7_bearerOf 15 = .ok (.iaload, 1) := by decide +kernel
theorem dX7_bearerOf_16 : decode cX7_bearerOf 16 = .ok (.iconst 4, 1) := by decide +kernel
theorem dX7_bearerOf_17 : decode cX7_bearerOf 17 = .ok (.isub, 1) := by decide +kernel
theorem dX7_bearerOf_18 : decode cX7_bearerOf 18 = .ok (.goto 4, 3) := by decide +kernel
theorem dX7_bearerOf_21 : decode cX7_bearerOf 21 = .ok (.iconst (-1), 1) := by decide +kernel
theorem dX7_bearerOf_22 : decode cX7_bearerOf 22 = .ok (.ireturn, 1) := by decide +kernel
theorem dX7_townOf_0 : decode cX7_townOf 0 = .ok (.aload_n 0, 1) := by decide +kernel
theorem dX7_townOf_1 : decode cX7_townOf 1 = .ok (.getfield 22, 3) := by decide +kernel
theorem dX7_townOf_4 : decode cX7_townOf 4 = .ok (.iload_n 1, 1) := by decide +kernel
theorem dX7_townOf_5 : decode cX7_townOf 5 = .ok (.iaload, 1) := by decide +kernel
theorem dX7_townOf_6 : decode cX7_townOf 6 = .ok (.iconst 4, 1) := by decide +kernel
theorem dX7_townOf_7 : decode cX7_townOf 7 = .ok (.if_icmp .lt 25, 3) := by decide +kernel
theorem dX7_townOf_10 : decode cX7_townOf 10 = .ok (.aload_n 0, 1) := by decide +kernel
theorem dX7_townOf_11 : decode cX7_townOf 11 = .ok (.getfield 31, 3) := by decide +kernel
theorem dX7_townOf_14 : decode cX7_townOf 14 = .ok (.aload_n 0, 1) := by decide +kernel
theorem dX7_townOf_15 : decode cX7_townOf 15 = .ok (.getfield 22, 3) := by decide +kernel
theorem dX7_townOf_18 : decode cX7_townOf 18 = .ok (.iload_n 1, 1) := by decide +kernel
theorem dX7_townOf_19 : decode cX7_townOf 19 = .ok (.iaload, 1) := by decide +kernel
theorem dX7_townOf_20 : decode cX7_townOf 20 = .ok (.iconst 4, 1) := by decide +kernel
theorem dX7_townOf_21 : decode cX7_townOf 21 = .ok (.isub, 1) := by decide +kernel
theorem dX7_townOf_22 : decode cX7_townOf 22 = .ok (.aload_n 0, 1) := by decide +kernel
theorem dX7_townOf_23 : decode cX7_townOf 23 = .ok (.getfield 9, 3) := by decide +kernel
theorem dX7_townOf_26 : decode cX7_townOf 26 = .ok (.iload_n 2, 1) := by decide +kernel
theorem dX7_townOf_27 : decode cX7_townOf 27 = .ok (.iadd, 1) := by decide +kernel
theorem dX7_townOf_28 : decode cX7_townOf 28 = .ok (.invokevirtual 54, 3) := by decide +kernel
theorem dX7_townOf_31 : decode cX7_townOf 31 = .ok (.ireturn, 1) := by decide +kernel
theorem dX7_townOf_32 : decode cX7_townOf 32 = .ok (.aload_n 0, 1) := by decide +kernel
theorem dX7_townOf_33 : decode cX7_townOf 33 = .ok (.getfield 22, 3) := by decide +kernel
theorem dX7_townOf_36 : decode cX7_townOf 36 = .ok (.iload_n 1, 1) := by decide +kernel
theorem dX7_townOf_37 : decode cX7_townOf 37 = .ok (.iaload, 1) := by decide +kernel
theorem dX7_townOf_38 : decode cX7_townOf 38 = .ok (.iconst (-1), 1) := by decide +kernel
theorem dX7_townOf_39 : decode cX7_townOf 39 = .ok (.if_icmp .ne 7, 3) := by decide +kernel
theorem dX7_townOf_42 : decode cX7_townOf 42 = .ok (.iconst (-1), 1) := by decide +kernel
theorem dX7_townOf_43 : decode cX7_townOf 43 = .ok (.goto 9, 3) := by decide +kernel
theorem dX7_townOf_46 : decode cX7_townOf 46 = .ok (.aload_n 0, 1) := by decide +kernel
theorem dX7_townOf_47 : decode cX7_townOf 47 = .ok (.getfield 22, 3) := by decide +kernel
theorem dX7_townOf_50 : decode cX7_townOf 50 = .ok (.iload_n 1, 1) := by decide +kernel
theorem dX7_townOf_51 : decode cX7_townOf 51 = .ok (.iaload, 1) := by decide +kernel
theorem dX7_townOf_52 : decode cX7_townOf 52 = .ok (.ireturn, 1) := by decide +kernel
theorem dX7_sheetsIn_0 : decode cX7_sheetsIn 0 = .ok (.iconst 0, 1) := by decide +kernel
theorem dX7_sheetsIn_1 : decode cX7_sheetsIn 1 = .ok (.istore_n 3, 1) := by decide +kernel
theorem dX7_sheetsIn_2 : decode cX7_sheetsIn 2 = .ok (.iconst 0, 1) := by decide +kernel
theorem dX7_sheetsIn_3 : decode cX7_sheetsIn 3 = .ok (.istore 4, 2) := by decide +kernel
theorem dX7_sheetsIn_5 : decode cX7_sheetsIn 5 = .ok (.iload 4, 2) := by decide +kernel
theorem dX7_sheetsIn_7 : decode cX7_sheetsIn 7 = .ok (.aload_n 0, 1) := by decide +kernel
theorem dX7_sheetsIn_8 : decode cX7_sheetsIn 8 = .ok (.getfield 31, 3) := by decide +kernel
theorem dX7_sheetsIn_11 : decode cX7_sheetsIn 11 = .ok (.getfield 58, 3) := by decide +kernel
theorem dX7_sheetsIn_14 : decode cX7_sheetsIn 14 = .ok (.if_icmp .ge 27, 3) := by decide +kernel
theorem dX7_sheetsIn_17 : decode cX7_sheetsIn 17 = .ok (.aload_n 0, 1) := by decide +kernel
theorem dX7_sheetsIn_18 : decode cX7_sheetsIn 18 = .ok (.iload 4, 2) := by decide +kernel
theorem dX7_sheetsIn_20 : decode cX7_sheetsIn 20 = .ok (.iload_n 2, 1) := by decide +kernel
theorem dX7_sheetsIn_21 : decode cX7_sheetsIn 21 = .ok (.invokevirtual 61, 3) := by decide +kernel
theorem dX7_sheetsIn_24 : decode cX7_sheetsIn 24 = .ok (.iload_n 1, 1) := by decide +kernel
theorem dX7_sheetsIn_25 : decode cX7_sheetsIn 25 = .ok (.if_icmp .ne 10, 3) := by decide +kernel
theorem dX7_sheetsIn_28 : decode cX7_sheetsIn 28 = .ok (.iload_n 3, 1) := by decide +kernel
theorem dX7_sheetsIn_29 : decode cX7_sheetsIn 29 = .ok (.iconst 1, 1) := by decide +kernel
theorem dX7_sheetsIn_30 : decode cX7_sheetsIn 30 = .ok (.iload 4, 2) := by decide +kernel
theorem dX7_sheetsIn_32 : decode cX7_sheetsIn 32 = .ok (.ishl, 1) := by decide +kernel
theorem dX7_sheetsIn_33 : decode cX7_sheetsIn 33 = .ok (.ior, 1) := by decide +kernel
theorem dX7_sheetsIn_34 : decode cX7_sheetsIn 34 = .ok (.istore_n 3, 1) := by decide +kernel
theorem dX7_sheetsIn_35 : decode cX7_sheetsIn 35 = .ok (.iinc 4 1, 3) := by decide +kernel
theorem dX7_sheetsIn_38 : decode cX7_sheetsIn 38 = .ok (.goto (-33), 3) := by decide +kernel
theorem dX7_sheetsIn_41 : decode cX7_sheetsIn 41 = .ok (.iload_n 3, 1) := by decide +kernel
theorem dX7_sheetsIn_42 : decode cX7_sheetsIn 42 = .ok (.ireturn, 1) := by decide +kernel
theorem dX7_clerksIn_0 : decode cX7_clerksIn 0 = .ok (.iconst 0, 1) := by decide +kernel
theorem dX7_clerksIn_1 : decode cX7_clerksIn 1 = .ok (.istore_n 2, 1) := by decide +kernel
theorem dX7_clerksIn_2 : decode cX7_clerksIn 2 = .ok (.iconst 0, 1) := by decide +kernel
theorem dX7_clerksIn_3 : decode cX7_clerksIn 3 = .ok (.istore_n 3, 1) := by decide +kernel
theorem dX7_clerksIn_4 : decode cX7_clerksIn 4 = .ok (.iload_n 3, 1) := by decide +kernel
theorem dX7_clerksIn_5 : decode cX7_clerksIn 5 = .ok (.aload_n 0, 1) := by decide +kernel
theorem dX7_clerksIn_6 : decode cX7_clerksIn 6 = .ok (.getfield 31, 3) := by decide +kernel
theorem dX7_clerksIn_9 : decode cX7_clerksIn 9 = .ok (.getfield 64, 3) := by decide +kernel
theorem dX7_clerksIn_12 : decode cX7_clerksIn 12 = .ok (.if_icmp .ge 31, 3) := by decide +kernel
theorem dX7_clerksIn_15 : decode cX7_clerksIn 15 = .ok (.aload_n 0, 1) := by decide +kernel
theorem dX7_clerksIn_16 : decode cX7_clerksIn 16 = .ok (.getfield 31, 3) := by decide +kernel
theorem dX7_clerksIn_19 : decode cX7_clerksIn 19 = .ok (.iload_n 3, 1) := by decide +kernel
theorem dX7_clerksIn_20 : decode cX7_clerksIn 20 = .ok (.aload_n 0, 1) := by decide +kernel
theorem dX7_clerksIn_21 : decode cX7_clerksIn 21 = .ok (.getfield 9, 3) := by decide +kernel
theorem dX7_clerksIn_24 : decode cX7_clerksIn 24 = .ok (.invokevirtual 54, 3) := by decide +kernel
theorem dX7_clerksIn_27 : decode cX7_clerksIn 27 = .ok (.iload_n 1, 1) := by decide +kernel
theorem dX7_clerksIn_28 : decode cX7_clerksIn 28 = .ok (.if_icmp .ne 9, 3) := by decide +kernel
theorem dX7_clerksIn_31 : decode cX7_clerksIn 31 = .ok (.iload_n 2, 1) := by decide +kernel
theorem dX7_clerksIn_32 : decode cX7_clerksIn 32 = .ok (.iconst 1, 1) := by decide +kernel
theorem dX7_clerksIn_33 : decode cX7_clerksIn 33 = .ok (.iload_n 3, 1) := by decide +kernel
theorem dX7_clerksIn_34 : decode cX7_clerksIn 34 = .ok (.ishl, 1) := by decide +kernel
theorem dX7_clerksIn_35 : decode cX7_clerksIn 35 = .ok (.ior, 1) := by decide +kernel
theorem dX7_clerksIn_36 : decode cX7_clerksIn 36 = .ok (.istore_n 2, 1) := by decide +kernel
theorem dX7_clerksIn_37 : decode cX7_clerksIn 37 = .ok (.iinc 3 1, 3) := by decide +kernel
theorem dX7_clerksIn_40 : decode cX7_clerksIn 40 = .ok (.goto (-36), 3) := by decide +kernel
theorem dX7_clerksIn_43 : decode cX7_clerksIn 43 = .ok (.iload_n 2, 1) := by decide +kernel
theorem dX7_clerksIn_44 : decode cX7_clerksIn 44 = .ok (.ireturn, 1) := by decide +kernel
theorem dX7_archive_0 : decode cX7_archive 0 = .ok (.aload_n 0, 1) := by decide +kernel
theorem dX7_archive_1 : decode cX7_archive 1 = .ok (.iload_n 1, 1) := by decide +kernel
theorem dX7_archive_2 : decode cX7_archive 2 = .ok (.invokevirtual 67, 3) := by decide +kernel
theorem dX7_archive_5 : decode cX7_archive 5 = .ok (.ireturn, 1) := by decide +kernel
theorem dX7_sheetsOf_0 : decode cX7_sheetsOf 0 = .ok (.aload_n 0, 1) := by decide +kernel
theorem dX7_sheetsOf_1 : decode cX7_sheetsOf 1 = .ok (.iconst 4, 1) := by decide +kernel
theorem dX7_sheetsOf_2 : decode cX7_sheetsOf 2 = .ok (.iload_n 1, 1) := by decide +kernel
theorem dX7_sheetsOf_3 : decode cX7_sheetsOf 3 = .ok (.iadd, 1) := by decide +kernel
theorem dX7_sheetsOf_4 : decode cX7_sheetsOf 4 = .ok (.invokevirtual 67, 3) := by decide +kernel
theorem dX7_sheetsOf_7 : decode cX7_sheetsOf 7 = .ok (.ireturn, 1) := by decide +kernel
theorem dX7_burntSheets_0 : decode cX7_burntSheets 0 = .ok (.aload_n 0, 1) := by decide +kernel
theorem dX7_burntSheets_1 : decode cX7_burntSheets 1 = .ok (.iconst (-1), 1) := by decide +kernel
theorem dX7_burntSheets_2 : decode cX7_burntSheets 2 = .ok (.invokevirtual 67, 3) := by decide +kernel
theorem dX7_burntSheets_5 : decode cX7_burntSheets 5 = .ok (.ireturn, 1) := by decide +kernel
theorem dX7_sheetsAt_0 : decode cX7_sheetsAt 0 = .ok (.iconst 0, 1) := by decide +kernel
theorem dX7_sheetsAt_1 : decode cX7_sheetsAt 1 = .ok (.istore_n 2, 1) := by decide +kernel
theorem dX7_sheetsAt_2 : decode cX7_sheetsAt 2 = .ok (.iconst 0, 1) := by decide +kernel
theorem dX7_sheetsAt_3 : decode cX7_sheetsAt 3 = .ok (.istore_n 3, 1) := by decide +kernel
theorem dX7_sheetsAt_4 : decode cX7_sheetsAt 4 = .ok (.iload_n 3, 1) := by decide +kernel
theorem dX7_sheetsAt_5 : decode cX7_sheetsAt 5 = .ok (.aload_n 0, 1) := by decide +kernel
theorem dX7_sheetsAt_6 : decode cX7_sheetsAt 6 = .ok (.getfield 31, 3) := by decide +kernel
theorem dX7_sheetsAt_9 : decode cX7_sheetsAt 9 = .ok (.getfield 58, 3) := by decide +kernel
theorem dX7_sheetsAt_12 : decode cX7_sheetsAt 12 = .ok (.if_icmp .ge 25, 3) := by decide +kernel
theorem dX7_sheetsAt_15 : decode cX7_sheetsAt 15 = .ok (.aload_n 0, 1) := by decide +kernel
theorem dX7_sheetsAt_16 : decode cX7_sheetsAt 16 = .ok (.getfield 22, 3) := by decide +kernel
theorem dX7_sheetsAt_19 : decode cX7_sheetsAt 19 = .ok (.iload_n 3, 1) := by decide +kernel
theorem dX7_sheetsAt_20 : decode cX7_sheetsAt 20 = .ok (.iaload, 1) := by decide +kernel
theorem dX7_sheetsAt_21 : decode cX7_sheetsAt 21 = .ok (.iload_n 1, 1) := by decide +kernel
theorem dX7_sheetsAt_22 : decode cX7_sheetsAt 22 = .ok (.if_icmp .ne 9, 3) := by decide +kernel
theorem dX7_sheetsAt_25 : decode cX7_sheetsAt 25 = .ok (.iload_n 2, 1) := by decide +kernel
theorem dX7_sheetsAt_26 : decode cX7_sheetsAt 26 = .ok (.iconst 1, 1) := by decide +kernel
theorem dX7_sheetsAt_27 : decode cX7_sheetsAt 27 = .ok (.iload_n 3, 1) := by decide +kernel
theorem dX7_sheetsAt_28 : decode cX7_sheetsAt 28 = .ok (.ishl, 1) := by decide +kernel
theorem dX7_sheetsAt_29 : decode cX7_sheetsAt 29 = .ok (.ior, 1) := by decide +kernel
theorem dX7_sheetsAt_30 : decode cX7_sheetsAt 30 = .ok (.istore_n 2, 1) := by decide +kernel
theorem dX7_sheetsAt_31 : decode cX7_sheetsAt 31 = .ok (.iinc 3 1, 3) := by decide +kernel
theorem dX7_sheetsAt_34 : decode cX7_sheetsAt 34 = .ok (.goto (-30), 3) := by decide +kernel
theorem dX7_sheetsAt_37 : decode cX7_sheetsAt 37 = .ok (.iload_n 2, 1) := by decide +kernel
theorem dX7_sheetsAt_38 : decode cX7_sheetsAt 38 = .ok (.ireturn, 1) := by decide +kernel
theorem dX7_sheetsInHands_0 : decode cX7_sheetsInHands 0 = .ok (.iconst 0, 1) := by decide +kernel
theorem dX7_sheetsInHands_1 : decode cX7_sheetsInHands 1 = .ok (.istore_n 1, 1) := by decide +kernel
theorem dX7_sheetsInHands_2 : decode cX7_sheetsInHands 2 = .ok (.iconst 0, 1) := by decide +kernel
theorem dX7_sheetsInHands_3 : decode cX7_sheetsInHands 3 = .ok (.istore_n 2, 1) := by decide +kernel
theorem dX7_sheetsInHands_4 : decode cX7_sheetsInHands 4 = .ok (.iload_n 2, 1) := by decide +kernel
theorem dX7_sheetsInHands_5 : decode cX7_sheetsInHands 5 = .ok (.aload_n 0, 1) := by decide +kernel
theorem dX7_sheetsInHands_6 : decode cX7_sheetsInHands 6 = .ok (.getfield 31, 3) := by decide +kernel
theorem dX7_sheetsInHands_9 : decode cX7_sheetsInHands 9 = .ok (.getfield 58, 3) := by decide +kernel
theorem dX7_sheetsInHands_12 : decode cX7_sheetsInHands 12 = .ok (.if_icmp .ge 25, 3) := by decide +kernel
theorem dX7_sheetsInHands_15 : decode cX7_sheetsInHands 15 = .ok (.aload_n 0, 1) := by decide +kernel
theorem dX7_sheetsInHands_16 : decode cX7_sheetsInHands 16 = .ok (.getfield 22, 3) := by decide +kernel
theorem dX7_sheetsInHands_19 : decode cX7_sheetsInHands 19 = .ok (.iload_n 2, 1) := by decide +kernel
theorem dX7_sheetsInHands_20 : decode cX7_sheetsInHands 20 = .ok (.iaload, 1) := by decide +kernel
theorem dX7_sheetsInHands_21 : decode cX7_sheetsInHands 21 = .ok (.iconst 4, 1) := by decide +kernel
theorem dX7_sheetsInHands_22 : decode cX7_sheetsInHands 22 = .ok (.if_icmp .lt 9, 3) := by decide +kernel
theorem dX7_sheetsInHands_25 : decode cX7_sheetsInHands 25 = .ok (.iload_n 1, 1) := by decide +kernel
theorem dX7_sheetsInHands_26 : decode cX7_sheetsInHands 26 = .ok (.iconst 1, 1) := by decide +kernel
theorem dX7_sheetsInHands_27 : decode cX7_sheetsInHands 27 = .ok (.iload_n 2, 1) := by decide +kernel
theorem dX7_sheetsInHands_28 : decode cX7_sheetsInHands 28 = .ok (.ishl, 1) := by decide +kernel
theorem dX7_sheetsInHands_29 : decode cX7_sheetsInHands 29 = .ok (.ior, 1) := by decide +kernel
theorem dX7_sheetsInHands_30 : decode cX7_sheetsInHands 30 = .ok (.istore_n 1, 1) := by decide +kernel
theorem dX7_sheetsInHands_31 : decode cX7_sheetsInHands 31 = .ok (.iinc 2 1, 3) := by decide +kernel
theorem dX7_sheetsInHands_34 : decode cX7_sheetsInHands 34 = .ok (.goto (-30), 3) := by decide +kernel
theorem dX7_sheetsInHands_37 : decode cX7_sheetsInHands 37 = .ok (.iload_n 1, 1) := by decide +kernel
theorem dX7_sheetsInHands_38 : decode cX7_sheetsInHands 38 = .ok (.ireturn, 1) := by decide +kernel
theorem dX7_difference_0 : decode cX7_difference 0 = .ok (.aload_n 0, 1) := by decide +kernel
theorem dX7_difference_1 : decode cX7_difference 1 = .ok (.getfield 19, 3) := by decide +kernel
theorem dX7_difference_4 : decode cX7_difference 4 = .ok (.iload_n 1, 1) := by decide +kernel
theorem dX7_difference_5 : decode cX7_difference 5 = .ok (.iaload, 1) := by decide +kernel
theorem dX7_difference_6 : decode cX7_difference 6 = .ok (.aload_n 0, 1) := by decide +kernel
theorem dX7_difference_7 : decode cX7_difference 7 = .ok (.getfield 15, 3) := by decide +kernel
theorem dX7_difference_10 : decode cX7_difference 10 = .ok (.iload_n 2, 1) := by decide +kernel
theorem dX7_difference_11 : decode cX7_difference 11 = .ok (.iaload, 1) := by decide +kernel
theorem dX7_difference_12 : decode cX7_difference 12 = .ok (.ixor, 1) := by decide +kernel
theorem dX7_difference_13 : decode cX7_difference 13 = .ok (.invokestatic 71, 3) := by decide +kernel
theorem dX7_difference_16 : decode cX7_difference 16 = .ok (.ireturn, 1) := by decide +kernel
theorem dX7_fits_0 : decode cX7_fits 0 = .ok (.iload_n 1, 1) := by decide +kernel
theorem dX7_fits_1 : decode cX7_fits 1 = .ok (.iload_n 2, 1) := by decide +kernel
theorem dX7_fits_2 : decode cX7_fits 2 = .ok (.if_icmp .eq 53, 3) := by decide +kernel
theorem dX7_fits_5 : decode cX7_fits 5 = .ok (.aload_n 0, 1) := by decide +kernel
theorem dX7_fits_6 : decode cX7_fits 6 = .ok (.getfield 22, 3) := by decide +kernel
theorem dX7_fits_9 : decode cX7_fits 9 = .ok (.iload_n 1, 1) := by decide +kernel
theorem dX7_fits_10 : decode cX7_fits 10 = .ok (.iaload, 1) := by decide +kernel
theorem dX7_fits_11 : decode cX7_fits 11 = .ok (.iconst (-1), 1) := by decide +kernel
theorem dX7_fits_12 : decode cX7_fits 12 = .ok (.if_icmp .eq 43, 3) := by decide +kernel
theorem dX7_fits_15 : decode cX7_fits 15 = .ok (.aload_n 0, 1) := by decide +kernel
theorem dX7_fits_16 : decode cX7_fits 16 = .ok (.getfield 22, 3) := by decide +kernel
theorem dX7_fits_19 : decode cX7_fits 19 = .ok (.iload_n 2, 1) := by decide +kernel
theorem dX7_fits_20 : decode cX7_fits 20 = .ok (.iaload, 1) := by decide +kernel
theorem dX7_fits_21 : decode cX7_fits 21 = .ok (.iconst (-1), 1) := by decide +kernel
theorem dX7_fits_22 : decode cX7_fits 22 = .ok (.if_icmp .eq 33, 3) := by decide +kernel
theorem dX7_fits_25 : decode cX7_fits 25 = .ok (.aload_n 0, 1) := by decide +kernel
theorem dX7_fits_26 : decode cX7_fits 26 = .ok (.getfield 19, 3) := by decide +kernel
theorem dX7_fits_29 : decode cX7_fits 29 = .ok (.iload_n 1, 1) := by decide +kernel
theorem dX7_fits_30 : decode cX7_fits 30 = .ok (.iaload, 1) := by decide +kernel
theorem dX7_fits_31 : decode cX7_fits 31 = .ok (.aload_n 0, 1) := by decide +kernel
theorem dX7_fits_32 : decode cX7_fits 32 = .ok (.getfield 15, 3) := by decide +kernel
theorem dX7_fits_35 : decode cX7_fits 35 = .ok (.iload_n 2, 1) := by decide +kernel
theorem dX7_fits_36 : decode cX7_fits 36 = .ok (.iaload, 1) := by decide +kernel
theorem dX7_fits_37 : decode cX7_fits 37 = .ok (.ixor, 1) := by decide +kernel
theorem dX7_fits_38 : decode cX7_fits 38 = .ok (.invokestatic 71, 3) := by decide +kernel
theorem dX7_fits_41 : decode cX7_fits 41 = .ok (.aload_n 0, 1) := by decide +kernel
theorem dX7_fits_42 : decode cX7_fits 42 = .ok (.getfield 31, 3) := by decide +kernel
theorem dX7_fits_45 : decode cX7_fits 45 = .ok (.getfield 76, 3) := by decide +kernel
theorem dX7_fits_48 : decode cX7_fits 48 = .ok (.if_icmp .gt 7, 3) := by decide +kernel
theorem dX7_fits_51 : decode cX7_fits 51 = .ok (.iconst 1, 1) := by decide +kernel
theorem dX7_fits_52 : decode cX7_fits 52 = .ok (.goto 4, 3) := by decide +kernel
theorem dX7_fits_55 : decode cX7_fits 55 = .ok (.iconst 0, 1) := by decide +kernel
theorem dX7_fits_56 : decode cX7_fits 56 = .ok (.ireturn, 1) := by decide +kernel
theorem dX7_fitting_0 : decode cX7_fitting 0 = .ok (.iconst 0, 1) := by decide +kernel
theorem dX7_fitting_1 : decode cX7_fitting 1 = .ok (.istore_n 2, 1) := by decide +kernel
theorem dX7_fitting_2 : decode cX7_fitting 2 = .ok (.iconst 0, 1) := by decide +kernel
theorem dX7_fitting_3 : decode cX7_fitting 3 = .ok (.istore_n 3, 1) := by decide +kernel
theorem dX7_fitting_4 : decode cX7_fitting 4 = .ok (.iload_n 3, 1) := by decide +kernel
theorem dX7_fitting_5 : decode cX7_fitting 5 = .ok (.aload_n 0, 1) := by decide +kernel
theorem dX7_fitting_6 : decode cX7_fitting 6 = .ok (.getfield 31, 3) := by decide +kernel
theorem dX7_fitting_9 : decode cX7_fitting 9 = .ok (.getfield 58, 3) := by decide +kernel
theorem dX7_fitting_12 : decode cX7_fitting 12 = .ok (.if_icmp .ge 24, 3) := by decide +kernel
theorem dX7_fitting_15 : decode cX7_fitting 15 = .ok (.aload_n 0, 1) := by decide +kernel
theorem dX7_fitting_16 : decode cX7_fitting 16 = .ok (.iload_n 1, 1) := by decide +kernel
theorem dX7_fitting_17 : decode cX7_fitting 17 = .ok (.iload_n 3, 1) := by decide +kernel
theorem dX7_fitting_18 : decode cX7_fitting 18 = .ok (.invokevirtual 79, 3) := by decide +kernel
theorem dX7_fitting_21 : decode cX7_fitting 21 = .ok (.ifCond .eq 9, 3) := by decide +kernel
theorem dX7_fitting_24 : decode cX7_fitting 24 = .ok (.iload_n 2, 1) := by decide +kernel
theorem dX7_fitting_25 : decode cX7_fitting 25 = .ok (.iconst 1, 1) := by decide +kernel
theorem dX7_fitting_26 : decode cX7_fitting 26 = .ok (.iload_n 3, 1) := by decide +kernel
theorem dX7_fitting_27 : decode cX7_fitting 27 = .ok (.ishl, 1) := by decide +kernel
theorem dX7_fitting_28 : decode cX7_fitting 28 = .ok (.ior, 1) := by decide +kernel
theorem dX7_fitting_29 : decode cX7_fitting 29 = .ok (.istore_n 2, 1) := by decide +kernel
theorem dX7_fitting_30 : decode cX7_fitting 30 = .ok (.iinc 3 1, 3) := by decide +kernel
theorem dX7_fitting_33 : decode cX7_fitting 33 = .ok (.goto (-29), 3) := by decide +kernel
theorem dX7_fitting_36 : decode cX7_fitting 36 = .ok (.iload_n 2, 1) := by decide +kernel
theorem dX7_fitting_37 : decode cX7_fitting 37 = .ok (.ireturn, 1) := by decide +kernel
theorem dX7_wordsOf_0 : decode cX7_wordsOf 0 = .ok (.iconst 0, 1) := by decide +kernel
theorem dX7_wordsOf_1 : decode cX7_wordsOf 1 = .ok (.istore_n 2, 1) := by decide +kernel
theorem dX7_wordsOf_2 : decode cX7_wordsOf 2 = .ok (.iconst 0, 1) := by decide +kernel
theorem dX7_wordsOf_3 : decode cX7_wordsOf 3 = .ok (.istore_n 3, 1) := by decide +kernel
theorem dX7_wordsOf_4 : decode cX7_wordsOf 4 = .ok (.iload_n 3, 1) := by decide +kernel
theorem dX7_wordsOf_5 : decode cX7_wordsOf 5 = .ok (.aload_n 0, 1) := by decide +kernel
theorem dX7_wordsOf_6 : decode cX7_wordsOf 6 = .ok (.getfield 31, 3) := by decide +kernel
theorem dX7_wordsOf_9 : decode cX7_wordsOf 9 = .ok (.getfield 83, 3) := by decide +kernel
theorem dX7_wordsOf_12 : decode cX7_wordsOf 12 = .ok (.if_icmp .ge 66, 3) := by decide +kernel
theorem dX7_wordsOf_15 : decode cX7_wordsOf 15 = .ok (.aload_n 0, 1) := by decide +kernel
theorem dX7_wordsOf_16 : decode cX7_wordsOf 16 = .ok (.getfield 31, 3) := by decide +kernel
theorem dX7_wordsOf_19 : decode cX7_wordsOf 19 = .ok (.getfield 86, 3) := by decide +kernel
theorem dX7_wordsOf_22 : decode cX7_wordsOf 22 = .ok (.iload_n 3, 1) := by decide +kernel
theorem dX7_wordsOf_23 : decode cX7_wordsOf 23 = .ok (.iaload, 1) := by decide +kernel
theorem dX7_wordsOf_24 : decode cX7_wordsOf 24 = .ok (.istore 4, 2) := by decide +kernel
theorem dX7_wordsOf_26 : decode cX7_wordsOf 26 = .ok (.aload_n 0, 1) := by decide +kernel
theorem dX7_wordsOf_27 : decode cX7_wordsOf 27 = .ok (.getfield 31, 3) := by decide +kernel
theorem dX7_wordsOf_30 : decode cX7_wordsOf 30 = .ok (.getfield 89, 3) := by decide +kernel
theorem dX7_wordsOf_33 : decode cX7_wordsOf 33 = .ok (.iload_n 3, 1) := by decide +kernel
theorem dX7_wordsOf_34 : decode cX7_wordsOf 34 = .ok (.iaload, 1) := by decide +kernel
theorem dX7_wordsOf_35 : decode cX7_wordsOf 35 = .ok (.istore 5, 2) := by decide +kernel
theorem dX7_wordsOf_37 : decode cX7_wordsOf 37 = .ok (.iload_n 1, 1) := by decide +kernel
theorem dX7_wordsOf_38 : decode cX7_wordsOf 38 = .ok (.iload 4, 2) := by decide +kernel
theorem dX7_wordsOf_40 : decode cX7_wordsOf 40 = .ok (.invokestatic 92, 3) := by decide +kernel
theorem dX7_wordsOf_43 : decode cX7_wordsOf 43 = .ok (.ifCond .eq 29, 3) := by decide +kernel
theorem dX7_wordsOf_46 : decode cX7_wordsOf 46 = .ok (.iload_n 1, 1) := by decide +kernel
theorem dX7_wordsOf_47 : decode cX7_wordsOf 47 = .ok (.iload 5, 2) := by decide +kernel
theorem dX7_wordsOf_49 : decode cX7_wordsOf 49 = .ok (.invokestatic 92, 3) := by decide +kernel
theorem dX7_wordsOf_52 : decode cX7_wordsOf 52 = .ok (.ifCond .eq 20, 3) := by decide +kernel
theorem dX7_wordsOf_55 : decode cX7_wordsOf 55 = .ok (.aload_n 0, 1) := by decide +kernel
theorem dX7_wordsOf_56 : decode cX7_wordsOf 56 = .ok (.iload 4, 2) := by decide +kernel
theorem dX7_wordsOf_58 : decode cX7_wordsOf 58 = .ok (.iload 5, 2) := by decide +kernel
theorem dX7_wordsOf_60 : decode cX7_wordsOf 60 = .ok (.invokevirtual 79, 3) := by decide +kernel
theorem dX7_wordsOf_63 : decode cX7_wordsOf 63 = .ok (.ifCond .eq 9, 3) := by decide +kernel
theorem dX7_wordsOf_66 : decode cX7_wordsOf 66 = .ok (.iload_n 2, 1) := by decide +kernel
theorem dX7_wordsOf_67 : decode cX7_wordsOf 67 = .ok (.iconst 1, 1) := by decide +kernel
theorem dX7_wordsOf_68 : decode cX7_wordsOf 68 = .ok (.iload_n 3, 1) := by decide +kernel
theorem dX7_wordsOf_69 : decode cX7_wordsOf 69 = .ok (.ishl, 1) := by decide +kernel
theorem dX7_wordsOf_70 : decode cX7_wordsOf 70 = .ok (.ior, 1) := by decide +kernel
theorem dX7_wordsOf_71 : decode cX7_wordsOf 71 = .ok (.istore_n 2, 1) := by decide +kernel
theorem dX7_wordsOf_72 : decode cX7_wordsOf 72 = .ok (.iinc 3 1, 3) := by decide +kernel
theorem dX7_wordsOf_75 : decode cX7_wordsOf 75 = .ok (.goto (-71), 3) := by decide +kernel
theorem dX7_wordsOf_78 : decode cX7_wordsOf 78 = .ok (.iload_n 2, 1) := by decide +kernel
theorem dX7_wordsOf_79 : decode cX7_wordsOf 79 = .ok (.ireturn, 1) := by decide +kernel
theorem dX7_townShowing_0 : decode cX7_townShowing 0 = .ok (.aload_n 0, 1) := by decide +kernel
theorem dX7_townShowing_1 : decode cX7_townShowing 1 = .ok (.getfield 31, 3) := by decide +kernel
theorem dX7_townShowing_4 : decode cX7_townShowing 4 = .ok (.getfield 86, 3) := by decide +kernel
theorem dX7_townShowing_7 : decode cX7_townShowing 7 = .ok (.iload_n 1, 1) := by decide +kernel
theorem dX7_townShowing_8 : decode cX7_townShowing 8 = .ok (.iaload, 1) := by decide +kernel
theorem dX7_townShowing_9 : decode cX7_townShowing 9 = .ok (.istore_n 2, 1) := by decide +kernel
theorem dX7_townShowing_10 : decode cX7_townShowing 10 = .ok (.aload_n 0, 1) := by decide +kernel
theorem dX7_townShowing_11 : decode cX7_townShowing 11 = .ok (.getfield 31, 3) := by decide +kernel
theorem dX7_townShowing_14 : decode cX7_townShowing 14 = .ok (.getfield 89, 3) := by decide +kernel
theorem dX7_townShowing_17 : decode cX7_townShowing 17 = .ok (.iload_n 1, 1) := by decide +kernel
theorem dX7_townShowing_18 : decode cX7_townShowing 18 = .ok (.iaload, 1) := by decide +kernel
theorem dX7_townShowing_19 : decode cX7_townShowing 19 = .ok (.istore_n 3, 1) := by decide +kernel
theorem dX7_townShowing_20 : decode cX7_townShowing 20 = .ok (.aload_n 0, 1) := by decide +kernel
theorem dX7_townShowing_21 : decode cX7_townShowing 21 = .ok (.iload_n 2, 1) := by decide +kernel
theorem dX7_townShowing_22 : decode cX7_townShowing 22 = .ok (.iload_n 3, 1) := by decide +kernel
theorem dX7_townShowing_23 : decode cX7_townShowing 23 = .ok (.invokevirtual 79, 3) := by decide +kernel
theorem dX7_townShowing_26 : decode cX7_townShowing 26 = .ok (.ifCond .eq 27, 3) := by decide +kernel
theorem dX7_townShowing_29 : decode cX7_townShowing 29 = .ok (.aload_n 0, 1) := by decide +kernel
theorem dX7_townShowing_30 : decode cX7_townShowing 30 = .ok (.iload_n 2, 1) := by decide +kernel
theorem dX7_townShowing_31 : decode cX7_townShowing 31 = .ok (.iconst 0, 1) := by decide +kernel
theorem dX7_townShowing_32 : decode cX7_townShowing 32 = .ok (.invokevirtual 61, 3) := by decide +kernel
theorem dX7_townShowing_35 : decode cX7_townShowing 35 = .ok (.aload_n 0, 1) := by decide +kernel
theorem dX7_townShowing_36 : decode cX7_townShowing 36 = .ok (.iload_n 3, 1) := by decide +kernel
theorem dX7_townShowing_37 : decode cX7_townShowing 37 = .ok (.iconst 0, 1) := by decide +kernel
theorem dX7_townShowing_38 : decode cX7_townShowing 38 = .ok (.invokevirtual 61, 3) := by decide +kernel
theorem dX7_townShowing_41 : decode cX7_townShowing 41 = .ok (.if_icmp .ne 12, 3) := by decide +kernel
theorem dX7_townShowing_44 : decode cX7_townShowing 44 = .ok (.aload_n 0, 1) := by decide +kernel
theorem dX7_townShowing_45 : decode cX7_townShowing 45 = .ok (.iload_n 2, 1) := by decide +kernel
theorem dX7_townShowing_46 : decode cX7_townShowing 46 = .ok (.iconst 0, 1) := by decide +kernel
theorem dX7_townShowing_47 : decode cX7_townShowing 47 = .ok (.invokevirtual 61, 3) := by decide +kernel
theorem dX7_townShowing_50 : decode cX7_townShowing 50 = .ok (.goto 4, 3) := by decide +kernel
theorem dX7_townShowing_53 : decode cX7_townShowing 53 = .ok (.iconst (-1), 1) := by decide +kernel
theorem dX7_townShowing_54 : decode cX7_townShowing 54 = .ok (.ireturn, 1) := by decide +kernel
theorem dX7_wordsLost_0 : decode cX7_wordsLost 0 = .ok (.iconst 0, 1) := by decide +kernel
theorem dX7_wordsLost_1 : decode cX7_wordsLost 1 = .ok (.istore_n 2, 1) := by decide +kernel
theorem dX7_wordsLost_2 : decode cX7_wordsLost 2 = .ok (.iconst 0, 1) := by decide +kernel
theorem dX7_wordsLost_3 : decode cX7_wordsLost 3 = .ok (.istore_n 3, 1) := by decide +kernel
theorem dX7_wordsLost_4 : decode cX7_wordsLost 4 = .ok (.iload_n 3, 1) := by decide +kernel
theorem dX7_wordsLost_5 : decode cX7_wordsLost 5 = .ok (.aload_n 0, 1) := by decide +kernel
theorem dX7_wordsLost_6 : decode cX7_wordsLost 6 = .ok (.getfield 31, 3) := by decide +kernel
theorem dX7_wordsLost_9 : decode cX7_wordsLost 9 = .ok (.getfield 83, 3) := by decide +kernel
theorem dX7_wordsLost_12 : decode cX7_wordsLost 12 = .ok (.if_icmp .ge 63, 3) := by decide +kernel
theorem dX7_wordsLost_15 : decode cX7_wordsLost 15 = .ok (.aload_n 0, 1) := by decide +kernel
theorem dX7_wordsLost_16 : decode cX7_wordsLost 16 = .ok (.getfield 31, 3) := by decide +kernel
theorem dX7_wordsLost_19 : decode cX7_wordsLost 19 = .ok (.getfield 86, 3) := by decide +kernel
theorem dX7_wordsLost_22 : decode cX7_wordsLost 22 = .ok (.iload_n 3, 1) := by decide +kernel
theorem dX7_wordsLost_23 : decode cX7_wordsLost 23 = .ok (.iaload, 1) := by decide +kernel
theorem dX7_wordsLost_24 : decode cX7_wordsLost 24 = .ok (.istore 4, 2) := by decide +kernel
theorem dX7_wordsLost_26 : decode cX7_wordsLost 26 = .ok (.aload_n 0, 1) := by decide +kernel
theorem dX7_wordsLost_27 : decode cX7_wordsLost 27 = .ok (.getfield 31, 3) := by decide +kernel
theorem dX7_wordsLost_30 : decode cX7_wordsLost 30 = .ok (.getfield 89, 3) := by decide +kernel
theorem dX7_wordsLost_33 : decode cX7_wordsLost 33 = .ok (.iload_n 3, 1) := by decide +kernel
theorem dX7_wordsLost_34 : decode cX7_wordsLost 34 = .ok (.iaload, 1) := by decide +kernel
theorem dX7_wordsLost_35 : decode cX7_wordsLost 35 = .ok (.istore 5, 2) := by decide +kernel
theorem dX7_wordsLost_37 : decode cX7_wordsLost 37 = .ok (.aload_n 0, 1) := by decide +kernel
theorem dX7_wordsLost_38 : decode cX7_wordsLost 38 = .ok (.iload_n 3, 1) := by decide +kernel
theorem dX7_wordsLost_39 : decode cX7_wordsLost 39 = .ok (.invokevirtual 95, 3) := by decide +kernel
theorem dX7_wordsLost_42 : decode cX7_wordsLost 42 = .ok (.ifCond .ne 27, 3) := by decide +kernel
theorem dX7_wordsLost_45 : decode cX7_wordsLost 45 = .ok (.iload_n 1, 1) := by decide +kernel
theorem dX7_wordsLost_46 : decode cX7_wordsLost 46 = .ok (.iload 4, 2) := by decide +kernel
theorem dX7_wordsLost_48 : decode cX7_wordsLost 48 = .ok (.invokestatic 92, 3) := by decide +kernel
theorem dX7_wordsLost_51 : decode cX7_wordsLost 51 = .ok (.ifCond .ne 12, 3) := by decide +kernel
theorem dX7_wordsLost_54 : decode cX7_wordsLost 54 = .ok (.iload_n 1, 1) := by decide +kernel
theorem dX7_wordsLost_55 : decode cX7_wordsLost 55 = .ok (.iload 5, 2) := by decide +kernel
theorem dX7_wordsLost_57 : decode cX7_wordsLost 57 = .ok (.invokestatic 92, 3) := by decide +kernel
theorem dX7_wordsLost_60 : decode cX7_wordsLost 60 = .ok (.ifCond .eq 9, 3) := by decide +kernel
theorem dX7_wordsLost_63 : decode cX7_wordsLost 63 = .ok (.iload_n 2, 1) := by decide +kernel
theorem dX7_wordsLost_64 : decode cX7_wordsLost 64 = .ok (.iconst 1, 1) := by decide +kernel
theorem dX7_wordsLost_65 : decode cX7_wordsLost 65 = .ok (.iload_n 3, 1) := by decide +kernel
theorem dX7_wordsLost_66 : decode cX7_wordsLost 66 = .ok (.ishl, 1) := by decide +kernel
theorem dX7_wordsLost_67 : decode cX7_wordsLost 67 = .ok (.ior, 1) := by decide +kernel
theorem dX7_wordsLost_68 : decode cX7_wordsLost 68 = .ok (.istore_n 2, 1) := by decide +kernel
theorem dX7_wordsLost_69 : decode cX7_wordsLost 69 = .ok (.iinc 3 1, 3) := by decide +kernel
theorem dX7_wordsLost_72 : decode cX7_wordsLost 72 = .ok (.goto (-68), 3) := by decide +kernel
theorem dX7_wordsLost_75 : decode cX7_wordsLost 75 = .ok (.iload_n 2, 1) := by decide +kernel
theorem dX7_wordsLost_76 : decode cX7_wordsLost 76 = .ok (.ireturn, 1) := by decide +kernel
theorem dX7_isDead_0 : decode cX7_isDead 0 = .ok (.aload_n 0, 1) := by decide +kernel
theorem dX7_isDead_1 : decode cX7_isDead 1 = .ok (.getfield 22, 3) := by decide +kernel
theorem dX7_isDead_4 : decode cX7_isDead 4 = .ok (.aload_n 0, 1) := by decide +kernel
theorem dX7_isDead_5 : decode cX7_isDead 5 = .ok (.getfield 31, 3) := by decide +kernel
theorem dX7_isDead_8 : decode cX7_isDead 8 = .ok (.getfield 86, 3) := by decide +kernel
theorem dX7_isDead_11 : decode cX7_isDead 11 = .ok (.iload_n 1, 1) := by decide +kernel
theorem dX7_isDead_12 : decode cX7_isDead 12 = .ok (.iaload, 1) := by decide +kernel
theorem dX7_isDead_13 : decode cX7_isDead 13 = .ok (.iaload, 1) := by decide +kernel
theorem dX7_isDead_14 : decode cX7_isDead 14 = .ok (.iconst (-1), 1) := by decide +kernel
theorem dX7_isDead_15 : decode cX7_isDead 15 = .ok (.if_icmp .eq 21, 3) := by decide +kernel
theorem dX7_isDead_18 : decode cX7_isDead 18 = .ok (.aload_n 0, 1) := by decide +kernel
theorem dX7_isDead_19 : decode cX7_isDead 19 = .ok (.getfield 22, 3) := by decide +kernel
theorem dX7_isDead_22 : decode cX7_isDead 22 = .ok (.aload_n 0, 1) := by decide +kernel
theorem dX7_isDead_23 : decode cX7_isDead 23 = .ok (.getfield 31, 3) := by decide +kernel
theorem dX7_isDead_26 : decode cX7_isDead 26 = .ok (.getfield 89, 3) := by decide +kernel
theorem dX7_isDead_29 : decode cX7_isDead 29 = .ok (.iload_n 1, 1) := by decide +kernel
theorem dX7_isDead_30 : decode cX7_isDead 30 = .ok (.iaload, 1) := by decide +kernel
theorem dX7_isDead_31 : decode cX7_isDead 31 = .ok (.iaload, 1) := by decide +kernel
theorem dX7_isDead_32 : decode cX7_isDead 32 = .ok (.iconst (-1), 1) := by decide +kernel
theorem dX7_isDead_33 : decode cX7_isDead 33 = .ok (.if_icmp .ne 7, 3) := by decide +kernel
theorem dX7_isDead_36 : decode cX7_isDead 36 = .ok (.iconst 1, 1) := by decide +kernel
theorem dX7_isDead_37 : decode cX7_isDead 37 = .ok (.goto 4, 3) := by decide +kernel
theorem dX7_isDead_40 : decode cX7_isDead 40 = .ok (.iconst 0, 1) := by decide +kernel
theorem dX7_isDead_41 : decode cX7_isDead 41 = .ok (.ireturn, 1) := by decide +kernel
theorem dX7_wordsDead_0 : decode cX7_wordsDead 0 = .ok (.iconst 0, 1) := by decide +kernel
theorem dX7_wordsDead_1 : decode cX7_wordsDead 1 = .ok (.istore_n 1, 1) := by decide +kernel
theorem dX7_wordsDead_2 : decode cX7_wordsDead 2 = .ok (.iconst 0, 1) := by decide +kernel
theorem dX7_wordsDead_3 : decode cX7_wordsDead 3 = .ok (.istore_n 2, 1) := by decide +kernel
theorem dX7_wordsDead_4 : decode cX7_wordsDead 4 = .ok (.iload_n 2, 1) := by decide +kernel
theorem dX7_wordsDead_5 : decode cX7_wordsDead 5 = .ok (.aload_n 0, 1) := by decide +kernel
theorem dX7_wordsDead_6 : decode cX7_wordsDead 6 = .ok (.getfield 31, 3) := by decide +kernel
theorem dX7_wordsDead_9 : decode cX7_wordsDead 9 = .ok (.getfield 83, 3) := by decide +kernel
theorem dX7_wordsDead_12 : decode cX7_wordsDead 12 = .ok (.if_icmp .ge 23, 3) := by decide +kernel
theorem dX7_wordsDead_15 : decode cX7_wordsDead 15 = .ok (.aload_n 0, 1) := by decide +kernel
theorem dX7_wordsDead_16 : decode cX7_wordsDead 16 = .ok (.iload_n 2, 1) := by decide +kernel
theorem dX7_wordsDead_17 : decode cX7_wordsDead 17 = .ok (.invokevirtual 95, 3) := by decide +kernel
theorem dX7_wordsDead_20 : decode cX7_wordsDead 20 = .ok (.ifCond .eq 9, 3) := by decide +kernel
theorem dX7_wordsDead_23 : decode cX7_wordsDead 23 = .ok (.iload_n 1, 1) := by decide +kernel
theorem dX7_wordsDead_24 : decode cX7_wordsDead 24 = .ok (.iconst 1, 1) := by decide +kernel
theorem dX7_wordsDead_25 : decode cX7_wordsDead 25 = .ok (.iload_n 2, 1) := by decide +kernel
theorem dX7_wordsDead_26 : decode cX7_wordsDead 26 = .ok (.ishl, 1) := by decide +kernel
theorem dX7_wordsDead_27 : decode cX7_wordsDead 27 = .ok (.ior, 1) := by decide +kernel
theorem dX7_wordsDead_28 : decode cX7_wordsDead 28 = .ok (.istore_n 1, 1) := by decide +kernel
theorem dX7_wordsDead_29 : decode cX7_wordsDead 29 = .ok (.iinc 2 1, 3) := by decide +kernel
theorem dX7_wordsDead_32 : decode cX7_wordsDead 32 = .ok (.goto (-28), 3) := by decide +kernel
theorem dX7_wordsDead_35 : decode cX7_wordsDead 35 = .ok (.iload_n 1, 1) := by decide +kernel
theorem dX7_wordsDead_36 : decode cX7_wordsDead 36 = .ok (.ireturn, 1) := by decide +kernel
theorem dX7_wordsBlank_0 : decode cX7_wordsBlank 0 = .ok (.iconst 0, 1) := by decide +kernel
theorem dX7_wordsBlank_1 : decode cX7_wordsBlank 1 = .ok (.istore_n 1, 1) := by decide +kernel
theorem dX7_wordsBlank_2 : decode cX7_wordsBlank 2 = .ok (.iconst 0, 1) := by decide +kernel
theorem dX7_wordsBlank_3 : decode cX7_wordsBlank 3 = .ok (.istore_n 2, 1) := by decide +kernel
theorem dX7_wordsBlank_4 : decode cX7_wordsBlank 4 = .ok (.iload_n 2, 1) := by decide +kernel
theorem dX7_wordsBlank_5 : decode cX7_wordsBlank 5 = .ok (.aload_n 0, 1) := by decide +kernel
theorem dX7_wordsBlank_6 : decode cX7_wordsBlank 6 = .ok (.getfield 31, 3) := by decide +kernel
theorem dX7_wordsBlank_9 : decode cX7_wordsBlank 9 = .ok (.getfield 83, 3) := by decide +kernel
theorem dX7_wordsBlank_12 : decode cX7_wordsBlank 12 = .ok (.if_icmp .ge 48, 3) := by decide +kernel
theorem dX7_wordsBlank_15 : decode cX7_wordsBlank 15 = .ok (.aload_n 0, 1) := by decide +kernel
theorem dX7_wordsBlank_16 : decode cX7_wordsBlank 16 = .ok (.iload_n 2, 1) := by decide +kernel
theorem dX7_wordsBlank_17 : decode cX7_wordsBlank 17 = .ok (.invokevirtual 95, 3) := by decide +kernel
theorem dX7_wordsBlank_20 : decode cX7_wordsBlank 20 = .ok (.ifCond .ne 34, 3) := by decide +kernel
theorem dX7_wordsBlank_23 : decode cX7_wordsBlank 23 = .ok (.aload_n 0, 1) := by decide +kernel
theorem dX7_wordsBlank_24 : decode cX7_wordsBlank 24 = .ok (.aload_n 0, 1) := by decide +kernel
theorem dX7_wordsBlank_25 : decode cX7_wordsBlank 25 = .ok (.getfield 31, 3) := by decide +kernel
theorem dX7_wordsBlank_28 : decode cX7_wordsBlank 28 = .ok (.getfield 86, 3) := by decide +kernel
theorem dX7_wordsBlank_31 : decode cX7_wordsBlank 31 = .ok (.iload_n 2, 1) := by decide +kernel
theorem dX7_wordsBlank_32 : decode cX7_wordsBlank 32 = .ok (.iaload, 1) := by decide +kernel
theorem dX7_wordsBlank_33 : decode cX7_wordsBlank 33 = .ok (.aload_n 0, 1) := by decide +kernel
theorem dX7_wordsBlank_34 : decode cX7_wordsBlank 34 = .ok (.getfield 31, 3) := by decide +kernel
theorem dX7_wordsBlank_37 : decode cX7_wordsBlank 37 = .ok (.getfield 89, 3) := by decide +kernel
theorem dX7_wordsBlank_40 : decode cX7_wordsBlank 40 = .ok (.iload_n 2, 1) := by decide +kernel
theorem dX7_wordsBlank_41 : decode cX7_wordsBlank 41 = .ok (.iaload, 1) := by decide +kernel
theorem dX7_wordsBlank_42 : decode cX7_wordsBlank 42 = .ok (.invokevirtual 79, 3) := by decide +kernel
theorem dX7_wordsBlank_45 : decode cX7_wordsBlank 45 = .ok (.ifCond .ne 9, 3) := by decide +kernel
theorem dX7_wordsBlank_48 : decode cX7_wordsBlank 48 = .ok (.iload_n 1, 1) := by decide +kernel
theorem dX7_wordsBlank_49 : decode cX7_wordsBlank 49 = .ok (.iconst 1, 1) := by decide +kernel
theorem dX7_wordsBlank_50 : decode cX7_wordsBlank 50 = .ok (.iload_n 2, 1) := by decide +kernel
theorem dX7_wordsBlank_51 : decode cX7_wordsBlank 51 = .ok (.ishl, 1) := by decide +kernel
theorem dX7_wordsBlank_52 : decode cX7_wordsBlank 52 = .ok (.ior, 1) := by decide +kernel
theorem dX7_wordsBlank_53 : decode cX7_wordsBlank 53 = .ok (.istore_n 1, 1) := by decide +kernel
theorem dX7_wordsBlank_54 : decode cX7_wordsBlank 54 = .ok (.iinc 2 1, 3) := by decide +kernel
theorem dX7_wordsBlank_57 : decode cX7_wordsBlank 57 = .ok (.goto (-53), 3) := by decide +kernel
theorem dX7_wordsBlank_60 : decode cX7_wordsBlank 60 = .ok (.iload_n 1, 1) := by decide +kernel
theorem dX7_wordsBlank_61 : decode cX7_wordsBlank 61 = .ok (.ireturn, 1) := by decide +kernel
theorem dX7_knowers_0 : decode cX7_knowers 0 = .ok (.iconst 0, 1) := by decide +kernel
theorem dX7_knowers_1 : decode cX7_knowers 1 = .ok (.istore_n 2, 1) := by decide +kernel
theorem dX7_knowers_2 : decode cX7_knowers 2 = .ok (.iconst 0, 1) := by decide +kernel
theorem dX7_knowers_3 : decode cX7_knowers 3 = .ok (.istore_n 3, 1) := by decide +kernel
theorem dX7_knowers_4 : decode cX7_knowers 4 = .ok (.iload_n 3, 1) := by decide +kernel
theorem dX7_knowers_5 : decode cX7_knowers 5 = .ok (.aload_n 0, 1) := by decide +kernel
theorem dX7_knowers_6 : decode cX7_knowers 6 = .ok (.getfield 31, 3) := by decide +kernel
theorem dX7_knowers_9 : decode cX7_knowers 9 = .ok (.getfield 64, 3) := by decide +kernel
theorem dX7_knowers_12 : decode cX7_knowers 12 = .ok (.if_icmp .ge 28, 3) := by decide +kernel
theorem dX7_knowers_15 : decode cX7_knowers 15 = .ok (.aload_n 0, 1) := by decide +kernel
theorem dX7_knowers_16 : decode cX7_knowers 16 = .ok (.getfield 25, 3) := by decide +kernel
theorem dX7_knowers_19 : decode cX7_knowers 19 = .ok (.iload_n 3, 1) := by decide +kernel
theorem dX7_knowers_20 : decode cX7_knowers 20 = .ok (.iaload, 1) := by decide +kernel
theorem dX7_knowers_21 : decode cX7_knowers 21 = .ok (.iload_n 1, 1) := by decide +kernel
theorem dX7_knowers_22 : decode cX7_knowers 22 = .ok (.invokestatic 92, 3) := by decide +kernel
theorem dX7_knowers_25 : decode cX7_knowers 25 = .ok (.ifCond .eq 9, 3) := by decide +kernel
theorem dX7_knowers_28 : decode cX7_knowers 28 = .ok (.iload_n 2, 1) := by decide +kernel
theorem dX7_knowers_29 : decode cX7_knowers 29 = .ok (.iconst 1, 1) := by decide +kernel
theorem dX7_knowers_30 : decode cX7_knowers 30 = .ok (.iload_n 3, 1) := by decide +kernel
theorem dX7_knowers_31 : decode cX7_knowers 31 = .ok (.ishl, 1) := by decide +kernel
theorem dX7_knowers_32 : decode cX7_knowers 32 = .ok (.ior, 1) := by decide +kernel
theorem dX7_knowers_33 : decode cX7_knowers 33 = .ok (.istore_n 2, 1) := by decide +kernel
theorem dX7_knowers_34 : decode cX7_knowers 34 = .ok (.iinc 3 1, 3) := by decide +kernel
theorem dX7_knowers_37 : decode cX7_knowers 37 = .ok (.goto (-33), 3) := by decide +kernel
theorem dX7_knowers_40 : decode cX7_knowers 40 = .ok (.iload_n 2, 1) := by decide +kernel
theorem dX7_knowers_41 : decode cX7_knowers 41 = .ok (.ireturn, 1) := by decide +kernel
theorem dX7_wordsKnown_0 : decode cX7_wordsKnown 0 = .ok (.aload_n 0, 1) := by decide +kernel
theorem dX7_wordsKnown_1 : decode cX7_wordsKnown 1 = .ok (.iconst 1, 1) := by decide +kernel
theorem dX7_wordsKnown_2 : decode cX7_wordsKnown 2 = .ok (.aload_n 0, 1) := by decide +kernel
theorem dX7_wordsKnown_3 : decode cX7_wordsKnown 3 = .ok (.getfield 31, 3) := by decide +kernel
theorem dX7_wordsKnown_6 : decode cX7_wordsKnown 6 = .ok (.getfield 64, 3) := by decide +kernel
theorem dX7_wordsKnown_9 : decode cX7_wordsKnown 9 = .ok (.ishl, 1) := by decide +kernel
theorem dX7_wordsKnown_10 : decode cX7_wordsKnown 10 = .ok (.iconst 1, 1) := by decide +kernel
theorem dX7_wordsKnown_11 : decode cX7_wordsKnown 11 = .ok (.isub, 1) := by decide +kernel
theorem dX7_wordsKnown_12 : decode cX7_wordsKnown 12 = .ok (.invokevirtual 99, 3) := by decide +kernel
theorem dX7_wordsKnown_15 : decode cX7_wordsKnown 15 = .ok (.ireturn, 1) := by decide +kernel
theorem dX7_wordsKnownBy_0 : decode cX7_wordsKnownBy 0 = .ok (.iconst 0, 1) := by decide +kernel
theorem dX7_wordsKnownBy_1 : decode cX7_wordsKnownBy 1 = .ok (.istore_n 2, 1) := by decide +kernel
theorem dX7_wordsKnownBy_2 : decode cX7_wordsKnownBy 2 = .ok (.iconst 0, 1) := by decide +kernel
theorem dX7_wordsKnownBy_3 : decode cX7_wordsKnownBy 3 = .ok (.istore_n 3, 1) := by decide +kernel
theorem dX7_wordsKnownBy_4 : decode cX7_wordsKnownBy 4 = .ok (.iload_n 3, 1) := by decide +kernel
theorem dX7_wordsKnownBy_5 : decode cX7_wordsKnownBy 5 = .ok (.aload_n 0, 1) := by decide +kernel
theorem dX7_wordsKnownBy_6 : decode cX7_wordsKnownBy 6 = .ok (.getfield 31, 3) := by decide +kernel
theorem dX7_wordsKnownBy_9 : decode cX7_wordsKnownBy 9 = .ok (.getfield 64, 3) := by decide +kernel
theorem dX7_wordsKnownBy_12 : decode cX7_wordsKnownBy 12 = .ok (.if_icmp .ge 26, 3) := by decide +kernel
theorem dX7_wordsKnownBy_15 : decode cX7_wordsKnownBy 15 = .ok (.iload_n 1, 1) := by decide +kernel
theorem dX7_wordsKnownBy_16 : decode cX7_wordsKnownBy 16 = .ok (.iload_n 3, 1) := by decide +kernel
theorem dX7_wordsKnownBy_17 : decode cX7_wordsKnownBy 17 = .ok (.invokestatic 92, 3) := by decide +kernel
theorem dX7_wordsKnownBy_20 : decode cX7_wordsKnownBy 20 = .ok (.ifCond .eq 12, 3) := by decide +kernel
theorem dX7_wordsKnownBy_23 : decode cX7_wordsKnownBy 23 = .ok (.iload_n 2, 1) := by decide +kernel
theorem dX7_wordsKnownBy_24 : decode cX7_wordsKnownBy 24 = .ok (.aload_n 0, 1) := by decide +kernel
theorem dX7_wordsKnownBy_25 : decode cX7_wordsKnownBy 25 = .ok (.getfield 25, 3) := by decide +kernel
theorem dX7_wordsKnownBy_28 : decode cX7_wordsKnownBy 28 = .ok (.iload_n 3, 1) := by decide +kernel
theorem dX7_wordsKnownBy_29 : decode cX7_wordsKnownBy 29 = .ok (.iaload, 1) := by decide +kernel
theorem dX7_wordsKnownBy_30 : decode cX7_wordsKnownBy 30 = .ok (.ior, 1) := by decide +kernel
theorem dX7_wordsKnownBy_31 : decode cX7_wordsKnownBy 31 = .ok (.istore_n 2, 1) := by decide +kernel
theorem dX7_wordsKnownBy_32 : decode cX7_wordsKnownBy 32 = .ok (.iinc 3 1, 3) := by decide +kernel
theorem dX7_wordsKnownBy_35 : decode cX7_wordsKnownBy 35 = .ok (.goto (-31), 3) := by decide +kernel
theorem dX7_wordsKnownBy_38 : decode cX7_wordsKnownBy 38 = .ok (.iload_n 2, 1) := by decide +kernel
theorem dX7_wordsKnownBy_39 : decode cX7_wordsKnownBy 39 = .ok (.ireturn, 1) := by decide +kernel
theorem dX7_wordsSecret_0 : decode cX7_wordsSecret 0 = .ok (.iconst 0, 1) := by decide +kernel
theorem dX7_wordsSecret_1 : decode cX7_wordsSecret 1 = .ok (.istore_n 1, 1) := by decide +kernel
theorem dX7_wordsSecret_2 : decode cX7_wordsSecret 2 = .ok (.iconst 0, 1) := by decide +kernel
theorem dX7_wordsSecret_3 : decode cX7_wordsSecret 3 = .ok (.istore_n 2, 1) := by decide +kernel
theorem dX7_wordsSecret_4 : decode cX7_wordsSecret 4 = .ok (.iconst 0, 1) := by decide +kernel
theorem dX7_wordsSecret_5 : decode cX7_wordsSecret 5 = .ok (.istore_n 3, 1) := by decide +kernel
theorem dX7_wordsSecret_6 : decode cX7_wordsSecret 6 = .ok (.iload_n 3, 1) := by decide +kernel
theorem dX7_wordsSecret_7 : decode cX7_wordsSecret 7 = .ok (.aload_n 0, 1) := by decide +kernel
theorem dX7_wordsSecret_8 : decode cX7_wordsSecret 8 = .ok (.getfield 31, 3) := by decide +kernel
theorem dX7_wordsSecret_11 : decode cX7_wordsSecret 11 = .ok (.getfield 64, 3) := by decide +kernel
theorem dX7_wordsSecret_14 : decode cX7_wordsSecret 14 = .ok (.if_icmp .ge 29, 3) := by decide +kernel
theorem dX7_wordsSecret_17 : decode cX7_wordsSecret 17 = .ok (.iload_n 2, 1) := by decide +kernel
theorem dX7_wordsSecret_18 : decode cX7_wordsSecret 18 = .ok (.iload_n 1, 1) := by decide +kernel
theorem dX7_wordsSecret_19 : decode cX7_wordsSecret 19 = .ok (.aload_n 0, 1) := by decide +kernel
theorem dX7_wordsSecret_20 : decode cX7_wordsSecret 20 = .ok (.getfield 25, 3) := by decide +kernel
theorem dX7_wordsSecret_23 : decode cX7_wordsSecret 23 = .ok (.iload_n 3, 1) := by decide +kernel
theorem dX7_wordsSecret_24 : decode cX7_wordsSecret 24 = .ok (.iaload, 1) := by decide +kernel
theorem dX7_wordsSecret_25 : decode cX7_wordsSecret 25 = .ok (.iand, 1) := by decide +kernel
theorem dX7_wordsSecret_26 : decode cX7_wordsSecret 26 = .ok (.ior, 1) := by decide +kernel
theorem dX7_wordsSecret_27 : decode cX7_wordsSecret 27 = .ok (.istore_n 2, 1) := by decide +kernel
theorem dX7_wordsSecret_28 : decode cX7_wordsSecret 28 = .ok (.iload_n 1, 1) := by decide +kernel
theorem dX7_wordsSecret_29 : decode cX7_wordsSecret 29 = .ok (.aload_n 0, 1) := by decide +kernel
theorem dX7_wordsSecret_30 : decode cX7_wordsSecret 30 = .ok (.getfield 25, 3) := by decide +kernel
theorem dX7_wordsSecret_33 : decode cX7_wordsSecret 33 = .ok (.iload_n 3, 1) := by decide +kernel
theorem dX7_wordsSecret_34 : decode cX7_wordsSecret 34 = .ok (.iaload, 1) := by decide +kernel
theorem dX7_wordsSecret_35 : decode cX7_wordsSecret 35 = .ok (.ior, 1) := by decide +kernel
theorem dX7_wordsSecret_36 : decode cX7_wordsSecret 36 = .ok (.istore_n 1, 1) := by decide +kernel
theorem dX7_wordsSecret_37 : decode cX7_wordsSecret 37 = .ok (.iinc 3 1, 3) := by decide +kernel
theorem dX7_wordsSecret_40 : decode cX7_wordsSecret 40 = .ok (.goto (-34), 3) := by decide +kernel
theorem dX7_wordsSecret_43 : decode cX7_wordsSecret 43 = .ok (.iload_n 1, 1) := by decide +kernel
theorem dX7_wordsSecret_44 : decode cX7_wordsSecret 44 = .ok (.iload_n 2, 1) := by decide +kernel
theorem dX7_wordsSecret_45 : decode cX7_wordsSecret 45 = .ok (.iconst (-1), 1) := by decide +kernel
theorem dX7_wordsSecret_46 : decode cX7_wordsSecret 46 = .ok (.ixor, 1) := by decide +kernel
theorem dX7_wordsSecret_47 : decode cX7_wordsSecret 47 = .ok (.iand, 1) := by decide +kernel
theorem dX7_wordsSecret_48 : decode cX7_wordsSecret 48 = .ok (.ireturn, 1) := by decide +kernel
theorem dX7_passDays_0 : decode cX7_passDays 0 = .ok (.iconst 0, 1) := by decide +kernel
theorem dX7_passDays_1 : decode cX7_passDays 1 = .ok (.istore_n 2, 1) := by decide +kernel
theorem dX7_passDays_2 : decode cX7_passDays 2 = .ok (.iload_n 2, 1) := by decide +kernel
theorem dX7_passDays_3 : decode cX7_passDays 3 = .ok (.iload_n 1, 1) := by decide +kernel
theorem dX7_passDays_4 : decode cX7_passDays 4 = .ok (.if_icmp .ge 14, 3) := by decide +kernel
theorem dX7_passDays_7 : decode cX7_passDays 7 = .ok (.aload_n 0, 1) := by decide +kernel
theorem dX7_passDays_8 : decode cX7_passDays 8 = .ok (.invokevirtual 102, 3) := by decide +kernel
theorem dX7_passDays_11 : decode cX7_passDays 11 = .ok (.pop, 1) := by decide +kernel
theorem dX7_passDays_12 : decode cX7_passDays 12 = .ok (.iinc 2 1, 3) := by decide +kernel
theorem dX7_passDays_15 : decode cX7_passDays 15 = .ok (.goto (-13), 3) := by decide +kernel
theorem dX7_passDays_18 : decode cX7_passDays 18 = .ok (.return_, 1) := by decide +kernel
theorem dX7_passDay_0 : decode cX7_passDay 0 = .ok (.iconst 0, 1) := by decide +kernel
theorem dX7_passDay_1 : decode cX7_passDay 1 = .ok (.istore_n 1, 1) := by decide +kernel
theorem dX7_passDay_2 : decode cX7_passDay 2 = .ok (.iconst 0, 1) := by decide +kernel
theorem dX7_passDay_3 : decode cX7_passDay 3 = .ok (.istore_n 2, 1) := by decide +kernel
theorem dX7_passDay_4 : decode cX7_passDay 4 = .ok (.iload_n 2, 1) := by decide +kernel
theorem dX7_passDay_5 : decode cX7_passDay 5 = .ok (.iconst 4, 1) := by decide +kernel
theorem dX7_passDay_6 : decode cX7_passDay 6 = .ok (.if_icmp .ge 19, 3) := by decide +kernel
theorem dX7_passDay_9 : decode cX7_passDay 9 = .ok (.aload_n 0, 1) := by decide +kernel
theorem dX7_passDay_10 : decode cX7_passDay 10 = .ok (.iload_n 2, 1) := by decide +kernel
theorem dX7_passDay_11 : decode cX7_passDay 11 = .ok (.invokevirtual 106, 3) := by decide +kernel
theorem dX7_passDay_14 : decode cX7_passDay 14 = .ok (.ifCond .eq 5, 3) := by decide +kernel
theorem dX7_passDay_17 : decode cX7_passDay 17 = .ok (.iconst 1, 1) := by decide +kernel
theorem dX7_passDay_18 : decode cX7_passDay 18 = .ok (.istore_n 1, 1) := by decide +kernel
theorem dX7_passDay_19 : decode cX7_passDay 19 = .ok (.iinc 2 1, 3) := by decide +kernel
theorem dX7_passDay_22 : decode cX7_passDay 22 = .ok (.goto (-18), 3) := by decide +kernel
theorem dX7_passDay_25 : decode cX7_passDay 25 = .ok (.aload_n 0, 1) := by decide +kernel
theorem dX7_passDay_26 : decode cX7_passDay 26 = .ok (.getfield 31, 3) := by decide +kernel
theorem dX7_passDay_29 : decode cX7_passDay 29 = .ok (.getfield 109, 3) := by decide +kernel
theorem dX7_passDay_32 : decode cX7_passDay 32 = .ok (.getfield 113, 3) := by decide +kernel
theorem dX7_passDay_35 : decode cX7_passDay 35 = .ok (.ifCond .eq 27, 3) := by decide +kernel
theorem dX7_passDay_38 : decode cX7_passDay 38 = .ok (.iconst 0, 1) := by decide +kernel
theorem dX7_passDay_39 : decode cX7_passDay 39 = .ok (.istore_n 2, 1) := by decide +kernel
theorem dX7_passDay_40 : decode cX7_passDay 40 = .ok (.iload_n 2, 1) := by decide +kernel
theorem dX7_passDay_41 : decode cX7_passDay 41 = .ok (.aload_n 0, 1) := by decide +kernel
theorem dX7_passDay_42 : decode cX7_passDay 42 = .ok (.getfield 31, 3) := by decide +kernel
theorem dX7_passDay_45 : decode cX7_passDay 45 = .ok (.getfield 58, 3) := by decide +kernel
theorem dX7_passDay_48 : decode cX7_passDay 48 = .ok (.if_icmp .ge 14, 3) := by decide +kernel
theorem dX7_passDay_51 : decode cX7_passDay 51 = .ok (.aload_n 0, 1) := by decide +kernel
theorem dX7_passDay_52 : decode cX7_passDay 52 = .ok (.iload_n 2, 1) := by decide +kernel
theorem dX7_passDay_53 : decode cX7_passDay 53 = .ok (.invokevirtual 119, 3) := by decide +kernel
theorem dX7_passDay_56 : decode cX7_passDay 56 = .ok (.iinc 2 1, 3) := by decide +kernel
theorem dX7_passDay_59 : decode cX7_passDay 59 = .ok (.goto (-19), 3) := by decide +kernel
theorem dX7_passDay_62 : decode cX7_passDay 62 = .ok (.aload_n 0, 1) := by decide +kernel
theorem dX7_passDay_63 : decode cX7_passDay 63 = .ok (.dup, 1) := by decide +kernel
theorem dX7_passDay_64 : decode cX7_passDay 64 = .ok (.getfield 9, 3) := by decide +kernel
theorem dX7_passDay_67 : decode cX7_passDay 67 = .ok (.iconst 1, 1) := by decide +kernel
theorem dX7_passDay_68 : decode cX7_passDay 68 = .ok (.iadd, 1) := by decide +kernel
theorem dX7_passDay_69 : decode cX7_passDay 69 = .ok (.putfield 9, 3) := by decide +kernel
theorem dX7_passDay_72 : decode cX7_passDay 72 = .ok (.iload_n 1, 1) := by decide +kernel
theorem dX7_passDay_73 : decode cX7_passDay 73 = .ok (.ireturn, 1) := by decide +kernel
theorem dX7_layIn_0 : decode cX7_layIn 0 = .ok (.aload_n 0, 1) := by decide +kernel
theorem dX7_layIn_1 : decode cX7_layIn 1 = .ok (.iload_n 1, 1) := by decide +kernel
theorem dX7_layIn_2 : decode cX7_layIn 2 = .ok (.invokevirtual 123, 3) := by decide +kernel
theorem dX7_layIn_5 : decode cX7_layIn 5 = .ok (.istore_n 2, 1) := by decide +kernel
theorem dX7_layIn_6 : decode cX7_layIn 6 = .ok (.iload_n 2, 1) := by decide +kernel
theorem dX7_layIn_7 : decode cX7_layIn 7 = .ok (.ifCond .ne 5, 3) := by decide +kernel
theorem dX7_layIn_10 : decode cX7_layIn 10 = .ok (.iconst 0, 1) := by decide +kernel
theorem dX7_layIn_11 : decode cX7_layIn 11 = .ok (.ireturn, 1) := by decide +kernel
theorem dX7_layIn_12 : decode cX7_layIn 12 = .ok (.aload_n 0, 1) := by decide +kernel
theorem dX7_layIn_13 : decode cX7_layIn 13 = .ok (.iload_n 1, 1) := by decide +kernel
theorem dX7_layIn_14 : decode cX7_layIn 14 = .ok (.iconst 0, 1) := by decide +kernel
theorem dX7_layIn_15 : decode cX7_layIn 15 = .ok (.invokevirtual 126, 3) := by decide +kernel
theorem dX7_layIn_18 : decode cX7_layIn 18 = .ok (.istore_n 3, 1) := by decide +kernel
theorem dX7_layIn_19 : decode cX7_layIn 19 = .ok (.aload_n 0, 1) := by decide +kernel
theorem dX7_layIn_20 : decode cX7_layIn 20 = .ok (.iload_n 3, 1) := by decide +kernel
theorem dX7_layIn_21 : decode cX7_layIn 21 = .ok (.invokevirtual 129, 3) := by decide +kernel
theorem dX7_layIn_24 : decode cX7_layIn 24 = .ok (.istore 4, 2) := by decide +kernel
theorem dX7_layIn_26 : decode cX7_layIn 26 = .ok (.iload 4, 2) := by decide +kernel
theorem dX7_layIn_28 : decode cX7_layIn 28 = .ok (.ifCond .ne 5, 3) := by decide +kernel
theorem dX7_layIn_31 : decode cX7_layIn 31 = .ok (.iconst 0, 1) := by decide +kernel
theorem dX7_layIn_32 : decode cX7_layIn 32 = .ok (.ireturn, 1) := by decide +kernel
theorem dX7_layIn_33 : decode cX7_layIn 33 = .ok (.aload_n 0, 1) := by decide +kernel
theorem dX7_layIn_34 : decode cX7_layIn 34 = .ok (.getfield 31, 3) := by decide +kernel
theorem dX7_layIn_37 : decode cX7_layIn 37 = .ok (.getfield 132, 3) := by decide +kernel
theorem dX7_layIn_40 : decode cX7_layIn 40 = .ok (.getfield 113, 3) := by decide +kernel
theorem dX7_layIn_43 : decode cX7_layIn 43 = .ok (.ifCond .eq 73, 3) := by decide +kernel
theorem dX7_layIn_46 : decode cX7_layIn 46 = .ok (.aload_n 0, 1) := by decide +kernel
theorem dX7_layIn_47 : decode cX7_layIn 47 = .ok (.getfield 28, 3) := by decide +kernel
theorem dX7_layIn_50 : decode cX7_layIn 50 = .ok (.iconst 0, 1) := by decide +kernel
theorem dX7_layIn_51 : decode cX7_layIn 51 = .ok (.iload_n 1, 1) := by decide +kernel
theorem dX7_layIn_52 : decode cX7_layIn 52 = .ok (.iastore, 1) := by decide +kernel
theorem dX7_layIn_53 : decode cX7_layIn 53 = .ok (.aload_n 0, 1) := by decide +kernel
theorem dX7_layIn_54 : decode cX7_layIn 54 = .ok (.getfield 28, 3) := by decide +kernel
theorem dX7_layIn_57 : decode cX7_layIn 57 = .ok (.iconst 1, 1) := by decide +kernel
theorem dX7_layIn_58 : decode cX7_layIn 58 = .ok (.aload_n 0, 1) := by decide +kernel
theorem dX7_layIn_59 : decode cX7_layIn 59 = .ok (.getfield 9, 3) := by decide +kernel
theorem dX7_layIn_62 : decode cX7_layIn 62 = .ok (.iastore, 1) := by decide +kernel
theorem dX7_layIn_63 : decode cX7_layIn 63 = .ok (.aload_n 0, 1) := by decide +kernel
theorem dX7_layIn_64 : decode cX7_layIn 64 = .ok (.getfield 28, 3) := by decide +kernel
theorem dX7_layIn_67 : decode cX7_layIn 67 = .ok (.iconst 2, 1) := by decide +kernel
theorem dX7_layIn_68 : decode cX7_layIn 68 = .ok (.iload_n 3, 1) := by decide +kernel
theorem dX7_layIn_69 : decode cX7_layIn 69 = .ok (.invokestatic 71, 3) := by decide +kernel
theorem dX7_layIn_72 : decode cX7_layIn 72 = .ok (.iastore, 1) := by decide +kernel
theorem dX7_layIn_73 : decode cX7_layIn 73 = .ok (.aload_n 0, 1) := by decide +kernel
theorem dX7_layIn_74 : decode cX7_layIn 74 = .ok (.getfield 28, 3) := by decide +kernel
theorem dX7_layIn_77 : decode cX7_layIn 77 = .ok (.iconst 3, 1) := by decide +kernel
theorem dX7_layIn_78 : decode cX7_layIn 78 = .ok (.iload_n 2, 1) := by decide +kernel
theorem dX7_layIn_79 : decode cX7_layIn 79 = .ok (.invokestatic 71, 3) := by decide +kernel
theorem dX7_layIn_82 : decode cX7_layIn 82 = .ok (.iastore, 1) := by decide +kernel
theorem dX7_layIn_83 : decode cX7_layIn 83 = .ok (.aload_n 0, 1) := by decide +kernel
theorem dX7_layIn_84 : decode cX7_layIn 84 = .ok (.getfield 28, 3) := by decide +kernel
theorem dX7_layIn_87 : decode cX7_layIn 87 = .ok (.iconst 4, 1) := by decide +kernel
theorem dX7_layIn_88 : decode cX7_layIn 88 = .ok (.aload_n 0, 1) := by decide +kernel
theorem dX7_layIn_89 : decode cX7_layIn 89 = .ok (.iload_n 2, 1) := by decide +kernel
theorem dX7_layIn_90 : decode cX7_layIn 90 = .ok (.invokevirtual 99, 3) := by decide +kernel
theorem dX7_layIn_93 : decode cX7_layIn 93 = .ok (.invokestatic 71, 3) := by decide +kernel
theorem dX7_layIn_96 : decode cX7_layIn 96 = .ok (.iastore, 1) := by decide +kernel
theorem dX7_layIn_97 : decode cX7_layIn 97 = .ok (.aload_n 0, 1) := by decide +kernel
theorem dX7_layIn_98 : decode cX7_layIn 98 = .ok (.getfield 31, 3) := by decide +kernel
theorem dX7_layIn_101 : decode cX7_layIn 101 = .ok (.getfield 132, 3) := by decide +kernel
theorem dX7_layIn_104 : decode cX7_layIn 104 = .ok (.aload_n 0, 1) := by decide +kernel
theorem dX7_layIn_105 : decode cX7_layIn 105 = .ok (.getfield 28, 3) := by decide +kernel
theorem dX7_layIn_108 : decode cX7_layIn 108 = .ok (.invokevirtual 135, 3) := by decide +kernel
theorem dX7_layIn_111 : decode cX7_layIn 111 = .ok (.ifCond .gt 5, 3) := by decide +kernel
theorem dX7_layIn_114 : decode cX7_layIn 114 = .ok (.iconst 0, 1) := by decide +kernel
theorem dX7_layIn_115 : decode cX7_layIn 115 = .ok (.ireturn, 1) := by decide +kernel
theorem dX7_layIn_116 : decode cX7_layIn 116 = .ok (.aload_n 0, 1) := by decide +kernel
theorem dX7_layIn_117 : decode cX7_layIn 117 = .ok (.iload_n 2, 1) := by decide +kernel
theorem dX7_layIn_118 : decode cX7_layIn 118 = .ok (.iload 4, 2) := by decide +kernel
theorem dX7_layIn_120 : decode cX7_layIn 120 = .ok (.invokevirtual 139, 3) := by decide +kernel
theorem dX7_layIn_123 : decode cX7_layIn 123 = .ok (.ireturn, 1) := by decide +kernel
theorem dX7_teach_0 : decode cX7_teach 0 = .ok (.iconst 0, 1) := by decide +kernel
theorem dX7_teach_1 : decode cX7_teach 1 = .ok (.istore_n 3, 1) := by decide +kernel
theorem dX7_teach_2 : decode cX7_teach 2 = .ok (.iconst 0, 1) := by decide +kernel
theorem dX7_teach_3 : decode cX7_teach 3 = .ok (.istore 4, 2) := by decide +kernel
theorem dX7_teach_5 : decode cX7_teach 5 = .ok (.iload 4, 2) := by decide +kernel
theorem dX7_teach_7 : decode cX7_teach 7 = .ok (.aload_n 0, 1) := by decide +kernel
theorem dX7_teach_8 : decode cX7_teach 8 = .ok (.getfield 31, 3) := by decide +kernel
theorem dX7_teach_11 : decode cX7_teach 11 = .ok (.getfield 64, 3) := by decide +kernel
theorem dX7_teach_14 : decode cX7_teach 14 = .ok (.if_icmp .ge 45, 3) := by decide +kernel
theorem dX7_teach_17 : decode cX7_teach 17 = .ok (.iload_n 1, 1) := by decide +kernel
theorem dX7_teach_18 : decode cX7_teach 18 = .ok (.iload 4, 2) := by decide +kernel
theorem dX7_teach_20 : decode cX7_teach 20 = .ok (.invokestatic 92, 3) := by decide +kernel
theorem dX7_teach_23 : decode cX7_teach 23 = .ok (.ifCond .eq 30, 3) := by decide +kernel
theorem dX7_teach_26 : decode cX7_teach 26 = .ok (.iload_n 2, 1) := by decide +kernel
theorem dX7_teach_27 : decode cX7_teach 27 = .ok (.aload_n 0, 1) := by decide +kernel
theorem dX7_teach_28 : decode cX7_teach 28 = .ok (.getfield 25, 3) := by decide +kernel
theorem dX7_teach_31 : decode cX7_teach 31 = .ok (.iload 4, 2) := by decide +kernel
theorem dX7_teach_33 : decode cX7_teach 33 = .ok (.iaload, 1) := by decide +kernel
theorem dX7_teach_34 : decode cX7_teach 34 = .ok (.iconst (-1), 1) := by decide +kernel
theorem dX7_teach_35 : decode cX7_teach 35 = .ok (.ixor, 1) := by decide +kernel
theorem dX7_teach_36 : decode cX7_teach 36 = .ok (.iand, 1) := by decide +kernel
theorem dX7_teach_37 : decode cX7_teach 37 = .ok (.ifCond .eq 16, 3) := by decide +kernel
theorem dX7_teach_40 : decode cX7_teach 40 = .ok (.aload_n 0, 1) := by decide +kernel
theorem dX7_teach_41 : decode cX7_teach 41 = .ok (.getfield 25, 3) := by decide +kernel
theorem dX7_teach_44 : decode cX7_teach 44 = .ok (.iload 4, 2) := by decide +kernel
theorem dX7_teach_46 : decode cX7_teach 46 = .ok (.dup2, 1) := by decide +kernel
theorem dX7_teach_47 : decode cX7_teach 47 = .ok (.iaload, 1) := by decide +kernel
theorem dX7_teach_48 : decode cX7_teach 48 = .ok (.iload_n 2, 1) := by decide +kernel
theorem dX7_teach_49 : decode cX7_teach 49 = .ok (.ior, 1) := by decide +kernel
theorem dX7_teach_50 : decode cX7_teach 50 = .ok (.iastore, 1) := by decide +kernel
theorem dX7_teach_51 : decode cX7_teach 51 = .ok (.iconst 1, 1) := by decide +kernel
theorem dX7_teach_52 : decode cX7_teach 52 = .ok (.istore_n 3, 1) := by decide +kernel
theorem dX7_teach_53 : decode cX7_teach 53 = .ok (.iinc 4 1, 3) := by decide +kernel
theorem dX7_teach_56 : decode cX7_teach 56 = .ok (.goto (-51), 3) := by decide +kernel
theorem dX7_teach_59 : decode cX7_teach 59 = .ok (.iload_n 3, 1) := by decide +kernel
theorem dX7_teach_60 : decode cX7_teach 60 = .ok (.ireturn, 1) := by decide +kernel
theorem dX7_mouldOn_0 : decode cX7_mouldOn 0 = .ok (.aload_n 0, 1) := by decide +kernel
theorem dX7_mouldOn_1 : decode cX7_mouldOn 1 = .ok (.getfield 22, 3) := by decide +kernel
theorem dX7_mouldOn_4 : decode cX7_mouldOn 4 = .ok (.iload_n 1, 1) := by decide +kernel
theorem dX7_mouldOn_5 : decode cX7_mouldOn 5 = .ok (.iaload, 1) := by decide +kernel
theorem dX7_mouldOn_6 : decode cX7_mouldOn 6 = .ok (.iconst (-1), 1) := by decide +kernel
theorem dX7_mouldOn_7 : decode cX7_mouldOn 7 = .ok (.if_icmp .ne 4, 3) := by decide +kernel
theorem dX7_mouldOn_10 : decode cX7_mouldOn 10 = .ok (.return_, 1) := by decide +kernel
theorem dX7_mouldOn_11 : decode cX7_mouldOn 11 = .ok (.aload_n 0, 1) := by decide +kernel
theorem dX7_mouldOn_12 : decode cX7_mouldOn 12 = .ok (.getfield 28, 3) := by decide +kernel
theorem dX7_mouldOn_15 : decode cX7_mouldOn 15 = .ok (.iconst 0, 1) := by decide +kernel
theorem dX7_mouldOn_16 : decode cX7_mouldOn 16 = .ok (.aload_n 0, 1) := by decide +kernel
theorem dX7_mouldOn_17 : decode cX7_mouldOn 17 = .ok (.iload_n 1, 1) := by decide +kernel
theorem dX7_mouldOn_18 : decode cX7_mouldOn 18 = .ok (.iconst 0, 1) := by decide +kernel
theorem dX7_mouldOn_19 : decode cX7_mouldOn 19 = .ok (.invokevirtual 61, 3) := by decide +kernel
theorem dX7_mouldOn_22 : decode cX7_mouldOn 22 = .ok (.iastore, 1) := by decide +kernel
theorem dX7_mouldOn_23 : decode cX7_mouldOn 23 = .ok (.aload_n 0, 1) := by decide +kernel
theorem dX7_mouldOn_24 : decode cX7_mouldOn 24 = .ok (.getfield 28, 3) := by decide +kernel
theorem dX7_mouldOn_27 : decode cX7_mouldOn 27 = .ok (.iconst 1, 1) := by decide +kernel
theorem dX7_mouldOn_28 : decode cX7_mouldOn 28 = .ok (.aload_n 0, 1) := by decide +kernel
theorem dX7_mouldOn_29 : decode cX7_mouldOn 29 = .ok (.getfield 9, 3) := by decide +kernel
theorem dX7_mouldOn_32 : decode cX7_mouldOn 32 = .ok (.iastore, 1) := by decide +kernel
theorem dX7_mouldOn_33 : decode cX7_mouldOn 33 = .ok (.aload_n 0, 1) := by decide +kernel
theorem dX7_mouldOn_34 : decode cX7_mouldOn 34 = .ok (.getfield 28, 3) := by decide +kernel
theorem dX7_mouldOn_37 : decode cX7_mouldOn 37 = .ok (.iconst 2, 1) := by decide +kernel
theorem dX7_mouldOn_38 : decode cX7_mouldOn 38 = .ok (.aload_n 0, 1) := by decide +kernel
theorem dX7_mouldOn_39 : decode cX7_mouldOn 39 = .ok (.getfield 15, 3) := by decide +kernel
theorem dX7_mouldOn_42 : decode cX7_mouldOn 42 = .ok (.iload_n 1, 1) := by decide +kernel
theorem dX7_mouldOn_43 : decode cX7_mouldOn 43 = .ok (.iaload, 1) := by decide +kernel
theorem dX7_mouldOn_44 : decode cX7_mouldOn 44 = .ok (.iastore, 1) := by decide +kernel
theorem dX7_mouldOn_45 : decode cX7_mouldOn 45 = .ok (.aload_n 0, 1) := by decide +kernel
theorem dX7_mouldOn_46 : decode cX7_mouldOn 46 = .ok (.getfield 28, 3) := by decide +kernel
theorem dX7_mouldOn_49 : decode cX7_mouldOn 49 = .ok (.iconst 3, 1) := by decide +kernel
theorem dX7_mouldOn_50 : decode cX7_mouldOn 50 = .ok (.aload_n 0, 1) := by decide +kernel
theorem dX7_mouldOn_51 : decode cX7_mouldOn 51 = .ok (.getfield 19, 3) := by decide +kernel
theorem dX7_mouldOn_54 : decode cX7_mouldOn 54 = .ok (.iload_n 1, 1) := by decide +kernel
theorem dX7_mouldOn_55 : decode cX7_mouldOn 55 = .ok (.iaload, 1) := by decide +kernel
theorem dX7_mouldOn_56 : decode cX7_mouldOn 56 = .ok (.iastore, 1) := by decide +kernel
theorem dX7_mouldOn_57 : decode cX7_mouldOn 57 = .ok (.aload_n 0, 1) := by decide +kernel
theorem dX7_mouldOn_58 : decode cX7_mouldOn 58 = .ok (.getfield 28, 3) := by decide +kernel
theorem dX7_mouldOn_61 : decode cX7_mouldOn 61 = .ok (.iconst 4, 1) := by decide +kernel
theorem dX7_mouldOn_62 : decode cX7_mouldOn 62 = .ok (.iload_n 1, 1) := by decide +kernel
theorem dX7_mouldOn_63 : decode cX7_mouldOn 63 = .ok (.iastore, 1) := by decide +kernel
theorem dX7_mouldOn_64 : decode cX7_mouldOn 64 = .ok (.aload_n 0, 1) := by decide +kernel
theorem dX7_mouldOn_65 : decode cX7_mouldOn 65 = .ok (.getfield 28, 3) := by decide +kernel
theorem dX7_mouldOn_68 : decode cX7_mouldOn 68 = .ok (.iconst 5, 1) := by decide +kernel
theorem dX7_mouldOn_69 : decode cX7_mouldOn 69 = .ok (.aload_n 0, 1) := by decide +kernel
theorem dX7_mouldOn_70 : decode cX7_mouldOn 70 = .ok (.getfield 22, 3) := by decide +kernel
theorem dX7_mouldOn_73 : decode cX7_mouldOn 73 = .ok (.iload_n 1, 1) := by decide +kernel
theorem dX7_mouldOn_74 : decode cX7_mouldOn 74 = .ok (.iaload, 1) := by decide +kernel
theorem dX7_mouldOn_75 : decode cX7_mouldOn 75 = .ok (.iconst 4, 1) := by decide +kernel
theorem dX7_mouldOn_76 : decode cX7_mouldOn 76 = .ok (.if_icmp .lt 7, 3) := by decide +kernel
theorem dX7_mouldOn_79 : decode cX7_mouldOn 79 = .ok (.iconst 1, 1) := by decide +kernel
theorem dX7_mouldOn_80 : decode cX7_mouldOn 80 = .ok (.goto 4, 3) := by decide +kernel
theorem dX7_mouldOn_83 : decode cX7_mouldOn 83 = .ok (.iconst 0, 1) := by decide +kernel
theorem dX7_mouldOn_84 : decode cX7_mouldOn 84 = .ok (.iastore, 1) := by decide +kernel
theorem dX7_mouldOn_85 : decode cX7_mouldOn 85 = .ok (.aload_n 0, 1) := by decide +kernel
theorem dX7_mouldOn_86 : decode cX7_mouldOn 86 = .ok (.getfield 31, 3) := by decide +kernel
theorem dX7_mouldOn_89 : decode cX7_mouldOn 89 = .ok (.getfield 109, 3) := by decide +kernel
theorem dX7_mouldOn_92 : decode cX7_mouldOn 92 = .ok (.aload_n 0, 1) := by decide +kernel
theorem dX7_mouldOn_93 : decode cX7_mouldOn 93 = .ok (.getfield 28, 3) := by decide +kernel
theorem dX7_mouldOn_96 : decode cX7_mouldOn 96 = .ok (.invokevirtual 135, 3) := by decide +kernel
theorem dX7_mouldOn_99 : decode cX7_mouldOn 99 = .ok (.istore_n 2, 1) := by decide +kernel
theorem dX7_mouldOn_100 : decode cX7_mouldOn 100 = .ok (.iload_n 2, 1) := by decide +kernel
theorem dX7_mouldOn_101 : decode cX7_mouldOn 101 = .ok (.ifCond .le 20, 3) := by decide +kernel
theorem dX7_mouldOn_104 : decode cX7_mouldOn 104 = .ok (.aload_n 0, 1) := by decide +kernel
theorem dX7_mouldOn_105 : decode cX7_mouldOn 105 = .ok (.getfield 19, 3) := by decide +kernel
theorem dX7_mouldOn_108 : decode cX7_mouldOn 108 = .ok (.iload_n 1, 1) := by decide +kernel
theorem dX7_mouldOn_109 : decode cX7_mouldOn 109 = .ok (.dup2, 1) := by decide +kernel
theorem dX7_mouldOn_110 : decode cX7_mouldOn 110 = .ok (.iaload, 1) := by decide +kernel
theorem dX7_mouldOn_111 : decode cX7_mouldOn 111 = .ok (.iconst 1, 1) := by decide +kernel
theorem dX7_mouldOn_112 : decode cX7_mouldOn 112 = .ok (.iload_n 2, 1) := by decide +kernel
theorem dX7_mouldOn_113 : decode cX7_mouldOn 113 = .ok (.iconst 1, 1) := by decide +kernel
theorem dX7_mouldOn_114 : decode cX7_mouldOn 114 = .ok (.isub, 1) := by decide +kernel
theorem dX7_mouldOn_115 : decode cX7_mouldOn 115 = .ok (.bipush 8, 2) := by decide +kernel
theorem dX7_mouldOn_117 : decode cX7_mouldOn 117 = .ok (.irem, 1) := by decide +kernel
theorem dX7_mouldOn_118 : decode cX7_mouldOn 118 = .ok (.ishl, 1) := by decide +kernel
theorem dX7_mouldOn_119 : decode cX7_mouldOn 119 = .ok (.ixor, 1) := by decide +kernel
theorem dX7_mouldOn_120 : decode cX7_mouldOn 120 = .ok (.iastore, 1) := by decide +kernel
theorem dX7_mouldOn_121 : decode cX7_mouldOn 121 = .ok (.return_, 1) := by decide +kernel
theorem dX7_tellInTowns_0 : decode cX7_tellInTowns 0 = .ok (.iconst 0, 1) := by decide +kernel
theorem dX7_tellInTowns_1 : decode cX7_tellInTowns 1 = .ok (.istore_n 1, 1) := by decide +kernel
theorem dX7_tellInTowns_2 : decode cX7_tellInTowns 2 = .ok (.iload_n 1, 1) := by decide +kernel
theorem dX7_tellInTowns_3 : decode cX7_tellInTowns 3 = .ok (.iconst 4, 1) := by decide +kernel
theorem dX7_tellInTowns_4 : decode cX7_tellInTowns 4 = .ok (.if_icmp .ge 26, 3) := by decide +kernel
theorem dX7_tellInTowns_7 : decode cX7_tellInTowns 7 = .ok (.aload_n 0, 1) := by decide +kernel
theorem dX7_tellInTowns_8 : decode cX7_tellInTowns 8 = .ok (.iload_n 1, 1) := by decide +kernel
theorem dX7_tellInTowns_9 : decode cX7_tellInTowns 9 = .ok (.invokevirtual 123, 3) := by decide +kernel
theorem dX7_tellInTowns_12 : decode cX7_tellInTowns 12 = .ok (.istore_n 2, 1) := by decide +kernel
theorem dX7_tellInTowns_13 : decode cX7_tellInTowns 13 = .ok (.aload_n 0, 1) := by decide +kernel
theorem dX7_tellInTowns_14 : decode cX7_tellInTowns 14 = .ok (.iload_n 2, 1) := by decide +kernel
theorem dX7_tellInTowns_15 : decode cX7_tellInTowns 15 = .ok (.aload_n 0, 1) := by decide +kernel
theorem dX7_tellInTowns_16 : decode cX7_tellInTowns 16 = .ok (.iload_n 2, 1) := by decide +kernel
theorem dX7_tellInTowns_17 : decode cX7_tellInTowns 17 = .ok (.invokevirtual 99, 3) := by decide +kernel
theorem dX7_tellInTowns_20 : decode cX7_tellInTowns 20 = .ok (.invokevirtual 139, 3) := by decide +kernel
theorem dX7_tellInTowns_23 : decode cX7_tellInTowns 23 = .ok (.pop, 1) := by decide +kernel
theorem dX7_tellInTowns_24 : decode cX7_tellInTowns 24 = .ok (.iinc 1 1, 3) := by decide +kernel
theorem dX7_tellInTowns_27 : decode cX7_tellInTowns 27 = .ok (.goto (-25), 3) := by decide +kernel
theorem dX7_tellInTowns_30 : decode cX7_tellInTowns 30 = .ok (.return_, 1) := by decide +kernel
theorem dX7_burn_0 : decode cX7_burn 0 = .ok (.iconst 0, 1) := by decide +kernel
theorem dX7_burn_1 : decode cX7_burn 1 = .ok (.istore_n 2, 1) := by decide +kernel
theorem dX7_burn_2 : decode cX7_burn 2 = .ok (.iload_n 2, 1) := by decide +kernel
theorem dX7_burn_3 : decode cX7_burn 3 = .ok (.aload_n 0, 1) := by decide +kernel
theorem dX7_burn_4 : decode cX7_burn 4 = .ok (.getfield 31, 3) := by decide +kernel
theorem dX7_burn_7 : decode cX7_burn 7 = .ok (.getfield 58, 3) := by decide +kernel
theorem dX7_burn_10 : decode cX7_burn 10 = .ok (.if_icmp .ge 26, 3) := by decide +kernel
theorem dX7_burn_13 : decode cX7_burn 13 = .ok (.aload_n 0, 1) := by decide +kernel
theorem dX7_burn_14 : decode cX7_burn 14 = .ok (.getfield 22, 3) := by decide +kernel
theorem dX7_burn_17 : decode cX7_burn 17 = .ok (.iload_n 2, 1) := by decide +kernel
theorem dX7_burn_18 : decode cX7_burn 18 = .ok (.iaload, 1) := by decide +kernel
theorem dX7_burn_19 : decode cX7_burn 19 = .ok (.iload_n 1, 1) := by decide +kernel
theorem dX7_burn_20 : decode cX7_burn 20 = .ok (.if_icmp .ne 10, 3) := by decide +kernel
theorem dX7_burn_23 : decode cX7_burn 23 = .ok (.aload_n 0, 1) := by decide +kernel
theorem dX7_burn_24 : decode cX7_burn 24 = .ok (.getfield 22, 3) := by decide +kernel
theorem dX7_burn_27 : decode cX7_burn 27 = .ok (.iload_n 2, 1) := by decide +kernel
theorem dX7_burn_28 : decode cX7_burn 28 = .ok (.iconst (-1), 1) := by decide +kernel
theorem dX7_burn_29 : decode cX7_burn 29 = .ok (.iastore, 1) := by decide +kernel
theorem dX7_burn_30 : decode cX7_burn 30 = .ok (.iinc 2 1, 3) := by decide +kernel
theorem dX7_burn_33 : decode cX7_burn 33 = .ok (.goto (-31), 3) := by decide +kernel
theorem dX7_burn_36 : decode cX7_burn 36 = .ok (.return_, 1) := by decide +kernel
theorem dX7_takeLeast_0 : decode cX7_takeLeast 0 = .ok (.aload_n 0, 1) := by decide +kernel
theorem dX7_takeLeast_1 : decode cX7_takeLeast 1 = .ok (.aload_n 0, 1) := by decide +kernel
theorem dX7_takeLeast_2 : decode cX7_takeLeast 2 = .ok (.getfield 31, 3) := by decide +kernel
theorem dX7_takeLeast_5 : decode cX7_takeLeast 5 = .ok (.iload_n 1, 1) := by decide +kernel
theorem dX7_takeLeast_6 : decode cX7_takeLeast 6 = .ok (.aload_n 0, 1) := by decide +kernel
theorem dX7_takeLeast_7 : decode cX7_takeLeast 7 = .ok (.getfield 9, 3) := by decide +kernel
theorem dX7_takeLeast_10 : decode cX7_takeLeast 10 = .ok (.invokevirtual 54, 3) := by decide +kernel
theorem dX7_takeLeast_13 : decode cX7_takeLeast 13 = .ok (.invokevirtual 142, 3) := by decide +kernel
theorem dX7_takeLeast_16 : decode cX7_takeLeast 16 = .ok (.invokestatic 145, 3) := by decide +kernel
theorem dX7_takeLeast_19 : decode cX7_takeLeast 19 = .ok (.istore_n 2, 1) := by decide +kernel
theorem dX7_takeLeast_20 : decode cX7_takeLeast 20 = .ok (.iload_n 2, 1) := by decide +kernel
theorem dX7_takeLeast_21 : decode cX7_takeLeast 21 = .ok (.iconst (-1), 1) := by decide +kernel
theorem dX7_takeLeast_22 : decode cX7_takeLeast 22 = .ok (.if_icmp .eq 12, 3) := by decide +kernel
theorem dX7_takeLeast_25 : decode cX7_takeLeast 25 = .ok (.aload_n 0, 1) := by decide +kernel
theorem dX7_takeLeast_26 : decode cX7_takeLeast 26 = .ok (.getfield 22, 3) := by decide +kernel
theorem dX7_takeLeast_29 : decode cX7_takeLeast 29 = .ok (.iload_n 2, 1) := by decide +kernel
theorem dX7_takeLeast_30 : decode cX7_takeLeast 30 = .ok (.iconst 4, 1) := by decide +kernel
theorem dX7_takeLeast_31 : decode cX7_takeLeast 31 = .ok (.iload_n 1, 1) := by decide +kernel
theorem dX7_takeLeast_32 : decode cX7_takeLeast 32 = .ok (.iadd, 1) := by decide +kernel
theorem dX7_takeLeast_33 : decode cX7_takeLeast 33 = .ok (.iastore, 1) := by decide +kernel
theorem dX7_takeLeast_34 : decode cX7_takeLeast 34 = .ok (.return_, 1) := by decide +kernel
theorem dJ0_length_8abf5_0 : decode cJ0_length_8abf5 0 = .ok (.aload_n 0, 1) := by decide +kernel
theorem dJ0_length_8abf5_1 : decode cJ0_length_8abf5 1 = .ok (.getfield 9, 3) := by decide +kernel
theorem dJ0_length_8abf5_4 : decode cJ0_length_8abf5 4 = .ok (.arraylength, 1) := by decide +kernel
theorem dJ0_length_8abf5_5 : decode cJ0_length_8abf5 5 = .ok (.aload_n 0, 1) := by decide +kernel
theorem dJ0_length_8abf5_6 : decode cJ0_length_8abf5 6 = .ok (.invokevirtual 335, 3) := by decide +kernel
theorem dJ0_length_8abf5_9 : decode cJ0_length_8abf5 9 = .ok (.ishr, 1) := by decide +kernel
theorem dJ0_length_8abf5_10 : decode cJ0_length_8abf5 10 = .ok (.ireturn, 1) := by decide +kernel
theorem dJ0_charAt_5068e_0 : decode cJ0_charAt_5068e 0 = .ok (.aload_n 0, 1) := by decide +kernel
theorem dJ0_charAt_5068e_1 : decode cJ0_charAt_5068e 1 = .ok (.invokevirtual 492, 3) := by decide +kernel
theorem dJ0_charAt_5068e_4 : decode cJ0_charAt_5068e 4 = .ok (.ifCond .eq 12, 3) := by decide +kernel
theorem dJ0_charAt_5068e_7 : decode cJ0_charAt_5068e 7 = .ok (.aload_n 0, 1) := by decide +kernel
theorem dJ0_charAt_5068e_8 : decode cJ0_charAt_5068e 8 = .ok (.getfield 9, 3) := by decide +kernel
theorem dJ0_charAt_5068e_11 : decode cJ0_charAt_5068e 11 = .ok (.iload_n 1, 1) := by decide +kernel
theorem dJ0_charAt_5068e_12 : decode cJ0_charAt_5068e 12 = .ok (.invokestatic 495, 3) := by decide +kernel
theorem dJ0_charAt_5068e_15 : decode cJ0_charAt_5068e 15 = .ok (.ireturn, 1) := by decide +kernel
theorem dJ0_charAt_5068e_16 : decode cJ0_charAt_5068e 16 = .ok (.aload_n 0, 1) := by decide +kernel
theorem dJ0_charAt_5068e_17 : decode cJ0_charAt_5068e 17 = .ok (.getfield 9, 3) := by decide +kernel
theorem dJ0_charAt_5068e_20 : decode cJ0_charAt_5068e 20 = .ok (.iload_n 1, 1) := by decide +kernel
theorem dJ0_charAt_5068e_21 : decode cJ0_charAt_5068e 21 = .ok (.invokestatic 498, 3) := by decide +kernel
theorem dJ0_charAt_5068e_24 : decode cJ0_charAt_5068e 24 = .ok (.ireturn, 1) := by decide +kernel
theorem dJ0_coder_7d493_0 : decode cJ0_coder_7d493 0 = .ok (.getstatic 38, 3) := by decide +kernel
theorem dJ0_coder_7d493_3 : decode cJ0_coder_7d493 3 = .ok (.ifCond .eq 10, 3) := by decide +kernel
theorem dJ0_coder_7d493_6 : decode cJ0_coder_7d493 6 = .ok (.aload_n 0, 1) := by decide +kernel
theorem dJ0_coder_7d493_7 : decode cJ0_coder_7d493 7 = .ok (.getfield 15, 3) := by decide +kernel
theorem dJ0_coder_7d493_10 : decode cJ0_coder_7d493 10 = .ok (.goto 4, 3) := by decide +kernel
theorem dJ0_coder_7d493_13 : decode cJ0_coder_7d493 13 = .ok (.iconst 1, 1) := by decide +kernel
theorem dJ0_coder_7d493_14 : decode cJ0_coder_7d493 14 = .ok (.ireturn, 1) := by decide +kernel
theorem dJ0_isLatin1_aae02_0 : decode cJ0_isLatin1_aae02 0 = .ok (.getstatic 38, 3) := by decide +kernel
theorem dJ0_isLatin1_aae02_3 : decode cJ0_isLatin1_aae02 3 = .ok (.ifCond .eq 14, 3) := by decide +kernel
theorem dJ0_isLatin1_aae02_6 : decode cJ0_isLatin1_aae02 6 = .ok (.aload_n 0, 1) := by decide +kernel
theorem dJ0_isLatin1_aae02_7 : decode cJ0_isLatin1_aae02 7 = .ok (.getfield 15, 3) := by decide +kernel
theorem dJ0_isLatin1_aae02_10 : decode cJ0_isLatin1_aae02 10 = .ok (.ifCond .ne 7, 3) := by decide +kernel
theorem dJ0_isLatin1_aae02_13 : decode cJ0_isLatin1_aae02 13 = .ok (.iconst 1, 1) := by decide +kernel
theorem dJ0_isLatin1_aae02_14 : decode cJ0_isLatin1_aae02 14 = .ok (.goto 4, 3) := by decide +kernel
theorem dJ0_isLatin1_aae02_17 : decode cJ0_isLatin1_aae02 17 = .ok (.iconst 0, 1) := by decide +kernel
theorem dJ0_isLatin1_aae02_18 : decode cJ0_isLatin1_aae02 18 = .ok (.ireturn, 1) := by decide +kernel
theorem dJ0_checkIndex_df160_0 : decode cJ0_checkIndex_df160 0 = .ok (.iload_n 0, 1) := by decide +kernel
theorem dJ0_checkIndex_df160_1 : decode cJ0_checkIndex_df160 1 = .ok (.iload_n 1, 1) := by decide +kernel
theorem dJ0_checkIndex_df160_2 : decode cJ0_checkIndex_df160 2 = .ok (.getstatic 1053, 3) := by decide +kernel
theorem dJ0_checkIndex_df160_5 : decode cJ0_checkIndex_df160 5 = .ok (.invokestatic 1059, 3) := by decide +kernel
theorem dJ0_checkIndex_df160_8 : decode cJ0_checkIndex_df160 8 = .ok (.pop, 1) := by decide +kernel
theorem dJ0_checkIndex_df160_9 : decode cJ0_checkIndex_df160 9 = .ok (.return_, 1) := by decide +kernel
theorem dJ1_charAt_3b067_0 : decode cJ1_charAt_3b067 0 = .ok (.iload_n 1, 1) := by decide +kernel
theorem dJ1_charAt_3b067_1 : decode cJ1_charAt_3b067 1 = .ok (.aload_n 0, 1) := by decide +kernel
theorem dJ1_charAt_3b067_2 : decode cJ1_charAt_3b067 2 = .ok (.arraylength, 1) := by decide +kernel
theorem dJ1_charAt_3b067_3 : decode cJ1_charAt_3b067 3 = .ok (.invokestatic 9, 3) := by decide +kernel
theorem dJ1_charAt_3b067_6 : decode cJ1_charAt_3b067 6 = .ok (.aload_n 0, 1) := by decide +kernel
theorem dJ1_charAt_3b067_7 : decode cJ1_charAt_3b067 7 = .ok (.iload_n 1, 1) := by decide +kernel
theorem dJ1_charAt_3b067_8 : decode cJ1_charAt_3b067 8 = .ok (.baload, 1) := by decide +kernel
theorem dJ1_charAt_3b067_9 : decode cJ1_charAt_3b067 9 = .ok (.sipush 255, 3) := by decide +kernel
theorem dJ1_charAt_3b067_12 : decode cJ1_charAt_3b067 12 = .ok (.iand, 1) := by decide +kernel
theorem dJ1_charAt_3b067_13 : decode cJ1_charAt_3b067 13 = .ok (.i2c, 1) := by decide +kernel
theorem dJ1_charAt_3b067_14 : decode cJ1_charAt_3b067 14 = .ok (.ireturn, 1) := by decide +kernel
theorem dJ2_getChar_3b067_0 : decode cJ2_getChar_3b067 0 = .ok (.getstatic 44, 3) := by decide +kernel
theorem dJ2_getChar_3b067_3 : decode cJ2_getChar_3b067 3 = .ok (.ifCond .ne 25, 3) := by decide +kernel
theorem dJ2_getChar_3b067_6 : decode cJ2_getChar_3b067 6 = .ok (.iload_n 1, 1) := by decide +kernel
theorem dJ2_getChar_3b067_7 : decode cJ2_getChar_3b067 7 = .ok (.ifCond .lt 11, 3) := by decide +kernel
theorem dJ2_getChar_3b067_10 : decode cJ2_getChar_3b067 10 = .ok (.iload_n 1, 1) := by decide +kernel
theorem dJ2_getChar_3b067_11 : decode cJ2_getChar_3b067 11 = .ok (.aload_n 0, 1) := by decide +kernel
theorem dJ2_getChar_3b067_12 : decode cJ2_getChar_3b067 12 = .ok (.invokestatic 48, 3) := by decide +kernel
theorem dJ2_getChar_3b067_15 : decode cJ2_getChar_3b067 15 = .ok (.if_icmp .lt 13, 3) := by decide +kernel
theorem dJ2_getChar_3b067_18 : decode cJ2_getChar_3b067 18 = .ok (.new 52, 3) := by decide +kernel
theorem dJ2_getChar_3b067_21 : decode cJ2_getChar_3b067 21 = .ok (.dup, 1) := by decide +kernel
theorem dJ2_getChar_3b067_22 : decode cJ2_getChar_3b067 22 = .ok (.ldc 54, 2) := by decide +kernel
theorem dJ2_getChar_3b067_24 : decode cJ2_getChar_3b067 24 = .ok (.invokespecial 56, 3) := by decide +kernel
theorem dJ2_getChar_3b067_27 : decode cJ2_getChar_3b067 27 = .ok (.athrow, 1) := by decide +kernel
theorem dJ2_getChar_3b067_28 : decode cJ2_getChar_3b067 28 = .ok (.iload_n 1, 1) := by decide +kernel
theorem dJ2_getChar_3b067_29 : decode cJ2_getChar_3b067 29 = .ok (.iconst 1, 1) := by decide +kernel
theorem dJ2_getChar_3b067_30 : decode cJ2_getChar_3b067 30 = .ok (.ishl, 1) := by decide +kernel
theorem dJ2_getChar_3b067_31 : decode cJ2_getChar_3b067 31 = .ok (.istore_n 1, 1) := by decide +kernel
theorem dJ2_getChar_3b067_32 : decode cJ2_getChar_3b067 32 = .ok (.aload_n 0, 1) := by decide +kernel
theorem dJ2_getChar_3b067_33 : decode cJ2_getChar_3b067 33 = .ok (.iload_n 1, 1) := by decide +kernel
theorem dJ2_getChar_3b067_34 : decode cJ2_getChar_3b067 34 = .ok (.iinc 1 1, 3) := by decide +kernel
theorem dJ2_getChar_3b067_37 : decode cJ2_getChar_3b067 37 = .ok (.baload, 1) := by decide +kernel
theorem dJ2_getChar_3b067_38 : decode cJ2_getChar_3b067 38 = .ok (.sipush 255, 3) := by decide +kernel
theorem dJ2_getChar_3b067_41 : decode cJ2_getChar_3b067 41 = .ok (.iand, 1) := by decide +kernel
theorem dJ2_getChar_3b067_42 : decode cJ2_getChar_3b067 42 = .ok (.getstatic 59, 3) := by decide +kernel
theorem dJ2_getChar_3b067_45 : decode cJ2_getChar_3b067 45 = .ok (.ishl, 1) := by decide +kernel
theorem dJ2_getChar_3b067_46 : decode cJ2_getChar_3b067 46 = .ok (.aload_n 0, 1) := by decide +kernel
theorem dJ2_getChar_3b067_47 : decode cJ2_getChar_3b067 47 = .ok (.iload_n 1, 1) := by decide +kernel
theorem dJ2_getChar_3b067_48 : decode cJ2_getChar_3b067 48 = .ok (.baload, 1) := by decide +kernel
theorem dJ2_getChar_3b067_49 : decode cJ2_getChar_3b067 49 = .ok (.sipush 255, 3) := by decide +kernel
theorem dJ2_getChar_3b067_52 : decode cJ2_getChar_3b067 52 = .ok (.iand, 1) := by decide +kernel
theorem dJ2_getChar_3b067_53 : decode cJ2_getChar_3b067 53 = .ok (.getstatic 63, 3) := by decide +kernel
theorem dJ2_getChar_3b067_56 : decode cJ2_getChar_3b067 56 = .ok (.ishl, 1) := by decide +kernel
theorem dJ2_getChar_3b067_57 : decode cJ2_getChar_3b067 57 = .ok (.ior, 1) := by decide +kernel
theorem dJ2_getChar_3b067_58 : decode cJ2_getChar_3b067 58 = .ok (.i2c, 1) := by decide +kernel
theorem dJ2_getChar_3b067_59 : decode cJ2_getChar_3b067 59 = .ok (.ireturn, 1) := by decide +kernel
theorem dJ2_length_9d52b_0 : decode cJ2_length_9d52b 0 = .ok (.aload_n 0, 1) := by decide +kernel
theorem dJ2_length_9d52b_1 : decode cJ2_length_9d52b 1 = .ok (.arraylength, 1) := by decide +kernel
theorem dJ2_length_9d52b_2 : decode cJ2_length_9d52b 2 = .ok (.iconst 1, 1) := by decide +kernel
theorem dJ2_length_9d52b_3 : decode cJ2_length_9d52b 3 = .ok (.ishr, 1) := by decide +kernel
theorem dJ2_length_9d52b_4 : decode cJ2_length_9d52b 4 = .ok (.ireturn, 1) := by decide +kernel
theorem dJ2_charAt_3b067_0 : decode cJ2_charAt_3b067 0 = .ok (.iload_n 1, 1) := by decide +kernel
theorem dJ2_charAt_3b067_1 : decode cJ2_charAt_3b067 1 = .ok (.aload_n 0, 1) := by decide +kernel
theorem dJ2_charAt_3b067_2 : decode cJ2_charAt_3b067 2 = .ok (.invokestatic 67, 3) := by decide +kernel
theorem dJ2_charAt_3b067_5 : decode cJ2_charAt_3b067 5 = .ok (.aload_n 0, 1) := by decide +kernel
theorem dJ2_charAt_3b067_6 : decode cJ2_charAt_3b067 6 = .ok (.iload_n 1, 1) := by decide +kernel
theorem dJ2_charAt_3b067_7 : decode cJ2_charAt_3b067 7 = .ok (.invokestatic 71, 3) := by decide +kernel
theorem dJ2_charAt_3b067_10 : decode cJ2_charAt_3b067 10 = .ok (.ireturn, 1) := by decide +kernel
theorem dJ2_checkIndex_2214a_0 : decode cJ2_checkIndex_2214a 0 = .ok (.iload_n 0, 1) := by decide +kernel
theorem dJ2_checkIndex_2214a_1 : decode cJ2_checkIndex_2214a 1 = .ok (.aload_n 1, 1) := by decide +kernel
theorem dJ2_checkIndex_2214a_2 : decode cJ2_checkIndex_2214a 2 = .ok (.invokestatic 48, 3) := by decide +kernel
theorem dJ2_checkIndex_2214a_5 : decode cJ2_checkIndex_2214a 5 = .ok (.invokestatic 414, 3) := by decide +kernel
theorem dJ2_checkIndex_2214a_8 : decode cJ2_checkIndex_2214a 8 = .ok (.return_, 1) := by decide +kernel
theorem dJ3_checkIndex_8e157_0 : decode cJ3_checkIndex_8e157 0 = .ok (.iload_n 0, 1) := by decide +kernel
theorem dJ3_checkIndex_8e157_1 : decode cJ3_checkIndex_8e157 1 = .ok (.ifCond .lt 8, 3) := by decide +kernel
theorem dJ3_checkIndex_8e157_4 : decode cJ3_checkIndex_8e157 4 = .ok (.iload_n 0, 1) := by decide +kernel
theorem dJ3_checkIndex_8e157_5 : decode cJ3_checkIndex_8e157 5 = .ok (.iload_n 1, 1) := by decide +kernel
theorem dJ3_checkIndex_8e157_6 : decode cJ3_checkIndex_8e157 6 = .ok (.if_icmp .lt 10, 3) := by decide +kernel
theorem dJ3_checkIndex_8e157_9 : decode cJ3_checkIndex_8e157 9 = .ok (.aload_n 2, 1) := by decide +kernel
theorem dJ3_checkIndex_8e157_10 : decode cJ3_checkIndex_8e157 10 = .ok (.iload_n 0, 1) := by decide +kernel
theorem dJ3_checkIndex_8e157_11 : decode cJ3_checkIndex_8e157 11 = .ok (.iload_n 1, 1) := by decide +kernel
theorem dJ3_checkIndex_8e157_12 : decode cJ3_checkIndex_8e157 12 = .ok (.invokestatic 95, 3) := by decide +kernel
theorem dJ3_checkIndex_8e157_15 : decode cJ3_checkIndex_8e157 15 = .ok (.athrow, 1) := by decide +kernel
theorem dJ3_checkIndex_8e157_16 : decode cJ3_checkIndex_8e157 16 = .ok (.iload_n 0, 1) := by decide +kernel
theorem dJ3_checkIndex_8e157_17 : decode cJ3_checkIndex_8e157 17 = .ok (.ireturn, 1) := by decide +kernel
theorem dJ6_bitCount_0f7a4_0 : decode cJ6_bitCount_0f7a4 0 = .ok (.iload_n 0, 1) := by decide +kernel
theorem dJ6_bitCount_0f7a4_1 : decode cJ6_bitCount_0f7a4 1 = .ok (.iload_n 0, 1) := by decide +kernel
theorem dJ6_bitCount_0f7a4_2 : decode cJ6_bitCount_0f7a4 2 = .ok (.iconst 1, 1) := by decide +kernel
theorem dJ6_bitCount_0f7a4_3 : decode cJ6_bitCount_0f7a4 3 = .ok (.iushr, 1) := by decide +kernel
theorem dJ6_bitCount_0f7a4_4 : decode cJ6_bitCount_0f7a4 4 = .ok (.ldc_w 265, 3) := by decide +kernel
theorem dJ6_bitCount_0f7a4_7 : decode cJ6_bitCount_0f7a4 7 = .ok (.iand, 1) := by decide +kernel
theorem dJ6_bitCount_0f7a4_8 : decode cJ6_bitCount_0f7a4 8 = .ok (.isub, 1) := by decide +kernel
theorem dJ6_bitCount_0f7a4_9 : decode cJ6_bitCount_0f7a4 9 = .ok (.istore_n 0, 1) := by decide +kernel
theorem dJ6_bitCount_0f7a4_10 : decode cJ6_bitCount_0f7a4 10 = .ok (.iload_n 0, 1) := by decide +kernel
theorem dJ6_bitCount_0f7a4_11 : decode cJ6_bitCount_0f7a4 11 = .ok (.ldc_w 266, 3) := by decide +kernel
theorem dJ6_bitCount_0f7a4_14 : decode cJ6_bitCount_0f7a4 14 = .ok (.iand, 1) := by decide +kernel
theorem dJ6_bitCount_0f7a4_15 : decode cJ6_bitCount_0f7a4 15 = .ok (.iload_n 0, 1) := by decide +kernel
theorem dJ6_bitCount_0f7a4_16 : decode cJ6_bitCount_0f7a4 16 = .ok (.iconst 2, 1) := by decide +kernel
theorem dJ6_bitCount_0f7a4_17 : decode cJ6_bitCount_0f7a4 17 = .ok (.iushr, 1) := by decide +kernel
theorem dJ6_bitCount_0f7a4_18 : decode cJ6_bitCount_0f7a4 18 = .ok (.ldc_w 266, 3) := by decide +kernel
theorem dJ6_bitCount_0f7a4_21 : decode cJ6_bitCount_0f7a4 21 = .ok (.iand, 1) := by decide +kernel
theorem dJ6_bitCount_0f7a4_22 : decode cJ6_bitCount_0f7a4 22 = .ok (.iadd, 1) := by decide +kernel
theorem dJ6_bitCount_0f7a4_23 : decode cJ6_bitCount_0f7a4 23 = .ok (.istore_n 0, 1) := by decide +kernel
theorem dJ6_bitCount_0f7a4_24 : decode cJ6_bitCount_0f7a4 24 = .ok (.iload_n 0, 1) := by decide +kernel
theorem dJ6_bitCount_0f7a4_25 : decode cJ6_bitCount_0f7a4 25 = .ok (.iload_n 0, 1) := by decide +kernel
theorem dJ6_bitCount_0f7a4_26 : decode cJ6_bitCount_0f7a4 26 = .ok (.iconst 4, 1) := by decide +kernel
theorem dJ6_bitCount_0f7a4_27 : decode cJ6_bitCount_0f7a4 27 = .ok (.iushr, 1) := by decide +kernel
theorem dJ6_bitCount_0f7a4_28 : decode cJ6_bitCount_0f7a4 28 = .ok (.iadd, 1) := by decide +kernel
theorem dJ6_bitCount_0f7a4_29 : decode cJ6_bitCount_0f7a4 29 = .ok (.ldc_w 267, 3) := by decide +kernel
theorem dJ6_bitCount_0f7a4_32 : decode cJ6_bitCount_0f7a4 32 = .ok (.iand, 1) := by decide +kernel
theorem dJ6_bitCount_0f7a4_33 : decode cJ6_bitCount_0f7a4 33 = .ok (.istore_n 0, 1) := by decide +kernel
theorem dJ6_bitCount_0f7a4_34 : decode cJ6_bitCount_0f7a4 34 = .ok (.iload_n 0, 1) := by decide +kernel
theorem dJ6_bitCount_0f7a4_35 : decode cJ6_bitCount_0f7a4 35 = .ok (.iload_n 0, 1) := by decide +kernel
theorem dJ6_bitCount_0f7a4_36 : decode cJ6_bitCount_0f7a4 36 = .ok (.bipush 8, 2) := by decide +kernel
theorem dJ6_bitCount_0f7a4_38 : decode cJ6_bitCount_0f7a4 38 = .ok (.iushr, 1) := by decide +kernel
theorem dJ6_bitCount_0f7a4_39 : decode cJ6_bitCount_0f7a4 39 = .ok (.iadd, 1) := by decide +kernel
theorem dJ6_bitCount_0f7a4_40 : decode cJ6_bitCount_0f7a4 40 = .ok (.istore_n 0, 1) := by decide +kernel
theorem dJ6_bitCount_0f7a4_41 : decode cJ6_bitCount_0f7a4 41 = .ok (.iload_n 0, 1) := by decide +kernel
theorem dJ6_bitCount_0f7a4_42 : decode cJ6_bitCount_0f7a4 42 = .ok (.iload_n 0, 1) := by decide +kernel
theorem dJ6_bitCount_0f7a4_43 : decode cJ6_bitCount_0f7a4 43 = .ok (.bipush 16, 2) := by decide +kernel
theorem dJ6_bitCount_0f7a4_45 : decode cJ6_bitCount_0f7a4 45 = .ok (.iushr, 1) := by decide +kernel
theorem dJ6_bitCount_0f7a4_46 : decode cJ6_bitCount_0f7a4 46 = .ok (.iadd, 1) := by decide +kernel
theorem dJ6_bitCount_0f7a4_47 : decode cJ6_bitCount_0f7a4 47 = .ok (.istore_n 0, 1) := by decide +kernel
theorem dJ6_bitCount_0f7a4_48 : decode cJ6_bitCount_0f7a4 48 = .ok (.iload_n 0, 1) := by decide +kernel
theorem dJ6_bitCount_0f7a4_49 : decode cJ6_bitCount_0f7a4 49 = .ok (.bipush 63, 2) := by decide +kernel
theorem dJ6_bitCount_0f7a4_51 : decode cJ6_bitCount_0f7a4 51 = .ok (.iand, 1) := by decide +kernel
theorem dJ6_bitCount_0f7a4_52 : decode cJ6_bitCount_0f7a4 52 = .ok (.ireturn, 1) := by decide +kernel
theorem dJ7_fill_53178_0 : decode cJ7_fill_53178 0 = .ok (.iconst 0, 1) := by decide +kernel
theorem dJ7_fill_53178_1 : decode cJ7_fill_53178 1 = .ok (.istore_n 2, 1) := by decide +kernel
theorem dJ7_fill_53178_2 : decode cJ7_fill_53178 2 = .ok (.aload_n 0, 1) := by decide +kernel
theorem dJ7_fill_53178_3 : decode cJ7_fill_53178 3 = .ok (.arraylength, 1) := by decide +kernel
theorem dJ7_fill_53178_4 : decode cJ7_fill_53178 4 = .ok (.istore_n 3, 1) := by decide +kernel
theorem dJ7_fill_53178_5 : decode cJ7_fill_53178 5 = .ok (.iload_n 2, 1) := by decide +kernel
theorem dJ7_fill_53178_6 : decode cJ7_fill_53178 6 = .ok (.iload_n 3, 1) := by decide +kernel
theorem dJ7_fill_53178_7 : decode cJ7_fill_53178 7 = .ok (.if_icmp .ge 13, 3) := by decide +kernel
theorem dJ7_fill_53178_10 : decode cJ7_fill_53178 10 = .ok (.aload_n 0, 1) := by decide +kernel
theorem dJ7_fill_53178_11 : decode cJ7_fill_53178 11 = .ok (.iload_n 2, 1) := by decide +kernel
theorem dJ7_fill_53178_12 : decode cJ7_fill_53178 12 = .ok (.iload_n 1, 1) := by decide +kernel
theorem dJ7_fill_53178_13 : decode cJ7_fill_53178 13 = .ok (.iastore, 1) := by decide +kernel
theorem dJ7_fill_53178_14 : decode cJ7_fill_53178 14 = .ok (.iinc 2 1, 3) := by decide +kernel
theorem dJ7_fill_53178_17 : decode cJ7_fill_53178 17 = .ok (.goto (-12), 3) := by decide +kernel
theorem dJ7_fill_53178_20 : decode cJ7_fill_53178 20 = .ok (.return_, 1) := by decide +kernel
theorem dJ9_max_7cf53_0 : decode cJ9_max_7cf53 0 = .ok (.iload_n 0, 1) := by decide +kernel
theorem dJ9_max_7cf53_1 : decode cJ9_max_7cf53 1 = .ok (.iload_n 1, 1) := by decide +kernel
theorem dJ9_max_7cf53_2 : decode cJ9_max_7cf53 2 = .ok (.if_icmp .lt 7, 3) := by decide +kernel
theorem dJ9_max_7cf53_5 : decode cJ9_max_7cf53 5 = .ok (.iload_n 0, 1) := by decide +kernel
theorem dJ9_max_7cf53_6 : decode cJ9_max_7cf53 6 = .ok (.goto 4, 3) := by decide +kernel
theorem dJ9_max_7cf53_9 : decode cJ9_max_7cf53 9 = .ok (.iload_n 1, 1) := by decide +kernel
theorem dJ9_max_7cf53_10 : decode cJ9_max_7cf53 10 = .ok (.ireturn, 1) := by decide +kernel
theorem dJ9_min_7cf53_0 : decode cJ9_min_7cf53 0 = .ok (.iload_n 0, 1) := by decide +kernel
theorem dJ9_min_7cf53_1 : decode cJ9_min_7cf53 1 = .ok (.iload_n 1, 1) := by decide +kernel
theorem dJ9_min_7cf53_2 : decode cJ9_min_7cf53 2 = .ok (.if_icmp .gt 7, 3) := by decide +kernel
theorem dJ9_min_7cf53_5 : decode cJ9_min_7cf53 5 = .ok (.iload_n 0, 1) := by decide +kernel
theorem dJ9_min_7cf53_6 : decode cJ9_min_7cf53 6 = .ok (.goto 4, 3) := by decide +kernel
theorem dJ9_min_7cf53_9 : decode cJ9_min_7cf53 9 = .ok (.iload_n 1, 1) := by decide +kernel
theorem dJ9_min_7cf53_10 : decode cJ9_min_7cf53 10 = .ok (.ireturn, 1) := by decide +kernel
