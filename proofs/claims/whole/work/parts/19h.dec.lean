/-! ===== decode rows: the law's helpers ===== -/
theorem dL_office_0 : decode cL_office 0 = .ok (.aload_n 2, 1) := by decide +kernel
theorem dL_office_1 : decode cL_office 1 = .ok (.iconst 0, 1) := by decide +kernel
theorem dL_office_2 : decode cL_office 2 = .ok (.aload_n 0, 1) := by decide +kernel
theorem dL_office_3 : decode cL_office 3 = .ok (.iload_n 1, 1) := by decide +kernel
theorem dL_office_4 : decode cL_office 4 = .ok (.invokevirtual 7, 3) := by decide +kernel
theorem dL_office_7 : decode cL_office 7 = .ok (.i2l, 1) := by decide +kernel
theorem dL_office_8 : decode cL_office 8 = .ok (.lastore, 1) := by decide +kernel
theorem dL_office_9 : decode cL_office 9 = .ok (.goto 6, 3) := by decide +kernel
theorem dL_office_12 : decode cL_office 12 = .ok (.astore_n 3, 1) := by decide +kernel
theorem dL_office_13 : decode cL_office 13 = .ok (.iconst 1, 1) := by decide +kernel
theorem dL_office_14 : decode cL_office 14 = .ok (.ireturn, 1) := by decide +kernel
theorem dL_office_15 : decode cL_office 15 = .ok (.iconst 0, 1) := by decide +kernel
theorem dL_office_16 : decode cL_office 16 = .ok (.ireturn, 1) := by decide +kernel
theorem dL_count_0 : decode cL_count 0 = .ok (.aload_n 2, 1) := by decide +kernel
theorem dL_count_1 : decode cL_count 1 = .ok (.iconst 0, 1) := by decide +kernel
theorem dL_count_2 : decode cL_count 2 = .ok (.aload_n 0, 1) := by decide +kernel
theorem dL_count_3 : decode cL_count 3 = .ok (.iload_n 1, 1) := by decide +kernel
theorem dL_count_4 : decode cL_count 4 = .ok (.invokevirtual 15, 3) := by decide +kernel
theorem dL_count_7 : decode cL_count 7 = .ok (.i2l, 1) := by decide +kernel
theorem dL_count_8 : decode cL_count 8 = .ok (.lastore, 1) := by decide +kernel
theorem dL_count_9 : decode cL_count 9 = .ok (.goto 6, 3) := by decide +kernel
theorem dL_count_12 : decode cL_count 12 = .ok (.astore_n 3, 1) := by decide +kernel
theorem dL_count_13 : decode cL_count 13 = .ok (.iconst 1, 1) := by decide +kernel
theorem dL_count_14 : decode cL_count 14 = .ok (.ireturn, 1) := by decide +kernel
theorem dL_count_15 : decode cL_count 15 = .ok (.iconst 0, 1) := by decide +kernel
theorem dL_count_16 : decode cL_count 16 = .ok (.ireturn, 1) := by decide +kernel
theorem dL_sheet_0 : decode cL_sheet 0 = .ok (.aload_n 3, 1) := by decide +kernel
theorem dL_sheet_1 : decode cL_sheet 1 = .ok (.iconst 0, 1) := by decide +kernel
theorem dL_sheet_2 : decode cL_sheet 2 = .ok (.aload_n 0, 1) := by decide +kernel
theorem dL_sheet_3 : decode cL_sheet 3 = .ok (.iload_n 1, 1) := by decide +kernel
theorem dL_sheet_4 : decode cL_sheet 4 = .ok (.iload_n 2, 1) := by decide +kernel
theorem dL_sheet_5 : decode cL_sheet 5 = .ok (.invokevirtual 20, 3) := by decide +kernel
theorem dL_sheet_8 : decode cL_sheet 8 = .ok (.i2l, 1) := by decide +kernel
theorem dL_sheet_9 : decode cL_sheet 9 = .ok (.lastore, 1) := by decide +kernel
theorem dL_sheet_10 : decode cL_sheet 10 = .ok (.goto 7, 3) := by decide +kernel
theorem dL_sheet_13 : decode cL_sheet 13 = .ok (.astore 4, 2) := by decide +kernel
theorem dL_sheet_15 : decode cL_sheet 15 = .ok (.iconst 1, 1) := by decide +kernel
theorem dL_sheet_16 : decode cL_sheet 16 = .ok (.ireturn, 1) := by decide +kernel
theorem dL_sheet_17 : decode cL_sheet 17 = .ok (.iconst 0, 1) := by decide +kernel
theorem dL_sheet_18 : decode cL_sheet 18 = .ok (.ireturn, 1) := by decide +kernel
theorem dL_clerk_0 : decode cL_clerk 0 = .ok (.aload_n 3, 1) := by decide +kernel
theorem dL_clerk_1 : decode cL_clerk 1 = .ok (.iconst 0, 1) := by decide +kernel
theorem dL_clerk_2 : decode cL_clerk 2 = .ok (.aload_n 0, 1) := by decide +kernel
theorem dL_clerk_3 : decode cL_clerk 3 = .ok (.iload_n 1, 1) := by decide +kernel
theorem dL_clerk_4 : decode cL_clerk 4 = .ok (.iload_n 2, 1) := by decide +kernel
theorem dL_clerk_5 : decode cL_clerk 5 = .ok (.invokevirtual 24, 3) := by decide +kernel
theorem dL_clerk_8 : decode cL_clerk 8 = .ok (.i2l, 1) := by decide +kernel
theorem dL_clerk_9 : decode cL_clerk 9 = .ok (.lastore, 1) := by decide +kernel
theorem dL_clerk_10 : decode cL_clerk 10 = .ok (.goto 7, 3) := by decide +kernel
theorem dL_clerk_13 : decode cL_clerk 13 = .ok (.astore 4, 2) := by decide +kernel
theorem dL_clerk_15 : decode cL_clerk 15 = .ok (.iconst 1, 1) := by decide +kernel
theorem dL_clerk_16 : decode cL_clerk 16 = .ok (.ireturn, 1) := by decide +kernel
theorem dL_clerk_17 : decode cL_clerk 17 = .ok (.iconst 0, 1) := by decide +kernel
theorem dL_clerk_18 : decode cL_clerk 18 = .ok (.ireturn, 1) := by decide +kernel
theorem dL_word_0 : decode cL_word 0 = .ok (.aload_n 3, 1) := by decide +kernel
theorem dL_word_1 : decode cL_word 1 = .ok (.iconst 0, 1) := by decide +kernel
theorem dL_word_2 : decode cL_word 2 = .ok (.aload_n 0, 1) := by decide +kernel
theorem dL_word_3 : decode cL_word 3 = .ok (.iload_n 1, 1) := by decide +kernel
theorem dL_word_4 : decode cL_word 4 = .ok (.iload_n 2, 1) := by decide +kernel
theorem dL_word_5 : decode cL_word 5 = .ok (.invokevirtual 27, 3) := by decide +kernel
theorem dL_word_8 : decode cL_word 8 = .ok (.i2l, 1) := by decide +kernel
theorem dL_word_9 : decode cL_word 9 = .ok (.lastore, 1) := by decide +kernel
theorem dL_word_10 : decode cL_word 10 = .ok (.goto 7, 3) := by decide +kernel
theorem dL_word_13 : decode cL_word 13 = .ok (.astore 4, 2) := by decide +kernel
theorem dL_word_15 : decode cL_word 15 = .ok (.iconst 1, 1) := by decide +kernel
theorem dL_word_16 : decode cL_word 16 = .ok (.ireturn, 1) := by decide +kernel
theorem dL_word_17 : decode cL_word 17 = .ok (.iconst 0, 1) := by decide +kernel
theorem dL_word_18 : decode cL_word 18 = .ok (.ireturn, 1) := by decide +kernel
theorem dL_town_0 : decode cL_town 0 = .ok (.aload_n 3, 1) := by decide +kernel
theorem dL_town_1 : decode cL_town 1 = .ok (.iconst 0, 1) := by decide +kernel
theorem dL_town_2 : decode cL_town 2 = .ok (.aload_n 0, 1) := by decide +kernel
theorem dL_town_3 : decode cL_town 3 = .ok (.iload_n 1, 1) := by decide +kernel
theorem dL_town_4 : decode cL_town 4 = .ok (.iload_n 2, 1) := by decide +kernel
theorem dL_town_5 : decode cL_town 5 = .ok (.invokevirtual 30, 3) := by decide +kernel
theorem dL_town_8 : decode cL_town 8 = .ok (.i2l, 1) := by decide +kernel
theorem dL_town_9 : decode cL_town 9 = .ok (.lastore, 1) := by decide +kernel
theorem dL_town_10 : decode cL_town 10 = .ok (.goto 7, 3) := by decide +kernel
theorem dL_town_13 : decode cL_town 13 = .ok (.astore 4, 2) := by decide +kernel
theorem dL_town_15 : decode cL_town 15 = .ok (.iconst 1, 1) := by decide +kernel
theorem dL_town_16 : decode cL_town 16 = .ok (.ireturn, 1) := by decide +kernel
theorem dL_town_17 : decode cL_town 17 = .ok (.iconst 0, 1) := by decide +kernel
theorem dL_town_18 : decode cL_town 18 = .ok (.ireturn, 1) := by decide +kernel
theorem dL_take_0 : decode cL_take 0 = .ok (.aload_n 3, 1) := by decide +kernel
theorem dL_take_1 : decode cL_take 1 = .ok (.iconst 0, 1) := by decide +kernel
theorem dL_take_2 : decode cL_take 2 = .ok (.aload_n 0, 1) := by decide +kernel
theorem dL_take_3 : decode cL_take 3 = .ok (.iload_n 1, 1) := by decide +kernel
theorem dL_take_4 : decode cL_take 4 = .ok (.iload_n 2, 1) := by decide +kernel
theorem dL_take_5 : decode cL_take 5 = .ok (.invokevirtual 33, 3) := by decide +kernel
theorem dL_take_8 : decode cL_take 8 = .ok (.ifCond .eq 7, 3) := by decide +kernel
theorem dL_take_11 : decode cL_take 11 = .ok (.lconst 1, 1) := by decide +kernel
theorem dL_take_12 : decode cL_take 12 = .ok (.goto 4, 3) := by decide +kernel
theorem dL_take_15 : decode cL_take 15 = .ok (.lconst 0, 1) := by decide +kernel
theorem dL_take_16 : decode cL_take 16 = .ok (.lastore, 1) := by decide +kernel
theorem dL_take_17 : decode cL_take 17 = .ok (.goto 7, 3) := by decide +kernel
theorem dL_take_20 : decode cL_take 20 = .ok (.astore 4, 2) := by decide +kernel
theorem dL_take_22 : decode cL_take 22 = .ok (.iconst 1, 1) := by decide +kernel
theorem dL_take_23 : decode cL_take 23 = .ok (.ireturn, 1) := by decide +kernel
theorem dL_take_24 : decode cL_take 24 = .ok (.iconst 0, 1) := by decide +kernel
theorem dL_take_25 : decode cL_take 25 = .ok (.ireturn, 1) := by decide +kernel
theorem dL_leave_0 : decode cL_leave 0 = .ok (.aload_n 3, 1) := by decide +kernel
theorem dL_leave_1 : decode cL_leave 1 = .ok (.iconst 0, 1) := by decide +kernel
theorem dL_leave_2 : decode cL_leave 2 = .ok (.aload_n 0, 1) := by decide +kernel
theorem dL_leave_3 : decode cL_leave 3 = .ok (.iload_n 1, 1) := by decide +kernel
theorem dL_leave_4 : decode cL_leave 4 = .ok (.iload_n 2, 1) := by decide +kernel
theorem dL_leave_5 : decode cL_leave 5 = .ok (.invokevirtual 37, 3) := by decide +kernel
theorem dL_leave_8 : decode cL_leave 8 = .ok (.i2l, 1) := by decide +kernel
theorem dL_leave_9 : decode cL_leave 9 = .ok (.lastore, 1) := by decide +kernel
theorem dL_leave_10 : decode cL_leave 10 = .ok (.goto 7, 3) := by decide +kernel
theorem dL_leave_13 : decode cL_leave 13 = .ok (.astore 4, 2) := by decide +kernel
theorem dL_leave_15 : decode cL_leave 15 = .ok (.iconst 1, 1) := by decide +kernel
theorem dL_leave_16 : decode cL_leave 16 = .ok (.ireturn, 1) := by decide +kernel
theorem dL_leave_17 : decode cL_leave 17 = .ok (.iconst 0, 1) := by decide +kernel
theorem dL_leave_18 : decode cL_leave 18 = .ok (.ireturn, 1) := by decide +kernel
theorem dL_forge_0 : decode cL_forge 0 = .ok (.aload 4, 2) := by decide +kernel
theorem dL_forge_2 : decode cL_forge 2 = .ok (.iconst 0, 1) := by decide +kernel
theorem dL_forge_3 : decode cL_forge 3 = .ok (.aload_n 0, 1) := by decide +kernel
theorem dL_forge_4 : decode cL_forge 4 = .ok (.iload_n 1, 1) := by decide +kernel
theorem dL_forge_5 : decode cL_forge 5 = .ok (.iload_n 2, 1) := by decide +kernel
theorem dL_forge_6 : decode cL_forge 6 = .ok (.iload_n 3, 1) := by decide +kernel
theorem dL_forge_7 : decode cL_forge 7 = .ok (.invokevirtual 40, 3) := by decide +kernel
theorem dL_forge_10 : decode cL_forge 10 = .ok (.i2l, 1) := by decide +kernel
theorem dL_forge_11 : decode cL_forge 11 = .ok (.lastore, 1) := by decide +kernel
theorem dL_forge_12 : decode cL_forge 12 = .ok (.goto 7, 3) := by decide +kernel
theorem dL_forge_15 : decode cL_forge 15 = .ok (.astore 5, 2) := by decide +kernel
theorem dL_forge_17 : decode cL_forge 17 = .ok (.iconst 1, 1) := by decide +kernel
theorem dL_forge_18 : decode cL_forge 18 = .ok (.ireturn, 1) := by decide +kernel
theorem dL_forge_19 : decode cL_forge 19 = .ok (.iconst 0, 1) := by decide +kernel
theorem dL_forge_20 : decode cL_forge 20 = .ok (.ireturn, 1) := by decide +kernel
theorem dL_fire_0 : decode cL_fire 0 = .ok (.aload_n 2, 1) := by decide +kernel
theorem dL_fire_1 : decode cL_fire 1 = .ok (.iconst 0, 1) := by decide +kernel
theorem dL_fire_2 : decode cL_fire 2 = .ok (.aload_n 0, 1) := by decide +kernel
theorem dL_fire_3 : decode cL_fire 3 = .ok (.iload_n 1, 1) := by decide +kernel
theorem dL_fire_4 : decode cL_fire 4 = .ok (.invokevirtual 44, 3) := by decide +kernel
theorem dL_fire_7 : decode cL_fire 7 = .ok (.i2l, 1) := by decide +kernel
theorem dL_fire_8 : decode cL_fire 8 = .ok (.lastore, 1) := by decide +kernel
theorem dL_fire_9 : decode cL_fire 9 = .ok (.goto 6, 3) := by decide +kernel
theorem dL_fire_12 : decode cL_fire 12 = .ok (.astore_n 3, 1) := by decide +kernel
theorem dL_fire_13 : decode cL_fire 13 = .ok (.iconst 1, 1) := by decide +kernel
theorem dL_fire_14 : decode cL_fire 14 = .ok (.ireturn, 1) := by decide +kernel
theorem dL_fire_15 : decode cL_fire 15 = .ok (.iconst 0, 1) := by decide +kernel
theorem dL_fire_16 : decode cL_fire 16 = .ok (.ireturn, 1) := by decide +kernel
theorem dL_then_0 : decode cL_then 0 = .ok (.aload 4, 2) := by decide +kernel
theorem dL_then_2 : decode cL_then 2 = .ok (.iconst 0, 1) := by decide +kernel
theorem dL_then_3 : decode cL_then 3 = .ok (.aload_n 0, 1) := by decide +kernel
theorem dL_then_4 : decode cL_then 4 = .ok (.iload_n 1, 1) := by decide +kernel
theorem dL_then_5 : decode cL_then 5 = .ok (.iload_n 2, 1) := by decide +kernel
theorem dL_then_6 : decode cL_then 6 = .ok (.iload_n 3, 1) := by decide +kernel
theorem dL_then_7 : decode cL_then 7 = .ok (.invokevirtual 47, 3) := by decide +kernel
theorem dL_then_10 : decode cL_then 10 = .ok (.i2l, 1) := by decide +kernel
theorem dL_then_11 : decode cL_then 11 = .ok (.lastore, 1) := by decide +kernel
theorem dL_then_12 : decode cL_then 12 = .ok (.goto 11, 3) := by decide +kernel
theorem dL_then_15 : decode cL_then 15 = .ok (.astore 5, 2) := by decide +kernel
theorem dL_then_17 : decode cL_then 17 = .ok (.iconst 1, 1) := by decide +kernel
theorem dL_then_18 : decode cL_then 18 = .ok (.ireturn, 1) := by decide +kernel
theorem dL_then_19 : decode cL_then 19 = .ok (.astore 5, 2) := by decide +kernel
theorem dL_then_21 : decode cL_then 21 = .ok (.iconst 2, 1) := by decide +kernel
theorem dL_then_22 : decode cL_then 22 = .ok (.ireturn, 1) := by decide +kernel
theorem dL_then_23 : decode cL_then 23 = .ok (.iconst 0, 1) := by decide +kernel
theorem dL_then_24 : decode cL_then 24 = .ok (.ireturn, 1) := by decide +kernel
theorem dL_where_0 : decode cL_where 0 = .ok (.aload_n 3, 1) := by decide +kernel
theorem dL_where_1 : decode cL_where 1 = .ok (.iconst 0, 1) := by decide +kernel
theorem dL_where_2 : decode cL_where 2 = .ok (.aload_n 0, 1) := by decide +kernel
theorem dL_where_3 : decode cL_where 3 = .ok (.iload_n 1, 1) := by decide +kernel
theorem dL_where_4 : decode cL_where 4 = .ok (.iload_n 2, 1) := by decide +kernel
theorem dL_where_5 : decode cL_where 5 = .ok (.invokevirtual 50, 3) := by decide +kernel
theorem dL_where_8 : decode cL_where 8 = .ok (.i2l, 1) := by decide +kernel
theorem dL_where_9 : decode cL_where 9 = .ok (.lastore, 1) := by decide +kernel
theorem dL_where_10 : decode cL_where 10 = .ok (.goto 11, 3) := by decide +kernel
theorem dL_where_13 : decode cL_where 13 = .ok (.astore 4, 2) := by decide +kernel
theorem dL_where_15 : decode cL_where 15 = .ok (.iconst 1, 1) := by decide +kernel
theorem dL_where_16 : decode cL_where 16 = .ok (.ireturn, 1) := by decide +kernel
theorem dL_where_17 : decode cL_where 17 = .ok (.astore 4, 2) := by decide +kernel
theorem dL_where_19 : decode cL_where 19 = .ok (.iconst 2, 1) := by decide +kernel
theorem dL_where_20 : decode cL_where 20 = .ok (.ireturn, 1) := by decide +kernel
theorem dL_where_21 : decode cL_where 21 = .ok (.iconst 0, 1) := by decide +kernel
theorem dL_where_22 : decode cL_where 22 = .ok (.ireturn, 1) := by decide +kernel
theorem dL_first_0 : decode cL_first 0 = .ok (.aload_n 3, 1) := by decide +kernel
theorem dL_first_1 : decode cL_first 1 = .ok (.iconst 0, 1) := by decide +kernel
theorem dL_first_2 : decode cL_first 2 = .ok (.aload_n 0, 1) := by decide +kernel
theorem dL_first_3 : decode cL_first 3 = .ok (.iload_n 1, 1) := by decide +kernel
theorem dL_first_4 : decode cL_first 4 = .ok (.iload_n 2, 1) := by decide +kernel
theorem dL_first_5 : decode cL_first 5 = .ok (.invokevirtual 53, 3) := by decide +kernel
theorem dL_first_8 : decode cL_first 8 = .ok (.i2l, 1) := by decide +kernel
theorem dL_first_9 : decode cL_first 9 = .ok (.lastore, 1) := by decide +kernel
theorem dL_first_10 : decode cL_first 10 = .ok (.goto 7, 3) := by decide +kernel
theorem dL_first_13 : decode cL_first 13 = .ok (.astore 4, 2) := by decide +kernel
theorem dL_first_15 : decode cL_first 15 = .ok (.iconst 1, 1) := by decide +kernel
theorem dL_first_16 : decode cL_first 16 = .ok (.ireturn, 1) := by decide +kernel
theorem dL_first_17 : decode cL_first 17 = .ok (.iconst 0, 1) := by decide +kernel
theorem dL_first_18 : decode cL_first 18 = .ok (.ireturn, 1) := by decide +kernel
theorem dL_read_0 : decode cL_read 0 = .ok (.aload_n 3, 1) := by decide +kernel
theorem dL_read_1 : decode cL_read 1 = .ok (.iconst 0, 1) := by decide +kernel
theorem dL_read_2 : decode cL_read 2 = .ok (.aload_n 0, 1) := by decide +kernel
theorem dL_read_3 : decode cL_read 3 = .ok (.iload_n 1, 1) := by decide +kernel
theorem dL_read_4 : decode cL_read 4 = .ok (.iload_n 2, 1) := by decide +kernel
theorem dL_read_5 : decode cL_read 5 = .ok (.invokevirtual 56, 3) := by decide +kernel
theorem dL_read_8 : decode cL_read 8 = .ok (.i2l, 1) := by decide +kernel
theorem dL_read_9 : decode cL_read 9 = .ok (.lastore, 1) := by decide +kernel
theorem dL_read_10 : decode cL_read 10 = .ok (.goto 11, 3) := by decide +kernel
theorem dL_read_13 : decode cL_read 13 = .ok (.astore 4, 2) := by decide +kernel
theorem dL_read_15 : decode cL_read 15 = .ok (.iconst 1, 1) := by decide +kernel
theorem dL_read_16 : decode cL_read 16 = .ok (.ireturn, 1) := by decide +kernel
theorem dL_read_17 : decode cL_read 17 = .ok (.astore 4, 2) := by decide +kernel
theorem dL_read_19 : decode cL_read 19 = .ok (.iconst 2, 1) := by decide +kernel
theorem dL_read_20 : decode cL_read 20 = .ok (.ireturn, 1) := by decide +kernel
theorem dL_read_21 : decode cL_read 21 = .ok (.iconst 0, 1) := by decide +kernel
theorem dL_read_22 : decode cL_read 22 = .ok (.ireturn, 1) := by decide +kernel
theorem dL_mould_0 : decode cL_mould 0 = .ok (.aload_n 2, 1) := by decide +kernel
theorem dL_mould_1 : decode cL_mould 1 = .ok (.iconst 0, 1) := by decide +kernel
theorem dL_mould_2 : decode cL_mould 2 = .ok (.aload_n 0, 1) := by decide +kernel
theorem dL_mould_3 : decode cL_mould 3 = .ok (.iload_n 1, 1) := by decide +kernel
theorem dL_mould_4 : decode cL_mould 4 = .ok (.invokevirtual 59, 3) := by decide +kernel
theorem dL_mould_7 : decode cL_mould 7 = .ok (.i2l, 1) := by decide +kernel
theorem dL_mould_8 : decode cL_mould 8 = .ok (.lastore, 1) := by decide +kernel
theorem dL_mould_9 : decode cL_mould 9 = .ok (.goto 6, 3) := by decide +kernel
theorem dL_mould_12 : decode cL_mould 12 = .ok (.astore_n 3, 1) := by decide +kernel
theorem dL_mould_13 : decode cL_mould 13 = .ok (.iconst 1, 1) := by decide +kernel
theorem dL_mould_14 : decode cL_mould 14 = .ok (.ireturn, 1) := by decide +kernel
theorem dL_mould_15 : decode cL_mould 15 = .ok (.iconst 0, 1) := by decide +kernel
theorem dL_mould_16 : decode cL_mould 16 = .ok (.ireturn, 1) := by decide +kernel
theorem dL_meet_0 : decode cL_meet 0 = .ok (.aload_n 3, 1) := by decide +kernel
theorem dL_meet_1 : decode cL_meet 1 = .ok (.iconst 0, 1) := by decide +kernel
theorem dL_meet_2 : decode cL_meet 2 = .ok (.aload_n 0, 1) := by decide +kernel
theorem dL_meet_3 : decode cL_meet 3 = .ok (.iload_n 1, 1) := by decide +kernel
theorem dL_meet_4 : decode cL_meet 4 = .ok (.iload_n 2, 1) := by decide +kernel
theorem dL_meet_5 : decode cL_meet 5 = .ok (.invokevirtual 62, 3) := by decide +kernel
theorem dL_meet_8 : decode cL_meet 8 = .ok (.i2l, 1) := by decide +kernel
theorem dL_meet_9 : decode cL_meet 9 = .ok (.lastore, 1) := by decide +kernel
theorem dL_meet_10 : decode cL_meet 10 = .ok (.goto 7, 3) := by decide +kernel
theorem dL_meet_13 : decode cL_meet 13 = .ok (.astore 4, 2) := by decide +kernel
theorem dL_meet_15 : decode cL_meet 15 = .ok (.iconst 1, 1) := by decide +kernel
theorem dL_meet_16 : decode cL_meet 16 = .ok (.ireturn, 1) := by decide +kernel
theorem dL_meet_17 : decode cL_meet 17 = .ok (.iconst 0, 1) := by decide +kernel
theorem dL_meet_18 : decode cL_meet 18 = .ok (.ireturn, 1) := by decide +kernel
theorem dL_gathering_0 : decode cL_gathering 0 = .ok (.aload_n 2, 1) := by decide +kernel
theorem dL_gathering_1 : decode cL_gathering 1 = .ok (.iconst 0, 1) := by decide +kernel
theorem dL_gathering_2 : decode cL_gathering 2 = .ok (.aload_n 0, 1) := by decide +kernel
theorem dL_gathering_3 : decode cL_gathering 3 = .ok (.iload_n 1, 1) := by decide +kernel
theorem dL_gathering_4 : decode cL_gathering 4 = .ok (.invokevirtual 65, 3) := by decide +kernel
theorem dL_gathering_7 : decode cL_gathering 7 = .ok (.i2l, 1) := by decide +kernel
theorem dL_gathering_8 : decode cL_gathering 8 = .ok (.lastore, 1) := by decide +kernel
theorem dL_gathering_9 : decode cL_gathering 9 = .ok (.goto 6, 3) := by decide +kernel
theorem dL_gathering_12 : decode cL_gathering 12 = .ok (.astore_n 3, 1) := by decide +kernel
theorem dL_gathering_13 : decode cL_gathering 13 = .ok (.iconst 1, 1) := by decide +kernel
theorem dL_gathering_14 : decode cL_gathering 14 = .ok (.ireturn, 1) := by decide +kernel
theorem dL_gathering_15 : decode cL_gathering 15 = .ok (.iconst 0, 1) := by decide +kernel
theorem dL_gathering_16 : decode cL_gathering 16 = .ok (.ireturn, 1) := by decide +kernel
theorem dL_row_0 : decode cL_row 0 = .ok (.aload_n 2, 1) := by decide +kernel
theorem dL_row_1 : decode cL_row 1 = .ok (.iconst 0, 1) := by decide +kernel
theorem dL_row_2 : decode cL_row 2 = .ok (.aload_n 0, 1) := by decide +kernel
theorem dL_row_3 : decode cL_row 3 = .ok (.iload_n 1, 1) := by decide +kernel
theorem dL_row_4 : decode cL_row 4 = .ok (.invokevirtual 68, 3) := by decide +kernel
theorem dL_row_7 : decode cL_row 7 = .ok (.i2l, 1) := by decide +kernel
theorem dL_row_8 : decode cL_row 8 = .ok (.lastore, 1) := by decide +kernel
theorem dL_row_9 : decode cL_row 9 = .ok (.goto 6, 3) := by decide +kernel
theorem dL_row_12 : decode cL_row 12 = .ok (.astore_n 3, 1) := by decide +kernel
theorem dL_row_13 : decode cL_row 13 = .ok (.iconst 1, 1) := by decide +kernel
theorem dL_row_14 : decode cL_row 14 = .ok (.ireturn, 1) := by decide +kernel
theorem dL_row_15 : decode cL_row 15 = .ok (.iconst 0, 1) := by decide +kernel
theorem dL_row_16 : decode cL_row 16 = .ok (.ireturn, 1) := by decide +kernel
theorem dL_toForge_0 : decode cL_toForge 0 = .ok (.aload_n 3, 1) := by decide +kernel
theorem dL_toForge_1 : decode cL_toForge 1 = .ok (.iconst 0, 1) := by decide +kernel
theorem dL_toForge_2 : decode cL_toForge 2 = .ok (.aload_n 0, 1) := by decide +kernel
theorem dL_toForge_3 : decode cL_toForge 3 = .ok (.iload_n 1, 1) := by decide +kernel
theorem dL_toForge_4 : decode cL_toForge 4 = .ok (.iload_n 2, 1) := by decide +kernel
theorem dL_toForge_5 : decode cL_toForge 5 = .ok (.invokevirtual 71, 3) := by decide +kernel
theorem dL_toForge_8 : decode cL_toForge 8 = .ok (.i2l, 1) := by decide +kernel
theorem dL_toForge_9 : decode cL_toForge 9 = .ok (.lastore, 1) := by decide +kernel
theorem dL_toForge_10 : decode cL_toForge 10 = .ok (.goto 7, 3) := by decide +kernel
theorem dL_toForge_13 : decode cL_toForge 13 = .ok (.astore 4, 2) := by decide +kernel
theorem dL_toForge_15 : decode cL_toForge 15 = .ok (.iconst 1, 1) := by decide +kernel
theorem dL_toForge_16 : decode cL_toForge 16 = .ok (.ireturn, 1) := by decide +kernel
theorem dL_toForge_17 : decode cL_toForge 17 = .ok (.iconst 0, 1) := by decide +kernel
theorem dL_toForge_18 : decode cL_toForge 18 = .ok (.ireturn, 1) := by decide +kernel
theorem dL_toSave_0 : decode cL_toSave 0 = .ok (.aload_n 2, 1) := by decide +kernel
theorem dL_toSave_1 : decode cL_toSave 1 = .ok (.iconst 0, 1) := by decide +kernel
theorem dL_toSave_2 : decode cL_toSave 2 = .ok (.aload_n 0, 1) := by decide +kernel
theorem dL_toSave_3 : decode cL_toSave 3 = .ok (.iload_n 1, 1) := by decide +kernel
theorem dL_toSave_4 : decode cL_toSave 4 = .ok (.invokevirtual 74, 3) := by decide +kernel
theorem dL_toSave_7 : decode cL_toSave 7 = .ok (.i2l, 1) := by decide +kernel
theorem dL_toSave_8 : decode cL_toSave 8 = .ok (.lastore, 1) := by decide +kernel
theorem dL_toSave_9 : decode cL_toSave 9 = .ok (.goto 6, 3) := by decide +kernel
theorem dL_toSave_12 : decode cL_toSave 12 = .ok (.astore_n 3, 1) := by decide +kernel
theorem dL_toSave_13 : decode cL_toSave 13 = .ok (.iconst 1, 1) := by decide +kernel
theorem dL_toSave_14 : decode cL_toSave 14 = .ok (.ireturn, 1) := by decide +kernel
theorem dL_toSave_15 : decode cL_toSave 15 = .ok (.iconst 0, 1) := by decide +kernel
theorem dL_toSave_16 : decode cL_toSave 16 = .ok (.ireturn, 1) := by decide +kernel
theorem dL_chain_0 : decode cL_chain 0 = .ok (.aload_n 3, 1) := by decide +kernel
theorem dL_chain_1 : decode cL_chain 1 = .ok (.iconst 0, 1) := by decide +kernel
theorem dL_chain_2 : decode cL_chain 2 = .ok (.aload_n 0, 1) := by decide +kernel
theorem dL_chain_3 : decode cL_chain 3 = .ok (.iload_n 1, 1) := by decide +kernel
theorem dL_chain_4 : decode cL_chain 4 = .ok (.iload_n 2, 1) := by decide +kernel
theorem dL_chain_5 : decode cL_chain 5 = .ok (.invokevirtual 77, 3) := by decide +kernel
theorem dL_chain_8 : decode cL_chain 8 = .ok (.i2l, 1) := by decide +kernel
theorem dL_chain_9 : decode cL_chain 9 = .ok (.lastore, 1) := by decide +kernel
theorem dL_chain_10 : decode cL_chain 10 = .ok (.goto 7, 3) := by decide +kernel
theorem dL_chain_13 : decode cL_chain 13 = .ok (.astore 4, 2) := by decide +kernel
theorem dL_chain_15 : decode cL_chain 15 = .ok (.iconst 1, 1) := by decide +kernel
theorem dL_chain_16 : decode cL_chain 16 = .ok (.ireturn, 1) := by decide +kernel
theorem dL_chain_17 : decode cL_chain 17 = .ok (.iconst 0, 1) := by decide +kernel
theorem dL_chain_18 : decode cL_chain 18 = .ok (.ireturn, 1) := by decide +kernel
theorem dL_hear_0 : decode cL_hear 0 = .ok (.aload 5, 2) := by decide +kernel
theorem dL_hear_2 : decode cL_hear 2 = .ok (.iconst 0, 1) := by decide +kernel
theorem dL_hear_3 : decode cL_hear 3 = .ok (.aload_n 0, 1) := by decide +kernel
theorem dL_hear_4 : decode cL_hear 4 = .ok (.iload_n 1, 1) := by decide +kernel
theorem dL_hear_5 : decode cL_hear 5 = .ok (.iload_n 2, 1) := by decide +kernel
theorem dL_hear_6 : decode cL_hear 6 = .ok (.iload_n 3, 1) := by decide +kernel
theorem dL_hear_7 : decode cL_hear 7 = .ok (.iload 4, 2) := by decide +kernel
theorem dL_hear_9 : decode cL_hear 9 = .ok (.invokevirtual 80, 3) := by decide +kernel
theorem dL_hear_12 : decode cL_hear 12 = .ok (.i2l, 1) := by decide +kernel
theorem dL_hear_13 : decode cL_hear 13 = .ok (.lastore, 1) := by decide +kernel
theorem dL_hear_14 : decode cL_hear 14 = .ok (.goto 7, 3) := by decide +kernel
theorem dL_hear_17 : decode cL_hear 17 = .ok (.astore 6, 2) := by decide +kernel
theorem dL_hear_19 : decode cL_hear 19 = .ok (.iconst 1, 1) := by decide +kernel
theorem dL_hear_20 : decode cL_hear 20 = .ok (.ireturn, 1) := by decide +kernel
theorem dL_hear_21 : decode cL_hear 21 = .ok (.iconst 0, 1) := by decide +kernel
theorem dL_hear_22 : decode cL_hear 22 = .ok (.ireturn, 1) := by decide +kernel
theorem dL_borne_0 : decode cL_borne 0 = .ok (.aload_n 2, 1) := by decide +kernel
theorem dL_borne_1 : decode cL_borne 1 = .ok (.iconst 0, 1) := by decide +kernel
theorem dL_borne_2 : decode cL_borne 2 = .ok (.aload_n 0, 1) := by decide +kernel
theorem dL_borne_3 : decode cL_borne 3 = .ok (.iload_n 1, 1) := by decide +kernel
theorem dL_borne_4 : decode cL_borne 4 = .ok (.invokevirtual 84, 3) := by decide +kernel
theorem dL_borne_7 : decode cL_borne 7 = .ok (.i2l, 1) := by decide +kernel
theorem dL_borne_8 : decode cL_borne 8 = .ok (.lastore, 1) := by decide +kernel
theorem dL_borne_9 : decode cL_borne 9 = .ok (.goto 6, 3) := by decide +kernel
theorem dL_borne_12 : decode cL_borne 12 = .ok (.astore_n 3, 1) := by decide +kernel
theorem dL_borne_13 : decode cL_borne 13 = .ok (.iconst 1, 1) := by decide +kernel
theorem dL_borne_14 : decode cL_borne 14 = .ok (.ireturn, 1) := by decide +kernel
theorem dL_borne_15 : decode cL_borne 15 = .ok (.iconst 0, 1) := by decide +kernel
theorem dL_borne_16 : decode cL_borne 16 = .ok (.ireturn, 1) := by decide +kernel
theorem dL_ask_0 : decode cL_ask 0 = .ok (.aload_n 2, 1) := by decide +kernel
theorem dL_ask_1 : decode cL_ask 1 = .ok (.iconst 0, 1) := by decide +kernel
theorem dL_ask_2 : decode cL_ask 2 = .ok (.aload_n 0, 1) := by decide +kernel
theorem dL_ask_3 : decode cL_ask 3 = .ok (.iload_n 1, 1) := by decide +kernel
theorem dL_ask_4 : decode cL_ask 4 = .ok (.invokevirtual 87, 3) := by decide +kernel
theorem dL_ask_7 : decode cL_ask 7 = .ok (.i2l, 1) := by decide +kernel
theorem dL_ask_8 : decode cL_ask 8 = .ok (.lastore, 1) := by decide +kernel
theorem dL_ask_9 : decode cL_ask 9 = .ok (.goto 6, 3) := by decide +kernel
theorem dL_ask_12 : decode cL_ask 12 = .ok (.astore_n 3, 1) := by decide +kernel
theorem dL_ask_13 : decode cL_ask 13 = .ok (.iconst 1, 1) := by decide +kernel
theorem dL_ask_14 : decode cL_ask 14 = .ok (.ireturn, 1) := by decide +kernel
theorem dL_ask_15 : decode cL_ask 15 = .ok (.iconst 0, 1) := by decide +kernel
theorem dL_ask_16 : decode cL_ask 16 = .ok (.ireturn, 1) := by decide +kernel
theorem dL_fires_0 : decode cL_fires 0 = .ok (.aload_n 3, 1) := by decide +kernel
theorem dL_fires_1 : decode cL_fires 1 = .ok (.iconst 0, 1) := by decide +kernel
theorem dL_fires_2 : decode cL_fires 2 = .ok (.aload_n 0, 1) := by decide +kernel
theorem dL_fires_3 : decode cL_fires 3 = .ok (.iload_n 1, 1) := by decide +kernel
theorem dL_fires_4 : decode cL_fires 4 = .ok (.iload_n 2, 1) := by decide +kernel
theorem dL_fires_5 : decode cL_fires 5 = .ok (.invokevirtual 90, 3) := by decide +kernel
theorem dL_fires_8 : decode cL_fires 8 = .ok (.i2l, 1) := by decide +kernel
theorem dL_fires_9 : decode cL_fires 9 = .ok (.lastore, 1) := by decide +kernel
theorem dL_fires_10 : decode cL_fires 10 = .ok (.goto 11, 3) := by decide +kernel
theorem dL_fires_13 : decode cL_fires 13 = .ok (.astore 4, 2) := by decide +kernel
theorem dL_fires_15 : decode cL_fires 15 = .ok (.iconst 1, 1) := by decide +kernel
theorem dL_fires_16 : decode cL_fires 16 = .ok (.ireturn, 1) := by decide +kernel
theorem dL_fires_17 : decode cL_fires 17 = .ok (.astore 4, 2) := by decide +kernel
theorem dL_fires_19 : decode cL_fires 19 = .ok (.iconst 2, 1) := by decide +kernel
theorem dL_fires_20 : decode cL_fires 20 = .ok (.ireturn, 1) := by decide +kernel
theorem dL_fires_21 : decode cL_fires 21 = .ok (.iconst 0, 1) := by decide +kernel
theorem dL_fires_22 : decode cL_fires 22 = .ok (.ireturn, 1) := by decide +kernel
theorem dL_game_0 : decode cL_game 0 = .ok (.aload 4, 2) := by decide +kernel
theorem dL_game_2 : decode cL_game 2 = .ok (.iconst 0, 1) := by decide +kernel
theorem dL_game_3 : decode cL_game 3 = .ok (.aload_n 0, 1) := by decide +kernel
theorem dL_game_4 : decode cL_game 4 = .ok (.iload_n 1, 1) := by decide +kernel
theorem dL_game_5 : decode cL_game 5 = .ok (.iload_n 2, 1) := by decide +kernel
theorem dL_game_6 : decode cL_game 6 = .ok (.iload_n 3, 1) := by decide +kernel
theorem dL_game_7 : decode cL_game 7 = .ok (.invokevirtual 93, 3) := by decide +kernel
theorem dL_game_10 : decode cL_game 10 = .ok (.i2l, 1) := by decide +kernel
theorem dL_game_11 : decode cL_game 11 = .ok (.lastore, 1) := by decide +kernel
theorem dL_game_12 : decode cL_game 12 = .ok (.goto 11, 3) := by decide +kernel
theorem dL_game_15 : decode cL_game 15 = .ok (.astore 5, 2) := by decide +kernel
theorem dL_game_17 : decode cL_game 17 = .ok (.iconst 1, 1) := by decide +kernel
theorem dL_game_18 : decode cL_game 18 = .ok (.ireturn, 1) := by decide +kernel
theorem dL_game_19 : decode cL_game 19 = .ok (.astore 5, 2) := by decide +kernel
theorem dL_game_21 : decode cL_game 21 = .ok (.iconst 2, 1) := by decide +kernel
theorem dL_game_22 : decode cL_game 22 = .ok (.ireturn, 1) := by decide +kernel
theorem dL_game_23 : decode cL_game 23 = .ok (.iconst 0, 1) := by decide +kernel
theorem dL_game_24 : decode cL_game 24 = .ok (.ireturn, 1) := by decide +kernel
theorem dL_years_0 : decode cL_years 0 = .ok (.aload 4, 2) := by decide +kernel
theorem dL_years_2 : decode cL_years 2 = .ok (.iconst 0, 1) := by decide +kernel
theorem dL_years_3 : decode cL_years 3 = .ok (.aload_n 0, 1) := by decide +kernel
theorem dL_years_4 : decode cL_years 4 = .ok (.iload_n 1, 1) := by decide +kernel
theorem dL_years_5 : decode cL_years 5 = .ok (.iload_n 2, 1) := by decide +kernel
theorem dL_years_6 : decode cL_years 6 = .ok (.iload_n 3, 1) := by decide +kernel
theorem dL_years_7 : decode cL_years 7 = .ok (.invokevirtual 96, 3) := by decide +kernel
theorem dL_years_10 : decode cL_years 10 = .ok (.i2l, 1) := by decide +kernel
theorem dL_years_11 : decode cL_years 11 = .ok (.lastore, 1) := by decide +kernel
theorem dL_years_12 : decode cL_years 12 = .ok (.goto 11, 3) := by decide +kernel
theorem dL_years_15 : decode cL_years 15 = .ok (.astore 5, 2) := by decide +kernel
theorem dL_years_17 : decode cL_years 17 = .ok (.iconst 1, 1) := by decide +kernel
theorem dL_years_18 : decode cL_years 18 = .ok (.ireturn, 1) := by decide +kernel
theorem dL_years_19 : decode cL_years 19 = .ok (.astore 5, 2) := by decide +kernel
theorem dL_years_21 : decode cL_years 21 = .ok (.iconst 2, 1) := by decide +kernel
theorem dL_years_22 : decode cL_years 22 = .ok (.ireturn, 1) := by decide +kernel
theorem dL_years_23 : decode cL_years 23 = .ok (.iconst 0, 1) := by decide +kernel
theorem dL_years_24 : decode cL_years 24 = .ok (.ireturn, 1) := by decide +kernel
theorem dL_wisest_0 : decode cL_wisest 0 = .ok (.aload_n 2, 1) := by decide +kernel
theorem dL_wisest_1 : decode cL_wisest 1 = .ok (.iconst 0, 1) := by decide +kernel
theorem dL_wisest_2 : decode cL_wisest 2 = .ok (.aload_n 0, 1) := by decide +kernel
theorem dL_wisest_3 : decode cL_wisest 3 = .ok (.iload_n 1, 1) := by decide +kernel
theorem dL_wisest_4 : decode cL_wisest 4 = .ok (.invokevirtual 99, 3) := by decide +kernel
theorem dL_wisest_7 : decode cL_wisest 7 = .ok (.i2l, 1) := by decide +kernel
theorem dL_wisest_8 : decode cL_wisest 8 = .ok (.lastore, 1) := by decide +kernel
theorem dL_wisest_9 : decode cL_wisest 9 = .ok (.goto 6, 3) := by decide +kernel
theorem dL_wisest_12 : decode cL_wisest 12 = .ok (.astore_n 3, 1) := by decide +kernel
theorem dL_wisest_13 : decode cL_wisest 13 = .ok (.iconst 1, 1) := by decide +kernel
theorem dL_wisest_14 : decode cL_wisest 14 = .ok (.ireturn, 1) := by decide +kernel
theorem dL_wisest_15 : decode cL_wisest 15 = .ok (.iconst 0, 1) := by decide +kernel
theorem dL_wisest_16 : decode cL_wisest 16 = .ok (.ireturn, 1) := by decide +kernel
theorem dL_company_0 : decode cL_company 0 = .ok (.aload 4, 2) := by decide +kernel
theorem dL_company_2 : decode cL_company 2 = .ok (.iconst 0, 1) := by decide +kernel
theorem dL_company_3 : decode cL_company 3 = .ok (.aload_n 0, 1) := by decide +kernel
theorem dL_company_4 : decode cL_company 4 = .ok (.iload_n 1, 1) := by decide +kernel
theorem dL_company_5 : decode cL_company 5 = .ok (.iload_n 2, 1) := by decide +kernel
theorem dL_company_6 : decode cL_company 6 = .ok (.iload_n 3, 1) := by decide +kernel
theorem dL_company_7 : decode cL_company 7 = .ok (.invokevirtual 102, 3) := by decide +kernel
theorem dL_company_10 : decode cL_company 10 = .ok (.i2l, 1) := by decide +kernel
theorem dL_company_11 : decode cL_company 11 = .ok (.lastore, 1) := by decide +kernel
theorem dL_company_12 : decode cL_company 12 = .ok (.goto 11, 3) := by decide +kernel
theorem dL_company_15 : decode cL_company 15 = .ok (.astore 5, 2) := by decide +kernel
theorem dL_company_17 : decode cL_company 17 = .ok (.iconst 1, 1) := by decide +kernel
theorem dL_company_18 : decode cL_company 18 = .ok (.ireturn, 1) := by decide +kernel
theorem dL_company_19 : decode cL_company 19 = .ok (.astore 5, 2) := by decide +kernel
theorem dL_company_21 : decode cL_company 21 = .ok (.iconst 2, 1) := by decide +kernel
theorem dL_company_22 : decode cL_company 22 = .ok (.ireturn, 1) := by decide +kernel
theorem dL_company_23 : decode cL_company 23 = .ok (.iconst 0, 1) := by decide +kernel
theorem dL_company_24 : decode cL_company 24 = .ok (.ireturn, 1) := by decide +kernel
theorem dL_together_0 : decode cL_together 0 = .ok (.aload_n 2, 1) := by decide +kernel
theorem dL_together_1 : decode cL_together 1 = .ok (.iconst 0, 1) := by decide +kernel
theorem dL_together_2 : decode cL_together 2 = .ok (.aload_n 0, 1) := by decide +kernel
theorem dL_together_3 : decode cL_together 3 = .ok (.iload_n 1, 1) := by decide +kernel
theorem dL_together_4 : decode cL_together 4 = .ok (.invokevirtual 105, 3) := by decide +kernel
theorem dL_together_7 : decode cL_together 7 = .ok (.i2l, 1) := by decide +kernel
theorem dL_together_8 : decode cL_together 8 = .ok (.lastore, 1) := by decide +kernel
theorem dL_together_9 : decode cL_together 9 = .ok (.goto 6, 3) := by decide +kernel
theorem dL_together_12 : decode cL_together 12 = .ok (.astore_n 3, 1) := by decide +kernel
theorem dL_together_13 : decode cL_together 13 = .ok (.iconst 1, 1) := by decide +kernel
theorem dL_together_14 : decode cL_together 14 = .ok (.ireturn, 1) := by decide +kernel
theorem dL_together_15 : decode cL_together 15 = .ok (.iconst 0, 1) := by decide +kernel
theorem dL_together_16 : decode cL_together 16 = .ok (.ireturn, 1) := by decide +kernel
theorem dL_odd_0 : decode cL_odd 0 = .ok (.aload_n 2, 1) := by decide +kernel
theorem dL_odd_1 : decode cL_odd 1 = .ok (.iconst 0, 1) := by decide +kernel
theorem dL_odd_2 : decode cL_odd 2 = .ok (.aload_n 0, 1) := by decide +kernel
theorem dL_odd_3 : decode cL_odd 3 = .ok (.iload_n 1, 1) := by decide +kernel
theorem dL_odd_4 : decode cL_odd 4 = .ok (.invokevirtual 108, 3) := by decide +kernel
theorem dL_odd_7 : decode cL_odd 7 = .ok (.i2l, 1) := by decide +kernel
theorem dL_odd_8 : decode cL_odd 8 = .ok (.lastore, 1) := by decide +kernel
theorem dL_odd_9 : decode cL_odd 9 = .ok (.goto 6, 3) := by decide +kernel
theorem dL_odd_12 : decode cL_odd 12 = .ok (.astore_n 3, 1) := by decide +kernel
theorem dL_odd_13 : decode cL_odd 13 = .ok (.iconst 1, 1) := by decide +kernel
theorem dL_odd_14 : decode cL_odd 14 = .ok (.ireturn, 1) := by decide +kernel
theorem dL_odd_15 : decode cL_odd 15 = .ok (.iconst 0, 1) := by decide +kernel
theorem dL_odd_16 : decode cL_odd 16 = .ok (.ireturn, 1) := by decide +kernel
theorem dL_far_0 : decode cL_far 0 = .ok (.aload_n 3, 1) := by decide +kernel
theorem dL_far_1 : decode cL_far 1 = .ok (.iconst 0, 1) := by decide +kernel
theorem dL_far_2 : decode cL_far 2 = .ok (.aload_n 0, 1) := by decide +kernel
theorem dL_far_3 : decode cL_far 3 = .ok (.iload_n 1, 1) := by decide +kernel
theorem dL_far_4 : decode cL_far 4 = .ok (.iload_n 2, 1) := by decide +kernel
theorem dL_far_5 : decode cL_far 5 = .ok (.invokevirtual 111, 3) := by decide +kernel
theorem dL_far_8 : decode cL_far 8 = .ok (.i2l, 1) := by decide +kernel
theorem dL_far_9 : decode cL_far 9 = .ok (.lastore, 1) := by decide +kernel
theorem dL_far_10 : decode cL_far 10 = .ok (.goto 7, 3) := by decide +kernel
theorem dL_far_13 : decode cL_far 13 = .ok (.astore 4, 2) := by decide +kernel
theorem dL_far_15 : decode cL_far 15 = .ok (.iconst 1, 1) := by decide +kernel
theorem dL_far_16 : decode cL_far 16 = .ok (.ireturn, 1) := by decide +kernel
theorem dL_far_17 : decode cL_far 17 = .ok (.iconst 0, 1) := by decide +kernel
theorem dL_far_18 : decode cL_far 18 = .ok (.ireturn, 1) := by decide +kernel
theorem dL_unread_0 : decode cL_unread 0 = .ok (.aload_n 2, 1) := by decide +kernel
theorem dL_unread_1 : decode cL_unread 1 = .ok (.iconst 0, 1) := by decide +kernel
theorem dL_unread_2 : decode cL_unread 2 = .ok (.aload_n 0, 1) := by decide +kernel
theorem dL_unread_3 : decode cL_unread 3 = .ok (.iload_n 1, 1) := by decide +kernel
theorem dL_unread_4 : decode cL_unread 4 = .ok (.invokevirtual 114, 3) := by decide +kernel
theorem dL_unread_7 : decode cL_unread 7 = .ok (.i2l, 1) := by decide +kernel
theorem dL_unread_8 : decode cL_unread 8 = .ok (.lastore, 1) := by decide +kernel
theorem dL_unread_9 : decode cL_unread 9 = .ok (.goto 6, 3) := by decide +kernel
theorem dL_unread_12 : decode cL_unread 12 = .ok (.astore_n 3, 1) := by decide +kernel
theorem dL_unread_13 : decode cL_unread 13 = .ok (.iconst 1, 1) := by decide +kernel
theorem dL_unread_14 : decode cL_unread 14 = .ok (.ireturn, 1) := by decide +kernel
theorem dL_unread_15 : decode cL_unread 15 = .ok (.iconst 0, 1) := by decide +kernel
theorem dL_unread_16 : decode cL_unread 16 = .ok (.ireturn, 1) := by decide +kernel
theorem dL_heir_0 : decode cL_heir 0 = .ok (.aload_n 2, 1) := by decide +kernel
theorem dL_heir_1 : decode cL_heir 1 = .ok (.iconst 0, 1) := by decide +kernel
theorem dL_heir_2 : decode cL_heir 2 = .ok (.aload_n 0, 1) := by decide +kernel
theorem dL_heir_3 : decode cL_heir 3 = .ok (.iload_n 1, 1) := by decide +kernel
theorem dL_heir_4 : decode cL_heir 4 = .ok (.invokevirtual 117, 3) := by decide +kernel
theorem dL_heir_7 : decode cL_heir 7 = .ok (.i2l, 1) := by decide +kernel
theorem dL_heir_8 : decode cL_heir 8 = .ok (.lastore, 1) := by decide +kernel
theorem dL_heir_9 : decode cL_heir 9 = .ok (.goto 6, 3) := by decide +kernel
theorem dL_heir_12 : decode cL_heir 12 = .ok (.astore_n 3, 1) := by decide +kernel
theorem dL_heir_13 : decode cL_heir 13 = .ok (.iconst 1, 1) := by decide +kernel
theorem dL_heir_14 : decode cL_heir 14 = .ok (.ireturn, 1) := by decide +kernel
theorem dL_heir_15 : decode cL_heir 15 = .ok (.iconst 0, 1) := by decide +kernel
theorem dL_heir_16 : decode cL_heir 16 = .ok (.ireturn, 1) := by decide +kernel
theorem dL_laid_0 : decode cL_laid 0 = .ok (.aload_n 2, 1) := by decide +kernel
theorem dL_laid_1 : decode cL_laid 1 = .ok (.iconst 0, 1) := by decide +kernel
theorem dL_laid_2 : decode cL_laid 2 = .ok (.aload_n 0, 1) := by decide +kernel
theorem dL_laid_3 : decode cL_laid 3 = .ok (.iload_n 1, 1) := by decide +kernel
theorem dL_laid_4 : decode cL_laid 4 = .ok (.invokevirtual 120, 3) := by decide +kernel
theorem dL_laid_7 : decode cL_laid 7 = .ok (.i2l, 1) := by decide +kernel
theorem dL_laid_8 : decode cL_laid 8 = .ok (.lastore, 1) := by decide +kernel
theorem dL_laid_9 : decode cL_laid 9 = .ok (.goto 6, 3) := by decide +kernel
theorem dL_laid_12 : decode cL_laid 12 = .ok (.astore_n 3, 1) := by decide +kernel
theorem dL_laid_13 : decode cL_laid 13 = .ok (.iconst 1, 1) := by decide +kernel
theorem dL_laid_14 : decode cL_laid 14 = .ok (.ireturn, 1) := by decide +kernel
theorem dL_laid_15 : decode cL_laid 15 = .ok (.iconst 0, 1) := by decide +kernel
theorem dL_laid_16 : decode cL_laid 16 = .ok (.ireturn, 1) := by decide +kernel
