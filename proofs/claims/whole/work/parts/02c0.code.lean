theorem dSc_init_0 : decode c_Sc_init 0 = .ok (.aload_n 0, 1) := by decide +kernel
theorem dSc_init_1 : decode c_Sc_init 1 = .ok (.invokespecial 1, 3) := by decide +kernel
theorem dSc_init_4 : decode c_Sc_init 4 = .ok (.aload_n 0, 1) := by decide +kernel
theorem dSc_init_5 : decode c_Sc_init 5 = .ok (.new 7, 3) := by decide +kernel
theorem dSc_init_8 : decode c_Sc_init 8 = .ok (.dup, 1) := by decide +kernel
theorem dSc_init_9 : decode c_Sc_init 9 = .ok (.bipush 120, 2) := by decide +kernel
theorem dSc_init_11 : decode c_Sc_init 11 = .ok (.invokespecial 11, 3) := by decide +kernel
theorem dSc_init_14 : decode c_Sc_init 14 = .ok (.putfield 14, 3) := by decide +kernel
theorem dSc_init_17 : decode c_Sc_init 17 = .ok (.aload_n 0, 1) := by decide +kernel
theorem dSc_init_18 : decode c_Sc_init 18 = .ok (.new 7, 3) := by decide +kernel
theorem dSc_init_21 : decode c_Sc_init 21 = .ok (.dup, 1) := by decide +kernel
theorem dSc_init_22 : decode c_Sc_init 22 = .ok (.bipush 120, 2) := by decide +kernel
theorem dSc_init_24 : decode c_Sc_init 24 = .ok (.invokespecial 11, 3) := by decide +kernel
theorem dSc_init_27 : decode c_Sc_init 27 = .ok (.putfield 18, 3) := by decide +kernel
theorem dSc_init_30 : decode c_Sc_init 30 = .ok (.aload_n 0, 1) := by decide +kernel
theorem dSc_init_31 : decode c_Sc_init 31 = .ok (.new 7, 3) := by decide +kernel
theorem dSc_init_34 : decode c_Sc_init 34 = .ok (.dup, 1) := by decide +kernel
theorem dSc_init_35 : decode c_Sc_init 35 = .ok (.sipush 400, 3) := by decide +kernel
theorem dSc_init_38 : decode c_Sc_init 38 = .ok (.invokespecial 11, 3) := by decide +kernel
theorem dSc_init_41 : decode c_Sc_init 41 = .ok (.putfield 21, 3) := by decide +kernel
theorem dSc_init_44 : decode c_Sc_init 44 = .ok (.aload_n 0, 1) := by decide +kernel
theorem dSc_init_45 : decode c_Sc_init 45 = .ok (.new 7, 3) := by decide +kernel
theorem dSc_init_48 : decode c_Sc_init 48 = .ok (.dup, 1) := by decide +kernel
theorem dSc_init_49 : decode c_Sc_init 49 = .ok (.bipush 120, 2) := by decide +kernel
theorem dSc_init_51 : decode c_Sc_init 51 = .ok (.invokespecial 11, 3) := by decide +kernel
theorem dSc_init_54 : decode c_Sc_init 54 = .ok (.putfield 24, 3) := by decide +kernel
theorem dSc_init_57 : decode c_Sc_init 57 = .ok (.aload_n 0, 1) := by decide +kernel
theorem dSc_init_58 : decode c_Sc_init 58 = .ok (.new 7, 3) := by decide +kernel
theorem dSc_init_61 : decode c_Sc_init 61 = .ok (.dup, 1) := by decide +kernel
theorem dSc_init_62 : decode c_Sc_init 62 = .ok (.bipush 120, 2) := by decide +kernel
theorem dSc_init_64 : decode c_Sc_init 64 = .ok (.invokespecial 11, 3) := by decide +kernel
theorem dSc_init_67 : decode c_Sc_init 67 = .ok (.putfield 27, 3) := by decide +kernel
theorem dSc_init_70 : decode c_Sc_init 70 = .ok (.aload_n 0, 1) := by decide +kernel
theorem dSc_init_71 : decode c_Sc_init 71 = .ok (.new 7, 3) := by decide +kernel
theorem dSc_init_74 : decode c_Sc_init 74 = .ok (.dup, 1) := by decide +kernel
theorem dSc_init_75 : decode c_Sc_init 75 = .ok (.sipush 400, 3) := by decide +kernel
theorem dSc_init_78 : decode c_Sc_init 78 = .ok (.invokespecial 11, 3) := by decide +kernel
theorem dSc_init_81 : decode c_Sc_init 81 = .ok (.putfield 30, 3) := by decide +kernel
theorem dSc_init_84 : decode c_Sc_init 84 = .ok (.aload_n 0, 1) := by decide +kernel
theorem dSc_init_85 : decode c_Sc_init 85 = .ok (.new 33, 3) := by decide +kernel
theorem dSc_init_88 : decode c_Sc_init 88 = .ok (.dup, 1) := by decide +kernel
theorem dSc_init_89 : decode c_Sc_init 89 = .ok (.invokespecial 35, 3) := by decide +kernel
theorem dSc_init_92 : decode c_Sc_init 92 = .ok (.putfield 36, 3) := by decide +kernel
theorem dSc_init_95 : decode c_Sc_init 95 = .ok (.aload_n 0, 1) := by decide +kernel
theorem dSc_init_96 : decode c_Sc_init 96 = .ok (.new 40, 3) := by decide +kernel
theorem dSc_init_99 : decode c_Sc_init 99 = .ok (.dup, 1) := by decide +kernel
theorem dSc_init_100 : decode c_Sc_init 100 = .ok (.invokespecial 42, 3) := by decide +kernel
theorem dSc_init_103 : decode c_Sc_init 103 = .ok (.putfield 43, 3) := by decide +kernel
theorem dSc_init_106 : decode c_Sc_init 106 = .ok (.aload_n 0, 1) := by decide +kernel
theorem dSc_init_107 : decode c_Sc_init 107 = .ok (.new 46, 3) := by decide +kernel
theorem dSc_init_110 : decode c_Sc_init 110 = .ok (.dup, 1) := by decide +kernel
theorem dSc_init_111 : decode c_Sc_init 111 = .ok (.invokespecial 48, 3) := by decide +kernel
theorem dSc_init_114 : decode c_Sc_init 114 = .ok (.putfield 49, 3) := by decide +kernel
theorem dSc_init_117 : decode c_Sc_init 117 = .ok (.return_, 1) := by decide +kernel
theorem dSc_feed_0 : decode c_Sc_feed 0 = .ok (.aload_n 0, 1) := by decide +kernel
theorem dSc_feed_1 : decode c_Sc_feed 1 = .ok (.getfield 14, 3) := by decide +kernel
theorem dSc_feed_4 : decode c_Sc_feed 4 = .ok (.iload_n 1, 1) := by decide +kernel
theorem dSc_feed_5 : decode c_Sc_feed 5 = .ok (.invokevirtual 53, 3) := by decide +kernel
theorem dSc_feed_8 : decode c_Sc_feed 8 = .ok (.ireturn, 1) := by decide +kernel
theorem dSc_erase_0 : decode c_Sc_erase 0 = .ok (.aload_n 0, 1) := by decide +kernel
theorem dSc_erase_1 : decode c_Sc_erase 1 = .ok (.getfield 14, 3) := by decide +kernel
theorem dSc_erase_4 : decode c_Sc_erase 4 = .ok (.getfield 57, 3) := by decide +kernel
theorem dSc_erase_7 : decode c_Sc_erase 7 = .ok (.istore_n 1, 1) := by decide +kernel
theorem dSc_erase_8 : decode c_Sc_erase 8 = .ok (.aload_n 0, 1) := by decide +kernel
theorem dSc_erase_9 : decode c_Sc_erase 9 = .ok (.getfield 14, 3) := by decide +kernel
theorem dSc_erase_12 : decode c_Sc_erase 12 = .ok (.invokevirtual 61, 3) := by decide +kernel
theorem dSc_erase_15 : decode c_Sc_erase 15 = .ok (.iload_n 1, 1) := by decide +kernel
theorem dSc_erase_16 : decode c_Sc_erase 16 = .ok (.ireturn, 1) := by decide +kernel
theorem dSc_fromEights_0 : decode c_Sc_fromEights 0 = .ok (.aload_n 0, 1) := by decide +kernel
theorem dSc_fromEights_1 : decode c_Sc_fromEights 1 = .ok (.aload_n 0, 1) := by decide +kernel
theorem dSc_fromEights_2 : decode c_Sc_fromEights 2 = .ok (.getfield 36, 3) := by decide +kernel
theorem dSc_fromEights_5 : decode c_Sc_fromEights 5 = .ok (.invokevirtual 64, 3) := by decide +kernel
theorem dSc_fromEights_8 : decode c_Sc_fromEights 8 = .ok (.ireturn, 1) := by decide +kernel
theorem dSc_fromSixteens_0 : decode c_Sc_fromSixteens 0 = .ok (.aload_n 0, 1) := by decide +kernel
theorem dSc_fromSixteens_1 : decode c_Sc_fromSixteens 1 = .ok (.aload_n 0, 1) := by decide +kernel
theorem dSc_fromSixteens_2 : decode c_Sc_fromSixteens 2 = .ok (.getfield 43, 3) := by decide +kernel
theorem dSc_fromSixteens_5 : decode c_Sc_fromSixteens 5 = .ok (.invokevirtual 64, 3) := by decide +kernel
theorem dSc_fromSixteens_8 : decode c_Sc_fromSixteens 8 = .ok (.ireturn, 1) := by decide +kernel
theorem dSc_fromLetters_0 : decode c_Sc_fromLetters 0 = .ok (.aload_n 0, 1) := by decide +kernel
theorem dSc_fromLetters_1 : decode c_Sc_fromLetters 1 = .ok (.getfield 49, 3) := by decide +kernel
theorem dSc_fromLetters_4 : decode c_Sc_fromLetters 4 = .ok (.aload_n 0, 1) := by decide +kernel
theorem dSc_fromLetters_5 : decode c_Sc_fromLetters 5 = .ok (.getfield 14, 3) := by decide +kernel
theorem dSc_fromLetters_8 : decode c_Sc_fromLetters 8 = .ok (.aload_n 0, 1) := by decide +kernel
theorem dSc_fromLetters_9 : decode c_Sc_fromLetters 9 = .ok (.getfield 27, 3) := by decide +kernel
theorem dSc_fromLetters_12 : decode c_Sc_fromLetters 12 = .ok (.invokevirtual 68, 3) := by decide +kernel
theorem dSc_fromLetters_15 : decode c_Sc_fromLetters 15 = .ok (.istore_n 1, 1) := by decide +kernel
theorem dSc_fromLetters_16 : decode c_Sc_fromLetters 16 = .ok (.iload_n 1, 1) := by decide +kernel
theorem dSc_fromLetters_17 : decode c_Sc_fromLetters 17 = .ok (.ifCond .lt 15, 3) := by decide +kernel
theorem dSc_fromLetters_20 : decode c_Sc_fromLetters 20 = .ok (.aload_n 0, 1) := by decide +kernel
theorem dSc_fromLetters_21 : decode c_Sc_fromLetters 21 = .ok (.getfield 18, 3) := by decide +kernel
theorem dSc_fromLetters_24 : decode c_Sc_fromLetters 24 = .ok (.aload_n 0, 1) := by decide +kernel
theorem dSc_fromLetters_25 : decode c_Sc_fromLetters 25 = .ok (.getfield 27, 3) := by decide +kernel
theorem dSc_fromLetters_28 : decode c_Sc_fromLetters 28 = .ok (.invokevirtual 72, 3) := by decide +kernel
theorem dSc_fromLetters_31 : decode c_Sc_fromLetters 31 = .ok (.pop, 1) := by decide +kernel
theorem dSc_fromLetters_32 : decode c_Sc_fromLetters 32 = .ok (.iload_n 1, 1) := by decide +kernel
theorem dSc_fromLetters_33 : decode c_Sc_fromLetters 33 = .ok (.ireturn, 1) := by decide +kernel
theorem dSc_mend_0 : decode c_Sc_mend 0 = .ok (.aload_n 0, 1) := by decide +kernel
theorem dSc_mend_1 : decode c_Sc_mend 1 = .ok (.iload_n 1, 1) := by decide +kernel
theorem dSc_mend_2 : decode c_Sc_mend 2 = .ok (.ifCond .eq 10, 3) := by decide +kernel
theorem dSc_mend_5 : decode c_Sc_mend 5 = .ok (.aload_n 0, 1) := by decide +kernel
theorem dSc_mend_6 : decode c_Sc_mend 6 = .ok (.getfield 36, 3) := by decide +kernel
theorem dSc_mend_9 : decode c_Sc_mend 9 = .ok (.goto 7, 3) := by decide +kernel
theorem dSc_mend_12 : decode c_Sc_mend 12 = .ok (.aload_n 0, 1) := by decide +kernel
theorem dSc_mend_13 : decode c_Sc_mend 13 = .ok (.getfield 43, 3) := by decide +kernel
theorem dSc_mend_16 : decode c_Sc_mend 16 = .ok (.invokevirtual 76, 3) := by decide +kernel
theorem dSc_mend_19 : decode c_Sc_mend 19 = .ok (.ireturn, 1) := by decide +kernel
theorem dSc_toEights_0 : decode c_Sc_toEights 0 = .ok (.aload_n 0, 1) := by decide +kernel
theorem dSc_toEights_1 : decode c_Sc_toEights 1 = .ok (.aload_n 0, 1) := by decide +kernel
theorem dSc_toEights_2 : decode c_Sc_toEights 2 = .ok (.getfield 36, 3) := by decide +kernel
theorem dSc_toEights_5 : decode c_Sc_toEights 5 = .ok (.invokevirtual 79, 3) := by decide +kernel
theorem dSc_toEights_8 : decode c_Sc_toEights 8 = .ok (.ireturn, 1) := by decide +kernel
theorem dSc_toSixteens_0 : decode c_Sc_toSixteens 0 = .ok (.aload_n 0, 1) := by decide +kernel
theorem dSc_toSixteens_1 : decode c_Sc_toSixteens 1 = .ok (.aload_n 0, 1) := by decide +kernel
theorem dSc_toSixteens_2 : decode c_Sc_toSixteens 2 = .ok (.getfield 43, 3) := by decide +kernel
theorem dSc_toSixteens_5 : decode c_Sc_toSixteens 5 = .ok (.invokevirtual 79, 3) := by decide +kernel
theorem dSc_toSixteens_8 : decode c_Sc_toSixteens 8 = .ok (.ireturn, 1) := by decide +kernel
theorem dSc_toLetters_0 : decode c_Sc_toLetters 0 = .ok (.aload_n 0, 1) := by decide +kernel
theorem dSc_toLetters_1 : decode c_Sc_toLetters 1 = .ok (.getfield 30, 3) := by decide +kernel
theorem dSc_toLetters_4 : decode c_Sc_toLetters 4 = .ok (.invokevirtual 61, 3) := by decide +kernel
theorem dSc_toLetters_7 : decode c_Sc_toLetters 7 = .ok (.aload_n 0, 1) := by decide +kernel
theorem dSc_toLetters_8 : decode c_Sc_toLetters 8 = .ok (.getfield 49, 3) := by decide +kernel
theorem dSc_toLetters_11 : decode c_Sc_toLetters 11 = .ok (.aload_n 0, 1) := by decide +kernel
theorem dSc_toLetters_12 : decode c_Sc_toLetters 12 = .ok (.getfield 18, 3) := by decide +kernel
theorem dSc_toLetters_15 : decode c_Sc_toLetters 15 = .ok (.aload_n 0, 1) := by decide +kernel
theorem dSc_toLetters_16 : decode c_Sc_toLetters 16 = .ok (.getfield 30, 3) := by decide +kernel
theorem dSc_toLetters_19 : decode c_Sc_toLetters 19 = .ok (.invokevirtual 82, 3) := by decide +kernel
theorem dSc_toLetters_22 : decode c_Sc_toLetters 22 = .ok (.ifCond .eq 10, 3) := by decide +kernel
theorem dSc_toLetters_25 : decode c_Sc_toLetters 25 = .ok (.aload_n 0, 1) := by decide +kernel
theorem dSc_toLetters_26 : decode c_Sc_toLetters 26 = .ok (.invokevirtual 86, 3) := by decide +kernel
theorem dSc_toLetters_29 : decode c_Sc_toLetters 29 = .ok (.goto 4, 3) := by decide +kernel
theorem dSc_toLetters_32 : decode c_Sc_toLetters 32 = .ok (.iconst (-1), 1) := by decide +kernel
theorem dSc_toLetters_33 : decode c_Sc_toLetters 33 = .ok (.ireturn, 1) := by decide +kernel
theorem dSc_turn_0 : decode c_Sc_turn 0 = .ok (.aload_n 0, 1) := by decide +kernel
theorem dSc_turn_1 : decode c_Sc_turn 1 = .ok (.getfield 14, 3) := by decide +kernel
theorem dSc_turn_4 : decode c_Sc_turn 4 = .ok (.aload_n 0, 1) := by decide +kernel
theorem dSc_turn_5 : decode c_Sc_turn 5 = .ok (.getfield 21, 3) := by decide +kernel
theorem dSc_turn_8 : decode c_Sc_turn 8 = .ok (.invokevirtual 72, 3) := by decide +kernel
theorem dSc_turn_11 : decode c_Sc_turn 11 = .ok (.ifCond .eq 13, 3) := by decide +kernel
theorem dSc_turn_14 : decode c_Sc_turn 14 = .ok (.aload_n 0, 1) := by decide +kernel
theorem dSc_turn_15 : decode c_Sc_turn 15 = .ok (.getfield 14, 3) := by decide +kernel
theorem dSc_turn_18 : decode c_Sc_turn 18 = .ok (.getfield 57, 3) := by decide +kernel
theorem dSc_turn_21 : decode c_Sc_turn 21 = .ok (.goto 4, 3) := by decide +kernel
theorem dSc_turn_24 : decode c_Sc_turn 24 = .ok (.iconst (-1), 1) := by decide +kernel
theorem dSc_turn_25 : decode c_Sc_turn 25 = .ok (.ireturn, 1) := by decide +kernel
theorem dSc_count_0 : decode c_Sc_count 0 = .ok (.aload_n 0, 1) := by decide +kernel
theorem dSc_count_1 : decode c_Sc_count 1 = .ok (.getfield 18, 3) := by decide +kernel
theorem dSc_count_4 : decode c_Sc_count 4 = .ok (.getfield 57, 3) := by decide +kernel
theorem dSc_count_7 : decode c_Sc_count 7 = .ok (.ireturn, 1) := by decide +kernel
theorem dSc_point_0 : decode c_Sc_point 0 = .ok (.aload_n 0, 1) := by decide +kernel
theorem dSc_point_1 : decode c_Sc_point 1 = .ok (.getfield 18, 3) := by decide +kernel
theorem dSc_point_4 : decode c_Sc_point 4 = .ok (.iload_n 1, 1) := by decide +kernel
theorem dSc_point_5 : decode c_Sc_point 5 = .ok (.invokevirtual 90, 3) := by decide +kernel
theorem dSc_point_8 : decode c_Sc_point 8 = .ok (.ireturn, 1) := by decide +kernel
theorem dSc_length_0 : decode c_Sc_length 0 = .ok (.aload_n 0, 1) := by decide +kernel
theorem dSc_length_1 : decode c_Sc_length 1 = .ok (.getfield 21, 3) := by decide +kernel
theorem dSc_length_4 : decode c_Sc_length 4 = .ok (.getfield 57, 3) := by decide +kernel
theorem dSc_length_7 : decode c_Sc_length 7 = .ok (.ireturn, 1) := by decide +kernel
theorem dSc_out_0 : decode c_Sc_out 0 = .ok (.aload_n 0, 1) := by decide +kernel
theorem dSc_out_1 : decode c_Sc_out 1 = .ok (.getfield 21, 3) := by decide +kernel
theorem dSc_out_4 : decode c_Sc_out 4 = .ok (.iload_n 1, 1) := by decide +kernel
theorem dSc_out_5 : decode c_Sc_out 5 = .ok (.invokevirtual 90, 3) := by decide +kernel
theorem dSc_out_8 : decode c_Sc_out 8 = .ok (.ireturn, 1) := by decide +kernel
theorem dSc_keep_0 : decode c_Sc_keep 0 = .ok (.aload_n 0, 1) := by decide +kernel
theorem dSc_keep_1 : decode c_Sc_keep 1 = .ok (.getfield 24, 3) := by decide +kernel
theorem dSc_keep_4 : decode c_Sc_keep 4 = .ok (.aload_n 0, 1) := by decide +kernel
theorem dSc_keep_5 : decode c_Sc_keep 5 = .ok (.getfield 18, 3) := by decide +kernel
theorem dSc_keep_8 : decode c_Sc_keep 8 = .ok (.invokevirtual 72, 3) := by decide +kernel
theorem dSc_keep_11 : decode c_Sc_keep 11 = .ok (.pop, 1) := by decide +kernel
theorem dSc_keep_12 : decode c_Sc_keep 12 = .ok (.return_, 1) := by decide +kernel
theorem dSc_compare_0 : decode c_Sc_compare 0 = .ok (.aload_n 0, 1) := by decide +kernel
theorem dSc_compare_1 : decode c_Sc_compare 1 = .ok (.getfield 18, 3) := by decide +kernel
theorem dSc_compare_4 : decode c_Sc_compare 4 = .ok (.getfield 57, 3) := by decide +kernel
theorem dSc_compare_7 : decode c_Sc_compare 7 = .ok (.aload_n 0, 1) := by decide +kernel
theorem dSc_compare_8 : decode c_Sc_compare 8 = .ok (.getfield 24, 3) := by decide +kernel
theorem dSc_compare_11 : decode c_Sc_compare 11 = .ok (.getfield 57, 3) := by decide +kernel
theorem dSc_compare_14 : decode c_Sc_compare 14 = .ok (.invokestatic 94, 3) := by decide +kernel
theorem dSc_compare_17 : decode c_Sc_compare 17 = .ok (.istore_n 2, 1) := by decide +kernel
theorem dSc_compare_18 : decode c_Sc_compare 18 = .ok (.iconst 0, 1) := by decide +kernel
theorem dSc_compare_19 : decode c_Sc_compare 19 = .ok (.istore_n 3, 1) := by decide +kernel
theorem dSc_compare_20 : decode c_Sc_compare 20 = .ok (.iload_n 3, 1) := by decide +kernel
theorem dSc_compare_21 : decode c_Sc_compare 21 = .ok (.iload_n 2, 1) := by decide +kernel
theorem dSc_compare_22 : decode c_Sc_compare 22 = .ok (.if_icmp .ge 60, 3) := by decide +kernel
theorem dSc_compare_25 : decode c_Sc_compare 25 = .ok (.aload_n 0, 1) := by decide +kernel
theorem dSc_compare_26 : decode c_Sc_compare 26 = .ok (.getfield 18, 3) := by decide +kernel
theorem dSc_compare_29 : decode c_Sc_compare 29 = .ok (.iload_n 3, 1) := by decide +kernel
theorem dSc_compare_30 : decode c_Sc_compare 30 = .ok (.invokevirtual 90, 3) := by decide +kernel
theorem dSc_compare_33 : decode c_Sc_compare 33 = .ok (.istore 4, 2) := by decide +kernel
theorem dSc_compare_35 : decode c_Sc_compare 35 = .ok (.aload_n 0, 1) := by decide +kernel
theorem dSc_compare_36 : decode c_Sc_compare 36 = .ok (.getfield 24, 3) := by decide +kernel
theorem dSc_compare_39 : decode c_Sc_compare 39 = .ok (.iload_n 3, 1) := by decide +kernel
theorem dSc_compare_40 : decode c_Sc_compare 40 = .ok (.invokevirtual 90, 3) := by decide +kernel
theorem dSc_compare_43 : decode c_Sc_compare 43 = .ok (.istore 5, 2) := by decide +kernel
theorem dSc_compare_45 : decode c_Sc_compare 45 = .ok (.iload_n 1, 1) := by decide +kernel
theorem dSc_compare_46 : decode c_Sc_compare 46 = .ok (.ifCond .eq 13, 3) := by decide +kernel
theorem dSc_compare_49 : decode c_Sc_compare 49 = .ok (.iload 4, 2) := by decide +kernel
theorem dSc_compare_51 : decode c_Sc_compare 51 = .ok (.iload 5, 2) := by decide +kernel
theorem dSc_compare_53 : decode c_Sc_compare 53 = .ok (.invokestatic 100, 3) := by decide +kernel
theorem dSc_compare_56 : decode c_Sc_compare 56 = .ok (.goto 10, 3) := by decide +kernel
theorem dSc_compare_59 : decode c_Sc_compare 59 = .ok (.iload 4, 2) := by decide +kernel
theorem dSc_compare_61 : decode c_Sc_compare 61 = .ok (.iload 5, 2) := by decide +kernel
theorem dSc_compare_63 : decode c_Sc_compare 63 = .ok (.invokestatic 103, 3) := by decide +kernel
theorem dSc_compare_66 : decode c_Sc_compare 66 = .ok (.istore 6, 2) := by decide +kernel
theorem dSc_compare_68 : decode c_Sc_compare 68 = .ok (.iload 6, 2) := by decide +kernel
theorem dSc_compare_70 : decode c_Sc_compare 70 = .ok (.ifCond .eq 6, 3) := by decide +kernel
theorem dSc_compare_73 : decode c_Sc_compare 73 = .ok (.iload 6, 2) := by decide +kernel
theorem dSc_compare_75 : decode c_Sc_compare 75 = .ok (.ireturn, 1) := by decide +kernel
theorem dSc_compare_76 : decode c_Sc_compare 76 = .ok (.iinc 3 1, 3) := by decide +kernel
theorem dSc_compare_79 : decode c_Sc_compare 79 = .ok (.goto (-59), 3) := by decide +kernel
theorem dSc_compare_82 : decode c_Sc_compare 82 = .ok (.aload_n 0, 1) := by decide +kernel
theorem dSc_compare_83 : decode c_Sc_compare 83 = .ok (.getfield 18, 3) := by decide +kernel
theorem dSc_compare_86 : decode c_Sc_compare 86 = .ok (.getfield 57, 3) := by decide +kernel
theorem dSc_compare_89 : decode c_Sc_compare 89 = .ok (.aload_n 0, 1) := by decide +kernel
theorem dSc_compare_90 : decode c_Sc_compare 90 = .ok (.getfield 24, 3) := by decide +kernel
theorem dSc_compare_93 : decode c_Sc_compare 93 = .ok (.getfield 57, 3) := by decide +kernel
theorem dSc_compare_96 : decode c_Sc_compare 96 = .ok (.invokestatic 103, 3) := by decide +kernel
theorem dSc_compare_99 : decode c_Sc_compare 99 = .ok (.ireturn, 1) := by decide +kernel
theorem dSc_readWellFormed_0 : decode c_Sc_readWellFormed 0 = .ok (.aload_n 0, 1) := by decide +kernel
theorem dSc_readWellFormed_1 : decode c_Sc_readWellFormed 1 = .ok (.getfield 27, 3) := by decide +kernel
theorem dSc_readWellFormed_4 : decode c_Sc_readWellFormed 4 = .ok (.invokevirtual 61, 3) := by decide +kernel
theorem dSc_readWellFormed_7 : decode c_Sc_readWellFormed 7 = .ok (.iconst 0, 1) := by decide +kernel
theorem dSc_readWellFormed_8 : decode c_Sc_readWellFormed 8 = .ok (.istore_n 2, 1) := by decide +kernel
theorem dSc_readWellFormed_9 : decode c_Sc_readWellFormed 9 = .ok (.iload_n 2, 1) := by decide +kernel
theorem dSc_readWellFormed_10 : decode c_Sc_readWellFormed 10 = .ok (.aload_n 0, 1) := by decide +kernel
theorem dSc_readWellFormed_11 : decode c_Sc_readWellFormed 11 = .ok (.getfield 14, 3) := by decide +kernel
theorem dSc_readWellFormed_14 : decode c_Sc_readWellFormed 14 = .ok (.getfield 57, 3) := by decide +kernel
theorem dSc_readWellFormed_17 : decode c_Sc_readWellFormed 17 = .ok (.if_icmp .ge 55, 3) := by decide +kernel
theorem dSc_readWellFormed_20 : decode c_Sc_readWellFormed 20 = .ok (.aload_n 1, 1) := by decide +kernel
theorem dSc_readWellFormed_21 : decode c_Sc_readWellFormed 21 = .ok (.aload_n 0, 1) := by decide +kernel
theorem dSc_readWellFormed_22 : decode c_Sc_readWellFormed 22 = .ok (.getfield 14, 3) := by decide +kernel
theorem dSc_readWellFormed_25 : decode c_Sc_readWellFormed 25 = .ok (.iload_n 2, 1) := by decide +kernel
theorem dSc_readWellFormed_26 : decode c_Sc_readWellFormed 26 = .ok (.invokevirtual 106, 3) := by decide +kernel
theorem dSc_readWellFormed_29 : decode c_Sc_readWellFormed 29 = .ok (.aload_n 1, 1) := by decide +kernel
theorem dSc_readWellFormed_30 : decode c_Sc_readWellFormed 30 = .ok (.getfield 112, 3) := by decide +kernel
theorem dSc_readWellFormed_33 : decode c_Sc_readWellFormed 33 = .ok (.iconst (-1), 1) := by decide +kernel
theorem dSc_readWellFormed_34 : decode c_Sc_readWellFormed 34 = .ok (.if_icmp .ne 12, 3) := by decide +kernel
theorem dSc_readWellFormed_37 : decode c_Sc_readWellFormed 37 = .ok (.iconst (-1), 1) := by decide +kernel
theorem dSc_readWellFormed_38 : decode c_Sc_readWellFormed 38 = .ok (.iload_n 2, 1) := by decide +kernel
theorem dSc_readWellFormed_39 : decode c_Sc_readWellFormed 39 = .ok (.aload_n 1, 1) := by decide +kernel
theorem dSc_readWellFormed_40 : decode c_Sc_readWellFormed 40 = .ok (.getfield 115, 3) := by decide +kernel
theorem dSc_readWellFormed_43 : decode c_Sc_readWellFormed 43 = .ok (.iadd, 1) := by decide +kernel
theorem dSc_readWellFormed_44 : decode c_Sc_readWellFormed 44 = .ok (.isub, 1) := by decide +kernel
theorem dSc_readWellFormed_45 : decode c_Sc_readWellFormed 45 = .ok (.ireturn, 1) := by decide +kernel
theorem dSc_readWellFormed_46 : decode c_Sc_readWellFormed 46 = .ok (.aload_n 0, 1) := by decide +kernel
theorem dSc_readWellFormed_47 : decode c_Sc_readWellFormed 47 = .ok (.getfield 27, 3) := by decide +kernel
theorem dSc_readWellFormed_50 : decode c_Sc_readWellFormed 50 = .ok (.aload_n 1, 1) := by decide +kernel
theorem dSc_readWellFormed_51 : decode c_Sc_readWellFormed 51 = .ok (.getfield 112, 3) := by decide +kernel
theorem dSc_readWellFormed_54 : decode c_Sc_readWellFormed 54 = .ok (.invokevirtual 53, 3) := by decide +kernel
theorem dSc_readWellFormed_57 : decode c_Sc_readWellFormed 57 = .ok (.pop, 1) := by decide +kernel
theorem dSc_readWellFormed_58 : decode c_Sc_readWellFormed 58 = .ok (.iload_n 2, 1) := by decide +kernel
theorem dSc_readWellFormed_59 : decode c_Sc_readWellFormed 59 = .ok (.iconst 1, 1) := by decide +kernel
theorem dSc_readWellFormed_60 : decode c_Sc_readWellFormed 60 = .ok (.aload_n 1, 1) := by decide +kernel
theorem dSc_readWellFormed_61 : decode c_Sc_readWellFormed 61 = .ok (.getfield 115, 3) := by decide +kernel
theorem dSc_readWellFormed_64 : decode c_Sc_readWellFormed 64 = .ok (.invokestatic 118, 3) := by decide +kernel
theorem dSc_readWellFormed_67 : decode c_Sc_readWellFormed 67 = .ok (.iadd, 1) := by decide +kernel
theorem dSc_readWellFormed_68 : decode c_Sc_readWellFormed 68 = .ok (.istore_n 2, 1) := by decide +kernel
theorem dSc_readWellFormed_69 : decode c_Sc_readWellFormed 69 = .ok (.goto (-60), 3) := by decide +kernel
theorem dSc_readWellFormed_72 : decode c_Sc_readWellFormed 72 = .ok (.aload_n 0, 1) := by decide +kernel
theorem dSc_readWellFormed_73 : decode c_Sc_readWellFormed 73 = .ok (.getfield 18, 3) := by decide +kernel
theorem dSc_readWellFormed_76 : decode c_Sc_readWellFormed 76 = .ok (.aload_n 0, 1) := by decide +kernel
theorem dSc_readWellFormed_77 : decode c_Sc_readWellFormed 77 = .ok (.getfield 27, 3) := by decide +kernel
theorem dSc_readWellFormed_80 : decode c_Sc_readWellFormed 80 = .ok (.invokevirtual 72, 3) := by decide +kernel
theorem dSc_readWellFormed_83 : decode c_Sc_readWellFormed 83 = .ok (.pop, 1) := by decide +kernel
theorem dSc_readWellFormed_84 : decode c_Sc_readWellFormed 84 = .ok (.aload_n 0, 1) := by decide +kernel
theorem dSc_readWellFormed_85 : decode c_Sc_readWellFormed 85 = .ok (.getfield 18, 3) := by decide +kernel
theorem dSc_readWellFormed_88 : decode c_Sc_readWellFormed 88 = .ok (.getfield 57, 3) := by decide +kernel
theorem dSc_readWellFormed_91 : decode c_Sc_readWellFormed 91 = .ok (.ireturn, 1) := by decide +kernel
theorem dSc_readMending_0 : decode c_Sc_readMending 0 = .ok (.aload_n 0, 1) := by decide +kernel
theorem dSc_readMending_1 : decode c_Sc_readMending 1 = .ok (.getfield 18, 3) := by decide +kernel
theorem dSc_readMending_4 : decode c_Sc_readMending 4 = .ok (.invokevirtual 61, 3) := by decide +kernel
theorem dSc_readMending_7 : decode c_Sc_readMending 7 = .ok (.iconst 0, 1) := by decide +kernel
theorem dSc_readMending_8 : decode c_Sc_readMending 8 = .ok (.istore_n 2, 1) := by decide +kernel
theorem dSc_readMending_9 : decode c_Sc_readMending 9 = .ok (.iconst 0, 1) := by decide +kernel
theorem dSc_readMending_10 : decode c_Sc_readMending 10 = .ok (.istore_n 3, 1) := by decide +kernel
theorem dSc_readMending_11 : decode c_Sc_readMending 11 = .ok (.iload_n 3, 1) := by decide +kernel
theorem dSc_readMending_12 : decode c_Sc_readMending 12 = .ok (.aload_n 0, 1) := by decide +kernel
theorem dSc_readMending_13 : decode c_Sc_readMending 13 = .ok (.getfield 14, 3) := by decide +kernel
theorem dSc_readMending_16 : decode c_Sc_readMending 16 = .ok (.getfield 57, 3) := by decide +kernel
theorem dSc_readMending_19 : decode c_Sc_readMending 19 = .ok (.if_icmp .ge 62, 3) := by decide +kernel
theorem dSc_readMending_22 : decode c_Sc_readMending 22 = .ok (.aload_n 1, 1) := by decide +kernel
theorem dSc_readMending_23 : decode c_Sc_readMending 23 = .ok (.aload_n 0, 1) := by decide +kernel
theorem dSc_readMending_24 : decode c_Sc_readMending 24 = .ok (.getfield 14, 3) := by decide +kernel
theorem dSc_readMending_27 : decode c_Sc_readMending 27 = .ok (.iload_n 3, 1) := by decide +kernel
theorem dSc_readMending_28 : decode c_Sc_readMending 28 = .ok (.invokevirtual 106, 3) := by decide +kernel
theorem dSc_readMending_31 : decode c_Sc_readMending 31 = .ok (.aload_n 1, 1) := by decide +kernel
theorem dSc_readMending_32 : decode c_Sc_readMending 32 = .ok (.getfield 112, 3) := by decide +kernel
theorem dSc_readMending_35 : decode c_Sc_readMending 35 = .ok (.iconst (-1), 1) := by decide +kernel
theorem dSc_readMending_36 : decode c_Sc_readMending 36 = .ok (.if_icmp .ne 19, 3) := by decide +kernel
theorem dSc_readMending_39 : decode c_Sc_readMending 39 = .ok (.aload_n 0, 1) := by decide +kernel
theorem dSc_readMending_40 : decode c_Sc_readMending 40 = .ok (.getfield 18, 3) := by decide +kernel
theorem dSc_readMending_43 : decode c_Sc_readMending 43 = .ok (.ldc 121, 2) := by decide +kernel
theorem dSc_readMending_45 : decode c_Sc_readMending 45 = .ok (.invokevirtual 53, 3) := by decide +kernel
theorem dSc_readMending_48 : decode c_Sc_readMending 48 = .ok (.pop, 1) := by decide +kernel
theorem dSc_readMending_49 : decode c_Sc_readMending 49 = .ok (.iinc 2 1, 3) := by decide +kernel
theorem dSc_readMending_52 : decode c_Sc_readMending 52 = .ok (.goto 15, 3) := by decide +kernel
theorem dSc_readMending_55 : decode c_Sc_readMending 55 = .ok (.aload_n 0, 1) := by decide +kernel
theorem dSc_readMending_56 : decode c_Sc_readMending 56 = .ok (.getfield 18, 3) := by decide +kernel
theorem dSc_readMending_59 : decode c_Sc_readMending 59 = .ok (.aload_n 1, 1) := by decide +kernel
theorem dSc_readMending_60 : decode c_Sc_readMending 60 = .ok (.getfield 112, 3) := by decide +kernel
theorem dSc_readMending_63 : decode c_Sc_readMending 63 = .ok (.invokevirtual 53, 3) := by decide +kernel
theorem dSc_readMending_66 : decode c_Sc_readMending 66 = .ok (.pop, 1) := by decide +kernel
theorem dSc_readMending_67 : decode c_Sc_readMending 67 = .ok (.iload_n 3, 1) := by decide +kernel
theorem dSc_readMending_68 : decode c_Sc_readMending 68 = .ok (.iconst 1, 1) := by decide +kernel
theorem dSc_readMending_69 : decode c_Sc_readMending 69 = .ok (.aload_n 1, 1) := by decide +kernel
theorem dSc_readMending_70 : decode c_Sc_readMending 70 = .ok (.getfield 115, 3) := by decide +kernel
theorem dSc_readMending_73 : decode c_Sc_readMending 73 = .ok (.invokestatic 118, 3) := by decide +kernel
theorem dSc_readMending_76 : decode c_Sc_readMending 76 = .ok (.iadd, 1) := by decide +kernel
theorem dSc_readMending_77 : decode c_Sc_readMending 77 = .ok (.istore_n 3, 1) := by decide +kernel
theorem dSc_readMending_78 : decode c_Sc_readMending 78 = .ok (.goto (-67), 3) := by decide +kernel
theorem dSc_readMending_81 : decode c_Sc_readMending 81 = .ok (.iload_n 2, 1) := by decide +kernel
theorem dSc_readMending_82 : decode c_Sc_readMending 82 = .ok (.ireturn, 1) := by decide +kernel
theorem dSc_writeList_0 : decode c_Sc_writeList 0 = .ok (.aload_n 0, 1) := by decide +kernel
theorem dSc_writeList_1 : decode c_Sc_writeList 1 = .ok (.getfield 30, 3) := by decide +kernel
theorem dSc_writeList_4 : decode c_Sc_writeList 4 = .ok (.invokevirtual 61, 3) := by decide +kernel
theorem dSc_writeList_7 : decode c_Sc_writeList 7 = .ok (.iconst 0, 1) := by decide +kernel
theorem dSc_writeList_8 : decode c_Sc_writeList 8 = .ok (.istore_n 2, 1) := by decide +kernel
theorem dSc_writeList_9 : decode c_Sc_writeList 9 = .ok (.iload_n 2, 1) := by decide +kernel
theorem dSc_writeList_10 : decode c_Sc_writeList 10 = .ok (.aload_n 0, 1) := by decide +kernel
theorem dSc_writeList_11 : decode c_Sc_writeList 11 = .ok (.getfield 18, 3) := by decide +kernel
theorem dSc_writeList_14 : decode c_Sc_writeList 14 = .ok (.getfield 57, 3) := by decide +kernel
theorem dSc_writeList_17 : decode c_Sc_writeList 17 = .ok (.if_icmp .ge 30, 3) := by decide +kernel
theorem dSc_writeList_20 : decode c_Sc_writeList 20 = .ok (.aload_n 1, 1) := by decide +kernel
theorem dSc_writeList_21 : decode c_Sc_writeList 21 = .ok (.aload_n 0, 1) := by decide +kernel
theorem dSc_writeList_22 : decode c_Sc_writeList 22 = .ok (.getfield 18, 3) := by decide +kernel
theorem dSc_writeList_25 : decode c_Sc_writeList 25 = .ok (.iload_n 2, 1) := by decide +kernel
theorem dSc_writeList_26 : decode c_Sc_writeList 26 = .ok (.invokevirtual 90, 3) := by decide +kernel
theorem dSc_writeList_29 : decode c_Sc_writeList 29 = .ok (.aload_n 0, 1) := by decide +kernel
theorem dSc_writeList_30 : decode c_Sc_writeList 30 = .ok (.getfield 30, 3) := by decide +kernel
theorem dSc_writeList_33 : decode c_Sc_writeList 33 = .ok (.invokevirtual 122, 3) := by decide +kernel
theorem dSc_writeList_36 : decode c_Sc_writeList 36 = .ok (.ifCond .ne 5, 3) := by decide +kernel
theorem dSc_writeList_39 : decode c_Sc_writeList 39 = .ok (.iconst (-1), 1) := by decide +kernel
theorem dSc_writeList_40 : decode c_Sc_writeList 40 = .ok (.ireturn, 1) := by decide +kernel
theorem dSc_writeList_41 : decode c_Sc_writeList 41 = .ok (.iinc 2 1, 3) := by decide +kernel
theorem dSc_writeList_44 : decode c_Sc_writeList 44 = .ok (.goto (-35), 3) := by decide +kernel
theorem dSc_writeList_47 : decode c_Sc_writeList 47 = .ok (.aload_n 0, 1) := by decide +kernel
theorem dSc_writeList_48 : decode c_Sc_writeList 48 = .ok (.invokevirtual 86, 3) := by decide +kernel
theorem dSc_writeList_51 : decode c_Sc_writeList 51 = .ok (.ireturn, 1) := by decide +kernel
theorem dSc_takeNewOutput_0 : decode c_Sc_takeNewOutput 0 = .ok (.aload_n 0, 1) := by decide +kernel
theorem dSc_takeNewOutput_1 : decode c_Sc_takeNewOutput 1 = .ok (.getfield 21, 3) := by decide +kernel
theorem dSc_takeNewOutput_4 : decode c_Sc_takeNewOutput 4 = .ok (.aload_n 0, 1) := by decide +kernel
theorem dSc_takeNewOutput_5 : decode c_Sc_takeNewOutput 5 = .ok (.getfield 30, 3) := by decide +kernel
theorem dSc_takeNewOutput_8 : decode c_Sc_takeNewOutput 8 = .ok (.invokevirtual 72, 3) := by decide +kernel
theorem dSc_takeNewOutput_11 : decode c_Sc_takeNewOutput 11 = .ok (.pop, 1) := by decide +kernel
theorem dSc_takeNewOutput_12 : decode c_Sc_takeNewOutput 12 = .ok (.aload_n 0, 1) := by decide +kernel
theorem dSc_takeNewOutput_13 : decode c_Sc_takeNewOutput 13 = .ok (.getfield 21, 3) := by decide +kernel
theorem dSc_takeNewOutput_16 : decode c_Sc_takeNewOutput 16 = .ok (.getfield 57, 3) := by decide +kernel
theorem dSc_takeNewOutput_19 : decode c_Sc_takeNewOutput 19 = .ok (.ireturn, 1) := by decide +kernel
theorem dSc_orderOf_0 : decode c_Sc_orderOf 0 = .ok (.iload_n 0, 1) := by decide +kernel
theorem dSc_orderOf_1 : decode c_Sc_orderOf 1 = .ok (.iload_n 1, 1) := by decide +kernel
theorem dSc_orderOf_2 : decode c_Sc_orderOf 2 = .ok (.if_icmp .ne 5, 3) := by decide +kernel
theorem dSc_orderOf_5 : decode c_Sc_orderOf 5 = .ok (.iconst 0, 1) := by decide +kernel
theorem dSc_orderOf_6 : decode c_Sc_orderOf 6 = .ok (.ireturn, 1) := by decide +kernel
theorem dSc_orderOf_7 : decode c_Sc_orderOf 7 = .ok (.iload_n 0, 1) := by decide +kernel
theorem dSc_orderOf_8 : decode c_Sc_orderOf 8 = .ok (.iload_n 1, 1) := by decide +kernel
theorem dSc_orderOf_9 : decode c_Sc_orderOf 9 = .ok (.if_icmp .ge 7, 3) := by decide +kernel
theorem dSc_orderOf_12 : decode c_Sc_orderOf 12 = .ok (.iconst (-1), 1) := by decide +kernel
theorem dSc_orderOf_13 : decode c_Sc_orderOf 13 = .ok (.goto 4, 3) := by decide +kernel
theorem dSc_orderOf_16 : decode c_Sc_orderOf 16 = .ok (.iconst 1, 1) := by decide +kernel
theorem dSc_orderOf_17 : decode c_Sc_orderOf 17 = .ok (.ireturn, 1) := by decide +kernel
theorem dSc_orderBySixteens_0 : decode c_Sc_orderBySixteens 0 = .ok (.iload_n 0, 1) := by decide +kernel
theorem dSc_orderBySixteens_1 : decode c_Sc_orderBySixteens 1 = .ok (.invokestatic 126, 3) := by decide +kernel
theorem dSc_orderBySixteens_4 : decode c_Sc_orderBySixteens 4 = .ok (.iload_n 1, 1) := by decide +kernel
theorem dSc_orderBySixteens_5 : decode c_Sc_orderBySixteens 5 = .ok (.invokestatic 126, 3) := by decide +kernel
theorem dSc_orderBySixteens_8 : decode c_Sc_orderBySixteens 8 = .ok (.invokestatic 103, 3) := by decide +kernel
theorem dSc_orderBySixteens_11 : decode c_Sc_orderBySixteens 11 = .ok (.istore_n 2, 1) := by decide +kernel
theorem dSc_orderBySixteens_12 : decode c_Sc_orderBySixteens 12 = .ok (.iload_n 2, 1) := by decide +kernel
theorem dSc_orderBySixteens_13 : decode c_Sc_orderBySixteens 13 = .ok (.ifCond .eq 7, 3) := by decide +kernel
theorem dSc_orderBySixteens_16 : decode c_Sc_orderBySixteens 16 = .ok (.iload_n 2, 1) := by decide +kernel
theorem dSc_orderBySixteens_17 : decode c_Sc_orderBySixteens 17 = .ok (.goto 8, 3) := by decide +kernel
theorem dSc_orderBySixteens_20 : decode c_Sc_orderBySixteens 20 = .ok (.iload_n 0, 1) := by decide +kernel
theorem dSc_orderBySixteens_21 : decode c_Sc_orderBySixteens 21 = .ok (.iload_n 1, 1) := by decide +kernel
theorem dSc_orderBySixteens_22 : decode c_Sc_orderBySixteens 22 = .ok (.invokestatic 103, 3) := by decide +kernel
theorem dSc_orderBySixteens_25 : decode c_Sc_orderBySixteens 25 = .ok (.ireturn, 1) := by decide +kernel
theorem dSc_isScalar_0 : decode c_Sc_isScalar 0 = .ok (.iload_n 0, 1) := by decide +kernel
theorem dSc_isScalar_1 : decode c_Sc_isScalar 1 = .ok (.ldc 129, 2) := by decide +kernel
theorem dSc_isScalar_3 : decode c_Sc_isScalar 3 = .ok (.if_icmp .lt 13, 3) := by decide +kernel
theorem dSc_isScalar_6 : decode c_Sc_isScalar 6 = .ok (.iload_n 0, 1) := by decide +kernel
theorem dSc_isScalar_7 : decode c_Sc_isScalar 7 = .ok (.ldc 130, 2) := by decide +kernel
theorem dSc_isScalar_9 : decode c_Sc_isScalar 9 = .ok (.if_icmp .gt 7, 3) := by decide +kernel
theorem dSc_isScalar_12 : decode c_Sc_isScalar 12 = .ok (.iconst 1, 1) := by decide +kernel
theorem dSc_isScalar_13 : decode c_Sc_isScalar 13 = .ok (.goto 4, 3) := by decide +kernel
theorem dSc_isScalar_16 : decode c_Sc_isScalar 16 = .ok (.iconst 0, 1) := by decide +kernel
theorem dSc_isScalar_17 : decode c_Sc_isScalar 17 = .ok (.istore_n 1, 1) := by decide +kernel
theorem dSc_isScalar_18 : decode c_Sc_isScalar 18 = .ok (.iload_n 0, 1) := by decide +kernel
theorem dSc_isScalar_19 : decode c_Sc_isScalar 19 = .ok (.ifCond .lt 17, 3) := by decide +kernel
theorem dSc_isScalar_22 : decode c_Sc_isScalar 22 = .ok (.iload_n 0, 1) := by decide +kernel
theorem dSc_isScalar_23 : decode c_Sc_isScalar 23 = .ok (.ldc 131, 2) := by decide +kernel
theorem dSc_isScalar_25 : decode c_Sc_isScalar 25 = .ok (.if_icmp .gt 11, 3) := by decide +kernel
theorem dSc_isScalar_28 : decode c_Sc_isScalar 28 = .ok (.iload_n 1, 1) := by decide +kernel
theorem dSc_isScalar_29 : decode c_Sc_isScalar 29 = .ok (.ifCond .ne 7, 3) := by decide +kernel
theorem dSc_isScalar_32 : decode c_Sc_isScalar 32 = .ok (.iconst 1, 1) := by decide +kernel
theorem dSc_isScalar_33 : decode c_Sc_isScalar 33 = .ok (.goto 4, 3) := by decide +kernel
theorem dSc_isScalar_36 : decode c_Sc_isScalar 36 = .ok (.iconst 0, 1) := by decide +kernel
theorem dSc_isScalar_37 : decode c_Sc_isScalar 37 = .ok (.ireturn, 1) := by decide +kernel
