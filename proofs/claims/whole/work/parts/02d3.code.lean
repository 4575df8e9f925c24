theorem dMo_turn_20 : decode c_Mo_turn 20 = .ok (.istore_n 1, 1) := by decide +kernel
theorem dMo_turn_21 : decode c_Mo_turn 21 = .ok (.iload_n 1, 1) := by decide +kernel
theorem dMo_turn_22 : decode c_Mo_turn 22 = .ok (.aload_n 0, 1) := by decide +kernel
theorem dMo_turn_23 : decode c_Mo_turn 23 = .ok (.getfield 148, 3) := by decide +kernel
theorem dMo_turn_26 : decode c_Mo_turn 26 = .ok (.if_icmp .ge 21, 3) := by decide +kernel
theorem dMo_turn_29 : decode c_Mo_turn 29 = .ok (.aload_n 0, 1) := by decide +kernel
theorem dMo_turn_30 : decode c_Mo_turn 30 = .ok (.getfield 7, 3) := by decide +kernel
theorem dMo_turn_33 : decode c_Mo_turn 33 = .ok (.iload_n 1, 1) := by decide +kernel
theorem dMo_turn_34 : decode c_Mo_turn 34 = .ok (.aload_n 0, 1) := by decide +kernel
theorem dMo_turn_35 : decode c_Mo_turn 35 = .ok (.getfield 16, 3) := by decide +kernel
theorem dMo_turn_38 : decode c_Mo_turn 38 = .ok (.iload_n 1, 1) := by decide +kernel
theorem dMo_turn_39 : decode c_Mo_turn 39 = .ok (.iaload, 1) := by decide +kernel
theorem dMo_turn_40 : decode c_Mo_turn 40 = .ok (.iastore, 1) := by decide +kernel
theorem dMo_turn_41 : decode c_Mo_turn 41 = .ok (.iinc 1 1, 3) := by decide +kernel
theorem dMo_turn_44 : decode c_Mo_turn 44 = .ok (.goto (-23), 3) := by decide +kernel
theorem dMo_turn_47 : decode c_Mo_turn 47 = .ok (.aload_n 0, 1) := by decide +kernel
theorem dMo_turn_48 : decode c_Mo_turn 48 = .ok (.getfield 34, 3) := by decide +kernel
theorem dMo_turn_51 : decode c_Mo_turn 51 = .ok (.ireturn, 1) := by decide +kernel
theorem dMo_count_0 : decode c_Mo_count 0 = .ok (.aload_n 0, 1) := by decide +kernel
theorem dMo_count_1 : decode c_Mo_count 1 = .ok (.getfield 76, 3) := by decide +kernel
theorem dMo_count_4 : decode c_Mo_count 4 = .ok (.ireturn, 1) := by decide +kernel
theorem dMo_point_0 : decode c_Mo_point 0 = .ok (.iload_n 1, 1) := by decide +kernel
theorem dMo_point_1 : decode c_Mo_point 1 = .ok (.ifCond .lt 20, 3) := by decide +kernel
theorem dMo_point_4 : decode c_Mo_point 4 = .ok (.iload_n 1, 1) := by decide +kernel
theorem dMo_point_5 : decode c_Mo_point 5 = .ok (.aload_n 0, 1) := by decide +kernel
theorem dMo_point_6 : decode c_Mo_point 6 = .ok (.getfield 76, 3) := by decide +kernel
theorem dMo_point_9 : decode c_Mo_point 9 = .ok (.if_icmp .ge 12, 3) := by decide +kernel
theorem dMo_point_12 : decode c_Mo_point 12 = .ok (.aload_n 0, 1) := by decide +kernel
theorem dMo_point_13 : decode c_Mo_point 13 = .ok (.getfield 13, 3) := by decide +kernel
theorem dMo_point_16 : decode c_Mo_point 16 = .ok (.iload_n 1, 1) := by decide +kernel
theorem dMo_point_17 : decode c_Mo_point 17 = .ok (.iaload, 1) := by decide +kernel
theorem dMo_point_18 : decode c_Mo_point 18 = .ok (.goto 4, 3) := by decide +kernel
theorem dMo_point_21 : decode c_Mo_point 21 = .ok (.iconst (-1), 1) := by decide +kernel
theorem dMo_point_22 : decode c_Mo_point 22 = .ok (.ireturn, 1) := by decide +kernel
theorem dMo_length_0 : decode c_Mo_length 0 = .ok (.aload_n 0, 1) := by decide +kernel
theorem dMo_length_1 : decode c_Mo_length 1 = .ok (.getfield 148, 3) := by decide +kernel
theorem dMo_length_4 : decode c_Mo_length 4 = .ok (.ireturn, 1) := by decide +kernel
theorem dMo_out_0 : decode c_Mo_out 0 = .ok (.iload_n 1, 1) := by decide +kernel
theorem dMo_out_1 : decode c_Mo_out 1 = .ok (.ifCond .lt 20, 3) := by decide +kernel
theorem dMo_out_4 : decode c_Mo_out 4 = .ok (.iload_n 1, 1) := by decide +kernel
theorem dMo_out_5 : decode c_Mo_out 5 = .ok (.aload_n 0, 1) := by decide +kernel
theorem dMo_out_6 : decode c_Mo_out 6 = .ok (.getfield 148, 3) := by decide +kernel
theorem dMo_out_9 : decode c_Mo_out 9 = .ok (.if_icmp .ge 12, 3) := by decide +kernel
theorem dMo_out_12 : decode c_Mo_out 12 = .ok (.aload_n 0, 1) := by decide +kernel
theorem dMo_out_13 : decode c_Mo_out 13 = .ok (.getfield 16, 3) := by decide +kernel
theorem dMo_out_16 : decode c_Mo_out 16 = .ok (.iload_n 1, 1) := by decide +kernel
theorem dMo_out_17 : decode c_Mo_out 17 = .ok (.iaload, 1) := by decide +kernel
theorem dMo_out_18 : decode c_Mo_out 18 = .ok (.goto 4, 3) := by decide +kernel
theorem dMo_out_21 : decode c_Mo_out 21 = .ok (.iconst (-1), 1) := by decide +kernel
theorem dMo_out_22 : decode c_Mo_out 22 = .ok (.ireturn, 1) := by decide +kernel
theorem dMo_keep_0 : decode c_Mo_keep 0 = .ok (.aload_n 0, 1) := by decide +kernel
theorem dMo_keep_1 : decode c_Mo_keep 1 = .ok (.aload_n 0, 1) := by decide +kernel
theorem dMo_keep_2 : decode c_Mo_keep 2 = .ok (.getfield 76, 3) := by decide +kernel
theorem dMo_keep_5 : decode c_Mo_keep 5 = .ok (.putfield 169, 3) := by decide +kernel
theorem dMo_keep_8 : decode c_Mo_keep 8 = .ok (.iconst 0, 1) := by decide +kernel
theorem dMo_keep_9 : decode c_Mo_keep 9 = .ok (.istore_n 1, 1) := by decide +kernel
theorem dMo_keep_10 : decode c_Mo_keep 10 = .ok (.iload_n 1, 1) := by decide +kernel
theorem dMo_keep_11 : decode c_Mo_keep 11 = .ok (.aload_n 0, 1) := by decide +kernel
theorem dMo_keep_12 : decode c_Mo_keep 12 = .ok (.getfield 76, 3) := by decide +kernel
theorem dMo_keep_15 : decode c_Mo_keep 15 = .ok (.if_icmp .ge 21, 3) := by decide +kernel
theorem dMo_keep_18 : decode c_Mo_keep 18 = .ok (.aload_n 0, 1) := by decide +kernel
theorem dMo_keep_19 : decode c_Mo_keep 19 = .ok (.getfield 19, 3) := by decide +kernel
theorem dMo_keep_22 : decode c_Mo_keep 22 = .ok (.iload_n 1, 1) := by decide +kernel
theorem dMo_keep_23 : decode c_Mo_keep 23 = .ok (.aload_n 0, 1) := by decide +kernel
theorem dMo_keep_24 : decode c_Mo_keep 24 = .ok (.getfield 13, 3) := by decide +kernel
theorem dMo_keep_27 : decode c_Mo_keep 27 = .ok (.iload_n 1, 1) := by decide +kernel
theorem dMo_keep_28 : decode c_Mo_keep 28 = .ok (.iaload, 1) := by decide +kernel
theorem dMo_keep_29 : decode c_Mo_keep 29 = .ok (.iastore, 1) := by decide +kernel
theorem dMo_keep_30 : decode c_Mo_keep 30 = .ok (.iinc 1 1, 3) := by decide +kernel
theorem dMo_keep_33 : decode c_Mo_keep 33 = .ok (.goto (-23), 3) := by decide +kernel
theorem dMo_keep_36 : decode c_Mo_keep 36 = .ok (.return_, 1) := by decide +kernel
theorem dMo_rank_0 : decode c_Mo_rank 0 = .ok (.iload_n 0, 1) := by decide +kernel
theorem dMo_rank_1 : decode c_Mo_rank 1 = .ok (.ldc 66, 2) := by decide +kernel
theorem dMo_rank_3 : decode c_Mo_rank 3 = .ok (.if_icmp .ge 20, 3) := by decide +kernel
theorem dMo_rank_6 : decode c_Mo_rank 6 = .ok (.iload_n 0, 1) := by decide +kernel
theorem dMo_rank_7 : decode c_Mo_rank 7 = .ok (.ldc 64, 2) := by decide +kernel
theorem dMo_rank_9 : decode c_Mo_rank 9 = .ok (.if_icmp .ge 7, 3) := by decide +kernel
theorem dMo_rank_12 : decode c_Mo_rank 12 = .ok (.iload_n 0, 1) := by decide +kernel
theorem dMo_rank_13 : decode c_Mo_rank 13 = .ok (.goto 15, 3) := by decide +kernel
theorem dMo_rank_16 : decode c_Mo_rank 16 = .ok (.iload_n 0, 1) := by decide +kernel
theorem dMo_rank_17 : decode c_Mo_rank 17 = .ok (.ldc 172, 2) := by decide +kernel
theorem dMo_rank_19 : decode c_Mo_rank 19 = .ok (.iadd, 1) := by decide +kernel
theorem dMo_rank_20 : decode c_Mo_rank 20 = .ok (.goto 8, 3) := by decide +kernel
theorem dMo_rank_23 : decode c_Mo_rank 23 = .ok (.iload_n 0, 1) := by decide +kernel
theorem dMo_rank_24 : decode c_Mo_rank 24 = .ok (.sipush 10240, 3) := by decide +kernel
theorem dMo_rank_27 : decode c_Mo_rank 27 = .ok (.isub, 1) := by decide +kernel
theorem dMo_rank_28 : decode c_Mo_rank 28 = .ok (.ireturn, 1) := by decide +kernel
theorem dMo_compare_0 : decode c_Mo_compare 0 = .ok (.iconst 0, 1) := by decide +kernel
theorem dMo_compare_1 : decode c_Mo_compare 1 = .ok (.istore_n 2, 1) := by decide +kernel
theorem dMo_compare_2 : decode c_Mo_compare 2 = .ok (.iload_n 2, 1) := by decide +kernel
theorem dMo_compare_3 : decode c_Mo_compare 3 = .ok (.aload_n 0, 1) := by decide +kernel
theorem dMo_compare_4 : decode c_Mo_compare 4 = .ok (.getfield 76, 3) := by decide +kernel
theorem dMo_compare_7 : decode c_Mo_compare 7 = .ok (.if_icmp .ge 33, 3) := by decide +kernel
theorem dMo_compare_10 : decode c_Mo_compare 10 = .ok (.iload_n 2, 1) := by decide +kernel
theorem dMo_compare_11 : decode c_Mo_compare 11 = .ok (.aload_n 0, 1) := by decide +kernel
theorem dMo_compare_12 : decode c_Mo_compare 12 = .ok (.getfield 169, 3) := by decide +kernel
theorem dMo_compare_15 : decode c_Mo_compare 15 = .ok (.if_icmp .ge 25, 3) := by decide +kernel
theorem dMo_compare_18 : decode c_Mo_compare 18 = .ok (.aload_n 0, 1) := by decide +kernel
theorem dMo_compare_19 : decode c_Mo_compare 19 = .ok (.getfield 13, 3) := by decide +kernel
theorem dMo_compare_22 : decode c_Mo_compare 22 = .ok (.iload_n 2, 1) := by decide +kernel
theorem dMo_compare_23 : decode c_Mo_compare 23 = .ok (.iaload, 1) := by decide +kernel
theorem dMo_compare_24 : decode c_Mo_compare 24 = .ok (.aload_n 0, 1) := by decide +kernel
theorem dMo_compare_25 : decode c_Mo_compare 25 = .ok (.getfield 19, 3) := by decide +kernel
theorem dMo_compare_28 : decode c_Mo_compare 28 = .ok (.iload_n 2, 1) := by decide +kernel
theorem dMo_compare_29 : decode c_Mo_compare 29 = .ok (.iaload, 1) := by decide +kernel
theorem dMo_compare_30 : decode c_Mo_compare 30 = .ok (.if_icmp .ne 10, 3) := by decide +kernel
theorem dMo_compare_33 : decode c_Mo_compare 33 = .ok (.iload_n 2, 1) := by decide +kernel
theorem dMo_compare_34 : decode c_Mo_compare 34 = .ok (.iconst 1, 1) := by decide +kernel
theorem dMo_compare_35 : decode c_Mo_compare 35 = .ok (.iadd, 1) := by decide +kernel
theorem dMo_compare_36 : decode c_Mo_compare 36 = .ok (.istore_n 2, 1) := by decide +kernel
theorem dMo_compare_37 : decode c_Mo_compare 37 = .ok (.goto (-35), 3) := by decide +kernel
theorem dMo_compare_40 : decode c_Mo_compare 40 = .ok (.iload_n 2, 1) := by decide +kernel
theorem dMo_compare_41 : decode c_Mo_compare 41 = .ok (.aload_n 0, 1) := by decide +kernel
theorem dMo_compare_42 : decode c_Mo_compare 42 = .ok (.getfield 76, 3) := by decide +kernel
theorem dMo_compare_45 : decode c_Mo_compare 45 = .ok (.if_icmp .eq 11, 3) := by decide +kernel
theorem dMo_compare_48 : decode c_Mo_compare 48 = .ok (.iload_n 2, 1) := by decide +kernel
theorem dMo_compare_49 : decode c_Mo_compare 49 = .ok (.aload_n 0, 1) := by decide +kernel
theorem dMo_compare_50 : decode c_Mo_compare 50 = .ok (.getfield 169, 3) := by decide +kernel
theorem dMo_compare_53 : decode c_Mo_compare 53 = .ok (.if_icmp .ne 35, 3) := by decide +kernel
theorem dMo_compare_56 : decode c_Mo_compare 56 = .ok (.aload_n 0, 1) := by decide +kernel
theorem dMo_compare_57 : decode c_Mo_compare 57 = .ok (.getfield 76, 3) := by decide +kernel
theorem dMo_compare_60 : decode c_Mo_compare 60 = .ok (.aload_n 0, 1) := by decide +kernel
theorem dMo_compare_61 : decode c_Mo_compare 61 = .ok (.getfield 169, 3) := by decide +kernel
theorem dMo_compare_64 : decode c_Mo_compare 64 = .ok (.if_icmp .ne 7, 3) := by decide +kernel
theorem dMo_compare_67 : decode c_Mo_compare 67 = .ok (.iconst 0, 1) := by decide +kernel
theorem dMo_compare_68 : decode c_Mo_compare 68 = .ok (.goto 19, 3) := by decide +kernel
theorem dMo_compare_71 : decode c_Mo_compare 71 = .ok (.aload_n 0, 1) := by decide +kernel
theorem dMo_compare_72 : decode c_Mo_compare 72 = .ok (.getfield 76, 3) := by decide +kernel
theorem dMo_compare_75 : decode c_Mo_compare 75 = .ok (.aload_n 0, 1) := by decide +kernel
theorem dMo_compare_76 : decode c_Mo_compare 76 = .ok (.getfield 169, 3) := by decide +kernel
theorem dMo_compare_79 : decode c_Mo_compare 79 = .ok (.if_icmp .ge 7, 3) := by decide +kernel
theorem dMo_compare_82 : decode c_Mo_compare 82 = .ok (.iconst (-1), 1) := by decide +kernel
theorem dMo_compare_83 : decode c_Mo_compare 83 = .ok (.goto 4, 3) := by decide +kernel
theorem dMo_compare_86 : decode c_Mo_compare 86 = .ok (.iconst 1, 1) := by decide +kernel
theorem dMo_compare_87 : decode c_Mo_compare 87 = .ok (.ireturn, 1) := by decide +kernel
theorem dMo_compare_88 : decode c_Mo_compare 88 = .ok (.iload_n 1, 1) := by decide +kernel
theorem dMo_compare_89 : decode c_Mo_compare 89 = .ok (.ifCond .eq 15, 3) := by decide +kernel
theorem dMo_compare_92 : decode c_Mo_compare 92 = .ok (.aload_n 0, 1) := by decide +kernel
theorem dMo_compare_93 : decode c_Mo_compare 93 = .ok (.getfield 13, 3) := by decide +kernel
theorem dMo_compare_96 : decode c_Mo_compare 96 = .ok (.iload_n 2, 1) := by decide +kernel
theorem dMo_compare_97 : decode c_Mo_compare 97 = .ok (.iaload, 1) := by decide +kernel
theorem dMo_compare_98 : decode c_Mo_compare 98 = .ok (.invokestatic 173, 3) := by decide +kernel
theorem dMo_compare_101 : decode c_Mo_compare 101 = .ok (.goto 9, 3) := by decide +kernel
theorem dMo_compare_104 : decode c_Mo_compare 104 = .ok (.aload_n 0, 1) := by decide +kernel
theorem dMo_compare_105 : decode c_Mo_compare 105 = .ok (.getfield 13, 3) := by decide +kernel
theorem dMo_compare_108 : decode c_Mo_compare 108 = .ok (.iload_n 2, 1) := by decide +kernel
theorem dMo_compare_109 : decode c_Mo_compare 109 = .ok (.iaload, 1) := by decide +kernel
theorem dMo_compare_110 : decode c_Mo_compare 110 = .ok (.istore_n 3, 1) := by decide +kernel
theorem dMo_compare_111 : decode c_Mo_compare 111 = .ok (.iload_n 1, 1) := by decide +kernel
theorem dMo_compare_112 : decode c_Mo_compare 112 = .ok (.ifCond .eq 15, 3) := by decide +kernel
theorem dMo_compare_115 : decode c_Mo_compare 115 = .ok (.aload_n 0, 1) := by decide +kernel
theorem dMo_compare_116 : decode c_Mo_compare 116 = .ok (.getfield 19, 3) := by decide +kernel
theorem dMo_compare_119 : decode c_Mo_compare 119 = .ok (.iload_n 2, 1) := by decide +kernel
theorem dMo_compare_120 : decode c_Mo_compare 120 = .ok (.iaload, 1) := by decide +kernel
theorem dMo_compare_121 : decode c_Mo_compare 121 = .ok (.invokestatic 173, 3) := by decide +kernel
theorem dMo_compare_124 : decode c_Mo_compare 124 = .ok (.goto 9, 3) := by decide +kernel
theorem dMo_compare_127 : decode c_Mo_compare 127 = .ok (.aload_n 0, 1) := by decide +kernel
theorem dMo_compare_128 : decode c_Mo_compare 128 = .ok (.getfield 19, 3) := by decide +kernel
theorem dMo_compare_131 : decode c_Mo_compare 131 = .ok (.iload_n 2, 1) := by decide +kernel
theorem dMo_compare_132 : decode c_Mo_compare 132 = .ok (.iaload, 1) := by decide +kernel
theorem dMo_compare_133 : decode c_Mo_compare 133 = .ok (.istore 4, 2) := by decide +kernel
theorem dMo_compare_135 : decode c_Mo_compare 135 = .ok (.iload_n 3, 1) := by decide +kernel
theorem dMo_compare_136 : decode c_Mo_compare 136 = .ok (.iload 4, 2) := by decide +kernel
theorem dMo_compare_138 : decode c_Mo_compare 138 = .ok (.if_icmp .ge 7, 3) := by decide +kernel
theorem dMo_compare_141 : decode c_Mo_compare 141 = .ok (.iconst (-1), 1) := by decide +kernel
theorem dMo_compare_142 : decode c_Mo_compare 142 = .ok (.goto 4, 3) := by decide +kernel
theorem dMo_compare_145 : decode c_Mo_compare 145 = .ok (.iconst 1, 1) := by decide +kernel
theorem dMo_compare_146 : decode c_Mo_compare 146 = .ok (.ireturn, 1) := by decide +kernel
