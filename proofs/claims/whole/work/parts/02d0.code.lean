theorem dMo_init_0 : decode c_Mo_init 0 = .ok (.aload_n 0, 1) := by decide +kernel
theorem dMo_init_1 : decode c_Mo_init 1 = .ok (.invokespecial 1, 3) := by decide +kernel
theorem dMo_init_4 : decode c_Mo_init 4 = .ok (.aload_n 0, 1) := by decide +kernel
theorem dMo_init_5 : decode c_Mo_init 5 = .ok (.bipush 120, 2) := by decide +kernel
theorem dMo_init_7 : decode c_Mo_init 7 = .ok (.newarray .int, 2) := by decide +kernel
theorem dMo_init_9 : decode c_Mo_init 9 = .ok (.putfield 7, 3) := by decide +kernel
theorem dMo_init_12 : decode c_Mo_init 12 = .ok (.aload_n 0, 1) := by decide +kernel
theorem dMo_init_13 : decode c_Mo_init 13 = .ok (.bipush 120, 2) := by decide +kernel
theorem dMo_init_15 : decode c_Mo_init 15 = .ok (.newarray .int, 2) := by decide +kernel
theorem dMo_init_17 : decode c_Mo_init 17 = .ok (.putfield 13, 3) := by decide +kernel
theorem dMo_init_20 : decode c_Mo_init 20 = .ok (.aload_n 0, 1) := by decide +kernel
theorem dMo_init_21 : decode c_Mo_init 21 = .ok (.sipush 400, 3) := by decide +kernel
theorem dMo_init_24 : decode c_Mo_init 24 = .ok (.newarray .int, 2) := by decide +kernel
theorem dMo_init_26 : decode c_Mo_init 26 = .ok (.putfield 16, 3) := by decide +kernel
theorem dMo_init_29 : decode c_Mo_init 29 = .ok (.aload_n 0, 1) := by decide +kernel
theorem dMo_init_30 : decode c_Mo_init 30 = .ok (.bipush 120, 2) := by decide +kernel
theorem dMo_init_32 : decode c_Mo_init 32 = .ok (.newarray .int, 2) := by decide +kernel
theorem dMo_init_34 : decode c_Mo_init 34 = .ok (.putfield 19, 3) := by decide +kernel
theorem dMo_init_37 : decode c_Mo_init 37 = .ok (.aload_n 0, 1) := by decide +kernel
theorem dMo_init_38 : decode c_Mo_init 38 = .ok (.bipush 121, 2) := by decide +kernel
theorem dMo_init_40 : decode c_Mo_init 40 = .ok (.newarray .int, 2) := by decide +kernel
theorem dMo_init_42 : decode c_Mo_init 42 = .ok (.putfield 22, 3) := by decide +kernel
theorem dMo_init_45 : decode c_Mo_init 45 = .ok (.aload_n 0, 1) := by decide +kernel
theorem dMo_init_46 : decode c_Mo_init 46 = .ok (.sipush 1000, 3) := by decide +kernel
theorem dMo_init_49 : decode c_Mo_init 49 = .ok (.newarray .int, 2) := by decide +kernel
theorem dMo_init_51 : decode c_Mo_init 51 = .ok (.putfield 25, 3) := by decide +kernel
theorem dMo_init_54 : decode c_Mo_init 54 = .ok (.return_, 1) := by decide +kernel
theorem dMo_isIn_0 : decode c_Mo_isIn 0 = .ok (.iload_n 0, 1) := by decide +kernel
theorem dMo_isIn_1 : decode c_Mo_isIn 1 = .ok (.iload_n 1, 1) := by decide +kernel
theorem dMo_isIn_2 : decode c_Mo_isIn 2 = .ok (.if_icmp .lt 12, 3) := by decide +kernel
theorem dMo_isIn_5 : decode c_Mo_isIn 5 = .ok (.iload_n 0, 1) := by decide +kernel
theorem dMo_isIn_6 : decode c_Mo_isIn 6 = .ok (.iload_n 2, 1) := by decide +kernel
theorem dMo_isIn_7 : decode c_Mo_isIn 7 = .ok (.if_icmp .gt 7, 3) := by decide +kernel
theorem dMo_isIn_10 : decode c_Mo_isIn 10 = .ok (.iconst 1, 1) := by decide +kernel
theorem dMo_isIn_11 : decode c_Mo_isIn 11 = .ok (.goto 4, 3) := by decide +kernel
theorem dMo_isIn_14 : decode c_Mo_isIn 14 = .ok (.iconst 0, 1) := by decide +kernel
theorem dMo_isIn_15 : decode c_Mo_isIn 15 = .ok (.ireturn, 1) := by decide +kernel
theorem dMo_isScalar_0 : decode c_Mo_isScalar 0 = .ok (.lload_n 0, 1) := by decide +kernel
theorem dMo_isScalar_1 : decode c_Mo_isScalar 1 = .ok (.lconst 0, 1) := by decide +kernel
theorem dMo_isScalar_2 : decode c_Mo_isScalar 2 = .ok (.lcmp, 1) := by decide +kernel
theorem dMo_isScalar_3 : decode c_Mo_isScalar 3 = .ok (.ifCond .lt 31, 3) := by decide +kernel
theorem dMo_isScalar_6 : decode c_Mo_isScalar 6 = .ok (.lload_n 0, 1) := by decide +kernel
theorem dMo_isScalar_7 : decode c_Mo_isScalar 7 = .ok (.ldc2_w 28, 3) := by decide +kernel
theorem dMo_isScalar_10 : decode c_Mo_isScalar 10 = .ok (.lcmp, 1) := by decide +kernel
theorem dMo_isScalar_11 : decode c_Mo_isScalar 11 = .ok (.ifCond .gt 23, 3) := by decide +kernel
theorem dMo_isScalar_14 : decode c_Mo_isScalar 14 = .ok (.lload_n 0, 1) := by decide +kernel
theorem dMo_isScalar_15 : decode c_Mo_isScalar 15 = .ok (.ldc2_w 30, 3) := by decide +kernel
theorem dMo_isScalar_18 : decode c_Mo_isScalar 18 = .ok (.lcmp, 1) := by decide +kernel
theorem dMo_isScalar_19 : decode c_Mo_isScalar 19 = .ok (.ifCond .lt 11, 3) := by decide +kernel
theorem dMo_isScalar_22 : decode c_Mo_isScalar 22 = .ok (.lload_n 0, 1) := by decide +kernel
theorem dMo_isScalar_23 : decode c_Mo_isScalar 23 = .ok (.ldc2_w 32, 3) := by decide +kernel
theorem dMo_isScalar_26 : decode c_Mo_isScalar 26 = .ok (.lcmp, 1) := by decide +kernel
theorem dMo_isScalar_27 : decode c_Mo_isScalar 27 = .ok (.ifCond .le 7, 3) := by decide +kernel
theorem dMo_isScalar_30 : decode c_Mo_isScalar 30 = .ok (.iconst 1, 1) := by decide +kernel
theorem dMo_isScalar_31 : decode c_Mo_isScalar 31 = .ok (.goto 4, 3) := by decide +kernel
theorem dMo_isScalar_34 : decode c_Mo_isScalar 34 = .ok (.iconst 0, 1) := by decide +kernel
theorem dMo_isScalar_35 : decode c_Mo_isScalar 35 = .ok (.ireturn, 1) := by decide +kernel
theorem dMo_feed_0 : decode c_Mo_feed 0 = .ok (.aload_n 0, 1) := by decide +kernel
theorem dMo_feed_1 : decode c_Mo_feed 1 = .ok (.getfield 34, 3) := by decide +kernel
theorem dMo_feed_4 : decode c_Mo_feed 4 = .ok (.bipush 120, 2) := by decide +kernel
theorem dMo_feed_6 : decode c_Mo_feed 6 = .ok (.if_icmp .ne 5, 3) := by decide +kernel
theorem dMo_feed_9 : decode c_Mo_feed 9 = .ok (.iconst 0, 1) := by decide +kernel
theorem dMo_feed_10 : decode c_Mo_feed 10 = .ok (.ireturn, 1) := by decide +kernel
theorem dMo_feed_11 : decode c_Mo_feed 11 = .ok (.aload_n 0, 1) := by decide +kernel
theorem dMo_feed_12 : decode c_Mo_feed 12 = .ok (.getfield 7, 3) := by decide +kernel
theorem dMo_feed_15 : decode c_Mo_feed 15 = .ok (.aload_n 0, 1) := by decide +kernel
theorem dMo_feed_16 : decode c_Mo_feed 16 = .ok (.getfield 34, 3) := by decide +kernel
theorem dMo_feed_19 : decode c_Mo_feed 19 = .ok (.iload_n 1, 1) := by decide +kernel
theorem dMo_feed_20 : decode c_Mo_feed 20 = .ok (.iastore, 1) := by decide +kernel
theorem dMo_feed_21 : decode c_Mo_feed 21 = .ok (.aload_n 0, 1) := by decide +kernel
theorem dMo_feed_22 : decode c_Mo_feed 22 = .ok (.aload_n 0, 1) := by decide +kernel
theorem dMo_feed_23 : decode c_Mo_feed 23 = .ok (.getfield 34, 3) := by decide +kernel
theorem dMo_feed_26 : decode c_Mo_feed 26 = .ok (.iconst 1, 1) := by decide +kernel
theorem dMo_feed_27 : decode c_Mo_feed 27 = .ok (.iadd, 1) := by decide +kernel
theorem dMo_feed_28 : decode c_Mo_feed 28 = .ok (.putfield 34, 3) := by decide +kernel
theorem dMo_feed_31 : decode c_Mo_feed 31 = .ok (.iconst 1, 1) := by decide +kernel
theorem dMo_feed_32 : decode c_Mo_feed 32 = .ok (.ireturn, 1) := by decide +kernel
theorem dMo_erase_0 : decode c_Mo_erase 0 = .ok (.aload_n 0, 1) := by decide +kernel
theorem dMo_erase_1 : decode c_Mo_erase 1 = .ok (.getfield 34, 3) := by decide +kernel
theorem dMo_erase_4 : decode c_Mo_erase 4 = .ok (.istore_n 1, 1) := by decide +kernel
theorem dMo_erase_5 : decode c_Mo_erase 5 = .ok (.aload_n 0, 1) := by decide +kernel
theorem dMo_erase_6 : decode c_Mo_erase 6 = .ok (.iconst 0, 1) := by decide +kernel
theorem dMo_erase_7 : decode c_Mo_erase 7 = .ok (.putfield 34, 3) := by decide +kernel
theorem dMo_erase_10 : decode c_Mo_erase 10 = .ok (.iload_n 1, 1) := by decide +kernel
theorem dMo_erase_11 : decode c_Mo_erase 11 = .ok (.ireturn, 1) := by decide +kernel
theorem dMo_unit_0 : decode c_Mo_unit 0 = .ok (.iload_n 1, 1) := by decide +kernel
theorem dMo_unit_1 : decode c_Mo_unit 1 = .ok (.aload_n 0, 1) := by decide +kernel
theorem dMo_unit_2 : decode c_Mo_unit 2 = .ok (.getfield 34, 3) := by decide +kernel
theorem dMo_unit_5 : decode c_Mo_unit 5 = .ok (.if_icmp .ge 12, 3) := by decide +kernel
theorem dMo_unit_8 : decode c_Mo_unit 8 = .ok (.aload_n 0, 1) := by decide +kernel
theorem dMo_unit_9 : decode c_Mo_unit 9 = .ok (.getfield 7, 3) := by decide +kernel
theorem dMo_unit_12 : decode c_Mo_unit 12 = .ok (.iload_n 1, 1) := by decide +kernel
theorem dMo_unit_13 : decode c_Mo_unit 13 = .ok (.iaload, 1) := by decide +kernel
theorem dMo_unit_14 : decode c_Mo_unit 14 = .ok (.goto 4, 3) := by decide +kernel
theorem dMo_unit_17 : decode c_Mo_unit 17 = .ok (.iconst (-1), 1) := by decide +kernel
theorem dMo_unit_18 : decode c_Mo_unit 18 = .ok (.ireturn, 1) := by decide +kernel
theorem dMo_eights_0 : decode c_Mo_eights 0 = .ok (.iload_n 0, 1) := by decide +kernel
theorem dMo_eights_1 : decode c_Mo_eights 1 = .ok (.iconst 0, 1) := by decide +kernel
theorem dMo_eights_2 : decode c_Mo_eights 2 = .ok (.bipush 127, 2) := by decide +kernel
theorem dMo_eights_4 : decode c_Mo_eights 4 = .ok (.invokestatic 38, 3) := by decide +kernel
theorem dMo_eights_7 : decode c_Mo_eights 7 = .ok (.ifCond .eq 7, 3) := by decide +kernel
theorem dMo_eights_10 : decode c_Mo_eights 10 = .ok (.iconst 1, 1) := by decide +kernel
theorem dMo_eights_11 : decode c_Mo_eights 11 = .ok (.goto 55, 3) := by decide +kernel
theorem dMo_eights_14 : decode c_Mo_eights 14 = .ok (.iload_n 0, 1) := by decide +kernel
theorem dMo_eights_15 : decode c_Mo_eights 15 = .ok (.sipush 194, 3) := by decide +kernel
theorem dMo_eights_18 : decode c_Mo_eights 18 = .ok (.sipush 223, 3) := by decide +kernel
theorem dMo_eights_21 : decode c_Mo_eights 21 = .ok (.invokestatic 38, 3) := by decide +kernel
theorem dMo_eights_24 : decode c_Mo_eights 24 = .ok (.ifCond .eq 7, 3) := by decide +kernel
theorem dMo_eights_27 : decode c_Mo_eights 27 = .ok (.iconst 2, 1) := by decide +kernel
theorem dMo_eights_28 : decode c_Mo_eights 28 = .ok (.goto 38, 3) := by decide +kernel
theorem dMo_eights_31 : decode c_Mo_eights 31 = .ok (.iload_n 0, 1) := by decide +kernel
theorem dMo_eights_32 : decode c_Mo_eights 32 = .ok (.sipush 224, 3) := by decide +kernel
theorem dMo_eights_35 : decode c_Mo_eights 35 = .ok (.sipush 239, 3) := by decide +kernel
theorem dMo_eights_38 : decode c_Mo_eights 38 = .ok (.invokestatic 38, 3) := by decide +kernel
theorem dMo_eights_41 : decode c_Mo_eights 41 = .ok (.ifCond .eq 7, 3) := by decide +kernel
theorem dMo_eights_44 : decode c_Mo_eights 44 = .ok (.iconst 3, 1) := by decide +kernel
theorem dMo_eights_45 : decode c_Mo_eights 45 = .ok (.goto 21, 3) := by decide +kernel
theorem dMo_eights_48 : decode c_Mo_eights 48 = .ok (.iload_n 0, 1) := by decide +kernel
theorem dMo_eights_49 : decode c_Mo_eights 49 = .ok (.sipush 240, 3) := by decide +kernel
theorem dMo_eights_52 : decode c_Mo_eights 52 = .ok (.sipush 244, 3) := by decide +kernel
theorem dMo_eights_55 : decode c_Mo_eights 55 = .ok (.invokestatic 38, 3) := by decide +kernel
theorem dMo_eights_58 : decode c_Mo_eights 58 = .ok (.ifCond .eq 7, 3) := by decide +kernel
theorem dMo_eights_61 : decode c_Mo_eights 61 = .ok (.iconst 4, 1) := by decide +kernel
theorem dMo_eights_62 : decode c_Mo_eights 62 = .ok (.goto 4, 3) := by decide +kernel
theorem dMo_eights_65 : decode c_Mo_eights 65 = .ok (.iconst 0, 1) := by decide +kernel
theorem dMo_eights_66 : decode c_Mo_eights 66 = .ok (.ireturn, 1) := by decide +kernel
theorem dMo_leastSecond_0 : decode c_Mo_leastSecond 0 = .ok (.iload_n 0, 1) := by decide +kernel
theorem dMo_leastSecond_1 : decode c_Mo_leastSecond 1 = .ok (.sipush 224, 3) := by decide +kernel
theorem dMo_leastSecond_4 : decode c_Mo_leastSecond 4 = .ok (.if_icmp .ne 9, 3) := by decide +kernel
theorem dMo_leastSecond_7 : decode c_Mo_leastSecond 7 = .ok (.sipush 160, 3) := by decide +kernel
theorem dMo_leastSecond_10 : decode c_Mo_leastSecond 10 = .ok (.goto 19, 3) := by decide +kernel
theorem dMo_leastSecond_13 : decode c_Mo_leastSecond 13 = .ok (.iload_n 0, 1) := by decide +kernel
theorem dMo_leastSecond_14 : decode c_Mo_leastSecond 14 = .ok (.sipush 240, 3) := by decide +kernel
theorem dMo_leastSecond_17 : decode c_Mo_leastSecond 17 = .ok (.if_icmp .ne 9, 3) := by decide +kernel
theorem dMo_leastSecond_20 : decode c_Mo_leastSecond 20 = .ok (.sipush 144, 3) := by decide +kernel
theorem dMo_leastSecond_23 : decode c_Mo_leastSecond 23 = .ok (.goto 6, 3) := by decide +kernel
theorem dMo_leastSecond_26 : decode c_Mo_leastSecond 26 = .ok (.sipush 128, 3) := by decide +kernel
theorem dMo_leastSecond_29 : decode c_Mo_leastSecond 29 = .ok (.ireturn, 1) := by decide +kernel
theorem dMo_mostSecond_0 : decode c_Mo_mostSecond 0 = .ok (.iload_n 0, 1) := by decide +kernel
theorem dMo_mostSecond_1 : decode c_Mo_mostSecond 1 = .ok (.sipush 237, 3) := by decide +kernel
theorem dMo_mostSecond_4 : decode c_Mo_mostSecond 4 = .ok (.if_icmp .ne 9, 3) := by decide +kernel
theorem dMo_mostSecond_7 : decode c_Mo_mostSecond 7 = .ok (.sipush 159, 3) := by decide +kernel
theorem dMo_mostSecond_10 : decode c_Mo_mostSecond 10 = .ok (.goto 19, 3) := by decide +kernel
theorem dMo_mostSecond_13 : decode c_Mo_mostSecond 13 = .ok (.iload_n 0, 1) := by decide +kernel
theorem dMo_mostSecond_14 : decode c_Mo_mostSecond 14 = .ok (.sipush 244, 3) := by decide +kernel
theorem dMo_mostSecond_17 : decode c_Mo_mostSecond 17 = .ok (.if_icmp .ne 9, 3) := by decide +kernel
theorem dMo_mostSecond_20 : decode c_Mo_mostSecond 20 = .ok (.sipush 143, 3) := by decide +kernel
theorem dMo_mostSecond_23 : decode c_Mo_mostSecond 23 = .ok (.goto 6, 3) := by decide +kernel
theorem dMo_mostSecond_26 : decode c_Mo_mostSecond 26 = .ok (.sipush 191, 3) := by decide +kernel
theorem dMo_mostSecond_29 : decode c_Mo_mostSecond 29 = .ok (.ireturn, 1) := by decide +kernel
theorem dMo_readEights_0 : decode c_Mo_readEights 0 = .ok (.aload_n 0, 1) := by decide +kernel
theorem dMo_readEights_1 : decode c_Mo_readEights 1 = .ok (.iload_n 1, 1) := by decide +kernel
theorem dMo_readEights_2 : decode c_Mo_readEights 2 = .ok (.invokevirtual 42, 3) := by decide +kernel
theorem dMo_readEights_5 : decode c_Mo_readEights 5 = .ok (.istore_n 2, 1) := by decide +kernel
theorem dMo_readEights_6 : decode c_Mo_readEights 6 = .ok (.iload_n 2, 1) := by decide +kernel
theorem dMo_readEights_7 : decode c_Mo_readEights 7 = .ok (.invokestatic 46, 3) := by decide +kernel
theorem dMo_readEights_10 : decode c_Mo_readEights 10 = .ok (.istore_n 3, 1) := by decide +kernel
theorem dMo_readEights_11 : decode c_Mo_readEights 11 = .ok (.aload_n 0, 1) := by decide +kernel
theorem dMo_readEights_12 : decode c_Mo_readEights 12 = .ok (.iconst 0, 1) := by decide +kernel
theorem dMo_readEights_13 : decode c_Mo_readEights 13 = .ok (.putfield 49, 3) := by decide +kernel
theorem dMo_readEights_16 : decode c_Mo_readEights 16 = .ok (.aload_n 0, 1) := by decide +kernel
theorem dMo_readEights_17 : decode c_Mo_readEights 17 = .ok (.iload_n 3, 1) := by decide +kernel
theorem dMo_readEights_18 : decode c_Mo_readEights 18 = .ok (.ifCond .le 7, 3) := by decide +kernel
theorem dMo_readEights_21 : decode c_Mo_readEights 21 = .ok (.iconst 1, 1) := by decide +kernel
theorem dMo_readEights_22 : decode c_Mo_readEights 22 = .ok (.goto 4, 3) := by decide +kernel
theorem dMo_readEights_25 : decode c_Mo_readEights 25 = .ok (.iconst 0, 1) := by decide +kernel
theorem dMo_readEights_26 : decode c_Mo_readEights 26 = .ok (.putfield 52, 3) := by decide +kernel
theorem dMo_readEights_29 : decode c_Mo_readEights 29 = .ok (.iload_n 3, 1) := by decide +kernel
theorem dMo_readEights_30 : decode c_Mo_readEights 30 = .ok (.ifCond .ne 5, 3) := by decide +kernel
theorem dMo_readEights_33 : decode c_Mo_readEights 33 = .ok (.iconst (-1), 1) := by decide +kernel
theorem dMo_readEights_34 : decode c_Mo_readEights 34 = .ok (.ireturn, 1) := by decide +kernel
theorem dMo_readEights_35 : decode c_Mo_readEights 35 = .ok (.iload_n 3, 1) := by decide +kernel
theorem dMo_readEights_36 : decode c_Mo_readEights 36 = .ok (.iconst 1, 1) := by decide +kernel
theorem dMo_readEights_37 : decode c_Mo_readEights 37 = .ok (.if_icmp .ne 7, 3) := by decide +kernel
theorem dMo_readEights_40 : decode c_Mo_readEights 40 = .ok (.iload_n 2, 1) := by decide +kernel
theorem dMo_readEights_41 : decode c_Mo_readEights 41 = .ok (.goto 34, 3) := by decide +kernel
theorem dMo_readEights_44 : decode c_Mo_readEights 44 = .ok (.iload_n 3, 1) := by decide +kernel
theorem dMo_readEights_45 : decode c_Mo_readEights 45 = .ok (.iconst 2, 1) := by decide +kernel
theorem dMo_readEights_46 : decode c_Mo_readEights 46 = .ok (.if_icmp .ne 11, 3) := by decide +kernel
theorem dMo_readEights_49 : decode c_Mo_readEights 49 = .ok (.iload_n 2, 1) := by decide +kernel
theorem dMo_readEights_50 : decode c_Mo_readEights 50 = .ok (.sipush 192, 3) := by decide +kernel
theorem dMo_readEights_53 : decode c_Mo_readEights 53 = .ok (.isub, 1) := by decide +kernel
theorem dMo_readEights_54 : decode c_Mo_readEights 54 = .ok (.goto 21, 3) := by decide +kernel
theorem dMo_readEights_57 : decode c_Mo_readEights 57 = .ok (.iload_n 3, 1) := by decide +kernel
theorem dMo_readEights_58 : decode c_Mo_readEights 58 = .ok (.iconst 3, 1) := by decide +kernel
theorem dMo_readEights_59 : decode c_Mo_readEights 59 = .ok (.if_icmp .ne 11, 3) := by decide +kernel
theorem dMo_readEights_62 : decode c_Mo_readEights 62 = .ok (.iload_n 2, 1) := by decide +kernel
theorem dMo_readEights_63 : decode c_Mo_readEights 63 = .ok (.sipush 224, 3) := by decide +kernel
theorem dMo_readEights_66 : decode c_Mo_readEights 66 = .ok (.isub, 1) := by decide +kernel
theorem dMo_readEights_67 : decode c_Mo_readEights 67 = .ok (.goto 8, 3) := by decide +kernel
theorem dMo_readEights_70 : decode c_Mo_readEights 70 = .ok (.iload_n 2, 1) := by decide +kernel
theorem dMo_readEights_71 : decode c_Mo_readEights 71 = .ok (.sipush 240, 3) := by decide +kernel
theorem dMo_readEights_74 : decode c_Mo_readEights 74 = .ok (.isub, 1) := by decide +kernel
theorem dMo_readEights_75 : decode c_Mo_readEights 75 = .ok (.istore 4, 2) := by decide +kernel
theorem dMo_readEights_77 : decode c_Mo_readEights 77 = .ok (.iconst 1, 1) := by decide +kernel
theorem dMo_readEights_78 : decode c_Mo_readEights 78 = .ok (.istore 5, 2) := by decide +kernel
theorem dMo_readEights_80 : decode c_Mo_readEights 80 = .ok (.iload 5, 2) := by decide +kernel
theorem dMo_readEights_82 : decode c_Mo_readEights 82 = .ok (.iload_n 3, 1) := by decide +kernel
theorem dMo_readEights_83 : decode c_Mo_readEights 83 = .ok (.if_icmp .ge 85, 3) := by decide +kernel
theorem dMo_readEights_86 : decode c_Mo_readEights 86 = .ok (.aload_n 0, 1) := by decide +kernel
theorem dMo_readEights_87 : decode c_Mo_readEights 87 = .ok (.iload_n 1, 1) := by decide +kernel
theorem dMo_readEights_88 : decode c_Mo_readEights 88 = .ok (.iload 5, 2) := by decide +kernel
theorem dMo_readEights_90 : decode c_Mo_readEights 90 = .ok (.iadd, 1) := by decide +kernel
theorem dMo_readEights_91 : decode c_Mo_readEights 91 = .ok (.invokevirtual 42, 3) := by decide +kernel
theorem dMo_readEights_94 : decode c_Mo_readEights 94 = .ok (.istore 6, 2) := by decide +kernel
theorem dMo_readEights_96 : decode c_Mo_readEights 96 = .ok (.iload 6, 2) := by decide +kernel
theorem dMo_readEights_98 : decode c_Mo_readEights 98 = .ok (.iload 5, 2) := by decide +kernel
theorem dMo_readEights_100 : decode c_Mo_readEights 100 = .ok (.iconst 1, 1) := by decide +kernel
theorem dMo_readEights_101 : decode c_Mo_readEights 101 = .ok (.if_icmp .ne 10, 3) := by decide +kernel
theorem dMo_readEights_104 : decode c_Mo_readEights 104 = .ok (.iload_n 2, 1) := by decide +kernel
theorem dMo_readEights_105 : decode c_Mo_readEights 105 = .ok (.invokestatic 55, 3) := by decide +kernel
theorem dMo_readEights_108 : decode c_Mo_readEights 108 = .ok (.goto 6, 3) := by decide +kernel
theorem dMo_readEights_111 : decode c_Mo_readEights 111 = .ok (.sipush 128, 3) := by decide +kernel
theorem dMo_readEights_114 : decode c_Mo_readEights 114 = .ok (.iload 5, 2) := by decide +kernel
theorem dMo_readEights_116 : decode c_Mo_readEights 116 = .ok (.iconst 1, 1) := by decide +kernel
theorem dMo_readEights_117 : decode c_Mo_readEights 117 = .ok (.if_icmp .ne 10, 3) := by decide +kernel
theorem dMo_readEights_120 : decode c_Mo_readEights 120 = .ok (.iload_n 2, 1) := by decide +kernel
theorem dMo_readEights_121 : decode c_Mo_readEights 121 = .ok (.invokestatic 58, 3) := by decide +kernel
theorem dMo_readEights_124 : decode c_Mo_readEights 124 = .ok (.goto 6, 3) := by decide +kernel
theorem dMo_readEights_127 : decode c_Mo_readEights 127 = .ok (.sipush 191, 3) := by decide +kernel
theorem dMo_readEights_130 : decode c_Mo_readEights 130 = .ok (.invokestatic 38, 3) := by decide +kernel
theorem dMo_readEights_133 : decode c_Mo_readEights 133 = .ok (.ifCond .ne 5, 3) := by decide +kernel
theorem dMo_readEights_136 : decode c_Mo_readEights 136 = .ok (.iconst (-1), 1) := by decide +kernel
theorem dMo_readEights_137 : decode c_Mo_readEights 137 = .ok (.ireturn, 1) := by decide +kernel
theorem dMo_readEights_138 : decode c_Mo_readEights 138 = .ok (.bipush 64, 2) := by decide +kernel
theorem dMo_readEights_140 : decode c_Mo_readEights 140 = .ok (.iload 4, 2) := by decide +kernel
theorem dMo_readEights_142 : decode c_Mo_readEights 142 = .ok (.imul, 1) := by decide +kernel
theorem dMo_readEights_143 : decode c_Mo_readEights 143 = .ok (.iload 6, 2) := by decide +kernel
theorem dMo_readEights_145 : decode c_Mo_readEights 145 = .ok (.iadd, 1) := by decide +kernel
theorem dMo_readEights_146 : decode c_Mo_readEights 146 = .ok (.sipush 128, 3) := by decide +kernel
theorem dMo_readEights_149 : decode c_Mo_readEights 149 = .ok (.isub, 1) := by decide +kernel
theorem dMo_readEights_150 : decode c_Mo_readEights 150 = .ok (.istore 4, 2) := by decide +kernel
theorem dMo_readEights_152 : decode c_Mo_readEights 152 = .ok (.aload_n 0, 1) := by decide +kernel
theorem dMo_readEights_153 : decode c_Mo_readEights 153 = .ok (.aload_n 0, 1) := by decide +kernel
theorem dMo_readEights_154 : decode c_Mo_readEights 154 = .ok (.getfield 52, 3) := by decide +kernel
theorem dMo_readEights_157 : decode c_Mo_readEights 157 = .ok (.iconst 1, 1) := by decide +kernel
theorem dMo_readEights_158 : decode c_Mo_readEights 158 = .ok (.iadd, 1) := by decide +kernel
theorem dMo_readEights_159 : decode c_Mo_readEights 159 = .ok (.putfield 52, 3) := by decide +kernel
theorem dMo_readEights_162 : decode c_Mo_readEights 162 = .ok (.iinc 5 1, 3) := by decide +kernel
theorem dMo_readEights_165 : decode c_Mo_readEights 165 = .ok (.goto (-85), 3) := by decide +kernel
theorem dMo_readEights_168 : decode c_Mo_readEights 168 = .ok (.aload_n 0, 1) := by decide +kernel
theorem dMo_readEights_169 : decode c_Mo_readEights 169 = .ok (.iload_n 3, 1) := by decide +kernel
theorem dMo_readEights_170 : decode c_Mo_readEights 170 = .ok (.putfield 49, 3) := by decide +kernel
theorem dMo_readEights_173 : decode c_Mo_readEights 173 = .ok (.iload 4, 2) := by decide +kernel
theorem dMo_readEights_175 : decode c_Mo_readEights 175 = .ok (.ireturn, 1) := by decide +kernel
theorem dMo_readSixteens_0 : decode c_Mo_readSixteens 0 = .ok (.aload_n 0, 1) := by decide +kernel
theorem dMo_readSixteens_1 : decode c_Mo_readSixteens 1 = .ok (.iload_n 1, 1) := by decide +kernel
theorem dMo_readSixteens_2 : decode c_Mo_readSixteens 2 = .ok (.invokevirtual 42, 3) := by decide +kernel
theorem dMo_readSixteens_5 : decode c_Mo_readSixteens 5 = .ok (.istore_n 2, 1) := by decide +kernel
theorem dMo_readSixteens_6 : decode c_Mo_readSixteens 6 = .ok (.aload_n 0, 1) := by decide +kernel
theorem dMo_readSixteens_7 : decode c_Mo_readSixteens 7 = .ok (.iconst 0, 1) := by decide +kernel
theorem dMo_readSixteens_8 : decode c_Mo_readSixteens 8 = .ok (.putfield 49, 3) := by decide +kernel
theorem dMo_readSixteens_11 : decode c_Mo_readSixteens 11 = .ok (.aload_n 0, 1) := by decide +kernel
theorem dMo_readSixteens_12 : decode c_Mo_readSixteens 12 = .ok (.iconst 0, 1) := by decide +kernel
theorem dMo_readSixteens_13 : decode c_Mo_readSixteens 13 = .ok (.putfield 52, 3) := by decide +kernel
theorem dMo_readSixteens_16 : decode c_Mo_readSixteens 16 = .ok (.iload_n 2, 1) := by decide +kernel
theorem dMo_readSixteens_17 : decode c_Mo_readSixteens 17 = .ok (.iconst 0, 1) := by decide +kernel
theorem dMo_readSixteens_18 : decode c_Mo_readSixteens 18 = .ok (.ldc 61, 2) := by decide +kernel
theorem dMo_readSixteens_20 : decode c_Mo_readSixteens 20 = .ok (.invokestatic 38, 3) := by decide +kernel
theorem dMo_readSixteens_23 : decode c_Mo_readSixteens 23 = .ok (.ifCond .eq 14, 3) := by decide +kernel
theorem dMo_readSixteens_26 : decode c_Mo_readSixteens 26 = .ok (.iload_n 2, 1) := by decide +kernel
theorem dMo_readSixteens_27 : decode c_Mo_readSixteens 27 = .ok (.ldc 62, 2) := by decide +kernel
theorem dMo_readSixteens_29 : decode c_Mo_readSixteens 29 = .ok (.ldc 63, 2) := by decide +kernel
theorem dMo_readSixteens_31 : decode c_Mo_readSixteens 31 = .ok (.invokestatic 38, 3) := by decide +kernel
theorem dMo_readSixteens_34 : decode c_Mo_readSixteens 34 = .ok (.ifCond .eq 5, 3) := by decide +kernel
theorem dMo_readSixteens_37 : decode c_Mo_readSixteens 37 = .ok (.iconst (-1), 1) := by decide +kernel
theorem dMo_readSixteens_38 : decode c_Mo_readSixteens 38 = .ok (.ireturn, 1) := by decide +kernel
theorem dMo_readSixteens_39 : decode c_Mo_readSixteens 39 = .ok (.aload_n 0, 1) := by decide +kernel
theorem dMo_readSixteens_40 : decode c_Mo_readSixteens 40 = .ok (.iconst 1, 1) := by decide +kernel
theorem dMo_readSixteens_41 : decode c_Mo_readSixteens 41 = .ok (.putfield 52, 3) := by decide +kernel
theorem dMo_readSixteens_44 : decode c_Mo_readSixteens 44 = .ok (.iload_n 2, 1) := by decide +kernel
theorem dMo_readSixteens_45 : decode c_Mo_readSixteens 45 = .ok (.ldc 64, 2) := by decide +kernel
theorem dMo_readSixteens_47 : decode c_Mo_readSixteens 47 = .ok (.ldc 65, 2) := by decide +kernel
theorem dMo_readSixteens_49 : decode c_Mo_readSixteens 49 = .ok (.invokestatic 38, 3) := by decide +kernel
theorem dMo_readSixteens_52 : decode c_Mo_readSixteens 52 = .ok (.ifCond .ne 10, 3) := by decide +kernel
theorem dMo_readSixteens_55 : decode c_Mo_readSixteens 55 = .ok (.aload_n 0, 1) := by decide +kernel
theorem dMo_readSixteens_56 : decode c_Mo_readSixteens 56 = .ok (.iconst 1, 1) := by decide +kernel
theorem dMo_readSixteens_57 : decode c_Mo_readSixteens 57 = .ok (.putfield 49, 3) := by decide +kernel
theorem dMo_readSixteens_60 : decode c_Mo_readSixteens 60 = .ok (.iload_n 2, 1) := by decide +kernel
theorem dMo_readSixteens_61 : decode c_Mo_readSixteens 61 = .ok (.ireturn, 1) := by decide +kernel
theorem dMo_readSixteens_62 : decode c_Mo_readSixteens 62 = .ok (.aload_n 0, 1) := by decide +kernel
theorem dMo_readSixteens_63 : decode c_Mo_readSixteens 63 = .ok (.iload_n 1, 1) := by decide +kernel
theorem dMo_readSixteens_64 : decode c_Mo_readSixteens 64 = .ok (.iconst 1, 1) := by decide +kernel
theorem dMo_readSixteens_65 : decode c_Mo_readSixteens 65 = .ok (.iadd, 1) := by decide +kernel
theorem dMo_readSixteens_66 : decode c_Mo_readSixteens 66 = .ok (.invokevirtual 42, 3) := by decide +kernel
theorem dMo_readSixteens_69 : decode c_Mo_readSixteens 69 = .ok (.istore_n 3, 1) := by decide +kernel
theorem dMo_readSixteens_70 : decode c_Mo_readSixteens 70 = .ok (.iload_n 3, 1) := by decide +kernel
theorem dMo_readSixteens_71 : decode c_Mo_readSixteens 71 = .ok (.ldc 62, 2) := by decide +kernel
theorem dMo_readSixteens_73 : decode c_Mo_readSixteens 73 = .ok (.ldc 63, 2) := by decide +kernel
theorem dMo_readSixteens_75 : decode c_Mo_readSixteens 75 = .ok (.invokestatic 38, 3) := by decide +kernel
theorem dMo_readSixteens_78 : decode c_Mo_readSixteens 78 = .ok (.ifCond .ne 5, 3) := by decide +kernel
theorem dMo_readSixteens_81 : decode c_Mo_readSixteens 81 = .ok (.iconst (-1), 1) := by decide +kernel
theorem dMo_readSixteens_82 : decode c_Mo_readSixteens 82 = .ok (.ireturn, 1) := by decide +kernel
theorem dMo_readSixteens_83 : decode c_Mo_readSixteens 83 = .ok (.aload_n 0, 1) := by decide +kernel
theorem dMo_readSixteens_84 : decode c_Mo_readSixteens 84 = .ok (.iconst 2, 1) := by decide +kernel
theorem dMo_readSixteens_85 : decode c_Mo_readSixteens 85 = .ok (.putfield 52, 3) := by decide +kernel
theorem dMo_readSixteens_88 : decode c_Mo_readSixteens 88 = .ok (.aload_n 0, 1) := by decide +kernel
theorem dMo_readSixteens_89 : decode c_Mo_readSixteens 89 = .ok (.iconst 2, 1) := by decide +kernel
theorem dMo_readSixteens_90 : decode c_Mo_readSixteens 90 = .ok (.putfield 49, 3) := by decide +kernel
theorem dMo_readSixteens_93 : decode c_Mo_readSixteens 93 = .ok (.ldc 66, 2) := by decide +kernel
theorem dMo_readSixteens_95 : decode c_Mo_readSixteens 95 = .ok (.sipush 1024, 3) := by decide +kernel
theorem dMo_readSixteens_98 : decode c_Mo_readSixteens 98 = .ok (.iload_n 2, 1) := by decide +kernel
theorem dMo_readSixteens_99 : decode c_Mo_readSixteens 99 = .ok (.ldc 64, 2) := by decide +kernel
theorem dMo_readSixteens_101 : decode c_Mo_readSixteens 101 = .ok (.isub, 1) := by decide +kernel
theorem dMo_readSixteens_102 : decode c_Mo_readSixteens 102 = .ok (.imul, 1) := by decide +kernel
theorem dMo_readSixteens_103 : decode c_Mo_readSixteens 103 = .ok (.iadd, 1) := by decide +kernel
theorem dMo_readSixteens_104 : decode c_Mo_readSixteens 104 = .ok (.iload_n 3, 1) := by decide +kernel
theorem dMo_readSixteens_105 : decode c_Mo_readSixteens 105 = .ok (.iadd, 1) := by decide +kernel
theorem dMo_readSixteens_106 : decode c_Mo_readSixteens 106 = .ok (.ldc 62, 2) := by decide +kernel
theorem dMo_readSixteens_108 : decode c_Mo_readSixteens 108 = .ok (.isub, 1) := by decide +kernel
theorem dMo_readSixteens_109 : decode c_Mo_readSixteens 109 = .ok (.ireturn, 1) := by decide +kernel
theorem dMo_read_0 : decode c_Mo_read 0 = .ok (.iload_n 2, 1) := by decide +kernel
theorem dMo_read_1 : decode c_Mo_read 1 = .ok (.ifCond .eq 11, 3) := by decide +kernel
theorem dMo_read_4 : decode c_Mo_read 4 = .ok (.aload_n 0, 1) := by decide +kernel
theorem dMo_read_5 : decode c_Mo_read 5 = .ok (.iload_n 1, 1) := by decide +kernel
theorem dMo_read_6 : decode c_Mo_read 6 = .ok (.invokevirtual 67, 3) := by decide +kernel
theorem dMo_read_9 : decode c_Mo_read 9 = .ok (.goto 8, 3) := by decide +kernel
theorem dMo_read_12 : decode c_Mo_read 12 = .ok (.aload_n 0, 1) := by decide +kernel
theorem dMo_read_13 : decode c_Mo_read 13 = .ok (.iload_n 1, 1) := by decide +kernel
theorem dMo_read_14 : decode c_Mo_read 14 = .ok (.invokevirtual 70, 3) := by decide +kernel
theorem dMo_read_17 : decode c_Mo_read 17 = .ok (.ireturn, 1) := by decide +kernel
theorem dMo_take_0 : decode c_Mo_take 0 = .ok (.aload_n 0, 1) := by decide +kernel
theorem dMo_take_1 : decode c_Mo_take 1 = .ok (.aload_n 0, 1) := by decide +kernel
theorem dMo_take_2 : decode c_Mo_take 2 = .ok (.getfield 73, 3) := by decide +kernel
theorem dMo_take_5 : decode c_Mo_take 5 = .ok (.putfield 76, 3) := by decide +kernel
theorem dMo_take_8 : decode c_Mo_take 8 = .ok (.iconst 0, 1) := by decide +kernel
theorem dMo_take_9 : decode c_Mo_take 9 = .ok (.istore_n 1, 1) := by decide +kernel
theorem dMo_take_10 : decode c_Mo_take 10 = .ok (.iload_n 1, 1) := by decide +kernel
theorem dMo_take_11 : decode c_Mo_take 11 = .ok (.aload_n 0, 1) := by decide +kernel
theorem dMo_take_12 : decode c_Mo_take 12 = .ok (.getfield 73, 3) := by decide +kernel
theorem dMo_take_15 : decode c_Mo_take 15 = .ok (.if_icmp .ge 21, 3) := by decide +kernel
theorem dMo_take_18 : decode c_Mo_take 18 = .ok (.aload_n 0, 1) := by decide +kernel
theorem dMo_take_19 : decode c_Mo_take 19 = .ok (.getfield 13, 3) := by decide +kernel
theorem dMo_take_22 : decode c_Mo_take 22 = .ok (.iload_n 1, 1) := by decide +kernel
theorem dMo_take_23 : decode c_Mo_take 23 = .ok (.aload_n 0, 1) := by decide +kernel
theorem dMo_take_24 : decode c_Mo_take 24 = .ok (.getfield 22, 3) := by decide +kernel
theorem dMo_take_27 : decode c_Mo_take 27 = .ok (.iload_n 1, 1) := by decide +kernel
theorem dMo_take_28 : decode c_Mo_take 28 = .ok (.iaload, 1) := by decide +kernel
theorem dMo_take_29 : decode c_Mo_take 29 = .ok (.iastore, 1) := by decide +kernel
theorem dMo_take_30 : decode c_Mo_take 30 = .ok (.iinc 1 1, 3) := by decide +kernel
theorem dMo_take_33 : decode c_Mo_take 33 = .ok (.goto (-23), 3) := by decide +kernel
theorem dMo_take_36 : decode c_Mo_take 36 = .ok (.aload_n 0, 1) := by decide +kernel
theorem dMo_take_37 : decode c_Mo_take 37 = .ok (.getfield 73, 3) := by decide +kernel
theorem dMo_take_40 : decode c_Mo_take 40 = .ok (.ireturn, 1) := by decide +kernel
theorem dMo_from_0 : decode c_Mo_from 0 = .ok (.aload_n 0, 1) := by decide +kernel
theorem dMo_from_1 : decode c_Mo_from 1 = .ok (.iconst 0, 1) := by decide +kernel
theorem dMo_from_2 : decode c_Mo_from 2 = .ok (.putfield 73, 3) := by decide +kernel
theorem dMo_from_5 : decode c_Mo_from 5 = .ok (.iconst 0, 1) := by decide +kernel
theorem dMo_from_6 : decode c_Mo_from 6 = .ok (.istore_n 2, 1) := by decide +kernel
theorem dMo_from_7 : decode c_Mo_from 7 = .ok (.iload_n 2, 1) := by decide +kernel
theorem dMo_from_8 : decode c_Mo_from 8 = .ok (.aload_n 0, 1) := by decide +kernel
theorem dMo_from_9 : decode c_Mo_from 9 = .ok (.getfield 34, 3) := by decide +kernel
theorem dMo_from_12 : decode c_Mo_from 12 = .ok (.if_icmp .ge 53, 3) := by decide +kernel
theorem dMo_from_15 : decode c_Mo_from 15 = .ok (.aload_n 0, 1) := by decide +kernel
theorem dMo_from_16 : decode c_Mo_from 16 = .ok (.iload_n 2, 1) := by decide +kernel
theorem dMo_from_17 : decode c_Mo_from 17 = .ok (.iload_n 1, 1) := by decide +kernel
theorem dMo_from_18 : decode c_Mo_from 18 = .ok (.invokevirtual 79, 3) := by decide +kernel
theorem dMo_from_21 : decode c_Mo_from 21 = .ok (.istore_n 3, 1) := by decide +kernel
theorem dMo_from_22 : decode c_Mo_from 22 = .ok (.iload_n 3, 1) := by decide +kernel
theorem dMo_from_23 : decode c_Mo_from 23 = .ok (.ifCond .ge 12, 3) := by decide +kernel
theorem dMo_from_26 : decode c_Mo_from 26 = .ok (.iconst (-1), 1) := by decide +kernel
theorem dMo_from_27 : decode c_Mo_from 27 = .ok (.iload_n 2, 1) := by decide +kernel
theorem dMo_from_28 : decode c_Mo_from 28 = .ok (.isub, 1) := by decide +kernel
theorem dMo_from_29 : decode c_Mo_from 29 = .ok (.aload_n 0, 1) := by decide +kernel
theorem dMo_from_30 : decode c_Mo_from 30 = .ok (.getfield 52, 3) := by decide +kernel
theorem dMo_from_33 : decode c_Mo_from 33 = .ok (.isub, 1) := by decide +kernel
theorem dMo_from_34 : decode c_Mo_from 34 = .ok (.ireturn, 1) := by decide +kernel
theorem dMo_from_35 : decode c_Mo_from 35 = .ok (.aload_n 0, 1) := by decide +kernel
theorem dMo_from_36 : decode c_Mo_from 36 = .ok (.getfield 22, 3) := by decide +kernel
theorem dMo_from_39 : decode c_Mo_from 39 = .ok (.aload_n 0, 1) := by decide +kernel
theorem dMo_from_40 : decode c_Mo_from 40 = .ok (.getfield 73, 3) := by decide +kernel
theorem dMo_from_43 : decode c_Mo_from 43 = .ok (.iload_n 3, 1) := by decide +kernel
theorem dMo_from_44 : decode c_Mo_from 44 = .ok (.iastore, 1) := by decide +kernel
theorem dMo_from_45 : decode c_Mo_from 45 = .ok (.aload_n 0, 1) := by decide +kernel
theorem dMo_from_46 : decode c_Mo_from 46 = .ok (.aload_n 0, 1) := by decide +kernel
theorem dMo_from_47 : decode c_Mo_from 47 = .ok (.getfield 73, 3) := by decide +kernel
theorem dMo_from_50 : decode c_Mo_from 50 = .ok (.iconst 1, 1) := by decide +kernel
theorem dMo_from_51 : decode c_Mo_from 51 = .ok (.iadd, 1) := by decide +kernel
theorem dMo_from_52 : decode c_Mo_from 52 = .ok (.putfield 73, 3) := by decide +kernel
theorem dMo_from_55 : decode c_Mo_from 55 = .ok (.iload_n 2, 1) := by decide +kernel
theorem dMo_from_56 : decode c_Mo_from 56 = .ok (.aload_n 0, 1) := by decide +kernel
theorem dMo_from_57 : decode c_Mo_from 57 = .ok (.getfield 49, 3) := by decide +kernel
theorem dMo_from_60 : decode c_Mo_from 60 = .ok (.iadd, 1) := by decide +kernel
theorem dMo_from_61 : decode c_Mo_from 61 = .ok (.istore_n 2, 1) := by decide +kernel
theorem dMo_from_62 : decode c_Mo_from 62 = .ok (.goto (-55), 3) := by decide +kernel
theorem dMo_from_65 : decode c_Mo_from 65 = .ok (.aload_n 0, 1) := by decide +kernel
theorem dMo_from_66 : decode c_Mo_from 66 = .ok (.invokevirtual 83, 3) := by decide +kernel
theorem dMo_from_69 : decode c_Mo_from 69 = .ok (.ireturn, 1) := by decide +kernel
theorem dMo_fromEights_0 : decode c_Mo_fromEights 0 = .ok (.aload_n 0, 1) := by decide +kernel
theorem dMo_fromEights_1 : decode c_Mo_fromEights 1 = .ok (.iconst 1, 1) := by decide +kernel
theorem dMo_fromEights_2 : decode c_Mo_fromEights 2 = .ok (.invokevirtual 87, 3) := by decide +kernel
theorem dMo_fromEights_5 : decode c_Mo_fromEights 5 = .ok (.ireturn, 1) := by decide +kernel
theorem dMo_fromSixteens_0 : decode c_Mo_fromSixteens 0 = .ok (.aload_n 0, 1) := by decide +kernel
theorem dMo_fromSixteens_1 : decode c_Mo_fromSixteens 1 = .ok (.iconst 0, 1) := by decide +kernel
theorem dMo_fromSixteens_2 : decode c_Mo_fromSixteens 2 = .ok (.invokevirtual 87, 3) := by decide +kernel
theorem dMo_fromSixteens_5 : decode c_Mo_fromSixteens 5 = .ok (.ireturn, 1) := by decide +kernel
theorem dMo_mend_0 : decode c_Mo_mend 0 = .ok (.aload_n 0, 1) := by decide +kernel
theorem dMo_mend_1 : decode c_Mo_mend 1 = .ok (.iconst 0, 1) := by decide +kernel
theorem dMo_mend_2 : decode c_Mo_mend 2 = .ok (.putfield 73, 3) := by decide +kernel
theorem dMo_mend_5 : decode c_Mo_mend 5 = .ok (.iconst 0, 1) := by decide +kernel
theorem dMo_mend_6 : decode c_Mo_mend 6 = .ok (.istore_n 2, 1) := by decide +kernel
theorem dMo_mend_7 : decode c_Mo_mend 7 = .ok (.iconst 0, 1) := by decide +kernel
theorem dMo_mend_8 : decode c_Mo_mend 8 = .ok (.istore_n 3, 1) := by decide +kernel
theorem dMo_mend_9 : decode c_Mo_mend 9 = .ok (.iload_n 3, 1) := by decide +kernel
theorem dMo_mend_10 : decode c_Mo_mend 10 = .ok (.aload_n 0, 1) := by decide +kernel
theorem dMo_mend_11 : decode c_Mo_mend 11 = .ok (.getfield 34, 3) := by decide +kernel
theorem dMo_mend_14 : decode c_Mo_mend 14 = .ok (.if_icmp .ge 88, 3) := by decide +kernel
theorem dMo_mend_17 : decode c_Mo_mend 17 = .ok (.aload_n 0, 1) := by decide +kernel
theorem dMo_mend_18 : decode c_Mo_mend 18 = .ok (.iload_n 3, 1) := by decide +kernel
theorem dMo_mend_19 : decode c_Mo_mend 19 = .ok (.iload_n 1, 1) := by decide +kernel
theorem dMo_mend_20 : decode c_Mo_mend 20 = .ok (.invokevirtual 79, 3) := by decide +kernel
theorem dMo_mend_23 : decode c_Mo_mend 23 = .ok (.istore 4, 2) := by decide +kernel
theorem dMo_mend_25 : decode c_Mo_mend 25 = .ok (.aload_n 0, 1) := by decide +kernel
theorem dMo_mend_26 : decode c_Mo_mend 26 = .ok (.getfield 22, 3) := by decide +kernel
theorem dMo_mend_29 : decode c_Mo_mend 29 = .ok (.aload_n 0, 1) := by decide +kernel
theorem dMo_mend_30 : decode c_Mo_mend 30 = .ok (.getfield 73, 3) := by decide +kernel
theorem dMo_mend_33 : decode c_Mo_mend 33 = .ok (.iload 4, 2) := by decide +kernel
theorem dMo_mend_35 : decode c_Mo_mend 35 = .ok (.ifCond .ge 8, 3) := by decide +kernel
theorem dMo_mend_38 : decode c_Mo_mend 38 = .ok (.ldc 91, 2) := by decide +kernel
theorem dMo_mend_40 : decode c_Mo_mend 40 = .ok (.goto 5, 3) := by decide +kernel
