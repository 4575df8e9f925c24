theorem dMo_mend_43 : decode c_Mo_mend 43 = .ok (.iload 4, 2) := by decide +kernel
theorem dMo_mend_45 : decode c_Mo_mend 45 = .ok (.iastore, 1) := by decide +kernel
theorem dMo_mend_46 : decode c_Mo_mend 46 = .ok (.aload_n 0, 1) := by decide +kernel
theorem dMo_mend_47 : decode c_Mo_mend 47 = .ok (.aload_n 0, 1) := by decide +kernel
theorem dMo_mend_48 : decode c_Mo_mend 48 = .ok (.getfield 73, 3) := by decide +kernel
theorem dMo_mend_51 : decode c_Mo_mend 51 = .ok (.iconst 1, 1) := by decide +kernel
theorem dMo_mend_52 : decode c_Mo_mend 52 = .ok (.iadd, 1) := by decide +kernel
theorem dMo_mend_53 : decode c_Mo_mend 53 = .ok (.putfield 73, 3) := by decide +kernel
theorem dMo_mend_56 : decode c_Mo_mend 56 = .ok (.iload 4, 2) := by decide +kernel
theorem dMo_mend_58 : decode c_Mo_mend 58 = .ok (.ifCond .ge 9, 3) := by decide +kernel
theorem dMo_mend_61 : decode c_Mo_mend 61 = .ok (.iload_n 2, 1) := by decide +kernel
theorem dMo_mend_62 : decode c_Mo_mend 62 = .ok (.iconst 1, 1) := by decide +kernel
theorem dMo_mend_63 : decode c_Mo_mend 63 = .ok (.iadd, 1) := by decide +kernel
theorem dMo_mend_64 : decode c_Mo_mend 64 = .ok (.goto 4, 3) := by decide +kernel
theorem dMo_mend_67 : decode c_Mo_mend 67 = .ok (.iload_n 2, 1) := by decide +kernel
theorem dMo_mend_68 : decode c_Mo_mend 68 = .ok (.istore_n 2, 1) := by decide +kernel
theorem dMo_mend_69 : decode c_Mo_mend 69 = .ok (.iload_n 3, 1) := by decide +kernel
theorem dMo_mend_70 : decode c_Mo_mend 70 = .ok (.iload 4, 2) := by decide +kernel
theorem dMo_mend_72 : decode c_Mo_mend 72 = .ok (.ifCond .lt 10, 3) := by decide +kernel
theorem dMo_mend_75 : decode c_Mo_mend 75 = .ok (.aload_n 0, 1) := by decide +kernel
theorem dMo_mend_76 : decode c_Mo_mend 76 = .ok (.getfield 49, 3) := by decide +kernel
theorem dMo_mend_79 : decode c_Mo_mend 79 = .ok (.goto 18, 3) := by decide +kernel
theorem dMo_mend_82 : decode c_Mo_mend 82 = .ok (.aload_n 0, 1) := by decide +kernel
theorem dMo_mend_83 : decode c_Mo_mend 83 = .ok (.getfield 52, 3) := by decide +kernel
theorem dMo_mend_86 : decode c_Mo_mend 86 = .ok (.ifCond .le 10, 3) := by decide +kernel
theorem dMo_mend_89 : decode c_Mo_mend 89 = .ok (.aload_n 0, 1) := by decide +kernel
theorem dMo_mend_90 : decode c_Mo_mend 90 = .ok (.getfield 52, 3) := by decide +kernel
theorem dMo_mend_93 : decode c_Mo_mend 93 = .ok (.goto 4, 3) := by decide +kernel
theorem dMo_mend_96 : decode c_Mo_mend 96 = .ok (.iconst 1, 1) := by decide +kernel
theorem dMo_mend_97 : decode c_Mo_mend 97 = .ok (.iadd, 1) := by decide +kernel
theorem dMo_mend_98 : decode c_Mo_mend 98 = .ok (.istore_n 3, 1) := by decide +kernel
theorem dMo_mend_99 : decode c_Mo_mend 99 = .ok (.goto (-90), 3) := by decide +kernel
theorem dMo_mend_102 : decode c_Mo_mend 102 = .ok (.aload_n 0, 1) := by decide +kernel
theorem dMo_mend_103 : decode c_Mo_mend 103 = .ok (.invokevirtual 83, 3) := by decide +kernel
theorem dMo_mend_106 : decode c_Mo_mend 106 = .ok (.pop, 1) := by decide +kernel
theorem dMo_mend_107 : decode c_Mo_mend 107 = .ok (.iload_n 2, 1) := by decide +kernel
theorem dMo_mend_108 : decode c_Mo_mend 108 = .ok (.ireturn, 1) := by decide +kernel
theorem dMo_digit_0 : decode c_Mo_digit 0 = .ok (.iload_n 0, 1) := by decide +kernel
theorem dMo_digit_1 : decode c_Mo_digit 1 = .ok (.bipush 97, 2) := by decide +kernel
theorem dMo_digit_3 : decode c_Mo_digit 3 = .ok (.bipush 122, 2) := by decide +kernel
theorem dMo_digit_5 : decode c_Mo_digit 5 = .ok (.invokestatic 38, 3) := by decide +kernel
theorem dMo_digit_8 : decode c_Mo_digit 8 = .ok (.ifCond .eq 10, 3) := by decide +kernel
theorem dMo_digit_11 : decode c_Mo_digit 11 = .ok (.iload_n 0, 1) := by decide +kernel
theorem dMo_digit_12 : decode c_Mo_digit 12 = .ok (.bipush 97, 2) := by decide +kernel
theorem dMo_digit_14 : decode c_Mo_digit 14 = .ok (.isub, 1) := by decide +kernel
theorem dMo_digit_15 : decode c_Mo_digit 15 = .ok (.goto 40, 3) := by decide +kernel
theorem dMo_digit_18 : decode c_Mo_digit 18 = .ok (.iload_n 0, 1) := by decide +kernel
theorem dMo_digit_19 : decode c_Mo_digit 19 = .ok (.bipush 65, 2) := by decide +kernel
theorem dMo_digit_21 : decode c_Mo_digit 21 = .ok (.bipush 90, 2) := by decide +kernel
theorem dMo_digit_23 : decode c_Mo_digit 23 = .ok (.invokestatic 38, 3) := by decide +kernel
theorem dMo_digit_26 : decode c_Mo_digit 26 = .ok (.ifCond .eq 10, 3) := by decide +kernel
theorem dMo_digit_29 : decode c_Mo_digit 29 = .ok (.iload_n 0, 1) := by decide +kernel
theorem dMo_digit_30 : decode c_Mo_digit 30 = .ok (.bipush 65, 2) := by decide +kernel
theorem dMo_digit_32 : decode c_Mo_digit 32 = .ok (.isub, 1) := by decide +kernel
theorem dMo_digit_33 : decode c_Mo_digit 33 = .ok (.goto 22, 3) := by decide +kernel
theorem dMo_digit_36 : decode c_Mo_digit 36 = .ok (.iload_n 0, 1) := by decide +kernel
theorem dMo_digit_37 : decode c_Mo_digit 37 = .ok (.bipush 48, 2) := by decide +kernel
theorem dMo_digit_39 : decode c_Mo_digit 39 = .ok (.bipush 57, 2) := by decide +kernel
theorem dMo_digit_41 : decode c_Mo_digit 41 = .ok (.invokestatic 38, 3) := by decide +kernel
theorem dMo_digit_44 : decode c_Mo_digit 44 = .ok (.ifCond .eq 10, 3) := by decide +kernel
theorem dMo_digit_47 : decode c_Mo_digit 47 = .ok (.iload_n 0, 1) := by decide +kernel
theorem dMo_digit_48 : decode c_Mo_digit 48 = .ok (.bipush 22, 2) := by decide +kernel
theorem dMo_digit_50 : decode c_Mo_digit 50 = .ok (.isub, 1) := by decide +kernel
theorem dMo_digit_51 : decode c_Mo_digit 51 = .ok (.goto 4, 3) := by decide +kernel
theorem dMo_digit_54 : decode c_Mo_digit 54 = .ok (.iconst (-1), 1) := by decide +kernel
theorem dMo_digit_55 : decode c_Mo_digit 55 = .ok (.ireturn, 1) := by decide +kernel
theorem dMo_threshold_0 : decode c_Mo_threshold 0 = .ok (.bipush 36, 2) := by decide +kernel
theorem dMo_threshold_2 : decode c_Mo_threshold 2 = .ok (.iload_n 0, 1) := by decide +kernel
theorem dMo_threshold_3 : decode c_Mo_threshold 3 = .ok (.imul, 1) := by decide +kernel
theorem dMo_threshold_4 : decode c_Mo_threshold 4 = .ok (.iload_n 1, 1) := by decide +kernel
theorem dMo_threshold_5 : decode c_Mo_threshold 5 = .ok (.isub, 1) := by decide +kernel
theorem dMo_threshold_6 : decode c_Mo_threshold 6 = .ok (.istore_n 2, 1) := by decide +kernel
theorem dMo_threshold_7 : decode c_Mo_threshold 7 = .ok (.iload_n 2, 1) := by decide +kernel
theorem dMo_threshold_8 : decode c_Mo_threshold 8 = .ok (.iconst 1, 1) := by decide +kernel
theorem dMo_threshold_9 : decode c_Mo_threshold 9 = .ok (.if_icmp .ge 7, 3) := by decide +kernel
theorem dMo_threshold_12 : decode c_Mo_threshold 12 = .ok (.iconst 1, 1) := by decide +kernel
theorem dMo_threshold_13 : decode c_Mo_threshold 13 = .ok (.goto 15, 3) := by decide +kernel
theorem dMo_threshold_16 : decode c_Mo_threshold 16 = .ok (.iload_n 2, 1) := by decide +kernel
theorem dMo_threshold_17 : decode c_Mo_threshold 17 = .ok (.bipush 26, 2) := by decide +kernel
theorem dMo_threshold_19 : decode c_Mo_threshold 19 = .ok (.if_icmp .le 8, 3) := by decide +kernel
theorem dMo_threshold_22 : decode c_Mo_threshold 22 = .ok (.bipush 26, 2) := by decide +kernel
theorem dMo_threshold_24 : decode c_Mo_threshold 24 = .ok (.goto 4, 3) := by decide +kernel
theorem dMo_threshold_27 : decode c_Mo_threshold 27 = .ok (.iload_n 2, 1) := by decide +kernel
theorem dMo_threshold_28 : decode c_Mo_threshold 28 = .ok (.ireturn, 1) := by decide +kernel
theorem dMo_readNumber_0 : decode c_Mo_readNumber 0 = .ok (.lconst 1, 1) := by decide +kernel
theorem dMo_readNumber_1 : decode c_Mo_readNumber 1 = .ok (.lstore_n 1, 1) := by decide +kernel
theorem dMo_readNumber_2 : decode c_Mo_readNumber 2 = .ok (.aload_n 0, 1) := by decide +kernel
theorem dMo_readNumber_3 : decode c_Mo_readNumber 3 = .ok (.lconst 0, 1) := by decide +kernel
theorem dMo_readNumber_4 : decode c_Mo_readNumber 4 = .ok (.putfield 92, 3) := by decide +kernel
theorem dMo_readNumber_7 : decode c_Mo_readNumber 7 = .ok (.iconst 1, 1) := by decide +kernel
theorem dMo_readNumber_8 : decode c_Mo_readNumber 8 = .ok (.istore_n 3, 1) := by decide +kernel
theorem dMo_readNumber_9 : decode c_Mo_readNumber 9 = .ok (.iload_n 3, 1) := by decide +kernel
theorem dMo_readNumber_10 : decode c_Mo_readNumber 10 = .ok (.ifCond .le 122, 3) := by decide +kernel
theorem dMo_readNumber_13 : decode c_Mo_readNumber 13 = .ok (.aload_n 0, 1) := by decide +kernel
theorem dMo_readNumber_14 : decode c_Mo_readNumber 14 = .ok (.getfield 96, 3) := by decide +kernel
theorem dMo_readNumber_17 : decode c_Mo_readNumber 17 = .ok (.aload_n 0, 1) := by decide +kernel
theorem dMo_readNumber_18 : decode c_Mo_readNumber 18 = .ok (.getfield 34, 3) := by decide +kernel
theorem dMo_readNumber_21 : decode c_Mo_readNumber 21 = .ok (.if_icmp .ge 18, 3) := by decide +kernel
theorem dMo_readNumber_24 : decode c_Mo_readNumber 24 = .ok (.aload_n 0, 1) := by decide +kernel
theorem dMo_readNumber_25 : decode c_Mo_readNumber 25 = .ok (.getfield 7, 3) := by decide +kernel
theorem dMo_readNumber_28 : decode c_Mo_readNumber 28 = .ok (.aload_n 0, 1) := by decide +kernel
theorem dMo_readNumber_29 : decode c_Mo_readNumber 29 = .ok (.getfield 96, 3) := by decide +kernel
theorem dMo_readNumber_32 : decode c_Mo_readNumber 32 = .ok (.iaload, 1) := by decide +kernel
theorem dMo_readNumber_33 : decode c_Mo_readNumber 33 = .ok (.invokestatic 99, 3) := by decide +kernel
theorem dMo_readNumber_36 : decode c_Mo_readNumber 36 = .ok (.goto 4, 3) := by decide +kernel
theorem dMo_readNumber_39 : decode c_Mo_readNumber 39 = .ok (.iconst (-1), 1) := by decide +kernel
theorem dMo_readNumber_40 : decode c_Mo_readNumber 40 = .ok (.istore 4, 2) := by decide +kernel
theorem dMo_readNumber_42 : decode c_Mo_readNumber 42 = .ok (.iload 4, 2) := by decide +kernel
theorem dMo_readNumber_44 : decode c_Mo_readNumber 44 = .ok (.ifCond .ge 5, 3) := by decide +kernel
theorem dMo_readNumber_47 : decode c_Mo_readNumber 47 = .ok (.iconst (-1), 1) := by decide +kernel
theorem dMo_readNumber_48 : decode c_Mo_readNumber 48 = .ok (.ireturn, 1) := by decide +kernel
theorem dMo_readNumber_49 : decode c_Mo_readNumber 49 = .ok (.aload_n 0, 1) := by decide +kernel
theorem dMo_readNumber_50 : decode c_Mo_readNumber 50 = .ok (.aload_n 0, 1) := by decide +kernel
theorem dMo_readNumber_51 : decode c_Mo_readNumber 51 = .ok (.getfield 96, 3) := by decide +kernel
theorem dMo_readNumber_54 : decode c_Mo_readNumber 54 = .ok (.iconst 1, 1) := by decide +kernel
theorem dMo_readNumber_55 : decode c_Mo_readNumber 55 = .ok (.iadd, 1) := by decide +kernel
theorem dMo_readNumber_56 : decode c_Mo_readNumber 56 = .ok (.putfield 96, 3) := by decide +kernel
theorem dMo_readNumber_59 : decode c_Mo_readNumber 59 = .ok (.aload_n 0, 1) := by decide +kernel
theorem dMo_readNumber_60 : decode c_Mo_readNumber 60 = .ok (.aload_n 0, 1) := by decide +kernel
theorem dMo_readNumber_61 : decode c_Mo_readNumber 61 = .ok (.getfield 92, 3) := by decide +kernel
theorem dMo_readNumber_64 : decode c_Mo_readNumber 64 = .ok (.iload 4, 2) := by decide +kernel
theorem dMo_readNumber_66 : decode c_Mo_readNumber 66 = .ok (.i2l, 1) := by decide +kernel
theorem dMo_readNumber_67 : decode c_Mo_readNumber 67 = .ok (.lload_n 1, 1) := by decide +kernel
theorem dMo_readNumber_68 : decode c_Mo_readNumber 68 = .ok (.lmul, 1) := by decide +kernel
theorem dMo_readNumber_69 : decode c_Mo_readNumber 69 = .ok (.ladd, 1) := by decide +kernel
theorem dMo_readNumber_70 : decode c_Mo_readNumber 70 = .ok (.putfield 92, 3) := by decide +kernel
theorem dMo_readNumber_73 : decode c_Mo_readNumber 73 = .ok (.aload_n 0, 1) := by decide +kernel
theorem dMo_readNumber_74 : decode c_Mo_readNumber 74 = .ok (.getfield 92, 3) := by decide +kernel
theorem dMo_readNumber_77 : decode c_Mo_readNumber 77 = .ok (.ldc2_w 102, 3) := by decide +kernel
theorem dMo_readNumber_80 : decode c_Mo_readNumber 80 = .ok (.lcmp, 1) := by decide +kernel
theorem dMo_readNumber_81 : decode c_Mo_readNumber 81 = .ok (.ifCond .le 6, 3) := by decide +kernel
theorem dMo_readNumber_84 : decode c_Mo_readNumber 84 = .ok (.bipush (-2), 2) := by decide +kernel
theorem dMo_readNumber_86 : decode c_Mo_readNumber 86 = .ok (.ireturn, 1) := by decide +kernel
theorem dMo_readNumber_87 : decode c_Mo_readNumber 87 = .ok (.iload_n 3, 1) := by decide +kernel
theorem dMo_readNumber_88 : decode c_Mo_readNumber 88 = .ok (.aload_n 0, 1) := by decide +kernel
theorem dMo_readNumber_89 : decode c_Mo_readNumber 89 = .ok (.getfield 104, 3) := by decide +kernel
theorem dMo_readNumber_92 : decode c_Mo_readNumber 92 = .ok (.invokestatic 107, 3) := by decide +kernel
theorem dMo_readNumber_95 : decode c_Mo_readNumber 95 = .ok (.istore 5, 2) := by decide +kernel
theorem dMo_readNumber_97 : decode c_Mo_readNumber 97 = .ok (.iload 4, 2) := by decide +kernel
theorem dMo_readNumber_99 : decode c_Mo_readNumber 99 = .ok (.iload 5, 2) := by decide +kernel
theorem dMo_readNumber_101 : decode c_Mo_readNumber 101 = .ok (.if_icmp .ge 5, 3) := by decide +kernel
theorem dMo_readNumber_104 : decode c_Mo_readNumber 104 = .ok (.iconst 0, 1) := by decide +kernel
theorem dMo_readNumber_105 : decode c_Mo_readNumber 105 = .ok (.ireturn, 1) := by decide +kernel
theorem dMo_readNumber_106 : decode c_Mo_readNumber 106 = .ok (.lload_n 1, 1) := by decide +kernel
theorem dMo_readNumber_107 : decode c_Mo_readNumber 107 = .ok (.bipush 36, 2) := by decide +kernel
theorem dMo_readNumber_109 : decode c_Mo_readNumber 109 = .ok (.iload 5, 2) := by decide +kernel
theorem dMo_readNumber_111 : decode c_Mo_readNumber 111 = .ok (.isub, 1) := by decide +kernel
theorem dMo_readNumber_112 : decode c_Mo_readNumber 112 = .ok (.i2l, 1) := by decide +kernel
theorem dMo_readNumber_113 : decode c_Mo_readNumber 113 = .ok (.lmul, 1) := by decide +kernel
theorem dMo_readNumber_114 : decode c_Mo_readNumber 114 = .ok (.lstore_n 1, 1) := by decide +kernel
theorem dMo_readNumber_115 : decode c_Mo_readNumber 115 = .ok (.lload_n 1, 1) := by decide +kernel
theorem dMo_readNumber_116 : decode c_Mo_readNumber 116 = .ok (.ldc2_w 102, 3) := by decide +kernel
theorem dMo_readNumber_119 : decode c_Mo_readNumber 119 = .ok (.lcmp, 1) := by decide +kernel
theorem dMo_readNumber_120 : decode c_Mo_readNumber 120 = .ok (.ifCond .le 6, 3) := by decide +kernel
theorem dMo_readNumber_123 : decode c_Mo_readNumber 123 = .ok (.bipush (-2), 2) := by decide +kernel
theorem dMo_readNumber_125 : decode c_Mo_readNumber 125 = .ok (.ireturn, 1) := by decide +kernel
theorem dMo_readNumber_126 : decode c_Mo_readNumber 126 = .ok (.iinc 3 1, 3) := by decide +kernel
theorem dMo_readNumber_129 : decode c_Mo_readNumber 129 = .ok (.goto (-120), 3) := by decide +kernel
theorem dMo_readNumber_132 : decode c_Mo_readNumber 132 = .ok (.iconst 0, 1) := by decide +kernel
theorem dMo_readNumber_133 : decode c_Mo_readNumber 133 = .ok (.ireturn, 1) := by decide +kernel
theorem dMo_adapted_0 : decode c_Mo_adapted 0 = .ok (.iload_n 3, 1) := by decide +kernel
theorem dMo_adapted_1 : decode c_Mo_adapted 1 = .ok (.ifCond .eq 11, 3) := by decide +kernel
theorem dMo_adapted_4 : decode c_Mo_adapted 4 = .ok (.lload_n 0, 1) := by decide +kernel
theorem dMo_adapted_5 : decode c_Mo_adapted 5 = .ok (.ldc2_w 111, 3) := by decide +kernel
theorem dMo_adapted_8 : decode c_Mo_adapted 8 = .ok (.ldiv, 1) := by decide +kernel
theorem dMo_adapted_9 : decode c_Mo_adapted 9 = .ok (.goto 8, 3) := by decide +kernel
theorem dMo_adapted_12 : decode c_Mo_adapted 12 = .ok (.lload_n 0, 1) := by decide +kernel
theorem dMo_adapted_13 : decode c_Mo_adapted 13 = .ok (.ldc2_w 113, 3) := by decide +kernel
theorem dMo_adapted_16 : decode c_Mo_adapted 16 = .ok (.ldiv, 1) := by decide +kernel
theorem dMo_adapted_17 : decode c_Mo_adapted 17 = .ok (.lstore 4, 2) := by decide +kernel
theorem dMo_adapted_19 : decode c_Mo_adapted 19 = .ok (.lload 4, 2) := by decide +kernel
theorem dMo_adapted_21 : decode c_Mo_adapted 21 = .ok (.lload 4, 2) := by decide +kernel
theorem dMo_adapted_23 : decode c_Mo_adapted 23 = .ok (.iload_n 2, 1) := by decide +kernel
theorem dMo_adapted_24 : decode c_Mo_adapted 24 = .ok (.i2l, 1) := by decide +kernel
theorem dMo_adapted_25 : decode c_Mo_adapted 25 = .ok (.ldiv, 1) := by decide +kernel
theorem dMo_adapted_26 : decode c_Mo_adapted 26 = .ok (.ladd, 1) := by decide +kernel
theorem dMo_adapted_27 : decode c_Mo_adapted 27 = .ok (.lstore 4, 2) := by decide +kernel
theorem dMo_adapted_29 : decode c_Mo_adapted 29 = .ok (.iconst 0, 1) := by decide +kernel
theorem dMo_adapted_30 : decode c_Mo_adapted 30 = .ok (.istore 6, 2) := by decide +kernel
theorem dMo_adapted_32 : decode c_Mo_adapted 32 = .ok (.lload 4, 2) := by decide +kernel
theorem dMo_adapted_34 : decode c_Mo_adapted 34 = .ok (.ldc2_w 115, 3) := by decide +kernel
theorem dMo_adapted_37 : decode c_Mo_adapted 37 = .ok (.lcmp, 1) := by decide +kernel
theorem dMo_adapted_38 : decode c_Mo_adapted 38 = .ok (.ifCond .le 20, 3) := by decide +kernel
theorem dMo_adapted_41 : decode c_Mo_adapted 41 = .ok (.lload 4, 2) := by decide +kernel
theorem dMo_adapted_43 : decode c_Mo_adapted 43 = .ok (.ldc2_w 117, 3) := by decide +kernel
theorem dMo_adapted_46 : decode c_Mo_adapted 46 = .ok (.ldiv, 1) := by decide +kernel
theorem dMo_adapted_47 : decode c_Mo_adapted 47 = .ok (.lstore 4, 2) := by decide +kernel
theorem dMo_adapted_49 : decode c_Mo_adapted 49 = .ok (.iload 6, 2) := by decide +kernel
theorem dMo_adapted_51 : decode c_Mo_adapted 51 = .ok (.iconst 1, 1) := by decide +kernel
theorem dMo_adapted_52 : decode c_Mo_adapted 52 = .ok (.iadd, 1) := by decide +kernel
theorem dMo_adapted_53 : decode c_Mo_adapted 53 = .ok (.istore 6, 2) := by decide +kernel
theorem dMo_adapted_55 : decode c_Mo_adapted 55 = .ok (.goto (-23), 3) := by decide +kernel
theorem dMo_adapted_58 : decode c_Mo_adapted 58 = .ok (.ldc2_w 119, 3) := by decide +kernel
theorem dMo_adapted_61 : decode c_Mo_adapted 61 = .ok (.iload 6, 2) := by decide +kernel
theorem dMo_adapted_63 : decode c_Mo_adapted 63 = .ok (.i2l, 1) := by decide +kernel
theorem dMo_adapted_64 : decode c_Mo_adapted 64 = .ok (.lmul, 1) := by decide +kernel
theorem dMo_adapted_65 : decode c_Mo_adapted 65 = .ok (.ldc2_w 119, 3) := by decide +kernel
theorem dMo_adapted_68 : decode c_Mo_adapted 68 = .ok (.lload 4, 2) := by decide +kernel
theorem dMo_adapted_70 : decode c_Mo_adapted 70 = .ok (.lmul, 1) := by decide +kernel
theorem dMo_adapted_71 : decode c_Mo_adapted 71 = .ok (.lload 4, 2) := by decide +kernel
theorem dMo_adapted_73 : decode c_Mo_adapted 73 = .ok (.ldc2_w 121, 3) := by decide +kernel
theorem dMo_adapted_76 : decode c_Mo_adapted 76 = .ok (.ladd, 1) := by decide +kernel
theorem dMo_adapted_77 : decode c_Mo_adapted 77 = .ok (.ldiv, 1) := by decide +kernel
theorem dMo_adapted_78 : decode c_Mo_adapted 78 = .ok (.ladd, 1) := by decide +kernel
theorem dMo_adapted_79 : decode c_Mo_adapted 79 = .ok (.l2i, 1) := by decide +kernel
theorem dMo_adapted_80 : decode c_Mo_adapted 80 = .ok (.ireturn, 1) := by decide +kernel
theorem dMo_putIn_0 : decode c_Mo_putIn 0 = .ok (.aload_n 0, 1) := by decide +kernel
theorem dMo_putIn_1 : decode c_Mo_putIn 1 = .ok (.aload_n 0, 1) := by decide +kernel
theorem dMo_putIn_2 : decode c_Mo_putIn 2 = .ok (.getfield 123, 3) := by decide +kernel
theorem dMo_putIn_5 : decode c_Mo_putIn 5 = .ok (.aload_n 0, 1) := by decide +kernel
theorem dMo_putIn_6 : decode c_Mo_putIn 6 = .ok (.getfield 92, 3) := by decide +kernel
theorem dMo_putIn_9 : decode c_Mo_putIn 9 = .ok (.ladd, 1) := by decide +kernel
theorem dMo_putIn_10 : decode c_Mo_putIn 10 = .ok (.putfield 123, 3) := by decide +kernel
theorem dMo_putIn_13 : decode c_Mo_putIn 13 = .ok (.aload_n 0, 1) := by decide +kernel
theorem dMo_putIn_14 : decode c_Mo_putIn 14 = .ok (.getfield 123, 3) := by decide +kernel
theorem dMo_putIn_17 : decode c_Mo_putIn 17 = .ok (.ldc2_w 102, 3) := by decide +kernel
theorem dMo_putIn_20 : decode c_Mo_putIn 20 = .ok (.lcmp, 1) := by decide +kernel
theorem dMo_putIn_21 : decode c_Mo_putIn 21 = .ok (.ifCond .le 6, 3) := by decide +kernel
theorem dMo_putIn_24 : decode c_Mo_putIn 24 = .ok (.bipush (-2), 2) := by decide +kernel
theorem dMo_putIn_26 : decode c_Mo_putIn 26 = .ok (.ireturn, 1) := by decide +kernel
theorem dMo_putIn_27 : decode c_Mo_putIn 27 = .ok (.aload_n 0, 1) := by decide +kernel
theorem dMo_putIn_28 : decode c_Mo_putIn 28 = .ok (.aload_n 0, 1) := by decide +kernel
theorem dMo_putIn_29 : decode c_Mo_putIn 29 = .ok (.getfield 126, 3) := by decide +kernel
theorem dMo_putIn_32 : decode c_Mo_putIn 32 = .ok (.aload_n 0, 1) := by decide +kernel
theorem dMo_putIn_33 : decode c_Mo_putIn 33 = .ok (.getfield 123, 3) := by decide +kernel
theorem dMo_putIn_36 : decode c_Mo_putIn 36 = .ok (.aload_n 0, 1) := by decide +kernel
theorem dMo_putIn_37 : decode c_Mo_putIn 37 = .ok (.getfield 73, 3) := by decide +kernel
theorem dMo_putIn_40 : decode c_Mo_putIn 40 = .ok (.iconst 1, 1) := by decide +kernel
theorem dMo_putIn_41 : decode c_Mo_putIn 41 = .ok (.iadd, 1) := by decide +kernel
theorem dMo_putIn_42 : decode c_Mo_putIn 42 = .ok (.i2l, 1) := by decide +kernel
theorem dMo_putIn_43 : decode c_Mo_putIn 43 = .ok (.ldiv, 1) := by decide +kernel
theorem dMo_putIn_44 : decode c_Mo_putIn 44 = .ok (.ladd, 1) := by decide +kernel
theorem dMo_putIn_45 : decode c_Mo_putIn 45 = .ok (.putfield 126, 3) := by decide +kernel
theorem dMo_putIn_48 : decode c_Mo_putIn 48 = .ok (.aload_n 0, 1) := by decide +kernel
theorem dMo_putIn_49 : decode c_Mo_putIn 49 = .ok (.aload_n 0, 1) := by decide +kernel
theorem dMo_putIn_50 : decode c_Mo_putIn 50 = .ok (.getfield 123, 3) := by decide +kernel
theorem dMo_putIn_53 : decode c_Mo_putIn 53 = .ok (.aload_n 0, 1) := by decide +kernel
theorem dMo_putIn_54 : decode c_Mo_putIn 54 = .ok (.getfield 73, 3) := by decide +kernel
theorem dMo_putIn_57 : decode c_Mo_putIn 57 = .ok (.iconst 1, 1) := by decide +kernel
theorem dMo_putIn_58 : decode c_Mo_putIn 58 = .ok (.iadd, 1) := by decide +kernel
theorem dMo_putIn_59 : decode c_Mo_putIn 59 = .ok (.i2l, 1) := by decide +kernel
theorem dMo_putIn_60 : decode c_Mo_putIn 60 = .ok (.lrem, 1) := by decide +kernel
theorem dMo_putIn_61 : decode c_Mo_putIn 61 = .ok (.putfield 123, 3) := by decide +kernel
theorem dMo_putIn_64 : decode c_Mo_putIn 64 = .ok (.aload_n 0, 1) := by decide +kernel
theorem dMo_putIn_65 : decode c_Mo_putIn 65 = .ok (.getfield 126, 3) := by decide +kernel
theorem dMo_putIn_68 : decode c_Mo_putIn 68 = .ok (.ldc2_w 102, 3) := by decide +kernel
theorem dMo_putIn_71 : decode c_Mo_putIn 71 = .ok (.lcmp, 1) := by decide +kernel
theorem dMo_putIn_72 : decode c_Mo_putIn 72 = .ok (.ifCond .le 6, 3) := by decide +kernel
theorem dMo_putIn_75 : decode c_Mo_putIn 75 = .ok (.bipush (-2), 2) := by decide +kernel
theorem dMo_putIn_77 : decode c_Mo_putIn 77 = .ok (.ireturn, 1) := by decide +kernel
theorem dMo_putIn_78 : decode c_Mo_putIn 78 = .ok (.aload_n 0, 1) := by decide +kernel
theorem dMo_putIn_79 : decode c_Mo_putIn 79 = .ok (.getfield 126, 3) := by decide +kernel
theorem dMo_putIn_82 : decode c_Mo_putIn 82 = .ok (.invokestatic 129, 3) := by decide +kernel
theorem dMo_putIn_85 : decode c_Mo_putIn 85 = .ok (.ifCond .ne 6, 3) := by decide +kernel
theorem dMo_putIn_88 : decode c_Mo_putIn 88 = .ok (.bipush (-4), 2) := by decide +kernel
theorem dMo_putIn_90 : decode c_Mo_putIn 90 = .ok (.ireturn, 1) := by decide +kernel
theorem dMo_putIn_91 : decode c_Mo_putIn 91 = .ok (.aload_n 0, 1) := by decide +kernel
theorem dMo_putIn_92 : decode c_Mo_putIn 92 = .ok (.getfield 73, 3) := by decide +kernel
theorem dMo_putIn_95 : decode c_Mo_putIn 95 = .ok (.bipush 120, 2) := by decide +kernel
theorem dMo_putIn_97 : decode c_Mo_putIn 97 = .ok (.if_icmp .ne 6, 3) := by decide +kernel
theorem dMo_putIn_100 : decode c_Mo_putIn 100 = .ok (.bipush (-5), 2) := by decide +kernel
theorem dMo_putIn_102 : decode c_Mo_putIn 102 = .ok (.ireturn, 1) := by decide +kernel
theorem dMo_putIn_103 : decode c_Mo_putIn 103 = .ok (.aload_n 0, 1) := by decide +kernel
theorem dMo_putIn_104 : decode c_Mo_putIn 104 = .ok (.getfield 73, 3) := by decide +kernel
theorem dMo_putIn_107 : decode c_Mo_putIn 107 = .ok (.istore_n 2, 1) := by decide +kernel
theorem dMo_putIn_108 : decode c_Mo_putIn 108 = .ok (.iload_n 2, 1) := by decide +kernel
theorem dMo_putIn_109 : decode c_Mo_putIn 109 = .ok (.i2l, 1) := by decide +kernel
theorem dMo_putIn_110 : decode c_Mo_putIn 110 = .ok (.aload_n 0, 1) := by decide +kernel
theorem dMo_putIn_111 : decode c_Mo_putIn 111 = .ok (.getfield 123, 3) := by decide +kernel
theorem dMo_putIn_114 : decode c_Mo_putIn 114 = .ok (.lcmp, 1) := by decide +kernel
theorem dMo_putIn_115 : decode c_Mo_putIn 115 = .ok (.ifCond .le 23, 3) := by decide +kernel
theorem dMo_putIn_118 : decode c_Mo_putIn 118 = .ok (.aload_n 0, 1) := by decide +kernel
theorem dMo_putIn_119 : decode c_Mo_putIn 119 = .ok (.getfield 22, 3) := by decide +kernel
theorem dMo_putIn_122 : decode c_Mo_putIn 122 = .ok (.iload_n 2, 1) := by decide +kernel
theorem dMo_putIn_123 : decode c_Mo_putIn 123 = .ok (.aload_n 0, 1) := by decide +kernel
theorem dMo_putIn_124 : decode c_Mo_putIn 124 = .ok (.getfield 22, 3) := by decide +kernel
theorem dMo_putIn_127 : decode c_Mo_putIn 127 = .ok (.iload_n 2, 1) := by decide +kernel
theorem dMo_putIn_128 : decode c_Mo_putIn 128 = .ok (.iconst 1, 1) := by decide +kernel
theorem dMo_putIn_129 : decode c_Mo_putIn 129 = .ok (.isub, 1) := by decide +kernel
theorem dMo_putIn_130 : decode c_Mo_putIn 130 = .ok (.iaload, 1) := by decide +kernel
theorem dMo_putIn_131 : decode c_Mo_putIn 131 = .ok (.iastore, 1) := by decide +kernel
theorem dMo_putIn_132 : decode c_Mo_putIn 132 = .ok (.iinc 2 (-1), 3) := by decide +kernel
theorem dMo_putIn_135 : decode c_Mo_putIn 135 = .ok (.goto (-27), 3) := by decide +kernel
theorem dMo_putIn_138 : decode c_Mo_putIn 138 = .ok (.aload_n 0, 1) := by decide +kernel
theorem dMo_putIn_139 : decode c_Mo_putIn 139 = .ok (.getfield 22, 3) := by decide +kernel
theorem dMo_putIn_142 : decode c_Mo_putIn 142 = .ok (.aload_n 0, 1) := by decide +kernel
theorem dMo_putIn_143 : decode c_Mo_putIn 143 = .ok (.getfield 123, 3) := by decide +kernel
theorem dMo_putIn_146 : decode c_Mo_putIn 146 = .ok (.l2i, 1) := by decide +kernel
theorem dMo_putIn_147 : decode c_Mo_putIn 147 = .ok (.aload_n 0, 1) := by decide +kernel
theorem dMo_putIn_148 : decode c_Mo_putIn 148 = .ok (.getfield 126, 3) := by decide +kernel
theorem dMo_putIn_151 : decode c_Mo_putIn 151 = .ok (.l2i, 1) := by decide +kernel
theorem dMo_putIn_152 : decode c_Mo_putIn 152 = .ok (.iastore, 1) := by decide +kernel
theorem dMo_putIn_153 : decode c_Mo_putIn 153 = .ok (.aload_n 0, 1) := by decide +kernel
theorem dMo_putIn_154 : decode c_Mo_putIn 154 = .ok (.aload_n 0, 1) := by decide +kernel
theorem dMo_putIn_155 : decode c_Mo_putIn 155 = .ok (.getfield 73, 3) := by decide +kernel
theorem dMo_putIn_158 : decode c_Mo_putIn 158 = .ok (.iconst 1, 1) := by decide +kernel
theorem dMo_putIn_159 : decode c_Mo_putIn 159 = .ok (.iadd, 1) := by decide +kernel
theorem dMo_putIn_160 : decode c_Mo_putIn 160 = .ok (.putfield 73, 3) := by decide +kernel
theorem dMo_putIn_163 : decode c_Mo_putIn 163 = .ok (.aload_n 0, 1) := by decide +kernel
theorem dMo_putIn_164 : decode c_Mo_putIn 164 = .ok (.aload_n 0, 1) := by decide +kernel
theorem dMo_putIn_165 : decode c_Mo_putIn 165 = .ok (.getfield 123, 3) := by decide +kernel
theorem dMo_putIn_168 : decode c_Mo_putIn 168 = .ok (.lconst 1, 1) := by decide +kernel
theorem dMo_putIn_169 : decode c_Mo_putIn 169 = .ok (.ladd, 1) := by decide +kernel
theorem dMo_putIn_170 : decode c_Mo_putIn 170 = .ok (.putfield 123, 3) := by decide +kernel
theorem dMo_putIn_173 : decode c_Mo_putIn 173 = .ok (.aload_n 0, 1) := by decide +kernel
theorem dMo_putIn_174 : decode c_Mo_putIn 174 = .ok (.aload_n 0, 1) := by decide +kernel
theorem dMo_putIn_175 : decode c_Mo_putIn 175 = .ok (.getfield 92, 3) := by decide +kernel
theorem dMo_putIn_178 : decode c_Mo_putIn 178 = .ok (.aload_n 0, 1) := by decide +kernel
theorem dMo_putIn_179 : decode c_Mo_putIn 179 = .ok (.getfield 73, 3) := by decide +kernel
theorem dMo_putIn_182 : decode c_Mo_putIn 182 = .ok (.iload_n 1, 1) := by decide +kernel
theorem dMo_putIn_183 : decode c_Mo_putIn 183 = .ok (.invokestatic 133, 3) := by decide +kernel
theorem dMo_putIn_186 : decode c_Mo_putIn 186 = .ok (.putfield 104, 3) := by decide +kernel
theorem dMo_putIn_189 : decode c_Mo_putIn 189 = .ok (.iconst 0, 1) := by decide +kernel
theorem dMo_putIn_190 : decode c_Mo_putIn 190 = .ok (.ireturn, 1) := by decide +kernel
theorem dMo_fromLetters_0 : decode c_Mo_fromLetters 0 = .ok (.iconst 0, 1) := by decide +kernel
theorem dMo_fromLetters_1 : decode c_Mo_fromLetters 1 = .ok (.istore_n 1, 1) := by decide +kernel
theorem dMo_fromLetters_2 : decode c_Mo_fromLetters 2 = .ok (.iconst 1, 1) := by decide +kernel
theorem dMo_fromLetters_3 : decode c_Mo_fromLetters 3 = .ok (.istore_n 2, 1) := by decide +kernel
theorem dMo_fromLetters_4 : decode c_Mo_fromLetters 4 = .ok (.iload_n 2, 1) := by decide +kernel
theorem dMo_fromLetters_5 : decode c_Mo_fromLetters 5 = .ok (.aload_n 0, 1) := by decide +kernel
theorem dMo_fromLetters_6 : decode c_Mo_fromLetters 6 = .ok (.getfield 34, 3) := by decide +kernel
theorem dMo_fromLetters_9 : decode c_Mo_fromLetters 9 = .ok (.if_icmp .ge 26, 3) := by decide +kernel
theorem dMo_fromLetters_12 : decode c_Mo_fromLetters 12 = .ok (.aload_n 0, 1) := by decide +kernel
theorem dMo_fromLetters_13 : decode c_Mo_fromLetters 13 = .ok (.getfield 7, 3) := by decide +kernel
theorem dMo_fromLetters_16 : decode c_Mo_fromLetters 16 = .ok (.iload_n 2, 1) := by decide +kernel
theorem dMo_fromLetters_17 : decode c_Mo_fromLetters 17 = .ok (.iaload, 1) := by decide +kernel
theorem dMo_fromLetters_18 : decode c_Mo_fromLetters 18 = .ok (.bipush 45, 2) := by decide +kernel
theorem dMo_fromLetters_20 : decode c_Mo_fromLetters 20 = .ok (.if_icmp .ne 7, 3) := by decide +kernel
theorem dMo_fromLetters_23 : decode c_Mo_fromLetters 23 = .ok (.iload_n 2, 1) := by decide +kernel
theorem dMo_fromLetters_24 : decode c_Mo_fromLetters 24 = .ok (.goto 4, 3) := by decide +kernel
theorem dMo_fromLetters_27 : decode c_Mo_fromLetters 27 = .ok (.iload_n 1, 1) := by decide +kernel
theorem dMo_fromLetters_28 : decode c_Mo_fromLetters 28 = .ok (.istore_n 1, 1) := by decide +kernel
theorem dMo_fromLetters_29 : decode c_Mo_fromLetters 29 = .ok (.iinc 2 1, 3) := by decide +kernel
theorem dMo_fromLetters_32 : decode c_Mo_fromLetters 32 = .ok (.goto (-28), 3) := by decide +kernel
theorem dMo_fromLetters_35 : decode c_Mo_fromLetters 35 = .ok (.aload_n 0, 1) := by decide +kernel
theorem dMo_fromLetters_36 : decode c_Mo_fromLetters 36 = .ok (.iconst 0, 1) := by decide +kernel
theorem dMo_fromLetters_37 : decode c_Mo_fromLetters 37 = .ok (.putfield 73, 3) := by decide +kernel
theorem dMo_fromLetters_40 : decode c_Mo_fromLetters 40 = .ok (.iconst 0, 1) := by decide +kernel
theorem dMo_fromLetters_41 : decode c_Mo_fromLetters 41 = .ok (.istore_n 2, 1) := by decide +kernel
theorem dMo_fromLetters_42 : decode c_Mo_fromLetters 42 = .ok (.iload_n 2, 1) := by decide +kernel
theorem dMo_fromLetters_43 : decode c_Mo_fromLetters 43 = .ok (.iload_n 1, 1) := by decide +kernel
theorem dMo_fromLetters_44 : decode c_Mo_fromLetters 44 = .ok (.if_icmp .ge 49, 3) := by decide +kernel
theorem dMo_fromLetters_47 : decode c_Mo_fromLetters 47 = .ok (.aload_n 0, 1) := by decide +kernel
theorem dMo_fromLetters_48 : decode c_Mo_fromLetters 48 = .ok (.getfield 7, 3) := by decide +kernel
theorem dMo_fromLetters_51 : decode c_Mo_fromLetters 51 = .ok (.iload_n 2, 1) := by decide +kernel
theorem dMo_fromLetters_52 : decode c_Mo_fromLetters 52 = .ok (.iaload, 1) := by decide +kernel
theorem dMo_fromLetters_53 : decode c_Mo_fromLetters 53 = .ok (.iconst 0, 1) := by decide +kernel
theorem dMo_fromLetters_54 : decode c_Mo_fromLetters 54 = .ok (.bipush 127, 2) := by decide +kernel
theorem dMo_fromLetters_56 : decode c_Mo_fromLetters 56 = .ok (.invokestatic 38, 3) := by decide +kernel
theorem dMo_fromLetters_59 : decode c_Mo_fromLetters 59 = .ok (.ifCond .ne 6, 3) := by decide +kernel
theorem dMo_fromLetters_62 : decode c_Mo_fromLetters 62 = .ok (.bipush (-3), 2) := by decide +kernel
theorem dMo_fromLetters_64 : decode c_Mo_fromLetters 64 = .ok (.ireturn, 1) := by decide +kernel
theorem dMo_fromLetters_65 : decode c_Mo_fromLetters 65 = .ok (.aload_n 0, 1) := by decide +kernel
theorem dMo_fromLetters_66 : decode c_Mo_fromLetters 66 = .ok (.getfield 22, 3) := by decide +kernel
theorem dMo_fromLetters_69 : decode c_Mo_fromLetters 69 = .ok (.iload_n 2, 1) := by decide +kernel
theorem dMo_fromLetters_70 : decode c_Mo_fromLetters 70 = .ok (.aload_n 0, 1) := by decide +kernel
theorem dMo_fromLetters_71 : decode c_Mo_fromLetters 71 = .ok (.getfield 7, 3) := by decide +kernel
theorem dMo_fromLetters_74 : decode c_Mo_fromLetters 74 = .ok (.iload_n 2, 1) := by decide +kernel
theorem dMo_fromLetters_75 : decode c_Mo_fromLetters 75 = .ok (.iaload, 1) := by decide +kernel
theorem dMo_fromLetters_76 : decode c_Mo_fromLetters 76 = .ok (.iastore, 1) := by decide +kernel
theorem dMo_fromLetters_77 : decode c_Mo_fromLetters 77 = .ok (.aload_n 0, 1) := by decide +kernel
theorem dMo_fromLetters_78 : decode c_Mo_fromLetters 78 = .ok (.aload_n 0, 1) := by decide +kernel
theorem dMo_fromLetters_79 : decode c_Mo_fromLetters 79 = .ok (.getfield 73, 3) := by decide +kernel
theorem dMo_fromLetters_82 : decode c_Mo_fromLetters 82 = .ok (.iconst 1, 1) := by decide +kernel
theorem dMo_fromLetters_83 : decode c_Mo_fromLetters 83 = .ok (.iadd, 1) := by decide +kernel
theorem dMo_fromLetters_84 : decode c_Mo_fromLetters 84 = .ok (.putfield 73, 3) := by decide +kernel
theorem dMo_fromLetters_87 : decode c_Mo_fromLetters 87 = .ok (.iinc 2 1, 3) := by decide +kernel
theorem dMo_fromLetters_90 : decode c_Mo_fromLetters 90 = .ok (.goto (-48), 3) := by decide +kernel
theorem dMo_fromLetters_93 : decode c_Mo_fromLetters 93 = .ok (.aload_n 0, 1) := by decide +kernel
theorem dMo_fromLetters_94 : decode c_Mo_fromLetters 94 = .ok (.iload_n 1, 1) := by decide +kernel
theorem dMo_fromLetters_95 : decode c_Mo_fromLetters 95 = .ok (.ifCond .le 9, 3) := by decide +kernel
theorem dMo_fromLetters_98 : decode c_Mo_fromLetters 98 = .ok (.iload_n 1, 1) := by decide +kernel
theorem dMo_fromLetters_99 : decode c_Mo_fromLetters 99 = .ok (.iconst 1, 1) := by decide +kernel
theorem dMo_fromLetters_100 : decode c_Mo_fromLetters 100 = .ok (.iadd, 1) := by decide +kernel
theorem dMo_fromLetters_101 : decode c_Mo_fromLetters 101 = .ok (.goto 4, 3) := by decide +kernel
theorem dMo_fromLetters_104 : decode c_Mo_fromLetters 104 = .ok (.iconst 0, 1) := by decide +kernel
theorem dMo_fromLetters_105 : decode c_Mo_fromLetters 105 = .ok (.putfield 96, 3) := by decide +kernel
theorem dMo_fromLetters_108 : decode c_Mo_fromLetters 108 = .ok (.aload_n 0, 1) := by decide +kernel
theorem dMo_fromLetters_109 : decode c_Mo_fromLetters 109 = .ok (.ldc2_w 137, 3) := by decide +kernel
theorem dMo_fromLetters_112 : decode c_Mo_fromLetters 112 = .ok (.putfield 126, 3) := by decide +kernel
theorem dMo_fromLetters_115 : decode c_Mo_fromLetters 115 = .ok (.aload_n 0, 1) := by decide +kernel
theorem dMo_fromLetters_116 : decode c_Mo_fromLetters 116 = .ok (.lconst 0, 1) := by decide +kernel
theorem dMo_fromLetters_117 : decode c_Mo_fromLetters 117 = .ok (.putfield 123, 3) := by decide +kernel
theorem dMo_fromLetters_120 : decode c_Mo_fromLetters 120 = .ok (.aload_n 0, 1) := by decide +kernel
theorem dMo_fromLetters_121 : decode c_Mo_fromLetters 121 = .ok (.bipush 72, 2) := by decide +kernel
theorem dMo_fromLetters_123 : decode c_Mo_fromLetters 123 = .ok (.putfield 104, 3) := by decide +kernel
theorem dMo_fromLetters_126 : decode c_Mo_fromLetters 126 = .ok (.iconst 1, 1) := by decide +kernel
theorem dMo_fromLetters_127 : decode c_Mo_fromLetters 127 = .ok (.istore_n 2, 1) := by decide +kernel
theorem dMo_fromLetters_128 : decode c_Mo_fromLetters 128 = .ok (.aload_n 0, 1) := by decide +kernel
theorem dMo_fromLetters_129 : decode c_Mo_fromLetters 129 = .ok (.getfield 96, 3) := by decide +kernel
theorem dMo_fromLetters_132 : decode c_Mo_fromLetters 132 = .ok (.aload_n 0, 1) := by decide +kernel
theorem dMo_fromLetters_133 : decode c_Mo_fromLetters 133 = .ok (.getfield 34, 3) := by decide +kernel
theorem dMo_fromLetters_136 : decode c_Mo_fromLetters 136 = .ok (.if_icmp .ge 33, 3) := by decide +kernel
theorem dMo_fromLetters_139 : decode c_Mo_fromLetters 139 = .ok (.aload_n 0, 1) := by decide +kernel
theorem dMo_fromLetters_140 : decode c_Mo_fromLetters 140 = .ok (.invokevirtual 139, 3) := by decide +kernel
theorem dMo_fromLetters_143 : decode c_Mo_fromLetters 143 = .ok (.istore_n 3, 1) := by decide +kernel
theorem dMo_fromLetters_144 : decode c_Mo_fromLetters 144 = .ok (.iload_n 3, 1) := by decide +kernel
theorem dMo_fromLetters_145 : decode c_Mo_fromLetters 145 = .ok (.ifCond .ge 7, 3) := by decide +kernel
theorem dMo_fromLetters_148 : decode c_Mo_fromLetters 148 = .ok (.iload_n 3, 1) := by decide +kernel
theorem dMo_fromLetters_149 : decode c_Mo_fromLetters 149 = .ok (.goto 8, 3) := by decide +kernel
theorem dMo_fromLetters_152 : decode c_Mo_fromLetters 152 = .ok (.aload_n 0, 1) := by decide +kernel
theorem dMo_fromLetters_153 : decode c_Mo_fromLetters 153 = .ok (.iload_n 2, 1) := by decide +kernel
theorem dMo_fromLetters_154 : decode c_Mo_fromLetters 154 = .ok (.invokevirtual 142, 3) := by decide +kernel
theorem dMo_fromLetters_157 : decode c_Mo_fromLetters 157 = .ok (.istore_n 3, 1) := by decide +kernel
theorem dMo_fromLetters_158 : decode c_Mo_fromLetters 158 = .ok (.iload_n 3, 1) := by decide +kernel
theorem dMo_fromLetters_159 : decode c_Mo_fromLetters 159 = .ok (.ifCond .ge 5, 3) := by decide +kernel
theorem dMo_fromLetters_162 : decode c_Mo_fromLetters 162 = .ok (.iload_n 3, 1) := by decide +kernel
theorem dMo_fromLetters_163 : decode c_Mo_fromLetters 163 = .ok (.ireturn, 1) := by decide +kernel
theorem dMo_fromLetters_164 : decode c_Mo_fromLetters 164 = .ok (.iconst 0, 1) := by decide +kernel
theorem dMo_fromLetters_165 : decode c_Mo_fromLetters 165 = .ok (.istore_n 2, 1) := by decide +kernel
theorem dMo_fromLetters_166 : decode c_Mo_fromLetters 166 = .ok (.goto (-38), 3) := by decide +kernel
theorem dMo_fromLetters_169 : decode c_Mo_fromLetters 169 = .ok (.aload_n 0, 1) := by decide +kernel
theorem dMo_fromLetters_170 : decode c_Mo_fromLetters 170 = .ok (.invokevirtual 83, 3) := by decide +kernel
theorem dMo_fromLetters_173 : decode c_Mo_fromLetters 173 = .ok (.ireturn, 1) := by decide +kernel
theorem dMo_put_0 : decode c_Mo_put 0 = .ok (.aload_n 0, 1) := by decide +kernel
theorem dMo_put_1 : decode c_Mo_put 1 = .ok (.getfield 145, 3) := by decide +kernel
theorem dMo_put_4 : decode c_Mo_put 4 = .ok (.sipush 1000, 3) := by decide +kernel
theorem dMo_put_7 : decode c_Mo_put 7 = .ok (.if_icmp .ge 13, 3) := by decide +kernel
theorem dMo_put_10 : decode c_Mo_put 10 = .ok (.aload_n 0, 1) := by decide +kernel
theorem dMo_put_11 : decode c_Mo_put 11 = .ok (.getfield 25, 3) := by decide +kernel
