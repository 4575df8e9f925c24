theorem dLe_init_0 : decode c_Le_init 0 = .ok (.aload_n 0, 1) := by decide +kernel
theorem dLe_init_1 : decode c_Le_init 1 = .ok (.invokespecial 3, 3) := by decide +kernel
theorem dLe_init_4 : decode c_Le_init 4 = .ok (.return_, 1) := by decide +kernel
theorem dLe_begin_0 : decode c_Le_begin 0 = .ok (.aload_n 0, 1) := by decide +kernel
theorem dLe_begin_1 : decode c_Le_begin 1 = .ok (.sipush 128, 3) := by decide +kernel
theorem dLe_begin_4 : decode c_Le_begin 4 = .ok (.putfield 11, 3) := by decide +kernel
theorem dLe_begin_7 : decode c_Le_begin 7 = .ok (.aload_n 0, 1) := by decide +kernel
theorem dLe_begin_8 : decode c_Le_begin 8 = .ok (.iconst 0, 1) := by decide +kernel
theorem dLe_begin_9 : decode c_Le_begin 9 = .ok (.putfield 15, 3) := by decide +kernel
theorem dLe_begin_12 : decode c_Le_begin 12 = .ok (.aload_n 0, 1) := by decide +kernel
theorem dLe_begin_13 : decode c_Le_begin 13 = .ok (.bipush 72, 2) := by decide +kernel
theorem dLe_begin_15 : decode c_Le_begin 15 = .ok (.putfield 18, 3) := by decide +kernel
theorem dLe_begin_18 : decode c_Le_begin 18 = .ok (.aload_n 0, 1) := by decide +kernel
theorem dLe_begin_19 : decode c_Le_begin 19 = .ok (.iconst 1, 1) := by decide +kernel
theorem dLe_begin_20 : decode c_Le_begin 20 = .ok (.putfield 21, 3) := by decide +kernel
theorem dLe_begin_23 : decode c_Le_begin 23 = .ok (.return_, 1) := by decide +kernel
theorem dLe_readAll_0 : decode c_Le_readAll 0 = .ok (.aload_n 0, 1) := by decide +kernel
theorem dLe_readAll_1 : decode c_Le_readAll 1 = .ok (.invokevirtual 25, 3) := by decide +kernel
theorem dLe_readAll_4 : decode c_Le_readAll 4 = .ok (.aload_n 2, 1) := by decide +kernel
theorem dLe_readAll_5 : decode c_Le_readAll 5 = .ok (.invokevirtual 28, 3) := by decide +kernel
theorem dLe_readAll_8 : decode c_Le_readAll 8 = .ok (.aload_n 1, 1) := by decide +kernel
theorem dLe_readAll_9 : decode c_Le_readAll 9 = .ok (.invokestatic 33, 3) := by decide +kernel
theorem dLe_readAll_12 : decode c_Le_readAll 12 = .ok (.istore_n 3, 1) := by decide +kernel
theorem dLe_readAll_13 : decode c_Le_readAll 13 = .ok (.iconst 0, 1) := by decide +kernel
theorem dLe_readAll_14 : decode c_Le_readAll 14 = .ok (.istore 4, 2) := by decide +kernel
theorem dLe_readAll_16 : decode c_Le_readAll 16 = .ok (.iload 4, 2) := by decide +kernel
theorem dLe_readAll_18 : decode c_Le_readAll 18 = .ok (.iload_n 3, 1) := by decide +kernel
theorem dLe_readAll_19 : decode c_Le_readAll 19 = .ok (.if_icmp .ge 40, 3) := by decide +kernel
theorem dLe_readAll_22 : decode c_Le_readAll 22 = .ok (.aload_n 1, 1) := by decide +kernel
theorem dLe_readAll_23 : decode c_Le_readAll 23 = .ok (.iload 4, 2) := by decide +kernel
theorem dLe_readAll_25 : decode c_Le_readAll 25 = .ok (.invokevirtual 37, 3) := by decide +kernel
theorem dLe_readAll_28 : decode c_Le_readAll 28 = .ok (.istore 5, 2) := by decide +kernel
theorem dLe_readAll_30 : decode c_Le_readAll 30 = .ok (.iload 5, 2) := by decide +kernel
theorem dLe_readAll_32 : decode c_Le_readAll 32 = .ok (.ifCond .lt 11, 3) := by decide +kernel
theorem dLe_readAll_35 : decode c_Le_readAll 35 = .ok (.iload 5, 2) := by decide +kernel
theorem dLe_readAll_37 : decode c_Le_readAll 37 = .ok (.sipush 128, 3) := by decide +kernel
theorem dLe_readAll_40 : decode c_Le_readAll 40 = .ok (.if_icmp .lt 6, 3) := by decide +kernel
theorem dLe_readAll_43 : decode c_Le_readAll 43 = .ok (.bipush (-3), 2) := by decide +kernel
theorem dLe_readAll_45 : decode c_Le_readAll 45 = .ok (.ireturn, 1) := by decide +kernel
theorem dLe_readAll_46 : decode c_Le_readAll 46 = .ok (.aload_n 2, 1) := by decide +kernel
theorem dLe_readAll_47 : decode c_Le_readAll 47 = .ok (.iload 5, 2) := by decide +kernel
theorem dLe_readAll_49 : decode c_Le_readAll 49 = .ok (.invokevirtual 41, 3) := by decide +kernel
theorem dLe_readAll_52 : decode c_Le_readAll 52 = .ok (.pop, 1) := by decide +kernel
theorem dLe_readAll_53 : decode c_Le_readAll 53 = .ok (.iinc 4 1, 3) := by decide +kernel
theorem dLe_readAll_56 : decode c_Le_readAll 56 = .ok (.goto (-40), 3) := by decide +kernel
theorem dLe_readAll_59 : decode c_Le_readAll 59 = .ok (.aload_n 0, 1) := by decide +kernel
theorem dLe_readAll_60 : decode c_Le_readAll 60 = .ok (.iload_n 3, 1) := by decide +kernel
theorem dLe_readAll_61 : decode c_Le_readAll 61 = .ok (.ifCond .ne 7, 3) := by decide +kernel
theorem dLe_readAll_64 : decode c_Le_readAll 64 = .ok (.iconst 0, 1) := by decide +kernel
theorem dLe_readAll_65 : decode c_Le_readAll 65 = .ok (.goto 6, 3) := by decide +kernel
theorem dLe_readAll_68 : decode c_Le_readAll 68 = .ok (.iload_n 3, 1) := by decide +kernel
theorem dLe_readAll_69 : decode c_Le_readAll 69 = .ok (.iconst 1, 1) := by decide +kernel
theorem dLe_readAll_70 : decode c_Le_readAll 70 = .ok (.iadd, 1) := by decide +kernel
theorem dLe_readAll_71 : decode c_Le_readAll 71 = .ok (.putfield 45, 3) := by decide +kernel
theorem dLe_readAll_74 : decode c_Le_readAll 74 = .ok (.iconst 0, 1) := by decide +kernel
theorem dLe_readAll_75 : decode c_Le_readAll 75 = .ok (.istore 4, 2) := by decide +kernel
theorem dLe_readAll_77 : decode c_Le_readAll 77 = .ok (.iload 4, 2) := by decide +kernel
theorem dLe_readAll_79 : decode c_Le_readAll 79 = .ok (.aload_n 1, 1) := by decide +kernel
theorem dLe_readAll_80 : decode c_Le_readAll 80 = .ok (.getfield 48, 3) := by decide +kernel
theorem dLe_readAll_83 : decode c_Le_readAll 83 = .ok (.if_icmp .ge 54, 3) := by decide +kernel
theorem dLe_readAll_86 : decode c_Le_readAll 86 = .ok (.aload_n 0, 1) := by decide +kernel
theorem dLe_readAll_87 : decode c_Le_readAll 87 = .ok (.getfield 45, 3) := by decide +kernel
theorem dLe_readAll_90 : decode c_Le_readAll 90 = .ok (.aload_n 1, 1) := by decide +kernel
theorem dLe_readAll_91 : decode c_Le_readAll 91 = .ok (.getfield 48, 3) := by decide +kernel
theorem dLe_readAll_94 : decode c_Le_readAll 94 = .ok (.if_icmp .ge 43, 3) := by decide +kernel
theorem dLe_readAll_97 : decode c_Le_readAll 97 = .ok (.aload_n 0, 1) := by decide +kernel
theorem dLe_readAll_98 : decode c_Le_readAll 98 = .ok (.aload_n 1, 1) := by decide +kernel
theorem dLe_readAll_99 : decode c_Le_readAll 99 = .ok (.invokevirtual 51, 3) := by decide +kernel
theorem dLe_readAll_102 : decode c_Le_readAll 102 = .ok (.istore 5, 2) := by decide +kernel
theorem dLe_readAll_104 : decode c_Le_readAll 104 = .ok (.iload 5, 2) := by decide +kernel
theorem dLe_readAll_106 : decode c_Le_readAll 106 = .ok (.ifCond .ge 8, 3) := by decide +kernel
theorem dLe_readAll_109 : decode c_Le_readAll 109 = .ok (.iload 5, 2) := by decide +kernel
theorem dLe_readAll_111 : decode c_Le_readAll 111 = .ok (.goto 10, 3) := by decide +kernel
theorem dLe_readAll_114 : decode c_Le_readAll 114 = .ok (.aload_n 0, 1) := by decide +kernel
theorem dLe_readAll_115 : decode c_Le_readAll 115 = .ok (.iload 5, 2) := by decide +kernel
theorem dLe_readAll_117 : decode c_Le_readAll 117 = .ok (.aload_n 2, 1) := by decide +kernel
theorem dLe_readAll_118 : decode c_Le_readAll 118 = .ok (.invokevirtual 54, 3) := by decide +kernel
theorem dLe_readAll_121 : decode c_Le_readAll 121 = .ok (.istore 6, 2) := by decide +kernel
theorem dLe_readAll_123 : decode c_Le_readAll 123 = .ok (.iload 6, 2) := by decide +kernel
theorem dLe_readAll_125 : decode c_Le_readAll 125 = .ok (.ifCond .ge 6, 3) := by decide +kernel
theorem dLe_readAll_128 : decode c_Le_readAll 128 = .ok (.iload 6, 2) := by decide +kernel
theorem dLe_readAll_130 : decode c_Le_readAll 130 = .ok (.ireturn, 1) := by decide +kernel
theorem dLe_readAll_131 : decode c_Le_readAll 131 = .ok (.iinc 4 1, 3) := by decide +kernel
theorem dLe_readAll_134 : decode c_Le_readAll 134 = .ok (.goto (-57), 3) := by decide +kernel
theorem dLe_readAll_137 : decode c_Le_readAll 137 = .ok (.aload_n 2, 1) := by decide +kernel
theorem dLe_readAll_138 : decode c_Le_readAll 138 = .ok (.getfield 48, 3) := by decide +kernel
theorem dLe_readAll_141 : decode c_Le_readAll 141 = .ok (.ireturn, 1) := by decide +kernel
theorem dLe_lastHyphen_0 : decode c_Le_lastHyphen 0 = .ok (.aload_n 0, 1) := by decide +kernel
theorem dLe_lastHyphen_1 : decode c_Le_lastHyphen 1 = .ok (.getfield 48, 3) := by decide +kernel
theorem dLe_lastHyphen_4 : decode c_Le_lastHyphen 4 = .ok (.iconst 1, 1) := by decide +kernel
theorem dLe_lastHyphen_5 : decode c_Le_lastHyphen 5 = .ok (.isub, 1) := by decide +kernel
theorem dLe_lastHyphen_6 : decode c_Le_lastHyphen 6 = .ok (.istore_n 1, 1) := by decide +kernel
theorem dLe_lastHyphen_7 : decode c_Le_lastHyphen 7 = .ok (.iload_n 1, 1) := by decide +kernel
theorem dLe_lastHyphen_8 : decode c_Le_lastHyphen 8 = .ok (.ifCond .le 21, 3) := by decide +kernel
theorem dLe_lastHyphen_11 : decode c_Le_lastHyphen 11 = .ok (.aload_n 0, 1) := by decide +kernel
theorem dLe_lastHyphen_12 : decode c_Le_lastHyphen 12 = .ok (.iload_n 1, 1) := by decide +kernel
theorem dLe_lastHyphen_13 : decode c_Le_lastHyphen 13 = .ok (.invokevirtual 37, 3) := by decide +kernel
theorem dLe_lastHyphen_16 : decode c_Le_lastHyphen 16 = .ok (.bipush 45, 2) := by decide +kernel
theorem dLe_lastHyphen_18 : decode c_Le_lastHyphen 18 = .ok (.if_icmp .ne 5, 3) := by decide +kernel
theorem dLe_lastHyphen_21 : decode c_Le_lastHyphen 21 = .ok (.iload_n 1, 1) := by decide +kernel
theorem dLe_lastHyphen_22 : decode c_Le_lastHyphen 22 = .ok (.ireturn, 1) := by decide +kernel
theorem dLe_lastHyphen_23 : decode c_Le_lastHyphen 23 = .ok (.iinc 1 (-1), 3) := by decide +kernel
theorem dLe_lastHyphen_26 : decode c_Le_lastHyphen 26 = .ok (.goto (-19), 3) := by decide +kernel
theorem dLe_lastHyphen_29 : decode c_Le_lastHyphen 29 = .ok (.iconst 0, 1) := by decide +kernel
theorem dLe_lastHyphen_30 : decode c_Le_lastHyphen 30 = .ok (.ireturn, 1) := by decide +kernel
theorem dLe_readNumber_0 : decode c_Le_readNumber 0 = .ok (.lconst 0, 1) := by decide +kernel
theorem dLe_readNumber_1 : decode c_Le_readNumber 1 = .ok (.lstore_n 2, 1) := by decide +kernel
theorem dLe_readNumber_2 : decode c_Le_readNumber 2 = .ok (.lconst 1, 1) := by decide +kernel
theorem dLe_readNumber_3 : decode c_Le_readNumber 3 = .ok (.lstore 4, 2) := by decide +kernel
theorem dLe_readNumber_5 : decode c_Le_readNumber 5 = .ok (.iconst 1, 1) := by decide +kernel
theorem dLe_readNumber_6 : decode c_Le_readNumber 6 = .ok (.istore 6, 2) := by decide +kernel
theorem dLe_readNumber_8 : decode c_Le_readNumber 8 = .ok (.iload 6, 2) := by decide +kernel
theorem dLe_readNumber_10 : decode c_Le_readNumber 10 = .ok (.aload_n 1, 1) := by decide +kernel
theorem dLe_readNumber_11 : decode c_Le_readNumber 11 = .ok (.getfield 48, 3) := by decide +kernel
theorem dLe_readNumber_14 : decode c_Le_readNumber 14 = .ok (.if_icmp .gt 101, 3) := by decide +kernel
theorem dLe_readNumber_17 : decode c_Le_readNumber 17 = .ok (.aload_n 1, 1) := by decide +kernel
theorem dLe_readNumber_18 : decode c_Le_readNumber 18 = .ok (.aload_n 0, 1) := by decide +kernel
theorem dLe_readNumber_19 : decode c_Le_readNumber 19 = .ok (.getfield 45, 3) := by decide +kernel
theorem dLe_readNumber_22 : decode c_Le_readNumber 22 = .ok (.invokevirtual 37, 3) := by decide +kernel
theorem dLe_readNumber_25 : decode c_Le_readNumber 25 = .ok (.invokestatic 58, 3) := by decide +kernel
theorem dLe_readNumber_28 : decode c_Le_readNumber 28 = .ok (.istore 7, 2) := by decide +kernel
theorem dLe_readNumber_30 : decode c_Le_readNumber 30 = .ok (.iload 7, 2) := by decide +kernel
theorem dLe_readNumber_32 : decode c_Le_readNumber 32 = .ok (.iconst (-1), 1) := by decide +kernel
theorem dLe_readNumber_33 : decode c_Le_readNumber 33 = .ok (.if_icmp .ne 5, 3) := by decide +kernel
theorem dLe_readNumber_36 : decode c_Le_readNumber 36 = .ok (.iconst (-1), 1) := by decide +kernel
theorem dLe_readNumber_37 : decode c_Le_readNumber 37 = .ok (.ireturn, 1) := by decide +kernel
theorem dLe_readNumber_38 : decode c_Le_readNumber 38 = .ok (.aload_n 0, 1) := by decide +kernel
theorem dLe_readNumber_39 : decode c_Le_readNumber 39 = .ok (.dup, 1) := by decide +kernel
theorem dLe_readNumber_40 : decode c_Le_readNumber 40 = .ok (.getfield 45, 3) := by decide +kernel
theorem dLe_readNumber_43 : decode c_Le_readNumber 43 = .ok (.iconst 1, 1) := by decide +kernel
theorem dLe_readNumber_44 : decode c_Le_readNumber 44 = .ok (.iadd, 1) := by decide +kernel
theorem dLe_readNumber_45 : decode c_Le_readNumber 45 = .ok (.putfield 45, 3) := by decide +kernel
theorem dLe_readNumber_48 : decode c_Le_readNumber 48 = .ok (.lload_n 2, 1) := by decide +kernel
theorem dLe_readNumber_49 : decode c_Le_readNumber 49 = .ok (.iload 7, 2) := by decide +kernel
theorem dLe_readNumber_51 : decode c_Le_readNumber 51 = .ok (.i2l, 1) := by decide +kernel
theorem dLe_readNumber_52 : decode c_Le_readNumber 52 = .ok (.lload 4, 2) := by decide +kernel
theorem dLe_readNumber_54 : decode c_Le_readNumber 54 = .ok (.lmul, 1) := by decide +kernel
theorem dLe_readNumber_55 : decode c_Le_readNumber 55 = .ok (.ladd, 1) := by decide +kernel
theorem dLe_readNumber_56 : decode c_Le_readNumber 56 = .ok (.lstore_n 2, 1) := by decide +kernel
theorem dLe_readNumber_57 : decode c_Le_readNumber 57 = .ok (.lload_n 2, 1) := by decide +kernel
theorem dLe_readNumber_58 : decode c_Le_readNumber 58 = .ok (.ldc2_w 63, 3) := by decide +kernel
theorem dLe_readNumber_61 : decode c_Le_readNumber 61 = .ok (.lcmp, 1) := by decide +kernel
theorem dLe_readNumber_62 : decode c_Le_readNumber 62 = .ok (.ifCond .le 6, 3) := by decide +kernel
theorem dLe_readNumber_65 : decode c_Le_readNumber 65 = .ok (.bipush (-2), 2) := by decide +kernel
theorem dLe_readNumber_67 : decode c_Le_readNumber 67 = .ok (.ireturn, 1) := by decide +kernel
theorem dLe_readNumber_68 : decode c_Le_readNumber 68 = .ok (.aload_n 0, 1) := by decide +kernel
theorem dLe_readNumber_69 : decode c_Le_readNumber 69 = .ok (.iload 6, 2) := by decide +kernel
theorem dLe_readNumber_71 : decode c_Le_readNumber 71 = .ok (.invokevirtual 65, 3) := by decide +kernel
theorem dLe_readNumber_74 : decode c_Le_readNumber 74 = .ok (.istore 8, 2) := by decide +kernel
theorem dLe_readNumber_76 : decode c_Le_readNumber 76 = .ok (.iload 7, 2) := by decide +kernel
theorem dLe_readNumber_78 : decode c_Le_readNumber 78 = .ok (.iload 8, 2) := by decide +kernel
theorem dLe_readNumber_80 : decode c_Le_readNumber 80 = .ok (.if_icmp .ge 6, 3) := by decide +kernel
theorem dLe_readNumber_83 : decode c_Le_readNumber 83 = .ok (.lload_n 2, 1) := by decide +kernel
theorem dLe_readNumber_84 : decode c_Le_readNumber 84 = .ok (.l2i, 1) := by decide +kernel
theorem dLe_readNumber_85 : decode c_Le_readNumber 85 = .ok (.ireturn, 1) := by decide +kernel
theorem dLe_readNumber_86 : decode c_Le_readNumber 86 = .ok (.lload 4, 2) := by decide +kernel
theorem dLe_readNumber_88 : decode c_Le_readNumber 88 = .ok (.bipush 36, 2) := by decide +kernel
theorem dLe_readNumber_90 : decode c_Le_readNumber 90 = .ok (.iload 8, 2) := by decide +kernel
theorem dLe_readNumber_92 : decode c_Le_readNumber 92 = .ok (.isub, 1) := by decide +kernel
theorem dLe_readNumber_93 : decode c_Le_readNumber 93 = .ok (.i2l, 1) := by decide +kernel
theorem dLe_readNumber_94 : decode c_Le_readNumber 94 = .ok (.lmul, 1) := by decide +kernel
theorem dLe_readNumber_95 : decode c_Le_readNumber 95 = .ok (.lstore 4, 2) := by decide +kernel
theorem dLe_readNumber_97 : decode c_Le_readNumber 97 = .ok (.lload 4, 2) := by decide +kernel
theorem dLe_readNumber_99 : decode c_Le_readNumber 99 = .ok (.ldc2_w 63, 3) := by decide +kernel
theorem dLe_readNumber_102 : decode c_Le_readNumber 102 = .ok (.lcmp, 1) := by decide +kernel
theorem dLe_readNumber_103 : decode c_Le_readNumber 103 = .ok (.ifCond .le 6, 3) := by decide +kernel
theorem dLe_readNumber_106 : decode c_Le_readNumber 106 = .ok (.bipush (-2), 2) := by decide +kernel
theorem dLe_readNumber_108 : decode c_Le_readNumber 108 = .ok (.ireturn, 1) := by decide +kernel
theorem dLe_readNumber_109 : decode c_Le_readNumber 109 = .ok (.iinc 6 1, 3) := by decide +kernel
theorem dLe_readNumber_112 : decode c_Le_readNumber 112 = .ok (.goto (-104), 3) := by decide +kernel
theorem dLe_readNumber_115 : decode c_Le_readNumber 115 = .ok (.iconst (-1), 1) := by decide +kernel
theorem dLe_readNumber_116 : decode c_Le_readNumber 116 = .ok (.ireturn, 1) := by decide +kernel
theorem dLe_putIn_0 : decode c_Le_putIn 0 = .ok (.aload_n 2, 1) := by decide +kernel
theorem dLe_putIn_1 : decode c_Le_putIn 1 = .ok (.getfield 48, 3) := by decide +kernel
theorem dLe_putIn_4 : decode c_Le_putIn 4 = .ok (.iconst 1, 1) := by decide +kernel
theorem dLe_putIn_5 : decode c_Le_putIn 5 = .ok (.iadd, 1) := by decide +kernel
theorem dLe_putIn_6 : decode c_Le_putIn 6 = .ok (.istore_n 3, 1) := by decide +kernel
theorem dLe_putIn_7 : decode c_Le_putIn 7 = .ok (.aload_n 0, 1) := by decide +kernel
theorem dLe_putIn_8 : decode c_Le_putIn 8 = .ok (.getfield 15, 3) := by decide +kernel
theorem dLe_putIn_11 : decode c_Le_putIn 11 = .ok (.i2l, 1) := by decide +kernel
theorem dLe_putIn_12 : decode c_Le_putIn 12 = .ok (.iload_n 1, 1) := by decide +kernel
theorem dLe_putIn_13 : decode c_Le_putIn 13 = .ok (.i2l, 1) := by decide +kernel
theorem dLe_putIn_14 : decode c_Le_putIn 14 = .ok (.ladd, 1) := by decide +kernel
theorem dLe_putIn_15 : decode c_Le_putIn 15 = .ok (.lstore 4, 2) := by decide +kernel
theorem dLe_putIn_17 : decode c_Le_putIn 17 = .ok (.aload_n 0, 1) := by decide +kernel
theorem dLe_putIn_18 : decode c_Le_putIn 18 = .ok (.getfield 11, 3) := by decide +kernel
theorem dLe_putIn_21 : decode c_Le_putIn 21 = .ok (.i2l, 1) := by decide +kernel
theorem dLe_putIn_22 : decode c_Le_putIn 22 = .ok (.lload 4, 2) := by decide +kernel
theorem dLe_putIn_24 : decode c_Le_putIn 24 = .ok (.iload_n 3, 1) := by decide +kernel
theorem dLe_putIn_25 : decode c_Le_putIn 25 = .ok (.i2l, 1) := by decide +kernel
theorem dLe_putIn_26 : decode c_Le_putIn 26 = .ok (.ldiv, 1) := by decide +kernel
theorem dLe_putIn_27 : decode c_Le_putIn 27 = .ok (.ladd, 1) := by decide +kernel
theorem dLe_putIn_28 : decode c_Le_putIn 28 = .ok (.lstore 6, 2) := by decide +kernel
theorem dLe_putIn_30 : decode c_Le_putIn 30 = .ok (.lload 4, 2) := by decide +kernel
theorem dLe_putIn_32 : decode c_Le_putIn 32 = .ok (.ldc2_w 63, 3) := by decide +kernel
theorem dLe_putIn_35 : decode c_Le_putIn 35 = .ok (.lcmp, 1) := by decide +kernel
theorem dLe_putIn_36 : decode c_Le_putIn 36 = .ok (.ifCond .gt 12, 3) := by decide +kernel
theorem dLe_putIn_39 : decode c_Le_putIn 39 = .ok (.lload 6, 2) := by decide +kernel
theorem dLe_putIn_41 : decode c_Le_putIn 41 = .ok (.ldc2_w 63, 3) := by decide +kernel
theorem dLe_putIn_44 : decode c_Le_putIn 44 = .ok (.lcmp, 1) := by decide +kernel
theorem dLe_putIn_45 : decode c_Le_putIn 45 = .ok (.ifCond .le 6, 3) := by decide +kernel
theorem dLe_putIn_48 : decode c_Le_putIn 48 = .ok (.bipush (-2), 2) := by decide +kernel
theorem dLe_putIn_50 : decode c_Le_putIn 50 = .ok (.ireturn, 1) := by decide +kernel
theorem dLe_putIn_51 : decode c_Le_putIn 51 = .ok (.lload 6, 2) := by decide +kernel
theorem dLe_putIn_53 : decode c_Le_putIn 53 = .ok (.l2i, 1) := by decide +kernel
theorem dLe_putIn_54 : decode c_Le_putIn 54 = .ok (.invokestatic 68, 3) := by decide +kernel
theorem dLe_putIn_57 : decode c_Le_putIn 57 = .ok (.ifCond .ne 6, 3) := by decide +kernel
theorem dLe_putIn_60 : decode c_Le_putIn 60 = .ok (.bipush (-4), 2) := by decide +kernel
theorem dLe_putIn_62 : decode c_Le_putIn 62 = .ok (.ireturn, 1) := by decide +kernel
theorem dLe_putIn_63 : decode c_Le_putIn 63 = .ok (.lload 4, 2) := by decide +kernel
theorem dLe_putIn_65 : decode c_Le_putIn 65 = .ok (.iload_n 3, 1) := by decide +kernel
theorem dLe_putIn_66 : decode c_Le_putIn 66 = .ok (.i2l, 1) := by decide +kernel
theorem dLe_putIn_67 : decode c_Le_putIn 67 = .ok (.lrem, 1) := by decide +kernel
theorem dLe_putIn_68 : decode c_Le_putIn 68 = .ok (.l2i, 1) := by decide +kernel
theorem dLe_putIn_69 : decode c_Le_putIn 69 = .ok (.istore 8, 2) := by decide +kernel
theorem dLe_putIn_71 : decode c_Le_putIn 71 = .ok (.aload_n 2, 1) := by decide +kernel
theorem dLe_putIn_72 : decode c_Le_putIn 72 = .ok (.iload 8, 2) := by decide +kernel
theorem dLe_putIn_74 : decode c_Le_putIn 74 = .ok (.lload 6, 2) := by decide +kernel
theorem dLe_putIn_76 : decode c_Le_putIn 76 = .ok (.l2i, 1) := by decide +kernel
theorem dLe_putIn_77 : decode c_Le_putIn 77 = .ok (.invokevirtual 71, 3) := by decide +kernel
theorem dLe_putIn_80 : decode c_Le_putIn 80 = .ok (.pop, 1) := by decide +kernel
theorem dLe_putIn_81 : decode c_Le_putIn 81 = .ok (.aload_n 0, 1) := by decide +kernel
theorem dLe_putIn_82 : decode c_Le_putIn 82 = .ok (.lload 6, 2) := by decide +kernel
theorem dLe_putIn_84 : decode c_Le_putIn 84 = .ok (.l2i, 1) := by decide +kernel
theorem dLe_putIn_85 : decode c_Le_putIn 85 = .ok (.iload 8, 2) := by decide +kernel
theorem dLe_putIn_87 : decode c_Le_putIn 87 = .ok (.iload_n 1, 1) := by decide +kernel
theorem dLe_putIn_88 : decode c_Le_putIn 88 = .ok (.iload_n 3, 1) := by decide +kernel
theorem dLe_putIn_89 : decode c_Le_putIn 89 = .ok (.invokevirtual 75, 3) := by decide +kernel
theorem dLe_putIn_92 : decode c_Le_putIn 92 = .ok (.iconst 0, 1) := by decide +kernel
theorem dLe_putIn_93 : decode c_Le_putIn 93 = .ok (.ireturn, 1) := by decide +kernel
theorem dLe_goBehind_0 : decode c_Le_goBehind 0 = .ok (.aload_n 0, 1) := by decide +kernel
theorem dLe_goBehind_1 : decode c_Le_goBehind 1 = .ok (.iload_n 1, 1) := by decide +kernel
theorem dLe_goBehind_2 : decode c_Le_goBehind 2 = .ok (.putfield 11, 3) := by decide +kernel
theorem dLe_goBehind_5 : decode c_Le_goBehind 5 = .ok (.aload_n 0, 1) := by decide +kernel
theorem dLe_goBehind_6 : decode c_Le_goBehind 6 = .ok (.iload_n 2, 1) := by decide +kernel
theorem dLe_goBehind_7 : decode c_Le_goBehind 7 = .ok (.iconst 1, 1) := by decide +kernel
theorem dLe_goBehind_8 : decode c_Le_goBehind 8 = .ok (.iadd, 1) := by decide +kernel
theorem dLe_goBehind_9 : decode c_Le_goBehind 9 = .ok (.putfield 15, 3) := by decide +kernel
theorem dLe_goBehind_12 : decode c_Le_goBehind 12 = .ok (.aload_n 0, 1) := by decide +kernel
theorem dLe_goBehind_13 : decode c_Le_goBehind 13 = .ok (.aload_n 0, 1) := by decide +kernel
theorem dLe_goBehind_14 : decode c_Le_goBehind 14 = .ok (.iload_n 3, 1) := by decide +kernel
theorem dLe_goBehind_15 : decode c_Le_goBehind 15 = .ok (.iload 4, 2) := by decide +kernel
theorem dLe_goBehind_17 : decode c_Le_goBehind 17 = .ok (.invokevirtual 79, 3) := by decide +kernel
theorem dLe_goBehind_20 : decode c_Le_goBehind 20 = .ok (.putfield 18, 3) := by decide +kernel
theorem dLe_goBehind_23 : decode c_Le_goBehind 23 = .ok (.aload_n 0, 1) := by decide +kernel
theorem dLe_goBehind_24 : decode c_Le_goBehind 24 = .ok (.iconst 0, 1) := by decide +kernel
theorem dLe_goBehind_25 : decode c_Le_goBehind 25 = .ok (.putfield 21, 3) := by decide +kernel
theorem dLe_goBehind_28 : decode c_Le_goBehind 28 = .ok (.return_, 1) := by decide +kernel
theorem dLe_biasBehind_0 : decode c_Le_biasBehind 0 = .ok (.aload_n 0, 1) := by decide +kernel
theorem dLe_biasBehind_1 : decode c_Le_biasBehind 1 = .ok (.getfield 21, 3) := by decide +kernel
theorem dLe_biasBehind_4 : decode c_Le_biasBehind 4 = .ok (.ifCond .eq 11, 3) := by decide +kernel
theorem dLe_biasBehind_7 : decode c_Le_biasBehind 7 = .ok (.iload_n 1, 1) := by decide +kernel
theorem dLe_biasBehind_8 : decode c_Le_biasBehind 8 = .ok (.sipush 700, 3) := by decide +kernel
theorem dLe_biasBehind_11 : decode c_Le_biasBehind 11 = .ok (.idiv, 1) := by decide +kernel
theorem dLe_biasBehind_12 : decode c_Le_biasBehind 12 = .ok (.goto 6, 3) := by decide +kernel
theorem dLe_biasBehind_15 : decode c_Le_biasBehind 15 = .ok (.iload_n 1, 1) := by decide +kernel
theorem dLe_biasBehind_16 : decode c_Le_biasBehind 16 = .ok (.iconst 2, 1) := by decide +kernel
theorem dLe_biasBehind_17 : decode c_Le_biasBehind 17 = .ok (.idiv, 1) := by decide +kernel
theorem dLe_biasBehind_18 : decode c_Le_biasBehind 18 = .ok (.istore_n 3, 1) := by decide +kernel
theorem dLe_biasBehind_19 : decode c_Le_biasBehind 19 = .ok (.iload_n 3, 1) := by decide +kernel
theorem dLe_biasBehind_20 : decode c_Le_biasBehind 20 = .ok (.iload_n 3, 1) := by decide +kernel
theorem dLe_biasBehind_21 : decode c_Le_biasBehind 21 = .ok (.iload_n 2, 1) := by decide +kernel
theorem dLe_biasBehind_22 : decode c_Le_biasBehind 22 = .ok (.idiv, 1) := by decide +kernel
theorem dLe_biasBehind_23 : decode c_Le_biasBehind 23 = .ok (.iadd, 1) := by decide +kernel
theorem dLe_biasBehind_24 : decode c_Le_biasBehind 24 = .ok (.istore_n 3, 1) := by decide +kernel
theorem dLe_biasBehind_25 : decode c_Le_biasBehind 25 = .ok (.iconst 0, 1) := by decide +kernel
theorem dLe_biasBehind_26 : decode c_Le_biasBehind 26 = .ok (.istore 4, 2) := by decide +kernel
theorem dLe_biasBehind_28 : decode c_Le_biasBehind 28 = .ok (.iload_n 3, 1) := by decide +kernel
theorem dLe_biasBehind_29 : decode c_Le_biasBehind 29 = .ok (.sipush 455, 3) := by decide +kernel
theorem dLe_biasBehind_32 : decode c_Le_biasBehind 32 = .ok (.if_icmp .le 14, 3) := by decide +kernel
theorem dLe_biasBehind_35 : decode c_Le_biasBehind 35 = .ok (.iload_n 3, 1) := by decide +kernel
theorem dLe_biasBehind_36 : decode c_Le_biasBehind 36 = .ok (.bipush 35, 2) := by decide +kernel
theorem dLe_biasBehind_38 : decode c_Le_biasBehind 38 = .ok (.idiv, 1) := by decide +kernel
theorem dLe_biasBehind_39 : decode c_Le_biasBehind 39 = .ok (.istore_n 3, 1) := by decide +kernel
theorem dLe_biasBehind_40 : decode c_Le_biasBehind 40 = .ok (.iinc 4 1, 3) := by decide +kernel
theorem dLe_biasBehind_43 : decode c_Le_biasBehind 43 = .ok (.goto (-15), 3) := by decide +kernel
theorem dLe_biasBehind_46 : decode c_Le_biasBehind 46 = .ok (.bipush 36, 2) := by decide +kernel
theorem dLe_biasBehind_48 : decode c_Le_biasBehind 48 = .ok (.iload 4, 2) := by decide +kernel
theorem dLe_biasBehind_50 : decode c_Le_biasBehind 50 = .ok (.imul, 1) := by decide +kernel
theorem dLe_biasBehind_51 : decode c_Le_biasBehind 51 = .ok (.bipush 36, 2) := by decide +kernel
theorem dLe_biasBehind_53 : decode c_Le_biasBehind 53 = .ok (.iload_n 3, 1) := by decide +kernel
theorem dLe_biasBehind_54 : decode c_Le_biasBehind 54 = .ok (.imul, 1) := by decide +kernel
theorem dLe_biasBehind_55 : decode c_Le_biasBehind 55 = .ok (.iload_n 3, 1) := by decide +kernel
theorem dLe_biasBehind_56 : decode c_Le_biasBehind 56 = .ok (.bipush 38, 2) := by decide +kernel
theorem dLe_biasBehind_58 : decode c_Le_biasBehind 58 = .ok (.iadd, 1) := by decide +kernel
theorem dLe_biasBehind_59 : decode c_Le_biasBehind 59 = .ok (.idiv, 1) := by decide +kernel
theorem dLe_biasBehind_60 : decode c_Le_biasBehind 60 = .ok (.iadd, 1) := by decide +kernel
theorem dLe_biasBehind_61 : decode c_Le_biasBehind 61 = .ok (.ireturn, 1) := by decide +kernel
theorem dLe_thresholdOf_0 : decode c_Le_thresholdOf 0 = .ok (.iconst 1, 1) := by decide +kernel
theorem dLe_thresholdOf_1 : decode c_Le_thresholdOf 1 = .ok (.bipush 26, 2) := by decide +kernel
theorem dLe_thresholdOf_3 : decode c_Le_thresholdOf 3 = .ok (.bipush 36, 2) := by decide +kernel
theorem dLe_thresholdOf_5 : decode c_Le_thresholdOf 5 = .ok (.iload_n 1, 1) := by decide +kernel
theorem dLe_thresholdOf_6 : decode c_Le_thresholdOf 6 = .ok (.imul, 1) := by decide +kernel
theorem dLe_thresholdOf_7 : decode c_Le_thresholdOf 7 = .ok (.aload_n 0, 1) := by decide +kernel
theorem dLe_thresholdOf_8 : decode c_Le_thresholdOf 8 = .ok (.getfield 18, 3) := by decide +kernel
theorem dLe_thresholdOf_11 : decode c_Le_thresholdOf 11 = .ok (.isub, 1) := by decide +kernel
theorem dLe_thresholdOf_12 : decode c_Le_thresholdOf 12 = .ok (.invokestatic 83, 3) := by decide +kernel
theorem dLe_thresholdOf_15 : decode c_Le_thresholdOf 15 = .ok (.invokestatic 88, 3) := by decide +kernel
theorem dLe_thresholdOf_18 : decode c_Le_thresholdOf 18 = .ok (.ireturn, 1) := by decide +kernel
theorem dLe_digitOf_0 : decode c_Le_digitOf 0 = .ok (.iload_n 0, 1) := by decide +kernel
theorem dLe_digitOf_1 : decode c_Le_digitOf 1 = .ok (.bipush 97, 2) := by decide +kernel
theorem dLe_digitOf_3 : decode c_Le_digitOf 3 = .ok (.if_icmp .lt 14, 3) := by decide +kernel
theorem dLe_digitOf_6 : decode c_Le_digitOf 6 = .ok (.iload_n 0, 1) := by decide +kernel
theorem dLe_digitOf_7 : decode c_Le_digitOf 7 = .ok (.bipush 122, 2) := by decide +kernel
theorem dLe_digitOf_9 : decode c_Le_digitOf 9 = .ok (.if_icmp .gt 8, 3) := by decide +kernel
theorem dLe_digitOf_12 : decode c_Le_digitOf 12 = .ok (.iload_n 0, 1) := by decide +kernel
theorem dLe_digitOf_13 : decode c_Le_digitOf 13 = .ok (.bipush 97, 2) := by decide +kernel
theorem dLe_digitOf_15 : decode c_Le_digitOf 15 = .ok (.isub, 1) := by decide +kernel
theorem dLe_digitOf_16 : decode c_Le_digitOf 16 = .ok (.ireturn, 1) := by decide +kernel
theorem dLe_digitOf_17 : decode c_Le_digitOf 17 = .ok (.iload_n 0, 1) := by decide +kernel
theorem dLe_digitOf_18 : decode c_Le_digitOf 18 = .ok (.bipush 65, 2) := by decide +kernel
theorem dLe_digitOf_20 : decode c_Le_digitOf 20 = .ok (.if_icmp .lt 14, 3) := by decide +kernel
theorem dLe_digitOf_23 : decode c_Le_digitOf 23 = .ok (.iload_n 0, 1) := by decide +kernel
theorem dLe_digitOf_24 : decode c_Le_digitOf 24 = .ok (.bipush 90, 2) := by decide +kernel
theorem dLe_digitOf_26 : decode c_Le_digitOf 26 = .ok (.if_icmp .gt 8, 3) := by decide +kernel
theorem dLe_digitOf_29 : decode c_Le_digitOf 29 = .ok (.iload_n 0, 1) := by decide +kernel
theorem dLe_digitOf_30 : decode c_Le_digitOf 30 = .ok (.bipush 65, 2) := by decide +kernel
theorem dLe_digitOf_32 : decode c_Le_digitOf 32 = .ok (.isub, 1) := by decide +kernel
theorem dLe_digitOf_33 : decode c_Le_digitOf 33 = .ok (.ireturn, 1) := by decide +kernel
theorem dLe_digitOf_34 : decode c_Le_digitOf 34 = .ok (.iload_n 0, 1) := by decide +kernel
theorem dLe_digitOf_35 : decode c_Le_digitOf 35 = .ok (.bipush 48, 2) := by decide +kernel
theorem dLe_digitOf_37 : decode c_Le_digitOf 37 = .ok (.if_icmp .lt 19, 3) := by decide +kernel
theorem dLe_digitOf_40 : decode c_Le_digitOf 40 = .ok (.iload_n 0, 1) := by decide +kernel
theorem dLe_digitOf_41 : decode c_Le_digitOf 41 = .ok (.bipush 57, 2) := by decide +kernel
theorem dLe_digitOf_43 : decode c_Le_digitOf 43 = .ok (.if_icmp .gt 13, 3) := by decide +kernel
theorem dLe_digitOf_46 : decode c_Le_digitOf 46 = .ok (.iload_n 0, 1) := by decide +kernel
theorem dLe_digitOf_47 : decode c_Le_digitOf 47 = .ok (.bipush 48, 2) := by decide +kernel
theorem dLe_digitOf_49 : decode c_Le_digitOf 49 = .ok (.isub, 1) := by decide +kernel
theorem dLe_digitOf_50 : decode c_Le_digitOf 50 = .ok (.bipush 26, 2) := by decide +kernel
theorem dLe_digitOf_52 : decode c_Le_digitOf 52 = .ok (.iadd, 1) := by decide +kernel
theorem dLe_digitOf_53 : decode c_Le_digitOf 53 = .ok (.goto 4, 3) := by decide +kernel
theorem dLe_digitOf_56 : decode c_Le_digitOf 56 = .ok (.iconst (-1), 1) := by decide +kernel
theorem dLe_digitOf_57 : decode c_Le_digitOf 57 = .ok (.ireturn, 1) := by decide +kernel
theorem dLe_unitOf_0 : decode c_Le_unitOf 0 = .ok (.iload_n 0, 1) := by decide +kernel
theorem dLe_unitOf_1 : decode c_Le_unitOf 1 = .ok (.bipush 26, 2) := by decide +kernel
theorem dLe_unitOf_3 : decode c_Le_unitOf 3 = .ok (.if_icmp .ge 10, 3) := by decide +kernel
theorem dLe_unitOf_6 : decode c_Le_unitOf 6 = .ok (.bipush 97, 2) := by decide +kernel
theorem dLe_unitOf_8 : decode c_Le_unitOf 8 = .ok (.iload_n 0, 1) := by decide +kernel
theorem dLe_unitOf_9 : decode c_Le_unitOf 9 = .ok (.iadd, 1) := by decide +kernel
theorem dLe_unitOf_10 : decode c_Le_unitOf 10 = .ok (.goto 10, 3) := by decide +kernel
theorem dLe_unitOf_13 : decode c_Le_unitOf 13 = .ok (.bipush 48, 2) := by decide +kernel
theorem dLe_unitOf_15 : decode c_Le_unitOf 15 = .ok (.iload_n 0, 1) := by decide +kernel
theorem dLe_unitOf_16 : decode c_Le_unitOf 16 = .ok (.iadd, 1) := by decide +kernel
theorem dLe_unitOf_17 : decode c_Le_unitOf 17 = .ok (.bipush 26, 2) := by decide +kernel
theorem dLe_unitOf_19 : decode c_Le_unitOf 19 = .ok (.isub, 1) := by decide +kernel
theorem dLe_unitOf_20 : decode c_Le_unitOf 20 = .ok (.ireturn, 1) := by decide +kernel
theorem dLe_writeAll_0 : decode c_Le_writeAll 0 = .ok (.aload_n 0, 1) := by decide +kernel
theorem dLe_writeAll_1 : decode c_Le_writeAll 1 = .ok (.invokevirtual 25, 3) := by decide +kernel
theorem dLe_writeAll_4 : decode c_Le_writeAll 4 = .ok (.iconst (-1), 1) := by decide +kernel
theorem dLe_writeAll_5 : decode c_Le_writeAll 5 = .ok (.istore_n 3, 1) := by decide +kernel
theorem dLe_writeAll_6 : decode c_Le_writeAll 6 = .ok (.aload_n 1, 1) := by decide +kernel
theorem dLe_writeAll_7 : decode c_Le_writeAll 7 = .ok (.aload_n 2, 1) := by decide +kernel
theorem dLe_writeAll_8 : decode c_Le_writeAll 8 = .ok (.invokestatic 91, 3) := by decide +kernel
theorem dLe_writeAll_11 : decode c_Le_writeAll 11 = .ok (.istore 4, 2) := by decide +kernel
theorem dLe_writeAll_13 : decode c_Le_writeAll 13 = .ok (.iload 4, 2) := by decide +kernel
theorem dLe_writeAll_15 : decode c_Le_writeAll 15 = .ok (.aload_n 1, 1) := by decide +kernel
theorem dLe_writeAll_16 : decode c_Le_writeAll 16 = .ok (.getfield 48, 3) := by decide +kernel
theorem dLe_writeAll_19 : decode c_Le_writeAll 19 = .ok (.if_icmp .ge 32, 3) := by decide +kernel
theorem dLe_writeAll_22 : decode c_Le_writeAll 22 = .ok (.aload_n 0, 1) := by decide +kernel
theorem dLe_writeAll_23 : decode c_Le_writeAll 23 = .ok (.aload_n 1, 1) := by decide +kernel
theorem dLe_writeAll_24 : decode c_Le_writeAll 24 = .ok (.iload_n 3, 1) := by decide +kernel
theorem dLe_writeAll_25 : decode c_Le_writeAll 25 = .ok (.invokevirtual 95, 3) := by decide +kernel
theorem dLe_writeAll_28 : decode c_Le_writeAll 28 = .ok (.istore_n 3, 1) := by decide +kernel
theorem dLe_writeAll_29 : decode c_Le_writeAll 29 = .ok (.aload_n 0, 1) := by decide +kernel
theorem dLe_writeAll_30 : decode c_Le_writeAll 30 = .ok (.aload_n 1, 1) := by decide +kernel
theorem dLe_writeAll_31 : decode c_Le_writeAll 31 = .ok (.iload_n 3, 1) := by decide +kernel
theorem dLe_writeAll_32 : decode c_Le_writeAll 32 = .ok (.iload 4, 2) := by decide +kernel
theorem dLe_writeAll_34 : decode c_Le_writeAll 34 = .ok (.iconst 1, 1) := by decide +kernel
theorem dLe_writeAll_35 : decode c_Le_writeAll 35 = .ok (.iadd, 1) := by decide +kernel
theorem dLe_writeAll_36 : decode c_Le_writeAll 36 = .ok (.aload_n 2, 1) := by decide +kernel
theorem dLe_writeAll_37 : decode c_Le_writeAll 37 = .ok (.invokevirtual 99, 3) := by decide +kernel
theorem dLe_writeAll_40 : decode c_Le_writeAll 40 = .ok (.ifCond .ne 5, 3) := by decide +kernel
theorem dLe_writeAll_43 : decode c_Le_writeAll 43 = .ok (.iconst 0, 1) := by decide +kernel
theorem dLe_writeAll_44 : decode c_Le_writeAll 44 = .ok (.ireturn, 1) := by decide +kernel
theorem dLe_writeAll_45 : decode c_Le_writeAll 45 = .ok (.iinc 4 1, 3) := by decide +kernel
theorem dLe_writeAll_48 : decode c_Le_writeAll 48 = .ok (.goto (-35), 3) := by decide +kernel
theorem dLe_writeAll_51 : decode c_Le_writeAll 51 = .ok (.iconst 1, 1) := by decide +kernel
theorem dLe_writeAll_52 : decode c_Le_writeAll 52 = .ok (.ireturn, 1) := by decide +kernel
theorem dLe_writePlain_0 : decode c_Le_writePlain 0 = .ok (.iconst 0, 1) := by decide +kernel
theorem dLe_writePlain_1 : decode c_Le_writePlain 1 = .ok (.istore_n 2, 1) := by decide +kernel
theorem dLe_writePlain_2 : decode c_Le_writePlain 2 = .ok (.iconst 0, 1) := by decide +kernel
theorem dLe_writePlain_3 : decode c_Le_writePlain 3 = .ok (.istore_n 3, 1) := by decide +kernel
theorem dLe_writePlain_4 : decode c_Le_writePlain 4 = .ok (.iload_n 3, 1) := by decide +kernel
theorem dLe_writePlain_5 : decode c_Le_writePlain 5 = .ok (.aload_n 0, 1) := by decide +kernel
theorem dLe_writePlain_6 : decode c_Le_writePlain 6 = .ok (.getfield 48, 3) := by decide +kernel
theorem dLe_writePlain_9 : decode c_Le_writePlain 9 = .ok (.if_icmp .ge 34, 3) := by decide +kernel
theorem dLe_writePlain_12 : decode c_Le_writePlain 12 = .ok (.aload_n 0, 1) := by decide +kernel
theorem dLe_writePlain_13 : decode c_Le_writePlain 13 = .ok (.iload_n 3, 1) := by decide +kernel
theorem dLe_writePlain_14 : decode c_Le_writePlain 14 = .ok (.invokevirtual 37, 3) := by decide +kernel
theorem dLe_writePlain_17 : decode c_Le_writePlain 17 = .ok (.istore 4, 2) := by decide +kernel
theorem dLe_writePlain_19 : decode c_Le_writePlain 19 = .ok (.iload 4, 2) := by decide +kernel
theorem dLe_writePlain_21 : decode c_Le_writePlain 21 = .ok (.sipush 128, 3) := by decide +kernel
theorem dLe_writePlain_24 : decode c_Le_writePlain 24 = .ok (.if_icmp .ge 13, 3) := by decide +kernel
theorem dLe_writePlain_27 : decode c_Le_writePlain 27 = .ok (.aload_n 1, 1) := by decide +kernel
theorem dLe_writePlain_28 : decode c_Le_writePlain 28 = .ok (.iload 4, 2) := by decide +kernel
theorem dLe_writePlain_30 : decode c_Le_writePlain 30 = .ok (.invokevirtual 41, 3) := by decide +kernel
theorem dLe_writePlain_33 : decode c_Le_writePlain 33 = .ok (.pop, 1) := by decide +kernel
theorem dLe_writePlain_34 : decode c_Le_writePlain 34 = .ok (.iinc 2 1, 3) := by decide +kernel
theorem dLe_writePlain_37 : decode c_Le_writePlain 37 = .ok (.iinc 3 1, 3) := by decide +kernel
theorem dLe_writePlain_40 : decode c_Le_writePlain 40 = .ok (.goto (-36), 3) := by decide +kernel
theorem dLe_writePlain_43 : decode c_Le_writePlain 43 = .ok (.iload_n 2, 1) := by decide +kernel
theorem dLe_writePlain_44 : decode c_Le_writePlain 44 = .ok (.ifCond .le 10, 3) := by decide +kernel
theorem dLe_writePlain_47 : decode c_Le_writePlain 47 = .ok (.aload_n 1, 1) := by decide +kernel
theorem dLe_writePlain_48 : decode c_Le_writePlain 48 = .ok (.bipush 45, 2) := by decide +kernel
theorem dLe_writePlain_50 : decode c_Le_writePlain 50 = .ok (.invokevirtual 41, 3) := by decide +kernel
theorem dLe_writePlain_53 : decode c_Le_writePlain 53 = .ok (.pop, 1) := by decide +kernel
theorem dLe_writePlain_54 : decode c_Le_writePlain 54 = .ok (.iload_n 2, 1) := by decide +kernel
theorem dLe_writePlain_55 : decode c_Le_writePlain 55 = .ok (.ireturn, 1) := by decide +kernel
theorem dLe_nextToTell_0 : decode c_Le_nextToTell 0 = .ok (.iconst (-1), 1) := by decide +kernel
theorem dLe_nextToTell_1 : decode c_Le_nextToTell 1 = .ok (.istore_n 3, 1) := by decide +kernel
theorem dLe_nextToTell_2 : decode c_Le_nextToTell 2 = .ok (.iconst 0, 1) := by decide +kernel
theorem dLe_nextToTell_3 : decode c_Le_nextToTell 3 = .ok (.istore 4, 2) := by decide +kernel
theorem dLe_nextToTell_5 : decode c_Le_nextToTell 5 = .ok (.iload 4, 2) := by decide +kernel
theorem dLe_nextToTell_7 : decode c_Le_nextToTell 7 = .ok (.aload_n 1, 1) := by decide +kernel
theorem dLe_nextToTell_8 : decode c_Le_nextToTell 8 = .ok (.getfield 48, 3) := by decide +kernel
theorem dLe_nextToTell_11 : decode c_Le_nextToTell 11 = .ok (.if_icmp .ge 71, 3) := by decide +kernel
theorem dLe_nextToTell_14 : decode c_Le_nextToTell 14 = .ok (.aload_n 1, 1) := by decide +kernel
theorem dLe_nextToTell_15 : decode c_Le_nextToTell 15 = .ok (.iload 4, 2) := by decide +kernel
theorem dLe_nextToTell_17 : decode c_Le_nextToTell 17 = .ok (.invokevirtual 37, 3) := by decide +kernel
theorem dLe_nextToTell_20 : decode c_Le_nextToTell 20 = .ok (.istore 5, 2) := by decide +kernel
