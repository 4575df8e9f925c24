theorem dMo_put_14 : decode c_Mo_put 14 = .ok (.aload_n 0, 1) := by decide +kernel
theorem dMo_put_15 : decode c_Mo_put 15 = .ok (.getfield 145, 3) := by decide +kernel
theorem dMo_put_18 : decode c_Mo_put 18 = .ok (.iload_n 1, 1) := by decide +kernel
theorem dMo_put_19 : decode c_Mo_put 19 = .ok (.iastore, 1) := by decide +kernel
theorem dMo_put_20 : decode c_Mo_put 20 = .ok (.aload_n 0, 1) := by decide +kernel
theorem dMo_put_21 : decode c_Mo_put 21 = .ok (.aload_n 0, 1) := by decide +kernel
theorem dMo_put_22 : decode c_Mo_put 22 = .ok (.getfield 145, 3) := by decide +kernel
theorem dMo_put_25 : decode c_Mo_put 25 = .ok (.iconst 1, 1) := by decide +kernel
theorem dMo_put_26 : decode c_Mo_put 26 = .ok (.iadd, 1) := by decide +kernel
theorem dMo_put_27 : decode c_Mo_put 27 = .ok (.putfield 145, 3) := by decide +kernel
theorem dMo_put_30 : decode c_Mo_put 30 = .ok (.return_, 1) := by decide +kernel
theorem dMo_give_0 : decode c_Mo_give 0 = .ok (.aload_n 0, 1) := by decide +kernel
theorem dMo_give_1 : decode c_Mo_give 1 = .ok (.getfield 145, 3) := by decide +kernel
theorem dMo_give_4 : decode c_Mo_give 4 = .ok (.sipush 400, 3) := by decide +kernel
theorem dMo_give_7 : decode c_Mo_give 7 = .ok (.if_icmp .le 5, 3) := by decide +kernel
theorem dMo_give_10 : decode c_Mo_give 10 = .ok (.iconst (-1), 1) := by decide +kernel
theorem dMo_give_11 : decode c_Mo_give 11 = .ok (.ireturn, 1) := by decide +kernel
theorem dMo_give_12 : decode c_Mo_give 12 = .ok (.aload_n 0, 1) := by decide +kernel
theorem dMo_give_13 : decode c_Mo_give 13 = .ok (.aload_n 0, 1) := by decide +kernel
theorem dMo_give_14 : decode c_Mo_give 14 = .ok (.getfield 145, 3) := by decide +kernel
theorem dMo_give_17 : decode c_Mo_give 17 = .ok (.putfield 148, 3) := by decide +kernel
theorem dMo_give_20 : decode c_Mo_give 20 = .ok (.iconst 0, 1) := by decide +kernel
theorem dMo_give_21 : decode c_Mo_give 21 = .ok (.istore_n 1, 1) := by decide +kernel
theorem dMo_give_22 : decode c_Mo_give 22 = .ok (.iload_n 1, 1) := by decide +kernel
theorem dMo_give_23 : decode c_Mo_give 23 = .ok (.aload_n 0, 1) := by decide +kernel
theorem dMo_give_24 : decode c_Mo_give 24 = .ok (.getfield 145, 3) := by decide +kernel
theorem dMo_give_27 : decode c_Mo_give 27 = .ok (.if_icmp .ge 21, 3) := by decide +kernel
theorem dMo_give_30 : decode c_Mo_give 30 = .ok (.aload_n 0, 1) := by decide +kernel
theorem dMo_give_31 : decode c_Mo_give 31 = .ok (.getfield 16, 3) := by decide +kernel
theorem dMo_give_34 : decode c_Mo_give 34 = .ok (.iload_n 1, 1) := by decide +kernel
theorem dMo_give_35 : decode c_Mo_give 35 = .ok (.aload_n 0, 1) := by decide +kernel
theorem dMo_give_36 : decode c_Mo_give 36 = .ok (.getfield 25, 3) := by decide +kernel
theorem dMo_give_39 : decode c_Mo_give 39 = .ok (.iload_n 1, 1) := by decide +kernel
theorem dMo_give_40 : decode c_Mo_give 40 = .ok (.iaload, 1) := by decide +kernel
theorem dMo_give_41 : decode c_Mo_give 41 = .ok (.iastore, 1) := by decide +kernel
theorem dMo_give_42 : decode c_Mo_give 42 = .ok (.iinc 1 1, 3) := by decide +kernel
theorem dMo_give_45 : decode c_Mo_give 45 = .ok (.goto (-23), 3) := by decide +kernel
theorem dMo_give_48 : decode c_Mo_give 48 = .ok (.aload_n 0, 1) := by decide +kernel
theorem dMo_give_49 : decode c_Mo_give 49 = .ok (.getfield 145, 3) := by decide +kernel
theorem dMo_give_52 : decode c_Mo_give 52 = .ok (.ireturn, 1) := by decide +kernel
theorem dMo_toEights_0 : decode c_Mo_toEights 0 = .ok (.aload_n 0, 1) := by decide +kernel
theorem dMo_toEights_1 : decode c_Mo_toEights 1 = .ok (.iconst 0, 1) := by decide +kernel
theorem dMo_toEights_2 : decode c_Mo_toEights 2 = .ok (.putfield 145, 3) := by decide +kernel
theorem dMo_toEights_5 : decode c_Mo_toEights 5 = .ok (.iconst 0, 1) := by decide +kernel
theorem dMo_toEights_6 : decode c_Mo_toEights 6 = .ok (.istore_n 1, 1) := by decide +kernel
theorem dMo_toEights_7 : decode c_Mo_toEights 7 = .ok (.iload_n 1, 1) := by decide +kernel
theorem dMo_toEights_8 : decode c_Mo_toEights 8 = .ok (.aload_n 0, 1) := by decide +kernel
theorem dMo_toEights_9 : decode c_Mo_toEights 9 = .ok (.getfield 76, 3) := by decide +kernel
theorem dMo_toEights_12 : decode c_Mo_toEights 12 = .ok (.if_icmp .ge 169, 3) := by decide +kernel
theorem dMo_toEights_15 : decode c_Mo_toEights 15 = .ok (.aload_n 0, 1) := by decide +kernel
theorem dMo_toEights_16 : decode c_Mo_toEights 16 = .ok (.getfield 13, 3) := by decide +kernel
theorem dMo_toEights_19 : decode c_Mo_toEights 19 = .ok (.iload_n 1, 1) := by decide +kernel
theorem dMo_toEights_20 : decode c_Mo_toEights 20 = .ok (.iaload, 1) := by decide +kernel
theorem dMo_toEights_21 : decode c_Mo_toEights 21 = .ok (.istore_n 2, 1) := by decide +kernel
theorem dMo_toEights_22 : decode c_Mo_toEights 22 = .ok (.iload_n 2, 1) := by decide +kernel
theorem dMo_toEights_23 : decode c_Mo_toEights 23 = .ok (.sipush 128, 3) := by decide +kernel
theorem dMo_toEights_26 : decode c_Mo_toEights 26 = .ok (.if_icmp .ge 11, 3) := by decide +kernel
theorem dMo_toEights_29 : decode c_Mo_toEights 29 = .ok (.aload_n 0, 1) := by decide +kernel
theorem dMo_toEights_30 : decode c_Mo_toEights 30 = .ok (.iload_n 2, 1) := by decide +kernel
theorem dMo_toEights_31 : decode c_Mo_toEights 31 = .ok (.invokevirtual 151, 3) := by decide +kernel
theorem dMo_toEights_34 : decode c_Mo_toEights 34 = .ok (.goto 141, 3) := by decide +kernel
theorem dMo_toEights_37 : decode c_Mo_toEights 37 = .ok (.iload_n 2, 1) := by decide +kernel
theorem dMo_toEights_38 : decode c_Mo_toEights 38 = .ok (.sipush 2048, 3) := by decide +kernel
theorem dMo_toEights_41 : decode c_Mo_toEights 41 = .ok (.if_icmp .ge 30, 3) := by decide +kernel
theorem dMo_toEights_44 : decode c_Mo_toEights 44 = .ok (.aload_n 0, 1) := by decide +kernel
theorem dMo_toEights_45 : decode c_Mo_toEights 45 = .ok (.sipush 192, 3) := by decide +kernel
theorem dMo_toEights_48 : decode c_Mo_toEights 48 = .ok (.iload_n 2, 1) := by decide +kernel
theorem dMo_toEights_49 : decode c_Mo_toEights 49 = .ok (.bipush 64, 2) := by decide +kernel
theorem dMo_toEights_51 : decode c_Mo_toEights 51 = .ok (.idiv, 1) := by decide +kernel
theorem dMo_toEights_52 : decode c_Mo_toEights 52 = .ok (.iadd, 1) := by decide +kernel
theorem dMo_toEights_53 : decode c_Mo_toEights 53 = .ok (.invokevirtual 151, 3) := by decide +kernel
theorem dMo_toEights_56 : decode c_Mo_toEights 56 = .ok (.aload_n 0, 1) := by decide +kernel
theorem dMo_toEights_57 : decode c_Mo_toEights 57 = .ok (.sipush 128, 3) := by decide +kernel
theorem dMo_toEights_60 : decode c_Mo_toEights 60 = .ok (.iload_n 2, 1) := by decide +kernel
theorem dMo_toEights_61 : decode c_Mo_toEights 61 = .ok (.bipush 64, 2) := by decide +kernel
theorem dMo_toEights_63 : decode c_Mo_toEights 63 = .ok (.irem, 1) := by decide +kernel
theorem dMo_toEights_64 : decode c_Mo_toEights 64 = .ok (.iadd, 1) := by decide +kernel
theorem dMo_toEights_65 : decode c_Mo_toEights 65 = .ok (.invokevirtual 151, 3) := by decide +kernel
theorem dMo_toEights_68 : decode c_Mo_toEights 68 = .ok (.goto 107, 3) := by decide +kernel
theorem dMo_toEights_71 : decode c_Mo_toEights 71 = .ok (.iload_n 2, 1) := by decide +kernel
theorem dMo_toEights_72 : decode c_Mo_toEights 72 = .ok (.ldc 66, 2) := by decide +kernel
theorem dMo_toEights_74 : decode c_Mo_toEights 74 = .ok (.if_icmp .ge 46, 3) := by decide +kernel
theorem dMo_toEights_77 : decode c_Mo_toEights 77 = .ok (.aload_n 0, 1) := by decide +kernel
theorem dMo_toEights_78 : decode c_Mo_toEights 78 = .ok (.sipush 224, 3) := by decide +kernel
theorem dMo_toEights_81 : decode c_Mo_toEights 81 = .ok (.iload_n 2, 1) := by decide +kernel
theorem dMo_toEights_82 : decode c_Mo_toEights 82 = .ok (.sipush 4096, 3) := by decide +kernel
theorem dMo_toEights_85 : decode c_Mo_toEights 85 = .ok (.idiv, 1) := by decide +kernel
theorem dMo_toEights_86 : decode c_Mo_toEights 86 = .ok (.iadd, 1) := by decide +kernel
theorem dMo_toEights_87 : decode c_Mo_toEights 87 = .ok (.invokevirtual 151, 3) := by decide +kernel
theorem dMo_toEights_90 : decode c_Mo_toEights 90 = .ok (.aload_n 0, 1) := by decide +kernel
theorem dMo_toEights_91 : decode c_Mo_toEights 91 = .ok (.sipush 128, 3) := by decide +kernel
theorem dMo_toEights_94 : decode c_Mo_toEights 94 = .ok (.iload_n 2, 1) := by decide +kernel
theorem dMo_toEights_95 : decode c_Mo_toEights 95 = .ok (.bipush 64, 2) := by decide +kernel
theorem dMo_toEights_97 : decode c_Mo_toEights 97 = .ok (.idiv, 1) := by decide +kernel
theorem dMo_toEights_98 : decode c_Mo_toEights 98 = .ok (.bipush 64, 2) := by decide +kernel
theorem dMo_toEights_100 : decode c_Mo_toEights 100 = .ok (.irem, 1) := by decide +kernel
theorem dMo_toEights_101 : decode c_Mo_toEights 101 = .ok (.iadd, 1) := by decide +kernel
theorem dMo_toEights_102 : decode c_Mo_toEights 102 = .ok (.invokevirtual 151, 3) := by decide +kernel
theorem dMo_toEights_105 : decode c_Mo_toEights 105 = .ok (.aload_n 0, 1) := by decide +kernel
theorem dMo_toEights_106 : decode c_Mo_toEights 106 = .ok (.sipush 128, 3) := by decide +kernel
theorem dMo_toEights_109 : decode c_Mo_toEights 109 = .ok (.iload_n 2, 1) := by decide +kernel
theorem dMo_toEights_110 : decode c_Mo_toEights 110 = .ok (.bipush 64, 2) := by decide +kernel
theorem dMo_toEights_112 : decode c_Mo_toEights 112 = .ok (.irem, 1) := by decide +kernel
theorem dMo_toEights_113 : decode c_Mo_toEights 113 = .ok (.iadd, 1) := by decide +kernel
theorem dMo_toEights_114 : decode c_Mo_toEights 114 = .ok (.invokevirtual 151, 3) := by decide +kernel
theorem dMo_toEights_117 : decode c_Mo_toEights 117 = .ok (.goto 58, 3) := by decide +kernel
theorem dMo_toEights_120 : decode c_Mo_toEights 120 = .ok (.aload_n 0, 1) := by decide +kernel
theorem dMo_toEights_121 : decode c_Mo_toEights 121 = .ok (.sipush 240, 3) := by decide +kernel
theorem dMo_toEights_124 : decode c_Mo_toEights 124 = .ok (.iload_n 2, 1) := by decide +kernel
theorem dMo_toEights_125 : decode c_Mo_toEights 125 = .ok (.ldc 155, 2) := by decide +kernel
theorem dMo_toEights_127 : decode c_Mo_toEights 127 = .ok (.idiv, 1) := by decide +kernel
theorem dMo_toEights_128 : decode c_Mo_toEights 128 = .ok (.iadd, 1) := by decide +kernel
theorem dMo_toEights_129 : decode c_Mo_toEights 129 = .ok (.invokevirtual 151, 3) := by decide +kernel
theorem dMo_toEights_132 : decode c_Mo_toEights 132 = .ok (.aload_n 0, 1) := by decide +kernel
theorem dMo_toEights_133 : decode c_Mo_toEights 133 = .ok (.sipush 128, 3) := by decide +kernel
theorem dMo_toEights_136 : decode c_Mo_toEights 136 = .ok (.iload_n 2, 1) := by decide +kernel
theorem dMo_toEights_137 : decode c_Mo_toEights 137 = .ok (.sipush 4096, 3) := by decide +kernel
theorem dMo_toEights_140 : decode c_Mo_toEights 140 = .ok (.idiv, 1) := by decide +kernel
theorem dMo_toEights_141 : decode c_Mo_toEights 141 = .ok (.bipush 64, 2) := by decide +kernel
theorem dMo_toEights_143 : decode c_Mo_toEights 143 = .ok (.irem, 1) := by decide +kernel
theorem dMo_toEights_144 : decode c_Mo_toEights 144 = .ok (.iadd, 1) := by decide +kernel
theorem dMo_toEights_145 : decode c_Mo_toEights 145 = .ok (.invokevirtual 151, 3) := by decide +kernel
theorem dMo_toEights_148 : decode c_Mo_toEights 148 = .ok (.aload_n 0, 1) := by decide +kernel
theorem dMo_toEights_149 : decode c_Mo_toEights 149 = .ok (.sipush 128, 3) := by decide +kernel
theorem dMo_toEights_152 : decode c_Mo_toEights 152 = .ok (.iload_n 2, 1) := by decide +kernel
theorem dMo_toEights_153 : decode c_Mo_toEights 153 = .ok (.bipush 64, 2) := by decide +kernel
theorem dMo_toEights_155 : decode c_Mo_toEights 155 = .ok (.idiv, 1) := by decide +kernel
theorem dMo_toEights_156 : decode c_Mo_toEights 156 = .ok (.bipush 64, 2) := by decide +kernel
theorem dMo_toEights_158 : decode c_Mo_toEights 158 = .ok (.irem, 1) := by decide +kernel
theorem dMo_toEights_159 : decode c_Mo_toEights 159 = .ok (.iadd, 1) := by decide +kernel
theorem dMo_toEights_160 : decode c_Mo_toEights 160 = .ok (.invokevirtual 151, 3) := by decide +kernel
theorem dMo_toEights_163 : decode c_Mo_toEights 163 = .ok (.aload_n 0, 1) := by decide +kernel
theorem dMo_toEights_164 : decode c_Mo_toEights 164 = .ok (.sipush 128, 3) := by decide +kernel
theorem dMo_toEights_167 : decode c_Mo_toEights 167 = .ok (.iload_n 2, 1) := by decide +kernel
theorem dMo_toEights_168 : decode c_Mo_toEights 168 = .ok (.bipush 64, 2) := by decide +kernel
theorem dMo_toEights_170 : decode c_Mo_toEights 170 = .ok (.irem, 1) := by decide +kernel
theorem dMo_toEights_171 : decode c_Mo_toEights 171 = .ok (.iadd, 1) := by decide +kernel
theorem dMo_toEights_172 : decode c_Mo_toEights 172 = .ok (.invokevirtual 151, 3) := by decide +kernel
theorem dMo_toEights_175 : decode c_Mo_toEights 175 = .ok (.iinc 1 1, 3) := by decide +kernel
theorem dMo_toEights_178 : decode c_Mo_toEights 178 = .ok (.goto (-171), 3) := by decide +kernel
theorem dMo_toEights_181 : decode c_Mo_toEights 181 = .ok (.aload_n 0, 1) := by decide +kernel
theorem dMo_toEights_182 : decode c_Mo_toEights 182 = .ok (.invokevirtual 156, 3) := by decide +kernel
theorem dMo_toEights_185 : decode c_Mo_toEights 185 = .ok (.ireturn, 1) := by decide +kernel
theorem dMo_toSixteens_0 : decode c_Mo_toSixteens 0 = .ok (.aload_n 0, 1) := by decide +kernel
theorem dMo_toSixteens_1 : decode c_Mo_toSixteens 1 = .ok (.iconst 0, 1) := by decide +kernel
theorem dMo_toSixteens_2 : decode c_Mo_toSixteens 2 = .ok (.putfield 145, 3) := by decide +kernel
theorem dMo_toSixteens_5 : decode c_Mo_toSixteens 5 = .ok (.iconst 0, 1) := by decide +kernel
theorem dMo_toSixteens_6 : decode c_Mo_toSixteens 6 = .ok (.istore_n 1, 1) := by decide +kernel
theorem dMo_toSixteens_7 : decode c_Mo_toSixteens 7 = .ok (.iload_n 1, 1) := by decide +kernel
theorem dMo_toSixteens_8 : decode c_Mo_toSixteens 8 = .ok (.aload_n 0, 1) := by decide +kernel
theorem dMo_toSixteens_9 : decode c_Mo_toSixteens 9 = .ok (.getfield 76, 3) := by decide +kernel
theorem dMo_toSixteens_12 : decode c_Mo_toSixteens 12 = .ok (.if_icmp .ge 57, 3) := by decide +kernel
theorem dMo_toSixteens_15 : decode c_Mo_toSixteens 15 = .ok (.aload_n 0, 1) := by decide +kernel
theorem dMo_toSixteens_16 : decode c_Mo_toSixteens 16 = .ok (.getfield 13, 3) := by decide +kernel
theorem dMo_toSixteens_19 : decode c_Mo_toSixteens 19 = .ok (.iload_n 1, 1) := by decide +kernel
theorem dMo_toSixteens_20 : decode c_Mo_toSixteens 20 = .ok (.iaload, 1) := by decide +kernel
theorem dMo_toSixteens_21 : decode c_Mo_toSixteens 21 = .ok (.istore_n 2, 1) := by decide +kernel
theorem dMo_toSixteens_22 : decode c_Mo_toSixteens 22 = .ok (.iload_n 2, 1) := by decide +kernel
theorem dMo_toSixteens_23 : decode c_Mo_toSixteens 23 = .ok (.ldc 66, 2) := by decide +kernel
theorem dMo_toSixteens_25 : decode c_Mo_toSixteens 25 = .ok (.if_icmp .ge 11, 3) := by decide +kernel
theorem dMo_toSixteens_28 : decode c_Mo_toSixteens 28 = .ok (.aload_n 0, 1) := by decide +kernel
theorem dMo_toSixteens_29 : decode c_Mo_toSixteens 29 = .ok (.iload_n 2, 1) := by decide +kernel
theorem dMo_toSixteens_30 : decode c_Mo_toSixteens 30 = .ok (.invokevirtual 151, 3) := by decide +kernel
theorem dMo_toSixteens_33 : decode c_Mo_toSixteens 33 = .ok (.goto 30, 3) := by decide +kernel
theorem dMo_toSixteens_36 : decode c_Mo_toSixteens 36 = .ok (.aload_n 0, 1) := by decide +kernel
theorem dMo_toSixteens_37 : decode c_Mo_toSixteens 37 = .ok (.ldc 64, 2) := by decide +kernel
theorem dMo_toSixteens_39 : decode c_Mo_toSixteens 39 = .ok (.iload_n 2, 1) := by decide +kernel
theorem dMo_toSixteens_40 : decode c_Mo_toSixteens 40 = .ok (.ldc 66, 2) := by decide +kernel
theorem dMo_toSixteens_42 : decode c_Mo_toSixteens 42 = .ok (.isub, 1) := by decide +kernel
theorem dMo_toSixteens_43 : decode c_Mo_toSixteens 43 = .ok (.sipush 1024, 3) := by decide +kernel
theorem dMo_toSixteens_46 : decode c_Mo_toSixteens 46 = .ok (.idiv, 1) := by decide +kernel
theorem dMo_toSixteens_47 : decode c_Mo_toSixteens 47 = .ok (.iadd, 1) := by decide +kernel
theorem dMo_toSixteens_48 : decode c_Mo_toSixteens 48 = .ok (.invokevirtual 151, 3) := by decide +kernel
theorem dMo_toSixteens_51 : decode c_Mo_toSixteens 51 = .ok (.aload_n 0, 1) := by decide +kernel
theorem dMo_toSixteens_52 : decode c_Mo_toSixteens 52 = .ok (.ldc 62, 2) := by decide +kernel
theorem dMo_toSixteens_54 : decode c_Mo_toSixteens 54 = .ok (.iload_n 2, 1) := by decide +kernel
theorem dMo_toSixteens_55 : decode c_Mo_toSixteens 55 = .ok (.sipush 1024, 3) := by decide +kernel
theorem dMo_toSixteens_58 : decode c_Mo_toSixteens 58 = .ok (.irem, 1) := by decide +kernel
theorem dMo_toSixteens_59 : decode c_Mo_toSixteens 59 = .ok (.iadd, 1) := by decide +kernel
theorem dMo_toSixteens_60 : decode c_Mo_toSixteens 60 = .ok (.invokevirtual 151, 3) := by decide +kernel
theorem dMo_toSixteens_63 : decode c_Mo_toSixteens 63 = .ok (.iinc 1 1, 3) := by decide +kernel
theorem dMo_toSixteens_66 : decode c_Mo_toSixteens 66 = .ok (.goto (-59), 3) := by decide +kernel
theorem dMo_toSixteens_69 : decode c_Mo_toSixteens 69 = .ok (.aload_n 0, 1) := by decide +kernel
theorem dMo_toSixteens_70 : decode c_Mo_toSixteens 70 = .ok (.invokevirtual 156, 3) := by decide +kernel
theorem dMo_toSixteens_73 : decode c_Mo_toSixteens 73 = .ok (.ireturn, 1) := by decide +kernel
theorem dMo_writeNumber_0 : decode c_Mo_writeNumber 0 = .ok (.lload_n 1, 1) := by decide +kernel
theorem dMo_writeNumber_1 : decode c_Mo_writeNumber 1 = .ok (.lstore_n 3, 1) := by decide +kernel
theorem dMo_writeNumber_2 : decode c_Mo_writeNumber 2 = .ok (.iconst 1, 1) := by decide +kernel
theorem dMo_writeNumber_3 : decode c_Mo_writeNumber 3 = .ok (.aload_n 0, 1) := by decide +kernel
theorem dMo_writeNumber_4 : decode c_Mo_writeNumber 4 = .ok (.getfield 104, 3) := by decide +kernel
theorem dMo_writeNumber_7 : decode c_Mo_writeNumber 7 = .ok (.invokestatic 107, 3) := by decide +kernel
theorem dMo_writeNumber_10 : decode c_Mo_writeNumber 10 = .ok (.istore 5, 2) := by decide +kernel
theorem dMo_writeNumber_12 : decode c_Mo_writeNumber 12 = .ok (.iconst 1, 1) := by decide +kernel
theorem dMo_writeNumber_13 : decode c_Mo_writeNumber 13 = .ok (.istore 6, 2) := by decide +kernel
theorem dMo_writeNumber_15 : decode c_Mo_writeNumber 15 = .ok (.lload_n 3, 1) := by decide +kernel
theorem dMo_writeNumber_16 : decode c_Mo_writeNumber 16 = .ok (.iload 5, 2) := by decide +kernel
theorem dMo_writeNumber_18 : decode c_Mo_writeNumber 18 = .ok (.i2l, 1) := by decide +kernel
theorem dMo_writeNumber_19 : decode c_Mo_writeNumber 19 = .ok (.lcmp, 1) := by decide +kernel
theorem dMo_writeNumber_20 : decode c_Mo_writeNumber 20 = .ok (.ifCond .lt 63, 3) := by decide +kernel
theorem dMo_writeNumber_23 : decode c_Mo_writeNumber 23 = .ok (.iload 5, 2) := by decide +kernel
theorem dMo_writeNumber_25 : decode c_Mo_writeNumber 25 = .ok (.i2l, 1) := by decide +kernel
theorem dMo_writeNumber_26 : decode c_Mo_writeNumber 26 = .ok (.lload_n 3, 1) := by decide +kernel
theorem dMo_writeNumber_27 : decode c_Mo_writeNumber 27 = .ok (.iload 5, 2) := by decide +kernel
theorem dMo_writeNumber_29 : decode c_Mo_writeNumber 29 = .ok (.i2l, 1) := by decide +kernel
theorem dMo_writeNumber_30 : decode c_Mo_writeNumber 30 = .ok (.lsub, 1) := by decide +kernel
theorem dMo_writeNumber_31 : decode c_Mo_writeNumber 31 = .ok (.bipush 36, 2) := by decide +kernel
theorem dMo_writeNumber_33 : decode c_Mo_writeNumber 33 = .ok (.iload 5, 2) := by decide +kernel
theorem dMo_writeNumber_35 : decode c_Mo_writeNumber 35 = .ok (.isub, 1) := by decide +kernel
theorem dMo_writeNumber_36 : decode c_Mo_writeNumber 36 = .ok (.i2l, 1) := by decide +kernel
theorem dMo_writeNumber_37 : decode c_Mo_writeNumber 37 = .ok (.lrem, 1) := by decide +kernel
theorem dMo_writeNumber_38 : decode c_Mo_writeNumber 38 = .ok (.ladd, 1) := by decide +kernel
theorem dMo_writeNumber_39 : decode c_Mo_writeNumber 39 = .ok (.lstore 7, 2) := by decide +kernel
theorem dMo_writeNumber_41 : decode c_Mo_writeNumber 41 = .ok (.lload_n 3, 1) := by decide +kernel
theorem dMo_writeNumber_42 : decode c_Mo_writeNumber 42 = .ok (.iload 5, 2) := by decide +kernel
theorem dMo_writeNumber_44 : decode c_Mo_writeNumber 44 = .ok (.i2l, 1) := by decide +kernel
theorem dMo_writeNumber_45 : decode c_Mo_writeNumber 45 = .ok (.lsub, 1) := by decide +kernel
theorem dMo_writeNumber_46 : decode c_Mo_writeNumber 46 = .ok (.bipush 36, 2) := by decide +kernel
theorem dMo_writeNumber_48 : decode c_Mo_writeNumber 48 = .ok (.iload 5, 2) := by decide +kernel
theorem dMo_writeNumber_50 : decode c_Mo_writeNumber 50 = .ok (.isub, 1) := by decide +kernel
theorem dMo_writeNumber_51 : decode c_Mo_writeNumber 51 = .ok (.i2l, 1) := by decide +kernel
theorem dMo_writeNumber_52 : decode c_Mo_writeNumber 52 = .ok (.ldiv, 1) := by decide +kernel
theorem dMo_writeNumber_53 : decode c_Mo_writeNumber 53 = .ok (.lstore_n 3, 1) := by decide +kernel
theorem dMo_writeNumber_54 : decode c_Mo_writeNumber 54 = .ok (.aload_n 0, 1) := by decide +kernel
theorem dMo_writeNumber_55 : decode c_Mo_writeNumber 55 = .ok (.lload 7, 2) := by decide +kernel
theorem dMo_writeNumber_57 : decode c_Mo_writeNumber 57 = .ok (.l2i, 1) := by decide +kernel
theorem dMo_writeNumber_58 : decode c_Mo_writeNumber 58 = .ok (.invokestatic 159, 3) := by decide +kernel
theorem dMo_writeNumber_61 : decode c_Mo_writeNumber 61 = .ok (.invokevirtual 151, 3) := by decide +kernel
theorem dMo_writeNumber_64 : decode c_Mo_writeNumber 64 = .ok (.iload 6, 2) := by decide +kernel
theorem dMo_writeNumber_66 : decode c_Mo_writeNumber 66 = .ok (.iconst 1, 1) := by decide +kernel
theorem dMo_writeNumber_67 : decode c_Mo_writeNumber 67 = .ok (.iadd, 1) := by decide +kernel
theorem dMo_writeNumber_68 : decode c_Mo_writeNumber 68 = .ok (.aload_n 0, 1) := by decide +kernel
theorem dMo_writeNumber_69 : decode c_Mo_writeNumber 69 = .ok (.getfield 104, 3) := by decide +kernel
theorem dMo_writeNumber_72 : decode c_Mo_writeNumber 72 = .ok (.invokestatic 107, 3) := by decide +kernel
theorem dMo_writeNumber_75 : decode c_Mo_writeNumber 75 = .ok (.istore 5, 2) := by decide +kernel
theorem dMo_writeNumber_77 : decode c_Mo_writeNumber 77 = .ok (.iinc 6 1, 3) := by decide +kernel
theorem dMo_writeNumber_80 : decode c_Mo_writeNumber 80 = .ok (.goto (-65), 3) := by decide +kernel
theorem dMo_writeNumber_83 : decode c_Mo_writeNumber 83 = .ok (.aload_n 0, 1) := by decide +kernel
theorem dMo_writeNumber_84 : decode c_Mo_writeNumber 84 = .ok (.lload_n 3, 1) := by decide +kernel
theorem dMo_writeNumber_85 : decode c_Mo_writeNumber 85 = .ok (.l2i, 1) := by decide +kernel
theorem dMo_writeNumber_86 : decode c_Mo_writeNumber 86 = .ok (.invokestatic 159, 3) := by decide +kernel
theorem dMo_writeNumber_89 : decode c_Mo_writeNumber 89 = .ok (.invokevirtual 151, 3) := by decide +kernel
theorem dMo_writeNumber_92 : decode c_Mo_writeNumber 92 = .ok (.return_, 1) := by decide +kernel
theorem dMo_sign_0 : decode c_Mo_sign 0 = .ok (.iload_n 0, 1) := by decide +kernel
theorem dMo_sign_1 : decode c_Mo_sign 1 = .ok (.bipush 26, 2) := by decide +kernel
theorem dMo_sign_3 : decode c_Mo_sign 3 = .ok (.if_icmp .ge 10, 3) := by decide +kernel
theorem dMo_sign_6 : decode c_Mo_sign 6 = .ok (.bipush 97, 2) := by decide +kernel
theorem dMo_sign_8 : decode c_Mo_sign 8 = .ok (.iload_n 0, 1) := by decide +kernel
theorem dMo_sign_9 : decode c_Mo_sign 9 = .ok (.iadd, 1) := by decide +kernel
theorem dMo_sign_10 : decode c_Mo_sign 10 = .ok (.goto 7, 3) := by decide +kernel
theorem dMo_sign_13 : decode c_Mo_sign 13 = .ok (.bipush 22, 2) := by decide +kernel
theorem dMo_sign_15 : decode c_Mo_sign 15 = .ok (.iload_n 0, 1) := by decide +kernel
theorem dMo_sign_16 : decode c_Mo_sign 16 = .ok (.iadd, 1) := by decide +kernel
theorem dMo_sign_17 : decode c_Mo_sign 17 = .ok (.ireturn, 1) := by decide +kernel
theorem dMo_leastFrom_0 : decode c_Mo_leastFrom 0 = .ok (.iconst (-1), 1) := by decide +kernel
theorem dMo_leastFrom_1 : decode c_Mo_leastFrom 1 = .ok (.istore_n 2, 1) := by decide +kernel
theorem dMo_leastFrom_2 : decode c_Mo_leastFrom 2 = .ok (.iconst 0, 1) := by decide +kernel
theorem dMo_leastFrom_3 : decode c_Mo_leastFrom 3 = .ok (.istore_n 3, 1) := by decide +kernel
theorem dMo_leastFrom_4 : decode c_Mo_leastFrom 4 = .ok (.iload_n 3, 1) := by decide +kernel
theorem dMo_leastFrom_5 : decode c_Mo_leastFrom 5 = .ok (.aload_n 0, 1) := by decide +kernel
theorem dMo_leastFrom_6 : decode c_Mo_leastFrom 6 = .ok (.getfield 76, 3) := by decide +kernel
theorem dMo_leastFrom_9 : decode c_Mo_leastFrom 9 = .ok (.if_icmp .ge 44, 3) := by decide +kernel
theorem dMo_leastFrom_12 : decode c_Mo_leastFrom 12 = .ok (.aload_n 0, 1) := by decide +kernel
theorem dMo_leastFrom_13 : decode c_Mo_leastFrom 13 = .ok (.getfield 13, 3) := by decide +kernel
theorem dMo_leastFrom_16 : decode c_Mo_leastFrom 16 = .ok (.iload_n 3, 1) := by decide +kernel
theorem dMo_leastFrom_17 : decode c_Mo_leastFrom 17 = .ok (.iaload, 1) := by decide +kernel
theorem dMo_leastFrom_18 : decode c_Mo_leastFrom 18 = .ok (.iload_n 1, 1) := by decide +kernel
theorem dMo_leastFrom_19 : decode c_Mo_leastFrom 19 = .ok (.if_icmp .lt 26, 3) := by decide +kernel
theorem dMo_leastFrom_22 : decode c_Mo_leastFrom 22 = .ok (.iload_n 2, 1) := by decide +kernel
theorem dMo_leastFrom_23 : decode c_Mo_leastFrom 23 = .ok (.ifCond .lt 13, 3) := by decide +kernel
theorem dMo_leastFrom_26 : decode c_Mo_leastFrom 26 = .ok (.aload_n 0, 1) := by decide +kernel
theorem dMo_leastFrom_27 : decode c_Mo_leastFrom 27 = .ok (.getfield 13, 3) := by decide +kernel
theorem dMo_leastFrom_30 : decode c_Mo_leastFrom 30 = .ok (.iload_n 3, 1) := by decide +kernel
theorem dMo_leastFrom_31 : decode c_Mo_leastFrom 31 = .ok (.iaload, 1) := by decide +kernel
theorem dMo_leastFrom_32 : decode c_Mo_leastFrom 32 = .ok (.iload_n 2, 1) := by decide +kernel
theorem dMo_leastFrom_33 : decode c_Mo_leastFrom 33 = .ok (.if_icmp .ge 12, 3) := by decide +kernel
theorem dMo_leastFrom_36 : decode c_Mo_leastFrom 36 = .ok (.aload_n 0, 1) := by decide +kernel
theorem dMo_leastFrom_37 : decode c_Mo_leastFrom 37 = .ok (.getfield 13, 3) := by decide +kernel
theorem dMo_leastFrom_40 : decode c_Mo_leastFrom 40 = .ok (.iload_n 3, 1) := by decide +kernel
theorem dMo_leastFrom_41 : decode c_Mo_leastFrom 41 = .ok (.iaload, 1) := by decide +kernel
theorem dMo_leastFrom_42 : decode c_Mo_leastFrom 42 = .ok (.goto 4, 3) := by decide +kernel
theorem dMo_leastFrom_45 : decode c_Mo_leastFrom 45 = .ok (.iload_n 2, 1) := by decide +kernel
theorem dMo_leastFrom_46 : decode c_Mo_leastFrom 46 = .ok (.istore_n 2, 1) := by decide +kernel
theorem dMo_leastFrom_47 : decode c_Mo_leastFrom 47 = .ok (.iinc 3 1, 3) := by decide +kernel
theorem dMo_leastFrom_50 : decode c_Mo_leastFrom 50 = .ok (.goto (-46), 3) := by decide +kernel
theorem dMo_leastFrom_53 : decode c_Mo_leastFrom 53 = .ok (.iload_n 2, 1) := by decide +kernel
theorem dMo_leastFrom_54 : decode c_Mo_leastFrom 54 = .ok (.ireturn, 1) := by decide +kernel
theorem dMo_toLetters_0 : decode c_Mo_toLetters 0 = .ok (.aload_n 0, 1) := by decide +kernel
theorem dMo_toLetters_1 : decode c_Mo_toLetters 1 = .ok (.iconst 0, 1) := by decide +kernel
theorem dMo_toLetters_2 : decode c_Mo_toLetters 2 = .ok (.putfield 145, 3) := by decide +kernel
theorem dMo_toLetters_5 : decode c_Mo_toLetters 5 = .ok (.iconst 0, 1) := by decide +kernel
theorem dMo_toLetters_6 : decode c_Mo_toLetters 6 = .ok (.istore_n 1, 1) := by decide +kernel
theorem dMo_toLetters_7 : decode c_Mo_toLetters 7 = .ok (.iload_n 1, 1) := by decide +kernel
theorem dMo_toLetters_8 : decode c_Mo_toLetters 8 = .ok (.aload_n 0, 1) := by decide +kernel
theorem dMo_toLetters_9 : decode c_Mo_toLetters 9 = .ok (.getfield 76, 3) := by decide +kernel
theorem dMo_toLetters_12 : decode c_Mo_toLetters 12 = .ok (.if_icmp .ge 31, 3) := by decide +kernel
theorem dMo_toLetters_15 : decode c_Mo_toLetters 15 = .ok (.aload_n 0, 1) := by decide +kernel
theorem dMo_toLetters_16 : decode c_Mo_toLetters 16 = .ok (.getfield 13, 3) := by decide +kernel
theorem dMo_toLetters_19 : decode c_Mo_toLetters 19 = .ok (.iload_n 1, 1) := by decide +kernel
theorem dMo_toLetters_20 : decode c_Mo_toLetters 20 = .ok (.iaload, 1) := by decide +kernel
theorem dMo_toLetters_21 : decode c_Mo_toLetters 21 = .ok (.sipush 128, 3) := by decide +kernel
theorem dMo_toLetters_24 : decode c_Mo_toLetters 24 = .ok (.if_icmp .ge 13, 3) := by decide +kernel
theorem dMo_toLetters_27 : decode c_Mo_toLetters 27 = .ok (.aload_n 0, 1) := by decide +kernel
theorem dMo_toLetters_28 : decode c_Mo_toLetters 28 = .ok (.aload_n 0, 1) := by decide +kernel
theorem dMo_toLetters_29 : decode c_Mo_toLetters 29 = .ok (.getfield 13, 3) := by decide +kernel
theorem dMo_toLetters_32 : decode c_Mo_toLetters 32 = .ok (.iload_n 1, 1) := by decide +kernel
theorem dMo_toLetters_33 : decode c_Mo_toLetters 33 = .ok (.iaload, 1) := by decide +kernel
theorem dMo_toLetters_34 : decode c_Mo_toLetters 34 = .ok (.invokevirtual 151, 3) := by decide +kernel
theorem dMo_toLetters_37 : decode c_Mo_toLetters 37 = .ok (.iinc 1 1, 3) := by decide +kernel
theorem dMo_toLetters_40 : decode c_Mo_toLetters 40 = .ok (.goto (-33), 3) := by decide +kernel
theorem dMo_toLetters_43 : decode c_Mo_toLetters 43 = .ok (.aload_n 0, 1) := by decide +kernel
theorem dMo_toLetters_44 : decode c_Mo_toLetters 44 = .ok (.getfield 145, 3) := by decide +kernel
theorem dMo_toLetters_47 : decode c_Mo_toLetters 47 = .ok (.istore_n 1, 1) := by decide +kernel
theorem dMo_toLetters_48 : decode c_Mo_toLetters 48 = .ok (.aload_n 0, 1) := by decide +kernel
theorem dMo_toLetters_49 : decode c_Mo_toLetters 49 = .ok (.getfield 145, 3) := by decide +kernel
theorem dMo_toLetters_52 : decode c_Mo_toLetters 52 = .ok (.istore_n 2, 1) := by decide +kernel
theorem dMo_toLetters_53 : decode c_Mo_toLetters 53 = .ok (.iload_n 2, 1) := by decide +kernel
theorem dMo_toLetters_54 : decode c_Mo_toLetters 54 = .ok (.ifCond .le 9, 3) := by decide +kernel
theorem dMo_toLetters_57 : decode c_Mo_toLetters 57 = .ok (.aload_n 0, 1) := by decide +kernel
theorem dMo_toLetters_58 : decode c_Mo_toLetters 58 = .ok (.bipush 45, 2) := by decide +kernel
theorem dMo_toLetters_60 : decode c_Mo_toLetters 60 = .ok (.invokevirtual 151, 3) := by decide +kernel
theorem dMo_toLetters_63 : decode c_Mo_toLetters 63 = .ok (.aload_n 0, 1) := by decide +kernel
theorem dMo_toLetters_64 : decode c_Mo_toLetters 64 = .ok (.bipush 72, 2) := by decide +kernel
theorem dMo_toLetters_66 : decode c_Mo_toLetters 66 = .ok (.putfield 104, 3) := by decide +kernel
theorem dMo_toLetters_69 : decode c_Mo_toLetters 69 = .ok (.lconst 0, 1) := by decide +kernel
theorem dMo_toLetters_70 : decode c_Mo_toLetters 70 = .ok (.lstore_n 3, 1) := by decide +kernel
theorem dMo_toLetters_71 : decode c_Mo_toLetters 71 = .ok (.sipush 128, 3) := by decide +kernel
theorem dMo_toLetters_74 : decode c_Mo_toLetters 74 = .ok (.istore 5, 2) := by decide +kernel
theorem dMo_toLetters_76 : decode c_Mo_toLetters 76 = .ok (.iload_n 1, 1) := by decide +kernel
theorem dMo_toLetters_77 : decode c_Mo_toLetters 77 = .ok (.aload_n 0, 1) := by decide +kernel
theorem dMo_toLetters_78 : decode c_Mo_toLetters 78 = .ok (.getfield 76, 3) := by decide +kernel
theorem dMo_toLetters_81 : decode c_Mo_toLetters 81 = .ok (.if_icmp .ge 124, 3) := by decide +kernel
theorem dMo_toLetters_84 : decode c_Mo_toLetters 84 = .ok (.aload_n 0, 1) := by decide +kernel
theorem dMo_toLetters_85 : decode c_Mo_toLetters 85 = .ok (.iload 5, 2) := by decide +kernel
theorem dMo_toLetters_87 : decode c_Mo_toLetters 87 = .ok (.invokevirtual 162, 3) := by decide +kernel
theorem dMo_toLetters_90 : decode c_Mo_toLetters 90 = .ok (.istore 6, 2) := by decide +kernel
theorem dMo_toLetters_92 : decode c_Mo_toLetters 92 = .ok (.lload_n 3, 1) := by decide +kernel
theorem dMo_toLetters_93 : decode c_Mo_toLetters 93 = .ok (.iload 6, 2) := by decide +kernel
theorem dMo_toLetters_95 : decode c_Mo_toLetters 95 = .ok (.iload 5, 2) := by decide +kernel
theorem dMo_toLetters_97 : decode c_Mo_toLetters 97 = .ok (.isub, 1) := by decide +kernel
theorem dMo_toLetters_98 : decode c_Mo_toLetters 98 = .ok (.i2l, 1) := by decide +kernel
theorem dMo_toLetters_99 : decode c_Mo_toLetters 99 = .ok (.iload_n 1, 1) := by decide +kernel
theorem dMo_toLetters_100 : decode c_Mo_toLetters 100 = .ok (.iconst 1, 1) := by decide +kernel
theorem dMo_toLetters_101 : decode c_Mo_toLetters 101 = .ok (.iadd, 1) := by decide +kernel
theorem dMo_toLetters_102 : decode c_Mo_toLetters 102 = .ok (.i2l, 1) := by decide +kernel
theorem dMo_toLetters_103 : decode c_Mo_toLetters 103 = .ok (.lmul, 1) := by decide +kernel
theorem dMo_toLetters_104 : decode c_Mo_toLetters 104 = .ok (.ladd, 1) := by decide +kernel
theorem dMo_toLetters_105 : decode c_Mo_toLetters 105 = .ok (.lstore_n 3, 1) := by decide +kernel
theorem dMo_toLetters_106 : decode c_Mo_toLetters 106 = .ok (.iload 6, 2) := by decide +kernel
theorem dMo_toLetters_108 : decode c_Mo_toLetters 108 = .ok (.istore 5, 2) := by decide +kernel
theorem dMo_toLetters_110 : decode c_Mo_toLetters 110 = .ok (.iconst 0, 1) := by decide +kernel
theorem dMo_toLetters_111 : decode c_Mo_toLetters 111 = .ok (.istore 7, 2) := by decide +kernel
theorem dMo_toLetters_113 : decode c_Mo_toLetters 113 = .ok (.iload 7, 2) := by decide +kernel
theorem dMo_toLetters_115 : decode c_Mo_toLetters 115 = .ok (.aload_n 0, 1) := by decide +kernel
theorem dMo_toLetters_116 : decode c_Mo_toLetters 116 = .ok (.getfield 76, 3) := by decide +kernel
theorem dMo_toLetters_119 : decode c_Mo_toLetters 119 = .ok (.if_icmp .ge 73, 3) := by decide +kernel
theorem dMo_toLetters_122 : decode c_Mo_toLetters 122 = .ok (.aload_n 0, 1) := by decide +kernel
theorem dMo_toLetters_123 : decode c_Mo_toLetters 123 = .ok (.getfield 13, 3) := by decide +kernel
theorem dMo_toLetters_126 : decode c_Mo_toLetters 126 = .ok (.iload 7, 2) := by decide +kernel
theorem dMo_toLetters_128 : decode c_Mo_toLetters 128 = .ok (.iaload, 1) := by decide +kernel
theorem dMo_toLetters_129 : decode c_Mo_toLetters 129 = .ok (.iload 5, 2) := by decide +kernel
theorem dMo_toLetters_131 : decode c_Mo_toLetters 131 = .ok (.if_icmp .ge 9, 3) := by decide +kernel
theorem dMo_toLetters_134 : decode c_Mo_toLetters 134 = .ok (.lload_n 3, 1) := by decide +kernel
theorem dMo_toLetters_135 : decode c_Mo_toLetters 135 = .ok (.lconst 1, 1) := by decide +kernel
theorem dMo_toLetters_136 : decode c_Mo_toLetters 136 = .ok (.ladd, 1) := by decide +kernel
theorem dMo_toLetters_137 : decode c_Mo_toLetters 137 = .ok (.goto 4, 3) := by decide +kernel
theorem dMo_toLetters_140 : decode c_Mo_toLetters 140 = .ok (.lload_n 3, 1) := by decide +kernel
theorem dMo_toLetters_141 : decode c_Mo_toLetters 141 = .ok (.lstore_n 3, 1) := by decide +kernel
theorem dMo_toLetters_142 : decode c_Mo_toLetters 142 = .ok (.aload_n 0, 1) := by decide +kernel
theorem dMo_toLetters_143 : decode c_Mo_toLetters 143 = .ok (.getfield 13, 3) := by decide +kernel
theorem dMo_toLetters_146 : decode c_Mo_toLetters 146 = .ok (.iload 7, 2) := by decide +kernel
theorem dMo_toLetters_148 : decode c_Mo_toLetters 148 = .ok (.iaload, 1) := by decide +kernel
theorem dMo_toLetters_149 : decode c_Mo_toLetters 149 = .ok (.iload 5, 2) := by decide +kernel
theorem dMo_toLetters_151 : decode c_Mo_toLetters 151 = .ok (.if_icmp .ne 35, 3) := by decide +kernel
theorem dMo_toLetters_154 : decode c_Mo_toLetters 154 = .ok (.aload_n 0, 1) := by decide +kernel
theorem dMo_toLetters_155 : decode c_Mo_toLetters 155 = .ok (.lload_n 3, 1) := by decide +kernel
theorem dMo_toLetters_156 : decode c_Mo_toLetters 156 = .ok (.invokevirtual 165, 3) := by decide +kernel
theorem dMo_toLetters_159 : decode c_Mo_toLetters 159 = .ok (.iload_n 1, 1) := by decide +kernel
theorem dMo_toLetters_160 : decode c_Mo_toLetters 160 = .ok (.iconst 1, 1) := by decide +kernel
theorem dMo_toLetters_161 : decode c_Mo_toLetters 161 = .ok (.iadd, 1) := by decide +kernel
theorem dMo_toLetters_162 : decode c_Mo_toLetters 162 = .ok (.istore_n 1, 1) := by decide +kernel
theorem dMo_toLetters_163 : decode c_Mo_toLetters 163 = .ok (.aload_n 0, 1) := by decide +kernel
theorem dMo_toLetters_164 : decode c_Mo_toLetters 164 = .ok (.lload_n 3, 1) := by decide +kernel
theorem dMo_toLetters_165 : decode c_Mo_toLetters 165 = .ok (.iload_n 1, 1) := by decide +kernel
theorem dMo_toLetters_166 : decode c_Mo_toLetters 166 = .ok (.iload_n 1, 1) := by decide +kernel
theorem dMo_toLetters_167 : decode c_Mo_toLetters 167 = .ok (.iload_n 2, 1) := by decide +kernel
theorem dMo_toLetters_168 : decode c_Mo_toLetters 168 = .ok (.iconst 1, 1) := by decide +kernel
theorem dMo_toLetters_169 : decode c_Mo_toLetters 169 = .ok (.iadd, 1) := by decide +kernel
theorem dMo_toLetters_170 : decode c_Mo_toLetters 170 = .ok (.if_icmp .ne 7, 3) := by decide +kernel
theorem dMo_toLetters_173 : decode c_Mo_toLetters 173 = .ok (.iconst 1, 1) := by decide +kernel
theorem dMo_toLetters_174 : decode c_Mo_toLetters 174 = .ok (.goto 4, 3) := by decide +kernel
theorem dMo_toLetters_177 : decode c_Mo_toLetters 177 = .ok (.iconst 0, 1) := by decide +kernel
theorem dMo_toLetters_178 : decode c_Mo_toLetters 178 = .ok (.invokestatic 133, 3) := by decide +kernel
theorem dMo_toLetters_181 : decode c_Mo_toLetters 181 = .ok (.putfield 104, 3) := by decide +kernel
theorem dMo_toLetters_184 : decode c_Mo_toLetters 184 = .ok (.lconst 0, 1) := by decide +kernel
theorem dMo_toLetters_185 : decode c_Mo_toLetters 185 = .ok (.lstore_n 3, 1) := by decide +kernel
theorem dMo_toLetters_186 : decode c_Mo_toLetters 186 = .ok (.iinc 7 1, 3) := by decide +kernel
theorem dMo_toLetters_189 : decode c_Mo_toLetters 189 = .ok (.goto (-76), 3) := by decide +kernel
theorem dMo_toLetters_192 : decode c_Mo_toLetters 192 = .ok (.lload_n 3, 1) := by decide +kernel
theorem dMo_toLetters_193 : decode c_Mo_toLetters 193 = .ok (.lconst 1, 1) := by decide +kernel
theorem dMo_toLetters_194 : decode c_Mo_toLetters 194 = .ok (.ladd, 1) := by decide +kernel
theorem dMo_toLetters_195 : decode c_Mo_toLetters 195 = .ok (.lstore_n 3, 1) := by decide +kernel
theorem dMo_toLetters_196 : decode c_Mo_toLetters 196 = .ok (.iload 5, 2) := by decide +kernel
theorem dMo_toLetters_198 : decode c_Mo_toLetters 198 = .ok (.iconst 1, 1) := by decide +kernel
theorem dMo_toLetters_199 : decode c_Mo_toLetters 199 = .ok (.iadd, 1) := by decide +kernel
theorem dMo_toLetters_200 : decode c_Mo_toLetters 200 = .ok (.istore 5, 2) := by decide +kernel
theorem dMo_toLetters_202 : decode c_Mo_toLetters 202 = .ok (.goto (-126), 3) := by decide +kernel
theorem dMo_toLetters_205 : decode c_Mo_toLetters 205 = .ok (.aload_n 0, 1) := by decide +kernel
theorem dMo_toLetters_206 : decode c_Mo_toLetters 206 = .ok (.invokevirtual 156, 3) := by decide +kernel
theorem dMo_toLetters_209 : decode c_Mo_toLetters 209 = .ok (.ireturn, 1) := by decide +kernel
theorem dMo_turn_0 : decode c_Mo_turn 0 = .ok (.aload_n 0, 1) := by decide +kernel
theorem dMo_turn_1 : decode c_Mo_turn 1 = .ok (.getfield 148, 3) := by decide +kernel
theorem dMo_turn_4 : decode c_Mo_turn 4 = .ok (.bipush 120, 2) := by decide +kernel
theorem dMo_turn_6 : decode c_Mo_turn 6 = .ok (.if_icmp .le 5, 3) := by decide +kernel
theorem dMo_turn_9 : decode c_Mo_turn 9 = .ok (.iconst (-1), 1) := by decide +kernel
theorem dMo_turn_10 : decode c_Mo_turn 10 = .ok (.ireturn, 1) := by decide +kernel
theorem dMo_turn_11 : decode c_Mo_turn 11 = .ok (.aload_n 0, 1) := by decide +kernel
theorem dMo_turn_12 : decode c_Mo_turn 12 = .ok (.aload_n 0, 1) := by decide +kernel
theorem dMo_turn_13 : decode c_Mo_turn 13 = .ok (.getfield 148, 3) := by decide +kernel
theorem dMo_turn_16 : decode c_Mo_turn 16 = .ok (.putfield 34, 3) := by decide +kernel
theorem dMo_turn_19 : decode c_Mo_turn 19 = .ok (.iconst 0, 1) := by decide +kernel
