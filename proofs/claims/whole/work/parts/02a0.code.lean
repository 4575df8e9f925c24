theorem dEi_init_0 : decode c_Ei_init 0 = .ok (.aload_n 0, 1) := by decide +kernel
theorem dEi_init_1 : decode c_Ei_init 1 = .ok (.invokespecial 3, 3) := by decide +kernel
theorem dEi_init_4 : decode c_Ei_init 4 = .ok (.return_, 1) := by decide +kernel
theorem dEi_readOne_0 : decode c_Ei_readOne 0 = .ok (.aload_n 1, 1) := by decide +kernel
theorem dEi_readOne_1 : decode c_Ei_readOne 1 = .ok (.iload_n 2, 1) := by decide +kernel
theorem dEi_readOne_2 : decode c_Ei_readOne 2 = .ok (.invokevirtual 9, 3) := by decide +kernel
theorem dEi_readOne_5 : decode c_Ei_readOne 5 = .ok (.istore_n 3, 1) := by decide +kernel
theorem dEi_readOne_6 : decode c_Ei_readOne 6 = .ok (.iload_n 3, 1) := by decide +kernel
theorem dEi_readOne_7 : decode c_Ei_readOne 7 = .ok (.invokestatic 15, 3) := by decide +kernel
theorem dEi_readOne_10 : decode c_Ei_readOne 10 = .ok (.istore 4, 2) := by decide +kernel
theorem dEi_readOne_12 : decode c_Ei_readOne 12 = .ok (.aload_n 0, 1) := by decide +kernel
theorem dEi_readOne_13 : decode c_Ei_readOne 13 = .ok (.iconst (-1), 1) := by decide +kernel
theorem dEi_readOne_14 : decode c_Ei_readOne 14 = .ok (.putfield 20, 3) := by decide +kernel
theorem dEi_readOne_17 : decode c_Ei_readOne 17 = .ok (.aload_n 0, 1) := by decide +kernel
theorem dEi_readOne_18 : decode c_Ei_readOne 18 = .ok (.iconst 1, 1) := by decide +kernel
theorem dEi_readOne_19 : decode c_Ei_readOne 19 = .ok (.iload 4, 2) := by decide +kernel
theorem dEi_readOne_21 : decode c_Ei_readOne 21 = .ok (.invokestatic 24, 3) := by decide +kernel
theorem dEi_readOne_24 : decode c_Ei_readOne 24 = .ok (.putfield 30, 3) := by decide +kernel
theorem dEi_readOne_27 : decode c_Ei_readOne 27 = .ok (.iload_n 3, 1) := by decide +kernel
theorem dEi_readOne_28 : decode c_Ei_readOne 28 = .ok (.iload 4, 2) := by decide +kernel
theorem dEi_readOne_30 : decode c_Ei_readOne 30 = .ok (.invokestatic 33, 3) := by decide +kernel
theorem dEi_readOne_33 : decode c_Ei_readOne 33 = .ok (.istore 5, 2) := by decide +kernel
theorem dEi_readOne_35 : decode c_Ei_readOne 35 = .ok (.iconst 1, 1) := by decide +kernel
theorem dEi_readOne_36 : decode c_Ei_readOne 36 = .ok (.istore 6, 2) := by decide +kernel
theorem dEi_readOne_38 : decode c_Ei_readOne 38 = .ok (.iload 6, 2) := by decide +kernel
theorem dEi_readOne_40 : decode c_Ei_readOne 40 = .ok (.iload 4, 2) := by decide +kernel
theorem dEi_readOne_42 : decode c_Ei_readOne 42 = .ok (.if_icmp .ge 71, 3) := by decide +kernel
theorem dEi_readOne_45 : decode c_Ei_readOne 45 = .ok (.aload_n 1, 1) := by decide +kernel
theorem dEi_readOne_46 : decode c_Ei_readOne 46 = .ok (.iload_n 2, 1) := by decide +kernel
theorem dEi_readOne_47 : decode c_Ei_readOne 47 = .ok (.iload 6, 2) := by decide +kernel
theorem dEi_readOne_49 : decode c_Ei_readOne 49 = .ok (.iadd, 1) := by decide +kernel
theorem dEi_readOne_50 : decode c_Ei_readOne 50 = .ok (.invokevirtual 9, 3) := by decide +kernel
theorem dEi_readOne_53 : decode c_Ei_readOne 53 = .ok (.istore 7, 2) := by decide +kernel
theorem dEi_readOne_55 : decode c_Ei_readOne 55 = .ok (.iload 6, 2) := by decide +kernel
theorem dEi_readOne_57 : decode c_Ei_readOne 57 = .ok (.iconst 1, 1) := by decide +kernel
theorem dEi_readOne_58 : decode c_Ei_readOne 58 = .ok (.if_icmp .ne 12, 3) := by decide +kernel
theorem dEi_readOne_61 : decode c_Ei_readOne 61 = .ok (.iload_n 3, 1) := by decide +kernel
theorem dEi_readOne_62 : decode c_Ei_readOne 62 = .ok (.iload 7, 2) := by decide +kernel
theorem dEi_readOne_64 : decode c_Ei_readOne 64 = .ok (.invokestatic 36, 3) := by decide +kernel
theorem dEi_readOne_67 : decode c_Ei_readOne 67 = .ok (.goto 8, 3) := by decide +kernel
theorem dEi_readOne_70 : decode c_Ei_readOne 70 = .ok (.iload 7, 2) := by decide +kernel
theorem dEi_readOne_72 : decode c_Ei_readOne 72 = .ok (.invokestatic 40, 3) := by decide +kernel
theorem dEi_readOne_75 : decode c_Ei_readOne 75 = .ok (.istore 8, 2) := by decide +kernel
theorem dEi_readOne_77 : decode c_Ei_readOne 77 = .ok (.iload 8, 2) := by decide +kernel
theorem dEi_readOne_79 : decode c_Ei_readOne 79 = .ok (.ifCond .ne 4, 3) := by decide +kernel
theorem dEi_readOne_82 : decode c_Ei_readOne 82 = .ok (.return_, 1) := by decide +kernel
theorem dEi_readOne_83 : decode c_Ei_readOne 83 = .ok (.iload 5, 2) := by decide +kernel
theorem dEi_readOne_85 : decode c_Ei_readOne 85 = .ok (.bipush 64, 2) := by decide +kernel
theorem dEi_readOne_87 : decode c_Ei_readOne 87 = .ok (.imul, 1) := by decide +kernel
theorem dEi_readOne_88 : decode c_Ei_readOne 88 = .ok (.iload 7, 2) := by decide +kernel
theorem dEi_readOne_90 : decode c_Ei_readOne 90 = .ok (.iadd, 1) := by decide +kernel
theorem dEi_readOne_91 : decode c_Ei_readOne 91 = .ok (.sipush 128, 3) := by decide +kernel
theorem dEi_readOne_94 : decode c_Ei_readOne 94 = .ok (.isub, 1) := by decide +kernel
theorem dEi_readOne_95 : decode c_Ei_readOne 95 = .ok (.istore 5, 2) := by decide +kernel
theorem dEi_readOne_97 : decode c_Ei_readOne 97 = .ok (.aload_n 0, 1) := by decide +kernel
theorem dEi_readOne_98 : decode c_Ei_readOne 98 = .ok (.dup, 1) := by decide +kernel
theorem dEi_readOne_99 : decode c_Ei_readOne 99 = .ok (.getfield 30, 3) := by decide +kernel
theorem dEi_readOne_102 : decode c_Ei_readOne 102 = .ok (.iconst 1, 1) := by decide +kernel
theorem dEi_readOne_103 : decode c_Ei_readOne 103 = .ok (.iadd, 1) := by decide +kernel
theorem dEi_readOne_104 : decode c_Ei_readOne 104 = .ok (.putfield 30, 3) := by decide +kernel
theorem dEi_readOne_107 : decode c_Ei_readOne 107 = .ok (.iinc 6 1, 3) := by decide +kernel
theorem dEi_readOne_110 : decode c_Ei_readOne 110 = .ok (.goto (-72), 3) := by decide +kernel
theorem dEi_readOne_113 : decode c_Ei_readOne 113 = .ok (.iload 4, 2) := by decide +kernel
theorem dEi_readOne_115 : decode c_Ei_readOne 115 = .ok (.ifCond .le 9, 3) := by decide +kernel
theorem dEi_readOne_118 : decode c_Ei_readOne 118 = .ok (.aload_n 0, 1) := by decide +kernel
theorem dEi_readOne_119 : decode c_Ei_readOne 119 = .ok (.iload 5, 2) := by decide +kernel
theorem dEi_readOne_121 : decode c_Ei_readOne 121 = .ok (.putfield 20, 3) := by decide +kernel
theorem dEi_readOne_124 : decode c_Ei_readOne 124 = .ok (.return_, 1) := by decide +kernel
theorem dEi_sizeBehind_0 : decode c_Ei_sizeBehind 0 = .ok (.iload_n 0, 1) := by decide +kernel
theorem dEi_sizeBehind_1 : decode c_Ei_sizeBehind 1 = .ok (.ifCond .lt 10, 3) := by decide +kernel
theorem dEi_sizeBehind_4 : decode c_Ei_sizeBehind 4 = .ok (.iload_n 0, 1) := by decide +kernel
theorem dEi_sizeBehind_5 : decode c_Ei_sizeBehind 5 = .ok (.sipush 244, 3) := by decide +kernel
theorem dEi_sizeBehind_8 : decode c_Ei_sizeBehind 8 = .ok (.if_icmp .le 5, 3) := by decide +kernel
theorem dEi_sizeBehind_11 : decode c_Ei_sizeBehind 11 = .ok (.iconst 0, 1) := by decide +kernel
theorem dEi_sizeBehind_12 : decode c_Ei_sizeBehind 12 = .ok (.ireturn, 1) := by decide +kernel
theorem dEi_sizeBehind_13 : decode c_Ei_sizeBehind 13 = .ok (.iload_n 0, 1) := by decide +kernel
theorem dEi_sizeBehind_14 : decode c_Ei_sizeBehind 14 = .ok (.sipush 128, 3) := by decide +kernel
theorem dEi_sizeBehind_17 : decode c_Ei_sizeBehind 17 = .ok (.if_icmp .ge 5, 3) := by decide +kernel
theorem dEi_sizeBehind_20 : decode c_Ei_sizeBehind 20 = .ok (.iconst 1, 1) := by decide +kernel
theorem dEi_sizeBehind_21 : decode c_Ei_sizeBehind 21 = .ok (.ireturn, 1) := by decide +kernel
theorem dEi_sizeBehind_22 : decode c_Ei_sizeBehind 22 = .ok (.iload_n 0, 1) := by decide +kernel
theorem dEi_sizeBehind_23 : decode c_Ei_sizeBehind 23 = .ok (.sipush 194, 3) := by decide +kernel
theorem dEi_sizeBehind_26 : decode c_Ei_sizeBehind 26 = .ok (.if_icmp .ge 5, 3) := by decide +kernel
theorem dEi_sizeBehind_29 : decode c_Ei_sizeBehind 29 = .ok (.iconst 0, 1) := by decide +kernel
theorem dEi_sizeBehind_30 : decode c_Ei_sizeBehind 30 = .ok (.ireturn, 1) := by decide +kernel
theorem dEi_sizeBehind_31 : decode c_Ei_sizeBehind 31 = .ok (.iload_n 0, 1) := by decide +kernel
theorem dEi_sizeBehind_32 : decode c_Ei_sizeBehind 32 = .ok (.sipush 224, 3) := by decide +kernel
theorem dEi_sizeBehind_35 : decode c_Ei_sizeBehind 35 = .ok (.if_icmp .ge 5, 3) := by decide +kernel
theorem dEi_sizeBehind_38 : decode c_Ei_sizeBehind 38 = .ok (.iconst 2, 1) := by decide +kernel
theorem dEi_sizeBehind_39 : decode c_Ei_sizeBehind 39 = .ok (.ireturn, 1) := by decide +kernel
theorem dEi_sizeBehind_40 : decode c_Ei_sizeBehind 40 = .ok (.iload_n 0, 1) := by decide +kernel
theorem dEi_sizeBehind_41 : decode c_Ei_sizeBehind 41 = .ok (.sipush 240, 3) := by decide +kernel
theorem dEi_sizeBehind_44 : decode c_Ei_sizeBehind 44 = .ok (.if_icmp .ge 7, 3) := by decide +kernel
theorem dEi_sizeBehind_47 : decode c_Ei_sizeBehind 47 = .ok (.iconst 3, 1) := by decide +kernel
theorem dEi_sizeBehind_48 : decode c_Ei_sizeBehind 48 = .ok (.goto 4, 3) := by decide +kernel
theorem dEi_sizeBehind_51 : decode c_Ei_sizeBehind 51 = .ok (.iconst 4, 1) := by decide +kernel
theorem dEi_sizeBehind_52 : decode c_Ei_sizeBehind 52 = .ok (.ireturn, 1) := by decide +kernel
theorem dEi_leadPart_0 : decode c_Ei_leadPart 0 = .ok (.iload_n 1, 1) := by decide +kernel
theorem dEi_leadPart_1 : decode c_Ei_leadPart 1 = .ok (.tableswitch 45 2 4 #[27, 33, 39], 27) := by decide +kernel
theorem dEi_leadPart_28 : decode c_Ei_leadPart 28 = .ok (.iload_n 0, 1) := by decide +kernel
theorem dEi_leadPart_29 : decode c_Ei_leadPart 29 = .ok (.sipush 192, 3) := by decide +kernel
theorem dEi_leadPart_32 : decode c_Ei_leadPart 32 = .ok (.isub, 1) := by decide +kernel
theorem dEi_leadPart_33 : decode c_Ei_leadPart 33 = .ok (.ireturn, 1) := by decide +kernel
theorem dEi_leadPart_34 : decode c_Ei_leadPart 34 = .ok (.iload_n 0, 1) := by decide +kernel
theorem dEi_leadPart_35 : decode c_Ei_leadPart 35 = .ok (.sipush 224, 3) := by decide +kernel
theorem dEi_leadPart_38 : decode c_Ei_leadPart 38 = .ok (.isub, 1) := by decide +kernel
theorem dEi_leadPart_39 : decode c_Ei_leadPart 39 = .ok (.ireturn, 1) := by decide +kernel
theorem dEi_leadPart_40 : decode c_Ei_leadPart 40 = .ok (.iload_n 0, 1) := by decide +kernel
theorem dEi_leadPart_41 : decode c_Ei_leadPart 41 = .ok (.sipush 240, 3) := by decide +kernel
theorem dEi_leadPart_44 : decode c_Ei_leadPart 44 = .ok (.isub, 1) := by decide +kernel
theorem dEi_leadPart_45 : decode c_Ei_leadPart 45 = .ok (.ireturn, 1) := by decide +kernel
theorem dEi_leadPart_46 : decode c_Ei_leadPart 46 = .ok (.iload_n 0, 1) := by decide +kernel
theorem dEi_leadPart_47 : decode c_Ei_leadPart 47 = .ok (.ireturn, 1) := by decide +kernel
theorem dEi_fitsSecond_0 : decode c_Ei_fitsSecond 0 = .ok (.iload_n 0, 1) := by decide +kernel
theorem dEi_fitsSecond_1 : decode c_Ei_fitsSecond 1 = .ok (.lookupswitch 123 #[(224, 43), (237, 63), (240, 83), (244, 103)], 43) := by decide +kernel
theorem dEi_fitsSecond_44 : decode c_Ei_fitsSecond 44 = .ok (.iload_n 1, 1) := by decide +kernel
theorem dEi_fitsSecond_45 : decode c_Ei_fitsSecond 45 = .ok (.sipush 160, 3) := by decide +kernel
theorem dEi_fitsSecond_48 : decode c_Ei_fitsSecond 48 = .ok (.if_icmp .lt 14, 3) := by decide +kernel
theorem dEi_fitsSecond_51 : decode c_Ei_fitsSecond 51 = .ok (.iload_n 1, 1) := by decide +kernel
theorem dEi_fitsSecond_52 : decode c_Ei_fitsSecond 52 = .ok (.sipush 191, 3) := by decide +kernel
theorem dEi_fitsSecond_55 : decode c_Ei_fitsSecond 55 = .ok (.if_icmp .gt 7, 3) := by decide +kernel
theorem dEi_fitsSecond_58 : decode c_Ei_fitsSecond 58 = .ok (.iconst 1, 1) := by decide +kernel
theorem dEi_fitsSecond_59 : decode c_Ei_fitsSecond 59 = .ok (.goto 4, 3) := by decide +kernel
theorem dEi_fitsSecond_62 : decode c_Ei_fitsSecond 62 = .ok (.iconst 0, 1) := by decide +kernel
theorem dEi_fitsSecond_63 : decode c_Ei_fitsSecond 63 = .ok (.ireturn, 1) := by decide +kernel
theorem dEi_fitsSecond_64 : decode c_Ei_fitsSecond 64 = .ok (.iload_n 1, 1) := by decide +kernel
theorem dEi_fitsSecond_65 : decode c_Ei_fitsSecond 65 = .ok (.sipush 128, 3) := by decide +kernel
theorem dEi_fitsSecond_68 : decode c_Ei_fitsSecond 68 = .ok (.if_icmp .lt 14, 3) := by decide +kernel
theorem dEi_fitsSecond_71 : decode c_Ei_fitsSecond 71 = .ok (.iload_n 1, 1) := by decide +kernel
theorem dEi_fitsSecond_72 : decode c_Ei_fitsSecond 72 = .ok (.sipush 159, 3) := by decide +kernel
theorem dEi_fitsSecond_75 : decode c_Ei_fitsSecond 75 = .ok (.if_icmp .gt 7, 3) := by decide +kernel
theorem dEi_fitsSecond_78 : decode c_Ei_fitsSecond 78 = .ok (.iconst 1, 1) := by decide +kernel
theorem dEi_fitsSecond_79 : decode c_Ei_fitsSecond 79 = .ok (.goto 4, 3) := by decide +kernel
theorem dEi_fitsSecond_82 : decode c_Ei_fitsSecond 82 = .ok (.iconst 0, 1) := by decide +kernel
theorem dEi_fitsSecond_83 : decode c_Ei_fitsSecond 83 = .ok (.ireturn, 1) := by decide +kernel
theorem dEi_fitsSecond_84 : decode c_Ei_fitsSecond 84 = .ok (.iload_n 1, 1) := by decide +kernel
theorem dEi_fitsSecond_85 : decode c_Ei_fitsSecond 85 = .ok (.sipush 144, 3) := by decide +kernel
theorem dEi_fitsSecond_88 : decode c_Ei_fitsSecond 88 = .ok (.if_icmp .lt 14, 3) := by decide +kernel
theorem dEi_fitsSecond_91 : decode c_Ei_fitsSecond 91 = .ok (.iload_n 1, 1) := by decide +kernel
theorem dEi_fitsSecond_92 : decode c_Ei_fitsSecond 92 = .ok (.sipush 191, 3) := by decide +kernel
theorem dEi_fitsSecond_95 : decode c_Ei_fitsSecond 95 = .ok (.if_icmp .gt 7, 3) := by decide +kernel
theorem dEi_fitsSecond_98 : decode c_Ei_fitsSecond 98 = .ok (.iconst 1, 1) := by decide +kernel
theorem dEi_fitsSecond_99 : decode c_Ei_fitsSecond 99 = .ok (.goto 4, 3) := by decide +kernel
theorem dEi_fitsSecond_102 : decode c_Ei_fitsSecond 102 = .ok (.iconst 0, 1) := by decide +kernel
theorem dEi_fitsSecond_103 : decode c_Ei_fitsSecond 103 = .ok (.ireturn, 1) := by decide +kernel
theorem dEi_fitsSecond_104 : decode c_Ei_fitsSecond 104 = .ok (.iload_n 1, 1) := by decide +kernel
theorem dEi_fitsSecond_105 : decode c_Ei_fitsSecond 105 = .ok (.sipush 128, 3) := by decide +kernel
theorem dEi_fitsSecond_108 : decode c_Ei_fitsSecond 108 = .ok (.if_icmp .lt 14, 3) := by decide +kernel
theorem dEi_fitsSecond_111 : decode c_Ei_fitsSecond 111 = .ok (.iload_n 1, 1) := by decide +kernel
theorem dEi_fitsSecond_112 : decode c_Ei_fitsSecond 112 = .ok (.sipush 143, 3) := by decide +kernel
theorem dEi_fitsSecond_115 : decode c_Ei_fitsSecond 115 = .ok (.if_icmp .gt 7, 3) := by decide +kernel
theorem dEi_fitsSecond_118 : decode c_Ei_fitsSecond 118 = .ok (.iconst 1, 1) := by decide +kernel
theorem dEi_fitsSecond_119 : decode c_Ei_fitsSecond 119 = .ok (.goto 4, 3) := by decide +kernel
theorem dEi_fitsSecond_122 : decode c_Ei_fitsSecond 122 = .ok (.iconst 0, 1) := by decide +kernel
theorem dEi_fitsSecond_123 : decode c_Ei_fitsSecond 123 = .ok (.ireturn, 1) := by decide +kernel
theorem dEi_fitsSecond_124 : decode c_Ei_fitsSecond 124 = .ok (.iload_n 1, 1) := by decide +kernel
theorem dEi_fitsSecond_125 : decode c_Ei_fitsSecond 125 = .ok (.invokestatic 40, 3) := by decide +kernel
theorem dEi_fitsSecond_128 : decode c_Ei_fitsSecond 128 = .ok (.ireturn, 1) := by decide +kernel
theorem dEi_fitsFurther_0 : decode c_Ei_fitsFurther 0 = .ok (.iload_n 0, 1) := by decide +kernel
theorem dEi_fitsFurther_1 : decode c_Ei_fitsFurther 1 = .ok (.sipush 128, 3) := by decide +kernel
theorem dEi_fitsFurther_4 : decode c_Ei_fitsFurther 4 = .ok (.if_icmp .lt 14, 3) := by decide +kernel
theorem dEi_fitsFurther_7 : decode c_Ei_fitsFurther 7 = .ok (.iload_n 0, 1) := by decide +kernel
theorem dEi_fitsFurther_8 : decode c_Ei_fitsFurther 8 = .ok (.sipush 191, 3) := by decide +kernel
theorem dEi_fitsFurther_11 : decode c_Ei_fitsFurther 11 = .ok (.if_icmp .gt 7, 3) := by decide +kernel
theorem dEi_fitsFurther_14 : decode c_Ei_fitsFurther 14 = .ok (.iconst 1, 1) := by decide +kernel
theorem dEi_fitsFurther_15 : decode c_Ei_fitsFurther 15 = .ok (.goto 4, 3) := by decide +kernel
theorem dEi_fitsFurther_18 : decode c_Ei_fitsFurther 18 = .ok (.iconst 0, 1) := by decide +kernel
theorem dEi_fitsFurther_19 : decode c_Ei_fitsFurther 19 = .ok (.ireturn, 1) := by decide +kernel
theorem dEi_writeOne_0 : decode c_Ei_writeOne 0 = .ok (.iload_n 1, 1) := by decide +kernel
theorem dEi_writeOne_1 : decode c_Ei_writeOne 1 = .ok (.sipush 128, 3) := by decide +kernel
theorem dEi_writeOne_4 : decode c_Ei_writeOne 4 = .ok (.if_icmp .ge 9, 3) := by decide +kernel
theorem dEi_writeOne_7 : decode c_Ei_writeOne 7 = .ok (.aload_n 2, 1) := by decide +kernel
theorem dEi_writeOne_8 : decode c_Ei_writeOne 8 = .ok (.iload_n 1, 1) := by decide +kernel
theorem dEi_writeOne_9 : decode c_Ei_writeOne 9 = .ok (.invokevirtual 44, 3) := by decide +kernel
theorem dEi_writeOne_12 : decode c_Ei_writeOne 12 = .ok (.ireturn, 1) := by decide +kernel
theorem dEi_writeOne_13 : decode c_Ei_writeOne 13 = .ok (.iload_n 1, 1) := by decide +kernel
theorem dEi_writeOne_14 : decode c_Ei_writeOne 14 = .ok (.sipush 2048, 3) := by decide +kernel
theorem dEi_writeOne_17 : decode c_Ei_writeOne 17 = .ok (.if_icmp .ge 32, 3) := by decide +kernel
theorem dEi_writeOne_20 : decode c_Ei_writeOne 20 = .ok (.aload_n 2, 1) := by decide +kernel
theorem dEi_writeOne_21 : decode c_Ei_writeOne 21 = .ok (.sipush 192, 3) := by decide +kernel
theorem dEi_writeOne_24 : decode c_Ei_writeOne 24 = .ok (.iload_n 1, 1) := by decide +kernel
theorem dEi_writeOne_25 : decode c_Ei_writeOne 25 = .ok (.bipush 64, 2) := by decide +kernel
theorem dEi_writeOne_27 : decode c_Ei_writeOne 27 = .ok (.idiv, 1) := by decide +kernel
theorem dEi_writeOne_28 : decode c_Ei_writeOne 28 = .ok (.iadd, 1) := by decide +kernel
theorem dEi_writeOne_29 : decode c_Ei_writeOne 29 = .ok (.invokevirtual 44, 3) := by decide +kernel
theorem dEi_writeOne_32 : decode c_Ei_writeOne 32 = .ok (.ifCond .eq 15, 3) := by decide +kernel
theorem dEi_writeOne_35 : decode c_Ei_writeOne 35 = .ok (.iload_n 1, 1) := by decide +kernel
theorem dEi_writeOne_36 : decode c_Ei_writeOne 36 = .ok (.aload_n 2, 1) := by decide +kernel
theorem dEi_writeOne_37 : decode c_Ei_writeOne 37 = .ok (.invokestatic 47, 3) := by decide +kernel
theorem dEi_writeOne_40 : decode c_Ei_writeOne 40 = .ok (.ifCond .eq 7, 3) := by decide +kernel
theorem dEi_writeOne_43 : decode c_Ei_writeOne 43 = .ok (.iconst 1, 1) := by decide +kernel
theorem dEi_writeOne_44 : decode c_Ei_writeOne 44 = .ok (.goto 4, 3) := by decide +kernel
theorem dEi_writeOne_47 : decode c_Ei_writeOne 47 = .ok (.iconst 0, 1) := by decide +kernel
theorem dEi_writeOne_48 : decode c_Ei_writeOne 48 = .ok (.ireturn, 1) := by decide +kernel
theorem dEi_writeOne_49 : decode c_Ei_writeOne 49 = .ok (.iload_n 1, 1) := by decide +kernel
theorem dEi_writeOne_50 : decode c_Ei_writeOne 50 = .ok (.ldc 51, 2) := by decide +kernel
theorem dEi_writeOne_52 : decode c_Ei_writeOne 52 = .ok (.if_icmp .ge 44, 3) := by decide +kernel
theorem dEi_writeOne_55 : decode c_Ei_writeOne 55 = .ok (.aload_n 2, 1) := by decide +kernel
theorem dEi_writeOne_56 : decode c_Ei_writeOne 56 = .ok (.sipush 224, 3) := by decide +kernel
theorem dEi_writeOne_59 : decode c_Ei_writeOne 59 = .ok (.iload_n 1, 1) := by decide +kernel
theorem dEi_writeOne_60 : decode c_Ei_writeOne 60 = .ok (.sipush 4096, 3) := by decide +kernel
theorem dEi_writeOne_63 : decode c_Ei_writeOne 63 = .ok (.idiv, 1) := by decide +kernel
theorem dEi_writeOne_64 : decode c_Ei_writeOne 64 = .ok (.iadd, 1) := by decide +kernel
theorem dEi_writeOne_65 : decode c_Ei_writeOne 65 = .ok (.invokevirtual 44, 3) := by decide +kernel
theorem dEi_writeOne_68 : decode c_Ei_writeOne 68 = .ok (.ifCond .eq 26, 3) := by decide +kernel
theorem dEi_writeOne_71 : decode c_Ei_writeOne 71 = .ok (.iload_n 1, 1) := by decide +kernel
theorem dEi_writeOne_72 : decode c_Ei_writeOne 72 = .ok (.bipush 64, 2) := by decide +kernel
theorem dEi_writeOne_74 : decode c_Ei_writeOne 74 = .ok (.idiv, 1) := by decide +kernel
theorem dEi_writeOne_75 : decode c_Ei_writeOne 75 = .ok (.aload_n 2, 1) := by decide +kernel
theorem dEi_writeOne_76 : decode c_Ei_writeOne 76 = .ok (.invokestatic 47, 3) := by decide +kernel
theorem dEi_writeOne_79 : decode c_Ei_writeOne 79 = .ok (.ifCond .eq 15, 3) := by decide +kernel
theorem dEi_writeOne_82 : decode c_Ei_writeOne 82 = .ok (.iload_n 1, 1) := by decide +kernel
theorem dEi_writeOne_83 : decode c_Ei_writeOne 83 = .ok (.aload_n 2, 1) := by decide +kernel
theorem dEi_writeOne_84 : decode c_Ei_writeOne 84 = .ok (.invokestatic 47, 3) := by decide +kernel
theorem dEi_writeOne_87 : decode c_Ei_writeOne 87 = .ok (.ifCond .eq 7, 3) := by decide +kernel
theorem dEi_writeOne_90 : decode c_Ei_writeOne 90 = .ok (.iconst 1, 1) := by decide +kernel
theorem dEi_writeOne_91 : decode c_Ei_writeOne 91 = .ok (.goto 4, 3) := by decide +kernel
theorem dEi_writeOne_94 : decode c_Ei_writeOne 94 = .ok (.iconst 0, 1) := by decide +kernel
theorem dEi_writeOne_95 : decode c_Ei_writeOne 95 = .ok (.ireturn, 1) := by decide +kernel
theorem dEi_writeOne_96 : decode c_Ei_writeOne 96 = .ok (.aload_n 2, 1) := by decide +kernel
theorem dEi_writeOne_97 : decode c_Ei_writeOne 97 = .ok (.sipush 240, 3) := by decide +kernel
theorem dEi_writeOne_100 : decode c_Ei_writeOne 100 = .ok (.iload_n 1, 1) := by decide +kernel
theorem dEi_writeOne_101 : decode c_Ei_writeOne 101 = .ok (.ldc 52, 2) := by decide +kernel
theorem dEi_writeOne_103 : decode c_Ei_writeOne 103 = .ok (.idiv, 1) := by decide +kernel
theorem dEi_writeOne_104 : decode c_Ei_writeOne 104 = .ok (.iadd, 1) := by decide +kernel
theorem dEi_writeOne_105 : decode c_Ei_writeOne 105 = .ok (.invokevirtual 44, 3) := by decide +kernel
theorem dEi_writeOne_108 : decode c_Ei_writeOne 108 = .ok (.ifCond .eq 38, 3) := by decide +kernel
theorem dEi_writeOne_111 : decode c_Ei_writeOne 111 = .ok (.iload_n 1, 1) := by decide +kernel
theorem dEi_writeOne_112 : decode c_Ei_writeOne 112 = .ok (.sipush 4096, 3) := by decide +kernel
theorem dEi_writeOne_115 : decode c_Ei_writeOne 115 = .ok (.idiv, 1) := by decide +kernel
theorem dEi_writeOne_116 : decode c_Ei_writeOne 116 = .ok (.aload_n 2, 1) := by decide +kernel
theorem dEi_writeOne_117 : decode c_Ei_writeOne 117 = .ok (.invokestatic 47, 3) := by decide +kernel
theorem dEi_writeOne_120 : decode c_Ei_writeOne 120 = .ok (.ifCond .eq 26, 3) := by decide +kernel
theorem dEi_writeOne_123 : decode c_Ei_writeOne 123 = .ok (.iload_n 1, 1) := by decide +kernel
theorem dEi_writeOne_124 : decode c_Ei_writeOne 124 = .ok (.bipush 64, 2) := by decide +kernel
theorem dEi_writeOne_126 : decode c_Ei_writeOne 126 = .ok (.idiv, 1) := by decide +kernel
theorem dEi_writeOne_127 : decode c_Ei_writeOne 127 = .ok (.aload_n 2, 1) := by decide +kernel
theorem dEi_writeOne_128 : decode c_Ei_writeOne 128 = .ok (.invokestatic 47, 3) := by decide +kernel
theorem dEi_writeOne_131 : decode c_Ei_writeOne 131 = .ok (.ifCond .eq 15, 3) := by decide +kernel
theorem dEi_writeOne_134 : decode c_Ei_writeOne 134 = .ok (.iload_n 1, 1) := by decide +kernel
theorem dEi_writeOne_135 : decode c_Ei_writeOne 135 = .ok (.aload_n 2, 1) := by decide +kernel
theorem dEi_writeOne_136 : decode c_Ei_writeOne 136 = .ok (.invokestatic 47, 3) := by decide +kernel
theorem dEi_writeOne_139 : decode c_Ei_writeOne 139 = .ok (.ifCond .eq 7, 3) := by decide +kernel
theorem dEi_writeOne_142 : decode c_Ei_writeOne 142 = .ok (.iconst 1, 1) := by decide +kernel
theorem dEi_writeOne_143 : decode c_Ei_writeOne 143 = .ok (.goto 4, 3) := by decide +kernel
theorem dEi_writeOne_146 : decode c_Ei_writeOne 146 = .ok (.iconst 0, 1) := by decide +kernel
theorem dEi_writeOne_147 : decode c_Ei_writeOne 147 = .ok (.ireturn, 1) := by decide +kernel
theorem dEi_writeFurther_0 : decode c_Ei_writeFurther 0 = .ok (.aload_n 1, 1) := by decide +kernel
theorem dEi_writeFurther_1 : decode c_Ei_writeFurther 1 = .ok (.sipush 128, 3) := by decide +kernel
theorem dEi_writeFurther_4 : decode c_Ei_writeFurther 4 = .ok (.iload_n 0, 1) := by decide +kernel
theorem dEi_writeFurther_5 : decode c_Ei_writeFurther 5 = .ok (.bipush 64, 2) := by decide +kernel
theorem dEi_writeFurther_7 : decode c_Ei_writeFurther 7 = .ok (.irem, 1) := by decide +kernel
theorem dEi_writeFurther_8 : decode c_Ei_writeFurther 8 = .ok (.iadd, 1) := by decide +kernel
theorem dEi_writeFurther_9 : decode c_Ei_writeFurther 9 = .ok (.invokevirtual 44, 3) := by decide +kernel
theorem dEi_writeFurther_12 : decode c_Ei_writeFurther 12 = .ok (.ireturn, 1) := by decide +kernel
theorem dRow_init_0 : decode c_Row_init 0 = .ok (.aload_n 0, 1) := by decide +kernel
theorem dRow_init_1 : decode c_Row_init 1 = .ok (.invokespecial 3, 3) := by decide +kernel
theorem dRow_init_4 : decode c_Row_init 4 = .ok (.aload_n 0, 1) := by decide +kernel
theorem dRow_init_5 : decode c_Row_init 5 = .ok (.iload_n 1, 1) := by decide +kernel
theorem dRow_init_6 : decode c_Row_init 6 = .ok (.newarray .int, 2) := by decide +kernel
theorem dRow_init_8 : decode c_Row_init 8 = .ok (.putfield 9, 3) := by decide +kernel
theorem dRow_init_11 : decode c_Row_init 11 = .ok (.return_, 1) := by decide +kernel
theorem dRow_clear_0 : decode c_Row_clear 0 = .ok (.aload_n 0, 1) := by decide +kernel
theorem dRow_clear_1 : decode c_Row_clear 1 = .ok (.iconst 0, 1) := by decide +kernel
theorem dRow_clear_2 : decode c_Row_clear 2 = .ok (.putfield 15, 3) := by decide +kernel
theorem dRow_clear_5 : decode c_Row_clear 5 = .ok (.return_, 1) := by decide +kernel
theorem dRow_unitAt_0 : decode c_Row_unitAt 0 = .ok (.iload_n 1, 1) := by decide +kernel
theorem dRow_unitAt_1 : decode c_Row_unitAt 1 = .ok (.ifCond .lt 20, 3) := by decide +kernel
theorem dRow_unitAt_4 : decode c_Row_unitAt 4 = .ok (.iload_n 1, 1) := by decide +kernel
theorem dRow_unitAt_5 : decode c_Row_unitAt 5 = .ok (.aload_n 0, 1) := by decide +kernel
theorem dRow_unitAt_6 : decode c_Row_unitAt 6 = .ok (.getfield 15, 3) := by decide +kernel
theorem dRow_unitAt_9 : decode c_Row_unitAt 9 = .ok (.if_icmp .ge 12, 3) := by decide +kernel
theorem dRow_unitAt_12 : decode c_Row_unitAt 12 = .ok (.aload_n 0, 1) := by decide +kernel
theorem dRow_unitAt_13 : decode c_Row_unitAt 13 = .ok (.getfield 9, 3) := by decide +kernel
theorem dRow_unitAt_16 : decode c_Row_unitAt 16 = .ok (.iload_n 1, 1) := by decide +kernel
theorem dRow_unitAt_17 : decode c_Row_unitAt 17 = .ok (.iaload, 1) := by decide +kernel
theorem dRow_unitAt_18 : decode c_Row_unitAt 18 = .ok (.goto 4, 3) := by decide +kernel
theorem dRow_unitAt_21 : decode c_Row_unitAt 21 = .ok (.iconst (-1), 1) := by decide +kernel
theorem dRow_unitAt_22 : decode c_Row_unitAt 22 = .ok (.ireturn, 1) := by decide +kernel
theorem dRow_add_0 : decode c_Row_add 0 = .ok (.aload_n 0, 1) := by decide +kernel
theorem dRow_add_1 : decode c_Row_add 1 = .ok (.aload_n 0, 1) := by decide +kernel
theorem dRow_add_2 : decode c_Row_add 2 = .ok (.getfield 15, 3) := by decide +kernel
theorem dRow_add_5 : decode c_Row_add 5 = .ok (.iload_n 1, 1) := by decide +kernel
theorem dRow_add_6 : decode c_Row_add 6 = .ok (.invokevirtual 19, 3) := by decide +kernel
theorem dRow_add_9 : decode c_Row_add 9 = .ok (.ireturn, 1) := by decide +kernel
theorem dRow_insert_0 : decode c_Row_insert 0 = .ok (.aload_n 0, 1) := by decide +kernel
theorem dRow_insert_1 : decode c_Row_insert 1 = .ok (.getfield 15, 3) := by decide +kernel
theorem dRow_insert_4 : decode c_Row_insert 4 = .ok (.aload_n 0, 1) := by decide +kernel
theorem dRow_insert_5 : decode c_Row_insert 5 = .ok (.getfield 9, 3) := by decide +kernel
theorem dRow_insert_8 : decode c_Row_insert 8 = .ok (.arraylength, 1) := by decide +kernel
theorem dRow_insert_9 : decode c_Row_insert 9 = .ok (.if_icmp .ge 15, 3) := by decide +kernel
theorem dRow_insert_12 : decode c_Row_insert 12 = .ok (.iload_n 1, 1) := by decide +kernel
theorem dRow_insert_13 : decode c_Row_insert 13 = .ok (.ifCond .lt 11, 3) := by decide +kernel
theorem dRow_insert_16 : decode c_Row_insert 16 = .ok (.iload_n 1, 1) := by decide +kernel
theorem dRow_insert_17 : decode c_Row_insert 17 = .ok (.aload_n 0, 1) := by decide +kernel
theorem dRow_insert_18 : decode c_Row_insert 18 = .ok (.getfield 15, 3) := by decide +kernel
theorem dRow_insert_21 : decode c_Row_insert 21 = .ok (.if_icmp .le 5, 3) := by decide +kernel
theorem dRow_insert_24 : decode c_Row_insert 24 = .ok (.iconst 0, 1) := by decide +kernel
theorem dRow_insert_25 : decode c_Row_insert 25 = .ok (.ireturn, 1) := by decide +kernel
theorem dRow_insert_26 : decode c_Row_insert 26 = .ok (.aload_n 0, 1) := by decide +kernel
theorem dRow_insert_27 : decode c_Row_insert 27 = .ok (.getfield 15, 3) := by decide +kernel
theorem dRow_insert_30 : decode c_Row_insert 30 = .ok (.istore_n 3, 1) := by decide +kernel
theorem dRow_insert_31 : decode c_Row_insert 31 = .ok (.iload_n 3, 1) := by decide +kernel
theorem dRow_insert_32 : decode c_Row_insert 32 = .ok (.iload_n 1, 1) := by decide +kernel
theorem dRow_insert_33 : decode c_Row_insert 33 = .ok (.if_icmp .le 23, 3) := by decide +kernel
theorem dRow_insert_36 : decode c_Row_insert 36 = .ok (.aload_n 0, 1) := by decide +kernel
theorem dRow_insert_37 : decode c_Row_insert 37 = .ok (.getfield 9, 3) := by decide +kernel
theorem dRow_insert_40 : decode c_Row_insert 40 = .ok (.iload_n 3, 1) := by decide +kernel
theorem dRow_insert_41 : decode c_Row_insert 41 = .ok (.aload_n 0, 1) := by decide +kernel
theorem dRow_insert_42 : decode c_Row_insert 42 = .ok (.getfield 9, 3) := by decide +kernel
theorem dRow_insert_45 : decode c_Row_insert 45 = .ok (.iload_n 3, 1) := by decide +kernel
theorem dRow_insert_46 : decode c_Row_insert 46 = .ok (.iconst 1, 1) := by decide +kernel
theorem dRow_insert_47 : decode c_Row_insert 47 = .ok (.isub, 1) := by decide +kernel
theorem dRow_insert_48 : decode c_Row_insert 48 = .ok (.iaload, 1) := by decide +kernel
theorem dRow_insert_49 : decode c_Row_insert 49 = .ok (.iastore, 1) := by decide +kernel
theorem dRow_insert_50 : decode c_Row_insert 50 = .ok (.iinc 3 (-1), 3) := by decide +kernel
theorem dRow_insert_53 : decode c_Row_insert 53 = .ok (.goto (-22), 3) := by decide +kernel
theorem dRow_insert_56 : decode c_Row_insert 56 = .ok (.aload_n 0, 1) := by decide +kernel
theorem dRow_insert_57 : decode c_Row_insert 57 = .ok (.getfield 9, 3) := by decide +kernel
theorem dRow_insert_60 : decode c_Row_insert 60 = .ok (.iload_n 1, 1) := by decide +kernel
theorem dRow_insert_61 : decode c_Row_insert 61 = .ok (.iload_n 2, 1) := by decide +kernel
theorem dRow_insert_62 : decode c_Row_insert 62 = .ok (.iastore, 1) := by decide +kernel
theorem dRow_insert_63 : decode c_Row_insert 63 = .ok (.aload_n 0, 1) := by decide +kernel
theorem dRow_insert_64 : decode c_Row_insert 64 = .ok (.dup, 1) := by decide +kernel
theorem dRow_insert_65 : decode c_Row_insert 65 = .ok (.getfield 15, 3) := by decide +kernel
theorem dRow_insert_68 : decode c_Row_insert 68 = .ok (.iconst 1, 1) := by decide +kernel
theorem dRow_insert_69 : decode c_Row_insert 69 = .ok (.iadd, 1) := by decide +kernel
theorem dRow_insert_70 : decode c_Row_insert 70 = .ok (.putfield 15, 3) := by decide +kernel
theorem dRow_insert_73 : decode c_Row_insert 73 = .ok (.iconst 1, 1) := by decide +kernel
theorem dRow_insert_74 : decode c_Row_insert 74 = .ok (.ireturn, 1) := by decide +kernel
theorem dRow_become_0 : decode c_Row_become 0 = .ok (.aload_n 1, 1) := by decide +kernel
theorem dRow_become_1 : decode c_Row_become 1 = .ok (.getfield 15, 3) := by decide +kernel
theorem dRow_become_4 : decode c_Row_become 4 = .ok (.aload_n 0, 1) := by decide +kernel
theorem dRow_become_5 : decode c_Row_become 5 = .ok (.getfield 9, 3) := by decide +kernel
theorem dRow_become_8 : decode c_Row_become 8 = .ok (.arraylength, 1) := by decide +kernel
theorem dRow_become_9 : decode c_Row_become 9 = .ok (.if_icmp .le 5, 3) := by decide +kernel
theorem dRow_become_12 : decode c_Row_become 12 = .ok (.iconst 0, 1) := by decide +kernel
theorem dRow_become_13 : decode c_Row_become 13 = .ok (.ireturn, 1) := by decide +kernel
theorem dRow_become_14 : decode c_Row_become 14 = .ok (.aload_n 1, 1) := by decide +kernel
theorem dRow_become_15 : decode c_Row_become 15 = .ok (.getfield 9, 3) := by decide +kernel
theorem dRow_become_18 : decode c_Row_become 18 = .ok (.iconst 0, 1) := by decide +kernel
theorem dRow_become_19 : decode c_Row_become 19 = .ok (.aload_n 0, 1) := by decide +kernel
theorem dRow_become_20 : decode c_Row_become 20 = .ok (.getfield 9, 3) := by decide +kernel
theorem dRow_become_23 : decode c_Row_become 23 = .ok (.iconst 0, 1) := by decide +kernel
theorem dRow_become_24 : decode c_Row_become 24 = .ok (.aload_n 1, 1) := by decide +kernel
theorem dRow_become_25 : decode c_Row_become 25 = .ok (.getfield 15, 3) := by decide +kernel
theorem dRow_become_28 : decode c_Row_become 28 = .ok (.invokestatic 23, 3) := by decide +kernel
theorem dRow_become_31 : decode c_Row_become 31 = .ok (.aload_n 0, 1) := by decide +kernel
theorem dRow_become_32 : decode c_Row_become 32 = .ok (.aload_n 1, 1) := by decide +kernel
theorem dRow_become_33 : decode c_Row_become 33 = .ok (.getfield 15, 3) := by decide +kernel
theorem dRow_become_36 : decode c_Row_become 36 = .ok (.putfield 15, 3) := by decide +kernel
theorem dRow_become_39 : decode c_Row_become 39 = .ok (.iconst 1, 1) := by decide +kernel
theorem dRow_become_40 : decode c_Row_become 40 = .ok (.ireturn, 1) := by decide +kernel
theorem dSi_init_0 : decode c_Si_init 0 = .ok (.aload_n 0, 1) := by decide +kernel
theorem dSi_init_1 : decode c_Si_init 1 = .ok (.invokespecial 3, 3) := by decide +kernel
theorem dSi_init_4 : decode c_Si_init 4 = .ok (.return_, 1) := by decide +kernel
theorem dSi_readOne_0 : decode c_Si_readOne 0 = .ok (.aload_n 1, 1) := by decide +kernel
theorem dSi_readOne_1 : decode c_Si_readOne 1 = .ok (.iload_n 2, 1) := by decide +kernel
theorem dSi_readOne_2 : decode c_Si_readOne 2 = .ok (.invokevirtual 9, 3) := by decide +kernel
theorem dSi_readOne_5 : decode c_Si_readOne 5 = .ok (.istore_n 3, 1) := by decide +kernel
theorem dSi_readOne_6 : decode c_Si_readOne 6 = .ok (.aload_n 0, 1) := by decide +kernel
theorem dSi_readOne_7 : decode c_Si_readOne 7 = .ok (.iconst (-1), 1) := by decide +kernel
theorem dSi_readOne_8 : decode c_Si_readOne 8 = .ok (.putfield 15, 3) := by decide +kernel
theorem dSi_readOne_11 : decode c_Si_readOne 11 = .ok (.aload_n 0, 1) := by decide +kernel
theorem dSi_readOne_12 : decode c_Si_readOne 12 = .ok (.iconst 0, 1) := by decide +kernel
theorem dSi_readOne_13 : decode c_Si_readOne 13 = .ok (.putfield 21, 3) := by decide +kernel
theorem dSi_readOne_16 : decode c_Si_readOne 16 = .ok (.iload_n 3, 1) := by decide +kernel
theorem dSi_readOne_17 : decode c_Si_readOne 17 = .ok (.ldc 24, 2) := by decide +kernel
theorem dSi_readOne_19 : decode c_Si_readOne 19 = .ok (.if_icmp .lt 29, 3) := by decide +kernel
theorem dSi_readOne_22 : decode c_Si_readOne 22 = .ok (.iload_n 3, 1) := by decide +kernel
theorem dSi_readOne_23 : decode c_Si_readOne 23 = .ok (.ldc 25, 2) := by decide +kernel
theorem dSi_readOne_25 : decode c_Si_readOne 25 = .ok (.if_icmp .ge 23, 3) := by decide +kernel
theorem dSi_readOne_28 : decode c_Si_readOne 28 = .ok (.aload_n 0, 1) := by decide +kernel
theorem dSi_readOne_29 : decode c_Si_readOne 29 = .ok (.iconst 1, 1) := by decide +kernel
theorem dSi_readOne_30 : decode c_Si_readOne 30 = .ok (.putfield 21, 3) := by decide +kernel
theorem dSi_readOne_33 : decode c_Si_readOne 33 = .ok (.aload_n 0, 1) := by decide +kernel
theorem dSi_readOne_34 : decode c_Si_readOne 34 = .ok (.iload_n 3, 1) := by decide +kernel
theorem dSi_readOne_35 : decode c_Si_readOne 35 = .ok (.aload_n 1, 1) := by decide +kernel
theorem dSi_readOne_36 : decode c_Si_readOne 36 = .ok (.iload_n 2, 1) := by decide +kernel
theorem dSi_readOne_37 : decode c_Si_readOne 37 = .ok (.iconst 1, 1) := by decide +kernel
theorem dSi_readOne_38 : decode c_Si_readOne 38 = .ok (.iadd, 1) := by decide +kernel
theorem dSi_readOne_39 : decode c_Si_readOne 39 = .ok (.invokevirtual 9, 3) := by decide +kernel
theorem dSi_readOne_42 : decode c_Si_readOne 42 = .ok (.invokevirtual 26, 3) := by decide +kernel
theorem dSi_readOne_45 : decode c_Si_readOne 45 = .ok (.goto 26, 3) := by decide +kernel
theorem dSi_readOne_48 : decode c_Si_readOne 48 = .ok (.iload_n 3, 1) := by decide +kernel
theorem dSi_readOne_49 : decode c_Si_readOne 49 = .ok (.ldc 30, 2) := by decide +kernel
theorem dSi_readOne_51 : decode c_Si_readOne 51 = .ok (.if_icmp .ge 20, 3) := by decide +kernel
theorem dSi_readOne_54 : decode c_Si_readOne 54 = .ok (.iload_n 3, 1) := by decide +kernel
theorem dSi_readOne_55 : decode c_Si_readOne 55 = .ok (.invokestatic 31, 3) := by decide +kernel
theorem dSi_readOne_58 : decode c_Si_readOne 58 = .ok (.ifCond .eq 13, 3) := by decide +kernel
theorem dSi_readOne_61 : decode c_Si_readOne 61 = .ok (.aload_n 0, 1) := by decide +kernel
theorem dSi_readOne_62 : decode c_Si_readOne 62 = .ok (.iconst 1, 1) := by decide +kernel
theorem dSi_readOne_63 : decode c_Si_readOne 63 = .ok (.putfield 21, 3) := by decide +kernel
theorem dSi_readOne_66 : decode c_Si_readOne 66 = .ok (.aload_n 0, 1) := by decide +kernel
theorem dSi_readOne_67 : decode c_Si_readOne 67 = .ok (.iload_n 3, 1) := by decide +kernel
theorem dSi_readOne_68 : decode c_Si_readOne 68 = .ok (.putfield 15, 3) := by decide +kernel
theorem dSi_readOne_71 : decode c_Si_readOne 71 = .ok (.return_, 1) := by decide +kernel
theorem dSi_readLow_0 : decode c_Si_readLow 0 = .ok (.iload_n 2, 1) := by decide +kernel
theorem dSi_readLow_1 : decode c_Si_readLow 1 = .ok (.ldc 25, 2) := by decide +kernel
theorem dSi_readLow_3 : decode c_Si_readLow 3 = .ok (.if_icmp .lt 34, 3) := by decide +kernel
theorem dSi_readLow_6 : decode c_Si_readLow 6 = .ok (.iload_n 2, 1) := by decide +kernel
theorem dSi_readLow_7 : decode c_Si_readLow 7 = .ok (.ldc 35, 2) := by decide +kernel
theorem dSi_readLow_9 : decode c_Si_readLow 9 = .ok (.if_icmp .gt 28, 3) := by decide +kernel
theorem dSi_readLow_12 : decode c_Si_readLow 12 = .ok (.aload_n 0, 1) := by decide +kernel
theorem dSi_readLow_13 : decode c_Si_readLow 13 = .ok (.iconst 2, 1) := by decide +kernel
theorem dSi_readLow_14 : decode c_Si_readLow 14 = .ok (.putfield 21, 3) := by decide +kernel
theorem dSi_readLow_17 : decode c_Si_readLow 17 = .ok (.aload_n 0, 1) := by decide +kernel
theorem dSi_readLow_18 : decode c_Si_readLow 18 = .ok (.ldc 30, 2) := by decide +kernel
theorem dSi_readLow_20 : decode c_Si_readLow 20 = .ok (.iload_n 1, 1) := by decide +kernel
theorem dSi_readLow_21 : decode c_Si_readLow 21 = .ok (.ldc 24, 2) := by decide +kernel
theorem dSi_readLow_23 : decode c_Si_readLow 23 = .ok (.isub, 1) := by decide +kernel
theorem dSi_readLow_24 : decode c_Si_readLow 24 = .ok (.sipush 1024, 3) := by decide +kernel
theorem dSi_readLow_27 : decode c_Si_readLow 27 = .ok (.imul, 1) := by decide +kernel
theorem dSi_readLow_28 : decode c_Si_readLow 28 = .ok (.iadd, 1) := by decide +kernel
theorem dSi_readLow_29 : decode c_Si_readLow 29 = .ok (.iload_n 2, 1) := by decide +kernel
theorem dSi_readLow_30 : decode c_Si_readLow 30 = .ok (.ldc 25, 2) := by decide +kernel
theorem dSi_readLow_32 : decode c_Si_readLow 32 = .ok (.isub, 1) := by decide +kernel
theorem dSi_readLow_33 : decode c_Si_readLow 33 = .ok (.iadd, 1) := by decide +kernel
theorem dSi_readLow_34 : decode c_Si_readLow 34 = .ok (.putfield 15, 3) := by decide +kernel
theorem dSi_readLow_37 : decode c_Si_readLow 37 = .ok (.return_, 1) := by decide +kernel
