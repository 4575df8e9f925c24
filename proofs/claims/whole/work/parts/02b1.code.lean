theorem dLe_nextToTell_22 : decode c_Le_nextToTell 22 = .ok (.iload 5, 2) := by decide +kernel
theorem dLe_nextToTell_24 : decode c_Le_nextToTell 24 = .ok (.aload_n 0, 1) := by decide +kernel
theorem dLe_nextToTell_25 : decode c_Le_nextToTell 25 = .ok (.getfield 11, 3) := by decide +kernel
theorem dLe_nextToTell_28 : decode c_Le_nextToTell 28 = .ok (.if_icmp .gt 18, 3) := by decide +kernel
theorem dLe_nextToTell_31 : decode c_Le_nextToTell 31 = .ok (.iload 5, 2) := by decide +kernel
theorem dLe_nextToTell_33 : decode c_Le_nextToTell 33 = .ok (.aload_n 0, 1) := by decide +kernel
theorem dLe_nextToTell_34 : decode c_Le_nextToTell 34 = .ok (.getfield 11, 3) := by decide +kernel
theorem dLe_nextToTell_37 : decode c_Le_nextToTell 37 = .ok (.if_icmp .ne 13, 3) := by decide +kernel
theorem dLe_nextToTell_40 : decode c_Le_nextToTell 40 = .ok (.iload 4, 2) := by decide +kernel
theorem dLe_nextToTell_42 : decode c_Le_nextToTell 42 = .ok (.iload_n 2, 1) := by decide +kernel
theorem dLe_nextToTell_43 : decode c_Le_nextToTell 43 = .ok (.if_icmp .le 7, 3) := by decide +kernel
theorem dLe_nextToTell_46 : decode c_Le_nextToTell 46 = .ok (.iconst 1, 1) := by decide +kernel
theorem dLe_nextToTell_47 : decode c_Le_nextToTell 47 = .ok (.goto 4, 3) := by decide +kernel
theorem dLe_nextToTell_50 : decode c_Le_nextToTell 50 = .ok (.iconst 0, 1) := by decide +kernel
theorem dLe_nextToTell_51 : decode c_Le_nextToTell 51 = .ok (.istore 6, 2) := by decide +kernel
theorem dLe_nextToTell_53 : decode c_Le_nextToTell 53 = .ok (.iload 6, 2) := by decide +kernel
theorem dLe_nextToTell_55 : decode c_Le_nextToTell 55 = .ok (.ifCond .eq 21, 3) := by decide +kernel
theorem dLe_nextToTell_58 : decode c_Le_nextToTell 58 = .ok (.iload_n 3, 1) := by decide +kernel
theorem dLe_nextToTell_59 : decode c_Le_nextToTell 59 = .ok (.iconst (-1), 1) := by decide +kernel
theorem dLe_nextToTell_60 : decode c_Le_nextToTell 60 = .ok (.if_icmp .eq 13, 3) := by decide +kernel
theorem dLe_nextToTell_63 : decode c_Le_nextToTell 63 = .ok (.iload 5, 2) := by decide +kernel
theorem dLe_nextToTell_65 : decode c_Le_nextToTell 65 = .ok (.aload_n 1, 1) := by decide +kernel
theorem dLe_nextToTell_66 : decode c_Le_nextToTell 66 = .ok (.iload_n 3, 1) := by decide +kernel
theorem dLe_nextToTell_67 : decode c_Le_nextToTell 67 = .ok (.invokevirtual 37, 3) := by decide +kernel
theorem dLe_nextToTell_70 : decode c_Le_nextToTell 70 = .ok (.if_icmp .ge 6, 3) := by decide +kernel
theorem dLe_nextToTell_73 : decode c_Le_nextToTell 73 = .ok (.iload 4, 2) := by decide +kernel
theorem dLe_nextToTell_75 : decode c_Le_nextToTell 75 = .ok (.istore_n 3, 1) := by decide +kernel
theorem dLe_nextToTell_76 : decode c_Le_nextToTell 76 = .ok (.iinc 4 1, 3) := by decide +kernel
theorem dLe_nextToTell_79 : decode c_Le_nextToTell 79 = .ok (.goto (-74), 3) := by decide +kernel
theorem dLe_nextToTell_82 : decode c_Le_nextToTell 82 = .ok (.iload_n 3, 1) := by decide +kernel
theorem dLe_nextToTell_83 : decode c_Le_nextToTell 83 = .ok (.ireturn, 1) := by decide +kernel
theorem dLe_tell_0 : decode c_Le_tell 0 = .ok (.aload_n 1, 1) := by decide +kernel
theorem dLe_tell_1 : decode c_Le_tell 1 = .ok (.iload_n 2, 1) := by decide +kernel
theorem dLe_tell_2 : decode c_Le_tell 2 = .ok (.invokevirtual 37, 3) := by decide +kernel
theorem dLe_tell_5 : decode c_Le_tell 5 = .ok (.istore 5, 2) := by decide +kernel
theorem dLe_tell_7 : decode c_Le_tell 7 = .ok (.aload_n 1, 1) := by decide +kernel
theorem dLe_tell_8 : decode c_Le_tell 8 = .ok (.iload_n 2, 1) := by decide +kernel
theorem dLe_tell_9 : decode c_Le_tell 9 = .ok (.invokestatic 103, 3) := by decide +kernel
theorem dLe_tell_12 : decode c_Le_tell 12 = .ok (.istore 6, 2) := by decide +kernel
theorem dLe_tell_14 : decode c_Le_tell 14 = .ok (.iload 5, 2) := by decide +kernel
theorem dLe_tell_16 : decode c_Le_tell 16 = .ok (.aload_n 0, 1) := by decide +kernel
theorem dLe_tell_17 : decode c_Le_tell 17 = .ok (.getfield 11, 3) := by decide +kernel
theorem dLe_tell_20 : decode c_Le_tell 20 = .ok (.isub, 1) := by decide +kernel
theorem dLe_tell_21 : decode c_Le_tell 21 = .ok (.iload_n 3, 1) := by decide +kernel
theorem dLe_tell_22 : decode c_Le_tell 22 = .ok (.imul, 1) := by decide +kernel
theorem dLe_tell_23 : decode c_Le_tell 23 = .ok (.iload 6, 2) := by decide +kernel
theorem dLe_tell_25 : decode c_Le_tell 25 = .ok (.iadd, 1) := by decide +kernel
theorem dLe_tell_26 : decode c_Le_tell 26 = .ok (.aload_n 0, 1) := by decide +kernel
theorem dLe_tell_27 : decode c_Le_tell 27 = .ok (.getfield 15, 3) := by decide +kernel
theorem dLe_tell_30 : decode c_Le_tell 30 = .ok (.isub, 1) := by decide +kernel
theorem dLe_tell_31 : decode c_Le_tell 31 = .ok (.istore 7, 2) := by decide +kernel
theorem dLe_tell_33 : decode c_Le_tell 33 = .ok (.aload_n 0, 1) := by decide +kernel
theorem dLe_tell_34 : decode c_Le_tell 34 = .ok (.iload 7, 2) := by decide +kernel
theorem dLe_tell_36 : decode c_Le_tell 36 = .ok (.aload 4, 2) := by decide +kernel
theorem dLe_tell_38 : decode c_Le_tell 38 = .ok (.invokevirtual 106, 3) := by decide +kernel
theorem dLe_tell_41 : decode c_Le_tell 41 = .ok (.istore 8, 2) := by decide +kernel
theorem dLe_tell_43 : decode c_Le_tell 43 = .ok (.aload_n 0, 1) := by decide +kernel
theorem dLe_tell_44 : decode c_Le_tell 44 = .ok (.iload 5, 2) := by decide +kernel
theorem dLe_tell_46 : decode c_Le_tell 46 = .ok (.iload 6, 2) := by decide +kernel
theorem dLe_tell_48 : decode c_Le_tell 48 = .ok (.iload 7, 2) := by decide +kernel
theorem dLe_tell_50 : decode c_Le_tell 50 = .ok (.iload_n 3, 1) := by decide +kernel
theorem dLe_tell_51 : decode c_Le_tell 51 = .ok (.invokevirtual 75, 3) := by decide +kernel
theorem dLe_tell_54 : decode c_Le_tell 54 = .ok (.iload 8, 2) := by decide +kernel
theorem dLe_tell_56 : decode c_Le_tell 56 = .ok (.ireturn, 1) := by decide +kernel
theorem dLe_toldBefore_0 : decode c_Le_toldBefore 0 = .ok (.iconst 0, 1) := by decide +kernel
theorem dLe_toldBefore_1 : decode c_Le_toldBefore 1 = .ok (.istore_n 2, 1) := by decide +kernel
theorem dLe_toldBefore_2 : decode c_Le_toldBefore 2 = .ok (.iconst 0, 1) := by decide +kernel
theorem dLe_toldBefore_3 : decode c_Le_toldBefore 3 = .ok (.istore_n 3, 1) := by decide +kernel
theorem dLe_toldBefore_4 : decode c_Le_toldBefore 4 = .ok (.iload_n 3, 1) := by decide +kernel
theorem dLe_toldBefore_5 : decode c_Le_toldBefore 5 = .ok (.iload_n 1, 1) := by decide +kernel
theorem dLe_toldBefore_6 : decode c_Le_toldBefore 6 = .ok (.if_icmp .ge 25, 3) := by decide +kernel
theorem dLe_toldBefore_9 : decode c_Le_toldBefore 9 = .ok (.aload_n 0, 1) := by decide +kernel
theorem dLe_toldBefore_10 : decode c_Le_toldBefore 10 = .ok (.iload_n 3, 1) := by decide +kernel
theorem dLe_toldBefore_11 : decode c_Le_toldBefore 11 = .ok (.invokevirtual 37, 3) := by decide +kernel
theorem dLe_toldBefore_14 : decode c_Le_toldBefore 14 = .ok (.aload_n 0, 1) := by decide +kernel
theorem dLe_toldBefore_15 : decode c_Le_toldBefore 15 = .ok (.iload_n 1, 1) := by decide +kernel
theorem dLe_toldBefore_16 : decode c_Le_toldBefore 16 = .ok (.invokevirtual 37, 3) := by decide +kernel
theorem dLe_toldBefore_19 : decode c_Le_toldBefore 19 = .ok (.if_icmp .gt 6, 3) := by decide +kernel
theorem dLe_toldBefore_22 : decode c_Le_toldBefore 22 = .ok (.iinc 2 1, 3) := by decide +kernel
theorem dLe_toldBefore_25 : decode c_Le_toldBefore 25 = .ok (.iinc 3 1, 3) := by decide +kernel
theorem dLe_toldBefore_28 : decode c_Le_toldBefore 28 = .ok (.goto (-24), 3) := by decide +kernel
theorem dLe_toldBefore_31 : decode c_Le_toldBefore 31 = .ok (.iload_n 2, 1) := by decide +kernel
theorem dLe_toldBefore_32 : decode c_Le_toldBefore 32 = .ok (.ireturn, 1) := by decide +kernel
theorem dLe_writeNumber_0 : decode c_Le_writeNumber 0 = .ok (.iload_n 1, 1) := by decide +kernel
theorem dLe_writeNumber_1 : decode c_Le_writeNumber 1 = .ok (.istore_n 3, 1) := by decide +kernel
theorem dLe_writeNumber_2 : decode c_Le_writeNumber 2 = .ok (.iconst 1, 1) := by decide +kernel
theorem dLe_writeNumber_3 : decode c_Le_writeNumber 3 = .ok (.istore 4, 2) := by decide +kernel
theorem dLe_writeNumber_5 : decode c_Le_writeNumber 5 = .ok (.iload 4, 2) := by decide +kernel
theorem dLe_writeNumber_7 : decode c_Le_writeNumber 7 = .ok (.sipush 400, 3) := by decide +kernel
theorem dLe_writeNumber_10 : decode c_Le_writeNumber 10 = .ok (.if_icmp .gt 69, 3) := by decide +kernel
theorem dLe_writeNumber_13 : decode c_Le_writeNumber 13 = .ok (.aload_n 0, 1) := by decide +kernel
theorem dLe_writeNumber_14 : decode c_Le_writeNumber 14 = .ok (.iload 4, 2) := by decide +kernel
theorem dLe_writeNumber_16 : decode c_Le_writeNumber 16 = .ok (.invokevirtual 65, 3) := by decide +kernel
theorem dLe_writeNumber_19 : decode c_Le_writeNumber 19 = .ok (.istore 5, 2) := by decide +kernel
theorem dLe_writeNumber_21 : decode c_Le_writeNumber 21 = .ok (.iload_n 3, 1) := by decide +kernel
theorem dLe_writeNumber_22 : decode c_Le_writeNumber 22 = .ok (.iload 5, 2) := by decide +kernel
theorem dLe_writeNumber_24 : decode c_Le_writeNumber 24 = .ok (.if_icmp .ge 12, 3) := by decide +kernel
theorem dLe_writeNumber_27 : decode c_Le_writeNumber 27 = .ok (.aload_n 2, 1) := by decide +kernel
theorem dLe_writeNumber_28 : decode c_Le_writeNumber 28 = .ok (.iload_n 3, 1) := by decide +kernel
theorem dLe_writeNumber_29 : decode c_Le_writeNumber 29 = .ok (.invokestatic 110, 3) := by decide +kernel
theorem dLe_writeNumber_32 : decode c_Le_writeNumber 32 = .ok (.invokevirtual 41, 3) := by decide +kernel
theorem dLe_writeNumber_35 : decode c_Le_writeNumber 35 = .ok (.ireturn, 1) := by decide +kernel
theorem dLe_writeNumber_36 : decode c_Le_writeNumber 36 = .ok (.bipush 36, 2) := by decide +kernel
theorem dLe_writeNumber_38 : decode c_Le_writeNumber 38 = .ok (.iload 5, 2) := by decide +kernel
theorem dLe_writeNumber_40 : decode c_Le_writeNumber 40 = .ok (.isub, 1) := by decide +kernel
theorem dLe_writeNumber_41 : decode c_Le_writeNumber 41 = .ok (.istore 6, 2) := by decide +kernel
theorem dLe_writeNumber_43 : decode c_Le_writeNumber 43 = .ok (.aload_n 2, 1) := by decide +kernel
theorem dLe_writeNumber_44 : decode c_Le_writeNumber 44 = .ok (.iload 5, 2) := by decide +kernel
theorem dLe_writeNumber_46 : decode c_Le_writeNumber 46 = .ok (.iload_n 3, 1) := by decide +kernel
theorem dLe_writeNumber_47 : decode c_Le_writeNumber 47 = .ok (.iload 5, 2) := by decide +kernel
theorem dLe_writeNumber_49 : decode c_Le_writeNumber 49 = .ok (.isub, 1) := by decide +kernel
theorem dLe_writeNumber_50 : decode c_Le_writeNumber 50 = .ok (.iload 6, 2) := by decide +kernel
theorem dLe_writeNumber_52 : decode c_Le_writeNumber 52 = .ok (.irem, 1) := by decide +kernel
theorem dLe_writeNumber_53 : decode c_Le_writeNumber 53 = .ok (.iadd, 1) := by decide +kernel
theorem dLe_writeNumber_54 : decode c_Le_writeNumber 54 = .ok (.invokestatic 110, 3) := by decide +kernel
theorem dLe_writeNumber_57 : decode c_Le_writeNumber 57 = .ok (.invokevirtual 41, 3) := by decide +kernel
theorem dLe_writeNumber_60 : decode c_Le_writeNumber 60 = .ok (.ifCond .ne 5, 3) := by decide +kernel
theorem dLe_writeNumber_63 : decode c_Le_writeNumber 63 = .ok (.iconst 0, 1) := by decide +kernel
theorem dLe_writeNumber_64 : decode c_Le_writeNumber 64 = .ok (.ireturn, 1) := by decide +kernel
theorem dLe_writeNumber_65 : decode c_Le_writeNumber 65 = .ok (.iload_n 3, 1) := by decide +kernel
theorem dLe_writeNumber_66 : decode c_Le_writeNumber 66 = .ok (.iload 5, 2) := by decide +kernel
theorem dLe_writeNumber_68 : decode c_Le_writeNumber 68 = .ok (.isub, 1) := by decide +kernel
theorem dLe_writeNumber_69 : decode c_Le_writeNumber 69 = .ok (.iload 6, 2) := by decide +kernel
theorem dLe_writeNumber_71 : decode c_Le_writeNumber 71 = .ok (.idiv, 1) := by decide +kernel
theorem dLe_writeNumber_72 : decode c_Le_writeNumber 72 = .ok (.istore_n 3, 1) := by decide +kernel
theorem dLe_writeNumber_73 : decode c_Le_writeNumber 73 = .ok (.iinc 4 1, 3) := by decide +kernel
theorem dLe_writeNumber_76 : decode c_Le_writeNumber 76 = .ok (.goto (-71), 3) := by decide +kernel
theorem dLe_writeNumber_79 : decode c_Le_writeNumber 79 = .ok (.iconst 0, 1) := by decide +kernel
theorem dLe_writeNumber_80 : decode c_Le_writeNumber 80 = .ok (.ireturn, 1) := by decide +kernel
