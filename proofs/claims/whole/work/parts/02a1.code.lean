theorem dSi_writeOne_0 : decode c_Si_writeOne 0 = .ok (.aload_n 2, 1) := by decide +kernel
theorem dSi_writeOne_1 : decode c_Si_writeOne 1 = .ok (.iload_n 1, 1) := by decide +kernel
theorem dSi_writeOne_2 : decode c_Si_writeOne 2 = .ok (.invokestatic 36, 3) := by decide +kernel
theorem dSi_writeOne_5 : decode c_Si_writeOne 5 = .ok (.invokevirtual 39, 3) := by decide +kernel
theorem dSi_writeOne_8 : decode c_Si_writeOne 8 = .ok (.istore_n 3, 1) := by decide +kernel
theorem dSi_writeOne_9 : decode c_Si_writeOne 9 = .ok (.iload_n 1, 1) := by decide +kernel
theorem dSi_writeOne_10 : decode c_Si_writeOne 10 = .ok (.ldc 30, 2) := by decide +kernel
theorem dSi_writeOne_12 : decode c_Si_writeOne 12 = .ok (.if_icmp .ge 5, 3) := by decide +kernel
theorem dSi_writeOne_15 : decode c_Si_writeOne 15 = .ok (.iload_n 3, 1) := by decide +kernel
theorem dSi_writeOne_16 : decode c_Si_writeOne 16 = .ok (.ireturn, 1) := by decide +kernel
theorem dSi_writeOne_17 : decode c_Si_writeOne 17 = .ok (.iload_n 3, 1) := by decide +kernel
theorem dSi_writeOne_18 : decode c_Si_writeOne 18 = .ok (.ifCond .eq 22, 3) := by decide +kernel
theorem dSi_writeOne_21 : decode c_Si_writeOne 21 = .ok (.aload_n 2, 1) := by decide +kernel
theorem dSi_writeOne_22 : decode c_Si_writeOne 22 = .ok (.ldc 25, 2) := by decide +kernel
theorem dSi_writeOne_24 : decode c_Si_writeOne 24 = .ok (.iload_n 1, 1) := by decide +kernel
theorem dSi_writeOne_25 : decode c_Si_writeOne 25 = .ok (.sipush 1024, 3) := by decide +kernel
theorem dSi_writeOne_28 : decode c_Si_writeOne 28 = .ok (.irem, 1) := by decide +kernel
theorem dSi_writeOne_29 : decode c_Si_writeOne 29 = .ok (.iadd, 1) := by decide +kernel
theorem dSi_writeOne_30 : decode c_Si_writeOne 30 = .ok (.invokevirtual 39, 3) := by decide +kernel
theorem dSi_writeOne_33 : decode c_Si_writeOne 33 = .ok (.ifCond .eq 7, 3) := by decide +kernel
theorem dSi_writeOne_36 : decode c_Si_writeOne 36 = .ok (.iconst 1, 1) := by decide +kernel
theorem dSi_writeOne_37 : decode c_Si_writeOne 37 = .ok (.goto 4, 3) := by decide +kernel
theorem dSi_writeOne_40 : decode c_Si_writeOne 40 = .ok (.iconst 0, 1) := by decide +kernel
theorem dSi_writeOne_41 : decode c_Si_writeOne 41 = .ok (.ireturn, 1) := by decide +kernel
theorem dSi_firstUnit_0 : decode c_Si_firstUnit 0 = .ok (.iload_n 0, 1) := by decide +kernel
theorem dSi_firstUnit_1 : decode c_Si_firstUnit 1 = .ok (.ldc 30, 2) := by decide +kernel
theorem dSi_firstUnit_3 : decode c_Si_firstUnit 3 = .ok (.if_icmp .ge 7, 3) := by decide +kernel
theorem dSi_firstUnit_6 : decode c_Si_firstUnit 6 = .ok (.iload_n 0, 1) := by decide +kernel
theorem dSi_firstUnit_7 : decode c_Si_firstUnit 7 = .ok (.goto 14, 3) := by decide +kernel
theorem dSi_firstUnit_10 : decode c_Si_firstUnit 10 = .ok (.ldc 24, 2) := by decide +kernel
theorem dSi_firstUnit_12 : decode c_Si_firstUnit 12 = .ok (.iload_n 0, 1) := by decide +kernel
theorem dSi_firstUnit_13 : decode c_Si_firstUnit 13 = .ok (.ldc 30, 2) := by decide +kernel
theorem dSi_firstUnit_15 : decode c_Si_firstUnit 15 = .ok (.isub, 1) := by decide +kernel
theorem dSi_firstUnit_16 : decode c_Si_firstUnit 16 = .ok (.sipush 1024, 3) := by decide +kernel
theorem dSi_firstUnit_19 : decode c_Si_firstUnit 19 = .ok (.idiv, 1) := by decide +kernel
theorem dSi_firstUnit_20 : decode c_Si_firstUnit 20 = .ok (.iadd, 1) := by decide +kernel
theorem dSi_firstUnit_21 : decode c_Si_firstUnit 21 = .ok (.ireturn, 1) := by decide +kernel
theorem dWa_init_0 : decode c_Wa_init 0 = .ok (.aload_n 0, 1) := by decide +kernel
theorem dWa_init_1 : decode c_Wa_init 1 = .ok (.invokespecial 1, 3) := by decide +kernel
theorem dWa_init_4 : decode c_Wa_init 4 = .ok (.return_, 1) := by decide +kernel
