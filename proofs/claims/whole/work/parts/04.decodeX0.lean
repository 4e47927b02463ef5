theorem dX0_init_0 : decode cX0_init 0 = .ok (.aload_n 0, 1) := by decide +kernel
theorem dX0_init_1 : decode cX0_init 1 = .ok (.invokespecial 3, 3) := by decide +kernel
theorem dX0_init_4 : decode cX0_init 4 = .ok (.aload_n 0, 1) := by decide +kernel
theorem dX0_init_5 : decode cX0_init 5 = .ok (.bipush 8, 2) := by decide +kernel
theorem dX0_init_7 : decode cX0_init 7 = .ok (.newarray .int, 2) := by decide +kernel
theorem dX0_init_9 : decode cX0_init 9 = .ok (.putfield 9, 3) := by decide +kernel
theorem dX0_init_12 : decode cX0_init 12 = .ok (.return_, 1) := by decide +kernel
theorem dX0_wipe_0 : decode cX0_wipe 0 = .ok (.aload_n 0, 1) := by decide +kernel
theorem dX0_wipe_1 : decode cX0_wipe 1 = .ok (.getfield 9, 3) := by decide +kernel
theorem dX0_wipe_4 : decode cX0_wipe 4 = .ok (.iconst 0, 1) := by decide +kernel
theorem dX0_wipe_5 : decode cX0_wipe 5 = .ok (.invokestatic 15, 3) := by decide +kernel
theorem dX0_wipe_8 : decode cX0_wipe 8 = .ok (.return_, 1) := by decide +kernel
theorem dX0_become_0 : decode cX0_become 0 = .ok (.aload_n 1, 1) := by decide +kernel
theorem dX0_become_1 : decode cX0_become 1 = .ok (.getfield 9, 3) := by decide +kernel
theorem dX0_become_4 : decode cX0_become 4 = .ok (.iconst 0, 1) := by decide +kernel
theorem dX0_become_5 : decode cX0_become 5 = .ok (.aload_n 0, 1) := by decide +kernel
theorem dX0_become_6 : decode cX0_become 6 = .ok (.getfield 9, 3) := by decide +kernel
theorem dX0_become_9 : decode cX0_become 9 = .ok (.iconst 0, 1) := by decide +kernel
theorem dX0_become_10 : decode cX0_become 10 = .ok (.bipush 8, 2) := by decide +kernel
theorem dX0_become_12 : decode cX0_become 12 = .ok (.invokestatic 21, 3) := by decide +kernel
theorem dX0_become_15 : decode cX0_become 15 = .ok (.return_, 1) := by decide +kernel
theorem dX0_turnRound_0 : decode cX0_turnRound 0 = .ok (.iconst 0, 1) := by decide +kernel
theorem dX0_turnRound_1 : decode cX0_turnRound 1 = .ok (.istore_n 1, 1) := by decide +kernel
theorem dX0_turnRound_2 : decode cX0_turnRound 2 = .ok (.iload_n 1, 1) := by decide +kernel
theorem dX0_turnRound_3 : decode cX0_turnRound 3 = .ok (.bipush 8, 2) := by decide +kernel
theorem dX0_turnRound_5 : decode cX0_turnRound 5 = .ok (.if_icmp .ge 23, 3) := by decide +kernel
theorem dX0_turnRound_8 : decode cX0_turnRound 8 = .ok (.aload_n 0, 1) := by decide +kernel
theorem dX0_turnRound_9 : decode cX0_turnRound 9 = .ok (.getfield 9, 3) := by decide +kernel
theorem dX0_turnRound_12 : decode cX0_turnRound 12 = .ok (.iload_n 1, 1) := by decide +kernel
theorem dX0_turnRound_13 : decode cX0_turnRound 13 = .ok (.dup2, 1) := by decide +kernel
theorem dX0_turnRound_14 : decode cX0_turnRound 14 = .ok (.iaload, 1) := by decide +kernel
theorem dX0_turnRound_15 : decode cX0_turnRound 15 = .ok (.getstatic 27, 3) := by decide +kernel
theorem dX0_turnRound_18 : decode cX0_turnRound 18 = .ok (.iload_n 1, 1) := by decide +kernel
theorem dX0_turnRound_19 : decode cX0_turnRound 19 = .ok (.iaload, 1) := by decide +kernel
theorem dX0_turnRound_20 : decode cX0_turnRound 20 = .ok (.imul, 1) := by decide +kernel
theorem dX0_turnRound_21 : decode cX0_turnRound 21 = .ok (.iastore, 1) := by decide +kernel
theorem dX0_turnRound_22 : decode cX0_turnRound 22 = .ok (.iinc 1 1, 3) := by decide +kernel
theorem dX0_turnRound_25 : decode cX0_turnRound 25 = .ok (.goto (-23), 3) := by decide +kernel
theorem dX0_turnRound_28 : decode cX0_turnRound 28 = .ok (.return_, 1) := by decide +kernel
theorem dX0_hasPole_0 : decode cX0_hasPole 0 = .ok (.aload_n 0, 1) := by decide +kernel
theorem dX0_hasPole_1 : decode cX0_hasPole 1 = .ok (.getfield 9, 3) := by decide +kernel
theorem dX0_hasPole_4 : decode cX0_hasPole 4 = .ok (.iconst 4, 1) := by decide +kernel
theorem dX0_hasPole_5 : decode cX0_hasPole 5 = .ok (.iaload, 1) := by decide +kernel
theorem dX0_hasPole_6 : decode cX0_hasPole 6 = .ok (.ifCond .ne 22, 3) := by decide +kernel
theorem dX0_hasPole_9 : decode cX0_hasPole 9 = .ok (.aload_n 0, 1) := by decide +kernel
theorem dX0_hasPole_10 : decode cX0_hasPole 10 = .ok (.getfield 9, 3) := by decide +kernel
theorem dX0_hasPole_13 : decode cX0_hasPole 13 = .ok (.iconst 5, 1) := by decide +kernel
theorem dX0_hasPole_14 : decode cX0_hasPole 14 = .ok (.iaload, 1) := by decide +kernel
theorem dX0_hasPole_15 : decode cX0_hasPole 15 = .ok (.ifCond .ne 13, 3) := by decide +kernel
theorem dX0_hasPole_18 : decode cX0_hasPole 18 = .ok (.aload_n 0, 1) := by decide +kernel
theorem dX0_hasPole_19 : decode cX0_hasPole 19 = .ok (.getfield 9, 3) := by decide +kernel
theorem dX0_hasPole_22 : decode cX0_hasPole 22 = .ok (.bipush 6, 2) := by decide +kernel
theorem dX0_hasPole_24 : decode cX0_hasPole 24 = .ok (.iaload, 1) := by decide +kernel
theorem dX0_hasPole_25 : decode cX0_hasPole 25 = .ok (.ifCond .eq 7, 3) := by decide +kernel
theorem dX0_hasPole_28 : decode cX0_hasPole 28 = .ok (.iconst 1, 1) := by decide +kernel
theorem dX0_hasPole_29 : decode cX0_hasPole 29 = .ok (.goto 4, 3) := by decide +kernel
theorem dX0_hasPole_32 : decode cX0_hasPole 32 = .ok (.iconst 0, 1) := by decide +kernel
theorem dX0_hasPole_33 : decode cX0_hasPole 33 = .ok (.ireturn, 1) := by decide +kernel
theorem dX0_hasEndlessTail_0 : decode cX0_hasEndlessTail 0 = .ok (.iconst 0, 1) := by decide +kernel
theorem dX0_hasEndlessTail_1 : decode cX0_hasEndlessTail 1 = .ok (.istore_n 1, 1) := by decide +kernel
theorem dX0_hasEndlessTail_2 : decode cX0_hasEndlessTail 2 = .ok (.iload_n 1, 1) := by decide +kernel
theorem dX0_hasEndlessTail_3 : decode cX0_hasEndlessTail 3 = .ok (.iconst 4, 1) := by decide +kernel
theorem dX0_hasEndlessTail_4 : decode cX0_hasEndlessTail 4 = .ok (.if_icmp .gt 20, 3) := by decide +kernel
theorem dX0_hasEndlessTail_7 : decode cX0_hasEndlessTail 7 = .ok (.aload_n 0, 1) := by decide +kernel
theorem dX0_hasEndlessTail_8 : decode cX0_hasEndlessTail 8 = .ok (.getfield 9, 3) := by decide +kernel
theorem dX0_hasEndlessTail_11 : decode cX0_hasEndlessTail 11 = .ok (.iload_n 1, 1) := by decide +kernel
theorem dX0_hasEndlessTail_12 : decode cX0_hasEndlessTail 12 = .ok (.iaload, 1) := by decide +kernel
theorem dX0_hasEndlessTail_13 : decode cX0_hasEndlessTail 13 = .ok (.ifCond .eq 5, 3) := by decide +kernel
theorem dX0_hasEndlessTail_16 : decode cX0_hasEndlessTail 16 = .ok (.iconst 1, 1) := by decide +kernel
theorem dX0_hasEndlessTail_17 : decode cX0_hasEndlessTail 17 = .ok (.ireturn, 1) := by decide +kernel
theorem dX0_hasEndlessTail_18 : decode cX0_hasEndlessTail 18 = .ok (.iinc 1 1, 3) := by decide +kernel
theorem dX0_hasEndlessTail_21 : decode cX0_hasEndlessTail 21 = .ok (.goto (-19), 3) := by decide +kernel
theorem dX0_hasEndlessTail_24 : decode cX0_hasEndlessTail 24 = .ok (.iconst 0, 1) := by decide +kernel
theorem dX0_hasEndlessTail_25 : decode cX0_hasEndlessTail 25 = .ok (.ireturn, 1) := by decide +kernel
theorem dX0_diverges_0 : decode cX0_diverges 0 = .ok (.aload_n 0, 1) := by decide +kernel
theorem dX0_diverges_1 : decode cX0_diverges 1 = .ok (.invokevirtual 30, 3) := by decide +kernel
theorem dX0_diverges_4 : decode cX0_diverges 4 = .ok (.ifCond .eq 29, 3) := by decide +kernel
theorem dX0_diverges_7 : decode cX0_diverges 7 = .ok (.aload_n 0, 1) := by decide +kernel
theorem dX0_diverges_8 : decode cX0_diverges 8 = .ok (.getfield 9, 3) := by decide +kernel
theorem dX0_diverges_11 : decode cX0_diverges 11 = .ok (.bipush 7, 2) := by decide +kernel
theorem dX0_diverges_13 : decode cX0_diverges 13 = .ok (.iaload, 1) := by decide +kernel
theorem dX0_diverges_14 : decode cX0_diverges 14 = .ok (.iload_n 1, 1) := by decide +kernel
theorem dX0_diverges_15 : decode cX0_diverges 15 = .ok (.if_icmp .lt 18, 3) := by decide +kernel
theorem dX0_diverges_18 : decode cX0_diverges 18 = .ok (.aload_n 0, 1) := by decide +kernel
theorem dX0_diverges_19 : decode cX0_diverges 19 = .ok (.getfield 9, 3) := by decide +kernel
theorem dX0_diverges_22 : decode cX0_diverges 22 = .ok (.bipush 7, 2) := by decide +kernel
theorem dX0_diverges_24 : decode cX0_diverges 24 = .ok (.iaload, 1) := by decide +kernel
theorem dX0_diverges_25 : decode cX0_diverges 25 = .ok (.iload_n 2, 1) := by decide +kernel
theorem dX0_diverges_26 : decode cX0_diverges 26 = .ok (.if_icmp .gt 7, 3) := by decide +kernel
theorem dX0_diverges_29 : decode cX0_diverges 29 = .ok (.iconst 1, 1) := by decide +kernel
theorem dX0_diverges_30 : decode cX0_diverges 30 = .ok (.goto 4, 3) := by decide +kernel
theorem dX0_diverges_33 : decode cX0_diverges 33 = .ok (.iconst 0, 1) := by decide +kernel
theorem dX0_diverges_34 : decode cX0_diverges 34 = .ok (.istore_n 3, 1) := by decide +kernel
theorem dX0_diverges_35 : decode cX0_diverges 35 = .ok (.iload_n 1, 1) := by decide +kernel
theorem dX0_diverges_36 : decode cX0_diverges 36 = .ok (.invokestatic 34, 3) := by decide +kernel
theorem dX0_diverges_39 : decode cX0_diverges 39 = .ok (.ifCond .ne 10, 3) := by decide +kernel
theorem dX0_diverges_42 : decode cX0_diverges 42 = .ok (.iload_n 2, 1) := by decide +kernel
theorem dX0_diverges_43 : decode cX0_diverges 43 = .ok (.invokestatic 34, 3) := by decide +kernel
theorem dX0_diverges_46 : decode cX0_diverges 46 = .ok (.ifCond .eq 7, 3) := by decide +kernel
theorem dX0_diverges_49 : decode cX0_diverges 49 = .ok (.iconst 1, 1) := by decide +kernel
theorem dX0_diverges_50 : decode cX0_diverges 50 = .ok (.goto 4, 3) := by decide +kernel
theorem dX0_diverges_53 : decode cX0_diverges 53 = .ok (.iconst 0, 1) := by decide +kernel
theorem dX0_diverges_54 : decode cX0_diverges 54 = .ok (.istore 4, 2) := by decide +kernel
theorem dX0_diverges_56 : decode cX0_diverges 56 = .ok (.iload_n 3, 1) := by decide +kernel
theorem dX0_diverges_57 : decode cX0_diverges 57 = .ok (.ifCond .ne 15, 3) := by decide +kernel
theorem dX0_diverges_60 : decode cX0_diverges 60 = .ok (.iload 4, 2) := by decide +kernel
theorem dX0_diverges_62 : decode cX0_diverges 62 = .ok (.ifCond .eq 14, 3) := by decide +kernel
theorem dX0_diverges_65 : decode cX0_diverges 65 = .ok (.aload_n 0, 1) := by decide +kernel
theorem dX0_diverges_66 : decode cX0_diverges 66 = .ok (.invokevirtual 38, 3) := by decide +kernel
theorem dX0_diverges_69 : decode cX0_diverges 69 = .ok (.ifCond .eq 7, 3) := by decide +kernel
theorem dX0_diverges_72 : decode cX0_diverges 72 = .ok (.iconst 1, 1) := by decide +kernel
theorem dX0_diverges_73 : decode cX0_diverges 73 = .ok (.goto 4, 3) := by decide +kernel
theorem dX0_diverges_76 : decode cX0_diverges 76 = .ok (.iconst 0, 1) := by decide +kernel
theorem dX0_diverges_77 : decode cX0_diverges 77 = .ok (.ireturn, 1) := by decide +kernel
theorem dX0_powersAt_0 : decode cX0_powersAt 0 = .ok (.aload_n 0, 1) := by decide +kernel
theorem dX0_powersAt_1 : decode cX0_powersAt 1 = .ok (.getfield 9, 3) := by decide +kernel
theorem dX0_powersAt_4 : decode cX0_powersAt 4 = .ok (.iconst 0, 1) := by decide +kernel
theorem dX0_powersAt_5 : decode cX0_powersAt 5 = .ok (.iaload, 1) := by decide +kernel
theorem dX0_powersAt_6 : decode cX0_powersAt 6 = .ok (.i2l, 1) := by decide +kernel
theorem dX0_powersAt_7 : decode cX0_powersAt 7 = .ok (.lload_n 1, 1) := by decide +kernel
theorem dX0_powersAt_8 : decode cX0_powersAt 8 = .ok (.aload_n 0, 1) := by decide +kernel
theorem dX0_powersAt_9 : decode cX0_powersAt 9 = .ok (.getfield 9, 3) := by decide +kernel
theorem dX0_powersAt_12 : decode cX0_powersAt 12 = .ok (.iconst 1, 1) := by decide +kernel
theorem dX0_powersAt_13 : decode cX0_powersAt 13 = .ok (.iaload, 1) := by decide +kernel
theorem dX0_powersAt_14 : decode cX0_powersAt 14 = .ok (.i2l, 1) := by decide +kernel
theorem dX0_powersAt_15 : decode cX0_powersAt 15 = .ok (.lload_n 1, 1) := by decide +kernel
theorem dX0_powersAt_16 : decode cX0_powersAt 16 = .ok (.aload_n 0, 1) := by decide +kernel
theorem dX0_powersAt_17 : decode cX0_powersAt 17 = .ok (.getfield 9, 3) := by decide +kernel
theorem dX0_powersAt_20 : decode cX0_powersAt 20 = .ok (.iconst 2, 1) := by decide +kernel
theorem dX0_powersAt_21 : decode cX0_powersAt 21 = .ok (.iaload, 1) := by decide +kernel
theorem dX0_powersAt_22 : decode cX0_powersAt 22 = .ok (.i2l, 1) := by decide +kernel
theorem dX0_powersAt_23 : decode cX0_powersAt 23 = .ok (.lload_n 1, 1) := by decide +kernel
theorem dX0_powersAt_24 : decode cX0_powersAt 24 = .ok (.aload_n 0, 1) := by decide +kernel
theorem dX0_powersAt_25 : decode cX0_powersAt 25 = .ok (.getfield 9, 3) := by decide +kernel
theorem dX0_powersAt_28 : decode cX0_powersAt 28 = .ok (.iconst 3, 1) := by decide +kernel
theorem dX0_powersAt_29 : decode cX0_powersAt 29 = .ok (.iaload, 1) := by decide +kernel
theorem dX0_powersAt_30 : decode cX0_powersAt 30 = .ok (.i2l, 1) := by decide +kernel
theorem dX0_powersAt_31 : decode cX0_powersAt 31 = .ok (.lmul, 1) := by decide +kernel
theorem dX0_powersAt_32 : decode cX0_powersAt 32 = .ok (.ladd, 1) := by decide +kernel
theorem dX0_powersAt_33 : decode cX0_powersAt 33 = .ok (.lmul, 1) := by decide +kernel
theorem dX0_powersAt_34 : decode cX0_powersAt 34 = .ok (.ladd, 1) := by decide +kernel
theorem dX0_powersAt_35 : decode cX0_powersAt 35 = .ok (.lmul, 1) := by decide +kernel
theorem dX0_powersAt_36 : decode cX0_powersAt 36 = .ok (.ladd, 1) := by decide +kernel
theorem dX0_powersAt_37 : decode cX0_powersAt 37 = .ok (.lreturn, 1) := by decide +kernel
theorem dX0_abovePoleAt_0 : decode cX0_abovePoleAt 0 = .ok (.aload_n 0, 1) := by decide +kernel
theorem dX0_abovePoleAt_1 : decode cX0_abovePoleAt 1 = .ok (.getfield 9, 3) := by decide +kernel
theorem dX0_abovePoleAt_4 : decode cX0_abovePoleAt 4 = .ok (.bipush 6, 2) := by decide +kernel
theorem dX0_abovePoleAt_6 : decode cX0_abovePoleAt 6 = .ok (.iaload, 1) := by decide +kernel
theorem dX0_abovePoleAt_7 : decode cX0_abovePoleAt 7 = .ok (.i2l, 1) := by decide +kernel
theorem dX0_abovePoleAt_8 : decode cX0_abovePoleAt 8 = .ok (.lload_n 1, 1) := by decide +kernel
theorem dX0_abovePoleAt_9 : decode cX0_abovePoleAt 9 = .ok (.aload_n 0, 1) := by decide +kernel
theorem dX0_abovePoleAt_10 : decode cX0_abovePoleAt 10 = .ok (.getfield 9, 3) := by decide +kernel
theorem dX0_abovePoleAt_13 : decode cX0_abovePoleAt 13 = .ok (.iconst 5, 1) := by decide +kernel
theorem dX0_abovePoleAt_14 : decode cX0_abovePoleAt 14 = .ok (.iaload, 1) := by decide +kernel
theorem dX0_abovePoleAt_15 : decode cX0_abovePoleAt 15 = .ok (.i2l, 1) := by decide +kernel
theorem dX0_abovePoleAt_16 : decode cX0_abovePoleAt 16 = .ok (.lload_n 1, 1) := by decide +kernel
theorem dX0_abovePoleAt_17 : decode cX0_abovePoleAt 17 = .ok (.aload_n 0, 1) := by decide +kernel
theorem dX0_abovePoleAt_18 : decode cX0_abovePoleAt 18 = .ok (.getfield 9, 3) := by decide +kernel
theorem dX0_abovePoleAt_21 : decode cX0_abovePoleAt 21 = .ok (.iconst 4, 1) := by decide +kernel
theorem dX0_abovePoleAt_22 : decode cX0_abovePoleAt 22 = .ok (.iaload, 1) := by decide +kernel
theorem dX0_abovePoleAt_23 : decode cX0_abovePoleAt 23 = .ok (.i2l, 1) := by decide +kernel
theorem dX0_abovePoleAt_24 : decode cX0_abovePoleAt 24 = .ok (.lmul, 1) := by decide +kernel
theorem dX0_abovePoleAt_25 : decode cX0_abovePoleAt 25 = .ok (.ladd, 1) := by decide +kernel
theorem dX0_abovePoleAt_26 : decode cX0_abovePoleAt 26 = .ok (.lmul, 1) := by decide +kernel
theorem dX0_abovePoleAt_27 : decode cX0_abovePoleAt 27 = .ok (.ladd, 1) := by decide +kernel
theorem dX0_abovePoleAt_28 : decode cX0_abovePoleAt 28 = .ok (.lreturn, 1) := by decide +kernel
theorem dX0_twelfthsOfPowersPrimitive_0 : decode cX0_twelfthsOfPowersPrimitive 0 = .ok (.lload_n 1, 1) := by decide +kernel
theorem dX0_twelfthsOfPowersPrimitive_1 : decode cX0_twelfthsOfPowersPrimitive 1 = .ok (.bipush 12, 2) := by decide +kernel
theorem dX0_twelfthsOfPowersPrimitive_3 : decode cX0_twelfthsOfPowersPrimitive 3 = .ok (.aload_n 0, 1) := by decide +kernel
theorem dX0_twelfthsOfPowersPrimitive_4 : decode cX0_twelfthsOfPowersPrimitive 4 = .ok (.getfield 9, 3) := by decide +kernel
theorem dX0_twelfthsOfPowersPrimitive_7 : decode cX0_twelfthsOfPowersPrimitive 7 = .ok (.iconst 0, 1) := by decide +kernel
theorem dX0_twelfthsOfPowersPrimitive_8 : decode cX0_twelfthsOfPowersPrimitive 8 = .ok (.iaload, 1) := by decide +kernel
theorem dX0_twelfthsOfPowersPrimitive_9 : decode cX0_twelfthsOfPowersPrimitive 9 = .ok (.imul, 1) := by decide +kernel
theorem dX0_twelfthsOfPowersPrimitive_10 : decode cX0_twelfthsOfPowersPrimitive 10 = .ok (.i2l, 1) := by decide +kernel
theorem dX0_twelfthsOfPowersPrimitive_11 : decode cX0_twelfthsOfPowersPrimitive 11 = .ok (.lload_n 1, 1) := by decide +kernel
theorem dX0_twelfthsOfPowersPrimitive_12 : decode cX0_twelfthsOfPowersPrimitive 12 = .ok (.bipush 6, 2) := by decide +kernel
theorem dX0_twelfthsOfPowersPrimitive_14 : decode cX0_twelfthsOfPowersPrimitive 14 = .ok (.aload_n 0, 1) := by decide +kernel
theorem dX0_twelfthsOfPowersPrimitive_15 : decode cX0_twelfthsOfPowersPrimitive 15 = .ok (.getfield 9, 3) := by decide +kernel
theorem dX0_twelfthsOfPowersPrimitive_18 : decode cX0_twelfthsOfPowersPrimitive 18 = .ok (.iconst 1, 1) := by decide +kernel
theorem dX0_twelfthsOfPowersPrimitive_19 : decode cX0_twelfthsOfPowersPrimitive 19 = .ok (.iaload, 1) := by decide +kernel
theorem dX0_twelfthsOfPowersPrimitive_20 : decode cX0_twelfthsOfPowersPrimitive 20 = .ok (.imul, 1) := by decide +kernel
theorem dX0_twelfthsOfPowersPrimitive_21 : decode cX0_twelfthsOfPowersPrimitive 21 = .ok (.i2l, 1) := by decide +kernel
theorem dX0_twelfthsOfPowersPrimitive_22 : decode cX0_twelfthsOfPowersPrimitive 22 = .ok (.lload_n 1, 1) := by decide +kernel
theorem dX0_twelfthsOfPowersPrimitive_23 : decode cX0_twelfthsOfPowersPrimitive 23 = .ok (.iconst 4, 1) := by decide +kernel
theorem dX0_twelfthsOfPowersPrimitive_24 : decode cX0_twelfthsOfPowersPrimitive 24 = .ok (.aload_n 0, 1) := by decide +kernel
theorem dX0_twelfthsOfPowersPrimitive_25 : decode cX0_twelfthsOfPowersPrimitive 25 = .ok (.getfield 9, 3) := by decide +kernel
theorem dX0_twelfthsOfPowersPrimitive_28 : decode cX0_twelfthsOfPowersPrimitive 28 = .ok (.iconst 2, 1) := by decide +kernel
theorem dX0_twelfthsOfPowersPrimitive_29 : decode cX0_twelfthsOfPowersPrimitive 29 = .ok (.iaload, 1) := by decide +kernel
theorem dX0_twelfthsOfPowersPrimitive_30 : decode cX0_twelfthsOfPowersPrimitive 30 = .ok (.imul, 1) := by decide +kernel
theorem dX0_twelfthsOfPowersPrimitive_31 : decode cX0_twelfthsOfPowersPrimitive 31 = .ok (.i2l, 1) := by decide +kernel
theorem dX0_twelfthsOfPowersPrimitive_32 : decode cX0_twelfthsOfPowersPrimitive 32 = .ok (.lload_n 1, 1) := by decide +kernel
theorem dX0_twelfthsOfPowersPrimitive_33 : decode cX0_twelfthsOfPowersPrimitive 33 = .ok (.ldc2_w 41, 3) := by decide +kernel
theorem dX0_twelfthsOfPowersPrimitive_36 : decode cX0_twelfthsOfPowersPrimitive 36 = .ok (.lmul, 1) := by decide +kernel
theorem dX0_twelfthsOfPowersPrimitive_37 : decode cX0_twelfthsOfPowersPrimitive 37 = .ok (.aload_n 0, 1) := by decide +kernel
theorem dX0_twelfthsOfPowersPrimitive_38 : decode cX0_twelfthsOfPowersPrimitive 38 = .ok (.getfield 9, 3) := by decide +kernel
theorem dX0_twelfthsOfPowersPrimitive_41 : decode cX0_twelfthsOfPowersPrimitive 41 = .ok (.iconst 3, 1) := by decide +kernel
theorem dX0_twelfthsOfPowersPrimitive_42 : decode cX0_twelfthsOfPowersPrimitive 42 = .ok (.iaload, 1) := by decide +kernel
theorem dX0_twelfthsOfPowersPrimitive_43 : decode cX0_twelfthsOfPowersPrimitive 43 = .ok (.i2l, 1) := by decide +kernel
theorem dX0_twelfthsOfPowersPrimitive_44 : decode cX0_twelfthsOfPowersPrimitive 44 = .ok (.lmul, 1) := by decide +kernel
theorem dX0_twelfthsOfPowersPrimitive_45 : decode cX0_twelfthsOfPowersPrimitive 45 = .ok (.ladd, 1) := by decide +kernel
theorem dX0_twelfthsOfPowersPrimitive_46 : decode cX0_twelfthsOfPowersPrimitive 46 = .ok (.lmul, 1) := by decide +kernel
theorem dX0_twelfthsOfPowersPrimitive_47 : decode cX0_twelfthsOfPowersPrimitive 47 = .ok (.ladd, 1) := by decide +kernel
theorem dX0_twelfthsOfPowersPrimitive_48 : decode cX0_twelfthsOfPowersPrimitive 48 = .ok (.lmul, 1) := by decide +kernel
theorem dX0_twelfthsOfPowersPrimitive_49 : decode cX0_twelfthsOfPowersPrimitive 49 = .ok (.ladd, 1) := by decide +kernel
theorem dX0_twelfthsOfPowersPrimitive_50 : decode cX0_twelfthsOfPowersPrimitive 50 = .ok (.lmul, 1) := by decide +kernel
theorem dX0_twelfthsOfPowersPrimitive_51 : decode cX0_twelfthsOfPowersPrimitive 51 = .ok (.lreturn, 1) := by decide +kernel
theorem dX0_mirrors_0 : decode cX0_mirrors 0 = .ok (.iconst 0, 1) := by decide +kernel
theorem dX0_mirrors_1 : decode cX0_mirrors 1 = .ok (.istore_n 3, 1) := by decide +kernel
theorem dX0_mirrors_2 : decode cX0_mirrors 2 = .ok (.iload_n 3, 1) := by decide +kernel
theorem dX0_mirrors_3 : decode cX0_mirrors 3 = .ok (.bipush 7, 2) := by decide +kernel
theorem dX0_mirrors_5 : decode cX0_mirrors 5 = .ok (.if_icmp .ge 34, 3) := by decide +kernel
theorem dX0_mirrors_8 : decode cX0_mirrors 8 = .ok (.aload_n 0, 1) := by decide +kernel
theorem dX0_mirrors_9 : decode cX0_mirrors 9 = .ok (.getfield 9, 3) := by decide +kernel
theorem dX0_mirrors_12 : decode cX0_mirrors 12 = .ok (.iload_n 3, 1) := by decide +kernel
theorem dX0_mirrors_13 : decode cX0_mirrors 13 = .ok (.iaload, 1) := by decide +kernel
theorem dX0_mirrors_14 : decode cX0_mirrors 14 = .ok (.iload_n 2, 1) := by decide +kernel
theorem dX0_mirrors_15 : decode cX0_mirrors 15 = .ok (.getstatic 27, 3) := by decide +kernel
theorem dX0_mirrors_18 : decode cX0_mirrors 18 = .ok (.iload_n 3, 1) := by decide +kernel
theorem dX0_mirrors_19 : decode cX0_mirrors 19 = .ok (.iaload, 1) := by decide +kernel
theorem dX0_mirrors_20 : decode cX0_mirrors 20 = .ok (.imul, 1) := by decide +kernel
theorem dX0_mirrors_21 : decode cX0_mirrors 21 = .ok (.aload_n 1, 1) := by decide +kernel
theorem dX0_mirrors_22 : decode cX0_mirrors 22 = .ok (.getfield 9, 3) := by decide +kernel
theorem dX0_mirrors_25 : decode cX0_mirrors 25 = .ok (.iload_n 3, 1) := by decide +kernel
theorem dX0_mirrors_26 : decode cX0_mirrors 26 = .ok (.iaload, 1) := by decide +kernel
theorem dX0_mirrors_27 : decode cX0_mirrors 27 = .ok (.imul, 1) := by decide +kernel
theorem dX0_mirrors_28 : decode cX0_mirrors 28 = .ok (.if_icmp .eq 5, 3) := by decide +kernel
theorem dX0_mirrors_31 : decode cX0_mirrors 31 = .ok (.iconst 0, 1) := by decide +kernel
theorem dX0_mirrors_32 : decode cX0_mirrors 32 = .ok (.ireturn, 1) := by decide +kernel
theorem dX0_mirrors_33 : decode cX0_mirrors 33 = .ok (.iinc 3 1, 3) := by decide +kernel
theorem dX0_mirrors_36 : decode cX0_mirrors 36 = .ok (.goto (-34), 3) := by decide +kernel
theorem dX0_mirrors_39 : decode cX0_mirrors 39 = .ok (.aload_n 0, 1) := by decide +kernel
theorem dX0_mirrors_40 : decode cX0_mirrors 40 = .ok (.invokevirtual 30, 3) := by decide +kernel
theorem dX0_mirrors_43 : decode cX0_mirrors 43 = .ok (.ifCond .eq 21, 3) := by decide +kernel
theorem dX0_mirrors_46 : decode cX0_mirrors 46 = .ok (.aload_n 0, 1) := by decide +kernel
theorem dX0_mirrors_47 : decode cX0_mirrors 47 = .ok (.getfield 9, 3) := by decide +kernel
theorem dX0_mirrors_50 : decode cX0_mirrors 50 = .ok (.bipush 7, 2) := by decide +kernel
theorem dX0_mirrors_52 : decode cX0_mirrors 52 = .ok (.iaload, 1) := by decide +kernel
theorem dX0_mirrors_53 : decode cX0_mirrors 53 = .ok (.aload_n 1, 1) := by decide +kernel
theorem dX0_mirrors_54 : decode cX0_mirrors 54 = .ok (.getfield 9, 3) := by decide +kernel
theorem dX0_mirrors_57 : decode cX0_mirrors 57 = .ok (.bipush 7, 2) := by decide +kernel
theorem dX0_mirrors_59 : decode cX0_mirrors 59 = .ok (.iaload, 1) := by decide +kernel
theorem dX0_mirrors_60 : decode cX0_mirrors 60 = .ok (.ineg, 1) := by decide +kernel
theorem dX0_mirrors_61 : decode cX0_mirrors 61 = .ok (.if_icmp .ne 7, 3) := by decide +kernel
theorem dX0_mirrors_64 : decode cX0_mirrors 64 = .ok (.iconst 1, 1) := by decide +kernel
theorem dX0_mirrors_65 : decode cX0_mirrors 65 = .ok (.goto 4, 3) := by decide +kernel
theorem dX0_mirrors_68 : decode cX0_mirrors 68 = .ok (.iconst 0, 1) := by decide +kernel
theorem dX0_mirrors_69 : decode cX0_mirrors 69 = .ok (.ireturn, 1) := by decide +kernel
