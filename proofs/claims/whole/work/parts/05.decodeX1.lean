theorem dX1_init_0 : decode cX1_init 0 = .ok (.aload_n 0, 1) := by decide +kernel
theorem dX1_init_1 : decode cX1_init 1 = .ok (.invokespecial 3, 3) := by decide +kernel
theorem dX1_init_4 : decode cX1_init 4 = .ok (.aload_n 0, 1) := by decide +kernel
theorem dX1_init_5 : decode cX1_init 5 = .ok (.lconst 0, 1) := by decide +kernel
theorem dX1_init_6 : decode cX1_init 6 = .ok (.putfield 9, 3) := by decide +kernel
theorem dX1_init_9 : decode cX1_init 9 = .ok (.aload_n 0, 1) := by decide +kernel
theorem dX1_init_10 : decode cX1_init 10 = .ok (.getstatic 15, 3) := by decide +kernel
theorem dX1_init_13 : decode cX1_init 13 = .ok (.arraylength, 1) := by decide +kernel
theorem dX1_init_14 : decode cX1_init 14 = .ok (.newarray .int, 2) := by decide +kernel
theorem dX1_init_16 : decode cX1_init 16 = .ok (.putfield 19, 3) := by decide +kernel
theorem dX1_init_19 : decode cX1_init 19 = .ok (.return_, 1) := by decide +kernel
theorem dX1_wipe_0 : decode cX1_wipe 0 = .ok (.aload_n 0, 1) := by decide +kernel
theorem dX1_wipe_1 : decode cX1_wipe 1 = .ok (.lconst 0, 1) := by decide +kernel
theorem dX1_wipe_2 : decode cX1_wipe 2 = .ok (.putfield 9, 3) := by decide +kernel
theorem dX1_wipe_5 : decode cX1_wipe 5 = .ok (.aload_n 0, 1) := by decide +kernel
theorem dX1_wipe_6 : decode cX1_wipe 6 = .ok (.getfield 19, 3) := by decide +kernel
theorem dX1_wipe_9 : decode cX1_wipe 9 = .ok (.iconst 0, 1) := by decide +kernel
theorem dX1_wipe_10 : decode cX1_wipe 10 = .ok (.invokestatic 22, 3) := by decide +kernel
theorem dX1_wipe_13 : decode cX1_wipe 13 = .ok (.return_, 1) := by decide +kernel
theorem dX1_addPrimitive_0 : decode cX1_addPrimitive 0 = .ok (.iload_n 2, 1) := by decide +kernel
theorem dX1_addPrimitive_1 : decode cX1_addPrimitive 1 = .ok (.invokestatic 28, 3) := by decide +kernel
theorem dX1_addPrimitive_4 : decode cX1_addPrimitive 4 = .ok (.ifCond .eq 4, 3) := by decide +kernel
theorem dX1_addPrimitive_7 : decode cX1_addPrimitive 7 = .ok (.return_, 1) := by decide +kernel
theorem dX1_addPrimitive_8 : decode cX1_addPrimitive 8 = .ok (.aload_n 0, 1) := by decide +kernel
theorem dX1_addPrimitive_9 : decode cX1_addPrimitive 9 = .ok (.dup, 1) := by decide +kernel
theorem dX1_addPrimitive_10 : decode cX1_addPrimitive 10 = .ok (.getfield 9, 3) := by decide +kernel
theorem dX1_addPrimitive_13 : decode cX1_addPrimitive 13 = .ok (.iload_n 3, 1) := by decide +kernel
theorem dX1_addPrimitive_14 : decode cX1_addPrimitive 14 = .ok (.i2l, 1) := by decide +kernel
theorem dX1_addPrimitive_15 : decode cX1_addPrimitive 15 = .ok (.aload_n 1, 1) := by decide +kernel
theorem dX1_addPrimitive_16 : decode cX1_addPrimitive 16 = .ok (.iload_n 2, 1) := by decide +kernel
theorem dX1_addPrimitive_17 : decode cX1_addPrimitive 17 = .ok (.i2l, 1) := by decide +kernel
theorem dX1_addPrimitive_18 : decode cX1_addPrimitive 18 = .ok (.invokevirtual 32, 3) := by decide +kernel
theorem dX1_addPrimitive_21 : decode cX1_addPrimitive 21 = .ok (.lmul, 1) := by decide +kernel
theorem dX1_addPrimitive_22 : decode cX1_addPrimitive 22 = .ok (.ldc2_w 38, 3) := by decide +kernel
theorem dX1_addPrimitive_25 : decode cX1_addPrimitive 25 = .ok (.lmul, 1) := by decide +kernel
theorem dX1_addPrimitive_26 : decode cX1_addPrimitive 26 = .ok (.ladd, 1) := by decide +kernel
theorem dX1_addPrimitive_27 : decode cX1_addPrimitive 27 = .ok (.putfield 9, 3) := by decide +kernel
theorem dX1_addPrimitive_30 : decode cX1_addPrimitive 30 = .ok (.iload_n 2, 1) := by decide +kernel
theorem dX1_addPrimitive_31 : decode cX1_addPrimitive 31 = .ok (.aload_n 1, 1) := by decide +kernel
theorem dX1_addPrimitive_32 : decode cX1_addPrimitive 32 = .ok (.getfield 40, 3) := by decide +kernel
theorem dX1_addPrimitive_35 : decode cX1_addPrimitive 35 = .ok (.bipush 7, 2) := by decide +kernel
theorem dX1_addPrimitive_37 : decode cX1_addPrimitive 37 = .ok (.iaload, 1) := by decide +kernel
theorem dX1_addPrimitive_38 : decode cX1_addPrimitive 38 = .ok (.isub, 1) := by decide +kernel
theorem dX1_addPrimitive_39 : decode cX1_addPrimitive 39 = .ok (.istore 4, 2) := by decide +kernel
theorem dX1_addPrimitive_41 : decode cX1_addPrimitive 41 = .ok (.aload_n 1, 1) := by decide +kernel
theorem dX1_addPrimitive_42 : decode cX1_addPrimitive 42 = .ok (.invokevirtual 43, 3) := by decide +kernel
theorem dX1_addPrimitive_45 : decode cX1_addPrimitive 45 = .ok (.ifCond .eq 83, 3) := by decide +kernel
theorem dX1_addPrimitive_48 : decode cX1_addPrimitive 48 = .ok (.iload 4, 2) := by decide +kernel
theorem dX1_addPrimitive_50 : decode cX1_addPrimitive 50 = .ok (.ifCond .eq 78, 3) := by decide +kernel
theorem dX1_addPrimitive_53 : decode cX1_addPrimitive 53 = .ok (.aload_n 0, 1) := by decide +kernel
theorem dX1_addPrimitive_54 : decode cX1_addPrimitive 54 = .ok (.dup, 1) := by decide +kernel
theorem dX1_addPrimitive_55 : decode cX1_addPrimitive 55 = .ok (.getfield 9, 3) := by decide +kernel
theorem dX1_addPrimitive_58 : decode cX1_addPrimitive 58 = .ok (.iload_n 3, 1) := by decide +kernel
theorem dX1_addPrimitive_59 : decode cX1_addPrimitive 59 = .ok (.aload_n 1, 1) := by decide +kernel
theorem dX1_addPrimitive_60 : decode cX1_addPrimitive 60 = .ok (.getfield 40, 3) := by decide +kernel
theorem dX1_addPrimitive_63 : decode cX1_addPrimitive 63 = .ok (.iconst 5, 1) := by decide +kernel
theorem dX1_addPrimitive_64 : decode cX1_addPrimitive 64 = .ok (.iaload, 1) := by decide +kernel
theorem dX1_addPrimitive_65 : decode cX1_addPrimitive 65 = .ok (.imul, 1) := by decide +kernel
theorem dX1_addPrimitive_66 : decode cX1_addPrimitive 66 = .ok (.i2l, 1) := by decide +kernel
theorem dX1_addPrimitive_67 : decode cX1_addPrimitive 67 = .ok (.ldc2_w 47, 3) := by decide +kernel
theorem dX1_addPrimitive_70 : decode cX1_addPrimitive 70 = .ok (.iload 4, 2) := by decide +kernel
theorem dX1_addPrimitive_72 : decode cX1_addPrimitive 72 = .ok (.i2l, 1) := by decide +kernel
theorem dX1_addPrimitive_73 : decode cX1_addPrimitive 73 = .ok (.ldiv, 1) := by decide +kernel
theorem dX1_addPrimitive_74 : decode cX1_addPrimitive 74 = .ok (.lmul, 1) := by decide +kernel
theorem dX1_addPrimitive_75 : decode cX1_addPrimitive 75 = .ok (.lsub, 1) := by decide +kernel
theorem dX1_addPrimitive_76 : decode cX1_addPrimitive 76 = .ok (.putfield 9, 3) := by decide +kernel
theorem dX1_addPrimitive_79 : decode cX1_addPrimitive 79 = .ok (.aload_n 0, 1) := by decide +kernel
theorem dX1_addPrimitive_80 : decode cX1_addPrimitive 80 = .ok (.dup, 1) := by decide +kernel
theorem dX1_addPrimitive_81 : decode cX1_addPrimitive 81 = .ok (.getfield 9, 3) := by decide +kernel
theorem dX1_addPrimitive_84 : decode cX1_addPrimitive 84 = .ok (.iload_n 3, 1) := by decide +kernel
theorem dX1_addPrimitive_85 : decode cX1_addPrimitive 85 = .ok (.aload_n 1, 1) := by decide +kernel
theorem dX1_addPrimitive_86 : decode cX1_addPrimitive 86 = .ok (.getfield 40, 3) := by decide +kernel
theorem dX1_addPrimitive_89 : decode cX1_addPrimitive 89 = .ok (.bipush 6, 2) := by decide +kernel
theorem dX1_addPrimitive_91 : decode cX1_addPrimitive 91 = .ok (.iaload, 1) := by decide +kernel
theorem dX1_addPrimitive_92 : decode cX1_addPrimitive 92 = .ok (.imul, 1) := by decide +kernel
theorem dX1_addPrimitive_93 : decode cX1_addPrimitive 93 = .ok (.i2l, 1) := by decide +kernel
theorem dX1_addPrimitive_94 : decode cX1_addPrimitive 94 = .ok (.ldc2_w 47, 3) := by decide +kernel
theorem dX1_addPrimitive_97 : decode cX1_addPrimitive 97 = .ok (.iconst 2, 1) := by decide +kernel
theorem dX1_addPrimitive_98 : decode cX1_addPrimitive 98 = .ok (.iload 4, 2) := by decide +kernel
theorem dX1_addPrimitive_100 : decode cX1_addPrimitive 100 = .ok (.imul, 1) := by decide +kernel
theorem dX1_addPrimitive_101 : decode cX1_addPrimitive 101 = .ok (.iload 4, 2) := by decide +kernel
theorem dX1_addPrimitive_103 : decode cX1_addPrimitive 103 = .ok (.imul, 1) := by decide +kernel
theorem dX1_addPrimitive_104 : decode cX1_addPrimitive 104 = .ok (.i2l, 1) := by decide +kernel
theorem dX1_addPrimitive_105 : decode cX1_addPrimitive 105 = .ok (.ldiv, 1) := by decide +kernel
theorem dX1_addPrimitive_106 : decode cX1_addPrimitive 106 = .ok (.lmul, 1) := by decide +kernel
theorem dX1_addPrimitive_107 : decode cX1_addPrimitive 107 = .ok (.lsub, 1) := by decide +kernel
theorem dX1_addPrimitive_108 : decode cX1_addPrimitive 108 = .ok (.putfield 9, 3) := by decide +kernel
theorem dX1_addPrimitive_111 : decode cX1_addPrimitive 111 = .ok (.aload_n 0, 1) := by decide +kernel
theorem dX1_addPrimitive_112 : decode cX1_addPrimitive 112 = .ok (.iload 4, 2) := by decide +kernel
theorem dX1_addPrimitive_114 : decode cX1_addPrimitive 114 = .ok (.invokestatic 49, 3) := by decide +kernel
theorem dX1_addPrimitive_117 : decode cX1_addPrimitive 117 = .ok (.iload_n 3, 1) := by decide +kernel
theorem dX1_addPrimitive_118 : decode cX1_addPrimitive 118 = .ok (.aload_n 1, 1) := by decide +kernel
theorem dX1_addPrimitive_119 : decode cX1_addPrimitive 119 = .ok (.getfield 40, 3) := by decide +kernel
theorem dX1_addPrimitive_122 : decode cX1_addPrimitive 122 = .ok (.iconst 4, 1) := by decide +kernel
theorem dX1_addPrimitive_123 : decode cX1_addPrimitive 123 = .ok (.iaload, 1) := by decide +kernel
theorem dX1_addPrimitive_124 : decode cX1_addPrimitive 124 = .ok (.imul, 1) := by decide +kernel
theorem dX1_addPrimitive_125 : decode cX1_addPrimitive 125 = .ok (.invokevirtual 55, 3) := by decide +kernel
theorem dX1_addPrimitive_128 : decode cX1_addPrimitive 128 = .ok (.return_, 1) := by decide +kernel
theorem dX1_addLogarithm_0 : decode cX1_addLogarithm 0 = .ok (.iconst 0, 1) := by decide +kernel
theorem dX1_addLogarithm_1 : decode cX1_addLogarithm 1 = .ok (.istore_n 3, 1) := by decide +kernel
theorem dX1_addLogarithm_2 : decode cX1_addLogarithm 2 = .ok (.iload_n 3, 1) := by decide +kernel
theorem dX1_addLogarithm_3 : decode cX1_addLogarithm 3 = .ok (.getstatic 15, 3) := by decide +kernel
theorem dX1_addLogarithm_6 : decode cX1_addLogarithm 6 = .ok (.arraylength, 1) := by decide +kernel
theorem dX1_addLogarithm_7 : decode cX1_addLogarithm 7 = .ok (.if_icmp .ge 29, 3) := by decide +kernel
theorem dX1_addLogarithm_10 : decode cX1_addLogarithm 10 = .ok (.aload_n 0, 1) := by decide +kernel
theorem dX1_addLogarithm_11 : decode cX1_addLogarithm 11 = .ok (.getfield 19, 3) := by decide +kernel
theorem dX1_addLogarithm_14 : decode cX1_addLogarithm 14 = .ok (.iload_n 3, 1) := by decide +kernel
theorem dX1_addLogarithm_15 : decode cX1_addLogarithm 15 = .ok (.dup2, 1) := by decide +kernel
theorem dX1_addLogarithm_16 : decode cX1_addLogarithm 16 = .ok (.iaload, 1) := by decide +kernel
theorem dX1_addLogarithm_17 : decode cX1_addLogarithm 17 = .ok (.iload_n 2, 1) := by decide +kernel
theorem dX1_addLogarithm_18 : decode cX1_addLogarithm 18 = .ok (.getstatic 15, 3) := by decide +kernel
theorem dX1_addLogarithm_21 : decode cX1_addLogarithm 21 = .ok (.iload_n 3, 1) := by decide +kernel
theorem dX1_addLogarithm_22 : decode cX1_addLogarithm 22 = .ok (.iaload, 1) := by decide +kernel
theorem dX1_addLogarithm_23 : decode cX1_addLogarithm 23 = .ok (.iload_n 1, 1) := by decide +kernel
theorem dX1_addLogarithm_24 : decode cX1_addLogarithm 24 = .ok (.invokestatic 59, 3) := by decide +kernel
theorem dX1_addLogarithm_27 : decode cX1_addLogarithm 27 = .ok (.imul, 1) := by decide +kernel
theorem dX1_addLogarithm_28 : decode cX1_addLogarithm 28 = .ok (.iadd, 1) := by decide +kernel
theorem dX1_addLogarithm_29 : decode cX1_addLogarithm 29 = .ok (.iastore, 1) := by decide +kernel
theorem dX1_addLogarithm_30 : decode cX1_addLogarithm 30 = .ok (.iinc 3 1, 3) := by decide +kernel
theorem dX1_addLogarithm_33 : decode cX1_addLogarithm 33 = .ok (.goto (-31), 3) := by decide +kernel
theorem dX1_addLogarithm_36 : decode cX1_addLogarithm 36 = .ok (.return_, 1) := by decide +kernel
