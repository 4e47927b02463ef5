theorem dX2_init_0 : decode cX2_init 0 = .ok (.aload_n 0, 1) := by decide +kernel
theorem dX2_init_1 : decode cX2_init 1 = .ok (.invokespecial 1, 3) := by decide +kernel
theorem dX2_init_4 : decode cX2_init 4 = .ok (.aload_n 0, 1) := by decide +kernel
theorem dX2_init_5 : decode cX2_init 5 = .ok (.iconst 3, 1) := by decide +kernel
theorem dX2_init_6 : decode cX2_init 6 = .ok (.newarray .int, 2) := by decide +kernel
theorem dX2_init_8 : decode cX2_init 8 = .ok (.putfield 9, 3) := by decide +kernel
theorem dX2_init_11 : decode cX2_init 11 = .ok (.aload_n 0, 1) := by decide +kernel
theorem dX2_init_12 : decode cX2_init 12 = .ok (.iconst 4, 1) := by decide +kernel
theorem dX2_init_13 : decode cX2_init 13 = .ok (.anewarray 13, 3) := by decide +kernel
theorem dX2_init_16 : decode cX2_init 16 = .ok (.putfield 15, 3) := by decide +kernel
theorem dX2_init_19 : decode cX2_init 19 = .ok (.aload_n 0, 1) := by decide +kernel
theorem dX2_init_20 : decode cX2_init 20 = .ok (.new 19, 3) := by decide +kernel
theorem dX2_init_23 : decode cX2_init 23 = .ok (.dup, 1) := by decide +kernel
theorem dX2_init_24 : decode cX2_init 24 = .ok (.invokespecial 21, 3) := by decide +kernel
theorem dX2_init_27 : decode cX2_init 27 = .ok (.putfield 22, 3) := by decide +kernel
theorem dX2_init_30 : decode cX2_init 30 = .ok (.aload_n 0, 1) := by decide +kernel
theorem dX2_init_31 : decode cX2_init 31 = .ok (.iconst 0, 1) := by decide +kernel
theorem dX2_init_32 : decode cX2_init 32 = .ok (.putfield 26, 3) := by decide +kernel
theorem dX2_init_35 : decode cX2_init 35 = .ok (.aload_n 0, 1) := by decide +kernel
theorem dX2_init_36 : decode cX2_init 36 = .ok (.iconst 0, 1) := by decide +kernel
theorem dX2_init_37 : decode cX2_init 37 = .ok (.putfield 30, 3) := by decide +kernel
theorem dX2_init_40 : decode cX2_init 40 = .ok (.iconst 0, 1) := by decide +kernel
theorem dX2_init_41 : decode cX2_init 41 = .ok (.istore_n 1, 1) := by decide +kernel
theorem dX2_init_42 : decode cX2_init 42 = .ok (.iload_n 1, 1) := by decide +kernel
theorem dX2_init_43 : decode cX2_init 43 = .ok (.iconst 3, 1) := by decide +kernel
theorem dX2_init_44 : decode cX2_init 44 = .ok (.if_icmp .gt 22, 3) := by decide +kernel
theorem dX2_init_47 : decode cX2_init 47 = .ok (.aload_n 0, 1) := by decide +kernel
theorem dX2_init_48 : decode cX2_init 48 = .ok (.getfield 15, 3) := by decide +kernel
theorem dX2_init_51 : decode cX2_init 51 = .ok (.iload_n 1, 1) := by decide +kernel
theorem dX2_init_52 : decode cX2_init 52 = .ok (.new 13, 3) := by decide +kernel
theorem dX2_init_55 : decode cX2_init 55 = .ok (.dup, 1) := by decide +kernel
theorem dX2_init_56 : decode cX2_init 56 = .ok (.invokespecial 34, 3) := by decide +kernel
theorem dX2_init_59 : decode cX2_init 59 = .ok (.aastore, 1) := by decide +kernel
theorem dX2_init_60 : decode cX2_init 60 = .ok (.iinc 1 1, 3) := by decide +kernel
theorem dX2_init_63 : decode cX2_init 63 = .ok (.goto (-21), 3) := by decide +kernel
theorem dX2_init_66 : decode cX2_init 66 = .ok (.return_, 1) := by decide +kernel
theorem dX2_cut_0 : decode cX2_cut 0 = .ok (.iload_n 1, 1) := by decide +kernel
theorem dX2_cut_1 : decode cX2_cut 1 = .ok (.bipush 6, 2) := by decide +kernel
theorem dX2_cut_3 : decode cX2_cut 3 = .ok (.invokestatic 35, 3) := by decide +kernel
theorem dX2_cut_6 : decode cX2_cut 6 = .ok (.ifCond .eq 11, 3) := by decide +kernel
theorem dX2_cut_9 : decode cX2_cut 9 = .ok (.aload_n 0, 1) := by decide +kernel
theorem dX2_cut_10 : decode cX2_cut 10 = .ok (.iload_n 1, 1) := by decide +kernel
theorem dX2_cut_11 : decode cX2_cut 11 = .ok (.invokevirtual 39, 3) := by decide +kernel
theorem dX2_cut_14 : decode cX2_cut 14 = .ok (.ifCond .eq 13, 3) := by decide +kernel
theorem dX2_cut_17 : decode cX2_cut 17 = .ok (.new 43, 3) := by decide +kernel
theorem dX2_cut_20 : decode cX2_cut 20 = .ok (.dup, 1) := by decide +kernel
theorem dX2_cut_21 : decode cX2_cut 21 = .ok (.ldc 45, 2) := by decide +kernel
theorem dX2_cut_23 : decode cX2_cut 23 = .ok (.invokespecial 47, 3) := by decide +kernel
theorem dX2_cut_26 : decode cX2_cut 26 = .ok (.athrow, 1) := by decide +kernel
theorem dX2_cut_27 : decode cX2_cut 27 = .ok (.aload_n 0, 1) := by decide +kernel
theorem dX2_cut_28 : decode cX2_cut 28 = .ok (.getfield 26, 3) := by decide +kernel
theorem dX2_cut_31 : decode cX2_cut 31 = .ok (.iconst 3, 1) := by decide +kernel
theorem dX2_cut_32 : decode cX2_cut 32 = .ok (.if_icmp .lt 13, 3) := by decide +kernel
theorem dX2_cut_35 : decode cX2_cut 35 = .ok (.new 50, 3) := by decide +kernel
theorem dX2_cut_38 : decode cX2_cut 38 = .ok (.dup, 1) := by decide +kernel
theorem dX2_cut_39 : decode cX2_cut 39 = .ok (.ldc 52, 2) := by decide +kernel
theorem dX2_cut_41 : decode cX2_cut 41 = .ok (.invokespecial 54, 3) := by decide +kernel
theorem dX2_cut_44 : decode cX2_cut 44 = .ok (.athrow, 1) := by decide +kernel
theorem dX2_cut_45 : decode cX2_cut 45 = .ok (.aload_n 0, 1) := by decide +kernel
theorem dX2_cut_46 : decode cX2_cut 46 = .ok (.iload_n 1, 1) := by decide +kernel
theorem dX2_cut_47 : decode cX2_cut 47 = .ok (.invokevirtual 55, 3) := by decide +kernel
theorem dX2_cut_50 : decode cX2_cut 50 = .ok (.istore_n 2, 1) := by decide +kernel
theorem dX2_cut_51 : decode cX2_cut 51 = .ok (.aload_n 0, 1) := by decide +kernel
theorem dX2_cut_52 : decode cX2_cut 52 = .ok (.getfield 26, 3) := by decide +kernel
theorem dX2_cut_55 : decode cX2_cut 55 = .ok (.istore_n 3, 1) := by decide +kernel
theorem dX2_cut_56 : decode cX2_cut 56 = .ok (.iload_n 3, 1) := by decide +kernel
theorem dX2_cut_57 : decode cX2_cut 57 = .ok (.iload_n 2, 1) := by decide +kernel
theorem dX2_cut_58 : decode cX2_cut 58 = .ok (.if_icmp .le 23, 3) := by decide +kernel
theorem dX2_cut_61 : decode cX2_cut 61 = .ok (.aload_n 0, 1) := by decide +kernel
theorem dX2_cut_62 : decode cX2_cut 62 = .ok (.getfield 9, 3) := by decide +kernel
theorem dX2_cut_65 : decode cX2_cut 65 = .ok (.iload_n 3, 1) := by decide +kernel
theorem dX2_cut_66 : decode cX2_cut 66 = .ok (.aload_n 0, 1) := by decide +kernel
theorem dX2_cut_67 : decode cX2_cut 67 = .ok (.getfield 9, 3) := by decide +kernel
theorem dX2_cut_70 : decode cX2_cut 70 = .ok (.iload_n 3, 1) := by decide +kernel
theorem dX2_cut_71 : decode cX2_cut 71 = .ok (.iconst 1, 1) := by decide +kernel
theorem dX2_cut_72 : decode cX2_cut 72 = .ok (.isub, 1) := by decide +kernel
theorem dX2_cut_73 : decode cX2_cut 73 = .ok (.iaload, 1) := by decide +kernel
theorem dX2_cut_74 : decode cX2_cut 74 = .ok (.iastore, 1) := by decide +kernel
theorem dX2_cut_75 : decode cX2_cut 75 = .ok (.iinc 3 (-1), 3) := by decide +kernel
theorem dX2_cut_78 : decode cX2_cut 78 = .ok (.goto (-22), 3) := by decide +kernel
theorem dX2_cut_81 : decode cX2_cut 81 = .ok (.aload_n 0, 1) := by decide +kernel
theorem dX2_cut_82 : decode cX2_cut 82 = .ok (.getfield 26, 3) := by decide +kernel
theorem dX2_cut_85 : decode cX2_cut 85 = .ok (.istore_n 3, 1) := by decide +kernel
theorem dX2_cut_86 : decode cX2_cut 86 = .ok (.iload_n 3, 1) := by decide +kernel
theorem dX2_cut_87 : decode cX2_cut 87 = .ok (.iload_n 2, 1) := by decide +kernel
theorem dX2_cut_88 : decode cX2_cut 88 = .ok (.if_icmp .lt 26, 3) := by decide +kernel
theorem dX2_cut_91 : decode cX2_cut 91 = .ok (.aload_n 0, 1) := by decide +kernel
theorem dX2_cut_92 : decode cX2_cut 92 = .ok (.getfield 15, 3) := by decide +kernel
theorem dX2_cut_95 : decode cX2_cut 95 = .ok (.iload_n 3, 1) := by decide +kernel
theorem dX2_cut_96 : decode cX2_cut 96 = .ok (.iconst 1, 1) := by decide +kernel
theorem dX2_cut_97 : decode cX2_cut 97 = .ok (.iadd, 1) := by decide +kernel
theorem dX2_cut_98 : decode cX2_cut 98 = .ok (.aaload, 1) := by decide +kernel
theorem dX2_cut_99 : decode cX2_cut 99 = .ok (.aload_n 0, 1) := by decide +kernel
theorem dX2_cut_100 : decode cX2_cut 100 = .ok (.getfield 15, 3) := by decide +kernel
theorem dX2_cut_103 : decode cX2_cut 103 = .ok (.iload_n 3, 1) := by decide +kernel
theorem dX2_cut_104 : decode cX2_cut 104 = .ok (.aaload, 1) := by decide +kernel
theorem dX2_cut_105 : decode cX2_cut 105 = .ok (.invokevirtual 59, 3) := by decide +kernel
theorem dX2_cut_108 : decode cX2_cut 108 = .ok (.iinc 3 (-1), 3) := by decide +kernel
theorem dX2_cut_111 : decode cX2_cut 111 = .ok (.goto (-25), 3) := by decide +kernel
theorem dX2_cut_114 : decode cX2_cut 114 = .ok (.aload_n 0, 1) := by decide +kernel
theorem dX2_cut_115 : decode cX2_cut 115 = .ok (.getfield 9, 3) := by decide +kernel
theorem dX2_cut_118 : decode cX2_cut 118 = .ok (.iload_n 2, 1) := by decide +kernel
theorem dX2_cut_119 : decode cX2_cut 119 = .ok (.iload_n 1, 1) := by decide +kernel
theorem dX2_cut_120 : decode cX2_cut 120 = .ok (.iastore, 1) := by decide +kernel
theorem dX2_cut_121 : decode cX2_cut 121 = .ok (.aload_n 0, 1) := by decide +kernel
theorem dX2_cut_122 : decode cX2_cut 122 = .ok (.dup, 1) := by decide +kernel
theorem dX2_cut_123 : decode cX2_cut 123 = .ok (.getfield 26, 3) := by decide +kernel
theorem dX2_cut_126 : decode cX2_cut 126 = .ok (.iconst 1, 1) := by decide +kernel
theorem dX2_cut_127 : decode cX2_cut 127 = .ok (.iadd, 1) := by decide +kernel
theorem dX2_cut_128 : decode cX2_cut 128 = .ok (.putfield 26, 3) := by decide +kernel
theorem dX2_cut_131 : decode cX2_cut 131 = .ok (.iload_n 2, 1) := by decide +kernel
theorem dX2_cut_132 : decode cX2_cut 132 = .ok (.ireturn, 1) := by decide +kernel
theorem dX2_join_0 : decode cX2_join 0 = .ok (.iload_n 1, 1) := by decide +kernel
theorem dX2_join_1 : decode cX2_join 1 = .ok (.ifCond .lt 11, 3) := by decide +kernel
theorem dX2_join_4 : decode cX2_join 4 = .ok (.iload_n 1, 1) := by decide +kernel
theorem dX2_join_5 : decode cX2_join 5 = .ok (.aload_n 0, 1) := by decide +kernel
theorem dX2_join_6 : decode cX2_join 6 = .ok (.getfield 26, 3) := by decide +kernel
theorem dX2_join_9 : decode cX2_join 9 = .ok (.if_icmp .lt 13, 3) := by decide +kernel
theorem dX2_join_12 : decode cX2_join 12 = .ok (.new 63, 3) := by decide +kernel
theorem dX2_join_15 : decode cX2_join 15 = .ok (.dup, 1) := by decide +kernel
theorem dX2_join_16 : decode cX2_join 16 = .ok (.ldc 65, 2) := by decide +kernel
theorem dX2_join_18 : decode cX2_join 18 = .ok (.invokespecial 67, 3) := by decide +kernel
theorem dX2_join_21 : decode cX2_join 21 = .ok (.athrow, 1) := by decide +kernel
theorem dX2_join_22 : decode cX2_join 22 = .ok (.iload_n 1, 1) := by decide +kernel
theorem dX2_join_23 : decode cX2_join 23 = .ok (.istore_n 2, 1) := by decide +kernel
theorem dX2_join_24 : decode cX2_join 24 = .ok (.iload_n 2, 1) := by decide +kernel
theorem dX2_join_25 : decode cX2_join 25 = .ok (.aload_n 0, 1) := by decide +kernel
theorem dX2_join_26 : decode cX2_join 26 = .ok (.getfield 26, 3) := by decide +kernel
theorem dX2_join_29 : decode cX2_join 29 = .ok (.iconst 1, 1) := by decide +kernel
theorem dX2_join_30 : decode cX2_join 30 = .ok (.isub, 1) := by decide +kernel
theorem dX2_join_31 : decode cX2_join 31 = .ok (.if_icmp .ge 42, 3) := by decide +kernel
theorem dX2_join_34 : decode cX2_join 34 = .ok (.aload_n 0, 1) := by decide +kernel
theorem dX2_join_35 : decode cX2_join 35 = .ok (.getfield 9, 3) := by decide +kernel
theorem dX2_join_38 : decode cX2_join 38 = .ok (.iload_n 2, 1) := by decide +kernel
theorem dX2_join_39 : decode cX2_join 39 = .ok (.aload_n 0, 1) := by decide +kernel
theorem dX2_join_40 : decode cX2_join 40 = .ok (.getfield 9, 3) := by decide +kernel
theorem dX2_join_43 : decode cX2_join 43 = .ok (.iload_n 2, 1) := by decide +kernel
theorem dX2_join_44 : decode cX2_join 44 = .ok (.iconst 1, 1) := by decide +kernel
theorem dX2_join_45 : decode cX2_join 45 = .ok (.iadd, 1) := by decide +kernel
theorem dX2_join_46 : decode cX2_join 46 = .ok (.iaload, 1) := by decide +kernel
theorem dX2_join_47 : decode cX2_join 47 = .ok (.iastore, 1) := by decide +kernel
theorem dX2_join_48 : decode cX2_join 48 = .ok (.aload_n 0, 1) := by decide +kernel
theorem dX2_join_49 : decode cX2_join 49 = .ok (.getfield 15, 3) := by decide +kernel
theorem dX2_join_52 : decode cX2_join 52 = .ok (.iload_n 2, 1) := by decide +kernel
theorem dX2_join_53 : decode cX2_join 53 = .ok (.iconst 1, 1) := by decide +kernel
theorem dX2_join_54 : decode cX2_join 54 = .ok (.iadd, 1) := by decide +kernel
theorem dX2_join_55 : decode cX2_join 55 = .ok (.aaload, 1) := by decide +kernel
theorem dX2_join_56 : decode cX2_join 56 = .ok (.aload_n 0, 1) := by decide +kernel
theorem dX2_join_57 : decode cX2_join 57 = .ok (.getfield 15, 3) := by decide +kernel
theorem dX2_join_60 : decode cX2_join 60 = .ok (.iload_n 2, 1) := by decide +kernel
theorem dX2_join_61 : decode cX2_join 61 = .ok (.iconst 2, 1) := by decide +kernel
theorem dX2_join_62 : decode cX2_join 62 = .ok (.iadd, 1) := by decide +kernel
theorem dX2_join_63 : decode cX2_join 63 = .ok (.aaload, 1) := by decide +kernel
theorem dX2_join_64 : decode cX2_join 64 = .ok (.invokevirtual 59, 3) := by decide +kernel
theorem dX2_join_67 : decode cX2_join 67 = .ok (.iinc 2 1, 3) := by decide +kernel
theorem dX2_join_70 : decode cX2_join 70 = .ok (.goto (-46), 3) := by decide +kernel
theorem dX2_join_73 : decode cX2_join 73 = .ok (.aload_n 0, 1) := by decide +kernel
theorem dX2_join_74 : decode cX2_join 74 = .ok (.dup, 1) := by decide +kernel
theorem dX2_join_75 : decode cX2_join 75 = .ok (.getfield 26, 3) := by decide +kernel
theorem dX2_join_78 : decode cX2_join 78 = .ok (.iconst 1, 1) := by decide +kernel
theorem dX2_join_79 : decode cX2_join 79 = .ok (.isub, 1) := by decide +kernel
theorem dX2_join_80 : decode cX2_join 80 = .ok (.putfield 26, 3) := by decide +kernel
theorem dX2_join_83 : decode cX2_join 83 = .ok (.return_, 1) := by decide +kernel
theorem dX2_put_0 : decode cX2_put 0 = .ok (.iload_n 1, 1) := by decide +kernel
theorem dX2_put_1 : decode cX2_put 1 = .ok (.ifCond .lt 11, 3) := by decide +kernel
theorem dX2_put_4 : decode cX2_put 4 = .ok (.iload_n 1, 1) := by decide +kernel
theorem dX2_put_5 : decode cX2_put 5 = .ok (.aload_n 0, 1) := by decide +kernel
theorem dX2_put_6 : decode cX2_put 6 = .ok (.getfield 26, 3) := by decide +kernel
theorem dX2_put_9 : decode cX2_put 9 = .ok (.if_icmp .le 13, 3) := by decide +kernel
theorem dX2_put_12 : decode cX2_put 12 = .ok (.new 63, 3) := by decide +kernel
theorem dX2_put_15 : decode cX2_put 15 = .ok (.dup, 1) := by decide +kernel
theorem dX2_put_16 : decode cX2_put 16 = .ok (.ldc 68, 2) := by decide +kernel
theorem dX2_put_18 : decode cX2_put 18 = .ok (.invokespecial 67, 3) := by decide +kernel
theorem dX2_put_21 : decode cX2_put 21 = .ok (.athrow, 1) := by decide +kernel
theorem dX2_put_22 : decode cX2_put 22 = .ok (.iload_n 2, 1) := by decide +kernel
theorem dX2_put_23 : decode cX2_put 23 = .ok (.ifCond .lt 9, 3) := by decide +kernel
theorem dX2_put_26 : decode cX2_put 26 = .ok (.iload_n 2, 1) := by decide +kernel
theorem dX2_put_27 : decode cX2_put 27 = .ok (.bipush 8, 2) := by decide +kernel
theorem dX2_put_29 : decode cX2_put 29 = .ok (.if_icmp .lt 13, 3) := by decide +kernel
theorem dX2_put_32 : decode cX2_put 32 = .ok (.new 43, 3) := by decide +kernel
theorem dX2_put_35 : decode cX2_put 35 = .ok (.dup, 1) := by decide +kernel
theorem dX2_put_36 : decode cX2_put 36 = .ok (.ldc 70, 2) := by decide +kernel
theorem dX2_put_38 : decode cX2_put 38 = .ok (.invokespecial 47, 3) := by decide +kernel
theorem dX2_put_41 : decode cX2_put 41 = .ok (.athrow, 1) := by decide +kernel
theorem dX2_put_42 : decode cX2_put 42 = .ok (.iload_n 3, 1) := by decide +kernel
theorem dX2_put_43 : decode cX2_put 43 = .ok (.iload_n 2, 1) := by decide +kernel
theorem dX2_put_44 : decode cX2_put 44 = .ok (.bipush 7, 2) := by decide +kernel
theorem dX2_put_46 : decode cX2_put 46 = .ok (.if_icmp .ne 8, 3) := by decide +kernel
theorem dX2_put_49 : decode cX2_put 49 = .ok (.bipush 6, 2) := by decide +kernel
theorem dX2_put_51 : decode cX2_put 51 = .ok (.goto 4, 3) := by decide +kernel
theorem dX2_put_54 : decode cX2_put 54 = .ok (.iconst 5, 1) := by decide +kernel
theorem dX2_put_55 : decode cX2_put 55 = .ok (.invokestatic 35, 3) := by decide +kernel
theorem dX2_put_58 : decode cX2_put 58 = .ok (.ifCond .ne 13, 3) := by decide +kernel
theorem dX2_put_61 : decode cX2_put 61 = .ok (.new 43, 3) := by decide +kernel
theorem dX2_put_64 : decode cX2_put 64 = .ok (.dup, 1) := by decide +kernel
theorem dX2_put_65 : decode cX2_put 65 = .ok (.ldc 72, 2) := by decide +kernel
theorem dX2_put_67 : decode cX2_put 67 = .ok (.invokespecial 47, 3) := by decide +kernel
theorem dX2_put_70 : decode cX2_put 70 = .ok (.athrow, 1) := by decide +kernel
theorem dX2_put_71 : decode cX2_put 71 = .ok (.aload_n 0, 1) := by decide +kernel
theorem dX2_put_72 : decode cX2_put 72 = .ok (.getfield 15, 3) := by decide +kernel
theorem dX2_put_75 : decode cX2_put 75 = .ok (.iload_n 1, 1) := by decide +kernel
theorem dX2_put_76 : decode cX2_put 76 = .ok (.aaload, 1) := by decide +kernel
theorem dX2_put_77 : decode cX2_put 77 = .ok (.getfield 74, 3) := by decide +kernel
theorem dX2_put_80 : decode cX2_put 80 = .ok (.astore 4, 2) := by decide +kernel
theorem dX2_put_82 : decode cX2_put 82 = .ok (.aload 4, 2) := by decide +kernel
theorem dX2_put_84 : decode cX2_put 84 = .ok (.iload_n 2, 1) := by decide +kernel
theorem dX2_put_85 : decode cX2_put 85 = .ok (.iaload, 1) := by decide +kernel
theorem dX2_put_86 : decode cX2_put 86 = .ok (.iload_n 3, 1) := by decide +kernel
theorem dX2_put_87 : decode cX2_put 87 = .ok (.if_icmp .eq 7, 3) := by decide +kernel
theorem dX2_put_90 : decode cX2_put 90 = .ok (.iconst 1, 1) := by decide +kernel
theorem dX2_put_91 : decode cX2_put 91 = .ok (.goto 4, 3) := by decide +kernel
theorem dX2_put_94 : decode cX2_put 94 = .ok (.iconst 0, 1) := by decide +kernel
theorem dX2_put_95 : decode cX2_put 95 = .ok (.istore 5, 2) := by decide +kernel
theorem dX2_put_97 : decode cX2_put 97 = .ok (.aload 4, 2) := by decide +kernel
theorem dX2_put_99 : decode cX2_put 99 = .ok (.iload_n 2, 1) := by decide +kernel
theorem dX2_put_100 : decode cX2_put 100 = .ok (.iload_n 3, 1) := by decide +kernel
theorem dX2_put_101 : decode cX2_put 101 = .ok (.iastore, 1) := by decide +kernel
theorem dX2_put_102 : decode cX2_put 102 = .ok (.iload 5, 2) := by decide +kernel
theorem dX2_put_104 : decode cX2_put 104 = .ok (.ireturn, 1) := by decide +kernel
theorem dX2_at_0 : decode cX2_at 0 = .ok (.iload_n 1, 1) := by decide +kernel
theorem dX2_at_1 : decode cX2_at 1 = .ok (.ifCond .lt 11, 3) := by decide +kernel
theorem dX2_at_4 : decode cX2_at 4 = .ok (.iload_n 1, 1) := by decide +kernel
theorem dX2_at_5 : decode cX2_at 5 = .ok (.aload_n 0, 1) := by decide +kernel
theorem dX2_at_6 : decode cX2_at 6 = .ok (.getfield 26, 3) := by decide +kernel
theorem dX2_at_9 : decode cX2_at 9 = .ok (.if_icmp .le 13, 3) := by decide +kernel
theorem dX2_at_12 : decode cX2_at 12 = .ok (.new 63, 3) := by decide +kernel
theorem dX2_at_15 : decode cX2_at 15 = .ok (.dup, 1) := by decide +kernel
theorem dX2_at_16 : decode cX2_at 16 = .ok (.ldc 68, 2) := by decide +kernel
theorem dX2_at_18 : decode cX2_at 18 = .ok (.invokespecial 67, 3) := by decide +kernel
theorem dX2_at_21 : decode cX2_at 21 = .ok (.athrow, 1) := by decide +kernel
theorem dX2_at_22 : decode cX2_at 22 = .ok (.iload_n 2, 1) := by decide +kernel
theorem dX2_at_23 : decode cX2_at 23 = .ok (.ifCond .lt 9, 3) := by decide +kernel
theorem dX2_at_26 : decode cX2_at 26 = .ok (.iload_n 2, 1) := by decide +kernel
theorem dX2_at_27 : decode cX2_at 27 = .ok (.bipush 8, 2) := by decide +kernel
theorem dX2_at_29 : decode cX2_at 29 = .ok (.if_icmp .lt 13, 3) := by decide +kernel
theorem dX2_at_32 : decode cX2_at 32 = .ok (.new 43, 3) := by decide +kernel
theorem dX2_at_35 : decode cX2_at 35 = .ok (.dup, 1) := by decide +kernel
theorem dX2_at_36 : decode cX2_at 36 = .ok (.ldc 70, 2) := by decide +kernel
theorem dX2_at_38 : decode cX2_at 38 = .ok (.invokespecial 47, 3) := by decide +kernel
theorem dX2_at_41 : decode cX2_at 41 = .ok (.athrow, 1) := by decide +kernel
theorem dX2_at_42 : decode cX2_at 42 = .ok (.aload_n 0, 1) := by decide +kernel
theorem dX2_at_43 : decode cX2_at 43 = .ok (.getfield 15, 3) := by decide +kernel
theorem dX2_at_46 : decode cX2_at 46 = .ok (.iload_n 1, 1) := by decide +kernel
theorem dX2_at_47 : decode cX2_at 47 = .ok (.aaload, 1) := by decide +kernel
theorem dX2_at_48 : decode cX2_at 48 = .ok (.getfield 74, 3) := by decide +kernel
theorem dX2_at_51 : decode cX2_at 51 = .ok (.iload_n 2, 1) := by decide +kernel
theorem dX2_at_52 : decode cX2_at 52 = .ok (.iaload, 1) := by decide +kernel
theorem dX2_at_53 : decode cX2_at 53 = .ok (.ireturn, 1) := by decide +kernel
theorem dX2_place_0 : decode cX2_place 0 = .ok (.iload_n 1, 1) := by decide +kernel
theorem dX2_place_1 : decode cX2_place 1 = .ok (.ifCond .lt 11, 3) := by decide +kernel
theorem dX2_place_4 : decode cX2_place 4 = .ok (.iload_n 1, 1) := by decide +kernel
theorem dX2_place_5 : decode cX2_place 5 = .ok (.aload_n 0, 1) := by decide +kernel
theorem dX2_place_6 : decode cX2_place 6 = .ok (.getfield 26, 3) := by decide +kernel
theorem dX2_place_9 : decode cX2_place 9 = .ok (.if_icmp .lt 13, 3) := by decide +kernel
theorem dX2_place_12 : decode cX2_place 12 = .ok (.new 63, 3) := by decide +kernel
theorem dX2_place_15 : decode cX2_place 15 = .ok (.dup, 1) := by decide +kernel
theorem dX2_place_16 : decode cX2_place 16 = .ok (.ldc 65, 2) := by decide +kernel
theorem dX2_place_18 : decode cX2_place 18 = .ok (.invokespecial 67, 3) := by decide +kernel
theorem dX2_place_21 : decode cX2_place 21 = .ok (.athrow, 1) := by decide +kernel
theorem dX2_place_22 : decode cX2_place 22 = .ok (.aload_n 0, 1) := by decide +kernel
theorem dX2_place_23 : decode cX2_place 23 = .ok (.getfield 9, 3) := by decide +kernel
theorem dX2_place_26 : decode cX2_place 26 = .ok (.iload_n 1, 1) := by decide +kernel
theorem dX2_place_27 : decode cX2_place 27 = .ok (.iaload, 1) := by decide +kernel
theorem dX2_place_28 : decode cX2_place 28 = .ok (.ireturn, 1) := by decide +kernel
theorem dX2_mirror_0 : decode cX2_mirror 0 = .ok (.iconst 0, 1) := by decide +kernel
theorem dX2_mirror_1 : decode cX2_mirror 1 = .ok (.istore_n 1, 1) := by decide +kernel
theorem dX2_mirror_2 : decode cX2_mirror 2 = .ok (.aload_n 0, 1) := by decide +kernel
theorem dX2_mirror_3 : decode cX2_mirror 3 = .ok (.getfield 26, 3) := by decide +kernel
theorem dX2_mirror_6 : decode cX2_mirror 6 = .ok (.iconst 1, 1) := by decide +kernel
theorem dX2_mirror_7 : decode cX2_mirror 7 = .ok (.isub, 1) := by decide +kernel
theorem dX2_mirror_8 : decode cX2_mirror 8 = .ok (.istore_n 2, 1) := by decide +kernel
theorem dX2_mirror_9 : decode cX2_mirror 9 = .ok (.iload_n 1, 1) := by decide +kernel
theorem dX2_mirror_10 : decode cX2_mirror 10 = .ok (.iload_n 2, 1) := by decide +kernel
theorem dX2_mirror_11 : decode cX2_mirror 11 = .ok (.if_icmp .gt 40, 3) := by decide +kernel
theorem dX2_mirror_14 : decode cX2_mirror 14 = .ok (.aload_n 0, 1) := by decide +kernel
theorem dX2_mirror_15 : decode cX2_mirror 15 = .ok (.getfield 9, 3) := by decide +kernel
theorem dX2_mirror_18 : decode cX2_mirror 18 = .ok (.iload_n 1, 1) := by decide +kernel
theorem dX2_mirror_19 : decode cX2_mirror 19 = .ok (.iaload, 1) := by decide +kernel
theorem dX2_mirror_20 : decode cX2_mirror 20 = .ok (.istore_n 3, 1) := by decide +kernel
theorem dX2_mirror_21 : decode cX2_mirror 21 = .ok (.aload_n 0, 1) := by decide +kernel
theorem dX2_mirror_22 : decode cX2_mirror 22 = .ok (.getfield 9, 3) := by decide +kernel
theorem dX2_mirror_25 : decode cX2_mirror 25 = .ok (.iload_n 1, 1) := by decide +kernel
theorem dX2_mirror_26 : decode cX2_mirror 26 = .ok (.aload_n 0, 1) := by decide +kernel
theorem dX2_mirror_27 : decode cX2_mirror 27 = .ok (.getfield 9, 3) := by decide +kernel
theorem dX2_mirror_30 : decode cX2_mirror 30 = .ok (.iload_n 2, 1) := by decide +kernel
theorem dX2_mirror_31 : decode cX2_mirror 31 = .ok (.iaload, 1) := by decide +kernel
theorem dX2_mirror_32 : decode cX2_mirror 32 = .ok (.ineg, 1) := by decide +kernel
theorem dX2_mirror_33 : decode cX2_mirror 33 = .ok (.iastore, 1) := by decide +kernel
theorem dX2_mirror_34 : decode cX2_mirror 34 = .ok (.aload_n 0, 1) := by decide +kernel
theorem dX2_mirror_35 : decode cX2_mirror 35 = .ok (.getfield 9, 3) := by decide +kernel
theorem dX2_mirror_38 : decode cX2_mirror 38 = .ok (.iload_n 2, 1) := by decide +kernel
theorem dX2_mirror_39 : decode cX2_mirror 39 = .ok (.iload_n 3, 1) := by decide +kernel
theorem dX2_mirror_40 : decode cX2_mirror 40 = .ok (.ineg, 1) := by decide +kernel
theorem dX2_mirror_41 : decode cX2_mirror 41 = .ok (.iastore, 1) := by decide +kernel
theorem dX2_mirror_42 : decode cX2_mirror 42 = .ok (.iinc 1 1, 3) := by decide +kernel
theorem dX2_mirror_45 : decode cX2_mirror 45 = .ok (.iinc 2 (-1), 3) := by decide +kernel
theorem dX2_mirror_48 : decode cX2_mirror 48 = .ok (.goto (-39), 3) := by decide +kernel
theorem dX2_mirror_51 : decode cX2_mirror 51 = .ok (.iconst 0, 1) := by decide +kernel
theorem dX2_mirror_52 : decode cX2_mirror 52 = .ok (.istore_n 1, 1) := by decide +kernel
theorem dX2_mirror_53 : decode cX2_mirror 53 = .ok (.aload_n 0, 1) := by decide +kernel
theorem dX2_mirror_54 : decode cX2_mirror 54 = .ok (.getfield 26, 3) := by decide +kernel
theorem dX2_mirror_57 : decode cX2_mirror 57 = .ok (.istore_n 2, 1) := by decide +kernel
theorem dX2_mirror_58 : decode cX2_mirror 58 = .ok (.iload_n 1, 1) := by decide +kernel
theorem dX2_mirror_59 : decode cX2_mirror 59 = .ok (.iload_n 2, 1) := by decide +kernel
theorem dX2_mirror_60 : decode cX2_mirror 60 = .ok (.if_icmp .ge 38, 3) := by decide +kernel
theorem dX2_mirror_63 : decode cX2_mirror 63 = .ok (.aload_n 0, 1) := by decide +kernel
theorem dX2_mirror_64 : decode cX2_mirror 64 = .ok (.getfield 15, 3) := by decide +kernel
theorem dX2_mirror_67 : decode cX2_mirror 67 = .ok (.iload_n 1, 1) := by decide +kernel
theorem dX2_mirror_68 : decode cX2_mirror 68 = .ok (.aaload, 1) := by decide +kernel
theorem dX2_mirror_69 : decode cX2_mirror 69 = .ok (.astore_n 3, 1) := by decide +kernel
theorem dX2_mirror_70 : decode cX2_mirror 70 = .ok (.aload_n 0, 1) := by decide +kernel
theorem dX2_mirror_71 : decode cX2_mirror 71 = .ok (.getfield 15, 3) := by decide +kernel
theorem dX2_mirror_74 : decode cX2_mirror 74 = .ok (.iload_n 1, 1) := by decide +kernel
theorem dX2_mirror_75 : decode cX2_mirror 75 = .ok (.aload_n 0, 1) := by decide +kernel
theorem dX2_mirror_76 : decode cX2_mirror 76 = .ok (.getfield 15, 3) := by decide +kernel
theorem dX2_mirror_79 : decode cX2_mirror 79 = .ok (.iload_n 2, 1) := by decide +kernel
theorem dX2_mirror_80 : decode cX2_mirror 80 = .ok (.aaload, 1) := by decide +kernel
theorem dX2_mirror_81 : decode cX2_mirror 81 = .ok (.aastore, 1) := by decide +kernel
theorem dX2_mirror_82 : decode cX2_mirror 82 = .ok (.aload_n 0, 1) := by decide +kernel
theorem dX2_mirror_83 : decode cX2_mirror 83 = .ok (.getfield 15, 3) := by decide +kernel
theorem dX2_mirror_86 : decode cX2_mirror 86 = .ok (.iload_n 2, 1) := by decide +kernel
theorem dX2_mirror_87 : decode cX2_mirror 87 = .ok (.aload_n 3, 1) := by decide +kernel
theorem dX2_mirror_88 : decode cX2_mirror 88 = .ok (.aastore, 1) := by decide +kernel
theorem dX2_mirror_89 : decode cX2_mirror 89 = .ok (.iinc 1 1, 3) := by decide +kernel
theorem dX2_mirror_92 : decode cX2_mirror 92 = .ok (.iinc 2 (-1), 3) := by decide +kernel
theorem dX2_mirror_95 : decode cX2_mirror 95 = .ok (.goto (-37), 3) := by decide +kernel
theorem dX2_mirror_98 : decode cX2_mirror 98 = .ok (.iconst 0, 1) := by decide +kernel
theorem dX2_mirror_99 : decode cX2_mirror 99 = .ok (.istore_n 1, 1) := by decide +kernel
theorem dX2_mirror_100 : decode cX2_mirror 100 = .ok (.iload_n 1, 1) := by decide +kernel
theorem dX2_mirror_101 : decode cX2_mirror 101 = .ok (.aload_n 0, 1) := by decide +kernel
theorem dX2_mirror_102 : decode cX2_mirror 102 = .ok (.getfield 26, 3) := by decide +kernel
theorem dX2_mirror_105 : decode cX2_mirror 105 = .ok (.if_icmp .gt 18, 3) := by decide +kernel
theorem dX2_mirror_108 : decode cX2_mirror 108 = .ok (.aload_n 0, 1) := by decide +kernel
theorem dX2_mirror_109 : decode cX2_mirror 109 = .ok (.getfield 15, 3) := by decide +kernel
theorem dX2_mirror_112 : decode cX2_mirror 112 = .ok (.iload_n 1, 1) := by decide +kernel
theorem dX2_mirror_113 : decode cX2_mirror 113 = .ok (.aaload, 1) := by decide +kernel
theorem dX2_mirror_114 : decode cX2_mirror 114 = .ok (.invokevirtual 77, 3) := by decide +kernel
theorem dX2_mirror_117 : decode cX2_mirror 117 = .ok (.iinc 1 1, 3) := by decide +kernel
theorem dX2_mirror_120 : decode cX2_mirror 120 = .ok (.goto (-20), 3) := by decide +kernel
theorem dX2_mirror_123 : decode cX2_mirror 123 = .ok (.return_, 1) := by decide +kernel
theorem dX2_value_0 : decode cX2_value 0 = .ok (.iload_n 1, 1) := by decide +kernel
theorem dX2_value_1 : decode cX2_value 1 = .ok (.bipush 6, 2) := by decide +kernel
theorem dX2_value_3 : decode cX2_value 3 = .ok (.invokestatic 35, 3) := by decide +kernel
theorem dX2_value_6 : decode cX2_value 6 = .ok (.ifCond .eq 10, 3) := by decide +kernel
theorem dX2_value_9 : decode cX2_value 9 = .ok (.iload_n 2, 1) := by decide +kernel
theorem dX2_value_10 : decode cX2_value 10 = .ok (.invokestatic 80, 3) := by decide +kernel
theorem dX2_value_13 : decode cX2_value 13 = .ok (.ifCond .ne 13, 3) := by decide +kernel
theorem dX2_value_16 : decode cX2_value 16 = .ok (.new 43, 3) := by decide +kernel
theorem dX2_value_19 : decode cX2_value 19 = .ok (.dup, 1) := by decide +kernel
theorem dX2_value_20 : decode cX2_value 20 = .ok (.ldc 83, 2) := by decide +kernel
theorem dX2_value_22 : decode cX2_value 22 = .ok (.invokespecial 47, 3) := by decide +kernel
theorem dX2_value_25 : decode cX2_value 25 = .ok (.athrow, 1) := by decide +kernel
theorem dX2_value_26 : decode cX2_value 26 = .ok (.aload_n 0, 1) := by decide +kernel
theorem dX2_value_27 : decode cX2_value 27 = .ok (.getfield 15, 3) := by decide +kernel
theorem dX2_value_30 : decode cX2_value 30 = .ok (.aload_n 0, 1) := by decide +kernel
theorem dX2_value_31 : decode cX2_value 31 = .ok (.iload_n 1, 1) := by decide +kernel
theorem dX2_value_32 : decode cX2_value 32 = .ok (.invokevirtual 55, 3) := by decide +kernel
theorem dX2_value_35 : decode cX2_value 35 = .ok (.aaload, 1) := by decide +kernel
theorem dX2_value_36 : decode cX2_value 36 = .ok (.astore_n 3, 1) := by decide +kernel
theorem dX2_value_37 : decode cX2_value 37 = .ok (.aload_n 3, 1) := by decide +kernel
theorem dX2_value_38 : decode cX2_value 38 = .ok (.invokevirtual 85, 3) := by decide +kernel
theorem dX2_value_41 : decode cX2_value 41 = .ok (.ifCond .ne 15, 3) := by decide +kernel
theorem dX2_value_44 : decode cX2_value 44 = .ok (.aload_n 3, 1) := by decide +kernel
theorem dX2_value_45 : decode cX2_value 45 = .ok (.iload_n 1, 1) := by decide +kernel
theorem dX2_value_46 : decode cX2_value 46 = .ok (.i2l, 1) := by decide +kernel
theorem dX2_value_47 : decode cX2_value 47 = .ok (.invokevirtual 89, 3) := by decide +kernel
theorem dX2_value_50 : decode cX2_value 50 = .ok (.lconst 1, 1) := by decide +kernel
theorem dX2_value_51 : decode cX2_value 51 = .ok (.iload_n 2, 1) := by decide +kernel
theorem dX2_value_52 : decode cX2_value 52 = .ok (.invokestatic 93, 3) := by decide +kernel
theorem dX2_value_55 : decode cX2_value 55 = .ok (.lreturn, 1) := by decide +kernel
theorem dX2_value_56 : decode cX2_value 56 = .ok (.iload_n 1, 1) := by decide +kernel
theorem dX2_value_57 : decode cX2_value 57 = .ok (.aload_n 3, 1) := by decide +kernel
theorem dX2_value_58 : decode cX2_value 58 = .ok (.getfield 74, 3) := by decide +kernel
theorem dX2_value_61 : decode cX2_value 61 = .ok (.bipush 7, 2) := by decide +kernel
theorem dX2_value_63 : decode cX2_value 63 = .ok (.iaload, 1) := by decide +kernel
theorem dX2_value_64 : decode cX2_value 64 = .ok (.isub, 1) := by decide +kernel
theorem dX2_value_65 : decode cX2_value 65 = .ok (.i2l, 1) := by decide +kernel
theorem dX2_value_66 : decode cX2_value 66 = .ok (.lstore 4, 2) := by decide +kernel
theorem dX2_value_68 : decode cX2_value 68 = .ok (.lload 4, 2) := by decide +kernel
theorem dX2_value_70 : decode cX2_value 70 = .ok (.lconst 0, 1) := by decide +kernel
theorem dX2_value_71 : decode cX2_value 71 = .ok (.lcmp, 1) := by decide +kernel
theorem dX2_value_72 : decode cX2_value 72 = .ok (.ifCond .ne 13, 3) := by decide +kernel
theorem dX2_value_75 : decode cX2_value 75 = .ok (.new 50, 3) := by decide +kernel
theorem dX2_value_78 : decode cX2_value 78 = .ok (.dup, 1) := by decide +kernel
theorem dX2_value_79 : decode cX2_value 79 = .ok (.ldc 97, 2) := by decide +kernel
theorem dX2_value_81 : decode cX2_value 81 = .ok (.invokespecial 54, 3) := by decide +kernel
theorem dX2_value_84 : decode cX2_value 84 = .ok (.athrow, 1) := by decide +kernel
theorem dX2_value_85 : decode cX2_value 85 = .ok (.lload 4, 2) := by decide +kernel
theorem dX2_value_87 : decode cX2_value 87 = .ok (.lload 4, 2) := by decide +kernel
theorem dX2_value_89 : decode cX2_value 89 = .ok (.lmul, 1) := by decide +kernel
theorem dX2_value_90 : decode cX2_value 90 = .ok (.lload 4, 2) := by decide +kernel
theorem dX2_value_92 : decode cX2_value 92 = .ok (.lmul, 1) := by decide +kernel
theorem dX2_value_93 : decode cX2_value 93 = .ok (.lstore 6, 2) := by decide +kernel
theorem dX2_value_95 : decode cX2_value 95 = .ok (.aload_n 3, 1) := by decide +kernel
theorem dX2_value_96 : decode cX2_value 96 = .ok (.iload_n 1, 1) := by decide +kernel
theorem dX2_value_97 : decode cX2_value 97 = .ok (.i2l, 1) := by decide +kernel
theorem dX2_value_98 : decode cX2_value 98 = .ok (.invokevirtual 89, 3) := by decide +kernel
theorem dX2_value_101 : decode cX2_value 101 = .ok (.lload 6, 2) := by decide +kernel
theorem dX2_value_103 : decode cX2_value 103 = .ok (.lmul, 1) := by decide +kernel
theorem dX2_value_104 : decode cX2_value 104 = .ok (.aload_n 3, 1) := by decide +kernel
theorem dX2_value_105 : decode cX2_value 105 = .ok (.lload 4, 2) := by decide +kernel
theorem dX2_value_107 : decode cX2_value 107 = .ok (.invokevirtual 99, 3) := by decide +kernel
theorem dX2_value_110 : decode cX2_value 110 = .ok (.ladd, 1) := by decide +kernel
theorem dX2_value_111 : decode cX2_value 111 = .ok (.lload 6, 2) := by decide +kernel
theorem dX2_value_113 : decode cX2_value 113 = .ok (.iload_n 2, 1) := by decide +kernel
theorem dX2_value_114 : decode cX2_value 114 = .ok (.invokestatic 93, 3) := by decide +kernel
theorem dX2_value_117 : decode cX2_value 117 = .ok (.lreturn, 1) := by decide +kernel
theorem dX2_integral_0 : decode cX2_integral 0 = .ok (.iload_n 1, 1) := by decide +kernel
theorem dX2_integral_1 : decode cX2_integral 1 = .ok (.invokestatic 102, 3) := by decide +kernel
theorem dX2_integral_4 : decode cX2_integral 4 = .ok (.ifCond .eq 10, 3) := by decide +kernel
theorem dX2_integral_7 : decode cX2_integral 7 = .ok (.iload_n 2, 1) := by decide +kernel
theorem dX2_integral_8 : decode cX2_integral 8 = .ok (.invokestatic 102, 3) := by decide +kernel
theorem dX2_integral_11 : decode cX2_integral 11 = .ok (.ifCond .ne 13, 3) := by decide +kernel
theorem dX2_integral_14 : decode cX2_integral 14 = .ok (.new 43, 3) := by decide +kernel
theorem dX2_integral_17 : decode cX2_integral 17 = .ok (.dup, 1) := by decide +kernel
theorem dX2_integral_18 : decode cX2_integral 18 = .ok (.ldc 105, 2) := by decide +kernel
theorem dX2_integral_20 : decode cX2_integral 20 = .ok (.invokespecial 47, 3) := by decide +kernel
theorem dX2_integral_23 : decode cX2_integral 23 = .ok (.athrow, 1) := by decide +kernel
theorem dX2_integral_24 : decode cX2_integral 24 = .ok (.aload_n 0, 1) := by decide +kernel
theorem dX2_integral_25 : decode cX2_integral 25 = .ok (.aload_n 0, 1) := by decide +kernel
theorem dX2_integral_26 : decode cX2_integral 26 = .ok (.iload_n 1, 1) := by decide +kernel
theorem dX2_integral_27 : decode cX2_integral 27 = .ok (.iload_n 2, 1) := by decide +kernel
theorem dX2_integral_28 : decode cX2_integral 28 = .ok (.invokestatic 107, 3) := by decide +kernel
theorem dX2_integral_31 : decode cX2_integral 31 = .ok (.iload_n 1, 1) := by decide +kernel
theorem dX2_integral_32 : decode cX2_integral 32 = .ok (.iload_n 2, 1) := by decide +kernel
theorem dX2_integral_33 : decode cX2_integral 33 = .ok (.invokestatic 113, 3) := by decide +kernel
theorem dX2_integral_36 : decode cX2_integral 36 = .ok (.iload_n 1, 1) := by decide +kernel
theorem dX2_integral_37 : decode cX2_integral 37 = .ok (.iload_n 2, 1) := by decide +kernel
theorem dX2_integral_38 : decode cX2_integral 38 = .ok (.if_icmp .gt 7, 3) := by decide +kernel
theorem dX2_integral_41 : decode cX2_integral 41 = .ok (.iconst 1, 1) := by decide +kernel
theorem dX2_integral_42 : decode cX2_integral 42 = .ok (.goto 4, 3) := by decide +kernel
theorem dX2_integral_45 : decode cX2_integral 45 = .ok (.iconst (-1), 1) := by decide +kernel
theorem dX2_integral_46 : decode cX2_integral 46 = .ok (.invokevirtual 116, 3) := by decide +kernel
theorem dX2_integral_49 : decode cX2_integral 49 = .ok (.putfield 30, 3) := by decide +kernel
theorem dX2_integral_52 : decode cX2_integral 52 = .ok (.aload_n 0, 1) := by decide +kernel
theorem dX2_integral_53 : decode cX2_integral 53 = .ok (.getfield 30, 3) := by decide +kernel
theorem dX2_integral_56 : decode cX2_integral 56 = .ok (.ireturn, 1) := by decide +kernel
theorem dX2_fraction_0 : decode cX2_fraction 0 = .ok (.aload_n 0, 1) := by decide +kernel
theorem dX2_fraction_1 : decode cX2_fraction 1 = .ok (.getfield 30, 3) := by decide +kernel
theorem dX2_fraction_4 : decode cX2_fraction 4 = .ok (.ifCond .ne 13, 3) := by decide +kernel
theorem dX2_fraction_7 : decode cX2_fraction 7 = .ok (.new 50, 3) := by decide +kernel
theorem dX2_fraction_10 : decode cX2_fraction 10 = .ok (.dup, 1) := by decide +kernel
theorem dX2_fraction_11 : decode cX2_fraction 11 = .ok (.ldc 120, 2) := by decide +kernel
theorem dX2_fraction_13 : decode cX2_fraction 13 = .ok (.invokespecial 54, 3) := by decide +kernel
theorem dX2_fraction_16 : decode cX2_fraction 16 = .ok (.athrow, 1) := by decide +kernel
theorem dX2_fraction_17 : decode cX2_fraction 17 = .ok (.iload_n 1, 1) := by decide +kernel
theorem dX2_fraction_18 : decode cX2_fraction 18 = .ok (.invokestatic 80, 3) := by decide +kernel
theorem dX2_fraction_21 : decode cX2_fraction 21 = .ok (.ifCond .ne 13, 3) := by decide +kernel
theorem dX2_fraction_24 : decode cX2_fraction 24 = .ok (.new 43, 3) := by decide +kernel
theorem dX2_fraction_27 : decode cX2_fraction 27 = .ok (.dup, 1) := by decide +kernel
theorem dX2_fraction_28 : decode cX2_fraction 28 = .ok (.ldc 122, 2) := by decide +kernel
theorem dX2_fraction_30 : decode cX2_fraction 30 = .ok (.invokespecial 47, 3) := by decide +kernel
theorem dX2_fraction_33 : decode cX2_fraction 33 = .ok (.athrow, 1) := by decide +kernel
theorem dX2_fraction_34 : decode cX2_fraction 34 = .ok (.aload_n 0, 1) := by decide +kernel
theorem dX2_fraction_35 : decode cX2_fraction 35 = .ok (.getfield 22, 3) := by decide +kernel
theorem dX2_fraction_38 : decode cX2_fraction 38 = .ok (.getfield 124, 3) := by decide +kernel
theorem dX2_fraction_41 : decode cX2_fraction 41 = .ok (.ldc2_w 128, 3) := by decide +kernel
theorem dX2_fraction_44 : decode cX2_fraction 44 = .ok (.iload_n 1, 1) := by decide +kernel
theorem dX2_fraction_45 : decode cX2_fraction 45 = .ok (.invokestatic 93, 3) := by decide +kernel
theorem dX2_fraction_48 : decode cX2_fraction 48 = .ok (.lreturn, 1) := by decide +kernel
theorem dX2_logarithm_0 : decode cX2_logarithm 0 = .ok (.aload_n 0, 1) := by decide +kernel
theorem dX2_logarithm_1 : decode cX2_logarithm 1 = .ok (.getfield 30, 3) := by decide +kernel
theorem dX2_logarithm_4 : decode cX2_logarithm 4 = .ok (.ifCond .ne 13, 3) := by decide +kernel
theorem dX2_logarithm_7 : decode cX2_logarithm 7 = .ok (.new 50, 3) := by decide +kernel
theorem dX2_logarithm_10 : decode cX2_logarithm 10 = .ok (.dup, 1) := by decide +kernel
theorem dX2_logarithm_11 : decode cX2_logarithm 11 = .ok (.ldc 120, 2) := by decide +kernel
theorem dX2_logarithm_13 : decode cX2_logarithm 13 = .ok (.invokespecial 54, 3) := by decide +kernel
theorem dX2_logarithm_16 : decode cX2_logarithm 16 = .ok (.athrow, 1) := by decide +kernel
theorem dX2_logarithm_17 : decode cX2_logarithm 17 = .ok (.iconst 0, 1) := by decide +kernel
theorem dX2_logarithm_18 : decode cX2_logarithm 18 = .ok (.istore_n 2, 1) := by decide +kernel
theorem dX2_logarithm_19 : decode cX2_logarithm 19 = .ok (.iload_n 2, 1) := by decide +kernel
theorem dX2_logarithm_20 : decode cX2_logarithm 20 = .ok (.getstatic 130, 3) := by decide +kernel
theorem dX2_logarithm_23 : decode cX2_logarithm 23 = .ok (.arraylength, 1) := by decide +kernel
theorem dX2_logarithm_24 : decode cX2_logarithm 24 = .ok (.if_icmp .ge 28, 3) := by decide +kernel
theorem dX2_logarithm_27 : decode cX2_logarithm 27 = .ok (.getstatic 130, 3) := by decide +kernel
theorem dX2_logarithm_30 : decode cX2_logarithm 30 = .ok (.iload_n 2, 1) := by decide +kernel
theorem dX2_logarithm_31 : decode cX2_logarithm 31 = .ok (.iaload, 1) := by decide +kernel
theorem dX2_logarithm_32 : decode cX2_logarithm 32 = .ok (.iload_n 1, 1) := by decide +kernel
theorem dX2_logarithm_33 : decode cX2_logarithm 33 = .ok (.if_icmp .ne 13, 3) := by decide +kernel
theorem dX2_logarithm_36 : decode cX2_logarithm 36 = .ok (.aload_n 0, 1) := by decide +kernel
theorem dX2_logarithm_37 : decode cX2_logarithm 37 = .ok (.getfield 22, 3) := by decide +kernel
theorem dX2_logarithm_40 : decode cX2_logarithm 40 = .ok (.getfield 133, 3) := by decide +kernel
theorem dX2_logarithm_43 : decode cX2_logarithm 43 = .ok (.iload_n 2, 1) := by decide +kernel
theorem dX2_logarithm_44 : decode cX2_logarithm 44 = .ok (.iaload, 1) := by decide +kernel
theorem dX2_logarithm_45 : decode cX2_logarithm 45 = .ok (.ireturn, 1) := by decide +kernel
theorem dX2_logarithm_46 : decode cX2_logarithm 46 = .ok (.iinc 2 1, 3) := by decide +kernel
theorem dX2_logarithm_49 : decode cX2_logarithm 49 = .ok (.goto (-30), 3) := by decide +kernel
theorem dX2_logarithm_52 : decode cX2_logarithm 52 = .ok (.new 43, 3) := by decide +kernel
theorem dX2_logarithm_55 : decode cX2_logarithm 55 = .ok (.dup, 1) := by decide +kernel
theorem dX2_logarithm_56 : decode cX2_logarithm 56 = .ok (.ldc 136, 2) := by decide +kernel
theorem dX2_logarithm_58 : decode cX2_logarithm 58 = .ok (.invokespecial 47, 3) := by decide +kernel
theorem dX2_logarithm_61 : decode cX2_logarithm 61 = .ok (.athrow, 1) := by decide +kernel
theorem dX2_symmetry_0 : decode cX2_symmetry 0 = .ok (.aload_n 0, 1) := by decide +kernel
theorem dX2_symmetry_1 : decode cX2_symmetry 1 = .ok (.iconst 1, 1) := by decide +kernel
theorem dX2_symmetry_2 : decode cX2_symmetry 2 = .ok (.invokevirtual 138, 3) := by decide +kernel
theorem dX2_symmetry_5 : decode cX2_symmetry 5 = .ok (.istore_n 1, 1) := by decide +kernel
theorem dX2_symmetry_6 : decode cX2_symmetry 6 = .ok (.aload_n 0, 1) := by decide +kernel
theorem dX2_symmetry_7 : decode cX2_symmetry 7 = .ok (.iconst (-1), 1) := by decide +kernel
theorem dX2_symmetry_8 : decode cX2_symmetry 8 = .ok (.invokevirtual 138, 3) := by decide +kernel
theorem dX2_symmetry_11 : decode cX2_symmetry 11 = .ok (.istore_n 2, 1) := by decide +kernel
theorem dX2_symmetry_12 : decode cX2_symmetry 12 = .ok (.iload_n 1, 1) := by decide +kernel
theorem dX2_symmetry_13 : decode cX2_symmetry 13 = .ok (.ifCond .eq 9, 3) := by decide +kernel
theorem dX2_symmetry_16 : decode cX2_symmetry 16 = .ok (.iload_n 2, 1) := by decide +kernel
theorem dX2_symmetry_17 : decode cX2_symmetry 17 = .ok (.ifCond .eq 5, 3) := by decide +kernel
theorem dX2_symmetry_20 : decode cX2_symmetry 20 = .ok (.iconst 2, 1) := by decide +kernel
theorem dX2_symmetry_21 : decode cX2_symmetry 21 = .ok (.ireturn, 1) := by decide +kernel
theorem dX2_symmetry_22 : decode cX2_symmetry 22 = .ok (.iload_n 1, 1) := by decide +kernel
theorem dX2_symmetry_23 : decode cX2_symmetry 23 = .ok (.ifCond .eq 7, 3) := by decide +kernel
theorem dX2_symmetry_26 : decode cX2_symmetry 26 = .ok (.iconst 1, 1) := by decide +kernel
theorem dX2_symmetry_27 : decode cX2_symmetry 27 = .ok (.goto 12, 3) := by decide +kernel
theorem dX2_symmetry_30 : decode cX2_symmetry 30 = .ok (.iload_n 2, 1) := by decide +kernel
theorem dX2_symmetry_31 : decode cX2_symmetry 31 = .ok (.ifCond .eq 7, 3) := by decide +kernel
theorem dX2_symmetry_34 : decode cX2_symmetry 34 = .ok (.iconst (-1), 1) := by decide +kernel
theorem dX2_symmetry_35 : decode cX2_symmetry 35 = .ok (.goto 4, 3) := by decide +kernel
theorem dX2_symmetry_38 : decode cX2_symmetry 38 = .ok (.iconst 0, 1) := by decide +kernel
theorem dX2_symmetry_39 : decode cX2_symmetry 39 = .ok (.ireturn, 1) := by decide +kernel
theorem dX2_cuts_0 : decode cX2_cuts 0 = .ok (.aload_n 0, 1) := by decide +kernel
theorem dX2_cuts_1 : decode cX2_cuts 1 = .ok (.getfield 26, 3) := by decide +kernel
theorem dX2_cuts_4 : decode cX2_cuts 4 = .ok (.ireturn, 1) := by decide +kernel
theorem dX2_clear_0 : decode cX2_clear 0 = .ok (.aload_n 0, 1) := by decide +kernel
theorem dX2_clear_1 : decode cX2_clear 1 = .ok (.iconst 0, 1) := by decide +kernel
theorem dX2_clear_2 : decode cX2_clear 2 = .ok (.putfield 26, 3) := by decide +kernel
theorem dX2_clear_5 : decode cX2_clear 5 = .ok (.aload_n 0, 1) := by decide +kernel
theorem dX2_clear_6 : decode cX2_clear 6 = .ok (.iconst 0, 1) := by decide +kernel
theorem dX2_clear_7 : decode cX2_clear 7 = .ok (.putfield 30, 3) := by decide +kernel
theorem dX2_clear_10 : decode cX2_clear 10 = .ok (.aload_n 0, 1) := by decide +kernel
theorem dX2_clear_11 : decode cX2_clear 11 = .ok (.getfield 15, 3) := by decide +kernel
theorem dX2_clear_14 : decode cX2_clear 14 = .ok (.iconst 0, 1) := by decide +kernel
theorem dX2_clear_15 : decode cX2_clear 15 = .ok (.aaload, 1) := by decide +kernel
theorem dX2_clear_16 : decode cX2_clear 16 = .ok (.invokevirtual 141, 3) := by decide +kernel
theorem dX2_clear_19 : decode cX2_clear 19 = .ok (.return_, 1) := by decide +kernel
theorem dX2_isWithin_0 : decode cX2_isWithin 0 = .ok (.iload_n 0, 1) := by decide +kernel
theorem dX2_isWithin_1 : decode cX2_isWithin 1 = .ok (.iload_n 1, 1) := by decide +kernel
theorem dX2_isWithin_2 : decode cX2_isWithin 2 = .ok (.ineg, 1) := by decide +kernel
theorem dX2_isWithin_3 : decode cX2_isWithin 3 = .ok (.if_icmp .lt 12, 3) := by decide +kernel
theorem dX2_isWithin_6 : decode cX2_isWithin 6 = .ok (.iload_n 0, 1) := by decide +kernel
theorem dX2_isWithin_7 : decode cX2_isWithin 7 = .ok (.iload_n 1, 1) := by decide +kernel
theorem dX2_isWithin_8 : decode cX2_isWithin 8 = .ok (.if_icmp .gt 7, 3) := by decide +kernel
theorem dX2_isWithin_11 : decode cX2_isWithin 11 = .ok (.iconst 1, 1) := by decide +kernel
theorem dX2_isWithin_12 : decode cX2_isWithin 12 = .ok (.goto 4, 3) := by decide +kernel
theorem dX2_isWithin_15 : decode cX2_isWithin 15 = .ok (.iconst 0, 1) := by decide +kernel
theorem dX2_isWithin_16 : decode cX2_isWithin 16 = .ok (.ireturn, 1) := by decide +kernel
theorem dX2_isPart_0 : decode cX2_isPart 0 = .ok (.iload_n 0, 1) := by decide +kernel
theorem dX2_isPart_1 : decode cX2_isPart 1 = .ok (.ifCond .eq 8, 3) := by decide +kernel
theorem dX2_isPart_4 : decode cX2_isPart 4 = .ok (.iload_n 0, 1) := by decide +kernel
theorem dX2_isPart_5 : decode cX2_isPart 5 = .ok (.iconst 1, 1) := by decide +kernel
theorem dX2_isPart_6 : decode cX2_isPart 6 = .ok (.if_icmp .ne 7, 3) := by decide +kernel
theorem dX2_isPart_9 : decode cX2_isPart 9 = .ok (.iconst 1, 1) := by decide +kernel
theorem dX2_isPart_10 : decode cX2_isPart 10 = .ok (.goto 4, 3) := by decide +kernel
theorem dX2_isPart_13 : decode cX2_isPart 13 = .ok (.iconst 0, 1) := by decide +kernel
theorem dX2_isPart_14 : decode cX2_isPart 14 = .ok (.ireturn, 1) := by decide +kernel
theorem dX2_isEnd_0 : decode cX2_isEnd 0 = .ok (.iload_n 0, 1) := by decide +kernel
theorem dX2_isEnd_1 : decode cX2_isEnd 1 = .ok (.bipush 6, 2) := by decide +kernel
theorem dX2_isEnd_3 : decode cX2_isEnd 3 = .ok (.invokestatic 35, 3) := by decide +kernel
theorem dX2_isEnd_6 : decode cX2_isEnd 6 = .ok (.ifCond .ne 10, 3) := by decide +kernel
theorem dX2_isEnd_9 : decode cX2_isEnd 9 = .ok (.iload_n 0, 1) := by decide +kernel
theorem dX2_isEnd_10 : decode cX2_isEnd 10 = .ok (.invokestatic 144, 3) := by decide +kernel
theorem dX2_isEnd_13 : decode cX2_isEnd 13 = .ok (.ifCond .eq 7, 3) := by decide +kernel
theorem dX2_isEnd_16 : decode cX2_isEnd 16 = .ok (.iconst 1, 1) := by decide +kernel
theorem dX2_isEnd_17 : decode cX2_isEnd 17 = .ok (.goto 4, 3) := by decide +kernel
theorem dX2_isEnd_20 : decode cX2_isEnd 20 = .ok (.iconst 0, 1) := by decide +kernel
theorem dX2_isEnd_21 : decode cX2_isEnd 21 = .ok (.ireturn, 1) := by decide +kernel
theorem dX2_isEndless_0 : decode cX2_isEndless 0 = .ok (.iload_n 0, 1) := by decide +kernel
theorem dX2_isEndless_1 : decode cX2_isEndless 1 = .ok (.bipush 9, 2) := by decide +kernel
theorem dX2_isEndless_3 : decode cX2_isEndless 3 = .ok (.if_icmp .eq 9, 3) := by decide +kernel
theorem dX2_isEndless_6 : decode cX2_isEndless 6 = .ok (.iload_n 0, 1) := by decide +kernel
theorem dX2_isEndless_7 : decode cX2_isEndless 7 = .ok (.bipush (-9), 2) := by decide +kernel
theorem dX2_isEndless_9 : decode cX2_isEndless 9 = .ok (.if_icmp .ne 7, 3) := by decide +kernel
theorem dX2_isEndless_12 : decode cX2_isEndless 12 = .ok (.iconst 1, 1) := by decide +kernel
theorem dX2_isEndless_13 : decode cX2_isEndless 13 = .ok (.goto 4, 3) := by decide +kernel
theorem dX2_isEndless_16 : decode cX2_isEndless 16 = .ok (.iconst 0, 1) := by decide +kernel
theorem dX2_isEndless_17 : decode cX2_isEndless 17 = .ok (.ireturn, 1) := by decide +kernel
theorem dX2_isCut_0 : decode cX2_isCut 0 = .ok (.iconst 0, 1) := by decide +kernel
theorem dX2_isCut_1 : decode cX2_isCut 1 = .ok (.istore_n 2, 1) := by decide +kernel
theorem dX2_isCut_2 : decode cX2_isCut 2 = .ok (.iload_n 2, 1) := by decide +kernel
theorem dX2_isCut_3 : decode cX2_isCut 3 = .ok (.aload_n 0, 1) := by decide +kernel
theorem dX2_isCut_4 : decode cX2_isCut 4 = .ok (.getfield 26, 3) := by decide +kernel
theorem dX2_isCut_7 : decode cX2_isCut 7 = .ok (.if_icmp .ge 21, 3) := by decide +kernel
theorem dX2_isCut_10 : decode cX2_isCut 10 = .ok (.aload_n 0, 1) := by decide +kernel
theorem dX2_isCut_11 : decode cX2_isCut 11 = .ok (.getfield 9, 3) := by decide +kernel
theorem dX2_isCut_14 : decode cX2_isCut 14 = .ok (.iload_n 2, 1) := by decide +kernel
theorem dX2_isCut_15 : decode cX2_isCut 15 = .ok (.iaload, 1) := by decide +kernel
theorem dX2_isCut_16 : decode cX2_isCut 16 = .ok (.iload_n 1, 1) := by decide +kernel
theorem dX2_isCut_17 : decode cX2_isCut 17 = .ok (.if_icmp .ne 5, 3) := by decide +kernel
theorem dX2_isCut_20 : decode cX2_isCut 20 = .ok (.iconst 1, 1) := by decide +kernel
theorem dX2_isCut_21 : decode cX2_isCut 21 = .ok (.ireturn, 1) := by decide +kernel
theorem dX2_isCut_22 : decode cX2_isCut 22 = .ok (.iinc 2 1, 3) := by decide +kernel
theorem dX2_isCut_25 : decode cX2_isCut 25 = .ok (.goto (-23), 3) := by decide +kernel
theorem dX2_isCut_28 : decode cX2_isCut 28 = .ok (.iconst 0, 1) := by decide +kernel
theorem dX2_isCut_29 : decode cX2_isCut 29 = .ok (.ireturn, 1) := by decide +kernel
theorem dX2_pieceAt_0 : decode cX2_pieceAt 0 = .ok (.iconst 0, 1) := by decide +kernel
theorem dX2_pieceAt_1 : decode cX2_pieceAt 1 = .ok (.istore_n 2, 1) := by decide +kernel
theorem dX2_pieceAt_2 : decode cX2_pieceAt 2 = .ok (.iconst 0, 1) := by decide +kernel
theorem dX2_pieceAt_3 : decode cX2_pieceAt 3 = .ok (.istore_n 3, 1) := by decide +kernel
theorem dX2_pieceAt_4 : decode cX2_pieceAt 4 = .ok (.iload_n 3, 1) := by decide +kernel
theorem dX2_pieceAt_5 : decode cX2_pieceAt 5 = .ok (.aload_n 0, 1) := by decide +kernel
theorem dX2_pieceAt_6 : decode cX2_pieceAt 6 = .ok (.getfield 26, 3) := by decide +kernel
theorem dX2_pieceAt_9 : decode cX2_pieceAt 9 = .ok (.if_icmp .ge 22, 3) := by decide +kernel
theorem dX2_pieceAt_12 : decode cX2_pieceAt 12 = .ok (.aload_n 0, 1) := by decide +kernel
theorem dX2_pieceAt_13 : decode cX2_pieceAt 13 = .ok (.getfield 9, 3) := by decide +kernel
theorem dX2_pieceAt_16 : decode cX2_pieceAt 16 = .ok (.iload_n 3, 1) := by decide +kernel
theorem dX2_pieceAt_17 : decode cX2_pieceAt 17 = .ok (.iaload, 1) := by decide +kernel
theorem dX2_pieceAt_18 : decode cX2_pieceAt 18 = .ok (.iload_n 1, 1) := by decide +kernel
theorem dX2_pieceAt_19 : decode cX2_pieceAt 19 = .ok (.if_icmp .gt 6, 3) := by decide +kernel
theorem dX2_pieceAt_22 : decode cX2_pieceAt 22 = .ok (.iinc 2 1, 3) := by decide +kernel
theorem dX2_pieceAt_25 : decode cX2_pieceAt 25 = .ok (.iinc 3 1, 3) := by decide +kernel
theorem dX2_pieceAt_28 : decode cX2_pieceAt 28 = .ok (.goto (-24), 3) := by decide +kernel
theorem dX2_pieceAt_31 : decode cX2_pieceAt 31 = .ok (.iload_n 2, 1) := by decide +kernel
theorem dX2_pieceAt_32 : decode cX2_pieceAt 32 = .ok (.ireturn, 1) := by decide +kernel
theorem dX2_leftBorder_0 : decode cX2_leftBorder 0 = .ok (.iload_n 1, 1) := by decide +kernel
theorem dX2_leftBorder_1 : decode cX2_leftBorder 1 = .ok (.ifCond .le 22, 3) := by decide +kernel
theorem dX2_leftBorder_4 : decode cX2_leftBorder 4 = .ok (.iload_n 1, 1) := by decide +kernel
theorem dX2_leftBorder_5 : decode cX2_leftBorder 5 = .ok (.aload_n 0, 1) := by decide +kernel
theorem dX2_leftBorder_6 : decode cX2_leftBorder 6 = .ok (.getfield 26, 3) := by decide +kernel
theorem dX2_leftBorder_9 : decode cX2_leftBorder 9 = .ok (.if_icmp .gt 14, 3) := by decide +kernel
theorem dX2_leftBorder_12 : decode cX2_leftBorder 12 = .ok (.aload_n 0, 1) := by decide +kernel
theorem dX2_leftBorder_13 : decode cX2_leftBorder 13 = .ok (.getfield 9, 3) := by decide +kernel
theorem dX2_leftBorder_16 : decode cX2_leftBorder 16 = .ok (.iload_n 1, 1) := by decide +kernel
theorem dX2_leftBorder_17 : decode cX2_leftBorder 17 = .ok (.iconst 1, 1) := by decide +kernel
theorem dX2_leftBorder_18 : decode cX2_leftBorder 18 = .ok (.isub, 1) := by decide +kernel
theorem dX2_leftBorder_19 : decode cX2_leftBorder 19 = .ok (.iaload, 1) := by decide +kernel
theorem dX2_leftBorder_20 : decode cX2_leftBorder 20 = .ok (.goto 5, 3) := by decide +kernel
theorem dX2_leftBorder_23 : decode cX2_leftBorder 23 = .ok (.bipush (-9), 2) := by decide +kernel
theorem dX2_leftBorder_25 : decode cX2_leftBorder 25 = .ok (.ireturn, 1) := by decide +kernel
theorem dX2_rightBorder_0 : decode cX2_rightBorder 0 = .ok (.iload_n 1, 1) := by decide +kernel
theorem dX2_rightBorder_1 : decode cX2_rightBorder 1 = .ok (.ifCond .lt 20, 3) := by decide +kernel
theorem dX2_rightBorder_4 : decode cX2_rightBorder 4 = .ok (.iload_n 1, 1) := by decide +kernel
theorem dX2_rightBorder_5 : decode cX2_rightBorder 5 = .ok (.aload_n 0, 1) := by decide +kernel
theorem dX2_rightBorder_6 : decode cX2_rightBorder 6 = .ok (.getfield 26, 3) := by decide +kernel
theorem dX2_rightBorder_9 : decode cX2_rightBorder 9 = .ok (.if_icmp .ge 12, 3) := by decide +kernel
theorem dX2_rightBorder_12 : decode cX2_rightBorder 12 = .ok (.aload_n 0, 1) := by decide +kernel
theorem dX2_rightBorder_13 : decode cX2_rightBorder 13 = .ok (.getfield 9, 3) := by decide +kernel
theorem dX2_rightBorder_16 : decode cX2_rightBorder 16 = .ok (.iload_n 1, 1) := by decide +kernel
theorem dX2_rightBorder_17 : decode cX2_rightBorder 17 = .ok (.iaload, 1) := by decide +kernel
theorem dX2_rightBorder_18 : decode cX2_rightBorder 18 = .ok (.goto 5, 3) := by decide +kernel
theorem dX2_rightBorder_21 : decode cX2_rightBorder 21 = .ok (.bipush 9, 2) := by decide +kernel
theorem dX2_rightBorder_23 : decode cX2_rightBorder 23 = .ok (.ireturn, 1) := by decide +kernel
theorem dX2_addParts_0 : decode cX2_addParts 0 = .ok (.aload_n 0, 1) := by decide +kernel
theorem dX2_addParts_1 : decode cX2_addParts 1 = .ok (.getfield 22, 3) := by decide +kernel
theorem dX2_addParts_4 : decode cX2_addParts 4 = .ok (.invokevirtual 147, 3) := by decide +kernel
theorem dX2_addParts_7 : decode cX2_addParts 7 = .ok (.iconst 0, 1) := by decide +kernel
theorem dX2_addParts_8 : decode cX2_addParts 8 = .ok (.istore 4, 2) := by decide +kernel
theorem dX2_addParts_10 : decode cX2_addParts 10 = .ok (.iload 4, 2) := by decide +kernel
theorem dX2_addParts_12 : decode cX2_addParts 12 = .ok (.aload_n 0, 1) := by decide +kernel
theorem dX2_addParts_13 : decode cX2_addParts 13 = .ok (.getfield 26, 3) := by decide +kernel
theorem dX2_addParts_16 : decode cX2_addParts 16 = .ok (.if_icmp .gt 94, 3) := by decide +kernel
theorem dX2_addParts_19 : decode cX2_addParts 19 = .ok (.iload_n 1, 1) := by decide +kernel
theorem dX2_addParts_20 : decode cX2_addParts 20 = .ok (.aload_n 0, 1) := by decide +kernel
theorem dX2_addParts_21 : decode cX2_addParts 21 = .ok (.iload 4, 2) := by decide +kernel
theorem dX2_addParts_23 : decode cX2_addParts 23 = .ok (.invokevirtual 148, 3) := by decide +kernel
theorem dX2_addParts_26 : decode cX2_addParts 26 = .ok (.invokestatic 113, 3) := by decide +kernel
theorem dX2_addParts_29 : decode cX2_addParts 29 = .ok (.istore 5, 2) := by decide +kernel
theorem dX2_addParts_31 : decode cX2_addParts 31 = .ok (.iload_n 2, 1) := by decide +kernel
theorem dX2_addParts_32 : decode cX2_addParts 32 = .ok (.aload_n 0, 1) := by decide +kernel
theorem dX2_addParts_33 : decode cX2_addParts 33 = .ok (.iload 4, 2) := by decide +kernel
theorem dX2_addParts_35 : decode cX2_addParts 35 = .ok (.invokevirtual 151, 3) := by decide +kernel
theorem dX2_addParts_38 : decode cX2_addParts 38 = .ok (.invokestatic 107, 3) := by decide +kernel
theorem dX2_addParts_41 : decode cX2_addParts 41 = .ok (.istore 6, 2) := by decide +kernel
theorem dX2_addParts_43 : decode cX2_addParts 43 = .ok (.iload 5, 2) := by decide +kernel
theorem dX2_addParts_45 : decode cX2_addParts 45 = .ok (.iload 6, 2) := by decide +kernel
theorem dX2_addParts_47 : decode cX2_addParts 47 = .ok (.if_icmp .ge 57, 3) := by decide +kernel
theorem dX2_addParts_50 : decode cX2_addParts 50 = .ok (.aload_n 0, 1) := by decide +kernel
theorem dX2_addParts_51 : decode cX2_addParts 51 = .ok (.getfield 15, 3) := by decide +kernel
theorem dX2_addParts_54 : decode cX2_addParts 54 = .ok (.iload 4, 2) := by decide +kernel
theorem dX2_addParts_56 : decode cX2_addParts 56 = .ok (.aaload, 1) := by decide +kernel
theorem dX2_addParts_57 : decode cX2_addParts 57 = .ok (.iload 5, 2) := by decide +kernel
theorem dX2_addParts_59 : decode cX2_addParts 59 = .ok (.iload 6, 2) := by decide +kernel
theorem dX2_addParts_61 : decode cX2_addParts 61 = .ok (.invokevirtual 154, 3) := by decide +kernel
theorem dX2_addParts_64 : decode cX2_addParts 64 = .ok (.ifCond .eq 5, 3) := by decide +kernel
theorem dX2_addParts_67 : decode cX2_addParts 67 = .ok (.iconst 0, 1) := by decide +kernel
theorem dX2_addParts_68 : decode cX2_addParts 68 = .ok (.ireturn, 1) := by decide +kernel
theorem dX2_addParts_69 : decode cX2_addParts 69 = .ok (.aload_n 0, 1) := by decide +kernel
theorem dX2_addParts_70 : decode cX2_addParts 70 = .ok (.getfield 22, 3) := by decide +kernel
theorem dX2_addParts_73 : decode cX2_addParts 73 = .ok (.aload_n 0, 1) := by decide +kernel
theorem dX2_addParts_74 : decode cX2_addParts 74 = .ok (.getfield 15, 3) := by decide +kernel
theorem dX2_addParts_77 : decode cX2_addParts 77 = .ok (.iload 4, 2) := by decide +kernel
theorem dX2_addParts_79 : decode cX2_addParts 79 = .ok (.aaload, 1) := by decide +kernel
theorem dX2_addParts_80 : decode cX2_addParts 80 = .ok (.iload 6, 2) := by decide +kernel
theorem dX2_addParts_82 : decode cX2_addParts 82 = .ok (.iload_n 3, 1) := by decide +kernel
theorem dX2_addParts_83 : decode cX2_addParts 83 = .ok (.invokevirtual 157, 3) := by decide +kernel
theorem dX2_addParts_86 : decode cX2_addParts 86 = .ok (.aload_n 0, 1) := by decide +kernel
theorem dX2_addParts_87 : decode cX2_addParts 87 = .ok (.getfield 22, 3) := by decide +kernel
theorem dX2_addParts_90 : decode cX2_addParts 90 = .ok (.aload_n 0, 1) := by decide +kernel
theorem dX2_addParts_91 : decode cX2_addParts 91 = .ok (.getfield 15, 3) := by decide +kernel
theorem dX2_addParts_94 : decode cX2_addParts 94 = .ok (.iload 4, 2) := by decide +kernel
theorem dX2_addParts_96 : decode cX2_addParts 96 = .ok (.aaload, 1) := by decide +kernel
theorem dX2_addParts_97 : decode cX2_addParts 97 = .ok (.iload 5, 2) := by decide +kernel
theorem dX2_addParts_99 : decode cX2_addParts 99 = .ok (.iload_n 3, 1) := by decide +kernel
theorem dX2_addParts_100 : decode cX2_addParts 100 = .ok (.ineg, 1) := by decide +kernel
theorem dX2_addParts_101 : decode cX2_addParts 101 = .ok (.invokevirtual 157, 3) := by decide +kernel
theorem dX2_addParts_104 : decode cX2_addParts 104 = .ok (.iinc 4 1, 3) := by decide +kernel
theorem dX2_addParts_107 : decode cX2_addParts 107 = .ok (.goto (-97), 3) := by decide +kernel
theorem dX2_addParts_110 : decode cX2_addParts 110 = .ok (.iconst 1, 1) := by decide +kernel
theorem dX2_addParts_111 : decode cX2_addParts 111 = .ok (.ireturn, 1) := by decide +kernel
theorem dX2_isMirrored_0 : decode cX2_isMirrored 0 = .ok (.iconst 0, 1) := by decide +kernel
theorem dX2_isMirrored_1 : decode cX2_isMirrored 1 = .ok (.istore_n 2, 1) := by decide +kernel
theorem dX2_isMirrored_2 : decode cX2_isMirrored 2 = .ok (.iload_n 2, 1) := by decide +kernel
theorem dX2_isMirrored_3 : decode cX2_isMirrored 3 = .ok (.bipush 6, 2) := by decide +kernel
theorem dX2_isMirrored_5 : decode cX2_isMirrored 5 = .ok (.if_icmp .gt 41, 3) := by decide +kernel
theorem dX2_isMirrored_8 : decode cX2_isMirrored 8 = .ok (.aload_n 0, 1) := by decide +kernel
theorem dX2_isMirrored_9 : decode cX2_isMirrored 9 = .ok (.getfield 15, 3) := by decide +kernel
theorem dX2_isMirrored_12 : decode cX2_isMirrored 12 = .ok (.aload_n 0, 1) := by decide +kernel
theorem dX2_isMirrored_13 : decode cX2_isMirrored 13 = .ok (.iload_n 2, 1) := by decide +kernel
theorem dX2_isMirrored_14 : decode cX2_isMirrored 14 = .ok (.invokevirtual 55, 3) := by decide +kernel
theorem dX2_isMirrored_17 : decode cX2_isMirrored 17 = .ok (.aaload, 1) := by decide +kernel
theorem dX2_isMirrored_18 : decode cX2_isMirrored 18 = .ok (.aload_n 0, 1) := by decide +kernel
theorem dX2_isMirrored_19 : decode cX2_isMirrored 19 = .ok (.getfield 15, 3) := by decide +kernel
theorem dX2_isMirrored_22 : decode cX2_isMirrored 22 = .ok (.aload_n 0, 1) := by decide +kernel
theorem dX2_isMirrored_23 : decode cX2_isMirrored 23 = .ok (.iload_n 2, 1) := by decide +kernel
theorem dX2_isMirrored_24 : decode cX2_isMirrored 24 = .ok (.ineg, 1) := by decide +kernel
theorem dX2_isMirrored_25 : decode cX2_isMirrored 25 = .ok (.iconst 1, 1) := by decide +kernel
theorem dX2_isMirrored_26 : decode cX2_isMirrored 26 = .ok (.isub, 1) := by decide +kernel
theorem dX2_isMirrored_27 : decode cX2_isMirrored 27 = .ok (.invokevirtual 55, 3) := by decide +kernel
theorem dX2_isMirrored_30 : decode cX2_isMirrored 30 = .ok (.aaload, 1) := by decide +kernel
theorem dX2_isMirrored_31 : decode cX2_isMirrored 31 = .ok (.iload_n 1, 1) := by decide +kernel
theorem dX2_isMirrored_32 : decode cX2_isMirrored 32 = .ok (.invokevirtual 161, 3) := by decide +kernel
theorem dX2_isMirrored_35 : decode cX2_isMirrored 35 = .ok (.ifCond .ne 5, 3) := by decide +kernel
theorem dX2_isMirrored_38 : decode cX2_isMirrored 38 = .ok (.iconst 0, 1) := by decide +kernel
theorem dX2_isMirrored_39 : decode cX2_isMirrored 39 = .ok (.ireturn, 1) := by decide +kernel
theorem dX2_isMirrored_40 : decode cX2_isMirrored 40 = .ok (.iinc 2 1, 3) := by decide +kernel
theorem dX2_isMirrored_43 : decode cX2_isMirrored 43 = .ok (.goto (-41), 3) := by decide +kernel
theorem dX2_isMirrored_46 : decode cX2_isMirrored 46 = .ok (.iconst 1, 1) := by decide +kernel
theorem dX2_isMirrored_47 : decode cX2_isMirrored 47 = .ok (.ireturn, 1) := by decide +kernel
theorem dX2_lowestTerms_0 : decode cX2_lowestTerms 0 = .ok (.lload_n 0, 1) := by decide +kernel
theorem dX2_lowestTerms_1 : decode cX2_lowestTerms 1 = .ok (.lload_n 2, 1) := by decide +kernel
theorem dX2_lowestTerms_2 : decode cX2_lowestTerms 2 = .ok (.invokestatic 165, 3) := by decide +kernel
theorem dX2_lowestTerms_5 : decode cX2_lowestTerms 5 = .ok (.lstore 5, 2) := by decide +kernel
theorem dX2_lowestTerms_7 : decode cX2_lowestTerms 7 = .ok (.lload 5, 2) := by decide +kernel
theorem dX2_lowestTerms_9 : decode cX2_lowestTerms 9 = .ok (.lconst 0, 1) := by decide +kernel
theorem dX2_lowestTerms_10 : decode cX2_lowestTerms 10 = .ok (.lcmp, 1) := by decide +kernel
theorem dX2_lowestTerms_11 : decode cX2_lowestTerms 11 = .ok (.ifCond .ne 5, 3) := by decide +kernel
theorem dX2_lowestTerms_14 : decode cX2_lowestTerms 14 = .ok (.lconst 0, 1) := by decide +kernel
theorem dX2_lowestTerms_15 : decode cX2_lowestTerms 15 = .ok (.lreturn, 1) := by decide +kernel
theorem dX2_lowestTerms_16 : decode cX2_lowestTerms 16 = .ok (.iload 4, 2) := by decide +kernel
theorem dX2_lowestTerms_18 : decode cX2_lowestTerms 18 = .ok (.ifCond .ne 7, 3) := by decide +kernel
theorem dX2_lowestTerms_21 : decode cX2_lowestTerms 21 = .ok (.lload_n 0, 1) := by decide +kernel
theorem dX2_lowestTerms_22 : decode cX2_lowestTerms 22 = .ok (.goto 4, 3) := by decide +kernel
theorem dX2_lowestTerms_25 : decode cX2_lowestTerms 25 = .ok (.lload_n 2, 1) := by decide +kernel
theorem dX2_lowestTerms_26 : decode cX2_lowestTerms 26 = .ok (.lload_n 2, 1) := by decide +kernel
theorem dX2_lowestTerms_27 : decode cX2_lowestTerms 27 = .ok (.lconst 0, 1) := by decide +kernel
theorem dX2_lowestTerms_28 : decode cX2_lowestTerms 28 = .ok (.lcmp, 1) := by decide +kernel
theorem dX2_lowestTerms_29 : decode cX2_lowestTerms 29 = .ok (.ifCond .ge 9, 3) := by decide +kernel
theorem dX2_lowestTerms_32 : decode cX2_lowestTerms 32 = .ok (.lload 5, 2) := by decide +kernel
theorem dX2_lowestTerms_34 : decode cX2_lowestTerms 34 = .ok (.lneg, 1) := by decide +kernel
theorem dX2_lowestTerms_35 : decode cX2_lowestTerms 35 = .ok (.goto 5, 3) := by decide +kernel
theorem dX2_lowestTerms_38 : decode cX2_lowestTerms 38 = .ok (.lload 5, 2) := by decide +kernel
theorem dX2_lowestTerms_40 : decode cX2_lowestTerms 40 = .ok (.ldiv, 1) := by decide +kernel
theorem dX2_lowestTerms_41 : decode cX2_lowestTerms 41 = .ok (.lreturn, 1) := by decide +kernel
theorem dX2_greatestDivisor_0 : decode cX2_greatestDivisor 0 = .ok (.lload_n 0, 1) := by decide +kernel
theorem dX2_greatestDivisor_1 : decode cX2_greatestDivisor 1 = .ok (.lstore 4, 2) := by decide +kernel
theorem dX2_greatestDivisor_3 : decode cX2_greatestDivisor 3 = .ok (.lload_n 2, 1) := by decide +kernel
theorem dX2_greatestDivisor_4 : decode cX2_greatestDivisor 4 = .ok (.lstore 6, 2) := by decide +kernel
theorem dX2_greatestDivisor_6 : decode cX2_greatestDivisor 6 = .ok (.iconst 0, 1) := by decide +kernel
theorem dX2_greatestDivisor_7 : decode cX2_greatestDivisor 7 = .ok (.istore 8, 2) := by decide +kernel
theorem dX2_greatestDivisor_9 : decode cX2_greatestDivisor 9 = .ok (.iload 8, 2) := by decide +kernel
theorem dX2_greatestDivisor_11 : decode cX2_greatestDivisor 11 = .ok (.bipush 100, 2) := by decide +kernel
theorem dX2_greatestDivisor_13 : decode cX2_greatestDivisor 13 = .ok (.if_icmp .ge 31, 3) := by decide +kernel
theorem dX2_greatestDivisor_16 : decode cX2_greatestDivisor 16 = .ok (.lload 6, 2) := by decide +kernel
theorem dX2_greatestDivisor_18 : decode cX2_greatestDivisor 18 = .ok (.lconst 0, 1) := by decide +kernel
theorem dX2_greatestDivisor_19 : decode cX2_greatestDivisor 19 = .ok (.lcmp, 1) := by decide +kernel
theorem dX2_greatestDivisor_20 : decode cX2_greatestDivisor 20 = .ok (.ifCond .eq 24, 3) := by decide +kernel
theorem dX2_greatestDivisor_23 : decode cX2_greatestDivisor 23 = .ok (.lload 4, 2) := by decide +kernel
theorem dX2_greatestDivisor_25 : decode cX2_greatestDivisor 25 = .ok (.lload 6, 2) := by decide +kernel
theorem dX2_greatestDivisor_27 : decode cX2_greatestDivisor 27 = .ok (.lrem, 1) := by decide +kernel
theorem dX2_greatestDivisor_28 : decode cX2_greatestDivisor 28 = .ok (.lstore 9, 2) := by decide +kernel
theorem dX2_greatestDivisor_30 : decode cX2_greatestDivisor 30 = .ok (.lload 6, 2) := by decide +kernel
theorem dX2_greatestDivisor_32 : decode cX2_greatestDivisor 32 = .ok (.lstore 4, 2) := by decide +kernel
theorem dX2_greatestDivisor_34 : decode cX2_greatestDivisor 34 = .ok (.lload 9, 2) := by decide +kernel
theorem dX2_greatestDivisor_36 : decode cX2_greatestDivisor 36 = .ok (.lstore 6, 2) := by decide +kernel
theorem dX2_greatestDivisor_38 : decode cX2_greatestDivisor 38 = .ok (.iinc 8 1, 3) := by decide +kernel
theorem dX2_greatestDivisor_41 : decode cX2_greatestDivisor 41 = .ok (.goto (-32), 3) := by decide +kernel
theorem dX2_greatestDivisor_44 : decode cX2_greatestDivisor 44 = .ok (.lload 4, 2) := by decide +kernel
theorem dX2_greatestDivisor_46 : decode cX2_greatestDivisor 46 = .ok (.invokestatic 169, 3) := by decide +kernel
theorem dX2_greatestDivisor_49 : decode cX2_greatestDivisor 49 = .ok (.lreturn, 1) := by decide +kernel
theorem dX2_timesIn_0 : decode cX2_timesIn 0 = .ok (.iload_n 1, 1) := by decide +kernel
theorem dX2_timesIn_1 : decode cX2_timesIn 1 = .ok (.istore_n 2, 1) := by decide +kernel
theorem dX2_timesIn_2 : decode cX2_timesIn 2 = .ok (.iconst 0, 1) := by decide +kernel
theorem dX2_timesIn_3 : decode cX2_timesIn 3 = .ok (.istore_n 3, 1) := by decide +kernel
theorem dX2_timesIn_4 : decode cX2_timesIn 4 = .ok (.iload_n 3, 1) := by decide +kernel
theorem dX2_timesIn_5 : decode cX2_timesIn 5 = .ok (.iconst 3, 1) := by decide +kernel
theorem dX2_timesIn_6 : decode cX2_timesIn 6 = .ok (.if_icmp .ge 29, 3) := by decide +kernel
theorem dX2_timesIn_9 : decode cX2_timesIn 9 = .ok (.iload_n 0, 1) := by decide +kernel
theorem dX2_timesIn_10 : decode cX2_timesIn 10 = .ok (.iconst 1, 1) := by decide +kernel
theorem dX2_timesIn_11 : decode cX2_timesIn 11 = .ok (.if_icmp .le 24, 3) := by decide +kernel
theorem dX2_timesIn_14 : decode cX2_timesIn 14 = .ok (.iload_n 2, 1) := by decide +kernel
theorem dX2_timesIn_15 : decode cX2_timesIn 15 = .ok (.iload_n 0, 1) := by decide +kernel
theorem dX2_timesIn_16 : decode cX2_timesIn 16 = .ok (.if_icmp .lt 19, 3) := by decide +kernel
theorem dX2_timesIn_19 : decode cX2_timesIn 19 = .ok (.iload_n 2, 1) := by decide +kernel
theorem dX2_timesIn_20 : decode cX2_timesIn 20 = .ok (.iload_n 0, 1) := by decide +kernel
theorem dX2_timesIn_21 : decode cX2_timesIn 21 = .ok (.irem, 1) := by decide +kernel
theorem dX2_timesIn_22 : decode cX2_timesIn 22 = .ok (.ifCond .ne 13, 3) := by decide +kernel
theorem dX2_timesIn_25 : decode cX2_timesIn 25 = .ok (.iload_n 2, 1) := by decide +kernel
theorem dX2_timesIn_26 : decode cX2_timesIn 26 = .ok (.iload_n 0, 1) := by decide +kernel
theorem dX2_timesIn_27 : decode cX2_timesIn 27 = .ok (.idiv, 1) := by decide +kernel
theorem dX2_timesIn_28 : decode cX2_timesIn 28 = .ok (.istore_n 2, 1) := by decide +kernel
theorem dX2_timesIn_29 : decode cX2_timesIn 29 = .ok (.iinc 3 1, 3) := by decide +kernel
theorem dX2_timesIn_32 : decode cX2_timesIn 32 = .ok (.goto (-28), 3) := by decide +kernel
theorem dX2_timesIn_35 : decode cX2_timesIn 35 = .ok (.iload_n 3, 1) := by decide +kernel
theorem dX2_timesIn_36 : decode cX2_timesIn 36 = .ok (.ireturn, 1) := by decide +kernel
