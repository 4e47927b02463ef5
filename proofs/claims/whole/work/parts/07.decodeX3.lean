theorem dX3_init_0 : decode cX3_init 0 = .ok (.aload_n 0, 1) := by decide +kernel
theorem dX3_init_1 : decode cX3_init 1 = .ok (.invokespecial 1, 3) := by decide +kernel
theorem dX3_init_4 : decode cX3_init 4 = .ok (.aload_n 0, 1) := by decide +kernel
theorem dX3_init_5 : decode cX3_init 5 = .ok (.iconst 3, 1) := by decide +kernel
theorem dX3_init_6 : decode cX3_init 6 = .ok (.newarray .int, 2) := by decide +kernel
theorem dX3_init_8 : decode cX3_init 8 = .ok (.putfield 7, 3) := by decide +kernel
theorem dX3_init_11 : decode cX3_init 11 = .ok (.aload_n 0, 1) := by decide +kernel
theorem dX3_init_12 : decode cX3_init 12 = .ok (.bipush 32, 2) := by decide +kernel
theorem dX3_init_14 : decode cX3_init 14 = .ok (.newarray .int, 2) := by decide +kernel
theorem dX3_init_16 : decode cX3_init 16 = .ok (.putfield 13, 3) := by decide +kernel
theorem dX3_init_19 : decode cX3_init 19 = .ok (.aload_n 0, 1) := by decide +kernel
theorem dX3_init_20 : decode cX3_init 20 = .ok (.bipush 32, 2) := by decide +kernel
theorem dX3_init_22 : decode cX3_init 22 = .ok (.newarray .int, 2) := by decide +kernel
theorem dX3_init_24 : decode cX3_init 24 = .ok (.putfield 16, 3) := by decide +kernel
theorem dX3_init_27 : decode cX3_init 27 = .ok (.aload_n 0, 1) := by decide +kernel
theorem dX3_init_28 : decode cX3_init 28 = .ok (.iconst 3, 1) := by decide +kernel
theorem dX3_init_29 : decode cX3_init 29 = .ok (.newarray .int, 2) := by decide +kernel
theorem dX3_init_31 : decode cX3_init 31 = .ok (.putfield 19, 3) := by decide +kernel
theorem dX3_init_34 : decode cX3_init 34 = .ok (.aload_n 0, 1) := by decide +kernel
theorem dX3_init_35 : decode cX3_init 35 = .ok (.iconst 5, 1) := by decide +kernel
theorem dX3_init_36 : decode cX3_init 36 = .ok (.newarray .int, 2) := by decide +kernel
theorem dX3_init_38 : decode cX3_init 38 = .ok (.putfield 22, 3) := by decide +kernel
theorem dX3_init_41 : decode cX3_init 41 = .ok (.aload_n 0, 1) := by decide +kernel
theorem dX3_init_42 : decode cX3_init 42 = .ok (.iconst 5, 1) := by decide +kernel
theorem dX3_init_43 : decode cX3_init 43 = .ok (.newarray .int, 2) := by decide +kernel
theorem dX3_init_45 : decode cX3_init 45 = .ok (.putfield 25, 3) := by decide +kernel
theorem dX3_init_48 : decode cX3_init 48 = .ok (.return_, 1) := by decide +kernel
theorem dX3_thrown_0 : decode cX3_thrown 0 = .ok (.aload_n 0, 1) := by decide +kernel
theorem dX3_thrown_1 : decode cX3_thrown 1 = .ok (.getfield 28, 3) := by decide +kernel
theorem dX3_thrown_4 : decode cX3_thrown 4 = .ok (.ireturn, 1) := by decide +kernel
theorem dX3_raise_0 : decode cX3_raise 0 = .ok (.aload_n 0, 1) := by decide +kernel
theorem dX3_raise_1 : decode cX3_raise 1 = .ok (.iload_n 1, 1) := by decide +kernel
theorem dX3_raise_2 : decode cX3_raise 2 = .ok (.putfield 28, 3) := by decide +kernel
theorem dX3_raise_5 : decode cX3_raise 5 = .ok (.iconst 0, 1) := by decide +kernel
theorem dX3_raise_6 : decode cX3_raise 6 = .ok (.ireturn, 1) := by decide +kernel
theorem dX3_in_0 : decode cX3_in 0 = .ok (.iload_n 0, 1) := by decide +kernel
theorem dX3_in_1 : decode cX3_in 1 = .ok (.iload_n 1, 1) := by decide +kernel
theorem dX3_in_2 : decode cX3_in 2 = .ok (.if_icmp .lt 12, 3) := by decide +kernel
theorem dX3_in_5 : decode cX3_in 5 = .ok (.iload_n 0, 1) := by decide +kernel
theorem dX3_in_6 : decode cX3_in 6 = .ok (.iload_n 2, 1) := by decide +kernel
theorem dX3_in_7 : decode cX3_in 7 = .ok (.if_icmp .gt 7, 3) := by decide +kernel
theorem dX3_in_10 : decode cX3_in 10 = .ok (.iconst 1, 1) := by decide +kernel
theorem dX3_in_11 : decode cX3_in 11 = .ok (.goto 4, 3) := by decide +kernel
theorem dX3_in_14 : decode cX3_in 14 = .ok (.iconst 0, 1) := by decide +kernel
theorem dX3_in_15 : decode cX3_in 15 = .ok (.ireturn, 1) := by decide +kernel
theorem dX3_cut_0 : decode cX3_cut 0 = .ok (.iconst 0, 1) := by decide +kernel
theorem dX3_cut_1 : decode cX3_cut 1 = .ok (.istore_n 2, 1) := by decide +kernel
theorem dX3_cut_2 : decode cX3_cut 2 = .ok (.iload_n 2, 1) := by decide +kernel
theorem dX3_cut_3 : decode cX3_cut 3 = .ok (.aload_n 0, 1) := by decide +kernel
theorem dX3_cut_4 : decode cX3_cut 4 = .ok (.getfield 32, 3) := by decide +kernel
theorem dX3_cut_7 : decode cX3_cut 7 = .ok (.if_icmp .ge 19, 3) := by decide +kernel
theorem dX3_cut_10 : decode cX3_cut 10 = .ok (.aload_n 0, 1) := by decide +kernel
theorem dX3_cut_11 : decode cX3_cut 11 = .ok (.getfield 7, 3) := by decide +kernel
theorem dX3_cut_14 : decode cX3_cut 14 = .ok (.iload_n 2, 1) := by decide +kernel
theorem dX3_cut_15 : decode cX3_cut 15 = .ok (.iaload, 1) := by decide +kernel
theorem dX3_cut_16 : decode cX3_cut 16 = .ok (.iload_n 1, 1) := by decide +kernel
theorem dX3_cut_17 : decode cX3_cut 17 = .ok (.if_icmp .ge 9, 3) := by decide +kernel
theorem dX3_cut_20 : decode cX3_cut 20 = .ok (.iinc 2 1, 3) := by decide +kernel
theorem dX3_cut_23 : decode cX3_cut 23 = .ok (.goto (-21), 3) := by decide +kernel
theorem dX3_cut_26 : decode cX3_cut 26 = .ok (.iload_n 2, 1) := by decide +kernel
theorem dX3_cut_27 : decode cX3_cut 27 = .ok (.aload_n 0, 1) := by decide +kernel
theorem dX3_cut_28 : decode cX3_cut 28 = .ok (.getfield 32, 3) := by decide +kernel
theorem dX3_cut_31 : decode cX3_cut 31 = .ok (.if_icmp .ge 17, 3) := by decide +kernel
theorem dX3_cut_34 : decode cX3_cut 34 = .ok (.aload_n 0, 1) := by decide +kernel
theorem dX3_cut_35 : decode cX3_cut 35 = .ok (.getfield 7, 3) := by decide +kernel
theorem dX3_cut_38 : decode cX3_cut 38 = .ok (.iload_n 2, 1) := by decide +kernel
theorem dX3_cut_39 : decode cX3_cut 39 = .ok (.iaload, 1) := by decide +kernel
theorem dX3_cut_40 : decode cX3_cut 40 = .ok (.iload_n 1, 1) := by decide +kernel
theorem dX3_cut_41 : decode cX3_cut 41 = .ok (.if_icmp .ne 7, 3) := by decide +kernel
theorem dX3_cut_44 : decode cX3_cut 44 = .ok (.iconst 1, 1) := by decide +kernel
theorem dX3_cut_45 : decode cX3_cut 45 = .ok (.goto 4, 3) := by decide +kernel
theorem dX3_cut_48 : decode cX3_cut 48 = .ok (.iconst 0, 1) := by decide +kernel
theorem dX3_cut_49 : decode cX3_cut 49 = .ok (.istore_n 3, 1) := by decide +kernel
theorem dX3_cut_50 : decode cX3_cut 50 = .ok (.aload_n 0, 1) := by decide +kernel
theorem dX3_cut_51 : decode cX3_cut 51 = .ok (.iload_n 1, 1) := by decide +kernel
theorem dX3_cut_52 : decode cX3_cut 52 = .ok (.bipush (-6), 2) := by decide +kernel
theorem dX3_cut_54 : decode cX3_cut 54 = .ok (.bipush 6, 2) := by decide +kernel
theorem dX3_cut_56 : decode cX3_cut 56 = .ok (.invokestatic 35, 3) := by decide +kernel
theorem dX3_cut_59 : decode cX3_cut 59 = .ok (.ifCond .eq 7, 3) := by decide +kernel
theorem dX3_cut_62 : decode cX3_cut 62 = .ok (.iload_n 3, 1) := by decide +kernel
theorem dX3_cut_63 : decode cX3_cut 63 = .ok (.ifCond .eq 7, 3) := by decide +kernel
theorem dX3_cut_66 : decode cX3_cut 66 = .ok (.iconst 1, 1) := by decide +kernel
theorem dX3_cut_67 : decode cX3_cut 67 = .ok (.goto 16, 3) := by decide +kernel
theorem dX3_cut_70 : decode cX3_cut 70 = .ok (.aload_n 0, 1) := by decide +kernel
theorem dX3_cut_71 : decode cX3_cut 71 = .ok (.getfield 32, 3) := by decide +kernel
theorem dX3_cut_74 : decode cX3_cut 74 = .ok (.iconst 3, 1) := by decide +kernel
theorem dX3_cut_75 : decode cX3_cut 75 = .ok (.if_icmp .ne 7, 3) := by decide +kernel
theorem dX3_cut_78 : decode cX3_cut 78 = .ok (.iconst 2, 1) := by decide +kernel
theorem dX3_cut_79 : decode cX3_cut 79 = .ok (.goto 4, 3) := by decide +kernel
theorem dX3_cut_82 : decode cX3_cut 82 = .ok (.iconst 0, 1) := by decide +kernel
theorem dX3_cut_83 : decode cX3_cut 83 = .ok (.putfield 28, 3) := by decide +kernel
theorem dX3_cut_86 : decode cX3_cut 86 = .ok (.aload_n 0, 1) := by decide +kernel
theorem dX3_cut_87 : decode cX3_cut 87 = .ok (.getfield 28, 3) := by decide +kernel
theorem dX3_cut_90 : decode cX3_cut 90 = .ok (.ifCond .le 5, 3) := by decide +kernel
theorem dX3_cut_93 : decode cX3_cut 93 = .ok (.iconst 0, 1) := by decide +kernel
theorem dX3_cut_94 : decode cX3_cut 94 = .ok (.ireturn, 1) := by decide +kernel
theorem dX3_cut_95 : decode cX3_cut 95 = .ok (.aload_n 0, 1) := by decide +kernel
theorem dX3_cut_96 : decode cX3_cut 96 = .ok (.getfield 32, 3) := by decide +kernel
theorem dX3_cut_99 : decode cX3_cut 99 = .ok (.istore 4, 2) := by decide +kernel
theorem dX3_cut_101 : decode cX3_cut 101 = .ok (.iload 4, 2) := by decide +kernel
theorem dX3_cut_103 : decode cX3_cut 103 = .ok (.iload_n 2, 1) := by decide +kernel
theorem dX3_cut_104 : decode cX3_cut 104 = .ok (.if_icmp .le 25, 3) := by decide +kernel
theorem dX3_cut_107 : decode cX3_cut 107 = .ok (.aload_n 0, 1) := by decide +kernel
theorem dX3_cut_108 : decode cX3_cut 108 = .ok (.getfield 7, 3) := by decide +kernel
theorem dX3_cut_111 : decode cX3_cut 111 = .ok (.iload 4, 2) := by decide +kernel
theorem dX3_cut_113 : decode cX3_cut 113 = .ok (.aload_n 0, 1) := by decide +kernel
theorem dX3_cut_114 : decode cX3_cut 114 = .ok (.getfield 7, 3) := by decide +kernel
theorem dX3_cut_117 : decode cX3_cut 117 = .ok (.iload 4, 2) := by decide +kernel
theorem dX3_cut_119 : decode cX3_cut 119 = .ok (.iconst 1, 1) := by decide +kernel
theorem dX3_cut_120 : decode cX3_cut 120 = .ok (.isub, 1) := by decide +kernel
theorem dX3_cut_121 : decode cX3_cut 121 = .ok (.iaload, 1) := by decide +kernel
theorem dX3_cut_122 : decode cX3_cut 122 = .ok (.iastore, 1) := by decide +kernel
theorem dX3_cut_123 : decode cX3_cut 123 = .ok (.iinc 4 (-1), 3) := by decide +kernel
theorem dX3_cut_126 : decode cX3_cut 126 = .ok (.goto (-25), 3) := by decide +kernel
theorem dX3_cut_129 : decode cX3_cut 129 = .ok (.aload_n 0, 1) := by decide +kernel
theorem dX3_cut_130 : decode cX3_cut 130 = .ok (.getfield 7, 3) := by decide +kernel
theorem dX3_cut_133 : decode cX3_cut 133 = .ok (.iload_n 2, 1) := by decide +kernel
theorem dX3_cut_134 : decode cX3_cut 134 = .ok (.iload_n 1, 1) := by decide +kernel
theorem dX3_cut_135 : decode cX3_cut 135 = .ok (.iastore, 1) := by decide +kernel
theorem dX3_cut_136 : decode cX3_cut 136 = .ok (.aload_n 0, 1) := by decide +kernel
theorem dX3_cut_137 : decode cX3_cut 137 = .ok (.dup, 1) := by decide +kernel
theorem dX3_cut_138 : decode cX3_cut 138 = .ok (.getfield 32, 3) := by decide +kernel
theorem dX3_cut_141 : decode cX3_cut 141 = .ok (.iconst 1, 1) := by decide +kernel
theorem dX3_cut_142 : decode cX3_cut 142 = .ok (.iadd, 1) := by decide +kernel
theorem dX3_cut_143 : decode cX3_cut 143 = .ok (.putfield 32, 3) := by decide +kernel
theorem dX3_cut_146 : decode cX3_cut 146 = .ok (.bipush 8, 2) := by decide +kernel
theorem dX3_cut_148 : decode cX3_cut 148 = .ok (.aload_n 0, 1) := by decide +kernel
theorem dX3_cut_149 : decode cX3_cut 149 = .ok (.getfield 32, 3) := by decide +kernel
theorem dX3_cut_152 : decode cX3_cut 152 = .ok (.imul, 1) := by decide +kernel
theorem dX3_cut_153 : decode cX3_cut 153 = .ok (.bipush 7, 2) := by decide +kernel
theorem dX3_cut_155 : decode cX3_cut 155 = .ok (.iadd, 1) := by decide +kernel
theorem dX3_cut_156 : decode cX3_cut 156 = .ok (.istore 4, 2) := by decide +kernel
theorem dX3_cut_158 : decode cX3_cut 158 = .ok (.iload 4, 2) := by decide +kernel
theorem dX3_cut_160 : decode cX3_cut 160 = .ok (.bipush 8, 2) := by decide +kernel
theorem dX3_cut_162 : decode cX3_cut 162 = .ok (.iload_n 2, 1) := by decide +kernel
theorem dX3_cut_163 : decode cX3_cut 163 = .ok (.imul, 1) := by decide +kernel
theorem dX3_cut_164 : decode cX3_cut 164 = .ok (.bipush 8, 2) := by decide +kernel
theorem dX3_cut_166 : decode cX3_cut 166 = .ok (.iadd, 1) := by decide +kernel
theorem dX3_cut_167 : decode cX3_cut 167 = .ok (.if_icmp .lt 26, 3) := by decide +kernel
theorem dX3_cut_170 : decode cX3_cut 170 = .ok (.aload_n 0, 1) := by decide +kernel
theorem dX3_cut_171 : decode cX3_cut 171 = .ok (.getfield 13, 3) := by decide +kernel
theorem dX3_cut_174 : decode cX3_cut 174 = .ok (.iload 4, 2) := by decide +kernel
theorem dX3_cut_176 : decode cX3_cut 176 = .ok (.aload_n 0, 1) := by decide +kernel
theorem dX3_cut_177 : decode cX3_cut 177 = .ok (.getfield 13, 3) := by decide +kernel
theorem dX3_cut_180 : decode cX3_cut 180 = .ok (.iload 4, 2) := by decide +kernel
theorem dX3_cut_182 : decode cX3_cut 182 = .ok (.bipush 8, 2) := by decide +kernel
theorem dX3_cut_184 : decode cX3_cut 184 = .ok (.isub, 1) := by decide +kernel
theorem dX3_cut_185 : decode cX3_cut 185 = .ok (.iaload, 1) := by decide +kernel
theorem dX3_cut_186 : decode cX3_cut 186 = .ok (.iastore, 1) := by decide +kernel
theorem dX3_cut_187 : decode cX3_cut 187 = .ok (.iinc 4 (-1), 3) := by decide +kernel
theorem dX3_cut_190 : decode cX3_cut 190 = .ok (.goto (-32), 3) := by decide +kernel
theorem dX3_cut_193 : decode cX3_cut 193 = .ok (.iload_n 2, 1) := by decide +kernel
theorem dX3_cut_194 : decode cX3_cut 194 = .ok (.ireturn, 1) := by decide +kernel
theorem dX3_join_0 : decode cX3_join 0 = .ok (.aload_n 0, 1) := by decide +kernel
theorem dX3_join_1 : decode cX3_join 1 = .ok (.iload_n 1, 1) := by decide +kernel
theorem dX3_join_2 : decode cX3_join 2 = .ok (.iconst 0, 1) := by decide +kernel
theorem dX3_join_3 : decode cX3_join 3 = .ok (.aload_n 0, 1) := by decide +kernel
theorem dX3_join_4 : decode cX3_join 4 = .ok (.getfield 32, 3) := by decide +kernel
theorem dX3_join_7 : decode cX3_join 7 = .ok (.iconst 1, 1) := by decide +kernel
theorem dX3_join_8 : decode cX3_join 8 = .ok (.isub, 1) := by decide +kernel
theorem dX3_join_9 : decode cX3_join 9 = .ok (.invokestatic 35, 3) := by decide +kernel
theorem dX3_join_12 : decode cX3_join 12 = .ok (.ifCond .eq 7, 3) := by decide +kernel
theorem dX3_join_15 : decode cX3_join 15 = .ok (.iconst 0, 1) := by decide +kernel
theorem dX3_join_16 : decode cX3_join 16 = .ok (.goto 4, 3) := by decide +kernel
theorem dX3_join_19 : decode cX3_join 19 = .ok (.iconst 1, 1) := by decide +kernel
theorem dX3_join_20 : decode cX3_join 20 = .ok (.putfield 28, 3) := by decide +kernel
theorem dX3_join_23 : decode cX3_join 23 = .ok (.aload_n 0, 1) := by decide +kernel
theorem dX3_join_24 : decode cX3_join 24 = .ok (.getfield 28, 3) := by decide +kernel
theorem dX3_join_27 : decode cX3_join 27 = .ok (.ifCond .le 4, 3) := by decide +kernel
theorem dX3_join_30 : decode cX3_join 30 = .ok (.return_, 1) := by decide +kernel
theorem dX3_join_31 : decode cX3_join 31 = .ok (.aload_n 0, 1) := by decide +kernel
theorem dX3_join_32 : decode cX3_join 32 = .ok (.dup, 1) := by decide +kernel
theorem dX3_join_33 : decode cX3_join 33 = .ok (.getfield 32, 3) := by decide +kernel
theorem dX3_join_36 : decode cX3_join 36 = .ok (.iconst 1, 1) := by decide +kernel
theorem dX3_join_37 : decode cX3_join 37 = .ok (.isub, 1) := by decide +kernel
theorem dX3_join_38 : decode cX3_join 38 = .ok (.putfield 32, 3) := by decide +kernel
theorem dX3_join_41 : decode cX3_join 41 = .ok (.iload_n 1, 1) := by decide +kernel
theorem dX3_join_42 : decode cX3_join 42 = .ok (.istore_n 2, 1) := by decide +kernel
theorem dX3_join_43 : decode cX3_join 43 = .ok (.iload_n 2, 1) := by decide +kernel
theorem dX3_join_44 : decode cX3_join 44 = .ok (.aload_n 0, 1) := by decide +kernel
theorem dX3_join_45 : decode cX3_join 45 = .ok (.getfield 32, 3) := by decide +kernel
theorem dX3_join_48 : decode cX3_join 48 = .ok (.if_icmp .ge 23, 3) := by decide +kernel
theorem dX3_join_51 : decode cX3_join 51 = .ok (.aload_n 0, 1) := by decide +kernel
theorem dX3_join_52 : decode cX3_join 52 = .ok (.getfield 7, 3) := by decide +kernel
theorem dX3_join_55 : decode cX3_join 55 = .ok (.iload_n 2, 1) := by decide +kernel
theorem dX3_join_56 : decode cX3_join 56 = .ok (.aload_n 0, 1) := by decide +kernel
theorem dX3_join_57 : decode cX3_join 57 = .ok (.getfield 7, 3) := by decide +kernel
theorem dX3_join_60 : decode cX3_join 60 = .ok (.iload_n 2, 1) := by decide +kernel
theorem dX3_join_61 : decode cX3_join 61 = .ok (.iconst 1, 1) := by decide +kernel
theorem dX3_join_62 : decode cX3_join 62 = .ok (.iadd, 1) := by decide +kernel
theorem dX3_join_63 : decode cX3_join 63 = .ok (.iaload, 1) := by decide +kernel
theorem dX3_join_64 : decode cX3_join 64 = .ok (.iastore, 1) := by decide +kernel
theorem dX3_join_65 : decode cX3_join 65 = .ok (.iinc 2 1, 3) := by decide +kernel
theorem dX3_join_68 : decode cX3_join 68 = .ok (.goto (-25), 3) := by decide +kernel
theorem dX3_join_71 : decode cX3_join 71 = .ok (.bipush 8, 2) := by decide +kernel
theorem dX3_join_73 : decode cX3_join 73 = .ok (.iload_n 1, 1) := by decide +kernel
theorem dX3_join_74 : decode cX3_join 74 = .ok (.imul, 1) := by decide +kernel
theorem dX3_join_75 : decode cX3_join 75 = .ok (.bipush 8, 2) := by decide +kernel
theorem dX3_join_77 : decode cX3_join 77 = .ok (.iadd, 1) := by decide +kernel
theorem dX3_join_78 : decode cX3_join 78 = .ok (.istore_n 2, 1) := by decide +kernel
theorem dX3_join_79 : decode cX3_join 79 = .ok (.iload_n 2, 1) := by decide +kernel
theorem dX3_join_80 : decode cX3_join 80 = .ok (.bipush 8, 2) := by decide +kernel
theorem dX3_join_82 : decode cX3_join 82 = .ok (.aload_n 0, 1) := by decide +kernel
theorem dX3_join_83 : decode cX3_join 83 = .ok (.getfield 32, 3) := by decide +kernel
theorem dX3_join_86 : decode cX3_join 86 = .ok (.imul, 1) := by decide +kernel
theorem dX3_join_87 : decode cX3_join 87 = .ok (.bipush 8, 2) := by decide +kernel
theorem dX3_join_89 : decode cX3_join 89 = .ok (.iadd, 1) := by decide +kernel
theorem dX3_join_90 : decode cX3_join 90 = .ok (.if_icmp .ge 24, 3) := by decide +kernel
theorem dX3_join_93 : decode cX3_join 93 = .ok (.aload_n 0, 1) := by decide +kernel
theorem dX3_join_94 : decode cX3_join 94 = .ok (.getfield 13, 3) := by decide +kernel
theorem dX3_join_97 : decode cX3_join 97 = .ok (.iload_n 2, 1) := by decide +kernel
theorem dX3_join_98 : decode cX3_join 98 = .ok (.aload_n 0, 1) := by decide +kernel
theorem dX3_join_99 : decode cX3_join 99 = .ok (.getfield 13, 3) := by decide +kernel
theorem dX3_join_102 : decode cX3_join 102 = .ok (.iload_n 2, 1) := by decide +kernel
theorem dX3_join_103 : decode cX3_join 103 = .ok (.bipush 8, 2) := by decide +kernel
theorem dX3_join_105 : decode cX3_join 105 = .ok (.iadd, 1) := by decide +kernel
theorem dX3_join_106 : decode cX3_join 106 = .ok (.iaload, 1) := by decide +kernel
theorem dX3_join_107 : decode cX3_join 107 = .ok (.iastore, 1) := by decide +kernel
theorem dX3_join_108 : decode cX3_join 108 = .ok (.iinc 2 1, 3) := by decide +kernel
theorem dX3_join_111 : decode cX3_join 111 = .ok (.goto (-32), 3) := by decide +kernel
theorem dX3_join_114 : decode cX3_join 114 = .ok (.return_, 1) := by decide +kernel
theorem dX3_put_0 : decode cX3_put 0 = .ok (.aload_n 0, 1) := by decide +kernel
theorem dX3_put_1 : decode cX3_put 1 = .ok (.iload_n 1, 1) := by decide +kernel
theorem dX3_put_2 : decode cX3_put 2 = .ok (.iconst 0, 1) := by decide +kernel
theorem dX3_put_3 : decode cX3_put 3 = .ok (.aload_n 0, 1) := by decide +kernel
theorem dX3_put_4 : decode cX3_put 4 = .ok (.getfield 32, 3) := by decide +kernel
theorem dX3_put_7 : decode cX3_put 7 = .ok (.invokestatic 35, 3) := by decide +kernel
theorem dX3_put_10 : decode cX3_put 10 = .ok (.ifCond .ne 7, 3) := by decide +kernel
theorem dX3_put_13 : decode cX3_put 13 = .ok (.iconst 1, 1) := by decide +kernel
theorem dX3_put_14 : decode cX3_put 14 = .ok (.goto 50, 3) := by decide +kernel
theorem dX3_put_17 : decode cX3_put 17 = .ok (.iload_n 2, 1) := by decide +kernel
theorem dX3_put_18 : decode cX3_put 18 = .ok (.iconst 0, 1) := by decide +kernel
theorem dX3_put_19 : decode cX3_put 19 = .ok (.bipush 7, 2) := by decide +kernel
theorem dX3_put_21 : decode cX3_put 21 = .ok (.invokestatic 35, 3) := by decide +kernel
theorem dX3_put_24 : decode cX3_put 24 = .ok (.ifCond .eq 35, 3) := by decide +kernel
theorem dX3_put_27 : decode cX3_put 27 = .ok (.iload_n 3, 1) := by decide +kernel
theorem dX3_put_28 : decode cX3_put 28 = .ok (.iload_n 2, 1) := by decide +kernel
theorem dX3_put_29 : decode cX3_put 29 = .ok (.bipush 7, 2) := by decide +kernel
theorem dX3_put_31 : decode cX3_put 31 = .ok (.if_icmp .ne 8, 3) := by decide +kernel
theorem dX3_put_34 : decode cX3_put 34 = .ok (.bipush (-6), 2) := by decide +kernel
theorem dX3_put_36 : decode cX3_put 36 = .ok (.goto 5, 3) := by decide +kernel
theorem dX3_put_39 : decode cX3_put 39 = .ok (.bipush (-5), 2) := by decide +kernel
theorem dX3_put_41 : decode cX3_put 41 = .ok (.iload_n 2, 1) := by decide +kernel
theorem dX3_put_42 : decode cX3_put 42 = .ok (.bipush 7, 2) := by decide +kernel
theorem dX3_put_44 : decode cX3_put 44 = .ok (.if_icmp .ne 8, 3) := by decide +kernel
theorem dX3_put_47 : decode cX3_put 47 = .ok (.bipush 6, 2) := by decide +kernel
theorem dX3_put_49 : decode cX3_put 49 = .ok (.goto 4, 3) := by decide +kernel
theorem dX3_put_52 : decode cX3_put 52 = .ok (.iconst 5, 1) := by decide +kernel
theorem dX3_put_53 : decode cX3_put 53 = .ok (.invokestatic 35, 3) := by decide +kernel
theorem dX3_put_56 : decode cX3_put 56 = .ok (.ifCond .ne 7, 3) := by decide +kernel
theorem dX3_put_59 : decode cX3_put 59 = .ok (.iconst 2, 1) := by decide +kernel
theorem dX3_put_60 : decode cX3_put 60 = .ok (.goto 4, 3) := by decide +kernel
theorem dX3_put_63 : decode cX3_put 63 = .ok (.iconst 0, 1) := by decide +kernel
theorem dX3_put_64 : decode cX3_put 64 = .ok (.putfield 28, 3) := by decide +kernel
theorem dX3_put_67 : decode cX3_put 67 = .ok (.aload_n 0, 1) := by decide +kernel
theorem dX3_put_68 : decode cX3_put 68 = .ok (.getfield 28, 3) := by decide +kernel
theorem dX3_put_71 : decode cX3_put 71 = .ok (.ifCond .le 5, 3) := by decide +kernel
theorem dX3_put_74 : decode cX3_put 74 = .ok (.iconst 0, 1) := by decide +kernel
theorem dX3_put_75 : decode cX3_put 75 = .ok (.ireturn, 1) := by decide +kernel
theorem dX3_put_76 : decode cX3_put 76 = .ok (.aload_n 0, 1) := by decide +kernel
theorem dX3_put_77 : decode cX3_put 77 = .ok (.getfield 13, 3) := by decide +kernel
theorem dX3_put_80 : decode cX3_put 80 = .ok (.bipush 8, 2) := by decide +kernel
theorem dX3_put_82 : decode cX3_put 82 = .ok (.iload_n 1, 1) := by decide +kernel
theorem dX3_put_83 : decode cX3_put 83 = .ok (.imul, 1) := by decide +kernel
theorem dX3_put_84 : decode cX3_put 84 = .ok (.iload_n 2, 1) := by decide +kernel
theorem dX3_put_85 : decode cX3_put 85 = .ok (.iadd, 1) := by decide +kernel
theorem dX3_put_86 : decode cX3_put 86 = .ok (.iaload, 1) := by decide +kernel
theorem dX3_put_87 : decode cX3_put 87 = .ok (.iload_n 3, 1) := by decide +kernel
theorem dX3_put_88 : decode cX3_put 88 = .ok (.if_icmp .eq 7, 3) := by decide +kernel
theorem dX3_put_91 : decode cX3_put 91 = .ok (.iconst 1, 1) := by decide +kernel
theorem dX3_put_92 : decode cX3_put 92 = .ok (.goto 4, 3) := by decide +kernel
theorem dX3_put_95 : decode cX3_put 95 = .ok (.iconst 0, 1) := by decide +kernel
theorem dX3_put_96 : decode cX3_put 96 = .ok (.istore 4, 2) := by decide +kernel
theorem dX3_put_98 : decode cX3_put 98 = .ok (.aload_n 0, 1) := by decide +kernel
theorem dX3_put_99 : decode cX3_put 99 = .ok (.getfield 13, 3) := by decide +kernel
theorem dX3_put_102 : decode cX3_put 102 = .ok (.bipush 8, 2) := by decide +kernel
theorem dX3_put_104 : decode cX3_put 104 = .ok (.iload_n 1, 1) := by decide +kernel
theorem dX3_put_105 : decode cX3_put 105 = .ok (.imul, 1) := by decide +kernel
theorem dX3_put_106 : decode cX3_put 106 = .ok (.iload_n 2, 1) := by decide +kernel
theorem dX3_put_107 : decode cX3_put 107 = .ok (.iadd, 1) := by decide +kernel
theorem dX3_put_108 : decode cX3_put 108 = .ok (.iload_n 3, 1) := by decide +kernel
theorem dX3_put_109 : decode cX3_put 109 = .ok (.iastore, 1) := by decide +kernel
theorem dX3_put_110 : decode cX3_put 110 = .ok (.iload 4, 2) := by decide +kernel
theorem dX3_put_112 : decode cX3_put 112 = .ok (.ireturn, 1) := by decide +kernel
theorem dX3_at_0 : decode cX3_at 0 = .ok (.aload_n 0, 1) := by decide +kernel
theorem dX3_at_1 : decode cX3_at 1 = .ok (.iload_n 1, 1) := by decide +kernel
theorem dX3_at_2 : decode cX3_at 2 = .ok (.iconst 0, 1) := by decide +kernel
theorem dX3_at_3 : decode cX3_at 3 = .ok (.aload_n 0, 1) := by decide +kernel
theorem dX3_at_4 : decode cX3_at 4 = .ok (.getfield 32, 3) := by decide +kernel
theorem dX3_at_7 : decode cX3_at 7 = .ok (.invokestatic 35, 3) := by decide +kernel
theorem dX3_at_10 : decode cX3_at 10 = .ok (.ifCond .ne 7, 3) := by decide +kernel
theorem dX3_at_13 : decode cX3_at 13 = .ok (.iconst 1, 1) := by decide +kernel
theorem dX3_at_14 : decode cX3_at 14 = .ok (.goto 18, 3) := by decide +kernel
theorem dX3_at_17 : decode cX3_at 17 = .ok (.iload_n 2, 1) := by decide +kernel
theorem dX3_at_18 : decode cX3_at 18 = .ok (.iconst 0, 1) := by decide +kernel
theorem dX3_at_19 : decode cX3_at 19 = .ok (.bipush 7, 2) := by decide +kernel
theorem dX3_at_21 : decode cX3_at 21 = .ok (.invokestatic 35, 3) := by decide +kernel
theorem dX3_at_24 : decode cX3_at 24 = .ok (.ifCond .eq 7, 3) := by decide +kernel
theorem dX3_at_27 : decode cX3_at 27 = .ok (.iconst 0, 1) := by decide +kernel
theorem dX3_at_28 : decode cX3_at 28 = .ok (.goto 4, 3) := by decide +kernel
theorem dX3_at_31 : decode cX3_at 31 = .ok (.iconst 2, 1) := by decide +kernel
theorem dX3_at_32 : decode cX3_at 32 = .ok (.putfield 28, 3) := by decide +kernel
theorem dX3_at_35 : decode cX3_at 35 = .ok (.aload_n 0, 1) := by decide +kernel
theorem dX3_at_36 : decode cX3_at 36 = .ok (.getfield 28, 3) := by decide +kernel
theorem dX3_at_39 : decode cX3_at 39 = .ok (.ifCond .le 7, 3) := by decide +kernel
theorem dX3_at_42 : decode cX3_at 42 = .ok (.iconst 0, 1) := by decide +kernel
theorem dX3_at_43 : decode cX3_at 43 = .ok (.goto 14, 3) := by decide +kernel
theorem dX3_at_46 : decode cX3_at 46 = .ok (.aload_n 0, 1) := by decide +kernel
theorem dX3_at_47 : decode cX3_at 47 = .ok (.getfield 13, 3) := by decide +kernel
theorem dX3_at_50 : decode cX3_at 50 = .ok (.bipush 8, 2) := by decide +kernel
theorem dX3_at_52 : decode cX3_at 52 = .ok (.iload_n 1, 1) := by decide +kernel
theorem dX3_at_53 : decode cX3_at 53 = .ok (.imul, 1) := by decide +kernel
theorem dX3_at_54 : decode cX3_at 54 = .ok (.iload_n 2, 1) := by decide +kernel
theorem dX3_at_55 : decode cX3_at 55 = .ok (.iadd, 1) := by decide +kernel
theorem dX3_at_56 : decode cX3_at 56 = .ok (.iaload, 1) := by decide +kernel
theorem dX3_at_57 : decode cX3_at 57 = .ok (.ireturn, 1) := by decide +kernel
theorem dX3_place_0 : decode cX3_place 0 = .ok (.aload_n 0, 1) := by decide +kernel
theorem dX3_place_1 : decode cX3_place 1 = .ok (.iload_n 1, 1) := by decide +kernel
theorem dX3_place_2 : decode cX3_place 2 = .ok (.iconst 0, 1) := by decide +kernel
theorem dX3_place_3 : decode cX3_place 3 = .ok (.aload_n 0, 1) := by decide +kernel
theorem dX3_place_4 : decode cX3_place 4 = .ok (.getfield 32, 3) := by decide +kernel
theorem dX3_place_7 : decode cX3_place 7 = .ok (.iconst 1, 1) := by decide +kernel
theorem dX3_place_8 : decode cX3_place 8 = .ok (.isub, 1) := by decide +kernel
theorem dX3_place_9 : decode cX3_place 9 = .ok (.invokestatic 35, 3) := by decide +kernel
theorem dX3_place_12 : decode cX3_place 12 = .ok (.ifCond .eq 7, 3) := by decide +kernel
theorem dX3_place_15 : decode cX3_place 15 = .ok (.iconst 0, 1) := by decide +kernel
theorem dX3_place_16 : decode cX3_place 16 = .ok (.goto 4, 3) := by decide +kernel
theorem dX3_place_19 : decode cX3_place 19 = .ok (.iconst 1, 1) := by decide +kernel
theorem dX3_place_20 : decode cX3_place 20 = .ok (.putfield 28, 3) := by decide +kernel
theorem dX3_place_23 : decode cX3_place 23 = .ok (.aload_n 0, 1) := by decide +kernel
theorem dX3_place_24 : decode cX3_place 24 = .ok (.getfield 28, 3) := by decide +kernel
theorem dX3_place_27 : decode cX3_place 27 = .ok (.ifCond .le 7, 3) := by decide +kernel
theorem dX3_place_30 : decode cX3_place 30 = .ok (.iconst 0, 1) := by decide +kernel
theorem dX3_place_31 : decode cX3_place 31 = .ok (.goto 9, 3) := by decide +kernel
theorem dX3_place_34 : decode cX3_place 34 = .ok (.aload_n 0, 1) := by decide +kernel
theorem dX3_place_35 : decode cX3_place 35 = .ok (.getfield 7, 3) := by decide +kernel
theorem dX3_place_38 : decode cX3_place 38 = .ok (.iload_n 1, 1) := by decide +kernel
theorem dX3_place_39 : decode cX3_place 39 = .ok (.iaload, 1) := by decide +kernel
theorem dX3_place_40 : decode cX3_place 40 = .ok (.ireturn, 1) := by decide +kernel
theorem dX3_turned_0 : decode cX3_turned 0 = .ok (.aload_n 1, 1) := by decide +kernel
theorem dX3_turned_1 : decode cX3_turned 1 = .ok (.bipush 8, 2) := by decide +kernel
theorem dX3_turned_3 : decode cX3_turned 3 = .ok (.iload_n 2, 1) := by decide +kernel
theorem dX3_turned_4 : decode cX3_turned 4 = .ok (.imul, 1) := by decide +kernel
theorem dX3_turned_5 : decode cX3_turned 5 = .ok (.iload_n 3, 1) := by decide +kernel
theorem dX3_turned_6 : decode cX3_turned 6 = .ok (.iadd, 1) := by decide +kernel
theorem dX3_turned_7 : decode cX3_turned 7 = .ok (.iaload, 1) := by decide +kernel
theorem dX3_turned_8 : decode cX3_turned 8 = .ok (.istore 4, 2) := by decide +kernel
theorem dX3_turned_10 : decode cX3_turned 10 = .ok (.iload_n 3, 1) := by decide +kernel
theorem dX3_turned_11 : decode cX3_turned 11 = .ok (.iconst 1, 1) := by decide +kernel
theorem dX3_turned_12 : decode cX3_turned 12 = .ok (.if_icmp .eq 25, 3) := by decide +kernel
theorem dX3_turned_15 : decode cX3_turned 15 = .ok (.iload_n 3, 1) := by decide +kernel
theorem dX3_turned_16 : decode cX3_turned 16 = .ok (.iconst 3, 1) := by decide +kernel
theorem dX3_turned_17 : decode cX3_turned 17 = .ok (.if_icmp .eq 20, 3) := by decide +kernel
theorem dX3_turned_20 : decode cX3_turned 20 = .ok (.iload_n 3, 1) := by decide +kernel
theorem dX3_turned_21 : decode cX3_turned 21 = .ok (.iconst 4, 1) := by decide +kernel
theorem dX3_turned_22 : decode cX3_turned 22 = .ok (.if_icmp .eq 15, 3) := by decide +kernel
theorem dX3_turned_25 : decode cX3_turned 25 = .ok (.iload_n 3, 1) := by decide +kernel
theorem dX3_turned_26 : decode cX3_turned 26 = .ok (.bipush 6, 2) := by decide +kernel
theorem dX3_turned_28 : decode cX3_turned 28 = .ok (.if_icmp .eq 9, 3) := by decide +kernel
theorem dX3_turned_31 : decode cX3_turned 31 = .ok (.iload_n 3, 1) := by decide +kernel
theorem dX3_turned_32 : decode cX3_turned 32 = .ok (.bipush 7, 2) := by decide +kernel
theorem dX3_turned_34 : decode cX3_turned 34 = .ok (.if_icmp .ne 9, 3) := by decide +kernel
theorem dX3_turned_37 : decode cX3_turned 37 = .ok (.iload 4, 2) := by decide +kernel
theorem dX3_turned_39 : decode cX3_turned 39 = .ok (.ineg, 1) := by decide +kernel
theorem dX3_turned_40 : decode cX3_turned 40 = .ok (.goto 5, 3) := by decide +kernel
theorem dX3_turned_43 : decode cX3_turned 43 = .ok (.iload 4, 2) := by decide +kernel
theorem dX3_turned_45 : decode cX3_turned 45 = .ok (.ireturn, 1) := by decide +kernel
theorem dX3_mirror_0 : decode cX3_mirror 0 = .ok (.aload_n 0, 1) := by decide +kernel
theorem dX3_mirror_1 : decode cX3_mirror 1 = .ok (.iconst 0, 1) := by decide +kernel
theorem dX3_mirror_2 : decode cX3_mirror 2 = .ok (.putfield 28, 3) := by decide +kernel
theorem dX3_mirror_5 : decode cX3_mirror 5 = .ok (.iconst 0, 1) := by decide +kernel
theorem dX3_mirror_6 : decode cX3_mirror 6 = .ok (.istore_n 1, 1) := by decide +kernel
theorem dX3_mirror_7 : decode cX3_mirror 7 = .ok (.iload_n 1, 1) := by decide +kernel
theorem dX3_mirror_8 : decode cX3_mirror 8 = .ok (.bipush 32, 2) := by decide +kernel
theorem dX3_mirror_10 : decode cX3_mirror 10 = .ok (.if_icmp .ge 21, 3) := by decide +kernel
theorem dX3_mirror_13 : decode cX3_mirror 13 = .ok (.aload_n 0, 1) := by decide +kernel
theorem dX3_mirror_14 : decode cX3_mirror 14 = .ok (.getfield 16, 3) := by decide +kernel
theorem dX3_mirror_17 : decode cX3_mirror 17 = .ok (.iload_n 1, 1) := by decide +kernel
theorem dX3_mirror_18 : decode cX3_mirror 18 = .ok (.aload_n 0, 1) := by decide +kernel
theorem dX3_mirror_19 : decode cX3_mirror 19 = .ok (.getfield 13, 3) := by decide +kernel
theorem dX3_mirror_22 : decode cX3_mirror 22 = .ok (.iload_n 1, 1) := by decide +kernel
theorem dX3_mirror_23 : decode cX3_mirror 23 = .ok (.iaload, 1) := by decide +kernel
theorem dX3_mirror_24 : decode cX3_mirror 24 = .ok (.iastore, 1) := by decide +kernel
theorem dX3_mirror_25 : decode cX3_mirror 25 = .ok (.iinc 1 1, 3) := by decide +kernel
theorem dX3_mirror_28 : decode cX3_mirror 28 = .ok (.goto (-21), 3) := by decide +kernel
theorem dX3_mirror_31 : decode cX3_mirror 31 = .ok (.iconst 0, 1) := by decide +kernel
theorem dX3_mirror_32 : decode cX3_mirror 32 = .ok (.istore_n 1, 1) := by decide +kernel
theorem dX3_mirror_33 : decode cX3_mirror 33 = .ok (.iload_n 1, 1) := by decide +kernel
theorem dX3_mirror_34 : decode cX3_mirror 34 = .ok (.iconst 3, 1) := by decide +kernel
theorem dX3_mirror_35 : decode cX3_mirror 35 = .ok (.if_icmp .ge 21, 3) := by decide +kernel
theorem dX3_mirror_38 : decode cX3_mirror 38 = .ok (.aload_n 0, 1) := by decide +kernel
theorem dX3_mirror_39 : decode cX3_mirror 39 = .ok (.getfield 19, 3) := by decide +kernel
theorem dX3_mirror_42 : decode cX3_mirror 42 = .ok (.iload_n 1, 1) := by decide +kernel
theorem dX3_mirror_43 : decode cX3_mirror 43 = .ok (.aload_n 0, 1) := by decide +kernel
theorem dX3_mirror_44 : decode cX3_mirror 44 = .ok (.getfield 7, 3) := by decide +kernel
theorem dX3_mirror_47 : decode cX3_mirror 47 = .ok (.iload_n 1, 1) := by decide +kernel
theorem dX3_mirror_48 : decode cX3_mirror 48 = .ok (.iaload, 1) := by decide +kernel
theorem dX3_mirror_49 : decode cX3_mirror 49 = .ok (.iastore, 1) := by decide +kernel
theorem dX3_mirror_50 : decode cX3_mirror 50 = .ok (.iinc 1 1, 3) := by decide +kernel
theorem dX3_mirror_53 : decode cX3_mirror 53 = .ok (.goto (-20), 3) := by decide +kernel
theorem dX3_mirror_56 : decode cX3_mirror 56 = .ok (.iconst 0, 1) := by decide +kernel
theorem dX3_mirror_57 : decode cX3_mirror 57 = .ok (.istore_n 1, 1) := by decide +kernel
theorem dX3_mirror_58 : decode cX3_mirror 58 = .ok (.iload_n 1, 1) := by decide +kernel
theorem dX3_mirror_59 : decode cX3_mirror 59 = .ok (.aload_n 0, 1) := by decide +kernel
theorem dX3_mirror_60 : decode cX3_mirror 60 = .ok (.getfield 32, 3) := by decide +kernel
theorem dX3_mirror_63 : decode cX3_mirror 63 = .ok (.if_icmp .ge 29, 3) := by decide +kernel
theorem dX3_mirror_66 : decode cX3_mirror 66 = .ok (.aload_n 0, 1) := by decide +kernel
theorem dX3_mirror_67 : decode cX3_mirror 67 = .ok (.getfield 7, 3) := by decide +kernel
theorem dX3_mirror_70 : decode cX3_mirror 70 = .ok (.iload_n 1, 1) := by decide +kernel
theorem dX3_mirror_71 : decode cX3_mirror 71 = .ok (.aload_n 0, 1) := by decide +kernel
theorem dX3_mirror_72 : decode cX3_mirror 72 = .ok (.getfield 19, 3) := by decide +kernel
theorem dX3_mirror_75 : decode cX3_mirror 75 = .ok (.aload_n 0, 1) := by decide +kernel
theorem dX3_mirror_76 : decode cX3_mirror 76 = .ok (.getfield 32, 3) := by decide +kernel
theorem dX3_mirror_79 : decode cX3_mirror 79 = .ok (.iconst 1, 1) := by decide +kernel
theorem dX3_mirror_80 : decode cX3_mirror 80 = .ok (.isub, 1) := by decide +kernel
theorem dX3_mirror_81 : decode cX3_mirror 81 = .ok (.iload_n 1, 1) := by decide +kernel
theorem dX3_mirror_82 : decode cX3_mirror 82 = .ok (.isub, 1) := by decide +kernel
theorem dX3_mirror_83 : decode cX3_mirror 83 = .ok (.iaload, 1) := by decide +kernel
theorem dX3_mirror_84 : decode cX3_mirror 84 = .ok (.ineg, 1) := by decide +kernel
theorem dX3_mirror_85 : decode cX3_mirror 85 = .ok (.iastore, 1) := by decide +kernel
theorem dX3_mirror_86 : decode cX3_mirror 86 = .ok (.iinc 1 1, 3) := by decide +kernel
theorem dX3_mirror_89 : decode cX3_mirror 89 = .ok (.goto (-31), 3) := by decide +kernel
theorem dX3_mirror_92 : decode cX3_mirror 92 = .ok (.iconst 0, 1) := by decide +kernel
theorem dX3_mirror_93 : decode cX3_mirror 93 = .ok (.istore_n 1, 1) := by decide +kernel
theorem dX3_mirror_94 : decode cX3_mirror 94 = .ok (.iload_n 1, 1) := by decide +kernel
theorem dX3_mirror_95 : decode cX3_mirror 95 = .ok (.aload_n 0, 1) := by decide +kernel
theorem dX3_mirror_96 : decode cX3_mirror 96 = .ok (.getfield 32, 3) := by decide +kernel
theorem dX3_mirror_99 : decode cX3_mirror 99 = .ok (.if_icmp .gt 49, 3) := by decide +kernel
theorem dX3_mirror_102 : decode cX3_mirror 102 = .ok (.iconst 0, 1) := by decide +kernel
theorem dX3_mirror_103 : decode cX3_mirror 103 = .ok (.istore_n 2, 1) := by decide +kernel
theorem dX3_mirror_104 : decode cX3_mirror 104 = .ok (.iload_n 2, 1) := by decide +kernel
theorem dX3_mirror_105 : decode cX3_mirror 105 = .ok (.bipush 8, 2) := by decide +kernel
theorem dX3_mirror_107 : decode cX3_mirror 107 = .ok (.if_icmp .ge 35, 3) := by decide +kernel
theorem dX3_mirror_110 : decode cX3_mirror 110 = .ok (.aload_n 0, 1) := by decide +kernel
theorem dX3_mirror_111 : decode cX3_mirror 111 = .ok (.getfield 13, 3) := by decide +kernel
theorem dX3_mirror_114 : decode cX3_mirror 114 = .ok (.bipush 8, 2) := by decide +kernel
theorem dX3_mirror_116 : decode cX3_mirror 116 = .ok (.iload_n 1, 1) := by decide +kernel
theorem dX3_mirror_117 : decode cX3_mirror 117 = .ok (.imul, 1) := by decide +kernel
theorem dX3_mirror_118 : decode cX3_mirror 118 = .ok (.iload_n 2, 1) := by decide +kernel
theorem dX3_mirror_119 : decode cX3_mirror 119 = .ok (.iadd, 1) := by decide +kernel
theorem dX3_mirror_120 : decode cX3_mirror 120 = .ok (.aload_n 0, 1) := by decide +kernel
theorem dX3_mirror_121 : decode cX3_mirror 121 = .ok (.aload_n 0, 1) := by decide +kernel
theorem dX3_mirror_122 : decode cX3_mirror 122 = .ok (.getfield 16, 3) := by decide +kernel
theorem dX3_mirror_125 : decode cX3_mirror 125 = .ok (.aload_n 0, 1) := by decide +kernel
theorem dX3_mirror_126 : decode cX3_mirror 126 = .ok (.getfield 32, 3) := by decide +kernel
theorem dX3_mirror_129 : decode cX3_mirror 129 = .ok (.iload_n 1, 1) := by decide +kernel
theorem dX3_mirror_130 : decode cX3_mirror 130 = .ok (.isub, 1) := by decide +kernel
theorem dX3_mirror_131 : decode cX3_mirror 131 = .ok (.iload_n 2, 1) := by decide +kernel
theorem dX3_mirror_132 : decode cX3_mirror 132 = .ok (.invokevirtual 39, 3) := by decide +kernel
theorem dX3_mirror_135 : decode cX3_mirror 135 = .ok (.iastore, 1) := by decide +kernel
theorem dX3_mirror_136 : decode cX3_mirror 136 = .ok (.iinc 2 1, 3) := by decide +kernel
theorem dX3_mirror_139 : decode cX3_mirror 139 = .ok (.goto (-35), 3) := by decide +kernel
theorem dX3_mirror_142 : decode cX3_mirror 142 = .ok (.iinc 1 1, 3) := by decide +kernel
theorem dX3_mirror_145 : decode cX3_mirror 145 = .ok (.goto (-51), 3) := by decide +kernel
theorem dX3_mirror_148 : decode cX3_mirror 148 = .ok (.return_, 1) := by decide +kernel
theorem dX3_cuts_0 : decode cX3_cuts 0 = .ok (.aload_n 0, 1) := by decide +kernel
theorem dX3_cuts_1 : decode cX3_cuts 1 = .ok (.iconst 0, 1) := by decide +kernel
theorem dX3_cuts_2 : decode cX3_cuts 2 = .ok (.putfield 28, 3) := by decide +kernel
theorem dX3_cuts_5 : decode cX3_cuts 5 = .ok (.aload_n 0, 1) := by decide +kernel
theorem dX3_cuts_6 : decode cX3_cuts 6 = .ok (.getfield 32, 3) := by decide +kernel
theorem dX3_cuts_9 : decode cX3_cuts 9 = .ok (.ireturn, 1) := by decide +kernel
theorem dX3_clear_0 : decode cX3_clear 0 = .ok (.aload_n 0, 1) := by decide +kernel
theorem dX3_clear_1 : decode cX3_clear 1 = .ok (.iconst 0, 1) := by decide +kernel
theorem dX3_clear_2 : decode cX3_clear 2 = .ok (.putfield 28, 3) := by decide +kernel
theorem dX3_clear_5 : decode cX3_clear 5 = .ok (.aload_n 0, 1) := by decide +kernel
theorem dX3_clear_6 : decode cX3_clear 6 = .ok (.iconst 0, 1) := by decide +kernel
theorem dX3_clear_7 : decode cX3_clear 7 = .ok (.putfield 32, 3) := by decide +kernel
theorem dX3_clear_10 : decode cX3_clear 10 = .ok (.aload_n 0, 1) := by decide +kernel
theorem dX3_clear_11 : decode cX3_clear 11 = .ok (.iconst 0, 1) := by decide +kernel
theorem dX3_clear_12 : decode cX3_clear 12 = .ok (.putfield 43, 3) := by decide +kernel
theorem dX3_clear_15 : decode cX3_clear 15 = .ok (.iconst 0, 1) := by decide +kernel
theorem dX3_clear_16 : decode cX3_clear 16 = .ok (.istore_n 1, 1) := by decide +kernel
theorem dX3_clear_17 : decode cX3_clear 17 = .ok (.iload_n 1, 1) := by decide +kernel
theorem dX3_clear_18 : decode cX3_clear 18 = .ok (.bipush 32, 2) := by decide +kernel
theorem dX3_clear_20 : decode cX3_clear 20 = .ok (.if_icmp .ge 16, 3) := by decide +kernel
theorem dX3_clear_23 : decode cX3_clear 23 = .ok (.aload_n 0, 1) := by decide +kernel
theorem dX3_clear_24 : decode cX3_clear 24 = .ok (.getfield 13, 3) := by decide +kernel
theorem dX3_clear_27 : decode cX3_clear 27 = .ok (.iload_n 1, 1) := by decide +kernel
theorem dX3_clear_28 : decode cX3_clear 28 = .ok (.iconst 0, 1) := by decide +kernel
theorem dX3_clear_29 : decode cX3_clear 29 = .ok (.iastore, 1) := by decide +kernel
theorem dX3_clear_30 : decode cX3_clear 30 = .ok (.iinc 1 1, 3) := by decide +kernel
theorem dX3_clear_33 : decode cX3_clear 33 = .ok (.goto (-16), 3) := by decide +kernel
theorem dX3_clear_36 : decode cX3_clear 36 = .ok (.return_, 1) := by decide +kernel
theorem dX3_start_0 : decode cX3_start 0 = .ok (.aload_n 0, 1) := by decide +kernel
theorem dX3_start_1 : decode cX3_start 1 = .ok (.lconst 0, 1) := by decide +kernel
theorem dX3_start_2 : decode cX3_start 2 = .ok (.putfield 47, 3) := by decide +kernel
theorem dX3_start_5 : decode cX3_start 5 = .ok (.aload_n 0, 1) := by decide +kernel
theorem dX3_start_6 : decode cX3_start 6 = .ok (.lconst 1, 1) := by decide +kernel
theorem dX3_start_7 : decode cX3_start 7 = .ok (.putfield 51, 3) := by decide +kernel
theorem dX3_start_10 : decode cX3_start 10 = .ok (.iconst 0, 1) := by decide +kernel
theorem dX3_start_11 : decode cX3_start 11 = .ok (.istore_n 1, 1) := by decide +kernel
theorem dX3_start_12 : decode cX3_start 12 = .ok (.iload_n 1, 1) := by decide +kernel
theorem dX3_start_13 : decode cX3_start 13 = .ok (.iconst 5, 1) := by decide +kernel
theorem dX3_start_14 : decode cX3_start 14 = .ok (.if_icmp .ge 16, 3) := by decide +kernel
theorem dX3_start_17 : decode cX3_start 17 = .ok (.aload_n 0, 1) := by decide +kernel
theorem dX3_start_18 : decode cX3_start 18 = .ok (.getfield 25, 3) := by decide +kernel
theorem dX3_start_21 : decode cX3_start 21 = .ok (.iload_n 1, 1) := by decide +kernel
theorem dX3_start_22 : decode cX3_start 22 = .ok (.iconst 0, 1) := by decide +kernel
theorem dX3_start_23 : decode cX3_start 23 = .ok (.iastore, 1) := by decide +kernel
theorem dX3_start_24 : decode cX3_start 24 = .ok (.iinc 1 1, 3) := by decide +kernel
theorem dX3_start_27 : decode cX3_start 27 = .ok (.goto (-15), 3) := by decide +kernel
theorem dX3_start_30 : decode cX3_start 30 = .ok (.return_, 1) := by decide +kernel
theorem dX3_more_0 : decode cX3_more 0 = .ok (.aload_n 0, 1) := by decide +kernel
theorem dX3_more_1 : decode cX3_more 1 = .ok (.getfield 47, 3) := by decide +kernel
theorem dX3_more_4 : decode cX3_more 4 = .ok (.lload_n 3, 1) := by decide +kernel
theorem dX3_more_5 : decode cX3_more 5 = .ok (.lmul, 1) := by decide +kernel
theorem dX3_more_6 : decode cX3_more 6 = .ok (.lload_n 1, 1) := by decide +kernel
theorem dX3_more_7 : decode cX3_more 7 = .ok (.aload_n 0, 1) := by decide +kernel
theorem dX3_more_8 : decode cX3_more 8 = .ok (.getfield 51, 3) := by decide +kernel
theorem dX3_more_11 : decode cX3_more 11 = .ok (.lmul, 1) := by decide +kernel
theorem dX3_more_12 : decode cX3_more 12 = .ok (.ladd, 1) := by decide +kernel
theorem dX3_more_13 : decode cX3_more 13 = .ok (.lstore 5, 2) := by decide +kernel
theorem dX3_more_15 : decode cX3_more 15 = .ok (.aload_n 0, 1) := by decide +kernel
theorem dX3_more_16 : decode cX3_more 16 = .ok (.getfield 51, 3) := by decide +kernel
theorem dX3_more_19 : decode cX3_more 19 = .ok (.lload_n 3, 1) := by decide +kernel
theorem dX3_more_20 : decode cX3_more 20 = .ok (.lmul, 1) := by decide +kernel
theorem dX3_more_21 : decode cX3_more 21 = .ok (.lstore 7, 2) := by decide +kernel
theorem dX3_more_23 : decode cX3_more 23 = .ok (.lload 5, 2) := by decide +kernel
theorem dX3_more_25 : decode cX3_more 25 = .ok (.lconst 0, 1) := by decide +kernel
theorem dX3_more_26 : decode cX3_more 26 = .ok (.lcmp, 1) := by decide +kernel
theorem dX3_more_27 : decode cX3_more 27 = .ok (.ifCond .ge 9, 3) := by decide +kernel
theorem dX3_more_30 : decode cX3_more 30 = .ok (.lload 5, 2) := by decide +kernel
theorem dX3_more_32 : decode cX3_more 32 = .ok (.lneg, 1) := by decide +kernel
theorem dX3_more_33 : decode cX3_more 33 = .ok (.goto 5, 3) := by decide +kernel
theorem dX3_more_36 : decode cX3_more 36 = .ok (.lload 5, 2) := by decide +kernel
theorem dX3_more_38 : decode cX3_more 38 = .ok (.lstore 9, 2) := by decide +kernel
theorem dX3_more_40 : decode cX3_more 40 = .ok (.lload 7, 2) := by decide +kernel
theorem dX3_more_42 : decode cX3_more 42 = .ok (.lconst 0, 1) := by decide +kernel
theorem dX3_more_43 : decode cX3_more 43 = .ok (.lcmp, 1) := by decide +kernel
theorem dX3_more_44 : decode cX3_more 44 = .ok (.ifCond .ge 9, 3) := by decide +kernel
theorem dX3_more_47 : decode cX3_more 47 = .ok (.lload 7, 2) := by decide +kernel
theorem dX3_more_49 : decode cX3_more 49 = .ok (.lneg, 1) := by decide +kernel
theorem dX3_more_50 : decode cX3_more 50 = .ok (.goto 5, 3) := by decide +kernel
theorem dX3_more_53 : decode cX3_more 53 = .ok (.lload 7, 2) := by decide +kernel
theorem dX3_more_55 : decode cX3_more 55 = .ok (.lstore 11, 2) := by decide +kernel
theorem dX3_more_57 : decode cX3_more 57 = .ok (.lload 11, 2) := by decide +kernel
theorem dX3_more_59 : decode cX3_more 59 = .ok (.lconst 0, 1) := by decide +kernel
theorem dX3_more_60 : decode cX3_more 60 = .ok (.lcmp, 1) := by decide +kernel
theorem dX3_more_61 : decode cX3_more 61 = .ok (.ifCond .eq 21, 3) := by decide +kernel
theorem dX3_more_64 : decode cX3_more 64 = .ok (.lload 9, 2) := by decide +kernel
theorem dX3_more_66 : decode cX3_more 66 = .ok (.lload 11, 2) := by decide +kernel
theorem dX3_more_68 : decode cX3_more 68 = .ok (.lrem, 1) := by decide +kernel
theorem dX3_more_69 : decode cX3_more 69 = .ok (.lstore 13, 2) := by decide +kernel
theorem dX3_more_71 : decode cX3_more 71 = .ok (.lload 11, 2) := by decide +kernel
theorem dX3_more_73 : decode cX3_more 73 = .ok (.lstore 9, 2) := by decide +kernel
theorem dX3_more_75 : decode cX3_more 75 = .ok (.lload 13, 2) := by decide +kernel
theorem dX3_more_77 : decode cX3_more 77 = .ok (.lstore 11, 2) := by decide +kernel
theorem dX3_more_79 : decode cX3_more 79 = .ok (.goto (-22), 3) := by decide +kernel
theorem dX3_more_82 : decode cX3_more 82 = .ok (.aload_n 0, 1) := by decide +kernel
theorem dX3_more_83 : decode cX3_more 83 = .ok (.lload 7, 2) := by decide +kernel
theorem dX3_more_85 : decode cX3_more 85 = .ok (.lconst 0, 1) := by decide +kernel
theorem dX3_more_86 : decode cX3_more 86 = .ok (.lcmp, 1) := by decide +kernel
theorem dX3_more_87 : decode cX3_more 87 = .ok (.ifCond .ge 12, 3) := by decide +kernel
theorem dX3_more_90 : decode cX3_more 90 = .ok (.lload 5, 2) := by decide +kernel
theorem dX3_more_92 : decode cX3_more 92 = .ok (.lload 9, 2) := by decide +kernel
theorem dX3_more_94 : decode cX3_more 94 = .ok (.ldiv, 1) := by decide +kernel
theorem dX3_more_95 : decode cX3_more 95 = .ok (.lneg, 1) := by decide +kernel
theorem dX3_more_96 : decode cX3_more 96 = .ok (.goto 8, 3) := by decide +kernel
theorem dX3_more_99 : decode cX3_more 99 = .ok (.lload 5, 2) := by decide +kernel
theorem dX3_more_101 : decode cX3_more 101 = .ok (.lload 9, 2) := by decide +kernel
theorem dX3_more_103 : decode cX3_more 103 = .ok (.ldiv, 1) := by decide +kernel
theorem dX3_more_104 : decode cX3_more 104 = .ok (.putfield 47, 3) := by decide +kernel
theorem dX3_more_107 : decode cX3_more 107 = .ok (.aload_n 0, 1) := by decide +kernel
theorem dX3_more_108 : decode cX3_more 108 = .ok (.lload 7, 2) := by decide +kernel
theorem dX3_more_110 : decode cX3_more 110 = .ok (.lconst 0, 1) := by decide +kernel
theorem dX3_more_111 : decode cX3_more 111 = .ok (.lcmp, 1) := by decide +kernel
theorem dX3_more_112 : decode cX3_more 112 = .ok (.ifCond .ge 12, 3) := by decide +kernel
theorem dX3_more_115 : decode cX3_more 115 = .ok (.lload 7, 2) := by decide +kernel
theorem dX3_more_117 : decode cX3_more 117 = .ok (.lload 9, 2) := by decide +kernel
theorem dX3_more_119 : decode cX3_more 119 = .ok (.ldiv, 1) := by decide +kernel
theorem dX3_more_120 : decode cX3_more 120 = .ok (.lneg, 1) := by decide +kernel
theorem dX3_more_121 : decode cX3_more 121 = .ok (.goto 8, 3) := by decide +kernel
theorem dX3_more_124 : decode cX3_more 124 = .ok (.lload 7, 2) := by decide +kernel
theorem dX3_more_126 : decode cX3_more 126 = .ok (.lload 9, 2) := by decide +kernel
theorem dX3_more_128 : decode cX3_more 128 = .ok (.ldiv, 1) := by decide +kernel
theorem dX3_more_129 : decode cX3_more 129 = .ok (.putfield 51, 3) := by decide +kernel
theorem dX3_more_132 : decode cX3_more 132 = .ok (.return_, 1) := by decide +kernel
theorem dX3_primeOf_0 : decode cX3_primeOf 0 = .ok (.iload_n 0, 1) := by decide +kernel
theorem dX3_primeOf_1 : decode cX3_primeOf 1 = .ok (.ifCond .ne 7, 3) := by decide +kernel
theorem dX3_primeOf_4 : decode cX3_primeOf 4 = .ok (.iconst 2, 1) := by decide +kernel
theorem dX3_primeOf_5 : decode cX3_primeOf 5 = .ok (.goto 33, 3) := by decide +kernel
theorem dX3_primeOf_8 : decode cX3_primeOf 8 = .ok (.iload_n 0, 1) := by decide +kernel
theorem dX3_primeOf_9 : decode cX3_primeOf 9 = .ok (.iconst 1, 1) := by decide +kernel
theorem dX3_primeOf_10 : decode cX3_primeOf 10 = .ok (.if_icmp .ne 7, 3) := by decide +kernel
theorem dX3_primeOf_13 : decode cX3_primeOf 13 = .ok (.iconst 3, 1) := by decide +kernel
theorem dX3_primeOf_14 : decode cX3_primeOf 14 = .ok (.goto 24, 3) := by decide +kernel
theorem dX3_primeOf_17 : decode cX3_primeOf 17 = .ok (.iload_n 0, 1) := by decide +kernel
theorem dX3_primeOf_18 : decode cX3_primeOf 18 = .ok (.iconst 2, 1) := by decide +kernel
theorem dX3_primeOf_19 : decode cX3_primeOf 19 = .ok (.if_icmp .ne 7, 3) := by decide +kernel
theorem dX3_primeOf_22 : decode cX3_primeOf 22 = .ok (.iconst 5, 1) := by decide +kernel
theorem dX3_primeOf_23 : decode cX3_primeOf 23 = .ok (.goto 15, 3) := by decide +kernel
theorem dX3_primeOf_26 : decode cX3_primeOf 26 = .ok (.iload_n 0, 1) := by decide +kernel
theorem dX3_primeOf_27 : decode cX3_primeOf 27 = .ok (.iconst 3, 1) := by decide +kernel
theorem dX3_primeOf_28 : decode cX3_primeOf 28 = .ok (.if_icmp .ne 8, 3) := by decide +kernel
theorem dX3_primeOf_31 : decode cX3_primeOf 31 = .ok (.bipush 7, 2) := by decide +kernel
theorem dX3_primeOf_33 : decode cX3_primeOf 33 = .ok (.goto 5, 3) := by decide +kernel
theorem dX3_primeOf_36 : decode cX3_primeOf 36 = .ok (.bipush 11, 2) := by decide +kernel
theorem dX3_primeOf_38 : decode cX3_primeOf 38 = .ok (.ireturn, 1) := by decide +kernel
theorem dX3_putLogs_0 : decode cX3_putLogs 0 = .ok (.iload_n 1, 1) := by decide +kernel
theorem dX3_putLogs_1 : decode cX3_putLogs 1 = .ok (.ifCond .ge 8, 3) := by decide +kernel
theorem dX3_putLogs_4 : decode cX3_putLogs 4 = .ok (.iload_n 1, 1) := by decide +kernel
theorem dX3_putLogs_5 : decode cX3_putLogs 5 = .ok (.ineg, 1) := by decide +kernel
theorem dX3_putLogs_6 : decode cX3_putLogs 6 = .ok (.goto 4, 3) := by decide +kernel
theorem dX3_putLogs_9 : decode cX3_putLogs 9 = .ok (.iload_n 1, 1) := by decide +kernel
theorem dX3_putLogs_10 : decode cX3_putLogs 10 = .ok (.istore_n 3, 1) := by decide +kernel
theorem dX3_putLogs_11 : decode cX3_putLogs 11 = .ok (.iconst 0, 1) := by decide +kernel
theorem dX3_putLogs_12 : decode cX3_putLogs 12 = .ok (.istore 4, 2) := by decide +kernel
theorem dX3_putLogs_14 : decode cX3_putLogs 14 = .ok (.iload 4, 2) := by decide +kernel
theorem dX3_putLogs_16 : decode cX3_putLogs 16 = .ok (.iconst 5, 1) := by decide +kernel
theorem dX3_putLogs_17 : decode cX3_putLogs 17 = .ok (.if_icmp .ge 41, 3) := by decide +kernel
theorem dX3_putLogs_20 : decode cX3_putLogs 20 = .ok (.iload_n 3, 1) := by decide +kernel
theorem dX3_putLogs_21 : decode cX3_putLogs 21 = .ok (.iload 4, 2) := by decide +kernel
theorem dX3_putLogs_23 : decode cX3_putLogs 23 = .ok (.invokestatic 54, 3) := by decide +kernel
theorem dX3_putLogs_26 : decode cX3_putLogs 26 = .ok (.irem, 1) := by decide +kernel
theorem dX3_putLogs_27 : decode cX3_putLogs 27 = .ok (.ifCond .ne 25, 3) := by decide +kernel
theorem dX3_putLogs_30 : decode cX3_putLogs 30 = .ok (.iload_n 3, 1) := by decide +kernel
theorem dX3_putLogs_31 : decode cX3_putLogs 31 = .ok (.iload 4, 2) := by decide +kernel
theorem dX3_putLogs_33 : decode cX3_putLogs 33 = .ok (.invokestatic 54, 3) := by decide +kernel
theorem dX3_putLogs_36 : decode cX3_putLogs 36 = .ok (.idiv, 1) := by decide +kernel
theorem dX3_putLogs_37 : decode cX3_putLogs 37 = .ok (.istore_n 3, 1) := by decide +kernel
theorem dX3_putLogs_38 : decode cX3_putLogs 38 = .ok (.aload_n 0, 1) := by decide +kernel
theorem dX3_putLogs_39 : decode cX3_putLogs 39 = .ok (.getfield 25, 3) := by decide +kernel
theorem dX3_putLogs_42 : decode cX3_putLogs 42 = .ok (.iload 4, 2) := by decide +kernel
theorem dX3_putLogs_44 : decode cX3_putLogs 44 = .ok (.dup2, 1) := by decide +kernel
theorem dX3_putLogs_45 : decode cX3_putLogs 45 = .ok (.iaload, 1) := by decide +kernel
theorem dX3_putLogs_46 : decode cX3_putLogs 46 = .ok (.iload_n 2, 1) := by decide +kernel
theorem dX3_putLogs_47 : decode cX3_putLogs 47 = .ok (.iadd, 1) := by decide +kernel
theorem dX3_putLogs_48 : decode cX3_putLogs 48 = .ok (.iastore, 1) := by decide +kernel
theorem dX3_putLogs_49 : decode cX3_putLogs 49 = .ok (.goto (-29), 3) := by decide +kernel
theorem dX3_putLogs_52 : decode cX3_putLogs 52 = .ok (.iinc 4 1, 3) := by decide +kernel
theorem dX3_putLogs_55 : decode cX3_putLogs 55 = .ok (.goto (-41), 3) := by decide +kernel
theorem dX3_putLogs_58 : decode cX3_putLogs 58 = .ok (.return_, 1) := by decide +kernel
theorem dX3_hasPole_0 : decode cX3_hasPole 0 = .ok (.aload_n 0, 1) := by decide +kernel
theorem dX3_hasPole_1 : decode cX3_hasPole 1 = .ok (.getfield 13, 3) := by decide +kernel
theorem dX3_hasPole_4 : decode cX3_hasPole 4 = .ok (.bipush 8, 2) := by decide +kernel
theorem dX3_hasPole_6 : decode cX3_hasPole 6 = .ok (.iload_n 1, 1) := by decide +kernel
theorem dX3_hasPole_7 : decode cX3_hasPole 7 = .ok (.imul, 1) := by decide +kernel
theorem dX3_hasPole_8 : decode cX3_hasPole 8 = .ok (.iconst 4, 1) := by decide +kernel
theorem dX3_hasPole_9 : decode cX3_hasPole 9 = .ok (.iadd, 1) := by decide +kernel
theorem dX3_hasPole_10 : decode cX3_hasPole 10 = .ok (.iaload, 1) := by decide +kernel
theorem dX3_hasPole_11 : decode cX3_hasPole 11 = .ok (.ifCond .ne 32, 3) := by decide +kernel
theorem dX3_hasPole_14 : decode cX3_hasPole 14 = .ok (.aload_n 0, 1) := by decide +kernel
theorem dX3_hasPole_15 : decode cX3_hasPole 15 = .ok (.getfield 13, 3) := by decide +kernel
theorem dX3_hasPole_18 : decode cX3_hasPole 18 = .ok (.bipush 8, 2) := by decide +kernel
theorem dX3_hasPole_20 : decode cX3_hasPole 20 = .ok (.iload_n 1, 1) := by decide +kernel
theorem dX3_hasPole_21 : decode cX3_hasPole 21 = .ok (.imul, 1) := by decide +kernel
theorem dX3_hasPole_22 : decode cX3_hasPole 22 = .ok (.iconst 5, 1) := by decide +kernel
theorem dX3_hasPole_23 : decode cX3_hasPole 23 = .ok (.iadd, 1) := by decide +kernel
theorem dX3_hasPole_24 : decode cX3_hasPole 24 = .ok (.iaload, 1) := by decide +kernel
theorem dX3_hasPole_25 : decode cX3_hasPole 25 = .ok (.ifCond .ne 18, 3) := by decide +kernel
theorem dX3_hasPole_28 : decode cX3_hasPole 28 = .ok (.aload_n 0, 1) := by decide +kernel
theorem dX3_hasPole_29 : decode cX3_hasPole 29 = .ok (.getfield 13, 3) := by decide +kernel
theorem dX3_hasPole_32 : decode cX3_hasPole 32 = .ok (.bipush 8, 2) := by decide +kernel
theorem dX3_hasPole_34 : decode cX3_hasPole 34 = .ok (.iload_n 1, 1) := by decide +kernel
theorem dX3_hasPole_35 : decode cX3_hasPole 35 = .ok (.imul, 1) := by decide +kernel
theorem dX3_hasPole_36 : decode cX3_hasPole 36 = .ok (.bipush 6, 2) := by decide +kernel
theorem dX3_hasPole_38 : decode cX3_hasPole 38 = .ok (.iadd, 1) := by decide +kernel
theorem dX3_hasPole_39 : decode cX3_hasPole 39 = .ok (.iaload, 1) := by decide +kernel
theorem dX3_hasPole_40 : decode cX3_hasPole 40 = .ok (.ifCond .eq 7, 3) := by decide +kernel
theorem dX3_hasPole_43 : decode cX3_hasPole 43 = .ok (.iconst 1, 1) := by decide +kernel
theorem dX3_hasPole_44 : decode cX3_hasPole 44 = .ok (.goto 4, 3) := by decide +kernel
theorem dX3_hasPole_47 : decode cX3_hasPole 47 = .ok (.iconst 0, 1) := by decide +kernel
theorem dX3_hasPole_48 : decode cX3_hasPole 48 = .ok (.ireturn, 1) := by decide +kernel
theorem dX3_value_0 : decode cX3_value 0 = .ok (.aload_n 0, 1) := by decide +kernel
theorem dX3_value_1 : decode cX3_value 1 = .ok (.iload_n 1, 1) := by decide +kernel
theorem dX3_value_2 : decode cX3_value 2 = .ok (.bipush (-6), 2) := by decide +kernel
theorem dX3_value_4 : decode cX3_value 4 = .ok (.bipush 6, 2) := by decide +kernel
theorem dX3_value_6 : decode cX3_value 6 = .ok (.invokestatic 35, 3) := by decide +kernel
theorem dX3_value_9 : decode cX3_value 9 = .ok (.ifCond .eq 12, 3) := by decide +kernel
theorem dX3_value_12 : decode cX3_value 12 = .ok (.iload_n 2, 1) := by decide +kernel
theorem dX3_value_13 : decode cX3_value 13 = .ok (.iconst 0, 1) := by decide +kernel
theorem dX3_value_14 : decode cX3_value 14 = .ok (.iconst 1, 1) := by decide +kernel
theorem dX3_value_15 : decode cX3_value 15 = .ok (.invokestatic 35, 3) := by decide +kernel
theorem dX3_value_18 : decode cX3_value 18 = .ok (.ifCond .ne 7, 3) := by decide +kernel
theorem dX3_value_21 : decode cX3_value 21 = .ok (.iconst 1, 1) := by decide +kernel
theorem dX3_value_22 : decode cX3_value 22 = .ok (.goto 4, 3) := by decide +kernel
theorem dX3_value_25 : decode cX3_value 25 = .ok (.iconst 0, 1) := by decide +kernel
theorem dX3_value_26 : decode cX3_value 26 = .ok (.putfield 28, 3) := by decide +kernel
theorem dX3_value_29 : decode cX3_value 29 = .ok (.aload_n 0, 1) := by decide +kernel
theorem dX3_value_30 : decode cX3_value 30 = .ok (.getfield 28, 3) := by decide +kernel
theorem dX3_value_33 : decode cX3_value 33 = .ok (.ifCond .le 5, 3) := by decide +kernel
theorem dX3_value_36 : decode cX3_value 36 = .ok (.lconst 0, 1) := by decide +kernel
theorem dX3_value_37 : decode cX3_value 37 = .ok (.lreturn, 1) := by decide +kernel
theorem dX3_value_38 : decode cX3_value 38 = .ok (.iconst 0, 1) := by decide +kernel
theorem dX3_value_39 : decode cX3_value 39 = .ok (.istore_n 3, 1) := by decide +kernel
theorem dX3_value_40 : decode cX3_value 40 = .ok (.iload_n 3, 1) := by decide +kernel
theorem dX3_value_41 : decode cX3_value 41 = .ok (.aload_n 0, 1) := by decide +kernel
theorem dX3_value_42 : decode cX3_value 42 = .ok (.getfield 32, 3) := by decide +kernel
theorem dX3_value_45 : decode cX3_value 45 = .ok (.if_icmp .ge 19, 3) := by decide +kernel
theorem dX3_value_48 : decode cX3_value 48 = .ok (.aload_n 0, 1) := by decide +kernel
theorem dX3_value_49 : decode cX3_value 49 = .ok (.getfield 7, 3) := by decide +kernel
theorem dX3_value_52 : decode cX3_value 52 = .ok (.iload_n 3, 1) := by decide +kernel
theorem dX3_value_53 : decode cX3_value 53 = .ok (.iaload, 1) := by decide +kernel
theorem dX3_value_54 : decode cX3_value 54 = .ok (.iload_n 1, 1) := by decide +kernel
theorem dX3_value_55 : decode cX3_value 55 = .ok (.if_icmp .gt 9, 3) := by decide +kernel
theorem dX3_value_58 : decode cX3_value 58 = .ok (.iinc 3 1, 3) := by decide +kernel
theorem dX3_value_61 : decode cX3_value 61 = .ok (.goto (-21), 3) := by decide +kernel
theorem dX3_value_64 : decode cX3_value 64 = .ok (.bipush 8, 2) := by decide +kernel
theorem dX3_value_66 : decode cX3_value 66 = .ok (.iload_n 3, 1) := by decide +kernel
theorem dX3_value_67 : decode cX3_value 67 = .ok (.imul, 1) := by decide +kernel
theorem dX3_value_68 : decode cX3_value 68 = .ok (.istore 4, 2) := by decide +kernel
theorem dX3_value_70 : decode cX3_value 70 = .ok (.iload_n 1, 1) := by decide +kernel
theorem dX3_value_71 : decode cX3_value 71 = .ok (.aload_n 0, 1) := by decide +kernel
theorem dX3_value_72 : decode cX3_value 72 = .ok (.getfield 13, 3) := by decide +kernel
theorem dX3_value_75 : decode cX3_value 75 = .ok (.iload 4, 2) := by decide +kernel
theorem dX3_value_77 : decode cX3_value 77 = .ok (.bipush 7, 2) := by decide +kernel
theorem dX3_value_79 : decode cX3_value 79 = .ok (.iadd, 1) := by decide +kernel
theorem dX3_value_80 : decode cX3_value 80 = .ok (.iaload, 1) := by decide +kernel
theorem dX3_value_81 : decode cX3_value 81 = .ok (.isub, 1) := by decide +kernel
theorem dX3_value_82 : decode cX3_value 82 = .ok (.i2l, 1) := by decide +kernel
theorem dX3_value_83 : decode cX3_value 83 = .ok (.lstore 5, 2) := by decide +kernel
theorem dX3_value_85 : decode cX3_value 85 = .ok (.aload_n 0, 1) := by decide +kernel
theorem dX3_value_86 : decode cX3_value 86 = .ok (.iload_n 3, 1) := by decide +kernel
theorem dX3_value_87 : decode cX3_value 87 = .ok (.invokevirtual 58, 3) := by decide +kernel
theorem dX3_value_90 : decode cX3_value 90 = .ok (.ifCond .eq 17, 3) := by decide +kernel
theorem dX3_value_93 : decode cX3_value 93 = .ok (.lload 5, 2) := by decide +kernel
theorem dX3_value_95 : decode cX3_value 95 = .ok (.lconst 0, 1) := by decide +kernel
theorem dX3_value_96 : decode cX3_value 96 = .ok (.lcmp, 1) := by decide +kernel
theorem dX3_value_97 : decode cX3_value 97 = .ok (.ifCond .ne 10, 3) := by decide +kernel
theorem dX3_value_100 : decode cX3_value 100 = .ok (.aload_n 0, 1) := by decide +kernel
theorem dX3_value_101 : decode cX3_value 101 = .ok (.iconst 2, 1) := by decide +kernel
theorem dX3_value_102 : decode cX3_value 102 = .ok (.invokevirtual 62, 3) := by decide +kernel
theorem dX3_value_105 : decode cX3_value 105 = .ok (.i2l, 1) := by decide +kernel
theorem dX3_value_106 : decode cX3_value 106 = .ok (.lreturn, 1) := by decide +kernel
theorem dX3_value_107 : decode cX3_value 107 = .ok (.aload_n 0, 1) := by decide +kernel
theorem dX3_value_108 : decode cX3_value 108 = .ok (.invokevirtual 65, 3) := by decide +kernel
theorem dX3_value_111 : decode cX3_value 111 = .ok (.aload_n 0, 1) := by decide +kernel
theorem dX3_value_112 : decode cX3_value 112 = .ok (.aload_n 0, 1) := by decide +kernel
theorem dX3_value_113 : decode cX3_value 113 = .ok (.getfield 13, 3) := by decide +kernel
theorem dX3_value_116 : decode cX3_value 116 = .ok (.iload 4, 2) := by decide +kernel
theorem dX3_value_118 : decode cX3_value 118 = .ok (.iaload, 1) := by decide +kernel
theorem dX3_value_119 : decode cX3_value 119 = .ok (.i2l, 1) := by decide +kernel
theorem dX3_value_120 : decode cX3_value 120 = .ok (.iload_n 1, 1) := by decide +kernel
theorem dX3_value_121 : decode cX3_value 121 = .ok (.i2l, 1) := by decide +kernel
theorem dX3_value_122 : decode cX3_value 122 = .ok (.aload_n 0, 1) := by decide +kernel
theorem dX3_value_123 : decode cX3_value 123 = .ok (.getfield 13, 3) := by decide +kernel
theorem dX3_value_126 : decode cX3_value 126 = .ok (.iload 4, 2) := by decide +kernel
theorem dX3_value_128 : decode cX3_value 128 = .ok (.iconst 1, 1) := by decide +kernel
theorem dX3_value_129 : decode cX3_value 129 = .ok (.iadd, 1) := by decide +kernel
theorem dX3_value_130 : decode cX3_value 130 = .ok (.iaload, 1) := by decide +kernel
theorem dX3_value_131 : decode cX3_value 131 = .ok (.i2l, 1) := by decide +kernel
theorem dX3_value_132 : decode cX3_value 132 = .ok (.iload_n 1, 1) := by decide +kernel
theorem dX3_value_133 : decode cX3_value 133 = .ok (.i2l, 1) := by decide +kernel
theorem dX3_value_134 : decode cX3_value 134 = .ok (.aload_n 0, 1) := by decide +kernel
theorem dX3_value_135 : decode cX3_value 135 = .ok (.getfield 13, 3) := by decide +kernel
theorem dX3_value_138 : decode cX3_value 138 = .ok (.iload 4, 2) := by decide +kernel
theorem dX3_value_140 : decode cX3_value 140 = .ok (.iconst 2, 1) := by decide +kernel
theorem dX3_value_141 : decode cX3_value 141 = .ok (.iadd, 1) := by decide +kernel
theorem dX3_value_142 : decode cX3_value 142 = .ok (.iaload, 1) := by decide +kernel
theorem dX3_value_143 : decode cX3_value 143 = .ok (.i2l, 1) := by decide +kernel
theorem dX3_value_144 : decode cX3_value 144 = .ok (.iload_n 1, 1) := by decide +kernel
theorem dX3_value_145 : decode cX3_value 145 = .ok (.i2l, 1) := by decide +kernel
theorem dX3_value_146 : decode cX3_value 146 = .ok (.aload_n 0, 1) := by decide +kernel
theorem dX3_value_147 : decode cX3_value 147 = .ok (.getfield 13, 3) := by decide +kernel
theorem dX3_value_150 : decode cX3_value 150 = .ok (.iload 4, 2) := by decide +kernel
theorem dX3_value_152 : decode cX3_value 152 = .ok (.iconst 3, 1) := by decide +kernel
theorem dX3_value_153 : decode cX3_value 153 = .ok (.iadd, 1) := by decide +kernel
theorem dX3_value_154 : decode cX3_value 154 = .ok (.iaload, 1) := by decide +kernel
theorem dX3_value_155 : decode cX3_value 155 = .ok (.i2l, 1) := by decide +kernel
theorem dX3_value_156 : decode cX3_value 156 = .ok (.lmul, 1) := by decide +kernel
theorem dX3_value_157 : decode cX3_value 157 = .ok (.ladd, 1) := by decide +kernel
theorem dX3_value_158 : decode cX3_value 158 = .ok (.lmul, 1) := by decide +kernel
theorem dX3_value_159 : decode cX3_value 159 = .ok (.ladd, 1) := by decide +kernel
theorem dX3_value_160 : decode cX3_value 160 = .ok (.lmul, 1) := by decide +kernel
theorem dX3_value_161 : decode cX3_value 161 = .ok (.ladd, 1) := by decide +kernel
theorem dX3_value_162 : decode cX3_value 162 = .ok (.lconst 1, 1) := by decide +kernel
theorem dX3_value_163 : decode cX3_value 163 = .ok (.invokevirtual 68, 3) := by decide +kernel
theorem dX3_value_166 : decode cX3_value 166 = .ok (.aload_n 0, 1) := by decide +kernel
theorem dX3_value_167 : decode cX3_value 167 = .ok (.iload_n 3, 1) := by decide +kernel
theorem dX3_value_168 : decode cX3_value 168 = .ok (.invokevirtual 58, 3) := by decide +kernel
theorem dX3_value_171 : decode cX3_value 171 = .ok (.ifCond .eq 54, 3) := by decide +kernel
theorem dX3_value_174 : decode cX3_value 174 = .ok (.aload_n 0, 1) := by decide +kernel
theorem dX3_value_175 : decode cX3_value 175 = .ok (.aload_n 0, 1) := by decide +kernel
theorem dX3_value_176 : decode cX3_value 176 = .ok (.getfield 13, 3) := by decide +kernel
theorem dX3_value_179 : decode cX3_value 179 = .ok (.iload 4, 2) := by decide +kernel
theorem dX3_value_181 : decode cX3_value 181 = .ok (.iconst 4, 1) := by decide +kernel
theorem dX3_value_182 : decode cX3_value 182 = .ok (.iadd, 1) := by decide +kernel
theorem dX3_value_183 : decode cX3_value 183 = .ok (.iaload, 1) := by decide +kernel
theorem dX3_value_184 : decode cX3_value 184 = .ok (.i2l, 1) := by decide +kernel
theorem dX3_value_185 : decode cX3_value 185 = .ok (.lload 5, 2) := by decide +kernel
theorem dX3_value_187 : decode cX3_value 187 = .ok (.lmul, 1) := by decide +kernel
theorem dX3_value_188 : decode cX3_value 188 = .ok (.aload_n 0, 1) := by decide +kernel
theorem dX3_value_189 : decode cX3_value 189 = .ok (.getfield 13, 3) := by decide +kernel
theorem dX3_value_192 : decode cX3_value 192 = .ok (.iload 4, 2) := by decide +kernel
theorem dX3_value_194 : decode cX3_value 194 = .ok (.iconst 5, 1) := by decide +kernel
theorem dX3_value_195 : decode cX3_value 195 = .ok (.iadd, 1) := by decide +kernel
theorem dX3_value_196 : decode cX3_value 196 = .ok (.iaload, 1) := by decide +kernel
theorem dX3_value_197 : decode cX3_value 197 = .ok (.i2l, 1) := by decide +kernel
theorem dX3_value_198 : decode cX3_value 198 = .ok (.ladd, 1) := by decide +kernel
theorem dX3_value_199 : decode cX3_value 199 = .ok (.lload 5, 2) := by decide +kernel
theorem dX3_value_201 : decode cX3_value 201 = .ok (.lmul, 1) := by decide +kernel
theorem dX3_value_202 : decode cX3_value 202 = .ok (.aload_n 0, 1) := by decide +kernel
theorem dX3_value_203 : decode cX3_value 203 = .ok (.getfield 13, 3) := by decide +kernel
theorem dX3_value_206 : decode cX3_value 206 = .ok (.iload 4, 2) := by decide +kernel
theorem dX3_value_208 : decode cX3_value 208 = .ok (.bipush 6, 2) := by decide +kernel
theorem dX3_value_210 : decode cX3_value 210 = .ok (.iadd, 1) := by decide +kernel
theorem dX3_value_211 : decode cX3_value 211 = .ok (.iaload, 1) := by decide +kernel
theorem dX3_value_212 : decode cX3_value 212 = .ok (.i2l, 1) := by decide +kernel
theorem dX3_value_213 : decode cX3_value 213 = .ok (.ladd, 1) := by decide +kernel
theorem dX3_value_214 : decode cX3_value 214 = .ok (.lload 5, 2) := by decide +kernel
theorem dX3_value_216 : decode cX3_value 216 = .ok (.lload 5, 2) := by decide +kernel
theorem dX3_value_218 : decode cX3_value 218 = .ok (.lmul, 1) := by decide +kernel
theorem dX3_value_219 : decode cX3_value 219 = .ok (.lload 5, 2) := by decide +kernel
theorem dX3_value_221 : decode cX3_value 221 = .ok (.lmul, 1) := by decide +kernel
theorem dX3_value_222 : decode cX3_value 222 = .ok (.invokevirtual 68, 3) := by decide +kernel
theorem dX3_value_225 : decode cX3_value 225 = .ok (.iload_n 2, 1) := by decide +kernel
theorem dX3_value_226 : decode cX3_value 226 = .ok (.ifCond .ne 10, 3) := by decide +kernel
theorem dX3_value_229 : decode cX3_value 229 = .ok (.aload_n 0, 1) := by decide +kernel
theorem dX3_value_230 : decode cX3_value 230 = .ok (.getfield 47, 3) := by decide +kernel
theorem dX3_value_233 : decode cX3_value 233 = .ok (.goto 7, 3) := by decide +kernel
theorem dX3_value_236 : decode cX3_value 236 = .ok (.aload_n 0, 1) := by decide +kernel
theorem dX3_value_237 : decode cX3_value 237 = .ok (.getfield 51, 3) := by decide +kernel
theorem dX3_value_240 : decode cX3_value 240 = .ok (.lreturn, 1) := by decide +kernel
theorem dX3_isThere_0 : decode cX3_isThere 0 = .ok (.bipush 8, 2) := by decide +kernel
theorem dX3_isThere_2 : decode cX3_isThere 2 = .ok (.iload_n 1, 1) := by decide +kernel
theorem dX3_isThere_3 : decode cX3_isThere 3 = .ok (.imul, 1) := by decide +kernel
theorem dX3_isThere_4 : decode cX3_isThere 4 = .ok (.istore 4, 2) := by decide +kernel
theorem dX3_isThere_6 : decode cX3_isThere 6 = .ok (.aload_n 0, 1) := by decide +kernel
theorem dX3_isThere_7 : decode cX3_isThere 7 = .ok (.iload_n 1, 1) := by decide +kernel
theorem dX3_isThere_8 : decode cX3_isThere 8 = .ok (.invokevirtual 58, 3) := by decide +kernel
theorem dX3_isThere_11 : decode cX3_isThere 11 = .ok (.ifCond .eq 45, 3) := by decide +kernel
theorem dX3_isThere_14 : decode cX3_isThere 14 = .ok (.iload_n 2, 1) := by decide +kernel
theorem dX3_isThere_15 : decode cX3_isThere 15 = .ok (.bipush (-9), 2) := by decide +kernel
theorem dX3_isThere_17 : decode cX3_isThere 17 = .ok (.if_icmp .eq 17, 3) := by decide +kernel
theorem dX3_isThere_20 : decode cX3_isThere 20 = .ok (.aload_n 0, 1) := by decide +kernel
theorem dX3_isThere_21 : decode cX3_isThere 21 = .ok (.getfield 13, 3) := by decide +kernel
theorem dX3_isThere_24 : decode cX3_isThere 24 = .ok (.iload 4, 2) := by decide +kernel
theorem dX3_isThere_26 : decode cX3_isThere 26 = .ok (.bipush 7, 2) := by decide +kernel
theorem dX3_isThere_28 : decode cX3_isThere 28 = .ok (.iadd, 1) := by decide +kernel
theorem dX3_isThere_29 : decode cX3_isThere 29 = .ok (.iaload, 1) := by decide +kernel
theorem dX3_isThere_30 : decode cX3_isThere 30 = .ok (.iload_n 2, 1) := by decide +kernel
theorem dX3_isThere_31 : decode cX3_isThere 31 = .ok (.if_icmp .lt 25, 3) := by decide +kernel
theorem dX3_isThere_34 : decode cX3_isThere 34 = .ok (.iload_n 3, 1) := by decide +kernel
theorem dX3_isThere_35 : decode cX3_isThere 35 = .ok (.bipush 9, 2) := by decide +kernel
theorem dX3_isThere_37 : decode cX3_isThere 37 = .ok (.if_icmp .eq 17, 3) := by decide +kernel
theorem dX3_isThere_40 : decode cX3_isThere 40 = .ok (.aload_n 0, 1) := by decide +kernel
theorem dX3_isThere_41 : decode cX3_isThere 41 = .ok (.getfield 13, 3) := by decide +kernel
theorem dX3_isThere_44 : decode cX3_isThere 44 = .ok (.iload 4, 2) := by decide +kernel
theorem dX3_isThere_46 : decode cX3_isThere 46 = .ok (.bipush 7, 2) := by decide +kernel
theorem dX3_isThere_48 : decode cX3_isThere 48 = .ok (.iadd, 1) := by decide +kernel
theorem dX3_isThere_49 : decode cX3_isThere 49 = .ok (.iaload, 1) := by decide +kernel
theorem dX3_isThere_50 : decode cX3_isThere 50 = .ok (.iload_n 3, 1) := by decide +kernel
theorem dX3_isThere_51 : decode cX3_isThere 51 = .ok (.if_icmp .gt 5, 3) := by decide +kernel
theorem dX3_isThere_54 : decode cX3_isThere 54 = .ok (.iconst 0, 1) := by decide +kernel
theorem dX3_isThere_55 : decode cX3_isThere 55 = .ok (.ireturn, 1) := by decide +kernel
theorem dX3_isThere_56 : decode cX3_isThere 56 = .ok (.iload_n 2, 1) := by decide +kernel
theorem dX3_isThere_57 : decode cX3_isThere 57 = .ok (.bipush (-9), 2) := by decide +kernel
theorem dX3_isThere_59 : decode cX3_isThere 59 = .ok (.if_icmp .eq 9, 3) := by decide +kernel
theorem dX3_isThere_62 : decode cX3_isThere 62 = .ok (.iload_n 3, 1) := by decide +kernel
theorem dX3_isThere_63 : decode cX3_isThere 63 = .ok (.bipush 9, 2) := by decide +kernel
theorem dX3_isThere_65 : decode cX3_isThere 65 = .ok (.if_icmp .ne 7, 3) := by decide +kernel
theorem dX3_isThere_68 : decode cX3_isThere 68 = .ok (.iconst 1, 1) := by decide +kernel
theorem dX3_isThere_69 : decode cX3_isThere 69 = .ok (.goto 4, 3) := by decide +kernel
theorem dX3_isThere_72 : decode cX3_isThere 72 = .ok (.iconst 0, 1) := by decide +kernel
theorem dX3_isThere_73 : decode cX3_isThere 73 = .ok (.istore 5, 2) := by decide +kernel
theorem dX3_isThere_75 : decode cX3_isThere 75 = .ok (.iload 5, 2) := by decide +kernel
theorem dX3_isThere_77 : decode cX3_isThere 77 = .ok (.ifCond .eq 61, 3) := by decide +kernel
theorem dX3_isThere_80 : decode cX3_isThere 80 = .ok (.aload_n 0, 1) := by decide +kernel
theorem dX3_isThere_81 : decode cX3_isThere 81 = .ok (.getfield 13, 3) := by decide +kernel
theorem dX3_isThere_84 : decode cX3_isThere 84 = .ok (.iload 4, 2) := by decide +kernel
theorem dX3_isThere_86 : decode cX3_isThere 86 = .ok (.iaload, 1) := by decide +kernel
theorem dX3_isThere_87 : decode cX3_isThere 87 = .ok (.ifCond .ne 55, 3) := by decide +kernel
theorem dX3_isThere_90 : decode cX3_isThere 90 = .ok (.aload_n 0, 1) := by decide +kernel
theorem dX3_isThere_91 : decode cX3_isThere 91 = .ok (.getfield 13, 3) := by decide +kernel
theorem dX3_isThere_94 : decode cX3_isThere 94 = .ok (.iload 4, 2) := by decide +kernel
theorem dX3_isThere_96 : decode cX3_isThere 96 = .ok (.iconst 1, 1) := by decide +kernel
theorem dX3_isThere_97 : decode cX3_isThere 97 = .ok (.iadd, 1) := by decide +kernel
theorem dX3_isThere_98 : decode cX3_isThere 98 = .ok (.iaload, 1) := by decide +kernel
theorem dX3_isThere_99 : decode cX3_isThere 99 = .ok (.ifCond .ne 43, 3) := by decide +kernel
theorem dX3_isThere_102 : decode cX3_isThere 102 = .ok (.aload_n 0, 1) := by decide +kernel
theorem dX3_isThere_103 : decode cX3_isThere 103 = .ok (.getfield 13, 3) := by decide +kernel
theorem dX3_isThere_106 : decode cX3_isThere 106 = .ok (.iload 4, 2) := by decide +kernel
theorem dX3_isThere_108 : decode cX3_isThere 108 = .ok (.iconst 2, 1) := by decide +kernel
theorem dX3_isThere_109 : decode cX3_isThere 109 = .ok (.iadd, 1) := by decide +kernel
theorem dX3_isThere_110 : decode cX3_isThere 110 = .ok (.iaload, 1) := by decide +kernel
theorem dX3_isThere_111 : decode cX3_isThere 111 = .ok (.ifCond .ne 31, 3) := by decide +kernel
theorem dX3_isThere_114 : decode cX3_isThere 114 = .ok (.aload_n 0, 1) := by decide +kernel
theorem dX3_isThere_115 : decode cX3_isThere 115 = .ok (.getfield 13, 3) := by decide +kernel
theorem dX3_isThere_118 : decode cX3_isThere 118 = .ok (.iload 4, 2) := by decide +kernel
theorem dX3_isThere_120 : decode cX3_isThere 120 = .ok (.iconst 3, 1) := by decide +kernel
theorem dX3_isThere_121 : decode cX3_isThere 121 = .ok (.iadd, 1) := by decide +kernel
theorem dX3_isThere_122 : decode cX3_isThere 122 = .ok (.iaload, 1) := by decide +kernel
theorem dX3_isThere_123 : decode cX3_isThere 123 = .ok (.ifCond .ne 19, 3) := by decide +kernel
theorem dX3_isThere_126 : decode cX3_isThere 126 = .ok (.aload_n 0, 1) := by decide +kernel
theorem dX3_isThere_127 : decode cX3_isThere 127 = .ok (.getfield 13, 3) := by decide +kernel
theorem dX3_isThere_130 : decode cX3_isThere 130 = .ok (.iload 4, 2) := by decide +kernel
theorem dX3_isThere_132 : decode cX3_isThere 132 = .ok (.iconst 4, 1) := by decide +kernel
theorem dX3_isThere_133 : decode cX3_isThere 133 = .ok (.iadd, 1) := by decide +kernel
theorem dX3_isThere_134 : decode cX3_isThere 134 = .ok (.iaload, 1) := by decide +kernel
theorem dX3_isThere_135 : decode cX3_isThere 135 = .ok (.ifCond .ne 7, 3) := by decide +kernel
theorem dX3_isThere_138 : decode cX3_isThere 138 = .ok (.iconst 1, 1) := by decide +kernel
theorem dX3_isThere_139 : decode cX3_isThere 139 = .ok (.goto 4, 3) := by decide +kernel
theorem dX3_isThere_142 : decode cX3_isThere 142 = .ok (.iconst 0, 1) := by decide +kernel
theorem dX3_isThere_143 : decode cX3_isThere 143 = .ok (.ireturn, 1) := by decide +kernel
theorem dX3_putEnd_0 : decode cX3_putEnd 0 = .ok (.bipush 8, 2) := by decide +kernel
theorem dX3_putEnd_2 : decode cX3_putEnd 2 = .ok (.iload_n 1, 1) := by decide +kernel
theorem dX3_putEnd_3 : decode cX3_putEnd 3 = .ok (.imul, 1) := by decide +kernel
theorem dX3_putEnd_4 : decode cX3_putEnd 4 = .ok (.istore 4, 2) := by decide +kernel
theorem dX3_putEnd_6 : decode cX3_putEnd 6 = .ok (.iload_n 3, 1) := by decide +kernel
theorem dX3_putEnd_7 : decode cX3_putEnd 7 = .ok (.i2l, 1) := by decide +kernel
theorem dX3_putEnd_8 : decode cX3_putEnd 8 = .ok (.lstore 5, 2) := by decide +kernel
theorem dX3_putEnd_10 : decode cX3_putEnd 10 = .ok (.iconst 0, 1) := by decide +kernel
theorem dX3_putEnd_11 : decode cX3_putEnd 11 = .ok (.istore 7, 2) := by decide +kernel
theorem dX3_putEnd_13 : decode cX3_putEnd 13 = .ok (.iload 7, 2) := by decide +kernel
theorem dX3_putEnd_15 : decode cX3_putEnd 15 = .ok (.iconst 4, 1) := by decide +kernel
theorem dX3_putEnd_16 : decode cX3_putEnd 16 = .ok (.if_icmp .ge 39, 3) := by decide +kernel
theorem dX3_putEnd_19 : decode cX3_putEnd 19 = .ok (.lload 5, 2) := by decide +kernel
theorem dX3_putEnd_21 : decode cX3_putEnd 21 = .ok (.iload_n 2, 1) := by decide +kernel
theorem dX3_putEnd_22 : decode cX3_putEnd 22 = .ok (.i2l, 1) := by decide +kernel
theorem dX3_putEnd_23 : decode cX3_putEnd 23 = .ok (.lmul, 1) := by decide +kernel
theorem dX3_putEnd_24 : decode cX3_putEnd 24 = .ok (.lstore 5, 2) := by decide +kernel
theorem dX3_putEnd_26 : decode cX3_putEnd 26 = .ok (.aload_n 0, 1) := by decide +kernel
theorem dX3_putEnd_27 : decode cX3_putEnd 27 = .ok (.lload 5, 2) := by decide +kernel
theorem dX3_putEnd_29 : decode cX3_putEnd 29 = .ok (.aload_n 0, 1) := by decide +kernel
theorem dX3_putEnd_30 : decode cX3_putEnd 30 = .ok (.getfield 13, 3) := by decide +kernel
theorem dX3_putEnd_33 : decode cX3_putEnd 33 = .ok (.iload 4, 2) := by decide +kernel
theorem dX3_putEnd_35 : decode cX3_putEnd 35 = .ok (.iload 7, 2) := by decide +kernel
theorem dX3_putEnd_37 : decode cX3_putEnd 37 = .ok (.iadd, 1) := by decide +kernel
theorem dX3_putEnd_38 : decode cX3_putEnd 38 = .ok (.iaload, 1) := by decide +kernel
theorem dX3_putEnd_39 : decode cX3_putEnd 39 = .ok (.i2l, 1) := by decide +kernel
theorem dX3_putEnd_40 : decode cX3_putEnd 40 = .ok (.lmul, 1) := by decide +kernel
theorem dX3_putEnd_41 : decode cX3_putEnd 41 = .ok (.iload 7, 2) := by decide +kernel
theorem dX3_putEnd_43 : decode cX3_putEnd 43 = .ok (.i2l, 1) := by decide +kernel
theorem dX3_putEnd_44 : decode cX3_putEnd 44 = .ok (.lconst 1, 1) := by decide +kernel
theorem dX3_putEnd_45 : decode cX3_putEnd 45 = .ok (.ladd, 1) := by decide +kernel
theorem dX3_putEnd_46 : decode cX3_putEnd 46 = .ok (.invokevirtual 68, 3) := by decide +kernel
theorem dX3_putEnd_49 : decode cX3_putEnd 49 = .ok (.iinc 7 1, 3) := by decide +kernel
theorem dX3_putEnd_52 : decode cX3_putEnd 52 = .ok (.goto (-39), 3) := by decide +kernel
theorem dX3_putEnd_55 : decode cX3_putEnd 55 = .ok (.aload_n 0, 1) := by decide +kernel
theorem dX3_putEnd_56 : decode cX3_putEnd 56 = .ok (.iload_n 1, 1) := by decide +kernel
theorem dX3_putEnd_57 : decode cX3_putEnd 57 = .ok (.invokevirtual 58, 3) := by decide +kernel
theorem dX3_putEnd_60 : decode cX3_putEnd 60 = .ok (.ifCond .ne 4, 3) := by decide +kernel
theorem dX3_putEnd_63 : decode cX3_putEnd 63 = .ok (.return_, 1) := by decide +kernel
theorem dX3_putEnd_64 : decode cX3_putEnd 64 = .ok (.iload_n 2, 1) := by decide +kernel
theorem dX3_putEnd_65 : decode cX3_putEnd 65 = .ok (.aload_n 0, 1) := by decide +kernel
theorem dX3_putEnd_66 : decode cX3_putEnd 66 = .ok (.getfield 13, 3) := by decide +kernel
theorem dX3_putEnd_69 : decode cX3_putEnd 69 = .ok (.iload 4, 2) := by decide +kernel
theorem dX3_putEnd_71 : decode cX3_putEnd 71 = .ok (.bipush 7, 2) := by decide +kernel
theorem dX3_putEnd_73 : decode cX3_putEnd 73 = .ok (.iadd, 1) := by decide +kernel
theorem dX3_putEnd_74 : decode cX3_putEnd 74 = .ok (.iaload, 1) := by decide +kernel
theorem dX3_putEnd_75 : decode cX3_putEnd 75 = .ok (.isub, 1) := by decide +kernel
theorem dX3_putEnd_76 : decode cX3_putEnd 76 = .ok (.istore 7, 2) := by decide +kernel
theorem dX3_putEnd_78 : decode cX3_putEnd 78 = .ok (.aload_n 0, 1) := by decide +kernel
theorem dX3_putEnd_79 : decode cX3_putEnd 79 = .ok (.iload 7, 2) := by decide +kernel
theorem dX3_putEnd_81 : decode cX3_putEnd 81 = .ok (.iload_n 3, 1) := by decide +kernel
theorem dX3_putEnd_82 : decode cX3_putEnd 82 = .ok (.aload_n 0, 1) := by decide +kernel
theorem dX3_putEnd_83 : decode cX3_putEnd 83 = .ok (.getfield 13, 3) := by decide +kernel
theorem dX3_putEnd_86 : decode cX3_putEnd 86 = .ok (.iload 4, 2) := by decide +kernel
theorem dX3_putEnd_88 : decode cX3_putEnd 88 = .ok (.iconst 4, 1) := by decide +kernel
theorem dX3_putEnd_89 : decode cX3_putEnd 89 = .ok (.iadd, 1) := by decide +kernel
theorem dX3_putEnd_90 : decode cX3_putEnd 90 = .ok (.iaload, 1) := by decide +kernel
theorem dX3_putEnd_91 : decode cX3_putEnd 91 = .ok (.imul, 1) := by decide +kernel
theorem dX3_putEnd_92 : decode cX3_putEnd 92 = .ok (.invokevirtual 72, 3) := by decide +kernel
theorem dX3_putEnd_95 : decode cX3_putEnd 95 = .ok (.aload_n 0, 1) := by decide +kernel
theorem dX3_putEnd_96 : decode cX3_putEnd 96 = .ok (.iload_n 3, 1) := by decide +kernel
theorem dX3_putEnd_97 : decode cX3_putEnd 97 = .ok (.ineg, 1) := by decide +kernel
theorem dX3_putEnd_98 : decode cX3_putEnd 98 = .ok (.i2l, 1) := by decide +kernel
theorem dX3_putEnd_99 : decode cX3_putEnd 99 = .ok (.aload_n 0, 1) := by decide +kernel
theorem dX3_putEnd_100 : decode cX3_putEnd 100 = .ok (.getfield 13, 3) := by decide +kernel
theorem dX3_putEnd_103 : decode cX3_putEnd 103 = .ok (.iload 4, 2) := by decide +kernel
theorem dX3_putEnd_105 : decode cX3_putEnd 105 = .ok (.iconst 5, 1) := by decide +kernel
theorem dX3_putEnd_106 : decode cX3_putEnd 106 = .ok (.iadd, 1) := by decide +kernel
theorem dX3_putEnd_107 : decode cX3_putEnd 107 = .ok (.iaload, 1) := by decide +kernel
theorem dX3_putEnd_108 : decode cX3_putEnd 108 = .ok (.i2l, 1) := by decide +kernel
theorem dX3_putEnd_109 : decode cX3_putEnd 109 = .ok (.lmul, 1) := by decide +kernel
theorem dX3_putEnd_110 : decode cX3_putEnd 110 = .ok (.iload 7, 2) := by decide +kernel
theorem dX3_putEnd_112 : decode cX3_putEnd 112 = .ok (.i2l, 1) := by decide +kernel
theorem dX3_putEnd_113 : decode cX3_putEnd 113 = .ok (.invokevirtual 68, 3) := by decide +kernel
theorem dX3_putEnd_116 : decode cX3_putEnd 116 = .ok (.aload_n 0, 1) := by decide +kernel
theorem dX3_putEnd_117 : decode cX3_putEnd 117 = .ok (.iload_n 3, 1) := by decide +kernel
theorem dX3_putEnd_118 : decode cX3_putEnd 118 = .ok (.ineg, 1) := by decide +kernel
theorem dX3_putEnd_119 : decode cX3_putEnd 119 = .ok (.i2l, 1) := by decide +kernel
theorem dX3_putEnd_120 : decode cX3_putEnd 120 = .ok (.aload_n 0, 1) := by decide +kernel
theorem dX3_putEnd_121 : decode cX3_putEnd 121 = .ok (.getfield 13, 3) := by decide +kernel
theorem dX3_putEnd_124 : decode cX3_putEnd 124 = .ok (.iload 4, 2) := by decide +kernel
theorem dX3_putEnd_126 : decode cX3_putEnd 126 = .ok (.bipush 6, 2) := by decide +kernel
theorem dX3_putEnd_128 : decode cX3_putEnd 128 = .ok (.iadd, 1) := by decide +kernel
theorem dX3_putEnd_129 : decode cX3_putEnd 129 = .ok (.iaload, 1) := by decide +kernel
theorem dX3_putEnd_130 : decode cX3_putEnd 130 = .ok (.i2l, 1) := by decide +kernel
theorem dX3_putEnd_131 : decode cX3_putEnd 131 = .ok (.lmul, 1) := by decide +kernel
theorem dX3_putEnd_132 : decode cX3_putEnd 132 = .ok (.ldc2_w 76, 3) := by decide +kernel
theorem dX3_putEnd_135 : decode cX3_putEnd 135 = .ok (.iload 7, 2) := by decide +kernel
theorem dX3_putEnd_137 : decode cX3_putEnd 137 = .ok (.i2l, 1) := by decide +kernel
theorem dX3_putEnd_138 : decode cX3_putEnd 138 = .ok (.lmul, 1) := by decide +kernel
theorem dX3_putEnd_139 : decode cX3_putEnd 139 = .ok (.iload 7, 2) := by decide +kernel
theorem dX3_putEnd_141 : decode cX3_putEnd 141 = .ok (.i2l, 1) := by decide +kernel
theorem dX3_putEnd_142 : decode cX3_putEnd 142 = .ok (.lmul, 1) := by decide +kernel
theorem dX3_putEnd_143 : decode cX3_putEnd 143 = .ok (.invokevirtual 68, 3) := by decide +kernel
theorem dX3_putEnd_146 : decode cX3_putEnd 146 = .ok (.return_, 1) := by decide +kernel
theorem dX3_integral_0 : decode cX3_integral 0 = .ok (.iload_n 1, 1) := by decide +kernel
theorem dX3_integral_1 : decode cX3_integral 1 = .ok (.bipush (-6), 2) := by decide +kernel
theorem dX3_integral_3 : decode cX3_integral 3 = .ok (.bipush 6, 2) := by decide +kernel
theorem dX3_integral_5 : decode cX3_integral 5 = .ok (.invokestatic 35, 3) := by decide +kernel
theorem dX3_integral_8 : decode cX3_integral 8 = .ok (.ifCond .ne 15, 3) := by decide +kernel
theorem dX3_integral_11 : decode cX3_integral 11 = .ok (.iload_n 1, 1) := by decide +kernel
theorem dX3_integral_12 : decode cX3_integral 12 = .ok (.bipush (-9), 2) := by decide +kernel
theorem dX3_integral_14 : decode cX3_integral 14 = .ok (.if_icmp .eq 9, 3) := by decide +kernel
theorem dX3_integral_17 : decode cX3_integral 17 = .ok (.iload_n 1, 1) := by decide +kernel
theorem dX3_integral_18 : decode cX3_integral 18 = .ok (.bipush 9, 2) := by decide +kernel
theorem dX3_integral_20 : decode cX3_integral 20 = .ok (.if_icmp .ne 30, 3) := by decide +kernel
theorem dX3_integral_23 : decode cX3_integral 23 = .ok (.iload_n 2, 1) := by decide +kernel
theorem dX3_integral_24 : decode cX3_integral 24 = .ok (.bipush (-6), 2) := by decide +kernel
theorem dX3_integral_26 : decode cX3_integral 26 = .ok (.bipush 6, 2) := by decide +kernel
theorem dX3_integral_28 : decode cX3_integral 28 = .ok (.invokestatic 35, 3) := by decide +kernel
theorem dX3_integral_31 : decode cX3_integral 31 = .ok (.ifCond .ne 15, 3) := by decide +kernel
theorem dX3_integral_34 : decode cX3_integral 34 = .ok (.iload_n 2, 1) := by decide +kernel
theorem dX3_integral_35 : decode cX3_integral 35 = .ok (.bipush (-9), 2) := by decide +kernel
theorem dX3_integral_37 : decode cX3_integral 37 = .ok (.if_icmp .eq 9, 3) := by decide +kernel
theorem dX3_integral_40 : decode cX3_integral 40 = .ok (.iload_n 2, 1) := by decide +kernel
theorem dX3_integral_41 : decode cX3_integral 41 = .ok (.bipush 9, 2) := by decide +kernel
theorem dX3_integral_43 : decode cX3_integral 43 = .ok (.if_icmp .ne 7, 3) := by decide +kernel
theorem dX3_integral_46 : decode cX3_integral 46 = .ok (.iconst 1, 1) := by decide +kernel
theorem dX3_integral_47 : decode cX3_integral 47 = .ok (.goto 4, 3) := by decide +kernel
theorem dX3_integral_50 : decode cX3_integral 50 = .ok (.iconst 0, 1) := by decide +kernel
theorem dX3_integral_51 : decode cX3_integral 51 = .ok (.istore_n 3, 1) := by decide +kernel
theorem dX3_integral_52 : decode cX3_integral 52 = .ok (.aload_n 0, 1) := by decide +kernel
theorem dX3_integral_53 : decode cX3_integral 53 = .ok (.iload_n 3, 1) := by decide +kernel
theorem dX3_integral_54 : decode cX3_integral 54 = .ok (.ifCond .eq 7, 3) := by decide +kernel
theorem dX3_integral_57 : decode cX3_integral 57 = .ok (.iconst 0, 1) := by decide +kernel
theorem dX3_integral_58 : decode cX3_integral 58 = .ok (.goto 4, 3) := by decide +kernel
theorem dX3_integral_61 : decode cX3_integral 61 = .ok (.iconst 1, 1) := by decide +kernel
theorem dX3_integral_62 : decode cX3_integral 62 = .ok (.putfield 28, 3) := by decide +kernel
theorem dX3_integral_65 : decode cX3_integral 65 = .ok (.aload_n 0, 1) := by decide +kernel
theorem dX3_integral_66 : decode cX3_integral 66 = .ok (.getfield 28, 3) := by decide +kernel
theorem dX3_integral_69 : decode cX3_integral 69 = .ok (.ifCond .le 5, 3) := by decide +kernel
theorem dX3_integral_72 : decode cX3_integral 72 = .ok (.iconst 0, 1) := by decide +kernel
theorem dX3_integral_73 : decode cX3_integral 73 = .ok (.ireturn, 1) := by decide +kernel
theorem dX3_integral_74 : decode cX3_integral 74 = .ok (.aload_n 0, 1) := by decide +kernel
theorem dX3_integral_75 : decode cX3_integral 75 = .ok (.iconst 0, 1) := by decide +kernel
theorem dX3_integral_76 : decode cX3_integral 76 = .ok (.putfield 43, 3) := by decide +kernel
theorem dX3_integral_79 : decode cX3_integral 79 = .ok (.iload_n 1, 1) := by decide +kernel
theorem dX3_integral_80 : decode cX3_integral 80 = .ok (.iload_n 2, 1) := by decide +kernel
theorem dX3_integral_81 : decode cX3_integral 81 = .ok (.if_icmp .le 7, 3) := by decide +kernel
theorem dX3_integral_84 : decode cX3_integral 84 = .ok (.iconst (-1), 1) := by decide +kernel
theorem dX3_integral_85 : decode cX3_integral 85 = .ok (.goto 4, 3) := by decide +kernel
theorem dX3_integral_88 : decode cX3_integral 88 = .ok (.iconst 1, 1) := by decide +kernel
theorem dX3_integral_89 : decode cX3_integral 89 = .ok (.istore 4, 2) := by decide +kernel
theorem dX3_integral_91 : decode cX3_integral 91 = .ok (.iload_n 1, 1) := by decide +kernel
theorem dX3_integral_92 : decode cX3_integral 92 = .ok (.iload_n 2, 1) := by decide +kernel
theorem dX3_integral_93 : decode cX3_integral 93 = .ok (.if_icmp .le 7, 3) := by decide +kernel
theorem dX3_integral_96 : decode cX3_integral 96 = .ok (.iload_n 2, 1) := by decide +kernel
theorem dX3_integral_97 : decode cX3_integral 97 = .ok (.goto 4, 3) := by decide +kernel
theorem dX3_integral_100 : decode cX3_integral 100 = .ok (.iload_n 1, 1) := by decide +kernel
theorem dX3_integral_101 : decode cX3_integral 101 = .ok (.istore 5, 2) := by decide +kernel
theorem dX3_integral_103 : decode cX3_integral 103 = .ok (.iload_n 1, 1) := by decide +kernel
theorem dX3_integral_104 : decode cX3_integral 104 = .ok (.iload_n 2, 1) := by decide +kernel
theorem dX3_integral_105 : decode cX3_integral 105 = .ok (.if_icmp .le 7, 3) := by decide +kernel
theorem dX3_integral_108 : decode cX3_integral 108 = .ok (.iload_n 1, 1) := by decide +kernel
theorem dX3_integral_109 : decode cX3_integral 109 = .ok (.goto 4, 3) := by decide +kernel
theorem dX3_integral_112 : decode cX3_integral 112 = .ok (.iload_n 2, 1) := by decide +kernel
theorem dX3_integral_113 : decode cX3_integral 113 = .ok (.istore 6, 2) := by decide +kernel
theorem dX3_integral_115 : decode cX3_integral 115 = .ok (.aload_n 0, 1) := by decide +kernel
theorem dX3_integral_116 : decode cX3_integral 116 = .ok (.invokevirtual 65, 3) := by decide +kernel
theorem dX3_integral_119 : decode cX3_integral 119 = .ok (.iconst 0, 1) := by decide +kernel
theorem dX3_integral_120 : decode cX3_integral 120 = .ok (.istore 7, 2) := by decide +kernel
theorem dX3_integral_122 : decode cX3_integral 122 = .ok (.iload 7, 2) := by decide +kernel
theorem dX3_integral_124 : decode cX3_integral 124 = .ok (.aload_n 0, 1) := by decide +kernel
theorem dX3_integral_125 : decode cX3_integral 125 = .ok (.getfield 32, 3) := by decide +kernel
theorem dX3_integral_128 : decode cX3_integral 128 = .ok (.if_icmp .gt 139, 3) := by decide +kernel
theorem dX3_integral_131 : decode cX3_integral 131 = .ok (.iload 7, 2) := by decide +kernel
theorem dX3_integral_133 : decode cX3_integral 133 = .ok (.ifCond .le 29, 3) := by decide +kernel
theorem dX3_integral_136 : decode cX3_integral 136 = .ok (.aload_n 0, 1) := by decide +kernel
theorem dX3_integral_137 : decode cX3_integral 137 = .ok (.getfield 7, 3) := by decide +kernel
theorem dX3_integral_140 : decode cX3_integral 140 = .ok (.iload 7, 2) := by decide +kernel
theorem dX3_integral_142 : decode cX3_integral 142 = .ok (.iconst 1, 1) := by decide +kernel
theorem dX3_integral_143 : decode cX3_integral 143 = .ok (.isub, 1) := by decide +kernel
theorem dX3_integral_144 : decode cX3_integral 144 = .ok (.iaload, 1) := by decide +kernel
theorem dX3_integral_145 : decode cX3_integral 145 = .ok (.iload 5, 2) := by decide +kernel
theorem dX3_integral_147 : decode cX3_integral 147 = .ok (.if_icmp .le 15, 3) := by decide +kernel
theorem dX3_integral_150 : decode cX3_integral 150 = .ok (.aload_n 0, 1) := by decide +kernel
theorem dX3_integral_151 : decode cX3_integral 151 = .ok (.getfield 7, 3) := by decide +kernel
theorem dX3_integral_154 : decode cX3_integral 154 = .ok (.iload 7, 2) := by decide +kernel
theorem dX3_integral_156 : decode cX3_integral 156 = .ok (.iconst 1, 1) := by decide +kernel
theorem dX3_integral_157 : decode cX3_integral 157 = .ok (.isub, 1) := by decide +kernel
theorem dX3_integral_158 : decode cX3_integral 158 = .ok (.iaload, 1) := by decide +kernel
theorem dX3_integral_159 : decode cX3_integral 159 = .ok (.goto 5, 3) := by decide +kernel
theorem dX3_integral_162 : decode cX3_integral 162 = .ok (.iload 5, 2) := by decide +kernel
theorem dX3_integral_164 : decode cX3_integral 164 = .ok (.istore 8, 2) := by decide +kernel
theorem dX3_integral_166 : decode cX3_integral 166 = .ok (.iload 7, 2) := by decide +kernel
theorem dX3_integral_168 : decode cX3_integral 168 = .ok (.aload_n 0, 1) := by decide +kernel
theorem dX3_integral_169 : decode cX3_integral 169 = .ok (.getfield 32, 3) := by decide +kernel
theorem dX3_integral_172 : decode cX3_integral 172 = .ok (.if_icmp .ge 25, 3) := by decide +kernel
theorem dX3_integral_175 : decode cX3_integral 175 = .ok (.aload_n 0, 1) := by decide +kernel
theorem dX3_integral_176 : decode cX3_integral 176 = .ok (.getfield 7, 3) := by decide +kernel
theorem dX3_integral_179 : decode cX3_integral 179 = .ok (.iload 7, 2) := by decide +kernel
theorem dX3_integral_181 : decode cX3_integral 181 = .ok (.iaload, 1) := by decide +kernel
theorem dX3_integral_182 : decode cX3_integral 182 = .ok (.iload 6, 2) := by decide +kernel
theorem dX3_integral_184 : decode cX3_integral 184 = .ok (.if_icmp .ge 13, 3) := by decide +kernel
theorem dX3_integral_187 : decode cX3_integral 187 = .ok (.aload_n 0, 1) := by decide +kernel
theorem dX3_integral_188 : decode cX3_integral 188 = .ok (.getfield 7, 3) := by decide +kernel
theorem dX3_integral_191 : decode cX3_integral 191 = .ok (.iload 7, 2) := by decide +kernel
theorem dX3_integral_193 : decode cX3_integral 193 = .ok (.iaload, 1) := by decide +kernel
theorem dX3_integral_194 : decode cX3_integral 194 = .ok (.goto 5, 3) := by decide +kernel
theorem dX3_integral_197 : decode cX3_integral 197 = .ok (.iload 6, 2) := by decide +kernel
theorem dX3_integral_199 : decode cX3_integral 199 = .ok (.istore 9, 2) := by decide +kernel
theorem dX3_integral_201 : decode cX3_integral 201 = .ok (.iload 8, 2) := by decide +kernel
theorem dX3_integral_203 : decode cX3_integral 203 = .ok (.iload 9, 2) := by decide +kernel
theorem dX3_integral_205 : decode cX3_integral 205 = .ok (.if_icmp .lt 6, 3) := by decide +kernel
theorem dX3_integral_208 : decode cX3_integral 208 = .ok (.goto 53, 3) := by decide +kernel
theorem dX3_integral_211 : decode cX3_integral 211 = .ok (.aload_n 0, 1) := by decide +kernel
theorem dX3_integral_212 : decode cX3_integral 212 = .ok (.iload 7, 2) := by decide +kernel
theorem dX3_integral_214 : decode cX3_integral 214 = .ok (.iload 8, 2) := by decide +kernel
theorem dX3_integral_216 : decode cX3_integral 216 = .ok (.iload 9, 2) := by decide +kernel
theorem dX3_integral_218 : decode cX3_integral 218 = .ok (.invokevirtual 78, 3) := by decide +kernel
theorem dX3_integral_221 : decode cX3_integral 221 = .ok (.ifCond .ne 5, 3) := by decide +kernel
theorem dX3_integral_224 : decode cX3_integral 224 = .ok (.iconst 0, 1) := by decide +kernel
theorem dX3_integral_225 : decode cX3_integral 225 = .ok (.ireturn, 1) := by decide +kernel
theorem dX3_integral_226 : decode cX3_integral 226 = .ok (.iload 9, 2) := by decide +kernel
theorem dX3_integral_228 : decode cX3_integral 228 = .ok (.bipush 9, 2) := by decide +kernel
theorem dX3_integral_230 : decode cX3_integral 230 = .ok (.if_icmp .eq 13, 3) := by decide +kernel
theorem dX3_integral_233 : decode cX3_integral 233 = .ok (.aload_n 0, 1) := by decide +kernel
theorem dX3_integral_234 : decode cX3_integral 234 = .ok (.iload 7, 2) := by decide +kernel
theorem dX3_integral_236 : decode cX3_integral 236 = .ok (.iload 9, 2) := by decide +kernel
theorem dX3_integral_238 : decode cX3_integral 238 = .ok (.iload 4, 2) := by decide +kernel
theorem dX3_integral_240 : decode cX3_integral 240 = .ok (.invokevirtual 81, 3) := by decide +kernel
theorem dX3_integral_243 : decode cX3_integral 243 = .ok (.iload 8, 2) := by decide +kernel
theorem dX3_integral_245 : decode cX3_integral 245 = .ok (.bipush (-9), 2) := by decide +kernel
theorem dX3_integral_247 : decode cX3_integral 247 = .ok (.if_icmp .eq 14, 3) := by decide +kernel
theorem dX3_integral_250 : decode cX3_integral 250 = .ok (.aload_n 0, 1) := by decide +kernel
theorem dX3_integral_251 : decode cX3_integral 251 = .ok (.iload 7, 2) := by decide +kernel
theorem dX3_integral_253 : decode cX3_integral 253 = .ok (.iload 8, 2) := by decide +kernel
theorem dX3_integral_255 : decode cX3_integral 255 = .ok (.iload 4, 2) := by decide +kernel
theorem dX3_integral_257 : decode cX3_integral 257 = .ok (.ineg, 1) := by decide +kernel
theorem dX3_integral_258 : decode cX3_integral 258 = .ok (.invokevirtual 81, 3) := by decide +kernel
theorem dX3_integral_261 : decode cX3_integral 261 = .ok (.iinc 7 1, 3) := by decide +kernel
theorem dX3_integral_264 : decode cX3_integral 264 = .ok (.goto (-142), 3) := by decide +kernel
theorem dX3_integral_267 : decode cX3_integral 267 = .ok (.aload_n 0, 1) := by decide +kernel
theorem dX3_integral_268 : decode cX3_integral 268 = .ok (.iconst 1, 1) := by decide +kernel
theorem dX3_integral_269 : decode cX3_integral 269 = .ok (.putfield 43, 3) := by decide +kernel
theorem dX3_integral_272 : decode cX3_integral 272 = .ok (.aload_n 0, 1) := by decide +kernel
theorem dX3_integral_273 : decode cX3_integral 273 = .ok (.aload_n 0, 1) := by decide +kernel
theorem dX3_integral_274 : decode cX3_integral 274 = .ok (.getfield 47, 3) := by decide +kernel
theorem dX3_integral_277 : decode cX3_integral 277 = .ok (.putfield 85, 3) := by decide +kernel
theorem dX3_integral_280 : decode cX3_integral 280 = .ok (.aload_n 0, 1) := by decide +kernel
theorem dX3_integral_281 : decode cX3_integral 281 = .ok (.aload_n 0, 1) := by decide +kernel
theorem dX3_integral_282 : decode cX3_integral 282 = .ok (.getfield 51, 3) := by decide +kernel
theorem dX3_integral_285 : decode cX3_integral 285 = .ok (.putfield 88, 3) := by decide +kernel
theorem dX3_integral_288 : decode cX3_integral 288 = .ok (.iconst 0, 1) := by decide +kernel
theorem dX3_integral_289 : decode cX3_integral 289 = .ok (.istore 7, 2) := by decide +kernel
theorem dX3_integral_291 : decode cX3_integral 291 = .ok (.iload 7, 2) := by decide +kernel
theorem dX3_integral_293 : decode cX3_integral 293 = .ok (.iconst 5, 1) := by decide +kernel
theorem dX3_integral_294 : decode cX3_integral 294 = .ok (.if_icmp .ge 23, 3) := by decide +kernel
theorem dX3_integral_297 : decode cX3_integral 297 = .ok (.aload_n 0, 1) := by decide +kernel
theorem dX3_integral_298 : decode cX3_integral 298 = .ok (.getfield 22, 3) := by decide +kernel
theorem dX3_integral_301 : decode cX3_integral 301 = .ok (.iload 7, 2) := by decide +kernel
theorem dX3_integral_303 : decode cX3_integral 303 = .ok (.aload_n 0, 1) := by decide +kernel
theorem dX3_integral_304 : decode cX3_integral 304 = .ok (.getfield 25, 3) := by decide +kernel
theorem dX3_integral_307 : decode cX3_integral 307 = .ok (.iload 7, 2) := by decide +kernel
theorem dX3_integral_309 : decode cX3_integral 309 = .ok (.iaload, 1) := by decide +kernel
theorem dX3_integral_310 : decode cX3_integral 310 = .ok (.iastore, 1) := by decide +kernel
theorem dX3_integral_311 : decode cX3_integral 311 = .ok (.iinc 7 1, 3) := by decide +kernel
theorem dX3_integral_314 : decode cX3_integral 314 = .ok (.goto (-23), 3) := by decide +kernel
theorem dX3_integral_317 : decode cX3_integral 317 = .ok (.iconst 1, 1) := by decide +kernel
theorem dX3_integral_318 : decode cX3_integral 318 = .ok (.ireturn, 1) := by decide +kernel
theorem dX3_fraction_0 : decode cX3_fraction 0 = .ok (.aload_n 0, 1) := by decide +kernel
theorem dX3_fraction_1 : decode cX3_fraction 1 = .ok (.aload_n 0, 1) := by decide +kernel
theorem dX3_fraction_2 : decode cX3_fraction 2 = .ok (.getfield 43, 3) := by decide +kernel
theorem dX3_fraction_5 : decode cX3_fraction 5 = .ok (.ifCond .ne 7, 3) := by decide +kernel
theorem dX3_fraction_8 : decode cX3_fraction 8 = .ok (.iconst 1, 1) := by decide +kernel
theorem dX3_fraction_9 : decode cX3_fraction 9 = .ok (.goto 17, 3) := by decide +kernel
theorem dX3_fraction_12 : decode cX3_fraction 12 = .ok (.iload_n 1, 1) := by decide +kernel
theorem dX3_fraction_13 : decode cX3_fraction 13 = .ok (.iconst 0, 1) := by decide +kernel
theorem dX3_fraction_14 : decode cX3_fraction 14 = .ok (.iconst 1, 1) := by decide +kernel
theorem dX3_fraction_15 : decode cX3_fraction 15 = .ok (.invokestatic 35, 3) := by decide +kernel
theorem dX3_fraction_18 : decode cX3_fraction 18 = .ok (.ifCond .eq 7, 3) := by decide +kernel
theorem dX3_fraction_21 : decode cX3_fraction 21 = .ok (.iconst 0, 1) := by decide +kernel
theorem dX3_fraction_22 : decode cX3_fraction 22 = .ok (.goto 4, 3) := by decide +kernel
theorem dX3_fraction_25 : decode cX3_fraction 25 = .ok (.iconst 2, 1) := by decide +kernel
theorem dX3_fraction_26 : decode cX3_fraction 26 = .ok (.putfield 28, 3) := by decide +kernel
theorem dX3_fraction_29 : decode cX3_fraction 29 = .ok (.aload_n 0, 1) := by decide +kernel
theorem dX3_fraction_30 : decode cX3_fraction 30 = .ok (.getfield 28, 3) := by decide +kernel
theorem dX3_fraction_33 : decode cX3_fraction 33 = .ok (.ifCond .le 7, 3) := by decide +kernel
theorem dX3_fraction_36 : decode cX3_fraction 36 = .ok (.lconst 0, 1) := by decide +kernel
theorem dX3_fraction_37 : decode cX3_fraction 37 = .ok (.goto 18, 3) := by decide +kernel
theorem dX3_fraction_40 : decode cX3_fraction 40 = .ok (.iload_n 1, 1) := by decide +kernel
theorem dX3_fraction_41 : decode cX3_fraction 41 = .ok (.ifCond .ne 10, 3) := by decide +kernel
theorem dX3_fraction_44 : decode cX3_fraction 44 = .ok (.aload_n 0, 1) := by decide +kernel
theorem dX3_fraction_45 : decode cX3_fraction 45 = .ok (.getfield 85, 3) := by decide +kernel
theorem dX3_fraction_48 : decode cX3_fraction 48 = .ok (.goto 7, 3) := by decide +kernel
theorem dX3_fraction_51 : decode cX3_fraction 51 = .ok (.aload_n 0, 1) := by decide +kernel
theorem dX3_fraction_52 : decode cX3_fraction 52 = .ok (.getfield 88, 3) := by decide +kernel
theorem dX3_fraction_55 : decode cX3_fraction 55 = .ok (.lreturn, 1) := by decide +kernel
theorem dX3_logarithm_0 : decode cX3_logarithm 0 = .ok (.aload_n 0, 1) := by decide +kernel
theorem dX3_logarithm_1 : decode cX3_logarithm 1 = .ok (.getfield 43, 3) := by decide +kernel
theorem dX3_logarithm_4 : decode cX3_logarithm 4 = .ok (.ifCond .ne 9, 3) := by decide +kernel
theorem dX3_logarithm_7 : decode cX3_logarithm 7 = .ok (.aload_n 0, 1) := by decide +kernel
theorem dX3_logarithm_8 : decode cX3_logarithm 8 = .ok (.iconst 1, 1) := by decide +kernel
theorem dX3_logarithm_9 : decode cX3_logarithm 9 = .ok (.invokevirtual 62, 3) := by decide +kernel
theorem dX3_logarithm_12 : decode cX3_logarithm 12 = .ok (.ireturn, 1) := by decide +kernel
theorem dX3_logarithm_13 : decode cX3_logarithm 13 = .ok (.aload_n 0, 1) := by decide +kernel
theorem dX3_logarithm_14 : decode cX3_logarithm 14 = .ok (.iconst 0, 1) := by decide +kernel
theorem dX3_logarithm_15 : decode cX3_logarithm 15 = .ok (.putfield 28, 3) := by decide +kernel
theorem dX3_logarithm_18 : decode cX3_logarithm 18 = .ok (.iconst 0, 1) := by decide +kernel
theorem dX3_logarithm_19 : decode cX3_logarithm 19 = .ok (.istore_n 2, 1) := by decide +kernel
theorem dX3_logarithm_20 : decode cX3_logarithm 20 = .ok (.iload_n 2, 1) := by decide +kernel
theorem dX3_logarithm_21 : decode cX3_logarithm 21 = .ok (.iconst 5, 1) := by decide +kernel
theorem dX3_logarithm_22 : decode cX3_logarithm 22 = .ok (.if_icmp .ge 24, 3) := by decide +kernel
theorem dX3_logarithm_25 : decode cX3_logarithm 25 = .ok (.iload_n 2, 1) := by decide +kernel
theorem dX3_logarithm_26 : decode cX3_logarithm 26 = .ok (.invokestatic 54, 3) := by decide +kernel
theorem dX3_logarithm_29 : decode cX3_logarithm 29 = .ok (.iload_n 1, 1) := by decide +kernel
theorem dX3_logarithm_30 : decode cX3_logarithm 30 = .ok (.if_icmp .ne 10, 3) := by decide +kernel
theorem dX3_logarithm_33 : decode cX3_logarithm 33 = .ok (.aload_n 0, 1) := by decide +kernel
theorem dX3_logarithm_34 : decode cX3_logarithm 34 = .ok (.getfield 22, 3) := by decide +kernel
theorem dX3_logarithm_37 : decode cX3_logarithm 37 = .ok (.iload_n 2, 1) := by decide +kernel
theorem dX3_logarithm_38 : decode cX3_logarithm 38 = .ok (.iaload, 1) := by decide +kernel
theorem dX3_logarithm_39 : decode cX3_logarithm 39 = .ok (.ireturn, 1) := by decide +kernel
theorem dX3_logarithm_40 : decode cX3_logarithm 40 = .ok (.iinc 2 1, 3) := by decide +kernel
theorem dX3_logarithm_43 : decode cX3_logarithm 43 = .ok (.goto (-23), 3) := by decide +kernel
theorem dX3_logarithm_46 : decode cX3_logarithm 46 = .ok (.aload_n 0, 1) := by decide +kernel
theorem dX3_logarithm_47 : decode cX3_logarithm 47 = .ok (.iconst 2, 1) := by decide +kernel
theorem dX3_logarithm_48 : decode cX3_logarithm 48 = .ok (.invokevirtual 62, 3) := by decide +kernel
theorem dX3_logarithm_51 : decode cX3_logarithm 51 = .ok (.ireturn, 1) := by decide +kernel
theorem dX3_pieceAt_0 : decode cX3_pieceAt 0 = .ok (.iconst 0, 1) := by decide +kernel
theorem dX3_pieceAt_1 : decode cX3_pieceAt 1 = .ok (.istore_n 2, 1) := by decide +kernel
theorem dX3_pieceAt_2 : decode cX3_pieceAt 2 = .ok (.iload_n 2, 1) := by decide +kernel
theorem dX3_pieceAt_3 : decode cX3_pieceAt 3 = .ok (.aload_n 0, 1) := by decide +kernel
theorem dX3_pieceAt_4 : decode cX3_pieceAt 4 = .ok (.getfield 32, 3) := by decide +kernel
theorem dX3_pieceAt_7 : decode cX3_pieceAt 7 = .ok (.if_icmp .ge 21, 3) := by decide +kernel
theorem dX3_pieceAt_10 : decode cX3_pieceAt 10 = .ok (.iconst 2, 1) := by decide +kernel
theorem dX3_pieceAt_11 : decode cX3_pieceAt 11 = .ok (.aload_n 0, 1) := by decide +kernel
theorem dX3_pieceAt_12 : decode cX3_pieceAt 12 = .ok (.getfield 7, 3) := by decide +kernel
theorem dX3_pieceAt_15 : decode cX3_pieceAt 15 = .ok (.iload_n 2, 1) := by decide +kernel
theorem dX3_pieceAt_16 : decode cX3_pieceAt 16 = .ok (.iaload, 1) := by decide +kernel
theorem dX3_pieceAt_17 : decode cX3_pieceAt 17 = .ok (.imul, 1) := by decide +kernel
theorem dX3_pieceAt_18 : decode cX3_pieceAt 18 = .ok (.iload_n 1, 1) := by decide +kernel
theorem dX3_pieceAt_19 : decode cX3_pieceAt 19 = .ok (.if_icmp .ge 9, 3) := by decide +kernel
theorem dX3_pieceAt_22 : decode cX3_pieceAt 22 = .ok (.iinc 2 1, 3) := by decide +kernel
theorem dX3_pieceAt_25 : decode cX3_pieceAt 25 = .ok (.goto (-23), 3) := by decide +kernel
theorem dX3_pieceAt_28 : decode cX3_pieceAt 28 = .ok (.iload_n 2, 1) := by decide +kernel
theorem dX3_pieceAt_29 : decode cX3_pieceAt 29 = .ok (.ireturn, 1) := by decide +kernel
theorem dX3_isTurned_0 : decode cX3_isTurned 0 = .ok (.iconst 0, 1) := by decide +kernel
theorem dX3_isTurned_1 : decode cX3_isTurned 1 = .ok (.istore 4, 2) := by decide +kernel
theorem dX3_isTurned_3 : decode cX3_isTurned 3 = .ok (.iload 4, 2) := by decide +kernel
theorem dX3_isTurned_5 : decode cX3_isTurned 5 = .ok (.bipush 7, 2) := by decide +kernel
theorem dX3_isTurned_7 : decode cX3_isTurned 7 = .ok (.if_icmp .ge 39, 3) := by decide +kernel
theorem dX3_isTurned_10 : decode cX3_isTurned 10 = .ok (.aload_n 0, 1) := by decide +kernel
theorem dX3_isTurned_11 : decode cX3_isTurned 11 = .ok (.getfield 13, 3) := by decide +kernel
theorem dX3_isTurned_14 : decode cX3_isTurned 14 = .ok (.bipush 8, 2) := by decide +kernel
theorem dX3_isTurned_16 : decode cX3_isTurned 16 = .ok (.iload_n 1, 1) := by decide +kernel
theorem dX3_isTurned_17 : decode cX3_isTurned 17 = .ok (.imul, 1) := by decide +kernel
theorem dX3_isTurned_18 : decode cX3_isTurned 18 = .ok (.iload 4, 2) := by decide +kernel
theorem dX3_isTurned_20 : decode cX3_isTurned 20 = .ok (.iadd, 1) := by decide +kernel
theorem dX3_isTurned_21 : decode cX3_isTurned 21 = .ok (.iaload, 1) := by decide +kernel
theorem dX3_isTurned_22 : decode cX3_isTurned 22 = .ok (.iload_n 3, 1) := by decide +kernel
theorem dX3_isTurned_23 : decode cX3_isTurned 23 = .ok (.aload_n 0, 1) := by decide +kernel
theorem dX3_isTurned_24 : decode cX3_isTurned 24 = .ok (.aload_n 0, 1) := by decide +kernel
theorem dX3_isTurned_25 : decode cX3_isTurned 25 = .ok (.getfield 13, 3) := by decide +kernel
theorem dX3_isTurned_28 : decode cX3_isTurned 28 = .ok (.iload_n 2, 1) := by decide +kernel
theorem dX3_isTurned_29 : decode cX3_isTurned 29 = .ok (.iload 4, 2) := by decide +kernel
theorem dX3_isTurned_31 : decode cX3_isTurned 31 = .ok (.invokevirtual 39, 3) := by decide +kernel
theorem dX3_isTurned_34 : decode cX3_isTurned 34 = .ok (.imul, 1) := by decide +kernel
theorem dX3_isTurned_35 : decode cX3_isTurned 35 = .ok (.if_icmp .eq 5, 3) := by decide +kernel
theorem dX3_isTurned_38 : decode cX3_isTurned 38 = .ok (.iconst 0, 1) := by decide +kernel
theorem dX3_isTurned_39 : decode cX3_isTurned 39 = .ok (.ireturn, 1) := by decide +kernel
theorem dX3_isTurned_40 : decode cX3_isTurned 40 = .ok (.iinc 4 1, 3) := by decide +kernel
theorem dX3_isTurned_43 : decode cX3_isTurned 43 = .ok (.goto (-40), 3) := by decide +kernel
theorem dX3_isTurned_46 : decode cX3_isTurned 46 = .ok (.aload_n 0, 1) := by decide +kernel
theorem dX3_isTurned_47 : decode cX3_isTurned 47 = .ok (.iload_n 1, 1) := by decide +kernel
theorem dX3_isTurned_48 : decode cX3_isTurned 48 = .ok (.invokevirtual 58, 3) := by decide +kernel
theorem dX3_isTurned_51 : decode cX3_isTurned 51 = .ok (.ifCond .eq 29, 3) := by decide +kernel
theorem dX3_isTurned_54 : decode cX3_isTurned 54 = .ok (.aload_n 0, 1) := by decide +kernel
theorem dX3_isTurned_55 : decode cX3_isTurned 55 = .ok (.getfield 13, 3) := by decide +kernel
theorem dX3_isTurned_58 : decode cX3_isTurned 58 = .ok (.bipush 8, 2) := by decide +kernel
theorem dX3_isTurned_60 : decode cX3_isTurned 60 = .ok (.iload_n 1, 1) := by decide +kernel
theorem dX3_isTurned_61 : decode cX3_isTurned 61 = .ok (.imul, 1) := by decide +kernel
theorem dX3_isTurned_62 : decode cX3_isTurned 62 = .ok (.bipush 7, 2) := by decide +kernel
theorem dX3_isTurned_64 : decode cX3_isTurned 64 = .ok (.iadd, 1) := by decide +kernel
theorem dX3_isTurned_65 : decode cX3_isTurned 65 = .ok (.iaload, 1) := by decide +kernel
theorem dX3_isTurned_66 : decode cX3_isTurned 66 = .ok (.aload_n 0, 1) := by decide +kernel
theorem dX3_isTurned_67 : decode cX3_isTurned 67 = .ok (.aload_n 0, 1) := by decide +kernel
theorem dX3_isTurned_68 : decode cX3_isTurned 68 = .ok (.getfield 13, 3) := by decide +kernel
theorem dX3_isTurned_71 : decode cX3_isTurned 71 = .ok (.iload_n 2, 1) := by decide +kernel
theorem dX3_isTurned_72 : decode cX3_isTurned 72 = .ok (.bipush 7, 2) := by decide +kernel
theorem dX3_isTurned_74 : decode cX3_isTurned 74 = .ok (.invokevirtual 39, 3) := by decide +kernel
theorem dX3_isTurned_77 : decode cX3_isTurned 77 = .ok (.if_icmp .ne 7, 3) := by decide +kernel
theorem dX3_isTurned_80 : decode cX3_isTurned 80 = .ok (.iconst 1, 1) := by decide +kernel
theorem dX3_isTurned_81 : decode cX3_isTurned 81 = .ok (.goto 4, 3) := by decide +kernel
theorem dX3_isTurned_84 : decode cX3_isTurned 84 = .ok (.iconst 0, 1) := by decide +kernel
theorem dX3_isTurned_85 : decode cX3_isTurned 85 = .ok (.ireturn, 1) := by decide +kernel
theorem dX3_symmetry_0 : decode cX3_symmetry 0 = .ok (.aload_n 0, 1) := by decide +kernel
theorem dX3_symmetry_1 : decode cX3_symmetry 1 = .ok (.iconst 0, 1) := by decide +kernel
theorem dX3_symmetry_2 : decode cX3_symmetry 2 = .ok (.putfield 28, 3) := by decide +kernel
theorem dX3_symmetry_5 : decode cX3_symmetry 5 = .ok (.iconst 1, 1) := by decide +kernel
theorem dX3_symmetry_6 : decode cX3_symmetry 6 = .ok (.istore_n 1, 1) := by decide +kernel
theorem dX3_symmetry_7 : decode cX3_symmetry 7 = .ok (.iconst 1, 1) := by decide +kernel
theorem dX3_symmetry_8 : decode cX3_symmetry 8 = .ok (.istore_n 2, 1) := by decide +kernel
theorem dX3_symmetry_9 : decode cX3_symmetry 9 = .ok (.bipush (-13), 2) := by decide +kernel
theorem dX3_symmetry_11 : decode cX3_symmetry 11 = .ok (.istore_n 3, 1) := by decide +kernel
theorem dX3_symmetry_12 : decode cX3_symmetry 12 = .ok (.iload_n 3, 1) := by decide +kernel
theorem dX3_symmetry_13 : decode cX3_symmetry 13 = .ok (.bipush 14, 2) := by decide +kernel
theorem dX3_symmetry_15 : decode cX3_symmetry 15 = .ok (.if_icmp .ge 67, 3) := by decide +kernel
theorem dX3_symmetry_18 : decode cX3_symmetry 18 = .ok (.iload_n 1, 1) := by decide +kernel
theorem dX3_symmetry_19 : decode cX3_symmetry 19 = .ok (.ifCond .eq 26, 3) := by decide +kernel
theorem dX3_symmetry_22 : decode cX3_symmetry 22 = .ok (.aload_n 0, 1) := by decide +kernel
theorem dX3_symmetry_23 : decode cX3_symmetry 23 = .ok (.aload_n 0, 1) := by decide +kernel
theorem dX3_symmetry_24 : decode cX3_symmetry 24 = .ok (.iload_n 3, 1) := by decide +kernel
theorem dX3_symmetry_25 : decode cX3_symmetry 25 = .ok (.invokevirtual 91, 3) := by decide +kernel
theorem dX3_symmetry_28 : decode cX3_symmetry 28 = .ok (.aload_n 0, 1) := by decide +kernel
theorem dX3_symmetry_29 : decode cX3_symmetry 29 = .ok (.iload_n 3, 1) := by decide +kernel
theorem dX3_symmetry_30 : decode cX3_symmetry 30 = .ok (.ineg, 1) := by decide +kernel
theorem dX3_symmetry_31 : decode cX3_symmetry 31 = .ok (.invokevirtual 91, 3) := by decide +kernel
theorem dX3_symmetry_34 : decode cX3_symmetry 34 = .ok (.iconst 1, 1) := by decide +kernel
theorem dX3_symmetry_35 : decode cX3_symmetry 35 = .ok (.invokevirtual 94, 3) := by decide +kernel
theorem dX3_symmetry_38 : decode cX3_symmetry 38 = .ok (.ifCond .eq 7, 3) := by decide +kernel
theorem dX3_symmetry_41 : decode cX3_symmetry 41 = .ok (.iconst 1, 1) := by decide +kernel
theorem dX3_symmetry_42 : decode cX3_symmetry 42 = .ok (.goto 4, 3) := by decide +kernel
theorem dX3_symmetry_45 : decode cX3_symmetry 45 = .ok (.iconst 0, 1) := by decide +kernel
theorem dX3_symmetry_46 : decode cX3_symmetry 46 = .ok (.istore_n 1, 1) := by decide +kernel
theorem dX3_symmetry_47 : decode cX3_symmetry 47 = .ok (.iload_n 2, 1) := by decide +kernel
theorem dX3_symmetry_48 : decode cX3_symmetry 48 = .ok (.ifCond .eq 26, 3) := by decide +kernel
theorem dX3_symmetry_51 : decode cX3_symmetry 51 = .ok (.aload_n 0, 1) := by decide +kernel
theorem dX3_symmetry_52 : decode cX3_symmetry 52 = .ok (.aload_n 0, 1) := by decide +kernel
theorem dX3_symmetry_53 : decode cX3_symmetry 53 = .ok (.iload_n 3, 1) := by decide +kernel
theorem dX3_symmetry_54 : decode cX3_symmetry 54 = .ok (.invokevirtual 91, 3) := by decide +kernel
theorem dX3_symmetry_57 : decode cX3_symmetry 57 = .ok (.aload_n 0, 1) := by decide +kernel
theorem dX3_symmetry_58 : decode cX3_symmetry 58 = .ok (.iload_n 3, 1) := by decide +kernel
theorem dX3_symmetry_59 : decode cX3_symmetry 59 = .ok (.ineg, 1) := by decide +kernel
theorem dX3_symmetry_60 : decode cX3_symmetry 60 = .ok (.invokevirtual 91, 3) := by decide +kernel
theorem dX3_symmetry_63 : decode cX3_symmetry 63 = .ok (.iconst (-1), 1) := by decide +kernel
theorem dX3_symmetry_64 : decode cX3_symmetry 64 = .ok (.invokevirtual 94, 3) := by decide +kernel
theorem dX3_symmetry_67 : decode cX3_symmetry 67 = .ok (.ifCond .eq 7, 3) := by decide +kernel
theorem dX3_symmetry_70 : decode cX3_symmetry 70 = .ok (.iconst 1, 1) := by decide +kernel
theorem dX3_symmetry_71 : decode cX3_symmetry 71 = .ok (.goto 4, 3) := by decide +kernel
theorem dX3_symmetry_74 : decode cX3_symmetry 74 = .ok (.iconst 0, 1) := by decide +kernel
theorem dX3_symmetry_75 : decode cX3_symmetry 75 = .ok (.istore_n 2, 1) := by decide +kernel
theorem dX3_symmetry_76 : decode cX3_symmetry 76 = .ok (.iinc 3 2, 3) := by decide +kernel
theorem dX3_symmetry_79 : decode cX3_symmetry 79 = .ok (.goto (-67), 3) := by decide +kernel
theorem dX3_symmetry_82 : decode cX3_symmetry 82 = .ok (.iload_n 1, 1) := by decide +kernel
theorem dX3_symmetry_83 : decode cX3_symmetry 83 = .ok (.ifCond .eq 11, 3) := by decide +kernel
theorem dX3_symmetry_86 : decode cX3_symmetry 86 = .ok (.iload_n 2, 1) := by decide +kernel
theorem dX3_symmetry_87 : decode cX3_symmetry 87 = .ok (.ifCond .eq 7, 3) := by decide +kernel
theorem dX3_symmetry_90 : decode cX3_symmetry 90 = .ok (.iconst 2, 1) := by decide +kernel
theorem dX3_symmetry_91 : decode cX3_symmetry 91 = .ok (.goto 20, 3) := by decide +kernel
theorem dX3_symmetry_94 : decode cX3_symmetry 94 = .ok (.iload_n 1, 1) := by decide +kernel
theorem dX3_symmetry_95 : decode cX3_symmetry 95 = .ok (.ifCond .eq 7, 3) := by decide +kernel
theorem dX3_symmetry_98 : decode cX3_symmetry 98 = .ok (.iconst 1, 1) := by decide +kernel
theorem dX3_symmetry_99 : decode cX3_symmetry 99 = .ok (.goto 12, 3) := by decide +kernel
theorem dX3_symmetry_102 : decode cX3_symmetry 102 = .ok (.iload_n 2, 1) := by decide +kernel
theorem dX3_symmetry_103 : decode cX3_symmetry 103 = .ok (.ifCond .eq 7, 3) := by decide +kernel
theorem dX3_symmetry_106 : decode cX3_symmetry 106 = .ok (.iconst (-1), 1) := by decide +kernel
theorem dX3_symmetry_107 : decode cX3_symmetry 107 = .ok (.goto 4, 3) := by decide +kernel
theorem dX3_symmetry_110 : decode cX3_symmetry 110 = .ok (.iconst 0, 1) := by decide +kernel
theorem dX3_symmetry_111 : decode cX3_symmetry 111 = .ok (.ireturn, 1) := by decide +kernel
