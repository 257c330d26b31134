/-! the instructions -/
theorem d_M_init_0 : decode b_M_init 0 = .ok (.aload_n 0, 1) := by decide +kernel
theorem d_M_init_1 : decode b_M_init 1 = .ok (.invokespecial 1, 3) := by decide +kernel
theorem d_M_init_4 : decode b_M_init 4 = .ok (.aload_n 0, 1) := by decide +kernel
theorem d_M_init_5 : decode b_M_init 5 = .ok (.ldc 7, 2) := by decide +kernel
theorem d_M_init_7 : decode b_M_init 7 = .ok (.newarray .int, 2) := by decide +kernel
theorem d_M_init_9 : decode b_M_init 9 = .ok (.putfield 8, 3) := by decide +kernel
theorem d_M_init_12 : decode b_M_init 12 = .ok (.aload_n 0, 1) := by decide +kernel
theorem d_M_init_13 : decode b_M_init 13 = .ok (.ldc 14, 2) := by decide +kernel
theorem d_M_init_15 : decode b_M_init 15 = .ok (.newarray .int, 2) := by decide +kernel
theorem d_M_init_17 : decode b_M_init 17 = .ok (.putfield 15, 3) := by decide +kernel
theorem d_M_init_20 : decode b_M_init 20 = .ok (.aload_n 0, 1) := by decide +kernel
theorem d_M_init_21 : decode b_M_init 21 = .ok (.ldc 18, 2) := by decide +kernel
theorem d_M_init_23 : decode b_M_init 23 = .ok (.newarray .int, 2) := by decide +kernel
theorem d_M_init_25 : decode b_M_init 25 = .ok (.putfield 19, 3) := by decide +kernel
theorem d_M_init_28 : decode b_M_init 28 = .ok (.aload_n 0, 1) := by decide +kernel
theorem d_M_init_29 : decode b_M_init 29 = .ok (.bipush 15, 2) := by decide +kernel
theorem d_M_init_31 : decode b_M_init 31 = .ok (.newarray .int, 2) := by decide +kernel
theorem d_M_init_33 : decode b_M_init 33 = .ok (.putfield 22, 3) := by decide +kernel
theorem d_M_init_36 : decode b_M_init 36 = .ok (.return_, 1) := by decide +kernel
theorem d_M_rows_0 : decode b_M_rows 0 = .ok (.aload_n 0, 1) := by decide +kernel
theorem d_M_rows_1 : decode b_M_rows 1 = .ok (.getfield 25, 3) := by decide +kernel
theorem d_M_rows_4 : decode b_M_rows 4 = .ok (.ifCond .ne 7, 3) := by decide +kernel
theorem d_M_rows_7 : decode b_M_rows 7 = .ok (.iconst 0, 1) := by decide +kernel
theorem d_M_rows_8 : decode b_M_rows 8 = .ok (.goto 14, 3) := by decide +kernel
theorem d_M_rows_11 : decode b_M_rows 11 = .ok (.aload_n 0, 1) := by decide +kernel
theorem d_M_rows_12 : decode b_M_rows 12 = .ok (.getfield 8, 3) := by decide +kernel
theorem d_M_rows_15 : decode b_M_rows 15 = .ok (.aload_n 0, 1) := by decide +kernel
theorem d_M_rows_16 : decode b_M_rows 16 = .ok (.getfield 25, 3) := by decide +kernel
theorem d_M_rows_19 : decode b_M_rows 19 = .ok (.iconst 1, 1) := by decide +kernel
theorem d_M_rows_20 : decode b_M_rows 20 = .ok (.isub, 1) := by decide +kernel
theorem d_M_rows_21 : decode b_M_rows 21 = .ok (.iaload, 1) := by decide +kernel
theorem d_M_rows_22 : decode b_M_rows 22 = .ok (.ireturn, 1) := by decide +kernel
theorem d_M_see_0 : decode b_M_see 0 = .ok (.aload_n 0, 1) := by decide +kernel
theorem d_M_see_1 : decode b_M_see 1 = .ok (.aload_n 0, 1) := by decide +kernel
theorem d_M_see_2 : decode b_M_see 2 = .ok (.getfield 29, 3) := by decide +kernel
theorem d_M_see_5 : decode b_M_see 5 = .ok (.aload_n 0, 1) := by decide +kernel
theorem d_M_see_6 : decode b_M_see 6 = .ok (.getfield 32, 3) := by decide +kernel
theorem d_M_see_9 : decode b_M_see 9 = .ok (.if_icmp .ne 7, 3) := by decide +kernel
theorem d_M_see_12 : decode b_M_see 12 = .ok (.iload_n 1, 1) := by decide +kernel
theorem d_M_see_13 : decode b_M_see 13 = .ok (.goto 7, 3) := by decide +kernel
theorem d_M_see_16 : decode b_M_see 16 = .ok (.aload_n 0, 1) := by decide +kernel
theorem d_M_see_17 : decode b_M_see 17 = .ok (.getfield 35, 3) := by decide +kernel
theorem d_M_see_20 : decode b_M_see 20 = .ok (.putfield 35, 3) := by decide +kernel
theorem d_M_see_23 : decode b_M_see 23 = .ok (.aload_n 0, 1) := by decide +kernel
theorem d_M_see_24 : decode b_M_see 24 = .ok (.dup, 1) := by decide +kernel
theorem d_M_see_25 : decode b_M_see 25 = .ok (.getfield 29, 3) := by decide +kernel
theorem d_M_see_28 : decode b_M_see 28 = .ok (.iconst 1, 1) := by decide +kernel
theorem d_M_see_29 : decode b_M_see 29 = .ok (.iadd, 1) := by decide +kernel
theorem d_M_see_30 : decode b_M_see 30 = .ok (.putfield 29, 3) := by decide +kernel
theorem d_M_see_33 : decode b_M_see 33 = .ok (.return_, 1) := by decide +kernel
theorem d_M_literal_0 : decode b_M_literal 0 = .ok (.bipush 31, 2) := by decide +kernel
theorem d_M_literal_2 : decode b_M_literal 2 = .ok (.iload_n 1, 1) := by decide +kernel
theorem d_M_literal_3 : decode b_M_literal 3 = .ok (.imul, 1) := by decide +kernel
theorem d_M_literal_4 : decode b_M_literal 4 = .ok (.istore_n 3, 1) := by decide +kernel
theorem d_M_literal_5 : decode b_M_literal 5 = .ok (.iconst 0, 1) := by decide +kernel
theorem d_M_literal_6 : decode b_M_literal 6 = .ok (.istore 4, 2) := by decide +kernel
theorem d_M_literal_8 : decode b_M_literal 8 = .ok (.iconst 1, 1) := by decide +kernel
theorem d_M_literal_9 : decode b_M_literal 9 = .ok (.istore 5, 2) := by decide +kernel
theorem d_M_literal_11 : decode b_M_literal 11 = .ok (.iload 5, 2) := by decide +kernel
theorem d_M_literal_13 : decode b_M_literal 13 = .ok (.ifCond .eq 168, 3) := by decide +kernel
theorem d_M_literal_16 : decode b_M_literal 16 = .ok (.aload_n 0, 1) := by decide +kernel
theorem d_M_literal_17 : decode b_M_literal 17 = .ok (.getfield 38, 3) := by decide +kernel
theorem d_M_literal_20 : decode b_M_literal 20 = .ok (.iload_n 2, 1) := by decide +kernel
theorem d_M_literal_21 : decode b_M_literal 21 = .ok (.if_icmp .ge 160, 3) := by decide +kernel
theorem d_M_literal_24 : decode b_M_literal 24 = .ok (.aload_n 0, 1) := by decide +kernel
theorem d_M_literal_25 : decode b_M_literal 25 = .ok (.getfield 19, 3) := by decide +kernel
theorem d_M_literal_28 : decode b_M_literal 28 = .ok (.aload_n 0, 1) := by decide +kernel
theorem d_M_literal_29 : decode b_M_literal 29 = .ok (.getfield 38, 3) := by decide +kernel
theorem d_M_literal_32 : decode b_M_literal 32 = .ok (.iaload, 1) := by decide +kernel
theorem d_M_literal_33 : decode b_M_literal 33 = .ok (.iload_n 3, 1) := by decide +kernel
theorem d_M_literal_34 : decode b_M_literal 34 = .ok (.bipush 31, 2) := by decide +kernel
theorem d_M_literal_36 : decode b_M_literal 36 = .ok (.iadd, 1) := by decide +kernel
theorem d_M_literal_37 : decode b_M_literal 37 = .ok (.if_icmp .ge 144, 3) := by decide +kernel
theorem d_M_literal_40 : decode b_M_literal 40 = .ok (.aload_n 0, 1) := by decide +kernel
theorem d_M_literal_41 : decode b_M_literal 41 = .ok (.getfield 19, 3) := by decide +kernel
theorem d_M_literal_44 : decode b_M_literal 44 = .ok (.aload_n 0, 1) := by decide +kernel
theorem d_M_literal_45 : decode b_M_literal 45 = .ok (.getfield 38, 3) := by decide +kernel
theorem d_M_literal_48 : decode b_M_literal 48 = .ok (.iaload, 1) := by decide +kernel
theorem d_M_literal_49 : decode b_M_literal 49 = .ok (.iload_n 3, 1) := by decide +kernel
theorem d_M_literal_50 : decode b_M_literal 50 = .ok (.if_icmp .le 17, 3) := by decide +kernel
theorem d_M_literal_53 : decode b_M_literal 53 = .ok (.aload_n 0, 1) := by decide +kernel
theorem d_M_literal_54 : decode b_M_literal 54 = .ok (.getfield 19, 3) := by decide +kernel
theorem d_M_literal_57 : decode b_M_literal 57 = .ok (.aload_n 0, 1) := by decide +kernel
theorem d_M_literal_58 : decode b_M_literal 58 = .ok (.getfield 38, 3) := by decide +kernel
theorem d_M_literal_61 : decode b_M_literal 61 = .ok (.iaload, 1) := by decide +kernel
theorem d_M_literal_62 : decode b_M_literal 62 = .ok (.iload_n 3, 1) := by decide +kernel
theorem d_M_literal_63 : decode b_M_literal 63 = .ok (.isub, 1) := by decide +kernel
theorem d_M_literal_64 : decode b_M_literal 64 = .ok (.goto 4, 3) := by decide +kernel
theorem d_M_literal_67 : decode b_M_literal 67 = .ok (.iconst 0, 1) := by decide +kernel
theorem d_M_literal_68 : decode b_M_literal 68 = .ok (.istore 6, 2) := by decide +kernel
theorem d_M_literal_70 : decode b_M_literal 70 = .ok (.aload_n 0, 1) := by decide +kernel
theorem d_M_literal_71 : decode b_M_literal 71 = .ok (.getfield 19, 3) := by decide +kernel
theorem d_M_literal_74 : decode b_M_literal 74 = .ok (.aload_n 0, 1) := by decide +kernel
theorem d_M_literal_75 : decode b_M_literal 75 = .ok (.getfield 38, 3) := by decide +kernel
theorem d_M_literal_78 : decode b_M_literal 78 = .ok (.iconst 1, 1) := by decide +kernel
theorem d_M_literal_79 : decode b_M_literal 79 = .ok (.iadd, 1) := by decide +kernel
theorem d_M_literal_80 : decode b_M_literal 80 = .ok (.iaload, 1) := by decide +kernel
theorem d_M_literal_81 : decode b_M_literal 81 = .ok (.iload_n 3, 1) := by decide +kernel
theorem d_M_literal_82 : decode b_M_literal 82 = .ok (.bipush 31, 2) := by decide +kernel
theorem d_M_literal_84 : decode b_M_literal 84 = .ok (.iadd, 1) := by decide +kernel
theorem d_M_literal_85 : decode b_M_literal 85 = .ok (.if_icmp .ge 19, 3) := by decide +kernel
theorem d_M_literal_88 : decode b_M_literal 88 = .ok (.aload_n 0, 1) := by decide +kernel
theorem d_M_literal_89 : decode b_M_literal 89 = .ok (.getfield 19, 3) := by decide +kernel
theorem d_M_literal_92 : decode b_M_literal 92 = .ok (.aload_n 0, 1) := by decide +kernel
theorem d_M_literal_93 : decode b_M_literal 93 = .ok (.getfield 38, 3) := by decide +kernel
theorem d_M_literal_96 : decode b_M_literal 96 = .ok (.iconst 1, 1) := by decide +kernel
theorem d_M_literal_97 : decode b_M_literal 97 = .ok (.iadd, 1) := by decide +kernel
theorem d_M_literal_98 : decode b_M_literal 98 = .ok (.iaload, 1) := by decide +kernel
theorem d_M_literal_99 : decode b_M_literal 99 = .ok (.iload_n 3, 1) := by decide +kernel
theorem d_M_literal_100 : decode b_M_literal 100 = .ok (.isub, 1) := by decide +kernel
theorem d_M_literal_101 : decode b_M_literal 101 = .ok (.goto 5, 3) := by decide +kernel
theorem d_M_literal_104 : decode b_M_literal 104 = .ok (.bipush 31, 2) := by decide +kernel
theorem d_M_literal_106 : decode b_M_literal 106 = .ok (.istore 7, 2) := by decide +kernel
theorem d_M_literal_108 : decode b_M_literal 108 = .ok (.iload 6, 2) := by decide +kernel
theorem d_M_literal_110 : decode b_M_literal 110 = .ok (.istore 8, 2) := by decide +kernel
theorem d_M_literal_112 : decode b_M_literal 112 = .ok (.iload 8, 2) := by decide +kernel
theorem d_M_literal_114 : decode b_M_literal 114 = .ok (.iload 7, 2) := by decide +kernel
theorem d_M_literal_116 : decode b_M_literal 116 = .ok (.if_icmp .ge 18, 3) := by decide +kernel
theorem d_M_literal_119 : decode b_M_literal 119 = .ok (.iload 4, 2) := by decide +kernel
theorem d_M_literal_121 : decode b_M_literal 121 = .ok (.iconst 1, 1) := by decide +kernel
theorem d_M_literal_122 : decode b_M_literal 122 = .ok (.iload 8, 2) := by decide +kernel
theorem d_M_literal_124 : decode b_M_literal 124 = .ok (.ishl, 1) := by decide +kernel
theorem d_M_literal_125 : decode b_M_literal 125 = .ok (.ior, 1) := by decide +kernel
theorem d_M_literal_126 : decode b_M_literal 126 = .ok (.istore 4, 2) := by decide +kernel
theorem d_M_literal_128 : decode b_M_literal 128 = .ok (.iinc 8 1, 3) := by decide +kernel
theorem d_M_literal_131 : decode b_M_literal 131 = .ok (.goto (-19), 3) := by decide +kernel
theorem d_M_literal_134 : decode b_M_literal 134 = .ok (.aload_n 0, 1) := by decide +kernel
theorem d_M_literal_135 : decode b_M_literal 135 = .ok (.getfield 19, 3) := by decide +kernel
theorem d_M_literal_138 : decode b_M_literal 138 = .ok (.aload_n 0, 1) := by decide +kernel
theorem d_M_literal_139 : decode b_M_literal 139 = .ok (.getfield 38, 3) := by decide +kernel
theorem d_M_literal_142 : decode b_M_literal 142 = .ok (.iconst 1, 1) := by decide +kernel
theorem d_M_literal_143 : decode b_M_literal 143 = .ok (.iadd, 1) := by decide +kernel
theorem d_M_literal_144 : decode b_M_literal 144 = .ok (.iaload, 1) := by decide +kernel
theorem d_M_literal_145 : decode b_M_literal 145 = .ok (.iload_n 3, 1) := by decide +kernel
theorem d_M_literal_146 : decode b_M_literal 146 = .ok (.bipush 31, 2) := by decide +kernel
theorem d_M_literal_148 : decode b_M_literal 148 = .ok (.iadd, 1) := by decide +kernel
theorem d_M_literal_149 : decode b_M_literal 149 = .ok (.if_icmp .gt 7, 3) := by decide +kernel
theorem d_M_literal_152 : decode b_M_literal 152 = .ok (.iconst 1, 1) := by decide +kernel
theorem d_M_literal_153 : decode b_M_literal 153 = .ok (.goto 4, 3) := by decide +kernel
theorem d_M_literal_156 : decode b_M_literal 156 = .ok (.iconst 0, 1) := by decide +kernel
theorem d_M_literal_157 : decode b_M_literal 157 = .ok (.istore 5, 2) := by decide +kernel
theorem d_M_literal_159 : decode b_M_literal 159 = .ok (.aload_n 0, 1) := by decide +kernel
theorem d_M_literal_160 : decode b_M_literal 160 = .ok (.dup, 1) := by decide +kernel
theorem d_M_literal_161 : decode b_M_literal 161 = .ok (.getfield 38, 3) := by decide +kernel
theorem d_M_literal_164 : decode b_M_literal 164 = .ok (.iload 5, 2) := by decide +kernel
theorem d_M_literal_166 : decode b_M_literal 166 = .ok (.ifCond .eq 7, 3) := by decide +kernel
theorem d_M_literal_169 : decode b_M_literal 169 = .ok (.iconst 2, 1) := by decide +kernel
theorem d_M_literal_170 : decode b_M_literal 170 = .ok (.goto 4, 3) := by decide +kernel
theorem d_M_literal_173 : decode b_M_literal 173 = .ok (.iconst 0, 1) := by decide +kernel
theorem d_M_literal_174 : decode b_M_literal 174 = .ok (.iadd, 1) := by decide +kernel
theorem d_M_literal_175 : decode b_M_literal 175 = .ok (.putfield 38, 3) := by decide +kernel
theorem d_M_literal_178 : decode b_M_literal 178 = .ok (.goto (-167), 3) := by decide +kernel
theorem d_M_literal_181 : decode b_M_literal 181 = .ok (.iload 4, 2) := by decide +kernel
theorem d_M_literal_183 : decode b_M_literal 183 = .ok (.ireturn, 1) := by decide +kernel
theorem d_M_goAlong_0 : decode b_M_goAlong 0 = .ok (.aload_n 0, 1) := by decide +kernel
theorem d_M_goAlong_1 : decode b_M_goAlong 1 = .ok (.invokevirtual 41, 3) := by decide +kernel
theorem d_M_goAlong_4 : decode b_M_goAlong 4 = .ok (.bipush 31, 2) := by decide +kernel
theorem d_M_goAlong_6 : decode b_M_goAlong 6 = .ok (.iadd, 1) := by decide +kernel
theorem d_M_goAlong_7 : decode b_M_goAlong 7 = .ok (.iconst 1, 1) := by decide +kernel
theorem d_M_goAlong_8 : decode b_M_goAlong 8 = .ok (.isub, 1) := by decide +kernel
theorem d_M_goAlong_9 : decode b_M_goAlong 9 = .ok (.bipush 31, 2) := by decide +kernel
theorem d_M_goAlong_11 : decode b_M_goAlong 11 = .ok (.idiv, 1) := by decide +kernel
theorem d_M_goAlong_12 : decode b_M_goAlong 12 = .ok (.istore 4, 2) := by decide +kernel
theorem d_M_goAlong_14 : decode b_M_goAlong 14 = .ok (.aload_n 0, 1) := by decide +kernel
theorem d_M_goAlong_15 : decode b_M_goAlong 15 = .ok (.iload_n 1, 1) := by decide +kernel
theorem d_M_goAlong_16 : decode b_M_goAlong 16 = .ok (.putfield 38, 3) := by decide +kernel
theorem d_M_goAlong_19 : decode b_M_goAlong 19 = .ok (.aload_n 0, 1) := by decide +kernel
theorem d_M_goAlong_20 : decode b_M_goAlong 20 = .ok (.iconst 0, 1) := by decide +kernel
theorem d_M_goAlong_21 : decode b_M_goAlong 21 = .ok (.putfield 29, 3) := by decide +kernel
theorem d_M_goAlong_24 : decode b_M_goAlong 24 = .ok (.aload_n 0, 1) := by decide +kernel
theorem d_M_goAlong_25 : decode b_M_goAlong 25 = .ok (.iload_n 3, 1) := by decide +kernel
theorem d_M_goAlong_26 : decode b_M_goAlong 26 = .ok (.putfield 32, 3) := by decide +kernel
theorem d_M_goAlong_29 : decode b_M_goAlong 29 = .ok (.aload_n 0, 1) := by decide +kernel
theorem d_M_goAlong_30 : decode b_M_goAlong 30 = .ok (.iconst 0, 1) := by decide +kernel
theorem d_M_goAlong_31 : decode b_M_goAlong 31 = .ok (.putfield 35, 3) := by decide +kernel
theorem d_M_goAlong_34 : decode b_M_goAlong 34 = .ok (.iconst 0, 1) := by decide +kernel
theorem d_M_goAlong_35 : decode b_M_goAlong 35 = .ok (.istore 5, 2) := by decide +kernel
theorem d_M_goAlong_37 : decode b_M_goAlong 37 = .ok (.iload 5, 2) := by decide +kernel
theorem d_M_goAlong_39 : decode b_M_goAlong 39 = .ok (.iload 4, 2) := by decide +kernel
theorem d_M_goAlong_41 : decode b_M_goAlong 41 = .ok (.if_icmp .ge 200, 3) := by decide +kernel
theorem d_M_goAlong_44 : decode b_M_goAlong 44 = .ok (.aload_n 0, 1) := by decide +kernel
theorem d_M_goAlong_45 : decode b_M_goAlong 45 = .ok (.getfield 38, 3) := by decide +kernel
theorem d_M_goAlong_48 : decode b_M_goAlong 48 = .ok (.iload_n 2, 1) := by decide +kernel
theorem d_M_goAlong_49 : decode b_M_goAlong 49 = .ok (.if_icmp .ge 15, 3) := by decide +kernel
theorem d_M_goAlong_52 : decode b_M_goAlong 52 = .ok (.aload_n 0, 1) := by decide +kernel
theorem d_M_goAlong_53 : decode b_M_goAlong 53 = .ok (.getfield 19, 3) := by decide +kernel
theorem d_M_goAlong_56 : decode b_M_goAlong 56 = .ok (.aload_n 0, 1) := by decide +kernel
theorem d_M_goAlong_57 : decode b_M_goAlong 57 = .ok (.getfield 38, 3) := by decide +kernel
theorem d_M_goAlong_60 : decode b_M_goAlong 60 = .ok (.iaload, 1) := by decide +kernel
theorem d_M_goAlong_61 : decode b_M_goAlong 61 = .ok (.goto 5, 3) := by decide +kernel
theorem d_M_goAlong_64 : decode b_M_goAlong 64 = .ok (.ldc 45, 2) := by decide +kernel
theorem d_M_goAlong_66 : decode b_M_goAlong 66 = .ok (.istore 6, 2) := by decide +kernel
theorem d_M_goAlong_68 : decode b_M_goAlong 68 = .ok (.iload 6, 2) := by decide +kernel
theorem d_M_goAlong_70 : decode b_M_goAlong 70 = .ok (.bipush 31, 2) := by decide +kernel
theorem d_M_goAlong_72 : decode b_M_goAlong 72 = .ok (.iload 5, 2) := by decide +kernel
theorem d_M_goAlong_74 : decode b_M_goAlong 74 = .ok (.imul, 1) := by decide +kernel
theorem d_M_goAlong_75 : decode b_M_goAlong 75 = .ok (.bipush 31, 2) := by decide +kernel
theorem d_M_goAlong_77 : decode b_M_goAlong 77 = .ok (.iadd, 1) := by decide +kernel
theorem d_M_goAlong_78 : decode b_M_goAlong 78 = .ok (.if_icmp .lt 44, 3) := by decide +kernel
theorem d_M_goAlong_81 : decode b_M_goAlong 81 = .ok (.iload 6, 2) := by decide +kernel
theorem d_M_goAlong_83 : decode b_M_goAlong 83 = .ok (.bipush 31, 2) := by decide +kernel
theorem d_M_goAlong_85 : decode b_M_goAlong 85 = .ok (.idiv, 1) := by decide +kernel
theorem d_M_goAlong_86 : decode b_M_goAlong 86 = .ok (.iload 4, 2) := by decide +kernel
theorem d_M_goAlong_88 : decode b_M_goAlong 88 = .ok (.if_icmp .ge 11, 3) := by decide +kernel
theorem d_M_goAlong_91 : decode b_M_goAlong 91 = .ok (.iload 6, 2) := by decide +kernel
theorem d_M_goAlong_93 : decode b_M_goAlong 93 = .ok (.bipush 31, 2) := by decide +kernel
theorem d_M_goAlong_95 : decode b_M_goAlong 95 = .ok (.idiv, 1) := by decide +kernel
theorem d_M_goAlong_96 : decode b_M_goAlong 96 = .ok (.goto 5, 3) := by decide +kernel
theorem d_M_goAlong_99 : decode b_M_goAlong 99 = .ok (.iload 4, 2) := by decide +kernel
theorem d_M_goAlong_101 : decode b_M_goAlong 101 = .ok (.istore 7, 2) := by decide +kernel
theorem d_M_goAlong_103 : decode b_M_goAlong 103 = .ok (.aload_n 0, 1) := by decide +kernel
theorem d_M_goAlong_104 : decode b_M_goAlong 104 = .ok (.bipush (-2), 2) := by decide +kernel
theorem d_M_goAlong_106 : decode b_M_goAlong 106 = .ok (.iload 7, 2) := by decide +kernel
theorem d_M_goAlong_108 : decode b_M_goAlong 108 = .ok (.iload 5, 2) := by decide +kernel
theorem d_M_goAlong_110 : decode b_M_goAlong 110 = .ok (.isub, 1) := by decide +kernel
theorem d_M_goAlong_111 : decode b_M_goAlong 111 = .ok (.imul, 1) := by decide +kernel
theorem d_M_goAlong_112 : decode b_M_goAlong 112 = .ok (.invokevirtual 46, 3) := by decide +kernel
theorem d_M_goAlong_115 : decode b_M_goAlong 115 = .ok (.iload 7, 2) := by decide +kernel
theorem d_M_goAlong_117 : decode b_M_goAlong 117 = .ok (.istore 5, 2) := by decide +kernel
theorem d_M_goAlong_119 : decode b_M_goAlong 119 = .ok (.goto 119, 3) := by decide +kernel
theorem d_M_goAlong_122 : decode b_M_goAlong 122 = .ok (.iload 6, 2) := by decide +kernel
theorem d_M_goAlong_124 : decode b_M_goAlong 124 = .ok (.bipush 31, 2) := by decide +kernel
theorem d_M_goAlong_126 : decode b_M_goAlong 126 = .ok (.iload 5, 2) := by decide +kernel
theorem d_M_goAlong_128 : decode b_M_goAlong 128 = .ok (.imul, 1) := by decide +kernel
theorem d_M_goAlong_129 : decode b_M_goAlong 129 = .ok (.if_icmp .gt 95, 3) := by decide +kernel
theorem d_M_goAlong_132 : decode b_M_goAlong 132 = .ok (.aload_n 0, 1) := by decide +kernel
theorem d_M_goAlong_133 : decode b_M_goAlong 133 = .ok (.getfield 19, 3) := by decide +kernel
theorem d_M_goAlong_136 : decode b_M_goAlong 136 = .ok (.aload_n 0, 1) := by decide +kernel
theorem d_M_goAlong_137 : decode b_M_goAlong 137 = .ok (.getfield 38, 3) := by decide +kernel
theorem d_M_goAlong_140 : decode b_M_goAlong 140 = .ok (.iconst 1, 1) := by decide +kernel
theorem d_M_goAlong_141 : decode b_M_goAlong 141 = .ok (.iadd, 1) := by decide +kernel
theorem d_M_goAlong_142 : decode b_M_goAlong 142 = .ok (.iaload, 1) := by decide +kernel
theorem d_M_goAlong_143 : decode b_M_goAlong 143 = .ok (.bipush 31, 2) := by decide +kernel
theorem d_M_goAlong_145 : decode b_M_goAlong 145 = .ok (.iload 5, 2) := by decide +kernel
theorem d_M_goAlong_147 : decode b_M_goAlong 147 = .ok (.imul, 1) := by decide +kernel
theorem d_M_goAlong_148 : decode b_M_goAlong 148 = .ok (.bipush 31, 2) := by decide +kernel
theorem d_M_goAlong_150 : decode b_M_goAlong 150 = .ok (.iadd, 1) := by decide +kernel
theorem d_M_goAlong_151 : decode b_M_goAlong 151 = .ok (.if_icmp .lt 73, 3) := by decide +kernel
theorem d_M_goAlong_154 : decode b_M_goAlong 154 = .ok (.aload_n 0, 1) := by decide +kernel
theorem d_M_goAlong_155 : decode b_M_goAlong 155 = .ok (.getfield 19, 3) := by decide +kernel
theorem d_M_goAlong_158 : decode b_M_goAlong 158 = .ok (.aload_n 0, 1) := by decide +kernel
theorem d_M_goAlong_159 : decode b_M_goAlong 159 = .ok (.getfield 38, 3) := by decide +kernel
theorem d_M_goAlong_162 : decode b_M_goAlong 162 = .ok (.iconst 1, 1) := by decide +kernel
theorem d_M_goAlong_163 : decode b_M_goAlong 163 = .ok (.iadd, 1) := by decide +kernel
theorem d_M_goAlong_164 : decode b_M_goAlong 164 = .ok (.iaload, 1) := by decide +kernel
theorem d_M_goAlong_165 : decode b_M_goAlong 165 = .ok (.bipush 31, 2) := by decide +kernel
theorem d_M_goAlong_167 : decode b_M_goAlong 167 = .ok (.idiv, 1) := by decide +kernel
theorem d_M_goAlong_168 : decode b_M_goAlong 168 = .ok (.istore 7, 2) := by decide +kernel
theorem d_M_goAlong_170 : decode b_M_goAlong 170 = .ok (.aload_n 0, 1) := by decide +kernel
theorem d_M_goAlong_171 : decode b_M_goAlong 171 = .ok (.bipush (-2), 2) := by decide +kernel
theorem d_M_goAlong_173 : decode b_M_goAlong 173 = .ok (.iload 7, 2) := by decide +kernel
theorem d_M_goAlong_175 : decode b_M_goAlong 175 = .ok (.iload 5, 2) := by decide +kernel
theorem d_M_goAlong_177 : decode b_M_goAlong 177 = .ok (.isub, 1) := by decide +kernel
theorem d_M_goAlong_178 : decode b_M_goAlong 178 = .ok (.imul, 1) := by decide +kernel
theorem d_M_goAlong_179 : decode b_M_goAlong 179 = .ok (.iconst 1, 1) := by decide +kernel
theorem d_M_goAlong_180 : decode b_M_goAlong 180 = .ok (.isub, 1) := by decide +kernel
theorem d_M_goAlong_181 : decode b_M_goAlong 181 = .ok (.invokevirtual 46, 3) := by decide +kernel
theorem d_M_goAlong_184 : decode b_M_goAlong 184 = .ok (.iload 7, 2) := by decide +kernel
theorem d_M_goAlong_186 : decode b_M_goAlong 186 = .ok (.istore 5, 2) := by decide +kernel
theorem d_M_goAlong_188 : decode b_M_goAlong 188 = .ok (.aload_n 0, 1) := by decide +kernel
theorem d_M_goAlong_189 : decode b_M_goAlong 189 = .ok (.dup, 1) := by decide +kernel
theorem d_M_goAlong_190 : decode b_M_goAlong 190 = .ok (.getfield 38, 3) := by decide +kernel
theorem d_M_goAlong_193 : decode b_M_goAlong 193 = .ok (.aload_n 0, 1) := by decide +kernel
theorem d_M_goAlong_194 : decode b_M_goAlong 194 = .ok (.getfield 19, 3) := by decide +kernel
theorem d_M_goAlong_197 : decode b_M_goAlong 197 = .ok (.aload_n 0, 1) := by decide +kernel
theorem d_M_goAlong_198 : decode b_M_goAlong 198 = .ok (.getfield 38, 3) := by decide +kernel
theorem d_M_goAlong_201 : decode b_M_goAlong 201 = .ok (.iconst 1, 1) := by decide +kernel
theorem d_M_goAlong_202 : decode b_M_goAlong 202 = .ok (.iadd, 1) := by decide +kernel
theorem d_M_goAlong_203 : decode b_M_goAlong 203 = .ok (.iaload, 1) := by decide +kernel
theorem d_M_goAlong_204 : decode b_M_goAlong 204 = .ok (.bipush 31, 2) := by decide +kernel
theorem d_M_goAlong_206 : decode b_M_goAlong 206 = .ok (.iload 5, 2) := by decide +kernel
theorem d_M_goAlong_208 : decode b_M_goAlong 208 = .ok (.imul, 1) := by decide +kernel
theorem d_M_goAlong_209 : decode b_M_goAlong 209 = .ok (.if_icmp .ne 7, 3) := by decide +kernel
theorem d_M_goAlong_212 : decode b_M_goAlong 212 = .ok (.iconst 2, 1) := by decide +kernel
theorem d_M_goAlong_213 : decode b_M_goAlong 213 = .ok (.goto 4, 3) := by decide +kernel
theorem d_M_goAlong_216 : decode b_M_goAlong 216 = .ok (.iconst 0, 1) := by decide +kernel
theorem d_M_goAlong_217 : decode b_M_goAlong 217 = .ok (.iadd, 1) := by decide +kernel
theorem d_M_goAlong_218 : decode b_M_goAlong 218 = .ok (.putfield 38, 3) := by decide +kernel
theorem d_M_goAlong_221 : decode b_M_goAlong 221 = .ok (.goto 17, 3) := by decide +kernel
theorem d_M_goAlong_224 : decode b_M_goAlong 224 = .ok (.aload_n 0, 1) := by decide +kernel
theorem d_M_goAlong_225 : decode b_M_goAlong 225 = .ok (.aload_n 0, 1) := by decide +kernel
theorem d_M_goAlong_226 : decode b_M_goAlong 226 = .ok (.iload 5, 2) := by decide +kernel
theorem d_M_goAlong_228 : decode b_M_goAlong 228 = .ok (.iload_n 2, 1) := by decide +kernel
theorem d_M_goAlong_229 : decode b_M_goAlong 229 = .ok (.invokevirtual 50, 3) := by decide +kernel
theorem d_M_goAlong_232 : decode b_M_goAlong 232 = .ok (.invokevirtual 46, 3) := by decide +kernel
theorem d_M_goAlong_235 : decode b_M_goAlong 235 = .ok (.iinc 5 1, 3) := by decide +kernel
theorem d_M_goAlong_238 : decode b_M_goAlong 238 = .ok (.goto (-201), 3) := by decide +kernel
theorem d_M_goAlong_241 : decode b_M_goAlong 241 = .ok (.aload_n 0, 1) := by decide +kernel
theorem d_M_goAlong_242 : decode b_M_goAlong 242 = .ok (.getfield 29, 3) := by decide +kernel
theorem d_M_goAlong_245 : decode b_M_goAlong 245 = .ok (.ireturn, 1) := by decide +kernel
theorem d_M_layValue_0 : decode b_M_layValue 0 = .ok (.iload_n 3, 1) := by decide +kernel
theorem d_M_layValue_1 : decode b_M_layValue 1 = .ok (.istore 4, 2) := by decide +kernel
theorem d_M_layValue_3 : decode b_M_layValue 3 = .ok (.iconst 0, 1) := by decide +kernel
theorem d_M_layValue_4 : decode b_M_layValue 4 = .ok (.istore 5, 2) := by decide +kernel
theorem d_M_layValue_6 : decode b_M_layValue 6 = .ok (.iconst 0, 1) := by decide +kernel
theorem d_M_layValue_7 : decode b_M_layValue 7 = .ok (.istore 6, 2) := by decide +kernel
theorem d_M_layValue_9 : decode b_M_layValue 9 = .ok (.iload 6, 2) := by decide +kernel
theorem d_M_layValue_11 : decode b_M_layValue 11 = .ok (.aload_n 0, 1) := by decide +kernel
theorem d_M_layValue_12 : decode b_M_layValue 12 = .ok (.getfield 25, 3) := by decide +kernel
theorem d_M_layValue_15 : decode b_M_layValue 15 = .ok (.if_icmp .ge 100, 3) := by decide +kernel
theorem d_M_layValue_18 : decode b_M_layValue 18 = .ok (.aload_n 0, 1) := by decide +kernel
theorem d_M_layValue_19 : decode b_M_layValue 19 = .ok (.getfield 15, 3) := by decide +kernel
theorem d_M_layValue_22 : decode b_M_layValue 22 = .ok (.iconst 2, 1) := by decide +kernel
theorem d_M_layValue_23 : decode b_M_layValue 23 = .ok (.iload 6, 2) := by decide +kernel
theorem d_M_layValue_25 : decode b_M_layValue 25 = .ok (.imul, 1) := by decide +kernel
theorem d_M_layValue_26 : decode b_M_layValue 26 = .ok (.iload_n 1, 1) := by decide +kernel
theorem d_M_layValue_27 : decode b_M_layValue 27 = .ok (.iadd, 1) := by decide +kernel
theorem d_M_layValue_28 : decode b_M_layValue 28 = .ok (.iaload, 1) := by decide +kernel
theorem d_M_layValue_29 : decode b_M_layValue 29 = .ok (.iload_n 2, 1) := by decide +kernel
theorem d_M_layValue_30 : decode b_M_layValue 30 = .ok (.if_icmp .ne 70, 3) := by decide +kernel
theorem d_M_layValue_33 : decode b_M_layValue 33 = .ok (.iload 4, 2) := by decide +kernel
theorem d_M_layValue_35 : decode b_M_layValue 35 = .ok (.iload_n 3, 1) := by decide +kernel
theorem d_M_layValue_36 : decode b_M_layValue 36 = .ok (.if_icmp .le 36, 3) := by decide +kernel
theorem d_M_layValue_39 : decode b_M_layValue 39 = .ok (.aload_n 0, 1) := by decide +kernel
theorem d_M_layValue_40 : decode b_M_layValue 40 = .ok (.getfield 19, 3) := by decide +kernel
theorem d_M_layValue_43 : decode b_M_layValue 43 = .ok (.iload 4, 2) := by decide +kernel
theorem d_M_layValue_45 : decode b_M_layValue 45 = .ok (.iconst 1, 1) := by decide +kernel
theorem d_M_layValue_46 : decode b_M_layValue 46 = .ok (.isub, 1) := by decide +kernel
theorem d_M_layValue_47 : decode b_M_layValue 47 = .ok (.iaload, 1) := by decide +kernel
theorem d_M_layValue_48 : decode b_M_layValue 48 = .ok (.iload 5, 2) := by decide +kernel
theorem d_M_layValue_50 : decode b_M_layValue 50 = .ok (.if_icmp .ne 22, 3) := by decide +kernel
theorem d_M_layValue_53 : decode b_M_layValue 53 = .ok (.aload_n 0, 1) := by decide +kernel
theorem d_M_layValue_54 : decode b_M_layValue 54 = .ok (.getfield 19, 3) := by decide +kernel
theorem d_M_layValue_57 : decode b_M_layValue 57 = .ok (.iload 4, 2) := by decide +kernel
theorem d_M_layValue_59 : decode b_M_layValue 59 = .ok (.iconst 1, 1) := by decide +kernel
theorem d_M_layValue_60 : decode b_M_layValue 60 = .ok (.isub, 1) := by decide +kernel
theorem d_M_layValue_61 : decode b_M_layValue 61 = .ok (.aload_n 0, 1) := by decide +kernel
theorem d_M_layValue_62 : decode b_M_layValue 62 = .ok (.getfield 8, 3) := by decide +kernel
theorem d_M_layValue_65 : decode b_M_layValue 65 = .ok (.iload 6, 2) := by decide +kernel
theorem d_M_layValue_67 : decode b_M_layValue 67 = .ok (.iaload, 1) := by decide +kernel
theorem d_M_layValue_68 : decode b_M_layValue 68 = .ok (.iastore, 1) := by decide +kernel
theorem d_M_layValue_69 : decode b_M_layValue 69 = .ok (.goto 31, 3) := by decide +kernel
theorem d_M_layValue_72 : decode b_M_layValue 72 = .ok (.aload_n 0, 1) := by decide +kernel
theorem d_M_layValue_73 : decode b_M_layValue 73 = .ok (.getfield 19, 3) := by decide +kernel
theorem d_M_layValue_76 : decode b_M_layValue 76 = .ok (.iload 4, 2) := by decide +kernel
theorem d_M_layValue_78 : decode b_M_layValue 78 = .ok (.iload 5, 2) := by decide +kernel
theorem d_M_layValue_80 : decode b_M_layValue 80 = .ok (.iastore, 1) := by decide +kernel
theorem d_M_layValue_81 : decode b_M_layValue 81 = .ok (.aload_n 0, 1) := by decide +kernel
theorem d_M_layValue_82 : decode b_M_layValue 82 = .ok (.getfield 19, 3) := by decide +kernel
theorem d_M_layValue_85 : decode b_M_layValue 85 = .ok (.iload 4, 2) := by decide +kernel
theorem d_M_layValue_87 : decode b_M_layValue 87 = .ok (.iconst 1, 1) := by decide +kernel
theorem d_M_layValue_88 : decode b_M_layValue 88 = .ok (.iadd, 1) := by decide +kernel
theorem d_M_layValue_89 : decode b_M_layValue 89 = .ok (.aload_n 0, 1) := by decide +kernel
theorem d_M_layValue_90 : decode b_M_layValue 90 = .ok (.getfield 8, 3) := by decide +kernel
theorem d_M_layValue_93 : decode b_M_layValue 93 = .ok (.iload 6, 2) := by decide +kernel
theorem d_M_layValue_95 : decode b_M_layValue 95 = .ok (.iaload, 1) := by decide +kernel
theorem d_M_layValue_96 : decode b_M_layValue 96 = .ok (.iastore, 1) := by decide +kernel
theorem d_M_layValue_97 : decode b_M_layValue 97 = .ok (.iinc 4 2, 3) := by decide +kernel
theorem d_M_layValue_100 : decode b_M_layValue 100 = .ok (.aload_n 0, 1) := by decide +kernel
theorem d_M_layValue_101 : decode b_M_layValue 101 = .ok (.getfield 8, 3) := by decide +kernel
theorem d_M_layValue_104 : decode b_M_layValue 104 = .ok (.iload 6, 2) := by decide +kernel
theorem d_M_layValue_106 : decode b_M_layValue 106 = .ok (.iaload, 1) := by decide +kernel
theorem d_M_layValue_107 : decode b_M_layValue 107 = .ok (.istore 5, 2) := by decide +kernel
theorem d_M_layValue_109 : decode b_M_layValue 109 = .ok (.iinc 6 1, 3) := by decide +kernel
theorem d_M_layValue_112 : decode b_M_layValue 112 = .ok (.goto (-103), 3) := by decide +kernel
theorem d_M_layValue_115 : decode b_M_layValue 115 = .ok (.iload 4, 2) := by decide +kernel
theorem d_M_layValue_117 : decode b_M_layValue 117 = .ok (.ireturn, 1) := by decide +kernel
theorem d_M_room_0 : decode b_M_room 0 = .ok (.iconst 0, 1) := by decide +kernel
theorem d_M_room_1 : decode b_M_room 1 = .ok (.istore_n 1, 1) := by decide +kernel
theorem d_M_room_2 : decode b_M_room 2 = .ok (.aload_n 0, 1) := by decide +kernel
theorem d_M_room_3 : decode b_M_room 3 = .ok (.getfield 22, 3) := by decide +kernel
theorem d_M_room_6 : decode b_M_room 6 = .ok (.aload_n 0, 1) := by decide +kernel
theorem d_M_room_7 : decode b_M_room 7 = .ok (.getfield 54, 3) := by decide +kernel
theorem d_M_room_10 : decode b_M_room 10 = .ok (.iaload, 1) := by decide +kernel
theorem d_M_room_11 : decode b_M_room 11 = .ok (.istore_n 2, 1) := by decide +kernel
theorem d_M_room_12 : decode b_M_room 12 = .ok (.iconst 0, 1) := by decide +kernel
theorem d_M_room_13 : decode b_M_room 13 = .ok (.istore_n 3, 1) := by decide +kernel
theorem d_M_room_14 : decode b_M_room 14 = .ok (.iload_n 3, 1) := by decide +kernel
theorem d_M_room_15 : decode b_M_room 15 = .ok (.bipush 32, 2) := by decide +kernel
theorem d_M_room_17 : decode b_M_room 17 = .ok (.if_icmp .ge 35, 3) := by decide +kernel
theorem d_M_room_20 : decode b_M_room 20 = .ok (.aload_n 0, 1) := by decide +kernel
theorem d_M_room_21 : decode b_M_room 21 = .ok (.iload_n 3, 1) := by decide +kernel
theorem d_M_room_22 : decode b_M_room 22 = .ok (.bipush 16, 2) := by decide +kernel
theorem d_M_room_24 : decode b_M_room 24 = .ok (.idiv, 1) := by decide +kernel
theorem d_M_room_25 : decode b_M_room 25 = .ok (.iload_n 3, 1) := by decide +kernel
theorem d_M_room_26 : decode b_M_room 26 = .ok (.bipush 16, 2) := by decide +kernel
theorem d_M_room_28 : decode b_M_room 28 = .ok (.irem, 1) := by decide +kernel
theorem d_M_room_29 : decode b_M_room 29 = .ok (.iload_n 2, 1) := by decide +kernel
theorem d_M_room_30 : decode b_M_room 30 = .ok (.invokevirtual 57, 3) := by decide +kernel
theorem d_M_room_33 : decode b_M_room 33 = .ok (.istore 4, 2) := by decide +kernel
theorem d_M_room_35 : decode b_M_room 35 = .ok (.iload_n 1, 1) := by decide +kernel
theorem d_M_room_36 : decode b_M_room 36 = .ok (.aload_n 0, 1) := by decide +kernel
theorem d_M_room_37 : decode b_M_room 37 = .ok (.iload_n 2, 1) := by decide +kernel
theorem d_M_room_38 : decode b_M_room 38 = .ok (.iload 4, 2) := by decide +kernel
theorem d_M_room_40 : decode b_M_room 40 = .ok (.iconst (-1), 1) := by decide +kernel
theorem d_M_room_41 : decode b_M_room 41 = .ok (.invokevirtual 61, 3) := by decide +kernel
theorem d_M_room_44 : decode b_M_room 44 = .ok (.iadd, 1) := by decide +kernel
theorem d_M_room_45 : decode b_M_room 45 = .ok (.istore_n 1, 1) := by decide +kernel
theorem d_M_room_46 : decode b_M_room 46 = .ok (.iinc 3 1, 3) := by decide +kernel
theorem d_M_room_49 : decode b_M_room 49 = .ok (.goto (-35), 3) := by decide +kernel
theorem d_M_room_52 : decode b_M_room 52 = .ok (.iload_n 1, 1) := by decide +kernel
theorem d_M_room_53 : decode b_M_room 53 = .ok (.ireturn, 1) := by decide +kernel
theorem d_M_append_0 : decode b_M_append 0 = .ok (.iload_n 1, 1) := by decide +kernel
theorem d_M_append_1 : decode b_M_append 1 = .ok (.ifCond .lt 30, 3) := by decide +kernel
theorem d_M_append_4 : decode b_M_append 4 = .ok (.iload_n 1, 1) := by decide +kernel
theorem d_M_append_5 : decode b_M_append 5 = .ok (.bipush 15, 2) := by decide +kernel
theorem d_M_append_7 : decode b_M_append 7 = .ok (.if_icmp .gt 24, 3) := by decide +kernel
theorem d_M_append_10 : decode b_M_append 10 = .ok (.iload_n 2, 1) := by decide +kernel
theorem d_M_append_11 : decode b_M_append 11 = .ok (.ifCond .lt 20, 3) := by decide +kernel
theorem d_M_append_14 : decode b_M_append 14 = .ok (.iload_n 2, 1) := by decide +kernel
theorem d_M_append_15 : decode b_M_append 15 = .ok (.bipush 15, 2) := by decide +kernel
theorem d_M_append_17 : decode b_M_append 17 = .ok (.if_icmp .gt 14, 3) := by decide +kernel
theorem d_M_append_20 : decode b_M_append 20 = .ok (.iload_n 3, 1) := by decide +kernel
theorem d_M_append_21 : decode b_M_append 21 = .ok (.iconst 1, 1) := by decide +kernel
theorem d_M_append_22 : decode b_M_append 22 = .ok (.if_icmp .lt 9, 3) := by decide +kernel
theorem d_M_append_25 : decode b_M_append 25 = .ok (.iload_n 3, 1) := by decide +kernel
theorem d_M_append_26 : decode b_M_append 26 = .ok (.ldc 64, 2) := by decide +kernel
theorem d_M_append_28 : decode b_M_append 28 = .ok (.if_icmp .le 5, 3) := by decide +kernel
theorem d_M_append_31 : decode b_M_append 31 = .ok (.iconst (-1), 1) := by decide +kernel
theorem d_M_append_32 : decode b_M_append 32 = .ok (.ireturn, 1) := by decide +kernel
theorem d_M_append_33 : decode b_M_append 33 = .ok (.aload_n 0, 1) := by decide +kernel
theorem d_M_append_34 : decode b_M_append 34 = .ok (.getfield 54, 3) := by decide +kernel
theorem d_M_append_37 : decode b_M_append 37 = .ok (.ifCond .le 6, 3) := by decide +kernel
theorem d_M_append_40 : decode b_M_append 40 = .ok (.bipush (-2), 2) := by decide +kernel
theorem d_M_append_42 : decode b_M_append 42 = .ok (.ireturn, 1) := by decide +kernel
theorem d_M_append_43 : decode b_M_append 43 = .ok (.aload_n 0, 1) := by decide +kernel
theorem d_M_append_44 : decode b_M_append 44 = .ok (.invokevirtual 41, 3) := by decide +kernel
theorem d_M_append_47 : decode b_M_append 47 = .ok (.istore 4, 2) := by decide +kernel
theorem d_M_append_49 : decode b_M_append 49 = .ok (.iload_n 3, 1) := by decide +kernel
theorem d_M_append_50 : decode b_M_append 50 = .ok (.ldc 64, 2) := by decide +kernel
theorem d_M_append_52 : decode b_M_append 52 = .ok (.iload 4, 2) := by decide +kernel
theorem d_M_append_54 : decode b_M_append 54 = .ok (.isub, 1) := by decide +kernel
theorem d_M_append_55 : decode b_M_append 55 = .ok (.if_icmp .le 6, 3) := by decide +kernel
theorem d_M_append_58 : decode b_M_append 58 = .ok (.bipush (-3), 2) := by decide +kernel
theorem d_M_append_60 : decode b_M_append 60 = .ok (.ireturn, 1) := by decide +kernel
theorem d_M_append_61 : decode b_M_append 61 = .ok (.aload_n 0, 1) := by decide +kernel
theorem d_M_append_62 : decode b_M_append 62 = .ok (.getfield 25, 3) := by decide +kernel
theorem d_M_append_65 : decode b_M_append 65 = .ok (.ifCond .le 41, 3) := by decide +kernel
theorem d_M_append_68 : decode b_M_append 68 = .ok (.aload_n 0, 1) := by decide +kernel
theorem d_M_append_69 : decode b_M_append 69 = .ok (.getfield 15, 3) := by decide +kernel
theorem d_M_append_72 : decode b_M_append 72 = .ok (.iconst 2, 1) := by decide +kernel
theorem d_M_append_73 : decode b_M_append 73 = .ok (.aload_n 0, 1) := by decide +kernel
theorem d_M_append_74 : decode b_M_append 74 = .ok (.getfield 25, 3) := by decide +kernel
theorem d_M_append_77 : decode b_M_append 77 = .ok (.imul, 1) := by decide +kernel
theorem d_M_append_78 : decode b_M_append 78 = .ok (.iconst 2, 1) := by decide +kernel
theorem d_M_append_79 : decode b_M_append 79 = .ok (.isub, 1) := by decide +kernel
theorem d_M_append_80 : decode b_M_append 80 = .ok (.iaload, 1) := by decide +kernel
theorem d_M_append_81 : decode b_M_append 81 = .ok (.iload_n 1, 1) := by decide +kernel
theorem d_M_append_82 : decode b_M_append 82 = .ok (.if_icmp .ne 24, 3) := by decide +kernel
theorem d_M_append_85 : decode b_M_append 85 = .ok (.aload_n 0, 1) := by decide +kernel
theorem d_M_append_86 : decode b_M_append 86 = .ok (.getfield 15, 3) := by decide +kernel
theorem d_M_append_89 : decode b_M_append 89 = .ok (.iconst 2, 1) := by decide +kernel
theorem d_M_append_90 : decode b_M_append 90 = .ok (.aload_n 0, 1) := by decide +kernel
theorem d_M_append_91 : decode b_M_append 91 = .ok (.getfield 25, 3) := by decide +kernel
theorem d_M_append_94 : decode b_M_append 94 = .ok (.imul, 1) := by decide +kernel
theorem d_M_append_95 : decode b_M_append 95 = .ok (.iconst 1, 1) := by decide +kernel
theorem d_M_append_96 : decode b_M_append 96 = .ok (.isub, 1) := by decide +kernel
theorem d_M_append_97 : decode b_M_append 97 = .ok (.iaload, 1) := by decide +kernel
theorem d_M_append_98 : decode b_M_append 98 = .ok (.iload_n 2, 1) := by decide +kernel
theorem d_M_append_99 : decode b_M_append 99 = .ok (.if_icmp .ne 7, 3) := by decide +kernel
theorem d_M_append_102 : decode b_M_append 102 = .ok (.iconst 1, 1) := by decide +kernel
theorem d_M_append_103 : decode b_M_append 103 = .ok (.goto 4, 3) := by decide +kernel
theorem d_M_append_106 : decode b_M_append 106 = .ok (.iconst 0, 1) := by decide +kernel
theorem d_M_append_107 : decode b_M_append 107 = .ok (.istore 5, 2) := by decide +kernel
theorem d_M_append_109 : decode b_M_append 109 = .ok (.aload_n 0, 1) := by decide +kernel
theorem d_M_append_110 : decode b_M_append 110 = .ok (.dup, 1) := by decide +kernel
theorem d_M_append_111 : decode b_M_append 111 = .ok (.getfield 25, 3) := by decide +kernel
theorem d_M_append_114 : decode b_M_append 114 = .ok (.iload 5, 2) := by decide +kernel
theorem d_M_append_116 : decode b_M_append 116 = .ok (.ifCond .eq 7, 3) := by decide +kernel
theorem d_M_append_119 : decode b_M_append 119 = .ok (.iconst 0, 1) := by decide +kernel
theorem d_M_append_120 : decode b_M_append 120 = .ok (.goto 4, 3) := by decide +kernel
theorem d_M_append_123 : decode b_M_append 123 = .ok (.iconst 1, 1) := by decide +kernel
theorem d_M_append_124 : decode b_M_append 124 = .ok (.iadd, 1) := by decide +kernel
theorem d_M_append_125 : decode b_M_append 125 = .ok (.putfield 25, 3) := by decide +kernel
theorem d_M_append_128 : decode b_M_append 128 = .ok (.aload_n 0, 1) := by decide +kernel
theorem d_M_append_129 : decode b_M_append 129 = .ok (.getfield 8, 3) := by decide +kernel
theorem d_M_append_132 : decode b_M_append 132 = .ok (.aload_n 0, 1) := by decide +kernel
theorem d_M_append_133 : decode b_M_append 133 = .ok (.getfield 25, 3) := by decide +kernel
theorem d_M_append_136 : decode b_M_append 136 = .ok (.iconst 1, 1) := by decide +kernel
theorem d_M_append_137 : decode b_M_append 137 = .ok (.isub, 1) := by decide +kernel
theorem d_M_append_138 : decode b_M_append 138 = .ok (.iload 4, 2) := by decide +kernel
theorem d_M_append_140 : decode b_M_append 140 = .ok (.iload_n 3, 1) := by decide +kernel
theorem d_M_append_141 : decode b_M_append 141 = .ok (.iadd, 1) := by decide +kernel
theorem d_M_append_142 : decode b_M_append 142 = .ok (.iastore, 1) := by decide +kernel
theorem d_M_append_143 : decode b_M_append 143 = .ok (.aload_n 0, 1) := by decide +kernel
theorem d_M_append_144 : decode b_M_append 144 = .ok (.getfield 15, 3) := by decide +kernel
theorem d_M_append_147 : decode b_M_append 147 = .ok (.iconst 2, 1) := by decide +kernel
theorem d_M_append_148 : decode b_M_append 148 = .ok (.aload_n 0, 1) := by decide +kernel
theorem d_M_append_149 : decode b_M_append 149 = .ok (.getfield 25, 3) := by decide +kernel
theorem d_M_append_152 : decode b_M_append 152 = .ok (.imul, 1) := by decide +kernel
theorem d_M_append_153 : decode b_M_append 153 = .ok (.iconst 2, 1) := by decide +kernel
theorem d_M_append_154 : decode b_M_append 154 = .ok (.isub, 1) := by decide +kernel
theorem d_M_append_155 : decode b_M_append 155 = .ok (.iload_n 1, 1) := by decide +kernel
theorem d_M_append_156 : decode b_M_append 156 = .ok (.iastore, 1) := by decide +kernel
theorem d_M_append_157 : decode b_M_append 157 = .ok (.aload_n 0, 1) := by decide +kernel
theorem d_M_append_158 : decode b_M_append 158 = .ok (.getfield 15, 3) := by decide +kernel
theorem d_M_append_161 : decode b_M_append 161 = .ok (.iconst 2, 1) := by decide +kernel
theorem d_M_append_162 : decode b_M_append 162 = .ok (.aload_n 0, 1) := by decide +kernel
theorem d_M_append_163 : decode b_M_append 163 = .ok (.getfield 25, 3) := by decide +kernel
theorem d_M_append_166 : decode b_M_append 166 = .ok (.imul, 1) := by decide +kernel
theorem d_M_append_167 : decode b_M_append 167 = .ok (.iconst 1, 1) := by decide +kernel
theorem d_M_append_168 : decode b_M_append 168 = .ok (.isub, 1) := by decide +kernel
theorem d_M_append_169 : decode b_M_append 169 = .ok (.iload_n 2, 1) := by decide +kernel
theorem d_M_append_170 : decode b_M_append 170 = .ok (.iastore, 1) := by decide +kernel
theorem d_M_append_171 : decode b_M_append 171 = .ok (.aload_n 0, 1) := by decide +kernel
theorem d_M_append_172 : decode b_M_append 172 = .ok (.invokevirtual 65, 3) := by decide +kernel
theorem d_M_append_175 : decode b_M_append 175 = .ok (.sipush 2000, 3) := by decide +kernel
theorem d_M_append_178 : decode b_M_append 178 = .ok (.if_icmp .le 38, 3) := by decide +kernel
theorem d_M_append_181 : decode b_M_append 181 = .ok (.aload_n 0, 1) := by decide +kernel
theorem d_M_append_182 : decode b_M_append 182 = .ok (.getfield 8, 3) := by decide +kernel
theorem d_M_append_185 : decode b_M_append 185 = .ok (.aload_n 0, 1) := by decide +kernel
theorem d_M_append_186 : decode b_M_append 186 = .ok (.getfield 25, 3) := by decide +kernel
theorem d_M_append_189 : decode b_M_append 189 = .ok (.iconst 1, 1) := by decide +kernel
theorem d_M_append_190 : decode b_M_append 190 = .ok (.isub, 1) := by decide +kernel
theorem d_M_append_191 : decode b_M_append 191 = .ok (.iload 4, 2) := by decide +kernel
theorem d_M_append_193 : decode b_M_append 193 = .ok (.iastore, 1) := by decide +kernel
theorem d_M_append_194 : decode b_M_append 194 = .ok (.aload_n 0, 1) := by decide +kernel
theorem d_M_append_195 : decode b_M_append 195 = .ok (.dup, 1) := by decide +kernel
theorem d_M_append_196 : decode b_M_append 196 = .ok (.getfield 25, 3) := by decide +kernel
theorem d_M_append_199 : decode b_M_append 199 = .ok (.iload 5, 2) := by decide +kernel
theorem d_M_append_201 : decode b_M_append 201 = .ok (.ifCond .eq 7, 3) := by decide +kernel
theorem d_M_append_204 : decode b_M_append 204 = .ok (.iconst 0, 1) := by decide +kernel
theorem d_M_append_205 : decode b_M_append 205 = .ok (.goto 4, 3) := by decide +kernel
theorem d_M_append_208 : decode b_M_append 208 = .ok (.iconst 1, 1) := by decide +kernel
theorem d_M_append_209 : decode b_M_append 209 = .ok (.isub, 1) := by decide +kernel
theorem d_M_append_210 : decode b_M_append 210 = .ok (.putfield 25, 3) := by decide +kernel
theorem d_M_append_213 : decode b_M_append 213 = .ok (.bipush (-3), 2) := by decide +kernel
theorem d_M_append_215 : decode b_M_append 215 = .ok (.ireturn, 1) := by decide +kernel
theorem d_M_append_216 : decode b_M_append 216 = .ok (.iload 4, 2) := by decide +kernel
theorem d_M_append_218 : decode b_M_append 218 = .ok (.iload_n 3, 1) := by decide +kernel
theorem d_M_append_219 : decode b_M_append 219 = .ok (.iadd, 1) := by decide +kernel
theorem d_M_append_220 : decode b_M_append 220 = .ok (.ireturn, 1) := by decide +kernel
theorem d_M_wordsOf_0 : decode b_M_wordsOf 0 = .ok (.aload_n 0, 1) := by decide +kernel
theorem d_M_wordsOf_1 : decode b_M_wordsOf 1 = .ok (.aload_n 0, 1) := by decide +kernel
theorem d_M_wordsOf_2 : decode b_M_wordsOf 2 = .ok (.getfield 22, 3) := by decide +kernel
theorem d_M_wordsOf_5 : decode b_M_wordsOf 5 = .ok (.iload_n 1, 1) := by decide +kernel
theorem d_M_wordsOf_6 : decode b_M_wordsOf 6 = .ok (.iaload, 1) := by decide +kernel
theorem d_M_wordsOf_7 : decode b_M_wordsOf 7 = .ok (.aload_n 0, 1) := by decide +kernel
theorem d_M_wordsOf_8 : decode b_M_wordsOf 8 = .ok (.getfield 22, 3) := by decide +kernel
theorem d_M_wordsOf_11 : decode b_M_wordsOf 11 = .ok (.iload_n 1, 1) := by decide +kernel
theorem d_M_wordsOf_12 : decode b_M_wordsOf 12 = .ok (.iconst 1, 1) := by decide +kernel
theorem d_M_wordsOf_13 : decode b_M_wordsOf 13 = .ok (.iadd, 1) := by decide +kernel
theorem d_M_wordsOf_14 : decode b_M_wordsOf 14 = .ok (.iaload, 1) := by decide +kernel
theorem d_M_wordsOf_15 : decode b_M_wordsOf 15 = .ok (.iconst (-1), 1) := by decide +kernel
theorem d_M_wordsOf_16 : decode b_M_wordsOf 16 = .ok (.invokevirtual 61, 3) := by decide +kernel
theorem d_M_wordsOf_19 : decode b_M_wordsOf 19 = .ok (.ireturn, 1) := by decide +kernel
theorem d_M_stackRoom_0 : decode b_M_stackRoom 0 = .ok (.iconst 0, 1) := by decide +kernel
theorem d_M_stackRoom_1 : decode b_M_stackRoom 1 = .ok (.istore_n 1, 1) := by decide +kernel
theorem d_M_stackRoom_2 : decode b_M_stackRoom 2 = .ok (.iconst 0, 1) := by decide +kernel
theorem d_M_stackRoom_3 : decode b_M_stackRoom 3 = .ok (.istore_n 2, 1) := by decide +kernel
theorem d_M_stackRoom_4 : decode b_M_stackRoom 4 = .ok (.iload_n 2, 1) := by decide +kernel
theorem d_M_stackRoom_5 : decode b_M_stackRoom 5 = .ok (.aload_n 0, 1) := by decide +kernel
theorem d_M_stackRoom_6 : decode b_M_stackRoom 6 = .ok (.getfield 54, 3) := by decide +kernel
theorem d_M_stackRoom_9 : decode b_M_stackRoom 9 = .ok (.if_icmp .ge 17, 3) := by decide +kernel
theorem d_M_stackRoom_12 : decode b_M_stackRoom 12 = .ok (.iload_n 1, 1) := by decide +kernel
theorem d_M_stackRoom_13 : decode b_M_stackRoom 13 = .ok (.aload_n 0, 1) := by decide +kernel
theorem d_M_stackRoom_14 : decode b_M_stackRoom 14 = .ok (.iload_n 2, 1) := by decide +kernel
theorem d_M_stackRoom_15 : decode b_M_stackRoom 15 = .ok (.invokevirtual 68, 3) := by decide +kernel
theorem d_M_stackRoom_18 : decode b_M_stackRoom 18 = .ok (.iadd, 1) := by decide +kernel
theorem d_M_stackRoom_19 : decode b_M_stackRoom 19 = .ok (.istore_n 1, 1) := by decide +kernel
theorem d_M_stackRoom_20 : decode b_M_stackRoom 20 = .ok (.iinc 2 1, 3) := by decide +kernel
theorem d_M_stackRoom_23 : decode b_M_stackRoom 23 = .ok (.goto (-19), 3) := by decide +kernel
theorem d_M_stackRoom_26 : decode b_M_stackRoom 26 = .ok (.iload_n 1, 1) := by decide +kernel
theorem d_M_stackRoom_27 : decode b_M_stackRoom 27 = .ok (.ireturn, 1) := by decide +kernel
theorem d_M_comes_0 : decode b_M_comes 0 = .ok (.aload_n 0, 1) := by decide +kernel
theorem d_M_comes_1 : decode b_M_comes 1 = .ok (.getfield 54, 3) := by decide +kernel
theorem d_M_comes_4 : decode b_M_comes 4 = .ok (.bipush 12, 2) := by decide +kernel
theorem d_M_comes_6 : decode b_M_comes 6 = .ok (.if_icmp .eq 29, 3) := by decide +kernel
theorem d_M_comes_9 : decode b_M_comes 9 = .ok (.aload_n 0, 1) := by decide +kernel
theorem d_M_comes_10 : decode b_M_comes 10 = .ok (.invokevirtual 72, 3) := by decide +kernel
theorem d_M_comes_13 : decode b_M_comes 13 = .ok (.aload_n 0, 1) := by decide +kernel
theorem d_M_comes_14 : decode b_M_comes 14 = .ok (.aload_n 0, 1) := by decide +kernel
theorem d_M_comes_15 : decode b_M_comes 15 = .ok (.getfield 22, 3) := by decide +kernel
theorem d_M_comes_18 : decode b_M_comes 18 = .ok (.aload_n 0, 1) := by decide +kernel
theorem d_M_comes_19 : decode b_M_comes 19 = .ok (.getfield 54, 3) := by decide +kernel
theorem d_M_comes_22 : decode b_M_comes 22 = .ok (.iaload, 1) := by decide +kernel
theorem d_M_comes_23 : decode b_M_comes 23 = .ok (.iload_n 1, 1) := by decide +kernel
theorem d_M_comes_24 : decode b_M_comes 24 = .ok (.iconst (-1), 1) := by decide +kernel
theorem d_M_comes_25 : decode b_M_comes 25 = .ok (.invokevirtual 61, 3) := by decide +kernel
theorem d_M_comes_28 : decode b_M_comes 28 = .ok (.iadd, 1) := by decide +kernel
theorem d_M_comes_29 : decode b_M_comes 29 = .ok (.sipush 3000, 3) := by decide +kernel
theorem d_M_comes_32 : decode b_M_comes 32 = .ok (.if_icmp .le 5, 3) := by decide +kernel
theorem d_M_comes_35 : decode b_M_comes 35 = .ok (.iconst 0, 1) := by decide +kernel
theorem d_M_comes_36 : decode b_M_comes 36 = .ok (.ireturn, 1) := by decide +kernel
theorem d_M_comes_37 : decode b_M_comes 37 = .ok (.aload_n 0, 1) := by decide +kernel
theorem d_M_comes_38 : decode b_M_comes 38 = .ok (.dup, 1) := by decide +kernel
theorem d_M_comes_39 : decode b_M_comes 39 = .ok (.getfield 54, 3) := by decide +kernel
theorem d_M_comes_42 : decode b_M_comes 42 = .ok (.iconst 1, 1) := by decide +kernel
theorem d_M_comes_43 : decode b_M_comes 43 = .ok (.iadd, 1) := by decide +kernel
theorem d_M_comes_44 : decode b_M_comes 44 = .ok (.putfield 54, 3) := by decide +kernel
theorem d_M_comes_47 : decode b_M_comes 47 = .ok (.aload_n 0, 1) := by decide +kernel
theorem d_M_comes_48 : decode b_M_comes 48 = .ok (.getfield 22, 3) := by decide +kernel
theorem d_M_comes_51 : decode b_M_comes 51 = .ok (.aload_n 0, 1) := by decide +kernel
theorem d_M_comes_52 : decode b_M_comes 52 = .ok (.getfield 54, 3) := by decide +kernel
theorem d_M_comes_55 : decode b_M_comes 55 = .ok (.iload_n 1, 1) := by decide +kernel
theorem d_M_comes_56 : decode b_M_comes 56 = .ok (.iastore, 1) := by decide +kernel
theorem d_M_comes_57 : decode b_M_comes 57 = .ok (.iconst 1, 1) := by decide +kernel
theorem d_M_comes_58 : decode b_M_comes 58 = .ok (.ireturn, 1) := by decide +kernel
theorem d_M_push_0 : decode b_M_push 0 = .ok (.iload_n 1, 1) := by decide +kernel
theorem d_M_push_1 : decode b_M_push 1 = .ok (.ifCond .lt 18, 3) := by decide +kernel
theorem d_M_push_4 : decode b_M_push 4 = .ok (.iload_n 1, 1) := by decide +kernel
theorem d_M_push_5 : decode b_M_push 5 = .ok (.iconst 1, 1) := by decide +kernel
theorem d_M_push_6 : decode b_M_push 6 = .ok (.if_icmp .gt 13, 3) := by decide +kernel
theorem d_M_push_9 : decode b_M_push 9 = .ok (.iload_n 2, 1) := by decide +kernel
theorem d_M_push_10 : decode b_M_push 10 = .ok (.ifCond .lt 9, 3) := by decide +kernel
theorem d_M_push_13 : decode b_M_push 13 = .ok (.iload_n 2, 1) := by decide +kernel
theorem d_M_push_14 : decode b_M_push 14 = .ok (.bipush 15, 2) := by decide +kernel
theorem d_M_push_16 : decode b_M_push 16 = .ok (.if_icmp .le 5, 3) := by decide +kernel
theorem d_M_push_19 : decode b_M_push 19 = .ok (.iconst (-1), 1) := by decide +kernel
theorem d_M_push_20 : decode b_M_push 20 = .ok (.ireturn, 1) := by decide +kernel
theorem d_M_push_21 : decode b_M_push 21 = .ok (.aload_n 0, 1) := by decide +kernel
theorem d_M_push_22 : decode b_M_push 22 = .ok (.aload_n 0, 1) := by decide +kernel
theorem d_M_push_23 : decode b_M_push 23 = .ok (.iload_n 1, 1) := by decide +kernel
theorem d_M_push_24 : decode b_M_push 24 = .ok (.iload_n 2, 1) := by decide +kernel
theorem d_M_push_25 : decode b_M_push 25 = .ok (.aload_n 0, 1) := by decide +kernel
theorem d_M_push_26 : decode b_M_push 26 = .ok (.getfield 22, 3) := by decide +kernel
theorem d_M_push_29 : decode b_M_push 29 = .ok (.aload_n 0, 1) := by decide +kernel
theorem d_M_push_30 : decode b_M_push 30 = .ok (.getfield 54, 3) := by decide +kernel
theorem d_M_push_33 : decode b_M_push 33 = .ok (.iaload, 1) := by decide +kernel
theorem d_M_push_34 : decode b_M_push 34 = .ok (.invokevirtual 57, 3) := by decide +kernel
theorem d_M_push_37 : decode b_M_push 37 = .ok (.invokevirtual 75, 3) := by decide +kernel
theorem d_M_push_40 : decode b_M_push 40 = .ok (.ifCond .eq 10, 3) := by decide +kernel
theorem d_M_push_43 : decode b_M_push 43 = .ok (.aload_n 0, 1) := by decide +kernel
theorem d_M_push_44 : decode b_M_push 44 = .ok (.getfield 54, 3) := by decide +kernel
theorem d_M_push_47 : decode b_M_push 47 = .ok (.goto 5, 3) := by decide +kernel
theorem d_M_push_50 : decode b_M_push 50 = .ok (.bipush (-3), 2) := by decide +kernel
theorem d_M_push_52 : decode b_M_push 52 = .ok (.ireturn, 1) := by decide +kernel
theorem d_M_copy_0 : decode b_M_copy 0 = .ok (.aload_n 0, 1) := by decide +kernel
theorem d_M_copy_1 : decode b_M_copy 1 = .ok (.getfield 54, 3) := by decide +kernel
theorem d_M_copy_4 : decode b_M_copy 4 = .ok (.ifCond .ne 6, 3) := by decide +kernel
theorem d_M_copy_7 : decode b_M_copy 7 = .ok (.bipush (-4), 2) := by decide +kernel
theorem d_M_copy_9 : decode b_M_copy 9 = .ok (.ireturn, 1) := by decide +kernel
theorem d_M_copy_10 : decode b_M_copy 10 = .ok (.aload_n 0, 1) := by decide +kernel
theorem d_M_copy_11 : decode b_M_copy 11 = .ok (.getfield 22, 3) := by decide +kernel
theorem d_M_copy_14 : decode b_M_copy 14 = .ok (.aload_n 0, 1) := by decide +kernel
theorem d_M_copy_15 : decode b_M_copy 15 = .ok (.getfield 54, 3) := by decide +kernel
theorem d_M_copy_18 : decode b_M_copy 18 = .ok (.iconst 1, 1) := by decide +kernel
theorem d_M_copy_19 : decode b_M_copy 19 = .ok (.isub, 1) := by decide +kernel
theorem d_M_copy_20 : decode b_M_copy 20 = .ok (.iaload, 1) := by decide +kernel
theorem d_M_copy_21 : decode b_M_copy 21 = .ok (.istore_n 1, 1) := by decide +kernel
theorem d_M_copy_22 : decode b_M_copy 22 = .ok (.aload_n 0, 1) := by decide +kernel
theorem d_M_copy_23 : decode b_M_copy 23 = .ok (.getfield 22, 3) := by decide +kernel
theorem d_M_copy_26 : decode b_M_copy 26 = .ok (.aload_n 0, 1) := by decide +kernel
theorem d_M_copy_27 : decode b_M_copy 27 = .ok (.getfield 54, 3) := by decide +kernel
theorem d_M_copy_30 : decode b_M_copy 30 = .ok (.iaload, 1) := by decide +kernel
theorem d_M_copy_31 : decode b_M_copy 31 = .ok (.iload_n 1, 1) := by decide +kernel
theorem d_M_copy_32 : decode b_M_copy 32 = .ok (.isub, 1) := by decide +kernel
theorem d_M_copy_33 : decode b_M_copy 33 = .ok (.istore_n 2, 1) := by decide +kernel
theorem d_M_copy_34 : decode b_M_copy 34 = .ok (.iconst 0, 1) := by decide +kernel
theorem d_M_copy_35 : decode b_M_copy 35 = .ok (.istore_n 3, 1) := by decide +kernel
theorem d_M_copy_36 : decode b_M_copy 36 = .ok (.iload_n 3, 1) := by decide +kernel
theorem d_M_copy_37 : decode b_M_copy 37 = .ok (.iload_n 2, 1) := by decide +kernel
theorem d_M_copy_38 : decode b_M_copy 38 = .ok (.if_icmp .ge 27, 3) := by decide +kernel
theorem d_M_copy_41 : decode b_M_copy 41 = .ok (.aload_n 0, 1) := by decide +kernel
theorem d_M_copy_42 : decode b_M_copy 42 = .ok (.getfield 19, 3) := by decide +kernel
theorem d_M_copy_45 : decode b_M_copy 45 = .ok (.iload_n 1, 1) := by decide +kernel
theorem d_M_copy_46 : decode b_M_copy 46 = .ok (.iload_n 2, 1) := by decide +kernel
theorem d_M_copy_47 : decode b_M_copy 47 = .ok (.iadd, 1) := by decide +kernel
theorem d_M_copy_48 : decode b_M_copy 48 = .ok (.iload_n 3, 1) := by decide +kernel
theorem d_M_copy_49 : decode b_M_copy 49 = .ok (.iadd, 1) := by decide +kernel
theorem d_M_copy_50 : decode b_M_copy 50 = .ok (.aload_n 0, 1) := by decide +kernel
theorem d_M_copy_51 : decode b_M_copy 51 = .ok (.getfield 19, 3) := by decide +kernel
theorem d_M_copy_54 : decode b_M_copy 54 = .ok (.iload_n 1, 1) := by decide +kernel
theorem d_M_copy_55 : decode b_M_copy 55 = .ok (.iload_n 3, 1) := by decide +kernel
theorem d_M_copy_56 : decode b_M_copy 56 = .ok (.iadd, 1) := by decide +kernel
theorem d_M_copy_57 : decode b_M_copy 57 = .ok (.iaload, 1) := by decide +kernel
theorem d_M_copy_58 : decode b_M_copy 58 = .ok (.iastore, 1) := by decide +kernel
theorem d_M_copy_59 : decode b_M_copy 59 = .ok (.iinc 3 1, 3) := by decide +kernel
theorem d_M_copy_62 : decode b_M_copy 62 = .ok (.goto (-26), 3) := by decide +kernel
theorem d_M_copy_65 : decode b_M_copy 65 = .ok (.aload_n 0, 1) := by decide +kernel
theorem d_M_copy_66 : decode b_M_copy 66 = .ok (.iload_n 1, 1) := by decide +kernel
theorem d_M_copy_67 : decode b_M_copy 67 = .ok (.iconst 2, 1) := by decide +kernel
theorem d_M_copy_68 : decode b_M_copy 68 = .ok (.iload_n 2, 1) := by decide +kernel
theorem d_M_copy_69 : decode b_M_copy 69 = .ok (.imul, 1) := by decide +kernel
theorem d_M_copy_70 : decode b_M_copy 70 = .ok (.iadd, 1) := by decide +kernel
theorem d_M_copy_71 : decode b_M_copy 71 = .ok (.invokevirtual 75, 3) := by decide +kernel
theorem d_M_copy_74 : decode b_M_copy 74 = .ok (.ifCond .eq 10, 3) := by decide +kernel
theorem d_M_copy_77 : decode b_M_copy 77 = .ok (.aload_n 0, 1) := by decide +kernel
theorem d_M_copy_78 : decode b_M_copy 78 = .ok (.getfield 54, 3) := by decide +kernel
theorem d_M_copy_81 : decode b_M_copy 81 = .ok (.goto 5, 3) := by decide +kernel
theorem d_M_copy_84 : decode b_M_copy 84 = .ok (.bipush (-3), 2) := by decide +kernel
theorem d_M_copy_86 : decode b_M_copy 86 = .ok (.ireturn, 1) := by decide +kernel
theorem d_M_become_0 : decode b_M_become 0 = .ok (.iconst 0, 1) := by decide +kernel
theorem d_M_become_1 : decode b_M_become 1 = .ok (.istore_n 3, 1) := by decide +kernel
theorem d_M_become_2 : decode b_M_become 2 = .ok (.iconst 0, 1) := by decide +kernel
theorem d_M_become_3 : decode b_M_become 3 = .ok (.istore 4, 2) := by decide +kernel
theorem d_M_become_5 : decode b_M_become 5 = .ok (.iload 4, 2) := by decide +kernel
theorem d_M_become_7 : decode b_M_become 7 = .ok (.aload_n 0, 1) := by decide +kernel
theorem d_M_become_8 : decode b_M_become 8 = .ok (.getfield 54, 3) := by decide +kernel
theorem d_M_become_11 : decode b_M_become 11 = .ok (.iload_n 1, 1) := by decide +kernel
theorem d_M_become_12 : decode b_M_become 12 = .ok (.isub, 1) := by decide +kernel
theorem d_M_become_13 : decode b_M_become 13 = .ok (.if_icmp .ge 18, 3) := by decide +kernel
theorem d_M_become_16 : decode b_M_become 16 = .ok (.iload_n 3, 1) := by decide +kernel
theorem d_M_become_17 : decode b_M_become 17 = .ok (.aload_n 0, 1) := by decide +kernel
theorem d_M_become_18 : decode b_M_become 18 = .ok (.iload 4, 2) := by decide +kernel
theorem d_M_become_20 : decode b_M_become 20 = .ok (.invokevirtual 68, 3) := by decide +kernel
theorem d_M_become_23 : decode b_M_become 23 = .ok (.iadd, 1) := by decide +kernel
theorem d_M_become_24 : decode b_M_become 24 = .ok (.istore_n 3, 1) := by decide +kernel
theorem d_M_become_25 : decode b_M_become 25 = .ok (.iinc 4 1, 3) := by decide +kernel
theorem d_M_become_28 : decode b_M_become 28 = .ok (.goto (-23), 3) := by decide +kernel
theorem d_M_become_31 : decode b_M_become 31 = .ok (.aload_n 0, 1) := by decide +kernel
theorem d_M_become_32 : decode b_M_become 32 = .ok (.getfield 22, 3) := by decide +kernel
theorem d_M_become_35 : decode b_M_become 35 = .ok (.aload_n 0, 1) := by decide +kernel
theorem d_M_become_36 : decode b_M_become 36 = .ok (.getfield 54, 3) := by decide +kernel
theorem d_M_become_39 : decode b_M_become 39 = .ok (.iaload, 1) := by decide +kernel
theorem d_M_become_40 : decode b_M_become 40 = .ok (.istore 4, 2) := by decide +kernel
theorem d_M_become_42 : decode b_M_become 42 = .ok (.iload_n 3, 1) := by decide +kernel
theorem d_M_become_43 : decode b_M_become 43 = .ok (.aload_n 0, 1) := by decide +kernel
theorem d_M_become_44 : decode b_M_become 44 = .ok (.iload 4, 2) := by decide +kernel
theorem d_M_become_46 : decode b_M_become 46 = .ok (.iload_n 2, 1) := by decide +kernel
theorem d_M_become_47 : decode b_M_become 47 = .ok (.iconst (-1), 1) := by decide +kernel
theorem d_M_become_48 : decode b_M_become 48 = .ok (.invokevirtual 61, 3) := by decide +kernel
theorem d_M_become_51 : decode b_M_become 51 = .ok (.iadd, 1) := by decide +kernel
theorem d_M_become_52 : decode b_M_become 52 = .ok (.sipush 3000, 3) := by decide +kernel
theorem d_M_become_55 : decode b_M_become 55 = .ok (.if_icmp .le 5, 3) := by decide +kernel
theorem d_M_become_58 : decode b_M_become 58 = .ok (.iconst 0, 1) := by decide +kernel
theorem d_M_become_59 : decode b_M_become 59 = .ok (.ireturn, 1) := by decide +kernel
theorem d_M_become_60 : decode b_M_become 60 = .ok (.aload_n 0, 1) := by decide +kernel
theorem d_M_become_61 : decode b_M_become 61 = .ok (.getfield 22, 3) := by decide +kernel
theorem d_M_become_64 : decode b_M_become 64 = .ok (.aload_n 0, 1) := by decide +kernel
theorem d_M_become_65 : decode b_M_become 65 = .ok (.getfield 54, 3) := by decide +kernel
theorem d_M_become_68 : decode b_M_become 68 = .ok (.iload_n 1, 1) := by decide +kernel
theorem d_M_become_69 : decode b_M_become 69 = .ok (.isub, 1) := by decide +kernel
theorem d_M_become_70 : decode b_M_become 70 = .ok (.iaload, 1) := by decide +kernel
theorem d_M_become_71 : decode b_M_become 71 = .ok (.istore 5, 2) := by decide +kernel
theorem d_M_become_73 : decode b_M_become 73 = .ok (.iconst 0, 1) := by decide +kernel
theorem d_M_become_74 : decode b_M_become 74 = .ok (.istore 6, 2) := by decide +kernel
theorem d_M_become_76 : decode b_M_become 76 = .ok (.iload 6, 2) := by decide +kernel
theorem d_M_become_78 : decode b_M_become 78 = .ok (.iload_n 2, 1) := by decide +kernel
theorem d_M_become_79 : decode b_M_become 79 = .ok (.iload 4, 2) := by decide +kernel
theorem d_M_become_81 : decode b_M_become 81 = .ok (.isub, 1) := by decide +kernel
theorem d_M_become_82 : decode b_M_become 82 = .ok (.if_icmp .ge 29, 3) := by decide +kernel
theorem d_M_become_85 : decode b_M_become 85 = .ok (.aload_n 0, 1) := by decide +kernel
theorem d_M_become_86 : decode b_M_become 86 = .ok (.getfield 19, 3) := by decide +kernel
theorem d_M_become_89 : decode b_M_become 89 = .ok (.iload 5, 2) := by decide +kernel
theorem d_M_become_91 : decode b_M_become 91 = .ok (.iload 6, 2) := by decide +kernel
theorem d_M_become_93 : decode b_M_become 93 = .ok (.iadd, 1) := by decide +kernel
theorem d_M_become_94 : decode b_M_become 94 = .ok (.aload_n 0, 1) := by decide +kernel
theorem d_M_become_95 : decode b_M_become 95 = .ok (.getfield 19, 3) := by decide +kernel
theorem d_M_become_98 : decode b_M_become 98 = .ok (.iload 4, 2) := by decide +kernel
theorem d_M_become_100 : decode b_M_become 100 = .ok (.iload 6, 2) := by decide +kernel
theorem d_M_become_102 : decode b_M_become 102 = .ok (.iadd, 1) := by decide +kernel
theorem d_M_become_103 : decode b_M_become 103 = .ok (.iaload, 1) := by decide +kernel
theorem d_M_become_104 : decode b_M_become 104 = .ok (.iastore, 1) := by decide +kernel
theorem d_M_become_105 : decode b_M_become 105 = .ok (.iinc 6 1, 3) := by decide +kernel
theorem d_M_become_108 : decode b_M_become 108 = .ok (.goto (-32), 3) := by decide +kernel
theorem d_M_become_111 : decode b_M_become 111 = .ok (.aload_n 0, 1) := by decide +kernel
theorem d_M_become_112 : decode b_M_become 112 = .ok (.aload_n 0, 1) := by decide +kernel
theorem d_M_become_113 : decode b_M_become 113 = .ok (.getfield 54, 3) := by decide +kernel
theorem d_M_become_116 : decode b_M_become 116 = .ok (.iload_n 1, 1) := by decide +kernel
theorem d_M_become_117 : decode b_M_become 117 = .ok (.isub, 1) := by decide +kernel
theorem d_M_become_118 : decode b_M_become 118 = .ok (.iconst 1, 1) := by decide +kernel
theorem d_M_become_119 : decode b_M_become 119 = .ok (.iadd, 1) := by decide +kernel
theorem d_M_become_120 : decode b_M_become 120 = .ok (.putfield 54, 3) := by decide +kernel
theorem d_M_become_123 : decode b_M_become 123 = .ok (.aload_n 0, 1) := by decide +kernel
theorem d_M_become_124 : decode b_M_become 124 = .ok (.getfield 22, 3) := by decide +kernel
theorem d_M_become_127 : decode b_M_become 127 = .ok (.aload_n 0, 1) := by decide +kernel
theorem d_M_become_128 : decode b_M_become 128 = .ok (.getfield 54, 3) := by decide +kernel
theorem d_M_become_131 : decode b_M_become 131 = .ok (.iload 5, 2) := by decide +kernel
theorem d_M_become_133 : decode b_M_become 133 = .ok (.iload_n 2, 1) := by decide +kernel
theorem d_M_become_134 : decode b_M_become 134 = .ok (.iadd, 1) := by decide +kernel
theorem d_M_become_135 : decode b_M_become 135 = .ok (.iload 4, 2) := by decide +kernel
theorem d_M_become_137 : decode b_M_become 137 = .ok (.isub, 1) := by decide +kernel
theorem d_M_become_138 : decode b_M_become 138 = .ok (.iastore, 1) := by decide +kernel
theorem d_M_become_139 : decode b_M_become 139 = .ok (.iconst 1, 1) := by decide +kernel
theorem d_M_become_140 : decode b_M_become 140 = .ok (.ireturn, 1) := by decide +kernel
theorem d_M_is_0 : decode b_M_is 0 = .ok (.iload_n 0, 1) := by decide +kernel
theorem d_M_is_1 : decode b_M_is 1 = .ok (.ifCond .ne 19, 3) := by decide +kernel
theorem d_M_is_4 : decode b_M_is 4 = .ok (.iload_n 1, 1) := by decide +kernel
theorem d_M_is_5 : decode b_M_is 5 = .ok (.ifCond .eq 11, 3) := by decide +kernel
theorem d_M_is_8 : decode b_M_is 8 = .ok (.iload_n 2, 1) := by decide +kernel
theorem d_M_is_9 : decode b_M_is 9 = .ok (.ifCond .eq 7, 3) := by decide +kernel
theorem d_M_is_12 : decode b_M_is 12 = .ok (.iconst 1, 1) := by decide +kernel
theorem d_M_is_13 : decode b_M_is 13 = .ok (.goto 59, 3) := by decide +kernel
theorem d_M_is_16 : decode b_M_is 16 = .ok (.iconst 0, 1) := by decide +kernel
theorem d_M_is_17 : decode b_M_is 17 = .ok (.goto 55, 3) := by decide +kernel
theorem d_M_is_20 : decode b_M_is 20 = .ok (.iload_n 0, 1) := by decide +kernel
theorem d_M_is_21 : decode b_M_is 21 = .ok (.iconst 1, 1) := by decide +kernel
theorem d_M_is_22 : decode b_M_is 22 = .ok (.if_icmp .ne 19, 3) := by decide +kernel
theorem d_M_is_25 : decode b_M_is 25 = .ok (.iload_n 1, 1) := by decide +kernel
theorem d_M_is_26 : decode b_M_is 26 = .ok (.ifCond .ne 7, 3) := by decide +kernel
theorem d_M_is_29 : decode b_M_is 29 = .ok (.iload_n 2, 1) := by decide +kernel
theorem d_M_is_30 : decode b_M_is 30 = .ok (.ifCond .eq 7, 3) := by decide +kernel
theorem d_M_is_33 : decode b_M_is 33 = .ok (.iconst 1, 1) := by decide +kernel
theorem d_M_is_34 : decode b_M_is 34 = .ok (.goto 38, 3) := by decide +kernel
theorem d_M_is_37 : decode b_M_is 37 = .ok (.iconst 0, 1) := by decide +kernel
theorem d_M_is_38 : decode b_M_is 38 = .ok (.goto 34, 3) := by decide +kernel
theorem d_M_is_41 : decode b_M_is 41 = .ok (.iload_n 0, 1) := by decide +kernel
theorem d_M_is_42 : decode b_M_is 42 = .ok (.iconst 2, 1) := by decide +kernel
theorem d_M_is_43 : decode b_M_is 43 = .ok (.if_icmp .ne 19, 3) := by decide +kernel
theorem d_M_is_46 : decode b_M_is 46 = .ok (.iload_n 1, 1) := by decide +kernel
theorem d_M_is_47 : decode b_M_is 47 = .ok (.ifCond .eq 11, 3) := by decide +kernel
theorem d_M_is_50 : decode b_M_is 50 = .ok (.iload_n 2, 1) := by decide +kernel
theorem d_M_is_51 : decode b_M_is 51 = .ok (.ifCond .ne 7, 3) := by decide +kernel
theorem d_M_is_54 : decode b_M_is 54 = .ok (.iconst 1, 1) := by decide +kernel
theorem d_M_is_55 : decode b_M_is 55 = .ok (.goto 17, 3) := by decide +kernel
theorem d_M_is_58 : decode b_M_is 58 = .ok (.iconst 0, 1) := by decide +kernel
theorem d_M_is_59 : decode b_M_is 59 = .ok (.goto 13, 3) := by decide +kernel
theorem d_M_is_62 : decode b_M_is 62 = .ok (.iload_n 1, 1) := by decide +kernel
theorem d_M_is_63 : decode b_M_is 63 = .ok (.iload_n 2, 1) := by decide +kernel
theorem d_M_is_64 : decode b_M_is 64 = .ok (.if_icmp .eq 7, 3) := by decide +kernel
theorem d_M_is_67 : decode b_M_is 67 = .ok (.iconst 1, 1) := by decide +kernel
theorem d_M_is_68 : decode b_M_is 68 = .ok (.goto 4, 3) := by decide +kernel
theorem d_M_is_71 : decode b_M_is 71 = .ok (.iconst 0, 1) := by decide +kernel
theorem d_M_is_72 : decode b_M_is 72 = .ok (.ireturn, 1) := by decide +kernel
theorem d_M_layJoined_0 : decode b_M_layJoined 0 = .ok (.iload 6, 2) := by decide +kernel
theorem d_M_layJoined_2 : decode b_M_layJoined 2 = .ok (.istore 7, 2) := by decide +kernel
theorem d_M_layJoined_4 : decode b_M_layJoined 4 = .ok (.iload_n 2, 1) := by decide +kernel
theorem d_M_layJoined_5 : decode b_M_layJoined 5 = .ok (.istore 8, 2) := by decide +kernel
theorem d_M_layJoined_7 : decode b_M_layJoined 7 = .ok (.iload 4, 2) := by decide +kernel
theorem d_M_layJoined_9 : decode b_M_layJoined 9 = .ok (.istore 9, 2) := by decide +kernel
theorem d_M_layJoined_11 : decode b_M_layJoined 11 = .ok (.iconst 0, 1) := by decide +kernel
theorem d_M_layJoined_12 : decode b_M_layJoined 12 = .ok (.istore 10, 2) := by decide +kernel
theorem d_M_layJoined_14 : decode b_M_layJoined 14 = .ok (.iload 10, 2) := by decide +kernel
theorem d_M_layJoined_16 : decode b_M_layJoined 16 = .ok (.aload_n 0, 1) := by decide +kernel
theorem d_M_layJoined_17 : decode b_M_layJoined 17 = .ok (.invokevirtual 41, 3) := by decide +kernel
theorem d_M_layJoined_20 : decode b_M_layJoined 20 = .ok (.if_icmp .ge 296, 3) := by decide +kernel
theorem d_M_layJoined_23 : decode b_M_layJoined 23 = .ok (.iload 8, 2) := by decide +kernel
theorem d_M_layJoined_25 : decode b_M_layJoined 25 = .ok (.iload_n 3, 1) := by decide +kernel
theorem d_M_layJoined_26 : decode b_M_layJoined 26 = .ok (.if_icmp .ge 23, 3) := by decide +kernel
theorem d_M_layJoined_29 : decode b_M_layJoined 29 = .ok (.aload_n 0, 1) := by decide +kernel
theorem d_M_layJoined_30 : decode b_M_layJoined 30 = .ok (.getfield 19, 3) := by decide +kernel
theorem d_M_layJoined_33 : decode b_M_layJoined 33 = .ok (.iload 8, 2) := by decide +kernel
theorem d_M_layJoined_35 : decode b_M_layJoined 35 = .ok (.iconst 1, 1) := by decide +kernel
theorem d_M_layJoined_36 : decode b_M_layJoined 36 = .ok (.iadd, 1) := by decide +kernel
theorem d_M_layJoined_37 : decode b_M_layJoined 37 = .ok (.iaload, 1) := by decide +kernel
theorem d_M_layJoined_38 : decode b_M_layJoined 38 = .ok (.iload 10, 2) := by decide +kernel
theorem d_M_layJoined_40 : decode b_M_layJoined 40 = .ok (.if_icmp .gt 9, 3) := by decide +kernel
theorem d_M_layJoined_43 : decode b_M_layJoined 43 = .ok (.iinc 8 2, 3) := by decide +kernel
theorem d_M_layJoined_46 : decode b_M_layJoined 46 = .ok (.goto (-23), 3) := by decide +kernel
theorem d_M_layJoined_49 : decode b_M_layJoined 49 = .ok (.iload 9, 2) := by decide +kernel
theorem d_M_layJoined_51 : decode b_M_layJoined 51 = .ok (.iload 5, 2) := by decide +kernel
theorem d_M_layJoined_53 : decode b_M_layJoined 53 = .ok (.if_icmp .ge 23, 3) := by decide +kernel
theorem d_M_layJoined_56 : decode b_M_layJoined 56 = .ok (.aload_n 0, 1) := by decide +kernel
theorem d_M_layJoined_57 : decode b_M_layJoined 57 = .ok (.getfield 19, 3) := by decide +kernel
theorem d_M_layJoined_60 : decode b_M_layJoined 60 = .ok (.iload 9, 2) := by decide +kernel
theorem d_M_layJoined_62 : decode b_M_layJoined 62 = .ok (.iconst 1, 1) := by decide +kernel
theorem d_M_layJoined_63 : decode b_M_layJoined 63 = .ok (.iadd, 1) := by decide +kernel
theorem d_M_layJoined_64 : decode b_M_layJoined 64 = .ok (.iaload, 1) := by decide +kernel
theorem d_M_layJoined_65 : decode b_M_layJoined 65 = .ok (.iload 10, 2) := by decide +kernel
theorem d_M_layJoined_67 : decode b_M_layJoined 67 = .ok (.if_icmp .gt 9, 3) := by decide +kernel
theorem d_M_layJoined_70 : decode b_M_layJoined 70 = .ok (.iinc 9 2, 3) := by decide +kernel
theorem d_M_layJoined_73 : decode b_M_layJoined 73 = .ok (.goto (-24), 3) := by decide +kernel
theorem d_M_layJoined_76 : decode b_M_layJoined 76 = .ok (.iload 8, 2) := by decide +kernel
theorem d_M_layJoined_78 : decode b_M_layJoined 78 = .ok (.iload_n 3, 1) := by decide +kernel
theorem d_M_layJoined_79 : decode b_M_layJoined 79 = .ok (.if_icmp .ge 19, 3) := by decide +kernel
theorem d_M_layJoined_82 : decode b_M_layJoined 82 = .ok (.aload_n 0, 1) := by decide +kernel
theorem d_M_layJoined_83 : decode b_M_layJoined 83 = .ok (.getfield 19, 3) := by decide +kernel
theorem d_M_layJoined_86 : decode b_M_layJoined 86 = .ok (.iload 8, 2) := by decide +kernel
theorem d_M_layJoined_88 : decode b_M_layJoined 88 = .ok (.iaload, 1) := by decide +kernel
theorem d_M_layJoined_89 : decode b_M_layJoined 89 = .ok (.iload 10, 2) := by decide +kernel
theorem d_M_layJoined_91 : decode b_M_layJoined 91 = .ok (.if_icmp .gt 7, 3) := by decide +kernel
theorem d_M_layJoined_94 : decode b_M_layJoined 94 = .ok (.iconst 1, 1) := by decide +kernel
theorem d_M_layJoined_95 : decode b_M_layJoined 95 = .ok (.goto 4, 3) := by decide +kernel
theorem d_M_layJoined_98 : decode b_M_layJoined 98 = .ok (.iconst 0, 1) := by decide +kernel
theorem d_M_layJoined_99 : decode b_M_layJoined 99 = .ok (.istore 11, 2) := by decide +kernel
theorem d_M_layJoined_101 : decode b_M_layJoined 101 = .ok (.iload 9, 2) := by decide +kernel
theorem d_M_layJoined_103 : decode b_M_layJoined 103 = .ok (.iload 5, 2) := by decide +kernel
theorem d_M_layJoined_105 : decode b_M_layJoined 105 = .ok (.if_icmp .ge 19, 3) := by decide +kernel
theorem d_M_layJoined_108 : decode b_M_layJoined 108 = .ok (.aload_n 0, 1) := by decide +kernel
theorem d_M_layJoined_109 : decode b_M_layJoined 109 = .ok (.getfield 19, 3) := by decide +kernel
theorem d_M_layJoined_112 : decode b_M_layJoined 112 = .ok (.iload 9, 2) := by decide +kernel
theorem d_M_layJoined_114 : decode b_M_layJoined 114 = .ok (.iaload, 1) := by decide +kernel
theorem d_M_layJoined_115 : decode b_M_layJoined 115 = .ok (.iload 10, 2) := by decide +kernel
theorem d_M_layJoined_117 : decode b_M_layJoined 117 = .ok (.if_icmp .gt 7, 3) := by decide +kernel
theorem d_M_layJoined_120 : decode b_M_layJoined 120 = .ok (.iconst 1, 1) := by decide +kernel
theorem d_M_layJoined_121 : decode b_M_layJoined 121 = .ok (.goto 4, 3) := by decide +kernel
theorem d_M_layJoined_124 : decode b_M_layJoined 124 = .ok (.iconst 0, 1) := by decide +kernel
theorem d_M_layJoined_125 : decode b_M_layJoined 125 = .ok (.istore 12, 2) := by decide +kernel
theorem d_M_layJoined_127 : decode b_M_layJoined 127 = .ok (.aload_n 0, 1) := by decide +kernel
theorem d_M_layJoined_128 : decode b_M_layJoined 128 = .ok (.invokevirtual 41, 3) := by decide +kernel
theorem d_M_layJoined_131 : decode b_M_layJoined 131 = .ok (.istore 13, 2) := by decide +kernel
theorem d_M_layJoined_133 : decode b_M_layJoined 133 = .ok (.iload 8, 2) := by decide +kernel
theorem d_M_layJoined_135 : decode b_M_layJoined 135 = .ok (.iload_n 3, 1) := by decide +kernel
theorem d_M_layJoined_136 : decode b_M_layJoined 136 = .ok (.if_icmp .ne 8, 3) := by decide +kernel
theorem d_M_layJoined_139 : decode b_M_layJoined 139 = .ok (.iload 13, 2) := by decide +kernel
theorem d_M_layJoined_141 : decode b_M_layJoined 141 = .ok (.goto 27, 3) := by decide +kernel
theorem d_M_layJoined_144 : decode b_M_layJoined 144 = .ok (.iload 11, 2) := by decide +kernel
theorem d_M_layJoined_146 : decode b_M_layJoined 146 = .ok (.ifCond .eq 15, 3) := by decide +kernel
theorem d_M_layJoined_149 : decode b_M_layJoined 149 = .ok (.aload_n 0, 1) := by decide +kernel
theorem d_M_layJoined_150 : decode b_M_layJoined 150 = .ok (.getfield 19, 3) := by decide +kernel
theorem d_M_layJoined_153 : decode b_M_layJoined 153 = .ok (.iload 8, 2) := by decide +kernel
theorem d_M_layJoined_155 : decode b_M_layJoined 155 = .ok (.iconst 1, 1) := by decide +kernel
theorem d_M_layJoined_156 : decode b_M_layJoined 156 = .ok (.iadd, 1) := by decide +kernel
theorem d_M_layJoined_157 : decode b_M_layJoined 157 = .ok (.iaload, 1) := by decide +kernel
theorem d_M_layJoined_158 : decode b_M_layJoined 158 = .ok (.goto 10, 3) := by decide +kernel
theorem d_M_layJoined_161 : decode b_M_layJoined 161 = .ok (.aload_n 0, 1) := by decide +kernel
theorem d_M_layJoined_162 : decode b_M_layJoined 162 = .ok (.getfield 19, 3) := by decide +kernel
theorem d_M_layJoined_165 : decode b_M_layJoined 165 = .ok (.iload 8, 2) := by decide +kernel
theorem d_M_layJoined_167 : decode b_M_layJoined 167 = .ok (.iaload, 1) := by decide +kernel
theorem d_M_layJoined_168 : decode b_M_layJoined 168 = .ok (.istore 14, 2) := by decide +kernel
theorem d_M_layJoined_170 : decode b_M_layJoined 170 = .ok (.iload 9, 2) := by decide +kernel
theorem d_M_layJoined_172 : decode b_M_layJoined 172 = .ok (.iload 5, 2) := by decide +kernel
theorem d_M_layJoined_174 : decode b_M_layJoined 174 = .ok (.if_icmp .ne 8, 3) := by decide +kernel
theorem d_M_layJoined_177 : decode b_M_layJoined 177 = .ok (.iload 13, 2) := by decide +kernel
theorem d_M_layJoined_179 : decode b_M_layJoined 179 = .ok (.goto 27, 3) := by decide +kernel
theorem d_M_layJoined_182 : decode b_M_layJoined 182 = .ok (.iload 12, 2) := by decide +kernel
theorem d_M_layJoined_184 : decode b_M_layJoined 184 = .ok (.ifCond .eq 15, 3) := by decide +kernel
theorem d_M_layJoined_187 : decode b_M_layJoined 187 = .ok (.aload_n 0, 1) := by decide +kernel
theorem d_M_layJoined_188 : decode b_M_layJoined 188 = .ok (.getfield 19, 3) := by decide +kernel
theorem d_M_layJoined_191 : decode b_M_layJoined 191 = .ok (.iload 9, 2) := by decide +kernel
theorem d_M_layJoined_193 : decode b_M_layJoined 193 = .ok (.iconst 1, 1) := by decide +kernel
theorem d_M_layJoined_194 : decode b_M_layJoined 194 = .ok (.iadd, 1) := by decide +kernel
theorem d_M_layJoined_195 : decode b_M_layJoined 195 = .ok (.iaload, 1) := by decide +kernel
theorem d_M_layJoined_196 : decode b_M_layJoined 196 = .ok (.goto 10, 3) := by decide +kernel
theorem d_M_layJoined_199 : decode b_M_layJoined 199 = .ok (.aload_n 0, 1) := by decide +kernel
theorem d_M_layJoined_200 : decode b_M_layJoined 200 = .ok (.getfield 19, 3) := by decide +kernel
theorem d_M_layJoined_203 : decode b_M_layJoined 203 = .ok (.iload 9, 2) := by decide +kernel
theorem d_M_layJoined_205 : decode b_M_layJoined 205 = .ok (.iaload, 1) := by decide +kernel
theorem d_M_layJoined_206 : decode b_M_layJoined 206 = .ok (.istore 15, 2) := by decide +kernel
theorem d_M_layJoined_208 : decode b_M_layJoined 208 = .ok (.iload 14, 2) := by decide +kernel
theorem d_M_layJoined_210 : decode b_M_layJoined 210 = .ok (.iload 13, 2) := by decide +kernel
theorem d_M_layJoined_212 : decode b_M_layJoined 212 = .ok (.if_icmp .ge 8, 3) := by decide +kernel
theorem d_M_layJoined_215 : decode b_M_layJoined 215 = .ok (.iload 14, 2) := by decide +kernel
theorem d_M_layJoined_217 : decode b_M_layJoined 217 = .ok (.goto 5, 3) := by decide +kernel
theorem d_M_layJoined_220 : decode b_M_layJoined 220 = .ok (.iload 13, 2) := by decide +kernel
theorem d_M_layJoined_222 : decode b_M_layJoined 222 = .ok (.istore 13, 2) := by decide +kernel
theorem d_M_layJoined_224 : decode b_M_layJoined 224 = .ok (.iload 15, 2) := by decide +kernel
theorem d_M_layJoined_226 : decode b_M_layJoined 226 = .ok (.iload 13, 2) := by decide +kernel
theorem d_M_layJoined_228 : decode b_M_layJoined 228 = .ok (.if_icmp .ge 8, 3) := by decide +kernel
theorem d_M_layJoined_231 : decode b_M_layJoined 231 = .ok (.iload 15, 2) := by decide +kernel
theorem d_M_layJoined_233 : decode b_M_layJoined 233 = .ok (.goto 5, 3) := by decide +kernel
theorem d_M_layJoined_236 : decode b_M_layJoined 236 = .ok (.iload 13, 2) := by decide +kernel
theorem d_M_layJoined_238 : decode b_M_layJoined 238 = .ok (.istore 13, 2) := by decide +kernel
theorem d_M_layJoined_240 : decode b_M_layJoined 240 = .ok (.iload_n 1, 1) := by decide +kernel
theorem d_M_layJoined_241 : decode b_M_layJoined 241 = .ok (.iload 11, 2) := by decide +kernel
theorem d_M_layJoined_243 : decode b_M_layJoined 243 = .ok (.iload 12, 2) := by decide +kernel
theorem d_M_layJoined_245 : decode b_M_layJoined 245 = .ok (.invokestatic 79, 3) := by decide +kernel
theorem d_M_layJoined_248 : decode b_M_layJoined 248 = .ok (.ifCond .eq 61, 3) := by decide +kernel
theorem d_M_layJoined_251 : decode b_M_layJoined 251 = .ok (.iload 7, 2) := by decide +kernel
theorem d_M_layJoined_253 : decode b_M_layJoined 253 = .ok (.iload 6, 2) := by decide +kernel
theorem d_M_layJoined_255 : decode b_M_layJoined 255 = .ok (.if_icmp .le 31, 3) := by decide +kernel
theorem d_M_layJoined_258 : decode b_M_layJoined 258 = .ok (.aload_n 0, 1) := by decide +kernel
theorem d_M_layJoined_259 : decode b_M_layJoined 259 = .ok (.getfield 19, 3) := by decide +kernel
theorem d_M_layJoined_262 : decode b_M_layJoined 262 = .ok (.iload 7, 2) := by decide +kernel
theorem d_M_layJoined_264 : decode b_M_layJoined 264 = .ok (.iconst 1, 1) := by decide +kernel
theorem d_M_layJoined_265 : decode b_M_layJoined 265 = .ok (.isub, 1) := by decide +kernel
theorem d_M_layJoined_266 : decode b_M_layJoined 266 = .ok (.iaload, 1) := by decide +kernel
theorem d_M_layJoined_267 : decode b_M_layJoined 267 = .ok (.iload 10, 2) := by decide +kernel
theorem d_M_layJoined_269 : decode b_M_layJoined 269 = .ok (.if_icmp .ne 17, 3) := by decide +kernel
theorem d_M_layJoined_272 : decode b_M_layJoined 272 = .ok (.aload_n 0, 1) := by decide +kernel
theorem d_M_layJoined_273 : decode b_M_layJoined 273 = .ok (.getfield 19, 3) := by decide +kernel
theorem d_M_layJoined_276 : decode b_M_layJoined 276 = .ok (.iload 7, 2) := by decide +kernel
theorem d_M_layJoined_278 : decode b_M_layJoined 278 = .ok (.iconst 1, 1) := by decide +kernel
theorem d_M_layJoined_279 : decode b_M_layJoined 279 = .ok (.isub, 1) := by decide +kernel
theorem d_M_layJoined_280 : decode b_M_layJoined 280 = .ok (.iload 13, 2) := by decide +kernel
theorem d_M_layJoined_282 : decode b_M_layJoined 282 = .ok (.iastore, 1) := by decide +kernel
theorem d_M_layJoined_283 : decode b_M_layJoined 283 = .ok (.goto 26, 3) := by decide +kernel
theorem d_M_layJoined_286 : decode b_M_layJoined 286 = .ok (.aload_n 0, 1) := by decide +kernel
theorem d_M_layJoined_287 : decode b_M_layJoined 287 = .ok (.getfield 19, 3) := by decide +kernel
theorem d_M_layJoined_290 : decode b_M_layJoined 290 = .ok (.iload 7, 2) := by decide +kernel
theorem d_M_layJoined_292 : decode b_M_layJoined 292 = .ok (.iload 10, 2) := by decide +kernel
theorem d_M_layJoined_294 : decode b_M_layJoined 294 = .ok (.iastore, 1) := by decide +kernel
theorem d_M_layJoined_295 : decode b_M_layJoined 295 = .ok (.aload_n 0, 1) := by decide +kernel
theorem d_M_layJoined_296 : decode b_M_layJoined 296 = .ok (.getfield 19, 3) := by decide +kernel
theorem d_M_layJoined_299 : decode b_M_layJoined 299 = .ok (.iload 7, 2) := by decide +kernel
theorem d_M_layJoined_301 : decode b_M_layJoined 301 = .ok (.iconst 1, 1) := by decide +kernel
theorem d_M_layJoined_302 : decode b_M_layJoined 302 = .ok (.iadd, 1) := by decide +kernel
theorem d_M_layJoined_303 : decode b_M_layJoined 303 = .ok (.iload 13, 2) := by decide +kernel
theorem d_M_layJoined_305 : decode b_M_layJoined 305 = .ok (.iastore, 1) := by decide +kernel
theorem d_M_layJoined_306 : decode b_M_layJoined 306 = .ok (.iinc 7 2, 3) := by decide +kernel
theorem d_M_layJoined_309 : decode b_M_layJoined 309 = .ok (.iload 13, 2) := by decide +kernel
theorem d_M_layJoined_311 : decode b_M_layJoined 311 = .ok (.istore 10, 2) := by decide +kernel
theorem d_M_layJoined_313 : decode b_M_layJoined 313 = .ok (.goto (-299), 3) := by decide +kernel
theorem d_M_layJoined_316 : decode b_M_layJoined 316 = .ok (.iload 7, 2) := by decide +kernel
theorem d_M_layJoined_318 : decode b_M_layJoined 318 = .ok (.ireturn, 1) := by decide +kernel
theorem d_M_join_0 : decode b_M_join 0 = .ok (.iload_n 1, 1) := by decide +kernel
theorem d_M_join_1 : decode b_M_join 1 = .ok (.ifCond .lt 8, 3) := by decide +kernel
theorem d_M_join_4 : decode b_M_join 4 = .ok (.iload_n 1, 1) := by decide +kernel
theorem d_M_join_5 : decode b_M_join 5 = .ok (.iconst 3, 1) := by decide +kernel
theorem d_M_join_6 : decode b_M_join 6 = .ok (.if_icmp .le 5, 3) := by decide +kernel
theorem d_M_join_9 : decode b_M_join 9 = .ok (.iconst (-1), 1) := by decide +kernel
theorem d_M_join_10 : decode b_M_join 10 = .ok (.ireturn, 1) := by decide +kernel
theorem d_M_join_11 : decode b_M_join 11 = .ok (.aload_n 0, 1) := by decide +kernel
theorem d_M_join_12 : decode b_M_join 12 = .ok (.getfield 54, 3) := by decide +kernel
theorem d_M_join_15 : decode b_M_join 15 = .ok (.iconst 2, 1) := by decide +kernel
theorem d_M_join_16 : decode b_M_join 16 = .ok (.if_icmp .ge 6, 3) := by decide +kernel
theorem d_M_join_19 : decode b_M_join 19 = .ok (.bipush (-4), 2) := by decide +kernel
theorem d_M_join_21 : decode b_M_join 21 = .ok (.ireturn, 1) := by decide +kernel
theorem d_M_join_22 : decode b_M_join 22 = .ok (.aload_n 0, 1) := by decide +kernel
theorem d_M_join_23 : decode b_M_join 23 = .ok (.iload_n 1, 1) := by decide +kernel
theorem d_M_join_24 : decode b_M_join 24 = .ok (.aload_n 0, 1) := by decide +kernel
theorem d_M_join_25 : decode b_M_join 25 = .ok (.getfield 22, 3) := by decide +kernel
theorem d_M_join_28 : decode b_M_join 28 = .ok (.aload_n 0, 1) := by decide +kernel
theorem d_M_join_29 : decode b_M_join 29 = .ok (.getfield 54, 3) := by decide +kernel
theorem d_M_join_32 : decode b_M_join 32 = .ok (.iconst 2, 1) := by decide +kernel
theorem d_M_join_33 : decode b_M_join 33 = .ok (.isub, 1) := by decide +kernel
theorem d_M_join_34 : decode b_M_join 34 = .ok (.iaload, 1) := by decide +kernel
theorem d_M_join_35 : decode b_M_join 35 = .ok (.aload_n 0, 1) := by decide +kernel
theorem d_M_join_36 : decode b_M_join 36 = .ok (.getfield 22, 3) := by decide +kernel
theorem d_M_join_39 : decode b_M_join 39 = .ok (.aload_n 0, 1) := by decide +kernel
theorem d_M_join_40 : decode b_M_join 40 = .ok (.getfield 54, 3) := by decide +kernel
theorem d_M_join_43 : decode b_M_join 43 = .ok (.iconst 1, 1) := by decide +kernel
theorem d_M_join_44 : decode b_M_join 44 = .ok (.isub, 1) := by decide +kernel
theorem d_M_join_45 : decode b_M_join 45 = .ok (.iaload, 1) := by decide +kernel
theorem d_M_join_46 : decode b_M_join 46 = .ok (.aload_n 0, 1) := by decide +kernel
theorem d_M_join_47 : decode b_M_join 47 = .ok (.getfield 22, 3) := by decide +kernel
theorem d_M_join_50 : decode b_M_join 50 = .ok (.aload_n 0, 1) := by decide +kernel
theorem d_M_join_51 : decode b_M_join 51 = .ok (.getfield 54, 3) := by decide +kernel
theorem d_M_join_54 : decode b_M_join 54 = .ok (.iconst 1, 1) := by decide +kernel
theorem d_M_join_55 : decode b_M_join 55 = .ok (.isub, 1) := by decide +kernel
theorem d_M_join_56 : decode b_M_join 56 = .ok (.iaload, 1) := by decide +kernel
theorem d_M_join_57 : decode b_M_join 57 = .ok (.aload_n 0, 1) := by decide +kernel
theorem d_M_join_58 : decode b_M_join 58 = .ok (.getfield 22, 3) := by decide +kernel
theorem d_M_join_61 : decode b_M_join 61 = .ok (.aload_n 0, 1) := by decide +kernel
theorem d_M_join_62 : decode b_M_join 62 = .ok (.getfield 54, 3) := by decide +kernel
theorem d_M_join_65 : decode b_M_join 65 = .ok (.iaload, 1) := by decide +kernel
theorem d_M_join_66 : decode b_M_join 66 = .ok (.aload_n 0, 1) := by decide +kernel
theorem d_M_join_67 : decode b_M_join 67 = .ok (.getfield 22, 3) := by decide +kernel
theorem d_M_join_70 : decode b_M_join 70 = .ok (.aload_n 0, 1) := by decide +kernel
theorem d_M_join_71 : decode b_M_join 71 = .ok (.getfield 54, 3) := by decide +kernel
theorem d_M_join_74 : decode b_M_join 74 = .ok (.iaload, 1) := by decide +kernel
theorem d_M_join_75 : decode b_M_join 75 = .ok (.invokevirtual 83, 3) := by decide +kernel
theorem d_M_join_78 : decode b_M_join 78 = .ok (.istore_n 2, 1) := by decide +kernel
theorem d_M_join_79 : decode b_M_join 79 = .ok (.aload_n 0, 1) := by decide +kernel
theorem d_M_join_80 : decode b_M_join 80 = .ok (.iconst 2, 1) := by decide +kernel
theorem d_M_join_81 : decode b_M_join 81 = .ok (.iload_n 2, 1) := by decide +kernel
theorem d_M_join_82 : decode b_M_join 82 = .ok (.invokevirtual 87, 3) := by decide +kernel
theorem d_M_join_85 : decode b_M_join 85 = .ok (.ifCond .eq 10, 3) := by decide +kernel
theorem d_M_join_88 : decode b_M_join 88 = .ok (.aload_n 0, 1) := by decide +kernel
theorem d_M_join_89 : decode b_M_join 89 = .ok (.getfield 54, 3) := by decide +kernel
theorem d_M_join_92 : decode b_M_join 92 = .ok (.goto 5, 3) := by decide +kernel
theorem d_M_join_95 : decode b_M_join 95 = .ok (.bipush (-3), 2) := by decide +kernel
theorem d_M_join_97 : decode b_M_join 97 = .ok (.ireturn, 1) := by decide +kernel
theorem d_M_not_0 : decode b_M_not 0 = .ok (.aload_n 0, 1) := by decide +kernel
theorem d_M_not_1 : decode b_M_not 1 = .ok (.getfield 54, 3) := by decide +kernel
theorem d_M_not_4 : decode b_M_not 4 = .ok (.ifCond .ne 6, 3) := by decide +kernel
theorem d_M_not_7 : decode b_M_not 7 = .ok (.bipush (-4), 2) := by decide +kernel
theorem d_M_not_9 : decode b_M_not 9 = .ok (.ireturn, 1) := by decide +kernel
theorem d_M_not_10 : decode b_M_not 10 = .ok (.aload_n 0, 1) := by decide +kernel
theorem d_M_not_11 : decode b_M_not 11 = .ok (.getfield 22, 3) := by decide +kernel
theorem d_M_not_14 : decode b_M_not 14 = .ok (.aload_n 0, 1) := by decide +kernel
theorem d_M_not_15 : decode b_M_not 15 = .ok (.getfield 54, 3) := by decide +kernel
theorem d_M_not_18 : decode b_M_not 18 = .ok (.iaload, 1) := by decide +kernel
theorem d_M_not_19 : decode b_M_not 19 = .ok (.istore_n 1, 1) := by decide +kernel
theorem d_M_not_20 : decode b_M_not 20 = .ok (.iload_n 1, 1) := by decide +kernel
theorem d_M_not_21 : decode b_M_not 21 = .ok (.istore_n 2, 1) := by decide +kernel
theorem d_M_not_22 : decode b_M_not 22 = .ok (.aload_n 0, 1) := by decide +kernel
theorem d_M_not_23 : decode b_M_not 23 = .ok (.invokevirtual 41, 3) := by decide +kernel
theorem d_M_not_26 : decode b_M_not 26 = .ok (.ifCond .le 26, 3) := by decide +kernel
theorem d_M_not_29 : decode b_M_not 29 = .ok (.aload_n 0, 1) := by decide +kernel
theorem d_M_not_30 : decode b_M_not 30 = .ok (.getfield 19, 3) := by decide +kernel
theorem d_M_not_33 : decode b_M_not 33 = .ok (.iload_n 1, 1) := by decide +kernel
theorem d_M_not_34 : decode b_M_not 34 = .ok (.iconst 0, 1) := by decide +kernel
theorem d_M_not_35 : decode b_M_not 35 = .ok (.iastore, 1) := by decide +kernel
theorem d_M_not_36 : decode b_M_not 36 = .ok (.aload_n 0, 1) := by decide +kernel
theorem d_M_not_37 : decode b_M_not 37 = .ok (.getfield 19, 3) := by decide +kernel
theorem d_M_not_40 : decode b_M_not 40 = .ok (.iload_n 1, 1) := by decide +kernel
theorem d_M_not_41 : decode b_M_not 41 = .ok (.iconst 1, 1) := by decide +kernel
theorem d_M_not_42 : decode b_M_not 42 = .ok (.iadd, 1) := by decide +kernel
theorem d_M_not_43 : decode b_M_not 43 = .ok (.aload_n 0, 1) := by decide +kernel
theorem d_M_not_44 : decode b_M_not 44 = .ok (.invokevirtual 41, 3) := by decide +kernel
theorem d_M_not_47 : decode b_M_not 47 = .ok (.iastore, 1) := by decide +kernel
theorem d_M_not_48 : decode b_M_not 48 = .ok (.iload_n 1, 1) := by decide +kernel
theorem d_M_not_49 : decode b_M_not 49 = .ok (.iconst 2, 1) := by decide +kernel
theorem d_M_not_50 : decode b_M_not 50 = .ok (.iadd, 1) := by decide +kernel
theorem d_M_not_51 : decode b_M_not 51 = .ok (.istore_n 2, 1) := by decide +kernel
theorem d_M_not_52 : decode b_M_not 52 = .ok (.aload_n 0, 1) := by decide +kernel
theorem d_M_not_53 : decode b_M_not 53 = .ok (.iconst 2, 1) := by decide +kernel
theorem d_M_not_54 : decode b_M_not 54 = .ok (.iload_n 1, 1) := by decide +kernel
theorem d_M_not_55 : decode b_M_not 55 = .ok (.iload_n 2, 1) := by decide +kernel
theorem d_M_not_56 : decode b_M_not 56 = .ok (.aload_n 0, 1) := by decide +kernel
theorem d_M_not_57 : decode b_M_not 57 = .ok (.getfield 22, 3) := by decide +kernel
theorem d_M_not_60 : decode b_M_not 60 = .ok (.aload_n 0, 1) := by decide +kernel
theorem d_M_not_61 : decode b_M_not 61 = .ok (.getfield 54, 3) := by decide +kernel
theorem d_M_not_64 : decode b_M_not 64 = .ok (.iconst 1, 1) := by decide +kernel
theorem d_M_not_65 : decode b_M_not 65 = .ok (.isub, 1) := by decide +kernel
theorem d_M_not_66 : decode b_M_not 66 = .ok (.iaload, 1) := by decide +kernel
theorem d_M_not_67 : decode b_M_not 67 = .ok (.iload_n 1, 1) := by decide +kernel
theorem d_M_not_68 : decode b_M_not 68 = .ok (.iload_n 2, 1) := by decide +kernel
theorem d_M_not_69 : decode b_M_not 69 = .ok (.invokevirtual 83, 3) := by decide +kernel
theorem d_M_not_72 : decode b_M_not 72 = .ok (.istore_n 3, 1) := by decide +kernel
theorem d_M_not_73 : decode b_M_not 73 = .ok (.iload_n 2, 1) := by decide +kernel
theorem d_M_not_74 : decode b_M_not 74 = .ok (.istore 4, 2) := by decide +kernel
theorem d_M_not_76 : decode b_M_not 76 = .ok (.iload 4, 2) := by decide +kernel
theorem d_M_not_78 : decode b_M_not 78 = .ok (.iload_n 3, 1) := by decide +kernel
theorem d_M_not_79 : decode b_M_not 79 = .ok (.if_icmp .ge 27, 3) := by decide +kernel
theorem d_M_not_82 : decode b_M_not 82 = .ok (.aload_n 0, 1) := by decide +kernel
theorem d_M_not_83 : decode b_M_not 83 = .ok (.getfield 19, 3) := by decide +kernel
theorem d_M_not_86 : decode b_M_not 86 = .ok (.iload_n 1, 1) := by decide +kernel
theorem d_M_not_87 : decode b_M_not 87 = .ok (.iload 4, 2) := by decide +kernel
theorem d_M_not_89 : decode b_M_not 89 = .ok (.iadd, 1) := by decide +kernel
theorem d_M_not_90 : decode b_M_not 90 = .ok (.iload_n 2, 1) := by decide +kernel
theorem d_M_not_91 : decode b_M_not 91 = .ok (.isub, 1) := by decide +kernel
theorem d_M_not_92 : decode b_M_not 92 = .ok (.aload_n 0, 1) := by decide +kernel
theorem d_M_not_93 : decode b_M_not 93 = .ok (.getfield 19, 3) := by decide +kernel
theorem d_M_not_96 : decode b_M_not 96 = .ok (.iload 4, 2) := by decide +kernel
theorem d_M_not_98 : decode b_M_not 98 = .ok (.iaload, 1) := by decide +kernel
theorem d_M_not_99 : decode b_M_not 99 = .ok (.iastore, 1) := by decide +kernel
theorem d_M_not_100 : decode b_M_not 100 = .ok (.iinc 4 1, 3) := by decide +kernel
theorem d_M_not_103 : decode b_M_not 103 = .ok (.goto (-27), 3) := by decide +kernel
theorem d_M_not_106 : decode b_M_not 106 = .ok (.aload_n 0, 1) := by decide +kernel
theorem d_M_not_107 : decode b_M_not 107 = .ok (.iconst 1, 1) := by decide +kernel
theorem d_M_not_108 : decode b_M_not 108 = .ok (.iload_n 1, 1) := by decide +kernel
theorem d_M_not_109 : decode b_M_not 109 = .ok (.iload_n 3, 1) := by decide +kernel
theorem d_M_not_110 : decode b_M_not 110 = .ok (.iadd, 1) := by decide +kernel
theorem d_M_not_111 : decode b_M_not 111 = .ok (.iload_n 2, 1) := by decide +kernel
theorem d_M_not_112 : decode b_M_not 112 = .ok (.isub, 1) := by decide +kernel
theorem d_M_not_113 : decode b_M_not 113 = .ok (.invokevirtual 87, 3) := by decide +kernel
theorem d_M_not_116 : decode b_M_not 116 = .ok (.ifCond .eq 10, 3) := by decide +kernel
theorem d_M_not_119 : decode b_M_not 119 = .ok (.aload_n 0, 1) := by decide +kernel
theorem d_M_not_120 : decode b_M_not 120 = .ok (.getfield 54, 3) := by decide +kernel
theorem d_M_not_123 : decode b_M_not 123 = .ok (.goto 5, 3) := by decide +kernel
theorem d_M_not_126 : decode b_M_not 126 = .ok (.bipush (-3), 2) := by decide +kernel
theorem d_M_not_128 : decode b_M_not 128 = .ok (.ireturn, 1) := by decide +kernel
theorem d_M_count_0 : decode b_M_count 0 = .ok (.aload_n 0, 1) := by decide +kernel
theorem d_M_count_1 : decode b_M_count 1 = .ok (.getfield 54, 3) := by decide +kernel
theorem d_M_count_4 : decode b_M_count 4 = .ok (.ifCond .ne 5, 3) := by decide +kernel
theorem d_M_count_7 : decode b_M_count 7 = .ok (.iconst (-1), 1) := by decide +kernel
theorem d_M_count_8 : decode b_M_count 8 = .ok (.ireturn, 1) := by decide +kernel
theorem d_M_count_9 : decode b_M_count 9 = .ok (.iconst 0, 1) := by decide +kernel
theorem d_M_count_10 : decode b_M_count 10 = .ok (.istore_n 1, 1) := by decide +kernel
theorem d_M_count_11 : decode b_M_count 11 = .ok (.aload_n 0, 1) := by decide +kernel
theorem d_M_count_12 : decode b_M_count 12 = .ok (.getfield 22, 3) := by decide +kernel
theorem d_M_count_15 : decode b_M_count 15 = .ok (.aload_n 0, 1) := by decide +kernel
theorem d_M_count_16 : decode b_M_count 16 = .ok (.getfield 54, 3) := by decide +kernel
theorem d_M_count_19 : decode b_M_count 19 = .ok (.iconst 1, 1) := by decide +kernel
theorem d_M_count_20 : decode b_M_count 20 = .ok (.isub, 1) := by decide +kernel
theorem d_M_count_21 : decode b_M_count 21 = .ok (.iaload, 1) := by decide +kernel
theorem d_M_count_22 : decode b_M_count 22 = .ok (.istore_n 2, 1) := by decide +kernel
theorem d_M_count_23 : decode b_M_count 23 = .ok (.iload_n 2, 1) := by decide +kernel
theorem d_M_count_24 : decode b_M_count 24 = .ok (.aload_n 0, 1) := by decide +kernel
theorem d_M_count_25 : decode b_M_count 25 = .ok (.getfield 22, 3) := by decide +kernel
theorem d_M_count_28 : decode b_M_count 28 = .ok (.aload_n 0, 1) := by decide +kernel
theorem d_M_count_29 : decode b_M_count 29 = .ok (.getfield 54, 3) := by decide +kernel
theorem d_M_count_32 : decode b_M_count 32 = .ok (.iaload, 1) := by decide +kernel
theorem d_M_count_33 : decode b_M_count 33 = .ok (.if_icmp .ge 27, 3) := by decide +kernel
theorem d_M_count_36 : decode b_M_count 36 = .ok (.iload_n 1, 1) := by decide +kernel
theorem d_M_count_37 : decode b_M_count 37 = .ok (.aload_n 0, 1) := by decide +kernel
theorem d_M_count_38 : decode b_M_count 38 = .ok (.getfield 19, 3) := by decide +kernel
theorem d_M_count_41 : decode b_M_count 41 = .ok (.iload_n 2, 1) := by decide +kernel
theorem d_M_count_42 : decode b_M_count 42 = .ok (.iconst 1, 1) := by decide +kernel
theorem d_M_count_43 : decode b_M_count 43 = .ok (.iadd, 1) := by decide +kernel
theorem d_M_count_44 : decode b_M_count 44 = .ok (.iaload, 1) := by decide +kernel
theorem d_M_count_45 : decode b_M_count 45 = .ok (.aload_n 0, 1) := by decide +kernel
theorem d_M_count_46 : decode b_M_count 46 = .ok (.getfield 19, 3) := by decide +kernel
theorem d_M_count_49 : decode b_M_count 49 = .ok (.iload_n 2, 1) := by decide +kernel
theorem d_M_count_50 : decode b_M_count 50 = .ok (.iaload, 1) := by decide +kernel
theorem d_M_count_51 : decode b_M_count 51 = .ok (.isub, 1) := by decide +kernel
theorem d_M_count_52 : decode b_M_count 52 = .ok (.iadd, 1) := by decide +kernel
theorem d_M_count_53 : decode b_M_count 53 = .ok (.istore_n 1, 1) := by decide +kernel
theorem d_M_count_54 : decode b_M_count 54 = .ok (.iinc 2 2, 3) := by decide +kernel
theorem d_M_count_57 : decode b_M_count 57 = .ok (.goto (-34), 3) := by decide +kernel
theorem d_M_count_60 : decode b_M_count 60 = .ok (.iload_n 1, 1) := by decide +kernel
theorem d_M_count_61 : decode b_M_count 61 = .ok (.ireturn, 1) := by decide +kernel
theorem d_M_after_0 : decode b_M_after 0 = .ok (.aload_n 0, 1) := by decide +kernel
theorem d_M_after_1 : decode b_M_after 1 = .ok (.getfield 54, 3) := by decide +kernel
theorem d_M_after_4 : decode b_M_after 4 = .ok (.ifCond .ne 7, 3) := by decide +kernel
theorem d_M_after_7 : decode b_M_after 7 = .ok (.iconst 0, 1) := by decide +kernel
theorem d_M_after_8 : decode b_M_after 8 = .ok (.goto 14, 3) := by decide +kernel
theorem d_M_after_11 : decode b_M_after 11 = .ok (.aload_n 0, 1) := by decide +kernel
theorem d_M_after_12 : decode b_M_after 12 = .ok (.getfield 22, 3) := by decide +kernel
theorem d_M_after_15 : decode b_M_after 15 = .ok (.aload_n 0, 1) := by decide +kernel
theorem d_M_after_16 : decode b_M_after 16 = .ok (.getfield 54, 3) := by decide +kernel
theorem d_M_after_19 : decode b_M_after 19 = .ok (.iconst 1, 1) := by decide +kernel
theorem d_M_after_20 : decode b_M_after 20 = .ok (.isub, 1) := by decide +kernel
theorem d_M_after_21 : decode b_M_after 21 = .ok (.iaload, 1) := by decide +kernel
theorem d_M_after_22 : decode b_M_after 22 = .ok (.istore_n 2, 1) := by decide +kernel
theorem d_M_after_23 : decode b_M_after 23 = .ok (.iload_n 2, 1) := by decide +kernel
theorem d_M_after_24 : decode b_M_after 24 = .ok (.aload_n 0, 1) := by decide +kernel
theorem d_M_after_25 : decode b_M_after 25 = .ok (.getfield 22, 3) := by decide +kernel
theorem d_M_after_28 : decode b_M_after 28 = .ok (.aload_n 0, 1) := by decide +kernel
theorem d_M_after_29 : decode b_M_after 29 = .ok (.getfield 54, 3) := by decide +kernel
theorem d_M_after_32 : decode b_M_after 32 = .ok (.iaload, 1) := by decide +kernel
theorem d_M_after_33 : decode b_M_after 33 = .ok (.if_icmp .ge 46, 3) := by decide +kernel
theorem d_M_after_36 : decode b_M_after 36 = .ok (.aload_n 0, 1) := by decide +kernel
theorem d_M_after_37 : decode b_M_after 37 = .ok (.getfield 19, 3) := by decide +kernel
theorem d_M_after_40 : decode b_M_after 40 = .ok (.iload_n 2, 1) := by decide +kernel
theorem d_M_after_41 : decode b_M_after 41 = .ok (.iconst 1, 1) := by decide +kernel
theorem d_M_after_42 : decode b_M_after 42 = .ok (.iadd, 1) := by decide +kernel
theorem d_M_after_43 : decode b_M_after 43 = .ok (.iaload, 1) := by decide +kernel
theorem d_M_after_44 : decode b_M_after 44 = .ok (.iconst 1, 1) := by decide +kernel
theorem d_M_after_45 : decode b_M_after 45 = .ok (.isub, 1) := by decide +kernel
theorem d_M_after_46 : decode b_M_after 46 = .ok (.iload_n 1, 1) := by decide +kernel
theorem d_M_after_47 : decode b_M_after 47 = .ok (.if_icmp .le 26, 3) := by decide +kernel
theorem d_M_after_50 : decode b_M_after 50 = .ok (.aload_n 0, 1) := by decide +kernel
theorem d_M_after_51 : decode b_M_after 51 = .ok (.getfield 19, 3) := by decide +kernel
theorem d_M_after_54 : decode b_M_after 54 = .ok (.iload_n 2, 1) := by decide +kernel
theorem d_M_after_55 : decode b_M_after 55 = .ok (.iaload, 1) := by decide +kernel
theorem d_M_after_56 : decode b_M_after 56 = .ok (.iload_n 1, 1) := by decide +kernel
theorem d_M_after_57 : decode b_M_after 57 = .ok (.if_icmp .le 12, 3) := by decide +kernel
theorem d_M_after_60 : decode b_M_after 60 = .ok (.aload_n 0, 1) := by decide +kernel
theorem d_M_after_61 : decode b_M_after 61 = .ok (.getfield 19, 3) := by decide +kernel
theorem d_M_after_64 : decode b_M_after 64 = .ok (.iload_n 2, 1) := by decide +kernel
theorem d_M_after_65 : decode b_M_after 65 = .ok (.iaload, 1) := by decide +kernel
theorem d_M_after_66 : decode b_M_after 66 = .ok (.goto 6, 3) := by decide +kernel
theorem d_M_after_69 : decode b_M_after 69 = .ok (.iload_n 1, 1) := by decide +kernel
theorem d_M_after_70 : decode b_M_after 70 = .ok (.iconst 1, 1) := by decide +kernel
theorem d_M_after_71 : decode b_M_after 71 = .ok (.iadd, 1) := by decide +kernel
theorem d_M_after_72 : decode b_M_after 72 = .ok (.ireturn, 1) := by decide +kernel
theorem d_M_after_73 : decode b_M_after 73 = .ok (.iinc 2 2, 3) := by decide +kernel
theorem d_M_after_76 : decode b_M_after 76 = .ok (.goto (-53), 3) := by decide +kernel
theorem d_M_after_79 : decode b_M_after 79 = .ok (.iconst (-1), 1) := by decide +kernel
theorem d_M_after_80 : decode b_M_after 80 = .ok (.ireturn, 1) := by decide +kernel
theorem d_M_words_0 : decode b_M_words 0 = .ok (.aload_n 0, 1) := by decide +kernel
theorem d_M_words_1 : decode b_M_words 1 = .ok (.getfield 54, 3) := by decide +kernel
theorem d_M_words_4 : decode b_M_words 4 = .ok (.ifCond .ne 7, 3) := by decide +kernel
theorem d_M_words_7 : decode b_M_words 7 = .ok (.iconst (-1), 1) := by decide +kernel
theorem d_M_words_8 : decode b_M_words 8 = .ok (.goto 13, 3) := by decide +kernel
theorem d_M_words_11 : decode b_M_words 11 = .ok (.aload_n 0, 1) := by decide +kernel
theorem d_M_words_12 : decode b_M_words 12 = .ok (.aload_n 0, 1) := by decide +kernel
theorem d_M_words_13 : decode b_M_words 13 = .ok (.getfield 54, 3) := by decide +kernel
theorem d_M_words_16 : decode b_M_words 16 = .ok (.iconst 1, 1) := by decide +kernel
theorem d_M_words_17 : decode b_M_words 17 = .ok (.isub, 1) := by decide +kernel
theorem d_M_words_18 : decode b_M_words 18 = .ok (.invokevirtual 68, 3) := by decide +kernel
theorem d_M_words_21 : decode b_M_words 21 = .ok (.ireturn, 1) := by decide +kernel
theorem d_M_word_0 : decode b_M_word 0 = .ok (.aload_n 0, 1) := by decide +kernel
theorem d_M_word_1 : decode b_M_word 1 = .ok (.getfield 54, 3) := by decide +kernel
theorem d_M_word_4 : decode b_M_word 4 = .ok (.ifCond .eq 7, 3) := by decide +kernel
theorem d_M_word_7 : decode b_M_word 7 = .ok (.iload_n 1, 1) := by decide +kernel
theorem d_M_word_8 : decode b_M_word 8 = .ok (.ifCond .ge 5, 3) := by decide +kernel
theorem d_M_word_11 : decode b_M_word 11 = .ok (.iconst 0, 1) := by decide +kernel
theorem d_M_word_12 : decode b_M_word 12 = .ok (.ireturn, 1) := by decide +kernel
theorem d_M_word_13 : decode b_M_word 13 = .ok (.aload_n 0, 1) := by decide +kernel
theorem d_M_word_14 : decode b_M_word 14 = .ok (.aload_n 0, 1) := by decide +kernel
theorem d_M_word_15 : decode b_M_word 15 = .ok (.getfield 22, 3) := by decide +kernel
theorem d_M_word_18 : decode b_M_word 18 = .ok (.aload_n 0, 1) := by decide +kernel
theorem d_M_word_19 : decode b_M_word 19 = .ok (.getfield 54, 3) := by decide +kernel
theorem d_M_word_22 : decode b_M_word 22 = .ok (.iconst 1, 1) := by decide +kernel
theorem d_M_word_23 : decode b_M_word 23 = .ok (.isub, 1) := by decide +kernel
theorem d_M_word_24 : decode b_M_word 24 = .ok (.iaload, 1) := by decide +kernel
theorem d_M_word_25 : decode b_M_word 25 = .ok (.aload_n 0, 1) := by decide +kernel
theorem d_M_word_26 : decode b_M_word 26 = .ok (.getfield 22, 3) := by decide +kernel
theorem d_M_word_29 : decode b_M_word 29 = .ok (.aload_n 0, 1) := by decide +kernel
theorem d_M_word_30 : decode b_M_word 30 = .ok (.getfield 54, 3) := by decide +kernel
theorem d_M_word_33 : decode b_M_word 33 = .ok (.iaload, 1) := by decide +kernel
theorem d_M_word_34 : decode b_M_word 34 = .ok (.iload_n 1, 1) := by decide +kernel
theorem d_M_word_35 : decode b_M_word 35 = .ok (.invokevirtual 61, 3) := by decide +kernel
theorem d_M_word_38 : decode b_M_word 38 = .ok (.istore_n 2, 1) := by decide +kernel
theorem d_M_word_39 : decode b_M_word 39 = .ok (.iload_n 1, 1) := by decide +kernel
theorem d_M_word_40 : decode b_M_word 40 = .ok (.iload_n 2, 1) := by decide +kernel
theorem d_M_word_41 : decode b_M_word 41 = .ok (.if_icmp .ge 10, 3) := by decide +kernel
theorem d_M_word_44 : decode b_M_word 44 = .ok (.aload_n 0, 1) := by decide +kernel
theorem d_M_word_45 : decode b_M_word 45 = .ok (.getfield 35, 3) := by decide +kernel
theorem d_M_word_48 : decode b_M_word 48 = .ok (.goto 4, 3) := by decide +kernel
theorem d_M_word_51 : decode b_M_word 51 = .ok (.iconst 0, 1) := by decide +kernel
theorem d_M_word_52 : decode b_M_word 52 = .ok (.ireturn, 1) := by decide +kernel
theorem d_M_pop_0 : decode b_M_pop 0 = .ok (.aload_n 0, 1) := by decide +kernel
theorem d_M_pop_1 : decode b_M_pop 1 = .ok (.getfield 54, 3) := by decide +kernel
theorem d_M_pop_4 : decode b_M_pop 4 = .ok (.ifCond .ne 6, 3) := by decide +kernel
theorem d_M_pop_7 : decode b_M_pop 7 = .ok (.bipush (-4), 2) := by decide +kernel
theorem d_M_pop_9 : decode b_M_pop 9 = .ok (.ireturn, 1) := by decide +kernel
theorem d_M_pop_10 : decode b_M_pop 10 = .ok (.aload_n 0, 1) := by decide +kernel
theorem d_M_pop_11 : decode b_M_pop 11 = .ok (.dup, 1) := by decide +kernel
theorem d_M_pop_12 : decode b_M_pop 12 = .ok (.getfield 54, 3) := by decide +kernel
theorem d_M_pop_15 : decode b_M_pop 15 = .ok (.iconst 1, 1) := by decide +kernel
theorem d_M_pop_16 : decode b_M_pop 16 = .ok (.isub, 1) := by decide +kernel
theorem d_M_pop_17 : decode b_M_pop 17 = .ok (.putfield 54, 3) := by decide +kernel
theorem d_M_pop_20 : decode b_M_pop 20 = .ok (.aload_n 0, 1) := by decide +kernel
theorem d_M_pop_21 : decode b_M_pop 21 = .ok (.getfield 54, 3) := by decide +kernel
theorem d_M_pop_24 : decode b_M_pop 24 = .ok (.ireturn, 1) := by decide +kernel
