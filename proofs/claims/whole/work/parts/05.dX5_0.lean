theorem dX5_init_0 : decode cX5_init 0 = .ok (.aload_n 0, 1) := by decide +kernel
theorem dX5_init_1 : decode cX5_init 1 = .ok (.invokespecial 1, 3) := by decide +kernel
theorem dX5_init_4 : decode cX5_init 4 = .ok (.aload_n 0, 1) := by decide +kernel
theorem dX5_init_5 : decode cX5_init 5 = .ok (.bipush 63, 2) := by decide +kernel
theorem dX5_init_7 : decode cX5_init 7 = .ok (.newarray .int, 2) := by decide +kernel
theorem dX5_init_9 : decode cX5_init 9 = .ok (.putfield 7, 3) := by decide +kernel
theorem dX5_init_12 : decode cX5_init 12 = .ok (.aload_n 0, 1) := by decide +kernel
theorem dX5_init_13 : decode cX5_init 13 = .ok (.bipush 9, 2) := by decide +kernel
theorem dX5_init_15 : decode cX5_init 15 = .ok (.newarray .int, 2) := by decide +kernel
theorem dX5_init_17 : decode cX5_init 17 = .ok (.putfield 13, 3) := by decide +kernel
theorem dX5_init_20 : decode cX5_init 20 = .ok (.aload_n 0, 1) := by decide +kernel
theorem dX5_init_21 : decode cX5_init 21 = .ok (.bipush 63, 2) := by decide +kernel
theorem dX5_init_23 : decode cX5_init 23 = .ok (.newarray .int, 2) := by decide +kernel
theorem dX5_init_25 : decode cX5_init 25 = .ok (.putfield 16, 3) := by decide +kernel
theorem dX5_init_28 : decode cX5_init 28 = .ok (.aload_n 0, 1) := by decide +kernel
theorem dX5_init_29 : decode cX5_init 29 = .ok (.ldc 19, 2) := by decide +kernel
theorem dX5_init_31 : decode cX5_init 31 = .ok (.newarray .int, 2) := by decide +kernel
theorem dX5_init_33 : decode cX5_init 33 = .ok (.putfield 20, 3) := by decide +kernel
theorem dX5_init_36 : decode cX5_init 36 = .ok (.aload_n 0, 1) := by decide +kernel
theorem dX5_init_37 : decode cX5_init 37 = .ok (.ldc 19, 2) := by decide +kernel
theorem dX5_init_39 : decode cX5_init 39 = .ok (.newarray .int, 2) := by decide +kernel
theorem dX5_init_41 : decode cX5_init 41 = .ok (.putfield 23, 3) := by decide +kernel
theorem dX5_init_44 : decode cX5_init 44 = .ok (.aload_n 0, 1) := by decide +kernel
theorem dX5_init_45 : decode cX5_init 45 = .ok (.ldc 19, 2) := by decide +kernel
theorem dX5_init_47 : decode cX5_init 47 = .ok (.newarray .int, 2) := by decide +kernel
theorem dX5_init_49 : decode cX5_init 49 = .ok (.putfield 26, 3) := by decide +kernel
theorem dX5_init_52 : decode cX5_init 52 = .ok (.aload_n 0, 1) := by decide +kernel
theorem dX5_init_53 : decode cX5_init 53 = .ok (.bipush 15, 2) := by decide +kernel
theorem dX5_init_55 : decode cX5_init 55 = .ok (.newarray .int, 2) := by decide +kernel
theorem dX5_init_57 : decode cX5_init 57 = .ok (.putfield 29, 3) := by decide +kernel
theorem dX5_init_60 : decode cX5_init 60 = .ok (.aload_n 0, 1) := by decide +kernel
theorem dX5_init_61 : decode cX5_init 61 = .ok (.ldc 32, 2) := by decide +kernel
theorem dX5_init_63 : decode cX5_init 63 = .ok (.newarray .int, 2) := by decide +kernel
theorem dX5_init_65 : decode cX5_init 65 = .ok (.putfield 33, 3) := by decide +kernel
theorem dX5_init_68 : decode cX5_init 68 = .ok (.aload_n 0, 1) := by decide +kernel
theorem dX5_init_69 : decode cX5_init 69 = .ok (.bipush 10, 2) := by decide +kernel
theorem dX5_init_71 : decode cX5_init 71 = .ok (.newarray .int, 2) := by decide +kernel
theorem dX5_init_73 : decode cX5_init 73 = .ok (.putfield 36, 3) := by decide +kernel
theorem dX5_init_76 : decode cX5_init 76 = .ok (.aload_n 0, 1) := by decide +kernel
theorem dX5_init_77 : decode cX5_init 77 = .ok (.bipush 10, 2) := by decide +kernel
theorem dX5_init_79 : decode cX5_init 79 = .ok (.newarray .int, 2) := by decide +kernel
theorem dX5_init_81 : decode cX5_init 81 = .ok (.putfield 39, 3) := by decide +kernel
theorem dX5_init_84 : decode cX5_init 84 = .ok (.aload_n 0, 1) := by decide +kernel
theorem dX5_init_85 : decode cX5_init 85 = .ok (.bipush 63, 2) := by decide +kernel
theorem dX5_init_87 : decode cX5_init 87 = .ok (.newarray .int, 2) := by decide +kernel
theorem dX5_init_89 : decode cX5_init 89 = .ok (.putfield 42, 3) := by decide +kernel
theorem dX5_init_92 : decode cX5_init 92 = .ok (.aload_n 0, 1) := by decide +kernel
theorem dX5_init_93 : decode cX5_init 93 = .ok (.bipush 9, 2) := by decide +kernel
theorem dX5_init_95 : decode cX5_init 95 = .ok (.newarray .int, 2) := by decide +kernel
theorem dX5_init_97 : decode cX5_init 97 = .ok (.putfield 45, 3) := by decide +kernel
theorem dX5_init_100 : decode cX5_init 100 = .ok (.aload_n 0, 1) := by decide +kernel
theorem dX5_init_101 : decode cX5_init 101 = .ok (.sipush 6000, 3) := by decide +kernel
theorem dX5_init_104 : decode cX5_init 104 = .ok (.newarray .boolean, 2) := by decide +kernel
theorem dX5_init_106 : decode cX5_init 106 = .ok (.putfield 48, 3) := by decide +kernel
theorem dX5_init_109 : decode cX5_init 109 = .ok (.aload_n 0, 1) := by decide +kernel
theorem dX5_init_110 : decode cX5_init 110 = .ok (.iload_n 1, 1) := by decide +kernel
theorem dX5_init_111 : decode cX5_init 111 = .ok (.iconst 3, 1) := by decide +kernel
theorem dX5_init_112 : decode cX5_init 112 = .ok (.if_icmp .ge 7, 3) := by decide +kernel
theorem dX5_init_115 : decode cX5_init 115 = .ok (.iconst 3, 1) := by decide +kernel
theorem dX5_init_116 : decode cX5_init 116 = .ok (.goto 15, 3) := by decide +kernel
theorem dX5_init_119 : decode cX5_init 119 = .ok (.iload_n 1, 1) := by decide +kernel
theorem dX5_init_120 : decode cX5_init 120 = .ok (.bipush 9, 2) := by decide +kernel
theorem dX5_init_122 : decode cX5_init 122 = .ok (.if_icmp .le 8, 3) := by decide +kernel
theorem dX5_init_125 : decode cX5_init 125 = .ok (.bipush 9, 2) := by decide +kernel
theorem dX5_init_127 : decode cX5_init 127 = .ok (.goto 4, 3) := by decide +kernel
theorem dX5_init_130 : decode cX5_init 130 = .ok (.iload_n 1, 1) := by decide +kernel
theorem dX5_init_131 : decode cX5_init 131 = .ok (.putfield 52, 3) := by decide +kernel
theorem dX5_init_134 : decode cX5_init 134 = .ok (.aload_n 0, 1) := by decide +kernel
theorem dX5_init_135 : decode cX5_init 135 = .ok (.getfield 52, 3) := by decide +kernel
theorem dX5_init_138 : decode cX5_init 138 = .ok (.bipush 9, 2) := by decide +kernel
theorem dX5_init_140 : decode cX5_init 140 = .ok (.if_icmp .ne 8, 3) := by decide +kernel
theorem dX5_init_143 : decode cX5_init 143 = .ok (.bipush 6, 2) := by decide +kernel
theorem dX5_init_145 : decode cX5_init 145 = .ok (.goto 5, 3) := by decide +kernel
theorem dX5_init_148 : decode cX5_init 148 = .ok (.bipush 7, 2) := by decide +kernel
theorem dX5_init_150 : decode cX5_init 150 = .ok (.istore_n 3, 1) := by decide +kernel
theorem dX5_init_151 : decode cX5_init 151 = .ok (.aload_n 0, 1) := by decide +kernel
theorem dX5_init_152 : decode cX5_init 152 = .ok (.iload_n 2, 1) := by decide +kernel
theorem dX5_init_153 : decode cX5_init 153 = .ok (.iconst 3, 1) := by decide +kernel
theorem dX5_init_154 : decode cX5_init 154 = .ok (.if_icmp .ge 7, 3) := by decide +kernel
theorem dX5_init_157 : decode cX5_init 157 = .ok (.iconst 3, 1) := by decide +kernel
theorem dX5_init_158 : decode cX5_init 158 = .ok (.goto 13, 3) := by decide +kernel
theorem dX5_init_161 : decode cX5_init 161 = .ok (.iload_n 2, 1) := by decide +kernel
theorem dX5_init_162 : decode cX5_init 162 = .ok (.iload_n 3, 1) := by decide +kernel
theorem dX5_init_163 : decode cX5_init 163 = .ok (.if_icmp .le 7, 3) := by decide +kernel
theorem dX5_init_166 : decode cX5_init 166 = .ok (.iload_n 3, 1) := by decide +kernel
theorem dX5_init_167 : decode cX5_init 167 = .ok (.goto 4, 3) := by decide +kernel
theorem dX5_init_170 : decode cX5_init 170 = .ok (.iload_n 2, 1) := by decide +kernel
theorem dX5_init_171 : decode cX5_init 171 = .ok (.putfield 56, 3) := by decide +kernel
theorem dX5_init_174 : decode cX5_init 174 = .ok (.iconst 0, 1) := by decide +kernel
theorem dX5_init_175 : decode cX5_init 175 = .ok (.istore 4, 2) := by decide +kernel
theorem dX5_init_177 : decode cX5_init 177 = .ok (.iload 4, 2) := by decide +kernel
theorem dX5_init_179 : decode cX5_init 179 = .ok (.bipush 63, 2) := by decide +kernel
theorem dX5_init_181 : decode cX5_init 181 = .ok (.if_icmp .ge 17, 3) := by decide +kernel
theorem dX5_init_184 : decode cX5_init 184 = .ok (.aload_n 0, 1) := by decide +kernel
theorem dX5_init_185 : decode cX5_init 185 = .ok (.getfield 7, 3) := by decide +kernel
theorem dX5_init_188 : decode cX5_init 188 = .ok (.iload 4, 2) := by decide +kernel
theorem dX5_init_190 : decode cX5_init 190 = .ok (.iconst (-1), 1) := by decide +kernel
theorem dX5_init_191 : decode cX5_init 191 = .ok (.iastore, 1) := by decide +kernel
theorem dX5_init_192 : decode cX5_init 192 = .ok (.iinc 4 1, 3) := by decide +kernel
theorem dX5_init_195 : decode cX5_init 195 = .ok (.goto (-18), 3) := by decide +kernel
theorem dX5_init_198 : decode cX5_init 198 = .ok (.return_, 1) := by decide +kernel
theorem dX5_thrown_0 : decode cX5_thrown 0 = .ok (.aload_n 0, 1) := by decide +kernel
theorem dX5_thrown_1 : decode cX5_thrown 1 = .ok (.getfield 59, 3) := by decide +kernel
theorem dX5_thrown_4 : decode cX5_thrown 4 = .ok (.ireturn, 1) := by decide +kernel
theorem dX5_refused_0 : decode cX5_refused 0 = .ok (.aload_n 0, 1) := by decide +kernel
theorem dX5_refused_1 : decode cX5_refused 1 = .ok (.iload_n 1, 1) := by decide +kernel
theorem dX5_refused_2 : decode cX5_refused 2 = .ok (.ifCond .eq 7, 3) := by decide +kernel
theorem dX5_refused_5 : decode cX5_refused 5 = .ok (.iconst 1, 1) := by decide +kernel
theorem dX5_refused_6 : decode cX5_refused 6 = .ok (.goto 12, 3) := by decide +kernel
theorem dX5_refused_9 : decode cX5_refused 9 = .ok (.iload_n 2, 1) := by decide +kernel
theorem dX5_refused_10 : decode cX5_refused 10 = .ok (.ifCond .eq 7, 3) := by decide +kernel
theorem dX5_refused_13 : decode cX5_refused 13 = .ok (.iconst 2, 1) := by decide +kernel
theorem dX5_refused_14 : decode cX5_refused 14 = .ok (.goto 4, 3) := by decide +kernel
theorem dX5_refused_17 : decode cX5_refused 17 = .ok (.iconst 0, 1) := by decide +kernel
theorem dX5_refused_18 : decode cX5_refused 18 = .ok (.putfield 59, 3) := by decide +kernel
theorem dX5_refused_21 : decode cX5_refused 21 = .ok (.aload_n 0, 1) := by decide +kernel
theorem dX5_refused_22 : decode cX5_refused 22 = .ok (.getfield 59, 3) := by decide +kernel
theorem dX5_refused_25 : decode cX5_refused 25 = .ok (.ifCond .le 7, 3) := by decide +kernel
theorem dX5_refused_28 : decode cX5_refused 28 = .ok (.iconst 1, 1) := by decide +kernel
theorem dX5_refused_29 : decode cX5_refused 29 = .ok (.goto 4, 3) := by decide +kernel
theorem dX5_refused_32 : decode cX5_refused 32 = .ok (.iconst 0, 1) := by decide +kernel
theorem dX5_refused_33 : decode cX5_refused 33 = .ok (.ireturn, 1) := by decide +kernel
theorem dX5_isSquare_0 : decode cX5_isSquare 0 = .ok (.iload_n 1, 1) := by decide +kernel
theorem dX5_isSquare_1 : decode cX5_isSquare 1 = .ok (.ifCond .lt 27, 3) := by decide +kernel
theorem dX5_isSquare_4 : decode cX5_isSquare 4 = .ok (.iload_n 1, 1) := by decide +kernel
theorem dX5_isSquare_5 : decode cX5_isSquare 5 = .ok (.aload_n 0, 1) := by decide +kernel
theorem dX5_isSquare_6 : decode cX5_isSquare 6 = .ok (.getfield 52, 3) := by decide +kernel
theorem dX5_isSquare_9 : decode cX5_isSquare 9 = .ok (.if_icmp .ge 19, 3) := by decide +kernel
theorem dX5_isSquare_12 : decode cX5_isSquare 12 = .ok (.iload_n 2, 1) := by decide +kernel
theorem dX5_isSquare_13 : decode cX5_isSquare 13 = .ok (.ifCond .lt 15, 3) := by decide +kernel
theorem dX5_isSquare_16 : decode cX5_isSquare 16 = .ok (.iload_n 2, 1) := by decide +kernel
theorem dX5_isSquare_17 : decode cX5_isSquare 17 = .ok (.aload_n 0, 1) := by decide +kernel
theorem dX5_isSquare_18 : decode cX5_isSquare 18 = .ok (.getfield 56, 3) := by decide +kernel
theorem dX5_isSquare_21 : decode cX5_isSquare 21 = .ok (.if_icmp .ge 7, 3) := by decide +kernel
theorem dX5_isSquare_24 : decode cX5_isSquare 24 = .ok (.iconst 1, 1) := by decide +kernel
theorem dX5_isSquare_25 : decode cX5_isSquare 25 = .ok (.goto 4, 3) := by decide +kernel
theorem dX5_isSquare_28 : decode cX5_isSquare 28 = .ok (.iconst 0, 1) := by decide +kernel
theorem dX5_isSquare_29 : decode cX5_isSquare 29 = .ok (.ireturn, 1) := by decide +kernel
theorem dX5_along_0 : decode cX5_along 0 = .ok (.aload_n 1, 1) := by decide +kernel
theorem dX5_along_1 : decode cX5_along 1 = .ok (.bipush 7, 2) := by decide +kernel
theorem dX5_along_3 : decode cX5_along 3 = .ok (.iload_n 2, 1) := by decide +kernel
theorem dX5_along_4 : decode cX5_along 4 = .ok (.imul, 1) := by decide +kernel
theorem dX5_along_5 : decode cX5_along 5 = .ok (.iload_n 3, 1) := by decide +kernel
theorem dX5_along_6 : decode cX5_along 6 = .ok (.iadd, 1) := by decide +kernel
theorem dX5_along_7 : decode cX5_along 7 = .ok (.iaload, 1) := by decide +kernel
theorem dX5_along_8 : decode cX5_along 8 = .ok (.istore 6, 2) := by decide +kernel
theorem dX5_along_10 : decode cX5_along 10 = .ok (.iconst 0, 1) := by decide +kernel
theorem dX5_along_11 : decode cX5_along 11 = .ok (.istore 7, 2) := by decide +kernel
theorem dX5_along_13 : decode cX5_along 13 = .ok (.iload_n 2, 1) := by decide +kernel
theorem dX5_along_14 : decode cX5_along 14 = .ok (.iload 4, 2) := by decide +kernel
theorem dX5_along_16 : decode cX5_along 16 = .ok (.iadd, 1) := by decide +kernel
theorem dX5_along_17 : decode cX5_along 17 = .ok (.istore 8, 2) := by decide +kernel
theorem dX5_along_19 : decode cX5_along 19 = .ok (.iload_n 3, 1) := by decide +kernel
theorem dX5_along_20 : decode cX5_along 20 = .ok (.iload 5, 2) := by decide +kernel
theorem dX5_along_22 : decode cX5_along 22 = .ok (.iadd, 1) := by decide +kernel
theorem dX5_along_23 : decode cX5_along 23 = .ok (.istore 9, 2) := by decide +kernel
theorem dX5_along_25 : decode cX5_along 25 = .ok (.aload_n 0, 1) := by decide +kernel
theorem dX5_along_26 : decode cX5_along 26 = .ok (.iload 8, 2) := by decide +kernel
theorem dX5_along_28 : decode cX5_along 28 = .ok (.iload 9, 2) := by decide +kernel
theorem dX5_along_30 : decode cX5_along 30 = .ok (.invokevirtual 62, 3) := by decide +kernel
theorem dX5_along_33 : decode cX5_along 33 = .ok (.ifCond .eq 38, 3) := by decide +kernel
theorem dX5_along_36 : decode cX5_along 36 = .ok (.aload_n 1, 1) := by decide +kernel
theorem dX5_along_37 : decode cX5_along 37 = .ok (.bipush 7, 2) := by decide +kernel
theorem dX5_along_39 : decode cX5_along 39 = .ok (.iload 8, 2) := by decide +kernel
theorem dX5_along_41 : decode cX5_along 41 = .ok (.imul, 1) := by decide +kernel
theorem dX5_along_42 : decode cX5_along 42 = .ok (.iload 9, 2) := by decide +kernel
theorem dX5_along_44 : decode cX5_along 44 = .ok (.iadd, 1) := by decide +kernel
theorem dX5_along_45 : decode cX5_along 45 = .ok (.iaload, 1) := by decide +kernel
theorem dX5_along_46 : decode cX5_along 46 = .ok (.iload 6, 2) := by decide +kernel
theorem dX5_along_48 : decode cX5_along 48 = .ok (.if_icmp .ne 23, 3) := by decide +kernel
theorem dX5_along_51 : decode cX5_along 51 = .ok (.iinc 7 1, 3) := by decide +kernel
theorem dX5_along_54 : decode cX5_along 54 = .ok (.iload 8, 2) := by decide +kernel
theorem dX5_along_56 : decode cX5_along 56 = .ok (.iload 4, 2) := by decide +kernel
theorem dX5_along_58 : decode cX5_along 58 = .ok (.iadd, 1) := by decide +kernel
theorem dX5_along_59 : decode cX5_along 59 = .ok (.istore 8, 2) := by decide +kernel
theorem dX5_along_61 : decode cX5_along 61 = .ok (.iload 9, 2) := by decide +kernel
theorem dX5_along_63 : decode cX5_along 63 = .ok (.iload 5, 2) := by decide +kernel
theorem dX5_along_65 : decode cX5_along 65 = .ok (.iadd, 1) := by decide +kernel
theorem dX5_along_66 : decode cX5_along 66 = .ok (.istore 9, 2) := by decide +kernel
theorem dX5_along_68 : decode cX5_along 68 = .ok (.goto (-43), 3) := by decide +kernel
theorem dX5_along_71 : decode cX5_along 71 = .ok (.iload 7, 2) := by decide +kernel
theorem dX5_along_73 : decode cX5_along 73 = .ok (.ireturn, 1) := by decide +kernel
theorem dX5_wins_0 : decode cX5_wins 0 = .ok (.aload_n 0, 1) := by decide +kernel
theorem dX5_wins_1 : decode cX5_wins 1 = .ok (.aload_n 1, 1) := by decide +kernel
theorem dX5_wins_2 : decode cX5_wins 2 = .ok (.iload_n 2, 1) := by decide +kernel
theorem dX5_wins_3 : decode cX5_wins 3 = .ok (.iload_n 3, 1) := by decide +kernel
theorem dX5_wins_4 : decode cX5_wins 4 = .ok (.iconst 0, 1) := by decide +kernel
theorem dX5_wins_5 : decode cX5_wins 5 = .ok (.iconst (-1), 1) := by decide +kernel
theorem dX5_wins_6 : decode cX5_wins 6 = .ok (.invokevirtual 66, 3) := by decide +kernel
theorem dX5_wins_9 : decode cX5_wins 9 = .ok (.iconst 2, 1) := by decide +kernel
theorem dX5_wins_10 : decode cX5_wins 10 = .ok (.if_icmp .gt 72, 3) := by decide +kernel
theorem dX5_wins_13 : decode cX5_wins 13 = .ok (.aload_n 0, 1) := by decide +kernel
theorem dX5_wins_14 : decode cX5_wins 14 = .ok (.aload_n 1, 1) := by decide +kernel
theorem dX5_wins_15 : decode cX5_wins 15 = .ok (.iload_n 2, 1) := by decide +kernel
theorem dX5_wins_16 : decode cX5_wins 16 = .ok (.iload_n 3, 1) := by decide +kernel
theorem dX5_wins_17 : decode cX5_wins 17 = .ok (.iconst 1, 1) := by decide +kernel
theorem dX5_wins_18 : decode cX5_wins 18 = .ok (.iconst 0, 1) := by decide +kernel
theorem dX5_wins_19 : decode cX5_wins 19 = .ok (.invokevirtual 66, 3) := by decide +kernel
theorem dX5_wins_22 : decode cX5_wins 22 = .ok (.aload_n 0, 1) := by decide +kernel
theorem dX5_wins_23 : decode cX5_wins 23 = .ok (.aload_n 1, 1) := by decide +kernel
theorem dX5_wins_24 : decode cX5_wins 24 = .ok (.iload_n 2, 1) := by decide +kernel
theorem dX5_wins_25 : decode cX5_wins 25 = .ok (.iload_n 3, 1) := by decide +kernel
theorem dX5_wins_26 : decode cX5_wins 26 = .ok (.iconst (-1), 1) := by decide +kernel
theorem dX5_wins_27 : decode cX5_wins 27 = .ok (.iconst 0, 1) := by decide +kernel
theorem dX5_wins_28 : decode cX5_wins 28 = .ok (.invokevirtual 66, 3) := by decide +kernel
theorem dX5_wins_31 : decode cX5_wins 31 = .ok (.iadd, 1) := by decide +kernel
theorem dX5_wins_32 : decode cX5_wins 32 = .ok (.iconst 2, 1) := by decide +kernel
theorem dX5_wins_33 : decode cX5_wins 33 = .ok (.if_icmp .gt 49, 3) := by decide +kernel
theorem dX5_wins_36 : decode cX5_wins 36 = .ok (.aload_n 0, 1) := by decide +kernel
theorem dX5_wins_37 : decode cX5_wins 37 = .ok (.aload_n 1, 1) := by decide +kernel
theorem dX5_wins_38 : decode cX5_wins 38 = .ok (.iload_n 2, 1) := by decide +kernel
theorem dX5_wins_39 : decode cX5_wins 39 = .ok (.iload_n 3, 1) := by decide +kernel
theorem dX5_wins_40 : decode cX5_wins 40 = .ok (.iconst 1, 1) := by decide +kernel
theorem dX5_wins_41 : decode cX5_wins 41 = .ok (.iconst 1, 1) := by decide +kernel
theorem dX5_wins_42 : decode cX5_wins 42 = .ok (.invokevirtual 66, 3) := by decide +kernel
theorem dX5_wins_45 : decode cX5_wins 45 = .ok (.aload_n 0, 1) := by decide +kernel
theorem dX5_wins_46 : decode cX5_wins 46 = .ok (.aload_n 1, 1) := by decide +kernel
theorem dX5_wins_47 : decode cX5_wins 47 = .ok (.iload_n 2, 1) := by decide +kernel
theorem dX5_wins_48 : decode cX5_wins 48 = .ok (.iload_n 3, 1) := by decide +kernel
theorem dX5_wins_49 : decode cX5_wins 49 = .ok (.iconst (-1), 1) := by decide +kernel
theorem dX5_wins_50 : decode cX5_wins 50 = .ok (.iconst (-1), 1) := by decide +kernel
theorem dX5_wins_51 : decode cX5_wins 51 = .ok (.invokevirtual 66, 3) := by decide +kernel
theorem dX5_wins_54 : decode cX5_wins 54 = .ok (.iadd, 1) := by decide +kernel
theorem dX5_wins_55 : decode cX5_wins 55 = .ok (.iconst 2, 1) := by decide +kernel
theorem dX5_wins_56 : decode cX5_wins 56 = .ok (.if_icmp .gt 26, 3) := by decide +kernel
theorem dX5_wins_59 : decode cX5_wins 59 = .ok (.aload_n 0, 1) := by decide +kernel
theorem dX5_wins_60 : decode cX5_wins 60 = .ok (.aload_n 1, 1) := by decide +kernel
theorem dX5_wins_61 : decode cX5_wins 61 = .ok (.iload_n 2, 1) := by decide +kernel
theorem dX5_wins_62 : decode cX5_wins 62 = .ok (.iload_n 3, 1) := by decide +kernel
theorem dX5_wins_63 : decode cX5_wins 63 = .ok (.iconst 1, 1) := by decide +kernel
theorem dX5_wins_64 : decode cX5_wins 64 = .ok (.iconst (-1), 1) := by decide +kernel
theorem dX5_wins_65 : decode cX5_wins 65 = .ok (.invokevirtual 66, 3) := by decide +kernel
theorem dX5_wins_68 : decode cX5_wins 68 = .ok (.aload_n 0, 1) := by decide +kernel
theorem dX5_wins_69 : decode cX5_wins 69 = .ok (.aload_n 1, 1) := by decide +kernel
theorem dX5_wins_70 : decode cX5_wins 70 = .ok (.iload_n 2, 1) := by decide +kernel
theorem dX5_wins_71 : decode cX5_wins 71 = .ok (.iload_n 3, 1) := by decide +kernel
theorem dX5_wins_72 : decode cX5_wins 72 = .ok (.iconst (-1), 1) := by decide +kernel
theorem dX5_wins_73 : decode cX5_wins 73 = .ok (.iconst 1, 1) := by decide +kernel
theorem dX5_wins_74 : decode cX5_wins 74 = .ok (.invokevirtual 66, 3) := by decide +kernel
theorem dX5_wins_77 : decode cX5_wins 77 = .ok (.iadd, 1) := by decide +kernel
theorem dX5_wins_78 : decode cX5_wins 78 = .ok (.iconst 2, 1) := by decide +kernel
theorem dX5_wins_79 : decode cX5_wins 79 = .ok (.if_icmp .le 7, 3) := by decide +kernel
theorem dX5_wins_82 : decode cX5_wins 82 = .ok (.iconst 1, 1) := by decide +kernel
theorem dX5_wins_83 : decode cX5_wins 83 = .ok (.goto 4, 3) := by decide +kernel
theorem dX5_wins_86 : decode cX5_wins 86 = .ok (.iconst 0, 1) := by decide +kernel
theorem dX5_wins_87 : decode cX5_wins 87 = .ok (.ireturn, 1) := by decide +kernel
theorem dX5_winnerNow_0 : decode cX5_winnerNow 0 = .ok (.aload_n 0, 1) := by decide +kernel
theorem dX5_winnerNow_1 : decode cX5_winnerNow 1 = .ok (.getfield 70, 3) := by decide +kernel
theorem dX5_winnerNow_4 : decode cX5_winnerNow 4 = .ok (.ifCond .le 54, 3) := by decide +kernel
theorem dX5_winnerNow_7 : decode cX5_winnerNow 7 = .ok (.aload_n 0, 1) := by decide +kernel
theorem dX5_winnerNow_8 : decode cX5_winnerNow 8 = .ok (.getfield 16, 3) := by decide +kernel
theorem dX5_winnerNow_11 : decode cX5_winnerNow 11 = .ok (.aload_n 0, 1) := by decide +kernel
theorem dX5_winnerNow_12 : decode cX5_winnerNow 12 = .ok (.getfield 70, 3) := by decide +kernel
theorem dX5_winnerNow_15 : decode cX5_winnerNow 15 = .ok (.iconst 1, 1) := by decide +kernel
theorem dX5_winnerNow_16 : decode cX5_winnerNow 16 = .ok (.isub, 1) := by decide +kernel
theorem dX5_winnerNow_17 : decode cX5_winnerNow 17 = .ok (.iaload, 1) := by decide +kernel
theorem dX5_winnerNow_18 : decode cX5_winnerNow 18 = .ok (.istore_n 1, 1) := by decide +kernel
theorem dX5_winnerNow_19 : decode cX5_winnerNow 19 = .ok (.aload_n 0, 1) := by decide +kernel
theorem dX5_winnerNow_20 : decode cX5_winnerNow 20 = .ok (.aload_n 0, 1) := by decide +kernel
theorem dX5_winnerNow_21 : decode cX5_winnerNow 21 = .ok (.getfield 7, 3) := by decide +kernel
theorem dX5_winnerNow_24 : decode cX5_winnerNow 24 = .ok (.iload_n 1, 1) := by decide +kernel
theorem dX5_winnerNow_25 : decode cX5_winnerNow 25 = .ok (.aload_n 0, 1) := by decide +kernel
theorem dX5_winnerNow_26 : decode cX5_winnerNow 26 = .ok (.getfield 13, 3) := by decide +kernel
theorem dX5_winnerNow_29 : decode cX5_winnerNow 29 = .ok (.iload_n 1, 1) := by decide +kernel
theorem dX5_winnerNow_30 : decode cX5_winnerNow 30 = .ok (.iaload, 1) := by decide +kernel
theorem dX5_winnerNow_31 : decode cX5_winnerNow 31 = .ok (.iconst 1, 1) := by decide +kernel
theorem dX5_winnerNow_32 : decode cX5_winnerNow 32 = .ok (.isub, 1) := by decide +kernel
theorem dX5_winnerNow_33 : decode cX5_winnerNow 33 = .ok (.invokevirtual 73, 3) := by decide +kernel
theorem dX5_winnerNow_36 : decode cX5_winnerNow 36 = .ok (.ifCond .eq 22, 3) := by decide +kernel
theorem dX5_winnerNow_39 : decode cX5_winnerNow 39 = .ok (.aload_n 0, 1) := by decide +kernel
theorem dX5_winnerNow_40 : decode cX5_winnerNow 40 = .ok (.getfield 7, 3) := by decide +kernel
theorem dX5_winnerNow_43 : decode cX5_winnerNow 43 = .ok (.bipush 7, 2) := by decide +kernel
theorem dX5_winnerNow_45 : decode cX5_winnerNow 45 = .ok (.iload_n 1, 1) := by decide +kernel
theorem dX5_winnerNow_46 : decode cX5_winnerNow 46 = .ok (.imul, 1) := by decide +kernel
theorem dX5_winnerNow_47 : decode cX5_winnerNow 47 = .ok (.aload_n 0, 1) := by decide +kernel
theorem dX5_winnerNow_48 : decode cX5_winnerNow 48 = .ok (.getfield 13, 3) := by decide +kernel
theorem dX5_winnerNow_51 : decode cX5_winnerNow 51 = .ok (.iload_n 1, 1) := by decide +kernel
theorem dX5_winnerNow_52 : decode cX5_winnerNow 52 = .ok (.iaload, 1) := by decide +kernel
theorem dX5_winnerNow_53 : decode cX5_winnerNow 53 = .ok (.iadd, 1) := by decide +kernel
theorem dX5_winnerNow_54 : decode cX5_winnerNow 54 = .ok (.iconst 1, 1) := by decide +kernel
theorem dX5_winnerNow_55 : decode cX5_winnerNow 55 = .ok (.isub, 1) := by decide +kernel
theorem dX5_winnerNow_56 : decode cX5_winnerNow 56 = .ok (.iaload, 1) := by decide +kernel
theorem dX5_winnerNow_57 : decode cX5_winnerNow 57 = .ok (.ireturn, 1) := by decide +kernel
theorem dX5_winnerNow_58 : decode cX5_winnerNow 58 = .ok (.aload_n 0, 1) := by decide +kernel
theorem dX5_winnerNow_59 : decode cX5_winnerNow 59 = .ok (.getfield 70, 3) := by decide +kernel
theorem dX5_winnerNow_62 : decode cX5_winnerNow 62 = .ok (.aload_n 0, 1) := by decide +kernel
theorem dX5_winnerNow_63 : decode cX5_winnerNow 63 = .ok (.getfield 52, 3) := by decide +kernel
theorem dX5_winnerNow_66 : decode cX5_winnerNow 66 = .ok (.aload_n 0, 1) := by decide +kernel
theorem dX5_winnerNow_67 : decode cX5_winnerNow 67 = .ok (.getfield 56, 3) := by decide +kernel
theorem dX5_winnerNow_70 : decode cX5_winnerNow 70 = .ok (.imul, 1) := by decide +kernel
theorem dX5_winnerNow_71 : decode cX5_winnerNow 71 = .ok (.if_icmp .ne 7, 3) := by decide +kernel
theorem dX5_winnerNow_74 : decode cX5_winnerNow 74 = .ok (.iconst 2, 1) := by decide +kernel
theorem dX5_winnerNow_75 : decode cX5_winnerNow 75 = .ok (.goto 4, 3) := by decide +kernel
theorem dX5_winnerNow_78 : decode cX5_winnerNow 78 = .ok (.iconst (-1), 1) := by decide +kernel
theorem dX5_winnerNow_79 : decode cX5_winnerNow 79 = .ok (.ireturn, 1) := by decide +kernel
theorem dX5_drop_0 : decode cX5_drop 0 = .ok (.iload_n 1, 1) := by decide +kernel
theorem dX5_drop_1 : decode cX5_drop 1 = .ok (.ifCond .lt 11, 3) := by decide +kernel
theorem dX5_drop_4 : decode cX5_drop 4 = .ok (.iload_n 1, 1) := by decide +kernel
theorem dX5_drop_5 : decode cX5_drop 5 = .ok (.aload_n 0, 1) := by decide +kernel
theorem dX5_drop_6 : decode cX5_drop 6 = .ok (.getfield 52, 3) := by decide +kernel
theorem dX5_drop_9 : decode cX5_drop 9 = .ok (.if_icmp .lt 7, 3) := by decide +kernel
theorem dX5_drop_12 : decode cX5_drop 12 = .ok (.iconst 1, 1) := by decide +kernel
theorem dX5_drop_13 : decode cX5_drop 13 = .ok (.goto 4, 3) := by decide +kernel
theorem dX5_drop_16 : decode cX5_drop 16 = .ok (.iconst 0, 1) := by decide +kernel
theorem dX5_drop_17 : decode cX5_drop 17 = .ok (.istore_n 2, 1) := by decide +kernel
theorem dX5_drop_18 : decode cX5_drop 18 = .ok (.aload_n 0, 1) := by decide +kernel
theorem dX5_drop_19 : decode cX5_drop 19 = .ok (.iload_n 2, 1) := by decide +kernel
theorem dX5_drop_20 : decode cX5_drop 20 = .ok (.iload_n 2, 1) := by decide +kernel
theorem dX5_drop_21 : decode cX5_drop 21 = .ok (.ifCond .ne 27, 3) := by decide +kernel
theorem dX5_drop_24 : decode cX5_drop 24 = .ok (.aload_n 0, 1) := by decide +kernel
theorem dX5_drop_25 : decode cX5_drop 25 = .ok (.invokevirtual 77, 3) := by decide +kernel
theorem dX5_drop_28 : decode cX5_drop 28 = .ok (.ifCond .ge 16, 3) := by decide +kernel
theorem dX5_drop_31 : decode cX5_drop 31 = .ok (.aload_n 0, 1) := by decide +kernel
theorem dX5_drop_32 : decode cX5_drop 32 = .ok (.getfield 13, 3) := by decide +kernel
theorem dX5_drop_35 : decode cX5_drop 35 = .ok (.iload_n 1, 1) := by decide +kernel
theorem dX5_drop_36 : decode cX5_drop 36 = .ok (.iaload, 1) := by decide +kernel
theorem dX5_drop_37 : decode cX5_drop 37 = .ok (.aload_n 0, 1) := by decide +kernel
theorem dX5_drop_38 : decode cX5_drop 38 = .ok (.getfield 56, 3) := by decide +kernel
theorem dX5_drop_41 : decode cX5_drop 41 = .ok (.if_icmp .ne 7, 3) := by decide +kernel
theorem dX5_drop_44 : decode cX5_drop 44 = .ok (.iconst 1, 1) := by decide +kernel
theorem dX5_drop_45 : decode cX5_drop 45 = .ok (.goto 4, 3) := by decide +kernel
theorem dX5_drop_48 : decode cX5_drop 48 = .ok (.iconst 0, 1) := by decide +kernel
theorem dX5_drop_49 : decode cX5_drop 49 = .ok (.invokevirtual 81, 3) := by decide +kernel
theorem dX5_drop_52 : decode cX5_drop 52 = .ok (.ifCond .eq 5, 3) := by decide +kernel
theorem dX5_drop_55 : decode cX5_drop 55 = .ok (.iconst 0, 1) := by decide +kernel
theorem dX5_drop_56 : decode cX5_drop 56 = .ok (.ireturn, 1) := by decide +kernel
theorem dX5_drop_57 : decode cX5_drop 57 = .ok (.aload_n 0, 1) := by decide +kernel
theorem dX5_drop_58 : decode cX5_drop 58 = .ok (.getfield 13, 3) := by decide +kernel
theorem dX5_drop_61 : decode cX5_drop 61 = .ok (.iload_n 1, 1) := by decide +kernel
theorem dX5_drop_62 : decode cX5_drop 62 = .ok (.iaload, 1) := by decide +kernel
theorem dX5_drop_63 : decode cX5_drop 63 = .ok (.istore_n 3, 1) := by decide +kernel
theorem dX5_drop_64 : decode cX5_drop 64 = .ok (.aload_n 0, 1) := by decide +kernel
theorem dX5_drop_65 : decode cX5_drop 65 = .ok (.getfield 7, 3) := by decide +kernel
theorem dX5_drop_68 : decode cX5_drop 68 = .ok (.bipush 7, 2) := by decide +kernel
theorem dX5_drop_70 : decode cX5_drop 70 = .ok (.iload_n 1, 1) := by decide +kernel
theorem dX5_drop_71 : decode cX5_drop 71 = .ok (.imul, 1) := by decide +kernel
theorem dX5_drop_72 : decode cX5_drop 72 = .ok (.iload_n 3, 1) := by decide +kernel
theorem dX5_drop_73 : decode cX5_drop 73 = .ok (.iadd, 1) := by decide +kernel
theorem dX5_drop_74 : decode cX5_drop 74 = .ok (.aload_n 0, 1) := by decide +kernel
theorem dX5_drop_75 : decode cX5_drop 75 = .ok (.getfield 70, 3) := by decide +kernel
theorem dX5_drop_78 : decode cX5_drop 78 = .ok (.iconst 2, 1) := by decide +kernel
theorem dX5_drop_79 : decode cX5_drop 79 = .ok (.irem, 1) := by decide +kernel
theorem dX5_drop_80 : decode cX5_drop 80 = .ok (.iastore, 1) := by decide +kernel
theorem dX5_drop_81 : decode cX5_drop 81 = .ok (.aload_n 0, 1) := by decide +kernel
theorem dX5_drop_82 : decode cX5_drop 82 = .ok (.getfield 13, 3) := by decide +kernel
theorem dX5_drop_85 : decode cX5_drop 85 = .ok (.iload_n 1, 1) := by decide +kernel
theorem dX5_drop_86 : decode cX5_drop 86 = .ok (.iload_n 3, 1) := by decide +kernel
theorem dX5_drop_87 : decode cX5_drop 87 = .ok (.iconst 1, 1) := by decide +kernel
theorem dX5_drop_88 : decode cX5_drop 88 = .ok (.iadd, 1) := by decide +kernel
theorem dX5_drop_89 : decode cX5_drop 89 = .ok (.iastore, 1) := by decide +kernel
theorem dX5_drop_90 : decode cX5_drop 90 = .ok (.aload_n 0, 1) := by decide +kernel
theorem dX5_drop_91 : decode cX5_drop 91 = .ok (.getfield 16, 3) := by decide +kernel
theorem dX5_drop_94 : decode cX5_drop 94 = .ok (.aload_n 0, 1) := by decide +kernel
theorem dX5_drop_95 : decode cX5_drop 95 = .ok (.getfield 70, 3) := by decide +kernel
theorem dX5_drop_98 : decode cX5_drop 98 = .ok (.iload_n 1, 1) := by decide +kernel
theorem dX5_drop_99 : decode cX5_drop 99 = .ok (.iastore, 1) := by decide +kernel
theorem dX5_drop_100 : decode cX5_drop 100 = .ok (.aload_n 0, 1) := by decide +kernel
theorem dX5_drop_101 : decode cX5_drop 101 = .ok (.dup, 1) := by decide +kernel
theorem dX5_drop_102 : decode cX5_drop 102 = .ok (.getfield 70, 3) := by decide +kernel
theorem dX5_drop_105 : decode cX5_drop 105 = .ok (.iconst 1, 1) := by decide +kernel
theorem dX5_drop_106 : decode cX5_drop 106 = .ok (.iadd, 1) := by decide +kernel
theorem dX5_drop_107 : decode cX5_drop 107 = .ok (.putfield 70, 3) := by decide +kernel
theorem dX5_drop_110 : decode cX5_drop 110 = .ok (.aload_n 0, 1) := by decide +kernel
theorem dX5_drop_111 : decode cX5_drop 111 = .ok (.iconst 0, 1) := by decide +kernel
theorem dX5_drop_112 : decode cX5_drop 112 = .ok (.putfield 85, 3) := by decide +kernel
theorem dX5_drop_115 : decode cX5_drop 115 = .ok (.iload_n 3, 1) := by decide +kernel
theorem dX5_drop_116 : decode cX5_drop 116 = .ok (.ireturn, 1) := by decide +kernel
theorem dX5_back_0 : decode cX5_back 0 = .ok (.aload_n 0, 1) := by decide +kernel
theorem dX5_back_1 : decode cX5_back 1 = .ok (.aload_n 0, 1) := by decide +kernel
theorem dX5_back_2 : decode cX5_back 2 = .ok (.getfield 70, 3) := by decide +kernel
theorem dX5_back_5 : decode cX5_back 5 = .ok (.ifCond .ne 7, 3) := by decide +kernel
theorem dX5_back_8 : decode cX5_back 8 = .ok (.iconst 1, 1) := by decide +kernel
theorem dX5_back_9 : decode cX5_back 9 = .ok (.goto 4, 3) := by decide +kernel
theorem dX5_back_12 : decode cX5_back 12 = .ok (.iconst 0, 1) := by decide +kernel
theorem dX5_back_13 : decode cX5_back 13 = .ok (.iconst 0, 1) := by decide +kernel
theorem dX5_back_14 : decode cX5_back 14 = .ok (.invokevirtual 81, 3) := by decide +kernel
theorem dX5_back_17 : decode cX5_back 17 = .ok (.ifCond .eq 5, 3) := by decide +kernel
theorem dX5_back_20 : decode cX5_back 20 = .ok (.iconst 0, 1) := by decide +kernel
theorem dX5_back_21 : decode cX5_back 21 = .ok (.ireturn, 1) := by decide +kernel
theorem dX5_back_22 : decode cX5_back 22 = .ok (.aload_n 0, 1) := by decide +kernel
theorem dX5_back_23 : decode cX5_back 23 = .ok (.dup, 1) := by decide +kernel
theorem dX5_back_24 : decode cX5_back 24 = .ok (.getfield 70, 3) := by decide +kernel
theorem dX5_back_27 : decode cX5_back 27 = .ok (.iconst 1, 1) := by decide +kernel
theorem dX5_back_28 : decode cX5_back 28 = .ok (.isub, 1) := by decide +kernel
theorem dX5_back_29 : decode cX5_back 29 = .ok (.putfield 70, 3) := by decide +kernel
theorem dX5_back_32 : decode cX5_back 32 = .ok (.aload_n 0, 1) := by decide +kernel
theorem dX5_back_33 : decode cX5_back 33 = .ok (.getfield 16, 3) := by decide +kernel
theorem dX5_back_36 : decode cX5_back 36 = .ok (.aload_n 0, 1) := by decide +kernel
theorem dX5_back_37 : decode cX5_back 37 = .ok (.getfield 70, 3) := by decide +kernel
theorem dX5_back_40 : decode cX5_back 40 = .ok (.iaload, 1) := by decide +kernel
theorem dX5_back_41 : decode cX5_back 41 = .ok (.istore_n 1, 1) := by decide +kernel
theorem dX5_back_42 : decode cX5_back 42 = .ok (.aload_n 0, 1) := by decide +kernel
theorem dX5_back_43 : decode cX5_back 43 = .ok (.getfield 13, 3) := by decide +kernel
theorem dX5_back_46 : decode cX5_back 46 = .ok (.iload_n 1, 1) := by decide +kernel
theorem dX5_back_47 : decode cX5_back 47 = .ok (.dup2, 1) := by decide +kernel
theorem dX5_back_48 : decode cX5_back 48 = .ok (.iaload, 1) := by decide +kernel
theorem dX5_back_49 : decode cX5_back 49 = .ok (.iconst 1, 1) := by decide +kernel
theorem dX5_back_50 : decode cX5_back 50 = .ok (.isub, 1) := by decide +kernel
theorem dX5_back_51 : decode cX5_back 51 = .ok (.iastore, 1) := by decide +kernel
theorem dX5_back_52 : decode cX5_back 52 = .ok (.aload_n 0, 1) := by decide +kernel
theorem dX5_back_53 : decode cX5_back 53 = .ok (.getfield 7, 3) := by decide +kernel
theorem dX5_back_56 : decode cX5_back 56 = .ok (.bipush 7, 2) := by decide +kernel
theorem dX5_back_58 : decode cX5_back 58 = .ok (.iload_n 1, 1) := by decide +kernel
theorem dX5_back_59 : decode cX5_back 59 = .ok (.imul, 1) := by decide +kernel
theorem dX5_back_60 : decode cX5_back 60 = .ok (.aload_n 0, 1) := by decide +kernel
theorem dX5_back_61 : decode cX5_back 61 = .ok (.getfield 13, 3) := by decide +kernel
theorem dX5_back_64 : decode cX5_back 64 = .ok (.iload_n 1, 1) := by decide +kernel
theorem dX5_back_65 : decode cX5_back 65 = .ok (.iaload, 1) := by decide +kernel
theorem dX5_back_66 : decode cX5_back 66 = .ok (.iadd, 1) := by decide +kernel
theorem dX5_back_67 : decode cX5_back 67 = .ok (.iconst (-1), 1) := by decide +kernel
theorem dX5_back_68 : decode cX5_back 68 = .ok (.iastore, 1) := by decide +kernel
theorem dX5_back_69 : decode cX5_back 69 = .ok (.aload_n 0, 1) := by decide +kernel
theorem dX5_back_70 : decode cX5_back 70 = .ok (.iconst 0, 1) := by decide +kernel
theorem dX5_back_71 : decode cX5_back 71 = .ok (.putfield 85, 3) := by decide +kernel
theorem dX5_back_74 : decode cX5_back 74 = .ok (.iload_n 1, 1) := by decide +kernel
theorem dX5_back_75 : decode cX5_back 75 = .ok (.ireturn, 1) := by decide +kernel
theorem dX5_turn_0 : decode cX5_turn 0 = .ok (.aload_n 0, 1) := by decide +kernel
theorem dX5_turn_1 : decode cX5_turn 1 = .ok (.iconst 0, 1) := by decide +kernel
theorem dX5_turn_2 : decode cX5_turn 2 = .ok (.putfield 59, 3) := by decide +kernel
theorem dX5_turn_5 : decode cX5_turn 5 = .ok (.aload_n 0, 1) := by decide +kernel
theorem dX5_turn_6 : decode cX5_turn 6 = .ok (.getfield 70, 3) := by decide +kernel
theorem dX5_turn_9 : decode cX5_turn 9 = .ok (.iconst 2, 1) := by decide +kernel
theorem dX5_turn_10 : decode cX5_turn 10 = .ok (.irem, 1) := by decide +kernel
theorem dX5_turn_11 : decode cX5_turn 11 = .ok (.ireturn, 1) := by decide +kernel
theorem dX5_winner_0 : decode cX5_winner 0 = .ok (.aload_n 0, 1) := by decide +kernel
theorem dX5_winner_1 : decode cX5_winner 1 = .ok (.iconst 0, 1) := by decide +kernel
theorem dX5_winner_2 : decode cX5_winner 2 = .ok (.putfield 59, 3) := by decide +kernel
theorem dX5_winner_5 : decode cX5_winner 5 = .ok (.aload_n 0, 1) := by decide +kernel
theorem dX5_winner_6 : decode cX5_winner 6 = .ok (.invokevirtual 77, 3) := by decide +kernel
theorem dX5_winner_9 : decode cX5_winner 9 = .ok (.ireturn, 1) := by decide +kernel
theorem dX5_at_0 : decode cX5_at 0 = .ok (.aload_n 0, 1) := by decide +kernel
theorem dX5_at_1 : decode cX5_at 1 = .ok (.aload_n 0, 1) := by decide +kernel
theorem dX5_at_2 : decode cX5_at 2 = .ok (.iload_n 1, 1) := by decide +kernel
theorem dX5_at_3 : decode cX5_at 3 = .ok (.iload_n 2, 1) := by decide +kernel
theorem dX5_at_4 : decode cX5_at 4 = .ok (.invokevirtual 62, 3) := by decide +kernel
theorem dX5_at_7 : decode cX5_at 7 = .ok (.ifCond .ne 7, 3) := by decide +kernel
theorem dX5_at_10 : decode cX5_at 10 = .ok (.iconst 1, 1) := by decide +kernel
theorem dX5_at_11 : decode cX5_at 11 = .ok (.goto 4, 3) := by decide +kernel
theorem dX5_at_14 : decode cX5_at 14 = .ok (.iconst 0, 1) := by decide +kernel
theorem dX5_at_15 : decode cX5_at 15 = .ok (.iconst 0, 1) := by decide +kernel
theorem dX5_at_16 : decode cX5_at 16 = .ok (.invokevirtual 81, 3) := by decide +kernel
theorem dX5_at_19 : decode cX5_at 19 = .ok (.ifCond .eq 7, 3) := by decide +kernel
theorem dX5_at_22 : decode cX5_at 22 = .ok (.iconst 0, 1) := by decide +kernel
theorem dX5_at_23 : decode cX5_at 23 = .ok (.goto 14, 3) := by decide +kernel
theorem dX5_at_26 : decode cX5_at 26 = .ok (.aload_n 0, 1) := by decide +kernel
theorem dX5_at_27 : decode cX5_at 27 = .ok (.getfield 7, 3) := by decide +kernel
theorem dX5_at_30 : decode cX5_at 30 = .ok (.bipush 7, 2) := by decide +kernel
theorem dX5_at_32 : decode cX5_at 32 = .ok (.iload_n 1, 1) := by decide +kernel
theorem dX5_at_33 : decode cX5_at 33 = .ok (.imul, 1) := by decide +kernel
theorem dX5_at_34 : decode cX5_at 34 = .ok (.iload_n 2, 1) := by decide +kernel
