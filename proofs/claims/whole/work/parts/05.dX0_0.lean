theorem dX0_init_0 : decode cX0_init 0 = .ok (.aload_n 0, 1) := by decide +kernel
theorem dX0_init_1 : decode cX0_init 1 = .ok (.invokespecial 1, 3) := by decide +kernel
theorem dX0_init_4 : decode cX0_init 4 = .ok (.aload_n 0, 1) := by decide +kernel
theorem dX0_init_5 : decode cX0_init 5 = .ok (.aload_n 1, 1) := by decide +kernel
theorem dX0_init_6 : decode cX0_init 6 = .ok (.putfield 7, 3) := by decide +kernel
theorem dX0_init_9 : decode cX0_init 9 = .ok (.return_, 1) := by decide +kernel
theorem dX0_leaderWins_0 : decode cX0_leaderWins 0 = .ok (.lload_n 1, 1) := by decide +kernel
theorem dX0_leaderWins_1 : decode cX0_leaderWins 1 = .ok (.lstore 5, 2) := by decide +kernel
theorem dX0_leaderWins_3 : decode cX0_leaderWins 3 = .ok (.lload_n 3, 1) := by decide +kernel
theorem dX0_leaderWins_4 : decode cX0_leaderWins 4 = .ok (.lstore 7, 2) := by decide +kernel
theorem dX0_leaderWins_6 : decode cX0_leaderWins 6 = .ok (.iconst 0, 1) := by decide +kernel
theorem dX0_leaderWins_7 : decode cX0_leaderWins 7 = .ok (.istore 9, 2) := by decide +kernel
theorem dX0_leaderWins_9 : decode cX0_leaderWins 9 = .ok (.iconst 2, 1) := by decide +kernel
theorem dX0_leaderWins_10 : decode cX0_leaderWins 10 = .ok (.iload 9, 2) := by decide +kernel
theorem dX0_leaderWins_12 : decode cX0_leaderWins 12 = .ok (.imul, 1) := by decide +kernel
theorem dX0_leaderWins_13 : decode cX0_leaderWins 13 = .ok (.aload_n 0, 1) := by decide +kernel
theorem dX0_leaderWins_14 : decode cX0_leaderWins 14 = .ok (.getfield 7, 3) := by decide +kernel
theorem dX0_leaderWins_17 : decode cX0_leaderWins 17 = .ok (.getfield 13, 3) := by decide +kernel
theorem dX0_leaderWins_20 : decode cX0_leaderWins 20 = .ok (.if_icmp .ge 43, 3) := by decide +kernel
theorem dX0_leaderWins_23 : decode cX0_leaderWins 23 = .ok (.lload 5, 2) := by decide +kernel
theorem dX0_leaderWins_25 : decode cX0_leaderWins 25 = .ok (.aload_n 0, 1) := by decide +kernel
theorem dX0_leaderWins_26 : decode cX0_leaderWins 26 = .ok (.getfield 7, 3) := by decide +kernel
theorem dX0_leaderWins_29 : decode cX0_leaderWins 29 = .ok (.lload 5, 2) := by decide +kernel
theorem dX0_leaderWins_31 : decode cX0_leaderWins 31 = .ok (.lload 7, 2) := by decide +kernel
theorem dX0_leaderWins_33 : decode cX0_leaderWins 33 = .ok (.lor, 1) := by decide +kernel
theorem dX0_leaderWins_34 : decode cX0_leaderWins 34 = .ok (.invokevirtual 19, 3) := by decide +kernel
theorem dX0_leaderWins_37 : decode cX0_leaderWins 37 = .ok (.lor, 1) := by decide +kernel
theorem dX0_leaderWins_38 : decode cX0_leaderWins 38 = .ok (.lstore 5, 2) := by decide +kernel
theorem dX0_leaderWins_40 : decode cX0_leaderWins 40 = .ok (.lload 7, 2) := by decide +kernel
theorem dX0_leaderWins_42 : decode cX0_leaderWins 42 = .ok (.aload_n 0, 1) := by decide +kernel
theorem dX0_leaderWins_43 : decode cX0_leaderWins 43 = .ok (.getfield 7, 3) := by decide +kernel
theorem dX0_leaderWins_46 : decode cX0_leaderWins 46 = .ok (.lload 5, 2) := by decide +kernel
theorem dX0_leaderWins_48 : decode cX0_leaderWins 48 = .ok (.lload 7, 2) := by decide +kernel
theorem dX0_leaderWins_50 : decode cX0_leaderWins 50 = .ok (.lor, 1) := by decide +kernel
theorem dX0_leaderWins_51 : decode cX0_leaderWins 51 = .ok (.invokevirtual 19, 3) := by decide +kernel
theorem dX0_leaderWins_54 : decode cX0_leaderWins 54 = .ok (.lor, 1) := by decide +kernel
theorem dX0_leaderWins_55 : decode cX0_leaderWins 55 = .ok (.lstore 7, 2) := by decide +kernel
theorem dX0_leaderWins_57 : decode cX0_leaderWins 57 = .ok (.iinc 9 1, 3) := by decide +kernel
theorem dX0_leaderWins_60 : decode cX0_leaderWins 60 = .ok (.goto (-51), 3) := by decide +kernel
theorem dX0_leaderWins_63 : decode cX0_leaderWins 63 = .ok (.aload_n 0, 1) := by decide +kernel
theorem dX0_leaderWins_64 : decode cX0_leaderWins 64 = .ok (.getfield 7, 3) := by decide +kernel
theorem dX0_leaderWins_67 : decode cX0_leaderWins 67 = .ok (.getfield 23, 3) := by decide +kernel
theorem dX0_leaderWins_70 : decode cX0_leaderWins 70 = .ok (.astore 9, 2) := by decide +kernel
theorem dX0_leaderWins_72 : decode cX0_leaderWins 72 = .ok (.aload 9, 2) := by decide +kernel
theorem dX0_leaderWins_74 : decode cX0_leaderWins 74 = .ok (.arraylength, 1) := by decide +kernel
theorem dX0_leaderWins_75 : decode cX0_leaderWins 75 = .ok (.istore 10, 2) := by decide +kernel
theorem dX0_leaderWins_77 : decode cX0_leaderWins 77 = .ok (.iconst 0, 1) := by decide +kernel
theorem dX0_leaderWins_78 : decode cX0_leaderWins 78 = .ok (.istore 11, 2) := by decide +kernel
theorem dX0_leaderWins_80 : decode cX0_leaderWins 80 = .ok (.iload 11, 2) := by decide +kernel
theorem dX0_leaderWins_82 : decode cX0_leaderWins 82 = .ok (.iload 10, 2) := by decide +kernel
theorem dX0_leaderWins_84 : decode cX0_leaderWins 84 = .ok (.if_icmp .ge 103, 3) := by decide +kernel
theorem dX0_leaderWins_87 : decode cX0_leaderWins 87 = .ok (.aload 9, 2) := by decide +kernel
theorem dX0_leaderWins_89 : decode cX0_leaderWins 89 = .ok (.iload 11, 2) := by decide +kernel
theorem dX0_leaderWins_91 : decode cX0_leaderWins 91 = .ok (.iaload, 1) := by decide +kernel
theorem dX0_leaderWins_92 : decode cX0_leaderWins 92 = .ok (.istore 12, 2) := by decide +kernel
theorem dX0_leaderWins_94 : decode cX0_leaderWins 94 = .ok (.aload_n 0, 1) := by decide +kernel
theorem dX0_leaderWins_95 : decode cX0_leaderWins 95 = .ok (.getfield 7, 3) := by decide +kernel
theorem dX0_leaderWins_98 : decode cX0_leaderWins 98 = .ok (.lload 5, 2) := by decide +kernel
theorem dX0_leaderWins_100 : decode cX0_leaderWins 100 = .ok (.iload 12, 2) := by decide +kernel
theorem dX0_leaderWins_102 : decode cX0_leaderWins 102 = .ok (.invokevirtual 27, 3) := by decide +kernel
theorem dX0_leaderWins_105 : decode cX0_leaderWins 105 = .ok (.lstore 13, 2) := by decide +kernel
theorem dX0_leaderWins_107 : decode cX0_leaderWins 107 = .ok (.iconst 0, 1) := by decide +kernel
theorem dX0_leaderWins_108 : decode cX0_leaderWins 108 = .ok (.istore 15, 2) := by decide +kernel
theorem dX0_leaderWins_110 : decode cX0_leaderWins 110 = .ok (.iload 15, 2) := by decide +kernel
theorem dX0_leaderWins_112 : decode cX0_leaderWins 112 = .ok (.bipush 64, 2) := by decide +kernel
theorem dX0_leaderWins_114 : decode cX0_leaderWins 114 = .ok (.if_icmp .ge 67, 3) := by decide +kernel
theorem dX0_leaderWins_117 : decode cX0_leaderWins 117 = .ok (.lload 13, 2) := by decide +kernel
theorem dX0_leaderWins_119 : decode cX0_leaderWins 119 = .ok (.lconst 1, 1) := by decide +kernel
theorem dX0_leaderWins_120 : decode cX0_leaderWins 120 = .ok (.iload 15, 2) := by decide +kernel
theorem dX0_leaderWins_122 : decode cX0_leaderWins 122 = .ok (.lshl, 1) := by decide +kernel
theorem dX0_leaderWins_123 : decode cX0_leaderWins 123 = .ok (.land, 1) := by decide +kernel
theorem dX0_leaderWins_124 : decode cX0_leaderWins 124 = .ok (.lstore 16, 2) := by decide +kernel
theorem dX0_leaderWins_126 : decode cX0_leaderWins 126 = .ok (.lload 16, 2) := by decide +kernel
theorem dX0_leaderWins_128 : decode cX0_leaderWins 128 = .ok (.lload 16, 2) := by decide +kernel
theorem dX0_leaderWins_130 : decode cX0_leaderWins 130 = .ok (.iload 12, 2) := by decide +kernel
theorem dX0_leaderWins_132 : decode cX0_leaderWins 132 = .ok (.lshl, 1) := by decide +kernel
theorem dX0_leaderWins_133 : decode cX0_leaderWins 133 = .ok (.lor, 1) := by decide +kernel
theorem dX0_leaderWins_134 : decode cX0_leaderWins 134 = .ok (.lstore 18, 2) := by decide +kernel
theorem dX0_leaderWins_136 : decode cX0_leaderWins 136 = .ok (.lload 18, 2) := by decide +kernel
theorem dX0_leaderWins_138 : decode cX0_leaderWins 138 = .ok (.lload 18, 2) := by decide +kernel
theorem dX0_leaderWins_140 : decode cX0_leaderWins 140 = .ok (.iconst 2, 1) := by decide +kernel
theorem dX0_leaderWins_141 : decode cX0_leaderWins 141 = .ok (.iload 12, 2) := by decide +kernel
theorem dX0_leaderWins_143 : decode cX0_leaderWins 143 = .ok (.imul, 1) := by decide +kernel
theorem dX0_leaderWins_144 : decode cX0_leaderWins 144 = .ok (.lshl, 1) := by decide +kernel
theorem dX0_leaderWins_145 : decode cX0_leaderWins 145 = .ok (.lor, 1) := by decide +kernel
theorem dX0_leaderWins_146 : decode cX0_leaderWins 146 = .ok (.lload_n 1, 1) := by decide +kernel
theorem dX0_leaderWins_147 : decode cX0_leaderWins 147 = .ok (.ldc2_w 31, 3) := by decide +kernel
theorem dX0_leaderWins_150 : decode cX0_leaderWins 150 = .ok (.lxor, 1) := by decide +kernel
theorem dX0_leaderWins_151 : decode cX0_leaderWins 151 = .ok (.land, 1) := by decide +kernel
theorem dX0_leaderWins_152 : decode cX0_leaderWins 152 = .ok (.lstore 20, 2) := by decide +kernel
theorem dX0_leaderWins_154 : decode cX0_leaderWins 154 = .ok (.lload 20, 2) := by decide +kernel
theorem dX0_leaderWins_156 : decode cX0_leaderWins 156 = .ok (.lconst 0, 1) := by decide +kernel
theorem dX0_leaderWins_157 : decode cX0_leaderWins 157 = .ok (.lcmp, 1) := by decide +kernel
theorem dX0_leaderWins_158 : decode cX0_leaderWins 158 = .ok (.ifCond .eq 17, 3) := by decide +kernel
theorem dX0_leaderWins_161 : decode cX0_leaderWins 161 = .ok (.aload_n 0, 1) := by decide +kernel
theorem dX0_leaderWins_162 : decode cX0_leaderWins 162 = .ok (.lload 20, 2) := by decide +kernel
theorem dX0_leaderWins_164 : decode cX0_leaderWins 164 = .ok (.lload_n 3, 1) := by decide +kernel
theorem dX0_leaderWins_165 : decode cX0_leaderWins 165 = .ok (.lload 7, 2) := by decide +kernel
theorem dX0_leaderWins_167 : decode cX0_leaderWins 167 = .ok (.invokevirtual 33, 3) := by decide +kernel
theorem dX0_leaderWins_170 : decode cX0_leaderWins 170 = .ok (.ifCond .eq 5, 3) := by decide +kernel
theorem dX0_leaderWins_173 : decode cX0_leaderWins 173 = .ok (.iconst 1, 1) := by decide +kernel
theorem dX0_leaderWins_174 : decode cX0_leaderWins 174 = .ok (.ireturn, 1) := by decide +kernel
theorem dX0_leaderWins_175 : decode cX0_leaderWins 175 = .ok (.iinc 15 1, 3) := by decide +kernel
theorem dX0_leaderWins_178 : decode cX0_leaderWins 178 = .ok (.goto (-68), 3) := by decide +kernel
theorem dX0_leaderWins_181 : decode cX0_leaderWins 181 = .ok (.iinc 11 1, 3) := by decide +kernel
theorem dX0_leaderWins_184 : decode cX0_leaderWins 184 = .ok (.goto (-104), 3) := by decide +kernel
theorem dX0_leaderWins_187 : decode cX0_leaderWins 187 = .ok (.iconst 0, 1) := by decide +kernel
theorem dX0_leaderWins_188 : decode cX0_leaderWins 188 = .ok (.ireturn, 1) := by decide +kernel
theorem dX0_comesFirst_0 : decode cX0_comesFirst 0 = .ok (.aload_n 0, 1) := by decide +kernel
theorem dX0_comesFirst_1 : decode cX0_comesFirst 1 = .ok (.getfield 7, 3) := by decide +kernel
theorem dX0_comesFirst_4 : decode cX0_comesFirst 4 = .ok (.getfield 37, 3) := by decide +kernel
theorem dX0_comesFirst_7 : decode cX0_comesFirst 7 = .ok (.astore 7, 2) := by decide +kernel
theorem dX0_comesFirst_9 : decode cX0_comesFirst 9 = .ok (.aload 7, 2) := by decide +kernel
theorem dX0_comesFirst_11 : decode cX0_comesFirst 11 = .ok (.arraylength, 1) := by decide +kernel
theorem dX0_comesFirst_12 : decode cX0_comesFirst 12 = .ok (.istore 8, 2) := by decide +kernel
theorem dX0_comesFirst_14 : decode cX0_comesFirst 14 = .ok (.iconst 0, 1) := by decide +kernel
theorem dX0_comesFirst_15 : decode cX0_comesFirst 15 = .ok (.istore 9, 2) := by decide +kernel
theorem dX0_comesFirst_17 : decode cX0_comesFirst 17 = .ok (.iload 9, 2) := by decide +kernel
theorem dX0_comesFirst_19 : decode cX0_comesFirst 19 = .ok (.iload 8, 2) := by decide +kernel
theorem dX0_comesFirst_21 : decode cX0_comesFirst 21 = .ok (.if_icmp .ge 57, 3) := by decide +kernel
theorem dX0_comesFirst_24 : decode cX0_comesFirst 24 = .ok (.aload 7, 2) := by decide +kernel
theorem dX0_comesFirst_26 : decode cX0_comesFirst 26 = .ok (.iload 9, 2) := by decide +kernel
theorem dX0_comesFirst_28 : decode cX0_comesFirst 28 = .ok (.laload, 1) := by decide +kernel
theorem dX0_comesFirst_29 : decode cX0_comesFirst 29 = .ok (.lstore 10, 2) := by decide +kernel
theorem dX0_comesFirst_31 : decode cX0_comesFirst 31 = .ok (.lload_n 1, 1) := by decide +kernel
theorem dX0_comesFirst_32 : decode cX0_comesFirst 32 = .ok (.lload 10, 2) := by decide +kernel
theorem dX0_comesFirst_34 : decode cX0_comesFirst 34 = .ok (.land, 1) := by decide +kernel
theorem dX0_comesFirst_35 : decode cX0_comesFirst 35 = .ok (.lstore 12, 2) := by decide +kernel
theorem dX0_comesFirst_37 : decode cX0_comesFirst 37 = .ok (.lload 12, 2) := by decide +kernel
theorem dX0_comesFirst_39 : decode cX0_comesFirst 39 = .ok (.lconst 0, 1) := by decide +kernel
theorem dX0_comesFirst_40 : decode cX0_comesFirst 40 = .ok (.lcmp, 1) := by decide +kernel
theorem dX0_comesFirst_41 : decode cX0_comesFirst 41 = .ok (.ifCond .eq 31, 3) := by decide +kernel
theorem dX0_comesFirst_44 : decode cX0_comesFirst 44 = .ok (.lload 5, 2) := by decide +kernel
theorem dX0_comesFirst_46 : decode cX0_comesFirst 46 = .ok (.aload_n 0, 1) := by decide +kernel
theorem dX0_comesFirst_47 : decode cX0_comesFirst 47 = .ok (.lload_n 1, 1) := by decide +kernel
theorem dX0_comesFirst_48 : decode cX0_comesFirst 48 = .ok (.lload 12, 2) := by decide +kernel
theorem dX0_comesFirst_50 : decode cX0_comesFirst 50 = .ok (.invokevirtual 41, 3) := by decide +kernel
theorem dX0_comesFirst_53 : decode cX0_comesFirst 53 = .ok (.land, 1) := by decide +kernel
theorem dX0_comesFirst_54 : decode cX0_comesFirst 54 = .ok (.lstore 14, 2) := by decide +kernel
theorem dX0_comesFirst_56 : decode cX0_comesFirst 56 = .ok (.aload_n 0, 1) := by decide +kernel
theorem dX0_comesFirst_57 : decode cX0_comesFirst 57 = .ok (.getfield 7, 3) := by decide +kernel
theorem dX0_comesFirst_60 : decode cX0_comesFirst 60 = .ok (.lload_n 3, 1) := by decide +kernel
theorem dX0_comesFirst_61 : decode cX0_comesFirst 61 = .ok (.lload 14, 2) := by decide +kernel
theorem dX0_comesFirst_63 : decode cX0_comesFirst 63 = .ok (.lor, 1) := by decide +kernel
theorem dX0_comesFirst_64 : decode cX0_comesFirst 64 = .ok (.invokevirtual 45, 3) := by decide +kernel
theorem dX0_comesFirst_67 : decode cX0_comesFirst 67 = .ok (.ifCond .ne 5, 3) := by decide +kernel
theorem dX0_comesFirst_70 : decode cX0_comesFirst 70 = .ok (.iconst 1, 1) := by decide +kernel
theorem dX0_comesFirst_71 : decode cX0_comesFirst 71 = .ok (.ireturn, 1) := by decide +kernel
theorem dX0_comesFirst_72 : decode cX0_comesFirst 72 = .ok (.iinc 9 1, 3) := by decide +kernel
theorem dX0_comesFirst_75 : decode cX0_comesFirst 75 = .ok (.goto (-58), 3) := by decide +kernel
theorem dX0_comesFirst_78 : decode cX0_comesFirst 78 = .ok (.iconst 0, 1) := by decide +kernel
theorem dX0_comesFirst_79 : decode cX0_comesFirst 79 = .ok (.ireturn, 1) := by decide +kernel
theorem dX0_reached_0 : decode cX0_reached 0 = .ok (.lconst 0, 1) := by decide +kernel
theorem dX0_reached_1 : decode cX0_reached 1 = .ok (.lstore 5, 2) := by decide +kernel
theorem dX0_reached_3 : decode cX0_reached 3 = .ok (.aload_n 0, 1) := by decide +kernel
theorem dX0_reached_4 : decode cX0_reached 4 = .ok (.getfield 7, 3) := by decide +kernel
theorem dX0_reached_7 : decode cX0_reached 7 = .ok (.getfield 37, 3) := by decide +kernel
theorem dX0_reached_10 : decode cX0_reached 10 = .ok (.astore 7, 2) := by decide +kernel
theorem dX0_reached_12 : decode cX0_reached 12 = .ok (.aload 7, 2) := by decide +kernel
theorem dX0_reached_14 : decode cX0_reached 14 = .ok (.arraylength, 1) := by decide +kernel
theorem dX0_reached_15 : decode cX0_reached 15 = .ok (.istore 8, 2) := by decide +kernel
theorem dX0_reached_17 : decode cX0_reached 17 = .ok (.iconst 0, 1) := by decide +kernel
theorem dX0_reached_18 : decode cX0_reached 18 = .ok (.istore 9, 2) := by decide +kernel
theorem dX0_reached_20 : decode cX0_reached 20 = .ok (.iload 9, 2) := by decide +kernel
theorem dX0_reached_22 : decode cX0_reached 22 = .ok (.iload 8, 2) := by decide +kernel
theorem dX0_reached_24 : decode cX0_reached 24 = .ok (.if_icmp .ge 67, 3) := by decide +kernel
theorem dX0_reached_27 : decode cX0_reached 27 = .ok (.aload 7, 2) := by decide +kernel
theorem dX0_reached_29 : decode cX0_reached 29 = .ok (.iload 9, 2) := by decide +kernel
theorem dX0_reached_31 : decode cX0_reached 31 = .ok (.laload, 1) := by decide +kernel
theorem dX0_reached_32 : decode cX0_reached 32 = .ok (.lstore 10, 2) := by decide +kernel
theorem dX0_reached_34 : decode cX0_reached 34 = .ok (.lload_n 1, 1) := by decide +kernel
theorem dX0_reached_35 : decode cX0_reached 35 = .ok (.lload 10, 2) := by decide +kernel
theorem dX0_reached_37 : decode cX0_reached 37 = .ok (.land, 1) := by decide +kernel
theorem dX0_reached_38 : decode cX0_reached 38 = .ok (.lstore 12, 2) := by decide +kernel
theorem dX0_reached_40 : decode cX0_reached 40 = .ok (.lload 12, 2) := by decide +kernel
theorem dX0_reached_42 : decode cX0_reached 42 = .ok (.lconst 0, 1) := by decide +kernel
theorem dX0_reached_43 : decode cX0_reached 43 = .ok (.lcmp, 1) := by decide +kernel
theorem dX0_reached_44 : decode cX0_reached 44 = .ok (.ifCond .eq 41, 3) := by decide +kernel
theorem dX0_reached_47 : decode cX0_reached 47 = .ok (.lload 12, 2) := by decide +kernel
theorem dX0_reached_49 : decode cX0_reached 49 = .ok (.lload_n 3, 1) := by decide +kernel
theorem dX0_reached_50 : decode cX0_reached 50 = .ok (.lcmp, 1) := by decide +kernel
theorem dX0_reached_51 : decode cX0_reached 51 = .ok (.ifCond .ne 8, 3) := by decide +kernel
theorem dX0_reached_54 : decode cX0_reached 54 = .ok (.lload 12, 2) := by decide +kernel
theorem dX0_reached_56 : decode cX0_reached 56 = .ok (.goto 7, 3) := by decide +kernel
theorem dX0_reached_59 : decode cX0_reached 59 = .ok (.lload 12, 2) := by decide +kernel
theorem dX0_reached_61 : decode cX0_reached 61 = .ok (.iconst 1, 1) := by decide +kernel
theorem dX0_reached_62 : decode cX0_reached 62 = .ok (.lshl, 1) := by decide +kernel
theorem dX0_reached_63 : decode cX0_reached 63 = .ok (.lstore 14, 2) := by decide +kernel
theorem dX0_reached_65 : decode cX0_reached 65 = .ok (.lload 5, 2) := by decide +kernel
theorem dX0_reached_67 : decode cX0_reached 67 = .ok (.lload 14, 2) := by decide +kernel
theorem dX0_reached_69 : decode cX0_reached 69 = .ok (.iconst 1, 1) := by decide +kernel
theorem dX0_reached_70 : decode cX0_reached 70 = .ok (.lshl, 1) := by decide +kernel
theorem dX0_reached_71 : decode cX0_reached 71 = .ok (.lload 10, 2) := by decide +kernel
theorem dX0_reached_73 : decode cX0_reached 73 = .ok (.aload_n 0, 1) := by decide +kernel
theorem dX0_reached_74 : decode cX0_reached 74 = .ok (.getfield 7, 3) := by decide +kernel
theorem dX0_reached_77 : decode cX0_reached 77 = .ok (.getfield 49, 3) := by decide +kernel
theorem dX0_reached_80 : decode cX0_reached 80 = .ok (.land, 1) := by decide +kernel
theorem dX0_reached_81 : decode cX0_reached 81 = .ok (.lsub, 1) := by decide +kernel
theorem dX0_reached_82 : decode cX0_reached 82 = .ok (.lor, 1) := by decide +kernel
theorem dX0_reached_83 : decode cX0_reached 83 = .ok (.lstore 5, 2) := by decide +kernel
theorem dX0_reached_85 : decode cX0_reached 85 = .ok (.iinc 9 1, 3) := by decide +kernel
theorem dX0_reached_88 : decode cX0_reached 88 = .ok (.goto (-68), 3) := by decide +kernel
theorem dX0_reached_91 : decode cX0_reached 91 = .ok (.lload 5, 2) := by decide +kernel
theorem dX0_reached_93 : decode cX0_reached 93 = .ok (.lreturn, 1) := by decide +kernel
