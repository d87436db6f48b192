theorem dX3_init_0 : decode cX3_init 0 = .ok (.aload_n 0, 1) := by decide +kernel
theorem dX3_init_1 : decode cX3_init 1 = .ok (.invokespecial 1, 3) := by decide +kernel
theorem dX3_init_4 : decode cX3_init 4 = .ok (.aload_n 0, 1) := by decide +kernel
theorem dX3_init_5 : decode cX3_init 5 = .ok (.new 7, 3) := by decide +kernel
theorem dX3_init_8 : decode cX3_init 8 = .ok (.dup, 1) := by decide +kernel
theorem dX3_init_9 : decode cX3_init 9 = .ok (.invokespecial 9, 3) := by decide +kernel
theorem dX3_init_12 : decode cX3_init 12 = .ok (.putfield 10, 3) := by decide +kernel
theorem dX3_init_15 : decode cX3_init 15 = .ok (.aload_n 0, 1) := by decide +kernel
theorem dX3_init_16 : decode cX3_init 16 = .ok (.aload_n 1, 1) := by decide +kernel
theorem dX3_init_17 : decode cX3_init 17 = .ok (.putfield 16, 3) := by decide +kernel
theorem dX3_init_20 : decode cX3_init 20 = .ok (.aload_n 0, 1) := by decide +kernel
theorem dX3_init_21 : decode cX3_init 21 = .ok (.aload_n 1, 1) := by decide +kernel
theorem dX3_init_22 : decode cX3_init 22 = .ok (.getfield 20, 3) := by decide +kernel
theorem dX3_init_25 : decode cX3_init 25 = .ok (.newarray .long, 2) := by decide +kernel
theorem dX3_init_27 : decode cX3_init 27 = .ok (.putfield 26, 3) := by decide +kernel
theorem dX3_init_30 : decode cX3_init 30 = .ok (.iconst 0, 1) := by decide +kernel
theorem dX3_init_31 : decode cX3_init 31 = .ok (.istore_n 2, 1) := by decide +kernel
theorem dX3_init_32 : decode cX3_init 32 = .ok (.iload_n 2, 1) := by decide +kernel
theorem dX3_init_33 : decode cX3_init 33 = .ok (.aload_n 1, 1) := by decide +kernel
theorem dX3_init_34 : decode cX3_init 34 = .ok (.getfield 20, 3) := by decide +kernel
theorem dX3_init_37 : decode cX3_init 37 = .ok (.if_icmp .ge 47, 3) := by decide +kernel
theorem dX3_init_40 : decode cX3_init 40 = .ok (.iload_n 2, 1) := by decide +kernel
theorem dX3_init_41 : decode cX3_init 41 = .ok (.iconst 2, 1) := by decide +kernel
theorem dX3_init_42 : decode cX3_init 42 = .ok (.irem, 1) := by decide +kernel
theorem dX3_init_43 : decode cX3_init 43 = .ok (.ifCond .ne 9, 3) := by decide +kernel
theorem dX3_init_46 : decode cX3_init 46 = .ok (.iload_n 2, 1) := by decide +kernel
theorem dX3_init_47 : decode cX3_init 47 = .ok (.iconst 2, 1) := by decide +kernel
theorem dX3_init_48 : decode cX3_init 48 = .ok (.idiv, 1) := by decide +kernel
theorem dX3_init_49 : decode cX3_init 49 = .ok (.goto 9, 3) := by decide +kernel
theorem dX3_init_52 : decode cX3_init 52 = .ok (.iload_n 2, 1) := by decide +kernel
theorem dX3_init_53 : decode cX3_init 53 = .ok (.iconst 1, 1) := by decide +kernel
theorem dX3_init_54 : decode cX3_init 54 = .ok (.iadd, 1) := by decide +kernel
theorem dX3_init_55 : decode cX3_init 55 = .ok (.ineg, 1) := by decide +kernel
theorem dX3_init_56 : decode cX3_init 56 = .ok (.iconst 2, 1) := by decide +kernel
theorem dX3_init_57 : decode cX3_init 57 = .ok (.idiv, 1) := by decide +kernel
theorem dX3_init_58 : decode cX3_init 58 = .ok (.istore_n 3, 1) := by decide +kernel
theorem dX3_init_59 : decode cX3_init 59 = .ok (.aload_n 0, 1) := by decide +kernel
theorem dX3_init_60 : decode cX3_init 60 = .ok (.getfield 26, 3) := by decide +kernel
theorem dX3_init_63 : decode cX3_init 63 = .ok (.iload_n 2, 1) := by decide +kernel
theorem dX3_init_64 : decode cX3_init 64 = .ok (.aload_n 1, 1) := by decide +kernel
theorem dX3_init_65 : decode cX3_init 65 = .ok (.getfield 30, 3) := by decide +kernel
theorem dX3_init_68 : decode cX3_init 68 = .ok (.aload_n 1, 1) := by decide +kernel
theorem dX3_init_69 : decode cX3_init 69 = .ok (.getfield 20, 3) := by decide +kernel
theorem dX3_init_72 : decode cX3_init 72 = .ok (.iconst 2, 1) := by decide +kernel
theorem dX3_init_73 : decode cX3_init 73 = .ok (.idiv, 1) := by decide +kernel
theorem dX3_init_74 : decode cX3_init 74 = .ok (.iload_n 3, 1) := by decide +kernel
theorem dX3_init_75 : decode cX3_init 75 = .ok (.iadd, 1) := by decide +kernel
theorem dX3_init_76 : decode cX3_init 76 = .ok (.laload, 1) := by decide +kernel
theorem dX3_init_77 : decode cX3_init 77 = .ok (.lastore, 1) := by decide +kernel
theorem dX3_init_78 : decode cX3_init 78 = .ok (.iinc 2 1, 3) := by decide +kernel
theorem dX3_init_81 : decode cX3_init 81 = .ok (.goto (-49), 3) := by decide +kernel
theorem dX3_init_84 : decode cX3_init 84 = .ok (.return_, 1) := by decide +kernel
theorem dX3_score_0 : decode cX3_score 0 = .ok (.iload 5, 2) := by decide +kernel
theorem dX3_score_2 : decode cX3_score 2 = .ok (.ifCond .gt 5, 3) := by decide +kernel
theorem dX3_score_5 : decode cX3_score 5 = .ok (.iconst 0, 1) := by decide +kernel
theorem dX3_score_6 : decode cX3_score 6 = .ok (.ireturn, 1) := by decide +kernel
theorem dX3_score_7 : decode cX3_score 7 = .ok (.lload_n 1, 1) := by decide +kernel
theorem dX3_score_8 : decode cX3_score 8 = .ok (.lload_n 3, 1) := by decide +kernel
theorem dX3_score_9 : decode cX3_score 9 = .ok (.lor, 1) := by decide +kernel
theorem dX3_score_10 : decode cX3_score 10 = .ok (.lstore 8, 2) := by decide +kernel
theorem dX3_score_12 : decode cX3_score 12 = .ok (.aload_n 0, 1) := by decide +kernel
theorem dX3_score_13 : decode cX3_score 13 = .ok (.getfield 16, 3) := by decide +kernel
theorem dX3_score_16 : decode cX3_score 16 = .ok (.lload 8, 2) := by decide +kernel
theorem dX3_score_18 : decode cX3_score 18 = .ok (.invokevirtual 33, 3) := by decide +kernel
theorem dX3_score_21 : decode cX3_score 21 = .ok (.lstore 10, 2) := by decide +kernel
theorem dX3_score_23 : decode cX3_score 23 = .ok (.aload_n 0, 1) := by decide +kernel
theorem dX3_score_24 : decode cX3_score 24 = .ok (.getfield 16, 3) := by decide +kernel
theorem dX3_score_27 : decode cX3_score 27 = .ok (.lload_n 1, 1) := by decide +kernel
theorem dX3_score_28 : decode cX3_score 28 = .ok (.lload 8, 2) := by decide +kernel
theorem dX3_score_30 : decode cX3_score 30 = .ok (.invokevirtual 37, 3) := by decide +kernel
theorem dX3_score_33 : decode cX3_score 33 = .ok (.lload 10, 2) := by decide +kernel
theorem dX3_score_35 : decode cX3_score 35 = .ok (.land, 1) := by decide +kernel
theorem dX3_score_36 : decode cX3_score 36 = .ok (.lconst 0, 1) := by decide +kernel
theorem dX3_score_37 : decode cX3_score 37 = .ok (.lcmp, 1) := by decide +kernel
theorem dX3_score_38 : decode cX3_score 38 = .ok (.ifCond .eq 6, 3) := by decide +kernel
theorem dX3_score_41 : decode cX3_score 41 = .ok (.iload 5, 2) := by decide +kernel
theorem dX3_score_43 : decode cX3_score 43 = .ok (.ireturn, 1) := by decide +kernel
theorem dX3_score_44 : decode cX3_score 44 = .ok (.lload 10, 2) := by decide +kernel
theorem dX3_score_46 : decode cX3_score 46 = .ok (.aload_n 0, 1) := by decide +kernel
theorem dX3_score_47 : decode cX3_score 47 = .ok (.getfield 16, 3) := by decide +kernel
theorem dX3_score_50 : decode cX3_score 50 = .ok (.lload_n 3, 1) := by decide +kernel
theorem dX3_score_51 : decode cX3_score 51 = .ok (.lload 8, 2) := by decide +kernel
theorem dX3_score_53 : decode cX3_score 53 = .ok (.invokevirtual 37, 3) := by decide +kernel
theorem dX3_score_56 : decode cX3_score 56 = .ok (.invokestatic 41, 3) := by decide +kernel
theorem dX3_score_59 : decode cX3_score 59 = .ok (.lstore 12, 2) := by decide +kernel
theorem dX3_score_61 : decode cX3_score 61 = .ok (.lload 12, 2) := by decide +kernel
theorem dX3_score_63 : decode cX3_score 63 = .ok (.lconst 0, 1) := by decide +kernel
theorem dX3_score_64 : decode cX3_score 64 = .ok (.lcmp, 1) := by decide +kernel
theorem dX3_score_65 : decode cX3_score 65 = .ok (.ifCond .ne 8, 3) := by decide +kernel
theorem dX3_score_68 : decode cX3_score 68 = .ok (.iconst 1, 1) := by decide +kernel
theorem dX3_score_69 : decode cX3_score 69 = .ok (.iload 5, 2) := by decide +kernel
theorem dX3_score_71 : decode cX3_score 71 = .ok (.isub, 1) := by decide +kernel
theorem dX3_score_72 : decode cX3_score 72 = .ok (.ireturn, 1) := by decide +kernel
theorem dX3_score_73 : decode cX3_score 73 = .ok (.iload 5, 2) := by decide +kernel
theorem dX3_score_75 : decode cX3_score 75 = .ok (.iconst 2, 1) := by decide +kernel
theorem dX3_score_76 : decode cX3_score 76 = .ok (.if_icmp .gt 5, 3) := by decide +kernel
theorem dX3_score_79 : decode cX3_score 79 = .ok (.iconst 0, 1) := by decide +kernel
theorem dX3_score_80 : decode cX3_score 80 = .ok (.ireturn, 1) := by decide +kernel
theorem dX3_score_81 : decode cX3_score 81 = .ok (.aload_n 0, 1) := by decide +kernel
theorem dX3_score_82 : decode cX3_score 82 = .ok (.lload_n 1, 1) := by decide +kernel
theorem dX3_score_83 : decode cX3_score 83 = .ok (.lload_n 3, 1) := by decide +kernel
theorem dX3_score_84 : decode cX3_score 84 = .ok (.lload 12, 2) := by decide +kernel
theorem dX3_score_86 : decode cX3_score 86 = .ok (.iload 5, 2) := by decide +kernel
theorem dX3_score_88 : decode cX3_score 88 = .ok (.iload 6, 2) := by decide +kernel
theorem dX3_score_90 : decode cX3_score 90 = .ok (.iload 7, 2) := by decide +kernel
theorem dX3_score_92 : decode cX3_score 92 = .ok (.invokevirtual 44, 3) := by decide +kernel
theorem dX3_score_95 : decode cX3_score 95 = .ok (.ireturn, 1) := by decide +kernel
theorem dX3_safeMoves_0 : decode cX3_safeMoves 0 = .ok (.lload_n 0, 1) := by decide +kernel
theorem dX3_safeMoves_1 : decode cX3_safeMoves 1 = .ok (.lload_n 2, 1) := by decide +kernel
theorem dX3_safeMoves_2 : decode cX3_safeMoves 2 = .ok (.land, 1) := by decide +kernel
theorem dX3_safeMoves_3 : decode cX3_safeMoves 3 = .ok (.lstore 4, 2) := by decide +kernel
theorem dX3_safeMoves_5 : decode cX3_safeMoves 5 = .ok (.lload 4, 2) := by decide +kernel
theorem dX3_safeMoves_7 : decode cX3_safeMoves 7 = .ok (.invokestatic 48, 3) := by decide +kernel
theorem dX3_safeMoves_10 : decode cX3_safeMoves 10 = .ok (.iconst 1, 1) := by decide +kernel
theorem dX3_safeMoves_11 : decode cX3_safeMoves 11 = .ok (.if_icmp .le 5, 3) := by decide +kernel
theorem dX3_safeMoves_14 : decode cX3_safeMoves 14 = .ok (.lconst 0, 1) := by decide +kernel
theorem dX3_safeMoves_15 : decode cX3_safeMoves 15 = .ok (.lreturn, 1) := by decide +kernel
theorem dX3_safeMoves_16 : decode cX3_safeMoves 16 = .ok (.lload 4, 2) := by decide +kernel
theorem dX3_safeMoves_18 : decode cX3_safeMoves 18 = .ok (.lconst 0, 1) := by decide +kernel
theorem dX3_safeMoves_19 : decode cX3_safeMoves 19 = .ok (.lcmp, 1) := by decide +kernel
theorem dX3_safeMoves_20 : decode cX3_safeMoves 20 = .ok (.ifCond .ne 7, 3) := by decide +kernel
theorem dX3_safeMoves_23 : decode cX3_safeMoves 23 = .ok (.lload_n 0, 1) := by decide +kernel
theorem dX3_safeMoves_24 : decode cX3_safeMoves 24 = .ok (.goto 5, 3) := by decide +kernel
theorem dX3_safeMoves_27 : decode cX3_safeMoves 27 = .ok (.lload 4, 2) := by decide +kernel
theorem dX3_safeMoves_29 : decode cX3_safeMoves 29 = .ok (.lstore 6, 2) := by decide +kernel
theorem dX3_safeMoves_31 : decode cX3_safeMoves 31 = .ok (.lload 6, 2) := by decide +kernel
theorem dX3_safeMoves_33 : decode cX3_safeMoves 33 = .ok (.lload_n 2, 1) := by decide +kernel
theorem dX3_safeMoves_34 : decode cX3_safeMoves 34 = .ok (.iconst 1, 1) := by decide +kernel
theorem dX3_safeMoves_35 : decode cX3_safeMoves 35 = .ok (.lushr, 1) := by decide +kernel
theorem dX3_safeMoves_36 : decode cX3_safeMoves 36 = .ok (.ldc2_w 54, 3) := by decide +kernel
theorem dX3_safeMoves_39 : decode cX3_safeMoves 39 = .ok (.lxor, 1) := by decide +kernel
theorem dX3_safeMoves_40 : decode cX3_safeMoves 40 = .ok (.land, 1) := by decide +kernel
theorem dX3_safeMoves_41 : decode cX3_safeMoves 41 = .ok (.lreturn, 1) := by decide +kernel
theorem dX3_remembered_0 : decode cX3_remembered 0 = .ok (.lload_n 1, 1) := by decide +kernel
theorem dX3_remembered_1 : decode cX3_remembered 1 = .ok (.lload_n 3, 1) := by decide +kernel
theorem dX3_remembered_2 : decode cX3_remembered 2 = .ok (.lor, 1) := by decide +kernel
theorem dX3_remembered_3 : decode cX3_remembered 3 = .ok (.aload_n 0, 1) := by decide +kernel
theorem dX3_remembered_4 : decode cX3_remembered 4 = .ok (.getfield 16, 3) := by decide +kernel
theorem dX3_remembered_7 : decode cX3_remembered 7 = .ok (.getfield 56, 3) := by decide +kernel
theorem dX3_remembered_10 : decode cX3_remembered 10 = .ok (.ladd, 1) := by decide +kernel
theorem dX3_remembered_11 : decode cX3_remembered 11 = .ok (.lload_n 1, 1) := by decide +kernel
theorem dX3_remembered_12 : decode cX3_remembered 12 = .ok (.lor, 1) := by decide +kernel
theorem dX3_remembered_13 : decode cX3_remembered 13 = .ok (.lstore 10, 2) := by decide +kernel
theorem dX3_remembered_15 : decode cX3_remembered 15 = .ok (.aload_n 0, 1) := by decide +kernel
theorem dX3_remembered_16 : decode cX3_remembered 16 = .ok (.getfield 10, 3) := by decide +kernel
theorem dX3_remembered_19 : decode cX3_remembered 19 = .ok (.lload 10, 2) := by decide +kernel
theorem dX3_remembered_21 : decode cX3_remembered 21 = .ok (.invokevirtual 60, 3) := by decide +kernel
theorem dX3_remembered_24 : decode cX3_remembered 24 = .ok (.istore 12, 2) := by decide +kernel
theorem dX3_remembered_26 : decode cX3_remembered 26 = .ok (.iload 12, 2) := by decide +kernel
theorem dX3_remembered_28 : decode cX3_remembered 28 = .ok (.ifCond .eq 15, 3) := by decide +kernel
theorem dX3_remembered_31 : decode cX3_remembered 31 = .ok (.aload_n 0, 1) := by decide +kernel
theorem dX3_remembered_32 : decode cX3_remembered 32 = .ok (.getfield 10, 3) := by decide +kernel
theorem dX3_remembered_35 : decode cX3_remembered 35 = .ok (.lload 10, 2) := by decide +kernel
theorem dX3_remembered_37 : decode cX3_remembered 37 = .ok (.invokevirtual 64, 3) := by decide +kernel
theorem dX3_remembered_40 : decode cX3_remembered 40 = .ok (.goto 10, 3) := by decide +kernel
theorem dX3_remembered_43 : decode cX3_remembered 43 = .ok (.aload_n 0, 1) := by decide +kernel
theorem dX3_remembered_44 : decode cX3_remembered 44 = .ok (.lload_n 1, 1) := by decide +kernel
theorem dX3_remembered_45 : decode cX3_remembered 45 = .ok (.iload 7, 2) := by decide +kernel
theorem dX3_remembered_47 : decode cX3_remembered 47 = .ok (.invokevirtual 67, 3) := by decide +kernel
theorem dX3_remembered_50 : decode cX3_remembered 50 = .ok (.istore 13, 2) := by decide +kernel
theorem dX3_remembered_52 : decode cX3_remembered 52 = .ok (.iload 12, 2) := by decide +kernel
theorem dX3_remembered_54 : decode cX3_remembered 54 = .ok (.ifCond .eq 15, 3) := by decide +kernel
theorem dX3_remembered_57 : decode cX3_remembered 57 = .ok (.aload_n 0, 1) := by decide +kernel
theorem dX3_remembered_58 : decode cX3_remembered 58 = .ok (.getfield 10, 3) := by decide +kernel
theorem dX3_remembered_61 : decode cX3_remembered 61 = .ok (.lload 10, 2) := by decide +kernel
theorem dX3_remembered_63 : decode cX3_remembered 63 = .ok (.invokevirtual 71, 3) := by decide +kernel
theorem dX3_remembered_66 : decode cX3_remembered 66 = .ok (.goto 10, 3) := by decide +kernel
theorem dX3_remembered_69 : decode cX3_remembered 69 = .ok (.aload_n 0, 1) := by decide +kernel
theorem dX3_remembered_70 : decode cX3_remembered 70 = .ok (.lload_n 3, 1) := by decide +kernel
theorem dX3_remembered_71 : decode cX3_remembered 71 = .ok (.iload 7, 2) := by decide +kernel
theorem dX3_remembered_73 : decode cX3_remembered 73 = .ok (.invokevirtual 74, 3) := by decide +kernel
theorem dX3_remembered_76 : decode cX3_remembered 76 = .ok (.istore 14, 2) := by decide +kernel
theorem dX3_remembered_78 : decode cX3_remembered 78 = .ok (.iload 13, 2) := by decide +kernel
theorem dX3_remembered_80 : decode cX3_remembered 80 = .ok (.iload 9, 2) := by decide +kernel
theorem dX3_remembered_82 : decode cX3_remembered 82 = .ok (.if_icmp .ge 10, 3) := by decide +kernel
theorem dX3_remembered_85 : decode cX3_remembered 85 = .ok (.iload 13, 2) := by decide +kernel
theorem dX3_remembered_87 : decode cX3_remembered 87 = .ok (.iload 14, 2) := by decide +kernel
theorem dX3_remembered_89 : decode cX3_remembered 89 = .ok (.if_icmp .lt 6, 3) := by decide +kernel
theorem dX3_remembered_92 : decode cX3_remembered 92 = .ok (.iload 13, 2) := by decide +kernel
theorem dX3_remembered_94 : decode cX3_remembered 94 = .ok (.ireturn, 1) := by decide +kernel
theorem dX3_remembered_95 : decode cX3_remembered 95 = .ok (.iload 14, 2) := by decide +kernel
theorem dX3_remembered_97 : decode cX3_remembered 97 = .ok (.iload 8, 2) := by decide +kernel
theorem dX3_remembered_99 : decode cX3_remembered 99 = .ok (.if_icmp .gt 6, 3) := by decide +kernel
theorem dX3_remembered_102 : decode cX3_remembered 102 = .ok (.iload 14, 2) := by decide +kernel
theorem dX3_remembered_104 : decode cX3_remembered 104 = .ok (.ireturn, 1) := by decide +kernel
theorem dX3_remembered_105 : decode cX3_remembered 105 = .ok (.iload 8, 2) := by decide +kernel
theorem dX3_remembered_107 : decode cX3_remembered 107 = .ok (.iload 13, 2) := by decide +kernel
theorem dX3_remembered_109 : decode cX3_remembered 109 = .ok (.invokestatic 77, 3) := by decide +kernel
theorem dX3_remembered_112 : decode cX3_remembered 112 = .ok (.istore 15, 2) := by decide +kernel
theorem dX3_remembered_114 : decode cX3_remembered 114 = .ok (.iload 9, 2) := by decide +kernel
theorem dX3_remembered_116 : decode cX3_remembered 116 = .ok (.iload 14, 2) := by decide +kernel
theorem dX3_remembered_118 : decode cX3_remembered 118 = .ok (.invokestatic 83, 3) := by decide +kernel
theorem dX3_remembered_121 : decode cX3_remembered 121 = .ok (.istore 16, 2) := by decide +kernel
theorem dX3_remembered_123 : decode cX3_remembered 123 = .ok (.aload_n 0, 1) := by decide +kernel
theorem dX3_remembered_124 : decode cX3_remembered 124 = .ok (.lload_n 1, 1) := by decide +kernel
theorem dX3_remembered_125 : decode cX3_remembered 125 = .ok (.lload_n 3, 1) := by decide +kernel
theorem dX3_remembered_126 : decode cX3_remembered 126 = .ok (.lload 5, 2) := by decide +kernel
theorem dX3_remembered_128 : decode cX3_remembered 128 = .ok (.iload 7, 2) := by decide +kernel
theorem dX3_remembered_130 : decode cX3_remembered 130 = .ok (.iload 15, 2) := by decide +kernel
theorem dX3_remembered_132 : decode cX3_remembered 132 = .ok (.iload 16, 2) := by decide +kernel
theorem dX3_remembered_134 : decode cX3_remembered 134 = .ok (.invokevirtual 86, 3) := by decide +kernel
theorem dX3_remembered_137 : decode cX3_remembered 137 = .ok (.istore 17, 2) := by decide +kernel
theorem dX3_remembered_139 : decode cX3_remembered 139 = .ok (.aload_n 0, 1) := by decide +kernel
theorem dX3_remembered_140 : decode cX3_remembered 140 = .ok (.getfield 10, 3) := by decide +kernel
theorem dX3_remembered_143 : decode cX3_remembered 143 = .ok (.lload 10, 2) := by decide +kernel
theorem dX3_remembered_145 : decode cX3_remembered 145 = .ok (.iload 17, 2) := by decide +kernel
theorem dX3_remembered_147 : decode cX3_remembered 147 = .ok (.iload 15, 2) := by decide +kernel
theorem dX3_remembered_149 : decode cX3_remembered 149 = .ok (.if_icmp .le 8, 3) := by decide +kernel
theorem dX3_remembered_152 : decode cX3_remembered 152 = .ok (.iload 17, 2) := by decide +kernel
theorem dX3_remembered_154 : decode cX3_remembered 154 = .ok (.goto 5, 3) := by decide +kernel
theorem dX3_remembered_157 : decode cX3_remembered 157 = .ok (.iload 13, 2) := by decide +kernel
theorem dX3_remembered_159 : decode cX3_remembered 159 = .ok (.iload 17, 2) := by decide +kernel
theorem dX3_remembered_161 : decode cX3_remembered 161 = .ok (.iload 16, 2) := by decide +kernel
theorem dX3_remembered_163 : decode cX3_remembered 163 = .ok (.if_icmp .ge 8, 3) := by decide +kernel
theorem dX3_remembered_166 : decode cX3_remembered 166 = .ok (.iload 17, 2) := by decide +kernel
theorem dX3_remembered_168 : decode cX3_remembered 168 = .ok (.goto 5, 3) := by decide +kernel
theorem dX3_remembered_171 : decode cX3_remembered 171 = .ok (.iload 14, 2) := by decide +kernel
theorem dX3_remembered_173 : decode cX3_remembered 173 = .ok (.invokevirtual 89, 3) := by decide +kernel
theorem dX3_remembered_176 : decode cX3_remembered 176 = .ok (.iload 17, 2) := by decide +kernel
theorem dX3_remembered_178 : decode cX3_remembered 178 = .ok (.ireturn, 1) := by decide +kernel
theorem dX3_leastAtFirst_0 : decode cX3_leastAtFirst 0 = .ok (.aload_n 0, 1) := by decide +kernel
theorem dX3_leastAtFirst_1 : decode cX3_leastAtFirst 1 = .ok (.getfield 16, 3) := by decide +kernel
theorem dX3_leastAtFirst_4 : decode cX3_leastAtFirst 4 = .ok (.aload_n 0, 1) := by decide +kernel
theorem dX3_leastAtFirst_5 : decode cX3_leastAtFirst 5 = .ok (.getfield 16, 3) := by decide +kernel
theorem dX3_leastAtFirst_8 : decode cX3_leastAtFirst 8 = .ok (.getfield 93, 3) := by decide +kernel
theorem dX3_leastAtFirst_11 : decode cX3_leastAtFirst 11 = .ok (.lload_n 1, 1) := by decide +kernel
theorem dX3_leastAtFirst_12 : decode cX3_leastAtFirst 12 = .ok (.ldc2_w 54, 3) := by decide +kernel
theorem dX3_leastAtFirst_15 : decode cX3_leastAtFirst 15 = .ok (.lxor, 1) := by decide +kernel
theorem dX3_leastAtFirst_16 : decode cX3_leastAtFirst 16 = .ok (.land, 1) := by decide +kernel
theorem dX3_leastAtFirst_17 : decode cX3_leastAtFirst 17 = .ok (.invokevirtual 96, 3) := by decide +kernel
theorem dX3_leastAtFirst_20 : decode cX3_leastAtFirst 20 = .ok (.ifCond .eq 9, 3) := by decide +kernel
theorem dX3_leastAtFirst_23 : decode cX3_leastAtFirst 23 = .ok (.iconst 3, 1) := by decide +kernel
theorem dX3_leastAtFirst_24 : decode cX3_leastAtFirst 24 = .ok (.iload_n 3, 1) := by decide +kernel
theorem dX3_leastAtFirst_25 : decode cX3_leastAtFirst 25 = .ok (.isub, 1) := by decide +kernel
theorem dX3_leastAtFirst_26 : decode cX3_leastAtFirst 26 = .ok (.goto 4, 3) := by decide +kernel
theorem dX3_leastAtFirst_29 : decode cX3_leastAtFirst 29 = .ok (.iconst 0, 1) := by decide +kernel
theorem dX3_leastAtFirst_30 : decode cX3_leastAtFirst 30 = .ok (.ireturn, 1) := by decide +kernel
theorem dX3_mostAtFirst_0 : decode cX3_mostAtFirst 0 = .ok (.aload_n 0, 1) := by decide +kernel
theorem dX3_mostAtFirst_1 : decode cX3_mostAtFirst 1 = .ok (.getfield 16, 3) := by decide +kernel
theorem dX3_mostAtFirst_4 : decode cX3_mostAtFirst 4 = .ok (.aload_n 0, 1) := by decide +kernel
theorem dX3_mostAtFirst_5 : decode cX3_mostAtFirst 5 = .ok (.getfield 16, 3) := by decide +kernel
theorem dX3_mostAtFirst_8 : decode cX3_mostAtFirst 8 = .ok (.getfield 93, 3) := by decide +kernel
theorem dX3_mostAtFirst_11 : decode cX3_mostAtFirst 11 = .ok (.lload_n 1, 1) := by decide +kernel
theorem dX3_mostAtFirst_12 : decode cX3_mostAtFirst 12 = .ok (.ldc2_w 54, 3) := by decide +kernel
theorem dX3_mostAtFirst_15 : decode cX3_mostAtFirst 15 = .ok (.lxor, 1) := by decide +kernel
theorem dX3_mostAtFirst_16 : decode cX3_mostAtFirst 16 = .ok (.land, 1) := by decide +kernel
theorem dX3_mostAtFirst_17 : decode cX3_mostAtFirst 17 = .ok (.invokevirtual 96, 3) := by decide +kernel
theorem dX3_mostAtFirst_20 : decode cX3_mostAtFirst 20 = .ok (.ifCond .eq 9, 3) := by decide +kernel
theorem dX3_mostAtFirst_23 : decode cX3_mostAtFirst 23 = .ok (.iload_n 3, 1) := by decide +kernel
theorem dX3_mostAtFirst_24 : decode cX3_mostAtFirst 24 = .ok (.iconst 2, 1) := by decide +kernel
theorem dX3_mostAtFirst_25 : decode cX3_mostAtFirst 25 = .ok (.isub, 1) := by decide +kernel
theorem dX3_mostAtFirst_26 : decode cX3_mostAtFirst 26 = .ok (.goto 4, 3) := by decide +kernel
theorem dX3_mostAtFirst_29 : decode cX3_mostAtFirst 29 = .ok (.iconst 0, 1) := by decide +kernel
theorem dX3_mostAtFirst_30 : decode cX3_mostAtFirst 30 = .ok (.ireturn, 1) := by decide +kernel
theorem dX3_tried_0 : decode cX3_tried 0 = .ok (.iload 8, 2) := by decide +kernel
theorem dX3_tried_2 : decode cX3_tried 2 = .ok (.istore 10, 2) := by decide +kernel
theorem dX3_tried_4 : decode cX3_tried 4 = .ok (.iconst 0, 1) := by decide +kernel
theorem dX3_tried_5 : decode cX3_tried 5 = .ok (.istore 11, 2) := by decide +kernel
theorem dX3_tried_7 : decode cX3_tried 7 = .ok (.iload 11, 2) := by decide +kernel
theorem dX3_tried_9 : decode cX3_tried 9 = .ok (.aload_n 0, 1) := by decide +kernel
theorem dX3_tried_10 : decode cX3_tried 10 = .ok (.getfield 16, 3) := by decide +kernel
theorem dX3_tried_13 : decode cX3_tried 13 = .ok (.getfield 20, 3) := by decide +kernel
theorem dX3_tried_16 : decode cX3_tried 16 = .ok (.if_icmp .ge 66, 3) := by decide +kernel
theorem dX3_tried_19 : decode cX3_tried 19 = .ok (.iload 10, 2) := by decide +kernel
theorem dX3_tried_21 : decode cX3_tried 21 = .ok (.iload 9, 2) := by decide +kernel
theorem dX3_tried_23 : decode cX3_tried 23 = .ok (.if_icmp .ge 59, 3) := by decide +kernel
theorem dX3_tried_26 : decode cX3_tried 26 = .ok (.lload 5, 2) := by decide +kernel
theorem dX3_tried_28 : decode cX3_tried 28 = .ok (.aload_n 0, 1) := by decide +kernel
theorem dX3_tried_29 : decode cX3_tried 29 = .ok (.getfield 26, 3) := by decide +kernel
theorem dX3_tried_32 : decode cX3_tried 32 = .ok (.iload 11, 2) := by decide +kernel
theorem dX3_tried_34 : decode cX3_tried 34 = .ok (.laload, 1) := by decide +kernel
theorem dX3_tried_35 : decode cX3_tried 35 = .ok (.land, 1) := by decide +kernel
theorem dX3_tried_36 : decode cX3_tried 36 = .ok (.lstore 12, 2) := by decide +kernel
theorem dX3_tried_38 : decode cX3_tried 38 = .ok (.lload 12, 2) := by decide +kernel
theorem dX3_tried_40 : decode cX3_tried 40 = .ok (.lconst 0, 1) := by decide +kernel
theorem dX3_tried_41 : decode cX3_tried 41 = .ok (.lcmp, 1) := by decide +kernel
theorem dX3_tried_42 : decode cX3_tried 42 = .ok (.ifCond .eq 34, 3) := by decide +kernel
theorem dX3_tried_45 : decode cX3_tried 45 = .ok (.aload_n 0, 1) := by decide +kernel
theorem dX3_tried_46 : decode cX3_tried 46 = .ok (.lload_n 3, 1) := by decide +kernel
theorem dX3_tried_47 : decode cX3_tried 47 = .ok (.lload_n 1, 1) := by decide +kernel
theorem dX3_tried_48 : decode cX3_tried 48 = .ok (.lload 12, 2) := by decide +kernel
theorem dX3_tried_50 : decode cX3_tried 50 = .ok (.lor, 1) := by decide +kernel
theorem dX3_tried_51 : decode cX3_tried 51 = .ok (.iload 7, 2) := by decide +kernel
theorem dX3_tried_53 : decode cX3_tried 53 = .ok (.iconst 1, 1) := by decide +kernel
theorem dX3_tried_54 : decode cX3_tried 54 = .ok (.isub, 1) := by decide +kernel
theorem dX3_tried_55 : decode cX3_tried 55 = .ok (.iload 9, 2) := by decide +kernel
theorem dX3_tried_57 : decode cX3_tried 57 = .ok (.ineg, 1) := by decide +kernel
theorem dX3_tried_58 : decode cX3_tried 58 = .ok (.iload 10, 2) := by decide +kernel
theorem dX3_tried_60 : decode cX3_tried 60 = .ok (.ineg, 1) := by decide +kernel
theorem dX3_tried_61 : decode cX3_tried 61 = .ok (.invokevirtual 99, 3) := by decide +kernel
theorem dX3_tried_64 : decode cX3_tried 64 = .ok (.ineg, 1) := by decide +kernel
theorem dX3_tried_65 : decode cX3_tried 65 = .ok (.istore 14, 2) := by decide +kernel
theorem dX3_tried_67 : decode cX3_tried 67 = .ok (.iload 10, 2) := by decide +kernel
theorem dX3_tried_69 : decode cX3_tried 69 = .ok (.iload 14, 2) := by decide +kernel
theorem dX3_tried_71 : decode cX3_tried 71 = .ok (.invokestatic 77, 3) := by decide +kernel
theorem dX3_tried_74 : decode cX3_tried 74 = .ok (.istore 10, 2) := by decide +kernel
theorem dX3_tried_76 : decode cX3_tried 76 = .ok (.iinc 11 1, 3) := by decide +kernel
theorem dX3_tried_79 : decode cX3_tried 79 = .ok (.goto (-72), 3) := by decide +kernel
theorem dX3_tried_82 : decode cX3_tried 82 = .ok (.iload 10, 2) := by decide +kernel
theorem dX3_tried_84 : decode cX3_tried 84 = .ok (.iload 9, 2) := by decide +kernel
theorem dX3_tried_86 : decode cX3_tried 86 = .ok (.invokestatic 83, 3) := by decide +kernel
theorem dX3_tried_89 : decode cX3_tried 89 = .ok (.ireturn, 1) := by decide +kernel
