theorem dX1_init_0 : decode cX1_init 0 = .ok (.aload_n 0, 1) := by decide +kernel
theorem dX1_init_1 : decode cX1_init 1 = .ok (.invokespecial 1, 3) := by decide +kernel
theorem dX1_init_4 : decode cX1_init 4 = .ok (.aload_n 0, 1) := by decide +kernel
theorem dX1_init_5 : decode cX1_init 5 = .ok (.iload_n 1, 1) := by decide +kernel
theorem dX1_init_6 : decode cX1_init 6 = .ok (.putfield 7, 3) := by decide +kernel
theorem dX1_init_9 : decode cX1_init 9 = .ok (.aload_n 0, 1) := by decide +kernel
theorem dX1_init_10 : decode cX1_init 10 = .ok (.iload_n 2, 1) := by decide +kernel
theorem dX1_init_11 : decode cX1_init 11 = .ok (.putfield 13, 3) := by decide +kernel
theorem dX1_init_14 : decode cX1_init 14 = .ok (.aload_n 0, 1) := by decide +kernel
theorem dX1_init_15 : decode cX1_init 15 = .ok (.iconst 4, 1) := by decide +kernel
theorem dX1_init_16 : decode cX1_init 16 = .ok (.newarray .int, 2) := by decide +kernel
theorem dX1_init_18 : decode cX1_init 18 = .ok (.dup, 1) := by decide +kernel
theorem dX1_init_19 : decode cX1_init 19 = .ok (.iconst 0, 1) := by decide +kernel
theorem dX1_init_20 : decode cX1_init 20 = .ok (.iconst 1, 1) := by decide +kernel
theorem dX1_init_21 : decode cX1_init 21 = .ok (.iastore, 1) := by decide +kernel
theorem dX1_init_22 : decode cX1_init 22 = .ok (.dup, 1) := by decide +kernel
theorem dX1_init_23 : decode cX1_init 23 = .ok (.iconst 1, 1) := by decide +kernel
theorem dX1_init_24 : decode cX1_init 24 = .ok (.iload_n 2, 1) := by decide +kernel
theorem dX1_init_25 : decode cX1_init 25 = .ok (.iastore, 1) := by decide +kernel
theorem dX1_init_26 : decode cX1_init 26 = .ok (.dup, 1) := by decide +kernel
theorem dX1_init_27 : decode cX1_init 27 = .ok (.iconst 2, 1) := by decide +kernel
theorem dX1_init_28 : decode cX1_init 28 = .ok (.iload_n 2, 1) := by decide +kernel
theorem dX1_init_29 : decode cX1_init 29 = .ok (.iconst 1, 1) := by decide +kernel
theorem dX1_init_30 : decode cX1_init 30 = .ok (.iadd, 1) := by decide +kernel
theorem dX1_init_31 : decode cX1_init 31 = .ok (.iastore, 1) := by decide +kernel
theorem dX1_init_32 : decode cX1_init 32 = .ok (.dup, 1) := by decide +kernel
theorem dX1_init_33 : decode cX1_init 33 = .ok (.iconst 3, 1) := by decide +kernel
theorem dX1_init_34 : decode cX1_init 34 = .ok (.iload_n 2, 1) := by decide +kernel
theorem dX1_init_35 : decode cX1_init 35 = .ok (.iconst 2, 1) := by decide +kernel
theorem dX1_init_36 : decode cX1_init 36 = .ok (.iadd, 1) := by decide +kernel
theorem dX1_init_37 : decode cX1_init 37 = .ok (.iastore, 1) := by decide +kernel
theorem dX1_init_38 : decode cX1_init 38 = .ok (.putfield 16, 3) := by decide +kernel
theorem dX1_init_41 : decode cX1_init 41 = .ok (.aload_n 0, 1) := by decide +kernel
theorem dX1_init_42 : decode cX1_init 42 = .ok (.iload_n 1, 1) := by decide +kernel
theorem dX1_init_43 : decode cX1_init 43 = .ok (.newarray .long, 2) := by decide +kernel
theorem dX1_init_45 : decode cX1_init 45 = .ok (.putfield 20, 3) := by decide +kernel
theorem dX1_init_48 : decode cX1_init 48 = .ok (.lconst 0, 1) := by decide +kernel
theorem dX1_init_49 : decode cX1_init 49 = .ok (.lstore_n 3, 1) := by decide +kernel
theorem dX1_init_50 : decode cX1_init 50 = .ok (.lconst 0, 1) := by decide +kernel
theorem dX1_init_51 : decode cX1_init 51 = .ok (.lstore 5, 2) := by decide +kernel
theorem dX1_init_53 : decode cX1_init 53 = .ok (.iconst 0, 1) := by decide +kernel
theorem dX1_init_54 : decode cX1_init 54 = .ok (.istore 7, 2) := by decide +kernel
theorem dX1_init_56 : decode cX1_init 56 = .ok (.iload 7, 2) := by decide +kernel
theorem dX1_init_58 : decode cX1_init 58 = .ok (.iload_n 1, 1) := by decide +kernel
theorem dX1_init_59 : decode cX1_init 59 = .ok (.if_icmp .ge 50, 3) := by decide +kernel
theorem dX1_init_62 : decode cX1_init 62 = .ok (.lconst 1, 1) := by decide +kernel
theorem dX1_init_63 : decode cX1_init 63 = .ok (.iload 7, 2) := by decide +kernel
theorem dX1_init_65 : decode cX1_init 65 = .ok (.iload_n 2, 1) := by decide +kernel
theorem dX1_init_66 : decode cX1_init 66 = .ok (.iconst 1, 1) := by decide +kernel
theorem dX1_init_67 : decode cX1_init 67 = .ok (.iadd, 1) := by decide +kernel
theorem dX1_init_68 : decode cX1_init 68 = .ok (.imul, 1) := by decide +kernel
theorem dX1_init_69 : decode cX1_init 69 = .ok (.lshl, 1) := by decide +kernel
theorem dX1_init_70 : decode cX1_init 70 = .ok (.lstore 8, 2) := by decide +kernel
theorem dX1_init_72 : decode cX1_init 72 = .ok (.aload_n 0, 1) := by decide +kernel
theorem dX1_init_73 : decode cX1_init 73 = .ok (.getfield 20, 3) := by decide +kernel
theorem dX1_init_76 : decode cX1_init 76 = .ok (.iload 7, 2) := by decide +kernel
theorem dX1_init_78 : decode cX1_init 78 = .ok (.lload 8, 2) := by decide +kernel
theorem dX1_init_80 : decode cX1_init 80 = .ok (.iload_n 2, 1) := by decide +kernel
theorem dX1_init_81 : decode cX1_init 81 = .ok (.lshl, 1) := by decide +kernel
theorem dX1_init_82 : decode cX1_init 82 = .ok (.lload 8, 2) := by decide +kernel
theorem dX1_init_84 : decode cX1_init 84 = .ok (.lsub, 1) := by decide +kernel
theorem dX1_init_85 : decode cX1_init 85 = .ok (.lastore, 1) := by decide +kernel
theorem dX1_init_86 : decode cX1_init 86 = .ok (.lload_n 3, 1) := by decide +kernel
theorem dX1_init_87 : decode cX1_init 87 = .ok (.lload 8, 2) := by decide +kernel
theorem dX1_init_89 : decode cX1_init 89 = .ok (.lor, 1) := by decide +kernel
theorem dX1_init_90 : decode cX1_init 90 = .ok (.lstore_n 3, 1) := by decide +kernel
theorem dX1_init_91 : decode cX1_init 91 = .ok (.lload 5, 2) := by decide +kernel
theorem dX1_init_93 : decode cX1_init 93 = .ok (.aload_n 0, 1) := by decide +kernel
theorem dX1_init_94 : decode cX1_init 94 = .ok (.getfield 20, 3) := by decide +kernel
theorem dX1_init_97 : decode cX1_init 97 = .ok (.iload 7, 2) := by decide +kernel
theorem dX1_init_99 : decode cX1_init 99 = .ok (.laload, 1) := by decide +kernel
theorem dX1_init_100 : decode cX1_init 100 = .ok (.lor, 1) := by decide +kernel
theorem dX1_init_101 : decode cX1_init 101 = .ok (.lstore 5, 2) := by decide +kernel
theorem dX1_init_103 : decode cX1_init 103 = .ok (.iinc 7 1, 3) := by decide +kernel
theorem dX1_init_106 : decode cX1_init 106 = .ok (.goto (-50), 3) := by decide +kernel
theorem dX1_init_109 : decode cX1_init 109 = .ok (.aload_n 0, 1) := by decide +kernel
theorem dX1_init_110 : decode cX1_init 110 = .ok (.lload_n 3, 1) := by decide +kernel
theorem dX1_init_111 : decode cX1_init 111 = .ok (.putfield 24, 3) := by decide +kernel
theorem dX1_init_114 : decode cX1_init 114 = .ok (.aload_n 0, 1) := by decide +kernel
theorem dX1_init_115 : decode cX1_init 115 = .ok (.lload 5, 2) := by decide +kernel
theorem dX1_init_117 : decode cX1_init 117 = .ok (.putfield 28, 3) := by decide +kernel
theorem dX1_init_120 : decode cX1_init 120 = .ok (.return_, 1) := by decide +kernel
theorem dX1_square_0 : decode cX1_square 0 = .ok (.lconst 1, 1) := by decide +kernel
theorem dX1_square_1 : decode cX1_square 1 = .ok (.iload_n 1, 1) := by decide +kernel
theorem dX1_square_2 : decode cX1_square 2 = .ok (.aload_n 0, 1) := by decide +kernel
theorem dX1_square_3 : decode cX1_square 3 = .ok (.getfield 13, 3) := by decide +kernel
theorem dX1_square_6 : decode cX1_square 6 = .ok (.iconst 1, 1) := by decide +kernel
theorem dX1_square_7 : decode cX1_square 7 = .ok (.iadd, 1) := by decide +kernel
theorem dX1_square_8 : decode cX1_square 8 = .ok (.imul, 1) := by decide +kernel
theorem dX1_square_9 : decode cX1_square 9 = .ok (.iload_n 2, 1) := by decide +kernel
theorem dX1_square_10 : decode cX1_square 10 = .ok (.iadd, 1) := by decide +kernel
theorem dX1_square_11 : decode cX1_square 11 = .ok (.lshl, 1) := by decide +kernel
theorem dX1_square_12 : decode cX1_square 12 = .ok (.lreturn, 1) := by decide +kernel
theorem dX1_nextSquares_0 : decode cX1_nextSquares 0 = .ok (.lload_n 1, 1) := by decide +kernel
theorem dX1_nextSquares_1 : decode cX1_nextSquares 1 = .ok (.aload_n 0, 1) := by decide +kernel
theorem dX1_nextSquares_2 : decode cX1_nextSquares 2 = .ok (.getfield 24, 3) := by decide +kernel
theorem dX1_nextSquares_5 : decode cX1_nextSquares 5 = .ok (.ladd, 1) := by decide +kernel
theorem dX1_nextSquares_6 : decode cX1_nextSquares 6 = .ok (.aload_n 0, 1) := by decide +kernel
theorem dX1_nextSquares_7 : decode cX1_nextSquares 7 = .ok (.getfield 28, 3) := by decide +kernel
theorem dX1_nextSquares_10 : decode cX1_nextSquares 10 = .ok (.land, 1) := by decide +kernel
theorem dX1_nextSquares_11 : decode cX1_nextSquares 11 = .ok (.lreturn, 1) := by decide +kernel
theorem dX1_lineStarts_0 : decode cX1_lineStarts 0 = .ok (.lload_n 1, 1) := by decide +kernel
theorem dX1_lineStarts_1 : decode cX1_lineStarts 1 = .ok (.lload_n 1, 1) := by decide +kernel
theorem dX1_lineStarts_2 : decode cX1_lineStarts 2 = .ok (.iload_n 3, 1) := by decide +kernel
theorem dX1_lineStarts_3 : decode cX1_lineStarts 3 = .ok (.lushr, 1) := by decide +kernel
theorem dX1_lineStarts_4 : decode cX1_lineStarts 4 = .ok (.land, 1) := by decide +kernel
theorem dX1_lineStarts_5 : decode cX1_lineStarts 5 = .ok (.lstore 4, 2) := by decide +kernel
theorem dX1_lineStarts_7 : decode cX1_lineStarts 7 = .ok (.lload 4, 2) := by decide +kernel
theorem dX1_lineStarts_9 : decode cX1_lineStarts 9 = .ok (.lload 4, 2) := by decide +kernel
theorem dX1_lineStarts_11 : decode cX1_lineStarts 11 = .ok (.iconst 2, 1) := by decide +kernel
theorem dX1_lineStarts_12 : decode cX1_lineStarts 12 = .ok (.iload_n 3, 1) := by decide +kernel
theorem dX1_lineStarts_13 : decode cX1_lineStarts 13 = .ok (.imul, 1) := by decide +kernel
theorem dX1_lineStarts_14 : decode cX1_lineStarts 14 = .ok (.lushr, 1) := by decide +kernel
theorem dX1_lineStarts_15 : decode cX1_lineStarts 15 = .ok (.land, 1) := by decide +kernel
theorem dX1_lineStarts_16 : decode cX1_lineStarts 16 = .ok (.lreturn, 1) := by decide +kernel
theorem dX1_hasLine_0 : decode cX1_hasLine 0 = .ok (.aload_n 0, 1) := by decide +kernel
theorem dX1_hasLine_1 : decode cX1_hasLine 1 = .ok (.getfield 16, 3) := by decide +kernel
theorem dX1_hasLine_4 : decode cX1_hasLine 4 = .ok (.astore_n 3, 1) := by decide +kernel
theorem dX1_hasLine_5 : decode cX1_hasLine 5 = .ok (.aload_n 3, 1) := by decide +kernel
theorem dX1_hasLine_6 : decode cX1_hasLine 6 = .ok (.arraylength, 1) := by decide +kernel
theorem dX1_hasLine_7 : decode cX1_hasLine 7 = .ok (.istore 4, 2) := by decide +kernel
theorem dX1_hasLine_9 : decode cX1_hasLine 9 = .ok (.iconst 0, 1) := by decide +kernel
theorem dX1_hasLine_10 : decode cX1_hasLine 10 = .ok (.istore 5, 2) := by decide +kernel
theorem dX1_hasLine_12 : decode cX1_hasLine 12 = .ok (.iload 5, 2) := by decide +kernel
theorem dX1_hasLine_14 : decode cX1_hasLine 14 = .ok (.iload 4, 2) := by decide +kernel
theorem dX1_hasLine_16 : decode cX1_hasLine 16 = .ok (.if_icmp .ge 29, 3) := by decide +kernel
theorem dX1_hasLine_19 : decode cX1_hasLine 19 = .ok (.aload_n 3, 1) := by decide +kernel
theorem dX1_hasLine_20 : decode cX1_hasLine 20 = .ok (.iload 5, 2) := by decide +kernel
theorem dX1_hasLine_22 : decode cX1_hasLine 22 = .ok (.iaload, 1) := by decide +kernel
theorem dX1_hasLine_23 : decode cX1_hasLine 23 = .ok (.istore 6, 2) := by decide +kernel
theorem dX1_hasLine_25 : decode cX1_hasLine 25 = .ok (.aload_n 0, 1) := by decide +kernel
theorem dX1_hasLine_26 : decode cX1_hasLine 26 = .ok (.lload_n 1, 1) := by decide +kernel
theorem dX1_hasLine_27 : decode cX1_hasLine 27 = .ok (.iload 6, 2) := by decide +kernel
theorem dX1_hasLine_29 : decode cX1_hasLine 29 = .ok (.invokevirtual 31, 3) := by decide +kernel
theorem dX1_hasLine_32 : decode cX1_hasLine 32 = .ok (.lconst 0, 1) := by decide +kernel
theorem dX1_hasLine_33 : decode cX1_hasLine 33 = .ok (.lcmp, 1) := by decide +kernel
theorem dX1_hasLine_34 : decode cX1_hasLine 34 = .ok (.ifCond .eq 5, 3) := by decide +kernel
theorem dX1_hasLine_37 : decode cX1_hasLine 37 = .ok (.iconst 1, 1) := by decide +kernel
theorem dX1_hasLine_38 : decode cX1_hasLine 38 = .ok (.ireturn, 1) := by decide +kernel
theorem dX1_hasLine_39 : decode cX1_hasLine 39 = .ok (.iinc 5 1, 3) := by decide +kernel
theorem dX1_hasLine_42 : decode cX1_hasLine 42 = .ok (.goto (-30), 3) := by decide +kernel
theorem dX1_hasLine_45 : decode cX1_hasLine 45 = .ok (.iconst 0, 1) := by decide +kernel
theorem dX1_hasLine_46 : decode cX1_hasLine 46 = .ok (.ireturn, 1) := by decide +kernel
theorem dX1_countLines_0 : decode cX1_countLines 0 = .ok (.iconst 0, 1) := by decide +kernel
theorem dX1_countLines_1 : decode cX1_countLines 1 = .ok (.istore_n 3, 1) := by decide +kernel
theorem dX1_countLines_2 : decode cX1_countLines 2 = .ok (.aload_n 0, 1) := by decide +kernel
theorem dX1_countLines_3 : decode cX1_countLines 3 = .ok (.getfield 16, 3) := by decide +kernel
theorem dX1_countLines_6 : decode cX1_countLines 6 = .ok (.astore 4, 2) := by decide +kernel
theorem dX1_countLines_8 : decode cX1_countLines 8 = .ok (.aload 4, 2) := by decide +kernel
theorem dX1_countLines_10 : decode cX1_countLines 10 = .ok (.arraylength, 1) := by decide +kernel
theorem dX1_countLines_11 : decode cX1_countLines 11 = .ok (.istore 5, 2) := by decide +kernel
theorem dX1_countLines_13 : decode cX1_countLines 13 = .ok (.iconst 0, 1) := by decide +kernel
theorem dX1_countLines_14 : decode cX1_countLines 14 = .ok (.istore 6, 2) := by decide +kernel
theorem dX1_countLines_16 : decode cX1_countLines 16 = .ok (.iload 6, 2) := by decide +kernel
theorem dX1_countLines_18 : decode cX1_countLines 18 = .ok (.iload 5, 2) := by decide +kernel
theorem dX1_countLines_20 : decode cX1_countLines 20 = .ok (.if_icmp .ge 29, 3) := by decide +kernel
theorem dX1_countLines_23 : decode cX1_countLines 23 = .ok (.aload 4, 2) := by decide +kernel
theorem dX1_countLines_25 : decode cX1_countLines 25 = .ok (.iload 6, 2) := by decide +kernel
theorem dX1_countLines_27 : decode cX1_countLines 27 = .ok (.iaload, 1) := by decide +kernel
theorem dX1_countLines_28 : decode cX1_countLines 28 = .ok (.istore 7, 2) := by decide +kernel
theorem dX1_countLines_30 : decode cX1_countLines 30 = .ok (.iload_n 3, 1) := by decide +kernel
theorem dX1_countLines_31 : decode cX1_countLines 31 = .ok (.aload_n 0, 1) := by decide +kernel
theorem dX1_countLines_32 : decode cX1_countLines 32 = .ok (.lload_n 1, 1) := by decide +kernel
theorem dX1_countLines_33 : decode cX1_countLines 33 = .ok (.iload 7, 2) := by decide +kernel
theorem dX1_countLines_35 : decode cX1_countLines 35 = .ok (.invokevirtual 31, 3) := by decide +kernel
theorem dX1_countLines_38 : decode cX1_countLines 38 = .ok (.invokestatic 35, 3) := by decide +kernel
theorem dX1_countLines_41 : decode cX1_countLines 41 = .ok (.iadd, 1) := by decide +kernel
theorem dX1_countLines_42 : decode cX1_countLines 42 = .ok (.istore_n 3, 1) := by decide +kernel
theorem dX1_countLines_43 : decode cX1_countLines 43 = .ok (.iinc 6 1, 3) := by decide +kernel
theorem dX1_countLines_46 : decode cX1_countLines 46 = .ok (.goto (-30), 3) := by decide +kernel
theorem dX1_countLines_49 : decode cX1_countLines 49 = .ok (.iload_n 3, 1) := by decide +kernel
theorem dX1_countLines_50 : decode cX1_countLines 50 = .ok (.ireturn, 1) := by decide +kernel
theorem dX1_threatSquares_0 : decode cX1_threatSquares 0 = .ok (.lconst 0, 1) := by decide +kernel
theorem dX1_threatSquares_1 : decode cX1_threatSquares 1 = .ok (.lstore 5, 2) := by decide +kernel
theorem dX1_threatSquares_3 : decode cX1_threatSquares 3 = .ok (.aload_n 0, 1) := by decide +kernel
theorem dX1_threatSquares_4 : decode cX1_threatSquares 4 = .ok (.getfield 16, 3) := by decide +kernel
theorem dX1_threatSquares_7 : decode cX1_threatSquares 7 = .ok (.astore 7, 2) := by decide +kernel
theorem dX1_threatSquares_9 : decode cX1_threatSquares 9 = .ok (.aload 7, 2) := by decide +kernel
theorem dX1_threatSquares_11 : decode cX1_threatSquares 11 = .ok (.arraylength, 1) := by decide +kernel
theorem dX1_threatSquares_12 : decode cX1_threatSquares 12 = .ok (.istore 8, 2) := by decide +kernel
theorem dX1_threatSquares_14 : decode cX1_threatSquares 14 = .ok (.iconst 0, 1) := by decide +kernel
theorem dX1_threatSquares_15 : decode cX1_threatSquares 15 = .ok (.istore 9, 2) := by decide +kernel
theorem dX1_threatSquares_17 : decode cX1_threatSquares 17 = .ok (.iload 9, 2) := by decide +kernel
theorem dX1_threatSquares_19 : decode cX1_threatSquares 19 = .ok (.iload 8, 2) := by decide +kernel
theorem dX1_threatSquares_21 : decode cX1_threatSquares 21 = .ok (.if_icmp .ge 27, 3) := by decide +kernel
theorem dX1_threatSquares_24 : decode cX1_threatSquares 24 = .ok (.aload 7, 2) := by decide +kernel
theorem dX1_threatSquares_26 : decode cX1_threatSquares 26 = .ok (.iload 9, 2) := by decide +kernel
theorem dX1_threatSquares_28 : decode cX1_threatSquares 28 = .ok (.iaload, 1) := by decide +kernel
theorem dX1_threatSquares_29 : decode cX1_threatSquares 29 = .ok (.istore 10, 2) := by decide +kernel
theorem dX1_threatSquares_31 : decode cX1_threatSquares 31 = .ok (.lload 5, 2) := by decide +kernel
theorem dX1_threatSquares_33 : decode cX1_threatSquares 33 = .ok (.lload_n 1, 1) := by decide +kernel
theorem dX1_threatSquares_34 : decode cX1_threatSquares 34 = .ok (.iload 10, 2) := by decide +kernel
theorem dX1_threatSquares_36 : decode cX1_threatSquares 36 = .ok (.invokestatic 41, 3) := by decide +kernel
theorem dX1_threatSquares_39 : decode cX1_threatSquares 39 = .ok (.lor, 1) := by decide +kernel
theorem dX1_threatSquares_40 : decode cX1_threatSquares 40 = .ok (.lstore 5, 2) := by decide +kernel
theorem dX1_threatSquares_42 : decode cX1_threatSquares 42 = .ok (.iinc 9 1, 3) := by decide +kernel
theorem dX1_threatSquares_45 : decode cX1_threatSquares 45 = .ok (.goto (-28), 3) := by decide +kernel
theorem dX1_threatSquares_48 : decode cX1_threatSquares 48 = .ok (.lload 5, 2) := by decide +kernel
theorem dX1_threatSquares_50 : decode cX1_threatSquares 50 = .ok (.aload_n 0, 1) := by decide +kernel
theorem dX1_threatSquares_51 : decode cX1_threatSquares 51 = .ok (.getfield 28, 3) := by decide +kernel
theorem dX1_threatSquares_54 : decode cX1_threatSquares 54 = .ok (.land, 1) := by decide +kernel
theorem dX1_threatSquares_55 : decode cX1_threatSquares 55 = .ok (.lload_n 3, 1) := by decide +kernel
theorem dX1_threatSquares_56 : decode cX1_threatSquares 56 = .ok (.ldc2_w 44, 3) := by decide +kernel
theorem dX1_threatSquares_59 : decode cX1_threatSquares 59 = .ok (.lxor, 1) := by decide +kernel
theorem dX1_threatSquares_60 : decode cX1_threatSquares 60 = .ok (.land, 1) := by decide +kernel
theorem dX1_threatSquares_61 : decode cX1_threatSquares 61 = .ok (.lreturn, 1) := by decide +kernel
theorem dX1_completing_0 : decode cX1_completing 0 = .ok (.lload_n 0, 1) := by decide +kernel
theorem dX1_completing_1 : decode cX1_completing 1 = .ok (.iload_n 2, 1) := by decide +kernel
theorem dX1_completing_2 : decode cX1_completing 2 = .ok (.lshl, 1) := by decide +kernel
theorem dX1_completing_3 : decode cX1_completing 3 = .ok (.lstore_n 3, 1) := by decide +kernel
theorem dX1_completing_4 : decode cX1_completing 4 = .ok (.lload_n 3, 1) := by decide +kernel
theorem dX1_completing_5 : decode cX1_completing 5 = .ok (.lload_n 0, 1) := by decide +kernel
theorem dX1_completing_6 : decode cX1_completing 6 = .ok (.iconst 2, 1) := by decide +kernel
theorem dX1_completing_7 : decode cX1_completing 7 = .ok (.iload_n 2, 1) := by decide +kernel
theorem dX1_completing_8 : decode cX1_completing 8 = .ok (.imul, 1) := by decide +kernel
theorem dX1_completing_9 : decode cX1_completing 9 = .ok (.lshl, 1) := by decide +kernel
theorem dX1_completing_10 : decode cX1_completing 10 = .ok (.land, 1) := by decide +kernel
theorem dX1_completing_11 : decode cX1_completing 11 = .ok (.lstore 5, 2) := by decide +kernel
theorem dX1_completing_13 : decode cX1_completing 13 = .ok (.lload_n 0, 1) := by decide +kernel
theorem dX1_completing_14 : decode cX1_completing 14 = .ok (.iload_n 2, 1) := by decide +kernel
theorem dX1_completing_15 : decode cX1_completing 15 = .ok (.lushr, 1) := by decide +kernel
theorem dX1_completing_16 : decode cX1_completing 16 = .ok (.lstore 7, 2) := by decide +kernel
theorem dX1_completing_18 : decode cX1_completing 18 = .ok (.lload 7, 2) := by decide +kernel
theorem dX1_completing_20 : decode cX1_completing 20 = .ok (.lload_n 0, 1) := by decide +kernel
theorem dX1_completing_21 : decode cX1_completing 21 = .ok (.iconst 2, 1) := by decide +kernel
theorem dX1_completing_22 : decode cX1_completing 22 = .ok (.iload_n 2, 1) := by decide +kernel
theorem dX1_completing_23 : decode cX1_completing 23 = .ok (.imul, 1) := by decide +kernel
theorem dX1_completing_24 : decode cX1_completing 24 = .ok (.lushr, 1) := by decide +kernel
theorem dX1_completing_25 : decode cX1_completing 25 = .ok (.land, 1) := by decide +kernel
theorem dX1_completing_26 : decode cX1_completing 26 = .ok (.lstore 9, 2) := by decide +kernel
theorem dX1_completing_28 : decode cX1_completing 28 = .ok (.lload 5, 2) := by decide +kernel
theorem dX1_completing_30 : decode cX1_completing 30 = .ok (.lload_n 0, 1) := by decide +kernel
theorem dX1_completing_31 : decode cX1_completing 31 = .ok (.iconst 3, 1) := by decide +kernel
theorem dX1_completing_32 : decode cX1_completing 32 = .ok (.iload_n 2, 1) := by decide +kernel
theorem dX1_completing_33 : decode cX1_completing 33 = .ok (.imul, 1) := by decide +kernel
theorem dX1_completing_34 : decode cX1_completing 34 = .ok (.lshl, 1) := by decide +kernel
theorem dX1_completing_35 : decode cX1_completing 35 = .ok (.land, 1) := by decide +kernel
theorem dX1_completing_36 : decode cX1_completing 36 = .ok (.lload 5, 2) := by decide +kernel
theorem dX1_completing_38 : decode cX1_completing 38 = .ok (.lload 7, 2) := by decide +kernel
theorem dX1_completing_40 : decode cX1_completing 40 = .ok (.land, 1) := by decide +kernel
theorem dX1_completing_41 : decode cX1_completing 41 = .ok (.lor, 1) := by decide +kernel
theorem dX1_completing_42 : decode cX1_completing 42 = .ok (.lload_n 3, 1) := by decide +kernel
theorem dX1_completing_43 : decode cX1_completing 43 = .ok (.lload 9, 2) := by decide +kernel
theorem dX1_completing_45 : decode cX1_completing 45 = .ok (.land, 1) := by decide +kernel
theorem dX1_completing_46 : decode cX1_completing 46 = .ok (.lor, 1) := by decide +kernel
theorem dX1_completing_47 : decode cX1_completing 47 = .ok (.lload 9, 2) := by decide +kernel
theorem dX1_completing_49 : decode cX1_completing 49 = .ok (.lload_n 0, 1) := by decide +kernel
theorem dX1_completing_50 : decode cX1_completing 50 = .ok (.iconst 3, 1) := by decide +kernel
theorem dX1_completing_51 : decode cX1_completing 51 = .ok (.iload_n 2, 1) := by decide +kernel
theorem dX1_completing_52 : decode cX1_completing 52 = .ok (.imul, 1) := by decide +kernel
theorem dX1_completing_53 : decode cX1_completing 53 = .ok (.lushr, 1) := by decide +kernel
theorem dX1_completing_54 : decode cX1_completing 54 = .ok (.land, 1) := by decide +kernel
theorem dX1_completing_55 : decode cX1_completing 55 = .ok (.lor, 1) := by decide +kernel
theorem dX1_completing_56 : decode cX1_completing 56 = .ok (.lreturn, 1) := by decide +kernel
