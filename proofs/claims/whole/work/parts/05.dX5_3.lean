theorem dX5_valueOf_70 : decode cX5_valueOf 70 = .ok (.getfield 70, 3) := by decide +kernel
theorem dX5_valueOf_73 : decode cX5_valueOf 73 = .ok (.iconst 2, 1) := by decide +kernel
theorem dX5_valueOf_74 : decode cX5_valueOf 74 = .ok (.irem, 1) := by decide +kernel
theorem dX5_valueOf_75 : decode cX5_valueOf 75 = .ok (.aload_n 0, 1) := by decide +kernel
theorem dX5_valueOf_76 : decode cX5_valueOf 76 = .ok (.getfield 70, 3) := by decide +kernel
theorem dX5_valueOf_79 : decode cX5_valueOf 79 = .ok (.iconst 1, 1) := by decide +kernel
theorem dX5_valueOf_80 : decode cX5_valueOf 80 = .ok (.iadd, 1) := by decide +kernel
theorem dX5_valueOf_81 : decode cX5_valueOf 81 = .ok (.aload_n 0, 1) := by decide +kernel
theorem dX5_valueOf_82 : decode cX5_valueOf 82 = .ok (.getfield 52, 3) := by decide +kernel
theorem dX5_valueOf_85 : decode cX5_valueOf 85 = .ok (.aload_n 0, 1) := by decide +kernel
theorem dX5_valueOf_86 : decode cX5_valueOf 86 = .ok (.getfield 56, 3) := by decide +kernel
theorem dX5_valueOf_89 : decode cX5_valueOf 89 = .ok (.imul, 1) := by decide +kernel
theorem dX5_valueOf_90 : decode cX5_valueOf 90 = .ok (.if_icmp .ne 7, 3) := by decide +kernel
theorem dX5_valueOf_93 : decode cX5_valueOf 93 = .ok (.iconst 1, 1) := by decide +kernel
theorem dX5_valueOf_94 : decode cX5_valueOf 94 = .ok (.goto 4, 3) := by decide +kernel
theorem dX5_valueOf_97 : decode cX5_valueOf 97 = .ok (.iconst 0, 1) := by decide +kernel
theorem dX5_valueOf_98 : decode cX5_valueOf 98 = .ok (.invokevirtual 132, 3) := by decide +kernel
theorem dX5_valueOf_101 : decode cX5_valueOf 101 = .ok (.ireturn, 1) := by decide +kernel
theorem dX5_best_0 : decode cX5_best 0 = .ok (.aload_n 0, 1) := by decide +kernel
theorem dX5_best_1 : decode cX5_best 1 = .ok (.aload_n 0, 1) := by decide +kernel
theorem dX5_best_2 : decode cX5_best 2 = .ok (.invokevirtual 139, 3) := by decide +kernel
theorem dX5_best_5 : decode cX5_best 5 = .ok (.iconst 0, 1) := by decide +kernel
theorem dX5_best_6 : decode cX5_best 6 = .ok (.invokevirtual 81, 3) := by decide +kernel
theorem dX5_best_9 : decode cX5_best 9 = .ok (.ifCond .eq 5, 3) := by decide +kernel
theorem dX5_best_12 : decode cX5_best 12 = .ok (.iconst 0, 1) := by decide +kernel
theorem dX5_best_13 : decode cX5_best 13 = .ok (.ireturn, 1) := by decide +kernel
theorem dX5_best_14 : decode cX5_best 14 = .ok (.aload_n 0, 1) := by decide +kernel
theorem dX5_best_15 : decode cX5_best 15 = .ok (.invokevirtual 143, 3) := by decide +kernel
theorem dX5_best_18 : decode cX5_best 18 = .ok (.aload_n 0, 1) := by decide +kernel
theorem dX5_best_19 : decode cX5_best 19 = .ok (.iconst 0, 1) := by decide +kernel
theorem dX5_best_20 : decode cX5_best 20 = .ok (.invokevirtual 124, 3) := by decide +kernel
theorem dX5_best_23 : decode cX5_best 23 = .ok (.iconst (-1), 1) := by decide +kernel
theorem dX5_best_24 : decode cX5_best 24 = .ok (.istore_n 1, 1) := by decide +kernel
theorem dX5_best_25 : decode cX5_best 25 = .ok (.iconst 0, 1) := by decide +kernel
theorem dX5_best_26 : decode cX5_best 26 = .ok (.istore_n 2, 1) := by decide +kernel
theorem dX5_best_27 : decode cX5_best 27 = .ok (.iload_n 2, 1) := by decide +kernel
theorem dX5_best_28 : decode cX5_best 28 = .ok (.aload_n 0, 1) := by decide +kernel
theorem dX5_best_29 : decode cX5_best 29 = .ok (.getfield 52, 3) := by decide +kernel
theorem dX5_best_32 : decode cX5_best 32 = .ok (.if_icmp .ge 86, 3) := by decide +kernel
theorem dX5_best_35 : decode cX5_best 35 = .ok (.aload_n 0, 1) := by decide +kernel
theorem dX5_best_36 : decode cX5_best 36 = .ok (.getfield 13, 3) := by decide +kernel
theorem dX5_best_39 : decode cX5_best 39 = .ok (.iload_n 2, 1) := by decide +kernel
theorem dX5_best_40 : decode cX5_best 40 = .ok (.iaload, 1) := by decide +kernel
theorem dX5_best_41 : decode cX5_best 41 = .ok (.aload_n 0, 1) := by decide +kernel
theorem dX5_best_42 : decode cX5_best 42 = .ok (.getfield 56, 3) := by decide +kernel
theorem dX5_best_45 : decode cX5_best 45 = .ok (.if_icmp .ge 51, 3) := by decide +kernel
theorem dX5_best_48 : decode cX5_best 48 = .ok (.aload_n 0, 1) := by decide +kernel
theorem dX5_best_49 : decode cX5_best 49 = .ok (.iconst 0, 1) := by decide +kernel
theorem dX5_best_50 : decode cX5_best 50 = .ok (.iload_n 2, 1) := by decide +kernel
theorem dX5_best_51 : decode cX5_best 51 = .ok (.aload_n 0, 1) := by decide +kernel
theorem dX5_best_52 : decode cX5_best 52 = .ok (.getfield 70, 3) := by decide +kernel
theorem dX5_best_55 : decode cX5_best 55 = .ok (.iconst 2, 1) := by decide +kernel
theorem dX5_best_56 : decode cX5_best 56 = .ok (.irem, 1) := by decide +kernel
theorem dX5_best_57 : decode cX5_best 57 = .ok (.aload_n 0, 1) := by decide +kernel
theorem dX5_best_58 : decode cX5_best 58 = .ok (.getfield 70, 3) := by decide +kernel
theorem dX5_best_61 : decode cX5_best 61 = .ok (.iconst 1, 1) := by decide +kernel
theorem dX5_best_62 : decode cX5_best 62 = .ok (.iadd, 1) := by decide +kernel
theorem dX5_best_63 : decode cX5_best 63 = .ok (.aload_n 0, 1) := by decide +kernel
theorem dX5_best_64 : decode cX5_best 64 = .ok (.getfield 52, 3) := by decide +kernel
theorem dX5_best_67 : decode cX5_best 67 = .ok (.aload_n 0, 1) := by decide +kernel
theorem dX5_best_68 : decode cX5_best 68 = .ok (.getfield 56, 3) := by decide +kernel
theorem dX5_best_71 : decode cX5_best 71 = .ok (.imul, 1) := by decide +kernel
theorem dX5_best_72 : decode cX5_best 72 = .ok (.if_icmp .ne 7, 3) := by decide +kernel
theorem dX5_best_75 : decode cX5_best 75 = .ok (.iconst 1, 1) := by decide +kernel
theorem dX5_best_76 : decode cX5_best 76 = .ok (.goto 4, 3) := by decide +kernel
theorem dX5_best_79 : decode cX5_best 79 = .ok (.iconst 0, 1) := by decide +kernel
theorem dX5_best_80 : decode cX5_best 80 = .ok (.invokevirtual 132, 3) := by decide +kernel
theorem dX5_best_83 : decode cX5_best 83 = .ok (.aload_n 0, 1) := by decide +kernel
theorem dX5_best_84 : decode cX5_best 84 = .ok (.getfield 26, 3) := by decide +kernel
theorem dX5_best_87 : decode cX5_best 87 = .ok (.iconst 0, 1) := by decide +kernel
theorem dX5_best_88 : decode cX5_best 88 = .ok (.iaload, 1) := by decide +kernel
theorem dX5_best_89 : decode cX5_best 89 = .ok (.if_icmp .ne 7, 3) := by decide +kernel
theorem dX5_best_92 : decode cX5_best 92 = .ok (.iconst 1, 1) := by decide +kernel
theorem dX5_best_93 : decode cX5_best 93 = .ok (.goto 4, 3) := by decide +kernel
theorem dX5_best_96 : decode cX5_best 96 = .ok (.iconst 0, 1) := by decide +kernel
theorem dX5_best_97 : decode cX5_best 97 = .ok (.istore_n 3, 1) := by decide +kernel
theorem dX5_best_98 : decode cX5_best 98 = .ok (.iload_n 3, 1) := by decide +kernel
theorem dX5_best_99 : decode cX5_best 99 = .ok (.ifCond .eq 11, 3) := by decide +kernel
theorem dX5_best_102 : decode cX5_best 102 = .ok (.iload_n 1, 1) := by decide +kernel
theorem dX5_best_103 : decode cX5_best 103 = .ok (.ifCond .ge 7, 3) := by decide +kernel
theorem dX5_best_106 : decode cX5_best 106 = .ok (.iload_n 2, 1) := by decide +kernel
theorem dX5_best_107 : decode cX5_best 107 = .ok (.goto 4, 3) := by decide +kernel
theorem dX5_best_110 : decode cX5_best 110 = .ok (.iload_n 1, 1) := by decide +kernel
theorem dX5_best_111 : decode cX5_best 111 = .ok (.istore_n 1, 1) := by decide +kernel
theorem dX5_best_112 : decode cX5_best 112 = .ok (.iinc 2 1, 3) := by decide +kernel
theorem dX5_best_115 : decode cX5_best 115 = .ok (.goto (-88), 3) := by decide +kernel
theorem dX5_best_118 : decode cX5_best 118 = .ok (.iload_n 1, 1) := by decide +kernel
theorem dX5_best_119 : decode cX5_best 119 = .ok (.ireturn, 1) := by decide +kernel
theorem dX5_showPairs_0 : decode cX5_showPairs 0 = .ok (.iload_n 1, 1) := by decide +kernel
theorem dX5_showPairs_1 : decode cX5_showPairs 1 = .ok (.istore_n 2, 1) := by decide +kernel
theorem dX5_showPairs_2 : decode cX5_showPairs 2 = .ok (.iconst 0, 1) := by decide +kernel
theorem dX5_showPairs_3 : decode cX5_showPairs 3 = .ok (.istore_n 3, 1) := by decide +kernel
theorem dX5_showPairs_4 : decode cX5_showPairs 4 = .ok (.iload_n 3, 1) := by decide +kernel
theorem dX5_showPairs_5 : decode cX5_showPairs 5 = .ok (.bipush 63, 2) := by decide +kernel
theorem dX5_showPairs_7 : decode cX5_showPairs 7 = .ok (.if_icmp .ge 21, 3) := by decide +kernel
theorem dX5_showPairs_10 : decode cX5_showPairs 10 = .ok (.aload_n 0, 1) := by decide +kernel
theorem dX5_showPairs_11 : decode cX5_showPairs 11 = .ok (.getfield 42, 3) := by decide +kernel
theorem dX5_showPairs_14 : decode cX5_showPairs 14 = .ok (.iload_n 3, 1) := by decide +kernel
theorem dX5_showPairs_15 : decode cX5_showPairs 15 = .ok (.aload_n 0, 1) := by decide +kernel
theorem dX5_showPairs_16 : decode cX5_showPairs 16 = .ok (.getfield 7, 3) := by decide +kernel
theorem dX5_showPairs_19 : decode cX5_showPairs 19 = .ok (.iload_n 3, 1) := by decide +kernel
theorem dX5_showPairs_20 : decode cX5_showPairs 20 = .ok (.iaload, 1) := by decide +kernel
theorem dX5_showPairs_21 : decode cX5_showPairs 21 = .ok (.iastore, 1) := by decide +kernel
theorem dX5_showPairs_22 : decode cX5_showPairs 22 = .ok (.iinc 3 1, 3) := by decide +kernel
theorem dX5_showPairs_25 : decode cX5_showPairs 25 = .ok (.goto (-21), 3) := by decide +kernel
theorem dX5_showPairs_28 : decode cX5_showPairs 28 = .ok (.iconst 0, 1) := by decide +kernel
theorem dX5_showPairs_29 : decode cX5_showPairs 29 = .ok (.istore_n 3, 1) := by decide +kernel
theorem dX5_showPairs_30 : decode cX5_showPairs 30 = .ok (.iload_n 3, 1) := by decide +kernel
theorem dX5_showPairs_31 : decode cX5_showPairs 31 = .ok (.aload_n 0, 1) := by decide +kernel
theorem dX5_showPairs_32 : decode cX5_showPairs 32 = .ok (.getfield 52, 3) := by decide +kernel
theorem dX5_showPairs_35 : decode cX5_showPairs 35 = .ok (.if_icmp .ge 100, 3) := by decide +kernel
theorem dX5_showPairs_38 : decode cX5_showPairs 38 = .ok (.aload_n 0, 1) := by decide +kernel
theorem dX5_showPairs_39 : decode cX5_showPairs 39 = .ok (.getfield 56, 3) := by decide +kernel
theorem dX5_showPairs_42 : decode cX5_showPairs 42 = .ok (.aload_n 0, 1) := by decide +kernel
theorem dX5_showPairs_43 : decode cX5_showPairs 43 = .ok (.getfield 13, 3) := by decide +kernel
theorem dX5_showPairs_46 : decode cX5_showPairs 46 = .ok (.iload_n 3, 1) := by decide +kernel
theorem dX5_showPairs_47 : decode cX5_showPairs 47 = .ok (.iaload, 1) := by decide +kernel
theorem dX5_showPairs_48 : decode cX5_showPairs 48 = .ok (.isub, 1) := by decide +kernel
theorem dX5_showPairs_49 : decode cX5_showPairs 49 = .ok (.iconst 2, 1) := by decide +kernel
theorem dX5_showPairs_50 : decode cX5_showPairs 50 = .ok (.idiv, 1) := by decide +kernel
theorem dX5_showPairs_51 : decode cX5_showPairs 51 = .ok (.iconst 1, 1) := by decide +kernel
theorem dX5_showPairs_52 : decode cX5_showPairs 52 = .ok (.iadd, 1) := by decide +kernel
theorem dX5_showPairs_53 : decode cX5_showPairs 53 = .ok (.istore 4, 2) := by decide +kernel
theorem dX5_showPairs_55 : decode cX5_showPairs 55 = .ok (.iload_n 2, 1) := by decide +kernel
theorem dX5_showPairs_56 : decode cX5_showPairs 56 = .ok (.iload 4, 2) := by decide +kernel
theorem dX5_showPairs_58 : decode cX5_showPairs 58 = .ok (.irem, 1) := by decide +kernel
theorem dX5_showPairs_59 : decode cX5_showPairs 59 = .ok (.istore 5, 2) := by decide +kernel
theorem dX5_showPairs_61 : decode cX5_showPairs 61 = .ok (.iload_n 2, 1) := by decide +kernel
theorem dX5_showPairs_62 : decode cX5_showPairs 62 = .ok (.iload 4, 2) := by decide +kernel
theorem dX5_showPairs_64 : decode cX5_showPairs 64 = .ok (.idiv, 1) := by decide +kernel
theorem dX5_showPairs_65 : decode cX5_showPairs 65 = .ok (.istore_n 2, 1) := by decide +kernel
theorem dX5_showPairs_66 : decode cX5_showPairs 66 = .ok (.iconst 0, 1) := by decide +kernel
theorem dX5_showPairs_67 : decode cX5_showPairs 67 = .ok (.istore 6, 2) := by decide +kernel
theorem dX5_showPairs_69 : decode cX5_showPairs 69 = .ok (.iload 6, 2) := by decide +kernel
theorem dX5_showPairs_71 : decode cX5_showPairs 71 = .ok (.iconst 2, 1) := by decide +kernel
theorem dX5_showPairs_72 : decode cX5_showPairs 72 = .ok (.iload 5, 2) := by decide +kernel
theorem dX5_showPairs_74 : decode cX5_showPairs 74 = .ok (.imul, 1) := by decide +kernel
theorem dX5_showPairs_75 : decode cX5_showPairs 75 = .ok (.if_icmp .ge 37, 3) := by decide +kernel
theorem dX5_showPairs_78 : decode cX5_showPairs 78 = .ok (.aload_n 0, 1) := by decide +kernel
theorem dX5_showPairs_79 : decode cX5_showPairs 79 = .ok (.getfield 42, 3) := by decide +kernel
theorem dX5_showPairs_82 : decode cX5_showPairs 82 = .ok (.bipush 7, 2) := by decide +kernel
theorem dX5_showPairs_84 : decode cX5_showPairs 84 = .ok (.iload_n 3, 1) := by decide +kernel
theorem dX5_showPairs_85 : decode cX5_showPairs 85 = .ok (.imul, 1) := by decide +kernel
theorem dX5_showPairs_86 : decode cX5_showPairs 86 = .ok (.aload_n 0, 1) := by decide +kernel
theorem dX5_showPairs_87 : decode cX5_showPairs 87 = .ok (.getfield 13, 3) := by decide +kernel
theorem dX5_showPairs_90 : decode cX5_showPairs 90 = .ok (.iload_n 3, 1) := by decide +kernel
theorem dX5_showPairs_91 : decode cX5_showPairs 91 = .ok (.iaload, 1) := by decide +kernel
theorem dX5_showPairs_92 : decode cX5_showPairs 92 = .ok (.iadd, 1) := by decide +kernel
theorem dX5_showPairs_93 : decode cX5_showPairs 93 = .ok (.iload 6, 2) := by decide +kernel
theorem dX5_showPairs_95 : decode cX5_showPairs 95 = .ok (.iadd, 1) := by decide +kernel
theorem dX5_showPairs_96 : decode cX5_showPairs 96 = .ok (.aload_n 0, 1) := by decide +kernel
theorem dX5_showPairs_97 : decode cX5_showPairs 97 = .ok (.getfield 70, 3) := by decide +kernel
theorem dX5_showPairs_100 : decode cX5_showPairs 100 = .ok (.iload 6, 2) := by decide +kernel
theorem dX5_showPairs_102 : decode cX5_showPairs 102 = .ok (.iadd, 1) := by decide +kernel
theorem dX5_showPairs_103 : decode cX5_showPairs 103 = .ok (.iconst 2, 1) := by decide +kernel
theorem dX5_showPairs_104 : decode cX5_showPairs 104 = .ok (.irem, 1) := by decide +kernel
theorem dX5_showPairs_105 : decode cX5_showPairs 105 = .ok (.iastore, 1) := by decide +kernel
theorem dX5_showPairs_106 : decode cX5_showPairs 106 = .ok (.iinc 6 1, 3) := by decide +kernel
theorem dX5_showPairs_109 : decode cX5_showPairs 109 = .ok (.goto (-40), 3) := by decide +kernel
theorem dX5_showPairs_112 : decode cX5_showPairs 112 = .ok (.aload_n 0, 1) := by decide +kernel
theorem dX5_showPairs_113 : decode cX5_showPairs 113 = .ok (.getfield 45, 3) := by decide +kernel
theorem dX5_showPairs_116 : decode cX5_showPairs 116 = .ok (.iload_n 3, 1) := by decide +kernel
theorem dX5_showPairs_117 : decode cX5_showPairs 117 = .ok (.aload_n 0, 1) := by decide +kernel
theorem dX5_showPairs_118 : decode cX5_showPairs 118 = .ok (.getfield 13, 3) := by decide +kernel
theorem dX5_showPairs_121 : decode cX5_showPairs 121 = .ok (.iload_n 3, 1) := by decide +kernel
theorem dX5_showPairs_122 : decode cX5_showPairs 122 = .ok (.iaload, 1) := by decide +kernel
theorem dX5_showPairs_123 : decode cX5_showPairs 123 = .ok (.iconst 2, 1) := by decide +kernel
theorem dX5_showPairs_124 : decode cX5_showPairs 124 = .ok (.iload 5, 2) := by decide +kernel
theorem dX5_showPairs_126 : decode cX5_showPairs 126 = .ok (.imul, 1) := by decide +kernel
theorem dX5_showPairs_127 : decode cX5_showPairs 127 = .ok (.iadd, 1) := by decide +kernel
theorem dX5_showPairs_128 : decode cX5_showPairs 128 = .ok (.iastore, 1) := by decide +kernel
theorem dX5_showPairs_129 : decode cX5_showPairs 129 = .ok (.iinc 3 1, 3) := by decide +kernel
theorem dX5_showPairs_132 : decode cX5_showPairs 132 = .ok (.goto (-102), 3) := by decide +kernel
theorem dX5_showPairs_135 : decode cX5_showPairs 135 = .ok (.return_, 1) := by decide +kernel
theorem dX5_beats_0 : decode cX5_beats 0 = .ok (.iconst 0, 1) := by decide +kernel
theorem dX5_beats_1 : decode cX5_beats 1 = .ok (.istore_n 1, 1) := by decide +kernel
theorem dX5_beats_2 : decode cX5_beats 2 = .ok (.iconst 0, 1) := by decide +kernel
theorem dX5_beats_3 : decode cX5_beats 3 = .ok (.istore_n 2, 1) := by decide +kernel
theorem dX5_beats_4 : decode cX5_beats 4 = .ok (.iload_n 2, 1) := by decide +kernel
theorem dX5_beats_5 : decode cX5_beats 5 = .ok (.aload_n 0, 1) := by decide +kernel
theorem dX5_beats_6 : decode cX5_beats 6 = .ok (.getfield 52, 3) := by decide +kernel
theorem dX5_beats_9 : decode cX5_beats 9 = .ok (.if_icmp .ge 36, 3) := by decide +kernel
theorem dX5_beats_12 : decode cX5_beats 12 = .ok (.iload_n 1, 1) := by decide +kernel
theorem dX5_beats_13 : decode cX5_beats 13 = .ok (.ifCond .ne 20, 3) := by decide +kernel
theorem dX5_beats_16 : decode cX5_beats 16 = .ok (.aload_n 0, 1) := by decide +kernel
theorem dX5_beats_17 : decode cX5_beats 17 = .ok (.getfield 56, 3) := by decide +kernel
theorem dX5_beats_20 : decode cX5_beats 20 = .ok (.aload_n 0, 1) := by decide +kernel
theorem dX5_beats_21 : decode cX5_beats 21 = .ok (.getfield 13, 3) := by decide +kernel
theorem dX5_beats_24 : decode cX5_beats 24 = .ok (.iload_n 2, 1) := by decide +kernel
theorem dX5_beats_25 : decode cX5_beats 25 = .ok (.iaload, 1) := by decide +kernel
theorem dX5_beats_26 : decode cX5_beats 26 = .ok (.isub, 1) := by decide +kernel
theorem dX5_beats_27 : decode cX5_beats 27 = .ok (.iconst 2, 1) := by decide +kernel
theorem dX5_beats_28 : decode cX5_beats 28 = .ok (.irem, 1) := by decide +kernel
theorem dX5_beats_29 : decode cX5_beats 29 = .ok (.iconst 1, 1) := by decide +kernel
theorem dX5_beats_30 : decode cX5_beats 30 = .ok (.if_icmp .ne 7, 3) := by decide +kernel
theorem dX5_beats_33 : decode cX5_beats 33 = .ok (.iconst 1, 1) := by decide +kernel
theorem dX5_beats_34 : decode cX5_beats 34 = .ok (.goto 4, 3) := by decide +kernel
theorem dX5_beats_37 : decode cX5_beats 37 = .ok (.iconst 0, 1) := by decide +kernel
theorem dX5_beats_38 : decode cX5_beats 38 = .ok (.istore_n 1, 1) := by decide +kernel
theorem dX5_beats_39 : decode cX5_beats 39 = .ok (.iinc 2 1, 3) := by decide +kernel
theorem dX5_beats_42 : decode cX5_beats 42 = .ok (.goto (-38), 3) := by decide +kernel
theorem dX5_beats_45 : decode cX5_beats 45 = .ok (.aload_n 0, 1) := by decide +kernel
theorem dX5_beats_46 : decode cX5_beats 46 = .ok (.aload_n 0, 1) := by decide +kernel
theorem dX5_beats_47 : decode cX5_beats 47 = .ok (.invokevirtual 77, 3) := by decide +kernel
theorem dX5_beats_50 : decode cX5_beats 50 = .ok (.ifCond .ge 26, 3) := by decide +kernel
theorem dX5_beats_53 : decode cX5_beats 53 = .ok (.aload_n 0, 1) := by decide +kernel
theorem dX5_beats_54 : decode cX5_beats 54 = .ok (.getfield 52, 3) := by decide +kernel
theorem dX5_beats_57 : decode cX5_beats 57 = .ok (.aload_n 0, 1) := by decide +kernel
theorem dX5_beats_58 : decode cX5_beats 58 = .ok (.getfield 56, 3) := by decide +kernel
theorem dX5_beats_61 : decode cX5_beats 61 = .ok (.imul, 1) := by decide +kernel
theorem dX5_beats_62 : decode cX5_beats 62 = .ok (.aload_n 0, 1) := by decide +kernel
theorem dX5_beats_63 : decode cX5_beats 63 = .ok (.getfield 70, 3) := by decide +kernel
theorem dX5_beats_66 : decode cX5_beats 66 = .ok (.isub, 1) := by decide +kernel
theorem dX5_beats_67 : decode cX5_beats 67 = .ok (.bipush 30, 2) := by decide +kernel
theorem dX5_beats_69 : decode cX5_beats 69 = .ok (.if_icmp .gt 7, 3) := by decide +kernel
theorem dX5_beats_72 : decode cX5_beats 72 = .ok (.iload_n 1, 1) := by decide +kernel
theorem dX5_beats_73 : decode cX5_beats 73 = .ok (.ifCond .eq 7, 3) := by decide +kernel
theorem dX5_beats_76 : decode cX5_beats 76 = .ok (.iconst 1, 1) := by decide +kernel
theorem dX5_beats_77 : decode cX5_beats 77 = .ok (.goto 4, 3) := by decide +kernel
theorem dX5_beats_80 : decode cX5_beats 80 = .ok (.iconst 0, 1) := by decide +kernel
theorem dX5_beats_81 : decode cX5_beats 81 = .ok (.iconst 0, 1) := by decide +kernel
theorem dX5_beats_82 : decode cX5_beats 82 = .ok (.invokevirtual 81, 3) := by decide +kernel
theorem dX5_beats_85 : decode cX5_beats 85 = .ok (.ifCond .eq 5, 3) := by decide +kernel
theorem dX5_beats_88 : decode cX5_beats 88 = .ok (.iconst 0, 1) := by decide +kernel
theorem dX5_beats_89 : decode cX5_beats 89 = .ok (.ireturn, 1) := by decide +kernel
theorem dX5_beats_90 : decode cX5_beats 90 = .ok (.iconst 1, 1) := by decide +kernel
theorem dX5_beats_91 : decode cX5_beats 91 = .ok (.istore_n 2, 1) := by decide +kernel
theorem dX5_beats_92 : decode cX5_beats 92 = .ok (.iconst 0, 1) := by decide +kernel
theorem dX5_beats_93 : decode cX5_beats 93 = .ok (.istore_n 3, 1) := by decide +kernel
theorem dX5_beats_94 : decode cX5_beats 94 = .ok (.iload_n 3, 1) := by decide +kernel
theorem dX5_beats_95 : decode cX5_beats 95 = .ok (.aload_n 0, 1) := by decide +kernel
theorem dX5_beats_96 : decode cX5_beats 96 = .ok (.getfield 52, 3) := by decide +kernel
theorem dX5_beats_99 : decode cX5_beats 99 = .ok (.if_icmp .ge 34, 3) := by decide +kernel
theorem dX5_beats_102 : decode cX5_beats 102 = .ok (.aload_n 0, 1) := by decide +kernel
theorem dX5_beats_103 : decode cX5_beats 103 = .ok (.getfield 36, 3) := by decide +kernel
theorem dX5_beats_106 : decode cX5_beats 106 = .ok (.iload_n 3, 1) := by decide +kernel
theorem dX5_beats_107 : decode cX5_beats 107 = .ok (.iload_n 2, 1) := by decide +kernel
theorem dX5_beats_108 : decode cX5_beats 108 = .ok (.iastore, 1) := by decide +kernel
theorem dX5_beats_109 : decode cX5_beats 109 = .ok (.iload_n 2, 1) := by decide +kernel
theorem dX5_beats_110 : decode cX5_beats 110 = .ok (.aload_n 0, 1) := by decide +kernel
theorem dX5_beats_111 : decode cX5_beats 111 = .ok (.getfield 56, 3) := by decide +kernel
theorem dX5_beats_114 : decode cX5_beats 114 = .ok (.aload_n 0, 1) := by decide +kernel
theorem dX5_beats_115 : decode cX5_beats 115 = .ok (.getfield 13, 3) := by decide +kernel
theorem dX5_beats_118 : decode cX5_beats 118 = .ok (.iload_n 3, 1) := by decide +kernel
theorem dX5_beats_119 : decode cX5_beats 119 = .ok (.iaload, 1) := by decide +kernel
theorem dX5_beats_120 : decode cX5_beats 120 = .ok (.isub, 1) := by decide +kernel
theorem dX5_beats_121 : decode cX5_beats 121 = .ok (.iconst 2, 1) := by decide +kernel
theorem dX5_beats_122 : decode cX5_beats 122 = .ok (.idiv, 1) := by decide +kernel
theorem dX5_beats_123 : decode cX5_beats 123 = .ok (.iconst 1, 1) := by decide +kernel
theorem dX5_beats_124 : decode cX5_beats 124 = .ok (.iadd, 1) := by decide +kernel
theorem dX5_beats_125 : decode cX5_beats 125 = .ok (.imul, 1) := by decide +kernel
theorem dX5_beats_126 : decode cX5_beats 126 = .ok (.istore_n 2, 1) := by decide +kernel
theorem dX5_beats_127 : decode cX5_beats 127 = .ok (.iinc 3 1, 3) := by decide +kernel
theorem dX5_beats_130 : decode cX5_beats 130 = .ok (.goto (-36), 3) := by decide +kernel
theorem dX5_beats_133 : decode cX5_beats 133 = .ok (.aload_n 0, 1) := by decide +kernel
theorem dX5_beats_134 : decode cX5_beats 134 = .ok (.iconst 0, 1) := by decide +kernel
theorem dX5_beats_135 : decode cX5_beats 135 = .ok (.putfield 85, 3) := by decide +kernel
theorem dX5_beats_138 : decode cX5_beats 138 = .ok (.iconst 0, 1) := by decide +kernel
theorem dX5_beats_139 : decode cX5_beats 139 = .ok (.istore_n 3, 1) := by decide +kernel
theorem dX5_beats_140 : decode cX5_beats 140 = .ok (.iload_n 3, 1) := by decide +kernel
theorem dX5_beats_141 : decode cX5_beats 141 = .ok (.iload_n 2, 1) := by decide +kernel
theorem dX5_beats_142 : decode cX5_beats 142 = .ok (.if_icmp .ge 24, 3) := by decide +kernel
theorem dX5_beats_145 : decode cX5_beats 145 = .ok (.aload_n 0, 1) := by decide +kernel
theorem dX5_beats_146 : decode cX5_beats 146 = .ok (.getfield 48, 3) := by decide +kernel
theorem dX5_beats_149 : decode cX5_beats 149 = .ok (.iload_n 3, 1) := by decide +kernel
theorem dX5_beats_150 : decode cX5_beats 150 = .ok (.iload_n 3, 1) := by decide +kernel
theorem dX5_beats_151 : decode cX5_beats 151 = .ok (.ifCond .ne 7, 3) := by decide +kernel
theorem dX5_beats_154 : decode cX5_beats 154 = .ok (.iconst 1, 1) := by decide +kernel
theorem dX5_beats_155 : decode cX5_beats 155 = .ok (.goto 4, 3) := by decide +kernel
theorem dX5_beats_158 : decode cX5_beats 158 = .ok (.iconst 0, 1) := by decide +kernel
theorem dX5_beats_159 : decode cX5_beats 159 = .ok (.bastore, 1) := by decide +kernel
theorem dX5_beats_160 : decode cX5_beats 160 = .ok (.iinc 3 1, 3) := by decide +kernel
theorem dX5_beats_163 : decode cX5_beats 163 = .ok (.goto (-23), 3) := by decide +kernel
theorem dX5_beats_166 : decode cX5_beats 166 = .ok (.iconst 0, 1) := by decide +kernel
theorem dX5_beats_167 : decode cX5_beats 167 = .ok (.istore_n 3, 1) := by decide +kernel
theorem dX5_beats_168 : decode cX5_beats 168 = .ok (.iload_n 3, 1) := by decide +kernel
theorem dX5_beats_169 : decode cX5_beats 169 = .ok (.iload_n 2, 1) := by decide +kernel
theorem dX5_beats_170 : decode cX5_beats 170 = .ok (.if_icmp .ge 194, 3) := by decide +kernel
theorem dX5_beats_173 : decode cX5_beats 173 = .ok (.aload_n 0, 1) := by decide +kernel
theorem dX5_beats_174 : decode cX5_beats 174 = .ok (.getfield 48, 3) := by decide +kernel
theorem dX5_beats_177 : decode cX5_beats 177 = .ok (.iload_n 3, 1) := by decide +kernel
theorem dX5_beats_178 : decode cX5_beats 178 = .ok (.baload, 1) := by decide +kernel
theorem dX5_beats_179 : decode cX5_beats 179 = .ok (.ifCond .eq 179, 3) := by decide +kernel
theorem dX5_beats_182 : decode cX5_beats 182 = .ok (.aload_n 0, 1) := by decide +kernel
theorem dX5_beats_183 : decode cX5_beats 183 = .ok (.iload_n 3, 1) := by decide +kernel
theorem dX5_beats_184 : decode cX5_beats 184 = .ok (.invokevirtual 146, 3) := by decide +kernel
theorem dX5_beats_187 : decode cX5_beats 187 = .ok (.iconst 0, 1) := by decide +kernel
theorem dX5_beats_188 : decode cX5_beats 188 = .ok (.istore 4, 2) := by decide +kernel
theorem dX5_beats_190 : decode cX5_beats 190 = .ok (.iload 4, 2) := by decide +kernel
theorem dX5_beats_192 : decode cX5_beats 192 = .ok (.aload_n 0, 1) := by decide +kernel
theorem dX5_beats_193 : decode cX5_beats 193 = .ok (.getfield 52, 3) := by decide +kernel
theorem dX5_beats_196 : decode cX5_beats 196 = .ok (.if_icmp .ge 162, 3) := by decide +kernel
theorem dX5_beats_199 : decode cX5_beats 199 = .ok (.aload_n 0, 1) := by decide +kernel
theorem dX5_beats_200 : decode cX5_beats 200 = .ok (.getfield 45, 3) := by decide +kernel
theorem dX5_beats_203 : decode cX5_beats 203 = .ok (.iload 4, 2) := by decide +kernel
theorem dX5_beats_205 : decode cX5_beats 205 = .ok (.iaload, 1) := by decide +kernel
theorem dX5_beats_206 : decode cX5_beats 206 = .ok (.aload_n 0, 1) := by decide +kernel
theorem dX5_beats_207 : decode cX5_beats 207 = .ok (.getfield 56, 3) := by decide +kernel
theorem dX5_beats_210 : decode cX5_beats 210 = .ok (.if_icmp .ge 142, 3) := by decide +kernel
theorem dX5_beats_213 : decode cX5_beats 213 = .ok (.aload_n 0, 1) := by decide +kernel
theorem dX5_beats_214 : decode cX5_beats 214 = .ok (.iload 4, 2) := by decide +kernel
theorem dX5_beats_216 : decode cX5_beats 216 = .ok (.aload_n 0, 1) := by decide +kernel
theorem dX5_beats_217 : decode cX5_beats 217 = .ok (.getfield 70, 3) := by decide +kernel
theorem dX5_beats_220 : decode cX5_beats 220 = .ok (.iconst 2, 1) := by decide +kernel
theorem dX5_beats_221 : decode cX5_beats 221 = .ok (.irem, 1) := by decide +kernel
theorem dX5_beats_222 : decode cX5_beats 222 = .ok (.invokevirtual 114, 3) := by decide +kernel
theorem dX5_beats_225 : decode cX5_beats 225 = .ok (.ifCond .eq 5, 3) := by decide +kernel
theorem dX5_beats_228 : decode cX5_beats 228 = .ok (.iconst 1, 1) := by decide +kernel
theorem dX5_beats_229 : decode cX5_beats 229 = .ok (.ireturn, 1) := by decide +kernel
theorem dX5_beats_230 : decode cX5_beats 230 = .ok (.aload_n 0, 1) := by decide +kernel
theorem dX5_beats_231 : decode cX5_beats 231 = .ok (.getfield 42, 3) := by decide +kernel
theorem dX5_beats_234 : decode cX5_beats 234 = .ok (.bipush 7, 2) := by decide +kernel
theorem dX5_beats_236 : decode cX5_beats 236 = .ok (.iload 4, 2) := by decide +kernel
theorem dX5_beats_238 : decode cX5_beats 238 = .ok (.imul, 1) := by decide +kernel
theorem dX5_beats_239 : decode cX5_beats 239 = .ok (.aload_n 0, 1) := by decide +kernel
theorem dX5_beats_240 : decode cX5_beats 240 = .ok (.getfield 45, 3) := by decide +kernel
theorem dX5_beats_243 : decode cX5_beats 243 = .ok (.iload 4, 2) := by decide +kernel
theorem dX5_beats_245 : decode cX5_beats 245 = .ok (.iaload, 1) := by decide +kernel
theorem dX5_beats_246 : decode cX5_beats 246 = .ok (.iadd, 1) := by decide +kernel
theorem dX5_beats_247 : decode cX5_beats 247 = .ok (.aload_n 0, 1) := by decide +kernel
theorem dX5_beats_248 : decode cX5_beats 248 = .ok (.getfield 70, 3) := by decide +kernel
theorem dX5_beats_251 : decode cX5_beats 251 = .ok (.iconst 2, 1) := by decide +kernel
theorem dX5_beats_252 : decode cX5_beats 252 = .ok (.irem, 1) := by decide +kernel
theorem dX5_beats_253 : decode cX5_beats 253 = .ok (.iastore, 1) := by decide +kernel
theorem dX5_beats_254 : decode cX5_beats 254 = .ok (.aload_n 0, 1) := by decide +kernel
theorem dX5_beats_255 : decode cX5_beats 255 = .ok (.getfield 45, 3) := by decide +kernel
theorem dX5_beats_258 : decode cX5_beats 258 = .ok (.iload 4, 2) := by decide +kernel
theorem dX5_beats_260 : decode cX5_beats 260 = .ok (.dup2, 1) := by decide +kernel
theorem dX5_beats_261 : decode cX5_beats 261 = .ok (.iaload, 1) := by decide +kernel
theorem dX5_beats_262 : decode cX5_beats 262 = .ok (.iconst 1, 1) := by decide +kernel
theorem dX5_beats_263 : decode cX5_beats 263 = .ok (.iadd, 1) := by decide +kernel
theorem dX5_beats_264 : decode cX5_beats 264 = .ok (.iastore, 1) := by decide +kernel
theorem dX5_beats_265 : decode cX5_beats 265 = .ok (.aload_n 0, 1) := by decide +kernel
theorem dX5_beats_266 : decode cX5_beats 266 = .ok (.iload 4, 2) := by decide +kernel
theorem dX5_beats_268 : decode cX5_beats 268 = .ok (.iconst 1, 1) := by decide +kernel
theorem dX5_beats_269 : decode cX5_beats 269 = .ok (.aload_n 0, 1) := by decide +kernel
theorem dX5_beats_270 : decode cX5_beats 270 = .ok (.getfield 70, 3) := by decide +kernel
theorem dX5_beats_273 : decode cX5_beats 273 = .ok (.iconst 2, 1) := by decide +kernel
theorem dX5_beats_274 : decode cX5_beats 274 = .ok (.irem, 1) := by decide +kernel
theorem dX5_beats_275 : decode cX5_beats 275 = .ok (.isub, 1) := by decide +kernel
theorem dX5_beats_276 : decode cX5_beats 276 = .ok (.invokevirtual 114, 3) := by decide +kernel
theorem dX5_beats_279 : decode cX5_beats 279 = .ok (.istore 5, 2) := by decide +kernel
theorem dX5_beats_281 : decode cX5_beats 281 = .ok (.aload_n 0, 1) := by decide +kernel
theorem dX5_beats_282 : decode cX5_beats 282 = .ok (.getfield 45, 3) := by decide +kernel
theorem dX5_beats_285 : decode cX5_beats 285 = .ok (.iload 4, 2) := by decide +kernel
theorem dX5_beats_287 : decode cX5_beats 287 = .ok (.dup2, 1) := by decide +kernel
theorem dX5_beats_288 : decode cX5_beats 288 = .ok (.iaload, 1) := by decide +kernel
theorem dX5_beats_289 : decode cX5_beats 289 = .ok (.iconst 1, 1) := by decide +kernel
theorem dX5_beats_290 : decode cX5_beats 290 = .ok (.isub, 1) := by decide +kernel
theorem dX5_beats_291 : decode cX5_beats 291 = .ok (.iastore, 1) := by decide +kernel
theorem dX5_beats_292 : decode cX5_beats 292 = .ok (.aload_n 0, 1) := by decide +kernel
theorem dX5_beats_293 : decode cX5_beats 293 = .ok (.getfield 42, 3) := by decide +kernel
theorem dX5_beats_296 : decode cX5_beats 296 = .ok (.bipush 7, 2) := by decide +kernel
theorem dX5_beats_298 : decode cX5_beats 298 = .ok (.iload 4, 2) := by decide +kernel
theorem dX5_beats_300 : decode cX5_beats 300 = .ok (.imul, 1) := by decide +kernel
theorem dX5_beats_301 : decode cX5_beats 301 = .ok (.aload_n 0, 1) := by decide +kernel
theorem dX5_beats_302 : decode cX5_beats 302 = .ok (.getfield 45, 3) := by decide +kernel
theorem dX5_beats_305 : decode cX5_beats 305 = .ok (.iload 4, 2) := by decide +kernel
theorem dX5_beats_307 : decode cX5_beats 307 = .ok (.iaload, 1) := by decide +kernel
theorem dX5_beats_308 : decode cX5_beats 308 = .ok (.iadd, 1) := by decide +kernel
theorem dX5_beats_309 : decode cX5_beats 309 = .ok (.iconst (-1), 1) := by decide +kernel
theorem dX5_beats_310 : decode cX5_beats 310 = .ok (.iastore, 1) := by decide +kernel
theorem dX5_beats_311 : decode cX5_beats 311 = .ok (.aload_n 0, 1) := by decide +kernel
theorem dX5_beats_312 : decode cX5_beats 312 = .ok (.getfield 48, 3) := by decide +kernel
theorem dX5_beats_315 : decode cX5_beats 315 = .ok (.iload_n 3, 1) := by decide +kernel
theorem dX5_beats_316 : decode cX5_beats 316 = .ok (.aload_n 0, 1) := by decide +kernel
theorem dX5_beats_317 : decode cX5_beats 317 = .ok (.getfield 36, 3) := by decide +kernel
theorem dX5_beats_320 : decode cX5_beats 320 = .ok (.iload 4, 2) := by decide +kernel
theorem dX5_beats_322 : decode cX5_beats 322 = .ok (.iaload, 1) := by decide +kernel
theorem dX5_beats_323 : decode cX5_beats 323 = .ok (.iadd, 1) := by decide +kernel
theorem dX5_beats_324 : decode cX5_beats 324 = .ok (.aload_n 0, 1) := by decide +kernel
theorem dX5_beats_325 : decode cX5_beats 325 = .ok (.getfield 48, 3) := by decide +kernel
theorem dX5_beats_328 : decode cX5_beats 328 = .ok (.iload_n 3, 1) := by decide +kernel
theorem dX5_beats_329 : decode cX5_beats 329 = .ok (.aload_n 0, 1) := by decide +kernel
theorem dX5_beats_330 : decode cX5_beats 330 = .ok (.getfield 36, 3) := by decide +kernel
theorem dX5_beats_333 : decode cX5_beats 333 = .ok (.iload 4, 2) := by decide +kernel
theorem dX5_beats_335 : decode cX5_beats 335 = .ok (.iaload, 1) := by decide +kernel
theorem dX5_beats_336 : decode cX5_beats 336 = .ok (.iadd, 1) := by decide +kernel
theorem dX5_beats_337 : decode cX5_beats 337 = .ok (.baload, 1) := by decide +kernel
theorem dX5_beats_338 : decode cX5_beats 338 = .ok (.ifCond .ne 8, 3) := by decide +kernel
theorem dX5_beats_341 : decode cX5_beats 341 = .ok (.iload 5, 2) := by decide +kernel
theorem dX5_beats_343 : decode cX5_beats 343 = .ok (.ifCond .ne 7, 3) := by decide +kernel
theorem dX5_beats_346 : decode cX5_beats 346 = .ok (.iconst 1, 1) := by decide +kernel
theorem dX5_beats_347 : decode cX5_beats 347 = .ok (.goto 4, 3) := by decide +kernel
theorem dX5_beats_350 : decode cX5_beats 350 = .ok (.iconst 0, 1) := by decide +kernel
theorem dX5_beats_351 : decode cX5_beats 351 = .ok (.bastore, 1) := by decide +kernel
theorem dX5_beats_352 : decode cX5_beats 352 = .ok (.iinc 4 1, 3) := by decide +kernel
theorem dX5_beats_355 : decode cX5_beats 355 = .ok (.goto (-165), 3) := by decide +kernel
theorem dX5_beats_358 : decode cX5_beats 358 = .ok (.iinc 3 1, 3) := by decide +kernel
theorem dX5_beats_361 : decode cX5_beats 361 = .ok (.goto (-193), 3) := by decide +kernel
theorem dX5_beats_364 : decode cX5_beats 364 = .ok (.iconst 0, 1) := by decide +kernel
theorem dX5_beats_365 : decode cX5_beats 365 = .ok (.ireturn, 1) := by decide +kernel
