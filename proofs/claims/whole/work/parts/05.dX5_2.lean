theorem dX5_add_23 : decode cX5_add 23 = .ok (.getfield 39, 3) := by decide +kernel
theorem dX5_add_26 : decode cX5_add 26 = .ok (.iload_n 2, 1) := by decide +kernel
theorem dX5_add_27 : decode cX5_add 27 = .ok (.iaload, 1) := by decide +kernel
theorem dX5_add_28 : decode cX5_add 28 = .ok (.aload_n 0, 1) := by decide +kernel
theorem dX5_add_29 : decode cX5_add 29 = .ok (.getfield 45, 3) := by decide +kernel
theorem dX5_add_32 : decode cX5_add 32 = .ok (.iload_n 2, 1) := by decide +kernel
theorem dX5_add_33 : decode cX5_add 33 = .ok (.iaload, 1) := by decide +kernel
theorem dX5_add_34 : decode cX5_add 34 = .ok (.iadd, 1) := by decide +kernel
theorem dX5_add_35 : decode cX5_add 35 = .ok (.aload_n 0, 1) := by decide +kernel
theorem dX5_add_36 : decode cX5_add 36 = .ok (.getfield 13, 3) := by decide +kernel
theorem dX5_add_39 : decode cX5_add 39 = .ok (.iload_n 2, 1) := by decide +kernel
theorem dX5_add_40 : decode cX5_add 40 = .ok (.iaload, 1) := by decide +kernel
theorem dX5_add_41 : decode cX5_add 41 = .ok (.isub, 1) := by decide +kernel
theorem dX5_add_42 : decode cX5_add 42 = .ok (.ishl, 1) := by decide +kernel
theorem dX5_add_43 : decode cX5_add 43 = .ok (.ior, 1) := by decide +kernel
theorem dX5_add_44 : decode cX5_add 44 = .ok (.istore 5, 2) := by decide +kernel
theorem dX5_add_46 : decode cX5_add 46 = .ok (.aload_n 0, 1) := by decide +kernel
theorem dX5_add_47 : decode cX5_add 47 = .ok (.iload 4, 2) := by decide +kernel
theorem dX5_add_49 : decode cX5_add 49 = .ok (.iload 5, 2) := by decide +kernel
theorem dX5_add_51 : decode cX5_add 51 = .ok (.invokevirtual 107, 3) := by decide +kernel
theorem dX5_add_54 : decode cX5_add 54 = .ok (.istore 6, 2) := by decide +kernel
theorem dX5_add_56 : decode cX5_add 56 = .ok (.aload_n 0, 1) := by decide +kernel
theorem dX5_add_57 : decode cX5_add 57 = .ok (.getfield 33, 3) := by decide +kernel
theorem dX5_add_60 : decode cX5_add 60 = .ok (.iload 6, 2) := by decide +kernel
theorem dX5_add_62 : decode cX5_add 62 = .ok (.iaload, 1) := by decide +kernel
theorem dX5_add_63 : decode cX5_add 63 = .ok (.ifCond .ne 46, 3) := by decide +kernel
theorem dX5_add_66 : decode cX5_add 66 = .ok (.aload_n 0, 1) := by decide +kernel
theorem dX5_add_67 : decode cX5_add 67 = .ok (.getfield 20, 3) := by decide +kernel
theorem dX5_add_70 : decode cX5_add 70 = .ok (.aload_n 0, 1) := by decide +kernel
theorem dX5_add_71 : decode cX5_add 71 = .ok (.getfield 111, 3) := by decide +kernel
theorem dX5_add_74 : decode cX5_add 74 = .ok (.iload 4, 2) := by decide +kernel
theorem dX5_add_76 : decode cX5_add 76 = .ok (.iastore, 1) := by decide +kernel
theorem dX5_add_77 : decode cX5_add 77 = .ok (.aload_n 0, 1) := by decide +kernel
theorem dX5_add_78 : decode cX5_add 78 = .ok (.getfield 23, 3) := by decide +kernel
theorem dX5_add_81 : decode cX5_add 81 = .ok (.aload_n 0, 1) := by decide +kernel
theorem dX5_add_82 : decode cX5_add 82 = .ok (.getfield 111, 3) := by decide +kernel
theorem dX5_add_85 : decode cX5_add 85 = .ok (.iload 5, 2) := by decide +kernel
theorem dX5_add_87 : decode cX5_add 87 = .ok (.iastore, 1) := by decide +kernel
theorem dX5_add_88 : decode cX5_add 88 = .ok (.aload_n 0, 1) := by decide +kernel
theorem dX5_add_89 : decode cX5_add 89 = .ok (.dup, 1) := by decide +kernel
theorem dX5_add_90 : decode cX5_add 90 = .ok (.getfield 111, 3) := by decide +kernel
theorem dX5_add_93 : decode cX5_add 93 = .ok (.iconst 1, 1) := by decide +kernel
theorem dX5_add_94 : decode cX5_add 94 = .ok (.iadd, 1) := by decide +kernel
theorem dX5_add_95 : decode cX5_add 95 = .ok (.putfield 111, 3) := by decide +kernel
theorem dX5_add_98 : decode cX5_add 98 = .ok (.aload_n 0, 1) := by decide +kernel
theorem dX5_add_99 : decode cX5_add 99 = .ok (.getfield 33, 3) := by decide +kernel
theorem dX5_add_102 : decode cX5_add 102 = .ok (.iload 6, 2) := by decide +kernel
theorem dX5_add_104 : decode cX5_add 104 = .ok (.aload_n 0, 1) := by decide +kernel
theorem dX5_add_105 : decode cX5_add 105 = .ok (.getfield 111, 3) := by decide +kernel
theorem dX5_add_108 : decode cX5_add 108 = .ok (.iastore, 1) := by decide +kernel
theorem dX5_add_109 : decode cX5_add 109 = .ok (.return_, 1) := by decide +kernel
theorem dX5_dropWins_0 : decode cX5_dropWins 0 = .ok (.aload_n 0, 1) := by decide +kernel
theorem dX5_dropWins_1 : decode cX5_dropWins 1 = .ok (.getfield 42, 3) := by decide +kernel
theorem dX5_dropWins_4 : decode cX5_dropWins 4 = .ok (.bipush 7, 2) := by decide +kernel
theorem dX5_dropWins_6 : decode cX5_dropWins 6 = .ok (.iload_n 1, 1) := by decide +kernel
theorem dX5_dropWins_7 : decode cX5_dropWins 7 = .ok (.imul, 1) := by decide +kernel
theorem dX5_dropWins_8 : decode cX5_dropWins 8 = .ok (.aload_n 0, 1) := by decide +kernel
theorem dX5_dropWins_9 : decode cX5_dropWins 9 = .ok (.getfield 45, 3) := by decide +kernel
theorem dX5_dropWins_12 : decode cX5_dropWins 12 = .ok (.iload_n 1, 1) := by decide +kernel
theorem dX5_dropWins_13 : decode cX5_dropWins 13 = .ok (.iaload, 1) := by decide +kernel
theorem dX5_dropWins_14 : decode cX5_dropWins 14 = .ok (.iadd, 1) := by decide +kernel
theorem dX5_dropWins_15 : decode cX5_dropWins 15 = .ok (.iload_n 2, 1) := by decide +kernel
theorem dX5_dropWins_16 : decode cX5_dropWins 16 = .ok (.iastore, 1) := by decide +kernel
theorem dX5_dropWins_17 : decode cX5_dropWins 17 = .ok (.aload_n 0, 1) := by decide +kernel
theorem dX5_dropWins_18 : decode cX5_dropWins 18 = .ok (.aload_n 0, 1) := by decide +kernel
theorem dX5_dropWins_19 : decode cX5_dropWins 19 = .ok (.getfield 42, 3) := by decide +kernel
theorem dX5_dropWins_22 : decode cX5_dropWins 22 = .ok (.iload_n 1, 1) := by decide +kernel
theorem dX5_dropWins_23 : decode cX5_dropWins 23 = .ok (.aload_n 0, 1) := by decide +kernel
theorem dX5_dropWins_24 : decode cX5_dropWins 24 = .ok (.getfield 45, 3) := by decide +kernel
theorem dX5_dropWins_27 : decode cX5_dropWins 27 = .ok (.iload_n 1, 1) := by decide +kernel
theorem dX5_dropWins_28 : decode cX5_dropWins 28 = .ok (.iaload, 1) := by decide +kernel
theorem dX5_dropWins_29 : decode cX5_dropWins 29 = .ok (.invokevirtual 73, 3) := by decide +kernel
theorem dX5_dropWins_32 : decode cX5_dropWins 32 = .ok (.istore_n 3, 1) := by decide +kernel
theorem dX5_dropWins_33 : decode cX5_dropWins 33 = .ok (.aload_n 0, 1) := by decide +kernel
theorem dX5_dropWins_34 : decode cX5_dropWins 34 = .ok (.getfield 42, 3) := by decide +kernel
theorem dX5_dropWins_37 : decode cX5_dropWins 37 = .ok (.bipush 7, 2) := by decide +kernel
theorem dX5_dropWins_39 : decode cX5_dropWins 39 = .ok (.iload_n 1, 1) := by decide +kernel
theorem dX5_dropWins_40 : decode cX5_dropWins 40 = .ok (.imul, 1) := by decide +kernel
theorem dX5_dropWins_41 : decode cX5_dropWins 41 = .ok (.aload_n 0, 1) := by decide +kernel
theorem dX5_dropWins_42 : decode cX5_dropWins 42 = .ok (.getfield 45, 3) := by decide +kernel
theorem dX5_dropWins_45 : decode cX5_dropWins 45 = .ok (.iload_n 1, 1) := by decide +kernel
theorem dX5_dropWins_46 : decode cX5_dropWins 46 = .ok (.iaload, 1) := by decide +kernel
theorem dX5_dropWins_47 : decode cX5_dropWins 47 = .ok (.iadd, 1) := by decide +kernel
theorem dX5_dropWins_48 : decode cX5_dropWins 48 = .ok (.iconst (-1), 1) := by decide +kernel
theorem dX5_dropWins_49 : decode cX5_dropWins 49 = .ok (.iastore, 1) := by decide +kernel
theorem dX5_dropWins_50 : decode cX5_dropWins 50 = .ok (.iload_n 3, 1) := by decide +kernel
theorem dX5_dropWins_51 : decode cX5_dropWins 51 = .ok (.ireturn, 1) := by decide +kernel
theorem dX5_turned_0 : decode cX5_turned 0 = .ok (.iload_n 0, 1) := by decide +kernel
theorem dX5_turned_1 : decode cX5_turned 1 = .ok (.ifCond .le 9, 3) := by decide +kernel
theorem dX5_turned_4 : decode cX5_turned 4 = .ok (.iconst (-1), 1) := by decide +kernel
theorem dX5_turned_5 : decode cX5_turned 5 = .ok (.iload_n 0, 1) := by decide +kernel
theorem dX5_turned_6 : decode cX5_turned 6 = .ok (.isub, 1) := by decide +kernel
theorem dX5_turned_7 : decode cX5_turned 7 = .ok (.goto 14, 3) := by decide +kernel
theorem dX5_turned_10 : decode cX5_turned 10 = .ok (.iload_n 0, 1) := by decide +kernel
theorem dX5_turned_11 : decode cX5_turned 11 = .ok (.ifCond .ge 9, 3) := by decide +kernel
theorem dX5_turned_14 : decode cX5_turned 14 = .ok (.iconst 1, 1) := by decide +kernel
theorem dX5_turned_15 : decode cX5_turned 15 = .ok (.iload_n 0, 1) := by decide +kernel
theorem dX5_turned_16 : decode cX5_turned 16 = .ok (.isub, 1) := by decide +kernel
theorem dX5_turned_17 : decode cX5_turned 17 = .ok (.goto 4, 3) := by decide +kernel
theorem dX5_turned_20 : decode cX5_turned 20 = .ok (.iconst 0, 1) := by decide +kernel
theorem dX5_turned_21 : decode cX5_turned 21 = .ok (.ireturn, 1) := by decide +kernel
theorem dX5_rank_0 : decode cX5_rank 0 = .ok (.iload_n 0, 1) := by decide +kernel
theorem dX5_rank_1 : decode cX5_rank 1 = .ok (.ifCond .le 11, 3) := by decide +kernel
theorem dX5_rank_4 : decode cX5_rank 4 = .ok (.sipush 1000, 3) := by decide +kernel
theorem dX5_rank_7 : decode cX5_rank 7 = .ok (.iload_n 0, 1) := by decide +kernel
theorem dX5_rank_8 : decode cX5_rank 8 = .ok (.isub, 1) := by decide +kernel
theorem dX5_rank_9 : decode cX5_rank 9 = .ok (.goto 16, 3) := by decide +kernel
theorem dX5_rank_12 : decode cX5_rank 12 = .ok (.iload_n 0, 1) := by decide +kernel
theorem dX5_rank_13 : decode cX5_rank 13 = .ok (.ifCond .ge 11, 3) := by decide +kernel
theorem dX5_rank_16 : decode cX5_rank 16 = .ok (.sipush (-1000), 3) := by decide +kernel
theorem dX5_rank_19 : decode cX5_rank 19 = .ok (.iload_n 0, 1) := by decide +kernel
theorem dX5_rank_20 : decode cX5_rank 20 = .ok (.isub, 1) := by decide +kernel
theorem dX5_rank_21 : decode cX5_rank 21 = .ok (.goto 4, 3) := by decide +kernel
theorem dX5_rank_24 : decode cX5_rank 24 = .ok (.iconst 0, 1) := by decide +kernel
theorem dX5_rank_25 : decode cX5_rank 25 = .ok (.ireturn, 1) := by decide +kernel
theorem dX5_valueBehind_0 : decode cX5_valueBehind 0 = .ok (.aload_n 0, 1) := by decide +kernel
theorem dX5_valueBehind_1 : decode cX5_valueBehind 1 = .ok (.iload_n 2, 1) := by decide +kernel
theorem dX5_valueBehind_2 : decode cX5_valueBehind 2 = .ok (.iload_n 3, 1) := by decide +kernel
theorem dX5_valueBehind_3 : decode cX5_valueBehind 3 = .ok (.invokevirtual 114, 3) := by decide +kernel
theorem dX5_valueBehind_6 : decode cX5_valueBehind 6 = .ok (.ifCond .eq 5, 3) := by decide +kernel
theorem dX5_valueBehind_9 : decode cX5_valueBehind 9 = .ok (.iconst 1, 1) := by decide +kernel
theorem dX5_valueBehind_10 : decode cX5_valueBehind 10 = .ok (.ireturn, 1) := by decide +kernel
theorem dX5_valueBehind_11 : decode cX5_valueBehind 11 = .ok (.iload 4, 2) := by decide +kernel
theorem dX5_valueBehind_13 : decode cX5_valueBehind 13 = .ok (.ifCond .eq 7, 3) := by decide +kernel
theorem dX5_valueBehind_16 : decode cX5_valueBehind 16 = .ok (.iconst 0, 1) := by decide +kernel
theorem dX5_valueBehind_17 : decode cX5_valueBehind 17 = .ok (.goto 18, 3) := by decide +kernel
theorem dX5_valueBehind_20 : decode cX5_valueBehind 20 = .ok (.aload_n 0, 1) := by decide +kernel
theorem dX5_valueBehind_21 : decode cX5_valueBehind 21 = .ok (.getfield 26, 3) := by decide +kernel
theorem dX5_valueBehind_24 : decode cX5_valueBehind 24 = .ok (.aload_n 0, 1) := by decide +kernel
theorem dX5_valueBehind_25 : decode cX5_valueBehind 25 = .ok (.iload_n 1, 1) := by decide +kernel
theorem dX5_valueBehind_26 : decode cX5_valueBehind 26 = .ok (.iload_n 2, 1) := by decide +kernel
theorem dX5_valueBehind_27 : decode cX5_valueBehind 27 = .ok (.iload_n 3, 1) := by decide +kernel
theorem dX5_valueBehind_28 : decode cX5_valueBehind 28 = .ok (.invokevirtual 117, 3) := by decide +kernel
theorem dX5_valueBehind_31 : decode cX5_valueBehind 31 = .ok (.iaload, 1) := by decide +kernel
theorem dX5_valueBehind_32 : decode cX5_valueBehind 32 = .ok (.invokestatic 120, 3) := by decide +kernel
theorem dX5_valueBehind_35 : decode cX5_valueBehind 35 = .ok (.ireturn, 1) := by decide +kernel
theorem dX5_lookAhead_0 : decode cX5_lookAhead 0 = .ok (.aload_n 0, 1) := by decide +kernel
theorem dX5_lookAhead_1 : decode cX5_lookAhead 1 = .ok (.getfield 85, 3) := by decide +kernel
theorem dX5_lookAhead_4 : decode cX5_lookAhead 4 = .ok (.ifCond .eq 4, 3) := by decide +kernel
theorem dX5_lookAhead_7 : decode cX5_lookAhead 7 = .ok (.return_, 1) := by decide +kernel
theorem dX5_lookAhead_8 : decode cX5_lookAhead 8 = .ok (.aload_n 0, 1) := by decide +kernel
theorem dX5_lookAhead_9 : decode cX5_lookAhead 9 = .ok (.iconst 1, 1) := by decide +kernel
theorem dX5_lookAhead_10 : decode cX5_lookAhead 10 = .ok (.putfield 85, 3) := by decide +kernel
theorem dX5_lookAhead_13 : decode cX5_lookAhead 13 = .ok (.aload_n 0, 1) := by decide +kernel
theorem dX5_lookAhead_14 : decode cX5_lookAhead 14 = .ok (.getfield 52, 3) := by decide +kernel
theorem dX5_lookAhead_17 : decode cX5_lookAhead 17 = .ok (.aload_n 0, 1) := by decide +kernel
theorem dX5_lookAhead_18 : decode cX5_lookAhead 18 = .ok (.getfield 56, 3) := by decide +kernel
theorem dX5_lookAhead_21 : decode cX5_lookAhead 21 = .ok (.imul, 1) := by decide +kernel
theorem dX5_lookAhead_22 : decode cX5_lookAhead 22 = .ok (.aload_n 0, 1) := by decide +kernel
theorem dX5_lookAhead_23 : decode cX5_lookAhead 23 = .ok (.getfield 70, 3) := by decide +kernel
theorem dX5_lookAhead_26 : decode cX5_lookAhead 26 = .ok (.isub, 1) := by decide +kernel
theorem dX5_lookAhead_27 : decode cX5_lookAhead 27 = .ok (.istore_n 1, 1) := by decide +kernel
theorem dX5_lookAhead_28 : decode cX5_lookAhead 28 = .ok (.iconst 1, 1) := by decide +kernel
theorem dX5_lookAhead_29 : decode cX5_lookAhead 29 = .ok (.istore_n 2, 1) := by decide +kernel
theorem dX5_lookAhead_30 : decode cX5_lookAhead 30 = .ok (.iconst 0, 1) := by decide +kernel
theorem dX5_lookAhead_31 : decode cX5_lookAhead 31 = .ok (.istore_n 3, 1) := by decide +kernel
theorem dX5_lookAhead_32 : decode cX5_lookAhead 32 = .ok (.iconst 0, 1) := by decide +kernel
theorem dX5_lookAhead_33 : decode cX5_lookAhead 33 = .ok (.istore 4, 2) := by decide +kernel
theorem dX5_lookAhead_35 : decode cX5_lookAhead 35 = .ok (.iload 4, 2) := by decide +kernel
theorem dX5_lookAhead_37 : decode cX5_lookAhead 37 = .ok (.aload_n 0, 1) := by decide +kernel
theorem dX5_lookAhead_38 : decode cX5_lookAhead 38 = .ok (.getfield 52, 3) := by decide +kernel
theorem dX5_lookAhead_41 : decode cX5_lookAhead 41 = .ok (.if_icmp .ge 57, 3) := by decide +kernel
theorem dX5_lookAhead_44 : decode cX5_lookAhead 44 = .ok (.aload_n 0, 1) := by decide +kernel
theorem dX5_lookAhead_45 : decode cX5_lookAhead 45 = .ok (.getfield 36, 3) := by decide +kernel
theorem dX5_lookAhead_48 : decode cX5_lookAhead 48 = .ok (.iload 4, 2) := by decide +kernel
theorem dX5_lookAhead_50 : decode cX5_lookAhead 50 = .ok (.iload_n 2, 1) := by decide +kernel
theorem dX5_lookAhead_51 : decode cX5_lookAhead 51 = .ok (.iastore, 1) := by decide +kernel
theorem dX5_lookAhead_52 : decode cX5_lookAhead 52 = .ok (.aload_n 0, 1) := by decide +kernel
theorem dX5_lookAhead_53 : decode cX5_lookAhead 53 = .ok (.getfield 39, 3) := by decide +kernel
theorem dX5_lookAhead_56 : decode cX5_lookAhead 56 = .ok (.iload 4, 2) := by decide +kernel
theorem dX5_lookAhead_58 : decode cX5_lookAhead 58 = .ok (.iload_n 3, 1) := by decide +kernel
theorem dX5_lookAhead_59 : decode cX5_lookAhead 59 = .ok (.iastore, 1) := by decide +kernel
theorem dX5_lookAhead_60 : decode cX5_lookAhead 60 = .ok (.iload_n 2, 1) := by decide +kernel
theorem dX5_lookAhead_61 : decode cX5_lookAhead 61 = .ok (.aload_n 0, 1) := by decide +kernel
theorem dX5_lookAhead_62 : decode cX5_lookAhead 62 = .ok (.getfield 56, 3) := by decide +kernel
theorem dX5_lookAhead_65 : decode cX5_lookAhead 65 = .ok (.aload_n 0, 1) := by decide +kernel
theorem dX5_lookAhead_66 : decode cX5_lookAhead 66 = .ok (.getfield 13, 3) := by decide +kernel
theorem dX5_lookAhead_69 : decode cX5_lookAhead 69 = .ok (.iload 4, 2) := by decide +kernel
theorem dX5_lookAhead_71 : decode cX5_lookAhead 71 = .ok (.iaload, 1) := by decide +kernel
theorem dX5_lookAhead_72 : decode cX5_lookAhead 72 = .ok (.isub, 1) := by decide +kernel
theorem dX5_lookAhead_73 : decode cX5_lookAhead 73 = .ok (.iconst 1, 1) := by decide +kernel
theorem dX5_lookAhead_74 : decode cX5_lookAhead 74 = .ok (.iadd, 1) := by decide +kernel
theorem dX5_lookAhead_75 : decode cX5_lookAhead 75 = .ok (.imul, 1) := by decide +kernel
theorem dX5_lookAhead_76 : decode cX5_lookAhead 76 = .ok (.istore_n 2, 1) := by decide +kernel
theorem dX5_lookAhead_77 : decode cX5_lookAhead 77 = .ok (.iload_n 3, 1) := by decide +kernel
theorem dX5_lookAhead_78 : decode cX5_lookAhead 78 = .ok (.aload_n 0, 1) := by decide +kernel
theorem dX5_lookAhead_79 : decode cX5_lookAhead 79 = .ok (.getfield 56, 3) := by decide +kernel
theorem dX5_lookAhead_82 : decode cX5_lookAhead 82 = .ok (.iadd, 1) := by decide +kernel
theorem dX5_lookAhead_83 : decode cX5_lookAhead 83 = .ok (.aload_n 0, 1) := by decide +kernel
theorem dX5_lookAhead_84 : decode cX5_lookAhead 84 = .ok (.getfield 13, 3) := by decide +kernel
theorem dX5_lookAhead_87 : decode cX5_lookAhead 87 = .ok (.iload 4, 2) := by decide +kernel
theorem dX5_lookAhead_89 : decode cX5_lookAhead 89 = .ok (.iaload, 1) := by decide +kernel
theorem dX5_lookAhead_90 : decode cX5_lookAhead 90 = .ok (.isub, 1) := by decide +kernel
theorem dX5_lookAhead_91 : decode cX5_lookAhead 91 = .ok (.istore_n 3, 1) := by decide +kernel
theorem dX5_lookAhead_92 : decode cX5_lookAhead 92 = .ok (.iinc 4 1, 3) := by decide +kernel
theorem dX5_lookAhead_95 : decode cX5_lookAhead 95 = .ok (.goto (-60), 3) := by decide +kernel
theorem dX5_lookAhead_98 : decode cX5_lookAhead 98 = .ok (.iconst 0, 1) := by decide +kernel
theorem dX5_lookAhead_99 : decode cX5_lookAhead 99 = .ok (.istore 4, 2) := by decide +kernel
theorem dX5_lookAhead_101 : decode cX5_lookAhead 101 = .ok (.iload 4, 2) := by decide +kernel
theorem dX5_lookAhead_103 : decode cX5_lookAhead 103 = .ok (.ldc 32, 2) := by decide +kernel
theorem dX5_lookAhead_105 : decode cX5_lookAhead 105 = .ok (.if_icmp .ge 17, 3) := by decide +kernel
theorem dX5_lookAhead_108 : decode cX5_lookAhead 108 = .ok (.aload_n 0, 1) := by decide +kernel
theorem dX5_lookAhead_109 : decode cX5_lookAhead 109 = .ok (.getfield 33, 3) := by decide +kernel
theorem dX5_lookAhead_112 : decode cX5_lookAhead 112 = .ok (.iload 4, 2) := by decide +kernel
theorem dX5_lookAhead_114 : decode cX5_lookAhead 114 = .ok (.iconst 0, 1) := by decide +kernel
theorem dX5_lookAhead_115 : decode cX5_lookAhead 115 = .ok (.iastore, 1) := by decide +kernel
theorem dX5_lookAhead_116 : decode cX5_lookAhead 116 = .ok (.iinc 4 1, 3) := by decide +kernel
theorem dX5_lookAhead_119 : decode cX5_lookAhead 119 = .ok (.goto (-18), 3) := by decide +kernel
theorem dX5_lookAhead_122 : decode cX5_lookAhead 122 = .ok (.aload_n 0, 1) := by decide +kernel
theorem dX5_lookAhead_123 : decode cX5_lookAhead 123 = .ok (.getfield 20, 3) := by decide +kernel
theorem dX5_lookAhead_126 : decode cX5_lookAhead 126 = .ok (.iconst 0, 1) := by decide +kernel
theorem dX5_lookAhead_127 : decode cX5_lookAhead 127 = .ok (.iconst 0, 1) := by decide +kernel
theorem dX5_lookAhead_128 : decode cX5_lookAhead 128 = .ok (.iastore, 1) := by decide +kernel
theorem dX5_lookAhead_129 : decode cX5_lookAhead 129 = .ok (.aload_n 0, 1) := by decide +kernel
theorem dX5_lookAhead_130 : decode cX5_lookAhead 130 = .ok (.getfield 23, 3) := by decide +kernel
theorem dX5_lookAhead_133 : decode cX5_lookAhead 133 = .ok (.iconst 0, 1) := by decide +kernel
theorem dX5_lookAhead_134 : decode cX5_lookAhead 134 = .ok (.iconst 0, 1) := by decide +kernel
theorem dX5_lookAhead_135 : decode cX5_lookAhead 135 = .ok (.iastore, 1) := by decide +kernel
theorem dX5_lookAhead_136 : decode cX5_lookAhead 136 = .ok (.aload_n 0, 1) := by decide +kernel
theorem dX5_lookAhead_137 : decode cX5_lookAhead 137 = .ok (.iconst 1, 1) := by decide +kernel
theorem dX5_lookAhead_138 : decode cX5_lookAhead 138 = .ok (.putfield 111, 3) := by decide +kernel
theorem dX5_lookAhead_141 : decode cX5_lookAhead 141 = .ok (.aload_n 0, 1) := by decide +kernel
theorem dX5_lookAhead_142 : decode cX5_lookAhead 142 = .ok (.getfield 29, 3) := by decide +kernel
theorem dX5_lookAhead_145 : decode cX5_lookAhead 145 = .ok (.iconst 0, 1) := by decide +kernel
theorem dX5_lookAhead_146 : decode cX5_lookAhead 146 = .ok (.iconst 0, 1) := by decide +kernel
theorem dX5_lookAhead_147 : decode cX5_lookAhead 147 = .ok (.iastore, 1) := by decide +kernel
theorem dX5_lookAhead_148 : decode cX5_lookAhead 148 = .ok (.iconst 0, 1) := by decide +kernel
theorem dX5_lookAhead_149 : decode cX5_lookAhead 149 = .ok (.istore 4, 2) := by decide +kernel
theorem dX5_lookAhead_151 : decode cX5_lookAhead 151 = .ok (.iload 4, 2) := by decide +kernel
theorem dX5_lookAhead_153 : decode cX5_lookAhead 153 = .ok (.iload_n 1, 1) := by decide +kernel
theorem dX5_lookAhead_154 : decode cX5_lookAhead 154 = .ok (.if_icmp .ge 129, 3) := by decide +kernel
theorem dX5_lookAhead_157 : decode cX5_lookAhead 157 = .ok (.aload_n 0, 1) := by decide +kernel
theorem dX5_lookAhead_158 : decode cX5_lookAhead 158 = .ok (.getfield 29, 3) := by decide +kernel
theorem dX5_lookAhead_161 : decode cX5_lookAhead 161 = .ok (.iload 4, 2) := by decide +kernel
theorem dX5_lookAhead_163 : decode cX5_lookAhead 163 = .ok (.iconst 1, 1) := by decide +kernel
theorem dX5_lookAhead_164 : decode cX5_lookAhead 164 = .ok (.iadd, 1) := by decide +kernel
theorem dX5_lookAhead_165 : decode cX5_lookAhead 165 = .ok (.aload_n 0, 1) := by decide +kernel
theorem dX5_lookAhead_166 : decode cX5_lookAhead 166 = .ok (.getfield 111, 3) := by decide +kernel
theorem dX5_lookAhead_169 : decode cX5_lookAhead 169 = .ok (.iastore, 1) := by decide +kernel
theorem dX5_lookAhead_170 : decode cX5_lookAhead 170 = .ok (.aload_n 0, 1) := by decide +kernel
theorem dX5_lookAhead_171 : decode cX5_lookAhead 171 = .ok (.getfield 70, 3) := by decide +kernel
theorem dX5_lookAhead_174 : decode cX5_lookAhead 174 = .ok (.iload 4, 2) := by decide +kernel
theorem dX5_lookAhead_176 : decode cX5_lookAhead 176 = .ok (.iadd, 1) := by decide +kernel
theorem dX5_lookAhead_177 : decode cX5_lookAhead 177 = .ok (.iconst 2, 1) := by decide +kernel
theorem dX5_lookAhead_178 : decode cX5_lookAhead 178 = .ok (.irem, 1) := by decide +kernel
theorem dX5_lookAhead_179 : decode cX5_lookAhead 179 = .ok (.istore 5, 2) := by decide +kernel
theorem dX5_lookAhead_181 : decode cX5_lookAhead 181 = .ok (.aload_n 0, 1) := by decide +kernel
theorem dX5_lookAhead_182 : decode cX5_lookAhead 182 = .ok (.getfield 29, 3) := by decide +kernel
theorem dX5_lookAhead_185 : decode cX5_lookAhead 185 = .ok (.iload 4, 2) := by decide +kernel
theorem dX5_lookAhead_187 : decode cX5_lookAhead 187 = .ok (.iaload, 1) := by decide +kernel
theorem dX5_lookAhead_188 : decode cX5_lookAhead 188 = .ok (.istore 6, 2) := by decide +kernel
theorem dX5_lookAhead_190 : decode cX5_lookAhead 190 = .ok (.iload 6, 2) := by decide +kernel
theorem dX5_lookAhead_192 : decode cX5_lookAhead 192 = .ok (.aload_n 0, 1) := by decide +kernel
theorem dX5_lookAhead_193 : decode cX5_lookAhead 193 = .ok (.getfield 29, 3) := by decide +kernel
theorem dX5_lookAhead_196 : decode cX5_lookAhead 196 = .ok (.iload 4, 2) := by decide +kernel
theorem dX5_lookAhead_198 : decode cX5_lookAhead 198 = .ok (.iconst 1, 1) := by decide +kernel
theorem dX5_lookAhead_199 : decode cX5_lookAhead 199 = .ok (.iadd, 1) := by decide +kernel
theorem dX5_lookAhead_200 : decode cX5_lookAhead 200 = .ok (.iaload, 1) := by decide +kernel
theorem dX5_lookAhead_201 : decode cX5_lookAhead 201 = .ok (.if_icmp .ge 76, 3) := by decide +kernel
theorem dX5_lookAhead_204 : decode cX5_lookAhead 204 = .ok (.aload_n 0, 1) := by decide +kernel
theorem dX5_lookAhead_205 : decode cX5_lookAhead 205 = .ok (.iload 6, 2) := by decide +kernel
theorem dX5_lookAhead_207 : decode cX5_lookAhead 207 = .ok (.invokevirtual 124, 3) := by decide +kernel
theorem dX5_lookAhead_210 : decode cX5_lookAhead 210 = .ok (.iconst 0, 1) := by decide +kernel
theorem dX5_lookAhead_211 : decode cX5_lookAhead 211 = .ok (.istore 7, 2) := by decide +kernel
theorem dX5_lookAhead_213 : decode cX5_lookAhead 213 = .ok (.iload 7, 2) := by decide +kernel
theorem dX5_lookAhead_215 : decode cX5_lookAhead 215 = .ok (.aload_n 0, 1) := by decide +kernel
theorem dX5_lookAhead_216 : decode cX5_lookAhead 216 = .ok (.getfield 52, 3) := by decide +kernel
theorem dX5_lookAhead_219 : decode cX5_lookAhead 219 = .ok (.if_icmp .ge 52, 3) := by decide +kernel
theorem dX5_lookAhead_222 : decode cX5_lookAhead 222 = .ok (.aload_n 0, 1) := by decide +kernel
theorem dX5_lookAhead_223 : decode cX5_lookAhead 223 = .ok (.getfield 45, 3) := by decide +kernel
theorem dX5_lookAhead_226 : decode cX5_lookAhead 226 = .ok (.iload 7, 2) := by decide +kernel
theorem dX5_lookAhead_228 : decode cX5_lookAhead 228 = .ok (.iaload, 1) := by decide +kernel
theorem dX5_lookAhead_229 : decode cX5_lookAhead 229 = .ok (.aload_n 0, 1) := by decide +kernel
theorem dX5_lookAhead_230 : decode cX5_lookAhead 230 = .ok (.getfield 56, 3) := by decide +kernel
theorem dX5_lookAhead_233 : decode cX5_lookAhead 233 = .ok (.if_icmp .ge 32, 3) := by decide +kernel
theorem dX5_lookAhead_236 : decode cX5_lookAhead 236 = .ok (.aload_n 0, 1) := by decide +kernel
theorem dX5_lookAhead_237 : decode cX5_lookAhead 237 = .ok (.iload 7, 2) := by decide +kernel
theorem dX5_lookAhead_239 : decode cX5_lookAhead 239 = .ok (.iload 5, 2) := by decide +kernel
theorem dX5_lookAhead_241 : decode cX5_lookAhead 241 = .ok (.invokevirtual 114, 3) := by decide +kernel
theorem dX5_lookAhead_244 : decode cX5_lookAhead 244 = .ok (.ifCond .ne 21, 3) := by decide +kernel
theorem dX5_lookAhead_247 : decode cX5_lookAhead 247 = .ok (.iload 4, 2) := by decide +kernel
theorem dX5_lookAhead_249 : decode cX5_lookAhead 249 = .ok (.iconst 1, 1) := by decide +kernel
theorem dX5_lookAhead_250 : decode cX5_lookAhead 250 = .ok (.iadd, 1) := by decide +kernel
theorem dX5_lookAhead_251 : decode cX5_lookAhead 251 = .ok (.iload_n 1, 1) := by decide +kernel
theorem dX5_lookAhead_252 : decode cX5_lookAhead 252 = .ok (.if_icmp .ge 13, 3) := by decide +kernel
theorem dX5_lookAhead_255 : decode cX5_lookAhead 255 = .ok (.aload_n 0, 1) := by decide +kernel
theorem dX5_lookAhead_256 : decode cX5_lookAhead 256 = .ok (.iload 6, 2) := by decide +kernel
theorem dX5_lookAhead_258 : decode cX5_lookAhead 258 = .ok (.iload 7, 2) := by decide +kernel
theorem dX5_lookAhead_260 : decode cX5_lookAhead 260 = .ok (.iload 5, 2) := by decide +kernel
theorem dX5_lookAhead_262 : decode cX5_lookAhead 262 = .ok (.invokevirtual 128, 3) := by decide +kernel
theorem dX5_lookAhead_265 : decode cX5_lookAhead 265 = .ok (.iinc 7 1, 3) := by decide +kernel
theorem dX5_lookAhead_268 : decode cX5_lookAhead 268 = .ok (.goto (-55), 3) := by decide +kernel
theorem dX5_lookAhead_271 : decode cX5_lookAhead 271 = .ok (.iinc 6 1, 3) := by decide +kernel
theorem dX5_lookAhead_274 : decode cX5_lookAhead 274 = .ok (.goto (-84), 3) := by decide +kernel
theorem dX5_lookAhead_277 : decode cX5_lookAhead 277 = .ok (.iinc 4 1, 3) := by decide +kernel
theorem dX5_lookAhead_280 : decode cX5_lookAhead 280 = .ok (.goto (-129), 3) := by decide +kernel
theorem dX5_lookAhead_283 : decode cX5_lookAhead 283 = .ok (.iload_n 1, 1) := by decide +kernel
theorem dX5_lookAhead_284 : decode cX5_lookAhead 284 = .ok (.iconst 1, 1) := by decide +kernel
theorem dX5_lookAhead_285 : decode cX5_lookAhead 285 = .ok (.isub, 1) := by decide +kernel
theorem dX5_lookAhead_286 : decode cX5_lookAhead 286 = .ok (.istore 4, 2) := by decide +kernel
theorem dX5_lookAhead_288 : decode cX5_lookAhead 288 = .ok (.iload 4, 2) := by decide +kernel
theorem dX5_lookAhead_290 : decode cX5_lookAhead 290 = .ok (.ifCond .lt 156, 3) := by decide +kernel
theorem dX5_lookAhead_293 : decode cX5_lookAhead 293 = .ok (.aload_n 0, 1) := by decide +kernel
theorem dX5_lookAhead_294 : decode cX5_lookAhead 294 = .ok (.getfield 70, 3) := by decide +kernel
theorem dX5_lookAhead_297 : decode cX5_lookAhead 297 = .ok (.iload 4, 2) := by decide +kernel
theorem dX5_lookAhead_299 : decode cX5_lookAhead 299 = .ok (.iadd, 1) := by decide +kernel
theorem dX5_lookAhead_300 : decode cX5_lookAhead 300 = .ok (.iconst 2, 1) := by decide +kernel
theorem dX5_lookAhead_301 : decode cX5_lookAhead 301 = .ok (.irem, 1) := by decide +kernel
theorem dX5_lookAhead_302 : decode cX5_lookAhead 302 = .ok (.istore 5, 2) := by decide +kernel
theorem dX5_lookAhead_304 : decode cX5_lookAhead 304 = .ok (.aload_n 0, 1) := by decide +kernel
theorem dX5_lookAhead_305 : decode cX5_lookAhead 305 = .ok (.getfield 29, 3) := by decide +kernel
theorem dX5_lookAhead_308 : decode cX5_lookAhead 308 = .ok (.iload 4, 2) := by decide +kernel
theorem dX5_lookAhead_310 : decode cX5_lookAhead 310 = .ok (.iaload, 1) := by decide +kernel
theorem dX5_lookAhead_311 : decode cX5_lookAhead 311 = .ok (.istore 6, 2) := by decide +kernel
theorem dX5_lookAhead_313 : decode cX5_lookAhead 313 = .ok (.iload 6, 2) := by decide +kernel
theorem dX5_lookAhead_315 : decode cX5_lookAhead 315 = .ok (.aload_n 0, 1) := by decide +kernel
theorem dX5_lookAhead_316 : decode cX5_lookAhead 316 = .ok (.getfield 29, 3) := by decide +kernel
theorem dX5_lookAhead_319 : decode cX5_lookAhead 319 = .ok (.iload 4, 2) := by decide +kernel
theorem dX5_lookAhead_321 : decode cX5_lookAhead 321 = .ok (.iconst 1, 1) := by decide +kernel
theorem dX5_lookAhead_322 : decode cX5_lookAhead 322 = .ok (.iadd, 1) := by decide +kernel
theorem dX5_lookAhead_323 : decode cX5_lookAhead 323 = .ok (.iaload, 1) := by decide +kernel
theorem dX5_lookAhead_324 : decode cX5_lookAhead 324 = .ok (.if_icmp .ge 116, 3) := by decide +kernel
theorem dX5_lookAhead_327 : decode cX5_lookAhead 327 = .ok (.aload_n 0, 1) := by decide +kernel
theorem dX5_lookAhead_328 : decode cX5_lookAhead 328 = .ok (.iload 6, 2) := by decide +kernel
theorem dX5_lookAhead_330 : decode cX5_lookAhead 330 = .ok (.invokevirtual 124, 3) := by decide +kernel
theorem dX5_lookAhead_333 : decode cX5_lookAhead 333 = .ok (.sipush (-999), 3) := by decide +kernel
theorem dX5_lookAhead_336 : decode cX5_lookAhead 336 = .ok (.istore 7, 2) := by decide +kernel
theorem dX5_lookAhead_338 : decode cX5_lookAhead 338 = .ok (.iconst 0, 1) := by decide +kernel
theorem dX5_lookAhead_339 : decode cX5_lookAhead 339 = .ok (.istore 8, 2) := by decide +kernel
theorem dX5_lookAhead_341 : decode cX5_lookAhead 341 = .ok (.iload 8, 2) := by decide +kernel
theorem dX5_lookAhead_343 : decode cX5_lookAhead 343 = .ok (.aload_n 0, 1) := by decide +kernel
theorem dX5_lookAhead_344 : decode cX5_lookAhead 344 = .ok (.getfield 52, 3) := by decide +kernel
theorem dX5_lookAhead_347 : decode cX5_lookAhead 347 = .ok (.if_icmp .ge 78, 3) := by decide +kernel
theorem dX5_lookAhead_350 : decode cX5_lookAhead 350 = .ok (.aload_n 0, 1) := by decide +kernel
theorem dX5_lookAhead_351 : decode cX5_lookAhead 351 = .ok (.getfield 45, 3) := by decide +kernel
theorem dX5_lookAhead_354 : decode cX5_lookAhead 354 = .ok (.iload 8, 2) := by decide +kernel
theorem dX5_lookAhead_356 : decode cX5_lookAhead 356 = .ok (.iaload, 1) := by decide +kernel
theorem dX5_lookAhead_357 : decode cX5_lookAhead 357 = .ok (.aload_n 0, 1) := by decide +kernel
theorem dX5_lookAhead_358 : decode cX5_lookAhead 358 = .ok (.getfield 56, 3) := by decide +kernel
theorem dX5_lookAhead_361 : decode cX5_lookAhead 361 = .ok (.if_icmp .ge 58, 3) := by decide +kernel
theorem dX5_lookAhead_364 : decode cX5_lookAhead 364 = .ok (.aload_n 0, 1) := by decide +kernel
theorem dX5_lookAhead_365 : decode cX5_lookAhead 365 = .ok (.iload 6, 2) := by decide +kernel
theorem dX5_lookAhead_367 : decode cX5_lookAhead 367 = .ok (.iload 8, 2) := by decide +kernel
theorem dX5_lookAhead_369 : decode cX5_lookAhead 369 = .ok (.iload 5, 2) := by decide +kernel
theorem dX5_lookAhead_371 : decode cX5_lookAhead 371 = .ok (.iload 4, 2) := by decide +kernel
theorem dX5_lookAhead_373 : decode cX5_lookAhead 373 = .ok (.iload_n 1, 1) := by decide +kernel
theorem dX5_lookAhead_374 : decode cX5_lookAhead 374 = .ok (.iconst 1, 1) := by decide +kernel
theorem dX5_lookAhead_375 : decode cX5_lookAhead 375 = .ok (.isub, 1) := by decide +kernel
theorem dX5_lookAhead_376 : decode cX5_lookAhead 376 = .ok (.if_icmp .ne 7, 3) := by decide +kernel
theorem dX5_lookAhead_379 : decode cX5_lookAhead 379 = .ok (.iconst 1, 1) := by decide +kernel
theorem dX5_lookAhead_380 : decode cX5_lookAhead 380 = .ok (.goto 4, 3) := by decide +kernel
theorem dX5_lookAhead_383 : decode cX5_lookAhead 383 = .ok (.iconst 0, 1) := by decide +kernel
theorem dX5_lookAhead_384 : decode cX5_lookAhead 384 = .ok (.invokevirtual 132, 3) := by decide +kernel
theorem dX5_lookAhead_387 : decode cX5_lookAhead 387 = .ok (.istore 9, 2) := by decide +kernel
theorem dX5_lookAhead_389 : decode cX5_lookAhead 389 = .ok (.iload 7, 2) := by decide +kernel
theorem dX5_lookAhead_391 : decode cX5_lookAhead 391 = .ok (.sipush (-999), 3) := by decide +kernel
theorem dX5_lookAhead_394 : decode cX5_lookAhead 394 = .ok (.if_icmp .eq 16, 3) := by decide +kernel
theorem dX5_lookAhead_397 : decode cX5_lookAhead 397 = .ok (.iload 9, 2) := by decide +kernel
theorem dX5_lookAhead_399 : decode cX5_lookAhead 399 = .ok (.invokestatic 136, 3) := by decide +kernel
theorem dX5_lookAhead_402 : decode cX5_lookAhead 402 = .ok (.iload 7, 2) := by decide +kernel
theorem dX5_lookAhead_404 : decode cX5_lookAhead 404 = .ok (.invokestatic 136, 3) := by decide +kernel
theorem dX5_lookAhead_407 : decode cX5_lookAhead 407 = .ok (.if_icmp .le 8, 3) := by decide +kernel
theorem dX5_lookAhead_410 : decode cX5_lookAhead 410 = .ok (.iload 9, 2) := by decide +kernel
theorem dX5_lookAhead_412 : decode cX5_lookAhead 412 = .ok (.goto 5, 3) := by decide +kernel
theorem dX5_lookAhead_415 : decode cX5_lookAhead 415 = .ok (.iload 7, 2) := by decide +kernel
theorem dX5_lookAhead_417 : decode cX5_lookAhead 417 = .ok (.istore 7, 2) := by decide +kernel
theorem dX5_lookAhead_419 : decode cX5_lookAhead 419 = .ok (.iinc 8 1, 3) := by decide +kernel
theorem dX5_lookAhead_422 : decode cX5_lookAhead 422 = .ok (.goto (-81), 3) := by decide +kernel
theorem dX5_lookAhead_425 : decode cX5_lookAhead 425 = .ok (.aload_n 0, 1) := by decide +kernel
theorem dX5_lookAhead_426 : decode cX5_lookAhead 426 = .ok (.getfield 26, 3) := by decide +kernel
theorem dX5_lookAhead_429 : decode cX5_lookAhead 429 = .ok (.iload 6, 2) := by decide +kernel
theorem dX5_lookAhead_431 : decode cX5_lookAhead 431 = .ok (.iload 7, 2) := by decide +kernel
theorem dX5_lookAhead_433 : decode cX5_lookAhead 433 = .ok (.iastore, 1) := by decide +kernel
theorem dX5_lookAhead_434 : decode cX5_lookAhead 434 = .ok (.iinc 6 1, 3) := by decide +kernel
theorem dX5_lookAhead_437 : decode cX5_lookAhead 437 = .ok (.goto (-124), 3) := by decide +kernel
theorem dX5_lookAhead_440 : decode cX5_lookAhead 440 = .ok (.iinc 4 (-1), 3) := by decide +kernel
theorem dX5_lookAhead_443 : decode cX5_lookAhead 443 = .ok (.goto (-155), 3) := by decide +kernel
theorem dX5_lookAhead_446 : decode cX5_lookAhead 446 = .ok (.return_, 1) := by decide +kernel
theorem dX5_isFar_0 : decode cX5_isFar 0 = .ok (.aload_n 0, 1) := by decide +kernel
theorem dX5_isFar_1 : decode cX5_isFar 1 = .ok (.invokevirtual 77, 3) := by decide +kernel
theorem dX5_isFar_4 : decode cX5_isFar 4 = .ok (.ifCond .ge 22, 3) := by decide +kernel
theorem dX5_isFar_7 : decode cX5_isFar 7 = .ok (.aload_n 0, 1) := by decide +kernel
theorem dX5_isFar_8 : decode cX5_isFar 8 = .ok (.getfield 52, 3) := by decide +kernel
theorem dX5_isFar_11 : decode cX5_isFar 11 = .ok (.aload_n 0, 1) := by decide +kernel
theorem dX5_isFar_12 : decode cX5_isFar 12 = .ok (.getfield 56, 3) := by decide +kernel
theorem dX5_isFar_15 : decode cX5_isFar 15 = .ok (.imul, 1) := by decide +kernel
theorem dX5_isFar_16 : decode cX5_isFar 16 = .ok (.aload_n 0, 1) := by decide +kernel
theorem dX5_isFar_17 : decode cX5_isFar 17 = .ok (.getfield 70, 3) := by decide +kernel
theorem dX5_isFar_20 : decode cX5_isFar 20 = .ok (.isub, 1) := by decide +kernel
theorem dX5_isFar_21 : decode cX5_isFar 21 = .ok (.bipush 12, 2) := by decide +kernel
theorem dX5_isFar_23 : decode cX5_isFar 23 = .ok (.if_icmp .le 7, 3) := by decide +kernel
theorem dX5_isFar_26 : decode cX5_isFar 26 = .ok (.iconst 1, 1) := by decide +kernel
theorem dX5_isFar_27 : decode cX5_isFar 27 = .ok (.goto 4, 3) := by decide +kernel
theorem dX5_isFar_30 : decode cX5_isFar 30 = .ok (.iconst 0, 1) := by decide +kernel
theorem dX5_isFar_31 : decode cX5_isFar 31 = .ok (.ireturn, 1) := by decide +kernel
theorem dX5_value_0 : decode cX5_value 0 = .ok (.aload_n 0, 1) := by decide +kernel
theorem dX5_value_1 : decode cX5_value 1 = .ok (.aload_n 0, 1) := by decide +kernel
theorem dX5_value_2 : decode cX5_value 2 = .ok (.invokevirtual 139, 3) := by decide +kernel
theorem dX5_value_5 : decode cX5_value 5 = .ok (.iconst 0, 1) := by decide +kernel
theorem dX5_value_6 : decode cX5_value 6 = .ok (.invokevirtual 81, 3) := by decide +kernel
theorem dX5_value_9 : decode cX5_value 9 = .ok (.ifCond .eq 5, 3) := by decide +kernel
theorem dX5_value_12 : decode cX5_value 12 = .ok (.iconst 0, 1) := by decide +kernel
theorem dX5_value_13 : decode cX5_value 13 = .ok (.ireturn, 1) := by decide +kernel
theorem dX5_value_14 : decode cX5_value 14 = .ok (.aload_n 0, 1) := by decide +kernel
theorem dX5_value_15 : decode cX5_value 15 = .ok (.invokevirtual 143, 3) := by decide +kernel
theorem dX5_value_18 : decode cX5_value 18 = .ok (.aload_n 0, 1) := by decide +kernel
theorem dX5_value_19 : decode cX5_value 19 = .ok (.getfield 26, 3) := by decide +kernel
theorem dX5_value_22 : decode cX5_value 22 = .ok (.iconst 0, 1) := by decide +kernel
theorem dX5_value_23 : decode cX5_value 23 = .ok (.iaload, 1) := by decide +kernel
theorem dX5_value_24 : decode cX5_value 24 = .ok (.ireturn, 1) := by decide +kernel
theorem dX5_valueOf_0 : decode cX5_valueOf 0 = .ok (.iload_n 1, 1) := by decide +kernel
theorem dX5_valueOf_1 : decode cX5_valueOf 1 = .ok (.ifCond .lt 11, 3) := by decide +kernel
theorem dX5_valueOf_4 : decode cX5_valueOf 4 = .ok (.iload_n 1, 1) := by decide +kernel
theorem dX5_valueOf_5 : decode cX5_valueOf 5 = .ok (.aload_n 0, 1) := by decide +kernel
theorem dX5_valueOf_6 : decode cX5_valueOf 6 = .ok (.getfield 52, 3) := by decide +kernel
theorem dX5_valueOf_9 : decode cX5_valueOf 9 = .ok (.if_icmp .lt 7, 3) := by decide +kernel
theorem dX5_valueOf_12 : decode cX5_valueOf 12 = .ok (.iconst 1, 1) := by decide +kernel
theorem dX5_valueOf_13 : decode cX5_valueOf 13 = .ok (.goto 4, 3) := by decide +kernel
theorem dX5_valueOf_16 : decode cX5_valueOf 16 = .ok (.iconst 0, 1) := by decide +kernel
theorem dX5_valueOf_17 : decode cX5_valueOf 17 = .ok (.istore_n 2, 1) := by decide +kernel
theorem dX5_valueOf_18 : decode cX5_valueOf 18 = .ok (.aload_n 0, 1) := by decide +kernel
theorem dX5_valueOf_19 : decode cX5_valueOf 19 = .ok (.iload_n 2, 1) := by decide +kernel
theorem dX5_valueOf_20 : decode cX5_valueOf 20 = .ok (.iload_n 2, 1) := by decide +kernel
theorem dX5_valueOf_21 : decode cX5_valueOf 21 = .ok (.ifCond .ne 27, 3) := by decide +kernel
theorem dX5_valueOf_24 : decode cX5_valueOf 24 = .ok (.aload_n 0, 1) := by decide +kernel
theorem dX5_valueOf_25 : decode cX5_valueOf 25 = .ok (.invokevirtual 139, 3) := by decide +kernel
theorem dX5_valueOf_28 : decode cX5_valueOf 28 = .ok (.ifCond .ne 16, 3) := by decide +kernel
theorem dX5_valueOf_31 : decode cX5_valueOf 31 = .ok (.aload_n 0, 1) := by decide +kernel
theorem dX5_valueOf_32 : decode cX5_valueOf 32 = .ok (.getfield 13, 3) := by decide +kernel
theorem dX5_valueOf_35 : decode cX5_valueOf 35 = .ok (.iload_n 1, 1) := by decide +kernel
theorem dX5_valueOf_36 : decode cX5_valueOf 36 = .ok (.iaload, 1) := by decide +kernel
theorem dX5_valueOf_37 : decode cX5_valueOf 37 = .ok (.aload_n 0, 1) := by decide +kernel
theorem dX5_valueOf_38 : decode cX5_valueOf 38 = .ok (.getfield 56, 3) := by decide +kernel
theorem dX5_valueOf_41 : decode cX5_valueOf 41 = .ok (.if_icmp .ne 7, 3) := by decide +kernel
theorem dX5_valueOf_44 : decode cX5_valueOf 44 = .ok (.iconst 1, 1) := by decide +kernel
theorem dX5_valueOf_45 : decode cX5_valueOf 45 = .ok (.goto 4, 3) := by decide +kernel
theorem dX5_valueOf_48 : decode cX5_valueOf 48 = .ok (.iconst 0, 1) := by decide +kernel
theorem dX5_valueOf_49 : decode cX5_valueOf 49 = .ok (.invokevirtual 81, 3) := by decide +kernel
theorem dX5_valueOf_52 : decode cX5_valueOf 52 = .ok (.ifCond .eq 5, 3) := by decide +kernel
theorem dX5_valueOf_55 : decode cX5_valueOf 55 = .ok (.iconst 0, 1) := by decide +kernel
theorem dX5_valueOf_56 : decode cX5_valueOf 56 = .ok (.ireturn, 1) := by decide +kernel
theorem dX5_valueOf_57 : decode cX5_valueOf 57 = .ok (.aload_n 0, 1) := by decide +kernel
theorem dX5_valueOf_58 : decode cX5_valueOf 58 = .ok (.invokevirtual 143, 3) := by decide +kernel
theorem dX5_valueOf_61 : decode cX5_valueOf 61 = .ok (.aload_n 0, 1) := by decide +kernel
theorem dX5_valueOf_62 : decode cX5_valueOf 62 = .ok (.iconst 0, 1) := by decide +kernel
theorem dX5_valueOf_63 : decode cX5_valueOf 63 = .ok (.invokevirtual 124, 3) := by decide +kernel
theorem dX5_valueOf_66 : decode cX5_valueOf 66 = .ok (.aload_n 0, 1) := by decide +kernel
theorem dX5_valueOf_67 : decode cX5_valueOf 67 = .ok (.iconst 0, 1) := by decide +kernel
theorem dX5_valueOf_68 : decode cX5_valueOf 68 = .ok (.iload_n 1, 1) := by decide +kernel
theorem dX5_valueOf_69 : decode cX5_valueOf 69 = .ok (.aload_n 0, 1) := by decide +kernel
