theorem dX4_init_0 : decode cX4_init 0 = .ok (.aload_n 0, 1) := by decide +kernel
theorem dX4_init_1 : decode cX4_init 1 = .ok (.invokespecial 1, 3) := by decide +kernel
theorem dX4_init_4 : decode cX4_init 4 = .ok (.aload_n 0, 1) := by decide +kernel
theorem dX4_init_5 : decode cX4_init 5 = .ok (.iconst 2, 1) := by decide +kernel
theorem dX4_init_6 : decode cX4_init 6 = .ok (.newarray .long, 2) := by decide +kernel
theorem dX4_init_8 : decode cX4_init 8 = .ok (.putfield 7, 3) := by decide +kernel
theorem dX4_init_11 : decode cX4_init 11 = .ok (.aload_n 0, 1) := by decide +kernel
theorem dX4_init_12 : decode cX4_init 12 = .ok (.iconst 0, 1) := by decide +kernel
theorem dX4_init_13 : decode cX4_init 13 = .ok (.putfield 13, 3) := by decide +kernel
theorem dX4_init_16 : decode cX4_init 16 = .ok (.iload_n 1, 1) := by decide +kernel
theorem dX4_init_17 : decode cX4_init 17 = .ok (.bipush 9, 2) := by decide +kernel
theorem dX4_init_19 : decode cX4_init 19 = .ok (.invokestatic 17, 3) := by decide +kernel
theorem dX4_init_22 : decode cX4_init 22 = .ok (.istore_n 3, 1) := by decide +kernel
theorem dX4_init_23 : decode cX4_init 23 = .ok (.iload_n 2, 1) := by decide +kernel
theorem dX4_init_24 : decode cX4_init 24 = .ok (.iload_n 3, 1) := by decide +kernel
theorem dX4_init_25 : decode cX4_init 25 = .ok (.bipush 9, 2) := by decide +kernel
theorem dX4_init_27 : decode cX4_init 27 = .ok (.if_icmp .ne 8, 3) := by decide +kernel
theorem dX4_init_30 : decode cX4_init 30 = .ok (.bipush 6, 2) := by decide +kernel
theorem dX4_init_32 : decode cX4_init 32 = .ok (.goto 5, 3) := by decide +kernel
theorem dX4_init_35 : decode cX4_init 35 = .ok (.bipush 7, 2) := by decide +kernel
theorem dX4_init_37 : decode cX4_init 37 = .ok (.invokestatic 17, 3) := by decide +kernel
theorem dX4_init_40 : decode cX4_init 40 = .ok (.istore 4, 2) := by decide +kernel
theorem dX4_init_42 : decode cX4_init 42 = .ok (.aload_n 0, 1) := by decide +kernel
theorem dX4_init_43 : decode cX4_init 43 = .ok (.new 21, 3) := by decide +kernel
theorem dX4_init_46 : decode cX4_init 46 = .ok (.dup, 1) := by decide +kernel
theorem dX4_init_47 : decode cX4_init 47 = .ok (.iload_n 3, 1) := by decide +kernel
theorem dX4_init_48 : decode cX4_init 48 = .ok (.iload 4, 2) := by decide +kernel
theorem dX4_init_50 : decode cX4_init 50 = .ok (.invokespecial 23, 3) := by decide +kernel
theorem dX4_init_53 : decode cX4_init 53 = .ok (.putfield 26, 3) := by decide +kernel
theorem dX4_init_56 : decode cX4_init 56 = .ok (.aload_n 0, 1) := by decide +kernel
theorem dX4_init_57 : decode cX4_init 57 = .ok (.new 30, 3) := by decide +kernel
theorem dX4_init_60 : decode cX4_init 60 = .ok (.dup, 1) := by decide +kernel
theorem dX4_init_61 : decode cX4_init 61 = .ok (.aload_n 0, 1) := by decide +kernel
theorem dX4_init_62 : decode cX4_init 62 = .ok (.getfield 26, 3) := by decide +kernel
theorem dX4_init_65 : decode cX4_init 65 = .ok (.invokespecial 32, 3) := by decide +kernel
theorem dX4_init_68 : decode cX4_init 68 = .ok (.putfield 35, 3) := by decide +kernel
theorem dX4_init_71 : decode cX4_init 71 = .ok (.aload_n 0, 1) := by decide +kernel
theorem dX4_init_72 : decode cX4_init 72 = .ok (.new 39, 3) := by decide +kernel
theorem dX4_init_75 : decode cX4_init 75 = .ok (.dup, 1) := by decide +kernel
theorem dX4_init_76 : decode cX4_init 76 = .ok (.aload_n 0, 1) := by decide +kernel
theorem dX4_init_77 : decode cX4_init 77 = .ok (.getfield 26, 3) := by decide +kernel
theorem dX4_init_80 : decode cX4_init 80 = .ok (.invokespecial 41, 3) := by decide +kernel
theorem dX4_init_83 : decode cX4_init 83 = .ok (.putfield 42, 3) := by decide +kernel
theorem dX4_init_86 : decode cX4_init 86 = .ok (.aload_n 0, 1) := by decide +kernel
theorem dX4_init_87 : decode cX4_init 87 = .ok (.iload_n 3, 1) := by decide +kernel
theorem dX4_init_88 : decode cX4_init 88 = .ok (.newarray .int, 2) := by decide +kernel
theorem dX4_init_90 : decode cX4_init 90 = .ok (.putfield 46, 3) := by decide +kernel
theorem dX4_init_93 : decode cX4_init 93 = .ok (.aload_n 0, 1) := by decide +kernel
theorem dX4_init_94 : decode cX4_init 94 = .ok (.iload_n 3, 1) := by decide +kernel
theorem dX4_init_95 : decode cX4_init 95 = .ok (.iload 4, 2) := by decide +kernel
theorem dX4_init_97 : decode cX4_init 97 = .ok (.imul, 1) := by decide +kernel
theorem dX4_init_98 : decode cX4_init 98 = .ok (.newarray .int, 2) := by decide +kernel
theorem dX4_init_100 : decode cX4_init 100 = .ok (.putfield 50, 3) := by decide +kernel
theorem dX4_init_103 : decode cX4_init 103 = .ok (.return_, 1) := by decide +kernel
theorem dX4_drop_0 : decode cX4_drop 0 = .ok (.aload_n 0, 1) := by decide +kernel
theorem dX4_drop_1 : decode cX4_drop 1 = .ok (.iload_n 1, 1) := by decide +kernel
theorem dX4_drop_2 : decode cX4_drop 2 = .ok (.invokevirtual 53, 3) := by decide +kernel
theorem dX4_drop_5 : decode cX4_drop 5 = .ok (.ifCond .ne 13, 3) := by decide +kernel
theorem dX4_drop_8 : decode cX4_drop 8 = .ok (.new 57, 3) := by decide +kernel
theorem dX4_drop_11 : decode cX4_drop 11 = .ok (.dup, 1) := by decide +kernel
theorem dX4_drop_12 : decode cX4_drop 12 = .ok (.ldc 59, 2) := by decide +kernel
theorem dX4_drop_14 : decode cX4_drop 14 = .ok (.invokespecial 61, 3) := by decide +kernel
theorem dX4_drop_17 : decode cX4_drop 17 = .ok (.athrow, 1) := by decide +kernel
theorem dX4_drop_18 : decode cX4_drop 18 = .ok (.aload_n 0, 1) := by decide +kernel
theorem dX4_drop_19 : decode cX4_drop 19 = .ok (.invokevirtual 64, 3) := by decide +kernel
theorem dX4_drop_22 : decode cX4_drop 22 = .ok (.ifCond .ne 11, 3) := by decide +kernel
theorem dX4_drop_25 : decode cX4_drop 25 = .ok (.aload_n 0, 1) := by decide +kernel
theorem dX4_drop_26 : decode cX4_drop 26 = .ok (.iload_n 1, 1) := by decide +kernel
theorem dX4_drop_27 : decode cX4_drop 27 = .ok (.invokevirtual 68, 3) := by decide +kernel
theorem dX4_drop_30 : decode cX4_drop 30 = .ok (.ifCond .eq 13, 3) := by decide +kernel
theorem dX4_drop_33 : decode cX4_drop 33 = .ok (.new 71, 3) := by decide +kernel
theorem dX4_drop_36 : decode cX4_drop 36 = .ok (.dup, 1) := by decide +kernel
theorem dX4_drop_37 : decode cX4_drop 37 = .ok (.ldc 73, 2) := by decide +kernel
theorem dX4_drop_39 : decode cX4_drop 39 = .ok (.invokespecial 75, 3) := by decide +kernel
theorem dX4_drop_42 : decode cX4_drop 42 = .ok (.athrow, 1) := by decide +kernel
theorem dX4_drop_43 : decode cX4_drop 43 = .ok (.aload_n 0, 1) := by decide +kernel
theorem dX4_drop_44 : decode cX4_drop 44 = .ok (.getfield 46, 3) := by decide +kernel
theorem dX4_drop_47 : decode cX4_drop 47 = .ok (.iload_n 1, 1) := by decide +kernel
theorem dX4_drop_48 : decode cX4_drop 48 = .ok (.iaload, 1) := by decide +kernel
theorem dX4_drop_49 : decode cX4_drop 49 = .ok (.istore_n 2, 1) := by decide +kernel
theorem dX4_drop_50 : decode cX4_drop 50 = .ok (.aload_n 0, 1) := by decide +kernel
theorem dX4_drop_51 : decode cX4_drop 51 = .ok (.getfield 7, 3) := by decide +kernel
theorem dX4_drop_54 : decode cX4_drop 54 = .ok (.aload_n 0, 1) := by decide +kernel
theorem dX4_drop_55 : decode cX4_drop 55 = .ok (.invokevirtual 76, 3) := by decide +kernel
theorem dX4_drop_58 : decode cX4_drop 58 = .ok (.dup2, 1) := by decide +kernel
theorem dX4_drop_59 : decode cX4_drop 59 = .ok (.laload, 1) := by decide +kernel
theorem dX4_drop_60 : decode cX4_drop 60 = .ok (.aload_n 0, 1) := by decide +kernel
theorem dX4_drop_61 : decode cX4_drop 61 = .ok (.getfield 26, 3) := by decide +kernel
theorem dX4_drop_64 : decode cX4_drop 64 = .ok (.iload_n 1, 1) := by decide +kernel
theorem dX4_drop_65 : decode cX4_drop 65 = .ok (.iload_n 2, 1) := by decide +kernel
theorem dX4_drop_66 : decode cX4_drop 66 = .ok (.invokevirtual 80, 3) := by decide +kernel
theorem dX4_drop_69 : decode cX4_drop 69 = .ok (.lor, 1) := by decide +kernel
theorem dX4_drop_70 : decode cX4_drop 70 = .ok (.lastore, 1) := by decide +kernel
theorem dX4_drop_71 : decode cX4_drop 71 = .ok (.aload_n 0, 1) := by decide +kernel
theorem dX4_drop_72 : decode cX4_drop 72 = .ok (.getfield 46, 3) := by decide +kernel
theorem dX4_drop_75 : decode cX4_drop 75 = .ok (.iload_n 1, 1) := by decide +kernel
theorem dX4_drop_76 : decode cX4_drop 76 = .ok (.dup2, 1) := by decide +kernel
theorem dX4_drop_77 : decode cX4_drop 77 = .ok (.iaload, 1) := by decide +kernel
theorem dX4_drop_78 : decode cX4_drop 78 = .ok (.iconst 1, 1) := by decide +kernel
theorem dX4_drop_79 : decode cX4_drop 79 = .ok (.iadd, 1) := by decide +kernel
theorem dX4_drop_80 : decode cX4_drop 80 = .ok (.iastore, 1) := by decide +kernel
theorem dX4_drop_81 : decode cX4_drop 81 = .ok (.aload_n 0, 1) := by decide +kernel
theorem dX4_drop_82 : decode cX4_drop 82 = .ok (.getfield 50, 3) := by decide +kernel
theorem dX4_drop_85 : decode cX4_drop 85 = .ok (.aload_n 0, 1) := by decide +kernel
theorem dX4_drop_86 : decode cX4_drop 86 = .ok (.getfield 13, 3) := by decide +kernel
theorem dX4_drop_89 : decode cX4_drop 89 = .ok (.iload_n 1, 1) := by decide +kernel
theorem dX4_drop_90 : decode cX4_drop 90 = .ok (.iastore, 1) := by decide +kernel
theorem dX4_drop_91 : decode cX4_drop 91 = .ok (.aload_n 0, 1) := by decide +kernel
theorem dX4_drop_92 : decode cX4_drop 92 = .ok (.dup, 1) := by decide +kernel
theorem dX4_drop_93 : decode cX4_drop 93 = .ok (.getfield 13, 3) := by decide +kernel
theorem dX4_drop_96 : decode cX4_drop 96 = .ok (.iconst 1, 1) := by decide +kernel
theorem dX4_drop_97 : decode cX4_drop 97 = .ok (.iadd, 1) := by decide +kernel
theorem dX4_drop_98 : decode cX4_drop 98 = .ok (.putfield 13, 3) := by decide +kernel
theorem dX4_drop_101 : decode cX4_drop 101 = .ok (.iload_n 2, 1) := by decide +kernel
theorem dX4_drop_102 : decode cX4_drop 102 = .ok (.ireturn, 1) := by decide +kernel
theorem dX4_back_0 : decode cX4_back 0 = .ok (.aload_n 0, 1) := by decide +kernel
theorem dX4_back_1 : decode cX4_back 1 = .ok (.getfield 13, 3) := by decide +kernel
theorem dX4_back_4 : decode cX4_back 4 = .ok (.ifCond .ne 13, 3) := by decide +kernel
theorem dX4_back_7 : decode cX4_back 7 = .ok (.new 71, 3) := by decide +kernel
theorem dX4_back_10 : decode cX4_back 10 = .ok (.dup, 1) := by decide +kernel
theorem dX4_back_11 : decode cX4_back 11 = .ok (.ldc 84, 2) := by decide +kernel
theorem dX4_back_13 : decode cX4_back 13 = .ok (.invokespecial 75, 3) := by decide +kernel
theorem dX4_back_16 : decode cX4_back 16 = .ok (.athrow, 1) := by decide +kernel
theorem dX4_back_17 : decode cX4_back 17 = .ok (.aload_n 0, 1) := by decide +kernel
theorem dX4_back_18 : decode cX4_back 18 = .ok (.dup, 1) := by decide +kernel
theorem dX4_back_19 : decode cX4_back 19 = .ok (.getfield 13, 3) := by decide +kernel
theorem dX4_back_22 : decode cX4_back 22 = .ok (.iconst 1, 1) := by decide +kernel
theorem dX4_back_23 : decode cX4_back 23 = .ok (.isub, 1) := by decide +kernel
theorem dX4_back_24 : decode cX4_back 24 = .ok (.putfield 13, 3) := by decide +kernel
theorem dX4_back_27 : decode cX4_back 27 = .ok (.aload_n 0, 1) := by decide +kernel
theorem dX4_back_28 : decode cX4_back 28 = .ok (.getfield 50, 3) := by decide +kernel
theorem dX4_back_31 : decode cX4_back 31 = .ok (.aload_n 0, 1) := by decide +kernel
theorem dX4_back_32 : decode cX4_back 32 = .ok (.getfield 13, 3) := by decide +kernel
theorem dX4_back_35 : decode cX4_back 35 = .ok (.iaload, 1) := by decide +kernel
theorem dX4_back_36 : decode cX4_back 36 = .ok (.istore_n 1, 1) := by decide +kernel
theorem dX4_back_37 : decode cX4_back 37 = .ok (.aload_n 0, 1) := by decide +kernel
theorem dX4_back_38 : decode cX4_back 38 = .ok (.getfield 46, 3) := by decide +kernel
theorem dX4_back_41 : decode cX4_back 41 = .ok (.iload_n 1, 1) := by decide +kernel
theorem dX4_back_42 : decode cX4_back 42 = .ok (.dup2, 1) := by decide +kernel
theorem dX4_back_43 : decode cX4_back 43 = .ok (.iaload, 1) := by decide +kernel
theorem dX4_back_44 : decode cX4_back 44 = .ok (.iconst 1, 1) := by decide +kernel
theorem dX4_back_45 : decode cX4_back 45 = .ok (.isub, 1) := by decide +kernel
theorem dX4_back_46 : decode cX4_back 46 = .ok (.iastore, 1) := by decide +kernel
theorem dX4_back_47 : decode cX4_back 47 = .ok (.aload_n 0, 1) := by decide +kernel
theorem dX4_back_48 : decode cX4_back 48 = .ok (.getfield 7, 3) := by decide +kernel
theorem dX4_back_51 : decode cX4_back 51 = .ok (.aload_n 0, 1) := by decide +kernel
theorem dX4_back_52 : decode cX4_back 52 = .ok (.invokevirtual 76, 3) := by decide +kernel
theorem dX4_back_55 : decode cX4_back 55 = .ok (.dup2, 1) := by decide +kernel
theorem dX4_back_56 : decode cX4_back 56 = .ok (.laload, 1) := by decide +kernel
theorem dX4_back_57 : decode cX4_back 57 = .ok (.aload_n 0, 1) := by decide +kernel
theorem dX4_back_58 : decode cX4_back 58 = .ok (.getfield 26, 3) := by decide +kernel
theorem dX4_back_61 : decode cX4_back 61 = .ok (.iload_n 1, 1) := by decide +kernel
theorem dX4_back_62 : decode cX4_back 62 = .ok (.aload_n 0, 1) := by decide +kernel
theorem dX4_back_63 : decode cX4_back 63 = .ok (.getfield 46, 3) := by decide +kernel
theorem dX4_back_66 : decode cX4_back 66 = .ok (.iload_n 1, 1) := by decide +kernel
theorem dX4_back_67 : decode cX4_back 67 = .ok (.iaload, 1) := by decide +kernel
theorem dX4_back_68 : decode cX4_back 68 = .ok (.invokevirtual 80, 3) := by decide +kernel
theorem dX4_back_71 : decode cX4_back 71 = .ok (.ldc2_w 86, 3) := by decide +kernel
theorem dX4_back_74 : decode cX4_back 74 = .ok (.lxor, 1) := by decide +kernel
theorem dX4_back_75 : decode cX4_back 75 = .ok (.land, 1) := by decide +kernel
theorem dX4_back_76 : decode cX4_back 76 = .ok (.lastore, 1) := by decide +kernel
theorem dX4_back_77 : decode cX4_back 77 = .ok (.iload_n 1, 1) := by decide +kernel
theorem dX4_back_78 : decode cX4_back 78 = .ok (.ireturn, 1) := by decide +kernel
theorem dX4_turn_0 : decode cX4_turn 0 = .ok (.aload_n 0, 1) := by decide +kernel
theorem dX4_turn_1 : decode cX4_turn 1 = .ok (.getfield 13, 3) := by decide +kernel
theorem dX4_turn_4 : decode cX4_turn 4 = .ok (.iconst 2, 1) := by decide +kernel
theorem dX4_turn_5 : decode cX4_turn 5 = .ok (.irem, 1) := by decide +kernel
theorem dX4_turn_6 : decode cX4_turn 6 = .ok (.ireturn, 1) := by decide +kernel
theorem dX4_winner_0 : decode cX4_winner 0 = .ok (.aload_n 0, 1) := by decide +kernel
theorem dX4_winner_1 : decode cX4_winner 1 = .ok (.getfield 26, 3) := by decide +kernel
theorem dX4_winner_4 : decode cX4_winner 4 = .ok (.aload_n 0, 1) := by decide +kernel
theorem dX4_winner_5 : decode cX4_winner 5 = .ok (.getfield 7, 3) := by decide +kernel
theorem dX4_winner_8 : decode cX4_winner 8 = .ok (.iconst 0, 1) := by decide +kernel
theorem dX4_winner_9 : decode cX4_winner 9 = .ok (.laload, 1) := by decide +kernel
theorem dX4_winner_10 : decode cX4_winner 10 = .ok (.invokevirtual 88, 3) := by decide +kernel
theorem dX4_winner_13 : decode cX4_winner 13 = .ok (.ifCond .eq 5, 3) := by decide +kernel
theorem dX4_winner_16 : decode cX4_winner 16 = .ok (.iconst 0, 1) := by decide +kernel
theorem dX4_winner_17 : decode cX4_winner 17 = .ok (.ireturn, 1) := by decide +kernel
theorem dX4_winner_18 : decode cX4_winner 18 = .ok (.aload_n 0, 1) := by decide +kernel
theorem dX4_winner_19 : decode cX4_winner 19 = .ok (.getfield 26, 3) := by decide +kernel
theorem dX4_winner_22 : decode cX4_winner 22 = .ok (.aload_n 0, 1) := by decide +kernel
theorem dX4_winner_23 : decode cX4_winner 23 = .ok (.getfield 7, 3) := by decide +kernel
theorem dX4_winner_26 : decode cX4_winner 26 = .ok (.iconst 1, 1) := by decide +kernel
theorem dX4_winner_27 : decode cX4_winner 27 = .ok (.laload, 1) := by decide +kernel
theorem dX4_winner_28 : decode cX4_winner 28 = .ok (.invokevirtual 88, 3) := by decide +kernel
theorem dX4_winner_31 : decode cX4_winner 31 = .ok (.ifCond .eq 5, 3) := by decide +kernel
theorem dX4_winner_34 : decode cX4_winner 34 = .ok (.iconst 1, 1) := by decide +kernel
theorem dX4_winner_35 : decode cX4_winner 35 = .ok (.ireturn, 1) := by decide +kernel
theorem dX4_winner_36 : decode cX4_winner 36 = .ok (.aload_n 0, 1) := by decide +kernel
theorem dX4_winner_37 : decode cX4_winner 37 = .ok (.invokevirtual 92, 3) := by decide +kernel
theorem dX4_winner_40 : decode cX4_winner 40 = .ok (.ifCond .ne 7, 3) := by decide +kernel
theorem dX4_winner_43 : decode cX4_winner 43 = .ok (.iconst 2, 1) := by decide +kernel
theorem dX4_winner_44 : decode cX4_winner 44 = .ok (.goto 4, 3) := by decide +kernel
theorem dX4_winner_47 : decode cX4_winner 47 = .ok (.iconst (-1), 1) := by decide +kernel
theorem dX4_winner_48 : decode cX4_winner 48 = .ok (.ireturn, 1) := by decide +kernel
theorem dX4_at_0 : decode cX4_at 0 = .ok (.aload_n 0, 1) := by decide +kernel
theorem dX4_at_1 : decode cX4_at 1 = .ok (.iload_n 1, 1) := by decide +kernel
theorem dX4_at_2 : decode cX4_at 2 = .ok (.invokevirtual 53, 3) := by decide +kernel
theorem dX4_at_5 : decode cX4_at 5 = .ok (.ifCond .eq 18, 3) := by decide +kernel
theorem dX4_at_8 : decode cX4_at 8 = .ok (.iload_n 2, 1) := by decide +kernel
theorem dX4_at_9 : decode cX4_at 9 = .ok (.ifCond .lt 14, 3) := by decide +kernel
theorem dX4_at_12 : decode cX4_at 12 = .ok (.iload_n 2, 1) := by decide +kernel
theorem dX4_at_13 : decode cX4_at 13 = .ok (.aload_n 0, 1) := by decide +kernel
theorem dX4_at_14 : decode cX4_at 14 = .ok (.getfield 26, 3) := by decide +kernel
theorem dX4_at_17 : decode cX4_at 17 = .ok (.getfield 95, 3) := by decide +kernel
theorem dX4_at_20 : decode cX4_at 20 = .ok (.if_icmp .lt 13, 3) := by decide +kernel
theorem dX4_at_23 : decode cX4_at 23 = .ok (.new 98, 3) := by decide +kernel
theorem dX4_at_26 : decode cX4_at 26 = .ok (.dup, 1) := by decide +kernel
theorem dX4_at_27 : decode cX4_at 27 = .ok (.ldc 100, 2) := by decide +kernel
theorem dX4_at_29 : decode cX4_at 29 = .ok (.invokespecial 102, 3) := by decide +kernel
theorem dX4_at_32 : decode cX4_at 32 = .ok (.athrow, 1) := by decide +kernel
theorem dX4_at_33 : decode cX4_at 33 = .ok (.aload_n 0, 1) := by decide +kernel
theorem dX4_at_34 : decode cX4_at 34 = .ok (.getfield 26, 3) := by decide +kernel
theorem dX4_at_37 : decode cX4_at 37 = .ok (.iload_n 1, 1) := by decide +kernel
theorem dX4_at_38 : decode cX4_at 38 = .ok (.iload_n 2, 1) := by decide +kernel
theorem dX4_at_39 : decode cX4_at 39 = .ok (.invokevirtual 80, 3) := by decide +kernel
theorem dX4_at_42 : decode cX4_at 42 = .ok (.lstore_n 3, 1) := by decide +kernel
theorem dX4_at_43 : decode cX4_at 43 = .ok (.aload_n 0, 1) := by decide +kernel
theorem dX4_at_44 : decode cX4_at 44 = .ok (.getfield 7, 3) := by decide +kernel
theorem dX4_at_47 : decode cX4_at 47 = .ok (.iconst 0, 1) := by decide +kernel
theorem dX4_at_48 : decode cX4_at 48 = .ok (.laload, 1) := by decide +kernel
theorem dX4_at_49 : decode cX4_at 49 = .ok (.lload_n 3, 1) := by decide +kernel
theorem dX4_at_50 : decode cX4_at 50 = .ok (.land, 1) := by decide +kernel
theorem dX4_at_51 : decode cX4_at 51 = .ok (.lconst 0, 1) := by decide +kernel
theorem dX4_at_52 : decode cX4_at 52 = .ok (.lcmp, 1) := by decide +kernel
theorem dX4_at_53 : decode cX4_at 53 = .ok (.ifCond .eq 5, 3) := by decide +kernel
theorem dX4_at_56 : decode cX4_at 56 = .ok (.iconst 0, 1) := by decide +kernel
theorem dX4_at_57 : decode cX4_at 57 = .ok (.ireturn, 1) := by decide +kernel
theorem dX4_at_58 : decode cX4_at 58 = .ok (.aload_n 0, 1) := by decide +kernel
theorem dX4_at_59 : decode cX4_at 59 = .ok (.getfield 7, 3) := by decide +kernel
theorem dX4_at_62 : decode cX4_at 62 = .ok (.iconst 1, 1) := by decide +kernel
theorem dX4_at_63 : decode cX4_at 63 = .ok (.laload, 1) := by decide +kernel
theorem dX4_at_64 : decode cX4_at 64 = .ok (.lload_n 3, 1) := by decide +kernel
theorem dX4_at_65 : decode cX4_at 65 = .ok (.land, 1) := by decide +kernel
theorem dX4_at_66 : decode cX4_at 66 = .ok (.lconst 0, 1) := by decide +kernel
theorem dX4_at_67 : decode cX4_at 67 = .ok (.lcmp, 1) := by decide +kernel
theorem dX4_at_68 : decode cX4_at 68 = .ok (.ifCond .eq 7, 3) := by decide +kernel
theorem dX4_at_71 : decode cX4_at 71 = .ok (.iconst 1, 1) := by decide +kernel
theorem dX4_at_72 : decode cX4_at 72 = .ok (.goto 4, 3) := by decide +kernel
theorem dX4_at_75 : decode cX4_at 75 = .ok (.iconst (-1), 1) := by decide +kernel
theorem dX4_at_76 : decode cX4_at 76 = .ok (.ireturn, 1) := by decide +kernel
theorem dX4_empty_0 : decode cX4_empty 0 = .ok (.aload_n 0, 1) := by decide +kernel
theorem dX4_empty_1 : decode cX4_empty 1 = .ok (.getfield 50, 3) := by decide +kernel
theorem dX4_empty_4 : decode cX4_empty 4 = .ok (.arraylength, 1) := by decide +kernel
theorem dX4_empty_5 : decode cX4_empty 5 = .ok (.aload_n 0, 1) := by decide +kernel
theorem dX4_empty_6 : decode cX4_empty 6 = .ok (.getfield 13, 3) := by decide +kernel
theorem dX4_empty_9 : decode cX4_empty 9 = .ok (.isub, 1) := by decide +kernel
theorem dX4_empty_10 : decode cX4_empty 10 = .ok (.ireturn, 1) := by decide +kernel
theorem dX4_open_0 : decode cX4_open 0 = .ok (.iload_n 1, 1) := by decide +kernel
theorem dX4_open_1 : decode cX4_open 1 = .ok (.invokestatic 103, 3) := by decide +kernel
theorem dX4_open_4 : decode cX4_open 4 = .ok (.ifCond .ne 13, 3) := by decide +kernel
theorem dX4_open_7 : decode cX4_open 7 = .ok (.new 57, 3) := by decide +kernel
theorem dX4_open_10 : decode cX4_open 10 = .ok (.dup, 1) := by decide +kernel
theorem dX4_open_11 : decode cX4_open 11 = .ok (.ldc 106, 2) := by decide +kernel
theorem dX4_open_13 : decode cX4_open 13 = .ok (.invokespecial 61, 3) := by decide +kernel
theorem dX4_open_16 : decode cX4_open 16 = .ok (.athrow, 1) := by decide +kernel
theorem dX4_open_17 : decode cX4_open 17 = .ok (.aload_n 0, 1) := by decide +kernel
theorem dX4_open_18 : decode cX4_open 18 = .ok (.getfield 26, 3) := by decide +kernel
theorem dX4_open_21 : decode cX4_open 21 = .ok (.aload_n 0, 1) := by decide +kernel
theorem dX4_open_22 : decode cX4_open 22 = .ok (.getfield 26, 3) := by decide +kernel
theorem dX4_open_25 : decode cX4_open 25 = .ok (.getfield 108, 3) := by decide +kernel
theorem dX4_open_28 : decode cX4_open 28 = .ok (.aload_n 0, 1) := by decide +kernel
theorem dX4_open_29 : decode cX4_open 29 = .ok (.getfield 7, 3) := by decide +kernel
theorem dX4_open_32 : decode cX4_open 32 = .ok (.iconst 1, 1) := by decide +kernel
theorem dX4_open_33 : decode cX4_open 33 = .ok (.iload_n 1, 1) := by decide +kernel
theorem dX4_open_34 : decode cX4_open 34 = .ok (.isub, 1) := by decide +kernel
theorem dX4_open_35 : decode cX4_open 35 = .ok (.laload, 1) := by decide +kernel
theorem dX4_open_36 : decode cX4_open 36 = .ok (.ldc2_w 86, 3) := by decide +kernel
theorem dX4_open_39 : decode cX4_open 39 = .ok (.lxor, 1) := by decide +kernel
theorem dX4_open_40 : decode cX4_open 40 = .ok (.land, 1) := by decide +kernel
theorem dX4_open_41 : decode cX4_open 41 = .ok (.invokevirtual 112, 3) := by decide +kernel
theorem dX4_open_44 : decode cX4_open 44 = .ok (.ireturn, 1) := by decide +kernel
theorem dX4_threats_0 : decode cX4_threats 0 = .ok (.iload_n 1, 1) := by decide +kernel
theorem dX4_threats_1 : decode cX4_threats 1 = .ok (.invokestatic 103, 3) := by decide +kernel
theorem dX4_threats_4 : decode cX4_threats 4 = .ok (.ifCond .ne 13, 3) := by decide +kernel
theorem dX4_threats_7 : decode cX4_threats 7 = .ok (.new 57, 3) := by decide +kernel
theorem dX4_threats_10 : decode cX4_threats 10 = .ok (.dup, 1) := by decide +kernel
theorem dX4_threats_11 : decode cX4_threats 11 = .ok (.ldc 106, 2) := by decide +kernel
theorem dX4_threats_13 : decode cX4_threats 13 = .ok (.invokespecial 61, 3) := by decide +kernel
theorem dX4_threats_16 : decode cX4_threats 16 = .ok (.athrow, 1) := by decide +kernel
theorem dX4_threats_17 : decode cX4_threats 17 = .ok (.aload_n 0, 1) := by decide +kernel
theorem dX4_threats_18 : decode cX4_threats 18 = .ok (.getfield 26, 3) := by decide +kernel
theorem dX4_threats_21 : decode cX4_threats 21 = .ok (.aload_n 0, 1) := by decide +kernel
theorem dX4_threats_22 : decode cX4_threats 22 = .ok (.getfield 7, 3) := by decide +kernel
theorem dX4_threats_25 : decode cX4_threats 25 = .ok (.iload_n 1, 1) := by decide +kernel
theorem dX4_threats_26 : decode cX4_threats 26 = .ok (.laload, 1) := by decide +kernel
theorem dX4_threats_27 : decode cX4_threats 27 = .ok (.aload_n 0, 1) := by decide +kernel
theorem dX4_threats_28 : decode cX4_threats 28 = .ok (.invokevirtual 116, 3) := by decide +kernel
theorem dX4_threats_31 : decode cX4_threats 31 = .ok (.invokevirtual 120, 3) := by decide +kernel
theorem dX4_threats_34 : decode cX4_threats 34 = .ok (.invokestatic 124, 3) := by decide +kernel
theorem dX4_threats_37 : decode cX4_threats 37 = .ok (.ireturn, 1) := by decide +kernel
theorem dX4_value_0 : decode cX4_value 0 = .ok (.aload_n 0, 1) := by decide +kernel
theorem dX4_value_1 : decode cX4_value 1 = .ok (.invokevirtual 129, 3) := by decide +kernel
theorem dX4_value_4 : decode cX4_value 4 = .ok (.ifCond .ne 13, 3) := by decide +kernel
theorem dX4_value_7 : decode cX4_value 7 = .ok (.new 71, 3) := by decide +kernel
theorem dX4_value_10 : decode cX4_value 10 = .ok (.dup, 1) := by decide +kernel
theorem dX4_value_11 : decode cX4_value 11 = .ok (.ldc 132, 2) := by decide +kernel
theorem dX4_value_13 : decode cX4_value 13 = .ok (.invokespecial 75, 3) := by decide +kernel
theorem dX4_value_16 : decode cX4_value 16 = .ok (.athrow, 1) := by decide +kernel
theorem dX4_value_17 : decode cX4_value 17 = .ok (.aload_n 0, 1) := by decide +kernel
theorem dX4_value_18 : decode cX4_value 18 = .ok (.aload_n 0, 1) := by decide +kernel
theorem dX4_value_19 : decode cX4_value 19 = .ok (.getfield 35, 3) := by decide +kernel
theorem dX4_value_22 : decode cX4_value 22 = .ok (.aload_n 0, 1) := by decide +kernel
theorem dX4_value_23 : decode cX4_value 23 = .ok (.invokevirtual 134, 3) := by decide +kernel
theorem dX4_value_26 : decode cX4_value 26 = .ok (.aload_n 0, 1) := by decide +kernel
theorem dX4_value_27 : decode cX4_value 27 = .ok (.invokevirtual 137, 3) := by decide +kernel
theorem dX4_value_30 : decode cX4_value 30 = .ok (.aload_n 0, 1) := by decide +kernel
theorem dX4_value_31 : decode cX4_value 31 = .ok (.invokevirtual 92, 3) := by decide +kernel
theorem dX4_value_34 : decode cX4_value 34 = .ok (.aload_n 0, 1) := by decide +kernel
theorem dX4_value_35 : decode cX4_value 35 = .ok (.invokevirtual 92, 3) := by decide +kernel
theorem dX4_value_38 : decode cX4_value 38 = .ok (.ineg, 1) := by decide +kernel
theorem dX4_value_39 : decode cX4_value 39 = .ok (.aload_n 0, 1) := by decide +kernel
theorem dX4_value_40 : decode cX4_value 40 = .ok (.invokevirtual 92, 3) := by decide +kernel
theorem dX4_value_43 : decode cX4_value 43 = .ok (.invokevirtual 140, 3) := by decide +kernel
theorem dX4_value_46 : decode cX4_value 46 = .ok (.invokevirtual 144, 3) := by decide +kernel
theorem dX4_value_49 : decode cX4_value 49 = .ok (.ireturn, 1) := by decide +kernel
theorem dX4_valueOf_0 : decode cX4_valueOf 0 = .ok (.aload_n 0, 1) := by decide +kernel
theorem dX4_valueOf_1 : decode cX4_valueOf 1 = .ok (.iload_n 1, 1) := by decide +kernel
theorem dX4_valueOf_2 : decode cX4_valueOf 2 = .ok (.invokevirtual 53, 3) := by decide +kernel
theorem dX4_valueOf_5 : decode cX4_valueOf 5 = .ok (.ifCond .ne 13, 3) := by decide +kernel
theorem dX4_valueOf_8 : decode cX4_valueOf 8 = .ok (.new 57, 3) := by decide +kernel
theorem dX4_valueOf_11 : decode cX4_valueOf 11 = .ok (.dup, 1) := by decide +kernel
theorem dX4_valueOf_12 : decode cX4_valueOf 12 = .ok (.ldc 59, 2) := by decide +kernel
theorem dX4_valueOf_14 : decode cX4_valueOf 14 = .ok (.invokespecial 61, 3) := by decide +kernel
theorem dX4_valueOf_17 : decode cX4_valueOf 17 = .ok (.athrow, 1) := by decide +kernel
theorem dX4_valueOf_18 : decode cX4_valueOf 18 = .ok (.aload_n 0, 1) := by decide +kernel
theorem dX4_valueOf_19 : decode cX4_valueOf 19 = .ok (.invokevirtual 129, 3) := by decide +kernel
theorem dX4_valueOf_22 : decode cX4_valueOf 22 = .ok (.ifCond .eq 11, 3) := by decide +kernel
theorem dX4_valueOf_25 : decode cX4_valueOf 25 = .ok (.aload_n 0, 1) := by decide +kernel
theorem dX4_valueOf_26 : decode cX4_valueOf 26 = .ok (.iload_n 1, 1) := by decide +kernel
theorem dX4_valueOf_27 : decode cX4_valueOf 27 = .ok (.invokevirtual 68, 3) := by decide +kernel
theorem dX4_valueOf_30 : decode cX4_valueOf 30 = .ok (.ifCond .eq 13, 3) := by decide +kernel
theorem dX4_valueOf_33 : decode cX4_valueOf 33 = .ok (.new 71, 3) := by decide +kernel
theorem dX4_valueOf_36 : decode cX4_valueOf 36 = .ok (.dup, 1) := by decide +kernel
theorem dX4_valueOf_37 : decode cX4_valueOf 37 = .ok (.ldc 148, 2) := by decide +kernel
theorem dX4_valueOf_39 : decode cX4_valueOf 39 = .ok (.invokespecial 75, 3) := by decide +kernel
theorem dX4_valueOf_42 : decode cX4_valueOf 42 = .ok (.athrow, 1) := by decide +kernel
theorem dX4_valueOf_43 : decode cX4_valueOf 43 = .ok (.aload_n 0, 1) := by decide +kernel
theorem dX4_valueOf_44 : decode cX4_valueOf 44 = .ok (.aload_n 0, 1) := by decide +kernel
theorem dX4_valueOf_45 : decode cX4_valueOf 45 = .ok (.aload_n 0, 1) := by decide +kernel
theorem dX4_valueOf_46 : decode cX4_valueOf 46 = .ok (.invokevirtual 92, 3) := by decide +kernel
theorem dX4_valueOf_49 : decode cX4_valueOf 49 = .ok (.ineg, 1) := by decide +kernel
theorem dX4_valueOf_50 : decode cX4_valueOf 50 = .ok (.iload_n 1, 1) := by decide +kernel
theorem dX4_valueOf_51 : decode cX4_valueOf 51 = .ok (.invokevirtual 150, 3) := by decide +kernel
theorem dX4_valueOf_54 : decode cX4_valueOf 54 = .ok (.invokevirtual 144, 3) := by decide +kernel
theorem dX4_valueOf_57 : decode cX4_valueOf 57 = .ok (.ireturn, 1) := by decide +kernel
theorem dX4_best_0 : decode cX4_best 0 = .ok (.aload_n 0, 1) := by decide +kernel
theorem dX4_best_1 : decode cX4_best 1 = .ok (.invokevirtual 129, 3) := by decide +kernel
theorem dX4_best_4 : decode cX4_best 4 = .ok (.ifCond .ne 13, 3) := by decide +kernel
theorem dX4_best_7 : decode cX4_best 7 = .ok (.new 71, 3) := by decide +kernel
theorem dX4_best_10 : decode cX4_best 10 = .ok (.dup, 1) := by decide +kernel
theorem dX4_best_11 : decode cX4_best 11 = .ok (.ldc 132, 2) := by decide +kernel
theorem dX4_best_13 : decode cX4_best 13 = .ok (.invokespecial 75, 3) := by decide +kernel
theorem dX4_best_16 : decode cX4_best 16 = .ok (.athrow, 1) := by decide +kernel
theorem dX4_best_17 : decode cX4_best 17 = .ok (.iconst (-1), 1) := by decide +kernel
theorem dX4_best_18 : decode cX4_best 18 = .ok (.istore_n 1, 1) := by decide +kernel
theorem dX4_best_19 : decode cX4_best 19 = .ok (.aload_n 0, 1) := by decide +kernel
theorem dX4_best_20 : decode cX4_best 20 = .ok (.invokevirtual 92, 3) := by decide +kernel
theorem dX4_best_23 : decode cX4_best 23 = .ok (.ineg, 1) := by decide +kernel
theorem dX4_best_24 : decode cX4_best 24 = .ok (.iconst 1, 1) := by decide +kernel
theorem dX4_best_25 : decode cX4_best 25 = .ok (.isub, 1) := by decide +kernel
theorem dX4_best_26 : decode cX4_best 26 = .ok (.istore_n 2, 1) := by decide +kernel
theorem dX4_best_27 : decode cX4_best 27 = .ok (.iconst 0, 1) := by decide +kernel
theorem dX4_best_28 : decode cX4_best 28 = .ok (.istore_n 3, 1) := by decide +kernel
theorem dX4_best_29 : decode cX4_best 29 = .ok (.iload_n 3, 1) := by decide +kernel
theorem dX4_best_30 : decode cX4_best 30 = .ok (.aload_n 0, 1) := by decide +kernel
theorem dX4_best_31 : decode cX4_best 31 = .ok (.getfield 26, 3) := by decide +kernel
theorem dX4_best_34 : decode cX4_best 34 = .ok (.getfield 153, 3) := by decide +kernel
theorem dX4_best_37 : decode cX4_best 37 = .ok (.if_icmp .ge 36, 3) := by decide +kernel
theorem dX4_best_40 : decode cX4_best 40 = .ok (.aload_n 0, 1) := by decide +kernel
theorem dX4_best_41 : decode cX4_best 41 = .ok (.iload_n 3, 1) := by decide +kernel
theorem dX4_best_42 : decode cX4_best 42 = .ok (.invokevirtual 68, 3) := by decide +kernel
theorem dX4_best_45 : decode cX4_best 45 = .ok (.ifCond .ne 22, 3) := by decide +kernel
theorem dX4_best_48 : decode cX4_best 48 = .ok (.aload_n 0, 1) := by decide +kernel
theorem dX4_best_49 : decode cX4_best 49 = .ok (.iload_n 2, 1) := by decide +kernel
theorem dX4_best_50 : decode cX4_best 50 = .ok (.iload_n 3, 1) := by decide +kernel
theorem dX4_best_51 : decode cX4_best 51 = .ok (.invokevirtual 150, 3) := by decide +kernel
theorem dX4_best_54 : decode cX4_best 54 = .ok (.istore 4, 2) := by decide +kernel
theorem dX4_best_56 : decode cX4_best 56 = .ok (.iload 4, 2) := by decide +kernel
theorem dX4_best_58 : decode cX4_best 58 = .ok (.iload_n 2, 1) := by decide +kernel
theorem dX4_best_59 : decode cX4_best 59 = .ok (.if_icmp .le 8, 3) := by decide +kernel
theorem dX4_best_62 : decode cX4_best 62 = .ok (.iload_n 3, 1) := by decide +kernel
theorem dX4_best_63 : decode cX4_best 63 = .ok (.istore_n 1, 1) := by decide +kernel
theorem dX4_best_64 : decode cX4_best 64 = .ok (.iload 4, 2) := by decide +kernel
theorem dX4_best_66 : decode cX4_best 66 = .ok (.istore_n 2, 1) := by decide +kernel
theorem dX4_best_67 : decode cX4_best 67 = .ok (.iinc 3 1, 3) := by decide +kernel
theorem dX4_best_70 : decode cX4_best 70 = .ok (.goto (-41), 3) := by decide +kernel
theorem dX4_best_73 : decode cX4_best 73 = .ok (.iload_n 1, 1) := by decide +kernel
theorem dX4_best_74 : decode cX4_best 74 = .ok (.ireturn, 1) := by decide +kernel
theorem dX4_beats_0 : decode cX4_beats 0 = .ok (.aload_n 0, 1) := by decide +kernel
theorem dX4_beats_1 : decode cX4_beats 1 = .ok (.invokevirtual 64, 3) := by decide +kernel
theorem dX4_beats_4 : decode cX4_beats 4 = .ok (.ifCond .ne 19, 3) := by decide +kernel
theorem dX4_beats_7 : decode cX4_beats 7 = .ok (.aload_n 0, 1) := by decide +kernel
theorem dX4_beats_8 : decode cX4_beats 8 = .ok (.invokevirtual 92, 3) := by decide +kernel
theorem dX4_beats_11 : decode cX4_beats 11 = .ok (.bipush 30, 2) := by decide +kernel
theorem dX4_beats_13 : decode cX4_beats 13 = .ok (.if_icmp .gt 10, 3) := by decide +kernel
theorem dX4_beats_16 : decode cX4_beats 16 = .ok (.aload_n 0, 1) := by decide +kernel
theorem dX4_beats_17 : decode cX4_beats 17 = .ok (.invokevirtual 156, 3) := by decide +kernel
theorem dX4_beats_20 : decode cX4_beats 20 = .ok (.ifCond .ne 13, 3) := by decide +kernel
theorem dX4_beats_23 : decode cX4_beats 23 = .ok (.new 71, 3) := by decide +kernel
theorem dX4_beats_26 : decode cX4_beats 26 = .ok (.dup, 1) := by decide +kernel
theorem dX4_beats_27 : decode cX4_beats 27 = .ok (.ldc 159, 2) := by decide +kernel
theorem dX4_beats_29 : decode cX4_beats 29 = .ok (.invokespecial 75, 3) := by decide +kernel
theorem dX4_beats_32 : decode cX4_beats 32 = .ok (.athrow, 1) := by decide +kernel
theorem dX4_beats_33 : decode cX4_beats 33 = .ok (.aload_n 0, 1) := by decide +kernel
theorem dX4_beats_34 : decode cX4_beats 34 = .ok (.getfield 42, 3) := by decide +kernel
theorem dX4_beats_37 : decode cX4_beats 37 = .ok (.aload_n 0, 1) := by decide +kernel
theorem dX4_beats_38 : decode cX4_beats 38 = .ok (.invokevirtual 134, 3) := by decide +kernel
theorem dX4_beats_41 : decode cX4_beats 41 = .ok (.aload_n 0, 1) := by decide +kernel
theorem dX4_beats_42 : decode cX4_beats 42 = .ok (.invokevirtual 137, 3) := by decide +kernel
theorem dX4_beats_45 : decode cX4_beats 45 = .ok (.invokevirtual 161, 3) := by decide +kernel
theorem dX4_beats_48 : decode cX4_beats 48 = .ok (.ireturn, 1) := by decide +kernel
theorem dX4_between_0 : decode cX4_between 0 = .ok (.iconst 3, 1) := by decide +kernel
theorem dX4_between_1 : decode cX4_between 1 = .ok (.iload_n 1, 1) := by decide +kernel
theorem dX4_between_2 : decode cX4_between 2 = .ok (.iload_n 0, 1) := by decide +kernel
theorem dX4_between_3 : decode cX4_between 3 = .ok (.invokestatic 165, 3) := by decide +kernel
theorem dX4_between_6 : decode cX4_between 6 = .ok (.invokestatic 170, 3) := by decide +kernel
theorem dX4_between_9 : decode cX4_between 9 = .ok (.ireturn, 1) := by decide +kernel
theorem dX4_isPlayer_0 : decode cX4_isPlayer 0 = .ok (.iload_n 0, 1) := by decide +kernel
theorem dX4_isPlayer_1 : decode cX4_isPlayer 1 = .ok (.ifCond .eq 8, 3) := by decide +kernel
theorem dX4_isPlayer_4 : decode cX4_isPlayer 4 = .ok (.iload_n 0, 1) := by decide +kernel
theorem dX4_isPlayer_5 : decode cX4_isPlayer 5 = .ok (.iconst 1, 1) := by decide +kernel
theorem dX4_isPlayer_6 : decode cX4_isPlayer 6 = .ok (.if_icmp .ne 7, 3) := by decide +kernel
theorem dX4_isPlayer_9 : decode cX4_isPlayer 9 = .ok (.iconst 1, 1) := by decide +kernel
theorem dX4_isPlayer_10 : decode cX4_isPlayer 10 = .ok (.goto 4, 3) := by decide +kernel
theorem dX4_isPlayer_13 : decode cX4_isPlayer 13 = .ok (.iconst 0, 1) := by decide +kernel
theorem dX4_isPlayer_14 : decode cX4_isPlayer 14 = .ok (.ireturn, 1) := by decide +kernel
theorem dX4_isColumn_0 : decode cX4_isColumn 0 = .ok (.iload_n 1, 1) := by decide +kernel
theorem dX4_isColumn_1 : decode cX4_isColumn 1 = .ok (.ifCond .lt 18, 3) := by decide +kernel
theorem dX4_isColumn_4 : decode cX4_isColumn 4 = .ok (.iload_n 1, 1) := by decide +kernel
theorem dX4_isColumn_5 : decode cX4_isColumn 5 = .ok (.aload_n 0, 1) := by decide +kernel
theorem dX4_isColumn_6 : decode cX4_isColumn 6 = .ok (.getfield 26, 3) := by decide +kernel
theorem dX4_isColumn_9 : decode cX4_isColumn 9 = .ok (.getfield 153, 3) := by decide +kernel
theorem dX4_isColumn_12 : decode cX4_isColumn 12 = .ok (.if_icmp .ge 7, 3) := by decide +kernel
theorem dX4_isColumn_15 : decode cX4_isColumn 15 = .ok (.iconst 1, 1) := by decide +kernel
theorem dX4_isColumn_16 : decode cX4_isColumn 16 = .ok (.goto 4, 3) := by decide +kernel
theorem dX4_isColumn_19 : decode cX4_isColumn 19 = .ok (.iconst 0, 1) := by decide +kernel
theorem dX4_isColumn_20 : decode cX4_isColumn 20 = .ok (.ireturn, 1) := by decide +kernel
theorem dX4_isFull_0 : decode cX4_isFull 0 = .ok (.aload_n 0, 1) := by decide +kernel
theorem dX4_isFull_1 : decode cX4_isFull 1 = .ok (.getfield 46, 3) := by decide +kernel
theorem dX4_isFull_4 : decode cX4_isFull 4 = .ok (.iload_n 1, 1) := by decide +kernel
theorem dX4_isFull_5 : decode cX4_isFull 5 = .ok (.iaload, 1) := by decide +kernel
theorem dX4_isFull_6 : decode cX4_isFull 6 = .ok (.aload_n 0, 1) := by decide +kernel
theorem dX4_isFull_7 : decode cX4_isFull 7 = .ok (.getfield 26, 3) := by decide +kernel
theorem dX4_isFull_10 : decode cX4_isFull 10 = .ok (.getfield 95, 3) := by decide +kernel
theorem dX4_isFull_13 : decode cX4_isFull 13 = .ok (.if_icmp .lt 7, 3) := by decide +kernel
theorem dX4_isFull_16 : decode cX4_isFull 16 = .ok (.iconst 1, 1) := by decide +kernel
theorem dX4_isFull_17 : decode cX4_isFull 17 = .ok (.goto 4, 3) := by decide +kernel
theorem dX4_isFull_20 : decode cX4_isFull 20 = .ok (.iconst 0, 1) := by decide +kernel
theorem dX4_isFull_21 : decode cX4_isFull 21 = .ok (.ireturn, 1) := by decide +kernel
