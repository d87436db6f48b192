theorem dX5_at_35 : decode cX5_at 35 = .ok (.iadd, 1) := by decide +kernel
theorem dX5_at_36 : decode cX5_at 36 = .ok (.iaload, 1) := by decide +kernel
theorem dX5_at_37 : decode cX5_at 37 = .ok (.ireturn, 1) := by decide +kernel
theorem dX5_empty_0 : decode cX5_empty 0 = .ok (.aload_n 0, 1) := by decide +kernel
theorem dX5_empty_1 : decode cX5_empty 1 = .ok (.iconst 0, 1) := by decide +kernel
theorem dX5_empty_2 : decode cX5_empty 2 = .ok (.putfield 59, 3) := by decide +kernel
theorem dX5_empty_5 : decode cX5_empty 5 = .ok (.aload_n 0, 1) := by decide +kernel
theorem dX5_empty_6 : decode cX5_empty 6 = .ok (.getfield 52, 3) := by decide +kernel
theorem dX5_empty_9 : decode cX5_empty 9 = .ok (.aload_n 0, 1) := by decide +kernel
theorem dX5_empty_10 : decode cX5_empty 10 = .ok (.getfield 56, 3) := by decide +kernel
theorem dX5_empty_13 : decode cX5_empty 13 = .ok (.imul, 1) := by decide +kernel
theorem dX5_empty_14 : decode cX5_empty 14 = .ok (.aload_n 0, 1) := by decide +kernel
theorem dX5_empty_15 : decode cX5_empty 15 = .ok (.getfield 70, 3) := by decide +kernel
theorem dX5_empty_18 : decode cX5_empty 18 = .ok (.isub, 1) := by decide +kernel
theorem dX5_empty_19 : decode cX5_empty 19 = .ok (.ireturn, 1) := by decide +kernel
theorem dX5_columnOf_0 : decode cX5_columnOf 0 = .ok (.iload_n 1, 1) := by decide +kernel
theorem dX5_columnOf_1 : decode cX5_columnOf 1 = .ok (.ifCond .ne 7, 3) := by decide +kernel
theorem dX5_columnOf_4 : decode cX5_columnOf 4 = .ok (.iload_n 0, 1) := by decide +kernel
theorem dX5_columnOf_5 : decode cX5_columnOf 5 = .ok (.goto 6, 3) := by decide +kernel
theorem dX5_columnOf_8 : decode cX5_columnOf 8 = .ok (.iload_n 0, 1) := by decide +kernel
theorem dX5_columnOf_9 : decode cX5_columnOf 9 = .ok (.iload_n 2, 1) := by decide +kernel
theorem dX5_columnOf_10 : decode cX5_columnOf 10 = .ok (.iadd, 1) := by decide +kernel
theorem dX5_columnOf_11 : decode cX5_columnOf 11 = .ok (.ireturn, 1) := by decide +kernel
theorem dX5_rowOf_0 : decode cX5_rowOf 0 = .ok (.iload_n 1, 1) := by decide +kernel
theorem dX5_rowOf_1 : decode cX5_rowOf 1 = .ok (.iconst 1, 1) := by decide +kernel
theorem dX5_rowOf_2 : decode cX5_rowOf 2 = .ok (.if_icmp .ne 7, 3) := by decide +kernel
theorem dX5_rowOf_5 : decode cX5_rowOf 5 = .ok (.iload_n 0, 1) := by decide +kernel
theorem dX5_rowOf_6 : decode cX5_rowOf 6 = .ok (.goto 17, 3) := by decide +kernel
theorem dX5_rowOf_9 : decode cX5_rowOf 9 = .ok (.iload_n 1, 1) := by decide +kernel
theorem dX5_rowOf_10 : decode cX5_rowOf 10 = .ok (.iconst 3, 1) := by decide +kernel
theorem dX5_rowOf_11 : decode cX5_rowOf 11 = .ok (.if_icmp .ne 9, 3) := by decide +kernel
theorem dX5_rowOf_14 : decode cX5_rowOf 14 = .ok (.iload_n 0, 1) := by decide +kernel
theorem dX5_rowOf_15 : decode cX5_rowOf 15 = .ok (.iload_n 2, 1) := by decide +kernel
theorem dX5_rowOf_16 : decode cX5_rowOf 16 = .ok (.isub, 1) := by decide +kernel
theorem dX5_rowOf_17 : decode cX5_rowOf 17 = .ok (.goto 6, 3) := by decide +kernel
theorem dX5_rowOf_20 : decode cX5_rowOf 20 = .ok (.iload_n 0, 1) := by decide +kernel
theorem dX5_rowOf_21 : decode cX5_rowOf 21 = .ok (.iload_n 2, 1) := by decide +kernel
theorem dX5_rowOf_22 : decode cX5_rowOf 22 = .ok (.iadd, 1) := by decide +kernel
theorem dX5_rowOf_23 : decode cX5_rowOf 23 = .ok (.ireturn, 1) := by decide +kernel
theorem dX5_isLine_0 : decode cX5_isLine 0 = .ok (.aload_n 0, 1) := by decide +kernel
theorem dX5_isLine_1 : decode cX5_isLine 1 = .ok (.iload_n 1, 1) := by decide +kernel
theorem dX5_isLine_2 : decode cX5_isLine 2 = .ok (.iload_n 3, 1) := by decide +kernel
theorem dX5_isLine_3 : decode cX5_isLine 3 = .ok (.iconst 3, 1) := by decide +kernel
theorem dX5_isLine_4 : decode cX5_isLine 4 = .ok (.invokestatic 89, 3) := by decide +kernel
theorem dX5_isLine_7 : decode cX5_isLine 7 = .ok (.iload_n 2, 1) := by decide +kernel
theorem dX5_isLine_8 : decode cX5_isLine 8 = .ok (.iload_n 3, 1) := by decide +kernel
theorem dX5_isLine_9 : decode cX5_isLine 9 = .ok (.iconst 3, 1) := by decide +kernel
theorem dX5_isLine_10 : decode cX5_isLine 10 = .ok (.invokestatic 93, 3) := by decide +kernel
theorem dX5_isLine_13 : decode cX5_isLine 13 = .ok (.invokevirtual 62, 3) := by decide +kernel
theorem dX5_isLine_16 : decode cX5_isLine 16 = .ok (.ireturn, 1) := by decide +kernel
theorem dX5_many_0 : decode cX5_many 0 = .ok (.iconst 0, 1) := by decide +kernel
theorem dX5_many_1 : decode cX5_many 1 = .ok (.istore 5, 2) := by decide +kernel
theorem dX5_many_3 : decode cX5_many 3 = .ok (.iconst 0, 1) := by decide +kernel
theorem dX5_many_4 : decode cX5_many 4 = .ok (.istore 6, 2) := by decide +kernel
theorem dX5_many_6 : decode cX5_many 6 = .ok (.iload 6, 2) := by decide +kernel
theorem dX5_many_8 : decode cX5_many 8 = .ok (.iconst 4, 1) := by decide +kernel
theorem dX5_many_9 : decode cX5_many 9 = .ok (.if_icmp .ge 48, 3) := by decide +kernel
theorem dX5_many_12 : decode cX5_many 12 = .ok (.aload_n 0, 1) := by decide +kernel
theorem dX5_many_13 : decode cX5_many 13 = .ok (.getfield 7, 3) := by decide +kernel
theorem dX5_many_16 : decode cX5_many 16 = .ok (.bipush 7, 2) := by decide +kernel
theorem dX5_many_18 : decode cX5_many 18 = .ok (.iload_n 1, 1) := by decide +kernel
theorem dX5_many_19 : decode cX5_many 19 = .ok (.iload_n 3, 1) := by decide +kernel
theorem dX5_many_20 : decode cX5_many 20 = .ok (.iload 6, 2) := by decide +kernel
theorem dX5_many_22 : decode cX5_many 22 = .ok (.invokestatic 89, 3) := by decide +kernel
theorem dX5_many_25 : decode cX5_many 25 = .ok (.imul, 1) := by decide +kernel
theorem dX5_many_26 : decode cX5_many 26 = .ok (.iload_n 2, 1) := by decide +kernel
theorem dX5_many_27 : decode cX5_many 27 = .ok (.iload_n 3, 1) := by decide +kernel
theorem dX5_many_28 : decode cX5_many 28 = .ok (.iload 6, 2) := by decide +kernel
theorem dX5_many_30 : decode cX5_many 30 = .ok (.invokestatic 93, 3) := by decide +kernel
theorem dX5_many_33 : decode cX5_many 33 = .ok (.iadd, 1) := by decide +kernel
theorem dX5_many_34 : decode cX5_many 34 = .ok (.iaload, 1) := by decide +kernel
theorem dX5_many_35 : decode cX5_many 35 = .ok (.iload 4, 2) := by decide +kernel
theorem dX5_many_37 : decode cX5_many 37 = .ok (.if_icmp .ne 10, 3) := by decide +kernel
theorem dX5_many_40 : decode cX5_many 40 = .ok (.iload 5, 2) := by decide +kernel
theorem dX5_many_42 : decode cX5_many 42 = .ok (.iconst 1, 1) := by decide +kernel
theorem dX5_many_43 : decode cX5_many 43 = .ok (.iadd, 1) := by decide +kernel
theorem dX5_many_44 : decode cX5_many 44 = .ok (.goto 5, 3) := by decide +kernel
theorem dX5_many_47 : decode cX5_many 47 = .ok (.iload 5, 2) := by decide +kernel
theorem dX5_many_49 : decode cX5_many 49 = .ok (.istore 5, 2) := by decide +kernel
theorem dX5_many_51 : decode cX5_many 51 = .ok (.iinc 6 1, 3) := by decide +kernel
theorem dX5_many_54 : decode cX5_many 54 = .ok (.goto (-48), 3) := by decide +kernel
theorem dX5_many_57 : decode cX5_many 57 = .ok (.iload 5, 2) := by decide +kernel
theorem dX5_many_59 : decode cX5_many 59 = .ok (.ireturn, 1) := by decide +kernel
theorem dX5_open_0 : decode cX5_open 0 = .ok (.aload_n 0, 1) := by decide +kernel
theorem dX5_open_1 : decode cX5_open 1 = .ok (.iload_n 1, 1) := by decide +kernel
theorem dX5_open_2 : decode cX5_open 2 = .ok (.ifCond .lt 8, 3) := by decide +kernel
theorem dX5_open_5 : decode cX5_open 5 = .ok (.iload_n 1, 1) := by decide +kernel
theorem dX5_open_6 : decode cX5_open 6 = .ok (.iconst 1, 1) := by decide +kernel
theorem dX5_open_7 : decode cX5_open 7 = .ok (.if_icmp .le 7, 3) := by decide +kernel
theorem dX5_open_10 : decode cX5_open 10 = .ok (.iconst 1, 1) := by decide +kernel
theorem dX5_open_11 : decode cX5_open 11 = .ok (.goto 4, 3) := by decide +kernel
theorem dX5_open_14 : decode cX5_open 14 = .ok (.iconst 0, 1) := by decide +kernel
theorem dX5_open_15 : decode cX5_open 15 = .ok (.iconst 0, 1) := by decide +kernel
theorem dX5_open_16 : decode cX5_open 16 = .ok (.invokevirtual 81, 3) := by decide +kernel
theorem dX5_open_19 : decode cX5_open 19 = .ok (.ifCond .eq 5, 3) := by decide +kernel
theorem dX5_open_22 : decode cX5_open 22 = .ok (.iconst 0, 1) := by decide +kernel
theorem dX5_open_23 : decode cX5_open 23 = .ok (.ireturn, 1) := by decide +kernel
theorem dX5_open_24 : decode cX5_open 24 = .ok (.iconst 0, 1) := by decide +kernel
theorem dX5_open_25 : decode cX5_open 25 = .ok (.istore_n 2, 1) := by decide +kernel
theorem dX5_open_26 : decode cX5_open 26 = .ok (.iconst 0, 1) := by decide +kernel
theorem dX5_open_27 : decode cX5_open 27 = .ok (.istore_n 3, 1) := by decide +kernel
theorem dX5_open_28 : decode cX5_open 28 = .ok (.iload_n 3, 1) := by decide +kernel
theorem dX5_open_29 : decode cX5_open 29 = .ok (.aload_n 0, 1) := by decide +kernel
theorem dX5_open_30 : decode cX5_open 30 = .ok (.getfield 52, 3) := by decide +kernel
theorem dX5_open_33 : decode cX5_open 33 = .ok (.if_icmp .ge 77, 3) := by decide +kernel
theorem dX5_open_36 : decode cX5_open 36 = .ok (.iconst 0, 1) := by decide +kernel
theorem dX5_open_37 : decode cX5_open 37 = .ok (.istore 4, 2) := by decide +kernel
theorem dX5_open_39 : decode cX5_open 39 = .ok (.iload 4, 2) := by decide +kernel
theorem dX5_open_41 : decode cX5_open 41 = .ok (.aload_n 0, 1) := by decide +kernel
theorem dX5_open_42 : decode cX5_open 42 = .ok (.getfield 56, 3) := by decide +kernel
theorem dX5_open_45 : decode cX5_open 45 = .ok (.if_icmp .ge 59, 3) := by decide +kernel
theorem dX5_open_48 : decode cX5_open 48 = .ok (.iconst 0, 1) := by decide +kernel
theorem dX5_open_49 : decode cX5_open 49 = .ok (.istore 5, 2) := by decide +kernel
theorem dX5_open_51 : decode cX5_open 51 = .ok (.iload 5, 2) := by decide +kernel
theorem dX5_open_53 : decode cX5_open 53 = .ok (.iconst 4, 1) := by decide +kernel
theorem dX5_open_54 : decode cX5_open 54 = .ok (.if_icmp .ge 44, 3) := by decide +kernel
theorem dX5_open_57 : decode cX5_open 57 = .ok (.aload_n 0, 1) := by decide +kernel
theorem dX5_open_58 : decode cX5_open 58 = .ok (.iload_n 3, 1) := by decide +kernel
theorem dX5_open_59 : decode cX5_open 59 = .ok (.iload 4, 2) := by decide +kernel
theorem dX5_open_61 : decode cX5_open 61 = .ok (.iload 5, 2) := by decide +kernel
theorem dX5_open_63 : decode cX5_open 63 = .ok (.invokevirtual 96, 3) := by decide +kernel
theorem dX5_open_66 : decode cX5_open 66 = .ok (.ifCond .eq 24, 3) := by decide +kernel
theorem dX5_open_69 : decode cX5_open 69 = .ok (.aload_n 0, 1) := by decide +kernel
theorem dX5_open_70 : decode cX5_open 70 = .ok (.iload_n 3, 1) := by decide +kernel
theorem dX5_open_71 : decode cX5_open 71 = .ok (.iload 4, 2) := by decide +kernel
theorem dX5_open_73 : decode cX5_open 73 = .ok (.iload 5, 2) := by decide +kernel
theorem dX5_open_75 : decode cX5_open 75 = .ok (.iconst 1, 1) := by decide +kernel
theorem dX5_open_76 : decode cX5_open 76 = .ok (.iload_n 1, 1) := by decide +kernel
theorem dX5_open_77 : decode cX5_open 77 = .ok (.isub, 1) := by decide +kernel
theorem dX5_open_78 : decode cX5_open 78 = .ok (.invokevirtual 100, 3) := by decide +kernel
theorem dX5_open_81 : decode cX5_open 81 = .ok (.ifCond .ne 9, 3) := by decide +kernel
theorem dX5_open_84 : decode cX5_open 84 = .ok (.iload_n 2, 1) := by decide +kernel
theorem dX5_open_85 : decode cX5_open 85 = .ok (.iconst 1, 1) := by decide +kernel
theorem dX5_open_86 : decode cX5_open 86 = .ok (.iadd, 1) := by decide +kernel
theorem dX5_open_87 : decode cX5_open 87 = .ok (.goto 4, 3) := by decide +kernel
theorem dX5_open_90 : decode cX5_open 90 = .ok (.iload_n 2, 1) := by decide +kernel
theorem dX5_open_91 : decode cX5_open 91 = .ok (.istore_n 2, 1) := by decide +kernel
theorem dX5_open_92 : decode cX5_open 92 = .ok (.iinc 5 1, 3) := by decide +kernel
theorem dX5_open_95 : decode cX5_open 95 = .ok (.goto (-44), 3) := by decide +kernel
theorem dX5_open_98 : decode cX5_open 98 = .ok (.iinc 4 1, 3) := by decide +kernel
theorem dX5_open_101 : decode cX5_open 101 = .ok (.goto (-62), 3) := by decide +kernel
theorem dX5_open_104 : decode cX5_open 104 = .ok (.iinc 3 1, 3) := by decide +kernel
theorem dX5_open_107 : decode cX5_open 107 = .ok (.goto (-79), 3) := by decide +kernel
theorem dX5_open_110 : decode cX5_open 110 = .ok (.iload_n 2, 1) := by decide +kernel
theorem dX5_open_111 : decode cX5_open 111 = .ok (.ireturn, 1) := by decide +kernel
theorem dX5_isThreat_0 : decode cX5_isThreat 0 = .ok (.iconst 0, 1) := by decide +kernel
theorem dX5_isThreat_1 : decode cX5_isThreat 1 = .ok (.istore 4, 2) := by decide +kernel
theorem dX5_isThreat_3 : decode cX5_isThreat 3 = .ok (.iload 4, 2) := by decide +kernel
theorem dX5_isThreat_5 : decode cX5_isThreat 5 = .ok (.iconst 4, 1) := by decide +kernel
theorem dX5_isThreat_6 : decode cX5_isThreat 6 = .ok (.if_icmp .ge 87, 3) := by decide +kernel
theorem dX5_isThreat_9 : decode cX5_isThreat 9 = .ok (.iconst 0, 1) := by decide +kernel
theorem dX5_isThreat_10 : decode cX5_isThreat 10 = .ok (.istore 5, 2) := by decide +kernel
theorem dX5_isThreat_12 : decode cX5_isThreat 12 = .ok (.iload 5, 2) := by decide +kernel
theorem dX5_isThreat_14 : decode cX5_isThreat 14 = .ok (.iconst 4, 1) := by decide +kernel
theorem dX5_isThreat_15 : decode cX5_isThreat 15 = .ok (.if_icmp .ge 72, 3) := by decide +kernel
theorem dX5_isThreat_18 : decode cX5_isThreat 18 = .ok (.iload_n 1, 1) := by decide +kernel
theorem dX5_isThreat_19 : decode cX5_isThreat 19 = .ok (.iload 4, 2) := by decide +kernel
theorem dX5_isThreat_21 : decode cX5_isThreat 21 = .ok (.iload 5, 2) := by decide +kernel
theorem dX5_isThreat_23 : decode cX5_isThreat 23 = .ok (.ineg, 1) := by decide +kernel
theorem dX5_isThreat_24 : decode cX5_isThreat 24 = .ok (.invokestatic 89, 3) := by decide +kernel
theorem dX5_isThreat_27 : decode cX5_isThreat 27 = .ok (.istore 6, 2) := by decide +kernel
theorem dX5_isThreat_29 : decode cX5_isThreat 29 = .ok (.iload_n 2, 1) := by decide +kernel
theorem dX5_isThreat_30 : decode cX5_isThreat 30 = .ok (.iload 4, 2) := by decide +kernel
theorem dX5_isThreat_32 : decode cX5_isThreat 32 = .ok (.iload 5, 2) := by decide +kernel
theorem dX5_isThreat_34 : decode cX5_isThreat 34 = .ok (.ineg, 1) := by decide +kernel
theorem dX5_isThreat_35 : decode cX5_isThreat 35 = .ok (.invokestatic 93, 3) := by decide +kernel
theorem dX5_isThreat_38 : decode cX5_isThreat 38 = .ok (.istore 7, 2) := by decide +kernel
theorem dX5_isThreat_40 : decode cX5_isThreat 40 = .ok (.aload_n 0, 1) := by decide +kernel
theorem dX5_isThreat_41 : decode cX5_isThreat 41 = .ok (.iload 6, 2) := by decide +kernel
theorem dX5_isThreat_43 : decode cX5_isThreat 43 = .ok (.iload 7, 2) := by decide +kernel
theorem dX5_isThreat_45 : decode cX5_isThreat 45 = .ok (.invokevirtual 62, 3) := by decide +kernel
theorem dX5_isThreat_48 : decode cX5_isThreat 48 = .ok (.ifCond .eq 33, 3) := by decide +kernel
theorem dX5_isThreat_51 : decode cX5_isThreat 51 = .ok (.aload_n 0, 1) := by decide +kernel
theorem dX5_isThreat_52 : decode cX5_isThreat 52 = .ok (.iload 6, 2) := by decide +kernel
theorem dX5_isThreat_54 : decode cX5_isThreat 54 = .ok (.iload 7, 2) := by decide +kernel
theorem dX5_isThreat_56 : decode cX5_isThreat 56 = .ok (.iload 4, 2) := by decide +kernel
theorem dX5_isThreat_58 : decode cX5_isThreat 58 = .ok (.invokevirtual 96, 3) := by decide +kernel
theorem dX5_isThreat_61 : decode cX5_isThreat 61 = .ok (.ifCond .eq 20, 3) := by decide +kernel
theorem dX5_isThreat_64 : decode cX5_isThreat 64 = .ok (.aload_n 0, 1) := by decide +kernel
theorem dX5_isThreat_65 : decode cX5_isThreat 65 = .ok (.iload 6, 2) := by decide +kernel
theorem dX5_isThreat_67 : decode cX5_isThreat 67 = .ok (.iload 7, 2) := by decide +kernel
theorem dX5_isThreat_69 : decode cX5_isThreat 69 = .ok (.iload 4, 2) := by decide +kernel
theorem dX5_isThreat_71 : decode cX5_isThreat 71 = .ok (.iload_n 3, 1) := by decide +kernel
theorem dX5_isThreat_72 : decode cX5_isThreat 72 = .ok (.invokevirtual 100, 3) := by decide +kernel
theorem dX5_isThreat_75 : decode cX5_isThreat 75 = .ok (.iconst 3, 1) := by decide +kernel
theorem dX5_isThreat_76 : decode cX5_isThreat 76 = .ok (.if_icmp .ne 5, 3) := by decide +kernel
theorem dX5_isThreat_79 : decode cX5_isThreat 79 = .ok (.iconst 1, 1) := by decide +kernel
theorem dX5_isThreat_80 : decode cX5_isThreat 80 = .ok (.ireturn, 1) := by decide +kernel
theorem dX5_isThreat_81 : decode cX5_isThreat 81 = .ok (.iinc 5 1, 3) := by decide +kernel
theorem dX5_isThreat_84 : decode cX5_isThreat 84 = .ok (.goto (-72), 3) := by decide +kernel
theorem dX5_isThreat_87 : decode cX5_isThreat 87 = .ok (.iinc 4 1, 3) := by decide +kernel
theorem dX5_isThreat_90 : decode cX5_isThreat 90 = .ok (.goto (-87), 3) := by decide +kernel
theorem dX5_isThreat_93 : decode cX5_isThreat 93 = .ok (.iconst 0, 1) := by decide +kernel
theorem dX5_isThreat_94 : decode cX5_isThreat 94 = .ok (.ireturn, 1) := by decide +kernel
theorem dX5_threats_0 : decode cX5_threats 0 = .ok (.aload_n 0, 1) := by decide +kernel
theorem dX5_threats_1 : decode cX5_threats 1 = .ok (.iload_n 1, 1) := by decide +kernel
theorem dX5_threats_2 : decode cX5_threats 2 = .ok (.ifCond .lt 8, 3) := by decide +kernel
theorem dX5_threats_5 : decode cX5_threats 5 = .ok (.iload_n 1, 1) := by decide +kernel
theorem dX5_threats_6 : decode cX5_threats 6 = .ok (.iconst 1, 1) := by decide +kernel
theorem dX5_threats_7 : decode cX5_threats 7 = .ok (.if_icmp .le 7, 3) := by decide +kernel
theorem dX5_threats_10 : decode cX5_threats 10 = .ok (.iconst 1, 1) := by decide +kernel
theorem dX5_threats_11 : decode cX5_threats 11 = .ok (.goto 4, 3) := by decide +kernel
theorem dX5_threats_14 : decode cX5_threats 14 = .ok (.iconst 0, 1) := by decide +kernel
theorem dX5_threats_15 : decode cX5_threats 15 = .ok (.iconst 0, 1) := by decide +kernel
theorem dX5_threats_16 : decode cX5_threats 16 = .ok (.invokevirtual 81, 3) := by decide +kernel
theorem dX5_threats_19 : decode cX5_threats 19 = .ok (.ifCond .eq 5, 3) := by decide +kernel
theorem dX5_threats_22 : decode cX5_threats 22 = .ok (.iconst 0, 1) := by decide +kernel
theorem dX5_threats_23 : decode cX5_threats 23 = .ok (.ireturn, 1) := by decide +kernel
theorem dX5_threats_24 : decode cX5_threats 24 = .ok (.iconst 0, 1) := by decide +kernel
theorem dX5_threats_25 : decode cX5_threats 25 = .ok (.istore_n 2, 1) := by decide +kernel
theorem dX5_threats_26 : decode cX5_threats 26 = .ok (.iconst 0, 1) := by decide +kernel
theorem dX5_threats_27 : decode cX5_threats 27 = .ok (.istore_n 3, 1) := by decide +kernel
theorem dX5_threats_28 : decode cX5_threats 28 = .ok (.iload_n 3, 1) := by decide +kernel
theorem dX5_threats_29 : decode cX5_threats 29 = .ok (.aload_n 0, 1) := by decide +kernel
theorem dX5_threats_30 : decode cX5_threats 30 = .ok (.getfield 52, 3) := by decide +kernel
theorem dX5_threats_33 : decode cX5_threats 33 = .ok (.if_icmp .ge 62, 3) := by decide +kernel
theorem dX5_threats_36 : decode cX5_threats 36 = .ok (.iconst 0, 1) := by decide +kernel
theorem dX5_threats_37 : decode cX5_threats 37 = .ok (.istore 4, 2) := by decide +kernel
theorem dX5_threats_39 : decode cX5_threats 39 = .ok (.iload 4, 2) := by decide +kernel
theorem dX5_threats_41 : decode cX5_threats 41 = .ok (.aload_n 0, 1) := by decide +kernel
theorem dX5_threats_42 : decode cX5_threats 42 = .ok (.getfield 56, 3) := by decide +kernel
theorem dX5_threats_45 : decode cX5_threats 45 = .ok (.if_icmp .ge 44, 3) := by decide +kernel
theorem dX5_threats_48 : decode cX5_threats 48 = .ok (.aload_n 0, 1) := by decide +kernel
theorem dX5_threats_49 : decode cX5_threats 49 = .ok (.getfield 7, 3) := by decide +kernel
theorem dX5_threats_52 : decode cX5_threats 52 = .ok (.bipush 7, 2) := by decide +kernel
theorem dX5_threats_54 : decode cX5_threats 54 = .ok (.iload_n 3, 1) := by decide +kernel
theorem dX5_threats_55 : decode cX5_threats 55 = .ok (.imul, 1) := by decide +kernel
theorem dX5_threats_56 : decode cX5_threats 56 = .ok (.iload 4, 2) := by decide +kernel
theorem dX5_threats_58 : decode cX5_threats 58 = .ok (.iadd, 1) := by decide +kernel
theorem dX5_threats_59 : decode cX5_threats 59 = .ok (.iaload, 1) := by decide +kernel
theorem dX5_threats_60 : decode cX5_threats 60 = .ok (.iconst (-1), 1) := by decide +kernel
theorem dX5_threats_61 : decode cX5_threats 61 = .ok (.if_icmp .ne 20, 3) := by decide +kernel
theorem dX5_threats_64 : decode cX5_threats 64 = .ok (.aload_n 0, 1) := by decide +kernel
theorem dX5_threats_65 : decode cX5_threats 65 = .ok (.iload_n 3, 1) := by decide +kernel
theorem dX5_threats_66 : decode cX5_threats 66 = .ok (.iload 4, 2) := by decide +kernel
theorem dX5_threats_68 : decode cX5_threats 68 = .ok (.iload_n 1, 1) := by decide +kernel
theorem dX5_threats_69 : decode cX5_threats 69 = .ok (.invokevirtual 104, 3) := by decide +kernel
theorem dX5_threats_72 : decode cX5_threats 72 = .ok (.ifCond .eq 9, 3) := by decide +kernel
theorem dX5_threats_75 : decode cX5_threats 75 = .ok (.iload_n 2, 1) := by decide +kernel
theorem dX5_threats_76 : decode cX5_threats 76 = .ok (.iconst 1, 1) := by decide +kernel
theorem dX5_threats_77 : decode cX5_threats 77 = .ok (.iadd, 1) := by decide +kernel
theorem dX5_threats_78 : decode cX5_threats 78 = .ok (.goto 4, 3) := by decide +kernel
theorem dX5_threats_81 : decode cX5_threats 81 = .ok (.iload_n 2, 1) := by decide +kernel
theorem dX5_threats_82 : decode cX5_threats 82 = .ok (.istore_n 2, 1) := by decide +kernel
theorem dX5_threats_83 : decode cX5_threats 83 = .ok (.iinc 4 1, 3) := by decide +kernel
theorem dX5_threats_86 : decode cX5_threats 86 = .ok (.goto (-47), 3) := by decide +kernel
theorem dX5_threats_89 : decode cX5_threats 89 = .ok (.iinc 3 1, 3) := by decide +kernel
theorem dX5_threats_92 : decode cX5_threats 92 = .ok (.goto (-64), 3) := by decide +kernel
theorem dX5_threats_95 : decode cX5_threats 95 = .ok (.iload_n 2, 1) := by decide +kernel
theorem dX5_threats_96 : decode cX5_threats 96 = .ok (.ireturn, 1) := by decide +kernel
theorem dX5_show_0 : decode cX5_show 0 = .ok (.aload_n 0, 1) := by decide +kernel
theorem dX5_show_1 : decode cX5_show 1 = .ok (.getfield 20, 3) := by decide +kernel
theorem dX5_show_4 : decode cX5_show 4 = .ok (.iload_n 1, 1) := by decide +kernel
theorem dX5_show_5 : decode cX5_show 5 = .ok (.iaload, 1) := by decide +kernel
theorem dX5_show_6 : decode cX5_show 6 = .ok (.istore_n 2, 1) := by decide +kernel
theorem dX5_show_7 : decode cX5_show 7 = .ok (.iconst 0, 1) := by decide +kernel
theorem dX5_show_8 : decode cX5_show 8 = .ok (.istore_n 3, 1) := by decide +kernel
theorem dX5_show_9 : decode cX5_show 9 = .ok (.iload_n 3, 1) := by decide +kernel
theorem dX5_show_10 : decode cX5_show 10 = .ok (.bipush 63, 2) := by decide +kernel
theorem dX5_show_12 : decode cX5_show 12 = .ok (.if_icmp .ge 21, 3) := by decide +kernel
theorem dX5_show_15 : decode cX5_show 15 = .ok (.aload_n 0, 1) := by decide +kernel
theorem dX5_show_16 : decode cX5_show 16 = .ok (.getfield 42, 3) := by decide +kernel
theorem dX5_show_19 : decode cX5_show 19 = .ok (.iload_n 3, 1) := by decide +kernel
theorem dX5_show_20 : decode cX5_show 20 = .ok (.aload_n 0, 1) := by decide +kernel
theorem dX5_show_21 : decode cX5_show 21 = .ok (.getfield 7, 3) := by decide +kernel
theorem dX5_show_24 : decode cX5_show 24 = .ok (.iload_n 3, 1) := by decide +kernel
theorem dX5_show_25 : decode cX5_show 25 = .ok (.iaload, 1) := by decide +kernel
theorem dX5_show_26 : decode cX5_show 26 = .ok (.iastore, 1) := by decide +kernel
theorem dX5_show_27 : decode cX5_show 27 = .ok (.iinc 3 1, 3) := by decide +kernel
theorem dX5_show_30 : decode cX5_show 30 = .ok (.goto (-21), 3) := by decide +kernel
theorem dX5_show_33 : decode cX5_show 33 = .ok (.iconst 0, 1) := by decide +kernel
theorem dX5_show_34 : decode cX5_show 34 = .ok (.istore_n 3, 1) := by decide +kernel
theorem dX5_show_35 : decode cX5_show 35 = .ok (.iload_n 3, 1) := by decide +kernel
theorem dX5_show_36 : decode cX5_show 36 = .ok (.aload_n 0, 1) := by decide +kernel
theorem dX5_show_37 : decode cX5_show 37 = .ok (.getfield 52, 3) := by decide +kernel
theorem dX5_show_40 : decode cX5_show 40 = .ok (.if_icmp .ge 110, 3) := by decide +kernel
theorem dX5_show_43 : decode cX5_show 43 = .ok (.iload_n 2, 1) := by decide +kernel
theorem dX5_show_44 : decode cX5_show 44 = .ok (.aload_n 0, 1) := by decide +kernel
theorem dX5_show_45 : decode cX5_show 45 = .ok (.getfield 56, 3) := by decide +kernel
theorem dX5_show_48 : decode cX5_show 48 = .ok (.aload_n 0, 1) := by decide +kernel
theorem dX5_show_49 : decode cX5_show 49 = .ok (.getfield 13, 3) := by decide +kernel
theorem dX5_show_52 : decode cX5_show 52 = .ok (.iload_n 3, 1) := by decide +kernel
theorem dX5_show_53 : decode cX5_show 53 = .ok (.iaload, 1) := by decide +kernel
theorem dX5_show_54 : decode cX5_show 54 = .ok (.isub, 1) := by decide +kernel
theorem dX5_show_55 : decode cX5_show 55 = .ok (.iconst 1, 1) := by decide +kernel
theorem dX5_show_56 : decode cX5_show 56 = .ok (.iadd, 1) := by decide +kernel
theorem dX5_show_57 : decode cX5_show 57 = .ok (.irem, 1) := by decide +kernel
theorem dX5_show_58 : decode cX5_show 58 = .ok (.istore 4, 2) := by decide +kernel
theorem dX5_show_60 : decode cX5_show 60 = .ok (.iload_n 2, 1) := by decide +kernel
theorem dX5_show_61 : decode cX5_show 61 = .ok (.aload_n 0, 1) := by decide +kernel
theorem dX5_show_62 : decode cX5_show 62 = .ok (.getfield 56, 3) := by decide +kernel
theorem dX5_show_65 : decode cX5_show 65 = .ok (.aload_n 0, 1) := by decide +kernel
theorem dX5_show_66 : decode cX5_show 66 = .ok (.getfield 13, 3) := by decide +kernel
theorem dX5_show_69 : decode cX5_show 69 = .ok (.iload_n 3, 1) := by decide +kernel
theorem dX5_show_70 : decode cX5_show 70 = .ok (.iaload, 1) := by decide +kernel
theorem dX5_show_71 : decode cX5_show 71 = .ok (.isub, 1) := by decide +kernel
theorem dX5_show_72 : decode cX5_show 72 = .ok (.iconst 1, 1) := by decide +kernel
theorem dX5_show_73 : decode cX5_show 73 = .ok (.iadd, 1) := by decide +kernel
theorem dX5_show_74 : decode cX5_show 74 = .ok (.idiv, 1) := by decide +kernel
theorem dX5_show_75 : decode cX5_show 75 = .ok (.istore_n 2, 1) := by decide +kernel
theorem dX5_show_76 : decode cX5_show 76 = .ok (.iconst 0, 1) := by decide +kernel
theorem dX5_show_77 : decode cX5_show 77 = .ok (.istore 5, 2) := by decide +kernel
theorem dX5_show_79 : decode cX5_show 79 = .ok (.iload 5, 2) := by decide +kernel
theorem dX5_show_81 : decode cX5_show 81 = .ok (.iload 4, 2) := by decide +kernel
theorem dX5_show_83 : decode cX5_show 83 = .ok (.if_icmp .ge 46, 3) := by decide +kernel
theorem dX5_show_86 : decode cX5_show 86 = .ok (.aload_n 0, 1) := by decide +kernel
theorem dX5_show_87 : decode cX5_show 87 = .ok (.getfield 42, 3) := by decide +kernel
theorem dX5_show_90 : decode cX5_show 90 = .ok (.bipush 7, 2) := by decide +kernel
theorem dX5_show_92 : decode cX5_show 92 = .ok (.iload_n 3, 1) := by decide +kernel
theorem dX5_show_93 : decode cX5_show 93 = .ok (.imul, 1) := by decide +kernel
theorem dX5_show_94 : decode cX5_show 94 = .ok (.aload_n 0, 1) := by decide +kernel
theorem dX5_show_95 : decode cX5_show 95 = .ok (.getfield 13, 3) := by decide +kernel
theorem dX5_show_98 : decode cX5_show 98 = .ok (.iload_n 3, 1) := by decide +kernel
theorem dX5_show_99 : decode cX5_show 99 = .ok (.iaload, 1) := by decide +kernel
theorem dX5_show_100 : decode cX5_show 100 = .ok (.iadd, 1) := by decide +kernel
theorem dX5_show_101 : decode cX5_show 101 = .ok (.iload 5, 2) := by decide +kernel
theorem dX5_show_103 : decode cX5_show 103 = .ok (.iadd, 1) := by decide +kernel
theorem dX5_show_104 : decode cX5_show 104 = .ok (.aload_n 0, 1) := by decide +kernel
theorem dX5_show_105 : decode cX5_show 105 = .ok (.getfield 23, 3) := by decide +kernel
theorem dX5_show_108 : decode cX5_show 108 = .ok (.iload_n 1, 1) := by decide +kernel
theorem dX5_show_109 : decode cX5_show 109 = .ok (.iaload, 1) := by decide +kernel
theorem dX5_show_110 : decode cX5_show 110 = .ok (.aload_n 0, 1) := by decide +kernel
theorem dX5_show_111 : decode cX5_show 111 = .ok (.getfield 39, 3) := by decide +kernel
theorem dX5_show_114 : decode cX5_show 114 = .ok (.iload_n 3, 1) := by decide +kernel
theorem dX5_show_115 : decode cX5_show 115 = .ok (.iaload, 1) := by decide +kernel
theorem dX5_show_116 : decode cX5_show 116 = .ok (.iload 5, 2) := by decide +kernel
theorem dX5_show_118 : decode cX5_show 118 = .ok (.iadd, 1) := by decide +kernel
theorem dX5_show_119 : decode cX5_show 119 = .ok (.ishr, 1) := by decide +kernel
theorem dX5_show_120 : decode cX5_show 120 = .ok (.iconst 1, 1) := by decide +kernel
theorem dX5_show_121 : decode cX5_show 121 = .ok (.iand, 1) := by decide +kernel
theorem dX5_show_122 : decode cX5_show 122 = .ok (.iastore, 1) := by decide +kernel
theorem dX5_show_123 : decode cX5_show 123 = .ok (.iinc 5 1, 3) := by decide +kernel
theorem dX5_show_126 : decode cX5_show 126 = .ok (.goto (-47), 3) := by decide +kernel
theorem dX5_show_129 : decode cX5_show 129 = .ok (.aload_n 0, 1) := by decide +kernel
theorem dX5_show_130 : decode cX5_show 130 = .ok (.getfield 45, 3) := by decide +kernel
theorem dX5_show_133 : decode cX5_show 133 = .ok (.iload_n 3, 1) := by decide +kernel
theorem dX5_show_134 : decode cX5_show 134 = .ok (.aload_n 0, 1) := by decide +kernel
theorem dX5_show_135 : decode cX5_show 135 = .ok (.getfield 13, 3) := by decide +kernel
theorem dX5_show_138 : decode cX5_show 138 = .ok (.iload_n 3, 1) := by decide +kernel
theorem dX5_show_139 : decode cX5_show 139 = .ok (.iaload, 1) := by decide +kernel
theorem dX5_show_140 : decode cX5_show 140 = .ok (.iload 4, 2) := by decide +kernel
theorem dX5_show_142 : decode cX5_show 142 = .ok (.iadd, 1) := by decide +kernel
theorem dX5_show_143 : decode cX5_show 143 = .ok (.iastore, 1) := by decide +kernel
theorem dX5_show_144 : decode cX5_show 144 = .ok (.iinc 3 1, 3) := by decide +kernel
theorem dX5_show_147 : decode cX5_show 147 = .ok (.goto (-112), 3) := by decide +kernel
theorem dX5_show_150 : decode cX5_show 150 = .ok (.return_, 1) := by decide +kernel
theorem dX5_slotOf_0 : decode cX5_slotOf 0 = .ok (.iload_n 1, 1) := by decide +kernel
theorem dX5_slotOf_1 : decode cX5_slotOf 1 = .ok (.sipush 4099, 3) := by decide +kernel
theorem dX5_slotOf_4 : decode cX5_slotOf 4 = .ok (.imul, 1) := by decide +kernel
theorem dX5_slotOf_5 : decode cX5_slotOf 5 = .ok (.iload_n 2, 1) := by decide +kernel
theorem dX5_slotOf_6 : decode cX5_slotOf 6 = .ok (.bipush 31, 2) := by decide +kernel
theorem dX5_slotOf_8 : decode cX5_slotOf 8 = .ok (.imul, 1) := by decide +kernel
theorem dX5_slotOf_9 : decode cX5_slotOf 9 = .ok (.iadd, 1) := by decide +kernel
theorem dX5_slotOf_10 : decode cX5_slotOf 10 = .ok (.ldc 32, 2) := by decide +kernel
theorem dX5_slotOf_12 : decode cX5_slotOf 12 = .ok (.irem, 1) := by decide +kernel
theorem dX5_slotOf_13 : decode cX5_slotOf 13 = .ok (.istore_n 3, 1) := by decide +kernel
theorem dX5_slotOf_14 : decode cX5_slotOf 14 = .ok (.aload_n 0, 1) := by decide +kernel
theorem dX5_slotOf_15 : decode cX5_slotOf 15 = .ok (.getfield 33, 3) := by decide +kernel
theorem dX5_slotOf_18 : decode cX5_slotOf 18 = .ok (.iload_n 3, 1) := by decide +kernel
theorem dX5_slotOf_19 : decode cX5_slotOf 19 = .ok (.iaload, 1) := by decide +kernel
theorem dX5_slotOf_20 : decode cX5_slotOf 20 = .ok (.ifCond .le 47, 3) := by decide +kernel
theorem dX5_slotOf_23 : decode cX5_slotOf 23 = .ok (.aload_n 0, 1) := by decide +kernel
theorem dX5_slotOf_24 : decode cX5_slotOf 24 = .ok (.getfield 20, 3) := by decide +kernel
theorem dX5_slotOf_27 : decode cX5_slotOf 27 = .ok (.aload_n 0, 1) := by decide +kernel
theorem dX5_slotOf_28 : decode cX5_slotOf 28 = .ok (.getfield 33, 3) := by decide +kernel
theorem dX5_slotOf_31 : decode cX5_slotOf 31 = .ok (.iload_n 3, 1) := by decide +kernel
theorem dX5_slotOf_32 : decode cX5_slotOf 32 = .ok (.iaload, 1) := by decide +kernel
theorem dX5_slotOf_33 : decode cX5_slotOf 33 = .ok (.iconst 1, 1) := by decide +kernel
theorem dX5_slotOf_34 : decode cX5_slotOf 34 = .ok (.isub, 1) := by decide +kernel
theorem dX5_slotOf_35 : decode cX5_slotOf 35 = .ok (.iaload, 1) := by decide +kernel
theorem dX5_slotOf_36 : decode cX5_slotOf 36 = .ok (.iload_n 1, 1) := by decide +kernel
theorem dX5_slotOf_37 : decode cX5_slotOf 37 = .ok (.if_icmp .ne 20, 3) := by decide +kernel
theorem dX5_slotOf_40 : decode cX5_slotOf 40 = .ok (.aload_n 0, 1) := by decide +kernel
theorem dX5_slotOf_41 : decode cX5_slotOf 41 = .ok (.getfield 23, 3) := by decide +kernel
theorem dX5_slotOf_44 : decode cX5_slotOf 44 = .ok (.aload_n 0, 1) := by decide +kernel
theorem dX5_slotOf_45 : decode cX5_slotOf 45 = .ok (.getfield 33, 3) := by decide +kernel
theorem dX5_slotOf_48 : decode cX5_slotOf 48 = .ok (.iload_n 3, 1) := by decide +kernel
theorem dX5_slotOf_49 : decode cX5_slotOf 49 = .ok (.iaload, 1) := by decide +kernel
theorem dX5_slotOf_50 : decode cX5_slotOf 50 = .ok (.iconst 1, 1) := by decide +kernel
theorem dX5_slotOf_51 : decode cX5_slotOf 51 = .ok (.isub, 1) := by decide +kernel
theorem dX5_slotOf_52 : decode cX5_slotOf 52 = .ok (.iaload, 1) := by decide +kernel
theorem dX5_slotOf_53 : decode cX5_slotOf 53 = .ok (.iload_n 2, 1) := by decide +kernel
theorem dX5_slotOf_54 : decode cX5_slotOf 54 = .ok (.if_icmp .eq 13, 3) := by decide +kernel
theorem dX5_slotOf_57 : decode cX5_slotOf 57 = .ok (.iload_n 3, 1) := by decide +kernel
theorem dX5_slotOf_58 : decode cX5_slotOf 58 = .ok (.iconst 1, 1) := by decide +kernel
theorem dX5_slotOf_59 : decode cX5_slotOf 59 = .ok (.iadd, 1) := by decide +kernel
theorem dX5_slotOf_60 : decode cX5_slotOf 60 = .ok (.ldc 32, 2) := by decide +kernel
theorem dX5_slotOf_62 : decode cX5_slotOf 62 = .ok (.irem, 1) := by decide +kernel
theorem dX5_slotOf_63 : decode cX5_slotOf 63 = .ok (.istore_n 3, 1) := by decide +kernel
theorem dX5_slotOf_64 : decode cX5_slotOf 64 = .ok (.goto (-50), 3) := by decide +kernel
theorem dX5_slotOf_67 : decode cX5_slotOf 67 = .ok (.iload_n 3, 1) := by decide +kernel
theorem dX5_slotOf_68 : decode cX5_slotOf 68 = .ok (.ireturn, 1) := by decide +kernel
theorem dX5_behind_0 : decode cX5_behind 0 = .ok (.aload_n 0, 1) := by decide +kernel
theorem dX5_behind_1 : decode cX5_behind 1 = .ok (.getfield 23, 3) := by decide +kernel
theorem dX5_behind_4 : decode cX5_behind 4 = .ok (.iload_n 1, 1) := by decide +kernel
theorem dX5_behind_5 : decode cX5_behind 5 = .ok (.iaload, 1) := by decide +kernel
theorem dX5_behind_6 : decode cX5_behind 6 = .ok (.iload_n 3, 1) := by decide +kernel
theorem dX5_behind_7 : decode cX5_behind 7 = .ok (.aload_n 0, 1) := by decide +kernel
theorem dX5_behind_8 : decode cX5_behind 8 = .ok (.getfield 39, 3) := by decide +kernel
theorem dX5_behind_11 : decode cX5_behind 11 = .ok (.iload_n 2, 1) := by decide +kernel
theorem dX5_behind_12 : decode cX5_behind 12 = .ok (.iaload, 1) := by decide +kernel
theorem dX5_behind_13 : decode cX5_behind 13 = .ok (.aload_n 0, 1) := by decide +kernel
theorem dX5_behind_14 : decode cX5_behind 14 = .ok (.getfield 45, 3) := by decide +kernel
theorem dX5_behind_17 : decode cX5_behind 17 = .ok (.iload_n 2, 1) := by decide +kernel
theorem dX5_behind_18 : decode cX5_behind 18 = .ok (.iaload, 1) := by decide +kernel
theorem dX5_behind_19 : decode cX5_behind 19 = .ok (.iadd, 1) := by decide +kernel
theorem dX5_behind_20 : decode cX5_behind 20 = .ok (.aload_n 0, 1) := by decide +kernel
theorem dX5_behind_21 : decode cX5_behind 21 = .ok (.getfield 13, 3) := by decide +kernel
theorem dX5_behind_24 : decode cX5_behind 24 = .ok (.iload_n 2, 1) := by decide +kernel
theorem dX5_behind_25 : decode cX5_behind 25 = .ok (.iaload, 1) := by decide +kernel
theorem dX5_behind_26 : decode cX5_behind 26 = .ok (.isub, 1) := by decide +kernel
theorem dX5_behind_27 : decode cX5_behind 27 = .ok (.ishl, 1) := by decide +kernel
theorem dX5_behind_28 : decode cX5_behind 28 = .ok (.ior, 1) := by decide +kernel
theorem dX5_behind_29 : decode cX5_behind 29 = .ok (.istore 4, 2) := by decide +kernel
theorem dX5_behind_31 : decode cX5_behind 31 = .ok (.aload_n 0, 1) := by decide +kernel
theorem dX5_behind_32 : decode cX5_behind 32 = .ok (.aload_n 0, 1) := by decide +kernel
theorem dX5_behind_33 : decode cX5_behind 33 = .ok (.getfield 20, 3) := by decide +kernel
theorem dX5_behind_36 : decode cX5_behind 36 = .ok (.iload_n 1, 1) := by decide +kernel
theorem dX5_behind_37 : decode cX5_behind 37 = .ok (.iaload, 1) := by decide +kernel
theorem dX5_behind_38 : decode cX5_behind 38 = .ok (.aload_n 0, 1) := by decide +kernel
theorem dX5_behind_39 : decode cX5_behind 39 = .ok (.getfield 36, 3) := by decide +kernel
theorem dX5_behind_42 : decode cX5_behind 42 = .ok (.iload_n 2, 1) := by decide +kernel
theorem dX5_behind_43 : decode cX5_behind 43 = .ok (.iaload, 1) := by decide +kernel
theorem dX5_behind_44 : decode cX5_behind 44 = .ok (.iadd, 1) := by decide +kernel
theorem dX5_behind_45 : decode cX5_behind 45 = .ok (.iload 4, 2) := by decide +kernel
theorem dX5_behind_47 : decode cX5_behind 47 = .ok (.invokevirtual 107, 3) := by decide +kernel
theorem dX5_behind_50 : decode cX5_behind 50 = .ok (.istore 5, 2) := by decide +kernel
theorem dX5_behind_52 : decode cX5_behind 52 = .ok (.aload_n 0, 1) := by decide +kernel
theorem dX5_behind_53 : decode cX5_behind 53 = .ok (.getfield 33, 3) := by decide +kernel
theorem dX5_behind_56 : decode cX5_behind 56 = .ok (.iload 5, 2) := by decide +kernel
theorem dX5_behind_58 : decode cX5_behind 58 = .ok (.iaload, 1) := by decide +kernel
theorem dX5_behind_59 : decode cX5_behind 59 = .ok (.iconst 1, 1) := by decide +kernel
theorem dX5_behind_60 : decode cX5_behind 60 = .ok (.isub, 1) := by decide +kernel
theorem dX5_behind_61 : decode cX5_behind 61 = .ok (.ireturn, 1) := by decide +kernel
theorem dX5_add_0 : decode cX5_add 0 = .ok (.aload_n 0, 1) := by decide +kernel
theorem dX5_add_1 : decode cX5_add 1 = .ok (.getfield 20, 3) := by decide +kernel
theorem dX5_add_4 : decode cX5_add 4 = .ok (.iload_n 1, 1) := by decide +kernel
theorem dX5_add_5 : decode cX5_add 5 = .ok (.iaload, 1) := by decide +kernel
theorem dX5_add_6 : decode cX5_add 6 = .ok (.aload_n 0, 1) := by decide +kernel
theorem dX5_add_7 : decode cX5_add 7 = .ok (.getfield 36, 3) := by decide +kernel
theorem dX5_add_10 : decode cX5_add 10 = .ok (.iload_n 2, 1) := by decide +kernel
theorem dX5_add_11 : decode cX5_add 11 = .ok (.iaload, 1) := by decide +kernel
theorem dX5_add_12 : decode cX5_add 12 = .ok (.iadd, 1) := by decide +kernel
theorem dX5_add_13 : decode cX5_add 13 = .ok (.istore 4, 2) := by decide +kernel
theorem dX5_add_15 : decode cX5_add 15 = .ok (.aload_n 0, 1) := by decide +kernel
theorem dX5_add_16 : decode cX5_add 16 = .ok (.getfield 23, 3) := by decide +kernel
theorem dX5_add_19 : decode cX5_add 19 = .ok (.iload_n 1, 1) := by decide +kernel
theorem dX5_add_20 : decode cX5_add 20 = .ok (.iaload, 1) := by decide +kernel
theorem dX5_add_21 : decode cX5_add 21 = .ok (.iload_n 3, 1) := by decide +kernel
theorem dX5_add_22 : decode cX5_add 22 = .ok (.aload_n 0, 1) := by decide +kernel
