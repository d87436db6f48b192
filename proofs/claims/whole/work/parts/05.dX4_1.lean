theorem dX4_isOver_0 : decode cX4_isOver 0 = .ok (.aload_n 0, 1) := by decide +kernel
theorem dX4_isOver_1 : decode cX4_isOver 1 = .ok (.invokevirtual 173, 3) := by decide +kernel
theorem dX4_isOver_4 : decode cX4_isOver 4 = .ok (.iconst (-1), 1) := by decide +kernel
theorem dX4_isOver_5 : decode cX4_isOver 5 = .ok (.if_icmp .eq 7, 3) := by decide +kernel
theorem dX4_isOver_8 : decode cX4_isOver 8 = .ok (.iconst 1, 1) := by decide +kernel
theorem dX4_isOver_9 : decode cX4_isOver 9 = .ok (.goto 4, 3) := by decide +kernel
theorem dX4_isOver_12 : decode cX4_isOver 12 = .ok (.iconst 0, 1) := by decide +kernel
theorem dX4_isOver_13 : decode cX4_isOver 13 = .ok (.ireturn, 1) := by decide +kernel
theorem dX4_canBeValued_0 : decode cX4_canBeValued 0 = .ok (.aload_n 0, 1) := by decide +kernel
theorem dX4_canBeValued_1 : decode cX4_canBeValued 1 = .ok (.invokevirtual 92, 3) := by decide +kernel
theorem dX4_canBeValued_4 : decode cX4_canBeValued 4 = .ok (.bipush 12, 2) := by decide +kernel
theorem dX4_canBeValued_6 : decode cX4_canBeValued 6 = .ok (.if_icmp .gt 14, 3) := by decide +kernel
theorem dX4_canBeValued_9 : decode cX4_canBeValued 9 = .ok (.aload_n 0, 1) := by decide +kernel
theorem dX4_canBeValued_10 : decode cX4_canBeValued 10 = .ok (.invokevirtual 64, 3) := by decide +kernel
theorem dX4_canBeValued_13 : decode cX4_canBeValued 13 = .ok (.ifCond .ne 7, 3) := by decide +kernel
theorem dX4_canBeValued_16 : decode cX4_canBeValued 16 = .ok (.iconst 1, 1) := by decide +kernel
theorem dX4_canBeValued_17 : decode cX4_canBeValued 17 = .ok (.goto 4, 3) := by decide +kernel
theorem dX4_canBeValued_20 : decode cX4_canBeValued 20 = .ok (.iconst 0, 1) := by decide +kernel
theorem dX4_canBeValued_21 : decode cX4_canBeValued 21 = .ok (.ireturn, 1) := by decide +kernel
theorem dX4_canFollow_0 : decode cX4_canFollow 0 = .ok (.iconst 0, 1) := by decide +kernel
theorem dX4_canFollow_1 : decode cX4_canFollow 1 = .ok (.istore_n 1, 1) := by decide +kernel
theorem dX4_canFollow_2 : decode cX4_canFollow 2 = .ok (.iload_n 1, 1) := by decide +kernel
theorem dX4_canFollow_3 : decode cX4_canFollow 3 = .ok (.aload_n 0, 1) := by decide +kernel
theorem dX4_canFollow_4 : decode cX4_canFollow 4 = .ok (.getfield 26, 3) := by decide +kernel
theorem dX4_canFollow_7 : decode cX4_canFollow 7 = .ok (.getfield 153, 3) := by decide +kernel
theorem dX4_canFollow_10 : decode cX4_canFollow 10 = .ok (.if_icmp .ge 30, 3) := by decide +kernel
theorem dX4_canFollow_13 : decode cX4_canFollow 13 = .ok (.aload_n 0, 1) := by decide +kernel
theorem dX4_canFollow_14 : decode cX4_canFollow 14 = .ok (.getfield 26, 3) := by decide +kernel
theorem dX4_canFollow_17 : decode cX4_canFollow 17 = .ok (.getfield 95, 3) := by decide +kernel
theorem dX4_canFollow_20 : decode cX4_canFollow 20 = .ok (.aload_n 0, 1) := by decide +kernel
theorem dX4_canFollow_21 : decode cX4_canFollow 21 = .ok (.getfield 46, 3) := by decide +kernel
theorem dX4_canFollow_24 : decode cX4_canFollow 24 = .ok (.iload_n 1, 1) := by decide +kernel
theorem dX4_canFollow_25 : decode cX4_canFollow 25 = .ok (.iaload, 1) := by decide +kernel
theorem dX4_canFollow_26 : decode cX4_canFollow 26 = .ok (.isub, 1) := by decide +kernel
theorem dX4_canFollow_27 : decode cX4_canFollow 27 = .ok (.iconst 2, 1) := by decide +kernel
theorem dX4_canFollow_28 : decode cX4_canFollow 28 = .ok (.irem, 1) := by decide +kernel
theorem dX4_canFollow_29 : decode cX4_canFollow 29 = .ok (.ifCond .eq 5, 3) := by decide +kernel
theorem dX4_canFollow_32 : decode cX4_canFollow 32 = .ok (.iconst 0, 1) := by decide +kernel
theorem dX4_canFollow_33 : decode cX4_canFollow 33 = .ok (.ireturn, 1) := by decide +kernel
theorem dX4_canFollow_34 : decode cX4_canFollow 34 = .ok (.iinc 1 1, 3) := by decide +kernel
theorem dX4_canFollow_37 : decode cX4_canFollow 37 = .ok (.goto (-35), 3) := by decide +kernel
theorem dX4_canFollow_40 : decode cX4_canFollow 40 = .ok (.iconst 1, 1) := by decide +kernel
theorem dX4_canFollow_41 : decode cX4_canFollow 41 = .ok (.ireturn, 1) := by decide +kernel
theorem dX4_mine_0 : decode cX4_mine 0 = .ok (.aload_n 0, 1) := by decide +kernel
theorem dX4_mine_1 : decode cX4_mine 1 = .ok (.getfield 7, 3) := by decide +kernel
theorem dX4_mine_4 : decode cX4_mine 4 = .ok (.aload_n 0, 1) := by decide +kernel
theorem dX4_mine_5 : decode cX4_mine 5 = .ok (.invokevirtual 76, 3) := by decide +kernel
theorem dX4_mine_8 : decode cX4_mine 8 = .ok (.laload, 1) := by decide +kernel
theorem dX4_mine_9 : decode cX4_mine 9 = .ok (.lreturn, 1) := by decide +kernel
theorem dX4_theirs_0 : decode cX4_theirs 0 = .ok (.aload_n 0, 1) := by decide +kernel
theorem dX4_theirs_1 : decode cX4_theirs 1 = .ok (.getfield 7, 3) := by decide +kernel
theorem dX4_theirs_4 : decode cX4_theirs 4 = .ok (.iconst 1, 1) := by decide +kernel
theorem dX4_theirs_5 : decode cX4_theirs 5 = .ok (.aload_n 0, 1) := by decide +kernel
theorem dX4_theirs_6 : decode cX4_theirs 6 = .ok (.invokevirtual 76, 3) := by decide +kernel
theorem dX4_theirs_9 : decode cX4_theirs 9 = .ok (.isub, 1) := by decide +kernel
theorem dX4_theirs_10 : decode cX4_theirs 10 = .ok (.laload, 1) := by decide +kernel
theorem dX4_theirs_11 : decode cX4_theirs 11 = .ok (.lreturn, 1) := by decide +kernel
theorem dX4_taken_0 : decode cX4_taken 0 = .ok (.aload_n 0, 1) := by decide +kernel
theorem dX4_taken_1 : decode cX4_taken 1 = .ok (.getfield 7, 3) := by decide +kernel
theorem dX4_taken_4 : decode cX4_taken 4 = .ok (.iconst 0, 1) := by decide +kernel
theorem dX4_taken_5 : decode cX4_taken 5 = .ok (.laload, 1) := by decide +kernel
theorem dX4_taken_6 : decode cX4_taken 6 = .ok (.aload_n 0, 1) := by decide +kernel
theorem dX4_taken_7 : decode cX4_taken 7 = .ok (.getfield 7, 3) := by decide +kernel
theorem dX4_taken_10 : decode cX4_taken 10 = .ok (.iconst 1, 1) := by decide +kernel
theorem dX4_taken_11 : decode cX4_taken 11 = .ok (.laload, 1) := by decide +kernel
theorem dX4_taken_12 : decode cX4_taken 12 = .ok (.lor, 1) := by decide +kernel
theorem dX4_taken_13 : decode cX4_taken 13 = .ok (.lreturn, 1) := by decide +kernel
theorem dX4_scoreAbove_0 : decode cX4_scoreAbove 0 = .ok (.aload_n 0, 1) := by decide +kernel
theorem dX4_scoreAbove_1 : decode cX4_scoreAbove 1 = .ok (.invokevirtual 134, 3) := by decide +kernel
theorem dX4_scoreAbove_4 : decode cX4_scoreAbove 4 = .ok (.aload_n 0, 1) := by decide +kernel
theorem dX4_scoreAbove_5 : decode cX4_scoreAbove 5 = .ok (.getfield 26, 3) := by decide +kernel
theorem dX4_scoreAbove_8 : decode cX4_scoreAbove 8 = .ok (.iload_n 2, 1) := by decide +kernel
theorem dX4_scoreAbove_9 : decode cX4_scoreAbove 9 = .ok (.aload_n 0, 1) := by decide +kernel
theorem dX4_scoreAbove_10 : decode cX4_scoreAbove 10 = .ok (.getfield 46, 3) := by decide +kernel
theorem dX4_scoreAbove_13 : decode cX4_scoreAbove 13 = .ok (.iload_n 2, 1) := by decide +kernel
theorem dX4_scoreAbove_14 : decode cX4_scoreAbove 14 = .ok (.iaload, 1) := by decide +kernel
theorem dX4_scoreAbove_15 : decode cX4_scoreAbove 15 = .ok (.invokevirtual 80, 3) := by decide +kernel
theorem dX4_scoreAbove_18 : decode cX4_scoreAbove 18 = .ok (.lor, 1) := by decide +kernel
theorem dX4_scoreAbove_19 : decode cX4_scoreAbove 19 = .ok (.lstore_n 3, 1) := by decide +kernel
theorem dX4_scoreAbove_20 : decode cX4_scoreAbove 20 = .ok (.aload_n 0, 1) := by decide +kernel
theorem dX4_scoreAbove_21 : decode cX4_scoreAbove 21 = .ok (.getfield 26, 3) := by decide +kernel
theorem dX4_scoreAbove_24 : decode cX4_scoreAbove 24 = .ok (.lload_n 3, 1) := by decide +kernel
theorem dX4_scoreAbove_25 : decode cX4_scoreAbove 25 = .ok (.invokevirtual 88, 3) := by decide +kernel
theorem dX4_scoreAbove_28 : decode cX4_scoreAbove 28 = .ok (.ifCond .eq 8, 3) := by decide +kernel
theorem dX4_scoreAbove_31 : decode cX4_scoreAbove 31 = .ok (.aload_n 0, 1) := by decide +kernel
theorem dX4_scoreAbove_32 : decode cX4_scoreAbove 32 = .ok (.invokevirtual 92, 3) := by decide +kernel
theorem dX4_scoreAbove_35 : decode cX4_scoreAbove 35 = .ok (.ireturn, 1) := by decide +kernel
theorem dX4_scoreAbove_36 : decode cX4_scoreAbove 36 = .ok (.aload_n 0, 1) := by decide +kernel
theorem dX4_scoreAbove_37 : decode cX4_scoreAbove 37 = .ok (.getfield 35, 3) := by decide +kernel
theorem dX4_scoreAbove_40 : decode cX4_scoreAbove 40 = .ok (.aload_n 0, 1) := by decide +kernel
theorem dX4_scoreAbove_41 : decode cX4_scoreAbove 41 = .ok (.invokevirtual 137, 3) := by decide +kernel
theorem dX4_scoreAbove_44 : decode cX4_scoreAbove 44 = .ok (.lload_n 3, 1) := by decide +kernel
theorem dX4_scoreAbove_45 : decode cX4_scoreAbove 45 = .ok (.aload_n 0, 1) := by decide +kernel
theorem dX4_scoreAbove_46 : decode cX4_scoreAbove 46 = .ok (.invokevirtual 92, 3) := by decide +kernel
theorem dX4_scoreAbove_49 : decode cX4_scoreAbove 49 = .ok (.iconst 1, 1) := by decide +kernel
theorem dX4_scoreAbove_50 : decode cX4_scoreAbove 50 = .ok (.isub, 1) := by decide +kernel
theorem dX4_scoreAbove_51 : decode cX4_scoreAbove 51 = .ok (.aload_n 0, 1) := by decide +kernel
theorem dX4_scoreAbove_52 : decode cX4_scoreAbove 52 = .ok (.invokevirtual 92, 3) := by decide +kernel
theorem dX4_scoreAbove_55 : decode cX4_scoreAbove 55 = .ok (.ineg, 1) := by decide +kernel
theorem dX4_scoreAbove_56 : decode cX4_scoreAbove 56 = .ok (.iload_n 1, 1) := by decide +kernel
theorem dX4_scoreAbove_57 : decode cX4_scoreAbove 57 = .ok (.ineg, 1) := by decide +kernel
theorem dX4_scoreAbove_58 : decode cX4_scoreAbove 58 = .ok (.invokevirtual 140, 3) := by decide +kernel
theorem dX4_scoreAbove_61 : decode cX4_scoreAbove 61 = .ok (.ineg, 1) := by decide +kernel
theorem dX4_scoreAbove_62 : decode cX4_scoreAbove 62 = .ok (.ireturn, 1) := by decide +kernel
theorem dX4_inDrops_0 : decode cX4_inDrops 0 = .ok (.iload_n 1, 1) := by decide +kernel
theorem dX4_inDrops_1 : decode cX4_inDrops 1 = .ok (.ifCond .ne 5, 3) := by decide +kernel
theorem dX4_inDrops_4 : decode cX4_inDrops 4 = .ok (.iconst 0, 1) := by decide +kernel
theorem dX4_inDrops_5 : decode cX4_inDrops 5 = .ok (.ireturn, 1) := by decide +kernel
theorem dX4_inDrops_6 : decode cX4_inDrops 6 = .ok (.aload_n 0, 1) := by decide +kernel
theorem dX4_inDrops_7 : decode cX4_inDrops 7 = .ok (.invokevirtual 92, 3) := by decide +kernel
theorem dX4_inDrops_10 : decode cX4_inDrops 10 = .ok (.iconst 1, 1) := by decide +kernel
theorem dX4_inDrops_11 : decode cX4_inDrops 11 = .ok (.iadd, 1) := by decide +kernel
theorem dX4_inDrops_12 : decode cX4_inDrops 12 = .ok (.iload_n 1, 1) := by decide +kernel
theorem dX4_inDrops_13 : decode cX4_inDrops 13 = .ok (.invokestatic 176, 3) := by decide +kernel
theorem dX4_inDrops_16 : decode cX4_inDrops 16 = .ok (.isub, 1) := by decide +kernel
theorem dX4_inDrops_17 : decode cX4_inDrops 17 = .ok (.istore_n 2, 1) := by decide +kernel
theorem dX4_inDrops_18 : decode cX4_inDrops 18 = .ok (.iload_n 1, 1) := by decide +kernel
theorem dX4_inDrops_19 : decode cX4_inDrops 19 = .ok (.ifCond .le 7, 3) := by decide +kernel
theorem dX4_inDrops_22 : decode cX4_inDrops 22 = .ok (.iload_n 2, 1) := by decide +kernel
theorem dX4_inDrops_23 : decode cX4_inDrops 23 = .ok (.goto 5, 3) := by decide +kernel
theorem dX4_inDrops_26 : decode cX4_inDrops 26 = .ok (.iload_n 2, 1) := by decide +kernel
theorem dX4_inDrops_27 : decode cX4_inDrops 27 = .ok (.ineg, 1) := by decide +kernel
theorem dX4_inDrops_28 : decode cX4_inDrops 28 = .ok (.ireturn, 1) := by decide +kernel
