theorem dX2_init_0 : decode cX2_init 0 = .ok (.aload_n 0, 1) := by decide +kernel
theorem dX2_init_1 : decode cX2_init 1 = .ok (.invokespecial 1, 3) := by decide +kernel
theorem dX2_init_4 : decode cX2_init 4 = .ok (.aload_n 0, 1) := by decide +kernel
theorem dX2_init_5 : decode cX2_init 5 = .ok (.sipush 1024, 3) := by decide +kernel
theorem dX2_init_8 : decode cX2_init 8 = .ok (.newarray .long, 2) := by decide +kernel
theorem dX2_init_10 : decode cX2_init 10 = .ok (.putfield 9, 3) := by decide +kernel
theorem dX2_init_13 : decode cX2_init 13 = .ok (.aload_n 0, 1) := by decide +kernel
theorem dX2_init_14 : decode cX2_init 14 = .ok (.sipush 1024, 3) := by decide +kernel
theorem dX2_init_17 : decode cX2_init 17 = .ok (.newarray .int, 2) := by decide +kernel
theorem dX2_init_19 : decode cX2_init 19 = .ok (.putfield 13, 3) := by decide +kernel
theorem dX2_init_22 : decode cX2_init 22 = .ok (.aload_n 0, 1) := by decide +kernel
theorem dX2_init_23 : decode cX2_init 23 = .ok (.sipush 1024, 3) := by decide +kernel
theorem dX2_init_26 : decode cX2_init 26 = .ok (.newarray .int, 2) := by decide +kernel
theorem dX2_init_28 : decode cX2_init 28 = .ok (.putfield 17, 3) := by decide +kernel
theorem dX2_init_31 : decode cX2_init 31 = .ok (.return_, 1) := by decide +kernel
theorem dX2_holds_0 : decode cX2_holds 0 = .ok (.aload_n 0, 1) := by decide +kernel
theorem dX2_holds_1 : decode cX2_holds 1 = .ok (.getfield 9, 3) := by decide +kernel
theorem dX2_holds_4 : decode cX2_holds 4 = .ok (.lload_n 1, 1) := by decide +kernel
theorem dX2_holds_5 : decode cX2_holds 5 = .ok (.invokestatic 20, 3) := by decide +kernel
theorem dX2_holds_8 : decode cX2_holds 8 = .ok (.laload, 1) := by decide +kernel
theorem dX2_holds_9 : decode cX2_holds 9 = .ok (.lload_n 1, 1) := by decide +kernel
theorem dX2_holds_10 : decode cX2_holds 10 = .ok (.lcmp, 1) := by decide +kernel
theorem dX2_holds_11 : decode cX2_holds 11 = .ok (.ifCond .ne 7, 3) := by decide +kernel
theorem dX2_holds_14 : decode cX2_holds 14 = .ok (.iconst 1, 1) := by decide +kernel
theorem dX2_holds_15 : decode cX2_holds 15 = .ok (.goto 4, 3) := by decide +kernel
theorem dX2_holds_18 : decode cX2_holds 18 = .ok (.iconst 0, 1) := by decide +kernel
theorem dX2_holds_19 : decode cX2_holds 19 = .ok (.ireturn, 1) := by decide +kernel
theorem dX2_leastOf_0 : decode cX2_leastOf 0 = .ok (.aload_n 0, 1) := by decide +kernel
theorem dX2_leastOf_1 : decode cX2_leastOf 1 = .ok (.getfield 13, 3) := by decide +kernel
theorem dX2_leastOf_4 : decode cX2_leastOf 4 = .ok (.lload_n 1, 1) := by decide +kernel
theorem dX2_leastOf_5 : decode cX2_leastOf 5 = .ok (.invokestatic 20, 3) := by decide +kernel
theorem dX2_leastOf_8 : decode cX2_leastOf 8 = .ok (.iaload, 1) := by decide +kernel
theorem dX2_leastOf_9 : decode cX2_leastOf 9 = .ok (.ireturn, 1) := by decide +kernel
theorem dX2_mostOf_0 : decode cX2_mostOf 0 = .ok (.aload_n 0, 1) := by decide +kernel
theorem dX2_mostOf_1 : decode cX2_mostOf 1 = .ok (.getfield 17, 3) := by decide +kernel
theorem dX2_mostOf_4 : decode cX2_mostOf 4 = .ok (.lload_n 1, 1) := by decide +kernel
theorem dX2_mostOf_5 : decode cX2_mostOf 5 = .ok (.invokestatic 20, 3) := by decide +kernel
theorem dX2_mostOf_8 : decode cX2_mostOf 8 = .ok (.iaload, 1) := by decide +kernel
theorem dX2_mostOf_9 : decode cX2_mostOf 9 = .ok (.ireturn, 1) := by decide +kernel
theorem dX2_keep_0 : decode cX2_keep 0 = .ok (.lload_n 1, 1) := by decide +kernel
theorem dX2_keep_1 : decode cX2_keep 1 = .ok (.invokestatic 20, 3) := by decide +kernel
theorem dX2_keep_4 : decode cX2_keep 4 = .ok (.istore 5, 2) := by decide +kernel
theorem dX2_keep_6 : decode cX2_keep 6 = .ok (.aload_n 0, 1) := by decide +kernel
theorem dX2_keep_7 : decode cX2_keep 7 = .ok (.getfield 9, 3) := by decide +kernel
theorem dX2_keep_10 : decode cX2_keep 10 = .ok (.iload 5, 2) := by decide +kernel
theorem dX2_keep_12 : decode cX2_keep 12 = .ok (.lload_n 1, 1) := by decide +kernel
theorem dX2_keep_13 : decode cX2_keep 13 = .ok (.lastore, 1) := by decide +kernel
theorem dX2_keep_14 : decode cX2_keep 14 = .ok (.aload_n 0, 1) := by decide +kernel
theorem dX2_keep_15 : decode cX2_keep 15 = .ok (.getfield 13, 3) := by decide +kernel
theorem dX2_keep_18 : decode cX2_keep 18 = .ok (.iload 5, 2) := by decide +kernel
theorem dX2_keep_20 : decode cX2_keep 20 = .ok (.iload_n 3, 1) := by decide +kernel
theorem dX2_keep_21 : decode cX2_keep 21 = .ok (.iastore, 1) := by decide +kernel
theorem dX2_keep_22 : decode cX2_keep 22 = .ok (.aload_n 0, 1) := by decide +kernel
theorem dX2_keep_23 : decode cX2_keep 23 = .ok (.getfield 17, 3) := by decide +kernel
theorem dX2_keep_26 : decode cX2_keep 26 = .ok (.iload 5, 2) := by decide +kernel
theorem dX2_keep_28 : decode cX2_keep 28 = .ok (.iload 4, 2) := by decide +kernel
theorem dX2_keep_30 : decode cX2_keep 30 = .ok (.iastore, 1) := by decide +kernel
theorem dX2_keep_31 : decode cX2_keep 31 = .ok (.return_, 1) := by decide +kernel
theorem dX2_slotOf_0 : decode cX2_slotOf 0 = .ok (.lload_n 0, 1) := by decide +kernel
theorem dX2_slotOf_1 : decode cX2_slotOf 1 = .ok (.ldc2_w 24, 3) := by decide +kernel
theorem dX2_slotOf_4 : decode cX2_slotOf 4 = .ok (.lmul, 1) := by decide +kernel
theorem dX2_slotOf_5 : decode cX2_slotOf 5 = .ok (.bipush 54, 2) := by decide +kernel
theorem dX2_slotOf_7 : decode cX2_slotOf 7 = .ok (.lushr, 1) := by decide +kernel
theorem dX2_slotOf_8 : decode cX2_slotOf 8 = .ok (.l2i, 1) := by decide +kernel
theorem dX2_slotOf_9 : decode cX2_slotOf 9 = .ok (.ireturn, 1) := by decide +kernel
