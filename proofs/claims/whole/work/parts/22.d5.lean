set_option maxHeartbeats 4000000 in
set_option maxRecDepth 100000 in
theorem c_bitCount (l : Launch) (D : va_G) (cI cJ cZ : ClassId) (x : Int64) : Met l yJ13_bitCount_95d88 wsJ13_bitCount_95d88 (k2_rm 0 0) (RPc D [.long x] [] (tyA cI cJ cZ)) (k2_QcV (.int (nI (popN x 64)))) 0 0 (fun _ => False) := by
  refine ro_head (cc := cJ13_bitCount_95d88) (maxL := 2) (ret := (some .int)) (by decide) rfl (Nat.le_of_ble_eq_true rfl) ?_
  intro p e s m below meth cd ls hx hb hr hlocks hts hown hml hP hK hN hl
  have hl : lv_has ls 2 [(0, .long x)] := hl
  refine lv_lload_n hx hb dJ13_bitCount_95d88_0 rfl (lv_at hl 0 rfl) ?_
  refine lv_lload_n hx hb dJ13_bitCount_95d88_1 rfl (lv_at hl 0 rfl) ?_
  refine lv_iconst (v := nI 1) hx hb dJ13_bitCount_95d88_2 (by decide) ?_
  refine n_lushr hx hb dJ13_bitCount_95d88_3 ?_
  refine lv_ldc2 (v := 6148914691236517205) hx hb hown (hts (.constantLong RJ13 314 (6148914691236517205)) (by decide +kernel)) dJ13_bitCount_95d88_4 ?_
  refine lv_land hx hb dJ13_bitCount_95d88_7 ?_
  refine lv_lsub hx hb dJ13_bitCount_95d88_8 ?_
  refine lv_topl (fun a1 e1 => ?_)
  refine lv_lstore_n (lv' := [(0, .long a1)]) hx hb dJ13_bitCount_95d88_9 rfl hl (by decide) rfl (fun ls hl => ?_)
  refine lv_lload_n hx hb dJ13_bitCount_95d88_10 rfl (lv_at hl 0 rfl) ?_
  refine lv_ldc2 (v := 3689348814741910323) hx hb hown (hts (.constantLong RJ13 316 (3689348814741910323)) (by decide +kernel)) dJ13_bitCount_95d88_11 ?_
  refine lv_land hx hb dJ13_bitCount_95d88_14 ?_
  refine lv_lload_n hx hb dJ13_bitCount_95d88_15 rfl (lv_at hl 0 rfl) ?_
  refine lv_iconst (v := nI 2) hx hb dJ13_bitCount_95d88_16 (by decide) ?_
  refine n_lushr hx hb dJ13_bitCount_95d88_17 ?_
  refine lv_ldc2 (v := 3689348814741910323) hx hb hown (hts (.constantLong RJ13 316 (3689348814741910323)) (by decide +kernel)) dJ13_bitCount_95d88_18 ?_
  refine lv_land hx hb dJ13_bitCount_95d88_21 ?_
  refine lv_ladd hx hb dJ13_bitCount_95d88_22 ?_
  refine lv_topl (fun a2 e2 => ?_)
  refine lv_lstore_n (lv' := [(0, .long a2)]) hx hb dJ13_bitCount_95d88_23 rfl hl (by decide) rfl (fun ls hl => ?_)
  refine lv_lload_n hx hb dJ13_bitCount_95d88_24 rfl (lv_at hl 0 rfl) ?_
  refine lv_lload_n hx hb dJ13_bitCount_95d88_25 rfl (lv_at hl 0 rfl) ?_
  refine lv_iconst (v := nI 4) hx hb dJ13_bitCount_95d88_26 (by decide) ?_
  refine n_lushr hx hb dJ13_bitCount_95d88_27 ?_
  refine lv_ladd hx hb dJ13_bitCount_95d88_28 ?_
  refine lv_ldc2 (v := 1085102592571150095) hx hb hown (hts (.constantLong RJ13 318 (1085102592571150095)) (by decide +kernel)) dJ13_bitCount_95d88_29 ?_
  refine lv_land hx hb dJ13_bitCount_95d88_32 ?_
  refine lv_topl (fun a3 e3 => ?_)
  refine lv_lstore_n (lv' := [(0, .long a3)]) hx hb dJ13_bitCount_95d88_33 rfl hl (by decide) rfl (fun ls hl => ?_)
  refine lv_lload_n hx hb dJ13_bitCount_95d88_34 rfl (lv_at hl 0 rfl) ?_
  refine lv_lload_n hx hb dJ13_bitCount_95d88_35 rfl (lv_at hl 0 rfl) ?_
  refine lv_bipush (v := nI 8) hx hb dJ13_bitCount_95d88_36 (by decide) ?_
  refine n_lushr hx hb dJ13_bitCount_95d88_38 ?_
  refine lv_ladd hx hb dJ13_bitCount_95d88_39 ?_
  refine lv_topl (fun a4 e4 => ?_)
  refine lv_lstore_n (lv' := [(0, .long a4)]) hx hb dJ13_bitCount_95d88_40 rfl hl (by decide) rfl (fun ls hl => ?_)
  refine lv_lload_n hx hb dJ13_bitCount_95d88_41 rfl (lv_at hl 0 rfl) ?_
  refine lv_lload_n hx hb dJ13_bitCount_95d88_42 rfl (lv_at hl 0 rfl) ?_
  refine lv_bipush (v := nI 16) hx hb dJ13_bitCount_95d88_43 (by decide) ?_
  refine n_lushr hx hb dJ13_bitCount_95d88_45 ?_
  refine lv_ladd hx hb dJ13_bitCount_95d88_46 ?_
  refine lv_topl (fun a5 e5 => ?_)
  refine lv_lstore_n (lv' := [(0, .long a5)]) hx hb dJ13_bitCount_95d88_47 rfl hl (by decide) rfl (fun ls hl => ?_)
  refine lv_lload_n hx hb dJ13_bitCount_95d88_48 rfl (lv_at hl 0 rfl) ?_
  refine lv_lload_n hx hb dJ13_bitCount_95d88_49 rfl (lv_at hl 0 rfl) ?_
  refine lv_bipush (v := nI 32) hx hb dJ13_bitCount_95d88_50 (by decide) ?_
  refine n_lushr hx hb dJ13_bitCount_95d88_52 ?_
  refine lv_ladd hx hb dJ13_bitCount_95d88_53 ?_
  refine lv_topl (fun a6 e6 => ?_)
  refine lv_lstore_n (lv' := [(0, .long a6)]) hx hb dJ13_bitCount_95d88_54 rfl hl (by decide) rfl (fun ls hl => ?_)
  refine lv_lload_n hx hb dJ13_bitCount_95d88_55 rfl (lv_at hl 0 rfl) ?_
  refine lv_l2i hx hb dJ13_bitCount_95d88_56 rfl ?_
  refine lv_bipush (v := nI 127) hx hb dJ13_bitCount_95d88_57 (by decide) ?_
  refine lv_iand hx hb dJ13_bitCount_95d88_59 ?_
  exact ro_iret hx hb hr hlocks (bc_ok e1 e2 e3 e4 e5 e6) dJ13_bitCount_95d88_60

set_option maxHeartbeats 4000000 in
set_option maxRecDepth 100000 in
theorem c_countLines (l : Launch) (D : va_G) (cI cJ cZ : ClassId) (w h g st cs : Nat) (x : Int64) : Met l yX1_countLines wsX1_countLines (k2_rm 1 25) (RPc D [.ref g, .long x] (gW cI cJ w h g st cs) (tyA cI cJ cZ)) (k2_QcV (.int (nI (clN h x)))) 0 0 (fun _ => False) := by
  refine ro_head (cc := cX1_countLines) (maxL := 8) (ret := (some .int)) (by decide) rfl (Nat.le_of_ble_eq_true rfl) ?_
  intro p e s m below meth cd ls hx hb hr hlocks hts hown hml hP hK hN hl
  have hl : lv_has ls 8 [(0, .ref g), (1, .long x)] := hl
  refine lv_iconst (v := nI 0) hx hb dX1_countLines_0 (by decide) ?_
  refine lv_istore_n (lv' := [(3, .int (nI 0)), (0, .ref g), (1, .long x)]) hx hb dX1_countLines_1 rfl hl (by decide) rfl (fun ls hl => ?_)
  refine lv_aload_n hx hb dX1_countLines_2 rfl (lv_at hl 1 rfl) ?_
  refine va_get (C := RX1) (T := TX1) (N := 6) hx hb hts (by decide +kernel) hown hK hP 0 rfl rfl 4 (by decide) (hts (.fieldLink RX1 16 RX1 "steps" "[I") (by decide +kernel)) (fun _ h9 => h9) rfl dX1_countLines_3 ?_
  refine lv_astore (lv' := [(4, .ref st), (3, .int (nI 0)), (0, .ref g), (1, .long x)]) hx hb dX1_countLines_6 hl (by decide) rfl (fun ls hl => ?_)
  refine lv_aload hx hb dX1_countLines_8 (lv_at hl 0 rfl) ?_
  refine va_alen hx hb hK hP 1 0 rfl rfl (v := nI 4) rfl dX1_countLines_10 ?_
  refine lv_istore (lv' := [(5, .int (nI 4)), (4, .ref st), (3, .int (nI 0)), (0, .ref g), (1, .long x)]) hx hb dX1_countLines_11 hl (by decide) rfl (fun ls hl => ?_)
  refine lv_iconst (v := nI 0) hx hb dX1_countLines_13 (by decide) ?_
  refine lv_istore (lv' := [(6, .int (nI 0)), (5, .int (nI 4)), (4, .ref st), (3, .int (nI 0)), (0, .ref g), (1, .long x)]) hx hb dX1_countLines_14 hl (by decide) rfl (fun ls hl => ?_)
  refine lv_iload hx hb dX1_countLines_16 (lv_at hl 0 rfl) ?_
  refine lv_iload hx hb dX1_countLines_18 (lv_at hl 1 rfl) ?_
  refine n_icmp_ge (tgt := 49) hx hb dX1_countLines_20 (by decide) (by decide) (by decide) (fun c20_1 => absurd c20_1 (by decide)) (fun _ => ?_)
  refine lv_aload hx hb dX1_countLines_23 (lv_at hl 2 rfl) ?_
  refine lv_iload hx hb dX1_countLines_25 (lv_at hl 0 rfl) ?_
  refine n_iald hx hb hK hP 1 0 rfl rfl (by omega) (by omega) dX1_countLines_27 ?_
  refine lv_istore (lv' := [(7, .int (nI (stp h 0))), (6, .int (nI 0)), (5, .int (nI 4)), (4, .ref st), (3, .int (nI 0)), (0, .ref g), (1, .long x)]) hx hb dX1_countLines_28 hl (by decide) rfl (fun ls hl => ?_)
  refine lv_iload_n hx hb dX1_countLines_30 rfl (lv_at hl 4 rfl) ?_
  refine lv_aload_n hx hb dX1_countLines_31 rfl (lv_at hl 5 rfl) ?_
  refine lv_lload_n hx hb dX1_countLines_32 rfl (lv_at hl 6 rfl) ?_
  refine lv_iload hx hb dX1_countLines_33 (lv_at hl 0 rfl) ?_
  refine ro_call (W.runV (As := [.long x, .int (nI (stp h 0))]) (rest := [.int (nI 0)]) ⟨hx, hb, hml, hown, hts⟩ (c_lineStarts l D cI cJ cZ w h g st cs x (stp h 0)) (cwV 2 hts gX1_countLines_X1_lineStarts rfl rfl rfl (by decide +kernel) ⟨Nat.le_of_ble_eq_true rfl, Nat.le_of_ble_eq_true rfl⟩) ⟨RPc.blind, va_recv hK hP (ci := 1) (q0 := 0) rfl rfl, (RPc.at (hP.sub [0, 1, 2] rfl) hK hN)⟩ rfl rfl hl.1 rfl (lv_room (Nat.le_of_ble_eq_true rfl)) dX1_countLines_35 ⟨Nat.zero_le _, Nat.zero_le _⟩) ?_
  refine ro_call (W.runS (As := [.long (lsL x (stp h 0))]) (rest := [.int (nI 0)]) ⟨hx, hb, hml, hown, hts⟩ (c_bitCount l D cI cJ cZ (lsL x (stp h 0))) (va_cwS 1 hts gX1_countLines_J13_bitCount_95d88 rfl rfl rfl (by decide +kernel) ⟨Nat.le_of_ble_eq_true rfl, Nat.le_of_ble_eq_true rfl⟩) ⟨RPc.blind, (RPc.at (hP.sub [] rfl) hK hN)⟩ rfl rfl hl.1 rfl (lv_room (Nat.le_of_ble_eq_true rfl)) dX1_countLines_38 ⟨Nat.zero_le _, Nat.zero_le _⟩) ?_
  refine n_iadd hx hb dX1_countLines_41 ?_
  refine lv_istore_n (lv' := [(3, .int (nI (0 + (popN (lsL x (stp h 0)) 64)))), (7, .int (nI (stp h 0))), (6, .int (nI 0)), (5, .int (nI 4)), (4, .ref st), (0, .ref g), (1, .long x)]) hx hb dX1_countLines_42 rfl hl (by decide) rfl (fun ls hl => ?_)
  refine n_iinc (n := 1) (lv' := [(6, .int (nI 1)), (3, .int (nI (0 + (popN (lsL x (stp h 0)) 64)))), (7, .int (nI (stp h 0))), (5, .int (nI 4)), (4, .ref st), (0, .ref g), (1, .long x)]) hx hb dX1_countLines_43 hl (k := 2) rfl (by decide) rfl (fun ls hl => ?_)
  refine lv_goto (tgt := 16) hx hb dX1_countLines_46 (by decide) ?_
  refine lv_iload hx hb dX1_countLines_16 (lv_at hl 0 rfl) ?_
  refine lv_iload hx hb dX1_countLines_18 (lv_at hl 3 rfl) ?_
  refine n_icmp_ge (tgt := 49) hx hb dX1_countLines_20 (by decide) (by decide) (by decide) (fun c20_2 => absurd c20_2 (by decide)) (fun _ => ?_)
  refine lv_aload hx hb dX1_countLines_23 (lv_at hl 4 rfl) ?_
  refine lv_iload hx hb dX1_countLines_25 (lv_at hl 0 rfl) ?_
  refine n_iald hx hb hK hP 1 0 rfl rfl (by omega) (by omega) dX1_countLines_27 ?_
  refine lv_istore (lv' := [(7, .int (nI (stp h 1))), (6, .int (nI 1)), (3, .int (nI (0 + (popN (lsL x (stp h 0)) 64)))), (5, .int (nI 4)), (4, .ref st), (0, .ref g), (1, .long x)]) hx hb dX1_countLines_28 hl (by decide) rfl (fun ls hl => ?_)
  refine lv_iload_n hx hb dX1_countLines_30 rfl (lv_at hl 2 rfl) ?_
  refine lv_aload_n hx hb dX1_countLines_31 rfl (lv_at hl 5 rfl) ?_
  refine lv_lload_n hx hb dX1_countLines_32 rfl (lv_at hl 6 rfl) ?_
  refine lv_iload hx hb dX1_countLines_33 (lv_at hl 0 rfl) ?_
  refine ro_call (W.runV (As := [.long x, .int (nI (stp h 1))]) (rest := [.int (nI (0 + (popN (lsL x (stp h 0)) 64)))]) ⟨hx, hb, hml, hown, hts⟩ (c_lineStarts l D cI cJ cZ w h g st cs x (stp h 1)) (cwV 2 hts gX1_countLines_X1_lineStarts rfl rfl rfl (by decide +kernel) ⟨Nat.le_of_ble_eq_true rfl, Nat.le_of_ble_eq_true rfl⟩) ⟨RPc.blind, va_recv hK hP (ci := 1) (q0 := 0) rfl rfl, (RPc.at (hP.sub [0, 1, 2] rfl) hK hN)⟩ rfl rfl hl.1 rfl (lv_room (Nat.le_of_ble_eq_true rfl)) dX1_countLines_35 ⟨Nat.zero_le _, Nat.zero_le _⟩) ?_
  refine ro_call (W.runS (As := [.long (lsL x (stp h 1))]) (rest := [.int (nI (0 + (popN (lsL x (stp h 0)) 64)))]) ⟨hx, hb, hml, hown, hts⟩ (c_bitCount l D cI cJ cZ (lsL x (stp h 1))) (va_cwS 1 hts gX1_countLines_J13_bitCount_95d88 rfl rfl rfl (by decide +kernel) ⟨Nat.le_of_ble_eq_true rfl, Nat.le_of_ble_eq_true rfl⟩) ⟨RPc.blind, (RPc.at (hP.sub [] rfl) hK hN)⟩ rfl rfl hl.1 rfl (lv_room (Nat.le_of_ble_eq_true rfl)) dX1_countLines_38 ⟨Nat.zero_le _, Nat.zero_le _⟩) ?_
  refine n_iadd hx hb dX1_countLines_41 ?_
  refine lv_istore_n (lv' := [(3, .int (nI ((0 + (popN (lsL x (stp h 0)) 64)) + (popN (lsL x (stp h 1)) 64)))), (7, .int (nI (stp h 1))), (6, .int (nI 1)), (5, .int (nI 4)), (4, .ref st), (0, .ref g), (1, .long x)]) hx hb dX1_countLines_42 rfl hl (by decide) rfl (fun ls hl => ?_)
  refine n_iinc (n := 1) (lv' := [(6, .int (nI 2)), (3, .int (nI ((0 + (popN (lsL x (stp h 0)) 64)) + (popN (lsL x (stp h 1)) 64)))), (7, .int (nI (stp h 1))), (5, .int (nI 4)), (4, .ref st), (0, .ref g), (1, .long x)]) hx hb dX1_countLines_43 hl (k := 2) rfl (by decide) rfl (fun ls hl => ?_)
  refine lv_goto (tgt := 16) hx hb dX1_countLines_46 (by decide) ?_
  refine lv_iload hx hb dX1_countLines_16 (lv_at hl 0 rfl) ?_
  refine lv_iload hx hb dX1_countLines_18 (lv_at hl 3 rfl) ?_
  refine n_icmp_ge (tgt := 49) hx hb dX1_countLines_20 (by decide) (by decide) (by decide) (fun c20_3 => absurd c20_3 (by decide)) (fun _ => ?_)
  refine lv_aload hx hb dX1_countLines_23 (lv_at hl 4 rfl) ?_
  refine lv_iload hx hb dX1_countLines_25 (lv_at hl 0 rfl) ?_
  refine n_iald hx hb hK hP 1 0 rfl rfl (by omega) (by omega) dX1_countLines_27 ?_
  refine lv_istore (lv' := [(7, .int (nI (stp h 2))), (6, .int (nI 2)), (3, .int (nI ((0 + (popN (lsL x (stp h 0)) 64)) + (popN (lsL x (stp h 1)) 64)))), (5, .int (nI 4)), (4, .ref st), (0, .ref g), (1, .long x)]) hx hb dX1_countLines_28 hl (by decide) rfl (fun ls hl => ?_)
  refine lv_iload_n hx hb dX1_countLines_30 rfl (lv_at hl 2 rfl) ?_
  refine lv_aload_n hx hb dX1_countLines_31 rfl (lv_at hl 5 rfl) ?_
  refine lv_lload_n hx hb dX1_countLines_32 rfl (lv_at hl 6 rfl) ?_
  refine lv_iload hx hb dX1_countLines_33 (lv_at hl 0 rfl) ?_
  refine ro_call (W.runV (As := [.long x, .int (nI (stp h 2))]) (rest := [.int (nI ((0 + (popN (lsL x (stp h 0)) 64)) + (popN (lsL x (stp h 1)) 64)))]) ⟨hx, hb, hml, hown, hts⟩ (c_lineStarts l D cI cJ cZ w h g st cs x (stp h 2)) (cwV 2 hts gX1_countLines_X1_lineStarts rfl rfl rfl (by decide +kernel) ⟨Nat.le_of_ble_eq_true rfl, Nat.le_of_ble_eq_true rfl⟩) ⟨RPc.blind, va_recv hK hP (ci := 1) (q0 := 0) rfl rfl, (RPc.at (hP.sub [0, 1, 2] rfl) hK hN)⟩ rfl rfl hl.1 rfl (lv_room (Nat.le_of_ble_eq_true rfl)) dX1_countLines_35 ⟨Nat.zero_le _, Nat.zero_le _⟩) ?_
  refine ro_call (W.runS (As := [.long (lsL x (stp h 2))]) (rest := [.int (nI ((0 + (popN (lsL x (stp h 0)) 64)) + (popN (lsL x (stp h 1)) 64)))]) ⟨hx, hb, hml, hown, hts⟩ (c_bitCount l D cI cJ cZ (lsL x (stp h 2))) (va_cwS 1 hts gX1_countLines_J13_bitCount_95d88 rfl rfl rfl (by decide +kernel) ⟨Nat.le_of_ble_eq_true rfl, Nat.le_of_ble_eq_true rfl⟩) ⟨RPc.blind, (RPc.at (hP.sub [] rfl) hK hN)⟩ rfl rfl hl.1 rfl (lv_room (Nat.le_of_ble_eq_true rfl)) dX1_countLines_38 ⟨Nat.zero_le _, Nat.zero_le _⟩) ?_
  refine n_iadd hx hb dX1_countLines_41 ?_
  refine lv_istore_n (lv' := [(3, .int (nI (((0 + (popN (lsL x (stp h 0)) 64)) + (popN (lsL x (stp h 1)) 64)) + (popN (lsL x (stp h 2)) 64)))), (7, .int (nI (stp h 2))), (6, .int (nI 2)), (5, .int (nI 4)), (4, .ref st), (0, .ref g), (1, .long x)]) hx hb dX1_countLines_42 rfl hl (by decide) rfl (fun ls hl => ?_)
  refine n_iinc (n := 1) (lv' := [(6, .int (nI 3)), (3, .int (nI (((0 + (popN (lsL x (stp h 0)) 64)) + (popN (lsL x (stp h 1)) 64)) + (popN (lsL x (stp h 2)) 64)))), (7, .int (nI (stp h 2))), (5, .int (nI 4)), (4, .ref st), (0, .ref g), (1, .long x)]) hx hb dX1_countLines_43 hl (k := 2) rfl (by decide) rfl (fun ls hl => ?_)
  refine lv_goto (tgt := 16) hx hb dX1_countLines_46 (by decide) ?_
  refine lv_iload hx hb dX1_countLines_16 (lv_at hl 0 rfl) ?_
  refine lv_iload hx hb dX1_countLines_18 (lv_at hl 3 rfl) ?_
  refine n_icmp_ge (tgt := 49) hx hb dX1_countLines_20 (by decide) (by decide) (by decide) (fun c20_4 => absurd c20_4 (by decide)) (fun _ => ?_)
  refine lv_aload hx hb dX1_countLines_23 (lv_at hl 4 rfl) ?_
  refine lv_iload hx hb dX1_countLines_25 (lv_at hl 0 rfl) ?_
  refine n_iald hx hb hK hP 1 0 rfl rfl (by omega) (by omega) dX1_countLines_27 ?_
  refine lv_istore (lv' := [(7, .int (nI (stp h 3))), (6, .int (nI 3)), (3, .int (nI (((0 + (popN (lsL x (stp h 0)) 64)) + (popN (lsL x (stp h 1)) 64)) + (popN (lsL x (stp h 2)) 64)))), (5, .int (nI 4)), (4, .ref st), (0, .ref g), (1, .long x)]) hx hb dX1_countLines_28 hl (by decide) rfl (fun ls hl => ?_)
  refine lv_iload_n hx hb dX1_countLines_30 rfl (lv_at hl 2 rfl) ?_
  refine lv_aload_n hx hb dX1_countLines_31 rfl (lv_at hl 5 rfl) ?_
  refine lv_lload_n hx hb dX1_countLines_32 rfl (lv_at hl 6 rfl) ?_
  refine lv_iload hx hb dX1_countLines_33 (lv_at hl 0 rfl) ?_
  refine ro_call (W.runV (As := [.long x, .int (nI (stp h 3))]) (rest := [.int (nI (((0 + (popN (lsL x (stp h 0)) 64)) + (popN (lsL x (stp h 1)) 64)) + (popN (lsL x (stp h 2)) 64)))]) ⟨hx, hb, hml, hown, hts⟩ (c_lineStarts l D cI cJ cZ w h g st cs x (stp h 3)) (cwV 2 hts gX1_countLines_X1_lineStarts rfl rfl rfl (by decide +kernel) ⟨Nat.le_of_ble_eq_true rfl, Nat.le_of_ble_eq_true rfl⟩) ⟨RPc.blind, va_recv hK hP (ci := 1) (q0 := 0) rfl rfl, (RPc.at (hP.sub [0, 1, 2] rfl) hK hN)⟩ rfl rfl hl.1 rfl (lv_room (Nat.le_of_ble_eq_true rfl)) dX1_countLines_35 ⟨Nat.zero_le _, Nat.zero_le _⟩) ?_
  refine ro_call (W.runS (As := [.long (lsL x (stp h 3))]) (rest := [.int (nI (((0 + (popN (lsL x (stp h 0)) 64)) + (popN (lsL x (stp h 1)) 64)) + (popN (lsL x (stp h 2)) 64)))]) ⟨hx, hb, hml, hown, hts⟩ (c_bitCount l D cI cJ cZ (lsL x (stp h 3))) (va_cwS 1 hts gX1_countLines_J13_bitCount_95d88 rfl rfl rfl (by decide +kernel) ⟨Nat.le_of_ble_eq_true rfl, Nat.le_of_ble_eq_true rfl⟩) ⟨RPc.blind, (RPc.at (hP.sub [] rfl) hK hN)⟩ rfl rfl hl.1 rfl (lv_room (Nat.le_of_ble_eq_true rfl)) dX1_countLines_38 ⟨Nat.zero_le _, Nat.zero_le _⟩) ?_
  refine n_iadd hx hb dX1_countLines_41 ?_
  refine lv_istore_n (lv' := [(3, .int (nI ((((0 + (popN (lsL x (stp h 0)) 64)) + (popN (lsL x (stp h 1)) 64)) + (popN (lsL x (stp h 2)) 64)) + (popN (lsL x (stp h 3)) 64)))), (7, .int (nI (stp h 3))), (6, .int (nI 3)), (5, .int (nI 4)), (4, .ref st), (0, .ref g), (1, .long x)]) hx hb dX1_countLines_42 rfl hl (by decide) rfl (fun ls hl => ?_)
  refine n_iinc (n := 1) (lv' := [(6, .int (nI 4)), (3, .int (nI ((((0 + (popN (lsL x (stp h 0)) 64)) + (popN (lsL x (stp h 1)) 64)) + (popN (lsL x (stp h 2)) 64)) + (popN (lsL x (stp h 3)) 64)))), (7, .int (nI (stp h 3))), (5, .int (nI 4)), (4, .ref st), (0, .ref g), (1, .long x)]) hx hb dX1_countLines_43 hl (k := 2) rfl (by decide) rfl (fun ls hl => ?_)
  refine lv_goto (tgt := 16) hx hb dX1_countLines_46 (by decide) ?_
  refine lv_iload hx hb dX1_countLines_16 (lv_at hl 0 rfl) ?_
  refine lv_iload hx hb dX1_countLines_18 (lv_at hl 3 rfl) ?_
  refine n_icmp_ge (tgt := 49) hx hb dX1_countLines_20 (by decide) (by decide) (by decide) (fun _ => ?_) (fun c20_5 => absurd c20_5 (by decide))
  refine lv_iload_n hx hb dX1_countLines_49 rfl (lv_at hl 1 rfl) ?_
  exact ro_iret hx hb hr hlocks rfl dX1_countLines_50

set_option maxHeartbeats 4000000 in
set_option maxRecDepth 100000 in
theorem c_safeMoves (l : Launch) (D : va_G) (cI cJ cZ : ClassId) (nx th : Int64) : Met l yX3_safeMoves wsX3_safeMoves (k2_rm 1 21) (RPc D [.long nx, .long th] [] (tyA cI cJ cZ)) (k2_QcV (.long (smL nx th))) 0 0 (fun _ => False) := by
  refine ro_head (cc := cX3_safeMoves) (maxL := 8) (ret := (some .long)) (by decide) rfl (Nat.le_of_ble_eq_true rfl) ?_
  intro p e s m below meth cd ls hx hb hr hlocks hts hown hml hP hK hN hl
  have hl : lv_has ls 8 [(0, .long nx), (2, .long th)] := hl
  refine lv_lload_n hx hb dX3_safeMoves_0 rfl (lv_at hl 0 rfl) ?_
  refine lv_lload_n hx hb dX3_safeMoves_1 rfl (lv_at hl 1 rfl) ?_
  refine lv_land hx hb dX3_safeMoves_2 ?_
  refine lv_lstore (lv' := [(4, .long (nx &&& th)), (0, .long nx), (2, .long th)]) hx hb dX3_safeMoves_3 hl (by decide) rfl (fun ls hl => ?_)
  refine lv_lload hx hb dX3_safeMoves_5 (lv_at hl 0 rfl) ?_
  refine ro_call (W.runS (As := [.long (nx &&& th)]) (rest := []) ⟨hx, hb, hml, hown, hts⟩ (c_bitCount l D cI cJ cZ (nx &&& th)) (va_cwS 1 hts gX3_safeMoves_J13_bitCount_95d88 rfl rfl rfl (by decide +kernel) ⟨Nat.le_of_ble_eq_true rfl, Nat.le_of_ble_eq_true rfl⟩) ⟨RPc.blind, (RPc.at (hP.sub [] rfl) hK hN)⟩ rfl rfl hl.1 rfl (lv_room (Nat.le_of_ble_eq_true rfl)) dX3_safeMoves_7 ⟨Nat.zero_le _, Nat.zero_le _⟩) ?_
  refine lv_iconst (v := nI 1) hx hb dX3_safeMoves_10 (by decide) ?_
  refine n_icmp_le (tgt := 16) hx hb dX3_safeMoves_11 (by decide) (Nat.lt_of_le_of_lt (popN_le _ _) (by decide)) (by decide) (fun c11_1 => ?_) (fun c11_1 => ?_)
  · skip
    refine lv_lload hx hb dX3_safeMoves_16 (lv_at hl 0 rfl) ?_
    refine lv_lconst (v := 0) hx hb dX3_safeMoves_18 (by decide) ?_
    refine W.lcmp hx hb dX3_safeMoves_19 ?_
    refine l_if_ne (tgt := 27) hx hb dX3_safeMoves_20 (by decide) (fun c20_2 => ?_) (fun c20_2 => ?_)
    · skip
      refine lv_lload hx hb dX3_safeMoves_27 (lv_at hl 0 rfl) ?_
      refine lv_lstore (lv' := [(6, .long (nx &&& th)), (4, .long (nx &&& th)), (0, .long nx), (2, .long th)]) hx hb dX3_safeMoves_29 hl (by decide) rfl (fun ls hl => ?_)
      refine lv_lload hx hb dX3_safeMoves_31 (lv_at hl 0 rfl) ?_
      refine lv_lload_n hx hb dX3_safeMoves_33 rfl (lv_at hl 3 rfl) ?_
      refine lv_iconst (v := nI 1) hx hb dX3_safeMoves_34 (by decide) ?_
      refine n_lushr hx hb dX3_safeMoves_35 ?_
      refine lv_ldc2 (v := (-1)) hx hb hown (hts (.constantLong RX3 54 (-1)) (by decide +kernel)) dX3_safeMoves_36 ?_
      refine lv_lxor hx hb dX3_safeMoves_39 ?_
      refine lv_land hx hb dX3_safeMoves_40 ?_
      exact ro_lret hx hb hr hlocks (by unfold smL; rw [if_neg (Nat.not_lt.mpr c11_1), if_neg c20_2]) dX3_safeMoves_41
    refine lv_lload_n hx hb dX3_safeMoves_23 rfl (lv_at hl 1 rfl) ?_
    refine lv_goto (tgt := 29) hx hb dX3_safeMoves_24 (by decide) ?_
    refine lv_lstore (lv' := [(6, .long nx), (4, .long (nx &&& th)), (0, .long nx), (2, .long th)]) hx hb dX3_safeMoves_29 hl (by decide) rfl (fun ls hl => ?_)
    refine lv_lload hx hb dX3_safeMoves_31 (lv_at hl 0 rfl) ?_
    refine lv_lload_n hx hb dX3_safeMoves_33 rfl (lv_at hl 3 rfl) ?_
    refine lv_iconst (v := nI 1) hx hb dX3_safeMoves_34 (by decide) ?_
    refine n_lushr hx hb dX3_safeMoves_35 ?_
    refine lv_ldc2 (v := (-1)) hx hb hown (hts (.constantLong RX3 54 (-1)) (by decide +kernel)) dX3_safeMoves_36 ?_
    refine lv_lxor hx hb dX3_safeMoves_39 ?_
    refine lv_land hx hb dX3_safeMoves_40 ?_
    exact ro_lret hx hb hr hlocks (by unfold smL; rw [if_neg (Nat.not_lt.mpr c11_1), if_pos c20_2]) dX3_safeMoves_41
  refine lv_lconst (v := 0) hx hb dX3_safeMoves_14 (by decide) ?_
  exact ro_lret hx hb hr hlocks (by unfold smL; rw [if_pos c11_1]) dX3_safeMoves_15

set_option maxHeartbeats 4000000 in
set_option maxRecDepth 100000 in
theorem c_slotOf (l : Launch) (D : va_G) (cI cJ cZ : ClassId) (k : Int64) : Met l yX2_slotOf wsX2_slotOf (k2_rm 0 0) (RPc D [.long k] [] (tyA cI cJ cZ)) (k2_QcV (.int (nI (slN k)))) 0 0 (fun _ => False) := by
  refine ro_head (cc := cX2_slotOf) (maxL := 2) (ret := (some .int)) (by decide) rfl (Nat.le_of_ble_eq_true rfl) ?_
  intro p e s m below meth cd ls hx hb hr hlocks hts hown hml hP hK hN hl
  have hl : lv_has ls 2 [(0, .long k)] := hl
  refine lv_lload_n hx hb dX2_slotOf_0 rfl (lv_at hl 0 rfl) ?_
  refine lv_ldc2 (v := (-7046029254386353131)) hx hb hown (hts (.constantLong RX2 24 (-7046029254386353131)) (by decide +kernel)) dX2_slotOf_1 ?_
  refine lv_lmul hx hb dX2_slotOf_4 ?_
  refine lv_bipush (v := nI 54) hx hb dX2_slotOf_5 (by decide) ?_
  refine n_lushr hx hb dX2_slotOf_7 ?_
  refine lv_l2i hx hb dX2_slotOf_8 rfl ?_
  exact ro_iret hx hb hr hlocks (slN_I k) dX2_slotOf_9

set_option maxHeartbeats 4000000 in
set_option maxRecDepth 100000 in
theorem c_holds (l : Launch) (D : va_G) (cI cJ cZ : ClassId) (me ks le mo : Nat) (K : Nat → Int64) (lf mf : Nat → Int32) (k : Int64) : Met l yX2_holds wsX2_holds (k2_rm 1 21) (RPc D [.ref me, .long k] (mW cI cJ me ks le mo K lf mf) (tyA cI cJ cZ)) (k2_QcV (.int (bI (decide (K (slN k) = k))))) 0 0 (fun _ => False) := by
  refine ro_head (cc := cX2_holds) (maxL := 3) (ret := (some .boolean)) (by decide) rfl (Nat.le_of_ble_eq_true rfl) ?_
  intro p e s m below meth cd ls hx hb hr hlocks hts hown hml hP hK hN hl
  have hl : lv_has ls 3 [(0, .ref me), (1, .long k)] := hl
  refine lv_aload_n hx hb dX2_holds_0 rfl (lv_at hl 0 rfl) ?_
  refine va_get (C := RX2) (T := TX2) (N := 3) hx hb hts (by decide +kernel) hown hK hP 0 rfl rfl 0 (by decide) (hts (.fieldLink RX2 9 RX2 "keys" "[J") (by decide +kernel)) (fun _ h9 => h9) rfl dX2_holds_1 ?_
  refine lv_lload_n hx hb dX2_holds_4 rfl (lv_at hl 1 rfl) ?_
  refine ro_call (W.runS (As := [.long k]) (rest := [.ref ks]) ⟨hx, hb, hml, hown, hts⟩ (c_slotOf l D cI cJ cZ k) (va_cwS 1 hts gX2_holds_X2_slotOf rfl rfl rfl (by decide +kernel) ⟨Nat.le_of_ble_eq_true rfl, Nat.le_of_ble_eq_true rfl⟩) ⟨RPc.blind, (RPc.at (hP.sub [] rfl) hK hN)⟩ rfl rfl hl.1 rfl (lv_room (Nat.le_of_ble_eq_true rfl)) dX2_holds_5 ⟨Nat.zero_le _, Nat.zero_le _⟩) ?_
  refine n_lald hx hb hK hP 1 1 rfl rfl (slN_lt k) (by decide) dX2_holds_8 ?_
  refine lv_lload_n hx hb dX2_holds_9 rfl (lv_at hl 1 rfl) ?_
  refine W.lcmp hx hb dX2_holds_10 ?_
  refine l_if_ne (tgt := 18) hx hb dX2_holds_11 (by decide) (fun c11_1 => ?_) (fun c11_1 => ?_)
  · skip
    refine lv_iconst (v := nI 0) hx hb dX2_holds_18 (by decide) ?_
    exact ro_zret hx hb hr hlocks (by first | rfl | exact bI_nar _) (by simp [bI, nI, c11_1]) dX2_holds_19
  refine lv_iconst (v := nI 1) hx hb dX2_holds_14 (by decide) ?_
  refine lv_goto (tgt := 19) hx hb dX2_holds_15 (by decide) ?_
  exact ro_zret hx hb hr hlocks (by first | rfl | exact bI_nar _) (by simp [bI, nI, c11_1]) dX2_holds_19

set_option maxHeartbeats 4000000 in
set_option maxRecDepth 100000 in
theorem c_leastOf (l : Launch) (D : va_G) (cI cJ cZ : ClassId) (me ks le mo : Nat) (K : Nat → Int64) (lf mf : Nat → Int32) (k : Int64) : Met l yX2_leastOf wsX2_leastOf (k2_rm 1 21) (RPc D [.ref me, .long k] (mW cI cJ me ks le mo K lf mf) (tyA cI cJ cZ)) (k2_QcV (.int (lf (slN k)))) 0 0 (fun _ => False) := by
  refine ro_head (cc := cX2_leastOf) (maxL := 3) (ret := (some .int)) (by decide) rfl (Nat.le_of_ble_eq_true rfl) ?_
  intro p e s m below meth cd ls hx hb hr hlocks hts hown hml hP hK hN hl
  have hl : lv_has ls 3 [(0, .ref me), (1, .long k)] := hl
  refine lv_aload_n hx hb dX2_leastOf_0 rfl (lv_at hl 0 rfl) ?_
  refine va_get (C := RX2) (T := TX2) (N := 3) hx hb hts (by decide +kernel) hown hK hP 0 rfl rfl 1 (by decide) (hts (.fieldLink RX2 13 RX2 "least" "[I") (by decide +kernel)) (fun _ h9 => h9) rfl dX2_leastOf_1 ?_
  refine lv_lload_n hx hb dX2_leastOf_4 rfl (lv_at hl 1 rfl) ?_
  refine ro_call (W.runS (As := [.long k]) (rest := [.ref le]) ⟨hx, hb, hml, hown, hts⟩ (c_slotOf l D cI cJ cZ k) (va_cwS 1 hts gX2_leastOf_X2_slotOf rfl rfl rfl (by decide +kernel) ⟨Nat.le_of_ble_eq_true rfl, Nat.le_of_ble_eq_true rfl⟩) ⟨RPc.blind, (RPc.at (hP.sub [] rfl) hK hN)⟩ rfl rfl hl.1 rfl (lv_room (Nat.le_of_ble_eq_true rfl)) dX2_leastOf_5 ⟨Nat.zero_le _, Nat.zero_le _⟩) ?_
  refine n_iald hx hb hK hP 2 0 rfl rfl (slN_lt k) (by decide) dX2_leastOf_8 ?_
  exact ro_iret hx hb hr hlocks rfl dX2_leastOf_9

set_option maxHeartbeats 4000000 in
set_option maxRecDepth 100000 in
theorem c_mostOf (l : Launch) (D : va_G) (cI cJ cZ : ClassId) (me ks le mo : Nat) (K : Nat → Int64) (lf mf : Nat → Int32) (k : Int64) : Met l yX2_mostOf wsX2_mostOf (k2_rm 1 21) (RPc D [.ref me, .long k] (mW cI cJ me ks le mo K lf mf) (tyA cI cJ cZ)) (k2_QcV (.int (mf (slN k)))) 0 0 (fun _ => False) := by
  refine ro_head (cc := cX2_mostOf) (maxL := 3) (ret := (some .int)) (by decide) rfl (Nat.le_of_ble_eq_true rfl) ?_
  intro p e s m below meth cd ls hx hb hr hlocks hts hown hml hP hK hN hl
  have hl : lv_has ls 3 [(0, .ref me), (1, .long k)] := hl
  refine lv_aload_n hx hb dX2_mostOf_0 rfl (lv_at hl 0 rfl) ?_
  refine va_get (C := RX2) (T := TX2) (N := 3) hx hb hts (by decide +kernel) hown hK hP 0 rfl rfl 2 (by decide) (hts (.fieldLink RX2 17 RX2 "most" "[I") (by decide +kernel)) (fun _ h9 => h9) rfl dX2_mostOf_1 ?_
  refine lv_lload_n hx hb dX2_mostOf_4 rfl (lv_at hl 1 rfl) ?_
  refine ro_call (W.runS (As := [.long k]) (rest := [.ref mo]) ⟨hx, hb, hml, hown, hts⟩ (c_slotOf l D cI cJ cZ k) (va_cwS 1 hts gX2_mostOf_X2_slotOf rfl rfl rfl (by decide +kernel) ⟨Nat.le_of_ble_eq_true rfl, Nat.le_of_ble_eq_true rfl⟩) ⟨RPc.blind, (RPc.at (hP.sub [] rfl) hK hN)⟩ rfl rfl hl.1 rfl (lv_room (Nat.le_of_ble_eq_true rfl)) dX2_mostOf_5 ⟨Nat.zero_le _, Nat.zero_le _⟩) ?_
  refine n_iald hx hb hK hP 3 0 rfl rfl (slN_lt k) (by decide) dX2_mostOf_8 ?_
  exact ro_iret hx hb hr hlocks rfl dX2_mostOf_9

set_option maxHeartbeats 4000000 in
set_option maxRecDepth 100000 in
theorem c_leastAtFirst (l : Launch) (D : va_G) (cI cJ cZ : ClassId) (w h se mi g st cs me ks le mo : Nat) (K : Nat → Int64) (lf mf : Nat → Int32) (x : Int64) (k : Nat) : Met l yX3_leastAtFirst wsX3_leastAtFirst (k2_rm 2 51) (RPc D [.ref se, .long x, .int (nI k)] (seW cI cJ w h se mi g st cs me ks le mo K lf mf) (tyA cI cJ cZ)) (k2_QcV (.int (zI (laZ w h x k)))) 0 0 (fun _ => False) := by
  refine ro_head (cc := cX3_leastAtFirst) (maxL := 4) (ret := (some .int)) (by decide) rfl (Nat.le_of_ble_eq_true rfl) ?_
  intro p e s m below meth cd ls hx hb hr hlocks hts hown hml hP hK hN hl
  have hl : lv_has ls 4 [(0, .ref se), (1, .long x), (3, .int (nI k))] := hl
  refine lv_aload_n hx hb dX3_leastAtFirst_0 rfl (lv_at hl 0 rfl) ?_
  refine va_get (C := RX3) (T := TX3) (N := 3) hx hb hts (by decide +kernel) hown hK hP 0 rfl rfl 0 (by decide) (hts (.fieldLink RX3 16 RX3 "grid" "LDropFour$Grid;") (by decide +kernel)) (fun _ h9 => h9) rfl dX3_leastAtFirst_1 ?_
  refine lv_aload_n hx hb dX3_leastAtFirst_4 rfl (lv_at hl 0 rfl) ?_
  refine va_get (C := RX3) (T := TX3) (N := 3) hx hb hts (by decide +kernel) hown hK hP 0 rfl rfl 0 (by decide) (hts (.fieldLink RX3 16 RX3 "grid" "LDropFour$Grid;") (by decide +kernel)) (fun _ h9 => h9) rfl dX3_leastAtFirst_5 ?_
  refine va_getN (C := RX1) (T := TX1) (N := 6) hx hb hts (by decide +kernel) hown hK hP 2 rfl rfl 2 (by decide) (hN.use 7 rfl rfl) (fun _ h9 => h9) rfl dX3_leastAtFirst_8 ?_
  refine lv_lload_n hx hb dX3_leastAtFirst_11 rfl (lv_at hl 1 rfl) ?_
  refine lv_ldc2 (v := (-1)) hx hb hown (hts (.constantLong RX3 54 (-1)) (by decide +kernel)) dX3_leastAtFirst_12 ?_
  refine lv_lxor hx hb dX3_leastAtFirst_15 ?_
  refine lv_land hx hb dX3_leastAtFirst_16 ?_
  refine ro_call (W.runV (As := [.long ((allL h w) &&& (x ^^^ (-1)))]) (rest := []) ⟨hx, hb, hml, hown, hts⟩ (c_hasLine l D cI cJ cZ w h g st cs ((allL h w) &&& (x ^^^ (-1)))) (cwV 1 hts gX3_leastAtFirst_X1_hasLine rfl rfl rfl (by decide +kernel) ⟨Nat.le_of_ble_eq_true rfl, Nat.le_of_ble_eq_true rfl⟩) ⟨RPc.blind, va_recv hK hP (ci := 1) (q0 := 2) rfl rfl, (RPc.at (hP.sub [2, 3, 4] rfl) hK hN)⟩ rfl rfl hl.1 rfl (lv_room (Nat.le_of_ble_eq_true rfl)) dX3_leastAtFirst_17 ⟨Nat.zero_le _, Nat.zero_le _⟩) ?_
  refine b_if_eq (tgt := 29) hx hb dX3_leastAtFirst_20 (by decide) (fun c20_1 => ?_) (fun c20_1 => ?_)
  · skip
    refine lv_iconst (v := nI 0) hx hb dX3_leastAtFirst_29 (by decide) ?_
    exact ro_iret hx hb hr hlocks (by unfold laZ; rw [c20_1]; rfl) dX3_leastAtFirst_30
  refine lv_iconst (v := nI 3) hx hb dX3_leastAtFirst_23 (by decide) ?_
  refine lv_iload_n hx hb dX3_leastAtFirst_24 rfl (lv_at hl 2 rfl) ?_
  refine rt_2 (a := zI 3) (b := zI ((k : Nat) : Int)) rfl (zI_n _).symm ?_
  refine z_isub hx hb dX3_leastAtFirst_25 ?_
  refine lv_goto (tgt := 30) hx hb dX3_leastAtFirst_26 (by decide) ?_
  exact ro_iret hx hb hr hlocks (by unfold laZ; rw [c20_1]; rfl) dX3_leastAtFirst_30

set_option maxHeartbeats 4000000 in
set_option maxRecDepth 100000 in
theorem c_mostAtFirst (l : Launch) (D : va_G) (cI cJ cZ : ClassId) (w h se mi g st cs me ks le mo : Nat) (K : Nat → Int64) (lf mf : Nat → Int32) (x : Int64) (k : Nat) : Met l yX3_mostAtFirst wsX3_mostAtFirst (k2_rm 2 51) (RPc D [.ref se, .long x, .int (nI k)] (seW cI cJ w h se mi g st cs me ks le mo K lf mf) (tyA cI cJ cZ)) (k2_QcV (.int (zI (maZ w h x k)))) 0 0 (fun _ => False) := by
  refine ro_head (cc := cX3_mostAtFirst) (maxL := 4) (ret := (some .int)) (by decide) rfl (Nat.le_of_ble_eq_true rfl) ?_
  intro p e s m below meth cd ls hx hb hr hlocks hts hown hml hP hK hN hl
  have hl : lv_has ls 4 [(0, .ref se), (1, .long x), (3, .int (nI k))] := hl
  refine lv_aload_n hx hb dX3_mostAtFirst_0 rfl (lv_at hl 0 rfl) ?_
  refine va_get (C := RX3) (T := TX3) (N := 3) hx hb hts (by decide +kernel) hown hK hP 0 rfl rfl 0 (by decide) (hts (.fieldLink RX3 16 RX3 "grid" "LDropFour$Grid;") (by decide +kernel)) (fun _ h9 => h9) rfl dX3_mostAtFirst_1 ?_
  refine lv_aload_n hx hb dX3_mostAtFirst_4 rfl (lv_at hl 0 rfl) ?_
  refine va_get (C := RX3) (T := TX3) (N := 3) hx hb hts (by decide +kernel) hown hK hP 0 rfl rfl 0 (by decide) (hts (.fieldLink RX3 16 RX3 "grid" "LDropFour$Grid;") (by decide +kernel)) (fun _ h9 => h9) rfl dX3_mostAtFirst_5 ?_
  refine va_getN (C := RX1) (T := TX1) (N := 6) hx hb hts (by decide +kernel) hown hK hP 2 rfl rfl 2 (by decide) (hN.use 7 rfl rfl) (fun _ h9 => h9) rfl dX3_mostAtFirst_8 ?_
  refine lv_lload_n hx hb dX3_mostAtFirst_11 rfl (lv_at hl 1 rfl) ?_
  refine lv_ldc2 (v := (-1)) hx hb hown (hts (.constantLong RX3 54 (-1)) (by decide +kernel)) dX3_mostAtFirst_12 ?_
  refine lv_lxor hx hb dX3_mostAtFirst_15 ?_
  refine lv_land hx hb dX3_mostAtFirst_16 ?_
  refine ro_call (W.runV (As := [.long ((allL h w) &&& (x ^^^ (-1)))]) (rest := []) ⟨hx, hb, hml, hown, hts⟩ (c_hasLine l D cI cJ cZ w h g st cs ((allL h w) &&& (x ^^^ (-1)))) (cwV 1 hts gX3_mostAtFirst_X1_hasLine rfl rfl rfl (by decide +kernel) ⟨Nat.le_of_ble_eq_true rfl, Nat.le_of_ble_eq_true rfl⟩) ⟨RPc.blind, va_recv hK hP (ci := 1) (q0 := 2) rfl rfl, (RPc.at (hP.sub [2, 3, 4] rfl) hK hN)⟩ rfl rfl hl.1 rfl (lv_room (Nat.le_of_ble_eq_true rfl)) dX3_mostAtFirst_17 ⟨Nat.zero_le _, Nat.zero_le _⟩) ?_
  refine b_if_eq (tgt := 29) hx hb dX3_mostAtFirst_20 (by decide) (fun c20_1 => ?_) (fun c20_1 => ?_)
  · skip
    refine lv_iconst (v := nI 0) hx hb dX3_mostAtFirst_29 (by decide) ?_
    exact ro_iret hx hb hr hlocks (by unfold maZ; rw [c20_1]; rfl) dX3_mostAtFirst_30
  refine lv_iload_n hx hb dX3_mostAtFirst_23 rfl (lv_at hl 2 rfl) ?_
  refine lv_iconst (v := nI 2) hx hb dX3_mostAtFirst_24 (by decide) ?_
  refine rt_2 (a := zI ((k : Nat) : Int)) (b := zI 2) (zI_n _).symm rfl ?_
  refine z_isub hx hb dX3_mostAtFirst_25 ?_
  refine lv_goto (tgt := 30) hx hb dX3_mostAtFirst_26 (by decide) ?_
  exact ro_iret hx hb hr hlocks (by unfold maZ; rw [c20_1]; rfl) dX3_mostAtFirst_30

set_option maxHeartbeats 4000000 in
set_option maxRecDepth 100000 in
theorem c_between (l : Launch) (D : va_G) (cI cJ cZ : ClassId) (k : Int32) (m0 : Nat) : Met l yX4_between wsX4_between (k2_rm 1 29) (RPc D [.int k, .int (nI m0)] [] (tyA cI cJ cZ)) (k2_QcV (.int (btI k m0))) 0 0 (fun _ => False) := by
  refine ro_head (cc := cX4_between) (maxL := 2) (ret := (some .int)) (by decide) rfl (Nat.le_of_ble_eq_true rfl) ?_
  intro p e s m below meth cd ls hx hb hr hlocks hts hown hml hP hK hN hl
  have hl : lv_has ls 2 [(0, .int k), (1, .int (nI m0))] := hl
  refine lv_iconst (v := nI 3) hx hb dX4_between_0 (by decide) ?_
  refine lv_iload_n hx hb dX4_between_1 rfl (lv_at hl 1 rfl) ?_
  refine lv_iload_n hx hb dX4_between_2 rfl (lv_at hl 0 rfl) ?_
  refine va_mmin hx hb (by rw [hml]; exact hl.1.symm) hown (hts (.methodLink RX4 165 Lib.Math.min.name) (by decide +kernel)) (hts (.static Lib.Math.min.name) (by decide +kernel)) (hts (.initialized "java/lang/Math") (by decide +kernel)) (hts (.code Lib.Math.min.name Lib.Math.min.code 2 (some .int)) (by decide +kernel)) (Nat.le_of_ble_eq_true rfl) (Nat.le_of_ble_eq_true rfl) (Nat.zero_le _) (Nat.zero_le _) dX4_between_3 ?_
  refine va_mmax hx hb (by rw [hml]; exact hl.1.symm) hown (hts (.methodLink RX4 170 Lib.Math.max.name) (by decide +kernel)) (hts (.static Lib.Math.max.name) (by decide +kernel)) (hts (.initialized "java/lang/Math") (by decide +kernel)) (hts (.code Lib.Math.max.name Lib.Math.max.code 2 (some .int)) (by decide +kernel)) (Nat.le_of_ble_eq_true rfl) (Nat.le_of_ble_eq_true rfl) (Nat.zero_le _) (Nat.zero_le _) dX4_between_6 ?_
  exact ro_iret hx hb hr hlocks rfl dX4_between_9

set_option maxHeartbeats 4000000 in
set_option maxRecDepth 100000 in
theorem c_inDrops (l : Launch) (D : va_G) (cI cJ cZ : ClassId) (w h x sn hs hi g st cs fo se : Nat) (S : Nat → Int64) (ht hy : Nat → Nat) (n : Nat) (k : Int32) (hd : Dm w h) (hht : ∀ j, ht j ≤ h) (hn : n ≤ w * h) : Met l yX4_inDrops wsX4_inDrops (k2_rm 1 29) (RPc D [.ref x, .int k] (xW cI cJ w h x sn hs hi g st cs fo se S ht hy n) (tyA cI cJ cZ)) (k2_QcV (.int (idI (w * h - n) k))) 0 0 (fun _ => False) := by
  refine ro_head (cc := cX4_inDrops) (maxL := 3) (ret := (some .int)) (by decide) rfl (Nat.le_of_ble_eq_true rfl) ?_
  intro p e s m below meth cd ls hx hb hr hlocks hts hown hml hP hK hN hl
  have hl : lv_has ls 3 [(0, .ref x), (1, .int k)] := hl
  have hd0 := hd
  obtain ⟨h3w, hw9, h3h, hh7, hwh, h64⟩ := hd0
  refine lv_iload_n hx hb dX4_inDrops_0 rfl (lv_at hl 1 rfl) ?_
  refine lv_if_ne (tgt := 6) hx hb dX4_inDrops_1 (by decide) (fun c1_1 => ?_) (fun c1_1 => ?_)
  · skip
    refine lv_aload_n hx hb dX4_inDrops_6 rfl (lv_at hl 0 rfl) ?_
    refine ro_call (W.runV (As := []) (rest := []) ⟨hx, hb, hml, hown, hts⟩ (c_empty l D cI cJ cZ w h x sn hs hi g st cs fo se S ht hy n hd hht hn) (cwV 0 hts gX4_inDrops_X4_empty rfl rfl rfl (by decide +kernel) ⟨Nat.le_of_ble_eq_true rfl, Nat.le_of_ble_eq_true rfl⟩) ⟨RPc.blind, va_recv hK hP (ci := 4) (q0 := 0) rfl rfl, (RPc.at (hP.sub [0, 1, 2, 3, 4, 5, 6] rfl) hK hN)⟩ rfl rfl hl.1 rfl (lv_room (Nat.le_of_ble_eq_true rfl)) dX4_inDrops_7 ⟨Nat.zero_le _, Nat.zero_le _⟩) ?_
    refine lv_iconst (v := nI 1) hx hb dX4_inDrops_10 (by decide) ?_
    refine n_iadd hx hb dX4_inDrops_11 ?_
    refine lv_iload_n hx hb dX4_inDrops_12 rfl (lv_at hl 1 rfl) ?_
    refine va_mabs hx hb (by rw [hml]; exact hl.1.symm) hown (hts (.methodLink RX4 176 Lib.Math.abs.name) (by decide +kernel)) (hts (.static Lib.Math.abs.name) (by decide +kernel)) (hts (.initialized "java/lang/Math") (by decide +kernel)) (hts (.code Lib.Math.abs.name Lib.Math.abs.code 1 (some .int)) (by decide +kernel)) (Nat.le_of_ble_eq_true rfl) (Nat.le_of_ble_eq_true rfl) (Nat.zero_le _) (Nat.zero_le _) dX4_inDrops_13 ?_
    refine lv_isub hx hb dX4_inDrops_16 ?_
    refine lv_istore_n (lv' := [(2, .int ((nI ((w * h - n) + 1)) - (if 0 ≤ k then k else 0 - k))), (0, .ref x), (1, .int k)]) hx hb dX4_inDrops_17 rfl hl (by decide) rfl (fun ls hl => ?_)
    refine lv_iload_n hx hb dX4_inDrops_18 rfl (lv_at hl 2 rfl) ?_
    refine lv_if_le (tgt := 26) hx hb dX4_inDrops_19 (by decide) (fun c19_2 => ?_) (fun c19_2 => ?_)
    · skip
      refine lv_iload_n hx hb dX4_inDrops_26 rfl (lv_at hl 0 rfl) ?_
      refine lv_ineg hx hb dX4_inDrops_27 ?_
      exact ro_iret hx hb hr hlocks (by simp [idI, nI_0, c1_1, c19_2]) dX4_inDrops_28
    refine lv_iload_n hx hb dX4_inDrops_22 rfl (lv_at hl 0 rfl) ?_
    refine lv_goto (tgt := 28) hx hb dX4_inDrops_23 (by decide) ?_
    exact ro_iret hx hb hr hlocks (by simp [idI, nI_0, c1_1, c19_2]) dX4_inDrops_28
  refine lv_iconst (v := nI 0) hx hb dX4_inDrops_4 (by decide) ?_
  exact ro_iret hx hb hr hlocks (by simp [idI, nI_0, c1_1]) dX4_inDrops_5
