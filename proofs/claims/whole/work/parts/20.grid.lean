set_option maxHeartbeats 4000000 in
set_option maxRecDepth 100000 in
theorem c_completing (l : Launch) (D : va_G) (cI cJ cZ : ClassId) (x : Int64) (d : Nat) : Met l yX1_completing wsX1_completing (k2_rm 0 0) (RPc D [.long x, .int (nI d)] [] (tyA cI cJ cZ)) (k2_QcV (.long (cpL x d))) 0 0 (fun _ => False) := by
  refine ro_head (cc := cX1_completing) (maxL := 11) (ret := (some .long)) (by decide) rfl (Nat.le_of_ble_eq_true rfl) ?_
  intro p e s m below meth cd ls hx hb hr hlocks hts hown hml hP hK hN hl
  have hl : lv_has ls 11 [(0, .long x), (2, .int (nI d))] := hl
  refine lv_lload_n hx hb dX1_completing_0 rfl (lv_at hl 0 rfl) ?_
  refine lv_iload_n hx hb dX1_completing_1 rfl (lv_at hl 1 rfl) ?_
  refine n_lshl hx hb dX1_completing_2 ?_
  refine lv_lstore_n (lv' := [(3, .long (shlL x d)), (0, .long x), (2, .int (nI d))]) hx hb dX1_completing_3 rfl hl (by decide) rfl (fun ls hl => ?_)
  refine lv_lload_n hx hb dX1_completing_4 rfl (lv_at hl 0 rfl) ?_
  refine lv_lload_n hx hb dX1_completing_5 rfl (lv_at hl 1 rfl) ?_
  refine lv_iconst (v := nI 2) hx hb dX1_completing_6 (by decide) ?_
  refine lv_iload_n hx hb dX1_completing_7 rfl (lv_at hl 2 rfl) ?_
  refine n_imul hx hb dX1_completing_8 ?_
  refine n_lshl hx hb dX1_completing_9 ?_
  refine lv_land hx hb dX1_completing_10 ?_
  refine lv_lstore (lv' := [(5, .long ((shlL x d) &&& (shlL x (2 * d)))), (3, .long (shlL x d)), (0, .long x), (2, .int (nI d))]) hx hb dX1_completing_11 hl (by decide) rfl (fun ls hl => ?_)
  refine lv_lload_n hx hb dX1_completing_13 rfl (lv_at hl 2 rfl) ?_
  refine lv_iload_n hx hb dX1_completing_14 rfl (lv_at hl 3 rfl) ?_
  refine n_lushr hx hb dX1_completing_15 ?_
  refine lv_lstore (lv' := [(7, .long (shrL x d)), (5, .long ((shlL x d) &&& (shlL x (2 * d)))), (3, .long (shlL x d)), (0, .long x), (2, .int (nI d))]) hx hb dX1_completing_16 hl (by decide) rfl (fun ls hl => ?_)
  refine lv_lload hx hb dX1_completing_18 (lv_at hl 0 rfl) ?_
  refine lv_lload_n hx hb dX1_completing_20 rfl (lv_at hl 3 rfl) ?_
  refine lv_iconst (v := nI 2) hx hb dX1_completing_21 (by decide) ?_
  refine lv_iload_n hx hb dX1_completing_22 rfl (lv_at hl 4 rfl) ?_
  refine n_imul hx hb dX1_completing_23 ?_
  refine n_lushr hx hb dX1_completing_24 ?_
  refine lv_land hx hb dX1_completing_25 ?_
  refine lv_lstore (lv' := [(9, .long ((shrL x d) &&& (shrL x (2 * d)))), (7, .long (shrL x d)), (5, .long ((shlL x d) &&& (shlL x (2 * d)))), (3, .long (shlL x d)), (0, .long x), (2, .int (nI d))]) hx hb dX1_completing_26 hl (by decide) rfl (fun ls hl => ?_)
  refine lv_lload hx hb dX1_completing_28 (lv_at hl 2 rfl) ?_
  refine lv_lload_n hx hb dX1_completing_30 rfl (lv_at hl 4 rfl) ?_
  refine lv_iconst (v := nI 3) hx hb dX1_completing_31 (by decide) ?_
  refine lv_iload_n hx hb dX1_completing_32 rfl (lv_at hl 5 rfl) ?_
  refine n_imul hx hb dX1_completing_33 ?_
  refine n_lshl hx hb dX1_completing_34 ?_
  refine lv_land hx hb dX1_completing_35 ?_
  refine lv_lload hx hb dX1_completing_36 (lv_at hl 2 rfl) ?_
  refine lv_lload hx hb dX1_completing_38 (lv_at hl 1 rfl) ?_
  refine lv_land hx hb dX1_completing_40 ?_
  refine lv_lor hx hb dX1_completing_41 ?_
  refine lv_lload_n hx hb dX1_completing_42 rfl (lv_at hl 3 rfl) ?_
  refine lv_lload hx hb dX1_completing_43 (lv_at hl 0 rfl) ?_
  refine lv_land hx hb dX1_completing_45 ?_
  refine lv_lor hx hb dX1_completing_46 ?_
  refine lv_lload hx hb dX1_completing_47 (lv_at hl 0 rfl) ?_
  refine lv_lload_n hx hb dX1_completing_49 rfl (lv_at hl 4 rfl) ?_
  refine lv_iconst (v := nI 3) hx hb dX1_completing_50 (by decide) ?_
  refine lv_iload_n hx hb dX1_completing_51 rfl (lv_at hl 5 rfl) ?_
  refine n_imul hx hb dX1_completing_52 ?_
  refine n_lushr hx hb dX1_completing_53 ?_
  refine lv_land hx hb dX1_completing_54 ?_
  refine lv_lor hx hb dX1_completing_55 ?_
  exact ro_lret hx hb hr hlocks rfl dX1_completing_56

set_option maxHeartbeats 4000000 in
set_option maxRecDepth 100000 in
theorem c_lineStarts (l : Launch) (D : va_G) (cI cJ cZ : ClassId) (w h g st cs : Nat) (x : Int64) (d : Nat) : Met l yX1_lineStarts wsX1_lineStarts (k2_rm 0 0) (RPc D [.ref g, .long x, .int (nI d)] (gW cI cJ w h g st cs) (tyA cI cJ cZ)) (k2_QcV (.long (lsL x d))) 0 0 (fun _ => False) := by
  refine ro_head (cc := cX1_lineStarts) (maxL := 6) (ret := (some .long)) (by decide) rfl (Nat.le_of_ble_eq_true rfl) ?_
  intro p e s m below meth cd ls hx hb hr hlocks hts hown hml hP hK hN hl
  have hl : lv_has ls 6 [(0, .ref g), (1, .long x), (3, .int (nI d))] := hl
  refine lv_lload_n hx hb dX1_lineStarts_0 rfl (lv_at hl 1 rfl) ?_
  refine lv_lload_n hx hb dX1_lineStarts_1 rfl (lv_at hl 1 rfl) ?_
  refine lv_iload_n hx hb dX1_lineStarts_2 rfl (lv_at hl 2 rfl) ?_
  refine n_lushr hx hb dX1_lineStarts_3 ?_
  refine lv_land hx hb dX1_lineStarts_4 ?_
  refine lv_lstore (lv' := [(4, .long (x &&& (shrL x d))), (0, .ref g), (1, .long x), (3, .int (nI d))]) hx hb dX1_lineStarts_5 hl (by decide) rfl (fun ls hl => ?_)
  refine lv_lload hx hb dX1_lineStarts_7 (lv_at hl 0 rfl) ?_
  refine lv_lload hx hb dX1_lineStarts_9 (lv_at hl 0 rfl) ?_
  refine lv_iconst (v := nI 2) hx hb dX1_lineStarts_11 (by decide) ?_
  refine lv_iload_n hx hb dX1_lineStarts_12 rfl (lv_at hl 3 rfl) ?_
  refine n_imul hx hb dX1_lineStarts_13 ?_
  refine n_lushr hx hb dX1_lineStarts_14 ?_
  refine lv_land hx hb dX1_lineStarts_15 ?_
  exact ro_lret hx hb hr hlocks rfl dX1_lineStarts_16

set_option maxHeartbeats 4000000 in
set_option maxRecDepth 100000 in
theorem c_square (l : Launch) (D : va_G) (cI cJ cZ : ClassId) (w h g st cs : Nat) (c r : Nat) : Met l yX1_square wsX1_square (k2_rm 0 0) (RPc D [.ref g, .int (nI c), .int (nI r)] (gW cI cJ w h g st cs) (tyA cI cJ cZ)) (k2_QcV (.long (sqL h c r))) 0 0 (fun _ => False) := by
  refine ro_head (cc := cX1_square) (maxL := 3) (ret := (some .long)) (by decide) rfl (Nat.le_of_ble_eq_true rfl) ?_
  intro p e s m below meth cd ls hx hb hr hlocks hts hown hml hP hK hN hl
  have hl : lv_has ls 3 [(0, .ref g), (1, .int (nI c)), (2, .int (nI r))] := hl
  refine lv_lconst (v := 1) hx hb dX1_square_0 (by decide) ?_
  refine lv_iload_n hx hb dX1_square_1 rfl (lv_at hl 1 rfl) ?_
  refine lv_aload_n hx hb dX1_square_2 rfl (lv_at hl 0 rfl) ?_
  refine va_get (C := RX1) (T := TX1) (N := 6) hx hb hts (by decide +kernel) hown hK hP 0 rfl rfl 1 (by decide) (hts (.fieldLink RX1 13 RX1 "rows" "I") (by decide +kernel)) (fun _ h9 => h9) rfl dX1_square_3 ?_
  refine lv_iconst (v := nI 1) hx hb dX1_square_6 (by decide) ?_
  refine n_iadd hx hb dX1_square_7 ?_
  refine n_imul hx hb dX1_square_8 ?_
  refine lv_iload_n hx hb dX1_square_9 rfl (lv_at hl 2 rfl) ?_
  refine n_iadd hx hb dX1_square_10 ?_
  refine n_lshl hx hb dX1_square_11 ?_
  exact ro_lret hx hb hr hlocks rfl dX1_square_12

set_option maxHeartbeats 4000000 in
set_option maxRecDepth 100000 in
theorem c_nextSquares (l : Launch) (D : va_G) (cI cJ cZ : ClassId) (w h g st cs : Nat) (x : Int64) : Met l yX1_nextSquares wsX1_nextSquares (k2_rm 0 0) (RPc D [.ref g, .long x] (gW cI cJ w h g st cs) (tyA cI cJ cZ)) (k2_QcV (.long (nxL w h x))) 0 0 (fun _ => False) := by
  refine ro_head (cc := cX1_nextSquares) (maxL := 3) (ret := (some .long)) (by decide) rfl (Nat.le_of_ble_eq_true rfl) ?_
  intro p e s m below meth cd ls hx hb hr hlocks hts hown hml hP hK hN hl
  have hl : lv_has ls 3 [(0, .ref g), (1, .long x)] := hl
  refine lv_lload_n hx hb dX1_nextSquares_0 rfl (lv_at hl 1 rfl) ?_
  refine lv_aload_n hx hb dX1_nextSquares_1 rfl (lv_at hl 0 rfl) ?_
  refine va_get (C := RX1) (T := TX1) (N := 6) hx hb hts (by decide +kernel) hown hK hP 0 rfl rfl 3 (by decide) (hts (.fieldLink RX1 24 RX1 "floor" "J") (by decide +kernel)) (fun _ h9 => h9) rfl dX1_nextSquares_2 ?_
  refine lv_ladd hx hb dX1_nextSquares_5 ?_
  refine lv_aload_n hx hb dX1_nextSquares_6 rfl (lv_at hl 0 rfl) ?_
  refine va_get (C := RX1) (T := TX1) (N := 6) hx hb hts (by decide +kernel) hown hK hP 0 rfl rfl 2 (by decide) (hts (.fieldLink RX1 28 RX1 "squares" "J") (by decide +kernel)) (fun _ h9 => h9) rfl dX1_nextSquares_7 ?_
  refine lv_land hx hb dX1_nextSquares_10 ?_
  exact ro_lret hx hb hr hlocks rfl dX1_nextSquares_11

set_option maxHeartbeats 4000000 in
set_option maxRecDepth 100000 in
theorem c_hasLine (l : Launch) (D : va_G) (cI cJ cZ : ClassId) (w h g st cs : Nat) (x : Int64) : Met l yX1_hasLine wsX1_hasLine (k2_rm 1 25) (RPc D [.ref g, .long x] (gW cI cJ w h g st cs) (tyA cI cJ cZ)) (k2_QcV (.int (bI (hlL h x)))) 0 0 (fun _ => False) := by
  refine ro_head (cc := cX1_hasLine) (maxL := 7) (ret := (some .boolean)) (by decide) rfl (Nat.le_of_ble_eq_true rfl) ?_
  intro p e s m below meth cd ls hx hb hr hlocks hts hown hml hP hK hN hl
  have hl : lv_has ls 7 [(0, .ref g), (1, .long x)] := hl
  refine lv_aload_n hx hb dX1_hasLine_0 rfl (lv_at hl 0 rfl) ?_
  refine va_get (C := RX1) (T := TX1) (N := 6) hx hb hts (by decide +kernel) hown hK hP 0 rfl rfl 4 (by decide) (hts (.fieldLink RX1 16 RX1 "steps" "[I") (by decide +kernel)) (fun _ h9 => h9) rfl dX1_hasLine_1 ?_
  refine lv_astore_n (lv' := [(3, .ref st), (0, .ref g), (1, .long x)]) hx hb dX1_hasLine_4 rfl hl (by decide) rfl (fun ls hl => ?_)
  refine lv_aload_n hx hb dX1_hasLine_5 rfl (lv_at hl 0 rfl) ?_
  refine va_alen hx hb hK hP 1 0 rfl rfl (v := nI 4) rfl dX1_hasLine_6 ?_
  refine lv_istore (lv' := [(4, .int (nI 4)), (3, .ref st), (0, .ref g), (1, .long x)]) hx hb dX1_hasLine_7 hl (by decide) rfl (fun ls hl => ?_)
  refine lv_iconst (v := nI 0) hx hb dX1_hasLine_9 (by decide) ?_
  refine lv_istore (lv' := [(5, .int (nI 0)), (4, .int (nI 4)), (3, .ref st), (0, .ref g), (1, .long x)]) hx hb dX1_hasLine_10 hl (by decide) rfl (fun ls hl => ?_)
  refine lv_iload hx hb dX1_hasLine_12 (lv_at hl 0 rfl) ?_
  refine lv_iload hx hb dX1_hasLine_14 (lv_at hl 1 rfl) ?_
  refine n_icmp_ge (tgt := 45) hx hb dX1_hasLine_16 (by decide) (by decide) (by decide) (fun c16_1 => absurd c16_1 (by decide)) (fun _ => ?_)
  refine lv_aload_n hx hb dX1_hasLine_19 rfl (lv_at hl 2 rfl) ?_
  refine lv_iload hx hb dX1_hasLine_20 (lv_at hl 0 rfl) ?_
  refine n_iald hx hb hK hP 1 0 rfl rfl (by omega) (by omega) dX1_hasLine_22 ?_
  refine lv_istore (lv' := [(6, .int (nI (stp h 0))), (5, .int (nI 0)), (4, .int (nI 4)), (3, .ref st), (0, .ref g), (1, .long x)]) hx hb dX1_hasLine_23 hl (by decide) rfl (fun ls hl => ?_)
  refine lv_aload_n hx hb dX1_hasLine_25 rfl (lv_at hl 4 rfl) ?_
  refine lv_lload_n hx hb dX1_hasLine_26 rfl (lv_at hl 5 rfl) ?_
  refine lv_iload hx hb dX1_hasLine_27 (lv_at hl 0 rfl) ?_
  refine ro_call (W.runV (As := [.long x, .int (nI (stp h 0))]) (rest := []) ⟨hx, hb, hml, hown, hts⟩ (c_lineStarts l D cI cJ cZ w h g st cs x (stp h 0)) (cwV 2 hts gX1_hasLine_X1_lineStarts rfl rfl rfl (by decide +kernel) ⟨Nat.le_of_ble_eq_true rfl, Nat.le_of_ble_eq_true rfl⟩) ⟨RPc.blind, va_recv hK hP (ci := 1) (q0 := 0) rfl rfl, (RPc.at (hP.sub [0, 1, 2] rfl) hK hN)⟩ rfl rfl hl.1 rfl (lv_room (Nat.le_of_ble_eq_true rfl)) dX1_hasLine_29 ⟨Nat.zero_le _, Nat.zero_le _⟩) ?_
  refine lv_lconst (v := 0) hx hb dX1_hasLine_32 (by decide) ?_
  refine W.lcmp hx hb dX1_hasLine_33 ?_
  refine l_if_eq (tgt := 39) hx hb dX1_hasLine_34 (by decide) (fun c34_2 => ?_) (fun c34_2 => ?_)
  · skip
    refine n_iinc (n := 1) (lv' := [(5, .int (nI 1)), (6, .int (nI (stp h 0))), (4, .int (nI 4)), (3, .ref st), (0, .ref g), (1, .long x)]) hx hb dX1_hasLine_39 hl (k := 1) rfl (by decide) rfl (fun ls hl => ?_)
    refine lv_goto (tgt := 12) hx hb dX1_hasLine_42 (by decide) ?_
    refine lv_iload hx hb dX1_hasLine_12 (lv_at hl 0 rfl) ?_
    refine lv_iload hx hb dX1_hasLine_14 (lv_at hl 2 rfl) ?_
    refine n_icmp_ge (tgt := 45) hx hb dX1_hasLine_16 (by decide) (by decide) (by decide) (fun c16_3 => absurd c16_3 (by decide)) (fun _ => ?_)
    refine lv_aload_n hx hb dX1_hasLine_19 rfl (lv_at hl 3 rfl) ?_
    refine lv_iload hx hb dX1_hasLine_20 (lv_at hl 0 rfl) ?_
    refine n_iald hx hb hK hP 1 0 rfl rfl (by omega) (by omega) dX1_hasLine_22 ?_
    refine lv_istore (lv' := [(6, .int (nI (stp h 1))), (5, .int (nI 1)), (4, .int (nI 4)), (3, .ref st), (0, .ref g), (1, .long x)]) hx hb dX1_hasLine_23 hl (by decide) rfl (fun ls hl => ?_)
    refine lv_aload_n hx hb dX1_hasLine_25 rfl (lv_at hl 4 rfl) ?_
    refine lv_lload_n hx hb dX1_hasLine_26 rfl (lv_at hl 5 rfl) ?_
    refine lv_iload hx hb dX1_hasLine_27 (lv_at hl 0 rfl) ?_
    refine ro_call (W.runV (As := [.long x, .int (nI (stp h 1))]) (rest := []) ⟨hx, hb, hml, hown, hts⟩ (c_lineStarts l D cI cJ cZ w h g st cs x (stp h 1)) (cwV 2 hts gX1_hasLine_X1_lineStarts rfl rfl rfl (by decide +kernel) ⟨Nat.le_of_ble_eq_true rfl, Nat.le_of_ble_eq_true rfl⟩) ⟨RPc.blind, va_recv hK hP (ci := 1) (q0 := 0) rfl rfl, (RPc.at (hP.sub [0, 1, 2] rfl) hK hN)⟩ rfl rfl hl.1 rfl (lv_room (Nat.le_of_ble_eq_true rfl)) dX1_hasLine_29 ⟨Nat.zero_le _, Nat.zero_le _⟩) ?_
    refine lv_lconst (v := 0) hx hb dX1_hasLine_32 (by decide) ?_
    refine W.lcmp hx hb dX1_hasLine_33 ?_
    refine l_if_eq (tgt := 39) hx hb dX1_hasLine_34 (by decide) (fun c34_4 => ?_) (fun c34_4 => ?_)
    · skip
      refine n_iinc (n := 1) (lv' := [(5, .int (nI 2)), (6, .int (nI (stp h 1))), (4, .int (nI 4)), (3, .ref st), (0, .ref g), (1, .long x)]) hx hb dX1_hasLine_39 hl (k := 1) rfl (by decide) rfl (fun ls hl => ?_)
      refine lv_goto (tgt := 12) hx hb dX1_hasLine_42 (by decide) ?_
      refine lv_iload hx hb dX1_hasLine_12 (lv_at hl 0 rfl) ?_
      refine lv_iload hx hb dX1_hasLine_14 (lv_at hl 2 rfl) ?_
      refine n_icmp_ge (tgt := 45) hx hb dX1_hasLine_16 (by decide) (by decide) (by decide) (fun c16_5 => absurd c16_5 (by decide)) (fun _ => ?_)
      refine lv_aload_n hx hb dX1_hasLine_19 rfl (lv_at hl 3 rfl) ?_
      refine lv_iload hx hb dX1_hasLine_20 (lv_at hl 0 rfl) ?_
      refine n_iald hx hb hK hP 1 0 rfl rfl (by omega) (by omega) dX1_hasLine_22 ?_
      refine lv_istore (lv' := [(6, .int (nI (stp h 2))), (5, .int (nI 2)), (4, .int (nI 4)), (3, .ref st), (0, .ref g), (1, .long x)]) hx hb dX1_hasLine_23 hl (by decide) rfl (fun ls hl => ?_)
      refine lv_aload_n hx hb dX1_hasLine_25 rfl (lv_at hl 4 rfl) ?_
      refine lv_lload_n hx hb dX1_hasLine_26 rfl (lv_at hl 5 rfl) ?_
      refine lv_iload hx hb dX1_hasLine_27 (lv_at hl 0 rfl) ?_
      refine ro_call (W.runV (As := [.long x, .int (nI (stp h 2))]) (rest := []) ⟨hx, hb, hml, hown, hts⟩ (c_lineStarts l D cI cJ cZ w h g st cs x (stp h 2)) (cwV 2 hts gX1_hasLine_X1_lineStarts rfl rfl rfl (by decide +kernel) ⟨Nat.le_of_ble_eq_true rfl, Nat.le_of_ble_eq_true rfl⟩) ⟨RPc.blind, va_recv hK hP (ci := 1) (q0 := 0) rfl rfl, (RPc.at (hP.sub [0, 1, 2] rfl) hK hN)⟩ rfl rfl hl.1 rfl (lv_room (Nat.le_of_ble_eq_true rfl)) dX1_hasLine_29 ⟨Nat.zero_le _, Nat.zero_le _⟩) ?_
      refine lv_lconst (v := 0) hx hb dX1_hasLine_32 (by decide) ?_
      refine W.lcmp hx hb dX1_hasLine_33 ?_
      refine l_if_eq (tgt := 39) hx hb dX1_hasLine_34 (by decide) (fun c34_6 => ?_) (fun c34_6 => ?_)
      · skip
        refine n_iinc (n := 1) (lv' := [(5, .int (nI 3)), (6, .int (nI (stp h 2))), (4, .int (nI 4)), (3, .ref st), (0, .ref g), (1, .long x)]) hx hb dX1_hasLine_39 hl (k := 1) rfl (by decide) rfl (fun ls hl => ?_)
        refine lv_goto (tgt := 12) hx hb dX1_hasLine_42 (by decide) ?_
        refine lv_iload hx hb dX1_hasLine_12 (lv_at hl 0 rfl) ?_
        refine lv_iload hx hb dX1_hasLine_14 (lv_at hl 2 rfl) ?_
        refine n_icmp_ge (tgt := 45) hx hb dX1_hasLine_16 (by decide) (by decide) (by decide) (fun c16_7 => absurd c16_7 (by decide)) (fun _ => ?_)
        refine lv_aload_n hx hb dX1_hasLine_19 rfl (lv_at hl 3 rfl) ?_
        refine lv_iload hx hb dX1_hasLine_20 (lv_at hl 0 rfl) ?_
        refine n_iald hx hb hK hP 1 0 rfl rfl (by omega) (by omega) dX1_hasLine_22 ?_
        refine lv_istore (lv' := [(6, .int (nI (stp h 3))), (5, .int (nI 3)), (4, .int (nI 4)), (3, .ref st), (0, .ref g), (1, .long x)]) hx hb dX1_hasLine_23 hl (by decide) rfl (fun ls hl => ?_)
        refine lv_aload_n hx hb dX1_hasLine_25 rfl (lv_at hl 4 rfl) ?_
        refine lv_lload_n hx hb dX1_hasLine_26 rfl (lv_at hl 5 rfl) ?_
        refine lv_iload hx hb dX1_hasLine_27 (lv_at hl 0 rfl) ?_
        refine ro_call (W.runV (As := [.long x, .int (nI (stp h 3))]) (rest := []) ⟨hx, hb, hml, hown, hts⟩ (c_lineStarts l D cI cJ cZ w h g st cs x (stp h 3)) (cwV 2 hts gX1_hasLine_X1_lineStarts rfl rfl rfl (by decide +kernel) ⟨Nat.le_of_ble_eq_true rfl, Nat.le_of_ble_eq_true rfl⟩) ⟨RPc.blind, va_recv hK hP (ci := 1) (q0 := 0) rfl rfl, (RPc.at (hP.sub [0, 1, 2] rfl) hK hN)⟩ rfl rfl hl.1 rfl (lv_room (Nat.le_of_ble_eq_true rfl)) dX1_hasLine_29 ⟨Nat.zero_le _, Nat.zero_le _⟩) ?_
        refine lv_lconst (v := 0) hx hb dX1_hasLine_32 (by decide) ?_
        refine W.lcmp hx hb dX1_hasLine_33 ?_
        refine l_if_eq (tgt := 39) hx hb dX1_hasLine_34 (by decide) (fun c34_8 => ?_) (fun c34_8 => ?_)
        · skip
          refine n_iinc (n := 1) (lv' := [(5, .int (nI 4)), (6, .int (nI (stp h 3))), (4, .int (nI 4)), (3, .ref st), (0, .ref g), (1, .long x)]) hx hb dX1_hasLine_39 hl (k := 1) rfl (by decide) rfl (fun ls hl => ?_)
          refine lv_goto (tgt := 12) hx hb dX1_hasLine_42 (by decide) ?_
          refine lv_iload hx hb dX1_hasLine_12 (lv_at hl 0 rfl) ?_
          refine lv_iload hx hb dX1_hasLine_14 (lv_at hl 2 rfl) ?_
          refine n_icmp_ge (tgt := 45) hx hb dX1_hasLine_16 (by decide) (by decide) (by decide) (fun _ => ?_) (fun c16_9 => absurd c16_9 (by decide))
          refine lv_iconst (v := nI 0) hx hb dX1_hasLine_45 (by decide) ?_
          exact ro_zret hx hb hr hlocks (by first | rfl | exact bI_nar _) (by rw [show hlL h x = false by simp [hlL, c34_2, c34_4, c34_6, c34_8]]; rfl) dX1_hasLine_46
        refine lv_iconst (v := nI 1) hx hb dX1_hasLine_37 (by decide) ?_
        exact ro_zret hx hb hr hlocks (by first | rfl | exact bI_nar _) (by rw [show hlL h x = true by simp [hlL, c34_2, c34_4, c34_6, c34_8]]; rfl) dX1_hasLine_38
      refine lv_iconst (v := nI 1) hx hb dX1_hasLine_37 (by decide) ?_
      exact ro_zret hx hb hr hlocks (by first | rfl | exact bI_nar _) (by rw [show hlL h x = true by simp [hlL, c34_2, c34_4, c34_6]]; rfl) dX1_hasLine_38
    refine lv_iconst (v := nI 1) hx hb dX1_hasLine_37 (by decide) ?_
    exact ro_zret hx hb hr hlocks (by first | rfl | exact bI_nar _) (by rw [show hlL h x = true by simp [hlL, c34_2, c34_4]]; rfl) dX1_hasLine_38
  refine lv_iconst (v := nI 1) hx hb dX1_hasLine_37 (by decide) ?_
  exact ro_zret hx hb hr hlocks (by first | rfl | exact bI_nar _) (by rw [show hlL h x = true by simp [hlL, c34_2]]; rfl) dX1_hasLine_38

set_option maxHeartbeats 4000000 in
set_option maxRecDepth 100000 in
theorem c_threatSquares (l : Launch) (D : va_G) (cI cJ cZ : ClassId) (w h g st cs : Nat) (x t : Int64) : Met l yX1_threatSquares wsX1_threatSquares (k2_rm 1 30) (RPc D [.ref g, .long x, .long t] (gW cI cJ w h g st cs) (tyA cI cJ cZ)) (k2_QcV (.long (thL w h x t))) 0 0 (fun _ => False) := by
  refine ro_head (cc := cX1_threatSquares) (maxL := 11) (ret := (some .long)) (by decide) rfl (Nat.le_of_ble_eq_true rfl) ?_
  intro p e s m below meth cd ls hx hb hr hlocks hts hown hml hP hK hN hl
  have hl : lv_has ls 11 [(0, .ref g), (1, .long x), (3, .long t)] := hl
  refine lv_lconst (v := 0) hx hb dX1_threatSquares_0 (by decide) ?_
  refine lv_lstore (lv' := [(5, .long 0), (0, .ref g), (1, .long x), (3, .long t)]) hx hb dX1_threatSquares_1 hl (by decide) rfl (fun ls hl => ?_)
  refine lv_aload_n hx hb dX1_threatSquares_3 rfl (lv_at hl 1 rfl) ?_
  refine va_get (C := RX1) (T := TX1) (N := 6) hx hb hts (by decide +kernel) hown hK hP 0 rfl rfl 4 (by decide) (hts (.fieldLink RX1 16 RX1 "steps" "[I") (by decide +kernel)) (fun _ h9 => h9) rfl dX1_threatSquares_4 ?_
  refine lv_astore (lv' := [(7, .ref st), (5, .long 0), (0, .ref g), (1, .long x), (3, .long t)]) hx hb dX1_threatSquares_7 hl (by decide) rfl (fun ls hl => ?_)
  refine lv_aload hx hb dX1_threatSquares_9 (lv_at hl 0 rfl) ?_
  refine va_alen hx hb hK hP 1 0 rfl rfl (v := nI 4) rfl dX1_threatSquares_11 ?_
  refine lv_istore (lv' := [(8, .int (nI 4)), (7, .ref st), (5, .long 0), (0, .ref g), (1, .long x), (3, .long t)]) hx hb dX1_threatSquares_12 hl (by decide) rfl (fun ls hl => ?_)
  refine lv_iconst (v := nI 0) hx hb dX1_threatSquares_14 (by decide) ?_
  refine lv_istore (lv' := [(9, .int (nI 0)), (8, .int (nI 4)), (7, .ref st), (5, .long 0), (0, .ref g), (1, .long x), (3, .long t)]) hx hb dX1_threatSquares_15 hl (by decide) rfl (fun ls hl => ?_)
  refine lv_iload hx hb dX1_threatSquares_17 (lv_at hl 0 rfl) ?_
  refine lv_iload hx hb dX1_threatSquares_19 (lv_at hl 1 rfl) ?_
  refine n_icmp_ge (tgt := 48) hx hb dX1_threatSquares_21 (by decide) (by decide) (by decide) (fun c21_1 => absurd c21_1 (by decide)) (fun _ => ?_)
  refine lv_aload hx hb dX1_threatSquares_24 (lv_at hl 2 rfl) ?_
  refine lv_iload hx hb dX1_threatSquares_26 (lv_at hl 0 rfl) ?_
  refine n_iald hx hb hK hP 1 0 rfl rfl (by omega) (by omega) dX1_threatSquares_28 ?_
  refine lv_istore (lv' := [(10, .int (nI (stp h 0))), (9, .int (nI 0)), (8, .int (nI 4)), (7, .ref st), (5, .long 0), (0, .ref g), (1, .long x), (3, .long t)]) hx hb dX1_threatSquares_29 hl (by decide) rfl (fun ls hl => ?_)
  refine lv_lload hx hb dX1_threatSquares_31 (lv_at hl 4 rfl) ?_
  refine lv_lload_n hx hb dX1_threatSquares_33 rfl (lv_at hl 6 rfl) ?_
  refine lv_iload hx hb dX1_threatSquares_34 (lv_at hl 0 rfl) ?_
  refine ro_call (W.runS (As := [.long x, .int (nI (stp h 0))]) (rest := [.long 0]) ⟨hx, hb, hml, hown, hts⟩ (c_completing l D cI cJ cZ x (stp h 0)) (va_cwS 2 hts gX1_threatSquares_X1_completing rfl rfl rfl (by decide +kernel) ⟨Nat.le_of_ble_eq_true rfl, Nat.le_of_ble_eq_true rfl⟩) ⟨RPc.blind, (RPc.at (hP.sub [] rfl) hK hN)⟩ rfl rfl hl.1 rfl (lv_room (Nat.le_of_ble_eq_true rfl)) dX1_threatSquares_36 ⟨Nat.zero_le _, Nat.zero_le _⟩) ?_
  refine lv_lor hx hb dX1_threatSquares_39 ?_
  refine lv_lstore (lv' := [(5, .long (0 ||| (cpL x (stp h 0)))), (10, .int (nI (stp h 0))), (9, .int (nI 0)), (8, .int (nI 4)), (7, .ref st), (0, .ref g), (1, .long x), (3, .long t)]) hx hb dX1_threatSquares_40 hl (by decide) rfl (fun ls hl => ?_)
  refine n_iinc (n := 1) (lv' := [(9, .int (nI 1)), (5, .long (0 ||| (cpL x (stp h 0)))), (10, .int (nI (stp h 0))), (8, .int (nI 4)), (7, .ref st), (0, .ref g), (1, .long x), (3, .long t)]) hx hb dX1_threatSquares_42 hl (k := 2) rfl (by decide) rfl (fun ls hl => ?_)
  refine lv_goto (tgt := 17) hx hb dX1_threatSquares_45 (by decide) ?_
  refine lv_iload hx hb dX1_threatSquares_17 (lv_at hl 0 rfl) ?_
  refine lv_iload hx hb dX1_threatSquares_19 (lv_at hl 3 rfl) ?_
  refine n_icmp_ge (tgt := 48) hx hb dX1_threatSquares_21 (by decide) (by decide) (by decide) (fun c21_2 => absurd c21_2 (by decide)) (fun _ => ?_)
  refine lv_aload hx hb dX1_threatSquares_24 (lv_at hl 4 rfl) ?_
  refine lv_iload hx hb dX1_threatSquares_26 (lv_at hl 0 rfl) ?_
  refine n_iald hx hb hK hP 1 0 rfl rfl (by omega) (by omega) dX1_threatSquares_28 ?_
  refine lv_istore (lv' := [(10, .int (nI (stp h 1))), (9, .int (nI 1)), (5, .long (0 ||| (cpL x (stp h 0)))), (8, .int (nI 4)), (7, .ref st), (0, .ref g), (1, .long x), (3, .long t)]) hx hb dX1_threatSquares_29 hl (by decide) rfl (fun ls hl => ?_)
  refine lv_lload hx hb dX1_threatSquares_31 (lv_at hl 2 rfl) ?_
  refine lv_lload_n hx hb dX1_threatSquares_33 rfl (lv_at hl 6 rfl) ?_
  refine lv_iload hx hb dX1_threatSquares_34 (lv_at hl 0 rfl) ?_
  refine ro_call (W.runS (As := [.long x, .int (nI (stp h 1))]) (rest := [.long (0 ||| (cpL x (stp h 0)))]) ⟨hx, hb, hml, hown, hts⟩ (c_completing l D cI cJ cZ x (stp h 1)) (va_cwS 2 hts gX1_threatSquares_X1_completing rfl rfl rfl (by decide +kernel) ⟨Nat.le_of_ble_eq_true rfl, Nat.le_of_ble_eq_true rfl⟩) ⟨RPc.blind, (RPc.at (hP.sub [] rfl) hK hN)⟩ rfl rfl hl.1 rfl (lv_room (Nat.le_of_ble_eq_true rfl)) dX1_threatSquares_36 ⟨Nat.zero_le _, Nat.zero_le _⟩) ?_
  refine lv_lor hx hb dX1_threatSquares_39 ?_
  refine lv_lstore (lv' := [(5, .long ((0 ||| (cpL x (stp h 0))) ||| (cpL x (stp h 1)))), (10, .int (nI (stp h 1))), (9, .int (nI 1)), (8, .int (nI 4)), (7, .ref st), (0, .ref g), (1, .long x), (3, .long t)]) hx hb dX1_threatSquares_40 hl (by decide) rfl (fun ls hl => ?_)
  refine n_iinc (n := 1) (lv' := [(9, .int (nI 2)), (5, .long ((0 ||| (cpL x (stp h 0))) ||| (cpL x (stp h 1)))), (10, .int (nI (stp h 1))), (8, .int (nI 4)), (7, .ref st), (0, .ref g), (1, .long x), (3, .long t)]) hx hb dX1_threatSquares_42 hl (k := 2) rfl (by decide) rfl (fun ls hl => ?_)
  refine lv_goto (tgt := 17) hx hb dX1_threatSquares_45 (by decide) ?_
  refine lv_iload hx hb dX1_threatSquares_17 (lv_at hl 0 rfl) ?_
  refine lv_iload hx hb dX1_threatSquares_19 (lv_at hl 3 rfl) ?_
  refine n_icmp_ge (tgt := 48) hx hb dX1_threatSquares_21 (by decide) (by decide) (by decide) (fun c21_3 => absurd c21_3 (by decide)) (fun _ => ?_)
  refine lv_aload hx hb dX1_threatSquares_24 (lv_at hl 4 rfl) ?_
  refine lv_iload hx hb dX1_threatSquares_26 (lv_at hl 0 rfl) ?_
  refine n_iald hx hb hK hP 1 0 rfl rfl (by omega) (by omega) dX1_threatSquares_28 ?_
  refine lv_istore (lv' := [(10, .int (nI (stp h 2))), (9, .int (nI 2)), (5, .long ((0 ||| (cpL x (stp h 0))) ||| (cpL x (stp h 1)))), (8, .int (nI 4)), (7, .ref st), (0, .ref g), (1, .long x), (3, .long t)]) hx hb dX1_threatSquares_29 hl (by decide) rfl (fun ls hl => ?_)
  refine lv_lload hx hb dX1_threatSquares_31 (lv_at hl 2 rfl) ?_
  refine lv_lload_n hx hb dX1_threatSquares_33 rfl (lv_at hl 6 rfl) ?_
  refine lv_iload hx hb dX1_threatSquares_34 (lv_at hl 0 rfl) ?_
  refine ro_call (W.runS (As := [.long x, .int (nI (stp h 2))]) (rest := [.long ((0 ||| (cpL x (stp h 0))) ||| (cpL x (stp h 1)))]) ⟨hx, hb, hml, hown, hts⟩ (c_completing l D cI cJ cZ x (stp h 2)) (va_cwS 2 hts gX1_threatSquares_X1_completing rfl rfl rfl (by decide +kernel) ⟨Nat.le_of_ble_eq_true rfl, Nat.le_of_ble_eq_true rfl⟩) ⟨RPc.blind, (RPc.at (hP.sub [] rfl) hK hN)⟩ rfl rfl hl.1 rfl (lv_room (Nat.le_of_ble_eq_true rfl)) dX1_threatSquares_36 ⟨Nat.zero_le _, Nat.zero_le _⟩) ?_
  refine lv_lor hx hb dX1_threatSquares_39 ?_
  refine lv_lstore (lv' := [(5, .long (((0 ||| (cpL x (stp h 0))) ||| (cpL x (stp h 1))) ||| (cpL x (stp h 2)))), (10, .int (nI (stp h 2))), (9, .int (nI 2)), (8, .int (nI 4)), (7, .ref st), (0, .ref g), (1, .long x), (3, .long t)]) hx hb dX1_threatSquares_40 hl (by decide) rfl (fun ls hl => ?_)
  refine n_iinc (n := 1) (lv' := [(9, .int (nI 3)), (5, .long (((0 ||| (cpL x (stp h 0))) ||| (cpL x (stp h 1))) ||| (cpL x (stp h 2)))), (10, .int (nI (stp h 2))), (8, .int (nI 4)), (7, .ref st), (0, .ref g), (1, .long x), (3, .long t)]) hx hb dX1_threatSquares_42 hl (k := 2) rfl (by decide) rfl (fun ls hl => ?_)
  refine lv_goto (tgt := 17) hx hb dX1_threatSquares_45 (by decide) ?_
  refine lv_iload hx hb dX1_threatSquares_17 (lv_at hl 0 rfl) ?_
  refine lv_iload hx hb dX1_threatSquares_19 (lv_at hl 3 rfl) ?_
  refine n_icmp_ge (tgt := 48) hx hb dX1_threatSquares_21 (by decide) (by decide) (by decide) (fun c21_4 => absurd c21_4 (by decide)) (fun _ => ?_)
  refine lv_aload hx hb dX1_threatSquares_24 (lv_at hl 4 rfl) ?_
  refine lv_iload hx hb dX1_threatSquares_26 (lv_at hl 0 rfl) ?_
  refine n_iald hx hb hK hP 1 0 rfl rfl (by omega) (by omega) dX1_threatSquares_28 ?_
  refine lv_istore (lv' := [(10, .int (nI (stp h 3))), (9, .int (nI 3)), (5, .long (((0 ||| (cpL x (stp h 0))) ||| (cpL x (stp h 1))) ||| (cpL x (stp h 2)))), (8, .int (nI 4)), (7, .ref st), (0, .ref g), (1, .long x), (3, .long t)]) hx hb dX1_threatSquares_29 hl (by decide) rfl (fun ls hl => ?_)
  refine lv_lload hx hb dX1_threatSquares_31 (lv_at hl 2 rfl) ?_
  refine lv_lload_n hx hb dX1_threatSquares_33 rfl (lv_at hl 6 rfl) ?_
  refine lv_iload hx hb dX1_threatSquares_34 (lv_at hl 0 rfl) ?_
  refine ro_call (W.runS (As := [.long x, .int (nI (stp h 3))]) (rest := [.long (((0 ||| (cpL x (stp h 0))) ||| (cpL x (stp h 1))) ||| (cpL x (stp h 2)))]) ⟨hx, hb, hml, hown, hts⟩ (c_completing l D cI cJ cZ x (stp h 3)) (va_cwS 2 hts gX1_threatSquares_X1_completing rfl rfl rfl (by decide +kernel) ⟨Nat.le_of_ble_eq_true rfl, Nat.le_of_ble_eq_true rfl⟩) ⟨RPc.blind, (RPc.at (hP.sub [] rfl) hK hN)⟩ rfl rfl hl.1 rfl (lv_room (Nat.le_of_ble_eq_true rfl)) dX1_threatSquares_36 ⟨Nat.zero_le _, Nat.zero_le _⟩) ?_
  refine lv_lor hx hb dX1_threatSquares_39 ?_
  refine lv_lstore (lv' := [(5, .long ((((0 ||| (cpL x (stp h 0))) ||| (cpL x (stp h 1))) ||| (cpL x (stp h 2))) ||| (cpL x (stp h 3)))), (10, .int (nI (stp h 3))), (9, .int (nI 3)), (8, .int (nI 4)), (7, .ref st), (0, .ref g), (1, .long x), (3, .long t)]) hx hb dX1_threatSquares_40 hl (by decide) rfl (fun ls hl => ?_)
  refine n_iinc (n := 1) (lv' := [(9, .int (nI 4)), (5, .long ((((0 ||| (cpL x (stp h 0))) ||| (cpL x (stp h 1))) ||| (cpL x (stp h 2))) ||| (cpL x (stp h 3)))), (10, .int (nI (stp h 3))), (8, .int (nI 4)), (7, .ref st), (0, .ref g), (1, .long x), (3, .long t)]) hx hb dX1_threatSquares_42 hl (k := 2) rfl (by decide) rfl (fun ls hl => ?_)
  refine lv_goto (tgt := 17) hx hb dX1_threatSquares_45 (by decide) ?_
  refine lv_iload hx hb dX1_threatSquares_17 (lv_at hl 0 rfl) ?_
  refine lv_iload hx hb dX1_threatSquares_19 (lv_at hl 3 rfl) ?_
  refine n_icmp_ge (tgt := 48) hx hb dX1_threatSquares_21 (by decide) (by decide) (by decide) (fun _ => ?_) (fun c21_5 => absurd c21_5 (by decide))
  refine lv_lload hx hb dX1_threatSquares_48 (lv_at hl 1 rfl) ?_
  refine lv_aload_n hx hb dX1_threatSquares_50 rfl (lv_at hl 5 rfl) ?_
  refine va_get (C := RX1) (T := TX1) (N := 6) hx hb hts (by decide +kernel) hown hK hP 0 rfl rfl 2 (by decide) (hts (.fieldLink RX1 28 RX1 "squares" "J") (by decide +kernel)) (fun _ h9 => h9) rfl dX1_threatSquares_51 ?_
  refine lv_land hx hb dX1_threatSquares_54 ?_
  refine lv_lload_n hx hb dX1_threatSquares_55 rfl (lv_at hl 7 rfl) ?_
  refine lv_ldc2 (v := (-1)) hx hb hown (hts (.constantLong RX1 44 (-1)) (by decide +kernel)) dX1_threatSquares_56 ?_
  refine lv_lxor hx hb dX1_threatSquares_59 ?_
  refine lv_land hx hb dX1_threatSquares_60 ?_
  exact ro_lret hx hb hr hlocks rfl dX1_threatSquares_61
