set_option maxHeartbeats 4000000 in
set_option maxRecDepth 100000 in
theorem c_isSquare (l : Launch) (D : va_G) (cI cJ cZ : ClassId) (ad : Nat → Nat) (w h th n kn po : Nat) (c r : Int32) : Met l yX5_isSquare wsX5_isSquare (k2_rm 0 0) (RPc D [.ref (ad 0), .int c, .int r] [mO ad w h th n kn po] (tyA cI cJ cZ)) (k2_QcV (.int (bI (isq w h c r)))) 0 0 (fun _ => False) := by
  refine ro_head (cc := cX5_isSquare) (maxL := 3) (ret := (some .boolean)) (by decide) rfl (Nat.le_of_ble_eq_true rfl) ?_
  intro p e s m below meth cd ls hx hb hr hlocks hts hown hml hP hK hN hl
  have hl : lv_has ls 3 [(0, .ref (ad 0)), (1, .int c), (2, .int r)] := hl
  refine lv_iload_n hx hb dX5_isSquare_0 rfl (lv_at hl 1 rfl) ?_
  refine lv_if_lt (tgt := 28) hx hb dX5_isSquare_1 (by decide) (fun c1_1 => ?_) (fun c1_1 => ?_)
  · skip
    refine lv_iconst (v := nI 0) hx hb dX5_isSquare_28 (by decide) ?_
    exact ro_zret hx hb hr hlocks (by first | rfl | exact bI_nar _) (by rw [show isq w h c r = false by simp [isq, c1_1]]; rfl) dX5_isSquare_29
  refine lv_iload_n hx hb dX5_isSquare_4 rfl (lv_at hl 1 rfl) ?_
  refine lv_aload_n hx hb dX5_isSquare_5 rfl (lv_at hl 0 rfl) ?_
  refine va_get (C := RX5) (T := TX5) (N := 19) hx hb hts (by decide +kernel) hown hK hP 0 rfl rfl 1 (by decide) (hts (.fieldLink RX5 52 RX5 "w" "I") (by decide +kernel)) (fun _ h9 => h9) rfl dX5_isSquare_6 ?_
  refine lv_icmp_ge (tgt := 28) hx hb dX5_isSquare_9 (by decide) (fun c9_2 => ?_) (fun c9_2 => ?_)
  · skip
    refine lv_iconst (v := nI 0) hx hb dX5_isSquare_28 (by decide) ?_
    exact ro_zret hx hb hr hlocks (by first | rfl | exact bI_nar _) (by rw [show isq w h c r = false by simp [isq, c1_1, c9_2]]; rfl) dX5_isSquare_29
  refine lv_iload_n hx hb dX5_isSquare_12 rfl (lv_at hl 2 rfl) ?_
  refine lv_if_lt (tgt := 28) hx hb dX5_isSquare_13 (by decide) (fun c13_3 => ?_) (fun c13_3 => ?_)
  · skip
    refine lv_iconst (v := nI 0) hx hb dX5_isSquare_28 (by decide) ?_
    exact ro_zret hx hb hr hlocks (by first | rfl | exact bI_nar _) (by rw [show isq w h c r = false by simp [isq, c1_1, c9_2, c13_3]]; rfl) dX5_isSquare_29
  refine lv_iload_n hx hb dX5_isSquare_16 rfl (lv_at hl 2 rfl) ?_
  refine lv_aload_n hx hb dX5_isSquare_17 rfl (lv_at hl 0 rfl) ?_
  refine va_get (C := RX5) (T := TX5) (N := 19) hx hb hts (by decide +kernel) hown hK hP 0 rfl rfl 2 (by decide) (hts (.fieldLink RX5 56 RX5 "h" "I") (by decide +kernel)) (fun _ h9 => h9) rfl dX5_isSquare_18 ?_
  refine lv_icmp_ge (tgt := 28) hx hb dX5_isSquare_21 (by decide) (fun c21_4 => ?_) (fun c21_4 => ?_)
  · skip
    refine lv_iconst (v := nI 0) hx hb dX5_isSquare_28 (by decide) ?_
    exact ro_zret hx hb hr hlocks (by first | rfl | exact bI_nar _) (by rw [show isq w h c r = false by simp [isq, c1_1, c9_2, c13_3, c21_4]]; rfl) dX5_isSquare_29
  refine lv_iconst (v := nI 1) hx hb dX5_isSquare_24 (by decide) ?_
  refine lv_goto (tgt := 29) hx hb dX5_isSquare_25 (by decide) ?_
  exact ro_zret hx hb hr hlocks (by first | rfl | exact bI_nar _) (by rw [show isq w h c r = true by simp [isq, c1_1, c9_2, c13_3, c21_4]]; rfl) dX5_isSquare_29

set_option maxHeartbeats 4000000 in
set_option maxRecDepth 100000 in
theorem c_columnOf (l : Launch) (D : va_G) (cI cJ cZ : ClassId) (c i : Int) (way : Nat) (hw4 : way < 4) : Met l yX5_columnOf wsX5_columnOf (k2_rm 0 0) (RPc D [.int (zI c), .int (nI way), .int (zI i)] [] (tyA cI cJ cZ)) (k2_QcV (.int (zI (lcZ way i c)))) 0 0 (fun _ => False) := by
  refine ro_head (cc := cX5_columnOf) (maxL := 3) (ret := (some .int)) (by decide) rfl (Nat.le_of_ble_eq_true rfl) ?_
  intro p e s m below meth cd ls hx hb hr hlocks hts hown hml hP hK hN hl
  have hl : lv_has ls 3 [(0, .int (zI c)), (1, .int (nI way)), (2, .int (zI i))] := hl
  refine lv_iload_n hx hb dX5_columnOf_0 rfl (lv_at hl 1 rfl) ?_
  refine n_if_ne (tgt := 8) hx hb dX5_columnOf_1 (by decide) (by omega) (fun c1_1 => ?_) (fun c1_1 => ?_)
  · skip
    refine lv_iload_n hx hb dX5_columnOf_8 rfl (lv_at hl 0 rfl) ?_
    refine lv_iload_n hx hb dX5_columnOf_9 rfl (lv_at hl 2 rfl) ?_
    refine z_iadd hx hb dX5_columnOf_10 ?_
    exact ro_iret hx hb hr hlocks (by simp [lcZ, c1_1]) dX5_columnOf_11
  refine lv_iload_n hx hb dX5_columnOf_4 rfl (lv_at hl 0 rfl) ?_
  refine lv_goto (tgt := 11) hx hb dX5_columnOf_5 (by decide) ?_
  exact ro_iret hx hb hr hlocks (by simp [lcZ, c1_1]) dX5_columnOf_11

set_option maxHeartbeats 4000000 in
set_option maxRecDepth 100000 in
theorem c_rowOf (l : Launch) (D : va_G) (cI cJ cZ : ClassId) (r i : Int) (way : Nat) (hw4 : way < 4) : Met l yX5_rowOf wsX5_rowOf (k2_rm 0 0) (RPc D [.int (zI r), .int (nI way), .int (zI i)] [] (tyA cI cJ cZ)) (k2_QcV (.int (zI (lrZ way i r)))) 0 0 (fun _ => False) := by
  refine ro_head (cc := cX5_rowOf) (maxL := 3) (ret := (some .int)) (by decide) rfl (Nat.le_of_ble_eq_true rfl) ?_
  intro p e s m below meth cd ls hx hb hr hlocks hts hown hml hP hK hN hl
  have hl : lv_has ls 3 [(0, .int (zI r)), (1, .int (nI way)), (2, .int (zI i))] := hl
  refine lv_iload_n hx hb dX5_rowOf_0 rfl (lv_at hl 1 rfl) ?_
  refine lv_iconst (v := nI 1) hx hb dX5_rowOf_1 (by decide) ?_
  refine n_icmp_ne (tgt := 9) hx hb dX5_rowOf_2 (by decide) (by omega) (by omega) (fun c2_1 => ?_) (fun c2_1 => ?_)
  · skip
    refine lv_iload_n hx hb dX5_rowOf_9 rfl (lv_at hl 1 rfl) ?_
    refine lv_iconst (v := nI 3) hx hb dX5_rowOf_10 (by decide) ?_
    refine n_icmp_ne (tgt := 20) hx hb dX5_rowOf_11 (by decide) (by omega) (by omega) (fun c11_2 => ?_) (fun c11_2 => ?_)
    · skip
      refine lv_iload_n hx hb dX5_rowOf_20 rfl (lv_at hl 0 rfl) ?_
      refine lv_iload_n hx hb dX5_rowOf_21 rfl (lv_at hl 2 rfl) ?_
      refine z_iadd hx hb dX5_rowOf_22 ?_
      exact ro_iret hx hb hr hlocks (by simp [lrZ, c2_1, c11_2]) dX5_rowOf_23
    refine lv_iload_n hx hb dX5_rowOf_14 rfl (lv_at hl 0 rfl) ?_
    refine lv_iload_n hx hb dX5_rowOf_15 rfl (lv_at hl 2 rfl) ?_
    refine z_isub hx hb dX5_rowOf_16 ?_
    refine lv_goto (tgt := 23) hx hb dX5_rowOf_17 (by decide) ?_
    exact ro_iret hx hb hr hlocks (by simp [lrZ, c2_1, c11_2]) dX5_rowOf_23
  refine lv_iload_n hx hb dX5_rowOf_5 rfl (lv_at hl 0 rfl) ?_
  refine lv_goto (tgt := 23) hx hb dX5_rowOf_6 (by decide) ?_
  exact ro_iret hx hb hr hlocks (by simp [lrZ, c2_1]) dX5_rowOf_23

set_option maxHeartbeats 4000000 in
set_option maxRecDepth 100000 in
theorem c_isLine (l : Launch) (D : va_G) (cI cJ cZ : ClassId) (ad : Nat → Nat) (w h th n kn po : Nat) (c r : Int) (way : Nat) (hw4 : way < 4) : Met l yX5_isLine wsX5_isLine (k2_rm 1 22) (RPc D [.ref (ad 0), .int (zI c), .int (zI r), .int (nI way)] [mO ad w h th n kn po] (tyA cI cJ cZ)) (k2_QcV (.int (bI (isq w h (zI (lcZ way 3 c)) (zI (lrZ way 3 r)))))) 0 0 (fun _ => False) := by
  refine ro_head (cc := cX5_isLine) (maxL := 4) (ret := (some .boolean)) (by decide) rfl (Nat.le_of_ble_eq_true rfl) ?_
  intro p e s m below meth cd ls hx hb hr hlocks hts hown hml hP hK hN hl
  have hl : lv_has ls 4 [(0, .ref (ad 0)), (1, .int (zI c)), (2, .int (zI r)), (3, .int (nI way))] := hl
  refine lv_aload_n hx hb dX5_isLine_0 rfl (lv_at hl 0 rfl) ?_
  refine lv_iload_n hx hb dX5_isLine_1 rfl (lv_at hl 1 rfl) ?_
  refine lv_iload_n hx hb dX5_isLine_2 rfl (lv_at hl 3 rfl) ?_
  refine lv_iconst (v := zI (3)) hx hb dX5_isLine_3 (by decide) ?_
  refine ro_call (W.runS (As := [.int (zI c), .int (nI way), .int (zI 3)]) (rest := [.ref (ad 0)]) ⟨hx, hb, hml, hown, hts⟩ (c_columnOf l D cI cJ cZ c 3 way (by omega)) (va_cwS 3 hts gX5_isLine_X5_columnOf rfl rfl rfl (by decide +kernel) ⟨Nat.le_of_ble_eq_true rfl, Nat.le_of_ble_eq_true rfl⟩) ⟨RPc.blind, (RPc.at (hP.sub [] rfl) hK hN)⟩ rfl rfl hl.1 rfl (lv_room (Nat.le_of_ble_eq_true rfl)) dX5_isLine_4 ⟨Nat.zero_le _, Nat.zero_le _⟩) ?_
  refine lv_iload_n hx hb dX5_isLine_7 rfl (lv_at hl 2 rfl) ?_
  refine lv_iload_n hx hb dX5_isLine_8 rfl (lv_at hl 3 rfl) ?_
  refine lv_iconst (v := zI (3)) hx hb dX5_isLine_9 (by decide) ?_
  refine ro_call (W.runS (As := [.int (zI r), .int (nI way), .int (zI 3)]) (rest := [.int (zI (lcZ way 3 c)), .ref (ad 0)]) ⟨hx, hb, hml, hown, hts⟩ (c_rowOf l D cI cJ cZ r 3 way (by omega)) (va_cwS 3 hts gX5_isLine_X5_rowOf rfl rfl rfl (by decide +kernel) ⟨Nat.le_of_ble_eq_true rfl, Nat.le_of_ble_eq_true rfl⟩) ⟨RPc.blind, (RPc.at (hP.sub [] rfl) hK hN)⟩ rfl rfl hl.1 rfl (lv_room (Nat.le_of_ble_eq_true rfl)) dX5_isLine_10 ⟨Nat.zero_le _, Nat.zero_le _⟩) ?_
  refine ro_call (W.runV (As := [.int (zI (lcZ way 3 c)), .int (zI (lrZ way 3 r))]) (rest := []) ⟨hx, hb, hml, hown, hts⟩ (c_isSquare l D cI cJ cZ ad w h th n kn po (zI (lcZ way 3 c)) (zI (lrZ way 3 r))) (cwV 2 hts gX5_isLine_X5_isSquare rfl rfl rfl (by decide +kernel) ⟨Nat.le_of_ble_eq_true rfl, Nat.le_of_ble_eq_true rfl⟩) ⟨RPc.blind, va_recv hK hP (ci := 5) (q0 := 0) rfl rfl, (RPc.at (hP.sub [0] rfl) hK hN)⟩ rfl rfl hl.1 rfl (lv_room (Nat.le_of_ble_eq_true rfl)) dX5_isLine_13 ⟨Nat.zero_le _, Nat.zero_le _⟩) ?_
  exact ro_zret hx hb hr hlocks (by first | rfl | exact bI_nar _) rfl dX5_isLine_16

set_option maxHeartbeats 4000000 in
set_option maxRecDepth 100000 in
theorem c_many (l : Launch) (D : va_G) (cI cJ cZ : ClassId) (ad : Nat → Nat) (w h th n kn po : Nat) (B : Nat → Int32) (ht dr wh sb : Nat → Nat) (V : Nat → Int32) (la sl we of_ : Nat → Nat) (Sn : Nat → Int32) (tp re : Nat → Nat) (c r : Int) (way pl : Nat) (hw4 : way < 4) (hs4 : sq4 c r way) : Met l yX5_many wsX5_many (k2_rm 1 22) (RPc D [.ref (ad 0), .int (zI c), .int (zI r), .int (nI way), .int (nI pl)] (mW5 cI cZ ad w h th n kn po B ht dr wh sb V la sl we of_ Sn tp re) (tyA cI cJ cZ)) (k2_QcV (.int (nI (mnN B c r way pl 4)))) 0 0 (fun _ => False) := by
  refine ro_head (cc := cX5_many) (maxL := 7) (ret := (some .int)) (by decide) rfl (Nat.le_of_ble_eq_true rfl) ?_
  intro p e s m below meth cd ls hx hb hr hlocks hts hown hml hP hK hN hl
  have hl : lv_has ls 7 [(0, .ref (ad 0)), (1, .int (zI c)), (2, .int (zI r)), (3, .int (nI way)), (4, .int (nI pl))] := hl
  refine lv_iconst (v := nI 0) hx hb dX5_many_0 (by decide) ?_
  refine lv_istore (lv' := [(5, .int (nI 0)), (0, .ref (ad 0)), (1, .int (zI c)), (2, .int (zI r)), (3, .int (nI way)), (4, .int (nI pl))]) hx hb dX5_many_1 hl (by decide) rfl (fun ls hl => ?_)
  refine lv_iconst (v := nI 0) hx hb dX5_many_3 (by decide) ?_
  refine lv_istore (lv' := [(6, .int (nI 0)), (5, .int (nI 0)), (0, .ref (ad 0)), (1, .int (zI c)), (2, .int (zI r)), (3, .int (nI way)), (4, .int (nI pl))]) hx hb dX5_many_4 hl (by decide) rfl (fun ls hl => ?_)
  refine loopW (σ := Nat) (m := m) 6 7 (fun i qx => [(0, .ref (ad 0)), (1, .int (zI c)), (2, .int (zI r)), (3, .int (nI way)), (4, .int (nI pl)), (6, .int (nI i)), (5, .int (nI qx))]) (fun i qx => qx = mnN B c r way pl i) 4 ?_ ?_ 0 0 ls (by omega) rfl (lv_sub hl [2, 3, 4, 5, 6, 0, 1] rfl)
  · intro i qx ls hi_6 hI_6 hl ih_6
    obtain ⟨k, rfl⟩ : ∃ z, z = qx := ⟨_, rfl⟩
    have hl : lv_has ls 7 [(0, .ref (ad 0)), (1, .int (zI c)), (2, .int (zI r)), (3, .int (nI way)), (4, .int (nI pl)), (6, .int (nI i)), (5, .int (nI k))] := hl
    have hI_6 : k = mnN B c r way pl i := hI_6
    have hs_6 := hs4 i hi_6
    refine lv_iload hx hb dX5_many_6 (lv_at hl 5 rfl) ?_
    refine lv_iconst (v := nI 4) hx hb dX5_many_8 (by decide) ?_
    refine n_icmp_ge (tgt := 57) hx hb dX5_many_9 (by decide) (by omega) (by omega) (fun c9_1 => ?_) (fun c9_1 => ?_)
    · exact absurd c9_1 (by omega)
    refine lv_aload_n hx hb dX5_many_12 rfl (lv_at hl 0 rfl) ?_
    refine va_get (C := RX5) (T := TX5) (N := 19) hx hb hts (by decide +kernel) hown hK hP 0 rfl rfl 3 (by decide) (hts (.fieldLink RX5 7 RX5 "board" "[I") (by decide +kernel)) (fun _ h9 => h9) rfl dX5_many_13 ?_
    refine lv_bipush (v := nI 7) hx hb dX5_many_16 (by decide) ?_
    refine lv_iload_n hx hb dX5_many_18 rfl (lv_at hl 1 rfl) ?_
    refine lv_iload_n hx hb dX5_many_19 rfl (lv_at hl 3 rfl) ?_
    refine lv_iload hx hb dX5_many_20 (lv_at hl 5 rfl) ?_
    refine rt_i (v := zI (i : Int)) (zI_n _).symm ?_
    refine ro_call (W.runS (As := [.int (zI c), .int (nI way), .int (zI (i : Int))]) (rest := [.int (nI 7), .ref (ad 1)]) ⟨hx, hb, hml, hown, hts⟩ (c_columnOf l D cI cJ cZ c (i : Int) way (by omega)) (va_cwS 3 hts gX5_many_X5_columnOf rfl rfl rfl (by decide +kernel) ⟨Nat.le_of_ble_eq_true rfl, Nat.le_of_ble_eq_true rfl⟩) ⟨RPc.blind, (RPc.at (hP.sub [] rfl) hK hN)⟩ rfl rfl hl.1 rfl (lv_room (Nat.le_of_ble_eq_true rfl)) dX5_many_22 ⟨Nat.zero_le _, Nat.zero_le _⟩) ?_
    refine rt_2 (a := zI 7) (b := zI (lcZ way (i : Int) c)) rfl rfl ?_
    refine z_imul hx hb dX5_many_25 ?_
    refine lv_iload_n hx hb dX5_many_26 rfl (lv_at hl 2 rfl) ?_
    refine lv_iload_n hx hb dX5_many_27 rfl (lv_at hl 3 rfl) ?_
    refine lv_iload hx hb dX5_many_28 (lv_at hl 5 rfl) ?_
    refine rt_i (v := zI (i : Int)) (zI_n _).symm ?_
    refine ro_call (W.runS (As := [.int (zI r), .int (nI way), .int (zI (i : Int))]) (rest := [.int (zI (7 * (lcZ way (i : Int) c))), .ref (ad 1)]) ⟨hx, hb, hml, hown, hts⟩ (c_rowOf l D cI cJ cZ r (i : Int) way (by omega)) (va_cwS 3 hts gX5_many_X5_rowOf rfl rfl rfl (by decide +kernel) ⟨Nat.le_of_ble_eq_true rfl, Nat.le_of_ble_eq_true rfl⟩) ⟨RPc.blind, (RPc.at (hP.sub [] rfl) hK hN)⟩ rfl rfl hl.1 rfl (lv_room (Nat.le_of_ble_eq_true rfl)) dX5_many_30 ⟨Nat.zero_le _, Nat.zero_le _⟩) ?_
    refine z_iadd hx hb dX5_many_33 ?_
    refine rt_i (v := nI ((7 * lcZ way (i : Int) c + lrZ way (i : Int) r).toNat)) (zI_nat (by omega)) ?_
    refine n_iald hx hb hK hP 1 0 rfl rfl (by omega) (by decide) dX5_many_34 ?_
    refine lv_iload hx hb dX5_many_35 (lv_at hl 4 rfl) ?_
    refine lv_icmp_ne (tgt := 47) hx hb dX5_many_37 (by decide) (fun c37_2 => ?_) (fun c37_2 => ?_)
    · skip
      refine lv_iload hx hb dX5_many_47 (lv_at hl 6 rfl) ?_
      refine lv_istore (lv' := [(5, .int (nI k)), (0, .ref (ad 0)), (1, .int (zI c)), (2, .int (zI r)), (3, .int (nI way)), (4, .int (nI pl)), (6, .int (nI i))]) hx hb dX5_many_49 hl (by decide) rfl (fun ls hl => ?_)
      refine n_iinc (n := 1) (lv' := [(6, .int (nI (i + 1))), (5, .int (nI k)), (0, .ref (ad 0)), (1, .int (zI c)), (2, .int (zI r)), (3, .int (nI way)), (4, .int (nI pl))]) hx hb dX5_many_51 hl (k := 6) rfl (by decide) rfl (fun ls hl => ?_)
      refine lv_goto (tgt := 6) hx hb dX5_many_54 (by decide) ?_
      exact ih_6 k ls (by rw [mnN, if_neg c37_2, hI_6]) (lv_sub hl [2, 3, 4, 5, 6, 0, 1] rfl)
    refine lv_iload hx hb dX5_many_40 (lv_at hl 6 rfl) ?_
    refine lv_iconst (v := nI 1) hx hb dX5_many_42 (by decide) ?_
    refine n_iadd hx hb dX5_many_43 ?_
    refine lv_goto (tgt := 49) hx hb dX5_many_44 (by decide) ?_
    refine lv_istore (lv' := [(5, .int (nI (k + 1))), (0, .ref (ad 0)), (1, .int (zI c)), (2, .int (zI r)), (3, .int (nI way)), (4, .int (nI pl)), (6, .int (nI i))]) hx hb dX5_many_49 hl (by decide) rfl (fun ls hl => ?_)
    refine n_iinc (n := 1) (lv' := [(6, .int (nI (i + 1))), (5, .int (nI (k + 1))), (0, .ref (ad 0)), (1, .int (zI c)), (2, .int (zI r)), (3, .int (nI way)), (4, .int (nI pl))]) hx hb dX5_many_51 hl (k := 6) rfl (by decide) rfl (fun ls hl => ?_)
    refine lv_goto (tgt := 6) hx hb dX5_many_54 (by decide) ?_
    exact ih_6 (k + 1) ls (by rw [mnN, if_pos c37_2, hI_6]) (lv_sub hl [2, 3, 4, 5, 6, 0, 1] rfl)
  · intro qx ls hI_6 hl
    obtain ⟨k, rfl⟩ : ∃ z, z = qx := ⟨_, rfl⟩
    have hl : lv_has ls 7 [(0, .ref (ad 0)), (1, .int (zI c)), (2, .int (zI r)), (3, .int (nI way)), (4, .int (nI pl)), (6, .int (nI 4)), (5, .int (nI k))] := hl
    have hI_6 : k = mnN B c r way pl 4 := hI_6
    refine lv_iload hx hb dX5_many_6 (lv_at hl 5 rfl) ?_
    refine lv_iconst (v := nI 4) hx hb dX5_many_8 (by decide) ?_
    refine n_icmp_ge (tgt := 57) hx hb dX5_many_9 (by decide) (by decide) (by decide) (fun _ => ?_) (fun c9_3 => absurd c9_3 (by decide))
    refine lv_iload hx hb dX5_many_57 (lv_at hl 6 rfl) ?_
    exact ro_iret hx hb hr hlocks (by rw [hI_6]) dX5_many_59

set_option maxHeartbeats 4000000 in
set_option maxRecDepth 100000 in
theorem c_along (l : Launch) (D : va_G) (cI cJ cZ : ClassId) (ad : Nat → Nat) (w h th n kn po : Nat) (ab : Nat) (f : Nat → Int32) (c r : Nat) (dc dr : Int) (hw9 : w ≤ 9) (hh7 : h ≤ 7) (hc : c < w) (hr0 : r < h) (hdir : dir dc dr) : Met l yX5_along wsX5_along (k2_rm 1 22) (RPc D [.ref (ad 0), .ref ab, .int (nI c), .int (nI r), .int (zI dc), .int (zI dr)] [mO ad w h th n kn po, (ab, .inl (cI, 63, .inl f))] (tyA cI cJ cZ)) (k2_QcV (.int (nI (alN w h f c r dc dr)))) 0 0 (fun _ => False) := by
  refine ro_head (cc := cX5_along) (maxL := 10) (ret := (some .int)) (by decide) rfl (Nat.le_of_ble_eq_true rfl) ?_
  intro p e s m below meth cd ls hx hb hr hlocks hts hown hml hP hK hN hl
  have hl : lv_has ls 10 [(0, .ref (ad 0)), (1, .ref ab), (2, .int (nI c)), (3, .int (nI r)), (4, .int (zI dc)), (5, .int (zI dr))] := hl
  refine lv_aload_n hx hb dX5_along_0 rfl (lv_at hl 1 rfl) ?_
  refine lv_bipush (v := nI 7) hx hb dX5_along_1 (by decide) ?_
  refine lv_iload_n hx hb dX5_along_3 rfl (lv_at hl 2 rfl) ?_
  refine n_imul hx hb dX5_along_4 ?_
  refine lv_iload_n hx hb dX5_along_5 rfl (lv_at hl 3 rfl) ?_
  refine n_iadd hx hb dX5_along_6 ?_
  refine n_iald hx hb hK hP 1 0 rfl rfl (by omega) (by decide) dX5_along_7 ?_
  refine lv_istore (lv' := [(6, .int (f ((7 * c) + r))), (0, .ref (ad 0)), (1, .ref ab), (2, .int (nI c)), (3, .int (nI r)), (4, .int (zI dc)), (5, .int (zI dr))]) hx hb dX5_along_8 hl (by decide) rfl (fun ls hl => ?_)
  refine lv_iconst (v := nI 0) hx hb dX5_along_10 (by decide) ?_
  refine lv_istore (lv' := [(7, .int (nI 0)), (6, .int (f ((7 * c) + r))), (0, .ref (ad 0)), (1, .ref ab), (2, .int (nI c)), (3, .int (nI r)), (4, .int (zI dc)), (5, .int (zI dr))]) hx hb dX5_along_11 hl (by decide) rfl (fun ls hl => ?_)
  refine lv_iload_n hx hb dX5_along_13 rfl (lv_at hl 4 rfl) ?_
  refine lv_iload hx hb dX5_along_14 (lv_at hl 6 rfl) ?_
  refine rt_2 (a := zI ((c : Nat) : Int)) (b := zI dc) (zI_n _).symm rfl ?_
  refine z_iadd hx hb dX5_along_16 ?_
  refine lv_istore (lv' := [(8, .int (zI (((c : Nat) : Int) + dc))), (7, .int (nI 0)), (6, .int (f ((7 * c) + r))), (0, .ref (ad 0)), (1, .ref ab), (2, .int (nI c)), (3, .int (nI r)), (4, .int (zI dc)), (5, .int (zI dr))]) hx hb dX5_along_17 hl (by decide) rfl (fun ls hl => ?_)
  refine lv_iload_n hx hb dX5_along_19 rfl (lv_at hl 6 rfl) ?_
  refine lv_iload hx hb dX5_along_20 (lv_at hl 8 rfl) ?_
  refine rt_2 (a := zI ((r : Nat) : Int)) (b := zI dr) (zI_n _).symm rfl ?_
  refine z_iadd hx hb dX5_along_22 ?_
  refine lv_istore (lv' := [(9, .int (zI (((r : Nat) : Int) + dr))), (8, .int (zI (((c : Nat) : Int) + dc))), (7, .int (nI 0)), (6, .int (f ((7 * c) + r))), (0, .ref (ad 0)), (1, .ref ab), (2, .int (nI c)), (3, .int (nI r)), (4, .int (zI dc)), (5, .int (zI dr))]) hx hb dX5_along_23 hl (by decide) rfl (fun ls hl => ?_)
  have ex0 : ((c : Nat) : Int) + dc = (c : Int) + dc * ((0 + 1 : Nat) : Int) := by simp
  have ey0 : ((r : Nat) : Int) + dr = (r : Int) + dr * ((0 + 1 : Nat) : Int) := by simp
  rw [ex0, ey0] at hl
  refine loopM (σ := Nat) (m := m) 25 10 (fun k => [(0, .ref (ad 0)), (1, .ref ab), (2, .int (nI c)), (3, .int (nI r)), (4, .int (zI dc)), (5, .int (zI dr)), (6, .int (f ((7 * c) + r))), (7, .int (nI k)), (8, .int (zI ((c : Int) + dc * ((k + 1 : Nat) : Int)))), (9, .int (zI ((r : Int) + dr * ((k + 1 : Nat) : Int))))]) (fun k => (∀ j, 1 ≤ j → j ≤ k → gdB w h f c r dc dr j = true) ∧ k ≤ 9) (fun k => 10 - k) ?_ 0 ls ⟨fun j h1 h2 => absurd h2 (by omega), by omega⟩ (lv_sub hl [4, 5, 6, 7, 8, 9, 3, 2, 1, 0] rfl)
  intro k ls hI hl ih
  have hl : lv_has ls 10 [(0, .ref (ad 0)), (1, .ref ab), (2, .int (nI c)), (3, .int (nI r)), (4, .int (zI dc)), (5, .int (zI dr)), (6, .int (f ((7 * c) + r))), (7, .int (nI k)), (8, .int (zI ((c : Int) + dc * ((k + 1 : Nat) : Int)))), (9, .int (zI ((r : Int) + dr * ((k + 1 : Nat) : Int))))] := hl
  refine lv_aload_n hx hb dX5_along_25 rfl (lv_at hl 0 rfl) ?_
  refine lv_iload hx hb dX5_along_26 (lv_at hl 8 rfl) ?_
  refine lv_iload hx hb dX5_along_28 (lv_at hl 9 rfl) ?_
  refine ro_call (W.runV (As := [.int (zI ((c : Int) + dc * ((k + 1 : Nat) : Int))), .int (zI ((r : Int) + dr * ((k + 1 : Nat) : Int)))]) (rest := []) ⟨hx, hb, hml, hown, hts⟩ (c_isSquare l D cI cJ cZ ad w h th n kn po (zI ((c : Int) + dc * ((k + 1 : Nat) : Int))) (zI ((r : Int) + dr * ((k + 1 : Nat) : Int)))) (cwV 2 hts gX5_along_X5_isSquare rfl rfl rfl (by decide +kernel) ⟨Nat.le_of_ble_eq_true rfl, Nat.le_of_ble_eq_true rfl⟩) ⟨RPc.blind, va_recv hK hP (ci := 5) (q0 := 0) rfl rfl, (RPc.at (hP.sub [0] rfl) hK hN)⟩ rfl rfl hl.1 rfl (lv_room (Nat.le_of_ble_eq_true rfl)) dX5_along_30 ⟨Nat.zero_le _, Nat.zero_le _⟩) ?_
  refine b_if_eq (tgt := 71) hx hb dX5_along_33 (by decide) (fun c33_1 => ?_) (fun c33_1 => ?_)
  · skip
    refine lv_iload hx hb dX5_along_71 (lv_at hl 7 rfl) ?_
    exact ro_iret hx hb hr hlocks (by rw [show alN w h f c r dc dr = k from runB_eq 10 1 k (fun j h1 h2 => hI.1 j h1 (by omega)) (by rw [Nat.add_comm]; exact (by unfold gdB; rw [c33_1]; rfl)) (by have := hI.2; omega)]) dX5_along_73
  have hg1 : isq w h (zI ((c : Int) + dc * ((k + 1 : Nat) : Int))) (zI ((r : Int) + dr * ((k + 1 : Nat) : Int))) = true := c33_1
  obtain ⟨g0, g1, g2, g3, g4⟩ := gd_lt (f := f) hw9 hh7 hdir hc hr0 (by have := hI.2; omega) hg1
  refine lv_aload_n hx hb dX5_along_36 rfl (lv_at hl 1 rfl) ?_
  refine lv_bipush (v := nI 7) hx hb dX5_along_37 (by decide) ?_
  refine lv_iload hx hb dX5_along_39 (lv_at hl 8 rfl) ?_
  refine rt_2 (a := zI 7) (b := zI ((c : Int) + dc * ((k + 1 : Nat) : Int))) rfl rfl ?_
  refine z_imul hx hb dX5_along_41 ?_
  refine lv_iload hx hb dX5_along_42 (lv_at hl 9 rfl) ?_
  refine z_iadd hx hb dX5_along_44 ?_
  refine rt_i (v := nI ((7 * ((c : Int) + dc * ((k + 1 : Nat) : Int)) + ((r : Int) + dr * ((k + 1 : Nat) : Int))).toNat)) (zI_nat (by omega)) ?_
  refine n_iald hx hb hK hP 1 0 rfl rfl (by omega) (by decide) dX5_along_45 ?_
  refine lv_iload hx hb dX5_along_46 (lv_at hl 6 rfl) ?_
  refine lv_icmp_ne (tgt := 71) hx hb dX5_along_48 (by decide) (fun c48_2 => ?_) (fun c48_2 => ?_)
  · skip
    refine lv_iload hx hb dX5_along_71 (lv_at hl 7 rfl) ?_
    exact ro_iret hx hb hr hlocks (by rw [show alN w h f c r dc dr = k from runB_eq 10 1 k (fun j h1 h2 => hI.1 j h1 (by omega)) (by rw [Nat.add_comm]; exact (by unfold gdB; rw [decide_eq_false c48_2]; simp)) (by have := hI.2; omega)]) dX5_along_73
  refine n_iinc (n := 1) (lv' := [(7, .int (nI (k + 1))), (0, .ref (ad 0)), (1, .ref ab), (2, .int (nI c)), (3, .int (nI r)), (4, .int (zI dc)), (5, .int (zI dr)), (6, .int (f ((7 * c) + r))), (8, .int (zI ((c : Int) + dc * ((k + 1 : Nat) : Int)))), (9, .int (zI ((r : Int) + dr * ((k + 1 : Nat) : Int))))]) hx hb dX5_along_51 hl (k := 7) rfl (by decide) rfl (fun ls hl => ?_)
  refine lv_iload hx hb dX5_along_54 (lv_at hl 8 rfl) ?_
  refine lv_iload hx hb dX5_along_56 (lv_at hl 5 rfl) ?_
  refine z_iadd hx hb dX5_along_58 ?_
  refine rt_i (v := zI ((c : Int) + dc * ((k + 1 + 1 : Nat) : Int))) (by rw [show ((k + 1 + 1 : Nat) : Int) = ((k + 1 : Nat) : Int) + 1 by omega, Int.mul_add, Int.mul_one, Int.add_assoc]) ?_
  refine lv_istore (lv' := [(8, .int (zI ((c : Int) + dc * ((k + 1 + 1 : Nat) : Int)))), (7, .int (nI (k + 1))), (0, .ref (ad 0)), (1, .ref ab), (2, .int (nI c)), (3, .int (nI r)), (4, .int (zI dc)), (5, .int (zI dr)), (6, .int (f ((7 * c) + r))), (9, .int (zI ((r : Int) + dr * ((k + 1 : Nat) : Int))))]) hx hb dX5_along_59 hl (by decide) rfl (fun ls hl => ?_)
  refine lv_iload hx hb dX5_along_61 (lv_at hl 9 rfl) ?_
  refine lv_iload hx hb dX5_along_63 (lv_at hl 7 rfl) ?_
  refine z_iadd hx hb dX5_along_65 ?_
  refine rt_i (v := zI ((r : Int) + dr * ((k + 1 + 1 : Nat) : Int))) (by rw [show ((k + 1 + 1 : Nat) : Int) = ((k + 1 : Nat) : Int) + 1 by omega, Int.mul_add, Int.mul_one, Int.add_assoc]) ?_
  refine lv_istore (lv' := [(9, .int (zI ((r : Int) + dr * ((k + 1 + 1 : Nat) : Int)))), (8, .int (zI ((c : Int) + dc * ((k + 1 + 1 : Nat) : Int)))), (7, .int (nI (k + 1))), (0, .ref (ad 0)), (1, .ref ab), (2, .int (nI c)), (3, .int (nI r)), (4, .int (zI dc)), (5, .int (zI dr)), (6, .int (f ((7 * c) + r)))]) hx hb dX5_along_66 hl (by decide) rfl (fun ls hl => ?_)
  refine lv_goto (tgt := 25) hx hb dX5_along_68 (by decide) ?_
  refine ih (k + 1) ls ⟨fun j h1 h2 => ?_, by omega⟩ (by show 10 - (k + 1) < 10 - k; omega) (lv_sub hl [3, 4, 5, 6, 7, 8, 9, 2, 1, 0] rfl)
  by_cases ej : j = k + 1
  · subst ej; unfold gdB; rw [hg1, decide_eq_true c48_2]; rfl
  · exact hI.1 j h1 (by omega)

set_option maxHeartbeats 4000000 in
set_option maxRecDepth 100000 in
theorem c_wins (l : Launch) (D : va_G) (cI cJ cZ : ClassId) (ad : Nat → Nat) (w h th n kn po : Nat) (ab : Nat) (f : Nat → Int32) (c r : Nat) (hw9 : w ≤ 9) (hh7 : h ≤ 7) (hc : c < w) (hr0 : r < h) : Met l yX5_wins wsX5_wins (k2_rm 2 51) (RPc D [.ref (ad 0), .ref ab, .int (nI c), .int (nI r)] [mO ad w h th n kn po, (ab, .inl (cI, 63, .inl f))] (tyA cI cJ cZ)) (k2_QcV (.int (bI (wnB w h f c r)))) 0 0 (fun _ => False) := by
  refine ro_head (cc := cX5_wins) (maxL := 4) (ret := (some .boolean)) (by decide) rfl (Nat.le_of_ble_eq_true rfl) ?_
  intro p e s m below meth cd ls hx hb hr hlocks hts hown hml hP hK hN hl
  have hl : lv_has ls 4 [(0, .ref (ad 0)), (1, .ref ab), (2, .int (nI c)), (3, .int (nI r))] := hl
  have b1 := alN_le w h f c r 0 (-1)
  have b2 := alN_le w h f c r 1 0
  have b3 := alN_le w h f c r (-1) 0
  have b4 := alN_le w h f c r 1 1
  have b5 := alN_le w h f c r (-1) (-1)
  have b6 := alN_le w h f c r 1 (-1)
  have b7 := alN_le w h f c r (-1) 1
  refine lv_aload_n hx hb dX5_wins_0 rfl (lv_at hl 0 rfl) ?_
  refine lv_aload_n hx hb dX5_wins_1 rfl (lv_at hl 1 rfl) ?_
  refine lv_iload_n hx hb dX5_wins_2 rfl (lv_at hl 2 rfl) ?_
  refine lv_iload_n hx hb dX5_wins_3 rfl (lv_at hl 3 rfl) ?_
  refine lv_iconst (v := zI (0)) hx hb dX5_wins_4 (by decide) ?_
  refine lv_iconst (v := zI (-1)) hx hb dX5_wins_5 (by decide) ?_
  refine ro_call (W.runV (As := [.ref ab, .int (nI c), .int (nI r), .int (zI 0), .int (zI (-1))]) (rest := []) ⟨hx, hb, hml, hown, hts⟩ (c_along l D cI cJ cZ ad w h th n kn po ab f c r (0) (-1) hw9 hh7 hc hr0 (by unfold dir; omega)) (cwV 5 hts gX5_wins_X5_along rfl rfl rfl (by decide +kernel) ⟨Nat.le_of_ble_eq_true rfl, Nat.le_of_ble_eq_true rfl⟩) ⟨RPc.blind, va_recv hK hP (ci := 5) (q0 := 0) rfl rfl, (RPc.at (hP.sub [0, 1] rfl) hK hN)⟩ rfl rfl hl.1 rfl (lv_room (Nat.le_of_ble_eq_true rfl)) dX5_wins_6 ⟨Nat.zero_le _, Nat.zero_le _⟩) ?_
  refine lv_iconst (v := nI 2) hx hb dX5_wins_9 (by decide) ?_
  refine n_icmp_gt (tgt := 82) hx hb dX5_wins_10 (by decide) (by omega) (by omega) (fun c10_1 => ?_) (fun c10_1 => ?_)
  · skip
    refine lv_iconst (v := nI 1) hx hb dX5_wins_82 (by decide) ?_
    refine lv_goto (tgt := 87) hx hb dX5_wins_83 (by decide) ?_
    exact ro_zret hx hb hr hlocks (by first | rfl | exact bI_nar _) (by rw [show wnB w h f c r = true by simp only [wnB, decide_eq_true_eq, Bool.or_eq_true, Bool.or_eq_false_iff, decide_eq_false_iff_not]; omega]; rfl) dX5_wins_87
  refine lv_aload_n hx hb dX5_wins_13 rfl (lv_at hl 0 rfl) ?_
  refine lv_aload_n hx hb dX5_wins_14 rfl (lv_at hl 1 rfl) ?_
  refine lv_iload_n hx hb dX5_wins_15 rfl (lv_at hl 2 rfl) ?_
  refine lv_iload_n hx hb dX5_wins_16 rfl (lv_at hl 3 rfl) ?_
  refine lv_iconst (v := zI (1)) hx hb dX5_wins_17 (by decide) ?_
  refine lv_iconst (v := zI (0)) hx hb dX5_wins_18 (by decide) ?_
  refine ro_call (W.runV (As := [.ref ab, .int (nI c), .int (nI r), .int (zI 1), .int (zI 0)]) (rest := []) ⟨hx, hb, hml, hown, hts⟩ (c_along l D cI cJ cZ ad w h th n kn po ab f c r (1) (0) hw9 hh7 hc hr0 (by unfold dir; omega)) (cwV 5 hts gX5_wins_X5_along rfl rfl rfl (by decide +kernel) ⟨Nat.le_of_ble_eq_true rfl, Nat.le_of_ble_eq_true rfl⟩) ⟨RPc.blind, va_recv hK hP (ci := 5) (q0 := 0) rfl rfl, (RPc.at (hP.sub [0, 1] rfl) hK hN)⟩ rfl rfl hl.1 rfl (lv_room (Nat.le_of_ble_eq_true rfl)) dX5_wins_19 ⟨Nat.zero_le _, Nat.zero_le _⟩) ?_
  refine lv_aload_n hx hb dX5_wins_22 rfl (lv_at hl 0 rfl) ?_
  refine lv_aload_n hx hb dX5_wins_23 rfl (lv_at hl 1 rfl) ?_
  refine lv_iload_n hx hb dX5_wins_24 rfl (lv_at hl 2 rfl) ?_
  refine lv_iload_n hx hb dX5_wins_25 rfl (lv_at hl 3 rfl) ?_
  refine lv_iconst (v := zI (-1)) hx hb dX5_wins_26 (by decide) ?_
  refine lv_iconst (v := zI (0)) hx hb dX5_wins_27 (by decide) ?_
  refine ro_call (W.runV (As := [.ref ab, .int (nI c), .int (nI r), .int (zI (-1)), .int (zI 0)]) (rest := [.int (nI (alN w h f c r (1) (0)))]) ⟨hx, hb, hml, hown, hts⟩ (c_along l D cI cJ cZ ad w h th n kn po ab f c r (-1) (0) hw9 hh7 hc hr0 (by unfold dir; omega)) (cwV 5 hts gX5_wins_X5_along rfl rfl rfl (by decide +kernel) ⟨Nat.le_of_ble_eq_true rfl, Nat.le_of_ble_eq_true rfl⟩) ⟨RPc.blind, va_recv hK hP (ci := 5) (q0 := 0) rfl rfl, (RPc.at (hP.sub [0, 1] rfl) hK hN)⟩ rfl rfl hl.1 rfl (lv_room (Nat.le_of_ble_eq_true rfl)) dX5_wins_28 ⟨Nat.zero_le _, Nat.zero_le _⟩) ?_
  refine n_iadd hx hb dX5_wins_31 ?_
  refine lv_iconst (v := nI 2) hx hb dX5_wins_32 (by decide) ?_
  refine n_icmp_gt (tgt := 82) hx hb dX5_wins_33 (by decide) (by omega) (by omega) (fun c33_2 => ?_) (fun c33_2 => ?_)
  · skip
    refine lv_iconst (v := nI 1) hx hb dX5_wins_82 (by decide) ?_
    refine lv_goto (tgt := 87) hx hb dX5_wins_83 (by decide) ?_
    exact ro_zret hx hb hr hlocks (by first | rfl | exact bI_nar _) (by rw [show wnB w h f c r = true by simp only [wnB, decide_eq_true_eq, Bool.or_eq_true, Bool.or_eq_false_iff, decide_eq_false_iff_not]; omega]; rfl) dX5_wins_87
  refine lv_aload_n hx hb dX5_wins_36 rfl (lv_at hl 0 rfl) ?_
  refine lv_aload_n hx hb dX5_wins_37 rfl (lv_at hl 1 rfl) ?_
  refine lv_iload_n hx hb dX5_wins_38 rfl (lv_at hl 2 rfl) ?_
  refine lv_iload_n hx hb dX5_wins_39 rfl (lv_at hl 3 rfl) ?_
  refine lv_iconst (v := zI (1)) hx hb dX5_wins_40 (by decide) ?_
  refine lv_iconst (v := zI (1)) hx hb dX5_wins_41 (by decide) ?_
  refine ro_call (W.runV (As := [.ref ab, .int (nI c), .int (nI r), .int (zI 1), .int (zI 1)]) (rest := []) ⟨hx, hb, hml, hown, hts⟩ (c_along l D cI cJ cZ ad w h th n kn po ab f c r (1) (1) hw9 hh7 hc hr0 (by unfold dir; omega)) (cwV 5 hts gX5_wins_X5_along rfl rfl rfl (by decide +kernel) ⟨Nat.le_of_ble_eq_true rfl, Nat.le_of_ble_eq_true rfl⟩) ⟨RPc.blind, va_recv hK hP (ci := 5) (q0 := 0) rfl rfl, (RPc.at (hP.sub [0, 1] rfl) hK hN)⟩ rfl rfl hl.1 rfl (lv_room (Nat.le_of_ble_eq_true rfl)) dX5_wins_42 ⟨Nat.zero_le _, Nat.zero_le _⟩) ?_
  refine lv_aload_n hx hb dX5_wins_45 rfl (lv_at hl 0 rfl) ?_
  refine lv_aload_n hx hb dX5_wins_46 rfl (lv_at hl 1 rfl) ?_
  refine lv_iload_n hx hb dX5_wins_47 rfl (lv_at hl 2 rfl) ?_
  refine lv_iload_n hx hb dX5_wins_48 rfl (lv_at hl 3 rfl) ?_
  refine lv_iconst (v := zI (-1)) hx hb dX5_wins_49 (by decide) ?_
  refine lv_iconst (v := zI (-1)) hx hb dX5_wins_50 (by decide) ?_
  refine ro_call (W.runV (As := [.ref ab, .int (nI c), .int (nI r), .int (zI (-1)), .int (zI (-1))]) (rest := [.int (nI (alN w h f c r (1) (1)))]) ⟨hx, hb, hml, hown, hts⟩ (c_along l D cI cJ cZ ad w h th n kn po ab f c r (-1) (-1) hw9 hh7 hc hr0 (by unfold dir; omega)) (cwV 5 hts gX5_wins_X5_along rfl rfl rfl (by decide +kernel) ⟨Nat.le_of_ble_eq_true rfl, Nat.le_of_ble_eq_true rfl⟩) ⟨RPc.blind, va_recv hK hP (ci := 5) (q0 := 0) rfl rfl, (RPc.at (hP.sub [0, 1] rfl) hK hN)⟩ rfl rfl hl.1 rfl (lv_room (Nat.le_of_ble_eq_true rfl)) dX5_wins_51 ⟨Nat.zero_le _, Nat.zero_le _⟩) ?_
  refine n_iadd hx hb dX5_wins_54 ?_
  refine lv_iconst (v := nI 2) hx hb dX5_wins_55 (by decide) ?_
  refine n_icmp_gt (tgt := 82) hx hb dX5_wins_56 (by decide) (by omega) (by omega) (fun c56_3 => ?_) (fun c56_3 => ?_)
  · skip
    refine lv_iconst (v := nI 1) hx hb dX5_wins_82 (by decide) ?_
    refine lv_goto (tgt := 87) hx hb dX5_wins_83 (by decide) ?_
    exact ro_zret hx hb hr hlocks (by first | rfl | exact bI_nar _) (by rw [show wnB w h f c r = true by simp only [wnB, decide_eq_true_eq, Bool.or_eq_true, Bool.or_eq_false_iff, decide_eq_false_iff_not]; omega]; rfl) dX5_wins_87
  refine lv_aload_n hx hb dX5_wins_59 rfl (lv_at hl 0 rfl) ?_
  refine lv_aload_n hx hb dX5_wins_60 rfl (lv_at hl 1 rfl) ?_
  refine lv_iload_n hx hb dX5_wins_61 rfl (lv_at hl 2 rfl) ?_
  refine lv_iload_n hx hb dX5_wins_62 rfl (lv_at hl 3 rfl) ?_
  refine lv_iconst (v := zI (1)) hx hb dX5_wins_63 (by decide) ?_
  refine lv_iconst (v := zI (-1)) hx hb dX5_wins_64 (by decide) ?_
  refine ro_call (W.runV (As := [.ref ab, .int (nI c), .int (nI r), .int (zI 1), .int (zI (-1))]) (rest := []) ⟨hx, hb, hml, hown, hts⟩ (c_along l D cI cJ cZ ad w h th n kn po ab f c r (1) (-1) hw9 hh7 hc hr0 (by unfold dir; omega)) (cwV 5 hts gX5_wins_X5_along rfl rfl rfl (by decide +kernel) ⟨Nat.le_of_ble_eq_true rfl, Nat.le_of_ble_eq_true rfl⟩) ⟨RPc.blind, va_recv hK hP (ci := 5) (q0 := 0) rfl rfl, (RPc.at (hP.sub [0, 1] rfl) hK hN)⟩ rfl rfl hl.1 rfl (lv_room (Nat.le_of_ble_eq_true rfl)) dX5_wins_65 ⟨Nat.zero_le _, Nat.zero_le _⟩) ?_
  refine lv_aload_n hx hb dX5_wins_68 rfl (lv_at hl 0 rfl) ?_
  refine lv_aload_n hx hb dX5_wins_69 rfl (lv_at hl 1 rfl) ?_
  refine lv_iload_n hx hb dX5_wins_70 rfl (lv_at hl 2 rfl) ?_
  refine lv_iload_n hx hb dX5_wins_71 rfl (lv_at hl 3 rfl) ?_
  refine lv_iconst (v := zI (-1)) hx hb dX5_wins_72 (by decide) ?_
  refine lv_iconst (v := zI (1)) hx hb dX5_wins_73 (by decide) ?_
  refine ro_call (W.runV (As := [.ref ab, .int (nI c), .int (nI r), .int (zI (-1)), .int (zI 1)]) (rest := [.int (nI (alN w h f c r (1) (-1)))]) ⟨hx, hb, hml, hown, hts⟩ (c_along l D cI cJ cZ ad w h th n kn po ab f c r (-1) (1) hw9 hh7 hc hr0 (by unfold dir; omega)) (cwV 5 hts gX5_wins_X5_along rfl rfl rfl (by decide +kernel) ⟨Nat.le_of_ble_eq_true rfl, Nat.le_of_ble_eq_true rfl⟩) ⟨RPc.blind, va_recv hK hP (ci := 5) (q0 := 0) rfl rfl, (RPc.at (hP.sub [0, 1] rfl) hK hN)⟩ rfl rfl hl.1 rfl (lv_room (Nat.le_of_ble_eq_true rfl)) dX5_wins_74 ⟨Nat.zero_le _, Nat.zero_le _⟩) ?_
  refine n_iadd hx hb dX5_wins_77 ?_
  refine lv_iconst (v := nI 2) hx hb dX5_wins_78 (by decide) ?_
  refine n_icmp_le (tgt := 86) hx hb dX5_wins_79 (by decide) (by omega) (by omega) (fun c79_4 => ?_) (fun c79_4 => ?_)
  · skip
    refine lv_iconst (v := nI 0) hx hb dX5_wins_86 (by decide) ?_
    exact ro_zret hx hb hr hlocks (by first | rfl | exact bI_nar _) (by rw [show wnB w h f c r = false by simp only [wnB, decide_eq_true_eq, Bool.or_eq_true, Bool.or_eq_false_iff, decide_eq_false_iff_not]; omega]; rfl) dX5_wins_87
  refine lv_iconst (v := nI 1) hx hb dX5_wins_82 (by decide) ?_
  refine lv_goto (tgt := 87) hx hb dX5_wins_83 (by decide) ?_
  exact ro_zret hx hb hr hlocks (by first | rfl | exact bI_nar _) (by rw [show wnB w h f c r = true by simp only [wnB, decide_eq_true_eq, Bool.or_eq_true, Bool.or_eq_false_iff, decide_eq_false_iff_not]; omega]; rfl) dX5_wins_87

set_option maxHeartbeats 4000000 in
set_option maxRecDepth 100000 in
theorem c_winnerNow (l : Launch) (D : va_G) (cI cJ cZ : ClassId) (ad : Nat → Nat) (w h th n kn po : Nat) (B : Nat → Int32) (ht dr wh sb : Nat → Nat) (V : Nat → Int32) (la sl we of_ : Nat → Nat) (Sn : Nat → Int32) (tp re : Nat → Nat) (hd : Dm w h) (hn : n ≤ w * h) (hlast : 0 < n → dr (n - 1) < w ∧ 1 ≤ ht (dr (n - 1)) ∧ ht (dr (n - 1)) ≤ h) : Met l yX5_winnerNow wsX5_winnerNow (k2_rm 3 74) (RPc D [.ref (ad 0)] (mW5 cI cZ ad w h th n kn po B ht dr wh sb V la sl we of_ Sn tp re) (tyA cI cJ cZ)) (k2_QcV (.int (wnowI w h B ht dr n))) 0 0 (fun _ => False) := by
  refine ro_head (cc := cX5_winnerNow) (maxL := 2) (ret := (some .int)) (by decide) rfl (Nat.le_of_ble_eq_true rfl) ?_
  intro p e s m below meth cd ls hx hb hr hlocks hts hown hml hP hK hN hl
  have hl : lv_has ls 2 [(0, .ref (ad 0))] := hl
  have hd0 := hd
  obtain ⟨h3w, hw9, h3h, hh7, hwh, h64⟩ := hd0
  refine lv_aload_n hx hb dX5_winnerNow_0 rfl (lv_at hl 0 rfl) ?_
  refine va_get (C := RX5) (T := TX5) (N := 19) hx hb hts (by decide +kernel) hown hK hP 0 rfl rfl 6 (by decide) (hts (.fieldLink RX5 70 RX5 "n" "I") (by decide +kernel)) (fun _ h9 => h9) rfl dX5_winnerNow_1 ?_
  refine n_if_le (tgt := 58) hx hb dX5_winnerNow_4 (by decide) (by omega) (fun c4_1 => ?_) (fun c4_1 => ?_)
  · skip
    refine lv_aload_n hx hb dX5_winnerNow_58 rfl (lv_at hl 0 rfl) ?_
    refine va_get (C := RX5) (T := TX5) (N := 19) hx hb hts (by decide +kernel) hown hK hP 0 rfl rfl 6 (by decide) (hts (.fieldLink RX5 70 RX5 "n" "I") (by decide +kernel)) (fun _ h9 => h9) rfl dX5_winnerNow_59 ?_
    refine lv_aload_n hx hb dX5_winnerNow_62 rfl (lv_at hl 0 rfl) ?_
    refine va_get (C := RX5) (T := TX5) (N := 19) hx hb hts (by decide +kernel) hown hK hP 0 rfl rfl 1 (by decide) (hts (.fieldLink RX5 52 RX5 "w" "I") (by decide +kernel)) (fun _ h9 => h9) rfl dX5_winnerNow_63 ?_
    refine lv_aload_n hx hb dX5_winnerNow_66 rfl (lv_at hl 0 rfl) ?_
    refine va_get (C := RX5) (T := TX5) (N := 19) hx hb hts (by decide +kernel) hown hK hP 0 rfl rfl 2 (by decide) (hts (.fieldLink RX5 56 RX5 "h" "I") (by decide +kernel)) (fun _ h9 => h9) rfl dX5_winnerNow_67 ?_
    refine n_imul hx hb dX5_winnerNow_70 ?_
    refine n_icmp_ne (tgt := 78) hx hb dX5_winnerNow_71 (by decide) (by omega) (by omega) (fun c71_2 => ?_) (fun c71_2 => ?_)
    · skip
      refine lv_iconst (v := -1) hx hb dX5_winnerNow_78 (by decide) ?_
      exact ro_iret hx hb hr hlocks (by unfold wnowI; rw [if_neg (fun q => absurd q.1 (by omega)), if_neg c71_2]; first | done | rfl) dX5_winnerNow_79
    refine lv_iconst (v := nI 2) hx hb dX5_winnerNow_74 (by decide) ?_
    refine lv_goto (tgt := 79) hx hb dX5_winnerNow_75 (by decide) ?_
    exact ro_iret hx hb hr hlocks (by unfold wnowI; rw [if_neg (fun q => absurd q.1 (by omega)), if_pos c71_2]; first | done | rfl) dX5_winnerNow_79
  obtain ⟨hl1, hl2, hl3⟩ := hlast c4_1
  refine lv_aload_n hx hb dX5_winnerNow_7 rfl (lv_at hl 0 rfl) ?_
  refine va_get (C := RX5) (T := TX5) (N := 19) hx hb hts (by decide +kernel) hown hK hP 0 rfl rfl 5 (by decide) (hts (.fieldLink RX5 16 RX5 "drops" "[I") (by decide +kernel)) (fun _ h9 => h9) rfl dX5_winnerNow_8 ?_
  refine lv_aload_n hx hb dX5_winnerNow_11 rfl (lv_at hl 0 rfl) ?_
  refine va_get (C := RX5) (T := TX5) (N := 19) hx hb hts (by decide +kernel) hown hK hP 0 rfl rfl 6 (by decide) (hts (.fieldLink RX5 70 RX5 "n" "I") (by decide +kernel)) (fun _ h9 => h9) rfl dX5_winnerNow_12 ?_
  refine lv_iconst (v := nI 1) hx hb dX5_winnerNow_15 (by decide) ?_
  refine n_isub hx hb dX5_winnerNow_16 (by omega) ?_
  refine n_iald hx hb hK hP 3 0 rfl rfl (by omega) (by decide) dX5_winnerNow_17 ?_
  refine lv_istore_n (lv' := [(1, .int (nI (dr (n - 1)))), (0, .ref (ad 0))]) hx hb dX5_winnerNow_18 rfl hl (by decide) rfl (fun ls hl => ?_)
  refine lv_aload_n hx hb dX5_winnerNow_19 rfl (lv_at hl 1 rfl) ?_
  refine lv_aload_n hx hb dX5_winnerNow_20 rfl (lv_at hl 1 rfl) ?_
  refine va_get (C := RX5) (T := TX5) (N := 19) hx hb hts (by decide +kernel) hown hK hP 0 rfl rfl 3 (by decide) (hts (.fieldLink RX5 7 RX5 "board" "[I") (by decide +kernel)) (fun _ h9 => h9) rfl dX5_winnerNow_21 ?_
  refine lv_iload_n hx hb dX5_winnerNow_24 rfl (lv_at hl 0 rfl) ?_
  refine lv_aload_n hx hb dX5_winnerNow_25 rfl (lv_at hl 1 rfl) ?_
  refine va_get (C := RX5) (T := TX5) (N := 19) hx hb hts (by decide +kernel) hown hK hP 0 rfl rfl 4 (by decide) (hts (.fieldLink RX5 13 RX5 "heights" "[I") (by decide +kernel)) (fun _ h9 => h9) rfl dX5_winnerNow_26 ?_
  refine lv_iload_n hx hb dX5_winnerNow_29 rfl (lv_at hl 0 rfl) ?_
  refine n_iald hx hb hK hP 2 0 rfl rfl (by omega) (by decide) dX5_winnerNow_30 ?_
  refine lv_iconst (v := nI 1) hx hb dX5_winnerNow_31 (by decide) ?_
  refine n_isub hx hb dX5_winnerNow_32 (by omega) ?_
  refine ro_call (W.runV (As := [.ref (ad 1), .int (nI (dr (n - 1))), .int (nI ((ht (dr (n - 1))) - 1))]) (rest := []) ⟨hx, hb, hml, hown, hts⟩ (c_wins l D cI cJ cZ ad w h th n kn po (ad 1) B (dr (n - 1)) ((ht (dr (n - 1))) - 1) hw9 hh7 (by omega) (by omega)) (cwV 3 hts gX5_winnerNow_X5_wins rfl rfl rfl (by decide +kernel) ⟨Nat.le_of_ble_eq_true rfl, Nat.le_of_ble_eq_true rfl⟩) ⟨RPc.blind, va_recv hK hP (ci := 5) (q0 := 0) rfl rfl, (RPc.at (hP.sub [0, 1] rfl) hK hN)⟩ rfl rfl hl.1 rfl (lv_room (Nat.le_of_ble_eq_true rfl)) dX5_winnerNow_33 ⟨Nat.zero_le _, Nat.zero_le _⟩) ?_
  refine b_if_eq (tgt := 58) hx hb dX5_winnerNow_36 (by decide) (fun c36_3 => ?_) (fun c36_3 => ?_)
  · skip
    refine lv_aload_n hx hb dX5_winnerNow_58 rfl (lv_at hl 1 rfl) ?_
    refine va_get (C := RX5) (T := TX5) (N := 19) hx hb hts (by decide +kernel) hown hK hP 0 rfl rfl 6 (by decide) (hts (.fieldLink RX5 70 RX5 "n" "I") (by decide +kernel)) (fun _ h9 => h9) rfl dX5_winnerNow_59 ?_
    refine lv_aload_n hx hb dX5_winnerNow_62 rfl (lv_at hl 1 rfl) ?_
    refine va_get (C := RX5) (T := TX5) (N := 19) hx hb hts (by decide +kernel) hown hK hP 0 rfl rfl 1 (by decide) (hts (.fieldLink RX5 52 RX5 "w" "I") (by decide +kernel)) (fun _ h9 => h9) rfl dX5_winnerNow_63 ?_
    refine lv_aload_n hx hb dX5_winnerNow_66 rfl (lv_at hl 1 rfl) ?_
    refine va_get (C := RX5) (T := TX5) (N := 19) hx hb hts (by decide +kernel) hown hK hP 0 rfl rfl 2 (by decide) (hts (.fieldLink RX5 56 RX5 "h" "I") (by decide +kernel)) (fun _ h9 => h9) rfl dX5_winnerNow_67 ?_
    refine n_imul hx hb dX5_winnerNow_70 ?_
    refine n_icmp_ne (tgt := 78) hx hb dX5_winnerNow_71 (by decide) (by omega) (by omega) (fun c71_4 => ?_) (fun c71_4 => ?_)
    · skip
      refine lv_iconst (v := -1) hx hb dX5_winnerNow_78 (by decide) ?_
      exact ro_iret hx hb hr hlocks (by unfold wnowI; rw [if_neg (fun q => absurd q.2 (by rw [c36_3]; decide)), if_neg c71_4]; first | done | rfl) dX5_winnerNow_79
    refine lv_iconst (v := nI 2) hx hb dX5_winnerNow_74 (by decide) ?_
    refine lv_goto (tgt := 79) hx hb dX5_winnerNow_75 (by decide) ?_
    exact ro_iret hx hb hr hlocks (by unfold wnowI; rw [if_neg (fun q => absurd q.2 (by rw [c36_3]; decide)), if_pos c71_4]; first | done | rfl) dX5_winnerNow_79
  refine lv_aload_n hx hb dX5_winnerNow_39 rfl (lv_at hl 1 rfl) ?_
  refine va_get (C := RX5) (T := TX5) (N := 19) hx hb hts (by decide +kernel) hown hK hP 0 rfl rfl 3 (by decide) (hts (.fieldLink RX5 7 RX5 "board" "[I") (by decide +kernel)) (fun _ h9 => h9) rfl dX5_winnerNow_40 ?_
  refine lv_bipush (v := nI 7) hx hb dX5_winnerNow_43 (by decide) ?_
  refine lv_iload_n hx hb dX5_winnerNow_45 rfl (lv_at hl 0 rfl) ?_
  refine n_imul hx hb dX5_winnerNow_46 ?_
  refine lv_aload_n hx hb dX5_winnerNow_47 rfl (lv_at hl 1 rfl) ?_
  refine va_get (C := RX5) (T := TX5) (N := 19) hx hb hts (by decide +kernel) hown hK hP 0 rfl rfl 4 (by decide) (hts (.fieldLink RX5 13 RX5 "heights" "[I") (by decide +kernel)) (fun _ h9 => h9) rfl dX5_winnerNow_48 ?_
  refine lv_iload_n hx hb dX5_winnerNow_51 rfl (lv_at hl 0 rfl) ?_
  refine n_iald hx hb hK hP 2 0 rfl rfl (by omega) (by decide) dX5_winnerNow_52 ?_
  refine n_iadd hx hb dX5_winnerNow_53 ?_
  refine lv_iconst (v := nI 1) hx hb dX5_winnerNow_54 (by decide) ?_
  refine n_isub hx hb dX5_winnerNow_55 (by omega) ?_
  refine n_iald hx hb hK hP 1 0 rfl rfl (by omega) (by decide) dX5_winnerNow_56 ?_
  exact ro_iret hx hb hr hlocks (by unfold wnowI; rw [if_pos ⟨c4_1, c36_3⟩]) dX5_winnerNow_57

set_option maxHeartbeats 4000000 in
set_option maxRecDepth 100000 in
theorem c_isThreat (l : Launch) (D : va_G) (cI cJ cZ : ClassId) (ad : Nat → Nat) (w h th n kn po : Nat) (B : Nat → Int32) (ht dr wh sb : Nat → Nat) (V : Nat → Int32) (la sl we of_ : Nat → Nat) (Sn : Nat → Int32) (tp re : Nat → Nat) (x y pl : Nat) (hd : Dm w h) (hxw : x < w) (hyh : y < h) : Met l yX5_isThreat wsX5_isThreat (k2_rm 2 48) (RPc D [.ref (ad 0), .int (nI x), .int (nI y), .int (nI pl)] (mW5 cI cZ ad w h th n kn po B ht dr wh sb V la sl we of_ Sn tp re) (tyA cI cJ cZ)) (k2_QcV (.int (bI (itB w h B x y pl)))) 0 0 (fun _ => False) := by
  refine ro_head (cc := cX5_isThreat) (maxL := 8) (ret := (some .boolean)) (by decide) rfl (Nat.le_of_ble_eq_true rfl) ?_
  intro p e s m below meth cd ls hx hb hr hlocks hts hown hml hP hK hN hl
  have hl : lv_has ls 8 [(0, .ref (ad 0)), (1, .int (nI x)), (2, .int (nI y)), (3, .int (nI pl))] := hl
  have hd0 := hd
  obtain ⟨h3w, hw9, h3h, hh7, hwh, h64⟩ := hd0
  refine lv_iconst (v := nI 0) hx hb dX5_isThreat_0 (by decide) ?_
  refine lv_istore (lv' := [(4, .int (nI 0)), (0, .ref (ad 0)), (1, .int (nI x)), (2, .int (nI y)), (3, .int (nI pl))]) hx hb dX5_isThreat_1 hl (by decide) rfl (fun ls hl => ?_)
  refine loopW (σ := Unit) (m := m) 3 8 (fun i qx => [(0, .ref (ad 0)), (1, .int (nI x)), (2, .int (nI y)), (3, .int (nI pl)), (4, .int (nI i))]) (fun i qx => anyB (fun way => anyB (itF w h B x y pl way) 4) i = false) 4 ?_ ?_ 0 () ls (by omega) rfl (lv_sub hl [1, 2, 3, 4, 0] rfl)
  · intro way qx ls hi_3 hI_3 hl ih_3
    have hl : lv_has ls 8 [(0, .ref (ad 0)), (1, .int (nI x)), (2, .int (nI y)), (3, .int (nI pl)), (4, .int (nI way))] := hl
    have hI_3 : anyB (fun way => anyB (itF w h B x y pl way) 4) way = false := hI_3
    refine lv_iload hx hb dX5_isThreat_3 (lv_at hl 4 rfl) ?_
    refine lv_iconst (v := nI 4) hx hb dX5_isThreat_5 (by decide) ?_
    refine n_icmp_ge (tgt := 93) hx hb dX5_isThreat_6 (by decide) (by omega) (by omega) (fun c6_1 => ?_) (fun c6_1 => ?_)
    · exact absurd c6_1 (by omega)
    refine lv_iconst (v := nI 0) hx hb dX5_isThreat_9 (by decide) ?_
    refine lv_istore (lv' := [(5, .int (nI 0)), (0, .ref (ad 0)), (1, .int (nI x)), (2, .int (nI y)), (3, .int (nI pl)), (4, .int (nI way))]) hx hb dX5_isThreat_10 hl (by decide) rfl (fun ls hl => ?_)
    refine loopW (σ := Unit) (m := m) 12 8 (fun i qx => [(0, .ref (ad 0)), (1, .int (nI x)), (2, .int (nI y)), (3, .int (nI pl)), (4, .int (nI way)), (5, .int (nI i))]) (fun i qx => anyB (itF w h B x y pl way) i = false) 4 ?_ ?_ 0 () ls (by omega) rfl (lv_sub hl [1, 2, 3, 4, 5, 0] rfl)
    · intro i qx ls hi_12 hI_12 hl ih_12
      have hl : lv_has ls 8 [(0, .ref (ad 0)), (1, .int (nI x)), (2, .int (nI y)), (3, .int (nI pl)), (4, .int (nI way)), (5, .int (nI i))] := hl
      have hI_12 : anyB (itF w h B x y pl way) i = false := hI_12
      refine lv_iload hx hb dX5_isThreat_12 (lv_at hl 5 rfl) ?_
      refine lv_iconst (v := nI 4) hx hb dX5_isThreat_14 (by decide) ?_
      refine n_icmp_ge (tgt := 87) hx hb dX5_isThreat_15 (by decide) (by omega) (by omega) (fun c15_2 => ?_) (fun c15_2 => ?_)
      · exact absurd c15_2 (by omega)
      refine lv_iload_n hx hb dX5_isThreat_18 rfl (lv_at hl 1 rfl) ?_
      refine rt_i (v := zI (x : Int)) (zI_n _).symm ?_
      refine lv_iload hx hb dX5_isThreat_19 (lv_at hl 4 rfl) ?_
      refine lv_iload hx hb dX5_isThreat_21 (lv_at hl 5 rfl) ?_
      refine rt_i (v := zI ((i : Nat) : Int)) (zI_n _).symm ?_
      refine z_ineg hx hb dX5_isThreat_23 ?_
      refine ro_call (W.runS (As := [.int (zI (x : Int)), .int (nI way), .int (zI (-(i : Int)))]) (rest := []) ⟨hx, hb, hml, hown, hts⟩ (c_columnOf l D cI cJ cZ (x : Int) (-(i : Int)) way (by omega)) (va_cwS 3 hts gX5_isThreat_X5_columnOf rfl rfl rfl (by decide +kernel) ⟨Nat.le_of_ble_eq_true rfl, Nat.le_of_ble_eq_true rfl⟩) ⟨RPc.blind, (RPc.at (hP.sub [] rfl) hK hN)⟩ rfl rfl hl.1 rfl (lv_room (Nat.le_of_ble_eq_true rfl)) dX5_isThreat_24 ⟨Nat.zero_le _, Nat.zero_le _⟩) ?_
      refine lv_istore (lv' := [(6, .int (zI (lcZ way (-(i : Int)) (x : Int)))), (0, .ref (ad 0)), (1, .int (nI x)), (2, .int (nI y)), (3, .int (nI pl)), (4, .int (nI way)), (5, .int (nI i))]) hx hb dX5_isThreat_27 hl (by decide) rfl (fun ls hl => ?_)
      refine lv_iload_n hx hb dX5_isThreat_29 rfl (lv_at hl 3 rfl) ?_
      refine rt_i (v := zI (y : Int)) (zI_n _).symm ?_
      refine lv_iload hx hb dX5_isThreat_30 (lv_at hl 5 rfl) ?_
      refine lv_iload hx hb dX5_isThreat_32 (lv_at hl 6 rfl) ?_
      refine rt_i (v := zI ((i : Nat) : Int)) (zI_n _).symm ?_
      refine z_ineg hx hb dX5_isThreat_34 ?_
      refine ro_call (W.runS (As := [.int (zI (y : Int)), .int (nI way), .int (zI (-(i : Int)))]) (rest := []) ⟨hx, hb, hml, hown, hts⟩ (c_rowOf l D cI cJ cZ (y : Int) (-(i : Int)) way (by omega)) (va_cwS 3 hts gX5_isThreat_X5_rowOf rfl rfl rfl (by decide +kernel) ⟨Nat.le_of_ble_eq_true rfl, Nat.le_of_ble_eq_true rfl⟩) ⟨RPc.blind, (RPc.at (hP.sub [] rfl) hK hN)⟩ rfl rfl hl.1 rfl (lv_room (Nat.le_of_ble_eq_true rfl)) dX5_isThreat_35 ⟨Nat.zero_le _, Nat.zero_le _⟩) ?_
      refine lv_istore (lv' := [(7, .int (zI (lrZ way (-(i : Int)) (y : Int)))), (6, .int (zI (lcZ way (-(i : Int)) (x : Int)))), (0, .ref (ad 0)), (1, .int (nI x)), (2, .int (nI y)), (3, .int (nI pl)), (4, .int (nI way)), (5, .int (nI i))]) hx hb dX5_isThreat_38 hl (by decide) rfl (fun ls hl => ?_)
      refine lv_aload_n hx hb dX5_isThreat_40 rfl (lv_at hl 2 rfl) ?_
      refine lv_iload hx hb dX5_isThreat_41 (lv_at hl 1 rfl) ?_
      refine lv_iload hx hb dX5_isThreat_43 (lv_at hl 0 rfl) ?_
      refine ro_call (W.runV (As := [.int (zI (lcZ way (-(i : Int)) (x : Int))), .int (zI (lrZ way (-(i : Int)) (y : Int)))]) (rest := []) ⟨hx, hb, hml, hown, hts⟩ (c_isSquare l D cI cJ cZ ad w h th n kn po (zI (lcZ way (-(i : Int)) (x : Int))) (zI (lrZ way (-(i : Int)) (y : Int)))) (cwV 2 hts gX5_isThreat_X5_isSquare rfl rfl rfl (by decide +kernel) ⟨Nat.le_of_ble_eq_true rfl, Nat.le_of_ble_eq_true rfl⟩) ⟨RPc.blind, va_recv hK hP (ci := 5) (q0 := 0) rfl rfl, (RPc.at (hP.sub [0] rfl) hK hN)⟩ rfl rfl hl.1 rfl (lv_room (Nat.le_of_ble_eq_true rfl)) dX5_isThreat_45 ⟨Nat.zero_le _, Nat.zero_le _⟩) ?_
      refine b_if_eq (tgt := 81) hx hb dX5_isThreat_48 (by decide) (fun c48_3 => ?_) (fun c48_3 => ?_)
      · skip
        refine n_iinc (n := 1) (lv' := [(5, .int (nI (i + 1))), (7, .int (zI (lrZ way (-(i : Int)) (y : Int)))), (6, .int (zI (lcZ way (-(i : Int)) (x : Int)))), (0, .ref (ad 0)), (1, .int (nI x)), (2, .int (nI y)), (3, .int (nI pl)), (4, .int (nI way))]) hx hb dX5_isThreat_81 hl (k := 7) rfl (by decide) rfl (fun ls hl => ?_)
        refine lv_goto (tgt := 12) hx hb dX5_isThreat_84 (by decide) ?_
        exact ih_12 () ls (anyB_s hI_12 (by unfold itF; rw [c48_3]; rfl)) (lv_sub hl [3, 4, 5, 6, 7, 0] rfl)
      have hb1 : zB (lcZ way (-(i : Int)) (x : Int)) := by unfold zB lcZ; split <;> omega
      have hb2 : zB (lrZ way (-(i : Int)) (y : Int)) := by unfold zB lrZ; split <;> first | omega | (split <;> omega)
      obtain ⟨g1, g2, g3, g4⟩ := (isq_z hw9 hh7 hb1 hb2).mp c48_3
      refine lv_aload_n hx hb dX5_isThreat_51 rfl (lv_at hl 2 rfl) ?_
      refine lv_iload hx hb dX5_isThreat_52 (lv_at hl 1 rfl) ?_
      refine lv_iload hx hb dX5_isThreat_54 (lv_at hl 0 rfl) ?_
      refine lv_iload hx hb dX5_isThreat_56 (lv_at hl 6 rfl) ?_
      refine ro_call (W.runV (As := [.int (zI (lcZ way (-(i : Int)) (x : Int))), .int (zI (lrZ way (-(i : Int)) (y : Int))), .int (nI way)]) (rest := []) ⟨hx, hb, hml, hown, hts⟩ (c_isLine l D cI cJ cZ ad w h th n kn po (lcZ way (-(i : Int)) (x : Int)) (lrZ way (-(i : Int)) (y : Int)) way (by omega)) (cwV 3 hts gX5_isThreat_X5_isLine rfl rfl rfl (by decide +kernel) ⟨Nat.le_of_ble_eq_true rfl, Nat.le_of_ble_eq_true rfl⟩) ⟨RPc.blind, va_recv hK hP (ci := 5) (q0 := 0) rfl rfl, (RPc.at (hP.sub [0] rfl) hK hN)⟩ rfl rfl hl.1 rfl (lv_room (Nat.le_of_ble_eq_true rfl)) dX5_isThreat_58 ⟨Nat.zero_le _, Nat.zero_le _⟩) ?_
      refine b_if_eq (tgt := 81) hx hb dX5_isThreat_61 (by decide) (fun c61_4 => ?_) (fun c61_4 => ?_)
      · skip
        refine n_iinc (n := 1) (lv' := [(5, .int (nI (i + 1))), (7, .int (zI (lrZ way (-(i : Int)) (y : Int)))), (6, .int (zI (lcZ way (-(i : Int)) (x : Int)))), (0, .ref (ad 0)), (1, .int (nI x)), (2, .int (nI y)), (3, .int (nI pl)), (4, .int (nI way))]) hx hb dX5_isThreat_81 hl (k := 7) rfl (by decide) rfl (fun ls hl => ?_)
        refine lv_goto (tgt := 12) hx hb dX5_isThreat_84 (by decide) ?_
        exact ih_12 () ls (anyB_s hI_12 (by unfold itF; rw [c61_4]; simp)) (lv_sub hl [3, 4, 5, 6, 7, 0] rfl)
      have hs4 := sq4_of hw9 hh7 ⟨g1, g2⟩ ⟨g3, g4⟩ c61_4
      refine lv_aload_n hx hb dX5_isThreat_64 rfl (lv_at hl 2 rfl) ?_
      refine lv_iload hx hb dX5_isThreat_65 (lv_at hl 1 rfl) ?_
      refine lv_iload hx hb dX5_isThreat_67 (lv_at hl 0 rfl) ?_
      refine lv_iload hx hb dX5_isThreat_69 (lv_at hl 6 rfl) ?_
      refine lv_iload_n hx hb dX5_isThreat_71 rfl (lv_at hl 5 rfl) ?_
      refine ro_call (W.runV (As := [.int (zI (lcZ way (-(i : Int)) (x : Int))), .int (zI (lrZ way (-(i : Int)) (y : Int))), .int (nI way), .int (nI pl)]) (rest := []) ⟨hx, hb, hml, hown, hts⟩ (c_many l D cI cJ cZ ad w h th n kn po B ht dr wh sb V la sl we of_ Sn tp re (lcZ way (-(i : Int)) (x : Int)) (lrZ way (-(i : Int)) (y : Int)) way pl (by omega) hs4) (cwV 4 hts gX5_isThreat_X5_many rfl rfl rfl (by decide +kernel) ⟨Nat.le_of_ble_eq_true rfl, Nat.le_of_ble_eq_true rfl⟩) ⟨RPc.blind, va_recv hK hP (ci := 5) (q0 := 0) rfl rfl, (RPc.at (hP.sub [0, 1, 2, 3, 4, 5, 6, 7, 8, 9, 10, 11, 12, 13] rfl) hK hN)⟩ rfl rfl hl.1 rfl (lv_room (Nat.le_of_ble_eq_true rfl)) dX5_isThreat_72 ⟨Nat.zero_le _, Nat.zero_le _⟩) ?_
      refine lv_iconst (v := nI 3) hx hb dX5_isThreat_75 (by decide) ?_
      refine n_icmp_ne (tgt := 81) hx hb dX5_isThreat_76 (by decide) (Nat.lt_of_le_of_lt (mnN_le 4) (by decide)) (by decide) (fun c76_5 => ?_) (fun c76_5 => ?_)
      · skip
        refine n_iinc (n := 1) (lv' := [(5, .int (nI (i + 1))), (7, .int (zI (lrZ way (-(i : Int)) (y : Int)))), (6, .int (zI (lcZ way (-(i : Int)) (x : Int)))), (0, .ref (ad 0)), (1, .int (nI x)), (2, .int (nI y)), (3, .int (nI pl)), (4, .int (nI way))]) hx hb dX5_isThreat_81 hl (k := 7) rfl (by decide) rfl (fun ls hl => ?_)
        refine lv_goto (tgt := 12) hx hb dX5_isThreat_84 (by decide) ?_
        exact ih_12 () ls (anyB_s hI_12 (by unfold itF; rw [decide_eq_false c76_5]; simp)) (lv_sub hl [3, 4, 5, 6, 7, 0] rfl)
      refine lv_iconst (v := nI 1) hx hb dX5_isThreat_79 (by decide) ?_
      exact ro_zret hx hb hr hlocks (by first | rfl | exact bI_nar _) (by rw [show itB w h B x y pl = true from anyB_t (f := fun way => anyB (itF w h B x y pl way) 4) (i := way) (show anyB (itF w h B x y pl way) 4 = true from anyB_t (i := i) (by unfold itF; rw [c48_3, c61_4, decide_eq_true c76_5]; rfl) hi_12) hi_3]; rfl) dX5_isThreat_80
    · intro qx ls hI_12 hl
      have hl : lv_has ls 8 [(0, .ref (ad 0)), (1, .int (nI x)), (2, .int (nI y)), (3, .int (nI pl)), (4, .int (nI way)), (5, .int (nI 4))] := hl
      have hI_12 : anyB (itF w h B x y pl way) 4 = false := hI_12
      refine lv_iload hx hb dX5_isThreat_12 (lv_at hl 5 rfl) ?_
      refine lv_iconst (v := nI 4) hx hb dX5_isThreat_14 (by decide) ?_
      refine n_icmp_ge (tgt := 87) hx hb dX5_isThreat_15 (by decide) (by decide) (by decide) (fun _ => ?_) (fun c15_6 => absurd c15_6 (by decide))
      refine n_iinc (n := 1) (lv' := [(4, .int (nI (way + 1))), (0, .ref (ad 0)), (1, .int (nI x)), (2, .int (nI y)), (3, .int (nI pl)), (5, .int (nI 4))]) hx hb dX5_isThreat_87 hl (k := 4) rfl (by decide) rfl (fun ls hl => ?_)
      refine lv_goto (tgt := 3) hx hb dX5_isThreat_90 (by decide) ?_
      exact ih_3 () ls (anyB_s hI_3 hI_12) (lv_sub hl [1, 2, 3, 4, 0] rfl)
  · intro qx ls hI_3 hl
    have hl : lv_has ls 8 [(0, .ref (ad 0)), (1, .int (nI x)), (2, .int (nI y)), (3, .int (nI pl)), (4, .int (nI 4))] := hl
    have hI_3 : anyB (fun way => anyB (itF w h B x y pl way) 4) 4 = false := hI_3
    refine lv_iload hx hb dX5_isThreat_3 (lv_at hl 4 rfl) ?_
    refine lv_iconst (v := nI 4) hx hb dX5_isThreat_5 (by decide) ?_
    refine n_icmp_ge (tgt := 93) hx hb dX5_isThreat_6 (by decide) (by decide) (by decide) (fun _ => ?_) (fun c6_7 => absurd c6_7 (by decide))
    refine lv_iconst (v := nI 0) hx hb dX5_isThreat_93 (by decide) ?_
    exact ro_zret hx hb hr hlocks (by first | rfl | exact bI_nar _) (by rw [show itB w h B x y pl = false from hI_3]; rfl) dX5_isThreat_94
