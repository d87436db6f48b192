def atI (h : Nat) (S : Nat → Int64) (c r : Nat) : Int32 := if S 0 &&& sqL h c r = 0 then (if S 1 &&& sqL h c r = 0 then -1 else 1) else 0
set_option maxHeartbeats 4000000 in
set_option maxRecDepth 100000 in
theorem x_drop_bad (l : Launch) (hlt : l.stackTraces = false) (D : va_G) (cI cJ cZ : ClassId) (w h x sn hs hi g st cs fo se : Nat) (S : Nat → Int64) (ht hy : Nat → Nat) (n : Nat) (k : Int32) (hd : Dm w h) (hht : ∀ j, ht j ≤ h) (hn : n ≤ w * h) (hk : icB w k = false) : vx_Met l yX4_drop wsX4_drop (x_rm 6 91) (XPc D [.ref x, .int k] (xW cI cJ w h x sn hs hi g st cs fo se S ht hy n) (tyA cI cJ cZ)) xNo (xX eIA) 1 6 (fun _ => False) := by
  refine xt_head (cc := cX4_drop) (maxL := 3) (ret := (some .int)) (by decide) rfl (Nat.le_of_ble_eq_true rfl) ?_
  intro p e s m below meth cd ls hx hb hr hlocks hts hown hml hP hK hN hTw hTz hout hl
  have hl : lv_has ls 3 [(0, .ref x), (1, .int k)] := hl
  have hd0 := hd
  obtain ⟨h3w, hw9, h3h, hh7, hwh, h64⟩ := hd0
  refine lv_aload_n hx hb dX4_drop_0 rfl (lv_at hl 0 rfl) ?_
  refine lv_iload_n hx hb dX4_drop_1 rfl (lv_at hl 1 rfl) ?_
  refine ro_call (W.runV (As := [.int k]) (rest := []) ⟨hx, hb, hml, hown, hts⟩ (c_isColumn l D cI cJ cZ w h x sn hs hi g st cs fo se S ht hy n k hd hht hn) (cwV 1 hts gX4_drop_X4_isColumn rfl rfl rfl (by decide +kernel) ⟨Nat.le_of_ble_eq_true rfl, Nat.le_of_ble_eq_true rfl⟩) ⟨RPc.blind, va_recv hK hP (ci := 4) (q0 := 0) rfl rfl, (RPc.at (hP.sub [0, 1, 2, 3, 4, 5, 6] rfl) hK hN)⟩ rfl rfl hl.1 rfl (lv_room (Nat.le_of_ble_eq_true rfl)) dX4_drop_2 ⟨Nat.zero_le _, Nat.zero_le _⟩) ?_
  refine b_if_ne (tgt := 18) hx hb dX4_drop_5 (by decide) (fun c5_1 => ?_) (fun c5_1 => ?_)
  · exact absurd c5_1 (by rw [hk]; decide)
  exact xt_throw (ik := 57) (is := 59) (ic := 61) hx hb hlt hown (by decide) (hts (.classLink RX4 57 eIA) (by decide +kernel)) (hts (.initialized eIA) (by decide +kernel)) hTw hTz (List.mem_of_getElem? (i := 0) rfl) (fun w hw => hts w (mem_r2 hw)) at2_61 gd_57 (hl.1.trans hml.symm) dX4_drop_8 dX4_drop_11 dX4_drop_12 dX4_drop_14 dX4_drop_17 hout (by decide) (by decide) (by decide) (by decide) hlocks

set_option maxHeartbeats 4000000 in
set_option maxRecDepth 100000 in
theorem x_drop_no (l : Launch) (hlt : l.stackTraces = false) (D : va_G) (cI cJ cZ : ClassId) (w h x sn hs hi g st cs fo se : Nat) (S : Nat → Int64) (ht hy : Nat → Nat) (n : Nat) (c : Nat) (hd : Dm w h) (hht : ∀ j, ht j ≤ h) (hn : n ≤ w * h) (hc : c < w) (hic : icB w (nI c) = true) (hov : ovB w h S n = true ∨ h ≤ ht c) : vx_Met l yX4_drop wsX4_drop (x_rm 6 91) (XPc D [.ref x, .int (nI c)] (xW cI cJ w h x sn hs hi g st cs fo se S ht hy n) (tyA cI cJ cZ)) xNo (xX eIS) 1 6 (fun _ => False) := by
  refine xt_head (cc := cX4_drop) (maxL := 3) (ret := (some .int)) (by decide) rfl (Nat.le_of_ble_eq_true rfl) ?_
  intro p e s m below meth cd ls hx hb hr hlocks hts hown hml hP hK hN hTw hTz hout hl
  have hl : lv_has ls 3 [(0, .ref x), (1, .int (nI c))] := hl
  have hd0 := hd
  obtain ⟨h3w, hw9, h3h, hh7, hwh, h64⟩ := hd0
  refine lv_aload_n hx hb dX4_drop_0 rfl (lv_at hl 0 rfl) ?_
  refine lv_iload_n hx hb dX4_drop_1 rfl (lv_at hl 1 rfl) ?_
  refine ro_call (W.runV (As := [.int (nI c)]) (rest := []) ⟨hx, hb, hml, hown, hts⟩ (c_isColumn l D cI cJ cZ w h x sn hs hi g st cs fo se S ht hy n (nI c) hd hht hn) (cwV 1 hts gX4_drop_X4_isColumn rfl rfl rfl (by decide +kernel) ⟨Nat.le_of_ble_eq_true rfl, Nat.le_of_ble_eq_true rfl⟩) ⟨RPc.blind, va_recv hK hP (ci := 4) (q0 := 0) rfl rfl, (RPc.at (hP.sub [0, 1, 2, 3, 4, 5, 6] rfl) hK hN)⟩ rfl rfl hl.1 rfl (lv_room (Nat.le_of_ble_eq_true rfl)) dX4_drop_2 ⟨Nat.zero_le _, Nat.zero_le _⟩) ?_
  refine b_if_ne (tgt := 18) hx hb dX4_drop_5 (by decide) (fun c5_1 => ?_) (fun c5_1 => ?_)
  · skip
    refine lv_aload_n hx hb dX4_drop_18 rfl (lv_at hl 0 rfl) ?_
    refine ro_call (W.runV (As := []) (rest := []) ⟨hx, hb, hml, hown, hts⟩ (c_isOver l D cI cJ cZ w h x sn hs hi g st cs fo se S ht hy n hd hht hn) (cwV 0 hts gX4_drop_X4_isOver rfl rfl rfl (by decide +kernel) ⟨Nat.le_of_ble_eq_true rfl, Nat.le_of_ble_eq_true rfl⟩) ⟨RPc.blind, va_recv hK hP (ci := 4) (q0 := 0) rfl rfl, (RPc.at (hP.sub [0, 1, 2, 3, 4, 5, 6] rfl) hK hN)⟩ rfl rfl hl.1 rfl (lv_room (Nat.le_of_ble_eq_true rfl)) dX4_drop_19 ⟨Nat.zero_le _, Nat.zero_le _⟩) ?_
    refine b_if_ne (tgt := 33) hx hb dX4_drop_22 (by decide) (fun c22_2 => ?_) (fun c22_2 => ?_)
    · skip
      exact xt_throw (ik := 71) (is := 73) (ic := 75) hx hb hlt hown (by decide) (hts (.classLink RX4 71 eIS) (by decide +kernel)) (hts (.initialized eIS) (by decide +kernel)) hTw hTz (List.mem_of_getElem? (i := 1) rfl) (fun w hw => hts w (mem_r1 hw)) at2_75 gd_71 (hl.1.trans hml.symm) dX4_drop_33 dX4_drop_36 dX4_drop_37 dX4_drop_39 dX4_drop_42 hout (by decide) (by decide) (by decide) (by decide) hlocks
    refine lv_aload_n hx hb dX4_drop_25 rfl (lv_at hl 0 rfl) ?_
    refine lv_iload_n hx hb dX4_drop_26 rfl (lv_at hl 1 rfl) ?_
    refine ro_call (W.runV (As := [.int (nI c)]) (rest := []) ⟨hx, hb, hml, hown, hts⟩ (c_isFull l D cI cJ cZ w h x sn hs hi g st cs fo se S ht hy n c hd hht hn (by omega)) (cwV 1 hts gX4_drop_X4_isFull rfl rfl rfl (by decide +kernel) ⟨Nat.le_of_ble_eq_true rfl, Nat.le_of_ble_eq_true rfl⟩) ⟨RPc.blind, va_recv hK hP (ci := 4) (q0 := 0) rfl rfl, (RPc.at (hP.sub [0, 1, 2, 3, 4, 5, 6] rfl) hK hN)⟩ rfl rfl hl.1 rfl (lv_room (Nat.le_of_ble_eq_true rfl)) dX4_drop_27 ⟨Nat.zero_le _, Nat.zero_le _⟩) ?_
    refine b_if_eq (tgt := 43) hx hb dX4_drop_30 (by decide) (fun c30_3 => ?_) (fun c30_3 => ?_)
    · exact absurd c30_3 (fun q => absurd q (by rw [decide_eq_true (hov.resolve_left (by rw [c22_2]; decide))]; decide))
    exact xt_throw (ik := 71) (is := 73) (ic := 75) hx hb hlt hown (by decide) (hts (.classLink RX4 71 eIS) (by decide +kernel)) (hts (.initialized eIS) (by decide +kernel)) hTw hTz (List.mem_of_getElem? (i := 1) rfl) (fun w hw => hts w (mem_r1 hw)) at2_75 gd_71 (hl.1.trans hml.symm) dX4_drop_33 dX4_drop_36 dX4_drop_37 dX4_drop_39 dX4_drop_42 hout (by decide) (by decide) (by decide) (by decide) hlocks
  · exact absurd c5_1 (by rw [hic]; decide)

set_option maxHeartbeats 4000000 in
set_option maxRecDepth 100000 in
theorem x_back_no (l : Launch) (hlt : l.stackTraces = false) (D : va_G) (cI cJ cZ : ClassId) (w h x sn hs hi g st cs fo se : Nat) (S : Nat → Int64) (ht hy : Nat → Nat) (n : Nat)  (hd : Dm w h) (hht : ∀ j, ht j ≤ h) (hn : n ≤ w * h) (hn0 : n = 0) : vx_Met l yX4_back wsX4_back (x_rm 6 82) (XPc D [.ref x] (xW cI cJ w h x sn hs hi g st cs fo se S ht hy n) (tyA cI cJ cZ)) xNo (xX eIS) 1 6 (fun _ => False) := by
  refine xt_head (cc := cX4_back) (maxL := 2) (ret := (some .int)) (by decide) rfl (Nat.le_of_ble_eq_true rfl) ?_
  intro p e s m below meth cd ls hx hb hr hlocks hts hown hml hP hK hN hTw hTz hout hl
  have hl : lv_has ls 2 [(0, .ref x)] := hl
  have hd0 := hd
  obtain ⟨h3w, hw9, h3h, hh7, hwh, h64⟩ := hd0
  refine lv_aload_n hx hb dX4_back_0 rfl (lv_at hl 0 rfl) ?_
  refine va_get (C := RX4) (T := TX4) (N := 7) hx hb hts (by decide +kernel) hown hK hP 0 rfl rfl 6 (by decide) (hts (.fieldLink RX4 13 RX4 "count" "I") (by decide +kernel)) (fun _ h9 => h9) rfl dX4_back_1 ?_
  refine n_if_ne (tgt := 17) hx hb dX4_back_4 (by decide) (by omega) (fun c4_1 => ?_) (fun c4_1 => ?_)
  · exact absurd c4_1 (fun q => q hn0)
  exact xt_throw (ik := 71) (is := 84) (ic := 75) hx hb hlt hown (by decide) (hts (.classLink RX4 71 eIS) (by decide +kernel)) (hts (.initialized eIS) (by decide +kernel)) hTw hTz (List.mem_of_getElem? (i := 2) rfl) (fun w hw => hts w (mem_r1 hw)) at2_75 gd_71 (hl.1.trans hml.symm) dX4_back_7 dX4_back_10 dX4_back_11 dX4_back_13 dX4_back_16 hout (by decide) (by decide) (by decide) (by decide) hlocks

set_option maxHeartbeats 4000000 in
set_option maxRecDepth 100000 in
theorem x_at_no (l : Launch) (hlt : l.stackTraces = false) (D : va_G) (cI cJ cZ : ClassId) (w h x sn hs hi g st cs fo se : Nat) (S : Nat → Int64) (ht hy : Nat → Nat) (n : Nat) (c r : Int32) (hd : Dm w h) (hht : ∀ j, ht j ≤ h) (hn : n ≤ w * h) (hq : icB w c = false ∨ r < 0 ∨ nI h ≤ r) : vx_Met l yX4_at wsX4_at (x_rm 6 82) (XPc D [.ref x, .int c, .int r] (xW cI cJ w h x sn hs hi g st cs fo se S ht hy n) (tyA cI cJ cZ)) xNo (xX eIB) 1 6 (fun _ => False) := by
  refine xt_head (cc := cX4_at) (maxL := 5) (ret := (some .int)) (by decide) rfl (Nat.le_of_ble_eq_true rfl) ?_
  intro p e s m below meth cd ls hx hb hr hlocks hts hown hml hP hK hN hTw hTz hout hl
  have hl : lv_has ls 5 [(0, .ref x), (1, .int c), (2, .int r)] := hl
  have hd0 := hd
  obtain ⟨h3w, hw9, h3h, hh7, hwh, h64⟩ := hd0
  refine lv_aload_n hx hb dX4_at_0 rfl (lv_at hl 0 rfl) ?_
  refine lv_iload_n hx hb dX4_at_1 rfl (lv_at hl 1 rfl) ?_
  refine ro_call (W.runV (As := [.int c]) (rest := []) ⟨hx, hb, hml, hown, hts⟩ (c_isColumn l D cI cJ cZ w h x sn hs hi g st cs fo se S ht hy n c hd hht hn) (cwV 1 hts gX4_at_X4_isColumn rfl rfl rfl (by decide +kernel) ⟨Nat.le_of_ble_eq_true rfl, Nat.le_of_ble_eq_true rfl⟩) ⟨RPc.blind, va_recv hK hP (ci := 4) (q0 := 0) rfl rfl, (RPc.at (hP.sub [0, 1, 2, 3, 4, 5, 6] rfl) hK hN)⟩ rfl rfl hl.1 rfl (lv_room (Nat.le_of_ble_eq_true rfl)) dX4_at_2 ⟨Nat.zero_le _, Nat.zero_le _⟩) ?_
  refine b_if_eq (tgt := 23) hx hb dX4_at_5 (by decide) (fun c5_1 => ?_) (fun c5_1 => ?_)
  · skip
    exact xt_throw (ik := 98) (is := 100) (ic := 102) hx hb hlt hown (by decide) (hts (.classLink RX4 98 eIB) (by decide +kernel)) (hts (.initialized eIB) (by decide +kernel)) hTw hTz (List.mem_of_getElem? (i := 3) rfl) (fun w hw => hts w (mem_r1 hw)) at2_102 gd_98 (hl.1.trans hml.symm) dX4_at_23 dX4_at_26 dX4_at_27 dX4_at_29 dX4_at_32 hout (by decide) (by decide) (by decide) (by decide) hlocks
  refine lv_iload_n hx hb dX4_at_8 rfl (lv_at hl 2 rfl) ?_
  refine lv_if_lt (tgt := 23) hx hb dX4_at_9 (by decide) (fun c9_2 => ?_) (fun c9_2 => ?_)
  · skip
    exact xt_throw (ik := 98) (is := 100) (ic := 102) hx hb hlt hown (by decide) (hts (.classLink RX4 98 eIB) (by decide +kernel)) (hts (.initialized eIB) (by decide +kernel)) hTw hTz (List.mem_of_getElem? (i := 3) rfl) (fun w hw => hts w (mem_r1 hw)) at2_102 gd_98 (hl.1.trans hml.symm) dX4_at_23 dX4_at_26 dX4_at_27 dX4_at_29 dX4_at_32 hout (by decide) (by decide) (by decide) (by decide) hlocks
  refine lv_iload_n hx hb dX4_at_12 rfl (lv_at hl 2 rfl) ?_
  refine lv_aload_n hx hb dX4_at_13 rfl (lv_at hl 0 rfl) ?_
  refine va_get (C := RX4) (T := TX4) (N := 7) hx hb hts (by decide +kernel) hown hK hP 0 rfl rfl 0 (by decide) (hts (.fieldLink RX4 26 RX4 "grid" "LDropFour$Grid;") (by decide +kernel)) (fun _ h9 => h9) rfl dX4_at_14 ?_
  refine va_getN (C := RX1) (T := TX1) (N := 6) hx hb hts (by decide +kernel) hown hK hP 4 rfl rfl 1 (by decide) (hN.use 8 rfl rfl) (fun _ h9 => h9) rfl dX4_at_17 ?_
  refine lv_icmp_lt (tgt := 33) hx hb dX4_at_20 (by decide) (fun c20_3 => ?_) (fun c20_3 => ?_)
  · exact absurd c20_3 (fun q => hq.elim (fun z => by rw [z] at c5_1; cases c5_1) (fun z => z.elim c9_2 (fun z => Int32.not_le.mpr q z)))
  exact xt_throw (ik := 98) (is := 100) (ic := 102) hx hb hlt hown (by decide) (hts (.classLink RX4 98 eIB) (by decide +kernel)) (hts (.initialized eIB) (by decide +kernel)) hTw hTz (List.mem_of_getElem? (i := 3) rfl) (fun w hw => hts w (mem_r1 hw)) at2_102 gd_98 (hl.1.trans hml.symm) dX4_at_23 dX4_at_26 dX4_at_27 dX4_at_29 dX4_at_32 hout (by decide) (by decide) (by decide) (by decide) hlocks

set_option maxHeartbeats 4000000 in
set_option maxRecDepth 100000 in
theorem x_open_no (l : Launch) (hlt : l.stackTraces = false) (D : va_G) (cI cJ cZ : ClassId) (w h x sn hs hi g st cs fo se : Nat) (S : Nat → Int64) (ht hy : Nat → Nat) (n : Nat) (k : Int32) (hd : Dm w h) (hht : ∀ j, ht j ≤ h) (hn : n ≤ w * h) (hk : ipB k = false) : vx_Met l yX4_open wsX4_open (x_rm 6 82) (XPc D [.ref x, .int k] (xW cI cJ w h x sn hs hi g st cs fo se S ht hy n) (tyA cI cJ cZ)) xNo (xX eIA) 1 6 (fun _ => False) := by
  refine xt_head (cc := cX4_open) (maxL := 2) (ret := (some .int)) (by decide) rfl (Nat.le_of_ble_eq_true rfl) ?_
  intro p e s m below meth cd ls hx hb hr hlocks hts hown hml hP hK hN hTw hTz hout hl
  have hl : lv_has ls 2 [(0, .ref x), (1, .int k)] := hl
  have hd0 := hd
  obtain ⟨h3w, hw9, h3h, hh7, hwh, h64⟩ := hd0
  refine lv_iload_n hx hb dX4_open_0 rfl (lv_at hl 1 rfl) ?_
  refine ro_call (W.runS (As := [.int k]) (rest := []) ⟨hx, hb, hml, hown, hts⟩ (c_isPlayer l D cI cJ cZ k) (va_cwS 1 hts gX4_open_X4_isPlayer rfl rfl rfl (by decide +kernel) ⟨Nat.le_of_ble_eq_true rfl, Nat.le_of_ble_eq_true rfl⟩) ⟨RPc.blind, (RPc.at (hP.sub [] rfl) hK hN)⟩ rfl rfl hl.1 rfl (lv_room (Nat.le_of_ble_eq_true rfl)) dX4_open_1 ⟨Nat.zero_le _, Nat.zero_le _⟩) ?_
  refine b_if_ne (tgt := 17) hx hb dX4_open_4 (by decide) (fun c4_1 => ?_) (fun c4_1 => ?_)
  · exact absurd c4_1 (by rw [hk]; decide)
  exact xt_throw (ik := 57) (is := 106) (ic := 61) hx hb hlt hown (by decide) (hts (.classLink RX4 57 eIA) (by decide +kernel)) (hts (.initialized eIA) (by decide +kernel)) hTw hTz (List.mem_of_getElem? (i := 4) rfl) (fun w hw => hts w (mem_r1 hw)) at2_61 gd_57 (hl.1.trans hml.symm) dX4_open_7 dX4_open_10 dX4_open_11 dX4_open_13 dX4_open_16 hout (by decide) (by decide) (by decide) (by decide) hlocks

set_option maxHeartbeats 4000000 in
set_option maxRecDepth 100000 in
theorem x_threats_no (l : Launch) (hlt : l.stackTraces = false) (D : va_G) (cI cJ cZ : ClassId) (w h x sn hs hi g st cs fo se : Nat) (S : Nat → Int64) (ht hy : Nat → Nat) (n : Nat) (k : Int32) (hd : Dm w h) (hht : ∀ j, ht j ≤ h) (hn : n ≤ w * h) (hk : ipB k = false) : vx_Met l yX4_threats wsX4_threats (x_rm 6 82) (XPc D [.ref x, .int k] (xW cI cJ w h x sn hs hi g st cs fo se S ht hy n) (tyA cI cJ cZ)) xNo (xX eIA) 1 6 (fun _ => False) := by
  refine xt_head (cc := cX4_threats) (maxL := 2) (ret := (some .int)) (by decide) rfl (Nat.le_of_ble_eq_true rfl) ?_
  intro p e s m below meth cd ls hx hb hr hlocks hts hown hml hP hK hN hTw hTz hout hl
  have hl : lv_has ls 2 [(0, .ref x), (1, .int k)] := hl
  have hd0 := hd
  obtain ⟨h3w, hw9, h3h, hh7, hwh, h64⟩ := hd0
  refine lv_iload_n hx hb dX4_threats_0 rfl (lv_at hl 1 rfl) ?_
  refine ro_call (W.runS (As := [.int k]) (rest := []) ⟨hx, hb, hml, hown, hts⟩ (c_isPlayer l D cI cJ cZ k) (va_cwS 1 hts gX4_threats_X4_isPlayer rfl rfl rfl (by decide +kernel) ⟨Nat.le_of_ble_eq_true rfl, Nat.le_of_ble_eq_true rfl⟩) ⟨RPc.blind, (RPc.at (hP.sub [] rfl) hK hN)⟩ rfl rfl hl.1 rfl (lv_room (Nat.le_of_ble_eq_true rfl)) dX4_threats_1 ⟨Nat.zero_le _, Nat.zero_le _⟩) ?_
  refine b_if_ne (tgt := 17) hx hb dX4_threats_4 (by decide) (fun c4_1 => ?_) (fun c4_1 => ?_)
  · exact absurd c4_1 (by rw [hk]; decide)
  exact xt_throw (ik := 57) (is := 106) (ic := 61) hx hb hlt hown (by decide) (hts (.classLink RX4 57 eIA) (by decide +kernel)) (hts (.initialized eIA) (by decide +kernel)) hTw hTz (List.mem_of_getElem? (i := 4) rfl) (fun w hw => hts w (mem_r1 hw)) at2_61 gd_57 (hl.1.trans hml.symm) dX4_threats_7 dX4_threats_10 dX4_threats_11 dX4_threats_13 dX4_threats_16 hout (by decide) (by decide) (by decide) (by decide) hlocks

set_option maxHeartbeats 4000000 in
set_option maxRecDepth 100000 in
theorem x_value_no (l : Launch) (hlt : l.stackTraces = false) (D : va_G) (cI cJ cZ : ClassId) (w h x sn hs hi g st cs fo se : Nat) (S : Nat → Int64) (ht hy : Nat → Nat) (n : Nat)  (hd : Dm w h) (hht : ∀ j, ht j ≤ h) (hn : n ≤ w * h) (hk : cvB w h S n = false) : vx_Met l yX4_value wsX4_value (x_rm 6 111) (XPc D [.ref x] (xW cI cJ w h x sn hs hi g st cs fo se S ht hy n) (tyA cI cJ cZ)) xNo (xX eIS) 1 6 (fun _ => False) := by
  refine xt_head (cc := cX4_value) (maxL := 1) (ret := (some .int)) (by decide) rfl (Nat.le_of_ble_eq_true rfl) ?_
  intro p e s m below meth cd ls hx hb hr hlocks hts hown hml hP hK hN hTw hTz hout hl
  have hl : lv_has ls 1 [(0, .ref x)] := hl
  have hd0 := hd
  obtain ⟨h3w, hw9, h3h, hh7, hwh, h64⟩ := hd0
  refine lv_aload_n hx hb dX4_value_0 rfl (lv_at hl 0 rfl) ?_
  refine ro_call (W.runV (As := []) (rest := []) ⟨hx, hb, hml, hown, hts⟩ (c_canBeValued l D cI cJ cZ w h x sn hs hi g st cs fo se S ht hy n hd hht hn) (cwV 0 hts gX4_value_X4_canBeValued rfl rfl rfl (by decide +kernel) ⟨Nat.le_of_ble_eq_true rfl, Nat.le_of_ble_eq_true rfl⟩) ⟨RPc.blind, va_recv hK hP (ci := 4) (q0 := 0) rfl rfl, (RPc.at (hP.sub [0, 1, 2, 3, 4, 5, 6] rfl) hK hN)⟩ rfl rfl hl.1 rfl (lv_room (Nat.le_of_ble_eq_true rfl)) dX4_value_1 ⟨Nat.zero_le _, Nat.zero_le _⟩) ?_
  refine b_if_ne (tgt := 17) hx hb dX4_value_4 (by decide) (fun c4_1 => ?_) (fun c4_1 => ?_)
  · exact absurd c4_1 (by rw [hk]; decide)
  exact xt_throw (ik := 71) (is := 132) (ic := 75) hx hb hlt hown (by decide) (hts (.classLink RX4 71 eIS) (by decide +kernel)) (hts (.initialized eIS) (by decide +kernel)) hTw hTz (List.mem_of_getElem? (i := 5) rfl) (fun w hw => hts w (mem_r1 hw)) at2_75 gd_71 (hl.1.trans hml.symm) dX4_value_7 dX4_value_10 dX4_value_11 dX4_value_13 dX4_value_16 hout (by decide) (by decide) (by decide) (by decide) hlocks

set_option maxHeartbeats 4000000 in
set_option maxRecDepth 100000 in
theorem x_best_no (l : Launch) (hlt : l.stackTraces = false) (D : va_G) (cI cJ cZ : ClassId) (w h x sn hs hi g st cs fo se : Nat) (S : Nat → Int64) (ht hy : Nat → Nat) (n : Nat)  (hd : Dm w h) (hht : ∀ j, ht j ≤ h) (hn : n ≤ w * h) (hk : cvB w h S n = false) : vx_Met l yX4_best wsX4_best (x_rm 6 111) (XPc D [.ref x] (xW cI cJ w h x sn hs hi g st cs fo se S ht hy n) (tyA cI cJ cZ)) xNo (xX eIS) 1 6 (fun _ => False) := by
  refine xt_head (cc := cX4_best) (maxL := 5) (ret := (some .int)) (by decide) rfl (Nat.le_of_ble_eq_true rfl) ?_
  intro p e s m below meth cd ls hx hb hr hlocks hts hown hml hP hK hN hTw hTz hout hl
  have hl : lv_has ls 5 [(0, .ref x)] := hl
  have hd0 := hd
  obtain ⟨h3w, hw9, h3h, hh7, hwh, h64⟩ := hd0
  refine lv_aload_n hx hb dX4_best_0 rfl (lv_at hl 0 rfl) ?_
  refine ro_call (W.runV (As := []) (rest := []) ⟨hx, hb, hml, hown, hts⟩ (c_canBeValued l D cI cJ cZ w h x sn hs hi g st cs fo se S ht hy n hd hht hn) (cwV 0 hts gX4_best_X4_canBeValued rfl rfl rfl (by decide +kernel) ⟨Nat.le_of_ble_eq_true rfl, Nat.le_of_ble_eq_true rfl⟩) ⟨RPc.blind, va_recv hK hP (ci := 4) (q0 := 0) rfl rfl, (RPc.at (hP.sub [0, 1, 2, 3, 4, 5, 6] rfl) hK hN)⟩ rfl rfl hl.1 rfl (lv_room (Nat.le_of_ble_eq_true rfl)) dX4_best_1 ⟨Nat.zero_le _, Nat.zero_le _⟩) ?_
  refine b_if_ne (tgt := 17) hx hb dX4_best_4 (by decide) (fun c4_1 => ?_) (fun c4_1 => ?_)
  · exact absurd c4_1 (by rw [hk]; decide)
  exact xt_throw (ik := 71) (is := 132) (ic := 75) hx hb hlt hown (by decide) (hts (.classLink RX4 71 eIS) (by decide +kernel)) (hts (.initialized eIS) (by decide +kernel)) hTw hTz (List.mem_of_getElem? (i := 5) rfl) (fun w hw => hts w (mem_r1 hw)) at2_75 gd_71 (hl.1.trans hml.symm) dX4_best_7 dX4_best_10 dX4_best_11 dX4_best_13 dX4_best_16 hout (by decide) (by decide) (by decide) (by decide) hlocks

set_option maxHeartbeats 4000000 in
set_option maxRecDepth 100000 in
theorem x_valueOf_bad (l : Launch) (hlt : l.stackTraces = false) (D : va_G) (cI cJ cZ : ClassId) (w h x sn hs hi g st cs fo se : Nat) (S : Nat → Int64) (ht hy : Nat → Nat) (n : Nat) (k : Int32) (hd : Dm w h) (hht : ∀ j, ht j ≤ h) (hn : n ≤ w * h) (hk : icB w k = false) : vx_Met l yX4_valueOf wsX4_valueOf (x_rm 6 82) (XPc D [.ref x, .int k] (xW cI cJ w h x sn hs hi g st cs fo se S ht hy n) (tyA cI cJ cZ)) xNo (xX eIA) 1 6 (fun _ => False) := by
  refine xt_head (cc := cX4_valueOf) (maxL := 2) (ret := (some .int)) (by decide) rfl (Nat.le_of_ble_eq_true rfl) ?_
  intro p e s m below meth cd ls hx hb hr hlocks hts hown hml hP hK hN hTw hTz hout hl
  have hl : lv_has ls 2 [(0, .ref x), (1, .int k)] := hl
  have hd0 := hd
  obtain ⟨h3w, hw9, h3h, hh7, hwh, h64⟩ := hd0
  refine lv_aload_n hx hb dX4_valueOf_0 rfl (lv_at hl 0 rfl) ?_
  refine lv_iload_n hx hb dX4_valueOf_1 rfl (lv_at hl 1 rfl) ?_
  refine ro_call (W.runV (As := [.int k]) (rest := []) ⟨hx, hb, hml, hown, hts⟩ (c_isColumn l D cI cJ cZ w h x sn hs hi g st cs fo se S ht hy n k hd hht hn) (cwV 1 hts gX4_valueOf_X4_isColumn rfl rfl rfl (by decide +kernel) ⟨Nat.le_of_ble_eq_true rfl, Nat.le_of_ble_eq_true rfl⟩) ⟨RPc.blind, va_recv hK hP (ci := 4) (q0 := 0) rfl rfl, (RPc.at (hP.sub [0, 1, 2, 3, 4, 5, 6] rfl) hK hN)⟩ rfl rfl hl.1 rfl (lv_room (Nat.le_of_ble_eq_true rfl)) dX4_valueOf_2 ⟨Nat.zero_le _, Nat.zero_le _⟩) ?_
  refine b_if_ne (tgt := 18) hx hb dX4_valueOf_5 (by decide) (fun c5_1 => ?_) (fun c5_1 => ?_)
  · exact absurd c5_1 (by rw [hk]; decide)
  exact xt_throw (ik := 57) (is := 59) (ic := 61) hx hb hlt hown (by decide) (hts (.classLink RX4 57 eIA) (by decide +kernel)) (hts (.initialized eIA) (by decide +kernel)) hTw hTz (List.mem_of_getElem? (i := 0) rfl) (fun w hw => hts w (mem_r2 hw)) at2_61 gd_57 (hl.1.trans hml.symm) dX4_valueOf_8 dX4_valueOf_11 dX4_valueOf_12 dX4_valueOf_14 dX4_valueOf_17 hout (by decide) (by decide) (by decide) (by decide) hlocks

set_option maxHeartbeats 4000000 in
set_option maxRecDepth 100000 in
theorem x_valueOf_no (l : Launch) (hlt : l.stackTraces = false) (D : va_G) (cI cJ cZ : ClassId) (w h x sn hs hi g st cs fo se : Nat) (S : Nat → Int64) (ht hy : Nat → Nat) (n : Nat) (c : Nat) (hd : Dm w h) (hht : ∀ j, ht j ≤ h) (hn : n ≤ w * h) (hc : c < w) (hic : icB w (nI c) = true) (hov : cvB w h S n = false ∨ h ≤ ht c) : vx_Met l yX4_valueOf wsX4_valueOf (x_rm 6 111) (XPc D [.ref x, .int (nI c)] (xW cI cJ w h x sn hs hi g st cs fo se S ht hy n) (tyA cI cJ cZ)) xNo (xX eIS) 1 6 (fun _ => False) := by
  refine xt_head (cc := cX4_valueOf) (maxL := 2) (ret := (some .int)) (by decide) rfl (Nat.le_of_ble_eq_true rfl) ?_
  intro p e s m below meth cd ls hx hb hr hlocks hts hown hml hP hK hN hTw hTz hout hl
  have hl : lv_has ls 2 [(0, .ref x), (1, .int (nI c))] := hl
  have hd0 := hd
  obtain ⟨h3w, hw9, h3h, hh7, hwh, h64⟩ := hd0
  refine lv_aload_n hx hb dX4_valueOf_0 rfl (lv_at hl 0 rfl) ?_
  refine lv_iload_n hx hb dX4_valueOf_1 rfl (lv_at hl 1 rfl) ?_
  refine ro_call (W.runV (As := [.int (nI c)]) (rest := []) ⟨hx, hb, hml, hown, hts⟩ (c_isColumn l D cI cJ cZ w h x sn hs hi g st cs fo se S ht hy n (nI c) hd hht hn) (cwV 1 hts gX4_valueOf_X4_isColumn rfl rfl rfl (by decide +kernel) ⟨Nat.le_of_ble_eq_true rfl, Nat.le_of_ble_eq_true rfl⟩) ⟨RPc.blind, va_recv hK hP (ci := 4) (q0 := 0) rfl rfl, (RPc.at (hP.sub [0, 1, 2, 3, 4, 5, 6] rfl) hK hN)⟩ rfl rfl hl.1 rfl (lv_room (Nat.le_of_ble_eq_true rfl)) dX4_valueOf_2 ⟨Nat.zero_le _, Nat.zero_le _⟩) ?_
  refine b_if_ne (tgt := 18) hx hb dX4_valueOf_5 (by decide) (fun c5_1 => ?_) (fun c5_1 => ?_)
  · skip
    refine lv_aload_n hx hb dX4_valueOf_18 rfl (lv_at hl 0 rfl) ?_
    refine ro_call (W.runV (As := []) (rest := []) ⟨hx, hb, hml, hown, hts⟩ (c_canBeValued l D cI cJ cZ w h x sn hs hi g st cs fo se S ht hy n hd hht hn) (cwV 0 hts gX4_valueOf_X4_canBeValued rfl rfl rfl (by decide +kernel) ⟨Nat.le_of_ble_eq_true rfl, Nat.le_of_ble_eq_true rfl⟩) ⟨RPc.blind, va_recv hK hP (ci := 4) (q0 := 0) rfl rfl, (RPc.at (hP.sub [0, 1, 2, 3, 4, 5, 6] rfl) hK hN)⟩ rfl rfl hl.1 rfl (lv_room (Nat.le_of_ble_eq_true rfl)) dX4_valueOf_19 ⟨Nat.zero_le _, Nat.zero_le _⟩) ?_
    refine b_if_eq (tgt := 33) hx hb dX4_valueOf_22 (by decide) (fun c22_2 => ?_) (fun c22_2 => ?_)
    · skip
      exact xt_throw (ik := 71) (is := 148) (ic := 75) hx hb hlt hown (by decide) (hts (.classLink RX4 71 eIS) (by decide +kernel)) (hts (.initialized eIS) (by decide +kernel)) hTw hTz (List.mem_of_getElem? (i := 6) rfl) (fun w hw => hts w (mem_r1 hw)) at2_75 gd_71 (hl.1.trans hml.symm) dX4_valueOf_33 dX4_valueOf_36 dX4_valueOf_37 dX4_valueOf_39 dX4_valueOf_42 hout (by decide) (by decide) (by decide) (by decide) hlocks
    refine lv_aload_n hx hb dX4_valueOf_25 rfl (lv_at hl 0 rfl) ?_
    refine lv_iload_n hx hb dX4_valueOf_26 rfl (lv_at hl 1 rfl) ?_
    refine ro_call (W.runV (As := [.int (nI c)]) (rest := []) ⟨hx, hb, hml, hown, hts⟩ (c_isFull l D cI cJ cZ w h x sn hs hi g st cs fo se S ht hy n c hd hht hn (by omega)) (cwV 1 hts gX4_valueOf_X4_isFull rfl rfl rfl (by decide +kernel) ⟨Nat.le_of_ble_eq_true rfl, Nat.le_of_ble_eq_true rfl⟩) ⟨RPc.blind, va_recv hK hP (ci := 4) (q0 := 0) rfl rfl, (RPc.at (hP.sub [0, 1, 2, 3, 4, 5, 6] rfl) hK hN)⟩ rfl rfl hl.1 rfl (lv_room (Nat.le_of_ble_eq_true rfl)) dX4_valueOf_27 ⟨Nat.zero_le _, Nat.zero_le _⟩) ?_
    refine b_if_eq (tgt := 43) hx hb dX4_valueOf_30 (by decide) (fun c30_3 => ?_) (fun c30_3 => ?_)
    · exact absurd c30_3 (fun q => absurd q (by rw [decide_eq_true (hov.resolve_left (by rw [c22_2]; decide))]; decide))
    exact xt_throw (ik := 71) (is := 148) (ic := 75) hx hb hlt hown (by decide) (hts (.classLink RX4 71 eIS) (by decide +kernel)) (hts (.initialized eIS) (by decide +kernel)) hTw hTz (List.mem_of_getElem? (i := 6) rfl) (fun w hw => hts w (mem_r1 hw)) at2_75 gd_71 (hl.1.trans hml.symm) dX4_valueOf_33 dX4_valueOf_36 dX4_valueOf_37 dX4_valueOf_39 dX4_valueOf_42 hout (by decide) (by decide) (by decide) (by decide) hlocks
  · exact absurd c5_1 (by rw [hic]; decide)

set_option maxHeartbeats 4000000 in
set_option maxRecDepth 100000 in
theorem x_beats_no (l : Launch) (hlt : l.stackTraces = false) (D : va_G) (cI cJ cZ : ClassId) (w h x sn hs hi g st cs fo se : Nat) (S : Nat → Int64) (ht hy : Nat → Nat) (n : Nat)  (hd : Dm w h) (hht : ∀ j, ht j ≤ h) (hn : n ≤ w * h) (hov : ovB w h S n = true ∨ 30 < w * h - n ∨ evB h ht w = false) : vx_Met l yX4_beats wsX4_beats (x_rm 6 91) (XPc D [.ref x] (xW cI cJ w h x sn hs hi g st cs fo se S ht hy n) (tyA cI cJ cZ)) xNo (xX eIS) 1 6 (fun _ => False) := by
  refine xt_head (cc := cX4_beats) (maxL := 1) (ret := (some .boolean)) (by decide) rfl (Nat.le_of_ble_eq_true rfl) ?_
  intro p e s m below meth cd ls hx hb hr hlocks hts hown hml hP hK hN hTw hTz hout hl
  have hl : lv_has ls 1 [(0, .ref x)] := hl
  have hd0 := hd
  obtain ⟨h3w, hw9, h3h, hh7, hwh, h64⟩ := hd0
  refine lv_aload_n hx hb dX4_beats_0 rfl (lv_at hl 0 rfl) ?_
  refine ro_call (W.runV (As := []) (rest := []) ⟨hx, hb, hml, hown, hts⟩ (c_isOver l D cI cJ cZ w h x sn hs hi g st cs fo se S ht hy n hd hht hn) (cwV 0 hts gX4_beats_X4_isOver rfl rfl rfl (by decide +kernel) ⟨Nat.le_of_ble_eq_true rfl, Nat.le_of_ble_eq_true rfl⟩) ⟨RPc.blind, va_recv hK hP (ci := 4) (q0 := 0) rfl rfl, (RPc.at (hP.sub [0, 1, 2, 3, 4, 5, 6] rfl) hK hN)⟩ rfl rfl hl.1 rfl (lv_room (Nat.le_of_ble_eq_true rfl)) dX4_beats_1 ⟨Nat.zero_le _, Nat.zero_le _⟩) ?_
  refine b_if_ne (tgt := 23) hx hb dX4_beats_4 (by decide) (fun c4_1 => ?_) (fun c4_1 => ?_)
  · skip
    exact xt_throw (ik := 71) (is := 159) (ic := 75) hx hb hlt hown (by decide) (hts (.classLink RX4 71 eIS) (by decide +kernel)) (hts (.initialized eIS) (by decide +kernel)) hTw hTz (List.mem_of_getElem? (i := 7) rfl) (fun w hw => hts w (mem_r1 hw)) at2_75 gd_71 (hl.1.trans hml.symm) dX4_beats_23 dX4_beats_26 dX4_beats_27 dX4_beats_29 dX4_beats_32 hout (by decide) (by decide) (by decide) (by decide) hlocks
  refine lv_aload_n hx hb dX4_beats_7 rfl (lv_at hl 0 rfl) ?_
  refine ro_call (W.runV (As := []) (rest := []) ⟨hx, hb, hml, hown, hts⟩ (c_empty l D cI cJ cZ w h x sn hs hi g st cs fo se S ht hy n hd hht hn) (cwV 0 hts gX4_beats_X4_empty rfl rfl rfl (by decide +kernel) ⟨Nat.le_of_ble_eq_true rfl, Nat.le_of_ble_eq_true rfl⟩) ⟨RPc.blind, va_recv hK hP (ci := 4) (q0 := 0) rfl rfl, (RPc.at (hP.sub [0, 1, 2, 3, 4, 5, 6] rfl) hK hN)⟩ rfl rfl hl.1 rfl (lv_room (Nat.le_of_ble_eq_true rfl)) dX4_beats_8 ⟨Nat.zero_le _, Nat.zero_le _⟩) ?_
  refine lv_bipush (v := nI 30) hx hb dX4_beats_11 (by decide) ?_
  refine n_icmp_gt (tgt := 23) hx hb dX4_beats_13 (by decide) (by omega) (by omega) (fun c13_2 => ?_) (fun c13_2 => ?_)
  · skip
    exact xt_throw (ik := 71) (is := 159) (ic := 75) hx hb hlt hown (by decide) (hts (.classLink RX4 71 eIS) (by decide +kernel)) (hts (.initialized eIS) (by decide +kernel)) hTw hTz (List.mem_of_getElem? (i := 7) rfl) (fun w hw => hts w (mem_r1 hw)) at2_75 gd_71 (hl.1.trans hml.symm) dX4_beats_23 dX4_beats_26 dX4_beats_27 dX4_beats_29 dX4_beats_32 hout (by decide) (by decide) (by decide) (by decide) hlocks
  refine lv_aload_n hx hb dX4_beats_16 rfl (lv_at hl 0 rfl) ?_
  refine ro_call (W.runV (As := []) (rest := []) ⟨hx, hb, hml, hown, hts⟩ (c_canFollow l D cI cJ cZ w h x sn hs hi g st cs fo se S ht hy n hd hht hn) (cwV 0 hts gX4_beats_X4_canFollow rfl rfl rfl (by decide +kernel) ⟨Nat.le_of_ble_eq_true rfl, Nat.le_of_ble_eq_true rfl⟩) ⟨RPc.blind, va_recv hK hP (ci := 4) (q0 := 0) rfl rfl, (RPc.at (hP.sub [0, 1, 2, 3, 4, 5, 6] rfl) hK hN)⟩ rfl rfl hl.1 rfl (lv_room (Nat.le_of_ble_eq_true rfl)) dX4_beats_17 ⟨Nat.zero_le _, Nat.zero_le _⟩) ?_
  refine b_if_ne (tgt := 33) hx hb dX4_beats_20 (by decide) (fun c20_3 => ?_) (fun c20_3 => ?_)
  · exact absurd c20_3 (fun q => hov.elim (fun z => by rw [z] at c4_1; cases c4_1) (fun z => z.elim (fun z => absurd z (by omega)) (fun z => by rw [z] at q; cases q)))
  exact xt_throw (ik := 71) (is := 159) (ic := 75) hx hb hlt hown (by decide) (hts (.classLink RX4 71 eIS) (by decide +kernel)) (hts (.initialized eIS) (by decide +kernel)) hTw hTz (List.mem_of_getElem? (i := 7) rfl) (fun w hw => hts w (mem_r1 hw)) at2_75 gd_71 (hl.1.trans hml.symm) dX4_beats_23 dX4_beats_26 dX4_beats_27 dX4_beats_29 dX4_beats_32 hout (by decide) (by decide) (by decide) (by decide) hlocks

set_option maxHeartbeats 4000000 in
set_option maxRecDepth 100000 in
theorem p_at (l : Launch) (D : va_G) (cI cJ cZ : ClassId) (w h x sn hs hi g st cs fo se : Nat) (S : Nat → Int64) (ht hy : Nat → Nat) (n : Nat) (c r : Nat) (hd : Dm w h) (hht : ∀ j, ht j ≤ h) (hn : n ≤ w * h) (hc : c < w) (hr0 : r < h) (hic : icB w (nI c) = true) : Met l yX4_at wsX4_at (k2_rm 1 22) (RPc D [.ref x, .int (nI c), .int (nI r)] (xW cI cJ w h x sn hs hi g st cs fo se S ht hy n) (tyA cI cJ cZ)) (k2_QcV (.int (atI h S c r))) 0 0 (fun _ => False) := by
  refine ro_head (cc := cX4_at) (maxL := 5) (ret := (some .int)) (by decide) rfl (Nat.le_of_ble_eq_true rfl) ?_
  intro p e s m below meth cd ls hx hb hr hlocks hts hown hml hP hK hN hl
  have hl : lv_has ls 5 [(0, .ref x), (1, .int (nI c)), (2, .int (nI r))] := hl
  have hd0 := hd
  obtain ⟨h3w, hw9, h3h, hh7, hwh, h64⟩ := hd0
  refine lv_aload_n hx hb dX4_at_0 rfl (lv_at hl 0 rfl) ?_
  refine lv_iload_n hx hb dX4_at_1 rfl (lv_at hl 1 rfl) ?_
  refine ro_call (W.runV (As := [.int (nI c)]) (rest := []) ⟨hx, hb, hml, hown, hts⟩ (c_isColumn l D cI cJ cZ w h x sn hs hi g st cs fo se S ht hy n (nI c) hd hht hn) (cwV 1 hts gX4_at_X4_isColumn rfl rfl rfl (by decide +kernel) ⟨Nat.le_of_ble_eq_true rfl, Nat.le_of_ble_eq_true rfl⟩) ⟨RPc.blind, va_recv hK hP (ci := 4) (q0 := 0) rfl rfl, (RPc.at (hP.sub [0, 1, 2, 3, 4, 5, 6] rfl) hK hN)⟩ rfl rfl hl.1 rfl (lv_room (Nat.le_of_ble_eq_true rfl)) dX4_at_2 ⟨Nat.zero_le _, Nat.zero_le _⟩) ?_
  refine b_if_eq (tgt := 23) hx hb dX4_at_5 (by decide) (fun c5_1 => ?_) (fun c5_1 => ?_)
  · exact absurd c5_1 (by rw [hic]; decide)
  refine lv_iload_n hx hb dX4_at_8 rfl (lv_at hl 2 rfl) ?_
  refine lv_if_lt (tgt := 23) hx hb dX4_at_9 (by decide) (fun c9_2 => ?_) (fun c9_2 => ?_)
  · exact absurd c9_2 (nI_pos (by omega))
  refine lv_iload_n hx hb dX4_at_12 rfl (lv_at hl 2 rfl) ?_
  refine lv_aload_n hx hb dX4_at_13 rfl (lv_at hl 0 rfl) ?_
  refine va_get (C := RX4) (T := TX4) (N := 7) hx hb hts (by decide +kernel) hown hK hP 0 rfl rfl 0 (by decide) (hts (.fieldLink RX4 26 RX4 "grid" "LDropFour$Grid;") (by decide +kernel)) (fun _ h9 => h9) rfl dX4_at_14 ?_
  refine va_getN (C := RX1) (T := TX1) (N := 6) hx hb hts (by decide +kernel) hown hK hP 4 rfl rfl 1 (by decide) (hN.use 8 rfl rfl) (fun _ h9 => h9) rfl dX4_at_17 ?_
  refine n_icmp_lt (tgt := 33) hx hb dX4_at_20 (by decide) (by omega) (by omega) (fun c20_3 => ?_) (fun c20_3 => ?_)
  · skip
    refine lv_aload_n hx hb dX4_at_33 rfl (lv_at hl 0 rfl) ?_
    refine va_get (C := RX4) (T := TX4) (N := 7) hx hb hts (by decide +kernel) hown hK hP 0 rfl rfl 0 (by decide) (hts (.fieldLink RX4 26 RX4 "grid" "LDropFour$Grid;") (by decide +kernel)) (fun _ h9 => h9) rfl dX4_at_34 ?_
    refine lv_iload_n hx hb dX4_at_37 rfl (lv_at hl 1 rfl) ?_
    refine lv_iload_n hx hb dX4_at_38 rfl (lv_at hl 2 rfl) ?_
    refine ro_call (W.runV (As := [.int (nI c), .int (nI r)]) (rest := []) ⟨hx, hb, hml, hown, hts⟩ (c_square l D cI cJ cZ w h g st cs c r) (cwV 2 hts gX4_at_X1_square rfl rfl rfl (by decide +kernel) ⟨Nat.le_of_ble_eq_true rfl, Nat.le_of_ble_eq_true rfl⟩) ⟨RPc.blind, va_recv hK hP (ci := 1) (q0 := 4) rfl rfl, (RPc.at (hP.sub [4, 5, 6] rfl) hK hN)⟩ rfl rfl hl.1 rfl (lv_room (Nat.le_of_ble_eq_true rfl)) dX4_at_39 ⟨Nat.zero_le _, Nat.zero_le _⟩) ?_
    refine lv_lstore_n (lv' := [(3, .long (sqL h c r)), (0, .ref x), (1, .int (nI c)), (2, .int (nI r))]) hx hb dX4_at_42 rfl hl (by decide) rfl (fun ls hl => ?_)
    refine lv_aload_n hx hb dX4_at_43 rfl (lv_at hl 1 rfl) ?_
    refine va_get (C := RX4) (T := TX4) (N := 7) hx hb hts (by decide +kernel) hown hK hP 0 rfl rfl 3 (by decide) (hts (.fieldLink RX4 7 RX4 "stones" "[J") (by decide +kernel)) (fun _ h9 => h9) rfl dX4_at_44 ?_
    refine lv_iconst (v := nI 0) hx hb dX4_at_47 (by decide) ?_
    refine n_lald hx hb hK hP 1 1 rfl rfl (by omega) (by omega) dX4_at_48 ?_
    refine lv_lload_n hx hb dX4_at_49 rfl (lv_at hl 0 rfl) ?_
    refine lv_land hx hb dX4_at_50 ?_
    refine lv_lconst (v := 0) hx hb dX4_at_51 (by decide) ?_
    refine W.lcmp hx hb dX4_at_52 ?_
    refine l_if_eq (tgt := 58) hx hb dX4_at_53 (by decide) (fun c53_4 => ?_) (fun c53_4 => ?_)
    · skip
      refine lv_aload_n hx hb dX4_at_58 rfl (lv_at hl 1 rfl) ?_
      refine va_get (C := RX4) (T := TX4) (N := 7) hx hb hts (by decide +kernel) hown hK hP 0 rfl rfl 3 (by decide) (hts (.fieldLink RX4 7 RX4 "stones" "[J") (by decide +kernel)) (fun _ h9 => h9) rfl dX4_at_59 ?_
      refine lv_iconst (v := nI 1) hx hb dX4_at_62 (by decide) ?_
      refine n_lald hx hb hK hP 1 1 rfl rfl (by omega) (by omega) dX4_at_63 ?_
      refine lv_lload_n hx hb dX4_at_64 rfl (lv_at hl 0 rfl) ?_
      refine lv_land hx hb dX4_at_65 ?_
      refine lv_lconst (v := 0) hx hb dX4_at_66 (by decide) ?_
      refine W.lcmp hx hb dX4_at_67 ?_
      refine l_if_eq (tgt := 75) hx hb dX4_at_68 (by decide) (fun c68_5 => ?_) (fun c68_5 => ?_)
      · skip
        refine lv_iconst (v := -1) hx hb dX4_at_75 (by decide) ?_
        exact ro_iret hx hb hr hlocks (by simp [atI, nI_0, nI, c53_4, c68_5]) dX4_at_76
      refine lv_iconst (v := nI 1) hx hb dX4_at_71 (by decide) ?_
      refine lv_goto (tgt := 76) hx hb dX4_at_72 (by decide) ?_
      exact ro_iret hx hb hr hlocks (by simp [atI, nI_0, nI, c53_4, c68_5]) dX4_at_76
    refine lv_iconst (v := nI 0) hx hb dX4_at_56 (by decide) ?_
    exact ro_iret hx hb hr hlocks (by simp [atI, nI_0, nI, c53_4]) dX4_at_57
  · exact absurd c20_3 (by omega)

set_option maxHeartbeats 4000000 in
set_option maxRecDepth 100000 in
theorem p_open (l : Launch) (D : va_G) (cI cJ cZ : ClassId) (w h x sn hs hi g st cs fo se : Nat) (S : Nat → Int64) (ht hy : Nat → Nat) (n : Nat) (pp : Nat) (hd : Dm w h) (hht : ∀ j, ht j ≤ h) (hn : n ≤ w * h) (hp : pp ≤ 1) (hip : ipB (nI pp) = true) : Met l yX4_open wsX4_open (k2_rm 2 52) (RPc D [.ref x, .int (nI pp)] (xW cI cJ w h x sn hs hi g st cs fo se S ht hy n) (tyA cI cJ cZ)) (k2_QcV (.int (nI (clN h (allL h w &&& (S (1 - pp) ^^^ (-1))))))) 0 0 (fun _ => False) := by
  refine ro_head (cc := cX4_open) (maxL := 2) (ret := (some .int)) (by decide) rfl (Nat.le_of_ble_eq_true rfl) ?_
  intro p e s m below meth cd ls hx hb hr hlocks hts hown hml hP hK hN hl
  have hl : lv_has ls 2 [(0, .ref x), (1, .int (nI pp))] := hl
  have hd0 := hd
  obtain ⟨h3w, hw9, h3h, hh7, hwh, h64⟩ := hd0
  refine lv_iload_n hx hb dX4_open_0 rfl (lv_at hl 1 rfl) ?_
  refine ro_call (W.runS (As := [.int (nI pp)]) (rest := []) ⟨hx, hb, hml, hown, hts⟩ (c_isPlayer l D cI cJ cZ (nI pp)) (va_cwS 1 hts gX4_open_X4_isPlayer rfl rfl rfl (by decide +kernel) ⟨Nat.le_of_ble_eq_true rfl, Nat.le_of_ble_eq_true rfl⟩) ⟨RPc.blind, (RPc.at (hP.sub [] rfl) hK hN)⟩ rfl rfl hl.1 rfl (lv_room (Nat.le_of_ble_eq_true rfl)) dX4_open_1 ⟨Nat.zero_le _, Nat.zero_le _⟩) ?_
  refine b_if_ne (tgt := 17) hx hb dX4_open_4 (by decide) (fun c4_1 => ?_) (fun c4_1 => ?_)
  · skip
    refine lv_aload_n hx hb dX4_open_17 rfl (lv_at hl 0 rfl) ?_
    refine va_get (C := RX4) (T := TX4) (N := 7) hx hb hts (by decide +kernel) hown hK hP 0 rfl rfl 0 (by decide) (hts (.fieldLink RX4 26 RX4 "grid" "LDropFour$Grid;") (by decide +kernel)) (fun _ h9 => h9) rfl dX4_open_18 ?_
    refine lv_aload_n hx hb dX4_open_21 rfl (lv_at hl 0 rfl) ?_
    refine va_get (C := RX4) (T := TX4) (N := 7) hx hb hts (by decide +kernel) hown hK hP 0 rfl rfl 0 (by decide) (hts (.fieldLink RX4 26 RX4 "grid" "LDropFour$Grid;") (by decide +kernel)) (fun _ h9 => h9) rfl dX4_open_22 ?_
    refine va_getN (C := RX1) (T := TX1) (N := 6) hx hb hts (by decide +kernel) hown hK hP 4 rfl rfl 2 (by decide) (hN.use 10 rfl rfl) (fun _ h9 => h9) rfl dX4_open_25 ?_
    refine lv_aload_n hx hb dX4_open_28 rfl (lv_at hl 0 rfl) ?_
    refine va_get (C := RX4) (T := TX4) (N := 7) hx hb hts (by decide +kernel) hown hK hP 0 rfl rfl 3 (by decide) (hts (.fieldLink RX4 7 RX4 "stones" "[J") (by decide +kernel)) (fun _ h9 => h9) rfl dX4_open_29 ?_
    refine lv_iconst (v := nI 1) hx hb dX4_open_32 (by decide) ?_
    refine lv_iload_n hx hb dX4_open_33 rfl (lv_at hl 1 rfl) ?_
    refine n_isub hx hb dX4_open_34 (by omega) ?_
    refine n_lald hx hb hK hP 1 1 rfl rfl (by omega) (by omega) dX4_open_35 ?_
    refine lv_ldc2 (v := (-1)) hx hb hown (hts (.constantLong RX4 86 (-1)) (by decide +kernel)) dX4_open_36 ?_
    refine lv_lxor hx hb dX4_open_39 ?_
    refine lv_land hx hb dX4_open_40 ?_
    refine ro_call (W.runV (As := [.long ((allL h w) &&& ((S (1 - pp)) ^^^ (-1)))]) (rest := []) ⟨hx, hb, hml, hown, hts⟩ (c_countLines l D cI cJ cZ w h g st cs ((allL h w) &&& ((S (1 - pp)) ^^^ (-1)))) (cwV 1 hts gX4_open_X1_countLines rfl rfl rfl (by decide +kernel) ⟨Nat.le_of_ble_eq_true rfl, Nat.le_of_ble_eq_true rfl⟩) ⟨RPc.blind, va_recv hK hP (ci := 1) (q0 := 4) rfl rfl, (RPc.at (hP.sub [4, 5, 6] rfl) hK hN)⟩ rfl rfl hl.1 rfl (lv_room (Nat.le_of_ble_eq_true rfl)) dX4_open_41 ⟨Nat.zero_le _, Nat.zero_le _⟩) ?_
    exact ro_iret hx hb hr hlocks rfl dX4_open_44
  · exact absurd c4_1 (by rw [hip]; decide)

set_option maxHeartbeats 4000000 in
set_option maxRecDepth 100000 in
theorem p_threats (l : Launch) (D : va_G) (cI cJ cZ : ClassId) (w h x sn hs hi g st cs fo se : Nat) (S : Nat → Int64) (ht hy : Nat → Nat) (n : Nat) (pp : Nat) (hd : Dm w h) (hht : ∀ j, ht j ≤ h) (hn : n ≤ w * h) (hp : pp ≤ 1) (hip : ipB (nI pp) = true) : Met l yX4_threats wsX4_threats (k2_rm 2 60) (RPc D [.ref x, .int (nI pp)] (xW cI cJ w h x sn hs hi g st cs fo se S ht hy n) (tyA cI cJ cZ)) (k2_QcV (.int (nI (popN (thL w h (S pp) (S 0 ||| S 1)) 64)))) 0 0 (fun _ => False) := by
  refine ro_head (cc := cX4_threats) (maxL := 2) (ret := (some .int)) (by decide) rfl (Nat.le_of_ble_eq_true rfl) ?_
  intro p e s m below meth cd ls hx hb hr hlocks hts hown hml hP hK hN hl
  have hl : lv_has ls 2 [(0, .ref x), (1, .int (nI pp))] := hl
  have hd0 := hd
  obtain ⟨h3w, hw9, h3h, hh7, hwh, h64⟩ := hd0
  refine lv_iload_n hx hb dX4_threats_0 rfl (lv_at hl 1 rfl) ?_
  refine ro_call (W.runS (As := [.int (nI pp)]) (rest := []) ⟨hx, hb, hml, hown, hts⟩ (c_isPlayer l D cI cJ cZ (nI pp)) (va_cwS 1 hts gX4_threats_X4_isPlayer rfl rfl rfl (by decide +kernel) ⟨Nat.le_of_ble_eq_true rfl, Nat.le_of_ble_eq_true rfl⟩) ⟨RPc.blind, (RPc.at (hP.sub [] rfl) hK hN)⟩ rfl rfl hl.1 rfl (lv_room (Nat.le_of_ble_eq_true rfl)) dX4_threats_1 ⟨Nat.zero_le _, Nat.zero_le _⟩) ?_
  refine b_if_ne (tgt := 17) hx hb dX4_threats_4 (by decide) (fun c4_1 => ?_) (fun c4_1 => ?_)
  · skip
    refine lv_aload_n hx hb dX4_threats_17 rfl (lv_at hl 0 rfl) ?_
    refine va_get (C := RX4) (T := TX4) (N := 7) hx hb hts (by decide +kernel) hown hK hP 0 rfl rfl 0 (by decide) (hts (.fieldLink RX4 26 RX4 "grid" "LDropFour$Grid;") (by decide +kernel)) (fun _ h9 => h9) rfl dX4_threats_18 ?_
    refine lv_aload_n hx hb dX4_threats_21 rfl (lv_at hl 0 rfl) ?_
    refine va_get (C := RX4) (T := TX4) (N := 7) hx hb hts (by decide +kernel) hown hK hP 0 rfl rfl 3 (by decide) (hts (.fieldLink RX4 7 RX4 "stones" "[J") (by decide +kernel)) (fun _ h9 => h9) rfl dX4_threats_22 ?_
    refine lv_iload_n hx hb dX4_threats_25 rfl (lv_at hl 1 rfl) ?_
    refine n_lald hx hb hK hP 1 1 rfl rfl (by omega) (by omega) dX4_threats_26 ?_
    refine lv_aload_n hx hb dX4_threats_27 rfl (lv_at hl 0 rfl) ?_
    refine ro_call (W.runV (As := []) (rest := [.long (S pp), .ref g]) ⟨hx, hb, hml, hown, hts⟩ (c_taken l D cI cJ cZ w h x sn hs hi g st cs fo se S ht hy n hd hht hn) (cwV 0 hts gX4_threats_X4_taken rfl rfl rfl (by decide +kernel) ⟨Nat.le_of_ble_eq_true rfl, Nat.le_of_ble_eq_true rfl⟩) ⟨RPc.blind, va_recv hK hP (ci := 4) (q0 := 0) rfl rfl, (RPc.at (hP.sub [0, 1, 2, 3, 4, 5, 6] rfl) hK hN)⟩ rfl rfl hl.1 rfl (lv_room (Nat.le_of_ble_eq_true rfl)) dX4_threats_28 ⟨Nat.zero_le _, Nat.zero_le _⟩) ?_
    refine ro_call (W.runV (As := [.long (S pp), .long (S 0 ||| S 1)]) (rest := []) ⟨hx, hb, hml, hown, hts⟩ (c_threatSquares l D cI cJ cZ w h g st cs (S pp) (S 0 ||| S 1)) (cwV 2 hts gX4_threats_X1_threatSquares rfl rfl rfl (by decide +kernel) ⟨Nat.le_of_ble_eq_true rfl, Nat.le_of_ble_eq_true rfl⟩) ⟨RPc.blind, va_recv hK hP (ci := 1) (q0 := 4) rfl rfl, (RPc.at (hP.sub [4, 5, 6] rfl) hK hN)⟩ rfl rfl hl.1 rfl (lv_room (Nat.le_of_ble_eq_true rfl)) dX4_threats_31 ⟨Nat.zero_le _, Nat.zero_le _⟩) ?_
    refine ro_call (W.runS (As := [.long (thL w h (S pp) (S 0 ||| S 1))]) (rest := []) ⟨hx, hb, hml, hown, hts⟩ (c_bitCount l D cI cJ cZ (thL w h (S pp) (S 0 ||| S 1))) (va_cwS 1 hts gX4_threats_J13_bitCount_95d88 rfl rfl rfl (by decide +kernel) ⟨Nat.le_of_ble_eq_true rfl, Nat.le_of_ble_eq_true rfl⟩) ⟨RPc.blind, (RPc.at (hP.sub [] rfl) hK hN)⟩ rfl rfl hl.1 rfl (lv_room (Nat.le_of_ble_eq_true rfl)) dX4_threats_34 ⟨Nat.zero_le _, Nat.zero_le _⟩) ?_
    exact ro_iret hx hb hr hlocks rfl dX4_threats_37
  · exact absurd c4_1 (by rw [hip]; decide)
