theorem ov_t {w h : Nat} {S : Nat → Int64} {n : Nat} (q : ¬ wnI w h S n = -1) : ovB w h S n = true := by
  unfold wnI at q; unfold ovB
  split at q
  · simp [*]
  · split at q
    · simp [*]
    · split at q
      · simp [*]
      · exact absurd rfl q
theorem ov_f {w h : Nat} {S : Nat → Int64} {n : Nat} (q : wnI w h S n = -1) : ovB w h S n = false := by
  unfold wnI at q; unfold ovB
  split at q
  · exact absurd q (by decide)
  · split at q
    · exact absurd q (by decide)
    · split at q
      · exact absurd q (by decide)
      · simp [*]
set_option maxHeartbeats 4000000 in
set_option maxRecDepth 100000 in
theorem c_turn (l : Launch) (D : va_G) (cI cJ cZ : ClassId) (w h x sn hs hi g st cs fo se : Nat) (S : Nat → Int64) (ht hy : Nat → Nat) (n : Nat) (hd : Dm w h) (hht : ∀ j, ht j ≤ h) (hn : n ≤ w * h) : Met l yX4_turn wsX4_turn (k2_rm 0 0) (RPc D [.ref x] (xW cI cJ w h x sn hs hi g st cs fo se S ht hy n) (tyA cI cJ cZ)) (k2_QcV (.int (nI (n % 2)))) 0 0 (fun _ => False) := by
  refine ro_head (cc := cX4_turn) (maxL := 1) (ret := (some .int)) (by decide) rfl (Nat.le_of_ble_eq_true rfl) ?_
  intro p e s m below meth cd ls hx hb hr hlocks hts hown hml hP hK hN hl
  have hl : lv_has ls 1 [(0, .ref x)] := hl
  obtain ⟨h3w, hw9, h3h, hh7, hwh, h64⟩ := hd
  refine lv_aload_n hx hb dX4_turn_0 rfl (lv_at hl 0 rfl) ?_
  refine va_get (C := RX4) (T := TX4) (N := 7) hx hb hts (by decide +kernel) hown hK hP 0 rfl rfl 6 (by decide) (hts (.fieldLink RX4 13 RX4 "count" "I") (by decide +kernel)) (fun _ h9 => h9) rfl dX4_turn_1 ?_
  refine lv_iconst (v := nI 2) hx hb dX4_turn_4 (by decide) ?_
  refine n_irem hx hb dX4_turn_5 (by omega) (by omega) (by omega) ?_
  exact ro_iret hx hb hr hlocks rfl dX4_turn_6

set_option maxHeartbeats 4000000 in
set_option maxRecDepth 100000 in
theorem c_empty (l : Launch) (D : va_G) (cI cJ cZ : ClassId) (w h x sn hs hi g st cs fo se : Nat) (S : Nat → Int64) (ht hy : Nat → Nat) (n : Nat) (hd : Dm w h) (hht : ∀ j, ht j ≤ h) (hn : n ≤ w * h) : Met l yX4_empty wsX4_empty (k2_rm 0 0) (RPc D [.ref x] (xW cI cJ w h x sn hs hi g st cs fo se S ht hy n) (tyA cI cJ cZ)) (k2_QcV (.int (nI (w * h - n)))) 0 0 (fun _ => False) := by
  refine ro_head (cc := cX4_empty) (maxL := 1) (ret := (some .int)) (by decide) rfl (Nat.le_of_ble_eq_true rfl) ?_
  intro p e s m below meth cd ls hx hb hr hlocks hts hown hml hP hK hN hl
  have hl : lv_has ls 1 [(0, .ref x)] := hl
  obtain ⟨h3w, hw9, h3h, hh7, hwh, h64⟩ := hd
  refine lv_aload_n hx hb dX4_empty_0 rfl (lv_at hl 0 rfl) ?_
  refine va_get (C := RX4) (T := TX4) (N := 7) hx hb hts (by decide +kernel) hown hK hP 0 rfl rfl 5 (by decide) (hts (.fieldLink RX4 50 RX4 "history" "[I") (by decide +kernel)) (fun _ h9 => h9) rfl dX4_empty_1 ?_
  refine va_alen hx hb hK hP 3 0 rfl rfl (v := nI (w * h)) rfl dX4_empty_4 ?_
  refine lv_aload_n hx hb dX4_empty_5 rfl (lv_at hl 0 rfl) ?_
  refine va_get (C := RX4) (T := TX4) (N := 7) hx hb hts (by decide +kernel) hown hK hP 0 rfl rfl 6 (by decide) (hts (.fieldLink RX4 13 RX4 "count" "I") (by decide +kernel)) (fun _ h9 => h9) rfl dX4_empty_6 ?_
  refine n_isub hx hb dX4_empty_9 (by omega) ?_
  exact ro_iret hx hb hr hlocks rfl dX4_empty_10

set_option maxHeartbeats 4000000 in
set_option maxRecDepth 100000 in
theorem c_mine (l : Launch) (D : va_G) (cI cJ cZ : ClassId) (w h x sn hs hi g st cs fo se : Nat) (S : Nat → Int64) (ht hy : Nat → Nat) (n : Nat) (hd : Dm w h) (hht : ∀ j, ht j ≤ h) (hn : n ≤ w * h) : Met l yX4_mine wsX4_mine (k2_rm 1 20) (RPc D [.ref x] (xW cI cJ w h x sn hs hi g st cs fo se S ht hy n) (tyA cI cJ cZ)) (k2_QcV (.long (S (n % 2)))) 0 0 (fun _ => False) := by
  refine ro_head (cc := cX4_mine) (maxL := 1) (ret := (some .long)) (by decide) rfl (Nat.le_of_ble_eq_true rfl) ?_
  intro p e s m below meth cd ls hx hb hr hlocks hts hown hml hP hK hN hl
  have hl : lv_has ls 1 [(0, .ref x)] := hl
  have hd0 := hd
  obtain ⟨h3w, hw9, h3h, hh7, hwh, h64⟩ := hd0
  refine lv_aload_n hx hb dX4_mine_0 rfl (lv_at hl 0 rfl) ?_
  refine va_get (C := RX4) (T := TX4) (N := 7) hx hb hts (by decide +kernel) hown hK hP 0 rfl rfl 3 (by decide) (hts (.fieldLink RX4 7 RX4 "stones" "[J") (by decide +kernel)) (fun _ h9 => h9) rfl dX4_mine_1 ?_
  refine lv_aload_n hx hb dX4_mine_4 rfl (lv_at hl 0 rfl) ?_
  refine ro_call (W.runV (As := []) (rest := [.ref sn]) ⟨hx, hb, hml, hown, hts⟩ (c_turn l D cI cJ cZ w h x sn hs hi g st cs fo se S ht hy n hd hht hn) (cwV 0 hts gX4_mine_X4_turn rfl rfl rfl (by decide +kernel) ⟨Nat.le_of_ble_eq_true rfl, Nat.le_of_ble_eq_true rfl⟩) ⟨RPc.blind, va_recv hK hP (ci := 4) (q0 := 0) rfl rfl, (RPc.at (hP.sub [0, 1, 2, 3, 4, 5, 6] rfl) hK hN)⟩ rfl rfl hl.1 rfl (lv_room (Nat.le_of_ble_eq_true rfl)) dX4_mine_5 ⟨Nat.zero_le _, Nat.zero_le _⟩) ?_
  refine n_lald hx hb hK hP 1 1 rfl rfl (by omega) (by omega) dX4_mine_8 ?_
  exact ro_lret hx hb hr hlocks rfl dX4_mine_9

set_option maxHeartbeats 4000000 in
set_option maxRecDepth 100000 in
theorem c_theirs (l : Launch) (D : va_G) (cI cJ cZ : ClassId) (w h x sn hs hi g st cs fo se : Nat) (S : Nat → Int64) (ht hy : Nat → Nat) (n : Nat) (hd : Dm w h) (hht : ∀ j, ht j ≤ h) (hn : n ≤ w * h) : Met l yX4_theirs wsX4_theirs (k2_rm 1 20) (RPc D [.ref x] (xW cI cJ w h x sn hs hi g st cs fo se S ht hy n) (tyA cI cJ cZ)) (k2_QcV (.long (S (1 - n % 2)))) 0 0 (fun _ => False) := by
  refine ro_head (cc := cX4_theirs) (maxL := 1) (ret := (some .long)) (by decide) rfl (Nat.le_of_ble_eq_true rfl) ?_
  intro p e s m below meth cd ls hx hb hr hlocks hts hown hml hP hK hN hl
  have hl : lv_has ls 1 [(0, .ref x)] := hl
  have hd0 := hd
  obtain ⟨h3w, hw9, h3h, hh7, hwh, h64⟩ := hd0
  refine lv_aload_n hx hb dX4_theirs_0 rfl (lv_at hl 0 rfl) ?_
  refine va_get (C := RX4) (T := TX4) (N := 7) hx hb hts (by decide +kernel) hown hK hP 0 rfl rfl 3 (by decide) (hts (.fieldLink RX4 7 RX4 "stones" "[J") (by decide +kernel)) (fun _ h9 => h9) rfl dX4_theirs_1 ?_
  refine lv_iconst (v := nI 1) hx hb dX4_theirs_4 (by decide) ?_
  refine lv_aload_n hx hb dX4_theirs_5 rfl (lv_at hl 0 rfl) ?_
  refine ro_call (W.runV (As := []) (rest := [.int (nI 1), .ref sn]) ⟨hx, hb, hml, hown, hts⟩ (c_turn l D cI cJ cZ w h x sn hs hi g st cs fo se S ht hy n hd hht hn) (cwV 0 hts gX4_theirs_X4_turn rfl rfl rfl (by decide +kernel) ⟨Nat.le_of_ble_eq_true rfl, Nat.le_of_ble_eq_true rfl⟩) ⟨RPc.blind, va_recv hK hP (ci := 4) (q0 := 0) rfl rfl, (RPc.at (hP.sub [0, 1, 2, 3, 4, 5, 6] rfl) hK hN)⟩ rfl rfl hl.1 rfl (lv_room (Nat.le_of_ble_eq_true rfl)) dX4_theirs_6 ⟨Nat.zero_le _, Nat.zero_le _⟩) ?_
  refine n_isub hx hb dX4_theirs_9 (by omega) ?_
  refine n_lald hx hb hK hP 1 1 rfl rfl (by omega) (by omega) dX4_theirs_10 ?_
  exact ro_lret hx hb hr hlocks rfl dX4_theirs_11

set_option maxHeartbeats 4000000 in
set_option maxRecDepth 100000 in
theorem c_taken (l : Launch) (D : va_G) (cI cJ cZ : ClassId) (w h x sn hs hi g st cs fo se : Nat) (S : Nat → Int64) (ht hy : Nat → Nat) (n : Nat) (hd : Dm w h) (hht : ∀ j, ht j ≤ h) (hn : n ≤ w * h) : Met l yX4_taken wsX4_taken (k2_rm 0 0) (RPc D [.ref x] (xW cI cJ w h x sn hs hi g st cs fo se S ht hy n) (tyA cI cJ cZ)) (k2_QcV (.long (S 0 ||| S 1))) 0 0 (fun _ => False) := by
  refine ro_head (cc := cX4_taken) (maxL := 1) (ret := (some .long)) (by decide) rfl (Nat.le_of_ble_eq_true rfl) ?_
  intro p e s m below meth cd ls hx hb hr hlocks hts hown hml hP hK hN hl
  have hl : lv_has ls 1 [(0, .ref x)] := hl
  have hd0 := hd
  obtain ⟨h3w, hw9, h3h, hh7, hwh, h64⟩ := hd0
  refine lv_aload_n hx hb dX4_taken_0 rfl (lv_at hl 0 rfl) ?_
  refine va_get (C := RX4) (T := TX4) (N := 7) hx hb hts (by decide +kernel) hown hK hP 0 rfl rfl 3 (by decide) (hts (.fieldLink RX4 7 RX4 "stones" "[J") (by decide +kernel)) (fun _ h9 => h9) rfl dX4_taken_1 ?_
  refine lv_iconst (v := nI 0) hx hb dX4_taken_4 (by decide) ?_
  refine n_lald hx hb hK hP 1 1 rfl rfl (by omega) (by omega) dX4_taken_5 ?_
  refine lv_aload_n hx hb dX4_taken_6 rfl (lv_at hl 0 rfl) ?_
  refine va_get (C := RX4) (T := TX4) (N := 7) hx hb hts (by decide +kernel) hown hK hP 0 rfl rfl 3 (by decide) (hts (.fieldLink RX4 7 RX4 "stones" "[J") (by decide +kernel)) (fun _ h9 => h9) rfl dX4_taken_7 ?_
  refine lv_iconst (v := nI 1) hx hb dX4_taken_10 (by decide) ?_
  refine n_lald hx hb hK hP 1 1 rfl rfl (by omega) (by omega) dX4_taken_11 ?_
  refine lv_lor hx hb dX4_taken_12 ?_
  exact ro_lret hx hb hr hlocks rfl dX4_taken_13

set_option maxHeartbeats 4000000 in
set_option maxRecDepth 100000 in
theorem c_isColumn (l : Launch) (D : va_G) (cI cJ cZ : ClassId) (w h x sn hs hi g st cs fo se : Nat) (S : Nat → Int64) (ht hy : Nat → Nat) (n : Nat) (k : Int32) (hd : Dm w h) (hht : ∀ j, ht j ≤ h) (hn : n ≤ w * h) : Met l yX4_isColumn wsX4_isColumn (k2_rm 0 0) (RPc D [.ref x, .int k] (xW cI cJ w h x sn hs hi g st cs fo se S ht hy n) (tyA cI cJ cZ)) (k2_QcV (.int (bI (icB w k)))) 0 0 (fun _ => False) := by
  refine ro_head (cc := cX4_isColumn) (maxL := 2) (ret := (some .boolean)) (by decide) rfl (Nat.le_of_ble_eq_true rfl) ?_
  intro p e s m below meth cd ls hx hb hr hlocks hts hown hml hP hK hN hl
  have hl : lv_has ls 2 [(0, .ref x), (1, .int k)] := hl
  have hd0 := hd
  obtain ⟨h3w, hw9, h3h, hh7, hwh, h64⟩ := hd0
  refine lv_iload_n hx hb dX4_isColumn_0 rfl (lv_at hl 1 rfl) ?_
  refine lv_if_lt (tgt := 19) hx hb dX4_isColumn_1 (by decide) (fun c1_1 => ?_) (fun c1_1 => ?_)
  · skip
    refine lv_iconst (v := nI 0) hx hb dX4_isColumn_19 (by decide) ?_
    exact ro_zret hx hb hr hlocks (by first | rfl | exact bI_nar _) (by rw [show icB w k = false by simp [icB, c1_1]]; rfl) dX4_isColumn_20
  refine lv_iload_n hx hb dX4_isColumn_4 rfl (lv_at hl 1 rfl) ?_
  refine lv_aload_n hx hb dX4_isColumn_5 rfl (lv_at hl 0 rfl) ?_
  refine va_get (C := RX4) (T := TX4) (N := 7) hx hb hts (by decide +kernel) hown hK hP 0 rfl rfl 0 (by decide) (hts (.fieldLink RX4 26 RX4 "grid" "LDropFour$Grid;") (by decide +kernel)) (fun _ h9 => h9) rfl dX4_isColumn_6 ?_
  refine va_getN (C := RX1) (T := TX1) (N := 6) hx hb hts (by decide +kernel) hown hK hP 4 rfl rfl 0 (by decide) (hN.use 9 rfl rfl) (fun _ h9 => h9) rfl dX4_isColumn_9 ?_
  refine lv_icmp_ge (tgt := 19) hx hb dX4_isColumn_12 (by decide) (fun c12_2 => ?_) (fun c12_2 => ?_)
  · skip
    refine lv_iconst (v := nI 0) hx hb dX4_isColumn_19 (by decide) ?_
    exact ro_zret hx hb hr hlocks (by first | rfl | exact bI_nar _) (by rw [show icB w k = false by simp [icB, c1_1, c12_2]]; rfl) dX4_isColumn_20
  refine lv_iconst (v := nI 1) hx hb dX4_isColumn_15 (by decide) ?_
  refine lv_goto (tgt := 20) hx hb dX4_isColumn_16 (by decide) ?_
  exact ro_zret hx hb hr hlocks (by first | rfl | exact bI_nar _) (by rw [show icB w k = true by simp [icB, c1_1, c12_2]]; rfl) dX4_isColumn_20

set_option maxHeartbeats 4000000 in
set_option maxRecDepth 100000 in
theorem c_isFull (l : Launch) (D : va_G) (cI cJ cZ : ClassId) (w h x sn hs hi g st cs fo se : Nat) (S : Nat → Int64) (ht hy : Nat → Nat) (n : Nat) (c : Nat) (hd : Dm w h) (hht : ∀ j, ht j ≤ h) (hn : n ≤ w * h) (hc : c < w) : Met l yX4_isFull wsX4_isFull (k2_rm 0 0) (RPc D [.ref x, .int (nI c)] (xW cI cJ w h x sn hs hi g st cs fo se S ht hy n) (tyA cI cJ cZ)) (k2_QcV (.int (bI (decide (h ≤ ht c))))) 0 0 (fun _ => False) := by
  refine ro_head (cc := cX4_isFull) (maxL := 2) (ret := (some .boolean)) (by decide) rfl (Nat.le_of_ble_eq_true rfl) ?_
  intro p e s m below meth cd ls hx hb hr hlocks hts hown hml hP hK hN hl
  have hl : lv_has ls 2 [(0, .ref x), (1, .int (nI c))] := hl
  have hd0 := hd
  obtain ⟨h3w, hw9, h3h, hh7, hwh, h64⟩ := hd0
  have hhc := hht c
  refine lv_aload_n hx hb dX4_isFull_0 rfl (lv_at hl 0 rfl) ?_
  refine va_get (C := RX4) (T := TX4) (N := 7) hx hb hts (by decide +kernel) hown hK hP 0 rfl rfl 4 (by decide) (hts (.fieldLink RX4 46 RX4 "heights" "[I") (by decide +kernel)) (fun _ h9 => h9) rfl dX4_isFull_1 ?_
  refine lv_iload_n hx hb dX4_isFull_4 rfl (lv_at hl 1 rfl) ?_
  refine n_iald hx hb hK hP 2 0 rfl rfl (by omega) (by omega) dX4_isFull_5 ?_
  refine lv_aload_n hx hb dX4_isFull_6 rfl (lv_at hl 0 rfl) ?_
  refine va_get (C := RX4) (T := TX4) (N := 7) hx hb hts (by decide +kernel) hown hK hP 0 rfl rfl 0 (by decide) (hts (.fieldLink RX4 26 RX4 "grid" "LDropFour$Grid;") (by decide +kernel)) (fun _ h9 => h9) rfl dX4_isFull_7 ?_
  refine va_getN (C := RX1) (T := TX1) (N := 6) hx hb hts (by decide +kernel) hown hK hP 4 rfl rfl 1 (by decide) (hN.use 8 rfl rfl) (fun _ h9 => h9) rfl dX4_isFull_10 ?_
  refine n_icmp_lt (tgt := 20) hx hb dX4_isFull_13 (by decide) (by omega) (by omega) (fun c13_1 => ?_) (fun c13_1 => ?_)
  · skip
    refine lv_iconst (v := nI 0) hx hb dX4_isFull_20 (by decide) ?_
    exact ro_zret hx hb hr hlocks (by first | rfl | exact bI_nar _) (by rw [show decide (h ≤ ht c) = false by simp [Nat.not_le, c13_1]]; rfl) dX4_isFull_21
  refine lv_iconst (v := nI 1) hx hb dX4_isFull_16 (by decide) ?_
  refine lv_goto (tgt := 21) hx hb dX4_isFull_17 (by decide) ?_
  exact ro_zret hx hb hr hlocks (by first | rfl | exact bI_nar _) (by rw [show decide (h ≤ ht c) = true by simp [Nat.not_le, c13_1]]; rfl) dX4_isFull_21

set_option maxHeartbeats 4000000 in
set_option maxRecDepth 100000 in
theorem c_winner (l : Launch) (D : va_G) (cI cJ cZ : ClassId) (w h x sn hs hi g st cs fo se : Nat) (S : Nat → Int64) (ht hy : Nat → Nat) (n : Nat) (hd : Dm w h) (hht : ∀ j, ht j ≤ h) (hn : n ≤ w * h) : Met l yX4_winner wsX4_winner (k2_rm 2 51) (RPc D [.ref x] (xW cI cJ w h x sn hs hi g st cs fo se S ht hy n) (tyA cI cJ cZ)) (k2_QcV (.int (wnI w h S n))) 0 0 (fun _ => False) := by
  refine ro_head (cc := cX4_winner) (maxL := 1) (ret := (some .int)) (by decide) rfl (Nat.le_of_ble_eq_true rfl) ?_
  intro p e s m below meth cd ls hx hb hr hlocks hts hown hml hP hK hN hl
  have hl : lv_has ls 1 [(0, .ref x)] := hl
  have hd0 := hd
  obtain ⟨h3w, hw9, h3h, hh7, hwh, h64⟩ := hd0
  refine lv_aload_n hx hb dX4_winner_0 rfl (lv_at hl 0 rfl) ?_
  refine va_get (C := RX4) (T := TX4) (N := 7) hx hb hts (by decide +kernel) hown hK hP 0 rfl rfl 0 (by decide) (hts (.fieldLink RX4 26 RX4 "grid" "LDropFour$Grid;") (by decide +kernel)) (fun _ h9 => h9) rfl dX4_winner_1 ?_
  refine lv_aload_n hx hb dX4_winner_4 rfl (lv_at hl 0 rfl) ?_
  refine va_get (C := RX4) (T := TX4) (N := 7) hx hb hts (by decide +kernel) hown hK hP 0 rfl rfl 3 (by decide) (hts (.fieldLink RX4 7 RX4 "stones" "[J") (by decide +kernel)) (fun _ h9 => h9) rfl dX4_winner_5 ?_
  refine lv_iconst (v := nI 0) hx hb dX4_winner_8 (by decide) ?_
  refine n_lald hx hb hK hP 1 1 rfl rfl (by omega) (by omega) dX4_winner_9 ?_
  refine ro_call (W.runV (As := [.long (S 0)]) (rest := []) ⟨hx, hb, hml, hown, hts⟩ (c_hasLine l D cI cJ cZ w h g st cs (S 0)) (cwV 1 hts gX4_winner_X1_hasLine rfl rfl rfl (by decide +kernel) ⟨Nat.le_of_ble_eq_true rfl, Nat.le_of_ble_eq_true rfl⟩) ⟨RPc.blind, va_recv hK hP (ci := 1) (q0 := 4) rfl rfl, (RPc.at (hP.sub [4, 5, 6] rfl) hK hN)⟩ rfl rfl hl.1 rfl (lv_room (Nat.le_of_ble_eq_true rfl)) dX4_winner_10 ⟨Nat.zero_le _, Nat.zero_le _⟩) ?_
  refine b_if_eq (tgt := 18) hx hb dX4_winner_13 (by decide) (fun c13_1 => ?_) (fun c13_1 => ?_)
  · skip
    refine lv_aload_n hx hb dX4_winner_18 rfl (lv_at hl 0 rfl) ?_
    refine va_get (C := RX4) (T := TX4) (N := 7) hx hb hts (by decide +kernel) hown hK hP 0 rfl rfl 0 (by decide) (hts (.fieldLink RX4 26 RX4 "grid" "LDropFour$Grid;") (by decide +kernel)) (fun _ h9 => h9) rfl dX4_winner_19 ?_
    refine lv_aload_n hx hb dX4_winner_22 rfl (lv_at hl 0 rfl) ?_
    refine va_get (C := RX4) (T := TX4) (N := 7) hx hb hts (by decide +kernel) hown hK hP 0 rfl rfl 3 (by decide) (hts (.fieldLink RX4 7 RX4 "stones" "[J") (by decide +kernel)) (fun _ h9 => h9) rfl dX4_winner_23 ?_
    refine lv_iconst (v := nI 1) hx hb dX4_winner_26 (by decide) ?_
    refine n_lald hx hb hK hP 1 1 rfl rfl (by omega) (by omega) dX4_winner_27 ?_
    refine ro_call (W.runV (As := [.long (S 1)]) (rest := []) ⟨hx, hb, hml, hown, hts⟩ (c_hasLine l D cI cJ cZ w h g st cs (S 1)) (cwV 1 hts gX4_winner_X1_hasLine rfl rfl rfl (by decide +kernel) ⟨Nat.le_of_ble_eq_true rfl, Nat.le_of_ble_eq_true rfl⟩) ⟨RPc.blind, va_recv hK hP (ci := 1) (q0 := 4) rfl rfl, (RPc.at (hP.sub [4, 5, 6] rfl) hK hN)⟩ rfl rfl hl.1 rfl (lv_room (Nat.le_of_ble_eq_true rfl)) dX4_winner_28 ⟨Nat.zero_le _, Nat.zero_le _⟩) ?_
    refine b_if_eq (tgt := 36) hx hb dX4_winner_31 (by decide) (fun c31_2 => ?_) (fun c31_2 => ?_)
    · skip
      refine lv_aload_n hx hb dX4_winner_36 rfl (lv_at hl 0 rfl) ?_
      refine ro_call (W.runV (As := []) (rest := []) ⟨hx, hb, hml, hown, hts⟩ (c_empty l D cI cJ cZ w h x sn hs hi g st cs fo se S ht hy n hd hht hn) (cwV 0 hts gX4_winner_X4_empty rfl rfl rfl (by decide +kernel) ⟨Nat.le_of_ble_eq_true rfl, Nat.le_of_ble_eq_true rfl⟩) ⟨RPc.blind, va_recv hK hP (ci := 4) (q0 := 0) rfl rfl, (RPc.at (hP.sub [0, 1, 2, 3, 4, 5, 6] rfl) hK hN)⟩ rfl rfl hl.1 rfl (lv_room (Nat.le_of_ble_eq_true rfl)) dX4_winner_37 ⟨Nat.zero_le _, Nat.zero_le _⟩) ?_
      refine n_if_ne (tgt := 47) hx hb dX4_winner_40 (by decide) (by omega) (fun c40_3 => ?_) (fun c40_3 => ?_)
      · skip
        refine lv_iconst (v := -1) hx hb dX4_winner_47 (by decide) ?_
        exact ro_iret hx hb hr hlocks (by simp [wnI, nI, c13_1, c31_2, c40_3]) dX4_winner_48
      refine lv_iconst (v := nI 2) hx hb dX4_winner_43 (by decide) ?_
      refine lv_goto (tgt := 48) hx hb dX4_winner_44 (by decide) ?_
      exact ro_iret hx hb hr hlocks (by simp [wnI, nI, c13_1, c31_2, c40_3]) dX4_winner_48
    refine lv_iconst (v := nI 1) hx hb dX4_winner_34 (by decide) ?_
    exact ro_iret hx hb hr hlocks (by simp [wnI, nI, c13_1, c31_2]) dX4_winner_35
  refine lv_iconst (v := nI 0) hx hb dX4_winner_16 (by decide) ?_
  exact ro_iret hx hb hr hlocks (by simp [wnI, nI, c13_1]) dX4_winner_17

set_option maxHeartbeats 4000000 in
set_option maxRecDepth 100000 in
theorem c_isOver (l : Launch) (D : va_G) (cI cJ cZ : ClassId) (w h x sn hs hi g st cs fo se : Nat) (S : Nat → Int64) (ht hy : Nat → Nat) (n : Nat) (hd : Dm w h) (hht : ∀ j, ht j ≤ h) (hn : n ≤ w * h) : Met l yX4_isOver wsX4_isOver (k2_rm 3 71) (RPc D [.ref x] (xW cI cJ w h x sn hs hi g st cs fo se S ht hy n) (tyA cI cJ cZ)) (k2_QcV (.int (bI (ovB w h S n)))) 0 0 (fun _ => False) := by
  refine ro_head (cc := cX4_isOver) (maxL := 1) (ret := (some .boolean)) (by decide) rfl (Nat.le_of_ble_eq_true rfl) ?_
  intro p e s m below meth cd ls hx hb hr hlocks hts hown hml hP hK hN hl
  have hl : lv_has ls 1 [(0, .ref x)] := hl
  have hd0 := hd
  obtain ⟨h3w, hw9, h3h, hh7, hwh, h64⟩ := hd0
  refine lv_aload_n hx hb dX4_isOver_0 rfl (lv_at hl 0 rfl) ?_
  refine ro_call (W.runV (As := []) (rest := []) ⟨hx, hb, hml, hown, hts⟩ (c_winner l D cI cJ cZ w h x sn hs hi g st cs fo se S ht hy n hd hht hn) (cwV 0 hts gX4_isOver_X4_winner rfl rfl rfl (by decide +kernel) ⟨Nat.le_of_ble_eq_true rfl, Nat.le_of_ble_eq_true rfl⟩) ⟨RPc.blind, va_recv hK hP (ci := 4) (q0 := 0) rfl rfl, (RPc.at (hP.sub [0, 1, 2, 3, 4, 5, 6] rfl) hK hN)⟩ rfl rfl hl.1 rfl (lv_room (Nat.le_of_ble_eq_true rfl)) dX4_isOver_1 ⟨Nat.zero_le _, Nat.zero_le _⟩) ?_
  refine lv_iconst (v := -1) hx hb dX4_isOver_4 (by decide) ?_
  refine lv_icmp_eq (tgt := 12) hx hb dX4_isOver_5 (by decide) (fun c5_1 => ?_) (fun c5_1 => ?_)
  · skip
    refine lv_iconst (v := nI 0) hx hb dX4_isOver_12 (by decide) ?_
    exact ro_zret hx hb hr hlocks (by first | rfl | exact bI_nar _) (by rw [show ovB w h S n = false from ov_f c5_1]; rfl) dX4_isOver_13
  refine lv_iconst (v := nI 1) hx hb dX4_isOver_8 (by decide) ?_
  refine lv_goto (tgt := 13) hx hb dX4_isOver_9 (by decide) ?_
  exact ro_zret hx hb hr hlocks (by first | rfl | exact bI_nar _) (by rw [show ovB w h S n = true from ov_t c5_1]; rfl) dX4_isOver_13

set_option maxHeartbeats 4000000 in
set_option maxRecDepth 100000 in
theorem c_canBeValued (l : Launch) (D : va_G) (cI cJ cZ : ClassId) (w h x sn hs hi g st cs fo se : Nat) (S : Nat → Int64) (ht hy : Nat → Nat) (n : Nat) (hd : Dm w h) (hht : ∀ j, ht j ≤ h) (hn : n ≤ w * h) : Met l yX4_canBeValued wsX4_canBeValued (k2_rm 4 91) (RPc D [.ref x] (xW cI cJ w h x sn hs hi g st cs fo se S ht hy n) (tyA cI cJ cZ)) (k2_QcV (.int (bI (cvB w h S n)))) 0 0 (fun _ => False) := by
  refine ro_head (cc := cX4_canBeValued) (maxL := 1) (ret := (some .boolean)) (by decide) rfl (Nat.le_of_ble_eq_true rfl) ?_
  intro p e s m below meth cd ls hx hb hr hlocks hts hown hml hP hK hN hl
  have hl : lv_has ls 1 [(0, .ref x)] := hl
  have hd0 := hd
  obtain ⟨h3w, hw9, h3h, hh7, hwh, h64⟩ := hd0
  refine lv_aload_n hx hb dX4_canBeValued_0 rfl (lv_at hl 0 rfl) ?_
  refine ro_call (W.runV (As := []) (rest := []) ⟨hx, hb, hml, hown, hts⟩ (c_empty l D cI cJ cZ w h x sn hs hi g st cs fo se S ht hy n hd hht hn) (cwV 0 hts gX4_canBeValued_X4_empty rfl rfl rfl (by decide +kernel) ⟨Nat.le_of_ble_eq_true rfl, Nat.le_of_ble_eq_true rfl⟩) ⟨RPc.blind, va_recv hK hP (ci := 4) (q0 := 0) rfl rfl, (RPc.at (hP.sub [0, 1, 2, 3, 4, 5, 6] rfl) hK hN)⟩ rfl rfl hl.1 rfl (lv_room (Nat.le_of_ble_eq_true rfl)) dX4_canBeValued_1 ⟨Nat.zero_le _, Nat.zero_le _⟩) ?_
  refine lv_bipush (v := nI 12) hx hb dX4_canBeValued_4 (by decide) ?_
  refine n_icmp_gt (tgt := 20) hx hb dX4_canBeValued_6 (by decide) (by omega) (by omega) (fun c6_1 => ?_) (fun c6_1 => ?_)
  · skip
    refine lv_iconst (v := nI 0) hx hb dX4_canBeValued_20 (by decide) ?_
    exact ro_zret hx hb hr hlocks (by first | rfl | exact bI_nar _) (by unfold cvB; rw [decide_eq_false (show ¬ w * h - n ≤ 12 by omega)]; rfl) dX4_canBeValued_21
  refine lv_aload_n hx hb dX4_canBeValued_9 rfl (lv_at hl 0 rfl) ?_
  refine ro_call (W.runV (As := []) (rest := []) ⟨hx, hb, hml, hown, hts⟩ (c_isOver l D cI cJ cZ w h x sn hs hi g st cs fo se S ht hy n hd hht hn) (cwV 0 hts gX4_canBeValued_X4_isOver rfl rfl rfl (by decide +kernel) ⟨Nat.le_of_ble_eq_true rfl, Nat.le_of_ble_eq_true rfl⟩) ⟨RPc.blind, va_recv hK hP (ci := 4) (q0 := 0) rfl rfl, (RPc.at (hP.sub [0, 1, 2, 3, 4, 5, 6] rfl) hK hN)⟩ rfl rfl hl.1 rfl (lv_room (Nat.le_of_ble_eq_true rfl)) dX4_canBeValued_10 ⟨Nat.zero_le _, Nat.zero_le _⟩) ?_
  refine b_if_ne (tgt := 20) hx hb dX4_canBeValued_13 (by decide) (fun c13_2 => ?_) (fun c13_2 => ?_)
  · skip
    refine lv_iconst (v := nI 0) hx hb dX4_canBeValued_20 (by decide) ?_
    exact ro_zret hx hb hr hlocks (by first | rfl | exact bI_nar _) (by unfold cvB; rw [c13_2]; cases decide (w * h - n ≤ 12) <;> rfl) dX4_canBeValued_21
  refine lv_iconst (v := nI 1) hx hb dX4_canBeValued_16 (by decide) ?_
  refine lv_goto (tgt := 21) hx hb dX4_canBeValued_17 (by decide) ?_
  exact ro_zret hx hb hr hlocks (by first | rfl | exact bI_nar _) (by unfold cvB; rw [decide_eq_true (show w * h - n ≤ 12 by omega), c13_2]; rfl) dX4_canBeValued_21

set_option maxHeartbeats 4000000 in
set_option maxRecDepth 100000 in
theorem c_canFollow (l : Launch) (D : va_G) (cI cJ cZ : ClassId) (w h x sn hs hi g st cs fo se : Nat) (S : Nat → Int64) (ht hy : Nat → Nat) (n : Nat) (hd : Dm w h) (hht : ∀ j, ht j ≤ h) (hn : n ≤ w * h) : Met l yX4_canFollow wsX4_canFollow (k2_rm 0 0) (RPc D [.ref x] (xW cI cJ w h x sn hs hi g st cs fo se S ht hy n) (tyA cI cJ cZ)) (k2_QcV (.int (bI (evB h ht w)))) 0 0 (fun _ => False) := by
  refine ro_head (cc := cX4_canFollow) (maxL := 2) (ret := (some .boolean)) (by decide) rfl (Nat.le_of_ble_eq_true rfl) ?_
  intro p e s m below meth cd ls hx hb hr hlocks hts hown hml hP hK hN hl
  have hl : lv_has ls 2 [(0, .ref x)] := hl
  have hd0 := hd
  obtain ⟨h3w, hw9, h3h, hh7, hwh, h64⟩ := hd0
  refine lv_iconst (v := nI 0) hx hb dX4_canFollow_0 (by decide) ?_
  refine lv_istore_n (lv' := [(1, .int (nI 0)), (0, .ref x)]) hx hb dX4_canFollow_1 rfl hl (by decide) rfl (fun ls hl => ?_)
  refine loopW (σ := Unit) (m := m) 2 2 (fun i qx => [(0, .ref x), (1, .int (nI i))]) (fun i qx => evB h ht i = true) w ?_ ?_ 0 () ls (by omega) rfl (lv_sub hl [1, 0] rfl)
  · intro i qx ls hi_2 hI_2 hl ih_2
    have hl : lv_has ls 2 [(0, .ref x), (1, .int (nI i))] := hl
    have hI_2 : evB h ht i = true := hI_2
    refine lv_iload_n hx hb dX4_canFollow_2 rfl (lv_at hl 1 rfl) ?_
    refine lv_aload_n hx hb dX4_canFollow_3 rfl (lv_at hl 0 rfl) ?_
    refine va_get (C := RX4) (T := TX4) (N := 7) hx hb hts (by decide +kernel) hown hK hP 0 rfl rfl 0 (by decide) (hts (.fieldLink RX4 26 RX4 "grid" "LDropFour$Grid;") (by decide +kernel)) (fun _ h9 => h9) rfl dX4_canFollow_4 ?_
    refine va_getN (C := RX1) (T := TX1) (N := 6) hx hb hts (by decide +kernel) hown hK hP 4 rfl rfl 0 (by decide) (hN.use 9 rfl rfl) (fun _ h9 => h9) rfl dX4_canFollow_7 ?_
    refine n_icmp_ge (tgt := 40) hx hb dX4_canFollow_10 (by decide) (by omega) (by omega) (fun c10_1 => ?_) (fun c10_1 => ?_)
    · exact absurd c10_1 (by omega)
    refine lv_aload_n hx hb dX4_canFollow_13 rfl (lv_at hl 0 rfl) ?_
    refine va_get (C := RX4) (T := TX4) (N := 7) hx hb hts (by decide +kernel) hown hK hP 0 rfl rfl 0 (by decide) (hts (.fieldLink RX4 26 RX4 "grid" "LDropFour$Grid;") (by decide +kernel)) (fun _ h9 => h9) rfl dX4_canFollow_14 ?_
    refine va_getN (C := RX1) (T := TX1) (N := 6) hx hb hts (by decide +kernel) hown hK hP 4 rfl rfl 1 (by decide) (hN.use 8 rfl rfl) (fun _ h9 => h9) rfl dX4_canFollow_17 ?_
    refine lv_aload_n hx hb dX4_canFollow_20 rfl (lv_at hl 0 rfl) ?_
    refine va_get (C := RX4) (T := TX4) (N := 7) hx hb hts (by decide +kernel) hown hK hP 0 rfl rfl 4 (by decide) (hts (.fieldLink RX4 46 RX4 "heights" "[I") (by decide +kernel)) (fun _ h9 => h9) rfl dX4_canFollow_21 ?_
    refine lv_iload_n hx hb dX4_canFollow_24 rfl (lv_at hl 1 rfl) ?_
    refine n_iald hx hb hK hP 2 0 rfl rfl (by omega) (by omega) dX4_canFollow_25 ?_
    refine n_isub hx hb dX4_canFollow_26 (hht i) ?_
    refine lv_iconst (v := nI 2) hx hb dX4_canFollow_27 (by decide) ?_
    refine n_irem hx hb dX4_canFollow_28 (by omega) (by omega) (by omega) ?_
    refine n_if_eq (tgt := 34) hx hb dX4_canFollow_29 (by decide) (by omega) (fun c29_2 => ?_) (fun c29_2 => ?_)
    · skip
      refine n_iinc (n := 1) (lv' := [(1, .int (nI (i + 1))), (0, .ref x)]) hx hb dX4_canFollow_34 hl (k := 1) rfl (by decide) rfl (fun ls hl => ?_)
      refine lv_goto (tgt := 2) hx hb dX4_canFollow_37 (by decide) ?_
      exact ih_2 () ls (by unfold evB; rw [hI_2]; simp [c29_2]) (lv_sub hl [1, 0] rfl)
    refine lv_iconst (v := nI 0) hx hb dX4_canFollow_32 (by decide) ?_
    exact ro_zret hx hb hr hlocks (by first | rfl | exact bI_nar _) (by rw [evB_no c29_2 hi_2]; rfl) dX4_canFollow_33
  · intro qx ls hI_2 hl
    have hl : lv_has ls 2 [(0, .ref x), (1, .int (nI w))] := hl
    have hI_2 : evB h ht w = true := hI_2
    refine lv_iload_n hx hb dX4_canFollow_2 rfl (lv_at hl 1 rfl) ?_
    refine lv_aload_n hx hb dX4_canFollow_3 rfl (lv_at hl 0 rfl) ?_
    refine va_get (C := RX4) (T := TX4) (N := 7) hx hb hts (by decide +kernel) hown hK hP 0 rfl rfl 0 (by decide) (hts (.fieldLink RX4 26 RX4 "grid" "LDropFour$Grid;") (by decide +kernel)) (fun _ h9 => h9) rfl dX4_canFollow_4 ?_
    refine va_getN (C := RX1) (T := TX1) (N := 6) hx hb hts (by decide +kernel) hown hK hP 4 rfl rfl 0 (by decide) (hN.use 9 rfl rfl) (fun _ h9 => h9) rfl dX4_canFollow_7 ?_
    refine n_icmp_ge (tgt := 40) hx hb dX4_canFollow_10 (by decide) (by omega) (by omega) (fun c10_3 => ?_) (fun c10_3 => ?_)
    · skip
      refine lv_iconst (v := nI 1) hx hb dX4_canFollow_40 (by decide) ?_
      exact ro_zret hx hb hr hlocks (by first | rfl | exact bI_nar _) (by rw [hI_2]; rfl) dX4_canFollow_41
    · exact absurd c10_3 (by omega)

set_option maxHeartbeats 4000000 in
set_option maxRecDepth 100000 in
theorem c_isPlayer (l : Launch) (D : va_G) (cI cJ cZ : ClassId) (k : Int32) : Met l yX4_isPlayer wsX4_isPlayer (k2_rm 0 0) (RPc D [.int k] [] (tyA cI cJ cZ)) (k2_QcV (.int (bI (ipB k)))) 0 0 (fun _ => False) := by
  refine ro_head (cc := cX4_isPlayer) (maxL := 1) (ret := (some .boolean)) (by decide) rfl (Nat.le_of_ble_eq_true rfl) ?_
  intro p e s m below meth cd ls hx hb hr hlocks hts hown hml hP hK hN hl
  have hl : lv_has ls 1 [(0, .int k)] := hl
  refine lv_iload_n hx hb dX4_isPlayer_0 rfl (lv_at hl 0 rfl) ?_
  refine lv_if_eq (tgt := 9) hx hb dX4_isPlayer_1 (by decide) (fun c1_1 => ?_) (fun c1_1 => ?_)
  · skip
    refine lv_iconst (v := nI 1) hx hb dX4_isPlayer_9 (by decide) ?_
    refine lv_goto (tgt := 14) hx hb dX4_isPlayer_10 (by decide) ?_
    exact ro_zret hx hb hr hlocks (by first | rfl | exact bI_nar _) (by rw [show ipB k = true by simp [ipB, c1_1]]; rfl) dX4_isPlayer_14
  refine lv_iload_n hx hb dX4_isPlayer_4 rfl (lv_at hl 0 rfl) ?_
  refine lv_iconst (v := nI 1) hx hb dX4_isPlayer_5 (by decide) ?_
  refine lv_icmp_ne (tgt := 13) hx hb dX4_isPlayer_6 (by decide) (fun c6_2 => ?_) (fun c6_2 => ?_)
  · skip
    refine lv_iconst (v := nI 0) hx hb dX4_isPlayer_13 (by decide) ?_
    exact ro_zret hx hb hr hlocks (by first | rfl | exact bI_nar _) (by have q1 : ¬ k = 1 := c6_2; rw [show ipB k = false by simp [ipB, c1_1, q1]]; rfl) dX4_isPlayer_14
  refine lv_iconst (v := nI 1) hx hb dX4_isPlayer_9 (by decide) ?_
  refine lv_goto (tgt := 14) hx hb dX4_isPlayer_10 (by decide) ?_
  exact ro_zret hx hb hr hlocks (by first | rfl | exact bI_nar _) (by have q1 : k = 1 := c6_2; rw [show ipB k = true by simp [ipB, q1]]; rfl) dX4_isPlayer_14
