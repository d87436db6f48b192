abbrev xfW (cI cJ : ClassId) (w h x sn hs hi g st cs fo se : Nat) (S : Nat → Int64) (ht hy : Nat → Nat) (n : Nat) : va_W := (fo, .inr (0, [.ref g])) :: xW cI cJ w h x sn hs hi g st cs fo se S ht hy n
/-- the cells that valuing uses: the object, its arrays, the search -/
abbrev vW (cI cJ : ClassId) (w h x sn hs hi g st cs fo se mi me ks le mo : Nat) (S : Nat → Int64) (ht hy : Nat → Nat) (n : Nat) (u : Mem) : va_W :=
  (x, .inr (4, [.ref g, .ref se, .ref fo, .ref sn, .ref hs, .ref hi, .int (nI n)])) :: (sn, .inl (cJ, 2, .inr (.inl S))) :: (hs, .inl (cI, w, .inl (fun j => nI (ht j)))) :: (hi, .inl (cI, w * h, .inl (fun j => nI (hy j)))) :: seU cI cJ w h se mi g st cs me ks le mo u
def saPost (V low z : Int) : Prop := z = V ∨ (V ≤ z ∧ z ≤ low)
/-- the first best column so far, and its score -/
def bsC (h : Nat) (ht : Nat → Nat) (v : Nat → Int) (lo : Int) (c : Nat) (fz fs : Int) : Prop :=
  (fz = -1 ∧ fs = lo ∧ ∀ c', c' < c → ¬ ht c' < h) ∨ (∃ c0, c0 < c ∧ fz = (c0 : Int) ∧ ht c0 < h ∧ v c0 = fs ∧ (∀ c', c' < c0 → ht c' < h → v c' < fs) ∧ ∀ c', c' < c → ht c' < h → v c' ≤ fs)
theorem bsC.full {h : Nat} {ht : Nat → Nat} {v : Nat → Int} {lo : Int} {c : Nat} {fz fs : Int} (H : bsC h ht v lo c fz fs) (hf : ¬ ht c < h) : bsC h ht v lo (c + 1) fz fs := by
  rcases H with ⟨a, b, d⟩ | ⟨c0, a, b, d, e, f, g⟩
  · refine Or.inl ⟨a, b, fun c' hc => ?_⟩
    by_cases z : c' = c
    · subst z; exact hf
    · exact d c' (by omega)
  · refine Or.inr ⟨c0, by omega, b, d, e, f, fun c' hc q => ?_⟩
    by_cases z : c' = c
    · subst z; exact absurd q hf
    · exact g c' (by omega) q
theorem bsC.new {h : Nat} {ht : Nat → Nat} {v : Nat → Int} {lo : Int} {c : Nat} {fz fs z : Int} (H : bsC h ht v lo c fz fs) (hf : ht c < h) (hz : saPost (v c) fs z) (hlt : fs < z) : bsC h ht v lo (c + 1) (c : Int) z := by
  have e : z = v c := by unfold saPost at hz; omega
  subst e
  have all : ∀ c', c' < c → ht c' < h → v c' < v c := by
    intro c' hc q
    rcases H with ⟨a, b, d⟩ | ⟨c0, a, b, d, e, f, g⟩
    · exact absurd q (d c' hc)
    · have := g c' hc q; omega
  refine Or.inr ⟨c, by omega, rfl, hf, rfl, all, fun c' hc q => ?_⟩
  by_cases y : c' = c
  · subst y; exact Int.le_refl _
  · have := all c' (by omega) q; omega
theorem bsC.keep {h : Nat} {ht : Nat → Nat} {v : Nat → Int} {lo : Int} {c : Nat} {fz fs z : Int} (H : bsC h ht v lo c fz fs) (hf : ht c < h) (hz : saPost (v c) fs z) (hle : z ≤ fs) (hlo : lo < v c) : bsC h ht v lo (c + 1) fz fs := by
  have e : v c ≤ fs := by unfold saPost at hz; omega
  rcases H with ⟨a, b, d⟩ | ⟨c0, a, b, d, e1, f, g⟩
  · omega
  · refine Or.inr ⟨c0, by omega, b, d, e1, f, fun c' hc q => ?_⟩
    by_cases y : c' = c
    · subst y; exact e
    · exact g c' (by omega) q
theorem bsC.bd {h : Nat} {ht : Nat → Nat} {v : Nat → Int} {lo : Int} {c : Nat} {fz fs a b : Int} (H : bsC h ht v lo c fz fs) (hv : ∀ c, a ≤ v c ∧ v c ≤ b) (hlo : lo ≤ a) (hab : a ≤ b) : lo ≤ fs ∧ fs ≤ b ∧ -1 ≤ fz ∧ fz ≤ c := by
  rcases H with ⟨x, y, d⟩ | ⟨c0, x, y, d, e1, f, g⟩
  · omega
  · have := hv c0; omega
set_option maxHeartbeats 4000000 in
set_option maxRecDepth 100000 in
theorem p_beats (l : Launch) (D : va_G) (cI cJ cZ : ClassId) (w h x sn hs hi g st cs fo se : Nat) (S : Nat → Int64) (ht hy : Nat → Nat) (n : Nat) (hd : Dm w h) (hht : ∀ j, ht j ≤ h) (hn : n ≤ w * h) (hov : ovB w h S n = false) (h30 : ¬ 30 < w * h - n) (hev : evB h ht w = true) : Met l yX4_beats wsX4_beats (k2_rm 4 127) (RPc D [.ref x] (xfW cI cJ w h x sn hs hi g st cs fo se S ht hy n) (tyA cI cJ cZ)) (k2_QcV (.int (bI (lwB w h (S (n % 2)) (S (1 - n % 2)))))) 0 0 (fun _ => False) := by
  refine ro_head (cc := cX4_beats) (maxL := 1) (ret := (some .boolean)) (by decide) rfl (Nat.le_of_ble_eq_true rfl) ?_
  intro p e s m below meth cd ls hx hb hr hlocks hts hown hml hP hK hN hl
  have hl : lv_has ls 1 [(0, .ref x)] := hl
  have hd0 := hd
  obtain ⟨h3w, hw9, h3h, hh7, hwh, h64⟩ := hd0
  refine lv_aload_n hx hb dX4_beats_0 rfl (lv_at hl 0 rfl) ?_
  refine ro_call (W.runV (As := []) (rest := []) ⟨hx, hb, hml, hown, hts⟩ (c_isOver l D cI cJ cZ w h x sn hs hi g st cs fo se S ht hy n hd hht hn) (cwV 0 hts gX4_beats_X4_isOver rfl rfl rfl (by decide +kernel) ⟨Nat.le_of_ble_eq_true rfl, Nat.le_of_ble_eq_true rfl⟩) ⟨RPc.blind, va_recv hK hP (ci := 4) (q0 := 1) rfl rfl, (RPc.at (hP.sub [1, 2, 3, 4, 5, 6, 7] rfl) hK hN)⟩ rfl rfl hl.1 rfl (lv_room (Nat.le_of_ble_eq_true rfl)) dX4_beats_1 ⟨Nat.zero_le _, Nat.zero_le _⟩) ?_
  refine b_if_ne (tgt := 23) hx hb dX4_beats_4 (by decide) (fun c4_1 => ?_) (fun c4_1 => ?_)
  · exact absurd c4_1 (by rw [hov]; decide)
  refine lv_aload_n hx hb dX4_beats_7 rfl (lv_at hl 0 rfl) ?_
  refine ro_call (W.runV (As := []) (rest := []) ⟨hx, hb, hml, hown, hts⟩ (c_empty l D cI cJ cZ w h x sn hs hi g st cs fo se S ht hy n hd hht hn) (cwV 0 hts gX4_beats_X4_empty rfl rfl rfl (by decide +kernel) ⟨Nat.le_of_ble_eq_true rfl, Nat.le_of_ble_eq_true rfl⟩) ⟨RPc.blind, va_recv hK hP (ci := 4) (q0 := 1) rfl rfl, (RPc.at (hP.sub [1, 2, 3, 4, 5, 6, 7] rfl) hK hN)⟩ rfl rfl hl.1 rfl (lv_room (Nat.le_of_ble_eq_true rfl)) dX4_beats_8 ⟨Nat.zero_le _, Nat.zero_le _⟩) ?_
  refine lv_bipush (v := nI 30) hx hb dX4_beats_11 (by decide) ?_
  refine n_icmp_gt (tgt := 23) hx hb dX4_beats_13 (by decide) (by omega) (by omega) (fun c13_2 => ?_) (fun c13_2 => ?_)
  · exact absurd c13_2 h30
  refine lv_aload_n hx hb dX4_beats_16 rfl (lv_at hl 0 rfl) ?_
  refine ro_call (W.runV (As := []) (rest := []) ⟨hx, hb, hml, hown, hts⟩ (c_canFollow l D cI cJ cZ w h x sn hs hi g st cs fo se S ht hy n hd hht hn) (cwV 0 hts gX4_beats_X4_canFollow rfl rfl rfl (by decide +kernel) ⟨Nat.le_of_ble_eq_true rfl, Nat.le_of_ble_eq_true rfl⟩) ⟨RPc.blind, va_recv hK hP (ci := 4) (q0 := 1) rfl rfl, (RPc.at (hP.sub [1, 2, 3, 4, 5, 6, 7] rfl) hK hN)⟩ rfl rfl hl.1 rfl (lv_room (Nat.le_of_ble_eq_true rfl)) dX4_beats_17 ⟨Nat.zero_le _, Nat.zero_le _⟩) ?_
  refine b_if_ne (tgt := 33) hx hb dX4_beats_20 (by decide) (fun c20_3 => ?_) (fun c20_3 => ?_)
  · skip
    refine lv_aload_n hx hb dX4_beats_33 rfl (lv_at hl 0 rfl) ?_
    refine va_get (C := RX4) (T := TX4) (N := 7) hx hb hts (by decide +kernel) hown hK hP 1 rfl rfl 2 (by decide) (hts (.fieldLink RX4 42 RX4 "following" "LDropFour$Following;") (by decide +kernel)) (fun _ h9 => h9) rfl dX4_beats_34 ?_
    refine lv_aload_n hx hb dX4_beats_37 rfl (lv_at hl 0 rfl) ?_
    refine ro_call (W.runV (As := []) (rest := [.ref fo]) ⟨hx, hb, hml, hown, hts⟩ (c_mine l D cI cJ cZ w h x sn hs hi g st cs fo se S ht hy n hd hht hn) (cwV 0 hts gX4_beats_X4_mine rfl rfl rfl (by decide +kernel) ⟨Nat.le_of_ble_eq_true rfl, Nat.le_of_ble_eq_true rfl⟩) ⟨RPc.blind, va_recv hK hP (ci := 4) (q0 := 1) rfl rfl, (RPc.at (hP.sub [1, 2, 3, 4, 5, 6, 7] rfl) hK hN)⟩ rfl rfl hl.1 rfl (lv_room (Nat.le_of_ble_eq_true rfl)) dX4_beats_38 ⟨Nat.zero_le _, Nat.zero_le _⟩) ?_
    refine lv_aload_n hx hb dX4_beats_41 rfl (lv_at hl 0 rfl) ?_
    refine ro_call (W.runV (As := []) (rest := [.long (S (n % 2)), .ref fo]) ⟨hx, hb, hml, hown, hts⟩ (c_theirs l D cI cJ cZ w h x sn hs hi g st cs fo se S ht hy n hd hht hn) (cwV 0 hts gX4_beats_X4_theirs rfl rfl rfl (by decide +kernel) ⟨Nat.le_of_ble_eq_true rfl, Nat.le_of_ble_eq_true rfl⟩) ⟨RPc.blind, va_recv hK hP (ci := 4) (q0 := 1) rfl rfl, (RPc.at (hP.sub [1, 2, 3, 4, 5, 6, 7] rfl) hK hN)⟩ rfl rfl hl.1 rfl (lv_room (Nat.le_of_ble_eq_true rfl)) dX4_beats_42 ⟨Nat.zero_le _, Nat.zero_le _⟩) ?_
    refine ro_call (W.runV (As := [.long (S (n % 2)), .long (S (1 - n % 2))]) (rest := []) ⟨hx, hb, hml, hown, hts⟩ (c_leaderWins l D cI cJ cZ w h fo g st cs (S (n % 2)) (S (1 - n % 2)) hd) (cwV 2 hts gX4_beats_X0_leaderWins rfl rfl rfl (by decide +kernel) ⟨Nat.le_of_ble_eq_true rfl, Nat.le_of_ble_eq_true rfl⟩) ⟨RPc.blind, va_recv hK hP (ci := 0) (q0 := 0) rfl rfl, (RPc.at (hP.sub [0, 5, 6, 7] rfl) hK hN)⟩ rfl rfl hl.1 rfl (lv_room (Nat.le_of_ble_eq_true rfl)) dX4_beats_45 ⟨Nat.zero_le _, Nat.zero_le _⟩) ?_
    exact ro_zret hx hb hr hlocks (by first | rfl | exact bI_nar _) rfl dX4_beats_48
  · exact absurd c20_3 (by rw [hev]; decide)

set_option maxHeartbeats 4000000 in
set_option maxRecDepth 100000 in
theorem p_drop (l : Launch) (D : va_G) (cI cJ cZ : ClassId) (w h x sn hs hi g st cs fo se : Nat) (S : Nat → Int64) (ht hy : Nat → Nat) (n : Nat) (c : Nat) (sz : Nat) (hd : Dm w h) (hht : ∀ j, ht j ≤ h) (hn : n ≤ w * h) (hc : c < w) (hic : icB w (nI c) = true) (hov : ovB w h S n = false) (hlc : ht c < h) (hnf : n < w * h) : Met l yX4_drop wsX4_drop (k2_rm 4 91) (MPc D [.ref x, .int (nI c)] (xW cI cJ w h x sn hs hi g st cs fo se S ht hy n) (tyA cI cJ cZ) sz) (mQi D (fun r9 (_ : Unit) => r9 = nI (ht c)) (fun _ => (xW cI cJ w h x sn hs hi g st cs fo se (vp_updL S (n % 2) (S (n % 2) ||| sqL h c (ht c))) (va_up ht c (ht c + 1)) (va_up hy n c) (n + 1))) (va_A (xW cI cJ w h x sn hs hi g st cs fo se S ht hy n) sz)) 0 0 (va_A (xW cI cJ w h x sn hs hi g st cs fo se S ht hy n) sz) := by
  refine mu_head (Qc := fun A => mQi D (fun r9 (_ : Unit) => r9 = nI (ht c)) (fun _ => (xW cI cJ w h x sn hs hi g st cs fo se (vp_updL S (n % 2) (S (n % 2) ||| sqL h c (ht c))) (va_up ht c (ht c + 1)) (va_up hy n c) (n + 1))) A) (cc := cX4_drop) (maxL := 3) (ret := (some .int)) (by decide) rfl (Nat.le_of_ble_eq_true rfl) ?_
  intro p e s m below meth cd ls A hx hb hr hlocks hnm hts hown hml hA hP hK hD hN hS hl
  have hl : lv_has ls 3 [(0, .ref x), (1, .int (nI c))] := hl
  have hd0 := hd
  obtain ⟨h3w, hw9, h3h, hh7, hwh, h64⟩ := hd0
  refine lv_aload_n hx hb dX4_drop_0 rfl (lv_at hl 0 rfl) ?_
  refine lv_iload_n hx hb dX4_drop_1 rfl (lv_at hl 1 rfl) ?_
  refine ro_call (W.runV (As := [.int (nI c)]) (rest := []) ⟨hx, hb, hml, hown, hts⟩ (c_isColumn l D cI cJ cZ w h x sn hs hi g st cs fo se S ht hy n (nI c) hd hht hn) (cwV 1 hts gX4_drop_X4_isColumn rfl rfl rfl (by decide +kernel) ⟨Nat.le_of_ble_eq_true rfl, Nat.le_of_ble_eq_true rfl⟩) ⟨RPc.blind, va_recv hK hP (ci := 4) (q0 := 0) rfl rfl, (RPc.at (hP.sub [0, 1, 2, 3, 4, 5, 6] rfl) hK hN)⟩ rfl rfl hl.1 rfl (lv_room (Nat.le_of_ble_eq_true rfl)) dX4_drop_2 ⟨Nat.zero_le _, Nat.zero_le _⟩) ?_
  refine b_if_ne (tgt := 18) hx hb dX4_drop_5 (by decide) (fun c5_1 => ?_) (fun c5_1 => ?_)
  · skip
    refine lv_aload_n hx hb dX4_drop_18 rfl (lv_at hl 0 rfl) ?_
    refine ro_call (W.runV (As := []) (rest := []) ⟨hx, hb, hml, hown, hts⟩ (c_isOver l D cI cJ cZ w h x sn hs hi g st cs fo se S ht hy n hd hht hn) (cwV 0 hts gX4_drop_X4_isOver rfl rfl rfl (by decide +kernel) ⟨Nat.le_of_ble_eq_true rfl, Nat.le_of_ble_eq_true rfl⟩) ⟨RPc.blind, va_recv hK hP (ci := 4) (q0 := 0) rfl rfl, (RPc.at (hP.sub [0, 1, 2, 3, 4, 5, 6] rfl) hK hN)⟩ rfl rfl hl.1 rfl (lv_room (Nat.le_of_ble_eq_true rfl)) dX4_drop_19 ⟨Nat.zero_le _, Nat.zero_le _⟩) ?_
    refine b_if_ne (tgt := 33) hx hb dX4_drop_22 (by decide) (fun c22_2 => ?_) (fun c22_2 => ?_)
    · exact absurd c22_2 (by rw [hov]; decide)
    refine lv_aload_n hx hb dX4_drop_25 rfl (lv_at hl 0 rfl) ?_
    refine lv_iload_n hx hb dX4_drop_26 rfl (lv_at hl 1 rfl) ?_
    refine ro_call (W.runV (As := [.int (nI c)]) (rest := []) ⟨hx, hb, hml, hown, hts⟩ (c_isFull l D cI cJ cZ w h x sn hs hi g st cs fo se S ht hy n c hd hht hn (by omega)) (cwV 1 hts gX4_drop_X4_isFull rfl rfl rfl (by decide +kernel) ⟨Nat.le_of_ble_eq_true rfl, Nat.le_of_ble_eq_true rfl⟩) ⟨RPc.blind, va_recv hK hP (ci := 4) (q0 := 0) rfl rfl, (RPc.at (hP.sub [0, 1, 2, 3, 4, 5, 6] rfl) hK hN)⟩ rfl rfl hl.1 rfl (lv_room (Nat.le_of_ble_eq_true rfl)) dX4_drop_27 ⟨Nat.zero_le _, Nat.zero_le _⟩) ?_
    refine b_if_eq (tgt := 43) hx hb dX4_drop_30 (by decide) (fun c30_3 => ?_) (fun c30_3 => ?_)
    · skip
      refine lv_aload_n hx hb dX4_drop_43 rfl (lv_at hl 0 rfl) ?_
      refine va_get (C := RX4) (T := TX4) (N := 7) hx hb hts (by decide +kernel) hown hK hP 0 rfl rfl 4 (by decide) (hts (.fieldLink RX4 46 RX4 "heights" "[I") (by decide +kernel)) (fun _ h9 => h9) rfl dX4_drop_44 ?_
      refine lv_iload_n hx hb dX4_drop_47 rfl (lv_at hl 1 rfl) ?_
      refine n_iald hx hb hK hP 2 0 rfl rfl hc (by omega) dX4_drop_48 ?_
      refine lv_istore_n (lv' := [(2, .int (nI (ht c))), (0, .ref x), (1, .int (nI c))]) hx hb dX4_drop_49 rfl hl (by decide) rfl (fun ls hl => ?_)
      refine lv_aload_n hx hb dX4_drop_50 rfl (lv_at hl 1 rfl) ?_
      refine va_get (C := RX4) (T := TX4) (N := 7) hx hb hts (by decide +kernel) hown hK hP 0 rfl rfl 3 (by decide) (hts (.fieldLink RX4 7 RX4 "stones" "[J") (by decide +kernel)) (fun _ h9 => h9) rfl dX4_drop_51 ?_
      refine lv_aload_n hx hb dX4_drop_54 rfl (lv_at hl 1 rfl) ?_
      refine ro_call (W.runV (As := []) (rest := [.ref sn]) ⟨hx, hb, hml, hown, hts⟩ (c_turn l D cI cJ cZ w h x sn hs hi g st cs fo se S ht hy n hd hht hn) (cwV 0 hts gX4_drop_X4_turn rfl rfl rfl (by decide +kernel) ⟨Nat.le_of_ble_eq_true rfl, Nat.le_of_ble_eq_true rfl⟩) ⟨RPc.blind, va_recv hK hP (ci := 4) (q0 := 0) rfl rfl, (RPc.at (hP.sub [0, 1, 2, 3, 4, 5, 6] rfl) hK hN)⟩ rfl rfl hl.1 rfl (lv_room (Nat.le_of_ble_eq_true rfl)) dX4_drop_55 ⟨Nat.zero_le _, Nat.zero_le _⟩) ?_
      refine lv_dup2_11 hx hb dX4_drop_58 rfl rfl ?_
      refine n_lald hx hb hK hP 1 1 rfl rfl (by omega) (by omega) dX4_drop_59 ?_
      refine lv_aload_n hx hb dX4_drop_60 rfl (lv_at hl 1 rfl) ?_
      refine va_get (C := RX4) (T := TX4) (N := 7) hx hb hts (by decide +kernel) hown hK hP 0 rfl rfl 0 (by decide) (hts (.fieldLink RX4 26 RX4 "grid" "LDropFour$Grid;") (by decide +kernel)) (fun _ h9 => h9) rfl dX4_drop_61 ?_
      refine lv_iload_n hx hb dX4_drop_64 rfl (lv_at hl 2 rfl) ?_
      refine lv_iload_n hx hb dX4_drop_65 rfl (lv_at hl 0 rfl) ?_
      refine ro_call (W.runV (As := [.int (nI c), .int (nI (ht c))]) (rest := [.long (S (n % 2)), .int (nI (n % 2)), .ref sn]) ⟨hx, hb, hml, hown, hts⟩ (c_square l D cI cJ cZ w h g st cs c (ht c)) (cwV 2 hts gX4_drop_X1_square rfl rfl rfl (by decide +kernel) ⟨Nat.le_of_ble_eq_true rfl, Nat.le_of_ble_eq_true rfl⟩) ⟨RPc.blind, va_recv hK hP (ci := 1) (q0 := 4) rfl rfl, (RPc.at (hP.sub [4, 5, 6] rfl) hK hN)⟩ rfl rfl hl.1 rfl (lv_room (Nat.le_of_ble_eq_true rfl)) dX4_drop_66 ⟨Nat.zero_le _, Nat.zero_le _⟩) ?_
      refine lv_lor hx hb dX4_drop_69 ?_
      refine n_lastR hx hb hK hP hD hS 1 1 rfl rfl (by omega) (by omega) dX4_drop_70 (fun H locs hP hD hS => ?_)
      have hP : va_P D vwCl (xW cI cJ w h x sn hs hi g st cs fo se (vp_updL S (n % 2) ((S (n % 2)) ||| (sqL h c (ht c)))) ht hy n) H := hP
      have hD : va_D A (xW cI cJ w h x sn hs hi g st cs fo se (vp_updL S (n % 2) ((S (n % 2)) ||| (sqL h c (ht c)))) ht hy n) := hD
      refine lv_aload_n hx hb dX4_drop_71 rfl (lv_at hl 1 rfl) ?_
      refine va_get (C := RX4) (T := TX4) (N := 7) hx hb hts (by decide +kernel) hown hK hP 0 rfl rfl 4 (by decide) (hts (.fieldLink RX4 46 RX4 "heights" "[I") (by decide +kernel)) (fun _ h9 => h9) rfl dX4_drop_72 ?_
      refine lv_iload_n hx hb dX4_drop_75 rfl (lv_at hl 2 rfl) ?_
      refine lv_dup2_11 hx hb dX4_drop_76 rfl rfl ?_
      refine n_iald hx hb hK hP 2 0 rfl rfl (by omega) (by omega) dX4_drop_77 ?_
      refine lv_iconst (v := nI 1) hx hb dX4_drop_78 (by decide) ?_
      refine n_iadd hx hb dX4_drop_79 ?_
      refine n_iast (g := ht) hx hb hK hP hD hS 2 0 rfl rfl (by omega) (by omega) dX4_drop_80 (fun H locs hP hD hS => ?_)
      have hP : va_P D vwCl (xW cI cJ w h x sn hs hi g st cs fo se (vp_updL S (n % 2) ((S (n % 2)) ||| (sqL h c (ht c)))) (va_up ht c ((ht c) + 1)) hy n) H := hP
      have hD : va_D A (xW cI cJ w h x sn hs hi g st cs fo se (vp_updL S (n % 2) ((S (n % 2)) ||| (sqL h c (ht c)))) (va_up ht c ((ht c) + 1)) hy n) := hD
      refine lv_aload_n hx hb dX4_drop_81 rfl (lv_at hl 1 rfl) ?_
      refine va_get (C := RX4) (T := TX4) (N := 7) hx hb hts (by decide +kernel) hown hK hP 0 rfl rfl 5 (by decide) (hts (.fieldLink RX4 50 RX4 "history" "[I") (by decide +kernel)) (fun _ h9 => h9) rfl dX4_drop_82 ?_
      refine lv_aload_n hx hb dX4_drop_85 rfl (lv_at hl 1 rfl) ?_
      refine va_get (C := RX4) (T := TX4) (N := 7) hx hb hts (by decide +kernel) hown hK hP 0 rfl rfl 6 (by decide) (hts (.fieldLink RX4 13 RX4 "count" "I") (by decide +kernel)) (fun _ h9 => h9) rfl dX4_drop_86 ?_
      refine lv_iload_n hx hb dX4_drop_89 rfl (lv_at hl 2 rfl) ?_
      refine n_iast (g := hy) hx hb hK hP hD hS 3 0 rfl rfl (by omega) (by omega) dX4_drop_90 (fun H locs hP hD hS => ?_)
      have hP : va_P D vwCl (xW cI cJ w h x sn hs hi g st cs fo se (vp_updL S (n % 2) ((S (n % 2)) ||| (sqL h c (ht c)))) (va_up ht c ((ht c) + 1)) (va_up hy n c) n) H := hP
      have hD : va_D A (xW cI cJ w h x sn hs hi g st cs fo se (vp_updL S (n % 2) ((S (n % 2)) ||| (sqL h c (ht c)))) (va_up ht c ((ht c) + 1)) (va_up hy n c) n) := hD
      refine lv_aload_n hx hb dX4_drop_91 rfl (lv_at hl 1 rfl) ?_
      refine lv_dup hx hb dX4_drop_92 rfl ?_
      refine va_get (C := RX4) (T := TX4) (N := 7) hx hb hts (by decide +kernel) hown hK hP 0 rfl rfl 6 (by decide) (hts (.fieldLink RX4 13 RX4 "count" "I") (by decide +kernel)) (fun _ h9 => h9) rfl dX4_drop_93 ?_
      refine lv_iconst (v := nI 1) hx hb dX4_drop_96 (by decide) ?_
      refine n_iadd hx hb dX4_drop_97 ?_
      refine va_put (ty := .int) (C := RX4) (T := TX4) (N := 7) hx hb hts (by decide +kernel) tyX4 tyX4_ok nmX4 hown hK hP hD hS 0 rfl rfl 6 (by decide) (hts (.fieldLink RX4 13 RX4 "count" "I") (by decide +kernel)) (fun _ h9 => h9) rfl (by decide +kernel) rfl rfl (Nat.le_of_ble_eq_true rfl) dX4_drop_98 (fun H locs hP hD hS => ?_)
      have hP : va_P D vwCl (xW cI cJ w h x sn hs hi g st cs fo se (vp_updL S (n % 2) ((S (n % 2)) ||| (sqL h c (ht c)))) (va_up ht c ((ht c) + 1)) (va_up hy n c) (n + 1)) H := hP
      have hD : va_D A (xW cI cJ w h x sn hs hi g st cs fo se (vp_updL S (n % 2) ((S (n % 2)) ||| (sqL h c (ht c)))) (va_up ht c ((ht c) + 1)) (va_up hy n c) (n + 1)) := hD
      refine lv_iload_n hx hb dX4_drop_101 rfl (lv_at hl 0 rfl) ?_
      exact mu_iret (S := Unit) (wf := fun _ => (xW cI cJ w h x sn hs hi g st cs fo se (vp_updL S (n % 2) (S (n % 2) ||| sqL h c (ht c))) (va_up ht c (ht c + 1)) (va_up hy n c) (n + 1))) hx hb hr hlocks () rfl hP hD hS dX4_drop_102
    · exact absurd c30_3 (by rw [decide_eq_false (by omega)]; decide)
  · exact absurd c5_1 (by rw [hic]; decide)

set_option maxHeartbeats 4000000 in
set_option maxRecDepth 100000 in
theorem p_back (l : Launch) (D : va_G) (cI cJ cZ : ClassId) (w h x sn hs hi g st cs fo se : Nat) (S : Nat → Int64) (ht hy : Nat → Nat) (n : Nat) (c : Nat) (sz : Nat) (hd : Dm w h) (hht : ∀ j, ht j ≤ h) (hn : n ≤ w * h) (hn0 : 0 < n) (hcd : hy (n - 1) = c) (hc : c < w) (hh1 : 1 ≤ ht c) : Met l yX4_back wsX4_back (k2_rm 1 22) (MPc D [.ref x] (xW cI cJ w h x sn hs hi g st cs fo se S ht hy n) (tyA cI cJ cZ) sz) (mQi D (fun r9 (_ : Unit) => r9 = nI c) (fun _ => (xW cI cJ w h x sn hs hi g st cs fo se (vp_updL S ((n - 1) % 2) (S ((n - 1) % 2) &&& (sqL h c (ht c - 1) ^^^ (-1)))) (va_up ht c (ht c - 1)) hy (n - 1))) (va_A (xW cI cJ w h x sn hs hi g st cs fo se S ht hy n) sz)) 0 0 (va_A (xW cI cJ w h x sn hs hi g st cs fo se S ht hy n) sz) := by
  refine mu_head (Qc := fun A => mQi D (fun r9 (_ : Unit) => r9 = nI c) (fun _ => (xW cI cJ w h x sn hs hi g st cs fo se (vp_updL S ((n - 1) % 2) (S ((n - 1) % 2) &&& (sqL h c (ht c - 1) ^^^ (-1)))) (va_up ht c (ht c - 1)) hy (n - 1))) A) (cc := cX4_back) (maxL := 2) (ret := (some .int)) (by decide) rfl (Nat.le_of_ble_eq_true rfl) ?_
  intro p e s m below meth cd ls A hx hb hr hlocks hnm hts hown hml hA hP hK hD hN hS hl
  have hl : lv_has ls 2 [(0, .ref x)] := hl
  have hd0 := hd
  obtain ⟨h3w, hw9, h3h, hh7, hwh, h64⟩ := hd0
  have hhc := hht c
  refine lv_aload_n hx hb dX4_back_0 rfl (lv_at hl 0 rfl) ?_
  refine va_get (C := RX4) (T := TX4) (N := 7) hx hb hts (by decide +kernel) hown hK hP 0 rfl rfl 6 (by decide) (hts (.fieldLink RX4 13 RX4 "count" "I") (by decide +kernel)) (fun _ h9 => h9) rfl dX4_back_1 ?_
  refine n_if_ne (tgt := 17) hx hb dX4_back_4 (by decide) (by omega) (fun c4_1 => ?_) (fun c4_1 => ?_)
  · skip
    refine lv_aload_n hx hb dX4_back_17 rfl (lv_at hl 0 rfl) ?_
    refine lv_dup hx hb dX4_back_18 rfl ?_
    refine va_get (C := RX4) (T := TX4) (N := 7) hx hb hts (by decide +kernel) hown hK hP 0 rfl rfl 6 (by decide) (hts (.fieldLink RX4 13 RX4 "count" "I") (by decide +kernel)) (fun _ h9 => h9) rfl dX4_back_19 ?_
    refine lv_iconst (v := nI 1) hx hb dX4_back_22 (by decide) ?_
    refine n_isub hx hb dX4_back_23 (by omega) ?_
    refine va_put (ty := .int) (C := RX4) (T := TX4) (N := 7) hx hb hts (by decide +kernel) tyX4 tyX4_ok nmX4 hown hK hP hD hS 0 rfl rfl 6 (by decide) (hts (.fieldLink RX4 13 RX4 "count" "I") (by decide +kernel)) (fun _ h9 => h9) rfl (by decide +kernel) rfl rfl (Nat.le_of_ble_eq_true rfl) dX4_back_24 (fun H locs hP hD hS => ?_)
    have hP : va_P D vwCl (xW cI cJ w h x sn hs hi g st cs fo se S ht hy (n - 1)) H := hP
    have hD : va_D A (xW cI cJ w h x sn hs hi g st cs fo se S ht hy (n - 1)) := hD
    refine lv_aload_n hx hb dX4_back_27 rfl (lv_at hl 0 rfl) ?_
    refine va_get (C := RX4) (T := TX4) (N := 7) hx hb hts (by decide +kernel) hown hK hP 0 rfl rfl 5 (by decide) (hts (.fieldLink RX4 50 RX4 "history" "[I") (by decide +kernel)) (fun _ h9 => h9) rfl dX4_back_28 ?_
    refine lv_aload_n hx hb dX4_back_31 rfl (lv_at hl 0 rfl) ?_
    refine va_get (C := RX4) (T := TX4) (N := 7) hx hb hts (by decide +kernel) hown hK hP 0 rfl rfl 6 (by decide) (hts (.fieldLink RX4 13 RX4 "count" "I") (by decide +kernel)) (fun _ h9 => h9) rfl dX4_back_32 ?_
    refine n_iald hx hb hK hP 3 0 rfl rfl (by omega) (by omega) dX4_back_35 ?_
    refine rt_i (v := nI c) (by rw [hcd]) ?_
    refine lv_istore_n (lv' := [(1, .int (nI c)), (0, .ref x)]) hx hb dX4_back_36 rfl hl (by decide) rfl (fun ls hl => ?_)
    refine lv_aload_n hx hb dX4_back_37 rfl (lv_at hl 1 rfl) ?_
    refine va_get (C := RX4) (T := TX4) (N := 7) hx hb hts (by decide +kernel) hown hK hP 0 rfl rfl 4 (by decide) (hts (.fieldLink RX4 46 RX4 "heights" "[I") (by decide +kernel)) (fun _ h9 => h9) rfl dX4_back_38 ?_
    refine lv_iload_n hx hb dX4_back_41 rfl (lv_at hl 0 rfl) ?_
    refine lv_dup2_11 hx hb dX4_back_42 rfl rfl ?_
    refine n_iald hx hb hK hP 2 0 rfl rfl (by omega) (by omega) dX4_back_43 ?_
    refine lv_iconst (v := nI 1) hx hb dX4_back_44 (by decide) ?_
    refine n_isub hx hb dX4_back_45 (by omega) ?_
    refine n_iast (g := ht) hx hb hK hP hD hS 2 0 rfl rfl (by omega) (by omega) dX4_back_46 (fun H locs hP hD hS => ?_)
    have hP : va_P D vwCl (xW cI cJ w h x sn hs hi g st cs fo se S (va_up ht c ((ht c) - 1)) hy (n - 1)) H := hP
    have hD : va_D A (xW cI cJ w h x sn hs hi g st cs fo se S (va_up ht c ((ht c) - 1)) hy (n - 1)) := hD
    have hht3 : ∀ j, (va_up ht c (ht c - 1)) j ≤ h := fun j => by show (if j = c then _ else _) ≤ h; have := hht j; have := hht c; split <;> omega
    refine lv_aload_n hx hb dX4_back_47 rfl (lv_at hl 1 rfl) ?_
    refine va_get (C := RX4) (T := TX4) (N := 7) hx hb hts (by decide +kernel) hown hK hP 0 rfl rfl 3 (by decide) (hts (.fieldLink RX4 7 RX4 "stones" "[J") (by decide +kernel)) (fun _ h9 => h9) rfl dX4_back_48 ?_
    refine lv_aload_n hx hb dX4_back_51 rfl (lv_at hl 1 rfl) ?_
    refine ro_call (W.runV (As := []) (rest := [.ref sn]) ⟨hx, hb, hml, hown, hts⟩ (c_turn l D cI cJ cZ w h x sn hs hi g st cs fo se S (va_up ht c ((ht c) - 1)) hy (n - 1) hd hht3 (by omega)) (cwV 0 hts gX4_back_X4_turn rfl rfl rfl (by decide +kernel) ⟨Nat.le_of_ble_eq_true rfl, Nat.le_of_ble_eq_true rfl⟩) ⟨RPc.blind, va_recv hK hP (ci := 4) (q0 := 0) rfl rfl, (RPc.at (hP.sub [0, 1, 2, 3, 4, 5, 6] rfl) hK hN)⟩ rfl rfl hl.1 rfl (lv_room (Nat.le_of_ble_eq_true rfl)) dX4_back_52 ⟨Nat.zero_le _, Nat.zero_le _⟩) ?_
    refine lv_dup2_11 hx hb dX4_back_55 rfl rfl ?_
    refine n_lald hx hb hK hP 1 1 rfl rfl (by omega) (by omega) dX4_back_56 ?_
    refine lv_aload_n hx hb dX4_back_57 rfl (lv_at hl 1 rfl) ?_
    refine va_get (C := RX4) (T := TX4) (N := 7) hx hb hts (by decide +kernel) hown hK hP 0 rfl rfl 0 (by decide) (hts (.fieldLink RX4 26 RX4 "grid" "LDropFour$Grid;") (by decide +kernel)) (fun _ h9 => h9) rfl dX4_back_58 ?_
    refine lv_iload_n hx hb dX4_back_61 rfl (lv_at hl 0 rfl) ?_
    refine lv_aload_n hx hb dX4_back_62 rfl (lv_at hl 1 rfl) ?_
    refine va_get (C := RX4) (T := TX4) (N := 7) hx hb hts (by decide +kernel) hown hK hP 0 rfl rfl 4 (by decide) (hts (.fieldLink RX4 46 RX4 "heights" "[I") (by decide +kernel)) (fun _ h9 => h9) rfl dX4_back_63 ?_
    refine lv_iload_n hx hb dX4_back_66 rfl (lv_at hl 0 rfl) ?_
    refine n_iald hx hb hK hP 2 0 rfl rfl (by omega) (by omega) dX4_back_67 ?_
    refine rt_i (v := nI (ht c - 1)) (by rw [va_up_self]) ?_
    refine ro_call (W.runV (As := [.int (nI c), .int (nI (ht c - 1))]) (rest := [.long (S ((n - 1) % 2)), .int (nI ((n - 1) % 2)), .ref sn]) ⟨hx, hb, hml, hown, hts⟩ (c_square l D cI cJ cZ w h g st cs c (ht c - 1)) (cwV 2 hts gX4_back_X1_square rfl rfl rfl (by decide +kernel) ⟨Nat.le_of_ble_eq_true rfl, Nat.le_of_ble_eq_true rfl⟩) ⟨RPc.blind, va_recv hK hP (ci := 1) (q0 := 4) rfl rfl, (RPc.at (hP.sub [4, 5, 6] rfl) hK hN)⟩ rfl rfl hl.1 rfl (lv_room (Nat.le_of_ble_eq_true rfl)) dX4_back_68 ⟨Nat.zero_le _, Nat.zero_le _⟩) ?_
    refine lv_ldc2 (v := (-1)) hx hb hown (hts (.constantLong RX4 86 (-1)) (by decide +kernel)) dX4_back_71 ?_
    refine lv_lxor hx hb dX4_back_74 ?_
    refine lv_land hx hb dX4_back_75 ?_
    refine n_lastR hx hb hK hP hD hS 1 1 rfl rfl (by omega) (by omega) dX4_back_76 (fun H locs hP hD hS => ?_)
    have hP : va_P D vwCl (xW cI cJ w h x sn hs hi g st cs fo se (vp_updL S ((n - 1) % 2) ((S ((n - 1) % 2)) &&& ((sqL h c (ht c - 1)) ^^^ (-1)))) (va_up ht c ((ht c) - 1)) hy (n - 1)) H := hP
    have hD : va_D A (xW cI cJ w h x sn hs hi g st cs fo se (vp_updL S ((n - 1) % 2) ((S ((n - 1) % 2)) &&& ((sqL h c (ht c - 1)) ^^^ (-1)))) (va_up ht c ((ht c) - 1)) hy (n - 1)) := hD
    refine lv_iload_n hx hb dX4_back_77 rfl (lv_at hl 0 rfl) ?_
    exact mu_iret (S := Unit) (wf := fun _ => (xW cI cJ w h x sn hs hi g st cs fo se (vp_updL S ((n - 1) % 2) (S ((n - 1) % 2) &&& (sqL h c (ht c - 1) ^^^ (-1)))) (va_up ht c (ht c - 1)) hy (n - 1))) hx hb hr hlocks () rfl hP hD hS dX4_back_78
  · exact absurd c4_1 (by omega)

set_option maxHeartbeats 4000000 in
set_option maxRecDepth 100000 in
theorem p_scoreAbove (l : Launch) (D : va_G) (cI cJ cZ : ClassId) (w h x sn hs hi g st cs fo se mi me ks le mo : Nat) (S : Nat → Int64) (ht hy : Nat → Nat) (n : Nat) (u : Mem) (low : Int) (c : Nat) (sz : Nat) (hd : Dm w h) (hht : ∀ j, ht j ≤ h) (hn : n ≤ w * h) (k : Nat) (hEk : w * h - n = k + 1) (hk12 : k ≤ 12) (M T : Sq) (hpos : Pos w h (k + 1) ht M T (S (n % 2)) (S (1 - n % 2))) (hmem : MemOK w h u) (hc : c < w) (hlc : ht c < h) (hl1 : -200 ≤ low) (hl2 : low ≤ (k : Int) + 1) : Met l yX4_scoreAbove wsX4_scoreAbove (k2_rm 41 1581) (MPc D [.ref x, .int (zI low), .int (nI c)] (vW cI cJ w h x sn hs hi g st cs fo se mi me ks le mo S ht hy n u) (tyA cI cJ cZ) sz) (mQi D (fun r (v : Mem) => MemOK w h v ∧ ∃ z : Int, r = zI z ∧ saPost (Mv w h k ht M T c) low z ∧ -200 ≤ z ∧ z ≤ 200) (fun v => (vW cI cJ w h x sn hs hi g st cs fo se mi me ks le mo S ht hy n v)) (va_A (vW cI cJ w h x sn hs hi g st cs fo se mi me ks le mo S ht hy n u) sz)) 0 0 (va_A (vW cI cJ w h x sn hs hi g st cs fo se mi me ks le mo S ht hy n u) sz) := by
  refine mu_head (Qc := fun A => mQi D (fun r (v : Mem) => MemOK w h v ∧ ∃ z : Int, r = zI z ∧ saPost (Mv w h k ht M T c) low z ∧ -200 ≤ z ∧ z ≤ 200) (fun v => (vW cI cJ w h x sn hs hi g st cs fo se mi me ks le mo S ht hy n v)) A) (cc := cX4_scoreAbove) (maxL := 5) (ret := (some .int)) (by decide) rfl (Nat.le_of_ble_eq_true rfl) ?_
  intro p e s m below meth cd ls A hx hb hr hlocks hnm hts hown hml hA hP hK hD hN hS hl
  have hl : lv_has ls 5 [(0, .ref x), (1, .int (zI low)), (2, .int (nI c))] := hl
  have hd0 := hd
  obtain ⟨h3w, hw9, h3h, hh7, hwh, h64⟩ := hd0
  have hlw := hl_iff hd (hpos.1.put hd hc hlc)
  refine lv_aload_n hx hb dX4_scoreAbove_0 rfl (lv_at hl 0 rfl) ?_
  refine ro_call (W.runV (As := []) (rest := []) ⟨hx, hb, hml, hown, hts⟩ (c_mine l D cI cJ cZ w h x sn hs hi g st cs fo se S ht hy n hd hht hn) (cwV 0 hts gX4_scoreAbove_X4_mine rfl rfl rfl (by decide +kernel) ⟨Nat.le_of_ble_eq_true rfl, Nat.le_of_ble_eq_true rfl⟩) ⟨RPc.blind, va_recv hK hP (ci := 4) (q0 := 0) rfl rfl, (RPc.at (hP.sub [0, 1, 2, 3, 6, 7, 8] rfl) hK hN)⟩ rfl rfl hl.1 rfl (lv_room (Nat.le_of_ble_eq_true rfl)) dX4_scoreAbove_1 ⟨Nat.zero_le _, Nat.zero_le _⟩) ?_
  refine lv_aload_n hx hb dX4_scoreAbove_4 rfl (lv_at hl 0 rfl) ?_
  refine va_get (C := RX4) (T := TX4) (N := 7) hx hb hts (by decide +kernel) hown hK hP 0 rfl rfl 0 (by decide) (hts (.fieldLink RX4 26 RX4 "grid" "LDropFour$Grid;") (by decide +kernel)) (fun _ h9 => h9) rfl dX4_scoreAbove_5 ?_
  refine lv_iload_n hx hb dX4_scoreAbove_8 rfl (lv_at hl 2 rfl) ?_
  refine lv_aload_n hx hb dX4_scoreAbove_9 rfl (lv_at hl 0 rfl) ?_
  refine va_get (C := RX4) (T := TX4) (N := 7) hx hb hts (by decide +kernel) hown hK hP 0 rfl rfl 4 (by decide) (hts (.fieldLink RX4 46 RX4 "heights" "[I") (by decide +kernel)) (fun _ h9 => h9) rfl dX4_scoreAbove_10 ?_
  refine lv_iload_n hx hb dX4_scoreAbove_13 rfl (lv_at hl 2 rfl) ?_
  refine n_iald hx hb hK hP 2 0 rfl rfl hc (by omega) dX4_scoreAbove_14 ?_
  refine ro_call (W.runV (As := [.int (nI c), .int (nI (ht c))]) (rest := [.long (S (n % 2))]) ⟨hx, hb, hml, hown, hts⟩ (c_square l D cI cJ cZ w h g st cs c (ht c)) (cwV 2 hts gX4_scoreAbove_X1_square rfl rfl rfl (by decide +kernel) ⟨Nat.le_of_ble_eq_true rfl, Nat.le_of_ble_eq_true rfl⟩) ⟨RPc.blind, va_recv hK hP (ci := 1) (q0 := 6) rfl rfl, (RPc.at (hP.sub [6, 7, 8] rfl) hK hN)⟩ rfl rfl hl.1 rfl (lv_room (Nat.le_of_ble_eq_true rfl)) dX4_scoreAbove_15 ⟨Nat.zero_le _, Nat.zero_le _⟩) ?_
  refine lv_lor hx hb dX4_scoreAbove_18 ?_
  refine lv_lstore_n (lv' := [(3, .long ((S (n % 2)) ||| (sqL h c (ht c)))), (0, .ref x), (1, .int (zI low)), (2, .int (nI c))]) hx hb dX4_scoreAbove_19 rfl hl (by decide) rfl (fun ls hl => ?_)
  refine lv_aload_n hx hb dX4_scoreAbove_20 rfl (lv_at hl 1 rfl) ?_
  refine va_get (C := RX4) (T := TX4) (N := 7) hx hb hts (by decide +kernel) hown hK hP 0 rfl rfl 0 (by decide) (hts (.fieldLink RX4 26 RX4 "grid" "LDropFour$Grid;") (by decide +kernel)) (fun _ h9 => h9) rfl dX4_scoreAbove_21 ?_
  refine lv_lload_n hx hb dX4_scoreAbove_24 rfl (lv_at hl 0 rfl) ?_
  refine ro_call (W.runV (As := [.long ((S (n % 2)) ||| (sqL h c (ht c)))]) (rest := []) ⟨hx, hb, hml, hown, hts⟩ (c_hasLine l D cI cJ cZ w h g st cs ((S (n % 2)) ||| (sqL h c (ht c)))) (cwV 1 hts gX4_scoreAbove_X1_hasLine rfl rfl rfl (by decide +kernel) ⟨Nat.le_of_ble_eq_true rfl, Nat.le_of_ble_eq_true rfl⟩) ⟨RPc.blind, va_recv hK hP (ci := 1) (q0 := 6) rfl rfl, (RPc.at (hP.sub [6, 7, 8] rfl) hK hN)⟩ rfl rfl hl.1 rfl (lv_room (Nat.le_of_ble_eq_true rfl)) dX4_scoreAbove_25 ⟨Nat.zero_le _, Nat.zero_le _⟩) ?_
  refine b_if_eq (tgt := 36) hx hb dX4_scoreAbove_28 (by decide) (fun c28_1 => ?_) (fun c28_1 => ?_)
  · skip
    have hnl : ¬ hasL w h (sq_put M c (ht c)) := fun q => by have := hlw.mpr q; rw [c28_1] at this; cases this
    have hch : Pos w h k (tp_inc ht c) T (sq_put M c (ht c)) (S (1 - n % 2)) (S (n % 2) ||| sqL h c (ht c)) := ⟨hpos.2.1, hpos.1.put hd hc hlc, hpos.2.2.child hc hlc hnl⟩
    refine lv_aload_n hx hb dX4_scoreAbove_36 rfl (lv_at hl 1 rfl) ?_
    refine va_get (C := RX4) (T := TX4) (N := 7) hx hb hts (by decide +kernel) hown hK hP 0 rfl rfl 1 (by decide) (hts (.fieldLink RX4 35 RX4 "search" "LDropFour$Search;") (by decide +kernel)) (fun _ h9 => h9) rfl dX4_scoreAbove_37 ?_
    refine lv_aload_n hx hb dX4_scoreAbove_40 rfl (lv_at hl 1 rfl) ?_
    refine ro_call (W.runV (As := []) (rest := [.ref se]) ⟨hx, hb, hml, hown, hts⟩ (c_theirs l D cI cJ cZ w h x sn hs hi g st cs fo se S ht hy n hd hht hn) (cwV 0 hts gX4_scoreAbove_X4_theirs rfl rfl rfl (by decide +kernel) ⟨Nat.le_of_ble_eq_true rfl, Nat.le_of_ble_eq_true rfl⟩) ⟨RPc.blind, va_recv hK hP (ci := 4) (q0 := 0) rfl rfl, (RPc.at (hP.sub [0, 1, 2, 3, 6, 7, 8] rfl) hK hN)⟩ rfl rfl hl.1 rfl (lv_room (Nat.le_of_ble_eq_true rfl)) dX4_scoreAbove_41 ⟨Nat.zero_le _, Nat.zero_le _⟩) ?_
    refine lv_lload_n hx hb dX4_scoreAbove_44 rfl (lv_at hl 0 rfl) ?_
    refine lv_aload_n hx hb dX4_scoreAbove_45 rfl (lv_at hl 1 rfl) ?_
    refine ro_call (W.runV (As := []) (rest := [.long ((S (n % 2)) ||| (sqL h c (ht c))), .long (S (1 - n % 2)), .ref se]) ⟨hx, hb, hml, hown, hts⟩ (c_empty l D cI cJ cZ w h x sn hs hi g st cs fo se S ht hy n hd hht hn) (cwV 0 hts gX4_scoreAbove_X4_empty rfl rfl rfl (by decide +kernel) ⟨Nat.le_of_ble_eq_true rfl, Nat.le_of_ble_eq_true rfl⟩) ⟨RPc.blind, va_recv hK hP (ci := 4) (q0 := 0) rfl rfl, (RPc.at (hP.sub [0, 1, 2, 3, 6, 7, 8] rfl) hK hN)⟩ rfl rfl hl.1 rfl (lv_room (Nat.le_of_ble_eq_true rfl)) dX4_scoreAbove_46 ⟨Nat.zero_le _, Nat.zero_le _⟩) ?_
    refine lv_iconst (v := nI 1) hx hb dX4_scoreAbove_49 (by decide) ?_
    refine n_isub hx hb dX4_scoreAbove_50 (by omega) ?_
    refine rt_i (v := nI k) (by rw [hEk, Nat.add_sub_cancel]) ?_
    refine lv_aload_n hx hb dX4_scoreAbove_51 rfl (lv_at hl 1 rfl) ?_
    refine ro_call (W.runV (As := []) (rest := [.int (nI k), .long ((S (n % 2)) ||| (sqL h c (ht c))), .long (S (1 - n % 2)), .ref se]) ⟨hx, hb, hml, hown, hts⟩ (c_empty l D cI cJ cZ w h x sn hs hi g st cs fo se S ht hy n hd hht hn) (cwV 0 hts gX4_scoreAbove_X4_empty rfl rfl rfl (by decide +kernel) ⟨Nat.le_of_ble_eq_true rfl, Nat.le_of_ble_eq_true rfl⟩) ⟨RPc.blind, va_recv hK hP (ci := 4) (q0 := 0) rfl rfl, (RPc.at (hP.sub [0, 1, 2, 3, 6, 7, 8] rfl) hK hN)⟩ rfl rfl hl.1 rfl (lv_room (Nat.le_of_ble_eq_true rfl)) dX4_scoreAbove_52 ⟨Nat.zero_le _, Nat.zero_le _⟩) ?_
    refine rt_i (v := zI ((w * h - n : Nat) : Int)) (zI_n _).symm ?_
    refine z_ineg hx hb dX4_scoreAbove_55 ?_
    refine lv_iload_n hx hb dX4_scoreAbove_56 rfl (lv_at hl 2 rfl) ?_
    refine z_ineg hx hb dX4_scoreAbove_57 ?_
    refine mu_calli (wr := [(x, .inr (4, [.ref g, .ref se, .ref fo, .ref sn, .ref hs, .ref hi, .int (nI n)])), (sn, .inl (cJ, 2, .inr (.inl S))), (hs, .inl (cI, w, .inl (fun j => nI (ht j)))), (hi, .inl (cI, w * h, .inl (fun j => nI (hy j))))]) (va_runVN (As := [.long (S (1 - n % 2)), .long ((S (n % 2)) ||| (sqL h c (ht c))), .int (nI k), .int (zI (-((w * h - n : Nat) : Int))), .int (zI (-low))]) (rest := []) ⟨hx, hb, hml, hown, hts⟩ (c_score l D cI cJ cZ w h se mi g st cs me ks le mo hd 12 u k (tp_inc ht c) T (sq_put M c (ht c)) (S (1 - n % 2)) (S (n % 2) ||| sqL h c (ht c)) (-((w * h - n : Nat) : Int)) (-low) s.heap.size hk12 hch (by omega) (by omega) (by omega) hmem) ⟨va_cnB 5 hts gX4_scoreAbove_X3_score_n140 rfl rfl rfl (hN.at 11 rfl) (hts (.initialized RX3) (by decide +kernel)) (by decide +kernel) ⟨Nat.le_of_ble_eq_true rfl, Nat.le_of_ble_eq_true rfl⟩, hts (.instanceMethod yX3_score) (by decide +kernel), hts (.selects RX3 yX3_score yX3_score) (by decide +kernel)⟩ ⟨MPc.blind, va_recv hK hP (ci := 3) (q0 := 4) rfl rfl, (MPc.at (hP.sub [4, 5, 6, 7, 8, 9, 10, 11, 12] rfl) (hD.sub [4, 5, 6, 7, 8, 9, 10, 11, 12] (by decide) rfl) hK hN)⟩ rfl rfl hl.1 rfl (lv_room (Nat.le_of_ble_eq_true rfl)) dX4_scoreAbove_58 ⟨Nat.zero_le _, Nat.zero_le _⟩) hP hD hS hA [4, 5, 6, 7, 8, 9, 10, 11, 12] [0, 1, 2, 3] rfl rfl (by decide) (by decide) (fun rr v1 H locs hw hP hD hS => ?_)
    obtain ⟨hm1, z, rfl, hz, hz1, hz2⟩ := hw
    refine z_ineg hx hb dX4_scoreAbove_61 ?_
    have hMv : Mv w h k ht M T c = -(Sc w h k (tp_inc ht c) T (sq_put M c (ht c))) := Mv_go hnl
    have hSb := Sc_bd w h k (tp_inc ht c) T (sq_put M c (ht c))
    exact mu_iret (S := Mem) hx hb hr hlocks v1 ⟨hm1, -z, rfl, by unfold saPost; unfold scPost at hz; omega, by omega, by omega⟩ hP hD hS dX4_scoreAbove_62
  refine lv_aload_n hx hb dX4_scoreAbove_31 rfl (lv_at hl 1 rfl) ?_
  refine ro_call (W.runV (As := []) (rest := []) ⟨hx, hb, hml, hown, hts⟩ (c_empty l D cI cJ cZ w h x sn hs hi g st cs fo se S ht hy n hd hht hn) (cwV 0 hts gX4_scoreAbove_X4_empty rfl rfl rfl (by decide +kernel) ⟨Nat.le_of_ble_eq_true rfl, Nat.le_of_ble_eq_true rfl⟩) ⟨RPc.blind, va_recv hK hP (ci := 4) (q0 := 0) rfl rfl, (RPc.at (hP.sub [0, 1, 2, 3, 6, 7, 8] rfl) hK hN)⟩ rfl rfl hl.1 rfl (lv_room (Nat.le_of_ble_eq_true rfl)) dX4_scoreAbove_32 ⟨Nat.zero_le _, Nat.zero_le _⟩) ?_
  exact mu_iret (S := Mem) hx hb hr hlocks u ⟨hmem, ((k + 1 : Nat) : Int), by rw [zI_n, hEk], Or.inl (by rw [Mv_win (hlw.mp c28_1)]; rfl), by omega, by omega⟩ hP hD hS dX4_scoreAbove_35

set_option maxHeartbeats 4000000 in
set_option maxRecDepth 100000 in
theorem p_value (l : Launch) (D : va_G) (cI cJ cZ : ClassId) (w h x sn hs hi g st cs fo se mi me ks le mo : Nat) (S : Nat → Int64) (ht hy : Nat → Nat) (n : Nat) (u : Mem) (sz : Nat) (hd : Dm w h) (hht : ∀ j, ht j ≤ h) (hn : n ≤ w * h) (k : Nat) (hEk : w * h - n = k + 1) (hk12 : k ≤ 12) (M T : Sq) (hpos : Pos w h (k + 1) ht M T (S (n % 2)) (S (1 - n % 2))) (hmem : MemOK w h u) (hcv : cvB w h S n = true) : Met l yX4_value wsX4_value (k2_rm 44 1685) (MPc D [.ref x] (vW cI cJ w h x sn hs hi g st cs fo se mi me ks le mo S ht hy n u) (tyA cI cJ cZ) sz) (mQi D (fun r (v : Mem) => MemOK w h v ∧ r = idI (w * h - n) (zI (Sc w h (k + 1) ht M T))) (fun v => (vW cI cJ w h x sn hs hi g st cs fo se mi me ks le mo S ht hy n v)) (va_A (vW cI cJ w h x sn hs hi g st cs fo se mi me ks le mo S ht hy n u) sz)) 0 0 (va_A (vW cI cJ w h x sn hs hi g st cs fo se mi me ks le mo S ht hy n u) sz) := by
  refine mu_head (Qc := fun A => mQi D (fun r (v : Mem) => MemOK w h v ∧ r = idI (w * h - n) (zI (Sc w h (k + 1) ht M T))) (fun v => (vW cI cJ w h x sn hs hi g st cs fo se mi me ks le mo S ht hy n v)) A) (cc := cX4_value) (maxL := 1) (ret := (some .int)) (by decide) rfl (Nat.le_of_ble_eq_true rfl) ?_
  intro p e s m below meth cd ls A hx hb hr hlocks hnm hts hown hml hA hP hK hD hN hS hl
  have hl : lv_has ls 1 [(0, .ref x)] := hl
  have hd0 := hd
  obtain ⟨h3w, hw9, h3h, hh7, hwh, h64⟩ := hd0
  refine lv_aload_n hx hb dX4_value_0 rfl (lv_at hl 0 rfl) ?_
  refine ro_call (W.runV (As := []) (rest := []) ⟨hx, hb, hml, hown, hts⟩ (c_canBeValued l D cI cJ cZ w h x sn hs hi g st cs fo se S ht hy n hd hht hn) (cwV 0 hts gX4_value_X4_canBeValued rfl rfl rfl (by decide +kernel) ⟨Nat.le_of_ble_eq_true rfl, Nat.le_of_ble_eq_true rfl⟩) ⟨RPc.blind, va_recv hK hP (ci := 4) (q0 := 0) rfl rfl, (RPc.at (hP.sub [0, 1, 2, 3, 6, 7, 8] rfl) hK hN)⟩ rfl rfl hl.1 rfl (lv_room (Nat.le_of_ble_eq_true rfl)) dX4_value_1 ⟨Nat.zero_le _, Nat.zero_le _⟩) ?_
  refine b_if_ne (tgt := 17) hx hb dX4_value_4 (by decide) (fun c4_1 => ?_) (fun c4_1 => ?_)
  · skip
    refine lv_aload_n hx hb dX4_value_17 rfl (lv_at hl 0 rfl) ?_
    refine lv_aload_n hx hb dX4_value_18 rfl (lv_at hl 0 rfl) ?_
    refine va_get (C := RX4) (T := TX4) (N := 7) hx hb hts (by decide +kernel) hown hK hP 0 rfl rfl 1 (by decide) (hts (.fieldLink RX4 35 RX4 "search" "LDropFour$Search;") (by decide +kernel)) (fun _ h9 => h9) rfl dX4_value_19 ?_
    refine lv_aload_n hx hb dX4_value_22 rfl (lv_at hl 0 rfl) ?_
    refine ro_call (W.runV (As := []) (rest := [.ref se, .ref x]) ⟨hx, hb, hml, hown, hts⟩ (c_mine l D cI cJ cZ w h x sn hs hi g st cs fo se S ht hy n hd hht hn) (cwV 0 hts gX4_value_X4_mine rfl rfl rfl (by decide +kernel) ⟨Nat.le_of_ble_eq_true rfl, Nat.le_of_ble_eq_true rfl⟩) ⟨RPc.blind, va_recv hK hP (ci := 4) (q0 := 0) rfl rfl, (RPc.at (hP.sub [0, 1, 2, 3, 6, 7, 8] rfl) hK hN)⟩ rfl rfl hl.1 rfl (lv_room (Nat.le_of_ble_eq_true rfl)) dX4_value_23 ⟨Nat.zero_le _, Nat.zero_le _⟩) ?_
    refine lv_aload_n hx hb dX4_value_26 rfl (lv_at hl 0 rfl) ?_
    refine ro_call (W.runV (As := []) (rest := [.long (S (n % 2)), .ref se, .ref x]) ⟨hx, hb, hml, hown, hts⟩ (c_theirs l D cI cJ cZ w h x sn hs hi g st cs fo se S ht hy n hd hht hn) (cwV 0 hts gX4_value_X4_theirs rfl rfl rfl (by decide +kernel) ⟨Nat.le_of_ble_eq_true rfl, Nat.le_of_ble_eq_true rfl⟩) ⟨RPc.blind, va_recv hK hP (ci := 4) (q0 := 0) rfl rfl, (RPc.at (hP.sub [0, 1, 2, 3, 6, 7, 8] rfl) hK hN)⟩ rfl rfl hl.1 rfl (lv_room (Nat.le_of_ble_eq_true rfl)) dX4_value_27 ⟨Nat.zero_le _, Nat.zero_le _⟩) ?_
    refine lv_aload_n hx hb dX4_value_30 rfl (lv_at hl 0 rfl) ?_
    refine ro_call (W.runV (As := []) (rest := [.long (S (1 - n % 2)), .long (S (n % 2)), .ref se, .ref x]) ⟨hx, hb, hml, hown, hts⟩ (c_empty l D cI cJ cZ w h x sn hs hi g st cs fo se S ht hy n hd hht hn) (cwV 0 hts gX4_value_X4_empty rfl rfl rfl (by decide +kernel) ⟨Nat.le_of_ble_eq_true rfl, Nat.le_of_ble_eq_true rfl⟩) ⟨RPc.blind, va_recv hK hP (ci := 4) (q0 := 0) rfl rfl, (RPc.at (hP.sub [0, 1, 2, 3, 6, 7, 8] rfl) hK hN)⟩ rfl rfl hl.1 rfl (lv_room (Nat.le_of_ble_eq_true rfl)) dX4_value_31 ⟨Nat.zero_le _, Nat.zero_le _⟩) ?_
    refine rt_i (v := nI (k + 1)) (by rw [hEk]) ?_
    refine lv_aload_n hx hb dX4_value_34 rfl (lv_at hl 0 rfl) ?_
    refine ro_call (W.runV (As := []) (rest := [.int (nI (k + 1)), .long (S (1 - n % 2)), .long (S (n % 2)), .ref se, .ref x]) ⟨hx, hb, hml, hown, hts⟩ (c_empty l D cI cJ cZ w h x sn hs hi g st cs fo se S ht hy n hd hht hn) (cwV 0 hts gX4_value_X4_empty rfl rfl rfl (by decide +kernel) ⟨Nat.le_of_ble_eq_true rfl, Nat.le_of_ble_eq_true rfl⟩) ⟨RPc.blind, va_recv hK hP (ci := 4) (q0 := 0) rfl rfl, (RPc.at (hP.sub [0, 1, 2, 3, 6, 7, 8] rfl) hK hN)⟩ rfl rfl hl.1 rfl (lv_room (Nat.le_of_ble_eq_true rfl)) dX4_value_35 ⟨Nat.zero_le _, Nat.zero_le _⟩) ?_
    refine rt_i (v := zI ((w * h - n : Nat) : Int)) (zI_n _).symm ?_
    refine z_ineg hx hb dX4_value_38 ?_
    refine lv_aload_n hx hb dX4_value_39 rfl (lv_at hl 0 rfl) ?_
    refine ro_call (W.runV (As := []) (rest := [.int (zI (-((w * h - n : Nat) : Int))), .int (nI (k + 1)), .long (S (1 - n % 2)), .long (S (n % 2)), .ref se, .ref x]) ⟨hx, hb, hml, hown, hts⟩ (c_empty l D cI cJ cZ w h x sn hs hi g st cs fo se S ht hy n hd hht hn) (cwV 0 hts gX4_value_X4_empty rfl rfl rfl (by decide +kernel) ⟨Nat.le_of_ble_eq_true rfl, Nat.le_of_ble_eq_true rfl⟩) ⟨RPc.blind, va_recv hK hP (ci := 4) (q0 := 0) rfl rfl, (RPc.at (hP.sub [0, 1, 2, 3, 6, 7, 8] rfl) hK hN)⟩ rfl rfl hl.1 rfl (lv_room (Nat.le_of_ble_eq_true rfl)) dX4_value_40 ⟨Nat.zero_le _, Nat.zero_le _⟩) ?_
    refine rt_i (v := zI ((w * h - n : Nat) : Int)) (zI_n _).symm ?_
    refine mu_calli (wr := [(x, .inr (4, [.ref g, .ref se, .ref fo, .ref sn, .ref hs, .ref hi, .int (nI n)])), (sn, .inl (cJ, 2, .inr (.inl S))), (hs, .inl (cI, w, .inl (fun j => nI (ht j)))), (hi, .inl (cI, w * h, .inl (fun j => nI (hy j))))]) (va_runVN (As := [.long (S (n % 2)), .long (S (1 - n % 2)), .int (nI (k + 1)), .int (zI (-((w * h - n : Nat) : Int))), .int (zI ((w * h - n : Nat) : Int))]) (rest := [.ref x]) ⟨hx, hb, hml, hown, hts⟩ (c_score l D cI cJ cZ w h se mi g st cs me ks le mo hd 13 u (k + 1) ht M T (S (n % 2)) (S (1 - n % 2)) (-((w * h - n : Nat) : Int)) ((w * h - n : Nat) : Int) s.heap.size (by omega) hpos (by omega) (by omega) (by omega) hmem) ⟨va_cnB 5 hts gX4_value_X3_score_n140 rfl rfl rfl (hN.at 11 rfl) (hts (.initialized RX3) (by decide +kernel)) (by decide +kernel) ⟨Nat.le_of_ble_eq_true rfl, Nat.le_of_ble_eq_true rfl⟩, hts (.instanceMethod yX3_score) (by decide +kernel), hts (.selects RX3 yX3_score yX3_score) (by decide +kernel)⟩ ⟨MPc.blind, va_recv hK hP (ci := 3) (q0 := 4) rfl rfl, (MPc.at (hP.sub [4, 5, 6, 7, 8, 9, 10, 11, 12] rfl) (hD.sub [4, 5, 6, 7, 8, 9, 10, 11, 12] (by decide) rfl) hK hN)⟩ rfl rfl hl.1 rfl (lv_room (Nat.le_of_ble_eq_true rfl)) dX4_value_43 ⟨Nat.zero_le _, Nat.zero_le _⟩) hP hD hS hA [4, 5, 6, 7, 8, 9, 10, 11, 12] [0, 1, 2, 3] rfl rfl (by decide) (by decide) (fun rr v1 H locs hw hP hD hS => ?_)
    obtain ⟨hm1, z, rfl, hz, hz1, hz2⟩ := hw
    have hSb := Sc_bd w h (k + 1) ht M T
    have hzS : z = Sc w h (k + 1) ht M T := by unfold scPost at hz; omega
    refine ro_call (W.runV (As := [.int (zI z)]) (rest := []) ⟨hx, hb, hml, hown, hts⟩ (c_inDrops l D cI cJ cZ w h x sn hs hi g st cs fo se S ht hy n (zI z) hd hht hn) (cwV 1 hts gX4_value_X4_inDrops rfl rfl rfl (by decide +kernel) ⟨Nat.le_of_ble_eq_true rfl, Nat.le_of_ble_eq_true rfl⟩) ⟨RPc.blind, va_recv hK hP (ci := 4) (q0 := 0) rfl rfl, (RPc.at (hP.sub [0, 1, 2, 3, 6, 7, 8] rfl) hK hN)⟩ rfl rfl hl.1 rfl (lv_room (Nat.le_of_ble_eq_true rfl)) dX4_value_46 ⟨Nat.zero_le _, Nat.zero_le _⟩) ?_
    exact mu_iret (S := Mem) hx hb hr hlocks v1 ⟨hm1, by rw [hzS]⟩ hP hD hS dX4_value_49
  · exact absurd c4_1 (by rw [hcv]; decide)

set_option maxHeartbeats 4000000 in
set_option maxRecDepth 100000 in
theorem p_valueOf (l : Launch) (D : va_G) (cI cJ cZ : ClassId) (w h x sn hs hi g st cs fo se mi me ks le mo : Nat) (S : Nat → Int64) (ht hy : Nat → Nat) (n : Nat) (u : Mem) (c : Nat) (sz : Nat) (hd : Dm w h) (hht : ∀ j, ht j ≤ h) (hn : n ≤ w * h) (k : Nat) (hEk : w * h - n = k + 1) (hk12 : k ≤ 12) (M T : Sq) (hpos : Pos w h (k + 1) ht M T (S (n % 2)) (S (1 - n % 2))) (hmem : MemOK w h u) (hcv : cvB w h S n = true) (hc : c < w) (hic : icB w (nI c) = true) (hlc : ht c < h) : Met l yX4_valueOf wsX4_valueOf (k2_rm 42 1605) (MPc D [.ref x, .int (nI c)] (vW cI cJ w h x sn hs hi g st cs fo se mi me ks le mo S ht hy n u) (tyA cI cJ cZ) sz) (mQi D (fun r (v : Mem) => MemOK w h v ∧ r = idI (w * h - n) (zI (Mv w h k ht M T c))) (fun v => (vW cI cJ w h x sn hs hi g st cs fo se mi me ks le mo S ht hy n v)) (va_A (vW cI cJ w h x sn hs hi g st cs fo se mi me ks le mo S ht hy n u) sz)) 0 0 (va_A (vW cI cJ w h x sn hs hi g st cs fo se mi me ks le mo S ht hy n u) sz) := by
  refine mu_head (Qc := fun A => mQi D (fun r (v : Mem) => MemOK w h v ∧ r = idI (w * h - n) (zI (Mv w h k ht M T c))) (fun v => (vW cI cJ w h x sn hs hi g st cs fo se mi me ks le mo S ht hy n v)) A) (cc := cX4_valueOf) (maxL := 2) (ret := (some .int)) (by decide) rfl (Nat.le_of_ble_eq_true rfl) ?_
  intro p e s m below meth cd ls A hx hb hr hlocks hnm hts hown hml hA hP hK hD hN hS hl
  have hl : lv_has ls 2 [(0, .ref x), (1, .int (nI c))] := hl
  have hd0 := hd
  obtain ⟨h3w, hw9, h3h, hh7, hwh, h64⟩ := hd0
  refine lv_aload_n hx hb dX4_valueOf_0 rfl (lv_at hl 0 rfl) ?_
  refine lv_iload_n hx hb dX4_valueOf_1 rfl (lv_at hl 1 rfl) ?_
  refine ro_call (W.runV (As := [.int (nI c)]) (rest := []) ⟨hx, hb, hml, hown, hts⟩ (c_isColumn l D cI cJ cZ w h x sn hs hi g st cs fo se S ht hy n (nI c) hd hht hn) (cwV 1 hts gX4_valueOf_X4_isColumn rfl rfl rfl (by decide +kernel) ⟨Nat.le_of_ble_eq_true rfl, Nat.le_of_ble_eq_true rfl⟩) ⟨RPc.blind, va_recv hK hP (ci := 4) (q0 := 0) rfl rfl, (RPc.at (hP.sub [0, 1, 2, 3, 6, 7, 8] rfl) hK hN)⟩ rfl rfl hl.1 rfl (lv_room (Nat.le_of_ble_eq_true rfl)) dX4_valueOf_2 ⟨Nat.zero_le _, Nat.zero_le _⟩) ?_
  refine b_if_ne (tgt := 18) hx hb dX4_valueOf_5 (by decide) (fun c5_1 => ?_) (fun c5_1 => ?_)
  · skip
    refine lv_aload_n hx hb dX4_valueOf_18 rfl (lv_at hl 0 rfl) ?_
    refine ro_call (W.runV (As := []) (rest := []) ⟨hx, hb, hml, hown, hts⟩ (c_canBeValued l D cI cJ cZ w h x sn hs hi g st cs fo se S ht hy n hd hht hn) (cwV 0 hts gX4_valueOf_X4_canBeValued rfl rfl rfl (by decide +kernel) ⟨Nat.le_of_ble_eq_true rfl, Nat.le_of_ble_eq_true rfl⟩) ⟨RPc.blind, va_recv hK hP (ci := 4) (q0 := 0) rfl rfl, (RPc.at (hP.sub [0, 1, 2, 3, 6, 7, 8] rfl) hK hN)⟩ rfl rfl hl.1 rfl (lv_room (Nat.le_of_ble_eq_true rfl)) dX4_valueOf_19 ⟨Nat.zero_le _, Nat.zero_le _⟩) ?_
    refine b_if_eq (tgt := 33) hx hb dX4_valueOf_22 (by decide) (fun c22_2 => ?_) (fun c22_2 => ?_)
    · exact absurd c22_2 (by rw [hcv]; decide)
    refine lv_aload_n hx hb dX4_valueOf_25 rfl (lv_at hl 0 rfl) ?_
    refine lv_iload_n hx hb dX4_valueOf_26 rfl (lv_at hl 1 rfl) ?_
    refine ro_call (W.runV (As := [.int (nI c)]) (rest := []) ⟨hx, hb, hml, hown, hts⟩ (c_isFull l D cI cJ cZ w h x sn hs hi g st cs fo se S ht hy n c hd hht hn (by omega)) (cwV 1 hts gX4_valueOf_X4_isFull rfl rfl rfl (by decide +kernel) ⟨Nat.le_of_ble_eq_true rfl, Nat.le_of_ble_eq_true rfl⟩) ⟨RPc.blind, va_recv hK hP (ci := 4) (q0 := 0) rfl rfl, (RPc.at (hP.sub [0, 1, 2, 3, 6, 7, 8] rfl) hK hN)⟩ rfl rfl hl.1 rfl (lv_room (Nat.le_of_ble_eq_true rfl)) dX4_valueOf_27 ⟨Nat.zero_le _, Nat.zero_le _⟩) ?_
    refine b_if_eq (tgt := 43) hx hb dX4_valueOf_30 (by decide) (fun c30_3 => ?_) (fun c30_3 => ?_)
    · skip
      refine lv_aload_n hx hb dX4_valueOf_43 rfl (lv_at hl 0 rfl) ?_
      refine lv_aload_n hx hb dX4_valueOf_44 rfl (lv_at hl 0 rfl) ?_
      refine lv_aload_n hx hb dX4_valueOf_45 rfl (lv_at hl 0 rfl) ?_
      refine ro_call (W.runV (As := []) (rest := [.ref x, .ref x]) ⟨hx, hb, hml, hown, hts⟩ (c_empty l D cI cJ cZ w h x sn hs hi g st cs fo se S ht hy n hd hht hn) (cwV 0 hts gX4_valueOf_X4_empty rfl rfl rfl (by decide +kernel) ⟨Nat.le_of_ble_eq_true rfl, Nat.le_of_ble_eq_true rfl⟩) ⟨RPc.blind, va_recv hK hP (ci := 4) (q0 := 0) rfl rfl, (RPc.at (hP.sub [0, 1, 2, 3, 6, 7, 8] rfl) hK hN)⟩ rfl rfl hl.1 rfl (lv_room (Nat.le_of_ble_eq_true rfl)) dX4_valueOf_46 ⟨Nat.zero_le _, Nat.zero_le _⟩) ?_
      refine rt_i (v := zI ((w * h - n : Nat) : Int)) (zI_n _).symm ?_
      refine z_ineg hx hb dX4_valueOf_49 ?_
      refine lv_iload_n hx hb dX4_valueOf_50 rfl (lv_at hl 1 rfl) ?_
      refine mu_calli (wr := []) (va_runV (As := [.int (zI (-((w * h - n : Nat) : Int))), .int (nI c)]) (rest := [.ref x]) ⟨hx, hb, hml, hown, hts⟩ (p_scoreAbove l D cI cJ cZ w h x sn hs hi g st cs fo se mi me ks le mo S ht hy n u (-((w * h - n : Nat) : Int)) c s.heap.size hd hht hn k hEk hk12 M T hpos hmem hc hlc (by omega) (by omega)) (cwV 2 hts gX4_valueOf_X4_scoreAbove rfl rfl rfl (by decide +kernel) ⟨Nat.le_of_ble_eq_true rfl, Nat.le_of_ble_eq_true rfl⟩) ⟨MPc.blind, va_recv hK hP (ci := 4) (q0 := 0) rfl rfl, (MPc.at (hP.sub [0, 1, 2, 3, 4, 5, 6, 7, 8, 9, 10, 11, 12] rfl) (hD.sub [0, 1, 2, 3, 4, 5, 6, 7, 8, 9, 10, 11, 12] (by decide) rfl) hK hN)⟩ rfl rfl hl.1 rfl (lv_room (Nat.le_of_ble_eq_true rfl)) dX4_valueOf_51 ⟨Nat.zero_le _, Nat.zero_le _⟩) hP hD hS hA [0, 1, 2, 3, 4, 5, 6, 7, 8, 9, 10, 11, 12] [] rfl rfl (by decide) (by decide) (fun rr v1 H locs hw hP hD hS => ?_)
      obtain ⟨hm1, z, rfl, hz, hz1, hz2⟩ := hw
      refine ro_call (W.runV (As := [.int (zI z)]) (rest := []) ⟨hx, hb, hml, hown, hts⟩ (c_inDrops l D cI cJ cZ w h x sn hs hi g st cs fo se S ht hy n (zI z) hd hht hn) (cwV 1 hts gX4_valueOf_X4_inDrops rfl rfl rfl (by decide +kernel) ⟨Nat.le_of_ble_eq_true rfl, Nat.le_of_ble_eq_true rfl⟩) ⟨RPc.blind, va_recv hK hP (ci := 4) (q0 := 0) rfl rfl, (RPc.at (hP.sub [0, 1, 2, 3, 6, 7, 8] rfl) hK hN)⟩ rfl rfl hl.1 rfl (lv_room (Nat.le_of_ble_eq_true rfl)) dX4_valueOf_54 ⟨Nat.zero_le _, Nat.zero_le _⟩) ?_
      have hMb := Mv_bd w h k ht M T c
      have hzS : z = Mv w h k ht M T c := by unfold saPost at hz; omega
      exact mu_iret (S := Mem) hx hb hr hlocks v1 ⟨hm1, by rw [hzS]⟩ hP hD hS dX4_valueOf_57
    · exact absurd c30_3 (by rw [decide_eq_false (by omega)]; decide)
  · exact absurd c5_1 (by rw [hic]; decide)

set_option maxHeartbeats 4000000 in
set_option maxRecDepth 100000 in
theorem p_best (l : Launch) (D : va_G) (cI cJ cZ : ClassId) (w h x sn hs hi g st cs fo se mi me ks le mo : Nat) (S : Nat → Int64) (ht hy : Nat → Nat) (n : Nat) (u : Mem) (sz : Nat) (hd : Dm w h) (hht : ∀ j, ht j ≤ h) (hn : n ≤ w * h) (k : Nat) (hEk : w * h - n = k + 1) (hk12 : k ≤ 12) (M T : Sq) (hpos : Pos w h (k + 1) ht M T (S (n % 2)) (S (1 - n % 2))) (hmem : MemOK w h u) (hcv : cvB w h S n = true) : Met l yX4_best wsX4_best (k2_rm 42 1605) (MPc D [.ref x] (vW cI cJ w h x sn hs hi g st cs fo se mi me ks le mo S ht hy n u) (tyA cI cJ cZ) sz) (mQi D (fun r (v : Mem) => MemOK w h v ∧ ∃ fz fs : Int, r = zI fz ∧ bsC h ht (Mv w h k ht M T) (-((k : Int) + 1) - 1) w fz fs) (fun v => (vW cI cJ w h x sn hs hi g st cs fo se mi me ks le mo S ht hy n v)) (va_A (vW cI cJ w h x sn hs hi g st cs fo se mi me ks le mo S ht hy n u) sz)) 0 0 (va_A (vW cI cJ w h x sn hs hi g st cs fo se mi me ks le mo S ht hy n u) sz) := by
  refine mu_head (Qc := fun A => mQi D (fun r (v : Mem) => MemOK w h v ∧ ∃ fz fs : Int, r = zI fz ∧ bsC h ht (Mv w h k ht M T) (-((k : Int) + 1) - 1) w fz fs) (fun v => (vW cI cJ w h x sn hs hi g st cs fo se mi me ks le mo S ht hy n v)) A) (cc := cX4_best) (maxL := 5) (ret := (some .int)) (by decide) rfl (Nat.le_of_ble_eq_true rfl) ?_
  intro p e s m below meth cd ls A hx hb hr hlocks hnm hts hown hml hA hP hK hD hN hS hl
  have hl : lv_has ls 5 [(0, .ref x)] := hl
  have hd0 := hd
  obtain ⟨h3w, hw9, h3h, hh7, hwh, h64⟩ := hd0
  refine lv_aload_n hx hb dX4_best_0 rfl (lv_at hl 0 rfl) ?_
  refine ro_call (W.runV (As := []) (rest := []) ⟨hx, hb, hml, hown, hts⟩ (c_canBeValued l D cI cJ cZ w h x sn hs hi g st cs fo se S ht hy n hd hht hn) (cwV 0 hts gX4_best_X4_canBeValued rfl rfl rfl (by decide +kernel) ⟨Nat.le_of_ble_eq_true rfl, Nat.le_of_ble_eq_true rfl⟩) ⟨RPc.blind, va_recv hK hP (ci := 4) (q0 := 0) rfl rfl, (RPc.at (hP.sub [0, 1, 2, 3, 6, 7, 8] rfl) hK hN)⟩ rfl rfl hl.1 rfl (lv_room (Nat.le_of_ble_eq_true rfl)) dX4_best_1 ⟨Nat.zero_le _, Nat.zero_le _⟩) ?_
  refine b_if_ne (tgt := 17) hx hb dX4_best_4 (by decide) (fun c4_1 => ?_) (fun c4_1 => ?_)
  · skip
    refine lv_iconst (v := zI (-1)) hx hb dX4_best_17 (by decide) ?_
    refine lv_istore_n (lv' := [(1, .int (zI (-1))), (0, .ref x)]) hx hb dX4_best_18 rfl hl (by decide) rfl (fun ls hl => ?_)
    refine lv_aload_n hx hb dX4_best_19 rfl (lv_at hl 1 rfl) ?_
    refine ro_call (W.runV (As := []) (rest := []) ⟨hx, hb, hml, hown, hts⟩ (c_empty l D cI cJ cZ w h x sn hs hi g st cs fo se S ht hy n hd hht hn) (cwV 0 hts gX4_best_X4_empty rfl rfl rfl (by decide +kernel) ⟨Nat.le_of_ble_eq_true rfl, Nat.le_of_ble_eq_true rfl⟩) ⟨RPc.blind, va_recv hK hP (ci := 4) (q0 := 0) rfl rfl, (RPc.at (hP.sub [0, 1, 2, 3, 6, 7, 8] rfl) hK hN)⟩ rfl rfl hl.1 rfl (lv_room (Nat.le_of_ble_eq_true rfl)) dX4_best_20 ⟨Nat.zero_le _, Nat.zero_le _⟩) ?_
    refine rt_i (v := zI ((w * h - n : Nat) : Int)) (zI_n _).symm ?_
    refine z_ineg hx hb dX4_best_23 ?_
    refine lv_iconst (v := zI (1)) hx hb dX4_best_24 (by decide) ?_
    refine z_isub hx hb dX4_best_25 ?_
    refine lv_istore_n (lv' := [(2, .int (zI ((-((w * h - n : Nat) : Int)) - 1))), (1, .int (zI (-1))), (0, .ref x)]) hx hb dX4_best_26 rfl hl (by decide) rfl (fun ls hl => ?_)
    refine lv_iconst (v := nI 0) hx hb dX4_best_27 (by decide) ?_
    refine lv_istore_n (lv' := [(3, .int (nI 0)), (2, .int (zI ((-((w * h - n : Nat) : Int)) - 1))), (1, .int (zI (-1))), (0, .ref x)]) hx hb dX4_best_28 rfl hl (by decide) rfl (fun ls hl => ?_)
    refine loopH (σ := Int × Int × Mem) (m := m) (Wf := fun H locs g => W p l e _ s m _ below meth cd H locs _ _ _ g) 29 5 (fun i qx => [(0, .ref x), (3, .int (nI i)), (1, .int (zI qx.1)), (2, .int (zI qx.2.1))]) (fun i qx => (vW cI cJ w h x sn hs hi g st cs fo se mi me ks le mo S ht hy n qx.2.2)) (fun i qx => MemOK w h qx.2.2 ∧ bsC h ht (Mv w h k ht M T) (-((k : Int) + 1) - 1) i qx.1 qx.2.1) w ?_ ?_ 0 (-1, (-((w * h - n : Nat) : Int)) - 1, u) ls _ _ (by omega) ⟨hmem, Or.inl ⟨rfl, by dsimp only; omega, fun c h0 => absurd h0 (Nat.not_lt_zero _)⟩⟩ hP hD hS (lv_sub hl [3, 0, 2, 1] rfl)
    · intro c qx ls H locs hi_29 hI_29 hP hD hS hl ih_29
      obtain ⟨fz, fs, v⟩ := qx
      have hl : lv_has ls 5 [(0, .ref x), (3, .int (nI c)), (1, .int (zI fz)), (2, .int (zI fs))] := hl
      have hP : va_P D vwCl (vW cI cJ w h x sn hs hi g st cs fo se mi me ks le mo S ht hy n v) H := hP
      have hD : va_D A (vW cI cJ w h x sn hs hi g st cs fo se mi me ks le mo S ht hy n v) := hD
      have hI_29 : MemOK w h v ∧ bsC h ht (Mv w h k ht M T) (-((k : Int) + 1) - 1) c fz fs := hI_29
      have hbb := hI_29.2.bd (a := -(k : Int)) (b := (k : Int) + 1) (Mv_bd w h k ht M T) (by omega) (by omega)
      refine lv_iload_n hx hb dX4_best_29 rfl (lv_at hl 1 rfl) ?_
      refine lv_aload_n hx hb dX4_best_30 rfl (lv_at hl 0 rfl) ?_
      refine va_get (C := RX4) (T := TX4) (N := 7) hx hb hts (by decide +kernel) hown hK hP 0 rfl rfl 0 (by decide) (hts (.fieldLink RX4 26 RX4 "grid" "LDropFour$Grid;") (by decide +kernel)) (fun _ h9 => h9) rfl dX4_best_31 ?_
      refine va_getN (C := RX1) (T := TX1) (N := 6) hx hb hts (by decide +kernel) hown hK hP 6 rfl rfl 0 (by decide) (hN.use 9 rfl rfl) (fun _ h9 => h9) rfl dX4_best_34 ?_
      refine n_icmp_ge (tgt := 73) hx hb dX4_best_37 (by decide) (by omega) (by omega) (fun c37_2 => ?_) (fun c37_2 => ?_)
      · exact absurd c37_2 (by omega)
      refine lv_aload_n hx hb dX4_best_40 rfl (lv_at hl 0 rfl) ?_
      refine lv_iload_n hx hb dX4_best_41 rfl (lv_at hl 1 rfl) ?_
      refine ro_call (W.runV (As := [.int (nI c)]) (rest := []) ⟨hx, hb, hml, hown, hts⟩ (c_isFull l D cI cJ cZ w h x sn hs hi g st cs fo se S ht hy n c hd hht hn (by omega)) (cwV 1 hts gX4_best_X4_isFull rfl rfl rfl (by decide +kernel) ⟨Nat.le_of_ble_eq_true rfl, Nat.le_of_ble_eq_true rfl⟩) ⟨RPc.blind, va_recv hK hP (ci := 4) (q0 := 0) rfl rfl, (RPc.at (hP.sub [0, 1, 2, 3, 6, 7, 8] rfl) hK hN)⟩ rfl rfl hl.1 rfl (lv_room (Nat.le_of_ble_eq_true rfl)) dX4_best_42 ⟨Nat.zero_le _, Nat.zero_le _⟩) ?_
      refine b_if_ne (tgt := 67) hx hb dX4_best_45 (by decide) (fun c45_3 => ?_) (fun c45_3 => ?_)
      · skip
        refine n_iinc (n := 1) (lv' := [(3, .int (nI (c + 1))), (0, .ref x), (1, .int (zI fz)), (2, .int (zI fs))]) hx hb dX4_best_67 hl (k := 1) rfl (by decide) rfl (fun ls hl => ?_)
        refine lv_goto (tgt := 29) hx hb dX4_best_70 (by decide) ?_
        exact ih_29 (fz, fs, v) ls _ _ ⟨hI_29.1, hI_29.2.full (by have := of_decide_eq_true c45_3; omega)⟩ hP hD hS (lv_sub hl [1, 0, 2, 3] rfl)
      have hlc : ht c < h := by have := of_decide_eq_false c45_3; omega
      refine lv_aload_n hx hb dX4_best_48 rfl (lv_at hl 0 rfl) ?_
      refine lv_iload_n hx hb dX4_best_49 rfl (lv_at hl 3 rfl) ?_
      refine lv_iload_n hx hb dX4_best_50 rfl (lv_at hl 1 rfl) ?_
      refine mu_calli (wr := []) (va_runV (As := [.int (zI fs), .int (nI c)]) (rest := []) ⟨hx, hb, hml, hown, hts⟩ (p_scoreAbove l D cI cJ cZ w h x sn hs hi g st cs fo se mi me ks le mo S ht hy n v fs c H.size hd hht hn k hEk hk12 M T hpos hI_29.1 hi_29 hlc (by omega) (by omega)) (cwV 2 hts gX4_best_X4_scoreAbove rfl rfl rfl (by decide +kernel) ⟨Nat.le_of_ble_eq_true rfl, Nat.le_of_ble_eq_true rfl⟩) ⟨MPc.blind, va_recv hK hP (ci := 4) (q0 := 0) rfl rfl, (MPc.at (hP.sub [0, 1, 2, 3, 4, 5, 6, 7, 8, 9, 10, 11, 12] rfl) (hD.sub [0, 1, 2, 3, 4, 5, 6, 7, 8, 9, 10, 11, 12] (by decide) rfl) hK hN)⟩ rfl rfl hl.1 rfl (lv_room (Nat.le_of_ble_eq_true rfl)) dX4_best_51 ⟨Nat.zero_le _, Nat.zero_le _⟩) hP hD hS hA [0, 1, 2, 3, 4, 5, 6, 7, 8, 9, 10, 11, 12] [] rfl rfl (by decide) (by decide) (fun rr v1 H locs hw hP hD hS => ?_)
      obtain ⟨hm1, z, rfl, hz, hz1, hz2⟩ := hw
      refine lv_istore (lv' := [(4, .int (zI z)), (0, .ref x), (3, .int (nI c)), (1, .int (zI fz)), (2, .int (zI fs))]) hx hb dX4_best_54 hl (by decide) rfl (fun ls hl => ?_)
      refine lv_iload hx hb dX4_best_56 (lv_at hl 0 rfl) ?_
      refine lv_iload_n hx hb dX4_best_58 rfl (lv_at hl 4 rfl) ?_
      refine z_icmp_le (tgt := 67) hx hb dX4_best_59 (by decide) (by unfold zB; omega) (by unfold zB; omega) (fun c59_4 => ?_) (fun c59_4 => ?_)
      · skip
        refine n_iinc (n := 1) (lv' := [(3, .int (nI (c + 1))), (4, .int (zI z)), (0, .ref x), (1, .int (zI fz)), (2, .int (zI fs))]) hx hb dX4_best_67 hl (k := 2) rfl (by decide) rfl (fun ls hl => ?_)
        refine lv_goto (tgt := 29) hx hb dX4_best_70 (by decide) ?_
        exact ih_29 (fz, fs, v1) ls _ _ ⟨hm1, hI_29.2.keep hlc hz c59_4 (by have := Mv_bd w h k ht M T c; omega)⟩ hP hD hS (lv_sub hl [2, 0, 3, 4] rfl)
      refine lv_iload_n hx hb dX4_best_62 rfl (lv_at hl 2 rfl) ?_
      refine rt_i (v := zI (c : Int)) (zI_n _).symm ?_
      refine lv_istore_n (lv' := [(1, .int (zI (c : Int))), (4, .int (zI z)), (0, .ref x), (3, .int (nI c)), (2, .int (zI fs))]) hx hb dX4_best_63 rfl hl (by decide) rfl (fun ls hl => ?_)
      refine lv_iload hx hb dX4_best_64 (lv_at hl 1 rfl) ?_
      refine lv_istore_n (lv' := [(2, .int (zI z)), (1, .int (zI (c : Int))), (4, .int (zI z)), (0, .ref x), (3, .int (nI c))]) hx hb dX4_best_66 rfl hl (by decide) rfl (fun ls hl => ?_)
      refine n_iinc (n := 1) (lv' := [(3, .int (nI (c + 1))), (2, .int (zI z)), (1, .int (zI (c : Int))), (4, .int (zI z)), (0, .ref x)]) hx hb dX4_best_67 hl (k := 4) rfl (by decide) rfl (fun ls hl => ?_)
      refine lv_goto (tgt := 29) hx hb dX4_best_70 (by decide) ?_
      exact ih_29 ((c : Int), z, v1) ls _ _ ⟨hm1, hI_29.2.new hlc hz c59_4⟩ hP hD hS (lv_sub hl [4, 0, 2, 1] rfl)
    · intro qx ls H locs hI_29 hP hD hS hl
      obtain ⟨fz, fs, v⟩ := qx
      have hl : lv_has ls 5 [(0, .ref x), (3, .int (nI w)), (1, .int (zI fz)), (2, .int (zI fs))] := hl
      have hP : va_P D vwCl (vW cI cJ w h x sn hs hi g st cs fo se mi me ks le mo S ht hy n v) H := hP
      have hD : va_D A (vW cI cJ w h x sn hs hi g st cs fo se mi me ks le mo S ht hy n v) := hD
      have hI_29 : MemOK w h v ∧ bsC h ht (Mv w h k ht M T) (-((k : Int) + 1) - 1) w fz fs := hI_29
      refine lv_iload_n hx hb dX4_best_29 rfl (lv_at hl 1 rfl) ?_
      refine lv_aload_n hx hb dX4_best_30 rfl (lv_at hl 0 rfl) ?_
      refine va_get (C := RX4) (T := TX4) (N := 7) hx hb hts (by decide +kernel) hown hK hP 0 rfl rfl 0 (by decide) (hts (.fieldLink RX4 26 RX4 "grid" "LDropFour$Grid;") (by decide +kernel)) (fun _ h9 => h9) rfl dX4_best_31 ?_
      refine va_getN (C := RX1) (T := TX1) (N := 6) hx hb hts (by decide +kernel) hown hK hP 6 rfl rfl 0 (by decide) (hN.use 9 rfl rfl) (fun _ h9 => h9) rfl dX4_best_34 ?_
      refine n_icmp_ge (tgt := 73) hx hb dX4_best_37 (by decide) (by omega) (by omega) (fun c37_5 => ?_) (fun c37_5 => ?_)
      · skip
        refine lv_iload_n hx hb dX4_best_73 rfl (lv_at hl 2 rfl) ?_
        exact mu_iret (S := Mem) hx hb hr hlocks v ⟨hI_29.1, fz, fs, rfl, hI_29.2⟩ hP hD hS dX4_best_74
      · exact absurd c37_5 (by omega)
  · exact absurd c4_1 (by rw [hcv]; decide)
