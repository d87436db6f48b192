
set_option maxHeartbeats 4000000 in
set_option maxRecDepth 100000 in
theorem c5_value_no (l : Launch) (D : va_G) (cI cJ cZ : ClassId) (ad : Nat → Nat) (w h th n kn po : Nat) (B : Nat → Int32) (ht dr wh sb : Nat → Nat) (V : Nat → Int32) (la sl we of_ : Nat → Nat) (Sn : Nat → Int32) (tp re : Nat → Nat)  (sz : Nat) (hd : Dm w h) (hn : n ≤ w * h) (hlast : 0 < n → dr (n - 1) < w ∧ 1 ≤ ht (dr (n - 1)) ∧ ht (dr (n - 1)) ≤ h) (hif : ifB w h B ht dr n = true) : Met l yX5_value wsX5_value (k2_rm 6 150) (MPc D [.ref (ad 0)] (mW5 cI cZ ad w h th n kn po B ht dr wh sb V la sl we of_ Sn tp re) (tyA cI cJ cZ) sz) (mQi D (fun r9 (_ : Unit) => r9 = nI 0) (fun _ => (mW5 cI cZ ad w h 1 n kn po B ht dr wh sb V la sl we of_ Sn tp re)) (va_A (mW5 cI cZ ad w h th n kn po B ht dr wh sb V la sl we of_ Sn tp re) sz)) 0 0 (va_A (mW5 cI cZ ad w h th n kn po B ht dr wh sb V la sl we of_ Sn tp re) sz) := by
  refine mu_head (Qc := fun A => mQi D (fun r9 (_ : Unit) => r9 = nI 0) (fun _ => (mW5 cI cZ ad w h 1 n kn po B ht dr wh sb V la sl we of_ Sn tp re)) A) (cc := cX5_value) (maxL := 1) (ret := (some .int)) (by decide) rfl (Nat.le_of_ble_eq_true rfl) ?_
  intro p e s m below meth cd ls A hx hb hr hlocks hnm hts hown hml hA hP hK hD hN hS hl
  have hl : lv_has ls 1 [(0, .ref (ad 0))] := hl
  have hd0 := hd
  obtain ⟨h3w, hw9, h3h, hh7, hwh, h64⟩ := hd0
  refine lv_aload_n hx hb dX5_value_0 rfl (lv_at hl 0 rfl) ?_
  refine lv_aload_n hx hb dX5_value_1 rfl (lv_at hl 0 rfl) ?_
  refine ro_call (W.runV (As := []) (rest := [.ref (ad 0)]) ⟨hx, hb, hml, hown, hts⟩ (c_isFar l D cI cJ cZ ad w h th n kn po B ht dr wh sb V la sl we of_ Sn tp re hd hn hlast) (cwV 0 hts gX5_value_X5_isFar rfl rfl rfl (by decide +kernel) ⟨Nat.le_of_ble_eq_true rfl, Nat.le_of_ble_eq_true rfl⟩) ⟨RPc.blind, va_recv hK hP (ci := 5) (q0 := 0) rfl rfl, (RPc.at (hP.sub [0, 1, 2, 3, 4, 5, 6, 7, 8, 9, 10, 11, 12, 13] rfl) hK hN)⟩ rfl rfl hl.1 rfl (lv_room (Nat.le_of_ble_eq_true rfl)) dX5_value_2 ⟨Nat.zero_le _, Nat.zero_le _⟩) ?_
  refine rt_i (v := bI true) (by rw [hif]) ?_
  refine lv_iconst (v := nI 0) hx hb dX5_value_5 (by decide) ?_
  refine rt_i (v := bI false) rfl ?_
  refine mu_calli (wr := []) (va_runV (As := [.int (bI true), .int (bI false)]) (rest := []) ⟨hx, hb, hml, hown, hts⟩ (c5_refused l D cI cJ cZ ad w h th n kn po B ht dr wh sb V la sl we of_ Sn tp re true false _ ) (cwV 2 hts gX5_value_X5_refused rfl rfl rfl (by decide +kernel) ⟨Nat.le_of_ble_eq_true rfl, Nat.le_of_ble_eq_true rfl⟩) ⟨MPc.blind, va_recv hK hP (ci := 5) (q0 := 0) rfl rfl, (MPc.at (hP.sub [0, 1, 2, 3, 4, 5, 6, 7, 8, 9, 10, 11, 12, 13] rfl) (hD.sub [0, 1, 2, 3, 4, 5, 6, 7, 8, 9, 10, 11, 12, 13] (by decide) rfl) hK hN)⟩ rfl rfl hl.1 rfl (lv_room (Nat.le_of_ble_eq_true rfl)) dX5_value_6 ⟨Nat.zero_le _, Nat.zero_le _⟩) hP hD hS hA [0, 1, 2, 3, 4, 5, 6, 7, 8, 9, 10, 11, 12, 13] [] rfl rfl (by decide) (by decide) (fun rr u1 H locs hw hP hD hS => ?_)
  obtain rfl := hw
  have hP : va_P D vwCl (mW5 cI cZ ad w h (thN true false) n kn po B ht dr wh sb V la sl we of_ Sn tp re) H := hP
  have hD : va_D A (mW5 cI cZ ad w h (thN true false) n kn po B ht dr wh sb V la sl we of_ Sn tp re) := hD
  refine b_if_eq (tgt := 14) hx hb dX5_value_9 (by decide) (fun c9_1 => absurd c9_1 (by decide)) (fun _ => ?_)
  refine lv_iconst (v := nI 0) hx hb dX5_value_12 (by decide) ?_
  exact mu_iret (S := Unit) (wf := fun _ => (mW5 cI cZ ad w h 1 n kn po B ht dr wh sb V la sl we of_ Sn tp re)) hx hb hr hlocks () rfl hP hD hS dX5_value_13

set_option maxHeartbeats 4000000 in
set_option maxRecDepth 100000 in
theorem c5_value_ok (l : Launch) (D : va_G) (cI cJ cZ : ClassId) (ad : Nat → Nat) (w h th n kn po : Nat) (B : Nat → Int32) (ht dr wh sb : Nat → Nat) (V : Nat → Int32) (la sl we of_ : Nat → Nat) (Sn : Nat → Int32) (tp re : Nat → Nat) (E : Nat) (sz : Nat) (hd : Dm w h) (hn : n ≤ w * h) (hlast : 0 < n → dr (n - 1) < w ∧ 1 ≤ ht (dr (n - 1)) ∧ ht (dr (n - 1)) ≤ h) (hEq : w * h - n = E) (hE1 : 1 ≤ E) (R0 : RootOK w h B ht n E) (hwb : ∀ j, wh j < 8192) (hsb : ∀ j, sb j < 8192) (hsl0 : ∀ a, 262144 ≤ a → sl a = 0) (hkn : kn = 0 ∨ kn = 1 ∧ TblOK w h B ht n E po wh sb V sl we of_) (hif : ifB w h B ht dr n = false) : Met l yX5_value wsX5_value (k2_rm 6 150) (MPc D [.ref (ad 0)] (mW5 cI cZ ad w h th n kn po B ht dr wh sb V la sl we of_ Sn tp re) (tyA cI cJ cZ) sz) (mQi D (fun r9 (u : LkS) => lkP w h B ht n E u ∧ r9 = zI (evV w h B ht n E 0 0)) (fun u => (mW5 cI cZ ad w h 0 n 1 u.1 B ht dr u.2.1 u.2.2.1 u.2.2.2.1 u.2.2.2.2.1 u.2.2.2.2.2.1 u.2.2.2.2.2.2.1 u.2.2.2.2.2.2.2.1 u.2.2.2.2.2.2.2.2.1 u.2.2.2.2.2.2.2.2.2 re)) (va_A (mW5 cI cZ ad w h th n kn po B ht dr wh sb V la sl we of_ Sn tp re) sz)) 0 0 (va_A (mW5 cI cZ ad w h th n kn po B ht dr wh sb V la sl we of_ Sn tp re) sz) := by
  refine mu_head (Qc := fun A => mQi D (fun r9 (u : LkS) => lkP w h B ht n E u ∧ r9 = zI (evV w h B ht n E 0 0)) (fun u => (mW5 cI cZ ad w h 0 n 1 u.1 B ht dr u.2.1 u.2.2.1 u.2.2.2.1 u.2.2.2.2.1 u.2.2.2.2.2.1 u.2.2.2.2.2.2.1 u.2.2.2.2.2.2.2.1 u.2.2.2.2.2.2.2.2.1 u.2.2.2.2.2.2.2.2.2 re)) A) (cc := cX5_value) (maxL := 1) (ret := (some .int)) (by decide) rfl (Nat.le_of_ble_eq_true rfl) ?_
  intro p e s m below meth cd ls A hx hb hr hlocks hnm hts hown hml hA hP hK hD hN hS hl
  have hl : lv_has ls 1 [(0, .ref (ad 0))] := hl
  have hd0 := hd
  obtain ⟨h3w, hw9, h3h, hh7, hwh, h64⟩ := hd0
  have hE12 := R0.2.2.2.2
  have hht := R0.2.1
  refine lv_aload_n hx hb dX5_value_0 rfl (lv_at hl 0 rfl) ?_
  refine lv_aload_n hx hb dX5_value_1 rfl (lv_at hl 0 rfl) ?_
  refine ro_call (W.runV (As := []) (rest := [.ref (ad 0)]) ⟨hx, hb, hml, hown, hts⟩ (c_isFar l D cI cJ cZ ad w h th n kn po B ht dr wh sb V la sl we of_ Sn tp re hd hn hlast) (cwV 0 hts gX5_value_X5_isFar rfl rfl rfl (by decide +kernel) ⟨Nat.le_of_ble_eq_true rfl, Nat.le_of_ble_eq_true rfl⟩) ⟨RPc.blind, va_recv hK hP (ci := 5) (q0 := 0) rfl rfl, (RPc.at (hP.sub [0, 1, 2, 3, 4, 5, 6, 7, 8, 9, 10, 11, 12, 13] rfl) hK hN)⟩ rfl rfl hl.1 rfl (lv_room (Nat.le_of_ble_eq_true rfl)) dX5_value_2 ⟨Nat.zero_le _, Nat.zero_le _⟩) ?_
  refine rt_i (v := bI false) (by rw [hif]) ?_
  refine lv_iconst (v := nI 0) hx hb dX5_value_5 (by decide) ?_
  refine rt_i (v := bI false) rfl ?_
  refine mu_calli (wr := []) (va_runV (As := [.int (bI false), .int (bI false)]) (rest := []) ⟨hx, hb, hml, hown, hts⟩ (c5_refused l D cI cJ cZ ad w h th n kn po B ht dr wh sb V la sl we of_ Sn tp re false false _ ) (cwV 2 hts gX5_value_X5_refused rfl rfl rfl (by decide +kernel) ⟨Nat.le_of_ble_eq_true rfl, Nat.le_of_ble_eq_true rfl⟩) ⟨MPc.blind, va_recv hK hP (ci := 5) (q0 := 0) rfl rfl, (MPc.at (hP.sub [0, 1, 2, 3, 4, 5, 6, 7, 8, 9, 10, 11, 12, 13] rfl) (hD.sub [0, 1, 2, 3, 4, 5, 6, 7, 8, 9, 10, 11, 12, 13] (by decide) rfl) hK hN)⟩ rfl rfl hl.1 rfl (lv_room (Nat.le_of_ble_eq_true rfl)) dX5_value_6 ⟨Nat.zero_le _, Nat.zero_le _⟩) hP hD hS hA [0, 1, 2, 3, 4, 5, 6, 7, 8, 9, 10, 11, 12, 13] [] rfl rfl (by decide) (by decide) (fun rr u1 H locs hw hP hD hS => ?_)
  obtain rfl := hw
  have hP : va_P D vwCl (mW5 cI cZ ad w h (thN false false) n kn po B ht dr wh sb V la sl we of_ Sn tp re) H := hP
  have hD : va_D A (mW5 cI cZ ad w h (thN false false) n kn po B ht dr wh sb V la sl we of_ Sn tp re) := hD
  refine b_if_eq (tgt := 14) hx hb dX5_value_9 (by decide) (fun _ => ?_) (fun c9_1 => absurd c9_1 (by decide))
  refine lv_aload_n hx hb dX5_value_14 rfl (lv_at hl 0 rfl) ?_
  refine mu_callv (wr := []) (va_runV (As := []) (rest := []) ⟨hx, hb, hml, hown, hts⟩ (c5_lookAhead l D cI cJ cZ ad w h (thN false false) n kn po B ht dr wh sb V la sl we of_ Sn tp re E _ hd hn hEq hE1 R0 hwb hsb hsl0 hkn) (cwV 0 hts gX5_value_X5_lookAhead rfl rfl rfl (by decide +kernel) ⟨Nat.le_of_ble_eq_true rfl, Nat.le_of_ble_eq_true rfl⟩) ⟨MPc.blind, va_recv hK hP (ci := 5) (q0 := 0) rfl rfl, (MPc.at (hP.sub [0, 1, 2, 3, 4, 5, 6, 7, 8, 9, 10, 11, 12, 13] rfl) (hD.sub [0, 1, 2, 3, 4, 5, 6, 7, 8, 9, 10, 11, 12, 13] (by decide) rfl) hK hN)⟩ rfl rfl hl.1 rfl (lv_room (Nat.le_of_ble_eq_true rfl)) dX5_value_15 ⟨Nat.zero_le _, Nat.zero_le _⟩) hP hD hS hA [0, 1, 2, 3, 4, 5, 6, 7, 8, 9, 10, 11, 12, 13] [] rfl rfl (by decide) (by decide) (fun u1 H locs hw hP hD hS => ?_)
  have hT := hw
  obtain ⟨po, wh, sb, V, la, sl, we, of_, Sn, tp⟩ := u1
  have hT : TblOK w h B ht n E po wh sb V sl we of_ := hT
  have hP : va_P D vwCl (mW5 cI cZ ad w h (thN false false) n 1 po B ht dr wh sb V la sl we of_ Sn tp re) H := hP
  have hD : va_D A (mW5 cI cZ ad w h (thN false false) n 1 po B ht dr wh sb V la sl we of_ Sn tp re) := hD
  have hr0 := hT.root R0
  obtain ⟨hsd2, hV0, htp0⟩ := hr0
  have hof12 : ∀ c, c < w → of_ c + (h - ht c) ≤ E := fun c hc => by rw [(hT.2.2.2 c hc).2]; exact of_le12 R0 hc
  have hofs : ∀ c, c < w → of_ c ≤ 12 := fun c hc => by have := hof12 c hc; omega
  have hof : ∀ c, c < w → of_ c = ofN h ht c := fun c hc => (hT.2.2.2 c hc).2
  have hwe : ∀ c, c < w → we c = prN h ht c := fun c hc => (hT.2.2.2 c hc).1
  have hwb2 : ∀ j, wh j < 2 ^ 31 := fun j => Nat.lt_of_lt_of_le (hT.1.2.2.2.2.1 j) (by decide)
  have hsb2 : ∀ j, sb j < 2 ^ 31 := fun j => Nat.lt_of_lt_of_le (hT.1.2.2.2.2.2.1 j) (by decide)
  have hfw := hT.1.few R0
  have hpo1 := hT.1.2.2.1
  have hsl2 : ∀ a, sl a ≤ 70000 := fun a => by have := hT.1.1.1 a; omega
  have hent0 := hT.1.2.2.2.1 0 hT.1.2.2.1
  have hent := hent0
  rw [hsd2] at hent
  have hV2 : VdA w h B ht n E po wh sb V (0 + 1) := fun j hj _ => hT.2.2.1 j hj
  refine lv_aload_n hx hb dX5_value_18 rfl (lv_at hl 0 rfl) ?_
  refine va_get (C := RX5) (T := TX5) (N := 19) hx hb hts (by decide +kernel) hown hK hP 0 rfl rfl 11 (by decide) (hts (.fieldLink RX5 26 RX5 "values" "[I") (by decide +kernel)) (fun _ h9 => h9) rfl dX5_value_19 ?_
  refine lv_iconst (v := nI 0) hx hb dX5_value_22 (by decide) ?_
  refine n_iald hx hb hK hP 6 0 rfl rfl (by decide) (by decide) dX5_value_23 ?_
  exact mu_iret (S := LkS) (wf := fun u : LkS => (mW5 cI cZ ad w h 0 n 1 u.1 B ht dr u.2.1 u.2.2.1 u.2.2.2.1 u.2.2.2.2.1 u.2.2.2.2.2.1 u.2.2.2.2.2.2.1 u.2.2.2.2.2.2.2.1 u.2.2.2.2.2.2.2.2.1 u.2.2.2.2.2.2.2.2.2 re)) hx hb hr hlocks (po, wh, sb, V, la, sl, we, of_, Sn, tp) ⟨hT, (by rw [hV0, hT.1.2.1.1, hT.1.2.1.2])⟩ hP hD hS dX5_value_24

set_option maxHeartbeats 4000000 in
set_option maxRecDepth 100000 in
theorem c5_valueOf_bad (l : Launch) (D : va_G) (cI cJ cZ : ClassId) (ad : Nat → Nat) (w h th n kn po : Nat) (B : Nat → Int32) (ht dr wh sb : Nat → Nat) (V : Nat → Int32) (la sl we of_ : Nat → Nat) (Sn : Nat → Int32) (tp re : Nat → Nat) (k : Int32) (sz : Nat) (hd : Dm w h) (hn : n ≤ w * h) (hlast : 0 < n → dr (n - 1) < w ∧ 1 ≤ ht (dr (n - 1)) ∧ ht (dr (n - 1)) ≤ h) (hk : icB w k = false) : Met l yX5_valueOf wsX5_valueOf (k2_rm 6 150) (MPc D [.ref (ad 0), .int k] (mW5 cI cZ ad w h th n kn po B ht dr wh sb V la sl we of_ Sn tp re) (tyA cI cJ cZ) sz) (mQi D (fun r9 (_ : Unit) => r9 = nI 0) (fun _ => (mW5 cI cZ ad w h 1 n kn po B ht dr wh sb V la sl we of_ Sn tp re)) (va_A (mW5 cI cZ ad w h th n kn po B ht dr wh sb V la sl we of_ Sn tp re) sz)) 0 0 (va_A (mW5 cI cZ ad w h th n kn po B ht dr wh sb V la sl we of_ Sn tp re) sz) := by
  refine mu_head (Qc := fun A => mQi D (fun r9 (_ : Unit) => r9 = nI 0) (fun _ => (mW5 cI cZ ad w h 1 n kn po B ht dr wh sb V la sl we of_ Sn tp re)) A) (cc := cX5_valueOf) (maxL := 3) (ret := (some .int)) (by decide) rfl (Nat.le_of_ble_eq_true rfl) ?_
  intro p e s m below meth cd ls A hx hb hr hlocks hnm hts hown hml hA hP hK hD hN hS hl
  have hl : lv_has ls 3 [(0, .ref (ad 0)), (1, .int k)] := hl
  have hd0 := hd
  obtain ⟨h3w, hw9, h3h, hh7, hwh, h64⟩ := hd0
  refine lv_iload_n hx hb dX5_valueOf_0 rfl (lv_at hl 1 rfl) ?_
  refine lv_if_lt (tgt := 12) hx hb dX5_valueOf_1 (by decide) (fun c1_1 => ?_) (fun c1_1 => ?_)
  · skip
    refine lv_iconst (v := nI 1) hx hb dX5_valueOf_12 (by decide) ?_
    refine lv_goto (tgt := 17) hx hb dX5_valueOf_13 (by decide) ?_
    refine lv_istore_n (lv' := [(2, .int (nI 1)), (0, .ref (ad 0)), (1, .int k)]) hx hb dX5_valueOf_17 rfl hl (by decide) rfl (fun ls hl => ?_)
    refine lv_aload_n hx hb dX5_valueOf_18 rfl (lv_at hl 1 rfl) ?_
    refine lv_iload_n hx hb dX5_valueOf_19 rfl (lv_at hl 0 rfl) ?_
    refine rt_i (v := bI true) rfl ?_
    refine lv_iload_n hx hb dX5_valueOf_20 rfl (lv_at hl 0 rfl) ?_
    refine rt_i (v := bI true) rfl ?_
    refine b_if_ne (tgt := 48) hx hb dX5_valueOf_21 (by decide) (fun _ => ?_) (fun c21_2 => absurd c21_2 (by decide))
    refine lv_iconst (v := nI 0) hx hb dX5_valueOf_48 (by decide) ?_
    refine rt_i (v := bI false) rfl ?_
    refine mu_calli (wr := []) (va_runV (As := [.int (bI true), .int (bI false)]) (rest := []) ⟨hx, hb, hml, hown, hts⟩ (c5_refused l D cI cJ cZ ad w h th n kn po B ht dr wh sb V la sl we of_ Sn tp re true false _ ) (cwV 2 hts gX5_valueOf_X5_refused rfl rfl rfl (by decide +kernel) ⟨Nat.le_of_ble_eq_true rfl, Nat.le_of_ble_eq_true rfl⟩) ⟨MPc.blind, va_recv hK hP (ci := 5) (q0 := 0) rfl rfl, (MPc.at (hP.sub [0, 1, 2, 3, 4, 5, 6, 7, 8, 9, 10, 11, 12, 13] rfl) (hD.sub [0, 1, 2, 3, 4, 5, 6, 7, 8, 9, 10, 11, 12, 13] (by decide) rfl) hK hN)⟩ rfl rfl hl.1 rfl (lv_room (Nat.le_of_ble_eq_true rfl)) dX5_valueOf_49 ⟨Nat.zero_le _, Nat.zero_le _⟩) hP hD hS hA [0, 1, 2, 3, 4, 5, 6, 7, 8, 9, 10, 11, 12, 13] [] rfl rfl (by decide) (by decide) (fun rr u1 H locs hw hP hD hS => ?_)
    obtain rfl := hw
    have hP : va_P D vwCl (mW5 cI cZ ad w h (thN true false) n kn po B ht dr wh sb V la sl we of_ Sn tp re) H := hP
    have hD : va_D A (mW5 cI cZ ad w h (thN true false) n kn po B ht dr wh sb V la sl we of_ Sn tp re) := hD
    refine b_if_eq (tgt := 57) hx hb dX5_valueOf_52 (by decide) (fun c52_3 => absurd c52_3 (by decide)) (fun _ => ?_)
    refine lv_iconst (v := nI 0) hx hb dX5_valueOf_55 (by decide) ?_
    exact mu_iret (S := Unit) (wf := fun _ => (mW5 cI cZ ad w h 1 n kn po B ht dr wh sb V la sl we of_ Sn tp re)) hx hb hr hlocks () rfl hP hD hS dX5_valueOf_56
  refine lv_iload_n hx hb dX5_valueOf_4 rfl (lv_at hl 1 rfl) ?_
  refine lv_aload_n hx hb dX5_valueOf_5 rfl (lv_at hl 0 rfl) ?_
  refine va_get (C := RX5) (T := TX5) (N := 19) hx hb hts (by decide +kernel) hown hK hP 0 rfl rfl 1 (by decide) (hts (.fieldLink RX5 52 RX5 "w" "I") (by decide +kernel)) (fun _ h9 => h9) rfl dX5_valueOf_6 ?_
  refine lv_icmp_lt (tgt := 16) hx hb dX5_valueOf_9 (by decide) (fun c9_4 => ?_) (fun c9_4 => ?_)
  · exact absurd c9_4 (fun q => (ic_no hk).elim c1_1 (Int32.not_le.mpr q))
  refine lv_iconst (v := nI 1) hx hb dX5_valueOf_12 (by decide) ?_
  refine lv_goto (tgt := 17) hx hb dX5_valueOf_13 (by decide) ?_
  refine lv_istore_n (lv' := [(2, .int (nI 1)), (0, .ref (ad 0)), (1, .int k)]) hx hb dX5_valueOf_17 rfl hl (by decide) rfl (fun ls hl => ?_)
  refine lv_aload_n hx hb dX5_valueOf_18 rfl (lv_at hl 1 rfl) ?_
  refine lv_iload_n hx hb dX5_valueOf_19 rfl (lv_at hl 0 rfl) ?_
  refine rt_i (v := bI true) rfl ?_
  refine lv_iload_n hx hb dX5_valueOf_20 rfl (lv_at hl 0 rfl) ?_
  refine rt_i (v := bI true) rfl ?_
  refine b_if_ne (tgt := 48) hx hb dX5_valueOf_21 (by decide) (fun _ => ?_) (fun c21_5 => absurd c21_5 (by decide))
  refine lv_iconst (v := nI 0) hx hb dX5_valueOf_48 (by decide) ?_
  refine rt_i (v := bI false) rfl ?_
  refine mu_calli (wr := []) (va_runV (As := [.int (bI true), .int (bI false)]) (rest := []) ⟨hx, hb, hml, hown, hts⟩ (c5_refused l D cI cJ cZ ad w h th n kn po B ht dr wh sb V la sl we of_ Sn tp re true false _ ) (cwV 2 hts gX5_valueOf_X5_refused rfl rfl rfl (by decide +kernel) ⟨Nat.le_of_ble_eq_true rfl, Nat.le_of_ble_eq_true rfl⟩) ⟨MPc.blind, va_recv hK hP (ci := 5) (q0 := 0) rfl rfl, (MPc.at (hP.sub [0, 1, 2, 3, 4, 5, 6, 7, 8, 9, 10, 11, 12, 13] rfl) (hD.sub [0, 1, 2, 3, 4, 5, 6, 7, 8, 9, 10, 11, 12, 13] (by decide) rfl) hK hN)⟩ rfl rfl hl.1 rfl (lv_room (Nat.le_of_ble_eq_true rfl)) dX5_valueOf_49 ⟨Nat.zero_le _, Nat.zero_le _⟩) hP hD hS hA [0, 1, 2, 3, 4, 5, 6, 7, 8, 9, 10, 11, 12, 13] [] rfl rfl (by decide) (by decide) (fun rr u1 H locs hw hP hD hS => ?_)
  obtain rfl := hw
  have hP : va_P D vwCl (mW5 cI cZ ad w h (thN true false) n kn po B ht dr wh sb V la sl we of_ Sn tp re) H := hP
  have hD : va_D A (mW5 cI cZ ad w h (thN true false) n kn po B ht dr wh sb V la sl we of_ Sn tp re) := hD
  refine b_if_eq (tgt := 57) hx hb dX5_valueOf_52 (by decide) (fun c52_6 => absurd c52_6 (by decide)) (fun _ => ?_)
  refine lv_iconst (v := nI 0) hx hb dX5_valueOf_55 (by decide) ?_
  exact mu_iret (S := Unit) (wf := fun _ => (mW5 cI cZ ad w h 1 n kn po B ht dr wh sb V la sl we of_ Sn tp re)) hx hb hr hlocks () rfl hP hD hS dX5_valueOf_56

set_option maxHeartbeats 4000000 in
set_option maxRecDepth 100000 in
theorem c5_valueOf_no (l : Launch) (D : va_G) (cI cJ cZ : ClassId) (ad : Nat → Nat) (w h th n kn po : Nat) (B : Nat → Int32) (ht dr wh sb : Nat → Nat) (V : Nat → Int32) (la sl we of_ : Nat → Nat) (Sn : Nat → Int32) (tp re : Nat → Nat) (c : Nat) (sz : Nat) (hd : Dm w h) (hn : n ≤ w * h) (hlast : 0 < n → dr (n - 1) < w ∧ 1 ≤ ht (dr (n - 1)) ∧ ht (dr (n - 1)) ≤ h) (hc : c < w) (hht : ht c ≤ h) (hov : ifB w h B ht dr n = true ∨ ht c = h) : Met l yX5_valueOf wsX5_valueOf (k2_rm 6 150) (MPc D [.ref (ad 0), .int (nI c)] (mW5 cI cZ ad w h th n kn po B ht dr wh sb V la sl we of_ Sn tp re) (tyA cI cJ cZ) sz) (mQi D (fun r9 (_ : Unit) => r9 = nI 0) (fun _ => (mW5 cI cZ ad w h 2 n kn po B ht dr wh sb V la sl we of_ Sn tp re)) (va_A (mW5 cI cZ ad w h th n kn po B ht dr wh sb V la sl we of_ Sn tp re) sz)) 0 0 (va_A (mW5 cI cZ ad w h th n kn po B ht dr wh sb V la sl we of_ Sn tp re) sz) := by
  refine mu_head (Qc := fun A => mQi D (fun r9 (_ : Unit) => r9 = nI 0) (fun _ => (mW5 cI cZ ad w h 2 n kn po B ht dr wh sb V la sl we of_ Sn tp re)) A) (cc := cX5_valueOf) (maxL := 3) (ret := (some .int)) (by decide) rfl (Nat.le_of_ble_eq_true rfl) ?_
  intro p e s m below meth cd ls A hx hb hr hlocks hnm hts hown hml hA hP hK hD hN hS hl
  have hl : lv_has ls 3 [(0, .ref (ad 0)), (1, .int (nI c))] := hl
  have hd0 := hd
  obtain ⟨h3w, hw9, h3h, hh7, hwh, h64⟩ := hd0
  refine lv_iload_n hx hb dX5_valueOf_0 rfl (lv_at hl 1 rfl) ?_
  refine lv_if_lt (tgt := 12) hx hb dX5_valueOf_1 (by decide) (fun c1_1 => ?_) (fun c1_1 => ?_)
  · exact absurd c1_1 (nI_pos (by omega))
  refine lv_iload_n hx hb dX5_valueOf_4 rfl (lv_at hl 1 rfl) ?_
  refine lv_aload_n hx hb dX5_valueOf_5 rfl (lv_at hl 0 rfl) ?_
  refine va_get (C := RX5) (T := TX5) (N := 19) hx hb hts (by decide +kernel) hown hK hP 0 rfl rfl 1 (by decide) (hts (.fieldLink RX5 52 RX5 "w" "I") (by decide +kernel)) (fun _ h9 => h9) rfl dX5_valueOf_6 ?_
  refine n_icmp_lt (tgt := 16) hx hb dX5_valueOf_9 (by decide) (by omega) (by omega) (fun c9_2 => ?_) (fun c9_2 => ?_)
  · skip
    refine lv_iconst (v := nI 0) hx hb dX5_valueOf_16 (by decide) ?_
    refine lv_istore_n (lv' := [(2, .int (nI 0)), (0, .ref (ad 0)), (1, .int (nI c))]) hx hb dX5_valueOf_17 rfl hl (by decide) rfl (fun ls hl => ?_)
    refine lv_aload_n hx hb dX5_valueOf_18 rfl (lv_at hl 1 rfl) ?_
    refine lv_iload_n hx hb dX5_valueOf_19 rfl (lv_at hl 0 rfl) ?_
    refine rt_i (v := bI false) rfl ?_
    refine lv_iload_n hx hb dX5_valueOf_20 rfl (lv_at hl 0 rfl) ?_
    refine rt_i (v := bI false) rfl ?_
    refine b_if_ne (tgt := 48) hx hb dX5_valueOf_21 (by decide) (fun c21_3 => absurd c21_3 (by decide)) (fun _ => ?_)
    refine lv_aload_n hx hb dX5_valueOf_24 rfl (lv_at hl 1 rfl) ?_
    refine ro_call (W.runV (As := []) (rest := [.int (bI false), .ref (ad 0)]) ⟨hx, hb, hml, hown, hts⟩ (c_isFar l D cI cJ cZ ad w h th n kn po B ht dr wh sb V la sl we of_ Sn tp re hd hn hlast) (cwV 0 hts gX5_valueOf_X5_isFar rfl rfl rfl (by decide +kernel) ⟨Nat.le_of_ble_eq_true rfl, Nat.le_of_ble_eq_true rfl⟩) ⟨RPc.blind, va_recv hK hP (ci := 5) (q0 := 0) rfl rfl, (RPc.at (hP.sub [0, 1, 2, 3, 4, 5, 6, 7, 8, 9, 10, 11, 12, 13] rfl) hK hN)⟩ rfl rfl hl.1 rfl (lv_room (Nat.le_of_ble_eq_true rfl)) dX5_valueOf_25 ⟨Nat.zero_le _, Nat.zero_le _⟩) ?_
    refine b_if_ne (tgt := 44) hx hb dX5_valueOf_28 (by decide) (fun c28_4 => ?_) (fun c28_4 => ?_)
    · skip
      refine lv_iconst (v := nI 1) hx hb dX5_valueOf_44 (by decide) ?_
      refine rt_i (v := bI true) rfl ?_
      refine lv_goto (tgt := 49) hx hb dX5_valueOf_45 (by decide) ?_
      refine mu_calli (wr := []) (va_runV (As := [.int (bI false), .int (bI true)]) (rest := []) ⟨hx, hb, hml, hown, hts⟩ (c5_refused l D cI cJ cZ ad w h th n kn po B ht dr wh sb V la sl we of_ Sn tp re false true _ ) (cwV 2 hts gX5_valueOf_X5_refused rfl rfl rfl (by decide +kernel) ⟨Nat.le_of_ble_eq_true rfl, Nat.le_of_ble_eq_true rfl⟩) ⟨MPc.blind, va_recv hK hP (ci := 5) (q0 := 0) rfl rfl, (MPc.at (hP.sub [0, 1, 2, 3, 4, 5, 6, 7, 8, 9, 10, 11, 12, 13] rfl) (hD.sub [0, 1, 2, 3, 4, 5, 6, 7, 8, 9, 10, 11, 12, 13] (by decide) rfl) hK hN)⟩ rfl rfl hl.1 rfl (lv_room (Nat.le_of_ble_eq_true rfl)) dX5_valueOf_49 ⟨Nat.zero_le _, Nat.zero_le _⟩) hP hD hS hA [0, 1, 2, 3, 4, 5, 6, 7, 8, 9, 10, 11, 12, 13] [] rfl rfl (by decide) (by decide) (fun rr u1 H locs hw hP hD hS => ?_)
      obtain rfl := hw
      have hP : va_P D vwCl (mW5 cI cZ ad w h (thN false true) n kn po B ht dr wh sb V la sl we of_ Sn tp re) H := hP
      have hD : va_D A (mW5 cI cZ ad w h (thN false true) n kn po B ht dr wh sb V la sl we of_ Sn tp re) := hD
      refine b_if_eq (tgt := 57) hx hb dX5_valueOf_52 (by decide) (fun c52_5 => absurd c52_5 (by decide)) (fun _ => ?_)
      refine lv_iconst (v := nI 0) hx hb dX5_valueOf_55 (by decide) ?_
      exact mu_iret (S := Unit) (wf := fun _ => (mW5 cI cZ ad w h 2 n kn po B ht dr wh sb V la sl we of_ Sn tp re)) hx hb hr hlocks () rfl hP hD hS dX5_valueOf_56
    refine lv_aload_n hx hb dX5_valueOf_31 rfl (lv_at hl 1 rfl) ?_
    refine va_get (C := RX5) (T := TX5) (N := 19) hx hb hts (by decide +kernel) hown hK hP 0 rfl rfl 4 (by decide) (hts (.fieldLink RX5 13 RX5 "heights" "[I") (by decide +kernel)) (fun _ h9 => h9) rfl dX5_valueOf_32 ?_
    refine lv_iload_n hx hb dX5_valueOf_35 rfl (lv_at hl 2 rfl) ?_
    refine n_iald hx hb hK hP 2 0 rfl rfl (by omega) (by omega) dX5_valueOf_36 ?_
    refine lv_aload_n hx hb dX5_valueOf_37 rfl (lv_at hl 1 rfl) ?_
    refine va_get (C := RX5) (T := TX5) (N := 19) hx hb hts (by decide +kernel) hown hK hP 0 rfl rfl 2 (by decide) (hts (.fieldLink RX5 56 RX5 "h" "I") (by decide +kernel)) (fun _ h9 => h9) rfl dX5_valueOf_38 ?_
    refine n_icmp_ne (tgt := 48) hx hb dX5_valueOf_41 (by decide) (by omega) (by omega) (fun c41_6 => ?_) (fun c41_6 => ?_)
    · exact absurd c41_6 (fun q => q (hov.resolve_left (by rw [c28_4]; decide)))
    refine lv_iconst (v := nI 1) hx hb dX5_valueOf_44 (by decide) ?_
    refine rt_i (v := bI true) rfl ?_
    refine lv_goto (tgt := 49) hx hb dX5_valueOf_45 (by decide) ?_
    refine mu_calli (wr := []) (va_runV (As := [.int (bI false), .int (bI true)]) (rest := []) ⟨hx, hb, hml, hown, hts⟩ (c5_refused l D cI cJ cZ ad w h th n kn po B ht dr wh sb V la sl we of_ Sn tp re false true _ ) (cwV 2 hts gX5_valueOf_X5_refused rfl rfl rfl (by decide +kernel) ⟨Nat.le_of_ble_eq_true rfl, Nat.le_of_ble_eq_true rfl⟩) ⟨MPc.blind, va_recv hK hP (ci := 5) (q0 := 0) rfl rfl, (MPc.at (hP.sub [0, 1, 2, 3, 4, 5, 6, 7, 8, 9, 10, 11, 12, 13] rfl) (hD.sub [0, 1, 2, 3, 4, 5, 6, 7, 8, 9, 10, 11, 12, 13] (by decide) rfl) hK hN)⟩ rfl rfl hl.1 rfl (lv_room (Nat.le_of_ble_eq_true rfl)) dX5_valueOf_49 ⟨Nat.zero_le _, Nat.zero_le _⟩) hP hD hS hA [0, 1, 2, 3, 4, 5, 6, 7, 8, 9, 10, 11, 12, 13] [] rfl rfl (by decide) (by decide) (fun rr u1 H locs hw hP hD hS => ?_)
    obtain rfl := hw
    have hP : va_P D vwCl (mW5 cI cZ ad w h (thN false true) n kn po B ht dr wh sb V la sl we of_ Sn tp re) H := hP
    have hD : va_D A (mW5 cI cZ ad w h (thN false true) n kn po B ht dr wh sb V la sl we of_ Sn tp re) := hD
    refine b_if_eq (tgt := 57) hx hb dX5_valueOf_52 (by decide) (fun c52_7 => absurd c52_7 (by decide)) (fun _ => ?_)
    refine lv_iconst (v := nI 0) hx hb dX5_valueOf_55 (by decide) ?_
    exact mu_iret (S := Unit) (wf := fun _ => (mW5 cI cZ ad w h 2 n kn po B ht dr wh sb V la sl we of_ Sn tp re)) hx hb hr hlocks () rfl hP hD hS dX5_valueOf_56
  · exact absurd c9_2 (by omega)

set_option maxHeartbeats 4000000 in
set_option maxRecDepth 100000 in
theorem c5_valueOf_ok (l : Launch) (D : va_G) (cI cJ cZ : ClassId) (ad : Nat → Nat) (w h th n kn po : Nat) (B : Nat → Int32) (ht dr wh sb : Nat → Nat) (V : Nat → Int32) (la sl we of_ : Nat → Nat) (Sn : Nat → Int32) (tp re : Nat → Nat) (c E : Nat) (sz : Nat) (hd : Dm w h) (hn : n ≤ w * h) (hlast : 0 < n → dr (n - 1) < w ∧ 1 ≤ ht (dr (n - 1)) ∧ ht (dr (n - 1)) ≤ h) (hEq : w * h - n = E) (hE1 : 1 ≤ E) (R0 : RootOK w h B ht n E) (hwb : ∀ j, wh j < 8192) (hsb : ∀ j, sb j < 8192) (hsl0 : ∀ a, 262144 ≤ a → sl a = 0) (hkn : kn = 0 ∨ kn = 1 ∧ TblOK w h B ht n E po wh sb V sl we of_) (hif : ifB w h B ht dr n = false) (hc : c < w) (hlc : ht c < h) : Met l yX5_valueOf wsX5_valueOf (k2_rm 6 150) (MPc D [.ref (ad 0), .int (nI c)] (mW5 cI cZ ad w h th n kn po B ht dr wh sb V la sl we of_ Sn tp re) (tyA cI cJ cZ) sz) (mQi D (fun r9 (u : LkS) => lkP w h B ht n E u ∧ r9 = zI (s2v E (evM w h B ht n E 0 0 c))) (fun u => (mW5 cI cZ ad w h 0 n 1 u.1 B ht dr u.2.1 u.2.2.1 u.2.2.2.1 u.2.2.2.2.1 u.2.2.2.2.2.1 u.2.2.2.2.2.2.1 u.2.2.2.2.2.2.2.1 u.2.2.2.2.2.2.2.2.1 u.2.2.2.2.2.2.2.2.2 re)) (va_A (mW5 cI cZ ad w h th n kn po B ht dr wh sb V la sl we of_ Sn tp re) sz)) 0 0 (va_A (mW5 cI cZ ad w h th n kn po B ht dr wh sb V la sl we of_ Sn tp re) sz) := by
  refine mu_head (Qc := fun A => mQi D (fun r9 (u : LkS) => lkP w h B ht n E u ∧ r9 = zI (s2v E (evM w h B ht n E 0 0 c))) (fun u => (mW5 cI cZ ad w h 0 n 1 u.1 B ht dr u.2.1 u.2.2.1 u.2.2.2.1 u.2.2.2.2.1 u.2.2.2.2.2.1 u.2.2.2.2.2.2.1 u.2.2.2.2.2.2.2.1 u.2.2.2.2.2.2.2.2.1 u.2.2.2.2.2.2.2.2.2 re)) A) (cc := cX5_valueOf) (maxL := 3) (ret := (some .int)) (by decide) rfl (Nat.le_of_ble_eq_true rfl) ?_
  intro p e s m below meth cd ls A hx hb hr hlocks hnm hts hown hml hA hP hK hD hN hS hl
  have hl : lv_has ls 3 [(0, .ref (ad 0)), (1, .int (nI c))] := hl
  have hd0 := hd
  obtain ⟨h3w, hw9, h3h, hh7, hwh, h64⟩ := hd0
  have hE12 := R0.2.2.2.2
  have hht := R0.2.1
  refine lv_iload_n hx hb dX5_valueOf_0 rfl (lv_at hl 1 rfl) ?_
  refine lv_if_lt (tgt := 12) hx hb dX5_valueOf_1 (by decide) (fun c1_1 => ?_) (fun c1_1 => ?_)
  · exact absurd c1_1 (nI_pos (by omega))
  refine lv_iload_n hx hb dX5_valueOf_4 rfl (lv_at hl 1 rfl) ?_
  refine lv_aload_n hx hb dX5_valueOf_5 rfl (lv_at hl 0 rfl) ?_
  refine va_get (C := RX5) (T := TX5) (N := 19) hx hb hts (by decide +kernel) hown hK hP 0 rfl rfl 1 (by decide) (hts (.fieldLink RX5 52 RX5 "w" "I") (by decide +kernel)) (fun _ h9 => h9) rfl dX5_valueOf_6 ?_
  refine n_icmp_lt (tgt := 16) hx hb dX5_valueOf_9 (by decide) (by omega) (by omega) (fun c9_2 => ?_) (fun c9_2 => ?_)
  · skip
    refine lv_iconst (v := nI 0) hx hb dX5_valueOf_16 (by decide) ?_
    refine lv_istore_n (lv' := [(2, .int (nI 0)), (0, .ref (ad 0)), (1, .int (nI c))]) hx hb dX5_valueOf_17 rfl hl (by decide) rfl (fun ls hl => ?_)
    refine lv_aload_n hx hb dX5_valueOf_18 rfl (lv_at hl 1 rfl) ?_
    refine lv_iload_n hx hb dX5_valueOf_19 rfl (lv_at hl 0 rfl) ?_
    refine rt_i (v := bI false) rfl ?_
    refine lv_iload_n hx hb dX5_valueOf_20 rfl (lv_at hl 0 rfl) ?_
    refine rt_i (v := bI false) rfl ?_
    refine b_if_ne (tgt := 48) hx hb dX5_valueOf_21 (by decide) (fun c21_3 => absurd c21_3 (by decide)) (fun _ => ?_)
    refine lv_aload_n hx hb dX5_valueOf_24 rfl (lv_at hl 1 rfl) ?_
    refine ro_call (W.runV (As := []) (rest := [.int (bI false), .ref (ad 0)]) ⟨hx, hb, hml, hown, hts⟩ (c_isFar l D cI cJ cZ ad w h th n kn po B ht dr wh sb V la sl we of_ Sn tp re hd hn hlast) (cwV 0 hts gX5_valueOf_X5_isFar rfl rfl rfl (by decide +kernel) ⟨Nat.le_of_ble_eq_true rfl, Nat.le_of_ble_eq_true rfl⟩) ⟨RPc.blind, va_recv hK hP (ci := 5) (q0 := 0) rfl rfl, (RPc.at (hP.sub [0, 1, 2, 3, 4, 5, 6, 7, 8, 9, 10, 11, 12, 13] rfl) hK hN)⟩ rfl rfl hl.1 rfl (lv_room (Nat.le_of_ble_eq_true rfl)) dX5_valueOf_25 ⟨Nat.zero_le _, Nat.zero_le _⟩) ?_
    refine rt_i (v := bI false) (by rw [hif]) ?_
    refine b_if_ne (tgt := 44) hx hb dX5_valueOf_28 (by decide) (fun c28_4 => absurd c28_4 (by decide)) (fun _ => ?_)
    refine lv_aload_n hx hb dX5_valueOf_31 rfl (lv_at hl 1 rfl) ?_
    refine va_get (C := RX5) (T := TX5) (N := 19) hx hb hts (by decide +kernel) hown hK hP 0 rfl rfl 4 (by decide) (hts (.fieldLink RX5 13 RX5 "heights" "[I") (by decide +kernel)) (fun _ h9 => h9) rfl dX5_valueOf_32 ?_
    refine lv_iload_n hx hb dX5_valueOf_35 rfl (lv_at hl 2 rfl) ?_
    refine n_iald hx hb hK hP 2 0 rfl rfl (by omega) (by decide) dX5_valueOf_36 ?_
    refine lv_aload_n hx hb dX5_valueOf_37 rfl (lv_at hl 1 rfl) ?_
    refine va_get (C := RX5) (T := TX5) (N := 19) hx hb hts (by decide +kernel) hown hK hP 0 rfl rfl 2 (by decide) (hts (.fieldLink RX5 56 RX5 "h" "I") (by decide +kernel)) (fun _ h9 => h9) rfl dX5_valueOf_38 ?_
    refine n_icmp_ne (tgt := 48) hx hb dX5_valueOf_41 (by decide) (by omega) (by omega) (fun c41_5 => ?_) (fun c41_5 => ?_)
    · skip
      refine lv_iconst (v := nI 0) hx hb dX5_valueOf_48 (by decide) ?_
      refine rt_i (v := bI false) rfl ?_
      refine mu_calli (wr := []) (va_runV (As := [.int (bI false), .int (bI false)]) (rest := []) ⟨hx, hb, hml, hown, hts⟩ (c5_refused l D cI cJ cZ ad w h th n kn po B ht dr wh sb V la sl we of_ Sn tp re false false _ ) (cwV 2 hts gX5_valueOf_X5_refused rfl rfl rfl (by decide +kernel) ⟨Nat.le_of_ble_eq_true rfl, Nat.le_of_ble_eq_true rfl⟩) ⟨MPc.blind, va_recv hK hP (ci := 5) (q0 := 0) rfl rfl, (MPc.at (hP.sub [0, 1, 2, 3, 4, 5, 6, 7, 8, 9, 10, 11, 12, 13] rfl) (hD.sub [0, 1, 2, 3, 4, 5, 6, 7, 8, 9, 10, 11, 12, 13] (by decide) rfl) hK hN)⟩ rfl rfl hl.1 rfl (lv_room (Nat.le_of_ble_eq_true rfl)) dX5_valueOf_49 ⟨Nat.zero_le _, Nat.zero_le _⟩) hP hD hS hA [0, 1, 2, 3, 4, 5, 6, 7, 8, 9, 10, 11, 12, 13] [] rfl rfl (by decide) (by decide) (fun rr u1 H locs hw hP hD hS => ?_)
      obtain rfl := hw
      have hP : va_P D vwCl (mW5 cI cZ ad w h (thN false false) n kn po B ht dr wh sb V la sl we of_ Sn tp re) H := hP
      have hD : va_D A (mW5 cI cZ ad w h (thN false false) n kn po B ht dr wh sb V la sl we of_ Sn tp re) := hD
      refine b_if_eq (tgt := 57) hx hb dX5_valueOf_52 (by decide) (fun _ => ?_) (fun c52_6 => absurd c52_6 (by decide))
      refine lv_aload_n hx hb dX5_valueOf_57 rfl (lv_at hl 1 rfl) ?_
      refine mu_callv (wr := []) (va_runV (As := []) (rest := []) ⟨hx, hb, hml, hown, hts⟩ (c5_lookAhead l D cI cJ cZ ad w h (thN false false) n kn po B ht dr wh sb V la sl we of_ Sn tp re E _ hd hn hEq hE1 R0 hwb hsb hsl0 hkn) (cwV 0 hts gX5_valueOf_X5_lookAhead rfl rfl rfl (by decide +kernel) ⟨Nat.le_of_ble_eq_true rfl, Nat.le_of_ble_eq_true rfl⟩) ⟨MPc.blind, va_recv hK hP (ci := 5) (q0 := 0) rfl rfl, (MPc.at (hP.sub [0, 1, 2, 3, 4, 5, 6, 7, 8, 9, 10, 11, 12, 13] rfl) (hD.sub [0, 1, 2, 3, 4, 5, 6, 7, 8, 9, 10, 11, 12, 13] (by decide) rfl) hK hN)⟩ rfl rfl hl.1 rfl (lv_room (Nat.le_of_ble_eq_true rfl)) dX5_valueOf_58 ⟨Nat.zero_le _, Nat.zero_le _⟩) hP hD hS hA [0, 1, 2, 3, 4, 5, 6, 7, 8, 9, 10, 11, 12, 13] [] rfl rfl (by decide) (by decide) (fun u1 H locs hw hP hD hS => ?_)
      have hT := hw
      obtain ⟨po, wh, sb, V, la, sl, we, of_, Sn, tp⟩ := u1
      have hT : TblOK w h B ht n E po wh sb V sl we of_ := hT
      have hP : va_P D vwCl (mW5 cI cZ ad w h (thN false false) n 1 po B ht dr wh sb V la sl we of_ Sn tp re) H := hP
      have hD : va_D A (mW5 cI cZ ad w h (thN false false) n 1 po B ht dr wh sb V la sl we of_ Sn tp re) := hD
      have hr0 := hT.root R0
      obtain ⟨hsd2, hV0, htp0⟩ := hr0
      have hof12 : ∀ c, c < w → of_ c + (h - ht c) ≤ E := fun c hc => by rw [(hT.2.2.2 c hc).2]; exact of_le12 R0 hc
      have hofs : ∀ c, c < w → of_ c ≤ 12 := fun c hc => by have := hof12 c hc; omega
      have hof : ∀ c, c < w → of_ c = ofN h ht c := fun c hc => (hT.2.2.2 c hc).2
      have hwe : ∀ c, c < w → we c = prN h ht c := fun c hc => (hT.2.2.2 c hc).1
      have hwb2 : ∀ j, wh j < 2 ^ 31 := fun j => Nat.lt_of_lt_of_le (hT.1.2.2.2.2.1 j) (by decide)
      have hsb2 : ∀ j, sb j < 2 ^ 31 := fun j => Nat.lt_of_lt_of_le (hT.1.2.2.2.2.2.1 j) (by decide)
      have hfw := hT.1.few R0
      have hpo1 := hT.1.2.2.1
      have hsl2 : ∀ a, sl a ≤ 70000 := fun a => by have := hT.1.1.1 a; omega
      have hent0 := hT.1.2.2.2.1 0 hT.1.2.2.1
      have hent := hent0
      rw [hsd2] at hent
      have hV2 : VdA w h B ht n E po wh sb V (0 + 1) := fun j hj _ => hT.2.2.1 j hj
      refine lv_aload_n hx hb dX5_valueOf_61 rfl (lv_at hl 1 rfl) ?_
      refine lv_iconst (v := nI 0) hx hb dX5_valueOf_62 (by decide) ?_
      refine mu_callv (wr := []) (va_runV (As := [.int (nI 0)]) (rest := []) ⟨hx, hb, hml, hown, hts⟩ (c5_show l D cI cJ cZ ad w h (thN false false) n 1 po B ht dr wh sb V la sl we of_ Sn tp re 0 _ hd (by omega) hht hofs hwb2 hsb2) (cwV 1 hts gX5_valueOf_X5_show rfl rfl rfl (by decide +kernel) ⟨Nat.le_of_ble_eq_true rfl, Nat.le_of_ble_eq_true rfl⟩) ⟨MPc.blind, va_recv hK hP (ci := 5) (q0 := 0) rfl rfl, (MPc.at (hP.sub [0, 1, 2, 3, 4, 5, 6, 7, 8, 9, 10, 11, 12, 13] rfl) (hD.sub [0, 1, 2, 3, 4, 5, 6, 7, 8, 9, 10, 11, 12, 13] (by decide) rfl) hK hN)⟩ rfl rfl hl.1 rfl (lv_room (Nat.le_of_ble_eq_true rfl)) dX5_valueOf_63 ⟨Nat.zero_le _, Nat.zero_le _⟩) hP hD hS hA [0, 1, 2, 3, 4, 5, 6, 7, 8, 9, 10, 11, 12, 13] [] rfl rfl (by decide) (by decide) (fun u1 H locs hw hP hD hS => ?_)
      have hP : va_P D vwCl (mW5 cI cZ ad w h (thN false false) n 1 po B ht dr wh sb V la sl we of_ (shS h B ht of_ (wh 0) (sb 0) Sn w) (tpS h ht tp (wh 0) w) re) H := hP
      have hD : va_D A (mW5 cI cZ ad w h (thN false false) n 1 po B ht dr wh sb V la sl we of_ (shS h B ht of_ (wh 0) (sb 0) Sn w) (tpS h ht tp (wh 0) w) re) := hD
      obtain ⟨Sn3, eSn⟩ : ∃ f, f = (shS h B ht of_ (wh 0) (sb 0) Sn w) := ⟨_, rfl⟩
      rw [← eSn] at hP hD
      obtain ⟨tp3, etp⟩ : ∃ f, f = (tpS h ht tp (wh 0) w) := ⟨_, rfl⟩
      rw [← etp] at hP hD
      have htp3 : ∀ c, c < w → tp3 c = tpE h ht (wh 0) c := fun c hc => by rw [etp]; exact if_pos hc
      have htc := htp3 c hc
      have hlt3 : tp3 c < h := by rw [htc, htp0]; omega
      have hlt4 : tpE h ht (wh 0) c < h := by rw [htp0]; omega
      have hsn3 : Sn3 (7 * c + tp3 c) = -1 := by rw [eSn, htc]; exact ent_seen R0 hof hc hlt4
      have hwin : wnB w h (upd Sn3 (7 * c + tp3 c) (nI (n % 2))) c (tp3 c) = true ↔ hasL w h (sq_put (MP w h B ht ((n + 0) % 2) (wh 0) (sb 0)) c (tpE h ht (wh 0) c)) := by
        rw [eSn, htc, Nat.add_zero]; exact ent_win R0 hof (by omega) hent.2.2.2.2.2.2.2.2.1 hc hlt4
      obtain ⟨v, hv⟩ : ∃ v, v = s2v (E - sdN w h ht (wh 0)) (evM w h B ht n E (wh 0) (sb 0) c) := ⟨_, rfl⟩
      have hvb : -13 ≤ v ∧ v ≤ 13 := by
        have b2 := evM_bd (w := w) (h := h) (B := B) (ht := ht) (n := n) (E := E) (W0 := wh 0) (by omega) (sb 0) c
        have := s2v_bd b2.1 b2.2; omega
      refine lv_aload_n hx hb dX5_valueOf_66 rfl (lv_at hl 1 rfl) ?_
      refine lv_iconst (v := nI 0) hx hb dX5_valueOf_67 (by decide) ?_
      refine lv_iload_n hx hb dX5_valueOf_68 rfl (lv_at hl 2 rfl) ?_
      refine lv_aload_n hx hb dX5_valueOf_69 rfl (lv_at hl 1 rfl) ?_
      refine va_get (C := RX5) (T := TX5) (N := 19) hx hb hts (by decide +kernel) hown hK hP 0 rfl rfl 6 (by decide) (hts (.fieldLink RX5 70 RX5 "n" "I") (by decide +kernel)) (fun _ h9 => h9) rfl dX5_valueOf_70 ?_
      refine lv_iconst (v := nI 2) hx hb dX5_valueOf_73 (by decide) ?_
      refine n_irem hx hb dX5_valueOf_74 (by omega) (by omega) (by omega) ?_
      refine lv_aload_n hx hb dX5_valueOf_75 rfl (lv_at hl 1 rfl) ?_
      refine va_get (C := RX5) (T := TX5) (N := 19) hx hb hts (by decide +kernel) hown hK hP 0 rfl rfl 6 (by decide) (hts (.fieldLink RX5 70 RX5 "n" "I") (by decide +kernel)) (fun _ h9 => h9) rfl dX5_valueOf_76 ?_
      refine lv_iconst (v := nI 1) hx hb dX5_valueOf_79 (by decide) ?_
      refine n_iadd hx hb dX5_valueOf_80 ?_
      refine lv_aload_n hx hb dX5_valueOf_81 rfl (lv_at hl 1 rfl) ?_
      refine va_get (C := RX5) (T := TX5) (N := 19) hx hb hts (by decide +kernel) hown hK hP 0 rfl rfl 1 (by decide) (hts (.fieldLink RX5 52 RX5 "w" "I") (by decide +kernel)) (fun _ h9 => h9) rfl dX5_valueOf_82 ?_
      refine lv_aload_n hx hb dX5_valueOf_85 rfl (lv_at hl 1 rfl) ?_
      refine va_get (C := RX5) (T := TX5) (N := 19) hx hb hts (by decide +kernel) hown hK hP 0 rfl rfl 2 (by decide) (hts (.fieldLink RX5 56 RX5 "h" "I") (by decide +kernel)) (fun _ h9 => h9) rfl dX5_valueOf_86 ?_
      refine n_imul hx hb dX5_valueOf_89 ?_
      refine n_icmp_ne (tgt := 97) hx hb dX5_valueOf_90 (by decide) (by omega) (by omega) (fun c90_7 => ?_) (fun c90_7 => ?_)
      · skip
        refine lv_iconst (v := nI 0) hx hb dX5_valueOf_97 (by decide) ?_
        refine rt_i (v := bI false) rfl ?_
        by_cases hwn : wnB w h (upd Sn3 (7 * c + tp3 c) (nI (n % 2))) c (tp3 c) = true
        · skip
          refine mu_calli (wr := []) (va_runV (As := [.int (nI 0), .int (nI c), .int (nI (n % 2)), .int (bI false)]) (rest := []) ⟨hx, hb, hml, hown, hts⟩ (c5_vb_win l D cI cJ cZ ad w h (thN false false) n 1 po B ht dr wh sb V la sl we of_ Sn3 tp3 re 0 c (n % 2) false _ hd hc hlt3 hsn3 hwn) (cwV 4 hts gX5_valueOf_X5_valueBehind rfl rfl rfl (by decide +kernel) ⟨Nat.le_of_ble_eq_true rfl, Nat.le_of_ble_eq_true rfl⟩) ⟨MPc.blind, va_recv hK hP (ci := 5) (q0 := 0) rfl rfl, (MPc.at (hP.sub [0, 1, 2, 3, 4, 5, 6, 7, 8, 9, 10, 11, 12, 13] rfl) (hD.sub [0, 1, 2, 3, 4, 5, 6, 7, 8, 9, 10, 11, 12, 13] (by decide) rfl) hK hN)⟩ rfl rfl hl.1 rfl (lv_room (Nat.le_of_ble_eq_true rfl)) dX5_valueOf_98 ⟨Nat.zero_le _, Nat.zero_le _⟩) hP hD hS hA [0, 1, 2, 3, 4, 5, 6, 7, 8, 9, 10, 11, 12, 13] [] rfl rfl (by decide) (by decide) (fun rr u1 H locs hw hP hD hS => ?_)
          obtain rfl := hw
          have hP : va_P D vwCl (mW5 cI cZ ad w h (thN false false) n 1 po B ht dr wh sb V la sl we of_ Sn3 tp3 re) H := hP
          have hD : va_D A (mW5 cI cZ ad w h (thN false false) n 1 po B ht dr wh sb V la sl we of_ Sn3 tp3 re) := hD
          refine rt_i (v := zI v) (by rw [hv, ← vb_win_is (by omega) (by rw [hsd2]; exact hwin.mp hwn)]) ?_
          exact mu_iret (S := LkS) (wf := fun u : LkS => (mW5 cI cZ ad w h 0 n 1 u.1 B ht dr u.2.1 u.2.2.1 u.2.2.2.1 u.2.2.2.2.1 u.2.2.2.2.2.1 u.2.2.2.2.2.2.1 u.2.2.2.2.2.2.2.1 u.2.2.2.2.2.2.2.2.1 u.2.2.2.2.2.2.2.2.2 re)) hx hb hr hlocks (po, wh, sb, V, la, sl, we, of_, Sn3, tp3) ⟨hT, (by rw [hv, hsd2, hT.1.2.1.1, hT.1.2.1.2]; rfl)⟩ hP hD hS dX5_valueOf_101
        have hnl : ¬ hasL w h (sq_put (MP w h B ht ((n + 0) % 2) (wh 0) (sb 0)) c (tpE h ht (wh 0) c)) := fun z => hwn (hwin.mpr z)
        rw [Bool.not_eq_true] at hwn
        have hxx : of_ c + tp3 c - ht c = ofN h ht c + dgN h ht (wh 0) c := by rw [hof c hc, htc]; unfold tpE; omega
        have hbd := BFA.bd (pl := n % 2) R0 hT.1 hpo1 hsd2 hc hlt4 hnl (by rw [Nat.add_zero]) (hwe c hc) hxx
        obtain ⟨j0, hj0⟩ := hT.1.1.stop (by omega) (wh 0 + we c) (sb 0 ||| n % 2 * 2 ^ (of_ c + tp3 c - ht c))
        obtain ⟨hs1, zz, hzV, hz1, hz2, hz3⟩ := BFA.kid2 (V := V) (pl := n % 2) R0 hT.1 hpo1 hsd2 (by omega) (hT.2.1 0 hpo1).2 hV2 hc hlt4 hnl (by rw [Nat.add_zero]) (hwe c hc) hxx hj0
        refine mu_calli (wr := []) (va_runV (As := [.int (nI 0), .int (nI c), .int (nI (n % 2)), .int (bI false)]) (rest := []) ⟨hx, hb, hml, hown, hts⟩ (c5_vb_go l D cI cJ cZ ad w h (thN false false) n 1 po B ht dr wh sb V la sl we of_ Sn3 tp3 re 0 c (n % 2) zz _ hd hc hlt3 hsn3 hwn (by omega) (by rw [htc, htp0]; exact Nat.le_refl _) (by have := hof12 c hc; have := dgN_lt h ht (wh 0) c; unfold tpE at htc; omega) (by omega) hbd.1 hbd.2 hsl2 hwb2 hsb2 j0 hj0 hs1 hzV hz1 hz2) (cwV 4 hts gX5_valueOf_X5_valueBehind rfl rfl rfl (by decide +kernel) ⟨Nat.le_of_ble_eq_true rfl, Nat.le_of_ble_eq_true rfl⟩) ⟨MPc.blind, va_recv hK hP (ci := 5) (q0 := 0) rfl rfl, (MPc.at (hP.sub [0, 1, 2, 3, 4, 5, 6, 7, 8, 9, 10, 11, 12, 13] rfl) (hD.sub [0, 1, 2, 3, 4, 5, 6, 7, 8, 9, 10, 11, 12, 13] (by decide) rfl) hK hN)⟩ rfl rfl hl.1 rfl (lv_room (Nat.le_of_ble_eq_true rfl)) dX5_valueOf_98 ⟨Nat.zero_le _, Nat.zero_le _⟩) hP hD hS hA [0, 1, 2, 3, 4, 5, 6, 7, 8, 9, 10, 11, 12, 13] [] rfl rfl (by decide) (by decide) (fun rr u1 H locs hw hP hD hS => ?_)
        obtain rfl := hw
        have hP : va_P D vwCl (mW5 cI cZ ad w h (thN false false) n 1 po B ht dr wh sb V la sl we of_ Sn3 tp3 re) H := hP
        have hD : va_D A (mW5 cI cZ ad w h (thN false false) n 1 po B ht dr wh sb V la sl we of_ Sn3 tp3 re) := hD
        refine rt_i (v := zI v) (by rw [hv, hz3, hsd2]) ?_
        exact mu_iret (S := LkS) (wf := fun u : LkS => (mW5 cI cZ ad w h 0 n 1 u.1 B ht dr u.2.1 u.2.2.1 u.2.2.2.1 u.2.2.2.2.1 u.2.2.2.2.2.1 u.2.2.2.2.2.2.1 u.2.2.2.2.2.2.2.1 u.2.2.2.2.2.2.2.2.1 u.2.2.2.2.2.2.2.2.2 re)) hx hb hr hlocks (po, wh, sb, V, la, sl, we, of_, Sn3, tp3) ⟨hT, (by rw [hv, hsd2, hT.1.2.1.1, hT.1.2.1.2]; rfl)⟩ hP hD hS dX5_valueOf_101
      refine lv_iconst (v := nI 1) hx hb dX5_valueOf_93 (by decide) ?_
      refine rt_i (v := bI true) rfl ?_
      refine lv_goto (tgt := 98) hx hb dX5_valueOf_94 (by decide) ?_
      by_cases hwn : wnB w h (upd Sn3 (7 * c + tp3 c) (nI (n % 2))) c (tp3 c) = true
      · skip
        refine mu_calli (wr := []) (va_runV (As := [.int (nI 0), .int (nI c), .int (nI (n % 2)), .int (bI true)]) (rest := []) ⟨hx, hb, hml, hown, hts⟩ (c5_vb_win l D cI cJ cZ ad w h (thN false false) n 1 po B ht dr wh sb V la sl we of_ Sn3 tp3 re 0 c (n % 2) true _ hd hc hlt3 hsn3 hwn) (cwV 4 hts gX5_valueOf_X5_valueBehind rfl rfl rfl (by decide +kernel) ⟨Nat.le_of_ble_eq_true rfl, Nat.le_of_ble_eq_true rfl⟩) ⟨MPc.blind, va_recv hK hP (ci := 5) (q0 := 0) rfl rfl, (MPc.at (hP.sub [0, 1, 2, 3, 4, 5, 6, 7, 8, 9, 10, 11, 12, 13] rfl) (hD.sub [0, 1, 2, 3, 4, 5, 6, 7, 8, 9, 10, 11, 12, 13] (by decide) rfl) hK hN)⟩ rfl rfl hl.1 rfl (lv_room (Nat.le_of_ble_eq_true rfl)) dX5_valueOf_98 ⟨Nat.zero_le _, Nat.zero_le _⟩) hP hD hS hA [0, 1, 2, 3, 4, 5, 6, 7, 8, 9, 10, 11, 12, 13] [] rfl rfl (by decide) (by decide) (fun rr u1 H locs hw hP hD hS => ?_)
        obtain rfl := hw
        have hP : va_P D vwCl (mW5 cI cZ ad w h (thN false false) n 1 po B ht dr wh sb V la sl we of_ Sn3 tp3 re) H := hP
        have hD : va_D A (mW5 cI cZ ad w h (thN false false) n 1 po B ht dr wh sb V la sl we of_ Sn3 tp3 re) := hD
        refine rt_i (v := zI v) (by rw [hv, ← vb_win_is (by omega) (by rw [hsd2]; exact hwin.mp hwn)]) ?_
        exact mu_iret (S := LkS) (wf := fun u : LkS => (mW5 cI cZ ad w h 0 n 1 u.1 B ht dr u.2.1 u.2.2.1 u.2.2.2.1 u.2.2.2.2.1 u.2.2.2.2.2.1 u.2.2.2.2.2.2.1 u.2.2.2.2.2.2.2.1 u.2.2.2.2.2.2.2.2.1 u.2.2.2.2.2.2.2.2.2 re)) hx hb hr hlocks (po, wh, sb, V, la, sl, we, of_, Sn3, tp3) ⟨hT, (by rw [hv, hsd2, hT.1.2.1.1, hT.1.2.1.2]; rfl)⟩ hP hD hS dX5_valueOf_101
      have hnl : ¬ hasL w h (sq_put (MP w h B ht ((n + 0) % 2) (wh 0) (sb 0)) c (tpE h ht (wh 0) c)) := fun z => hwn (hwin.mpr z)
      rw [Bool.not_eq_true] at hwn
      refine mu_calli (wr := []) (va_runV (As := [.int (nI 0), .int (nI c), .int (nI (n % 2)), .int (bI true)]) (rest := []) ⟨hx, hb, hml, hown, hts⟩ (c5_vb_last l D cI cJ cZ ad w h (thN false false) n 1 po B ht dr wh sb V la sl we of_ Sn3 tp3 re 0 c (n % 2) _ hd hc hlt3 hsn3 hwn) (cwV 4 hts gX5_valueOf_X5_valueBehind rfl rfl rfl (by decide +kernel) ⟨Nat.le_of_ble_eq_true rfl, Nat.le_of_ble_eq_true rfl⟩) ⟨MPc.blind, va_recv hK hP (ci := 5) (q0 := 0) rfl rfl, (MPc.at (hP.sub [0, 1, 2, 3, 4, 5, 6, 7, 8, 9, 10, 11, 12, 13] rfl) (hD.sub [0, 1, 2, 3, 4, 5, 6, 7, 8, 9, 10, 11, 12, 13] (by decide) rfl) hK hN)⟩ rfl rfl hl.1 rfl (lv_room (Nat.le_of_ble_eq_true rfl)) dX5_valueOf_98 ⟨Nat.zero_le _, Nat.zero_le _⟩) hP hD hS hA [0, 1, 2, 3, 4, 5, 6, 7, 8, 9, 10, 11, 12, 13] [] rfl rfl (by decide) (by decide) (fun rr u1 H locs hw hP hD hS => ?_)
      obtain rfl := hw
      have hP : va_P D vwCl (mW5 cI cZ ad w h (thN false false) n 1 po B ht dr wh sb V la sl we of_ Sn3 tp3 re) H := hP
      have hD : va_D A (mW5 cI cZ ad w h (thN false false) n 1 po B ht dr wh sb V la sl we of_ Sn3 tp3 re) := hD
      refine rt_i (v := zI v) (by rw [hv, ← vb_last_is (by omega) (by rw [hsd2]; exact hnl)]) ?_
      exact mu_iret (S := LkS) (wf := fun u : LkS => (mW5 cI cZ ad w h 0 n 1 u.1 B ht dr u.2.1 u.2.2.1 u.2.2.2.1 u.2.2.2.2.1 u.2.2.2.2.2.1 u.2.2.2.2.2.2.1 u.2.2.2.2.2.2.2.1 u.2.2.2.2.2.2.2.2.1 u.2.2.2.2.2.2.2.2.2 re)) hx hb hr hlocks (po, wh, sb, V, la, sl, we, of_, Sn3, tp3) ⟨hT, (by rw [hv, hsd2, hT.1.2.1.1, hT.1.2.1.2]; rfl)⟩ hP hD hS dX5_valueOf_101
    · exact absurd c41_5 (by omega)
  · exact absurd c9_2 (by omega)

set_option maxHeartbeats 4000000 in
set_option maxRecDepth 100000 in
theorem c5_best_no (l : Launch) (D : va_G) (cI cJ cZ : ClassId) (ad : Nat → Nat) (w h th n kn po : Nat) (B : Nat → Int32) (ht dr wh sb : Nat → Nat) (V : Nat → Int32) (la sl we of_ : Nat → Nat) (Sn : Nat → Int32) (tp re : Nat → Nat)  (sz : Nat) (hd : Dm w h) (hn : n ≤ w * h) (hlast : 0 < n → dr (n - 1) < w ∧ 1 ≤ ht (dr (n - 1)) ∧ ht (dr (n - 1)) ≤ h) (hif : ifB w h B ht dr n = true) : Met l yX5_best wsX5_best (k2_rm 6 150) (MPc D [.ref (ad 0)] (mW5 cI cZ ad w h th n kn po B ht dr wh sb V la sl we of_ Sn tp re) (tyA cI cJ cZ) sz) (mQi D (fun r9 (_ : Unit) => r9 = nI 0) (fun _ => (mW5 cI cZ ad w h 1 n kn po B ht dr wh sb V la sl we of_ Sn tp re)) (va_A (mW5 cI cZ ad w h th n kn po B ht dr wh sb V la sl we of_ Sn tp re) sz)) 0 0 (va_A (mW5 cI cZ ad w h th n kn po B ht dr wh sb V la sl we of_ Sn tp re) sz) := by
  refine mu_head (Qc := fun A => mQi D (fun r9 (_ : Unit) => r9 = nI 0) (fun _ => (mW5 cI cZ ad w h 1 n kn po B ht dr wh sb V la sl we of_ Sn tp re)) A) (cc := cX5_best) (maxL := 4) (ret := (some .int)) (by decide) rfl (Nat.le_of_ble_eq_true rfl) ?_
  intro p e s m below meth cd ls A hx hb hr hlocks hnm hts hown hml hA hP hK hD hN hS hl
  have hl : lv_has ls 4 [(0, .ref (ad 0))] := hl
  have hd0 := hd
  obtain ⟨h3w, hw9, h3h, hh7, hwh, h64⟩ := hd0
  refine lv_aload_n hx hb dX5_best_0 rfl (lv_at hl 0 rfl) ?_
  refine lv_aload_n hx hb dX5_best_1 rfl (lv_at hl 0 rfl) ?_
  refine ro_call (W.runV (As := []) (rest := [.ref (ad 0)]) ⟨hx, hb, hml, hown, hts⟩ (c_isFar l D cI cJ cZ ad w h th n kn po B ht dr wh sb V la sl we of_ Sn tp re hd hn hlast) (cwV 0 hts gX5_best_X5_isFar rfl rfl rfl (by decide +kernel) ⟨Nat.le_of_ble_eq_true rfl, Nat.le_of_ble_eq_true rfl⟩) ⟨RPc.blind, va_recv hK hP (ci := 5) (q0 := 0) rfl rfl, (RPc.at (hP.sub [0, 1, 2, 3, 4, 5, 6, 7, 8, 9, 10, 11, 12, 13] rfl) hK hN)⟩ rfl rfl hl.1 rfl (lv_room (Nat.le_of_ble_eq_true rfl)) dX5_best_2 ⟨Nat.zero_le _, Nat.zero_le _⟩) ?_
  refine rt_i (v := bI true) (by rw [hif]) ?_
  refine lv_iconst (v := nI 0) hx hb dX5_best_5 (by decide) ?_
  refine rt_i (v := bI false) rfl ?_
  refine mu_calli (wr := []) (va_runV (As := [.int (bI true), .int (bI false)]) (rest := []) ⟨hx, hb, hml, hown, hts⟩ (c5_refused l D cI cJ cZ ad w h th n kn po B ht dr wh sb V la sl we of_ Sn tp re true false _ ) (cwV 2 hts gX5_best_X5_refused rfl rfl rfl (by decide +kernel) ⟨Nat.le_of_ble_eq_true rfl, Nat.le_of_ble_eq_true rfl⟩) ⟨MPc.blind, va_recv hK hP (ci := 5) (q0 := 0) rfl rfl, (MPc.at (hP.sub [0, 1, 2, 3, 4, 5, 6, 7, 8, 9, 10, 11, 12, 13] rfl) (hD.sub [0, 1, 2, 3, 4, 5, 6, 7, 8, 9, 10, 11, 12, 13] (by decide) rfl) hK hN)⟩ rfl rfl hl.1 rfl (lv_room (Nat.le_of_ble_eq_true rfl)) dX5_best_6 ⟨Nat.zero_le _, Nat.zero_le _⟩) hP hD hS hA [0, 1, 2, 3, 4, 5, 6, 7, 8, 9, 10, 11, 12, 13] [] rfl rfl (by decide) (by decide) (fun rr u1 H locs hw hP hD hS => ?_)
  obtain rfl := hw
  have hP : va_P D vwCl (mW5 cI cZ ad w h (thN true false) n kn po B ht dr wh sb V la sl we of_ Sn tp re) H := hP
  have hD : va_D A (mW5 cI cZ ad w h (thN true false) n kn po B ht dr wh sb V la sl we of_ Sn tp re) := hD
  refine b_if_eq (tgt := 14) hx hb dX5_best_9 (by decide) (fun c9_1 => absurd c9_1 (by decide)) (fun _ => ?_)
  refine lv_iconst (v := nI 0) hx hb dX5_best_12 (by decide) ?_
  exact mu_iret (S := Unit) (wf := fun _ => (mW5 cI cZ ad w h 1 n kn po B ht dr wh sb V la sl we of_ Sn tp re)) hx hb hr hlocks () rfl hP hD hS dX5_best_13

set_option maxHeartbeats 4000000 in
set_option maxRecDepth 100000 in
theorem c5_best_ok (l : Launch) (D : va_G) (cI cJ cZ : ClassId) (ad : Nat → Nat) (w h th n kn po : Nat) (B : Nat → Int32) (ht dr wh sb : Nat → Nat) (V : Nat → Int32) (la sl we of_ : Nat → Nat) (Sn : Nat → Int32) (tp re : Nat → Nat) (E : Nat) (sz : Nat) (hd : Dm w h) (hn : n ≤ w * h) (hlast : 0 < n → dr (n - 1) < w ∧ 1 ≤ ht (dr (n - 1)) ∧ ht (dr (n - 1)) ≤ h) (hEq : w * h - n = E) (hE1 : 1 ≤ E) (R0 : RootOK w h B ht n E) (hwb : ∀ j, wh j < 8192) (hsb : ∀ j, sb j < 8192) (hsl0 : ∀ a, 262144 ≤ a → sl a = 0) (hkn : kn = 0 ∨ kn = 1 ∧ TblOK w h B ht n E po wh sb V sl we of_) (hif : ifB w h B ht dr n = false) : Met l yX5_best wsX5_best (k2_rm 6 150) (MPc D [.ref (ad 0)] (mW5 cI cZ ad w h th n kn po B ht dr wh sb V la sl we of_ Sn tp re) (tyA cI cJ cZ) sz) (mQi D (fun r9 (u : LkS) => lkP w h B ht n E u ∧ r9 = zI (bfZ (evW w h B ht n E 0 0) w)) (fun u => (mW5 cI cZ ad w h 0 n 1 u.1 B ht dr u.2.1 u.2.2.1 u.2.2.2.1 u.2.2.2.2.1 u.2.2.2.2.2.1 u.2.2.2.2.2.2.1 u.2.2.2.2.2.2.2.1 u.2.2.2.2.2.2.2.2.1 u.2.2.2.2.2.2.2.2.2 re)) (va_A (mW5 cI cZ ad w h th n kn po B ht dr wh sb V la sl we of_ Sn tp re) sz)) 0 0 (va_A (mW5 cI cZ ad w h th n kn po B ht dr wh sb V la sl we of_ Sn tp re) sz) := by
  refine mu_head (Qc := fun A => mQi D (fun r9 (u : LkS) => lkP w h B ht n E u ∧ r9 = zI (bfZ (evW w h B ht n E 0 0) w)) (fun u => (mW5 cI cZ ad w h 0 n 1 u.1 B ht dr u.2.1 u.2.2.1 u.2.2.2.1 u.2.2.2.2.1 u.2.2.2.2.2.1 u.2.2.2.2.2.2.1 u.2.2.2.2.2.2.2.1 u.2.2.2.2.2.2.2.2.1 u.2.2.2.2.2.2.2.2.2 re)) A) (cc := cX5_best) (maxL := 4) (ret := (some .int)) (by decide) rfl (Nat.le_of_ble_eq_true rfl) ?_
  intro p e s m below meth cd ls A hx hb hr hlocks hnm hts hown hml hA hP hK hD hN hS hl
  have hl : lv_has ls 4 [(0, .ref (ad 0))] := hl
  have hd0 := hd
  obtain ⟨h3w, hw9, h3h, hh7, hwh, h64⟩ := hd0
  have hE12 := R0.2.2.2.2
  have hht := R0.2.1
  refine lv_aload_n hx hb dX5_best_0 rfl (lv_at hl 0 rfl) ?_
  refine lv_aload_n hx hb dX5_best_1 rfl (lv_at hl 0 rfl) ?_
  refine ro_call (W.runV (As := []) (rest := [.ref (ad 0)]) ⟨hx, hb, hml, hown, hts⟩ (c_isFar l D cI cJ cZ ad w h th n kn po B ht dr wh sb V la sl we of_ Sn tp re hd hn hlast) (cwV 0 hts gX5_best_X5_isFar rfl rfl rfl (by decide +kernel) ⟨Nat.le_of_ble_eq_true rfl, Nat.le_of_ble_eq_true rfl⟩) ⟨RPc.blind, va_recv hK hP (ci := 5) (q0 := 0) rfl rfl, (RPc.at (hP.sub [0, 1, 2, 3, 4, 5, 6, 7, 8, 9, 10, 11, 12, 13] rfl) hK hN)⟩ rfl rfl hl.1 rfl (lv_room (Nat.le_of_ble_eq_true rfl)) dX5_best_2 ⟨Nat.zero_le _, Nat.zero_le _⟩) ?_
  refine rt_i (v := bI false) (by rw [hif]) ?_
  refine lv_iconst (v := nI 0) hx hb dX5_best_5 (by decide) ?_
  refine rt_i (v := bI false) rfl ?_
  refine mu_calli (wr := []) (va_runV (As := [.int (bI false), .int (bI false)]) (rest := []) ⟨hx, hb, hml, hown, hts⟩ (c5_refused l D cI cJ cZ ad w h th n kn po B ht dr wh sb V la sl we of_ Sn tp re false false _ ) (cwV 2 hts gX5_best_X5_refused rfl rfl rfl (by decide +kernel) ⟨Nat.le_of_ble_eq_true rfl, Nat.le_of_ble_eq_true rfl⟩) ⟨MPc.blind, va_recv hK hP (ci := 5) (q0 := 0) rfl rfl, (MPc.at (hP.sub [0, 1, 2, 3, 4, 5, 6, 7, 8, 9, 10, 11, 12, 13] rfl) (hD.sub [0, 1, 2, 3, 4, 5, 6, 7, 8, 9, 10, 11, 12, 13] (by decide) rfl) hK hN)⟩ rfl rfl hl.1 rfl (lv_room (Nat.le_of_ble_eq_true rfl)) dX5_best_6 ⟨Nat.zero_le _, Nat.zero_le _⟩) hP hD hS hA [0, 1, 2, 3, 4, 5, 6, 7, 8, 9, 10, 11, 12, 13] [] rfl rfl (by decide) (by decide) (fun rr u1 H locs hw hP hD hS => ?_)
  obtain rfl := hw
  have hP : va_P D vwCl (mW5 cI cZ ad w h (thN false false) n kn po B ht dr wh sb V la sl we of_ Sn tp re) H := hP
  have hD : va_D A (mW5 cI cZ ad w h (thN false false) n kn po B ht dr wh sb V la sl we of_ Sn tp re) := hD
  refine b_if_eq (tgt := 14) hx hb dX5_best_9 (by decide) (fun _ => ?_) (fun c9_1 => absurd c9_1 (by decide))
  refine lv_aload_n hx hb dX5_best_14 rfl (lv_at hl 0 rfl) ?_
  refine mu_callv (wr := []) (va_runV (As := []) (rest := []) ⟨hx, hb, hml, hown, hts⟩ (c5_lookAhead l D cI cJ cZ ad w h (thN false false) n kn po B ht dr wh sb V la sl we of_ Sn tp re E _ hd hn hEq hE1 R0 hwb hsb hsl0 hkn) (cwV 0 hts gX5_best_X5_lookAhead rfl rfl rfl (by decide +kernel) ⟨Nat.le_of_ble_eq_true rfl, Nat.le_of_ble_eq_true rfl⟩) ⟨MPc.blind, va_recv hK hP (ci := 5) (q0 := 0) rfl rfl, (MPc.at (hP.sub [0, 1, 2, 3, 4, 5, 6, 7, 8, 9, 10, 11, 12, 13] rfl) (hD.sub [0, 1, 2, 3, 4, 5, 6, 7, 8, 9, 10, 11, 12, 13] (by decide) rfl) hK hN)⟩ rfl rfl hl.1 rfl (lv_room (Nat.le_of_ble_eq_true rfl)) dX5_best_15 ⟨Nat.zero_le _, Nat.zero_le _⟩) hP hD hS hA [0, 1, 2, 3, 4, 5, 6, 7, 8, 9, 10, 11, 12, 13] [] rfl rfl (by decide) (by decide) (fun u1 H locs hw hP hD hS => ?_)
  have hT := hw
  obtain ⟨po, wh, sb, V, la, sl, we, of_, Sn, tp⟩ := u1
  have hT : TblOK w h B ht n E po wh sb V sl we of_ := hT
  have hP : va_P D vwCl (mW5 cI cZ ad w h (thN false false) n 1 po B ht dr wh sb V la sl we of_ Sn tp re) H := hP
  have hD : va_D A (mW5 cI cZ ad w h (thN false false) n 1 po B ht dr wh sb V la sl we of_ Sn tp re) := hD
  have hr0 := hT.root R0
  obtain ⟨hsd2, hV0, htp0⟩ := hr0
  have hof12 : ∀ c, c < w → of_ c + (h - ht c) ≤ E := fun c hc => by rw [(hT.2.2.2 c hc).2]; exact of_le12 R0 hc
  have hofs : ∀ c, c < w → of_ c ≤ 12 := fun c hc => by have := hof12 c hc; omega
  have hof : ∀ c, c < w → of_ c = ofN h ht c := fun c hc => (hT.2.2.2 c hc).2
  have hwe : ∀ c, c < w → we c = prN h ht c := fun c hc => (hT.2.2.2 c hc).1
  have hwb2 : ∀ j, wh j < 2 ^ 31 := fun j => Nat.lt_of_lt_of_le (hT.1.2.2.2.2.1 j) (by decide)
  have hsb2 : ∀ j, sb j < 2 ^ 31 := fun j => Nat.lt_of_lt_of_le (hT.1.2.2.2.2.2.1 j) (by decide)
  have hfw := hT.1.few R0
  have hpo1 := hT.1.2.2.1
  have hsl2 : ∀ a, sl a ≤ 70000 := fun a => by have := hT.1.1.1 a; omega
  have hent0 := hT.1.2.2.2.1 0 hT.1.2.2.1
  have hent := hent0
  rw [hsd2] at hent
  have hV2 : VdA w h B ht n E po wh sb V (0 + 1) := fun j hj _ => hT.2.2.1 j hj
  refine lv_aload_n hx hb dX5_best_18 rfl (lv_at hl 0 rfl) ?_
  refine lv_iconst (v := nI 0) hx hb dX5_best_19 (by decide) ?_
  refine mu_callv (wr := []) (va_runV (As := [.int (nI 0)]) (rest := []) ⟨hx, hb, hml, hown, hts⟩ (c5_show l D cI cJ cZ ad w h (thN false false) n 1 po B ht dr wh sb V la sl we of_ Sn tp re 0 _ hd (by omega) hht hofs hwb2 hsb2) (cwV 1 hts gX5_best_X5_show rfl rfl rfl (by decide +kernel) ⟨Nat.le_of_ble_eq_true rfl, Nat.le_of_ble_eq_true rfl⟩) ⟨MPc.blind, va_recv hK hP (ci := 5) (q0 := 0) rfl rfl, (MPc.at (hP.sub [0, 1, 2, 3, 4, 5, 6, 7, 8, 9, 10, 11, 12, 13] rfl) (hD.sub [0, 1, 2, 3, 4, 5, 6, 7, 8, 9, 10, 11, 12, 13] (by decide) rfl) hK hN)⟩ rfl rfl hl.1 rfl (lv_room (Nat.le_of_ble_eq_true rfl)) dX5_best_20 ⟨Nat.zero_le _, Nat.zero_le _⟩) hP hD hS hA [0, 1, 2, 3, 4, 5, 6, 7, 8, 9, 10, 11, 12, 13] [] rfl rfl (by decide) (by decide) (fun u1 H locs hw hP hD hS => ?_)
  have hP : va_P D vwCl (mW5 cI cZ ad w h (thN false false) n 1 po B ht dr wh sb V la sl we of_ (shS h B ht of_ (wh 0) (sb 0) Sn w) (tpS h ht tp (wh 0) w) re) H := hP
  have hD : va_D A (mW5 cI cZ ad w h (thN false false) n 1 po B ht dr wh sb V la sl we of_ (shS h B ht of_ (wh 0) (sb 0) Sn w) (tpS h ht tp (wh 0) w) re) := hD
  obtain ⟨Sn3, eSn⟩ : ∃ f, f = (shS h B ht of_ (wh 0) (sb 0) Sn w) := ⟨_, rfl⟩
  rw [← eSn] at hP hD
  obtain ⟨tp3, etp⟩ : ∃ f, f = (tpS h ht tp (wh 0) w) := ⟨_, rfl⟩
  rw [← etp] at hP hD
  have htp3 : ∀ c, c < w → tp3 c = tpE h ht (wh 0) c := fun c hc => by rw [etp]; exact if_pos hc
  refine lv_iconst (v := zI (-1)) hx hb dX5_best_23 (by decide) ?_
  refine lv_istore_n (lv' := [(1, .int (zI (-1))), (0, .ref (ad 0))]) hx hb dX5_best_24 rfl hl (by decide) rfl (fun ls hl => ?_)
  refine lv_iconst (v := nI 0) hx hb dX5_best_25 (by decide) ?_
  refine lv_istore_n (lv' := [(2, .int (nI 0)), (1, .int (zI (-1))), (0, .ref (ad 0))]) hx hb dX5_best_26 rfl hl (by decide) rfl (fun ls hl => ?_)
  refine loopH (σ := Int) (m := m) (Wf := fun H locs g => W p l e _ s m _ below meth cd H locs _ _ _ g) 27 4 (fun i qx => [(0, .ref (ad 0)), (2, .int (nI i)), (1, .int (zI qx))]) (fun i qx => (mW5 cI cZ ad w h 0 n 1 po B ht dr wh sb V la sl we of_ Sn3 tp3 re)) (fun i qx => qx = bfZ (evW w h B ht n E (wh 0) (sb 0)) i) w ?_ ?_ 0 (-1) ls _ _ (by omega) rfl hP hD hS (lv_sub hl [2, 0, 1] rfl)
  · intro c qx ls H locs hi_27 hI_27 hP hD hS hl ih_27
    obtain ⟨bz, rfl⟩ : ∃ z, z = qx := ⟨_, rfl⟩
    have hl : lv_has ls 4 [(0, .ref (ad 0)), (2, .int (nI c)), (1, .int (zI bz))] := hl
    have hP : va_P D vwCl (mW5 cI cZ ad w h 0 n 1 po B ht dr wh sb V la sl we of_ Sn3 tp3 re) H := hP
    have hD : va_D A (mW5 cI cZ ad w h 0 n 1 po B ht dr wh sb V la sl we of_ Sn3 tp3 re) := hD
    have hI_27 : bz = bfZ (evW w h B ht n E (wh 0) (sb 0)) c := hI_27
    have hbb := bfZ_bd (evW w h B ht n E (wh 0) (sb 0)) c
    rw [← hI_27] at hbb
    have hhc := hht c
    refine lv_iload_n hx hb dX5_best_27 rfl (lv_at hl 1 rfl) ?_
    refine lv_aload_n hx hb dX5_best_28 rfl (lv_at hl 0 rfl) ?_
    refine va_get (C := RX5) (T := TX5) (N := 19) hx hb hts (by decide +kernel) hown hK hP 0 rfl rfl 1 (by decide) (hts (.fieldLink RX5 52 RX5 "w" "I") (by decide +kernel)) (fun _ h9 => h9) rfl dX5_best_29 ?_
    refine n_icmp_ge (tgt := 118) hx hb dX5_best_32 (by decide) (by omega) (by omega) (fun c32_2 => ?_) (fun c32_2 => ?_)
    · exact absurd c32_2 (by omega)
    refine lv_aload_n hx hb dX5_best_35 rfl (lv_at hl 0 rfl) ?_
    refine va_get (C := RX5) (T := TX5) (N := 19) hx hb hts (by decide +kernel) hown hK hP 0 rfl rfl 4 (by decide) (hts (.fieldLink RX5 13 RX5 "heights" "[I") (by decide +kernel)) (fun _ h9 => h9) rfl dX5_best_36 ?_
    refine lv_iload_n hx hb dX5_best_39 rfl (lv_at hl 1 rfl) ?_
    refine n_iald hx hb hK hP 2 0 rfl rfl (by omega) (by decide) dX5_best_40 ?_
    refine lv_aload_n hx hb dX5_best_41 rfl (lv_at hl 0 rfl) ?_
    refine va_get (C := RX5) (T := TX5) (N := 19) hx hb hts (by decide +kernel) hown hK hP 0 rfl rfl 2 (by decide) (hts (.fieldLink RX5 56 RX5 "h" "I") (by decide +kernel)) (fun _ h9 => h9) rfl dX5_best_42 ?_
    refine n_icmp_ge (tgt := 96) hx hb dX5_best_45 (by decide) (by omega) (by omega) (fun c45_3 => ?_) (fun c45_3 => ?_)
    · skip
      refine lv_iconst (v := nI 0) hx hb dX5_best_96 (by decide) ?_
      refine rt_i (v := bI false) rfl ?_
      refine lv_istore_n (lv' := [(3, .int (bI false)), (0, .ref (ad 0)), (2, .int (nI c)), (1, .int (zI bz))]) hx hb dX5_best_97 rfl hl (by decide) rfl (fun ls hl => ?_)
      refine lv_iload_n hx hb dX5_best_98 rfl (lv_at hl 0 rfl) ?_
      refine b_if_eq (tgt := 110) hx hb dX5_best_99 (by decide) (fun _ => ?_) (fun c99_4 => absurd c99_4 (by decide))
      refine lv_iload_n hx hb dX5_best_110 rfl (lv_at hl 3 rfl) ?_
      refine lv_istore_n (lv' := [(1, .int (zI bz)), (3, .int (bI false)), (0, .ref (ad 0)), (2, .int (nI c))]) hx hb dX5_best_111 rfl hl (by decide) rfl (fun ls hl => ?_)
      refine n_iinc (n := 1) (lv' := [(2, .int (nI (c + 1))), (1, .int (zI bz)), (3, .int (bI false)), (0, .ref (ad 0))]) hx hb dX5_best_112 hl (k := 3) rfl (by decide) rfl (fun ls hl => ?_)
      refine lv_goto (tgt := 27) hx hb dX5_best_115 (by decide) ?_
      exact ih_27 bz ls _ _ (by rw [bfZ, if_neg (fun q => absurd (evW_iff.mp q.1).1 (by omega)), hI_27]) hP hD hS (lv_sub hl [3, 0, 1] rfl)
    have htc := htp3 c hi_27
    have hlt3 : tp3 c < h := by rw [htc, htp0]; omega
    have hlt4 : tpE h ht (wh 0) c < h := by rw [htp0]; omega
    have hsn3 : Sn3 (7 * c + tp3 c) = -1 := by rw [eSn, htc]; exact ent_seen R0 hof hi_27 hlt4
    have hwin : wnB w h (upd Sn3 (7 * c + tp3 c) (nI (n % 2))) c (tp3 c) = true ↔ hasL w h (sq_put (MP w h B ht ((n + 0) % 2) (wh 0) (sb 0)) c (tpE h ht (wh 0) c)) := by
      rw [eSn, htc, Nat.add_zero]; exact ent_win R0 hof (by omega) hent.2.2.2.2.2.2.2.2.1 hi_27 hlt4
    obtain ⟨v, hv⟩ : ∃ v, v = s2v (E - sdN w h ht (wh 0)) (evM w h B ht n E (wh 0) (sb 0) c) := ⟨_, rfl⟩
    have hvb : -13 ≤ v ∧ v ≤ 13 := by
      have b2 := evM_bd (w := w) (h := h) (B := B) (ht := ht) (n := n) (E := E) (W0 := wh 0) (by omega) (sb 0) c
      have := s2v_bd b2.1 b2.2; omega
    refine lv_aload_n hx hb dX5_best_48 rfl (lv_at hl 0 rfl) ?_
    refine lv_iconst (v := nI 0) hx hb dX5_best_49 (by decide) ?_
    refine lv_iload_n hx hb dX5_best_50 rfl (lv_at hl 1 rfl) ?_
    refine lv_aload_n hx hb dX5_best_51 rfl (lv_at hl 0 rfl) ?_
    refine va_get (C := RX5) (T := TX5) (N := 19) hx hb hts (by decide +kernel) hown hK hP 0 rfl rfl 6 (by decide) (hts (.fieldLink RX5 70 RX5 "n" "I") (by decide +kernel)) (fun _ h9 => h9) rfl dX5_best_52 ?_
    refine lv_iconst (v := nI 2) hx hb dX5_best_55 (by decide) ?_
    refine n_irem hx hb dX5_best_56 (by omega) (by omega) (by omega) ?_
    refine lv_aload_n hx hb dX5_best_57 rfl (lv_at hl 0 rfl) ?_
    refine va_get (C := RX5) (T := TX5) (N := 19) hx hb hts (by decide +kernel) hown hK hP 0 rfl rfl 6 (by decide) (hts (.fieldLink RX5 70 RX5 "n" "I") (by decide +kernel)) (fun _ h9 => h9) rfl dX5_best_58 ?_
    refine lv_iconst (v := nI 1) hx hb dX5_best_61 (by decide) ?_
    refine n_iadd hx hb dX5_best_62 ?_
    refine lv_aload_n hx hb dX5_best_63 rfl (lv_at hl 0 rfl) ?_
    refine va_get (C := RX5) (T := TX5) (N := 19) hx hb hts (by decide +kernel) hown hK hP 0 rfl rfl 1 (by decide) (hts (.fieldLink RX5 52 RX5 "w" "I") (by decide +kernel)) (fun _ h9 => h9) rfl dX5_best_64 ?_
    refine lv_aload_n hx hb dX5_best_67 rfl (lv_at hl 0 rfl) ?_
    refine va_get (C := RX5) (T := TX5) (N := 19) hx hb hts (by decide +kernel) hown hK hP 0 rfl rfl 2 (by decide) (hts (.fieldLink RX5 56 RX5 "h" "I") (by decide +kernel)) (fun _ h9 => h9) rfl dX5_best_68 ?_
    refine n_imul hx hb dX5_best_71 ?_
    refine n_icmp_ne (tgt := 79) hx hb dX5_best_72 (by decide) (by omega) (by omega) (fun c72_5 => ?_) (fun c72_5 => ?_)
    · skip
      refine lv_iconst (v := nI 0) hx hb dX5_best_79 (by decide) ?_
      refine rt_i (v := bI false) rfl ?_
      by_cases hwn : wnB w h (upd Sn3 (7 * c + tp3 c) (nI (n % 2))) c (tp3 c) = true
      · skip
        refine mu_calli (wr := []) (va_runV (As := [.int (nI 0), .int (nI c), .int (nI (n % 2)), .int (bI false)]) (rest := []) ⟨hx, hb, hml, hown, hts⟩ (c5_vb_win l D cI cJ cZ ad w h 0 n 1 po B ht dr wh sb V la sl we of_ Sn3 tp3 re 0 c (n % 2) false _ hd hi_27 hlt3 hsn3 hwn) (cwV 4 hts gX5_best_X5_valueBehind rfl rfl rfl (by decide +kernel) ⟨Nat.le_of_ble_eq_true rfl, Nat.le_of_ble_eq_true rfl⟩) ⟨MPc.blind, va_recv hK hP (ci := 5) (q0 := 0) rfl rfl, (MPc.at (hP.sub [0, 1, 2, 3, 4, 5, 6, 7, 8, 9, 10, 11, 12, 13] rfl) (hD.sub [0, 1, 2, 3, 4, 5, 6, 7, 8, 9, 10, 11, 12, 13] (by decide) rfl) hK hN)⟩ rfl rfl hl.1 rfl (lv_room (Nat.le_of_ble_eq_true rfl)) dX5_best_80 ⟨Nat.zero_le _, Nat.zero_le _⟩) hP hD hS hA [0, 1, 2, 3, 4, 5, 6, 7, 8, 9, 10, 11, 12, 13] [] rfl rfl (by decide) (by decide) (fun rr u1 H locs hw hP hD hS => ?_)
        obtain rfl := hw
        have hP : va_P D vwCl (mW5 cI cZ ad w h 0 n 1 po B ht dr wh sb V la sl we of_ Sn3 tp3 re) H := hP
        have hD : va_D A (mW5 cI cZ ad w h 0 n 1 po B ht dr wh sb V la sl we of_ Sn3 tp3 re) := hD
        refine rt_i (v := zI v) (by rw [hv, ← vb_win_is (by omega) (by rw [hsd2]; exact hwin.mp hwn)]) ?_
        refine lv_aload_n hx hb dX5_best_83 rfl (lv_at hl 0 rfl) ?_
        refine va_get (C := RX5) (T := TX5) (N := 19) hx hb hts (by decide +kernel) hown hK hP 0 rfl rfl 11 (by decide) (hts (.fieldLink RX5 26 RX5 "values" "[I") (by decide +kernel)) (fun _ h9 => h9) rfl dX5_best_84 ?_
        refine lv_iconst (v := nI 0) hx hb dX5_best_87 (by decide) ?_
        refine n_iald hx hb hK hP 6 0 rfl rfl (by decide) (by decide) dX5_best_88 ?_
        refine rt_i (v := zI (evV w h B ht n E (wh 0) (sb 0))) hV0 ?_
        refine z_icmp_ne (tgt := 96) hx hb dX5_best_89 (by decide) (by unfold zB; omega) (by have := evV_bd (w := w) (h := h) (B := B) (ht := ht) (n := n) (E := E) (W0 := wh 0) (b := sb 0) hE12; unfold zB; omega) (fun c89_6 => ?_) (fun c89_6 => ?_)
        · skip
          refine lv_iconst (v := nI 0) hx hb dX5_best_96 (by decide) ?_
          refine rt_i (v := bI false) rfl ?_
          refine lv_istore_n (lv' := [(3, .int (bI false)), (0, .ref (ad 0)), (2, .int (nI c)), (1, .int (zI bz))]) hx hb dX5_best_97 rfl hl (by decide) rfl (fun ls hl => ?_)
          refine lv_iload_n hx hb dX5_best_98 rfl (lv_at hl 0 rfl) ?_
          refine b_if_eq (tgt := 110) hx hb dX5_best_99 (by decide) (fun _ => ?_) (fun c99_7 => absurd c99_7 (by decide))
          refine lv_iload_n hx hb dX5_best_110 rfl (lv_at hl 3 rfl) ?_
          refine lv_istore_n (lv' := [(1, .int (zI bz)), (3, .int (bI false)), (0, .ref (ad 0)), (2, .int (nI c))]) hx hb dX5_best_111 rfl hl (by decide) rfl (fun ls hl => ?_)
          refine n_iinc (n := 1) (lv' := [(2, .int (nI (c + 1))), (1, .int (zI bz)), (3, .int (bI false)), (0, .ref (ad 0))]) hx hb dX5_best_112 hl (k := 3) rfl (by decide) rfl (fun ls hl => ?_)
          refine lv_goto (tgt := 27) hx hb dX5_best_115 (by decide) ?_
          exact ih_27 bz ls _ _ (by rw [bfZ, if_neg (fun q => c89_6 (hv.trans ((evV_eq hE12 (by omega)).mpr (evW_iff.mp q.1).2))), hI_27]) hP hD hS (lv_sub hl [3, 0, 1] rfl)
        refine lv_iconst (v := nI 1) hx hb dX5_best_92 (by decide) ?_
        refine rt_i (v := bI true) rfl ?_
        refine lv_goto (tgt := 97) hx hb dX5_best_93 (by decide) ?_
        refine lv_istore_n (lv' := [(3, .int (bI true)), (0, .ref (ad 0)), (2, .int (nI c)), (1, .int (zI bz))]) hx hb dX5_best_97 rfl hl (by decide) rfl (fun ls hl => ?_)
        refine lv_iload_n hx hb dX5_best_98 rfl (lv_at hl 0 rfl) ?_
        refine b_if_eq (tgt := 110) hx hb dX5_best_99 (by decide) (fun c99_8 => absurd c99_8 (by decide)) (fun _ => ?_)
        refine lv_iload_n hx hb dX5_best_102 rfl (lv_at hl 3 rfl) ?_
        refine z_if_ge (tgt := 110) hx hb dX5_best_103 (by decide) (by unfold zB; omega) (fun c103_9 => ?_) (fun c103_9 => ?_)
        · skip
          refine lv_iload_n hx hb dX5_best_110 rfl (lv_at hl 3 rfl) ?_
          refine lv_istore_n (lv' := [(1, .int (zI bz)), (3, .int (bI true)), (0, .ref (ad 0)), (2, .int (nI c))]) hx hb dX5_best_111 rfl hl (by decide) rfl (fun ls hl => ?_)
          refine n_iinc (n := 1) (lv' := [(2, .int (nI (c + 1))), (1, .int (zI bz)), (3, .int (bI true)), (0, .ref (ad 0))]) hx hb dX5_best_112 hl (k := 3) rfl (by decide) rfl (fun ls hl => ?_)
          refine lv_goto (tgt := 27) hx hb dX5_best_115 (by decide) ?_
          exact ih_27 bz ls _ _ (by rw [bfZ, if_neg (fun q => by have := q.2; rw [← hI_27] at this; omega), hI_27]) hP hD hS (lv_sub hl [3, 0, 1] rfl)
        refine lv_iload_n hx hb dX5_best_106 rfl (lv_at hl 2 rfl) ?_
        refine rt_i (v := zI (c : Int)) (zI_n _).symm ?_
        refine lv_goto (tgt := 111) hx hb dX5_best_107 (by decide) ?_
        refine lv_istore_n (lv' := [(1, .int (zI (c : Int))), (3, .int (bI true)), (0, .ref (ad 0)), (2, .int (nI c))]) hx hb dX5_best_111 rfl hl (by decide) rfl (fun ls hl => ?_)
        refine n_iinc (n := 1) (lv' := [(2, .int (nI (c + 1))), (1, .int (zI (c : Int))), (3, .int (bI true)), (0, .ref (ad 0))]) hx hb dX5_best_112 hl (k := 3) rfl (by decide) rfl (fun ls hl => ?_)
        refine lv_goto (tgt := 27) hx hb dX5_best_115 (by decide) ?_
        exact ih_27 (c : Int) ls _ _ (by rw [bfZ, if_pos ⟨(evW_iff.mpr ⟨by omega, (evV_eq hE12 (by omega)).mp (hv.symm.trans c89_6)⟩), by rw [← hI_27]; exact c103_9⟩]) hP hD hS (lv_sub hl [3, 0, 1] rfl)
      have hnl : ¬ hasL w h (sq_put (MP w h B ht ((n + 0) % 2) (wh 0) (sb 0)) c (tpE h ht (wh 0) c)) := fun z => hwn (hwin.mpr z)
      rw [Bool.not_eq_true] at hwn
      have hxx : of_ c + tp3 c - ht c = ofN h ht c + dgN h ht (wh 0) c := by rw [hof c hi_27, htc]; unfold tpE; omega
      have hbd := BFA.bd (pl := n % 2) R0 hT.1 hpo1 hsd2 hi_27 hlt4 hnl (by rw [Nat.add_zero]) (hwe c hi_27) hxx
      obtain ⟨j0, hj0⟩ := hT.1.1.stop (by omega) (wh 0 + we c) (sb 0 ||| n % 2 * 2 ^ (of_ c + tp3 c - ht c))
      obtain ⟨hs1, zz, hzV, hz1, hz2, hz3⟩ := BFA.kid2 (V := V) (pl := n % 2) R0 hT.1 hpo1 hsd2 (by omega) (hT.2.1 0 hpo1).2 hV2 hi_27 hlt4 hnl (by rw [Nat.add_zero]) (hwe c hi_27) hxx hj0
      refine mu_calli (wr := []) (va_runV (As := [.int (nI 0), .int (nI c), .int (nI (n % 2)), .int (bI false)]) (rest := []) ⟨hx, hb, hml, hown, hts⟩ (c5_vb_go l D cI cJ cZ ad w h 0 n 1 po B ht dr wh sb V la sl we of_ Sn3 tp3 re 0 c (n % 2) zz _ hd hi_27 hlt3 hsn3 hwn (by omega) (by rw [htc, htp0]; exact Nat.le_refl _) (by have := hof12 c hi_27; have := dgN_lt h ht (wh 0) c; unfold tpE at htc; omega) (by omega) hbd.1 hbd.2 hsl2 hwb2 hsb2 j0 hj0 hs1 hzV hz1 hz2) (cwV 4 hts gX5_best_X5_valueBehind rfl rfl rfl (by decide +kernel) ⟨Nat.le_of_ble_eq_true rfl, Nat.le_of_ble_eq_true rfl⟩) ⟨MPc.blind, va_recv hK hP (ci := 5) (q0 := 0) rfl rfl, (MPc.at (hP.sub [0, 1, 2, 3, 4, 5, 6, 7, 8, 9, 10, 11, 12, 13] rfl) (hD.sub [0, 1, 2, 3, 4, 5, 6, 7, 8, 9, 10, 11, 12, 13] (by decide) rfl) hK hN)⟩ rfl rfl hl.1 rfl (lv_room (Nat.le_of_ble_eq_true rfl)) dX5_best_80 ⟨Nat.zero_le _, Nat.zero_le _⟩) hP hD hS hA [0, 1, 2, 3, 4, 5, 6, 7, 8, 9, 10, 11, 12, 13] [] rfl rfl (by decide) (by decide) (fun rr u1 H locs hw hP hD hS => ?_)
      obtain rfl := hw
      have hP : va_P D vwCl (mW5 cI cZ ad w h 0 n 1 po B ht dr wh sb V la sl we of_ Sn3 tp3 re) H := hP
      have hD : va_D A (mW5 cI cZ ad w h 0 n 1 po B ht dr wh sb V la sl we of_ Sn3 tp3 re) := hD
      refine rt_i (v := zI v) (by rw [hv, hz3, hsd2]) ?_
      refine lv_aload_n hx hb dX5_best_83 rfl (lv_at hl 0 rfl) ?_
      refine va_get (C := RX5) (T := TX5) (N := 19) hx hb hts (by decide +kernel) hown hK hP 0 rfl rfl 11 (by decide) (hts (.fieldLink RX5 26 RX5 "values" "[I") (by decide +kernel)) (fun _ h9 => h9) rfl dX5_best_84 ?_
      refine lv_iconst (v := nI 0) hx hb dX5_best_87 (by decide) ?_
      refine n_iald hx hb hK hP 6 0 rfl rfl (by decide) (by decide) dX5_best_88 ?_
      refine rt_i (v := zI (evV w h B ht n E (wh 0) (sb 0))) hV0 ?_
      refine z_icmp_ne (tgt := 96) hx hb dX5_best_89 (by decide) (by unfold zB; omega) (by have := evV_bd (w := w) (h := h) (B := B) (ht := ht) (n := n) (E := E) (W0 := wh 0) (b := sb 0) hE12; unfold zB; omega) (fun c89_10 => ?_) (fun c89_10 => ?_)
      · skip
        refine lv_iconst (v := nI 0) hx hb dX5_best_96 (by decide) ?_
        refine rt_i (v := bI false) rfl ?_
        refine lv_istore_n (lv' := [(3, .int (bI false)), (0, .ref (ad 0)), (2, .int (nI c)), (1, .int (zI bz))]) hx hb dX5_best_97 rfl hl (by decide) rfl (fun ls hl => ?_)
        refine lv_iload_n hx hb dX5_best_98 rfl (lv_at hl 0 rfl) ?_
        refine b_if_eq (tgt := 110) hx hb dX5_best_99 (by decide) (fun _ => ?_) (fun c99_11 => absurd c99_11 (by decide))
        refine lv_iload_n hx hb dX5_best_110 rfl (lv_at hl 3 rfl) ?_
        refine lv_istore_n (lv' := [(1, .int (zI bz)), (3, .int (bI false)), (0, .ref (ad 0)), (2, .int (nI c))]) hx hb dX5_best_111 rfl hl (by decide) rfl (fun ls hl => ?_)
        refine n_iinc (n := 1) (lv' := [(2, .int (nI (c + 1))), (1, .int (zI bz)), (3, .int (bI false)), (0, .ref (ad 0))]) hx hb dX5_best_112 hl (k := 3) rfl (by decide) rfl (fun ls hl => ?_)
        refine lv_goto (tgt := 27) hx hb dX5_best_115 (by decide) ?_
        exact ih_27 bz ls _ _ (by rw [bfZ, if_neg (fun q => c89_10 (hv.trans ((evV_eq hE12 (by omega)).mpr (evW_iff.mp q.1).2))), hI_27]) hP hD hS (lv_sub hl [3, 0, 1] rfl)
      refine lv_iconst (v := nI 1) hx hb dX5_best_92 (by decide) ?_
      refine rt_i (v := bI true) rfl ?_
      refine lv_goto (tgt := 97) hx hb dX5_best_93 (by decide) ?_
      refine lv_istore_n (lv' := [(3, .int (bI true)), (0, .ref (ad 0)), (2, .int (nI c)), (1, .int (zI bz))]) hx hb dX5_best_97 rfl hl (by decide) rfl (fun ls hl => ?_)
      refine lv_iload_n hx hb dX5_best_98 rfl (lv_at hl 0 rfl) ?_
      refine b_if_eq (tgt := 110) hx hb dX5_best_99 (by decide) (fun c99_12 => absurd c99_12 (by decide)) (fun _ => ?_)
      refine lv_iload_n hx hb dX5_best_102 rfl (lv_at hl 3 rfl) ?_
      refine z_if_ge (tgt := 110) hx hb dX5_best_103 (by decide) (by unfold zB; omega) (fun c103_13 => ?_) (fun c103_13 => ?_)
      · skip
        refine lv_iload_n hx hb dX5_best_110 rfl (lv_at hl 3 rfl) ?_
        refine lv_istore_n (lv' := [(1, .int (zI bz)), (3, .int (bI true)), (0, .ref (ad 0)), (2, .int (nI c))]) hx hb dX5_best_111 rfl hl (by decide) rfl (fun ls hl => ?_)
        refine n_iinc (n := 1) (lv' := [(2, .int (nI (c + 1))), (1, .int (zI bz)), (3, .int (bI true)), (0, .ref (ad 0))]) hx hb dX5_best_112 hl (k := 3) rfl (by decide) rfl (fun ls hl => ?_)
        refine lv_goto (tgt := 27) hx hb dX5_best_115 (by decide) ?_
        exact ih_27 bz ls _ _ (by rw [bfZ, if_neg (fun q => by have := q.2; rw [← hI_27] at this; omega), hI_27]) hP hD hS (lv_sub hl [3, 0, 1] rfl)
      refine lv_iload_n hx hb dX5_best_106 rfl (lv_at hl 2 rfl) ?_
      refine rt_i (v := zI (c : Int)) (zI_n _).symm ?_
      refine lv_goto (tgt := 111) hx hb dX5_best_107 (by decide) ?_
      refine lv_istore_n (lv' := [(1, .int (zI (c : Int))), (3, .int (bI true)), (0, .ref (ad 0)), (2, .int (nI c))]) hx hb dX5_best_111 rfl hl (by decide) rfl (fun ls hl => ?_)
      refine n_iinc (n := 1) (lv' := [(2, .int (nI (c + 1))), (1, .int (zI (c : Int))), (3, .int (bI true)), (0, .ref (ad 0))]) hx hb dX5_best_112 hl (k := 3) rfl (by decide) rfl (fun ls hl => ?_)
      refine lv_goto (tgt := 27) hx hb dX5_best_115 (by decide) ?_
      exact ih_27 (c : Int) ls _ _ (by rw [bfZ, if_pos ⟨(evW_iff.mpr ⟨by omega, (evV_eq hE12 (by omega)).mp (hv.symm.trans c89_10)⟩), by rw [← hI_27]; exact c103_13⟩]) hP hD hS (lv_sub hl [3, 0, 1] rfl)
    refine lv_iconst (v := nI 1) hx hb dX5_best_75 (by decide) ?_
    refine rt_i (v := bI true) rfl ?_
    refine lv_goto (tgt := 80) hx hb dX5_best_76 (by decide) ?_
    by_cases hwn : wnB w h (upd Sn3 (7 * c + tp3 c) (nI (n % 2))) c (tp3 c) = true
    · skip
      refine mu_calli (wr := []) (va_runV (As := [.int (nI 0), .int (nI c), .int (nI (n % 2)), .int (bI true)]) (rest := []) ⟨hx, hb, hml, hown, hts⟩ (c5_vb_win l D cI cJ cZ ad w h 0 n 1 po B ht dr wh sb V la sl we of_ Sn3 tp3 re 0 c (n % 2) true _ hd hi_27 hlt3 hsn3 hwn) (cwV 4 hts gX5_best_X5_valueBehind rfl rfl rfl (by decide +kernel) ⟨Nat.le_of_ble_eq_true rfl, Nat.le_of_ble_eq_true rfl⟩) ⟨MPc.blind, va_recv hK hP (ci := 5) (q0 := 0) rfl rfl, (MPc.at (hP.sub [0, 1, 2, 3, 4, 5, 6, 7, 8, 9, 10, 11, 12, 13] rfl) (hD.sub [0, 1, 2, 3, 4, 5, 6, 7, 8, 9, 10, 11, 12, 13] (by decide) rfl) hK hN)⟩ rfl rfl hl.1 rfl (lv_room (Nat.le_of_ble_eq_true rfl)) dX5_best_80 ⟨Nat.zero_le _, Nat.zero_le _⟩) hP hD hS hA [0, 1, 2, 3, 4, 5, 6, 7, 8, 9, 10, 11, 12, 13] [] rfl rfl (by decide) (by decide) (fun rr u1 H locs hw hP hD hS => ?_)
      obtain rfl := hw
      have hP : va_P D vwCl (mW5 cI cZ ad w h 0 n 1 po B ht dr wh sb V la sl we of_ Sn3 tp3 re) H := hP
      have hD : va_D A (mW5 cI cZ ad w h 0 n 1 po B ht dr wh sb V la sl we of_ Sn3 tp3 re) := hD
      refine rt_i (v := zI v) (by rw [hv, ← vb_win_is (by omega) (by rw [hsd2]; exact hwin.mp hwn)]) ?_
      refine lv_aload_n hx hb dX5_best_83 rfl (lv_at hl 0 rfl) ?_
      refine va_get (C := RX5) (T := TX5) (N := 19) hx hb hts (by decide +kernel) hown hK hP 0 rfl rfl 11 (by decide) (hts (.fieldLink RX5 26 RX5 "values" "[I") (by decide +kernel)) (fun _ h9 => h9) rfl dX5_best_84 ?_
      refine lv_iconst (v := nI 0) hx hb dX5_best_87 (by decide) ?_
      refine n_iald hx hb hK hP 6 0 rfl rfl (by decide) (by decide) dX5_best_88 ?_
      refine rt_i (v := zI (evV w h B ht n E (wh 0) (sb 0))) hV0 ?_
      refine z_icmp_ne (tgt := 96) hx hb dX5_best_89 (by decide) (by unfold zB; omega) (by have := evV_bd (w := w) (h := h) (B := B) (ht := ht) (n := n) (E := E) (W0 := wh 0) (b := sb 0) hE12; unfold zB; omega) (fun c89_14 => ?_) (fun c89_14 => ?_)
      · skip
        refine lv_iconst (v := nI 0) hx hb dX5_best_96 (by decide) ?_
        refine rt_i (v := bI false) rfl ?_
        refine lv_istore_n (lv' := [(3, .int (bI false)), (0, .ref (ad 0)), (2, .int (nI c)), (1, .int (zI bz))]) hx hb dX5_best_97 rfl hl (by decide) rfl (fun ls hl => ?_)
        refine lv_iload_n hx hb dX5_best_98 rfl (lv_at hl 0 rfl) ?_
        refine b_if_eq (tgt := 110) hx hb dX5_best_99 (by decide) (fun _ => ?_) (fun c99_15 => absurd c99_15 (by decide))
        refine lv_iload_n hx hb dX5_best_110 rfl (lv_at hl 3 rfl) ?_
        refine lv_istore_n (lv' := [(1, .int (zI bz)), (3, .int (bI false)), (0, .ref (ad 0)), (2, .int (nI c))]) hx hb dX5_best_111 rfl hl (by decide) rfl (fun ls hl => ?_)
        refine n_iinc (n := 1) (lv' := [(2, .int (nI (c + 1))), (1, .int (zI bz)), (3, .int (bI false)), (0, .ref (ad 0))]) hx hb dX5_best_112 hl (k := 3) rfl (by decide) rfl (fun ls hl => ?_)
        refine lv_goto (tgt := 27) hx hb dX5_best_115 (by decide) ?_
        exact ih_27 bz ls _ _ (by rw [bfZ, if_neg (fun q => c89_14 (hv.trans ((evV_eq hE12 (by omega)).mpr (evW_iff.mp q.1).2))), hI_27]) hP hD hS (lv_sub hl [3, 0, 1] rfl)
      refine lv_iconst (v := nI 1) hx hb dX5_best_92 (by decide) ?_
      refine rt_i (v := bI true) rfl ?_
      refine lv_goto (tgt := 97) hx hb dX5_best_93 (by decide) ?_
      refine lv_istore_n (lv' := [(3, .int (bI true)), (0, .ref (ad 0)), (2, .int (nI c)), (1, .int (zI bz))]) hx hb dX5_best_97 rfl hl (by decide) rfl (fun ls hl => ?_)
      refine lv_iload_n hx hb dX5_best_98 rfl (lv_at hl 0 rfl) ?_
      refine b_if_eq (tgt := 110) hx hb dX5_best_99 (by decide) (fun c99_16 => absurd c99_16 (by decide)) (fun _ => ?_)
      refine lv_iload_n hx hb dX5_best_102 rfl (lv_at hl 3 rfl) ?_
      refine z_if_ge (tgt := 110) hx hb dX5_best_103 (by decide) (by unfold zB; omega) (fun c103_17 => ?_) (fun c103_17 => ?_)
      · skip
        refine lv_iload_n hx hb dX5_best_110 rfl (lv_at hl 3 rfl) ?_
        refine lv_istore_n (lv' := [(1, .int (zI bz)), (3, .int (bI true)), (0, .ref (ad 0)), (2, .int (nI c))]) hx hb dX5_best_111 rfl hl (by decide) rfl (fun ls hl => ?_)
        refine n_iinc (n := 1) (lv' := [(2, .int (nI (c + 1))), (1, .int (zI bz)), (3, .int (bI true)), (0, .ref (ad 0))]) hx hb dX5_best_112 hl (k := 3) rfl (by decide) rfl (fun ls hl => ?_)
        refine lv_goto (tgt := 27) hx hb dX5_best_115 (by decide) ?_
        exact ih_27 bz ls _ _ (by rw [bfZ, if_neg (fun q => by have := q.2; rw [← hI_27] at this; omega), hI_27]) hP hD hS (lv_sub hl [3, 0, 1] rfl)
      refine lv_iload_n hx hb dX5_best_106 rfl (lv_at hl 2 rfl) ?_
      refine rt_i (v := zI (c : Int)) (zI_n _).symm ?_
      refine lv_goto (tgt := 111) hx hb dX5_best_107 (by decide) ?_
      refine lv_istore_n (lv' := [(1, .int (zI (c : Int))), (3, .int (bI true)), (0, .ref (ad 0)), (2, .int (nI c))]) hx hb dX5_best_111 rfl hl (by decide) rfl (fun ls hl => ?_)
      refine n_iinc (n := 1) (lv' := [(2, .int (nI (c + 1))), (1, .int (zI (c : Int))), (3, .int (bI true)), (0, .ref (ad 0))]) hx hb dX5_best_112 hl (k := 3) rfl (by decide) rfl (fun ls hl => ?_)
      refine lv_goto (tgt := 27) hx hb dX5_best_115 (by decide) ?_
      exact ih_27 (c : Int) ls _ _ (by rw [bfZ, if_pos ⟨(evW_iff.mpr ⟨by omega, (evV_eq hE12 (by omega)).mp (hv.symm.trans c89_14)⟩), by rw [← hI_27]; exact c103_17⟩]) hP hD hS (lv_sub hl [3, 0, 1] rfl)
    have hnl : ¬ hasL w h (sq_put (MP w h B ht ((n + 0) % 2) (wh 0) (sb 0)) c (tpE h ht (wh 0) c)) := fun z => hwn (hwin.mpr z)
    rw [Bool.not_eq_true] at hwn
    refine mu_calli (wr := []) (va_runV (As := [.int (nI 0), .int (nI c), .int (nI (n % 2)), .int (bI true)]) (rest := []) ⟨hx, hb, hml, hown, hts⟩ (c5_vb_last l D cI cJ cZ ad w h 0 n 1 po B ht dr wh sb V la sl we of_ Sn3 tp3 re 0 c (n % 2) _ hd hi_27 hlt3 hsn3 hwn) (cwV 4 hts gX5_best_X5_valueBehind rfl rfl rfl (by decide +kernel) ⟨Nat.le_of_ble_eq_true rfl, Nat.le_of_ble_eq_true rfl⟩) ⟨MPc.blind, va_recv hK hP (ci := 5) (q0 := 0) rfl rfl, (MPc.at (hP.sub [0, 1, 2, 3, 4, 5, 6, 7, 8, 9, 10, 11, 12, 13] rfl) (hD.sub [0, 1, 2, 3, 4, 5, 6, 7, 8, 9, 10, 11, 12, 13] (by decide) rfl) hK hN)⟩ rfl rfl hl.1 rfl (lv_room (Nat.le_of_ble_eq_true rfl)) dX5_best_80 ⟨Nat.zero_le _, Nat.zero_le _⟩) hP hD hS hA [0, 1, 2, 3, 4, 5, 6, 7, 8, 9, 10, 11, 12, 13] [] rfl rfl (by decide) (by decide) (fun rr u1 H locs hw hP hD hS => ?_)
    obtain rfl := hw
    have hP : va_P D vwCl (mW5 cI cZ ad w h 0 n 1 po B ht dr wh sb V la sl we of_ Sn3 tp3 re) H := hP
    have hD : va_D A (mW5 cI cZ ad w h 0 n 1 po B ht dr wh sb V la sl we of_ Sn3 tp3 re) := hD
    refine rt_i (v := zI v) (by rw [hv, ← vb_last_is (by omega) (by rw [hsd2]; exact hnl)]) ?_
    refine lv_aload_n hx hb dX5_best_83 rfl (lv_at hl 0 rfl) ?_
    refine va_get (C := RX5) (T := TX5) (N := 19) hx hb hts (by decide +kernel) hown hK hP 0 rfl rfl 11 (by decide) (hts (.fieldLink RX5 26 RX5 "values" "[I") (by decide +kernel)) (fun _ h9 => h9) rfl dX5_best_84 ?_
    refine lv_iconst (v := nI 0) hx hb dX5_best_87 (by decide) ?_
    refine n_iald hx hb hK hP 6 0 rfl rfl (by decide) (by decide) dX5_best_88 ?_
    refine rt_i (v := zI (evV w h B ht n E (wh 0) (sb 0))) hV0 ?_
    refine z_icmp_ne (tgt := 96) hx hb dX5_best_89 (by decide) (by unfold zB; omega) (by have := evV_bd (w := w) (h := h) (B := B) (ht := ht) (n := n) (E := E) (W0 := wh 0) (b := sb 0) hE12; unfold zB; omega) (fun c89_18 => ?_) (fun c89_18 => ?_)
    · skip
      refine lv_iconst (v := nI 0) hx hb dX5_best_96 (by decide) ?_
      refine rt_i (v := bI false) rfl ?_
      refine lv_istore_n (lv' := [(3, .int (bI false)), (0, .ref (ad 0)), (2, .int (nI c)), (1, .int (zI bz))]) hx hb dX5_best_97 rfl hl (by decide) rfl (fun ls hl => ?_)
      refine lv_iload_n hx hb dX5_best_98 rfl (lv_at hl 0 rfl) ?_
      refine b_if_eq (tgt := 110) hx hb dX5_best_99 (by decide) (fun _ => ?_) (fun c99_19 => absurd c99_19 (by decide))
      refine lv_iload_n hx hb dX5_best_110 rfl (lv_at hl 3 rfl) ?_
      refine lv_istore_n (lv' := [(1, .int (zI bz)), (3, .int (bI false)), (0, .ref (ad 0)), (2, .int (nI c))]) hx hb dX5_best_111 rfl hl (by decide) rfl (fun ls hl => ?_)
      refine n_iinc (n := 1) (lv' := [(2, .int (nI (c + 1))), (1, .int (zI bz)), (3, .int (bI false)), (0, .ref (ad 0))]) hx hb dX5_best_112 hl (k := 3) rfl (by decide) rfl (fun ls hl => ?_)
      refine lv_goto (tgt := 27) hx hb dX5_best_115 (by decide) ?_
      exact ih_27 bz ls _ _ (by rw [bfZ, if_neg (fun q => c89_18 (hv.trans ((evV_eq hE12 (by omega)).mpr (evW_iff.mp q.1).2))), hI_27]) hP hD hS (lv_sub hl [3, 0, 1] rfl)
    refine lv_iconst (v := nI 1) hx hb dX5_best_92 (by decide) ?_
    refine rt_i (v := bI true) rfl ?_
    refine lv_goto (tgt := 97) hx hb dX5_best_93 (by decide) ?_
    refine lv_istore_n (lv' := [(3, .int (bI true)), (0, .ref (ad 0)), (2, .int (nI c)), (1, .int (zI bz))]) hx hb dX5_best_97 rfl hl (by decide) rfl (fun ls hl => ?_)
    refine lv_iload_n hx hb dX5_best_98 rfl (lv_at hl 0 rfl) ?_
    refine b_if_eq (tgt := 110) hx hb dX5_best_99 (by decide) (fun c99_20 => absurd c99_20 (by decide)) (fun _ => ?_)
    refine lv_iload_n hx hb dX5_best_102 rfl (lv_at hl 3 rfl) ?_
    refine z_if_ge (tgt := 110) hx hb dX5_best_103 (by decide) (by unfold zB; omega) (fun c103_21 => ?_) (fun c103_21 => ?_)
    · skip
      refine lv_iload_n hx hb dX5_best_110 rfl (lv_at hl 3 rfl) ?_
      refine lv_istore_n (lv' := [(1, .int (zI bz)), (3, .int (bI true)), (0, .ref (ad 0)), (2, .int (nI c))]) hx hb dX5_best_111 rfl hl (by decide) rfl (fun ls hl => ?_)
      refine n_iinc (n := 1) (lv' := [(2, .int (nI (c + 1))), (1, .int (zI bz)), (3, .int (bI true)), (0, .ref (ad 0))]) hx hb dX5_best_112 hl (k := 3) rfl (by decide) rfl (fun ls hl => ?_)
      refine lv_goto (tgt := 27) hx hb dX5_best_115 (by decide) ?_
      exact ih_27 bz ls _ _ (by rw [bfZ, if_neg (fun q => by have := q.2; rw [← hI_27] at this; omega), hI_27]) hP hD hS (lv_sub hl [3, 0, 1] rfl)
    refine lv_iload_n hx hb dX5_best_106 rfl (lv_at hl 2 rfl) ?_
    refine rt_i (v := zI (c : Int)) (zI_n _).symm ?_
    refine lv_goto (tgt := 111) hx hb dX5_best_107 (by decide) ?_
    refine lv_istore_n (lv' := [(1, .int (zI (c : Int))), (3, .int (bI true)), (0, .ref (ad 0)), (2, .int (nI c))]) hx hb dX5_best_111 rfl hl (by decide) rfl (fun ls hl => ?_)
    refine n_iinc (n := 1) (lv' := [(2, .int (nI (c + 1))), (1, .int (zI (c : Int))), (3, .int (bI true)), (0, .ref (ad 0))]) hx hb dX5_best_112 hl (k := 3) rfl (by decide) rfl (fun ls hl => ?_)
    refine lv_goto (tgt := 27) hx hb dX5_best_115 (by decide) ?_
    exact ih_27 (c : Int) ls _ _ (by rw [bfZ, if_pos ⟨(evW_iff.mpr ⟨by omega, (evV_eq hE12 (by omega)).mp (hv.symm.trans c89_18)⟩), by rw [← hI_27]; exact c103_21⟩]) hP hD hS (lv_sub hl [3, 0, 1] rfl)
  · intro qx ls H locs hI_27 hP hD hS hl
    obtain ⟨bz, rfl⟩ : ∃ z, z = qx := ⟨_, rfl⟩
    have hl : lv_has ls 4 [(0, .ref (ad 0)), (2, .int (nI w)), (1, .int (zI bz))] := hl
    have hP : va_P D vwCl (mW5 cI cZ ad w h 0 n 1 po B ht dr wh sb V la sl we of_ Sn3 tp3 re) H := hP
    have hD : va_D A (mW5 cI cZ ad w h 0 n 1 po B ht dr wh sb V la sl we of_ Sn3 tp3 re) := hD
    have hI_27 : bz = bfZ (evW w h B ht n E (wh 0) (sb 0)) w := hI_27
    refine lv_iload_n hx hb dX5_best_27 rfl (lv_at hl 1 rfl) ?_
    refine lv_aload_n hx hb dX5_best_28 rfl (lv_at hl 0 rfl) ?_
    refine va_get (C := RX5) (T := TX5) (N := 19) hx hb hts (by decide +kernel) hown hK hP 0 rfl rfl 1 (by decide) (hts (.fieldLink RX5 52 RX5 "w" "I") (by decide +kernel)) (fun _ h9 => h9) rfl dX5_best_29 ?_
    refine n_icmp_ge (tgt := 118) hx hb dX5_best_32 (by decide) (by omega) (by omega) (fun c32_22 => ?_) (fun c32_22 => ?_)
    · skip
      refine lv_iload_n hx hb dX5_best_118 rfl (lv_at hl 2 rfl) ?_
      exact mu_iret (S := LkS) (wf := fun u : LkS => (mW5 cI cZ ad w h 0 n 1 u.1 B ht dr u.2.1 u.2.2.1 u.2.2.2.1 u.2.2.2.2.1 u.2.2.2.2.2.1 u.2.2.2.2.2.2.1 u.2.2.2.2.2.2.2.1 u.2.2.2.2.2.2.2.2.1 u.2.2.2.2.2.2.2.2.2 re)) hx hb hr hlocks (po, wh, sb, V, la, sl, we, of_, Sn3, tp3) ⟨hT, (by rw [hI_27, hT.1.2.1.1, hT.1.2.1.2])⟩ hP hD hS dX5_best_119
    · exact absurd c32_22 (by omega)
