set_option maxHeartbeats 4000000 in
set_option maxRecDepth 100000 in
theorem i_X2 (l : Launch) (D : va_G) (cI cJ cZ : ClassId) (me : Nat) (sz : Nat)  : Met l yX2_init wsX2_init (c_rm 1 12 3 3072) (MPc D [.ref me] [(me, .inr (2, [.null, .null, .null]))] (tyA cI cJ cZ) sz) (mQv D (fun u : Nat × Nat × Nat => True) (fun u => mW cI cJ me u.1 u.2.1 u.2.2 (fun _ => 0) (fun _ => 0) (fun _ => 0)) (va_A [(me, .inr (2, [.null, .null, .null]))] sz)) 3 3072 (va_A [(me, .inr (2, [.null, .null, .null]))] sz) := by
  refine mu_head (Qc := fun A => mQv D (fun u : Nat × Nat × Nat => True) (fun u => mW cI cJ me u.1 u.2.1 u.2.2 (fun _ => 0) (fun _ => 0) (fun _ => 0)) A) (cc := cX2_init) (maxL := 1) (ret := none) (by decide) rfl (Nat.le_of_ble_eq_true rfl) ?_
  intro p e s m below meth cd ls A hx hb hr hlocks hnm hts hown hml hA hP hK hD hN hS hl
  have hin : meth.name = "<init>" := hnm
  have hl : lv_has ls 1 [(0, .ref me)] := hl
  refine lv_aload_n hx hb dX2_init_0 rfl (lv_at hl 0 rfl) ?_
  refine W.objInit hx hb hown (hts (.methodLink RX2 1 objectInit) (by decide +kernel)) (hts (.instanceMethod objectInit) (by decide +kernel)) (hts (.code objectInit ⟨#[0xb1]⟩ 1 none) (by decide +kernel)) rfl (by rw [hml]; exact hl.1) rfl dX2_init_1 (Nat.le_of_ble_eq_true rfl) (Nat.le_of_ble_eq_true rfl) ?_
  refine lv_aload_n hx hb dX2_init_4 rfl (lv_at hl 0 rfl) ?_
  refine lv_sipush (v := nI 1024) hx hb dX2_init_5 (by decide) ?_
  refine n_newa (a0 := (1024, .inr (.inl (fun _ => 0)))) hx hb (ty := .long) rfl (hts (.arrayClass .long) (by decide +kernel)) hK hP hD hS hA 1 rfl rfl (fun _ => rfl) (by omega) (by show _ * 8 ≤ _; omega) (by show _ ≤ 3; omega) (by show _ ≤ 3072; omega) dX2_init_8 (fun ks H hP hD hS => ?_)
  have hP : va_P D vwCl [(me, .inr (2, [.null, .null, .null])), (ks, .inl (cJ, 1024, .inr (.inl (fun _ => 0))))] H := hP
  have hD : va_D A [(me, .inr (2, [.null, .null, .null])), (ks, .inl (cJ, 1024, .inr (.inl (fun _ => 0))))] := hD
  refine va_putF (ty := (tyX2 0)) (C := RX2) (T := TX2) (N := 3) hx hb hts (by decide +kernel) tyX2 tyX2_ok nmX2 hown hK hP hD hS 0 rfl rfl 0 (by decide) (hts (.fieldLink RX2 9 RX2 "keys" "[J") (by decide +kernel)) (fun _ h9 => h9) rfl hin rfl (by decide +kernel) rfl rfl (Nat.le_of_ble_eq_true rfl) dX2_init_10 (fun H locs hP hD hS => ?_)
  have hP : va_P D vwCl [(me, .inr (2, [.ref ks, .null, .null])), (ks, .inl (cJ, 1024, .inr (.inl (fun _ => 0))))] H := hP
  have hD : va_D A [(me, .inr (2, [.ref ks, .null, .null])), (ks, .inl (cJ, 1024, .inr (.inl (fun _ => 0))))] := hD
  refine lv_aload_n hx hb dX2_init_13 rfl (lv_at hl 0 rfl) ?_
  refine lv_sipush (v := nI 1024) hx hb dX2_init_14 (by decide) ?_
  refine n_newa (a0 := (1024, .inl (fun _ => 0))) hx hb (ty := .int) rfl (hts (.arrayClass .int) (by decide +kernel)) hK hP hD hS hA 0 rfl rfl (fun _ => rfl) (by omega) (by show _ * 4 ≤ _; omega) (by show _ ≤ 3; omega) (by show _ ≤ 3072; omega) dX2_init_17 (fun le H hP hD hS => ?_)
  have hP : va_P D vwCl [(me, .inr (2, [.ref ks, .null, .null])), (ks, .inl (cJ, 1024, .inr (.inl (fun _ => 0)))), (le, .inl (cI, 1024, .inl (fun _ => 0)))] H := hP
  have hD : va_D A [(me, .inr (2, [.ref ks, .null, .null])), (ks, .inl (cJ, 1024, .inr (.inl (fun _ => 0)))), (le, .inl (cI, 1024, .inl (fun _ => 0)))] := hD
  refine va_putF (ty := (tyX2 1)) (C := RX2) (T := TX2) (N := 3) hx hb hts (by decide +kernel) tyX2 tyX2_ok nmX2 hown hK hP hD hS 0 rfl rfl 1 (by decide) (hts (.fieldLink RX2 13 RX2 "least" "[I") (by decide +kernel)) (fun _ h9 => h9) rfl hin rfl (by decide +kernel) rfl rfl (Nat.le_of_ble_eq_true rfl) dX2_init_19 (fun H locs hP hD hS => ?_)
  have hP : va_P D vwCl [(me, .inr (2, [.ref ks, .ref le, .null])), (ks, .inl (cJ, 1024, .inr (.inl (fun _ => 0)))), (le, .inl (cI, 1024, .inl (fun _ => 0)))] H := hP
  have hD : va_D A [(me, .inr (2, [.ref ks, .ref le, .null])), (ks, .inl (cJ, 1024, .inr (.inl (fun _ => 0)))), (le, .inl (cI, 1024, .inl (fun _ => 0)))] := hD
  refine lv_aload_n hx hb dX2_init_22 rfl (lv_at hl 0 rfl) ?_
  refine lv_sipush (v := nI 1024) hx hb dX2_init_23 (by decide) ?_
  refine n_newa (a0 := (1024, .inl (fun _ => 0))) hx hb (ty := .int) rfl (hts (.arrayClass .int) (by decide +kernel)) hK hP hD hS hA 0 rfl rfl (fun _ => rfl) (by omega) (by show _ * 4 ≤ _; omega) (by show _ ≤ 3; omega) (by show _ ≤ 3072; omega) dX2_init_26 (fun mo H hP hD hS => ?_)
  have hP : va_P D vwCl [(me, .inr (2, [.ref ks, .ref le, .null])), (ks, .inl (cJ, 1024, .inr (.inl (fun _ => 0)))), (le, .inl (cI, 1024, .inl (fun _ => 0))), (mo, .inl (cI, 1024, .inl (fun _ => 0)))] H := hP
  have hD : va_D A [(me, .inr (2, [.ref ks, .ref le, .null])), (ks, .inl (cJ, 1024, .inr (.inl (fun _ => 0)))), (le, .inl (cI, 1024, .inl (fun _ => 0))), (mo, .inl (cI, 1024, .inl (fun _ => 0)))] := hD
  refine va_putF (ty := (tyX2 2)) (C := RX2) (T := TX2) (N := 3) hx hb hts (by decide +kernel) tyX2 tyX2_ok nmX2 hown hK hP hD hS 0 rfl rfl 2 (by decide) (hts (.fieldLink RX2 17 RX2 "most" "[I") (by decide +kernel)) (fun _ h9 => h9) rfl hin rfl (by decide +kernel) rfl rfl (Nat.le_of_ble_eq_true rfl) dX2_init_28 (fun H locs hP hD hS => ?_)
  have hP : va_P D vwCl [(me, .inr (2, [.ref ks, .ref le, .ref mo])), (ks, .inl (cJ, 1024, .inr (.inl (fun _ => 0)))), (le, .inl (cI, 1024, .inl (fun _ => 0))), (mo, .inl (cI, 1024, .inl (fun _ => 0)))] H := hP
  have hD : va_D A [(me, .inr (2, [.ref ks, .ref le, .ref mo])), (ks, .inl (cJ, 1024, .inr (.inl (fun _ => 0)))), (le, .inl (cI, 1024, .inl (fun _ => 0))), (mo, .inl (cI, 1024, .inl (fun _ => 0)))] := hD
  refine W.widen (k := 3) (n := 3072) (by omega) (by omega) ?_
  exact mu_vret (S := Nat × Nat × Nat) (wf := fun u : Nat × Nat × Nat => mW cI cJ me u.1 u.2.1 u.2.2 (fun _ => 0) (fun _ => 0) (fun _ => 0)) hx hb hr hlocks (ks, le, mo) trivial hP hD hS dX2_init_31

set_option maxHeartbeats 4000000 in
set_option maxRecDepth 100000 in
theorem i_X0 (l : Launch) (D : va_G) (cI cJ cZ : ClassId) (fo g : Nat) (sz : Nat)  : Met l yX0_init wsX0_init (c_rm 1 12 0 0) (MPc D [.ref fo, .ref g] [(fo, .inr (0, [.null]))] (tyA cI cJ cZ) sz) (mQv D (fun u : Unit => True) (fun u => [(fo, .inr (0, [.ref g]))]) (va_A [(fo, .inr (0, [.null]))] sz)) 0 0 (va_A [(fo, .inr (0, [.null]))] sz) := by
  refine mu_head (Qc := fun A => mQv D (fun u : Unit => True) (fun u => [(fo, .inr (0, [.ref g]))]) A) (cc := cX0_init) (maxL := 2) (ret := none) (by decide) rfl (Nat.le_of_ble_eq_true rfl) ?_
  intro p e s m below meth cd ls A hx hb hr hlocks hnm hts hown hml hA hP hK hD hN hS hl
  have hin : meth.name = "<init>" := hnm
  have hl : lv_has ls 2 [(0, .ref fo), (1, .ref g)] := hl
  refine lv_aload_n hx hb dX0_init_0 rfl (lv_at hl 0 rfl) ?_
  refine W.objInit hx hb hown (hts (.methodLink RX0 1 objectInit) (by decide +kernel)) (hts (.instanceMethod objectInit) (by decide +kernel)) (hts (.code objectInit ⟨#[0xb1]⟩ 1 none) (by decide +kernel)) rfl (by rw [hml]; exact hl.1) rfl dX0_init_1 (Nat.le_of_ble_eq_true rfl) (Nat.le_of_ble_eq_true rfl) ?_
  refine lv_aload_n hx hb dX0_init_4 rfl (lv_at hl 0 rfl) ?_
  refine lv_aload_n hx hb dX0_init_5 rfl (lv_at hl 1 rfl) ?_
  refine va_putF (ty := (tyX0 0)) (C := RX0) (T := TX0) (N := 1) hx hb hts (by decide +kernel) tyX0 tyX0_ok nmX0 hown hK hP hD hS 0 rfl rfl 0 (by decide) (hts (.fieldLink RX0 7 RX0 "grid" "LDropFour$Grid;") (by decide +kernel)) (fun _ h9 => h9) rfl hin rfl (by decide +kernel) rfl rfl (Nat.le_of_ble_eq_true rfl) dX0_init_6 (fun H locs hP hD hS => ?_)
  have hP : va_P D vwCl [(fo, .inr (0, [.ref g]))] H := hP
  have hD : va_D A [(fo, .inr (0, [.ref g]))] := hD
  refine W.widen (k := 0) (n := 0) (by omega) (by omega) ?_
  exact mu_vret (S := Unit) (wf := fun u : Unit => [(fo, .inr (0, [.ref g]))]) hx hb hr hlocks () trivial hP hD hS dX0_init_9

set_option maxHeartbeats 4000000 in
set_option maxRecDepth 100000 in
theorem i_X1 (l : Launch) (D : va_G) (cI cJ cZ : ClassId) (w h g : Nat) (sz : Nat) (hd : Dm w h) : Met l yX1_init wsX1_init (c_rm 1 12 2 20) (MPc D [.ref g, .int (nI w), .int (nI h)] [(g, .inr (1, [.int 0, .int 0, .long 0, .long 0, .null, .null]))] (tyA cI cJ cZ) sz) (mQv D (fun u : Nat × Nat => True) (fun u => gW cI cJ w h g u.1 u.2) (va_A [(g, .inr (1, [.int 0, .int 0, .long 0, .long 0, .null, .null]))] sz)) 2 20 (va_A [(g, .inr (1, [.int 0, .int 0, .long 0, .long 0, .null, .null]))] sz) := by
  refine mu_head (Qc := fun A => mQv D (fun u : Nat × Nat => True) (fun u => gW cI cJ w h g u.1 u.2) A) (cc := cX1_init) (maxL := 10) (ret := none) (by decide) rfl (Nat.le_of_ble_eq_true rfl) ?_
  intro p e s m below meth cd ls A hx hb hr hlocks hnm hts hown hml hA hP hK hD hN hS hl
  have hin : meth.name = "<init>" := hnm
  have hl : lv_has ls 10 [(0, .ref g), (1, .int (nI w)), (2, .int (nI h))] := hl
  have hd0 := hd
  obtain ⟨h3w, hw9, h3h, hh7, hwh, h64⟩ := hd0
  refine lv_aload_n hx hb dX1_init_0 rfl (lv_at hl 0 rfl) ?_
  refine W.objInit hx hb hown (hts (.methodLink RX1 1 objectInit) (by decide +kernel)) (hts (.instanceMethod objectInit) (by decide +kernel)) (hts (.code objectInit ⟨#[0xb1]⟩ 1 none) (by decide +kernel)) rfl (by rw [hml]; exact hl.1) rfl dX1_init_1 (Nat.le_of_ble_eq_true rfl) (Nat.le_of_ble_eq_true rfl) ?_
  refine lv_aload_n hx hb dX1_init_4 rfl (lv_at hl 0 rfl) ?_
  refine lv_iload_n hx hb dX1_init_5 rfl (lv_at hl 1 rfl) ?_
  refine va_putF (ty := .int) (C := RX1) (T := TX1) (N := 6) hx hb hts (by decide +kernel) tyX1 tyX1_ok nmX1 hown hK hP hD hS 0 rfl rfl 0 (by decide) (hts (.fieldLink RX1 7 RX1 "columns" "I") (by decide +kernel)) (fun _ h9 => h9) rfl hin rfl (by decide +kernel) rfl rfl (Nat.le_of_ble_eq_true rfl) dX1_init_6 (fun H locs hP hD hS => ?_)
  have hP : va_P D vwCl [(g, .inr (1, [.int (nI w), .int 0, .long 0, .long 0, .null, .null]))] H := hP
  have hD : va_D A [(g, .inr (1, [.int (nI w), .int 0, .long 0, .long 0, .null, .null]))] := hD
  refine lv_aload_n hx hb dX1_init_9 rfl (lv_at hl 0 rfl) ?_
  refine lv_iload_n hx hb dX1_init_10 rfl (lv_at hl 2 rfl) ?_
  refine va_putF (ty := .int) (C := RX1) (T := TX1) (N := 6) hx hb hts (by decide +kernel) tyX1 tyX1_ok nmX1 hown hK hP hD hS 0 rfl rfl 1 (by decide) (hts (.fieldLink RX1 13 RX1 "rows" "I") (by decide +kernel)) (fun _ h9 => h9) rfl hin rfl (by decide +kernel) rfl rfl (Nat.le_of_ble_eq_true rfl) dX1_init_11 (fun H locs hP hD hS => ?_)
  have hP : va_P D vwCl [(g, .inr (1, [.int (nI w), .int (nI h), .long 0, .long 0, .null, .null]))] H := hP
  have hD : va_D A [(g, .inr (1, [.int (nI w), .int (nI h), .long 0, .long 0, .null, .null]))] := hD
  refine lv_aload_n hx hb dX1_init_14 rfl (lv_at hl 0 rfl) ?_
  refine lv_iconst (v := nI 4) hx hb dX1_init_15 (by decide) ?_
  refine n_newa (a0 := (4, .inl (fun j => nI ((stG h) j)))) hx hb (ty := .int) rfl (hts (.arrayClass .int) (by decide +kernel)) hK hP hD hS hA 0 rfl rfl (fun _ => st_0 h) (by omega) (by show _ * 4 ≤ _; omega) (by show _ ≤ 2; omega) (by show _ ≤ 20; omega) dX1_init_16 (fun st H hP hD hS => ?_)
  have hP : va_P D vwCl [(g, .inr (1, [.int (nI w), .int (nI h), .long 0, .long 0, .null, .null])), (st, .inl (cI, 4, .inl (fun j => nI ((stG h) j))))] H := hP
  have hD : va_D A [(g, .inr (1, [.int (nI w), .int (nI h), .long 0, .long 0, .null, .null])), (st, .inl (cI, 4, .inl (fun j => nI ((stG h) j))))] := hD
  refine lv_dup hx hb dX1_init_18 rfl ?_
  refine lv_iconst (v := nI 0) hx hb dX1_init_19 (by decide) ?_
  refine lv_iconst (v := nI 1) hx hb dX1_init_20 (by decide) ?_
  refine n_iast (g := (stG h)) hx hb hK hP hD hS 1 0 rfl rfl (by decide) (by decide) dX1_init_21 (fun H locs hP hD hS => ?_)
  have hP : va_P D vwCl [(g, .inr (1, [.int (nI w), .int (nI h), .long 0, .long 0, .null, .null])), (st, .inl (cI, 4, .inl (fun j => nI ((va_up (stG h) 0 1) j))))] H := hP
  have hD : va_D A [(g, .inr (1, [.int (nI w), .int (nI h), .long 0, .long 0, .null, .null])), (st, .inl (cI, 4, .inl (fun j => nI ((va_up (stG h) 0 1) j))))] := hD
  refine lv_dup hx hb dX1_init_22 rfl ?_
  refine lv_iconst (v := nI 1) hx hb dX1_init_23 (by decide) ?_
  refine lv_iload_n hx hb dX1_init_24 rfl (lv_at hl 2 rfl) ?_
  refine n_iast (g := (va_up (stG h) 0 1)) hx hb hK hP hD hS 1 0 rfl rfl (by decide) (by decide) dX1_init_25 (fun H locs hP hD hS => ?_)
  have hP : va_P D vwCl [(g, .inr (1, [.int (nI w), .int (nI h), .long 0, .long 0, .null, .null])), (st, .inl (cI, 4, .inl (fun j => nI ((va_up (va_up (stG h) 0 1) 1 h) j))))] H := hP
  have hD : va_D A [(g, .inr (1, [.int (nI w), .int (nI h), .long 0, .long 0, .null, .null])), (st, .inl (cI, 4, .inl (fun j => nI ((va_up (va_up (stG h) 0 1) 1 h) j))))] := hD
  refine lv_dup hx hb dX1_init_26 rfl ?_
  refine lv_iconst (v := nI 2) hx hb dX1_init_27 (by decide) ?_
  refine lv_iload_n hx hb dX1_init_28 rfl (lv_at hl 2 rfl) ?_
  refine lv_iconst (v := nI 1) hx hb dX1_init_29 (by decide) ?_
  refine n_iadd hx hb dX1_init_30 ?_
  refine n_iast (g := (va_up (va_up (stG h) 0 1) 1 h)) hx hb hK hP hD hS 1 0 rfl rfl (by decide) (by decide) dX1_init_31 (fun H locs hP hD hS => ?_)
  have hP : va_P D vwCl [(g, .inr (1, [.int (nI w), .int (nI h), .long 0, .long 0, .null, .null])), (st, .inl (cI, 4, .inl (fun j => nI ((va_up (va_up (va_up (stG h) 0 1) 1 h) 2 (h + 1)) j))))] H := hP
  have hD : va_D A [(g, .inr (1, [.int (nI w), .int (nI h), .long 0, .long 0, .null, .null])), (st, .inl (cI, 4, .inl (fun j => nI ((va_up (va_up (va_up (stG h) 0 1) 1 h) 2 (h + 1)) j))))] := hD
  refine lv_dup hx hb dX1_init_32 rfl ?_
  refine lv_iconst (v := nI 3) hx hb dX1_init_33 (by decide) ?_
  refine lv_iload_n hx hb dX1_init_34 rfl (lv_at hl 2 rfl) ?_
  refine lv_iconst (v := nI 2) hx hb dX1_init_35 (by decide) ?_
  refine n_iadd hx hb dX1_init_36 ?_
  refine n_iast (g := (va_up (va_up (va_up (stG h) 0 1) 1 h) 2 (h + 1))) hx hb hK hP hD hS 1 0 rfl rfl (by decide) (by decide) dX1_init_37 (fun H locs hP hD hS => ?_)
  have hP : va_P D vwCl [(g, .inr (1, [.int (nI w), .int (nI h), .long 0, .long 0, .null, .null])), (st, .inl (cI, 4, .inl (fun j => nI ((va_up (va_up (va_up (va_up (stG h) 0 1) 1 h) 2 (h + 1)) 3 (h + 2)) j))))] H := hP
  have hD : va_D A [(g, .inr (1, [.int (nI w), .int (nI h), .long 0, .long 0, .null, .null])), (st, .inl (cI, 4, .inl (fun j => nI ((va_up (va_up (va_up (va_up (stG h) 0 1) 1 h) 2 (h + 1)) 3 (h + 2)) j))))] := hD
  rw [st_e] at hP hD
  refine va_putF (ty := (tyX1 4)) (C := RX1) (T := TX1) (N := 6) hx hb hts (by decide +kernel) tyX1 tyX1_ok nmX1 hown hK hP hD hS 0 rfl rfl 4 (by decide) (hts (.fieldLink RX1 16 RX1 "steps" "[I") (by decide +kernel)) (fun _ h9 => h9) rfl hin rfl (by decide +kernel) rfl rfl (Nat.le_of_ble_eq_true rfl) dX1_init_38 (fun H locs hP hD hS => ?_)
  have hP : va_P D vwCl [(g, .inr (1, [.int (nI w), .int (nI h), .long 0, .long 0, .ref st, .null])), (st, .inl (cI, 4, .inl (fun j => nI ((stp h) j))))] H := hP
  have hD : va_D A [(g, .inr (1, [.int (nI w), .int (nI h), .long 0, .long 0, .ref st, .null])), (st, .inl (cI, 4, .inl (fun j => nI ((stp h) j))))] := hD
  refine lv_aload_n hx hb dX1_init_41 rfl (lv_at hl 0 rfl) ?_
  refine lv_iload_n hx hb dX1_init_42 rfl (lv_at hl 1 rfl) ?_
  refine n_newa (a0 := (w, .inr (.inl ((fiL w (colL h) 0))))) hx hb (ty := .long) rfl (hts (.arrayClass .long) (by decide +kernel)) hK hP hD hS hA 1 rfl rfl (fun _ => fi_0 _) (by omega) (by show _ * 8 ≤ _; omega) (by show _ ≤ 2; omega) (by show _ ≤ 20; omega) dX1_init_43 (fun cs H hP hD hS => ?_)
  have hP : va_P D vwCl [(g, .inr (1, [.int (nI w), .int (nI h), .long 0, .long 0, .ref st, .null])), (st, .inl (cI, 4, .inl (fun j => nI ((stp h) j)))), (cs, .inl (cJ, w, .inr (.inl (fiL w (colL h) 0))))] H := hP
  have hD : va_D A [(g, .inr (1, [.int (nI w), .int (nI h), .long 0, .long 0, .ref st, .null])), (st, .inl (cI, 4, .inl (fun j => nI ((stp h) j)))), (cs, .inl (cJ, w, .inr (.inl (fiL w (colL h) 0))))] := hD
  refine va_putF (ty := (tyX1 5)) (C := RX1) (T := TX1) (N := 6) hx hb hts (by decide +kernel) tyX1 tyX1_ok nmX1 hown hK hP hD hS 0 rfl rfl 5 (by decide) (hts (.fieldLink RX1 20 RX1 "columnSquares" "[J") (by decide +kernel)) (fun _ h9 => h9) rfl hin rfl (by decide +kernel) rfl rfl (Nat.le_of_ble_eq_true rfl) dX1_init_45 (fun H locs hP hD hS => ?_)
  have hP : va_P D vwCl [(g, .inr (1, [.int (nI w), .int (nI h), .long 0, .long 0, .ref st, .ref cs])), (st, .inl (cI, 4, .inl (fun j => nI ((stp h) j)))), (cs, .inl (cJ, w, .inr (.inl (fiL w (colL h) 0))))] H := hP
  have hD : va_D A [(g, .inr (1, [.int (nI w), .int (nI h), .long 0, .long 0, .ref st, .ref cs])), (st, .inl (cI, 4, .inl (fun j => nI ((stp h) j)))), (cs, .inl (cJ, w, .inr (.inl (fiL w (colL h) 0))))] := hD
  refine lv_lconst (v := 0) hx hb dX1_init_48 (by decide) ?_
  refine lv_lstore_n (lv' := [(3, .long 0), (0, .ref g), (1, .int (nI w)), (2, .int (nI h))]) hx hb dX1_init_49 rfl hl (by decide) rfl (fun ls hl => ?_)
  refine lv_lconst (v := 0) hx hb dX1_init_50 (by decide) ?_
  refine lv_lstore (lv' := [(5, .long 0), (3, .long 0), (0, .ref g), (1, .int (nI w)), (2, .int (nI h))]) hx hb dX1_init_51 hl (by decide) rfl (fun ls hl => ?_)
  refine lv_iconst (v := nI 0) hx hb dX1_init_53 (by decide) ?_
  refine lv_istore (lv' := [(7, .int (nI 0)), (5, .long 0), (3, .long 0), (0, .ref g), (1, .int (nI w)), (2, .int (nI h))]) hx hb dX1_init_54 hl (by decide) rfl (fun ls hl => ?_)
  refine loopH (σ := Int64 × Int64) (m := m) (Wf := fun H locs g => W p l e _ s m _ below meth cd H locs _ _ _ g) 56 10 (fun i qx => [(0, .ref g), (1, .int (nI w)), (2, .int (nI h)), (7, .int (nI i)), (3, .long qx.1), (5, .long qx.2)]) (fun i qx => [(g, .inr (1, [.int (nI w), .int (nI h), .long 0, .long 0, .ref st, .ref cs])), (st, .inl (cI, 4, .inl (fun j => nI ((stp h) j)))), (cs, .inl (cJ, w, .inr (.inl (fiL w (colL h) i))))]) (fun i qx => qx.1 = flrL h i ∧ qx.2 = allL h i) w ?_ ?_ 0 (0, 0) ls _ _ (by omega) ⟨rfl, rfl⟩ hP hD hS (lv_sub hl [3, 4, 5, 0, 2, 1] rfl)
  · intro i qx ls H locs hi_56 hI_56 hP hD hS hl ih_56
    obtain ⟨bt, al⟩ := qx
    have hl : lv_has ls 10 [(0, .ref g), (1, .int (nI w)), (2, .int (nI h)), (7, .int (nI i)), (3, .long bt), (5, .long al)] := hl
    have hP : va_P D vwCl [(g, .inr (1, [.int (nI w), .int (nI h), .long 0, .long 0, .ref st, .ref cs])), (st, .inl (cI, 4, .inl (fun j => nI ((stp h) j)))), (cs, .inl (cJ, w, .inr (.inl (fiL w (colL h) i))))] H := hP
    have hD : va_D A [(g, .inr (1, [.int (nI w), .int (nI h), .long 0, .long 0, .ref st, .ref cs])), (st, .inl (cI, 4, .inl (fun j => nI ((stp h) j)))), (cs, .inl (cJ, w, .inr (.inl (fiL w (colL h) i))))] := hD
    have hI_56 : bt = flrL h i ∧ al = allL h i := hI_56
    refine lv_iload hx hb dX1_init_56 (lv_at hl 3 rfl) ?_
    refine lv_iload_n hx hb dX1_init_58 rfl (lv_at hl 1 rfl) ?_
    refine n_icmp_ge (tgt := 109) hx hb dX1_init_59 (by decide) (by omega) (by omega) (fun c59_1 => ?_) (fun c59_1 => ?_)
    · exact absurd c59_1 (by omega)
    refine lv_lconst (v := 1) hx hb dX1_init_62 (by decide) ?_
    refine lv_iload hx hb dX1_init_63 (lv_at hl 3 rfl) ?_
    refine lv_iload_n hx hb dX1_init_65 rfl (lv_at hl 2 rfl) ?_
    refine lv_iconst (v := nI 1) hx hb dX1_init_66 (by decide) ?_
    refine n_iadd hx hb dX1_init_67 ?_
    refine n_imul hx hb dX1_init_68 ?_
    refine n_lshl hx hb dX1_init_69 ?_
    refine lv_lstore (lv' := [(8, .long (shlL 1 (i * (h + 1)))), (0, .ref g), (1, .int (nI w)), (2, .int (nI h)), (7, .int (nI i)), (3, .long bt), (5, .long al)]) hx hb dX1_init_70 hl (by decide) rfl (fun ls hl => ?_)
    refine lv_aload_n hx hb dX1_init_72 rfl (lv_at hl 1 rfl) ?_
    refine va_get (C := RX1) (T := TX1) (N := 6) hx hb hts (by decide +kernel) hown hK hP 0 rfl rfl 5 (by decide) (hts (.fieldLink RX1 20 RX1 "columnSquares" "[J") (by decide +kernel)) (fun _ h9 => h9) rfl dX1_init_73 ?_
    refine lv_iload hx hb dX1_init_76 (lv_at hl 4 rfl) ?_
    refine lv_lload hx hb dX1_init_78 (lv_at hl 0 rfl) ?_
    refine lv_iload_n hx hb dX1_init_80 rfl (lv_at hl 3 rfl) ?_
    refine n_lshl hx hb dX1_init_81 ?_
    refine lv_lload hx hb dX1_init_82 (lv_at hl 0 rfl) ?_
    refine lv_lsub hx hb dX1_init_84 ?_
    refine n_lastR hx hb hK hP hD hS 2 1 rfl rfl (by omega) (by omega) dX1_init_85 (fun H locs hP hD hS => ?_)
    have hP : va_P D vwCl [(g, .inr (1, [.int (nI w), .int (nI h), .long 0, .long 0, .ref st, .ref cs])), (st, .inl (cI, 4, .inl (fun j => nI ((stp h) j)))), (cs, .inl (cJ, w, .inr (.inl (vp_updL (fiL w (colL h) i) i ((shlL (shlL 1 (i * (h + 1))) h) - (shlL 1 (i * (h + 1))))))))] H := hP
    have hD : va_D A [(g, .inr (1, [.int (nI w), .int (nI h), .long 0, .long 0, .ref st, .ref cs])), (st, .inl (cI, 4, .inl (fun j => nI ((stp h) j)))), (cs, .inl (cJ, w, .inr (.inl (vp_updL (fiL w (colL h) i) i ((shlL (shlL 1 (i * (h + 1))) h) - (shlL 1 (i * (h + 1))))))))] := hD
    refine lv_lload_n hx hb dX1_init_86 rfl (lv_at hl 5 rfl) ?_
    refine lv_lload hx hb dX1_init_87 (lv_at hl 0 rfl) ?_
    refine lv_lor hx hb dX1_init_89 ?_
    refine lv_lstore_n (lv' := [(3, .long (bt ||| (shlL 1 (i * (h + 1))))), (8, .long (shlL 1 (i * (h + 1)))), (0, .ref g), (1, .int (nI w)), (2, .int (nI h)), (7, .int (nI i)), (5, .long al)]) hx hb dX1_init_90 rfl hl (by decide) rfl (fun ls hl => ?_)
    refine lv_lload hx hb dX1_init_91 (lv_at hl 6 rfl) ?_
    refine lv_aload_n hx hb dX1_init_93 rfl (lv_at hl 2 rfl) ?_
    refine va_get (C := RX1) (T := TX1) (N := 6) hx hb hts (by decide +kernel) hown hK hP 0 rfl rfl 5 (by decide) (hts (.fieldLink RX1 20 RX1 "columnSquares" "[J") (by decide +kernel)) (fun _ h9 => h9) rfl dX1_init_94 ?_
    refine lv_iload hx hb dX1_init_97 (lv_at hl 5 rfl) ?_
    refine n_lald hx hb hK hP 2 1 rfl rfl (by omega) (by omega) dX1_init_99 ?_
    refine rt_l (v := colL h i) (by show (if i = i then _ else _) = _; rw [if_pos rfl]; rfl) ?_
    refine lv_lor hx hb dX1_init_100 ?_
    refine lv_lstore (lv' := [(5, .long (al ||| (colL h i))), (3, .long (bt ||| (shlL 1 (i * (h + 1))))), (8, .long (shlL 1 (i * (h + 1)))), (0, .ref g), (1, .int (nI w)), (2, .int (nI h)), (7, .int (nI i))]) hx hb dX1_init_101 hl (by decide) rfl (fun ls hl => ?_)
    refine n_iinc (n := 1) (lv' := [(7, .int (nI (i + 1))), (5, .long (al ||| (colL h i))), (3, .long (bt ||| (shlL 1 (i * (h + 1))))), (8, .long (shlL 1 (i * (h + 1)))), (0, .ref g), (1, .int (nI w)), (2, .int (nI h))]) hx hb dX1_init_103 hl (k := 6) rfl (by decide) rfl (fun ls hl => ?_)
    refine lv_goto (tgt := 56) hx hb dX1_init_106 (by decide) ?_
    rw [show shlL (shlL 1 (i * (h + 1))) h - shlL 1 (i * (h + 1)) = colL h i from rfl, fi_s] at hP hD
    exact ih_56 (bt ||| (shlL 1 (i * (h + 1))), al ||| (colL h i)) ls _ _ ⟨by rw [hI_56.1]; rfl, by rw [hI_56.2]; rfl⟩ hP hD hS (lv_sub hl [4, 5, 6, 0, 2, 1] rfl)
  · intro qx ls H locs hI_56 hP hD hS hl
    obtain ⟨bt, al⟩ := qx
    have hl : lv_has ls 10 [(0, .ref g), (1, .int (nI w)), (2, .int (nI h)), (7, .int (nI w)), (3, .long bt), (5, .long al)] := hl
    have hP : va_P D vwCl [(g, .inr (1, [.int (nI w), .int (nI h), .long 0, .long 0, .ref st, .ref cs])), (st, .inl (cI, 4, .inl (fun j => nI ((stp h) j)))), (cs, .inl (cJ, w, .inr (.inl (fiL w (colL h) w))))] H := hP
    have hD : va_D A [(g, .inr (1, [.int (nI w), .int (nI h), .long 0, .long 0, .ref st, .ref cs])), (st, .inl (cI, 4, .inl (fun j => nI ((stp h) j)))), (cs, .inl (cJ, w, .inr (.inl (fiL w (colL h) w))))] := hD
    have hI_56 : bt = flrL h w ∧ al = allL h w := hI_56
    refine lv_iload hx hb dX1_init_56 (lv_at hl 3 rfl) ?_
    refine lv_iload_n hx hb dX1_init_58 rfl (lv_at hl 1 rfl) ?_
    refine n_icmp_ge (tgt := 109) hx hb dX1_init_59 (by decide) (by omega) (by omega) (fun c59_2 => ?_) (fun c59_2 => ?_)
    · skip
      refine lv_aload_n hx hb dX1_init_109 rfl (lv_at hl 0 rfl) ?_
      refine lv_lload_n hx hb dX1_init_110 rfl (lv_at hl 4 rfl) ?_
      refine va_putF (ty := .long) (C := RX1) (T := TX1) (N := 6) hx hb hts (by decide +kernel) tyX1 tyX1_ok nmX1 hown hK hP hD hS 0 rfl rfl 3 (by decide) (hts (.fieldLink RX1 24 RX1 "floor" "J") (by decide +kernel)) (fun _ h9 => h9) rfl hin rfl (by decide +kernel) rfl rfl (Nat.le_of_ble_eq_true rfl) dX1_init_111 (fun H locs hP hD hS => ?_)
      have hP : va_P D vwCl [(g, .inr (1, [.int (nI w), .int (nI h), .long 0, .long bt, .ref st, .ref cs])), (st, .inl (cI, 4, .inl (fun j => nI ((stp h) j)))), (cs, .inl (cJ, w, .inr (.inl (fiL w (colL h) w))))] H := hP
      have hD : va_D A [(g, .inr (1, [.int (nI w), .int (nI h), .long 0, .long bt, .ref st, .ref cs])), (st, .inl (cI, 4, .inl (fun j => nI ((stp h) j)))), (cs, .inl (cJ, w, .inr (.inl (fiL w (colL h) w))))] := hD
      refine lv_aload_n hx hb dX1_init_114 rfl (lv_at hl 0 rfl) ?_
      refine lv_lload hx hb dX1_init_115 (lv_at hl 5 rfl) ?_
      refine va_putF (ty := .long) (C := RX1) (T := TX1) (N := 6) hx hb hts (by decide +kernel) tyX1 tyX1_ok nmX1 hown hK hP hD hS 0 rfl rfl 2 (by decide) (hts (.fieldLink RX1 28 RX1 "squares" "J") (by decide +kernel)) (fun _ h9 => h9) rfl hin rfl (by decide +kernel) rfl rfl (Nat.le_of_ble_eq_true rfl) dX1_init_117 (fun H locs hP hD hS => ?_)
      have hP : va_P D vwCl [(g, .inr (1, [.int (nI w), .int (nI h), .long al, .long bt, .ref st, .ref cs])), (st, .inl (cI, 4, .inl (fun j => nI ((stp h) j)))), (cs, .inl (cJ, w, .inr (.inl (fiL w (colL h) w))))] H := hP
      have hD : va_D A [(g, .inr (1, [.int (nI w), .int (nI h), .long al, .long bt, .ref st, .ref cs])), (st, .inl (cI, 4, .inl (fun j => nI ((stp h) j)))), (cs, .inl (cJ, w, .inr (.inl (fiL w (colL h) w))))] := hD
      rw [fi_e, hI_56.1, hI_56.2] at hP hD
      refine W.widen (k := 2) (n := 20) (by omega) (by omega) ?_
      exact mu_vret (S := Nat × Nat) (wf := fun u : Nat × Nat => gW cI cJ w h g u.1 u.2) hx hb hr hlocks (st, cs) trivial hP hD hS dX1_init_120
    · exact absurd c59_2 (by omega)
