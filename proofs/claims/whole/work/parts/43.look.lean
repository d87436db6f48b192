
set_option maxHeartbeats 4000000 in
set_option maxRecDepth 100000 in
theorem c5_lookAhead (l : Launch) (D : va_G) (cI cJ cZ : ClassId) (ad : Nat → Nat) (w h th n kn po : Nat) (B : Nat → Int32) (ht dr wh sb : Nat → Nat) (V : Nat → Int32) (la sl we of_ : Nat → Nat) (Sn : Nat → Int32) (tp re : Nat → Nat) (E : Nat) (sz : Nat) (hd : Dm w h) (hn : n ≤ w * h) (hEq : w * h - n = E) (hE1 : 1 ≤ E) (R0 : RootOK w h B ht n E) (hwb : ∀ j, wh j < 8192) (hsb : ∀ j, sb j < 8192) (hsl0 : ∀ a, 262144 ≤ a → sl a = 0) (hkn : kn = 0 ∨ kn = 1 ∧ TblOK w h B ht n E po wh sb V sl we of_) : Met l yX5_lookAhead wsX5_lookAhead (k2_rm 5 121) (MPc D [.ref (ad 0)] (mW5 cI cZ ad w h th n kn po B ht dr wh sb V la sl we of_ Sn tp re) (tyA cI cJ cZ) sz) (mQv D (fun u : LkS => lkP w h B ht n E u) (fun u => (mW5 cI cZ ad w h th n 1 u.1 B ht dr u.2.1 u.2.2.1 u.2.2.2.1 u.2.2.2.2.1 u.2.2.2.2.2.1 u.2.2.2.2.2.2.1 u.2.2.2.2.2.2.2.1 u.2.2.2.2.2.2.2.2.1 u.2.2.2.2.2.2.2.2.2 re)) (va_A (mW5 cI cZ ad w h th n kn po B ht dr wh sb V la sl we of_ Sn tp re) sz)) 0 0 (va_A (mW5 cI cZ ad w h th n kn po B ht dr wh sb V la sl we of_ Sn tp re) sz) := by
  refine mu_head (Qc := fun A => mQv D (fun u : LkS => lkP w h B ht n E u) (fun u => (mW5 cI cZ ad w h th n 1 u.1 B ht dr u.2.1 u.2.2.1 u.2.2.2.1 u.2.2.2.2.1 u.2.2.2.2.2.1 u.2.2.2.2.2.2.1 u.2.2.2.2.2.2.2.1 u.2.2.2.2.2.2.2.2.1 u.2.2.2.2.2.2.2.2.2 re)) A) (cc := cX5_lookAhead) (maxL := 10) (ret := none) (by decide) rfl (Nat.le_of_ble_eq_true rfl) ?_
  intro p e s m below meth cd ls A hx hb hr hlocks hnm hts hown hml hA hP hK hD hN hS hl
  have hl : lv_has ls 10 [(0, .ref (ad 0))] := hl
  have hd0 := hd
  obtain ⟨h3w, hw9, h3h, hh7, hwh, h64⟩ := hd0
  have hE12 := R0.2.2.2.2
  have hht := R0.2.1
  refine lv_aload_n hx hb dX5_lookAhead_0 rfl (lv_at hl 0 rfl) ?_
  refine va_get (C := RX5) (T := TX5) (N := 19) hx hb hts (by decide +kernel) hown hK hP 0 rfl rfl 7 (by decide) (hts (.fieldLink RX5 85 RX5 "known" "Z") (by decide +kernel)) (fun _ h9 => h9) rfl dX5_lookAhead_1 ?_
  refine n_if_eq (tgt := 8) hx hb dX5_lookAhead_4 (by decide) (by omega) (fun c4_1 => ?_) (fun c4_1 => ?_)
  · skip
    refine lv_aload_n hx hb dX5_lookAhead_8 rfl (lv_at hl 0 rfl) ?_
    refine lv_iconst (v := nI 1) hx hb dX5_lookAhead_9 (by decide) ?_
    refine va_put (ty := .boolean) (C := RX5) (T := TX5) (N := 19) hx hb hts (by decide +kernel) tyX5 tyX5_ok nmX5 hown hK hP hD hS 0 rfl rfl 7 (by decide) (hts (.fieldLink RX5 85 RX5 "known" "Z") (by decide +kernel)) (fun _ h9 => h9) rfl (by decide +kernel) rfl rfl (Nat.le_of_ble_eq_true rfl) dX5_lookAhead_10 (fun H locs hP hD hS => ?_)
    have hP : va_P D vwCl (mW5 cI cZ ad w h th n 1 po B ht dr wh sb V la sl we of_ Sn tp re) H := hP
    have hD : va_D A (mW5 cI cZ ad w h th n 1 po B ht dr wh sb V la sl we of_ Sn tp re) := hD
    refine lv_aload_n hx hb dX5_lookAhead_13 rfl (lv_at hl 0 rfl) ?_
    refine va_get (C := RX5) (T := TX5) (N := 19) hx hb hts (by decide +kernel) hown hK hP 0 rfl rfl 1 (by decide) (hts (.fieldLink RX5 52 RX5 "w" "I") (by decide +kernel)) (fun _ h9 => h9) rfl dX5_lookAhead_14 ?_
    refine lv_aload_n hx hb dX5_lookAhead_17 rfl (lv_at hl 0 rfl) ?_
    refine va_get (C := RX5) (T := TX5) (N := 19) hx hb hts (by decide +kernel) hown hK hP 0 rfl rfl 2 (by decide) (hts (.fieldLink RX5 56 RX5 "h" "I") (by decide +kernel)) (fun _ h9 => h9) rfl dX5_lookAhead_18 ?_
    refine n_imul hx hb dX5_lookAhead_21 ?_
    refine lv_aload_n hx hb dX5_lookAhead_22 rfl (lv_at hl 0 rfl) ?_
    refine va_get (C := RX5) (T := TX5) (N := 19) hx hb hts (by decide +kernel) hown hK hP 0 rfl rfl 6 (by decide) (hts (.fieldLink RX5 70 RX5 "n" "I") (by decide +kernel)) (fun _ h9 => h9) rfl dX5_lookAhead_23 ?_
    refine n_isub hx hb dX5_lookAhead_26 (by omega) ?_
    refine rt_i (v := nI E) (by rw [hEq]) ?_
    refine lv_istore_n (lv' := [(1, .int (nI E)), (0, .ref (ad 0))]) hx hb dX5_lookAhead_27 rfl hl (by decide) rfl (fun ls hl => ?_)
    refine lv_iconst (v := nI 1) hx hb dX5_lookAhead_28 (by decide) ?_
    refine lv_istore_n (lv' := [(2, .int (nI 1)), (1, .int (nI E)), (0, .ref (ad 0))]) hx hb dX5_lookAhead_29 rfl hl (by decide) rfl (fun ls hl => ?_)
    refine lv_iconst (v := nI 0) hx hb dX5_lookAhead_30 (by decide) ?_
    refine lv_istore_n (lv' := [(3, .int (nI 0)), (2, .int (nI 1)), (1, .int (nI E)), (0, .ref (ad 0))]) hx hb dX5_lookAhead_31 rfl hl (by decide) rfl (fun ls hl => ?_)
    refine lv_iconst (v := nI 0) hx hb dX5_lookAhead_32 (by decide) ?_
    refine lv_istore (lv' := [(4, .int (nI 0)), (3, .int (nI 0)), (2, .int (nI 1)), (1, .int (nI E)), (0, .ref (ad 0))]) hx hb dX5_lookAhead_33 hl (by decide) rfl (fun ls hl => ?_)
    rw [← weS_0 h ht we, ← ofS_0 h ht of_] at hP hD
    refine loopH (σ := Nat × Nat) (m := m) (Wf := fun H locs g => W p l e _ s m _ below meth cd H locs _ _ _ g) 35 10 (fun i qx => [(1, .int (nI E)), (0, .ref (ad 0)), (4, .int (nI i)), (2, .int (nI qx.1)), (3, .int (nI qx.2))]) (fun i qx => (mW5 cI cZ ad w h th n 1 po B ht dr wh sb V la sl (weS h ht we i) (ofS h ht of_ i) Sn tp re)) (fun i qx => qx.1 = prN h ht i ∧ qx.2 = ofN h ht i) w ?_ ?_ 0 (1, 0) ls _ _ (by omega) ⟨rfl, rfl⟩ hP hD hS (lv_sub hl [3, 4, 0, 2, 1] rfl)
    · intro c qx ls H locs hi_35 hI_35 hP hD hS hl ih_35
      obtain ⟨wt, os⟩ := qx
      have hl : lv_has ls 10 [(1, .int (nI E)), (0, .ref (ad 0)), (4, .int (nI c)), (2, .int (nI wt)), (3, .int (nI os))] := hl
      have hP : va_P D vwCl (mW5 cI cZ ad w h th n 1 po B ht dr wh sb V la sl (weS h ht we c) (ofS h ht of_ c) Sn tp re) H := hP
      have hD : va_D A (mW5 cI cZ ad w h th n 1 po B ht dr wh sb V la sl (weS h ht we c) (ofS h ht of_ c) Sn tp re) := hD
      have hI_35 : wt = prN h ht c ∧ os = ofN h ht c := hI_35
      have hhc := R0.2.1 c
      refine lv_iload hx hb dX5_lookAhead_35 (lv_at hl 2 rfl) ?_
      refine lv_aload_n hx hb dX5_lookAhead_37 rfl (lv_at hl 1 rfl) ?_
      refine va_get (C := RX5) (T := TX5) (N := 19) hx hb hts (by decide +kernel) hown hK hP 0 rfl rfl 1 (by decide) (hts (.fieldLink RX5 52 RX5 "w" "I") (by decide +kernel)) (fun _ h9 => h9) rfl dX5_lookAhead_38 ?_
      refine n_icmp_ge (tgt := 98) hx hb dX5_lookAhead_41 (by decide) (by omega) (by omega) (fun c41_2 => ?_) (fun c41_2 => ?_)
      · exact absurd c41_2 (by omega)
      refine lv_aload_n hx hb dX5_lookAhead_44 rfl (lv_at hl 1 rfl) ?_
      refine va_get (C := RX5) (T := TX5) (N := 19) hx hb hts (by decide +kernel) hown hK hP 0 rfl rfl 14 (by decide) (hts (.fieldLink RX5 36 RX5 "weights" "[I") (by decide +kernel)) (fun _ h9 => h9) rfl dX5_lookAhead_45 ?_
      refine lv_iload hx hb dX5_lookAhead_48 (lv_at hl 2 rfl) ?_
      refine lv_iload_n hx hb dX5_lookAhead_50 rfl (lv_at hl 3 rfl) ?_
      refine n_iast (g := (weS h ht we c)) hx hb hK hP hD hS 9 0 rfl rfl (by omega) (by decide) dX5_lookAhead_51 (fun H locs hP hD hS => ?_)
      have hP : va_P D vwCl (mW5 cI cZ ad w h th n 1 po B ht dr wh sb V la sl (va_up (weS h ht we c) c wt) (ofS h ht of_ c) Sn tp re) H := hP
      have hD : va_D A (mW5 cI cZ ad w h th n 1 po B ht dr wh sb V la sl (va_up (weS h ht we c) c wt) (ofS h ht of_ c) Sn tp re) := hD
      refine lv_aload_n hx hb dX5_lookAhead_52 rfl (lv_at hl 1 rfl) ?_
      refine va_get (C := RX5) (T := TX5) (N := 19) hx hb hts (by decide +kernel) hown hK hP 0 rfl rfl 15 (by decide) (hts (.fieldLink RX5 39 RX5 "offsets" "[I") (by decide +kernel)) (fun _ h9 => h9) rfl dX5_lookAhead_53 ?_
      refine lv_iload hx hb dX5_lookAhead_56 (lv_at hl 2 rfl) ?_
      refine lv_iload_n hx hb dX5_lookAhead_58 rfl (lv_at hl 4 rfl) ?_
      refine n_iast (g := (ofS h ht of_ c)) hx hb hK hP hD hS 10 0 rfl rfl (by omega) (by decide) dX5_lookAhead_59 (fun H locs hP hD hS => ?_)
      have hP : va_P D vwCl (mW5 cI cZ ad w h th n 1 po B ht dr wh sb V la sl (va_up (weS h ht we c) c wt) (va_up (ofS h ht of_ c) c os) Sn tp re) H := hP
      have hD : va_D A (mW5 cI cZ ad w h th n 1 po B ht dr wh sb V la sl (va_up (weS h ht we c) c wt) (va_up (ofS h ht of_ c) c os) Sn tp re) := hD
      refine lv_iload_n hx hb dX5_lookAhead_60 rfl (lv_at hl 3 rfl) ?_
      refine lv_aload_n hx hb dX5_lookAhead_61 rfl (lv_at hl 1 rfl) ?_
      refine va_get (C := RX5) (T := TX5) (N := 19) hx hb hts (by decide +kernel) hown hK hP 0 rfl rfl 2 (by decide) (hts (.fieldLink RX5 56 RX5 "h" "I") (by decide +kernel)) (fun _ h9 => h9) rfl dX5_lookAhead_62 ?_
      refine lv_aload_n hx hb dX5_lookAhead_65 rfl (lv_at hl 1 rfl) ?_
      refine va_get (C := RX5) (T := TX5) (N := 19) hx hb hts (by decide +kernel) hown hK hP 0 rfl rfl 4 (by decide) (hts (.fieldLink RX5 13 RX5 "heights" "[I") (by decide +kernel)) (fun _ h9 => h9) rfl dX5_lookAhead_66 ?_
      refine lv_iload hx hb dX5_lookAhead_69 (lv_at hl 2 rfl) ?_
      refine n_iald hx hb hK hP 2 0 rfl rfl (by omega) (by decide) dX5_lookAhead_71 ?_
      refine n_isub hx hb dX5_lookAhead_72 (by omega) ?_
      refine lv_iconst (v := nI 1) hx hb dX5_lookAhead_73 (by decide) ?_
      refine n_iadd hx hb dX5_lookAhead_74 ?_
      refine n_imul hx hb dX5_lookAhead_75 ?_
      refine lv_istore_n (lv' := [(2, .int (nI (wt * ((h - (ht c)) + 1)))), (1, .int (nI E)), (0, .ref (ad 0)), (4, .int (nI c)), (3, .int (nI os))]) hx hb dX5_lookAhead_76 rfl hl (by decide) rfl (fun ls hl => ?_)
      refine lv_iload_n hx hb dX5_lookAhead_77 rfl (lv_at hl 4 rfl) ?_
      refine lv_aload_n hx hb dX5_lookAhead_78 rfl (lv_at hl 2 rfl) ?_
      refine va_get (C := RX5) (T := TX5) (N := 19) hx hb hts (by decide +kernel) hown hK hP 0 rfl rfl 2 (by decide) (hts (.fieldLink RX5 56 RX5 "h" "I") (by decide +kernel)) (fun _ h9 => h9) rfl dX5_lookAhead_79 ?_
      refine n_iadd hx hb dX5_lookAhead_82 ?_
      refine lv_aload_n hx hb dX5_lookAhead_83 rfl (lv_at hl 2 rfl) ?_
      refine va_get (C := RX5) (T := TX5) (N := 19) hx hb hts (by decide +kernel) hown hK hP 0 rfl rfl 4 (by decide) (hts (.fieldLink RX5 13 RX5 "heights" "[I") (by decide +kernel)) (fun _ h9 => h9) rfl dX5_lookAhead_84 ?_
      refine lv_iload hx hb dX5_lookAhead_87 (lv_at hl 3 rfl) ?_
      refine n_iald hx hb hK hP 2 0 rfl rfl (by omega) (by decide) dX5_lookAhead_89 ?_
      refine n_isub hx hb dX5_lookAhead_90 (by omega) ?_
      refine lv_istore_n (lv' := [(3, .int (nI ((os + h) - (ht c)))), (2, .int (nI (wt * ((h - (ht c)) + 1)))), (1, .int (nI E)), (0, .ref (ad 0)), (4, .int (nI c))]) hx hb dX5_lookAhead_91 rfl hl (by decide) rfl (fun ls hl => ?_)
      refine n_iinc (n := 1) (lv' := [(4, .int (nI (c + 1))), (3, .int (nI ((os + h) - (ht c)))), (2, .int (nI (wt * ((h - (ht c)) + 1)))), (1, .int (nI E)), (0, .ref (ad 0))]) hx hb dX5_lookAhead_92 hl (k := 4) rfl (by decide) rfl (fun ls hl => ?_)
      refine lv_goto (tgt := 35) hx hb dX5_lookAhead_95 (by decide) ?_
      rw [hI_35.1, hI_35.2, weS_s, ofS_s] at hP hD
      exact ih_35 (wt * ((h - (ht c)) + 1), (os + h) - (ht c)) ls _ _ ⟨by rw [hI_35.1]; rfl, by rw [hI_35.2]; rfl⟩ hP hD hS (lv_sub hl [3, 4, 0, 2, 1] rfl)
    · intro qx ls H locs hI_35 hP hD hS hl
      obtain ⟨wt, os⟩ := qx
      have hl : lv_has ls 10 [(1, .int (nI E)), (0, .ref (ad 0)), (4, .int (nI w)), (2, .int (nI wt)), (3, .int (nI os))] := hl
      have hP : va_P D vwCl (mW5 cI cZ ad w h th n 1 po B ht dr wh sb V la sl (weS h ht we w) (ofS h ht of_ w) Sn tp re) H := hP
      have hD : va_D A (mW5 cI cZ ad w h th n 1 po B ht dr wh sb V la sl (weS h ht we w) (ofS h ht of_ w) Sn tp re) := hD
      have hI_35 : wt = prN h ht w ∧ os = ofN h ht w := hI_35
      obtain ⟨we1, ewe⟩ : ∃ f, f = (weS h ht we w) := ⟨_, rfl⟩
      rw [← ewe] at hP hD
      obtain ⟨of1, eof⟩ : ∃ f, f = (ofS h ht of_ w) := ⟨_, rfl⟩
      rw [← eof] at hP hD
      have hwe : ∀ c, c < w → we1 c = prN h ht c := fun c hc => by rw [ewe]; exact if_pos hc
      have hof : ∀ c, c < w → of1 c = ofN h ht c := fun c hc => by rw [eof]; exact if_pos hc
      have hof12 : ∀ c, c < w → of1 c + (h - ht c) ≤ E := fun c hc => by rw [hof c hc]; exact of_le12 R0 hc
      have hofs : ∀ c, c < w → of1 c ≤ 12 := fun c hc => by have := hof12 c hc; omega
      refine lv_iload hx hb dX5_lookAhead_35 (lv_at hl 2 rfl) ?_
      refine lv_aload_n hx hb dX5_lookAhead_37 rfl (lv_at hl 1 rfl) ?_
      refine va_get (C := RX5) (T := TX5) (N := 19) hx hb hts (by decide +kernel) hown hK hP 0 rfl rfl 1 (by decide) (hts (.fieldLink RX5 52 RX5 "w" "I") (by decide +kernel)) (fun _ h9 => h9) rfl dX5_lookAhead_38 ?_
      refine n_icmp_ge (tgt := 98) hx hb dX5_lookAhead_41 (by decide) (by omega) (by omega) (fun c41_3 => ?_) (fun c41_3 => ?_)
      · skip
        refine lv_iconst (v := nI 0) hx hb dX5_lookAhead_98 (by decide) ?_
        refine lv_istore (lv' := [(4, .int (nI 0)), (1, .int (nI E)), (0, .ref (ad 0)), (2, .int (nI wt)), (3, .int (nI os))]) hx hb dX5_lookAhead_99 hl (by decide) rfl (fun ls hl => ?_)
        rw [← slC_0 sl] at hP hD
        refine loopH (σ := Unit) (m := m) (Wf := fun H locs g => W p l e _ s m _ below meth cd H locs _ _ _ g) 101 10 (fun i qx => [(1, .int (nI E)), (0, .ref (ad 0)), (4, .int (nI i))]) (fun i qx => (mW5 cI cZ ad w h th n 1 po B ht dr wh sb V la (slC sl i) we1 of1 Sn tp re)) (fun i qx => True) 262144 ?_ ?_ 0 () ls _ _ (by omega) trivial hP hD hS (lv_sub hl [1, 2, 0] rfl)
        · intro k qx ls H locs hi_101 hI_101 hP hD hS hl ih_101
          have hl : lv_has ls 10 [(1, .int (nI E)), (0, .ref (ad 0)), (4, .int (nI k))] := hl
          have hP : va_P D vwCl (mW5 cI cZ ad w h th n 1 po B ht dr wh sb V la (slC sl k) we1 of1 Sn tp re) H := hP
          have hD : va_D A (mW5 cI cZ ad w h th n 1 po B ht dr wh sb V la (slC sl k) we1 of1 Sn tp re) := hD
          have hI_101 : True := hI_101
          refine lv_iload hx hb dX5_lookAhead_101 (lv_at hl 2 rfl) ?_
          refine rt_ldc (v := nI 262144) hx hb hown (hts (.constant RX5 32 262144) (by decide +kernel)) (by decide) dX5_lookAhead_103 ?_
          refine n_icmp_ge (tgt := 122) hx hb dX5_lookAhead_105 (by decide) (by omega) (by omega) (fun c105_4 => ?_) (fun c105_4 => ?_)
          · exact absurd c105_4 (by omega)
          refine lv_aload_n hx hb dX5_lookAhead_108 rfl (lv_at hl 1 rfl) ?_
          refine va_get (C := RX5) (T := TX5) (N := 19) hx hb hts (by decide +kernel) hown hK hP 0 rfl rfl 13 (by decide) (hts (.fieldLink RX5 33 RX5 "slots" "[I") (by decide +kernel)) (fun _ h9 => h9) rfl dX5_lookAhead_109 ?_
          refine lv_iload hx hb dX5_lookAhead_112 (lv_at hl 2 rfl) ?_
          refine lv_iconst (v := nI 0) hx hb dX5_lookAhead_114 (by decide) ?_
          refine n_iast (g := (slC sl k)) hx hb hK hP hD hS 8 0 rfl rfl (by omega) (by decide) dX5_lookAhead_115 (fun H locs hP hD hS => ?_)
          have hP : va_P D vwCl (mW5 cI cZ ad w h th n 1 po B ht dr wh sb V la (va_up (slC sl k) k 0) we1 of1 Sn tp re) H := hP
          have hD : va_D A (mW5 cI cZ ad w h th n 1 po B ht dr wh sb V la (va_up (slC sl k) k 0) we1 of1 Sn tp re) := hD
          refine n_iinc (n := 1) (lv' := [(4, .int (nI (k + 1))), (1, .int (nI E)), (0, .ref (ad 0))]) hx hb dX5_lookAhead_116 hl (k := 2) rfl (by decide) rfl (fun ls hl => ?_)
          refine lv_goto (tgt := 101) hx hb dX5_lookAhead_119 (by decide) ?_
          rw [slC_s] at hP hD
          exact ih_101 () ls _ _ trivial hP hD hS (lv_sub hl [1, 2, 0] rfl)
        · intro qx ls H locs hI_101 hP hD hS hl
          have hl : lv_has ls 10 [(1, .int (nI E)), (0, .ref (ad 0)), (4, .int (nI 262144))] := hl
          have hP : va_P D vwCl (mW5 cI cZ ad w h th n 1 po B ht dr wh sb V la (slC sl 262144) we1 of1 Sn tp re) H := hP
          have hD : va_D A (mW5 cI cZ ad w h th n 1 po B ht dr wh sb V la (slC sl 262144) we1 of1 Sn tp re) := hD
          have hI_101 : True := hI_101
          rw [slC_e hsl0] at hP hD
          obtain ⟨sl1, esl⟩ : ∃ f : Nat → Nat, f = (fun _ => 0) := ⟨_, rfl⟩
          have hP : va_P D vwCl (mW5 cI cZ ad w h th n 1 po B ht dr wh sb V la sl1 we1 of1 Sn tp re) H := by rw [esl]; exact hP
          have hD : va_D A (mW5 cI cZ ad w h th n 1 po B ht dr wh sb V la sl1 we1 of1 Sn tp re) := by rw [esl]; exact hD
          refine lv_iload hx hb dX5_lookAhead_101 (lv_at hl 2 rfl) ?_
          refine rt_ldc (v := nI 262144) hx hb hown (hts (.constant RX5 32 262144) (by decide +kernel)) (by decide) dX5_lookAhead_103 ?_
          refine n_icmp_ge (tgt := 122) hx hb dX5_lookAhead_105 (by decide) (by decide) (by decide) (fun _ => ?_) (fun c105_5 => absurd c105_5 (by decide))
          refine lv_aload_n hx hb dX5_lookAhead_122 rfl (lv_at hl 1 rfl) ?_
          refine va_get (C := RX5) (T := TX5) (N := 19) hx hb hts (by decide +kernel) hown hK hP 0 rfl rfl 9 (by decide) (hts (.fieldLink RX5 20 RX5 "which" "[I") (by decide +kernel)) (fun _ h9 => h9) rfl dX5_lookAhead_123 ?_
          refine lv_iconst (v := nI 0) hx hb dX5_lookAhead_126 (by decide) ?_
          refine lv_iconst (v := nI 0) hx hb dX5_lookAhead_127 (by decide) ?_
          refine n_iast (g := wh) hx hb hK hP hD hS 4 0 rfl rfl (by decide) (by decide) dX5_lookAhead_128 (fun H locs hP hD hS => ?_)
          have hP : va_P D vwCl (mW5 cI cZ ad w h th n 1 po B ht dr (va_up wh 0 0) sb V la sl1 we1 of1 Sn tp re) H := hP
          have hD : va_D A (mW5 cI cZ ad w h th n 1 po B ht dr (va_up wh 0 0) sb V la sl1 we1 of1 Sn tp re) := hD
          refine lv_aload_n hx hb dX5_lookAhead_129 rfl (lv_at hl 1 rfl) ?_
          refine va_get (C := RX5) (T := TX5) (N := 19) hx hb hts (by decide +kernel) hown hK hP 0 rfl rfl 10 (by decide) (hts (.fieldLink RX5 23 RX5 "stones" "[I") (by decide +kernel)) (fun _ h9 => h9) rfl dX5_lookAhead_130 ?_
          refine lv_iconst (v := nI 0) hx hb dX5_lookAhead_133 (by decide) ?_
          refine lv_iconst (v := nI 0) hx hb dX5_lookAhead_134 (by decide) ?_
          refine n_iast (g := sb) hx hb hK hP hD hS 5 0 rfl rfl (by decide) (by decide) dX5_lookAhead_135 (fun H locs hP hD hS => ?_)
          have hP : va_P D vwCl (mW5 cI cZ ad w h th n 1 po B ht dr (va_up wh 0 0) (va_up sb 0 0) V la sl1 we1 of1 Sn tp re) H := hP
          have hD : va_D A (mW5 cI cZ ad w h th n 1 po B ht dr (va_up wh 0 0) (va_up sb 0 0) V la sl1 we1 of1 Sn tp re) := hD
          refine lv_aload_n hx hb dX5_lookAhead_136 rfl (lv_at hl 1 rfl) ?_
          refine lv_iconst (v := nI 1) hx hb dX5_lookAhead_137 (by decide) ?_
          refine va_put (ty := .int) (C := RX5) (T := TX5) (N := 19) hx hb hts (by decide +kernel) tyX5 tyX5_ok nmX5 hown hK hP hD hS 0 rfl rfl 8 (by decide) (hts (.fieldLink RX5 111 RX5 "positions" "I") (by decide +kernel)) (fun _ h9 => h9) rfl (by decide +kernel) rfl rfl (Nat.le_of_ble_eq_true rfl) dX5_lookAhead_138 (fun H locs hP hD hS => ?_)
          have hP : va_P D vwCl (mW5 cI cZ ad w h th n 1 1 B ht dr (va_up wh 0 0) (va_up sb 0 0) V la sl1 we1 of1 Sn tp re) H := hP
          have hD : va_D A (mW5 cI cZ ad w h th n 1 1 B ht dr (va_up wh 0 0) (va_up sb 0 0) V la sl1 we1 of1 Sn tp re) := hD
          refine lv_aload_n hx hb dX5_lookAhead_141 rfl (lv_at hl 1 rfl) ?_
          refine va_get (C := RX5) (T := TX5) (N := 19) hx hb hts (by decide +kernel) hown hK hP 0 rfl rfl 12 (by decide) (hts (.fieldLink RX5 29 RX5 "layers" "[I") (by decide +kernel)) (fun _ h9 => h9) rfl dX5_lookAhead_142 ?_
          refine lv_iconst (v := nI 0) hx hb dX5_lookAhead_145 (by decide) ?_
          refine lv_iconst (v := nI 0) hx hb dX5_lookAhead_146 (by decide) ?_
          refine n_iast (g := la) hx hb hK hP hD hS 7 0 rfl rfl (by decide) (by decide) dX5_lookAhead_147 (fun H locs hP hD hS => ?_)
          have hP : va_P D vwCl (mW5 cI cZ ad w h th n 1 1 B ht dr (va_up wh 0 0) (va_up sb 0 0) V (va_up la 0 0) sl1 we1 of1 Sn tp re) H := hP
          have hD : va_D A (mW5 cI cZ ad w h th n 1 1 B ht dr (va_up wh 0 0) (va_up sb 0 0) V (va_up la 0 0) sl1 we1 of1 Sn tp re) := hD
          refine lv_iconst (v := nI 0) hx hb dX5_lookAhead_148 (by decide) ?_
          refine lv_istore (lv' := [(4, .int (nI 0)), (1, .int (nI E)), (0, .ref (ad 0))]) hx hb dX5_lookAhead_149 hl (by decide) rfl (fun ls hl => ?_)
          refine loopH (σ := Nat × (Nat → Nat) × (Nat → Nat) × (Nat → Nat) × (Nat → Nat) × (Nat → Int32) × (Nat → Nat)) (m := m) (Wf := fun H locs g => W p l e _ s m _ below meth cd H locs _ _ _ g) 151 10 (fun i qx => [(1, .int (nI E)), (0, .ref (ad 0)), (4, .int (nI i))]) (fun i qx => (mW5 cI cZ ad w h th n 1 qx.1 B ht dr qx.2.1 qx.2.2.1 V qx.2.2.2.1 qx.2.2.2.2.1 we1 of1 qx.2.2.2.2.2.1 qx.2.2.2.2.2.2 re)) (fun i qx => J1 w h B ht n E i qx.1 qx.2.1 qx.2.2.1 qx.2.2.2.1 qx.2.2.2.2.1) E ?_ ?_ 0 (1, (va_up wh 0 0), (va_up sb 0 0), (va_up la 0 0), sl1, Sn, tp) ls _ _ (by omega) (by rw [esl]; exact J1.start R0 hE1 hwb hsb) hP hD hS (lv_sub hl [1, 2, 0] rfl)
          · intro k qx ls H locs hi_151 hI_151 hP hD hS hl ih_151
            obtain ⟨po, wh, sb, la, sl, Sn, tp⟩ := qx
            have hl : lv_has ls 10 [(1, .int (nI E)), (0, .ref (ad 0)), (4, .int (nI k))] := hl
            have hP : va_P D vwCl (mW5 cI cZ ad w h th n 1 po B ht dr wh sb V la sl we1 of1 Sn tp re) H := hP
            have hD : va_D A (mW5 cI cZ ad w h th n 1 po B ht dr wh sb V la sl we1 of1 Sn tp re) := hD
            have hI_151 : J1 w h B ht n E k po wh sb la sl := hI_151
            have hfew := hI_151.1.few R0
            refine lv_iload hx hb dX5_lookAhead_151 (lv_at hl 2 rfl) ?_
            refine lv_iload_n hx hb dX5_lookAhead_153 rfl (lv_at hl 0 rfl) ?_
            refine n_icmp_ge (tgt := 283) hx hb dX5_lookAhead_154 (by decide) (by omega) (by omega) (fun c154_6 => ?_) (fun c154_6 => ?_)
            · exact absurd c154_6 (by omega)
            refine lv_aload_n hx hb dX5_lookAhead_157 rfl (lv_at hl 1 rfl) ?_
            refine va_get (C := RX5) (T := TX5) (N := 19) hx hb hts (by decide +kernel) hown hK hP 0 rfl rfl 12 (by decide) (hts (.fieldLink RX5 29 RX5 "layers" "[I") (by decide +kernel)) (fun _ h9 => h9) rfl dX5_lookAhead_158 ?_
            refine lv_iload hx hb dX5_lookAhead_161 (lv_at hl 2 rfl) ?_
            refine lv_iconst (v := nI 1) hx hb dX5_lookAhead_163 (by decide) ?_
            refine n_iadd hx hb dX5_lookAhead_164 ?_
            refine lv_aload_n hx hb dX5_lookAhead_165 rfl (lv_at hl 1 rfl) ?_
            refine va_get (C := RX5) (T := TX5) (N := 19) hx hb hts (by decide +kernel) hown hK hP 0 rfl rfl 8 (by decide) (hts (.fieldLink RX5 111 RX5 "positions" "I") (by decide +kernel)) (fun _ h9 => h9) rfl dX5_lookAhead_166 ?_
            refine n_iast (g := la) hx hb hK hP hD hS 7 0 rfl rfl (by omega) (by decide) dX5_lookAhead_169 (fun H locs hP hD hS => ?_)
            have hP : va_P D vwCl (mW5 cI cZ ad w h th n 1 po B ht dr wh sb V (va_up la (k + 1) po) sl we1 of1 Sn tp re) H := hP
            have hD : va_D A (mW5 cI cZ ad w h th n 1 po B ht dr wh sb V (va_up la (k + 1) po) sl we1 of1 Sn tp re) := hD
            refine lv_aload_n hx hb dX5_lookAhead_170 rfl (lv_at hl 1 rfl) ?_
            refine va_get (C := RX5) (T := TX5) (N := 19) hx hb hts (by decide +kernel) hown hK hP 0 rfl rfl 6 (by decide) (hts (.fieldLink RX5 70 RX5 "n" "I") (by decide +kernel)) (fun _ h9 => h9) rfl dX5_lookAhead_171 ?_
            refine lv_iload hx hb dX5_lookAhead_174 (lv_at hl 2 rfl) ?_
            refine n_iadd hx hb dX5_lookAhead_176 ?_
            refine lv_iconst (v := nI 2) hx hb dX5_lookAhead_177 (by decide) ?_
            refine n_irem hx hb dX5_lookAhead_178 (by omega) (by omega) (by omega) ?_
            refine lv_istore (lv' := [(5, .int (nI ((n + k) % 2))), (1, .int (nI E)), (0, .ref (ad 0)), (4, .int (nI k))]) hx hb dX5_lookAhead_179 hl (by decide) rfl (fun ls hl => ?_)
            refine lv_aload_n hx hb dX5_lookAhead_181 rfl (lv_at hl 2 rfl) ?_
            refine va_get (C := RX5) (T := TX5) (N := 19) hx hb hts (by decide +kernel) hown hK hP 0 rfl rfl 12 (by decide) (hts (.fieldLink RX5 29 RX5 "layers" "[I") (by decide +kernel)) (fun _ h9 => h9) rfl dX5_lookAhead_182 ?_
            refine lv_iload hx hb dX5_lookAhead_185 (lv_at hl 3 rfl) ?_
            refine n_iald hx hb hK hP 7 0 rfl rfl (by omega) (by decide) dX5_lookAhead_187 ?_
            refine rt_i (v := nI (la k)) (by rw [vu_ne (by omega)]) ?_
            refine lv_istore (lv' := [(6, .int (nI (la k))), (5, .int (nI ((n + k) % 2))), (1, .int (nI E)), (0, .ref (ad 0)), (4, .int (nI k))]) hx hb dX5_lookAhead_188 hl (by decide) rfl (fun ls hl => ?_)
            refine loopH (σ := Nat × (Nat → Nat) × (Nat → Nat) × (Nat → Nat) × (Nat → Int32) × (Nat → Nat)) (m := m) (Wf := fun H locs g => W p l e _ s m _ below meth cd H locs _ _ _ g) 190 10 (fun i qx => [(5, .int (nI ((n + k) % 2))), (1, .int (nI E)), (0, .ref (ad 0)), (4, .int (nI k)), (6, .int (nI i))]) (fun i qx => (mW5 cI cZ ad w h th n 1 qx.1 B ht dr qx.2.1 qx.2.2.1 V (va_up la (k + 1) po) qx.2.2.2.1 we1 of1 qx.2.2.2.2.1 qx.2.2.2.2.2 re)) (fun i qx => J2 w h B ht n E k i qx.1 qx.2.1 qx.2.2.1 (va_up la (k + 1) po) qx.2.2.2.1 ∧ po ≤ qx.1 ∧ la k ≤ i) po ?_ ?_ (la k) (po, wh, sb, sl, Sn, tp) ls _ _ (hI_151.2.1 k (Nat.le_refl _)).1 ⟨hI_151.layer, Nat.le_refl _, Nat.le_refl _⟩ hP hD hS (lv_sub hl [1, 2, 3, 4, 0] rfl)
            · intro q qx ls H locs hi_190 hI_190 hP hD hS hl ih_190
              obtain ⟨po2, wh2, sb2, sl2, Sn2, tp2⟩ := qx
              have hl : lv_has ls 10 [(5, .int (nI ((n + k) % 2))), (1, .int (nI E)), (0, .ref (ad 0)), (4, .int (nI k)), (6, .int (nI q))] := hl
              have hP : va_P D vwCl (mW5 cI cZ ad w h th n 1 po2 B ht dr wh2 sb2 V (va_up la (k + 1) po) sl2 we1 of1 Sn2 tp2 re) H := hP
              have hD : va_D A (mW5 cI cZ ad w h th n 1 po2 B ht dr wh2 sb2 V (va_up la (k + 1) po) sl2 we1 of1 Sn2 tp2 re) := hD
              have hI_190 : J2 w h B ht n E k q po2 wh2 sb2 (va_up la (k + 1) po) sl2 ∧ po ≤ po2 ∧ la k ≤ q := hI_190
              have hfew2 := hI_190.1.1.few R0
              have hq2 : q < po2 := by omega
              have hwb2 : ∀ j, wh2 j < 2 ^ 31 := fun j => Nat.lt_of_lt_of_le (hI_190.1.1.2.2.2.2.1 j) (by decide)
              have hsb2 : ∀ j, sb2 j < 2 ^ 31 := fun j => Nat.lt_of_lt_of_le (hI_190.1.1.2.2.2.2.2.1 j) (by decide)
              have hsd2 : sdN w h ht (wh2 q) = k := hI_190.1.sd (by rw [vu_ne (by omega)]; exact hI_190.2.2) (by rw [va_up_self]; exact hi_190) hq2
              have hent := hI_190.1.1.2.2.2.1 q hq2
              rw [hsd2] at hent
              refine lv_iload hx hb dX5_lookAhead_190 (lv_at hl 4 rfl) ?_
              refine lv_aload_n hx hb dX5_lookAhead_192 rfl (lv_at hl 2 rfl) ?_
              refine va_get (C := RX5) (T := TX5) (N := 19) hx hb hts (by decide +kernel) hown hK hP 0 rfl rfl 12 (by decide) (hts (.fieldLink RX5 29 RX5 "layers" "[I") (by decide +kernel)) (fun _ h9 => h9) rfl dX5_lookAhead_193 ?_
              refine lv_iload hx hb dX5_lookAhead_196 (lv_at hl 3 rfl) ?_
              refine lv_iconst (v := nI 1) hx hb dX5_lookAhead_198 (by decide) ?_
              refine n_iadd hx hb dX5_lookAhead_199 ?_
              refine n_iald hx hb hK hP 7 0 rfl rfl (by omega) (by decide) dX5_lookAhead_200 ?_
              refine rt_i (v := nI po) (by rw [va_up_self]) ?_
              refine n_icmp_ge (tgt := 277) hx hb dX5_lookAhead_201 (by decide) (by omega) (by omega) (fun c201_7 => ?_) (fun c201_7 => ?_)
              · exact absurd c201_7 (by omega)
              refine lv_aload_n hx hb dX5_lookAhead_204 rfl (lv_at hl 2 rfl) ?_
              refine lv_iload hx hb dX5_lookAhead_205 (lv_at hl 4 rfl) ?_
              refine mu_callv (wr := []) (va_runV (As := [.int (nI q)]) (rest := []) ⟨hx, hb, hml, hown, hts⟩ (c5_show l D cI cJ cZ ad w h th n 1 po2 B ht dr wh2 sb2 V (va_up la (k + 1) po) sl2 we1 of1 Sn2 tp2 re q _ hd (by omega) R0.2.1 hofs hwb2 hsb2) (cwV 1 hts gX5_lookAhead_X5_show rfl rfl rfl (by decide +kernel) ⟨Nat.le_of_ble_eq_true rfl, Nat.le_of_ble_eq_true rfl⟩) ⟨MPc.blind, va_recv hK hP (ci := 5) (q0 := 0) rfl rfl, (MPc.at (hP.sub [0, 1, 2, 3, 4, 5, 6, 7, 8, 9, 10, 11, 12, 13] rfl) (hD.sub [0, 1, 2, 3, 4, 5, 6, 7, 8, 9, 10, 11, 12, 13] (by decide) rfl) hK hN)⟩ rfl rfl hl.1 rfl (lv_room (Nat.le_of_ble_eq_true rfl)) dX5_lookAhead_207 ⟨Nat.zero_le _, Nat.zero_le _⟩) hP hD hS hA [0, 1, 2, 3, 4, 5, 6, 7, 8, 9, 10, 11, 12, 13] [] rfl rfl (by decide) (by decide) (fun u1 H locs hw hP hD hS => ?_)
              have hP : va_P D vwCl (mW5 cI cZ ad w h th n 1 po2 B ht dr wh2 sb2 V (va_up la (k + 1) po) sl2 we1 of1 (shS h B ht of1 (wh2 q) (sb2 q) Sn2 w) (tpS h ht tp2 (wh2 q) w) re) H := hP
              have hD : va_D A (mW5 cI cZ ad w h th n 1 po2 B ht dr wh2 sb2 V (va_up la (k + 1) po) sl2 we1 of1 (shS h B ht of1 (wh2 q) (sb2 q) Sn2 w) (tpS h ht tp2 (wh2 q) w) re) := hD
              obtain ⟨Sn3, eSn⟩ : ∃ f, f = (shS h B ht of1 (wh2 q) (sb2 q) Sn2 w) := ⟨_, rfl⟩
              rw [← eSn] at hP hD
              obtain ⟨tp3, etp⟩ : ∃ f, f = (tpS h ht tp2 (wh2 q) w) := ⟨_, rfl⟩
              rw [← etp] at hP hD
              have htp3 : ∀ c, c < w → tp3 c = tpE h ht (wh2 q) c := fun c hc => by rw [etp]; exact if_pos hc
              refine lv_iconst (v := nI 0) hx hb dX5_lookAhead_210 (by decide) ?_
              refine lv_istore (lv' := [(7, .int (nI 0)), (5, .int (nI ((n + k) % 2))), (1, .int (nI E)), (0, .ref (ad 0)), (4, .int (nI k)), (6, .int (nI q))]) hx hb dX5_lookAhead_211 hl (by decide) rfl (fun ls hl => ?_)
              refine loopH (σ := Nat × (Nat → Nat) × (Nat → Nat) × (Nat → Nat)) (m := m) (Wf := fun H locs g => W p l e _ s m _ below meth cd H locs _ _ _ g) 213 10 (fun i qx => [(5, .int (nI ((n + k) % 2))), (1, .int (nI E)), (0, .ref (ad 0)), (4, .int (nI k)), (6, .int (nI q)), (7, .int (nI i))]) (fun i qx => (mW5 cI cZ ad w h th n 1 qx.1 B ht dr qx.2.1 qx.2.2.1 V (va_up la (k + 1) po) qx.2.2.2 we1 of1 Sn3 tp3 re)) (fun i qx => J3 w h B ht n E k q i qx.1 qx.2.1 qx.2.2.1 (va_up la (k + 1) po) qx.2.2.2 ∧ po ≤ qx.1 ∧ q < qx.1 ∧ qx.2.1 q = wh2 q ∧ qx.2.2.1 q = sb2 q) w ?_ ?_ 0 (po2, wh2, sb2, sl2) ls _ _ (by omega) ⟨J3.start hI_190.1, hI_190.2.1, hq2, rfl, rfl⟩ hP hD hS (lv_sub hl [1, 2, 3, 4, 5, 0] rfl)
              · intro c qx ls H locs hi_213 hI_213 hP hD hS hl ih_213
                obtain ⟨po3, wh3, sb3, sl3⟩ := qx
                have hl : lv_has ls 10 [(5, .int (nI ((n + k) % 2))), (1, .int (nI E)), (0, .ref (ad 0)), (4, .int (nI k)), (6, .int (nI q)), (7, .int (nI c))] := hl
                have hP : va_P D vwCl (mW5 cI cZ ad w h th n 1 po3 B ht dr wh3 sb3 V (va_up la (k + 1) po) sl3 we1 of1 Sn3 tp3 re) H := hP
                have hD : va_D A (mW5 cI cZ ad w h th n 1 po3 B ht dr wh3 sb3 V (va_up la (k + 1) po) sl3 we1 of1 Sn3 tp3 re) := hD
                have hI_213 : J3 w h B ht n E k q c po3 wh3 sb3 (va_up la (k + 1) po) sl3 ∧ po ≤ po3 ∧ q < po3 ∧ wh3 q = wh2 q ∧ sb3 q = sb2 q := hI_213
                have hfew3 := hI_213.1.1.1.few R0
                have hwb3 : ∀ j, wh3 j < 2 ^ 31 := fun j => Nat.lt_of_lt_of_le (hI_213.1.1.1.2.2.2.2.1 j) (by decide)
                have hsb3 : ∀ j, sb3 j < 2 ^ 31 := fun j => Nat.lt_of_lt_of_le (hI_213.1.1.1.2.2.2.2.2.1 j) (by decide)
                have hsl3 : ∀ a, sl3 a ≤ 70000 := fun a => by have := hI_213.1.1.1.1.1 a; omega
                have hsd3 : sdN w h ht (wh3 q) = k := by rw [hI_213.2.2.2.1]; exact hsd2
                have htc := htp3 c hi_213
                rw [← hI_213.2.2.2.1] at htc
                have htl : tpE h ht (wh3 q) c ≤ h := by have := dgN_lt h ht (wh3 q) c; have := hht c; unfold tpE; omega
                refine lv_iload hx hb dX5_lookAhead_213 (lv_at hl 5 rfl) ?_
                refine lv_aload_n hx hb dX5_lookAhead_215 rfl (lv_at hl 2 rfl) ?_
                refine va_get (C := RX5) (T := TX5) (N := 19) hx hb hts (by decide +kernel) hown hK hP 0 rfl rfl 1 (by decide) (hts (.fieldLink RX5 52 RX5 "w" "I") (by decide +kernel)) (fun _ h9 => h9) rfl dX5_lookAhead_216 ?_
                refine n_icmp_ge (tgt := 271) hx hb dX5_lookAhead_219 (by decide) (by omega) (by omega) (fun c219_8 => ?_) (fun c219_8 => ?_)
                · exact absurd c219_8 (by omega)
                refine lv_aload_n hx hb dX5_lookAhead_222 rfl (lv_at hl 2 rfl) ?_
                refine va_get (C := RX5) (T := TX5) (N := 19) hx hb hts (by decide +kernel) hown hK hP 0 rfl rfl 17 (by decide) (hts (.fieldLink RX5 45 RX5 "tops" "[I") (by decide +kernel)) (fun _ h9 => h9) rfl dX5_lookAhead_223 ?_
                refine lv_iload hx hb dX5_lookAhead_226 (lv_at hl 5 rfl) ?_
                refine n_iald hx hb hK hP 12 0 rfl rfl (by omega) (by decide) dX5_lookAhead_228 ?_
                refine rt_i (v := nI (tpE h ht (wh3 q) c)) (by rw [htc]) ?_
                refine lv_aload_n hx hb dX5_lookAhead_229 rfl (lv_at hl 2 rfl) ?_
                refine va_get (C := RX5) (T := TX5) (N := 19) hx hb hts (by decide +kernel) hown hK hP 0 rfl rfl 2 (by decide) (hts (.fieldLink RX5 56 RX5 "h" "I") (by decide +kernel)) (fun _ h9 => h9) rfl dX5_lookAhead_230 ?_
                refine n_icmp_ge (tgt := 265) hx hb dX5_lookAhead_233 (by decide) (by omega) (by omega) (fun c233_9 => ?_) (fun c233_9 => ?_)
                · skip
                  refine n_iinc (n := 1) (lv' := [(7, .int (nI (c + 1))), (5, .int (nI ((n + k) % 2))), (1, .int (nI E)), (0, .ref (ad 0)), (4, .int (nI k)), (6, .int (nI q))]) hx hb dX5_lookAhead_265 hl (k := 5) rfl (by decide) rfl (fun ls hl => ?_)
                  refine lv_goto (tgt := 213) hx hb dX5_lookAhead_268 (by decide) ?_
                  exact ih_213 (po3, wh3, sb3, sl3) ls _ _ ⟨hI_213.1.skip hsd3 (Or.inl (by omega)), hI_213.2.1, hI_213.2.2.1, hI_213.2.2.2.1, hI_213.2.2.2.2⟩ hP hD hS (lv_sub hl [1, 2, 3, 4, 5, 0] rfl)
                have hlt3 : tp3 c < h := by rw [htc]; omega
                have hlt4 : tpE h ht (wh2 q) c < h := by rw [← hI_213.2.2.2.1]; omega
                have hsn3 : Sn3 (7 * c + tp3 c) = -1 := by rw [eSn, htc, hI_213.2.2.2.1]; exact ent_seen R0 hof hi_213 hlt4
                have hwin : wnB w h (upd Sn3 (7 * c + tp3 c) (nI ((n + k) % 2))) c (tp3 c) = true ↔ hasL w h (sq_put (MP w h B ht ((n + k) % 2) (wh3 q) (sb3 q)) c (tpE h ht (wh3 q) c)) := by
                  rw [eSn, htc, hI_213.2.2.2.1, hI_213.2.2.2.2]; exact ent_win R0 hof (by omega) hent.2.2.2.2.2.2.2.2.1 hi_213 hlt4
                refine lv_aload_n hx hb dX5_lookAhead_236 rfl (lv_at hl 2 rfl) ?_
                refine lv_iload hx hb dX5_lookAhead_237 (lv_at hl 5 rfl) ?_
                refine lv_iload hx hb dX5_lookAhead_239 (lv_at hl 0 rfl) ?_
                refine mu_calli (wr := []) (va_runV (As := [.int (nI c), .int (nI ((n + k) % 2))]) (rest := []) ⟨hx, hb, hml, hown, hts⟩ (c5_dropWins l D cI cJ cZ ad w h th n 1 po3 B ht dr wh3 sb3 V (va_up la (k + 1) po) sl3 we1 of1 Sn3 tp3 re c ((n + k) % 2) _ hd hi_213 hlt3 hsn3) (cwV 2 hts gX5_lookAhead_X5_dropWins rfl rfl rfl (by decide +kernel) ⟨Nat.le_of_ble_eq_true rfl, Nat.le_of_ble_eq_true rfl⟩) ⟨MPc.blind, va_recv hK hP (ci := 5) (q0 := 0) rfl rfl, (MPc.at (hP.sub [0, 1, 2, 3, 4, 5, 6, 7, 8, 9, 10, 11, 12, 13] rfl) (hD.sub [0, 1, 2, 3, 4, 5, 6, 7, 8, 9, 10, 11, 12, 13] (by decide) rfl) hK hN)⟩ rfl rfl hl.1 rfl (lv_room (Nat.le_of_ble_eq_true rfl)) dX5_lookAhead_241 ⟨Nat.zero_le _, Nat.zero_le _⟩) hP hD hS hA [0, 1, 2, 3, 4, 5, 6, 7, 8, 9, 10, 11, 12, 13] [] rfl rfl (by decide) (by decide) (fun rr u1 H locs hw hP hD hS => ?_)
                obtain rfl := hw
                have hP : va_P D vwCl (mW5 cI cZ ad w h th n 1 po3 B ht dr wh3 sb3 V (va_up la (k + 1) po) sl3 we1 of1 Sn3 tp3 re) H := hP
                have hD : va_D A (mW5 cI cZ ad w h th n 1 po3 B ht dr wh3 sb3 V (va_up la (k + 1) po) sl3 we1 of1 Sn3 tp3 re) := hD
                refine b_if_ne (tgt := 265) hx hb dX5_lookAhead_244 (by decide) (fun c244_10 => ?_) (fun c244_10 => ?_)
                · skip
                  refine n_iinc (n := 1) (lv' := [(7, .int (nI (c + 1))), (5, .int (nI ((n + k) % 2))), (1, .int (nI E)), (0, .ref (ad 0)), (4, .int (nI k)), (6, .int (nI q))]) hx hb dX5_lookAhead_265 hl (k := 5) rfl (by decide) rfl (fun ls hl => ?_)
                  refine lv_goto (tgt := 213) hx hb dX5_lookAhead_268 (by decide) ?_
                  exact ih_213 (po3, wh3, sb3, sl3) ls _ _ ⟨hI_213.1.skip hsd3 (Or.inr (Or.inl (hwin.mp c244_10))), hI_213.2.1, hI_213.2.2.1, hI_213.2.2.2.1, hI_213.2.2.2.2⟩ hP hD hS (lv_sub hl [1, 2, 3, 4, 5, 0] rfl)
                have hnl : ¬ hasL w h (sq_put (MP w h B ht ((n + k) % 2) (wh3 q) (sb3 q)) c (tpE h ht (wh3 q) c)) := fun z => by have := hwin.mpr z; rw [c244_10] at this; cases this
                refine lv_iload hx hb dX5_lookAhead_247 (lv_at hl 3 rfl) ?_
                refine lv_iconst (v := nI 1) hx hb dX5_lookAhead_249 (by decide) ?_
                refine n_iadd hx hb dX5_lookAhead_250 ?_
                refine lv_iload_n hx hb dX5_lookAhead_251 rfl (lv_at hl 1 rfl) ?_
                refine n_icmp_ge (tgt := 265) hx hb dX5_lookAhead_252 (by decide) (by omega) (by omega) (fun c252_11 => ?_) (fun c252_11 => ?_)
                · skip
                  refine n_iinc (n := 1) (lv' := [(7, .int (nI (c + 1))), (5, .int (nI ((n + k) % 2))), (1, .int (nI E)), (0, .ref (ad 0)), (4, .int (nI k)), (6, .int (nI q))]) hx hb dX5_lookAhead_265 hl (k := 5) rfl (by decide) rfl (fun ls hl => ?_)
                  refine lv_goto (tgt := 213) hx hb dX5_lookAhead_268 (by decide) ?_
                  exact ih_213 (po3, wh3, sb3, sl3) ls _ _ ⟨hI_213.1.skip hsd3 (Or.inr (Or.inr (by omega))), hI_213.2.1, hI_213.2.2.1, hI_213.2.2.2.1, hI_213.2.2.2.2⟩ hP hD hS (lv_sub hl [1, 2, 3, 4, 5, 0] rfl)
                have hxx : of1 c + tp3 c - ht c = ofN h ht c + dgN h ht (wh3 q) c := by rw [hof c hi_213, htc]; unfold tpE; omega
                have hbd := BFA.bd R0 hI_213.1.1.1 hI_213.2.2.1 hsd3 hi_213 (by omega) hnl rfl (hwe c hi_213) hxx
                obtain ⟨j0, hj0⟩ := hI_213.1.1.1.1.stop (by omega) (wh3 q + we1 c) (sb3 q ||| (n + k) % 2 * 2 ^ (of1 c + tp3 c - ht c))
                by_cases hz : sl3 (prb (stB sl3 wh3 sb3 (wh3 q + we1 c) (sb3 q ||| (n + k) % 2 * 2 ^ (of1 c + tp3 c - ht c))) j0 (hsN (wh3 q + we1 c) (sb3 q ||| (n + k) % 2 * 2 ^ (of1 c + tp3 c - ht c)))) = 0
                · skip
                  refine lv_aload_n hx hb dX5_lookAhead_255 rfl (lv_at hl 2 rfl) ?_
                  refine lv_iload hx hb dX5_lookAhead_256 (lv_at hl 4 rfl) ?_
                  refine lv_iload hx hb dX5_lookAhead_258 (lv_at hl 5 rfl) ?_
                  refine lv_iload hx hb dX5_lookAhead_260 (lv_at hl 0 rfl) ?_
                  refine mu_callv (wr := []) (va_runV (As := [.int (nI q), .int (nI c), .int (nI ((n + k) % 2))]) (rest := []) ⟨hx, hb, hml, hown, hts⟩ (c5_add_new l D cI cJ cZ ad w h th n 1 po3 B ht dr wh3 sb3 V (va_up la (k + 1) po) sl3 we1 of1 Sn3 tp3 re q c ((n + k) % 2) _ hd (by omega) hi_213 (by rw [htc]; exact Nat.le_add_right _ _) (by have := hof12 c hi_213; have := dgN_lt h ht (wh3 q) c; unfold tpE at htc; omega) (by omega) hbd.1 hbd.2 hsl3 hwb3 hsb3 j0 hj0 hz (by omega)) (cwV 3 hts gX5_lookAhead_X5_add rfl rfl rfl (by decide +kernel) ⟨Nat.le_of_ble_eq_true rfl, Nat.le_of_ble_eq_true rfl⟩) ⟨MPc.blind, va_recv hK hP (ci := 5) (q0 := 0) rfl rfl, (MPc.at (hP.sub [0, 1, 2, 3, 4, 5, 6, 7, 8, 9, 10, 11, 12, 13] rfl) (hD.sub [0, 1, 2, 3, 4, 5, 6, 7, 8, 9, 10, 11, 12, 13] (by decide) rfl) hK hN)⟩ rfl rfl hl.1 rfl (lv_room (Nat.le_of_ble_eq_true rfl)) dX5_lookAhead_262 ⟨Nat.zero_le _, Nat.zero_le _⟩) hP hD hS hA [0, 1, 2, 3, 4, 5, 6, 7, 8, 9, 10, 11, 12, 13] [] rfl rfl (by decide) (by decide) (fun u1 H locs hw hP hD hS => ?_)
                  have hP : va_P D vwCl (mW5 cI cZ ad w h th n 1 (po3 + 1) B ht dr (va_up wh3 po3 (wh3 q + we1 c)) (va_up sb3 po3 (sb3 q ||| (n + k) % 2 * 2 ^ (of1 c + tp3 c - ht c))) V (va_up la (k + 1) po) (va_up sl3 (prb (stB sl3 wh3 sb3 (wh3 q + we1 c) (sb3 q ||| (n + k) % 2 * 2 ^ (of1 c + tp3 c - ht c))) j0 (hsN (wh3 q + we1 c) (sb3 q ||| (n + k) % 2 * 2 ^ (of1 c + tp3 c - ht c)))) (po3 + 1)) we1 of1 Sn3 tp3 re) H := hP
                  have hD : va_D A (mW5 cI cZ ad w h th n 1 (po3 + 1) B ht dr (va_up wh3 po3 (wh3 q + we1 c)) (va_up sb3 po3 (sb3 q ||| (n + k) % 2 * 2 ^ (of1 c + tp3 c - ht c))) V (va_up la (k + 1) po) (va_up sl3 (prb (stB sl3 wh3 sb3 (wh3 q + we1 c) (sb3 q ||| (n + k) % 2 * 2 ^ (of1 c + tp3 c - ht c))) j0 (hsN (wh3 q + we1 c) (sb3 q ||| (n + k) % 2 * 2 ^ (of1 c + tp3 c - ht c)))) (po3 + 1)) we1 of1 Sn3 tp3 re) := hD
                  refine n_iinc (n := 1) (lv' := [(7, .int (nI (c + 1))), (5, .int (nI ((n + k) % 2))), (1, .int (nI E)), (0, .ref (ad 0)), (4, .int (nI k)), (6, .int (nI q))]) hx hb dX5_lookAhead_265 hl (k := 5) rfl (by decide) rfl (fun ls hl => ?_)
                  refine lv_goto (tgt := 213) hx hb dX5_lookAhead_268 (by decide) ?_
                  exact ih_213 (po3 + 1, (va_up wh3 po3 (wh3 q + we1 c)), (va_up sb3 po3 (sb3 q ||| (n + k) % 2 * 2 ^ (of1 c + tp3 c - ht c))), (va_up sl3 (prb (stB sl3 wh3 sb3 (wh3 q + we1 c) (sb3 q ||| (n + k) % 2 * 2 ^ (of1 c + tp3 c - ht c))) j0 (hsN (wh3 q + we1 c) (sb3 q ||| (n + k) % 2 * 2 ^ (of1 c + tp3 c - ht c)))) (po3 + 1))) ls _ _ ⟨hI_213.1.add_new R0 hI_213.2.2.1 hsd3 (by omega) hi_213 (by omega) hnl rfl (hwe c hi_213) hxx hj0 hz, by omega, by omega, (vu_ne (by omega)).trans hI_213.2.2.2.1, (vu_ne (by omega)).trans hI_213.2.2.2.2⟩ hP hD hS (lv_sub hl [1, 2, 3, 4, 5, 0] rfl)
                refine lv_aload_n hx hb dX5_lookAhead_255 rfl (lv_at hl 2 rfl) ?_
                refine lv_iload hx hb dX5_lookAhead_256 (lv_at hl 4 rfl) ?_
                refine lv_iload hx hb dX5_lookAhead_258 (lv_at hl 5 rfl) ?_
                refine lv_iload hx hb dX5_lookAhead_260 (lv_at hl 0 rfl) ?_
                refine mu_callv (wr := []) (va_runV (As := [.int (nI q), .int (nI c), .int (nI ((n + k) % 2))]) (rest := []) ⟨hx, hb, hml, hown, hts⟩ (c5_add_old l D cI cJ cZ ad w h th n 1 po3 B ht dr wh3 sb3 V (va_up la (k + 1) po) sl3 we1 of1 Sn3 tp3 re q c ((n + k) % 2) _ hd (by omega) hi_213 (by rw [htc]; exact Nat.le_add_right _ _) (by have := hof12 c hi_213; have := dgN_lt h ht (wh3 q) c; unfold tpE at htc; omega) (by omega) hbd.1 hbd.2 hsl3 hwb3 hsb3 j0 hj0 hz) (cwV 3 hts gX5_lookAhead_X5_add rfl rfl rfl (by decide +kernel) ⟨Nat.le_of_ble_eq_true rfl, Nat.le_of_ble_eq_true rfl⟩) ⟨MPc.blind, va_recv hK hP (ci := 5) (q0 := 0) rfl rfl, (MPc.at (hP.sub [0, 1, 2, 3, 4, 5, 6, 7, 8, 9, 10, 11, 12, 13] rfl) (hD.sub [0, 1, 2, 3, 4, 5, 6, 7, 8, 9, 10, 11, 12, 13] (by decide) rfl) hK hN)⟩ rfl rfl hl.1 rfl (lv_room (Nat.le_of_ble_eq_true rfl)) dX5_lookAhead_262 ⟨Nat.zero_le _, Nat.zero_le _⟩) hP hD hS hA [0, 1, 2, 3, 4, 5, 6, 7, 8, 9, 10, 11, 12, 13] [] rfl rfl (by decide) (by decide) (fun u1 H locs hw hP hD hS => ?_)
                have hP : va_P D vwCl (mW5 cI cZ ad w h th n 1 po3 B ht dr wh3 sb3 V (va_up la (k + 1) po) sl3 we1 of1 Sn3 tp3 re) H := hP
                have hD : va_D A (mW5 cI cZ ad w h th n 1 po3 B ht dr wh3 sb3 V (va_up la (k + 1) po) sl3 we1 of1 Sn3 tp3 re) := hD
                refine n_iinc (n := 1) (lv' := [(7, .int (nI (c + 1))), (5, .int (nI ((n + k) % 2))), (1, .int (nI E)), (0, .ref (ad 0)), (4, .int (nI k)), (6, .int (nI q))]) hx hb dX5_lookAhead_265 hl (k := 5) rfl (by decide) rfl (fun ls hl => ?_)
                refine lv_goto (tgt := 213) hx hb dX5_lookAhead_268 (by decide) ?_
                exact ih_213 (po3, wh3, sb3, sl3) ls _ _ ⟨hI_213.1.add_old hsd3 rfl (hwe c hi_213) hxx hj0 hz, hI_213.2.1, hI_213.2.2.1, hI_213.2.2.2.1, hI_213.2.2.2.2⟩ hP hD hS (lv_sub hl [1, 2, 3, 4, 5, 0] rfl)
              · intro qx ls H locs hI_213 hP hD hS hl
                obtain ⟨po3, wh3, sb3, sl3⟩ := qx
                have hl : lv_has ls 10 [(5, .int (nI ((n + k) % 2))), (1, .int (nI E)), (0, .ref (ad 0)), (4, .int (nI k)), (6, .int (nI q)), (7, .int (nI w))] := hl
                have hP : va_P D vwCl (mW5 cI cZ ad w h th n 1 po3 B ht dr wh3 sb3 V (va_up la (k + 1) po) sl3 we1 of1 Sn3 tp3 re) H := hP
                have hD : va_D A (mW5 cI cZ ad w h th n 1 po3 B ht dr wh3 sb3 V (va_up la (k + 1) po) sl3 we1 of1 Sn3 tp3 re) := hD
                have hI_213 : J3 w h B ht n E k q w po3 wh3 sb3 (va_up la (k + 1) po) sl3 ∧ po ≤ po3 ∧ q < po3 ∧ wh3 q = wh2 q ∧ sb3 q = sb2 q := hI_213
                refine lv_iload hx hb dX5_lookAhead_213 (lv_at hl 5 rfl) ?_
                refine lv_aload_n hx hb dX5_lookAhead_215 rfl (lv_at hl 2 rfl) ?_
                refine va_get (C := RX5) (T := TX5) (N := 19) hx hb hts (by decide +kernel) hown hK hP 0 rfl rfl 1 (by decide) (hts (.fieldLink RX5 52 RX5 "w" "I") (by decide +kernel)) (fun _ h9 => h9) rfl dX5_lookAhead_216 ?_
                refine n_icmp_ge (tgt := 271) hx hb dX5_lookAhead_219 (by decide) (by omega) (by omega) (fun c219_12 => ?_) (fun c219_12 => ?_)
                · skip
                  refine n_iinc (n := 1) (lv' := [(6, .int (nI (q + 1))), (5, .int (nI ((n + k) % 2))), (1, .int (nI E)), (0, .ref (ad 0)), (4, .int (nI k)), (7, .int (nI w))]) hx hb dX5_lookAhead_271 hl (k := 4) rfl (by decide) rfl (fun ls hl => ?_)
                  refine lv_goto (tgt := 190) hx hb dX5_lookAhead_274 (by decide) ?_
                  exact ih_190 (po3, wh3, sb3, sl3, Sn3, tp3) ls _ _ ⟨hI_213.1.stop, hI_213.2.1, by omega⟩ hP hD hS (lv_sub hl [1, 2, 3, 4, 0] rfl)
                · exact absurd c219_12 (by omega)
            · intro qx ls H locs hI_190 hP hD hS hl
              obtain ⟨po2, wh2, sb2, sl2, Sn2, tp2⟩ := qx
              have hl : lv_has ls 10 [(5, .int (nI ((n + k) % 2))), (1, .int (nI E)), (0, .ref (ad 0)), (4, .int (nI k)), (6, .int (nI po))] := hl
              have hP : va_P D vwCl (mW5 cI cZ ad w h th n 1 po2 B ht dr wh2 sb2 V (va_up la (k + 1) po) sl2 we1 of1 Sn2 tp2 re) H := hP
              have hD : va_D A (mW5 cI cZ ad w h th n 1 po2 B ht dr wh2 sb2 V (va_up la (k + 1) po) sl2 we1 of1 Sn2 tp2 re) := hD
              have hI_190 : J2 w h B ht n E k po po2 wh2 sb2 (va_up la (k + 1) po) sl2 ∧ po ≤ po2 ∧ la k ≤ po := hI_190
              refine lv_iload hx hb dX5_lookAhead_190 (lv_at hl 4 rfl) ?_
              refine lv_aload_n hx hb dX5_lookAhead_192 rfl (lv_at hl 2 rfl) ?_
              refine va_get (C := RX5) (T := TX5) (N := 19) hx hb hts (by decide +kernel) hown hK hP 0 rfl rfl 12 (by decide) (hts (.fieldLink RX5 29 RX5 "layers" "[I") (by decide +kernel)) (fun _ h9 => h9) rfl dX5_lookAhead_193 ?_
              refine lv_iload hx hb dX5_lookAhead_196 (lv_at hl 3 rfl) ?_
              refine lv_iconst (v := nI 1) hx hb dX5_lookAhead_198 (by decide) ?_
              refine n_iadd hx hb dX5_lookAhead_199 ?_
              refine n_iald hx hb hK hP 7 0 rfl rfl (by omega) (by decide) dX5_lookAhead_200 ?_
              refine rt_i (v := nI po) (by rw [va_up_self]) ?_
              refine n_icmp_ge (tgt := 277) hx hb dX5_lookAhead_201 (by decide) (by omega) (by omega) (fun c201_13 => ?_) (fun c201_13 => ?_)
              · skip
                refine n_iinc (n := 1) (lv' := [(4, .int (nI (k + 1))), (5, .int (nI ((n + k) % 2))), (1, .int (nI E)), (0, .ref (ad 0)), (6, .int (nI po))]) hx hb dX5_lookAhead_277 hl (k := 3) rfl (by decide) rfl (fun ls hl => ?_)
                refine lv_goto (tgt := 151) hx hb dX5_lookAhead_280 (by decide) ?_
                exact ih_151 (po2, wh2, sb2, (va_up la (k + 1) po), sl2, Sn2, tp2) ls _ _ (by have := J2.layer (la := va_up la (k + 1) po) (by rw [va_up_self]; exact hI_190.1); exact this) hP hD hS (lv_sub hl [2, 3, 0] rfl)
              · exact absurd c201_13 (by omega)
          · intro qx ls H locs hI_151 hP hD hS hl
            obtain ⟨po, wh, sb, la, sl, Sn, tp⟩ := qx
            have hl : lv_has ls 10 [(1, .int (nI E)), (0, .ref (ad 0)), (4, .int (nI E))] := hl
            have hP : va_P D vwCl (mW5 cI cZ ad w h th n 1 po B ht dr wh sb V la sl we1 of1 Sn tp re) H := hP
            have hD : va_D A (mW5 cI cZ ad w h th n 1 po B ht dr wh sb V la sl we1 of1 Sn tp re) := hD
            have hI_151 : J1 w h B ht n E E po wh sb la sl := hI_151
            have hJ := hI_151
            have hLa := hI_151.2.1
            refine lv_iload hx hb dX5_lookAhead_151 (lv_at hl 2 rfl) ?_
            refine lv_iload_n hx hb dX5_lookAhead_153 rfl (lv_at hl 0 rfl) ?_
            refine n_icmp_ge (tgt := 283) hx hb dX5_lookAhead_154 (by decide) (by omega) (by omega) (fun c154_14 => ?_) (fun c154_14 => ?_)
            · skip
              refine lv_iload_n hx hb dX5_lookAhead_283 rfl (lv_at hl 0 rfl) ?_
              refine lv_iconst (v := nI 1) hx hb dX5_lookAhead_284 (by decide) ?_
              refine n_isub hx hb dX5_lookAhead_285 (by omega) ?_
              refine lv_istore (lv' := [(4, .int (nI (E - 1))), (1, .int (nI E)), (0, .ref (ad 0))]) hx hb dX5_lookAhead_286 hl (by decide) rfl (fun ls hl => ?_)
              rw [show nI (E - 1) = zI ((E : Int) - 1 - ((0 : Nat) : Int)) from by rw [← zI_n]; congr 1; omega] at hl
              refine loopH (σ := (Nat → Int32) × (Nat → Int32) × (Nat → Nat)) (m := m) (Wf := fun H locs g => W p l e _ s m _ below meth cd H locs _ _ _ g) 288 10 (fun i qx => [(1, .int (nI E)), (0, .ref (ad 0)), (4, .int (zI ((E : Int) - 1 - ((i : Nat) : Int))))]) (fun i qx => (mW5 cI cZ ad w h th n 1 po B ht dr wh sb qx.1 la sl we1 of1 qx.2.1 qx.2.2 re)) (fun i qx => VdA w h B ht n E po wh sb qx.1 (E - i)) E ?_ ?_ 0 (V, Sn, tp) ls _ _ (by omega) (fun j hj z => absurd (hJ.all j hj).1 (by omega)) hP hD hS (lv_sub hl [1, 2, 0] rfl)
              · intro i qx ls H locs hi_288 hI_288 hP hD hS hl ih_288
                obtain ⟨V, Sn, tp⟩ := qx
                have hl : lv_has ls 10 [(1, .int (nI E)), (0, .ref (ad 0)), (4, .int (zI ((E : Int) - 1 - ((i : Nat) : Int))))] := hl
                have hP : va_P D vwCl (mW5 cI cZ ad w h th n 1 po B ht dr wh sb V la sl we1 of1 Sn tp re) H := hP
                have hD : va_D A (mW5 cI cZ ad w h th n 1 po B ht dr wh sb V la sl we1 of1 Sn tp re) := hD
                have hI_288 : VdA w h B ht n E po wh sb V (E - i) := hI_288
                refine lv_iload hx hb dX5_lookAhead_288 (lv_at hl 2 rfl) ?_
                refine z_if_lt (tgt := 446) hx hb dX5_lookAhead_290 (by decide) (by unfold zB; omega) (fun c290_15 => ?_) (fun c290_15 => ?_)
                · exact absurd c290_15 (by omega)
                obtain ⟨k, hk⟩ : ∃ k, k = E - 1 - i := ⟨_, rfl⟩
                rw [show zI ((E : Int) - 1 - ((i : Nat) : Int)) = nI k from by rw [← zI_n]; congr 1; omega] at hl
                have hV1 : VdA w h B ht n E po wh sb V (k + 1) := by rw [show k + 1 = E - i by omega]; exact hI_288
                have hfw := hJ.1.few R0
                have hlp := (hLa (k + 1) (by omega)).1
                have hlk := (hLa k (by omega)).1
                refine lv_aload_n hx hb dX5_lookAhead_293 rfl (lv_at hl 1 rfl) ?_
                refine va_get (C := RX5) (T := TX5) (N := 19) hx hb hts (by decide +kernel) hown hK hP 0 rfl rfl 6 (by decide) (hts (.fieldLink RX5 70 RX5 "n" "I") (by decide +kernel)) (fun _ h9 => h9) rfl dX5_lookAhead_294 ?_
                refine lv_iload hx hb dX5_lookAhead_297 (lv_at hl 2 rfl) ?_
                refine n_iadd hx hb dX5_lookAhead_299 ?_
                refine lv_iconst (v := nI 2) hx hb dX5_lookAhead_300 (by decide) ?_
                refine n_irem hx hb dX5_lookAhead_301 (by omega) (by omega) (by omega) ?_
                refine lv_istore (lv' := [(5, .int (nI ((n + k) % 2))), (1, .int (nI E)), (0, .ref (ad 0)), (4, .int (nI k))]) hx hb dX5_lookAhead_302 hl (by decide) rfl (fun ls hl => ?_)
                refine lv_aload_n hx hb dX5_lookAhead_304 rfl (lv_at hl 2 rfl) ?_
                refine va_get (C := RX5) (T := TX5) (N := 19) hx hb hts (by decide +kernel) hown hK hP 0 rfl rfl 12 (by decide) (hts (.fieldLink RX5 29 RX5 "layers" "[I") (by decide +kernel)) (fun _ h9 => h9) rfl dX5_lookAhead_305 ?_
                refine lv_iload hx hb dX5_lookAhead_308 (lv_at hl 3 rfl) ?_
                refine n_iald hx hb hK hP 7 0 rfl rfl (by omega) (by decide) dX5_lookAhead_310 ?_
                refine lv_istore (lv' := [(6, .int (nI (la k))), (5, .int (nI ((n + k) % 2))), (1, .int (nI E)), (0, .ref (ad 0)), (4, .int (nI k))]) hx hb dX5_lookAhead_311 hl (by decide) rfl (fun ls hl => ?_)
                refine loopH (σ := (Nat → Int32) × (Nat → Int32) × (Nat → Nat)) (m := m) (Wf := fun H locs g => W p l e _ s m _ below meth cd H locs _ _ _ g) 313 10 (fun i qx => [(5, .int (nI ((n + k) % 2))), (1, .int (nI E)), (0, .ref (ad 0)), (4, .int (nI k)), (6, .int (nI i))]) (fun i qx => (mW5 cI cZ ad w h th n 1 po B ht dr wh sb qx.1 la sl we1 of1 qx.2.1 qx.2.2 re)) (fun i qx => VdQ w h B ht n E po wh sb qx.1 k i ∧ la k ≤ i) (la (k + 1)) ?_ ?_ (la k) (V, Sn, tp) ls _ _ (hLa.mono (by omega)) ⟨hV1.layer hLa (by omega), Nat.le_refl _⟩ hP hD hS (lv_sub hl [1, 2, 3, 4, 0] rfl)
                · intro q qx ls H locs hi_313 hI_313 hP hD hS hl ih_313
                  obtain ⟨V2, Sn2, tp2⟩ := qx
                  have hl : lv_has ls 10 [(5, .int (nI ((n + k) % 2))), (1, .int (nI E)), (0, .ref (ad 0)), (4, .int (nI k)), (6, .int (nI q))] := hl
                  have hP : va_P D vwCl (mW5 cI cZ ad w h th n 1 po B ht dr wh sb V2 la sl we1 of1 Sn2 tp2 re) H := hP
                  have hD : va_D A (mW5 cI cZ ad w h th n 1 po B ht dr wh sb V2 la sl we1 of1 Sn2 tp2 re) := hD
                  have hI_313 : VdQ w h B ht n E po wh sb V2 k q ∧ la k ≤ q := hI_313
                  obtain ⟨hq2, hsd2⟩ := hLa.sd (k := k) (by omega) hI_313.2 hi_313
                  have hwb2 : ∀ j, wh j < 2 ^ 31 := fun j => Nat.lt_of_lt_of_le (hJ.1.2.2.2.2.1 j) (by decide)
                  have hsb2 : ∀ j, sb j < 2 ^ 31 := fun j => Nat.lt_of_lt_of_le (hJ.1.2.2.2.2.2.1 j) (by decide)
                  have hsl2 : ∀ a, sl a ≤ 70000 := fun a => by have := hJ.1.1.1 a; omega
                  have hent0 := hJ.1.2.2.2.1 q hq2
                  have hent := hent0
                  rw [hsd2] at hent
                  have hV2 : VdA w h B ht n E po wh sb V2 (k + 1) := fun j hj z => hI_313.1 j hj (Or.inl z)
                  refine lv_iload hx hb dX5_lookAhead_313 (lv_at hl 4 rfl) ?_
                  refine lv_aload_n hx hb dX5_lookAhead_315 rfl (lv_at hl 2 rfl) ?_
                  refine va_get (C := RX5) (T := TX5) (N := 19) hx hb hts (by decide +kernel) hown hK hP 0 rfl rfl 12 (by decide) (hts (.fieldLink RX5 29 RX5 "layers" "[I") (by decide +kernel)) (fun _ h9 => h9) rfl dX5_lookAhead_316 ?_
                  refine lv_iload hx hb dX5_lookAhead_319 (lv_at hl 3 rfl) ?_
                  refine lv_iconst (v := nI 1) hx hb dX5_lookAhead_321 (by decide) ?_
                  refine n_iadd hx hb dX5_lookAhead_322 ?_
                  refine n_iald hx hb hK hP 7 0 rfl rfl (by omega) (by decide) dX5_lookAhead_323 ?_
                  refine n_icmp_ge (tgt := 440) hx hb dX5_lookAhead_324 (by decide) (by omega) (by omega) (fun c324_16 => ?_) (fun c324_16 => ?_)
                  · exact absurd c324_16 (by omega)
                  refine lv_aload_n hx hb dX5_lookAhead_327 rfl (lv_at hl 2 rfl) ?_
                  refine lv_iload hx hb dX5_lookAhead_328 (lv_at hl 4 rfl) ?_
                  refine mu_callv (wr := []) (va_runV (As := [.int (nI q)]) (rest := []) ⟨hx, hb, hml, hown, hts⟩ (c5_show l D cI cJ cZ ad w h th n 1 po B ht dr wh sb V2 la sl we1 of1 Sn2 tp2 re q _ hd (by omega) R0.2.1 hofs hwb2 hsb2) (cwV 1 hts gX5_lookAhead_X5_show rfl rfl rfl (by decide +kernel) ⟨Nat.le_of_ble_eq_true rfl, Nat.le_of_ble_eq_true rfl⟩) ⟨MPc.blind, va_recv hK hP (ci := 5) (q0 := 0) rfl rfl, (MPc.at (hP.sub [0, 1, 2, 3, 4, 5, 6, 7, 8, 9, 10, 11, 12, 13] rfl) (hD.sub [0, 1, 2, 3, 4, 5, 6, 7, 8, 9, 10, 11, 12, 13] (by decide) rfl) hK hN)⟩ rfl rfl hl.1 rfl (lv_room (Nat.le_of_ble_eq_true rfl)) dX5_lookAhead_330 ⟨Nat.zero_le _, Nat.zero_le _⟩) hP hD hS hA [0, 1, 2, 3, 4, 5, 6, 7, 8, 9, 10, 11, 12, 13] [] rfl rfl (by decide) (by decide) (fun u1 H locs hw hP hD hS => ?_)
                  have hP : va_P D vwCl (mW5 cI cZ ad w h th n 1 po B ht dr wh sb V2 la sl we1 of1 (shS h B ht of1 (wh q) (sb q) Sn2 w) (tpS h ht tp2 (wh q) w) re) H := hP
                  have hD : va_D A (mW5 cI cZ ad w h th n 1 po B ht dr wh sb V2 la sl we1 of1 (shS h B ht of1 (wh q) (sb q) Sn2 w) (tpS h ht tp2 (wh q) w) re) := hD
                  obtain ⟨Sn3, eSn⟩ : ∃ f, f = (shS h B ht of1 (wh q) (sb q) Sn2 w) := ⟨_, rfl⟩
                  rw [← eSn] at hP hD
                  obtain ⟨tp3, etp⟩ : ∃ f, f = (tpS h ht tp2 (wh q) w) := ⟨_, rfl⟩
                  rw [← etp] at hP hD
                  have htp3 : ∀ c, c < w → tp3 c = tpE h ht (wh q) c := fun c hc => by rw [etp]; exact if_pos hc
                  refine lv_sipush (v := -999) hx hb dX5_lookAhead_333 (by decide) ?_
                  refine lv_istore (lv' := [(7, .int (-999)), (5, .int (nI ((n + k) % 2))), (1, .int (nI E)), (0, .ref (ad 0)), (4, .int (nI k)), (6, .int (nI q))]) hx hb dX5_lookAhead_336 hl (by decide) rfl (fun ls hl => ?_)
                  refine lv_iconst (v := nI 0) hx hb dX5_lookAhead_338 (by decide) ?_
                  refine lv_istore (lv' := [(8, .int (nI 0)), (7, .int (-999)), (5, .int (nI ((n + k) % 2))), (1, .int (nI E)), (0, .ref (ad 0)), (4, .int (nI k)), (6, .int (nI q))]) hx hb dX5_lookAhead_339 hl (by decide) rfl (fun ls hl => ?_)
                  refine loopH (σ := Int) (m := m) (Wf := fun H locs g => W p l e _ s m _ below meth cd H locs _ _ _ g) 341 10 (fun i qx => [(5, .int (nI ((n + k) % 2))), (1, .int (nI E)), (0, .ref (ad 0)), (4, .int (nI k)), (6, .int (nI q)), (8, .int (nI i)), (7, .int (zI qx))]) (fun i qx => (mW5 cI cZ ad w h th n 1 po B ht dr wh sb V2 la sl we1 of1 Sn3 tp3 re)) (fun i qx => bsI w h B ht n E (wh q) (sb q) i qx) w ?_ ?_ 0 (-999) ls _ _ (by omega) (bsI.start w h B ht n E (wh q) (sb q)) hP hD hS (lv_sub hl [2, 3, 4, 5, 6, 0, 1] rfl)
                  · intro c qx ls H locs hi_341 hI_341 hP hD hS hl ih_341
                    obtain ⟨bz, rfl⟩ : ∃ z, z = qx := ⟨_, rfl⟩
                    have hl : lv_has ls 10 [(5, .int (nI ((n + k) % 2))), (1, .int (nI E)), (0, .ref (ad 0)), (4, .int (nI k)), (6, .int (nI q)), (8, .int (nI c)), (7, .int (zI bz))] := hl
                    have hP : va_P D vwCl (mW5 cI cZ ad w h th n 1 po B ht dr wh sb V2 la sl we1 of1 Sn3 tp3 re) H := hP
                    have hD : va_D A (mW5 cI cZ ad w h th n 1 po B ht dr wh sb V2 la sl we1 of1 Sn3 tp3 re) := hD
                    have hI_341 : bsI w h B ht n E (wh q) (sb q) c bz := hI_341
                    have htc := htp3 c hi_341
                    have htl : tpE h ht (wh q) c ≤ h := by have := dgN_lt h ht (wh q) c; have := hht c; unfold tpE; omega
                    have hbb := hI_341.bd (by omega) R0.2.2.2.2
                    refine lv_iload hx hb dX5_lookAhead_341 (lv_at hl 5 rfl) ?_
                    refine lv_aload_n hx hb dX5_lookAhead_343 rfl (lv_at hl 2 rfl) ?_
                    refine va_get (C := RX5) (T := TX5) (N := 19) hx hb hts (by decide +kernel) hown hK hP 0 rfl rfl 1 (by decide) (hts (.fieldLink RX5 52 RX5 "w" "I") (by decide +kernel)) (fun _ h9 => h9) rfl dX5_lookAhead_344 ?_
                    refine n_icmp_ge (tgt := 425) hx hb dX5_lookAhead_347 (by decide) (by omega) (by omega) (fun c347_17 => ?_) (fun c347_17 => ?_)
                    · exact absurd c347_17 (by omega)
                    refine lv_aload_n hx hb dX5_lookAhead_350 rfl (lv_at hl 2 rfl) ?_
                    refine va_get (C := RX5) (T := TX5) (N := 19) hx hb hts (by decide +kernel) hown hK hP 0 rfl rfl 17 (by decide) (hts (.fieldLink RX5 45 RX5 "tops" "[I") (by decide +kernel)) (fun _ h9 => h9) rfl dX5_lookAhead_351 ?_
                    refine lv_iload hx hb dX5_lookAhead_354 (lv_at hl 5 rfl) ?_
                    refine n_iald hx hb hK hP 12 0 rfl rfl (by omega) (by decide) dX5_lookAhead_356 ?_
                    refine rt_i (v := nI (tpE h ht (wh q) c)) (by rw [htc]) ?_
                    refine lv_aload_n hx hb dX5_lookAhead_357 rfl (lv_at hl 2 rfl) ?_
                    refine va_get (C := RX5) (T := TX5) (N := 19) hx hb hts (by decide +kernel) hown hK hP 0 rfl rfl 2 (by decide) (hts (.fieldLink RX5 56 RX5 "h" "I") (by decide +kernel)) (fun _ h9 => h9) rfl dX5_lookAhead_358 ?_
                    refine n_icmp_ge (tgt := 419) hx hb dX5_lookAhead_361 (by decide) (by omega) (by omega) (fun c361_18 => ?_) (fun c361_18 => ?_)
                    · skip
                      refine n_iinc (n := 1) (lv' := [(8, .int (nI (c + 1))), (5, .int (nI ((n + k) % 2))), (1, .int (nI E)), (0, .ref (ad 0)), (4, .int (nI k)), (6, .int (nI q)), (7, .int (zI bz))]) hx hb dX5_lookAhead_419 hl (k := 5) rfl (by decide) rfl (fun ls hl => ?_)
                      refine lv_goto (tgt := 341) hx hb dX5_lookAhead_422 (by decide) ?_
                      exact ih_341 bz ls _ _ (hI_341.skip (by omega)) hP hD hS (lv_sub hl [1, 2, 3, 4, 5, 0, 6] rfl)
                    have hlt3 : tp3 c < h := by rw [htc]; omega
                    have hlt4 : tpE h ht (wh q) c < h := by omega
                    have hsn3 : Sn3 (7 * c + tp3 c) = -1 := by rw [eSn, htc]; exact ent_seen R0 hof hi_341 hlt4
                    have hwin : wnB w h (upd Sn3 (7 * c + tp3 c) (nI ((n + k) % 2))) c (tp3 c) = true ↔ hasL w h (sq_put (MP w h B ht ((n + k) % 2) (wh q) (sb q)) c (tpE h ht (wh q) c)) := by
                      rw [eSn, htc]; exact ent_win R0 hof (by omega) hent.2.2.2.2.2.2.2.2.1 hi_341 hlt4
                    obtain ⟨v, hv⟩ : ∃ v, v = s2v (E - sdN w h ht (wh q)) (evM w h B ht n E (wh q) (sb q) c) := ⟨_, rfl⟩
                    have hvb : -13 ≤ v ∧ v ≤ 13 := by
                      have b2 := evM_bd (w := w) (h := h) (B := B) (ht := ht) (n := n) (E := E) (W0 := wh q) (by omega) (sb q) c
                      have := s2v_bd b2.1 b2.2; omega
                    refine lv_aload_n hx hb dX5_lookAhead_364 rfl (lv_at hl 2 rfl) ?_
                    refine lv_iload hx hb dX5_lookAhead_365 (lv_at hl 4 rfl) ?_
                    refine lv_iload hx hb dX5_lookAhead_367 (lv_at hl 5 rfl) ?_
                    refine lv_iload hx hb dX5_lookAhead_369 (lv_at hl 0 rfl) ?_
                    refine lv_iload hx hb dX5_lookAhead_371 (lv_at hl 3 rfl) ?_
                    refine lv_iload_n hx hb dX5_lookAhead_373 rfl (lv_at hl 1 rfl) ?_
                    refine lv_iconst (v := nI 1) hx hb dX5_lookAhead_374 (by decide) ?_
                    refine n_isub hx hb dX5_lookAhead_375 (by omega) ?_
                    refine n_icmp_ne (tgt := 383) hx hb dX5_lookAhead_376 (by decide) (by omega) (by omega) (fun c376_19 => ?_) (fun c376_19 => ?_)
                    · skip
                      refine lv_iconst (v := nI 0) hx hb dX5_lookAhead_383 (by decide) ?_
                      refine rt_i (v := bI false) rfl ?_
                      by_cases hwn : wnB w h (upd Sn3 (7 * c + tp3 c) (nI ((n + k) % 2))) c (tp3 c) = true
                      · skip
                        refine mu_calli (wr := []) (va_runV (As := [.int (nI q), .int (nI c), .int (nI ((n + k) % 2)), .int (bI false)]) (rest := []) ⟨hx, hb, hml, hown, hts⟩ (c5_vb_win l D cI cJ cZ ad w h th n 1 po B ht dr wh sb V2 la sl we1 of1 Sn3 tp3 re q c ((n + k) % 2) false _ hd hi_341 hlt3 hsn3 hwn) (cwV 4 hts gX5_lookAhead_X5_valueBehind rfl rfl rfl (by decide +kernel) ⟨Nat.le_of_ble_eq_true rfl, Nat.le_of_ble_eq_true rfl⟩) ⟨MPc.blind, va_recv hK hP (ci := 5) (q0 := 0) rfl rfl, (MPc.at (hP.sub [0, 1, 2, 3, 4, 5, 6, 7, 8, 9, 10, 11, 12, 13] rfl) (hD.sub [0, 1, 2, 3, 4, 5, 6, 7, 8, 9, 10, 11, 12, 13] (by decide) rfl) hK hN)⟩ rfl rfl hl.1 rfl (lv_room (Nat.le_of_ble_eq_true rfl)) dX5_lookAhead_384 ⟨Nat.zero_le _, Nat.zero_le _⟩) hP hD hS hA [0, 1, 2, 3, 4, 5, 6, 7, 8, 9, 10, 11, 12, 13] [] rfl rfl (by decide) (by decide) (fun rr u1 H locs hw hP hD hS => ?_)
                        obtain rfl := hw
                        have hP : va_P D vwCl (mW5 cI cZ ad w h th n 1 po B ht dr wh sb V2 la sl we1 of1 Sn3 tp3 re) H := hP
                        have hD : va_D A (mW5 cI cZ ad w h th n 1 po B ht dr wh sb V2 la sl we1 of1 Sn3 tp3 re) := hD
                        refine rt_i (v := zI v) (by rw [hv, ← vb_win_is (by omega) (by rw [hsd2]; exact hwin.mp hwn)]) ?_
                        refine lv_istore (lv' := [(9, .int (zI v)), (5, .int (nI ((n + k) % 2))), (1, .int (nI E)), (0, .ref (ad 0)), (4, .int (nI k)), (6, .int (nI q)), (8, .int (nI c)), (7, .int (zI bz))]) hx hb dX5_lookAhead_387 hl (by decide) rfl (fun ls hl => ?_)
                        refine lv_iload hx hb dX5_lookAhead_389 (lv_at hl 7 rfl) ?_
                        refine lv_sipush (v := -999) hx hb dX5_lookAhead_391 (by decide) ?_
                        refine rt_2 (a := zI bz) (b := zI (-999)) rfl rfl ?_
                        refine z_icmp_eq (tgt := 410) hx hb dX5_lookAhead_394 (by decide) (by unfold zB; omega) (by unfold zB; omega) (fun c394_20 => ?_) (fun c394_20 => ?_)
                        · skip
                          refine lv_iload hx hb dX5_lookAhead_410 (lv_at hl 0 rfl) ?_
                          refine lv_goto (tgt := 417) hx hb dX5_lookAhead_412 (by decide) ?_
                          refine lv_istore (lv' := [(7, .int (zI v)), (9, .int (zI v)), (5, .int (nI ((n + k) % 2))), (1, .int (nI E)), (0, .ref (ad 0)), (4, .int (nI k)), (6, .int (nI q)), (8, .int (nI c))]) hx hb dX5_lookAhead_417 hl (by decide) rfl (fun ls hl => ?_)
                          refine n_iinc (n := 1) (lv' := [(8, .int (nI (c + 1))), (7, .int (zI v)), (9, .int (zI v)), (5, .int (nI ((n + k) % 2))), (1, .int (nI E)), (0, .ref (ad 0)), (4, .int (nI k)), (6, .int (nI q))]) hx hb dX5_lookAhead_419 hl (k := 7) rfl (by decide) rfl (fun ls hl => ?_)
                          refine lv_goto (tgt := 341) hx hb dX5_lookAhead_422 (by decide) ?_
                          exact ih_341 v ls _ _ (hI_341.first (by omega) R0.2.2.2.2 c394_20 (by omega) hv) hP hD hS (lv_sub hl [3, 4, 5, 6, 7, 0, 1] rfl)
                        refine lv_iload hx hb dX5_lookAhead_397 (lv_at hl 0 rfl) ?_
                        refine ro_call (W.runS (As := [.int (zI v)]) (rest := []) ⟨hx, hb, hml, hown, hts⟩ (c_rank l D cI cJ cZ v (by omega) (by omega)) (va_cwS 1 hts gX5_lookAhead_X5_rank rfl rfl rfl (by decide +kernel) ⟨Nat.le_of_ble_eq_true rfl, Nat.le_of_ble_eq_true rfl⟩) ⟨RPc.blind, (RPc.at (hP.sub [] rfl) hK hN)⟩ rfl rfl hl.1 rfl (lv_room (Nat.le_of_ble_eq_true rfl)) dX5_lookAhead_399 ⟨Nat.zero_le _, Nat.zero_le _⟩) ?_
                        refine lv_iload hx hb dX5_lookAhead_402 (lv_at hl 7 rfl) ?_
                        refine ro_call (W.runS (As := [.int (zI bz)]) (rest := [.int (zI (rkZ v))]) ⟨hx, hb, hml, hown, hts⟩ (c_rank l D cI cJ cZ bz (by omega) (by omega)) (va_cwS 1 hts gX5_lookAhead_X5_rank rfl rfl rfl (by decide +kernel) ⟨Nat.le_of_ble_eq_true rfl, Nat.le_of_ble_eq_true rfl⟩) ⟨RPc.blind, (RPc.at (hP.sub [] rfl) hK hN)⟩ rfl rfl hl.1 rfl (lv_room (Nat.le_of_ble_eq_true rfl)) dX5_lookAhead_404 ⟨Nat.zero_le _, Nat.zero_le _⟩) ?_
                        refine z_icmp_le (tgt := 415) hx hb dX5_lookAhead_407 (by decide) (rk_zB (by omega) (by omega)) (rk_zB (by omega) (by omega)) (fun c407_21 => ?_) (fun c407_21 => ?_)
                        · skip
                          refine lv_iload hx hb dX5_lookAhead_415 (lv_at hl 7 rfl) ?_
                          refine lv_istore (lv' := [(7, .int (zI bz)), (9, .int (zI v)), (5, .int (nI ((n + k) % 2))), (1, .int (nI E)), (0, .ref (ad 0)), (4, .int (nI k)), (6, .int (nI q)), (8, .int (nI c))]) hx hb dX5_lookAhead_417 hl (by decide) rfl (fun ls hl => ?_)
                          refine n_iinc (n := 1) (lv' := [(8, .int (nI (c + 1))), (7, .int (zI bz)), (9, .int (zI v)), (5, .int (nI ((n + k) % 2))), (1, .int (nI E)), (0, .ref (ad 0)), (4, .int (nI k)), (6, .int (nI q))]) hx hb dX5_lookAhead_419 hl (k := 7) rfl (by decide) rfl (fun ls hl => ?_)
                          refine lv_goto (tgt := 341) hx hb dX5_lookAhead_422 (by decide) ?_
                          exact ih_341 bz ls _ _ (by have := hI_341.more (by omega) R0.2.2.2.2 c394_20 (by omega) hv; rw [if_neg (by omega)] at this; exact this) hP hD hS (lv_sub hl [3, 4, 5, 6, 7, 0, 1] rfl)
                        refine lv_iload hx hb dX5_lookAhead_410 (lv_at hl 0 rfl) ?_
                        refine lv_goto (tgt := 417) hx hb dX5_lookAhead_412 (by decide) ?_
                        refine lv_istore (lv' := [(7, .int (zI v)), (9, .int (zI v)), (5, .int (nI ((n + k) % 2))), (1, .int (nI E)), (0, .ref (ad 0)), (4, .int (nI k)), (6, .int (nI q)), (8, .int (nI c))]) hx hb dX5_lookAhead_417 hl (by decide) rfl (fun ls hl => ?_)
                        refine n_iinc (n := 1) (lv' := [(8, .int (nI (c + 1))), (7, .int (zI v)), (9, .int (zI v)), (5, .int (nI ((n + k) % 2))), (1, .int (nI E)), (0, .ref (ad 0)), (4, .int (nI k)), (6, .int (nI q))]) hx hb dX5_lookAhead_419 hl (k := 7) rfl (by decide) rfl (fun ls hl => ?_)
                        refine lv_goto (tgt := 341) hx hb dX5_lookAhead_422 (by decide) ?_
                        exact ih_341 v ls _ _ (by have := hI_341.more (by omega) R0.2.2.2.2 c394_20 (by omega) hv; rw [if_pos (by omega)] at this; exact this) hP hD hS (lv_sub hl [3, 4, 5, 6, 7, 0, 1] rfl)
                      have hnl : ¬ hasL w h (sq_put (MP w h B ht ((n + k) % 2) (wh q) (sb q)) c (tpE h ht (wh q) c)) := fun z => hwn (hwin.mpr z)
                      rw [Bool.not_eq_true] at hwn
                      have hxx : of1 c + tp3 c - ht c = ofN h ht c + dgN h ht (wh q) c := by rw [hof c hi_341, htc]; unfold tpE; omega
                      have hbd := BFA.bd R0 hJ.1 hq2 hsd2 hi_341 hlt4 hnl rfl (hwe c hi_341) hxx
                      obtain ⟨j0, hj0⟩ := hJ.1.1.stop (by omega) (wh q + we1 c) (sb q ||| (n + k) % 2 * 2 ^ (of1 c + tp3 c - ht c))
                      obtain ⟨hs1, zz, hzV, hz1, hz2, hz3⟩ := BFA.kid2 (V := V2) R0 hJ.1 hq2 hsd2 (by omega) (hJ.all q hq2).2 hV2 hi_341 hlt4 hnl rfl (hwe c hi_341) hxx hj0
                      refine mu_calli (wr := []) (va_runV (As := [.int (nI q), .int (nI c), .int (nI ((n + k) % 2)), .int (bI false)]) (rest := []) ⟨hx, hb, hml, hown, hts⟩ (c5_vb_go l D cI cJ cZ ad w h th n 1 po B ht dr wh sb V2 la sl we1 of1 Sn3 tp3 re q c ((n + k) % 2) zz _ hd hi_341 hlt3 hsn3 hwn (by omega) (by rw [htc]; exact Nat.le_add_right _ _) (by have := hof12 c hi_341; have := dgN_lt h ht (wh q) c; unfold tpE at htc; omega) (by omega) hbd.1 hbd.2 hsl2 hwb2 hsb2 j0 hj0 hs1 hzV hz1 hz2) (cwV 4 hts gX5_lookAhead_X5_valueBehind rfl rfl rfl (by decide +kernel) ⟨Nat.le_of_ble_eq_true rfl, Nat.le_of_ble_eq_true rfl⟩) ⟨MPc.blind, va_recv hK hP (ci := 5) (q0 := 0) rfl rfl, (MPc.at (hP.sub [0, 1, 2, 3, 4, 5, 6, 7, 8, 9, 10, 11, 12, 13] rfl) (hD.sub [0, 1, 2, 3, 4, 5, 6, 7, 8, 9, 10, 11, 12, 13] (by decide) rfl) hK hN)⟩ rfl rfl hl.1 rfl (lv_room (Nat.le_of_ble_eq_true rfl)) dX5_lookAhead_384 ⟨Nat.zero_le _, Nat.zero_le _⟩) hP hD hS hA [0, 1, 2, 3, 4, 5, 6, 7, 8, 9, 10, 11, 12, 13] [] rfl rfl (by decide) (by decide) (fun rr u1 H locs hw hP hD hS => ?_)
                      obtain rfl := hw
                      have hP : va_P D vwCl (mW5 cI cZ ad w h th n 1 po B ht dr wh sb V2 la sl we1 of1 Sn3 tp3 re) H := hP
                      have hD : va_D A (mW5 cI cZ ad w h th n 1 po B ht dr wh sb V2 la sl we1 of1 Sn3 tp3 re) := hD
                      refine rt_i (v := zI v) (by rw [hv, hz3, hsd2]) ?_
                      refine lv_istore (lv' := [(9, .int (zI v)), (5, .int (nI ((n + k) % 2))), (1, .int (nI E)), (0, .ref (ad 0)), (4, .int (nI k)), (6, .int (nI q)), (8, .int (nI c)), (7, .int (zI bz))]) hx hb dX5_lookAhead_387 hl (by decide) rfl (fun ls hl => ?_)
                      refine lv_iload hx hb dX5_lookAhead_389 (lv_at hl 7 rfl) ?_
                      refine lv_sipush (v := -999) hx hb dX5_lookAhead_391 (by decide) ?_
                      refine rt_2 (a := zI bz) (b := zI (-999)) rfl rfl ?_
                      refine z_icmp_eq (tgt := 410) hx hb dX5_lookAhead_394 (by decide) (by unfold zB; omega) (by unfold zB; omega) (fun c394_22 => ?_) (fun c394_22 => ?_)
                      · skip
                        refine lv_iload hx hb dX5_lookAhead_410 (lv_at hl 0 rfl) ?_
                        refine lv_goto (tgt := 417) hx hb dX5_lookAhead_412 (by decide) ?_
                        refine lv_istore (lv' := [(7, .int (zI v)), (9, .int (zI v)), (5, .int (nI ((n + k) % 2))), (1, .int (nI E)), (0, .ref (ad 0)), (4, .int (nI k)), (6, .int (nI q)), (8, .int (nI c))]) hx hb dX5_lookAhead_417 hl (by decide) rfl (fun ls hl => ?_)
                        refine n_iinc (n := 1) (lv' := [(8, .int (nI (c + 1))), (7, .int (zI v)), (9, .int (zI v)), (5, .int (nI ((n + k) % 2))), (1, .int (nI E)), (0, .ref (ad 0)), (4, .int (nI k)), (6, .int (nI q))]) hx hb dX5_lookAhead_419 hl (k := 7) rfl (by decide) rfl (fun ls hl => ?_)
                        refine lv_goto (tgt := 341) hx hb dX5_lookAhead_422 (by decide) ?_
                        exact ih_341 v ls _ _ (hI_341.first (by omega) R0.2.2.2.2 c394_22 (by omega) hv) hP hD hS (lv_sub hl [3, 4, 5, 6, 7, 0, 1] rfl)
                      refine lv_iload hx hb dX5_lookAhead_397 (lv_at hl 0 rfl) ?_
                      refine ro_call (W.runS (As := [.int (zI v)]) (rest := []) ⟨hx, hb, hml, hown, hts⟩ (c_rank l D cI cJ cZ v (by omega) (by omega)) (va_cwS 1 hts gX5_lookAhead_X5_rank rfl rfl rfl (by decide +kernel) ⟨Nat.le_of_ble_eq_true rfl, Nat.le_of_ble_eq_true rfl⟩) ⟨RPc.blind, (RPc.at (hP.sub [] rfl) hK hN)⟩ rfl rfl hl.1 rfl (lv_room (Nat.le_of_ble_eq_true rfl)) dX5_lookAhead_399 ⟨Nat.zero_le _, Nat.zero_le _⟩) ?_
                      refine lv_iload hx hb dX5_lookAhead_402 (lv_at hl 7 rfl) ?_
                      refine ro_call (W.runS (As := [.int (zI bz)]) (rest := [.int (zI (rkZ v))]) ⟨hx, hb, hml, hown, hts⟩ (c_rank l D cI cJ cZ bz (by omega) (by omega)) (va_cwS 1 hts gX5_lookAhead_X5_rank rfl rfl rfl (by decide +kernel) ⟨Nat.le_of_ble_eq_true rfl, Nat.le_of_ble_eq_true rfl⟩) ⟨RPc.blind, (RPc.at (hP.sub [] rfl) hK hN)⟩ rfl rfl hl.1 rfl (lv_room (Nat.le_of_ble_eq_true rfl)) dX5_lookAhead_404 ⟨Nat.zero_le _, Nat.zero_le _⟩) ?_
                      refine z_icmp_le (tgt := 415) hx hb dX5_lookAhead_407 (by decide) (rk_zB (by omega) (by omega)) (rk_zB (by omega) (by omega)) (fun c407_23 => ?_) (fun c407_23 => ?_)
                      · skip
                        refine lv_iload hx hb dX5_lookAhead_415 (lv_at hl 7 rfl) ?_
                        refine lv_istore (lv' := [(7, .int (zI bz)), (9, .int (zI v)), (5, .int (nI ((n + k) % 2))), (1, .int (nI E)), (0, .ref (ad 0)), (4, .int (nI k)), (6, .int (nI q)), (8, .int (nI c))]) hx hb dX5_lookAhead_417 hl (by decide) rfl (fun ls hl => ?_)
                        refine n_iinc (n := 1) (lv' := [(8, .int (nI (c + 1))), (7, .int (zI bz)), (9, .int (zI v)), (5, .int (nI ((n + k) % 2))), (1, .int (nI E)), (0, .ref (ad 0)), (4, .int (nI k)), (6, .int (nI q))]) hx hb dX5_lookAhead_419 hl (k := 7) rfl (by decide) rfl (fun ls hl => ?_)
                        refine lv_goto (tgt := 341) hx hb dX5_lookAhead_422 (by decide) ?_
                        exact ih_341 bz ls _ _ (by have := hI_341.more (by omega) R0.2.2.2.2 c394_22 (by omega) hv; rw [if_neg (by omega)] at this; exact this) hP hD hS (lv_sub hl [3, 4, 5, 6, 7, 0, 1] rfl)
                      refine lv_iload hx hb dX5_lookAhead_410 (lv_at hl 0 rfl) ?_
                      refine lv_goto (tgt := 417) hx hb dX5_lookAhead_412 (by decide) ?_
                      refine lv_istore (lv' := [(7, .int (zI v)), (9, .int (zI v)), (5, .int (nI ((n + k) % 2))), (1, .int (nI E)), (0, .ref (ad 0)), (4, .int (nI k)), (6, .int (nI q)), (8, .int (nI c))]) hx hb dX5_lookAhead_417 hl (by decide) rfl (fun ls hl => ?_)
                      refine n_iinc (n := 1) (lv' := [(8, .int (nI (c + 1))), (7, .int (zI v)), (9, .int (zI v)), (5, .int (nI ((n + k) % 2))), (1, .int (nI E)), (0, .ref (ad 0)), (4, .int (nI k)), (6, .int (nI q))]) hx hb dX5_lookAhead_419 hl (k := 7) rfl (by decide) rfl (fun ls hl => ?_)
                      refine lv_goto (tgt := 341) hx hb dX5_lookAhead_422 (by decide) ?_
                      exact ih_341 v ls _ _ (by have := hI_341.more (by omega) R0.2.2.2.2 c394_22 (by omega) hv; rw [if_pos (by omega)] at this; exact this) hP hD hS (lv_sub hl [3, 4, 5, 6, 7, 0, 1] rfl)
                    refine lv_iconst (v := nI 1) hx hb dX5_lookAhead_379 (by decide) ?_
                    refine rt_i (v := bI true) rfl ?_
                    refine lv_goto (tgt := 384) hx hb dX5_lookAhead_380 (by decide) ?_
                    by_cases hwn : wnB w h (upd Sn3 (7 * c + tp3 c) (nI ((n + k) % 2))) c (tp3 c) = true
                    · skip
                      refine mu_calli (wr := []) (va_runV (As := [.int (nI q), .int (nI c), .int (nI ((n + k) % 2)), .int (bI true)]) (rest := []) ⟨hx, hb, hml, hown, hts⟩ (c5_vb_win l D cI cJ cZ ad w h th n 1 po B ht dr wh sb V2 la sl we1 of1 Sn3 tp3 re q c ((n + k) % 2) true _ hd hi_341 hlt3 hsn3 hwn) (cwV 4 hts gX5_lookAhead_X5_valueBehind rfl rfl rfl (by decide +kernel) ⟨Nat.le_of_ble_eq_true rfl, Nat.le_of_ble_eq_true rfl⟩) ⟨MPc.blind, va_recv hK hP (ci := 5) (q0 := 0) rfl rfl, (MPc.at (hP.sub [0, 1, 2, 3, 4, 5, 6, 7, 8, 9, 10, 11, 12, 13] rfl) (hD.sub [0, 1, 2, 3, 4, 5, 6, 7, 8, 9, 10, 11, 12, 13] (by decide) rfl) hK hN)⟩ rfl rfl hl.1 rfl (lv_room (Nat.le_of_ble_eq_true rfl)) dX5_lookAhead_384 ⟨Nat.zero_le _, Nat.zero_le _⟩) hP hD hS hA [0, 1, 2, 3, 4, 5, 6, 7, 8, 9, 10, 11, 12, 13] [] rfl rfl (by decide) (by decide) (fun rr u1 H locs hw hP hD hS => ?_)
                      obtain rfl := hw
                      have hP : va_P D vwCl (mW5 cI cZ ad w h th n 1 po B ht dr wh sb V2 la sl we1 of1 Sn3 tp3 re) H := hP
                      have hD : va_D A (mW5 cI cZ ad w h th n 1 po B ht dr wh sb V2 la sl we1 of1 Sn3 tp3 re) := hD
                      refine rt_i (v := zI v) (by rw [hv, ← vb_win_is (by omega) (by rw [hsd2]; exact hwin.mp hwn)]) ?_
                      refine lv_istore (lv' := [(9, .int (zI v)), (5, .int (nI ((n + k) % 2))), (1, .int (nI E)), (0, .ref (ad 0)), (4, .int (nI k)), (6, .int (nI q)), (8, .int (nI c)), (7, .int (zI bz))]) hx hb dX5_lookAhead_387 hl (by decide) rfl (fun ls hl => ?_)
                      refine lv_iload hx hb dX5_lookAhead_389 (lv_at hl 7 rfl) ?_
                      refine lv_sipush (v := -999) hx hb dX5_lookAhead_391 (by decide) ?_
                      refine rt_2 (a := zI bz) (b := zI (-999)) rfl rfl ?_
                      refine z_icmp_eq (tgt := 410) hx hb dX5_lookAhead_394 (by decide) (by unfold zB; omega) (by unfold zB; omega) (fun c394_24 => ?_) (fun c394_24 => ?_)
                      · skip
                        refine lv_iload hx hb dX5_lookAhead_410 (lv_at hl 0 rfl) ?_
                        refine lv_goto (tgt := 417) hx hb dX5_lookAhead_412 (by decide) ?_
                        refine lv_istore (lv' := [(7, .int (zI v)), (9, .int (zI v)), (5, .int (nI ((n + k) % 2))), (1, .int (nI E)), (0, .ref (ad 0)), (4, .int (nI k)), (6, .int (nI q)), (8, .int (nI c))]) hx hb dX5_lookAhead_417 hl (by decide) rfl (fun ls hl => ?_)
                        refine n_iinc (n := 1) (lv' := [(8, .int (nI (c + 1))), (7, .int (zI v)), (9, .int (zI v)), (5, .int (nI ((n + k) % 2))), (1, .int (nI E)), (0, .ref (ad 0)), (4, .int (nI k)), (6, .int (nI q))]) hx hb dX5_lookAhead_419 hl (k := 7) rfl (by decide) rfl (fun ls hl => ?_)
                        refine lv_goto (tgt := 341) hx hb dX5_lookAhead_422 (by decide) ?_
                        exact ih_341 v ls _ _ (hI_341.first (by omega) R0.2.2.2.2 c394_24 (by omega) hv) hP hD hS (lv_sub hl [3, 4, 5, 6, 7, 0, 1] rfl)
                      refine lv_iload hx hb dX5_lookAhead_397 (lv_at hl 0 rfl) ?_
                      refine ro_call (W.runS (As := [.int (zI v)]) (rest := []) ⟨hx, hb, hml, hown, hts⟩ (c_rank l D cI cJ cZ v (by omega) (by omega)) (va_cwS 1 hts gX5_lookAhead_X5_rank rfl rfl rfl (by decide +kernel) ⟨Nat.le_of_ble_eq_true rfl, Nat.le_of_ble_eq_true rfl⟩) ⟨RPc.blind, (RPc.at (hP.sub [] rfl) hK hN)⟩ rfl rfl hl.1 rfl (lv_room (Nat.le_of_ble_eq_true rfl)) dX5_lookAhead_399 ⟨Nat.zero_le _, Nat.zero_le _⟩) ?_
                      refine lv_iload hx hb dX5_lookAhead_402 (lv_at hl 7 rfl) ?_
                      refine ro_call (W.runS (As := [.int (zI bz)]) (rest := [.int (zI (rkZ v))]) ⟨hx, hb, hml, hown, hts⟩ (c_rank l D cI cJ cZ bz (by omega) (by omega)) (va_cwS 1 hts gX5_lookAhead_X5_rank rfl rfl rfl (by decide +kernel) ⟨Nat.le_of_ble_eq_true rfl, Nat.le_of_ble_eq_true rfl⟩) ⟨RPc.blind, (RPc.at (hP.sub [] rfl) hK hN)⟩ rfl rfl hl.1 rfl (lv_room (Nat.le_of_ble_eq_true rfl)) dX5_lookAhead_404 ⟨Nat.zero_le _, Nat.zero_le _⟩) ?_
                      refine z_icmp_le (tgt := 415) hx hb dX5_lookAhead_407 (by decide) (rk_zB (by omega) (by omega)) (rk_zB (by omega) (by omega)) (fun c407_25 => ?_) (fun c407_25 => ?_)
                      · skip
                        refine lv_iload hx hb dX5_lookAhead_415 (lv_at hl 7 rfl) ?_
                        refine lv_istore (lv' := [(7, .int (zI bz)), (9, .int (zI v)), (5, .int (nI ((n + k) % 2))), (1, .int (nI E)), (0, .ref (ad 0)), (4, .int (nI k)), (6, .int (nI q)), (8, .int (nI c))]) hx hb dX5_lookAhead_417 hl (by decide) rfl (fun ls hl => ?_)
                        refine n_iinc (n := 1) (lv' := [(8, .int (nI (c + 1))), (7, .int (zI bz)), (9, .int (zI v)), (5, .int (nI ((n + k) % 2))), (1, .int (nI E)), (0, .ref (ad 0)), (4, .int (nI k)), (6, .int (nI q))]) hx hb dX5_lookAhead_419 hl (k := 7) rfl (by decide) rfl (fun ls hl => ?_)
                        refine lv_goto (tgt := 341) hx hb dX5_lookAhead_422 (by decide) ?_
                        exact ih_341 bz ls _ _ (by have := hI_341.more (by omega) R0.2.2.2.2 c394_24 (by omega) hv; rw [if_neg (by omega)] at this; exact this) hP hD hS (lv_sub hl [3, 4, 5, 6, 7, 0, 1] rfl)
                      refine lv_iload hx hb dX5_lookAhead_410 (lv_at hl 0 rfl) ?_
                      refine lv_goto (tgt := 417) hx hb dX5_lookAhead_412 (by decide) ?_
                      refine lv_istore (lv' := [(7, .int (zI v)), (9, .int (zI v)), (5, .int (nI ((n + k) % 2))), (1, .int (nI E)), (0, .ref (ad 0)), (4, .int (nI k)), (6, .int (nI q)), (8, .int (nI c))]) hx hb dX5_lookAhead_417 hl (by decide) rfl (fun ls hl => ?_)
                      refine n_iinc (n := 1) (lv' := [(8, .int (nI (c + 1))), (7, .int (zI v)), (9, .int (zI v)), (5, .int (nI ((n + k) % 2))), (1, .int (nI E)), (0, .ref (ad 0)), (4, .int (nI k)), (6, .int (nI q))]) hx hb dX5_lookAhead_419 hl (k := 7) rfl (by decide) rfl (fun ls hl => ?_)
                      refine lv_goto (tgt := 341) hx hb dX5_lookAhead_422 (by decide) ?_
                      exact ih_341 v ls _ _ (by have := hI_341.more (by omega) R0.2.2.2.2 c394_24 (by omega) hv; rw [if_pos (by omega)] at this; exact this) hP hD hS (lv_sub hl [3, 4, 5, 6, 7, 0, 1] rfl)
                    have hnl : ¬ hasL w h (sq_put (MP w h B ht ((n + k) % 2) (wh q) (sb q)) c (tpE h ht (wh q) c)) := fun z => hwn (hwin.mpr z)
                    rw [Bool.not_eq_true] at hwn
                    refine mu_calli (wr := []) (va_runV (As := [.int (nI q), .int (nI c), .int (nI ((n + k) % 2)), .int (bI true)]) (rest := []) ⟨hx, hb, hml, hown, hts⟩ (c5_vb_last l D cI cJ cZ ad w h th n 1 po B ht dr wh sb V2 la sl we1 of1 Sn3 tp3 re q c ((n + k) % 2) _ hd hi_341 hlt3 hsn3 hwn) (cwV 4 hts gX5_lookAhead_X5_valueBehind rfl rfl rfl (by decide +kernel) ⟨Nat.le_of_ble_eq_true rfl, Nat.le_of_ble_eq_true rfl⟩) ⟨MPc.blind, va_recv hK hP (ci := 5) (q0 := 0) rfl rfl, (MPc.at (hP.sub [0, 1, 2, 3, 4, 5, 6, 7, 8, 9, 10, 11, 12, 13] rfl) (hD.sub [0, 1, 2, 3, 4, 5, 6, 7, 8, 9, 10, 11, 12, 13] (by decide) rfl) hK hN)⟩ rfl rfl hl.1 rfl (lv_room (Nat.le_of_ble_eq_true rfl)) dX5_lookAhead_384 ⟨Nat.zero_le _, Nat.zero_le _⟩) hP hD hS hA [0, 1, 2, 3, 4, 5, 6, 7, 8, 9, 10, 11, 12, 13] [] rfl rfl (by decide) (by decide) (fun rr u1 H locs hw hP hD hS => ?_)
                    obtain rfl := hw
                    have hP : va_P D vwCl (mW5 cI cZ ad w h th n 1 po B ht dr wh sb V2 la sl we1 of1 Sn3 tp3 re) H := hP
                    have hD : va_D A (mW5 cI cZ ad w h th n 1 po B ht dr wh sb V2 la sl we1 of1 Sn3 tp3 re) := hD
                    refine rt_i (v := zI v) (by rw [hv, ← vb_last_is (by omega) (by rw [hsd2]; exact hnl)]) ?_
                    refine lv_istore (lv' := [(9, .int (zI v)), (5, .int (nI ((n + k) % 2))), (1, .int (nI E)), (0, .ref (ad 0)), (4, .int (nI k)), (6, .int (nI q)), (8, .int (nI c)), (7, .int (zI bz))]) hx hb dX5_lookAhead_387 hl (by decide) rfl (fun ls hl => ?_)
                    refine lv_iload hx hb dX5_lookAhead_389 (lv_at hl 7 rfl) ?_
                    refine lv_sipush (v := -999) hx hb dX5_lookAhead_391 (by decide) ?_
                    refine rt_2 (a := zI bz) (b := zI (-999)) rfl rfl ?_
                    refine z_icmp_eq (tgt := 410) hx hb dX5_lookAhead_394 (by decide) (by unfold zB; omega) (by unfold zB; omega) (fun c394_26 => ?_) (fun c394_26 => ?_)
                    · skip
                      refine lv_iload hx hb dX5_lookAhead_410 (lv_at hl 0 rfl) ?_
                      refine lv_goto (tgt := 417) hx hb dX5_lookAhead_412 (by decide) ?_
                      refine lv_istore (lv' := [(7, .int (zI v)), (9, .int (zI v)), (5, .int (nI ((n + k) % 2))), (1, .int (nI E)), (0, .ref (ad 0)), (4, .int (nI k)), (6, .int (nI q)), (8, .int (nI c))]) hx hb dX5_lookAhead_417 hl (by decide) rfl (fun ls hl => ?_)
                      refine n_iinc (n := 1) (lv' := [(8, .int (nI (c + 1))), (7, .int (zI v)), (9, .int (zI v)), (5, .int (nI ((n + k) % 2))), (1, .int (nI E)), (0, .ref (ad 0)), (4, .int (nI k)), (6, .int (nI q))]) hx hb dX5_lookAhead_419 hl (k := 7) rfl (by decide) rfl (fun ls hl => ?_)
                      refine lv_goto (tgt := 341) hx hb dX5_lookAhead_422 (by decide) ?_
                      exact ih_341 v ls _ _ (hI_341.first (by omega) R0.2.2.2.2 c394_26 (by omega) hv) hP hD hS (lv_sub hl [3, 4, 5, 6, 7, 0, 1] rfl)
                    refine lv_iload hx hb dX5_lookAhead_397 (lv_at hl 0 rfl) ?_
                    refine ro_call (W.runS (As := [.int (zI v)]) (rest := []) ⟨hx, hb, hml, hown, hts⟩ (c_rank l D cI cJ cZ v (by omega) (by omega)) (va_cwS 1 hts gX5_lookAhead_X5_rank rfl rfl rfl (by decide +kernel) ⟨Nat.le_of_ble_eq_true rfl, Nat.le_of_ble_eq_true rfl⟩) ⟨RPc.blind, (RPc.at (hP.sub [] rfl) hK hN)⟩ rfl rfl hl.1 rfl (lv_room (Nat.le_of_ble_eq_true rfl)) dX5_lookAhead_399 ⟨Nat.zero_le _, Nat.zero_le _⟩) ?_
                    refine lv_iload hx hb dX5_lookAhead_402 (lv_at hl 7 rfl) ?_
                    refine ro_call (W.runS (As := [.int (zI bz)]) (rest := [.int (zI (rkZ v))]) ⟨hx, hb, hml, hown, hts⟩ (c_rank l D cI cJ cZ bz (by omega) (by omega)) (va_cwS 1 hts gX5_lookAhead_X5_rank rfl rfl rfl (by decide +kernel) ⟨Nat.le_of_ble_eq_true rfl, Nat.le_of_ble_eq_true rfl⟩) ⟨RPc.blind, (RPc.at (hP.sub [] rfl) hK hN)⟩ rfl rfl hl.1 rfl (lv_room (Nat.le_of_ble_eq_true rfl)) dX5_lookAhead_404 ⟨Nat.zero_le _, Nat.zero_le _⟩) ?_
                    refine z_icmp_le (tgt := 415) hx hb dX5_lookAhead_407 (by decide) (rk_zB (by omega) (by omega)) (rk_zB (by omega) (by omega)) (fun c407_27 => ?_) (fun c407_27 => ?_)
                    · skip
                      refine lv_iload hx hb dX5_lookAhead_415 (lv_at hl 7 rfl) ?_
                      refine lv_istore (lv' := [(7, .int (zI bz)), (9, .int (zI v)), (5, .int (nI ((n + k) % 2))), (1, .int (nI E)), (0, .ref (ad 0)), (4, .int (nI k)), (6, .int (nI q)), (8, .int (nI c))]) hx hb dX5_lookAhead_417 hl (by decide) rfl (fun ls hl => ?_)
                      refine n_iinc (n := 1) (lv' := [(8, .int (nI (c + 1))), (7, .int (zI bz)), (9, .int (zI v)), (5, .int (nI ((n + k) % 2))), (1, .int (nI E)), (0, .ref (ad 0)), (4, .int (nI k)), (6, .int (nI q))]) hx hb dX5_lookAhead_419 hl (k := 7) rfl (by decide) rfl (fun ls hl => ?_)
                      refine lv_goto (tgt := 341) hx hb dX5_lookAhead_422 (by decide) ?_
                      exact ih_341 bz ls _ _ (by have := hI_341.more (by omega) R0.2.2.2.2 c394_26 (by omega) hv; rw [if_neg (by omega)] at this; exact this) hP hD hS (lv_sub hl [3, 4, 5, 6, 7, 0, 1] rfl)
                    refine lv_iload hx hb dX5_lookAhead_410 (lv_at hl 0 rfl) ?_
                    refine lv_goto (tgt := 417) hx hb dX5_lookAhead_412 (by decide) ?_
                    refine lv_istore (lv' := [(7, .int (zI v)), (9, .int (zI v)), (5, .int (nI ((n + k) % 2))), (1, .int (nI E)), (0, .ref (ad 0)), (4, .int (nI k)), (6, .int (nI q)), (8, .int (nI c))]) hx hb dX5_lookAhead_417 hl (by decide) rfl (fun ls hl => ?_)
                    refine n_iinc (n := 1) (lv' := [(8, .int (nI (c + 1))), (7, .int (zI v)), (9, .int (zI v)), (5, .int (nI ((n + k) % 2))), (1, .int (nI E)), (0, .ref (ad 0)), (4, .int (nI k)), (6, .int (nI q))]) hx hb dX5_lookAhead_419 hl (k := 7) rfl (by decide) rfl (fun ls hl => ?_)
                    refine lv_goto (tgt := 341) hx hb dX5_lookAhead_422 (by decide) ?_
                    exact ih_341 v ls _ _ (by have := hI_341.more (by omega) R0.2.2.2.2 c394_26 (by omega) hv; rw [if_pos (by omega)] at this; exact this) hP hD hS (lv_sub hl [3, 4, 5, 6, 7, 0, 1] rfl)
                  · intro qx ls H locs hI_341 hP hD hS hl
                    obtain ⟨bz, rfl⟩ : ∃ z, z = qx := ⟨_, rfl⟩
                    have hl : lv_has ls 10 [(5, .int (nI ((n + k) % 2))), (1, .int (nI E)), (0, .ref (ad 0)), (4, .int (nI k)), (6, .int (nI q)), (8, .int (nI w)), (7, .int (zI bz))] := hl
                    have hP : va_P D vwCl (mW5 cI cZ ad w h th n 1 po B ht dr wh sb V2 la sl we1 of1 Sn3 tp3 re) H := hP
                    have hD : va_D A (mW5 cI cZ ad w h th n 1 po B ht dr wh sb V2 la sl we1 of1 Sn3 tp3 re) := hD
                    have hI_341 : bsI w h B ht n E (wh q) (sb q) w bz := hI_341
                    refine lv_iload hx hb dX5_lookAhead_341 (lv_at hl 5 rfl) ?_
                    refine lv_aload_n hx hb dX5_lookAhead_343 rfl (lv_at hl 2 rfl) ?_
                    refine va_get (C := RX5) (T := TX5) (N := 19) hx hb hts (by decide +kernel) hown hK hP 0 rfl rfl 1 (by decide) (hts (.fieldLink RX5 52 RX5 "w" "I") (by decide +kernel)) (fun _ h9 => h9) rfl dX5_lookAhead_344 ?_
                    refine n_icmp_ge (tgt := 425) hx hb dX5_lookAhead_347 (by decide) (by omega) (by omega) (fun c347_28 => ?_) (fun c347_28 => ?_)
                    · skip
                      refine lv_aload_n hx hb dX5_lookAhead_425 rfl (lv_at hl 2 rfl) ?_
                      refine va_get (C := RX5) (T := TX5) (N := 19) hx hb hts (by decide +kernel) hown hK hP 0 rfl rfl 11 (by decide) (hts (.fieldLink RX5 26 RX5 "values" "[I") (by decide +kernel)) (fun _ h9 => h9) rfl dX5_lookAhead_426 ?_
                      refine lv_iload hx hb dX5_lookAhead_429 (lv_at hl 4 rfl) ?_
                      refine lv_iload hx hb dX5_lookAhead_431 (lv_at hl 6 rfl) ?_
                      refine n_iastR hx hb hK hP hD hS 6 0 rfl rfl (by omega) (by decide) dX5_lookAhead_433 (fun H locs hP hD hS => ?_)
                      have hP : va_P D vwCl (mW5 cI cZ ad w h th n 1 po B ht dr wh sb (upd V2 q (zI bz)) la sl we1 of1 Sn3 tp3 re) H := hP
                      have hD : va_D A (mW5 cI cZ ad w h th n 1 po B ht dr wh sb (upd V2 q (zI bz)) la sl we1 of1 Sn3 tp3 re) := hD
                      refine n_iinc (n := 1) (lv' := [(6, .int (nI (q + 1))), (5, .int (nI ((n + k) % 2))), (1, .int (nI E)), (0, .ref (ad 0)), (4, .int (nI k)), (8, .int (nI w)), (7, .int (zI bz))]) hx hb dX5_lookAhead_434 hl (k := 4) rfl (by decide) rfl (fun ls hl => ?_)
                      refine lv_goto (tgt := 313) hx hb dX5_lookAhead_437 (by decide) ?_
                      exact ih_313 ((upd V2 q (zI bz)), Sn3, tp3) ls _ _ ⟨hI_313.1.next (hI_341.stop hent0 (by omega)), by omega⟩ hP hD hS (lv_sub hl [1, 2, 3, 4, 0] rfl)
                    · exact absurd c347_28 (by omega)
                · intro qx ls H locs hI_313 hP hD hS hl
                  obtain ⟨V2, Sn2, tp2⟩ := qx
                  have hl : lv_has ls 10 [(5, .int (nI ((n + k) % 2))), (1, .int (nI E)), (0, .ref (ad 0)), (4, .int (nI k)), (6, .int (nI (la (k + 1))))] := hl
                  have hP : va_P D vwCl (mW5 cI cZ ad w h th n 1 po B ht dr wh sb V2 la sl we1 of1 Sn2 tp2 re) H := hP
                  have hD : va_D A (mW5 cI cZ ad w h th n 1 po B ht dr wh sb V2 la sl we1 of1 Sn2 tp2 re) := hD
                  have hI_313 : VdQ w h B ht n E po wh sb V2 k (la (k + 1)) ∧ la k ≤ la (k + 1) := hI_313
                  refine lv_iload hx hb dX5_lookAhead_313 (lv_at hl 4 rfl) ?_
                  refine lv_aload_n hx hb dX5_lookAhead_315 rfl (lv_at hl 2 rfl) ?_
                  refine va_get (C := RX5) (T := TX5) (N := 19) hx hb hts (by decide +kernel) hown hK hP 0 rfl rfl 12 (by decide) (hts (.fieldLink RX5 29 RX5 "layers" "[I") (by decide +kernel)) (fun _ h9 => h9) rfl dX5_lookAhead_316 ?_
                  refine lv_iload hx hb dX5_lookAhead_319 (lv_at hl 3 rfl) ?_
                  refine lv_iconst (v := nI 1) hx hb dX5_lookAhead_321 (by decide) ?_
                  refine n_iadd hx hb dX5_lookAhead_322 ?_
                  refine n_iald hx hb hK hP 7 0 rfl rfl (by omega) (by decide) dX5_lookAhead_323 ?_
                  refine n_icmp_ge (tgt := 440) hx hb dX5_lookAhead_324 (by decide) (by omega) (by omega) (fun c324_29 => ?_) (fun c324_29 => ?_)
                  · skip
                    refine lv_iinc (v := (nI k) + (-1)) (lv' := [(4, .int ((nI k) + (-1))), (5, .int (nI ((n + k) % 2))), (1, .int (nI E)), (0, .ref (ad 0)), (6, .int (nI (la (k + 1))))]) hx hb dX5_lookAhead_440 hl (k := 3) rfl rfl (by decide) rfl (fun ls hl => ?_)
                    refine lv_goto (tgt := 288) hx hb dX5_lookAhead_443 (by decide) ?_
                    rw [show nI k + (-1) = zI ((E : Int) - 1 - ((i + 1 : Nat) : Int)) from by rw [show (-1 : Int32) = zI (-1) from rfl, ← zI_n, zI_add]; congr 1; omega] at hl
                    exact ih_288 (V2, Sn2, tp2) ls _ _ (by rw [show E - (i + 1) = k by omega]; exact hI_313.1.layer hLa (by omega)) hP hD hS (lv_sub hl [2, 3, 0] rfl)
                  · exact absurd c324_29 (by omega)
              · intro qx ls H locs hI_288 hP hD hS hl
                obtain ⟨V, Sn, tp⟩ := qx
                have hl : lv_has ls 10 [(1, .int (nI E)), (0, .ref (ad 0)), (4, .int (zI ((E : Int) - 1 - ((E : Nat) : Int))))] := hl
                have hP : va_P D vwCl (mW5 cI cZ ad w h th n 1 po B ht dr wh sb V la sl we1 of1 Sn tp re) H := hP
                have hD : va_D A (mW5 cI cZ ad w h th n 1 po B ht dr wh sb V la sl we1 of1 Sn tp re) := hD
                have hI_288 : VdA w h B ht n E po wh sb V (E - E) := hI_288
                refine lv_iload hx hb dX5_lookAhead_288 (lv_at hl 2 rfl) ?_
                refine z_if_lt (tgt := 446) hx hb dX5_lookAhead_290 (by decide) (by unfold zB; omega) (fun c290_30 => ?_) (fun c290_30 => ?_)
                · skip
                  exact mu_vret (S := LkS) (wf := fun u : LkS => (mW5 cI cZ ad w h th n 1 u.1 B ht dr u.2.1 u.2.2.1 u.2.2.2.1 u.2.2.2.2.1 u.2.2.2.2.2.1 u.2.2.2.2.2.2.1 u.2.2.2.2.2.2.2.1 u.2.2.2.2.2.2.2.2.1 u.2.2.2.2.2.2.2.2.2 re)) hx hb hr hlocks (po, wh, sb, V, la, sl, we1, of1, Sn, tp) ⟨hJ.1, hJ.all, fun j hj => hI_288 j hj (by omega), fun c hc => ⟨hwe c hc, hof c hc⟩⟩ hP hD hS dX5_lookAhead_446
                · exact absurd c290_30 (by omega)
            · exact absurd c154_14 (by omega)
      · exact absurd c41_3 (by omega)
  obtain rfl : kn = 1 := (hkn.resolve_left c4_1).1
  exact mu_vret (S := LkS) (wf := fun u : LkS => (mW5 cI cZ ad w h th n 1 u.1 B ht dr u.2.1 u.2.2.1 u.2.2.2.1 u.2.2.2.2.1 u.2.2.2.2.2.1 u.2.2.2.2.2.2.1 u.2.2.2.2.2.2.2.1 u.2.2.2.2.2.2.2.2.1 u.2.2.2.2.2.2.2.2.2 re)) hx hb hr hlocks (po, wh, sb, V, la, sl, we, of_, Sn, tp) (hkn.resolve_left c4_1).2 hP hD hS dX5_lookAhead_7
