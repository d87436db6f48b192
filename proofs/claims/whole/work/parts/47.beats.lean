noncomputable def btB (w h : Nat) (B : Nat → Int32) (ht : Nat → Nat) (n : Nat) : Bool := @decide (btP w h B ht n) (Classical.propDecidable _)
theorem btB_t {w h : Nat} {B : Nat → Int32} {ht : Nat → Nat} {n : Nat} (H : btP w h B ht n) : btB w h B ht n = true := @decide_eq_true _ (Classical.propDecidable _) H
theorem btB_f {w h : Nat} {B : Nat → Int32} {ht : Nat → Nat} {n : Nat} (H : ¬ btP w h B ht n) : btB w h B ht n = false := @decide_eq_false _ (Classical.propDecidable _) H
abbrev BtS : Type := (Nat → Nat) × (Nat → Int32) × (Nat → Nat) × (Nat → Nat)

set_option maxHeartbeats 4000000 in
set_option maxRecDepth 100000 in
theorem c5_showPairs (l : Launch) (D : va_G) (cI cJ cZ : ClassId) (ad : Nat → Nat) (w h th n kn po : Nat) (B : Nat → Int32) (ht dr wh sb : Nat → Nat) (V : Nat → Int32) (la sl we of_ : Nat → Nat) (Sn : Nat → Int32) (tp re : Nat → Nat) (q : Nat) (sz : Nat) (hd : Dm w h) (hq0 : q < 2 ^ 31) (hht : ∀ c, ht c ≤ h) (hn : n ≤ w * h) : Met l yX5_showPairs wsX5_showPairs (k2_rm 0 0) (MPc D [.ref (ad 0), .int (nI q)] (mW5 cI cZ ad w h th n kn po B ht dr wh sb V la sl we of_ Sn tp re) (tyA cI cJ cZ) sz) (mQv D (fun _ : Unit => True) (fun _ => (mW5 cI cZ ad w h th n kn po B ht dr wh sb V la sl we of_ (spS h B ht n q Sn w) (tpP h ht tp q w) re)) (va_A (mW5 cI cZ ad w h th n kn po B ht dr wh sb V la sl we of_ Sn tp re) sz)) 0 0 (va_A (mW5 cI cZ ad w h th n kn po B ht dr wh sb V la sl we of_ Sn tp re) sz) := by
  refine mu_head (Qc := fun A => mQv D (fun _ : Unit => True) (fun _ => (mW5 cI cZ ad w h th n kn po B ht dr wh sb V la sl we of_ (spS h B ht n q Sn w) (tpP h ht tp q w) re)) A) (cc := cX5_showPairs) (maxL := 7) (ret := none) (by decide) rfl (Nat.le_of_ble_eq_true rfl) ?_
  intro p e s m below meth cd ls A hx hb hr hlocks hnm hts hown hml hA hP hK hD hN hS hl
  have hl : lv_has ls 7 [(0, .ref (ad 0)), (1, .int (nI q))] := hl
  have hd0 := hd
  obtain ⟨h3w, hw9, h3h, hh7, hwh, h64⟩ := hd0
  rw [← cpF_0 B Sn] at hP hD
  refine lv_iload_n hx hb dX5_showPairs_0 rfl (lv_at hl 1 rfl) ?_
  refine lv_istore_n (lv' := [(2, .int (nI q)), (0, .ref (ad 0)), (1, .int (nI q))]) hx hb dX5_showPairs_1 rfl hl (by decide) rfl (fun ls hl => ?_)
  refine lv_iconst (v := nI 0) hx hb dX5_showPairs_2 (by decide) ?_
  refine lv_istore_n (lv' := [(3, .int (nI 0)), (2, .int (nI q)), (0, .ref (ad 0)), (1, .int (nI q))]) hx hb dX5_showPairs_3 rfl hl (by decide) rfl (fun ls hl => ?_)
  refine loopH (σ := Unit) (m := m) (Wf := fun H locs g => W p l e _ s m _ below meth cd H locs _ _ _ g) 4 7 (fun i qx => [(2, .int (nI q)), (0, .ref (ad 0)), (1, .int (nI q)), (3, .int (nI i))]) (fun i qx => (mW5 cI cZ ad w h th n kn po B ht dr wh sb V la sl we of_ (cpF B Sn i) tp re)) (fun i qx => True) 63 ?_ ?_ 0 () ls _ _ (by omega) trivial hP hD hS (lv_sub hl [1, 2, 3, 0] rfl)
  · intro k qx ls H locs hi_4 hI_4 hP hD hS hl ih_4
    have hl : lv_has ls 7 [(2, .int (nI q)), (0, .ref (ad 0)), (1, .int (nI q)), (3, .int (nI k))] := hl
    have hP : va_P D vwCl (mW5 cI cZ ad w h th n kn po B ht dr wh sb V la sl we of_ (cpF B Sn k) tp re) H := hP
    have hD : va_D A (mW5 cI cZ ad w h th n kn po B ht dr wh sb V la sl we of_ (cpF B Sn k) tp re) := hD
    have hI_4 : True := hI_4
    refine lv_iload_n hx hb dX5_showPairs_4 rfl (lv_at hl 3 rfl) ?_
    refine lv_bipush (v := nI 63) hx hb dX5_showPairs_5 (by decide) ?_
    refine n_icmp_ge (tgt := 28) hx hb dX5_showPairs_7 (by decide) (by omega) (by omega) (fun c7_1 => ?_) (fun c7_1 => ?_)
    · exact absurd c7_1 (by omega)
    refine lv_aload_n hx hb dX5_showPairs_10 rfl (lv_at hl 1 rfl) ?_
    refine va_get (C := RX5) (T := TX5) (N := 19) hx hb hts (by decide +kernel) hown hK hP 0 rfl rfl 16 (by decide) (hts (.fieldLink RX5 42 RX5 "seen" "[I") (by decide +kernel)) (fun _ h9 => h9) rfl dX5_showPairs_11 ?_
    refine lv_iload_n hx hb dX5_showPairs_14 rfl (lv_at hl 3 rfl) ?_
    refine lv_aload_n hx hb dX5_showPairs_15 rfl (lv_at hl 1 rfl) ?_
    refine va_get (C := RX5) (T := TX5) (N := 19) hx hb hts (by decide +kernel) hown hK hP 0 rfl rfl 3 (by decide) (hts (.fieldLink RX5 7 RX5 "board" "[I") (by decide +kernel)) (fun _ h9 => h9) rfl dX5_showPairs_16 ?_
    refine lv_iload_n hx hb dX5_showPairs_19 rfl (lv_at hl 3 rfl) ?_
    refine n_iald hx hb hK hP 1 0 rfl rfl (by omega) (by decide) dX5_showPairs_20 ?_
    refine n_iastR hx hb hK hP hD hS 11 0 rfl rfl (by omega) (by decide) dX5_showPairs_21 (fun H locs hP hD hS => ?_)
    have hP : va_P D vwCl (mW5 cI cZ ad w h th n kn po B ht dr wh sb V la sl we of_ (upd (cpF B Sn k) k (B k)) tp re) H := hP
    have hD : va_D A (mW5 cI cZ ad w h th n kn po B ht dr wh sb V la sl we of_ (upd (cpF B Sn k) k (B k)) tp re) := hD
    refine n_iinc (n := 1) (lv' := [(3, .int (nI (k + 1))), (2, .int (nI q)), (0, .ref (ad 0)), (1, .int (nI q))]) hx hb dX5_showPairs_22 hl (k := 3) rfl (by decide) rfl (fun ls hl => ?_)
    refine lv_goto (tgt := 4) hx hb dX5_showPairs_25 (by decide) ?_
    rw [cpF_s] at hP hD
    exact ih_4 () ls _ _ trivial hP hD hS (lv_sub hl [1, 2, 3, 0] rfl)
  · intro qx ls H locs hI_4 hP hD hS hl
    have hl : lv_has ls 7 [(2, .int (nI q)), (0, .ref (ad 0)), (1, .int (nI q)), (3, .int (nI 63))] := hl
    have hP : va_P D vwCl (mW5 cI cZ ad w h th n kn po B ht dr wh sb V la sl we of_ (cpF B Sn 63) tp re) H := hP
    have hD : va_D A (mW5 cI cZ ad w h th n kn po B ht dr wh sb V la sl we of_ (cpF B Sn 63) tp re) := hD
    have hI_4 : True := hI_4
    refine lv_iload_n hx hb dX5_showPairs_4 rfl (lv_at hl 3 rfl) ?_
    refine lv_bipush (v := nI 63) hx hb dX5_showPairs_5 (by decide) ?_
    refine n_icmp_ge (tgt := 28) hx hb dX5_showPairs_7 (by decide) (by decide) (by decide) (fun _ => ?_) (fun c7_2 => absurd c7_2 (by decide))
    refine lv_iconst (v := nI 0) hx hb dX5_showPairs_28 (by decide) ?_
    refine lv_istore_n (lv' := [(3, .int (nI 0)), (2, .int (nI q)), (0, .ref (ad 0)), (1, .int (nI q))]) hx hb dX5_showPairs_29 rfl hl (by decide) rfl (fun ls hl => ?_)
    rw [← spS_0 h B ht n q Sn, ← tpP_0 h ht tp q] at hP hD
    refine loopH (σ := Nat) (m := m) (Wf := fun H locs g => W p l e _ s m _ below meth cd H locs _ _ _ g) 30 7 (fun i qx => [(0, .ref (ad 0)), (1, .int (nI q)), (3, .int (nI i)), (2, .int (nI qx))]) (fun i qx => (mW5 cI cZ ad w h th n kn po B ht dr wh sb V la sl we of_ (spS h B ht n q Sn i) (tpP h ht tp q i) re)) (fun i qx => qx = q / prN h (hpF h ht) i) w ?_ ?_ 0 q ls _ _ (by omega) (by simp [prN]) hP hD hS (lv_sub hl [2, 3, 0, 1] rfl)
    · intro c qx ls H locs hi_30 hI_30 hP hD hS hl ih_30
      obtain ⟨rs, rfl⟩ : ∃ z, z = qx := ⟨_, rfl⟩
      have hl : lv_has ls 7 [(0, .ref (ad 0)), (1, .int (nI q)), (3, .int (nI c)), (2, .int (nI rs))] := hl
      have hP : va_P D vwCl (mW5 cI cZ ad w h th n kn po B ht dr wh sb V la sl we of_ (spS h B ht n q Sn c) (tpP h ht tp q c) re) H := hP
      have hD : va_D A (mW5 cI cZ ad w h th n kn po B ht dr wh sb V la sl we of_ (spS h B ht n q Sn c) (tpP h ht tp q c) re) := hD
      have hI_30 : rs = q / prN h (hpF h ht) c := hI_30
      have hhc := hht c
      have hrs : rs ≤ q := by rw [hI_30]; exact Nat.div_le_self _ _
      have hdl := dgP_le h ht q c
      refine lv_iload_n hx hb dX5_showPairs_30 rfl (lv_at hl 2 rfl) ?_
      refine lv_aload_n hx hb dX5_showPairs_31 rfl (lv_at hl 0 rfl) ?_
      refine va_get (C := RX5) (T := TX5) (N := 19) hx hb hts (by decide +kernel) hown hK hP 0 rfl rfl 1 (by decide) (hts (.fieldLink RX5 52 RX5 "w" "I") (by decide +kernel)) (fun _ h9 => h9) rfl dX5_showPairs_32 ?_
      refine n_icmp_ge (tgt := 135) hx hb dX5_showPairs_35 (by decide) (by omega) (by omega) (fun c35_3 => ?_) (fun c35_3 => ?_)
      · exact absurd c35_3 (by omega)
      refine lv_aload_n hx hb dX5_showPairs_38 rfl (lv_at hl 0 rfl) ?_
      refine va_get (C := RX5) (T := TX5) (N := 19) hx hb hts (by decide +kernel) hown hK hP 0 rfl rfl 2 (by decide) (hts (.fieldLink RX5 56 RX5 "h" "I") (by decide +kernel)) (fun _ h9 => h9) rfl dX5_showPairs_39 ?_
      refine lv_aload_n hx hb dX5_showPairs_42 rfl (lv_at hl 0 rfl) ?_
      refine va_get (C := RX5) (T := TX5) (N := 19) hx hb hts (by decide +kernel) hown hK hP 0 rfl rfl 4 (by decide) (hts (.fieldLink RX5 13 RX5 "heights" "[I") (by decide +kernel)) (fun _ h9 => h9) rfl dX5_showPairs_43 ?_
      refine lv_iload_n hx hb dX5_showPairs_46 rfl (lv_at hl 2 rfl) ?_
      refine n_iald hx hb hK hP 2 0 rfl rfl (by omega) (by decide) dX5_showPairs_47 ?_
      refine n_isub hx hb dX5_showPairs_48 (by omega) ?_
      refine lv_iconst (v := nI 2) hx hb dX5_showPairs_49 (by decide) ?_
      refine n_idiv hx hb dX5_showPairs_50 (by omega) (by omega) (by omega) ?_
      refine lv_iconst (v := nI 1) hx hb dX5_showPairs_51 (by decide) ?_
      refine n_iadd hx hb dX5_showPairs_52 ?_
      refine lv_istore (lv' := [(4, .int (nI (((h - (ht c)) / 2) + 1))), (0, .ref (ad 0)), (1, .int (nI q)), (3, .int (nI c)), (2, .int (nI rs))]) hx hb dX5_showPairs_53 hl (by decide) rfl (fun ls hl => ?_)
      refine lv_iload_n hx hb dX5_showPairs_55 rfl (lv_at hl 4 rfl) ?_
      refine lv_iload hx hb dX5_showPairs_56 (lv_at hl 0 rfl) ?_
      refine n_irem hx hb dX5_showPairs_58 (by omega) (by omega) (by omega) ?_
      refine rt_i (v := nI (dgP h ht q c)) (by rw [hI_30]; unfold dgP dgN; rw [hp_sub]) ?_
      refine lv_istore (lv' := [(5, .int (nI (dgP h ht q c))), (4, .int (nI (((h - (ht c)) / 2) + 1))), (0, .ref (ad 0)), (1, .int (nI q)), (3, .int (nI c)), (2, .int (nI rs))]) hx hb dX5_showPairs_59 hl (by decide) rfl (fun ls hl => ?_)
      refine lv_iload_n hx hb dX5_showPairs_61 rfl (lv_at hl 5 rfl) ?_
      refine lv_iload hx hb dX5_showPairs_62 (lv_at hl 1 rfl) ?_
      refine n_idiv hx hb dX5_showPairs_64 (by omega) (by omega) (by omega) ?_
      refine lv_istore_n (lv' := [(2, .int (nI (rs / (((h - (ht c)) / 2) + 1)))), (5, .int (nI (dgP h ht q c))), (4, .int (nI (((h - (ht c)) / 2) + 1))), (0, .ref (ad 0)), (1, .int (nI q)), (3, .int (nI c))]) hx hb dX5_showPairs_65 rfl hl (by decide) rfl (fun ls hl => ?_)
      refine lv_iconst (v := nI 0) hx hb dX5_showPairs_66 (by decide) ?_
      refine lv_istore (lv' := [(6, .int (nI 0)), (2, .int (nI (rs / (((h - (ht c)) / 2) + 1)))), (5, .int (nI (dgP h ht q c))), (4, .int (nI (((h - (ht c)) / 2) + 1))), (0, .ref (ad 0)), (1, .int (nI q)), (3, .int (nI c))]) hx hb dX5_showPairs_67 hl (by decide) rfl (fun ls hl => ?_)
      rw [← sp2_0] at hP hD
      refine loopH (σ := Unit) (m := m) (Wf := fun H locs g => W p l e _ s m _ below meth cd H locs _ _ _ g) 69 7 (fun i qx => [(2, .int (nI (rs / (((h - (ht c)) / 2) + 1)))), (5, .int (nI (dgP h ht q c))), (4, .int (nI (((h - (ht c)) / 2) + 1))), (0, .ref (ad 0)), (1, .int (nI q)), (3, .int (nI c)), (6, .int (nI i))]) (fun i qx => (mW5 cI cZ ad w h th n kn po B ht dr wh sb V la sl we of_ (sp2 h B ht n q Sn c i) (tpP h ht tp q c) re)) (fun i qx => True) (2 * dgP h ht q c) ?_ ?_ 0 () ls _ _ (by omega) trivial hP hD hS (lv_sub hl [1, 2, 3, 4, 5, 6, 0] rfl)
      · intro i qx ls H locs hi_69 hI_69 hP hD hS hl ih_69
        have hl : lv_has ls 7 [(2, .int (nI (rs / (((h - (ht c)) / 2) + 1)))), (5, .int (nI (dgP h ht q c))), (4, .int (nI (((h - (ht c)) / 2) + 1))), (0, .ref (ad 0)), (1, .int (nI q)), (3, .int (nI c)), (6, .int (nI i))] := hl
        have hP : va_P D vwCl (mW5 cI cZ ad w h th n kn po B ht dr wh sb V la sl we of_ (sp2 h B ht n q Sn c i) (tpP h ht tp q c) re) H := hP
        have hD : va_D A (mW5 cI cZ ad w h th n kn po B ht dr wh sb V la sl we of_ (sp2 h B ht n q Sn c i) (tpP h ht tp q c) re) := hD
        have hI_69 : True := hI_69
        refine lv_iload hx hb dX5_showPairs_69 (lv_at hl 6 rfl) ?_
        refine lv_iconst (v := nI 2) hx hb dX5_showPairs_71 (by decide) ?_
        refine lv_iload hx hb dX5_showPairs_72 (lv_at hl 1 rfl) ?_
        refine n_imul hx hb dX5_showPairs_74 ?_
        refine n_icmp_ge (tgt := 112) hx hb dX5_showPairs_75 (by decide) (by omega) (by omega) (fun c75_4 => ?_) (fun c75_4 => ?_)
        · exact absurd c75_4 (by omega)
        refine lv_aload_n hx hb dX5_showPairs_78 rfl (lv_at hl 3 rfl) ?_
        refine va_get (C := RX5) (T := TX5) (N := 19) hx hb hts (by decide +kernel) hown hK hP 0 rfl rfl 16 (by decide) (hts (.fieldLink RX5 42 RX5 "seen" "[I") (by decide +kernel)) (fun _ h9 => h9) rfl dX5_showPairs_79 ?_
        refine lv_bipush (v := nI 7) hx hb dX5_showPairs_82 (by decide) ?_
        refine lv_iload_n hx hb dX5_showPairs_84 rfl (lv_at hl 5 rfl) ?_
        refine n_imul hx hb dX5_showPairs_85 ?_
        refine lv_aload_n hx hb dX5_showPairs_86 rfl (lv_at hl 3 rfl) ?_
        refine va_get (C := RX5) (T := TX5) (N := 19) hx hb hts (by decide +kernel) hown hK hP 0 rfl rfl 4 (by decide) (hts (.fieldLink RX5 13 RX5 "heights" "[I") (by decide +kernel)) (fun _ h9 => h9) rfl dX5_showPairs_87 ?_
        refine lv_iload_n hx hb dX5_showPairs_90 rfl (lv_at hl 5 rfl) ?_
        refine n_iald hx hb hK hP 2 0 rfl rfl (by omega) (by decide) dX5_showPairs_91 ?_
        refine n_iadd hx hb dX5_showPairs_92 ?_
        refine lv_iload hx hb dX5_showPairs_93 (lv_at hl 6 rfl) ?_
        refine n_iadd hx hb dX5_showPairs_95 ?_
        refine lv_aload_n hx hb dX5_showPairs_96 rfl (lv_at hl 3 rfl) ?_
        refine va_get (C := RX5) (T := TX5) (N := 19) hx hb hts (by decide +kernel) hown hK hP 0 rfl rfl 6 (by decide) (hts (.fieldLink RX5 70 RX5 "n" "I") (by decide +kernel)) (fun _ h9 => h9) rfl dX5_showPairs_97 ?_
        refine lv_iload hx hb dX5_showPairs_100 (lv_at hl 6 rfl) ?_
        refine n_iadd hx hb dX5_showPairs_102 ?_
        refine lv_iconst (v := nI 2) hx hb dX5_showPairs_103 (by decide) ?_
        refine n_irem hx hb dX5_showPairs_104 (by omega) (by omega) (by omega) ?_
        refine n_iastR hx hb hK hP hD hS 11 0 rfl rfl (by omega) (by decide) dX5_showPairs_105 (fun H locs hP hD hS => ?_)
        have hP : va_P D vwCl (mW5 cI cZ ad w h th n kn po B ht dr wh sb V la sl we of_ (upd (sp2 h B ht n q Sn c i) (((7 * c) + (ht c)) + i) (nI ((n + i) % 2))) (tpP h ht tp q c) re) H := hP
        have hD : va_D A (mW5 cI cZ ad w h th n kn po B ht dr wh sb V la sl we of_ (upd (sp2 h B ht n q Sn c i) (((7 * c) + (ht c)) + i) (nI ((n + i) % 2))) (tpP h ht tp q c) re) := hD
        refine n_iinc (n := 1) (lv' := [(6, .int (nI (i + 1))), (2, .int (nI (rs / (((h - (ht c)) / 2) + 1)))), (5, .int (nI (dgP h ht q c))), (4, .int (nI (((h - (ht c)) / 2) + 1))), (0, .ref (ad 0)), (1, .int (nI q)), (3, .int (nI c))]) hx hb dX5_showPairs_106 hl (k := 6) rfl (by decide) rfl (fun ls hl => ?_)
        refine lv_goto (tgt := 69) hx hb dX5_showPairs_109 (by decide) ?_
        rw [sp2_s (by omega)] at hP hD
        exact ih_69 () ls _ _ trivial hP hD hS (lv_sub hl [1, 2, 3, 4, 5, 6, 0] rfl)
      · intro qx ls H locs hI_69 hP hD hS hl
        have hl : lv_has ls 7 [(2, .int (nI (rs / (((h - (ht c)) / 2) + 1)))), (5, .int (nI (dgP h ht q c))), (4, .int (nI (((h - (ht c)) / 2) + 1))), (0, .ref (ad 0)), (1, .int (nI q)), (3, .int (nI c)), (6, .int (nI (2 * dgP h ht q c)))] := hl
        have hP : va_P D vwCl (mW5 cI cZ ad w h th n kn po B ht dr wh sb V la sl we of_ (sp2 h B ht n q Sn c (2 * dgP h ht q c)) (tpP h ht tp q c) re) H := hP
        have hD : va_D A (mW5 cI cZ ad w h th n kn po B ht dr wh sb V la sl we of_ (sp2 h B ht n q Sn c (2 * dgP h ht q c)) (tpP h ht tp q c) re) := hD
        have hI_69 : True := hI_69
        refine lv_iload hx hb dX5_showPairs_69 (lv_at hl 6 rfl) ?_
        refine lv_iconst (v := nI 2) hx hb dX5_showPairs_71 (by decide) ?_
        refine lv_iload hx hb dX5_showPairs_72 (lv_at hl 1 rfl) ?_
        refine n_imul hx hb dX5_showPairs_74 ?_
        refine n_icmp_ge (tgt := 112) hx hb dX5_showPairs_75 (by decide) (by omega) (by omega) (fun c75_5 => ?_) (fun c75_5 => ?_)
        · skip
          refine lv_aload_n hx hb dX5_showPairs_112 rfl (lv_at hl 3 rfl) ?_
          refine va_get (C := RX5) (T := TX5) (N := 19) hx hb hts (by decide +kernel) hown hK hP 0 rfl rfl 17 (by decide) (hts (.fieldLink RX5 45 RX5 "tops" "[I") (by decide +kernel)) (fun _ h9 => h9) rfl dX5_showPairs_113 ?_
          refine lv_iload_n hx hb dX5_showPairs_116 rfl (lv_at hl 5 rfl) ?_
          refine lv_aload_n hx hb dX5_showPairs_117 rfl (lv_at hl 3 rfl) ?_
          refine va_get (C := RX5) (T := TX5) (N := 19) hx hb hts (by decide +kernel) hown hK hP 0 rfl rfl 4 (by decide) (hts (.fieldLink RX5 13 RX5 "heights" "[I") (by decide +kernel)) (fun _ h9 => h9) rfl dX5_showPairs_118 ?_
          refine lv_iload_n hx hb dX5_showPairs_121 rfl (lv_at hl 5 rfl) ?_
          refine n_iald hx hb hK hP 2 0 rfl rfl (by omega) (by decide) dX5_showPairs_122 ?_
          refine lv_iconst (v := nI 2) hx hb dX5_showPairs_123 (by decide) ?_
          refine lv_iload hx hb dX5_showPairs_124 (lv_at hl 1 rfl) ?_
          refine n_imul hx hb dX5_showPairs_126 ?_
          refine n_iadd hx hb dX5_showPairs_127 ?_
          refine n_iast (g := (tpP h ht tp q c)) hx hb hK hP hD hS 12 0 rfl rfl (by omega) (by decide) dX5_showPairs_128 (fun H locs hP hD hS => ?_)
          have hP : va_P D vwCl (mW5 cI cZ ad w h th n kn po B ht dr wh sb V la sl we of_ (sp2 h B ht n q Sn c (2 * dgP h ht q c)) (va_up (tpP h ht tp q c) c ((ht c) + (2 * (dgP h ht q c)))) re) H := hP
          have hD : va_D A (mW5 cI cZ ad w h th n kn po B ht dr wh sb V la sl we of_ (sp2 h B ht n q Sn c (2 * dgP h ht q c)) (va_up (tpP h ht tp q c) c ((ht c) + (2 * (dgP h ht q c)))) re) := hD
          refine n_iinc (n := 1) (lv' := [(3, .int (nI (c + 1))), (2, .int (nI (rs / (((h - (ht c)) / 2) + 1)))), (5, .int (nI (dgP h ht q c))), (4, .int (nI (((h - (ht c)) / 2) + 1))), (0, .ref (ad 0)), (1, .int (nI q)), (6, .int (nI (2 * dgP h ht q c)))]) hx hb dX5_showPairs_129 hl (k := 5) rfl (by decide) rfl (fun ls hl => ?_)
          refine lv_goto (tgt := 30) hx hb dX5_showPairs_132 (by decide) ?_
          rw [sp2_e, tpP_s] at hP hD
          exact ih_30 (rs / (((h - (ht c)) / 2) + 1)) ls _ _ (by rw [hI_30, Nat.div_div_eq_div_mul, prN, hp_sub]) hP hD hS (lv_sub hl [4, 5, 0, 1] rfl)
        · exact absurd c75_5 (by omega)
    · intro qx ls H locs hI_30 hP hD hS hl
      obtain ⟨rs, rfl⟩ : ∃ z, z = qx := ⟨_, rfl⟩
      have hl : lv_has ls 7 [(0, .ref (ad 0)), (1, .int (nI q)), (3, .int (nI w)), (2, .int (nI rs))] := hl
      have hP : va_P D vwCl (mW5 cI cZ ad w h th n kn po B ht dr wh sb V la sl we of_ (spS h B ht n q Sn w) (tpP h ht tp q w) re) H := hP
      have hD : va_D A (mW5 cI cZ ad w h th n kn po B ht dr wh sb V la sl we of_ (spS h B ht n q Sn w) (tpP h ht tp q w) re) := hD
      have hI_30 : rs = q / prN h (hpF h ht) w := hI_30
      refine lv_iload_n hx hb dX5_showPairs_30 rfl (lv_at hl 2 rfl) ?_
      refine lv_aload_n hx hb dX5_showPairs_31 rfl (lv_at hl 0 rfl) ?_
      refine va_get (C := RX5) (T := TX5) (N := 19) hx hb hts (by decide +kernel) hown hK hP 0 rfl rfl 1 (by decide) (hts (.fieldLink RX5 52 RX5 "w" "I") (by decide +kernel)) (fun _ h9 => h9) rfl dX5_showPairs_32 ?_
      refine n_icmp_ge (tgt := 135) hx hb dX5_showPairs_35 (by decide) (by omega) (by omega) (fun c35_6 => ?_) (fun c35_6 => ?_)
      · skip
        exact mu_vret (S := Unit) (wf := fun _ => (mW5 cI cZ ad w h th n kn po B ht dr wh sb V la sl we of_ (spS h B ht n q Sn w) (tpP h ht tp q w) re)) hx hb hr hlocks () trivial hP hD hS dX5_showPairs_135
      · exact absurd c35_6 (by omega)

set_option maxHeartbeats 4000000 in
set_option maxRecDepth 100000 in
theorem c5_beats_no (l : Launch) (D : va_G) (cI cJ cZ : ClassId) (ad : Nat → Nat) (w h th n kn po : Nat) (B : Nat → Int32) (ht dr wh sb : Nat → Nat) (V : Nat → Int32) (la sl we of_ : Nat → Nat) (Sn : Nat → Int32) (tp re : Nat → Nat)  (sz : Nat) (hd : Dm w h) (hn : n ≤ w * h) (hlast : 0 < n → dr (n - 1) < w ∧ 1 ≤ ht (dr (n - 1)) ∧ ht (dr (n - 1)) ≤ h) (hht : ∀ c, ht c ≤ h) (hbad : 0 ≤ wnowI w h B ht dr n ∨ 30 < w * h - n ∨ anyB (odF h ht) w = true) : Met l yX5_beats wsX5_beats (k2_rm 4 97) (MPc D [.ref (ad 0)] (mW5 cI cZ ad w h th n kn po B ht dr wh sb V la sl we of_ Sn tp re) (tyA cI cJ cZ) sz) (mQi D (fun r9 (_ : Unit) => r9 = bI false) (fun _ => (mW5 cI cZ ad w h 1 n kn po B ht dr wh sb V la sl we of_ Sn tp re)) (va_A (mW5 cI cZ ad w h th n kn po B ht dr wh sb V la sl we of_ Sn tp re) sz)) 0 0 (va_A (mW5 cI cZ ad w h th n kn po B ht dr wh sb V la sl we of_ Sn tp re) sz) := by
  refine mu_head (Qc := fun A => mQi D (fun r9 (_ : Unit) => r9 = bI false) (fun _ => (mW5 cI cZ ad w h 1 n kn po B ht dr wh sb V la sl we of_ Sn tp re)) A) (cc := cX5_beats) (maxL := 6) (ret := (some .boolean)) (by decide) rfl (Nat.le_of_ble_eq_true rfl) ?_
  intro p e s m below meth cd ls A hx hb hr hlocks hnm hts hown hml hA hP hK hD hN hS hl
  have hl : lv_has ls 6 [(0, .ref (ad 0))] := hl
  have hd0 := hd
  obtain ⟨h3w, hw9, h3h, hh7, hwh, h64⟩ := hd0
  refine lv_iconst (v := nI 0) hx hb dX5_beats_0 (by decide) ?_
  refine rt_i (v := bI false) rfl ?_
  refine lv_istore_n (lv' := [(1, .int (bI false)), (0, .ref (ad 0))]) hx hb dX5_beats_1 rfl hl (by decide) rfl (fun ls hl => ?_)
  refine lv_iconst (v := nI 0) hx hb dX5_beats_2 (by decide) ?_
  refine lv_istore_n (lv' := [(2, .int (nI 0)), (1, .int (bI false)), (0, .ref (ad 0))]) hx hb dX5_beats_3 rfl hl (by decide) rfl (fun ls hl => ?_)
  refine loopW (σ := Bool) (m := m) 4 6 (fun i qx => [(0, .ref (ad 0)), (2, .int (nI i)), (1, .int (bI qx))]) (fun i qx => qx = anyB (odF h ht) i) w ?_ ?_ 0 false ls (by omega) rfl (lv_sub hl [2, 0, 1] rfl)
  · intro c qx ls hi_4 hI_4 hl ih_4
    obtain ⟨od, rfl⟩ : ∃ z, z = qx := ⟨_, rfl⟩
    have hl : lv_has ls 6 [(0, .ref (ad 0)), (2, .int (nI c)), (1, .int (bI od))] := hl
    have hI_4 : od = anyB (odF h ht) c := hI_4
    have hhc := hht c
    refine lv_iload_n hx hb dX5_beats_4 rfl (lv_at hl 1 rfl) ?_
    refine lv_aload_n hx hb dX5_beats_5 rfl (lv_at hl 0 rfl) ?_
    refine va_get (C := RX5) (T := TX5) (N := 19) hx hb hts (by decide +kernel) hown hK hP 0 rfl rfl 1 (by decide) (hts (.fieldLink RX5 52 RX5 "w" "I") (by decide +kernel)) (fun _ h9 => h9) rfl dX5_beats_6 ?_
    refine n_icmp_ge (tgt := 45) hx hb dX5_beats_9 (by decide) (by omega) (by omega) (fun c9_1 => ?_) (fun c9_1 => ?_)
    · exact absurd c9_1 (by omega)
    refine lv_iload_n hx hb dX5_beats_12 rfl (lv_at hl 2 rfl) ?_
    refine b_if_ne (tgt := 33) hx hb dX5_beats_13 (by decide) (fun c13_2 => ?_) (fun c13_2 => ?_)
    · skip
      refine lv_iconst (v := nI 1) hx hb dX5_beats_33 (by decide) ?_
      refine rt_i (v := bI true) rfl ?_
      refine lv_goto (tgt := 38) hx hb dX5_beats_34 (by decide) ?_
      refine lv_istore_n (lv' := [(1, .int (bI true)), (0, .ref (ad 0)), (2, .int (nI c))]) hx hb dX5_beats_38 rfl hl (by decide) rfl (fun ls hl => ?_)
      refine n_iinc (n := 1) (lv' := [(2, .int (nI (c + 1))), (1, .int (bI true)), (0, .ref (ad 0))]) hx hb dX5_beats_39 hl (k := 2) rfl (by decide) rfl (fun ls hl => ?_)
      refine lv_goto (tgt := 4) hx hb dX5_beats_42 (by decide) ?_
      exact ih_4 true ls (by rw [anyB, ← hI_4, c13_2]; rfl) (lv_sub hl [2, 0, 1] rfl)
    refine lv_aload_n hx hb dX5_beats_16 rfl (lv_at hl 0 rfl) ?_
    refine va_get (C := RX5) (T := TX5) (N := 19) hx hb hts (by decide +kernel) hown hK hP 0 rfl rfl 2 (by decide) (hts (.fieldLink RX5 56 RX5 "h" "I") (by decide +kernel)) (fun _ h9 => h9) rfl dX5_beats_17 ?_
    refine lv_aload_n hx hb dX5_beats_20 rfl (lv_at hl 0 rfl) ?_
    refine va_get (C := RX5) (T := TX5) (N := 19) hx hb hts (by decide +kernel) hown hK hP 0 rfl rfl 4 (by decide) (hts (.fieldLink RX5 13 RX5 "heights" "[I") (by decide +kernel)) (fun _ h9 => h9) rfl dX5_beats_21 ?_
    refine lv_iload_n hx hb dX5_beats_24 rfl (lv_at hl 1 rfl) ?_
    refine n_iald hx hb hK hP 2 0 rfl rfl (by omega) (by decide) dX5_beats_25 ?_
    refine n_isub hx hb dX5_beats_26 (by omega) ?_
    refine lv_iconst (v := nI 2) hx hb dX5_beats_27 (by decide) ?_
    refine n_irem hx hb dX5_beats_28 (by omega) (by omega) (by omega) ?_
    refine lv_iconst (v := nI 1) hx hb dX5_beats_29 (by decide) ?_
    refine n_icmp_ne (tgt := 37) hx hb dX5_beats_30 (by decide) (by omega) (by omega) (fun c30_3 => ?_) (fun c30_3 => ?_)
    · skip
      refine lv_iconst (v := nI 0) hx hb dX5_beats_37 (by decide) ?_
      refine rt_i (v := bI false) rfl ?_
      refine lv_istore_n (lv' := [(1, .int (bI false)), (0, .ref (ad 0)), (2, .int (nI c))]) hx hb dX5_beats_38 rfl hl (by decide) rfl (fun ls hl => ?_)
      refine n_iinc (n := 1) (lv' := [(2, .int (nI (c + 1))), (1, .int (bI false)), (0, .ref (ad 0))]) hx hb dX5_beats_39 hl (k := 2) rfl (by decide) rfl (fun ls hl => ?_)
      refine lv_goto (tgt := 4) hx hb dX5_beats_42 (by decide) ?_
      exact ih_4 false ls (by rw [anyB, ← hI_4, c13_2, odF, decide_eq_false c30_3]; rfl) (lv_sub hl [2, 0, 1] rfl)
    refine lv_iconst (v := nI 1) hx hb dX5_beats_33 (by decide) ?_
    refine rt_i (v := bI true) rfl ?_
    refine lv_goto (tgt := 38) hx hb dX5_beats_34 (by decide) ?_
    refine lv_istore_n (lv' := [(1, .int (bI true)), (0, .ref (ad 0)), (2, .int (nI c))]) hx hb dX5_beats_38 rfl hl (by decide) rfl (fun ls hl => ?_)
    refine n_iinc (n := 1) (lv' := [(2, .int (nI (c + 1))), (1, .int (bI true)), (0, .ref (ad 0))]) hx hb dX5_beats_39 hl (k := 2) rfl (by decide) rfl (fun ls hl => ?_)
    refine lv_goto (tgt := 4) hx hb dX5_beats_42 (by decide) ?_
    exact ih_4 true ls (by rw [anyB, ← hI_4, c13_2, odF, decide_eq_true c30_3]; rfl) (lv_sub hl [2, 0, 1] rfl)
  · intro qx ls hI_4 hl
    obtain ⟨od, rfl⟩ : ∃ z, z = qx := ⟨_, rfl⟩
    have hl : lv_has ls 6 [(0, .ref (ad 0)), (2, .int (nI w)), (1, .int (bI od))] := hl
    have hI_4 : od = anyB (odF h ht) w := hI_4
    refine lv_iload_n hx hb dX5_beats_4 rfl (lv_at hl 1 rfl) ?_
    refine lv_aload_n hx hb dX5_beats_5 rfl (lv_at hl 0 rfl) ?_
    refine va_get (C := RX5) (T := TX5) (N := 19) hx hb hts (by decide +kernel) hown hK hP 0 rfl rfl 1 (by decide) (hts (.fieldLink RX5 52 RX5 "w" "I") (by decide +kernel)) (fun _ h9 => h9) rfl dX5_beats_6 ?_
    refine n_icmp_ge (tgt := 45) hx hb dX5_beats_9 (by decide) (by omega) (by omega) (fun c9_4 => ?_) (fun c9_4 => ?_)
    · skip
      refine lv_aload_n hx hb dX5_beats_45 rfl (lv_at hl 0 rfl) ?_
      refine lv_aload_n hx hb dX5_beats_46 rfl (lv_at hl 0 rfl) ?_
      refine ro_call (W.runV (As := []) (rest := [.ref (ad 0)]) ⟨hx, hb, hml, hown, hts⟩ (c_winnerNow l D cI cJ cZ ad w h th n kn po B ht dr wh sb V la sl we of_ Sn tp re hd hn hlast) (cwV 0 hts gX5_beats_X5_winnerNow rfl rfl rfl (by decide +kernel) ⟨Nat.le_of_ble_eq_true rfl, Nat.le_of_ble_eq_true rfl⟩) ⟨RPc.blind, va_recv hK hP (ci := 5) (q0 := 0) rfl rfl, (RPc.at (hP.sub [0, 1, 2, 3, 4, 5, 6, 7, 8, 9, 10, 11, 12, 13] rfl) hK hN)⟩ rfl rfl hl.1 rfl (lv_room (Nat.le_of_ble_eq_true rfl)) dX5_beats_47 ⟨Nat.zero_le _, Nat.zero_le _⟩) ?_
      refine lv_if_ge (tgt := 76) hx hb dX5_beats_50 (by decide) (fun c50_5 => ?_) (fun c50_5 => ?_)
      · skip
        refine lv_iconst (v := nI 1) hx hb dX5_beats_76 (by decide) ?_
        refine rt_i (v := bI true) rfl ?_
        refine lv_goto (tgt := 81) hx hb dX5_beats_77 (by decide) ?_
        refine lv_iconst (v := nI 0) hx hb dX5_beats_81 (by decide) ?_
        refine rt_i (v := bI false) rfl ?_
        refine mu_calli (wr := []) (va_runV (As := [.int (bI true), .int (bI false)]) (rest := []) ⟨hx, hb, hml, hown, hts⟩ (c5_refused l D cI cJ cZ ad w h th n kn po B ht dr wh sb V la sl we of_ Sn tp re true false _ ) (cwV 2 hts gX5_beats_X5_refused rfl rfl rfl (by decide +kernel) ⟨Nat.le_of_ble_eq_true rfl, Nat.le_of_ble_eq_true rfl⟩) ⟨MPc.blind, va_recv hK hP (ci := 5) (q0 := 0) rfl rfl, (MPc.at (hP.sub [0, 1, 2, 3, 4, 5, 6, 7, 8, 9, 10, 11, 12, 13] rfl) (hD.sub [0, 1, 2, 3, 4, 5, 6, 7, 8, 9, 10, 11, 12, 13] (by decide) rfl) hK hN)⟩ rfl rfl hl.1 rfl (lv_room (Nat.le_of_ble_eq_true rfl)) dX5_beats_82 ⟨Nat.zero_le _, Nat.zero_le _⟩) hP hD hS hA [0, 1, 2, 3, 4, 5, 6, 7, 8, 9, 10, 11, 12, 13] [] rfl rfl (by decide) (by decide) (fun rr u1 H locs hw hP hD hS => ?_)
        obtain rfl := hw
        have hP : va_P D vwCl (mW5 cI cZ ad w h (thN true false) n kn po B ht dr wh sb V la sl we of_ Sn tp re) H := hP
        have hD : va_D A (mW5 cI cZ ad w h (thN true false) n kn po B ht dr wh sb V la sl we of_ Sn tp re) := hD
        refine b_if_eq (tgt := 90) hx hb dX5_beats_85 (by decide) (fun c85_6 => absurd c85_6 (by decide)) (fun _ => ?_)
        refine lv_iconst (v := nI 0) hx hb dX5_beats_88 (by decide) ?_
        refine rt_i (v := bI false) rfl ?_
        exact mu_zret (S := Unit) (wf := fun _ => (mW5 cI cZ ad w h 1 n kn po B ht dr wh sb V la sl we of_ Sn tp re)) hx hb hr hlocks (by first | rfl | exact bI_nar _) () rfl hP hD hS dX5_beats_89
      refine lv_aload_n hx hb dX5_beats_53 rfl (lv_at hl 0 rfl) ?_
      refine va_get (C := RX5) (T := TX5) (N := 19) hx hb hts (by decide +kernel) hown hK hP 0 rfl rfl 1 (by decide) (hts (.fieldLink RX5 52 RX5 "w" "I") (by decide +kernel)) (fun _ h9 => h9) rfl dX5_beats_54 ?_
      refine lv_aload_n hx hb dX5_beats_57 rfl (lv_at hl 0 rfl) ?_
      refine va_get (C := RX5) (T := TX5) (N := 19) hx hb hts (by decide +kernel) hown hK hP 0 rfl rfl 2 (by decide) (hts (.fieldLink RX5 56 RX5 "h" "I") (by decide +kernel)) (fun _ h9 => h9) rfl dX5_beats_58 ?_
      refine n_imul hx hb dX5_beats_61 ?_
      refine lv_aload_n hx hb dX5_beats_62 rfl (lv_at hl 0 rfl) ?_
      refine va_get (C := RX5) (T := TX5) (N := 19) hx hb hts (by decide +kernel) hown hK hP 0 rfl rfl 6 (by decide) (hts (.fieldLink RX5 70 RX5 "n" "I") (by decide +kernel)) (fun _ h9 => h9) rfl dX5_beats_63 ?_
      refine n_isub hx hb dX5_beats_66 (by omega) ?_
      refine lv_bipush (v := nI 30) hx hb dX5_beats_67 (by decide) ?_
      refine n_icmp_gt (tgt := 76) hx hb dX5_beats_69 (by decide) (by omega) (by omega) (fun c69_7 => ?_) (fun c69_7 => ?_)
      · skip
        refine lv_iconst (v := nI 1) hx hb dX5_beats_76 (by decide) ?_
        refine rt_i (v := bI true) rfl ?_
        refine lv_goto (tgt := 81) hx hb dX5_beats_77 (by decide) ?_
        refine lv_iconst (v := nI 0) hx hb dX5_beats_81 (by decide) ?_
        refine rt_i (v := bI false) rfl ?_
        refine mu_calli (wr := []) (va_runV (As := [.int (bI true), .int (bI false)]) (rest := []) ⟨hx, hb, hml, hown, hts⟩ (c5_refused l D cI cJ cZ ad w h th n kn po B ht dr wh sb V la sl we of_ Sn tp re true false _ ) (cwV 2 hts gX5_beats_X5_refused rfl rfl rfl (by decide +kernel) ⟨Nat.le_of_ble_eq_true rfl, Nat.le_of_ble_eq_true rfl⟩) ⟨MPc.blind, va_recv hK hP (ci := 5) (q0 := 0) rfl rfl, (MPc.at (hP.sub [0, 1, 2, 3, 4, 5, 6, 7, 8, 9, 10, 11, 12, 13] rfl) (hD.sub [0, 1, 2, 3, 4, 5, 6, 7, 8, 9, 10, 11, 12, 13] (by decide) rfl) hK hN)⟩ rfl rfl hl.1 rfl (lv_room (Nat.le_of_ble_eq_true rfl)) dX5_beats_82 ⟨Nat.zero_le _, Nat.zero_le _⟩) hP hD hS hA [0, 1, 2, 3, 4, 5, 6, 7, 8, 9, 10, 11, 12, 13] [] rfl rfl (by decide) (by decide) (fun rr u1 H locs hw hP hD hS => ?_)
        obtain rfl := hw
        have hP : va_P D vwCl (mW5 cI cZ ad w h (thN true false) n kn po B ht dr wh sb V la sl we of_ Sn tp re) H := hP
        have hD : va_D A (mW5 cI cZ ad w h (thN true false) n kn po B ht dr wh sb V la sl we of_ Sn tp re) := hD
        refine b_if_eq (tgt := 90) hx hb dX5_beats_85 (by decide) (fun c85_8 => absurd c85_8 (by decide)) (fun _ => ?_)
        refine lv_iconst (v := nI 0) hx hb dX5_beats_88 (by decide) ?_
        refine rt_i (v := bI false) rfl ?_
        exact mu_zret (S := Unit) (wf := fun _ => (mW5 cI cZ ad w h 1 n kn po B ht dr wh sb V la sl we of_ Sn tp re)) hx hb hr hlocks (by first | rfl | exact bI_nar _) () rfl hP hD hS dX5_beats_89
      refine lv_iload_n hx hb dX5_beats_72 rfl (lv_at hl 2 rfl) ?_
      refine b_if_eq (tgt := 80) hx hb dX5_beats_73 (by decide) (fun c73_9 => ?_) (fun c73_9 => ?_)
      · exact absurd c73_9 (fun q => hbad.elim c50_5 (fun z => z.elim (fun z => absurd z (by omega)) (fun z => by rw [← hI_4, q] at z; cases z)))
      refine lv_iconst (v := nI 1) hx hb dX5_beats_76 (by decide) ?_
      refine rt_i (v := bI true) rfl ?_
      refine lv_goto (tgt := 81) hx hb dX5_beats_77 (by decide) ?_
      refine lv_iconst (v := nI 0) hx hb dX5_beats_81 (by decide) ?_
      refine rt_i (v := bI false) rfl ?_
      refine mu_calli (wr := []) (va_runV (As := [.int (bI true), .int (bI false)]) (rest := []) ⟨hx, hb, hml, hown, hts⟩ (c5_refused l D cI cJ cZ ad w h th n kn po B ht dr wh sb V la sl we of_ Sn tp re true false _ ) (cwV 2 hts gX5_beats_X5_refused rfl rfl rfl (by decide +kernel) ⟨Nat.le_of_ble_eq_true rfl, Nat.le_of_ble_eq_true rfl⟩) ⟨MPc.blind, va_recv hK hP (ci := 5) (q0 := 0) rfl rfl, (MPc.at (hP.sub [0, 1, 2, 3, 4, 5, 6, 7, 8, 9, 10, 11, 12, 13] rfl) (hD.sub [0, 1, 2, 3, 4, 5, 6, 7, 8, 9, 10, 11, 12, 13] (by decide) rfl) hK hN)⟩ rfl rfl hl.1 rfl (lv_room (Nat.le_of_ble_eq_true rfl)) dX5_beats_82 ⟨Nat.zero_le _, Nat.zero_le _⟩) hP hD hS hA [0, 1, 2, 3, 4, 5, 6, 7, 8, 9, 10, 11, 12, 13] [] rfl rfl (by decide) (by decide) (fun rr u1 H locs hw hP hD hS => ?_)
      obtain rfl := hw
      have hP : va_P D vwCl (mW5 cI cZ ad w h (thN true false) n kn po B ht dr wh sb V la sl we of_ Sn tp re) H := hP
      have hD : va_D A (mW5 cI cZ ad w h (thN true false) n kn po B ht dr wh sb V la sl we of_ Sn tp re) := hD
      refine b_if_eq (tgt := 90) hx hb dX5_beats_85 (by decide) (fun c85_10 => absurd c85_10 (by decide)) (fun _ => ?_)
      refine lv_iconst (v := nI 0) hx hb dX5_beats_88 (by decide) ?_
      refine rt_i (v := bI false) rfl ?_
      exact mu_zret (S := Unit) (wf := fun _ => (mW5 cI cZ ad w h 1 n kn po B ht dr wh sb V la sl we of_ Sn tp re)) hx hb hr hlocks (by first | rfl | exact bI_nar _) () rfl hP hD hS dX5_beats_89
    · exact absurd c9_4 (by omega)

set_option maxHeartbeats 4000000 in
set_option maxRecDepth 100000 in
theorem c5_beats_ok (l : Launch) (D : va_G) (cI cJ cZ : ClassId) (ad : Nat → Nat) (w h th n kn po : Nat) (B : Nat → Int32) (ht dr wh sb : Nat → Nat) (V : Nat → Int32) (la sl we of_ : Nat → Nat) (Sn : Nat → Int32) (tp re : Nat → Nat)  (sz : Nat) (hd : Dm w h) (hn : n ≤ w * h) (hlast : 0 < n → dr (n - 1) < w ∧ 1 ≤ ht (dr (n - 1)) ∧ ht (dr (n - 1)) ≤ h) (R1 : PrOK w h B ht n) (hov : ¬ 0 ≤ wnowI w h B ht dr n) (h30 : ¬ 30 < w * h - n) (hem : emp h ht w ≤ 30) (hev0 : anyB (odF h ht) w = false) : Met l yX5_beats wsX5_beats (k2_rm 4 97) (MPc D [.ref (ad 0)] (mW5 cI cZ ad w h th n kn po B ht dr wh sb V la sl we of_ Sn tp re) (tyA cI cJ cZ) sz) (mQi D (fun r9 (u : BtS) => r9 = bI (btB w h B ht n)) (fun u => (mW5 cI cZ ad w h 0 n 0 po B ht dr wh sb V la sl u.1 of_ u.2.1 u.2.2.1 u.2.2.2)) (va_A (mW5 cI cZ ad w h th n kn po B ht dr wh sb V la sl we of_ Sn tp re) sz)) 0 0 (va_A (mW5 cI cZ ad w h th n kn po B ht dr wh sb V la sl we of_ Sn tp re) sz) := by
  refine mu_head (Qc := fun A => mQi D (fun r9 (u : BtS) => r9 = bI (btB w h B ht n)) (fun u => (mW5 cI cZ ad w h 0 n 0 po B ht dr wh sb V la sl u.1 of_ u.2.1 u.2.2.1 u.2.2.2)) A) (cc := cX5_beats) (maxL := 6) (ret := (some .boolean)) (by decide) rfl (Nat.le_of_ble_eq_true rfl) ?_
  intro p e s m below meth cd ls A hx hb hr hlocks hnm hts hown hml hA hP hK hD hN hS hl
  have hl : lv_has ls 6 [(0, .ref (ad 0))] := hl
  have hd0 := hd
  obtain ⟨h3w, hw9, h3h, hh7, hwh, h64⟩ := hd0
  have hht := R1.2.1
  refine lv_iconst (v := nI 0) hx hb dX5_beats_0 (by decide) ?_
  refine rt_i (v := bI false) rfl ?_
  refine lv_istore_n (lv' := [(1, .int (bI false)), (0, .ref (ad 0))]) hx hb dX5_beats_1 rfl hl (by decide) rfl (fun ls hl => ?_)
  refine lv_iconst (v := nI 0) hx hb dX5_beats_2 (by decide) ?_
  refine lv_istore_n (lv' := [(2, .int (nI 0)), (1, .int (bI false)), (0, .ref (ad 0))]) hx hb dX5_beats_3 rfl hl (by decide) rfl (fun ls hl => ?_)
  refine loopW (σ := Bool) (m := m) 4 6 (fun i qx => [(0, .ref (ad 0)), (2, .int (nI i)), (1, .int (bI qx))]) (fun i qx => qx = anyB (odF h ht) i) w ?_ ?_ 0 false ls (by omega) rfl (lv_sub hl [2, 0, 1] rfl)
  · intro c qx ls hi_4 hI_4 hl ih_4
    obtain ⟨od, rfl⟩ : ∃ z, z = qx := ⟨_, rfl⟩
    have hl : lv_has ls 6 [(0, .ref (ad 0)), (2, .int (nI c)), (1, .int (bI od))] := hl
    have hI_4 : od = anyB (odF h ht) c := hI_4
    have hhc := hht c
    refine lv_iload_n hx hb dX5_beats_4 rfl (lv_at hl 1 rfl) ?_
    refine lv_aload_n hx hb dX5_beats_5 rfl (lv_at hl 0 rfl) ?_
    refine va_get (C := RX5) (T := TX5) (N := 19) hx hb hts (by decide +kernel) hown hK hP 0 rfl rfl 1 (by decide) (hts (.fieldLink RX5 52 RX5 "w" "I") (by decide +kernel)) (fun _ h9 => h9) rfl dX5_beats_6 ?_
    refine n_icmp_ge (tgt := 45) hx hb dX5_beats_9 (by decide) (by omega) (by omega) (fun c9_1 => ?_) (fun c9_1 => ?_)
    · exact absurd c9_1 (by omega)
    refine lv_iload_n hx hb dX5_beats_12 rfl (lv_at hl 2 rfl) ?_
    refine b_if_ne (tgt := 33) hx hb dX5_beats_13 (by decide) (fun c13_2 => ?_) (fun c13_2 => ?_)
    · skip
      refine lv_iconst (v := nI 1) hx hb dX5_beats_33 (by decide) ?_
      refine rt_i (v := bI true) rfl ?_
      refine lv_goto (tgt := 38) hx hb dX5_beats_34 (by decide) ?_
      refine lv_istore_n (lv' := [(1, .int (bI true)), (0, .ref (ad 0)), (2, .int (nI c))]) hx hb dX5_beats_38 rfl hl (by decide) rfl (fun ls hl => ?_)
      refine n_iinc (n := 1) (lv' := [(2, .int (nI (c + 1))), (1, .int (bI true)), (0, .ref (ad 0))]) hx hb dX5_beats_39 hl (k := 2) rfl (by decide) rfl (fun ls hl => ?_)
      refine lv_goto (tgt := 4) hx hb dX5_beats_42 (by decide) ?_
      exact ih_4 true ls (by rw [anyB, ← hI_4, c13_2]; rfl) (lv_sub hl [2, 0, 1] rfl)
    refine lv_aload_n hx hb dX5_beats_16 rfl (lv_at hl 0 rfl) ?_
    refine va_get (C := RX5) (T := TX5) (N := 19) hx hb hts (by decide +kernel) hown hK hP 0 rfl rfl 2 (by decide) (hts (.fieldLink RX5 56 RX5 "h" "I") (by decide +kernel)) (fun _ h9 => h9) rfl dX5_beats_17 ?_
    refine lv_aload_n hx hb dX5_beats_20 rfl (lv_at hl 0 rfl) ?_
    refine va_get (C := RX5) (T := TX5) (N := 19) hx hb hts (by decide +kernel) hown hK hP 0 rfl rfl 4 (by decide) (hts (.fieldLink RX5 13 RX5 "heights" "[I") (by decide +kernel)) (fun _ h9 => h9) rfl dX5_beats_21 ?_
    refine lv_iload_n hx hb dX5_beats_24 rfl (lv_at hl 1 rfl) ?_
    refine n_iald hx hb hK hP 2 0 rfl rfl (by omega) (by decide) dX5_beats_25 ?_
    refine n_isub hx hb dX5_beats_26 (by omega) ?_
    refine lv_iconst (v := nI 2) hx hb dX5_beats_27 (by decide) ?_
    refine n_irem hx hb dX5_beats_28 (by omega) (by omega) (by omega) ?_
    refine lv_iconst (v := nI 1) hx hb dX5_beats_29 (by decide) ?_
    refine n_icmp_ne (tgt := 37) hx hb dX5_beats_30 (by decide) (by omega) (by omega) (fun c30_3 => ?_) (fun c30_3 => ?_)
    · skip
      refine lv_iconst (v := nI 0) hx hb dX5_beats_37 (by decide) ?_
      refine rt_i (v := bI false) rfl ?_
      refine lv_istore_n (lv' := [(1, .int (bI false)), (0, .ref (ad 0)), (2, .int (nI c))]) hx hb dX5_beats_38 rfl hl (by decide) rfl (fun ls hl => ?_)
      refine n_iinc (n := 1) (lv' := [(2, .int (nI (c + 1))), (1, .int (bI false)), (0, .ref (ad 0))]) hx hb dX5_beats_39 hl (k := 2) rfl (by decide) rfl (fun ls hl => ?_)
      refine lv_goto (tgt := 4) hx hb dX5_beats_42 (by decide) ?_
      exact ih_4 false ls (by rw [anyB, ← hI_4, c13_2, odF, decide_eq_false c30_3]; rfl) (lv_sub hl [2, 0, 1] rfl)
    refine lv_iconst (v := nI 1) hx hb dX5_beats_33 (by decide) ?_
    refine rt_i (v := bI true) rfl ?_
    refine lv_goto (tgt := 38) hx hb dX5_beats_34 (by decide) ?_
    refine lv_istore_n (lv' := [(1, .int (bI true)), (0, .ref (ad 0)), (2, .int (nI c))]) hx hb dX5_beats_38 rfl hl (by decide) rfl (fun ls hl => ?_)
    refine n_iinc (n := 1) (lv' := [(2, .int (nI (c + 1))), (1, .int (bI true)), (0, .ref (ad 0))]) hx hb dX5_beats_39 hl (k := 2) rfl (by decide) rfl (fun ls hl => ?_)
    refine lv_goto (tgt := 4) hx hb dX5_beats_42 (by decide) ?_
    exact ih_4 true ls (by rw [anyB, ← hI_4, c13_2, odF, decide_eq_true c30_3]; rfl) (lv_sub hl [2, 0, 1] rfl)
  · intro qx ls hI_4 hl
    obtain ⟨od, rfl⟩ : ∃ z, z = qx := ⟨_, rfl⟩
    have hl : lv_has ls 6 [(0, .ref (ad 0)), (2, .int (nI w)), (1, .int (bI od))] := hl
    have hI_4 : od = anyB (odF h ht) w := hI_4
    refine lv_iload_n hx hb dX5_beats_4 rfl (lv_at hl 1 rfl) ?_
    refine lv_aload_n hx hb dX5_beats_5 rfl (lv_at hl 0 rfl) ?_
    refine va_get (C := RX5) (T := TX5) (N := 19) hx hb hts (by decide +kernel) hown hK hP 0 rfl rfl 1 (by decide) (hts (.fieldLink RX5 52 RX5 "w" "I") (by decide +kernel)) (fun _ h9 => h9) rfl dX5_beats_6 ?_
    refine n_icmp_ge (tgt := 45) hx hb dX5_beats_9 (by decide) (by omega) (by omega) (fun c9_4 => ?_) (fun c9_4 => ?_)
    · skip
      obtain rfl : od = false := hI_4.trans hev0
      refine lv_aload_n hx hb dX5_beats_45 rfl (lv_at hl 0 rfl) ?_
      refine lv_aload_n hx hb dX5_beats_46 rfl (lv_at hl 0 rfl) ?_
      refine ro_call (W.runV (As := []) (rest := [.ref (ad 0)]) ⟨hx, hb, hml, hown, hts⟩ (c_winnerNow l D cI cJ cZ ad w h th n kn po B ht dr wh sb V la sl we of_ Sn tp re hd hn hlast) (cwV 0 hts gX5_beats_X5_winnerNow rfl rfl rfl (by decide +kernel) ⟨Nat.le_of_ble_eq_true rfl, Nat.le_of_ble_eq_true rfl⟩) ⟨RPc.blind, va_recv hK hP (ci := 5) (q0 := 0) rfl rfl, (RPc.at (hP.sub [0, 1, 2, 3, 4, 5, 6, 7, 8, 9, 10, 11, 12, 13] rfl) hK hN)⟩ rfl rfl hl.1 rfl (lv_room (Nat.le_of_ble_eq_true rfl)) dX5_beats_47 ⟨Nat.zero_le _, Nat.zero_le _⟩) ?_
      refine lv_if_ge (tgt := 76) hx hb dX5_beats_50 (by decide) (fun c50_5 => ?_) (fun c50_5 => ?_)
      · exact absurd c50_5 hov
      refine lv_aload_n hx hb dX5_beats_53 rfl (lv_at hl 0 rfl) ?_
      refine va_get (C := RX5) (T := TX5) (N := 19) hx hb hts (by decide +kernel) hown hK hP 0 rfl rfl 1 (by decide) (hts (.fieldLink RX5 52 RX5 "w" "I") (by decide +kernel)) (fun _ h9 => h9) rfl dX5_beats_54 ?_
      refine lv_aload_n hx hb dX5_beats_57 rfl (lv_at hl 0 rfl) ?_
      refine va_get (C := RX5) (T := TX5) (N := 19) hx hb hts (by decide +kernel) hown hK hP 0 rfl rfl 2 (by decide) (hts (.fieldLink RX5 56 RX5 "h" "I") (by decide +kernel)) (fun _ h9 => h9) rfl dX5_beats_58 ?_
      refine n_imul hx hb dX5_beats_61 ?_
      refine lv_aload_n hx hb dX5_beats_62 rfl (lv_at hl 0 rfl) ?_
      refine va_get (C := RX5) (T := TX5) (N := 19) hx hb hts (by decide +kernel) hown hK hP 0 rfl rfl 6 (by decide) (hts (.fieldLink RX5 70 RX5 "n" "I") (by decide +kernel)) (fun _ h9 => h9) rfl dX5_beats_63 ?_
      refine n_isub hx hb dX5_beats_66 (by omega) ?_
      refine lv_bipush (v := nI 30) hx hb dX5_beats_67 (by decide) ?_
      refine n_icmp_gt (tgt := 76) hx hb dX5_beats_69 (by decide) (by omega) (by omega) (fun c69_6 => ?_) (fun c69_6 => ?_)
      · exact absurd c69_6 (fun q => h30 (by omega))
      refine lv_iload_n hx hb dX5_beats_72 rfl (lv_at hl 2 rfl) ?_
      refine b_if_eq (tgt := 80) hx hb dX5_beats_73 (by decide) (fun _ => ?_) (fun c73_7 => absurd c73_7 (by decide))
      refine lv_iconst (v := nI 0) hx hb dX5_beats_80 (by decide) ?_
      refine rt_i (v := bI false) rfl ?_
      refine lv_iconst (v := nI 0) hx hb dX5_beats_81 (by decide) ?_
      refine rt_i (v := bI false) rfl ?_
      refine mu_calli (wr := []) (va_runV (As := [.int (bI false), .int (bI false)]) (rest := []) ⟨hx, hb, hml, hown, hts⟩ (c5_refused l D cI cJ cZ ad w h th n kn po B ht dr wh sb V la sl we of_ Sn tp re false false _ ) (cwV 2 hts gX5_beats_X5_refused rfl rfl rfl (by decide +kernel) ⟨Nat.le_of_ble_eq_true rfl, Nat.le_of_ble_eq_true rfl⟩) ⟨MPc.blind, va_recv hK hP (ci := 5) (q0 := 0) rfl rfl, (MPc.at (hP.sub [0, 1, 2, 3, 4, 5, 6, 7, 8, 9, 10, 11, 12, 13] rfl) (hD.sub [0, 1, 2, 3, 4, 5, 6, 7, 8, 9, 10, 11, 12, 13] (by decide) rfl) hK hN)⟩ rfl rfl hl.1 rfl (lv_room (Nat.le_of_ble_eq_true rfl)) dX5_beats_82 ⟨Nat.zero_le _, Nat.zero_le _⟩) hP hD hS hA [0, 1, 2, 3, 4, 5, 6, 7, 8, 9, 10, 11, 12, 13] [] rfl rfl (by decide) (by decide) (fun rr u1 H locs hw hP hD hS => ?_)
      obtain rfl := hw
      have hP : va_P D vwCl (mW5 cI cZ ad w h (thN false false) n kn po B ht dr wh sb V la sl we of_ Sn tp re) H := hP
      have hD : va_D A (mW5 cI cZ ad w h (thN false false) n kn po B ht dr wh sb V la sl we of_ Sn tp re) := hD
      refine b_if_eq (tgt := 90) hx hb dX5_beats_85 (by decide) (fun _ => ?_) (fun c85_8 => absurd c85_8 (by decide))
      refine lv_iconst (v := nI 1) hx hb dX5_beats_90 (by decide) ?_
      refine lv_istore_n (lv' := [(2, .int (nI 1)), (0, .ref (ad 0)), (1, .int (bI false))]) hx hb dX5_beats_91 rfl hl (by decide) rfl (fun ls hl => ?_)
      refine lv_iconst (v := nI 0) hx hb dX5_beats_92 (by decide) ?_
      refine lv_istore_n (lv' := [(3, .int (nI 0)), (2, .int (nI 1)), (0, .ref (ad 0)), (1, .int (bI false))]) hx hb dX5_beats_93 rfl hl (by decide) rfl (fun ls hl => ?_)
      rw [← weS_0 h (hpF h ht) we] at hP hD
      refine loopH (σ := Nat) (m := m) (Wf := fun H locs g => W p l e _ s m _ below meth cd H locs _ _ _ g) 94 6 (fun i qx => [(0, .ref (ad 0)), (3, .int (nI i)), (2, .int (nI qx))]) (fun i qx => (mW5 cI cZ ad w h 0 n kn po B ht dr wh sb V la sl (weS h (hpF h ht) we i) of_ Sn tp re)) (fun i qx => qx = prN h (hpF h ht) i) w ?_ ?_ 0 1 ls _ _ (by omega) rfl hP hD hS (lv_sub hl [2, 0, 1] rfl)
      · intro c qx ls H locs hi_94 hI_94 hP hD hS hl ih_94
        obtain ⟨al, rfl⟩ : ∃ z, z = qx := ⟨_, rfl⟩
        have hl : lv_has ls 6 [(0, .ref (ad 0)), (3, .int (nI c)), (2, .int (nI al))] := hl
        have hP : va_P D vwCl (mW5 cI cZ ad w h 0 n kn po B ht dr wh sb V la sl (weS h (hpF h ht) we c) of_ Sn tp re) H := hP
        have hD : va_D A (mW5 cI cZ ad w h 0 n kn po B ht dr wh sb V la sl (weS h (hpF h ht) we c) of_ Sn tp re) := hD
        have hI_94 : al = prN h (hpF h ht) c := hI_94
        have hhc := hht c
        refine lv_iload_n hx hb dX5_beats_94 rfl (lv_at hl 1 rfl) ?_
        refine lv_aload_n hx hb dX5_beats_95 rfl (lv_at hl 0 rfl) ?_
        refine va_get (C := RX5) (T := TX5) (N := 19) hx hb hts (by decide +kernel) hown hK hP 0 rfl rfl 1 (by decide) (hts (.fieldLink RX5 52 RX5 "w" "I") (by decide +kernel)) (fun _ h9 => h9) rfl dX5_beats_96 ?_
        refine n_icmp_ge (tgt := 133) hx hb dX5_beats_99 (by decide) (by omega) (by omega) (fun c99_9 => ?_) (fun c99_9 => ?_)
        · exact absurd c99_9 (by omega)
        refine lv_aload_n hx hb dX5_beats_102 rfl (lv_at hl 0 rfl) ?_
        refine va_get (C := RX5) (T := TX5) (N := 19) hx hb hts (by decide +kernel) hown hK hP 0 rfl rfl 14 (by decide) (hts (.fieldLink RX5 36 RX5 "weights" "[I") (by decide +kernel)) (fun _ h9 => h9) rfl dX5_beats_103 ?_
        refine lv_iload_n hx hb dX5_beats_106 rfl (lv_at hl 1 rfl) ?_
        refine lv_iload_n hx hb dX5_beats_107 rfl (lv_at hl 2 rfl) ?_
        refine n_iast (g := (weS h (hpF h ht) we c)) hx hb hK hP hD hS 9 0 rfl rfl (by omega) (by decide) dX5_beats_108 (fun H locs hP hD hS => ?_)
        have hP : va_P D vwCl (mW5 cI cZ ad w h 0 n kn po B ht dr wh sb V la sl (va_up (weS h (hpF h ht) we c) c al) of_ Sn tp re) H := hP
        have hD : va_D A (mW5 cI cZ ad w h 0 n kn po B ht dr wh sb V la sl (va_up (weS h (hpF h ht) we c) c al) of_ Sn tp re) := hD
        refine lv_iload_n hx hb dX5_beats_109 rfl (lv_at hl 2 rfl) ?_
        refine lv_aload_n hx hb dX5_beats_110 rfl (lv_at hl 0 rfl) ?_
        refine va_get (C := RX5) (T := TX5) (N := 19) hx hb hts (by decide +kernel) hown hK hP 0 rfl rfl 2 (by decide) (hts (.fieldLink RX5 56 RX5 "h" "I") (by decide +kernel)) (fun _ h9 => h9) rfl dX5_beats_111 ?_
        refine lv_aload_n hx hb dX5_beats_114 rfl (lv_at hl 0 rfl) ?_
        refine va_get (C := RX5) (T := TX5) (N := 19) hx hb hts (by decide +kernel) hown hK hP 0 rfl rfl 4 (by decide) (hts (.fieldLink RX5 13 RX5 "heights" "[I") (by decide +kernel)) (fun _ h9 => h9) rfl dX5_beats_115 ?_
        refine lv_iload_n hx hb dX5_beats_118 rfl (lv_at hl 1 rfl) ?_
        refine n_iald hx hb hK hP 2 0 rfl rfl (by omega) (by decide) dX5_beats_119 ?_
        refine n_isub hx hb dX5_beats_120 (by omega) ?_
        refine lv_iconst (v := nI 2) hx hb dX5_beats_121 (by decide) ?_
        refine n_idiv hx hb dX5_beats_122 (by omega) (by omega) (by omega) ?_
        refine lv_iconst (v := nI 1) hx hb dX5_beats_123 (by decide) ?_
        refine n_iadd hx hb dX5_beats_124 ?_
        refine n_imul hx hb dX5_beats_125 ?_
        refine lv_istore_n (lv' := [(2, .int (nI (al * (((h - (ht c)) / 2) + 1)))), (0, .ref (ad 0)), (3, .int (nI c))]) hx hb dX5_beats_126 rfl hl (by decide) rfl (fun ls hl => ?_)
        refine n_iinc (n := 1) (lv' := [(3, .int (nI (c + 1))), (2, .int (nI (al * (((h - (ht c)) / 2) + 1)))), (0, .ref (ad 0))]) hx hb dX5_beats_127 hl (k := 2) rfl (by decide) rfl (fun ls hl => ?_)
        refine lv_goto (tgt := 94) hx hb dX5_beats_130 (by decide) ?_
        rw [hI_94, weS_s] at hP hD
        exact ih_94 (al * (((h - (ht c)) / 2) + 1)) ls _ _ (by rw [hI_94, prN, hp_sub]) hP hD hS (lv_sub hl [2, 0, 1] rfl)
      · intro qx ls H locs hI_94 hP hD hS hl
        obtain ⟨al, rfl⟩ : ∃ z, z = qx := ⟨_, rfl⟩
        have hl : lv_has ls 6 [(0, .ref (ad 0)), (3, .int (nI w)), (2, .int (nI al))] := hl
        have hP : va_P D vwCl (mW5 cI cZ ad w h 0 n kn po B ht dr wh sb V la sl (weS h (hpF h ht) we w) of_ Sn tp re) H := hP
        have hD : va_D A (mW5 cI cZ ad w h 0 n kn po B ht dr wh sb V la sl (weS h (hpF h ht) we w) of_ Sn tp re) := hD
        have hI_94 : al = prN h (hpF h ht) w := hI_94
        obtain ⟨we1, ewe⟩ : ∃ f, f = (weS h (hpF h ht) we w) := ⟨_, rfl⟩
        rw [← ewe] at hP hD
        have hwe : ∀ c, c < w → we1 c = prN h (hpF h ht) c := fun c hc => by rw [ewe]; exact if_pos hc
        have hal : al ≤ 5832 := by rw [hI_94]; exact pairs_few hd hht (od_no hev0) hem
        refine lv_iload_n hx hb dX5_beats_94 rfl (lv_at hl 1 rfl) ?_
        refine lv_aload_n hx hb dX5_beats_95 rfl (lv_at hl 0 rfl) ?_
        refine va_get (C := RX5) (T := TX5) (N := 19) hx hb hts (by decide +kernel) hown hK hP 0 rfl rfl 1 (by decide) (hts (.fieldLink RX5 52 RX5 "w" "I") (by decide +kernel)) (fun _ h9 => h9) rfl dX5_beats_96 ?_
        refine n_icmp_ge (tgt := 133) hx hb dX5_beats_99 (by decide) (by omega) (by omega) (fun c99_10 => ?_) (fun c99_10 => ?_)
        · skip
          refine lv_aload_n hx hb dX5_beats_133 rfl (lv_at hl 0 rfl) ?_
          refine lv_iconst (v := nI 0) hx hb dX5_beats_134 (by decide) ?_
          refine va_put (ty := .boolean) (C := RX5) (T := TX5) (N := 19) hx hb hts (by decide +kernel) tyX5 tyX5_ok nmX5 hown hK hP hD hS 0 rfl rfl 7 (by decide) (hts (.fieldLink RX5 85 RX5 "known" "Z") (by decide +kernel)) (fun _ h9 => h9) rfl (by decide +kernel) rfl rfl (Nat.le_of_ble_eq_true rfl) dX5_beats_135 (fun H locs hP hD hS => ?_)
          have hP : va_P D vwCl (mW5 cI cZ ad w h 0 n 0 po B ht dr wh sb V la sl we1 of_ Sn tp re) H := hP
          have hD : va_D A (mW5 cI cZ ad w h 0 n 0 po B ht dr wh sb V la sl we1 of_ Sn tp re) := hD
          refine lv_iconst (v := nI 0) hx hb dX5_beats_138 (by decide) ?_
          refine lv_istore_n (lv' := [(3, .int (nI 0)), (0, .ref (ad 0)), (2, .int (nI al))]) hx hb dX5_beats_139 rfl hl (by decide) rfl (fun ls hl => ?_)
          rw [← reS_0 re] at hP hD
          refine loopH (σ := Unit) (m := m) (Wf := fun H locs g => W p l e _ s m _ below meth cd H locs _ _ _ g) 140 6 (fun i qx => [(0, .ref (ad 0)), (2, .int (nI al)), (3, .int (nI i))]) (fun i qx => (mW5 cI cZ ad w h 0 n 0 po B ht dr wh sb V la sl we1 of_ Sn tp (reS re i))) (fun i qx => True) al ?_ ?_ 0 () ls _ _ (by omega) trivial hP hD hS (lv_sub hl [1, 2, 0] rfl)
          · intro pp qx ls H locs hi_140 hI_140 hP hD hS hl ih_140
            have hl : lv_has ls 6 [(0, .ref (ad 0)), (2, .int (nI al)), (3, .int (nI pp))] := hl
            have hP : va_P D vwCl (mW5 cI cZ ad w h 0 n 0 po B ht dr wh sb V la sl we1 of_ Sn tp (reS re pp)) H := hP
            have hD : va_D A (mW5 cI cZ ad w h 0 n 0 po B ht dr wh sb V la sl we1 of_ Sn tp (reS re pp)) := hD
            have hI_140 : True := hI_140
            refine lv_iload_n hx hb dX5_beats_140 rfl (lv_at hl 2 rfl) ?_
            refine lv_iload_n hx hb dX5_beats_141 rfl (lv_at hl 1 rfl) ?_
            refine n_icmp_ge (tgt := 166) hx hb dX5_beats_142 (by decide) (by omega) (by omega) (fun c142_11 => ?_) (fun c142_11 => ?_)
            · exact absurd c142_11 (by omega)
            refine lv_aload_n hx hb dX5_beats_145 rfl (lv_at hl 0 rfl) ?_
            refine va_get (C := RX5) (T := TX5) (N := 19) hx hb hts (by decide +kernel) hown hK hP 0 rfl rfl 18 (by decide) (hts (.fieldLink RX5 48 RX5 "reached" "[Z") (by decide +kernel)) (fun _ h9 => h9) rfl dX5_beats_146 ?_
            refine lv_iload_n hx hb dX5_beats_149 rfl (lv_at hl 2 rfl) ?_
            refine lv_iload_n hx hb dX5_beats_150 rfl (lv_at hl 2 rfl) ?_
            refine n_if_ne (tgt := 158) hx hb dX5_beats_151 (by decide) (by omega) (fun c151_12 => ?_) (fun c151_12 => ?_)
            · skip
              refine lv_iconst (v := nI 0) hx hb dX5_beats_158 (by decide) ?_
              refine n_zast (g := (reS re pp)) hx hb hK hP hD hS 13 2 rfl rfl (by decide) (by omega) (by decide) dX5_beats_159 (fun H locs hP hD hS => ?_)
              have hP : va_P D vwCl (mW5 cI cZ ad w h 0 n 0 po B ht dr wh sb V la sl we1 of_ Sn tp (va_up (reS re pp) pp 0)) H := hP
              have hD : va_D A (mW5 cI cZ ad w h 0 n 0 po B ht dr wh sb V la sl we1 of_ Sn tp (va_up (reS re pp) pp 0)) := hD
              refine n_iinc (n := 1) (lv' := [(3, .int (nI (pp + 1))), (0, .ref (ad 0)), (2, .int (nI al))]) hx hb dX5_beats_160 hl (k := 2) rfl (by decide) rfl (fun ls hl => ?_)
              refine lv_goto (tgt := 140) hx hb dX5_beats_163 (by decide) ?_
              rw [reS_s re pp (by rw [if_neg c151_12])] at hP hD
              exact ih_140 () ls _ _ trivial hP hD hS (lv_sub hl [1, 2, 0] rfl)
            refine lv_iconst (v := nI 1) hx hb dX5_beats_154 (by decide) ?_
            refine lv_goto (tgt := 159) hx hb dX5_beats_155 (by decide) ?_
            refine n_zast (g := (reS re pp)) hx hb hK hP hD hS 13 2 rfl rfl (by decide) (by omega) (by decide) dX5_beats_159 (fun H locs hP hD hS => ?_)
            have hP : va_P D vwCl (mW5 cI cZ ad w h 0 n 0 po B ht dr wh sb V la sl we1 of_ Sn tp (va_up (reS re pp) pp 1)) H := hP
            have hD : va_D A (mW5 cI cZ ad w h 0 n 0 po B ht dr wh sb V la sl we1 of_ Sn tp (va_up (reS re pp) pp 1)) := hD
            refine n_iinc (n := 1) (lv' := [(3, .int (nI (pp + 1))), (0, .ref (ad 0)), (2, .int (nI al))]) hx hb dX5_beats_160 hl (k := 2) rfl (by decide) rfl (fun ls hl => ?_)
            refine lv_goto (tgt := 140) hx hb dX5_beats_163 (by decide) ?_
            rw [reS_s re pp (by rw [if_pos c151_12])] at hP hD
            exact ih_140 () ls _ _ trivial hP hD hS (lv_sub hl [1, 2, 0] rfl)
          · intro qx ls H locs hI_140 hP hD hS hl
            have hl : lv_has ls 6 [(0, .ref (ad 0)), (2, .int (nI al)), (3, .int (nI al))] := hl
            have hP : va_P D vwCl (mW5 cI cZ ad w h 0 n 0 po B ht dr wh sb V la sl we1 of_ Sn tp (reS re al)) H := hP
            have hD : va_D A (mW5 cI cZ ad w h 0 n 0 po B ht dr wh sb V la sl we1 of_ Sn tp (reS re al)) := hD
            have hI_140 : True := hI_140
            obtain ⟨re1, ere⟩ : ∃ f, f = (reS re al) := ⟨_, rfl⟩
            rw [← ere] at hP hD
            have hre : ∀ q, q < al → re1 q = if q = 0 then 1 else 0 := fun q hq => by rw [ere]; exact if_pos hq
            refine lv_iload_n hx hb dX5_beats_140 rfl (lv_at hl 2 rfl) ?_
            refine lv_iload_n hx hb dX5_beats_141 rfl (lv_at hl 1 rfl) ?_
            refine n_icmp_ge (tgt := 166) hx hb dX5_beats_142 (by decide) (by omega) (by omega) (fun c142_13 => ?_) (fun c142_13 => ?_)
            · skip
              refine lv_iconst (v := nI 0) hx hb dX5_beats_166 (by decide) ?_
              refine lv_istore_n (lv' := [(3, .int (nI 0)), (0, .ref (ad 0)), (2, .int (nI al))]) hx hb dX5_beats_167 rfl hl (by decide) rfl (fun ls hl => ?_)
              refine loopH (σ := (Nat → Nat) × (Nat → Int32) × (Nat → Nat)) (m := m) (Wf := fun H locs g => W p l e _ s m _ below meth cd H locs _ _ _ g) 168 6 (fun i qx => [(0, .ref (ad 0)), (2, .int (nI al)), (3, .int (nI i))]) (fun i qx => (mW5 cI cZ ad w h 0 n 0 po B ht dr wh sb V la sl we1 of_ qx.2.1 qx.2.2 qx.1)) (fun i qx => BtI w h B ht n qx.1 i 0) al ?_ ?_ 0 (re1, Sn, tp) ls _ _ (by omega) (BtI.start R1 (fun q hq => hre q (by omega))) hP hD hS (lv_sub hl [1, 2, 0] rfl)
              · intro pp qx ls H locs hi_168 hI_168 hP hD hS hl ih_168
                obtain ⟨re2, Sn, tp⟩ := qx
                have hl : lv_has ls 6 [(0, .ref (ad 0)), (2, .int (nI al)), (3, .int (nI pp))] := hl
                have hP : va_P D vwCl (mW5 cI cZ ad w h 0 n 0 po B ht dr wh sb V la sl we1 of_ Sn tp re2) H := hP
                have hD : va_D A (mW5 cI cZ ad w h 0 n 0 po B ht dr wh sb V la sl we1 of_ Sn tp re2) := hD
                have hI_168 : BtI w h B ht n re2 pp 0 := hI_168
                have hip : pp < prN h (hpF h ht) w := by omega
                refine lv_iload_n hx hb dX5_beats_168 rfl (lv_at hl 2 rfl) ?_
                refine lv_iload_n hx hb dX5_beats_169 rfl (lv_at hl 1 rfl) ?_
                refine n_icmp_ge (tgt := 364) hx hb dX5_beats_170 (by decide) (by omega) (by omega) (fun c170_14 => ?_) (fun c170_14 => ?_)
                · exact absurd c170_14 (by omega)
                refine lv_aload_n hx hb dX5_beats_173 rfl (lv_at hl 0 rfl) ?_
                refine va_get (C := RX5) (T := TX5) (N := 19) hx hb hts (by decide +kernel) hown hK hP 0 rfl rfl 18 (by decide) (hts (.fieldLink RX5 48 RX5 "reached" "[Z") (by decide +kernel)) (fun _ h9 => h9) rfl dX5_beats_174 ?_
                refine lv_iload_n hx hb dX5_beats_177 rfl (lv_at hl 2 rfl) ?_
                refine n_zald hx hb hK hP 13 2 rfl rfl (by omega) (by decide) dX5_beats_178 ?_
                refine n_if_eq (tgt := 358) hx hb dX5_beats_179 (by decide) (by have := hI_168.1 pp hip; omega) (fun c179_15 => ?_) (fun c179_15 => ?_)
                · skip
                  refine n_iinc (n := 1) (lv' := [(3, .int (nI (pp + 1))), (0, .ref (ad 0)), (2, .int (nI al))]) hx hb dX5_beats_358 hl (k := 2) rfl (by decide) rfl (fun ls hl => ?_)
                  refine lv_goto (tgt := 168) hx hb dX5_beats_361 (by decide) ?_
                  exact ih_168 (re2, Sn, tp) ls _ _ (hI_168.skip c179_15) hP hD hS (lv_sub hl [1, 2, 0] rfl)
                have hri : re2 pp = 1 := by have := hI_168.1 pp hip; omega
                refine lv_aload_n hx hb dX5_beats_182 rfl (lv_at hl 0 rfl) ?_
                refine lv_iload_n hx hb dX5_beats_183 rfl (lv_at hl 2 rfl) ?_
                refine mu_callv (wr := []) (va_runV (As := [.int (nI pp)]) (rest := []) ⟨hx, hb, hml, hown, hts⟩ (c5_showPairs l D cI cJ cZ ad w h 0 n 0 po B ht dr wh sb V la sl we1 of_ Sn tp re2 pp _ hd (by omega) hht hn) (cwV 1 hts gX5_beats_X5_showPairs rfl rfl rfl (by decide +kernel) ⟨Nat.le_of_ble_eq_true rfl, Nat.le_of_ble_eq_true rfl⟩) ⟨MPc.blind, va_recv hK hP (ci := 5) (q0 := 0) rfl rfl, (MPc.at (hP.sub [0, 1, 2, 3, 4, 5, 6, 7, 8, 9, 10, 11, 12, 13] rfl) (hD.sub [0, 1, 2, 3, 4, 5, 6, 7, 8, 9, 10, 11, 12, 13] (by decide) rfl) hK hN)⟩ rfl rfl hl.1 rfl (lv_room (Nat.le_of_ble_eq_true rfl)) dX5_beats_184 ⟨Nat.zero_le _, Nat.zero_le _⟩) hP hD hS hA [0, 1, 2, 3, 4, 5, 6, 7, 8, 9, 10, 11, 12, 13] [] rfl rfl (by decide) (by decide) (fun u1 H locs hw hP hD hS => ?_)
                have hP : va_P D vwCl (mW5 cI cZ ad w h 0 n 0 po B ht dr wh sb V la sl we1 of_ (spS h B ht n pp Sn w) (tpP h ht tp pp w) re2) H := hP
                have hD : va_D A (mW5 cI cZ ad w h 0 n 0 po B ht dr wh sb V la sl we1 of_ (spS h B ht n pp Sn w) (tpP h ht tp pp w) re2) := hD
                obtain ⟨Sn3, eSn⟩ : ∃ f, f = (spS h B ht n pp Sn w) := ⟨_, rfl⟩
                rw [← eSn] at hP hD
                obtain ⟨tp3, etp⟩ : ∃ f, f = (tpP h ht tp pp w) := ⟨_, rfl⟩
                rw [← etp] at hP hD
                have htp3 : ∀ c, c < w → tp3 c = tqP h ht pp c := fun c hc => by rw [etp]; exact if_pos hc
                refine lv_iconst (v := nI 0) hx hb dX5_beats_187 (by decide) ?_
                refine lv_istore (lv' := [(4, .int (nI 0)), (0, .ref (ad 0)), (2, .int (nI al)), (3, .int (nI pp))]) hx hb dX5_beats_188 hl (by decide) rfl (fun ls hl => ?_)
                refine loopH (σ := (Nat → Nat)) (m := m) (Wf := fun H locs g => W p l e _ s m _ below meth cd H locs _ _ _ g) 190 6 (fun i qx => [(0, .ref (ad 0)), (2, .int (nI al)), (3, .int (nI pp)), (4, .int (nI i))]) (fun i qx => (mW5 cI cZ ad w h 0 n 0 po B ht dr wh sb V la sl we1 of_ Sn3 tp3 qx)) (fun i qx => BtI w h B ht n qx pp i ∧ qx pp = 1) w ?_ ?_ 0 re2 ls _ _ (by omega) ⟨hI_168, hri⟩ hP hD hS (lv_sub hl [1, 2, 3, 0] rfl)
                · intro c qx ls H locs hi_190 hI_190 hP hD hS hl ih_190
                  obtain ⟨re3, rfl⟩ : ∃ z, z = qx := ⟨_, rfl⟩
                  have hl : lv_has ls 6 [(0, .ref (ad 0)), (2, .int (nI al)), (3, .int (nI pp)), (4, .int (nI c))] := hl
                  have hP : va_P D vwCl (mW5 cI cZ ad w h 0 n 0 po B ht dr wh sb V la sl we1 of_ Sn3 tp3 re3) H := hP
                  have hD : va_D A (mW5 cI cZ ad w h 0 n 0 po B ht dr wh sb V la sl we1 of_ Sn3 tp3 re3) := hD
                  have hI_190 : BtI w h B ht n re3 pp c ∧ re3 pp = 1 := hI_190
                  have htc := htp3 c hi_190
                  have htl := tq_le R1 pp c
                  have hpc := prN_pos h (hpF h ht) c
                  refine lv_iload hx hb dX5_beats_190 (lv_at hl 3 rfl) ?_
                  refine lv_aload_n hx hb dX5_beats_192 rfl (lv_at hl 0 rfl) ?_
                  refine va_get (C := RX5) (T := TX5) (N := 19) hx hb hts (by decide +kernel) hown hK hP 0 rfl rfl 1 (by decide) (hts (.fieldLink RX5 52 RX5 "w" "I") (by decide +kernel)) (fun _ h9 => h9) rfl dX5_beats_193 ?_
                  refine n_icmp_ge (tgt := 358) hx hb dX5_beats_196 (by decide) (by omega) (by omega) (fun c196_16 => ?_) (fun c196_16 => ?_)
                  · exact absurd c196_16 (by omega)
                  refine lv_aload_n hx hb dX5_beats_199 rfl (lv_at hl 0 rfl) ?_
                  refine va_get (C := RX5) (T := TX5) (N := 19) hx hb hts (by decide +kernel) hown hK hP 0 rfl rfl 17 (by decide) (hts (.fieldLink RX5 45 RX5 "tops" "[I") (by decide +kernel)) (fun _ h9 => h9) rfl dX5_beats_200 ?_
                  refine lv_iload hx hb dX5_beats_203 (lv_at hl 3 rfl) ?_
                  refine n_iald hx hb hK hP 12 0 rfl rfl (by omega) (by decide) dX5_beats_205 ?_
                  refine rt_i (v := nI (tqP h ht pp c)) (by rw [htc]) ?_
                  refine lv_aload_n hx hb dX5_beats_206 rfl (lv_at hl 0 rfl) ?_
                  refine va_get (C := RX5) (T := TX5) (N := 19) hx hb hts (by decide +kernel) hown hK hP 0 rfl rfl 2 (by decide) (hts (.fieldLink RX5 56 RX5 "h" "I") (by decide +kernel)) (fun _ h9 => h9) rfl dX5_beats_207 ?_
                  refine n_icmp_ge (tgt := 352) hx hb dX5_beats_210 (by decide) (by omega) (by omega) (fun c210_17 => ?_) (fun c210_17 => ?_)
                  · skip
                    refine n_iinc (n := 1) (lv' := [(4, .int (nI (c + 1))), (0, .ref (ad 0)), (2, .int (nI al)), (3, .int (nI pp))]) hx hb dX5_beats_352 hl (k := 3) rfl (by decide) rfl (fun ls hl => ?_)
                    refine lv_goto (tgt := 190) hx hb dX5_beats_355 (by decide) ?_
                    exact ih_190 re3 ls _ _ ⟨hI_190.1.full (by omega), hI_190.2⟩ hP hD hS (lv_sub hl [1, 2, 3, 0] rfl)
                  have hlt4 : tqP h ht pp c < h := by omega
                  have hlt3 : tp3 c < h := by rw [htc]; exact hlt4
                  have h2q := tq_two R1 hi_190 hlt4
                  have hsn3 : Sn3 (7 * c + tp3 c) = -1 := by rw [eSn, htc]; exact sp_up R1 hi_190 hlt4 (Nat.le_refl _)
                  have hsd := hI_190.1.2.2.1 pp hip hI_190.2
                  have hwin : wnB w h (upd Sn3 (7 * c + tp3 c) (nI (n % 2))) c (tp3 c) = true ↔ hasL w h (sq_put (PSt w h B ht n (n % 2) pp) c (tqP h ht pp c)) := by rw [eSn, htc]; exact pr_win R1 hsd.2 hi_190 hlt4
                  have hnx : pp + prN h (hpF h ht) c < prN h (hpF h ht) w := W_lt (by rw [hp_sub]; exact h2q.2) hi_190 hip
                  refine lv_aload_n hx hb dX5_beats_213 rfl (lv_at hl 0 rfl) ?_
                  refine lv_iload hx hb dX5_beats_214 (lv_at hl 3 rfl) ?_
                  refine lv_aload_n hx hb dX5_beats_216 rfl (lv_at hl 0 rfl) ?_
                  refine va_get (C := RX5) (T := TX5) (N := 19) hx hb hts (by decide +kernel) hown hK hP 0 rfl rfl 6 (by decide) (hts (.fieldLink RX5 70 RX5 "n" "I") (by decide +kernel)) (fun _ h9 => h9) rfl dX5_beats_217 ?_
                  refine lv_iconst (v := nI 2) hx hb dX5_beats_220 (by decide) ?_
                  refine n_irem hx hb dX5_beats_221 (by omega) (by omega) (by omega) ?_
                  refine mu_calli (wr := []) (va_runV (As := [.int (nI c), .int (nI (n % 2))]) (rest := []) ⟨hx, hb, hml, hown, hts⟩ (c5_dropWins l D cI cJ cZ ad w h 0 n 0 po B ht dr wh sb V la sl we1 of_ Sn3 tp3 re3 c (n % 2) _ hd hi_190 hlt3 hsn3) (cwV 2 hts gX5_beats_X5_dropWins rfl rfl rfl (by decide +kernel) ⟨Nat.le_of_ble_eq_true rfl, Nat.le_of_ble_eq_true rfl⟩) ⟨MPc.blind, va_recv hK hP (ci := 5) (q0 := 0) rfl rfl, (MPc.at (hP.sub [0, 1, 2, 3, 4, 5, 6, 7, 8, 9, 10, 11, 12, 13] rfl) (hD.sub [0, 1, 2, 3, 4, 5, 6, 7, 8, 9, 10, 11, 12, 13] (by decide) rfl) hK hN)⟩ rfl rfl hl.1 rfl (lv_room (Nat.le_of_ble_eq_true rfl)) dX5_beats_222 ⟨Nat.zero_le _, Nat.zero_le _⟩) hP hD hS hA [0, 1, 2, 3, 4, 5, 6, 7, 8, 9, 10, 11, 12, 13] [] rfl rfl (by decide) (by decide) (fun rr u1 H locs hw hP hD hS => ?_)
                  obtain rfl := hw
                  have hP : va_P D vwCl (mW5 cI cZ ad w h 0 n 0 po B ht dr wh sb V la sl we1 of_ Sn3 tp3 re3) H := hP
                  have hD : va_D A (mW5 cI cZ ad w h 0 n 0 po B ht dr wh sb V la sl we1 of_ Sn3 tp3 re3) := hD
                  refine b_if_eq (tgt := 230) hx hb dX5_beats_225 (by decide) (fun c225_18 => ?_) (fun c225_18 => ?_)
                  · skip
                    have hnw : ¬ hasL w h (sq_put (PSt w h B ht n (n % 2) pp) c (tqP h ht pp c)) := fun z => by have := hwin.mpr z; rw [c225_18] at this; cases this
                    refine lv_aload_n hx hb dX5_beats_230 rfl (lv_at hl 0 rfl) ?_
                    refine va_get (C := RX5) (T := TX5) (N := 19) hx hb hts (by decide +kernel) hown hK hP 0 rfl rfl 16 (by decide) (hts (.fieldLink RX5 42 RX5 "seen" "[I") (by decide +kernel)) (fun _ h9 => h9) rfl dX5_beats_231 ?_
                    refine lv_bipush (v := nI 7) hx hb dX5_beats_234 (by decide) ?_
                    refine lv_iload hx hb dX5_beats_236 (lv_at hl 3 rfl) ?_
                    refine n_imul hx hb dX5_beats_238 ?_
                    refine lv_aload_n hx hb dX5_beats_239 rfl (lv_at hl 0 rfl) ?_
                    refine va_get (C := RX5) (T := TX5) (N := 19) hx hb hts (by decide +kernel) hown hK hP 0 rfl rfl 17 (by decide) (hts (.fieldLink RX5 45 RX5 "tops" "[I") (by decide +kernel)) (fun _ h9 => h9) rfl dX5_beats_240 ?_
                    refine lv_iload hx hb dX5_beats_243 (lv_at hl 3 rfl) ?_
                    refine n_iald hx hb hK hP 12 0 rfl rfl (by omega) (by decide) dX5_beats_245 ?_
                    refine n_iadd hx hb dX5_beats_246 ?_
                    refine lv_aload_n hx hb dX5_beats_247 rfl (lv_at hl 0 rfl) ?_
                    refine va_get (C := RX5) (T := TX5) (N := 19) hx hb hts (by decide +kernel) hown hK hP 0 rfl rfl 6 (by decide) (hts (.fieldLink RX5 70 RX5 "n" "I") (by decide +kernel)) (fun _ h9 => h9) rfl dX5_beats_248 ?_
                    refine lv_iconst (v := nI 2) hx hb dX5_beats_251 (by decide) ?_
                    refine n_irem hx hb dX5_beats_252 (by omega) (by omega) (by omega) ?_
                    refine n_iastR hx hb hK hP hD hS 11 0 rfl rfl (by omega) (by decide) dX5_beats_253 (fun H locs hP hD hS => ?_)
                    have hP : va_P D vwCl (mW5 cI cZ ad w h 0 n 0 po B ht dr wh sb V la sl we1 of_ (upd Sn3 ((7 * c) + (tp3 c)) (nI (n % 2))) tp3 re3) H := hP
                    have hD : va_D A (mW5 cI cZ ad w h 0 n 0 po B ht dr wh sb V la sl we1 of_ (upd Sn3 ((7 * c) + (tp3 c)) (nI (n % 2))) tp3 re3) := hD
                    refine lv_aload_n hx hb dX5_beats_254 rfl (lv_at hl 0 rfl) ?_
                    refine va_get (C := RX5) (T := TX5) (N := 19) hx hb hts (by decide +kernel) hown hK hP 0 rfl rfl 17 (by decide) (hts (.fieldLink RX5 45 RX5 "tops" "[I") (by decide +kernel)) (fun _ h9 => h9) rfl dX5_beats_255 ?_
                    refine lv_iload hx hb dX5_beats_258 (lv_at hl 3 rfl) ?_
                    refine lv_dup2_11 hx hb dX5_beats_260 rfl rfl ?_
                    refine n_iald hx hb hK hP 12 0 rfl rfl (by omega) (by decide) dX5_beats_261 ?_
                    refine lv_iconst (v := nI 1) hx hb dX5_beats_262 (by decide) ?_
                    refine n_iadd hx hb dX5_beats_263 ?_
                    refine n_iast (g := tp3) hx hb hK hP hD hS 12 0 rfl rfl (by omega) (by decide) dX5_beats_264 (fun H locs hP hD hS => ?_)
                    have hP : va_P D vwCl (mW5 cI cZ ad w h 0 n 0 po B ht dr wh sb V la sl we1 of_ (upd Sn3 ((7 * c) + (tp3 c)) (nI (n % 2))) (va_up tp3 c ((tp3 c) + 1)) re3) H := hP
                    have hD : va_D A (mW5 cI cZ ad w h 0 n 0 po B ht dr wh sb V la sl we1 of_ (upd Sn3 ((7 * c) + (tp3 c)) (nI (n % 2))) (va_up tp3 c ((tp3 c) + 1)) re3) := hD
                    refine lv_aload_n hx hb dX5_beats_265 rfl (lv_at hl 0 rfl) ?_
                    refine lv_iload hx hb dX5_beats_266 (lv_at hl 3 rfl) ?_
                    refine lv_iconst (v := nI 1) hx hb dX5_beats_268 (by decide) ?_
                    refine lv_aload_n hx hb dX5_beats_269 rfl (lv_at hl 0 rfl) ?_
                    refine va_get (C := RX5) (T := TX5) (N := 19) hx hb hts (by decide +kernel) hown hK hP 0 rfl rfl 6 (by decide) (hts (.fieldLink RX5 70 RX5 "n" "I") (by decide +kernel)) (fun _ h9 => h9) rfl dX5_beats_270 ?_
                    refine lv_iconst (v := nI 2) hx hb dX5_beats_273 (by decide) ?_
                    refine n_irem hx hb dX5_beats_274 (by omega) (by omega) (by omega) ?_
                    refine n_isub hx hb dX5_beats_275 (by omega) ?_
                    refine mu_calli (wr := []) (va_runV (As := [.int (nI c), .int (nI (1 - (n % 2)))]) (rest := []) ⟨hx, hb, hml, hown, hts⟩ (c5_dropWins l D cI cJ cZ ad w h 0 n 0 po B ht dr wh sb V la sl we1 of_ (upd Sn3 ((7 * c) + (tp3 c)) (nI (n % 2))) (va_up tp3 c ((tp3 c) + 1)) re3 c (1 - (n % 2)) _ hd hi_190 (by rw [va_up_self, htc]; exact h2q.1) (by rw [va_up_self, pk_un (by omega), eSn, htc]; exact sp_up R1 hi_190 h2q.1 (by omega))) (cwV 2 hts gX5_beats_X5_dropWins rfl rfl rfl (by decide +kernel) ⟨Nat.le_of_ble_eq_true rfl, Nat.le_of_ble_eq_true rfl⟩) ⟨MPc.blind, va_recv hK hP (ci := 5) (q0 := 0) rfl rfl, (MPc.at (hP.sub [0, 1, 2, 3, 4, 5, 6, 7, 8, 9, 10, 11, 12, 13] rfl) (hD.sub [0, 1, 2, 3, 4, 5, 6, 7, 8, 9, 10, 11, 12, 13] (by decide) rfl) hK hN)⟩ rfl rfl hl.1 rfl (lv_room (Nat.le_of_ble_eq_true rfl)) dX5_beats_276 ⟨Nat.zero_le _, Nat.zero_le _⟩) hP hD hS hA [0, 1, 2, 3, 4, 5, 6, 7, 8, 9, 10, 11, 12, 13] [] rfl rfl (by decide) (by decide) (fun rr u1 H locs hw hP hD hS => ?_)
                    obtain rfl := hw
                    have hP : va_P D vwCl (mW5 cI cZ ad w h 0 n 0 po B ht dr wh sb V la sl we1 of_ (upd Sn3 ((7 * c) + (tp3 c)) (nI (n % 2))) (va_up tp3 c ((tp3 c) + 1)) re3) H := hP
                    have hD : va_D A (mW5 cI cZ ad w h 0 n 0 po B ht dr wh sb V la sl we1 of_ (upd Sn3 ((7 * c) + (tp3 c)) (nI (n % 2))) (va_up tp3 c ((tp3 c) + 1)) re3) := hD
                    obtain ⟨lost, hlost⟩ : ∃ x, x = wnB w h (upd (upd Sn3 ((7 * c) + (tp3 c)) (nI (n % 2))) (7 * c + (va_up tp3 c ((tp3 c) + 1)) c) (nI (1 - (n % 2)))) c ((va_up tp3 c ((tp3 c) + 1)) c) := ⟨_, rfl⟩
                    refine rt_i (v := bI lost) (by rw [hlost]) ?_
                    have hlo : lost = true ↔ hasL w h (PSt w h B ht n (1 - n % 2) (pp + prN h (hpF h ht) c)) := by rw [hlost, va_up_self, eSn, htc]; exact pr_lost R1 hsd.1 hi_190 hlt4
                    refine lv_istore (lv' := [(5, .int (bI lost)), (0, .ref (ad 0)), (2, .int (nI al)), (3, .int (nI pp)), (4, .int (nI c))]) hx hb dX5_beats_279 hl (by decide) rfl (fun ls hl => ?_)
                    refine lv_aload_n hx hb dX5_beats_281 rfl (lv_at hl 1 rfl) ?_
                    refine va_get (C := RX5) (T := TX5) (N := 19) hx hb hts (by decide +kernel) hown hK hP 0 rfl rfl 17 (by decide) (hts (.fieldLink RX5 45 RX5 "tops" "[I") (by decide +kernel)) (fun _ h9 => h9) rfl dX5_beats_282 ?_
                    refine lv_iload hx hb dX5_beats_285 (lv_at hl 4 rfl) ?_
                    refine lv_dup2_11 hx hb dX5_beats_287 rfl rfl ?_
                    refine n_iald hx hb hK hP 12 0 rfl rfl (by omega) (by decide) dX5_beats_288 ?_
                    refine lv_iconst (v := nI 1) hx hb dX5_beats_289 (by decide) ?_
                    refine n_isub hx hb dX5_beats_290 (by rw [va_up_self]; omega) ?_
                    refine n_iast (g := (va_up tp3 c ((tp3 c) + 1))) hx hb hK hP hD hS 12 0 rfl rfl (by omega) (by decide) dX5_beats_291 (fun H locs hP hD hS => ?_)
                    have hP : va_P D vwCl (mW5 cI cZ ad w h 0 n 0 po B ht dr wh sb V la sl we1 of_ (upd Sn3 ((7 * c) + (tp3 c)) (nI (n % 2))) (va_up (va_up tp3 c ((tp3 c) + 1)) c (((va_up tp3 c ((tp3 c) + 1)) c) - 1)) re3) H := hP
                    have hD : va_D A (mW5 cI cZ ad w h 0 n 0 po B ht dr wh sb V la sl we1 of_ (upd Sn3 ((7 * c) + (tp3 c)) (nI (n % 2))) (va_up (va_up tp3 c ((tp3 c) + 1)) c (((va_up tp3 c ((tp3 c) + 1)) c) - 1)) re3) := hD
                    rw [va_up_back (show tp3 c = (va_up tp3 c (tp3 c + 1)) c - 1 by rw [va_up_self]; omega)] at hP hD
                    refine lv_aload_n hx hb dX5_beats_292 rfl (lv_at hl 1 rfl) ?_
                    refine va_get (C := RX5) (T := TX5) (N := 19) hx hb hts (by decide +kernel) hown hK hP 0 rfl rfl 16 (by decide) (hts (.fieldLink RX5 42 RX5 "seen" "[I") (by decide +kernel)) (fun _ h9 => h9) rfl dX5_beats_293 ?_
                    refine lv_bipush (v := nI 7) hx hb dX5_beats_296 (by decide) ?_
                    refine lv_iload hx hb dX5_beats_298 (lv_at hl 4 rfl) ?_
                    refine n_imul hx hb dX5_beats_300 ?_
                    refine lv_aload_n hx hb dX5_beats_301 rfl (lv_at hl 1 rfl) ?_
                    refine va_get (C := RX5) (T := TX5) (N := 19) hx hb hts (by decide +kernel) hown hK hP 0 rfl rfl 17 (by decide) (hts (.fieldLink RX5 45 RX5 "tops" "[I") (by decide +kernel)) (fun _ h9 => h9) rfl dX5_beats_302 ?_
                    refine lv_iload hx hb dX5_beats_305 (lv_at hl 4 rfl) ?_
                    refine n_iald hx hb hK hP 12 0 rfl rfl (by omega) (by decide) dX5_beats_307 ?_
                    refine n_iadd hx hb dX5_beats_308 ?_
                    refine lv_iconst (v := -1) hx hb dX5_beats_309 (by decide) ?_
                    refine n_iastR hx hb hK hP hD hS 11 0 rfl rfl (by omega) (by decide) dX5_beats_310 (fun H locs hP hD hS => ?_)
                    have hP : va_P D vwCl (mW5 cI cZ ad w h 0 n 0 po B ht dr wh sb V la sl we1 of_ (upd (upd Sn3 ((7 * c) + (tp3 c)) (nI (n % 2))) ((7 * c) + (tp3 c)) (-1)) tp3 re3) H := hP
                    have hD : va_D A (mW5 cI cZ ad w h 0 n 0 po B ht dr wh sb V la sl we1 of_ (upd (upd Sn3 ((7 * c) + (tp3 c)) (nI (n % 2))) ((7 * c) + (tp3 c)) (-1)) tp3 re3) := hD
                    rw [upd_back hsn3] at hP hD
                    refine lv_aload_n hx hb dX5_beats_311 rfl (lv_at hl 1 rfl) ?_
                    refine va_get (C := RX5) (T := TX5) (N := 19) hx hb hts (by decide +kernel) hown hK hP 0 rfl rfl 18 (by decide) (hts (.fieldLink RX5 48 RX5 "reached" "[Z") (by decide +kernel)) (fun _ h9 => h9) rfl dX5_beats_312 ?_
                    refine lv_iload_n hx hb dX5_beats_315 rfl (lv_at hl 3 rfl) ?_
                    refine lv_aload_n hx hb dX5_beats_316 rfl (lv_at hl 1 rfl) ?_
                    refine va_get (C := RX5) (T := TX5) (N := 19) hx hb hts (by decide +kernel) hown hK hP 0 rfl rfl 14 (by decide) (hts (.fieldLink RX5 36 RX5 "weights" "[I") (by decide +kernel)) (fun _ h9 => h9) rfl dX5_beats_317 ?_
                    refine lv_iload hx hb dX5_beats_320 (lv_at hl 4 rfl) ?_
                    refine n_iald hx hb hK hP 9 0 rfl rfl (by omega) (by decide) dX5_beats_322 ?_
                    refine n_iadd hx hb dX5_beats_323 ?_
                    refine rt_i (v := nI (pp + prN h (hpF h ht) c)) (by rw [hwe c hi_190]) ?_
                    refine lv_aload_n hx hb dX5_beats_324 rfl (lv_at hl 1 rfl) ?_
                    refine va_get (C := RX5) (T := TX5) (N := 19) hx hb hts (by decide +kernel) hown hK hP 0 rfl rfl 18 (by decide) (hts (.fieldLink RX5 48 RX5 "reached" "[Z") (by decide +kernel)) (fun _ h9 => h9) rfl dX5_beats_325 ?_
                    refine lv_iload_n hx hb dX5_beats_328 rfl (lv_at hl 3 rfl) ?_
                    refine lv_aload_n hx hb dX5_beats_329 rfl (lv_at hl 1 rfl) ?_
                    refine va_get (C := RX5) (T := TX5) (N := 19) hx hb hts (by decide +kernel) hown hK hP 0 rfl rfl 14 (by decide) (hts (.fieldLink RX5 36 RX5 "weights" "[I") (by decide +kernel)) (fun _ h9 => h9) rfl dX5_beats_330 ?_
                    refine lv_iload hx hb dX5_beats_333 (lv_at hl 4 rfl) ?_
                    refine n_iald hx hb hK hP 9 0 rfl rfl (by omega) (by decide) dX5_beats_335 ?_
                    refine n_iadd hx hb dX5_beats_336 ?_
                    refine rt_i (v := nI (pp + prN h (hpF h ht) c)) (by rw [hwe c hi_190]) ?_
                    refine n_zald hx hb hK hP 13 2 rfl rfl (by omega) (by decide) dX5_beats_337 ?_
                    refine n_if_ne (tgt := 346) hx hb dX5_beats_338 (by decide) (by have := hI_190.1.1 _ hnx; omega) (fun c338_19 => ?_) (fun c338_19 => ?_)
                    · skip
                      refine lv_iconst (v := nI 1) hx hb dX5_beats_346 (by decide) ?_
                      refine lv_goto (tgt := 351) hx hb dX5_beats_347 (by decide) ?_
                      refine n_zast (g := re3) hx hb hK hP hD hS 13 2 rfl rfl (by decide) (by omega) (by decide) dX5_beats_351 (fun H locs hP hD hS => ?_)
                      have hP : va_P D vwCl (mW5 cI cZ ad w h 0 n 0 po B ht dr wh sb V la sl we1 of_ Sn3 tp3 (va_up re3 (pp + prN h (hpF h ht) c) 1)) H := hP
                      have hD : va_D A (mW5 cI cZ ad w h 0 n 0 po B ht dr wh sb V la sl we1 of_ Sn3 tp3 (va_up re3 (pp + prN h (hpF h ht) c) 1)) := hD
                      refine n_iinc (n := 1) (lv' := [(4, .int (nI (c + 1))), (5, .int (bI lost)), (0, .ref (ad 0)), (2, .int (nI al)), (3, .int (nI pp))]) hx hb dX5_beats_352 hl (k := 4) rfl (by decide) rfl (fun ls hl => ?_)
                      refine lv_goto (tgt := 190) hx hb dX5_beats_355 (by decide) ?_
                      exact ih_190 (va_up re3 (pp + prN h (hpF h ht) c) 1) ls _ _ ⟨hI_190.1.done R1 hip hI_190.2 hi_190 hlt4 hnw (fun _ => Or.inl (by have := hI_190.1.1 _ hnx; omega)) (fun z => absurd z (by decide)) (by decide), (vu_ne (by omega)).trans hI_190.2⟩ hP hD hS (lv_sub hl [2, 3, 4, 0] rfl)
                    refine lv_iload hx hb dX5_beats_341 (lv_at hl 0 rfl) ?_
                    refine b_if_ne (tgt := 350) hx hb dX5_beats_343 (by decide) (fun c343_20 => ?_) (fun c343_20 => ?_)
                    · skip
                      refine lv_iconst (v := nI 0) hx hb dX5_beats_350 (by decide) ?_
                      refine n_zast (g := re3) hx hb hK hP hD hS 13 2 rfl rfl (by decide) (by omega) (by decide) dX5_beats_351 (fun H locs hP hD hS => ?_)
                      have hP : va_P D vwCl (mW5 cI cZ ad w h 0 n 0 po B ht dr wh sb V la sl we1 of_ Sn3 tp3 (va_up re3 (pp + prN h (hpF h ht) c) 0)) H := hP
                      have hD : va_D A (mW5 cI cZ ad w h 0 n 0 po B ht dr wh sb V la sl we1 of_ Sn3 tp3 (va_up re3 (pp + prN h (hpF h ht) c) 0)) := hD
                      refine n_iinc (n := 1) (lv' := [(4, .int (nI (c + 1))), (5, .int (bI lost)), (0, .ref (ad 0)), (2, .int (nI al)), (3, .int (nI pp))]) hx hb dX5_beats_352 hl (k := 4) rfl (by decide) rfl (fun ls hl => ?_)
                      refine lv_goto (tgt := 190) hx hb dX5_beats_355 (by decide) ?_
                      exact ih_190 (va_up re3 (pp + prN h (hpF h ht) c) 0) ls _ _ ⟨hI_190.1.done R1 hip hI_190.2 hi_190 hlt4 hnw (fun z => absurd z (by decide)) (fun _ => ⟨c338_19, hlo.mp c343_20⟩) (by decide), (vu_ne (by omega)).trans hI_190.2⟩ hP hD hS (lv_sub hl [2, 3, 4, 0] rfl)
                    refine lv_iconst (v := nI 1) hx hb dX5_beats_346 (by decide) ?_
                    refine lv_goto (tgt := 351) hx hb dX5_beats_347 (by decide) ?_
                    refine n_zast (g := re3) hx hb hK hP hD hS 13 2 rfl rfl (by decide) (by omega) (by decide) dX5_beats_351 (fun H locs hP hD hS => ?_)
                    have hP : va_P D vwCl (mW5 cI cZ ad w h 0 n 0 po B ht dr wh sb V la sl we1 of_ Sn3 tp3 (va_up re3 (pp + prN h (hpF h ht) c) 1)) H := hP
                    have hD : va_D A (mW5 cI cZ ad w h 0 n 0 po B ht dr wh sb V la sl we1 of_ Sn3 tp3 (va_up re3 (pp + prN h (hpF h ht) c) 1)) := hD
                    refine n_iinc (n := 1) (lv' := [(4, .int (nI (c + 1))), (5, .int (bI lost)), (0, .ref (ad 0)), (2, .int (nI al)), (3, .int (nI pp))]) hx hb dX5_beats_352 hl (k := 4) rfl (by decide) rfl (fun ls hl => ?_)
                    refine lv_goto (tgt := 190) hx hb dX5_beats_355 (by decide) ?_
                    exact ih_190 (va_up re3 (pp + prN h (hpF h ht) c) 1) ls _ _ ⟨hI_190.1.done R1 hip hI_190.2 hi_190 hlt4 hnw (fun _ => Or.inr (fun z => by have := hlo.mpr z; rw [c343_20] at this; cases this)) (fun z => absurd z (by decide)) (by decide), (vu_ne (by omega)).trans hI_190.2⟩ hP hD hS (lv_sub hl [2, 3, 4, 0] rfl)
                  refine lv_iconst (v := nI 1) hx hb dX5_beats_228 (by decide) ?_
                  refine rt_i (v := bI true) rfl ?_
                  exact mu_zret (S := BtS) (wf := fun u : BtS => (mW5 cI cZ ad w h 0 n 0 po B ht dr wh sb V la sl u.1 of_ u.2.1 u.2.2.1 u.2.2.2)) hx hb hr hlocks (by first | rfl | exact bI_nar _) (we1, Sn3, tp3, re3) (by rw [btB_t ⟨pp, c, hip, hi_190, hlt4, hsd.1, hwin.mp c225_18⟩]) hP hD hS dX5_beats_229
                · intro qx ls H locs hI_190 hP hD hS hl
                  obtain ⟨re3, rfl⟩ : ∃ z, z = qx := ⟨_, rfl⟩
                  have hl : lv_has ls 6 [(0, .ref (ad 0)), (2, .int (nI al)), (3, .int (nI pp)), (4, .int (nI w))] := hl
                  have hP : va_P D vwCl (mW5 cI cZ ad w h 0 n 0 po B ht dr wh sb V la sl we1 of_ Sn3 tp3 re3) H := hP
                  have hD : va_D A (mW5 cI cZ ad w h 0 n 0 po B ht dr wh sb V la sl we1 of_ Sn3 tp3 re3) := hD
                  have hI_190 : BtI w h B ht n re3 pp w ∧ re3 pp = 1 := hI_190
                  refine lv_iload hx hb dX5_beats_190 (lv_at hl 3 rfl) ?_
                  refine lv_aload_n hx hb dX5_beats_192 rfl (lv_at hl 0 rfl) ?_
                  refine va_get (C := RX5) (T := TX5) (N := 19) hx hb hts (by decide +kernel) hown hK hP 0 rfl rfl 1 (by decide) (hts (.fieldLink RX5 52 RX5 "w" "I") (by decide +kernel)) (fun _ h9 => h9) rfl dX5_beats_193 ?_
                  refine n_icmp_ge (tgt := 358) hx hb dX5_beats_196 (by decide) (by omega) (by omega) (fun c196_21 => ?_) (fun c196_21 => ?_)
                  · skip
                    refine n_iinc (n := 1) (lv' := [(3, .int (nI (pp + 1))), (0, .ref (ad 0)), (2, .int (nI al)), (4, .int (nI w))]) hx hb dX5_beats_358 hl (k := 2) rfl (by decide) rfl (fun ls hl => ?_)
                    refine lv_goto (tgt := 168) hx hb dX5_beats_361 (by decide) ?_
                    exact ih_168 (re3, Sn3, tp3) ls _ _ hI_190.1.next hP hD hS (lv_sub hl [1, 2, 0] rfl)
                  · exact absurd c196_21 (by omega)
              · intro qx ls H locs hI_168 hP hD hS hl
                obtain ⟨re2, Sn, tp⟩ := qx
                have hl : lv_has ls 6 [(0, .ref (ad 0)), (2, .int (nI al)), (3, .int (nI al))] := hl
                have hP : va_P D vwCl (mW5 cI cZ ad w h 0 n 0 po B ht dr wh sb V la sl we1 of_ Sn tp re2) H := hP
                have hD : va_D A (mW5 cI cZ ad w h 0 n 0 po B ht dr wh sb V la sl we1 of_ Sn tp re2) := hD
                have hI_168 : BtI w h B ht n re2 al 0 := hI_168
                refine lv_iload_n hx hb dX5_beats_168 rfl (lv_at hl 2 rfl) ?_
                refine lv_iload_n hx hb dX5_beats_169 rfl (lv_at hl 1 rfl) ?_
                refine n_icmp_ge (tgt := 364) hx hb dX5_beats_170 (by decide) (by omega) (by omega) (fun c170_22 => ?_) (fun c170_22 => ?_)
                · skip
                  refine lv_iconst (v := nI 0) hx hb dX5_beats_364 (by decide) ?_
                  refine rt_i (v := bI false) rfl ?_
                  exact mu_zret (S := BtS) (wf := fun u : BtS => (mW5 cI cZ ad w h 0 n 0 po B ht dr wh sb V la sl u.1 of_ u.2.1 u.2.2.1 u.2.2.2)) hx hb hr hlocks (by first | rfl | exact bI_nar _) (we1, Sn, tp, re2) (by rw [btB_f (BtI.none R1 (by rw [← hI_94]; exact hI_168))]) hP hD hS dX5_beats_365
                · exact absurd c170_22 (by omega)
            · exact absurd c142_13 (by omega)
        · exact absurd c99_10 (by omega)
    · exact absurd c9_4 (by omega)
