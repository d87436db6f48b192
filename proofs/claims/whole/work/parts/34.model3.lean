theorem prb_lt (st : Nat → Bool) : ∀ (k : Nat) {a : Nat}, a < 262144 → prb st k a < 262144
  | 0, _, h => h
  | k + 1, a, h => by
    unfold prb
    split
    · exact h
    · exact prb_lt st k (Nat.mod_lt _ (by decide))
set_option maxHeartbeats 4000000 in
set_option maxRecDepth 100000 in
theorem c_turned (l : Launch) (D : va_G) (cI cJ cZ : ClassId) (z : Int) (hz1 : -100000 ≤ z) (hz2 : z ≤ 100000) : Met l yX5_turned wsX5_turned (k2_rm 0 0) (RPc D [.int (zI z)] [] (tyA cI cJ cZ)) (k2_QcV (.int (zI (tuZ z)))) 0 0 (fun _ => False) := by
  refine ro_head (cc := cX5_turned) (maxL := 1) (ret := (some .int)) (by decide) rfl (Nat.le_of_ble_eq_true rfl) ?_
  intro p e s m below meth cd ls hx hb hr hlocks hts hown hml hP hK hN hl
  have hl : lv_has ls 1 [(0, .int (zI z))] := hl
  refine lv_iload_n hx hb dX5_turned_0 rfl (lv_at hl 0 rfl) ?_
  refine z_if_le (tgt := 10) hx hb dX5_turned_1 (by decide) (by unfold zB; omega) (fun c1_1 => ?_) (fun c1_1 => ?_)
  · skip
    refine lv_iload_n hx hb dX5_turned_10 rfl (lv_at hl 0 rfl) ?_
    refine z_if_ge (tgt := 20) hx hb dX5_turned_11 (by decide) (by unfold zB; omega) (fun c11_2 => ?_) (fun c11_2 => ?_)
    · skip
      refine lv_iconst (v := zI (0)) hx hb dX5_turned_20 (by decide) ?_
      exact ro_iret hx hb hr hlocks (by congr 1; unfold tuZ; split <;> first | omega | (split <;> omega)) dX5_turned_21
    refine lv_iconst (v := zI (1)) hx hb dX5_turned_14 (by decide) ?_
    refine lv_iload_n hx hb dX5_turned_15 rfl (lv_at hl 0 rfl) ?_
    refine z_isub hx hb dX5_turned_16 ?_
    refine lv_goto (tgt := 21) hx hb dX5_turned_17 (by decide) ?_
    exact ro_iret hx hb hr hlocks (by congr 1; unfold tuZ; split <;> first | omega | (split <;> omega)) dX5_turned_21
  refine lv_iconst (v := zI (-1)) hx hb dX5_turned_4 (by decide) ?_
  refine lv_iload_n hx hb dX5_turned_5 rfl (lv_at hl 0 rfl) ?_
  refine z_isub hx hb dX5_turned_6 ?_
  refine lv_goto (tgt := 21) hx hb dX5_turned_7 (by decide) ?_
  exact ro_iret hx hb hr hlocks (by congr 1; unfold tuZ; split <;> first | omega | (split <;> omega)) dX5_turned_21

set_option maxHeartbeats 4000000 in
set_option maxRecDepth 100000 in
theorem c_rank (l : Launch) (D : va_G) (cI cJ cZ : ClassId) (z : Int) (hz1 : -100000 ≤ z) (hz2 : z ≤ 100000) : Met l yX5_rank wsX5_rank (k2_rm 0 0) (RPc D [.int (zI z)] [] (tyA cI cJ cZ)) (k2_QcV (.int (zI (rkZ z)))) 0 0 (fun _ => False) := by
  refine ro_head (cc := cX5_rank) (maxL := 1) (ret := (some .int)) (by decide) rfl (Nat.le_of_ble_eq_true rfl) ?_
  intro p e s m below meth cd ls hx hb hr hlocks hts hown hml hP hK hN hl
  have hl : lv_has ls 1 [(0, .int (zI z))] := hl
  refine lv_iload_n hx hb dX5_rank_0 rfl (lv_at hl 0 rfl) ?_
  refine z_if_le (tgt := 12) hx hb dX5_rank_1 (by decide) (by unfold zB; omega) (fun c1_1 => ?_) (fun c1_1 => ?_)
  · skip
    refine lv_iload_n hx hb dX5_rank_12 rfl (lv_at hl 0 rfl) ?_
    refine z_if_ge (tgt := 24) hx hb dX5_rank_13 (by decide) (by unfold zB; omega) (fun c13_2 => ?_) (fun c13_2 => ?_)
    · skip
      refine lv_iconst (v := zI (0)) hx hb dX5_rank_24 (by decide) ?_
      exact ro_iret hx hb hr hlocks (by congr 1; unfold rkZ; split <;> first | omega | (split <;> omega)) dX5_rank_25
    refine lv_sipush (v := -1000) hx hb dX5_rank_16 (by decide) ?_
    refine lv_iload_n hx hb dX5_rank_19 rfl (lv_at hl 0 rfl) ?_
    refine rt_2 (a := zI (-1000)) (b := zI z) rfl rfl ?_
    refine z_isub hx hb dX5_rank_20 ?_
    refine lv_goto (tgt := 25) hx hb dX5_rank_21 (by decide) ?_
    exact ro_iret hx hb hr hlocks (by congr 1; unfold rkZ; split <;> first | omega | (split <;> omega)) dX5_rank_25
  refine lv_sipush (v := nI 1000) hx hb dX5_rank_4 (by decide) ?_
  refine lv_iload_n hx hb dX5_rank_7 rfl (lv_at hl 0 rfl) ?_
  refine rt_2 (a := zI 1000) (b := zI z) rfl rfl ?_
  refine z_isub hx hb dX5_rank_8 ?_
  refine lv_goto (tgt := 25) hx hb dX5_rank_9 (by decide) ?_
  exact ro_iret hx hb hr hlocks (by congr 1; unfold rkZ; split <;> first | omega | (split <;> omega)) dX5_rank_25

set_option maxHeartbeats 4000000 in
set_option maxRecDepth 100000 in
theorem c_slotOf5 (l : Launch) (D : va_G) (cI cJ cZ : ClassId) (ad : Nat → Nat) (w h th n kn po : Nat) (B : Nat → Int32) (ht dr wh sb : Nat → Nat) (V : Nat → Int32) (la sl we of_ : Nat → Nat) (Sn : Nat → Int32) (tp re : Nat → Nat) (hw b : Nat) (hhw : hw < 8192) (hb0 : b < 8192) (hsl : ∀ a, sl a ≤ 70000) (hwb : ∀ j, wh j < 2 ^ 31) (hsb : ∀ j, sb j < 2 ^ 31) (j0 : Nat) (hj0 : stB sl wh sb hw b ((hsN hw b + j0) % 262144) = true) : Met l yX5_slotOf wsX5_slotOf (k2_rm 0 0) (RPc D [.ref (ad 0), .int (nI hw), .int (nI b)] (mW5 cI cZ ad w h th n kn po B ht dr wh sb V la sl we of_ Sn tp re) (tyA cI cJ cZ)) (k2_QcV (.int (nI (prb (stB sl wh sb hw b) j0 (hsN hw b))))) 0 0 (fun _ => False) := by
  refine ro_head (cc := cX5_slotOf) (maxL := 4) (ret := (some .int)) (by decide) rfl (Nat.le_of_ble_eq_true rfl) ?_
  intro p e s m below meth cd ls hx hb hr hlocks hts hown hml hP hK hN hl
  have hl : lv_has ls 4 [(0, .ref (ad 0)), (1, .int (nI hw)), (2, .int (nI b))] := hl
  refine lv_iload_n hx hb dX5_slotOf_0 rfl (lv_at hl 1 rfl) ?_
  refine lv_sipush (v := nI 4099) hx hb dX5_slotOf_1 (by decide) ?_
  refine n_imul hx hb dX5_slotOf_4 ?_
  refine lv_iload_n hx hb dX5_slotOf_5 rfl (lv_at hl 2 rfl) ?_
  refine lv_bipush (v := nI 31) hx hb dX5_slotOf_6 (by decide) ?_
  refine n_imul hx hb dX5_slotOf_8 ?_
  refine n_iadd hx hb dX5_slotOf_9 ?_
  refine rt_ldc (v := nI 262144) hx hb hown (hts (.constant RX5 32 262144) (by decide +kernel)) (by decide) dX5_slotOf_10 ?_
  refine n_irem hx hb dX5_slotOf_12 (by omega) (by omega) (by omega) ?_
  refine lv_istore_n (lv' := [(3, .int (nI (((hw * 4099) + (b * 31)) % 262144))), (0, .ref (ad 0)), (1, .int (nI hw)), (2, .int (nI b))]) hx hb dX5_slotOf_13 rfl hl (by decide) rfl (fun ls hl => ?_)
  refine loopM (σ := Nat × Nat) (m := m) 14 4 (fun q => [(0, .ref (ad 0)), (1, .int (nI hw)), (2, .int (nI b)), (3, .int (nI q.1))]) (fun q => q.1 < 262144 ∧ stB sl wh sb hw b ((q.1 + q.2) % 262144) = true ∧ prb (stB sl wh sb hw b) q.2 q.1 = prb (stB sl wh sb hw b) j0 (hsN hw b)) (fun q => q.2) ?_ (hsN hw b, j0) ls ⟨Nat.mod_lt _ (by decide), hj0, rfl⟩ (lv_sub hl [1, 2, 3, 0] rfl)
  intro q ls hI hl ih
  obtain ⟨a, j⟩ := q
  have hl : lv_has ls 4 [(0, .ref (ad 0)), (1, .int (nI hw)), (2, .int (nI b)), (3, .int (nI a))] := hl
  have hI : a < 262144 ∧ stB sl wh sb hw b ((a + j) % 262144) = true ∧ prb (stB sl wh sb hw b) j a = prb (stB sl wh sb hw b) j0 (hsN hw b) := hI
  have hsa := hsl a
  have hq1 := hwb (sl a - 1)
  have hq2 := hsb (sl a - 1)
  have ha := hI.1
  refine lv_aload_n hx hb dX5_slotOf_14 rfl (lv_at hl 0 rfl) ?_
  refine va_get (C := RX5) (T := TX5) (N := 19) hx hb hts (by decide +kernel) hown hK hP 0 rfl rfl 13 (by decide) (hts (.fieldLink RX5 33 RX5 "slots" "[I") (by decide +kernel)) (fun _ h9 => h9) rfl dX5_slotOf_15 ?_
  refine lv_iload_n hx hb dX5_slotOf_18 rfl (lv_at hl 3 rfl) ?_
  refine n_iald hx hb hK hP 8 0 rfl rfl (by omega) (by decide) dX5_slotOf_19 ?_
  refine n_if_le (tgt := 67) hx hb dX5_slotOf_20 (by decide) (by omega) (fun c20_1 => ?_) (fun c20_1 => ?_)
  · skip
    have hst : stB sl wh sb hw b a = true := by unfold stB; rw [decide_eq_true c20_1]; rfl
    refine lv_iload_n hx hb dX5_slotOf_67 rfl (lv_at hl 3 rfl) ?_
    exact ro_iret hx hb hr hlocks (by rw [← hI.2.2]; cases j with | zero => rfl | succ j => rw [prb, hst]; rfl) dX5_slotOf_68
  refine lv_aload_n hx hb dX5_slotOf_23 rfl (lv_at hl 0 rfl) ?_
  refine va_get (C := RX5) (T := TX5) (N := 19) hx hb hts (by decide +kernel) hown hK hP 0 rfl rfl 9 (by decide) (hts (.fieldLink RX5 20 RX5 "which" "[I") (by decide +kernel)) (fun _ h9 => h9) rfl dX5_slotOf_24 ?_
  refine lv_aload_n hx hb dX5_slotOf_27 rfl (lv_at hl 0 rfl) ?_
  refine va_get (C := RX5) (T := TX5) (N := 19) hx hb hts (by decide +kernel) hown hK hP 0 rfl rfl 13 (by decide) (hts (.fieldLink RX5 33 RX5 "slots" "[I") (by decide +kernel)) (fun _ h9 => h9) rfl dX5_slotOf_28 ?_
  refine lv_iload_n hx hb dX5_slotOf_31 rfl (lv_at hl 3 rfl) ?_
  refine n_iald hx hb hK hP 8 0 rfl rfl (by omega) (by decide) dX5_slotOf_32 ?_
  refine lv_iconst (v := nI 1) hx hb dX5_slotOf_33 (by decide) ?_
  refine n_isub hx hb dX5_slotOf_34 (by omega) ?_
  refine n_iald hx hb hK hP 4 0 rfl rfl (by omega) (by decide) dX5_slotOf_35 ?_
  refine lv_iload_n hx hb dX5_slotOf_36 rfl (lv_at hl 1 rfl) ?_
  refine n_icmp_ne (tgt := 57) hx hb dX5_slotOf_37 (by decide) (by omega) (by omega) (fun c37_2 => ?_) (fun c37_2 => ?_)
  · skip
    have hns : stB sl wh sb hw b a = false := by unfold stB; rw [decide_eq_false (show ¬ sl a = 0 by omega), decide_eq_false c37_2]; rfl
    refine lv_iload_n hx hb dX5_slotOf_57 rfl (lv_at hl 3 rfl) ?_
    refine lv_iconst (v := nI 1) hx hb dX5_slotOf_58 (by decide) ?_
    refine n_iadd hx hb dX5_slotOf_59 ?_
    refine rt_ldc (v := nI 262144) hx hb hown (hts (.constant RX5 32 262144) (by decide +kernel)) (by decide) dX5_slotOf_60 ?_
    refine n_irem hx hb dX5_slotOf_62 (by omega) (by omega) (by omega) ?_
    refine lv_istore_n (lv' := [(3, .int (nI ((a + 1) % 262144))), (0, .ref (ad 0)), (1, .int (nI hw)), (2, .int (nI b))]) hx hb dX5_slotOf_63 rfl hl (by decide) rfl (fun ls hl => ?_)
    refine lv_goto (tgt := 14) hx hb dX5_slotOf_64 (by decide) ?_
    have hj1 : 0 < j := by
      rcases Nat.eq_zero_or_pos j with q | q
      · subst q; rw [Nat.add_zero, Nat.mod_eq_of_lt hI.1] at hI; rw [hns] at hI; cases hI.2.1
      · exact q
    obtain ⟨j2, ej⟩ : ∃ j2, j = j2 + 1 := ⟨j - 1, by omega⟩
    rw [ej] at hI
    refine ih ((a + 1) % 262144, j2) ls ⟨Nat.mod_lt _ (by decide), ?_, ?_⟩ (by show j2 < j; omega) (lv_sub hl [1, 2, 3, 0] rfl)
    · show stB sl wh sb hw b (((a + 1) % 262144 + j2) % 262144) = true
      rw [Nat.mod_add_mod, show a + 1 + j2 = a + (j2 + 1) by omega]; exact hI.2.1
    · show prb (stB sl wh sb hw b) j2 ((a + 1) % 262144) = _
      have := hI.2.2; rw [prb, hns, if_neg (by decide)] at this; exact this
  refine lv_aload_n hx hb dX5_slotOf_40 rfl (lv_at hl 0 rfl) ?_
  refine va_get (C := RX5) (T := TX5) (N := 19) hx hb hts (by decide +kernel) hown hK hP 0 rfl rfl 10 (by decide) (hts (.fieldLink RX5 23 RX5 "stones" "[I") (by decide +kernel)) (fun _ h9 => h9) rfl dX5_slotOf_41 ?_
  refine lv_aload_n hx hb dX5_slotOf_44 rfl (lv_at hl 0 rfl) ?_
  refine va_get (C := RX5) (T := TX5) (N := 19) hx hb hts (by decide +kernel) hown hK hP 0 rfl rfl 13 (by decide) (hts (.fieldLink RX5 33 RX5 "slots" "[I") (by decide +kernel)) (fun _ h9 => h9) rfl dX5_slotOf_45 ?_
  refine lv_iload_n hx hb dX5_slotOf_48 rfl (lv_at hl 3 rfl) ?_
  refine n_iald hx hb hK hP 8 0 rfl rfl (by omega) (by decide) dX5_slotOf_49 ?_
  refine lv_iconst (v := nI 1) hx hb dX5_slotOf_50 (by decide) ?_
  refine n_isub hx hb dX5_slotOf_51 (by omega) ?_
  refine n_iald hx hb hK hP 5 0 rfl rfl (by omega) (by decide) dX5_slotOf_52 ?_
  refine lv_iload_n hx hb dX5_slotOf_53 rfl (lv_at hl 2 rfl) ?_
  refine n_icmp_eq (tgt := 67) hx hb dX5_slotOf_54 (by decide) (by omega) (by omega) (fun c54_3 => ?_) (fun c54_3 => ?_)
  · skip
    have hst : stB sl wh sb hw b a = true := by unfold stB; rw [decide_eq_true c37_2, decide_eq_true c54_3]; simp
    refine lv_iload_n hx hb dX5_slotOf_67 rfl (lv_at hl 3 rfl) ?_
    exact ro_iret hx hb hr hlocks (by rw [← hI.2.2]; cases j with | zero => rfl | succ j => rw [prb, hst]; rfl) dX5_slotOf_68
  have hns : stB sl wh sb hw b a = false := by unfold stB; rw [decide_eq_false (show ¬ sl a = 0 by omega), decide_eq_false c54_3]; simp
  refine lv_iload_n hx hb dX5_slotOf_57 rfl (lv_at hl 3 rfl) ?_
  refine lv_iconst (v := nI 1) hx hb dX5_slotOf_58 (by decide) ?_
  refine n_iadd hx hb dX5_slotOf_59 ?_
  refine rt_ldc (v := nI 262144) hx hb hown (hts (.constant RX5 32 262144) (by decide +kernel)) (by decide) dX5_slotOf_60 ?_
  refine n_irem hx hb dX5_slotOf_62 (by omega) (by omega) (by omega) ?_
  refine lv_istore_n (lv' := [(3, .int (nI ((a + 1) % 262144))), (0, .ref (ad 0)), (1, .int (nI hw)), (2, .int (nI b))]) hx hb dX5_slotOf_63 rfl hl (by decide) rfl (fun ls hl => ?_)
  refine lv_goto (tgt := 14) hx hb dX5_slotOf_64 (by decide) ?_
  have hj1 : 0 < j := by
    rcases Nat.eq_zero_or_pos j with q | q
    · subst q; rw [Nat.add_zero, Nat.mod_eq_of_lt hI.1] at hI; rw [hns] at hI; cases hI.2.1
    · exact q
  obtain ⟨j2, ej⟩ : ∃ j2, j = j2 + 1 := ⟨j - 1, by omega⟩
  rw [ej] at hI
  refine ih ((a + 1) % 262144, j2) ls ⟨Nat.mod_lt _ (by decide), ?_, ?_⟩ (by show j2 < j; omega) (lv_sub hl [1, 2, 3, 0] rfl)
  · show stB sl wh sb hw b (((a + 1) % 262144 + j2) % 262144) = true
    rw [Nat.mod_add_mod, show a + 1 + j2 = a + (j2 + 1) by omega]; exact hI.2.1
  · show prb (stB sl wh sb hw b) j2 ((a + 1) % 262144) = _
    have := hI.2.2; rw [prb, hns, if_neg (by decide)] at this; exact this

set_option maxHeartbeats 4000000 in
set_option maxRecDepth 100000 in
theorem c_behind (l : Launch) (D : va_G) (cI cJ cZ : ClassId) (ad : Nat → Nat) (w h th n kn po : Nat) (B : Nat → Int32) (ht dr wh sb : Nat → Nat) (V : Nat → Int32) (la sl we of_ : Nat → Nat) (Sn : Nat → Int32) (tp re : Nat → Nat) (q c pl : Nat) (hd : Dm w h) (hq0 : q < 70000) (hc : c < w) (htp : ht c ≤ tp c) (hof : (of_ c + tp c - ht c) < 13) (hpl : pl ≤ 1) (hhw : (wh q + we c) < 8192) (hb0 : (sb q ||| pl * 2 ^ (of_ c + tp c - ht c)) < 8192) (hsl : ∀ a, sl a ≤ 70000) (hwb : ∀ j, wh j < 2 ^ 31) (hsb : ∀ j, sb j < 2 ^ 31) (j0 : Nat) (hj0 : stB sl wh sb (wh q + we c) (sb q ||| pl * 2 ^ (of_ c + tp c - ht c)) ((hsN (wh q + we c) (sb q ||| pl * 2 ^ (of_ c + tp c - ht c)) + j0) % 262144) = true) (hs1 : 1 ≤ sl (prb (stB sl wh sb (wh q + we c) (sb q ||| pl * 2 ^ (of_ c + tp c - ht c))) j0 (hsN (wh q + we c) (sb q ||| pl * 2 ^ (of_ c + tp c - ht c))))) : Met l yX5_behind wsX5_behind (k2_rm 1 23) (RPc D [.ref (ad 0), .int (nI q), .int (nI c), .int (nI pl)] (mW5 cI cZ ad w h th n kn po B ht dr wh sb V la sl we of_ Sn tp re) (tyA cI cJ cZ)) (k2_QcV (.int (nI (sl (prb (stB sl wh sb (wh q + we c) (sb q ||| pl * 2 ^ (of_ c + tp c - ht c))) j0 (hsN (wh q + we c) (sb q ||| pl * 2 ^ (of_ c + tp c - ht c)))) - 1)))) 0 0 (fun _ => False) := by
  refine ro_head (cc := cX5_behind) (maxL := 6) (ret := (some .int)) (by decide) rfl (Nat.le_of_ble_eq_true rfl) ?_
  intro p e s m below meth cd ls hx hb hr hlocks hts hown hml hP hK hN hl
  have hl : lv_has ls 6 [(0, .ref (ad 0)), (1, .int (nI q)), (2, .int (nI c)), (3, .int (nI pl))] := hl
  have hd0 := hd
  obtain ⟨h3w, hw9, h3h, hh7, hwh, h64⟩ := hd0
  have hsx := hsl (prb (stB sl wh sb (wh q + we c) (sb q ||| pl * 2 ^ (of_ c + tp c - ht c))) j0 (hsN (wh q + we c) (sb q ||| pl * 2 ^ (of_ c + tp c - ht c))))
  have hpx : prb (stB sl wh sb (wh q + we c) (sb q ||| pl * 2 ^ (of_ c + tp c - ht c))) j0 (hsN (wh q + we c) (sb q ||| pl * 2 ^ (of_ c + tp c - ht c))) < 262144 := prb_lt _ _ (Nat.mod_lt _ (by decide))
  refine lv_aload_n hx hb dX5_behind_0 rfl (lv_at hl 0 rfl) ?_
  refine va_get (C := RX5) (T := TX5) (N := 19) hx hb hts (by decide +kernel) hown hK hP 0 rfl rfl 10 (by decide) (hts (.fieldLink RX5 23 RX5 "stones" "[I") (by decide +kernel)) (fun _ h9 => h9) rfl dX5_behind_1 ?_
  refine lv_iload_n hx hb dX5_behind_4 rfl (lv_at hl 1 rfl) ?_
  refine n_iald hx hb hK hP 5 0 rfl rfl (by omega) (by decide) dX5_behind_5 ?_
  refine lv_iload_n hx hb dX5_behind_6 rfl (lv_at hl 3 rfl) ?_
  refine lv_aload_n hx hb dX5_behind_7 rfl (lv_at hl 0 rfl) ?_
  refine va_get (C := RX5) (T := TX5) (N := 19) hx hb hts (by decide +kernel) hown hK hP 0 rfl rfl 15 (by decide) (hts (.fieldLink RX5 39 RX5 "offsets" "[I") (by decide +kernel)) (fun _ h9 => h9) rfl dX5_behind_8 ?_
  refine lv_iload_n hx hb dX5_behind_11 rfl (lv_at hl 2 rfl) ?_
  refine n_iald hx hb hK hP 10 0 rfl rfl (by omega) (by decide) dX5_behind_12 ?_
  refine lv_aload_n hx hb dX5_behind_13 rfl (lv_at hl 0 rfl) ?_
  refine va_get (C := RX5) (T := TX5) (N := 19) hx hb hts (by decide +kernel) hown hK hP 0 rfl rfl 17 (by decide) (hts (.fieldLink RX5 45 RX5 "tops" "[I") (by decide +kernel)) (fun _ h9 => h9) rfl dX5_behind_14 ?_
  refine lv_iload_n hx hb dX5_behind_17 rfl (lv_at hl 2 rfl) ?_
  refine n_iald hx hb hK hP 12 0 rfl rfl (by omega) (by decide) dX5_behind_18 ?_
  refine n_iadd hx hb dX5_behind_19 ?_
  refine lv_aload_n hx hb dX5_behind_20 rfl (lv_at hl 0 rfl) ?_
  refine va_get (C := RX5) (T := TX5) (N := 19) hx hb hts (by decide +kernel) hown hK hP 0 rfl rfl 4 (by decide) (hts (.fieldLink RX5 13 RX5 "heights" "[I") (by decide +kernel)) (fun _ h9 => h9) rfl dX5_behind_21 ?_
  refine lv_iload_n hx hb dX5_behind_24 rfl (lv_at hl 2 rfl) ?_
  refine n_iald hx hb hK hP 2 0 rfl rfl (by omega) (by decide) dX5_behind_25 ?_
  refine n_isub hx hb dX5_behind_26 (by omega) ?_
  refine lv_ishl hx hb dX5_behind_27 ?_
  refine rt_i (v := nI (pl * 2 ^ (of_ c + tp c - ht c))) (shl_n (by omega) (by have h1 : 2 ^ (of_ c + tp c - ht c) ≤ 2 ^ 12 := Nat.pow_le_pow_right (by decide) (by omega); have h2 : pl * 2 ^ (of_ c + tp c - ht c) ≤ 1 * 2 ^ 12 := Nat.mul_le_mul hpl h1; omega)) ?_
  refine lv_ior hx hb dX5_behind_28 ?_
  refine rt_i (v := nI (sb q ||| pl * 2 ^ (of_ c + tp c - ht c))) (or_n _ _) ?_
  refine lv_istore (lv' := [(4, .int (nI (sb q ||| pl * 2 ^ (of_ c + tp c - ht c)))), (0, .ref (ad 0)), (1, .int (nI q)), (2, .int (nI c)), (3, .int (nI pl))]) hx hb dX5_behind_29 hl (by decide) rfl (fun ls hl => ?_)
  refine lv_aload_n hx hb dX5_behind_31 rfl (lv_at hl 1 rfl) ?_
  refine lv_aload_n hx hb dX5_behind_32 rfl (lv_at hl 1 rfl) ?_
  refine va_get (C := RX5) (T := TX5) (N := 19) hx hb hts (by decide +kernel) hown hK hP 0 rfl rfl 9 (by decide) (hts (.fieldLink RX5 20 RX5 "which" "[I") (by decide +kernel)) (fun _ h9 => h9) rfl dX5_behind_33 ?_
  refine lv_iload_n hx hb dX5_behind_36 rfl (lv_at hl 2 rfl) ?_
  refine n_iald hx hb hK hP 4 0 rfl rfl (by omega) (by decide) dX5_behind_37 ?_
  refine lv_aload_n hx hb dX5_behind_38 rfl (lv_at hl 1 rfl) ?_
  refine va_get (C := RX5) (T := TX5) (N := 19) hx hb hts (by decide +kernel) hown hK hP 0 rfl rfl 14 (by decide) (hts (.fieldLink RX5 36 RX5 "weights" "[I") (by decide +kernel)) (fun _ h9 => h9) rfl dX5_behind_39 ?_
  refine lv_iload_n hx hb dX5_behind_42 rfl (lv_at hl 3 rfl) ?_
  refine n_iald hx hb hK hP 9 0 rfl rfl (by omega) (by decide) dX5_behind_43 ?_
  refine n_iadd hx hb dX5_behind_44 ?_
  refine lv_iload hx hb dX5_behind_45 (lv_at hl 0 rfl) ?_
  refine ro_call (W.runV (As := [.int (nI ((wh q) + (we c))), .int (nI (sb q ||| pl * 2 ^ (of_ c + tp c - ht c)))]) (rest := []) ⟨hx, hb, hml, hown, hts⟩ (c_slotOf5 l D cI cJ cZ ad w h th n kn po B ht dr wh sb V la sl we of_ Sn tp re ((wh q) + (we c)) (sb q ||| pl * 2 ^ (of_ c + tp c - ht c)) hhw hb0 hsl hwb hsb j0 hj0) (cwV 2 hts gX5_behind_X5_slotOf rfl rfl rfl (by decide +kernel) ⟨Nat.le_of_ble_eq_true rfl, Nat.le_of_ble_eq_true rfl⟩) ⟨RPc.blind, va_recv hK hP (ci := 5) (q0 := 0) rfl rfl, (RPc.at (hP.sub [0, 1, 2, 3, 4, 5, 6, 7, 8, 9, 10, 11, 12, 13] rfl) hK hN)⟩ rfl rfl hl.1 rfl (lv_room (Nat.le_of_ble_eq_true rfl)) dX5_behind_47 ⟨Nat.zero_le _, Nat.zero_le _⟩) ?_
  refine lv_istore (lv' := [(5, .int (nI (prb (stB sl wh sb ((wh q) + (we c)) (sb q ||| pl * 2 ^ (of_ c + tp c - ht c))) j0 (hsN ((wh q) + (we c)) (sb q ||| pl * 2 ^ (of_ c + tp c - ht c)))))), (4, .int (nI (sb q ||| pl * 2 ^ (of_ c + tp c - ht c)))), (0, .ref (ad 0)), (1, .int (nI q)), (2, .int (nI c)), (3, .int (nI pl))]) hx hb dX5_behind_50 hl (by decide) rfl (fun ls hl => ?_)
  refine lv_aload_n hx hb dX5_behind_52 rfl (lv_at hl 2 rfl) ?_
  refine va_get (C := RX5) (T := TX5) (N := 19) hx hb hts (by decide +kernel) hown hK hP 0 rfl rfl 13 (by decide) (hts (.fieldLink RX5 33 RX5 "slots" "[I") (by decide +kernel)) (fun _ h9 => h9) rfl dX5_behind_53 ?_
  refine lv_iload hx hb dX5_behind_56 (lv_at hl 0 rfl) ?_
  refine n_iald hx hb hK hP 8 0 rfl rfl hpx (by decide) dX5_behind_58 ?_
  refine lv_iconst (v := nI 1) hx hb dX5_behind_59 (by decide) ?_
  refine n_isub hx hb dX5_behind_60 hs1 ?_
  exact ro_iret hx hb hr hlocks rfl dX5_behind_61

set_option maxHeartbeats 4000000 in
set_option maxRecDepth 100000 in
theorem c5_add_old (l : Launch) (D : va_G) (cI cJ cZ : ClassId) (ad : Nat → Nat) (w h th n kn po : Nat) (B : Nat → Int32) (ht dr wh sb : Nat → Nat) (V : Nat → Int32) (la sl we of_ : Nat → Nat) (Sn : Nat → Int32) (tp re : Nat → Nat) (q c pl : Nat) (sz : Nat) (hd : Dm w h) (hq0 : q < 70000) (hc : c < w) (htp : ht c ≤ tp c) (hof : (of_ c + tp c - ht c) < 13) (hpl : pl ≤ 1) (hhw : (wh q + we c) < 8192) (hb0 : (sb q ||| pl * 2 ^ (of_ c + tp c - ht c)) < 8192) (hsl : ∀ a, sl a ≤ 70000) (hwb : ∀ j, wh j < 2 ^ 31) (hsb : ∀ j, sb j < 2 ^ 31) (j0 : Nat) (hj0 : stB sl wh sb (wh q + we c) (sb q ||| pl * 2 ^ (of_ c + tp c - ht c)) ((hsN (wh q + we c) (sb q ||| pl * 2 ^ (of_ c + tp c - ht c)) + j0) % 262144) = true) (hs1 : ¬ sl (prb (stB sl wh sb (wh q + we c) (sb q ||| pl * 2 ^ (of_ c + tp c - ht c))) j0 (hsN (wh q + we c) (sb q ||| pl * 2 ^ (of_ c + tp c - ht c)))) = 0) : Met l yX5_add wsX5_add (k2_rm 1 23) (MPc D [.ref (ad 0), .int (nI q), .int (nI c), .int (nI pl)] (mW5 cI cZ ad w h th n kn po B ht dr wh sb V la sl we of_ Sn tp re) (tyA cI cJ cZ) sz) (mQv D (fun _ : Unit => True) (fun _ => (mW5 cI cZ ad w h th n kn po B ht dr wh sb V la sl we of_ Sn tp re)) (va_A (mW5 cI cZ ad w h th n kn po B ht dr wh sb V la sl we of_ Sn tp re) sz)) 0 0 (va_A (mW5 cI cZ ad w h th n kn po B ht dr wh sb V la sl we of_ Sn tp re) sz) := by
  refine mu_head (Qc := fun A => mQv D (fun _ : Unit => True) (fun _ => (mW5 cI cZ ad w h th n kn po B ht dr wh sb V la sl we of_ Sn tp re)) A) (cc := cX5_add) (maxL := 7) (ret := none) (by decide) rfl (Nat.le_of_ble_eq_true rfl) ?_
  intro p e s m below meth cd ls A hx hb hr hlocks hnm hts hown hml hA hP hK hD hN hS hl
  have hl : lv_has ls 7 [(0, .ref (ad 0)), (1, .int (nI q)), (2, .int (nI c)), (3, .int (nI pl))] := hl
  have hd0 := hd
  obtain ⟨h3w, hw9, h3h, hh7, hwh, h64⟩ := hd0
  have hsx := hsl (prb (stB sl wh sb (wh q + we c) (sb q ||| pl * 2 ^ (of_ c + tp c - ht c))) j0 (hsN (wh q + we c) (sb q ||| pl * 2 ^ (of_ c + tp c - ht c))))
  have hpx : prb (stB sl wh sb (wh q + we c) (sb q ||| pl * 2 ^ (of_ c + tp c - ht c))) j0 (hsN (wh q + we c) (sb q ||| pl * 2 ^ (of_ c + tp c - ht c))) < 262144 := prb_lt _ _ (Nat.mod_lt _ (by decide))
  refine lv_aload_n hx hb dX5_add_0 rfl (lv_at hl 0 rfl) ?_
  refine va_get (C := RX5) (T := TX5) (N := 19) hx hb hts (by decide +kernel) hown hK hP 0 rfl rfl 9 (by decide) (hts (.fieldLink RX5 20 RX5 "which" "[I") (by decide +kernel)) (fun _ h9 => h9) rfl dX5_add_1 ?_
  refine lv_iload_n hx hb dX5_add_4 rfl (lv_at hl 1 rfl) ?_
  refine n_iald hx hb hK hP 4 0 rfl rfl (by omega) (by decide) dX5_add_5 ?_
  refine lv_aload_n hx hb dX5_add_6 rfl (lv_at hl 0 rfl) ?_
  refine va_get (C := RX5) (T := TX5) (N := 19) hx hb hts (by decide +kernel) hown hK hP 0 rfl rfl 14 (by decide) (hts (.fieldLink RX5 36 RX5 "weights" "[I") (by decide +kernel)) (fun _ h9 => h9) rfl dX5_add_7 ?_
  refine lv_iload_n hx hb dX5_add_10 rfl (lv_at hl 2 rfl) ?_
  refine n_iald hx hb hK hP 9 0 rfl rfl (by omega) (by decide) dX5_add_11 ?_
  refine n_iadd hx hb dX5_add_12 ?_
  refine lv_istore (lv' := [(4, .int (nI ((wh q) + (we c)))), (0, .ref (ad 0)), (1, .int (nI q)), (2, .int (nI c)), (3, .int (nI pl))]) hx hb dX5_add_13 hl (by decide) rfl (fun ls hl => ?_)
  refine lv_aload_n hx hb dX5_add_15 rfl (lv_at hl 1 rfl) ?_
  refine va_get (C := RX5) (T := TX5) (N := 19) hx hb hts (by decide +kernel) hown hK hP 0 rfl rfl 10 (by decide) (hts (.fieldLink RX5 23 RX5 "stones" "[I") (by decide +kernel)) (fun _ h9 => h9) rfl dX5_add_16 ?_
  refine lv_iload_n hx hb dX5_add_19 rfl (lv_at hl 2 rfl) ?_
  refine n_iald hx hb hK hP 5 0 rfl rfl (by omega) (by decide) dX5_add_20 ?_
  refine lv_iload_n hx hb dX5_add_21 rfl (lv_at hl 4 rfl) ?_
  refine lv_aload_n hx hb dX5_add_22 rfl (lv_at hl 1 rfl) ?_
  refine va_get (C := RX5) (T := TX5) (N := 19) hx hb hts (by decide +kernel) hown hK hP 0 rfl rfl 15 (by decide) (hts (.fieldLink RX5 39 RX5 "offsets" "[I") (by decide +kernel)) (fun _ h9 => h9) rfl dX5_add_23 ?_
  refine lv_iload_n hx hb dX5_add_26 rfl (lv_at hl 3 rfl) ?_
  refine n_iald hx hb hK hP 10 0 rfl rfl (by omega) (by decide) dX5_add_27 ?_
  refine lv_aload_n hx hb dX5_add_28 rfl (lv_at hl 1 rfl) ?_
  refine va_get (C := RX5) (T := TX5) (N := 19) hx hb hts (by decide +kernel) hown hK hP 0 rfl rfl 17 (by decide) (hts (.fieldLink RX5 45 RX5 "tops" "[I") (by decide +kernel)) (fun _ h9 => h9) rfl dX5_add_29 ?_
  refine lv_iload_n hx hb dX5_add_32 rfl (lv_at hl 3 rfl) ?_
  refine n_iald hx hb hK hP 12 0 rfl rfl (by omega) (by decide) dX5_add_33 ?_
  refine n_iadd hx hb dX5_add_34 ?_
  refine lv_aload_n hx hb dX5_add_35 rfl (lv_at hl 1 rfl) ?_
  refine va_get (C := RX5) (T := TX5) (N := 19) hx hb hts (by decide +kernel) hown hK hP 0 rfl rfl 4 (by decide) (hts (.fieldLink RX5 13 RX5 "heights" "[I") (by decide +kernel)) (fun _ h9 => h9) rfl dX5_add_36 ?_
  refine lv_iload_n hx hb dX5_add_39 rfl (lv_at hl 3 rfl) ?_
  refine n_iald hx hb hK hP 2 0 rfl rfl (by omega) (by decide) dX5_add_40 ?_
  refine n_isub hx hb dX5_add_41 (by omega) ?_
  refine lv_ishl hx hb dX5_add_42 ?_
  refine rt_i (v := nI (pl * 2 ^ (of_ c + tp c - ht c))) (shl_n (by omega) (by have h1 : 2 ^ (of_ c + tp c - ht c) ≤ 2 ^ 12 := Nat.pow_le_pow_right (by decide) (by omega); have h2 : pl * 2 ^ (of_ c + tp c - ht c) ≤ 1 * 2 ^ 12 := Nat.mul_le_mul hpl h1; omega)) ?_
  refine lv_ior hx hb dX5_add_43 ?_
  refine rt_i (v := nI (sb q ||| pl * 2 ^ (of_ c + tp c - ht c))) (or_n _ _) ?_
  refine lv_istore (lv' := [(5, .int (nI (sb q ||| pl * 2 ^ (of_ c + tp c - ht c)))), (4, .int (nI ((wh q) + (we c)))), (0, .ref (ad 0)), (1, .int (nI q)), (2, .int (nI c)), (3, .int (nI pl))]) hx hb dX5_add_44 hl (by decide) rfl (fun ls hl => ?_)
  refine lv_aload_n hx hb dX5_add_46 rfl (lv_at hl 2 rfl) ?_
  refine lv_iload hx hb dX5_add_47 (lv_at hl 1 rfl) ?_
  refine lv_iload hx hb dX5_add_49 (lv_at hl 0 rfl) ?_
  refine ro_call (W.runV (As := [.int (nI ((wh q) + (we c))), .int (nI (sb q ||| pl * 2 ^ (of_ c + tp c - ht c)))]) (rest := []) ⟨hx, hb, hml, hown, hts⟩ (c_slotOf5 l D cI cJ cZ ad w h th n kn po B ht dr wh sb V la sl we of_ Sn tp re ((wh q) + (we c)) (sb q ||| pl * 2 ^ (of_ c + tp c - ht c)) hhw hb0 hsl hwb hsb j0 hj0) (cwV 2 hts gX5_add_X5_slotOf rfl rfl rfl (by decide +kernel) ⟨Nat.le_of_ble_eq_true rfl, Nat.le_of_ble_eq_true rfl⟩) ⟨RPc.blind, va_recv hK hP (ci := 5) (q0 := 0) rfl rfl, (RPc.at (hP.sub [0, 1, 2, 3, 4, 5, 6, 7, 8, 9, 10, 11, 12, 13] rfl) hK hN)⟩ rfl rfl hl.1 rfl (lv_room (Nat.le_of_ble_eq_true rfl)) dX5_add_51 ⟨Nat.zero_le _, Nat.zero_le _⟩) ?_
  refine lv_istore (lv' := [(6, .int (nI (prb (stB sl wh sb ((wh q) + (we c)) (sb q ||| pl * 2 ^ (of_ c + tp c - ht c))) j0 (hsN ((wh q) + (we c)) (sb q ||| pl * 2 ^ (of_ c + tp c - ht c)))))), (5, .int (nI (sb q ||| pl * 2 ^ (of_ c + tp c - ht c)))), (4, .int (nI ((wh q) + (we c)))), (0, .ref (ad 0)), (1, .int (nI q)), (2, .int (nI c)), (3, .int (nI pl))]) hx hb dX5_add_54 hl (by decide) rfl (fun ls hl => ?_)
  refine lv_aload_n hx hb dX5_add_56 rfl (lv_at hl 3 rfl) ?_
  refine va_get (C := RX5) (T := TX5) (N := 19) hx hb hts (by decide +kernel) hown hK hP 0 rfl rfl 13 (by decide) (hts (.fieldLink RX5 33 RX5 "slots" "[I") (by decide +kernel)) (fun _ h9 => h9) rfl dX5_add_57 ?_
  refine lv_iload hx hb dX5_add_60 (lv_at hl 0 rfl) ?_
  refine n_iald hx hb hK hP 8 0 rfl rfl hpx (by decide) dX5_add_62 ?_
  refine n_if_ne (tgt := 109) hx hb dX5_add_63 (by decide) (by omega) (fun c63_1 => ?_) (fun c63_1 => ?_)
  · skip
    exact mu_vret (S := Unit) (wf := fun _ => (mW5 cI cZ ad w h th n kn po B ht dr wh sb V la sl we of_ Sn tp re)) hx hb hr hlocks () trivial hP hD hS dX5_add_109
  · exact absurd c63_1 hs1

set_option maxHeartbeats 4000000 in
set_option maxRecDepth 100000 in
theorem c5_add_new (l : Launch) (D : va_G) (cI cJ cZ : ClassId) (ad : Nat → Nat) (w h th n kn po : Nat) (B : Nat → Int32) (ht dr wh sb : Nat → Nat) (V : Nat → Int32) (la sl we of_ : Nat → Nat) (Sn : Nat → Int32) (tp re : Nat → Nat) (q c pl : Nat) (sz : Nat) (hd : Dm w h) (hq0 : q < 70000) (hc : c < w) (htp : ht c ≤ tp c) (hof : (of_ c + tp c - ht c) < 13) (hpl : pl ≤ 1) (hhw : (wh q + we c) < 8192) (hb0 : (sb q ||| pl * 2 ^ (of_ c + tp c - ht c)) < 8192) (hsl : ∀ a, sl a ≤ 70000) (hwb : ∀ j, wh j < 2 ^ 31) (hsb : ∀ j, sb j < 2 ^ 31) (j0 : Nat) (hj0 : stB sl wh sb (wh q + we c) (sb q ||| pl * 2 ^ (of_ c + tp c - ht c)) ((hsN (wh q + we c) (sb q ||| pl * 2 ^ (of_ c + tp c - ht c)) + j0) % 262144) = true) (hs1 : sl (prb (stB sl wh sb (wh q + we c) (sb q ||| pl * 2 ^ (of_ c + tp c - ht c))) j0 (hsN (wh q + we c) (sb q ||| pl * 2 ^ (of_ c + tp c - ht c)))) = 0) (hpo : po < 70000) : Met l yX5_add wsX5_add (k2_rm 1 23) (MPc D [.ref (ad 0), .int (nI q), .int (nI c), .int (nI pl)] (mW5 cI cZ ad w h th n kn po B ht dr wh sb V la sl we of_ Sn tp re) (tyA cI cJ cZ) sz) (mQv D (fun _ : Unit => True) (fun _ => (mW5 cI cZ ad w h th n kn (po + 1) B ht dr (va_up wh po (wh q + we c)) (va_up sb po (sb q ||| pl * 2 ^ (of_ c + tp c - ht c))) V la (va_up sl (prb (stB sl wh sb (wh q + we c) (sb q ||| pl * 2 ^ (of_ c + tp c - ht c))) j0 (hsN (wh q + we c) (sb q ||| pl * 2 ^ (of_ c + tp c - ht c)))) (po + 1)) we of_ Sn tp re)) (va_A (mW5 cI cZ ad w h th n kn po B ht dr wh sb V la sl we of_ Sn tp re) sz)) 0 0 (va_A (mW5 cI cZ ad w h th n kn po B ht dr wh sb V la sl we of_ Sn tp re) sz) := by
  refine mu_head (Qc := fun A => mQv D (fun _ : Unit => True) (fun _ => (mW5 cI cZ ad w h th n kn (po + 1) B ht dr (va_up wh po (wh q + we c)) (va_up sb po (sb q ||| pl * 2 ^ (of_ c + tp c - ht c))) V la (va_up sl (prb (stB sl wh sb (wh q + we c) (sb q ||| pl * 2 ^ (of_ c + tp c - ht c))) j0 (hsN (wh q + we c) (sb q ||| pl * 2 ^ (of_ c + tp c - ht c)))) (po + 1)) we of_ Sn tp re)) A) (cc := cX5_add) (maxL := 7) (ret := none) (by decide) rfl (Nat.le_of_ble_eq_true rfl) ?_
  intro p e s m below meth cd ls A hx hb hr hlocks hnm hts hown hml hA hP hK hD hN hS hl
  have hl : lv_has ls 7 [(0, .ref (ad 0)), (1, .int (nI q)), (2, .int (nI c)), (3, .int (nI pl))] := hl
  have hd0 := hd
  obtain ⟨h3w, hw9, h3h, hh7, hwh, h64⟩ := hd0
  have hsx := hsl (prb (stB sl wh sb (wh q + we c) (sb q ||| pl * 2 ^ (of_ c + tp c - ht c))) j0 (hsN (wh q + we c) (sb q ||| pl * 2 ^ (of_ c + tp c - ht c))))
  have hpx : prb (stB sl wh sb (wh q + we c) (sb q ||| pl * 2 ^ (of_ c + tp c - ht c))) j0 (hsN (wh q + we c) (sb q ||| pl * 2 ^ (of_ c + tp c - ht c))) < 262144 := prb_lt _ _ (Nat.mod_lt _ (by decide))
  refine lv_aload_n hx hb dX5_add_0 rfl (lv_at hl 0 rfl) ?_
  refine va_get (C := RX5) (T := TX5) (N := 19) hx hb hts (by decide +kernel) hown hK hP 0 rfl rfl 9 (by decide) (hts (.fieldLink RX5 20 RX5 "which" "[I") (by decide +kernel)) (fun _ h9 => h9) rfl dX5_add_1 ?_
  refine lv_iload_n hx hb dX5_add_4 rfl (lv_at hl 1 rfl) ?_
  refine n_iald hx hb hK hP 4 0 rfl rfl (by omega) (by decide) dX5_add_5 ?_
  refine lv_aload_n hx hb dX5_add_6 rfl (lv_at hl 0 rfl) ?_
  refine va_get (C := RX5) (T := TX5) (N := 19) hx hb hts (by decide +kernel) hown hK hP 0 rfl rfl 14 (by decide) (hts (.fieldLink RX5 36 RX5 "weights" "[I") (by decide +kernel)) (fun _ h9 => h9) rfl dX5_add_7 ?_
  refine lv_iload_n hx hb dX5_add_10 rfl (lv_at hl 2 rfl) ?_
  refine n_iald hx hb hK hP 9 0 rfl rfl (by omega) (by decide) dX5_add_11 ?_
  refine n_iadd hx hb dX5_add_12 ?_
  refine lv_istore (lv' := [(4, .int (nI ((wh q) + (we c)))), (0, .ref (ad 0)), (1, .int (nI q)), (2, .int (nI c)), (3, .int (nI pl))]) hx hb dX5_add_13 hl (by decide) rfl (fun ls hl => ?_)
  refine lv_aload_n hx hb dX5_add_15 rfl (lv_at hl 1 rfl) ?_
  refine va_get (C := RX5) (T := TX5) (N := 19) hx hb hts (by decide +kernel) hown hK hP 0 rfl rfl 10 (by decide) (hts (.fieldLink RX5 23 RX5 "stones" "[I") (by decide +kernel)) (fun _ h9 => h9) rfl dX5_add_16 ?_
  refine lv_iload_n hx hb dX5_add_19 rfl (lv_at hl 2 rfl) ?_
  refine n_iald hx hb hK hP 5 0 rfl rfl (by omega) (by decide) dX5_add_20 ?_
  refine lv_iload_n hx hb dX5_add_21 rfl (lv_at hl 4 rfl) ?_
  refine lv_aload_n hx hb dX5_add_22 rfl (lv_at hl 1 rfl) ?_
  refine va_get (C := RX5) (T := TX5) (N := 19) hx hb hts (by decide +kernel) hown hK hP 0 rfl rfl 15 (by decide) (hts (.fieldLink RX5 39 RX5 "offsets" "[I") (by decide +kernel)) (fun _ h9 => h9) rfl dX5_add_23 ?_
  refine lv_iload_n hx hb dX5_add_26 rfl (lv_at hl 3 rfl) ?_
  refine n_iald hx hb hK hP 10 0 rfl rfl (by omega) (by decide) dX5_add_27 ?_
  refine lv_aload_n hx hb dX5_add_28 rfl (lv_at hl 1 rfl) ?_
  refine va_get (C := RX5) (T := TX5) (N := 19) hx hb hts (by decide +kernel) hown hK hP 0 rfl rfl 17 (by decide) (hts (.fieldLink RX5 45 RX5 "tops" "[I") (by decide +kernel)) (fun _ h9 => h9) rfl dX5_add_29 ?_
  refine lv_iload_n hx hb dX5_add_32 rfl (lv_at hl 3 rfl) ?_
  refine n_iald hx hb hK hP 12 0 rfl rfl (by omega) (by decide) dX5_add_33 ?_
  refine n_iadd hx hb dX5_add_34 ?_
  refine lv_aload_n hx hb dX5_add_35 rfl (lv_at hl 1 rfl) ?_
  refine va_get (C := RX5) (T := TX5) (N := 19) hx hb hts (by decide +kernel) hown hK hP 0 rfl rfl 4 (by decide) (hts (.fieldLink RX5 13 RX5 "heights" "[I") (by decide +kernel)) (fun _ h9 => h9) rfl dX5_add_36 ?_
  refine lv_iload_n hx hb dX5_add_39 rfl (lv_at hl 3 rfl) ?_
  refine n_iald hx hb hK hP 2 0 rfl rfl (by omega) (by decide) dX5_add_40 ?_
  refine n_isub hx hb dX5_add_41 (by omega) ?_
  refine lv_ishl hx hb dX5_add_42 ?_
  refine rt_i (v := nI (pl * 2 ^ (of_ c + tp c - ht c))) (shl_n (by omega) (by have h1 : 2 ^ (of_ c + tp c - ht c) ≤ 2 ^ 12 := Nat.pow_le_pow_right (by decide) (by omega); have h2 : pl * 2 ^ (of_ c + tp c - ht c) ≤ 1 * 2 ^ 12 := Nat.mul_le_mul hpl h1; omega)) ?_
  refine lv_ior hx hb dX5_add_43 ?_
  refine rt_i (v := nI (sb q ||| pl * 2 ^ (of_ c + tp c - ht c))) (or_n _ _) ?_
  refine lv_istore (lv' := [(5, .int (nI (sb q ||| pl * 2 ^ (of_ c + tp c - ht c)))), (4, .int (nI ((wh q) + (we c)))), (0, .ref (ad 0)), (1, .int (nI q)), (2, .int (nI c)), (3, .int (nI pl))]) hx hb dX5_add_44 hl (by decide) rfl (fun ls hl => ?_)
  refine lv_aload_n hx hb dX5_add_46 rfl (lv_at hl 2 rfl) ?_
  refine lv_iload hx hb dX5_add_47 (lv_at hl 1 rfl) ?_
  refine lv_iload hx hb dX5_add_49 (lv_at hl 0 rfl) ?_
  refine ro_call (W.runV (As := [.int (nI ((wh q) + (we c))), .int (nI (sb q ||| pl * 2 ^ (of_ c + tp c - ht c)))]) (rest := []) ⟨hx, hb, hml, hown, hts⟩ (c_slotOf5 l D cI cJ cZ ad w h th n kn po B ht dr wh sb V la sl we of_ Sn tp re ((wh q) + (we c)) (sb q ||| pl * 2 ^ (of_ c + tp c - ht c)) hhw hb0 hsl hwb hsb j0 hj0) (cwV 2 hts gX5_add_X5_slotOf rfl rfl rfl (by decide +kernel) ⟨Nat.le_of_ble_eq_true rfl, Nat.le_of_ble_eq_true rfl⟩) ⟨RPc.blind, va_recv hK hP (ci := 5) (q0 := 0) rfl rfl, (RPc.at (hP.sub [0, 1, 2, 3, 4, 5, 6, 7, 8, 9, 10, 11, 12, 13] rfl) hK hN)⟩ rfl rfl hl.1 rfl (lv_room (Nat.le_of_ble_eq_true rfl)) dX5_add_51 ⟨Nat.zero_le _, Nat.zero_le _⟩) ?_
  refine lv_istore (lv' := [(6, .int (nI (prb (stB sl wh sb ((wh q) + (we c)) (sb q ||| pl * 2 ^ (of_ c + tp c - ht c))) j0 (hsN ((wh q) + (we c)) (sb q ||| pl * 2 ^ (of_ c + tp c - ht c)))))), (5, .int (nI (sb q ||| pl * 2 ^ (of_ c + tp c - ht c)))), (4, .int (nI ((wh q) + (we c)))), (0, .ref (ad 0)), (1, .int (nI q)), (2, .int (nI c)), (3, .int (nI pl))]) hx hb dX5_add_54 hl (by decide) rfl (fun ls hl => ?_)
  refine lv_aload_n hx hb dX5_add_56 rfl (lv_at hl 3 rfl) ?_
  refine va_get (C := RX5) (T := TX5) (N := 19) hx hb hts (by decide +kernel) hown hK hP 0 rfl rfl 13 (by decide) (hts (.fieldLink RX5 33 RX5 "slots" "[I") (by decide +kernel)) (fun _ h9 => h9) rfl dX5_add_57 ?_
  refine lv_iload hx hb dX5_add_60 (lv_at hl 0 rfl) ?_
  refine n_iald hx hb hK hP 8 0 rfl rfl hpx (by decide) dX5_add_62 ?_
  refine n_if_ne (tgt := 109) hx hb dX5_add_63 (by decide) (by omega) (fun c63_1 => ?_) (fun c63_1 => ?_)
  · exact absurd c63_1 (fun q9 => q9 hs1)
  refine lv_aload_n hx hb dX5_add_66 rfl (lv_at hl 3 rfl) ?_
  refine va_get (C := RX5) (T := TX5) (N := 19) hx hb hts (by decide +kernel) hown hK hP 0 rfl rfl 9 (by decide) (hts (.fieldLink RX5 20 RX5 "which" "[I") (by decide +kernel)) (fun _ h9 => h9) rfl dX5_add_67 ?_
  refine lv_aload_n hx hb dX5_add_70 rfl (lv_at hl 3 rfl) ?_
  refine va_get (C := RX5) (T := TX5) (N := 19) hx hb hts (by decide +kernel) hown hK hP 0 rfl rfl 8 (by decide) (hts (.fieldLink RX5 111 RX5 "positions" "I") (by decide +kernel)) (fun _ h9 => h9) rfl dX5_add_71 ?_
  refine lv_iload hx hb dX5_add_74 (lv_at hl 2 rfl) ?_
  refine n_iast (g := wh) hx hb hK hP hD hS 4 0 rfl rfl (by omega) (by decide) dX5_add_76 (fun H locs hP hD hS => ?_)
  have hP : va_P D vwCl (mW5 cI cZ ad w h th n kn po B ht dr (va_up wh po ((wh q) + (we c))) sb V la sl we of_ Sn tp re) H := hP
  have hD : va_D A (mW5 cI cZ ad w h th n kn po B ht dr (va_up wh po ((wh q) + (we c))) sb V la sl we of_ Sn tp re) := hD
  refine lv_aload_n hx hb dX5_add_77 rfl (lv_at hl 3 rfl) ?_
  refine va_get (C := RX5) (T := TX5) (N := 19) hx hb hts (by decide +kernel) hown hK hP 0 rfl rfl 10 (by decide) (hts (.fieldLink RX5 23 RX5 "stones" "[I") (by decide +kernel)) (fun _ h9 => h9) rfl dX5_add_78 ?_
  refine lv_aload_n hx hb dX5_add_81 rfl (lv_at hl 3 rfl) ?_
  refine va_get (C := RX5) (T := TX5) (N := 19) hx hb hts (by decide +kernel) hown hK hP 0 rfl rfl 8 (by decide) (hts (.fieldLink RX5 111 RX5 "positions" "I") (by decide +kernel)) (fun _ h9 => h9) rfl dX5_add_82 ?_
  refine lv_iload hx hb dX5_add_85 (lv_at hl 1 rfl) ?_
  refine n_iast (g := sb) hx hb hK hP hD hS 5 0 rfl rfl (by omega) (by decide) dX5_add_87 (fun H locs hP hD hS => ?_)
  have hP : va_P D vwCl (mW5 cI cZ ad w h th n kn po B ht dr (va_up wh po ((wh q) + (we c))) (va_up sb po (sb q ||| pl * 2 ^ (of_ c + tp c - ht c))) V la sl we of_ Sn tp re) H := hP
  have hD : va_D A (mW5 cI cZ ad w h th n kn po B ht dr (va_up wh po ((wh q) + (we c))) (va_up sb po (sb q ||| pl * 2 ^ (of_ c + tp c - ht c))) V la sl we of_ Sn tp re) := hD
  refine lv_aload_n hx hb dX5_add_88 rfl (lv_at hl 3 rfl) ?_
  refine lv_dup hx hb dX5_add_89 rfl ?_
  refine va_get (C := RX5) (T := TX5) (N := 19) hx hb hts (by decide +kernel) hown hK hP 0 rfl rfl 8 (by decide) (hts (.fieldLink RX5 111 RX5 "positions" "I") (by decide +kernel)) (fun _ h9 => h9) rfl dX5_add_90 ?_
  refine lv_iconst (v := nI 1) hx hb dX5_add_93 (by decide) ?_
  refine n_iadd hx hb dX5_add_94 ?_
  refine va_put (ty := .int) (C := RX5) (T := TX5) (N := 19) hx hb hts (by decide +kernel) tyX5 tyX5_ok nmX5 hown hK hP hD hS 0 rfl rfl 8 (by decide) (hts (.fieldLink RX5 111 RX5 "positions" "I") (by decide +kernel)) (fun _ h9 => h9) rfl (by decide +kernel) rfl rfl (Nat.le_of_ble_eq_true rfl) dX5_add_95 (fun H locs hP hD hS => ?_)
  have hP : va_P D vwCl (mW5 cI cZ ad w h th n kn (po + 1) B ht dr (va_up wh po ((wh q) + (we c))) (va_up sb po (sb q ||| pl * 2 ^ (of_ c + tp c - ht c))) V la sl we of_ Sn tp re) H := hP
  have hD : va_D A (mW5 cI cZ ad w h th n kn (po + 1) B ht dr (va_up wh po ((wh q) + (we c))) (va_up sb po (sb q ||| pl * 2 ^ (of_ c + tp c - ht c))) V la sl we of_ Sn tp re) := hD
  refine lv_aload_n hx hb dX5_add_98 rfl (lv_at hl 3 rfl) ?_
  refine va_get (C := RX5) (T := TX5) (N := 19) hx hb hts (by decide +kernel) hown hK hP 0 rfl rfl 13 (by decide) (hts (.fieldLink RX5 33 RX5 "slots" "[I") (by decide +kernel)) (fun _ h9 => h9) rfl dX5_add_99 ?_
  refine lv_iload hx hb dX5_add_102 (lv_at hl 0 rfl) ?_
  refine lv_aload_n hx hb dX5_add_104 rfl (lv_at hl 3 rfl) ?_
  refine va_get (C := RX5) (T := TX5) (N := 19) hx hb hts (by decide +kernel) hown hK hP 0 rfl rfl 8 (by decide) (hts (.fieldLink RX5 111 RX5 "positions" "I") (by decide +kernel)) (fun _ h9 => h9) rfl dX5_add_105 ?_
  refine n_iast (g := sl) hx hb hK hP hD hS 8 0 rfl rfl hpx (by decide) dX5_add_108 (fun H locs hP hD hS => ?_)
  have hP : va_P D vwCl (mW5 cI cZ ad w h th n kn (po + 1) B ht dr (va_up wh po ((wh q) + (we c))) (va_up sb po (sb q ||| pl * 2 ^ (of_ c + tp c - ht c))) V la (va_up sl (prb (stB sl wh sb ((wh q) + (we c)) (sb q ||| pl * 2 ^ (of_ c + tp c - ht c))) j0 (hsN ((wh q) + (we c)) (sb q ||| pl * 2 ^ (of_ c + tp c - ht c)))) (po + 1)) we of_ Sn tp re) H := hP
  have hD : va_D A (mW5 cI cZ ad w h th n kn (po + 1) B ht dr (va_up wh po ((wh q) + (we c))) (va_up sb po (sb q ||| pl * 2 ^ (of_ c + tp c - ht c))) V la (va_up sl (prb (stB sl wh sb ((wh q) + (we c)) (sb q ||| pl * 2 ^ (of_ c + tp c - ht c))) j0 (hsN ((wh q) + (we c)) (sb q ||| pl * 2 ^ (of_ c + tp c - ht c)))) (po + 1)) we of_ Sn tp re) := hD
  exact mu_vret (S := Unit) (wf := fun _ => (mW5 cI cZ ad w h th n kn (po + 1) B ht dr (va_up wh po (wh q + we c)) (va_up sb po (sb q ||| pl * 2 ^ (of_ c + tp c - ht c))) V la (va_up sl (prb (stB sl wh sb (wh q + we c) (sb q ||| pl * 2 ^ (of_ c + tp c - ht c))) j0 (hsN (wh q + we c) (sb q ||| pl * 2 ^ (of_ c + tp c - ht c)))) (po + 1)) we of_ Sn tp re)) hx hb hr hlocks () trivial hP hD hS dX5_add_109

set_option maxHeartbeats 4000000 in
set_option maxRecDepth 100000 in
theorem c5_vb_win (l : Launch) (D : va_G) (cI cJ cZ : ClassId) (ad : Nat → Nat) (w h th n kn po : Nat) (B : Nat → Int32) (ht dr wh sb : Nat → Nat) (V : Nat → Int32) (la sl we of_ : Nat → Nat) (Sn : Nat → Int32) (tp re : Nat → Nat) (q c pl : Nat) (last : Bool) (sz : Nat) (hd : Dm w h) (hc : c < w) (htp : tp c < h) (hsn : Sn (7 * c + tp c) = -1) (hwn : wnB w h (upd Sn (7 * c + tp c) (nI pl)) c (tp c) = true) : Met l yX5_valueBehind wsX5_valueBehind (k2_rm 4 97) (MPc D [.ref (ad 0), .int (nI q), .int (nI c), .int (nI pl), .int (bI last)] (mW5 cI cZ ad w h th n kn po B ht dr wh sb V la sl we of_ Sn tp re) (tyA cI cJ cZ) sz) (mQi D (fun r9 (_ : Unit) => r9 = zI 1) (fun _ => (mW5 cI cZ ad w h th n kn po B ht dr wh sb V la sl we of_ Sn tp re)) (va_A (mW5 cI cZ ad w h th n kn po B ht dr wh sb V la sl we of_ Sn tp re) sz)) 0 0 (va_A (mW5 cI cZ ad w h th n kn po B ht dr wh sb V la sl we of_ Sn tp re) sz) := by
  refine mu_head (Qc := fun A => mQi D (fun r9 (_ : Unit) => r9 = zI 1) (fun _ => (mW5 cI cZ ad w h th n kn po B ht dr wh sb V la sl we of_ Sn tp re)) A) (cc := cX5_valueBehind) (maxL := 5) (ret := (some .int)) (by decide) rfl (Nat.le_of_ble_eq_true rfl) ?_
  intro p e s m below meth cd ls A hx hb hr hlocks hnm hts hown hml hA hP hK hD hN hS hl
  have hl : lv_has ls 5 [(0, .ref (ad 0)), (1, .int (nI q)), (2, .int (nI c)), (3, .int (nI pl)), (4, .int (bI last))] := hl
  have hd0 := hd
  obtain ⟨h3w, hw9, h3h, hh7, hwh, h64⟩ := hd0
  refine lv_aload_n hx hb dX5_valueBehind_0 rfl (lv_at hl 0 rfl) ?_
  refine lv_iload_n hx hb dX5_valueBehind_1 rfl (lv_at hl 2 rfl) ?_
  refine lv_iload_n hx hb dX5_valueBehind_2 rfl (lv_at hl 3 rfl) ?_
  refine mu_calli (wr := []) (va_runV (As := [.int (nI c), .int (nI pl)]) (rest := []) ⟨hx, hb, hml, hown, hts⟩ (c5_dropWins l D cI cJ cZ ad w h th n kn po B ht dr wh sb V la sl we of_ Sn tp re c pl _ hd hc htp hsn) (cwV 2 hts gX5_valueBehind_X5_dropWins rfl rfl rfl (by decide +kernel) ⟨Nat.le_of_ble_eq_true rfl, Nat.le_of_ble_eq_true rfl⟩) ⟨MPc.blind, va_recv hK hP (ci := 5) (q0 := 0) rfl rfl, (MPc.at (hP.sub [0, 1, 2, 3, 4, 5, 6, 7, 8, 9, 10, 11, 12, 13] rfl) (hD.sub [0, 1, 2, 3, 4, 5, 6, 7, 8, 9, 10, 11, 12, 13] (by decide) rfl) hK hN)⟩ rfl rfl hl.1 rfl (lv_room (Nat.le_of_ble_eq_true rfl)) dX5_valueBehind_3 ⟨Nat.zero_le _, Nat.zero_le _⟩) hP hD hS hA [0, 1, 2, 3, 4, 5, 6, 7, 8, 9, 10, 11, 12, 13] [] rfl rfl (by decide) (by decide) (fun rr u1 H locs hw hP hD hS => ?_)
  obtain rfl := hw
  have hP : va_P D vwCl (mW5 cI cZ ad w h th n kn po B ht dr wh sb V la sl we of_ Sn tp re) H := hP
  have hD : va_D A (mW5 cI cZ ad w h th n kn po B ht dr wh sb V la sl we of_ Sn tp re) := hD
  refine b_if_eq (tgt := 11) hx hb dX5_valueBehind_6 (by decide) (fun c6_1 => ?_) (fun c6_1 => ?_)
  · exact absurd c6_1 (by rw [hwn]; decide)
  refine lv_iconst (v := zI (1)) hx hb dX5_valueBehind_9 (by decide) ?_
  exact mu_iret (S := Unit) (wf := fun _ => (mW5 cI cZ ad w h th n kn po B ht dr wh sb V la sl we of_ Sn tp re)) hx hb hr hlocks () rfl hP hD hS dX5_valueBehind_10

set_option maxHeartbeats 4000000 in
set_option maxRecDepth 100000 in
theorem c5_vb_last (l : Launch) (D : va_G) (cI cJ cZ : ClassId) (ad : Nat → Nat) (w h th n kn po : Nat) (B : Nat → Int32) (ht dr wh sb : Nat → Nat) (V : Nat → Int32) (la sl we of_ : Nat → Nat) (Sn : Nat → Int32) (tp re : Nat → Nat) (q c pl : Nat) (sz : Nat) (hd : Dm w h) (hc : c < w) (htp : tp c < h) (hsn : Sn (7 * c + tp c) = -1) (hwn : wnB w h (upd Sn (7 * c + tp c) (nI pl)) c (tp c) = false) : Met l yX5_valueBehind wsX5_valueBehind (k2_rm 4 97) (MPc D [.ref (ad 0), .int (nI q), .int (nI c), .int (nI pl), .int (bI true)] (mW5 cI cZ ad w h th n kn po B ht dr wh sb V la sl we of_ Sn tp re) (tyA cI cJ cZ) sz) (mQi D (fun r9 (_ : Unit) => r9 = zI 0) (fun _ => (mW5 cI cZ ad w h th n kn po B ht dr wh sb V la sl we of_ Sn tp re)) (va_A (mW5 cI cZ ad w h th n kn po B ht dr wh sb V la sl we of_ Sn tp re) sz)) 0 0 (va_A (mW5 cI cZ ad w h th n kn po B ht dr wh sb V la sl we of_ Sn tp re) sz) := by
  refine mu_head (Qc := fun A => mQi D (fun r9 (_ : Unit) => r9 = zI 0) (fun _ => (mW5 cI cZ ad w h th n kn po B ht dr wh sb V la sl we of_ Sn tp re)) A) (cc := cX5_valueBehind) (maxL := 5) (ret := (some .int)) (by decide) rfl (Nat.le_of_ble_eq_true rfl) ?_
  intro p e s m below meth cd ls A hx hb hr hlocks hnm hts hown hml hA hP hK hD hN hS hl
  have hl : lv_has ls 5 [(0, .ref (ad 0)), (1, .int (nI q)), (2, .int (nI c)), (3, .int (nI pl)), (4, .int (bI true))] := hl
  have hd0 := hd
  obtain ⟨h3w, hw9, h3h, hh7, hwh, h64⟩ := hd0
  refine lv_aload_n hx hb dX5_valueBehind_0 rfl (lv_at hl 0 rfl) ?_
  refine lv_iload_n hx hb dX5_valueBehind_1 rfl (lv_at hl 2 rfl) ?_
  refine lv_iload_n hx hb dX5_valueBehind_2 rfl (lv_at hl 3 rfl) ?_
  refine mu_calli (wr := []) (va_runV (As := [.int (nI c), .int (nI pl)]) (rest := []) ⟨hx, hb, hml, hown, hts⟩ (c5_dropWins l D cI cJ cZ ad w h th n kn po B ht dr wh sb V la sl we of_ Sn tp re c pl _ hd hc htp hsn) (cwV 2 hts gX5_valueBehind_X5_dropWins rfl rfl rfl (by decide +kernel) ⟨Nat.le_of_ble_eq_true rfl, Nat.le_of_ble_eq_true rfl⟩) ⟨MPc.blind, va_recv hK hP (ci := 5) (q0 := 0) rfl rfl, (MPc.at (hP.sub [0, 1, 2, 3, 4, 5, 6, 7, 8, 9, 10, 11, 12, 13] rfl) (hD.sub [0, 1, 2, 3, 4, 5, 6, 7, 8, 9, 10, 11, 12, 13] (by decide) rfl) hK hN)⟩ rfl rfl hl.1 rfl (lv_room (Nat.le_of_ble_eq_true rfl)) dX5_valueBehind_3 ⟨Nat.zero_le _, Nat.zero_le _⟩) hP hD hS hA [0, 1, 2, 3, 4, 5, 6, 7, 8, 9, 10, 11, 12, 13] [] rfl rfl (by decide) (by decide) (fun rr u1 H locs hw hP hD hS => ?_)
  obtain rfl := hw
  have hP : va_P D vwCl (mW5 cI cZ ad w h th n kn po B ht dr wh sb V la sl we of_ Sn tp re) H := hP
  have hD : va_D A (mW5 cI cZ ad w h th n kn po B ht dr wh sb V la sl we of_ Sn tp re) := hD
  refine b_if_eq (tgt := 11) hx hb dX5_valueBehind_6 (by decide) (fun c6_1 => ?_) (fun c6_1 => ?_)
  · skip
    refine lv_iload hx hb dX5_valueBehind_11 (lv_at hl 4 rfl) ?_
    refine b_if_eq (tgt := 20) hx hb dX5_valueBehind_13 (by decide) (fun c13_2 => absurd c13_2 (by decide)) (fun _ => ?_)
    refine lv_iconst (v := zI (0)) hx hb dX5_valueBehind_16 (by decide) ?_
    refine lv_goto (tgt := 35) hx hb dX5_valueBehind_17 (by decide) ?_
    exact mu_iret (S := Unit) (wf := fun _ => (mW5 cI cZ ad w h th n kn po B ht dr wh sb V la sl we of_ Sn tp re)) hx hb hr hlocks () rfl hP hD hS dX5_valueBehind_35
  · exact absurd c6_1 (by rw [hwn]; decide)

set_option maxHeartbeats 4000000 in
set_option maxRecDepth 100000 in
theorem c5_vb_go (l : Launch) (D : va_G) (cI cJ cZ : ClassId) (ad : Nat → Nat) (w h th n kn po : Nat) (B : Nat → Int32) (ht dr wh sb : Nat → Nat) (V : Nat → Int32) (la sl we of_ : Nat → Nat) (Sn : Nat → Int32) (tp re : Nat → Nat) (q c pl : Nat) (z : Int) (sz : Nat) (hd : Dm w h) (hc : c < w) (htp : tp c < h) (hsn : Sn (7 * c + tp c) = -1) (hwn : wnB w h (upd Sn (7 * c + tp c) (nI pl)) c (tp c) = false) (hq0 : q < 70000) (htp2 : ht c ≤ tp c) (hof : (of_ c + tp c - ht c) < 13) (hpl : pl ≤ 1) (hhw : (wh q + we c) < 8192) (hb0 : (sb q ||| pl * 2 ^ (of_ c + tp c - ht c)) < 8192) (hsl : ∀ a, sl a ≤ 70000) (hwb : ∀ j, wh j < 2 ^ 31) (hsb : ∀ j, sb j < 2 ^ 31) (j0 : Nat) (hj0 : stB sl wh sb (wh q + we c) (sb q ||| pl * 2 ^ (of_ c + tp c - ht c)) ((hsN (wh q + we c) (sb q ||| pl * 2 ^ (of_ c + tp c - ht c)) + j0) % 262144) = true) (hs1 : 1 ≤ sl (prb (stB sl wh sb (wh q + we c) (sb q ||| pl * 2 ^ (of_ c + tp c - ht c))) j0 (hsN (wh q + we c) (sb q ||| pl * 2 ^ (of_ c + tp c - ht c))))) (hV : V (sl (prb (stB sl wh sb (wh q + we c) (sb q ||| pl * 2 ^ (of_ c + tp c - ht c))) j0 (hsN (wh q + we c) (sb q ||| pl * 2 ^ (of_ c + tp c - ht c)))) - 1) = zI z) (hz1 : -100000 ≤ z) (hz2 : z ≤ 100000) : Met l yX5_valueBehind wsX5_valueBehind (k2_rm 4 97) (MPc D [.ref (ad 0), .int (nI q), .int (nI c), .int (nI pl), .int (bI false)] (mW5 cI cZ ad w h th n kn po B ht dr wh sb V la sl we of_ Sn tp re) (tyA cI cJ cZ) sz) (mQi D (fun r9 (_ : Unit) => r9 = zI (tuZ z)) (fun _ => (mW5 cI cZ ad w h th n kn po B ht dr wh sb V la sl we of_ Sn tp re)) (va_A (mW5 cI cZ ad w h th n kn po B ht dr wh sb V la sl we of_ Sn tp re) sz)) 0 0 (va_A (mW5 cI cZ ad w h th n kn po B ht dr wh sb V la sl we of_ Sn tp re) sz) := by
  refine mu_head (Qc := fun A => mQi D (fun r9 (_ : Unit) => r9 = zI (tuZ z)) (fun _ => (mW5 cI cZ ad w h th n kn po B ht dr wh sb V la sl we of_ Sn tp re)) A) (cc := cX5_valueBehind) (maxL := 5) (ret := (some .int)) (by decide) rfl (Nat.le_of_ble_eq_true rfl) ?_
  intro p e s m below meth cd ls A hx hb hr hlocks hnm hts hown hml hA hP hK hD hN hS hl
  have hl : lv_has ls 5 [(0, .ref (ad 0)), (1, .int (nI q)), (2, .int (nI c)), (3, .int (nI pl)), (4, .int (bI false))] := hl
  have hd0 := hd
  obtain ⟨h3w, hw9, h3h, hh7, hwh, h64⟩ := hd0
  have hsx := hsl (prb (stB sl wh sb (wh q + we c) (sb q ||| pl * 2 ^ (of_ c + tp c - ht c))) j0 (hsN (wh q + we c) (sb q ||| pl * 2 ^ (of_ c + tp c - ht c))))
  refine lv_aload_n hx hb dX5_valueBehind_0 rfl (lv_at hl 0 rfl) ?_
  refine lv_iload_n hx hb dX5_valueBehind_1 rfl (lv_at hl 2 rfl) ?_
  refine lv_iload_n hx hb dX5_valueBehind_2 rfl (lv_at hl 3 rfl) ?_
  refine mu_calli (wr := []) (va_runV (As := [.int (nI c), .int (nI pl)]) (rest := []) ⟨hx, hb, hml, hown, hts⟩ (c5_dropWins l D cI cJ cZ ad w h th n kn po B ht dr wh sb V la sl we of_ Sn tp re c pl _ hd hc htp hsn) (cwV 2 hts gX5_valueBehind_X5_dropWins rfl rfl rfl (by decide +kernel) ⟨Nat.le_of_ble_eq_true rfl, Nat.le_of_ble_eq_true rfl⟩) ⟨MPc.blind, va_recv hK hP (ci := 5) (q0 := 0) rfl rfl, (MPc.at (hP.sub [0, 1, 2, 3, 4, 5, 6, 7, 8, 9, 10, 11, 12, 13] rfl) (hD.sub [0, 1, 2, 3, 4, 5, 6, 7, 8, 9, 10, 11, 12, 13] (by decide) rfl) hK hN)⟩ rfl rfl hl.1 rfl (lv_room (Nat.le_of_ble_eq_true rfl)) dX5_valueBehind_3 ⟨Nat.zero_le _, Nat.zero_le _⟩) hP hD hS hA [0, 1, 2, 3, 4, 5, 6, 7, 8, 9, 10, 11, 12, 13] [] rfl rfl (by decide) (by decide) (fun rr u1 H locs hw hP hD hS => ?_)
  obtain rfl := hw
  have hP : va_P D vwCl (mW5 cI cZ ad w h th n kn po B ht dr wh sb V la sl we of_ Sn tp re) H := hP
  have hD : va_D A (mW5 cI cZ ad w h th n kn po B ht dr wh sb V la sl we of_ Sn tp re) := hD
  refine b_if_eq (tgt := 11) hx hb dX5_valueBehind_6 (by decide) (fun c6_1 => ?_) (fun c6_1 => ?_)
  · skip
    refine lv_iload hx hb dX5_valueBehind_11 (lv_at hl 4 rfl) ?_
    refine b_if_eq (tgt := 20) hx hb dX5_valueBehind_13 (by decide) (fun _ => ?_) (fun c13_2 => absurd c13_2 (by decide))
    refine lv_aload_n hx hb dX5_valueBehind_20 rfl (lv_at hl 0 rfl) ?_
    refine va_get (C := RX5) (T := TX5) (N := 19) hx hb hts (by decide +kernel) hown hK hP 0 rfl rfl 11 (by decide) (hts (.fieldLink RX5 26 RX5 "values" "[I") (by decide +kernel)) (fun _ h9 => h9) rfl dX5_valueBehind_21 ?_
    refine lv_aload_n hx hb dX5_valueBehind_24 rfl (lv_at hl 0 rfl) ?_
    refine lv_iload_n hx hb dX5_valueBehind_25 rfl (lv_at hl 1 rfl) ?_
    refine lv_iload_n hx hb dX5_valueBehind_26 rfl (lv_at hl 2 rfl) ?_
    refine lv_iload_n hx hb dX5_valueBehind_27 rfl (lv_at hl 3 rfl) ?_
    refine ro_call (W.runV (As := [.int (nI q), .int (nI c), .int (nI pl)]) (rest := [.ref (ad 6)]) ⟨hx, hb, hml, hown, hts⟩ (c_behind l D cI cJ cZ ad w h th n kn po B ht dr wh sb V la sl we of_ Sn tp re q c pl hd hq0 hc htp2 hof hpl hhw hb0 hsl hwb hsb j0 hj0 hs1) (cwV 3 hts gX5_valueBehind_X5_behind rfl rfl rfl (by decide +kernel) ⟨Nat.le_of_ble_eq_true rfl, Nat.le_of_ble_eq_true rfl⟩) ⟨RPc.blind, va_recv hK hP (ci := 5) (q0 := 0) rfl rfl, (RPc.at (hP.sub [0, 1, 2, 3, 4, 5, 6, 7, 8, 9, 10, 11, 12, 13] rfl) hK hN)⟩ rfl rfl hl.1 rfl (lv_room (Nat.le_of_ble_eq_true rfl)) dX5_valueBehind_28 ⟨Nat.zero_le _, Nat.zero_le _⟩) ?_
    refine n_iald hx hb hK hP 6 0 rfl rfl (by omega) (by decide) dX5_valueBehind_31 ?_
    refine rt_i (v := zI z) hV ?_
    refine ro_call (W.runS (As := [.int (zI z)]) (rest := []) ⟨hx, hb, hml, hown, hts⟩ (c_turned l D cI cJ cZ z (by omega) (by omega)) (va_cwS 1 hts gX5_valueBehind_X5_turned rfl rfl rfl (by decide +kernel) ⟨Nat.le_of_ble_eq_true rfl, Nat.le_of_ble_eq_true rfl⟩) ⟨RPc.blind, (RPc.at (hP.sub [] rfl) hK hN)⟩ rfl rfl hl.1 rfl (lv_room (Nat.le_of_ble_eq_true rfl)) dX5_valueBehind_32 ⟨Nat.zero_le _, Nat.zero_le _⟩) ?_
    exact mu_iret (S := Unit) (wf := fun _ => (mW5 cI cZ ad w h th n kn po B ht dr wh sb V la sl we of_ Sn tp re)) hx hb hr hlocks () rfl hP hD hS dX5_valueBehind_35
  · exact absurd c6_1 (by rw [hwn]; decide)

set_option maxHeartbeats 4000000 in
set_option maxRecDepth 100000 in
theorem c5_show (l : Launch) (D : va_G) (cI cJ cZ : ClassId) (ad : Nat → Nat) (w h th n kn po : Nat) (B : Nat → Int32) (ht dr wh sb : Nat → Nat) (V : Nat → Int32) (la sl we of_ : Nat → Nat) (Sn : Nat → Int32) (tp re : Nat → Nat) (q : Nat) (sz : Nat) (hd : Dm w h) (hq0 : q < 70000) (hht : ∀ c, ht c ≤ h) (hofs : ∀ c, c < w → of_ c ≤ 12) (hwb : ∀ j, wh j < 2 ^ 31) (hsb : ∀ j, sb j < 2 ^ 31) : Met l yX5_show wsX5_show (k2_rm 0 0) (MPc D [.ref (ad 0), .int (nI q)] (mW5 cI cZ ad w h th n kn po B ht dr wh sb V la sl we of_ Sn tp re) (tyA cI cJ cZ) sz) (mQv D (fun _ : Unit => True) (fun _ => (mW5 cI cZ ad w h th n kn po B ht dr wh sb V la sl we of_ (shS h B ht of_ (wh q) (sb q) Sn w) (tpS h ht tp (wh q) w) re)) (va_A (mW5 cI cZ ad w h th n kn po B ht dr wh sb V la sl we of_ Sn tp re) sz)) 0 0 (va_A (mW5 cI cZ ad w h th n kn po B ht dr wh sb V la sl we of_ Sn tp re) sz) := by
  refine mu_head (Qc := fun A => mQv D (fun _ : Unit => True) (fun _ => (mW5 cI cZ ad w h th n kn po B ht dr wh sb V la sl we of_ (shS h B ht of_ (wh q) (sb q) Sn w) (tpS h ht tp (wh q) w) re)) A) (cc := cX5_show) (maxL := 6) (ret := none) (by decide) rfl (Nat.le_of_ble_eq_true rfl) ?_
  intro p e s m below meth cd ls A hx hb hr hlocks hnm hts hown hml hA hP hK hD hN hS hl
  have hl : lv_has ls 6 [(0, .ref (ad 0)), (1, .int (nI q))] := hl
  have hd0 := hd
  obtain ⟨h3w, hw9, h3h, hh7, hwh, h64⟩ := hd0
  have hwq := hwb q
  rw [← cpF_0 B Sn] at hP hD
  refine lv_aload_n hx hb dX5_show_0 rfl (lv_at hl 0 rfl) ?_
  refine va_get (C := RX5) (T := TX5) (N := 19) hx hb hts (by decide +kernel) hown hK hP 0 rfl rfl 9 (by decide) (hts (.fieldLink RX5 20 RX5 "which" "[I") (by decide +kernel)) (fun _ h9 => h9) rfl dX5_show_1 ?_
  refine lv_iload_n hx hb dX5_show_4 rfl (lv_at hl 1 rfl) ?_
  refine n_iald hx hb hK hP 4 0 rfl rfl (by omega) (by decide) dX5_show_5 ?_
  refine lv_istore_n (lv' := [(2, .int (nI (wh q))), (0, .ref (ad 0)), (1, .int (nI q))]) hx hb dX5_show_6 rfl hl (by decide) rfl (fun ls hl => ?_)
  refine lv_iconst (v := nI 0) hx hb dX5_show_7 (by decide) ?_
  refine lv_istore_n (lv' := [(3, .int (nI 0)), (2, .int (nI (wh q))), (0, .ref (ad 0)), (1, .int (nI q))]) hx hb dX5_show_8 rfl hl (by decide) rfl (fun ls hl => ?_)
  refine loopH (σ := Unit) (m := m) (Wf := fun H locs g => W p l e _ s m _ below meth cd H locs _ _ _ g) 9 6 (fun i qx => [(2, .int (nI (wh q))), (0, .ref (ad 0)), (1, .int (nI q)), (3, .int (nI i))]) (fun i qx => (mW5 cI cZ ad w h th n kn po B ht dr wh sb V la sl we of_ (cpF B Sn i) tp re)) (fun i qx => True) 63 ?_ ?_ 0 () ls _ _ (by omega) trivial hP hD hS (lv_sub hl [1, 2, 3, 0] rfl)
  · intro k qx ls H locs hi_9 hI_9 hP hD hS hl ih_9
    have hl : lv_has ls 6 [(2, .int (nI (wh q))), (0, .ref (ad 0)), (1, .int (nI q)), (3, .int (nI k))] := hl
    have hP : va_P D vwCl (mW5 cI cZ ad w h th n kn po B ht dr wh sb V la sl we of_ (cpF B Sn k) tp re) H := hP
    have hD : va_D A (mW5 cI cZ ad w h th n kn po B ht dr wh sb V la sl we of_ (cpF B Sn k) tp re) := hD
    have hI_9 : True := hI_9
    refine lv_iload_n hx hb dX5_show_9 rfl (lv_at hl 3 rfl) ?_
    refine lv_bipush (v := nI 63) hx hb dX5_show_10 (by decide) ?_
    refine n_icmp_ge (tgt := 33) hx hb dX5_show_12 (by decide) (by omega) (by omega) (fun c12_1 => ?_) (fun c12_1 => ?_)
    · exact absurd c12_1 (by omega)
    refine lv_aload_n hx hb dX5_show_15 rfl (lv_at hl 1 rfl) ?_
    refine va_get (C := RX5) (T := TX5) (N := 19) hx hb hts (by decide +kernel) hown hK hP 0 rfl rfl 16 (by decide) (hts (.fieldLink RX5 42 RX5 "seen" "[I") (by decide +kernel)) (fun _ h9 => h9) rfl dX5_show_16 ?_
    refine lv_iload_n hx hb dX5_show_19 rfl (lv_at hl 3 rfl) ?_
    refine lv_aload_n hx hb dX5_show_20 rfl (lv_at hl 1 rfl) ?_
    refine va_get (C := RX5) (T := TX5) (N := 19) hx hb hts (by decide +kernel) hown hK hP 0 rfl rfl 3 (by decide) (hts (.fieldLink RX5 7 RX5 "board" "[I") (by decide +kernel)) (fun _ h9 => h9) rfl dX5_show_21 ?_
    refine lv_iload_n hx hb dX5_show_24 rfl (lv_at hl 3 rfl) ?_
    refine n_iald hx hb hK hP 1 0 rfl rfl (by omega) (by decide) dX5_show_25 ?_
    refine n_iastR hx hb hK hP hD hS 11 0 rfl rfl (by omega) (by decide) dX5_show_26 (fun H locs hP hD hS => ?_)
    have hP : va_P D vwCl (mW5 cI cZ ad w h th n kn po B ht dr wh sb V la sl we of_ (upd (cpF B Sn k) k (B k)) tp re) H := hP
    have hD : va_D A (mW5 cI cZ ad w h th n kn po B ht dr wh sb V la sl we of_ (upd (cpF B Sn k) k (B k)) tp re) := hD
    refine n_iinc (n := 1) (lv' := [(3, .int (nI (k + 1))), (2, .int (nI (wh q))), (0, .ref (ad 0)), (1, .int (nI q))]) hx hb dX5_show_27 hl (k := 3) rfl (by decide) rfl (fun ls hl => ?_)
    refine lv_goto (tgt := 9) hx hb dX5_show_30 (by decide) ?_
    rw [cpF_s] at hP hD
    exact ih_9 () ls _ _ trivial hP hD hS (lv_sub hl [1, 2, 3, 0] rfl)
  · intro qx ls H locs hI_9 hP hD hS hl
    have hl : lv_has ls 6 [(2, .int (nI (wh q))), (0, .ref (ad 0)), (1, .int (nI q)), (3, .int (nI 63))] := hl
    have hP : va_P D vwCl (mW5 cI cZ ad w h th n kn po B ht dr wh sb V la sl we of_ (cpF B Sn 63) tp re) H := hP
    have hD : va_D A (mW5 cI cZ ad w h th n kn po B ht dr wh sb V la sl we of_ (cpF B Sn 63) tp re) := hD
    have hI_9 : True := hI_9
    refine lv_iload_n hx hb dX5_show_9 rfl (lv_at hl 3 rfl) ?_
    refine lv_bipush (v := nI 63) hx hb dX5_show_10 (by decide) ?_
    refine n_icmp_ge (tgt := 33) hx hb dX5_show_12 (by decide) (by decide) (by decide) (fun _ => ?_) (fun c12_2 => absurd c12_2 (by decide))
    refine lv_iconst (v := nI 0) hx hb dX5_show_33 (by decide) ?_
    refine lv_istore_n (lv' := [(3, .int (nI 0)), (2, .int (nI (wh q))), (0, .ref (ad 0)), (1, .int (nI q))]) hx hb dX5_show_34 rfl hl (by decide) rfl (fun ls hl => ?_)
    rw [← shS_0 h B ht of_ (wh q) (sb q) Sn, ← tpS_0 h ht tp (wh q)] at hP hD
    refine loopH (σ := Nat) (m := m) (Wf := fun H locs g => W p l e _ s m _ below meth cd H locs _ _ _ g) 35 6 (fun i qx => [(0, .ref (ad 0)), (1, .int (nI q)), (3, .int (nI i)), (2, .int (nI qx))]) (fun i qx => (mW5 cI cZ ad w h th n kn po B ht dr wh sb V la sl we of_ (shS h B ht of_ (wh q) (sb q) Sn i) (tpS h ht tp (wh q) i) re)) (fun i qx => qx = wh q / prN h ht i) w ?_ ?_ 0 (wh q) ls _ _ (by omega) (by simp [prN]) hP hD hS (lv_sub hl [2, 3, 0, 1] rfl)
    · intro c qx ls H locs hi_35 hI_35 hP hD hS hl ih_35
      obtain ⟨rs, rfl⟩ : ∃ z, z = qx := ⟨_, rfl⟩
      have hl : lv_has ls 6 [(0, .ref (ad 0)), (1, .int (nI q)), (3, .int (nI c)), (2, .int (nI rs))] := hl
      have hP : va_P D vwCl (mW5 cI cZ ad w h th n kn po B ht dr wh sb V la sl we of_ (shS h B ht of_ (wh q) (sb q) Sn c) (tpS h ht tp (wh q) c) re) H := hP
      have hD : va_D A (mW5 cI cZ ad w h th n kn po B ht dr wh sb V la sl we of_ (shS h B ht of_ (wh q) (sb q) Sn c) (tpS h ht tp (wh q) c) re) := hD
      have hI_35 : rs = wh q / prN h ht c := hI_35
      have hhc := hht c
      have hoc := hofs c hi_35
      have hrs : rs ≤ wh q := by rw [hI_35]; exact Nat.div_le_self _ _
      have hdl := dgN_lt h ht (wh q) c
      have hwq := hwb q
      have hsq := hsb q
      refine lv_iload_n hx hb dX5_show_35 rfl (lv_at hl 2 rfl) ?_
      refine lv_aload_n hx hb dX5_show_36 rfl (lv_at hl 0 rfl) ?_
      refine va_get (C := RX5) (T := TX5) (N := 19) hx hb hts (by decide +kernel) hown hK hP 0 rfl rfl 1 (by decide) (hts (.fieldLink RX5 52 RX5 "w" "I") (by decide +kernel)) (fun _ h9 => h9) rfl dX5_show_37 ?_
      refine n_icmp_ge (tgt := 150) hx hb dX5_show_40 (by decide) (by omega) (by omega) (fun c40_3 => ?_) (fun c40_3 => ?_)
      · exact absurd c40_3 (by omega)
      refine lv_iload_n hx hb dX5_show_43 rfl (lv_at hl 3 rfl) ?_
      refine lv_aload_n hx hb dX5_show_44 rfl (lv_at hl 0 rfl) ?_
      refine va_get (C := RX5) (T := TX5) (N := 19) hx hb hts (by decide +kernel) hown hK hP 0 rfl rfl 2 (by decide) (hts (.fieldLink RX5 56 RX5 "h" "I") (by decide +kernel)) (fun _ h9 => h9) rfl dX5_show_45 ?_
      refine lv_aload_n hx hb dX5_show_48 rfl (lv_at hl 0 rfl) ?_
      refine va_get (C := RX5) (T := TX5) (N := 19) hx hb hts (by decide +kernel) hown hK hP 0 rfl rfl 4 (by decide) (hts (.fieldLink RX5 13 RX5 "heights" "[I") (by decide +kernel)) (fun _ h9 => h9) rfl dX5_show_49 ?_
      refine lv_iload_n hx hb dX5_show_52 rfl (lv_at hl 2 rfl) ?_
      refine n_iald hx hb hK hP 2 0 rfl rfl (by omega) (by decide) dX5_show_53 ?_
      refine n_isub hx hb dX5_show_54 (by omega) ?_
      refine lv_iconst (v := nI 1) hx hb dX5_show_55 (by decide) ?_
      refine n_iadd hx hb dX5_show_56 ?_
      refine n_irem hx hb dX5_show_57 (by omega) (by omega) (by omega) ?_
      refine rt_i (v := nI (dgN h ht (wh q) c)) (by rw [hI_35]; rfl) ?_
      refine lv_istore (lv' := [(4, .int (nI (dgN h ht (wh q) c))), (0, .ref (ad 0)), (1, .int (nI q)), (3, .int (nI c)), (2, .int (nI rs))]) hx hb dX5_show_58 hl (by decide) rfl (fun ls hl => ?_)
      refine lv_iload_n hx hb dX5_show_60 rfl (lv_at hl 4 rfl) ?_
      refine lv_aload_n hx hb dX5_show_61 rfl (lv_at hl 1 rfl) ?_
      refine va_get (C := RX5) (T := TX5) (N := 19) hx hb hts (by decide +kernel) hown hK hP 0 rfl rfl 2 (by decide) (hts (.fieldLink RX5 56 RX5 "h" "I") (by decide +kernel)) (fun _ h9 => h9) rfl dX5_show_62 ?_
      refine lv_aload_n hx hb dX5_show_65 rfl (lv_at hl 1 rfl) ?_
      refine va_get (C := RX5) (T := TX5) (N := 19) hx hb hts (by decide +kernel) hown hK hP 0 rfl rfl 4 (by decide) (hts (.fieldLink RX5 13 RX5 "heights" "[I") (by decide +kernel)) (fun _ h9 => h9) rfl dX5_show_66 ?_
      refine lv_iload_n hx hb dX5_show_69 rfl (lv_at hl 3 rfl) ?_
      refine n_iald hx hb hK hP 2 0 rfl rfl (by omega) (by decide) dX5_show_70 ?_
      refine n_isub hx hb dX5_show_71 (by omega) ?_
      refine lv_iconst (v := nI 1) hx hb dX5_show_72 (by decide) ?_
      refine n_iadd hx hb dX5_show_73 ?_
      refine n_idiv hx hb dX5_show_74 (by omega) (by omega) (by omega) ?_
      refine lv_istore_n (lv' := [(2, .int (nI (rs / ((h - (ht c)) + 1)))), (4, .int (nI (dgN h ht (wh q) c))), (0, .ref (ad 0)), (1, .int (nI q)), (3, .int (nI c))]) hx hb dX5_show_75 rfl hl (by decide) rfl (fun ls hl => ?_)
      refine lv_iconst (v := nI 0) hx hb dX5_show_76 (by decide) ?_
      refine lv_istore (lv' := [(5, .int (nI 0)), (2, .int (nI (rs / ((h - (ht c)) + 1)))), (4, .int (nI (dgN h ht (wh q) c))), (0, .ref (ad 0)), (1, .int (nI q)), (3, .int (nI c))]) hx hb dX5_show_77 hl (by decide) rfl (fun ls hl => ?_)
      rw [← sh2_0] at hP hD
      refine loopH (σ := Unit) (m := m) (Wf := fun H locs g => W p l e _ s m _ below meth cd H locs _ _ _ g) 79 6 (fun i qx => [(2, .int (nI (rs / ((h - (ht c)) + 1)))), (4, .int (nI (dgN h ht (wh q) c))), (0, .ref (ad 0)), (1, .int (nI q)), (3, .int (nI c)), (5, .int (nI i))]) (fun i qx => (mW5 cI cZ ad w h th n kn po B ht dr wh sb V la sl we of_ (sh2 h B ht of_ (wh q) (sb q) Sn c i) (tpS h ht tp (wh q) c) re)) (fun i qx => True) (dgN h ht (wh q) c) ?_ ?_ 0 () ls _ _ (by omega) trivial hP hD hS (lv_sub hl [1, 2, 3, 4, 5, 0] rfl)
      · intro i qx ls H locs hi_79 hI_79 hP hD hS hl ih_79
        have hl : lv_has ls 6 [(2, .int (nI (rs / ((h - (ht c)) + 1)))), (4, .int (nI (dgN h ht (wh q) c))), (0, .ref (ad 0)), (1, .int (nI q)), (3, .int (nI c)), (5, .int (nI i))] := hl
        have hP : va_P D vwCl (mW5 cI cZ ad w h th n kn po B ht dr wh sb V la sl we of_ (sh2 h B ht of_ (wh q) (sb q) Sn c i) (tpS h ht tp (wh q) c) re) H := hP
        have hD : va_D A (mW5 cI cZ ad w h th n kn po B ht dr wh sb V la sl we of_ (sh2 h B ht of_ (wh q) (sb q) Sn c i) (tpS h ht tp (wh q) c) re) := hD
        have hI_79 : True := hI_79
        refine lv_iload hx hb dX5_show_79 (lv_at hl 5 rfl) ?_
        refine lv_iload hx hb dX5_show_81 (lv_at hl 1 rfl) ?_
        refine n_icmp_ge (tgt := 129) hx hb dX5_show_83 (by decide) (by omega) (by omega) (fun c83_4 => ?_) (fun c83_4 => ?_)
        · exact absurd c83_4 (by omega)
        refine lv_aload_n hx hb dX5_show_86 rfl (lv_at hl 2 rfl) ?_
        refine va_get (C := RX5) (T := TX5) (N := 19) hx hb hts (by decide +kernel) hown hK hP 0 rfl rfl 16 (by decide) (hts (.fieldLink RX5 42 RX5 "seen" "[I") (by decide +kernel)) (fun _ h9 => h9) rfl dX5_show_87 ?_
        refine lv_bipush (v := nI 7) hx hb dX5_show_90 (by decide) ?_
        refine lv_iload_n hx hb dX5_show_92 rfl (lv_at hl 4 rfl) ?_
        refine n_imul hx hb dX5_show_93 ?_
        refine lv_aload_n hx hb dX5_show_94 rfl (lv_at hl 2 rfl) ?_
        refine va_get (C := RX5) (T := TX5) (N := 19) hx hb hts (by decide +kernel) hown hK hP 0 rfl rfl 4 (by decide) (hts (.fieldLink RX5 13 RX5 "heights" "[I") (by decide +kernel)) (fun _ h9 => h9) rfl dX5_show_95 ?_
        refine lv_iload_n hx hb dX5_show_98 rfl (lv_at hl 4 rfl) ?_
        refine n_iald hx hb hK hP 2 0 rfl rfl (by omega) (by decide) dX5_show_99 ?_
        refine n_iadd hx hb dX5_show_100 ?_
        refine lv_iload hx hb dX5_show_101 (lv_at hl 5 rfl) ?_
        refine n_iadd hx hb dX5_show_103 ?_
        refine lv_aload_n hx hb dX5_show_104 rfl (lv_at hl 2 rfl) ?_
        refine va_get (C := RX5) (T := TX5) (N := 19) hx hb hts (by decide +kernel) hown hK hP 0 rfl rfl 10 (by decide) (hts (.fieldLink RX5 23 RX5 "stones" "[I") (by decide +kernel)) (fun _ h9 => h9) rfl dX5_show_105 ?_
        refine lv_iload_n hx hb dX5_show_108 rfl (lv_at hl 3 rfl) ?_
        refine n_iald hx hb hK hP 5 0 rfl rfl (by omega) (by decide) dX5_show_109 ?_
        refine lv_aload_n hx hb dX5_show_110 rfl (lv_at hl 2 rfl) ?_
        refine va_get (C := RX5) (T := TX5) (N := 19) hx hb hts (by decide +kernel) hown hK hP 0 rfl rfl 15 (by decide) (hts (.fieldLink RX5 39 RX5 "offsets" "[I") (by decide +kernel)) (fun _ h9 => h9) rfl dX5_show_111 ?_
        refine lv_iload_n hx hb dX5_show_114 rfl (lv_at hl 4 rfl) ?_
        refine n_iald hx hb hK hP 10 0 rfl rfl (by omega) (by decide) dX5_show_115 ?_
        refine lv_iload hx hb dX5_show_116 (lv_at hl 5 rfl) ?_
        refine n_iadd hx hb dX5_show_118 ?_
        refine lv_ishr hx hb dX5_show_119 ?_
        refine rt_i (v := nI (sb q / 2 ^ (of_ c + i))) (shr_n (by omega) (by omega)) ?_
        refine lv_iconst (v := nI 1) hx hb dX5_show_120 (by decide) ?_
        refine lv_iand hx hb dX5_show_121 ?_
        refine rt_i (v := nI (sb q / 2 ^ (of_ c + i) % 2)) (and1_n (Nat.lt_of_le_of_lt (Nat.div_le_self _ _) (by omega))) ?_
        refine n_iastR hx hb hK hP hD hS 11 0 rfl rfl (by omega) (by decide) dX5_show_122 (fun H locs hP hD hS => ?_)
        have hP : va_P D vwCl (mW5 cI cZ ad w h th n kn po B ht dr wh sb V la sl we of_ (upd (sh2 h B ht of_ (wh q) (sb q) Sn c i) (((7 * c) + (ht c)) + i) (nI (sb q / 2 ^ (of_ c + i) % 2))) (tpS h ht tp (wh q) c) re) H := hP
        have hD : va_D A (mW5 cI cZ ad w h th n kn po B ht dr wh sb V la sl we of_ (upd (sh2 h B ht of_ (wh q) (sb q) Sn c i) (((7 * c) + (ht c)) + i) (nI (sb q / 2 ^ (of_ c + i) % 2))) (tpS h ht tp (wh q) c) re) := hD
        refine n_iinc (n := 1) (lv' := [(5, .int (nI (i + 1))), (2, .int (nI (rs / ((h - (ht c)) + 1)))), (4, .int (nI (dgN h ht (wh q) c))), (0, .ref (ad 0)), (1, .int (nI q)), (3, .int (nI c))]) hx hb dX5_show_123 hl (k := 5) rfl (by decide) rfl (fun ls hl => ?_)
        refine lv_goto (tgt := 79) hx hb dX5_show_126 (by decide) ?_
        rw [sh2_s (by omega)] at hP hD
        exact ih_79 () ls _ _ trivial hP hD hS (lv_sub hl [1, 2, 3, 4, 5, 0] rfl)
      · intro qx ls H locs hI_79 hP hD hS hl
        have hl : lv_has ls 6 [(2, .int (nI (rs / ((h - (ht c)) + 1)))), (4, .int (nI (dgN h ht (wh q) c))), (0, .ref (ad 0)), (1, .int (nI q)), (3, .int (nI c)), (5, .int (nI (dgN h ht (wh q) c)))] := hl
        have hP : va_P D vwCl (mW5 cI cZ ad w h th n kn po B ht dr wh sb V la sl we of_ (sh2 h B ht of_ (wh q) (sb q) Sn c (dgN h ht (wh q) c)) (tpS h ht tp (wh q) c) re) H := hP
        have hD : va_D A (mW5 cI cZ ad w h th n kn po B ht dr wh sb V la sl we of_ (sh2 h B ht of_ (wh q) (sb q) Sn c (dgN h ht (wh q) c)) (tpS h ht tp (wh q) c) re) := hD
        have hI_79 : True := hI_79
        refine lv_iload hx hb dX5_show_79 (lv_at hl 5 rfl) ?_
        refine lv_iload hx hb dX5_show_81 (lv_at hl 1 rfl) ?_
        refine n_icmp_ge (tgt := 129) hx hb dX5_show_83 (by decide) (by omega) (by omega) (fun c83_5 => ?_) (fun c83_5 => ?_)
        · skip
          refine lv_aload_n hx hb dX5_show_129 rfl (lv_at hl 2 rfl) ?_
          refine va_get (C := RX5) (T := TX5) (N := 19) hx hb hts (by decide +kernel) hown hK hP 0 rfl rfl 17 (by decide) (hts (.fieldLink RX5 45 RX5 "tops" "[I") (by decide +kernel)) (fun _ h9 => h9) rfl dX5_show_130 ?_
          refine lv_iload_n hx hb dX5_show_133 rfl (lv_at hl 4 rfl) ?_
          refine lv_aload_n hx hb dX5_show_134 rfl (lv_at hl 2 rfl) ?_
          refine va_get (C := RX5) (T := TX5) (N := 19) hx hb hts (by decide +kernel) hown hK hP 0 rfl rfl 4 (by decide) (hts (.fieldLink RX5 13 RX5 "heights" "[I") (by decide +kernel)) (fun _ h9 => h9) rfl dX5_show_135 ?_
          refine lv_iload_n hx hb dX5_show_138 rfl (lv_at hl 4 rfl) ?_
          refine n_iald hx hb hK hP 2 0 rfl rfl (by omega) (by decide) dX5_show_139 ?_
          refine lv_iload hx hb dX5_show_140 (lv_at hl 1 rfl) ?_
          refine n_iadd hx hb dX5_show_142 ?_
          refine n_iast (g := (tpS h ht tp (wh q) c)) hx hb hK hP hD hS 12 0 rfl rfl (by omega) (by decide) dX5_show_143 (fun H locs hP hD hS => ?_)
          have hP : va_P D vwCl (mW5 cI cZ ad w h th n kn po B ht dr wh sb V la sl we of_ (sh2 h B ht of_ (wh q) (sb q) Sn c (dgN h ht (wh q) c)) (va_up (tpS h ht tp (wh q) c) c ((ht c) + (dgN h ht (wh q) c))) re) H := hP
          have hD : va_D A (mW5 cI cZ ad w h th n kn po B ht dr wh sb V la sl we of_ (sh2 h B ht of_ (wh q) (sb q) Sn c (dgN h ht (wh q) c)) (va_up (tpS h ht tp (wh q) c) c ((ht c) + (dgN h ht (wh q) c))) re) := hD
          refine n_iinc (n := 1) (lv' := [(3, .int (nI (c + 1))), (2, .int (nI (rs / ((h - (ht c)) + 1)))), (4, .int (nI (dgN h ht (wh q) c))), (0, .ref (ad 0)), (1, .int (nI q)), (5, .int (nI (dgN h ht (wh q) c)))]) hx hb dX5_show_144 hl (k := 4) rfl (by decide) rfl (fun ls hl => ?_)
          refine lv_goto (tgt := 35) hx hb dX5_show_147 (by decide) ?_
          rw [sh2_e, tpS_s] at hP hD
          exact ih_35 (rs / ((h - (ht c)) + 1)) ls _ _ (by rw [hI_35, Nat.div_div_eq_div_mul]; rfl) hP hD hS (lv_sub hl [3, 4, 0, 1] rfl)
        · exact absurd c83_5 (by omega)
    · intro qx ls H locs hI_35 hP hD hS hl
      obtain ⟨rs, rfl⟩ : ∃ z, z = qx := ⟨_, rfl⟩
      have hl : lv_has ls 6 [(0, .ref (ad 0)), (1, .int (nI q)), (3, .int (nI w)), (2, .int (nI rs))] := hl
      have hP : va_P D vwCl (mW5 cI cZ ad w h th n kn po B ht dr wh sb V la sl we of_ (shS h B ht of_ (wh q) (sb q) Sn w) (tpS h ht tp (wh q) w) re) H := hP
      have hD : va_D A (mW5 cI cZ ad w h th n kn po B ht dr wh sb V la sl we of_ (shS h B ht of_ (wh q) (sb q) Sn w) (tpS h ht tp (wh q) w) re) := hD
      have hI_35 : rs = wh q / prN h ht w := hI_35
      refine lv_iload_n hx hb dX5_show_35 rfl (lv_at hl 2 rfl) ?_
      refine lv_aload_n hx hb dX5_show_36 rfl (lv_at hl 0 rfl) ?_
      refine va_get (C := RX5) (T := TX5) (N := 19) hx hb hts (by decide +kernel) hown hK hP 0 rfl rfl 1 (by decide) (hts (.fieldLink RX5 52 RX5 "w" "I") (by decide +kernel)) (fun _ h9 => h9) rfl dX5_show_37 ?_
      refine n_icmp_ge (tgt := 150) hx hb dX5_show_40 (by decide) (by omega) (by omega) (fun c40_6 => ?_) (fun c40_6 => ?_)
      · skip
        exact mu_vret (S := Unit) (wf := fun _ => (mW5 cI cZ ad w h th n kn po B ht dr wh sb V la sl we of_ (shS h B ht of_ (wh q) (sb q) Sn w) (tpS h ht tp (wh q) w) re)) hx hb hr hlocks () trivial hP hD hS dX5_show_150
      · exact absurd c40_6 (by omega)
