set_option maxHeartbeats 4000000 in
set_option maxRecDepth 100000 in
theorem w_drop_bad (l : Launch) (hlt : l.stackTraces = false) (D : va_G) (cI cJ cZ : ClassId) (w h x ou : Nat) (ax : Nat → Nat) (d : List Nat) (S : Nat → Int64) (hy : Nat → Nat) (u : Mem) (O : Nat → Int64) (k : Int32) (sz : Nat) (hd : Dm w h) (GG : gOK w h d) (C : CtOK w h d (S, hy, u)) (hk : icB w k = false) : Met l yL_drop wsL_drop (x_rm 7 113) (YPc D [.ref x, .int k, .ref ou] (cW cI cJ w h x ax ou d (S, hy, u) O) (tyA cI cJ cZ) sz) (wQ D cI cJ w h x ax ou (1, d, 0) (va_A (cW cI cJ w h x ax ou d (S, hy, u) O) sz)) 1 6 (va_A (cW cI cJ w h x ax ou d (S, hy, u) O) sz) := by
  refine mh_head (Qc := fun A => wQ D cI cJ w h x ax ou (1, d, 0) A) (cc := cL_drop) (maxL := 4) (ret := (some .int)) (by decide) rfl (Nat.le_of_ble_eq_true rfl) ?_
  intro p e s m below meth cd ls A hx hb hr hlocks hts hown hml hA hP hK hD hN hS hT hZ hc0 htab hl
  have hl : lv_has ls 4 [(0, .ref x), (1, .int k), (2, .ref ou)] := hl
  have hht := gH_le GG
  have hn := (g_emp GG).1
  refine lv_aload_n hx hb dL_drop_0 rfl (lv_at hl 2 rfl) ?_
  refine lv_iconst (v := nI 0) hx hb dL_drop_1 (by decide) ?_
  refine lv_aload_n hx hb dL_drop_2 rfl (lv_at hl 0 rfl) ?_
  refine lv_iload_n hx hb dL_drop_3 rfl (lv_at hl 1 rfl) ?_
  refine xw_call (vx_runV (As := [.int k]) (rest := [.int (nI 0), .ref ou]) ⟨hx, hb, hml, hown, hts⟩ (x_drop_bad l hlt D cI cJ cZ w h x (ax 1) (ax 2) (ax 3) (ax 4) (ax 5) (ax 6) (ax 7) (ax 8) S (gH d) hy d.length k hd hht hn hk) (cwV 1 hts gL_drop_X4_drop rfl rfl rfl (by decide +kernel) ⟨Nat.le_of_ble_eq_true rfl, Nat.le_of_ble_eq_true rfl⟩) ⟨XPc.blind, va_recv hK hP (ci := 4) (q0 := 1) rfl rfl, XPc.at (hP.sub [1, 2, 3, 4, 5, 6, 7] rfl) hK hN hT hZ⟩ rfl rfl hl.1 rfl (lv_room (Nat.le_of_ble_eq_true rfl)) dL_drop_4 ⟨Nat.le_of_ble_eq_true rfl, Nat.le_of_ble_eq_true rfl⟩) (fun ce q9 H1 z1 z2 z3 z4 z5 => ?_)
  refine vx_catch (name := eIA) hown [] ⟨0, 9, 12, 13⟩ [⟨0, 9, 15, 15⟩] htab (fun z hz => by cases hz) (by decide) (by decide) (hts (.classLink RL 13 eIA) (by decide +kernel)) (tw_cast hT (by decide +kernel)) z3 z4 z5 ?_
  show W p l e _ s m _ below meth cd _ _ _ _ _ (F0 m 12 ls [.ref q9])
  have hS : va_S A s.heap H1 [] := ⟨z1, fun q hq _ => z2 q hq, fun l h => by cases h⟩
  have hP := hP.kept (H1 := H1) (fun k q hk => z2 q.1 (vx_lt hP hk))
  refine lv_astore_n (lv' := [(3, .ref q9), (0, .ref x), (1, .int k), (2, .ref ou)]) hx hb dL_drop_12 rfl hl (by decide) rfl (fun ls hl => ?_)
  refine lv_iconst (v := nI 1) hx hb dL_drop_13 (by decide) ?_
  exact mu_iret (S := CtS × (Nat → Int64)) (wf := fun v => cW cI cJ w h x ax ou ((1, d, 0) : Oc).2.1 v.1 v.2) hx hb hr hlocks ((S, hy, u), O) ⟨rfl, C, fun z => absurd (show (1 : Nat) = 0 from z) (by decide)⟩ hP hD hS dL_drop_14

set_option maxHeartbeats 4000000 in
set_option maxRecDepth 100000 in
theorem w_drop_no (l : Launch) (hlt : l.stackTraces = false) (D : va_G) (cI cJ cZ : ClassId) (w h x ou : Nat) (ax : Nat → Nat) (d : List Nat) (S : Nat → Int64) (hy : Nat → Nat) (u : Mem) (O : Nat → Int64) (c : Nat) (sz : Nat) (hd : Dm w h) (GG : gOK w h d) (C : CtOK w h d (S, hy, u)) (hc : c < w) (hic : icB w (nI c) = true) (ho : 0 ≤ gWn w h d ∨ h ≤ gH d c) : Met l yL_drop wsL_drop (x_rm 7 113) (YPc D [.ref x, .int (nI c), .ref ou] (cW cI cJ w h x ax ou d (S, hy, u) O) (tyA cI cJ cZ) sz) (wQ D cI cJ w h x ax ou (2, d, 0) (va_A (cW cI cJ w h x ax ou d (S, hy, u) O) sz)) 1 6 (va_A (cW cI cJ w h x ax ou d (S, hy, u) O) sz) := by
  refine mh_head (Qc := fun A => wQ D cI cJ w h x ax ou (2, d, 0) A) (cc := cL_drop) (maxL := 4) (ret := (some .int)) (by decide) rfl (Nat.le_of_ble_eq_true rfl) ?_
  intro p e s m below meth cd ls A hx hb hr hlocks hts hown hml hA hP hK hD hN hS hT hZ hc0 htab hl
  have hl : lv_has ls 4 [(0, .ref x), (1, .int (nI c)), (2, .ref ou)] := hl
  have hht := gH_le GG
  have hn := (g_emp GG).1
  have hov := ov_class hd GG C.1
  have hov2 : ovB w h S d.length = true ∨ h ≤ gH d c := ho.imp (fun z => by rw [hov, decide_eq_true z]) id
  refine lv_aload_n hx hb dL_drop_0 rfl (lv_at hl 2 rfl) ?_
  refine lv_iconst (v := nI 0) hx hb dL_drop_1 (by decide) ?_
  refine lv_aload_n hx hb dL_drop_2 rfl (lv_at hl 0 rfl) ?_
  refine lv_iload_n hx hb dL_drop_3 rfl (lv_at hl 1 rfl) ?_
  refine xw_call (vx_runV (As := [.int (nI c)]) (rest := [.int (nI 0), .ref ou]) ⟨hx, hb, hml, hown, hts⟩ (x_drop_no l hlt D cI cJ cZ w h x (ax 1) (ax 2) (ax 3) (ax 4) (ax 5) (ax 6) (ax 7) (ax 8) S (gH d) hy d.length c hd hht hn hc hic hov2) (cwV 1 hts gL_drop_X4_drop rfl rfl rfl (by decide +kernel) ⟨Nat.le_of_ble_eq_true rfl, Nat.le_of_ble_eq_true rfl⟩) ⟨XPc.blind, va_recv hK hP (ci := 4) (q0 := 1) rfl rfl, XPc.at (hP.sub [1, 2, 3, 4, 5, 6, 7] rfl) hK hN hT hZ⟩ rfl rfl hl.1 rfl (lv_room (Nat.le_of_ble_eq_true rfl)) dL_drop_4 ⟨Nat.le_of_ble_eq_true rfl, Nat.le_of_ble_eq_true rfl⟩) (fun ce q9 H1 z1 z2 z3 z4 z5 => ?_)
  refine vx_catch (name := eIS) hown [⟨0, 9, 12, 13⟩] ⟨0, 9, 15, 15⟩ [] htab (fun z hz => by rw [List.mem_singleton] at hz; subst hz; exact Or.inr ⟨by decide, eIA, hts (.classLink RL 13 eIA) (by decide +kernel), hc0⟩) (by decide) (by decide) (hts (.classLink RL 15 eIS) (by decide +kernel)) (tw_cast hT (by decide +kernel)) z3 z4 z5 ?_
  show W p l e _ s m _ below meth cd _ _ _ _ _ (F0 m 15 ls [.ref q9])
  have hS : va_S A s.heap H1 [] := ⟨z1, fun q hq _ => z2 q hq, fun l h => by cases h⟩
  have hP := hP.kept (H1 := H1) (fun k q hk => z2 q.1 (vx_lt hP hk))
  refine lv_astore_n (lv' := [(3, .ref q9), (0, .ref x), (1, .int (nI c)), (2, .ref ou)]) hx hb dL_drop_15 rfl hl (by decide) rfl (fun ls hl => ?_)
  refine lv_iconst (v := nI 2) hx hb dL_drop_16 (by decide) ?_
  exact mu_iret (S := CtS × (Nat → Int64)) (wf := fun v => cW cI cJ w h x ax ou ((2, d, 0) : Oc).2.1 v.1 v.2) hx hb hr hlocks ((S, hy, u), O) ⟨rfl, C, fun z => absurd (show (2 : Nat) = 0 from z) (by decide)⟩ hP hD hS dL_drop_17

set_option maxHeartbeats 4000000 in
set_option maxRecDepth 100000 in
theorem w_back_no (l : Launch) (hlt : l.stackTraces = false) (D : va_G) (cI cJ cZ : ClassId) (w h x ou : Nat) (ax : Nat → Nat) (d : List Nat) (S : Nat → Int64) (hy : Nat → Nat) (u : Mem) (O : Nat → Int64)  (sz : Nat) (hd : Dm w h) (GG : gOK w h d) (C : CtOK w h d (S, hy, u)) (hn0 : d = []) : Met l yL_back wsL_back (x_rm 7 103) (YPc D [.ref x, .ref ou] (cW cI cJ w h x ax ou d (S, hy, u) O) (tyA cI cJ cZ) sz) (wQ D cI cJ w h x ax ou (1, d, 0) (va_A (cW cI cJ w h x ax ou d (S, hy, u) O) sz)) 1 6 (va_A (cW cI cJ w h x ax ou d (S, hy, u) O) sz) := by
  refine mh_head (Qc := fun A => wQ D cI cJ w h x ax ou (1, d, 0) A) (cc := cL_back) (maxL := 3) (ret := (some .int)) (by decide) rfl (Nat.le_of_ble_eq_true rfl) ?_
  intro p e s m below meth cd ls A hx hb hr hlocks hts hown hml hA hP hK hD hN hS hT hZ hc0 htab hl
  have hl : lv_has ls 3 [(0, .ref x), (1, .ref ou)] := hl
  have hht := gH_le GG
  have hn := (g_emp GG).1
  refine lv_aload_n hx hb dL_back_0 rfl (lv_at hl 1 rfl) ?_
  refine lv_iconst (v := nI 0) hx hb dL_back_1 (by decide) ?_
  refine lv_aload_n hx hb dL_back_2 rfl (lv_at hl 0 rfl) ?_
  refine xw_call (vx_runV (As := []) (rest := [.int (nI 0), .ref ou]) ⟨hx, hb, hml, hown, hts⟩ (x_back_no l hlt D cI cJ cZ w h x (ax 1) (ax 2) (ax 3) (ax 4) (ax 5) (ax 6) (ax 7) (ax 8) S (gH d) hy d.length hd hht hn (by rw [hn0]; rfl)) (cwV 0 hts gL_back_X4_back rfl rfl rfl (by decide +kernel) ⟨Nat.le_of_ble_eq_true rfl, Nat.le_of_ble_eq_true rfl⟩) ⟨XPc.blind, va_recv hK hP (ci := 4) (q0 := 1) rfl rfl, XPc.at (hP.sub [1, 2, 3, 4, 5, 6, 7] rfl) hK hN hT hZ⟩ rfl rfl hl.1 rfl (lv_room (Nat.le_of_ble_eq_true rfl)) dL_back_3 ⟨Nat.le_of_ble_eq_true rfl, Nat.le_of_ble_eq_true rfl⟩) (fun ce q9 H1 z1 z2 z3 z4 z5 => ?_)
  refine vx_catch (name := eIS) hown [] ⟨0, 8, 11, 15⟩ [] htab (fun z hz => by cases hz) (by decide) (by decide) (hts (.classLink RL 15 eIS) (by decide +kernel)) (tw_cast hT (by decide +kernel)) z3 z4 z5 ?_
  show W p l e _ s m _ below meth cd _ _ _ _ _ (F0 m 11 ls [.ref q9])
  have hS : va_S A s.heap H1 [] := ⟨z1, fun q hq _ => z2 q hq, fun l h => by cases h⟩
  have hP := hP.kept (H1 := H1) (fun k q hk => z2 q.1 (vx_lt hP hk))
  refine lv_astore_n (lv' := [(2, .ref q9), (0, .ref x), (1, .ref ou)]) hx hb dL_back_11 rfl hl (by decide) rfl (fun ls hl => ?_)
  refine lv_iconst (v := nI 1) hx hb dL_back_12 (by decide) ?_
  exact mu_iret (S := CtS × (Nat → Int64)) (wf := fun v => cW cI cJ w h x ax ou ((1, d, 0) : Oc).2.1 v.1 v.2) hx hb hr hlocks ((S, hy, u), O) ⟨rfl, C, fun z => absurd (show (1 : Nat) = 0 from z) (by decide)⟩ hP hD hS dL_back_13

set_option maxHeartbeats 4000000 in
set_option maxRecDepth 100000 in
theorem w_at_no (l : Launch) (hlt : l.stackTraces = false) (D : va_G) (cI cJ cZ : ClassId) (w h x ou : Nat) (ax : Nat → Nat) (d : List Nat) (S : Nat → Int64) (hy : Nat → Nat) (u : Mem) (O : Nat → Int64) (c r : Int32) (sz : Nat) (hd : Dm w h) (GG : gOK w h d) (C : CtOK w h d (S, hy, u)) (hq : isq w h c r = false) : Met l yL_at wsL_at (x_rm 7 106) (YPc D [.ref x, .int c, .int r, .ref ou] (cW cI cJ w h x ax ou d (S, hy, u) O) (tyA cI cJ cZ) sz) (wQ D cI cJ w h x ax ou (1, d, 0) (va_A (cW cI cJ w h x ax ou d (S, hy, u) O) sz)) 1 6 (va_A (cW cI cJ w h x ax ou d (S, hy, u) O) sz) := by
  refine mh_head (Qc := fun A => wQ D cI cJ w h x ax ou (1, d, 0) A) (cc := cL_at) (maxL := 5) (ret := (some .int)) (by decide) rfl (Nat.le_of_ble_eq_true rfl) ?_
  intro p e s m below meth cd ls A hx hb hr hlocks hts hown hml hA hP hK hD hN hS hT hZ hc0 htab hl
  have hl : lv_has ls 5 [(0, .ref x), (1, .int c), (2, .int r), (3, .ref ou)] := hl
  have hht := gH_le GG
  have hn := (g_emp GG).1
  refine lv_aload_n hx hb dL_at_0 rfl (lv_at hl 3 rfl) ?_
  refine lv_iconst (v := nI 0) hx hb dL_at_1 (by decide) ?_
  refine lv_aload_n hx hb dL_at_2 rfl (lv_at hl 0 rfl) ?_
  refine lv_iload_n hx hb dL_at_3 rfl (lv_at hl 1 rfl) ?_
  refine lv_iload_n hx hb dL_at_4 rfl (lv_at hl 2 rfl) ?_
  refine xw_call (vx_runV (As := [.int c, .int r]) (rest := [.int (nI 0), .ref ou]) ⟨hx, hb, hml, hown, hts⟩ (x_at_no l hlt D cI cJ cZ w h x (ax 1) (ax 2) (ax 3) (ax 4) (ax 5) (ax 6) (ax 7) (ax 8) S (gH d) hy d.length c r hd hht hn (isq_no hq)) (cwV 2 hts gL_at_X4_at rfl rfl rfl (by decide +kernel) ⟨Nat.le_of_ble_eq_true rfl, Nat.le_of_ble_eq_true rfl⟩) ⟨XPc.blind, va_recv hK hP (ci := 4) (q0 := 1) rfl rfl, XPc.at (hP.sub [1, 2, 3, 4, 5, 6, 7] rfl) hK hN hT hZ⟩ rfl rfl hl.1 rfl (lv_room (Nat.le_of_ble_eq_true rfl)) dL_at_5 ⟨Nat.le_of_ble_eq_true rfl, Nat.le_of_ble_eq_true rfl⟩) (fun ce q9 H1 z1 z2 z3 z4 z5 => ?_)
  refine vx_catch (name := eIB) hown [] ⟨0, 10, 13, 25⟩ [] htab (fun z hz => by cases hz) (by decide) (by decide) (hts (.classLink RL 25 eIB) (by decide +kernel)) (tw_cast hT (by decide +kernel)) z3 z4 z5 ?_
  show W p l e _ s m _ below meth cd _ _ _ _ _ (F0 m 13 ls [.ref q9])
  have hS : va_S A s.heap H1 [] := ⟨z1, fun q hq _ => z2 q hq, fun l h => by cases h⟩
  have hP := hP.kept (H1 := H1) (fun k q hk => z2 q.1 (vx_lt hP hk))
  refine lv_astore (lv' := [(4, .ref q9), (0, .ref x), (1, .int c), (2, .int r), (3, .ref ou)]) hx hb dL_at_13 hl (by decide) rfl (fun ls hl => ?_)
  refine lv_iconst (v := nI 1) hx hb dL_at_15 (by decide) ?_
  exact mu_iret (S := CtS × (Nat → Int64)) (wf := fun v => cW cI cJ w h x ax ou ((1, d, 0) : Oc).2.1 v.1 v.2) hx hb hr hlocks ((S, hy, u), O) ⟨rfl, C, fun z => absurd (show (1 : Nat) = 0 from z) (by decide)⟩ hP hD hS dL_at_16

set_option maxHeartbeats 4000000 in
set_option maxRecDepth 100000 in
theorem w_open_no (l : Launch) (hlt : l.stackTraces = false) (D : va_G) (cI cJ cZ : ClassId) (w h x ou : Nat) (ax : Nat → Nat) (d : List Nat) (S : Nat → Int64) (hy : Nat → Nat) (u : Mem) (O : Nat → Int64) (k : Int32) (sz : Nat) (hd : Dm w h) (GG : gOK w h d) (C : CtOK w h d (S, hy, u)) (hk : ipB k = false) : Met l yL_open wsL_open (x_rm 7 103) (YPc D [.ref x, .int k, .ref ou] (cW cI cJ w h x ax ou d (S, hy, u) O) (tyA cI cJ cZ) sz) (wQ D cI cJ w h x ax ou (1, d, 0) (va_A (cW cI cJ w h x ax ou d (S, hy, u) O) sz)) 1 6 (va_A (cW cI cJ w h x ax ou d (S, hy, u) O) sz) := by
  refine mh_head (Qc := fun A => wQ D cI cJ w h x ax ou (1, d, 0) A) (cc := cL_open) (maxL := 4) (ret := (some .int)) (by decide) rfl (Nat.le_of_ble_eq_true rfl) ?_
  intro p e s m below meth cd ls A hx hb hr hlocks hts hown hml hA hP hK hD hN hS hT hZ hc0 htab hl
  have hl : lv_has ls 4 [(0, .ref x), (1, .int k), (2, .ref ou)] := hl
  have hht := gH_le GG
  have hn := (g_emp GG).1
  refine lv_aload_n hx hb dL_open_0 rfl (lv_at hl 2 rfl) ?_
  refine lv_iconst (v := nI 0) hx hb dL_open_1 (by decide) ?_
  refine lv_aload_n hx hb dL_open_2 rfl (lv_at hl 0 rfl) ?_
  refine lv_iload_n hx hb dL_open_3 rfl (lv_at hl 1 rfl) ?_
  refine xw_call (vx_runV (As := [.int k]) (rest := [.int (nI 0), .ref ou]) ⟨hx, hb, hml, hown, hts⟩ (x_open_no l hlt D cI cJ cZ w h x (ax 1) (ax 2) (ax 3) (ax 4) (ax 5) (ax 6) (ax 7) (ax 8) S (gH d) hy d.length k hd hht hn hk) (cwV 1 hts gL_open_X4_open rfl rfl rfl (by decide +kernel) ⟨Nat.le_of_ble_eq_true rfl, Nat.le_of_ble_eq_true rfl⟩) ⟨XPc.blind, va_recv hK hP (ci := 4) (q0 := 1) rfl rfl, XPc.at (hP.sub [1, 2, 3, 4, 5, 6, 7] rfl) hK hN hT hZ⟩ rfl rfl hl.1 rfl (lv_room (Nat.le_of_ble_eq_true rfl)) dL_open_4 ⟨Nat.le_of_ble_eq_true rfl, Nat.le_of_ble_eq_true rfl⟩) (fun ce q9 H1 z1 z2 z3 z4 z5 => ?_)
  refine vx_catch (name := eIA) hown [] ⟨0, 9, 12, 13⟩ [] htab (fun z hz => by cases hz) (by decide) (by decide) (hts (.classLink RL 13 eIA) (by decide +kernel)) (tw_cast hT (by decide +kernel)) z3 z4 z5 ?_
  show W p l e _ s m _ below meth cd _ _ _ _ _ (F0 m 12 ls [.ref q9])
  have hS : va_S A s.heap H1 [] := ⟨z1, fun q hq _ => z2 q hq, fun l h => by cases h⟩
  have hP := hP.kept (H1 := H1) (fun k q hk => z2 q.1 (vx_lt hP hk))
  refine lv_astore_n (lv' := [(3, .ref q9), (0, .ref x), (1, .int k), (2, .ref ou)]) hx hb dL_open_12 rfl hl (by decide) rfl (fun ls hl => ?_)
  refine lv_iconst (v := nI 1) hx hb dL_open_13 (by decide) ?_
  exact mu_iret (S := CtS × (Nat → Int64)) (wf := fun v => cW cI cJ w h x ax ou ((1, d, 0) : Oc).2.1 v.1 v.2) hx hb hr hlocks ((S, hy, u), O) ⟨rfl, C, fun z => absurd (show (1 : Nat) = 0 from z) (by decide)⟩ hP hD hS dL_open_14

set_option maxHeartbeats 4000000 in
set_option maxRecDepth 100000 in
theorem w_threats_no (l : Launch) (hlt : l.stackTraces = false) (D : va_G) (cI cJ cZ : ClassId) (w h x ou : Nat) (ax : Nat → Nat) (d : List Nat) (S : Nat → Int64) (hy : Nat → Nat) (u : Mem) (O : Nat → Int64) (k : Int32) (sz : Nat) (hd : Dm w h) (GG : gOK w h d) (C : CtOK w h d (S, hy, u)) (hk : ipB k = false) : Met l yL_threats wsL_threats (x_rm 7 103) (YPc D [.ref x, .int k, .ref ou] (cW cI cJ w h x ax ou d (S, hy, u) O) (tyA cI cJ cZ) sz) (wQ D cI cJ w h x ax ou (1, d, 0) (va_A (cW cI cJ w h x ax ou d (S, hy, u) O) sz)) 1 6 (va_A (cW cI cJ w h x ax ou d (S, hy, u) O) sz) := by
  refine mh_head (Qc := fun A => wQ D cI cJ w h x ax ou (1, d, 0) A) (cc := cL_threats) (maxL := 4) (ret := (some .int)) (by decide) rfl (Nat.le_of_ble_eq_true rfl) ?_
  intro p e s m below meth cd ls A hx hb hr hlocks hts hown hml hA hP hK hD hN hS hT hZ hc0 htab hl
  have hl : lv_has ls 4 [(0, .ref x), (1, .int k), (2, .ref ou)] := hl
  have hht := gH_le GG
  have hn := (g_emp GG).1
  refine lv_aload_n hx hb dL_threats_0 rfl (lv_at hl 2 rfl) ?_
  refine lv_iconst (v := nI 0) hx hb dL_threats_1 (by decide) ?_
  refine lv_aload_n hx hb dL_threats_2 rfl (lv_at hl 0 rfl) ?_
  refine lv_iload_n hx hb dL_threats_3 rfl (lv_at hl 1 rfl) ?_
  refine xw_call (vx_runV (As := [.int k]) (rest := [.int (nI 0), .ref ou]) ⟨hx, hb, hml, hown, hts⟩ (x_threats_no l hlt D cI cJ cZ w h x (ax 1) (ax 2) (ax 3) (ax 4) (ax 5) (ax 6) (ax 7) (ax 8) S (gH d) hy d.length k hd hht hn hk) (cwV 1 hts gL_threats_X4_threats rfl rfl rfl (by decide +kernel) ⟨Nat.le_of_ble_eq_true rfl, Nat.le_of_ble_eq_true rfl⟩) ⟨XPc.blind, va_recv hK hP (ci := 4) (q0 := 1) rfl rfl, XPc.at (hP.sub [1, 2, 3, 4, 5, 6, 7] rfl) hK hN hT hZ⟩ rfl rfl hl.1 rfl (lv_room (Nat.le_of_ble_eq_true rfl)) dL_threats_4 ⟨Nat.le_of_ble_eq_true rfl, Nat.le_of_ble_eq_true rfl⟩) (fun ce q9 H1 z1 z2 z3 z4 z5 => ?_)
  refine vx_catch (name := eIA) hown [] ⟨0, 9, 12, 13⟩ [] htab (fun z hz => by cases hz) (by decide) (by decide) (hts (.classLink RL 13 eIA) (by decide +kernel)) (tw_cast hT (by decide +kernel)) z3 z4 z5 ?_
  show W p l e _ s m _ below meth cd _ _ _ _ _ (F0 m 12 ls [.ref q9])
  have hS : va_S A s.heap H1 [] := ⟨z1, fun q hq _ => z2 q hq, fun l h => by cases h⟩
  have hP := hP.kept (H1 := H1) (fun k q hk => z2 q.1 (vx_lt hP hk))
  refine lv_astore_n (lv' := [(3, .ref q9), (0, .ref x), (1, .int k), (2, .ref ou)]) hx hb dL_threats_12 rfl hl (by decide) rfl (fun ls hl => ?_)
  refine lv_iconst (v := nI 1) hx hb dL_threats_13 (by decide) ?_
  exact mu_iret (S := CtS × (Nat → Int64)) (wf := fun v => cW cI cJ w h x ax ou ((1, d, 0) : Oc).2.1 v.1 v.2) hx hb hr hlocks ((S, hy, u), O) ⟨rfl, C, fun z => absurd (show (1 : Nat) = 0 from z) (by decide)⟩ hP hD hS dL_threats_14

set_option maxHeartbeats 4000000 in
set_option maxRecDepth 100000 in
theorem w_value_no (l : Launch) (hlt : l.stackTraces = false) (D : va_G) (cI cJ cZ : ClassId) (w h x ou : Nat) (ax : Nat → Nat) (d : List Nat) (S : Nat → Int64) (hy : Nat → Nat) (u : Mem) (O : Nat → Int64)  (sz : Nat) (hd : Dm w h) (GG : gOK w h d) (C : CtOK w h d (S, hy, u)) (hk : cvB w h S d.length = false) : Met l yL_value wsL_value (x_rm 45 1705) (YPc D [.ref x, .ref ou] (cW cI cJ w h x ax ou d (S, hy, u) O) (tyA cI cJ cZ) sz) (wQ D cI cJ w h x ax ou (1, d, 0) (va_A (cW cI cJ w h x ax ou d (S, hy, u) O) sz)) 1 6 (va_A (cW cI cJ w h x ax ou d (S, hy, u) O) sz) := by
  refine mh_head (Qc := fun A => wQ D cI cJ w h x ax ou (1, d, 0) A) (cc := cL_value) (maxL := 3) (ret := (some .int)) (by decide) rfl (Nat.le_of_ble_eq_true rfl) ?_
  intro p e s m below meth cd ls A hx hb hr hlocks hts hown hml hA hP hK hD hN hS hT hZ hc0 htab hl
  have hl : lv_has ls 3 [(0, .ref x), (1, .ref ou)] := hl
  have hht := gH_le GG
  have hn := (g_emp GG).1
  refine lv_aload_n hx hb dL_value_0 rfl (lv_at hl 1 rfl) ?_
  refine lv_iconst (v := nI 0) hx hb dL_value_1 (by decide) ?_
  refine lv_aload_n hx hb dL_value_2 rfl (lv_at hl 0 rfl) ?_
  refine xw_call (vx_runV (As := []) (rest := [.int (nI 0), .ref ou]) ⟨hx, hb, hml, hown, hts⟩ (x_value_no l hlt D cI cJ cZ w h x (ax 1) (ax 2) (ax 3) (ax 4) (ax 5) (ax 6) (ax 7) (ax 8) S (gH d) hy d.length hd hht hn hk) (cwV 0 hts gL_value_X4_value rfl rfl rfl (by decide +kernel) ⟨Nat.le_of_ble_eq_true rfl, Nat.le_of_ble_eq_true rfl⟩) ⟨XPc.blind, va_recv hK hP (ci := 4) (q0 := 1) rfl rfl, XPc.at (hP.sub [1, 2, 3, 4, 5, 6, 7] rfl) hK hN hT hZ⟩ rfl rfl hl.1 rfl (lv_room (Nat.le_of_ble_eq_true rfl)) dL_value_3 ⟨Nat.le_of_ble_eq_true rfl, Nat.le_of_ble_eq_true rfl⟩) (fun ce q9 H1 z1 z2 z3 z4 z5 => ?_)
  refine vx_catch (name := eIS) hown [] ⟨0, 8, 11, 15⟩ [] htab (fun z hz => by cases hz) (by decide) (by decide) (hts (.classLink RL 15 eIS) (by decide +kernel)) (tw_cast hT (by decide +kernel)) z3 z4 z5 ?_
  show W p l e _ s m _ below meth cd _ _ _ _ _ (F0 m 11 ls [.ref q9])
  have hS : va_S A s.heap H1 [] := ⟨z1, fun q hq _ => z2 q hq, fun l h => by cases h⟩
  have hP := hP.kept (H1 := H1) (fun k q hk => z2 q.1 (vx_lt hP hk))
  refine lv_astore_n (lv' := [(2, .ref q9), (0, .ref x), (1, .ref ou)]) hx hb dL_value_11 rfl hl (by decide) rfl (fun ls hl => ?_)
  refine lv_iconst (v := nI 1) hx hb dL_value_12 (by decide) ?_
  exact mu_iret (S := CtS × (Nat → Int64)) (wf := fun v => cW cI cJ w h x ax ou ((1, d, 0) : Oc).2.1 v.1 v.2) hx hb hr hlocks ((S, hy, u), O) ⟨rfl, C, fun z => absurd (show (1 : Nat) = 0 from z) (by decide)⟩ hP hD hS dL_value_13

set_option maxHeartbeats 4000000 in
set_option maxRecDepth 100000 in
theorem w_best_no (l : Launch) (hlt : l.stackTraces = false) (D : va_G) (cI cJ cZ : ClassId) (w h x ou : Nat) (ax : Nat → Nat) (d : List Nat) (S : Nat → Int64) (hy : Nat → Nat) (u : Mem) (O : Nat → Int64)  (sz : Nat) (hd : Dm w h) (GG : gOK w h d) (C : CtOK w h d (S, hy, u)) (hk : cvB w h S d.length = false) : Met l yL_best wsL_best (x_rm 43 1629) (YPc D [.ref x, .ref ou] (cW cI cJ w h x ax ou d (S, hy, u) O) (tyA cI cJ cZ) sz) (wQ D cI cJ w h x ax ou (1, d, 0) (va_A (cW cI cJ w h x ax ou d (S, hy, u) O) sz)) 1 6 (va_A (cW cI cJ w h x ax ou d (S, hy, u) O) sz) := by
  refine mh_head (Qc := fun A => wQ D cI cJ w h x ax ou (1, d, 0) A) (cc := cL_best) (maxL := 3) (ret := (some .int)) (by decide) rfl (Nat.le_of_ble_eq_true rfl) ?_
  intro p e s m below meth cd ls A hx hb hr hlocks hts hown hml hA hP hK hD hN hS hT hZ hc0 htab hl
  have hl : lv_has ls 3 [(0, .ref x), (1, .ref ou)] := hl
  have hht := gH_le GG
  have hn := (g_emp GG).1
  refine lv_aload_n hx hb dL_best_0 rfl (lv_at hl 1 rfl) ?_
  refine lv_iconst (v := nI 0) hx hb dL_best_1 (by decide) ?_
  refine lv_aload_n hx hb dL_best_2 rfl (lv_at hl 0 rfl) ?_
  refine xw_call (vx_runV (As := []) (rest := [.int (nI 0), .ref ou]) ⟨hx, hb, hml, hown, hts⟩ (x_best_no l hlt D cI cJ cZ w h x (ax 1) (ax 2) (ax 3) (ax 4) (ax 5) (ax 6) (ax 7) (ax 8) S (gH d) hy d.length hd hht hn hk) (cwV 0 hts gL_best_X4_best rfl rfl rfl (by decide +kernel) ⟨Nat.le_of_ble_eq_true rfl, Nat.le_of_ble_eq_true rfl⟩) ⟨XPc.blind, va_recv hK hP (ci := 4) (q0 := 1) rfl rfl, XPc.at (hP.sub [1, 2, 3, 4, 5, 6, 7] rfl) hK hN hT hZ⟩ rfl rfl hl.1 rfl (lv_room (Nat.le_of_ble_eq_true rfl)) dL_best_3 ⟨Nat.le_of_ble_eq_true rfl, Nat.le_of_ble_eq_true rfl⟩) (fun ce q9 H1 z1 z2 z3 z4 z5 => ?_)
  refine vx_catch (name := eIS) hown [] ⟨0, 8, 11, 15⟩ [] htab (fun z hz => by cases hz) (by decide) (by decide) (hts (.classLink RL 15 eIS) (by decide +kernel)) (tw_cast hT (by decide +kernel)) z3 z4 z5 ?_
  show W p l e _ s m _ below meth cd _ _ _ _ _ (F0 m 11 ls [.ref q9])
  have hS : va_S A s.heap H1 [] := ⟨z1, fun q hq _ => z2 q hq, fun l h => by cases h⟩
  have hP := hP.kept (H1 := H1) (fun k q hk => z2 q.1 (vx_lt hP hk))
  refine lv_astore_n (lv' := [(2, .ref q9), (0, .ref x), (1, .ref ou)]) hx hb dL_best_11 rfl hl (by decide) rfl (fun ls hl => ?_)
  refine lv_iconst (v := nI 1) hx hb dL_best_12 (by decide) ?_
  exact mu_iret (S := CtS × (Nat → Int64)) (wf := fun v => cW cI cJ w h x ax ou ((1, d, 0) : Oc).2.1 v.1 v.2) hx hb hr hlocks ((S, hy, u), O) ⟨rfl, C, fun z => absurd (show (1 : Nat) = 0 from z) (by decide)⟩ hP hD hS dL_best_13

set_option maxHeartbeats 4000000 in
set_option maxRecDepth 100000 in
theorem w_valueOf_bad (l : Launch) (hlt : l.stackTraces = false) (D : va_G) (cI cJ cZ : ClassId) (w h x ou : Nat) (ax : Nat → Nat) (d : List Nat) (S : Nat → Int64) (hy : Nat → Nat) (u : Mem) (O : Nat → Int64) (k : Int32) (sz : Nat) (hd : Dm w h) (GG : gOK w h d) (C : CtOK w h d (S, hy, u)) (hk : icB w k = false) : Met l yL_valueOf wsL_valueOf (x_rm 43 1626) (YPc D [.ref x, .int k, .ref ou] (cW cI cJ w h x ax ou d (S, hy, u) O) (tyA cI cJ cZ) sz) (wQ D cI cJ w h x ax ou (1, d, 0) (va_A (cW cI cJ w h x ax ou d (S, hy, u) O) sz)) 1 6 (va_A (cW cI cJ w h x ax ou d (S, hy, u) O) sz) := by
  refine mh_head (Qc := fun A => wQ D cI cJ w h x ax ou (1, d, 0) A) (cc := cL_valueOf) (maxL := 4) (ret := (some .int)) (by decide) rfl (Nat.le_of_ble_eq_true rfl) ?_
  intro p e s m below meth cd ls A hx hb hr hlocks hts hown hml hA hP hK hD hN hS hT hZ hc0 htab hl
  have hl : lv_has ls 4 [(0, .ref x), (1, .int k), (2, .ref ou)] := hl
  have hht := gH_le GG
  have hn := (g_emp GG).1
  refine lv_aload_n hx hb dL_valueOf_0 rfl (lv_at hl 2 rfl) ?_
  refine lv_iconst (v := nI 0) hx hb dL_valueOf_1 (by decide) ?_
  refine lv_aload_n hx hb dL_valueOf_2 rfl (lv_at hl 0 rfl) ?_
  refine lv_iload_n hx hb dL_valueOf_3 rfl (lv_at hl 1 rfl) ?_
  refine xw_call (vx_runV (As := [.int k]) (rest := [.int (nI 0), .ref ou]) ⟨hx, hb, hml, hown, hts⟩ (x_valueOf_bad l hlt D cI cJ cZ w h x (ax 1) (ax 2) (ax 3) (ax 4) (ax 5) (ax 6) (ax 7) (ax 8) S (gH d) hy d.length k hd hht hn hk) (cwV 1 hts gL_valueOf_X4_valueOf rfl rfl rfl (by decide +kernel) ⟨Nat.le_of_ble_eq_true rfl, Nat.le_of_ble_eq_true rfl⟩) ⟨XPc.blind, va_recv hK hP (ci := 4) (q0 := 1) rfl rfl, XPc.at (hP.sub [1, 2, 3, 4, 5, 6, 7] rfl) hK hN hT hZ⟩ rfl rfl hl.1 rfl (lv_room (Nat.le_of_ble_eq_true rfl)) dL_valueOf_4 ⟨Nat.le_of_ble_eq_true rfl, Nat.le_of_ble_eq_true rfl⟩) (fun ce q9 H1 z1 z2 z3 z4 z5 => ?_)
  refine vx_catch (name := eIA) hown [] ⟨0, 9, 12, 13⟩ [⟨0, 9, 15, 15⟩] htab (fun z hz => by cases hz) (by decide) (by decide) (hts (.classLink RL 13 eIA) (by decide +kernel)) (tw_cast hT (by decide +kernel)) z3 z4 z5 ?_
  show W p l e _ s m _ below meth cd _ _ _ _ _ (F0 m 12 ls [.ref q9])
  have hS : va_S A s.heap H1 [] := ⟨z1, fun q hq _ => z2 q hq, fun l h => by cases h⟩
  have hP := hP.kept (H1 := H1) (fun k q hk => z2 q.1 (vx_lt hP hk))
  refine lv_astore_n (lv' := [(3, .ref q9), (0, .ref x), (1, .int k), (2, .ref ou)]) hx hb dL_valueOf_12 rfl hl (by decide) rfl (fun ls hl => ?_)
  refine lv_iconst (v := nI 1) hx hb dL_valueOf_13 (by decide) ?_
  exact mu_iret (S := CtS × (Nat → Int64)) (wf := fun v => cW cI cJ w h x ax ou ((1, d, 0) : Oc).2.1 v.1 v.2) hx hb hr hlocks ((S, hy, u), O) ⟨rfl, C, fun z => absurd (show (1 : Nat) = 0 from z) (by decide)⟩ hP hD hS dL_valueOf_14

set_option maxHeartbeats 4000000 in
set_option maxRecDepth 100000 in
theorem w_valueOf_no (l : Launch) (hlt : l.stackTraces = false) (D : va_G) (cI cJ cZ : ClassId) (w h x ou : Nat) (ax : Nat → Nat) (d : List Nat) (S : Nat → Int64) (hy : Nat → Nat) (u : Mem) (O : Nat → Int64) (c : Nat) (sz : Nat) (hd : Dm w h) (GG : gOK w h d) (C : CtOK w h d (S, hy, u)) (hc : c < w) (hic : icB w (nI c) = true) (ho : cvB w h S d.length = false ∨ h ≤ gH d c) : Met l yL_valueOf wsL_valueOf (x_rm 43 1626) (YPc D [.ref x, .int (nI c), .ref ou] (cW cI cJ w h x ax ou d (S, hy, u) O) (tyA cI cJ cZ) sz) (wQ D cI cJ w h x ax ou (2, d, 0) (va_A (cW cI cJ w h x ax ou d (S, hy, u) O) sz)) 1 6 (va_A (cW cI cJ w h x ax ou d (S, hy, u) O) sz) := by
  refine mh_head (Qc := fun A => wQ D cI cJ w h x ax ou (2, d, 0) A) (cc := cL_valueOf) (maxL := 4) (ret := (some .int)) (by decide) rfl (Nat.le_of_ble_eq_true rfl) ?_
  intro p e s m below meth cd ls A hx hb hr hlocks hts hown hml hA hP hK hD hN hS hT hZ hc0 htab hl
  have hl : lv_has ls 4 [(0, .ref x), (1, .int (nI c)), (2, .ref ou)] := hl
  have hht := gH_le GG
  have hn := (g_emp GG).1
  refine lv_aload_n hx hb dL_valueOf_0 rfl (lv_at hl 2 rfl) ?_
  refine lv_iconst (v := nI 0) hx hb dL_valueOf_1 (by decide) ?_
  refine lv_aload_n hx hb dL_valueOf_2 rfl (lv_at hl 0 rfl) ?_
  refine lv_iload_n hx hb dL_valueOf_3 rfl (lv_at hl 1 rfl) ?_
  refine xw_call (vx_runV (As := [.int (nI c)]) (rest := [.int (nI 0), .ref ou]) ⟨hx, hb, hml, hown, hts⟩ (x_valueOf_no l hlt D cI cJ cZ w h x (ax 1) (ax 2) (ax 3) (ax 4) (ax 5) (ax 6) (ax 7) (ax 8) S (gH d) hy d.length c hd hht hn hc hic ho) (cwV 1 hts gL_valueOf_X4_valueOf rfl rfl rfl (by decide +kernel) ⟨Nat.le_of_ble_eq_true rfl, Nat.le_of_ble_eq_true rfl⟩) ⟨XPc.blind, va_recv hK hP (ci := 4) (q0 := 1) rfl rfl, XPc.at (hP.sub [1, 2, 3, 4, 5, 6, 7] rfl) hK hN hT hZ⟩ rfl rfl hl.1 rfl (lv_room (Nat.le_of_ble_eq_true rfl)) dL_valueOf_4 ⟨Nat.le_of_ble_eq_true rfl, Nat.le_of_ble_eq_true rfl⟩) (fun ce q9 H1 z1 z2 z3 z4 z5 => ?_)
  refine vx_catch (name := eIS) hown [⟨0, 9, 12, 13⟩] ⟨0, 9, 15, 15⟩ [] htab (fun z hz => by rw [List.mem_singleton] at hz; subst hz; exact Or.inr ⟨by decide, eIA, hts (.classLink RL 13 eIA) (by decide +kernel), hc0⟩) (by decide) (by decide) (hts (.classLink RL 15 eIS) (by decide +kernel)) (tw_cast hT (by decide +kernel)) z3 z4 z5 ?_
  show W p l e _ s m _ below meth cd _ _ _ _ _ (F0 m 15 ls [.ref q9])
  have hS : va_S A s.heap H1 [] := ⟨z1, fun q hq _ => z2 q hq, fun l h => by cases h⟩
  have hP := hP.kept (H1 := H1) (fun k q hk => z2 q.1 (vx_lt hP hk))
  refine lv_astore_n (lv' := [(3, .ref q9), (0, .ref x), (1, .int (nI c)), (2, .ref ou)]) hx hb dL_valueOf_15 rfl hl (by decide) rfl (fun ls hl => ?_)
  refine lv_iconst (v := nI 2) hx hb dL_valueOf_16 (by decide) ?_
  exact mu_iret (S := CtS × (Nat → Int64)) (wf := fun v => cW cI cJ w h x ax ou ((2, d, 0) : Oc).2.1 v.1 v.2) hx hb hr hlocks ((S, hy, u), O) ⟨rfl, C, fun z => absurd (show (2 : Nat) = 0 from z) (by decide)⟩ hP hD hS dL_valueOf_17

set_option maxHeartbeats 4000000 in
set_option maxRecDepth 100000 in
theorem w_beats_no (l : Launch) (hlt : l.stackTraces = false) (D : va_G) (cI cJ cZ : ClassId) (w h x ou : Nat) (ax : Nat → Nat) (d : List Nat) (S : Nat → Int64) (hy : Nat → Nat) (u : Mem) (O : Nat → Int64)  (sz : Nat) (hd : Dm w h) (GG : gOK w h d) (C : CtOK w h d (S, hy, u)) (ho : ovB w h S d.length = true ∨ 30 < w * h - d.length ∨ evB h (gH d) w = false) : Met l yL_beats wsL_beats (x_rm 7 147) (YPc D [.ref x, .ref ou] (cW cI cJ w h x ax ou d (S, hy, u) O) (tyA cI cJ cZ) sz) (wQ D cI cJ w h x ax ou (1, d, 0) (va_A (cW cI cJ w h x ax ou d (S, hy, u) O) sz)) 1 6 (va_A (cW cI cJ w h x ax ou d (S, hy, u) O) sz) := by
  refine mh_head (Qc := fun A => wQ D cI cJ w h x ax ou (1, d, 0) A) (cc := cL_beats) (maxL := 3) (ret := (some .int)) (by decide) rfl (Nat.le_of_ble_eq_true rfl) ?_
  intro p e s m below meth cd ls A hx hb hr hlocks hts hown hml hA hP hK hD hN hS hT hZ hc0 htab hl
  have hl : lv_has ls 3 [(0, .ref x), (1, .ref ou)] := hl
  have hht := gH_le GG
  have hn := (g_emp GG).1
  refine lv_aload_n hx hb dL_beats_0 rfl (lv_at hl 1 rfl) ?_
  refine lv_iconst (v := nI 0) hx hb dL_beats_1 (by decide) ?_
  refine lv_aload_n hx hb dL_beats_2 rfl (lv_at hl 0 rfl) ?_
  refine xw_call (vx_runV (As := []) (rest := [.int (nI 0), .ref ou]) ⟨hx, hb, hml, hown, hts⟩ (x_beats_no l hlt D cI cJ cZ w h x (ax 1) (ax 2) (ax 3) (ax 4) (ax 5) (ax 6) (ax 7) (ax 8) S (gH d) hy d.length hd hht hn ho) (cwV 0 hts gL_beats_X4_beats rfl rfl rfl (by decide +kernel) ⟨Nat.le_of_ble_eq_true rfl, Nat.le_of_ble_eq_true rfl⟩) ⟨XPc.blind, va_recv hK hP (ci := 4) (q0 := 1) rfl rfl, XPc.at (hP.sub [1, 2, 3, 4, 5, 6, 7] rfl) hK hN hT hZ⟩ rfl rfl hl.1 rfl (lv_room (Nat.le_of_ble_eq_true rfl)) dL_beats_3 ⟨Nat.le_of_ble_eq_true rfl, Nat.le_of_ble_eq_true rfl⟩) (fun ce q9 H1 z1 z2 z3 z4 z5 => ?_)
  refine vx_catch (name := eIS) hown [] ⟨0, 15, 18, 15⟩ [] htab (fun z hz => by cases hz) (by decide) (by decide) (hts (.classLink RL 15 eIS) (by decide +kernel)) (tw_cast hT (by decide +kernel)) z3 z4 z5 ?_
  show W p l e _ s m _ below meth cd _ _ _ _ _ (F0 m 18 ls [.ref q9])
  have hS : va_S A s.heap H1 [] := ⟨z1, fun q hq _ => z2 q hq, fun l h => by cases h⟩
  have hP := hP.kept (H1 := H1) (fun k q hk => z2 q.1 (vx_lt hP hk))
  refine lv_astore_n (lv' := [(2, .ref q9), (0, .ref x), (1, .ref ou)]) hx hb dL_beats_18 rfl hl (by decide) rfl (fun ls hl => ?_)
  refine lv_iconst (v := nI 1) hx hb dL_beats_19 (by decide) ?_
  exact mu_iret (S := CtS × (Nat → Int64)) (wf := fun v => cW cI cJ w h x ax ou ((1, d, 0) : Oc).2.1 v.1 v.2) hx hb hr hlocks ((S, hy, u), O) ⟨rfl, C, fun z => absurd (show (1 : Nat) = 0 from z) (by decide)⟩ hP hD hS dL_beats_20

set_option maxHeartbeats 4000000 in
set_option maxRecDepth 100000 in
theorem w_at_ok (l : Launch) (hlt : l.stackTraces = false) (D : va_G) (cI cJ cZ : ClassId) (w h x ou : Nat) (ax : Nat → Nat) (d : List Nat) (S : Nat → Int64) (hy : Nat → Nat) (u : Mem) (O : Nat → Int64) (c r : Nat) (sz : Nat) (hd : Dm w h) (GG : gOK w h d) (C : CtOK w h d (S, hy, u)) (hc : c < w) (hr0 : r < h) (hic : icB w (nI c) = true) : Met l yL_at wsL_at (x_rm 7 106) (YPc D [.ref x, .int (nI c), .int (nI r), .ref ou] (cW cI cJ w h x ax ou d (S, hy, u) O) (tyA cI cJ cZ) sz) (wQ D cI cJ w h x ax ou (0, d, gB d (7 * c + r)) (va_A (cW cI cJ w h x ax ou d (S, hy, u) O) sz)) 1 6 (va_A (cW cI cJ w h x ax ou d (S, hy, u) O) sz) := by
  refine mh_head (Qc := fun A => wQ D cI cJ w h x ax ou (0, d, gB d (7 * c + r)) A) (cc := cL_at) (maxL := 5) (ret := (some .int)) (by decide) rfl (Nat.le_of_ble_eq_true rfl) ?_
  intro p e s m below meth cd ls A hx hb hr hlocks hts hown hml hA hP hK hD hN hS hT hZ hc0 htab hl
  have hl : lv_has ls 5 [(0, .ref x), (1, .int (nI c)), (2, .int (nI r)), (3, .ref ou)] := hl
  have hht := gH_le GG
  have hn := (g_emp GG).1
  refine lv_aload_n hx hb dL_at_0 rfl (lv_at hl 3 rfl) ?_
  refine lv_iconst (v := nI 0) hx hb dL_at_1 (by decide) ?_
  refine lv_aload_n hx hb dL_at_2 rfl (lv_at hl 0 rfl) ?_
  refine lv_iload_n hx hb dL_at_3 rfl (lv_at hl 1 rfl) ?_
  refine lv_iload_n hx hb dL_at_4 rfl (lv_at hl 2 rfl) ?_
  refine ro_call (W.runV (As := [.int (nI c), .int (nI r)]) (rest := [.int (nI 0), .ref ou]) ⟨hx, hb, hml, hown, hts⟩ (p_at l D cI cJ cZ w h x (ax 1) (ax 2) (ax 3) (ax 4) (ax 5) (ax 6) (ax 7) (ax 8) S (gH d) hy d.length c r hd hht hn hc hr0 hic) (cwV 2 hts gL_at_X4_at rfl rfl rfl (by decide +kernel) ⟨Nat.le_of_ble_eq_true rfl, Nat.le_of_ble_eq_true rfl⟩) ⟨RPc.blind, va_recv hK hP (ci := 4) (q0 := 1) rfl rfl, (RPc.at (hP.sub [1, 2, 3, 4, 5, 6, 7] rfl) hK hN)⟩ rfl rfl hl.1 rfl (lv_room (Nat.le_of_ble_eq_true rfl)) dL_at_5 ⟨Nat.zero_le _, Nat.zero_le _⟩) ?_
  refine lv_i2l hx hb dL_at_8 rfl ?_
  refine n_lastR hx hb hK hP hD hS 0 1 rfl rfl (by omega) (by omega) dL_at_9 (fun H locs hP hD hS => ?_)
  have hP : va_P D vwCl (cW cI cJ w h x ax ou d (S, hy, u) (vp_updL O 0 ((atI h S c r).toInt64))) H := hP
  have hD : va_D A (cW cI cJ w h x ax ou d (S, hy, u) (vp_updL O 0 ((atI h S c r).toInt64))) := hD
  refine lv_goto (tgt := 17) hx hb dL_at_10 (by decide) ?_
  refine lv_iconst (v := nI 0) hx hb dL_at_17 (by decide) ?_
  refine W.widen (k := 1) (n := 6) (Nat.le_of_ble_eq_true rfl) (Nat.le_of_ble_eq_true rfl) ?_
  exact mu_iret (S := CtS × (Nat → Int64)) (wf := fun v => cW cI cJ w h x ax ou ((0, d, gB d (7 * c + r)) : Oc).2.1 v.1 v.2) hx hb hr hlocks ((S, hy, u), (vp_updL O 0 ((atI h S c r).toInt64))) ⟨rfl, C, fun _ => by dsimp only; rw [pk_uLs, at_class hd GG C.1 hc hr0]⟩ hP hD hS dL_at_18

set_option maxHeartbeats 4000000 in
set_option maxRecDepth 100000 in
theorem w_open_ok (l : Launch) (hlt : l.stackTraces = false) (D : va_G) (cI cJ cZ : ClassId) (w h x ou : Nat) (ax : Nat → Nat) (d : List Nat) (S : Nat → Int64) (hy : Nat → Nat) (u : Mem) (O : Nat → Int64) (q : Nat) (sz : Nat) (hd : Dm w h) (GG : gOK w h d) (C : CtOK w h d (S, hy, u)) (hq : q ≤ 1) (hip : ipB (nI q) = true) : Met l yL_open wsL_open (x_rm 7 103) (YPc D [.ref x, .int (nI q), .ref ou] (cW cI cJ w h x ax ou d (S, hy, u) O) (tyA cI cJ cZ) sz) (wQ D cI cJ w h x ax ou (0, d, nI (opN w h (gB d) (1 - q))) (va_A (cW cI cJ w h x ax ou d (S, hy, u) O) sz)) 1 6 (va_A (cW cI cJ w h x ax ou d (S, hy, u) O) sz) := by
  refine mh_head (Qc := fun A => wQ D cI cJ w h x ax ou (0, d, nI (opN w h (gB d) (1 - q))) A) (cc := cL_open) (maxL := 4) (ret := (some .int)) (by decide) rfl (Nat.le_of_ble_eq_true rfl) ?_
  intro p e s m below meth cd ls A hx hb hr hlocks hts hown hml hA hP hK hD hN hS hT hZ hc0 htab hl
  have hl : lv_has ls 4 [(0, .ref x), (1, .int (nI q)), (2, .ref ou)] := hl
  have hht := gH_le GG
  have hn := (g_emp GG).1
  refine lv_aload_n hx hb dL_open_0 rfl (lv_at hl 2 rfl) ?_
  refine lv_iconst (v := nI 0) hx hb dL_open_1 (by decide) ?_
  refine lv_aload_n hx hb dL_open_2 rfl (lv_at hl 0 rfl) ?_
  refine lv_iload_n hx hb dL_open_3 rfl (lv_at hl 1 rfl) ?_
  refine ro_call (W.runV (As := [.int (nI q)]) (rest := [.int (nI 0), .ref ou]) ⟨hx, hb, hml, hown, hts⟩ (p_open l D cI cJ cZ w h x (ax 1) (ax 2) (ax 3) (ax 4) (ax 5) (ax 6) (ax 7) (ax 8) S (gH d) hy d.length q hd hht hn hq hip) (cwV 1 hts gL_open_X4_open rfl rfl rfl (by decide +kernel) ⟨Nat.le_of_ble_eq_true rfl, Nat.le_of_ble_eq_true rfl⟩) ⟨RPc.blind, va_recv hK hP (ci := 4) (q0 := 1) rfl rfl, (RPc.at (hP.sub [1, 2, 3, 4, 5, 6, 7] rfl) hK hN)⟩ rfl rfl hl.1 rfl (lv_room (Nat.le_of_ble_eq_true rfl)) dL_open_4 ⟨Nat.zero_le _, Nat.zero_le _⟩) ?_
  refine lv_i2l hx hb dL_open_7 rfl ?_
  refine n_lastR hx hb hK hP hD hS 0 1 rfl rfl (by omega) (by omega) dL_open_8 (fun H locs hP hD hS => ?_)
  have hP : va_P D vwCl (cW cI cJ w h x ax ou d (S, hy, u) (vp_updL O 0 ((nI (clN h (allL h w &&& (S (1 - q) ^^^ (-1))))).toInt64))) H := hP
  have hD : va_D A (cW cI cJ w h x ax ou d (S, hy, u) (vp_updL O 0 ((nI (clN h (allL h w &&& (S (1 - q) ^^^ (-1))))).toInt64))) := hD
  refine lv_goto (tgt := 15) hx hb dL_open_9 (by decide) ?_
  refine lv_iconst (v := nI 0) hx hb dL_open_15 (by decide) ?_
  refine W.widen (k := 1) (n := 6) (Nat.le_of_ble_eq_true rfl) (Nat.le_of_ble_eq_true rfl) ?_
  exact mu_iret (S := CtS × (Nat → Int64)) (wf := fun v => cW cI cJ w h x ax ou ((0, d, nI (opN w h (gB d) (1 - q))) : Oc).2.1 v.1 v.2) hx hb hr hlocks ((S, hy, u), (vp_updL O 0 ((nI (clN h (allL h w &&& (S (1 - q) ^^^ (-1))))).toInt64))) ⟨rfl, C, fun _ => by dsimp only; rw [pk_uLs, open_class hd C.1 (by omega)]⟩ hP hD hS dL_open_16

set_option maxHeartbeats 4000000 in
set_option maxRecDepth 100000 in
theorem w_threats_ok (l : Launch) (hlt : l.stackTraces = false) (D : va_G) (cI cJ cZ : ClassId) (w h x ou : Nat) (ax : Nat → Nat) (d : List Nat) (S : Nat → Int64) (hy : Nat → Nat) (u : Mem) (O : Nat → Int64) (q : Nat) (sz : Nat) (hd : Dm w h) (GG : gOK w h d) (C : CtOK w h d (S, hy, u)) (hq : q ≤ 1) (hip : ipB (nI q) = true) : Met l yL_threats wsL_threats (x_rm 7 103) (YPc D [.ref x, .int (nI q), .ref ou] (cW cI cJ w h x ax ou d (S, hy, u) O) (tyA cI cJ cZ) sz) (wQ D cI cJ w h x ax ou (0, d, nI (tsN w h (gB d) q)) (va_A (cW cI cJ w h x ax ou d (S, hy, u) O) sz)) 1 6 (va_A (cW cI cJ w h x ax ou d (S, hy, u) O) sz) := by
  refine mh_head (Qc := fun A => wQ D cI cJ w h x ax ou (0, d, nI (tsN w h (gB d) q)) A) (cc := cL_threats) (maxL := 4) (ret := (some .int)) (by decide) rfl (Nat.le_of_ble_eq_true rfl) ?_
  intro p e s m below meth cd ls A hx hb hr hlocks hts hown hml hA hP hK hD hN hS hT hZ hc0 htab hl
  have hl : lv_has ls 4 [(0, .ref x), (1, .int (nI q)), (2, .ref ou)] := hl
  have hht := gH_le GG
  have hn := (g_emp GG).1
  refine lv_aload_n hx hb dL_threats_0 rfl (lv_at hl 2 rfl) ?_
  refine lv_iconst (v := nI 0) hx hb dL_threats_1 (by decide) ?_
  refine lv_aload_n hx hb dL_threats_2 rfl (lv_at hl 0 rfl) ?_
  refine lv_iload_n hx hb dL_threats_3 rfl (lv_at hl 1 rfl) ?_
  refine ro_call (W.runV (As := [.int (nI q)]) (rest := [.int (nI 0), .ref ou]) ⟨hx, hb, hml, hown, hts⟩ (p_threats l D cI cJ cZ w h x (ax 1) (ax 2) (ax 3) (ax 4) (ax 5) (ax 6) (ax 7) (ax 8) S (gH d) hy d.length q hd hht hn hq hip) (cwV 1 hts gL_threats_X4_threats rfl rfl rfl (by decide +kernel) ⟨Nat.le_of_ble_eq_true rfl, Nat.le_of_ble_eq_true rfl⟩) ⟨RPc.blind, va_recv hK hP (ci := 4) (q0 := 1) rfl rfl, (RPc.at (hP.sub [1, 2, 3, 4, 5, 6, 7] rfl) hK hN)⟩ rfl rfl hl.1 rfl (lv_room (Nat.le_of_ble_eq_true rfl)) dL_threats_4 ⟨Nat.zero_le _, Nat.zero_le _⟩) ?_
  refine lv_i2l hx hb dL_threats_7 rfl ?_
  refine n_lastR hx hb hK hP hD hS 0 1 rfl rfl (by omega) (by omega) dL_threats_8 (fun H locs hP hD hS => ?_)
  have hP : va_P D vwCl (cW cI cJ w h x ax ou d (S, hy, u) (vp_updL O 0 ((nI (popN (thL w h (S q) (S 0 ||| S 1)) 64)).toInt64))) H := hP
  have hD : va_D A (cW cI cJ w h x ax ou d (S, hy, u) (vp_updL O 0 ((nI (popN (thL w h (S q) (S 0 ||| S 1)) 64)).toInt64))) := hD
  refine lv_goto (tgt := 15) hx hb dL_threats_9 (by decide) ?_
  refine lv_iconst (v := nI 0) hx hb dL_threats_15 (by decide) ?_
  refine W.widen (k := 1) (n := 6) (Nat.le_of_ble_eq_true rfl) (Nat.le_of_ble_eq_true rfl) ?_
  exact mu_iret (S := CtS × (Nat → Int64)) (wf := fun v => cW cI cJ w h x ax ou ((0, d, nI (tsN w h (gB d) q)) : Oc).2.1 v.1 v.2) hx hb hr hlocks ((S, hy, u), (vp_updL O 0 ((nI (popN (thL w h (S q) (S 0 ||| S 1)) 64)).toInt64))) ⟨rfl, C, fun _ => by dsimp only; rw [pk_uLs, threats_class hd GG C.1 hq]⟩ hP hD hS dL_threats_16

set_option maxHeartbeats 4000000 in
set_option maxRecDepth 100000 in
theorem w_beats_ok (l : Launch) (hlt : l.stackTraces = false) (D : va_G) (cI cJ cZ : ClassId) (w h x ou : Nat) (ax : Nat → Nat) (d : List Nat) (S : Nat → Int64) (hy : Nat → Nat) (u : Mem) (O : Nat → Int64)  (sz : Nat) (hd : Dm w h) (GG : gOK w h d) (C : CtOK w h d (S, hy, u)) (ho : ¬ 0 ≤ gWn w h d) (h30 : ¬ 30 < w * h - d.length) (hev : evB h (gH d) w = true) : Met l yL_beats wsL_beats (x_rm 7 147) (YPc D [.ref x, .ref ou] (cW cI cJ w h x ax ou d (S, hy, u) O) (tyA cI cJ cZ) sz) (wQ D cI cJ w h x ax ou (0, d, bI (btB w h (gB d) (gH d) d.length)) (va_A (cW cI cJ w h x ax ou d (S, hy, u) O) sz)) 1 6 (va_A (cW cI cJ w h x ax ou d (S, hy, u) O) sz) := by
  refine mh_head (Qc := fun A => wQ D cI cJ w h x ax ou (0, d, bI (btB w h (gB d) (gH d) d.length)) A) (cc := cL_beats) (maxL := 3) (ret := (some .int)) (by decide) rfl (Nat.le_of_ble_eq_true rfl) ?_
  intro p e s m below meth cd ls A hx hb hr hlocks hts hown hml hA hP hK hD hN hS hT hZ hc0 htab hl
  have hl : lv_has ls 3 [(0, .ref x), (1, .ref ou)] := hl
  have hht := gH_le GG
  have hn := (g_emp GG).1
  have hov := ov_class hd GG C.1
  have hov : ovB w h S d.length = false := by rw [hov, decide_eq_false ho]
  have hbt := beats_class hd GG C.1 ho hev
  refine lv_aload_n hx hb dL_beats_0 rfl (lv_at hl 1 rfl) ?_
  refine lv_iconst (v := nI 0) hx hb dL_beats_1 (by decide) ?_
  refine lv_aload_n hx hb dL_beats_2 rfl (lv_at hl 0 rfl) ?_
  refine ro_call (W.runV (As := []) (rest := [.int (nI 0), .ref ou]) ⟨hx, hb, hml, hown, hts⟩ (p_beats l D cI cJ cZ w h x (ax 1) (ax 2) (ax 3) (ax 4) (ax 5) (ax 6) (ax 7) (ax 8) S (gH d) hy d.length hd hht hn hov h30 hev) (cwV 0 hts gL_beats_X4_beats rfl rfl rfl (by decide +kernel) ⟨Nat.le_of_ble_eq_true rfl, Nat.le_of_ble_eq_true rfl⟩) ⟨RPc.blind, va_recv hK hP (ci := 4) (q0 := 1) rfl rfl, (RPc.at (hP.sub [8, 1, 2, 3, 4, 5, 6, 7] rfl) hK hN)⟩ rfl rfl hl.1 rfl (lv_room (Nat.le_of_ble_eq_true rfl)) dL_beats_3 ⟨Nat.zero_le _, Nat.zero_le _⟩) ?_
  refine b_if_eq (tgt := 13) hx hb dL_beats_6 (by decide) (fun c6_1 => ?_) (fun c6_1 => ?_)
  · skip
    refine lv_lconst (v := 0) hx hb dL_beats_13 (by decide) ?_
    refine n_lastR hx hb hK hP hD hS 0 1 rfl rfl (by omega) (by omega) dL_beats_14 (fun H locs hP hD hS => ?_)
    have hP : va_P D vwCl (cW cI cJ w h x ax ou d (S, hy, u) (vp_updL O 0 0)) H := hP
    have hD : va_D A (cW cI cJ w h x ax ou d (S, hy, u) (vp_updL O 0 0)) := hD
    refine lv_goto (tgt := 21) hx hb dL_beats_15 (by decide) ?_
    refine lv_iconst (v := nI 0) hx hb dL_beats_21 (by decide) ?_
    refine W.widen (k := 1) (n := 6) (Nat.le_of_ble_eq_true rfl) (Nat.le_of_ble_eq_true rfl) ?_
    exact mu_iret (S := CtS × (Nat → Int64)) (wf := fun v => cW cI cJ w h x ax ou ((0, d, bI (btB w h (gB d) (gH d) d.length)) : Oc).2.1 v.1 v.2) hx hb hr hlocks ((S, hy, u), (vp_updL O 0 0)) ⟨rfl, C, fun _ => by dsimp only; rw [pk_uLs, ← hbt, c6_1]; rfl⟩ hP hD hS dL_beats_22
  refine lv_lconst (v := 1) hx hb dL_beats_9 (by decide) ?_
  refine lv_goto (tgt := 14) hx hb dL_beats_10 (by decide) ?_
  refine n_lastR hx hb hK hP hD hS 0 1 rfl rfl (by omega) (by omega) dL_beats_14 (fun H locs hP hD hS => ?_)
  have hP : va_P D vwCl (cW cI cJ w h x ax ou d (S, hy, u) (vp_updL O 0 1)) H := hP
  have hD : va_D A (cW cI cJ w h x ax ou d (S, hy, u) (vp_updL O 0 1)) := hD
  refine lv_goto (tgt := 21) hx hb dL_beats_15 (by decide) ?_
  refine lv_iconst (v := nI 0) hx hb dL_beats_21 (by decide) ?_
  refine W.widen (k := 1) (n := 6) (Nat.le_of_ble_eq_true rfl) (Nat.le_of_ble_eq_true rfl) ?_
  exact mu_iret (S := CtS × (Nat → Int64)) (wf := fun v => cW cI cJ w h x ax ou ((0, d, bI (btB w h (gB d) (gH d) d.length)) : Oc).2.1 v.1 v.2) hx hb hr hlocks ((S, hy, u), (vp_updL O 0 1)) ⟨rfl, C, fun _ => by dsimp only; rw [pk_uLs, ← hbt, c6_1]; rfl⟩ hP hD hS dL_beats_22

set_option maxHeartbeats 4000000 in
set_option maxRecDepth 100000 in
theorem w_drop_ok (l : Launch) (hlt : l.stackTraces = false) (D : va_G) (cI cJ cZ : ClassId) (w h x ou : Nat) (ax : Nat → Nat) (d : List Nat) (S : Nat → Int64) (hy : Nat → Nat) (u : Mem) (O : Nat → Int64) (c : Nat) (sz : Nat) (hd : Dm w h) (GG : gOK w h d) (C : CtOK w h d (S, hy, u)) (hc : c < w) (hic : icB w (nI c) = true) (ho : ¬ 0 ≤ gWn w h d) (hlc : gH d c < h) : Met l yL_drop wsL_drop (x_rm 7 113) (YPc D [.ref x, .int (nI c), .ref ou] (cW cI cJ w h x ax ou d (S, hy, u) O) (tyA cI cJ cZ) sz) (wQ D cI cJ w h x ax ou (0, c :: d, nI (gH d c)) (va_A (cW cI cJ w h x ax ou d (S, hy, u) O) sz)) 1 6 (va_A (cW cI cJ w h x ax ou d (S, hy, u) O) sz) := by
  refine mh_head (Qc := fun A => wQ D cI cJ w h x ax ou (0, c :: d, nI (gH d c)) A) (cc := cL_drop) (maxL := 4) (ret := (some .int)) (by decide) rfl (Nat.le_of_ble_eq_true rfl) ?_
  intro p e s m below meth cd ls A hx hb hr hlocks hts hown hml hA hP hK hD hN hS hT hZ hc0 htab hl
  have hl : lv_has ls 4 [(0, .ref x), (1, .int (nI c)), (2, .ref ou)] := hl
  have hht := gH_le GG
  have hn := (g_emp GG).1
  have hov := ov_class hd GG C.1
  have hov : ovB w h S d.length = false := by rw [hov, decide_eq_false ho]
  have G2 := GG.cons hc hlc ho
  have hnf : d.length < w * h := by have := (gWn_not ho).2.2; omega
  refine lv_aload_n hx hb dL_drop_0 rfl (lv_at hl 2 rfl) ?_
  refine lv_iconst (v := nI 0) hx hb dL_drop_1 (by decide) ?_
  refine lv_aload_n hx hb dL_drop_2 rfl (lv_at hl 0 rfl) ?_
  refine lv_iload_n hx hb dL_drop_3 rfl (lv_at hl 1 rfl) ?_
  refine mu_calli (wr := [(ou, .inl (cJ, 1, .inr (.inl O))), (ax 7, .inr (0, [.ref (ax 4)])), (ax 8, .inr (3, [.ref (ax 4), .ref (ax 10), .ref (ax 9)])), (ax 9, .inl (cJ, w, .inr (.inl (fun j => colL h (mid w j))))), (ax 10, .inr (2, [.ref (ax 11), .ref (ax 12), .ref (ax 13)])), (ax 11, .inl (cJ, 1024, .inr (.inl u.1))), (ax 12, .inl (cI, 1024, .inl u.2.1)), (ax 13, .inl (cI, 1024, .inl u.2.2))]) (va_runV (As := [.int (nI c)]) (rest := [.int (nI 0), .ref ou]) ⟨hx, hb, hml, hown, hts⟩ (p_drop l D cI cJ cZ w h x (ax 1) (ax 2) (ax 3) (ax 4) (ax 5) (ax 6) (ax 7) (ax 8) S (gH d) hy d.length c s.heap.size hd hht hn hc hic hov hlc hnf) (cwV 1 hts gL_drop_X4_drop rfl rfl rfl (by decide +kernel) ⟨Nat.le_of_ble_eq_true rfl, Nat.le_of_ble_eq_true rfl⟩) ⟨MPc.blind, va_recv hK hP (ci := 4) (q0 := 1) rfl rfl, (MPc.at (hP.sub [1, 2, 3, 4, 5, 6, 7] rfl) (hD.sub [1, 2, 3, 4, 5, 6, 7] (by decide) rfl) hK hN)⟩ rfl rfl hl.1 rfl (lv_room (Nat.le_of_ble_eq_true rfl)) dL_drop_4 ⟨Nat.zero_le _, Nat.zero_le _⟩) hP hD hS hA [1, 2, 3, 4, 5, 6, 7] [0, 8, 9, 10, 11, 12, 13, 14] rfl rfl (by decide) (by decide) (fun r9 _u H locs hw hP hD hS => ?_)
  obtain rfl := hw
  have hP : va_P D vwCl (cW cI cJ w h x ax ou (c :: d) (vp_updL S (d.length % 2) (S (d.length % 2) ||| sqL h c (gH d c)), va_up hy d.length c, u) O) H := hP.sub [0, 8, 9, 10, 11, 12, 13, 14, 1, 2, 3, 4, 5, 6, 7] rfl
  have hD : va_D A (cW cI cJ w h x ax ou (c :: d) (vp_updL S (d.length % 2) (S (d.length % 2) ||| sqL h c (gH d c)), va_up hy d.length c, u) O) := hD.sub [0, 8, 9, 10, 11, 12, 13, 14, 1, 2, 3, 4, 5, 6, 7] (by decide) rfl
  refine lv_i2l hx hb dL_drop_7 rfl ?_
  refine n_lastR hx hb hK hP hD hS 0 1 rfl rfl (by omega) (by omega) dL_drop_8 (fun H locs hP hD hS => ?_)
  have hP : va_P D vwCl (cW cI cJ w h x ax ou (c :: d) (vp_updL S (d.length % 2) (S (d.length % 2) ||| sqL h c (gH d c)), va_up hy d.length c, u) (vp_updL O 0 ((nI (gH d c)).toInt64))) H := hP
  have hD : va_D A (cW cI cJ w h x ax ou (c :: d) (vp_updL S (d.length % 2) (S (d.length % 2) ||| sqL h c (gH d c)), va_up hy d.length c, u) (vp_updL O 0 ((nI (gH d c)).toInt64))) := hD
  refine lv_goto (tgt := 18) hx hb dL_drop_9 (by decide) ?_
  refine lv_iconst (v := nI 0) hx hb dL_drop_18 (by decide) ?_
  refine W.widen (k := 1) (n := 6) (Nat.le_of_ble_eq_true rfl) (Nat.le_of_ble_eq_true rfl) ?_
  exact mu_iret (S := CtS × (Nat → Int64)) (wf := fun v => cW cI cJ w h x ax ou ((0, c :: d, nI (gH d c)) : Oc).2.1 v.1 v.2) hx hb hr hlocks ((vp_updL S (d.length % 2) (S (d.length % 2) ||| sqL h c (gH d c)), va_up hy d.length c, u), (vp_updL O 0 ((nI (gH d c)).toInt64))) ⟨rfl, ⟨C.1.drop hd G2, C.2.1.drop, C.2.2⟩, fun _ => by dsimp only; rw [pk_uLs]⟩ hP hD hS dL_drop_19

set_option maxHeartbeats 4000000 in
set_option maxRecDepth 100000 in
theorem w_back_ok (l : Launch) (hlt : l.stackTraces = false) (D : va_G) (cI cJ cZ : ClassId) (w h x ou : Nat) (ax : Nat → Nat) (d : List Nat) (S : Nat → Int64) (hy : Nat → Nat) (u : Mem) (O : Nat → Int64) (c : Nat) (sz : Nat) (hd : Dm w h) (GG : gOK w h (c :: d)) (C : CtOK w h (c :: d) (S, hy, u))  : Met l yL_back wsL_back (x_rm 7 103) (YPc D [.ref x, .ref ou] (cW cI cJ w h x ax ou (c :: d) (S, hy, u) O) (tyA cI cJ cZ) sz) (wQ D cI cJ w h x ax ou (0, d, nI c) (va_A (cW cI cJ w h x ax ou (c :: d) (S, hy, u) O) sz)) 1 6 (va_A (cW cI cJ w h x ax ou (c :: d) (S, hy, u) O) sz) := by
  refine mh_head (Qc := fun A => wQ D cI cJ w h x ax ou (0, d, nI c) A) (cc := cL_back) (maxL := 3) (ret := (some .int)) (by decide) rfl (Nat.le_of_ble_eq_true rfl) ?_
  intro p e s m below meth cd ls A hx hb hr hlocks hts hown hml hA hP hK hD hN hS hT hZ hc0 htab hl
  have hl : lv_has ls 3 [(0, .ref x), (1, .ref ou)] := hl
  have hht := gH_le GG
  have hn := (g_emp GG).1
  have e2 := (gB_back hd GG).2
  have e3 : gH (c :: d) c = gH d c + 1 := by rw [gH_cons, if_pos rfl]
  refine lv_aload_n hx hb dL_back_0 rfl (lv_at hl 1 rfl) ?_
  refine lv_iconst (v := nI 0) hx hb dL_back_1 (by decide) ?_
  refine lv_aload_n hx hb dL_back_2 rfl (lv_at hl 0 rfl) ?_
  refine mu_calli (wr := [(ou, .inl (cJ, 1, .inr (.inl O))), (ax 7, .inr (0, [.ref (ax 4)])), (ax 8, .inr (3, [.ref (ax 4), .ref (ax 10), .ref (ax 9)])), (ax 9, .inl (cJ, w, .inr (.inl (fun j => colL h (mid w j))))), (ax 10, .inr (2, [.ref (ax 11), .ref (ax 12), .ref (ax 13)])), (ax 11, .inl (cJ, 1024, .inr (.inl u.1))), (ax 12, .inl (cI, 1024, .inl u.2.1)), (ax 13, .inl (cI, 1024, .inl u.2.2))]) (va_runV (As := []) (rest := [.int (nI 0), .ref ou]) ⟨hx, hb, hml, hown, hts⟩ (p_back l D cI cJ cZ w h x (ax 1) (ax 2) (ax 3) (ax 4) (ax 5) (ax 6) (ax 7) (ax 8) S (gH (c :: d)) hy (c :: d).length c s.heap.size hd hht hn (by simp) C.2.1.1 GG.1 (by omega)) (cwV 0 hts gL_back_X4_back rfl rfl rfl (by decide +kernel) ⟨Nat.le_of_ble_eq_true rfl, Nat.le_of_ble_eq_true rfl⟩) ⟨MPc.blind, va_recv hK hP (ci := 4) (q0 := 1) rfl rfl, (MPc.at (hP.sub [1, 2, 3, 4, 5, 6, 7] rfl) (hD.sub [1, 2, 3, 4, 5, 6, 7] (by decide) rfl) hK hN)⟩ rfl rfl hl.1 rfl (lv_room (Nat.le_of_ble_eq_true rfl)) dL_back_3 ⟨Nat.zero_le _, Nat.zero_le _⟩) hP hD hS hA [1, 2, 3, 4, 5, 6, 7] [0, 8, 9, 10, 11, 12, 13, 14] rfl rfl (by decide) (by decide) (fun r9 _u H locs hw hP hD hS => ?_)
  obtain rfl := hw
  rw [e2] at hP hD
  have hP : va_P D vwCl (cW cI cJ w h x ax ou d (vp_updL S (((c :: d).length - 1) % 2) (S (((c :: d).length - 1) % 2) &&& (sqL h c (gH (c :: d) c - 1) ^^^ (-1))), hy, u) O) H := hP.sub [0, 8, 9, 10, 11, 12, 13, 14, 1, 2, 3, 4, 5, 6, 7] rfl
  have hD : va_D A (cW cI cJ w h x ax ou d (vp_updL S (((c :: d).length - 1) % 2) (S (((c :: d).length - 1) % 2) &&& (sqL h c (gH (c :: d) c - 1) ^^^ (-1))), hy, u) O) := hD.sub [0, 8, 9, 10, 11, 12, 13, 14, 1, 2, 3, 4, 5, 6, 7] (by decide) rfl
  refine lv_i2l hx hb dL_back_6 rfl ?_
  refine n_lastR hx hb hK hP hD hS 0 1 rfl rfl (by omega) (by omega) dL_back_7 (fun H locs hP hD hS => ?_)
  have hP : va_P D vwCl (cW cI cJ w h x ax ou d (vp_updL S (((c :: d).length - 1) % 2) (S (((c :: d).length - 1) % 2) &&& (sqL h c (gH (c :: d) c - 1) ^^^ (-1))), hy, u) (vp_updL O 0 ((nI c).toInt64))) H := hP
  have hD : va_D A (cW cI cJ w h x ax ou d (vp_updL S (((c :: d).length - 1) % 2) (S (((c :: d).length - 1) % 2) &&& (sqL h c (gH (c :: d) c - 1) ^^^ (-1))), hy, u) (vp_updL O 0 ((nI c).toInt64))) := hD
  refine lv_goto (tgt := 14) hx hb dL_back_8 (by decide) ?_
  refine lv_iconst (v := nI 0) hx hb dL_back_14 (by decide) ?_
  refine W.widen (k := 1) (n := 6) (Nat.le_of_ble_eq_true rfl) (Nat.le_of_ble_eq_true rfl) ?_
  exact mu_iret (S := CtS × (Nat → Int64)) (wf := fun v => cW cI cJ w h x ax ou ((0, d, nI c) : Oc).2.1 v.1 v.2) hx hb hr hlocks ((vp_updL S (((c :: d).length - 1) % 2) (S (((c :: d).length - 1) % 2) &&& (sqL h c (gH (c :: d) c - 1) ^^^ (-1))), hy, u), (vp_updL O 0 ((nI c).toInt64))) ⟨rfl, ⟨by have := C.1.back hd GG; rw [show gH d c = gH (c :: d) c - 1 from by omega] at this; exact this, C.2.1.2, C.2.2⟩, fun _ => by dsimp only; rw [pk_uLs]⟩ hP hD hS dL_back_15

set_option maxHeartbeats 4000000 in
set_option maxRecDepth 100000 in
theorem w_value_ok (l : Launch) (hlt : l.stackTraces = false) (D : va_G) (cI cJ cZ : ClassId) (w h x ou : Nat) (ax : Nat → Nat) (d : List Nat) (S : Nat → Int64) (hy : Nat → Nat) (u : Mem) (O : Nat → Int64)  (sz : Nat) (hd : Dm w h) (GG : gOK w h d) (C : CtOK w h d (S, hy, u)) (hcv : cvB w h S d.length = true)  : Met l yL_value wsL_value (x_rm 45 1705) (YPc D [.ref x, .ref ou] (cW cI cJ w h x ax ou d (S, hy, u) O) (tyA cI cJ cZ) sz) (wQ D cI cJ w h x ax ou (0, d, zI (evV w h (gB d) (gH d) d.length (w * h - d.length) 0 0)) (va_A (cW cI cJ w h x ax ou d (S, hy, u) O) sz)) 1 6 (va_A (cW cI cJ w h x ax ou d (S, hy, u) O) sz) := by
  refine mh_head (Qc := fun A => wQ D cI cJ w h x ax ou (0, d, zI (evV w h (gB d) (gH d) d.length (w * h - d.length) 0 0)) A) (cc := cL_value) (maxL := 3) (ret := (some .int)) (by decide) rfl (Nat.le_of_ble_eq_true rfl) ?_
  intro p e s m below meth cd ls A hx hb hr hlocks hts hown hml hA hP hK hD hN hS hT hZ hc0 htab hl
  have hl : lv_has ls 3 [(0, .ref x), (1, .ref ou)] := hl
  have hht := gH_le GG
  have hn := (g_emp GG).1
  have hcv0 := cv_class hd GG C.1 C.2.1
  have hif : ifB w h (gB d) (gH d) hy d.length = false := by rw [hcv] at hcv0; rw [← Bool.not_eq_true]; intro z; rw [z] at hcv0; cases hcv0
  obtain ⟨R0, hE1⟩ := g_root hd GG C.2.1 hif
  obtain ⟨k, hEk⟩ : ∃ k, w * h - d.length = k + 1 := ⟨w * h - d.length - 1, by omega⟩
  have hk12 : k + 1 ≤ 12 := by rw [← hEk]; exact R0.2.2.2.2
  have hpos := C.1.pos (k := k + 1) (by rw [← hEk]; exact R0.2.2.2.1)
  refine lv_aload_n hx hb dL_value_0 rfl (lv_at hl 1 rfl) ?_
  refine lv_iconst (v := nI 0) hx hb dL_value_1 (by decide) ?_
  refine lv_aload_n hx hb dL_value_2 rfl (lv_at hl 0 rfl) ?_
  refine mu_calli (wr := [(ou, .inl (cJ, 1, .inr (.inl O))), (ax 7, .inr (0, [.ref (ax 4)]))]) (va_runV (As := []) (rest := [.int (nI 0), .ref ou]) ⟨hx, hb, hml, hown, hts⟩ (p_value l D cI cJ cZ w h x (ax 1) (ax 2) (ax 3) (ax 4) (ax 5) (ax 6) (ax 7) (ax 8) (ax 9) (ax 10) (ax 11) (ax 12) (ax 13) S (gH d) hy d.length u s.heap.size hd hht hn k hEk (by omega) (gO w h d (d.length % 2)) (gO w h d (1 - d.length % 2)) hpos C.2.2 hcv) (cwV 0 hts gL_value_X4_value rfl rfl rfl (by decide +kernel) ⟨Nat.le_of_ble_eq_true rfl, Nat.le_of_ble_eq_true rfl⟩) ⟨MPc.blind, va_recv hK hP (ci := 4) (q0 := 1) rfl rfl, (MPc.at (hP.sub [1, 2, 3, 4, 9, 10, 5, 6, 7, 11, 12, 13, 14] rfl) (hD.sub [1, 2, 3, 4, 9, 10, 5, 6, 7, 11, 12, 13, 14] (by decide) rfl) hK hN)⟩ rfl rfl hl.1 rfl (lv_room (Nat.le_of_ble_eq_true rfl)) dL_value_3 ⟨Nat.zero_le _, Nat.zero_le _⟩) hP hD hS hA [1, 2, 3, 4, 9, 10, 5, 6, 7, 11, 12, 13, 14] [0, 8] rfl rfl (by decide) (by decide) (fun r9 v1 H locs hw hP hD hS => ?_)
  obtain ⟨hm1, rfl⟩ := hw
  have hP : va_P D vwCl (cW cI cJ w h x ax ou d (S, hy, v1) O) H := hP.sub [0, 2, 3, 4, 5, 8, 9, 10, 1, 6, 7, 11, 12, 13, 14] rfl
  have hD : va_D A (cW cI cJ w h x ax ou d (S, hy, v1) O) := hD.sub [0, 2, 3, 4, 5, 8, 9, 10, 1, 6, 7, 11, 12, 13, 14] (by decide) rfl
  refine lv_i2l hx hb dL_value_6 rfl ?_
  refine n_lastR hx hb hK hP hD hS 0 1 rfl rfl (by omega) (by omega) dL_value_7 (fun H locs hP hD hS => ?_)
  have hP : va_P D vwCl (cW cI cJ w h x ax ou d (S, hy, v1) (vp_updL O 0 ((idI (w * h - d.length) (zI (Sc w h (k + 1) (gH d) (gO w h d (d.length % 2)) (gO w h d (1 - d.length % 2))))).toInt64))) H := hP
  have hD : va_D A (cW cI cJ w h x ax ou d (S, hy, v1) (vp_updL O 0 ((idI (w * h - d.length) (zI (Sc w h (k + 1) (gH d) (gO w h d (d.length % 2)) (gO w h d (1 - d.length % 2))))).toInt64))) := hD
  refine lv_goto (tgt := 14) hx hb dL_value_8 (by decide) ?_
  refine lv_iconst (v := nI 0) hx hb dL_value_14 (by decide) ?_
  refine W.widen (k := 1) (n := 6) (Nat.le_of_ble_eq_true rfl) (Nat.le_of_ble_eq_true rfl) ?_
  exact mu_iret (S := CtS × (Nat → Int64)) (wf := fun v => cW cI cJ w h x ax ou ((0, d, zI (evV w h (gB d) (gH d) d.length (w * h - d.length) 0 0)) : Oc).2.1 v.1 v.2) hx hb hr hlocks ((S, hy, v1), (vp_updL O 0 ((idI (w * h - d.length) (zI (Sc w h (k + 1) (gH d) (gO w h d (d.length % 2)) (gO w h d (1 - d.length % 2))))).toInt64))) ⟨rfl, ⟨C.1, C.2.1, hm1⟩, fun _ => by dsimp only; rw [pk_uLs]; rw [hEk, value_class hd hk12]⟩ hP hD hS dL_value_15

set_option maxHeartbeats 4000000 in
set_option maxRecDepth 100000 in
theorem w_valueOf_ok (l : Launch) (hlt : l.stackTraces = false) (D : va_G) (cI cJ cZ : ClassId) (w h x ou : Nat) (ax : Nat → Nat) (d : List Nat) (S : Nat → Int64) (hy : Nat → Nat) (u : Mem) (O : Nat → Int64) (c : Nat) (sz : Nat) (hd : Dm w h) (GG : gOK w h d) (C : CtOK w h d (S, hy, u)) (hcv : cvB w h S d.length = true) (hc : c < w) (hic : icB w (nI c) = true) (hlc : gH d c < h) : Met l yL_valueOf wsL_valueOf (x_rm 43 1626) (YPc D [.ref x, .int (nI c), .ref ou] (cW cI cJ w h x ax ou d (S, hy, u) O) (tyA cI cJ cZ) sz) (wQ D cI cJ w h x ax ou (0, d, zI (s2v (w * h - d.length) (evM w h (gB d) (gH d) d.length (w * h - d.length) 0 0 c))) (va_A (cW cI cJ w h x ax ou d (S, hy, u) O) sz)) 1 6 (va_A (cW cI cJ w h x ax ou d (S, hy, u) O) sz) := by
  refine mh_head (Qc := fun A => wQ D cI cJ w h x ax ou (0, d, zI (s2v (w * h - d.length) (evM w h (gB d) (gH d) d.length (w * h - d.length) 0 0 c))) A) (cc := cL_valueOf) (maxL := 4) (ret := (some .int)) (by decide) rfl (Nat.le_of_ble_eq_true rfl) ?_
  intro p e s m below meth cd ls A hx hb hr hlocks hts hown hml hA hP hK hD hN hS hT hZ hc0 htab hl
  have hl : lv_has ls 4 [(0, .ref x), (1, .int (nI c)), (2, .ref ou)] := hl
  have hht := gH_le GG
  have hn := (g_emp GG).1
  have hcv0 := cv_class hd GG C.1 C.2.1
  have hif : ifB w h (gB d) (gH d) hy d.length = false := by rw [hcv] at hcv0; rw [← Bool.not_eq_true]; intro z; rw [z] at hcv0; cases hcv0
  obtain ⟨R0, hE1⟩ := g_root hd GG C.2.1 hif
  obtain ⟨k, hEk⟩ : ∃ k, w * h - d.length = k + 1 := ⟨w * h - d.length - 1, by omega⟩
  have hk12 : k + 1 ≤ 12 := by rw [← hEk]; exact R0.2.2.2.2
  have hpos := C.1.pos (k := k + 1) (by rw [← hEk]; exact R0.2.2.2.1)
  refine lv_aload_n hx hb dL_valueOf_0 rfl (lv_at hl 2 rfl) ?_
  refine lv_iconst (v := nI 0) hx hb dL_valueOf_1 (by decide) ?_
  refine lv_aload_n hx hb dL_valueOf_2 rfl (lv_at hl 0 rfl) ?_
  refine lv_iload_n hx hb dL_valueOf_3 rfl (lv_at hl 1 rfl) ?_
  refine mu_calli (wr := [(ou, .inl (cJ, 1, .inr (.inl O))), (ax 7, .inr (0, [.ref (ax 4)]))]) (va_runV (As := [.int (nI c)]) (rest := [.int (nI 0), .ref ou]) ⟨hx, hb, hml, hown, hts⟩ (p_valueOf l D cI cJ cZ w h x (ax 1) (ax 2) (ax 3) (ax 4) (ax 5) (ax 6) (ax 7) (ax 8) (ax 9) (ax 10) (ax 11) (ax 12) (ax 13) S (gH d) hy d.length u c s.heap.size hd hht hn k hEk (by omega) (gO w h d (d.length % 2)) (gO w h d (1 - d.length % 2)) hpos C.2.2 hcv hc hic hlc) (cwV 1 hts gL_valueOf_X4_valueOf rfl rfl rfl (by decide +kernel) ⟨Nat.le_of_ble_eq_true rfl, Nat.le_of_ble_eq_true rfl⟩) ⟨MPc.blind, va_recv hK hP (ci := 4) (q0 := 1) rfl rfl, (MPc.at (hP.sub [1, 2, 3, 4, 9, 10, 5, 6, 7, 11, 12, 13, 14] rfl) (hD.sub [1, 2, 3, 4, 9, 10, 5, 6, 7, 11, 12, 13, 14] (by decide) rfl) hK hN)⟩ rfl rfl hl.1 rfl (lv_room (Nat.le_of_ble_eq_true rfl)) dL_valueOf_4 ⟨Nat.zero_le _, Nat.zero_le _⟩) hP hD hS hA [1, 2, 3, 4, 9, 10, 5, 6, 7, 11, 12, 13, 14] [0, 8] rfl rfl (by decide) (by decide) (fun r9 v1 H locs hw hP hD hS => ?_)
  obtain ⟨hm1, rfl⟩ := hw
  have hP : va_P D vwCl (cW cI cJ w h x ax ou d (S, hy, v1) O) H := hP.sub [0, 2, 3, 4, 5, 8, 9, 10, 1, 6, 7, 11, 12, 13, 14] rfl
  have hD : va_D A (cW cI cJ w h x ax ou d (S, hy, v1) O) := hD.sub [0, 2, 3, 4, 5, 8, 9, 10, 1, 6, 7, 11, 12, 13, 14] (by decide) rfl
  refine lv_i2l hx hb dL_valueOf_7 rfl ?_
  refine n_lastR hx hb hK hP hD hS 0 1 rfl rfl (by omega) (by omega) dL_valueOf_8 (fun H locs hP hD hS => ?_)
  have hP : va_P D vwCl (cW cI cJ w h x ax ou d (S, hy, v1) (vp_updL O 0 ((idI (w * h - d.length) (zI (Mv w h k (gH d) (gO w h d (d.length % 2)) (gO w h d (1 - d.length % 2)) c))).toInt64))) H := hP
  have hD : va_D A (cW cI cJ w h x ax ou d (S, hy, v1) (vp_updL O 0 ((idI (w * h - d.length) (zI (Mv w h k (gH d) (gO w h d (d.length % 2)) (gO w h d (1 - d.length % 2)) c))).toInt64))) := hD
  refine lv_goto (tgt := 18) hx hb dL_valueOf_9 (by decide) ?_
  refine lv_iconst (v := nI 0) hx hb dL_valueOf_18 (by decide) ?_
  refine W.widen (k := 1) (n := 6) (Nat.le_of_ble_eq_true rfl) (Nat.le_of_ble_eq_true rfl) ?_
  exact mu_iret (S := CtS × (Nat → Int64)) (wf := fun v => cW cI cJ w h x ax ou ((0, d, zI (s2v (w * h - d.length) (evM w h (gB d) (gH d) d.length (w * h - d.length) 0 0 c))) : Oc).2.1 v.1 v.2) hx hb hr hlocks ((S, hy, v1), (vp_updL O 0 ((idI (w * h - d.length) (zI (Mv w h k (gH d) (gO w h d (d.length % 2)) (gO w h d (1 - d.length % 2)) c))).toInt64))) ⟨rfl, ⟨C.1, C.2.1, hm1⟩, fun _ => by dsimp only; rw [pk_uLs]; rw [hEk, valueOf_class hd hk12]⟩ hP hD hS dL_valueOf_19

set_option maxHeartbeats 4000000 in
set_option maxRecDepth 100000 in
theorem w_best_ok (l : Launch) (hlt : l.stackTraces = false) (D : va_G) (cI cJ cZ : ClassId) (w h x ou : Nat) (ax : Nat → Nat) (d : List Nat) (S : Nat → Int64) (hy : Nat → Nat) (u : Mem) (O : Nat → Int64)  (sz : Nat) (hd : Dm w h) (GG : gOK w h d) (C : CtOK w h d (S, hy, u)) (hcv : cvB w h S d.length = true)  : Met l yL_best wsL_best (x_rm 43 1629) (YPc D [.ref x, .ref ou] (cW cI cJ w h x ax ou d (S, hy, u) O) (tyA cI cJ cZ) sz) (wQ D cI cJ w h x ax ou (0, d, zI (bfZ (evW w h (gB d) (gH d) d.length (w * h - d.length) 0 0) w)) (va_A (cW cI cJ w h x ax ou d (S, hy, u) O) sz)) 1 6 (va_A (cW cI cJ w h x ax ou d (S, hy, u) O) sz) := by
  refine mh_head (Qc := fun A => wQ D cI cJ w h x ax ou (0, d, zI (bfZ (evW w h (gB d) (gH d) d.length (w * h - d.length) 0 0) w)) A) (cc := cL_best) (maxL := 3) (ret := (some .int)) (by decide) rfl (Nat.le_of_ble_eq_true rfl) ?_
  intro p e s m below meth cd ls A hx hb hr hlocks hts hown hml hA hP hK hD hN hS hT hZ hc0 htab hl
  have hl : lv_has ls 3 [(0, .ref x), (1, .ref ou)] := hl
  have hht := gH_le GG
  have hn := (g_emp GG).1
  have hcv0 := cv_class hd GG C.1 C.2.1
  have hif : ifB w h (gB d) (gH d) hy d.length = false := by rw [hcv] at hcv0; rw [← Bool.not_eq_true]; intro z; rw [z] at hcv0; cases hcv0
  obtain ⟨R0, hE1⟩ := g_root hd GG C.2.1 hif
  obtain ⟨k, hEk⟩ : ∃ k, w * h - d.length = k + 1 := ⟨w * h - d.length - 1, by omega⟩
  have hk12 : k + 1 ≤ 12 := by rw [← hEk]; exact R0.2.2.2.2
  have hpos := C.1.pos (k := k + 1) (by rw [← hEk]; exact R0.2.2.2.1)
  refine lv_aload_n hx hb dL_best_0 rfl (lv_at hl 1 rfl) ?_
  refine lv_iconst (v := nI 0) hx hb dL_best_1 (by decide) ?_
  refine lv_aload_n hx hb dL_best_2 rfl (lv_at hl 0 rfl) ?_
  refine mu_calli (wr := [(ou, .inl (cJ, 1, .inr (.inl O))), (ax 7, .inr (0, [.ref (ax 4)]))]) (va_runV (As := []) (rest := [.int (nI 0), .ref ou]) ⟨hx, hb, hml, hown, hts⟩ (p_best l D cI cJ cZ w h x (ax 1) (ax 2) (ax 3) (ax 4) (ax 5) (ax 6) (ax 7) (ax 8) (ax 9) (ax 10) (ax 11) (ax 12) (ax 13) S (gH d) hy d.length u s.heap.size hd hht hn k hEk (by omega) (gO w h d (d.length % 2)) (gO w h d (1 - d.length % 2)) hpos C.2.2 hcv) (cwV 0 hts gL_best_X4_best rfl rfl rfl (by decide +kernel) ⟨Nat.le_of_ble_eq_true rfl, Nat.le_of_ble_eq_true rfl⟩) ⟨MPc.blind, va_recv hK hP (ci := 4) (q0 := 1) rfl rfl, (MPc.at (hP.sub [1, 2, 3, 4, 9, 10, 5, 6, 7, 11, 12, 13, 14] rfl) (hD.sub [1, 2, 3, 4, 9, 10, 5, 6, 7, 11, 12, 13, 14] (by decide) rfl) hK hN)⟩ rfl rfl hl.1 rfl (lv_room (Nat.le_of_ble_eq_true rfl)) dL_best_3 ⟨Nat.zero_le _, Nat.zero_le _⟩) hP hD hS hA [1, 2, 3, 4, 9, 10, 5, 6, 7, 11, 12, 13, 14] [0, 8] rfl rfl (by decide) (by decide) (fun r9 v1 H locs hw hP hD hS => ?_)
  obtain ⟨hm1, fz, fs, rfl, hbs⟩ := hw
  have hP : va_P D vwCl (cW cI cJ w h x ax ou d (S, hy, v1) O) H := hP.sub [0, 2, 3, 4, 5, 8, 9, 10, 1, 6, 7, 11, 12, 13, 14] rfl
  have hD : va_D A (cW cI cJ w h x ax ou d (S, hy, v1) O) := hD.sub [0, 2, 3, 4, 5, 8, 9, 10, 1, 6, 7, 11, 12, 13, 14] (by decide) rfl
  refine lv_i2l hx hb dL_best_6 rfl ?_
  refine n_lastR hx hb hK hP hD hS 0 1 rfl rfl (by omega) (by omega) dL_best_7 (fun H locs hP hD hS => ?_)
  have hP : va_P D vwCl (cW cI cJ w h x ax ou d (S, hy, v1) (vp_updL O 0 ((zI fz).toInt64))) H := hP
  have hD : va_D A (cW cI cJ w h x ax ou d (S, hy, v1) (vp_updL O 0 ((zI fz).toInt64))) := hD
  refine lv_goto (tgt := 14) hx hb dL_best_8 (by decide) ?_
  refine lv_iconst (v := nI 0) hx hb dL_best_14 (by decide) ?_
  refine W.widen (k := 1) (n := 6) (Nat.le_of_ble_eq_true rfl) (Nat.le_of_ble_eq_true rfl) ?_
  exact mu_iret (S := CtS × (Nat → Int64)) (wf := fun v => cW cI cJ w h x ax ou ((0, d, zI (bfZ (evW w h (gB d) (gH d) d.length (w * h - d.length) 0 0) w)) : Oc).2.1 v.1 v.2) hx hb hr hlocks ((S, hy, v1), (vp_updL O 0 ((zI fz).toInt64))) ⟨rfl, ⟨C.1, C.2.1, hm1⟩, fun _ => by dsimp only; rw [pk_uLs]; rw [hEk, best_class hd hEk.symm (by rw [← hEk]; exact R0) hbs]⟩ hP hD hS dL_best_15
