set_option maxHeartbeats 4000000 in
set_option maxRecDepth 100000 in
theorem k_drop {p : Program} {e : Env} {s : State} {m : MethodId} {below : List Frame} {meth : Method} {cd : Code} {Q : State → Prop} (l : Launch) (hlt : l.stackTraces = false) {b L : Nat} {xs : Nat → Int32} {D : va_G} {cI cJ cZ : ClassId} {w h x ou : Nat} {ax ad : Nat → Nat} (E0 : LwC p s m meth cd b L xs D cI cJ cZ w h) {d : List Nat} {cs : CtS} {rs : RfS} {O : Nat → Int64} {i : Nat} {H : Heap} {locs : List Loc} {ls : Array Slot} {cells slots : Nat} (I0 : LwI s D cI cJ cZ w h x ou ax ad d cs rs O H locs) (hi : i + 2 < L) (hcl : cells + 1 ≤ 601024) (hsl : slots + 6 ≤ 7293000) (hl : lv_has ls 7 [(0, .ref b), (1, .ref x), (2, .ref (ad 0)), (3, .ref ou), (4, .int (nI i))]) (kk : ∀ (d : List Nat) (cs : CtS) (rs : RfS) (O : Nat → Int64) (H : Heap) (locs : List Loc) (ls : Array Slot), LwI s D cI cJ cZ w h x ou ax ad d cs rs O H locs → lv_has ls 7 [(0, .ref b), (1, .ref x), (2, .ref (ad 0)), (3, .ref ou), (4, .int (nI i))] → W p l e room_1 s m #[Value.ref b] below meth cd H locs (cells + 1) (slots + 6) Q (F0 m 634 ls [])) : W p l e room_1 s m #[Value.ref b] below meth cd H locs cells slots Q (F0 m 120 ls []) := by
  obtain ⟨hx, hb, hr, hml, hown, hts, hX, hbl, hlocks, hK, hN, hT, hZ, hc0, hd, hL⟩ := E0
  obtain ⟨GG, C, K, hP, hD, hS⟩ := I0
  have hA : ∀ q : Nat, s.heap.size ≤ q → (fun q : Nat => s.heap.size ≤ q) q := fun _ h => h
  have hbA : ¬ (fun q : Nat => s.heap.size ≤ q) b := Nat.not_le.mpr hbl
  have hht := gH_le GG
  have hn := (g_emp GG).1
  refine lv_aload_n hx hb dL_law_120 rfl (lv_at hl 1 rfl) ?_
  refine lv_aload_n hx hb dL_law_121 rfl (lv_at hl 0 rfl) ?_
  refine lv_iload hx hb dL_law_122 (lv_at hl 4 rfl) ?_
  refine lv_iconst (v := nI 1) hx hb dL_law_124 (by decide) ?_
  refine n_iadd hx hb dL_law_125 ?_
  refine va_sld hx hb hX hbl hbA hS (vp_in_nI (n := i + 1) (N := L) (by omega) (by omega)) dL_law_126 ?_
  refine rt_i (v := xs (i + 1)) (by rw [nI_clamp (by omega)]) ?_
  refine lv_aload_n hx hb dL_law_127 rfl (lv_at hl 3 rfl) ?_
  refine mu_calli (wr := rW cI cZ ad w h d rs) (vx_runSW (As := [.ref x, .int (xs (i + 1)), .ref ou]) (rest := []) ⟨hx, hb, hml, hown, hts⟩ (w_drop l hlt D cI cJ cZ w h x ou ax d cs O (xs (i + 1)) H.size hd GG C) (vx_cwSW 3 hts gL_law_L_drop rfl rfl rfl (by decide +kernel) ⟨Nat.le_of_ble_eq_true rfl, Nat.le_of_ble_eq_true rfl⟩) ⟨YPc.blind, YPc.at (hP.sub [0, 1, 2, 3, 4, 5, 6, 7, 8, 9, 10, 11, 12, 13, 14] rfl) (hD.sub [0, 1, 2, 3, 4, 5, 6, 7, 8, 9, 10, 11, 12, 13, 14] (by decide) rfl) hK hN hT (TwZ.later hZ hS) hc0⟩ rfl rfl hl.1 rfl (lv_room (Nat.le_of_ble_eq_true rfl)) dL_law_128 ⟨hcl, hsl⟩) hP hD hS hA [0, 1, 2, 3, 4, 5, 6, 7, 8, 9, 10, 11, 12, 13, 14] [15, 16, 17, 18, 19, 20, 21, 22, 23, 24, 25, 26, 27, 28] rfl rfl (by decide) (by decide) (fun r1 u1 H locs hw hP hD hS => ?_)
  obtain ⟨rfl, C1, ho⟩ := hw
  have hP : va_P D vwCl (cW cI cJ w h x ax ou ((oDrop w h d (xs (i + 1))).2.1) u1.1 u1.2 ++ rW cI cZ ad w h d rs) H := hP.sub [14, 15, 16, 17, 18, 19, 20, 21, 22, 23, 24, 25, 26, 27, 28, 0, 1, 2, 3, 4, 5, 6, 7, 8, 9, 10, 11, 12, 13] rfl
  have hD : va_D (fun q : Nat => s.heap.size ≤ q) (cW cI cJ w h x ax ou ((oDrop w h d (xs (i + 1))).2.1) u1.1 u1.2 ++ rW cI cZ ad w h d rs) := hD.sub [14, 15, 16, 17, 18, 19, 20, 21, 22, 23, 24, 25, 26, 27, 28, 0, 1, 2, 3, 4, 5, 6, 7, 8, 9, 10, 11, 12, 13] (by decide) rfl
  refine lv_istore (lv' := [(5, .int (nI ((oDrop w h d (xs (i + 1))).1))), (0, .ref b), (1, .ref x), (2, .ref (ad 0)), (3, .ref ou), (4, .int (nI i))]) hx hb dL_law_131 hl (by decide) rfl (fun ls hl => ?_)
  refine lv_aload_n hx hb dL_law_133 rfl (lv_at hl 3 rfl) ?_
  refine lv_aload_n hx hb dL_law_134 rfl (lv_at hl 1 rfl) ?_
  refine lv_iload hx hb dL_law_135 (lv_at hl 5 rfl) ?_
  refine lv_iconst (v := nI 1) hx hb dL_law_137 (by decide) ?_
  refine n_iadd hx hb dL_law_138 ?_
  refine va_sld hx hb hX hbl hbA hS (vp_in_nI (n := i + 1) (N := L) (by omega) (by omega)) dL_law_139 ?_
  refine rt_i (v := xs (i + 1)) (by rw [nI_clamp (by omega)]) ?_
  refine mu_calli (wr := cW cI cJ w h x ax ou ((oDrop w h d (xs (i + 1))).2.1) u1.1 u1.2) (va_runV (As := [.int (xs (i + 1))]) (rest := []) ⟨hx, hb, hml, hown, hts⟩ (r_drop l D cI cJ cZ ad w h d rs (xs (i + 1)) H.size hd GG K) (cwV 1 hts gL_law_X5_drop rfl rfl rfl (by decide +kernel) ⟨Nat.le_of_ble_eq_true rfl, Nat.le_of_ble_eq_true rfl⟩) ⟨MPc.blind, va_recv hK hP (ci := 5) (q0 := 15) rfl rfl, MPc.at (hP.sub [15, 16, 17, 18, 19, 20, 21, 22, 23, 24, 25, 26, 27, 28] rfl) (hD.sub [15, 16, 17, 18, 19, 20, 21, 22, 23, 24, 25, 26, 27, 28] (by decide) rfl) hK hN⟩ rfl rfl hl.1 rfl (lv_room (Nat.le_of_ble_eq_true rfl)) dL_law_140 ⟨by show _ ≤ 601024; omega, by show _ ≤ 7293000; omega⟩) hP hD hS hA [15, 16, 17, 18, 19, 20, 21, 22, 23, 24, 25, 26, 27, 28] [0, 1, 2, 3, 4, 5, 6, 7, 8, 9, 10, 11, 12, 13, 14] rfl rfl (by decide) (by decide) (fun r2 u2 H locs hw hP hD hS => ?_)
  obtain ⟨hv, ht, K2⟩ := hw
  have hP : va_P D vwCl (cW cI cJ w h x ax ou ((oDrop w h d (xs (i + 1))).2.1) u1.1 u1.2 ++ rW cI cZ ad w h ((oDrop w h d (xs (i + 1))).2.1) u2) H := hP
  have hD : va_D (fun q : Nat => s.heap.size ≤ q) (cW cI cJ w h x ax ou ((oDrop w h d (xs (i + 1))).2.1) u1.1 u1.2 ++ rW cI cZ ad w h ((oDrop w h d (xs (i + 1))).2.1) u2) := hD
  refine lv_istore (lv' := [(6, .int r2), (5, .int (nI ((oDrop w h d (xs (i + 1))).1))), (0, .ref b), (1, .ref x), (2, .ref (ad 0)), (3, .ref ou), (4, .int (nI i))]) hx hb dL_law_143 hl (by decide) rfl (fun ls hl => ?_)
  refine lv_aload_n hx hb dL_law_145 rfl (lv_at hl 4 rfl) ?_
  refine mu_calli (wr := cW cI cJ w h x ax ou ((oDrop w h d (xs (i + 1))).2.1) u1.1 u1.2) (va_runV (As := []) (rest := []) ⟨hx, hb, hml, hown, hts⟩ (r_thrown l D cI cJ cZ ad w h (oDrop w h d (xs (i + 1))).2.1 u2 H.size) (cwV 0 hts gL_law_X5_thrown rfl rfl rfl (by decide +kernel) ⟨Nat.le_of_ble_eq_true rfl, Nat.le_of_ble_eq_true rfl⟩) ⟨MPc.blind, va_recv hK hP (ci := 5) (q0 := 15) rfl rfl, MPc.at (hP.sub [15, 16, 17, 18, 19, 20, 21, 22, 23, 24, 25, 26, 27, 28] rfl) (hD.sub [15, 16, 17, 18, 19, 20, 21, 22, 23, 24, 25, 26, 27, 28] (by decide) rfl) hK hN⟩ rfl rfl hl.1 rfl (lv_room (Nat.le_of_ble_eq_true rfl)) dL_law_146 ⟨by show _ ≤ 601024; omega, by show _ ≤ 7293000; omega⟩) hP hD hS hA [15, 16, 17, 18, 19, 20, 21, 22, 23, 24, 25, 26, 27, 28] [0, 1, 2, 3, 4, 5, 6, 7, 8, 9, 10, 11, 12, 13, 14] rfl rfl (by decide) (by decide) (fun r3 u3 H locs hw hP hD hS => ?_)
  obtain ⟨hu, rfl⟩ := hw
  rw [hu] at hP hD
  have hP : va_P D vwCl (cW cI cJ w h x ax ou ((oDrop w h d (xs (i + 1))).2.1) u1.1 u1.2 ++ rW cI cZ ad w h ((oDrop w h d (xs (i + 1))).2.1) u2) H := hP
  have hD : va_D (fun q : Nat => s.heap.size ≤ q) (cW cI cJ w h x ax ou ((oDrop w h d (xs (i + 1))).2.1) u1.1 u1.2 ++ rW cI cZ ad w h ((oDrop w h d (xs (i + 1))).2.1) u2) := hD
  refine rt_i (v := nI ((oDrop w h d (xs (i + 1))).1)) (by rw [ht]) ?_
  refine lv_iload hx hb dL_law_149 (lv_at hl 1 rfl) ?_
  refine lv_icmp_eq (tgt := 156) hx hb dL_law_151 (by decide) (fun _ => ?_) (fun z => absurd rfl z)
  refine lv_iload hx hb dL_law_156 (lv_at hl 1 rfl) ?_
  refine lv_if_ne (tgt := 173) hx hb dL_law_158 (by decide) (fun z => ?_) (fun z => ?_)
  · skip
    refine lv_goto (tgt := 634) hx hb dL_law_173 (by decide) ?_
    exact kk ((oDrop w h d (xs (i + 1))).2.1) u1.1 u2 u1.2 H locs ls ⟨(oDrop_ok GG _ hd.2.1), C1, K2, hP, hD, hS⟩ (lv_sub hl [2, 3, 4, 5, 6] rfl)
  have hz : (oDrop w h d (xs (i + 1))).1 = 0 := by rw [← nI_0, nI_eq (Nat.lt_of_le_of_lt (oDrop_le w h d _) (by decide)) (by decide)] at z; exact z
  refine lv_aload_n hx hb dL_law_161 rfl (lv_at hl 5 rfl) ?_
  refine lv_iconst (v := nI 0) hx hb dL_law_162 (by decide) ?_
  refine n_lald hx hb hK hP 0 1 rfl rfl (by omega) (by omega) dL_law_163 ?_
  refine lv_iload hx hb dL_law_164 (lv_at hl 0 rfl) ?_
  refine lv_i2l hx hb dL_law_166 rfl ?_
  refine W.lcmp hx hb dL_law_167 ?_
  refine l_if_eq (tgt := 173) hx hb dL_law_168 (by decide) (fun _ => ?_) (fun z => absurd (by rw [ho hz, hv hz]) z)
  refine lv_goto (tgt := 634) hx hb dL_law_173 (by decide) ?_
  exact kk ((oDrop w h d (xs (i + 1))).2.1) u1.1 u2 u1.2 H locs ls ⟨(oDrop_ok GG _ hd.2.1), C1, K2, hP, hD, hS⟩ (lv_sub hl [2, 3, 4, 5, 6] rfl)

set_option maxHeartbeats 4000000 in
set_option maxRecDepth 100000 in
theorem k_back {p : Program} {e : Env} {s : State} {m : MethodId} {below : List Frame} {meth : Method} {cd : Code} {Q : State → Prop} (l : Launch) (hlt : l.stackTraces = false) {b L : Nat} {xs : Nat → Int32} {D : va_G} {cI cJ cZ : ClassId} {w h x ou : Nat} {ax ad : Nat → Nat} (E0 : LwC p s m meth cd b L xs D cI cJ cZ w h) {d : List Nat} {cs : CtS} {rs : RfS} {O : Nat → Int64} {i : Nat} {H : Heap} {locs : List Loc} {ls : Array Slot} {cells slots : Nat} (I0 : LwI s D cI cJ cZ w h x ou ax ad d cs rs O H locs) (hi : i + 2 < L) (hcl : cells + 1 ≤ 601024) (hsl : slots + 6 ≤ 7293000) (hl : lv_has ls 7 [(0, .ref b), (1, .ref x), (2, .ref (ad 0)), (3, .ref ou), (4, .int (nI i))]) (kk : ∀ (d : List Nat) (cs : CtS) (rs : RfS) (O : Nat → Int64) (H : Heap) (locs : List Loc) (ls : Array Slot), LwI s D cI cJ cZ w h x ou ax ad d cs rs O H locs → lv_has ls 7 [(0, .ref b), (1, .ref x), (2, .ref (ad 0)), (3, .ref ou), (4, .int (nI i))] → W p l e room_1 s m #[Value.ref b] below meth cd H locs (cells + 1) (slots + 6) Q (F0 m 634 ls [])) : W p l e room_1 s m #[Value.ref b] below meth cd H locs cells slots Q (F0 m 176 ls []) := by
  obtain ⟨hx, hb, hr, hml, hown, hts, hX, hbl, hlocks, hK, hN, hT, hZ, hc0, hd, hL⟩ := E0
  obtain ⟨GG, C, K, hP, hD, hS⟩ := I0
  have hA : ∀ q : Nat, s.heap.size ≤ q → (fun q : Nat => s.heap.size ≤ q) q := fun _ h => h
  have hbA : ¬ (fun q : Nat => s.heap.size ≤ q) b := Nat.not_le.mpr hbl
  have hht := gH_le GG
  have hn := (g_emp GG).1
  refine lv_aload_n hx hb dL_law_176 rfl (lv_at hl 1 rfl) ?_
  refine lv_aload_n hx hb dL_law_177 rfl (lv_at hl 3 rfl) ?_
  refine mu_calli (wr := rW cI cZ ad w h d rs) (vx_runSW (As := [.ref x, .ref ou]) (rest := []) ⟨hx, hb, hml, hown, hts⟩ (w_back l hlt D cI cJ cZ w h x ou ax d cs O  H.size hd GG C) (vx_cwSW 2 hts gL_law_L_back rfl rfl rfl (by decide +kernel) ⟨Nat.le_of_ble_eq_true rfl, Nat.le_of_ble_eq_true rfl⟩) ⟨YPc.blind, YPc.at (hP.sub [0, 1, 2, 3, 4, 5, 6, 7, 8, 9, 10, 11, 12, 13, 14] rfl) (hD.sub [0, 1, 2, 3, 4, 5, 6, 7, 8, 9, 10, 11, 12, 13, 14] (by decide) rfl) hK hN hT (TwZ.later hZ hS) hc0⟩ rfl rfl hl.1 rfl (lv_room (Nat.le_of_ble_eq_true rfl)) dL_law_178 ⟨hcl, hsl⟩) hP hD hS hA [0, 1, 2, 3, 4, 5, 6, 7, 8, 9, 10, 11, 12, 13, 14] [15, 16, 17, 18, 19, 20, 21, 22, 23, 24, 25, 26, 27, 28] rfl rfl (by decide) (by decide) (fun r1 u1 H locs hw hP hD hS => ?_)
  obtain ⟨rfl, C1, ho⟩ := hw
  have hP : va_P D vwCl (cW cI cJ w h x ax ou ((oBack d).2.1) u1.1 u1.2 ++ rW cI cZ ad w h d rs) H := hP.sub [14, 15, 16, 17, 18, 19, 20, 21, 22, 23, 24, 25, 26, 27, 28, 0, 1, 2, 3, 4, 5, 6, 7, 8, 9, 10, 11, 12, 13] rfl
  have hD : va_D (fun q : Nat => s.heap.size ≤ q) (cW cI cJ w h x ax ou ((oBack d).2.1) u1.1 u1.2 ++ rW cI cZ ad w h d rs) := hD.sub [14, 15, 16, 17, 18, 19, 20, 21, 22, 23, 24, 25, 26, 27, 28, 0, 1, 2, 3, 4, 5, 6, 7, 8, 9, 10, 11, 12, 13] (by decide) rfl
  refine lv_istore (lv' := [(5, .int (nI ((oBack d).1))), (0, .ref b), (1, .ref x), (2, .ref (ad 0)), (3, .ref ou), (4, .int (nI i))]) hx hb dL_law_181 hl (by decide) rfl (fun ls hl => ?_)
  refine lv_aload_n hx hb dL_law_183 rfl (lv_at hl 3 rfl) ?_
  refine mu_calli (wr := cW cI cJ w h x ax ou ((oBack d).2.1) u1.1 u1.2) (va_runV (As := []) (rest := []) ⟨hx, hb, hml, hown, hts⟩ (r_back l D cI cJ cZ ad w h d rs  H.size hd GG K) (cwV 0 hts gL_law_X5_back rfl rfl rfl (by decide +kernel) ⟨Nat.le_of_ble_eq_true rfl, Nat.le_of_ble_eq_true rfl⟩) ⟨MPc.blind, va_recv hK hP (ci := 5) (q0 := 15) rfl rfl, MPc.at (hP.sub [15, 16, 17, 18, 19, 20, 21, 22, 23, 24, 25, 26, 27, 28] rfl) (hD.sub [15, 16, 17, 18, 19, 20, 21, 22, 23, 24, 25, 26, 27, 28] (by decide) rfl) hK hN⟩ rfl rfl hl.1 rfl (lv_room (Nat.le_of_ble_eq_true rfl)) dL_law_184 ⟨by show _ ≤ 601024; omega, by show _ ≤ 7293000; omega⟩) hP hD hS hA [15, 16, 17, 18, 19, 20, 21, 22, 23, 24, 25, 26, 27, 28] [0, 1, 2, 3, 4, 5, 6, 7, 8, 9, 10, 11, 12, 13, 14] rfl rfl (by decide) (by decide) (fun r2 u2 H locs hw hP hD hS => ?_)
  obtain ⟨hv, ht, K2⟩ := hw
  have hP : va_P D vwCl (cW cI cJ w h x ax ou ((oBack d).2.1) u1.1 u1.2 ++ rW cI cZ ad w h ((oBack d).2.1) u2) H := hP
  have hD : va_D (fun q : Nat => s.heap.size ≤ q) (cW cI cJ w h x ax ou ((oBack d).2.1) u1.1 u1.2 ++ rW cI cZ ad w h ((oBack d).2.1) u2) := hD
  refine lv_istore (lv' := [(6, .int r2), (5, .int (nI ((oBack d).1))), (0, .ref b), (1, .ref x), (2, .ref (ad 0)), (3, .ref ou), (4, .int (nI i))]) hx hb dL_law_187 hl (by decide) rfl (fun ls hl => ?_)
  refine lv_aload_n hx hb dL_law_189 rfl (lv_at hl 4 rfl) ?_
  refine mu_calli (wr := cW cI cJ w h x ax ou ((oBack d).2.1) u1.1 u1.2) (va_runV (As := []) (rest := []) ⟨hx, hb, hml, hown, hts⟩ (r_thrown l D cI cJ cZ ad w h (oBack d).2.1 u2 H.size) (cwV 0 hts gL_law_X5_thrown rfl rfl rfl (by decide +kernel) ⟨Nat.le_of_ble_eq_true rfl, Nat.le_of_ble_eq_true rfl⟩) ⟨MPc.blind, va_recv hK hP (ci := 5) (q0 := 15) rfl rfl, MPc.at (hP.sub [15, 16, 17, 18, 19, 20, 21, 22, 23, 24, 25, 26, 27, 28] rfl) (hD.sub [15, 16, 17, 18, 19, 20, 21, 22, 23, 24, 25, 26, 27, 28] (by decide) rfl) hK hN⟩ rfl rfl hl.1 rfl (lv_room (Nat.le_of_ble_eq_true rfl)) dL_law_190 ⟨by show _ ≤ 601024; omega, by show _ ≤ 7293000; omega⟩) hP hD hS hA [15, 16, 17, 18, 19, 20, 21, 22, 23, 24, 25, 26, 27, 28] [0, 1, 2, 3, 4, 5, 6, 7, 8, 9, 10, 11, 12, 13, 14] rfl rfl (by decide) (by decide) (fun r3 u3 H locs hw hP hD hS => ?_)
  obtain ⟨hu, rfl⟩ := hw
  rw [hu] at hP hD
  have hP : va_P D vwCl (cW cI cJ w h x ax ou ((oBack d).2.1) u1.1 u1.2 ++ rW cI cZ ad w h ((oBack d).2.1) u2) H := hP
  have hD : va_D (fun q : Nat => s.heap.size ≤ q) (cW cI cJ w h x ax ou ((oBack d).2.1) u1.1 u1.2 ++ rW cI cZ ad w h ((oBack d).2.1) u2) := hD
  refine rt_i (v := nI ((oBack d).1)) (by rw [ht]) ?_
  refine lv_iload hx hb dL_law_193 (lv_at hl 1 rfl) ?_
  refine lv_icmp_eq (tgt := 200) hx hb dL_law_195 (by decide) (fun _ => ?_) (fun z => absurd rfl z)
  refine lv_iload hx hb dL_law_200 (lv_at hl 1 rfl) ?_
  refine lv_if_ne (tgt := 217) hx hb dL_law_202 (by decide) (fun z => ?_) (fun z => ?_)
  · skip
    refine lv_goto (tgt := 634) hx hb dL_law_217 (by decide) ?_
    exact kk ((oBack d).2.1) u1.1 u2 u1.2 H locs ls ⟨(oBack_ok GG), C1, K2, hP, hD, hS⟩ (lv_sub hl [2, 3, 4, 5, 6] rfl)
  have hz : (oBack d).1 = 0 := by rw [← nI_0, nI_eq (Nat.lt_of_le_of_lt (oBack_le d) (by decide)) (by decide)] at z; exact z
  refine lv_aload_n hx hb dL_law_205 rfl (lv_at hl 5 rfl) ?_
  refine lv_iconst (v := nI 0) hx hb dL_law_206 (by decide) ?_
  refine n_lald hx hb hK hP 0 1 rfl rfl (by omega) (by omega) dL_law_207 ?_
  refine lv_iload hx hb dL_law_208 (lv_at hl 0 rfl) ?_
  refine lv_i2l hx hb dL_law_210 rfl ?_
  refine W.lcmp hx hb dL_law_211 ?_
  refine l_if_eq (tgt := 217) hx hb dL_law_212 (by decide) (fun _ => ?_) (fun z => absurd (by rw [ho hz, hv hz]) z)
  refine lv_goto (tgt := 634) hx hb dL_law_217 (by decide) ?_
  exact kk ((oBack d).2.1) u1.1 u2 u1.2 H locs ls ⟨(oBack_ok GG), C1, K2, hP, hD, hS⟩ (lv_sub hl [2, 3, 4, 5, 6] rfl)

set_option maxHeartbeats 4000000 in
set_option maxRecDepth 100000 in
theorem k_at {p : Program} {e : Env} {s : State} {m : MethodId} {below : List Frame} {meth : Method} {cd : Code} {Q : State → Prop} (l : Launch) (hlt : l.stackTraces = false) {b L : Nat} {xs : Nat → Int32} {D : va_G} {cI cJ cZ : ClassId} {w h x ou : Nat} {ax ad : Nat → Nat} (E0 : LwC p s m meth cd b L xs D cI cJ cZ w h) {d : List Nat} {cs : CtS} {rs : RfS} {O : Nat → Int64} {i : Nat} {H : Heap} {locs : List Loc} {ls : Array Slot} {cells slots : Nat} (I0 : LwI s D cI cJ cZ w h x ou ax ad d cs rs O H locs) (hi : i + 2 < L) (hcl : cells + 1 ≤ 601024) (hsl : slots + 6 ≤ 7293000) (hl : lv_has ls 7 [(0, .ref b), (1, .ref x), (2, .ref (ad 0)), (3, .ref ou), (4, .int (nI i))]) (kk : ∀ (d : List Nat) (cs : CtS) (rs : RfS) (O : Nat → Int64) (H : Heap) (locs : List Loc) (ls : Array Slot), LwI s D cI cJ cZ w h x ou ax ad d cs rs O H locs → lv_has ls 7 [(0, .ref b), (1, .ref x), (2, .ref (ad 0)), (3, .ref ou), (4, .int (nI i))] → W p l e room_1 s m #[Value.ref b] below meth cd H locs (cells + 1) (slots + 6) Q (F0 m 634 ls [])) : W p l e room_1 s m #[Value.ref b] below meth cd H locs cells slots Q (F0 m 246 ls []) := by
  obtain ⟨hx, hb, hr, hml, hown, hts, hX, hbl, hlocks, hK, hN, hT, hZ, hc0, hd, hL⟩ := E0
  obtain ⟨GG, C, K, hP, hD, hS⟩ := I0
  have hA : ∀ q : Nat, s.heap.size ≤ q → (fun q : Nat => s.heap.size ≤ q) q := fun _ h => h
  have hbA : ¬ (fun q : Nat => s.heap.size ≤ q) b := Nat.not_le.mpr hbl
  have hht := gH_le GG
  have hn := (g_emp GG).1
  refine lv_aload_n hx hb dL_law_246 rfl (lv_at hl 1 rfl) ?_
  refine lv_aload_n hx hb dL_law_247 rfl (lv_at hl 0 rfl) ?_
  refine lv_iload hx hb dL_law_248 (lv_at hl 4 rfl) ?_
  refine lv_iconst (v := nI 1) hx hb dL_law_250 (by decide) ?_
  refine n_iadd hx hb dL_law_251 ?_
  refine va_sld hx hb hX hbl hbA hS (vp_in_nI (n := i + 1) (N := L) (by omega) (by omega)) dL_law_252 ?_
  refine rt_i (v := xs (i + 1)) (by rw [nI_clamp (by omega)]) ?_
  refine lv_aload_n hx hb dL_law_253 rfl (lv_at hl 0 rfl) ?_
  refine lv_iload hx hb dL_law_254 (lv_at hl 4 rfl) ?_
  refine lv_iconst (v := nI 2) hx hb dL_law_256 (by decide) ?_
  refine n_iadd hx hb dL_law_257 ?_
  refine va_sld hx hb hX hbl hbA hS (vp_in_nI (n := i + 2) (N := L) (by omega) (by omega)) dL_law_258 ?_
  refine rt_i (v := xs (i + 2)) (by rw [nI_clamp (by omega)]) ?_
  refine lv_aload_n hx hb dL_law_259 rfl (lv_at hl 3 rfl) ?_
  refine mu_calli (wr := rW cI cZ ad w h d rs) (vx_runSW (As := [.ref x, .int (xs (i + 1)), .int (xs (i + 2)), .ref ou]) (rest := []) ⟨hx, hb, hml, hown, hts⟩ (w_at l hlt D cI cJ cZ w h x ou ax d cs O (xs (i + 1)) (xs (i + 2)) H.size hd GG C) (vx_cwSW 4 hts gL_law_L_at rfl rfl rfl (by decide +kernel) ⟨Nat.le_of_ble_eq_true rfl, Nat.le_of_ble_eq_true rfl⟩) ⟨YPc.blind, YPc.at (hP.sub [0, 1, 2, 3, 4, 5, 6, 7, 8, 9, 10, 11, 12, 13, 14] rfl) (hD.sub [0, 1, 2, 3, 4, 5, 6, 7, 8, 9, 10, 11, 12, 13, 14] (by decide) rfl) hK hN hT (TwZ.later hZ hS) hc0⟩ rfl rfl hl.1 rfl (lv_room (Nat.le_of_ble_eq_true rfl)) dL_law_260 ⟨hcl, hsl⟩) hP hD hS hA [0, 1, 2, 3, 4, 5, 6, 7, 8, 9, 10, 11, 12, 13, 14] [15, 16, 17, 18, 19, 20, 21, 22, 23, 24, 25, 26, 27, 28] rfl rfl (by decide) (by decide) (fun r1 u1 H locs hw hP hD hS => ?_)
  obtain ⟨rfl, C1, ho⟩ := hw
  have hP : va_P D vwCl (cW cI cJ w h x ax ou ((oAt w h d (xs (i + 1)) (xs (i + 2))).2.1) u1.1 u1.2 ++ rW cI cZ ad w h d rs) H := hP.sub [14, 15, 16, 17, 18, 19, 20, 21, 22, 23, 24, 25, 26, 27, 28, 0, 1, 2, 3, 4, 5, 6, 7, 8, 9, 10, 11, 12, 13] rfl
  have hD : va_D (fun q : Nat => s.heap.size ≤ q) (cW cI cJ w h x ax ou ((oAt w h d (xs (i + 1)) (xs (i + 2))).2.1) u1.1 u1.2 ++ rW cI cZ ad w h d rs) := hD.sub [14, 15, 16, 17, 18, 19, 20, 21, 22, 23, 24, 25, 26, 27, 28, 0, 1, 2, 3, 4, 5, 6, 7, 8, 9, 10, 11, 12, 13] (by decide) rfl
  refine lv_istore (lv' := [(5, .int (nI ((oAt w h d (xs (i + 1)) (xs (i + 2))).1))), (0, .ref b), (1, .ref x), (2, .ref (ad 0)), (3, .ref ou), (4, .int (nI i))]) hx hb dL_law_263 hl (by decide) rfl (fun ls hl => ?_)
  refine lv_aload_n hx hb dL_law_265 rfl (lv_at hl 3 rfl) ?_
  refine lv_aload_n hx hb dL_law_266 rfl (lv_at hl 1 rfl) ?_
  refine lv_iload hx hb dL_law_267 (lv_at hl 5 rfl) ?_
  refine lv_iconst (v := nI 1) hx hb dL_law_269 (by decide) ?_
  refine n_iadd hx hb dL_law_270 ?_
  refine va_sld hx hb hX hbl hbA hS (vp_in_nI (n := i + 1) (N := L) (by omega) (by omega)) dL_law_271 ?_
  refine rt_i (v := xs (i + 1)) (by rw [nI_clamp (by omega)]) ?_
  refine lv_aload_n hx hb dL_law_272 rfl (lv_at hl 1 rfl) ?_
  refine lv_iload hx hb dL_law_273 (lv_at hl 5 rfl) ?_
  refine lv_iconst (v := nI 2) hx hb dL_law_275 (by decide) ?_
  refine n_iadd hx hb dL_law_276 ?_
  refine va_sld hx hb hX hbl hbA hS (vp_in_nI (n := i + 2) (N := L) (by omega) (by omega)) dL_law_277 ?_
  refine rt_i (v := xs (i + 2)) (by rw [nI_clamp (by omega)]) ?_
  refine mu_calli (wr := cW cI cJ w h x ax ou ((oAt w h d (xs (i + 1)) (xs (i + 2))).2.1) u1.1 u1.2) (va_runV (As := [.int (xs (i + 1)), .int (xs (i + 2))]) (rest := []) ⟨hx, hb, hml, hown, hts⟩ (r_at l D cI cJ cZ ad w h d rs (xs (i + 1)) (xs (i + 2)) H.size hd GG K) (cwV 2 hts gL_law_X5_at rfl rfl rfl (by decide +kernel) ⟨Nat.le_of_ble_eq_true rfl, Nat.le_of_ble_eq_true rfl⟩) ⟨MPc.blind, va_recv hK hP (ci := 5) (q0 := 15) rfl rfl, MPc.at (hP.sub [15, 16, 17, 18, 19, 20, 21, 22, 23, 24, 25, 26, 27, 28] rfl) (hD.sub [15, 16, 17, 18, 19, 20, 21, 22, 23, 24, 25, 26, 27, 28] (by decide) rfl) hK hN⟩ rfl rfl hl.1 rfl (lv_room (Nat.le_of_ble_eq_true rfl)) dL_law_278 ⟨by show _ ≤ 601024; omega, by show _ ≤ 7293000; omega⟩) hP hD hS hA [15, 16, 17, 18, 19, 20, 21, 22, 23, 24, 25, 26, 27, 28] [0, 1, 2, 3, 4, 5, 6, 7, 8, 9, 10, 11, 12, 13, 14] rfl rfl (by decide) (by decide) (fun r2 u2 H locs hw hP hD hS => ?_)
  obtain ⟨hv, ht, K2⟩ := hw
  have hP : va_P D vwCl (cW cI cJ w h x ax ou ((oAt w h d (xs (i + 1)) (xs (i + 2))).2.1) u1.1 u1.2 ++ rW cI cZ ad w h ((oAt w h d (xs (i + 1)) (xs (i + 2))).2.1) u2) H := hP
  have hD : va_D (fun q : Nat => s.heap.size ≤ q) (cW cI cJ w h x ax ou ((oAt w h d (xs (i + 1)) (xs (i + 2))).2.1) u1.1 u1.2 ++ rW cI cZ ad w h ((oAt w h d (xs (i + 1)) (xs (i + 2))).2.1) u2) := hD
  refine lv_istore (lv' := [(6, .int r2), (5, .int (nI ((oAt w h d (xs (i + 1)) (xs (i + 2))).1))), (0, .ref b), (1, .ref x), (2, .ref (ad 0)), (3, .ref ou), (4, .int (nI i))]) hx hb dL_law_281 hl (by decide) rfl (fun ls hl => ?_)
  refine lv_aload_n hx hb dL_law_283 rfl (lv_at hl 4 rfl) ?_
  refine mu_calli (wr := cW cI cJ w h x ax ou ((oAt w h d (xs (i + 1)) (xs (i + 2))).2.1) u1.1 u1.2) (va_runV (As := []) (rest := []) ⟨hx, hb, hml, hown, hts⟩ (r_thrown l D cI cJ cZ ad w h (oAt w h d (xs (i + 1)) (xs (i + 2))).2.1 u2 H.size) (cwV 0 hts gL_law_X5_thrown rfl rfl rfl (by decide +kernel) ⟨Nat.le_of_ble_eq_true rfl, Nat.le_of_ble_eq_true rfl⟩) ⟨MPc.blind, va_recv hK hP (ci := 5) (q0 := 15) rfl rfl, MPc.at (hP.sub [15, 16, 17, 18, 19, 20, 21, 22, 23, 24, 25, 26, 27, 28] rfl) (hD.sub [15, 16, 17, 18, 19, 20, 21, 22, 23, 24, 25, 26, 27, 28] (by decide) rfl) hK hN⟩ rfl rfl hl.1 rfl (lv_room (Nat.le_of_ble_eq_true rfl)) dL_law_284 ⟨by show _ ≤ 601024; omega, by show _ ≤ 7293000; omega⟩) hP hD hS hA [15, 16, 17, 18, 19, 20, 21, 22, 23, 24, 25, 26, 27, 28] [0, 1, 2, 3, 4, 5, 6, 7, 8, 9, 10, 11, 12, 13, 14] rfl rfl (by decide) (by decide) (fun r3 u3 H locs hw hP hD hS => ?_)
  obtain ⟨hu, rfl⟩ := hw
  rw [hu] at hP hD
  have hP : va_P D vwCl (cW cI cJ w h x ax ou ((oAt w h d (xs (i + 1)) (xs (i + 2))).2.1) u1.1 u1.2 ++ rW cI cZ ad w h ((oAt w h d (xs (i + 1)) (xs (i + 2))).2.1) u2) H := hP
  have hD : va_D (fun q : Nat => s.heap.size ≤ q) (cW cI cJ w h x ax ou ((oAt w h d (xs (i + 1)) (xs (i + 2))).2.1) u1.1 u1.2 ++ rW cI cZ ad w h ((oAt w h d (xs (i + 1)) (xs (i + 2))).2.1) u2) := hD
  refine rt_i (v := nI ((oAt w h d (xs (i + 1)) (xs (i + 2))).1)) (by rw [ht]) ?_
  refine lv_iload hx hb dL_law_287 (lv_at hl 1 rfl) ?_
  refine lv_icmp_eq (tgt := 294) hx hb dL_law_289 (by decide) (fun _ => ?_) (fun z => absurd rfl z)
  refine lv_iload hx hb dL_law_294 (lv_at hl 1 rfl) ?_
  refine lv_if_ne (tgt := 311) hx hb dL_law_296 (by decide) (fun z => ?_) (fun z => ?_)
  · skip
    refine lv_goto (tgt := 634) hx hb dL_law_311 (by decide) ?_
    exact kk ((oAt w h d (xs (i + 1)) (xs (i + 2))).2.1) u1.1 u2 u1.2 H locs ls ⟨(oAt_ok GG _ _), C1, K2, hP, hD, hS⟩ (lv_sub hl [2, 3, 4, 5, 6] rfl)
  have hz : (oAt w h d (xs (i + 1)) (xs (i + 2))).1 = 0 := by rw [← nI_0, nI_eq (Nat.lt_of_le_of_lt (oAt_le w h d _ _) (by decide)) (by decide)] at z; exact z
  refine lv_aload_n hx hb dL_law_299 rfl (lv_at hl 5 rfl) ?_
  refine lv_iconst (v := nI 0) hx hb dL_law_300 (by decide) ?_
  refine n_lald hx hb hK hP 0 1 rfl rfl (by omega) (by omega) dL_law_301 ?_
  refine lv_iload hx hb dL_law_302 (lv_at hl 0 rfl) ?_
  refine lv_i2l hx hb dL_law_304 rfl ?_
  refine W.lcmp hx hb dL_law_305 ?_
  refine l_if_eq (tgt := 311) hx hb dL_law_306 (by decide) (fun _ => ?_) (fun z => absurd (by rw [ho hz, hv hz]) z)
  refine lv_goto (tgt := 634) hx hb dL_law_311 (by decide) ?_
  exact kk ((oAt w h d (xs (i + 1)) (xs (i + 2))).2.1) u1.1 u2 u1.2 H locs ls ⟨(oAt_ok GG _ _), C1, K2, hP, hD, hS⟩ (lv_sub hl [2, 3, 4, 5, 6] rfl)

set_option maxHeartbeats 4000000 in
set_option maxRecDepth 100000 in
theorem k_open {p : Program} {e : Env} {s : State} {m : MethodId} {below : List Frame} {meth : Method} {cd : Code} {Q : State → Prop} (l : Launch) (hlt : l.stackTraces = false) {b L : Nat} {xs : Nat → Int32} {D : va_G} {cI cJ cZ : ClassId} {w h x ou : Nat} {ax ad : Nat → Nat} (E0 : LwC p s m meth cd b L xs D cI cJ cZ w h) {d : List Nat} {cs : CtS} {rs : RfS} {O : Nat → Int64} {i : Nat} {H : Heap} {locs : List Loc} {ls : Array Slot} {cells slots : Nat} (I0 : LwI s D cI cJ cZ w h x ou ax ad d cs rs O H locs) (hi : i + 2 < L) (hcl : cells + 1 ≤ 601024) (hsl : slots + 6 ≤ 7293000) (hl : lv_has ls 7 [(0, .ref b), (1, .ref x), (2, .ref (ad 0)), (3, .ref ou), (4, .int (nI i))]) (kk : ∀ (d : List Nat) (cs : CtS) (rs : RfS) (O : Nat → Int64) (H : Heap) (locs : List Loc) (ls : Array Slot), LwI s D cI cJ cZ w h x ou ax ad d cs rs O H locs → lv_has ls 7 [(0, .ref b), (1, .ref x), (2, .ref (ad 0)), (3, .ref ou), (4, .int (nI i))] → W p l e room_1 s m #[Value.ref b] below meth cd H locs (cells + 1) (slots + 6) Q (F0 m 634 ls [])) : W p l e room_1 s m #[Value.ref b] below meth cd H locs cells slots Q (F0 m 327 ls []) := by
  obtain ⟨hx, hb, hr, hml, hown, hts, hX, hbl, hlocks, hK, hN, hT, hZ, hc0, hd, hL⟩ := E0
  obtain ⟨GG, C, K, hP, hD, hS⟩ := I0
  have hA : ∀ q : Nat, s.heap.size ≤ q → (fun q : Nat => s.heap.size ≤ q) q := fun _ h => h
  have hbA : ¬ (fun q : Nat => s.heap.size ≤ q) b := Nat.not_le.mpr hbl
  have hht := gH_le GG
  have hn := (g_emp GG).1
  refine lv_aload_n hx hb dL_law_327 rfl (lv_at hl 1 rfl) ?_
  refine lv_aload_n hx hb dL_law_328 rfl (lv_at hl 0 rfl) ?_
  refine lv_iload hx hb dL_law_329 (lv_at hl 4 rfl) ?_
  refine lv_iconst (v := nI 1) hx hb dL_law_331 (by decide) ?_
  refine n_iadd hx hb dL_law_332 ?_
  refine va_sld hx hb hX hbl hbA hS (vp_in_nI (n := i + 1) (N := L) (by omega) (by omega)) dL_law_333 ?_
  refine rt_i (v := xs (i + 1)) (by rw [nI_clamp (by omega)]) ?_
  refine lv_aload_n hx hb dL_law_334 rfl (lv_at hl 3 rfl) ?_
  refine mu_calli (wr := rW cI cZ ad w h d rs) (vx_runSW (As := [.ref x, .int (xs (i + 1)), .ref ou]) (rest := []) ⟨hx, hb, hml, hown, hts⟩ (w_open l hlt D cI cJ cZ w h x ou ax d cs O (xs (i + 1)) H.size hd GG C) (vx_cwSW 3 hts gL_law_L_open rfl rfl rfl (by decide +kernel) ⟨Nat.le_of_ble_eq_true rfl, Nat.le_of_ble_eq_true rfl⟩) ⟨YPc.blind, YPc.at (hP.sub [0, 1, 2, 3, 4, 5, 6, 7, 8, 9, 10, 11, 12, 13, 14] rfl) (hD.sub [0, 1, 2, 3, 4, 5, 6, 7, 8, 9, 10, 11, 12, 13, 14] (by decide) rfl) hK hN hT (TwZ.later hZ hS) hc0⟩ rfl rfl hl.1 rfl (lv_room (Nat.le_of_ble_eq_true rfl)) dL_law_335 ⟨hcl, hsl⟩) hP hD hS hA [0, 1, 2, 3, 4, 5, 6, 7, 8, 9, 10, 11, 12, 13, 14] [15, 16, 17, 18, 19, 20, 21, 22, 23, 24, 25, 26, 27, 28] rfl rfl (by decide) (by decide) (fun r1 u1 H locs hw hP hD hS => ?_)
  obtain ⟨rfl, C1, ho⟩ := hw
  have hP : va_P D vwCl (cW cI cJ w h x ax ou ((oOpen w h d (xs (i + 1))).2.1) u1.1 u1.2 ++ rW cI cZ ad w h d rs) H := hP.sub [14, 15, 16, 17, 18, 19, 20, 21, 22, 23, 24, 25, 26, 27, 28, 0, 1, 2, 3, 4, 5, 6, 7, 8, 9, 10, 11, 12, 13] rfl
  have hD : va_D (fun q : Nat => s.heap.size ≤ q) (cW cI cJ w h x ax ou ((oOpen w h d (xs (i + 1))).2.1) u1.1 u1.2 ++ rW cI cZ ad w h d rs) := hD.sub [14, 15, 16, 17, 18, 19, 20, 21, 22, 23, 24, 25, 26, 27, 28, 0, 1, 2, 3, 4, 5, 6, 7, 8, 9, 10, 11, 12, 13] (by decide) rfl
  refine lv_istore (lv' := [(5, .int (nI ((oOpen w h d (xs (i + 1))).1))), (0, .ref b), (1, .ref x), (2, .ref (ad 0)), (3, .ref ou), (4, .int (nI i))]) hx hb dL_law_338 hl (by decide) rfl (fun ls hl => ?_)
  refine lv_aload_n hx hb dL_law_340 rfl (lv_at hl 3 rfl) ?_
  refine lv_aload_n hx hb dL_law_341 rfl (lv_at hl 1 rfl) ?_
  refine lv_iload hx hb dL_law_342 (lv_at hl 5 rfl) ?_
  refine lv_iconst (v := nI 1) hx hb dL_law_344 (by decide) ?_
  refine n_iadd hx hb dL_law_345 ?_
  refine va_sld hx hb hX hbl hbA hS (vp_in_nI (n := i + 1) (N := L) (by omega) (by omega)) dL_law_346 ?_
  refine rt_i (v := xs (i + 1)) (by rw [nI_clamp (by omega)]) ?_
  refine mu_calli (wr := cW cI cJ w h x ax ou ((oOpen w h d (xs (i + 1))).2.1) u1.1 u1.2) (va_runV (As := [.int (xs (i + 1))]) (rest := []) ⟨hx, hb, hml, hown, hts⟩ (r_open l D cI cJ cZ ad w h d rs (xs (i + 1)) H.size hd GG K) (cwV 1 hts gL_law_X5_open rfl rfl rfl (by decide +kernel) ⟨Nat.le_of_ble_eq_true rfl, Nat.le_of_ble_eq_true rfl⟩) ⟨MPc.blind, va_recv hK hP (ci := 5) (q0 := 15) rfl rfl, MPc.at (hP.sub [15, 16, 17, 18, 19, 20, 21, 22, 23, 24, 25, 26, 27, 28] rfl) (hD.sub [15, 16, 17, 18, 19, 20, 21, 22, 23, 24, 25, 26, 27, 28] (by decide) rfl) hK hN⟩ rfl rfl hl.1 rfl (lv_room (Nat.le_of_ble_eq_true rfl)) dL_law_347 ⟨by show _ ≤ 601024; omega, by show _ ≤ 7293000; omega⟩) hP hD hS hA [15, 16, 17, 18, 19, 20, 21, 22, 23, 24, 25, 26, 27, 28] [0, 1, 2, 3, 4, 5, 6, 7, 8, 9, 10, 11, 12, 13, 14] rfl rfl (by decide) (by decide) (fun r2 u2 H locs hw hP hD hS => ?_)
  obtain ⟨hv, ht, K2⟩ := hw
  have hP : va_P D vwCl (cW cI cJ w h x ax ou ((oOpen w h d (xs (i + 1))).2.1) u1.1 u1.2 ++ rW cI cZ ad w h ((oOpen w h d (xs (i + 1))).2.1) u2) H := hP
  have hD : va_D (fun q : Nat => s.heap.size ≤ q) (cW cI cJ w h x ax ou ((oOpen w h d (xs (i + 1))).2.1) u1.1 u1.2 ++ rW cI cZ ad w h ((oOpen w h d (xs (i + 1))).2.1) u2) := hD
  refine lv_istore (lv' := [(6, .int r2), (5, .int (nI ((oOpen w h d (xs (i + 1))).1))), (0, .ref b), (1, .ref x), (2, .ref (ad 0)), (3, .ref ou), (4, .int (nI i))]) hx hb dL_law_350 hl (by decide) rfl (fun ls hl => ?_)
  refine lv_aload_n hx hb dL_law_352 rfl (lv_at hl 4 rfl) ?_
  refine mu_calli (wr := cW cI cJ w h x ax ou ((oOpen w h d (xs (i + 1))).2.1) u1.1 u1.2) (va_runV (As := []) (rest := []) ⟨hx, hb, hml, hown, hts⟩ (r_thrown l D cI cJ cZ ad w h (oOpen w h d (xs (i + 1))).2.1 u2 H.size) (cwV 0 hts gL_law_X5_thrown rfl rfl rfl (by decide +kernel) ⟨Nat.le_of_ble_eq_true rfl, Nat.le_of_ble_eq_true rfl⟩) ⟨MPc.blind, va_recv hK hP (ci := 5) (q0 := 15) rfl rfl, MPc.at (hP.sub [15, 16, 17, 18, 19, 20, 21, 22, 23, 24, 25, 26, 27, 28] rfl) (hD.sub [15, 16, 17, 18, 19, 20, 21, 22, 23, 24, 25, 26, 27, 28] (by decide) rfl) hK hN⟩ rfl rfl hl.1 rfl (lv_room (Nat.le_of_ble_eq_true rfl)) dL_law_353 ⟨by show _ ≤ 601024; omega, by show _ ≤ 7293000; omega⟩) hP hD hS hA [15, 16, 17, 18, 19, 20, 21, 22, 23, 24, 25, 26, 27, 28] [0, 1, 2, 3, 4, 5, 6, 7, 8, 9, 10, 11, 12, 13, 14] rfl rfl (by decide) (by decide) (fun r3 u3 H locs hw hP hD hS => ?_)
  obtain ⟨hu, rfl⟩ := hw
  rw [hu] at hP hD
  have hP : va_P D vwCl (cW cI cJ w h x ax ou ((oOpen w h d (xs (i + 1))).2.1) u1.1 u1.2 ++ rW cI cZ ad w h ((oOpen w h d (xs (i + 1))).2.1) u2) H := hP
  have hD : va_D (fun q : Nat => s.heap.size ≤ q) (cW cI cJ w h x ax ou ((oOpen w h d (xs (i + 1))).2.1) u1.1 u1.2 ++ rW cI cZ ad w h ((oOpen w h d (xs (i + 1))).2.1) u2) := hD
  refine rt_i (v := nI ((oOpen w h d (xs (i + 1))).1)) (by rw [ht]) ?_
  refine lv_iload hx hb dL_law_356 (lv_at hl 1 rfl) ?_
  refine lv_icmp_eq (tgt := 363) hx hb dL_law_358 (by decide) (fun _ => ?_) (fun z => absurd rfl z)
  refine lv_iload hx hb dL_law_363 (lv_at hl 1 rfl) ?_
  refine lv_if_ne (tgt := 380) hx hb dL_law_365 (by decide) (fun z => ?_) (fun z => ?_)
  · skip
    refine lv_goto (tgt := 634) hx hb dL_law_380 (by decide) ?_
    exact kk ((oOpen w h d (xs (i + 1))).2.1) u1.1 u2 u1.2 H locs ls ⟨(oOpen_ok GG _), C1, K2, hP, hD, hS⟩ (lv_sub hl [2, 3, 4, 5, 6] rfl)
  have hz : (oOpen w h d (xs (i + 1))).1 = 0 := by rw [← nI_0, nI_eq (Nat.lt_of_le_of_lt (oOpen_le w h d _) (by decide)) (by decide)] at z; exact z
  refine lv_aload_n hx hb dL_law_368 rfl (lv_at hl 5 rfl) ?_
  refine lv_iconst (v := nI 0) hx hb dL_law_369 (by decide) ?_
  refine n_lald hx hb hK hP 0 1 rfl rfl (by omega) (by omega) dL_law_370 ?_
  refine lv_iload hx hb dL_law_371 (lv_at hl 0 rfl) ?_
  refine lv_i2l hx hb dL_law_373 rfl ?_
  refine W.lcmp hx hb dL_law_374 ?_
  refine l_if_eq (tgt := 380) hx hb dL_law_375 (by decide) (fun _ => ?_) (fun z => absurd (by rw [ho hz, hv hz]) z)
  refine lv_goto (tgt := 634) hx hb dL_law_380 (by decide) ?_
  exact kk ((oOpen w h d (xs (i + 1))).2.1) u1.1 u2 u1.2 H locs ls ⟨(oOpen_ok GG _), C1, K2, hP, hD, hS⟩ (lv_sub hl [2, 3, 4, 5, 6] rfl)

set_option maxHeartbeats 4000000 in
set_option maxRecDepth 100000 in
theorem k_threats {p : Program} {e : Env} {s : State} {m : MethodId} {below : List Frame} {meth : Method} {cd : Code} {Q : State → Prop} (l : Launch) (hlt : l.stackTraces = false) {b L : Nat} {xs : Nat → Int32} {D : va_G} {cI cJ cZ : ClassId} {w h x ou : Nat} {ax ad : Nat → Nat} (E0 : LwC p s m meth cd b L xs D cI cJ cZ w h) {d : List Nat} {cs : CtS} {rs : RfS} {O : Nat → Int64} {i : Nat} {H : Heap} {locs : List Loc} {ls : Array Slot} {cells slots : Nat} (I0 : LwI s D cI cJ cZ w h x ou ax ad d cs rs O H locs) (hi : i + 2 < L) (hcl : cells + 1 ≤ 601024) (hsl : slots + 6 ≤ 7293000) (hl : lv_has ls 7 [(0, .ref b), (1, .ref x), (2, .ref (ad 0)), (3, .ref ou), (4, .int (nI i))]) (kk : ∀ (d : List Nat) (cs : CtS) (rs : RfS) (O : Nat → Int64) (H : Heap) (locs : List Loc) (ls : Array Slot), LwI s D cI cJ cZ w h x ou ax ad d cs rs O H locs → lv_has ls 7 [(0, .ref b), (1, .ref x), (2, .ref (ad 0)), (3, .ref ou), (4, .int (nI i))] → W p l e room_1 s m #[Value.ref b] below meth cd H locs (cells + 1) (slots + 6) Q (F0 m 634 ls [])) : W p l e room_1 s m #[Value.ref b] below meth cd H locs cells slots Q (F0 m 383 ls []) := by
  obtain ⟨hx, hb, hr, hml, hown, hts, hX, hbl, hlocks, hK, hN, hT, hZ, hc0, hd, hL⟩ := E0
  obtain ⟨GG, C, K, hP, hD, hS⟩ := I0
  have hA : ∀ q : Nat, s.heap.size ≤ q → (fun q : Nat => s.heap.size ≤ q) q := fun _ h => h
  have hbA : ¬ (fun q : Nat => s.heap.size ≤ q) b := Nat.not_le.mpr hbl
  have hht := gH_le GG
  have hn := (g_emp GG).1
  refine lv_aload_n hx hb dL_law_383 rfl (lv_at hl 1 rfl) ?_
  refine lv_aload_n hx hb dL_law_384 rfl (lv_at hl 0 rfl) ?_
  refine lv_iload hx hb dL_law_385 (lv_at hl 4 rfl) ?_
  refine lv_iconst (v := nI 1) hx hb dL_law_387 (by decide) ?_
  refine n_iadd hx hb dL_law_388 ?_
  refine va_sld hx hb hX hbl hbA hS (vp_in_nI (n := i + 1) (N := L) (by omega) (by omega)) dL_law_389 ?_
  refine rt_i (v := xs (i + 1)) (by rw [nI_clamp (by omega)]) ?_
  refine lv_aload_n hx hb dL_law_390 rfl (lv_at hl 3 rfl) ?_
  refine mu_calli (wr := rW cI cZ ad w h d rs) (vx_runSW (As := [.ref x, .int (xs (i + 1)), .ref ou]) (rest := []) ⟨hx, hb, hml, hown, hts⟩ (w_threats l hlt D cI cJ cZ w h x ou ax d cs O (xs (i + 1)) H.size hd GG C) (vx_cwSW 3 hts gL_law_L_threats rfl rfl rfl (by decide +kernel) ⟨Nat.le_of_ble_eq_true rfl, Nat.le_of_ble_eq_true rfl⟩) ⟨YPc.blind, YPc.at (hP.sub [0, 1, 2, 3, 4, 5, 6, 7, 8, 9, 10, 11, 12, 13, 14] rfl) (hD.sub [0, 1, 2, 3, 4, 5, 6, 7, 8, 9, 10, 11, 12, 13, 14] (by decide) rfl) hK hN hT (TwZ.later hZ hS) hc0⟩ rfl rfl hl.1 rfl (lv_room (Nat.le_of_ble_eq_true rfl)) dL_law_391 ⟨hcl, hsl⟩) hP hD hS hA [0, 1, 2, 3, 4, 5, 6, 7, 8, 9, 10, 11, 12, 13, 14] [15, 16, 17, 18, 19, 20, 21, 22, 23, 24, 25, 26, 27, 28] rfl rfl (by decide) (by decide) (fun r1 u1 H locs hw hP hD hS => ?_)
  obtain ⟨rfl, C1, ho⟩ := hw
  have hP : va_P D vwCl (cW cI cJ w h x ax ou ((oThreats w h d (xs (i + 1))).2.1) u1.1 u1.2 ++ rW cI cZ ad w h d rs) H := hP.sub [14, 15, 16, 17, 18, 19, 20, 21, 22, 23, 24, 25, 26, 27, 28, 0, 1, 2, 3, 4, 5, 6, 7, 8, 9, 10, 11, 12, 13] rfl
  have hD : va_D (fun q : Nat => s.heap.size ≤ q) (cW cI cJ w h x ax ou ((oThreats w h d (xs (i + 1))).2.1) u1.1 u1.2 ++ rW cI cZ ad w h d rs) := hD.sub [14, 15, 16, 17, 18, 19, 20, 21, 22, 23, 24, 25, 26, 27, 28, 0, 1, 2, 3, 4, 5, 6, 7, 8, 9, 10, 11, 12, 13] (by decide) rfl
  refine lv_istore (lv' := [(5, .int (nI ((oThreats w h d (xs (i + 1))).1))), (0, .ref b), (1, .ref x), (2, .ref (ad 0)), (3, .ref ou), (4, .int (nI i))]) hx hb dL_law_394 hl (by decide) rfl (fun ls hl => ?_)
  refine lv_aload_n hx hb dL_law_396 rfl (lv_at hl 3 rfl) ?_
  refine lv_aload_n hx hb dL_law_397 rfl (lv_at hl 1 rfl) ?_
  refine lv_iload hx hb dL_law_398 (lv_at hl 5 rfl) ?_
  refine lv_iconst (v := nI 1) hx hb dL_law_400 (by decide) ?_
  refine n_iadd hx hb dL_law_401 ?_
  refine va_sld hx hb hX hbl hbA hS (vp_in_nI (n := i + 1) (N := L) (by omega) (by omega)) dL_law_402 ?_
  refine rt_i (v := xs (i + 1)) (by rw [nI_clamp (by omega)]) ?_
  refine mu_calli (wr := cW cI cJ w h x ax ou ((oThreats w h d (xs (i + 1))).2.1) u1.1 u1.2) (va_runV (As := [.int (xs (i + 1))]) (rest := []) ⟨hx, hb, hml, hown, hts⟩ (r_threats l D cI cJ cZ ad w h d rs (xs (i + 1)) H.size hd GG K) (cwV 1 hts gL_law_X5_threats rfl rfl rfl (by decide +kernel) ⟨Nat.le_of_ble_eq_true rfl, Nat.le_of_ble_eq_true rfl⟩) ⟨MPc.blind, va_recv hK hP (ci := 5) (q0 := 15) rfl rfl, MPc.at (hP.sub [15, 16, 17, 18, 19, 20, 21, 22, 23, 24, 25, 26, 27, 28] rfl) (hD.sub [15, 16, 17, 18, 19, 20, 21, 22, 23, 24, 25, 26, 27, 28] (by decide) rfl) hK hN⟩ rfl rfl hl.1 rfl (lv_room (Nat.le_of_ble_eq_true rfl)) dL_law_403 ⟨by show _ ≤ 601024; omega, by show _ ≤ 7293000; omega⟩) hP hD hS hA [15, 16, 17, 18, 19, 20, 21, 22, 23, 24, 25, 26, 27, 28] [0, 1, 2, 3, 4, 5, 6, 7, 8, 9, 10, 11, 12, 13, 14] rfl rfl (by decide) (by decide) (fun r2 u2 H locs hw hP hD hS => ?_)
  obtain ⟨hv, ht, K2⟩ := hw
  have hP : va_P D vwCl (cW cI cJ w h x ax ou ((oThreats w h d (xs (i + 1))).2.1) u1.1 u1.2 ++ rW cI cZ ad w h ((oThreats w h d (xs (i + 1))).2.1) u2) H := hP
  have hD : va_D (fun q : Nat => s.heap.size ≤ q) (cW cI cJ w h x ax ou ((oThreats w h d (xs (i + 1))).2.1) u1.1 u1.2 ++ rW cI cZ ad w h ((oThreats w h d (xs (i + 1))).2.1) u2) := hD
  refine lv_istore (lv' := [(6, .int r2), (5, .int (nI ((oThreats w h d (xs (i + 1))).1))), (0, .ref b), (1, .ref x), (2, .ref (ad 0)), (3, .ref ou), (4, .int (nI i))]) hx hb dL_law_406 hl (by decide) rfl (fun ls hl => ?_)
  refine lv_aload_n hx hb dL_law_408 rfl (lv_at hl 4 rfl) ?_
  refine mu_calli (wr := cW cI cJ w h x ax ou ((oThreats w h d (xs (i + 1))).2.1) u1.1 u1.2) (va_runV (As := []) (rest := []) ⟨hx, hb, hml, hown, hts⟩ (r_thrown l D cI cJ cZ ad w h (oThreats w h d (xs (i + 1))).2.1 u2 H.size) (cwV 0 hts gL_law_X5_thrown rfl rfl rfl (by decide +kernel) ⟨Nat.le_of_ble_eq_true rfl, Nat.le_of_ble_eq_true rfl⟩) ⟨MPc.blind, va_recv hK hP (ci := 5) (q0 := 15) rfl rfl, MPc.at (hP.sub [15, 16, 17, 18, 19, 20, 21, 22, 23, 24, 25, 26, 27, 28] rfl) (hD.sub [15, 16, 17, 18, 19, 20, 21, 22, 23, 24, 25, 26, 27, 28] (by decide) rfl) hK hN⟩ rfl rfl hl.1 rfl (lv_room (Nat.le_of_ble_eq_true rfl)) dL_law_409 ⟨by show _ ≤ 601024; omega, by show _ ≤ 7293000; omega⟩) hP hD hS hA [15, 16, 17, 18, 19, 20, 21, 22, 23, 24, 25, 26, 27, 28] [0, 1, 2, 3, 4, 5, 6, 7, 8, 9, 10, 11, 12, 13, 14] rfl rfl (by decide) (by decide) (fun r3 u3 H locs hw hP hD hS => ?_)
  obtain ⟨hu, rfl⟩ := hw
  rw [hu] at hP hD
  have hP : va_P D vwCl (cW cI cJ w h x ax ou ((oThreats w h d (xs (i + 1))).2.1) u1.1 u1.2 ++ rW cI cZ ad w h ((oThreats w h d (xs (i + 1))).2.1) u2) H := hP
  have hD : va_D (fun q : Nat => s.heap.size ≤ q) (cW cI cJ w h x ax ou ((oThreats w h d (xs (i + 1))).2.1) u1.1 u1.2 ++ rW cI cZ ad w h ((oThreats w h d (xs (i + 1))).2.1) u2) := hD
  refine rt_i (v := nI ((oThreats w h d (xs (i + 1))).1)) (by rw [ht]) ?_
  refine lv_iload hx hb dL_law_412 (lv_at hl 1 rfl) ?_
  refine lv_icmp_eq (tgt := 419) hx hb dL_law_414 (by decide) (fun _ => ?_) (fun z => absurd rfl z)
  refine lv_iload hx hb dL_law_419 (lv_at hl 1 rfl) ?_
  refine lv_if_ne (tgt := 436) hx hb dL_law_421 (by decide) (fun z => ?_) (fun z => ?_)
  · skip
    refine lv_goto (tgt := 634) hx hb dL_law_436 (by decide) ?_
    exact kk ((oThreats w h d (xs (i + 1))).2.1) u1.1 u2 u1.2 H locs ls ⟨(oThreats_ok GG _), C1, K2, hP, hD, hS⟩ (lv_sub hl [2, 3, 4, 5, 6] rfl)
  have hz : (oThreats w h d (xs (i + 1))).1 = 0 := by rw [← nI_0, nI_eq (Nat.lt_of_le_of_lt (oThreats_le w h d _) (by decide)) (by decide)] at z; exact z
  refine lv_aload_n hx hb dL_law_424 rfl (lv_at hl 5 rfl) ?_
  refine lv_iconst (v := nI 0) hx hb dL_law_425 (by decide) ?_
  refine n_lald hx hb hK hP 0 1 rfl rfl (by omega) (by omega) dL_law_426 ?_
  refine lv_iload hx hb dL_law_427 (lv_at hl 0 rfl) ?_
  refine lv_i2l hx hb dL_law_429 rfl ?_
  refine W.lcmp hx hb dL_law_430 ?_
  refine l_if_eq (tgt := 436) hx hb dL_law_431 (by decide) (fun _ => ?_) (fun z => absurd (by rw [ho hz, hv hz]) z)
  refine lv_goto (tgt := 634) hx hb dL_law_436 (by decide) ?_
  exact kk ((oThreats w h d (xs (i + 1))).2.1) u1.1 u2 u1.2 H locs ls ⟨(oThreats_ok GG _), C1, K2, hP, hD, hS⟩ (lv_sub hl [2, 3, 4, 5, 6] rfl)

set_option maxHeartbeats 4000000 in
set_option maxRecDepth 100000 in
theorem k_value {p : Program} {e : Env} {s : State} {m : MethodId} {below : List Frame} {meth : Method} {cd : Code} {Q : State → Prop} (l : Launch) (hlt : l.stackTraces = false) {b L : Nat} {xs : Nat → Int32} {D : va_G} {cI cJ cZ : ClassId} {w h x ou : Nat} {ax ad : Nat → Nat} (E0 : LwC p s m meth cd b L xs D cI cJ cZ w h) {d : List Nat} {cs : CtS} {rs : RfS} {O : Nat → Int64} {i : Nat} {H : Heap} {locs : List Loc} {ls : Array Slot} {cells slots : Nat} (I0 : LwI s D cI cJ cZ w h x ou ax ad d cs rs O H locs) (hi : i + 2 < L) (hcl : cells + 1 ≤ 601024) (hsl : slots + 6 ≤ 7293000) (hl : lv_has ls 7 [(0, .ref b), (1, .ref x), (2, .ref (ad 0)), (3, .ref ou), (4, .int (nI i))]) (kk : ∀ (d : List Nat) (cs : CtS) (rs : RfS) (O : Nat → Int64) (H : Heap) (locs : List Loc) (ls : Array Slot), LwI s D cI cJ cZ w h x ou ax ad d cs rs O H locs → lv_has ls 7 [(0, .ref b), (1, .ref x), (2, .ref (ad 0)), (3, .ref ou), (4, .int (nI i))] → W p l e room_1 s m #[Value.ref b] below meth cd H locs (cells + 1) (slots + 6) Q (F0 m 634 ls [])) : W p l e room_1 s m #[Value.ref b] below meth cd H locs cells slots Q (F0 m 439 ls []) := by
  obtain ⟨hx, hb, hr, hml, hown, hts, hX, hbl, hlocks, hK, hN, hT, hZ, hc0, hd, hL⟩ := E0
  obtain ⟨GG, C, K, hP, hD, hS⟩ := I0
  have hA : ∀ q : Nat, s.heap.size ≤ q → (fun q : Nat => s.heap.size ≤ q) q := fun _ h => h
  have hbA : ¬ (fun q : Nat => s.heap.size ≤ q) b := Nat.not_le.mpr hbl
  have hht := gH_le GG
  have hn := (g_emp GG).1
  refine lv_aload_n hx hb dL_law_439 rfl (lv_at hl 1 rfl) ?_
  refine lv_aload_n hx hb dL_law_440 rfl (lv_at hl 3 rfl) ?_
  refine mu_calli (wr := rW cI cZ ad w h d rs) (vx_runSW (As := [.ref x, .ref ou]) (rest := []) ⟨hx, hb, hml, hown, hts⟩ (w_value l hlt D cI cJ cZ w h x ou ax d cs O  H.size hd GG C) (vx_cwSW 2 hts gL_law_L_value rfl rfl rfl (by decide +kernel) ⟨Nat.le_of_ble_eq_true rfl, Nat.le_of_ble_eq_true rfl⟩) ⟨YPc.blind, YPc.at (hP.sub [0, 1, 2, 3, 4, 5, 6, 7, 8, 9, 10, 11, 12, 13, 14] rfl) (hD.sub [0, 1, 2, 3, 4, 5, 6, 7, 8, 9, 10, 11, 12, 13, 14] (by decide) rfl) hK hN hT (TwZ.later hZ hS) hc0⟩ rfl rfl hl.1 rfl (lv_room (Nat.le_of_ble_eq_true rfl)) dL_law_441 ⟨hcl, hsl⟩) hP hD hS hA [0, 1, 2, 3, 4, 5, 6, 7, 8, 9, 10, 11, 12, 13, 14] [15, 16, 17, 18, 19, 20, 21, 22, 23, 24, 25, 26, 27, 28] rfl rfl (by decide) (by decide) (fun r1 u1 H locs hw hP hD hS => ?_)
  obtain ⟨rfl, C1, ho⟩ := hw
  have hP : va_P D vwCl (cW cI cJ w h x ax ou ((oValue w h d).2.1) u1.1 u1.2 ++ rW cI cZ ad w h d rs) H := hP.sub [14, 15, 16, 17, 18, 19, 20, 21, 22, 23, 24, 25, 26, 27, 28, 0, 1, 2, 3, 4, 5, 6, 7, 8, 9, 10, 11, 12, 13] rfl
  have hD : va_D (fun q : Nat => s.heap.size ≤ q) (cW cI cJ w h x ax ou ((oValue w h d).2.1) u1.1 u1.2 ++ rW cI cZ ad w h d rs) := hD.sub [14, 15, 16, 17, 18, 19, 20, 21, 22, 23, 24, 25, 26, 27, 28, 0, 1, 2, 3, 4, 5, 6, 7, 8, 9, 10, 11, 12, 13] (by decide) rfl
  refine lv_istore (lv' := [(5, .int (nI ((oValue w h d).1))), (0, .ref b), (1, .ref x), (2, .ref (ad 0)), (3, .ref ou), (4, .int (nI i))]) hx hb dL_law_444 hl (by decide) rfl (fun ls hl => ?_)
  refine lv_aload_n hx hb dL_law_446 rfl (lv_at hl 3 rfl) ?_
  refine mu_calli (wr := cW cI cJ w h x ax ou ((oValue w h d).2.1) u1.1 u1.2) (va_runV (As := []) (rest := []) ⟨hx, hb, hml, hown, hts⟩ (r_value l D cI cJ cZ ad w h d rs  H.size hd GG K) (cwV 0 hts gL_law_X5_value rfl rfl rfl (by decide +kernel) ⟨Nat.le_of_ble_eq_true rfl, Nat.le_of_ble_eq_true rfl⟩) ⟨MPc.blind, va_recv hK hP (ci := 5) (q0 := 15) rfl rfl, MPc.at (hP.sub [15, 16, 17, 18, 19, 20, 21, 22, 23, 24, 25, 26, 27, 28] rfl) (hD.sub [15, 16, 17, 18, 19, 20, 21, 22, 23, 24, 25, 26, 27, 28] (by decide) rfl) hK hN⟩ rfl rfl hl.1 rfl (lv_room (Nat.le_of_ble_eq_true rfl)) dL_law_447 ⟨by show _ ≤ 601024; omega, by show _ ≤ 7293000; omega⟩) hP hD hS hA [15, 16, 17, 18, 19, 20, 21, 22, 23, 24, 25, 26, 27, 28] [0, 1, 2, 3, 4, 5, 6, 7, 8, 9, 10, 11, 12, 13, 14] rfl rfl (by decide) (by decide) (fun r2 u2 H locs hw hP hD hS => ?_)
  obtain ⟨hv, ht, K2⟩ := hw
  have hP : va_P D vwCl (cW cI cJ w h x ax ou ((oValue w h d).2.1) u1.1 u1.2 ++ rW cI cZ ad w h ((oValue w h d).2.1) u2) H := hP
  have hD : va_D (fun q : Nat => s.heap.size ≤ q) (cW cI cJ w h x ax ou ((oValue w h d).2.1) u1.1 u1.2 ++ rW cI cZ ad w h ((oValue w h d).2.1) u2) := hD
  refine lv_istore (lv' := [(6, .int r2), (5, .int (nI ((oValue w h d).1))), (0, .ref b), (1, .ref x), (2, .ref (ad 0)), (3, .ref ou), (4, .int (nI i))]) hx hb dL_law_450 hl (by decide) rfl (fun ls hl => ?_)
  refine lv_aload_n hx hb dL_law_452 rfl (lv_at hl 4 rfl) ?_
  refine mu_calli (wr := cW cI cJ w h x ax ou ((oValue w h d).2.1) u1.1 u1.2) (va_runV (As := []) (rest := []) ⟨hx, hb, hml, hown, hts⟩ (r_thrown l D cI cJ cZ ad w h (oValue w h d).2.1 u2 H.size) (cwV 0 hts gL_law_X5_thrown rfl rfl rfl (by decide +kernel) ⟨Nat.le_of_ble_eq_true rfl, Nat.le_of_ble_eq_true rfl⟩) ⟨MPc.blind, va_recv hK hP (ci := 5) (q0 := 15) rfl rfl, MPc.at (hP.sub [15, 16, 17, 18, 19, 20, 21, 22, 23, 24, 25, 26, 27, 28] rfl) (hD.sub [15, 16, 17, 18, 19, 20, 21, 22, 23, 24, 25, 26, 27, 28] (by decide) rfl) hK hN⟩ rfl rfl hl.1 rfl (lv_room (Nat.le_of_ble_eq_true rfl)) dL_law_453 ⟨by show _ ≤ 601024; omega, by show _ ≤ 7293000; omega⟩) hP hD hS hA [15, 16, 17, 18, 19, 20, 21, 22, 23, 24, 25, 26, 27, 28] [0, 1, 2, 3, 4, 5, 6, 7, 8, 9, 10, 11, 12, 13, 14] rfl rfl (by decide) (by decide) (fun r3 u3 H locs hw hP hD hS => ?_)
  obtain ⟨hu, rfl⟩ := hw
  rw [hu] at hP hD
  have hP : va_P D vwCl (cW cI cJ w h x ax ou ((oValue w h d).2.1) u1.1 u1.2 ++ rW cI cZ ad w h ((oValue w h d).2.1) u2) H := hP
  have hD : va_D (fun q : Nat => s.heap.size ≤ q) (cW cI cJ w h x ax ou ((oValue w h d).2.1) u1.1 u1.2 ++ rW cI cZ ad w h ((oValue w h d).2.1) u2) := hD
  refine rt_i (v := nI ((oValue w h d).1)) (by rw [ht]) ?_
  refine lv_iload hx hb dL_law_456 (lv_at hl 1 rfl) ?_
  refine lv_icmp_eq (tgt := 463) hx hb dL_law_458 (by decide) (fun _ => ?_) (fun z => absurd rfl z)
  refine lv_iload hx hb dL_law_463 (lv_at hl 1 rfl) ?_
  refine lv_if_ne (tgt := 480) hx hb dL_law_465 (by decide) (fun z => ?_) (fun z => ?_)
  · skip
    refine lv_goto (tgt := 634) hx hb dL_law_480 (by decide) ?_
    exact kk ((oValue w h d).2.1) u1.1 u2 u1.2 H locs ls ⟨(oValue_ok GG), C1, K2, hP, hD, hS⟩ (lv_sub hl [2, 3, 4, 5, 6] rfl)
  have hz : (oValue w h d).1 = 0 := by rw [← nI_0, nI_eq (Nat.lt_of_le_of_lt (oValue_le w h d) (by decide)) (by decide)] at z; exact z
  refine lv_aload_n hx hb dL_law_468 rfl (lv_at hl 5 rfl) ?_
  refine lv_iconst (v := nI 0) hx hb dL_law_469 (by decide) ?_
  refine n_lald hx hb hK hP 0 1 rfl rfl (by omega) (by omega) dL_law_470 ?_
  refine lv_iload hx hb dL_law_471 (lv_at hl 0 rfl) ?_
  refine lv_i2l hx hb dL_law_473 rfl ?_
  refine W.lcmp hx hb dL_law_474 ?_
  refine l_if_eq (tgt := 480) hx hb dL_law_475 (by decide) (fun _ => ?_) (fun z => absurd (by rw [ho hz, hv hz]) z)
  refine lv_goto (tgt := 634) hx hb dL_law_480 (by decide) ?_
  exact kk ((oValue w h d).2.1) u1.1 u2 u1.2 H locs ls ⟨(oValue_ok GG), C1, K2, hP, hD, hS⟩ (lv_sub hl [2, 3, 4, 5, 6] rfl)

set_option maxHeartbeats 4000000 in
set_option maxRecDepth 100000 in
theorem k_valueOf {p : Program} {e : Env} {s : State} {m : MethodId} {below : List Frame} {meth : Method} {cd : Code} {Q : State → Prop} (l : Launch) (hlt : l.stackTraces = false) {b L : Nat} {xs : Nat → Int32} {D : va_G} {cI cJ cZ : ClassId} {w h x ou : Nat} {ax ad : Nat → Nat} (E0 : LwC p s m meth cd b L xs D cI cJ cZ w h) {d : List Nat} {cs : CtS} {rs : RfS} {O : Nat → Int64} {i : Nat} {H : Heap} {locs : List Loc} {ls : Array Slot} {cells slots : Nat} (I0 : LwI s D cI cJ cZ w h x ou ax ad d cs rs O H locs) (hi : i + 2 < L) (hcl : cells + 1 ≤ 601024) (hsl : slots + 6 ≤ 7293000) (hl : lv_has ls 7 [(0, .ref b), (1, .ref x), (2, .ref (ad 0)), (3, .ref ou), (4, .int (nI i))]) (kk : ∀ (d : List Nat) (cs : CtS) (rs : RfS) (O : Nat → Int64) (H : Heap) (locs : List Loc) (ls : Array Slot), LwI s D cI cJ cZ w h x ou ax ad d cs rs O H locs → lv_has ls 7 [(0, .ref b), (1, .ref x), (2, .ref (ad 0)), (3, .ref ou), (4, .int (nI i))] → W p l e room_1 s m #[Value.ref b] below meth cd H locs (cells + 1) (slots + 6) Q (F0 m 634 ls [])) : W p l e room_1 s m #[Value.ref b] below meth cd H locs cells slots Q (F0 m 483 ls []) := by
  obtain ⟨hx, hb, hr, hml, hown, hts, hX, hbl, hlocks, hK, hN, hT, hZ, hc0, hd, hL⟩ := E0
  obtain ⟨GG, C, K, hP, hD, hS⟩ := I0
  have hA : ∀ q : Nat, s.heap.size ≤ q → (fun q : Nat => s.heap.size ≤ q) q := fun _ h => h
  have hbA : ¬ (fun q : Nat => s.heap.size ≤ q) b := Nat.not_le.mpr hbl
  have hht := gH_le GG
  have hn := (g_emp GG).1
  refine lv_aload_n hx hb dL_law_483 rfl (lv_at hl 1 rfl) ?_
  refine lv_aload_n hx hb dL_law_484 rfl (lv_at hl 0 rfl) ?_
  refine lv_iload hx hb dL_law_485 (lv_at hl 4 rfl) ?_
  refine lv_iconst (v := nI 1) hx hb dL_law_487 (by decide) ?_
  refine n_iadd hx hb dL_law_488 ?_
  refine va_sld hx hb hX hbl hbA hS (vp_in_nI (n := i + 1) (N := L) (by omega) (by omega)) dL_law_489 ?_
  refine rt_i (v := xs (i + 1)) (by rw [nI_clamp (by omega)]) ?_
  refine lv_aload_n hx hb dL_law_490 rfl (lv_at hl 3 rfl) ?_
  refine mu_calli (wr := rW cI cZ ad w h d rs) (vx_runSW (As := [.ref x, .int (xs (i + 1)), .ref ou]) (rest := []) ⟨hx, hb, hml, hown, hts⟩ (w_valueOf l hlt D cI cJ cZ w h x ou ax d cs O (xs (i + 1)) H.size hd GG C) (vx_cwSW 3 hts gL_law_L_valueOf rfl rfl rfl (by decide +kernel) ⟨Nat.le_of_ble_eq_true rfl, Nat.le_of_ble_eq_true rfl⟩) ⟨YPc.blind, YPc.at (hP.sub [0, 1, 2, 3, 4, 5, 6, 7, 8, 9, 10, 11, 12, 13, 14] rfl) (hD.sub [0, 1, 2, 3, 4, 5, 6, 7, 8, 9, 10, 11, 12, 13, 14] (by decide) rfl) hK hN hT (TwZ.later hZ hS) hc0⟩ rfl rfl hl.1 rfl (lv_room (Nat.le_of_ble_eq_true rfl)) dL_law_491 ⟨hcl, hsl⟩) hP hD hS hA [0, 1, 2, 3, 4, 5, 6, 7, 8, 9, 10, 11, 12, 13, 14] [15, 16, 17, 18, 19, 20, 21, 22, 23, 24, 25, 26, 27, 28] rfl rfl (by decide) (by decide) (fun r1 u1 H locs hw hP hD hS => ?_)
  obtain ⟨rfl, C1, ho⟩ := hw
  have hP : va_P D vwCl (cW cI cJ w h x ax ou ((oValueOf w h d (xs (i + 1))).2.1) u1.1 u1.2 ++ rW cI cZ ad w h d rs) H := hP.sub [14, 15, 16, 17, 18, 19, 20, 21, 22, 23, 24, 25, 26, 27, 28, 0, 1, 2, 3, 4, 5, 6, 7, 8, 9, 10, 11, 12, 13] rfl
  have hD : va_D (fun q : Nat => s.heap.size ≤ q) (cW cI cJ w h x ax ou ((oValueOf w h d (xs (i + 1))).2.1) u1.1 u1.2 ++ rW cI cZ ad w h d rs) := hD.sub [14, 15, 16, 17, 18, 19, 20, 21, 22, 23, 24, 25, 26, 27, 28, 0, 1, 2, 3, 4, 5, 6, 7, 8, 9, 10, 11, 12, 13] (by decide) rfl
  refine lv_istore (lv' := [(5, .int (nI ((oValueOf w h d (xs (i + 1))).1))), (0, .ref b), (1, .ref x), (2, .ref (ad 0)), (3, .ref ou), (4, .int (nI i))]) hx hb dL_law_494 hl (by decide) rfl (fun ls hl => ?_)
  refine lv_aload_n hx hb dL_law_496 rfl (lv_at hl 3 rfl) ?_
  refine lv_aload_n hx hb dL_law_497 rfl (lv_at hl 1 rfl) ?_
  refine lv_iload hx hb dL_law_498 (lv_at hl 5 rfl) ?_
  refine lv_iconst (v := nI 1) hx hb dL_law_500 (by decide) ?_
  refine n_iadd hx hb dL_law_501 ?_
  refine va_sld hx hb hX hbl hbA hS (vp_in_nI (n := i + 1) (N := L) (by omega) (by omega)) dL_law_502 ?_
  refine rt_i (v := xs (i + 1)) (by rw [nI_clamp (by omega)]) ?_
  refine mu_calli (wr := cW cI cJ w h x ax ou ((oValueOf w h d (xs (i + 1))).2.1) u1.1 u1.2) (va_runV (As := [.int (xs (i + 1))]) (rest := []) ⟨hx, hb, hml, hown, hts⟩ (r_valueOf l D cI cJ cZ ad w h d rs (xs (i + 1)) H.size hd GG K) (cwV 1 hts gL_law_X5_valueOf rfl rfl rfl (by decide +kernel) ⟨Nat.le_of_ble_eq_true rfl, Nat.le_of_ble_eq_true rfl⟩) ⟨MPc.blind, va_recv hK hP (ci := 5) (q0 := 15) rfl rfl, MPc.at (hP.sub [15, 16, 17, 18, 19, 20, 21, 22, 23, 24, 25, 26, 27, 28] rfl) (hD.sub [15, 16, 17, 18, 19, 20, 21, 22, 23, 24, 25, 26, 27, 28] (by decide) rfl) hK hN⟩ rfl rfl hl.1 rfl (lv_room (Nat.le_of_ble_eq_true rfl)) dL_law_503 ⟨by show _ ≤ 601024; omega, by show _ ≤ 7293000; omega⟩) hP hD hS hA [15, 16, 17, 18, 19, 20, 21, 22, 23, 24, 25, 26, 27, 28] [0, 1, 2, 3, 4, 5, 6, 7, 8, 9, 10, 11, 12, 13, 14] rfl rfl (by decide) (by decide) (fun r2 u2 H locs hw hP hD hS => ?_)
  obtain ⟨hv, ht, K2⟩ := hw
  have hP : va_P D vwCl (cW cI cJ w h x ax ou ((oValueOf w h d (xs (i + 1))).2.1) u1.1 u1.2 ++ rW cI cZ ad w h ((oValueOf w h d (xs (i + 1))).2.1) u2) H := hP
  have hD : va_D (fun q : Nat => s.heap.size ≤ q) (cW cI cJ w h x ax ou ((oValueOf w h d (xs (i + 1))).2.1) u1.1 u1.2 ++ rW cI cZ ad w h ((oValueOf w h d (xs (i + 1))).2.1) u2) := hD
  refine lv_istore (lv' := [(6, .int r2), (5, .int (nI ((oValueOf w h d (xs (i + 1))).1))), (0, .ref b), (1, .ref x), (2, .ref (ad 0)), (3, .ref ou), (4, .int (nI i))]) hx hb dL_law_506 hl (by decide) rfl (fun ls hl => ?_)
  refine lv_aload_n hx hb dL_law_508 rfl (lv_at hl 4 rfl) ?_
  refine mu_calli (wr := cW cI cJ w h x ax ou ((oValueOf w h d (xs (i + 1))).2.1) u1.1 u1.2) (va_runV (As := []) (rest := []) ⟨hx, hb, hml, hown, hts⟩ (r_thrown l D cI cJ cZ ad w h (oValueOf w h d (xs (i + 1))).2.1 u2 H.size) (cwV 0 hts gL_law_X5_thrown rfl rfl rfl (by decide +kernel) ⟨Nat.le_of_ble_eq_true rfl, Nat.le_of_ble_eq_true rfl⟩) ⟨MPc.blind, va_recv hK hP (ci := 5) (q0 := 15) rfl rfl, MPc.at (hP.sub [15, 16, 17, 18, 19, 20, 21, 22, 23, 24, 25, 26, 27, 28] rfl) (hD.sub [15, 16, 17, 18, 19, 20, 21, 22, 23, 24, 25, 26, 27, 28] (by decide) rfl) hK hN⟩ rfl rfl hl.1 rfl (lv_room (Nat.le_of_ble_eq_true rfl)) dL_law_509 ⟨by show _ ≤ 601024; omega, by show _ ≤ 7293000; omega⟩) hP hD hS hA [15, 16, 17, 18, 19, 20, 21, 22, 23, 24, 25, 26, 27, 28] [0, 1, 2, 3, 4, 5, 6, 7, 8, 9, 10, 11, 12, 13, 14] rfl rfl (by decide) (by decide) (fun r3 u3 H locs hw hP hD hS => ?_)
  obtain ⟨hu, rfl⟩ := hw
  rw [hu] at hP hD
  have hP : va_P D vwCl (cW cI cJ w h x ax ou ((oValueOf w h d (xs (i + 1))).2.1) u1.1 u1.2 ++ rW cI cZ ad w h ((oValueOf w h d (xs (i + 1))).2.1) u2) H := hP
  have hD : va_D (fun q : Nat => s.heap.size ≤ q) (cW cI cJ w h x ax ou ((oValueOf w h d (xs (i + 1))).2.1) u1.1 u1.2 ++ rW cI cZ ad w h ((oValueOf w h d (xs (i + 1))).2.1) u2) := hD
  refine rt_i (v := nI ((oValueOf w h d (xs (i + 1))).1)) (by rw [ht]) ?_
  refine lv_iload hx hb dL_law_512 (lv_at hl 1 rfl) ?_
  refine lv_icmp_eq (tgt := 519) hx hb dL_law_514 (by decide) (fun _ => ?_) (fun z => absurd rfl z)
  refine lv_iload hx hb dL_law_519 (lv_at hl 1 rfl) ?_
  refine lv_if_ne (tgt := 536) hx hb dL_law_521 (by decide) (fun z => ?_) (fun z => ?_)
  · skip
    refine lv_goto (tgt := 634) hx hb dL_law_536 (by decide) ?_
    exact kk ((oValueOf w h d (xs (i + 1))).2.1) u1.1 u2 u1.2 H locs ls ⟨(oValueOf_ok GG _), C1, K2, hP, hD, hS⟩ (lv_sub hl [2, 3, 4, 5, 6] rfl)
  have hz : (oValueOf w h d (xs (i + 1))).1 = 0 := by rw [← nI_0, nI_eq (Nat.lt_of_le_of_lt (oValueOf_le w h d _) (by decide)) (by decide)] at z; exact z
  refine lv_aload_n hx hb dL_law_524 rfl (lv_at hl 5 rfl) ?_
  refine lv_iconst (v := nI 0) hx hb dL_law_525 (by decide) ?_
  refine n_lald hx hb hK hP 0 1 rfl rfl (by omega) (by omega) dL_law_526 ?_
  refine lv_iload hx hb dL_law_527 (lv_at hl 0 rfl) ?_
  refine lv_i2l hx hb dL_law_529 rfl ?_
  refine W.lcmp hx hb dL_law_530 ?_
  refine l_if_eq (tgt := 536) hx hb dL_law_531 (by decide) (fun _ => ?_) (fun z => absurd (by rw [ho hz, hv hz]) z)
  refine lv_goto (tgt := 634) hx hb dL_law_536 (by decide) ?_
  exact kk ((oValueOf w h d (xs (i + 1))).2.1) u1.1 u2 u1.2 H locs ls ⟨(oValueOf_ok GG _), C1, K2, hP, hD, hS⟩ (lv_sub hl [2, 3, 4, 5, 6] rfl)

set_option maxHeartbeats 4000000 in
set_option maxRecDepth 100000 in
theorem k_best {p : Program} {e : Env} {s : State} {m : MethodId} {below : List Frame} {meth : Method} {cd : Code} {Q : State → Prop} (l : Launch) (hlt : l.stackTraces = false) {b L : Nat} {xs : Nat → Int32} {D : va_G} {cI cJ cZ : ClassId} {w h x ou : Nat} {ax ad : Nat → Nat} (E0 : LwC p s m meth cd b L xs D cI cJ cZ w h) {d : List Nat} {cs : CtS} {rs : RfS} {O : Nat → Int64} {i : Nat} {H : Heap} {locs : List Loc} {ls : Array Slot} {cells slots : Nat} (I0 : LwI s D cI cJ cZ w h x ou ax ad d cs rs O H locs) (hi : i + 2 < L) (hcl : cells + 1 ≤ 601024) (hsl : slots + 6 ≤ 7293000) (hl : lv_has ls 7 [(0, .ref b), (1, .ref x), (2, .ref (ad 0)), (3, .ref ou), (4, .int (nI i))]) (kk : ∀ (d : List Nat) (cs : CtS) (rs : RfS) (O : Nat → Int64) (H : Heap) (locs : List Loc) (ls : Array Slot), LwI s D cI cJ cZ w h x ou ax ad d cs rs O H locs → lv_has ls 7 [(0, .ref b), (1, .ref x), (2, .ref (ad 0)), (3, .ref ou), (4, .int (nI i))] → W p l e room_1 s m #[Value.ref b] below meth cd H locs (cells + 1) (slots + 6) Q (F0 m 634 ls [])) : W p l e room_1 s m #[Value.ref b] below meth cd H locs cells slots Q (F0 m 539 ls []) := by
  obtain ⟨hx, hb, hr, hml, hown, hts, hX, hbl, hlocks, hK, hN, hT, hZ, hc0, hd, hL⟩ := E0
  obtain ⟨GG, C, K, hP, hD, hS⟩ := I0
  have hA : ∀ q : Nat, s.heap.size ≤ q → (fun q : Nat => s.heap.size ≤ q) q := fun _ h => h
  have hbA : ¬ (fun q : Nat => s.heap.size ≤ q) b := Nat.not_le.mpr hbl
  have hht := gH_le GG
  have hn := (g_emp GG).1
  refine lv_aload_n hx hb dL_law_539 rfl (lv_at hl 1 rfl) ?_
  refine lv_aload_n hx hb dL_law_540 rfl (lv_at hl 3 rfl) ?_
  refine mu_calli (wr := rW cI cZ ad w h d rs) (vx_runSW (As := [.ref x, .ref ou]) (rest := []) ⟨hx, hb, hml, hown, hts⟩ (w_best l hlt D cI cJ cZ w h x ou ax d cs O  H.size hd GG C) (vx_cwSW 2 hts gL_law_L_best rfl rfl rfl (by decide +kernel) ⟨Nat.le_of_ble_eq_true rfl, Nat.le_of_ble_eq_true rfl⟩) ⟨YPc.blind, YPc.at (hP.sub [0, 1, 2, 3, 4, 5, 6, 7, 8, 9, 10, 11, 12, 13, 14] rfl) (hD.sub [0, 1, 2, 3, 4, 5, 6, 7, 8, 9, 10, 11, 12, 13, 14] (by decide) rfl) hK hN hT (TwZ.later hZ hS) hc0⟩ rfl rfl hl.1 rfl (lv_room (Nat.le_of_ble_eq_true rfl)) dL_law_541 ⟨hcl, hsl⟩) hP hD hS hA [0, 1, 2, 3, 4, 5, 6, 7, 8, 9, 10, 11, 12, 13, 14] [15, 16, 17, 18, 19, 20, 21, 22, 23, 24, 25, 26, 27, 28] rfl rfl (by decide) (by decide) (fun r1 u1 H locs hw hP hD hS => ?_)
  obtain ⟨rfl, C1, ho⟩ := hw
  have hP : va_P D vwCl (cW cI cJ w h x ax ou ((oBest w h d).2.1) u1.1 u1.2 ++ rW cI cZ ad w h d rs) H := hP.sub [14, 15, 16, 17, 18, 19, 20, 21, 22, 23, 24, 25, 26, 27, 28, 0, 1, 2, 3, 4, 5, 6, 7, 8, 9, 10, 11, 12, 13] rfl
  have hD : va_D (fun q : Nat => s.heap.size ≤ q) (cW cI cJ w h x ax ou ((oBest w h d).2.1) u1.1 u1.2 ++ rW cI cZ ad w h d rs) := hD.sub [14, 15, 16, 17, 18, 19, 20, 21, 22, 23, 24, 25, 26, 27, 28, 0, 1, 2, 3, 4, 5, 6, 7, 8, 9, 10, 11, 12, 13] (by decide) rfl
  refine lv_istore (lv' := [(5, .int (nI ((oBest w h d).1))), (0, .ref b), (1, .ref x), (2, .ref (ad 0)), (3, .ref ou), (4, .int (nI i))]) hx hb dL_law_544 hl (by decide) rfl (fun ls hl => ?_)
  refine lv_aload_n hx hb dL_law_546 rfl (lv_at hl 3 rfl) ?_
  refine mu_calli (wr := cW cI cJ w h x ax ou ((oBest w h d).2.1) u1.1 u1.2) (va_runV (As := []) (rest := []) ⟨hx, hb, hml, hown, hts⟩ (r_best l D cI cJ cZ ad w h d rs  H.size hd GG K) (cwV 0 hts gL_law_X5_best rfl rfl rfl (by decide +kernel) ⟨Nat.le_of_ble_eq_true rfl, Nat.le_of_ble_eq_true rfl⟩) ⟨MPc.blind, va_recv hK hP (ci := 5) (q0 := 15) rfl rfl, MPc.at (hP.sub [15, 16, 17, 18, 19, 20, 21, 22, 23, 24, 25, 26, 27, 28] rfl) (hD.sub [15, 16, 17, 18, 19, 20, 21, 22, 23, 24, 25, 26, 27, 28] (by decide) rfl) hK hN⟩ rfl rfl hl.1 rfl (lv_room (Nat.le_of_ble_eq_true rfl)) dL_law_547 ⟨by show _ ≤ 601024; omega, by show _ ≤ 7293000; omega⟩) hP hD hS hA [15, 16, 17, 18, 19, 20, 21, 22, 23, 24, 25, 26, 27, 28] [0, 1, 2, 3, 4, 5, 6, 7, 8, 9, 10, 11, 12, 13, 14] rfl rfl (by decide) (by decide) (fun r2 u2 H locs hw hP hD hS => ?_)
  obtain ⟨hv, ht, K2⟩ := hw
  have hP : va_P D vwCl (cW cI cJ w h x ax ou ((oBest w h d).2.1) u1.1 u1.2 ++ rW cI cZ ad w h ((oBest w h d).2.1) u2) H := hP
  have hD : va_D (fun q : Nat => s.heap.size ≤ q) (cW cI cJ w h x ax ou ((oBest w h d).2.1) u1.1 u1.2 ++ rW cI cZ ad w h ((oBest w h d).2.1) u2) := hD
  refine lv_istore (lv' := [(6, .int r2), (5, .int (nI ((oBest w h d).1))), (0, .ref b), (1, .ref x), (2, .ref (ad 0)), (3, .ref ou), (4, .int (nI i))]) hx hb dL_law_550 hl (by decide) rfl (fun ls hl => ?_)
  refine lv_aload_n hx hb dL_law_552 rfl (lv_at hl 4 rfl) ?_
  refine mu_calli (wr := cW cI cJ w h x ax ou ((oBest w h d).2.1) u1.1 u1.2) (va_runV (As := []) (rest := []) ⟨hx, hb, hml, hown, hts⟩ (r_thrown l D cI cJ cZ ad w h (oBest w h d).2.1 u2 H.size) (cwV 0 hts gL_law_X5_thrown rfl rfl rfl (by decide +kernel) ⟨Nat.le_of_ble_eq_true rfl, Nat.le_of_ble_eq_true rfl⟩) ⟨MPc.blind, va_recv hK hP (ci := 5) (q0 := 15) rfl rfl, MPc.at (hP.sub [15, 16, 17, 18, 19, 20, 21, 22, 23, 24, 25, 26, 27, 28] rfl) (hD.sub [15, 16, 17, 18, 19, 20, 21, 22, 23, 24, 25, 26, 27, 28] (by decide) rfl) hK hN⟩ rfl rfl hl.1 rfl (lv_room (Nat.le_of_ble_eq_true rfl)) dL_law_553 ⟨by show _ ≤ 601024; omega, by show _ ≤ 7293000; omega⟩) hP hD hS hA [15, 16, 17, 18, 19, 20, 21, 22, 23, 24, 25, 26, 27, 28] [0, 1, 2, 3, 4, 5, 6, 7, 8, 9, 10, 11, 12, 13, 14] rfl rfl (by decide) (by decide) (fun r3 u3 H locs hw hP hD hS => ?_)
  obtain ⟨hu, rfl⟩ := hw
  rw [hu] at hP hD
  have hP : va_P D vwCl (cW cI cJ w h x ax ou ((oBest w h d).2.1) u1.1 u1.2 ++ rW cI cZ ad w h ((oBest w h d).2.1) u2) H := hP
  have hD : va_D (fun q : Nat => s.heap.size ≤ q) (cW cI cJ w h x ax ou ((oBest w h d).2.1) u1.1 u1.2 ++ rW cI cZ ad w h ((oBest w h d).2.1) u2) := hD
  refine rt_i (v := nI ((oBest w h d).1)) (by rw [ht]) ?_
  refine lv_iload hx hb dL_law_556 (lv_at hl 1 rfl) ?_
  refine lv_icmp_eq (tgt := 563) hx hb dL_law_558 (by decide) (fun _ => ?_) (fun z => absurd rfl z)
  refine lv_iload hx hb dL_law_563 (lv_at hl 1 rfl) ?_
  refine lv_if_ne (tgt := 580) hx hb dL_law_565 (by decide) (fun z => ?_) (fun z => ?_)
  · skip
    refine lv_goto (tgt := 634) hx hb dL_law_580 (by decide) ?_
    exact kk ((oBest w h d).2.1) u1.1 u2 u1.2 H locs ls ⟨(oBest_ok GG), C1, K2, hP, hD, hS⟩ (lv_sub hl [2, 3, 4, 5, 6] rfl)
  have hz : (oBest w h d).1 = 0 := by rw [← nI_0, nI_eq (Nat.lt_of_le_of_lt (oBest_le w h d) (by decide)) (by decide)] at z; exact z
  refine lv_aload_n hx hb dL_law_568 rfl (lv_at hl 5 rfl) ?_
  refine lv_iconst (v := nI 0) hx hb dL_law_569 (by decide) ?_
  refine n_lald hx hb hK hP 0 1 rfl rfl (by omega) (by omega) dL_law_570 ?_
  refine lv_iload hx hb dL_law_571 (lv_at hl 0 rfl) ?_
  refine lv_i2l hx hb dL_law_573 rfl ?_
  refine W.lcmp hx hb dL_law_574 ?_
  refine l_if_eq (tgt := 580) hx hb dL_law_575 (by decide) (fun _ => ?_) (fun z => absurd (by rw [ho hz, hv hz]) z)
  refine lv_goto (tgt := 634) hx hb dL_law_580 (by decide) ?_
  exact kk ((oBest w h d).2.1) u1.1 u2 u1.2 H locs ls ⟨(oBest_ok GG), C1, K2, hP, hD, hS⟩ (lv_sub hl [2, 3, 4, 5, 6] rfl)

set_option maxHeartbeats 4000000 in
set_option maxRecDepth 100000 in
theorem k_beats {p : Program} {e : Env} {s : State} {m : MethodId} {below : List Frame} {meth : Method} {cd : Code} {Q : State → Prop} (l : Launch) (hlt : l.stackTraces = false) {b L : Nat} {xs : Nat → Int32} {D : va_G} {cI cJ cZ : ClassId} {w h x ou : Nat} {ax ad : Nat → Nat} (E0 : LwC p s m meth cd b L xs D cI cJ cZ w h) {d : List Nat} {cs : CtS} {rs : RfS} {O : Nat → Int64} {i : Nat} {H : Heap} {locs : List Loc} {ls : Array Slot} {cells slots : Nat} (I0 : LwI s D cI cJ cZ w h x ou ax ad d cs rs O H locs) (hi : i + 2 < L) (hcl : cells + 1 ≤ 601024) (hsl : slots + 6 ≤ 7293000) (hl : lv_has ls 7 [(0, .ref b), (1, .ref x), (2, .ref (ad 0)), (3, .ref ou), (4, .int (nI i))]) (kk : ∀ (d : List Nat) (cs : CtS) (rs : RfS) (O : Nat → Int64) (H : Heap) (locs : List Loc) (ls : Array Slot), LwI s D cI cJ cZ w h x ou ax ad d cs rs O H locs → lv_has ls 7 [(0, .ref b), (1, .ref x), (2, .ref (ad 0)), (3, .ref ou), (4, .int (nI i))] → W p l e room_1 s m #[Value.ref b] below meth cd H locs (cells + 1) (slots + 6) Q (F0 m 634 ls [])) : W p l e room_1 s m #[Value.ref b] below meth cd H locs cells slots Q (F0 m 583 ls []) := by
  obtain ⟨hx, hb, hr, hml, hown, hts, hX, hbl, hlocks, hK, hN, hT, hZ, hc0, hd, hL⟩ := E0
  obtain ⟨GG, C, K, hP, hD, hS⟩ := I0
  have hA : ∀ q : Nat, s.heap.size ≤ q → (fun q : Nat => s.heap.size ≤ q) q := fun _ h => h
  have hbA : ¬ (fun q : Nat => s.heap.size ≤ q) b := Nat.not_le.mpr hbl
  have hht := gH_le GG
  have hn := (g_emp GG).1
  refine lv_aload_n hx hb dL_law_583 rfl (lv_at hl 1 rfl) ?_
  refine lv_aload_n hx hb dL_law_584 rfl (lv_at hl 3 rfl) ?_
  refine mu_calli (wr := rW cI cZ ad w h d rs) (vx_runSW (As := [.ref x, .ref ou]) (rest := []) ⟨hx, hb, hml, hown, hts⟩ (w_beats l hlt D cI cJ cZ w h x ou ax d cs O  H.size hd GG C) (vx_cwSW 2 hts gL_law_L_beats rfl rfl rfl (by decide +kernel) ⟨Nat.le_of_ble_eq_true rfl, Nat.le_of_ble_eq_true rfl⟩) ⟨YPc.blind, YPc.at (hP.sub [0, 1, 2, 3, 4, 5, 6, 7, 8, 9, 10, 11, 12, 13, 14] rfl) (hD.sub [0, 1, 2, 3, 4, 5, 6, 7, 8, 9, 10, 11, 12, 13, 14] (by decide) rfl) hK hN hT (TwZ.later hZ hS) hc0⟩ rfl rfl hl.1 rfl (lv_room (Nat.le_of_ble_eq_true rfl)) dL_law_585 ⟨hcl, hsl⟩) hP hD hS hA [0, 1, 2, 3, 4, 5, 6, 7, 8, 9, 10, 11, 12, 13, 14] [15, 16, 17, 18, 19, 20, 21, 22, 23, 24, 25, 26, 27, 28] rfl rfl (by decide) (by decide) (fun r1 u1 H locs hw hP hD hS => ?_)
  obtain ⟨rfl, C1, ho⟩ := hw
  have hP : va_P D vwCl (cW cI cJ w h x ax ou ((oBeats w h d).2.1) u1.1 u1.2 ++ rW cI cZ ad w h d rs) H := hP.sub [14, 15, 16, 17, 18, 19, 20, 21, 22, 23, 24, 25, 26, 27, 28, 0, 1, 2, 3, 4, 5, 6, 7, 8, 9, 10, 11, 12, 13] rfl
  have hD : va_D (fun q : Nat => s.heap.size ≤ q) (cW cI cJ w h x ax ou ((oBeats w h d).2.1) u1.1 u1.2 ++ rW cI cZ ad w h d rs) := hD.sub [14, 15, 16, 17, 18, 19, 20, 21, 22, 23, 24, 25, 26, 27, 28, 0, 1, 2, 3, 4, 5, 6, 7, 8, 9, 10, 11, 12, 13] (by decide) rfl
  refine lv_istore (lv' := [(5, .int (nI ((oBeats w h d).1))), (0, .ref b), (1, .ref x), (2, .ref (ad 0)), (3, .ref ou), (4, .int (nI i))]) hx hb dL_law_588 hl (by decide) rfl (fun ls hl => ?_)
  refine lv_aload_n hx hb dL_law_590 rfl (lv_at hl 3 rfl) ?_
  refine mu_calli (wr := cW cI cJ w h x ax ou ((oBeats w h d).2.1) u1.1 u1.2) (va_runV (As := []) (rest := []) ⟨hx, hb, hml, hown, hts⟩ (r_beats l D cI cJ cZ ad w h d rs  H.size hd GG K) (cwV 0 hts gL_law_X5_beats rfl rfl rfl (by decide +kernel) ⟨Nat.le_of_ble_eq_true rfl, Nat.le_of_ble_eq_true rfl⟩) ⟨MPc.blind, va_recv hK hP (ci := 5) (q0 := 15) rfl rfl, MPc.at (hP.sub [15, 16, 17, 18, 19, 20, 21, 22, 23, 24, 25, 26, 27, 28] rfl) (hD.sub [15, 16, 17, 18, 19, 20, 21, 22, 23, 24, 25, 26, 27, 28] (by decide) rfl) hK hN⟩ rfl rfl hl.1 rfl (lv_room (Nat.le_of_ble_eq_true rfl)) dL_law_591 ⟨by show _ ≤ 601024; omega, by show _ ≤ 7293000; omega⟩) hP hD hS hA [15, 16, 17, 18, 19, 20, 21, 22, 23, 24, 25, 26, 27, 28] [0, 1, 2, 3, 4, 5, 6, 7, 8, 9, 10, 11, 12, 13, 14] rfl rfl (by decide) (by decide) (fun r2 u2 H locs hw hP hD hS => ?_)
  obtain ⟨hv, ht, K2⟩ := hw
  have hP : va_P D vwCl (cW cI cJ w h x ax ou ((oBeats w h d).2.1) u1.1 u1.2 ++ rW cI cZ ad w h ((oBeats w h d).2.1) u2) H := hP
  have hD : va_D (fun q : Nat => s.heap.size ≤ q) (cW cI cJ w h x ax ou ((oBeats w h d).2.1) u1.1 u1.2 ++ rW cI cZ ad w h ((oBeats w h d).2.1) u2) := hD
  refine lv_istore (lv' := [(6, .int r2), (5, .int (nI ((oBeats w h d).1))), (0, .ref b), (1, .ref x), (2, .ref (ad 0)), (3, .ref ou), (4, .int (nI i))]) hx hb dL_law_594 hl (by decide) rfl (fun ls hl => ?_)
  refine lv_aload_n hx hb dL_law_596 rfl (lv_at hl 4 rfl) ?_
  refine mu_calli (wr := cW cI cJ w h x ax ou ((oBeats w h d).2.1) u1.1 u1.2) (va_runV (As := []) (rest := []) ⟨hx, hb, hml, hown, hts⟩ (r_thrown l D cI cJ cZ ad w h (oBeats w h d).2.1 u2 H.size) (cwV 0 hts gL_law_X5_thrown rfl rfl rfl (by decide +kernel) ⟨Nat.le_of_ble_eq_true rfl, Nat.le_of_ble_eq_true rfl⟩) ⟨MPc.blind, va_recv hK hP (ci := 5) (q0 := 15) rfl rfl, MPc.at (hP.sub [15, 16, 17, 18, 19, 20, 21, 22, 23, 24, 25, 26, 27, 28] rfl) (hD.sub [15, 16, 17, 18, 19, 20, 21, 22, 23, 24, 25, 26, 27, 28] (by decide) rfl) hK hN⟩ rfl rfl hl.1 rfl (lv_room (Nat.le_of_ble_eq_true rfl)) dL_law_597 ⟨by show _ ≤ 601024; omega, by show _ ≤ 7293000; omega⟩) hP hD hS hA [15, 16, 17, 18, 19, 20, 21, 22, 23, 24, 25, 26, 27, 28] [0, 1, 2, 3, 4, 5, 6, 7, 8, 9, 10, 11, 12, 13, 14] rfl rfl (by decide) (by decide) (fun r3 u3 H locs hw hP hD hS => ?_)
  obtain ⟨hu, rfl⟩ := hw
  rw [hu] at hP hD
  have hP : va_P D vwCl (cW cI cJ w h x ax ou ((oBeats w h d).2.1) u1.1 u1.2 ++ rW cI cZ ad w h ((oBeats w h d).2.1) u2) H := hP
  have hD : va_D (fun q : Nat => s.heap.size ≤ q) (cW cI cJ w h x ax ou ((oBeats w h d).2.1) u1.1 u1.2 ++ rW cI cZ ad w h ((oBeats w h d).2.1) u2) := hD
  refine rt_i (v := nI ((oBeats w h d).1)) (by rw [ht]) ?_
  refine lv_iload hx hb dL_law_600 (lv_at hl 1 rfl) ?_
  refine lv_icmp_eq (tgt := 607) hx hb dL_law_602 (by decide) (fun _ => ?_) (fun z => absurd rfl z)
  refine lv_iload hx hb dL_law_607 (lv_at hl 1 rfl) ?_
  refine lv_if_ne (tgt := 631) hx hb dL_law_609 (by decide) (fun z => ?_) (fun z => ?_)
  · skip
    refine lv_goto (tgt := 634) hx hb dL_law_631 (by decide) ?_
    exact kk ((oBeats w h d).2.1) u1.1 u2 u1.2 H locs ls ⟨(oBeats_ok GG), C1, K2, hP, hD, hS⟩ (lv_sub hl [2, 3, 4, 5, 6] rfl)
  have hz : (oBeats w h d).1 = 0 := by rw [← nI_0, nI_eq (Nat.lt_of_le_of_lt (oBeats_le w h d) (by decide)) (by decide)] at z; exact z
  refine lv_aload_n hx hb dL_law_612 rfl (lv_at hl 5 rfl) ?_
  refine lv_iconst (v := nI 0) hx hb dL_law_613 (by decide) ?_
  refine n_lald hx hb hK hP 0 1 rfl rfl (by omega) (by omega) dL_law_614 ?_
  refine lv_iload hx hb dL_law_615 (lv_at hl 0 rfl) ?_
  refine rt_i (v := bI (btB w h (gB d) (gH d) d.length)) (by rw [hv hz]; exact oBeats_v hz) ?_
  have ho2 := ho hz
  rw [oBeats_v hz] at ho2
  refine b_if_eq (tgt := 624) hx hb dL_law_617 (by decide) (fun z9 => ?_) (fun z9 => ?_)
  · rw [z9] at ho2
    refine lv_lconst (v := 0) hx hb dL_law_624 (by decide) ?_
    refine W.lcmp hx hb dL_law_625 ?_
    refine l_if_eq (tgt := 631) hx hb dL_law_626 (by decide) (fun _ => ?_) (fun z => absurd (by rw [ho2]; rfl) z)
    refine lv_goto (tgt := 634) hx hb dL_law_631 (by decide) ?_
    exact kk ((oBeats w h d).2.1) u1.1 u2 u1.2 H locs ls ⟨(oBeats_ok GG), C1, K2, hP, hD, hS⟩ (lv_sub hl [2, 3, 4, 5, 6] rfl)
  · rw [z9] at ho2
    refine lv_lconst (v := 1) hx hb dL_law_620 (by decide) ?_
    refine lv_goto (tgt := 625) hx hb dL_law_621 (by decide) ?_
    refine W.lcmp hx hb dL_law_625 ?_
    refine l_if_eq (tgt := 631) hx hb dL_law_626 (by decide) (fun _ => ?_) (fun z => absurd (by rw [ho2]; rfl) z)
    refine lv_goto (tgt := 634) hx hb dL_law_631 (by decide) ?_
    exact kk ((oBeats w h d).2.1) u1.1 u2 u1.2 H locs ls ⟨(oBeats_ok GG), C1, K2, hP, hD, hS⟩ (lv_sub hl [2, 3, 4, 5, 6] rfl)

set_option maxHeartbeats 4000000 in
set_option maxRecDepth 100000 in
theorem k_turn {p : Program} {e : Env} {s : State} {m : MethodId} {below : List Frame} {meth : Method} {cd : Code} {Q : State → Prop} (l : Launch) (hlt : l.stackTraces = false) {b L : Nat} {xs : Nat → Int32} {D : va_G} {cI cJ cZ : ClassId} {w h x ou : Nat} {ax ad : Nat → Nat} (E0 : LwC p s m meth cd b L xs D cI cJ cZ w h) {d : List Nat} {cs : CtS} {rs : RfS} {O : Nat → Int64} {i : Nat} {H : Heap} {locs : List Loc} {ls : Array Slot} {cells slots : Nat} (I0 : LwI s D cI cJ cZ w h x ou ax ad d cs rs O H locs) (hi : i + 2 < L) (hcl : cells + 1 ≤ 601024) (hsl : slots + 6 ≤ 7293000) (hl : lv_has ls 7 [(0, .ref b), (1, .ref x), (2, .ref (ad 0)), (3, .ref ou), (4, .int (nI i))]) (kk : ∀ (d : List Nat) (cs : CtS) (rs : RfS) (O : Nat → Int64) (H : Heap) (locs : List Loc) (ls : Array Slot), LwI s D cI cJ cZ w h x ou ax ad d cs rs O H locs → lv_has ls 7 [(0, .ref b), (1, .ref x), (2, .ref (ad 0)), (3, .ref ou), (4, .int (nI i))] → W p l e room_1 s m #[Value.ref b] below meth cd H locs (cells + 1) (slots + 6) Q (F0 m 634 ls [])) : W p l e room_1 s m #[Value.ref b] below meth cd H locs cells slots Q (F0 m 220 ls []) := by
  obtain ⟨hx, hb, hr, hml, hown, hts, hX, hbl, hlocks, hK, hN, hT, hZ, hc0, hd, hL⟩ := E0
  obtain ⟨GG, C, K, hP, hD, hS⟩ := I0
  have hA : ∀ q : Nat, s.heap.size ≤ q → (fun q : Nat => s.heap.size ≤ q) q := fun _ h => h
  have hbA : ¬ (fun q : Nat => s.heap.size ≤ q) b := Nat.not_le.mpr hbl
  have hht := gH_le GG
  have hn := (g_emp GG).1
  refine lv_aload_n hx hb dL_law_220 rfl (lv_at hl 1 rfl) ?_
  refine ro_call (W.runV (As := []) (rest := []) ⟨hx, hb, hml, hown, hts⟩ (c_turn l D cI cJ cZ w h x (ax 1) (ax 2) (ax 3) (ax 4) (ax 5) (ax 6) (ax 7) (ax 8) cs.1 (gH d) cs.2.1 d.length hd hht hn) (cwV 0 hts gL_law_X4_turn rfl rfl rfl (by decide +kernel) ⟨Nat.le_of_ble_eq_true rfl, Nat.le_of_ble_eq_true rfl⟩) ⟨RPc.blind, va_recv hK hP (ci := 4) (q0 := 1) rfl rfl, (RPc.at (hP.sub [1, 2, 3, 4, 5, 6, 7] rfl) hK hN)⟩ rfl rfl hl.1 rfl (lv_room (Nat.le_of_ble_eq_true rfl)) dL_law_221 ⟨by show _ ≤ 601024; omega, by show _ ≤ 7293000; omega⟩) ?_
  refine lv_aload_n hx hb dL_law_224 rfl (lv_at hl 2 rfl) ?_
  refine mu_calli (wr := cW cI cJ w h x ax ou d cs O) (va_runV (As := []) (rest := [.int (nI (d.length % 2))]) ⟨hx, hb, hml, hown, hts⟩ (r_turn l D cI cJ cZ ad w h d rs  H.size hd GG K) (cwV 0 hts gL_law_X5_turn rfl rfl rfl (by decide +kernel) ⟨Nat.le_of_ble_eq_true rfl, Nat.le_of_ble_eq_true rfl⟩) ⟨MPc.blind, va_recv hK hP (ci := 5) (q0 := 15) rfl rfl, MPc.at (hP.sub [15, 16, 17, 18, 19, 20, 21, 22, 23, 24, 25, 26, 27, 28] rfl) (hD.sub [15, 16, 17, 18, 19, 20, 21, 22, 23, 24, 25, 26, 27, 28] (by decide) rfl) hK hN⟩ rfl rfl hl.1 rfl (lv_room (Nat.le_of_ble_eq_true rfl)) dL_law_225 ⟨by show _ ≤ 601024; omega, by show _ ≤ 7293000; omega⟩) hP hD hS hA [15, 16, 17, 18, 19, 20, 21, 22, 23, 24, 25, 26, 27, 28] [0, 1, 2, 3, 4, 5, 6, 7, 8, 9, 10, 11, 12, 13, 14] rfl rfl (by decide) (by decide) (fun r2 u2 H locs hw hP hD hS => ?_)
  obtain ⟨hv, ht, K2⟩ := hw
  have hP : va_P D vwCl (cW cI cJ w h x ax ou d cs O ++ rW cI cZ ad w h d u2) H := hP
  have hD : va_D (fun q : Nat => s.heap.size ≤ q) (cW cI cJ w h x ax ou d cs O ++ rW cI cZ ad w h d u2) := hD
  refine lv_icmp_eq (tgt := 634) hx hb dL_law_228 (by decide) (fun _ => ?_) (fun z => absurd (by rw [hv rfl]) z)
  refine W.widen (k := cells + 1) (n := slots + 6) (by omega) (by omega) ?_
  exact kk d cs u2 O H locs ls ⟨GG, C, K2, hP, hD, hS⟩ (lv_sub hl [0, 1, 2, 3, 4] rfl)

set_option maxHeartbeats 4000000 in
set_option maxRecDepth 100000 in
theorem k_winner {p : Program} {e : Env} {s : State} {m : MethodId} {below : List Frame} {meth : Method} {cd : Code} {Q : State → Prop} (l : Launch) (hlt : l.stackTraces = false) {b L : Nat} {xs : Nat → Int32} {D : va_G} {cI cJ cZ : ClassId} {w h x ou : Nat} {ax ad : Nat → Nat} (E0 : LwC p s m meth cd b L xs D cI cJ cZ w h) {d : List Nat} {cs : CtS} {rs : RfS} {O : Nat → Int64} {i : Nat} {H : Heap} {locs : List Loc} {ls : Array Slot} {cells slots : Nat} (I0 : LwI s D cI cJ cZ w h x ou ax ad d cs rs O H locs) (hi : i + 2 < L) (hcl : cells + 1 ≤ 601024) (hsl : slots + 6 ≤ 7293000) (hl : lv_has ls 7 [(0, .ref b), (1, .ref x), (2, .ref (ad 0)), (3, .ref ou), (4, .int (nI i))]) (kk : ∀ (d : List Nat) (cs : CtS) (rs : RfS) (O : Nat → Int64) (H : Heap) (locs : List Loc) (ls : Array Slot), LwI s D cI cJ cZ w h x ou ax ad d cs rs O H locs → lv_has ls 7 [(0, .ref b), (1, .ref x), (2, .ref (ad 0)), (3, .ref ou), (4, .int (nI i))] → W p l e room_1 s m #[Value.ref b] below meth cd H locs (cells + 1) (slots + 6) Q (F0 m 634 ls [])) : W p l e room_1 s m #[Value.ref b] below meth cd H locs cells slots Q (F0 m 233 ls []) := by
  obtain ⟨hx, hb, hr, hml, hown, hts, hX, hbl, hlocks, hK, hN, hT, hZ, hc0, hd, hL⟩ := E0
  obtain ⟨GG, C, K, hP, hD, hS⟩ := I0
  have hA : ∀ q : Nat, s.heap.size ≤ q → (fun q : Nat => s.heap.size ≤ q) q := fun _ h => h
  have hbA : ¬ (fun q : Nat => s.heap.size ≤ q) b := Nat.not_le.mpr hbl
  have hht := gH_le GG
  have hn := (g_emp GG).1
  refine lv_aload_n hx hb dL_law_233 rfl (lv_at hl 1 rfl) ?_
  refine ro_call (W.runV (As := []) (rest := []) ⟨hx, hb, hml, hown, hts⟩ (c_winner l D cI cJ cZ w h x (ax 1) (ax 2) (ax 3) (ax 4) (ax 5) (ax 6) (ax 7) (ax 8) cs.1 (gH d) cs.2.1 d.length hd hht hn) (cwV 0 hts gL_law_X4_winner rfl rfl rfl (by decide +kernel) ⟨Nat.le_of_ble_eq_true rfl, Nat.le_of_ble_eq_true rfl⟩) ⟨RPc.blind, va_recv hK hP (ci := 4) (q0 := 1) rfl rfl, (RPc.at (hP.sub [1, 2, 3, 4, 5, 6, 7] rfl) hK hN)⟩ rfl rfl hl.1 rfl (lv_room (Nat.le_of_ble_eq_true rfl)) dL_law_234 ⟨by show _ ≤ 601024; omega, by show _ ≤ 7293000; omega⟩) ?_
  refine lv_aload_n hx hb dL_law_237 rfl (lv_at hl 2 rfl) ?_
  refine mu_calli (wr := cW cI cJ w h x ax ou d cs O) (va_runV (As := []) (rest := [.int (wnI w h cs.1 d.length)]) ⟨hx, hb, hml, hown, hts⟩ (r_winner l D cI cJ cZ ad w h d rs  H.size hd GG K) (cwV 0 hts gL_law_X5_winner rfl rfl rfl (by decide +kernel) ⟨Nat.le_of_ble_eq_true rfl, Nat.le_of_ble_eq_true rfl⟩) ⟨MPc.blind, va_recv hK hP (ci := 5) (q0 := 15) rfl rfl, MPc.at (hP.sub [15, 16, 17, 18, 19, 20, 21, 22, 23, 24, 25, 26, 27, 28] rfl) (hD.sub [15, 16, 17, 18, 19, 20, 21, 22, 23, 24, 25, 26, 27, 28] (by decide) rfl) hK hN⟩ rfl rfl hl.1 rfl (lv_room (Nat.le_of_ble_eq_true rfl)) dL_law_238 ⟨by show _ ≤ 601024; omega, by show _ ≤ 7293000; omega⟩) hP hD hS hA [15, 16, 17, 18, 19, 20, 21, 22, 23, 24, 25, 26, 27, 28] [0, 1, 2, 3, 4, 5, 6, 7, 8, 9, 10, 11, 12, 13, 14] rfl rfl (by decide) (by decide) (fun r2 u2 H locs hw hP hD hS => ?_)
  obtain ⟨hv, ht, K2⟩ := hw
  have hP : va_P D vwCl (cW cI cJ w h x ax ou d cs O ++ rW cI cZ ad w h d u2) H := hP
  have hD : va_D (fun q : Nat => s.heap.size ≤ q) (cW cI cJ w h x ax ou d cs O ++ rW cI cZ ad w h d u2) := hD
  refine lv_icmp_eq (tgt := 634) hx hb dL_law_241 (by decide) (fun _ => ?_) (fun z => absurd (by rw [hv rfl]; exact wn_class hd GG C.1) z)
  refine W.widen (k := cells + 1) (n := slots + 6) (by omega) (by omega) ?_
  exact kk d cs u2 O H locs ls ⟨GG, C, K2, hP, hD, hS⟩ (lv_sub hl [0, 1, 2, 3, 4] rfl)

set_option maxHeartbeats 4000000 in
set_option maxRecDepth 100000 in
theorem k_empty {p : Program} {e : Env} {s : State} {m : MethodId} {below : List Frame} {meth : Method} {cd : Code} {Q : State → Prop} (l : Launch) (hlt : l.stackTraces = false) {b L : Nat} {xs : Nat → Int32} {D : va_G} {cI cJ cZ : ClassId} {w h x ou : Nat} {ax ad : Nat → Nat} (E0 : LwC p s m meth cd b L xs D cI cJ cZ w h) {d : List Nat} {cs : CtS} {rs : RfS} {O : Nat → Int64} {i : Nat} {H : Heap} {locs : List Loc} {ls : Array Slot} {cells slots : Nat} (I0 : LwI s D cI cJ cZ w h x ou ax ad d cs rs O H locs) (hi : i + 2 < L) (hcl : cells + 1 ≤ 601024) (hsl : slots + 6 ≤ 7293000) (hl : lv_has ls 7 [(0, .ref b), (1, .ref x), (2, .ref (ad 0)), (3, .ref ou), (4, .int (nI i))]) (kk : ∀ (d : List Nat) (cs : CtS) (rs : RfS) (O : Nat → Int64) (H : Heap) (locs : List Loc) (ls : Array Slot), LwI s D cI cJ cZ w h x ou ax ad d cs rs O H locs → lv_has ls 7 [(0, .ref b), (1, .ref x), (2, .ref (ad 0)), (3, .ref ou), (4, .int (nI i))] → W p l e room_1 s m #[Value.ref b] below meth cd H locs (cells + 1) (slots + 6) Q (F0 m 634 ls [])) : W p l e room_1 s m #[Value.ref b] below meth cd H locs cells slots Q (F0 m 314 ls []) := by
  obtain ⟨hx, hb, hr, hml, hown, hts, hX, hbl, hlocks, hK, hN, hT, hZ, hc0, hd, hL⟩ := E0
  obtain ⟨GG, C, K, hP, hD, hS⟩ := I0
  have hA : ∀ q : Nat, s.heap.size ≤ q → (fun q : Nat => s.heap.size ≤ q) q := fun _ h => h
  have hbA : ¬ (fun q : Nat => s.heap.size ≤ q) b := Nat.not_le.mpr hbl
  have hht := gH_le GG
  have hn := (g_emp GG).1
  refine lv_aload_n hx hb dL_law_314 rfl (lv_at hl 1 rfl) ?_
  refine ro_call (W.runV (As := []) (rest := []) ⟨hx, hb, hml, hown, hts⟩ (c_empty l D cI cJ cZ w h x (ax 1) (ax 2) (ax 3) (ax 4) (ax 5) (ax 6) (ax 7) (ax 8) cs.1 (gH d) cs.2.1 d.length hd hht hn) (cwV 0 hts gL_law_X4_empty rfl rfl rfl (by decide +kernel) ⟨Nat.le_of_ble_eq_true rfl, Nat.le_of_ble_eq_true rfl⟩) ⟨RPc.blind, va_recv hK hP (ci := 4) (q0 := 1) rfl rfl, (RPc.at (hP.sub [1, 2, 3, 4, 5, 6, 7] rfl) hK hN)⟩ rfl rfl hl.1 rfl (lv_room (Nat.le_of_ble_eq_true rfl)) dL_law_315 ⟨by show _ ≤ 601024; omega, by show _ ≤ 7293000; omega⟩) ?_
  refine lv_aload_n hx hb dL_law_318 rfl (lv_at hl 2 rfl) ?_
  refine mu_calli (wr := cW cI cJ w h x ax ou d cs O) (va_runV (As := []) (rest := [.int (nI (w * h - d.length))]) ⟨hx, hb, hml, hown, hts⟩ (r_empty l D cI cJ cZ ad w h d rs  H.size hd GG K) (cwV 0 hts gL_law_X5_empty rfl rfl rfl (by decide +kernel) ⟨Nat.le_of_ble_eq_true rfl, Nat.le_of_ble_eq_true rfl⟩) ⟨MPc.blind, va_recv hK hP (ci := 5) (q0 := 15) rfl rfl, MPc.at (hP.sub [15, 16, 17, 18, 19, 20, 21, 22, 23, 24, 25, 26, 27, 28] rfl) (hD.sub [15, 16, 17, 18, 19, 20, 21, 22, 23, 24, 25, 26, 27, 28] (by decide) rfl) hK hN⟩ rfl rfl hl.1 rfl (lv_room (Nat.le_of_ble_eq_true rfl)) dL_law_319 ⟨by show _ ≤ 601024; omega, by show _ ≤ 7293000; omega⟩) hP hD hS hA [15, 16, 17, 18, 19, 20, 21, 22, 23, 24, 25, 26, 27, 28] [0, 1, 2, 3, 4, 5, 6, 7, 8, 9, 10, 11, 12, 13, 14] rfl rfl (by decide) (by decide) (fun r2 u2 H locs hw hP hD hS => ?_)
  obtain ⟨hv, ht, K2⟩ := hw
  have hP : va_P D vwCl (cW cI cJ w h x ax ou d cs O ++ rW cI cZ ad w h d u2) H := hP
  have hD : va_D (fun q : Nat => s.heap.size ≤ q) (cW cI cJ w h x ax ou d cs O ++ rW cI cZ ad w h d u2) := hD
  refine lv_icmp_eq (tgt := 634) hx hb dL_law_322 (by decide) (fun _ => ?_) (fun z => absurd (by rw [hv rfl]) z)
  refine W.widen (k := cells + 1) (n := slots + 6) (by omega) (by omega) ?_
  exact kk d cs u2 O H locs ls ⟨GG, C, K2, hP, hD, hS⟩ (lv_sub hl [0, 1, 2, 3, 4] rfl)
