set_option maxHeartbeats 4000000 in
set_option maxRecDepth 100000 in
theorem c_keep (l : Launch) (D : va_G) (cI cJ cZ : ClassId) (me ks le mo : Nat) (K : Nat → Int64) (lf mf : Nat → Int32) (k : Int64) (a b : Int32) (sz : Nat) : Met l yX2_keep wsX2_keep (k2_rm 1 21) (MPc D [.ref me, .long k, .int a, .int b] (mW cI cJ me ks le mo K lf mf) (tyA cI cJ cZ) sz) (mQv D (fun _ : Unit => True) (fun _ => (mW cI cJ me ks le mo (vp_updL K (slN k) k) (upd lf (slN k) a) (upd mf (slN k) b))) (va_A (mW cI cJ me ks le mo K lf mf) sz)) 0 0 (va_A (mW cI cJ me ks le mo K lf mf) sz) := by
  refine mu_head (Qc := fun A => mQv D (fun _ : Unit => True) (fun _ => (mW cI cJ me ks le mo (vp_updL K (slN k) k) (upd lf (slN k) a) (upd mf (slN k) b))) A) (cc := cX2_keep) (maxL := 6) (ret := none) (by decide) rfl (Nat.le_of_ble_eq_true rfl) ?_
  intro p e s m below meth cd ls A hx hb hr hlocks hnm hts hown hml hA hP hK hD hN hS hl
  have hl : lv_has ls 6 [(0, .ref me), (1, .long k), (3, .int a), (4, .int b)] := hl
  refine lv_lload_n hx hb dX2_keep_0 rfl (lv_at hl 1 rfl) ?_
  refine ro_call (W.runS (As := [.long k]) (rest := []) ⟨hx, hb, hml, hown, hts⟩ (c_slotOf l D cI cJ cZ k) (va_cwS 1 hts gX2_keep_X2_slotOf rfl rfl rfl (by decide +kernel) ⟨Nat.le_of_ble_eq_true rfl, Nat.le_of_ble_eq_true rfl⟩) ⟨RPc.blind, (RPc.at (hP.sub [] rfl) hK hN)⟩ rfl rfl hl.1 rfl (lv_room (Nat.le_of_ble_eq_true rfl)) dX2_keep_1 ⟨Nat.zero_le _, Nat.zero_le _⟩) ?_
  refine lv_istore (lv' := [(5, .int (nI (slN k))), (0, .ref me), (1, .long k), (3, .int a), (4, .int b)]) hx hb dX2_keep_4 hl (by decide) rfl (fun ls hl => ?_)
  refine lv_aload_n hx hb dX2_keep_6 rfl (lv_at hl 1 rfl) ?_
  refine va_get (C := RX2) (T := TX2) (N := 3) hx hb hts (by decide +kernel) hown hK hP 0 rfl rfl 0 (by decide) (hts (.fieldLink RX2 9 RX2 "keys" "[J") (by decide +kernel)) (fun _ h9 => h9) rfl dX2_keep_7 ?_
  refine lv_iload hx hb dX2_keep_10 (lv_at hl 0 rfl) ?_
  refine lv_lload_n hx hb dX2_keep_12 rfl (lv_at hl 2 rfl) ?_
  refine n_lastR hx hb hK hP hD hS 1 1 rfl rfl (slN_lt k) (by decide) dX2_keep_13 (fun H locs hP hD hS => ?_)
  have hP : va_P D vwCl [(me, .inr (2, [.ref ks, .ref le, .ref mo])), (ks, .inl (cJ, 1024, .inr (.inl (vp_updL K (slN k) k)))), (le, .inl (cI, 1024, .inl lf)), (mo, .inl (cI, 1024, .inl mf))] H := hP
  have hD : va_D A [(me, .inr (2, [.ref ks, .ref le, .ref mo])), (ks, .inl (cJ, 1024, .inr (.inl (vp_updL K (slN k) k)))), (le, .inl (cI, 1024, .inl lf)), (mo, .inl (cI, 1024, .inl mf))] := hD
  refine lv_aload_n hx hb dX2_keep_14 rfl (lv_at hl 1 rfl) ?_
  refine va_get (C := RX2) (T := TX2) (N := 3) hx hb hts (by decide +kernel) hown hK hP 0 rfl rfl 1 (by decide) (hts (.fieldLink RX2 13 RX2 "least" "[I") (by decide +kernel)) (fun _ h9 => h9) rfl dX2_keep_15 ?_
  refine lv_iload hx hb dX2_keep_18 (lv_at hl 0 rfl) ?_
  refine lv_iload_n hx hb dX2_keep_20 rfl (lv_at hl 3 rfl) ?_
  refine n_iastR hx hb hK hP hD hS 2 0 rfl rfl (slN_lt k) (by decide) dX2_keep_21 (fun H locs hP hD hS => ?_)
  have hP : va_P D vwCl [(me, .inr (2, [.ref ks, .ref le, .ref mo])), (ks, .inl (cJ, 1024, .inr (.inl (vp_updL K (slN k) k)))), (le, .inl (cI, 1024, .inl (upd lf (slN k) a))), (mo, .inl (cI, 1024, .inl mf))] H := hP
  have hD : va_D A [(me, .inr (2, [.ref ks, .ref le, .ref mo])), (ks, .inl (cJ, 1024, .inr (.inl (vp_updL K (slN k) k)))), (le, .inl (cI, 1024, .inl (upd lf (slN k) a))), (mo, .inl (cI, 1024, .inl mf))] := hD
  refine lv_aload_n hx hb dX2_keep_22 rfl (lv_at hl 1 rfl) ?_
  refine va_get (C := RX2) (T := TX2) (N := 3) hx hb hts (by decide +kernel) hown hK hP 0 rfl rfl 2 (by decide) (hts (.fieldLink RX2 17 RX2 "most" "[I") (by decide +kernel)) (fun _ h9 => h9) rfl dX2_keep_23 ?_
  refine lv_iload hx hb dX2_keep_26 (lv_at hl 0 rfl) ?_
  refine lv_iload hx hb dX2_keep_28 (lv_at hl 4 rfl) ?_
  refine n_iastR hx hb hK hP hD hS 3 0 rfl rfl (slN_lt k) (by decide) dX2_keep_30 (fun H locs hP hD hS => ?_)
  have hP : va_P D vwCl [(me, .inr (2, [.ref ks, .ref le, .ref mo])), (ks, .inl (cJ, 1024, .inr (.inl (vp_updL K (slN k) k)))), (le, .inl (cI, 1024, .inl (upd lf (slN k) a))), (mo, .inl (cI, 1024, .inl (upd mf (slN k) b)))] H := hP
  have hD : va_D A [(me, .inr (2, [.ref ks, .ref le, .ref mo])), (ks, .inl (cJ, 1024, .inr (.inl (vp_updL K (slN k) k)))), (le, .inl (cI, 1024, .inl (upd lf (slN k) a))), (mo, .inl (cI, 1024, .inl (upd mf (slN k) b)))] := hD
  exact mu_vret (S := Unit) hx hb hr hlocks () trivial hP hD hS dX2_keep_31
abbrev seU (cI cJ : ClassId) (w h se mi g st cs me ks le mo : Nat) (u : Mem) : va_W := seW cI cJ w h se mi g st cs me ks le mo u.1 u.2.1 u.2.2
/-- the contract of Search.score at depth d -/
def ScoreMet (l : Launch) (D : va_G) (cI cJ cZ : ClassId) (w h se mi g st cs me ks le mo d : Nat) : Prop := ∀ (u : Mem) (k : Nat) (tp : Nat → Nat) (M T : Sq) (mm tt : Int64) (low high : Int) (sz : Nat), k ≤ d → Pos w h k tp M T mm tt → low ≤ high → -200 ≤ low → high ≤ 200 → MemOK w h u →
  Met l yX3_score wsX3_score (k2_rm (3 * d + 4) (104 * d + 300)) (MPc D [.ref se, .long mm, .long tt, .int (nI k), .int (zI low), .int (zI high)] (seU cI cJ w h se mi g st cs me ks le mo u) (tyA cI cJ cZ) sz)
    (mQi D (fun r (v : Mem) => MemOK w h v ∧ ∃ z : Int, r = zI z ∧ scPost (Sc w h k tp M T) low high z ∧ -200 ≤ z ∧ z ≤ 200) (fun v => seU cI cJ w h se mi g st cs me ks le mo v) (va_A (seU cI cJ w h se mi g st cs me ks le mo u) sz)) 0 0 (va_A (seU cI cJ w h se mi g st cs me ks le mo u) sz)
def TriedMet (l : Launch) (D : va_G) (cI cJ cZ : ClassId) (w h se mi g st cs me ks le mo d : Nat) : Prop := ∀ (u : Mem) (k : Nat) (tp : Nat → Nat) (M T : Sq) (mm tt : Int64) (fr to : Int) (sz : Nat), k ≤ d → Pos w h (k + 1) tp M T mm tt → (∀ c, ¬ winsAt w h tp M c) → ¬ mvL w h mm tt = 0 → fr ≤ to → -200 ≤ fr → to ≤ 200 → MemOK w h u →
  Met l yX3_tried wsX3_tried (k2_rm (3 * d + 5) (104 * d + 333)) (MPc D [.ref se, .long mm, .long tt, .long (mvL w h mm tt), .int (nI (k + 1)), .int (zI fr), .int (zI to)] (seU cI cJ w h se mi g st cs me ks le mo u) (tyA cI cJ cZ) sz)
    (mQi D (fun r (v : Mem) => MemOK w h v ∧ r = zI (min (max fr (Sc w h (k + 1) tp M T)) to)) (fun v => seU cI cJ w h se mi g st cs me ks le mo v) (va_A (seU cI cJ w h se mi g st cs me ks le mo u) sz)) 0 0 (va_A (seU cI cJ w h se mi g st cs me ks le mo u) sz)
def RemMet (l : Launch) (D : va_G) (cI cJ cZ : ClassId) (w h se mi g st cs me ks le mo d : Nat) : Prop := ∀ (u : Mem) (k : Nat) (tp : Nat → Nat) (M T : Sq) (mm tt : Int64) (low high : Int) (sz : Nat), k ≤ d → 2 ≤ k → Pos w h (k + 1) tp M T mm tt → (∀ c, ¬ winsAt w h tp M c) → ¬ mvL w h mm tt = 0 → low ≤ high → -200 ≤ low → high ≤ 200 → MemOK w h u →
  Met l yX3_remembered wsX3_remembered (k2_rm (3 * d + 6) (104 * d + 367)) (MPc D [.ref se, .long mm, .long tt, .long (mvL w h mm tt), .int (nI (k + 1)), .int (zI low), .int (zI high)] (seU cI cJ w h se mi g st cs me ks le mo u) (tyA cI cJ cZ) sz)
    (mQi D (fun r (v : Mem) => MemOK w h v ∧ ∃ z : Int, r = zI z ∧ scPost (Sc w h (k + 1) tp M T) low high z ∧ -200 ≤ z ∧ z ≤ 200) (fun v => seU cI cJ w h se mi g st cs me ks le mo v) (va_A (seU cI cJ w h se mi g st cs me ks le mo u) sz)) 0 0 (va_A (seU cI cJ w h se mi g st cs me ks le mo u) sz)
theorem sq_nz {w h c r : Nat} (hd : Dm w h) (hc : c < w) (hr : r < h) : ¬ sqL h c r = 0 := by
  refine bit_nz (i := ix h c r) ?_
  rw [(Rep.sq hd hc hr).1 c r (Nat.le_of_lt hr)]
  simp
theorem tried_step {w h k : Nat} {tp : Nat → Nat} {M T : Sq} {mm tt : Int64} {fr to fd z S : Int} {i : Nat} {v1 : Mem} (hf : fd = pb w h k tp M T mm tt fr i) (hok : okc w h tp mm tt (mid w i) = true) (hMv : Mv w h k tp M T (mid w i) = -S) (hz : scPost S (-to) (-fd) z) (hm : MemOK w h v1) (h1 : fr ≤ fd) (h2 : fd < to) (h3 : to ≤ 200) (h4 : -200 ≤ z) :
    MemOK w h v1 ∧ fr ≤ max fd (-z) ∧ max fd (-z) ≤ 200 ∧ (max fd (-z) < to → max fd (-z) = pb w h k tp M T mm tt fr (i + 1)) ∧ (to ≤ max fd (-z) → to ≤ pb w h k tp M T mm tt fr (i + 1)) := by
  rw [pb_succ, if_pos hok, ← hf, hMv]
  unfold scPost at hz
  refine ⟨hm, by omega, by omega, fun q => ?_, fun q => ?_⟩ <;> omega
theorem tried_end {w h k : Nat} (hd : Dm w h) {tp : Nat → Nat} {M T : Sq} {mm tt : Int64} (H : Pos w h (k + 1) tp M T mm tt) (hn : ∀ c, ¬ winsAt w h tp M c) (hm : ¬ mvL w h mm tt = 0) {fr to fd : Int} {i : Nat} (hft : fr ≤ to) (hi : i ≤ w) (h1 : fr ≤ fd) (h2 : fd < to → fd = pb w h k tp M T mm tt fr i) (h3 : to ≤ fd → to ≤ pb w h k tp M T mm tt fr i) (h4 : i = w ∨ to ≤ fd) :
    zI (min fd to) = zI (min (max fr (Sc w h (k + 1) tp M T)) to) := by
  have e := pb_end hd H hn hm fr
  have mo := pb_mono (w := w) (h := h) (k := k) (tp := tp) (M := M) (T := T) (m := mm) (t := tt) (from_ := fr) hi
  congr 1
  rcases h4 with rfl | q
  · by_cases q : fd < to
    · have := h2 q; omega
    · have := h3 (by omega); omega
  · have := h3 q; omega
set_option maxHeartbeats 4000000 in
set_option maxRecDepth 100000 in
theorem c_tried (l : Launch) (D : va_G) (cI cJ cZ : ClassId) (w h se mi g st cs me ks le mo d : Nat) (hd : Dm w h) (hSc : ScoreMet l D cI cJ cZ w h se mi g st cs me ks le mo d) : TriedMet l D cI cJ cZ w h se mi g st cs me ks le mo d := by
  intro u k tp M T mm tt fr to sz hkd hpos hnw hmv hft hfr hto hmem
  have hd0 := hd
  obtain ⟨h3w, hw9, h3h, hh7, hwh, h64⟩ := hd0
  refine mu_head (Qc := fun A => mQi D (fun r (v : Mem) => MemOK w h v ∧ r = zI (min (max fr (Sc w h (k + 1) tp M T)) to)) (fun v => seU cI cJ w h se mi g st cs me ks le mo v) A) (cc := cX3_tried) (maxL := 15) (ret := (some .int)) (by decide) rfl (Nat.le_of_ble_eq_true rfl) ?_
  intro p e s m below meth cd ls A hx hb hr hlocks hnm hts hown hml hA hP hK hD hN hS hl
  have hl : lv_has ls 15 [(0, .ref se), (1, .long mm), (3, .long tt), (5, .long (mvL w h mm tt)), (7, .int (nI (k + 1))), (8, .int (zI fr)), (9, .int (zI to))] := hl
  refine lv_iload hx hb dX3_tried_0 (lv_at hl 5 rfl) ?_
  refine lv_istore (lv' := [(10, .int (zI fr)), (0, .ref se), (1, .long mm), (3, .long tt), (5, .long (mvL w h mm tt)), (7, .int (nI (k + 1))), (8, .int (zI fr)), (9, .int (zI to))]) hx hb dX3_tried_2 hl (by decide) rfl (fun ls hl => ?_)
  refine lv_iconst (v := nI 0) hx hb dX3_tried_4 (by decide) ?_
  refine lv_istore (lv' := [(11, .int (nI 0)), (10, .int (zI fr)), (0, .ref se), (1, .long mm), (3, .long tt), (5, .long (mvL w h mm tt)), (7, .int (nI (k + 1))), (8, .int (zI fr)), (9, .int (zI to))]) hx hb dX3_tried_5 hl (by decide) rfl (fun ls hl => ?_)
  refine loopH (σ := Int × Mem) (m := m) (Wf := fun H locs g => W p l e _ s m _ below meth cd H locs _ _ _ g) 7 15 (fun i qx => [(0, .ref se), (1, .long mm), (3, .long tt), (5, .long (mvL w h mm tt)), (7, .int (nI (k + 1))), (8, .int (zI fr)), (9, .int (zI to)), (11, .int (nI i)), (10, .int (zI qx.1))]) (fun i qx => seU cI cJ w h se mi g st cs me ks le mo (qx.2)) (fun i qx => MemOK w h qx.2 ∧ fr ≤ qx.1 ∧ qx.1 ≤ 200 ∧ (qx.1 < to → qx.1 = pb w h k tp M T mm tt fr i) ∧ (to ≤ qx.1 → to ≤ pb w h k tp M T mm tt fr i)) w ?_ ?_ 0 (fr, u) ls _ _ (by omega) ⟨hmem, Int.le_refl _, by omega, fun _ => rfl, fun q => q⟩ hP hD hS (lv_sub hl [2, 3, 4, 5, 6, 7, 8, 0, 1] rfl)
  · intro i qx ls H locs hi_7 hI_7 hP hD hS hl ih_7
    obtain ⟨fd, v⟩ := qx
    have hl : lv_has ls 15 [(0, .ref se), (1, .long mm), (3, .long tt), (5, .long (mvL w h mm tt)), (7, .int (nI (k + 1))), (8, .int (zI fr)), (9, .int (zI to)), (11, .int (nI i)), (10, .int (zI fd))] := hl
    have hP : va_P D vwCl (seU cI cJ w h se mi g st cs me ks le mo v) H := hP
    have hD : va_D A (seU cI cJ w h se mi g st cs me ks le mo v) := hD
    have hI_7 : MemOK w h v ∧ fr ≤ fd ∧ fd ≤ 200 ∧ (fd < to → fd = pb w h k tp M T mm tt fr i) ∧ (to ≤ fd → to ≤ pb w h k tp M T mm tt fr i) := hI_7
    obtain ⟨hm_7, hf1_7, hf2_7, hf3_7, hf4_7⟩ := hI_7
    have hc_7 := mid_lt w (by omega) h3w i hi_7
    refine lv_iload hx hb dX3_tried_7 (lv_at hl 7 rfl) ?_
    refine lv_aload_n hx hb dX3_tried_9 rfl (lv_at hl 0 rfl) ?_
    refine va_get (C := RX3) (T := TX3) (N := 3) hx hb hts (by decide +kernel) hown hK hP 0 rfl rfl 0 (by decide) (hts (.fieldLink RX3 16 RX3 "grid" "LDropFour$Grid;") (by decide +kernel)) (fun _ h9 => h9) rfl dX3_tried_10 ?_
    refine va_getN (C := RX1) (T := TX1) (N := 6) hx hb hts (by decide +kernel) hown hK hP 2 rfl rfl 0 (by decide) (hN.use 4 rfl rfl) (fun _ h9 => h9) rfl dX3_tried_13 ?_
    refine n_icmp_ge (tgt := 82) hx hb dX3_tried_16 (by decide) (by omega) (by omega) (fun c16_1 => ?_) (fun c16_1 => ?_)
    · exact absurd c16_1 (by omega)
    refine lv_iload hx hb dX3_tried_19 (lv_at hl 8 rfl) ?_
    refine lv_iload hx hb dX3_tried_21 (lv_at hl 6 rfl) ?_
    refine z_icmp_ge (tgt := 82) hx hb dX3_tried_23 (by decide) (by unfold zB; omega) (by unfold zB; omega) (fun c23_2 => ?_) (fun c23_2 => ?_)
    · skip
      refine lv_iload hx hb dX3_tried_82 (lv_at hl 8 rfl) ?_
      refine lv_iload hx hb dX3_tried_84 (lv_at hl 6 rfl) ?_
      refine va_mmin hx hb (by rw [hml]; exact hl.1.symm) hown (hts (.methodLink RX3 83 Lib.Math.min.name) (by decide +kernel)) (hts (.static Lib.Math.min.name) (by decide +kernel)) (hts (.initialized "java/lang/Math") (by decide +kernel)) (hts (.code Lib.Math.min.name Lib.Math.min.code 2 (some .int)) (by decide +kernel)) (Nat.le_of_ble_eq_true rfl) (Nat.le_of_ble_eq_true rfl) (Nat.zero_le _) (Nat.zero_le _) dX3_tried_86 ?_
      refine rt_i (v := zI (min fd to)) (by rw [show zI fd = zI fd from rfl, show zI to = zI to from rfl]; exact zI_min (by unfold zB; omega) (by unfold zB; omega)) ?_
      exact mu_iret (S := Mem) hx hb hr hlocks v ⟨hI_7.1, tried_end hd hpos hnw hmv hft (by omega) hI_7.2.1 hI_7.2.2.2.1 hI_7.2.2.2.2 (by omega)⟩ hP hD hS dX3_tried_89
    refine lv_lload hx hb dX3_tried_26 (lv_at hl 3 rfl) ?_
    refine lv_aload_n hx hb dX3_tried_28 rfl (lv_at hl 0 rfl) ?_
    refine va_get (C := RX3) (T := TX3) (N := 3) hx hb hts (by decide +kernel) hown hK hP 0 rfl rfl 2 (by decide) (hts (.fieldLink RX3 26 RX3 "middleFirst" "[J") (by decide +kernel)) (fun _ h9 => h9) rfl dX3_tried_29 ?_
    refine lv_iload hx hb dX3_tried_32 (lv_at hl 7 rfl) ?_
    refine n_lald hx hb hK hP 1 1 rfl rfl (by omega) (by omega) dX3_tried_34 ?_
    refine lv_land hx hb dX3_tried_35 ?_
    refine lv_lstore (lv' := [(12, .long ((mvL w h mm tt) &&& (colL h (mid w i)))), (0, .ref se), (1, .long mm), (3, .long tt), (5, .long (mvL w h mm tt)), (7, .int (nI (k + 1))), (8, .int (zI fr)), (9, .int (zI to)), (11, .int (nI i)), (10, .int (zI fd))]) hx hb dX3_tried_36 hl (by decide) rfl (fun ls hl => ?_)
    refine lv_lload hx hb dX3_tried_38 (lv_at hl 0 rfl) ?_
    refine lv_lconst (v := 0) hx hb dX3_tried_40 (by decide) ?_
    refine W.lcmp hx hb dX3_tried_41 ?_
    refine l_if_eq (tgt := 76) hx hb dX3_tried_42 (by decide) (fun c42_3 => ?_) (fun c42_3 => ?_)
    · skip
      have hno_7 : okc w h tp mm tt (mid w i) = false := by
        cases q : okc w h tp mm tt (mid w i)
        · rfl
        · exact absurd c42_3 (by rw [(hpos.mv hd hc_7).1 q]; exact sq_nz hd hc_7 ((hpos.ok hd hc_7).mp q).1)
      refine n_iinc (n := 1) (lv' := [(11, .int (nI (i + 1))), (12, .long ((mvL w h mm tt) &&& (colL h (mid w i)))), (0, .ref se), (1, .long mm), (3, .long tt), (5, .long (mvL w h mm tt)), (7, .int (nI (k + 1))), (8, .int (zI fr)), (9, .int (zI to)), (10, .int (zI fd))]) hx hb dX3_tried_76 hl (k := 8) rfl (by decide) rfl (fun ls hl => ?_)
      refine lv_goto (tgt := 7) hx hb dX3_tried_79 (by decide) ?_
      exact ih_7 (fd, v) ls _ _ ⟨hm_7, hf1_7, hf2_7, fun q => by rw [pb_succ, hno_7, if_neg (by decide)]; exact hf3_7 q, fun q => by rw [pb_succ, hno_7, if_neg (by decide)]; exact hf4_7 q⟩ hP hD hS (lv_sub hl [2, 3, 4, 5, 6, 7, 8, 0, 9] rfl)
    have hok_7 : okc w h tp mm tt (mid w i) = true := by
      cases q : okc w h tp mm tt (mid w i)
      · exact absurd ((hpos.mv hd hc_7).2 q) c42_3
      · rfl
    have hmv_7 := (hpos.mv hd hc_7).1 hok_7
    have hlt_7 := ((hpos.ok hd hc_7).mp hok_7).1
    have hl_7 : ¬ hasL w h (sq_put M (mid w i) (tp (mid w i))) := fun q => hnw _ ⟨hc_7, hlt_7, q⟩
    have hch_7 : Pos w h k (tp_inc tp (mid w i)) T (sq_put M (mid w i) (tp (mid w i))) tt (mm ||| (mvL w h mm tt &&& colL h (mid w i))) := ⟨hpos.2.1, by rw [hmv_7]; exact hpos.1.put hd hc_7 hlt_7, hpos.2.2.child hc_7 hlt_7 hl_7⟩
    refine lv_aload_n hx hb dX3_tried_45 rfl (lv_at hl 1 rfl) ?_
    refine lv_lload_n hx hb dX3_tried_46 rfl (lv_at hl 3 rfl) ?_
    refine lv_lload_n hx hb dX3_tried_47 rfl (lv_at hl 2 rfl) ?_
    refine lv_lload hx hb dX3_tried_48 (lv_at hl 0 rfl) ?_
    refine lv_lor hx hb dX3_tried_50 ?_
    refine lv_iload hx hb dX3_tried_51 (lv_at hl 5 rfl) ?_
    refine lv_iconst (v := nI 1) hx hb dX3_tried_53 (by decide) ?_
    refine n_isub hx hb dX3_tried_54 (by omega) ?_
    refine rt_i (v := nI k) (by rw [Nat.add_sub_cancel]) ?_
    refine lv_iload hx hb dX3_tried_55 (lv_at hl 7 rfl) ?_
    refine z_ineg hx hb dX3_tried_57 ?_
    refine lv_iload hx hb dX3_tried_58 (lv_at hl 9 rfl) ?_
    refine z_ineg hx hb dX3_tried_60 ?_
    refine mu_calli (wr := []) (va_runV (As := [.long tt, .long (mm ||| ((mvL w h mm tt) &&& (colL h (mid w i)))), .int (nI k), .int (zI (-to)), .int (zI (-fd))]) (rest := []) ⟨hx, hb, hml, hown, hts⟩ (hSc v k (tp_inc tp (mid w i)) T (sq_put M (mid w i) (tp (mid w i))) tt (mm ||| (mvL w h mm tt &&& colL h (mid w i))) (-to) (-fd) H.size hkd hch_7 (by omega) (by omega) (by omega) hm_7) (cwV 5 hts gX3_tried_X3_score rfl rfl rfl (by decide +kernel) ⟨by simp only [k2_rm]; omega, by simp only [k2_rm]; omega⟩) ⟨MPc.blind, va_recv hK hP (ci := 3) (q0 := 0) rfl rfl, (MPc.at (hP.sub [0, 1, 2, 3, 4, 5, 6, 7, 8] rfl) (hD.sub [0, 1, 2, 3, 4, 5, 6, 7, 8] (by decide) rfl) hK hN)⟩ rfl rfl hl.1 rfl (lv_room (Nat.le_of_ble_eq_true rfl)) dX3_tried_61 ⟨Nat.zero_le _, Nat.zero_le _⟩) hP hD hS hA [0, 1, 2, 3, 4, 5, 6, 7, 8] [] rfl rfl (by decide) (by decide) (fun rr v1 H locs hw hP hD hS => ?_)
    obtain ⟨hm1, z, rfl, hz, hz1, hz2⟩ := hw
    have hMv : Mv w h k tp M T (mid w i) = -(Sc w h k (tp_inc tp (mid w i)) T (sq_put M (mid w i) (tp (mid w i)))) := Mv_go hl_7
    refine z_ineg hx hb dX3_tried_64 ?_
    refine lv_istore (lv' := [(14, .int (zI (-z))), (12, .long ((mvL w h mm tt) &&& (colL h (mid w i)))), (0, .ref se), (1, .long mm), (3, .long tt), (5, .long (mvL w h mm tt)), (7, .int (nI (k + 1))), (8, .int (zI fr)), (9, .int (zI to)), (11, .int (nI i)), (10, .int (zI fd))]) hx hb dX3_tried_65 hl (by decide) rfl (fun ls hl => ?_)
    refine lv_iload hx hb dX3_tried_67 (lv_at hl 10 rfl) ?_
    refine lv_iload hx hb dX3_tried_69 (lv_at hl 0 rfl) ?_
    refine va_mmax hx hb (by rw [hml]; exact hl.1.symm) hown (hts (.methodLink RX3 77 Lib.Math.max.name) (by decide +kernel)) (hts (.static Lib.Math.max.name) (by decide +kernel)) (hts (.initialized "java/lang/Math") (by decide +kernel)) (hts (.code Lib.Math.max.name Lib.Math.max.code 2 (some .int)) (by decide +kernel)) (Nat.le_of_ble_eq_true rfl) (Nat.le_of_ble_eq_true rfl) (Nat.zero_le _) (Nat.zero_le _) dX3_tried_71 ?_
    refine rt_i (v := zI (max fd (-z))) (by rw [show zI fd = zI fd from rfl, show zI (-z) = zI (-z) from rfl]; exact zI_max (by unfold zB; omega) (by unfold zB; omega)) ?_
    refine lv_istore (lv' := [(10, .int (zI (max fd (-z)))), (14, .int (zI (-z))), (12, .long ((mvL w h mm tt) &&& (colL h (mid w i)))), (0, .ref se), (1, .long mm), (3, .long tt), (5, .long (mvL w h mm tt)), (7, .int (nI (k + 1))), (8, .int (zI fr)), (9, .int (zI to)), (11, .int (nI i))]) hx hb dX3_tried_74 hl (by decide) rfl (fun ls hl => ?_)
    refine n_iinc (n := 1) (lv' := [(11, .int (nI (i + 1))), (10, .int (zI (max fd (-z)))), (14, .int (zI (-z))), (12, .long ((mvL w h mm tt) &&& (colL h (mid w i)))), (0, .ref se), (1, .long mm), (3, .long tt), (5, .long (mvL w h mm tt)), (7, .int (nI (k + 1))), (8, .int (zI fr)), (9, .int (zI to))]) hx hb dX3_tried_76 hl (k := 10) rfl (by decide) rfl (fun ls hl => ?_)
    refine lv_goto (tgt := 7) hx hb dX3_tried_79 (by decide) ?_
    exact ih_7 (max fd (-z), v1) ls _ _ (tried_step (hf3_7 (by omega)) hok_7 hMv hz hm1 hf1_7 (by omega) (by omega) (by omega)) hP hD hS (lv_sub hl [4, 5, 6, 7, 8, 9, 10, 0, 1] rfl)
  · intro qx ls H locs hI_7 hP hD hS hl
    obtain ⟨fd, v⟩ := qx
    have hl : lv_has ls 15 [(0, .ref se), (1, .long mm), (3, .long tt), (5, .long (mvL w h mm tt)), (7, .int (nI (k + 1))), (8, .int (zI fr)), (9, .int (zI to)), (11, .int (nI w)), (10, .int (zI fd))] := hl
    have hP : va_P D vwCl (seU cI cJ w h se mi g st cs me ks le mo v) H := hP
    have hD : va_D A (seU cI cJ w h se mi g st cs me ks le mo v) := hD
    have hI_7 : MemOK w h v ∧ fr ≤ fd ∧ fd ≤ 200 ∧ (fd < to → fd = pb w h k tp M T mm tt fr w) ∧ (to ≤ fd → to ≤ pb w h k tp M T mm tt fr w) := hI_7
    refine lv_iload hx hb dX3_tried_7 (lv_at hl 7 rfl) ?_
    refine lv_aload_n hx hb dX3_tried_9 rfl (lv_at hl 0 rfl) ?_
    refine va_get (C := RX3) (T := TX3) (N := 3) hx hb hts (by decide +kernel) hown hK hP 0 rfl rfl 0 (by decide) (hts (.fieldLink RX3 16 RX3 "grid" "LDropFour$Grid;") (by decide +kernel)) (fun _ h9 => h9) rfl dX3_tried_10 ?_
    refine va_getN (C := RX1) (T := TX1) (N := 6) hx hb hts (by decide +kernel) hown hK hP 2 rfl rfl 0 (by decide) (hN.use 4 rfl rfl) (fun _ h9 => h9) rfl dX3_tried_13 ?_
    refine n_icmp_ge (tgt := 82) hx hb dX3_tried_16 (by decide) (by omega) (by omega) (fun c16_4 => ?_) (fun c16_4 => ?_)
    · skip
      refine lv_iload hx hb dX3_tried_82 (lv_at hl 8 rfl) ?_
      refine lv_iload hx hb dX3_tried_84 (lv_at hl 6 rfl) ?_
      refine va_mmin hx hb (by rw [hml]; exact hl.1.symm) hown (hts (.methodLink RX3 83 Lib.Math.min.name) (by decide +kernel)) (hts (.static Lib.Math.min.name) (by decide +kernel)) (hts (.initialized "java/lang/Math") (by decide +kernel)) (hts (.code Lib.Math.min.name Lib.Math.min.code 2 (some .int)) (by decide +kernel)) (Nat.le_of_ble_eq_true rfl) (Nat.le_of_ble_eq_true rfl) (Nat.zero_le _) (Nat.zero_le _) dX3_tried_86 ?_
      refine rt_i (v := zI (min fd to)) (by rw [show zI fd = zI fd from rfl, show zI to = zI to from rfl]; exact zI_min (by unfold zB; omega) (by unfold zB; omega)) ?_
      exact mu_iret (S := Mem) hx hb hr hlocks v ⟨hI_7.1, tried_end hd hpos hnw hmv hft (by omega) hI_7.2.1 hI_7.2.2.2.1 hI_7.2.2.2.2 (by omega)⟩ hP hD hS dX3_tried_89
    · exact absurd c16_4 (by omega)

set_option maxHeartbeats 4000000 in
set_option maxRecDepth 100000 in
theorem c_remembered (l : Launch) (D : va_G) (cI cJ cZ : ClassId) (w h se mi g st cs me ks le mo d : Nat) (hd : Dm w h) (hTr : TriedMet l D cI cJ cZ w h se mi g st cs me ks le mo d) : RemMet l D cI cJ cZ w h se mi g st cs me ks le mo d := by
  intro u k tp M T mm tt low high sz hkd h2k hpos hnw hmv hlh hlo hhi hmem
  have hd0 := hd
  obtain ⟨h3w, hw9, h3h, hh7, hwh, h64⟩ := hd0
  have hkb : k + 1 ≤ 63 := by have h1 := hpos.2.2.2.2.2.2.2; have h2 := emp_le (h := h) (tp := tp) w; omega
  have hSb := Sc_bd w h (k + 1) tp M T
  refine mu_head (Qc := fun A => mQi D (fun r (v : Mem) => MemOK w h v ∧ ∃ z : Int, r = zI z ∧ scPost (Sc w h (k + 1) tp M T) low high z ∧ -200 ≤ z ∧ z ≤ 200) (fun v => seU cI cJ w h se mi g st cs me ks le mo v) A) (cc := cX3_remembered) (maxL := 18) (ret := (some .int)) (by decide) rfl (Nat.le_of_ble_eq_true rfl) ?_
  intro p e s m below meth cd ls A hx hb hr hlocks hnm hts hown hml hA hP hK hD hN hS hl
  have hl : lv_has ls 18 [(0, .ref se), (1, .long mm), (3, .long tt), (5, .long (mvL w h mm tt)), (7, .int (nI (k + 1))), (8, .int (zI low)), (9, .int (zI high))] := hl
  refine lv_lload_n hx hb dX3_remembered_0 rfl (lv_at hl 1 rfl) ?_
  refine lv_lload_n hx hb dX3_remembered_1 rfl (lv_at hl 2 rfl) ?_
  refine lv_lor hx hb dX3_remembered_2 ?_
  refine lv_aload_n hx hb dX3_remembered_3 rfl (lv_at hl 0 rfl) ?_
  refine va_get (C := RX3) (T := TX3) (N := 3) hx hb hts (by decide +kernel) hown hK hP 0 rfl rfl 0 (by decide) (hts (.fieldLink RX3 16 RX3 "grid" "LDropFour$Grid;") (by decide +kernel)) (fun _ h9 => h9) rfl dX3_remembered_4 ?_
  refine va_getN (C := RX1) (T := TX1) (N := 6) hx hb hts (by decide +kernel) hown hK hP 2 rfl rfl 3 (by decide) (hN.use 6 rfl rfl) (fun _ h9 => h9) rfl dX3_remembered_7 ?_
  refine lv_ladd hx hb dX3_remembered_10 ?_
  refine lv_lload_n hx hb dX3_remembered_11 rfl (lv_at hl 1 rfl) ?_
  refine lv_lor hx hb dX3_remembered_12 ?_
  refine rt_l (v := keyL w h mm tt) rfl ?_
  refine lv_lstore (lv' := [(10, .long (keyL w h mm tt)), (0, .ref se), (1, .long mm), (3, .long tt), (5, .long (mvL w h mm tt)), (7, .int (nI (k + 1))), (8, .int (zI low)), (9, .int (zI high))]) hx hb dX3_remembered_13 hl (by decide) rfl (fun ls hl => ?_)
  refine lv_aload_n hx hb dX3_remembered_15 rfl (lv_at hl 1 rfl) ?_
  refine va_get (C := RX3) (T := TX3) (N := 3) hx hb hts (by decide +kernel) hown hK hP 0 rfl rfl 1 (by decide) (hts (.fieldLink RX3 10 RX3 "memory" "LDropFour$Memory;") (by decide +kernel)) (fun _ h9 => h9) rfl dX3_remembered_16 ?_
  refine lv_lload hx hb dX3_remembered_19 (lv_at hl 0 rfl) ?_
  refine ro_call (W.runV (As := [.long (keyL w h mm tt)]) (rest := []) ⟨hx, hb, hml, hown, hts⟩ (c_holds l D cI cJ cZ me ks le mo u.1 u.2.1 u.2.2 (keyL w h mm tt)) (cwV 1 hts gX3_remembered_X2_holds rfl rfl rfl (by decide +kernel) ⟨Nat.le_of_ble_eq_true rfl, Nat.le_of_ble_eq_true rfl⟩) ⟨RPc.blind, va_recv hK hP (ci := 2) (q0 := 5) rfl rfl, (RPc.at (hP.sub [5, 6, 7, 8] rfl) hK hN)⟩ rfl rfl hl.1 rfl (lv_room (Nat.le_of_ble_eq_true rfl)) dX3_remembered_21 ⟨Nat.zero_le _, Nat.zero_le _⟩) ?_
  refine lv_istore (lv' := [(12, .int (bI (decide (u.1 (slN (keyL w h mm tt)) = (keyL w h mm tt))))), (10, .long (keyL w h mm tt)), (0, .ref se), (1, .long mm), (3, .long tt), (5, .long (mvL w h mm tt)), (7, .int (nI (k + 1))), (8, .int (zI low)), (9, .int (zI high))]) hx hb dX3_remembered_24 hl (by decide) rfl (fun ls hl => ?_)
  refine lv_iload hx hb dX3_remembered_26 (lv_at hl 0 rfl) ?_
  refine b_if_eq (tgt := 43) hx hb dX3_remembered_28 (by decide) (fun c28_1 => ?_) (fun c28_1 => ?_)
  · skip
    have hkn : ¬ u.1 (slN (keyL w h mm tt)) = (keyL w h mm tt) := of_decide_eq_false c28_1
    obtain ⟨z1, ez1⟩ : ∃ z, z = laZ w h mm (k + 1) := ⟨_, rfl⟩
    obtain ⟨z2, ez2⟩ : ∃ z, z = maZ w h tt (k + 1) := ⟨_, rfl⟩
    obtain ⟨q1, q3, q5⟩ := la_le hd hpos hnw hmv h2k
    obtain ⟨q2, q6, q4⟩ := ma_ge hd hpos hnw h2k
    rw [← ez1] at q1 q3 q5
    rw [← ez2] at q2 q4 q6
    refine lv_aload_n hx hb dX3_remembered_43 rfl (lv_at hl 2 rfl) ?_
    refine lv_lload_n hx hb dX3_remembered_44 rfl (lv_at hl 3 rfl) ?_
    refine lv_iload hx hb dX3_remembered_45 (lv_at hl 6 rfl) ?_
    refine ro_call (W.runV (As := [.long mm, .int (nI (k + 1))]) (rest := []) ⟨hx, hb, hml, hown, hts⟩ (c_leastAtFirst l D cI cJ cZ w h se mi g st cs me ks le mo u.1 u.2.1 u.2.2 mm (k + 1)) (cwV 2 hts gX3_remembered_X3_leastAtFirst rfl rfl rfl (by decide +kernel) ⟨Nat.le_of_ble_eq_true rfl, Nat.le_of_ble_eq_true rfl⟩) ⟨RPc.blind, va_recv hK hP (ci := 3) (q0 := 0) rfl rfl, (RPc.at (hP.sub [0, 1, 2, 3, 4, 5, 6, 7, 8] rfl) hK hN)⟩ rfl rfl hl.1 rfl (lv_room (Nat.le_of_ble_eq_true rfl)) dX3_remembered_47 ⟨Nat.zero_le _, Nat.zero_le _⟩) ?_
    refine rt_i (v := zI z1) (by rw [ez1]) ?_
    refine lv_istore (lv' := [(13, .int (zI z1)), (12, .int (bI (decide (u.1 (slN (keyL w h mm tt)) = (keyL w h mm tt))))), (10, .long (keyL w h mm tt)), (0, .ref se), (1, .long mm), (3, .long tt), (5, .long (mvL w h mm tt)), (7, .int (nI (k + 1))), (8, .int (zI low)), (9, .int (zI high))]) hx hb dX3_remembered_50 hl (by decide) rfl (fun ls hl => ?_)
    refine lv_iload hx hb dX3_remembered_52 (lv_at hl 1 rfl) ?_
    refine b_if_eq (tgt := 69) hx hb dX3_remembered_54 (by decide) (fun c54_2 => ?_) (fun c54_2 => ?_)
    · skip
      refine lv_aload_n hx hb dX3_remembered_69 rfl (lv_at hl 3 rfl) ?_
      refine lv_lload_n hx hb dX3_remembered_70 rfl (lv_at hl 5 rfl) ?_
      refine lv_iload hx hb dX3_remembered_71 (lv_at hl 7 rfl) ?_
      refine ro_call (W.runV (As := [.long tt, .int (nI (k + 1))]) (rest := []) ⟨hx, hb, hml, hown, hts⟩ (c_mostAtFirst l D cI cJ cZ w h se mi g st cs me ks le mo u.1 u.2.1 u.2.2 tt (k + 1)) (cwV 2 hts gX3_remembered_X3_mostAtFirst rfl rfl rfl (by decide +kernel) ⟨Nat.le_of_ble_eq_true rfl, Nat.le_of_ble_eq_true rfl⟩) ⟨RPc.blind, va_recv hK hP (ci := 3) (q0 := 0) rfl rfl, (RPc.at (hP.sub [0, 1, 2, 3, 4, 5, 6, 7, 8] rfl) hK hN)⟩ rfl rfl hl.1 rfl (lv_room (Nat.le_of_ble_eq_true rfl)) dX3_remembered_73 ⟨Nat.zero_le _, Nat.zero_le _⟩) ?_
      refine rt_i (v := zI z2) (by rw [ez2]) ?_
      refine lv_istore (lv' := [(14, .int (zI z2)), (13, .int (zI z1)), (12, .int (bI (decide (u.1 (slN (keyL w h mm tt)) = (keyL w h mm tt))))), (10, .long (keyL w h mm tt)), (0, .ref se), (1, .long mm), (3, .long tt), (5, .long (mvL w h mm tt)), (7, .int (nI (k + 1))), (8, .int (zI low)), (9, .int (zI high))]) hx hb dX3_remembered_76 hl (by decide) rfl (fun ls hl => ?_)
      refine lv_iload hx hb dX3_remembered_78 (lv_at hl 1 rfl) ?_
      refine lv_iload hx hb dX3_remembered_80 (lv_at hl 10 rfl) ?_
      refine z_icmp_ge (tgt := 92) hx hb dX3_remembered_82 (by decide) (by unfold zB; omega) (by unfold zB; omega) (fun c82_3 => ?_) (fun c82_3 => ?_)
      · skip
        refine lv_iload hx hb dX3_remembered_92 (lv_at hl 1 rfl) ?_
        exact mu_iret (S := Mem) hx hb hr hlocks u ⟨hmem, z1, rfl, by unfold scPost; omega, by omega, by omega⟩ hP hD hS dX3_remembered_94
      refine lv_iload hx hb dX3_remembered_85 (lv_at hl 1 rfl) ?_
      refine lv_iload hx hb dX3_remembered_87 (lv_at hl 0 rfl) ?_
      refine z_icmp_lt (tgt := 95) hx hb dX3_remembered_89 (by decide) (by unfold zB; omega) (by unfold zB; omega) (fun c89_4 => ?_) (fun c89_4 => ?_)
      · skip
        refine lv_iload hx hb dX3_remembered_95 (lv_at hl 0 rfl) ?_
        refine lv_iload hx hb dX3_remembered_97 (lv_at hl 9 rfl) ?_
        refine z_icmp_gt (tgt := 105) hx hb dX3_remembered_99 (by decide) (by unfold zB; omega) (by unfold zB; omega) (fun c99_5 => ?_) (fun c99_5 => ?_)
        · skip
          refine lv_iload hx hb dX3_remembered_105 (lv_at hl 9 rfl) ?_
          refine lv_iload hx hb dX3_remembered_107 (lv_at hl 1 rfl) ?_
          refine va_mmax hx hb (by rw [hml]; exact hl.1.symm) hown (hts (.methodLink RX3 77 Lib.Math.max.name) (by decide +kernel)) (hts (.static Lib.Math.max.name) (by decide +kernel)) (hts (.initialized "java/lang/Math") (by decide +kernel)) (hts (.code Lib.Math.max.name Lib.Math.max.code 2 (some .int)) (by decide +kernel)) (Nat.le_of_ble_eq_true rfl) (Nat.le_of_ble_eq_true rfl) (Nat.zero_le _) (Nat.zero_le _) dX3_remembered_109 ?_
          refine rt_i (v := zI (max low z1)) (by rw [show zI low = zI low from rfl, show zI z1 = zI z1 from rfl]; exact zI_max (by unfold zB; omega) (by unfold zB; omega)) ?_
          refine lv_istore (lv' := [(15, .int (zI (max low z1))), (14, .int (zI z2)), (13, .int (zI z1)), (12, .int (bI (decide (u.1 (slN (keyL w h mm tt)) = (keyL w h mm tt))))), (10, .long (keyL w h mm tt)), (0, .ref se), (1, .long mm), (3, .long tt), (5, .long (mvL w h mm tt)), (7, .int (nI (k + 1))), (8, .int (zI low)), (9, .int (zI high))]) hx hb dX3_remembered_112 hl (by decide) rfl (fun ls hl => ?_)
          refine lv_iload hx hb dX3_remembered_114 (lv_at hl 11 rfl) ?_
          refine lv_iload hx hb dX3_remembered_116 (lv_at hl 1 rfl) ?_
          refine va_mmin hx hb (by rw [hml]; exact hl.1.symm) hown (hts (.methodLink RX3 83 Lib.Math.min.name) (by decide +kernel)) (hts (.static Lib.Math.min.name) (by decide +kernel)) (hts (.initialized "java/lang/Math") (by decide +kernel)) (hts (.code Lib.Math.min.name Lib.Math.min.code 2 (some .int)) (by decide +kernel)) (Nat.le_of_ble_eq_true rfl) (Nat.le_of_ble_eq_true rfl) (Nat.zero_le _) (Nat.zero_le _) dX3_remembered_118 ?_
          refine rt_i (v := zI (min high z2)) (by rw [show zI high = zI high from rfl, show zI z2 = zI z2 from rfl]; exact zI_min (by unfold zB; omega) (by unfold zB; omega)) ?_
          refine lv_istore (lv' := [(16, .int (zI (min high z2))), (15, .int (zI (max low z1))), (14, .int (zI z2)), (13, .int (zI z1)), (12, .int (bI (decide (u.1 (slN (keyL w h mm tt)) = (keyL w h mm tt))))), (10, .long (keyL w h mm tt)), (0, .ref se), (1, .long mm), (3, .long tt), (5, .long (mvL w h mm tt)), (7, .int (nI (k + 1))), (8, .int (zI low)), (9, .int (zI high))]) hx hb dX3_remembered_121 hl (by decide) rfl (fun ls hl => ?_)
          refine lv_aload_n hx hb dX3_remembered_123 rfl (lv_at hl 6 rfl) ?_
          refine lv_lload_n hx hb dX3_remembered_124 rfl (lv_at hl 7 rfl) ?_
          refine lv_lload_n hx hb dX3_remembered_125 rfl (lv_at hl 8 rfl) ?_
          refine lv_lload hx hb dX3_remembered_126 (lv_at hl 9 rfl) ?_
          refine lv_iload hx hb dX3_remembered_128 (lv_at hl 10 rfl) ?_
          refine lv_iload hx hb dX3_remembered_130 (lv_at hl 1 rfl) ?_
          refine lv_iload hx hb dX3_remembered_132 (lv_at hl 0 rfl) ?_
          refine mu_calli (wr := []) (va_runV (As := [.long mm, .long tt, .long (mvL w h mm tt), .int (nI (k + 1)), .int (zI (max low z1)), .int (zI (min high z2))]) (rest := []) ⟨hx, hb, hml, hown, hts⟩ (hTr u k tp M T mm tt (max low z1) (min high z2) s.heap.size hkd hpos hnw hmv (by omega) (by omega) (by omega) hmem) (cwV 6 hts gX3_remembered_X3_tried rfl rfl rfl (by decide +kernel) ⟨by simp only [k2_rm]; omega, by simp only [k2_rm]; omega⟩) ⟨MPc.blind, va_recv hK hP (ci := 3) (q0 := 0) rfl rfl, (MPc.at (hP.sub [0, 1, 2, 3, 4, 5, 6, 7, 8] rfl) (hD.sub [0, 1, 2, 3, 4, 5, 6, 7, 8] (by decide) rfl) hK hN)⟩ rfl rfl hl.1 rfl (lv_room (Nat.le_of_ble_eq_true rfl)) dX3_remembered_134 ⟨Nat.zero_le _, Nat.zero_le _⟩) hP hD hS hA [0, 1, 2, 3, 4, 5, 6, 7, 8] [] rfl rfl (by decide) (by decide) (fun rr v1 H locs hw hP hD hS => ?_)
          obtain ⟨hm1, rfl⟩ := hw
          obtain ⟨f0, ef⟩ : ∃ z, z = min (max (max low z1) (Sc w h (k + 1) tp M T)) (min high z2) := ⟨_, rfl⟩
          refine rt_i (v := zI f0) (by rw [ef]) ?_
          refine lv_istore (lv' := [(17, .int (zI f0)), (16, .int (zI (min high z2))), (15, .int (zI (max low z1))), (14, .int (zI z2)), (13, .int (zI z1)), (12, .int (bI (decide (u.1 (slN (keyL w h mm tt)) = (keyL w h mm tt))))), (10, .long (keyL w h mm tt)), (0, .ref se), (1, .long mm), (3, .long tt), (5, .long (mvL w h mm tt)), (7, .int (nI (k + 1))), (8, .int (zI low)), (9, .int (zI high))]) hx hb dX3_remembered_137 hl (by decide) rfl (fun ls hl => ?_)
          refine lv_aload_n hx hb dX3_remembered_139 rfl (lv_at hl 7 rfl) ?_
          refine va_get (C := RX3) (T := TX3) (N := 3) hx hb hts (by decide +kernel) hown hK hP 0 rfl rfl 1 (by decide) (hts (.fieldLink RX3 10 RX3 "memory" "LDropFour$Memory;") (by decide +kernel)) (fun _ h9 => h9) rfl dX3_remembered_140 ?_
          refine lv_lload hx hb dX3_remembered_143 (lv_at hl 6 rfl) ?_
          refine lv_iload hx hb dX3_remembered_145 (lv_at hl 0 rfl) ?_
          refine lv_iload hx hb dX3_remembered_147 (lv_at hl 2 rfl) ?_
          refine z_icmp_le (tgt := 157) hx hb dX3_remembered_149 (by decide) (by unfold zB; omega) (by unfold zB; omega) (fun c149_6 => ?_) (fun c149_6 => ?_)
          · skip
            refine lv_iload hx hb dX3_remembered_157 (lv_at hl 4 rfl) ?_
            refine lv_iload hx hb dX3_remembered_159 (lv_at hl 0 rfl) ?_
            refine lv_iload hx hb dX3_remembered_161 (lv_at hl 1 rfl) ?_
            refine z_icmp_ge (tgt := 171) hx hb dX3_remembered_163 (by decide) (by unfold zB; omega) (by unfold zB; omega) (fun c163_7 => ?_) (fun c163_7 => ?_)
            · skip
              refine lv_iload hx hb dX3_remembered_171 (lv_at hl 3 rfl) ?_
              refine mu_callv (wr := [(se, .inr (3, [.ref g, .ref me, .ref mi])), (mi, .inl (cJ, w, .inr (.inl (fun j => colL h (mid w j))))), (g, .inr (1, [.int (nI w), .int (nI h), .long (allL h w), .long (flrL h w), .ref st, .ref cs])), (st, .inl (cI, 4, .inl (fun j => nI (stp h j)))), (cs, .inl (cJ, w, .inr (.inl (fun j => colL h j))))]) (va_runV (As := [.long (keyL w h mm tt), .int (zI z1), .int (zI z2)]) (rest := []) ⟨hx, hb, hml, hown, hts⟩ (c_keep l D cI cJ cZ me ks le mo v1.1 v1.2.1 v1.2.2 (keyL w h mm tt) (zI z1) (zI z2) H.size) (cwV 3 hts gX3_remembered_X2_keep rfl rfl rfl (by decide +kernel) ⟨Nat.le_of_ble_eq_true rfl, Nat.le_of_ble_eq_true rfl⟩) ⟨MPc.blind, va_recv hK hP (ci := 2) (q0 := 5) rfl rfl, (MPc.at (hP.sub [5, 6, 7, 8] rfl) (hD.sub [5, 6, 7, 8] (by decide) rfl) hK hN)⟩ rfl rfl hl.1 rfl (lv_room (Nat.le_of_ble_eq_true rfl)) dX3_remembered_173 ⟨Nat.zero_le _, Nat.zero_le _⟩) hP hD hS hA [5, 6, 7, 8] [0, 1, 2, 3, 4] rfl rfl (by decide) (by decide) (fun u1 H locs hw hP hD hS => ?_)
              refine lv_iload hx hb dX3_remembered_176 (lv_at hl 0 rfl) ?_
              exact mu_iret (S := Mem) hx hb hr hlocks (vp_updL v1.1 (slN (keyL w h mm tt)) (keyL w h mm tt), upd v1.2.1 (slN (keyL w h mm tt)) (zI z1), upd v1.2.2 (slN (keyL w h mm tt)) (zI z2)) ⟨(hm1.keep hd hpos (z1 := z1) (z2 := z2) (by omega) (by omega) (by omega) (by omega)), f0, rfl, by unfold scPost; omega, by omega, by omega⟩ hP hD hS dX3_remembered_178
            refine lv_iload hx hb dX3_remembered_166 (lv_at hl 0 rfl) ?_
            refine lv_goto (tgt := 173) hx hb dX3_remembered_168 (by decide) ?_
            refine mu_callv (wr := [(se, .inr (3, [.ref g, .ref me, .ref mi])), (mi, .inl (cJ, w, .inr (.inl (fun j => colL h (mid w j))))), (g, .inr (1, [.int (nI w), .int (nI h), .long (allL h w), .long (flrL h w), .ref st, .ref cs])), (st, .inl (cI, 4, .inl (fun j => nI (stp h j)))), (cs, .inl (cJ, w, .inr (.inl (fun j => colL h j))))]) (va_runV (As := [.long (keyL w h mm tt), .int (zI z1), .int (zI f0)]) (rest := []) ⟨hx, hb, hml, hown, hts⟩ (c_keep l D cI cJ cZ me ks le mo v1.1 v1.2.1 v1.2.2 (keyL w h mm tt) (zI z1) (zI f0) H.size) (cwV 3 hts gX3_remembered_X2_keep rfl rfl rfl (by decide +kernel) ⟨Nat.le_of_ble_eq_true rfl, Nat.le_of_ble_eq_true rfl⟩) ⟨MPc.blind, va_recv hK hP (ci := 2) (q0 := 5) rfl rfl, (MPc.at (hP.sub [5, 6, 7, 8] rfl) (hD.sub [5, 6, 7, 8] (by decide) rfl) hK hN)⟩ rfl rfl hl.1 rfl (lv_room (Nat.le_of_ble_eq_true rfl)) dX3_remembered_173 ⟨Nat.zero_le _, Nat.zero_le _⟩) hP hD hS hA [5, 6, 7, 8] [0, 1, 2, 3, 4] rfl rfl (by decide) (by decide) (fun u1 H locs hw hP hD hS => ?_)
            refine lv_iload hx hb dX3_remembered_176 (lv_at hl 0 rfl) ?_
            exact mu_iret (S := Mem) hx hb hr hlocks (vp_updL v1.1 (slN (keyL w h mm tt)) (keyL w h mm tt), upd v1.2.1 (slN (keyL w h mm tt)) (zI z1), upd v1.2.2 (slN (keyL w h mm tt)) (zI f0)) ⟨(hm1.keep hd hpos (z1 := z1) (z2 := f0) (by omega) (by omega) (by omega) (by omega)), f0, rfl, by unfold scPost; omega, by omega, by omega⟩ hP hD hS dX3_remembered_178
          refine lv_iload hx hb dX3_remembered_152 (lv_at hl 0 rfl) ?_
          refine lv_goto (tgt := 159) hx hb dX3_remembered_154 (by decide) ?_
          refine lv_iload hx hb dX3_remembered_159 (lv_at hl 0 rfl) ?_
          refine lv_iload hx hb dX3_remembered_161 (lv_at hl 1 rfl) ?_
          refine z_icmp_ge (tgt := 171) hx hb dX3_remembered_163 (by decide) (by unfold zB; omega) (by unfold zB; omega) (fun c163_8 => ?_) (fun c163_8 => ?_)
          · skip
            refine lv_iload hx hb dX3_remembered_171 (lv_at hl 3 rfl) ?_
            refine mu_callv (wr := [(se, .inr (3, [.ref g, .ref me, .ref mi])), (mi, .inl (cJ, w, .inr (.inl (fun j => colL h (mid w j))))), (g, .inr (1, [.int (nI w), .int (nI h), .long (allL h w), .long (flrL h w), .ref st, .ref cs])), (st, .inl (cI, 4, .inl (fun j => nI (stp h j)))), (cs, .inl (cJ, w, .inr (.inl (fun j => colL h j))))]) (va_runV (As := [.long (keyL w h mm tt), .int (zI f0), .int (zI z2)]) (rest := []) ⟨hx, hb, hml, hown, hts⟩ (c_keep l D cI cJ cZ me ks le mo v1.1 v1.2.1 v1.2.2 (keyL w h mm tt) (zI f0) (zI z2) H.size) (cwV 3 hts gX3_remembered_X2_keep rfl rfl rfl (by decide +kernel) ⟨Nat.le_of_ble_eq_true rfl, Nat.le_of_ble_eq_true rfl⟩) ⟨MPc.blind, va_recv hK hP (ci := 2) (q0 := 5) rfl rfl, (MPc.at (hP.sub [5, 6, 7, 8] rfl) (hD.sub [5, 6, 7, 8] (by decide) rfl) hK hN)⟩ rfl rfl hl.1 rfl (lv_room (Nat.le_of_ble_eq_true rfl)) dX3_remembered_173 ⟨Nat.zero_le _, Nat.zero_le _⟩) hP hD hS hA [5, 6, 7, 8] [0, 1, 2, 3, 4] rfl rfl (by decide) (by decide) (fun u1 H locs hw hP hD hS => ?_)
            refine lv_iload hx hb dX3_remembered_176 (lv_at hl 0 rfl) ?_
            exact mu_iret (S := Mem) hx hb hr hlocks (vp_updL v1.1 (slN (keyL w h mm tt)) (keyL w h mm tt), upd v1.2.1 (slN (keyL w h mm tt)) (zI f0), upd v1.2.2 (slN (keyL w h mm tt)) (zI z2)) ⟨(hm1.keep hd hpos (z1 := f0) (z2 := z2) (by omega) (by omega) (by omega) (by omega)), f0, rfl, by unfold scPost; omega, by omega, by omega⟩ hP hD hS dX3_remembered_178
          refine lv_iload hx hb dX3_remembered_166 (lv_at hl 0 rfl) ?_
          refine lv_goto (tgt := 173) hx hb dX3_remembered_168 (by decide) ?_
          refine mu_callv (wr := [(se, .inr (3, [.ref g, .ref me, .ref mi])), (mi, .inl (cJ, w, .inr (.inl (fun j => colL h (mid w j))))), (g, .inr (1, [.int (nI w), .int (nI h), .long (allL h w), .long (flrL h w), .ref st, .ref cs])), (st, .inl (cI, 4, .inl (fun j => nI (stp h j)))), (cs, .inl (cJ, w, .inr (.inl (fun j => colL h j))))]) (va_runV (As := [.long (keyL w h mm tt), .int (zI f0), .int (zI f0)]) (rest := []) ⟨hx, hb, hml, hown, hts⟩ (c_keep l D cI cJ cZ me ks le mo v1.1 v1.2.1 v1.2.2 (keyL w h mm tt) (zI f0) (zI f0) H.size) (cwV 3 hts gX3_remembered_X2_keep rfl rfl rfl (by decide +kernel) ⟨Nat.le_of_ble_eq_true rfl, Nat.le_of_ble_eq_true rfl⟩) ⟨MPc.blind, va_recv hK hP (ci := 2) (q0 := 5) rfl rfl, (MPc.at (hP.sub [5, 6, 7, 8] rfl) (hD.sub [5, 6, 7, 8] (by decide) rfl) hK hN)⟩ rfl rfl hl.1 rfl (lv_room (Nat.le_of_ble_eq_true rfl)) dX3_remembered_173 ⟨Nat.zero_le _, Nat.zero_le _⟩) hP hD hS hA [5, 6, 7, 8] [0, 1, 2, 3, 4] rfl rfl (by decide) (by decide) (fun u1 H locs hw hP hD hS => ?_)
          refine lv_iload hx hb dX3_remembered_176 (lv_at hl 0 rfl) ?_
          exact mu_iret (S := Mem) hx hb hr hlocks (vp_updL v1.1 (slN (keyL w h mm tt)) (keyL w h mm tt), upd v1.2.1 (slN (keyL w h mm tt)) (zI f0), upd v1.2.2 (slN (keyL w h mm tt)) (zI f0)) ⟨(hm1.keep hd hpos (z1 := f0) (z2 := f0) (by omega) (by omega) (by omega) (by omega)), f0, rfl, by unfold scPost; omega, by omega, by omega⟩ hP hD hS dX3_remembered_178
        refine lv_iload hx hb dX3_remembered_102 (lv_at hl 0 rfl) ?_
        exact mu_iret (S := Mem) hx hb hr hlocks u ⟨hmem, z2, rfl, by unfold scPost; omega, by omega, by omega⟩ hP hD hS dX3_remembered_104
      refine lv_iload hx hb dX3_remembered_92 (lv_at hl 1 rfl) ?_
      exact mu_iret (S := Mem) hx hb hr hlocks u ⟨hmem, z1, rfl, by unfold scPost; omega, by omega, by omega⟩ hP hD hS dX3_remembered_94
    · exact absurd c54_2 (by rw [decide_eq_false hkn]; decide)
  have hkn : u.1 (slN (keyL w h mm tt)) = (keyL w h mm tt) := of_decide_eq_true c28_1
  obtain ⟨z1, z2, ez1, ez2, q1, q2, q3, q4⟩ := hmem _ (slN_lt _) _ _ _ _ _ _ hpos hkn.symm
  refine lv_aload_n hx hb dX3_remembered_31 rfl (lv_at hl 2 rfl) ?_
  refine va_get (C := RX3) (T := TX3) (N := 3) hx hb hts (by decide +kernel) hown hK hP 0 rfl rfl 1 (by decide) (hts (.fieldLink RX3 10 RX3 "memory" "LDropFour$Memory;") (by decide +kernel)) (fun _ h9 => h9) rfl dX3_remembered_32 ?_
  refine lv_lload hx hb dX3_remembered_35 (lv_at hl 1 rfl) ?_
  refine ro_call (W.runV (As := [.long (keyL w h mm tt)]) (rest := []) ⟨hx, hb, hml, hown, hts⟩ (c_leastOf l D cI cJ cZ me ks le mo u.1 u.2.1 u.2.2 (keyL w h mm tt)) (cwV 1 hts gX3_remembered_X2_leastOf rfl rfl rfl (by decide +kernel) ⟨Nat.le_of_ble_eq_true rfl, Nat.le_of_ble_eq_true rfl⟩) ⟨RPc.blind, va_recv hK hP (ci := 2) (q0 := 5) rfl rfl, (RPc.at (hP.sub [5, 6, 7, 8] rfl) hK hN)⟩ rfl rfl hl.1 rfl (lv_room (Nat.le_of_ble_eq_true rfl)) dX3_remembered_37 ⟨Nat.zero_le _, Nat.zero_le _⟩) ?_
  refine rt_i (v := zI z1) ez1 ?_
  refine lv_goto (tgt := 50) hx hb dX3_remembered_40 (by decide) ?_
  refine lv_istore (lv' := [(13, .int (zI z1)), (12, .int (bI (decide (u.1 (slN (keyL w h mm tt)) = (keyL w h mm tt))))), (10, .long (keyL w h mm tt)), (0, .ref se), (1, .long mm), (3, .long tt), (5, .long (mvL w h mm tt)), (7, .int (nI (k + 1))), (8, .int (zI low)), (9, .int (zI high))]) hx hb dX3_remembered_50 hl (by decide) rfl (fun ls hl => ?_)
  refine lv_iload hx hb dX3_remembered_52 (lv_at hl 1 rfl) ?_
  refine b_if_eq (tgt := 69) hx hb dX3_remembered_54 (by decide) (fun c54_9 => ?_) (fun c54_9 => ?_)
  · exact absurd c54_9 (by rw [decide_eq_true hkn]; decide)
  refine lv_aload_n hx hb dX3_remembered_57 rfl (lv_at hl 3 rfl) ?_
  refine va_get (C := RX3) (T := TX3) (N := 3) hx hb hts (by decide +kernel) hown hK hP 0 rfl rfl 1 (by decide) (hts (.fieldLink RX3 10 RX3 "memory" "LDropFour$Memory;") (by decide +kernel)) (fun _ h9 => h9) rfl dX3_remembered_58 ?_
  refine lv_lload hx hb dX3_remembered_61 (lv_at hl 2 rfl) ?_
  refine ro_call (W.runV (As := [.long (keyL w h mm tt)]) (rest := []) ⟨hx, hb, hml, hown, hts⟩ (c_mostOf l D cI cJ cZ me ks le mo u.1 u.2.1 u.2.2 (keyL w h mm tt)) (cwV 1 hts gX3_remembered_X2_mostOf rfl rfl rfl (by decide +kernel) ⟨Nat.le_of_ble_eq_true rfl, Nat.le_of_ble_eq_true rfl⟩) ⟨RPc.blind, va_recv hK hP (ci := 2) (q0 := 5) rfl rfl, (RPc.at (hP.sub [5, 6, 7, 8] rfl) hK hN)⟩ rfl rfl hl.1 rfl (lv_room (Nat.le_of_ble_eq_true rfl)) dX3_remembered_63 ⟨Nat.zero_le _, Nat.zero_le _⟩) ?_
  refine rt_i (v := zI z2) ez2 ?_
  refine lv_goto (tgt := 76) hx hb dX3_remembered_66 (by decide) ?_
  refine lv_istore (lv' := [(14, .int (zI z2)), (13, .int (zI z1)), (12, .int (bI (decide (u.1 (slN (keyL w h mm tt)) = (keyL w h mm tt))))), (10, .long (keyL w h mm tt)), (0, .ref se), (1, .long mm), (3, .long tt), (5, .long (mvL w h mm tt)), (7, .int (nI (k + 1))), (8, .int (zI low)), (9, .int (zI high))]) hx hb dX3_remembered_76 hl (by decide) rfl (fun ls hl => ?_)
  refine lv_iload hx hb dX3_remembered_78 (lv_at hl 1 rfl) ?_
  refine lv_iload hx hb dX3_remembered_80 (lv_at hl 10 rfl) ?_
  refine z_icmp_ge (tgt := 92) hx hb dX3_remembered_82 (by decide) (by unfold zB; omega) (by unfold zB; omega) (fun c82_10 => ?_) (fun c82_10 => ?_)
  · skip
    refine lv_iload hx hb dX3_remembered_92 (lv_at hl 1 rfl) ?_
    exact mu_iret (S := Mem) hx hb hr hlocks u ⟨hmem, z1, rfl, by unfold scPost; omega, by omega, by omega⟩ hP hD hS dX3_remembered_94
  refine lv_iload hx hb dX3_remembered_85 (lv_at hl 1 rfl) ?_
  refine lv_iload hx hb dX3_remembered_87 (lv_at hl 0 rfl) ?_
  refine z_icmp_lt (tgt := 95) hx hb dX3_remembered_89 (by decide) (by unfold zB; omega) (by unfold zB; omega) (fun c89_11 => ?_) (fun c89_11 => ?_)
  · skip
    refine lv_iload hx hb dX3_remembered_95 (lv_at hl 0 rfl) ?_
    refine lv_iload hx hb dX3_remembered_97 (lv_at hl 9 rfl) ?_
    refine z_icmp_gt (tgt := 105) hx hb dX3_remembered_99 (by decide) (by unfold zB; omega) (by unfold zB; omega) (fun c99_12 => ?_) (fun c99_12 => ?_)
    · skip
      refine lv_iload hx hb dX3_remembered_105 (lv_at hl 9 rfl) ?_
      refine lv_iload hx hb dX3_remembered_107 (lv_at hl 1 rfl) ?_
      refine va_mmax hx hb (by rw [hml]; exact hl.1.symm) hown (hts (.methodLink RX3 77 Lib.Math.max.name) (by decide +kernel)) (hts (.static Lib.Math.max.name) (by decide +kernel)) (hts (.initialized "java/lang/Math") (by decide +kernel)) (hts (.code Lib.Math.max.name Lib.Math.max.code 2 (some .int)) (by decide +kernel)) (Nat.le_of_ble_eq_true rfl) (Nat.le_of_ble_eq_true rfl) (Nat.zero_le _) (Nat.zero_le _) dX3_remembered_109 ?_
      refine rt_i (v := zI (max low z1)) (by rw [show zI low = zI low from rfl, show zI z1 = zI z1 from rfl]; exact zI_max (by unfold zB; omega) (by unfold zB; omega)) ?_
      refine lv_istore (lv' := [(15, .int (zI (max low z1))), (14, .int (zI z2)), (13, .int (zI z1)), (12, .int (bI (decide (u.1 (slN (keyL w h mm tt)) = (keyL w h mm tt))))), (10, .long (keyL w h mm tt)), (0, .ref se), (1, .long mm), (3, .long tt), (5, .long (mvL w h mm tt)), (7, .int (nI (k + 1))), (8, .int (zI low)), (9, .int (zI high))]) hx hb dX3_remembered_112 hl (by decide) rfl (fun ls hl => ?_)
      refine lv_iload hx hb dX3_remembered_114 (lv_at hl 11 rfl) ?_
      refine lv_iload hx hb dX3_remembered_116 (lv_at hl 1 rfl) ?_
      refine va_mmin hx hb (by rw [hml]; exact hl.1.symm) hown (hts (.methodLink RX3 83 Lib.Math.min.name) (by decide +kernel)) (hts (.static Lib.Math.min.name) (by decide +kernel)) (hts (.initialized "java/lang/Math") (by decide +kernel)) (hts (.code Lib.Math.min.name Lib.Math.min.code 2 (some .int)) (by decide +kernel)) (Nat.le_of_ble_eq_true rfl) (Nat.le_of_ble_eq_true rfl) (Nat.zero_le _) (Nat.zero_le _) dX3_remembered_118 ?_
      refine rt_i (v := zI (min high z2)) (by rw [show zI high = zI high from rfl, show zI z2 = zI z2 from rfl]; exact zI_min (by unfold zB; omega) (by unfold zB; omega)) ?_
      refine lv_istore (lv' := [(16, .int (zI (min high z2))), (15, .int (zI (max low z1))), (14, .int (zI z2)), (13, .int (zI z1)), (12, .int (bI (decide (u.1 (slN (keyL w h mm tt)) = (keyL w h mm tt))))), (10, .long (keyL w h mm tt)), (0, .ref se), (1, .long mm), (3, .long tt), (5, .long (mvL w h mm tt)), (7, .int (nI (k + 1))), (8, .int (zI low)), (9, .int (zI high))]) hx hb dX3_remembered_121 hl (by decide) rfl (fun ls hl => ?_)
      refine lv_aload_n hx hb dX3_remembered_123 rfl (lv_at hl 6 rfl) ?_
      refine lv_lload_n hx hb dX3_remembered_124 rfl (lv_at hl 7 rfl) ?_
      refine lv_lload_n hx hb dX3_remembered_125 rfl (lv_at hl 8 rfl) ?_
      refine lv_lload hx hb dX3_remembered_126 (lv_at hl 9 rfl) ?_
      refine lv_iload hx hb dX3_remembered_128 (lv_at hl 10 rfl) ?_
      refine lv_iload hx hb dX3_remembered_130 (lv_at hl 1 rfl) ?_
      refine lv_iload hx hb dX3_remembered_132 (lv_at hl 0 rfl) ?_
      refine mu_calli (wr := []) (va_runV (As := [.long mm, .long tt, .long (mvL w h mm tt), .int (nI (k + 1)), .int (zI (max low z1)), .int (zI (min high z2))]) (rest := []) ⟨hx, hb, hml, hown, hts⟩ (hTr u k tp M T mm tt (max low z1) (min high z2) s.heap.size hkd hpos hnw hmv (by omega) (by omega) (by omega) hmem) (cwV 6 hts gX3_remembered_X3_tried rfl rfl rfl (by decide +kernel) ⟨by simp only [k2_rm]; omega, by simp only [k2_rm]; omega⟩) ⟨MPc.blind, va_recv hK hP (ci := 3) (q0 := 0) rfl rfl, (MPc.at (hP.sub [0, 1, 2, 3, 4, 5, 6, 7, 8] rfl) (hD.sub [0, 1, 2, 3, 4, 5, 6, 7, 8] (by decide) rfl) hK hN)⟩ rfl rfl hl.1 rfl (lv_room (Nat.le_of_ble_eq_true rfl)) dX3_remembered_134 ⟨Nat.zero_le _, Nat.zero_le _⟩) hP hD hS hA [0, 1, 2, 3, 4, 5, 6, 7, 8] [] rfl rfl (by decide) (by decide) (fun rr v1 H locs hw hP hD hS => ?_)
      obtain ⟨hm1, rfl⟩ := hw
      obtain ⟨f0, ef⟩ : ∃ z, z = min (max (max low z1) (Sc w h (k + 1) tp M T)) (min high z2) := ⟨_, rfl⟩
      refine rt_i (v := zI f0) (by rw [ef]) ?_
      refine lv_istore (lv' := [(17, .int (zI f0)), (16, .int (zI (min high z2))), (15, .int (zI (max low z1))), (14, .int (zI z2)), (13, .int (zI z1)), (12, .int (bI (decide (u.1 (slN (keyL w h mm tt)) = (keyL w h mm tt))))), (10, .long (keyL w h mm tt)), (0, .ref se), (1, .long mm), (3, .long tt), (5, .long (mvL w h mm tt)), (7, .int (nI (k + 1))), (8, .int (zI low)), (9, .int (zI high))]) hx hb dX3_remembered_137 hl (by decide) rfl (fun ls hl => ?_)
      refine lv_aload_n hx hb dX3_remembered_139 rfl (lv_at hl 7 rfl) ?_
      refine va_get (C := RX3) (T := TX3) (N := 3) hx hb hts (by decide +kernel) hown hK hP 0 rfl rfl 1 (by decide) (hts (.fieldLink RX3 10 RX3 "memory" "LDropFour$Memory;") (by decide +kernel)) (fun _ h9 => h9) rfl dX3_remembered_140 ?_
      refine lv_lload hx hb dX3_remembered_143 (lv_at hl 6 rfl) ?_
      refine lv_iload hx hb dX3_remembered_145 (lv_at hl 0 rfl) ?_
      refine lv_iload hx hb dX3_remembered_147 (lv_at hl 2 rfl) ?_
      refine z_icmp_le (tgt := 157) hx hb dX3_remembered_149 (by decide) (by unfold zB; omega) (by unfold zB; omega) (fun c149_13 => ?_) (fun c149_13 => ?_)
      · skip
        refine lv_iload hx hb dX3_remembered_157 (lv_at hl 4 rfl) ?_
        refine lv_iload hx hb dX3_remembered_159 (lv_at hl 0 rfl) ?_
        refine lv_iload hx hb dX3_remembered_161 (lv_at hl 1 rfl) ?_
        refine z_icmp_ge (tgt := 171) hx hb dX3_remembered_163 (by decide) (by unfold zB; omega) (by unfold zB; omega) (fun c163_14 => ?_) (fun c163_14 => ?_)
        · skip
          refine lv_iload hx hb dX3_remembered_171 (lv_at hl 3 rfl) ?_
          refine mu_callv (wr := [(se, .inr (3, [.ref g, .ref me, .ref mi])), (mi, .inl (cJ, w, .inr (.inl (fun j => colL h (mid w j))))), (g, .inr (1, [.int (nI w), .int (nI h), .long (allL h w), .long (flrL h w), .ref st, .ref cs])), (st, .inl (cI, 4, .inl (fun j => nI (stp h j)))), (cs, .inl (cJ, w, .inr (.inl (fun j => colL h j))))]) (va_runV (As := [.long (keyL w h mm tt), .int (zI z1), .int (zI z2)]) (rest := []) ⟨hx, hb, hml, hown, hts⟩ (c_keep l D cI cJ cZ me ks le mo v1.1 v1.2.1 v1.2.2 (keyL w h mm tt) (zI z1) (zI z2) H.size) (cwV 3 hts gX3_remembered_X2_keep rfl rfl rfl (by decide +kernel) ⟨Nat.le_of_ble_eq_true rfl, Nat.le_of_ble_eq_true rfl⟩) ⟨MPc.blind, va_recv hK hP (ci := 2) (q0 := 5) rfl rfl, (MPc.at (hP.sub [5, 6, 7, 8] rfl) (hD.sub [5, 6, 7, 8] (by decide) rfl) hK hN)⟩ rfl rfl hl.1 rfl (lv_room (Nat.le_of_ble_eq_true rfl)) dX3_remembered_173 ⟨Nat.zero_le _, Nat.zero_le _⟩) hP hD hS hA [5, 6, 7, 8] [0, 1, 2, 3, 4] rfl rfl (by decide) (by decide) (fun u1 H locs hw hP hD hS => ?_)
          refine lv_iload hx hb dX3_remembered_176 (lv_at hl 0 rfl) ?_
          exact mu_iret (S := Mem) hx hb hr hlocks (vp_updL v1.1 (slN (keyL w h mm tt)) (keyL w h mm tt), upd v1.2.1 (slN (keyL w h mm tt)) (zI z1), upd v1.2.2 (slN (keyL w h mm tt)) (zI z2)) ⟨(hm1.keep hd hpos (z1 := z1) (z2 := z2) (by omega) (by omega) (by omega) (by omega)), f0, rfl, by unfold scPost; omega, by omega, by omega⟩ hP hD hS dX3_remembered_178
        refine lv_iload hx hb dX3_remembered_166 (lv_at hl 0 rfl) ?_
        refine lv_goto (tgt := 173) hx hb dX3_remembered_168 (by decide) ?_
        refine mu_callv (wr := [(se, .inr (3, [.ref g, .ref me, .ref mi])), (mi, .inl (cJ, w, .inr (.inl (fun j => colL h (mid w j))))), (g, .inr (1, [.int (nI w), .int (nI h), .long (allL h w), .long (flrL h w), .ref st, .ref cs])), (st, .inl (cI, 4, .inl (fun j => nI (stp h j)))), (cs, .inl (cJ, w, .inr (.inl (fun j => colL h j))))]) (va_runV (As := [.long (keyL w h mm tt), .int (zI z1), .int (zI f0)]) (rest := []) ⟨hx, hb, hml, hown, hts⟩ (c_keep l D cI cJ cZ me ks le mo v1.1 v1.2.1 v1.2.2 (keyL w h mm tt) (zI z1) (zI f0) H.size) (cwV 3 hts gX3_remembered_X2_keep rfl rfl rfl (by decide +kernel) ⟨Nat.le_of_ble_eq_true rfl, Nat.le_of_ble_eq_true rfl⟩) ⟨MPc.blind, va_recv hK hP (ci := 2) (q0 := 5) rfl rfl, (MPc.at (hP.sub [5, 6, 7, 8] rfl) (hD.sub [5, 6, 7, 8] (by decide) rfl) hK hN)⟩ rfl rfl hl.1 rfl (lv_room (Nat.le_of_ble_eq_true rfl)) dX3_remembered_173 ⟨Nat.zero_le _, Nat.zero_le _⟩) hP hD hS hA [5, 6, 7, 8] [0, 1, 2, 3, 4] rfl rfl (by decide) (by decide) (fun u1 H locs hw hP hD hS => ?_)
        refine lv_iload hx hb dX3_remembered_176 (lv_at hl 0 rfl) ?_
        exact mu_iret (S := Mem) hx hb hr hlocks (vp_updL v1.1 (slN (keyL w h mm tt)) (keyL w h mm tt), upd v1.2.1 (slN (keyL w h mm tt)) (zI z1), upd v1.2.2 (slN (keyL w h mm tt)) (zI f0)) ⟨(hm1.keep hd hpos (z1 := z1) (z2 := f0) (by omega) (by omega) (by omega) (by omega)), f0, rfl, by unfold scPost; omega, by omega, by omega⟩ hP hD hS dX3_remembered_178
      refine lv_iload hx hb dX3_remembered_152 (lv_at hl 0 rfl) ?_
      refine lv_goto (tgt := 159) hx hb dX3_remembered_154 (by decide) ?_
      refine lv_iload hx hb dX3_remembered_159 (lv_at hl 0 rfl) ?_
      refine lv_iload hx hb dX3_remembered_161 (lv_at hl 1 rfl) ?_
      refine z_icmp_ge (tgt := 171) hx hb dX3_remembered_163 (by decide) (by unfold zB; omega) (by unfold zB; omega) (fun c163_15 => ?_) (fun c163_15 => ?_)
      · skip
        refine lv_iload hx hb dX3_remembered_171 (lv_at hl 3 rfl) ?_
        refine mu_callv (wr := [(se, .inr (3, [.ref g, .ref me, .ref mi])), (mi, .inl (cJ, w, .inr (.inl (fun j => colL h (mid w j))))), (g, .inr (1, [.int (nI w), .int (nI h), .long (allL h w), .long (flrL h w), .ref st, .ref cs])), (st, .inl (cI, 4, .inl (fun j => nI (stp h j)))), (cs, .inl (cJ, w, .inr (.inl (fun j => colL h j))))]) (va_runV (As := [.long (keyL w h mm tt), .int (zI f0), .int (zI z2)]) (rest := []) ⟨hx, hb, hml, hown, hts⟩ (c_keep l D cI cJ cZ me ks le mo v1.1 v1.2.1 v1.2.2 (keyL w h mm tt) (zI f0) (zI z2) H.size) (cwV 3 hts gX3_remembered_X2_keep rfl rfl rfl (by decide +kernel) ⟨Nat.le_of_ble_eq_true rfl, Nat.le_of_ble_eq_true rfl⟩) ⟨MPc.blind, va_recv hK hP (ci := 2) (q0 := 5) rfl rfl, (MPc.at (hP.sub [5, 6, 7, 8] rfl) (hD.sub [5, 6, 7, 8] (by decide) rfl) hK hN)⟩ rfl rfl hl.1 rfl (lv_room (Nat.le_of_ble_eq_true rfl)) dX3_remembered_173 ⟨Nat.zero_le _, Nat.zero_le _⟩) hP hD hS hA [5, 6, 7, 8] [0, 1, 2, 3, 4] rfl rfl (by decide) (by decide) (fun u1 H locs hw hP hD hS => ?_)
        refine lv_iload hx hb dX3_remembered_176 (lv_at hl 0 rfl) ?_
        exact mu_iret (S := Mem) hx hb hr hlocks (vp_updL v1.1 (slN (keyL w h mm tt)) (keyL w h mm tt), upd v1.2.1 (slN (keyL w h mm tt)) (zI f0), upd v1.2.2 (slN (keyL w h mm tt)) (zI z2)) ⟨(hm1.keep hd hpos (z1 := f0) (z2 := z2) (by omega) (by omega) (by omega) (by omega)), f0, rfl, by unfold scPost; omega, by omega, by omega⟩ hP hD hS dX3_remembered_178
      refine lv_iload hx hb dX3_remembered_166 (lv_at hl 0 rfl) ?_
      refine lv_goto (tgt := 173) hx hb dX3_remembered_168 (by decide) ?_
      refine mu_callv (wr := [(se, .inr (3, [.ref g, .ref me, .ref mi])), (mi, .inl (cJ, w, .inr (.inl (fun j => colL h (mid w j))))), (g, .inr (1, [.int (nI w), .int (nI h), .long (allL h w), .long (flrL h w), .ref st, .ref cs])), (st, .inl (cI, 4, .inl (fun j => nI (stp h j)))), (cs, .inl (cJ, w, .inr (.inl (fun j => colL h j))))]) (va_runV (As := [.long (keyL w h mm tt), .int (zI f0), .int (zI f0)]) (rest := []) ⟨hx, hb, hml, hown, hts⟩ (c_keep l D cI cJ cZ me ks le mo v1.1 v1.2.1 v1.2.2 (keyL w h mm tt) (zI f0) (zI f0) H.size) (cwV 3 hts gX3_remembered_X2_keep rfl rfl rfl (by decide +kernel) ⟨Nat.le_of_ble_eq_true rfl, Nat.le_of_ble_eq_true rfl⟩) ⟨MPc.blind, va_recv hK hP (ci := 2) (q0 := 5) rfl rfl, (MPc.at (hP.sub [5, 6, 7, 8] rfl) (hD.sub [5, 6, 7, 8] (by decide) rfl) hK hN)⟩ rfl rfl hl.1 rfl (lv_room (Nat.le_of_ble_eq_true rfl)) dX3_remembered_173 ⟨Nat.zero_le _, Nat.zero_le _⟩) hP hD hS hA [5, 6, 7, 8] [0, 1, 2, 3, 4] rfl rfl (by decide) (by decide) (fun u1 H locs hw hP hD hS => ?_)
      refine lv_iload hx hb dX3_remembered_176 (lv_at hl 0 rfl) ?_
      exact mu_iret (S := Mem) hx hb hr hlocks (vp_updL v1.1 (slN (keyL w h mm tt)) (keyL w h mm tt), upd v1.2.1 (slN (keyL w h mm tt)) (zI f0), upd v1.2.2 (slN (keyL w h mm tt)) (zI f0)) ⟨(hm1.keep hd hpos (z1 := f0) (z2 := f0) (by omega) (by omega) (by omega) (by omega)), f0, rfl, by unfold scPost; omega, by omega, by omega⟩ hP hD hS dX3_remembered_178
    refine lv_iload hx hb dX3_remembered_102 (lv_at hl 0 rfl) ?_
    exact mu_iret (S := Mem) hx hb hr hlocks u ⟨hmem, z2, rfl, by unfold scPost; omega, by omega, by omega⟩ hP hD hS dX3_remembered_104
  refine lv_iload hx hb dX3_remembered_92 (lv_at hl 1 rfl) ?_
  exact mu_iret (S := Mem) hx hb hr hlocks u ⟨hmem, z1, rfl, by unfold scPost; omega, by omega, by omega⟩ hP hD hS dX3_remembered_94

set_option maxHeartbeats 4000000 in
set_option maxRecDepth 100000 in
theorem c_score_s (l : Launch) (D : va_G) (cI cJ cZ : ClassId) (w h se mi g st cs me ks le mo d : Nat) (hd : Dm w h) (hRm : RemMet l D cI cJ cZ w h se mi g st cs me ks le mo d) : ScoreMet l D cI cJ cZ w h se mi g st cs me ks le mo (d + 1) := by
  intro u k tp M T mm tt low high sz hkd hpos hlh hlo hhi hmem
  have hd0 := hd
  obtain ⟨h3w, hw9, h3h, hh7, hwh, h64⟩ := hd0
  have hkb : k ≤ 63 := by have h1 := hpos.2.2.2.2.2.2.2; have h2 := emp_le (h := h) (tp := tp) w; omega
  refine mu_head (Qc := fun A => mQi D (fun r (v : Mem) => MemOK w h v ∧ ∃ z : Int, r = zI z ∧ scPost (Sc w h k tp M T) low high z ∧ -200 ≤ z ∧ z ≤ 200) (fun v => seU cI cJ w h se mi g st cs me ks le mo v) A) (cc := cX3_score) (maxL := 14) (ret := (some .int)) (by decide) rfl (Nat.le_of_ble_eq_true rfl) ?_
  intro p e s m below meth cd ls A hx hb hr hlocks hnm hts hown hml hA hP hK hD hN hS hl
  have hl : lv_has ls 14 [(0, .ref se), (1, .long mm), (3, .long tt), (5, .int (nI k)), (6, .int (zI low)), (7, .int (zI high))] := hl
  refine lv_iload hx hb dX3_score_0 (lv_at hl 3 rfl) ?_
  refine n_if_gt (tgt := 7) hx hb dX3_score_2 (by decide) (by omega) (fun c2_1 => ?_) (fun c2_1 => ?_)
  · skip
    obtain ⟨k1, rfl⟩ : ∃ k1, k = k1 + 1 := ⟨k - 1, by omega⟩
    have hSb := Sc_bd w h (k1 + 1) tp M T
    refine lv_lload_n hx hb dX3_score_7 rfl (lv_at hl 1 rfl) ?_
    refine lv_lload_n hx hb dX3_score_8 rfl (lv_at hl 2 rfl) ?_
    refine lv_lor hx hb dX3_score_9 ?_
    refine lv_lstore (lv' := [(8, .long (mm ||| tt)), (0, .ref se), (1, .long mm), (3, .long tt), (5, .int (nI (k1 + 1))), (6, .int (zI low)), (7, .int (zI high))]) hx hb dX3_score_10 hl (by decide) rfl (fun ls hl => ?_)
    refine lv_aload_n hx hb dX3_score_12 rfl (lv_at hl 1 rfl) ?_
    refine va_get (C := RX3) (T := TX3) (N := 3) hx hb hts (by decide +kernel) hown hK hP 0 rfl rfl 0 (by decide) (hts (.fieldLink RX3 16 RX3 "grid" "LDropFour$Grid;") (by decide +kernel)) (fun _ h9 => h9) rfl dX3_score_13 ?_
    refine lv_lload hx hb dX3_score_16 (lv_at hl 0 rfl) ?_
    refine ro_call (W.runV (As := [.long (mm ||| tt)]) (rest := []) ⟨hx, hb, hml, hown, hts⟩ (c_nextSquares l D cI cJ cZ w h g st cs (mm ||| tt)) (cwV 1 hts gX3_score_X1_nextSquares rfl rfl rfl (by decide +kernel) ⟨Nat.le_of_ble_eq_true rfl, Nat.le_of_ble_eq_true rfl⟩) ⟨RPc.blind, va_recv hK hP (ci := 1) (q0 := 2) rfl rfl, (RPc.at (hP.sub [2, 3, 4] rfl) hK hN)⟩ rfl rfl hl.1 rfl (lv_room (Nat.le_of_ble_eq_true rfl)) dX3_score_18 ⟨Nat.zero_le _, Nat.zero_le _⟩) ?_
    refine lv_lstore (lv' := [(10, .long (nxL w h (mm ||| tt))), (8, .long (mm ||| tt)), (0, .ref se), (1, .long mm), (3, .long tt), (5, .int (nI (k1 + 1))), (6, .int (zI low)), (7, .int (zI high))]) hx hb dX3_score_21 hl (by decide) rfl (fun ls hl => ?_)
    refine lv_aload_n hx hb dX3_score_23 rfl (lv_at hl 2 rfl) ?_
    refine va_get (C := RX3) (T := TX3) (N := 3) hx hb hts (by decide +kernel) hown hK hP 0 rfl rfl 0 (by decide) (hts (.fieldLink RX3 16 RX3 "grid" "LDropFour$Grid;") (by decide +kernel)) (fun _ h9 => h9) rfl dX3_score_24 ?_
    refine lv_lload_n hx hb dX3_score_27 rfl (lv_at hl 3 rfl) ?_
    refine lv_lload hx hb dX3_score_28 (lv_at hl 1 rfl) ?_
    refine ro_call (W.runV (As := [.long mm, .long (mm ||| tt)]) (rest := []) ⟨hx, hb, hml, hown, hts⟩ (c_threatSquares l D cI cJ cZ w h g st cs mm (mm ||| tt)) (cwV 2 hts gX3_score_X1_threatSquares rfl rfl rfl (by decide +kernel) ⟨Nat.le_of_ble_eq_true rfl, Nat.le_of_ble_eq_true rfl⟩) ⟨RPc.blind, va_recv hK hP (ci := 1) (q0 := 2) rfl rfl, (RPc.at (hP.sub [2, 3, 4] rfl) hK hN)⟩ rfl rfl hl.1 rfl (lv_room (Nat.le_of_ble_eq_true rfl)) dX3_score_30 ⟨Nat.zero_le _, Nat.zero_le _⟩) ?_
    refine lv_lload hx hb dX3_score_33 (lv_at hl 0 rfl) ?_
    refine lv_land hx hb dX3_score_35 ?_
    refine lv_lconst (v := 0) hx hb dX3_score_36 (by decide) ?_
    refine W.lcmp hx hb dX3_score_37 ?_
    refine l_if_eq (tgt := 44) hx hb dX3_score_38 (by decide) (fun c38_2 => ?_) (fun c38_2 => ?_)
    · skip
      have hnw : ∀ c, ¬ winsAt w h tp M c := fun c q => absurd c38_2 ((hpos.win hd).mpr ⟨c, q⟩)
      refine lv_lload hx hb dX3_score_44 (lv_at hl 0 rfl) ?_
      refine lv_aload_n hx hb dX3_score_46 rfl (lv_at hl 2 rfl) ?_
      refine va_get (C := RX3) (T := TX3) (N := 3) hx hb hts (by decide +kernel) hown hK hP 0 rfl rfl 0 (by decide) (hts (.fieldLink RX3 16 RX3 "grid" "LDropFour$Grid;") (by decide +kernel)) (fun _ h9 => h9) rfl dX3_score_47 ?_
      refine lv_lload_n hx hb dX3_score_50 rfl (lv_at hl 4 rfl) ?_
      refine lv_lload hx hb dX3_score_51 (lv_at hl 1 rfl) ?_
      refine ro_call (W.runV (As := [.long tt, .long (mm ||| tt)]) (rest := [.long (nxL w h (mm ||| tt))]) ⟨hx, hb, hml, hown, hts⟩ (c_threatSquares l D cI cJ cZ w h g st cs tt (mm ||| tt)) (cwV 2 hts gX3_score_X1_threatSquares rfl rfl rfl (by decide +kernel) ⟨Nat.le_of_ble_eq_true rfl, Nat.le_of_ble_eq_true rfl⟩) ⟨RPc.blind, va_recv hK hP (ci := 1) (q0 := 2) rfl rfl, (RPc.at (hP.sub [2, 3, 4] rfl) hK hN)⟩ rfl rfl hl.1 rfl (lv_room (Nat.le_of_ble_eq_true rfl)) dX3_score_53 ⟨Nat.zero_le _, Nat.zero_le _⟩) ?_
      refine ro_call (W.runS (As := [.long (nxL w h (mm ||| tt)), .long (thL w h tt (mm ||| tt))]) (rest := []) ⟨hx, hb, hml, hown, hts⟩ (c_safeMoves l D cI cJ cZ (nxL w h (mm ||| tt)) (thL w h tt (mm ||| tt))) (va_cwS 2 hts gX3_score_X3_safeMoves rfl rfl rfl (by decide +kernel) ⟨Nat.le_of_ble_eq_true rfl, Nat.le_of_ble_eq_true rfl⟩) ⟨RPc.blind, (RPc.at (hP.sub [] rfl) hK hN)⟩ rfl rfl hl.1 rfl (lv_room (Nat.le_of_ble_eq_true rfl)) dX3_score_56 ⟨Nat.zero_le _, Nat.zero_le _⟩) ?_
      refine rt_l (v := mvL w h mm tt) rfl ?_
      refine lv_lstore (lv' := [(12, .long (mvL w h mm tt)), (10, .long (nxL w h (mm ||| tt))), (8, .long (mm ||| tt)), (0, .ref se), (1, .long mm), (3, .long tt), (5, .int (nI (k1 + 1))), (6, .int (zI low)), (7, .int (zI high))]) hx hb dX3_score_59 hl (by decide) rfl (fun ls hl => ?_)
      refine lv_lload hx hb dX3_score_61 (lv_at hl 0 rfl) ?_
      refine lv_lconst (v := 0) hx hb dX3_score_63 (by decide) ?_
      refine W.lcmp hx hb dX3_score_64 ?_
      refine l_if_ne (tgt := 73) hx hb dX3_score_65 (by decide) (fun c65_3 => ?_) (fun c65_3 => ?_)
      · skip
        obtain ⟨c0, hc0, hr0, hs0⟩ := (hpos.mv0 hd).2 c65_3
        refine lv_iload hx hb dX3_score_73 (lv_at hl 6 rfl) ?_
        refine lv_iconst (v := nI 2) hx hb dX3_score_75 (by decide) ?_
        refine n_icmp_gt (tgt := 81) hx hb dX3_score_76 (by decide) (by omega) (by omega) (fun c76_4 => ?_) (fun c76_4 => ?_)
        · skip
          refine lv_aload_n hx hb dX3_score_81 rfl (lv_at hl 3 rfl) ?_
          refine lv_lload_n hx hb dX3_score_82 rfl (lv_at hl 4 rfl) ?_
          refine lv_lload_n hx hb dX3_score_83 rfl (lv_at hl 5 rfl) ?_
          refine lv_lload hx hb dX3_score_84 (lv_at hl 0 rfl) ?_
          refine lv_iload hx hb dX3_score_86 (lv_at hl 6 rfl) ?_
          refine lv_iload hx hb dX3_score_88 (lv_at hl 7 rfl) ?_
          refine lv_iload hx hb dX3_score_90 (lv_at hl 8 rfl) ?_
          refine mu_calli (wr := []) (va_runV (As := [.long mm, .long tt, .long (mvL w h mm tt), .int (nI (k1 + 1)), .int (zI low), .int (zI high)]) (rest := []) ⟨hx, hb, hml, hown, hts⟩ (hRm u k1 tp M T mm tt low high s.heap.size (by omega) (by omega) hpos hnw c65_3 hlh hlo hhi hmem) (cwV 6 hts gX3_score_X3_remembered rfl rfl rfl (by decide +kernel) ⟨by simp only [k2_rm]; omega, by simp only [k2_rm]; omega⟩) ⟨MPc.blind, va_recv hK hP (ci := 3) (q0 := 0) rfl rfl, (MPc.at (hP.sub [0, 1, 2, 3, 4, 5, 6, 7, 8] rfl) (hD.sub [0, 1, 2, 3, 4, 5, 6, 7, 8] (by decide) rfl) hK hN)⟩ rfl rfl hl.1 rfl (lv_room (Nat.le_of_ble_eq_true rfl)) dX3_score_92 ⟨Nat.zero_le _, Nat.zero_le _⟩) hP hD hS hA [0, 1, 2, 3, 4, 5, 6, 7, 8] [] rfl rfl (by decide) (by decide) (fun rr v1 H locs hw hP hD hS => ?_)
          obtain ⟨hm1, z, rfl, hz, hz1, hz2⟩ := hw
          exact mu_iret (S := Mem) hx hb hr hlocks v1 ⟨hm1, z, rfl, hz, hz1, hz2⟩ hP hD hS dX3_score_95
        have hSf := Sc_few hpos.2.2 hnw hc0 hr0 hs0 (by omega)
        refine lv_iconst (v := nI 0) hx hb dX3_score_79 (by decide) ?_
        exact mu_iret (S := Mem) hx hb hr hlocks u ⟨hmem, 0, rfl, by unfold scPost; omega, by omega, by omega⟩ hP hD hS dX3_score_80
      have hSl := Sc_lost hpos.2.2 hnw ((hpos.mv0 hd).1 c65_3)
      refine lv_iconst (v := nI 1) hx hb dX3_score_68 (by decide) ?_
      refine lv_iload hx hb dX3_score_69 (lv_at hl 6 rfl) ?_
      refine rt_2 (a := zI 1) (b := zI ((k1 + 1 : Nat) : Int)) rfl (zI_n _).symm ?_
      refine z_isub hx hb dX3_score_71 ?_
      exact mu_iret (S := Mem) hx hb hr hlocks u ⟨hmem, (1 - ((k1 + 1 : Nat) : Int)), rfl, by unfold scPost; omega, by omega, by omega⟩ hP hD hS dX3_score_72
    obtain ⟨c0, hw0⟩ := (hpos.win hd).mp c38_2
    have hSw := Sc_win (k := k1) (T := T) hw0
    refine lv_iload hx hb dX3_score_41 (lv_at hl 5 rfl) ?_
    exact mu_iret (S := Mem) hx hb hr hlocks u ⟨hmem, ((k1 + 1 : Nat) : Int), (zI_n _).symm, by unfold scPost; omega, by omega, by omega⟩ hP hD hS dX3_score_43
  subst c2_1
  refine lv_iconst (v := nI 0) hx hb dX3_score_5 (by decide) ?_
  exact mu_iret (S := Mem) hx hb hr hlocks u ⟨hmem, 0, rfl, Or.inl rfl, by omega, by omega⟩ hP hD hS dX3_score_6

set_option maxHeartbeats 4000000 in
set_option maxRecDepth 100000 in
theorem c_score_0 (l : Launch) (D : va_G) (cI cJ cZ : ClassId) (w h se mi g st cs me ks le mo : Nat) (hd : Dm w h) : ScoreMet l D cI cJ cZ w h se mi g st cs me ks le mo 0 := by
  intro u k tp M T mm tt low high sz hkd hpos hlh hlo hhi hmem
  refine mu_head (Qc := fun A => mQi D (fun r (v : Mem) => MemOK w h v ∧ ∃ z : Int, r = zI z ∧ scPost (Sc w h k tp M T) low high z ∧ -200 ≤ z ∧ z ≤ 200) (fun v => seU cI cJ w h se mi g st cs me ks le mo v) A) (cc := cX3_score) (maxL := 14) (ret := (some .int)) (by decide) rfl (Nat.le_of_ble_eq_true rfl) ?_
  intro p e s m below meth cd ls A hx hb hr hlocks hnm hts hown hml hA hP hK hD hN hS hl
  have hl : lv_has ls 14 [(0, .ref se), (1, .long mm), (3, .long tt), (5, .int (nI k)), (6, .int (zI low)), (7, .int (zI high))] := hl
  refine lv_iload hx hb dX3_score_0 (lv_at hl 3 rfl) ?_
  refine n_if_gt (tgt := 7) hx hb dX3_score_2 (by decide) (by omega) (fun c2_1 => ?_) (fun c2_1 => ?_)
  · skip
    omega
  subst c2_1
  refine lv_iconst (v := nI 0) hx hb dX3_score_5 (by decide) ?_
  exact mu_iret (S := Mem) hx hb hr hlocks u ⟨hmem, 0, rfl, Or.inl rfl, by omega, by omega⟩ hP hD hS dX3_score_6

theorem c_score (l : Launch) (D : va_G) (cI cJ cZ : ClassId) (w h se mi g st cs me ks le mo : Nat) (hd : Dm w h) : ∀ d, ScoreMet l D cI cJ cZ w h se mi g st cs me ks le mo d
  | 0 => c_score_0 l D cI cJ cZ w h se mi g st cs me ks le mo hd
  | d + 1 => c_score_s l D cI cJ cZ w h se mi g st cs me ks le mo d hd (c_remembered l D cI cJ cZ w h se mi g st cs me ks le mo d hd (c_tried l D cI cJ cZ w h se mi g st cs me ks le mo d hd (c_score l D cI cJ cZ w h se mi g st cs me ks le mo hd d)))
