theorem nw_in : ∀ w ∈ nwL, w ∈ lw_tbl := by decide +kernel
theorem tw_in : ∀ w ∈ twL, w ∈ lw_tbl := by decide +kernel
theorem st_in : ∀ q ∈ twS, Cond.stringRef RX4 q.1 q.2 ∈ lw_tbl := by decide +kernel
theorem st_in2 : ∀ q ∈ twS, Cond.exactly (.string RX4 q.1) "java/lang/String" ∈ flatC (Jvm.Cond.and given_1 narrow_1) := by decide +kernel
theorem dims (k1 k2 : Int32) : ∃ w h, Dm w h ∧ btI k1 9 = nI w ∧ btI k2 (if w = 9 then 6 else 7) = nI h := by
  obtain ⟨w, h1, h2, e1⟩ := btI_nat k1 (m0 := 9) (by decide) (by decide)
  obtain ⟨h, h3, h4, e2⟩ := btI_nat k2 (m0 := if w = 9 then 6 else 7) (by split <;> decide) (by split <;> decide)
  refine ⟨w, h, ⟨h1, h2, h3, by split at h4 <;> omega, ?_, ?_⟩, e1, e2⟩
  · by_cases z : w = 9
    · rw [if_pos z] at h4; exact Nat.le_trans (Nat.mul_le_mul (Nat.le_of_eq z) h4) (by decide)
    · rw [if_neg z] at h4; exact Nat.le_trans (Nat.mul_le_mul (show w ≤ 8 by omega) h4) (by decide)
  · by_cases z : w = 9
    · rw [if_pos z] at h4; exact Nat.le_trans (Nat.mul_le_mul (Nat.le_of_eq z) (Nat.succ_le_succ h4)) (by decide)
    · rw [if_neg z] at h4; exact Nat.le_trans (Nat.mul_le_mul (show w ≤ 8 by omega) (Nat.succ_le_succ h4)) (by decide)
theorem arr_of {s : State} {A : Array Value} {ty : FieldType} (h : (Cond.arrayClass ty).before A s = true) : ∃ cA, ArrOfT s cA ty ∧ s.vm.findClass ("[" ++ ty.toString) = some cA := by
  obtain ⟨c, k, comp, h1, h2, h3⟩ := Cond.arrayClass_spec h
  exact ⟨c, fun N z => ⟨(fun k h => by cases h), k, h2, comp, h3⟩, h1⟩
theorem str_of {s : State} {A : Array Value} {k : Nat} {tx : String} (h1 : (Cond.stringRef RX4 k tx).before A s = true) (h2 : (Cond.exactly (.string RX4 k) "java/lang/String").before A s = true) : ∃ sa, vk_R RX4 k tx sa s := by
  obtain ⟨a, c, cell, kk, q1, -⟩ := Cond.exactly_spec h2
  exact ⟨a, vk_R.of h1 q1⟩
set_option maxHeartbeats 4000000 in
set_option maxRecDepth 100000 in
theorem whole_start {p : Program} {e : Env} {s : State} {m : MethodId} {below : List Frame} {meth : Method} {cd : Code} (l : Launch) (hlt : l.stackTraces = false) {b L : Nat} {xs : Nat → Int32} (hL : L ≤ 1538) (C0 : lw_At p s m meth cd b L xs) : W p l e room_1 s m #[Value.ref b] below meth cd s.heap [] 0 0 (lw_Z below #[Value.ref b] s) (entryFrame m ([Value.ref b] : List Value).toArray 7) := by
  obtain ⟨hx, hb, hr, hml, hown, hts0, hX, hbl, hlocks, hgv⟩ := id C0
  have hown : s.vm.findClass RL = some m.cls := hown
  have hts : ∀ w ∈ wsL_law, w.before #[Value.ref b] s = true := fun w hw => hts0 w (wsL_law_in w hw)
  have hgs := flat_of_before _ hgv
  have hA : ∀ q : Nat, s.heap.size ≤ q → (fun q : Nat => s.heap.size ≤ q) q := fun _ h => h
  have hbA : ¬ (fun q : Nat => s.heap.size ≤ q) b := Nat.not_le.mpr hbl
  obtain ⟨c0, i0, hKn0⟩ := u_known (C := RX0) (T := TX0) (N := 1) (n := 1) hts0 inX0 (hts0 (.instantiable RX0 1) (by decide +kernel))
  obtain ⟨c1, i1, hKn1⟩ := u_known (C := RX1) (T := TX1) (N := 6) (n := 6) hts0 inX1 (hts0 (.instantiable RX1 6) (by decide +kernel))
  obtain ⟨c2, i2, hKn2⟩ := u_known (C := RX2) (T := TX2) (N := 3) (n := 3) hts0 inX2 (hts0 (.instantiable RX2 3) (by decide +kernel))
  obtain ⟨c3, i3, hKn3⟩ := u_known (C := RX3) (T := TX3) (N := 3) (n := 3) hts0 inX3 (hts0 (.instantiable RX3 3) (by decide +kernel))
  obtain ⟨c4, i4, hKn4⟩ := u_known (C := RX4) (T := TX4) (N := 7) (n := 7) hts0 inX4 (hts0 (.instantiable RX4 7) (by decide +kernel))
  obtain ⟨c5, i5, hKn5⟩ := u_known (C := RX5) (T := TX5) (N := 19) (n := 19) hts0 inX5 (hts0 (.instantiable RX5 19) (by decide +kernel))
  obtain ⟨D, hKc⟩ : ∃ D : va_G, ∀ (k : Nat) (q : vw_C), vwCl[k]? = some q → u_Kn s q.1 q.2.1 q.2.2 (D.1 k) (D.2 k) := by
    refine ⟨(fun k => match k with | 0 => c0 | 1 => c1 | 2 => c2 | 3 => c3 | 4 => c4 | _ => c5, fun k => match k with | 0 => i0 | 1 => i1 | 2 => i2 | 3 => i3 | 4 => i4 | _ => i5), ?_⟩
    intro k q hq
    match k, hq with
    | 0, hq => cases hq; exact hKn0
    | 1, hq => cases hq; exact hKn1
    | 2, hq => cases hq; exact hKn2
    | 3, hq => cases hq; exact hKn3
    | 4, hq => cases hq; exact hKn4
    | 5, hq => cases hq; exact hKn5
    | k + 6, hq => simp [vwCl] at hq
  obtain ⟨cI, hI1, hI2⟩ := arr_of (hts0 (.arrayClass .int) (by decide +kernel))
  obtain ⟨cJ, hJ1, hJ2⟩ := arr_of (hts0 (.arrayClass .long) (by decide +kernel))
  obtain ⟨cZ, hZ1, hZ2⟩ := arr_of (hts0 (.arrayClass .boolean) (by decide +kernel))
  have hK : va_K D vwCl (tyA cI cJ cZ) s := by
    refine ⟨hKc, fun k q hk => ?_⟩
    match k, hk with
    | 0, hk => cases hk; exact ⟨hI1, hI2⟩
    | 1, hk => cases hk; exact ⟨hJ1, hJ2⟩
    | 2, hk => cases hk; exact ⟨hZ1, hZ2⟩
    | k + 3, hk => simp [tyA] at hk
  have hN : NWa s := by
    intro w hw
    have hin : w ∈ lw_tbl := nw_in w hw
    simp only [nwL, List.mem_cons, List.not_mem_nil, or_false] at hw
    rcases hw with rfl | rfl | rfl | rfl | rfl | rfl | rfl | rfl | rfl | rfl | rfl | rfl | rfl
    all_goals exact va_Nw.of rfl (hts0 _ hin)
  have hT : TwA s := by
    refine ⟨fun w hw => ?_, fun q hq => ?_⟩
    · have hin : w ∈ lw_tbl := tw_in w hw
      simp only [twL, List.mem_cons, List.not_mem_nil, or_false] at hw
      rcases hw with rfl | rfl | rfl | rfl | rfl | rfl
      all_goals exact va_Nw.of rfl (hts0 _ hin)
    · have h1 := hts0 (.stringRef RX4 q.1 q.2) (st_in q hq)
      have h2 := hgs (.exactly (.string RX4 q.1) "java/lang/String") (st_in2 q hq)
      exact str_of h1 h2
  have hZ : TwZ s s.heap := ⟨vx_Zqof (hts0 (.laysStatic Bundle.tN "UNASSIGNED_STACK" Bundle.steD) (by decide +kernel)) (hts0 (.initialized Bundle.tN) (by decide +kernel)) (hgs (.isRef (.static Bundle.tN "UNASSIGNED_STACK" Bundle.steD)) (by decide +kernel)) (fun _ _ h => h),
    vx_Zqof (hts0 (.laysStatic Bundle.tN "SUPPRESSED_SENTINEL" Bundle.listD) (by decide +kernel)) (hts0 (.initialized Bundle.tN) (by decide +kernel)) (hgs (.isRef (.static Bundle.tN "SUPPRESSED_SENTINEL" Bundle.listD)) (by decide +kernel)) (fun _ _ h => h)⟩
  have hc0 : va_Nc eIS eIA s := va_Nc.of (hgs (.not (.castable eIS eIA)) (by decide +kernel))
  obtain ⟨w, h, hd, hwk, hhk⟩ := dims (clI L xs 0) (clI L xs 1)
  have hS : va_S (fun q : Nat => s.heap.size ≤ q) s.heap s.heap [] := va_S.rf
  have hP : va_P D vwCl [] s.heap := fun k q h => by simp at h
  have hD : va_D (fun q : Nat => s.heap.size ≤ q) [] := ⟨fun i j p q h => by simp at h, fun k q h => by simp at h⟩
  have hl := lv_entry ([.ref b]) (n := 7) (Nat.le_of_ble_eq_true rfl)
  rw [lg_entry_eq]
  generalize (lg_sl ([.ref b]) ++ List.replicate (7 - (lg_sl ([.ref b])).length) Slot.unset).toArray = ls at hl ⊢
  have hl : lv_has ls 7 [(0, .ref b)] := hl
  refine va_new (ci := 4) (fs := [.null, .null, .null, .null, .null, .null, .int 0]) (C := RX4) (T := TX4) (N := 7) hx hb hts inlX4 tyX4 tyX4_ok hown (hts (.classLink RL 8 RX4) (by decide +kernel)) (hts (.instantiable RX4 7) (by decide +kernel)) (hts (.initialized RX4) (by decide +kernel)) hK hP hD hS hA rfl (by decide) (by show _ ≤ 601024; omega) (by show _ ≤ 7293000; omega) dL_law_0 (fun x H hP hD hS => ?_)
  have hP : va_P D vwCl [(x, .inr (4, [.null, .null, .null, .null, .null, .null, .int 0]))] H := hP
  have hD : va_D (fun q : Nat => s.heap.size ≤ q) [(x, .inr (4, [.null, .null, .null, .null, .null, .null, .int 0]))] := hD
  refine lv_dup hx hb dL_law_3 rfl ?_
  refine lv_aload_n hx hb dL_law_4 rfl (lv_at hl 0 rfl) ?_
  refine lv_iconst (v := nI 0) hx hb dL_law_5 (by decide) ?_
  refine ro_call (W.runS (As := [.ref b, .int (nI 0)]) (rest := [.ref x, .ref x]) ⟨hx, hb, hml, hown, hts⟩ (c_cell l b L xs 0 (by decide) hL) (va_cwS 2 hts gL_law_L_cell rfl rfl rfl (by decide +kernel) ⟨Nat.le_of_ble_eq_true rfl, Nat.le_of_ble_eq_true rfl⟩) ⟨CPc.blind, CPc.at (X.later hX hbl hS).1 (X.later hX hbl hS).2⟩ rfl rfl hl.1 rfl (lv_room (Nat.le_of_ble_eq_true rfl)) dL_law_6 ⟨by show _ ≤ 601024; omega, by show _ ≤ 7293000; omega⟩) ?_
  refine lv_aload_n hx hb dL_law_9 rfl (lv_at hl 0 rfl) ?_
  refine lv_iconst (v := nI 1) hx hb dL_law_10 (by decide) ?_
  refine ro_call (W.runS (As := [.ref b, .int (nI 1)]) (rest := [.int (clI L xs 0), .ref x, .ref x]) ⟨hx, hb, hml, hown, hts⟩ (c_cell l b L xs 1 (by decide) hL) (va_cwS 2 hts gL_law_L_cell rfl rfl rfl (by decide +kernel) ⟨Nat.le_of_ble_eq_true rfl, Nat.le_of_ble_eq_true rfl⟩) ⟨CPc.blind, CPc.at (X.later hX hbl hS).1 (X.later hX hbl hS).2⟩ rfl rfl hl.1 rfl (lv_room (Nat.le_of_ble_eq_true rfl)) dL_law_11 ⟨by show _ ≤ 601024; omega, by show _ ≤ 7293000; omega⟩) ?_
  refine mu_callv (wr := []) (va_runI (As := [.int (clI L xs 0), .int (clI L xs 1)]) (rest := [.ref x]) ⟨hx, hb, hml, hown, hts⟩ (i_X4 l D cI cJ cZ w h x (clI L xs 0) (clI L xs 1) H.size hd hwk hhk) (cwI 2 hts gL_law_X4_init rfl rfl rfl (hts (.initialized RX4) (by decide +kernel)) (hts (.methodLink RL 52 yX4_init) (by decide +kernel)) (hts (.instanceMethod yX4_init) (by decide +kernel)) rfl (by decide +kernel) ⟨Nat.le_of_ble_eq_true rfl, Nat.le_of_ble_eq_true rfl⟩) ⟨MPc.blind, (MPc.at (hP.sub [0] rfl) (hD.sub [0] (by decide) rfl) hK hN)⟩ rfl rfl hl.1 rfl (lv_room (Nat.le_of_ble_eq_true rfl)) dL_law_14 ⟨by show _ ≤ 601024; omega, by show _ ≤ 7293000; omega⟩) hP hD hS hA [0] [] rfl rfl (by decide) (by decide) (fun ax H locs hw hP hD hS => ?_)
  have hP : va_P D vwCl (dW cI cJ w h x ax (fun _ => 0) (fun _ => 0) (fun _ => 0) 0 ((fun _ => 0), (fun _ => 0), (fun _ => 0))) H := hP
  have hD : va_D (fun q : Nat => s.heap.size ≤ q) (dW cI cJ w h x ax (fun _ => 0) (fun _ => 0) (fun _ => 0) 0 ((fun _ => 0), (fun _ => 0), (fun _ => 0))) := hD
  refine lv_astore_n (lv' := [(1, .ref x), (0, .ref b)]) hx hb dL_law_17 rfl hl (by decide) rfl (fun ls hl => ?_)
  refine va_new (ci := 5) (fs := [.int (nI 0), .int (nI 0), .int (nI 0), .null, .null, .null, .int (nI 0), .int (nI 0), .int (nI 0), .null, .null, .null, .null, .null, .null, .null, .null, .null, .null]) (C := RX5) (T := TX5) (N := 19) hx hb hts inlX5 tyX5 tyX5_ok hown (hts (.classLink RL 55 RX5) (by decide +kernel)) (hts (.instantiable RX5 19) (by decide +kernel)) (hts (.initialized RX5) (by decide +kernel)) hK hP hD hS hA rfl (by decide) (by show _ ≤ 601024; omega) (by show _ ≤ 7293000; omega) dL_law_18 (fun a H hP hD hS => ?_)
  have hP : va_P D vwCl (dW cI cJ w h x ax (fun _ => 0) (fun _ => 0) (fun _ => 0) 0 ((fun _ => 0), (fun _ => 0), (fun _ => 0)) ++ [(a, .inr (5, [.int (nI 0), .int (nI 0), .int (nI 0), .null, .null, .null, .int (nI 0), .int (nI 0), .int (nI 0), .null, .null, .null, .null, .null, .null, .null, .null, .null, .null]))]) H := hP
  have hD : va_D (fun q : Nat => s.heap.size ≤ q) (dW cI cJ w h x ax (fun _ => 0) (fun _ => 0) (fun _ => 0) 0 ((fun _ => 0), (fun _ => 0), (fun _ => 0)) ++ [(a, .inr (5, [.int (nI 0), .int (nI 0), .int (nI 0), .null, .null, .null, .int (nI 0), .int (nI 0), .int (nI 0), .null, .null, .null, .null, .null, .null, .null, .null, .null, .null]))]) := hD
  refine lv_dup hx hb dL_law_21 rfl ?_
  refine lv_aload_n hx hb dL_law_22 rfl (lv_at hl 1 rfl) ?_
  refine lv_iconst (v := nI 0) hx hb dL_law_23 (by decide) ?_
  refine ro_call (W.runS (As := [.ref b, .int (nI 0)]) (rest := [.ref a, .ref a]) ⟨hx, hb, hml, hown, hts⟩ (c_cell l b L xs 0 (by decide) hL) (va_cwS 2 hts gL_law_L_cell rfl rfl rfl (by decide +kernel) ⟨Nat.le_of_ble_eq_true rfl, Nat.le_of_ble_eq_true rfl⟩) ⟨CPc.blind, CPc.at (X.later hX hbl hS).1 (X.later hX hbl hS).2⟩ rfl rfl hl.1 rfl (lv_room (Nat.le_of_ble_eq_true rfl)) dL_law_24 ⟨by show _ ≤ 601024; omega, by show _ ≤ 7293000; omega⟩) ?_
  refine lv_aload_n hx hb dL_law_27 rfl (lv_at hl 1 rfl) ?_
  refine lv_iconst (v := nI 1) hx hb dL_law_28 (by decide) ?_
  refine ro_call (W.runS (As := [.ref b, .int (nI 1)]) (rest := [.int (clI L xs 0), .ref a, .ref a]) ⟨hx, hb, hml, hown, hts⟩ (c_cell l b L xs 1 (by decide) hL) (va_cwS 2 hts gL_law_L_cell rfl rfl rfl (by decide +kernel) ⟨Nat.le_of_ble_eq_true rfl, Nat.le_of_ble_eq_true rfl⟩) ⟨CPc.blind, CPc.at (X.later hX hbl hS).1 (X.later hX hbl hS).2⟩ rfl rfl hl.1 rfl (lv_room (Nat.le_of_ble_eq_true rfl)) dL_law_29 ⟨by show _ ≤ 601024; omega, by show _ ≤ 7293000; omega⟩) ?_
  refine mu_callv (wr := dW cI cJ w h x ax (fun _ => 0) (fun _ => 0) (fun _ => 0) 0 ((fun _ => 0), (fun _ => 0), (fun _ => 0))) (va_runI (As := [.int (clI L xs 0), .int (clI L xs 1)]) (rest := [.ref a]) ⟨hx, hb, hml, hown, hts⟩ (i_X5 l D cI cJ cZ w h a (clI L xs 0) (clI L xs 1) H.size hd hwk hhk) (cwI 2 hts gL_law_X5_init rfl rfl rfl (hts (.initialized RX5) (by decide +kernel)) (hts (.methodLink RL 57 yX5_init) (by decide +kernel)) (hts (.instanceMethod yX5_init) (by decide +kernel)) rfl (by decide +kernel) ⟨Nat.le_of_ble_eq_true rfl, Nat.le_of_ble_eq_true rfl⟩) ⟨MPc.blind, (MPc.at (hP.sub [14] rfl) (hD.sub [14] (by decide) rfl) hK hN)⟩ rfl rfl hl.1 rfl (lv_room (Nat.le_of_ble_eq_true rfl)) dL_law_32 ⟨by show _ ≤ 601024; omega, by show _ ≤ 7293000; omega⟩) hP hD hS hA [14] [0, 1, 2, 3, 4, 5, 6, 7, 8, 9, 10, 11, 12, 13] rfl rfl (by decide) (by decide) (fun ad H locs hw hP hD hS => ?_)
  rw [← hw]
  have hP : va_P D vwCl (dW cI cJ w h x ax (fun _ => 0) (fun _ => 0) (fun _ => 0) 0 ((fun _ => 0), (fun _ => 0), (fun _ => 0)) ++ (mW5 cI cZ ad w h 0 0 0 0 (bdF 63) (fun _ => 0) (fun _ => 0) (fun _ => 0) (fun _ => 0) (fun _ => 0) (fun _ => 0) (fun _ => 0) (fun _ => 0) (fun _ => 0) (fun _ => 0) (fun _ => 0) (fun _ => 0))) H := hP
  have hD : va_D (fun q : Nat => s.heap.size ≤ q) (dW cI cJ w h x ax (fun _ => 0) (fun _ => 0) (fun _ => 0) 0 ((fun _ => 0), (fun _ => 0), (fun _ => 0)) ++ (mW5 cI cZ ad w h 0 0 0 0 (bdF 63) (fun _ => 0) (fun _ => 0) (fun _ => 0) (fun _ => 0) (fun _ => 0) (fun _ => 0) (fun _ => 0) (fun _ => 0) (fun _ => 0) (fun _ => 0) (fun _ => 0) (fun _ => 0))) := hD
  refine lv_astore_n (lv' := [(2, .ref (ad 0)), (1, .ref x), (0, .ref b)]) hx hb dL_law_35 rfl hl (by decide) rfl (fun ls hl => ?_)
  refine lv_iconst (v := nI 1) hx hb dL_law_36 (by decide) ?_
  refine n_newa (a0 := (1, .inr (.inl (fun _ => 0)))) hx hb (ty := .long) rfl (hts (.arrayClass .long) (by decide +kernel)) hK hP hD hS hA 1 rfl rfl (fun _ => rfl) (by omega) (by show _ * 8 ≤ _; omega) (by show _ ≤ 601024; omega) (by show _ ≤ 7293000; omega) dL_law_37 (fun ou H hP hD hS => ?_)
  have hP : va_P D vwCl (dW cI cJ w h x ax (fun _ => 0) (fun _ => 0) (fun _ => 0) 0 ((fun _ => 0), (fun _ => 0), (fun _ => 0)) ++ (mW5 cI cZ ad w h 0 0 0 0 (bdF 63) (fun _ => 0) (fun _ => 0) (fun _ => 0) (fun _ => 0) (fun _ => 0) (fun _ => 0) (fun _ => 0) (fun _ => 0) (fun _ => 0) (fun _ => 0) (fun _ => 0) (fun _ => 0)) ++ [(ou, .inl (cJ, 1, .inr (.inl (fun _ => 0))))]) H := hP
  have hD : va_D (fun q : Nat => s.heap.size ≤ q) (dW cI cJ w h x ax (fun _ => 0) (fun _ => 0) (fun _ => 0) 0 ((fun _ => 0), (fun _ => 0), (fun _ => 0)) ++ (mW5 cI cZ ad w h 0 0 0 0 (bdF 63) (fun _ => 0) (fun _ => 0) (fun _ => 0) (fun _ => 0) (fun _ => 0) (fun _ => 0) (fun _ => 0) (fun _ => 0) (fun _ => 0) (fun _ => 0) (fun _ => 0) (fun _ => 0)) ++ [(ou, .inl (cJ, 1, .inr (.inl (fun _ => 0))))]) := hD
  refine lv_astore_n (lv' := [(3, .ref ou), (2, .ref (ad 0)), (1, .ref x), (0, .ref b)]) hx hb dL_law_39 rfl hl (by decide) rfl (fun ls hl => ?_)
  refine lv_iconst (v := nI 2) hx hb dL_law_40 (by decide) ?_
  refine lv_istore (lv' := [(4, .int (nI 2)), (3, .ref ou), (2, .ref (ad 0)), (1, .ref x), (0, .ref b)]) hx hb dL_law_41 hl (by decide) rfl (fun ls hl => ?_)
  have hP : va_P D vwCl (cW cI cJ w h x ax ou [] ((fun _ => 0), (fun _ => 0), ((fun _ => 0), (fun _ => 0), (fun _ => 0))) (fun _ => 0) ++ rW cI cZ ad w h [] ((0, 0, (fun _ => 0)), (0, (fun _ => 0), (fun _ => 0), (fun _ => 0), (fun _ => 0), (fun _ => 0), (fun _ => 0), (fun _ => 0), (fun _ => 0), (fun _ => 0)), (fun _ => 0))) H := hP.sub [28, 0, 1, 2, 3, 4, 5, 6, 7, 8, 9, 10, 11, 12, 13, 14, 15, 16, 17, 18, 19, 20, 21, 22, 23, 24, 25, 26, 27] rfl
  have hD : va_D (fun q : Nat => s.heap.size ≤ q) (cW cI cJ w h x ax ou [] ((fun _ => 0), (fun _ => 0), ((fun _ => 0), (fun _ => 0), (fun _ => 0))) (fun _ => 0) ++ rW cI cZ ad w h [] ((0, 0, (fun _ => 0)), (0, (fun _ => 0), (fun _ => 0), (fun _ => 0), (fun _ => 0), (fun _ => 0), (fun _ => 0), (fun _ => 0), (fun _ => 0), (fun _ => 0)), (fun _ => 0))) := hD.sub [28, 0, 1, 2, 3, 4, 5, 6, 7, 8, 9, 10, 11, 12, 13, 14, 15, 16, 17, 18, 19, 20, 21, 22, 23, 24, 25, 26, 27] (by decide) rfl
  refine W.widen (k := 29 + 0) (n := 481613 + 6 * 0) (by omega) (by omega) ?_
  refine law_loop l hlt (x := x) (ou := ou) (ax := ax) (ad := ad) ⟨hx, hb, hr, hml, hown, hts, hX, hbl, hlocks, hK, hN, hT, hZ, hc0, hd, hL⟩ L 0 [] _ _ _ H locs ls (by omega) (by omega) ⟨trivial, ⟨RS.new hd rfl rfl, trivial, MemOK.new hd _ _⟩, ⟨trivial, fun _ => (by show (0 : Nat) < 8192; decide), fun _ => (by show (0 : Nat) < 8192; decide), fun _ _ => rfl, Or.inl rfl⟩, hP, hD, hS⟩ (lv_sub hl [4, 3, 2, 1, 0] rfl)
