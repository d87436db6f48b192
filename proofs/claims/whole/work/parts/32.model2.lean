theorem upd_back {f : Nat → Int32} {i : Nat} {a b : Int32} (h : f i = b) : upd (upd f i a) i b = f := by
  funext j
  by_cases e : j = i
  · subst e; rw [pk_us, h]
  · rw [pk_un e, pk_un e]
def thN (a b : Bool) : Nat := if a then 1 else if b then 2 else 0
theorem thN_0 (a b : Bool) : (a || b) = false → thN a b = 0 := by cases a <;> cases b <;> decide
theorem ic_no {w : Nat} {k : Int32} (h : icB w k = false) : k < 0 ∨ nI w ≤ k := by
  unfold icB at h
  by_cases h1 : k < 0
  · exact Or.inl h1
  · by_cases h2 : nI w ≤ k
    · exact Or.inr h2
    · simp [h1, h2] at h
def ifB (w h : Nat) (B : Nat → Int32) (ht dr : Nat → Nat) (n : Nat) : Bool := decide (0 ≤ wnowI w h B ht dr n) || decide (12 < w * h - n)
def sumN (f : Nat → Nat) : Nat → Nat
  | 0 => 0
  | n + 1 => sumN f n + f n
theorem sumN_le {f : Nat → Nat} {b : Nat} (h : ∀ i, f i ≤ b) : ∀ n, sumN f n ≤ n * b
  | 0 => by simp [sumN]
  | n + 1 => by
    have := sumN_le h n
    have := h n
    unfold sumN
    rw [Nat.succ_mul]; omega
def opF (w h : Nat) (B : Nat → Int32) (pl c r : Nat) : Nat → Nat := fun way => if isq w h (zI (lcZ way 3 (c : Int))) (zI (lrZ way 3 (r : Int))) = true ∧ mnN B (c : Int) (r : Int) way pl 4 = 0 then 1 else 0
def opR (w h : Nat) (B : Nat → Int32) (pl c : Nat) : Nat → Nat := fun r => sumN (opF w h B pl c r) 4
def opC (w h : Nat) (B : Nat → Int32) (pl : Nat) : Nat → Nat := fun c => sumN (opR w h B pl c) h
def opN (w h : Nat) (B : Nat → Int32) (pl : Nat) : Nat := sumN (opC w h B pl) w
def tsF (w h : Nat) (B : Nat → Int32) (pl c : Nat) : Nat → Nat := fun r => if B (7 * c + r) = -1 ∧ itB w h B c r pl = true then 1 else 0
def tsC (w h : Nat) (B : Nat → Int32) (pl : Nat) : Nat → Nat := fun c => sumN (tsF w h B pl c) h
def tsN (w h : Nat) (B : Nat → Int32) (pl : Nat) : Nat := sumN (tsC w h B pl) w
theorem ip_no {k : Int32} (h : ipB k = false) : k < 0 ∨ ¬ k ≤ 1 := by
  unfold ipB at h
  by_cases h1 : k < 0
  · exact Or.inl h1
  · obtain ⟨j, hj, rfl⟩ := nI_of h1
    refine Or.inr (fun q => ?_)
    have q2 : j ≤ 1 := (nI_leI hj (by decide)).mp q
    obtain rfl | rfl : j = 0 ∨ j = 1 := by omega
    · revert h; decide
    · revert h; decide
set_option maxHeartbeats 4000000 in
set_option maxRecDepth 100000 in
theorem c5_refused (l : Launch) (D : va_G) (cI cJ cZ : ClassId) (ad : Nat → Nat) (w h th n kn po : Nat) (B : Nat → Int32) (ht dr wh sb : Nat → Nat) (V : Nat → Int32) (la sl we of_ : Nat → Nat) (Sn : Nat → Int32) (tp re : Nat → Nat) (a b : Bool) (sz : Nat)  : Met l yX5_refused wsX5_refused (k2_rm 0 0) (MPc D [.ref (ad 0), .int (bI a), .int (bI b)] (mW5 cI cZ ad w h th n kn po B ht dr wh sb V la sl we of_ Sn tp re) (tyA cI cJ cZ) sz) (mQi D (fun r9 (_ : Unit) => r9 = bI (a || b)) (fun _ => (mW5 cI cZ ad w h (thN a b) n kn po B ht dr wh sb V la sl we of_ Sn tp re)) (va_A (mW5 cI cZ ad w h th n kn po B ht dr wh sb V la sl we of_ Sn tp re) sz)) 0 0 (va_A (mW5 cI cZ ad w h th n kn po B ht dr wh sb V la sl we of_ Sn tp re) sz) := by
  refine mu_head (Qc := fun A => mQi D (fun r9 (_ : Unit) => r9 = bI (a || b)) (fun _ => (mW5 cI cZ ad w h (thN a b) n kn po B ht dr wh sb V la sl we of_ Sn tp re)) A) (cc := cX5_refused) (maxL := 3) (ret := (some .boolean)) (by decide) rfl (Nat.le_of_ble_eq_true rfl) ?_
  intro p e s m below meth cd ls A hx hb hr hlocks hnm hts hown hml hA hP hK hD hN hS hl
  have hl : lv_has ls 3 [(0, .ref (ad 0)), (1, .int (bI a)), (2, .int (bI b))] := hl
  refine lv_aload_n hx hb dX5_refused_0 rfl (lv_at hl 0 rfl) ?_
  refine lv_iload_n hx hb dX5_refused_1 rfl (lv_at hl 1 rfl) ?_
  refine b_if_eq (tgt := 9) hx hb dX5_refused_2 (by decide) (fun c2_1 => ?_) (fun c2_1 => ?_)
  · skip
    refine lv_iload_n hx hb dX5_refused_9 rfl (lv_at hl 2 rfl) ?_
    refine b_if_eq (tgt := 17) hx hb dX5_refused_10 (by decide) (fun c10_2 => ?_) (fun c10_2 => ?_)
    · skip
      refine lv_iconst (v := nI 0) hx hb dX5_refused_17 (by decide) ?_
      refine va_put (ty := .int) (C := RX5) (T := TX5) (N := 19) hx hb hts (by decide +kernel) tyX5 tyX5_ok nmX5 hown hK hP hD hS 0 rfl rfl 0 (by decide) (hts (.fieldLink RX5 59 RX5 "thrown" "I") (by decide +kernel)) (fun _ h9 => h9) rfl (by decide +kernel) rfl rfl (Nat.le_of_ble_eq_true rfl) dX5_refused_18 (fun H locs hP hD hS => ?_)
      have hP : va_P D vwCl (mW5 cI cZ ad w h 0 n kn po B ht dr wh sb V la sl we of_ Sn tp re) H := hP
      have hD : va_D A (mW5 cI cZ ad w h 0 n kn po B ht dr wh sb V la sl we of_ Sn tp re) := hD
      refine lv_aload_n hx hb dX5_refused_21 rfl (lv_at hl 0 rfl) ?_
      refine va_get (C := RX5) (T := TX5) (N := 19) hx hb hts (by decide +kernel) hown hK hP 0 rfl rfl 0 (by decide) (hts (.fieldLink RX5 59 RX5 "thrown" "I") (by decide +kernel)) (fun _ h9 => h9) rfl dX5_refused_22 ?_
      refine n_if_le (tgt := 32) hx hb dX5_refused_25 (by decide) (by decide) (fun _ => ?_) (fun c25_3 => absurd c25_3 (by decide))
      refine lv_iconst (v := nI 0) hx hb dX5_refused_32 (by decide) ?_
      have eth : thN a b = 0 := by simp [thN, c2_1, c10_2]
      have hP : va_P D vwCl (mW5 cI cZ ad w h (thN a b) n kn po B ht dr wh sb V la sl we of_ Sn tp re) H := by rw [eth]; exact hP
      have hD : va_D A (mW5 cI cZ ad w h (thN a b) n kn po B ht dr wh sb V la sl we of_ Sn tp re) := by rw [eth]; exact hD
      exact mu_zret (S := Unit) (wf := fun _ => (mW5 cI cZ ad w h (thN a b) n kn po B ht dr wh sb V la sl we of_ Sn tp re)) hx hb hr hlocks (by first | rfl | exact bI_nar _) () (by rw [show (a || b) = false by simp [c2_1, c10_2]]; rfl) hP hD hS dX5_refused_33
    refine lv_iconst (v := nI 2) hx hb dX5_refused_13 (by decide) ?_
    refine lv_goto (tgt := 18) hx hb dX5_refused_14 (by decide) ?_
    refine va_put (ty := .int) (C := RX5) (T := TX5) (N := 19) hx hb hts (by decide +kernel) tyX5 tyX5_ok nmX5 hown hK hP hD hS 0 rfl rfl 0 (by decide) (hts (.fieldLink RX5 59 RX5 "thrown" "I") (by decide +kernel)) (fun _ h9 => h9) rfl (by decide +kernel) rfl rfl (Nat.le_of_ble_eq_true rfl) dX5_refused_18 (fun H locs hP hD hS => ?_)
    have hP : va_P D vwCl (mW5 cI cZ ad w h 2 n kn po B ht dr wh sb V la sl we of_ Sn tp re) H := hP
    have hD : va_D A (mW5 cI cZ ad w h 2 n kn po B ht dr wh sb V la sl we of_ Sn tp re) := hD
    refine lv_aload_n hx hb dX5_refused_21 rfl (lv_at hl 0 rfl) ?_
    refine va_get (C := RX5) (T := TX5) (N := 19) hx hb hts (by decide +kernel) hown hK hP 0 rfl rfl 0 (by decide) (hts (.fieldLink RX5 59 RX5 "thrown" "I") (by decide +kernel)) (fun _ h9 => h9) rfl dX5_refused_22 ?_
    refine n_if_le (tgt := 32) hx hb dX5_refused_25 (by decide) (by decide) (fun c25_4 => absurd c25_4 (by decide)) (fun _ => ?_)
    refine lv_iconst (v := nI 1) hx hb dX5_refused_28 (by decide) ?_
    refine lv_goto (tgt := 33) hx hb dX5_refused_29 (by decide) ?_
    have eth : thN a b = 2 := by simp [thN, c2_1, c10_2]
    have hP : va_P D vwCl (mW5 cI cZ ad w h (thN a b) n kn po B ht dr wh sb V la sl we of_ Sn tp re) H := by rw [eth]; exact hP
    have hD : va_D A (mW5 cI cZ ad w h (thN a b) n kn po B ht dr wh sb V la sl we of_ Sn tp re) := by rw [eth]; exact hD
    exact mu_zret (S := Unit) (wf := fun _ => (mW5 cI cZ ad w h (thN a b) n kn po B ht dr wh sb V la sl we of_ Sn tp re)) hx hb hr hlocks (by first | rfl | exact bI_nar _) () (by rw [show (a || b) = true by simp [c2_1, c10_2]]; rfl) hP hD hS dX5_refused_33
  refine lv_iconst (v := nI 1) hx hb dX5_refused_5 (by decide) ?_
  refine lv_goto (tgt := 18) hx hb dX5_refused_6 (by decide) ?_
  refine va_put (ty := .int) (C := RX5) (T := TX5) (N := 19) hx hb hts (by decide +kernel) tyX5 tyX5_ok nmX5 hown hK hP hD hS 0 rfl rfl 0 (by decide) (hts (.fieldLink RX5 59 RX5 "thrown" "I") (by decide +kernel)) (fun _ h9 => h9) rfl (by decide +kernel) rfl rfl (Nat.le_of_ble_eq_true rfl) dX5_refused_18 (fun H locs hP hD hS => ?_)
  have hP : va_P D vwCl (mW5 cI cZ ad w h 1 n kn po B ht dr wh sb V la sl we of_ Sn tp re) H := hP
  have hD : va_D A (mW5 cI cZ ad w h 1 n kn po B ht dr wh sb V la sl we of_ Sn tp re) := hD
  refine lv_aload_n hx hb dX5_refused_21 rfl (lv_at hl 0 rfl) ?_
  refine va_get (C := RX5) (T := TX5) (N := 19) hx hb hts (by decide +kernel) hown hK hP 0 rfl rfl 0 (by decide) (hts (.fieldLink RX5 59 RX5 "thrown" "I") (by decide +kernel)) (fun _ h9 => h9) rfl dX5_refused_22 ?_
  refine n_if_le (tgt := 32) hx hb dX5_refused_25 (by decide) (by decide) (fun c25_5 => absurd c25_5 (by decide)) (fun _ => ?_)
  refine lv_iconst (v := nI 1) hx hb dX5_refused_28 (by decide) ?_
  refine lv_goto (tgt := 33) hx hb dX5_refused_29 (by decide) ?_
  have eth : thN a b = 1 := by simp [thN, c2_1]
  have hP : va_P D vwCl (mW5 cI cZ ad w h (thN a b) n kn po B ht dr wh sb V la sl we of_ Sn tp re) H := by rw [eth]; exact hP
  have hD : va_D A (mW5 cI cZ ad w h (thN a b) n kn po B ht dr wh sb V la sl we of_ Sn tp re) := by rw [eth]; exact hD
  exact mu_zret (S := Unit) (wf := fun _ => (mW5 cI cZ ad w h (thN a b) n kn po B ht dr wh sb V la sl we of_ Sn tp re)) hx hb hr hlocks (by first | rfl | exact bI_nar _) () (by rw [show (a || b) = true by simp [c2_1]]; rfl) hP hD hS dX5_refused_33

set_option maxHeartbeats 4000000 in
set_option maxRecDepth 100000 in
theorem c5_turn (l : Launch) (D : va_G) (cI cJ cZ : ClassId) (ad : Nat → Nat) (w h th n kn po : Nat) (B : Nat → Int32) (ht dr wh sb : Nat → Nat) (V : Nat → Int32) (la sl we of_ : Nat → Nat) (Sn : Nat → Int32) (tp re : Nat → Nat)  (sz : Nat) (hd : Dm w h) (hn : n ≤ w * h) : Met l yX5_turn wsX5_turn (k2_rm 0 0) (MPc D [.ref (ad 0)] (mW5 cI cZ ad w h th n kn po B ht dr wh sb V la sl we of_ Sn tp re) (tyA cI cJ cZ) sz) (mQi D (fun r9 (_ : Unit) => r9 = nI (n % 2)) (fun _ => (mW5 cI cZ ad w h 0 n kn po B ht dr wh sb V la sl we of_ Sn tp re)) (va_A (mW5 cI cZ ad w h th n kn po B ht dr wh sb V la sl we of_ Sn tp re) sz)) 0 0 (va_A (mW5 cI cZ ad w h th n kn po B ht dr wh sb V la sl we of_ Sn tp re) sz) := by
  refine mu_head (Qc := fun A => mQi D (fun r9 (_ : Unit) => r9 = nI (n % 2)) (fun _ => (mW5 cI cZ ad w h 0 n kn po B ht dr wh sb V la sl we of_ Sn tp re)) A) (cc := cX5_turn) (maxL := 1) (ret := (some .int)) (by decide) rfl (Nat.le_of_ble_eq_true rfl) ?_
  intro p e s m below meth cd ls A hx hb hr hlocks hnm hts hown hml hA hP hK hD hN hS hl
  have hl : lv_has ls 1 [(0, .ref (ad 0))] := hl
  have hd0 := hd
  obtain ⟨h3w, hw9, h3h, hh7, hwh, h64⟩ := hd0
  refine lv_aload_n hx hb dX5_turn_0 rfl (lv_at hl 0 rfl) ?_
  refine lv_iconst (v := nI 0) hx hb dX5_turn_1 (by decide) ?_
  refine va_put (ty := .int) (C := RX5) (T := TX5) (N := 19) hx hb hts (by decide +kernel) tyX5 tyX5_ok nmX5 hown hK hP hD hS 0 rfl rfl 0 (by decide) (hts (.fieldLink RX5 59 RX5 "thrown" "I") (by decide +kernel)) (fun _ h9 => h9) rfl (by decide +kernel) rfl rfl (Nat.le_of_ble_eq_true rfl) dX5_turn_2 (fun H locs hP hD hS => ?_)
  have hP : va_P D vwCl (mW5 cI cZ ad w h 0 n kn po B ht dr wh sb V la sl we of_ Sn tp re) H := hP
  have hD : va_D A (mW5 cI cZ ad w h 0 n kn po B ht dr wh sb V la sl we of_ Sn tp re) := hD
  refine lv_aload_n hx hb dX5_turn_5 rfl (lv_at hl 0 rfl) ?_
  refine va_get (C := RX5) (T := TX5) (N := 19) hx hb hts (by decide +kernel) hown hK hP 0 rfl rfl 6 (by decide) (hts (.fieldLink RX5 70 RX5 "n" "I") (by decide +kernel)) (fun _ h9 => h9) rfl dX5_turn_6 ?_
  refine lv_iconst (v := nI 2) hx hb dX5_turn_9 (by decide) ?_
  refine n_irem hx hb dX5_turn_10 (by omega) (by omega) (by omega) ?_
  exact mu_iret (S := Unit) (wf := fun _ => (mW5 cI cZ ad w h 0 n kn po B ht dr wh sb V la sl we of_ Sn tp re)) hx hb hr hlocks () rfl hP hD hS dX5_turn_11

set_option maxHeartbeats 4000000 in
set_option maxRecDepth 100000 in
theorem c5_empty (l : Launch) (D : va_G) (cI cJ cZ : ClassId) (ad : Nat → Nat) (w h th n kn po : Nat) (B : Nat → Int32) (ht dr wh sb : Nat → Nat) (V : Nat → Int32) (la sl we of_ : Nat → Nat) (Sn : Nat → Int32) (tp re : Nat → Nat)  (sz : Nat) (hd : Dm w h) (hn : n ≤ w * h) : Met l yX5_empty wsX5_empty (k2_rm 0 0) (MPc D [.ref (ad 0)] (mW5 cI cZ ad w h th n kn po B ht dr wh sb V la sl we of_ Sn tp re) (tyA cI cJ cZ) sz) (mQi D (fun r9 (_ : Unit) => r9 = nI (w * h - n)) (fun _ => (mW5 cI cZ ad w h 0 n kn po B ht dr wh sb V la sl we of_ Sn tp re)) (va_A (mW5 cI cZ ad w h th n kn po B ht dr wh sb V la sl we of_ Sn tp re) sz)) 0 0 (va_A (mW5 cI cZ ad w h th n kn po B ht dr wh sb V la sl we of_ Sn tp re) sz) := by
  refine mu_head (Qc := fun A => mQi D (fun r9 (_ : Unit) => r9 = nI (w * h - n)) (fun _ => (mW5 cI cZ ad w h 0 n kn po B ht dr wh sb V la sl we of_ Sn tp re)) A) (cc := cX5_empty) (maxL := 1) (ret := (some .int)) (by decide) rfl (Nat.le_of_ble_eq_true rfl) ?_
  intro p e s m below meth cd ls A hx hb hr hlocks hnm hts hown hml hA hP hK hD hN hS hl
  have hl : lv_has ls 1 [(0, .ref (ad 0))] := hl
  have hd0 := hd
  obtain ⟨h3w, hw9, h3h, hh7, hwh, h64⟩ := hd0
  refine lv_aload_n hx hb dX5_empty_0 rfl (lv_at hl 0 rfl) ?_
  refine lv_iconst (v := nI 0) hx hb dX5_empty_1 (by decide) ?_
  refine va_put (ty := .int) (C := RX5) (T := TX5) (N := 19) hx hb hts (by decide +kernel) tyX5 tyX5_ok nmX5 hown hK hP hD hS 0 rfl rfl 0 (by decide) (hts (.fieldLink RX5 59 RX5 "thrown" "I") (by decide +kernel)) (fun _ h9 => h9) rfl (by decide +kernel) rfl rfl (Nat.le_of_ble_eq_true rfl) dX5_empty_2 (fun H locs hP hD hS => ?_)
  have hP : va_P D vwCl (mW5 cI cZ ad w h 0 n kn po B ht dr wh sb V la sl we of_ Sn tp re) H := hP
  have hD : va_D A (mW5 cI cZ ad w h 0 n kn po B ht dr wh sb V la sl we of_ Sn tp re) := hD
  refine lv_aload_n hx hb dX5_empty_5 rfl (lv_at hl 0 rfl) ?_
  refine va_get (C := RX5) (T := TX5) (N := 19) hx hb hts (by decide +kernel) hown hK hP 0 rfl rfl 1 (by decide) (hts (.fieldLink RX5 52 RX5 "w" "I") (by decide +kernel)) (fun _ h9 => h9) rfl dX5_empty_6 ?_
  refine lv_aload_n hx hb dX5_empty_9 rfl (lv_at hl 0 rfl) ?_
  refine va_get (C := RX5) (T := TX5) (N := 19) hx hb hts (by decide +kernel) hown hK hP 0 rfl rfl 2 (by decide) (hts (.fieldLink RX5 56 RX5 "h" "I") (by decide +kernel)) (fun _ h9 => h9) rfl dX5_empty_10 ?_
  refine n_imul hx hb dX5_empty_13 ?_
  refine lv_aload_n hx hb dX5_empty_14 rfl (lv_at hl 0 rfl) ?_
  refine va_get (C := RX5) (T := TX5) (N := 19) hx hb hts (by decide +kernel) hown hK hP 0 rfl rfl 6 (by decide) (hts (.fieldLink RX5 70 RX5 "n" "I") (by decide +kernel)) (fun _ h9 => h9) rfl dX5_empty_15 ?_
  refine n_isub hx hb dX5_empty_18 (by omega) ?_
  exact mu_iret (S := Unit) (wf := fun _ => (mW5 cI cZ ad w h 0 n kn po B ht dr wh sb V la sl we of_ Sn tp re)) hx hb hr hlocks () rfl hP hD hS dX5_empty_19

set_option maxHeartbeats 4000000 in
set_option maxRecDepth 100000 in
theorem c5_winner (l : Launch) (D : va_G) (cI cJ cZ : ClassId) (ad : Nat → Nat) (w h th n kn po : Nat) (B : Nat → Int32) (ht dr wh sb : Nat → Nat) (V : Nat → Int32) (la sl we of_ : Nat → Nat) (Sn : Nat → Int32) (tp re : Nat → Nat)  (sz : Nat) (hd : Dm w h) (hn : n ≤ w * h) (hlast : 0 < n → dr (n - 1) < w ∧ 1 ≤ ht (dr (n - 1)) ∧ ht (dr (n - 1)) ≤ h) : Met l yX5_winner wsX5_winner (k2_rm 4 95) (MPc D [.ref (ad 0)] (mW5 cI cZ ad w h th n kn po B ht dr wh sb V la sl we of_ Sn tp re) (tyA cI cJ cZ) sz) (mQi D (fun r9 (_ : Unit) => r9 = wnowI w h B ht dr n) (fun _ => (mW5 cI cZ ad w h 0 n kn po B ht dr wh sb V la sl we of_ Sn tp re)) (va_A (mW5 cI cZ ad w h th n kn po B ht dr wh sb V la sl we of_ Sn tp re) sz)) 0 0 (va_A (mW5 cI cZ ad w h th n kn po B ht dr wh sb V la sl we of_ Sn tp re) sz) := by
  refine mu_head (Qc := fun A => mQi D (fun r9 (_ : Unit) => r9 = wnowI w h B ht dr n) (fun _ => (mW5 cI cZ ad w h 0 n kn po B ht dr wh sb V la sl we of_ Sn tp re)) A) (cc := cX5_winner) (maxL := 1) (ret := (some .int)) (by decide) rfl (Nat.le_of_ble_eq_true rfl) ?_
  intro p e s m below meth cd ls A hx hb hr hlocks hnm hts hown hml hA hP hK hD hN hS hl
  have hl : lv_has ls 1 [(0, .ref (ad 0))] := hl
  have hd0 := hd
  obtain ⟨h3w, hw9, h3h, hh7, hwh, h64⟩ := hd0
  refine lv_aload_n hx hb dX5_winner_0 rfl (lv_at hl 0 rfl) ?_
  refine lv_iconst (v := nI 0) hx hb dX5_winner_1 (by decide) ?_
  refine va_put (ty := .int) (C := RX5) (T := TX5) (N := 19) hx hb hts (by decide +kernel) tyX5 tyX5_ok nmX5 hown hK hP hD hS 0 rfl rfl 0 (by decide) (hts (.fieldLink RX5 59 RX5 "thrown" "I") (by decide +kernel)) (fun _ h9 => h9) rfl (by decide +kernel) rfl rfl (Nat.le_of_ble_eq_true rfl) dX5_winner_2 (fun H locs hP hD hS => ?_)
  have hP : va_P D vwCl (mW5 cI cZ ad w h 0 n kn po B ht dr wh sb V la sl we of_ Sn tp re) H := hP
  have hD : va_D A (mW5 cI cZ ad w h 0 n kn po B ht dr wh sb V la sl we of_ Sn tp re) := hD
  refine lv_aload_n hx hb dX5_winner_5 rfl (lv_at hl 0 rfl) ?_
  refine ro_call (W.runV (As := []) (rest := []) ⟨hx, hb, hml, hown, hts⟩ (c_winnerNow l D cI cJ cZ ad w h 0 n kn po B ht dr wh sb V la sl we of_ Sn tp re hd hn hlast) (cwV 0 hts gX5_winner_X5_winnerNow rfl rfl rfl (by decide +kernel) ⟨Nat.le_of_ble_eq_true rfl, Nat.le_of_ble_eq_true rfl⟩) ⟨RPc.blind, va_recv hK hP (ci := 5) (q0 := 0) rfl rfl, (RPc.at (hP.sub [0, 1, 2, 3, 4, 5, 6, 7, 8, 9, 10, 11, 12, 13] rfl) hK hN)⟩ rfl rfl hl.1 rfl (lv_room (Nat.le_of_ble_eq_true rfl)) dX5_winner_6 ⟨Nat.zero_le _, Nat.zero_le _⟩) ?_
  exact mu_iret (S := Unit) (wf := fun _ => (mW5 cI cZ ad w h 0 n kn po B ht dr wh sb V la sl we of_ Sn tp re)) hx hb hr hlocks () rfl hP hD hS dX5_winner_9

set_option maxHeartbeats 4000000 in
set_option maxRecDepth 100000 in
theorem c5_thrown (l : Launch) (D : va_G) (cI cJ cZ : ClassId) (ad : Nat → Nat) (w h th n kn po : Nat) (B : Nat → Int32) (ht dr wh sb : Nat → Nat) (V : Nat → Int32) (la sl we of_ : Nat → Nat) (Sn : Nat → Int32) (tp re : Nat → Nat)  (sz : Nat)  : Met l yX5_thrown wsX5_thrown (k2_rm 0 0) (MPc D [.ref (ad 0)] (mW5 cI cZ ad w h th n kn po B ht dr wh sb V la sl we of_ Sn tp re) (tyA cI cJ cZ) sz) (mQi D (fun r9 (_ : Unit) => r9 = nI th) (fun _ => (mW5 cI cZ ad w h th n kn po B ht dr wh sb V la sl we of_ Sn tp re)) (va_A (mW5 cI cZ ad w h th n kn po B ht dr wh sb V la sl we of_ Sn tp re) sz)) 0 0 (va_A (mW5 cI cZ ad w h th n kn po B ht dr wh sb V la sl we of_ Sn tp re) sz) := by
  refine mu_head (Qc := fun A => mQi D (fun r9 (_ : Unit) => r9 = nI th) (fun _ => (mW5 cI cZ ad w h th n kn po B ht dr wh sb V la sl we of_ Sn tp re)) A) (cc := cX5_thrown) (maxL := 1) (ret := (some .int)) (by decide) rfl (Nat.le_of_ble_eq_true rfl) ?_
  intro p e s m below meth cd ls A hx hb hr hlocks hnm hts hown hml hA hP hK hD hN hS hl
  have hl : lv_has ls 1 [(0, .ref (ad 0))] := hl
  refine lv_aload_n hx hb dX5_thrown_0 rfl (lv_at hl 0 rfl) ?_
  refine va_get (C := RX5) (T := TX5) (N := 19) hx hb hts (by decide +kernel) hown hK hP 0 rfl rfl 0 (by decide) (hts (.fieldLink RX5 59 RX5 "thrown" "I") (by decide +kernel)) (fun _ h9 => h9) rfl dX5_thrown_1 ?_
  exact mu_iret (S := Unit) (wf := fun _ => (mW5 cI cZ ad w h th n kn po B ht dr wh sb V la sl we of_ Sn tp re)) hx hb hr hlocks () rfl hP hD hS dX5_thrown_4

set_option maxHeartbeats 4000000 in
set_option maxRecDepth 100000 in
theorem c5_drop_bad (l : Launch) (D : va_G) (cI cJ cZ : ClassId) (ad : Nat → Nat) (w h th n kn po : Nat) (B : Nat → Int32) (ht dr wh sb : Nat → Nat) (V : Nat → Int32) (la sl we of_ : Nat → Nat) (Sn : Nat → Int32) (tp re : Nat → Nat) (k : Int32) (sz : Nat) (hd : Dm w h) (hn : n ≤ w * h) (hlast : 0 < n → dr (n - 1) < w ∧ 1 ≤ ht (dr (n - 1)) ∧ ht (dr (n - 1)) ≤ h) (hk : icB w k = false) : Met l yX5_drop wsX5_drop (k2_rm 4 95) (MPc D [.ref (ad 0), .int k] (mW5 cI cZ ad w h th n kn po B ht dr wh sb V la sl we of_ Sn tp re) (tyA cI cJ cZ) sz) (mQi D (fun r9 (_ : Unit) => r9 = nI 0) (fun _ => (mW5 cI cZ ad w h 1 n kn po B ht dr wh sb V la sl we of_ Sn tp re)) (va_A (mW5 cI cZ ad w h th n kn po B ht dr wh sb V la sl we of_ Sn tp re) sz)) 0 0 (va_A (mW5 cI cZ ad w h th n kn po B ht dr wh sb V la sl we of_ Sn tp re) sz) := by
  refine mu_head (Qc := fun A => mQi D (fun r9 (_ : Unit) => r9 = nI 0) (fun _ => (mW5 cI cZ ad w h 1 n kn po B ht dr wh sb V la sl we of_ Sn tp re)) A) (cc := cX5_drop) (maxL := 4) (ret := (some .int)) (by decide) rfl (Nat.le_of_ble_eq_true rfl) ?_
  intro p e s m below meth cd ls A hx hb hr hlocks hnm hts hown hml hA hP hK hD hN hS hl
  have hl : lv_has ls 4 [(0, .ref (ad 0)), (1, .int k)] := hl
  have hd0 := hd
  obtain ⟨h3w, hw9, h3h, hh7, hwh, h64⟩ := hd0
  refine lv_iload_n hx hb dX5_drop_0 rfl (lv_at hl 1 rfl) ?_
  refine lv_if_lt (tgt := 12) hx hb dX5_drop_1 (by decide) (fun c1_1 => ?_) (fun c1_1 => ?_)
  · skip
    refine lv_iconst (v := nI 1) hx hb dX5_drop_12 (by decide) ?_
    refine lv_goto (tgt := 17) hx hb dX5_drop_13 (by decide) ?_
    refine lv_istore_n (lv' := [(2, .int (nI 1)), (0, .ref (ad 0)), (1, .int k)]) hx hb dX5_drop_17 rfl hl (by decide) rfl (fun ls hl => ?_)
    refine lv_aload_n hx hb dX5_drop_18 rfl (lv_at hl 1 rfl) ?_
    refine lv_iload_n hx hb dX5_drop_19 rfl (lv_at hl 0 rfl) ?_
    refine rt_i (v := bI true) rfl ?_
    refine lv_iload_n hx hb dX5_drop_20 rfl (lv_at hl 0 rfl) ?_
    refine n_if_ne (tgt := 48) hx hb dX5_drop_21 (by decide) (by decide) (fun _ => ?_) (fun c21_2 => absurd c21_2 (by decide))
    refine lv_iconst (v := nI 0) hx hb dX5_drop_48 (by decide) ?_
    refine rt_i (v := bI false) rfl ?_
    refine mu_calli (wr := []) (va_runV (As := [.int (bI true), .int (bI false)]) (rest := []) ⟨hx, hb, hml, hown, hts⟩ (c5_refused l D cI cJ cZ ad w h th n kn po B ht dr wh sb V la sl we of_ Sn tp re true false _ ) (cwV 2 hts gX5_drop_X5_refused rfl rfl rfl (by decide +kernel) ⟨Nat.le_of_ble_eq_true rfl, Nat.le_of_ble_eq_true rfl⟩) ⟨MPc.blind, va_recv hK hP (ci := 5) (q0 := 0) rfl rfl, (MPc.at (hP.sub [0, 1, 2, 3, 4, 5, 6, 7, 8, 9, 10, 11, 12, 13] rfl) (hD.sub [0, 1, 2, 3, 4, 5, 6, 7, 8, 9, 10, 11, 12, 13] (by decide) rfl) hK hN)⟩ rfl rfl hl.1 rfl (lv_room (Nat.le_of_ble_eq_true rfl)) dX5_drop_49 ⟨Nat.zero_le _, Nat.zero_le _⟩) hP hD hS hA [0, 1, 2, 3, 4, 5, 6, 7, 8, 9, 10, 11, 12, 13] [] rfl rfl (by decide) (by decide) (fun rr u1 H locs hw hP hD hS => ?_)
    obtain rfl := hw
    have hP : va_P D vwCl (mW5 cI cZ ad w h (thN true false) n kn po B ht dr wh sb V la sl we of_ Sn tp re) H := hP
    have hD : va_D A (mW5 cI cZ ad w h (thN true false) n kn po B ht dr wh sb V la sl we of_ Sn tp re) := hD
    refine b_if_eq (tgt := 57) hx hb dX5_drop_52 (by decide) (fun c52_3 => absurd c52_3 (by decide)) (fun _ => ?_)
    refine lv_iconst (v := nI 0) hx hb dX5_drop_55 (by decide) ?_
    exact mu_iret (S := Unit) (wf := fun _ => (mW5 cI cZ ad w h 1 n kn po B ht dr wh sb V la sl we of_ Sn tp re)) hx hb hr hlocks () rfl hP hD hS dX5_drop_56
  refine lv_iload_n hx hb dX5_drop_4 rfl (lv_at hl 1 rfl) ?_
  refine lv_aload_n hx hb dX5_drop_5 rfl (lv_at hl 0 rfl) ?_
  refine va_get (C := RX5) (T := TX5) (N := 19) hx hb hts (by decide +kernel) hown hK hP 0 rfl rfl 1 (by decide) (hts (.fieldLink RX5 52 RX5 "w" "I") (by decide +kernel)) (fun _ h9 => h9) rfl dX5_drop_6 ?_
  refine lv_icmp_lt (tgt := 16) hx hb dX5_drop_9 (by decide) (fun c9_4 => ?_) (fun c9_4 => ?_)
  · exact absurd c9_4 (fun q => (ic_no hk).elim c1_1 (Int32.not_le.mpr q))
  refine lv_iconst (v := nI 1) hx hb dX5_drop_12 (by decide) ?_
  refine lv_goto (tgt := 17) hx hb dX5_drop_13 (by decide) ?_
  refine lv_istore_n (lv' := [(2, .int (nI 1)), (0, .ref (ad 0)), (1, .int k)]) hx hb dX5_drop_17 rfl hl (by decide) rfl (fun ls hl => ?_)
  refine lv_aload_n hx hb dX5_drop_18 rfl (lv_at hl 1 rfl) ?_
  refine lv_iload_n hx hb dX5_drop_19 rfl (lv_at hl 0 rfl) ?_
  refine rt_i (v := bI true) rfl ?_
  refine lv_iload_n hx hb dX5_drop_20 rfl (lv_at hl 0 rfl) ?_
  refine n_if_ne (tgt := 48) hx hb dX5_drop_21 (by decide) (by decide) (fun _ => ?_) (fun c21_5 => absurd c21_5 (by decide))
  refine lv_iconst (v := nI 0) hx hb dX5_drop_48 (by decide) ?_
  refine rt_i (v := bI false) rfl ?_
  refine mu_calli (wr := []) (va_runV (As := [.int (bI true), .int (bI false)]) (rest := []) ⟨hx, hb, hml, hown, hts⟩ (c5_refused l D cI cJ cZ ad w h th n kn po B ht dr wh sb V la sl we of_ Sn tp re true false _ ) (cwV 2 hts gX5_drop_X5_refused rfl rfl rfl (by decide +kernel) ⟨Nat.le_of_ble_eq_true rfl, Nat.le_of_ble_eq_true rfl⟩) ⟨MPc.blind, va_recv hK hP (ci := 5) (q0 := 0) rfl rfl, (MPc.at (hP.sub [0, 1, 2, 3, 4, 5, 6, 7, 8, 9, 10, 11, 12, 13] rfl) (hD.sub [0, 1, 2, 3, 4, 5, 6, 7, 8, 9, 10, 11, 12, 13] (by decide) rfl) hK hN)⟩ rfl rfl hl.1 rfl (lv_room (Nat.le_of_ble_eq_true rfl)) dX5_drop_49 ⟨Nat.zero_le _, Nat.zero_le _⟩) hP hD hS hA [0, 1, 2, 3, 4, 5, 6, 7, 8, 9, 10, 11, 12, 13] [] rfl rfl (by decide) (by decide) (fun rr u1 H locs hw hP hD hS => ?_)
  obtain rfl := hw
  have hP : va_P D vwCl (mW5 cI cZ ad w h (thN true false) n kn po B ht dr wh sb V la sl we of_ Sn tp re) H := hP
  have hD : va_D A (mW5 cI cZ ad w h (thN true false) n kn po B ht dr wh sb V la sl we of_ Sn tp re) := hD
  refine b_if_eq (tgt := 57) hx hb dX5_drop_52 (by decide) (fun c52_6 => absurd c52_6 (by decide)) (fun _ => ?_)
  refine lv_iconst (v := nI 0) hx hb dX5_drop_55 (by decide) ?_
  exact mu_iret (S := Unit) (wf := fun _ => (mW5 cI cZ ad w h 1 n kn po B ht dr wh sb V la sl we of_ Sn tp re)) hx hb hr hlocks () rfl hP hD hS dX5_drop_56

set_option maxHeartbeats 4000000 in
set_option maxRecDepth 100000 in
theorem c5_drop_no (l : Launch) (D : va_G) (cI cJ cZ : ClassId) (ad : Nat → Nat) (w h th n kn po : Nat) (B : Nat → Int32) (ht dr wh sb : Nat → Nat) (V : Nat → Int32) (la sl we of_ : Nat → Nat) (Sn : Nat → Int32) (tp re : Nat → Nat) (c : Nat) (sz : Nat) (hd : Dm w h) (hn : n ≤ w * h) (hlast : 0 < n → dr (n - 1) < w ∧ 1 ≤ ht (dr (n - 1)) ∧ ht (dr (n - 1)) ≤ h) (hc : c < w) (hht : ht c ≤ h) (hov : 0 ≤ wnowI w h B ht dr n ∨ ht c = h) : Met l yX5_drop wsX5_drop (k2_rm 4 95) (MPc D [.ref (ad 0), .int (nI c)] (mW5 cI cZ ad w h th n kn po B ht dr wh sb V la sl we of_ Sn tp re) (tyA cI cJ cZ) sz) (mQi D (fun r9 (_ : Unit) => r9 = nI 0) (fun _ => (mW5 cI cZ ad w h 2 n kn po B ht dr wh sb V la sl we of_ Sn tp re)) (va_A (mW5 cI cZ ad w h th n kn po B ht dr wh sb V la sl we of_ Sn tp re) sz)) 0 0 (va_A (mW5 cI cZ ad w h th n kn po B ht dr wh sb V la sl we of_ Sn tp re) sz) := by
  refine mu_head (Qc := fun A => mQi D (fun r9 (_ : Unit) => r9 = nI 0) (fun _ => (mW5 cI cZ ad w h 2 n kn po B ht dr wh sb V la sl we of_ Sn tp re)) A) (cc := cX5_drop) (maxL := 4) (ret := (some .int)) (by decide) rfl (Nat.le_of_ble_eq_true rfl) ?_
  intro p e s m below meth cd ls A hx hb hr hlocks hnm hts hown hml hA hP hK hD hN hS hl
  have hl : lv_has ls 4 [(0, .ref (ad 0)), (1, .int (nI c))] := hl
  have hd0 := hd
  obtain ⟨h3w, hw9, h3h, hh7, hwh, h64⟩ := hd0
  refine lv_iload_n hx hb dX5_drop_0 rfl (lv_at hl 1 rfl) ?_
  refine lv_if_lt (tgt := 12) hx hb dX5_drop_1 (by decide) (fun c1_1 => ?_) (fun c1_1 => ?_)
  · exact absurd c1_1 (nI_pos (by omega))
  refine lv_iload_n hx hb dX5_drop_4 rfl (lv_at hl 1 rfl) ?_
  refine lv_aload_n hx hb dX5_drop_5 rfl (lv_at hl 0 rfl) ?_
  refine va_get (C := RX5) (T := TX5) (N := 19) hx hb hts (by decide +kernel) hown hK hP 0 rfl rfl 1 (by decide) (hts (.fieldLink RX5 52 RX5 "w" "I") (by decide +kernel)) (fun _ h9 => h9) rfl dX5_drop_6 ?_
  refine n_icmp_lt (tgt := 16) hx hb dX5_drop_9 (by decide) (by omega) (by omega) (fun c9_2 => ?_) (fun c9_2 => ?_)
  · skip
    refine lv_iconst (v := nI 0) hx hb dX5_drop_16 (by decide) ?_
    refine lv_istore_n (lv' := [(2, .int (nI 0)), (0, .ref (ad 0)), (1, .int (nI c))]) hx hb dX5_drop_17 rfl hl (by decide) rfl (fun ls hl => ?_)
    refine lv_aload_n hx hb dX5_drop_18 rfl (lv_at hl 1 rfl) ?_
    refine lv_iload_n hx hb dX5_drop_19 rfl (lv_at hl 0 rfl) ?_
    refine rt_i (v := bI false) rfl ?_
    refine lv_iload_n hx hb dX5_drop_20 rfl (lv_at hl 0 rfl) ?_
    refine n_if_ne (tgt := 48) hx hb dX5_drop_21 (by decide) (by decide) (fun c21_3 => absurd c21_3 (by decide)) (fun _ => ?_)
    refine lv_aload_n hx hb dX5_drop_24 rfl (lv_at hl 1 rfl) ?_
    refine ro_call (W.runV (As := []) (rest := [.int (bI false), .ref (ad 0)]) ⟨hx, hb, hml, hown, hts⟩ (c_winnerNow l D cI cJ cZ ad w h th n kn po B ht dr wh sb V la sl we of_ Sn tp re hd hn hlast) (cwV 0 hts gX5_drop_X5_winnerNow rfl rfl rfl (by decide +kernel) ⟨Nat.le_of_ble_eq_true rfl, Nat.le_of_ble_eq_true rfl⟩) ⟨RPc.blind, va_recv hK hP (ci := 5) (q0 := 0) rfl rfl, (RPc.at (hP.sub [0, 1, 2, 3, 4, 5, 6, 7, 8, 9, 10, 11, 12, 13] rfl) hK hN)⟩ rfl rfl hl.1 rfl (lv_room (Nat.le_of_ble_eq_true rfl)) dX5_drop_25 ⟨Nat.zero_le _, Nat.zero_le _⟩) ?_
    refine lv_if_ge (tgt := 44) hx hb dX5_drop_28 (by decide) (fun c28_4 => ?_) (fun c28_4 => ?_)
    · skip
      refine lv_iconst (v := nI 1) hx hb dX5_drop_44 (by decide) ?_
      refine rt_i (v := bI true) rfl ?_
      refine lv_goto (tgt := 49) hx hb dX5_drop_45 (by decide) ?_
      refine mu_calli (wr := []) (va_runV (As := [.int (bI false), .int (bI true)]) (rest := []) ⟨hx, hb, hml, hown, hts⟩ (c5_refused l D cI cJ cZ ad w h th n kn po B ht dr wh sb V la sl we of_ Sn tp re false true _ ) (cwV 2 hts gX5_drop_X5_refused rfl rfl rfl (by decide +kernel) ⟨Nat.le_of_ble_eq_true rfl, Nat.le_of_ble_eq_true rfl⟩) ⟨MPc.blind, va_recv hK hP (ci := 5) (q0 := 0) rfl rfl, (MPc.at (hP.sub [0, 1, 2, 3, 4, 5, 6, 7, 8, 9, 10, 11, 12, 13] rfl) (hD.sub [0, 1, 2, 3, 4, 5, 6, 7, 8, 9, 10, 11, 12, 13] (by decide) rfl) hK hN)⟩ rfl rfl hl.1 rfl (lv_room (Nat.le_of_ble_eq_true rfl)) dX5_drop_49 ⟨Nat.zero_le _, Nat.zero_le _⟩) hP hD hS hA [0, 1, 2, 3, 4, 5, 6, 7, 8, 9, 10, 11, 12, 13] [] rfl rfl (by decide) (by decide) (fun rr u1 H locs hw hP hD hS => ?_)
      obtain rfl := hw
      have hP : va_P D vwCl (mW5 cI cZ ad w h (thN false true) n kn po B ht dr wh sb V la sl we of_ Sn tp re) H := hP
      have hD : va_D A (mW5 cI cZ ad w h (thN false true) n kn po B ht dr wh sb V la sl we of_ Sn tp re) := hD
      refine b_if_eq (tgt := 57) hx hb dX5_drop_52 (by decide) (fun c52_5 => absurd c52_5 (by decide)) (fun _ => ?_)
      refine lv_iconst (v := nI 0) hx hb dX5_drop_55 (by decide) ?_
      exact mu_iret (S := Unit) (wf := fun _ => (mW5 cI cZ ad w h 2 n kn po B ht dr wh sb V la sl we of_ Sn tp re)) hx hb hr hlocks () rfl hP hD hS dX5_drop_56
    refine lv_aload_n hx hb dX5_drop_31 rfl (lv_at hl 1 rfl) ?_
    refine va_get (C := RX5) (T := TX5) (N := 19) hx hb hts (by decide +kernel) hown hK hP 0 rfl rfl 4 (by decide) (hts (.fieldLink RX5 13 RX5 "heights" "[I") (by decide +kernel)) (fun _ h9 => h9) rfl dX5_drop_32 ?_
    refine lv_iload_n hx hb dX5_drop_35 rfl (lv_at hl 2 rfl) ?_
    refine n_iald hx hb hK hP 2 0 rfl rfl (by omega) (by omega) dX5_drop_36 ?_
    refine lv_aload_n hx hb dX5_drop_37 rfl (lv_at hl 1 rfl) ?_
    refine va_get (C := RX5) (T := TX5) (N := 19) hx hb hts (by decide +kernel) hown hK hP 0 rfl rfl 2 (by decide) (hts (.fieldLink RX5 56 RX5 "h" "I") (by decide +kernel)) (fun _ h9 => h9) rfl dX5_drop_38 ?_
    refine n_icmp_ne (tgt := 48) hx hb dX5_drop_41 (by decide) (by omega) (by omega) (fun c41_6 => ?_) (fun c41_6 => ?_)
    · exact absurd c41_6 (fun q => q (hov.resolve_left c28_4))
    refine lv_iconst (v := nI 1) hx hb dX5_drop_44 (by decide) ?_
    refine rt_i (v := bI true) rfl ?_
    refine lv_goto (tgt := 49) hx hb dX5_drop_45 (by decide) ?_
    refine mu_calli (wr := []) (va_runV (As := [.int (bI false), .int (bI true)]) (rest := []) ⟨hx, hb, hml, hown, hts⟩ (c5_refused l D cI cJ cZ ad w h th n kn po B ht dr wh sb V la sl we of_ Sn tp re false true _ ) (cwV 2 hts gX5_drop_X5_refused rfl rfl rfl (by decide +kernel) ⟨Nat.le_of_ble_eq_true rfl, Nat.le_of_ble_eq_true rfl⟩) ⟨MPc.blind, va_recv hK hP (ci := 5) (q0 := 0) rfl rfl, (MPc.at (hP.sub [0, 1, 2, 3, 4, 5, 6, 7, 8, 9, 10, 11, 12, 13] rfl) (hD.sub [0, 1, 2, 3, 4, 5, 6, 7, 8, 9, 10, 11, 12, 13] (by decide) rfl) hK hN)⟩ rfl rfl hl.1 rfl (lv_room (Nat.le_of_ble_eq_true rfl)) dX5_drop_49 ⟨Nat.zero_le _, Nat.zero_le _⟩) hP hD hS hA [0, 1, 2, 3, 4, 5, 6, 7, 8, 9, 10, 11, 12, 13] [] rfl rfl (by decide) (by decide) (fun rr u1 H locs hw hP hD hS => ?_)
    obtain rfl := hw
    have hP : va_P D vwCl (mW5 cI cZ ad w h (thN false true) n kn po B ht dr wh sb V la sl we of_ Sn tp re) H := hP
    have hD : va_D A (mW5 cI cZ ad w h (thN false true) n kn po B ht dr wh sb V la sl we of_ Sn tp re) := hD
    refine b_if_eq (tgt := 57) hx hb dX5_drop_52 (by decide) (fun c52_7 => absurd c52_7 (by decide)) (fun _ => ?_)
    refine lv_iconst (v := nI 0) hx hb dX5_drop_55 (by decide) ?_
    exact mu_iret (S := Unit) (wf := fun _ => (mW5 cI cZ ad w h 2 n kn po B ht dr wh sb V la sl we of_ Sn tp re)) hx hb hr hlocks () rfl hP hD hS dX5_drop_56
  · exact absurd c9_2 (by omega)

set_option maxHeartbeats 4000000 in
set_option maxRecDepth 100000 in
theorem c5_drop_ok (l : Launch) (D : va_G) (cI cJ cZ : ClassId) (ad : Nat → Nat) (w h th n kn po : Nat) (B : Nat → Int32) (ht dr wh sb : Nat → Nat) (V : Nat → Int32) (la sl we of_ : Nat → Nat) (Sn : Nat → Int32) (tp re : Nat → Nat) (c : Nat) (sz : Nat) (hd : Dm w h) (hn : n ≤ w * h) (hlast : 0 < n → dr (n - 1) < w ∧ 1 ≤ ht (dr (n - 1)) ∧ ht (dr (n - 1)) ≤ h) (hc : c < w) (hht : ht c < h) (hnov : ¬ 0 ≤ wnowI w h B ht dr n) (hnf : n < w * h) : Met l yX5_drop wsX5_drop (k2_rm 4 95) (MPc D [.ref (ad 0), .int (nI c)] (mW5 cI cZ ad w h th n kn po B ht dr wh sb V la sl we of_ Sn tp re) (tyA cI cJ cZ) sz) (mQi D (fun r9 (_ : Unit) => r9 = nI (ht c)) (fun _ => (mW5 cI cZ ad w h 0 (n + 1) 0 po (upd B (7 * c + ht c) (nI (n % 2))) (va_up ht c (ht c + 1)) (va_up dr n c) wh sb V la sl we of_ Sn tp re)) (va_A (mW5 cI cZ ad w h th n kn po B ht dr wh sb V la sl we of_ Sn tp re) sz)) 0 0 (va_A (mW5 cI cZ ad w h th n kn po B ht dr wh sb V la sl we of_ Sn tp re) sz) := by
  refine mu_head (Qc := fun A => mQi D (fun r9 (_ : Unit) => r9 = nI (ht c)) (fun _ => (mW5 cI cZ ad w h 0 (n + 1) 0 po (upd B (7 * c + ht c) (nI (n % 2))) (va_up ht c (ht c + 1)) (va_up dr n c) wh sb V la sl we of_ Sn tp re)) A) (cc := cX5_drop) (maxL := 4) (ret := (some .int)) (by decide) rfl (Nat.le_of_ble_eq_true rfl) ?_
  intro p e s m below meth cd ls A hx hb hr hlocks hnm hts hown hml hA hP hK hD hN hS hl
  have hl : lv_has ls 4 [(0, .ref (ad 0)), (1, .int (nI c))] := hl
  have hd0 := hd
  obtain ⟨h3w, hw9, h3h, hh7, hwh, h64⟩ := hd0
  refine lv_iload_n hx hb dX5_drop_0 rfl (lv_at hl 1 rfl) ?_
  refine lv_if_lt (tgt := 12) hx hb dX5_drop_1 (by decide) (fun c1_1 => ?_) (fun c1_1 => ?_)
  · exact absurd c1_1 (nI_pos (by omega))
  refine lv_iload_n hx hb dX5_drop_4 rfl (lv_at hl 1 rfl) ?_
  refine lv_aload_n hx hb dX5_drop_5 rfl (lv_at hl 0 rfl) ?_
  refine va_get (C := RX5) (T := TX5) (N := 19) hx hb hts (by decide +kernel) hown hK hP 0 rfl rfl 1 (by decide) (hts (.fieldLink RX5 52 RX5 "w" "I") (by decide +kernel)) (fun _ h9 => h9) rfl dX5_drop_6 ?_
  refine n_icmp_lt (tgt := 16) hx hb dX5_drop_9 (by decide) (by omega) (by omega) (fun c9_2 => ?_) (fun c9_2 => ?_)
  · skip
    refine lv_iconst (v := nI 0) hx hb dX5_drop_16 (by decide) ?_
    refine lv_istore_n (lv' := [(2, .int (nI 0)), (0, .ref (ad 0)), (1, .int (nI c))]) hx hb dX5_drop_17 rfl hl (by decide) rfl (fun ls hl => ?_)
    refine lv_aload_n hx hb dX5_drop_18 rfl (lv_at hl 1 rfl) ?_
    refine lv_iload_n hx hb dX5_drop_19 rfl (lv_at hl 0 rfl) ?_
    refine rt_i (v := bI false) rfl ?_
    refine lv_iload_n hx hb dX5_drop_20 rfl (lv_at hl 0 rfl) ?_
    refine n_if_ne (tgt := 48) hx hb dX5_drop_21 (by decide) (by decide) (fun c21_3 => absurd c21_3 (by decide)) (fun _ => ?_)
    refine lv_aload_n hx hb dX5_drop_24 rfl (lv_at hl 1 rfl) ?_
    refine ro_call (W.runV (As := []) (rest := [.int (bI false), .ref (ad 0)]) ⟨hx, hb, hml, hown, hts⟩ (c_winnerNow l D cI cJ cZ ad w h th n kn po B ht dr wh sb V la sl we of_ Sn tp re hd hn hlast) (cwV 0 hts gX5_drop_X5_winnerNow rfl rfl rfl (by decide +kernel) ⟨Nat.le_of_ble_eq_true rfl, Nat.le_of_ble_eq_true rfl⟩) ⟨RPc.blind, va_recv hK hP (ci := 5) (q0 := 0) rfl rfl, (RPc.at (hP.sub [0, 1, 2, 3, 4, 5, 6, 7, 8, 9, 10, 11, 12, 13] rfl) hK hN)⟩ rfl rfl hl.1 rfl (lv_room (Nat.le_of_ble_eq_true rfl)) dX5_drop_25 ⟨Nat.zero_le _, Nat.zero_le _⟩) ?_
    refine lv_if_ge (tgt := 44) hx hb dX5_drop_28 (by decide) (fun c28_4 => ?_) (fun c28_4 => ?_)
    · exact absurd c28_4 hnov
    refine lv_aload_n hx hb dX5_drop_31 rfl (lv_at hl 1 rfl) ?_
    refine va_get (C := RX5) (T := TX5) (N := 19) hx hb hts (by decide +kernel) hown hK hP 0 rfl rfl 4 (by decide) (hts (.fieldLink RX5 13 RX5 "heights" "[I") (by decide +kernel)) (fun _ h9 => h9) rfl dX5_drop_32 ?_
    refine lv_iload_n hx hb dX5_drop_35 rfl (lv_at hl 2 rfl) ?_
    refine n_iald hx hb hK hP 2 0 rfl rfl (by omega) (by omega) dX5_drop_36 ?_
    refine lv_aload_n hx hb dX5_drop_37 rfl (lv_at hl 1 rfl) ?_
    refine va_get (C := RX5) (T := TX5) (N := 19) hx hb hts (by decide +kernel) hown hK hP 0 rfl rfl 2 (by decide) (hts (.fieldLink RX5 56 RX5 "h" "I") (by decide +kernel)) (fun _ h9 => h9) rfl dX5_drop_38 ?_
    refine n_icmp_ne (tgt := 48) hx hb dX5_drop_41 (by decide) (by omega) (by omega) (fun c41_5 => ?_) (fun c41_5 => ?_)
    · skip
      refine lv_iconst (v := nI 0) hx hb dX5_drop_48 (by decide) ?_
      refine rt_i (v := bI false) rfl ?_
      refine mu_calli (wr := []) (va_runV (As := [.int (bI false), .int (bI false)]) (rest := []) ⟨hx, hb, hml, hown, hts⟩ (c5_refused l D cI cJ cZ ad w h th n kn po B ht dr wh sb V la sl we of_ Sn tp re false false _ ) (cwV 2 hts gX5_drop_X5_refused rfl rfl rfl (by decide +kernel) ⟨Nat.le_of_ble_eq_true rfl, Nat.le_of_ble_eq_true rfl⟩) ⟨MPc.blind, va_recv hK hP (ci := 5) (q0 := 0) rfl rfl, (MPc.at (hP.sub [0, 1, 2, 3, 4, 5, 6, 7, 8, 9, 10, 11, 12, 13] rfl) (hD.sub [0, 1, 2, 3, 4, 5, 6, 7, 8, 9, 10, 11, 12, 13] (by decide) rfl) hK hN)⟩ rfl rfl hl.1 rfl (lv_room (Nat.le_of_ble_eq_true rfl)) dX5_drop_49 ⟨Nat.zero_le _, Nat.zero_le _⟩) hP hD hS hA [0, 1, 2, 3, 4, 5, 6, 7, 8, 9, 10, 11, 12, 13] [] rfl rfl (by decide) (by decide) (fun rr u1 H locs hw hP hD hS => ?_)
      obtain rfl := hw
      have hP : va_P D vwCl (mW5 cI cZ ad w h (thN false false) n kn po B ht dr wh sb V la sl we of_ Sn tp re) H := hP
      have hD : va_D A (mW5 cI cZ ad w h (thN false false) n kn po B ht dr wh sb V la sl we of_ Sn tp re) := hD
      refine b_if_eq (tgt := 57) hx hb dX5_drop_52 (by decide) (fun _ => ?_) (fun c52_6 => absurd c52_6 (by decide))
      refine lv_aload_n hx hb dX5_drop_57 rfl (lv_at hl 1 rfl) ?_
      refine va_get (C := RX5) (T := TX5) (N := 19) hx hb hts (by decide +kernel) hown hK hP 0 rfl rfl 4 (by decide) (hts (.fieldLink RX5 13 RX5 "heights" "[I") (by decide +kernel)) (fun _ h9 => h9) rfl dX5_drop_58 ?_
      refine lv_iload_n hx hb dX5_drop_61 rfl (lv_at hl 2 rfl) ?_
      refine n_iald hx hb hK hP 2 0 rfl rfl (by omega) (by omega) dX5_drop_62 ?_
      refine lv_istore_n (lv' := [(3, .int (nI (ht c))), (2, .int (nI 0)), (0, .ref (ad 0)), (1, .int (nI c))]) hx hb dX5_drop_63 rfl hl (by decide) rfl (fun ls hl => ?_)
      refine lv_aload_n hx hb dX5_drop_64 rfl (lv_at hl 2 rfl) ?_
      refine va_get (C := RX5) (T := TX5) (N := 19) hx hb hts (by decide +kernel) hown hK hP 0 rfl rfl 3 (by decide) (hts (.fieldLink RX5 7 RX5 "board" "[I") (by decide +kernel)) (fun _ h9 => h9) rfl dX5_drop_65 ?_
      refine lv_bipush (v := nI 7) hx hb dX5_drop_68 (by decide) ?_
      refine lv_iload_n hx hb dX5_drop_70 rfl (lv_at hl 3 rfl) ?_
      refine n_imul hx hb dX5_drop_71 ?_
      refine lv_iload_n hx hb dX5_drop_72 rfl (lv_at hl 0 rfl) ?_
      refine n_iadd hx hb dX5_drop_73 ?_
      refine lv_aload_n hx hb dX5_drop_74 rfl (lv_at hl 2 rfl) ?_
      refine va_get (C := RX5) (T := TX5) (N := 19) hx hb hts (by decide +kernel) hown hK hP 0 rfl rfl 6 (by decide) (hts (.fieldLink RX5 70 RX5 "n" "I") (by decide +kernel)) (fun _ h9 => h9) rfl dX5_drop_75 ?_
      refine lv_iconst (v := nI 2) hx hb dX5_drop_78 (by decide) ?_
      refine n_irem hx hb dX5_drop_79 (by omega) (by omega) (by omega) ?_
      refine n_iastR hx hb hK hP hD hS 1 0 rfl rfl (by omega) (by omega) dX5_drop_80 (fun H locs hP hD hS => ?_)
      have hP : va_P D vwCl (mW5 cI cZ ad w h (thN false false) n kn po (upd B ((7 * c) + (ht c)) (nI (n % 2))) ht dr wh sb V la sl we of_ Sn tp re) H := hP
      have hD : va_D A (mW5 cI cZ ad w h (thN false false) n kn po (upd B ((7 * c) + (ht c)) (nI (n % 2))) ht dr wh sb V la sl we of_ Sn tp re) := hD
      refine lv_aload_n hx hb dX5_drop_81 rfl (lv_at hl 2 rfl) ?_
      refine va_get (C := RX5) (T := TX5) (N := 19) hx hb hts (by decide +kernel) hown hK hP 0 rfl rfl 4 (by decide) (hts (.fieldLink RX5 13 RX5 "heights" "[I") (by decide +kernel)) (fun _ h9 => h9) rfl dX5_drop_82 ?_
      refine lv_iload_n hx hb dX5_drop_85 rfl (lv_at hl 3 rfl) ?_
      refine lv_iload_n hx hb dX5_drop_86 rfl (lv_at hl 0 rfl) ?_
      refine lv_iconst (v := nI 1) hx hb dX5_drop_87 (by decide) ?_
      refine n_iadd hx hb dX5_drop_88 ?_
      refine n_iast (g := ht) hx hb hK hP hD hS 2 0 rfl rfl (by omega) (by omega) dX5_drop_89 (fun H locs hP hD hS => ?_)
      have hP : va_P D vwCl (mW5 cI cZ ad w h (thN false false) n kn po (upd B ((7 * c) + (ht c)) (nI (n % 2))) (va_up ht c ((ht c) + 1)) dr wh sb V la sl we of_ Sn tp re) H := hP
      have hD : va_D A (mW5 cI cZ ad w h (thN false false) n kn po (upd B ((7 * c) + (ht c)) (nI (n % 2))) (va_up ht c ((ht c) + 1)) dr wh sb V la sl we of_ Sn tp re) := hD
      refine lv_aload_n hx hb dX5_drop_90 rfl (lv_at hl 2 rfl) ?_
      refine va_get (C := RX5) (T := TX5) (N := 19) hx hb hts (by decide +kernel) hown hK hP 0 rfl rfl 5 (by decide) (hts (.fieldLink RX5 16 RX5 "drops" "[I") (by decide +kernel)) (fun _ h9 => h9) rfl dX5_drop_91 ?_
      refine lv_aload_n hx hb dX5_drop_94 rfl (lv_at hl 2 rfl) ?_
      refine va_get (C := RX5) (T := TX5) (N := 19) hx hb hts (by decide +kernel) hown hK hP 0 rfl rfl 6 (by decide) (hts (.fieldLink RX5 70 RX5 "n" "I") (by decide +kernel)) (fun _ h9 => h9) rfl dX5_drop_95 ?_
      refine lv_iload_n hx hb dX5_drop_98 rfl (lv_at hl 3 rfl) ?_
      refine n_iast (g := dr) hx hb hK hP hD hS 3 0 rfl rfl (by omega) (by omega) dX5_drop_99 (fun H locs hP hD hS => ?_)
      have hP : va_P D vwCl (mW5 cI cZ ad w h (thN false false) n kn po (upd B ((7 * c) + (ht c)) (nI (n % 2))) (va_up ht c ((ht c) + 1)) (va_up dr n c) wh sb V la sl we of_ Sn tp re) H := hP
      have hD : va_D A (mW5 cI cZ ad w h (thN false false) n kn po (upd B ((7 * c) + (ht c)) (nI (n % 2))) (va_up ht c ((ht c) + 1)) (va_up dr n c) wh sb V la sl we of_ Sn tp re) := hD
      refine lv_aload_n hx hb dX5_drop_100 rfl (lv_at hl 2 rfl) ?_
      refine lv_dup hx hb dX5_drop_101 rfl ?_
      refine va_get (C := RX5) (T := TX5) (N := 19) hx hb hts (by decide +kernel) hown hK hP 0 rfl rfl 6 (by decide) (hts (.fieldLink RX5 70 RX5 "n" "I") (by decide +kernel)) (fun _ h9 => h9) rfl dX5_drop_102 ?_
      refine lv_iconst (v := nI 1) hx hb dX5_drop_105 (by decide) ?_
      refine n_iadd hx hb dX5_drop_106 ?_
      refine va_put (ty := .int) (C := RX5) (T := TX5) (N := 19) hx hb hts (by decide +kernel) tyX5 tyX5_ok nmX5 hown hK hP hD hS 0 rfl rfl 6 (by decide) (hts (.fieldLink RX5 70 RX5 "n" "I") (by decide +kernel)) (fun _ h9 => h9) rfl (by decide +kernel) rfl rfl (Nat.le_of_ble_eq_true rfl) dX5_drop_107 (fun H locs hP hD hS => ?_)
      have hP : va_P D vwCl (mW5 cI cZ ad w h (thN false false) (n + 1) kn po (upd B ((7 * c) + (ht c)) (nI (n % 2))) (va_up ht c ((ht c) + 1)) (va_up dr n c) wh sb V la sl we of_ Sn tp re) H := hP
      have hD : va_D A (mW5 cI cZ ad w h (thN false false) (n + 1) kn po (upd B ((7 * c) + (ht c)) (nI (n % 2))) (va_up ht c ((ht c) + 1)) (va_up dr n c) wh sb V la sl we of_ Sn tp re) := hD
      refine lv_aload_n hx hb dX5_drop_110 rfl (lv_at hl 2 rfl) ?_
      refine lv_iconst (v := nI 0) hx hb dX5_drop_111 (by decide) ?_
      refine va_put (ty := .boolean) (C := RX5) (T := TX5) (N := 19) hx hb hts (by decide +kernel) tyX5 tyX5_ok nmX5 hown hK hP hD hS 0 rfl rfl 7 (by decide) (hts (.fieldLink RX5 85 RX5 "known" "Z") (by decide +kernel)) (fun _ h9 => h9) rfl (by decide +kernel) rfl rfl (Nat.le_of_ble_eq_true rfl) dX5_drop_112 (fun H locs hP hD hS => ?_)
      have hP : va_P D vwCl (mW5 cI cZ ad w h (thN false false) (n + 1) 0 po (upd B ((7 * c) + (ht c)) (nI (n % 2))) (va_up ht c ((ht c) + 1)) (va_up dr n c) wh sb V la sl we of_ Sn tp re) H := hP
      have hD : va_D A (mW5 cI cZ ad w h (thN false false) (n + 1) 0 po (upd B ((7 * c) + (ht c)) (nI (n % 2))) (va_up ht c ((ht c) + 1)) (va_up dr n c) wh sb V la sl we of_ Sn tp re) := hD
      refine lv_iload_n hx hb dX5_drop_115 rfl (lv_at hl 0 rfl) ?_
      exact mu_iret (S := Unit) (wf := fun _ => (mW5 cI cZ ad w h 0 (n + 1) 0 po (upd B (7 * c + ht c) (nI (n % 2))) (va_up ht c (ht c + 1)) (va_up dr n c) wh sb V la sl we of_ Sn tp re)) hx hb hr hlocks () rfl hP hD hS dX5_drop_116
    · exact absurd c41_5 (by omega)
  · exact absurd c9_2 (by omega)

set_option maxHeartbeats 4000000 in
set_option maxRecDepth 100000 in
theorem c5_back_no (l : Launch) (D : va_G) (cI cJ cZ : ClassId) (ad : Nat → Nat) (w h th n kn po : Nat) (B : Nat → Int32) (ht dr wh sb : Nat → Nat) (V : Nat → Int32) (la sl we of_ : Nat → Nat) (Sn : Nat → Int32) (tp re : Nat → Nat)  (sz : Nat) (hn0 : n = 0) : Met l yX5_back wsX5_back (k2_rm 1 22) (MPc D [.ref (ad 0)] (mW5 cI cZ ad w h th n kn po B ht dr wh sb V la sl we of_ Sn tp re) (tyA cI cJ cZ) sz) (mQi D (fun r9 (_ : Unit) => r9 = nI 0) (fun _ => (mW5 cI cZ ad w h 1 n kn po B ht dr wh sb V la sl we of_ Sn tp re)) (va_A (mW5 cI cZ ad w h th n kn po B ht dr wh sb V la sl we of_ Sn tp re) sz)) 0 0 (va_A (mW5 cI cZ ad w h th n kn po B ht dr wh sb V la sl we of_ Sn tp re) sz) := by
  refine mu_head (Qc := fun A => mQi D (fun r9 (_ : Unit) => r9 = nI 0) (fun _ => (mW5 cI cZ ad w h 1 n kn po B ht dr wh sb V la sl we of_ Sn tp re)) A) (cc := cX5_back) (maxL := 2) (ret := (some .int)) (by decide) rfl (Nat.le_of_ble_eq_true rfl) ?_
  intro p e s m below meth cd ls A hx hb hr hlocks hnm hts hown hml hA hP hK hD hN hS hl
  have hl : lv_has ls 2 [(0, .ref (ad 0))] := hl
  refine lv_aload_n hx hb dX5_back_0 rfl (lv_at hl 0 rfl) ?_
  refine lv_aload_n hx hb dX5_back_1 rfl (lv_at hl 0 rfl) ?_
  refine va_get (C := RX5) (T := TX5) (N := 19) hx hb hts (by decide +kernel) hown hK hP 0 rfl rfl 6 (by decide) (hts (.fieldLink RX5 70 RX5 "n" "I") (by decide +kernel)) (fun _ h9 => h9) rfl dX5_back_2 ?_
  refine n_if_ne (tgt := 12) hx hb dX5_back_5 (by decide) (by omega) (fun c5_1 => ?_) (fun c5_1 => ?_)
  · exact absurd c5_1 (fun q => q hn0)
  refine lv_iconst (v := nI 1) hx hb dX5_back_8 (by decide) ?_
  refine rt_i (v := bI true) rfl ?_
  refine lv_goto (tgt := 13) hx hb dX5_back_9 (by decide) ?_
  refine lv_iconst (v := nI 0) hx hb dX5_back_13 (by decide) ?_
  refine rt_i (v := bI false) rfl ?_
  refine mu_calli (wr := []) (va_runV (As := [.int (bI true), .int (bI false)]) (rest := []) ⟨hx, hb, hml, hown, hts⟩ (c5_refused l D cI cJ cZ ad w h th n kn po B ht dr wh sb V la sl we of_ Sn tp re true false _ ) (cwV 2 hts gX5_back_X5_refused rfl rfl rfl (by decide +kernel) ⟨Nat.le_of_ble_eq_true rfl, Nat.le_of_ble_eq_true rfl⟩) ⟨MPc.blind, va_recv hK hP (ci := 5) (q0 := 0) rfl rfl, (MPc.at (hP.sub [0, 1, 2, 3, 4, 5, 6, 7, 8, 9, 10, 11, 12, 13] rfl) (hD.sub [0, 1, 2, 3, 4, 5, 6, 7, 8, 9, 10, 11, 12, 13] (by decide) rfl) hK hN)⟩ rfl rfl hl.1 rfl (lv_room (Nat.le_of_ble_eq_true rfl)) dX5_back_14 ⟨Nat.zero_le _, Nat.zero_le _⟩) hP hD hS hA [0, 1, 2, 3, 4, 5, 6, 7, 8, 9, 10, 11, 12, 13] [] rfl rfl (by decide) (by decide) (fun rr u1 H locs hw hP hD hS => ?_)
  obtain rfl := hw
  have hP : va_P D vwCl (mW5 cI cZ ad w h (thN true false) n kn po B ht dr wh sb V la sl we of_ Sn tp re) H := hP
  have hD : va_D A (mW5 cI cZ ad w h (thN true false) n kn po B ht dr wh sb V la sl we of_ Sn tp re) := hD
  refine b_if_eq (tgt := 22) hx hb dX5_back_17 (by decide) (fun c17_2 => absurd c17_2 (by decide)) (fun _ => ?_)
  refine lv_iconst (v := nI 0) hx hb dX5_back_20 (by decide) ?_
  exact mu_iret (S := Unit) (wf := fun _ => (mW5 cI cZ ad w h 1 n kn po B ht dr wh sb V la sl we of_ Sn tp re)) hx hb hr hlocks () rfl hP hD hS dX5_back_21

set_option maxHeartbeats 4000000 in
set_option maxRecDepth 100000 in
theorem c5_back_ok (l : Launch) (D : va_G) (cI cJ cZ : ClassId) (ad : Nat → Nat) (w h th n kn po : Nat) (B : Nat → Int32) (ht dr wh sb : Nat → Nat) (V : Nat → Int32) (la sl we of_ : Nat → Nat) (Sn : Nat → Int32) (tp re : Nat → Nat) (c : Nat) (sz : Nat) (hd : Dm w h) (hn : n ≤ w * h) (hn0 : 0 < n) (hcd : dr (n - 1) = c) (hc : c < w) (hht : ht c ≤ h) (hh1 : 1 ≤ ht c) : Met l yX5_back wsX5_back (k2_rm 1 22) (MPc D [.ref (ad 0)] (mW5 cI cZ ad w h th n kn po B ht dr wh sb V la sl we of_ Sn tp re) (tyA cI cJ cZ) sz) (mQi D (fun r9 (_ : Unit) => r9 = nI c) (fun _ => (mW5 cI cZ ad w h 0 (n - 1) 0 po (upd B (7 * c + (ht c - 1)) (-1)) (va_up ht c (ht c - 1)) dr wh sb V la sl we of_ Sn tp re)) (va_A (mW5 cI cZ ad w h th n kn po B ht dr wh sb V la sl we of_ Sn tp re) sz)) 0 0 (va_A (mW5 cI cZ ad w h th n kn po B ht dr wh sb V la sl we of_ Sn tp re) sz) := by
  refine mu_head (Qc := fun A => mQi D (fun r9 (_ : Unit) => r9 = nI c) (fun _ => (mW5 cI cZ ad w h 0 (n - 1) 0 po (upd B (7 * c + (ht c - 1)) (-1)) (va_up ht c (ht c - 1)) dr wh sb V la sl we of_ Sn tp re)) A) (cc := cX5_back) (maxL := 2) (ret := (some .int)) (by decide) rfl (Nat.le_of_ble_eq_true rfl) ?_
  intro p e s m below meth cd ls A hx hb hr hlocks hnm hts hown hml hA hP hK hD hN hS hl
  have hl : lv_has ls 2 [(0, .ref (ad 0))] := hl
  have hd0 := hd
  obtain ⟨h3w, hw9, h3h, hh7, hwh, h64⟩ := hd0
  refine lv_aload_n hx hb dX5_back_0 rfl (lv_at hl 0 rfl) ?_
  refine lv_aload_n hx hb dX5_back_1 rfl (lv_at hl 0 rfl) ?_
  refine va_get (C := RX5) (T := TX5) (N := 19) hx hb hts (by decide +kernel) hown hK hP 0 rfl rfl 6 (by decide) (hts (.fieldLink RX5 70 RX5 "n" "I") (by decide +kernel)) (fun _ h9 => h9) rfl dX5_back_2 ?_
  refine n_if_ne (tgt := 12) hx hb dX5_back_5 (by decide) (by omega) (fun c5_1 => ?_) (fun c5_1 => ?_)
  · skip
    refine lv_iconst (v := nI 0) hx hb dX5_back_12 (by decide) ?_
    refine rt_i (v := bI false) rfl ?_
    refine lv_iconst (v := nI 0) hx hb dX5_back_13 (by decide) ?_
    refine rt_i (v := bI false) rfl ?_
    refine mu_calli (wr := []) (va_runV (As := [.int (bI false), .int (bI false)]) (rest := []) ⟨hx, hb, hml, hown, hts⟩ (c5_refused l D cI cJ cZ ad w h th n kn po B ht dr wh sb V la sl we of_ Sn tp re false false _ ) (cwV 2 hts gX5_back_X5_refused rfl rfl rfl (by decide +kernel) ⟨Nat.le_of_ble_eq_true rfl, Nat.le_of_ble_eq_true rfl⟩) ⟨MPc.blind, va_recv hK hP (ci := 5) (q0 := 0) rfl rfl, (MPc.at (hP.sub [0, 1, 2, 3, 4, 5, 6, 7, 8, 9, 10, 11, 12, 13] rfl) (hD.sub [0, 1, 2, 3, 4, 5, 6, 7, 8, 9, 10, 11, 12, 13] (by decide) rfl) hK hN)⟩ rfl rfl hl.1 rfl (lv_room (Nat.le_of_ble_eq_true rfl)) dX5_back_14 ⟨Nat.zero_le _, Nat.zero_le _⟩) hP hD hS hA [0, 1, 2, 3, 4, 5, 6, 7, 8, 9, 10, 11, 12, 13] [] rfl rfl (by decide) (by decide) (fun rr u1 H locs hw hP hD hS => ?_)
    obtain rfl := hw
    have hP : va_P D vwCl (mW5 cI cZ ad w h (thN false false) n kn po B ht dr wh sb V la sl we of_ Sn tp re) H := hP
    have hD : va_D A (mW5 cI cZ ad w h (thN false false) n kn po B ht dr wh sb V la sl we of_ Sn tp re) := hD
    refine b_if_eq (tgt := 22) hx hb dX5_back_17 (by decide) (fun _ => ?_) (fun c17_2 => absurd c17_2 (by decide))
    refine lv_aload_n hx hb dX5_back_22 rfl (lv_at hl 0 rfl) ?_
    refine lv_dup hx hb dX5_back_23 rfl ?_
    refine va_get (C := RX5) (T := TX5) (N := 19) hx hb hts (by decide +kernel) hown hK hP 0 rfl rfl 6 (by decide) (hts (.fieldLink RX5 70 RX5 "n" "I") (by decide +kernel)) (fun _ h9 => h9) rfl dX5_back_24 ?_
    refine lv_iconst (v := nI 1) hx hb dX5_back_27 (by decide) ?_
    refine n_isub hx hb dX5_back_28 (by omega) ?_
    refine va_put (ty := .int) (C := RX5) (T := TX5) (N := 19) hx hb hts (by decide +kernel) tyX5 tyX5_ok nmX5 hown hK hP hD hS 0 rfl rfl 6 (by decide) (hts (.fieldLink RX5 70 RX5 "n" "I") (by decide +kernel)) (fun _ h9 => h9) rfl (by decide +kernel) rfl rfl (Nat.le_of_ble_eq_true rfl) dX5_back_29 (fun H locs hP hD hS => ?_)
    have hP : va_P D vwCl (mW5 cI cZ ad w h (thN false false) (n - 1) kn po B ht dr wh sb V la sl we of_ Sn tp re) H := hP
    have hD : va_D A (mW5 cI cZ ad w h (thN false false) (n - 1) kn po B ht dr wh sb V la sl we of_ Sn tp re) := hD
    refine lv_aload_n hx hb dX5_back_32 rfl (lv_at hl 0 rfl) ?_
    refine va_get (C := RX5) (T := TX5) (N := 19) hx hb hts (by decide +kernel) hown hK hP 0 rfl rfl 5 (by decide) (hts (.fieldLink RX5 16 RX5 "drops" "[I") (by decide +kernel)) (fun _ h9 => h9) rfl dX5_back_33 ?_
    refine lv_aload_n hx hb dX5_back_36 rfl (lv_at hl 0 rfl) ?_
    refine va_get (C := RX5) (T := TX5) (N := 19) hx hb hts (by decide +kernel) hown hK hP 0 rfl rfl 6 (by decide) (hts (.fieldLink RX5 70 RX5 "n" "I") (by decide +kernel)) (fun _ h9 => h9) rfl dX5_back_37 ?_
    refine n_iald hx hb hK hP 3 0 rfl rfl (by omega) (by omega) dX5_back_40 ?_
    refine rt_i (v := nI c) (by rw [hcd]) ?_
    refine lv_istore_n (lv' := [(1, .int (nI c)), (0, .ref (ad 0))]) hx hb dX5_back_41 rfl hl (by decide) rfl (fun ls hl => ?_)
    refine lv_aload_n hx hb dX5_back_42 rfl (lv_at hl 1 rfl) ?_
    refine va_get (C := RX5) (T := TX5) (N := 19) hx hb hts (by decide +kernel) hown hK hP 0 rfl rfl 4 (by decide) (hts (.fieldLink RX5 13 RX5 "heights" "[I") (by decide +kernel)) (fun _ h9 => h9) rfl dX5_back_43 ?_
    refine lv_iload_n hx hb dX5_back_46 rfl (lv_at hl 0 rfl) ?_
    refine lv_dup2_11 hx hb dX5_back_47 rfl rfl ?_
    refine n_iald hx hb hK hP 2 0 rfl rfl (by omega) (by omega) dX5_back_48 ?_
    refine lv_iconst (v := nI 1) hx hb dX5_back_49 (by decide) ?_
    refine n_isub hx hb dX5_back_50 (by omega) ?_
    refine n_iast (g := ht) hx hb hK hP hD hS 2 0 rfl rfl (by omega) (by omega) dX5_back_51 (fun H locs hP hD hS => ?_)
    have hP : va_P D vwCl (mW5 cI cZ ad w h (thN false false) (n - 1) kn po B (va_up ht c ((ht c) - 1)) dr wh sb V la sl we of_ Sn tp re) H := hP
    have hD : va_D A (mW5 cI cZ ad w h (thN false false) (n - 1) kn po B (va_up ht c ((ht c) - 1)) dr wh sb V la sl we of_ Sn tp re) := hD
    refine lv_aload_n hx hb dX5_back_52 rfl (lv_at hl 1 rfl) ?_
    refine va_get (C := RX5) (T := TX5) (N := 19) hx hb hts (by decide +kernel) hown hK hP 0 rfl rfl 3 (by decide) (hts (.fieldLink RX5 7 RX5 "board" "[I") (by decide +kernel)) (fun _ h9 => h9) rfl dX5_back_53 ?_
    refine lv_bipush (v := nI 7) hx hb dX5_back_56 (by decide) ?_
    refine lv_iload_n hx hb dX5_back_58 rfl (lv_at hl 0 rfl) ?_
    refine n_imul hx hb dX5_back_59 ?_
    refine lv_aload_n hx hb dX5_back_60 rfl (lv_at hl 1 rfl) ?_
    refine va_get (C := RX5) (T := TX5) (N := 19) hx hb hts (by decide +kernel) hown hK hP 0 rfl rfl 4 (by decide) (hts (.fieldLink RX5 13 RX5 "heights" "[I") (by decide +kernel)) (fun _ h9 => h9) rfl dX5_back_61 ?_
    refine lv_iload_n hx hb dX5_back_64 rfl (lv_at hl 0 rfl) ?_
    refine n_iald hx hb hK hP 2 0 rfl rfl (by omega) (by omega) dX5_back_65 ?_
    refine rt_i (v := nI (ht c - 1)) (by rw [va_up_self]) ?_
    refine n_iadd hx hb dX5_back_66 ?_
    refine lv_iconst (v := -1) hx hb dX5_back_67 (by decide) ?_
    refine n_iastR hx hb hK hP hD hS 1 0 rfl rfl (by omega) (by omega) dX5_back_68 (fun H locs hP hD hS => ?_)
    have hP : va_P D vwCl (mW5 cI cZ ad w h (thN false false) (n - 1) kn po (upd B ((7 * c) + (ht c - 1)) (-1)) (va_up ht c ((ht c) - 1)) dr wh sb V la sl we of_ Sn tp re) H := hP
    have hD : va_D A (mW5 cI cZ ad w h (thN false false) (n - 1) kn po (upd B ((7 * c) + (ht c - 1)) (-1)) (va_up ht c ((ht c) - 1)) dr wh sb V la sl we of_ Sn tp re) := hD
    refine lv_aload_n hx hb dX5_back_69 rfl (lv_at hl 1 rfl) ?_
    refine lv_iconst (v := nI 0) hx hb dX5_back_70 (by decide) ?_
    refine va_put (ty := .boolean) (C := RX5) (T := TX5) (N := 19) hx hb hts (by decide +kernel) tyX5 tyX5_ok nmX5 hown hK hP hD hS 0 rfl rfl 7 (by decide) (hts (.fieldLink RX5 85 RX5 "known" "Z") (by decide +kernel)) (fun _ h9 => h9) rfl (by decide +kernel) rfl rfl (Nat.le_of_ble_eq_true rfl) dX5_back_71 (fun H locs hP hD hS => ?_)
    have hP : va_P D vwCl (mW5 cI cZ ad w h (thN false false) (n - 1) 0 po (upd B ((7 * c) + (ht c - 1)) (-1)) (va_up ht c ((ht c) - 1)) dr wh sb V la sl we of_ Sn tp re) H := hP
    have hD : va_D A (mW5 cI cZ ad w h (thN false false) (n - 1) 0 po (upd B ((7 * c) + (ht c - 1)) (-1)) (va_up ht c ((ht c) - 1)) dr wh sb V la sl we of_ Sn tp re) := hD
    refine lv_iload_n hx hb dX5_back_74 rfl (lv_at hl 0 rfl) ?_
    exact mu_iret (S := Unit) (wf := fun _ => (mW5 cI cZ ad w h 0 (n - 1) 0 po (upd B (7 * c + (ht c - 1)) (-1)) (va_up ht c (ht c - 1)) dr wh sb V la sl we of_ Sn tp re)) hx hb hr hlocks () rfl hP hD hS dX5_back_75
  · exact absurd c5_1 (by omega)

set_option maxHeartbeats 4000000 in
set_option maxRecDepth 100000 in
theorem c5_at_no (l : Launch) (D : va_G) (cI cJ cZ : ClassId) (ad : Nat → Nat) (w h th n kn po : Nat) (B : Nat → Int32) (ht dr wh sb : Nat → Nat) (V : Nat → Int32) (la sl we of_ : Nat → Nat) (Sn : Nat → Int32) (tp re : Nat → Nat) (c r : Int32) (sz : Nat) (hq : isq w h c r = false) : Met l yX5_at wsX5_at (k2_rm 1 22) (MPc D [.ref (ad 0), .int c, .int r] (mW5 cI cZ ad w h th n kn po B ht dr wh sb V la sl we of_ Sn tp re) (tyA cI cJ cZ) sz) (mQi D (fun r9 (_ : Unit) => r9 = nI 0) (fun _ => (mW5 cI cZ ad w h 1 n kn po B ht dr wh sb V la sl we of_ Sn tp re)) (va_A (mW5 cI cZ ad w h th n kn po B ht dr wh sb V la sl we of_ Sn tp re) sz)) 0 0 (va_A (mW5 cI cZ ad w h th n kn po B ht dr wh sb V la sl we of_ Sn tp re) sz) := by
  refine mu_head (Qc := fun A => mQi D (fun r9 (_ : Unit) => r9 = nI 0) (fun _ => (mW5 cI cZ ad w h 1 n kn po B ht dr wh sb V la sl we of_ Sn tp re)) A) (cc := cX5_at) (maxL := 3) (ret := (some .int)) (by decide) rfl (Nat.le_of_ble_eq_true rfl) ?_
  intro p e s m below meth cd ls A hx hb hr hlocks hnm hts hown hml hA hP hK hD hN hS hl
  have hl : lv_has ls 3 [(0, .ref (ad 0)), (1, .int c), (2, .int r)] := hl
  refine lv_aload_n hx hb dX5_at_0 rfl (lv_at hl 0 rfl) ?_
  refine lv_aload_n hx hb dX5_at_1 rfl (lv_at hl 0 rfl) ?_
  refine lv_iload_n hx hb dX5_at_2 rfl (lv_at hl 1 rfl) ?_
  refine lv_iload_n hx hb dX5_at_3 rfl (lv_at hl 2 rfl) ?_
  refine ro_call (W.runV (As := [.int c, .int r]) (rest := [.ref (ad 0)]) ⟨hx, hb, hml, hown, hts⟩ (c_isSquare l D cI cJ cZ ad w h th n kn po c r) (cwV 2 hts gX5_at_X5_isSquare rfl rfl rfl (by decide +kernel) ⟨Nat.le_of_ble_eq_true rfl, Nat.le_of_ble_eq_true rfl⟩) ⟨RPc.blind, va_recv hK hP (ci := 5) (q0 := 0) rfl rfl, (RPc.at (hP.sub [0] rfl) hK hN)⟩ rfl rfl hl.1 rfl (lv_room (Nat.le_of_ble_eq_true rfl)) dX5_at_4 ⟨Nat.zero_le _, Nat.zero_le _⟩) ?_
  refine b_if_ne (tgt := 14) hx hb dX5_at_7 (by decide) (fun c7_1 => ?_) (fun c7_1 => ?_)
  · exact absurd c7_1 (by rw [hq]; decide)
  refine lv_iconst (v := nI 1) hx hb dX5_at_10 (by decide) ?_
  refine rt_i (v := bI true) rfl ?_
  refine lv_goto (tgt := 15) hx hb dX5_at_11 (by decide) ?_
  refine lv_iconst (v := nI 0) hx hb dX5_at_15 (by decide) ?_
  refine rt_i (v := bI false) rfl ?_
  refine mu_calli (wr := []) (va_runV (As := [.int (bI true), .int (bI false)]) (rest := []) ⟨hx, hb, hml, hown, hts⟩ (c5_refused l D cI cJ cZ ad w h th n kn po B ht dr wh sb V la sl we of_ Sn tp re true false _ ) (cwV 2 hts gX5_at_X5_refused rfl rfl rfl (by decide +kernel) ⟨Nat.le_of_ble_eq_true rfl, Nat.le_of_ble_eq_true rfl⟩) ⟨MPc.blind, va_recv hK hP (ci := 5) (q0 := 0) rfl rfl, (MPc.at (hP.sub [0, 1, 2, 3, 4, 5, 6, 7, 8, 9, 10, 11, 12, 13] rfl) (hD.sub [0, 1, 2, 3, 4, 5, 6, 7, 8, 9, 10, 11, 12, 13] (by decide) rfl) hK hN)⟩ rfl rfl hl.1 rfl (lv_room (Nat.le_of_ble_eq_true rfl)) dX5_at_16 ⟨Nat.zero_le _, Nat.zero_le _⟩) hP hD hS hA [0, 1, 2, 3, 4, 5, 6, 7, 8, 9, 10, 11, 12, 13] [] rfl rfl (by decide) (by decide) (fun rr u1 H locs hw hP hD hS => ?_)
  obtain rfl := hw
  have hP : va_P D vwCl (mW5 cI cZ ad w h (thN true false) n kn po B ht dr wh sb V la sl we of_ Sn tp re) H := hP
  have hD : va_D A (mW5 cI cZ ad w h (thN true false) n kn po B ht dr wh sb V la sl we of_ Sn tp re) := hD
  refine b_if_eq (tgt := 26) hx hb dX5_at_19 (by decide) (fun c19_2 => absurd c19_2 (by decide)) (fun _ => ?_)
  refine lv_iconst (v := nI 0) hx hb dX5_at_22 (by decide) ?_
  refine lv_goto (tgt := 37) hx hb dX5_at_23 (by decide) ?_
  exact mu_iret (S := Unit) (wf := fun _ => (mW5 cI cZ ad w h 1 n kn po B ht dr wh sb V la sl we of_ Sn tp re)) hx hb hr hlocks () rfl hP hD hS dX5_at_37

set_option maxHeartbeats 4000000 in
set_option maxRecDepth 100000 in
theorem c5_at_ok (l : Launch) (D : va_G) (cI cJ cZ : ClassId) (ad : Nat → Nat) (w h th n kn po : Nat) (B : Nat → Int32) (ht dr wh sb : Nat → Nat) (V : Nat → Int32) (la sl we of_ : Nat → Nat) (Sn : Nat → Int32) (tp re : Nat → Nat) (c r : Nat) (sz : Nat) (hd : Dm w h) (hq : isq w h (nI c) (nI r) = true) (hc : c < w) (hr0 : r < h) : Met l yX5_at wsX5_at (k2_rm 1 22) (MPc D [.ref (ad 0), .int (nI c), .int (nI r)] (mW5 cI cZ ad w h th n kn po B ht dr wh sb V la sl we of_ Sn tp re) (tyA cI cJ cZ) sz) (mQi D (fun r9 (_ : Unit) => r9 = B (7 * c + r)) (fun _ => (mW5 cI cZ ad w h 0 n kn po B ht dr wh sb V la sl we of_ Sn tp re)) (va_A (mW5 cI cZ ad w h th n kn po B ht dr wh sb V la sl we of_ Sn tp re) sz)) 0 0 (va_A (mW5 cI cZ ad w h th n kn po B ht dr wh sb V la sl we of_ Sn tp re) sz) := by
  refine mu_head (Qc := fun A => mQi D (fun r9 (_ : Unit) => r9 = B (7 * c + r)) (fun _ => (mW5 cI cZ ad w h 0 n kn po B ht dr wh sb V la sl we of_ Sn tp re)) A) (cc := cX5_at) (maxL := 3) (ret := (some .int)) (by decide) rfl (Nat.le_of_ble_eq_true rfl) ?_
  intro p e s m below meth cd ls A hx hb hr hlocks hnm hts hown hml hA hP hK hD hN hS hl
  have hl : lv_has ls 3 [(0, .ref (ad 0)), (1, .int (nI c)), (2, .int (nI r))] := hl
  have hd0 := hd
  obtain ⟨h3w, hw9, h3h, hh7, hwh, h64⟩ := hd0
  refine lv_aload_n hx hb dX5_at_0 rfl (lv_at hl 0 rfl) ?_
  refine lv_aload_n hx hb dX5_at_1 rfl (lv_at hl 0 rfl) ?_
  refine lv_iload_n hx hb dX5_at_2 rfl (lv_at hl 1 rfl) ?_
  refine lv_iload_n hx hb dX5_at_3 rfl (lv_at hl 2 rfl) ?_
  refine ro_call (W.runV (As := [.int (nI c), .int (nI r)]) (rest := [.ref (ad 0)]) ⟨hx, hb, hml, hown, hts⟩ (c_isSquare l D cI cJ cZ ad w h th n kn po (nI c) (nI r)) (cwV 2 hts gX5_at_X5_isSquare rfl rfl rfl (by decide +kernel) ⟨Nat.le_of_ble_eq_true rfl, Nat.le_of_ble_eq_true rfl⟩) ⟨RPc.blind, va_recv hK hP (ci := 5) (q0 := 0) rfl rfl, (RPc.at (hP.sub [0] rfl) hK hN)⟩ rfl rfl hl.1 rfl (lv_room (Nat.le_of_ble_eq_true rfl)) dX5_at_4 ⟨Nat.zero_le _, Nat.zero_le _⟩) ?_
  refine b_if_ne (tgt := 14) hx hb dX5_at_7 (by decide) (fun c7_1 => ?_) (fun c7_1 => ?_)
  · skip
    refine lv_iconst (v := nI 0) hx hb dX5_at_14 (by decide) ?_
    refine rt_i (v := bI false) rfl ?_
    refine lv_iconst (v := nI 0) hx hb dX5_at_15 (by decide) ?_
    refine rt_i (v := bI false) rfl ?_
    refine mu_calli (wr := []) (va_runV (As := [.int (bI false), .int (bI false)]) (rest := []) ⟨hx, hb, hml, hown, hts⟩ (c5_refused l D cI cJ cZ ad w h th n kn po B ht dr wh sb V la sl we of_ Sn tp re false false _ ) (cwV 2 hts gX5_at_X5_refused rfl rfl rfl (by decide +kernel) ⟨Nat.le_of_ble_eq_true rfl, Nat.le_of_ble_eq_true rfl⟩) ⟨MPc.blind, va_recv hK hP (ci := 5) (q0 := 0) rfl rfl, (MPc.at (hP.sub [0, 1, 2, 3, 4, 5, 6, 7, 8, 9, 10, 11, 12, 13] rfl) (hD.sub [0, 1, 2, 3, 4, 5, 6, 7, 8, 9, 10, 11, 12, 13] (by decide) rfl) hK hN)⟩ rfl rfl hl.1 rfl (lv_room (Nat.le_of_ble_eq_true rfl)) dX5_at_16 ⟨Nat.zero_le _, Nat.zero_le _⟩) hP hD hS hA [0, 1, 2, 3, 4, 5, 6, 7, 8, 9, 10, 11, 12, 13] [] rfl rfl (by decide) (by decide) (fun rr u1 H locs hw hP hD hS => ?_)
    obtain rfl := hw
    have hP : va_P D vwCl (mW5 cI cZ ad w h (thN false false) n kn po B ht dr wh sb V la sl we of_ Sn tp re) H := hP
    have hD : va_D A (mW5 cI cZ ad w h (thN false false) n kn po B ht dr wh sb V la sl we of_ Sn tp re) := hD
    refine b_if_eq (tgt := 26) hx hb dX5_at_19 (by decide) (fun _ => ?_) (fun c19_2 => absurd c19_2 (by decide))
    refine lv_aload_n hx hb dX5_at_26 rfl (lv_at hl 0 rfl) ?_
    refine va_get (C := RX5) (T := TX5) (N := 19) hx hb hts (by decide +kernel) hown hK hP 0 rfl rfl 3 (by decide) (hts (.fieldLink RX5 7 RX5 "board" "[I") (by decide +kernel)) (fun _ h9 => h9) rfl dX5_at_27 ?_
    refine lv_bipush (v := nI 7) hx hb dX5_at_30 (by decide) ?_
    refine lv_iload_n hx hb dX5_at_32 rfl (lv_at hl 1 rfl) ?_
    refine n_imul hx hb dX5_at_33 ?_
    refine lv_iload_n hx hb dX5_at_34 rfl (lv_at hl 2 rfl) ?_
    refine n_iadd hx hb dX5_at_35 ?_
    refine n_iald hx hb hK hP 1 0 rfl rfl (by omega) (by omega) dX5_at_36 ?_
    exact mu_iret (S := Unit) (wf := fun _ => (mW5 cI cZ ad w h 0 n kn po B ht dr wh sb V la sl we of_ Sn tp re)) hx hb hr hlocks () rfl hP hD hS dX5_at_37
  · exact absurd c7_1 (by rw [hq]; decide)

set_option maxHeartbeats 4000000 in
set_option maxRecDepth 100000 in
theorem c5_dropWins (l : Launch) (D : va_G) (cI cJ cZ : ClassId) (ad : Nat → Nat) (w h th n kn po : Nat) (B : Nat → Int32) (ht dr wh sb : Nat → Nat) (V : Nat → Int32) (la sl we of_ : Nat → Nat) (Sn : Nat → Int32) (tp re : Nat → Nat) (c pl : Nat) (sz : Nat) (hd : Dm w h) (hc : c < w) (htp : tp c < h) (hsn : Sn (7 * c + tp c) = -1) : Met l yX5_dropWins wsX5_dropWins (k2_rm 3 74) (MPc D [.ref (ad 0), .int (nI c), .int (nI pl)] (mW5 cI cZ ad w h th n kn po B ht dr wh sb V la sl we of_ Sn tp re) (tyA cI cJ cZ) sz) (mQi D (fun r9 (_ : Unit) => r9 = bI (wnB w h (upd Sn (7 * c + tp c) (nI pl)) c (tp c))) (fun _ => (mW5 cI cZ ad w h th n kn po B ht dr wh sb V la sl we of_ Sn tp re)) (va_A (mW5 cI cZ ad w h th n kn po B ht dr wh sb V la sl we of_ Sn tp re) sz)) 0 0 (va_A (mW5 cI cZ ad w h th n kn po B ht dr wh sb V la sl we of_ Sn tp re) sz) := by
  refine mu_head (Qc := fun A => mQi D (fun r9 (_ : Unit) => r9 = bI (wnB w h (upd Sn (7 * c + tp c) (nI pl)) c (tp c))) (fun _ => (mW5 cI cZ ad w h th n kn po B ht dr wh sb V la sl we of_ Sn tp re)) A) (cc := cX5_dropWins) (maxL := 4) (ret := (some .boolean)) (by decide) rfl (Nat.le_of_ble_eq_true rfl) ?_
  intro p e s m below meth cd ls A hx hb hr hlocks hnm hts hown hml hA hP hK hD hN hS hl
  have hl : lv_has ls 4 [(0, .ref (ad 0)), (1, .int (nI c)), (2, .int (nI pl))] := hl
  have hd0 := hd
  obtain ⟨h3w, hw9, h3h, hh7, hwh, h64⟩ := hd0
  refine lv_aload_n hx hb dX5_dropWins_0 rfl (lv_at hl 0 rfl) ?_
  refine va_get (C := RX5) (T := TX5) (N := 19) hx hb hts (by decide +kernel) hown hK hP 0 rfl rfl 16 (by decide) (hts (.fieldLink RX5 42 RX5 "seen" "[I") (by decide +kernel)) (fun _ h9 => h9) rfl dX5_dropWins_1 ?_
  refine lv_bipush (v := nI 7) hx hb dX5_dropWins_4 (by decide) ?_
  refine lv_iload_n hx hb dX5_dropWins_6 rfl (lv_at hl 1 rfl) ?_
  refine n_imul hx hb dX5_dropWins_7 ?_
  refine lv_aload_n hx hb dX5_dropWins_8 rfl (lv_at hl 0 rfl) ?_
  refine va_get (C := RX5) (T := TX5) (N := 19) hx hb hts (by decide +kernel) hown hK hP 0 rfl rfl 17 (by decide) (hts (.fieldLink RX5 45 RX5 "tops" "[I") (by decide +kernel)) (fun _ h9 => h9) rfl dX5_dropWins_9 ?_
  refine lv_iload_n hx hb dX5_dropWins_12 rfl (lv_at hl 1 rfl) ?_
  refine n_iald hx hb hK hP 12 0 rfl rfl (by omega) (by omega) dX5_dropWins_13 ?_
  refine n_iadd hx hb dX5_dropWins_14 ?_
  refine lv_iload_n hx hb dX5_dropWins_15 rfl (lv_at hl 2 rfl) ?_
  refine n_iastR hx hb hK hP hD hS 11 0 rfl rfl (by omega) (by omega) dX5_dropWins_16 (fun H locs hP hD hS => ?_)
  have hP : va_P D vwCl (mW5 cI cZ ad w h th n kn po B ht dr wh sb V la sl we of_ (upd Sn ((7 * c) + (tp c)) (nI pl)) tp re) H := hP
  have hD : va_D A (mW5 cI cZ ad w h th n kn po B ht dr wh sb V la sl we of_ (upd Sn ((7 * c) + (tp c)) (nI pl)) tp re) := hD
  refine lv_aload_n hx hb dX5_dropWins_17 rfl (lv_at hl 0 rfl) ?_
  refine lv_aload_n hx hb dX5_dropWins_18 rfl (lv_at hl 0 rfl) ?_
  refine va_get (C := RX5) (T := TX5) (N := 19) hx hb hts (by decide +kernel) hown hK hP 0 rfl rfl 16 (by decide) (hts (.fieldLink RX5 42 RX5 "seen" "[I") (by decide +kernel)) (fun _ h9 => h9) rfl dX5_dropWins_19 ?_
  refine lv_iload_n hx hb dX5_dropWins_22 rfl (lv_at hl 1 rfl) ?_
  refine lv_aload_n hx hb dX5_dropWins_23 rfl (lv_at hl 0 rfl) ?_
  refine va_get (C := RX5) (T := TX5) (N := 19) hx hb hts (by decide +kernel) hown hK hP 0 rfl rfl 17 (by decide) (hts (.fieldLink RX5 45 RX5 "tops" "[I") (by decide +kernel)) (fun _ h9 => h9) rfl dX5_dropWins_24 ?_
  refine lv_iload_n hx hb dX5_dropWins_27 rfl (lv_at hl 1 rfl) ?_
  refine n_iald hx hb hK hP 12 0 rfl rfl (by omega) (by omega) dX5_dropWins_28 ?_
  refine ro_call (W.runV (As := [.ref (ad 11), .int (nI c), .int (nI (tp c))]) (rest := []) ⟨hx, hb, hml, hown, hts⟩ (c_wins l D cI cJ cZ ad w h th n kn po (ad 11) (upd Sn ((7 * c) + (tp c)) (nI pl)) c (tp c) hw9 hh7 hc htp) (cwV 3 hts gX5_dropWins_X5_wins rfl rfl rfl (by decide +kernel) ⟨Nat.le_of_ble_eq_true rfl, Nat.le_of_ble_eq_true rfl⟩) ⟨RPc.blind, va_recv hK hP (ci := 5) (q0 := 0) rfl rfl, (RPc.at (hP.sub [0, 11] rfl) hK hN)⟩ rfl rfl hl.1 rfl (lv_room (Nat.le_of_ble_eq_true rfl)) dX5_dropWins_29 ⟨Nat.zero_le _, Nat.zero_le _⟩) ?_
  refine lv_istore_n (lv' := [(3, .int (bI (wnB w h (upd Sn ((7 * c) + (tp c)) (nI pl)) c (tp c)))), (0, .ref (ad 0)), (1, .int (nI c)), (2, .int (nI pl))]) hx hb dX5_dropWins_32 rfl hl (by decide) rfl (fun ls hl => ?_)
  refine lv_aload_n hx hb dX5_dropWins_33 rfl (lv_at hl 1 rfl) ?_
  refine va_get (C := RX5) (T := TX5) (N := 19) hx hb hts (by decide +kernel) hown hK hP 0 rfl rfl 16 (by decide) (hts (.fieldLink RX5 42 RX5 "seen" "[I") (by decide +kernel)) (fun _ h9 => h9) rfl dX5_dropWins_34 ?_
  refine lv_bipush (v := nI 7) hx hb dX5_dropWins_37 (by decide) ?_
  refine lv_iload_n hx hb dX5_dropWins_39 rfl (lv_at hl 2 rfl) ?_
  refine n_imul hx hb dX5_dropWins_40 ?_
  refine lv_aload_n hx hb dX5_dropWins_41 rfl (lv_at hl 1 rfl) ?_
  refine va_get (C := RX5) (T := TX5) (N := 19) hx hb hts (by decide +kernel) hown hK hP 0 rfl rfl 17 (by decide) (hts (.fieldLink RX5 45 RX5 "tops" "[I") (by decide +kernel)) (fun _ h9 => h9) rfl dX5_dropWins_42 ?_
  refine lv_iload_n hx hb dX5_dropWins_45 rfl (lv_at hl 2 rfl) ?_
  refine n_iald hx hb hK hP 12 0 rfl rfl (by omega) (by omega) dX5_dropWins_46 ?_
  refine n_iadd hx hb dX5_dropWins_47 ?_
  refine lv_iconst (v := -1) hx hb dX5_dropWins_48 (by decide) ?_
  refine n_iastR hx hb hK hP hD hS 11 0 rfl rfl (by omega) (by omega) dX5_dropWins_49 (fun H locs hP hD hS => ?_)
  have hP : va_P D vwCl (mW5 cI cZ ad w h th n kn po B ht dr wh sb V la sl we of_ (upd (upd Sn ((7 * c) + (tp c)) (nI pl)) ((7 * c) + (tp c)) (-1)) tp re) H := hP
  have hD : va_D A (mW5 cI cZ ad w h th n kn po B ht dr wh sb V la sl we of_ (upd (upd Sn ((7 * c) + (tp c)) (nI pl)) ((7 * c) + (tp c)) (-1)) tp re) := hD
  refine lv_iload_n hx hb dX5_dropWins_50 rfl (lv_at hl 0 rfl) ?_
  rw [upd_back hsn] at hP hD
  exact mu_zret (S := Unit) (wf := fun _ => (mW5 cI cZ ad w h th n kn po B ht dr wh sb V la sl we of_ Sn tp re)) hx hb hr hlocks (by first | rfl | exact bI_nar _) () rfl hP hD hS dX5_dropWins_51

set_option maxHeartbeats 4000000 in
set_option maxRecDepth 100000 in
theorem c5_open_no (l : Launch) (D : va_G) (cI cJ cZ : ClassId) (ad : Nat → Nat) (w h th n kn po : Nat) (B : Nat → Int32) (ht dr wh sb : Nat → Nat) (V : Nat → Int32) (la sl we of_ : Nat → Nat) (Sn : Nat → Int32) (tp re : Nat → Nat) (k : Int32) (sz : Nat) (hk : ipB k = false) : Met l yX5_open wsX5_open (k2_rm 3 75) (MPc D [.ref (ad 0), .int k] (mW5 cI cZ ad w h th n kn po B ht dr wh sb V la sl we of_ Sn tp re) (tyA cI cJ cZ) sz) (mQi D (fun r9 (_ : Unit) => r9 = nI 0) (fun _ => (mW5 cI cZ ad w h 1 n kn po B ht dr wh sb V la sl we of_ Sn tp re)) (va_A (mW5 cI cZ ad w h th n kn po B ht dr wh sb V la sl we of_ Sn tp re) sz)) 0 0 (va_A (mW5 cI cZ ad w h th n kn po B ht dr wh sb V la sl we of_ Sn tp re) sz) := by
  refine mu_head (Qc := fun A => mQi D (fun r9 (_ : Unit) => r9 = nI 0) (fun _ => (mW5 cI cZ ad w h 1 n kn po B ht dr wh sb V la sl we of_ Sn tp re)) A) (cc := cX5_open) (maxL := 6) (ret := (some .int)) (by decide) rfl (Nat.le_of_ble_eq_true rfl) ?_
  intro p e s m below meth cd ls A hx hb hr hlocks hnm hts hown hml hA hP hK hD hN hS hl
  have hl : lv_has ls 6 [(0, .ref (ad 0)), (1, .int k)] := hl
  refine lv_aload_n hx hb dX5_open_0 rfl (lv_at hl 0 rfl) ?_
  refine lv_iload_n hx hb dX5_open_1 rfl (lv_at hl 1 rfl) ?_
  refine lv_if_lt (tgt := 10) hx hb dX5_open_2 (by decide) (fun c2_1 => ?_) (fun c2_1 => ?_)
  · skip
    refine lv_iconst (v := nI 1) hx hb dX5_open_10 (by decide) ?_
    refine rt_i (v := bI true) rfl ?_
    refine lv_goto (tgt := 15) hx hb dX5_open_11 (by decide) ?_
    refine lv_iconst (v := nI 0) hx hb dX5_open_15 (by decide) ?_
    refine rt_i (v := bI false) rfl ?_
    refine mu_calli (wr := []) (va_runV (As := [.int (bI true), .int (bI false)]) (rest := []) ⟨hx, hb, hml, hown, hts⟩ (c5_refused l D cI cJ cZ ad w h th n kn po B ht dr wh sb V la sl we of_ Sn tp re true false _ ) (cwV 2 hts gX5_open_X5_refused rfl rfl rfl (by decide +kernel) ⟨Nat.le_of_ble_eq_true rfl, Nat.le_of_ble_eq_true rfl⟩) ⟨MPc.blind, va_recv hK hP (ci := 5) (q0 := 0) rfl rfl, (MPc.at (hP.sub [0, 1, 2, 3, 4, 5, 6, 7, 8, 9, 10, 11, 12, 13] rfl) (hD.sub [0, 1, 2, 3, 4, 5, 6, 7, 8, 9, 10, 11, 12, 13] (by decide) rfl) hK hN)⟩ rfl rfl hl.1 rfl (lv_room (Nat.le_of_ble_eq_true rfl)) dX5_open_16 ⟨Nat.zero_le _, Nat.zero_le _⟩) hP hD hS hA [0, 1, 2, 3, 4, 5, 6, 7, 8, 9, 10, 11, 12, 13] [] rfl rfl (by decide) (by decide) (fun rr u1 H locs hw hP hD hS => ?_)
    obtain rfl := hw
    have hP : va_P D vwCl (mW5 cI cZ ad w h (thN true false) n kn po B ht dr wh sb V la sl we of_ Sn tp re) H := hP
    have hD : va_D A (mW5 cI cZ ad w h (thN true false) n kn po B ht dr wh sb V la sl we of_ Sn tp re) := hD
    refine b_if_eq (tgt := 24) hx hb dX5_open_19 (by decide) (fun c19_2 => absurd c19_2 (by decide)) (fun _ => ?_)
    refine lv_iconst (v := nI 0) hx hb dX5_open_22 (by decide) ?_
    exact mu_iret (S := Unit) (wf := fun _ => (mW5 cI cZ ad w h 1 n kn po B ht dr wh sb V la sl we of_ Sn tp re)) hx hb hr hlocks () rfl hP hD hS dX5_open_23
  refine lv_iload_n hx hb dX5_open_5 rfl (lv_at hl 1 rfl) ?_
  refine lv_iconst (v := nI 1) hx hb dX5_open_6 (by decide) ?_
  refine lv_icmp_le (tgt := 14) hx hb dX5_open_7 (by decide) (fun c7_3 => ?_) (fun c7_3 => ?_)
  · exact absurd c7_3 (fun q => (ip_no hk).elim c2_1 (fun z => z q))
  refine lv_iconst (v := nI 1) hx hb dX5_open_10 (by decide) ?_
  refine rt_i (v := bI true) rfl ?_
  refine lv_goto (tgt := 15) hx hb dX5_open_11 (by decide) ?_
  refine lv_iconst (v := nI 0) hx hb dX5_open_15 (by decide) ?_
  refine rt_i (v := bI false) rfl ?_
  refine mu_calli (wr := []) (va_runV (As := [.int (bI true), .int (bI false)]) (rest := []) ⟨hx, hb, hml, hown, hts⟩ (c5_refused l D cI cJ cZ ad w h th n kn po B ht dr wh sb V la sl we of_ Sn tp re true false _ ) (cwV 2 hts gX5_open_X5_refused rfl rfl rfl (by decide +kernel) ⟨Nat.le_of_ble_eq_true rfl, Nat.le_of_ble_eq_true rfl⟩) ⟨MPc.blind, va_recv hK hP (ci := 5) (q0 := 0) rfl rfl, (MPc.at (hP.sub [0, 1, 2, 3, 4, 5, 6, 7, 8, 9, 10, 11, 12, 13] rfl) (hD.sub [0, 1, 2, 3, 4, 5, 6, 7, 8, 9, 10, 11, 12, 13] (by decide) rfl) hK hN)⟩ rfl rfl hl.1 rfl (lv_room (Nat.le_of_ble_eq_true rfl)) dX5_open_16 ⟨Nat.zero_le _, Nat.zero_le _⟩) hP hD hS hA [0, 1, 2, 3, 4, 5, 6, 7, 8, 9, 10, 11, 12, 13] [] rfl rfl (by decide) (by decide) (fun rr u1 H locs hw hP hD hS => ?_)
  obtain rfl := hw
  have hP : va_P D vwCl (mW5 cI cZ ad w h (thN true false) n kn po B ht dr wh sb V la sl we of_ Sn tp re) H := hP
  have hD : va_D A (mW5 cI cZ ad w h (thN true false) n kn po B ht dr wh sb V la sl we of_ Sn tp re) := hD
  refine b_if_eq (tgt := 24) hx hb dX5_open_19 (by decide) (fun c19_4 => absurd c19_4 (by decide)) (fun _ => ?_)
  refine lv_iconst (v := nI 0) hx hb dX5_open_22 (by decide) ?_
  exact mu_iret (S := Unit) (wf := fun _ => (mW5 cI cZ ad w h 1 n kn po B ht dr wh sb V la sl we of_ Sn tp re)) hx hb hr hlocks () rfl hP hD hS dX5_open_23

set_option maxHeartbeats 4000000 in
set_option maxRecDepth 100000 in
theorem c5_threats_no (l : Launch) (D : va_G) (cI cJ cZ : ClassId) (ad : Nat → Nat) (w h th n kn po : Nat) (B : Nat → Int32) (ht dr wh sb : Nat → Nat) (V : Nat → Int32) (la sl we of_ : Nat → Nat) (Sn : Nat → Int32) (tp re : Nat → Nat) (k : Int32) (sz : Nat) (hk : ipB k = false) : Met l yX5_threats wsX5_threats (k2_rm 3 75) (MPc D [.ref (ad 0), .int k] (mW5 cI cZ ad w h th n kn po B ht dr wh sb V la sl we of_ Sn tp re) (tyA cI cJ cZ) sz) (mQi D (fun r9 (_ : Unit) => r9 = nI 0) (fun _ => (mW5 cI cZ ad w h 1 n kn po B ht dr wh sb V la sl we of_ Sn tp re)) (va_A (mW5 cI cZ ad w h th n kn po B ht dr wh sb V la sl we of_ Sn tp re) sz)) 0 0 (va_A (mW5 cI cZ ad w h th n kn po B ht dr wh sb V la sl we of_ Sn tp re) sz) := by
  refine mu_head (Qc := fun A => mQi D (fun r9 (_ : Unit) => r9 = nI 0) (fun _ => (mW5 cI cZ ad w h 1 n kn po B ht dr wh sb V la sl we of_ Sn tp re)) A) (cc := cX5_threats) (maxL := 5) (ret := (some .int)) (by decide) rfl (Nat.le_of_ble_eq_true rfl) ?_
  intro p e s m below meth cd ls A hx hb hr hlocks hnm hts hown hml hA hP hK hD hN hS hl
  have hl : lv_has ls 5 [(0, .ref (ad 0)), (1, .int k)] := hl
  refine lv_aload_n hx hb dX5_threats_0 rfl (lv_at hl 0 rfl) ?_
  refine lv_iload_n hx hb dX5_threats_1 rfl (lv_at hl 1 rfl) ?_
  refine lv_if_lt (tgt := 10) hx hb dX5_threats_2 (by decide) (fun c2_1 => ?_) (fun c2_1 => ?_)
  · skip
    refine lv_iconst (v := nI 1) hx hb dX5_threats_10 (by decide) ?_
    refine rt_i (v := bI true) rfl ?_
    refine lv_goto (tgt := 15) hx hb dX5_threats_11 (by decide) ?_
    refine lv_iconst (v := nI 0) hx hb dX5_threats_15 (by decide) ?_
    refine rt_i (v := bI false) rfl ?_
    refine mu_calli (wr := []) (va_runV (As := [.int (bI true), .int (bI false)]) (rest := []) ⟨hx, hb, hml, hown, hts⟩ (c5_refused l D cI cJ cZ ad w h th n kn po B ht dr wh sb V la sl we of_ Sn tp re true false _ ) (cwV 2 hts gX5_threats_X5_refused rfl rfl rfl (by decide +kernel) ⟨Nat.le_of_ble_eq_true rfl, Nat.le_of_ble_eq_true rfl⟩) ⟨MPc.blind, va_recv hK hP (ci := 5) (q0 := 0) rfl rfl, (MPc.at (hP.sub [0, 1, 2, 3, 4, 5, 6, 7, 8, 9, 10, 11, 12, 13] rfl) (hD.sub [0, 1, 2, 3, 4, 5, 6, 7, 8, 9, 10, 11, 12, 13] (by decide) rfl) hK hN)⟩ rfl rfl hl.1 rfl (lv_room (Nat.le_of_ble_eq_true rfl)) dX5_threats_16 ⟨Nat.zero_le _, Nat.zero_le _⟩) hP hD hS hA [0, 1, 2, 3, 4, 5, 6, 7, 8, 9, 10, 11, 12, 13] [] rfl rfl (by decide) (by decide) (fun rr u1 H locs hw hP hD hS => ?_)
    obtain rfl := hw
    have hP : va_P D vwCl (mW5 cI cZ ad w h (thN true false) n kn po B ht dr wh sb V la sl we of_ Sn tp re) H := hP
    have hD : va_D A (mW5 cI cZ ad w h (thN true false) n kn po B ht dr wh sb V la sl we of_ Sn tp re) := hD
    refine b_if_eq (tgt := 24) hx hb dX5_threats_19 (by decide) (fun c19_2 => absurd c19_2 (by decide)) (fun _ => ?_)
    refine lv_iconst (v := nI 0) hx hb dX5_threats_22 (by decide) ?_
    exact mu_iret (S := Unit) (wf := fun _ => (mW5 cI cZ ad w h 1 n kn po B ht dr wh sb V la sl we of_ Sn tp re)) hx hb hr hlocks () rfl hP hD hS dX5_threats_23
  refine lv_iload_n hx hb dX5_threats_5 rfl (lv_at hl 1 rfl) ?_
  refine lv_iconst (v := nI 1) hx hb dX5_threats_6 (by decide) ?_
  refine lv_icmp_le (tgt := 14) hx hb dX5_threats_7 (by decide) (fun c7_3 => ?_) (fun c7_3 => ?_)
  · exact absurd c7_3 (fun q => (ip_no hk).elim c2_1 (fun z => z q))
  refine lv_iconst (v := nI 1) hx hb dX5_threats_10 (by decide) ?_
  refine rt_i (v := bI true) rfl ?_
  refine lv_goto (tgt := 15) hx hb dX5_threats_11 (by decide) ?_
  refine lv_iconst (v := nI 0) hx hb dX5_threats_15 (by decide) ?_
  refine rt_i (v := bI false) rfl ?_
  refine mu_calli (wr := []) (va_runV (As := [.int (bI true), .int (bI false)]) (rest := []) ⟨hx, hb, hml, hown, hts⟩ (c5_refused l D cI cJ cZ ad w h th n kn po B ht dr wh sb V la sl we of_ Sn tp re true false _ ) (cwV 2 hts gX5_threats_X5_refused rfl rfl rfl (by decide +kernel) ⟨Nat.le_of_ble_eq_true rfl, Nat.le_of_ble_eq_true rfl⟩) ⟨MPc.blind, va_recv hK hP (ci := 5) (q0 := 0) rfl rfl, (MPc.at (hP.sub [0, 1, 2, 3, 4, 5, 6, 7, 8, 9, 10, 11, 12, 13] rfl) (hD.sub [0, 1, 2, 3, 4, 5, 6, 7, 8, 9, 10, 11, 12, 13] (by decide) rfl) hK hN)⟩ rfl rfl hl.1 rfl (lv_room (Nat.le_of_ble_eq_true rfl)) dX5_threats_16 ⟨Nat.zero_le _, Nat.zero_le _⟩) hP hD hS hA [0, 1, 2, 3, 4, 5, 6, 7, 8, 9, 10, 11, 12, 13] [] rfl rfl (by decide) (by decide) (fun rr u1 H locs hw hP hD hS => ?_)
  obtain rfl := hw
  have hP : va_P D vwCl (mW5 cI cZ ad w h (thN true false) n kn po B ht dr wh sb V la sl we of_ Sn tp re) H := hP
  have hD : va_D A (mW5 cI cZ ad w h (thN true false) n kn po B ht dr wh sb V la sl we of_ Sn tp re) := hD
  refine b_if_eq (tgt := 24) hx hb dX5_threats_19 (by decide) (fun c19_4 => absurd c19_4 (by decide)) (fun _ => ?_)
  refine lv_iconst (v := nI 0) hx hb dX5_threats_22 (by decide) ?_
  exact mu_iret (S := Unit) (wf := fun _ => (mW5 cI cZ ad w h 1 n kn po B ht dr wh sb V la sl we of_ Sn tp re)) hx hb hr hlocks () rfl hP hD hS dX5_threats_23

set_option maxHeartbeats 4000000 in
set_option maxRecDepth 100000 in
theorem c5_open_ok (l : Launch) (D : va_G) (cI cJ cZ : ClassId) (ad : Nat → Nat) (w h th n kn po : Nat) (B : Nat → Int32) (ht dr wh sb : Nat → Nat) (V : Nat → Int32) (la sl we of_ : Nat → Nat) (Sn : Nat → Int32) (tp re : Nat → Nat) (pp : Nat) (sz : Nat) (hd : Dm w h) (hp : pp ≤ 1) : Met l yX5_open wsX5_open (k2_rm 3 75) (MPc D [.ref (ad 0), .int (nI pp)] (mW5 cI cZ ad w h th n kn po B ht dr wh sb V la sl we of_ Sn tp re) (tyA cI cJ cZ) sz) (mQi D (fun r9 (_ : Unit) => r9 = nI (opN w h B (1 - pp))) (fun _ => (mW5 cI cZ ad w h 0 n kn po B ht dr wh sb V la sl we of_ Sn tp re)) (va_A (mW5 cI cZ ad w h th n kn po B ht dr wh sb V la sl we of_ Sn tp re) sz)) 0 0 (va_A (mW5 cI cZ ad w h th n kn po B ht dr wh sb V la sl we of_ Sn tp re) sz) := by
  refine mu_head (Qc := fun A => mQi D (fun r9 (_ : Unit) => r9 = nI (opN w h B (1 - pp))) (fun _ => (mW5 cI cZ ad w h 0 n kn po B ht dr wh sb V la sl we of_ Sn tp re)) A) (cc := cX5_open) (maxL := 6) (ret := (some .int)) (by decide) rfl (Nat.le_of_ble_eq_true rfl) ?_
  intro p e s m below meth cd ls A hx hb hr hlocks hnm hts hown hml hA hP hK hD hN hS hl
  have hl : lv_has ls 6 [(0, .ref (ad 0)), (1, .int (nI pp))] := hl
  have hd0 := hd
  obtain ⟨h3w, hw9, h3h, hh7, hwh, h64⟩ := hd0
  refine lv_aload_n hx hb dX5_open_0 rfl (lv_at hl 0 rfl) ?_
  refine lv_iload_n hx hb dX5_open_1 rfl (lv_at hl 1 rfl) ?_
  refine lv_if_lt (tgt := 10) hx hb dX5_open_2 (by decide) (fun c2_1 => ?_) (fun c2_1 => ?_)
  · exact absurd c2_1 (nI_pos (by omega))
  refine lv_iload_n hx hb dX5_open_5 rfl (lv_at hl 1 rfl) ?_
  refine lv_iconst (v := nI 1) hx hb dX5_open_6 (by decide) ?_
  refine n_icmp_le (tgt := 14) hx hb dX5_open_7 (by decide) (by omega) (by omega) (fun c7_2 => ?_) (fun c7_2 => ?_)
  · skip
    refine lv_iconst (v := nI 0) hx hb dX5_open_14 (by decide) ?_
    refine rt_i (v := bI false) rfl ?_
    refine lv_iconst (v := nI 0) hx hb dX5_open_15 (by decide) ?_
    refine rt_i (v := bI false) rfl ?_
    refine mu_calli (wr := []) (va_runV (As := [.int (bI false), .int (bI false)]) (rest := []) ⟨hx, hb, hml, hown, hts⟩ (c5_refused l D cI cJ cZ ad w h th n kn po B ht dr wh sb V la sl we of_ Sn tp re false false _ ) (cwV 2 hts gX5_open_X5_refused rfl rfl rfl (by decide +kernel) ⟨Nat.le_of_ble_eq_true rfl, Nat.le_of_ble_eq_true rfl⟩) ⟨MPc.blind, va_recv hK hP (ci := 5) (q0 := 0) rfl rfl, (MPc.at (hP.sub [0, 1, 2, 3, 4, 5, 6, 7, 8, 9, 10, 11, 12, 13] rfl) (hD.sub [0, 1, 2, 3, 4, 5, 6, 7, 8, 9, 10, 11, 12, 13] (by decide) rfl) hK hN)⟩ rfl rfl hl.1 rfl (lv_room (Nat.le_of_ble_eq_true rfl)) dX5_open_16 ⟨Nat.zero_le _, Nat.zero_le _⟩) hP hD hS hA [0, 1, 2, 3, 4, 5, 6, 7, 8, 9, 10, 11, 12, 13] [] rfl rfl (by decide) (by decide) (fun rr u1 H locs hw hP hD hS => ?_)
    obtain rfl := hw
    have hP : va_P D vwCl (mW5 cI cZ ad w h (thN false false) n kn po B ht dr wh sb V la sl we of_ Sn tp re) H := hP
    have hD : va_D A (mW5 cI cZ ad w h (thN false false) n kn po B ht dr wh sb V la sl we of_ Sn tp re) := hD
    refine b_if_eq (tgt := 24) hx hb dX5_open_19 (by decide) (fun _ => ?_) (fun c19_3 => absurd c19_3 (by decide))
    refine lv_iconst (v := nI 0) hx hb dX5_open_24 (by decide) ?_
    refine lv_istore_n (lv' := [(2, .int (nI 0)), (0, .ref (ad 0)), (1, .int (nI pp))]) hx hb dX5_open_25 rfl hl (by decide) rfl (fun ls hl => ?_)
    refine lv_iconst (v := nI 0) hx hb dX5_open_26 (by decide) ?_
    refine lv_istore_n (lv' := [(3, .int (nI 0)), (2, .int (nI 0)), (0, .ref (ad 0)), (1, .int (nI pp))]) hx hb dX5_open_27 rfl hl (by decide) rfl (fun ls hl => ?_)
    refine loopW (σ := Nat) (m := m) 28 6 (fun i qx => [(0, .ref (ad 0)), (1, .int (nI pp)), (3, .int (nI i)), (2, .int (nI qx))]) (fun i qx => qx = sumN (opC w h B (1 - pp)) i) w ?_ ?_ 0 0 ls (by omega) rfl (lv_sub hl [2, 3, 0, 1] rfl)
    · intro c qx ls hi_28 hI_28 hl ih_28
      obtain ⟨kk, rfl⟩ : ∃ z, z = qx := ⟨_, rfl⟩
      have hl : lv_has ls 6 [(0, .ref (ad 0)), (1, .int (nI pp)), (3, .int (nI c)), (2, .int (nI kk))] := hl
      have hI_28 : kk = sumN (opC w h B (1 - pp)) c := hI_28
      refine lv_iload_n hx hb dX5_open_28 rfl (lv_at hl 2 rfl) ?_
      refine lv_aload_n hx hb dX5_open_29 rfl (lv_at hl 0 rfl) ?_
      refine va_get (C := RX5) (T := TX5) (N := 19) hx hb hts (by decide +kernel) hown hK hP 0 rfl rfl 1 (by decide) (hts (.fieldLink RX5 52 RX5 "w" "I") (by decide +kernel)) (fun _ h9 => h9) rfl dX5_open_30 ?_
      refine n_icmp_ge (tgt := 110) hx hb dX5_open_33 (by decide) (by omega) (by omega) (fun c33_4 => ?_) (fun c33_4 => ?_)
      · exact absurd c33_4 (by omega)
      refine lv_iconst (v := nI 0) hx hb dX5_open_36 (by decide) ?_
      refine lv_istore (lv' := [(4, .int (nI 0)), (0, .ref (ad 0)), (1, .int (nI pp)), (3, .int (nI c)), (2, .int (nI kk))]) hx hb dX5_open_37 hl (by decide) rfl (fun ls hl => ?_)
      refine loopW (σ := Nat) (m := m) 39 6 (fun i qx => [(0, .ref (ad 0)), (1, .int (nI pp)), (3, .int (nI c)), (4, .int (nI i)), (2, .int (nI qx))]) (fun i qx => qx = sumN (opC w h B (1 - pp)) c + sumN (opR w h B (1 - pp) c) i) h ?_ ?_ 0 kk ls (by omega) (by rw [hI_28]; rfl) (lv_sub hl [1, 2, 3, 0, 4] rfl)
      · intro r qx ls hi_39 hI_39 hl ih_39
        obtain ⟨k2, rfl⟩ : ∃ z, z = qx := ⟨_, rfl⟩
        have hl : lv_has ls 6 [(0, .ref (ad 0)), (1, .int (nI pp)), (3, .int (nI c)), (4, .int (nI r)), (2, .int (nI k2))] := hl
        have hI_39 : k2 = sumN (opC w h B (1 - pp)) c + sumN (opR w h B (1 - pp) c) r := hI_39
        refine lv_iload hx hb dX5_open_39 (lv_at hl 3 rfl) ?_
        refine lv_aload_n hx hb dX5_open_41 rfl (lv_at hl 0 rfl) ?_
        refine va_get (C := RX5) (T := TX5) (N := 19) hx hb hts (by decide +kernel) hown hK hP 0 rfl rfl 2 (by decide) (hts (.fieldLink RX5 56 RX5 "h" "I") (by decide +kernel)) (fun _ h9 => h9) rfl dX5_open_42 ?_
        refine n_icmp_ge (tgt := 104) hx hb dX5_open_45 (by decide) (by omega) (by omega) (fun c45_5 => ?_) (fun c45_5 => ?_)
        · exact absurd c45_5 (by omega)
        refine lv_iconst (v := nI 0) hx hb dX5_open_48 (by decide) ?_
        refine lv_istore (lv' := [(5, .int (nI 0)), (0, .ref (ad 0)), (1, .int (nI pp)), (3, .int (nI c)), (4, .int (nI r)), (2, .int (nI k2))]) hx hb dX5_open_49 hl (by decide) rfl (fun ls hl => ?_)
        refine loopW (σ := Nat) (m := m) 51 6 (fun i qx => [(0, .ref (ad 0)), (1, .int (nI pp)), (3, .int (nI c)), (4, .int (nI r)), (5, .int (nI i)), (2, .int (nI qx))]) (fun i qx => qx = (sumN (opC w h B (1 - pp)) c + sumN (opR w h B (1 - pp) c) r) + sumN (opF w h B (1 - pp) c r) i) 4 ?_ ?_ 0 k2 ls (by omega) (by rw [hI_39]; rfl) (lv_sub hl [1, 2, 3, 4, 0, 5] rfl)
        · intro way qx ls hi_51 hI_51 hl ih_51
          obtain ⟨k3, rfl⟩ : ∃ z, z = qx := ⟨_, rfl⟩
          have hl : lv_has ls 6 [(0, .ref (ad 0)), (1, .int (nI pp)), (3, .int (nI c)), (4, .int (nI r)), (5, .int (nI way)), (2, .int (nI k3))] := hl
          have hI_51 : k3 = (sumN (opC w h B (1 - pp)) c + sumN (opR w h B (1 - pp) c) r) + sumN (opF w h B (1 - pp) c r) way := hI_51
          refine lv_iload hx hb dX5_open_51 (lv_at hl 4 rfl) ?_
          refine lv_iconst (v := nI 4) hx hb dX5_open_53 (by decide) ?_
          refine n_icmp_ge (tgt := 98) hx hb dX5_open_54 (by decide) (by omega) (by omega) (fun c54_6 => ?_) (fun c54_6 => ?_)
          · exact absurd c54_6 (by omega)
          refine lv_aload_n hx hb dX5_open_57 rfl (lv_at hl 0 rfl) ?_
          refine lv_iload_n hx hb dX5_open_58 rfl (lv_at hl 2 rfl) ?_
          refine rt_i (v := zI (c : Int)) (zI_n _).symm ?_
          refine lv_iload hx hb dX5_open_59 (lv_at hl 3 rfl) ?_
          refine rt_i (v := zI (r : Int)) (zI_n _).symm ?_
          refine lv_iload hx hb dX5_open_61 (lv_at hl 4 rfl) ?_
          refine ro_call (W.runV (As := [.int (zI (c : Int)), .int (zI (r : Int)), .int (nI way)]) (rest := []) ⟨hx, hb, hml, hown, hts⟩ (c_isLine l D cI cJ cZ ad w h (thN false false) n kn po (c : Int) (r : Int) way (by omega)) (cwV 3 hts gX5_open_X5_isLine rfl rfl rfl (by decide +kernel) ⟨Nat.le_of_ble_eq_true rfl, Nat.le_of_ble_eq_true rfl⟩) ⟨RPc.blind, va_recv hK hP (ci := 5) (q0 := 0) rfl rfl, (RPc.at (hP.sub [0] rfl) hK hN)⟩ rfl rfl hl.1 rfl (lv_room (Nat.le_of_ble_eq_true rfl)) dX5_open_63 ⟨Nat.zero_le _, Nat.zero_le _⟩) ?_
          refine b_if_eq (tgt := 90) hx hb dX5_open_66 (by decide) (fun c66_7 => ?_) (fun c66_7 => ?_)
          · skip
            refine lv_iload_n hx hb dX5_open_90 rfl (lv_at hl 5 rfl) ?_
            refine lv_istore_n (lv' := [(2, .int (nI k3)), (0, .ref (ad 0)), (1, .int (nI pp)), (3, .int (nI c)), (4, .int (nI r)), (5, .int (nI way))]) hx hb dX5_open_91 rfl hl (by decide) rfl (fun ls hl => ?_)
            refine n_iinc (n := 1) (lv' := [(5, .int (nI (way + 1))), (2, .int (nI k3)), (0, .ref (ad 0)), (1, .int (nI pp)), (3, .int (nI c)), (4, .int (nI r))]) hx hb dX5_open_92 hl (k := 5) rfl (by decide) rfl (fun ls hl => ?_)
            refine lv_goto (tgt := 51) hx hb dX5_open_95 (by decide) ?_
            exact ih_51 k3 ls (by rw [sumN, opF, if_neg (fun q => absurd q.1 (by rw [c66_7]; decide)), hI_51]; rfl) (lv_sub hl [2, 3, 4, 5, 0, 1] rfl)
          have hs4 := sq4_of hw9 hh7 (c := (c : Int)) (r := (r : Int)) (by omega) (by omega) c66_7
          refine lv_aload_n hx hb dX5_open_69 rfl (lv_at hl 0 rfl) ?_
          refine lv_iload_n hx hb dX5_open_70 rfl (lv_at hl 2 rfl) ?_
          refine rt_i (v := zI (c : Int)) (zI_n _).symm ?_
          refine lv_iload hx hb dX5_open_71 (lv_at hl 3 rfl) ?_
          refine rt_i (v := zI (r : Int)) (zI_n _).symm ?_
          refine lv_iload hx hb dX5_open_73 (lv_at hl 4 rfl) ?_
          refine lv_iconst (v := nI 1) hx hb dX5_open_75 (by decide) ?_
          refine lv_iload_n hx hb dX5_open_76 rfl (lv_at hl 1 rfl) ?_
          refine n_isub hx hb dX5_open_77 (by omega) ?_
          refine ro_call (W.runV (As := [.int (zI (c : Int)), .int (zI (r : Int)), .int (nI way), .int (nI (1 - pp))]) (rest := []) ⟨hx, hb, hml, hown, hts⟩ (c_many l D cI cJ cZ ad w h (thN false false) n kn po B ht dr wh sb V la sl we of_ Sn tp re (c : Int) (r : Int) way (1 - pp) (by omega) hs4) (cwV 4 hts gX5_open_X5_many rfl rfl rfl (by decide +kernel) ⟨Nat.le_of_ble_eq_true rfl, Nat.le_of_ble_eq_true rfl⟩) ⟨RPc.blind, va_recv hK hP (ci := 5) (q0 := 0) rfl rfl, (RPc.at (hP.sub [0, 1, 2, 3, 4, 5, 6, 7, 8, 9, 10, 11, 12, 13] rfl) hK hN)⟩ rfl rfl hl.1 rfl (lv_room (Nat.le_of_ble_eq_true rfl)) dX5_open_78 ⟨Nat.zero_le _, Nat.zero_le _⟩) ?_
          refine n_if_ne (tgt := 90) hx hb dX5_open_81 (by decide) (Nat.lt_of_le_of_lt (mnN_le 4) (by decide)) (fun c81_8 => ?_) (fun c81_8 => ?_)
          · skip
            refine lv_iload_n hx hb dX5_open_90 rfl (lv_at hl 5 rfl) ?_
            refine lv_istore_n (lv' := [(2, .int (nI k3)), (0, .ref (ad 0)), (1, .int (nI pp)), (3, .int (nI c)), (4, .int (nI r)), (5, .int (nI way))]) hx hb dX5_open_91 rfl hl (by decide) rfl (fun ls hl => ?_)
            refine n_iinc (n := 1) (lv' := [(5, .int (nI (way + 1))), (2, .int (nI k3)), (0, .ref (ad 0)), (1, .int (nI pp)), (3, .int (nI c)), (4, .int (nI r))]) hx hb dX5_open_92 hl (k := 5) rfl (by decide) rfl (fun ls hl => ?_)
            refine lv_goto (tgt := 51) hx hb dX5_open_95 (by decide) ?_
            exact ih_51 k3 ls (by rw [sumN, opF, if_neg (fun q => c81_8 q.2), hI_51]; rfl) (lv_sub hl [2, 3, 4, 5, 0, 1] rfl)
          refine lv_iload_n hx hb dX5_open_84 rfl (lv_at hl 5 rfl) ?_
          refine lv_iconst (v := nI 1) hx hb dX5_open_85 (by decide) ?_
          refine n_iadd hx hb dX5_open_86 ?_
          refine lv_goto (tgt := 91) hx hb dX5_open_87 (by decide) ?_
          refine lv_istore_n (lv' := [(2, .int (nI (k3 + 1))), (0, .ref (ad 0)), (1, .int (nI pp)), (3, .int (nI c)), (4, .int (nI r)), (5, .int (nI way))]) hx hb dX5_open_91 rfl hl (by decide) rfl (fun ls hl => ?_)
          refine n_iinc (n := 1) (lv' := [(5, .int (nI (way + 1))), (2, .int (nI (k3 + 1))), (0, .ref (ad 0)), (1, .int (nI pp)), (3, .int (nI c)), (4, .int (nI r))]) hx hb dX5_open_92 hl (k := 5) rfl (by decide) rfl (fun ls hl => ?_)
          refine lv_goto (tgt := 51) hx hb dX5_open_95 (by decide) ?_
          exact ih_51 (k3 + 1) ls (by rw [sumN, opF, if_pos ⟨c66_7, c81_8⟩, hI_51, Nat.add_assoc]) (lv_sub hl [2, 3, 4, 5, 0, 1] rfl)
        · intro qx ls hI_51 hl
          obtain ⟨k3, rfl⟩ : ∃ z, z = qx := ⟨_, rfl⟩
          have hl : lv_has ls 6 [(0, .ref (ad 0)), (1, .int (nI pp)), (3, .int (nI c)), (4, .int (nI r)), (5, .int (nI 4)), (2, .int (nI k3))] := hl
          have hI_51 : k3 = (sumN (opC w h B (1 - pp)) c + sumN (opR w h B (1 - pp) c) r) + sumN (opF w h B (1 - pp) c r) 4 := hI_51
          refine lv_iload hx hb dX5_open_51 (lv_at hl 4 rfl) ?_
          refine lv_iconst (v := nI 4) hx hb dX5_open_53 (by decide) ?_
          refine n_icmp_ge (tgt := 98) hx hb dX5_open_54 (by decide) (by decide) (by decide) (fun _ => ?_) (fun c54_9 => absurd c54_9 (by decide))
          refine n_iinc (n := 1) (lv' := [(4, .int (nI (r + 1))), (0, .ref (ad 0)), (1, .int (nI pp)), (3, .int (nI c)), (5, .int (nI 4)), (2, .int (nI k3))]) hx hb dX5_open_98 hl (k := 3) rfl (by decide) rfl (fun ls hl => ?_)
          refine lv_goto (tgt := 39) hx hb dX5_open_101 (by decide) ?_
          exact ih_39 k3 ls (hI_51.trans (Nat.add_assoc _ _ _)) (lv_sub hl [1, 2, 3, 0, 5] rfl)
      · intro qx ls hI_39 hl
        obtain ⟨k2, rfl⟩ : ∃ z, z = qx := ⟨_, rfl⟩
        have hl : lv_has ls 6 [(0, .ref (ad 0)), (1, .int (nI pp)), (3, .int (nI c)), (4, .int (nI h)), (2, .int (nI k2))] := hl
        have hI_39 : k2 = sumN (opC w h B (1 - pp)) c + sumN (opR w h B (1 - pp) c) h := hI_39
        refine lv_iload hx hb dX5_open_39 (lv_at hl 3 rfl) ?_
        refine lv_aload_n hx hb dX5_open_41 rfl (lv_at hl 0 rfl) ?_
        refine va_get (C := RX5) (T := TX5) (N := 19) hx hb hts (by decide +kernel) hown hK hP 0 rfl rfl 2 (by decide) (hts (.fieldLink RX5 56 RX5 "h" "I") (by decide +kernel)) (fun _ h9 => h9) rfl dX5_open_42 ?_
        refine n_icmp_ge (tgt := 104) hx hb dX5_open_45 (by decide) (by omega) (by omega) (fun c45_10 => ?_) (fun c45_10 => ?_)
        · skip
          refine n_iinc (n := 1) (lv' := [(3, .int (nI (c + 1))), (0, .ref (ad 0)), (1, .int (nI pp)), (4, .int (nI h)), (2, .int (nI k2))]) hx hb dX5_open_104 hl (k := 2) rfl (by decide) rfl (fun ls hl => ?_)
          refine lv_goto (tgt := 28) hx hb dX5_open_107 (by decide) ?_
          exact ih_28 k2 ls hI_39 (lv_sub hl [1, 2, 0, 4] rfl)
        · exact absurd c45_10 (by omega)
    · intro qx ls hI_28 hl
      obtain ⟨kk, rfl⟩ : ∃ z, z = qx := ⟨_, rfl⟩
      have hl : lv_has ls 6 [(0, .ref (ad 0)), (1, .int (nI pp)), (3, .int (nI w)), (2, .int (nI kk))] := hl
      have hI_28 : kk = sumN (opC w h B (1 - pp)) w := hI_28
      refine lv_iload_n hx hb dX5_open_28 rfl (lv_at hl 2 rfl) ?_
      refine lv_aload_n hx hb dX5_open_29 rfl (lv_at hl 0 rfl) ?_
      refine va_get (C := RX5) (T := TX5) (N := 19) hx hb hts (by decide +kernel) hown hK hP 0 rfl rfl 1 (by decide) (hts (.fieldLink RX5 52 RX5 "w" "I") (by decide +kernel)) (fun _ h9 => h9) rfl dX5_open_30 ?_
      refine n_icmp_ge (tgt := 110) hx hb dX5_open_33 (by decide) (by omega) (by omega) (fun c33_11 => ?_) (fun c33_11 => ?_)
      · skip
        refine lv_iload_n hx hb dX5_open_110 rfl (lv_at hl 3 rfl) ?_
        exact mu_iret (S := Unit) (wf := fun _ => (mW5 cI cZ ad w h 0 n kn po B ht dr wh sb V la sl we of_ Sn tp re)) hx hb hr hlocks () (by rw [hI_28]; rfl) hP hD hS dX5_open_111
      · exact absurd c33_11 (by omega)
  · exact absurd c7_2 (by omega)

set_option maxHeartbeats 4000000 in
set_option maxRecDepth 100000 in
theorem c5_threats_ok (l : Launch) (D : va_G) (cI cJ cZ : ClassId) (ad : Nat → Nat) (w h th n kn po : Nat) (B : Nat → Int32) (ht dr wh sb : Nat → Nat) (V : Nat → Int32) (la sl we of_ : Nat → Nat) (Sn : Nat → Int32) (tp re : Nat → Nat) (pp : Nat) (sz : Nat) (hd : Dm w h) (hp : pp ≤ 1) : Met l yX5_threats wsX5_threats (k2_rm 3 75) (MPc D [.ref (ad 0), .int (nI pp)] (mW5 cI cZ ad w h th n kn po B ht dr wh sb V la sl we of_ Sn tp re) (tyA cI cJ cZ) sz) (mQi D (fun r9 (_ : Unit) => r9 = nI (tsN w h B pp)) (fun _ => (mW5 cI cZ ad w h 0 n kn po B ht dr wh sb V la sl we of_ Sn tp re)) (va_A (mW5 cI cZ ad w h th n kn po B ht dr wh sb V la sl we of_ Sn tp re) sz)) 0 0 (va_A (mW5 cI cZ ad w h th n kn po B ht dr wh sb V la sl we of_ Sn tp re) sz) := by
  refine mu_head (Qc := fun A => mQi D (fun r9 (_ : Unit) => r9 = nI (tsN w h B pp)) (fun _ => (mW5 cI cZ ad w h 0 n kn po B ht dr wh sb V la sl we of_ Sn tp re)) A) (cc := cX5_threats) (maxL := 5) (ret := (some .int)) (by decide) rfl (Nat.le_of_ble_eq_true rfl) ?_
  intro p e s m below meth cd ls A hx hb hr hlocks hnm hts hown hml hA hP hK hD hN hS hl
  have hl : lv_has ls 5 [(0, .ref (ad 0)), (1, .int (nI pp))] := hl
  have hd0 := hd
  obtain ⟨h3w, hw9, h3h, hh7, hwh, h64⟩ := hd0
  refine lv_aload_n hx hb dX5_threats_0 rfl (lv_at hl 0 rfl) ?_
  refine lv_iload_n hx hb dX5_threats_1 rfl (lv_at hl 1 rfl) ?_
  refine lv_if_lt (tgt := 10) hx hb dX5_threats_2 (by decide) (fun c2_1 => ?_) (fun c2_1 => ?_)
  · exact absurd c2_1 (nI_pos (by omega))
  refine lv_iload_n hx hb dX5_threats_5 rfl (lv_at hl 1 rfl) ?_
  refine lv_iconst (v := nI 1) hx hb dX5_threats_6 (by decide) ?_
  refine n_icmp_le (tgt := 14) hx hb dX5_threats_7 (by decide) (by omega) (by omega) (fun c7_2 => ?_) (fun c7_2 => ?_)
  · skip
    refine lv_iconst (v := nI 0) hx hb dX5_threats_14 (by decide) ?_
    refine rt_i (v := bI false) rfl ?_
    refine lv_iconst (v := nI 0) hx hb dX5_threats_15 (by decide) ?_
    refine rt_i (v := bI false) rfl ?_
    refine mu_calli (wr := []) (va_runV (As := [.int (bI false), .int (bI false)]) (rest := []) ⟨hx, hb, hml, hown, hts⟩ (c5_refused l D cI cJ cZ ad w h th n kn po B ht dr wh sb V la sl we of_ Sn tp re false false _ ) (cwV 2 hts gX5_threats_X5_refused rfl rfl rfl (by decide +kernel) ⟨Nat.le_of_ble_eq_true rfl, Nat.le_of_ble_eq_true rfl⟩) ⟨MPc.blind, va_recv hK hP (ci := 5) (q0 := 0) rfl rfl, (MPc.at (hP.sub [0, 1, 2, 3, 4, 5, 6, 7, 8, 9, 10, 11, 12, 13] rfl) (hD.sub [0, 1, 2, 3, 4, 5, 6, 7, 8, 9, 10, 11, 12, 13] (by decide) rfl) hK hN)⟩ rfl rfl hl.1 rfl (lv_room (Nat.le_of_ble_eq_true rfl)) dX5_threats_16 ⟨Nat.zero_le _, Nat.zero_le _⟩) hP hD hS hA [0, 1, 2, 3, 4, 5, 6, 7, 8, 9, 10, 11, 12, 13] [] rfl rfl (by decide) (by decide) (fun rr u1 H locs hw hP hD hS => ?_)
    obtain rfl := hw
    have hP : va_P D vwCl (mW5 cI cZ ad w h (thN false false) n kn po B ht dr wh sb V la sl we of_ Sn tp re) H := hP
    have hD : va_D A (mW5 cI cZ ad w h (thN false false) n kn po B ht dr wh sb V la sl we of_ Sn tp re) := hD
    refine b_if_eq (tgt := 24) hx hb dX5_threats_19 (by decide) (fun _ => ?_) (fun c19_3 => absurd c19_3 (by decide))
    refine lv_iconst (v := nI 0) hx hb dX5_threats_24 (by decide) ?_
    refine lv_istore_n (lv' := [(2, .int (nI 0)), (0, .ref (ad 0)), (1, .int (nI pp))]) hx hb dX5_threats_25 rfl hl (by decide) rfl (fun ls hl => ?_)
    refine lv_iconst (v := nI 0) hx hb dX5_threats_26 (by decide) ?_
    refine lv_istore_n (lv' := [(3, .int (nI 0)), (2, .int (nI 0)), (0, .ref (ad 0)), (1, .int (nI pp))]) hx hb dX5_threats_27 rfl hl (by decide) rfl (fun ls hl => ?_)
    refine loopW (σ := Nat) (m := m) 28 5 (fun i qx => [(0, .ref (ad 0)), (1, .int (nI pp)), (3, .int (nI i)), (2, .int (nI qx))]) (fun i qx => qx = sumN (tsC w h B pp) i) w ?_ ?_ 0 0 ls (by omega) rfl (lv_sub hl [2, 3, 0, 1] rfl)
    · intro c qx ls hi_28 hI_28 hl ih_28
      obtain ⟨kk, rfl⟩ : ∃ z, z = qx := ⟨_, rfl⟩
      have hl : lv_has ls 5 [(0, .ref (ad 0)), (1, .int (nI pp)), (3, .int (nI c)), (2, .int (nI kk))] := hl
      have hI_28 : kk = sumN (tsC w h B pp) c := hI_28
      refine lv_iload_n hx hb dX5_threats_28 rfl (lv_at hl 2 rfl) ?_
      refine lv_aload_n hx hb dX5_threats_29 rfl (lv_at hl 0 rfl) ?_
      refine va_get (C := RX5) (T := TX5) (N := 19) hx hb hts (by decide +kernel) hown hK hP 0 rfl rfl 1 (by decide) (hts (.fieldLink RX5 52 RX5 "w" "I") (by decide +kernel)) (fun _ h9 => h9) rfl dX5_threats_30 ?_
      refine n_icmp_ge (tgt := 95) hx hb dX5_threats_33 (by decide) (by omega) (by omega) (fun c33_4 => ?_) (fun c33_4 => ?_)
      · exact absurd c33_4 (by omega)
      refine lv_iconst (v := nI 0) hx hb dX5_threats_36 (by decide) ?_
      refine lv_istore (lv' := [(4, .int (nI 0)), (0, .ref (ad 0)), (1, .int (nI pp)), (3, .int (nI c)), (2, .int (nI kk))]) hx hb dX5_threats_37 hl (by decide) rfl (fun ls hl => ?_)
      refine loopW (σ := Nat) (m := m) 39 5 (fun i qx => [(0, .ref (ad 0)), (1, .int (nI pp)), (3, .int (nI c)), (4, .int (nI i)), (2, .int (nI qx))]) (fun i qx => qx = sumN (tsC w h B pp) c + sumN (tsF w h B pp c) i) h ?_ ?_ 0 kk ls (by omega) (by rw [hI_28]; rfl) (lv_sub hl [1, 2, 3, 0, 4] rfl)
      · intro r qx ls hi_39 hI_39 hl ih_39
        obtain ⟨k2, rfl⟩ : ∃ z, z = qx := ⟨_, rfl⟩
        have hl : lv_has ls 5 [(0, .ref (ad 0)), (1, .int (nI pp)), (3, .int (nI c)), (4, .int (nI r)), (2, .int (nI k2))] := hl
        have hI_39 : k2 = sumN (tsC w h B pp) c + sumN (tsF w h B pp c) r := hI_39
        refine lv_iload hx hb dX5_threats_39 (lv_at hl 3 rfl) ?_
        refine lv_aload_n hx hb dX5_threats_41 rfl (lv_at hl 0 rfl) ?_
        refine va_get (C := RX5) (T := TX5) (N := 19) hx hb hts (by decide +kernel) hown hK hP 0 rfl rfl 2 (by decide) (hts (.fieldLink RX5 56 RX5 "h" "I") (by decide +kernel)) (fun _ h9 => h9) rfl dX5_threats_42 ?_
        refine n_icmp_ge (tgt := 89) hx hb dX5_threats_45 (by decide) (by omega) (by omega) (fun c45_5 => ?_) (fun c45_5 => ?_)
        · exact absurd c45_5 (by omega)
        refine lv_aload_n hx hb dX5_threats_48 rfl (lv_at hl 0 rfl) ?_
        refine va_get (C := RX5) (T := TX5) (N := 19) hx hb hts (by decide +kernel) hown hK hP 0 rfl rfl 3 (by decide) (hts (.fieldLink RX5 7 RX5 "board" "[I") (by decide +kernel)) (fun _ h9 => h9) rfl dX5_threats_49 ?_
        refine lv_bipush (v := nI 7) hx hb dX5_threats_52 (by decide) ?_
        refine lv_iload_n hx hb dX5_threats_54 rfl (lv_at hl 2 rfl) ?_
        refine n_imul hx hb dX5_threats_55 ?_
        refine lv_iload hx hb dX5_threats_56 (lv_at hl 3 rfl) ?_
        refine n_iadd hx hb dX5_threats_58 ?_
        refine n_iald hx hb hK hP 1 0 rfl rfl (by omega) (by omega) dX5_threats_59 ?_
        refine lv_iconst (v := -1) hx hb dX5_threats_60 (by decide) ?_
        refine lv_icmp_ne (tgt := 81) hx hb dX5_threats_61 (by decide) (fun c61_6 => ?_) (fun c61_6 => ?_)
        · skip
          refine lv_iload_n hx hb dX5_threats_81 rfl (lv_at hl 4 rfl) ?_
          refine lv_istore_n (lv' := [(2, .int (nI k2)), (0, .ref (ad 0)), (1, .int (nI pp)), (3, .int (nI c)), (4, .int (nI r))]) hx hb dX5_threats_82 rfl hl (by decide) rfl (fun ls hl => ?_)
          refine n_iinc (n := 1) (lv' := [(4, .int (nI (r + 1))), (2, .int (nI k2)), (0, .ref (ad 0)), (1, .int (nI pp)), (3, .int (nI c))]) hx hb dX5_threats_83 hl (k := 4) rfl (by decide) rfl (fun ls hl => ?_)
          refine lv_goto (tgt := 39) hx hb dX5_threats_86 (by decide) ?_
          exact ih_39 k2 ls (by rw [sumN, tsF, if_neg (fun q => c61_6 q.1), hI_39]; rfl) (lv_sub hl [2, 3, 4, 0, 1] rfl)
        refine lv_aload_n hx hb dX5_threats_64 rfl (lv_at hl 0 rfl) ?_
        refine lv_iload_n hx hb dX5_threats_65 rfl (lv_at hl 2 rfl) ?_
        refine lv_iload hx hb dX5_threats_66 (lv_at hl 3 rfl) ?_
        refine lv_iload_n hx hb dX5_threats_68 rfl (lv_at hl 1 rfl) ?_
        refine ro_call (W.runV (As := [.int (nI c), .int (nI r), .int (nI pp)]) (rest := []) ⟨hx, hb, hml, hown, hts⟩ (c_isThreat l D cI cJ cZ ad w h (thN false false) n kn po B ht dr wh sb V la sl we of_ Sn tp re c r pp hd (by omega) (by omega)) (cwV 3 hts gX5_threats_X5_isThreat rfl rfl rfl (by decide +kernel) ⟨Nat.le_of_ble_eq_true rfl, Nat.le_of_ble_eq_true rfl⟩) ⟨RPc.blind, va_recv hK hP (ci := 5) (q0 := 0) rfl rfl, (RPc.at (hP.sub [0, 1, 2, 3, 4, 5, 6, 7, 8, 9, 10, 11, 12, 13] rfl) hK hN)⟩ rfl rfl hl.1 rfl (lv_room (Nat.le_of_ble_eq_true rfl)) dX5_threats_69 ⟨Nat.zero_le _, Nat.zero_le _⟩) ?_
        refine b_if_eq (tgt := 81) hx hb dX5_threats_72 (by decide) (fun c72_7 => ?_) (fun c72_7 => ?_)
        · skip
          refine lv_iload_n hx hb dX5_threats_81 rfl (lv_at hl 4 rfl) ?_
          refine lv_istore_n (lv' := [(2, .int (nI k2)), (0, .ref (ad 0)), (1, .int (nI pp)), (3, .int (nI c)), (4, .int (nI r))]) hx hb dX5_threats_82 rfl hl (by decide) rfl (fun ls hl => ?_)
          refine n_iinc (n := 1) (lv' := [(4, .int (nI (r + 1))), (2, .int (nI k2)), (0, .ref (ad 0)), (1, .int (nI pp)), (3, .int (nI c))]) hx hb dX5_threats_83 hl (k := 4) rfl (by decide) rfl (fun ls hl => ?_)
          refine lv_goto (tgt := 39) hx hb dX5_threats_86 (by decide) ?_
          exact ih_39 k2 ls (by rw [sumN, tsF, if_neg (fun q => absurd q.2 (by rw [c72_7]; decide)), hI_39]; rfl) (lv_sub hl [2, 3, 4, 0, 1] rfl)
        refine lv_iload_n hx hb dX5_threats_75 rfl (lv_at hl 4 rfl) ?_
        refine lv_iconst (v := nI 1) hx hb dX5_threats_76 (by decide) ?_
        refine n_iadd hx hb dX5_threats_77 ?_
        refine lv_goto (tgt := 82) hx hb dX5_threats_78 (by decide) ?_
        refine lv_istore_n (lv' := [(2, .int (nI (k2 + 1))), (0, .ref (ad 0)), (1, .int (nI pp)), (3, .int (nI c)), (4, .int (nI r))]) hx hb dX5_threats_82 rfl hl (by decide) rfl (fun ls hl => ?_)
        refine n_iinc (n := 1) (lv' := [(4, .int (nI (r + 1))), (2, .int (nI (k2 + 1))), (0, .ref (ad 0)), (1, .int (nI pp)), (3, .int (nI c))]) hx hb dX5_threats_83 hl (k := 4) rfl (by decide) rfl (fun ls hl => ?_)
        refine lv_goto (tgt := 39) hx hb dX5_threats_86 (by decide) ?_
        exact ih_39 (k2 + 1) ls (by rw [sumN, tsF, if_pos ⟨c61_6, c72_7⟩, hI_39, Nat.add_assoc]) (lv_sub hl [2, 3, 4, 0, 1] rfl)
      · intro qx ls hI_39 hl
        obtain ⟨k2, rfl⟩ : ∃ z, z = qx := ⟨_, rfl⟩
        have hl : lv_has ls 5 [(0, .ref (ad 0)), (1, .int (nI pp)), (3, .int (nI c)), (4, .int (nI h)), (2, .int (nI k2))] := hl
        have hI_39 : k2 = sumN (tsC w h B pp) c + sumN (tsF w h B pp c) h := hI_39
        refine lv_iload hx hb dX5_threats_39 (lv_at hl 3 rfl) ?_
        refine lv_aload_n hx hb dX5_threats_41 rfl (lv_at hl 0 rfl) ?_
        refine va_get (C := RX5) (T := TX5) (N := 19) hx hb hts (by decide +kernel) hown hK hP 0 rfl rfl 2 (by decide) (hts (.fieldLink RX5 56 RX5 "h" "I") (by decide +kernel)) (fun _ h9 => h9) rfl dX5_threats_42 ?_
        refine n_icmp_ge (tgt := 89) hx hb dX5_threats_45 (by decide) (by omega) (by omega) (fun c45_8 => ?_) (fun c45_8 => ?_)
        · skip
          refine n_iinc (n := 1) (lv' := [(3, .int (nI (c + 1))), (0, .ref (ad 0)), (1, .int (nI pp)), (4, .int (nI h)), (2, .int (nI k2))]) hx hb dX5_threats_89 hl (k := 2) rfl (by decide) rfl (fun ls hl => ?_)
          refine lv_goto (tgt := 28) hx hb dX5_threats_92 (by decide) ?_
          exact ih_28 k2 ls hI_39 (lv_sub hl [1, 2, 0, 4] rfl)
        · exact absurd c45_8 (by omega)
    · intro qx ls hI_28 hl
      obtain ⟨kk, rfl⟩ : ∃ z, z = qx := ⟨_, rfl⟩
      have hl : lv_has ls 5 [(0, .ref (ad 0)), (1, .int (nI pp)), (3, .int (nI w)), (2, .int (nI kk))] := hl
      have hI_28 : kk = sumN (tsC w h B pp) w := hI_28
      refine lv_iload_n hx hb dX5_threats_28 rfl (lv_at hl 2 rfl) ?_
      refine lv_aload_n hx hb dX5_threats_29 rfl (lv_at hl 0 rfl) ?_
      refine va_get (C := RX5) (T := TX5) (N := 19) hx hb hts (by decide +kernel) hown hK hP 0 rfl rfl 1 (by decide) (hts (.fieldLink RX5 52 RX5 "w" "I") (by decide +kernel)) (fun _ h9 => h9) rfl dX5_threats_30 ?_
      refine n_icmp_ge (tgt := 95) hx hb dX5_threats_33 (by decide) (by omega) (by omega) (fun c33_9 => ?_) (fun c33_9 => ?_)
      · skip
        refine lv_iload_n hx hb dX5_threats_95 rfl (lv_at hl 3 rfl) ?_
        exact mu_iret (S := Unit) (wf := fun _ => (mW5 cI cZ ad w h 0 n kn po B ht dr wh sb V la sl we of_ Sn tp re)) hx hb hr hlocks () (by rw [hI_28]; rfl) hP hD hS dX5_threats_96
      · exact absurd c33_9 (by omega)
  · exact absurd c7_2 (by omega)

set_option maxHeartbeats 4000000 in
set_option maxRecDepth 100000 in
theorem c_isFar (l : Launch) (D : va_G) (cI cJ cZ : ClassId) (ad : Nat → Nat) (w h th n kn po : Nat) (B : Nat → Int32) (ht dr wh sb : Nat → Nat) (V : Nat → Int32) (la sl we of_ : Nat → Nat) (Sn : Nat → Int32) (tp re : Nat → Nat) (hd : Dm w h) (hn : n ≤ w * h) (hlast : 0 < n → dr (n - 1) < w ∧ 1 ≤ ht (dr (n - 1)) ∧ ht (dr (n - 1)) ≤ h) : Met l yX5_isFar wsX5_isFar (k2_rm 4 95) (RPc D [.ref (ad 0)] (mW5 cI cZ ad w h th n kn po B ht dr wh sb V la sl we of_ Sn tp re) (tyA cI cJ cZ)) (k2_QcV (.int (bI (ifB w h B ht dr n)))) 0 0 (fun _ => False) := by
  refine ro_head (cc := cX5_isFar) (maxL := 1) (ret := (some .boolean)) (by decide) rfl (Nat.le_of_ble_eq_true rfl) ?_
  intro p e s m below meth cd ls hx hb hr hlocks hts hown hml hP hK hN hl
  have hl : lv_has ls 1 [(0, .ref (ad 0))] := hl
  have hd0 := hd
  obtain ⟨h3w, hw9, h3h, hh7, hwh, h64⟩ := hd0
  refine lv_aload_n hx hb dX5_isFar_0 rfl (lv_at hl 0 rfl) ?_
  refine ro_call (W.runV (As := []) (rest := []) ⟨hx, hb, hml, hown, hts⟩ (c_winnerNow l D cI cJ cZ ad w h th n kn po B ht dr wh sb V la sl we of_ Sn tp re hd hn hlast) (cwV 0 hts gX5_isFar_X5_winnerNow rfl rfl rfl (by decide +kernel) ⟨Nat.le_of_ble_eq_true rfl, Nat.le_of_ble_eq_true rfl⟩) ⟨RPc.blind, va_recv hK hP (ci := 5) (q0 := 0) rfl rfl, (RPc.at (hP.sub [0, 1, 2, 3, 4, 5, 6, 7, 8, 9, 10, 11, 12, 13] rfl) hK hN)⟩ rfl rfl hl.1 rfl (lv_room (Nat.le_of_ble_eq_true rfl)) dX5_isFar_1 ⟨Nat.zero_le _, Nat.zero_le _⟩) ?_
  refine lv_if_ge (tgt := 26) hx hb dX5_isFar_4 (by decide) (fun c4_1 => ?_) (fun c4_1 => ?_)
  · skip
    refine lv_iconst (v := nI 1) hx hb dX5_isFar_26 (by decide) ?_
    refine lv_goto (tgt := 31) hx hb dX5_isFar_27 (by decide) ?_
    exact ro_zret hx hb hr hlocks (by first | rfl | exact bI_nar _) (by unfold ifB; rw [decide_eq_true c4_1]; rfl) dX5_isFar_31
  refine lv_aload_n hx hb dX5_isFar_7 rfl (lv_at hl 0 rfl) ?_
  refine va_get (C := RX5) (T := TX5) (N := 19) hx hb hts (by decide +kernel) hown hK hP 0 rfl rfl 1 (by decide) (hts (.fieldLink RX5 52 RX5 "w" "I") (by decide +kernel)) (fun _ h9 => h9) rfl dX5_isFar_8 ?_
  refine lv_aload_n hx hb dX5_isFar_11 rfl (lv_at hl 0 rfl) ?_
  refine va_get (C := RX5) (T := TX5) (N := 19) hx hb hts (by decide +kernel) hown hK hP 0 rfl rfl 2 (by decide) (hts (.fieldLink RX5 56 RX5 "h" "I") (by decide +kernel)) (fun _ h9 => h9) rfl dX5_isFar_12 ?_
  refine n_imul hx hb dX5_isFar_15 ?_
  refine lv_aload_n hx hb dX5_isFar_16 rfl (lv_at hl 0 rfl) ?_
  refine va_get (C := RX5) (T := TX5) (N := 19) hx hb hts (by decide +kernel) hown hK hP 0 rfl rfl 6 (by decide) (hts (.fieldLink RX5 70 RX5 "n" "I") (by decide +kernel)) (fun _ h9 => h9) rfl dX5_isFar_17 ?_
  refine n_isub hx hb dX5_isFar_20 (by omega) ?_
  refine lv_bipush (v := nI 12) hx hb dX5_isFar_21 (by decide) ?_
  refine n_icmp_le (tgt := 30) hx hb dX5_isFar_23 (by decide) (by omega) (by omega) (fun c23_2 => ?_) (fun c23_2 => ?_)
  · skip
    refine lv_iconst (v := nI 0) hx hb dX5_isFar_30 (by decide) ?_
    exact ro_zret hx hb hr hlocks (by first | rfl | exact bI_nar _) (by unfold ifB; rw [decide_eq_false c4_1, decide_eq_false (show ¬ 12 < w * h - n by omega)]; rfl) dX5_isFar_31
  refine lv_iconst (v := nI 1) hx hb dX5_isFar_26 (by decide) ?_
  refine lv_goto (tgt := 31) hx hb dX5_isFar_27 (by decide) ?_
  exact ro_zret hx hb hr hlocks (by first | rfl | exact bI_nar _) (by unfold ifB; rw [decide_eq_true (show 12 < w * h - n by omega)]; simp [bI, nI]) dX5_isFar_31
