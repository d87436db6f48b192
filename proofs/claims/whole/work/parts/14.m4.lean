-- ===== M4: longs as sets of squares =====
def ix (h c r : Nat) : Nat := c * (h + 1) + r
theorem ix_div {h c r : Nat} (hr : r ≤ h) : ix h c r / (h + 1) = c := by
  unfold ix
  rw [Nat.add_comm, Nat.add_mul_div_right _ _ (Nat.succ_pos h), Nat.div_eq_of_lt (by omega), Nat.zero_add]
theorem ix_mod {h c r : Nat} (hr : r ≤ h) : ix h c r % (h + 1) = r := by
  unfold ix
  rw [Nat.add_comm, Nat.add_mul_mod_self_right]
  exact Nat.mod_eq_of_lt (by omega)
theorem ix_inj {h c r c' r' : Nat} (hr : r ≤ h) (hr' : r' ≤ h) (e : ix h c r = ix h c' r') : c = c' ∧ r = r' := by
  have e1 := ix_div (c := c) hr
  have e2 := ix_mod (c := c) hr
  rw [e, ix_div hr'] at e1
  rw [e, ix_mod hr'] at e2
  exact ⟨e1.symm, e2.symm⟩
theorem ix_of (h i : Nat) : ∃ c r, r ≤ h ∧ i = ix h c r := ⟨i / (h + 1), i % (h + 1), Nat.lt_succ_iff.mp (Nat.mod_lt _ (Nat.succ_pos h)), by
  unfold ix; rw [Nat.mul_comm]; exact (Nat.div_add_mod i (h + 1)).symm⟩
theorem ix_lt {w h c r : Nat} (hc : c < w) (hr : r ≤ h) : ix h c r < w * (h + 1) := by
  unfold ix
  have : (c + 1) * (h + 1) ≤ w * (h + 1) := Nat.mul_le_mul_right _ hc
  rw [Nat.succ_mul] at this
  omega
theorem ix_up (h c r k : Nat) : ix h c r + k = ix h c (r + k) := by unfold ix; omega
theorem ix_right (h c r : Nat) : ix h c r + (h + 1) = ix h (c + 1) r := by unfold ix; rw [Nat.succ_mul]; omega
/-- the long x has the bits of the set M -/
def Rep (w h : Nat) (x : Int64) (M : Sq) : Prop := (∀ c r, r ≤ h → tb x (ix h c r) = M c r) ∧ (∀ c r, M c r = true → c < w ∧ r < h)
theorem Rep.off {w h : Nat} {x : Int64} {M : Sq} (H : Rep w h x M) {c r : Nat} (hh : ¬ (c < w ∧ r < h)) : M c r = false := by
  cases e : M c r
  · rfl
  · exact absurd (H.2 c r e) hh
theorem Rep.uniq {w h : Nat} {x : Int64} {M M' : Sq} (H : Rep w h x M) (H' : Rep w h x M') : M = M' := by
  funext c r
  by_cases hr : r ≤ h
  · rw [← H.1 c r hr, H'.1 c r hr]
  · rw [H.off (by omega), H'.off (by omega)]
theorem Rep.or {w h : Nat} {x y : Int64} {M T : Sq} (H : Rep w h x M) (H' : Rep w h y T) : Rep w h (x ||| y) (fun c r => M c r || T c r) := by
  refine ⟨fun c r hr => by rw [tb_or, H.1 c r hr, H'.1 c r hr], fun c r e => ?_⟩
  rcases Bool.or_eq_true _ _ |>.mp e with q | q
  · exact H.2 c r q
  · exact H'.2 c r q
theorem Rep.of_tb {w h : Nat} {x : Int64} {M : Sq} (H : Rep w h x M) {i : Nat} (e : tb x i = true) : ∃ c r, c < w ∧ r < h ∧ i = ix h c r ∧ M c r = true := by
  obtain ⟨c, r, hr, rfl⟩ := ix_of h i
  rw [H.1 c r hr] at e
  obtain ⟨h1, h2⟩ := H.2 c r e
  exact ⟨c, r, h1, h2, rfl, e⟩
/-- which way a step of the grid goes -/
def wayOf (j : Nat) : Nat := if j = 0 then 0 else if j = 1 then 3 else if j = 2 then 1 else 2
theorem step_sq {w h : Nat} {x : Int64} {M : Sq} (H : Rep w h x M) {c r j : Nat} (hj : j < 4) (h1 : M c r = true) (h2 : tb x (ix h c r + stp h j) = true) :
    (wayOf j = 3 → 1 ≤ r) ∧ M (ln_c (wayOf j) 1 c) (ln_r (wayOf j) 1 r) = true ∧ ix h c r + stp h j = ix h (ln_c (wayOf j) 1 c) (ln_r (wayOf j) 1 r) := by
  obtain ⟨hc, hr⟩ := H.2 c r h1
  obtain rfl | rfl | rfl | rfl : j = 0 ∨ j = 1 ∨ j = 2 ∨ j = 3 := by omega
  · have e : ix h c r + stp h 0 = ix h c (r + 1) := ix_up h c r 1
    rw [e, H.1 _ _ (by omega)] at h2
    exact ⟨fun q => absurd q (by decide), h2, e⟩
  · by_cases h0 : r = 0
    · subst h0
      have e : ix h c 0 + stp h 1 = ix h c h := by show ix h c 0 + h = _; rw [ix_up, Nat.zero_add]
      rw [e, H.1 _ _ (Nat.le_refl h)] at h2
      exact absurd (H.2 c h h2).2 (Nat.lt_irrefl h)
    · have e : ix h c r + stp h 1 = ix h (c + 1) (r - 1) := by
        show ix h c r + h = _
        unfold ix; rw [Nat.succ_mul]; omega
      rw [e, H.1 _ _ (by omega)] at h2
      exact ⟨fun _ => by omega, h2, e⟩
  · have e : ix h c r + stp h 2 = ix h (c + 1) r := ix_right h c r
    rw [e, H.1 _ _ (by omega)] at h2
    exact ⟨fun q => absurd q (by decide), h2, e⟩
  · have e : ix h c r + stp h 3 = ix h (c + 1) (r + 1) := by
      show ix h c r + (h + 2) = _
      unfold ix; rw [Nat.succ_mul]; omega
    rw [e, H.1 _ _ (by omega)] at h2
    exact ⟨fun q => absurd q (by decide), h2, e⟩
theorem ln_c1 (way i c : Nat) : ln_c way 1 (ln_c way i c) = ln_c way (i + 1) c := by unfold ln_c; split <;> omega
theorem ln_r1 (way i r : Nat) : ln_r way 1 (ln_r way i r) = ln_r way (i + 1) r := by unfold ln_r; split <;> first | rfl | (split <;> omega)
theorem ln_c0 (way c : Nat) : ln_c way 0 c = c := by unfold ln_c; split <;> rfl
theorem ln_r0 (way r : Nat) : ln_r way 0 r = r := by unfold ln_r; split <;> first | rfl | (split <;> rfl)
theorem wayOf_lt (j : Nat) : wayOf j < 4 := by unfold wayOf; split <;> first | decide | (split <;> first | decide | (split <;> decide))
/-- four set bits, a step apart: a line -/
theorem bits_line {w h : Nat} {x : Int64} {M : Sq} (H : Rep w h x M) {i j : Nat} (hj : j < 4) (b0 : tb x i = true) (b1 : tb x (i + stp h j) = true) (b2 : tb x (i + 2 * stp h j) = true) (b3 : tb x (i + 3 * stp h j) = true) : hasL w h M := by
  obtain ⟨c, r, hc, hr, rfl, m0⟩ := H.of_tb b0
  obtain ⟨q1, m1, e1⟩ := step_sq H hj m0 b1
  have b2' : tb x (ix h (ln_c (wayOf j) 1 c) (ln_r (wayOf j) 1 r) + stp h j) = true := by rw [← e1, Nat.add_assoc, ← Nat.two_mul]; exact b2
  obtain ⟨q2, m2, e2⟩ := step_sq H hj m1 b2'
  have b3' : tb x (ix h (ln_c (wayOf j) 1 (ln_c (wayOf j) 1 c)) (ln_r (wayOf j) 1 (ln_r (wayOf j) 1 r)) + stp h j) = true := by
    rw [← e2, ← e1]
    have : ix h c r + stp h j + stp h j + stp h j = ix h c r + 3 * stp h j := by omega
    rw [this]; exact b3
  obtain ⟨q3, m3, e3⟩ := step_sq H hj m2 b3'
  rw [ln_c1, ln_r1] at m2
  rw [ln_c1 _ 1 c, ln_r1 _ 1 r, ln_c1, ln_r1] at m3
  refine ⟨wayOf j, c, r, wayOf_lt j, ⟨hc, hr, (H.2 _ _ m3).1, (H.2 _ _ m3).2, fun hw => ?_⟩, fun i hi => ?_⟩
  · have t1 := q1 hw
    have t2 := q2 hw
    have t3 := q3 hw
    rw [hw] at t2 t3
    simp only [ln_r] at t2 t3
    simp at t2 t3
    omega
  · obtain rfl | rfl | rfl | rfl : i = 0 ∨ i = 1 ∨ i = 2 ∨ i = 3 := by omega
    · rw [ln_c0, ln_r0]; exact m0
    · exact m1
    · exact m2
    · exact m3
def stepOf (way : Nat) : Nat := if way = 0 then 0 else if way = 3 then 1 else if way = 1 then 2 else 3
theorem stepOf_lt (way : Nat) : stepOf way < 4 := by unfold stepOf; split <;> first | decide | (split <;> first | decide | (split <;> decide))
theorem ln_ix {w h way c r : Nat} (hw : way < 4) (hl : ln_ok w h way c r) {i : Nat} (hi : i < 4) : ix h c r + i * stp h (stepOf way) = ix h (ln_c way i c) (ln_r way i r) ∧ ln_r way i r < h := by
  obtain ⟨h1, h2, h3, h4, h5⟩ := hl
  obtain rfl | rfl | rfl | rfl : way = 0 ∨ way = 1 ∨ way = 2 ∨ way = 3 := by omega
  · simp [ln_c, ln_r, stepOf, stp] at h3 h4 h5 ⊢
    refine ⟨ix_up h c r i, by omega⟩
  · simp [ln_c, ln_r, stepOf, stp] at h3 h4 h5 ⊢
    refine ⟨?_, h2⟩
    unfold ix
    rw [Nat.add_mul]; omega
  · simp [ln_c, ln_r, stepOf, stp] at h3 h4 h5 ⊢
    refine ⟨?_, by omega⟩
    unfold ix
    have : i * (h + 2) = i * (h + 1) + i := by rw [show h + 2 = (h + 1) + 1 by omega, Nat.mul_succ]
    rw [Nat.add_mul, this]; omega
  · simp [ln_c, ln_r, stepOf, stp] at h3 h4 h5 ⊢
    refine ⟨?_, by omega⟩
    unfold ix
    have : i * (h + 1) = i * h + i := Nat.mul_succ i h
    rw [Nat.add_mul, this]; omega
/-- a line: four set bits, a step apart -/
theorem line_bits {w h : Nat} {x : Int64} {M : Sq} (H : Rep w h x M) (hl : hasL w h M) : ∃ i j, j < 4 ∧ ∀ k, k < 4 → tb x (i + k * stp h j) = true := by
  obtain ⟨way, c, r, hw, ho, hm⟩ := hl
  refine ⟨ix h c r, stepOf way, stepOf_lt way, fun k hk => ?_⟩
  obtain ⟨e, hr⟩ := ln_ix hw ho hk
  rw [e, H.1 _ _ (Nat.le_of_lt hr)]
  exact hm k hk
theorem stp_le {h : Nat} (hh : h ≤ 7) (j : Nat) : stp h j ≤ 9 := by unfold stp; split <;> first | omega | (split <;> first | omega | (split <;> omega))
theorem stp_pos {h : Nat} (hh : 3 ≤ h) (j : Nat) : 1 ≤ stp h j := by unfold stp; split <;> first | omega | (split <;> first | omega | (split <;> omega))
theorem ls_bit {x : Int64} {d : Nat} (hd : d ≤ 9) (i : Nat) : tb (lsL x d) i = (tb x i && (tb x (i + d) && (tb x (i + 2 * d) && tb x (i + 3 * d)))) := by
  unfold lsL
  rw [tb_and, tb_and, tb_shr (by omega), tb_shr (by omega), tb_and, tb_shr (by omega)]
  rw [show d + i = i + d by omega, show 2 * d + i = i + 2 * d by omega, show d + (i + 2 * d) = i + 3 * d by omega]
  cases tb x i <;> cases tb x (i + d) <;> cases tb x (i + 2 * d) <;> cases tb x (i + 3 * d) <;> rfl
theorem nz_bit {x : Int64} (h : ¬ x = 0) : ∃ i, i < 64 ∧ tb x i = true := by
  by_cases q : ∃ i, i < 64 ∧ tb x i = true
  · exact q
  · refine absurd (tb_ext fun i hi => ?_) h
    rw [tb_0]
    cases e : tb x i
    · rfl
    · exact absurd ⟨i, hi, e⟩ q
theorem bit_nz {x : Int64} {i : Nat} (h : tb x i = true) : ¬ x = 0 := by
  intro e
  rw [e, tb_0] at h
  cases h
theorem hl_iff {w h : Nat} (hd : Dm w h) {x : Int64} {M : Sq} (H : Rep w h x M) : hlL h x = true ↔ hasL w h M := by
  obtain ⟨h3w, hw9, h3h, hh7, hwh, h64⟩ := hd
  have key : hlL h x = true ↔ ∃ j, j < 4 ∧ ¬ lsL x (stp h j) = 0 := by
    unfold hlL
    constructor
    · intro q
      simp only [Bool.or_eq_true, Bool.not_eq_true', beq_eq_false_iff_ne] at q
      rcases q with q | q | q | q
      · exact ⟨0, by decide, q⟩
      · exact ⟨1, by decide, q⟩
      · exact ⟨2, by decide, q⟩
      · exact ⟨3, by decide, q⟩
    · rintro ⟨j, hj, q⟩
      simp only [Bool.or_eq_true, Bool.not_eq_true', beq_eq_false_iff_ne]
      obtain rfl | rfl | rfl | rfl : j = 0 ∨ j = 1 ∨ j = 2 ∨ j = 3 := by omega
      · exact Or.inl q
      · exact Or.inr (Or.inl q)
      · exact Or.inr (Or.inr (Or.inl q))
      · exact Or.inr (Or.inr (Or.inr q))
  rw [key]
  constructor
  · rintro ⟨j, hj, q⟩
    obtain ⟨i, -, e⟩ := nz_bit q
    rw [ls_bit (stp_le hh7 j)] at e
    simp only [Bool.and_eq_true] at e
    exact bits_line H hj e.1 e.2.1 e.2.2.1 e.2.2.2
  · intro q
    obtain ⟨i, j, hj, b⟩ := line_bits H q
    refine ⟨j, hj, bit_nz (i := i) ?_⟩
    rw [ls_bit (stp_le hh7 j)]
    have b0 := b 0 (by decide)
    have b1 := b 1 (by decide)
    have b2 := b 2 (by decide)
    have b3 := b 3 (by decide)
    rw [Nat.zero_mul, Nat.add_zero] at b0
    rw [Nat.one_mul] at b1
    rw [b0, b1, b2, b3]; rfl
/-- the board's squares, its floor -/
def onB (w h : Nat) : Sq := fun c r => decide (c < w) && decide (r < h)
theorem tb_pow {k : Nat} (hk : k < 64) (i : Nat) : tb (shlL 1 k) i = decide (i = k) := by
  by_cases hi : i < 64
  · rw [tb_shl hk _ hi, tb_1]
    by_cases e : i = k
    · subst e; simp
    · by_cases h1 : k ≤ i
      · simp [h1, e]; omega
      · simp [h1, e]
  · rw [tb_big (by omega), decide_eq_false (by omega)]
theorem tN_pow {k : Nat} (hk : k < 64) : tN (shlL 1 k) = 2 ^ k := by
  apply Nat.eq_of_testBit_eq
  intro i
  rw [← tb_tN, tb_pow hk, Nat.testBit_two_pow]
  by_cases e : i = k
  · simp [e]
  · simp [e]; omega
theorem tN_shl {k : Nat} (hk : k < 64) {x : Int64} (hx : tN x * 2 ^ k < 2 ^ 64) : tN (shlL x k) = tN x * 2 ^ k := by
  apply Nat.eq_of_testBit_eq
  intro i
  rw [← tb_tN, Nat.testBit_mul_two_pow]
  by_cases hi : i < 64
  · rw [tb_shl hk _ hi, tb_tN]
  · rw [tb_big (by omega)]
    have h1 : (tN x * 2 ^ k).testBit i = false := Nat.testBit_lt_two_pow (Nat.lt_of_lt_of_le hx (Nat.pow_le_pow_right (by decide) (by omega)))
    rw [Nat.testBit_mul_two_pow] at h1
    exact h1.symm
theorem Rep.sq {w h c r : Nat} (hd : Dm w h) (hc : c < w) (hr : r < h) : Rep w h (sqL h c r) (fun c' r' => c' == c && r' == r) := by
  obtain ⟨h3w, hw9, h3h, hh7, hwh, h64⟩ := hd
  have hl := ix_lt hc (Nat.le_of_lt hr)
  refine ⟨fun c' r' hr' => ?_, fun c' r' e => ?_⟩
  · show tb (shlL 1 (ix h c r)) (ix h c' r') = _
    rw [tb_pow (by omega)]
    by_cases e : ix h c' r' = ix h c r
    · obtain ⟨e1, e2⟩ := ix_inj hr' (Nat.le_of_lt hr) e
      simp [e1, e2]
    · rw [decide_eq_false e]
      by_cases e1 : c' = c
      · by_cases e2 : r' = r
        · exact absurd (by rw [e1, e2]) e
        · simp [e2]
      · simp [e1]
  · simp only [Bool.and_eq_true, beq_iff_eq] at e
    rw [e.1, e.2]; exact ⟨hc, hr⟩
theorem Rep.put {w h c r : Nat} (hd : Dm w h) (hc : c < w) (hr : r < h) {x : Int64} {M : Sq} (H : Rep w h x M) : Rep w h (x ||| sqL h c r) (sq_put M c r) := H.or (Rep.sq hd hc hr)
theorem col_bit {w h c : Nat} (hd : Dm w h) (hc : c < w) (c' r : Nat) (hr : r ≤ h) : tb (colL h c) (ix h c' r) = (decide (c' = c) && decide (r < h)) := by
  obtain ⟨h3w, hw9, h3h, hh7, hwh, h64⟩ := hd
  have hl := ix_lt (w := w) (h := h) hc (Nat.le_refl h)
  unfold ix at hl
  have e0 : tN (shlL 1 (c * (h + 1))) = 2 ^ (c * (h + 1)) := tN_pow (by omega)
  have e1 : tN (shlL (shlL 1 (c * (h + 1))) h) = 2 ^ (c * (h + 1)) * 2 ^ h := by
    rw [tN_shl (by omega) (by rw [e0, ← Nat.pow_add]; exact Nat.pow_lt_pow_right (by decide) (by omega)), e0]
  have e2 : tN (colL h c) = 2 ^ (c * (h + 1)) * (2 ^ h - 1) := by
    unfold colL
    rw [tN_sub (by rw [e0, e1]; exact Nat.le_mul_of_pos_right _ (Nat.two_pow_pos h)), e1, e0, Nat.mul_sub, Nat.mul_one]
  rw [tb_tN, e2, Nat.mul_comm, Nat.testBit_mul_two_pow, Nat.testBit_two_pow_sub_one]
  by_cases h1 : c' = c
  · subst h1
    unfold ix
    simp [show c' * (h + 1) + r - c' * (h + 1) = r by omega]
  · simp only [h1, decide_false, Bool.false_and]
    by_cases h2 : c' < c
    · have : (c' + 1) * (h + 1) ≤ c * (h + 1) := Nat.mul_le_mul_right _ h2
      rw [Nat.succ_mul] at this
      unfold ix
      rw [decide_eq_false (by omega)]; rfl
    · have : (c + 1) * (h + 1) ≤ c' * (h + 1) := Nat.mul_le_mul_right _ (by omega)
      rw [Nat.succ_mul] at this
      unfold ix
      rw [decide_eq_false (p := c' * (h + 1) + r - c * (h + 1) < h) (by omega)]; simp
theorem all_bit {w h : Nat} (hd : Dm w h) : ∀ n, n ≤ w → ∀ c r, r ≤ h → tb (allL h n) (ix h c r) = (decide (c < n) && decide (r < h))
  | 0, _, c, r, _ => by unfold allL; rw [tb_0]; simp
  | n + 1, hn, c, r, hr => by
    unfold allL
    rw [tb_or, all_bit hd n (by omega) c r hr, col_bit hd (by omega) c r hr]
    by_cases h1 : c < n
    · simp [h1, show c < n + 1 by omega, show ¬ c = n by omega]
    · by_cases h2 : c = n
      · simp [h2]
      · simp [h1, h2, show ¬ c < n + 1 by omega]
theorem Rep.all {w h : Nat} (hd : Dm w h) : Rep w h (allL h w) (onB w h) := ⟨fun c r hr => all_bit hd w (Nat.le_refl w) c r hr, fun c r e => by simpa [onB] using e⟩
theorem flr_bit {w h : Nat} (hd : Dm w h) : ∀ n, n ≤ w → ∀ c r, r ≤ h → tb (flrL h n) (ix h c r) = (decide (c < n) && decide (r = 0))
  | 0, _, c, r, _ => by unfold flrL; rw [tb_0]; simp
  | n + 1, hn, c, r, hr => by
    have hd' := hd
    obtain ⟨h3w, hw9, h3h, hh7, hwh, h64⟩ := hd'
    have hl := ix_lt (w := w) (h := h) (c := n) (r := 0) (by omega) (by omega)
    unfold flrL
    rw [tb_or, flr_bit hd n (by omega) c r hr, tb_pow (by unfold ix at hl; omega)]
    by_cases e : ix h c r = n * (h + 1)
    · obtain ⟨e1, e2⟩ := ix_inj (h := h) (c' := n) (r' := 0) hr (by omega) e
      rw [decide_eq_true e, decide_eq_true (show c < n + 1 by omega), decide_eq_true e2]; simp
    · rw [decide_eq_false e]
      by_cases h1 : c < n
      · simp [h1, show c < n + 1 by omega]
      · by_cases h2 : c = n
        · have h3 : ¬ r = 0 := fun q => e (by rw [h2, q]; rfl)
          simp [h3]
        · simp [h1, show ¬ c < n + 1 by omega]
theorem dgs_ix {h : Nat} {v : Nat → Nat} {n : Nat} (hv : ∀ c, c < n → v c < 2 ^ (h + 1)) (c r : Nat) (hr : r ≤ h) : (dgs (h + 1) v n).testBit (ix h c r) = (decide (c < n) && (v c).testBit r) := by
  unfold ix
  rw [Nat.mul_comm]
  exact dgs_bit (Nat.succ_pos h) hv c r (by omega)
theorem tN_dgs {h n : Nat} {v : Nat → Nat} {x : Int64} (hv : ∀ c, c < n → v c < 2 ^ (h + 1)) (H : ∀ c r, r ≤ h → tb x (ix h c r) = (decide (c < n) && (v c).testBit r)) : tN x = dgs (h + 1) v n := by
  apply Nat.eq_of_testBit_eq
  intro i
  obtain ⟨c, r, hr, rfl⟩ := ix_of h i
  rw [← tb_tN, H c r hr, dgs_ix hv c r hr]
/-- the stones lie on one another: column c has tp c of them -/
def grav (w : Nat) (tp : Nat → Nat) (U : Sq) : Prop := ∀ c r, U c r = (decide (c < w) && decide (r < tp c))
theorem top_tN {w h : Nat} (hd : Dm w h) {tp : Nat → Nat} (htp : ∀ c, c < w → tp c ≤ h) {u : Int64} {U : Sq} (H : Rep w h u U) (hg : grav w tp U) : tN (u + flrL h w) = dgs (h + 1) (fun c => 2 ^ tp c) w := by
  have hd' := hd
  obtain ⟨h3w, hw9, h3h, hh7, hwh, h64⟩ := hd'
  have e1 : tN u = dgs (h + 1) (fun c => 2 ^ tp c - 1) w := tN_dgs (fun c hc => by
      have := Nat.pow_le_pow_right (n := 2) (by decide) (htp c hc)
      have h2 : 2 ^ (h + 1) = 2 * 2 ^ h := by rw [Nat.pow_succ, Nat.mul_comm]
      have h3 := Nat.two_pow_pos h
      show 2 ^ tp c - 1 < 2 ^ (h + 1)
      omega) (fun c r hr => by
      rw [H.1 c r hr, hg c r, Nat.testBit_two_pow_sub_one])
  have e2 : tN (flrL h w) = dgs (h + 1) (fun _ => 1) w := tN_dgs (fun c _ => Nat.one_lt_two_pow (by omega)) (fun c r hr => by
      rw [flr_bit hd w (Nat.le_refl w) c r hr]
      congr 1
      by_cases h0 : r = 0
      · subst h0; decide
      · rw [decide_eq_false h0]
        cases hq : Nat.testBit 1 r
        · rfl
        · exact absurd (Nat.testBit_one_eq_true_iff_self_eq_zero.mp hq) h0)
  have e3 : dgs (h + 1) (fun c => 2 ^ tp c - 1) w + dgs (h + 1) (fun _ => 1) w = dgs (h + 1) (fun c => 2 ^ tp c) w := by
    rw [dgs_add]
    exact dgs_congr (fun c _ => by have := Nat.two_pow_pos (tp c); show 2 ^ tp c - 1 + 1 = 2 ^ tp c; omega)
  have e4 : dgs (h + 1) (fun c => 2 ^ tp c) w < 2 ^ 64 := Nat.lt_of_lt_of_le (dgs_lt (fun c hc => Nat.pow_lt_pow_right (by decide) (by have := htp c hc; omega))) (Nat.pow_le_pow_right (by decide) (by rw [Nat.mul_comm]; exact h64))
  rw [tN_addS (by rw [e1, e2, e3]; exact e4), e1, e2, e3]
theorem top_bit {w h : Nat} (hd : Dm w h) {tp : Nat → Nat} (htp : ∀ c, c < w → tp c ≤ h) {u : Int64} {U : Sq} (H : Rep w h u U) (hg : grav w tp U) (c r : Nat) (hr : r ≤ h) : tb (u + flrL h w) (ix h c r) = (decide (c < w) && decide (r = tp c)) := by
  rw [tb_tN, top_tN hd htp H hg, dgs_ix (fun c hc => Nat.pow_lt_pow_right (by decide) (by have := htp c hc; omega)) c r hr, Nat.testBit_two_pow]
  congr 1
  by_cases e : r = tp c
  · simp [e]
  · simp [e]; omega
/-- the squares that the next stone can come to -/
def nxS (w h : Nat) (tp : Nat → Nat) : Sq := fun c r => decide (c < w) && (decide (r < h) && decide (r = tp c))
theorem Rep.nx {w h : Nat} (hd : Dm w h) {tp : Nat → Nat} (htp : ∀ c, c < w → tp c ≤ h) {u : Int64} {U : Sq} (H : Rep w h u U) (hg : grav w tp U) : Rep w h (nxL w h u) (nxS w h tp) := by
  refine ⟨fun c r hr => ?_, fun c r e => ?_⟩
  · unfold nxL nxS
    rw [tb_and, top_bit hd htp H hg c r hr, (Rep.all hd).1 c r hr]
    unfold onB
    cases decide (c < w) <;> cases decide (r < h) <;> cases decide (r = tp c) <;> rfl
  · simp only [nxS, Bool.and_eq_true, decide_eq_true_eq] at e
    exact ⟨e.1, e.2.1⟩
