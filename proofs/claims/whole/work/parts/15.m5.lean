-- ===== M5: threats, safe moves, keys =====
theorem cp_bit {x : Int64} {d : Nat} (hd : d ≤ 9) {i : Nat} (hi : i < 64) : tb (cpL x d) i = ((decide (d ≤ i) && tb x (i - d) && (decide (2 * d ≤ i) && tb x (i - 2 * d)) && (decide (3 * d ≤ i) && tb x (i - 3 * d))) ||
    (decide (d ≤ i) && tb x (i - d) && (decide (2 * d ≤ i) && tb x (i - 2 * d)) && tb x (i + d)) || (decide (d ≤ i) && tb x (i - d) && (tb x (i + d) && tb x (i + 2 * d))) || (tb x (i + d) && tb x (i + 2 * d) && tb x (i + 3 * d))) := by
  unfold cpL
  simp only [tb_or, tb_and, tb_shl (show d < 64 by omega) _ hi, tb_shl (show 2 * d < 64 by omega) _ hi, tb_shl (show 3 * d < 64 by omega) _ hi, tb_shr (show d < 64 by omega), tb_shr (show 2 * d < 64 by omega), tb_shr (show 3 * d < 64 by omega)]
  rw [show d + i = i + d by omega, show 2 * d + i = i + 2 * d by omega, show 3 * d + i = i + 3 * d by omega]
theorem put_bit {w h : Nat} (hd : Dm w h) {x : Int64} {c r : Nat} (hc : c < w) (hr : r < h) (q : Nat) : tb (x ||| sqL h c r) q = (tb x q || decide (q = ix h c r)) := by
  obtain ⟨h3w, hw9, h3h, hh7, hwh, h64⟩ := hd
  have hl := ix_lt hc (Nat.le_of_lt hr)
  rw [tb_or]
  congr 1
  exact tb_pow (k := ix h c r) (by omega) q
/-- completing bit: with the square itself four in a line -/
theorem cp_line {w h : Nat} (hd : Dm w h) {x : Int64} {M : Sq} (H : Rep w h x M) {c r j : Nat} (hc : c < w) (hr : r < h) (hj : j < 4) (hb : tb (cpL x (stp h j)) (ix h c r) = true) : hasL w h (sq_put M c r) := by
  have H' := H.put hd hc hr
  have pb := put_bit hd (x := x) hc hr
  have hd' := hd
  obtain ⟨h3w, hw9, h3h, hh7, hwh, h64⟩ := hd'
  have hl := ix_lt hc (Nat.le_of_lt hr)
  have hs := stp_le hh7 j
  generalize hi : ix h c r = i at hb hl pb
  have own : tb (x ||| sqL h c r) i = true := by rw [pb]; simp
  have up : ∀ q, tb x q = true → tb (x ||| sqL h c r) q = true := fun q e => by rw [pb, e]; rfl
  rw [cp_bit hs (by omega)] at hb
  simp only [Bool.or_eq_true, Bool.and_eq_true, decide_eq_true_eq] at hb
  rcases hb with ((⟨⟨⟨a1, a2⟩, a3, a4⟩, a5, a6⟩ | ⟨⟨⟨a1, a2⟩, a3, a4⟩, a5⟩) | ⟨⟨a1, a2⟩, a3, a4⟩) | ⟨⟨a1, a2⟩, a3⟩
  · refine bits_line H' hj (i := i - 3 * stp h j) (up _ a6) ?_ ?_ ?_
    · rw [show i - 3 * stp h j + stp h j = i - 2 * stp h j by omega]; exact up _ a4
    · rw [show i - 3 * stp h j + 2 * stp h j = i - stp h j by omega]; exact up _ a2
    · rw [show i - 3 * stp h j + 3 * stp h j = i by omega]; exact own
  · refine bits_line H' hj (i := i - 2 * stp h j) (up _ a4) ?_ ?_ ?_
    · rw [show i - 2 * stp h j + stp h j = i - stp h j by omega]; exact up _ a2
    · rw [show i - 2 * stp h j + 2 * stp h j = i by omega]; exact own
    · rw [show i - 2 * stp h j + 3 * stp h j = i + stp h j by omega]; exact up _ a5
  · refine bits_line H' hj (i := i - stp h j) (up _ a2) ?_ ?_ ?_
    · rw [show i - stp h j + stp h j = i by omega]; exact own
    · rw [show i - stp h j + 2 * stp h j = i + stp h j by omega]; exact up _ a3
    · rw [show i - stp h j + 3 * stp h j = i + 2 * stp h j by omega]; exact up _ a4
  · exact bits_line H' hj (i := i) own (up _ a1) (up _ a2) (up _ a3)
theorem line_cp {w h : Nat} (hd : Dm w h) {x : Int64} {M : Sq} (H : Rep w h x M) (hno : ¬ hasL w h M) {c r : Nat} (hc : c < w) (hr : r < h) (hl : hasL w h (sq_put M c r)) : ∃ j, j < 4 ∧ tb (cpL x (stp h j)) (ix h c r) = true := by
  have H' := H.put hd hc hr
  have pb := put_bit hd (x := x) hc hr
  have hd' := hd
  obtain ⟨h3w, hw9, h3h, hh7, hwh, h64⟩ := hd'
  have hlt := ix_lt hc (Nat.le_of_lt hr)
  obtain ⟨i0, j, hj, b⟩ := line_bits H' hl
  have hs := stp_le hh7 j
  have hp := stp_pos h3h j
  refine ⟨j, hj, ?_⟩
  generalize ix h c r = i at hlt pb
  rw [cp_bit hs (by omega)]
  simp only [Bool.or_eq_true, Bool.and_eq_true, decide_eq_true_eq]
  have b0 := b 0 (by decide)
  have b1 := b 1 (by decide)
  have b2 := b 2 (by decide)
  have b3 := b 3 (by decide)
  rw [Nat.zero_mul, Nat.add_zero] at b0
  rw [Nat.one_mul] at b1
  rw [pb] at b0 b1 b2 b3
  have nl : ¬ (tb x i0 = true ∧ tb x (i0 + stp h j) = true ∧ tb x (i0 + 2 * stp h j) = true ∧ tb x (i0 + 3 * stp h j) = true) := fun q => hno (bits_line H hj q.1 q.2.1 q.2.2.1 q.2.2.2)
  generalize stp h j = d at *
  simp only [Bool.or_eq_true, decide_eq_true_eq] at b0 b1 b2 b3
  by_cases e0 : i0 = i
  · subst e0
    have c1 : tb x (i0 + d) = true := b1.resolve_right (by omega)
    have c2 : tb x (i0 + 2 * d) = true := b2.resolve_right (by omega)
    have c3 : tb x (i0 + 3 * d) = true := b3.resolve_right (by omega)
    exact Or.inr ⟨⟨c1, c2⟩, c3⟩
  · have c0 : tb x i0 = true := b0.resolve_right e0
    by_cases e1 : i0 + d = i
    · subst e1
      have c2 : tb x (i0 + 2 * d) = true := b2.resolve_right (by omega)
      have c3 : tb x (i0 + 3 * d) = true := b3.resolve_right (by omega)
      refine Or.inl (Or.inr ⟨⟨by omega, by rw [show i0 + d - d = i0 by omega]; exact c0⟩, ?_, ?_⟩)
      · rw [show i0 + d + d = i0 + 2 * d by omega]; exact c2
      · rw [show i0 + d + 2 * d = i0 + 3 * d by omega]; exact c3
    · have c1 : tb x (i0 + d) = true := b1.resolve_right e1
      by_cases e2 : i0 + 2 * d = i
      · subst e2
        have c3 : tb x (i0 + 3 * d) = true := b3.resolve_right (by omega)
        refine Or.inl (Or.inl (Or.inr ⟨⟨⟨by omega, ?_⟩, by omega, ?_⟩, ?_⟩))
        · rw [show i0 + 2 * d - d = i0 + d by omega]; exact c1
        · rw [show i0 + 2 * d - 2 * d = i0 by omega]; exact c0
        · rw [show i0 + 2 * d + d = i0 + 3 * d by omega]; exact c3
      · have c2 : tb x (i0 + 2 * d) = true := b2.resolve_right e2
        have e3 : i0 + 3 * d = i := by
          rcases b3 with q | q
          · exact absurd ⟨c0, c1, c2, q⟩ nl
          · exact q
        subst e3
        refine Or.inl (Or.inl (Or.inl ⟨⟨⟨by omega, ?_⟩, by omega, ?_⟩, by omega, ?_⟩))
        · rw [show i0 + 3 * d - d = i0 + 2 * d by omega]; exact c2
        · rw [show i0 + 3 * d - 2 * d = i0 + d by omega]; exact c1
        · rw [show i0 + 3 * d - 3 * d = i0 by omega]; exact c0
/-- a bit of threatSquares: an empty square that would make a line -/
theorem th_bit {w h : Nat} (hd : Dm w h) {x u : Int64} {M U : Sq} (H : Rep w h x M) (HU : Rep w h u U) (hno : ¬ hasL w h M) {c r : Nat} (hr : r ≤ h) : tb (thL w h x u) (ix h c r) = true ↔ c < w ∧ r < h ∧ U c r = false ∧ hasL w h (sq_put M c r) := by
  unfold thL
  rw [tb_and, tb_and, (Rep.all hd).1 c r hr]
  by_cases hb : c < w ∧ r < h
  · obtain ⟨hc, hr'⟩ := hb
    have hlt := ix_lt hc (Nat.le_of_lt hr')
    rw [tb_not _ (by have := hd.2.2.2.2.2; omega), HU.1 c r hr]
    simp only [onB, hc, hr', decide_true, Bool.and_true, Bool.and_eq_true, Bool.not_eq_true', true_and]
    have key : tb ((((0 ||| cpL x (stp h 0)) ||| cpL x (stp h 1)) ||| cpL x (stp h 2)) ||| cpL x (stp h 3)) (ix h c r) = true ↔ hasL w h (sq_put M c r) := by
      simp only [tb_or, tb_0, Bool.false_or, Bool.or_eq_true]
      constructor
      · rintro (((q | q) | q) | q)
        · exact cp_line hd H hc hr' (by decide) q
        · exact cp_line hd H hc hr' (by decide) q
        · exact cp_line hd H hc hr' (by decide) q
        · exact cp_line hd H hc hr' (by decide) q
      · intro q
        obtain ⟨j, hj, e⟩ := line_cp hd H hno hc hr' q
        obtain rfl | rfl | rfl | rfl : j = 0 ∨ j = 1 ∨ j = 2 ∨ j = 3 := by omega
        · exact Or.inl (Or.inl (Or.inl e))
        · exact Or.inl (Or.inl (Or.inr e))
        · exact Or.inl (Or.inr e)
        · exact Or.inr e
    rw [key]
    exact ⟨fun q => ⟨q.2, q.1⟩, fun q => ⟨q.2, q.1⟩⟩
  · have e : onB w h c r = false := by
      unfold onB
      by_cases hc : c < w
      · simp [show ¬ r < h from fun q => hb ⟨hc, q⟩]
      · simp [hc]
    rw [e]
    simp only [Bool.and_false, Bool.false_and, Bool.false_eq_true, false_iff]
    exact fun q => hb ⟨q.1, q.2.1⟩
/-- set bits are counted -/
theorem popN_two {x : Int64} : ∀ {k : Nat}, 1 < popN x k → ∃ i j, i < j ∧ j < k ∧ tb x i = true ∧ tb x j = true
  | 0, h => absurd h (by simp [popN])
  | k + 1, h => by
    unfold popN at h
    by_cases e : tb x k = true
    · rw [if_pos e] at h
      have h1 : 0 < popN x k := by omega
      have one : ∀ k, 0 < popN x k → ∃ i, i < k ∧ tb x i = true := by
        intro k
        induction k with
        | zero => intro q; exact absurd q (by simp [popN])
        | succ k ih =>
          intro q
          unfold popN at q
          by_cases e2 : tb x k = true
          · exact ⟨k, by omega, e2⟩
          · rw [if_neg e2] at q
            obtain ⟨i, h1, h2⟩ := ih (by omega)
            exact ⟨i, by omega, h2⟩
      obtain ⟨i, hi, ei⟩ := one k h1
      exact ⟨i, k, hi, by omega, ei, e⟩
    · rw [if_neg e] at h
      obtain ⟨i, j, h1, h2, h3, h4⟩ := popN_two (k := k) (by omega)
      exact ⟨i, j, h1, by omega, h3, h4⟩
theorem popN_pos {x : Int64} {i : Nat} (hx : tb x i = true) : ∀ {k : Nat}, i < k → 0 < popN x k
  | 0, h => absurd h (Nat.not_lt_zero _)
  | k + 1, h => by
    unfold popN
    by_cases e : i = k
    · subst e; rw [if_pos hx]; omega
    · have := popN_pos hx (k := k) (by omega); omega
theorem popN_two' {x : Int64} {i j : Nat} (hij : i < j) (hi : tb x i = true) (hj : tb x j = true) : ∀ {k : Nat}, j < k → 1 < popN x k
  | 0, h => absurd h (Nat.not_lt_zero _)
  | k + 1, h => by
    unfold popN
    by_cases e : j = k
    · subst e
      have := popN_pos hi (k := j) hij
      rw [if_pos hj]; omega
    · have := popN_two' hij hi hj (k := k) (by omega); omega
/-- where two sets have the same key they are the same -/
def keyL (w h : Nat) (m t : Int64) : Int64 := ((m ||| t) + flrL h w) ||| m
theorem key_bit {w h : Nat} (hd : Dm w h) {tp : Nat → Nat} (htp : ∀ c, c < w → tp c ≤ h) {m t : Int64} {M T : Sq} (Hm : Rep w h m M) (Ht : Rep w h t T) (hg : grav w tp (fun c r => M c r || T c r)) (c r : Nat) (hr : r ≤ h) : tb (keyL w h m t) (ix h c r) = ((decide (c < w) && decide (r = tp c)) || M c r) := by
  unfold keyL
  rw [tb_or, top_bit hd htp (Hm.or Ht) hg c r hr, Hm.1 c r hr]
theorem key_inj {w h : Nat} (hd : Dm w h) {tp tp' : Nat → Nat} (htp : ∀ c, c < w → tp c ≤ h) (htp' : ∀ c, c < w → tp' c ≤ h) {m t m' t' : Int64} {M T M' T' : Sq} (Hm : Rep w h m M) (Ht : Rep w h t T) (Hm' : Rep w h m' M') (Ht' : Rep w h t' T')
    (hg : grav w tp (fun c r => M c r || T c r)) (hg' : grav w tp' (fun c r => M' c r || T' c r)) (hdj : ∀ c r, M c r = true → T c r = false) (hdj' : ∀ c r, M' c r = true → T' c r = false) (e : keyL w h m t = keyL w h m' t') : (∀ c, c < w → tp c = tp' c) ∧ M = M' ∧ T = T' := by
  have kb := fun c r hr => key_bit hd htp Hm Ht hg c r hr
  have kb' := fun c r hr => key_bit hd htp' Hm' Ht' hg' c r hr
  have below : ∀ c r, M c r = true → r < tp c := fun c r q => by
    have this : (M c r || T c r) = (decide (c < w) && decide (r < tp c)) := hg c r
    rw [q] at this
    simp at this
    exact this.2
  have below' : ∀ c r, M' c r = true → r < tp' c := fun c r q => by
    have this : (M' c r || T' c r) = (decide (c < w) && decide (r < tp' c)) := hg' c r
    rw [q] at this
    simp at this
    exact this.2
  have et : ∀ c, c < w → tp c = tp' c := by
    intro c hc
    have k1 := kb c (tp' c) (htp' c hc)
    have k2 := kb' c (tp' c) (htp' c hc)
    have k3 := kb c (tp c) (htp c hc)
    have k4 := kb' c (tp c) (htp c hc)
    rw [e, k2] at k1
    rw [e, k4] at k3
    simp only [hc, decide_true, Bool.true_and, Bool.true_or] at k1 k3
    have q1 := k1.symm
    have q3 := k3
    simp only [Bool.or_eq_true, decide_eq_true_eq] at q1 q3
    rcases q1 with q | q
    · exact q.symm
    · rcases q3 with q' | q'
      · exact q'
      · have a1 := below c _ q
        have a2 := below' c _ q'
        omega
  have eM : M = M' := by
    funext c r
    by_cases hc : c < w
    · by_cases hr : r < tp c
      · have hr' : r ≤ h := by have := htp c hc; omega
        have k1 := kb c r hr'
        rw [e, kb' c r hr', ← et c hc] at k1
        rw [decide_eq_false (show ¬ r = tp c by omega)] at k1
        simpa using k1.symm
      · have f1 : M c r = false := by cases q : M c r; rfl; exact absurd (below c r q) hr
        have f2 : M' c r = false := by cases q : M' c r; rfl; exact absurd (below' c r q) (by rw [← et c hc]; exact hr)
        rw [f1, f2]
    · rw [Hm.off (fun q => hc q.1), Hm'.off (fun q => hc q.1)]
  refine ⟨et, eM, ?_⟩
  funext c r
  have g1 := hg c r
  have g2 := hg' c r
  by_cases hc : c < w
  · rw [← et c hc] at g2
    rw [← g1] at g2
    simp only at g2
    subst eM
    cases q : M c r
    · rw [q] at g2; simpa using g2.symm
    · rw [hdj c r q, hdj' c r q]
  · rw [Ht.off (fun q => hc q.1), Ht'.off (fun q => hc q.1)]
theorem key_nz {w h : Nat} (hd : Dm w h) {tp : Nat → Nat} (htp : ∀ c, c < w → tp c ≤ h) {m t : Int64} {M T : Sq} (Hm : Rep w h m M) (Ht : Rep w h t T) (hg : grav w tp (fun c r => M c r || T c r)) : ¬ keyL w h m t = 0 := by
  have h0 : 0 < w := by have := hd.1; omega
  refine bit_nz (i := ix h 0 (tp 0)) ?_
  rw [key_bit hd htp Hm Ht hg 0 (tp 0) (htp 0 h0)]
  simp [h0]
