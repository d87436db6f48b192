-- ===== M9: the reference's look at the last stone finds a line =====
theorem runB_ge {g : Nat → Bool} : ∀ (k i j : Nat), j ≤ k → (j ≤ runB g k i ↔ ∀ t, i ≤ t → t < i + j → g t = true)
  | 0, i, j, hj => by
    obtain rfl : j = 0 := by omega
    exact ⟨fun _ t h1 h2 => absurd h2 (by omega), fun _ => Nat.zero_le _⟩
  | k + 1, i, 0, _ => ⟨fun _ t h1 h2 => absurd h2 (by omega), fun _ => Nat.zero_le _⟩
  | k + 1, i, j + 1, hj => by
    unfold runB
    by_cases hg : g i = true
    · rw [if_pos hg]
      have ih := runB_ge (g := g) k (i + 1) j (by omega)
      constructor
      · intro q t h1 h2
        by_cases e : t = i
        · rw [e]; exact hg
        · exact ih.mp (by omega) t (by omega) (by omega)
      · intro q
        have := ih.mpr (fun t h1 h2 => q t (by omega) (by omega))
        omega
    · rw [if_neg hg]
      exact ⟨fun q => absurd q (by omega), fun q => absurd (q i (Nat.le_refl i) (by omega)) hg⟩
theorem al_ge {w h : Nat} {f : Nat → Int32} {c r : Nat} {dc dr : Int} {j : Nat} (hj : j ≤ 10) : j ≤ alN w h f c r dc dr ↔ ∀ t, 1 ≤ t → t ≤ j → gdB w h f c r dc dr t = true := by
  unfold alN
  rw [runB_ge 10 1 j hj]
  exact ⟨fun q t h1 h2 => q t h1 (by omega), fun q t h1 h2 => q t h1 (by omega)⟩
/-- the stones of one player on an array of the reference -/
def stO (w h : Nat) (f : Nat → Int32) (x : Int32) : Sq := fun c r => decide (c < w) && (decide (r < h) && decide (f (7 * c + r) = x))
theorem stO_at {w h : Nat} {f : Nat → Int32} {x : Int32} {c r : Nat} : stO w h f x c r = true ↔ c < w ∧ r < h ∧ f (7 * c + r) = x := by simp [stO]
theorem gd_iff {w h : Nat} (hw : w ≤ 9) (hh : h ≤ 7) {f : Nat → Int32} {c r : Nat} (hc : c < w) (hr : r < h) {dc dr : Int} (hd : dir dc dr) {i : Nat} (hi : i ≤ 20) {c' r' : Nat} (ec : (c : Int) + dc * i = c') (er : (r : Int) + dr * i = r') : gdB w h f c r dc dr i = true ↔ stO w h f (f (7 * c + r)) c' r' = true := by
  obtain ⟨b1, b2⟩ := gd_B hd (show c < 9 by omega) (show r < 7 by omega) hi
  unfold gdB
  rw [Bool.and_eq_true, isq_z hw hh b1 b2, stO_at, ec, er, decide_eq_true_eq]
  have e : (7 * (c' : Int) + (r' : Int)).toNat = 7 * c' + r' := by omega
  rw [e]
  constructor
  · rintro ⟨⟨h1, h2, h3, h4⟩, h5⟩; exact ⟨by omega, by omega, h5⟩
  · rintro ⟨h1, h2, h3⟩; exact ⟨⟨by omega, by omega, by omega, by omega⟩, h3⟩
theorem gd_on {w h : Nat} (hw : w ≤ 9) (hh : h ≤ 7) {f : Nat → Int32} {c r : Nat} (hc : c < w) (hr : r < h) {dc dr : Int} (hd : dir dc dr) {i : Nat} (hi : i ≤ 20) (hg : gdB w h f c r dc dr i = true) : ∃ c' r' : Nat, (c : Int) + dc * i = c' ∧ (r : Int) + dr * i = r' ∧ stO w h f (f (7 * c + r)) c' r' = true := by
  have hg0 := hg
  obtain ⟨b1, b2⟩ := gd_B hd (show c < 9 by omega) (show r < 7 by omega) hi
  unfold gdB at hg
  rw [Bool.and_eq_true, isq_z hw hh b1 b2] at hg
  obtain ⟨⟨h1, h2, h3, h4⟩, -⟩ := hg
  have ec : (c : Int) + dc * i = (((c : Int) + dc * i).toNat : Int) := by omega
  have er : (r : Int) + dr * i = (((r : Int) + dr * i).toNat : Int) := by omega
  exact ⟨_, _, ec, er, (gd_iff hw hh hc hr hd hi ec er).mp hg0⟩
/-- b squares on one side and a on the other, with the stone itself four: a line -/
theorem two_line {w h : Nat} (hw : w ≤ 9) (hh : h ≤ 7) {f : Nat → Int32} {c r : Nat} (hc : c < w) (hr : r < h) {way a b : Nat} {dc dr : Int} (hway : (way = 1 ∧ dc = 1 ∧ dr = 0) ∨ (way = 2 ∧ dc = 1 ∧ dr = 1) ∨ (way = 3 ∧ dc = 1 ∧ dr = -1)) (ha : a ≤ alN w h f c r dc dr) (hb : b ≤ alN w h f c r (-dc) (-dr)) (hab : a + b = 3) : hasL w h (stO w h f (f (7 * c + r))) := by
  have hd : dir dc dr := by unfold dir; omega
  have hd' : dir (-dc) (-dr) := by unfold dir; omega
  have A := (al_ge (by omega)).mp ha
  have Bq := (al_ge (by omega)).mp hb
  have self : stO w h f (f (7 * c + r)) c r = true := stO_at.mpr ⟨hc, hr, rfl⟩
  -- the square at distance t - b from the stone
  have sq : ∀ t : Nat, t ≤ 3 → ∃ c' r' : Nat, (c' : Int) = (c : Int) + dc * ((t : Int) - b) ∧ (r' : Int) = (r : Int) + dr * ((t : Int) - b) ∧ stO w h f (f (7 * c + r)) c' r' = true := by
    intro t ht
    by_cases e : t = b
    · subst e
      exact ⟨c, r, by simp, by simp, self⟩
    · by_cases q : t < b
      · obtain ⟨c', r', e1, e2, e3⟩ := gd_on hw hh hc hr hd' (i := b - t) (by omega) (Bq (b - t) (by omega) (by omega))
        refine ⟨c', r', ?_, ?_, e3⟩
        · rw [← e1, show ((b - t : Nat) : Int) = -((t : Int) - b) by omega, Int.neg_mul_neg]
        · rw [← e2, show ((b - t : Nat) : Int) = -((t : Int) - b) by omega, Int.neg_mul_neg]
      · obtain ⟨c', r', e1, e2, e3⟩ := gd_on hw hh hc hr hd (i := t - b) (by omega) (A (t - b) (by omega) (by omega))
        refine ⟨c', r', ?_, ?_, e3⟩
        · rw [← e1, show ((t - b : Nat) : Int) = (t : Int) - b by omega]
        · rw [← e2, show ((t - b : Nat) : Int) = (t : Int) - b by omega]
  obtain ⟨c0, r0, p1, p2, p3⟩ := sq 0 (by omega)
  obtain ⟨c3, r3, s1, s2, s3⟩ := sq 3 (by omega)
  obtain ⟨o1, o2, -⟩ := stO_at.mp p3
  obtain ⟨o3, o4, -⟩ := stO_at.mp s3
  refine ⟨way, c0, r0, by omega, ⟨o1, o2, ?_, ?_, ?_⟩, fun t ht => ?_⟩
  · have : ln_c way 3 c0 = c3 := by
      unfold ln_c
      rcases hway with ⟨rfl, rfl, rfl⟩ | ⟨rfl, rfl, rfl⟩ | ⟨rfl, rfl, rfl⟩ <;> simp <;> omega
    rw [this]; exact o3
  · have : ln_r way 3 r0 = r3 := by
      unfold ln_r
      rcases hway with ⟨rfl, rfl, rfl⟩ | ⟨rfl, rfl, rfl⟩ | ⟨rfl, rfl, rfl⟩ <;> simp <;> omega
    rw [this]; exact o4
  · intro hw3
    rcases hway with ⟨rfl, rfl, rfl⟩ | ⟨rfl, rfl, rfl⟩ | ⟨rfl, rfl, rfl⟩ <;> omega
  · obtain ⟨c', r', e1, e2, e3⟩ := sq t (by omega)
    have q1 : ln_c way t c0 = c' := by
      unfold ln_c
      rcases hway with ⟨rfl, rfl, rfl⟩ | ⟨rfl, rfl, rfl⟩ | ⟨rfl, rfl, rfl⟩ <;> simp <;> omega
    have q2 : ln_r way t r0 = r' := by
      unfold ln_r
      rcases hway with ⟨rfl, rfl, rfl⟩ | ⟨rfl, rfl, rfl⟩ | ⟨rfl, rfl, rfl⟩ <;> simp <;> omega
    rw [q1, q2]; exact e3
/-- three squares below: a line -/
theorem down_line {w h : Nat} (hw : w ≤ 9) (hh : h ≤ 7) {f : Nat → Int32} {c r : Nat} (hc : c < w) (hr : r < h) (ha : 3 ≤ alN w h f c r 0 (-1)) : hasL w h (stO w h f (f (7 * c + r))) := by
  have hd : dir 0 (-1) := by unfold dir; omega
  have A := (al_ge (by omega)).mp ha
  have self : stO w h f (f (7 * c + r)) c r = true := stO_at.mpr ⟨hc, hr, rfl⟩
  have sq : ∀ t : Nat, 1 ≤ t → t ≤ 3 → t ≤ r ∧ stO w h f (f (7 * c + r)) c (r - t) = true := by
    intro t h1 h2
    obtain ⟨c', r', e1, e2, e3⟩ := gd_on hw hh hc hr hd (i := t) (by omega) (A t h1 h2)
    have q1 : c' = c := by omega
    have q2 : r' = r - t := by omega
    subst q1
    rw [q2] at e3
    exact ⟨by omega, e3⟩
  have h3 := (sq 3 (by omega) (by omega)).1
  refine ⟨0, c, r - 3, by omega, ⟨hc, by omega, ?_, ?_, fun q => absurd q (by decide)⟩, fun t ht => ?_⟩
  · simp [ln_c]; exact hc
  · simp [ln_r]; omega
  · have q1 : ln_c 0 t c = c := by simp [ln_c]
    have q2 : ln_r 0 t (r - 3) = r - (3 - t) := by simp [ln_r]; omega
    rw [q1, q2]
    by_cases e : t = 3
    · subst e; simpa using self
    · exact (sq (3 - t) (by omega) (by omega)).2
theorem wn_line {w h : Nat} (hw : w ≤ 9) (hh : h ≤ 7) {f : Nat → Int32} {c r : Nat} (hc : c < w) (hr : r < h) (hb : wnB w h f c r = true) : hasL w h (stO w h f (f (7 * c + r))) := by
  unfold wnB at hb
  simp only [Bool.or_eq_true, decide_eq_true_eq] at hb
  have split : ∀ {way : Nat} {dc dr : Int}, ((way = 1 ∧ dc = 1 ∧ dr = 0) ∨ (way = 2 ∧ dc = 1 ∧ dr = 1) ∨ (way = 3 ∧ dc = 1 ∧ dr = -1)) → 2 < alN w h f c r dc dr + alN w h f c r (-dc) (-dr) → hasL w h (stO w h f (f (7 * c + r))) := by
    intro way dc dr hway q
    by_cases q2 : 3 ≤ alN w h f c r dc dr
    · exact two_line hw hh hc hr hway (a := 3) (b := 0) q2 (Nat.zero_le _) rfl
    · exact two_line hw hh hc hr hway (a := alN w h f c r dc dr) (b := 3 - alN w h f c r dc dr) (Nat.le_refl _) (by omega) (by omega)
  rcases hb with q | q | q | q
  · exact down_line hw hh hc hr q
  · exact split (way := 1) (dc := 1) (dr := 0) (Or.inl ⟨rfl, rfl, rfl⟩) q
  · exact split (way := 2) (dc := 1) (dr := 1) (Or.inr (Or.inl ⟨rfl, rfl, rfl⟩)) q
  · exact split (way := 3) (dc := 1) (dr := -1) (Or.inr (Or.inr ⟨rfl, rfl, rfl⟩)) q
/-- a line through the stone is found; above it lies none of the same player -/
theorem line_wn {w h : Nat} (hw : w ≤ 9) (hh : h ≤ 7) {f : Nat → Int32} {c r : Nat} (hc : c < w) (hr : r < h) (habove : ∀ r', r < r' → r' < h → ¬ f (7 * c + r') = f (7 * c + r)) {way c0 r0 q : Nat} (hway : way < 4) (hok : ln_ok w h way c0 r0) (hin : ln_in (stO w h f (f (7 * c + r))) way c0 r0) (hq : q < 4) (ec : ln_c way q c0 = c) (er : ln_r way q r0 = r) : wnB w h f c r = true := by
  obtain ⟨k1, k2, k3, k4, k5⟩ := hok
  unfold wnB
  simp only [Bool.or_eq_true, decide_eq_true_eq]
  have far : ∀ {dc dr : Int}, dir dc dr → ∀ n : Nat, n ≤ 3 → (∀ t : Nat, 1 ≤ t → t ≤ n → ∃ i : Nat, i < 4 ∧ (c : Int) + dc * t = ln_c way i c0 ∧ (r : Int) + dr * t = ln_r way i r0) → n ≤ alN w h f c r dc dr := by
    intro dc dr hd n hn hs
    refine (al_ge (by omega)).mpr (fun t h1 h2 => ?_)
    obtain ⟨i, hi, e1, e2⟩ := hs t h1 h2
    exact (gd_iff hw hh hc hr hd (by omega) e1 e2).mpr (hin i hi)
  obtain rfl | rfl | rfl | rfl : way = 0 ∨ way = 1 ∨ way = 2 ∨ way = 3 := by omega
  · left
    have hq3 : q = 3 := by
      by_cases e : q = 3
      · exact e
      · have m := hin 3 (by omega)
        rw [stO_at] at m
        simp [ln_c, ln_r] at ec er m
        subst ec
        exact absurd m.2.2 (habove (r0 + 3) (by omega) m.2.1)
    subst hq3
    have := far (dc := 0) (dr := -1) (by unfold dir; omega) 3 (by omega) (fun t h1 h2 => ⟨3 - t, by omega, by simp [ln_c] at ec ⊢; omega, by simp [ln_r] at er ⊢; omega⟩)
    omega
  · right; left
    simp [ln_c, ln_r] at ec er
    have a := far (dc := 1) (dr := 0) (by unfold dir; omega) (3 - q) (by omega) (fun t h1 h2 => ⟨q + t, by omega, by simp [ln_c]; omega, by simp [ln_r]; omega⟩)
    have b := far (dc := -1) (dr := 0) (by unfold dir; omega) q (by omega) (fun t h1 h2 => ⟨q - t, by omega, by simp [ln_c]; omega, by simp [ln_r]; omega⟩)
    omega
  · right; right; left
    simp [ln_c, ln_r] at ec er
    have a := far (dc := 1) (dr := 1) (by unfold dir; omega) (3 - q) (by omega) (fun t h1 h2 => ⟨q + t, by omega, by simp [ln_c]; omega, by simp [ln_r]; omega⟩)
    have b := far (dc := -1) (dr := -1) (by unfold dir; omega) q (by omega) (fun t h1 h2 => ⟨q - t, by omega, by simp [ln_c]; omega, by simp [ln_r]; omega⟩)
    omega
  · right; right; right
    have k5 := k5 rfl
    simp [ln_c, ln_r] at ec er
    have a := far (dc := 1) (dr := -1) (by unfold dir; omega) (3 - q) (by omega) (fun t h1 h2 => ⟨q + t, by omega, by simp [ln_c]; omega, by simp [ln_r]; omega⟩)
    have b := far (dc := -1) (dr := 1) (by unfold dir; omega) q (by omega) (fun t h1 h2 => ⟨q - t, by omega, by simp [ln_c]; omega, by simp [ln_r]; omega⟩)
    omega
/-- a drop on a board without lines: the reference sees the line just where it is -/
theorem wn_iff {w h : Nat} (hw : w ≤ 9) (hh : h ≤ 7) {f : Nat → Int32} {c r : Nat} {x : Int32} (hc : c < w) (hr : r < h) (he : ∀ r', r ≤ r' → r' < h → ¬ f (7 * c + r') = x) (hno : ¬ hasL w h (stO w h f x)) : wnB w h (upd f (7 * c + r) x) c r = true ↔ hasL w h (sq_put (stO w h f x) c r) := by
  have ex : upd f (7 * c + r) x (7 * c + r) = x := pk_us
  have eM : stO w h (upd f (7 * c + r) x) x = sq_put (stO w h f x) c r := by
    funext c' r'
    unfold sq_put stO
    by_cases e : c' = c ∧ r' = r
    · obtain ⟨rfl, rfl⟩ := e
      simp [hc, hr, ex]
    · by_cases q : c' < w ∧ r' < h
      · have ne : 7 * c' + r' ≠ 7 * c + r := fun z => e (by omega)
        rw [pk_un ne]
        have : (c' == c && r' == r) = false := by
          by_cases e1 : c' = c
          · have : ¬ r' = r := fun z => e ⟨e1, z⟩
            simp [this]
          · simp [e1]
        rw [this, Bool.or_false]
      · have : (c' == c && r' == r) = false := by
          by_cases e1 : c' = c
          · have : ¬ r' = r := fun z => e ⟨e1, z⟩
            simp [this]
          · simp [e1]
        rw [this, Bool.or_false]
        by_cases h1 : c' < w
        · have h2 : ¬ r' < h := fun z => q ⟨h1, z⟩
          simp [h2]
        · simp [h1]
  constructor
  · intro hb
    have := wn_line hw hh hc hr hb
    rw [ex, eM] at this
    exact this
  · rintro ⟨way, c0, r0, h1, h2, h3⟩
    -- the line has the new square
    have key : ∃ q, q < 4 ∧ ln_c way q c0 = c ∧ ln_r way q r0 = r := by
      by_cases z : ∃ q, q < 4 ∧ ln_c way q c0 = c ∧ ln_r way q r0 = r
      · exact z
      · refine absurd ⟨way, c0, r0, h1, h2, fun i hi => ?_⟩ hno
        rcases put_at.mp (h3 i hi) with q | ⟨q1, q2⟩
        · exact q
        · exact absurd ⟨i, hi, q1, q2⟩ z
    obtain ⟨q, hq, e1, e2⟩ := key
    refine line_wn hw hh hc hr (fun r' h4 h5 => ?_) h1 h2 ?_ hq e1 e2
    · rw [ex, pk_un (by omega)]
      exact he r' (by omega) h5
    · rw [ex, eM]; exact h3
