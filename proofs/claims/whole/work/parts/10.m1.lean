-- ===== M1: lines, sets of squares, the score =====
/-- the column, the row of the i-th square of a line that begins at (c, r); ways: 0 up, 1 right, 2 right and up, 3 right and down -/
def ln_c (way i c : Nat) : Nat := if way = 0 then c else c + i
def ln_r (way i r : Nat) : Nat := if way = 1 then r else if way = 3 then r - i else r + i
def ln_ok (w h way c r : Nat) : Prop := c < w ∧ r < h ∧ ln_c way 3 c < w ∧ ln_r way 3 r < h ∧ (way = 3 → 3 ≤ r)
/-- sets of squares -/
abbrev Sq : Type := Nat → Nat → Bool
def ln_in (M : Sq) (way c r : Nat) : Prop := ∀ i, i < 4 → M (ln_c way i c) (ln_r way i r) = true
def hasL (w h : Nat) (M : Sq) : Prop := ∃ way c r, way < 4 ∧ ln_ok w h way c r ∧ ln_in M way c r
def sq_put (M : Sq) (c r : Nat) : Sq := fun c' r' => M c' r' || (c' == c && r' == r)
def tp_inc (tp : Nat → Nat) (c : Nat) : Nat → Nat := fun c' => if c' = c then tp c' + 1 else tp c'
/-- the greatest of lo and of the v c, c < n, that are ok -/
def bestOf (ok : Nat → Bool) (v : Nat → Int) (lo : Int) : Nat → Int
  | 0 => lo
  | n + 1 => if ok n then max (bestOf ok v lo n) (v n) else bestOf ok v lo n
noncomputable def Sc (w h : Nat) : Nat → (Nat → Nat) → Sq → Sq → Int
  | 0, _, _, _ => 0
  | k + 1, tp, M, T => bestOf (fun c => decide (tp c < h)) (fun c => @ite Int (hasL w h (sq_put M c (tp c))) (Classical.propDecidable _) ((k : Int) + 1) (- Sc w h k (tp_inc tp c) T (sq_put M c (tp c)))) (-((k : Int) + 1)) w
/-- what a drop in column c is worth, k + 1 squares being empty -/
noncomputable def Mv (w h k : Nat) (tp : Nat → Nat) (M T : Sq) (c : Nat) : Int := @ite Int (hasL w h (sq_put M c (tp c))) (Classical.propDecidable _) ((k : Int) + 1) (- Sc w h k (tp_inc tp c) T (sq_put M c (tp c)))
theorem Sc_succ (w h k : Nat) (tp : Nat → Nat) (M T : Sq) : Sc w h (k + 1) tp M T = bestOf (fun c => decide (tp c < h)) (Mv w h k tp M T) (-((k : Int) + 1)) w := rfl
theorem Mv_win {w h k : Nat} {tp : Nat → Nat} {M T : Sq} {c : Nat} (hl : hasL w h (sq_put M c (tp c))) : Mv w h k tp M T c = (k : Int) + 1 := by
  unfold Mv; exact if_pos hl
theorem Mv_go {w h k : Nat} {tp : Nat → Nat} {M T : Sq} {c : Nat} (hl : ¬ hasL w h (sq_put M c (tp c))) : Mv w h k tp M T c = - Sc w h k (tp_inc tp c) T (sq_put M c (tp c)) := by
  unfold Mv; exact if_neg hl
theorem bestOf_lo (ok : Nat → Bool) (v : Nat → Int) (lo : Int) : ∀ n, lo ≤ bestOf ok v lo n
  | 0 => Int.le_refl _
  | n + 1 => by
    have := bestOf_lo ok v lo n
    unfold bestOf
    split <;> omega
theorem bestOf_ge {ok : Nat → Bool} {v : Nat → Int} {lo : Int} : ∀ {n c : Nat}, c < n → ok c = true → v c ≤ bestOf ok v lo n
  | 0, c, h, _ => absurd h (Nat.not_lt_zero c)
  | n + 1, c, h, hc => by
    unfold bestOf
    by_cases e : c = n
    · subst e
      rw [if_pos hc]; omega
    · have := bestOf_ge (n := n) (c := c) (lo := lo) (v := v) (by omega) hc
      split <;> omega
theorem bestOf_is {ok : Nat → Bool} {v : Nat → Int} {lo : Int} : ∀ {n : Nat}, bestOf ok v lo n = lo ∨ ∃ c, c < n ∧ ok c = true ∧ bestOf ok v lo n = v c
  | 0 => Or.inl rfl
  | n + 1 => by
    unfold bestOf
    by_cases e : ok n = true
    · rw [if_pos e]
      rcases Int.le_total (v n) (bestOf ok v lo n) with h | h
      · rw [Int.max_eq_left h]
        rcases bestOf_is (n := n) (ok := ok) (v := v) (lo := lo) with q | ⟨c, h1, h2, h3⟩
        · exact Or.inl q
        · exact Or.inr ⟨c, by omega, h2, h3⟩
      · rw [Int.max_eq_right h]
        exact Or.inr ⟨n, by omega, e, rfl⟩
    · rw [if_neg e]
      rcases bestOf_is (n := n) (ok := ok) (v := v) (lo := lo) with q | ⟨c, h1, h2, h3⟩
      · exact Or.inl q
      · exact Or.inr ⟨c, by omega, h2, h3⟩
theorem bestOf_le {ok : Nat → Bool} {v : Nat → Int} {lo z : Int} {n : Nat} (hlo : lo ≤ z) (h : ∀ c, c < n → ok c = true → v c ≤ z) : bestOf ok v lo n ≤ z := by
  rcases bestOf_is (n := n) (ok := ok) (v := v) (lo := lo) with q | ⟨c, h1, h2, h3⟩
  · rw [q]; exact hlo
  · rw [h3]; exact h c h1 h2
/-- a score lies between -k and k -/
theorem Sc_bd (w h : Nat) : ∀ (k : Nat) (tp : Nat → Nat) (M T : Sq), -(k : Int) ≤ Sc w h k tp M T ∧ Sc w h k tp M T ≤ k
  | 0, _, _, _ => ⟨Int.le_refl _, Int.le_refl _⟩
  | k + 1, tp, M, T => by
    rw [Sc_succ]
    refine ⟨by have := bestOf_lo (fun c => decide (tp c < h)) (Mv w h k tp M T) (-((k : Int) + 1)) w; omega, ?_⟩
    refine bestOf_le (by omega) (fun c _ _ => ?_)
    by_cases hl : hasL w h (sq_put M c (tp c))
    · rw [Mv_win hl]; omega
    · rw [Mv_go hl]
      have := Sc_bd w h k (tp_inc tp c) T (sq_put M c (tp c))
      omega
theorem Mv_bd (w h k : Nat) (tp : Nat → Nat) (M T : Sq) (c : Nat) : -(k : Int) ≤ Mv w h k tp M T c ∧ Mv w h k tp M T c ≤ (k : Int) + 1 := by
  by_cases hl : hasL w h (sq_put M c (tp c))
  · rw [Mv_win hl]; omega
  · rw [Mv_go hl]
    have := Sc_bd w h k (tp_inc tp c) T (sq_put M c (tp c))
    omega
/-- where a drop is possible, the score is the best drop's -/
theorem Sc_is {w h k : Nat} {tp : Nat → Nat} {M T : Sq} (hc : ∃ c, c < w ∧ tp c < h) : ∃ c, c < w ∧ tp c < h ∧ Sc w h (k + 1) tp M T = Mv w h k tp M T c := by
  rw [Sc_succ]
  rcases bestOf_is (n := w) (ok := fun c => decide (tp c < h)) (v := Mv w h k tp M T) (lo := -((k : Int) + 1)) with q | ⟨c, h1, h2, h3⟩
  · obtain ⟨c, h1, h2⟩ := hc
    have a := bestOf_ge (ok := fun c => decide (tp c < h)) (v := Mv w h k tp M T) (lo := -((k : Int) + 1)) h1 (by simpa using h2)
    have b := (Mv_bd w h k tp M T c).1
    omega
  · exact ⟨c, h1, by simpa using h2, h3⟩
theorem Sc_ge {w h k : Nat} {tp : Nat → Nat} {M T : Sq} {c : Nat} (h1 : c < w) (h2 : tp c < h) : Mv w h k tp M T c ≤ Sc w h (k + 1) tp M T := by
  rw [Sc_succ]
  exact bestOf_ge (ok := fun c => decide (tp c < h)) h1 (by simpa using h2)
theorem Sc_lt {w h k : Nat} {tp : Nat → Nat} {M T : Sq} (hc : ∃ c, c < w ∧ tp c < h) : -(k : Int) ≤ Sc w h (k + 1) tp M T := by
  obtain ⟨c, -, -, h3⟩ := Sc_is (k := k) (M := M) (T := T) hc
  rw [h3]; exact (Mv_bd w h k tp M T c).1
