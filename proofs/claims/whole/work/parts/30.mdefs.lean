-- ===== the reference: its cells, what its reading methods answer =====
theorem zI_mul (a b : Int) : zI a * zI b = zI (a * b) := (Int32.ofInt_mul a b).symm
theorem zI_nat {z : Int} (h : 0 ≤ z) : zI z = nI z.toNat := by rw [← zI_n, Int.toNat_of_nonneg h]
section RowsZ
variable {p : Program} {l : Launch} {e : Env} {R : Room} {s : State} {m : MethodId} {args : Array Value} {below : List Frame} {meth : Method} {c : Code} {H : Heap} {locs : List Loc} {cells slots : Nat} {Q : State → Prop} {pc : Nat} {ls : Array Slot} {rest : List Value} {cc : ByteArray}
theorem z_imul {a b : Int} (hx : p.tables.exec = Jvm.exec) (hb : c.code = cc) (hdg : decode cc pc = .ok (.imul, 1)) (k : W p l e R s m args below meth c H locs cells slots Q (F0 m (pc + 1) ls (.int (zI (a * b)) :: rest))) : W p l e R s m args below meth c H locs cells slots Q (F0 m pc ls (.int (zI b) :: .int (zI a) :: rest)) := lv_imul hx hb hdg (rt_i (zI_mul a b) k)
end RowsZ
def isq (w h : Nat) (c r : Int32) : Bool := !decide (c < 0) && (!decide (nI w ≤ c) && (!decide (r < 0) && !decide (nI h ≤ r)))
theorem isq_z {w h : Nat} (hw : w ≤ 9) (hh : h ≤ 7) {c r : Int} (hc : zB c) (hr : zB r) : isq w h (zI c) (zI r) = true ↔ 0 ≤ c ∧ c < w ∧ 0 ≤ r ∧ r < h := by
  unfold isq
  have z0 : (0 : Int32) = zI 0 := rfl
  have b0 : zB 0 := by unfold zB; omega
  have bw : zB (w : Int) := by unfold zB; omega
  have bh : zB (h : Int) := by unfold zB; omega
  rw [z0, ← zI_n w, ← zI_n h]
  simp only [Bool.and_eq_true, Bool.not_eq_true', decide_eq_false_iff_not, zI_lt hc b0, zI_le bw hc, zI_lt hr b0, zI_le bh hr]
  omega
/-- how many g hold one behind another from i on -/
def runB (g : Nat → Bool) : Nat → Nat → Nat
  | 0, _ => 0
  | k + 1, i => if g i then runB g k (i + 1) + 1 else 0
theorem runB_eq {g : Nat → Bool} : ∀ (k i n : Nat), (∀ j, i ≤ j → j < i + n → g j = true) → g (i + n) = false → n ≤ k → runB g k i = n
  | 0, i, n, _, _, hn => by show 0 = n; omega
  | k + 1, i, 0, _, h0, _ => by unfold runB; rw [show i + 0 = i from rfl] at h0; rw [if_neg (by rw [h0]; decide)]
  | k + 1, i, n + 1, h, h0, hn => by
    unfold runB
    rw [if_pos (h i (Nat.le_refl i) (by omega)), runB_eq k (i + 1) n (fun j h1 h2 => h j (by omega) (by omega)) (by rw [show i + 1 + n = i + (n + 1) by omega]; exact h0) (by omega)]
def gdB (w h : Nat) (f : Nat → Int32) (c r : Nat) (dc dr : Int) (i : Nat) : Bool := isq w h (zI ((c : Int) + dc * i)) (zI ((r : Int) + dr * i)) && decide (f (7 * ((c : Int) + dc * i) + ((r : Int) + dr * i)).toNat = f (7 * c + r))
/-- a direction -/
def dir (dc dr : Int) : Prop := -1 ≤ dc ∧ dc ≤ 1 ∧ -1 ≤ dr ∧ dr ≤ 1 ∧ ¬ (dc = 0 ∧ dr = 0)
theorem dir_cases {dc dr : Int} (h : dir dc dr) : (dc = -1 ∨ dc = 0 ∨ dc = 1) ∧ (dr = -1 ∨ dr = 0 ∨ dr = 1) ∧ ¬ (dc = 0 ∧ dr = 0) := by unfold dir at h; omega
theorem gd_B {c r i : Nat} {dc dr : Int} (hd : dir dc dr) (hc : c < 9) (hr : r < 7) (hi : i ≤ 20) : zB ((c : Int) + dc * i) ∧ zB ((r : Int) + dr * i) := by
  obtain ⟨h1, h2, -⟩ := dir_cases hd
  unfold zB
  rcases h1 with rfl | rfl | rfl <;> rcases h2 with rfl | rfl | rfl <;> omega
theorem gd_lt {w h : Nat} {f : Nat → Int32} {c r i : Nat} {dc dr : Int} (hw : w ≤ 9) (hh : h ≤ 7) (hd : dir dc dr) (hc : c < w) (hr : r < h) (hi : i ≤ 20) (hg : isq w h (zI ((c : Int) + dc * i)) (zI ((r : Int) + dr * i)) = true) : i ≤ 8 ∧ 0 ≤ (c : Int) + dc * i ∧ (c : Int) + dc * i < 9 ∧ 0 ≤ (r : Int) + dr * i ∧ (r : Int) + dr * i < 7 := by
  obtain ⟨b1, b2⟩ := gd_B hd (show c < 9 by omega) (show r < 7 by omega) hi
  have q := (isq_z hw hh b1 b2).mp hg
  obtain ⟨h1, h2, h3⟩ := dir_cases hd
  rcases h1 with rfl | rfl | rfl <;> rcases h2 with rfl | rfl | rfl <;> omega
def alN (w h : Nat) (f : Nat → Int32) (c r : Nat) (dc dr : Int) : Nat := runB (gdB w h f c r dc dr) 10 1
def wnB (w h : Nat) (f : Nat → Int32) (c r : Nat) : Bool := decide (2 < alN w h f c r 0 (-1)) || (decide (2 < alN w h f c r 1 0 + alN w h f c r (-1) 0) || (decide (2 < alN w h f c r 1 1 + alN w h f c r (-1) (-1)) || decide (2 < alN w h f c r 1 (-1) + alN w h f c r (-1) 1)))
theorem runB_le {g : Nat → Bool} : ∀ (k i : Nat), runB g k i ≤ k
  | 0, _ => Nat.le_refl 0
  | k + 1, i => by
    have := runB_le (g := g) k (i + 1)
    unfold runB
    split <;> omega
theorem alN_le (w h : Nat) (f : Nat → Int32) (c r : Nat) (dc dr : Int) : alN w h f c r dc dr ≤ 10 := runB_le 10 1
def wnowI (w h : Nat) (B : Nat → Int32) (ht dr : Nat → Nat) (n : Nat) : Int32 := if 0 < n ∧ wnB w h B (dr (n - 1)) (ht (dr (n - 1)) - 1) = true then B (7 * dr (n - 1) + ht (dr (n - 1)) - 1) else if n = w * h then 2 else -1
def lcZ (way : Nat) (i c : Int) : Int := if way = 0 then c else c + i
def lrZ (way : Nat) (i r : Int) : Int := if way = 1 then r else if way = 3 then r - i else r + i
def mnN (B : Nat → Int32) (c r : Int) (way pl : Nat) : Nat → Nat
  | 0 => 0
  | i + 1 => if B (7 * lcZ way (i : Int) c + lrZ way (i : Int) r).toNat = nI pl then mnN B c r way pl i + 1 else mnN B c r way pl i
theorem mnN_le {B : Nat → Int32} {c r : Int} {way pl : Nat} : ∀ i, mnN B c r way pl i ≤ i
  | 0 => Nat.le_refl 0
  | i + 1 => by
    have := mnN_le (B := B) (c := c) (r := r) (way := way) (pl := pl) i
    unfold mnN
    split <;> omega
/-- all four squares of the line are on a board of 9 by 7 -/
def sq4 (c r : Int) (way : Nat) : Prop := ∀ i : Nat, i < 4 → 0 ≤ lcZ way i c ∧ lcZ way i c < 9 ∧ 0 ≤ lrZ way i r ∧ lrZ way i r < 7
theorem sq4_of {w h way : Nat} (hw : w ≤ 9) (hh : h ≤ 7) {c r : Int} (hc : 0 ≤ c ∧ c < w) (hr : 0 ≤ r ∧ r < h) (he : isq w h (zI (lcZ way 3 c)) (zI (lrZ way 3 r)) = true) : sq4 c r way := by
  have b1 : zB (lcZ way 3 c) := by unfold zB lcZ; split <;> omega
  have b2 : zB (lrZ way 3 r) := by unfold zB lrZ; split <;> first | omega | (split <;> omega)
  have q := (isq_z hw hh b1 b2).mp he
  intro i hi
  unfold lcZ lrZ at q ⊢
  by_cases h0 : way = 0
  · simp only [h0, if_true] at q ⊢; simp at q ⊢; omega
  · by_cases h1 : way = 1
    · simp only [h1] at q ⊢; simp at q ⊢; omega
    · by_cases h3 : way = 3
      · simp only [h3] at q ⊢; simp at q ⊢; omega
      · simp only [h0, h1, h3, if_false] at q ⊢; omega
def itF (w h : Nat) (B : Nat → Int32) (x y pl : Nat) (way : Nat) : Nat → Bool := fun i => isq w h (zI (lcZ way (-(i : Int)) x)) (zI (lrZ way (-(i : Int)) y)) && (isq w h (zI (lcZ way 3 (lcZ way (-(i : Int)) x))) (zI (lrZ way 3 (lrZ way (-(i : Int)) y))) && decide (mnN B (lcZ way (-(i : Int)) x) (lrZ way (-(i : Int)) y) way pl 4 = 3))
def itB (w h : Nat) (B : Nat → Int32) (x y pl : Nat) : Bool := anyB (fun way => anyB (itF w h B x y pl way) 4) 4
/-- the object of the reference -/
abbrev mO (ad : Nat → Nat) (w h th n kn po : Nat) : Nat × va_E := (ad 0, .inr (5, [.int (nI th), .int (nI w), .int (nI h), .ref (ad 1), .ref (ad 2), .ref (ad 3), .int (nI n), .int (nI kn), .int (nI po), .ref (ad 4), .ref (ad 5), .ref (ad 6), .ref (ad 7), .ref (ad 8), .ref (ad 9), .ref (ad 10), .ref (ad 11), .ref (ad 12), .ref (ad 13)]))
/-- its arrays -/
abbrev mA (cI cZ : ClassId) (ad : Nat → Nat) (B : Nat → Int32) (ht dr wh sb : Nat → Nat) (V : Nat → Int32) (la sl we of_ : Nat → Nat) (Sn : Nat → Int32) (tp re : Nat → Nat) : va_W :=
  [(ad 1, .inl (cI, 63, .inl B)), (ad 2, .inl (cI, 9, .inl (fun j => nI (ht j)))), (ad 3, .inl (cI, 63, .inl (fun j => nI (dr j)))), (ad 4, .inl (cI, 70000, .inl (fun j => nI (wh j)))), (ad 5, .inl (cI, 70000, .inl (fun j => nI (sb j)))), (ad 6, .inl (cI, 70000, .inl V)), (ad 7, .inl (cI, 15, .inl (fun j => nI (la j)))),
   (ad 8, .inl (cI, 262144, .inl (fun j => nI (sl j)))), (ad 9, .inl (cI, 10, .inl (fun j => nI (we j)))), (ad 10, .inl (cI, 10, .inl (fun j => nI (of_ j)))), (ad 11, .inl (cI, 63, .inl Sn)), (ad 12, .inl (cI, 9, .inl (fun j => nI (tp j)))), (ad 13, .inl (cZ, 6000, .inl (fun j => nI (re j))))]
/-- the reference's cells -/
abbrev mW5 (cI cZ : ClassId) (ad : Nat → Nat) (w h th n kn po : Nat) (B : Nat → Int32) (ht dr wh sb : Nat → Nat) (V : Nat → Int32) (la sl we of_ : Nat → Nat) (Sn : Nat → Int32) (tp re : Nat → Nat) : va_W := mO ad w h th n kn po :: mA cI cZ ad B ht dr wh sb V la sl we of_ Sn tp re
