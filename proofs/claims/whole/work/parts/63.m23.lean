-- ===== M23: threats =====
/-- a line through the square, all its squares M's but for that one -/
def thr (w h : Nat) (M : Sq) (c r : Nat) : Prop := ∃ way c0 r0 i, way < 4 ∧ i < 4 ∧ ln_ok w h way c0 r0 ∧ ln_c way i c0 = c ∧ ln_r way i r0 = r ∧ ln_in (sq_put M c r) way c0 r0
theorem bits_thr {w h : Nat} (hd : Dm w h) {x : Int64} {M : Sq} (H : Rep w h x M) {c r j i k : Nat} (hr : r < h) (hj : j < 4) (hk : k < 4) (hik : i + k * stp h j = ix h c r) {y : Int64} (HY : Rep w h y (sq_put M c r)) (b0 : tb y i = true) (b1 : tb y (i + stp h j) = true) (b2 : tb y (i + 2 * stp h j) = true) (b3 : tb y (i + 3 * stp h j) = true) : thr w h M c r := by
  obtain ⟨c0, r0, hc0, hr0, rfl, m0⟩ := HY.of_tb b0
  obtain ⟨ho, hm⟩ := bits_at HY hj m0 b1 b2 b3
  obtain ⟨e, hr'⟩ := ln_ix (wayOf_lt j) ho hk
  rw [step_way j hj, hik] at e
  obtain ⟨e1, e2⟩ := ix_inj (Nat.le_of_lt hr) (Nat.le_of_lt hr') e
  exact ⟨wayOf j, c0, r0, k, wayOf_lt j, hk, ho, e1.symm, e2.symm, hm⟩
theorem cp_thr {w h : Nat} (hd : Dm w h) {x : Int64} {M : Sq} (H : Rep w h x M) {c r j : Nat} (hc : c < w) (hr : r < h) (hj : j < 4) (hb : tb (cpL x (stp h j)) (ix h c r) = true) : thr w h M c r := by
  have H' := H.put hd hc hr
  have pb := put_bit hd (x := x) hc hr
  have hd' := hd
  obtain ⟨h3w, hw9, h3h, hh7, hwh, h64⟩ := hd'
  have hl := ix_lt hc (Nat.le_of_lt hr)
  have hs := stp_le hh7 j
  generalize hi : ix h c r = i at hb hl pb
  have own : tb (x ||| sqL h c r) i = true := by rw [pb]; simp
  have up : ∀ q, tb x q = true → tb (x ||| sqL h c r) q = true := fun q e => by rw [pb, e]; rfl
  rw [cp_bit hs (by omega)] at hb
  simp only [Bool.or_eq_true, Bool.and_eq_true, decide_eq_true_eq] at hb
  rcases hb with ((⟨⟨⟨a1, a2⟩, a3, a4⟩, a5, a6⟩ | ⟨⟨⟨a1, a2⟩, a3, a4⟩, a5⟩) | ⟨⟨a1, a2⟩, a3, a4⟩) | ⟨⟨a1, a2⟩, a3⟩
  · refine bits_thr hd H hr hj (i := i - 3 * stp h j) (k := 3) (by decide) (by omega) H' (up _ a6) ?_ ?_ ?_
    · rw [show i - 3 * stp h j + stp h j = i - 2 * stp h j by omega]; exact up _ a4
    · rw [show i - 3 * stp h j + 2 * stp h j = i - stp h j by omega]; exact up _ a2
    · rw [show i - 3 * stp h j + 3 * stp h j = i by omega]; exact own
  · refine bits_thr hd H hr hj (i := i - 2 * stp h j) (k := 2) (by decide) (by omega) H' (up _ a4) ?_ ?_ ?_
    · rw [show i - 2 * stp h j + stp h j = i - stp h j by omega]; exact up _ a2
    · rw [show i - 2 * stp h j + 2 * stp h j = i by omega]; exact own
    · rw [show i - 2 * stp h j + 3 * stp h j = i + stp h j by omega]; exact up _ a5
  · refine bits_thr hd H hr hj (i := i - stp h j) (k := 1) (by decide) (by omega) H' (up _ a2) ?_ ?_ ?_
    · rw [show i - stp h j + stp h j = i by omega]; exact own
    · rw [show i - stp h j + 2 * stp h j = i + stp h j by omega]; exact up _ a3
    · rw [show i - stp h j + 3 * stp h j = i + 2 * stp h j by omega]; exact up _ a4
  · exact bits_thr hd H hr hj (i := i) (k := 0) (by decide) (by omega) H' own (up _ a1) (up _ a2) (up _ a3)
theorem thr_cp {w h : Nat} (hd : Dm w h) {x : Int64} {M : Sq} (H : Rep w h x M) {c r : Nat} (hc : c < w) (hr : r < h) (T : thr w h M c r) : ∃ j, j < 4 ∧ tb (cpL x (stp h j)) (ix h c r) = true := by
  obtain ⟨way, c0, r0, i, hw, hi, ho, e1, e2, hm⟩ := T
  have hh7 := hd.2.2.2.1
  have hs := stp_le hh7 (stepOf way)
  have hp := stp_pos hd.2.2.1 (stepOf way)
  have hl := ix_lt hc (Nat.le_of_lt hr)
  have h64 := hd.2.2.2.2.2
  refine ⟨stepOf way, stepOf_lt way, ?_⟩
  have me := (ln_ix hw ho hi).1
  rw [e1, e2] at me
  have b : ∀ k, k < 4 → k ≠ i → tb x (ix h c0 r0 + k * stp h (stepOf way)) = true := fun k hk hne => by
    obtain ⟨e, hr'⟩ := ln_ix hw ho hk
    rw [e, H.1 _ _ (Nat.le_of_lt hr')]
    rcases put_at.mp (hm k hk) with z | ⟨z1, z2⟩
    · exact z
    · exfalso
      rw [z1, z2] at e
      rw [← me] at e
      have : k * stp h (stepOf way) = i * stp h (stepOf way) := by omega
      exact hne (Nat.eq_of_mul_eq_mul_right (by omega) this)
  rw [← me] at hl ⊢
  rw [cp_bit hs (by omega)]
  simp only [Bool.or_eq_true, Bool.and_eq_true, decide_eq_true_eq]
  have b0 := b 0 (by decide)
  have b1 := b 1 (by decide)
  have b2 := b 2 (by decide)
  have b3 := b 3 (by decide)
  generalize stp h (stepOf way) = s at *
  generalize ix h c0 r0 = a at *
  obtain rfl | rfl | rfl | rfl : i = 0 ∨ i = 1 ∨ i = 2 ∨ i = 3 := by omega
  · refine Or.inr ⟨⟨?_, ?_⟩, ?_⟩
    · have := b1 (by decide); rwa [show a + 1 * s = a + 0 * s + s by omega] at this
    · have := b2 (by decide); rwa [show a + 2 * s = a + 0 * s + 2 * s by omega] at this
    · have := b3 (by decide); rwa [show a + 3 * s = a + 0 * s + 3 * s by omega] at this
  · refine Or.inl (Or.inr ⟨⟨by omega, ?_⟩, ?_, ?_⟩)
    · have := b0 (by decide); rwa [show a + 0 * s = a + 1 * s - s by omega] at this
    · have := b2 (by decide); rwa [show a + 2 * s = a + 1 * s + s by omega] at this
    · have := b3 (by decide); rwa [show a + 3 * s = a + 1 * s + 2 * s by omega] at this
  · refine Or.inl (Or.inl (Or.inr ⟨⟨⟨by omega, ?_⟩, by omega, ?_⟩, ?_⟩))
    · have := b1 (by decide); rwa [show a + 1 * s = a + 2 * s - s by omega] at this
    · have := b0 (by decide); rwa [show a + 0 * s = a + 2 * s - 2 * s by omega] at this
    · have := b3 (by decide); rwa [show a + 3 * s = a + 2 * s + s by omega] at this
  · refine Or.inl (Or.inl (Or.inl ⟨⟨⟨by omega, ?_⟩, by omega, ?_⟩, by omega, ?_⟩))
    · have := b2 (by decide); rwa [show a + 2 * s = a + 3 * s - s by omega] at this
    · have := b1 (by decide); rwa [show a + 1 * s = a + 3 * s - 2 * s by omega] at this
    · have := b0 (by decide); rwa [show a + 0 * s = a + 3 * s - 3 * s by omega] at this
theorem th_at {w h : Nat} (hd : Dm w h) {x u : Int64} {M U : Sq} (H : Rep w h x M) (HU : Rep w h u U) {c r : Nat} (hc : c < w) (hr : r < h) : tb (thL w h x u) (ix h c r) = true ↔ U c r = false ∧ thr w h M c r := by
  unfold thL
  have hlt := ix_lt hc (Nat.le_of_lt hr)
  rw [tb_and, tb_and, (Rep.all hd).1 c r (Nat.le_of_lt hr), tb_not _ (by have := hd.2.2.2.2.2; omega), HU.1 c r (Nat.le_of_lt hr)]
  simp only [onB, hc, hr, decide_true, Bool.and_true, Bool.and_eq_true, Bool.not_eq_true']
  have key : tb ((((0 ||| cpL x (stp h 0)) ||| cpL x (stp h 1)) ||| cpL x (stp h 2)) ||| cpL x (stp h 3)) (ix h c r) = true ↔ thr w h M c r := by
    simp only [tb_or, tb_0, Bool.false_or, Bool.or_eq_true]
    constructor
    · rintro (((q | q) | q) | q)
      · exact cp_thr hd H hc hr (by decide) q
      · exact cp_thr hd H hc hr (by decide) q
      · exact cp_thr hd H hc hr (by decide) q
      · exact cp_thr hd H hc hr (by decide) q
    · intro q
      obtain ⟨j, hj, e⟩ := thr_cp hd H hc hr q
      obtain rfl | rfl | rfl | rfl : j = 0 ∨ j = 1 ∨ j = 2 ∨ j = 3 := by omega
      · exact Or.inl (Or.inl (Or.inl e))
      · exact Or.inl (Or.inl (Or.inr e))
      · exact Or.inl (Or.inr e)
      · exact Or.inr e
  rw [key]
  exact ⟨fun q => ⟨q.2, q.1⟩, fun q => ⟨q.2, q.1⟩⟩
/-- three of four, the empty square being the other one -/
theorem mn_three {B : Nat → Int32} {w h way c r pl i : Nat} (hw : way < 4) (ho : ln_ok w h way c r) (hi : i < 4) (he : ¬ B (7 * ln_c way i c + ln_r way i r) = nI pl) : mnN B (c : Int) (r : Int) way pl 4 = 3 ↔ ∀ k, k < 4 → k ≠ i → B (7 * ln_c way k c + ln_r way k r) = nI pl := by
  have f : ∀ k : Nat, k < 4 → B (7 * lcZ way (k : Int) (c : Int) + lrZ way (k : Int) (r : Int)).toNat = B (7 * ln_c way k c + ln_r way k r) := fun k hk => by rw [mn_at (B := B) (pl := pl) ho hk]
  have e : mnN B (c : Int) (r : Int) way pl 4 = ((((if B (7 * ln_c way 0 c + ln_r way 0 r) = nI pl then 1 else 0) + (if B (7 * ln_c way 1 c + ln_r way 1 r) = nI pl then 1 else 0)) + (if B (7 * ln_c way 2 c + ln_r way 2 r) = nI pl then 1 else 0)) + (if B (7 * ln_c way 3 c + ln_r way 3 r) = nI pl then 1 else 0)) := by
    have s : ∀ k : Nat, k < 4 → mnN B (c : Int) (r : Int) way pl (k + 1) = mnN B (c : Int) (r : Int) way pl k + (if B (7 * ln_c way k c + ln_r way k r) = nI pl then 1 else 0) := fun k hk => by
      rw [mnN, f k hk]; split <;> rfl
    rw [s 3 (by decide), s 2 (by decide), s 1 (by decide), s 0 (by decide)]
    simp [mnN]
  rw [e]
  constructor
  · intro z k hk hne
    refine Classical.byContradiction fun y => ?_
    have le : ∀ k, (fun k => if B (7 * ln_c way k c + ln_r way k r) = nI pl then 1 else 0) k ≤ 1 := fun k => by
      show (if B (7 * ln_c way k c + ln_r way k r) = nI pl then 1 else 0) ≤ 1
      split <;> omega
    have ti : (fun k => if B (7 * ln_c way k c + ln_r way k r) = nI pl then 1 else 0) i = 0 := if_neg he
    have tk : (fun k => if B (7 * ln_c way k c + ln_r way k r) = nI pl then 1 else 0) k = 0 := if_neg y
    have z : (fun k => if B (7 * ln_c way k c + ln_r way k r) = nI pl then 1 else 0) 0 + (fun k => if B (7 * ln_c way k c + ln_r way k r) = nI pl then 1 else 0) 1 + (fun k => if B (7 * ln_c way k c + ln_r way k r) = nI pl then 1 else 0) 2 + (fun k => if B (7 * ln_c way k c + ln_r way k r) = nI pl then 1 else 0) 3 = 3 := z
    generalize (fun k => if B (7 * ln_c way k c + ln_r way k r) = nI pl then 1 else 0) = t at *
    have l0 := le 0
    have l1 := le 1
    have l2 := le 2
    have l3 := le 3
    obtain rfl | rfl | rfl | rfl : i = 0 ∨ i = 1 ∨ i = 2 ∨ i = 3 := by omega
    all_goals (obtain rfl | rfl | rfl | rfl : k = 0 ∨ k = 1 ∨ k = 2 ∨ k = 3 := by omega)
    all_goals first | exact hne rfl | omega
  · intro z
    obtain rfl | rfl | rfl | rfl : i = 0 ∨ i = 1 ∨ i = 2 ∨ i = 3 := by omega
    · rw [if_neg he, if_pos (z 1 (by decide) (by decide)), if_pos (z 2 (by decide) (by decide)), if_pos (z 3 (by decide) (by decide))]
    · rw [if_neg he, if_pos (z 0 (by decide) (by decide)), if_pos (z 2 (by decide) (by decide)), if_pos (z 3 (by decide) (by decide))]
    · rw [if_neg he, if_pos (z 0 (by decide) (by decide)), if_pos (z 1 (by decide) (by decide)), if_pos (z 3 (by decide) (by decide))]
    · rw [if_neg he, if_pos (z 0 (by decide) (by decide)), if_pos (z 1 (by decide) (by decide)), if_pos (z 2 (by decide) (by decide))]
theorem it_thr {w h : Nat} (hd : Dm w h) {B : Nat → Int32} {c r pl : Nat} (hpl : pl ≤ 1) (hc : c < w) (hr : r < h) (he : B (7 * c + r) = -1) : itB w h B c r pl = true ↔ thr w h (stO w h B (nI pl)) c r := by
  have hw9 := hd.2.1
  have hh7 := hd.2.2.2.1
  have hne : ¬ B (7 * c + r) = nI pl := by rw [he]; exact nI_m1 hpl
  unfold itB
  rw [anyB_iff]
  constructor
  · rintro ⟨way, hway, h1⟩
    obtain ⟨i, hi, h2⟩ := anyB_iff.mp h1
    unfold itF at h2
    rw [Bool.and_eq_true, Bool.and_eq_true, decide_eq_true_eq] at h2
    obtain ⟨a, b, n3⟩ := h2
    have z1 : zB (lcZ way (-(i : Int)) c) := by unfold zB lcZ; split <;> omega
    have z2 : zB (lrZ way (-(i : Int)) r) := by unfold zB lrZ; split <;> first | omega | (split <;> omega)
    obtain ⟨a1, a2, a3, a4⟩ := (isq_z hw9 hh7 z1 z2).mp a
    obtain ⟨c0, e1⟩ := Int.eq_ofNat_of_zero_le a1
    obtain ⟨r0, e2⟩ := Int.eq_ofNat_of_zero_le a3
    rw [e1, e2] at b n3
    have hc0 : c0 < w := by omega
    have hr0 : r0 < h := by omega
    have ho := (ok_isq hd hc0 hr0).mp b
    have f1 : ln_c way i c0 = c := by
      unfold lcZ at e1
      unfold ln_c
      split
      · rename_i e; rw [if_pos e] at e1; omega
      · rename_i e; rw [if_neg e] at e1; omega
    have f2 : ln_r way i r0 = r := by
      unfold lrZ at e2
      unfold ln_r
      split
      · rename_i e; rw [if_pos e] at e2; omega
      · rename_i e; rw [if_neg e] at e2
        split
        · rename_i e3; rw [if_pos e3] at e2; omega
        · rename_i e3; rw [if_neg e3] at e2; omega
    have al := (mn_three (B := B) (pl := pl) hway ho hi (by rw [f1, f2]; exact hne)).mp n3
    refine ⟨way, c0, r0, i, hway, hi, ho, f1, f2, fun k hk => put_at.mpr ?_⟩
    by_cases e : k = i
    · subst e; exact Or.inr ⟨f1, f2⟩
    · have := ln_on hway ho hk
      exact Or.inl (stO_at.mpr ⟨this.1, this.2, al k hk e⟩)
  · rintro ⟨way, c0, r0, i, hway, hi, ho, f1, f2, hm⟩
    refine ⟨way, hway, anyB_iff.mpr ⟨i, hi, ?_⟩⟩
    have o5 := ho.2.2.2.2
    have e1 : lcZ way (-(i : Int)) c = (c0 : Int) := by
      rw [← f1]
      unfold lcZ ln_c
      split <;> omega
    have e2 : lrZ way (-(i : Int)) r = (r0 : Int) := by
      rw [← f2]
      unfold lrZ ln_r
      split
      · rfl
      · split
        · rename_i e3; have := o5 e3; omega
        · omega
    unfold itF
    rw [e1, e2, Bool.and_eq_true, Bool.and_eq_true, decide_eq_true_eq]
    have z1 : zB (c0 : Int) := by have := ho.1; unfold zB; omega
    have z2 : zB (r0 : Int) := by have := ho.2.1; unfold zB; omega
    refine ⟨(isq_z hw9 hh7 z1 z2).mpr ⟨by omega, by have := ho.1; omega, by omega, by have := ho.2.1; omega⟩, (ok_isq hd ho.1 ho.2.1).mpr ho, ?_⟩
    refine (mn_three (B := B) (pl := pl) hway ho hi (by rw [f1, f2]; exact hne)).mpr (fun k hk e => ?_)
    rcases put_at.mp (hm k hk) with z | ⟨y1, y2⟩
    · exact (stO_at.mp z).2.2
    · exfalso
      have a := (ln_ix hway ho hk).1
      have b := (ln_ix hway ho hi).1
      rw [y1, y2] at a
      rw [f1, f2] at b
      have : k * stp h (stepOf way) = i * stp h (stepOf way) := by omega
      have hp := stp_pos hd.2.2.1 (stepOf way)
      exact e (Nat.eq_of_mul_eq_mul_right (by omega) this)
theorem threats_class {w h : Nat} (hd : Dm w h) {S : Nat → Int64} {d : List Nat} (G : gOK w h d) (H : RS w h S d) {q : Nat} (hq : q ≤ 1) : popN (thL w h (S q) (S 0 ||| S 1)) 64 = tsN w h (gB d) q := by
  have HU : Rep w h (S 0 ||| S 1) (fun c r => gO w h d 0 c r || gO w h d 1 c r) := H.1.or H.2
  have hg := g_grav hd G (a := 0) (b := 1) (by omega) rfl
  rw [pop_sq hd (x := thL w h (S q) (S 0 ||| S 1)) (fun i hi => ?_)]
  · unfold tsN
    refine sumN_congr (fun c hc => ?_)
    show _ = tsC w h (gB d) q c
    unfold tsC
    refine sumN_congr (fun r hr => ?_)
    show bt1 _ _ = tsF w h (gB d) q c r
    unfold bt1 tsF
    have key : tb (thL w h (S q) (S 0 ||| S 1)) (ix h c r) = true ↔ gB d (7 * c + r) = -1 ∧ itB w h (gB d) c r q = true := by
      have hgc : (gO w h d 0 c r || gO w h d 1 c r) = (decide (c < w) && decide (r < gH d c)) := hg c r
      rw [th_at hd (H.at hq) HU hc hr, hgc]
      have eB : (decide (c < w) && decide (r < gH d c)) = false ↔ gB d (7 * c + r) = -1 := by
        simp only [hc, decide_true, Bool.true_and, decide_eq_false_iff_not]
        constructor
        · intro z; exact (gB_at hd G c r hc hr).1 (by omega)
        · intro z y
          rcases (gB_at hd G c r hc hr).2 y with e | e
          · rw [e] at z; exact nI_m1 (by omega) z.symm
          · rw [e] at z; exact nI_m1 (by omega) z.symm
      rw [eB]
      constructor
      · rintro ⟨a, b⟩; exact ⟨a, (it_thr hd hq hc hr a).mpr b⟩
      · rintro ⟨a, b⟩; exact ⟨a, (it_thr hd hq hc hr a).mp b⟩
    by_cases z : gB d (7 * c + r) = -1 ∧ itB w h (gB d) c r q = true
    · rw [if_pos z, if_pos (key.mpr z)]
    · rw [if_neg z, if_neg (fun y => z (key.mp y))]
  · unfold thL at hi
    rw [tb_and, tb_and, Bool.and_eq_true, Bool.and_eq_true] at hi
    obtain ⟨c, r, a, b, e, -⟩ := (Rep.all hd).of_tb hi.1.2
    exact ⟨c, r, a, b, e⟩
