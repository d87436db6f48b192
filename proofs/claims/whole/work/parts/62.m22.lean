-- ===== M22: open lines and threats are counted alike =====
theorem sumN_two {f g : Nat → Nat} : ∀ n, sumN (fun i => f i + g i) n = sumN f n + sumN g n
  | 0 => rfl
  | n + 1 => by
    have := sumN_two (f := f) (g := g) n
    show sumN _ n + (f n + g n) = sumN f n + f n + (sumN g n + g n)
    omega
theorem sumN_cat (f : Nat → Nat) (a : Nat) : ∀ b, sumN f (a + b) = sumN f a + sumN (fun i => f (a + i)) b
  | 0 => rfl
  | b + 1 => by
    have := sumN_cat f a b
    show sumN f (a + b) + f (a + b) = sumN f a + (sumN _ b + f (a + b))
    omega
theorem sumN_nil {f : Nat → Nat} : ∀ {n : Nat}, (∀ i, i < n → f i = 0) → sumN f n = 0
  | 0, _ => rfl
  | n + 1, H => by
    show sumN f n + f n = 0
    rw [sumN_nil (fun i hi => H i (by omega)), H n (by omega)]
theorem pop_sum (x : Int64) : ∀ k, popN x k = sumN (bt1 x) k
  | 0 => rfl
  | k + 1 => by show popN x k + _ = sumN _ k + _; rw [pop_sum x k]; rfl
theorem sum_ix (h : Nat) (f : Nat → Nat) : ∀ w, sumN f (w * (h + 1)) = sumN (fun c => sumN (fun r => f (ix h c r)) (h + 1)) w
  | 0 => by simp [sumN]
  | w + 1 => by
    rw [Nat.succ_mul, sumN_cat, sum_ix h f w]
    rfl
/-- the bits of a long whose bits lie on squares -/
theorem pop_sq {w h : Nat} (hd : Dm w h) {x : Int64} (hx : ∀ i, tb x i = true → ∃ c r, c < w ∧ r < h ∧ i = ix h c r) : popN x 64 = sumN (fun c => sumN (fun r => bt1 x (ix h c r)) h) w := by
  have h64 := hd.2.2.2.2.2
  have off : ∀ i, (¬ ∃ c r, c < w ∧ r < h ∧ i = ix h c r) → bt1 x i = 0 := fun i hi => by
    unfold bt1
    rw [if_neg (fun z => hi (hx i z))]
  rw [pop_sum, show 64 = w * (h + 1) + (64 - w * (h + 1)) by omega, sumN_cat, sum_ix]
  have z1 : sumN (fun i => bt1 x (w * (h + 1) + i)) (64 - w * (h + 1)) = 0 := sumN_nil (fun i _ => off _ (by
    rintro ⟨c, r, hc, hr, e⟩
    have := ix_lt (h := h) hc (Nat.le_of_lt hr)
    omega))
  rw [z1, Nat.add_zero]
  refine sumN_congr (fun c hc => ?_)
  show sumN _ h + bt1 x (ix h c h) = _
  rw [off (ix h c h) (by
    rintro ⟨c', r', hc', hr', e⟩
    have := (ix_inj (Nat.le_refl h) (Nat.le_of_lt hr') e).2
    omega), Nat.add_zero]
theorem step_way : ∀ j, j < 4 → stepOf (wayOf j) = j := by decide
theorem way_step : ∀ k, k < 4 → wayOf (stepOf k) = k := by decide
/-- four bits a step apart: the line that begins there -/
theorem bits_at {w h : Nat} {x : Int64} {M : Sq} (H : Rep w h x M) {c r j : Nat} (hj : j < 4) (m0 : M c r = true) (b1 : tb x (ix h c r + stp h j) = true) (b2 : tb x (ix h c r + 2 * stp h j) = true) (b3 : tb x (ix h c r + 3 * stp h j) = true) : ln_ok w h (wayOf j) c r ∧ ln_in M (wayOf j) c r := by
  obtain ⟨hc, hr⟩ := H.2 c r m0
  obtain ⟨q1, m1, e1⟩ := step_sq H hj m0 b1
  have b2' : tb x (ix h (ln_c (wayOf j) 1 c) (ln_r (wayOf j) 1 r) + stp h j) = true := by rw [← e1, Nat.add_assoc, ← Nat.two_mul]; exact b2
  obtain ⟨q2, m2, e2⟩ := step_sq H hj m1 b2'
  have b3' : tb x (ix h (ln_c (wayOf j) 1 (ln_c (wayOf j) 1 c)) (ln_r (wayOf j) 1 (ln_r (wayOf j) 1 r)) + stp h j) = true := by
    rw [← e2, ← e1]
    have : ix h c r + stp h j + stp h j + stp h j = ix h c r + 3 * stp h j := by omega
    rw [this]; exact b3
  obtain ⟨q3, m3, e3⟩ := step_sq H hj m2 b3'
  rw [ln_c1, ln_r1] at m2
  rw [ln_c1 _ 1 c, ln_r1 _ 1 r, ln_c1, ln_r1] at m3
  refine ⟨⟨hc, hr, (H.2 _ _ m3).1, (H.2 _ _ m3).2, fun hw => ?_⟩, fun i hi => ?_⟩
  · have t1 := q1 hw
    have t2 := q2 hw
    have t3 := q3 hw
    rw [hw] at t2 t3
    simp only [ln_r] at t2 t3
    simp at t2 t3
    omega
  · obtain rfl | rfl | rfl | rfl : i = 0 ∨ i = 1 ∨ i = 2 ∨ i = 3 := by omega
    · rw [ln_c0, ln_r0]; exact m0
    · exact m1
    · exact m2
    · exact m3
theorem ls_at {w h : Nat} (hd : Dm w h) {x : Int64} {M : Sq} (H : Rep w h x M) {c r j : Nat} (hj : j < 4) (hr : r < h) : tb (lsL x (stp h j)) (ix h c r) = true ↔ ln_ok w h (wayOf j) c r ∧ ln_in M (wayOf j) c r := by
  have hh7 := hd.2.2.2.1
  rw [ls_bit (stp_le hh7 j)]
  simp only [Bool.and_eq_true]
  constructor
  · rintro ⟨b0, b1, b2, b3⟩
    rw [H.1 c r (Nat.le_of_lt hr)] at b0
    exact bits_at H hj b0 b1 b2 b3
  · rintro ⟨ho, hm⟩
    have b : ∀ k, k < 4 → tb x (ix h c r + k * stp h j) = true := fun k hk => by
      obtain ⟨e, hr'⟩ := ln_ix (wayOf_lt j) ho hk
      rw [step_way j hj] at e
      rw [e, H.1 _ _ (Nat.le_of_lt hr')]
      exact hm k hk
    have b0 := b 0 (by decide)
    have b1 := b 1 (by decide)
    have b2 := b 2 (by decide)
    have b3 := b 3 (by decide)
    rw [Nat.zero_mul, Nat.add_zero] at b0
    rw [Nat.one_mul] at b1
    exact ⟨b0, b1, b2, b3⟩
noncomputable def lnI (w h : Nat) (M : Sq) (way c r : Nat) : Nat := @ite Nat (ln_ok w h way c r ∧ ln_in M way c r) (Classical.propDecidable _) 1 0
theorem ls_pop {w h : Nat} (hd : Dm w h) {x : Int64} {M : Sq} (H : Rep w h x M) {j : Nat} (hj : j < 4) : popN (lsL x (stp h j)) 64 = sumN (fun c => sumN (fun r => lnI w h M (wayOf j) c r) h) w := by
  rw [pop_sq hd (x := lsL x (stp h j)) (fun i hi => ?_)]
  · refine sumN_congr (fun c hc => sumN_congr (fun r hr => ?_))
    unfold bt1 lnI
    by_cases z : ln_ok w h (wayOf j) c r ∧ ln_in M (wayOf j) c r
    · rw [if_pos z, if_pos ((ls_at hd H hj hr).mpr z)]
    · rw [if_neg z, if_neg (fun y => z ((ls_at hd H hj hr).mp y))]
  · rw [ls_bit (stp_le hd.2.2.2.1 j), Bool.and_eq_true] at hi
    obtain ⟨c, r, a, b, e, -⟩ := H.of_tb hi.1
    exact ⟨c, r, a, b, e⟩
theorem sum2_two {w h : Nat} (f g : Nat → Nat → Nat) : sumN (fun c => sumN (fun r => f c r + g c r) h) w = sumN (fun c => sumN (fun r => f c r) h) w + sumN (fun c => sumN (fun r => g c r) h) w := by
  rw [← sumN_two]
  exact sumN_congr (fun c _ => sumN_two h)
theorem cl_sum {w h : Nat} (hd : Dm w h) {x : Int64} {M : Sq} (H : Rep w h x M) : clN h x = sumN (fun c => sumN (fun r => sumN (fun way => lnI w h M way c r) 4) h) w := by
  have e : (fun c => sumN (fun r => sumN (fun way => lnI w h M way c r) 4) h) = fun c => sumN (fun r => ((lnI w h M 0 c r + lnI w h M 3 c r) + lnI w h M 1 c r) + lnI w h M 2 c r) h := by
    funext c
    refine sumN_congr (fun r _ => ?_)
    show 0 + lnI w h M 0 c r + lnI w h M 1 c r + lnI w h M 2 c r + lnI w h M 3 c r = _
    omega
  unfold clN
  rw [ls_pop hd H (j := 0) (by decide), ls_pop hd H (j := 1) (by decide), ls_pop hd H (j := 2) (by decide), ls_pop hd H (j := 3) (by decide), e, sum2_two, sum2_two, sum2_two, Nat.zero_add]
  rfl
theorem Rep.minus {w h : Nat} (hd : Dm w h) {x : Int64} {M : Sq} (H : Rep w h x M) : Rep w h (allL h w &&& (x ^^^ (-1))) (fun c r => onB w h c r && !M c r) := by
  refine ⟨fun c r hr => ?_, fun c r z => ?_⟩
  · rw [tb_and, (Rep.all hd).1 c r hr]
    by_cases z : onB w h c r = true
    · have : c < w ∧ r < h := by simpa [onB] using z
      have := ix_lt (h := h) this.1 hr
      rw [tb_not _ (by have := hd.2.2.2.2.2; omega), H.1 c r hr]
    · rw [Bool.not_eq_true] at z
      show _ = (onB w h c r && !M c r)
      rw [z]; rfl
  · have : onB w h c r = true := (Bool.and_eq_true _ _ ▸ z).1
    simpa [onB] using this
theorem lcZ_n (way i c : Nat) : lcZ way (i : Int) (c : Int) = (ln_c way i c : Int) := by unfold lcZ ln_c; split <;> simp
theorem lrZ_n {way i r : Nat} (hi : way = 3 → i ≤ r) : lrZ way (i : Int) (r : Int) = (ln_r way i r : Int) := by
  unfold lrZ ln_r
  split
  · rfl
  · split
    · rename_i e; have := hi e; omega
    · simp
theorem ln_zB {way i c r : Nat} (hc : c < 9) (hr : r < 7) (hi : i ≤ 3) : zB (lcZ way (i : Int) (c : Int)) ∧ zB (lrZ way (i : Int) (r : Int)) := by
  unfold zB lcZ lrZ
  refine ⟨?_, ?_⟩
  · split <;> omega
  · split
    · omega
    · split <;> omega
theorem ok_isq {w h : Nat} (hd : Dm w h) {way c r : Nat} (hc : c < w) (hr : r < h) : isq w h (zI (lcZ way 3 (c : Int))) (zI (lrZ way 3 (r : Int))) = true ↔ ln_ok w h way c r := by
  have hw := hd.2.1
  have hh := hd.2.2.2.1
  obtain ⟨b1, b2⟩ := ln_zB (way := way) (i := 3) (show c < 9 by omega) (show r < 7 by omega) (Nat.le_refl _)
  have b1 : zB (lcZ way 3 (c : Int)) := b1
  have b2 : zB (lrZ way 3 (r : Int)) := b2
  rw [isq_z hw hh b1 b2]
  have e1 : lcZ way 3 (c : Int) = (ln_c way 3 c : Int) := lcZ_n way 3 c
  rw [e1]
  unfold ln_ok
  by_cases q : way = 3 → 3 ≤ r
  · have e2 : lrZ way 3 (r : Int) = (ln_r way 3 r : Int) := lrZ_n q
    rw [e2]
    constructor
    · rintro ⟨-, a, -, b⟩; exact ⟨hc, hr, by omega, by omega, q⟩
    · rintro ⟨-, -, a, b, -⟩; exact ⟨by omega, by omega, by omega, by omega⟩
  · constructor
    · rintro ⟨-, -, a, -⟩
      exfalso
      apply q
      intro e
      subst e
      simp [lrZ] at a
      omega
    · rintro ⟨-, -, -, -, a⟩; exact absurd a q
theorem mn_at {B : Nat → Int32} {w h way c r pl : Nat} (ho : ln_ok w h way c r) {i : Nat} (hi : i < 4) : (7 * lcZ way (i : Int) (c : Int) + lrZ way (i : Int) (r : Int)).toNat = 7 * ln_c way i c + ln_r way i r := by
  rw [lcZ_n, lrZ_n (fun e => by have := ho.2.2.2.2 e; omega)]
  omega
theorem mn_zero {B : Nat → Int32} {c r : Int} {way pl : Nat} : ∀ n, mnN B c r way pl n = 0 ↔ ∀ i, i < n → ¬ B (7 * lcZ way (i : Int) c + lrZ way (i : Int) r).toNat = nI pl
  | 0 => ⟨fun _ i hi => absurd hi (Nat.not_lt_zero _), fun _ => rfl⟩
  | n + 1 => by
    have ih := mn_zero (B := B) (c := c) (r := r) (way := way) (pl := pl) n
    unfold mnN
    constructor
    · intro z i hi
      by_cases e : B (7 * lcZ way (n : Int) c + lrZ way (n : Int) r).toNat = nI pl
      · rw [if_pos e] at z; omega
      · rw [if_neg e] at z
        by_cases y : i = n
        · rw [y]; exact e
        · exact ih.mp z i (by omega)
    · intro z
      rw [if_neg (z n (by omega))]
      exact ih.mpr (fun i hi => z i (by omega))
theorem ln_on {w h way c r : Nat} (hw : way < 4) (ho : ln_ok w h way c r) {i : Nat} (hi : i < 4) : ln_c way i c < w ∧ ln_r way i r < h := by
  refine ⟨?_, (ln_ix hw ho hi).2⟩
  have h1 := ho.1
  have h3 := ho.2.2.1
  unfold ln_c at *
  split
  · exact h1
  · rename_i e; rw [if_neg e] at h3; omega
theorem op_is {w h : Nat} (hd : Dm w h) {B : Nat → Int32} {pl c r way : Nat} (hc : c < w) (hr : r < h) (hway : way < 4) : opF w h B pl c r way = lnI w h (fun c r => onB w h c r && !stO w h B (nI pl) c r) way c r := by
  unfold opF lnI
  have iff : (isq w h (zI (lcZ way 3 (c : Int))) (zI (lrZ way 3 (r : Int))) = true ∧ mnN B (c : Int) (r : Int) way pl 4 = 0) ↔ (ln_ok w h way c r ∧ ln_in (fun c r => onB w h c r && !stO w h B (nI pl) c r) way c r) := by
    rw [ok_isq hd hc hr, mn_zero]
    constructor
    · rintro ⟨a, b⟩
      refine ⟨a, fun i hi => ?_⟩
      obtain ⟨o1, o2⟩ := ln_on hway a hi
      have := b i hi
      rw [mn_at (B := B) (pl := pl) a hi] at this
      have n1 : stO w h B (nI pl) (ln_c way i c) (ln_r way i r) = false := by
        rw [← Bool.not_eq_true, stO_at]; exact fun z => this z.2.2
      show (onB w h _ _ && !stO w h B (nI pl) _ _) = true
      rw [n1]; simp [onB, o1, o2]
    · rintro ⟨a, b⟩
      refine ⟨a, fun i hi => ?_⟩
      obtain ⟨o1, o2⟩ := ln_on hway a hi
      rw [mn_at (B := B) (pl := pl) a hi]
      intro z
      have := b i hi
      have n1 : stO w h B (nI pl) (ln_c way i c) (ln_r way i r) = true := stO_at.mpr ⟨o1, o2, z⟩
      have t : (onB w h (ln_c way i c) (ln_r way i r) && !stO w h B (nI pl) (ln_c way i c) (ln_r way i r)) = true := this
      rw [n1] at t; simp at t
  by_cases z : ln_ok w h way c r ∧ ln_in (fun c r => onB w h c r && !stO w h B (nI pl) c r) way c r
  · rw [if_pos (iff.mpr z), if_pos z]
  · rw [if_neg (fun y => z (iff.mp y)), if_neg z]
theorem open_class {w h : Nat} (hd : Dm w h) {S : Nat → Int64} {d : List Nat} (H : RS w h S d) {q : Nat} (hq : q ≤ 1) : clN h (allL h w &&& (S q ^^^ (-1))) = opN w h (gB d) q := by
  rw [cl_sum hd ((H.at hq).minus hd)]
  unfold opN
  refine sumN_congr (fun c hc => ?_)
  show _ = opC w h (gB d) q c
  unfold opC
  refine sumN_congr (fun r hr => ?_)
  show _ = opR w h (gB d) q c r
  unfold opR
  exact sumN_congr (fun way hway => (op_is hd hc hr hway).symm)
