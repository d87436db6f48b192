-- ===== M25: one who only follows: where the stones come to lie =====
def eN (w h : Nat) (ht : Nat → Nat) (q j : Nat) (M : Sq) : Sq := fun c r => M c r || (decide (c < w) && (decide (ht c ≤ r) && (decide (r < h) && (decide (r < ht c + j) && decide ((r - ht c) % 2 = q)))))
theorem eN_at {w h : Nat} {ht : Nat → Nat} {q j : Nat} {M : Sq} {c r : Nat} : eN w h ht q j M c r = true ↔ M c r = true ∨ (c < w ∧ ht c ≤ r ∧ r < h ∧ r < ht c + j ∧ (r - ht c) % 2 = q) := by simp [eN]
def tpN (h : Nat) (ht : Nat → Nat) (j : Nat) : Nat → Nat := fun c => min h (ht c + j)
theorem tpN_0 {h : Nat} {ht : Nat → Nat} (hht : ∀ c, ht c ≤ h) : tpN h ht 0 = ht := by
  funext c
  have := hht c
  unfold tpN; omega
theorem eN_grav {w h : Nat} {ht : Nat → Nat} {M T : Sq} (hht : ∀ c, ht c ≤ h) (hg : grav w ht (fun c r => M c r || T c r)) (j : Nat) : grav w (tpN h ht j) (fun c r => eN w h ht 0 j M c r || eN w h ht 1 j T c r) := by
  intro c r
  have g : (M c r || T c r) = (decide (c < w) && decide (r < ht c)) := hg c r
  rw [Bool.eq_iff_iff] at g ⊢
  simp only [Bool.or_eq_true, Bool.and_eq_true, decide_eq_true_eq, eN_at] at g ⊢
  have := hht c
  unfold tpN
  constructor
  · intro z
    rcases z with (z | z) | (z | z)
    · have := g.mp (Or.inl z); omega
    · omega
    · have := g.mp (Or.inr z); omega
    · omega
  · rintro ⟨h1, h2⟩
    by_cases e : r < ht c
    · rcases g.mpr ⟨h1, e⟩ with y | y
      · exact Or.inl (Or.inl y)
      · exact Or.inr (Or.inl y)
    · rcases Nat.mod_two_eq_zero_or_one (r - ht c) with y | y
      · exact Or.inl (Or.inr (by omega))
      · exact Or.inr (Or.inr (by omega))
theorem nxS_at {w h : Nat} {tp : Nat → Nat} {c r : Nat} : nxS w h tp c r = true ↔ c < w ∧ r < h ∧ r = tp c := by simp [nxS]
theorem eN_nx {w h : Nat} {ht : Nat → Nat} {q j : Nat} {M : Sq} (hq : j % 2 = q) : (fun c r => eN w h ht q j M c r || nxS w h (tpN h ht j) c r) = eN w h ht q (j + 1) M := by
  funext c r
  rw [Bool.eq_iff_iff]
  simp only [Bool.or_eq_true, eN_at, nxS_at]
  have hm : r < h → (r = tpN h ht j c ↔ r = ht c + j) := fun _ => by unfold tpN; omega
  constructor
  · rintro ((z | z) | z)
    · exact Or.inl z
    · exact Or.inr (by omega)
    · have z3 := (hm z.2.1).mp z.2.2
      refine Or.inr ⟨z.1, by omega, by omega, by omega, ?_⟩
      rw [show r - ht c = j by omega]; exact hq
  · rintro (z | z)
    · exact Or.inl (Or.inl z)
    · by_cases e : r < ht c + j
      · exact Or.inl (Or.inr (by omega))
      · exact Or.inr ⟨z.1, z.2.2.1, (hm z.2.2.1).mpr (by omega)⟩
theorem eN_stay {w h : Nat} {ht : Nat → Nat} {q j : Nat} {M : Sq} (hq : ¬ j % 2 = q) : eN w h ht q (j + 1) M = eN w h ht q j M := by
  funext c r
  rw [Bool.eq_iff_iff, eN_at, eN_at]
  constructor
  · rintro (z | z)
    · exact Or.inl z
    · by_cases e : r = ht c + j
      · have := z.2.2.2.2
        rw [show r - ht c = j by omega] at this
        exact absurd this hq
      · exact Or.inr (by omega)
  · rintro (z | z)
    · exact Or.inl z
    · exact Or.inr (by omega)
theorem eN_0 {w h : Nat} {ht : Nat → Nat} {q : Nat} {M : Sq} : eN w h ht q 0 M = M := by
  funext c r
  rw [Bool.eq_iff_iff, eN_at]
  exact ⟨fun z => z.resolve_right (by omega), Or.inl⟩
theorem le_rep {w h : Nat} (hd : Dm w h) {ht : Nat → Nat} {M T : Sq} {a b : Int64} (hht : ∀ c, ht c ≤ h) (hg : grav w ht (fun c r => M c r || T c r)) (Ha : Rep w h a M) (Hb : Rep w h b T) : ∀ k, Rep w h (leE w h a b k).1 (eN w h ht 0 (2 * k) M) ∧ Rep w h (leE w h a b k).2 (eN w h ht 1 (2 * k) T)
  | 0 => by rw [Nat.mul_zero, eN_0, eN_0]; exact ⟨Ha, Hb⟩
  | k + 1 => by
    obtain ⟨h1, h2⟩ := le_rep hd hht hg Ha Hb k
    have tle : ∀ j c, c < w → tpN h ht j c ≤ h := fun j c _ => Nat.min_le_left _ _
    have n1 := Rep.nx hd (tle (2 * k)) (h1.or h2) (eN_grav hht hg (2 * k))
    have x1 : Rep w h ((leE w h a b k).1 ||| nxL w h ((leE w h a b k).1 ||| (leE w h a b k).2)) (eN w h ht 0 (2 * k + 1) M) := by
      rw [← eN_nx (by omega)]; exact h1.or n1
    have y0 : Rep w h (leE w h a b k).2 (eN w h ht 1 (2 * k + 1) T) := by rw [eN_stay (by omega)]; exact h2
    have n2 := Rep.nx hd (tle (2 * k + 1)) (x1.or y0) (eN_grav hht hg (2 * k + 1))
    refine ⟨?_, ?_⟩
    · show Rep w h ((leE w h a b k).1 ||| nxL w h ((leE w h a b k).1 ||| (leE w h a b k).2)) (eN w h ht 0 (2 * k + 1 + 1) M)
      rw [eN_stay (by omega)]; exact x1
    · show Rep w h ((leE w h a b k).2 ||| nxL w h (((leE w h a b k).1 ||| nxL w h ((leE w h a b k).1 ||| (leE w h a b k).2)) ||| (leE w h a b k).2)) (eN w h ht 1 (2 * k + 1 + 1) T)
      rw [← eN_nx (by omega)]; exact y0.or n2
/-- the squares of a line -/
def lnS (way c0 r0 : Nat) : Sq := fun c r => anyB (fun i => decide (ln_c way i c0 = c) && decide (ln_r way i r0 = r)) 4
theorem lnS_at {way c0 r0 c r : Nat} : lnS way c0 r0 c r = true ↔ ∃ i, i < 4 ∧ ln_c way i c0 = c ∧ ln_r way i r0 = r := by
  unfold lnS
  rw [anyB_iff]
  constructor
  · rintro ⟨i, hi, z⟩
    rw [Bool.and_eq_true, decide_eq_true_eq, decide_eq_true_eq] at z
    exact ⟨i, hi, z⟩
  · rintro ⟨i, hi, z1, z2⟩
    exact ⟨i, hi, by rw [Bool.and_eq_true, decide_eq_true_eq, decide_eq_true_eq]; exact ⟨z1, z2⟩⟩
def wdS (L : Sq) (way c0 r0 : Nat) : Sq := fun c r => lnS way c0 r0 c r && !L c r
theorem wdS_at {L : Sq} {way c0 r0 c r : Nat} : wdS L way c0 r0 c r = true ↔ (∃ i, i < 4 ∧ ln_c way i c0 = c ∧ ln_r way i r0 = r) ∧ L c r = false := by
  unfold wdS
  rw [Bool.and_eq_true, lnS_at, Bool.not_eq_true']
theorem and_pow {x : Int64} {k : Nat} (hk : k < 64) : (tb x k = true → x &&& shlL 1 k = shlL 1 k) ∧ (tb x k = false → x &&& shlL 1 k = 0) := by
  refine ⟨fun z => tb_ext (fun i hi => ?_), fun z => tb_ext (fun i hi => ?_)⟩
  · rw [tb_and, tb_pow hk]
    by_cases e : i = k
    · rw [e, z]; simp
    · simp [e]
  · rw [tb_and, tb_pow hk, tb_0]
    by_cases e : i = k
    · rw [e, z]; simp
    · simp [e]
theorem shl_z {k : Nat} (hk : k < 64) : shlL 0 k = 0 := tb_ext (fun i hi => by rw [tb_shl hk _ hi, tb_0, tb_0]; simp)
theorem wa_zero {le st : Int64} {d k : Nat} (hd : d ≤ 9) (hk : k < 64) (hz : tb st k = false) : waL le st d k = 0 := by
  unfold waL
  rw [(and_pow hk).2 hz, shl_z (by omega)]
  refine tb_ext (fun i hi => ?_)
  rw [tb_and, tb_or, tb_or, tb_shl (by omega) _ hi, tb_or, tb_0, tb_0]
  simp
theorem wa_rep {w h : Nat} (hd : Dm w h) {le st : Int64} {L : Sq} (Hl : Rep w h le L) {j c0 r0 : Nat} (hj : j < 4) (hs : tb st (ix h c0 r0) = true) (ho : ln_ok w h (wayOf j) c0 r0) : Rep w h (waL le st (stp h j) (ix h c0 r0)) (wdS L (wayOf j) c0 r0) := by
  have hh7 := hd.2.2.2.1
  have h64 := hd.2.2.2.2.2
  have hs9 := stp_le hh7 j
  have hl0 := ix_lt (h := h) ho.1 (Nat.le_of_lt ho.2.1)
  have sq : ∀ k, k < 4 → ix h c0 r0 + k * stp h j = ix h (ln_c (wayOf j) k c0) (ln_r (wayOf j) k r0) ∧ ln_r (wayOf j) k r0 < h := fun k hk => by
    have := ln_ix (wayOf_lt j) ho hk
    rw [step_way j hj] at this
    exact this
  have bit : ∀ i, i < 64 → tb (waL le st (stp h j) (ix h c0 r0)) i = ((decide (i = ix h c0 r0) || decide (i = ix h c0 r0 + stp h j) || decide (i = ix h c0 r0 + 2 * stp h j) || decide (i = ix h c0 r0 + 3 * stp h j)) && !tb le i) := by
    intro i hi
    unfold waL
    have hP : ∀ i, tb (shlL 1 (ix h c0 r0)) i = decide (i = ix h c0 r0) := tb_pow (by omega)
    rw [(and_pow (show ix h c0 r0 < 64 by omega)).1 hs]
    generalize shlL 1 (ix h c0 r0) = P at hP
    rw [tb_and, tb_not _ hi, tb_or, tb_or, hP, tb_shl (by omega) P hi, tb_shl (by omega) _ hi, tb_or, tb_shl (by omega) P (by omega), hP, hP, hP]
    congr 1
    rw [Bool.eq_iff_iff]
    simp only [Bool.or_eq_true, Bool.and_eq_true, decide_eq_true_eq]
    omega
  have on : ∀ c r, wdS L (wayOf j) c0 r0 c r = true → c < w ∧ r < h := by
    intro c r z
    obtain ⟨⟨i, hi, e1, e2⟩, -⟩ := wdS_at.mp z
    rw [← e1, ← e2]
    exact ln_on (wayOf_lt j) ho hi
  refine ⟨fun c r hr => ?_, on⟩
  by_cases hi : ix h c r < 64
  · rw [bit _ hi, Hl.1 c r hr]
    show _ = (lnS (wayOf j) c0 r0 c r && !L c r)
    congr 1
    rw [Bool.eq_iff_iff, lnS_at]
    simp only [Bool.or_eq_true, decide_eq_true_eq]
    have of : ∀ k, k < 4 → ix h c r = ix h c0 r0 + k * stp h j → ∃ i, i < 4 ∧ ln_c (wayOf j) i c0 = c ∧ ln_r (wayOf j) i r0 = r := fun k hk e => by
      obtain ⟨a, b⟩ := sq k hk
      rw [a] at e
      obtain ⟨e1, e2⟩ := ix_inj hr (Nat.le_of_lt b) e
      exact ⟨k, hk, e1.symm, e2.symm⟩
    constructor
    · rintro (((z | z) | z) | z)
      · exact of 0 (by decide) (by rw [z]; omega)
      · exact of 1 (by decide) (by rw [z]; omega)
      · exact of 2 (by decide) z
      · exact of 3 (by decide) z
    · rintro ⟨i, hi, e1, e2⟩
      have a := (sq i hi).1
      rw [e1, e2] at a
      obtain rfl | rfl | rfl | rfl : i = 0 ∨ i = 1 ∨ i = 2 ∨ i = 3 := by omega
      · omega
      · omega
      · omega
      · omega
  · rw [tb_big (by omega)]
    symm
    rw [← Bool.not_eq_true]
    intro z
    obtain ⟨a, b⟩ := on c r z
    have := ix_lt (h := h) a (Nat.le_of_lt b)
    omega
/-- a column has one wanted square at most -/
theorem one_sq {w h : Nat} {ht : Nat → Nat} {L : Sq} {J way c0 r0 : Nat} (low : ∀ c r, L c r = true → r < ht c) (hw : way < 4) (hin : ln_in (eN w h ht 0 J L) way c0 r0) {c r r' : Nat} (h1 : wdS L way c0 r0 c r = true) (h2 : wdS L way c0 r0 c r' = true) : r = r' := by
  have aux : ∀ {r r' : Nat}, wdS L way c0 r0 c r = true → wdS L way c0 r0 c r' = true → ¬ r < r' := by
    intro r r' h1 h2 hlt
    obtain ⟨⟨i, hi, e1, e2⟩, n1⟩ := wdS_at.mp h1
    obtain ⟨⟨i', hi', e1', e2'⟩, n2⟩ := wdS_at.mp h2
    have p1 := eN_at.mp (hin i hi)
    rw [e1, e2] at p1
    have p1 := p1.resolve_left (by rw [n1]; decide)
    by_cases w0 : way = 0
    · subst w0
      have hr : ∀ k, ln_r 0 k r0 = r0 + k := fun k => by simp [ln_r]
      have hcc : ∀ k, ln_c 0 k c0 = c0 := fun k => by simp [ln_c]
      rw [hr] at e2 e2'
      have p3 := eN_at.mp (hin (i + 1) (by omega))
      rw [hcc, hr] at p3
      rw [hcc] at e1
      subst e1
      rcases p3 with z | z
      · have := low _ _ z; omega
      · omega
    · have hcc : ∀ k, ln_c way k c0 = c0 + k := fun k => by simp [ln_c, w0]
      rw [hcc] at e1 e1'
      have : i = i' := by omega
      subst this
      omega
  have a := aux h1 h2
  have b := aux h2 h1
  omega
