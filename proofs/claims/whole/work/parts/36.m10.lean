-- ===== M10: the reference's table: digits and bits =====
theorem prN_mul (h : Nat) (ht : Nat → Nat) {c c' : Nat} (hc : c ≤ c') : ∃ m, prN h ht c' = prN h ht c * m := by
  induction c' with
  | zero => obtain rfl : c = 0 := by omega
            exact ⟨1, by rw [Nat.mul_one]⟩
  | succ k ih =>
    by_cases e : c = k + 1
    · subst e; exact ⟨1, by rw [Nat.mul_one]⟩
    · obtain ⟨m, hm⟩ := ih (by omega)
      exact ⟨m * (h - ht k + 1), by rw [prN, hm, Nat.mul_assoc]⟩
/-- one more stone in column c: the digit grows, all that is higher stays -/
theorem dg_hi {h : Nat} {ht : Nat → Nat} {W0 c : Nat} (hx : dgN h ht W0 c < h - ht c) : (W0 + prN h ht c) / prN h ht (c + 1) = W0 / prN h ht (c + 1) := by
  have hp := prN_pos h ht c
  rw [prN, ← Nat.div_div_eq_div_mul, ← Nat.div_div_eq_div_mul, Nat.add_div_right _ hp]
  unfold dgN at hx
  generalize W0 / prN h ht c = q at hx
  have e := Nat.div_add_mod q (h - ht c + 1)
  rw [show q + 1 = (h - ht c + 1) * (q / (h - ht c + 1)) + (q % (h - ht c + 1) + 1) by omega, Nat.mul_add_div (Nat.succ_pos _), Nat.div_eq_of_lt (show q % (h - ht c + 1) + 1 < h - ht c + 1 by omega), Nat.add_zero]
theorem dg_inc {h : Nat} {ht : Nat → Nat} {W0 c : Nat} (hx : dgN h ht W0 c < h - ht c) (c' : Nat) : dgN h ht (W0 + prN h ht c) c' = if c' = c then dgN h ht W0 c + 1 else dgN h ht W0 c' := by
  have hp := prN_pos h ht c
  by_cases e : c' = c
  · subst e
    rw [if_pos rfl]
    unfold dgN at hx ⊢
    rw [Nat.add_div_right _ hp]
    generalize W0 / prN h ht c' = q at hx ⊢
    have e := Nat.div_add_mod q (h - ht c' + 1)
    rw [show q + 1 = (h - ht c' + 1) * (q / (h - ht c' + 1)) + (q % (h - ht c' + 1) + 1) by omega, Nat.mul_add_mod, Nat.mod_eq_of_lt (show q % (h - ht c' + 1) + 1 < h - ht c' + 1 by omega)]
  · rw [if_neg e]
    by_cases q : c' < c
    · obtain ⟨m, hm⟩ := prN_mul h ht (show c' + 1 ≤ c by omega)
      unfold dgN
      have hp' := prN_pos h ht c'
      rw [hm, prN, Nat.mul_assoc, Nat.add_mul_div_left _ _ hp', Nat.add_mul_mod_self_left]
    · obtain ⟨m, hm⟩ := prN_mul h ht (show c + 1 ≤ c' by omega)
      unfold dgN
      rw [hm, ← Nat.div_div_eq_div_mul, ← Nat.div_div_eq_div_mul, dg_hi hx]
theorem W_lt {w h : Nat} {ht : Nat → Nat} {W0 c : Nat} (hx : dgN h ht W0 c < h - ht c) (hc : c < w) (hW : W0 < prN h ht w) : W0 + prN h ht c < prN h ht w := by
  obtain ⟨m, hm⟩ := prN_mul h ht (show c + 1 ≤ w by omega)
  have h1 : (W0 + prN h ht c) / prN h ht w = 0 := by
    rw [hm, ← Nat.div_div_eq_div_mul, dg_hi hx, Nat.div_div_eq_div_mul, ← hm]
    exact Nat.div_eq_of_lt hW
  exact (Nat.div_eq_zero_iff_lt (prN_pos h ht w)).mp h1
theorem sumN_congr {f g : Nat → Nat} : ∀ {n : Nat}, (∀ i, i < n → f i = g i) → sumN f n = sumN g n
  | 0, _ => rfl
  | n + 1, q => by
    unfold sumN
    rw [sumN_congr (n := n) (fun i hi => q i (by omega)), q n (by omega)]
theorem sumN_inc {f g : Nat → Nat} {c : Nat} (hc : g c = f c + 1) (ho : ∀ i, i ≠ c → g i = f i) : ∀ {n : Nat}, c < n → sumN g n = sumN f n + 1
  | 0, q => absurd q (Nat.not_lt_zero _)
  | n + 1, q => by
    unfold sumN
    by_cases e : c = n
    · subst e
      rw [sumN_congr (f := g) (g := f) (fun i hi => ho i (by omega)), hc]; omega
    · rw [sumN_inc hc ho (n := n) (by omega), ho n (by omega)]; omega
/-- how many stones more than at the root -/
def sdN (w h : Nat) (ht : Nat → Nat) (W0 : Nat) : Nat := sumN (dgN h ht W0) w
theorem sd_inc {w h : Nat} {ht : Nat → Nat} {W0 c : Nat} (hx : dgN h ht W0 c < h - ht c) (hc : c < w) : sdN w h ht (W0 + prN h ht c) = sdN w h ht W0 + 1 :=
  sumN_inc (c := c) (by rw [dg_inc hx, if_pos rfl]) (fun i hi => by rw [dg_inc hx, if_neg hi]) hc
/-- where the bits of a column stand -/
theorem of_eq {h : Nat} {ht : Nat → Nat} (hht : ∀ c, ht c ≤ h) (c : Nat) : ofN h ht (c + 1) = ofN h ht c + (h - ht c) := by
  have := hht c
  show ofN h ht c + h - ht c = _
  omega
theorem of_mono {h : Nat} {ht : Nat → Nat} (hht : ∀ c, ht c ≤ h) {c c' : Nat} (hc : c ≤ c') : ofN h ht c ≤ ofN h ht c' := by
  induction c' with
  | zero => rw [show c = 0 by omega]; exact Nat.le_refl _
  | succ k ih =>
    by_cases e : c = k + 1
    · rw [e]; exact Nat.le_refl _
    · have := ih (by omega)
      have := of_eq hht k
      omega
theorem of_inj {h : Nat} {ht : Nat → Nat} (hht : ∀ c, ht c ≤ h) {c c' i i' : Nat} (hi : i < h - ht c) (hi' : i' < h - ht c') (e : ofN h ht c + i = ofN h ht c' + i') : c = c' ∧ i = i' := by
  have h1 := of_eq hht c
  have h2 := of_eq hht c'
  by_cases q : c = c'
  · subst q; exact ⟨rfl, by omega⟩
  · rcases Nat.lt_or_gt_of_ne q with q | q
    · have := of_mono hht (show c + 1 ≤ c' by omega); omega
    · have := of_mono hht (show c' + 1 ≤ c by omega); omega
theorem of_emp {h : Nat} {ht : Nat → Nat} (hht : ∀ c, ht c ≤ h) : ∀ w, ofN h ht w = emp h ht w
  | 0 => rfl
  | w + 1 => by rw [of_eq hht, of_emp hht w]; rfl
theorem pr_le {h : Nat} {ht : Nat → Nat} : ∀ w, prN h ht w ≤ 2 ^ emp h ht w
  | 0 => Nat.le_refl 1
  | w + 1 => by
    have ih := pr_le (h := h) (ht := ht) w
    unfold prN emp
    rw [Nat.pow_add]
    exact Nat.mul_le_mul ih Nat.lt_two_pow_self
theorem pr_mono {h : Nat} {ht : Nat → Nat} {c w : Nat} (hc : c ≤ w) : prN h ht c ≤ prN h ht w := by
  obtain ⟨m, hm⟩ := prN_mul h ht hc
  have := prN_pos h ht w
  rw [hm] at this ⊢
  exact Nat.le_mul_of_pos_right _ (Nat.pos_of_mul_pos_left this)
theorem bit_div (b k : Nat) : b / 2 ^ k % 2 = if b.testBit k then 1 else 0 := by
  rw [Nat.testBit_eq_decide_div_mod_eq]
  by_cases e : b / 2 ^ k % 2 = 1
  · simp [e]
  · simp [e]; omega
/-- the bits of stones that are not there yet are 0 -/
def bOK (w h : Nat) (ht : Nat → Nat) (W0 b : Nat) : Prop := ∀ c, c < w → ∀ i, dgN h ht W0 c ≤ i → i < h - ht c → b.testBit (ofN h ht c + i) = false
theorem or_bit (b pl k j : Nat) (hpl : pl ≤ 1) : (b ||| pl * 2 ^ k).testBit j = (b.testBit j || (decide (j = k) && decide (pl = 1))) := by
  rw [Nat.testBit_or]
  congr 1
  obtain rfl | rfl : pl = 0 ∨ pl = 1 := by omega
  · simp
  · rw [Nat.one_mul, Nat.testBit_two_pow]
    by_cases e : j = k
    · simp [e]
    · simp [e]; omega
theorem bOK.inc {w h : Nat} {ht : Nat → Nat} (hht : ∀ c, ht c ≤ h) {W0 b c pl : Nat} (H : bOK w h ht W0 b) (hx : dgN h ht W0 c < h - ht c) (hpl : pl ≤ 1) : bOK w h ht (W0 + prN h ht c) (b ||| pl * 2 ^ (ofN h ht c + dgN h ht W0 c)) := by
  intro c' hc' i h1 h2
  rw [dg_inc hx] at h1
  rw [or_bit _ _ _ _ hpl]
  have f1 : b.testBit (ofN h ht c' + i) = false := H c' hc' i (by split at h1 <;> (try subst_vars) <;> omega) h2
  have f2 : ¬ ofN h ht c' + i = ofN h ht c + dgN h ht W0 c := fun e => by
    obtain ⟨e1, e2⟩ := of_inj hht h2 hx e
    rw [if_pos e1] at h1
    omega
  rw [f1, decide_eq_false f2]; rfl
/-- the array that shows an entry -/
def eS (w h : Nat) (B : Nat → Int32) (ht : Nat → Nat) (W0 b : Nat) : Nat → Int32 := shS h B ht (ofN h ht) W0 b B w
def tpE (h : Nat) (ht : Nat → Nat) (W0 : Nat) : Nat → Nat := fun c => ht c + dgN h ht W0 c
theorem sh_at {w h : Nat} (hw : w ≤ 9) {B Sn : Nat → Int32} {ht of_ : Nat → Nat} {W0 b c r : Nat} (hc : c < w) (hr : r < 7) (hof : of_ c = ofN h ht c) : shS h B ht of_ W0 b Sn w (7 * c + r) = if ht c ≤ r ∧ r < tpE h ht W0 c then nI (b / 2 ^ (ofN h ht c + (r - ht c)) % 2) else B (7 * c + r) := by
  have d1 : (7 * c + r) / 7 = c := by omega
  have d2 : (7 * c + r) % 7 = r := by omega
  unfold shS tpE
  rw [d1, d2]
  by_cases q : ht c ≤ r ∧ r < ht c + dgN h ht W0 c
  · rw [if_pos ⟨hc, q⟩, if_pos q, hof]
  · rw [if_neg (fun z => q z.2), if_neg q]
    unfold cpF
    rw [if_pos (by omega)]
theorem eS_at {w h : Nat} (hw : w ≤ 9) {B : Nat → Int32} {ht : Nat → Nat} {W0 b c r : Nat} (hc : c < w) (hr : r < 7) : eS w h B ht W0 b (7 * c + r) = if ht c ≤ r ∧ r < tpE h ht W0 c then nI (b / 2 ^ (ofN h ht c + (r - ht c)) % 2) else B (7 * c + r) := sh_at hw hc hr rfl
theorem eS_inc {w h : Nat} (hw : w ≤ 9) (hh : h ≤ 7) {B : Nat → Int32} {ht : Nat → Nat} (hht : ∀ c, ht c ≤ h) {W0 b c pl : Nat} (hb : bOK w h ht W0 b) (hc : c < w) (hx : dgN h ht W0 c < h - ht c) (hpl : pl ≤ 1) {c' r' : Nat} (hc' : c' < w) (hr' : r' < h) :
    eS w h B ht (W0 + prN h ht c) (b ||| pl * 2 ^ (ofN h ht c + dgN h ht W0 c)) (7 * c' + r') = if c' = c ∧ r' = tpE h ht W0 c then nI pl else eS w h B ht W0 b (7 * c' + r') := by
  rw [eS_at hw hc' (by omega), eS_at hw hc' (by omega)]
  have et : tpE h ht (W0 + prN h ht c) c' = if c' = c then tpE h ht W0 c' + 1 else tpE h ht W0 c' := by
    unfold tpE
    rw [dg_inc hx]
    by_cases e : c' = c
    · subst e; rw [if_pos rfl, if_pos rfl]; omega
    · rw [if_neg e, if_neg e]
  rw [et]
  by_cases e : c' = c ∧ r' = tpE h ht W0 c
  · obtain ⟨rfl, rfl⟩ := e
    rw [if_pos rfl, if_pos ⟨by unfold tpE; omega, by omega⟩, if_pos ⟨rfl, rfl⟩]
    have e2 : tpE h ht W0 c' - ht c' = dgN h ht W0 c' := by unfold tpE; omega
    rw [e2, bit_div, or_bit _ _ _ _ hpl, hb c' hc' _ (Nat.le_refl _) hx]
    obtain rfl | rfl : pl = 0 ∨ pl = 1 := by omega
    · simp
    · simp
  · rw [if_neg e]
    by_cases q : ht c' ≤ r' ∧ r' < tpE h ht W0 c'
    · rw [if_pos q, if_pos ⟨q.1, by split <;> omega⟩]
      have ne : ¬ ofN h ht c' + (r' - ht c') = ofN h ht c + dgN h ht W0 c := fun z => by
        have d2 := dgN_lt h ht W0 c'
        obtain ⟨e1, e2⟩ := of_inj hht (by unfold tpE at q; omega) hx z
        exact e ⟨e1, by unfold tpE; subst e1; omega⟩
      rw [bit_div, bit_div, or_bit _ _ _ _ hpl, decide_eq_false ne]
      simp
    · rw [if_neg q, if_neg (fun z => q ⟨z.1, by
        have z2 := z.2
        by_cases e1 : c' = c
        · rw [if_pos e1] at z2
          have : ¬ r' = tpE h ht W0 c := fun y => e ⟨e1, y⟩
          subst e1; omega
        · rw [if_neg e1] at z2; exact z2⟩)]
