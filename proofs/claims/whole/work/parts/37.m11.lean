-- ===== M11: the entries of the reference's table =====
def RootOK (w h : Nat) (B : Nat → Int32) (ht : Nat → Nat) (n E : Nat) : Prop :=
  Dm w h ∧ (∀ c, ht c ≤ h) ∧ (∀ c r, c < w → ht c ≤ r → r < h → B (7 * c + r) = -1) ∧ PosOK w h E ht (stO w h B (nI (n % 2))) (stO w h B (nI (1 - n % 2))) ∧ E ≤ 12
def MP (w h : Nat) (B : Nat → Int32) (ht : Nat → Nat) (p W0 b : Nat) : Sq := stO w h (eS w h B ht W0 b) (nI p)
def btN (b i : Nat) : Nat := if b.testBit i then 1 else 0
def EntOK (w h : Nat) (B : Nat → Int32) (ht : Nat → Nat) (n E k W0 b : Nat) : Prop :=
  W0 < prN h ht w ∧ sdN w h ht W0 = k ∧ bOK w h ht W0 b ∧ b < 2 ^ E ∧ sumN (btN b) E = sumN (fun i => (n + i) % 2) k ∧ PosOK w h (E - k) (tpE h ht W0) (MP w h B ht ((n + k) % 2) W0 b) (MP w h B ht (1 - (n + k) % 2) W0 b)
theorem PosOK_congr {w h k : Nat} {tp tp' : Nat → Nat} {M T : Sq} (e : ∀ c, c < w → tp c = tp' c) (H : PosOK w h k tp M T) : PosOK w h k tp' M T := by
  obtain ⟨h1, h2, h3, h4, h5, h6⟩ := H
  refine ⟨fun c hc => by rw [← e c hc]; exact h1 c hc, fun c r => ?_, h3, h4, h5, by rw [h6, emp_congr e]⟩
  rw [h2 c r]
  by_cases hc : c < w
  · rw [e c hc]
  · simp [hc]
theorem nI01 {a b : Nat} (ha : a ≤ 1) (hb : b ≤ 1) : nI a = nI b ↔ a = b := nI_eq (by omega) (by omega)
theorem nI_m1 {a : Nat} (ha : a ≤ 1) : ¬ (-1 : Int32) = nI a := by
  obtain rfl | rfl : a = 0 ∨ a = 1 := by omega
  · decide
  · decide
theorem eS_up {w h : Nat} {B : Nat → Int32} {ht : Nat → Nat} {n E : Nat} (R : RootOK w h B ht n E) {W0 b c r : Nat} (hc : c < w) (hr : r < h) (ht2 : tpE h ht W0 c ≤ r) : eS w h B ht W0 b (7 * c + r) = -1 := by
  obtain ⟨hd, h1, h2, -, -⟩ := R
  have hh := hd.2.2.2.1
  rw [eS_at hd.2.1 hc (by omega), if_neg (fun z => absurd z.2 (by omega))]
  exact h2 c r hc (by unfold tpE at ht2; omega) hr
theorem MP_same {w h : Nat} (hw : w ≤ 9) (hh : h ≤ 7) {B Sn : Nat → Int32} {ht of_ : Nat → Nat} {W0 b p : Nat} (hof : ∀ c, c < w → of_ c = ofN h ht c) : stO w h (shS h B ht of_ W0 b Sn w) (nI p) = MP w h B ht p W0 b := by
  funext c r
  unfold MP stO
  by_cases hc : c < w
  · by_cases hr : r < h
    · rw [sh_at hw hc (by omega) (hof c hc), eS_at hw hc (by omega)]
    · simp [hr]
  · simp [hc]
/-- the reference sees a winning drop of an entry just where it is -/
theorem ent_win {w h : Nat} {B : Nat → Int32} {ht : Nat → Nat} {n E : Nat} (R : RootOK w h B ht n E) {Sn : Nat → Int32} {of_ : Nat → Nat} (hof : ∀ c, c < w → of_ c = ofN h ht c) {W0 b p c : Nat} (hp : p ≤ 1) (hno : ¬ hasL w h (MP w h B ht p W0 b)) (hc : c < w) (hr : tpE h ht W0 c < h) :
    wnB w h (upd (shS h B ht of_ W0 b Sn w) (7 * c + tpE h ht W0 c) (nI p)) c (tpE h ht W0 c) = true ↔ hasL w h (sq_put (MP w h B ht p W0 b) c (tpE h ht W0 c)) := by
  have hd := R.1
  have hw := hd.2.1
  have hh := hd.2.2.2.1
  have e := MP_same (p := p) hw hh (B := B) (Sn := Sn) (W0 := W0) (b := b) hof
  rw [← e] at hno ⊢
  refine wn_iff hw hh hc hr (fun r' h1 h2 => ?_) hno
  have h3 := eS_up R (b := b) hc h2 h1
  rw [eS_at hw hc (by omega)] at h3
  rw [sh_at hw hc (by omega) (hof c hc), h3]
  exact nI_m1 hp
theorem ent_seen {w h : Nat} {B : Nat → Int32} {ht : Nat → Nat} {n E : Nat} (R : RootOK w h B ht n E) {Sn : Nat → Int32} {of_ : Nat → Nat} (hof : ∀ c, c < w → of_ c = ofN h ht c) {W0 b c : Nat} (hc : c < w) (hr : tpE h ht W0 c < h) : shS h B ht of_ W0 b Sn w (7 * c + tpE h ht W0 c) = -1 := by
  have hd := R.1
  have hh := hd.2.2.2.1
  have h3 := eS_up R (b := b) hc hr (Nat.le_refl _)
  rw [eS_at hd.2.1 hc (by omega)] at h3
  rw [sh_at hd.2.1 hc (by omega) (hof c hc), h3]
theorem MP_child {w h : Nat} {B : Nat → Int32} {ht : Nat → Nat} {n E : Nat} (R : RootOK w h B ht n E) {W0 b c pl p : Nat} (hb : bOK w h ht W0 b) (hc : c < w) (hr : tpE h ht W0 c < h) (hpl : pl ≤ 1) (hp : p ≤ 1) :
    MP w h B ht p (W0 + prN h ht c) (b ||| pl * 2 ^ (ofN h ht c + dgN h ht W0 c)) = if p = pl then sq_put (MP w h B ht p W0 b) c (tpE h ht W0 c) else MP w h B ht p W0 b := by
  have hd := R.1
  have hw := hd.2.1
  have hh := hd.2.2.2.1
  have hx : dgN h ht W0 c < h - ht c := by unfold tpE at hr; omega
  have hold := eS_up R (b := b) hc hr (Nat.le_refl _)
  have step : ∀ c' r', MP w h B ht p (W0 + prN h ht c) (b ||| pl * 2 ^ (ofN h ht c + dgN h ht W0 c)) c' r' = if c' = c ∧ r' = tpE h ht W0 c then decide (pl = p) else MP w h B ht p W0 b c' r' := by
    intro c' r'
    unfold MP stO
    by_cases hc' : c' < w
    · by_cases hr' : r' < h
      · rw [eS_inc hw hh R.2.1 hb hc hx hpl hc' hr']
        by_cases e : c' = c ∧ r' = tpE h ht W0 c
        · rw [if_pos e, if_pos e]; simp [hc', hr', nI01 hpl hp]
        · rw [if_neg e, if_neg e]
      · rw [if_neg (fun z => hr' (by rw [z.2]; exact hr))]; simp [hr']
    · rw [if_neg (fun z => hc' (by rw [z.1]; exact hc))]; simp [hc']
  funext c' r'
  rw [step c' r']
  by_cases ep : p = pl
  · subst ep
    rw [if_pos rfl]
    unfold sq_put
    by_cases e : c' = c ∧ r' = tpE h ht W0 c
    · rw [if_pos e]; simp [e.1, e.2]
    · rw [if_neg e]
      have : (c' == c && r' == tpE h ht W0 c) = false := by
        by_cases e1 : c' = c
        · have : ¬ r' = tpE h ht W0 c := fun z => e ⟨e1, z⟩
          simp [this]
        · simp [e1]
      rw [this, Bool.or_false]
  · rw [if_neg ep]
    by_cases e : c' = c ∧ r' = tpE h ht W0 c
    · rw [if_pos e, decide_eq_false (fun z => ep z.symm)]
      obtain ⟨rfl, rfl⟩ := e
      unfold MP stO
      rw [hold, decide_eq_false (nI_m1 hp)]; simp
    · rw [if_neg e]
theorem tpE_child {w h : Nat} {ht : Nat → Nat} {W0 c : Nat} (hx : dgN h ht W0 c < h - ht c) : ∀ c', tpE h ht (W0 + prN h ht c) c' = tp_inc (tpE h ht W0) c c' := by
  intro c'
  unfold tpE tp_inc
  rw [dg_inc hx]
  by_cases e : c' = c
  · subst e; rw [if_pos rfl, if_pos rfl]; exact (Nat.add_assoc _ _ _).symm
  · rw [if_neg e, if_neg e]
theorem sumN_bit {b pl k : Nat} (hpl : pl ≤ 1) (hk : b.testBit k = false) : ∀ {E : Nat}, k < E → sumN (btN (b ||| pl * 2 ^ k)) E = sumN (btN b) E + pl
  | 0, q => absurd q (Nat.not_lt_zero _)
  | E + 1, q => by
    unfold sumN
    have one : ∀ i, btN (b ||| pl * 2 ^ k) i = if i = k then pl else btN b i := by
      intro i
      unfold btN
      rw [or_bit _ _ _ _ hpl]
      by_cases e : i = k
      · subst e
        rw [if_pos rfl, hk]
        obtain rfl | rfl : pl = 0 ∨ pl = 1 := by omega
        · simp
        · simp
      · rw [if_neg e]; simp [e]
    by_cases e : k = E
    · subst e
      rw [sumN_congr (f := btN (b ||| pl * 2 ^ k)) (g := btN b) (fun i hi => by rw [one, if_neg (by omega)]), one, if_pos rfl]
      have : btN b k = 0 := by unfold btN; rw [hk]; rfl
      omega
    · rw [sumN_bit hpl hk (E := E) (by omega), one, if_neg (by omega)]; omega
theorem EntOK.move {w h : Nat} {B : Nat → Int32} {ht : Nat → Nat} {n E k W0 b : Nat} (H : EntOK w h B ht n E k W0 b) {c : Nat} (hc : c < w) (hr : tpE h ht W0 c < h) : k < E := by
  have h1 := H.2.2.2.2.2.2.2.2.2.2
  have h2 := emp_some (h := h) (tp := tpE h ht W0) hr hc
  omega
/-- a drop that does not win leads to an entry of the next layer -/
theorem EntOK.child {w h : Nat} {B : Nat → Int32} {ht : Nat → Nat} {n E k W0 b : Nat} (R : RootOK w h B ht n E) (H : EntOK w h B ht n E k W0 b) {c : Nat} (hc : c < w) (hr : tpE h ht W0 c < h) (hl : ¬ hasL w h (sq_put (MP w h B ht ((n + k) % 2) W0 b) c (tpE h ht W0 c))) :
    EntOK w h B ht n E (k + 1) (W0 + prN h ht c) (b ||| ((n + k) % 2) * 2 ^ (ofN h ht c + dgN h ht W0 c)) := by
  have hk := H.move hc hr
  obtain ⟨h1, h2, h3, h4, h5, h6⟩ := H
  have hht := R.2.1
  have hpl : (n + k) % 2 ≤ 1 := by omega
  have hx : dgN h ht W0 c < h - ht c := by unfold tpE at hr; omega
  have hE : ofN h ht w = E := by rw [of_emp hht]; exact R.2.2.2.1.2.2.2.2.2.symm
  have hoc : ofN h ht c + dgN h ht W0 c < E := by
    have := of_mono hht (show c + 1 ≤ w by omega)
    rw [of_eq hht] at this
    omega
  have hE12 := R.2.2.2.2
  have hz : b.testBit (ofN h ht c + dgN h ht W0 c) = false := h3 c hc _ (Nat.le_refl _) hx
  refine ⟨W_lt hx hc h1, by rw [sd_inc hx hc, h2], h3.inc hht hx hpl, ?_, ?_, ?_⟩
  · refine Nat.or_lt_two_pow h4 ?_
    have : 2 ^ (ofN h ht c + dgN h ht W0 c) < 2 ^ E := Nat.pow_lt_pow_right (by decide) hoc
    exact Nat.lt_of_le_of_lt (Nat.le_trans (Nat.mul_le_mul_right _ hpl) (Nat.le_of_eq (Nat.one_mul _))) this
  · rw [sumN_bit hpl hz hoc, h5]
    rfl
  · obtain ⟨k', e⟩ : ∃ k', E - k = k' + 1 := ⟨E - k - 1, by omega⟩
    rw [e] at h6
    have C := h6.child hc hr hl
    have C2 := PosOK_congr (tp' := tpE h ht (W0 + prN h ht c)) (fun c' _ => (tpE_child (w := w) hx c').symm) C
    have e1 : (n + (k + 1)) % 2 = 1 - (n + k) % 2 := by omega
    have e2 : 1 - (n + (k + 1)) % 2 = (n + k) % 2 := by omega
    rw [show E - (k + 1) = k' by omega, e1, show 1 - (1 - (n + k) % 2) = (n + k) % 2 by omega]
    rw [MP_child R h3 hc hr hpl (show 1 - (n + k) % 2 ≤ 1 by omega), MP_child R h3 hc hr hpl hpl, if_neg (by omega), if_pos rfl]
    exact C2
theorem dgN_0 (h : Nat) (ht : Nat → Nat) (c : Nat) : dgN h ht 0 c = 0 := by simp [dgN]
theorem MP_root {w h : Nat} (hw : w ≤ 9) (hh : h ≤ 7) {B : Nat → Int32} {ht : Nat → Nat} {p : Nat} : MP w h B ht p 0 0 = stO w h B (nI p) := by
  funext c r
  unfold MP stO
  by_cases hc : c < w
  · by_cases hr : r < h
    · rw [eS_at hw hc (by omega), if_neg (fun z => absurd z.2 (by unfold tpE; rw [dgN_0]; omega))]
    · simp [hr]
  · simp [hc]
theorem EntOK.root {w h : Nat} {B : Nat → Int32} {ht : Nat → Nat} {n E : Nat} (R : RootOK w h B ht n E) : EntOK w h B ht n E 0 0 0 := by
  have hd := R.1
  refine ⟨prN_pos h ht w, ?_, fun c _ i _ _ => Nat.zero_testBit _, Nat.two_pow_pos E, ?_, ?_⟩
  · unfold sdN
    have : ∀ m, sumN (dgN h ht 0) m = 0 := by
      intro m
      induction m with
      | zero => rfl
      | succ m ih => unfold sumN; rw [ih, dgN_0]
    exact this w
  · have : ∀ m, sumN (btN 0) m = 0 := by
      intro m
      induction m with
      | zero => rfl
      | succ m ih => unfold sumN; rw [ih]; simp [btN]
    rw [this]; rfl
  · rw [MP_root hd.2.1 hd.2.2.2.1, MP_root hd.2.1 hd.2.2.2.1]
    exact PosOK_congr (fun c _ => by unfold tpE; rw [dgN_0]; rfl) R.2.2.2.1
/-- the reference's value of a score, with left squares empty -/
def s2v (left : Nat) (S : Int) : Int := if 0 < S then (left : Int) + 1 - S else if S < 0 then -((left : Int) + 1 + S) else 0
theorem tu_s2v {L : Nat} {S : Int} (h1 : -(L : Int) ≤ S) (h2 : S ≤ L) : tuZ (s2v L S) = s2v (L + 1) (-S) := by
  unfold s2v tuZ
  by_cases q : 0 < S
  · rw [if_pos q, if_pos (by omega), if_neg (by omega), if_pos (by omega)]; omega
  · by_cases q2 : S < 0
    · rw [if_neg q, if_pos q2, if_neg (by omega), if_pos (by omega), if_pos (by omega)]; omega
    · rw [if_neg q, if_neg q2]
      rw [if_neg (by omega), if_neg (by omega), if_neg (by omega), if_neg (by omega)]
theorem s2v_bd {L : Nat} {S : Int} (h1 : -(L : Int) ≤ S) (h2 : S ≤ L) : -((L : Int) + 1) ≤ s2v L S ∧ s2v L S ≤ (L : Int) + 1 := by
  unfold s2v
  split
  · omega
  · split <;> omega
theorem rk_s2v {L : Nat} {a b : Int} (hL : L ≤ 100) (h1 : -(L : Int) ≤ a) (h2 : a ≤ L) (h3 : -(L : Int) ≤ b) (h4 : b ≤ L) : rkZ (s2v L a) < rkZ (s2v L b) ↔ a < b := by
  unfold s2v rkZ
  by_cases qa : 0 < a <;> by_cases qb : 0 < b <;> by_cases ra : a < 0 <;> by_cases rb : b < 0 <;> (try omega) <;> simp only [qa, qb, ra, rb, if_true, if_false] <;> (repeat' split) <;> omega
theorem s2v_inj {L : Nat} {a b : Int} (hL : L ≤ 100) (h1 : -(L : Int) ≤ a) (h2 : a ≤ L) (h3 : -(L : Int) ≤ b) (h4 : b ≤ L) : s2v L a = s2v L b ↔ a = b := by
  constructor
  · intro e
    have q1 := rk_s2v hL h1 h2 h3 h4
    have q2 := rk_s2v hL h3 h4 h1 h2
    rw [e] at q1 q2
    omega
  · intro e; rw [e]
