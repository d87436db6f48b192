-- ===== M6: positions and what they are worth =====
/-- the number of empty squares of the first n columns -/
def emp (h : Nat) (tp : Nat → Nat) : Nat → Nat
  | 0 => 0
  | n + 1 => emp h tp n + (h - tp n)
theorem emp_pos {h : Nat} {tp : Nat → Nat} : ∀ {n : Nat}, 0 < emp h tp n → ∃ c, c < n ∧ tp c < h
  | 0, q => absurd q (Nat.lt_irrefl 0)
  | n + 1, q => by
    unfold emp at q
    by_cases e : tp n < h
    · exact ⟨n, by omega, e⟩
    · obtain ⟨c, h1, h2⟩ := emp_pos (h := h) (tp := tp) (n := n) (by omega)
      exact ⟨c, by omega, h2⟩
theorem emp_some {h : Nat} {tp : Nat → Nat} {c : Nat} (hc : tp c < h) : ∀ {n : Nat}, c < n → 0 < emp h tp n
  | 0, q => absurd q (Nat.not_lt_zero _)
  | n + 1, q => by
    unfold emp
    by_cases e : c = n
    · subst e; omega
    · have := emp_some hc (n := n) (by omega); omega
theorem emp_congr {h : Nat} {tp tp' : Nat → Nat} : ∀ {n : Nat}, (∀ c, c < n → tp c = tp' c) → emp h tp n = emp h tp' n
  | 0, _ => rfl
  | n + 1, q => by
    unfold emp
    rw [emp_congr (n := n) (fun c hc => q c (by omega)), q n (by omega)]
theorem emp_inc {h : Nat} {tp : Nat → Nat} {c : Nat} (hc : tp c < h) : ∀ {n : Nat}, c < n → emp h (tp_inc tp c) n + 1 = emp h tp n
  | 0, q => absurd q (Nat.not_lt_zero _)
  | n + 1, q => by
    unfold emp
    by_cases e : c = n
    · subst e
      rw [emp_congr (tp' := tp) (fun k hk => by unfold tp_inc; rw [if_neg (by omega)])]
      have : tp_inc tp c c = tp c + 1 := if_pos rfl
      rw [this]; omega
    · have h1 := emp_inc hc (n := n) (by omega)
      have h2 : tp_inc tp c n = tp n := if_neg (by omega)
      rw [h2]; omega
/-- a position that nobody has won: k squares are empty, tp their columns' heights, M the stones of the one whose turn it is -/
def PosOK (w h k : Nat) (tp : Nat → Nat) (M T : Sq) : Prop :=
  (∀ c, c < w → tp c ≤ h) ∧ grav w tp (fun c r => M c r || T c r) ∧ (∀ c r, M c r = true → T c r = false) ∧ ¬ hasL w h M ∧ ¬ hasL w h T ∧ k = emp h tp w
theorem put_at {M : Sq} {c r c' r' : Nat} : sq_put M c r c' r' = true ↔ M c' r' = true ∨ (c' = c ∧ r' = r) := by simp [sq_put]
theorem PosOK.child {w h k : Nat} {tp : Nat → Nat} {M T : Sq} (H : PosOK w h (k + 1) tp M T) {c : Nat} (hc : c < w) (hr : tp c < h) (hl : ¬ hasL w h (sq_put M c (tp c))) : PosOK w h k (tp_inc tp c) T (sq_put M c (tp c)) := by
  obtain ⟨h1, h2, h3, h4, h5, h6⟩ := H
  have hT : ∀ c r, T c r = true → r < tp c := fun c r q => by
    have this : (M c r || T c r) = (decide (c < w) && decide (r < tp c)) := h2 c r
    rw [q] at this
    simp at this
    exact this.2
  refine ⟨fun c' hc' => ?_, fun c' r' => ?_, fun c' r' q => ?_, h5, hl, ?_⟩
  · unfold tp_inc
    split
    · rename_i e; subst e; omega
    · exact h1 c' hc'
  · have this : (M c' r' || T c' r') = (decide (c' < w) && decide (r' < tp c')) := h2 c' r'
    show (T c' r' || sq_put M c (tp c) c' r') = _
    unfold sq_put tp_inc
    rw [← Bool.or_assoc, Bool.or_comm (T c' r'), this]
    by_cases e : c' = c
    · subst e
      simp only [hc, decide_true, Bool.true_and, if_true, beq_self_eq_true]
      by_cases e2 : r' < tp c'
      · simp [e2, show r' < tp c' + 1 by omega]
      · by_cases e3 : r' = tp c'
        · simp [e3]
        · simp [e2, e3, show ¬ r' < tp c' + 1 by omega]
    · simp [e]
  · cases q2 : sq_put M c (tp c) c' r'
    · rfl
    · rcases put_at.mp q2 with q3 | ⟨rfl, rfl⟩
      · have := h3 c' r' q3
        rw [q] at this; cases this
      · exact absurd (hT _ _ q) (Nat.lt_irrefl _)
  · have := emp_inc (h := h) hr (n := w) hc
    omega
theorem PosOK.move {w h k : Nat} {tp : Nat → Nat} {M T : Sq} (H : PosOK w h (k + 1) tp M T) : ∃ c, c < w ∧ tp c < h := emp_pos (by have := H.2.2.2.2.2; omega)
/-- a drop that wins at once -/
def winsAt (w h : Nat) (tp : Nat → Nat) (M : Sq) (c : Nat) : Prop := c < w ∧ tp c < h ∧ hasL w h (sq_put M c (tp c))
theorem Sc_win {w h k : Nat} {tp : Nat → Nat} {M T : Sq} {c : Nat} (hw : winsAt w h tp M c) : Sc w h (k + 1) tp M T = (k : Int) + 1 := by
  have h1 := Sc_ge (k := k) (M := M) (T := T) hw.1 hw.2.1
  rw [Mv_win hw.2.2] at h1
  have h2 := (Sc_bd w h (k + 1) tp M T).2
  omega
/-- the best that one can hope for who cannot win at once -/
theorem Sc_most {w h k : Nat} {tp : Nat → Nat} {M T : Sq} (H : PosOK w h (k + 1) tp M T) (hn : ∀ c, ¬ winsAt w h tp M c) (hk : 1 ≤ k) : Sc w h (k + 1) tp M T ≤ (k : Int) - 1 := by
  obtain ⟨c, hc, hr, e⟩ := Sc_is (k := k) (M := M) (T := T) H.move
  have hl : ¬ hasL w h (sq_put M c (tp c)) := fun q => hn c ⟨hc, hr, q⟩
  have C := H.child hc hr hl
  obtain ⟨k', rfl⟩ : ∃ k', k = k' + 1 := ⟨k - 1, by omega⟩
  rw [e, Mv_go hl]
  have := Sc_lt (k := k') (M := T) (T := sq_put M c (tp c)) C.move
  omega
/-- a bad drop: the other one wins at once -/
def badAt (w h : Nat) (tp : Nat → Nat) (T : Sq) (c : Nat) : Prop := ∃ c', winsAt w h (tp_inc tp c) T c'
theorem Mv_bad {w h k : Nat} {tp : Nat → Nat} {M T : Sq} (H : PosOK w h (k + 1) tp M T) (hn : ∀ c, ¬ winsAt w h tp M c) {c : Nat} (hc : c < w) (hr : tp c < h) (hu : badAt w h tp T c) : Mv w h k tp M T c = -(k : Int) := by
  have hl : ¬ hasL w h (sq_put M c (tp c)) := fun q => hn c ⟨hc, hr, q⟩
  have C := H.child hc hr hl
  obtain ⟨c', hw⟩ := hu
  have hk : 0 < k := by
    rw [C.2.2.2.2.2]
    exact emp_some hw.2.1 hw.1
  obtain ⟨k', rfl⟩ : ∃ k', k = k' + 1 := ⟨k - 1, by omega⟩
  rw [Mv_go hl, Sc_win hw]
  omega
theorem Sc_lost {w h k : Nat} {tp : Nat → Nat} {M T : Sq} (H : PosOK w h (k + 1) tp M T) (hn : ∀ c, ¬ winsAt w h tp M c) (hu : ∀ c, c < w → tp c < h → badAt w h tp T c) : Sc w h (k + 1) tp M T = -(k : Int) := by
  obtain ⟨c, hc, hr, e⟩ := Sc_is (k := k) (M := M) (T := T) H.move
  rw [e]
  exact Mv_bad H hn hc hr (hu c hc hr)
/-- where a safe drop is, the score is that of the best safe drop -/
theorem Sc_safe {w h k : Nat} {tp : Nat → Nat} {M T : Sq} (H : PosOK w h (k + 1) tp M T) (hn : ∀ c, ¬ winsAt w h tp M c) {c0 : Nat} (hc0 : c0 < w) (hr0 : tp c0 < h) (hs0 : ¬ badAt w h tp T c0) : ∃ c, c < w ∧ tp c < h ∧ ¬ badAt w h tp T c ∧ Sc w h (k + 1) tp M T = Mv w h k tp M T c := by
  obtain ⟨c, hc, hr, e⟩ := Sc_is (k := k) (M := M) (T := T) H.move
  by_cases hu : badAt w h tp T c
  · rw [Mv_bad H hn hc hr hu] at e
    have h1 := Sc_ge (k := k) (M := M) (T := T) hc0 hr0
    have h2 := (Mv_bd w h k tp M T c0).1
    exact ⟨c0, hc0, hr0, hs0, by omega⟩
  · exact ⟨c, hc, hr, hu, e⟩
theorem Sc_least {w h k : Nat} {tp : Nat → Nat} {M T : Sq} (H : PosOK w h (k + 1) tp M T) (hn : ∀ c, ¬ winsAt w h tp M c) {c0 : Nat} (hc0 : c0 < w) (hr0 : tp c0 < h) (hs0 : ¬ badAt w h tp T c0) (hk : 2 ≤ k) : 2 - (k : Int) ≤ Sc w h (k + 1) tp M T := by
  have hl : ¬ hasL w h (sq_put M c0 (tp c0)) := fun q => hn c0 ⟨hc0, hr0, q⟩
  have C := H.child hc0 hr0 hl
  have h1 := Sc_ge (k := k) (M := M) (T := T) hc0 hr0
  rw [Mv_go hl] at h1
  obtain ⟨k', rfl⟩ : ∃ k', k = k' + 1 := ⟨k - 1, by omega⟩
  have h2 := Sc_most C (fun c q => hs0 ⟨c, q⟩) (by omega)
  omega
theorem Sc_few {w h k : Nat} {tp : Nat → Nat} {M T : Sq} (H : PosOK w h (k + 1) tp M T) (hn : ∀ c, ¬ winsAt w h tp M c) {c0 : Nat} (hc0 : c0 < w) (hr0 : tp c0 < h) (hs0 : ¬ badAt w h tp T c0) (hk : k ≤ 1) : Sc w h (k + 1) tp M T = 0 := by
  obtain ⟨c, hc, hr, hs, e⟩ := Sc_safe H hn hc0 hr0 hs0
  have hl : ¬ hasL w h (sq_put M c (tp c)) := fun q => hn c ⟨hc, hr, q⟩
  have C := H.child hc hr hl
  rw [e, Mv_go hl]
  obtain rfl | rfl : k = 0 ∨ k = 1 := by omega
  · rfl
  · obtain ⟨c2, hc2, hr2, e2⟩ := Sc_is (k := 0) (M := T) (T := sq_put M c (tp c)) C.move
    have hl2 : ¬ hasL w h (sq_put T c2 (tp_inc tp c c2)) := fun q => hs ⟨c2, hc2, hr2, q⟩
    rw [e2, Mv_go hl2]
    rfl
/-- one whose lines are all stopped never wins -/
theorem Sc_stop {w h : Nat} : ∀ (k : Nat) (tp : Nat → Nat) (M T : Sq), PosOK w h k tp M T → (¬ hasL w h (fun c r => onB w h c r && !T c r) → Sc w h k tp M T ≤ 0) ∧ (¬ hasL w h (fun c r => onB w h c r && !M c r) → 0 ≤ Sc w h k tp M T)
  | 0, tp, M, T, _ => ⟨fun _ => Int.le_refl _, fun _ => Int.le_refl _⟩
  | k + 1, tp, M, T, H => by
    have H0 := H
    obtain ⟨h1, h2, h3, h4, h5, h6⟩ := H0
    have hin : ∀ c r, (M c r = true ∨ T c r = true) → c < w ∧ r < tp c := fun c r q => by
      have this : (M c r || T c r) = (decide (c < w) && decide (r < tp c)) := h2 c r
      have q2 : (M c r || T c r) = true := by rcases q with q | q <;> simp [q]
      rw [q2] at this
      simpa using this.symm
    have mono : ∀ {A B : Sq}, (∀ c r, A c r = true → B c r = true) → hasL w h A → hasL w h B := by
      rintro A B q ⟨way, c, r, a1, a2, a3⟩
      exact ⟨way, c, r, a1, a2, fun i hi => q _ _ (a3 i hi)⟩
    have nowin : ∀ c, c < w → tp c < h → ¬ hasL w h (fun c r => onB w h c r && !T c r) → ¬ hasL w h (sq_put M c (tp c)) := by
      intro c hc hr hs q
      refine hs (mono (fun c' r' e => ?_) q)
      rcases put_at.mp e with e | ⟨rfl, rfl⟩
      · obtain ⟨a1, a2⟩ := hin c' r' (Or.inl e)
        have a3 := h3 c' r' e
        have a4 := h1 c' a1
        simp [onB, a1, a3]; omega
      · have a3 : T c' (tp c') = false := by
          cases q2 : T c' (tp c')
          · rfl
          · exact absurd (hin _ _ (Or.inr q2)).2 (Nat.lt_irrefl _)
        simp [onB, hc, hr, a3]
    constructor
    · intro hs
      obtain ⟨c, hc, hr, e⟩ := Sc_is (k := k) (M := M) (T := T) H.move
      have hl := nowin c hc hr hs
      rw [e, Mv_go hl]
      have := (Sc_stop k (tp_inc tp c) T (sq_put M c (tp c)) (H.child hc hr hl)).2 hs
      omega
    · intro hs
      obtain ⟨c, hc, hr⟩ := H.move
      have h7 := Sc_ge (k := k) (M := M) (T := T) hc hr
      by_cases hl : hasL w h (sq_put M c (tp c))
      · rw [Mv_win hl] at h7; omega
      · rw [Mv_go hl] at h7
        have := (Sc_stop k (tp_inc tp c) T (sq_put M c (tp c)) (H.child hc hr hl)).1 (fun q => hs (mono (fun c' r' e => by
          simp only [Bool.and_eq_true, Bool.not_eq_true'] at e ⊢
          refine ⟨e.1, ?_⟩
          cases q2 : M c' r'
          · rfl
          · have := e.2
            unfold sq_put at this
            rw [q2] at this; simp at this) q))
        omega
/-- the two longs of a position -/
def Pos (w h k : Nat) (tp : Nat → Nat) (M T : Sq) (m t : Int64) : Prop := Rep w h m M ∧ Rep w h t T ∧ PosOK w h k tp M T
theorem Pos.win {w h k : Nat} (hd : Dm w h) {tp : Nat → Nat} {M T : Sq} {m t : Int64} (H : Pos w h k tp M T m t) : ¬ (thL w h m (m ||| t) &&& nxL w h (m ||| t)) = 0 ↔ ∃ c, winsAt w h tp M c := by
  obtain ⟨Hm, Ht, h1, h2, h3, h4, h5, h6⟩ := H
  have HU := Hm.or Ht
  have Hn := Rep.nx hd h1 HU h2
  constructor
  · intro q
    obtain ⟨i, -, e⟩ := nz_bit q
    obtain ⟨c, r, hr, rfl⟩ := ix_of h i
    rw [tb_and, Bool.and_eq_true, th_bit hd Hm HU h4 hr, Hn.1 c r hr] at e
    obtain ⟨⟨a1, a2, a3, a4⟩, a5⟩ := e
    simp only [nxS, Bool.and_eq_true, decide_eq_true_eq] at a5
    obtain ⟨b1, b2, b3⟩ := a5
    subst b3
    exact ⟨c, b1, b2, a4⟩
  · rintro ⟨c, hc, hr, hl⟩
    refine bit_nz (i := ix h c (tp c)) ?_
    rw [tb_and, Bool.and_eq_true, th_bit hd Hm HU h4 (Nat.le_of_lt hr), Hn.1 c _ (Nat.le_of_lt hr)]
    refine ⟨⟨hc, hr, ?_, hl⟩, by simp [nxS, hc, hr]⟩
    have this : (M c (tp c) || T c (tp c)) = (decide (c < w) && decide (tp c < tp c)) := h2 c (tp c)
    show (M c (tp c) || T c (tp c)) = false
    rw [this]; simp
