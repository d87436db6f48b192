-- ===== M8: what the search keeps, and its steps =====
theorem bestOf_congr {ok ok' : Nat → Bool} {v v' : Nat → Int} {lo : Int} : ∀ {n : Nat}, (∀ c, c < n → ok c = ok' c ∧ v c = v' c) → bestOf ok v lo n = bestOf ok' v' lo n
  | 0, _ => rfl
  | n + 1, h => by
    unfold bestOf
    rw [bestOf_congr (n := n) (fun c hc => h c (by omega)), (h n (by omega)).1, (h n (by omega)).2]
theorem Sc_congr {w h : Nat} : ∀ (k : Nat) {tp tp' : Nat → Nat} {M T : Sq}, (∀ c, c < w → tp c = tp' c) → Sc w h k tp M T = Sc w h k tp' M T
  | 0, _, _, _, _, _ => rfl
  | k + 1, tp, tp', M, T, e => by
    rw [Sc_succ, Sc_succ]
    refine bestOf_congr (fun c hc => ⟨by rw [e c hc], ?_⟩)
    unfold Mv
    rw [← e c hc]
    by_cases hl : hasL w h (sq_put M c (tp c))
    · rw [if_pos hl, if_pos hl]
    · rw [if_neg hl, if_neg hl, Sc_congr k (tp := tp_inc tp c) (tp' := tp_inc tp' c) (fun c' hc' => by unfold tp_inc; rw [e c' hc'])]
theorem emp_le {h : Nat} {tp : Nat → Nat} : ∀ n, emp h tp n ≤ n * h
  | 0 => by simp [emp]
  | n + 1 => by
    have := emp_le (h := h) (tp := tp) n
    unfold emp
    rw [Nat.succ_mul]; omega
abbrev Mem : Type := (Nat → Int64) × (Nat → Int32) × (Nat → Int32)
/-- what is remembered is true -/
def MemOK (w h : Nat) (u : Mem) : Prop := ∀ j, j < 1024 → ∀ (k : Nat) (tp : Nat → Nat) (M T : Sq) (m t : Int64), Pos w h k tp M T m t → keyL w h m t = u.1 j →
  ∃ z1 z2 : Int, u.2.1 j = zI z1 ∧ u.2.2 j = zI z2 ∧ z1 ≤ Sc w h k tp M T ∧ Sc w h k tp M T ≤ z2 ∧ -64 ≤ z1 ∧ z2 ≤ 64
theorem MemOK.new {w h : Nat} (hd : Dm w h) (f g : Nat → Int32) : MemOK w h (fun _ => 0, f, g) := by
  intro j hj k tp M T m t H e
  exact absurd e (key_nz hd H.2.2.1 H.1 H.2.1 H.2.2.2.1)
theorem MemOK.keep {w h : Nat} (hd : Dm w h) {u : Mem} (hu : MemOK w h u) {k : Nat} {tp : Nat → Nat} {M T : Sq} {m t : Int64} (H : Pos w h k tp M T m t) {z1 z2 : Int} (h1 : z1 ≤ Sc w h k tp M T) (h2 : Sc w h k tp M T ≤ z2) (h3 : -64 ≤ z1) (h4 : z2 ≤ 64) :
    MemOK w h (vp_updL u.1 (slN (keyL w h m t)) (keyL w h m t), upd u.2.1 (slN (keyL w h m t)) (zI z1), upd u.2.2 (slN (keyL w h m t)) (zI z2)) := by
  intro j hj k' tp' M' T' m' t' H' e
  by_cases ej : j = slN (keyL w h m t)
  · subst ej
    simp only [pk_uLs] at e
    simp only [pk_us]
    obtain ⟨Hm, Ht, p1, p2, p3, p4, p5, p6⟩ := H
    obtain ⟨Hm', Ht', p1', p2', p3', p4', p5', p6'⟩ := H'
    obtain ⟨et, eM, eT⟩ := key_inj hd p1' p1 Hm' Ht' Hm Ht p2' p2 p3' p3 e
    have ek : k' = k := by rw [p6, p6', emp_congr et]
    subst ek eM eT
    rw [Sc_congr k' et]
    exact ⟨z1, z2, rfl, rfl, h1, h2, h3, h4⟩
  · simp only [pk_uLn ej] at e
    simp only [pk_un ej]
    exact hu j hj k' tp' M' T' m' t' H' e
theorem mid_lt : ∀ w, w < 10 → 3 ≤ w → ∀ i, i < w → mid w i < w := by decide +kernel
theorem mid_onto : ∀ w, w < 10 → 3 ≤ w → ∀ c, c < w → ∃ i, i < w ∧ mid w i = c := by
  intro w hw h3 c hc
  have key : ∀ w, w < 10 → 3 ≤ w → ∀ c, c < w → (List.range w).any (fun i => mid w i == c) = true := by decide +kernel
  have := key w hw h3 c hc
  rw [List.any_eq_true] at this
  obtain ⟨i, hi, e⟩ := this
  exact ⟨i, List.mem_range.mp hi, by simpa using e⟩
/-- the safe moves of a position, as a long -/
def mvL (w h : Nat) (m t : Int64) : Int64 := smL (nxL w h (m ||| t)) (thL w h t (m ||| t))
def okc (w h : Nat) (tp : Nat → Nat) (m t : Int64) (c : Nat) : Bool := tb (mvL w h m t) (ix h c (tp c))
theorem Pos.ok {w h k : Nat} (hd : Dm w h) {tp : Nat → Nat} {M T : Sq} {m t : Int64} (H : Pos w h k tp M T m t) {c : Nat} (hc : c < w) : okc w h tp m t c = true ↔ tp c < h ∧ ¬ badAt w h tp T c := by
  have hle := H.2.2.1 c hc
  obtain ⟨h1, h2⟩ := H.safe hd
  constructor
  · intro e
    obtain ⟨a1, a2, a3, a4⟩ := h1 c (tp c) hle e
    exact ⟨a3, a4⟩
  · rintro ⟨a1, a2⟩
    cases e : okc w h tp m t c
    · exact absurd (h2 c hc a1 e) a2
    · rfl
theorem Pos.mv {w h k : Nat} (hd : Dm w h) {tp : Nat → Nat} {M T : Sq} {m t : Int64} (H : Pos w h k tp M T m t) {c : Nat} (hc : c < w) : (okc w h tp m t c = true → mvL w h m t &&& colL h c = sqL h c (tp c)) ∧ (okc w h tp m t c = false → mvL w h m t &&& colL h c = 0) := by
  have hle := H.2.2.1 c hc
  obtain ⟨h1, h2⟩ := H.safe hd
  have h64 := hd.2.2.2.2.2
  have only : ∀ i, tb (mvL w h m t &&& colL h c) i = true → i = ix h c (tp c) ∧ okc w h tp m t c = true := by
    intro i e
    obtain ⟨c', r, hr, rfl⟩ := ix_of h i
    rw [tb_and, Bool.and_eq_true, col_bit hd hc c' r hr] at e
    simp only [Bool.and_eq_true, decide_eq_true_eq] at e
    obtain ⟨a1, a2, a3⟩ := e
    subst a2
    obtain ⟨b1, rfl, b3, b4⟩ := h1 c' r hr a1
    exact ⟨rfl, a1⟩
  constructor
  · intro e
    have hlt := ((H.ok hd hc).mp e).1
    have l1 := ix_lt hc hle
    refine tb_ext (fun i hi => ?_)
    have e2 : tb (sqL h c (tp c)) i = decide (i = ix h c (tp c)) := tb_pow (k := ix h c (tp c)) (by omega) i
    rw [e2]
    by_cases q : i = ix h c (tp c)
    · subst q
      have e3 : tb (mvL w h m t) (ix h c (tp c)) = true := e
      rw [tb_and, col_bit hd hc c (tp c) hle, e3]; simp [hlt]
    · rw [decide_eq_false q]
      cases q2 : tb (mvL w h m t &&& colL h c) i
      · rfl
      · exact absurd (only i q2).1 q
  · intro e
    refine tb_ext (fun i hi => ?_)
    rw [tb_0]
    cases q2 : tb (mvL w h m t &&& colL h c) i
    · rfl
    · rw [(only i q2).2] at e; cases e
theorem Pos.mv0 {w h k : Nat} (hd : Dm w h) {tp : Nat → Nat} {M T : Sq} {m t : Int64} (H : Pos w h k tp M T m t) : (mvL w h m t = 0 → ∀ c, c < w → tp c < h → badAt w h tp T c) ∧ (¬ mvL w h m t = 0 → ∃ c, c < w ∧ tp c < h ∧ ¬ badAt w h tp T c) := by
  obtain ⟨h1, h2⟩ := H.safe hd
  constructor
  · intro e c hc hr
    refine h2 c hc hr ?_
    show tb (mvL w h m t) _ = false
    rw [e, tb_0]
  · intro e
    obtain ⟨i, -, b⟩ := nz_bit e
    obtain ⟨c, r, hr, rfl⟩ := ix_of h i
    obtain ⟨a1, a2, a3, a4⟩ := h1 c r hr b
    exact ⟨c, a1, a3, a4⟩
/-- the best of the safe moves in the first n places of the order, and from -/
noncomputable def pb (w h k : Nat) (tp : Nat → Nat) (M T : Sq) (m t : Int64) (from_ : Int) (n : Nat) : Int := bestOf (fun j => okc w h tp m t (mid w j)) (fun j => Mv w h k tp M T (mid w j)) from_ n
theorem pb_end {w h k : Nat} (hd : Dm w h) {tp : Nat → Nat} {M T : Sq} {m t : Int64} (H : Pos w h (k + 1) tp M T m t) (hn : ∀ c, ¬ winsAt w h tp M c) (hm : ¬ mvL w h m t = 0) (from_ : Int) : pb w h k tp M T m t from_ w = max from_ (Sc w h (k + 1) tp M T) := by
  have hw := hd.2.1
  have h3 := hd.1
  obtain ⟨c0, hc0, hr0, hs0⟩ := (H.mv0 hd).2 hm
  obtain ⟨c, hc, hr, hs, e⟩ := Sc_safe H.2.2 hn hc0 hr0 hs0
  have a1 : pb w h k tp M T m t from_ w ≤ max from_ (Sc w h (k + 1) tp M T) := by
    refine bestOf_le (by omega) (fun j hj hok => ?_)
    have hl := mid_lt w (by omega) h3 j hj
    have := Sc_ge (k := k) (M := M) (T := T) hl ((H.ok hd hl).mp hok).1
    omega
  have a2 : from_ ≤ pb w h k tp M T m t from_ w := bestOf_lo _ _ _ _
  obtain ⟨j, hj, ej⟩ := mid_onto w (by omega) h3 c hc
  have a3 : Mv w h k tp M T (mid w j) ≤ pb w h k tp M T m t from_ w := bestOf_ge (ok := fun j => okc w h tp m t (mid w j)) (v := fun j => Mv w h k tp M T (mid w j)) hj (by
    show okc w h tp m t (mid w j) = true
    rw [ej]; exact (H.ok hd hc).mpr ⟨hr, hs⟩)
  rw [ej, ← e] at a3
  omega
theorem pb_mono {w h k : Nat} {tp : Nat → Nat} {M T : Sq} {m t : Int64} {from_ : Int} {i n : Nat} (hi : i ≤ n) : pb w h k tp M T m t from_ i ≤ pb w h k tp M T m t from_ n := by
  induction n with
  | zero => rw [show i = 0 by omega]; exact Int.le_refl _
  | succ n ih =>
    by_cases e : i = n + 1
    · rw [e]; exact Int.le_refl _
    · have := ih (by omega)
      unfold pb at this ⊢
      rw [bestOf]
      split <;> omega
theorem pb_succ {w h k : Nat} {tp : Nat → Nat} {M T : Sq} {m t : Int64} {from_ : Int} {i : Nat} : pb w h k tp M T m t from_ (i + 1) = if okc w h tp m t (mid w i) then max (pb w h k tp M T m t from_ i) (Mv w h k tp M T (mid w i)) else pb w h k tp M T m t from_ i := rfl
/-- what a search between low and high may answer -/
def scPost (S low high z : Int) : Prop := z = S ∨ (S ≤ z ∧ z ≤ low) ∨ (high ≤ z ∧ z ≤ S)
theorem la_le {w h k : Nat} (hd : Dm w h) {tp : Nat → Nat} {M T : Sq} {m t : Int64} (H : Pos w h (k + 1) tp M T m t) (hn : ∀ c, ¬ winsAt w h tp M c) (hm : ¬ mvL w h m t = 0) (hk : 2 ≤ k) : laZ w h m (k + 1) ≤ Sc w h (k + 1) tp M T ∧ -64 ≤ laZ w h m (k + 1) ∧ laZ w h m (k + 1) ≤ 64 := by
  obtain ⟨c0, hc0, hr0, hs0⟩ := (H.mv0 hd).2 hm
  have hkb : k + 1 ≤ 63 := by
    have h1 := H.2.2.2.2.2.2.2
    have h2 := emp_le (h := h) (tp := tp) w
    have h3 := hd.2.2.2.2.1
    omega
  have Rn : Rep w h (allL h w &&& (m ^^^ (-1))) (fun c r => onB w h c r && !M c r) := by
    refine ⟨fun c r hr => ?_, fun c r e => ?_⟩
    · rw [tb_and, (Rep.all hd).1 c r hr]
      by_cases q : c < w ∧ r < h
      · have := ix_lt q.1 (Nat.le_of_lt q.2)
        have h64 := hd.2.2.2.2.2
        rw [tb_not _ (by omega), H.1.1 c r hr]
      · have e : onB w h c r = false := by
          unfold onB
          by_cases hc : c < w
          · simp [show ¬ r < h from fun z => q ⟨hc, z⟩]
          · simp [hc]
        show _ = (onB w h c r && _)
        rw [e]; rfl
    · simp only [Bool.and_eq_true, onB, decide_eq_true_eq] at e
      exact e.1
  unfold laZ
  by_cases q : hlL h (allL h w &&& (m ^^^ (-1))) = true
  · rw [if_pos q]
    have := Sc_least H.2.2 hn hc0 hr0 hs0 hk
    omega
  · rw [if_neg q]
    have := (Sc_stop (k + 1) tp M T H.2.2).2 (fun z => q ((hl_iff hd Rn).mpr z))
    omega
theorem ma_ge {w h k : Nat} (hd : Dm w h) {tp : Nat → Nat} {M T : Sq} {m t : Int64} (H : Pos w h (k + 1) tp M T m t) (hn : ∀ c, ¬ winsAt w h tp M c) (hk : 2 ≤ k) : Sc w h (k + 1) tp M T ≤ maZ w h t (k + 1) ∧ -64 ≤ maZ w h t (k + 1) ∧ maZ w h t (k + 1) ≤ 64 := by
  have hkb : k + 1 ≤ 63 := by
    have h1 := H.2.2.2.2.2.2.2
    have h2 := emp_le (h := h) (tp := tp) w
    have h3 := hd.2.2.2.2.1
    omega
  have Rn : Rep w h (allL h w &&& (t ^^^ (-1))) (fun c r => onB w h c r && !T c r) := by
    refine ⟨fun c r hr => ?_, fun c r e => ?_⟩
    · rw [tb_and, (Rep.all hd).1 c r hr]
      by_cases q : c < w ∧ r < h
      · have := ix_lt q.1 (Nat.le_of_lt q.2)
        have h64 := hd.2.2.2.2.2
        rw [tb_not _ (by omega), H.2.1.1 c r hr]
      · have e : onB w h c r = false := by
          unfold onB
          by_cases hc : c < w
          · simp [show ¬ r < h from fun z => q ⟨hc, z⟩]
          · simp [hc]
        show _ = (onB w h c r && _)
        rw [e]; rfl
    · simp only [Bool.and_eq_true, onB, decide_eq_true_eq] at e
      exact e.1
  unfold maZ
  by_cases q : hlL h (allL h w &&& (t ^^^ (-1))) = true
  · rw [if_pos q]
    have := Sc_most H.2.2 hn (by omega)
    omega
  · rw [if_neg q]
    have := (Sc_stop (k + 1) tp M T H.2.2).1 (fun z => q ((hl_iff hd Rn).mpr z))
    omega
