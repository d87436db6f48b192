-- ===== M26: what is filled when the leader has the last wanted square =====
theorem span_bit {a b : Nat} (hb : b ≤ a) (ha : a < 64) (i : Nat) : tb (shlL 1 a - shlL 1 b) i = (decide (b ≤ i) && decide (i < a)) := by
  have e1 : tN (shlL 1 a) = 2 ^ a := tN_pow ha
  have e0 : tN (shlL 1 b) = 2 ^ b := tN_pow (by omega)
  have e2 : tN (shlL 1 a - shlL 1 b) = (2 ^ (a - b) - 1) * 2 ^ b := by
    rw [tN_sub (by rw [e0, e1]; exact Nat.pow_le_pow_right (by decide) hb), e1, e0, Nat.sub_mul, Nat.one_mul, ← Nat.pow_add, Nat.sub_add_cancel hb]
  rw [tb_tN, e2, Nat.testBit_mul_two_pow, Nat.testBit_two_pow_sub_one]
  by_cases h1 : b ≤ i
  · rw [decide_eq_true h1, Bool.true_and, Bool.true_and, Bool.eq_iff_iff, decide_eq_true_eq, decide_eq_true_eq]
    omega
  · rw [decide_eq_false h1, Bool.false_and, Bool.false_and]
theorem shl_pow {k j : Nat} (hk : k + j < 64) : shlL (shlL 1 k) j = shlL 1 (k + j) := by
  refine tb_ext (fun i hi => ?_)
  rw [tb_shl (by omega) _ hi, tb_pow (by omega), tb_pow hk, Bool.eq_iff_iff]
  simp only [Bool.and_eq_true, decide_eq_true_eq]
  omega
theorem ix64 {w h c r : Nat} (hd : Dm w h) (hc : c < w) (hr : r ≤ h) : ix h c r < 64 := by
  have := ix_lt (h := h) hc hr
  have := hd.2.2.2.2.2
  omega
theorem col_and {w h : Nat} (hd : Dm w h) {x : Int64} {W0 : Sq} (H : Rep w h x W0) {c : Nat} (hc : c < w) : (∀ r, W0 c r = true → (∀ r', W0 c r' = true → r' = r) → x &&& colL h c = sqL h c r) ∧ ((∀ r, W0 c r = false) → x &&& colL h c = 0) := by
  refine ⟨fun r h1 one => tb_ext (fun i hi => ?_), fun h0 => tb_ext (fun i hi => ?_)⟩
  · obtain ⟨c', r', hr', rfl⟩ := ix_of h i
    rw [tb_and, H.1 c' r' hr', col_bit hd hc c' r' hr', tb_sq hd hc (H.2 c r h1).2, Bool.eq_iff_iff]
    simp only [Bool.and_eq_true, decide_eq_true_eq]
    constructor
    · rintro ⟨a, rfl, -⟩; rw [one r' a]
    · intro e
      obtain ⟨rfl, rfl⟩ := ix_inj hr' (Nat.le_of_lt (H.2 c r h1).2) e
      exact ⟨h1, rfl, (H.2 _ _ h1).2⟩
  · obtain ⟨c', r', hr', rfl⟩ := ix_of h i
    rw [tb_and, H.1 c' r' hr', col_bit hd hc c' r' hr', tb_0]
    by_cases e : c' = c
    · subst e; rw [h0]; rfl
    · simp [e]
theorem sqL_nz {w h c r : Nat} (hd : Dm w h) (hc : c < w) (hr : r < h) : ¬ sqL h c r = 0 := bit_nz (i := ix h c r) (by rw [tb_sq hd hc hr]; simp)
theorem sq_inj {w h c r c' r' : Nat} (hd : Dm w h) (hc : c < w) (hr : r < h) (hc' : c' < w) (hr' : r' < h) (e : sqL h c r = sqL h c' r') : c = c' ∧ r = r' := by
  have : tb (sqL h c' r') (ix h c r) = true := by rw [← e, tb_sq hd hc hr]; simp
  rw [tb_sq hd hc' hr', decide_eq_true_eq] at this
  exact ix_inj (Nat.le_of_lt hr) (Nat.le_of_lt hr') this
theorem col_flr {w h c : Nat} (hd : Dm w h) (hc : c < w) : colL h c &&& flrL h w = shlL 1 (ix h c 0) := by
  have h3 := hd.2.2.1
  refine tb_ext (fun i hi => ?_)
  obtain ⟨c', r', hr', rfl⟩ := ix_of h i
  rw [tb_and, col_bit hd hc c' r' hr', flr_bit hd w (Nat.le_refl w) c' r' hr', tb_pow (ix64 hd hc (Nat.zero_le _)), Bool.eq_iff_iff]
  simp only [Bool.and_eq_true, decide_eq_true_eq]
  constructor
  · rintro ⟨⟨rfl, -⟩, -, rfl⟩; rfl
  · intro e
    obtain ⟨rfl, rfl⟩ := ix_inj hr' (Nat.zero_le _) e
    exact ⟨⟨rfl, by omega⟩, hc, rfl⟩
theorem ix_le {h c c' r r' : Nat} (hr : r ≤ h) (hr' : r' ≤ h) : (ix h c 0 ≤ ix h c' r' ∧ ix h c' r' < ix h c r + 1) ↔ c' = c ∧ r' ≤ r := by
  constructor
  · rintro ⟨a, b⟩
    have e1 : c ≤ c' := by
      have := Nat.div_le_div_right (c := h + 1) a
      rwa [ix_div (Nat.zero_le _), ix_div hr'] at this
    have e2 : c' ≤ c := by
      have := Nat.div_le_div_right (c := h + 1) (Nat.lt_succ_iff.mp b)
      rwa [ix_div hr, ix_div hr'] at this
    have e : c' = c := by omega
    subst e
    unfold ix at b
    exact ⟨rfl, by omega⟩
  · rintro ⟨rfl, a⟩
    unfold ix
    omega
theorem rc_bit {w h : Nat} (hd : Dm w h) {x : Int64} {W0 : Sq} (H : Rep w h x W0) (one : ∀ c r r', W0 c r = true → W0 c r' = true → r = r') (up : ∀ c r, W0 c r = true → r + 1 < h) {m rm : Nat} (hm : W0 m rm = true) : ∀ n, n ≤ w → ∀ c r, r ≤ h → (tb (rcL h (flrL h w) x (x &&& colL h m) n) (ix h c r) = true ↔ c < n ∧ ∃ rc, W0 c rc = true ∧ r ≤ rc + (if c = m then 0 else 1))
  | 0, _, c, r, _ => by
    unfold rcL
    rw [tb_0]
    exact ⟨fun z => (by cases z), fun z => absurd z.1 (Nat.not_lt_zero _)⟩
  | n + 1, hn, c, r, hr => by
    have ih := rc_bit hd H one up hm n (by omega) c r hr
    have hnw : n < w := by omega
    obtain ⟨hmw, hrm⟩ := H.2 m rm hm
    have cm : x &&& colL h m = sqL h m rm := (col_and hd H hmw).1 rm hm (fun r' z => one m r' rm z hm)
    unfold rcL
    by_cases hz : ∃ rc, W0 n rc = true
    · obtain ⟨rc, hrc⟩ := hz
      have cn : x &&& colL h n = sqL h n rc := (col_and hd H hnw).1 rc hrc (fun r' z => one n r' rc z hrc)
      have u := up n rc hrc
      have l1 := ix64 hd hnw (r := rc + 2) (by omega)
      have l1 : ix h n rc + 2 < 64 := by unfold ix at l1 ⊢; omega
      rw [if_neg (by rw [cn]; exact sqL_nz hd hnw (by omega)), tb_or, Bool.or_eq_true, ih, col_flr hd hnw]
      have top : shlL (if x &&& colL h n = x &&& colL h m then x &&& colL h n else shlL (x &&& colL h n) 1) 1 = shlL 1 (ix h n (rc + (if n = m then 0 else 1)) + 1) := by
        rw [cn, cm]
        have sq : sqL h n rc = shlL 1 (ix h n rc) := rfl
        by_cases e : n = m
        · subst e
          have e2 : rc = rm := one n rc rm hrc hm
          subst e2
          rw [if_pos rfl, if_pos rfl, sq, shl_pow (by omega)]
          rfl
        · rw [if_neg (fun z => e (sq_inj hd hnw (by omega) hmw hrm z).1), if_neg e, sq, shl_pow (by omega), shl_pow (by omega)]
          congr 1
      rw [top]
      generalize hk : rc + (if n = m then 0 else 1) = rt
      have hrt : rt ≤ h := by
        rw [← hk]; split <;> omega
      have l2 : ix h n rt + 1 < 64 := by
        unfold ix at l1 ⊢
        rw [← hk]; split <;> omega
      rw [span_bit (by unfold ix; omega) l2, Bool.and_eq_true, decide_eq_true_eq, decide_eq_true_eq, ix_le hrt hr]
      constructor
      · rintro (⟨a, b⟩ | ⟨rfl, b⟩)
        · exact ⟨by omega, b⟩
        · exact ⟨by omega, rc, hrc, by rw [hk]; exact b⟩
      · rintro ⟨a, rc', h1, h2⟩
        by_cases e : c = n
        · subst e
          have e2 : rc' = rc := one c rc' rc h1 hrc
          subst e2
          exact Or.inr ⟨rfl, by rw [← hk]; exact h2⟩
        · exact Or.inl ⟨by omega, rc', h1, h2⟩
    · rw [if_pos ((col_and hd H hnw).2 (fun r => by rw [← Bool.not_eq_true]; exact fun z => hz ⟨r, z⟩)), ih]
      constructor
      · rintro ⟨a, b⟩; exact ⟨by omega, b⟩
      · rintro ⟨a, rc', h1, h2⟩
        have : ¬ c = n := fun e => hz ⟨rc', by rw [← e]; exact h1⟩
        exact ⟨by omega, rc', h1, h2⟩
/-- the follower's stones when the leader has the last wanted square, in column m -/
noncomputable def anS (F Fe W0 : Sq) (m : Nat) : Sq := fun c r => F c r || (Fe c r && @decide (∃ rc, W0 c rc = true ∧ r ≤ rc + (if c = m then 0 else 1)) (Classical.propDecidable _))
theorem anS_at {F Fe W0 : Sq} {m c r : Nat} : anS F Fe W0 m c r = true ↔ F c r = true ∨ (Fe c r = true ∧ ∃ rc, W0 c rc = true ∧ r ≤ rc + (if c = m then 0 else 1)) := by
  unfold anS
  rw [Bool.or_eq_true, Bool.and_eq_true, @decide_eq_true_eq _ (Classical.propDecidable _)]
theorem cm_iff {w h : Nat} (hd : Dm w h) {x fo fe : Int64} {W0 F Fe : Sq} (H : Rep w h x W0) (HF : Rep w h fo F) (HE : Rep w h fe Fe) (one : ∀ c r r', W0 c r = true → W0 c r' = true → r = r') (up : ∀ c r, W0 c r = true → r + 1 < h) : cmB w h x fo fe = true ↔ ∃ m rm, W0 m rm = true ∧ ¬ hasL w h (anS F Fe W0 m) := by
  have rep : ∀ m rm, W0 m rm = true → Rep w h (fo ||| (fe &&& rcL h (flrL h w) x (x &&& colL h m) w)) (anS F Fe W0 m) := fun m rm hm => by
    refine ⟨fun c r hr => ?_, fun c r z => ?_⟩
    · rw [Bool.eq_iff_iff, tb_or, tb_and, Bool.or_eq_true, Bool.and_eq_true, HF.1 c r hr, HE.1 c r hr, rc_bit hd H one up hm w (Nat.le_refl w) c r hr, anS_at]
      constructor
      · rintro (z | ⟨a, -, b⟩)
        · exact Or.inl z
        · exact Or.inr ⟨a, b⟩
      · rintro (z | ⟨a, rc, b1, b2⟩)
        · exact Or.inl z
        · exact Or.inr ⟨a, (H.2 c rc b1).1, rc, b1, b2⟩
    · rcases anS_at.mp z with y | y
      · exact HF.2 c r y
      · exact HE.2 c r y.1
  unfold cmB
  rw [anyB_iff]
  constructor
  · rintro ⟨m, hmw, z⟩
    unfold cmF at z
    rw [Bool.and_eq_true, Bool.not_eq_true', Bool.not_eq_true', beq_eq_false_iff_ne] at z
    by_cases hz : ∃ rm, W0 m rm = true
    · obtain ⟨rm, hm⟩ := hz
      refine ⟨m, rm, hm, fun y => ?_⟩
      rw [(hl_iff hd (rep m rm hm)).mpr y] at z
      exact Bool.noConfusion z.2
    · exact absurd ((col_and hd H hmw).2 (fun r => by rw [← Bool.not_eq_true]; exact fun y => hz ⟨r, y⟩)) z.1
  · rintro ⟨m, rm, hm, nl⟩
    obtain ⟨hmw, hrm⟩ := H.2 m rm hm
    refine ⟨m, hmw, ?_⟩
    unfold cmF
    rw [Bool.and_eq_true, Bool.not_eq_true', Bool.not_eq_true', beq_eq_false_iff_ne]
    refine ⟨?_, ?_⟩
    · rw [(col_and hd H hmw).1 rm hm (fun r' z => one m r' rm z hm)]
      exact sqL_nz hd hmw hrm
    · rw [← Bool.not_eq_true]
      exact fun y => nl ((hl_iff hd (rep m rm hm)).mp y)
/-- what the class finds -/
theorem lw_iff {w h : Nat} (hd : Dm w h) {ht : Nat → Nat} {L F : Sq} {le fo : Int64} (hht : ∀ c, ht c ≤ h) (hev : ∀ c, c < w → (h - ht c) % 2 = 0) (hg : grav w ht (fun c r => L c r || F c r)) (Ha : Rep w h le L) (Hb : Rep w h fo F) :
    lwB w h le fo = true ↔ ∃ way c0 r0, way < 4 ∧ ln_ok w h way c0 r0 ∧ ln_in (eN w h ht 0 h L) way c0 r0 ∧ ∃ m rm, wdS L way c0 r0 m rm = true ∧ ¬ hasL w h (anS F (eN w h ht 1 h F) (wdS L way c0 r0) m) := by
  have hh7 := hd.2.2.2.1
  have low : ∀ c r, L c r = true → r < ht c := fun c r z => by
    have : (L c r || F c r) = (decide (c < w) && decide (r < ht c)) := hg c r
    rw [z, Bool.true_or] at this
    have := this.symm
    rw [Bool.and_eq_true, decide_eq_true_eq, decide_eq_true_eq] at this
    exact this.2
  have same : ∀ q M, eN w h ht q (2 * ((h + 1) / 2)) M = eN w h ht q h M := fun q M => by
    funext c r
    rw [Bool.eq_iff_iff, eN_at, eN_at]
    constructor
    · rintro (z | z)
      · exact Or.inl z
      · exact Or.inr (by omega)
    · rintro (z | z)
      · exact Or.inl z
      · exact Or.inr (by omega)
  obtain ⟨r1, r2⟩ := le_rep hd hht hg Ha Hb ((h + 1) / 2)
  rw [same] at r1 r2
  have key : ∀ {j c0 r0 : Nat}, j < 4 → ln_ok w h (wayOf j) c0 r0 → ln_in (eN w h ht 0 h L) (wayOf j) c0 r0 → (lbF w h le fo (leE w h le fo ((h + 1) / 2)).2 (lsL (leE w h le fo ((h + 1) / 2)).1 (stp h j)) (stp h j) (ix h c0 r0) = true ↔ ∃ m rm, wdS L (wayOf j) c0 r0 m rm = true ∧ ¬ hasL w h (anS F (eN w h ht 1 h F) (wdS L (wayOf j) c0 r0) m)) := by
    intro j c0 r0 hj ho hin
    have hs : tb (lsL (leE w h le fo ((h + 1) / 2)).1 (stp h j)) (ix h c0 r0) = true := (ls_at hd r1 hj ho.2.1).mpr ⟨ho, hin⟩
    have rw_ := wa_rep hd Ha hj hs ho
    have one : ∀ c r r', wdS L (wayOf j) c0 r0 c r = true → wdS L (wayOf j) c0 r0 c r' = true → r = r' := fun c r r' a b => one_sq low (wayOf_lt j) hin a b
    have up : ∀ c r, wdS L (wayOf j) c0 r0 c r = true → r + 1 < h := fun c r a => by
      obtain ⟨⟨i, hi, e1, e2⟩, n1⟩ := wdS_at.mp a
      have p1 := eN_at.mp (hin i hi)
      rw [e1, e2] at p1
      have p1 := p1.resolve_left (by rw [n1]; decide)
      have := hev c p1.1
      have := hht c
      omega
    unfold lbF
    rw [Bool.and_eq_true, Bool.not_eq_true', beq_eq_false_iff_ne, cm_iff hd rw_ Hb r2 one up]
    constructor
    · exact fun z => z.2
    · intro z
      obtain ⟨m, rm, hm, hn⟩ := z
      refine ⟨bit_nz (i := ix h m rm) ?_, m, rm, hm, hn⟩
      rw [rw_.1 m rm (Nat.le_of_lt (rw_.2 m rm hm).2)]
      exact hm
  unfold lwB
  rw [anyB_iff]
  constructor
  · rintro ⟨j, hj, z⟩
    unfold lsF at z
    obtain ⟨bit, hbit, y⟩ := anyB_iff.mp z
    by_cases hs : tb (lsL (leE w h le fo ((h + 1) / 2)).1 (stp h j)) bit = true
    · have hs2 := hs
      rw [ls_bit (stp_le hh7 j), Bool.and_eq_true] at hs2
      obtain ⟨c0, r0, hc0, hr0, rfl, -⟩ := r1.of_tb hs2.1
      obtain ⟨ho, hin⟩ := (ls_at hd r1 hj hr0).mp hs
      exact ⟨wayOf j, c0, r0, wayOf_lt j, ho, hin, (key hj ho hin).mp y⟩
    · rw [Bool.not_eq_true] at hs
      unfold lbF at y
      rw [wa_zero (stp_le hh7 j) hbit hs] at y
      rw [Bool.and_eq_true] at y
      exact absurd y.1 (by decide)
  · rintro ⟨way, c0, r0, hw, ho, hin, z⟩
    have e : wayOf (stepOf way) = way := way_step way hw
    rw [← e] at ho hin z
    refine ⟨stepOf way, stepOf_lt way, ?_⟩
    unfold lsF
    exact anyB_iff.mpr ⟨ix h c0 r0, ix64 hd ho.1 (Nat.le_of_lt ho.2.1), (key (stepOf_lt way) ho hin).mpr z⟩
