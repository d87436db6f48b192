-- ===== M21: who has won, what lies where =====
theorem g_hl {w h : Nat} (hd : Dm w h) {S : Nat → Int64} {d : List Nat} (H : RS w h S d) {q : Nat} (hq : q ≤ 1) : hlL h (S q) = true ↔ hasL w h (gO w h d q) := hl_iff hd (H.at hq)
/-- who has won, by the game -/
noncomputable def gWn (w h : Nat) (d : List Nat) : Int32 := @ite Int32 (hasL w h (gO w h d 0)) (Classical.propDecidable _) 0 (@ite Int32 (hasL w h (gO w h d 1)) (Classical.propDecidable _) 1 (if d.length = w * h then 2 else -1))
theorem wn_class {w h : Nat} (hd : Dm w h) {S : Nat → Int64} {d : List Nat} (G : gOK w h d) (H : RS w h S d) : wnI w h S d.length = gWn w h d := by
  unfold wnI gWn
  have hn := (g_emp G).1
  by_cases h0 : hasL w h (gO w h d 0)
  · rw [if_pos ((g_hl hd H (q := 0) (by omega)).mpr h0), if_pos h0]
  · rw [if_neg (fun z => h0 ((g_hl hd H (q := 0) (by omega)).mp z)), if_neg h0]
    by_cases h1 : hasL w h (gO w h d 1)
    · rw [if_pos ((g_hl hd H (q := 1) (by omega)).mpr h1), if_pos h1]
    · rw [if_neg (fun z => h1 ((g_hl hd H (q := 1) (by omega)).mp z)), if_neg h1]
      by_cases e : d.length = w * h
      · rw [if_pos (show w * h - d.length = 0 by omega), if_pos e]
      · rw [if_neg (show ¬ w * h - d.length = 0 by omega), if_neg e]
theorem wn_model {w h : Nat} (hd : Dm w h) {d : List Nat} {dr : Nat → Nat} (G : gOK w h d) (Hd : Hs dr d) : wnowI w h (gB d) (gH d) dr d.length = gWn w h d := by
  have hw := hd.2.1
  have hh := hd.2.2.2.1
  unfold wnowI gWn
  cases d with
  | nil =>
    rw [if_neg (fun z => absurd z.1 (Nat.lt_irrefl _))]
    have n0 : ¬ hasL w h (gO w h [] 0) := by rw [gB_new hd 0 (by omega)]; exact no_line
    have n1 : ¬ hasL w h (gO w h [] 1) := by rw [gB_new hd 1 (by omega)]; exact no_line
    rw [if_neg n0, if_neg n1]
  | cons c d =>
    have e1 : dr ((c :: d).length - 1) = c := Hd.1
    have e2 : gH (c :: d) c = gH d c + 1 := by rw [gH_cons, if_pos rfl]
    rw [e1, e2, Nat.add_sub_cancel]
    have e3 : 7 * c + (gH d c + 1) - 1 = 7 * c + gH d c := by omega
    rw [e3]
    have e4 : gB (c :: d) (7 * c + gH d c) = nI (d.length % 2) := pk_us
    have no : ∀ a, a ≤ 1 → ¬ hasL w h (gO w h d a) := fun a ha => by
      rcases (show a = 0 ∨ a = 1 by omega) with rfl | rfl
      · exact G.2.2.1
      · exact G.2.2.2.1
    have iff : wnB w h (gB (c :: d)) c (gH d c) = true ↔ hasL w h (gO w h (c :: d) (d.length % 2)) := by
      rw [gO_mover hd G rfl]
      refine wn_iff hw hh G.1 G.2.1 (fun r' h1 h2 => ?_) (no _ (by omega))
      rw [(gB_at hd G.2.2.2.2 c r' G.1 h2).1 h1]
      exact nI_m1 (by omega)
    have oth : ¬ hasL w h (gO w h (c :: d) (1 - d.length % 2)) := by
      rw [gO_other hd G rfl]; exact no _ (by omega)
    by_cases hl : hasL w h (gO w h (c :: d) (d.length % 2))
    · rw [if_pos ⟨by simp, iff.mpr hl⟩, e4]
      rcases Nat.mod_two_eq_zero_or_one d.length with z | z
      · rw [z] at hl ⊢; rw [if_pos hl]; rfl
      · rw [z] at hl oth ⊢; rw [if_neg oth, if_pos hl]; rfl
    · rw [if_neg (fun z => hl (iff.mp z.2))]
      rcases Nat.mod_two_eq_zero_or_one d.length with z | z
      · rw [z] at hl oth; rw [if_neg hl, if_neg oth]
      · rw [z] at hl oth; rw [if_neg oth, if_neg hl]
theorem gWn_over {w h : Nat} {d : List Nat} (hc : 0 ≤ gWn w h d) : hasL w h (gO w h d 0) ∨ hasL w h (gO w h d 1) ∨ d.length = w * h := by
  unfold gWn at hc
  by_cases h0 : hasL w h (gO w h d 0)
  · exact Or.inl h0
  · rw [if_neg h0] at hc
    by_cases h1 : hasL w h (gO w h d 1)
    · exact Or.inr (Or.inl h1)
    · rw [if_neg h1] at hc
      by_cases e : d.length = w * h
      · exact Or.inr (Or.inr e)
      · rw [if_neg e] at hc
        exact absurd hc (by decide)
theorem gWn_not {w h : Nat} {d : List Nat} (hc : ¬ 0 ≤ gWn w h d) : ¬ hasL w h (gO w h d 0) ∧ ¬ hasL w h (gO w h d 1) ∧ ¬ d.length = w * h := by
  unfold gWn at hc
  by_cases h0 : hasL w h (gO w h d 0)
  · rw [if_pos h0] at hc; exact absurd (by decide) hc
  · rw [if_neg h0] at hc
    by_cases h1 : hasL w h (gO w h d 1)
    · rw [if_pos h1] at hc; exact absurd (by decide) hc
    · rw [if_neg h1] at hc
      by_cases e : d.length = w * h
      · rw [if_pos e] at hc; exact absurd (by decide) hc
      · exact ⟨h0, h1, e⟩
theorem ov_class {w h : Nat} (hd : Dm w h) {S : Nat → Int64} {d : List Nat} (G : gOK w h d) (H : RS w h S d) : ovB w h S d.length = decide (0 ≤ gWn w h d) := by
  have hn := (g_emp G).1
  rw [Bool.eq_iff_iff, decide_eq_true_eq]
  unfold ovB
  rw [Bool.or_eq_true, Bool.or_eq_true, decide_eq_true_eq, g_hl hd H (q := 0) (by omega), g_hl hd H (q := 1) (by omega)]
  constructor
  · intro z
    refine Classical.byContradiction fun y => ?_
    obtain ⟨a, b, c⟩ := gWn_not y
    rcases z with z | z | z
    · exact a z
    · exact b z
    · omega
  · intro z
    rcases gWn_over z with a | a | a
    · exact Or.inl a
    · exact Or.inr (Or.inl a)
    · exact Or.inr (Or.inr (by omega))
theorem cv_class {w h : Nat} (hd : Dm w h) {S : Nat → Int64} {d : List Nat} {dr : Nat → Nat} (G : gOK w h d) (H : RS w h S d) (Hd : Hs dr d) : cvB w h S d.length = !ifB w h (gB d) (gH d) dr d.length := by
  unfold cvB ifB
  rw [ov_class hd G H, wn_model hd G Hd, Bool.not_or, Bool.and_comm]
  congr 1
  rw [Bool.eq_iff_iff]
  simp
theorem gOK.cons {w h : Nat} {d : List Nat} {c : Nat} (G : gOK w h d) (hc : c < w) (hr : gH d c < h) (ho : ¬ 0 ≤ gWn w h d) : gOK w h (c :: d) := ⟨hc, hr, (gWn_not ho).1, (gWn_not ho).2.1, G⟩
theorem g_last {w h : Nat} {d : List Nat} {dr : Nat → Nat} (G : gOK w h d) (Hd : Hs dr d) : 0 < d.length → dr (d.length - 1) < w ∧ 1 ≤ gH d (dr (d.length - 1)) ∧ gH d (dr (d.length - 1)) ≤ h := by
  intro h0
  cases d with
  | nil => exact absurd h0 (Nat.lt_irrefl _)
  | cons c d =>
    have e1 : dr ((c :: d).length - 1) = c := Hd.1
    rw [e1]
    refine ⟨G.1, ?_, gH_le G c⟩
    rw [gH_cons, if_pos rfl]; omega
theorem and_sq {w h c r : Nat} (hd : Dm w h) (hc : c < w) (hr : r < h) {x : Int64} {M : Sq} (H : Rep w h x M) : x &&& sqL h c r = 0 ↔ M c r = false := by
  have hb := H.1 c r (Nat.le_of_lt hr)
  constructor
  · intro z
    rw [← hb, ← Bool.not_eq_true]
    intro y
    refine bit_nz (x := x &&& sqL h c r) (i := ix h c r) ?_ z
    rw [tb_and, y, tb_sq hd hc hr]
    simp
  · intro z
    refine Classical.byContradiction fun y => ?_
    obtain ⟨i, hi, hb2⟩ := nz_bit y
    rw [tb_and, tb_sq hd hc hr, Bool.and_eq_true, decide_eq_true_eq] at hb2
    rw [hb2.2, hb, z] at hb2
    exact Bool.noConfusion hb2.1
theorem at_class {w h c r : Nat} (hd : Dm w h) {S : Nat → Int64} {d : List Nat} (G : gOK w h d) (H : RS w h S d) (hc : c < w) (hr : r < h) : atI h S c r = gB d (7 * c + r) := by
  unfold atI
  have b := gB_at hd G c r hc hr
  have k0 : gO w h d 0 c r = true ↔ gB d (7 * c + r) = nI 0 := ⟨fun z => (gO_at.mp z).2.2, fun z => gO_at.mpr ⟨hc, hr, z⟩⟩
  have k1 : gO w h d 1 c r = true ↔ gB d (7 * c + r) = nI 1 := ⟨fun z => (gO_at.mp z).2.2, fun z => gO_at.mpr ⟨hc, hr, z⟩⟩
  have a0 := and_sq hd hc hr H.1
  have a1 := and_sq hd hc hr H.2
  rw [← Bool.not_eq_true, k0] at a0
  rw [← Bool.not_eq_true, k1] at a1
  by_cases e0 : gB d (7 * c + r) = nI 0
  · rw [if_neg (fun z => a0.mp z e0), e0]; rfl
  · rw [if_pos (a0.mpr e0)]
    by_cases e1 : gB d (7 * c + r) = nI 1
    · rw [if_neg (fun z => a1.mp z e1), e1]; rfl
    · rw [if_pos (a1.mpr e1)]
      by_cases y : gH d c ≤ r
      · exact (b.1 y).symm
      · rcases b.2 (by omega) with z | z
        · exact absurd z e0
        · exact absurd z e1
