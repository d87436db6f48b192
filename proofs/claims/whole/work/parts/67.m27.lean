-- ===== M27: class and reference agree on beats =====
theorem dg_any {w h : Nat} {ht : Nat → Nat} (hht : ∀ c, ht c ≤ h) (f : Nat → Nat) (hf : ∀ c, c < w → f c ≤ h - ht c) : ∀ n, n ≤ w → ∃ W0, W0 < prN h ht w ∧ ∀ c, dgN h ht W0 c = if c < n then f c else 0
  | 0, _ => ⟨0, prN_pos h ht w, fun c => by rw [dgN_0, if_neg (Nat.not_lt_zero c)]⟩
  | n + 1, hn => by
    obtain ⟨W0, hW, hD⟩ := dg_any hht f hf n (by omega)
    have step : ∀ k, k ≤ f n → ∃ W1, W1 < prN h ht w ∧ ∀ c, dgN h ht W1 c = if c = n then k else if c < n then f c else 0 := by
      intro k
      induction k with
      | zero =>
        intro _
        refine ⟨W0, hW, fun c => ?_⟩
        rw [hD]
        by_cases e : c = n
        · subst e; rw [if_pos rfl, if_neg (Nat.lt_irrefl c)]
        · rw [if_neg e]
      | succ k ih =>
        intro hk
        obtain ⟨W1, h1, h2⟩ := ih (by omega)
        have e0 : dgN h ht W1 n = k := by rw [h2, if_pos rfl]
        have lt : dgN h ht W1 n < h - ht n := by rw [e0]; have := hf n (by omega); omega
        refine ⟨W1 + prN h ht n, W_lt lt (by omega) h1, fun c => ?_⟩
        rw [dg_inc lt]
        by_cases e : c = n
        · rw [if_pos e, if_pos e, e0]
        · rw [if_neg e, if_neg e, h2, if_neg e]
    obtain ⟨W1, h1, h2⟩ := step (f n) (Nat.le_refl _)
    refine ⟨W1, h1, fun c => ?_⟩
    rw [h2]
    by_cases e : c = n
    · subst e; rw [if_pos rfl, if_pos (by omega)]
    · rw [if_neg e]
      by_cases z : c < n
      · rw [if_pos z, if_pos (by omega)]
      · rw [if_neg z, if_neg (by omega)]
theorem PSt_at {w h : Nat} {B : Nat → Int32} {ht : Nat → Nat} {n : Nat} (R : PrOK w h B ht n) {p W0 c r : Nat} (hp : p ≤ 1) : PSt w h B ht n p W0 c r = true ↔ stO w h B (nI p) c r = true ∨ (c < w ∧ r < h ∧ ht c ≤ r ∧ r < tqP h ht W0 c ∧ (n + (r - ht c)) % 2 = p) := by
  have hw := R.1.2.1
  have hh := R.1.2.2.2.1
  unfold PSt
  rw [stO_at, stO_at]
  by_cases hc : c < w
  · by_cases hr : r < h
    · rw [spE, sp_at hw hc (by omega)]
      by_cases q : ht c ≤ r ∧ r < tqP h ht W0 c
      · rw [if_pos q, nI01 (by omega) hp]
        have hB : B (7 * c + r) = -1 := R.2.2.2.1 c r hc q.1 hr
        rw [hB]
        constructor
        · rintro ⟨-, -, z⟩; exact Or.inr ⟨hc, hr, q.1, q.2, z⟩
        · rintro (⟨-, -, z⟩ | z)
          · exact absurd z (nI_m1 hp)
          · exact ⟨hc, hr, z.2.2.2.2⟩
      · rw [if_neg q]
        constructor
        · exact fun z => Or.inl z
        · rintro (z | z)
          · exact z
          · exact absurd ⟨z.2.2.1, z.2.2.2.1⟩ q
    · exact ⟨fun z => absurd z.2.1 hr, fun z => by rcases z with z | z; exact absurd z.2.1 hr; exact absurd z.2.1 hr⟩
  · exact ⟨fun z => absurd z.1 hc, fun z => by rcases z with z | z; exact absurd z.1 hc; exact absurd z.1 hc⟩
theorem PL_at {w h : Nat} {B : Nat → Int32} {ht : Nat → Nat} {n : Nat} (R : PrOK w h B ht n) {W0 c r : Nat} : PSt w h B ht n (n % 2) W0 c r = true ↔ stO w h B (nI (n % 2)) c r = true ∨ (c < w ∧ r < h ∧ ht c ≤ r ∧ r < tqP h ht W0 c ∧ (r - ht c) % 2 = 0) := by
  rw [PSt_at R (by omega)]
  constructor
  · rintro (z | z)
    · exact Or.inl z
    · exact Or.inr (by omega)
  · rintro (z | z)
    · exact Or.inl z
    · exact Or.inr (by omega)
theorem PF_at {w h : Nat} {B : Nat → Int32} {ht : Nat → Nat} {n : Nat} (R : PrOK w h B ht n) {W0 c r : Nat} : PSt w h B ht n (1 - n % 2) W0 c r = true ↔ stO w h B (nI (1 - n % 2)) c r = true ∨ (c < w ∧ r < h ∧ ht c ≤ r ∧ r < tqP h ht W0 c ∧ (r - ht c) % 2 = 1) := by
  rw [PSt_at R (by omega)]
  constructor
  · rintro (z | z)
    · exact Or.inl z
    · exact Or.inr (by omega)
  · rintro (z | z)
    · exact Or.inl z
    · exact Or.inr (by omega)
theorem bt_iff {w h : Nat} {B : Nat → Int32} {ht : Nat → Nat} {n : Nat} (R : PrOK w h B ht n) {L F : Sq} (eL : L = stO w h B (nI (n % 2))) (eF : F = stO w h B (nI (1 - n % 2))) (low : ∀ c r, L c r = true → r < ht c) :
    (∃ way c0 r0, way < 4 ∧ ln_ok w h way c0 r0 ∧ ln_in (eN w h ht 0 h L) way c0 r0 ∧ ∃ m rm, wdS L way c0 r0 m rm = true ∧ ¬ hasL w h (anS F (eN w h ht 1 h F) (wdS L way c0 r0) m)) ↔ btP w h B ht n := by
  obtain ⟨hd, hht, hev, hup, noL, noF⟩ := id R
  constructor
  · rintro ⟨way, c0, r0, hw, ho, hin, m, rm, hm, nl⟩
    have wq : ∀ c r, wdS L way c0 r0 c r = true → c < w ∧ ht c ≤ r ∧ r < h ∧ (r - ht c) % 2 = 0 := fun c r a => by
      obtain ⟨⟨i, hi, e1, e2⟩, n1⟩ := wdS_at.mp a
      have p1 := eN_at.mp (hin i hi)
      rw [e1, e2] at p1
      have p1 := p1.resolve_left (by rw [n1]; decide)
      exact ⟨p1.1, p1.2.1, p1.2.2.1, p1.2.2.2.2⟩
    have one : ∀ c r r', wdS L way c0 r0 c r = true → wdS L way c0 r0 c r' = true → r = r' := fun c r r' a b => one_sq low hw hin a b
    -- how many pairs each column gets
    have ex : ∃ f : Nat → Nat, (∀ c rc, wdS L way c0 r0 c rc = true → f c = (rc - ht c) / 2 + (if c = m then 0 else 1)) ∧ ∀ c, (¬ ∃ rc, wdS L way c0 r0 c rc = true) → f c = 0 := by
      have each : ∀ c, ∃ k, (∀ rc, wdS L way c0 r0 c rc = true → k = (rc - ht c) / 2 + (if c = m then 0 else 1)) ∧ ((¬ ∃ rc, wdS L way c0 r0 c rc = true) → k = 0) := fun c => by
        by_cases z : ∃ rc, wdS L way c0 r0 c rc = true
        · obtain ⟨rc, hrc⟩ := z
          exact ⟨(rc - ht c) / 2 + (if c = m then 0 else 1), fun rc' h' => by rw [one c rc' rc h' hrc], fun y => absurd ⟨rc, hrc⟩ y⟩
        · exact ⟨0, fun rc h' => absurd ⟨rc, h'⟩ z, fun _ => rfl⟩
      exact ⟨fun c => Classical.choose (each c), fun c => (Classical.choose_spec (each c)).1, fun c => (Classical.choose_spec (each c)).2⟩
    obtain ⟨f, f1, f2⟩ := ex
    have fb : ∀ c, c < w → f c ≤ h - hpF h ht c := fun c hc => by
      rw [hp_sub]
      by_cases z : ∃ rc, wdS L way c0 r0 c rc = true
      · obtain ⟨rc, hrc⟩ := z
        have a := wq c rc hrc
        have b := hev c hc
        rw [f1 c rc hrc]
        split <;> omega
      · rw [f2 c z]; omega
    obtain ⟨W0, hW, hD⟩ := dg_any (hp_le h ht) f fb w (Nat.le_refl w)
    have tq : ∀ c, c < w → tqP h ht W0 c = ht c + 2 * f c := fun c hc => by
      unfold tqP dgP
      rw [hD, if_pos hc]
    have am := wq m rm hm
    have tm : tqP h ht W0 m = rm := by
      rw [tq m am.1, f1 m rm hm, if_pos rfl]; omega
    refine ⟨W0, m, hW, am.1, by rw [tm]; exact am.2.2.1, fun y => nl (hasL_sub (fun c r z => ?_) y), ?_⟩
    · rw [anS_at]
      rcases (PF_at R).mp z with y | ⟨y1, y2, y3, y4, y5⟩
      · exact Or.inl (by rw [eF]; exact y)
      · rw [tq c y1] at y4
        refine Or.inr ⟨eN_at.mpr (Or.inr ⟨y1, y3, y2, by omega, y5⟩), ?_⟩
        by_cases q : ∃ rc, wdS L way c0 r0 c rc = true
        · obtain ⟨rc, hrc⟩ := q
          refine ⟨rc, hrc, ?_⟩
          have a := wq c rc hrc
          rw [f1 c rc hrc] at y4
          split
          · rename_i e; rw [if_pos e] at y4; omega
          · rename_i e; rw [if_neg e] at y4; omega
        · rw [f2 c q] at y4; omega
    · rw [tm]
      refine ⟨way, c0, r0, hw, ho, fun i hi => ?_⟩
      rw [put_at, PL_at R, ← eL]
      by_cases q : L (ln_c way i c0) (ln_r way i r0) = true
      · exact Or.inl (Or.inl q)
      · rw [Bool.not_eq_true] at q
        have wi : wdS L way c0 r0 (ln_c way i c0) (ln_r way i r0) = true := wdS_at.mpr ⟨⟨i, hi, rfl, rfl⟩, q⟩
        have a := wq _ _ wi
        by_cases e : ln_c way i c0 = m
        · right
          rw [e] at wi
          exact ⟨e, one m _ rm wi hm⟩
        · left; right
          refine ⟨a.1, a.2.2.1, a.2.1, ?_, a.2.2.2⟩
          rw [tq _ a.1, f1 _ _ wi, if_neg e]
          omega
  · rintro ⟨W0, c1, hW, hc1, ht1, nF, way, c0, r0, hw, ho, hin⟩
    have sq : ∀ c r, sq_put (PSt w h B ht n (n % 2) W0) c1 (tqP h ht W0 c1) c r = true → L c r = true ∨ (c < w ∧ r < h ∧ ht c ≤ r ∧ (r - ht c) % 2 = 0 ∧ (r < tqP h ht W0 c ∨ (c = c1 ∧ r = tqP h ht W0 c1))) := fun c r z => by
      rcases put_at.mp z with y | ⟨rfl, rfl⟩
      · rcases (PL_at R).mp y with x | x
        · exact Or.inl (by rw [eL]; exact x)
        · exact Or.inr ⟨x.1, x.2.1, x.2.2.1, x.2.2.2.2, Or.inl x.2.2.2.1⟩
      · exact Or.inr ⟨hc1, ht1, by unfold tqP; omega, by unfold tqP; omega, Or.inr ⟨rfl, rfl⟩⟩
    have hin2 : ln_in (eN w h ht 0 h L) way c0 r0 := fun i hi => by
      rcases sq _ _ (hin i hi) with z | z
      · exact eN_at.mpr (Or.inl z)
      · exact eN_at.mpr (Or.inr ⟨z.1, z.2.2.1, z.2.1, by omega, z.2.2.2.1⟩)
    have wq : ∀ c r, wdS L way c0 r0 c r = true → c < w ∧ r < h ∧ ht c ≤ r ∧ (r - ht c) % 2 = 0 ∧ (r < tqP h ht W0 c ∨ (c = c1 ∧ r = tqP h ht W0 c1)) := fun c r a => by
      obtain ⟨⟨i, hi, e1, e2⟩, n1⟩ := wdS_at.mp a
      have := sq _ _ (hin i hi)
      rw [e1, e2] at this
      exact this.resolve_left (by rw [n1]; decide)
    -- which one comes last
    have ex : ∃ m rm, wdS L way c0 r0 m rm = true ∧ (wdS L way c0 r0 c1 (tqP h ht W0 c1) = true → m = c1) := by
      by_cases z : wdS L way c0 r0 c1 (tqP h ht W0 c1) = true
      · exact ⟨c1, _, z, fun _ => rfl⟩
      · have some : ∃ i, i < 4 ∧ L (ln_c way i c0) (ln_r way i r0) = false := by
          refine Classical.byContradiction fun y => noL ?_
          rw [← eL]
          refine ⟨way, c0, r0, hw, ho, fun i hi => ?_⟩
          rw [← Bool.not_eq_false]
          exact fun x => y ⟨i, hi, x⟩
        obtain ⟨i, hi, hl⟩ := some
        exact ⟨_, _, wdS_at.mpr ⟨⟨i, hi, rfl, rfl⟩, hl⟩, fun y => absurd y z⟩
    obtain ⟨m, rm, hm, hlast⟩ := ex
    refine ⟨way, c0, r0, hw, ho, hin2, m, rm, hm, fun y => nF (hasL_sub (fun c r z => ?_) y)⟩
    rw [PF_at R, ← eF]
    rcases anS_at.mp z with x | ⟨x, rc, hrc, hle⟩
    · exact Or.inl x
    · rcases eN_at.mp x with v | ⟨v1, v2, v3, v4, v5⟩
      · exact Or.inl v
      · refine Or.inr ⟨v1, v3, v2, ?_, v5⟩
        obtain ⟨a1, a2, a3, a4, a5⟩ := wq c rc hrc
        rcases a5 with a5 | ⟨rfl, a5⟩
        · have : tqP h ht W0 c = ht c + 2 * dgP h ht W0 c := rfl
          split at hle <;> omega
        · rw [a5] at hrc
          have := hlast hrc
          rw [if_pos this.symm] at hle
          have : tqP h ht W0 c = ht c + 2 * dgP h ht W0 c := rfl
          omega
theorem g_pr {w h : Nat} (hd : Dm w h) {d : List Nat} (G : gOK w h d) (ho : ¬ 0 ≤ gWn w h d) (hev : ∀ c, c < w → (h - gH d c) % 2 = 0) : PrOK w h (gB d) (gH d) d.length := by
  obtain ⟨a, b, -⟩ := gWn_not ho
  have no : ∀ q, q ≤ 1 → ¬ hasL w h (gO w h d q) := fun q hq => by
    rcases (show q = 0 ∨ q = 1 by omega) with rfl | rfl
    · exact a
    · exact b
  exact ⟨hd, gH_le G, hev, fun c r hc h1 h2 => (gB_at hd G c r hc h2).1 h1, no _ (by omega), no _ (by omega)⟩
theorem ev_iff {w h : Nat} {ht : Nat → Nat} : evB h ht w = true ↔ ∀ c, c < w → (h - ht c) % 2 = 0 := by
  induction w with
  | zero => exact ⟨fun _ c hc => absurd hc (Nat.not_lt_zero _), fun _ => rfl⟩
  | succ n ih =>
    unfold evB
    rw [Bool.and_eq_true, ih, decide_eq_true_eq]
    constructor
    · rintro ⟨a, b⟩ c hc
      by_cases e : c = n
      · rw [e]; exact b
      · exact a c (by omega)
    · exact fun z => ⟨fun c hc => z c (by omega), z n (by omega)⟩
theorem ev_od {w h : Nat} {ht : Nat → Nat} : anyB (odF h ht) w = !evB h ht w := by
  rw [Bool.eq_iff_iff, Bool.not_eq_true', ← Bool.not_eq_true, ev_iff, anyB_iff]
  constructor
  · rintro ⟨c, hc, z⟩ y
    have := y c hc
    unfold odF at z
    rw [decide_eq_true_eq] at z
    omega
  · intro y
    refine Classical.byContradiction fun z => y (fun c hc => ?_)
    rcases Nat.mod_two_eq_zero_or_one (h - ht c) with x | x
    · exact x
    · exact absurd ⟨c, hc, by unfold odF; rw [decide_eq_true_eq]; exact x⟩ z
theorem beats_class {w h : Nat} (hd : Dm w h) {S : Nat → Int64} {d : List Nat} (G : gOK w h d) (H : RS w h S d) (ho : ¬ 0 ≤ gWn w h d) (hev : evB h (gH d) w = true) : lwB w h (S (d.length % 2)) (S (1 - d.length % 2)) = btB w h (gB d) (gH d) d.length := by
  have hev2 := ev_iff.mp hev
  have R := g_pr hd G ho hev2
  have hg := g_grav hd G (a := d.length % 2) (b := 1 - d.length % 2) (by omega) rfl
  have low : ∀ c r, gO w h d (d.length % 2) c r = true → r < gH d c := fun c r z => by
    have : (gO w h d (d.length % 2) c r || gO w h d (1 - d.length % 2) c r) = (decide (c < w) && decide (r < gH d c)) := hg c r
    rw [z, Bool.true_or] at this
    have := this.symm
    rw [Bool.and_eq_true, decide_eq_true_eq, decide_eq_true_eq] at this
    exact this.2
  have iff := (lw_iff hd (gH_le G) hev2 hg (H.at (q := d.length % 2) (by omega)) (H.at (q := 1 - d.length % 2) (by omega))).trans (bt_iff R rfl rfl low)
  by_cases z : btP w h (gB d) (gH d) d.length
  · rw [btB_t z]; exact iff.mpr z
  · rw [btB_f z, ← Bool.not_eq_true]; exact fun y => z (iff.mp y)
