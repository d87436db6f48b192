-- ===== M7: the safe moves =====
theorem tp_inc_self (tp : Nat → Nat) (c : Nat) : tp_inc tp c c = tp c + 1 := if_pos rfl
theorem tp_inc_ne (tp : Nat → Nat) {c c' : Nat} (h : c' ≠ c) : tp_inc tp c c' = tp c' := if_neg h
theorem Pos.safe {w h k : Nat} (hd : Dm w h) {tp : Nat → Nat} {M T : Sq} {m t : Int64} (H : Pos w h k tp M T m t) :
    (∀ c r, r ≤ h → tb (smL (nxL w h (m ||| t)) (thL w h t (m ||| t))) (ix h c r) = true → c < w ∧ r = tp c ∧ tp c < h ∧ ¬ badAt w h tp T c) ∧
    (∀ c, c < w → tp c < h → tb (smL (nxL w h (m ||| t)) (thL w h t (m ||| t))) (ix h c (tp c)) = false → badAt w h tp T c) := by
  obtain ⟨Hm, Ht, h1, h2, h3, h4, h5, h6⟩ := H
  have HU := Hm.or Ht
  have Hn := Rep.nx hd h1 HU h2
  have h64 := hd.2.2.2.2.2
  have hU : ∀ c r, tp c ≤ r → (M c r || T c r) = false := fun c r q => by
    have this : (M c r || T c r) = (decide (c < w) && decide (r < tp c)) := h2 c r
    rw [this, decide_eq_false (show ¬ r < tp c by omega)]; simp
  have thb : ∀ c r, r ≤ h → (tb (thL w h t (m ||| t)) (ix h c r) = true ↔ c < w ∧ r < h ∧ (M c r || T c r) = false ∧ hasL w h (sq_put T c r)) := fun c r hr => th_bit hd Ht HU h5 hr
  have nxb : ∀ c r, r ≤ h → (tb (nxL w h (m ||| t)) (ix h c r) = true ↔ c < w ∧ r < h ∧ r = tp c) := fun c r hr => by
    rw [Hn.1 c r hr]; simp [nxS]
  generalize nxL w h (m ||| t) = nx at nxb ⊢
  generalize thL w h t (m ||| t) = th at thb ⊢
  have Fb : ∀ c r, r ≤ h → (tb (nx &&& th) (ix h c r) = true ↔ c < w ∧ r = tp c ∧ tp c < h ∧ hasL w h (sq_put T c (tp c))) := by
    intro c r hr
    rw [tb_and, Bool.and_eq_true, nxb c r hr, thb c r hr]
    constructor
    · rintro ⟨⟨a1, a2, rfl⟩, b1, b2, b3, b4⟩
      exact ⟨a1, rfl, a2, b4⟩
    · rintro ⟨a1, rfl, a2, a3⟩
      exact ⟨⟨a1, a2, rfl⟩, a1, a2, hU _ _ (Nat.le_refl _), a3⟩
  have two : ∀ c c', c < w → c' < w → c ≠ c' → tb (nx &&& th) (ix h c (tp c)) = true → tb (nx &&& th) (ix h c' (tp c')) = true → 1 < popN (nx &&& th) 64 := by
    intro c c' hc hc' hne e e'
    have l1 := ix_lt hc (h1 c hc)
    have l2 := ix_lt hc' (h1 c' hc')
    have ne : ix h c (tp c) ≠ ix h c' (tp c') := fun q => hne (ix_inj (h1 c hc) (h1 c' hc') q).1
    rcases Nat.lt_or_gt_of_ne ne with q | q
    · exact popN_two' q e e' (by omega)
    · exact popN_two' q e' e (by omega)
  have sh : ∀ c r, tb (shrL th 1) (ix h c r) = tb th (ix h c (r + 1)) := fun c r => by
    rw [tb_shr (by decide), Nat.add_comm 1, ix_up]
  constructor
  · intro c r hr e
    unfold smL at e
    by_cases hp : 1 < popN (nx &&& th) 64
    · rw [if_pos hp, tb_0] at e; cases e
    · rw [if_neg hp, tb_and, Bool.and_eq_true] at e
      obtain ⟨e1, e2⟩ := e
      have en : tb nx (ix h c r) = true := by
        by_cases hF : nx &&& th = 0
        · rw [if_pos hF] at e1; exact e1
        · rw [if_neg hF, tb_and, Bool.and_eq_true] at e1; exact e1.1
      obtain ⟨hc, hrh, rfl⟩ := (nxb c r hr).mp en
      refine ⟨hc, rfl, hrh, ?_⟩
      rintro ⟨c', hc', hr', hl'⟩
      have l1 := ix_lt hc hr
      by_cases ec : c' = c
      · subst ec
        rw [tp_inc_self] at hr' hl'
        rw [tb_not _ (by omega), sh, Bool.not_eq_true'] at e2
        have := (thb c' (tp c' + 1) (by omega)).mpr ⟨hc', hr', hU _ _ (by omega), hl'⟩
        rw [e2] at this; cases this
      · rw [tp_inc_ne tp ec] at hr' hl'
        have eF := (Fb c' (tp c') (by omega)).mpr ⟨hc', rfl, hr', hl'⟩
        rw [if_neg (bit_nz eF)] at e1
        exact hp (two c c' hc hc' (Ne.symm ec) e1 eF)
  · intro c hc hr e
    have hle : tp c ≤ h := h1 c hc
    have l1 := ix_lt hc hle
    have en : tb nx (ix h c (tp c)) = true := (nxb c (tp c) hle).mpr ⟨hc, hr, rfl⟩
    have other : ∀ c', tb (nx &&& th) (ix h c' (tp c')) = true → tp c' ≤ h → c' ≠ c → badAt w h tp T c := by
      intro c' q ql hne
      obtain ⟨a1, -, a2, a3⟩ := (Fb c' (tp c') ql).mp q
      exact ⟨c', a1, by rw [tp_inc_ne tp hne]; exact a2, by rw [tp_inc_ne tp hne]; exact a3⟩
    have above : tb (shrL th 1 ^^^ (-1)) (ix h c (tp c)) = false → badAt w h tp T c := by
      intro q
      rw [tb_not _ (by omega), sh, Bool.not_eq_false'] at q
      have a := (thb c (tp c + 1) (by omega)).mp q
      exact ⟨c, hc, by rw [tp_inc_self]; exact a.2.1, by rw [tp_inc_self]; exact a.2.2.2⟩
    unfold smL at e
    by_cases hp : 1 < popN (nx &&& th) 64
    · obtain ⟨i, j, hij, hj, bi, bj⟩ := popN_two hp
      obtain ⟨c1, r1, q1, rfl⟩ := ix_of h i
      obtain ⟨c2, r2, q2, rfl⟩ := ix_of h j
      obtain ⟨a1, rfl, a2, a3⟩ := (Fb c1 r1 q1).mp bi
      obtain ⟨b1, rfl, b2, b3⟩ := (Fb c2 r2 q2).mp bj
      by_cases ec : c1 = c
      · have hne : c2 ≠ c := fun q => by rw [ec, q] at hij; exact absurd hij (Nat.lt_irrefl _)
        exact other c2 bj q2 hne
      · exact other c1 bi q1 ec
    · rw [if_neg hp, tb_and] at e
      by_cases hF : nx &&& th = 0
      · rw [if_pos hF, en, Bool.true_and] at e
        exact above e
      · rw [if_neg hF] at e
        cases eF : tb (nx &&& th) (ix h c (tp c))
        · obtain ⟨i, -, bi⟩ := nz_bit hF
          obtain ⟨c1, r1, q1, rfl⟩ := ix_of h i
          obtain ⟨a1, rfl, a2, a3⟩ := (Fb c1 r1 q1).mp bi
          refine other c1 bi q1 (fun q => ?_)
          subst q
          rw [eF] at bi; cases bi
        · rw [eF, Bool.true_and] at e
          exact above e
