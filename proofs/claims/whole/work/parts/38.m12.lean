-- ===== M12: the reference's hash table =====
/-- pigeons -/
theorem php : ∀ (M N : Nat) (f : Nat → Nat), (∀ i, i < N → f i < M) → (∀ i j, i < N → j < N → f i = f j → i = j) → N ≤ M
  | 0, N, f, h1, _ => by
    rcases Nat.eq_zero_or_pos N with q | q
    · omega
    · exact absurd (h1 0 q) (Nat.not_lt_zero _)
  | M + 1, N, f, h1, h2 => by
    rcases Nat.eq_zero_or_pos N with q | q
    · omega
    · obtain ⟨K, rfl⟩ : ∃ K, N = K + 1 := ⟨N - 1, by omega⟩
      -- the last pigeon's hole is given to the one that sits in hole M
      have := php M K (fun i => if f i = M then f K else f i) (fun i hi => by
        show (if f i = M then f K else f i) < M
        split
        · rename_i e
          have a := h1 K (by omega)
          have b : f K ≠ M := fun z => by have := h2 i K (by omega) (by omega) (by rw [e, z]); omega
          omega
        · rename_i e
          have a := h1 i (by omega)
          omega) (fun i j hi hj e => by
        have e : (if f i = M then f K else f i) = (if f j = M then f K else f j) := e
        by_cases ei : f i = M
        · by_cases ej : f j = M
          · exact h2 i j (by omega) (by omega) (by rw [ei, ej])
          · rw [if_pos ei, if_neg ej] at e
            have := h2 K j (by omega) (by omega) e; omega
        · by_cases ej : f j = M
          · rw [if_neg ei, if_pos ej] at e
            have := h2 i K (by omega) (by omega) e; omega
          · rw [if_neg ei, if_neg ej] at e
            exact h2 i j (by omega) (by omega) e)
      omega
/-- the hash table holds the entries 1 .. po - 1 -/
def TabOK (po : Nat) (wh sb sl : Nat → Nat) : Prop :=
  (∀ a, sl a ≤ po) ∧ (∀ a a', a < 262144 → a' < 262144 → sl a = sl a' → sl a ≠ 0 → a = a') ∧ (∀ a, sl a ≠ 1) ∧
  (∀ j, 1 ≤ j → j < po → ∃ i, i < 262144 ∧ sl ((hsN (wh j) (sb j) + i) % 262144) = j + 1 ∧ ∀ i', i' < i → sl ((hsN (wh j) (sb j) + i') % 262144) ≠ 0) ∧
  (∀ j j', j < po → j' < po → wh j = wh j' → sb j = sb j' → j = j')
/-- there is a free place -/
theorem TabOK.free {po : Nat} {wh sb sl : Nat → Nat} (H : TabOK po wh sb sl) (hpo : po ≤ 70000) : ∃ a, a < 262144 ∧ sl a = 0 := by
  by_cases q : ∃ a, a < 262144 ∧ sl a = 0
  · exact q
  · exfalso
    have nz : ∀ a, a < 262144 → sl a ≠ 0 := fun a ha e => q ⟨a, ha, e⟩
    have := php (po + 1) 262144 sl (fun a _ => by have := H.1 a; omega) (fun a a' h1 h2 e => H.2.1 a a' h1 h2 e (nz a h1))
    omega
theorem TabOK.stop {po : Nat} {wh sb sl : Nat → Nat} (H : TabOK po wh sb sl) (hpo : po ≤ 70000) (hw b : Nat) : ∃ j0, stB sl wh sb hw b ((hsN hw b + j0) % 262144) = true := by
  obtain ⟨a, ha, e⟩ := H.free hpo
  have hh : hsN hw b < 262144 := Nat.mod_lt _ (by decide)
  refine ⟨(a + 262144 - hsN hw b) % 262144, ?_⟩
  have : (hsN hw b + (a + 262144 - hsN hw b) % 262144) % 262144 = a := by omega
  rw [this]
  unfold stB
  rw [decide_eq_true e]; rfl
/-- where probing stops, and what lies before -/
theorem prb_is (st : Nat → Bool) : ∀ (k a : Nat), a < 262144 → st ((a + k) % 262144) = true → ∃ i, i ≤ k ∧ prb st k a = (a + i) % 262144 ∧ st ((a + i) % 262144) = true ∧ ∀ i', i' < i → st ((a + i') % 262144) = false
  | 0, a, ha, h => ⟨0, Nat.le_refl 0, by show a = _; rw [Nat.add_zero, Nat.mod_eq_of_lt ha], h, fun i' q => absurd q (Nat.not_lt_zero _)⟩
  | k + 1, a, ha, h => by
    unfold prb
    by_cases q : st a = true
    · rw [if_pos q]
      exact ⟨0, Nat.zero_le _, by rw [Nat.add_zero, Nat.mod_eq_of_lt ha], by rw [Nat.add_zero, Nat.mod_eq_of_lt ha]; exact q, fun i' z => absurd z (Nat.not_lt_zero _)⟩
    · rw [if_neg q]
      have e : ∀ i, ((a + 1) % 262144 + i) % 262144 = (a + (i + 1)) % 262144 := fun i => by rw [Nat.mod_add_mod, show a + 1 + i = a + (i + 1) by omega]
      obtain ⟨i, h1, h2, h3, h4⟩ := prb_is st k ((a + 1) % 262144) (Nat.mod_lt _ (by decide)) (by rw [e]; exact h)
      refine ⟨i + 1, by omega, by rw [h2, e], by rw [← e]; exact h3, fun i' hi' => ?_⟩
      by_cases z : i' = 0
      · subst z
        rw [Nat.add_zero, Nat.mod_eq_of_lt ha]
        cases w : st a
        · rfl
        · exact absurd w q
      · obtain ⟨i2, rfl⟩ : ∃ i2, i' = i2 + 1 := ⟨i' - 1, by omega⟩
        rw [← e]; exact h4 i2 (by omega)
/-- an entry is found -/
theorem TabOK.find {po : Nat} {wh sb sl : Nat → Nat} (H : TabOK po wh sb sl) {j : Nat} (h1 : 1 ≤ j) (h2 : j < po) {j0 : Nat} (hj0 : stB sl wh sb (wh j) (sb j) ((hsN (wh j) (sb j) + j0) % 262144) = true) : sl (prb (stB sl wh sb (wh j) (sb j)) j0 (hsN (wh j) (sb j))) = j + 1 := by
  have hh : hsN (wh j) (sb j) < 262144 := Nat.mod_lt _ (by decide)
  obtain ⟨i, q1, q2, q3, q4⟩ := prb_is (stB sl wh sb (wh j) (sb j)) j0 _ hh hj0
  obtain ⟨i0, p1, p2, p3⟩ := H.2.2.2.1 j h1 h2
  rw [q2]
  -- the place where the entry lies stops the search
  have hs : stB sl wh sb (wh j) (sb j) ((hsN (wh j) (sb j) + i0) % 262144) = true := by
    unfold stB
    rw [p2, Nat.add_sub_cancel]; simp
  have le : i ≤ i0 := by
    rcases Nat.lt_or_ge i0 i with z | z
    · rw [q4 i0 z] at hs; cases hs
    · exact z
  by_cases e : i = i0
  · rw [e]; exact p2
  · have nz := p3 i (by omega)
    unfold stB at q3
    rw [decide_eq_false nz, Bool.false_or, Bool.and_eq_true, decide_eq_true_eq, decide_eq_true_eq] at q3
    have b1 := H.1 ((hsN (wh j) (sb j) + i) % 262144)
    have b2 := H.2.2.1 ((hsN (wh j) (sb j) + i) % 262144)
    have := H.2.2.2.2 (sl ((hsN (wh j) (sb j) + i) % 262144) - 1) j (by omega) h2 q3.1 q3.2
    omega
/-- what is found is the entry -/
theorem TabOK.found {po : Nat} {wh sb sl : Nat → Nat} (H : TabOK po wh sb sl) {hw b j0 : Nat} (hj0 : stB sl wh sb hw b ((hsN hw b + j0) % 262144) = true) (hnz : sl (prb (stB sl wh sb hw b) j0 (hsN hw b)) ≠ 0) : ∃ j, 1 ≤ j ∧ j < po ∧ wh j = hw ∧ sb j = b := by
  have hh : hsN hw b < 262144 := Nat.mod_lt _ (by decide)
  obtain ⟨i, q1, q2, q3, q4⟩ := prb_is (stB sl wh sb hw b) j0 _ hh hj0
  rw [q2] at hnz
  unfold stB at q3
  rw [decide_eq_false hnz, Bool.false_or, Bool.and_eq_true, decide_eq_true_eq, decide_eq_true_eq] at q3
  have b1 := H.1 ((hsN hw b + i) % 262144)
  have b2 := H.2.2.1 ((hsN hw b + i) % 262144)
  exact ⟨sl ((hsN hw b + i) % 262144) - 1, by omega, by omega, q3.1, q3.2⟩
/-- a new entry -/
theorem TabOK.add {po : Nat} {wh sb sl : Nat → Nat} (H : TabOK po wh sb sl) (hpo : 1 ≤ po) {hw b j0 : Nat} (hj0 : stB sl wh sb hw b ((hsN hw b + j0) % 262144) = true) (hz : sl (prb (stB sl wh sb hw b) j0 (hsN hw b)) = 0) (hr : ¬ (wh 0 = hw ∧ sb 0 = b)) :
    TabOK (po + 1) (va_up wh po hw) (va_up sb po b) (va_up sl (prb (stB sl wh sb hw b) j0 (hsN hw b)) (po + 1)) := by
  have hh : hsN hw b < 262144 := Nat.mod_lt _ (by decide)
  obtain ⟨i, q1, q2, q3, q4⟩ := prb_is (stB sl wh sb hw b) j0 _ hh hj0
  have hnew : ∀ j, j < po → ¬ (wh j = hw ∧ sb j = b) := by
    intro j hj z
    rcases Nat.eq_zero_or_pos j with rfl | q
    · exact hr z
    · have := H.find (j := j) q hj (j0 := j0) (by rw [z.1, z.2]; exact hj0)
      rw [z.1, z.2, hz] at this; omega
  rw [q2] at hz ⊢
  generalize hat : (hsN hw b + i) % 262144 = at0 at hz q3 ⊢
  obtain ⟨t1, t2, t3, t4, t5⟩ := H
  have up : ∀ a, va_up sl at0 (po + 1) a = if a = at0 then po + 1 else sl a := fun a => rfl
  have uw : ∀ a, va_up wh po hw a = if a = po then hw else wh a := fun a => rfl
  have us : ∀ a, va_up sb po b a = if a = po then b else sb a := fun a => rfl
  refine ⟨fun a => ?_, fun a a' ha ha' e ne => ?_, fun a => ?_, fun j h1 h2 => ?_, fun j j' h1 h2 e1 e2 => ?_⟩
  · rw [up]; split
    · exact Nat.le_refl _
    · have := t1 a; omega
  · rw [up] at e ne
    rw [up] at e
    by_cases z : a = at0
    · by_cases z' : a' = at0
      · rw [z, z']
      · rw [if_pos z, if_neg z'] at e
        have := t1 a'; omega
    · by_cases z' : a' = at0
      · rw [if_neg z, if_pos z'] at e
        have := t1 a; omega
      · rw [if_neg z, if_neg z'] at e
        rw [if_neg z] at ne
        exact t2 a a' ha ha' e ne
  · rw [up]; split
    · omega
    · exact t3 a
  · by_cases e : j = po
    · rw [uw, us, if_pos e, if_pos e]
      refine ⟨i % 262144, Nat.mod_lt _ (by decide), ?_, fun i' hi' => ?_⟩
      · rw [show (hsN hw b + i % 262144) % 262144 = at0 by rw [Nat.add_mod_mod]; exact hat, up, if_pos rfl, e]
      · have := q4 i' (Nat.lt_of_lt_of_le hi' (Nat.mod_le _ _))
        rw [up]; split
        · omega
        · intro z
          unfold stB at this
          rw [decide_eq_true z] at this; cases this
    · rw [uw, us, if_neg e, if_neg e]
      obtain ⟨i0, p1, p2, p3⟩ := t4 j h1 (by omega)
      refine ⟨i0, p1, ?_, fun i' hi' => ?_⟩
      · rw [up, if_neg (fun z => by rw [z, hz] at p2; omega)]; exact p2
      · rw [up]; split
        · omega
        · exact p3 i' hi'
  · rw [uw, uw] at e1
    rw [us, us] at e2
    by_cases z : j = po
    · by_cases z' : j' = po
      · rw [z, z']
      · rw [if_pos z, if_neg z'] at e1 e2
        exact absurd ⟨e1.symm, e2.symm⟩ (hnew j' (by omega))
    · by_cases z' : j' = po
      · rw [if_neg z, if_pos z'] at e1 e2
        exact absurd ⟨e1, e2⟩ (hnew j (by omega))
      · rw [if_neg z, if_neg z'] at e1 e2
        exact t5 j j' (by omega) (by omega) e1 e2
