-- ===== M17: the first best column =====
noncomputable def bfZ (ok : Nat → Bool) : Nat → Int
  | 0 => -1
  | c + 1 => if ok c = true ∧ bfZ ok c < 0 then (c : Int) else bfZ ok c
theorem bfZ_bd (ok : Nat → Bool) : ∀ c, -1 ≤ bfZ ok c ∧ bfZ ok c ≤ c
  | 0 => by simp [bfZ]
  | c + 1 => by
    have := bfZ_bd ok c
    unfold bfZ
    split <;> omega
noncomputable def evW (w h : Nat) (B : Nat → Int32) (ht : Nat → Nat) (n E W0 b : Nat) (c : Nat) : Bool := decide (ht c < h) && decide (evM w h B ht n E W0 b c = evS w h B ht n E W0 b)
theorem evW_iff {w h : Nat} {B : Nat → Int32} {ht : Nat → Nat} {n E W0 b c : Nat} : evW w h B ht n E W0 b c = true ↔ ht c < h ∧ evM w h B ht n E W0 b c = evS w h B ht n E W0 b := by simp [evW]
theorem TblOK.root {w h : Nat} {B : Nat → Int32} {ht : Nat → Nat} {n E po : Nat} {wh sb : Nat → Nat} {V : Nat → Int32} {sl we of_ : Nat → Nat} (R : RootOK w h B ht n E) (T : TblOK w h B ht n E po wh sb V sl we of_) : sdN w h ht (wh 0) = 0 ∧ V 0 = zI (evV w h B ht n E (wh 0) (sb 0)) ∧ (∀ c, tpE h ht (wh 0) c = ht c) := by
  have r := (EntOK.root R).2.1
  refine ⟨by rw [T.1.2.1.1]; exact r, T.2.2.1 0 T.1.2.2.1, fun c => by rw [T.1.2.1.1]; unfold tpE; rw [dgN_0]; rfl⟩
theorem evV_eq {w h : Nat} {B : Nat → Int32} {ht : Nat → Nat} {n E W0 b c : Nat} (hE : E ≤ 12) (hk : sdN w h ht W0 < E) : s2v (E - sdN w h ht W0) (evM w h B ht n E W0 b c) = evV w h B ht n E W0 b ↔ evM w h B ht n E W0 b c = evS w h B ht n E W0 b := by
  have b1 := ev_bd w h B ht n E W0 b
  have b2 := evM_bd (B := B) (n := n) hk b c
  exact s2v_inj (by omega) b2.1 b2.2 b1.1 b1.2
