-- ===== the class's cells, and what its small methods answer =====
/-- the sizes of a board -/
def Dm (w h : Nat) : Prop := 3 ≤ w ∧ w ≤ 9 ∧ 3 ≤ h ∧ h ≤ 7 ∧ w * h ≤ 63 ∧ w * (h + 1) ≤ 64
/-- the cells of a DropFour that its reading methods use -/
abbrev xW (cI cJ : ClassId) (w h x sn hs hi g st cs fo se : Nat) (S : Nat → Int64) (ht hy : Nat → Nat) (n : Nat) : va_W :=
  [(x, .inr (4, [.ref g, .ref se, .ref fo, .ref sn, .ref hs, .ref hi, .int (nI n)])), (sn, .inl (cJ, 2, .inr (.inl S))), (hs, .inl (cI, w, .inl (fun j => nI (ht j)))), (hi, .inl (cI, w * h, .inl (fun j => nI (hy j)))),
   (g, .inr (1, [.int (nI w), .int (nI h), .long (allL h w), .long (flrL h w), .ref st, .ref cs])), (st, .inl (cI, 4, .inl (fun j => nI (stp h j)))), (cs, .inl (cJ, w, .inr (.inl (fun j => colL h j))))]
def icB (w : Nat) (k : Int32) : Bool := !decide (k < 0) && !decide (nI w ≤ k)
def ipB (k : Int32) : Bool := decide (k = 0) || decide (k = 1)
def wnI (w h : Nat) (S : Nat → Int64) (n : Nat) : Int32 := if hlL h (S 0) then 0 else if hlL h (S 1) then 1 else if w * h - n = 0 then 2 else -1
def ovB (w h : Nat) (S : Nat → Int64) (n : Nat) : Bool := hlL h (S 0) || (hlL h (S 1) || decide (w * h - n = 0))
def cvB (w h : Nat) (S : Nat → Int64) (n : Nat) : Bool := decide (w * h - n ≤ 12) && !ovB w h S n
def evB (h : Nat) (ht : Nat → Nat) : Nat → Bool
  | 0 => true
  | n + 1 => evB h ht n && decide ((h - ht n) % 2 = 0)
theorem evB_no {h : Nat} {ht : Nat → Nat} {i : Nat} (hi : ¬ (h - ht i) % 2 = 0) : ∀ {n : Nat}, i < n → evB h ht n = false
  | 0, h0 => absurd h0 (Nat.not_lt_zero _)
  | n + 1, h0 => by
    unfold evB
    by_cases e : i = n
    · subst e; simp [hi]
    · rw [evB_no hi (n := n) (by omega)]; rfl
def clN (h : Nat) (x : Int64) : Nat := (((0 + popN (lsL x (stp h 0)) 64) + popN (lsL x (stp h 1)) 64) + popN (lsL x (stp h 2)) 64) + popN (lsL x (stp h 3)) 64
def smL (nx th : Int64) : Int64 := if 1 < popN (nx &&& th) 64 then 0 else (if nx &&& th = 0 then nx else nx &&& th) &&& (shrL th 1 ^^^ (-1))
/-- the cells of a Memory -/
abbrev mW (cI cJ : ClassId) (me ks le mo : Nat) (K : Nat → Int64) (lf mf : Nat → Int32) : va_W :=
  [(me, .inr (2, [.ref ks, .ref le, .ref mo])), (ks, .inl (cJ, 1024, .inr (.inl K))), (le, .inl (cI, 1024, .inl lf)), (mo, .inl (cI, 1024, .inl mf))]
def mid (w j : Nat) : Nat := if j % 2 = 0 then w / 2 + j / 2 else w / 2 - (j + 1) / 2
/-- the cells of a Search, with its Grid and its Memory -/
abbrev seW (cI cJ : ClassId) (w h se mi g st cs me ks le mo : Nat) (K : Nat → Int64) (lf mf : Nat → Int32) : va_W :=
  [(se, .inr (3, [.ref g, .ref me, .ref mi])), (mi, .inl (cJ, w, .inr (.inl (fun j => colL h (mid w j))))),
   (g, .inr (1, [.int (nI w), .int (nI h), .long (allL h w), .long (flrL h w), .ref st, .ref cs])), (st, .inl (cI, 4, .inl (fun j => nI (stp h j)))), (cs, .inl (cJ, w, .inr (.inl (fun j => colL h j)))),
   (me, .inr (2, [.ref ks, .ref le, .ref mo])), (ks, .inl (cJ, 1024, .inr (.inl K))), (le, .inl (cI, 1024, .inl lf)), (mo, .inl (cI, 1024, .inl mf))]
def laZ (w h : Nat) (x : Int64) (k : Nat) : Int := if hlL h (allL h w &&& (x ^^^ (-1))) then 3 - (k : Int) else 0
def maZ (w h : Nat) (x : Int64) (k : Nat) : Int := if hlL h (allL h w &&& (x ^^^ (-1))) then (k : Int) - 2 else 0
def btI (k : Int32) (m : Nat) : Int32 := if nI 3 < (if k < nI m then k else nI m) then (if k < nI m then k else nI m) else nI 3
def idI (e : Nat) (k : Int32) : Int32 := if k = 0 then 0 else if k ≤ 0 then -(nI (e + 1) - (if 0 ≤ k then k else 0 - k)) else nI (e + 1) - (if 0 ≤ k then k else 0 - k)
