-- ===== more rows: shifts, long and truth-value tests, loops =====
def shlL (x : Int64) (k : Nat) : Int64 := x <<< ((nI k).toInt64 &&& 63)
def shrL (x : Int64) (k : Nat) : Int64 := (x.toUInt64 >>> ((nI k).toInt64.toUInt64 &&& Int64.toUInt64 63)).toInt64
section Rows2
variable {p : Program} {l : Launch} {e : Env} {R : Room} {s : State} {m : MethodId} {args : Array Value} {below : List Frame} {meth : Method} {c : Code} {H : Heap} {locs : List Loc} {cells slots : Nat} {Q : State → Prop}
variable {pc : Nat} {ls : Array Slot} {rest st0 : List Value} {cc : ByteArray}
theorem n_lshl {x : Int64} {k : Nat} (hx : p.tables.exec = Jvm.exec) (hb : c.code = cc) (hdg : decode cc pc = .ok (.lshl, 1)) (kk : W p l e R s m args below meth c H locs cells slots Q (F0 m (pc + 1) ls (.long (shlL x k) :: rest))) : W p l e R s m args below meth c H locs cells slots Q (F0 m pc ls (.int (nI k) :: .long x :: rest)) := lv_lshl hx hb hdg rfl kk
theorem n_lushr {x : Int64} {k : Nat} (hx : p.tables.exec = Jvm.exec) (hb : c.code = cc) (hdg : decode cc pc = .ok (.lushr, 1)) (kk : W p l e R s m args below meth c H locs cells slots Q (F0 m (pc + 1) ls (.long (shrL x k) :: rest))) : W p l e R s m args below meth c H locs cells slots Q (F0 m pc ls (.int (nI k) :: .long x :: rest)) := lv_lushr hx hb hdg rfl kk
theorem l_if_eq {x y : Int64} {off : Int} {tgt : Nat} (hx : p.tables.exec = Jvm.exec) (hb : c.code = cc) (hdg : decode cc pc = .ok (.ifCond .eq off, 3)) (ht : (pc : Int) + off = (tgt : Int))
    (kt : x = y → W p l e R s m args below meth c H locs cells slots Q (F0 m tgt ls rest)) (kf : ¬ x = y → W p l e R s m args below meth c H locs cells slots Q (F0 m (pc + 3) ls rest)) : W p l e R s m args below meth c H locs cells slots Q (F0 m pc ls (.int (lg_cmp x y) :: rest)) :=
  lv_if_eq hx hb hdg ht (fun h => kt ((lg_cmp_eq x y).mp h)) (fun h => kf (fun q => h ((lg_cmp_eq x y).mpr q)))
theorem l_if_ne {x y : Int64} {off : Int} {tgt : Nat} (hx : p.tables.exec = Jvm.exec) (hb : c.code = cc) (hdg : decode cc pc = .ok (.ifCond .ne off, 3)) (ht : (pc : Int) + off = (tgt : Int))
    (kt : ¬ x = y → W p l e R s m args below meth c H locs cells slots Q (F0 m tgt ls rest)) (kf : x = y → W p l e R s m args below meth c H locs cells slots Q (F0 m (pc + 3) ls rest)) : W p l e R s m args below meth c H locs cells slots Q (F0 m pc ls (.int (lg_cmp x y) :: rest)) :=
  lv_if_ne hx hb hdg ht (fun h => kt (fun q => h ((lg_cmp_eq x y).mpr q))) (fun h => kf ((lg_cmp_eq x y).mp h))
theorem b_if_eq {b : Bool} {off : Int} {tgt : Nat} (hx : p.tables.exec = Jvm.exec) (hb : c.code = cc) (hdg : decode cc pc = .ok (.ifCond .eq off, 3)) (ht : (pc : Int) + off = (tgt : Int))
    (kt : b = false → W p l e R s m args below meth c H locs cells slots Q (F0 m tgt ls rest)) (kf : b = true → W p l e R s m args below meth c H locs cells slots Q (F0 m (pc + 3) ls rest)) : W p l e R s m args below meth c H locs cells slots Q (F0 m pc ls (.int (bI b) :: rest)) :=
  lv_if_eq hx hb hdg ht (fun h => kt ((bI_eq0 b).mp h)) (fun h => kf (by cases b; exact absurd ((bI_eq0 false).mpr rfl) h; rfl))
theorem b_if_ne {b : Bool} {off : Int} {tgt : Nat} (hx : p.tables.exec = Jvm.exec) (hb : c.code = cc) (hdg : decode cc pc = .ok (.ifCond .ne off, 3)) (ht : (pc : Int) + off = (tgt : Int))
    (kt : b = true → W p l e R s m args below meth c H locs cells slots Q (F0 m tgt ls rest)) (kf : b = false → W p l e R s m args below meth c H locs cells slots Q (F0 m (pc + 3) ls rest)) : W p l e R s m args below meth c H locs cells slots Q (F0 m pc ls (.int (bI b) :: rest)) :=
  lv_if_ne hx hb hdg ht (fun h => kt (by cases b; exact absurd ((bI_eq0 false).mpr rfl) h; rfl)) (fun h => kf ((bI_eq0 b).mp h))
theorem rt_ldc {own : String} {index : Nat} {v w : Int32} (hx : p.tables.exec = Jvm.exec) (hb : c.code = cc) (hown : s.vm.findClass own = some m.cls) (hconst : (Jvm.Cond.constant own index w).before args s = true) (hv : w = v) (hdg : decode cc pc = .ok (.ldc index, 2)) (k : W p l e R s m args below meth c H locs cells slots Q (F0 m (pc + 2) ls (.int v :: rest))) : W p l e R s m args below meth c H locs cells slots Q (F0 m pc ls rest) := lv_ldc hx hb hown hconst hdg (by rw [hv]; exact k)
end Rows2
/-- a counted loop: at its head with i < N a round leads to the head with i + 1; with N it goes on behind -/
theorem loopW {σ : Type} {m : MethodId} {Wf : JFrame → Prop} (head nL : Nat) (lvf : Nat → σ → List (Nat × Value)) (Inv : Nat → σ → Prop) (N : Nat)
    (step : ∀ (i : Nat) (x : σ) (ls : Array Slot), i < N → Inv i x → lv_has ls nL (lvf i x) → (∀ (x' : σ) (ls' : Array Slot), Inv (i + 1) x' → lv_has ls' nL (lvf (i + 1) x') → Wf (F0 m head ls' [])) → Wf (F0 m head ls []))
    (exit : ∀ (x : σ) (ls : Array Slot), Inv N x → lv_has ls nL (lvf N x) → Wf (F0 m head ls [])) :
    ∀ (i : Nat) (x : σ) (ls : Array Slot), i ≤ N → Inv i x → lv_has ls nL (lvf i x) → Wf (F0 m head ls []) := by
  have key : ∀ (n i : Nat) (x : σ) (ls : Array Slot), N - i = n → i ≤ N → Inv i x → lv_has ls nL (lvf i x) → Wf (F0 m head ls []) := by
    intro n
    induction n with
    | zero =>
      intro i x ls h1 h2 hI hl
      obtain rfl : i = N := by omega
      exact exit x ls hI hl
    | succ n ih =>
      intro i x ls h1 h2 hI hl
      exact step i x ls (by omega) hI hl (fun x' ls' hI' hl' => ih (i + 1) x' ls' (by omega) (by omega) hI' hl')
  exact fun i x ls h hI hl => key _ i x ls rfl h hI hl
/-- a loop by a measure that falls -/
theorem loopM {σ : Type} {m : MethodId} {Wf : JFrame → Prop} (head nL : Nat) (lvf : σ → List (Nat × Value)) (Inv : σ → Prop) (μ : σ → Nat)
    (step : ∀ (x : σ) (ls : Array Slot), Inv x → lv_has ls nL (lvf x) → (∀ (x' : σ) (ls' : Array Slot), Inv x' → μ x' < μ x → lv_has ls' nL (lvf x') → Wf (F0 m head ls' [])) → Wf (F0 m head ls [])) :
    ∀ (x : σ) (ls : Array Slot), Inv x → lv_has ls nL (lvf x) → Wf (F0 m head ls []) := by
  have key : ∀ (n : Nat) (x : σ) (ls : Array Slot), μ x < n → Inv x → lv_has ls nL (lvf x) → Wf (F0 m head ls []) := by
    intro n
    induction n with
    | zero => intro x ls h; exact absurd h (Nat.not_lt_zero _)
    | succ n ih => exact fun x ls h hI hl => step x ls hI hl (fun x' ls' hI' h' hl' => ih x' ls' (by omega) hI' hl')
  exact fun x ls hI hl => key _ x ls (Nat.lt_succ_self _) hI hl
-- ===== the grid: its cells, what its methods answer =====
def stp (h j : Nat) : Nat := if j = 0 then 1 else if j = 1 then h else if j = 2 then h + 1 else h + 2
def sqL (h c r : Nat) : Int64 := shlL 1 (c * (h + 1) + r)
def colL (h c : Nat) : Int64 := shlL (shlL 1 (c * (h + 1))) h - shlL 1 (c * (h + 1))
def flrL (h : Nat) : Nat → Int64
  | 0 => 0
  | n + 1 => flrL h n ||| shlL 1 (n * (h + 1))
def allL (h : Nat) : Nat → Int64
  | 0 => 0
  | n + 1 => allL h n ||| colL h n
def lsL (x : Int64) (d : Nat) : Int64 := (x &&& shrL x d) &&& shrL (x &&& shrL x d) (2 * d)
def hlL (h : Nat) (x : Int64) : Bool := !(lsL x (stp h 0) == 0) || (!(lsL x (stp h 1) == 0) || (!(lsL x (stp h 2) == 0) || !(lsL x (stp h 3) == 0)))
def nxL (w h : Nat) (x : Int64) : Int64 := (x + flrL h w) &&& allL h w
def cpL (x : Int64) (d : Nat) : Int64 := ((shlL x d &&& shlL x (2 * d) &&& shlL x (3 * d)) ||| (shlL x d &&& shlL x (2 * d) &&& shrL x d)) ||| (shlL x d &&& (shrL x d &&& shrL x (2 * d))) ||| ((shrL x d &&& shrL x (2 * d)) &&& shrL x (3 * d))
def thL (w h : Nat) (x t : Int64) : Int64 := (((((0 ||| cpL x (stp h 0)) ||| cpL x (stp h 1)) ||| cpL x (stp h 2)) ||| cpL x (stp h 3)) &&& allL h w) &&& (t ^^^ (-1))
/-- the cells of a Grid -/
abbrev gW (cI cJ : ClassId) (w h g st cs : Nat) : va_W := [(g, .inr (1, [.int (nI w), .int (nI h), .long (allL h w), .long (flrL h w), .ref st, .ref cs])), (st, .inl (cI, 4, .inl (fun j => nI (stp h j)))), (cs, .inl (cJ, w, .inr (.inl (fun j => colL h j))))]
abbrev tyA (cI cJ cZ : ClassId) : List (ClassId × FieldType) := [(cI, .int), (cJ, .long), (cZ, .boolean)]
