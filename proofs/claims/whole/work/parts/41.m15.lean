-- ===== M15: the reference looks ahead: the values =====
section Rows6
variable {p : Program} {l : Launch} {e : Env} {R : Room} {s : State} {m : MethodId} {args : Array Value} {below : List Frame} {meth : Method} {c : Code} {H : Heap} {locs : List Loc} {cells slots : Nat} {Q : State → Prop}
variable {pc : Nat} {ls : Array Slot} {rest st0 : List Value} {cc : ByteArray}
theorem z_if_lt {a : Int} {off : Int} {tgt : Nat} (hx : p.tables.exec = Jvm.exec) (hb : c.code = cc) (hdg : decode cc pc = .ok (.ifCond .lt off, 3)) (ht : (pc : Int) + off = (tgt : Int)) (ha : zB a)
    (kt : a < 0 → W p l e R s m args below meth c H locs cells slots Q (F0 m tgt ls rest)) (kf : 0 ≤ a → W p l e R s m args below meth c H locs cells slots Q (F0 m (pc + 3) ls rest)) : W p l e R s m args below meth c H locs cells slots Q (F0 m pc ls (.int (zI a) :: rest)) :=
  have b0 : zB 0 := by unfold zB; omega
  lv_if_lt hx hb hdg ht (fun h => kt ((zI_lt ha b0).mp h)) (fun h => kf (Int.not_lt.mp fun q => h ((zI_lt ha b0).mpr q)))
end Rows6
def weS (h : Nat) (ht we : Nat → Nat) (c : Nat) : Nat → Nat := fun j => if j < c then prN h ht j else we j
def ofS (h : Nat) (ht of_ : Nat → Nat) (c : Nat) : Nat → Nat := fun j => if j < c then ofN h ht j else of_ j
def slC (sl : Nat → Nat) (k : Nat) : Nat → Nat := fun a => if a < k then 0 else sl a
theorem weS_0 (h : Nat) (ht we : Nat → Nat) : weS h ht we 0 = we := by funext j; simp [weS]
theorem ofS_0 (h : Nat) (ht of_ : Nat → Nat) : ofS h ht of_ 0 = of_ := by funext j; simp [ofS]
theorem slC_0 (sl : Nat → Nat) : slC sl 0 = sl := by funext j; simp [slC]
theorem weS_s (h : Nat) (ht we : Nat → Nat) (c : Nat) : va_up (weS h ht we c) c (prN h ht c) = weS h ht we (c + 1) := by
  funext j
  show (if j = c then _ else if j < c then _ else _) = if j < c + 1 then _ else _
  by_cases e : j = c
  · subst e; rw [if_pos rfl, if_pos (by omega)]
  · rw [if_neg e]
    by_cases z : j < c
    · rw [if_pos z, if_pos (by omega)]
    · rw [if_neg z, if_neg (by omega)]
theorem ofS_s (h : Nat) (ht of_ : Nat → Nat) (c : Nat) : va_up (ofS h ht of_ c) c (ofN h ht c) = ofS h ht of_ (c + 1) := by
  funext j
  show (if j = c then _ else if j < c then _ else _) = if j < c + 1 then _ else _
  by_cases e : j = c
  · subst e; rw [if_pos rfl, if_pos (by omega)]
  · rw [if_neg e]
    by_cases z : j < c
    · rw [if_pos z, if_pos (by omega)]
    · rw [if_neg z, if_neg (by omega)]
theorem slC_s (sl : Nat → Nat) (k : Nat) : va_up (slC sl k) k 0 = slC sl (k + 1) := by
  funext j
  show (if j = k then _ else if j < k then _ else _) = if j < k + 1 then _ else _
  by_cases e : j = k
  · subst e; rw [if_pos rfl, if_pos (by omega)]
  · rw [if_neg e]
    by_cases z : j < k
    · rw [if_pos z, if_pos (by omega)]
    · rw [if_neg z, if_neg (by omega)]
theorem slC_e {sl : Nat → Nat} (h : ∀ a, 262144 ≤ a → sl a = 0) : slC sl 262144 = fun _ => 0 := by
  funext j
  unfold slC
  by_cases e : j < 262144
  · rw [if_pos e]
  · rw [if_neg e, h j (by omega)]
/-- the layers from L on have their values -/
def VdA (w h : Nat) (B : Nat → Int32) (ht : Nat → Nat) (n E po : Nat) (wh sb : Nat → Nat) (V : Nat → Int32) (L : Nat) : Prop := ∀ j, j < po → L ≤ sdN w h ht (wh j) → V j = zI (evV w h B ht n E (wh j) (sb j))
def VdQ (w h : Nat) (B : Nat → Int32) (ht : Nat → Nat) (n E po : Nat) (wh sb : Nat → Nat) (V : Nat → Int32) (k q : Nat) : Prop := ∀ j, j < po → (k < sdN w h ht (wh j) ∨ (sdN w h ht (wh j) = k ∧ j < q)) → V j = zI (evV w h B ht n E (wh j) (sb j))
theorem VdA.layer {w h : Nat} {B : Nat → Int32} {ht : Nat → Nat} {n E po : Nat} {wh sb la : Nat → Nat} {V : Nat → Int32} {k : Nat} (H : VdA w h B ht n E po wh sb V (k + 1)) (L : LaOK w h ht po wh la E) (hk : k < E) : VdQ w h B ht n E po wh sb V k (la k) := by
  intro j hj z
  rcases z with z | ⟨z1, z2⟩
  · exact H j hj z
  · have := ((L k (by omega)).2 j hj).mp z2; omega
theorem VdQ.layer {w h : Nat} {B : Nat → Int32} {ht : Nat → Nat} {n E po : Nat} {wh sb la : Nat → Nat} {V : Nat → Int32} {k : Nat} (H : VdQ w h B ht n E po wh sb V k (la (k + 1))) (L : LaOK w h ht po wh la E) (hk : k < E) : VdA w h B ht n E po wh sb V k := by
  intro j hj z
  refine H j hj ?_
  by_cases e : sdN w h ht (wh j) = k
  · exact Or.inr ⟨e, ((L (k + 1) (by omega)).2 j hj).mpr (by omega)⟩
  · exact Or.inl (by omega)
theorem VdQ.next {w h : Nat} {B : Nat → Int32} {ht : Nat → Nat} {n E po : Nat} {wh sb : Nat → Nat} {V : Nat → Int32} {k q : Nat} (H : VdQ w h B ht n E po wh sb V k q) {z : Int} (hz : z = evV w h B ht n E (wh q) (sb q)) : VdQ w h B ht n E po wh sb (upd V q (zI z)) k (q + 1) := by
  intro j hj y
  by_cases e : j = q
  · subst e; rw [pk_us, hz]
  · rw [pk_un e]
    exact H j hj (y.imp id (fun y => ⟨y.1, by omega⟩))
def bsI (w h : Nat) (B : Nat → Int32) (ht : Nat → Nat) (n E W0 b c : Nat) (bz : Int) : Prop :=
  ((∀ c', c' < c → ¬ tpE h ht W0 c' < h) ∧ bz = -999) ∨ ((∃ c', c' < c ∧ tpE h ht W0 c' < h) ∧ bz = s2v (E - sdN w h ht W0) (bestOf (fun c => decide (tpE h ht W0 c < h)) (evM w h B ht n E W0 b) (-((E - sdN w h ht W0 : Nat) : Int)) c))
theorem evB_bd {w h : Nat} {B : Nat → Int32} {ht : Nat → Nat} {n E W0 b : Nat} (hk : sdN w h ht W0 < E) (c : Nat) : -((E - sdN w h ht W0 : Nat) : Int) ≤ bestOf (fun c => decide (tpE h ht W0 c < h)) (evM w h B ht n E W0 b) (-((E - sdN w h ht W0 : Nat) : Int)) c ∧ bestOf (fun c => decide (tpE h ht W0 c < h)) (evM w h B ht n E W0 b) (-((E - sdN w h ht W0 : Nat) : Int)) c ≤ ((E - sdN w h ht W0 : Nat) : Int) :=
  ⟨bestOf_lo _ _ _ _, bestOf_le (by omega) (fun c' _ _ => (evM_bd hk b c').2)⟩
theorem bsI.bd {w h : Nat} {B : Nat → Int32} {ht : Nat → Nat} {n E W0 b c : Nat} {bz : Int} (hk : sdN w h ht W0 < E) (hE : E ≤ 12) (H : bsI w h B ht n E W0 b c bz) : -999 ≤ bz ∧ bz ≤ 13 := by
  rcases H with ⟨-, e⟩ | ⟨-, e⟩
  · omega
  · have bd := evB_bd (B := B) (n := n) (b := b) hk c
    have := s2v_bd bd.1 bd.2
    omega
theorem bsI.start (w h : Nat) (B : Nat → Int32) (ht : Nat → Nat) (n E W0 b : Nat) : bsI w h B ht n E W0 b 0 (-999) := Or.inl ⟨fun c h => absurd h (Nat.not_lt_zero _), rfl⟩
theorem bsI.skip {w h : Nat} {B : Nat → Int32} {ht : Nat → Nat} {n E W0 b c : Nat} {bz : Int} (H : bsI w h B ht n E W0 b c bz) (hno : ¬ tpE h ht W0 c < h) : bsI w h B ht n E W0 b (c + 1) bz := by
  rcases H with ⟨a, e⟩ | ⟨⟨c', a, a'⟩, e⟩
  · refine Or.inl ⟨fun c' h' => ?_, e⟩
    by_cases z : c' = c
    · subst z; exact hno
    · exact a c' (by omega)
  · refine Or.inr ⟨⟨c', by omega, a'⟩, ?_⟩
    rw [e]
    congr 1
    rw [bestOf, if_neg (by simpa using hno)]
theorem bsI.first {w h : Nat} {B : Nat → Int32} {ht : Nat → Nat} {n E W0 b c : Nat} {bz v : Int} (hk : sdN w h ht W0 < E) (hE : E ≤ 12) (H : bsI w h B ht n E W0 b c bz) (h9 : bz = -999) (hc : tpE h ht W0 c < h) (hv : v = s2v (E - sdN w h ht W0) (evM w h B ht n E W0 b c)) : bsI w h B ht n E W0 b (c + 1) v := by
  refine Or.inr ⟨⟨c, Nat.lt_succ_self _, hc⟩, ?_⟩
  rcases H with ⟨a, -⟩ | ⟨-, e⟩
  · rw [hv, bestOf, if_pos (decide_eq_true hc)]
    congr 1
    have : ∀ i, i ≤ c → bestOf (fun c => decide (tpE h ht W0 c < h)) (evM w h B ht n E W0 b) (-((E - sdN w h ht W0 : Nat) : Int)) i = -((E - sdN w h ht W0 : Nat) : Int) := by
      intro i
      induction i with
      | zero => intro _; rfl
      | succ i ih => intro hi; rw [bestOf, if_neg (by simpa using a i (by omega)), ih (by omega)]
    rw [this c (Nat.le_refl _)]
    have := evM_bd (B := B) (n := n) hk b c
    omega
  · have bd := evB_bd (B := B) (n := n) (b := b) hk c
    have := s2v_bd bd.1 bd.2
    omega
theorem bsI.more {w h : Nat} {B : Nat → Int32} {ht : Nat → Nat} {n E W0 b c : Nat} {bz v : Int} (hk : sdN w h ht W0 < E) (hE : E ≤ 12) (H : bsI w h B ht n E W0 b c bz) (h9 : ¬ bz = -999) (hc : tpE h ht W0 c < h) (hv : v = s2v (E - sdN w h ht W0) (evM w h B ht n E W0 b c)) : bsI w h B ht n E W0 b (c + 1) (if rkZ bz < rkZ v then v else bz) := by
  refine Or.inr ⟨⟨c, Nat.lt_succ_self _, hc⟩, ?_⟩
  rcases H with ⟨-, e⟩ | ⟨-, e⟩
  · exact absurd e h9
  · rw [bestOf, if_pos (decide_eq_true hc), hv, e]
    have b1 := evB_bd (B := B) (n := n) (b := b) hk c
    have b2 := evM_bd (B := B) (n := n) hk b c
    have rk := rk_s2v (L := E - sdN w h ht W0) (by omega) b1.1 b1.2 b2.1 b2.2
    by_cases z : rkZ (s2v (E - sdN w h ht W0) (bestOf (fun c => decide (tpE h ht W0 c < h)) (evM w h B ht n E W0 b) (-((E - sdN w h ht W0 : Nat) : Int)) c)) < rkZ (s2v (E - sdN w h ht W0) (evM w h B ht n E W0 b c))
    · rw [if_pos z]
      have := rk.mp z
      congr 1; omega
    · rw [if_neg z]
      have : ¬ _ := fun q => z (rk.mpr q)
      congr 1; omega
theorem bsI.stop {w h : Nat} {B : Nat → Int32} {ht : Nat → Nat} {n E W0 b : Nat} {bz : Int} (H : bsI w h B ht n E W0 b w bz) (Hn : EntOK w h B ht n E (sdN w h ht W0) W0 b) (hk : sdN w h ht W0 < E) : bz = evV w h B ht n E W0 b := by
  rcases H with ⟨a, -⟩ | ⟨-, e⟩
  · exfalso
    have h6 := Hn.2.2.2.2.2.2.2.2.2.2
    obtain ⟨c, hc, hr⟩ := emp_pos (h := h) (tp := tpE h ht W0) (n := w) (by omega)
    exact a c hc hr
  · rw [e, evV, ev_best hk]
/-- the entry behind a drop is found -/
theorem BFA.kid {w h : Nat} {B : Nat → Int32} {ht : Nat → Nat} {n E po : Nat} {wh sb sl : Nat → Nat} (H : BFA w h B ht n E po wh sb sl) {q c j0 : Nat} (Dn : DoneC w h B ht n E po wh sb q w) (hc : c < w) (hr : tpE h ht (wh q) c < h) (hl : ¬ hasL w h (sq_put (MP w h B ht ((n + sdN w h ht (wh q)) % 2) (wh q) (sb q)) c (tpE h ht (wh q) c))) (hk : sdN w h ht (wh q) + 1 < E)
    (hj0 : stB sl wh sb (wh q + prN h ht c) (sb q ||| ((n + sdN w h ht (wh q)) % 2) * 2 ^ (ofN h ht c + dgN h ht (wh q) c)) ((hsN (wh q + prN h ht c) (sb q ||| ((n + sdN w h ht (wh q)) % 2) * 2 ^ (ofN h ht c + dgN h ht (wh q) c)) + j0) % 262144) = true) :
    ∃ j', j' < po ∧ wh j' = wh q + prN h ht c ∧ sb j' = (sb q ||| ((n + sdN w h ht (wh q)) % 2) * 2 ^ (ofN h ht c + dgN h ht (wh q) c)) ∧ sl (prb (stB sl wh sb (wh q + prN h ht c) (sb q ||| ((n + sdN w h ht (wh q)) % 2) * 2 ^ (ofN h ht c + dgN h ht (wh q) c))) j0 (hsN (wh q + prN h ht c) (sb q ||| ((n + sdN w h ht (wh q)) % 2) * 2 ^ (ofN h ht c + dgN h ht (wh q) c)))) = j' + 1 := by
  obtain ⟨j', h1, h2, h3⟩ := Dn c hc hc hr hl hk
  have hp := prN_pos h ht c
  have h0 : 1 ≤ j' := by
    rcases Nat.eq_zero_or_pos j' with z | z
    · subst z; rw [H.2.1.1] at h2; omega
    · exact z
  refine ⟨j', h1, h2, h3, ?_⟩
  have := H.1.find h0 h1 (j0 := j0) (by rw [h2, h3]; exact hj0)
  rw [h2, h3] at this
  exact this
/-- the table is whole -/
def TblOK (w h : Nat) (B : Nat → Int32) (ht : Nat → Nat) (n E po : Nat) (wh sb : Nat → Nat) (V : Nat → Int32) (sl we of_ : Nat → Nat) : Prop :=
  BFA w h B ht n E po wh sb sl ∧ (∀ j, j < po → sdN w h ht (wh j) < E ∧ DoneC w h B ht n E po wh sb j w) ∧ (∀ j, j < po → V j = zI (evV w h B ht n E (wh j) (sb j))) ∧ ∀ c, c < w → we c = prN h ht c ∧ of_ c = ofN h ht c
theorem J1.all {w h : Nat} {B : Nat → Int32} {ht : Nat → Nat} {n E po : Nat} {wh sb la sl : Nat → Nat} (H : J1 w h B ht n E E po wh sb la sl) : ∀ j, j < po → sdN w h ht (wh j) < E ∧ DoneC w h B ht n E po wh sb j w := fun j hj => ⟨(H.2.2.1 j hj).2, H.2.2.2 j hj (H.2.2.1 j hj).2⟩
theorem of_le12 {w h : Nat} {B : Nat → Int32} {ht : Nat → Nat} {n E : Nat} (R : RootOK w h B ht n E) {c : Nat} (hc : c < w) : ofN h ht c + (h - ht c) ≤ E := by
  have := of_mono R.2.1 (show c + 1 ≤ w by omega)
  rw [of_eq R.2.1] at this
  have hE : ofN h ht w = E := by rw [of_emp R.2.1]; exact R.2.2.2.1.2.2.2.2.2.symm
  omega
