-- ===== M16: the same in the words of the walk =====
section Rows7
variable {p : Program} {l : Launch} {e : Env} {R : Room} {s : State} {m : MethodId} {args : Array Value} {below : List Frame} {meth : Method} {c : Code} {H : Heap} {locs : List Loc} {cells slots : Nat} {Q : State → Prop}
variable {pc : Nat} {ls : Array Slot} {rest st0 : List Value} {cc : ByteArray}
theorem z_icmp_eq {a b : Int} {off : Int} {tgt : Nat} (hx : p.tables.exec = Jvm.exec) (hb : c.code = cc) (hdg : decode cc pc = .ok (.if_icmp .eq off, 3)) (ht : (pc : Int) + off = (tgt : Int)) (ha : zB a) (hb2 : zB b)
    (kt : a = b → W p l e R s m args below meth c H locs cells slots Q (F0 m tgt ls rest)) (kf : ¬ a = b → W p l e R s m args below meth c H locs cells slots Q (F0 m (pc + 3) ls rest)) : W p l e R s m args below meth c H locs cells slots Q (F0 m pc ls (.int (zI b) :: .int (zI a) :: rest)) :=
  lv_icmp_eq hx hb hdg ht (fun h => kt ((zI_eq ha hb2).mp h)) (fun h => kf (fun q => h ((zI_eq ha hb2).mpr q)))
theorem z_icmp_ne {a b : Int} {off : Int} {tgt : Nat} (hx : p.tables.exec = Jvm.exec) (hb : c.code = cc) (hdg : decode cc pc = .ok (.if_icmp .ne off, 3)) (ht : (pc : Int) + off = (tgt : Int)) (ha : zB a) (hb2 : zB b)
    (kt : ¬ a = b → W p l e R s m args below meth c H locs cells slots Q (F0 m tgt ls rest)) (kf : a = b → W p l e R s m args below meth c H locs cells slots Q (F0 m (pc + 3) ls rest)) : W p l e R s m args below meth c H locs cells slots Q (F0 m pc ls (.int (zI b) :: .int (zI a) :: rest)) :=
  lv_icmp_ne hx hb hdg ht (fun h => kt (fun q => h ((zI_eq ha hb2).mpr q))) (fun h => kf ((zI_eq ha hb2).mp h))
end Rows7
theorem J2.sd {w h : Nat} {B : Nat → Int32} {ht : Nat → Nat} {n E k q po : Nat} {wh sb la sl : Nat → Nat} (H : J2 w h B ht n E k q po wh sb la sl) (h1 : la k ≤ q) (h2 : q < la (k + 1)) (h3 : q < po) : sdN w h ht (wh q) = k := by
  have a := (H.2.1 (k + 1) (Nat.le_refl _)).2 q h3
  have b := (H.2.1 k (Nat.le_succ _)).2 q h3
  omega
theorem LaOK.sd {w h : Nat} {ht : Nat → Nat} {po : Nat} {wh la : Nat → Nat} {E k q : Nat} (L : LaOK w h ht po wh la E) (hk : k < E) (h1 : la k ≤ q) (h2 : q < la (k + 1)) : q < po ∧ sdN w h ht (wh q) = k := by
  have h3 : q < po := Nat.lt_of_lt_of_le h2 (L (k + 1) (by omega)).1
  have a := (L (k + 1) (by omega)).2 q h3
  have b := (L k (by omega)).2 q h3
  exact ⟨h3, by omega⟩
theorem LaOK.mono {w h : Nat} {ht : Nat → Nat} {po : Nat} {wh la : Nat → Nat} {E k : Nat} (L : LaOK w h ht po wh la E) (hk : k < E) : la k ≤ la (k + 1) := by
  rcases Nat.lt_or_ge (la (k + 1)) (la k) with z | z
  · have h1 := (L k (by omega)).1
    have h2 := ((L k (by omega)).2 (la (k + 1)) (by omega)).mp z
    have h3 := ((L (k + 1) (by omega)).2 (la (k + 1)) (by omega)).mpr (by omega)
    omega
  · exact z
theorem BFA.bd {w h : Nat} {B : Nat → Int32} {ht : Nat → Nat} {n E k q c po : Nat} {wh sb sl : Nat → Nat} (R : RootOK w h B ht n E) (H : BFA w h B ht n E po wh sb sl) {pl wc x : Nat} (hq : q < po) (hk : sdN w h ht (wh q) = k) (hc : c < w) (hr : tpE h ht (wh q) c < h) (hl : ¬ hasL w h (sq_put (MP w h B ht ((n + k) % 2) (wh q) (sb q)) c (tpE h ht (wh q) c))) (hpl : pl = (n + k) % 2) (hwc : wc = prN h ht c) (hx : x = ofN h ht c + dgN h ht (wh q) c) : wh q + wc < 8192 ∧ (sb q ||| pl * 2 ^ x) < 8192 := by
  subst hk hpl hwc hx
  have := ent_pow R (ent_next R (H.2.2.2.1 q hq) hc hr hl).2
  omega
theorem J3.add_new {w h : Nat} {B : Nat → Int32} {ht : Nat → Nat} {n E k q c po : Nat} {wh sb la sl : Nat → Nat} (R : RootOK w h B ht n E) (H : J3 w h B ht n E k q c po wh sb la sl) {j0 pl wc x : Nat} (hq : q < po) (hk : sdN w h ht (wh q) = k) (hkE : k + 1 < E) (hc : c < w) (hr : tpE h ht (wh q) c < h) (hl : ¬ hasL w h (sq_put (MP w h B ht ((n + k) % 2) (wh q) (sb q)) c (tpE h ht (wh q) c))) (hpl : pl = (n + k) % 2) (hwc : wc = prN h ht c) (hx : x = ofN h ht c + dgN h ht (wh q) c)
    (hj0 : stB sl wh sb (wh q + wc) (sb q ||| pl * 2 ^ x) ((hsN (wh q + wc) (sb q ||| pl * 2 ^ x) + j0) % 262144) = true) (hz : sl (prb (stB sl wh sb (wh q + wc) (sb q ||| pl * 2 ^ x)) j0 (hsN (wh q + wc) (sb q ||| pl * 2 ^ x))) = 0) :
    J3 w h B ht n E k q (c + 1) (po + 1) (va_up wh po (wh q + wc)) (va_up sb po (sb q ||| pl * 2 ^ x)) la (va_up sl (prb (stB sl wh sb (wh q + wc) (sb q ||| pl * 2 ^ x)) j0 (hsN (wh q + wc) (sb q ||| pl * 2 ^ x))) (po + 1)) := by
  subst hwc hx
  subst hk
  subst hpl
  exact H.new R hq rfl hkE hc hr hl hj0 hz
theorem J3.add_old {w h : Nat} {B : Nat → Int32} {ht : Nat → Nat} {n E k q c po : Nat} {wh sb la sl : Nat → Nat} (H : J3 w h B ht n E k q c po wh sb la sl) {j0 pl wc x : Nat} (hk : sdN w h ht (wh q) = k) (hpl : pl = (n + k) % 2) (hwc : wc = prN h ht c) (hx : x = ofN h ht c + dgN h ht (wh q) c)
    (hj0 : stB sl wh sb (wh q + wc) (sb q ||| pl * 2 ^ x) ((hsN (wh q + wc) (sb q ||| pl * 2 ^ x) + j0) % 262144) = true) (hz : ¬ sl (prb (stB sl wh sb (wh q + wc) (sb q ||| pl * 2 ^ x)) j0 (hsN (wh q + wc) (sb q ||| pl * 2 ^ x))) = 0) :
    J3 w h B ht n E k q (c + 1) po wh sb la sl := by
  subst hwc hx
  subst hk
  subst hpl
  exact ⟨H.1, H.2.old H.1.1 hj0 hz⟩
theorem J3.skip {w h : Nat} {B : Nat → Int32} {ht : Nat → Nat} {n E k q c po : Nat} {wh sb la sl : Nat → Nat} (H : J3 w h B ht n E k q c po wh sb la sl) (hk : sdN w h ht (wh q) = k) (hno : ¬ tpE h ht (wh q) c < h ∨ hasL w h (sq_put (MP w h B ht ((n + k) % 2) (wh q) (sb q)) c (tpE h ht (wh q) c)) ∨ ¬ k + 1 < E) : J3 w h B ht n E k q (c + 1) po wh sb la sl := by
  subst hk
  exact ⟨H.1, H.2.skip hno⟩
/-- the value behind a drop that neither wins nor is the last -/
theorem BFA.kid2 {w h : Nat} {B : Nat → Int32} {ht : Nat → Nat} {n E k q c po : Nat} {wh sb sl : Nat → Nat} {V : Nat → Int32} (R : RootOK w h B ht n E) (H : BFA w h B ht n E po wh sb sl) {j0 pl wc x : Nat} (hq : q < po) (hk : sdN w h ht (wh q) = k) (hkE : k + 1 < E) (Dn : DoneC w h B ht n E po wh sb q w) (hV : VdA w h B ht n E po wh sb V (k + 1)) (hc : c < w) (hr : tpE h ht (wh q) c < h) (hl : ¬ hasL w h (sq_put (MP w h B ht ((n + k) % 2) (wh q) (sb q)) c (tpE h ht (wh q) c))) (hpl : pl = (n + k) % 2) (hwc : wc = prN h ht c) (hx : x = ofN h ht c + dgN h ht (wh q) c)
    (hj0 : stB sl wh sb (wh q + wc) (sb q ||| pl * 2 ^ x) ((hsN (wh q + wc) (sb q ||| pl * 2 ^ x) + j0) % 262144) = true) :
    1 ≤ sl (prb (stB sl wh sb (wh q + wc) (sb q ||| pl * 2 ^ x)) j0 (hsN (wh q + wc) (sb q ||| pl * 2 ^ x))) ∧ ∃ z, V (sl (prb (stB sl wh sb (wh q + wc) (sb q ||| pl * 2 ^ x)) j0 (hsN (wh q + wc) (sb q ||| pl * 2 ^ x))) - 1) = zI z ∧ -100000 ≤ z ∧ z ≤ 100000 ∧ tuZ z = s2v (E - k) (evM w h B ht n E (wh q) (sb q) c) := by
  subst hwc hx
  subst hk
  subst hpl
  obtain ⟨j', h1, h2, h3, h4⟩ := H.kid Dn hc hr hl hkE hj0
  have N0 := (ent_next R (H.2.2.2.1 q hq) hc hr hl).1
  rw [h4, Nat.add_sub_cancel]
  refine ⟨by omega, evV w h B ht n E (wh j') (sb j'), hV j' h1 (by rw [h2, N0]; exact Nat.le_refl _), ?_⟩
  have bd := evV_bd (w := w) (h := h) (B := B) (ht := ht) (n := n) (W0 := wh j') (b := sb j') R.2.2.2.2
  refine ⟨by omega, by omega, ?_⟩
  rw [h2, h3]
  exact vb_go_is R (H.2.2.2.1 q hq) hc hr hl
theorem rk_zB {z : Int} (h1 : -100000 ≤ z) (h2 : z ≤ 100000) : zB (rkZ z) := by
  unfold zB rkZ
  split
  · omega
  · split <;> omega
abbrev LkS : Type := Nat × (Nat → Nat) × (Nat → Nat) × (Nat → Int32) × (Nat → Nat) × (Nat → Nat) × (Nat → Nat) × (Nat → Nat) × (Nat → Int32) × (Nat → Nat)
def lkP (w h : Nat) (B : Nat → Int32) (ht : Nat → Nat) (n E : Nat) (u : LkS) : Prop := TblOK w h B ht n E u.1 u.2.1 u.2.2.1 u.2.2.2.1 u.2.2.2.2.2.1 u.2.2.2.2.2.2.1 u.2.2.2.2.2.2.2.1
