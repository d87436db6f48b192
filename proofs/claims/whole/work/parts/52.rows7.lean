-- ===== constructors =====
abbrev c_rm (f n k q : Nat) : Room := { frames := f, locals := n, cells := k, slots := q }
section Rows9
variable {p : Program} {l : Launch} {e : Env} {R : Room} {s : State} {m : MethodId} {args : Array Value} {below : List Frame} {meth : Method} {c : Code} {H : Heap} {locs : List Loc} {cells slots : Nat} {Q : State → Prop}
variable {pc : Nat} {ls : Array Slot} {rest st0 : List Value} {cc : ByteArray} {free : Addr → Prop}
variable {D : va_G} {cl : List vw_C} {ws : va_W} {tys : List (ClassId × FieldType)} {A : Nat → Prop} {H0 : Heap} {a : Nat}
/-- a new array of a class that is known already -/
theorem n_newa (hx : p.tables.exec = Jvm.exec) (hb : c.code = cc) {atype : ArrayType} {ty : FieldType} (hty : newarray.typeOf atype = ty) (harr : (Cond.arrayClass ty).before args s = true) (hK : va_K D cl tys s) (hP : va_P D cl ws H) (hD : va_D A ws) (hS : va_S A H0 H locs) (hA : ∀ q, H0.size ≤ q → A q)
    (t0 : Nat) {cA : ClassId} (ht : tys[t0]? = some (cA, ty)) (hRA : va_RA s cA ty = (s.vm.findClass ("[" ++ ty.toString) = some cA)) {N' : Nat} {a0 : vp_A} (ha : ∀ cA : ClassId, vp_cell cA a0 = arrV cA N' (fun _ => defaultValue ty)) (hn : N' < 2 ^ 31) (hbytes : N' * componentBytes ty ≤ 536870912) (hcells : cells + 1 ≤ R.cells) (hslots : slots + N' ≤ R.slots) (hdg : decode cc pc = .ok (.newarray atype, 2))
    (kk : ∀ (q : Nat) (H1 : Heap), va_P D cl (ws ++ [(q, .inl (cA, a0))]) H1 → va_D A (ws ++ [(q, .inl (cA, a0))]) → va_S A H0 H1 locs → W p l e R s m args below meth c H1 locs (cells + 1) (slots + N') Q (F0 m (pc + 2) ls (.ref q :: rest))) : W p l e R s m args below meth c H locs cells slots Q (F0 m pc ls (.int (nI N') :: rest)) := by
  subst hty
  refine va_newaK hx hb harr rfl hdg rfl (nI_pos hn) (nI_clamp hn) hbytes hcells hslots rfl fun H1 cB e1 z1 o1 hAr hNm => ?_
  have hca := (hK.2 t0 _ ht).2
  rw [hRA] at hca
  cases Option.some.inj (hNm.symm.trans hca)
  have hk : ∀ (k : Nat) (x : Nat × va_E), ws[k]? = some x → H1[x.1]? = H[x.1]? := fun k x hx => o1 x.1 ((hP k x hx).lt)
  refine kk H.size H1 ((hP.kept hk).app (fun k x hx => ?_)) (hD.push hP rfl (hA _ hS.1)) ⟨Nat.le_trans hS.1 (by omega), fun x h1 h2 => (o1 x (Nat.lt_of_lt_of_le h1 hS.1)).trans (hS.2.1 x h1 h2), hS.2.2⟩
  have hz : k < 1 := (List.getElem?_eq_some_iff.mp hx).1
  rw [show k = 0 by omega] at hx
  cases hx
  show H1[H.size]? = some (vp_cell _ _)
  rw [ha]
  exact e1
end Rows9
theorem arr_ext {cA : ClassId} {n : Nat} {f g : Nat → Value} (h : ∀ j, j < n → f j = g j) : arrV cA n f = arrV cA n g := by
  unfold arrV
  congr 1
  congr 1
  funext j
  exact h j.1 j.2
/-- long arrays as they are filled -/
def fiL (n : Nat) (f : Nat → Int64) (c : Nat) : Nat → Int64 := fun j => if c ≤ j ∧ j < n then 0 else f j
theorem fi_0 {cA : ClassId} {n : Nat} (f : Nat → Int64) : vp_cell cA (n, .inr (.inl (fiL n f 0))) = arrV cA n (fun _ => defaultValue .long) :=
  (vp_cell_l cA n _).trans (arr_ext (fun j hj => by unfold fiL; rw [if_pos ⟨by omega, hj⟩]; rfl))
theorem fi_s {n : Nat} {f : Nat → Int64} {c : Nat} : vp_updL (fiL n f c) c (f c) = fiL n f (c + 1) := by
  funext j
  show (if j = c then _ else fiL n f c j) = _
  unfold fiL
  by_cases e : j = c
  · subst e; rw [if_pos rfl, if_neg (by omega)]
  · rw [if_neg e]
    by_cases q : c ≤ j ∧ j < n
    · rw [if_pos q, if_pos (by omega)]
    · rw [if_neg q, if_neg (by omega)]
theorem fi_e {n : Nat} {f : Nat → Int64} : fiL n f n = f := by
  funext j
  unfold fiL
  rw [if_neg (by omega)]
def stG (h : Nat) : Nat → Nat := fun j => if j < 4 then 0 else stp h j
theorem st_0 {cA : ClassId} (h : Nat) : vp_cell cA (4, .inl (fun j => nI (stG h j))) = arrV cA 4 (fun _ => defaultValue .int) :=
  (vp_cell_i cA 4 _).trans (arr_ext (fun j hj => by unfold stG; rw [if_pos hj]; rfl))
theorem st_e (h : Nat) : va_up (va_up (va_up (va_up (stG h) 0 1) 1 h) 2 (h + 1)) 3 (h + 2) = stp h := by
  funext j
  show (if j = 3 then _ else if j = 2 then _ else if j = 1 then _ else if j = 0 then _ else stG h j) = _
  unfold stG stp
  by_cases e3 : j = 3
  · subst e3; rfl
  · by_cases e2 : j = 2
    · subst e2; rfl
    · by_cases e1 : j = 1
      · subst e1; rfl
      · by_cases e0 : j = 0
        · subst e0; rfl
        · rw [if_neg e3, if_neg e2, if_neg e1, if_neg e0, if_neg (by omega), if_neg e0, if_neg e1, if_neg e2]
def bdF (k : Nat) : Nat → Int32 := fun j => if j < k then -1 else 0
theorem bd_0 : bdF 0 = fun _ => 0 := by funext j; simp [bdF]
theorem bd_s (k : Nat) : upd (bdF k) k (-1) = bdF (k + 1) := by
  funext j
  by_cases e : j = k
  · subst e; rw [pk_us]; simp [bdF]
  · rw [pk_un e]; unfold bdF
    by_cases q : j < k
    · rw [if_pos q, if_pos (by omega)]
    · rw [if_neg q, if_neg (by omega)]
/-- addresses out of a list -/
abbrev adF (l : List Nat) : Nat → Nat := fun i => l.getD i 0
