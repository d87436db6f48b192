-- ===== constructors =====
abbrev c_rm (f n k q : Nat) : Room := { frames := f, locals := n, cells := k, slots := q }
section Rows9
variable {p : Program} {l : Launch} {e : Env} {R : Room} {s : State} {m : MethodId} {args : Array Value} {below : List Frame} {meth : Method} {c : Code} {H : Heap} {locs : List Loc} {cells slots : Nat} {Q : State → Prop}
variable {pc : Nat} {ls : Array Slot} {rest st0 : List Value} {cc : ByteArray} {free : Addr → Prop}
variable {D : va_G} {cl : List vw_C} {ws : va_W} {tys : List (ClassId × FieldType)} {A : Nat → Prop} {H0 : Heap} {a : Nat}
/-- a new array of a class that is known already -/
theorem n_newa (hx : p.tables.exec = Jvm.exec) (hb : c.code = cc) {atype : ArrayType} {ty : FieldType} (hty : newarray.typeOf atype = ty) (harr : (Cond.arrayClass ty).before args s = true) (hK : va_K D cl tys s) (hP : va_P D cl ws H) (hD : va_D A ws) (hS : va_S A H0 H locs) (hA : ∀ q, H0.size ≤ q → A q)
    (t0 : Nat) {cA : ClassId} (ht : tys[t0]? = some (cA, ty)) (hRA : va_RA s cA ty = (s.vm.findClass ("[" ++ ty.toString) = some cA)) {N' : Nat} {a0 : vp_A} (ha : ∀ cA : ClassId, vp_cell cA a0 = arrV cA N' (fun _ => defaultValue ty)) (hn : N' < 2 ^ 31) (hbytes : N' * componentBytes ty ≤ 536870912) (hcells : cells + 1 ≤ R.cells) (hslots : slots + N' ≤ R.slots) (hdg : decode cc pc = .ok (.newarray atype, 2))
    (kk : ∀ (q : Nat) (H1 : Heap), va_P D cl (ws ++ [(q, .inl (cA, a0))]) H1 → va_D A (ws ++ [(q, .inl (cA, a0))]) → va_S A H0 H1 locs → W p l e R s m args below meth c H1 locs (cells + 1) (slots + N') Q (F0 m (pc + 2) ls (.ref q :: rest))) : W p l e R s m args below meth c H locs cells slots Q (F0 m pc ls (.int (nI N') :: rest)) := by
  subst hty
  refine va_newaK hx hb harr rfl hdg rfl (nI_pos hn) (nI_clamp hn) hbytes hcells hslots rfl fun H1 cB e1 z1 o1 hAr hNm => ?_
  have hca := (hK.2 t0 _ ht).2
  rw [hRA] at hca
  cases Option.some.inj (hNm.symm.trans hca)
  have hk : ∀ (k : Nat) (x : Nat × va_E), ws[k]? = some x → H1[x.1]? = H[x.1]? := fun k x hx => o1 x.1 ((hP k x hx).lt)
  refine kk H.size H1 ((hP.kept hk).app (fun k x hx => ?_)) (hD.push hP rfl (hA _ hS.1)) ⟨Nat.le_trans hS.1 (by omega), fun x h1 h2 => (o1 x (Nat.lt_of_lt_of_le h1 hS.1)).trans (hS.2.1 x h1 h2), hS.2.2⟩
  have hz : k < 1 := (List.getElem?_eq_some_iff.mp hx).1
  rw [show k = 0 by omega] at hx
  cases hx
  show H1[H.size]? = some (vp_cell _ _)
  rw [ha]
  exact e1
end Rows9
theorem arr_ext {cA : ClassId} {n : Nat} {f g : Nat → Value} (h : ∀ j, j < n → f j = g j) : arrV cA n f = arrV cA n g := by
  unfold arrV
  congr 1
  congr 1
  funext j
  exact h j.1 j.2
/-- long arrays as they are filled -/
def fiL (n : Nat) (f : Nat → Int64) (c : Nat) : Nat → Int64 := fun j => if c ≤ j ∧ j < n then 0 else f j
theorem fi_0 {cA : ClassId} {n : Nat} (f : Nat → Int64) : vp_cell cA (n, .inr (.inl (fiL n f 0))) = arrV cA n (fun _ => defaultValue .long) :=
  (vp_cell_l cA n _).trans (arr_ext (fun j hj => by unfold fiL; rw [if_pos ⟨by omega, hj⟩]; rfl))
theorem fi_s {n : Nat} {f : Nat → Int64} {c : Nat} : vp_updL (fiL n f c) c (f c) = fiL n f (c + 1) := by
  funext j
  show (if j = c then _ else fiL n f c j) = _
  unfold fiL
  by_cases e : j = c
  · subst e; rw [if_pos rfl, if_neg (by omega)]
  · rw [if_neg e]
    by_cases q : c ≤ j ∧ j < n
    · rw [if_pos q, if_pos (by omega)]
    · rw [if_neg q, if_neg (by omega)]
theorem fi_e {n : Nat} {f : Nat → Int64} : fiL n f n = f := by
  funext j
  unfold fiL
  rw [if_neg (by omega)]
def stG (h : Nat) : Nat → Nat := fun j => if j < 4 then 0 else stp h j
theorem st_0 {cA : ClassId} (h : Nat) : vp_cell cA (4, .inl (fun j => nI (stG h j))) = arrV cA 4 (fun _ => defaultValue .int) :=
  (vp_cell_i cA 4 _).trans (arr_ext (fun j hj => by unfold stG; rw [if_pos hj]; rfl))
theorem st_e (h : Nat) : va_up (va_up (va_up (va_up (stG h) 0 1) 1 h) 2 (h + 1)) 3 (h + 2) = stp h := by
  funext j
  show (if j = 3 then _ else if j = 2 then _ else if j = 1 then _ else if j = 0 then _ else stG h j) = _
  unfold stG stp
  by_cases e3 : j = 3
  · subst e3; rfl
  · by_cases e2 : j = 2
    · subst e2; rfl
    · by_cases e1 : j = 1
      · subst e1; rfl
      · by_cases e0 : j = 0
        · subst e0; rfl
        · rw [if_neg e3, if_neg e2, if_neg e1, if_neg e0, if_neg (by omega), if_neg e0, if_neg e1, if_neg e2]
def bdF (k : Nat) : Nat → Int32 := fun j => if j < k then -1 else 0
theorem bd_0 : bdF 0 = fun _ => 0 := by funext j; simp [bdF]
theorem bd_s (k : Nat) : upd (bdF k) k (-1) = bdF (k + 1) := by
  funext j
  by_cases e : j = k
  · subst e; rw [pk_us]; simp [bdF]
  · rw [pk_un e]; unfold bdF
    by_cases q : j < k
    · rw [if_pos q, if_pos (by omega)]
    · rw [if_neg q, if_neg (by omega)]
/-- addresses out of a list -/
abbrev adF (l : List Nat) : Nat → Nat := fun i => l.getD i 0
theorem dv2 : ∀ i : Fin 10, zI (-((i.val + 1 : Nat) : Int)) / nI 2 = zI (-(((i.val + 1) / 2 : Nat) : Int)) ∨ i.val % 2 = 0 := by decide +kernel
theorem btI_lo {k : Int32} {m0 : Nat} (h3 : 3 ≤ m0) (hm : m0 < 2 ^ 31) (h : ¬ nI 3 ≤ k) : btI k m0 = nI 3 := by
  have hk : k < nI 3 := Int32.not_le.mp h
  have h1 : nI 3 ≤ nI m0 := (nI_leI (by decide) hm).mpr h3
  have h2 : k < nI m0 := by
    rw [Int32.lt_iff_toInt_lt] at hk ⊢
    rw [Int32.le_iff_toInt_le] at h1
    omega
  unfold btI
  rw [if_pos h2, if_neg]
  rw [Int32.lt_iff_toInt_lt] at hk ⊢
  omega
theorem btI_hi {k : Int32} {m0 : Nat} (h3 : 3 ≤ m0) (hm : m0 < 2 ^ 31) (h : ¬ k ≤ nI m0) : btI k m0 = nI m0 := by
  have hk : nI m0 < k := Int32.not_le.mp h
  have hn : ¬ k < nI m0 := by
    rw [Int32.lt_iff_toInt_lt] at hk ⊢
    omega
  unfold btI
  rw [if_neg hn]
  rcases Nat.lt_or_ge 3 m0 with q | q
  · rw [if_pos ((nI_ltI (by decide) hm).mpr q)]
  · rw [if_neg (fun z => absurd ((nI_ltI (by decide) hm).mp z) (by omega)), show m0 = 3 by omega]
theorem btI_mid {k : Int32} {m0 : Nat} (hm : m0 < 2 ^ 31) (h1 : nI 3 ≤ k) (h2 : k ≤ nI m0) : btI k m0 = k := by
  have e : (if k < nI m0 then k else nI m0) = k := by
    split
    · rfl
    · rename_i q
      rw [Int32.lt_iff_toInt_lt] at q
      rw [Int32.le_iff_toInt_le] at h2
      exact Int32.toInt_inj.mp (by omega)
  unfold btI
  rw [e]
  split
  · rfl
  · rename_i q
    rw [Int32.lt_iff_toInt_lt] at q
    rw [Int32.le_iff_toInt_le] at h1
    exact Int32.toInt_inj.mp (by omega)
theorem btI_nat (k : Int32) {m0 : Nat} (h3 : 3 ≤ m0) (hm : m0 < 2 ^ 31) : ∃ w, 3 ≤ w ∧ w ≤ m0 ∧ btI k m0 = nI w := by
  by_cases h1 : nI 3 ≤ k
  · by_cases h2 : k ≤ nI m0
    · have hk : ¬ k < 0 := fun q => by
        have a : (nI 3 : Int32) ≤ k := h1
        rw [Int32.lt_iff_toInt_lt] at q
        rw [Int32.le_iff_toInt_le] at a
        have : (nI 3).toInt = 3 := by decide
        have : (0 : Int32).toInt = 0 := by decide
        omega
      obtain ⟨w, hw, rfl⟩ := nI_of hk
      exact ⟨w, (nI_leI (by decide) hw).mp h1, (nI_leI hw hm).mp h2, btI_mid hm h1 h2⟩
    · exact ⟨m0, h3, Nat.le_refl _, btI_hi h3 hm h2⟩
  · exact ⟨3, Nat.le_refl _, h3, btI_lo h3 hm h1⟩
/-- all the cells of a DropFour -/
abbrev dW (cI cJ : ClassId) (w h x : Nat) (ax : Nat → Nat) (S : Nat → Int64) (ht hy : Nat → Nat) (n : Nat) (u : Mem) : va_W :=
  [(x, .inr (4, [.ref (ax 4), .ref (ax 8), .ref (ax 7), .ref (ax 1), .ref (ax 2), .ref (ax 3), .int (nI n)])), (ax 1, .inl (cJ, 2, .inr (.inl S))), (ax 2, .inl (cI, w, .inl (fun j => nI (ht j)))), (ax 3, .inl (cI, w * h, .inl (fun j => nI (hy j)))),
   (ax 4, .inr (1, [.int (nI w), .int (nI h), .long (allL h w), .long (flrL h w), .ref (ax 5), .ref (ax 6)])), (ax 5, .inl (cI, 4, .inl (fun j => nI (stp h j)))), (ax 6, .inl (cJ, w, .inr (.inl (fun j => colL h j)))),
   (ax 7, .inr (0, [.ref (ax 4)])), (ax 8, .inr (3, [.ref (ax 4), .ref (ax 10), .ref (ax 9)])), (ax 9, .inl (cJ, w, .inr (.inl (fun j => colL h (mid w j))))),
   (ax 10, .inr (2, [.ref (ax 11), .ref (ax 12), .ref (ax 13)])), (ax 11, .inl (cJ, 1024, .inr (.inl u.1))), (ax 12, .inl (cI, 1024, .inl u.2.1)), (ax 13, .inl (cI, 1024, .inl u.2.2))]
