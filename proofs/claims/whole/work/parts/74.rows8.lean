-- ===== the law's wrappers: their start, their throws; what both sides hold =====
def YPc (D : va_G) (av : List Value) (wo : va_W) (tys : List (ClassId × FieldType)) (sz : Nat) : Array Value → State → Prop := fun v U => MPc D av wo tys sz v U ∧ TwA U ∧ TwZ U U.heap ∧ va_Nc eIS eIA U
theorem YPc.blind {D : va_G} {av : List Value} {wo : va_W} {tys : List (ClassId × FieldType)} {sz : Nat} : FrameBlind (YPc D av wo tys sz) := by
  intro a U g mk q
  obtain ⟨q0, qT, qZ, qN⟩ := q
  exact ⟨MPc.blind a U g mk q0, TwA.same (s := U) (U := U.calling g mk a) rfl qT, TwZ.moved (u := U) (U := U.calling g mk a) (Vm.Alike.refl U.vm) qZ, va_Nc.moved (u := U) (U := U.calling g mk a) (Vm.Alike.refl U.vm) qN⟩
theorem YPc.at {D : va_G} {av : List Value} {wo : va_W} {tys : List (ClassId × FieldType)} {s : State} {H : Heap} {A : Nat → Prop} (hP : va_P D vwCl wo H) (hD : va_D A wo) (hK : va_K D vwCl tys s) (hN : NWa s) (hT : TwA s) (hZ : TwZ s H) (hc : va_Nc eIS eIA s) : ∀ U : State, U.heap = H → s.WarmedH U.vm → YPc D av wo tys H.size av.toArray U :=
  fun U hU hW => ⟨MPc.at hP hD hK hN U hU hW, hT.warm hW, by rw [hU]; exact TwZ.moved hW.alike hZ, va_Nc.moved hW.alike hc⟩
theorem mh_head {l : Launch} {y : MethodName} {ws ws' : List Cond} {rm : Room} {D : va_G} {av : List Value} {wo : va_W} {tys : List (ClassId × FieldType)} {Qc : (Nat → Prop) → Array Value → State → Outcome → State → Prop} {mc ms sz : Nat} {cc : ByteArray} {maxL : Nat} {ret : Option FieldType} {hh : List (Nat × Nat × Nat × Nat)} (hy : plainName y.cls = true) (hw : ws = Cond.codeWith y cc maxL ret hh :: ws') (hn : (lg_sl av).length ≤ maxL)
    (body : ∀ (p : Program) (e : Env) (s : State) (m : MethodId) (below : List Frame) (meth : Method) (c : Code) (ls : Array Slot) (A : Nat → Prop), p.tables.exec = Jvm.exec → c.code = cc → meth.sig.returnType = ret → meth.locks = false → (∀ w ∈ ws, w.before av.toArray s = true) → s.vm.findClass y.cls = some m.cls → c.maxLocals = maxL → (∀ q : Nat, s.heap.size ≤ q → A q) →
      va_P D vwCl wo s.heap → va_K D vwCl tys s → va_D A wo → NWa s → va_S A s.heap s.heap [] → TwA s → TwZ s s.heap → va_Nc eIS eIA s → c.exceptionTable.toList = tableOf hh → lv_has ls maxL (lv_args 0 av) →
      W p l e rm s m av.toArray below meth c s.heap [] 0 0 (MQ below (Qc A) av.toArray s mc ms A) (F0 m 0 ls [])) : Met l y ws rm (YPc D av wo tys sz) (Qc (va_A wo sz)) mc ms (va_A wo sz) := by
  have h : vx_Met l y ws rm (YPc D av wo tys sz) (Qc (va_A wo sz)) (fun _ _ _ => False) mc ms (va_A wo sz) := by
    refine vx_ofWH (cc := cc) (maxL := maxL) (ret := ret) (hh := hh) hy hw ?_
    intro p e s m args below meth c s₁ B hml hv
    obtain ⟨⟨rfl, hsz, hP, hK, hD0, hN⟩, hT, hZ, hc⟩ := hv
    have hts := atoms_spec (ws := ws) B.pre
    have htab : c.exceptionTable.toList = tableOf hh := vx_table (x := y) B (hts (Cond.codeWith y cc maxL ret hh) (by rw [hw]; exact List.mem_cons_self))
    rw [lg_entry_eq]
    subst hsz
    exact vx_ret (body p e s m below meth c _ _ B.exec B.bytes B.returns B.notSynchronized hts (findClass_of_methodNamed B.named) hml (fun q h => Or.inr h) hP hK (hD0.self (sz := s.heap.size)) hN va_S.rf hT hZ hc htab (lv_entry av hn))
  exact MetFree.mono h (fun _ _ h => h) (fun _ _ _ _ _ h => h) (fun a s o t _ h => h.resolve_right (by rintro ⟨q, -, E, ce, L, hf, -⟩; exact hf))
section RowsY
variable {p : Program} {l : Launch} {e : Env} {R : Room} {s : State} {m : MethodId} {args : Array Value} {below : List Frame} {meth : Method} {c : Code} {H : Heap} {locs : List Loc} {cells slots : Nat} {Q : State → Prop}
variable {pc : Nat} {ls : Array Slot} {rest st0 : List Value} {a : Array Value}
theorem xw_call {E : String} (hr : vx_Run p l e R s m args below meth c H locs cells slots 1 6 (F0 m pc ls st0) rest (xNo a) (xX E) (fun _ => False))
    (kx : ∀ (ce : Cell) (q9 : Addr) (H1 : Heap), H.size ≤ H1.size → (∀ q : Nat, q < H.size → H1[q]? = H[q]?) → H1[q9]? = some ce → ce.vm = .none → s.vm.findClass E = some ce.cls → vx_W p l e R s m args below meth c H1 locs (cells + 1) (slots + 6) Q (F0 m pc ls rest) q9) : W p l e R s m args below meth c H locs cells slots Q (F0 m pc ls st0) := by
  intro T hT X
  rcases hr T hT X with ⟨v, st₀, t, T', L, h0, X', hL, e1, e2, hf, st⟩ | ⟨q, st₀, t, T', L, E', ce, h0, X', hL, e1, e2, ⟨u, hp, hb, hF⟩, hce, hcv, hcl, st⟩
  · exact hf.elim
  · have hL0 : L = [] := by
      cases L with
      | nil => rfl
      | cons z t => exact (hL z List.mem_cons_self).elim
    subst hL0
    rw [List.append_nil] at X'
    obtain ⟨z1, z2⟩ := hF
    rw [h0] at z1 z2
    have hb : E' = E := hb
    rw [hb] at hcl
    obtain ⟨t2, a1, b1⟩ := kx ce q T'.heap (by rw [e1]; exact z1) (fun q hq => by rw [e1]; exact z2 q hq (fun h => h)) (by rw [e1]; exact hce) hcv hcl T' rfl X'
    exact ⟨t2, st.trans a1, b1⟩
end RowsY
theorem tw_cast {s : State} {args : Array Value} (hT : TwA s) {E : String} (h : Cond.castable E E ∈ twL) : (Cond.castable E E).before args s = true := va_Nw.use rfl (hT.1 _ h)
/-- a contract's end, said otherwise -/
theorem rf_to {l : Launch} {y : MethodName} {ws : List Cond} {rm : Room} {Pc : Array Value → State → Prop} {D : va_G} {S S' : Type} {post : Int32 → S → Prop} {post' : Int32 → S' → Prop} {wf : S → va_W} {wf' : S' → va_W} {A A' : Nat → Prop} {mc ms : Nat} (h : Met l y ws rm Pc (mQi D post wf A) mc ms A') (f : S → S') (hp : ∀ r u, post r u → post' r (f u) ∧ wf u = wf' (f u)) : Met l y ws rm Pc (mQi D post' wf' A) mc ms A' := by
  refine MetFree.mono h (fun _ _ h => h) (fun _ _ _ _ _ h => h) (fun a s o t _ h => ⟨?_, h.2⟩)
  obtain ⟨⟨r, u, hv, hq, hb1, hb2⟩, hF⟩ := h.1
  obtain ⟨q1, q2⟩ := hp r u hq
  rw [q2] at hb1 hb2
  exact ⟨⟨r, f u, hv, q1, hb1, hb2⟩, hF⟩
-- what the class holds beside the game; its cells, with the law's array
abbrev CtS : Type := (Nat → Int64) × (Nat → Nat) × Mem
def CtOK (w h : Nat) (d : List Nat) (s : CtS) : Prop := RS w h s.1 d ∧ Hs s.2.1 d ∧ MemOK w h s.2.2
abbrev cW (cI cJ : ClassId) (w h x : Nat) (ax : Nat → Nat) (ou : Nat) (d : List Nat) (s : CtS) (O : Nat → Int64) : va_W := (ou, .inl (cJ, 1, .inr (.inl O))) :: dW cI cJ w h x ax s.1 (gH d) s.2.1 d.length s.2.2
-- what the reference holds beside the game
abbrev RfS : Type := (Nat × Nat × (Nat → Nat)) × LkS × (Nat → Nat)
def RfOK (w h : Nat) (d : List Nat) (r : RfS) : Prop := Hs r.1.2.2 d ∧ (∀ j, r.2.1.2.1 j < 8192) ∧ (∀ j, r.2.1.2.2.1 j < 8192) ∧ (∀ a, 262144 ≤ a → r.2.1.2.2.2.2.2.1 a = 0) ∧ (r.1.2.1 = 0 ∨ r.1.2.1 = 1 ∧ lkP w h (gB d) (gH d) d.length (w * h - d.length) r.2.1)
abbrev rW (cI cZ : ClassId) (ad : Nat → Nat) (w h : Nat) (d : List Nat) (r : RfS) : va_W := mW5 cI cZ ad w h r.1.1 d.length r.1.2.1 r.2.1.1 (gB d) (gH d) r.1.2.2 r.2.1.2.1 r.2.1.2.2.1 r.2.1.2.2.2.1 r.2.1.2.2.2.2.1 r.2.1.2.2.2.2.2.1 r.2.1.2.2.2.2.2.2.1 r.2.1.2.2.2.2.2.2.2.1 r.2.1.2.2.2.2.2.2.2.2.1 r.2.1.2.2.2.2.2.2.2.2.2 r.2.2
-- an outcome: which exception (0: none), the game behind it, the answer
abbrev Oc : Type := Nat × List Nat × Int32
abbrev wQ (D : va_G) (cI cJ : ClassId) (w h x : Nat) (ax : Nat → Nat) (ou : Nat) (oc : Oc) (A : Nat → Prop) : Array Value → State → Outcome → State → Prop :=
  mQi D (fun r (u : CtS × (Nat → Int64)) => r = nI oc.1 ∧ CtOK w h oc.2.1 u.1 ∧ (oc.1 = 0 → u.2 0 = oc.2.2.toInt64)) (fun u => cW cI cJ w h x ax ou oc.2.1 u.1 u.2) A
abbrev rQ (D : va_G) (cI cZ : ClassId) (ad : Nat → Nat) (w h : Nat) (oc : Oc) (A : Nat → Prop) : Array Value → State → Outcome → State → Prop :=
  mQi D (fun r (u : RfS) => (oc.1 = 0 → r = oc.2.2) ∧ u.1.1 = oc.1 ∧ RfOK w h oc.2.1 u) (fun u => rW cI cZ ad w h oc.2.1 u) A
noncomputable def oDrop (w h : Nat) (d : List Nat) (k : Int32) : Oc := if icB w k = false then (1, d, 0) else if 0 ≤ gWn w h d ∨ h ≤ gH d k.toNatClampNeg then (2, d, 0) else (0, k.toNatClampNeg :: d, nI (gH d k.toNatClampNeg))
def oBack (d : List Nat) : Oc := match d with
  | [] => (1, [], 0)
  | c :: d => (0, d, nI c)
def oAt (w h : Nat) (d : List Nat) (c r : Int32) : Oc := if isq w h c r = false then (1, d, 0) else (0, d, gB d (7 * c.toNatClampNeg + r.toNatClampNeg))
def oOpen (w h : Nat) (d : List Nat) (k : Int32) : Oc := if ipB k = false then (1, d, 0) else (0, d, nI (opN w h (gB d) (1 - k.toNatClampNeg)))
def oThreats (w h : Nat) (d : List Nat) (k : Int32) : Oc := if ipB k = false then (1, d, 0) else (0, d, nI (tsN w h (gB d) k.toNatClampNeg))
/-- too far to be valued -/
def gFar (w h : Nat) (d : List Nat) : Prop := 0 ≤ gWn w h d ∨ 12 < w * h - d.length
noncomputable def oValue (w h : Nat) (d : List Nat) : Oc := @ite Oc (gFar w h d) (Classical.propDecidable _) (1, d, 0) (0, d, zI (evV w h (gB d) (gH d) d.length (w * h - d.length) 0 0))
noncomputable def oValueOf (w h : Nat) (d : List Nat) (k : Int32) : Oc := if icB w k = false then (1, d, 0) else @ite Oc (gFar w h d ∨ h ≤ gH d k.toNatClampNeg) (Classical.propDecidable _) (2, d, 0) (0, d, zI (s2v (w * h - d.length) (evM w h (gB d) (gH d) d.length (w * h - d.length) 0 0 k.toNatClampNeg)))
noncomputable def oBest (w h : Nat) (d : List Nat) : Oc := @ite Oc (gFar w h d) (Classical.propDecidable _) (1, d, 0) (0, d, zI (bfZ (evW w h (gB d) (gH d) d.length (w * h - d.length) 0 0) w))
noncomputable def oBeats (w h : Nat) (d : List Nat) : Oc := @ite Oc (0 ≤ gWn w h d ∨ 30 < w * h - d.length ∨ evB h (gH d) w = false) (Classical.propDecidable _) (1, d, 0) (0, d, bI (btB w h (gB d) (gH d) d.length))
theorem ic_yes {w : Nat} {k : Int32} (hw : w ≤ 9) (h : ¬ icB w k = false) : ∃ c, c < w ∧ k = nI c ∧ k.toNatClampNeg = c ∧ icB w (nI c) = true := by
  rw [Bool.not_eq_false] at h
  have h2 := h
  unfold icB at h
  rw [Bool.and_eq_true, Bool.not_eq_true', Bool.not_eq_true', decide_eq_false_iff_not, decide_eq_false_iff_not] at h
  obtain ⟨j, hj, rfl⟩ := nI_of h.1
  refine ⟨j, ?_, rfl, nI_clamp hj, h2⟩
  refine Nat.lt_of_not_le fun z => h.2 (nI_le z hj)
theorem ip_yes {k : Int32} (h : ¬ ipB k = false) : ∃ q, q ≤ 1 ∧ k = nI q ∧ k.toNatClampNeg = q ∧ ipB (nI q) = true := by
  rw [Bool.not_eq_false] at h
  have h2 := h
  unfold ipB at h
  rw [Bool.or_eq_true, decide_eq_true_eq, decide_eq_true_eq] at h
  rcases h with rfl | rfl
  · exact ⟨0, by omega, rfl, rfl, h2⟩
  · exact ⟨1, by omega, rfl, rfl, h2⟩
theorem isq_yes {w h : Nat} (hw : w ≤ 9) (hh : h ≤ 7) {c r : Int32} (q : ¬ isq w h c r = false) : ∃ a b, a < w ∧ b < h ∧ c = nI a ∧ r = nI b ∧ c.toNatClampNeg = a ∧ r.toNatClampNeg = b ∧ isq w h (nI a) (nI b) = true ∧ icB w (nI a) = true := by
  rw [Bool.not_eq_false] at q
  have q2 := q
  unfold isq at q
  simp only [Bool.and_eq_true, Bool.not_eq_true', decide_eq_false_iff_not] at q
  obtain ⟨i, hi, rfl⟩ := nI_of q.1
  obtain ⟨j, hj, rfl⟩ := nI_of q.2.2.1
  refine ⟨i, j, Nat.lt_of_not_le fun z => q.2.1 (nI_le z hi), Nat.lt_of_not_le fun z => q.2.2.2 (nI_le z hj), rfl, rfl, nI_clamp hi, nI_clamp hj, q2, ?_⟩
  unfold icB
  rw [decide_eq_false q.1, decide_eq_false q.2.1]; rfl
theorem isq_no {w h : Nat} {c r : Int32} (q : isq w h c r = false) : icB w c = false ∨ r < 0 ∨ nI h ≤ r := by
  refine Classical.byContradiction fun z => ?_
  have z1 : icB w c = true := by rw [← Bool.not_eq_false]; exact fun y => z (Or.inl y)
  have z2 : ¬ r < 0 := fun y => z (Or.inr (Or.inl y))
  have z3 : ¬ nI h ≤ r := fun y => z (Or.inr (Or.inr y))
  unfold icB at z1
  rw [Bool.and_eq_true, Bool.not_eq_true', Bool.not_eq_true', decide_eq_false_iff_not, decide_eq_false_iff_not] at z1
  unfold isq at q
  rw [decide_eq_false z1.1, decide_eq_false z1.2, decide_eq_false z2, decide_eq_false z3] at q
  exact absurd q (by decide)
