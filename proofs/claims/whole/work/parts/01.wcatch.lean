/-! ===== an exception that comes to a frame is caught by a row of its table, behind rows that pass it (vx_catch stands on this; own rows, for the library's are of a shelf that a round does not load) ===== -/
section TcGo
variable {e : Env} {a : Addr} {f : JFrame} {cell : Cell}
/-- one row that covers the place and names a class that links: the search notes the class, and stops or goes on -/
theorem tc_row {S : State} {Q : Handler → Pre} {E : CtlPost} {d : Bool} {acts : List Action} {y : ExceptionTableEntry} {t : List ExceptionTableEntry} {k : ClassId} {b : Bool}
    (hy : covers y f.pc = true) (h0 : y.catchType ≠ 0) (hl : S.vm.ClassLinks e.platform f.method.cls y.catchType k) (hcell : S.heap[a]? = some cell) (hobj : ∀ z, cell.vm ≠ .statics z)
    (h1 : ∃ z, S.vm.classes[cell.cls]? = some z) (h2 : ∃ z, S.vm.classes[k]? = some z) (hb : S.vm.assignable cell.cls k = b) :
    wp (findHandler.go f a (y :: t)) Q E e d acts S ↔ (if b then Q (.found y.handlerPc) d acts (S.setVm (S.vm.noted f.method.cls y.catchType (.cls k))) else wp (findHandler.go f a t) Q E e d acts (S.setVm (S.vm.noted f.method.cls y.catchType (.cls k)))) := by
  have hn : S.vm.Alike (S.vm.noted f.method.cls y.catchType (.cls k)) := (Vm.Alike.refl S.vm).noted _ _ _
  obtain ⟨z1, e1⟩ := h1
  obtain ⟨z2, e2⟩ := h2
  obtain ⟨z1', e1', -⟩ := hn.2.2 _ _ e1
  obtain ⟨z2', e2', -⟩ := hn.2.2 _ _ e2
  obtain ⟨ha, ht⟩ := (resolveClass_links e.toSetting hl).op (op := VmOp.resolveClass f.method.cls y.catchType) rfl
  have hb' : (S.vm.noted f.method.cls y.catchType (.cls k)).assignable cell.cls k = b := by rw [hn.assignable]; exact hb
  simp only [covers] at hy
  cases b <;> simp [findHandler.go, hy, h0, ha, ht, hcell, hobj, e1', e2', hb', VmOp.dirties, VmOp.acts]
theorem tc_search {s₀ : State} (hobj : ∀ z, cell.vm ≠ .statics z) (hk0 : ∃ z, s₀.vm.classes[cell.cls]? = some z) (x : ExceptionTableEntry) (suf : List ExceptionTableEntry) (hx : covers x f.pc = true) (h0 : x.catchType ≠ 0)
    {kx : ClassId} (hlx : s₀.vm.ClassLinks e.platform f.method.cls x.catchType kx) (hfit : s₀.vm.assignable cell.cls kx = true) (pre : List ExceptionTableEntry) :
    ∀ S : State, s₀.WarmedH S.vm → S.heap[a]? = some cell → (∀ y ∈ pre, covers y f.pc = false ∨ (y.catchType ≠ 0 ∧ ∃ k, s₀.vm.ClassLinks e.platform f.method.cls y.catchType k ∧ s₀.vm.assignable cell.cls k = false)) →
      ∃ v, s₀.WarmedH v ∧ ∀ (Q : Handler → Pre) (E : CtlPost) (d : Bool) (acts : List Action), wp (findHandler.go f a (pre ++ x :: suf)) Q E e d acts S ↔ Q (.found x.handlerPc) d acts (S.setVm v) := by
  have link : ∀ (S : State) (i : Nat) (k : ClassId), s₀.WarmedH S.vm → s₀.vm.ClassLinks e.platform f.method.cls i k → S.vm.ClassLinks e.platform f.method.cls i k ∧ (∃ z, S.vm.classes[cell.cls]? = some z) ∧ (∃ z, S.vm.classes[k]? = some z) ∧ s₀.WarmedH (S.vm.noted f.method.cls i (.cls k)) := by
    intro S i k hW hl
    obtain ⟨z0, e0⟩ := hk0
    obtain ⟨_, _, _, zt, hd, _, _, _, _, hzt, _, hop⟩ := hl.here
    obtain ⟨z0', e0', -⟩ := hW.alike.2.2 _ _ e0
    obtain ⟨zt', et', -⟩ := hW.alike.2.2 _ _ hzt
    exact ⟨hW.classLinks hl, ⟨z0', e0'⟩, ⟨zt', et'⟩, hW.noted hd hop (State.rightAt_cls hl)⟩
  induction pre with
  | nil =>
    intro S hW hc _
    obtain ⟨q1, q2, q3, q4⟩ := link S x.catchType kx hW hlx
    refine ⟨_, q4, fun Q E d acts => ?_⟩
    rw [List.nil_append, tc_row hx h0 q1 hc hobj q2 q3 (b := true) (by rw [hW.alike.assignable]; exact hfit)]
    exact Iff.of_eq (if_pos rfl)
  | cons y ys ih =>
    intro S hW hc hp
    have hp' := fun z hz => hp z (List.mem_cons_of_mem _ hz)
    cases hcv : covers y f.pc with
    | false =>
      obtain ⟨v, hv, hq⟩ := ih S hW hc hp'
      exact ⟨v, hv, fun Q E d acts => by rw [List.cons_append, W.findHandler_go_skip hcv]; exact hq Q E d acts⟩
    | true =>
      rcases hp y List.mem_cons_self with h | ⟨hy0, k, hl, hno⟩
      · rw [hcv] at h; cases h
      · obtain ⟨q1, q2, q3, q4⟩ := link S y.catchType k hW hl
        obtain ⟨v, hv, hq⟩ := ih (S.setVm (S.vm.noted f.method.cls y.catchType (.cls k))) q4 hc hp'
        refine ⟨v, hv, fun Q E d acts => ?_⟩
        rw [List.cons_append, tc_row hcv hy0 q1 hc hobj q2 q3 (b := false) (by rw [hW.alike.assignable]; exact hno)]
        exact (Iff.of_eq (if_neg (by decide))).trans (hq Q E d acts)
end TcGo
section TcStand
variable {p : Program} {l : Launch} {e : Env} {R : Room} {s : State} {m : MethodId} {args : Array Value} {below : List Frame} {meth : Method} {c : Code} {T : State} {locs : List Loc} {cells slots : Nat}
theorem tc_through (X : Stand p l e R s m args below meth c T locs cells slots) (q : Addr) {g : JFrame} (hg : g.method = m) {cell : Cell} (hcell : T.heap[q]? = some cell) (hobj : cell.vm.isStatics = false) (hk0 : ∃ k, s.vm.classes[cell.cls]? = some k)
    (pre : List ExceptionTableEntry) (x : ExceptionTableEntry) (suf : List ExceptionTableEntry) (hsplit : c.exceptionTable.toList = pre ++ x :: suf)
    (hpass : ∀ y ∈ pre, covers y g.pc = false ∨ (y.catchType ≠ 0 ∧ ∃ k, s.vm.ClassLinks e.platform m.cls y.catchType k ∧ s.vm.assignable cell.cls k = false)) (hx : covers x g.pc = true) (h0 : x.catchType ≠ 0)
    {kx : ClassId} (hlx : s.vm.ClassLinks e.platform m.cls x.catchType kx) (hfit : s.vm.assignable cell.cls kx = true) :
    ∃ vm', Stand p l e R s m args below meth c (T.setVm vm') locs cells slots ∧ Steps p.tables e below ((T.setTop g).pushFrame (.throwing q)) ((T.setVm vm').setTop { g with pc := x.handlerPc, stack := [.ref q] }) := by
  subst hg
  have hh : ((T.setTop g).pushFrame (.throwing q)).heap[q]? = some cell := hcell
  obtain ⟨v, hv, hq⟩ := tc_search (e := e) (a := q) (f := g) (VmData.ne_statics_of hobj) hk0 x suf hx h0 hlx hfit pre ((T.setTop g).pushFrame (.throwing q)) X.warmed hh hpass
  refine ⟨v, X.noted hv, ?_⟩
  have hfind : ∀ (Q : Handler → Pre) (E : CtlPost) (d : Bool) (acts : List Action), wp (findHandler g q) Q E e d acts ((T.setTop g).pushFrame (.throwing q)) ↔ Q (.found x.handlerPc) d acts (((T.setTop g).pushFrame (.throwing q)).setVm v) := fun Q E d acts => by
    rw [W.findHandler_eq (s := (T.setTop g).pushFrame (.throwing q)) (f := g) (meth := meth) (code := c) X.method' X.code, hsplit]; exact hq Q E d acts
  have hstep : ∀ r : List Frame, (stepThrowing e ((T.setTop g).pushFrame (.throwing q)) q (.java g :: r)).Is ((((T.setTop g).pushFrame (.throwing q)).setVm v).setFrames (.java { g with pc := x.handlerPc, stack := [.ref q] } :: r)) [] := by
    intro r
    simp only [stepThrowing, searchFrame, vmDo]
    generalize hr : Sem.go _ e false [] ((T.setTop g).pushFrame (.throwing q)) = res
    obtain ⟨as, rfl, ha⟩ := Sem.eq_ok_of hr (a := Handler.found x.handlerPc) (s' := ((T.setTop g).pushFrame (.throwing q)).setVm v) (acts' := []) (by simp [hfind _ _ _ _])
    exact ⟨rfl, ha⟩
  obtain ⟨hgo, hw⟩ := X.here.throwing q
  refine Steps.head hgo hw ?_
  rw [stepThread_throwing (frames_entered X.here.top _), (hstep _).1]
  obtain ⟨g₀, hfr⟩ := X.frames_eq
  have hfr' : (T.setVm v).frames = .java g₀ :: below := hfr
  rw [State.setTop_of_frames _ hfr', hfr, List.tail_cons, State.pushFrame, State.setTop_of_frames _ hfr]
  have e1 : ∀ (u : State) (F G : List Frame), ((u.setFrames F).setVm v).setFrames G = (u.setVm v).setFrames G := fun u F G => by
    rw [show (u.setFrames F).setVm v = (u.setVm v).setFrames F from rfl, State.setFrames_setFrames]
  rw [e1, e1]
  exact Steps.refl _
end TcStand
