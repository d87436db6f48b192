-- ===== exceptions: what a throw needs of the machine, and contracts of calls that throw =====
abbrev eIA : String := "java/lang/IllegalArgumentException"
abbrev eIS : String := "java/lang/IllegalStateException"
abbrev eIB : String := "java/lang/IndexOutOfBoundsException"
abbrev eNs : List String := ["java/lang/RuntimeException", "java/lang/Exception"]
def twL : List Cond := [.declares (Bundle.initS "java/lang/RuntimeException"), .declares (Bundle.initS "java/lang/Exception"), .declares (Bundle.initS Bundle.tN), .castable eIA eIA, .castable eIS eIS, .castable eIB eIB]
def twS : List (Nat × String) := [(59, "no such column"), (73, "no stone can be dropped there"), (84, "no stone has been dropped"), (100, "no such square"), (106, "no such player"), (132, "the game is over, or too many squares are empty"), (148, "that drop cannot be valued"), (159, "no following from here")]
def TwA (U : State) : Prop := (∀ w ∈ twL, va_Nw w U) ∧ ∀ q ∈ twS, ∃ sa, vk_R RX4 q.1 q.2 sa U
theorem TwA.warm {s U : State} (hW : s.WarmedH U.vm) (h : TwA s) : TwA U := by
  refine ⟨fun w hw => ?_, fun q hq => ?_⟩
  · have h1 := h.1 w hw
    simp only [twL, List.mem_cons, List.not_mem_nil, or_false] at hw
    rcases hw with rfl | rfl | rfl | rfl | rfl | rfl
    all_goals first | exact va_Nw.warmD hW h1 | exact va_Nw.warmC hW h1
  · obtain ⟨sa, hs⟩ := h.2 q hq
    exact ⟨sa, vk_R.warm hW hs⟩
theorem TwA.same {s U : State} (e : U.vm = s.vm) (h : TwA s) : TwA U := by
  refine ⟨fun w hw => ?_, fun q hq => ?_⟩
  · have h1 := h.1 w hw
    simp only [twL, List.mem_cons, List.not_mem_nil, or_false] at hw
    rcases hw with rfl | rfl | rfl | rfl | rfl | rfl
    all_goals exact va_Nw.same rfl e.symm h1
  · obtain ⟨sa, hs⟩ := h.2 q hq
    exact ⟨sa, vk_R.same e hs⟩
def TwZ (U : State) (H : Heap) : Prop := vx_Zq Bundle.tN "UNASSIGNED_STACK" Bundle.steD (fun _ => False) U H ∧ vx_Zq Bundle.tN "SUPPRESSED_SENTINEL" Bundle.listD (fun _ => False) U H
theorem TwZ.moved {u U : State} {H : Heap} (hvm : u.vm.Alike U.vm) (h : TwZ u H) : TwZ U H := ⟨vx_Zq.moved hvm h.1, vx_Zq.moved hvm h.2⟩
/-- the start of a call that throws -/
def XPc (D : va_G) (av : List Value) (wo : va_W) (tys : List (ClassId × FieldType)) : Array Value → State → Prop := fun v U => v = av.toArray ∧ va_P D vwCl wo U.heap ∧ va_K D vwCl tys U ∧ NWa U ∧ TwA U ∧ TwZ U U.heap
theorem XPc.blind {D : va_G} {av : List Value} {wo : va_W} {tys : List (ClassId × FieldType)} : FrameBlind (XPc D av wo tys) := by
  intro a U g mk q
  obtain ⟨q0, qP, qK, qN, qT, qZ⟩ := q
  exact ⟨q0, qP, va_K.moved (u := U) (U := U.calling g mk a) (Vm.Alike.refl U.vm) qK, NWa.same (s := U) (U := U.calling g mk a) rfl qN, TwA.same (s := U) (U := U.calling g mk a) rfl qT, TwZ.moved (u := U) (U := U.calling g mk a) (Vm.Alike.refl U.vm) qZ⟩
theorem XPc.at {D : va_G} {av : List Value} {wo : va_W} {tys : List (ClassId × FieldType)} {s : State} {H : Heap} (hP : va_P D vwCl wo H) (hK : va_K D vwCl tys s) (hN : NWa s) (hT : TwA s) (hZ : TwZ s H) : ∀ U : State, U.heap = H → s.WarmedH U.vm → XPc D av wo tys av.toArray U :=
  fun U hU hW => ⟨rfl, by rw [hU]; exact hP, va_K.moved hW.alike hK, hN.warm hW, hT.warm hW, by rw [hU]; exact TwZ.moved hW.alike hZ⟩
/-- the end: E was thrown, nothing that was there has changed -/
abbrev xX (E : String) : String → State → State → Prop := vx_X (fun _ : Unit => True) (fun E' _ _ => E' = E) (fun _ => False)
abbrev xNo : Array Value → State → Outcome → State → Prop := fun _ _ _ _ => False
abbrev x_rm (f n : Nat) : Room := { frames := f, locals := n, cells := 1, slots := 6 }
theorem xt_head {l : Launch} {y : MethodName} {ws ws' : List Cond} {rm : Room} {D : va_G} {av : List Value} {wo : va_W} {tys : List (ClassId × FieldType)} {E : String} {cc : ByteArray} {maxL : Nat} {ret : Option FieldType} (hy : plainName y.cls = true) (hw : ws = Cond.code y cc maxL ret :: ws') (hn : (lg_sl av).length ≤ maxL)
    (body : ∀ (p : Program) (e : Env) (s : State) (m : MethodId) (below : List Frame) (meth : Method) (c : Code) (ls : Array Slot), p.tables.exec = Jvm.exec → c.code = cc → meth.sig.returnType = ret → meth.locks = false → (∀ w ∈ ws, w.before av.toArray s = true) → s.vm.findClass y.cls = some m.cls → c.maxLocals = maxL → va_P D vwCl wo s.heap → va_K D vwCl tys s → NWa s → TwA s → TwZ s s.heap → (∀ x ∈ c.exceptionTable.toList, False) → lv_has ls maxL (lv_args 0 av) →
      W p l e rm s m av.toArray below meth c s.heap [] 0 0 (vx_MQ below xNo (xX E) av.toArray s 1 6 (fun _ => False)) (F0 m 0 ls [])) : vx_Met l y ws rm (XPc D av wo tys) xNo (xX E) 1 6 (fun _ => False) := by
  refine vx_ofW (cc := cc) (maxL := maxL) (ret := ret) hy hw ?_
  intro p e s m args below meth c s₁ B hml ht hv
  obtain ⟨rfl, hP, hK, hN, hT, hZ⟩ := hv
  rw [lg_entry_eq]
  exact body p e s m below meth c _ B.exec B.bytes B.returns B.notSynchronized (atoms_spec (ws := ws) B.pre) (findClass_of_methodNamed B.named) hml hP hK hN hT hZ ht (lv_entry av hn)
section RowsX
variable {p : Program} {l : Launch} {e : Env} {R : Room} {s : State} {m : MethodId} {args : Array Value} {below : List Frame} {meth : Method} {c : Code} {pc : Nat} {ls : Array Slot} {cc : ByteArray}
theorem xt_throw (hx : p.tables.exec = Jvm.exec) (hb : c.code = cc) (hl : l.stackTraces = false) (hown : s.vm.findClass RX4 = some m.cls) {E text : String} {ik is ic : Nat} (hE : Bundle.fit E = true) (hk : (Cond.classLink RX4 ik E).before args s = true) (hini : (Cond.initialized E).before args s = true) (hT : TwA s) (hZ : TwZ s s.heap) (hs : (is, text) ∈ twS)
    (hat1 : ∀ w ∈ (vx_atS RX4 ic E eNs).filter goodWord, w.before args s = true) (hat2 : ∀ w ∈ (vx_atS RX4 ic E eNs).filter (fun w => !goodWord w), w ∈ twL) (hgood : ∀ w ∈ Cond.classLink RX4 ik E :: Cond.initialized E :: vx_atS RX4 ic E eNs, vx_ot w = true)
    (hsize : ls.size = c.maxLocals) (d0 : decode cc pc = .ok (.new ik, 3)) (d3 : decode cc (pc + 3) = .ok (.dup, 1)) (d4 : decode cc (pc + 4) = .ok (.ldc is, 2)) (d6 : decode cc (pc + 6) = .ok (.invokespecial ic, 3)) (d9 : decode cc (pc + 9) = .ok (.athrow, 1))
    (hout : ∀ x ∈ c.exceptionTable.toList, False) (hRf : 5 < R.frames) (hRl : 82 ≤ R.locals) (hRc : 1 ≤ R.cells) (hRs : 6 ≤ R.slots) (hlocks : meth.locks = false) :
    W p l e R s m args below meth c s.heap [] 0 0 (vx_MQ below xNo (xX E) args s 1 6 (fun _ => False)) (F0 m pc ls []) := by
  obtain ⟨sa, hstr⟩ := hT.2 _ hs
  refine vx_throwS (A := fun _ => False) (names := eNs) (text := text) (sa := sa) hx hb hl hown hE (by decide) hk hini hstr (vx_hat hat1 hat2 (fun w hw => va_Nw.use ?_ (hT.1 w hw))) hgood hZ.1 hZ.2 va_S.rf hsize d0 d3 d4 d6 d9 (fun x h => (hout x h).elim) hRf hRl (by omega) (by omega) hlocks (fun t _ hz hk => ⟨(), trivial, rfl, hz, fun q hq _ => hk q hq⟩) (fun z h => nomatch h) (Nat.le_refl _) (Nat.le_refl _)
  simp only [twL, List.mem_cons, List.not_mem_nil, or_false] at hw
  rcases hw with rfl | rfl | rfl | rfl | rfl | rfl <;> rfl
end RowsX
theorem at2_61 : ∀ w ∈ (vx_atS RX4 61 eIA eNs).filter (fun w => !goodWord w), w ∈ twL := by decide +kernel
theorem at2_75 : ∀ w ∈ (vx_atS RX4 75 eIS eNs).filter (fun w => !goodWord w), w ∈ twL := by decide +kernel
theorem at2_102 : ∀ w ∈ (vx_atS RX4 102 eIB eNs).filter (fun w => !goodWord w), w ∈ twL := by decide +kernel
theorem gd_57 : ∀ w ∈ Cond.classLink RX4 57 eIA :: Cond.initialized eIA :: vx_atS RX4 61 eIA eNs, vx_ot w = true := by decide +kernel
theorem gd_71 : ∀ w ∈ Cond.classLink RX4 71 eIS :: Cond.initialized eIS :: vx_atS RX4 75 eIS eNs, vx_ot w = true := by decide +kernel
theorem gd_98 : ∀ w ∈ Cond.classLink RX4 98 eIB :: Cond.initialized eIB :: vx_atS RX4 102 eIB eNs, vx_ot w = true := by decide +kernel
theorem mem_r1 {α : Type} {a b : List α} {c w : α} (h : w ∈ b) : w ∈ c :: (a ++ b) := List.mem_cons_of_mem _ (List.mem_append_right _ h)
theorem mem_r2 {α : Type} {a b d : List α} {c w : α} (h : w ∈ b) : w ∈ c :: (a ++ b ++ d) := List.mem_cons_of_mem _ (List.mem_append_left _ (List.mem_append_right _ h))
